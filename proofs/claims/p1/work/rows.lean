section
-- ===== PART A: goes FIRST, ahead of the names: the tables' words, and 'selects' of the private methods out of them =====
/-- a private method of a class that the tables say can be made, by its rows of tables_1 -/
def lw_okq (q : MethodName × Nat) : Prop := (q.1.cls ≠ "java/lang/invoke/MethodHandle" ∧ q.1.cls ≠ "java/lang/invoke/VarHandle") ∧ Cond.instantiable q.1.cls q.2 ∈ tables_1 ∧ Cond.privateMethod q.1 ∈ tables_1 ∧ Cond.instanceMethod q.1 ∈ tables_1
theorem lw_p0 : lw_okq (⟨"SwapPress$Reader", "next", "()V"⟩, 10) := ⟨⟨by decide +kernel, by decide +kernel⟩, List.mem_of_getElem? (i := 47) (by decide +kernel), List.mem_of_getElem? (i := 421) (by decide +kernel), List.mem_of_getElem? (i := 422) (by decide +kernel)⟩
theorem lw_p1 : lw_okq (⟨"SwapPress$Reader", "wordToken", "()I"⟩, 10) := ⟨⟨by decide +kernel, by decide +kernel⟩, List.mem_of_getElem? (i := 47) (by decide +kernel), List.mem_of_getElem? (i := 428) (by decide +kernel), List.mem_of_getElem? (i := 429) (by decide +kernel)⟩
theorem lw_p2 : lw_okq (⟨"SwapPress$Reader", "isWord", "(Ljava/lang/String;)Z"⟩, 10) := ⟨⟨by decide +kernel, by decide +kernel⟩, List.mem_of_getElem? (i := 47) (by decide +kernel), List.mem_of_getElem? (i := 433) (by decide +kernel), List.mem_of_getElem? (i := 434) (by decide +kernel)⟩
theorem lw_p3 : lw_okq (⟨"SwapPress$Reader", "readLine", "()V"⟩, 10) := ⟨⟨by decide +kernel, by decide +kernel⟩, List.mem_of_getElem? (i := 47) (by decide +kernel), List.mem_of_getElem? (i := 493) (by decide +kernel), List.mem_of_getElem? (i := 494) (by decide +kernel)⟩
theorem lw_p4 : lw_okq (⟨"SwapPress$Reader", "readParty", "()V"⟩, 10) := ⟨⟨by decide +kernel, by decide +kernel⟩, List.mem_of_getElem? (i := 47) (by decide +kernel), List.mem_of_getElem? (i := 497) (by decide +kernel), List.mem_of_getElem? (i := 498) (by decide +kernel)⟩
theorem lw_p5 : lw_okq (⟨"SwapPress$Reader", "fail", "(I)V"⟩, 10) := ⟨⟨by decide +kernel, by decide +kernel⟩, List.mem_of_getElem? (i := 47) (by decide +kernel), List.mem_of_getElem? (i := 501) (by decide +kernel), List.mem_of_getElem? (i := 502) (by decide +kernel)⟩
theorem lw_p6 : lw_okq (⟨"SwapPress$Reader", "checkNewName", "()V"⟩, 10) := ⟨⟨by decide +kernel, by decide +kernel⟩, List.mem_of_getElem? (i := 47) (by decide +kernel), List.mem_of_getElem? (i := 505) (by decide +kernel), List.mem_of_getElem? (i := 506) (by decide +kernel)⟩
theorem lw_p7 : lw_okq (⟨"SwapPress$Reader", "partyHere", "()I"⟩, 10) := ⟨⟨by decide +kernel, by decide +kernel⟩, List.mem_of_getElem? (i := 47) (by decide +kernel), List.mem_of_getElem? (i := 509) (by decide +kernel), List.mem_of_getElem? (i := 510) (by decide +kernel)⟩
theorem lw_p8 : lw_okq (⟨"SwapPress$Names", "same", "(I[BII)Z"⟩, 4) := ⟨⟨by decide +kernel, by decide +kernel⟩, List.mem_of_getElem? (i := 53) (by decide +kernel), List.mem_of_getElem? (i := 517) (by decide +kernel), List.mem_of_getElem? (i := 518) (by decide +kernel)⟩
theorem lw_p9 : lw_okq (⟨"SwapPress$Reader", "kindHere", "()I"⟩, 10) := ⟨⟨by decide +kernel, by decide +kernel⟩, List.mem_of_getElem? (i := 47) (by decide +kernel), List.mem_of_getElem? (i := 521) (by decide +kernel), List.mem_of_getElem? (i := 522) (by decide +kernel)⟩
theorem lw_p10 : lw_okq (⟨"SwapPress$Names", "put", "(I[BII)V"⟩, 4) := ⟨⟨by decide +kernel, by decide +kernel⟩, List.mem_of_getElem? (i := 53) (by decide +kernel), List.mem_of_getElem? (i := 529) (by decide +kernel), List.mem_of_getElem? (i := 530) (by decide +kernel)⟩
theorem lw_p11 : lw_okq (⟨"SwapPress$Reader", "readKind", "()V"⟩, 10) := ⟨⟨by decide +kernel, by decide +kernel⟩, List.mem_of_getElem? (i := 47) (by decide +kernel), List.mem_of_getElem? (i := 534) (by decide +kernel), List.mem_of_getElem? (i := 535) (by decide +kernel)⟩
theorem lw_p12 : lw_okq (⟨"SwapPress$Reader", "readTrade", "()V"⟩, 10) := ⟨⟨by decide +kernel, by decide +kernel⟩, List.mem_of_getElem? (i := 47) (by decide +kernel), List.mem_of_getElem? (i := 542) (by decide +kernel), List.mem_of_getElem? (i := 543) (by decide +kernel)⟩
theorem lw_p13 : lw_okq (⟨"SwapPress$Reader", "knownParty", "()I"⟩, 10) := ⟨⟨by decide +kernel, by decide +kernel⟩, List.mem_of_getElem? (i := 47) (by decide +kernel), List.mem_of_getElem? (i := 546) (by decide +kernel), List.mem_of_getElem? (i := 547) (by decide +kernel)⟩
theorem lw_p14 : lw_okq (⟨"SwapPress$Reader", "failIfSame", "(II)V"⟩, 10) := ⟨⟨by decide +kernel, by decide +kernel⟩, List.mem_of_getElem? (i := 47) (by decide +kernel), List.mem_of_getElem? (i := 550) (by decide +kernel), List.mem_of_getElem? (i := 551) (by decide +kernel)⟩
theorem lw_p15 : lw_okq (⟨"SwapPress$Reader", "numberWithin", "(II)I"⟩, 10) := ⟨⟨by decide +kernel, by decide +kernel⟩, List.mem_of_getElem? (i := 47) (by decide +kernel), List.mem_of_getElem? (i := 555) (by decide +kernel), List.mem_of_getElem? (i := 556) (by decide +kernel)⟩
def lw_privs_1 : List (MethodName × Nat) := [(⟨"SwapPress$Reader", "next", "()V"⟩, 10), (⟨"SwapPress$Reader", "wordToken", "()I"⟩, 10), (⟨"SwapPress$Reader", "isWord", "(Ljava/lang/String;)Z"⟩, 10), (⟨"SwapPress$Reader", "readLine", "()V"⟩, 10), (⟨"SwapPress$Reader", "readParty", "()V"⟩, 10), (⟨"SwapPress$Reader", "fail", "(I)V"⟩, 10), (⟨"SwapPress$Reader", "checkNewName", "()V"⟩, 10), (⟨"SwapPress$Reader", "partyHere", "()I"⟩, 10), (⟨"SwapPress$Names", "same", "(I[BII)Z"⟩, 4), (⟨"SwapPress$Reader", "kindHere", "()I"⟩, 10), (⟨"SwapPress$Names", "put", "(I[BII)V"⟩, 4), (⟨"SwapPress$Reader", "readKind", "()V"⟩, 10), (⟨"SwapPress$Reader", "readTrade", "()V"⟩, 10), (⟨"SwapPress$Reader", "knownParty", "()I"⟩, 10), (⟨"SwapPress$Reader", "failIfSame", "(II)V"⟩, 10), (⟨"SwapPress$Reader", "numberWithin", "(II)I"⟩, 10)]
theorem lw_r1 : ∀ q ∈ lw_privs_1, lw_okq q := List.forall_mem_cons.mpr ⟨lw_p0, List.forall_mem_cons.mpr ⟨lw_p1, List.forall_mem_cons.mpr ⟨lw_p2, List.forall_mem_cons.mpr ⟨lw_p3, List.forall_mem_cons.mpr ⟨lw_p4, List.forall_mem_cons.mpr ⟨lw_p5, List.forall_mem_cons.mpr ⟨lw_p6, List.forall_mem_cons.mpr ⟨lw_p7, List.forall_mem_cons.mpr ⟨lw_p8, List.forall_mem_cons.mpr ⟨lw_p9, List.forall_mem_cons.mpr ⟨lw_p10, List.forall_mem_cons.mpr ⟨lw_p11, List.forall_mem_cons.mpr ⟨lw_p12, List.forall_mem_cons.mpr ⟨lw_p13, List.forall_mem_cons.mpr ⟨lw_p14, List.forall_mem_cons.mpr ⟨lw_p15, fun _ h => absurd h List.not_mem_nil⟩⟩⟩⟩⟩⟩⟩⟩⟩⟩⟩⟩⟩⟩⟩⟩
theorem lw_p16 : lw_okq (⟨"SwapPress$Reader", "knownKind", "()I"⟩, 10) := ⟨⟨by decide +kernel, by decide +kernel⟩, List.mem_of_getElem? (i := 47) (by decide +kernel), List.mem_of_getElem? (i := 559) (by decide +kernel), List.mem_of_getElem? (i := 560) (by decide +kernel)⟩
theorem lw_p17 : lw_okq (⟨"SwapPress$Reader", "readKeep", "()V"⟩, 10) := ⟨⟨by decide +kernel, by decide +kernel⟩, List.mem_of_getElem? (i := 47) (by decide +kernel), List.mem_of_getElem? (i := 567) (by decide +kernel), List.mem_of_getElem? (i := 568) (by decide +kernel)⟩
theorem lw_p18 : lw_okq (⟨"SwapPress$Reader", "readCap", "()V"⟩, 10) := ⟨⟨by decide +kernel, by decide +kernel⟩, List.mem_of_getElem? (i := 47) (by decide +kernel), List.mem_of_getElem? (i := 571) (by decide +kernel), List.mem_of_getElem? (i := 572) (by decide +kernel)⟩
theorem lw_p19 : lw_okq (⟨"SwapPress$Reader", "readMode", "()V"⟩, 10) := ⟨⟨by decide +kernel, by decide +kernel⟩, List.mem_of_getElem? (i := 47) (by decide +kernel), List.mem_of_getElem? (i := 579) (by decide +kernel), List.mem_of_getElem? (i := 580) (by decide +kernel)⟩
theorem lw_p20 : lw_okq (⟨"SwapPress$Reader", "readSemicolon", "()V"⟩, 10) := ⟨⟨by decide +kernel, by decide +kernel⟩, List.mem_of_getElem? (i := 47) (by decide +kernel), List.mem_of_getElem? (i := 583) (by decide +kernel), List.mem_of_getElem? (i := 584) (by decide +kernel)⟩
theorem lw_p21 : lw_okq (⟨"SwapPress", "takeOver", "()V"⟩, 13) := ⟨⟨by decide +kernel, by decide +kernel⟩, List.mem_of_getElem? (i := 23) (by decide +kernel), List.mem_of_getElem? (i := 587) (by decide +kernel), List.mem_of_getElem? (i := 588) (by decide +kernel)⟩
theorem lw_p22 : lw_okq (⟨"SwapPress", "noCouple", "(II)Z"⟩, 13) := ⟨⟨by decide +kernel, by decide +kernel⟩, List.mem_of_getElem? (i := 23) (by decide +kernel), List.mem_of_getElem? (i := 599) (by decide +kernel), List.mem_of_getElem? (i := 600) (by decide +kernel)⟩
theorem lw_p23 : lw_okq (⟨"SwapPress", "noParty", "(I)Z"⟩, 13) := ⟨⟨by decide +kernel, by decide +kernel⟩, List.mem_of_getElem? (i := 23) (by decide +kernel), List.mem_of_getElem? (i := 603) (by decide +kernel), List.mem_of_getElem? (i := 604) (by decide +kernel)⟩
theorem lw_p24 : lw_okq (⟨"SwapPress", "noKind", "(I)Z"⟩, 13) := ⟨⟨by decide +kernel, by decide +kernel⟩, List.mem_of_getElem? (i := 23) (by decide +kernel), List.mem_of_getElem? (i := 607) (by decide +kernel), List.mem_of_getElem? (i := 608) (by decide +kernel)⟩
theorem lw_p25 : lw_okq (⟨"SwapPress", "rememberAct", "()V"⟩, 13) := ⟨⟨by decide +kernel, by decide +kernel⟩, List.mem_of_getElem? (i := 23) (by decide +kernel), List.mem_of_getElem? (i := 612) (by decide +kernel), List.mem_of_getElem? (i := 613) (by decide +kernel)⟩
theorem lw_p26 : lw_okq (⟨"SwapPress$Past", "forgetOldest", "()V"⟩, 2) := ⟨⟨by decide +kernel, by decide +kernel⟩, List.mem_of_getElem? (i := 175) (by decide +kernel), List.mem_of_getElem? (i := 620) (by decide +kernel), List.mem_of_getElem? (i := 621) (by decide +kernel)⟩
theorem lw_p27 : lw_okq (⟨"SwapPress$Book", "copyTrade", "(LSwapPress$Book;II)V"⟩, 8) := ⟨⟨by decide +kernel, by decide +kernel⟩, List.mem_of_getElem? (i := 79) (by decide +kernel), List.mem_of_getElem? (i := 628) (by decide +kernel), List.mem_of_getElem? (i := 629) (by decide +kernel)⟩
theorem lw_p28 : lw_okq (⟨"SwapPress", "noTrade", "(I)Z"⟩, 13) := ⟨⟨by decide +kernel, by decide +kernel⟩, List.mem_of_getElem? (i := 23) (by decide +kernel), List.mem_of_getElem? (i := 640) (by decide +kernel), List.mem_of_getElem? (i := 641) (by decide +kernel)⟩
theorem lw_p29 : lw_okq (⟨"SwapPress", "findRing", "(I)V"⟩, 13) := ⟨⟨by decide +kernel, by decide +kernel⟩, List.mem_of_getElem? (i := 23) (by decide +kernel), List.mem_of_getElem? (i := 666) (by decide +kernel), List.mem_of_getElem? (i := 667) (by decide +kernel)⟩
theorem lw_p30 : lw_okq (⟨"SwapPress", "gatherFlows", "(II)V"⟩, 13) := ⟨⟨by decide +kernel, by decide +kernel⟩, List.mem_of_getElem? (i := 23) (by decide +kernel), List.mem_of_getElem? (i := 670) (by decide +kernel), List.mem_of_getElem? (i := 671) (by decide +kernel)⟩
theorem lw_p31 : lw_okq (⟨"SwapPress$Rings", "measureSteps", "(LSwapPress$Flows;I)V"⟩, 6) := ⟨⟨by decide +kernel, by decide +kernel⟩, List.mem_of_getElem? (i := 211) (by decide +kernel), List.mem_of_getElem? (i := 686) (by decide +kernel), List.mem_of_getElem? (i := 687) (by decide +kernel)⟩
def lw_privs_2 : List (MethodName × Nat) := [(⟨"SwapPress$Reader", "knownKind", "()I"⟩, 10), (⟨"SwapPress$Reader", "readKeep", "()V"⟩, 10), (⟨"SwapPress$Reader", "readCap", "()V"⟩, 10), (⟨"SwapPress$Reader", "readMode", "()V"⟩, 10), (⟨"SwapPress$Reader", "readSemicolon", "()V"⟩, 10), (⟨"SwapPress", "takeOver", "()V"⟩, 13), (⟨"SwapPress", "noCouple", "(II)Z"⟩, 13), (⟨"SwapPress", "noParty", "(I)Z"⟩, 13), (⟨"SwapPress", "noKind", "(I)Z"⟩, 13), (⟨"SwapPress", "rememberAct", "()V"⟩, 13), (⟨"SwapPress$Past", "forgetOldest", "()V"⟩, 2), (⟨"SwapPress$Book", "copyTrade", "(LSwapPress$Book;II)V"⟩, 8), (⟨"SwapPress", "noTrade", "(I)Z"⟩, 13), (⟨"SwapPress", "findRing", "(I)V"⟩, 13), (⟨"SwapPress", "gatherFlows", "(II)V"⟩, 13), (⟨"SwapPress$Rings", "measureSteps", "(LSwapPress$Flows;I)V"⟩, 6)]
theorem lw_r2 : ∀ q ∈ lw_privs_2, lw_okq q := List.forall_mem_cons.mpr ⟨lw_p16, List.forall_mem_cons.mpr ⟨lw_p17, List.forall_mem_cons.mpr ⟨lw_p18, List.forall_mem_cons.mpr ⟨lw_p19, List.forall_mem_cons.mpr ⟨lw_p20, List.forall_mem_cons.mpr ⟨lw_p21, List.forall_mem_cons.mpr ⟨lw_p22, List.forall_mem_cons.mpr ⟨lw_p23, List.forall_mem_cons.mpr ⟨lw_p24, List.forall_mem_cons.mpr ⟨lw_p25, List.forall_mem_cons.mpr ⟨lw_p26, List.forall_mem_cons.mpr ⟨lw_p27, List.forall_mem_cons.mpr ⟨lw_p28, List.forall_mem_cons.mpr ⟨lw_p29, List.forall_mem_cons.mpr ⟨lw_p30, List.forall_mem_cons.mpr ⟨lw_p31, fun _ h => absurd h List.not_mem_nil⟩⟩⟩⟩⟩⟩⟩⟩⟩⟩⟩⟩⟩⟩⟩⟩
theorem lw_p32 : lw_okq (⟨"SwapPress$Rings", "lengthFrom", "(LSwapPress$Flows;I)I"⟩, 6) := ⟨⟨by decide +kernel, by decide +kernel⟩, List.mem_of_getElem? (i := 211) (by decide +kernel), List.mem_of_getElem? (i := 695) (by decide +kernel), List.mem_of_getElem? (i := 696) (by decide +kernel)⟩
theorem lw_p33 : lw_okq (⟨"SwapPress$Rings", "walk", "(LSwapPress$Flows;I)V"⟩, 6) := ⟨⟨by decide +kernel, by decide +kernel⟩, List.mem_of_getElem? (i := 211) (by decide +kernel), List.mem_of_getElem? (i := 699) (by decide +kernel), List.mem_of_getElem? (i := 700) (by decide +kernel)⟩
theorem lw_p34 : lw_okq (⟨"SwapPress$Rings", "nextOf", "(LSwapPress$Flows;III)I"⟩, 6) := ⟨⟨by decide +kernel, by decide +kernel⟩, List.mem_of_getElem? (i := 211) (by decide +kernel), List.mem_of_getElem? (i := 703) (by decide +kernel), List.mem_of_getElem? (i := 704) (by decide +kernel)⟩
theorem lw_p35 : lw_okq (⟨"SwapPress", "solveKind", "(I)V"⟩, 13) := ⟨⟨by decide +kernel, by decide +kernel⟩, List.mem_of_getElem? (i := 23) (by decide +kernel), List.mem_of_getElem? (i := 730) (by decide +kernel), List.mem_of_getElem? (i := 731) (by decide +kernel)⟩
theorem lw_p36 : lw_okq (⟨"SwapPress$Solver", "open", "(IIJ)V"⟩, 13) := ⟨⟨by decide +kernel, by decide +kernel⟩, List.mem_of_getElem? (i := 258) (by decide +kernel), List.mem_of_getElem? (i := 785) (by decide +kernel), List.mem_of_getElem? (i := 786) (by decide +kernel)⟩
theorem lw_p37 : lw_okq (⟨"SwapPress$Solver", "ship", "(Z)V"⟩, 13) := ⟨⟨by decide +kernel, by decide +kernel⟩, List.mem_of_getElem? (i := 258) (by decide +kernel), List.mem_of_getElem? (i := 789) (by decide +kernel), List.mem_of_getElem? (i := 790) (by decide +kernel)⟩
theorem lw_p38 : lw_okq (⟨"SwapPress$Solver", "search", "()I"⟩, 13) := ⟨⟨by decide +kernel, by decide +kernel⟩, List.mem_of_getElem? (i := 258) (by decide +kernel), List.mem_of_getElem? (i := 794) (by decide +kernel), List.mem_of_getElem? (i := 795) (by decide +kernel)⟩
theorem lw_p39 : lw_okq (⟨"SwapPress$Solver", "price", "(II)I"⟩, 13) := ⟨⟨by decide +kernel, by decide +kernel⟩, List.mem_of_getElem? (i := 258) (by decide +kernel), List.mem_of_getElem? (i := 798) (by decide +kernel), List.mem_of_getElem? (i := 799) (by decide +kernel)⟩
theorem lw_p40 : lw_okq (⟨"SwapPress$Solver", "carry", "(I)V"⟩, 13) := ⟨⟨by decide +kernel, by decide +kernel⟩, List.mem_of_getElem? (i := 258) (by decide +kernel), List.mem_of_getElem? (i := 802) (by decide +kernel), List.mem_of_getElem? (i := 803) (by decide +kernel)⟩
theorem lw_p41 : lw_okq (⟨"SwapPress$Solver", "lift", "()Z"⟩, 13) := ⟨⟨by decide +kernel, by decide +kernel⟩, List.mem_of_getElem? (i := 258) (by decide +kernel), List.mem_of_getElem? (i := 806) (by decide +kernel), List.mem_of_getElem? (i := 807) (by decide +kernel)⟩
theorem lw_p42 : lw_okq (⟨"SwapPress$Solver", "nothingLeft", "()Z"⟩, 13) := ⟨⟨by decide +kernel, by decide +kernel⟩, List.mem_of_getElem? (i := 258) (by decide +kernel), List.mem_of_getElem? (i := 810) (by decide +kernel), List.mem_of_getElem? (i := 811) (by decide +kernel)⟩
theorem lw_p43 : lw_okq (⟨"SwapPress$Solver", "numbersTogether", "()J"⟩, 13) := ⟨⟨by decide +kernel, by decide +kernel⟩, List.mem_of_getElem? (i := 258) (by decide +kernel), List.mem_of_getElem? (i := 814) (by decide +kernel), List.mem_of_getElem? (i := 815) (by decide +kernel)⟩
theorem lw_p44 : lw_okq (⟨"SwapPress$Solver", "shutFarthest", "(IIZ)J"⟩, 13) := ⟨⟨by decide +kernel, by decide +kernel⟩, List.mem_of_getElem? (i := 258) (by decide +kernel), List.mem_of_getElem? (i := 822) (by decide +kernel), List.mem_of_getElem? (i := 823) (by decide +kernel)⟩
theorem lw_p45 : lw_okq (⟨"SwapPress$Solver", "move", "(IIJ)J"⟩, 13) := ⟨⟨by decide +kernel, by decide +kernel⟩, List.mem_of_getElem? (i := 258) (by decide +kernel), List.mem_of_getElem? (i := 826) (by decide +kernel), List.mem_of_getElem? (i := 827) (by decide +kernel)⟩
theorem lw_p46 : lw_okq (⟨"SwapPress$Row", "measure", "(LSwapPress$Flows;)V"⟩, 3) := ⟨⟨by decide +kernel, by decide +kernel⟩, List.mem_of_getElem? (i := 240) (by decide +kernel), List.mem_of_getElem? (i := 947) (by decide +kernel), List.mem_of_getElem? (i := 948) (by decide +kernel)⟩
theorem lw_p47 : lw_okq (⟨"SwapPress$Row", "nextOf", "(LSwapPress$Flows;I)I"⟩, 3) := ⟨⟨by decide +kernel, by decide +kernel⟩, List.mem_of_getElem? (i := 240) (by decide +kernel), List.mem_of_getElem? (i := 956) (by decide +kernel), List.mem_of_getElem? (i := 957) (by decide +kernel)⟩
def lw_privs_3 : List (MethodName × Nat) := [(⟨"SwapPress$Rings", "lengthFrom", "(LSwapPress$Flows;I)I"⟩, 6), (⟨"SwapPress$Rings", "walk", "(LSwapPress$Flows;I)V"⟩, 6), (⟨"SwapPress$Rings", "nextOf", "(LSwapPress$Flows;III)I"⟩, 6), (⟨"SwapPress", "solveKind", "(I)V"⟩, 13), (⟨"SwapPress$Solver", "open", "(IIJ)V"⟩, 13), (⟨"SwapPress$Solver", "ship", "(Z)V"⟩, 13), (⟨"SwapPress$Solver", "search", "()I"⟩, 13), (⟨"SwapPress$Solver", "price", "(II)I"⟩, 13), (⟨"SwapPress$Solver", "carry", "(I)V"⟩, 13), (⟨"SwapPress$Solver", "lift", "()Z"⟩, 13), (⟨"SwapPress$Solver", "nothingLeft", "()Z"⟩, 13), (⟨"SwapPress$Solver", "numbersTogether", "()J"⟩, 13), (⟨"SwapPress$Solver", "shutFarthest", "(IIZ)J"⟩, 13), (⟨"SwapPress$Solver", "move", "(IIJ)J"⟩, 13), (⟨"SwapPress$Row", "measure", "(LSwapPress$Flows;)V"⟩, 3), (⟨"SwapPress$Row", "nextOf", "(LSwapPress$Flows;I)I"⟩, 3)]
theorem lw_r3 : ∀ q ∈ lw_privs_3, lw_okq q := List.forall_mem_cons.mpr ⟨lw_p32, List.forall_mem_cons.mpr ⟨lw_p33, List.forall_mem_cons.mpr ⟨lw_p34, List.forall_mem_cons.mpr ⟨lw_p35, List.forall_mem_cons.mpr ⟨lw_p36, List.forall_mem_cons.mpr ⟨lw_p37, List.forall_mem_cons.mpr ⟨lw_p38, List.forall_mem_cons.mpr ⟨lw_p39, List.forall_mem_cons.mpr ⟨lw_p40, List.forall_mem_cons.mpr ⟨lw_p41, List.forall_mem_cons.mpr ⟨lw_p42, List.forall_mem_cons.mpr ⟨lw_p43, List.forall_mem_cons.mpr ⟨lw_p44, List.forall_mem_cons.mpr ⟨lw_p45, List.forall_mem_cons.mpr ⟨lw_p46, List.forall_mem_cons.mpr ⟨lw_p47, fun _ h => absurd h List.not_mem_nil⟩⟩⟩⟩⟩⟩⟩⟩⟩⟩⟩⟩⟩⟩⟩⟩
theorem lw_p48 : lw_okq (⟨"SwapPress", "prepareTrial", "(II)V"⟩, 13) := ⟨⟨by decide +kernel, by decide +kernel⟩, List.mem_of_getElem? (i := 23) (by decide +kernel), List.mem_of_getElem? (i := 984) (by decide +kernel), List.mem_of_getElem? (i := 985) (by decide +kernel)⟩
theorem lw_p49 : lw_okq (⟨"SwapPress", "reliefOf", "(I)J"⟩, 13) := ⟨⟨by decide +kernel, by decide +kernel⟩, List.mem_of_getElem? (i := 23) (by decide +kernel), List.mem_of_getElem? (i := 998) (by decide +kernel), List.mem_of_getElem? (i := 999) (by decide +kernel)⟩
theorem lw_p50 : lw_okq (⟨"SwapPress$Groups", "measure", "(I)V"⟩, 5) := ⟨⟨by decide +kernel, by decide +kernel⟩, List.mem_of_getElem? (i := 308) (by decide +kernel), List.mem_of_getElem? (i := 1032) (by decide +kernel), List.mem_of_getElem? (i := 1033) (by decide +kernel)⟩
theorem lw_p51 : lw_okq (⟨"SwapPress$Page", "putName", "(LSwapPress$Names;I)V"⟩, 3) := ⟨⟨by decide +kernel, by decide +kernel⟩, List.mem_of_getElem? (i := 332) (by decide +kernel), List.mem_of_getElem? (i := 1050) (by decide +kernel), List.mem_of_getElem? (i := 1051) (by decide +kernel)⟩
theorem lw_p52 : lw_okq (⟨"SwapPress$Page", "put", "(I)V"⟩, 3) := ⟨⟨by decide +kernel, by decide +kernel⟩, List.mem_of_getElem? (i := 332) (by decide +kernel), List.mem_of_getElem? (i := 1054) (by decide +kernel), List.mem_of_getElem? (i := 1055) (by decide +kernel)⟩
theorem lw_p53 : lw_okq (⟨"SwapPress$Page", "putNumber", "(J)V"⟩, 3) := ⟨⟨by decide +kernel, by decide +kernel⟩, List.mem_of_getElem? (i := 332) (by decide +kernel), List.mem_of_getElem? (i := 1058) (by decide +kernel), List.mem_of_getElem? (i := 1059) (by decide +kernel)⟩
theorem lw_p54 : lw_okq (⟨"SwapPressModel", "plain", "()V"⟩, 32) := ⟨⟨by decide +kernel, by decide +kernel⟩, List.mem_of_getElem? (i := 1072) (by decide +kernel), List.mem_of_getElem? (i := 1078) (by decide +kernel), List.mem_of_getElem? (i := 1079) (by decide +kernel)⟩
theorem lw_p55 : lw_okq (⟨"SwapPressModel", "peek", "()I"⟩, 32) := ⟨⟨by decide +kernel, by decide +kernel⟩, List.mem_of_getElem? (i := 1072) (by decide +kernel), List.mem_of_getElem? (i := 1191) (by decide +kernel), List.mem_of_getElem? (i := 1192) (by decide +kernel)⟩
theorem lw_p56 : lw_okq (⟨"SwapPressModel", "lineRead", "()V"⟩, 32) := ⟨⟨by decide +kernel, by decide +kernel⟩, List.mem_of_getElem? (i := 1072) (by decide +kernel), List.mem_of_getElem? (i := 1195) (by decide +kernel), List.mem_of_getElem? (i := 1196) (by decide +kernel)⟩
theorem lw_p57 : lw_okq (⟨"SwapPressModel", "wordHere", "()I"⟩, 32) := ⟨⟨by decide +kernel, by decide +kernel⟩, List.mem_of_getElem? (i := 1072) (by decide +kernel), List.mem_of_getElem? (i := 1199) (by decide +kernel), List.mem_of_getElem? (i := 1200) (by decide +kernel)⟩
theorem lw_p58 : lw_okq (⟨"SwapPressModel", "lettersHere", "()I"⟩, 32) := ⟨⟨by decide +kernel, by decide +kernel⟩, List.mem_of_getElem? (i := 1072) (by decide +kernel), List.mem_of_getElem? (i := 1208) (by decide +kernel), List.mem_of_getElem? (i := 1209) (by decide +kernel)⟩
theorem lw_p59 : lw_okq (⟨"SwapPressModel", "fails", "(II)V"⟩, 32) := ⟨⟨by decide +kernel, by decide +kernel⟩, List.mem_of_getElem? (i := 1072) (by decide +kernel), List.mem_of_getElem? (i := 1215) (by decide +kernel), List.mem_of_getElem? (i := 1216) (by decide +kernel)⟩
theorem lw_p60 : lw_okq (⟨"SwapPressModel", "isFull", "(I)Z"⟩, 32) := ⟨⟨by decide +kernel, by decide +kernel⟩, List.mem_of_getElem? (i := 1072) (by decide +kernel), List.mem_of_getElem? (i := 1219) (by decide +kernel), List.mem_of_getElem? (i := 1220) (by decide +kernel)⟩
theorem lw_p61 : lw_okq (⟨"SwapPressModel", "behind", "(I)V"⟩, 32) := ⟨⟨by decide +kernel, by decide +kernel⟩, List.mem_of_getElem? (i := 1072) (by decide +kernel), List.mem_of_getElem? (i := 1223) (by decide +kernel), List.mem_of_getElem? (i := 1224) (by decide +kernel)⟩
theorem lw_p62 : lw_okq (⟨"SwapPressModel", "newName", "(I)V"⟩, 32) := ⟨⟨by decide +kernel, by decide +kernel⟩, List.mem_of_getElem? (i := 1072) (by decide +kernel), List.mem_of_getElem? (i := 1227) (by decide +kernel), List.mem_of_getElem? (i := 1228) (by decide +kernel)⟩
theorem lw_p63 : lw_okq (⟨"SwapPressModel", "nameRead", "()J"⟩, 32) := ⟨⟨by decide +kernel, by decide +kernel⟩, List.mem_of_getElem? (i := 1072) (by decide +kernel), List.mem_of_getElem? (i := 1231) (by decide +kernel), List.mem_of_getElem? (i := 1232) (by decide +kernel)⟩
def lw_privs_4 : List (MethodName × Nat) := [(⟨"SwapPress", "prepareTrial", "(II)V"⟩, 13), (⟨"SwapPress", "reliefOf", "(I)J"⟩, 13), (⟨"SwapPress$Groups", "measure", "(I)V"⟩, 5), (⟨"SwapPress$Page", "putName", "(LSwapPress$Names;I)V"⟩, 3), (⟨"SwapPress$Page", "put", "(I)V"⟩, 3), (⟨"SwapPress$Page", "putNumber", "(J)V"⟩, 3), (⟨"SwapPressModel", "plain", "()V"⟩, 32), (⟨"SwapPressModel", "peek", "()I"⟩, 32), (⟨"SwapPressModel", "lineRead", "()V"⟩, 32), (⟨"SwapPressModel", "wordHere", "()I"⟩, 32), (⟨"SwapPressModel", "lettersHere", "()I"⟩, 32), (⟨"SwapPressModel", "fails", "(II)V"⟩, 32), (⟨"SwapPressModel", "isFull", "(I)Z"⟩, 32), (⟨"SwapPressModel", "behind", "(I)V"⟩, 32), (⟨"SwapPressModel", "newName", "(I)V"⟩, 32), (⟨"SwapPressModel", "nameRead", "()J"⟩, 32)]
theorem lw_r4 : ∀ q ∈ lw_privs_4, lw_okq q := List.forall_mem_cons.mpr ⟨lw_p48, List.forall_mem_cons.mpr ⟨lw_p49, List.forall_mem_cons.mpr ⟨lw_p50, List.forall_mem_cons.mpr ⟨lw_p51, List.forall_mem_cons.mpr ⟨lw_p52, List.forall_mem_cons.mpr ⟨lw_p53, List.forall_mem_cons.mpr ⟨lw_p54, List.forall_mem_cons.mpr ⟨lw_p55, List.forall_mem_cons.mpr ⟨lw_p56, List.forall_mem_cons.mpr ⟨lw_p57, List.forall_mem_cons.mpr ⟨lw_p58, List.forall_mem_cons.mpr ⟨lw_p59, List.forall_mem_cons.mpr ⟨lw_p60, List.forall_mem_cons.mpr ⟨lw_p61, List.forall_mem_cons.mpr ⟨lw_p62, List.forall_mem_cons.mpr ⟨lw_p63, fun _ h => absurd h List.not_mem_nil⟩⟩⟩⟩⟩⟩⟩⟩⟩⟩⟩⟩⟩⟩⟩⟩
theorem lw_p64 : lw_okq (⟨"SwapPressModel", "find", "(JII)I"⟩, 32) := ⟨⟨by decide +kernel, by decide +kernel⟩, List.mem_of_getElem? (i := 1072) (by decide +kernel), List.mem_of_getElem? (i := 1235) (by decide +kernel), List.mem_of_getElem? (i := 1236) (by decide +kernel)⟩
theorem lw_p65 : lw_okq (⟨"SwapPressModel", "numeral", "(II)I"⟩, 32) := ⟨⟨by decide +kernel, by decide +kernel⟩, List.mem_of_getElem? (i := 1072) (by decide +kernel), List.mem_of_getElem? (i := 1239) (by decide +kernel), List.mem_of_getElem? (i := 1240) (by decide +kernel)⟩
theorem lw_p66 : lw_okq (⟨"SwapPressModel", "tradeAt", "(II)I"⟩, 32) := ⟨⟨by decide +kernel, by decide +kernel⟩, List.mem_of_getElem? (i := 1072) (by decide +kernel), List.mem_of_getElem? (i := 1248) (by decide +kernel), List.mem_of_getElem? (i := 1249) (by decide +kernel)⟩
theorem lw_p67 : lw_okq (⟨"SwapPressModel", "twoRead", "(I)V"⟩, 32) := ⟨⟨by decide +kernel, by decide +kernel⟩, List.mem_of_getElem? (i := 1072) (by decide +kernel), List.mem_of_getElem? (i := 1252) (by decide +kernel), List.mem_of_getElem? (i := 1253) (by decide +kernel)⟩
theorem lw_p68 : lw_okq (⟨"SwapPressModel", "partyRead", "()I"⟩, 32) := ⟨⟨by decide +kernel, by decide +kernel⟩, List.mem_of_getElem? (i := 1072) (by decide +kernel), List.mem_of_getElem? (i := 1256) (by decide +kernel), List.mem_of_getElem? (i := 1257) (by decide +kernel)⟩
theorem lw_p69 : lw_okq (⟨"SwapPressModel", "otherRead", "(I)I"⟩, 32) := ⟨⟨by decide +kernel, by decide +kernel⟩, List.mem_of_getElem? (i := 1072) (by decide +kernel), List.mem_of_getElem? (i := 1260) (by decide +kernel), List.mem_of_getElem? (i := 1261) (by decide +kernel)⟩
theorem lw_p70 : lw_okq (⟨"SwapPressModel", "kindRead", "()I"⟩, 32) := ⟨⟨by decide +kernel, by decide +kernel⟩, List.mem_of_getElem? (i := 1072) (by decide +kernel), List.mem_of_getElem? (i := 1265) (by decide +kernel), List.mem_of_getElem? (i := 1266) (by decide +kernel)⟩
theorem lw_p71 : lw_okq (⟨"SwapPressModel", "adds", "(IIII)V"⟩, 32) := ⟨⟨by decide +kernel, by decide +kernel⟩, List.mem_of_getElem? (i := 1072) (by decide +kernel), List.mem_of_getElem? (i := 1269) (by decide +kernel), List.mem_of_getElem? (i := 1270) (by decide +kernel)⟩
theorem lw_p72 : lw_okq (⟨"SwapPressModel", "areTwo", "(II)Z"⟩, 32) := ⟨⟨by decide +kernel, by decide +kernel⟩, List.mem_of_getElem? (i := 1072) (by decide +kernel), List.mem_of_getElem? (i := 1281) (by decide +kernel), List.mem_of_getElem? (i := 1282) (by decide +kernel)⟩
theorem lw_p73 : lw_okq (⟨"SwapPressModel", "isParty", "(I)Z"⟩, 32) := ⟨⟨by decide +kernel, by decide +kernel⟩, List.mem_of_getElem? (i := 1072) (by decide +kernel), List.mem_of_getElem? (i := 1285) (by decide +kernel), List.mem_of_getElem? (i := 1286) (by decide +kernel)⟩
theorem lw_p74 : lw_okq (⟨"SwapPressModel", "isKind", "(I)Z"⟩, 32) := ⟨⟨by decide +kernel, by decide +kernel⟩, List.mem_of_getElem? (i := 1072) (by decide +kernel), List.mem_of_getElem? (i := 1289) (by decide +kernel), List.mem_of_getElem? (i := 1290) (by decide +kernel)⟩
theorem lw_p75 : lw_okq (⟨"SwapPressModel", "remembers", "()V"⟩, 32) := ⟨⟨by decide +kernel, by decide +kernel⟩, List.mem_of_getElem? (i := 1072) (by decide +kernel), List.mem_of_getElem? (i := 1294) (by decide +kernel), List.mem_of_getElem? (i := 1295) (by decide +kernel)⟩
theorem lw_p76 : lw_okq (⟨"SwapPressModel", "isTrade", "(I)Z"⟩, 32) := ⟨⟨by decide +kernel, by decide +kernel⟩, List.mem_of_getElem? (i := 1072) (by decide +kernel), List.mem_of_getElem? (i := 1302) (by decide +kernel), List.mem_of_getElem? (i := 1303) (by decide +kernel)⟩
theorem lw_p77 : lw_okq (⟨"SwapPressModel", "goes", "(I)V"⟩, 32) := ⟨⟨by decide +kernel, by decide +kernel⟩, List.mem_of_getElem? (i := 1072) (by decide +kernel), List.mem_of_getElem? (i := 1306) (by decide +kernel), List.mem_of_getElem? (i := 1307) (by decide +kernel)⟩
theorem lw_p78 : lw_okq (⟨"SwapPressModel", "laysFlows", "(II)V"⟩, 32) := ⟨⟨by decide +kernel, by decide +kernel⟩, List.mem_of_getElem? (i := 1072) (by decide +kernel), List.mem_of_getElem? (i := 1337) (by decide +kernel), List.mem_of_getElem? (i := 1338) (by decide +kernel)⟩
theorem lw_p79 : lw_okq (⟨"SwapPressModel", "isFree", "(II)Z"⟩, 32) := ⟨⟨by decide +kernel, by decide +kernel⟩, List.mem_of_getElem? (i := 1072) (by decide +kernel), List.mem_of_getElem? (i := 1341) (by decide +kernel), List.mem_of_getElem? (i := 1342) (by decide +kernel)⟩
def lw_privs_5 : List (MethodName × Nat) := [(⟨"SwapPressModel", "find", "(JII)I"⟩, 32), (⟨"SwapPressModel", "numeral", "(II)I"⟩, 32), (⟨"SwapPressModel", "tradeAt", "(II)I"⟩, 32), (⟨"SwapPressModel", "twoRead", "(I)V"⟩, 32), (⟨"SwapPressModel", "partyRead", "()I"⟩, 32), (⟨"SwapPressModel", "otherRead", "(I)I"⟩, 32), (⟨"SwapPressModel", "kindRead", "()I"⟩, 32), (⟨"SwapPressModel", "adds", "(IIII)V"⟩, 32), (⟨"SwapPressModel", "areTwo", "(II)Z"⟩, 32), (⟨"SwapPressModel", "isParty", "(I)Z"⟩, 32), (⟨"SwapPressModel", "isKind", "(I)Z"⟩, 32), (⟨"SwapPressModel", "remembers", "()V"⟩, 32), (⟨"SwapPressModel", "isTrade", "(I)Z"⟩, 32), (⟨"SwapPressModel", "goes", "(I)V"⟩, 32), (⟨"SwapPressModel", "laysFlows", "(II)V"⟩, 32), (⟨"SwapPressModel", "isFree", "(II)Z"⟩, 32)]
theorem lw_r5 : ∀ q ∈ lw_privs_5, lw_okq q := List.forall_mem_cons.mpr ⟨lw_p64, List.forall_mem_cons.mpr ⟨lw_p65, List.forall_mem_cons.mpr ⟨lw_p66, List.forall_mem_cons.mpr ⟨lw_p67, List.forall_mem_cons.mpr ⟨lw_p68, List.forall_mem_cons.mpr ⟨lw_p69, List.forall_mem_cons.mpr ⟨lw_p70, List.forall_mem_cons.mpr ⟨lw_p71, List.forall_mem_cons.mpr ⟨lw_p72, List.forall_mem_cons.mpr ⟨lw_p73, List.forall_mem_cons.mpr ⟨lw_p74, List.forall_mem_cons.mpr ⟨lw_p75, List.forall_mem_cons.mpr ⟨lw_p76, List.forall_mem_cons.mpr ⟨lw_p77, List.forall_mem_cons.mpr ⟨lw_p78, List.forall_mem_cons.mpr ⟨lw_p79, fun _ h => absurd h List.not_mem_nil⟩⟩⟩⟩⟩⟩⟩⟩⟩⟩⟩⟩⟩⟩⟩⟩
theorem lw_p80 : lw_okq (⟨"SwapPressModel", "isOf", "(II)Z"⟩, 32) := ⟨⟨by decide +kernel, by decide +kernel⟩, List.mem_of_getElem? (i := 1072) (by decide +kernel), List.mem_of_getElem? (i := 1345) (by decide +kernel), List.mem_of_getElem? (i := 1346) (by decide +kernel)⟩
theorem lw_p81 : lw_okq (⟨"SwapPressModel", "netBy", "(I)I"⟩, 32) := ⟨⟨by decide +kernel, by decide +kernel⟩, List.mem_of_getElem? (i := 1072) (by decide +kernel), List.mem_of_getElem? (i := 1357) (by decide +kernel), List.mem_of_getElem? (i := 1358) (by decide +kernel)⟩
theorem lw_p82 : lw_okq (⟨"SwapPressModel", "amounts", "(III)I"⟩, 32) := ⟨⟨by decide +kernel, by decide +kernel⟩, List.mem_of_getElem? (i := 1072) (by decide +kernel), List.mem_of_getElem? (i := 1361) (by decide +kernel), List.mem_of_getElem? (i := 1362) (by decide +kernel)⟩
theorem lw_p83 : lw_okq (⟨"SwapPressModel", "sumOfFlows", "()I"⟩, 32) := ⟨⟨by decide +kernel, by decide +kernel⟩, List.mem_of_getElem? (i := 1072) (by decide +kernel), List.mem_of_getElem? (i := 1375) (by decide +kernel), List.mem_of_getElem? (i := 1376) (by decide +kernel)⟩
theorem lw_p84 : lw_okq (⟨"SwapPressModel", "positive", "()I"⟩, 32) := ⟨⟨by decide +kernel, by decide +kernel⟩, List.mem_of_getElem? (i := 1072) (by decide +kernel), List.mem_of_getElem? (i := 1379) (by decide +kernel), List.mem_of_getElem? (i := 1380) (by decide +kernel)⟩
theorem lw_p85 : lw_okq (⟨"SwapPressModel", "boundOf", "(II)I"⟩, 32) := ⟨⟨by decide +kernel, by decide +kernel⟩, List.mem_of_getElem? (i := 1072) (by decide +kernel), List.mem_of_getElem? (i := 1387) (by decide +kernel), List.mem_of_getElem? (i := 1388) (by decide +kernel)⟩
theorem lw_p86 : lw_okq (⟨"SwapPressModel", "laysRing", "()I"⟩, 32) := ⟨⟨by decide +kernel, by decide +kernel⟩, List.mem_of_getElem? (i := 1072) (by decide +kernel), List.mem_of_getElem? (i := 1395) (by decide +kernel), List.mem_of_getElem? (i := 1396) (by decide +kernel)⟩
theorem lw_p87 : lw_okq (⟨"SwapPressModel", "goesRound", "(III)Z"⟩, 32) := ⟨⟨by decide +kernel, by decide +kernel⟩, List.mem_of_getElem? (i := 1072) (by decide +kernel), List.mem_of_getElem? (i := 1399) (by decide +kernel), List.mem_of_getElem? (i := 1400) (by decide +kernel)⟩
theorem lw_p88 : lw_okq (⟨"SwapPressModel", "loadOf", "()I"⟩, 32) := ⟨⟨by decide +kernel, by decide +kernel⟩, List.mem_of_getElem? (i := 1072) (by decide +kernel), List.mem_of_getElem? (i := 1407) (by decide +kernel), List.mem_of_getElem? (i := 1408) (by decide +kernel)⟩
theorem lw_p89 : lw_okq (⟨"SwapPressModel", "coupleOf", "(I)I"⟩, 32) := ⟨⟨by decide +kernel, by decide +kernel⟩, List.mem_of_getElem? (i := 1072) (by decide +kernel), List.mem_of_getElem? (i := 1411) (by decide +kernel), List.mem_of_getElem? (i := 1412) (by decide +kernel)⟩
theorem lw_p90 : lw_okq (⟨"SwapPressModel", "ringGoes", "()V"⟩, 32) := ⟨⟨by decide +kernel, by decide +kernel⟩, List.mem_of_getElem? (i := 1072) (by decide +kernel), List.mem_of_getElem? (i := 1419) (by decide +kernel), List.mem_of_getElem? (i := 1420) (by decide +kernel)⟩
theorem lw_p91 : lw_okq (⟨"SwapPressModel", "laysRows", "()I"⟩, 32) := ⟨⟨by decide +kernel, by decide +kernel⟩, List.mem_of_getElem? (i := 1072) (by decide +kernel), List.mem_of_getElem? (i := 1432) (by decide +kernel), List.mem_of_getElem? (i := 1433) (by decide +kernel)⟩
theorem lw_p92 : lw_okq (⟨"SwapPressModel", "nextOf", "(II)I"⟩, 32) := ⟨⟨by decide +kernel, by decide +kernel⟩, List.mem_of_getElem? (i := 1072) (by decide +kernel), List.mem_of_getElem? (i := 1436) (by decide +kernel), List.mem_of_getElem? (i := 1437) (by decide +kernel)⟩
theorem lw_p93 : lw_okq (⟨"SwapPressModel", "laysBounds", "(II)V"⟩, 32) := ⟨⟨by decide +kernel, by decide +kernel⟩, List.mem_of_getElem? (i := 1072) (by decide +kernel), List.mem_of_getElem? (i := 1448) (by decide +kernel), List.mem_of_getElem? (i := 1449) (by decide +kernel)⟩
theorem lw_p94 : lw_okq (⟨"SwapPressModel", "presses", "()Z"⟩, 32) := ⟨⟨by decide +kernel, by decide +kernel⟩, List.mem_of_getElem? (i := 1072) (by decide +kernel), List.mem_of_getElem? (i := 1456) (by decide +kernel), List.mem_of_getElem? (i := 1457) (by decide +kernel)⟩
theorem lw_p95 : lw_okq (⟨"SwapPressModel", "laysWays", "()V"⟩, 32) := ⟨⟨by decide +kernel, by decide +kernel⟩, List.mem_of_getElem? (i := 1072) (by decide +kernel), List.mem_of_getElem? (i := 1461) (by decide +kernel), List.mem_of_getElem? (i := 1462) (by decide +kernel)⟩
def lw_privs_6 : List (MethodName × Nat) := [(⟨"SwapPressModel", "isOf", "(II)Z"⟩, 32), (⟨"SwapPressModel", "netBy", "(I)I"⟩, 32), (⟨"SwapPressModel", "amounts", "(III)I"⟩, 32), (⟨"SwapPressModel", "sumOfFlows", "()I"⟩, 32), (⟨"SwapPressModel", "positive", "()I"⟩, 32), (⟨"SwapPressModel", "boundOf", "(II)I"⟩, 32), (⟨"SwapPressModel", "laysRing", "()I"⟩, 32), (⟨"SwapPressModel", "goesRound", "(III)Z"⟩, 32), (⟨"SwapPressModel", "loadOf", "()I"⟩, 32), (⟨"SwapPressModel", "coupleOf", "(I)I"⟩, 32), (⟨"SwapPressModel", "ringGoes", "()V"⟩, 32), (⟨"SwapPressModel", "laysRows", "()I"⟩, 32), (⟨"SwapPressModel", "nextOf", "(II)I"⟩, 32), (⟨"SwapPressModel", "laysBounds", "(II)V"⟩, 32), (⟨"SwapPressModel", "presses", "()Z"⟩, 32), (⟨"SwapPressModel", "laysWays", "()V"⟩, 32)]
theorem lw_r6 : ∀ q ∈ lw_privs_6, lw_okq q := List.forall_mem_cons.mpr ⟨lw_p80, List.forall_mem_cons.mpr ⟨lw_p81, List.forall_mem_cons.mpr ⟨lw_p82, List.forall_mem_cons.mpr ⟨lw_p83, List.forall_mem_cons.mpr ⟨lw_p84, List.forall_mem_cons.mpr ⟨lw_p85, List.forall_mem_cons.mpr ⟨lw_p86, List.forall_mem_cons.mpr ⟨lw_p87, List.forall_mem_cons.mpr ⟨lw_p88, List.forall_mem_cons.mpr ⟨lw_p89, List.forall_mem_cons.mpr ⟨lw_p90, List.forall_mem_cons.mpr ⟨lw_p91, List.forall_mem_cons.mpr ⟨lw_p92, List.forall_mem_cons.mpr ⟨lw_p93, List.forall_mem_cons.mpr ⟨lw_p94, List.forall_mem_cons.mpr ⟨lw_p95, fun _ h => absurd h List.not_mem_nil⟩⟩⟩⟩⟩⟩⟩⟩⟩⟩⟩⟩⟩⟩⟩⟩
theorem lw_p96 : lw_okq (⟨"SwapPressModel", "stepMay", "(II)I"⟩, 32) := ⟨⟨by decide +kernel, by decide +kernel⟩, List.mem_of_getElem? (i := 1072) (by decide +kernel), List.mem_of_getElem? (i := 1465) (by decide +kernel), List.mem_of_getElem? (i := 1466) (by decide +kernel)⟩
theorem lw_p97 : lw_okq (⟨"SwapPressModel", "firstOf", "(I)I"⟩, 32) := ⟨⟨by decide +kernel, by decide +kernel⟩, List.mem_of_getElem? (i := 1072) (by decide +kernel), List.mem_of_getElem? (i := 1472) (by decide +kernel), List.mem_of_getElem? (i := 1473) (by decide +kernel)⟩
theorem lw_p98 : lw_okq (⟨"SwapPressModel", "wayMay", "(II)I"⟩, 32) := ⟨⟨by decide +kernel, by decide +kernel⟩, List.mem_of_getElem? (i := 1072) (by decide +kernel), List.mem_of_getElem? (i := 1476) (by decide +kernel), List.mem_of_getElem? (i := 1477) (by decide +kernel)⟩
theorem lw_p99 : lw_okq (⟨"SwapPressModel", "sends", "(II)V"⟩, 32) := ⟨⟨by decide +kernel, by decide +kernel⟩, List.mem_of_getElem? (i := 1072) (by decide +kernel), List.mem_of_getElem? (i := 1480) (by decide +kernel), List.mem_of_getElem? (i := 1481) (by decide +kernel)⟩
theorem lw_p100 : lw_okq (⟨"SwapPressModel", "sumOf", "()I"⟩, 32) := ⟨⟨by decide +kernel, by decide +kernel⟩, List.mem_of_getElem? (i := 1072) (by decide +kernel), List.mem_of_getElem? (i := 1484) (by decide +kernel), List.mem_of_getElem? (i := 1485) (by decide +kernel)⟩
theorem lw_p101 : lw_okq (⟨"SwapPressModel", "pressesFirst", "(I)Z"⟩, 32) := ⟨⟨by decide +kernel, by decide +kernel⟩, List.mem_of_getElem? (i := 1072) (by decide +kernel), List.mem_of_getElem? (i := 1492) (by decide +kernel), List.mem_of_getElem? (i := 1493) (by decide +kernel)⟩
theorem lw_p102 : lw_okq (⟨"SwapPressModel", "turns", "(IIZ)V"⟩, 32) := ⟨⟨by decide +kernel, by decide +kernel⟩, List.mem_of_getElem? (i := 1072) (by decide +kernel), List.mem_of_getElem? (i := 1496) (by decide +kernel), List.mem_of_getElem? (i := 1497) (by decide +kernel)⟩
theorem lw_p103 : lw_okq (⟨"SwapPressModel", "shifts", "(IIII)I"⟩, 32) := ⟨⟨by decide +kernel, by decide +kernel⟩, List.mem_of_getElem? (i := 1072) (by decide +kernel), List.mem_of_getElem? (i := 1500) (by decide +kernel), List.mem_of_getElem? (i := 1501) (by decide +kernel)⟩
theorem lw_p104 : lw_okq (⟨"SwapPressModel", "couplesNow", "()I"⟩, 32) := ⟨⟨by decide +kernel, by decide +kernel⟩, List.mem_of_getElem? (i := 1072) (by decide +kernel), List.mem_of_getElem? (i := 1508) (by decide +kernel), List.mem_of_getElem? (i := 1509) (by decide +kernel)⟩
theorem lw_p105 : lw_okq (⟨"SwapPressModel", "reliefOf", "(I)I"⟩, 32) := ⟨⟨by decide +kernel, by decide +kernel⟩, List.mem_of_getElem? (i := 1072) (by decide +kernel), List.mem_of_getElem? (i := 1528) (by decide +kernel), List.mem_of_getElem? (i := 1529) (by decide +kernel)⟩
theorem lw_p106 : lw_okq (⟨"SwapPressModel", "sumBy", "(I)I"⟩, 32) := ⟨⟨by decide +kernel, by decide +kernel⟩, List.mem_of_getElem? (i := 1072) (by decide +kernel), List.mem_of_getElem? (i := 1556) (by decide +kernel), List.mem_of_getElem? (i := 1557) (by decide +kernel)⟩
theorem lw_p107 : lw_okq (⟨"SwapPressModel", "putsName", "(J)V"⟩, 32) := ⟨⟨by decide +kernel, by decide +kernel⟩, List.mem_of_getElem? (i := 1072) (by decide +kernel), List.mem_of_getElem? (i := 1568) (by decide +kernel), List.mem_of_getElem? (i := 1569) (by decide +kernel)⟩
theorem lw_p108 : lw_okq (⟨"SwapPressModel", "puts", "(I)V"⟩, 32) := ⟨⟨by decide +kernel, by decide +kernel⟩, List.mem_of_getElem? (i := 1072) (by decide +kernel), List.mem_of_getElem? (i := 1573) (by decide +kernel), List.mem_of_getElem? (i := 1574) (by decide +kernel)⟩
theorem lw_p109 : lw_okq (⟨"SwapPressModel", "putsNumber", "(I)V"⟩, 32) := ⟨⟨by decide +kernel, by decide +kernel⟩, List.mem_of_getElem? (i := 1072) (by decide +kernel), List.mem_of_getElem? (i := 1577) (by decide +kernel), List.mem_of_getElem? (i := 1578) (by decide +kernel)⟩
theorem lw_p110 : lw_okq (⟨"SwapPressModel", "keptMany", "()I"⟩, 32) := ⟨⟨by decide +kernel, by decide +kernel⟩, List.mem_of_getElem? (i := 1072) (by decide +kernel), List.mem_of_getElem? (i := 1585) (by decide +kernel), List.mem_of_getElem? (i := 1586) (by decide +kernel)⟩
def lw_privs_7 : List (MethodName × Nat) := [(⟨"SwapPressModel", "stepMay", "(II)I"⟩, 32), (⟨"SwapPressModel", "firstOf", "(I)I"⟩, 32), (⟨"SwapPressModel", "wayMay", "(II)I"⟩, 32), (⟨"SwapPressModel", "sends", "(II)V"⟩, 32), (⟨"SwapPressModel", "sumOf", "()I"⟩, 32), (⟨"SwapPressModel", "pressesFirst", "(I)Z"⟩, 32), (⟨"SwapPressModel", "turns", "(IIZ)V"⟩, 32), (⟨"SwapPressModel", "shifts", "(IIII)I"⟩, 32), (⟨"SwapPressModel", "couplesNow", "()I"⟩, 32), (⟨"SwapPressModel", "reliefOf", "(I)I"⟩, 32), (⟨"SwapPressModel", "sumBy", "(I)I"⟩, 32), (⟨"SwapPressModel", "putsName", "(J)V"⟩, 32), (⟨"SwapPressModel", "puts", "(I)V"⟩, 32), (⟨"SwapPressModel", "putsNumber", "(I)V"⟩, 32), (⟨"SwapPressModel", "keptMany", "()I"⟩, 32)]
theorem lw_r7 : ∀ q ∈ lw_privs_7, lw_okq q := List.forall_mem_cons.mpr ⟨lw_p96, List.forall_mem_cons.mpr ⟨lw_p97, List.forall_mem_cons.mpr ⟨lw_p98, List.forall_mem_cons.mpr ⟨lw_p99, List.forall_mem_cons.mpr ⟨lw_p100, List.forall_mem_cons.mpr ⟨lw_p101, List.forall_mem_cons.mpr ⟨lw_p102, List.forall_mem_cons.mpr ⟨lw_p103, List.forall_mem_cons.mpr ⟨lw_p104, List.forall_mem_cons.mpr ⟨lw_p105, List.forall_mem_cons.mpr ⟨lw_p106, List.forall_mem_cons.mpr ⟨lw_p107, List.forall_mem_cons.mpr ⟨lw_p108, List.forall_mem_cons.mpr ⟨lw_p109, List.forall_mem_cons.mpr ⟨lw_p110, fun _ h => absurd h List.not_mem_nil⟩⟩⟩⟩⟩⟩⟩⟩⟩⟩⟩⟩⟩⟩⟩
def lw_privs : List (MethodName × Nat) := lw_privs_1 ++ (lw_privs_2 ++ (lw_privs_3 ++ (lw_privs_4 ++ (lw_privs_5 ++ (lw_privs_6 ++ (lw_privs_7))))))
def lw_tbl : List Cond := k2_sels lw_privs ++ tables_1
theorem lw_privs_ok : ∀ q ∈ lw_privs, lw_okq q := by
  show ∀ q ∈ lw_privs_1 ++ (lw_privs_2 ++ (lw_privs_3 ++ (lw_privs_4 ++ (lw_privs_5 ++ (lw_privs_6 ++ (lw_privs_7)))))), lw_okq q
  exact List.forall_mem_append.mpr ⟨lw_r1, List.forall_mem_append.mpr ⟨lw_r2, List.forall_mem_append.mpr ⟨lw_r3, List.forall_mem_append.mpr ⟨lw_r4, List.forall_mem_append.mpr ⟨lw_r5, List.forall_mem_append.mpr ⟨lw_r6, lw_r7⟩⟩⟩⟩⟩⟩
end
section
def RJ7 : String := "java/util/Arrays"
def RX0 : String := "SwapPress$Book"
def RX1 : String := "SwapPress$Flows"
def RX2 : String := "SwapPress$Groups"
def RX3 : String := "SwapPress$Names"
def RX4 : String := "SwapPress$Page"
def RX5 : String := "SwapPress$Past"
def RX6 : String := "SwapPress$Reader"
def RX7 : String := "SwapPress$Rings"
def RX8 : String := "SwapPress$Row"
def RX9 : String := "SwapPress$Solver"
def RX10 : String := "SwapPress$Tape"
def RX11 : String := "SwapPress"
def RX12 : String := "SwapPressModel"
def TX0 : u_T := fun k => match k with
  | 0 => ("SwapPress$Book", "from", "[I", true)
  | 1 => ("SwapPress$Book", "to", "[I", true)
  | 2 => ("SwapPress$Book", "kind", "[I", true)
  | 3 => ("SwapPress$Book", "amount", "[J", true)
  | 4 => ("SwapPress$Book", "kept", "[Z", true)
  | 5 => ("SwapPress$Book", "caps", "[I", true)
  | 6 => ("SwapPress$Book", "size", "I", false)
  | _ => ("SwapPress$Book", "boundMode", "I", false)
def tyX0 : Nat → FieldType := fun k => match k with
  | 0 => .array .int
  | 1 => .array .int
  | 2 => .array .int
  | 3 => .array .long
  | 4 => .array .boolean
  | 5 => .array .int
  | 6 => .int
  | _ => .int
theorem nmX0 : ∀ a, a < 8 → ∀ b, b < 8 → a ≠ b → (TX0 a).2.1 ≠ (TX0 b).2.1 := by decide +kernel
theorem tyX0_ok : ∀ k, k < 8 → parseFieldDescriptor (TX0 k).2.2.1 = some (tyX0 k) := by decide +kernel
def TX1 : u_T := fun k => match k with
  | 0 => ("SwapPress$Flows", "cells", "[J", true)
  | _ => ("SwapPress$Flows", "parties", "I", false)
def tyX1 : Nat → FieldType := fun k => match k with
  | 0 => .array .long
  | _ => .int
theorem nmX1 : ∀ a, a < 2 → ∀ b, b < 2 → a ≠ b → (TX1 a).2.1 ≠ (TX1 b).2.1 := by decide +kernel
theorem tyX1_ok : ∀ k, k < 2 → parseFieldDescriptor (TX1 k).2.2.1 = some (tyX1 k) := by decide +kernel
def TX2 : u_T := fun k => match k with
  | 0 => ("SwapPress$Groups", "size", "I", false)
  | 1 => ("SwapPress$Groups", "most", "I", false)
  | 2 => ("SwapPress$Groups", "nets", "[J", true)
  | 3 => ("SwapPress$Groups", "sums", "[J", true)
  | _ => ("SwapPress$Groups", "best", "[I", true)
def tyX2 : Nat → FieldType := fun k => match k with
  | 0 => .int
  | 1 => .int
  | 2 => .array .long
  | 3 => .array .long
  | _ => .array .int
theorem nmX2 : ∀ a, a < 5 → ∀ b, b < 5 → a ≠ b → (TX2 a).2.1 ≠ (TX2 b).2.1 := by decide +kernel
theorem tyX2_ok : ∀ k, k < 5 → parseFieldDescriptor (TX2 k).2.2.1 = some (tyX2 k) := by decide +kernel
def TX3 : u_T := fun k => match k with
  | 0 => ("SwapPress$Names", "letters", "[B", true)
  | 1 => ("SwapPress$Names", "lengths", "[I", true)
  | 2 => ("SwapPress$Names", "parties", "I", false)
  | _ => ("SwapPress$Names", "kinds", "I", false)
def tyX3 : Nat → FieldType := fun k => match k with
  | 0 => .array .byte
  | 1 => .array .int
  | 2 => .int
  | _ => .int
theorem nmX3 : ∀ a, a < 4 → ∀ b, b < 4 → a ≠ b → (TX3 a).2.1 ≠ (TX3 b).2.1 := by decide +kernel
theorem tyX3_ok : ∀ k, k < 4 → parseFieldDescriptor (TX3 k).2.2.1 = some (tyX3 k) := by decide +kernel
def TX4 : u_T := fun k => match k with
  | 0 => ("SwapPress$Page", "bytes", "[B", true)
  | 1 => ("SwapPress$Page", "length", "I", false)
  | _ => ("SwapPress$Page", "digits", "[B", true)
def tyX4 : Nat → FieldType := fun k => match k with
  | 0 => .array .byte
  | 1 => .int
  | _ => .array .byte
theorem nmX4 : ∀ a, a < 3 → ∀ b, b < 3 → a ≠ b → (TX4 a).2.1 ≠ (TX4 b).2.1 := by decide +kernel
theorem tyX4_ok : ∀ k, k < 3 → parseFieldDescriptor (TX4 k).2.2.1 = some (tyX4 k) := by decide +kernel
def TX5 : u_T := fun k => match k with
  | 0 => ("SwapPress$Past", "books", "[LSwapPress$Book;", true)
  | _ => ("SwapPress$Past", "size", "I", false)
def tyX5 : Nat → FieldType := fun k => match k with
  | 0 => .array (.object "SwapPress$Book")
  | _ => .int
theorem nmX5 : ∀ a, a < 2 → ∀ b, b < 2 → a ≠ b → (TX5 a).2.1 ≠ (TX5 b).2.1 := by decide +kernel
theorem tyX5_ok : ∀ k, k < 2 → parseFieldDescriptor (TX5 k).2.2.1 = some (tyX5 k) := by decide +kernel
def TX6 : u_T := fun k => match k with
  | 0 => ("SwapPress$Reader", "fault", "I", false)
  | 1 => ("SwapPress$Reader", "place", "I", false)
  | 2 => ("SwapPress$Reader", "names", "LSwapPress$Names;", false)
  | 3 => ("SwapPress$Reader", "book", "LSwapPress$Book;", false)
  | 4 => ("SwapPress$Reader", "text", "[B", true)
  | 5 => ("SwapPress$Reader", "end", "I", false)
  | 6 => ("SwapPress$Reader", "modeTold", "Z", false)
  | 7 => ("SwapPress$Reader", "token", "I", false)
  | 8 => ("SwapPress$Reader", "tokenAt", "I", false)
  | _ => ("SwapPress$Reader", "tokenEnd", "I", false)
def tyX6 : Nat → FieldType := fun k => match k with
  | 0 => .int
  | 1 => .int
  | 2 => .object "SwapPress$Names"
  | 3 => .object "SwapPress$Book"
  | 4 => .array .byte
  | 5 => .int
  | 6 => .boolean
  | 7 => .int
  | 8 => .int
  | _ => .int
theorem nmX6 : ∀ a, a < 10 → ∀ b, b < 10 → a ≠ b → (TX6 a).2.1 ≠ (TX6 b).2.1 := by decide +kernel
theorem tyX6_ok : ∀ k, k < 10 → parseFieldDescriptor (TX6 k).2.2.1 = some (tyX6 k) := by decide +kernel
def TX7 : u_T := fun k => match k with
  | 0 => ("SwapPress$Rings", "party", "[I", true)
  | 1 => ("SwapPress$Rings", "size", "I", false)
  | 2 => ("SwapPress$Rings", "takenAmount", "J", false)
  | 3 => ("SwapPress$Rings", "takenRings", "I", false)
  | 4 => ("SwapPress$Rings", "stepsHome", "[I", true)
  | _ => ("SwapPress$Rings", "queue", "[I", true)
def tyX7 : Nat → FieldType := fun k => match k with
  | 0 => .array .int
  | 1 => .int
  | 2 => .long
  | 3 => .int
  | 4 => .array .int
  | _ => .array .int
theorem nmX7 : ∀ a, a < 6 → ∀ b, b < 6 → a ≠ b → (TX7 a).2.1 ≠ (TX7 b).2.1 := by decide +kernel
theorem tyX7_ok : ∀ k, k < 6 → parseFieldDescriptor (TX7 k).2.2.1 = some (tyX7 k) := by decide +kernel
def TX8 : u_T := fun k => match k with
  | 0 => ("SwapPress$Row", "party", "[I", true)
  | 1 => ("SwapPress$Row", "size", "I", false)
  | _ => ("SwapPress$Row", "longest", "[I", true)
def tyX8 : Nat → FieldType := fun k => match k with
  | 0 => .array .int
  | 1 => .int
  | _ => .array .int
theorem nmX8 : ∀ a, a < 3 → ∀ b, b < 3 → a ≠ b → (TX8 a).2.1 ≠ (TX8 b).2.1 := by decide +kernel
theorem tyX8_ok : ∀ k, k < 3 → parseFieldDescriptor (TX8 k).2.2.1 = some (tyX8 k) := by decide +kernel
def TX9 : u_T := fun k => match k with
  | 0 => ("SwapPress$Solver", "bounds", "[J", true)
  | 1 => ("SwapPress$Solver", "first", "[J", true)
  | 2 => ("SwapPress$Solver", "possible", "Z", false)
  | 3 => ("SwapPress$Solver", "sum", "J", false)
  | 4 => ("SwapPress$Solver", "throughBounds", "[J", true)
  | 5 => ("SwapPress$Solver", "nets", "[J", true)
  | 6 => ("SwapPress$Solver", "room", "[J", true)
  | 7 => ("SwapPress$Solver", "label", "[I", true)
  | 8 => ("SwapPress$Solver", "left", "[J", true)
  | 9 => ("SwapPress$Solver", "before", "[I", true)
  | 10 => ("SwapPress$Solver", "queue", "[I", true)
  | 11 => ("SwapPress$Solver", "parties", "I", false)
  | _ => ("SwapPress$Solver", "nodes", "I", false)
def tyX9 : Nat → FieldType := fun k => match k with
  | 0 => .array .long
  | 1 => .array .long
  | 2 => .boolean
  | 3 => .long
  | 4 => .array .long
  | 5 => .array .long
  | 6 => .array .long
  | 7 => .array .int
  | 8 => .array .long
  | 9 => .array .int
  | 10 => .array .int
  | 11 => .int
  | _ => .int
theorem nmX9 : ∀ a, a < 13 → ∀ b, b < 13 → a ≠ b → (TX9 a).2.1 ≠ (TX9 b).2.1 := by decide +kernel
theorem tyX9_ok : ∀ k, k < 13 → parseFieldDescriptor (TX9 k).2.2.1 = some (tyX9 k) := by decide +kernel
def TX10 : u_T := fun k => match k with
  | 0 => ("SwapPress$Tape", "bytes", "[B", true)
  | _ => ("SwapPress$Tape", "length", "I", false)
def tyX10 : Nat → FieldType := fun k => match k with
  | 0 => .array .byte
  | _ => .int
theorem nmX10 : ∀ a, a < 2 → ∀ b, b < 2 → a ≠ b → (TX10 a).2.1 ≠ (TX10 b).2.1 := by decide +kernel
theorem tyX10_ok : ∀ k, k < 2 → parseFieldDescriptor (TX10 k).2.2.1 = some (tyX10 k) := by decide +kernel
def TX11 : u_T := fun k => match k with
  | 0 => ("SwapPress", "tape", "LSwapPress$Tape;", true)
  | 1 => ("SwapPress", "reader", "LSwapPress$Reader;", true)
  | 2 => ("SwapPress", "past", "LSwapPress$Past;", true)
  | 3 => ("SwapPress", "flows", "LSwapPress$Flows;", true)
  | 4 => ("SwapPress", "rings", "LSwapPress$Rings;", true)
  | 5 => ("SwapPress", "row", "LSwapPress$Row;", true)
  | 6 => ("SwapPress", "solver", "LSwapPress$Solver;", true)
  | 7 => ("SwapPress", "trial", "LSwapPress$Solver;", true)
  | 8 => ("SwapPress", "groups", "LSwapPress$Groups;", true)
  | 9 => ("SwapPress", "page", "LSwapPress$Page;", true)
  | 10 => ("SwapPress", "names", "LSwapPress$Names;", false)
  | 11 => ("SwapPress", "book", "LSwapPress$Book;", false)
  | _ => ("SwapPress", "solvedKind", "I", false)
def tyX11 : Nat → FieldType := fun k => match k with
  | 0 => .object "SwapPress$Tape"
  | 1 => .object "SwapPress$Reader"
  | 2 => .object "SwapPress$Past"
  | 3 => .object "SwapPress$Flows"
  | 4 => .object "SwapPress$Rings"
  | 5 => .object "SwapPress$Row"
  | 6 => .object "SwapPress$Solver"
  | 7 => .object "SwapPress$Solver"
  | 8 => .object "SwapPress$Groups"
  | 9 => .object "SwapPress$Page"
  | 10 => .object "SwapPress$Names"
  | 11 => .object "SwapPress$Book"
  | _ => .int
theorem nmX11 : ∀ a, a < 13 → ∀ b, b < 13 → a ≠ b → (TX11 a).2.1 ≠ (TX11 b).2.1 := by decide +kernel
theorem tyX11_ok : ∀ k, k < 13 → parseFieldDescriptor (TX11 k).2.2.1 = some (tyX11 k) := by decide +kernel
def TX12 : u_T := fun k => match k with
  | 0 => ("SwapPressModel", "s", "[I", true)
  | 1 => ("SwapPressModel", "saved", "[I", true)
  | 2 => ("SwapPressModel", "acts", "[I", true)
  | 3 => ("SwapPressModel", "names", "[J", true)
  | 4 => ("SwapPressModel", "savedNames", "[J", true)
  | 5 => ("SwapPressModel", "parties", "I", false)
  | 6 => ("SwapPressModel", "kinds", "I", false)
  | 7 => ("SwapPressModel", "actMany", "I", false)
  | 8 => ("SwapPressModel", "thrown", "I", false)
  | 9 => ("SwapPressModel", "tape", "[B", true)
  | 10 => ("SwapPressModel", "taped", "I", false)
  | 11 => ("SwapPressModel", "size", "I", false)
  | 12 => ("SwapPressModel", "spot", "I", false)
  | 13 => ("SwapPressModel", "wrong", "I", false)
  | 14 => ("SwapPressModel", "wrongAt", "I", false)
  | 15 => ("SwapPressModel", "seen", "I", false)
  | 16 => ("SwapPressModel", "readAt", "I", false)
  | 17 => ("SwapPressModel", "flows", "[I", true)
  | 18 => ("SwapPressModel", "way", "[I", true)
  | 19 => ("SwapPressModel", "ringMany", "I", false)
  | 20 => ("SwapPressModel", "rowFrom", "[I", true)
  | 21 => ("SwapPressModel", "bounds", "[I", true)
  | 22 => ("SwapPressModel", "its0", "[I", true)
  | 23 => ("SwapPressModel", "may", "[I", true)
  | 24 => ("SwapPressModel", "through", "[I", true)
  | 25 => ("SwapPressModel", "needs", "[I", true)
  | 26 => ("SwapPressModel", "isFixed", "[Z", true)
  | 27 => ("SwapPressModel", "dear", "[I", true)
  | 28 => ("SwapPressModel", "by", "[I", true)
  | 29 => ("SwapPressModel", "groups", "[I", true)
  | 30 => ("SwapPressModel", "bytes", "[I", true)
  | _ => ("SwapPressModel", "byteMany", "I", false)
def tyX12 : Nat → FieldType := fun k => match k with
  | 0 => .array .int
  | 1 => .array .int
  | 2 => .array .int
  | 3 => .array .long
  | 4 => .array .long
  | 5 => .int
  | 6 => .int
  | 7 => .int
  | 8 => .int
  | 9 => .array .byte
  | 10 => .int
  | 11 => .int
  | 12 => .int
  | 13 => .int
  | 14 => .int
  | 15 => .int
  | 16 => .int
  | 17 => .array .int
  | 18 => .array .int
  | 19 => .int
  | 20 => .array .int
  | 21 => .array .int
  | 22 => .array .int
  | 23 => .array .int
  | 24 => .array .int
  | 25 => .array .int
  | 26 => .array .boolean
  | 27 => .array .int
  | 28 => .array .int
  | 29 => .array .int
  | 30 => .array .int
  | _ => .int
theorem nmX12 : ∀ a, a < 32 → ∀ b, b < 32 → a ≠ b → (TX12 a).2.1 ≠ (TX12 b).2.1 := by decide +kernel
theorem tyX12_ok : ∀ k, k < 32 → parseFieldDescriptor (TX12 k).2.2.1 = some (tyX12 k) := by decide +kernel
abbrev cJ7_fill_53178 : ByteArray := prog_21_method_103_code
def yJ7_fill_53178 : MethodName := ⟨RJ7, "fill", "([II)V"⟩
abbrev cX0_init : ByteArray := prog_2_method_1_code
def yX0_init : MethodName := ⟨RX0, "<init>", "()V"⟩
abbrev cX10_init : ByteArray := prog_12_method_1_code
def yX10_init : MethodName := ⟨RX10, "<init>", "()V"⟩
abbrev cX11_bound : ByteArray := prog_1_method_18_code
def yX11_bound : MethodName := ⟨RX11, "bound", "(III)I"⟩
abbrev cX11_cap : ByteArray := prog_1_method_9_code
def yX11_cap : MethodName := ⟨RX11, "cap", "(III)I"⟩
abbrev cX11_chain : ByteArray := prog_1_method_23_code
def yX11_chain : MethodName := ⟨RX11, "chain", "(II)I"⟩
abbrev cX11_cleared : ByteArray := prog_1_method_21_code
def yX11_cleared : MethodName := ⟨RX11, "cleared", "(II)I"⟩
abbrev cX11_couples : ByteArray := prog_1_method_26_code
def yX11_couples : MethodName := ⟨RX11, "couples", "(I)I"⟩
abbrev cX11_drop : ByteArray := prog_1_method_6_code
def yX11_drop : MethodName := ⟨RX11, "drop", "(I)I"⟩
abbrev cX11_enough : ByteArray := prog_1_method_34_code
def yX11_enough : MethodName := ⟨RX11, "enough", "(III)I"⟩
abbrev cX11_even : ByteArray := prog_1_method_36_code
def yX11_even : MethodName := ⟨RX11, "even", "(II)I"⟩
abbrev cX11_fewest : ByteArray := prog_1_method_35_code
def yX11_fewest : MethodName := ⟨RX11, "fewest", "(II)I"⟩
abbrev cX11_flow : ByteArray := prog_1_method_14_code
def yX11_flow : MethodName := ⟨RX11, "flow", "(III)I"⟩
abbrev cX11_gain : ByteArray := prog_1_method_28_code
def yX11_gain : MethodName := ⟨RX11, "gain", "(III)I"⟩
abbrev cX11_init : ByteArray := prog_1_method_1_code
def yX11_init : MethodName := ⟨RX11, "<init>", "()V"⟩
abbrev cX11_keep : ByteArray := prog_1_method_7_code
def yX11_keep : MethodName := ⟨RX11, "keep", "(I)I"⟩
abbrev cX11_least : ByteArray := prog_1_method_24_code
def yX11_least : MethodName := ⟨RX11, "least", "(I)I"⟩
abbrev cX11_line : ByteArray := prog_1_method_37_code
def yX11_line : MethodName := ⟨RX11, "line", "(II)I"⟩
abbrev cX11_load : ByteArray := prog_1_method_20_code
def yX11_load : MethodName := ⟨RX11, "load", "(I)I"⟩
abbrev cX11_net : ByteArray := prog_1_method_15_code
def yX11_net : MethodName := ⟨RX11, "net", "(IIZ)I"⟩
abbrev cX11_noCouple : ByteArray := prog_1_method_40_code
def yX11_noCouple : MethodName := ⟨RX11, "noCouple", "(II)Z"⟩
abbrev cX11_noKind : ByteArray := prog_1_method_41_code
def yX11_noKind : MethodName := ⟨RX11, "noKind", "(I)Z"⟩
abbrev cX11_noParty : ByteArray := prog_1_method_39_code
def yX11_noParty : MethodName := ⟨RX11, "noParty", "(I)Z"⟩
abbrev cX11_noTrade : ByteArray := prog_1_method_42_code
def yX11_noTrade : MethodName := ⟨RX11, "noTrade", "(I)Z"⟩
abbrev cX11_press : ByteArray := prog_1_method_11_code
def yX11_press : MethodName := ⟨RX11, "press", "(I)I"⟩
abbrev cX11_pressed : ByteArray := prog_1_method_25_code
def yX11_pressed : MethodName := ⟨RX11, "pressed", "(III)I"⟩
abbrev cX11_relief : ByteArray := prog_1_method_30_code
def yX11_relief : MethodName := ⟨RX11, "relief", "(II)I"⟩
abbrev cX11_relieved : ByteArray := prog_1_method_32_code
def yX11_relieved : MethodName := ⟨RX11, "relieved", "(I)I"⟩
abbrev cX11_ring : ByteArray := prog_1_method_19_code
def yX11_ring : MethodName := ⟨RX11, "ring", "(II)I"⟩
abbrev cX11_rounds : ByteArray := prog_1_method_22_code
def yX11_rounds : MethodName := ⟨RX11, "rounds", "(II)I"⟩
abbrev cX11_side : ByteArray := prog_1_method_16_code
def yX11_side : MethodName := ⟨RX11, "side", "(III)I"⟩
abbrev cX11_span : ByteArray := prog_1_method_27_code
def yX11_span : MethodName := ⟨RX11, "span", "(IIII)I"⟩
abbrev cX11_takeRing : ByteArray := prog_1_method_10_code
def yX11_takeRing : MethodName := ⟨RX11, "takeRing", "(I)I"⟩
abbrev cX11_through : ByteArray := prog_1_method_31_code
def yX11_through : MethodName := ⟨RX11, "through", "(III)I"⟩
abbrev cX11_total : ByteArray := prog_1_method_17_code
def yX11_total : MethodName := ⟨RX11, "total", "(II)I"⟩
abbrev cX11_trade : ByteArray := prog_1_method_5_code
def yX11_trade : MethodName := ⟨RX11, "trade", "(IIII)I"⟩
abbrev cX11_tradeOf : ByteArray := prog_1_method_13_code
def yX11_tradeOf : MethodName := ⟨RX11, "tradeOf", "(II)I"⟩
abbrev cX11_without : ByteArray := prog_1_method_29_code
def yX11_without : MethodName := ⟨RX11, "without", "(II)I"⟩
abbrev cX12_areTwo : ByteArray := prog_14_method_31_code
def yX12_areTwo : MethodName := ⟨RX12, "areTwo", "(II)Z"⟩
abbrev cX12_bound : ByteArray := prog_14_method_52_code
def yX12_bound : MethodName := ⟨RX12, "bound", "(III)I"⟩
abbrev cX12_cap : ByteArray := prog_14_method_37_code
def yX12_cap : MethodName := ⟨RX12, "cap", "(III)I"⟩
abbrev cX12_chain : ByteArray := prog_14_method_65_code
def yX12_chain : MethodName := ⟨RX12, "chain", "(II)I"⟩
abbrev cX12_cleared : ByteArray := prog_14_method_59_code
def yX12_cleared : MethodName := ⟨RX12, "cleared", "(II)I"⟩
abbrev cX12_couples : ByteArray := prog_14_method_83_code
def yX12_couples : MethodName := ⟨RX12, "couples", "(I)I"⟩
abbrev cX12_drop : ByteArray := prog_14_method_34_code
def yX12_drop : MethodName := ⟨RX12, "drop", "(I)I"⟩
abbrev cX12_enough : ByteArray := prog_14_method_92_code
def yX12_enough : MethodName := ⟨RX12, "enough", "(III)I"⟩
abbrev cX12_even : ByteArray := prog_14_method_96_code
def yX12_even : MethodName := ⟨RX12, "even", "(II)I"⟩
abbrev cX12_fewest : ByteArray := prog_14_method_95_code
def yX12_fewest : MethodName := ⟨RX12, "fewest", "(II)I"⟩
abbrev cX12_flow : ByteArray := prog_14_method_46_code
def yX12_flow : MethodName := ⟨RX12, "flow", "(III)I"⟩
abbrev cX12_gain : ByteArray := prog_14_method_85_code
def yX12_gain : MethodName := ⟨RX12, "gain", "(III)I"⟩
abbrev cX12_init : ByteArray := prog_14_method_3_code
def yX12_init : MethodName := ⟨RX12, "<init>", "()V"⟩
abbrev cX12_isIn : ByteArray := prog_14_method_2_code
def yX12_isIn : MethodName := ⟨RX12, "isIn", "(JJJ)Z"⟩
abbrev cX12_isKind : ByteArray := prog_14_method_29_code
def yX12_isKind : MethodName := ⟨RX12, "isKind", "(I)Z"⟩
abbrev cX12_isParty : ByteArray := prog_14_method_28_code
def yX12_isParty : MethodName := ⟨RX12, "isParty", "(I)Z"⟩
abbrev cX12_isTrade : ByteArray := prog_14_method_30_code
def yX12_isTrade : MethodName := ⟨RX12, "isTrade", "(I)Z"⟩
abbrev cX12_keep : ByteArray := prog_14_method_35_code
def yX12_keep : MethodName := ⟨RX12, "keep", "(I)I"⟩
abbrev cX12_least : ByteArray := prog_14_method_80_code
def yX12_least : MethodName := ⟨RX12, "least", "(I)I"⟩
abbrev cX12_line : ByteArray := prog_14_method_100_code
def yX12_line : MethodName := ⟨RX12, "line", "(II)I"⟩
abbrev cX12_load : ByteArray := prog_14_method_58_code
def yX12_load : MethodName := ⟨RX12, "load", "(I)I"⟩
abbrev cX12_net : ByteArray := prog_14_method_48_code
def yX12_net : MethodName := ⟨RX12, "net", "(IIZ)I"⟩
abbrev cX12_plain : ByteArray := prog_14_method_4_code
def yX12_plain : MethodName := ⟨RX12, "plain", "()V"⟩
abbrev cX12_press : ByteArray := prog_14_method_93_code
def yX12_press : MethodName := ⟨RX12, "press", "(I)I"⟩
abbrev cX12_pressed : ByteArray := prog_14_method_81_code
def yX12_pressed : MethodName := ⟨RX12, "pressed", "(III)I"⟩
abbrev cX12_relief : ByteArray := prog_14_method_88_code
def yX12_relief : MethodName := ⟨RX12, "relief", "(II)I"⟩
abbrev cX12_relieved : ByteArray := prog_14_method_89_code
def yX12_relieved : MethodName := ⟨RX12, "relieved", "(I)I"⟩
abbrev cX12_ring : ByteArray := prog_14_method_57_code
def yX12_ring : MethodName := ⟨RX12, "ring", "(II)I"⟩
abbrev cX12_rounds : ByteArray := prog_14_method_62_code
def yX12_rounds : MethodName := ⟨RX12, "rounds", "(II)I"⟩
abbrev cX12_side : ByteArray := prog_14_method_49_code
def yX12_side : MethodName := ⟨RX12, "side", "(III)I"⟩
abbrev cX12_span : ByteArray := prog_14_method_84_code
def yX12_span : MethodName := ⟨RX12, "span", "(IIII)I"⟩
abbrev cX12_takeRing : ByteArray := prog_14_method_66_code
def yX12_takeRing : MethodName := ⟨RX12, "takeRing", "(I)I"⟩
abbrev cX12_through : ByteArray := prog_14_method_90_code
def yX12_through : MethodName := ⟨RX12, "through", "(III)I"⟩
abbrev cX12_total : ByteArray := prog_14_method_50_code
def yX12_total : MethodName := ⟨RX12, "total", "(II)I"⟩
abbrev cX12_trade : ByteArray := prog_14_method_33_code
def yX12_trade : MethodName := ⟨RX12, "trade", "(IIII)I"⟩
abbrev cX12_tradeOf : ByteArray := prog_14_method_45_code
def yX12_tradeOf : MethodName := ⟨RX12, "tradeOf", "(II)I"⟩
abbrev cX12_without : ByteArray := prog_14_method_86_code
def yX12_without : MethodName := ⟨RX12, "without", "(II)I"⟩
abbrev cX1_init : ByteArray := prog_3_method_1_code
def yX1_init : MethodName := ⟨RX1, "<init>", "()V"⟩
abbrev cX2_init : ByteArray := prog_4_method_1_code
def yX2_init : MethodName := ⟨RX2, "<init>", "()V"⟩
abbrev cX3_init : ByteArray := prog_5_method_1_code
def yX3_init : MethodName := ⟨RX3, "<init>", "()V"⟩
abbrev cX4_init : ByteArray := prog_6_method_1_code
def yX4_init : MethodName := ⟨RX4, "<init>", "()V"⟩
abbrev cX5_init : ByteArray := prog_7_method_1_code
def yX5_init : MethodName := ⟨RX5, "<init>", "()V"⟩
abbrev cX6_init : ByteArray := prog_8_method_1_code
def yX6_init : MethodName := ⟨RX6, "<init>", "(LSwapPress$Tape;)V"⟩
abbrev cX7_init : ByteArray := prog_9_method_1_code
def yX7_init : MethodName := ⟨RX7, "<init>", "()V"⟩
abbrev cX8_init : ByteArray := prog_10_method_1_code
def yX8_init : MethodName := ⟨RX8, "<init>", "()V"⟩
abbrev cX9_init : ByteArray := prog_11_method_1_code
def yX9_init : MethodName := ⟨RX9, "<init>", "()V"⟩
abbrev vwCl : List vw_C := [(RX0, TX0, 8), (RX1, TX1, 2), (RX2, TX2, 5), (RX3, TX3, 4), (RX4, TX4, 3), (RX5, TX5, 2), (RX6, TX6, 10), (RX7, TX7, 6), (RX8, TX8, 3), (RX9, TX9, 13), (RX10, TX10, 2), (RX11, TX11, 13), (RX12, TX12, 32)]
end
section
/-! Contracts over explicit cells: one list of words for every method (TB), the start and the end of a contract (pcW, pB). -/
def TB : List Cond := lw_tbl.filter goodWord
theorem mTB {w : Cond} (h : w ∈ tables_1) (hg : goodWord w = true) : w ∈ TB := List.mem_filter.mpr ⟨List.mem_append_right _ h, hg⟩
theorem mSel {y : MethodName} {n : Nat} (h : (y, n) ∈ lw_privs) (hg : goodWord (.selects y.cls y y) = true) : Cond.selects y.cls y y ∈ TB := List.mem_filter.mpr ⟨List.mem_append_left _ (List.mem_map.mpr ⟨(y, n), h, rfl⟩), hg⟩
abbrev wT (y : MethodName) (c : ByteArray) (n : Nat) (r : Option FieldType) : List Cond := .code y c n r :: TB
theorem gO {w : Cond} (h : w ∈ TB) : w ∈ TB ∧ ((w.onTables && w.keeps) = true ∨ ∃ ty, w = .arrayClass ty) := ⟨h, good_of_word (List.mem_filter.mp h).2⟩
theorem gT {y : MethodName} {c : ByteArray} {n : Nat} {r : Option FieldType} (h : Cond.code y c n r ∈ TB) : GoodIn TB (wT y c n r) := fun w hw => (List.mem_cons.mp hw).elim (fun e => e ▸ gO h) (fun h' => gO h')
theorem gV {own C : String} {idx : Nat} {y : MethodName} {c : ByteArray} {n : Nat} {r : Option FieldType} (h1 : Cond.methodLink own idx y ∈ TB) (h2 : Cond.instanceMethod y ∈ TB) (h3 : Cond.selects C y y ∈ TB) (h4 : Cond.initialized C ∈ TB) (h5 : Cond.code y c n r ∈ TB) : GoodIn TB (wsV own idx C y (wT y c n r)) := by
  intro w hw
  rcases List.mem_append.mp hw with h | h
  · rcases List.mem_cons.mp h with e | h
    · exact e ▸ gO h1
    · rcases List.mem_cons.mp h with e | h
      · exact e ▸ gO h2
      · rcases List.mem_cons.mp h with e | h
        · exact e ▸ gO h3
        · exact (List.mem_singleton.mp h) ▸ gO h4
  · exact gT h5 w h
theorem gS {own : String} {idx : Nat} {y : MethodName} {c : ByteArray} {n : Nat} {r : Option FieldType} (h1 : Cond.methodLink own idx y ∈ TB) (h2 : Cond.static y ∈ TB) (h4 : Cond.initialized y.cls ∈ TB) (h5 : Cond.code y c n r ∈ TB) : GoodIn TB (va_wsS own idx y (wT y c n r)) := by
  intro w hw
  rcases List.mem_append.mp hw with h | h
  · rcases List.mem_cons.mp h with e | h
    · exact e ▸ gO h1
    · rcases List.mem_cons.mp h with e | h
      · exact e ▸ gO h2
      · exact (List.mem_singleton.mp h) ▸ gO h4
  · exact gT h5 w h
def pcW (dC : Nat → ClassId) (dI : Nat → Nat → Nat) (av : List Value) (sz : Nat) (ws : va_W) (tys : List (ClassId × FieldType)) : Array Value → State → Prop := va_Pc av (fun U => U.heap.size = sz ∧ va_P (dC, dI) vwCl ws U.heap ∧ va_K (dC, dI) vwCl tys U ∧ va_D (fun _ => True) ws)
theorem pcW.blind {dC : Nat → ClassId} {dI : Nat → Nat → Nat} {av : List Value} {sz : Nat} {ws : va_W} {tys : List (ClassId × FieldType)} : FrameBlind (pcW dC dI av sz ws tys) := fun a U g mk q => by
  obtain ⟨q0, q1, qP, qK, qD⟩ := q
  exact ⟨q0, q1, qP, va_K.moved (u := U) (U := U.calling g mk a) (Vm.Alike.refl U.vm) qK, qD⟩
theorem pcW.pre {dC : Nat → ClassId} {dI : Nat → Nat → Nat} {av : List Value} {ws : va_W} {tys : List (ClassId × FieldType)} {A : Nat → Prop} {s : State} {H : Heap} (hP : va_P (dC, dI) vwCl ws H) (hK : va_K (dC, dI) vwCl tys s) (hD : va_D A ws) : ∀ U : State, U.heap = H → s.WarmedH U.vm → pcW dC dI av H.size ws tys av.toArray U := fun U hU hW => ⟨rfl, by rw [hU], by rw [hU]; exact hP, va_K.moved hW.alike hK, hD.weaken (fun _ _ _ _ => trivial)⟩
abbrev nLk : Type := String × Nat × MethodName × String
def pcN (dC : Nat → ClassId) (dI : Nat → Nat → Nat) (av : List Value) (sz : Nat) (ws : va_W) (tys : List (ClassId × FieldType)) (ns : List nLk) (os : List String) : Array Value → State → Prop := va_Pc av (fun U => U.heap.size = sz ∧ va_P (dC, dI) vwCl ws U.heap ∧ va_K (dC, dI) vwCl tys U ∧ va_D (fun _ => True) ws ∧ (∀ q ∈ ns, va_Nw (.methodLinkNest q.1 q.2.1 q.2.2.1 q.2.2.2) U) ∧ ∀ C ∈ os, va_AO C U)
theorem pcN.blind {dC : Nat → ClassId} {dI : Nat → Nat → Nat} {av : List Value} {sz : Nat} {ws : va_W} {tys : List (ClassId × FieldType)} {ns : List nLk} {os : List String} : FrameBlind (pcN dC dI av sz ws tys ns os) := fun a U g mk q => by
  obtain ⟨q0, q1, qP, qK, qD, qN, qO⟩ := q
  exact ⟨q0, q1, qP, va_K.moved (u := U) (U := U.calling g mk a) (Vm.Alike.refl U.vm) qK, qD, fun q hq => va_Nw.same rfl rfl (qN q hq), fun q hq => va_AO.moved (u := U) (U := U.calling g mk a) (Vm.Alike.refl U.vm) (qO q hq)⟩
theorem pcN.pre {dC : Nat → ClassId} {dI : Nat → Nat → Nat} {av : List Value} {ws : va_W} {tys : List (ClassId × FieldType)} {ns : List nLk} {os : List String} {A : Nat → Prop} {s : State} {H : Heap} (hP : va_P (dC, dI) vwCl ws H) (hK : va_K (dC, dI) vwCl tys s) (hD : va_D A ws) (hN : ∀ q ∈ ns, va_Nw (.methodLinkNest q.1 q.2.1 q.2.2.1 q.2.2.2) s) (hO : ∀ q ∈ os, va_AO q s) : ∀ U : State, U.heap = H → s.WarmedH U.vm → pcN dC dI av H.size ws tys ns os av.toArray U := fun U hU hW => ⟨rfl, by rw [hU], by rw [hU]; exact hP, va_K.moved hW.alike hK, hD.weaken (fun _ _ _ _ => trivial), fun q hq => va_Nw.warmM hW (hN q hq), fun q hq => va_AO.moved hW.alike (hO q hq)⟩
def pB (dC : Nat → ClassId) (dI : Nat → Nat → Nat) (A : Nat → Prop) (ws : va_W) (tys : List (ClassId × FieldType)) (t : State) : Prop := va_P (dC, dI) vwCl ws t.heap ∧ va_K (dC, dI) vwCl tys t ∧ va_D A ws
theorem va_P0 (D : va_G) (cl : List vw_C) (H : Heap) : va_P D cl [] H := fun k q h => by simp at h
theorem va_D0 (A : Nat → Prop) : va_D A [] := ⟨fun i j p q h => by simp at h, fun k q h => by simp at h⟩
theorem i_no {k : Int32} (h1 : ¬ k < 0) (h2 : ¬ 0 ≤ k) : False := by
  rw [Int32.lt_iff_toInt_lt] at h1
  rw [Int32.le_iff_toInt_le] at h2
  omega
theorem isIn_1 {v lo hi : Int64} (h1 : ¬ lg_cmp v lo < 0) (h2 : ¬ 0 < lg_cmp v hi) : (1 : Int32) = (if lo ≤ v ∧ v ≤ hi then 1 else 0) := by
  rw [lg_cmp_lt] at h1
  rw [lg_cmp_gt] at h2
  rw [Int64.lt_iff_toInt_lt] at h1 h2
  rw [if_pos]
  exact ⟨Int64.le_iff_toInt_le.mpr (by omega), Int64.le_iff_toInt_le.mpr (by omega)⟩
theorem isIn_a {v lo hi : Int64} (h1 : lg_cmp v lo < 0) : (0 : Int32) = (if lo ≤ v ∧ v ≤ hi then 1 else 0) := by
  rw [lg_cmp_lt, Int64.lt_iff_toInt_lt] at h1
  rw [if_neg]
  rintro ⟨h, -⟩
  rw [Int64.le_iff_toInt_le] at h
  omega
theorem isIn_b {v lo hi : Int64} (h1 : 0 < lg_cmp v hi) : (0 : Int32) = (if lo ≤ v ∧ v ≤ hi then 1 else 0) := by
  rw [lg_cmp_gt, Int64.lt_iff_toInt_lt] at h1
  rw [if_neg]
  rintro ⟨-, h⟩
  rw [Int64.le_iff_toInt_le] at h
  omega
theorem isIn_0 (v : Int64) : (if 0 ≤ v ∧ v ≤ (-1) then 1 else 0 : Int32) = 0 := by
  rw [if_neg]
  rintro ⟨h, h2⟩
  rw [Int64.le_iff_toInt_le] at h h2
  have e1 : (0 : Int64).toInt = 0 := by decide
  have e2 : (-1 : Int64).toInt = -1 := by decide
  omega
theorem i_eq0 {k : Int32} (h1 : ¬ k < 0) (h2 : k ≤ 0) : k = 0 := by
  rw [Int32.lt_iff_toInt_lt] at h1
  rw [Int32.le_iff_toInt_le] at h2
  have e : (0 : Int32).toInt = 0 := by decide
  exact Int32.toInt_inj.mp (by omega)
theorem tl_a {k : Int32} (h : k < 0) : (-3 : Int32) = (if k = 0 then 0 else (-3)) := by
  rw [if_neg]
  rintro rfl
  exact absurd h (by decide)
theorem tl_b {k : Int32} (h : ¬ k ≤ 0) : (-3 : Int32) = (if k = 0 then 0 else (-3)) := by
  rw [if_neg]
  rintro rfl
  exact absurd (by decide) h
theorem md_a {k : Int32} (h : k < 0) : (-3 : Int32) = (if 0 ≤ k ∧ k ≤ 3 then 0 else (-3)) := by
  rw [if_neg]
  rintro ⟨q, -⟩
  rw [Int32.lt_iff_toInt_lt] at h
  rw [Int32.le_iff_toInt_le] at q
  omega
theorem md_b {k : Int32} (h : ¬ k ≤ 3) : (-3 : Int32) = (if 0 ≤ k ∧ k ≤ 3 then 0 else (-3)) := by
  rw [if_neg]
  exact fun q => h q.2
theorem md_c {k : Int32} (h : ¬ k < 0) (h2 : k ≤ 3) : (0 : Int32) = (if 0 ≤ k ∧ k ≤ 3 then 0 else (-3)) := by
  rw [if_pos]
  refine ⟨?_, h2⟩
  rw [Int32.lt_iff_toInt_lt] at h
  rw [Int32.le_iff_toInt_le]
  omega
theorem mm_iff {k : Int32} {z : Int64} (hz : z = k.toInt64) : (0 ≤ z ∧ z ≤ 3) ↔ (0 ≤ k ∧ k ≤ 3) := by
  subst hz
  rw [Int64.le_iff_toInt_le, Int64.le_iff_toInt_le, Int32.le_iff_toInt_le, Int32.le_iff_toInt_le, Int32.toInt_toInt64]
  have e0 : (0 : Int64).toInt = 0 := by decide
  have e3 : (3 : Int64).toInt = 3 := by decide
  have f0 : (0 : Int32).toInt = 0 := by decide
  have f3 : (3 : Int32).toInt = 3 := by decide
  rw [e0, e3, f0, f3]
theorem mm_a {k : Int32} {z : Int64} (hz : z = k.toInt64) (h : (if 0 ≤ z ∧ z ≤ 3 then 1 else 0 : Int32) = 0) : (-3 : Int32) = (if 0 ≤ k ∧ k ≤ 3 then 0 else (-3)) := by
  rw [if_neg]
  intro q
  rw [if_pos ((mm_iff hz).mpr q)] at h
  exact absurd h (by decide)
theorem mm_b {k : Int32} {z : Int64} (hz : z = k.toInt64) (h : ¬ (if 0 ≤ z ∧ z ≤ 3 then 1 else 0 : Int32) = 0) : (0 : Int32) = (if 0 ≤ k ∧ k ≤ 3 then 0 else (-3)) := by
  rw [if_pos]
  by_cases q : 0 ≤ z ∧ z ≤ 3
  · exact (mm_iff hz).mp q
  · rw [if_neg q] at h
    exact absurd rfl h
theorem mt_iff {k : Int32} {z : Int64} (hz : z = k.toInt64) : (0 ≤ z ∧ z ≤ 0) ↔ k = 0 := by
  subst hz
  rw [Int64.le_iff_toInt_le, Int64.le_iff_toInt_le, Int32.toInt_toInt64]
  have e0 : (0 : Int64).toInt = 0 := by decide
  have f0 : (0 : Int32).toInt = 0 := by decide
  rw [e0]
  exact ⟨fun q => Int32.toInt_inj.mp (by omega), fun q => by subst q; rw [f0]; omega⟩
theorem mt_a {k : Int32} {z : Int64} (hz : z = k.toInt64) (h : (if 0 ≤ z ∧ z ≤ 0 then 1 else 0 : Int32) = 0) : (-3 : Int32) = (if k = 0 then 0 else (-3)) := by
  rw [if_neg]
  intro q
  rw [if_pos ((mt_iff hz).mpr q)] at h
  exact absurd h (by decide)
theorem mt_b {k : Int32} {z : Int64} (hz : z = k.toInt64) (h : ¬ (if 0 ≤ z ∧ z ≤ 0 then 1 else 0 : Int32) = 0) : k = 0 := by
  by_cases q : 0 ≤ z ∧ z ≤ 0
  · exact (mt_iff hz).mp q
  · rw [if_neg q] at h
    exact absurd rfl h
theorem fl_0 {k : Int32} (h : k = 0) : (0 : Int32) = (if k = 0 then 0 else (-1)) := by rw [if_pos h]
theorem fl_n {k : Int32} (h : ¬ k = 0) : (-1 : Int32) = (if k = 0 then 0 else (-1)) := by rw [if_neg h]
theorem sw7 (k : Int32) : k = 0 ∨ k = 1 ∨ k = 2 ∨ k = 3 ∨ k = 4 ∨ k = 5 ∨ k = 6 ∨ (k.toInt < 0 ∨ 6 < k.toInt) := by
  have e : ∀ j : Int32, k.toInt = j.toInt → k = j := fun j h => Int32.toInt_inj.mp h
  have f0 : (0 : Int32).toInt = 0 := by decide
  have f1 : (1 : Int32).toInt = 1 := by decide
  have f2 : (2 : Int32).toInt = 2 := by decide
  have f3 : (3 : Int32).toInt = 3 := by decide
  have f4 : (4 : Int32).toInt = 4 := by decide
  have f5 : (5 : Int32).toInt = 5 := by decide
  have f6 : (6 : Int32).toInt = 6 := by decide
  have h : k.toInt = 0 ∨ k.toInt = 1 ∨ k.toInt = 2 ∨ k.toInt = 3 ∨ k.toInt = 4 ∨ k.toInt = 5 ∨ k.toInt = 6 ∨ (k.toInt < 0 ∨ 6 < k.toInt) := by omega
  rcases h with h | h | h | h | h | h | h | h
  · exact Or.inl (e 0 (h.trans f0.symm))
  · exact Or.inr (Or.inl (e 1 (h.trans f1.symm)))
  · exact Or.inr (Or.inr (Or.inl (e 2 (h.trans f2.symm))))
  · exact Or.inr (Or.inr (Or.inr (Or.inl (e 3 (h.trans f3.symm)))))
  · exact Or.inr (Or.inr (Or.inr (Or.inr (Or.inl (e 4 (h.trans f4.symm))))))
  · exact Or.inr (Or.inr (Or.inr (Or.inr (Or.inr (Or.inl (e 5 (h.trans f5.symm)))))))
  · exact Or.inr (Or.inr (Or.inr (Or.inr (Or.inr (Or.inr (Or.inl (e 6 (h.trans f6.symm))))))))
  · exact Or.inr (Or.inr (Or.inr (Or.inr (Or.inr (Or.inr (Or.inr h))))))
theorem sw2 (k : Int32) : k = 0 ∨ k = 1 ∨ (¬ k = 0 ∧ ¬ k = 1) := by
  by_cases h : k = 0
  · exact Or.inl h
  · by_cases h1 : k = 1
    · exact Or.inr (Or.inl h1)
    · exact Or.inr (Or.inr ⟨h, h1⟩)
theorem ct_d {k : Int32} (h : k.toInt < 0 ∨ 6 < k.toInt) : (-1 : Int32) = (if 0 ≤ k ∧ k ≤ 6 then 0 else (-1)) := by
  rw [if_neg]
  rintro ⟨q1, q2⟩
  rw [Int32.le_iff_toInt_le] at q1 q2
  have f0 : (0 : Int32).toInt = 0 := by decide
  have f6 : (6 : Int32).toInt = 6 := by decide
  omega
theorem pl_s {f g : Nat → Int32} {i : Nat} {v : Int32} (hi : i < 266) (hg : g = upd f (nI i).toNatClampNeg v) (hv : i < 2 → v = 0) (h : (0 < i → f 0 = 0) ∧ (1 < i → f 1 = 0)) : (0 < i + 1 → g 0 = 0) ∧ (1 < i + 1 → g 1 = 0) := by
  rw [nI_clamp (by omega)] at hg
  subst hg
  refine ⟨fun _ => ?_, fun h1 => ?_⟩
  · by_cases e : i = 0
    · subst e
      rw [pk_us]
      exact hv (by decide)
    · rw [pk_un (fun q => e q.symm)]
      exact h.1 (by omega)
  · by_cases e : i = 1
    · subst e
      rw [pk_us]
      exact hv (by decide)
    · rw [pk_un (fun q => e q.symm)]
      exact h.2 (by omega)
theorem rm_in {i : Nat} (h : i < 266) : vp_in (0 + nI i) 2660 := by
  have e : (0 : Int32) + nI i = nI i := by rw [← nI_0, nI_add, Nat.zero_add]
  rw [e]
  exact vp_in_nI (by omega) (by decide)

theorem iX0 : ∀ w ∈ u_ws RX0 TX0 8, w ∈ TB := fun w h => mTB ((by decide +kernel : ∀ w ∈ u_ws RX0 TX0 8, w ∈ tables_1) w h) ((by decide +kernel : ∀ w ∈ u_ws RX0 TX0 8, goodWord w = true) w h)
theorem iX1 : ∀ w ∈ u_ws RX1 TX1 2, w ∈ TB := fun w h => mTB ((by decide +kernel : ∀ w ∈ u_ws RX1 TX1 2, w ∈ tables_1) w h) ((by decide +kernel : ∀ w ∈ u_ws RX1 TX1 2, goodWord w = true) w h)
theorem iX2 : ∀ w ∈ u_ws RX2 TX2 5, w ∈ TB := fun w h => mTB ((by decide +kernel : ∀ w ∈ u_ws RX2 TX2 5, w ∈ tables_1) w h) ((by decide +kernel : ∀ w ∈ u_ws RX2 TX2 5, goodWord w = true) w h)
theorem iX3 : ∀ w ∈ u_ws RX3 TX3 4, w ∈ TB := fun w h => mTB ((by decide +kernel : ∀ w ∈ u_ws RX3 TX3 4, w ∈ tables_1) w h) ((by decide +kernel : ∀ w ∈ u_ws RX3 TX3 4, goodWord w = true) w h)
theorem iX4 : ∀ w ∈ u_ws RX4 TX4 3, w ∈ TB := fun w h => mTB ((by decide +kernel : ∀ w ∈ u_ws RX4 TX4 3, w ∈ tables_1) w h) ((by decide +kernel : ∀ w ∈ u_ws RX4 TX4 3, goodWord w = true) w h)
theorem iX5 : ∀ w ∈ u_ws RX5 TX5 2, w ∈ TB := fun w h => mTB ((by decide +kernel : ∀ w ∈ u_ws RX5 TX5 2, w ∈ tables_1) w h) ((by decide +kernel : ∀ w ∈ u_ws RX5 TX5 2, goodWord w = true) w h)
theorem iX6 : ∀ w ∈ u_ws RX6 TX6 10, w ∈ TB := fun w h => mTB ((by decide +kernel : ∀ w ∈ u_ws RX6 TX6 10, w ∈ tables_1) w h) ((by decide +kernel : ∀ w ∈ u_ws RX6 TX6 10, goodWord w = true) w h)
theorem iX7 : ∀ w ∈ u_ws RX7 TX7 6, w ∈ TB := fun w h => mTB ((by decide +kernel : ∀ w ∈ u_ws RX7 TX7 6, w ∈ tables_1) w h) ((by decide +kernel : ∀ w ∈ u_ws RX7 TX7 6, goodWord w = true) w h)
theorem iX8 : ∀ w ∈ u_ws RX8 TX8 3, w ∈ TB := fun w h => mTB ((by decide +kernel : ∀ w ∈ u_ws RX8 TX8 3, w ∈ tables_1) w h) ((by decide +kernel : ∀ w ∈ u_ws RX8 TX8 3, goodWord w = true) w h)
theorem iX9 : ∀ w ∈ u_ws RX9 TX9 13, w ∈ TB := fun w h => mTB ((by decide +kernel : ∀ w ∈ u_ws RX9 TX9 13, w ∈ tables_1) w h) ((by decide +kernel : ∀ w ∈ u_ws RX9 TX9 13, goodWord w = true) w h)
theorem iX10 : ∀ w ∈ u_ws RX10 TX10 2, w ∈ TB := fun w h => mTB ((by decide +kernel : ∀ w ∈ u_ws RX10 TX10 2, w ∈ tables_1) w h) ((by decide +kernel : ∀ w ∈ u_ws RX10 TX10 2, goodWord w = true) w h)
theorem iX11 : ∀ w ∈ u_ws RX11 TX11 13, w ∈ TB := fun w h => mTB ((by decide +kernel : ∀ w ∈ u_ws RX11 TX11 13, w ∈ tables_1) w h) ((by decide +kernel : ∀ w ∈ u_ws RX11 TX11 13, goodWord w = true) w h)
theorem iX12 : ∀ w ∈ u_ws RX12 TX12 32, w ∈ TB := fun w h => mTB ((by decide +kernel : ∀ w ∈ u_ws RX12 TX12 32, w ∈ tables_1) w h) ((by decide +kernel : ∀ w ∈ u_ws RX12 TX12 32, goodWord w = true) w h)
end
section
theorem w1 : (.initialized RX11 : Cond) ∈ TB := mTB (List.mem_of_getElem? (i := 1) (by decide +kernel)) (by decide +kernel)
theorem w2 : (.initialized RX10 : Cond) ∈ TB := mTB (List.mem_of_getElem? (i := 2) (by decide +kernel)) (by decide +kernel)
theorem w3 : (.initialized RX6 : Cond) ∈ TB := mTB (List.mem_of_getElem? (i := 3) (by decide +kernel)) (by decide +kernel)
theorem w4 : (.initialized RX3 : Cond) ∈ TB := mTB (List.mem_of_getElem? (i := 4) (by decide +kernel)) (by decide +kernel)
theorem w5 : (.initialized RX0 : Cond) ∈ TB := mTB (List.mem_of_getElem? (i := 5) (by decide +kernel)) (by decide +kernel)
theorem w6 : (.initialized RJ7 : Cond) ∈ TB := mTB (List.mem_of_getElem? (i := 6) (by decide +kernel)) (by decide +kernel)
theorem w7 : (.initialized RX5 : Cond) ∈ TB := mTB (List.mem_of_getElem? (i := 7) (by decide +kernel)) (by decide +kernel)
theorem w8 : (.initialized RX1 : Cond) ∈ TB := mTB (List.mem_of_getElem? (i := 8) (by decide +kernel)) (by decide +kernel)
theorem w9 : (.initialized RX7 : Cond) ∈ TB := mTB (List.mem_of_getElem? (i := 9) (by decide +kernel)) (by decide +kernel)
theorem w10 : (.initialized RX8 : Cond) ∈ TB := mTB (List.mem_of_getElem? (i := 10) (by decide +kernel)) (by decide +kernel)
theorem w11 : (.initialized RX9 : Cond) ∈ TB := mTB (List.mem_of_getElem? (i := 11) (by decide +kernel)) (by decide +kernel)
theorem w12 : (.initialized RX2 : Cond) ∈ TB := mTB (List.mem_of_getElem? (i := 12) (by decide +kernel)) (by decide +kernel)
theorem w13 : (.initialized RX4 : Cond) ∈ TB := mTB (List.mem_of_getElem? (i := 13) (by decide +kernel)) (by decide +kernel)
theorem w14 : (.initialized RX12 : Cond) ∈ TB := mTB (List.mem_of_getElem? (i := 14) (by decide +kernel)) (by decide +kernel)
theorem w27 : (.methodLink RX11 3 objectInit : Cond) ∈ TB := mTB (List.mem_of_getElem? (i := 27) (by decide +kernel)) (by decide +kernel)
theorem w28 : (.instanceMethod objectInit : Cond) ∈ TB := mTB (List.mem_of_getElem? (i := 28) (by decide +kernel)) (by decide +kernel)
theorem w29 : (.code objectInit ⟨#[0xb1]⟩ 1 none : Cond) ∈ TB := mTB (List.mem_of_getElem? (i := 29) (by decide +kernel)) (by decide +kernel)
theorem w30 : (.classLink RX11 9 RX10 : Cond) ∈ TB := mTB (List.mem_of_getElem? (i := 30) (by decide +kernel)) (by decide +kernel)
theorem w31 : (.instantiable RX10 2 : Cond) ∈ TB := mTB (List.mem_of_getElem? (i := 31) (by decide +kernel)) (by decide +kernel)
theorem w33 : (.instanceMethod yX10_init : Cond) ∈ TB := mTB (List.mem_of_getElem? (i := 33) (by decide +kernel)) (by decide +kernel)
theorem w34 : (.code yX10_init cX10_init 1 none : Cond) ∈ TB := mTB (List.mem_of_getElem? (i := 34) (by decide +kernel)) (by decide +kernel)
theorem w35 : (.methodLink RX10 3 objectInit : Cond) ∈ TB := mTB (List.mem_of_getElem? (i := 35) (by decide +kernel)) (by decide +kernel)
theorem w36 : (.fieldLink RX10 9 "SwapPress$Tape" "bytes" "[B" : Cond) ∈ TB := mTB (List.mem_of_getElem? (i := 36) (by decide +kernel)) (by decide +kernel)
theorem w37 : (.fieldLink RX6 29 "SwapPress$Tape" "bytes" "[B" : Cond) ∈ TB := mTB (List.mem_of_getElem? (i := 37) (by decide +kernel)) (by decide +kernel)
theorem w45 : (.arrayClass .byte : Cond) ∈ TB := mTB (List.mem_of_getElem? (i := 45) (by decide +kernel)) (by decide +kernel)
theorem w46 : (.classLink RX11 16 RX6 : Cond) ∈ TB := mTB (List.mem_of_getElem? (i := 46) (by decide +kernel)) (by decide +kernel)
theorem w47 : (.instantiable RX6 10 : Cond) ∈ TB := mTB (List.mem_of_getElem? (i := 47) (by decide +kernel)) (by decide +kernel)
theorem w48 : (.methodLink RX11 18 yX6_init : Cond) ∈ TB := mTB (List.mem_of_getElem? (i := 48) (by decide +kernel)) (by decide +kernel)
theorem w49 : (.instanceMethod yX6_init : Cond) ∈ TB := mTB (List.mem_of_getElem? (i := 49) (by decide +kernel)) (by decide +kernel)
theorem w50 : (.code yX6_init cX6_init 2 none : Cond) ∈ TB := mTB (List.mem_of_getElem? (i := 50) (by decide +kernel)) (by decide +kernel)
theorem w51 : (.methodLink RX6 3 objectInit : Cond) ∈ TB := mTB (List.mem_of_getElem? (i := 51) (by decide +kernel)) (by decide +kernel)
theorem w52 : (.classLink RX6 15 RX3 : Cond) ∈ TB := mTB (List.mem_of_getElem? (i := 52) (by decide +kernel)) (by decide +kernel)
theorem w53 : (.instantiable RX3 4 : Cond) ∈ TB := mTB (List.mem_of_getElem? (i := 53) (by decide +kernel)) (by decide +kernel)
theorem w55 : (.instanceMethod yX3_init : Cond) ∈ TB := mTB (List.mem_of_getElem? (i := 55) (by decide +kernel)) (by decide +kernel)
theorem w56 : (.code yX3_init cX3_init 1 none : Cond) ∈ TB := mTB (List.mem_of_getElem? (i := 56) (by decide +kernel)) (by decide +kernel)
theorem w57 : (.methodLink RX3 3 objectInit : Cond) ∈ TB := mTB (List.mem_of_getElem? (i := 57) (by decide +kernel)) (by decide +kernel)
theorem w58 : (.fieldLink RX3 11 "SwapPress$Names" "letters" "[B" : Cond) ∈ TB := mTB (List.mem_of_getElem? (i := 58) (by decide +kernel)) (by decide +kernel)
theorem w60 : (.fieldLink RX3 15 "SwapPress$Names" "lengths" "[I" : Cond) ∈ TB := mTB (List.mem_of_getElem? (i := 60) (by decide +kernel)) (by decide +kernel)
theorem w64 : (.fieldLink RX11 191 "SwapPress$Names" "parties" "I" : Cond) ∈ TB := mTB (List.mem_of_getElem? (i := 64) (by decide +kernel)) (by decide +kernel)
theorem w67 : (.fieldLink RX11 314 "SwapPress$Names" "kinds" "I" : Cond) ∈ TB := mTB (List.mem_of_getElem? (i := 67) (by decide +kernel)) (by decide +kernel)
theorem w77 : (.arrayClass .int : Cond) ∈ TB := mTB (List.mem_of_getElem? (i := 77) (by decide +kernel)) (by decide +kernel)
theorem w78 : (.classLink RX6 22 RX0 : Cond) ∈ TB := mTB (List.mem_of_getElem? (i := 78) (by decide +kernel)) (by decide +kernel)
theorem w79 : (.instantiable RX0 8 : Cond) ∈ TB := mTB (List.mem_of_getElem? (i := 79) (by decide +kernel)) (by decide +kernel)
theorem w80 : (.methodLink RX6 24 yX0_init : Cond) ∈ TB := mTB (List.mem_of_getElem? (i := 80) (by decide +kernel)) (by decide +kernel)
theorem w81 : (.instanceMethod yX0_init : Cond) ∈ TB := mTB (List.mem_of_getElem? (i := 81) (by decide +kernel)) (by decide +kernel)
theorem w82 : (.code yX0_init cX0_init 1 none : Cond) ∈ TB := mTB (List.mem_of_getElem? (i := 82) (by decide +kernel)) (by decide +kernel)
theorem w83 : (.methodLink RX0 3 objectInit : Cond) ∈ TB := mTB (List.mem_of_getElem? (i := 83) (by decide +kernel)) (by decide +kernel)
theorem w84 : (.constant RX0 32 99999999 : Cond) ∈ TB := mTB (List.mem_of_getElem? (i := 84) (by decide +kernel)) (by decide +kernel)
theorem w85 : (.methodLink RX0 33 yJ7_fill_53178 : Cond) ∈ TB := mTB (List.mem_of_getElem? (i := 85) (by decide +kernel)) (by decide +kernel)
theorem w86 : (.static yJ7_fill_53178 : Cond) ∈ TB := mTB (List.mem_of_getElem? (i := 86) (by decide +kernel)) (by decide +kernel)
theorem w87 : (.code yJ7_fill_53178 cJ7_fill_53178 4 none : Cond) ∈ TB := mTB (List.mem_of_getElem? (i := 87) (by decide +kernel)) (by decide +kernel)
theorem w88 : (.fieldLink RX0 9 "SwapPress$Book" "from" "[I" : Cond) ∈ TB := mTB (List.mem_of_getElem? (i := 88) (by decide +kernel)) (by decide +kernel)
theorem w92 : (.fieldLink RX0 15 "SwapPress$Book" "to" "[I" : Cond) ∈ TB := mTB (List.mem_of_getElem? (i := 92) (by decide +kernel)) (by decide +kernel)
theorem w96 : (.fieldLink RX0 18 "SwapPress$Book" "kind" "[I" : Cond) ∈ TB := mTB (List.mem_of_getElem? (i := 96) (by decide +kernel)) (by decide +kernel)
theorem w100 : (.fieldLink RX0 21 "SwapPress$Book" "amount" "[J" : Cond) ∈ TB := mTB (List.mem_of_getElem? (i := 100) (by decide +kernel)) (by decide +kernel)
theorem w104 : (.fieldLink RX0 25 "SwapPress$Book" "kept" "[Z" : Cond) ∈ TB := mTB (List.mem_of_getElem? (i := 104) (by decide +kernel)) (by decide +kernel)
theorem w109 : (.fieldLink RX0 29 "SwapPress$Book" "caps" "[I" : Cond) ∈ TB := mTB (List.mem_of_getElem? (i := 109) (by decide +kernel)) (by decide +kernel)
theorem w114 : (.fieldLink RX11 114 "SwapPress$Book" "size" "I" : Cond) ∈ TB := mTB (List.mem_of_getElem? (i := 114) (by decide +kernel)) (by decide +kernel)
theorem w137 : (.arrayClass .long : Cond) ∈ TB := mTB (List.mem_of_getElem? (i := 137) (by decide +kernel)) (by decide +kernel)
theorem w138 : (.arrayClass .boolean : Cond) ∈ TB := mTB (List.mem_of_getElem? (i := 138) (by decide +kernel)) (by decide +kernel)
theorem w141 : (.fieldLink RX6 9 "SwapPress$Reader" "place" "I" : Cond) ∈ TB := mTB (List.mem_of_getElem? (i := 141) (by decide +kernel)) (by decide +kernel)
theorem w143 : (.fieldLink RX6 18 "SwapPress$Reader" "names" "LSwapPress$Names;" : Cond) ∈ TB := mTB (List.mem_of_getElem? (i := 143) (by decide +kernel)) (by decide +kernel)
theorem w145 : (.fieldLink RX6 25 "SwapPress$Reader" "book" "LSwapPress$Book;" : Cond) ∈ TB := mTB (List.mem_of_getElem? (i := 145) (by decide +kernel)) (by decide +kernel)
theorem w147 : (.fieldLink RX6 35 "SwapPress$Reader" "text" "[B" : Cond) ∈ TB := mTB (List.mem_of_getElem? (i := 147) (by decide +kernel)) (by decide +kernel)
theorem w174 : (.classLink RX11 25 RX5 : Cond) ∈ TB := mTB (List.mem_of_getElem? (i := 174) (by decide +kernel)) (by decide +kernel)
theorem w175 : (.instantiable RX5 2 : Cond) ∈ TB := mTB (List.mem_of_getElem? (i := 175) (by decide +kernel)) (by decide +kernel)
theorem w176 : (.methodLink RX11 27 yX5_init : Cond) ∈ TB := mTB (List.mem_of_getElem? (i := 176) (by decide +kernel)) (by decide +kernel)
theorem w177 : (.instanceMethod yX5_init : Cond) ∈ TB := mTB (List.mem_of_getElem? (i := 177) (by decide +kernel)) (by decide +kernel)
theorem w178 : (.code yX5_init cX5_init 2 none : Cond) ∈ TB := mTB (List.mem_of_getElem? (i := 178) (by decide +kernel)) (by decide +kernel)
theorem w179 : (.methodLink RX5 3 objectInit : Cond) ∈ TB := mTB (List.mem_of_getElem? (i := 179) (by decide +kernel)) (by decide +kernel)
theorem w180 : (.classLink RX5 9 RX0 : Cond) ∈ TB := mTB (List.mem_of_getElem? (i := 180) (by decide +kernel)) (by decide +kernel)
theorem w182 : (.methodLink RX5 17 yX0_init : Cond) ∈ TB := mTB (List.mem_of_getElem? (i := 182) (by decide +kernel)) (by decide +kernel)
theorem w183 : (.fieldLink RX5 11 "SwapPress$Past" "books" "[LSwapPress$Book;" : Cond) ∈ TB := mTB (List.mem_of_getElem? (i := 183) (by decide +kernel)) (by decide +kernel)
theorem w191 : (.classLink RX11 32 RX1 : Cond) ∈ TB := mTB (List.mem_of_getElem? (i := 191) (by decide +kernel)) (by decide +kernel)
theorem w192 : (.instantiable RX1 2 : Cond) ∈ TB := mTB (List.mem_of_getElem? (i := 192) (by decide +kernel)) (by decide +kernel)
theorem w194 : (.instanceMethod yX1_init : Cond) ∈ TB := mTB (List.mem_of_getElem? (i := 194) (by decide +kernel)) (by decide +kernel)
theorem w195 : (.code yX1_init cX1_init 1 none : Cond) ∈ TB := mTB (List.mem_of_getElem? (i := 195) (by decide +kernel)) (by decide +kernel)
theorem w196 : (.methodLink RX1 3 objectInit : Cond) ∈ TB := mTB (List.mem_of_getElem? (i := 196) (by decide +kernel)) (by decide +kernel)
theorem w197 : (.fieldLink RX1 9 "SwapPress$Flows" "cells" "[J" : Cond) ∈ TB := mTB (List.mem_of_getElem? (i := 197) (by decide +kernel)) (by decide +kernel)
theorem w210 : (.classLink RX11 39 RX7 : Cond) ∈ TB := mTB (List.mem_of_getElem? (i := 210) (by decide +kernel)) (by decide +kernel)
theorem w211 : (.instantiable RX7 6 : Cond) ∈ TB := mTB (List.mem_of_getElem? (i := 211) (by decide +kernel)) (by decide +kernel)
theorem w213 : (.instanceMethod yX7_init : Cond) ∈ TB := mTB (List.mem_of_getElem? (i := 213) (by decide +kernel)) (by decide +kernel)
theorem w214 : (.code yX7_init cX7_init 1 none : Cond) ∈ TB := mTB (List.mem_of_getElem? (i := 214) (by decide +kernel)) (by decide +kernel)
theorem w215 : (.methodLink RX7 3 objectInit : Cond) ∈ TB := mTB (List.mem_of_getElem? (i := 215) (by decide +kernel)) (by decide +kernel)
theorem w216 : (.fieldLink RX7 9 "SwapPress$Rings" "party" "[I" : Cond) ∈ TB := mTB (List.mem_of_getElem? (i := 216) (by decide +kernel)) (by decide +kernel)
theorem w224 : (.fieldLink RX7 15 "SwapPress$Rings" "stepsHome" "[I" : Cond) ∈ TB := mTB (List.mem_of_getElem? (i := 224) (by decide +kernel)) (by decide +kernel)
theorem w225 : (.fieldLink RX7 18 "SwapPress$Rings" "queue" "[I" : Cond) ∈ TB := mTB (List.mem_of_getElem? (i := 225) (by decide +kernel)) (by decide +kernel)
theorem w239 : (.classLink RX11 46 RX8 : Cond) ∈ TB := mTB (List.mem_of_getElem? (i := 239) (by decide +kernel)) (by decide +kernel)
theorem w240 : (.instantiable RX8 3 : Cond) ∈ TB := mTB (List.mem_of_getElem? (i := 240) (by decide +kernel)) (by decide +kernel)
theorem w242 : (.instanceMethod yX8_init : Cond) ∈ TB := mTB (List.mem_of_getElem? (i := 242) (by decide +kernel)) (by decide +kernel)
theorem w243 : (.code yX8_init cX8_init 1 none : Cond) ∈ TB := mTB (List.mem_of_getElem? (i := 243) (by decide +kernel)) (by decide +kernel)
theorem w244 : (.methodLink RX8 3 objectInit : Cond) ∈ TB := mTB (List.mem_of_getElem? (i := 244) (by decide +kernel)) (by decide +kernel)
theorem w245 : (.fieldLink RX8 9 "SwapPress$Row" "party" "[I" : Cond) ∈ TB := mTB (List.mem_of_getElem? (i := 245) (by decide +kernel)) (by decide +kernel)
theorem w249 : (.fieldLink RX8 15 "SwapPress$Row" "longest" "[I" : Cond) ∈ TB := mTB (List.mem_of_getElem? (i := 249) (by decide +kernel)) (by decide +kernel)
theorem w257 : (.classLink RX11 53 RX9 : Cond) ∈ TB := mTB (List.mem_of_getElem? (i := 257) (by decide +kernel)) (by decide +kernel)
theorem w258 : (.instantiable RX9 13 : Cond) ∈ TB := mTB (List.mem_of_getElem? (i := 258) (by decide +kernel)) (by decide +kernel)
theorem w260 : (.instanceMethod yX9_init : Cond) ∈ TB := mTB (List.mem_of_getElem? (i := 260) (by decide +kernel)) (by decide +kernel)
theorem w261 : (.code yX9_init cX9_init 1 none : Cond) ∈ TB := mTB (List.mem_of_getElem? (i := 261) (by decide +kernel)) (by decide +kernel)
theorem w262 : (.methodLink RX9 3 objectInit : Cond) ∈ TB := mTB (List.mem_of_getElem? (i := 262) (by decide +kernel)) (by decide +kernel)
theorem w263 : (.fieldLink RX9 9 "SwapPress$Solver" "bounds" "[J" : Cond) ∈ TB := mTB (List.mem_of_getElem? (i := 263) (by decide +kernel)) (by decide +kernel)
theorem w265 : (.fieldLink RX9 15 "SwapPress$Solver" "first" "[J" : Cond) ∈ TB := mTB (List.mem_of_getElem? (i := 265) (by decide +kernel)) (by decide +kernel)
theorem w271 : (.fieldLink RX9 18 "SwapPress$Solver" "throughBounds" "[J" : Cond) ∈ TB := mTB (List.mem_of_getElem? (i := 271) (by decide +kernel)) (by decide +kernel)
theorem w272 : (.fieldLink RX9 21 "SwapPress$Solver" "nets" "[J" : Cond) ∈ TB := mTB (List.mem_of_getElem? (i := 272) (by decide +kernel)) (by decide +kernel)
theorem w273 : (.fieldLink RX9 24 "SwapPress$Solver" "room" "[J" : Cond) ∈ TB := mTB (List.mem_of_getElem? (i := 273) (by decide +kernel)) (by decide +kernel)
theorem w274 : (.fieldLink RX9 27 "SwapPress$Solver" "label" "[I" : Cond) ∈ TB := mTB (List.mem_of_getElem? (i := 274) (by decide +kernel)) (by decide +kernel)
theorem w275 : (.fieldLink RX9 31 "SwapPress$Solver" "left" "[J" : Cond) ∈ TB := mTB (List.mem_of_getElem? (i := 275) (by decide +kernel)) (by decide +kernel)
theorem w276 : (.fieldLink RX9 34 "SwapPress$Solver" "before" "[I" : Cond) ∈ TB := mTB (List.mem_of_getElem? (i := 276) (by decide +kernel)) (by decide +kernel)
theorem w277 : (.fieldLink RX9 37 "SwapPress$Solver" "queue" "[I" : Cond) ∈ TB := mTB (List.mem_of_getElem? (i := 277) (by decide +kernel)) (by decide +kernel)
theorem w307 : (.classLink RX11 63 RX2 : Cond) ∈ TB := mTB (List.mem_of_getElem? (i := 307) (by decide +kernel)) (by decide +kernel)
theorem w308 : (.instantiable RX2 5 : Cond) ∈ TB := mTB (List.mem_of_getElem? (i := 308) (by decide +kernel)) (by decide +kernel)
theorem w310 : (.instanceMethod yX2_init : Cond) ∈ TB := mTB (List.mem_of_getElem? (i := 310) (by decide +kernel)) (by decide +kernel)
theorem w311 : (.code yX2_init cX2_init 1 none : Cond) ∈ TB := mTB (List.mem_of_getElem? (i := 311) (by decide +kernel)) (by decide +kernel)
theorem w312 : (.methodLink RX2 3 objectInit : Cond) ∈ TB := mTB (List.mem_of_getElem? (i := 312) (by decide +kernel)) (by decide +kernel)
theorem w317 : (.fieldLink RX2 9 "SwapPress$Groups" "nets" "[J" : Cond) ∈ TB := mTB (List.mem_of_getElem? (i := 317) (by decide +kernel)) (by decide +kernel)
theorem w318 : (.fieldLink RX2 15 "SwapPress$Groups" "sums" "[J" : Cond) ∈ TB := mTB (List.mem_of_getElem? (i := 318) (by decide +kernel)) (by decide +kernel)
theorem w319 : (.fieldLink RX2 18 "SwapPress$Groups" "best" "[I" : Cond) ∈ TB := mTB (List.mem_of_getElem? (i := 319) (by decide +kernel)) (by decide +kernel)
theorem w331 : (.classLink RX11 70 RX4 : Cond) ∈ TB := mTB (List.mem_of_getElem? (i := 331) (by decide +kernel)) (by decide +kernel)
theorem w332 : (.instantiable RX4 3 : Cond) ∈ TB := mTB (List.mem_of_getElem? (i := 332) (by decide +kernel)) (by decide +kernel)
theorem w334 : (.instanceMethod yX4_init : Cond) ∈ TB := mTB (List.mem_of_getElem? (i := 334) (by decide +kernel)) (by decide +kernel)
theorem w335 : (.code yX4_init cX4_init 1 none : Cond) ∈ TB := mTB (List.mem_of_getElem? (i := 335) (by decide +kernel)) (by decide +kernel)
theorem w336 : (.methodLink RX4 3 objectInit : Cond) ∈ TB := mTB (List.mem_of_getElem? (i := 336) (by decide +kernel)) (by decide +kernel)
theorem w337 : (.fieldLink RX4 11 "SwapPress$Page" "bytes" "[B" : Cond) ∈ TB := mTB (List.mem_of_getElem? (i := 337) (by decide +kernel)) (by decide +kernel)
theorem w341 : (.fieldLink RX4 15 "SwapPress$Page" "digits" "[B" : Cond) ∈ TB := mTB (List.mem_of_getElem? (i := 341) (by decide +kernel)) (by decide +kernel)
theorem w349 : (.classLink RX11 77 RX3 : Cond) ∈ TB := mTB (List.mem_of_getElem? (i := 349) (by decide +kernel)) (by decide +kernel)
theorem w351 : (.classLink RX11 84 RX0 : Cond) ∈ TB := mTB (List.mem_of_getElem? (i := 351) (by decide +kernel)) (by decide +kernel)
theorem w352 : (.methodLink RX11 86 yX0_init : Cond) ∈ TB := mTB (List.mem_of_getElem? (i := 352) (by decide +kernel)) (by decide +kernel)
theorem w353 : (.fieldLink RX11 12 "SwapPress" "tape" "LSwapPress$Tape;" : Cond) ∈ TB := mTB (List.mem_of_getElem? (i := 353) (by decide +kernel)) (by decide +kernel)
theorem w354 : (.fieldLink RX11 21 "SwapPress" "reader" "LSwapPress$Reader;" : Cond) ∈ TB := mTB (List.mem_of_getElem? (i := 354) (by decide +kernel)) (by decide +kernel)
theorem w355 : (.fieldLink RX11 28 "SwapPress" "past" "LSwapPress$Past;" : Cond) ∈ TB := mTB (List.mem_of_getElem? (i := 355) (by decide +kernel)) (by decide +kernel)
theorem w356 : (.fieldLink RX11 35 "SwapPress" "flows" "LSwapPress$Flows;" : Cond) ∈ TB := mTB (List.mem_of_getElem? (i := 356) (by decide +kernel)) (by decide +kernel)
theorem w357 : (.fieldLink RX11 42 "SwapPress" "rings" "LSwapPress$Rings;" : Cond) ∈ TB := mTB (List.mem_of_getElem? (i := 357) (by decide +kernel)) (by decide +kernel)
theorem w358 : (.fieldLink RX11 49 "SwapPress" "row" "LSwapPress$Row;" : Cond) ∈ TB := mTB (List.mem_of_getElem? (i := 358) (by decide +kernel)) (by decide +kernel)
theorem w359 : (.fieldLink RX11 56 "SwapPress" "solver" "LSwapPress$Solver;" : Cond) ∈ TB := mTB (List.mem_of_getElem? (i := 359) (by decide +kernel)) (by decide +kernel)
theorem w360 : (.fieldLink RX11 60 "SwapPress" "trial" "LSwapPress$Solver;" : Cond) ∈ TB := mTB (List.mem_of_getElem? (i := 360) (by decide +kernel)) (by decide +kernel)
theorem w361 : (.fieldLink RX11 66 "SwapPress" "groups" "LSwapPress$Groups;" : Cond) ∈ TB := mTB (List.mem_of_getElem? (i := 361) (by decide +kernel)) (by decide +kernel)
theorem w362 : (.fieldLink RX11 73 "SwapPress" "page" "LSwapPress$Page;" : Cond) ∈ TB := mTB (List.mem_of_getElem? (i := 362) (by decide +kernel)) (by decide +kernel)
theorem w363 : (.fieldLink RX11 80 "SwapPress" "names" "LSwapPress$Names;" : Cond) ∈ TB := mTB (List.mem_of_getElem? (i := 363) (by decide +kernel)) (by decide +kernel)
theorem w364 : (.fieldLink RX11 87 "SwapPress" "book" "LSwapPress$Book;" : Cond) ∈ TB := mTB (List.mem_of_getElem? (i := 364) (by decide +kernel)) (by decide +kernel)
theorem w365 : (.fieldLink RX11 91 "SwapPress" "solvedKind" "I" : Cond) ∈ TB := mTB (List.mem_of_getElem? (i := 365) (by decide +kernel)) (by decide +kernel)
theorem w598 : (.methodLink RX11 118 yX11_noCouple : Cond) ∈ TB := mTB (List.mem_of_getElem? (i := 598) (by decide +kernel)) (by decide +kernel)
theorem w600 : (.instanceMethod yX11_noCouple : Cond) ∈ TB := mTB (List.mem_of_getElem? (i := 600) (by decide +kernel)) (by decide +kernel)
theorem w601 : (.code yX11_noCouple cX11_noCouple 3 (some .boolean) : Cond) ∈ TB := mTB (List.mem_of_getElem? (i := 601) (by decide +kernel)) (by decide +kernel)
theorem w602 : (.methodLink RX11 221 yX11_noParty : Cond) ∈ TB := mTB (List.mem_of_getElem? (i := 602) (by decide +kernel)) (by decide +kernel)
theorem w604 : (.instanceMethod yX11_noParty : Cond) ∈ TB := mTB (List.mem_of_getElem? (i := 604) (by decide +kernel)) (by decide +kernel)
theorem w605 : (.code yX11_noParty cX11_noParty 2 (some .boolean) : Cond) ∈ TB := mTB (List.mem_of_getElem? (i := 605) (by decide +kernel)) (by decide +kernel)
theorem w606 : (.methodLink RX11 122 yX11_noKind : Cond) ∈ TB := mTB (List.mem_of_getElem? (i := 606) (by decide +kernel)) (by decide +kernel)
theorem w608 : (.instanceMethod yX11_noKind : Cond) ∈ TB := mTB (List.mem_of_getElem? (i := 608) (by decide +kernel)) (by decide +kernel)
theorem w609 : (.code yX11_noKind cX11_noKind 2 (some .boolean) : Cond) ∈ TB := mTB (List.mem_of_getElem? (i := 609) (by decide +kernel)) (by decide +kernel)
theorem w639 : (.methodLink RX11 133 yX11_noTrade : Cond) ∈ TB := mTB (List.mem_of_getElem? (i := 639) (by decide +kernel)) (by decide +kernel)
theorem w641 : (.instanceMethod yX11_noTrade : Cond) ∈ TB := mTB (List.mem_of_getElem? (i := 641) (by decide +kernel)) (by decide +kernel)
theorem w642 : (.code yX11_noTrade cX11_noTrade 2 (some .boolean) : Cond) ∈ TB := mTB (List.mem_of_getElem? (i := 642) (by decide +kernel)) (by decide +kernel)
theorem w1076 : (.methodLink RX12 7 objectInit : Cond) ∈ TB := mTB (List.mem_of_getElem? (i := 1076) (by decide +kernel)) (by decide +kernel)
theorem w1077 : (.methodLink RX12 77 yX12_plain : Cond) ∈ TB := mTB (List.mem_of_getElem? (i := 1077) (by decide +kernel)) (by decide +kernel)
theorem w1079 : (.instanceMethod yX12_plain : Cond) ∈ TB := mTB (List.mem_of_getElem? (i := 1079) (by decide +kernel)) (by decide +kernel)
theorem w1080 : (.code yX12_plain cX12_plain 2 none : Cond) ∈ TB := mTB (List.mem_of_getElem? (i := 1080) (by decide +kernel)) (by decide +kernel)
theorem w1081 : (.constant RX12 86 99999999 : Cond) ∈ TB := mTB (List.mem_of_getElem? (i := 1081) (by decide +kernel)) (by decide +kernel)
theorem w1082 : (.fieldLink RX12 13 "SwapPressModel" "s" "[I" : Cond) ∈ TB := mTB (List.mem_of_getElem? (i := 1082) (by decide +kernel)) (by decide +kernel)
theorem w1083 : (.fieldLink RX12 17 "SwapPressModel" "saved" "[I" : Cond) ∈ TB := mTB (List.mem_of_getElem? (i := 1083) (by decide +kernel)) (by decide +kernel)
theorem w1084 : (.fieldLink RX12 20 "SwapPressModel" "acts" "[I" : Cond) ∈ TB := mTB (List.mem_of_getElem? (i := 1084) (by decide +kernel)) (by decide +kernel)
theorem w1085 : (.fieldLink RX12 23 "SwapPressModel" "names" "[J" : Cond) ∈ TB := mTB (List.mem_of_getElem? (i := 1085) (by decide +kernel)) (by decide +kernel)
theorem w1086 : (.fieldLink RX12 27 "SwapPressModel" "savedNames" "[J" : Cond) ∈ TB := mTB (List.mem_of_getElem? (i := 1086) (by decide +kernel)) (by decide +kernel)
theorem w1087 : (.fieldLink RX12 80 "SwapPressModel" "parties" "I" : Cond) ∈ TB := mTB (List.mem_of_getElem? (i := 1087) (by decide +kernel)) (by decide +kernel)
theorem w1088 : (.fieldLink RX12 83 "SwapPressModel" "kinds" "I" : Cond) ∈ TB := mTB (List.mem_of_getElem? (i := 1088) (by decide +kernel)) (by decide +kernel)
theorem w1090 : (.fieldLink RX12 1 "SwapPressModel" "thrown" "I" : Cond) ∈ TB := mTB (List.mem_of_getElem? (i := 1090) (by decide +kernel)) (by decide +kernel)
theorem w1091 : (.fieldLink RX12 30 "SwapPressModel" "tape" "[B" : Cond) ∈ TB := mTB (List.mem_of_getElem? (i := 1091) (by decide +kernel)) (by decide +kernel)
theorem w1096 : (.fieldLink RX12 34 "SwapPressModel" "wrongAt" "I" : Cond) ∈ TB := mTB (List.mem_of_getElem? (i := 1096) (by decide +kernel)) (by decide +kernel)
theorem w1099 : (.fieldLink RX12 37 "SwapPressModel" "flows" "[I" : Cond) ∈ TB := mTB (List.mem_of_getElem? (i := 1099) (by decide +kernel)) (by decide +kernel)
theorem w1100 : (.fieldLink RX12 40 "SwapPressModel" "way" "[I" : Cond) ∈ TB := mTB (List.mem_of_getElem? (i := 1100) (by decide +kernel)) (by decide +kernel)
theorem w1102 : (.fieldLink RX12 43 "SwapPressModel" "rowFrom" "[I" : Cond) ∈ TB := mTB (List.mem_of_getElem? (i := 1102) (by decide +kernel)) (by decide +kernel)
theorem w1103 : (.fieldLink RX12 46 "SwapPressModel" "bounds" "[I" : Cond) ∈ TB := mTB (List.mem_of_getElem? (i := 1103) (by decide +kernel)) (by decide +kernel)
theorem w1104 : (.fieldLink RX12 49 "SwapPressModel" "its0" "[I" : Cond) ∈ TB := mTB (List.mem_of_getElem? (i := 1104) (by decide +kernel)) (by decide +kernel)
theorem w1105 : (.fieldLink RX12 52 "SwapPressModel" "may" "[I" : Cond) ∈ TB := mTB (List.mem_of_getElem? (i := 1105) (by decide +kernel)) (by decide +kernel)
theorem w1106 : (.fieldLink RX12 55 "SwapPressModel" "through" "[I" : Cond) ∈ TB := mTB (List.mem_of_getElem? (i := 1106) (by decide +kernel)) (by decide +kernel)
theorem w1107 : (.fieldLink RX12 58 "SwapPressModel" "needs" "[I" : Cond) ∈ TB := mTB (List.mem_of_getElem? (i := 1107) (by decide +kernel)) (by decide +kernel)
theorem w1108 : (.fieldLink RX12 61 "SwapPressModel" "isFixed" "[Z" : Cond) ∈ TB := mTB (List.mem_of_getElem? (i := 1108) (by decide +kernel)) (by decide +kernel)
theorem w1109 : (.fieldLink RX12 65 "SwapPressModel" "dear" "[I" : Cond) ∈ TB := mTB (List.mem_of_getElem? (i := 1109) (by decide +kernel)) (by decide +kernel)
theorem w1110 : (.fieldLink RX12 68 "SwapPressModel" "by" "[I" : Cond) ∈ TB := mTB (List.mem_of_getElem? (i := 1110) (by decide +kernel)) (by decide +kernel)
theorem w1111 : (.fieldLink RX12 71 "SwapPressModel" "groups" "[I" : Cond) ∈ TB := mTB (List.mem_of_getElem? (i := 1111) (by decide +kernel)) (by decide +kernel)
theorem w1112 : (.fieldLink RX12 74 "SwapPressModel" "bytes" "[I" : Cond) ∈ TB := mTB (List.mem_of_getElem? (i := 1112) (by decide +kernel)) (by decide +kernel)
theorem w1187 : (.methodLink RX12 103 yX12_isIn : Cond) ∈ TB := mTB (List.mem_of_getElem? (i := 1187) (by decide +kernel)) (by decide +kernel)
theorem w1188 : (.static yX12_isIn : Cond) ∈ TB := mTB (List.mem_of_getElem? (i := 1188) (by decide +kernel)) (by decide +kernel)
theorem w1189 : (.code yX12_isIn cX12_isIn 6 (some .boolean) : Cond) ∈ TB := mTB (List.mem_of_getElem? (i := 1189) (by decide +kernel)) (by decide +kernel)
theorem w1280 : (.methodLink RX12 201 yX12_areTwo : Cond) ∈ TB := mTB (List.mem_of_getElem? (i := 1280) (by decide +kernel)) (by decide +kernel)
theorem w1282 : (.instanceMethod yX12_areTwo : Cond) ∈ TB := mTB (List.mem_of_getElem? (i := 1282) (by decide +kernel)) (by decide +kernel)
theorem w1283 : (.code yX12_areTwo cX12_areTwo 3 (some .boolean) : Cond) ∈ TB := mTB (List.mem_of_getElem? (i := 1283) (by decide +kernel)) (by decide +kernel)
theorem w1284 : (.methodLink RX12 198 yX12_isParty : Cond) ∈ TB := mTB (List.mem_of_getElem? (i := 1284) (by decide +kernel)) (by decide +kernel)
theorem w1286 : (.instanceMethod yX12_isParty : Cond) ∈ TB := mTB (List.mem_of_getElem? (i := 1286) (by decide +kernel)) (by decide +kernel)
theorem w1287 : (.code yX12_isParty cX12_isParty 2 (some .boolean) : Cond) ∈ TB := mTB (List.mem_of_getElem? (i := 1287) (by decide +kernel)) (by decide +kernel)
theorem w1288 : (.methodLink RX12 205 yX12_isKind : Cond) ∈ TB := mTB (List.mem_of_getElem? (i := 1288) (by decide +kernel)) (by decide +kernel)
theorem w1290 : (.instanceMethod yX12_isKind : Cond) ∈ TB := mTB (List.mem_of_getElem? (i := 1290) (by decide +kernel)) (by decide +kernel)
theorem w1291 : (.code yX12_isKind cX12_isKind 2 (some .boolean) : Cond) ∈ TB := mTB (List.mem_of_getElem? (i := 1291) (by decide +kernel)) (by decide +kernel)
theorem w1301 : (.methodLink RX12 213 yX12_isTrade : Cond) ∈ TB := mTB (List.mem_of_getElem? (i := 1301) (by decide +kernel)) (by decide +kernel)
theorem w1303 : (.instanceMethod yX12_isTrade : Cond) ∈ TB := mTB (List.mem_of_getElem? (i := 1303) (by decide +kernel)) (by decide +kernel)
theorem w1304 : (.code yX12_isTrade cX12_isTrade 2 (some .boolean) : Cond) ∈ TB := mTB (List.mem_of_getElem? (i := 1304) (by decide +kernel)) (by decide +kernel)
theorem ws22 : (.selects RX11 yX11_noCouple yX11_noCouple : Cond) ∈ TB := mSel (y := yX11_noCouple) (n := 13) (List.mem_of_getElem? (i := 22) (by decide +kernel)) (by decide +kernel)
theorem ws23 : (.selects RX11 yX11_noParty yX11_noParty : Cond) ∈ TB := mSel (y := yX11_noParty) (n := 13) (List.mem_of_getElem? (i := 23) (by decide +kernel)) (by decide +kernel)
theorem ws24 : (.selects RX11 yX11_noKind yX11_noKind : Cond) ∈ TB := mSel (y := yX11_noKind) (n := 13) (List.mem_of_getElem? (i := 24) (by decide +kernel)) (by decide +kernel)
theorem ws28 : (.selects RX11 yX11_noTrade yX11_noTrade : Cond) ∈ TB := mSel (y := yX11_noTrade) (n := 13) (List.mem_of_getElem? (i := 28) (by decide +kernel)) (by decide +kernel)
theorem ws54 : (.selects RX12 yX12_plain yX12_plain : Cond) ∈ TB := mSel (y := yX12_plain) (n := 32) (List.mem_of_getElem? (i := 54) (by decide +kernel)) (by decide +kernel)
theorem ws72 : (.selects RX12 yX12_areTwo yX12_areTwo : Cond) ∈ TB := mSel (y := yX12_areTwo) (n := 32) (List.mem_of_getElem? (i := 72) (by decide +kernel)) (by decide +kernel)
theorem ws73 : (.selects RX12 yX12_isParty yX12_isParty : Cond) ∈ TB := mSel (y := yX12_isParty) (n := 32) (List.mem_of_getElem? (i := 73) (by decide +kernel)) (by decide +kernel)
theorem ws74 : (.selects RX12 yX12_isKind yX12_isKind : Cond) ∈ TB := mSel (y := yX12_isKind) (n := 32) (List.mem_of_getElem? (i := 74) (by decide +kernel)) (by decide +kernel)
theorem ws76 : (.selects RX12 yX12_isTrade yX12_isTrade : Cond) ∈ TB := mSel (y := yX12_isTrade) (n := 32) (List.mem_of_getElem? (i := 76) (by decide +kernel)) (by decide +kernel)
end
section
theorem dJ7_fill_53178_0 : decode cJ7_fill_53178 0 = .ok (.iconst 0, 1) := by decide +kernel
theorem dJ7_fill_53178_1 : decode cJ7_fill_53178 1 = .ok (.istore_n 2, 1) := by decide +kernel
theorem dJ7_fill_53178_2 : decode cJ7_fill_53178 2 = .ok (.aload_n 0, 1) := by decide +kernel
theorem dJ7_fill_53178_3 : decode cJ7_fill_53178 3 = .ok (.arraylength, 1) := by decide +kernel
theorem dJ7_fill_53178_4 : decode cJ7_fill_53178 4 = .ok (.istore_n 3, 1) := by decide +kernel
theorem dJ7_fill_53178_5 : decode cJ7_fill_53178 5 = .ok (.iload_n 2, 1) := by decide +kernel
theorem dJ7_fill_53178_6 : decode cJ7_fill_53178 6 = .ok (.iload_n 3, 1) := by decide +kernel
theorem dJ7_fill_53178_7 : decode cJ7_fill_53178 7 = .ok (.if_icmp .ge 13, 3) := by decide +kernel
theorem dJ7_fill_53178_10 : decode cJ7_fill_53178 10 = .ok (.aload_n 0, 1) := by decide +kernel
theorem dJ7_fill_53178_11 : decode cJ7_fill_53178 11 = .ok (.iload_n 2, 1) := by decide +kernel
theorem dJ7_fill_53178_12 : decode cJ7_fill_53178 12 = .ok (.iload_n 1, 1) := by decide +kernel
theorem dJ7_fill_53178_13 : decode cJ7_fill_53178 13 = .ok (.iastore, 1) := by decide +kernel
theorem dJ7_fill_53178_14 : decode cJ7_fill_53178 14 = .ok (.iinc 2 1, 3) := by decide +kernel
theorem dJ7_fill_53178_17 : decode cJ7_fill_53178 17 = .ok (.goto (-12), 3) := by decide +kernel
theorem dJ7_fill_53178_20 : decode cJ7_fill_53178 20 = .ok (.return_, 1) := by decide +kernel
theorem dX0_init_0 : decode cX0_init 0 = .ok (.aload_n 0, 1) := by decide +kernel
theorem dX0_init_1 : decode cX0_init 1 = .ok (.invokespecial 3, 3) := by decide +kernel
theorem dX0_init_4 : decode cX0_init 4 = .ok (.aload_n 0, 1) := by decide +kernel
theorem dX0_init_5 : decode cX0_init 5 = .ok (.bipush 40, 2) := by decide +kernel
theorem dX0_init_7 : decode cX0_init 7 = .ok (.newarray .int, 2) := by decide +kernel
theorem dX0_init_9 : decode cX0_init 9 = .ok (.putfield 9, 3) := by decide +kernel
theorem dX0_init_12 : decode cX0_init 12 = .ok (.aload_n 0, 1) := by decide +kernel
theorem dX0_init_13 : decode cX0_init 13 = .ok (.bipush 40, 2) := by decide +kernel
theorem dX0_init_15 : decode cX0_init 15 = .ok (.newarray .int, 2) := by decide +kernel
theorem dX0_init_17 : decode cX0_init 17 = .ok (.putfield 15, 3) := by decide +kernel
theorem dX0_init_20 : decode cX0_init 20 = .ok (.aload_n 0, 1) := by decide +kernel
theorem dX0_init_21 : decode cX0_init 21 = .ok (.bipush 40, 2) := by decide +kernel
theorem dX0_init_23 : decode cX0_init 23 = .ok (.newarray .int, 2) := by decide +kernel
theorem dX0_init_25 : decode cX0_init 25 = .ok (.putfield 18, 3) := by decide +kernel
theorem dX0_init_28 : decode cX0_init 28 = .ok (.aload_n 0, 1) := by decide +kernel
theorem dX0_init_29 : decode cX0_init 29 = .ok (.bipush 40, 2) := by decide +kernel
theorem dX0_init_31 : decode cX0_init 31 = .ok (.newarray .long, 2) := by decide +kernel
theorem dX0_init_33 : decode cX0_init 33 = .ok (.putfield 21, 3) := by decide +kernel
theorem dX0_init_36 : decode cX0_init 36 = .ok (.aload_n 0, 1) := by decide +kernel
theorem dX0_init_37 : decode cX0_init 37 = .ok (.bipush 40, 2) := by decide +kernel
theorem dX0_init_39 : decode cX0_init 39 = .ok (.newarray .boolean, 2) := by decide +kernel
theorem dX0_init_41 : decode cX0_init 41 = .ok (.putfield 25, 3) := by decide +kernel
theorem dX0_init_44 : decode cX0_init 44 = .ok (.aload_n 0, 1) := by decide +kernel
theorem dX0_init_45 : decode cX0_init 45 = .ok (.bipush 64, 2) := by decide +kernel
theorem dX0_init_47 : decode cX0_init 47 = .ok (.newarray .int, 2) := by decide +kernel
theorem dX0_init_49 : decode cX0_init 49 = .ok (.putfield 29, 3) := by decide +kernel
theorem dX0_init_52 : decode cX0_init 52 = .ok (.aload_n 0, 1) := by decide +kernel
theorem dX0_init_53 : decode cX0_init 53 = .ok (.getfield 29, 3) := by decide +kernel
theorem dX0_init_56 : decode cX0_init 56 = .ok (.ldc 32, 2) := by decide +kernel
theorem dX0_init_58 : decode cX0_init 58 = .ok (.invokestatic 33, 3) := by decide +kernel
theorem dX0_init_61 : decode cX0_init 61 = .ok (.return_, 1) := by decide +kernel
theorem dX10_init_0 : decode cX10_init 0 = .ok (.aload_n 0, 1) := by decide +kernel
theorem dX10_init_1 : decode cX10_init 1 = .ok (.invokespecial 3, 3) := by decide +kernel
theorem dX10_init_4 : decode cX10_init 4 = .ok (.aload_n 0, 1) := by decide +kernel
theorem dX10_init_5 : decode cX10_init 5 = .ok (.sipush 900, 3) := by decide +kernel
theorem dX10_init_8 : decode cX10_init 8 = .ok (.newarray .byte, 2) := by decide +kernel
theorem dX10_init_10 : decode cX10_init 10 = .ok (.putfield 9, 3) := by decide +kernel
theorem dX10_init_13 : decode cX10_init 13 = .ok (.return_, 1) := by decide +kernel
theorem dX11_bound_0 : decode cX11_bound 0 = .ok (.aload_n 0, 1) := by decide +kernel
theorem dX11_bound_1 : decode cX11_bound 1 = .ok (.iload_n 1, 1) := by decide +kernel
theorem dX11_bound_2 : decode cX11_bound 2 = .ok (.iload_n 2, 1) := by decide +kernel
theorem dX11_bound_3 : decode cX11_bound 3 = .ok (.invokevirtual 118, 3) := by decide +kernel
theorem dX11_bound_6 : decode cX11_bound 6 = .ok (.ifCond .ne 11, 3) := by decide +kernel
theorem dX11_bound_17 : decode cX11_bound 17 = .ok (.bipush (-2), 2) := by decide +kernel
theorem dX11_bound_19 : decode cX11_bound 19 = .ok (.ireturn, 1) := by decide +kernel
theorem dX11_cap_0 : decode cX11_cap 0 = .ok (.aload_n 0, 1) := by decide +kernel
theorem dX11_cap_1 : decode cX11_cap 1 = .ok (.iload_n 1, 1) := by decide +kernel
theorem dX11_cap_2 : decode cX11_cap 2 = .ok (.iload_n 2, 1) := by decide +kernel
theorem dX11_cap_3 : decode cX11_cap 3 = .ok (.invokevirtual 118, 3) := by decide +kernel
theorem dX11_cap_6 : decode cX11_cap 6 = .ok (.ifCond .eq 6, 3) := by decide +kernel
theorem dX11_cap_9 : decode cX11_cap 9 = .ok (.bipush (-2), 2) := by decide +kernel
theorem dX11_cap_11 : decode cX11_cap 11 = .ok (.ireturn, 1) := by decide +kernel
theorem dX11_chain_0 : decode cX11_chain 0 = .ok (.aload_n 0, 1) := by decide +kernel
theorem dX11_chain_1 : decode cX11_chain 1 = .ok (.iload_n 1, 1) := by decide +kernel
theorem dX11_chain_2 : decode cX11_chain 2 = .ok (.invokevirtual 122, 3) := by decide +kernel
theorem dX11_chain_5 : decode cX11_chain 5 = .ok (.ifCond .eq 6, 3) := by decide +kernel
theorem dX11_chain_8 : decode cX11_chain 8 = .ok (.bipush (-2), 2) := by decide +kernel
theorem dX11_chain_10 : decode cX11_chain 10 = .ok (.ireturn, 1) := by decide +kernel
theorem dX11_cleared_0 : decode cX11_cleared 0 = .ok (.aload_n 0, 1) := by decide +kernel
theorem dX11_cleared_1 : decode cX11_cleared 1 = .ok (.iload_n 1, 1) := by decide +kernel
theorem dX11_cleared_2 : decode cX11_cleared 2 = .ok (.invokevirtual 122, 3) := by decide +kernel
theorem dX11_cleared_5 : decode cX11_cleared 5 = .ok (.ifCond .eq 6, 3) := by decide +kernel
theorem dX11_cleared_8 : decode cX11_cleared 8 = .ok (.bipush (-2), 2) := by decide +kernel
theorem dX11_cleared_10 : decode cX11_cleared 10 = .ok (.ireturn, 1) := by decide +kernel
theorem dX11_couples_0 : decode cX11_couples 0 = .ok (.aload_n 0, 1) := by decide +kernel
theorem dX11_couples_1 : decode cX11_couples 1 = .ok (.iload_n 1, 1) := by decide +kernel
theorem dX11_couples_2 : decode cX11_couples 2 = .ok (.invokevirtual 122, 3) := by decide +kernel
theorem dX11_couples_5 : decode cX11_couples 5 = .ok (.ifCond .eq 6, 3) := by decide +kernel
theorem dX11_couples_8 : decode cX11_couples 8 = .ok (.bipush (-2), 2) := by decide +kernel
theorem dX11_couples_10 : decode cX11_couples 10 = .ok (.ireturn, 1) := by decide +kernel
theorem dX11_drop_0 : decode cX11_drop 0 = .ok (.aload_n 0, 1) := by decide +kernel
theorem dX11_drop_1 : decode cX11_drop 1 = .ok (.iload_n 1, 1) := by decide +kernel
theorem dX11_drop_2 : decode cX11_drop 2 = .ok (.invokevirtual 133, 3) := by decide +kernel
theorem dX11_drop_5 : decode cX11_drop 5 = .ok (.ifCond .eq 6, 3) := by decide +kernel
theorem dX11_drop_8 : decode cX11_drop 8 = .ok (.bipush (-2), 2) := by decide +kernel
theorem dX11_drop_10 : decode cX11_drop 10 = .ok (.ireturn, 1) := by decide +kernel
theorem dX11_enough_0 : decode cX11_enough 0 = .ok (.aload_n 0, 1) := by decide +kernel
theorem dX11_enough_1 : decode cX11_enough 1 = .ok (.iload_n 1, 1) := by decide +kernel
theorem dX11_enough_2 : decode cX11_enough 2 = .ok (.iload_n 2, 1) := by decide +kernel
theorem dX11_enough_3 : decode cX11_enough 3 = .ok (.invokevirtual 118, 3) := by decide +kernel
theorem dX11_enough_6 : decode cX11_enough 6 = .ok (.ifCond .ne 11, 3) := by decide +kernel
theorem dX11_enough_17 : decode cX11_enough 17 = .ok (.bipush (-2), 2) := by decide +kernel
theorem dX11_enough_19 : decode cX11_enough 19 = .ok (.ireturn, 1) := by decide +kernel
theorem dX11_even_0 : decode cX11_even 0 = .ok (.aload_n 0, 1) := by decide +kernel
theorem dX11_even_1 : decode cX11_even 1 = .ok (.iload_n 2, 1) := by decide +kernel
theorem dX11_even_2 : decode cX11_even 2 = .ok (.invokevirtual 122, 3) := by decide +kernel
theorem dX11_even_5 : decode cX11_even 5 = .ok (.ifCond .ne 15, 3) := by decide +kernel
theorem dX11_even_20 : decode cX11_even 20 = .ok (.bipush (-2), 2) := by decide +kernel
theorem dX11_even_22 : decode cX11_even 22 = .ok (.ireturn, 1) := by decide +kernel
theorem dX11_fewest_0 : decode cX11_fewest 0 = .ok (.aload_n 0, 1) := by decide +kernel
theorem dX11_fewest_1 : decode cX11_fewest 1 = .ok (.iload_n 1, 1) := by decide +kernel
theorem dX11_fewest_2 : decode cX11_fewest 2 = .ok (.invokevirtual 122, 3) := by decide +kernel
theorem dX11_fewest_5 : decode cX11_fewest 5 = .ok (.ifCond .eq 6, 3) := by decide +kernel
theorem dX11_fewest_8 : decode cX11_fewest 8 = .ok (.bipush (-2), 2) := by decide +kernel
theorem dX11_fewest_10 : decode cX11_fewest 10 = .ok (.ireturn, 1) := by decide +kernel
theorem dX11_flow_0 : decode cX11_flow 0 = .ok (.aload_n 0, 1) := by decide +kernel
theorem dX11_flow_1 : decode cX11_flow 1 = .ok (.iload_n 1, 1) := by decide +kernel
theorem dX11_flow_2 : decode cX11_flow 2 = .ok (.iload_n 2, 1) := by decide +kernel
theorem dX11_flow_3 : decode cX11_flow 3 = .ok (.invokevirtual 118, 3) := by decide +kernel
theorem dX11_flow_6 : decode cX11_flow 6 = .ok (.ifCond .ne 11, 3) := by decide +kernel
theorem dX11_flow_17 : decode cX11_flow 17 = .ok (.bipush (-2), 2) := by decide +kernel
theorem dX11_flow_19 : decode cX11_flow 19 = .ok (.ireturn, 1) := by decide +kernel
theorem dX11_gain_0 : decode cX11_gain 0 = .ok (.aload_n 0, 1) := by decide +kernel
theorem dX11_gain_1 : decode cX11_gain 1 = .ok (.iload_n 1, 1) := by decide +kernel
theorem dX11_gain_2 : decode cX11_gain 2 = .ok (.iload_n 2, 1) := by decide +kernel
theorem dX11_gain_3 : decode cX11_gain 3 = .ok (.invokevirtual 118, 3) := by decide +kernel
theorem dX11_gain_6 : decode cX11_gain 6 = .ok (.ifCond .ne 11, 3) := by decide +kernel
theorem dX11_gain_17 : decode cX11_gain 17 = .ok (.bipush (-2), 2) := by decide +kernel
theorem dX11_gain_19 : decode cX11_gain 19 = .ok (.ireturn, 1) := by decide +kernel
theorem dX11_init_0 : decode cX11_init 0 = .ok (.aload_n 0, 1) := by decide +kernel
theorem dX11_init_1 : decode cX11_init 1 = .ok (.invokespecial 3, 3) := by decide +kernel
theorem dX11_init_4 : decode cX11_init 4 = .ok (.aload_n 0, 1) := by decide +kernel
theorem dX11_init_5 : decode cX11_init 5 = .ok (.new 9, 3) := by decide +kernel
theorem dX11_init_8 : decode cX11_init 8 = .ok (.dup, 1) := by decide +kernel
theorem dX11_init_9 : decode cX11_init 9 = .ok (.invokespecial 11, 3) := by decide +kernel
theorem dX11_init_12 : decode cX11_init 12 = .ok (.putfield 12, 3) := by decide +kernel
theorem dX11_init_15 : decode cX11_init 15 = .ok (.aload_n 0, 1) := by decide +kernel
theorem dX11_init_16 : decode cX11_init 16 = .ok (.new 16, 3) := by decide +kernel
theorem dX11_init_19 : decode cX11_init 19 = .ok (.dup, 1) := by decide +kernel
theorem dX11_init_20 : decode cX11_init 20 = .ok (.aload_n 0, 1) := by decide +kernel
theorem dX11_init_21 : decode cX11_init 21 = .ok (.getfield 12, 3) := by decide +kernel
theorem dX11_init_24 : decode cX11_init 24 = .ok (.invokespecial 18, 3) := by decide +kernel
theorem dX11_init_27 : decode cX11_init 27 = .ok (.putfield 21, 3) := by decide +kernel
theorem dX11_init_30 : decode cX11_init 30 = .ok (.aload_n 0, 1) := by decide +kernel
theorem dX11_init_31 : decode cX11_init 31 = .ok (.new 25, 3) := by decide +kernel
theorem dX11_init_34 : decode cX11_init 34 = .ok (.dup, 1) := by decide +kernel
theorem dX11_init_35 : decode cX11_init 35 = .ok (.invokespecial 27, 3) := by decide +kernel
theorem dX11_init_38 : decode cX11_init 38 = .ok (.putfield 28, 3) := by decide +kernel
theorem dX11_init_41 : decode cX11_init 41 = .ok (.aload_n 0, 1) := by decide +kernel
theorem dX11_init_42 : decode cX11_init 42 = .ok (.new 32, 3) := by decide +kernel
theorem dX11_init_45 : decode cX11_init 45 = .ok (.dup, 1) := by decide +kernel
theorem dX11_init_46 : decode cX11_init 46 = .ok (.invokespecial 34, 3) := by decide +kernel
theorem dX11_init_49 : decode cX11_init 49 = .ok (.putfield 35, 3) := by decide +kernel
theorem dX11_init_52 : decode cX11_init 52 = .ok (.aload_n 0, 1) := by decide +kernel
theorem dX11_init_53 : decode cX11_init 53 = .ok (.new 39, 3) := by decide +kernel
theorem dX11_init_56 : decode cX11_init 56 = .ok (.dup, 1) := by decide +kernel
theorem dX11_init_57 : decode cX11_init 57 = .ok (.invokespecial 41, 3) := by decide +kernel
theorem dX11_init_60 : decode cX11_init 60 = .ok (.putfield 42, 3) := by decide +kernel
theorem dX11_init_63 : decode cX11_init 63 = .ok (.aload_n 0, 1) := by decide +kernel
theorem dX11_init_64 : decode cX11_init 64 = .ok (.new 46, 3) := by decide +kernel
theorem dX11_init_67 : decode cX11_init 67 = .ok (.dup, 1) := by decide +kernel
theorem dX11_init_68 : decode cX11_init 68 = .ok (.invokespecial 48, 3) := by decide +kernel
theorem dX11_init_71 : decode cX11_init 71 = .ok (.putfield 49, 3) := by decide +kernel
theorem dX11_init_74 : decode cX11_init 74 = .ok (.aload_n 0, 1) := by decide +kernel
theorem dX11_init_75 : decode cX11_init 75 = .ok (.new 53, 3) := by decide +kernel
theorem dX11_init_78 : decode cX11_init 78 = .ok (.dup, 1) := by decide +kernel
theorem dX11_init_79 : decode cX11_init 79 = .ok (.invokespecial 55, 3) := by decide +kernel
theorem dX11_init_82 : decode cX11_init 82 = .ok (.putfield 56, 3) := by decide +kernel
theorem dX11_init_85 : decode cX11_init 85 = .ok (.aload_n 0, 1) := by decide +kernel
theorem dX11_init_86 : decode cX11_init 86 = .ok (.new 53, 3) := by decide +kernel
theorem dX11_init_89 : decode cX11_init 89 = .ok (.dup, 1) := by decide +kernel
theorem dX11_init_90 : decode cX11_init 90 = .ok (.invokespecial 55, 3) := by decide +kernel
theorem dX11_init_93 : decode cX11_init 93 = .ok (.putfield 60, 3) := by decide +kernel
theorem dX11_init_96 : decode cX11_init 96 = .ok (.aload_n 0, 1) := by decide +kernel
theorem dX11_init_97 : decode cX11_init 97 = .ok (.new 63, 3) := by decide +kernel
theorem dX11_init_100 : decode cX11_init 100 = .ok (.dup, 1) := by decide +kernel
theorem dX11_init_101 : decode cX11_init 101 = .ok (.invokespecial 65, 3) := by decide +kernel
theorem dX11_init_104 : decode cX11_init 104 = .ok (.putfield 66, 3) := by decide +kernel
theorem dX11_init_107 : decode cX11_init 107 = .ok (.aload_n 0, 1) := by decide +kernel
theorem dX11_init_108 : decode cX11_init 108 = .ok (.new 70, 3) := by decide +kernel
theorem dX11_init_111 : decode cX11_init 111 = .ok (.dup, 1) := by decide +kernel
theorem dX11_init_112 : decode cX11_init 112 = .ok (.invokespecial 72, 3) := by decide +kernel
theorem dX11_init_115 : decode cX11_init 115 = .ok (.putfield 73, 3) := by decide +kernel
theorem dX11_init_118 : decode cX11_init 118 = .ok (.aload_n 0, 1) := by decide +kernel
theorem dX11_init_119 : decode cX11_init 119 = .ok (.new 77, 3) := by decide +kernel
theorem dX11_init_122 : decode cX11_init 122 = .ok (.dup, 1) := by decide +kernel
theorem dX11_init_123 : decode cX11_init 123 = .ok (.invokespecial 79, 3) := by decide +kernel
theorem dX11_init_126 : decode cX11_init 126 = .ok (.putfield 80, 3) := by decide +kernel
theorem dX11_init_129 : decode cX11_init 129 = .ok (.aload_n 0, 1) := by decide +kernel
theorem dX11_init_130 : decode cX11_init 130 = .ok (.new 84, 3) := by decide +kernel
theorem dX11_init_133 : decode cX11_init 133 = .ok (.dup, 1) := by decide +kernel
theorem dX11_init_134 : decode cX11_init 134 = .ok (.invokespecial 86, 3) := by decide +kernel
theorem dX11_init_137 : decode cX11_init 137 = .ok (.putfield 87, 3) := by decide +kernel
theorem dX11_init_140 : decode cX11_init 140 = .ok (.aload_n 0, 1) := by decide +kernel
theorem dX11_init_141 : decode cX11_init 141 = .ok (.iconst (-1), 1) := by decide +kernel
theorem dX11_init_142 : decode cX11_init 142 = .ok (.putfield 91, 3) := by decide +kernel
theorem dX11_init_145 : decode cX11_init 145 = .ok (.return_, 1) := by decide +kernel
theorem dX11_keep_0 : decode cX11_keep 0 = .ok (.aload_n 0, 1) := by decide +kernel
theorem dX11_keep_1 : decode cX11_keep 1 = .ok (.iload_n 1, 1) := by decide +kernel
theorem dX11_keep_2 : decode cX11_keep 2 = .ok (.invokevirtual 133, 3) := by decide +kernel
theorem dX11_keep_5 : decode cX11_keep 5 = .ok (.ifCond .eq 6, 3) := by decide +kernel
theorem dX11_keep_8 : decode cX11_keep 8 = .ok (.bipush (-2), 2) := by decide +kernel
theorem dX11_keep_10 : decode cX11_keep 10 = .ok (.ireturn, 1) := by decide +kernel
theorem dX11_least_0 : decode cX11_least 0 = .ok (.aload_n 0, 1) := by decide +kernel
theorem dX11_least_1 : decode cX11_least 1 = .ok (.iload_n 1, 1) := by decide +kernel
theorem dX11_least_2 : decode cX11_least 2 = .ok (.invokevirtual 122, 3) := by decide +kernel
theorem dX11_least_5 : decode cX11_least 5 = .ok (.ifCond .eq 6, 3) := by decide +kernel
theorem dX11_least_8 : decode cX11_least 8 = .ok (.bipush (-2), 2) := by decide +kernel
theorem dX11_least_10 : decode cX11_least 10 = .ok (.ireturn, 1) := by decide +kernel
theorem dX11_line_0 : decode cX11_line 0 = .ok (.aload_n 0, 1) := by decide +kernel
theorem dX11_line_1 : decode cX11_line 1 = .ok (.iload_n 1, 1) := by decide +kernel
theorem dX11_line_2 : decode cX11_line 2 = .ok (.invokevirtual 133, 3) := by decide +kernel
theorem dX11_line_5 : decode cX11_line 5 = .ok (.ifCond .eq 6, 3) := by decide +kernel
theorem dX11_line_8 : decode cX11_line 8 = .ok (.bipush (-2), 2) := by decide +kernel
theorem dX11_line_10 : decode cX11_line 10 = .ok (.ireturn, 1) := by decide +kernel
theorem dX11_load_0 : decode cX11_load 0 = .ok (.aload_n 0, 1) := by decide +kernel
theorem dX11_load_1 : decode cX11_load 1 = .ok (.iload_n 1, 1) := by decide +kernel
theorem dX11_load_2 : decode cX11_load 2 = .ok (.invokevirtual 122, 3) := by decide +kernel
theorem dX11_load_5 : decode cX11_load 5 = .ok (.ifCond .eq 6, 3) := by decide +kernel
theorem dX11_load_8 : decode cX11_load 8 = .ok (.bipush (-2), 2) := by decide +kernel
theorem dX11_load_10 : decode cX11_load 10 = .ok (.ireturn, 1) := by decide +kernel
theorem dX11_net_0 : decode cX11_net 0 = .ok (.aload_n 0, 1) := by decide +kernel
theorem dX11_net_1 : decode cX11_net 1 = .ok (.iload_n 1, 1) := by decide +kernel
theorem dX11_net_2 : decode cX11_net 2 = .ok (.invokevirtual 221, 3) := by decide +kernel
theorem dX11_net_5 : decode cX11_net 5 = .ok (.ifCond .ne 11, 3) := by decide +kernel
theorem dX11_net_16 : decode cX11_net 16 = .ok (.bipush (-2), 2) := by decide +kernel
theorem dX11_net_18 : decode cX11_net 18 = .ok (.ireturn, 1) := by decide +kernel
theorem dX11_noCouple_0 : decode cX11_noCouple 0 = .ok (.aload_n 0, 1) := by decide +kernel
theorem dX11_noCouple_1 : decode cX11_noCouple 1 = .ok (.iload_n 1, 1) := by decide +kernel
theorem dX11_noCouple_2 : decode cX11_noCouple 2 = .ok (.invokevirtual 221, 3) := by decide +kernel
theorem dX11_noCouple_5 : decode cX11_noCouple 5 = .ok (.ifCond .ne 16, 3) := by decide +kernel
theorem dX11_noCouple_21 : decode cX11_noCouple 21 = .ok (.iconst 1, 1) := by decide +kernel
theorem dX11_noCouple_22 : decode cX11_noCouple 22 = .ok (.goto 4, 3) := by decide +kernel
theorem dX11_noCouple_26 : decode cX11_noCouple 26 = .ok (.ireturn, 1) := by decide +kernel
theorem dX11_noKind_0 : decode cX11_noKind 0 = .ok (.iload_n 1, 1) := by decide +kernel
theorem dX11_noKind_1 : decode cX11_noKind 1 = .ok (.ifCond .lt 14, 3) := by decide +kernel
theorem dX11_noKind_4 : decode cX11_noKind 4 = .ok (.iload_n 1, 1) := by decide +kernel
theorem dX11_noKind_5 : decode cX11_noKind 5 = .ok (.aload_n 0, 1) := by decide +kernel
theorem dX11_noKind_6 : decode cX11_noKind 6 = .ok (.getfield 80, 3) := by decide +kernel
theorem dX11_noKind_9 : decode cX11_noKind 9 = .ok (.getfield 314, 3) := by decide +kernel
theorem dX11_noKind_12 : decode cX11_noKind 12 = .ok (.if_icmp .lt 7, 3) := by decide +kernel
theorem dX11_noKind_15 : decode cX11_noKind 15 = .ok (.iconst 1, 1) := by decide +kernel
theorem dX11_noKind_16 : decode cX11_noKind 16 = .ok (.goto 4, 3) := by decide +kernel
theorem dX11_noKind_20 : decode cX11_noKind 20 = .ok (.ireturn, 1) := by decide +kernel
theorem dX11_noParty_0 : decode cX11_noParty 0 = .ok (.iload_n 1, 1) := by decide +kernel
theorem dX11_noParty_1 : decode cX11_noParty 1 = .ok (.ifCond .lt 14, 3) := by decide +kernel
theorem dX11_noParty_4 : decode cX11_noParty 4 = .ok (.iload_n 1, 1) := by decide +kernel
theorem dX11_noParty_5 : decode cX11_noParty 5 = .ok (.aload_n 0, 1) := by decide +kernel
theorem dX11_noParty_6 : decode cX11_noParty 6 = .ok (.getfield 80, 3) := by decide +kernel
theorem dX11_noParty_9 : decode cX11_noParty 9 = .ok (.getfield 191, 3) := by decide +kernel
theorem dX11_noParty_12 : decode cX11_noParty 12 = .ok (.if_icmp .lt 7, 3) := by decide +kernel
theorem dX11_noParty_15 : decode cX11_noParty 15 = .ok (.iconst 1, 1) := by decide +kernel
theorem dX11_noParty_16 : decode cX11_noParty 16 = .ok (.goto 4, 3) := by decide +kernel
theorem dX11_noParty_20 : decode cX11_noParty 20 = .ok (.ireturn, 1) := by decide +kernel
theorem dX11_noTrade_0 : decode cX11_noTrade 0 = .ok (.iload_n 1, 1) := by decide +kernel
theorem dX11_noTrade_1 : decode cX11_noTrade 1 = .ok (.ifCond .lt 14, 3) := by decide +kernel
theorem dX11_noTrade_4 : decode cX11_noTrade 4 = .ok (.iload_n 1, 1) := by decide +kernel
theorem dX11_noTrade_5 : decode cX11_noTrade 5 = .ok (.aload_n 0, 1) := by decide +kernel
theorem dX11_noTrade_6 : decode cX11_noTrade 6 = .ok (.getfield 87, 3) := by decide +kernel
theorem dX11_noTrade_9 : decode cX11_noTrade 9 = .ok (.getfield 114, 3) := by decide +kernel
theorem dX11_noTrade_12 : decode cX11_noTrade 12 = .ok (.if_icmp .lt 7, 3) := by decide +kernel
theorem dX11_noTrade_15 : decode cX11_noTrade 15 = .ok (.iconst 1, 1) := by decide +kernel
theorem dX11_noTrade_16 : decode cX11_noTrade 16 = .ok (.goto 4, 3) := by decide +kernel
theorem dX11_noTrade_20 : decode cX11_noTrade 20 = .ok (.ireturn, 1) := by decide +kernel
theorem dX11_press_0 : decode cX11_press 0 = .ok (.aload_n 0, 1) := by decide +kernel
theorem dX11_press_1 : decode cX11_press 1 = .ok (.iload_n 1, 1) := by decide +kernel
theorem dX11_press_2 : decode cX11_press 2 = .ok (.invokevirtual 122, 3) := by decide +kernel
theorem dX11_press_5 : decode cX11_press 5 = .ok (.ifCond .eq 6, 3) := by decide +kernel
theorem dX11_press_8 : decode cX11_press 8 = .ok (.bipush (-2), 2) := by decide +kernel
theorem dX11_press_10 : decode cX11_press 10 = .ok (.ireturn, 1) := by decide +kernel
theorem dX11_pressed_0 : decode cX11_pressed 0 = .ok (.aload_n 0, 1) := by decide +kernel
theorem dX11_pressed_1 : decode cX11_pressed 1 = .ok (.iload_n 1, 1) := by decide +kernel
theorem dX11_pressed_2 : decode cX11_pressed 2 = .ok (.iload_n 2, 1) := by decide +kernel
theorem dX11_pressed_3 : decode cX11_pressed 3 = .ok (.invokevirtual 118, 3) := by decide +kernel
theorem dX11_pressed_6 : decode cX11_pressed 6 = .ok (.ifCond .ne 11, 3) := by decide +kernel
theorem dX11_pressed_17 : decode cX11_pressed 17 = .ok (.bipush (-2), 2) := by decide +kernel
theorem dX11_pressed_19 : decode cX11_pressed 19 = .ok (.ireturn, 1) := by decide +kernel
theorem dX11_relief_0 : decode cX11_relief 0 = .ok (.aload_n 0, 1) := by decide +kernel
theorem dX11_relief_1 : decode cX11_relief 1 = .ok (.iload_n 1, 1) := by decide +kernel
theorem dX11_relief_2 : decode cX11_relief 2 = .ok (.invokevirtual 221, 3) := by decide +kernel
theorem dX11_relief_5 : decode cX11_relief 5 = .ok (.ifCond .ne 11, 3) := by decide +kernel
theorem dX11_relief_16 : decode cX11_relief 16 = .ok (.bipush (-2), 2) := by decide +kernel
theorem dX11_relief_18 : decode cX11_relief 18 = .ok (.ireturn, 1) := by decide +kernel
theorem dX11_relieved_0 : decode cX11_relieved 0 = .ok (.aload_n 0, 1) := by decide +kernel
theorem dX11_relieved_1 : decode cX11_relieved 1 = .ok (.iload_n 1, 1) := by decide +kernel
theorem dX11_relieved_2 : decode cX11_relieved 2 = .ok (.invokevirtual 122, 3) := by decide +kernel
theorem dX11_relieved_5 : decode cX11_relieved 5 = .ok (.ifCond .eq 6, 3) := by decide +kernel
theorem dX11_relieved_8 : decode cX11_relieved 8 = .ok (.bipush (-2), 2) := by decide +kernel
theorem dX11_relieved_10 : decode cX11_relieved 10 = .ok (.ireturn, 1) := by decide +kernel
theorem dX11_ring_0 : decode cX11_ring 0 = .ok (.aload_n 0, 1) := by decide +kernel
theorem dX11_ring_1 : decode cX11_ring 1 = .ok (.iload_n 1, 1) := by decide +kernel
theorem dX11_ring_2 : decode cX11_ring 2 = .ok (.invokevirtual 122, 3) := by decide +kernel
theorem dX11_ring_5 : decode cX11_ring 5 = .ok (.ifCond .eq 6, 3) := by decide +kernel
theorem dX11_ring_8 : decode cX11_ring 8 = .ok (.bipush (-2), 2) := by decide +kernel
theorem dX11_ring_10 : decode cX11_ring 10 = .ok (.ireturn, 1) := by decide +kernel
theorem dX11_rounds_0 : decode cX11_rounds 0 = .ok (.aload_n 0, 1) := by decide +kernel
theorem dX11_rounds_1 : decode cX11_rounds 1 = .ok (.iload_n 1, 1) := by decide +kernel
theorem dX11_rounds_2 : decode cX11_rounds 2 = .ok (.invokevirtual 122, 3) := by decide +kernel
theorem dX11_rounds_5 : decode cX11_rounds 5 = .ok (.ifCond .eq 6, 3) := by decide +kernel
theorem dX11_rounds_8 : decode cX11_rounds 8 = .ok (.bipush (-2), 2) := by decide +kernel
theorem dX11_rounds_10 : decode cX11_rounds 10 = .ok (.ireturn, 1) := by decide +kernel
theorem dX11_side_0 : decode cX11_side 0 = .ok (.aload_n 0, 1) := by decide +kernel
theorem dX11_side_1 : decode cX11_side 1 = .ok (.iload_n 1, 1) := by decide +kernel
theorem dX11_side_2 : decode cX11_side 2 = .ok (.invokevirtual 221, 3) := by decide +kernel
theorem dX11_side_5 : decode cX11_side 5 = .ok (.ifCond .ne 11, 3) := by decide +kernel
theorem dX11_side_16 : decode cX11_side 16 = .ok (.bipush (-2), 2) := by decide +kernel
theorem dX11_side_18 : decode cX11_side 18 = .ok (.ireturn, 1) := by decide +kernel
theorem dX11_span_0 : decode cX11_span 0 = .ok (.aload_n 0, 1) := by decide +kernel
theorem dX11_span_1 : decode cX11_span 1 = .ok (.iload_n 1, 1) := by decide +kernel
theorem dX11_span_2 : decode cX11_span 2 = .ok (.iload_n 2, 1) := by decide +kernel
theorem dX11_span_3 : decode cX11_span 3 = .ok (.invokevirtual 118, 3) := by decide +kernel
theorem dX11_span_6 : decode cX11_span 6 = .ok (.ifCond .ne 11, 3) := by decide +kernel
theorem dX11_span_17 : decode cX11_span 17 = .ok (.bipush (-2), 2) := by decide +kernel
theorem dX11_span_19 : decode cX11_span 19 = .ok (.ireturn, 1) := by decide +kernel
theorem dX11_takeRing_0 : decode cX11_takeRing 0 = .ok (.aload_n 0, 1) := by decide +kernel
theorem dX11_takeRing_1 : decode cX11_takeRing 1 = .ok (.iload_n 1, 1) := by decide +kernel
theorem dX11_takeRing_2 : decode cX11_takeRing 2 = .ok (.invokevirtual 122, 3) := by decide +kernel
theorem dX11_takeRing_5 : decode cX11_takeRing 5 = .ok (.ifCond .eq 6, 3) := by decide +kernel
theorem dX11_takeRing_8 : decode cX11_takeRing 8 = .ok (.bipush (-2), 2) := by decide +kernel
theorem dX11_takeRing_10 : decode cX11_takeRing 10 = .ok (.ireturn, 1) := by decide +kernel
theorem dX11_through_0 : decode cX11_through 0 = .ok (.aload_n 0, 1) := by decide +kernel
theorem dX11_through_1 : decode cX11_through 1 = .ok (.iload_n 1, 1) := by decide +kernel
theorem dX11_through_2 : decode cX11_through 2 = .ok (.invokevirtual 221, 3) := by decide +kernel
theorem dX11_through_5 : decode cX11_through 5 = .ok (.ifCond .ne 11, 3) := by decide +kernel
theorem dX11_through_16 : decode cX11_through 16 = .ok (.bipush (-2), 2) := by decide +kernel
theorem dX11_through_18 : decode cX11_through 18 = .ok (.ireturn, 1) := by decide +kernel
theorem dX11_total_0 : decode cX11_total 0 = .ok (.aload_n 0, 1) := by decide +kernel
theorem dX11_total_1 : decode cX11_total 1 = .ok (.iload_n 1, 1) := by decide +kernel
theorem dX11_total_2 : decode cX11_total 2 = .ok (.invokevirtual 122, 3) := by decide +kernel
theorem dX11_total_5 : decode cX11_total 5 = .ok (.ifCond .eq 6, 3) := by decide +kernel
theorem dX11_total_8 : decode cX11_total 8 = .ok (.bipush (-2), 2) := by decide +kernel
theorem dX11_total_10 : decode cX11_total 10 = .ok (.ireturn, 1) := by decide +kernel
theorem dX11_trade_0 : decode cX11_trade 0 = .ok (.aload_n 0, 1) := by decide +kernel
theorem dX11_trade_1 : decode cX11_trade 1 = .ok (.iload_n 1, 1) := by decide +kernel
theorem dX11_trade_2 : decode cX11_trade 2 = .ok (.iload_n 2, 1) := by decide +kernel
theorem dX11_trade_3 : decode cX11_trade 3 = .ok (.invokevirtual 118, 3) := by decide +kernel
theorem dX11_trade_6 : decode cX11_trade 6 = .ok (.ifCond .ne 12, 3) := by decide +kernel
theorem dX11_trade_18 : decode cX11_trade 18 = .ok (.bipush (-2), 2) := by decide +kernel
theorem dX11_trade_20 : decode cX11_trade 20 = .ok (.ireturn, 1) := by decide +kernel
theorem dX11_tradeOf_0 : decode cX11_tradeOf 0 = .ok (.aload_n 0, 1) := by decide +kernel
theorem dX11_tradeOf_1 : decode cX11_tradeOf 1 = .ok (.iload_n 1, 1) := by decide +kernel
theorem dX11_tradeOf_2 : decode cX11_tradeOf 2 = .ok (.invokevirtual 133, 3) := by decide +kernel
theorem dX11_tradeOf_5 : decode cX11_tradeOf 5 = .ok (.ifCond .eq 6, 3) := by decide +kernel
theorem dX11_tradeOf_8 : decode cX11_tradeOf 8 = .ok (.bipush (-2), 2) := by decide +kernel
theorem dX11_tradeOf_10 : decode cX11_tradeOf 10 = .ok (.ireturn, 1) := by decide +kernel
theorem dX11_without_0 : decode cX11_without 0 = .ok (.aload_n 0, 1) := by decide +kernel
theorem dX11_without_1 : decode cX11_without 1 = .ok (.iload_n 1, 1) := by decide +kernel
theorem dX11_without_2 : decode cX11_without 2 = .ok (.invokevirtual 221, 3) := by decide +kernel
theorem dX11_without_5 : decode cX11_without 5 = .ok (.ifCond .ne 11, 3) := by decide +kernel
theorem dX11_without_16 : decode cX11_without 16 = .ok (.bipush (-2), 2) := by decide +kernel
theorem dX11_without_18 : decode cX11_without 18 = .ok (.ireturn, 1) := by decide +kernel
theorem dX12_areTwo_0 : decode cX12_areTwo 0 = .ok (.aload_n 0, 1) := by decide +kernel
theorem dX12_areTwo_1 : decode cX12_areTwo 1 = .ok (.iload_n 1, 1) := by decide +kernel
theorem dX12_areTwo_2 : decode cX12_areTwo 2 = .ok (.invokevirtual 198, 3) := by decide +kernel
theorem dX12_areTwo_5 : decode cX12_areTwo 5 = .ok (.ifCond .eq 20, 3) := by decide +kernel
theorem dX12_areTwo_25 : decode cX12_areTwo 25 = .ok (.iconst 0, 1) := by decide +kernel
theorem dX12_areTwo_26 : decode cX12_areTwo 26 = .ok (.ireturn, 1) := by decide +kernel
theorem dX12_bound_0 : decode cX12_bound 0 = .ok (.aload_n 0, 1) := by decide +kernel
theorem dX12_bound_1 : decode cX12_bound 1 = .ok (.iconst 0, 1) := by decide +kernel
theorem dX12_bound_2 : decode cX12_bound 2 = .ok (.putfield 1, 3) := by decide +kernel
theorem dX12_bound_5 : decode cX12_bound 5 = .ok (.aload_n 0, 1) := by decide +kernel
theorem dX12_bound_6 : decode cX12_bound 6 = .ok (.iload_n 1, 1) := by decide +kernel
theorem dX12_bound_7 : decode cX12_bound 7 = .ok (.iload_n 2, 1) := by decide +kernel
theorem dX12_bound_8 : decode cX12_bound 8 = .ok (.invokevirtual 201, 3) := by decide +kernel
theorem dX12_bound_11 : decode cX12_bound 11 = .ok (.ifCond .eq 11, 3) := by decide +kernel
theorem dX12_bound_22 : decode cX12_bound 22 = .ok (.bipush (-2), 2) := by decide +kernel
theorem dX12_bound_24 : decode cX12_bound 24 = .ok (.ireturn, 1) := by decide +kernel
theorem dX12_cap_0 : decode cX12_cap 0 = .ok (.aload_n 0, 1) := by decide +kernel
theorem dX12_cap_1 : decode cX12_cap 1 = .ok (.iconst 0, 1) := by decide +kernel
theorem dX12_cap_2 : decode cX12_cap 2 = .ok (.putfield 1, 3) := by decide +kernel
theorem dX12_cap_5 : decode cX12_cap 5 = .ok (.aload_n 0, 1) := by decide +kernel
theorem dX12_cap_6 : decode cX12_cap 6 = .ok (.iload_n 1, 1) := by decide +kernel
theorem dX12_cap_7 : decode cX12_cap 7 = .ok (.iload_n 2, 1) := by decide +kernel
theorem dX12_cap_8 : decode cX12_cap 8 = .ok (.invokevirtual 201, 3) := by decide +kernel
theorem dX12_cap_11 : decode cX12_cap 11 = .ok (.ifCond .ne 6, 3) := by decide +kernel
theorem dX12_cap_14 : decode cX12_cap 14 = .ok (.bipush (-2), 2) := by decide +kernel
theorem dX12_cap_16 : decode cX12_cap 16 = .ok (.ireturn, 1) := by decide +kernel
theorem dX12_chain_0 : decode cX12_chain 0 = .ok (.aload_n 0, 1) := by decide +kernel
theorem dX12_chain_1 : decode cX12_chain 1 = .ok (.iconst 0, 1) := by decide +kernel
theorem dX12_chain_2 : decode cX12_chain 2 = .ok (.putfield 1, 3) := by decide +kernel
theorem dX12_chain_5 : decode cX12_chain 5 = .ok (.aload_n 0, 1) := by decide +kernel
theorem dX12_chain_6 : decode cX12_chain 6 = .ok (.iload_n 1, 1) := by decide +kernel
theorem dX12_chain_7 : decode cX12_chain 7 = .ok (.invokevirtual 205, 3) := by decide +kernel
theorem dX12_chain_10 : decode cX12_chain 10 = .ok (.ifCond .ne 6, 3) := by decide +kernel
theorem dX12_chain_13 : decode cX12_chain 13 = .ok (.bipush (-2), 2) := by decide +kernel
theorem dX12_chain_15 : decode cX12_chain 15 = .ok (.ireturn, 1) := by decide +kernel
theorem dX12_cleared_0 : decode cX12_cleared 0 = .ok (.aload_n 0, 1) := by decide +kernel
theorem dX12_cleared_1 : decode cX12_cleared 1 = .ok (.iconst 0, 1) := by decide +kernel
theorem dX12_cleared_2 : decode cX12_cleared 2 = .ok (.putfield 1, 3) := by decide +kernel
theorem dX12_cleared_5 : decode cX12_cleared 5 = .ok (.aload_n 0, 1) := by decide +kernel
theorem dX12_cleared_6 : decode cX12_cleared 6 = .ok (.iload_n 1, 1) := by decide +kernel
theorem dX12_cleared_7 : decode cX12_cleared 7 = .ok (.invokevirtual 205, 3) := by decide +kernel
theorem dX12_cleared_10 : decode cX12_cleared 10 = .ok (.ifCond .eq 15, 3) := by decide +kernel
theorem dX12_cleared_25 : decode cX12_cleared 25 = .ok (.bipush (-2), 2) := by decide +kernel
theorem dX12_cleared_27 : decode cX12_cleared 27 = .ok (.ireturn, 1) := by decide +kernel
theorem dX12_couples_0 : decode cX12_couples 0 = .ok (.aload_n 0, 1) := by decide +kernel
theorem dX12_couples_1 : decode cX12_couples 1 = .ok (.iconst 0, 1) := by decide +kernel
theorem dX12_couples_2 : decode cX12_couples 2 = .ok (.putfield 1, 3) := by decide +kernel
theorem dX12_couples_5 : decode cX12_couples 5 = .ok (.aload_n 0, 1) := by decide +kernel
theorem dX12_couples_6 : decode cX12_couples 6 = .ok (.iload_n 1, 1) := by decide +kernel
theorem dX12_couples_7 : decode cX12_couples 7 = .ok (.invokevirtual 205, 3) := by decide +kernel
theorem dX12_couples_10 : decode cX12_couples 10 = .ok (.ifCond .ne 6, 3) := by decide +kernel
theorem dX12_couples_13 : decode cX12_couples 13 = .ok (.bipush (-2), 2) := by decide +kernel
theorem dX12_couples_15 : decode cX12_couples 15 = .ok (.ireturn, 1) := by decide +kernel
theorem dX12_drop_0 : decode cX12_drop 0 = .ok (.aload_n 0, 1) := by decide +kernel
theorem dX12_drop_1 : decode cX12_drop 1 = .ok (.iconst 0, 1) := by decide +kernel
theorem dX12_drop_2 : decode cX12_drop 2 = .ok (.putfield 1, 3) := by decide +kernel
theorem dX12_drop_5 : decode cX12_drop 5 = .ok (.aload_n 0, 1) := by decide +kernel
theorem dX12_drop_6 : decode cX12_drop 6 = .ok (.iload_n 1, 1) := by decide +kernel
theorem dX12_drop_7 : decode cX12_drop 7 = .ok (.invokevirtual 213, 3) := by decide +kernel
theorem dX12_drop_10 : decode cX12_drop 10 = .ok (.ifCond .ne 6, 3) := by decide +kernel
theorem dX12_drop_13 : decode cX12_drop 13 = .ok (.bipush (-2), 2) := by decide +kernel
theorem dX12_drop_15 : decode cX12_drop 15 = .ok (.ireturn, 1) := by decide +kernel
theorem dX12_enough_0 : decode cX12_enough 0 = .ok (.aload_n 0, 1) := by decide +kernel
theorem dX12_enough_1 : decode cX12_enough 1 = .ok (.iconst 0, 1) := by decide +kernel
theorem dX12_enough_2 : decode cX12_enough 2 = .ok (.putfield 1, 3) := by decide +kernel
theorem dX12_enough_5 : decode cX12_enough 5 = .ok (.aload_n 0, 1) := by decide +kernel
theorem dX12_enough_6 : decode cX12_enough 6 = .ok (.iload_n 1, 1) := by decide +kernel
theorem dX12_enough_7 : decode cX12_enough 7 = .ok (.iload_n 2, 1) := by decide +kernel
theorem dX12_enough_8 : decode cX12_enough 8 = .ok (.invokevirtual 201, 3) := by decide +kernel
theorem dX12_enough_11 : decode cX12_enough 11 = .ok (.ifCond .eq 11, 3) := by decide +kernel
theorem dX12_enough_22 : decode cX12_enough 22 = .ok (.bipush (-2), 2) := by decide +kernel
theorem dX12_enough_24 : decode cX12_enough 24 = .ok (.ireturn, 1) := by decide +kernel
theorem dX12_even_0 : decode cX12_even 0 = .ok (.aload_n 0, 1) := by decide +kernel
theorem dX12_even_1 : decode cX12_even 1 = .ok (.iconst 0, 1) := by decide +kernel
theorem dX12_even_2 : decode cX12_even 2 = .ok (.putfield 1, 3) := by decide +kernel
theorem dX12_even_5 : decode cX12_even 5 = .ok (.aload_n 0, 1) := by decide +kernel
theorem dX12_even_6 : decode cX12_even 6 = .ok (.iload_n 2, 1) := by decide +kernel
theorem dX12_even_7 : decode cX12_even 7 = .ok (.invokevirtual 205, 3) := by decide +kernel
theorem dX12_even_10 : decode cX12_even 10 = .ok (.ifCond .eq 21, 3) := by decide +kernel
theorem dX12_even_31 : decode cX12_even 31 = .ok (.bipush (-2), 2) := by decide +kernel
theorem dX12_even_33 : decode cX12_even 33 = .ok (.ireturn, 1) := by decide +kernel
theorem dX12_fewest_0 : decode cX12_fewest 0 = .ok (.aload_n 0, 1) := by decide +kernel
theorem dX12_fewest_1 : decode cX12_fewest 1 = .ok (.iconst 0, 1) := by decide +kernel
theorem dX12_fewest_2 : decode cX12_fewest 2 = .ok (.putfield 1, 3) := by decide +kernel
theorem dX12_fewest_5 : decode cX12_fewest 5 = .ok (.aload_n 0, 1) := by decide +kernel
theorem dX12_fewest_6 : decode cX12_fewest 6 = .ok (.iload_n 1, 1) := by decide +kernel
theorem dX12_fewest_7 : decode cX12_fewest 7 = .ok (.invokevirtual 205, 3) := by decide +kernel
theorem dX12_fewest_10 : decode cX12_fewest 10 = .ok (.ifCond .eq 13, 3) := by decide +kernel
theorem dX12_fewest_23 : decode cX12_fewest 23 = .ok (.bipush (-2), 2) := by decide +kernel
theorem dX12_fewest_25 : decode cX12_fewest 25 = .ok (.ireturn, 1) := by decide +kernel
theorem dX12_flow_0 : decode cX12_flow 0 = .ok (.aload_n 0, 1) := by decide +kernel
theorem dX12_flow_1 : decode cX12_flow 1 = .ok (.iconst 0, 1) := by decide +kernel
theorem dX12_flow_2 : decode cX12_flow 2 = .ok (.putfield 1, 3) := by decide +kernel
theorem dX12_flow_5 : decode cX12_flow 5 = .ok (.aload_n 0, 1) := by decide +kernel
theorem dX12_flow_6 : decode cX12_flow 6 = .ok (.iload_n 1, 1) := by decide +kernel
theorem dX12_flow_7 : decode cX12_flow 7 = .ok (.iload_n 2, 1) := by decide +kernel
theorem dX12_flow_8 : decode cX12_flow 8 = .ok (.invokevirtual 201, 3) := by decide +kernel
theorem dX12_flow_11 : decode cX12_flow 11 = .ok (.ifCond .eq 11, 3) := by decide +kernel
theorem dX12_flow_22 : decode cX12_flow 22 = .ok (.bipush (-2), 2) := by decide +kernel
theorem dX12_flow_24 : decode cX12_flow 24 = .ok (.ireturn, 1) := by decide +kernel
theorem dX12_gain_0 : decode cX12_gain 0 = .ok (.aload_n 0, 1) := by decide +kernel
theorem dX12_gain_1 : decode cX12_gain 1 = .ok (.iconst 0, 1) := by decide +kernel
theorem dX12_gain_2 : decode cX12_gain 2 = .ok (.putfield 1, 3) := by decide +kernel
theorem dX12_gain_5 : decode cX12_gain 5 = .ok (.aload_n 0, 1) := by decide +kernel
theorem dX12_gain_6 : decode cX12_gain 6 = .ok (.iload_n 1, 1) := by decide +kernel
theorem dX12_gain_7 : decode cX12_gain 7 = .ok (.iload_n 2, 1) := by decide +kernel
theorem dX12_gain_8 : decode cX12_gain 8 = .ok (.invokevirtual 201, 3) := by decide +kernel
theorem dX12_gain_11 : decode cX12_gain 11 = .ok (.ifCond .eq 11, 3) := by decide +kernel
theorem dX12_gain_22 : decode cX12_gain 22 = .ok (.bipush (-2), 2) := by decide +kernel
theorem dX12_gain_24 : decode cX12_gain 24 = .ok (.ireturn, 1) := by decide +kernel
theorem dX12_init_0 : decode cX12_init 0 = .ok (.aload_n 0, 1) := by decide +kernel
theorem dX12_init_1 : decode cX12_init 1 = .ok (.invokespecial 7, 3) := by decide +kernel
theorem dX12_init_4 : decode cX12_init 4 = .ok (.aload_n 0, 1) := by decide +kernel
theorem dX12_init_5 : decode cX12_init 5 = .ok (.sipush 266, 3) := by decide +kernel
theorem dX12_init_8 : decode cX12_init 8 = .ok (.newarray .int, 2) := by decide +kernel
theorem dX12_init_10 : decode cX12_init 10 = .ok (.putfield 13, 3) := by decide +kernel
theorem dX12_init_13 : decode cX12_init 13 = .ok (.aload_n 0, 1) := by decide +kernel
theorem dX12_init_14 : decode cX12_init 14 = .ok (.sipush 266, 3) := by decide +kernel
theorem dX12_init_17 : decode cX12_init 17 = .ok (.newarray .int, 2) := by decide +kernel
theorem dX12_init_19 : decode cX12_init 19 = .ok (.putfield 17, 3) := by decide +kernel
theorem dX12_init_22 : decode cX12_init 22 = .ok (.aload_n 0, 1) := by decide +kernel
theorem dX12_init_23 : decode cX12_init 23 = .ok (.sipush 2660, 3) := by decide +kernel
theorem dX12_init_26 : decode cX12_init 26 = .ok (.newarray .int, 2) := by decide +kernel
theorem dX12_init_28 : decode cX12_init 28 = .ok (.putfield 20, 3) := by decide +kernel
theorem dX12_init_31 : decode cX12_init 31 = .ok (.aload_n 0, 1) := by decide +kernel
theorem dX12_init_32 : decode cX12_init 32 = .ok (.bipush 12, 2) := by decide +kernel
theorem dX12_init_34 : decode cX12_init 34 = .ok (.newarray .long, 2) := by decide +kernel
theorem dX12_init_36 : decode cX12_init 36 = .ok (.putfield 23, 3) := by decide +kernel
theorem dX12_init_39 : decode cX12_init 39 = .ok (.aload_n 0, 1) := by decide +kernel
theorem dX12_init_40 : decode cX12_init 40 = .ok (.bipush 12, 2) := by decide +kernel
theorem dX12_init_42 : decode cX12_init 42 = .ok (.newarray .long, 2) := by decide +kernel
theorem dX12_init_44 : decode cX12_init 44 = .ok (.putfield 27, 3) := by decide +kernel
theorem dX12_init_47 : decode cX12_init 47 = .ok (.aload_n 0, 1) := by decide +kernel
theorem dX12_init_48 : decode cX12_init 48 = .ok (.sipush 900, 3) := by decide +kernel
theorem dX12_init_51 : decode cX12_init 51 = .ok (.newarray .byte, 2) := by decide +kernel
theorem dX12_init_53 : decode cX12_init 53 = .ok (.putfield 30, 3) := by decide +kernel
theorem dX12_init_56 : decode cX12_init 56 = .ok (.aload_n 0, 1) := by decide +kernel
theorem dX12_init_57 : decode cX12_init 57 = .ok (.iconst (-1), 1) := by decide +kernel
theorem dX12_init_58 : decode cX12_init 58 = .ok (.putfield 34, 3) := by decide +kernel
theorem dX12_init_61 : decode cX12_init 61 = .ok (.aload_n 0, 1) := by decide +kernel
theorem dX12_init_62 : decode cX12_init 62 = .ok (.bipush 64, 2) := by decide +kernel
theorem dX12_init_64 : decode cX12_init 64 = .ok (.newarray .int, 2) := by decide +kernel
theorem dX12_init_66 : decode cX12_init 66 = .ok (.putfield 37, 3) := by decide +kernel
theorem dX12_init_69 : decode cX12_init 69 = .ok (.aload_n 0, 1) := by decide +kernel
theorem dX12_init_70 : decode cX12_init 70 = .ok (.bipush 8, 2) := by decide +kernel
theorem dX12_init_72 : decode cX12_init 72 = .ok (.newarray .int, 2) := by decide +kernel
theorem dX12_init_74 : decode cX12_init 74 = .ok (.putfield 40, 3) := by decide +kernel
theorem dX12_init_77 : decode cX12_init 77 = .ok (.aload_n 0, 1) := by decide +kernel
theorem dX12_init_78 : decode cX12_init 78 = .ok (.bipush 8, 2) := by decide +kernel
theorem dX12_init_80 : decode cX12_init 80 = .ok (.newarray .int, 2) := by decide +kernel
theorem dX12_init_82 : decode cX12_init 82 = .ok (.putfield 43, 3) := by decide +kernel
theorem dX12_init_85 : decode cX12_init 85 = .ok (.aload_n 0, 1) := by decide +kernel
theorem dX12_init_86 : decode cX12_init 86 = .ok (.bipush 64, 2) := by decide +kernel
theorem dX12_init_88 : decode cX12_init 88 = .ok (.newarray .int, 2) := by decide +kernel
theorem dX12_init_90 : decode cX12_init 90 = .ok (.putfield 46, 3) := by decide +kernel
theorem dX12_init_93 : decode cX12_init 93 = .ok (.aload_n 0, 1) := by decide +kernel
theorem dX12_init_94 : decode cX12_init 94 = .ok (.bipush 64, 2) := by decide +kernel
theorem dX12_init_96 : decode cX12_init 96 = .ok (.newarray .int, 2) := by decide +kernel
theorem dX12_init_98 : decode cX12_init 98 = .ok (.putfield 49, 3) := by decide +kernel
theorem dX12_init_101 : decode cX12_init 101 = .ok (.aload_n 0, 1) := by decide +kernel
theorem dX12_init_102 : decode cX12_init 102 = .ok (.bipush 8, 2) := by decide +kernel
theorem dX12_init_104 : decode cX12_init 104 = .ok (.newarray .int, 2) := by decide +kernel
theorem dX12_init_106 : decode cX12_init 106 = .ok (.putfield 52, 3) := by decide +kernel
theorem dX12_init_109 : decode cX12_init 109 = .ok (.aload_n 0, 1) := by decide +kernel
theorem dX12_init_110 : decode cX12_init 110 = .ok (.bipush 8, 2) := by decide +kernel
theorem dX12_init_112 : decode cX12_init 112 = .ok (.newarray .int, 2) := by decide +kernel
theorem dX12_init_114 : decode cX12_init 114 = .ok (.putfield 55, 3) := by decide +kernel
theorem dX12_init_117 : decode cX12_init 117 = .ok (.aload_n 0, 1) := by decide +kernel
theorem dX12_init_118 : decode cX12_init 118 = .ok (.bipush 8, 2) := by decide +kernel
theorem dX12_init_120 : decode cX12_init 120 = .ok (.newarray .int, 2) := by decide +kernel
theorem dX12_init_122 : decode cX12_init 122 = .ok (.putfield 58, 3) := by decide +kernel
theorem dX12_init_125 : decode cX12_init 125 = .ok (.aload_n 0, 1) := by decide +kernel
theorem dX12_init_126 : decode cX12_init 126 = .ok (.bipush 64, 2) := by decide +kernel
theorem dX12_init_128 : decode cX12_init 128 = .ok (.newarray .boolean, 2) := by decide +kernel
theorem dX12_init_130 : decode cX12_init 130 = .ok (.putfield 61, 3) := by decide +kernel
theorem dX12_init_133 : decode cX12_init 133 = .ok (.aload_n 0, 1) := by decide +kernel
theorem dX12_init_134 : decode cX12_init 134 = .ok (.bipush 16, 2) := by decide +kernel
theorem dX12_init_136 : decode cX12_init 136 = .ok (.newarray .int, 2) := by decide +kernel
theorem dX12_init_138 : decode cX12_init 138 = .ok (.putfield 65, 3) := by decide +kernel
theorem dX12_init_141 : decode cX12_init 141 = .ok (.aload_n 0, 1) := by decide +kernel
theorem dX12_init_142 : decode cX12_init 142 = .ok (.bipush 16, 2) := by decide +kernel
theorem dX12_init_144 : decode cX12_init 144 = .ok (.newarray .int, 2) := by decide +kernel
theorem dX12_init_146 : decode cX12_init 146 = .ok (.putfield 68, 3) := by decide +kernel
theorem dX12_init_149 : decode cX12_init 149 = .ok (.aload_n 0, 1) := by decide +kernel
theorem dX12_init_150 : decode cX12_init 150 = .ok (.sipush 256, 3) := by decide +kernel
theorem dX12_init_153 : decode cX12_init 153 = .ok (.newarray .int, 2) := by decide +kernel
theorem dX12_init_155 : decode cX12_init 155 = .ok (.putfield 71, 3) := by decide +kernel
theorem dX12_init_158 : decode cX12_init 158 = .ok (.aload_n 0, 1) := by decide +kernel
theorem dX12_init_159 : decode cX12_init 159 = .ok (.bipush 48, 2) := by decide +kernel
theorem dX12_init_161 : decode cX12_init 161 = .ok (.newarray .int, 2) := by decide +kernel
theorem dX12_init_163 : decode cX12_init 163 = .ok (.putfield 74, 3) := by decide +kernel
theorem dX12_init_166 : decode cX12_init 166 = .ok (.aload_n 0, 1) := by decide +kernel
theorem dX12_init_167 : decode cX12_init 167 = .ok (.invokevirtual 77, 3) := by decide +kernel
theorem dX12_init_170 : decode cX12_init 170 = .ok (.return_, 1) := by decide +kernel
theorem dX12_isIn_0 : decode cX12_isIn 0 = .ok (.lload_n 0, 1) := by decide +kernel
theorem dX12_isIn_1 : decode cX12_isIn 1 = .ok (.lload_n 2, 1) := by decide +kernel
theorem dX12_isIn_2 : decode cX12_isIn 2 = .ok (.lcmp, 1) := by decide +kernel
theorem dX12_isIn_3 : decode cX12_isIn 3 = .ok (.ifCond .lt 14, 3) := by decide +kernel
theorem dX12_isIn_6 : decode cX12_isIn 6 = .ok (.lload_n 0, 1) := by decide +kernel
theorem dX12_isIn_7 : decode cX12_isIn 7 = .ok (.lload 4, 2) := by decide +kernel
theorem dX12_isIn_9 : decode cX12_isIn 9 = .ok (.lcmp, 1) := by decide +kernel
theorem dX12_isIn_10 : decode cX12_isIn 10 = .ok (.ifCond .gt 7, 3) := by decide +kernel
theorem dX12_isIn_13 : decode cX12_isIn 13 = .ok (.iconst 1, 1) := by decide +kernel
theorem dX12_isIn_14 : decode cX12_isIn 14 = .ok (.goto 4, 3) := by decide +kernel
theorem dX12_isIn_17 : decode cX12_isIn 17 = .ok (.iconst 0, 1) := by decide +kernel
theorem dX12_isIn_18 : decode cX12_isIn 18 = .ok (.ireturn, 1) := by decide +kernel
theorem dX12_isKind_0 : decode cX12_isKind 0 = .ok (.iload_n 1, 1) := by decide +kernel
theorem dX12_isKind_1 : decode cX12_isKind 1 = .ok (.i2l, 1) := by decide +kernel
theorem dX12_isKind_2 : decode cX12_isKind 2 = .ok (.lconst 0, 1) := by decide +kernel
theorem dX12_isKind_3 : decode cX12_isKind 3 = .ok (.aload_n 0, 1) := by decide +kernel
theorem dX12_isKind_4 : decode cX12_isKind 4 = .ok (.getfield 83, 3) := by decide +kernel
theorem dX12_isKind_7 : decode cX12_isKind 7 = .ok (.iconst 1, 1) := by decide +kernel
theorem dX12_isKind_8 : decode cX12_isKind 8 = .ok (.isub, 1) := by decide +kernel
theorem dX12_isKind_9 : decode cX12_isKind 9 = .ok (.i2l, 1) := by decide +kernel
theorem dX12_isKind_10 : decode cX12_isKind 10 = .ok (.invokestatic 103, 3) := by decide +kernel
theorem dX12_isKind_13 : decode cX12_isKind 13 = .ok (.ireturn, 1) := by decide +kernel
theorem dX12_isParty_0 : decode cX12_isParty 0 = .ok (.iload_n 1, 1) := by decide +kernel
theorem dX12_isParty_1 : decode cX12_isParty 1 = .ok (.i2l, 1) := by decide +kernel
theorem dX12_isParty_2 : decode cX12_isParty 2 = .ok (.lconst 0, 1) := by decide +kernel
theorem dX12_isParty_3 : decode cX12_isParty 3 = .ok (.aload_n 0, 1) := by decide +kernel
theorem dX12_isParty_4 : decode cX12_isParty 4 = .ok (.getfield 80, 3) := by decide +kernel
theorem dX12_isParty_7 : decode cX12_isParty 7 = .ok (.iconst 1, 1) := by decide +kernel
theorem dX12_isParty_8 : decode cX12_isParty 8 = .ok (.isub, 1) := by decide +kernel
theorem dX12_isParty_9 : decode cX12_isParty 9 = .ok (.i2l, 1) := by decide +kernel
theorem dX12_isParty_10 : decode cX12_isParty 10 = .ok (.invokestatic 103, 3) := by decide +kernel
theorem dX12_isParty_13 : decode cX12_isParty 13 = .ok (.ireturn, 1) := by decide +kernel
theorem dX12_isTrade_0 : decode cX12_isTrade 0 = .ok (.iload_n 1, 1) := by decide +kernel
theorem dX12_isTrade_1 : decode cX12_isTrade 1 = .ok (.i2l, 1) := by decide +kernel
theorem dX12_isTrade_2 : decode cX12_isTrade 2 = .ok (.lconst 0, 1) := by decide +kernel
theorem dX12_isTrade_3 : decode cX12_isTrade 3 = .ok (.aload_n 0, 1) := by decide +kernel
theorem dX12_isTrade_4 : decode cX12_isTrade 4 = .ok (.getfield 13, 3) := by decide +kernel
theorem dX12_isTrade_7 : decode cX12_isTrade 7 = .ok (.iconst 0, 1) := by decide +kernel
theorem dX12_isTrade_8 : decode cX12_isTrade 8 = .ok (.iaload, 1) := by decide +kernel
theorem dX12_isTrade_9 : decode cX12_isTrade 9 = .ok (.iconst 1, 1) := by decide +kernel
theorem dX12_isTrade_10 : decode cX12_isTrade 10 = .ok (.isub, 1) := by decide +kernel
theorem dX12_isTrade_11 : decode cX12_isTrade 11 = .ok (.i2l, 1) := by decide +kernel
theorem dX12_isTrade_12 : decode cX12_isTrade 12 = .ok (.invokestatic 103, 3) := by decide +kernel
theorem dX12_isTrade_15 : decode cX12_isTrade 15 = .ok (.ireturn, 1) := by decide +kernel
theorem dX12_keep_0 : decode cX12_keep 0 = .ok (.aload_n 0, 1) := by decide +kernel
theorem dX12_keep_1 : decode cX12_keep 1 = .ok (.iconst 0, 1) := by decide +kernel
theorem dX12_keep_2 : decode cX12_keep 2 = .ok (.putfield 1, 3) := by decide +kernel
theorem dX12_keep_5 : decode cX12_keep 5 = .ok (.aload_n 0, 1) := by decide +kernel
theorem dX12_keep_6 : decode cX12_keep 6 = .ok (.iload_n 1, 1) := by decide +kernel
theorem dX12_keep_7 : decode cX12_keep 7 = .ok (.invokevirtual 213, 3) := by decide +kernel
theorem dX12_keep_10 : decode cX12_keep 10 = .ok (.ifCond .ne 6, 3) := by decide +kernel
theorem dX12_keep_13 : decode cX12_keep 13 = .ok (.bipush (-2), 2) := by decide +kernel
theorem dX12_keep_15 : decode cX12_keep 15 = .ok (.ireturn, 1) := by decide +kernel
theorem dX12_least_0 : decode cX12_least 0 = .ok (.aload_n 0, 1) := by decide +kernel
theorem dX12_least_1 : decode cX12_least 1 = .ok (.iconst 0, 1) := by decide +kernel
theorem dX12_least_2 : decode cX12_least 2 = .ok (.putfield 1, 3) := by decide +kernel
theorem dX12_least_5 : decode cX12_least 5 = .ok (.aload_n 0, 1) := by decide +kernel
theorem dX12_least_6 : decode cX12_least 6 = .ok (.iload_n 1, 1) := by decide +kernel
theorem dX12_least_7 : decode cX12_least 7 = .ok (.invokevirtual 205, 3) := by decide +kernel
theorem dX12_least_10 : decode cX12_least 10 = .ok (.ifCond .ne 6, 3) := by decide +kernel
theorem dX12_least_13 : decode cX12_least 13 = .ok (.bipush (-2), 2) := by decide +kernel
theorem dX12_least_15 : decode cX12_least 15 = .ok (.ireturn, 1) := by decide +kernel
theorem dX12_line_0 : decode cX12_line 0 = .ok (.aload_n 0, 1) := by decide +kernel
theorem dX12_line_1 : decode cX12_line 1 = .ok (.iconst 0, 1) := by decide +kernel
theorem dX12_line_2 : decode cX12_line 2 = .ok (.putfield 1, 3) := by decide +kernel
theorem dX12_line_5 : decode cX12_line 5 = .ok (.aload_n 0, 1) := by decide +kernel
theorem dX12_line_6 : decode cX12_line 6 = .ok (.iload_n 1, 1) := by decide +kernel
theorem dX12_line_7 : decode cX12_line 7 = .ok (.invokevirtual 213, 3) := by decide +kernel
theorem dX12_line_10 : decode cX12_line 10 = .ok (.ifCond .ne 6, 3) := by decide +kernel
theorem dX12_line_13 : decode cX12_line 13 = .ok (.bipush (-2), 2) := by decide +kernel
theorem dX12_line_15 : decode cX12_line 15 = .ok (.ireturn, 1) := by decide +kernel
theorem dX12_load_0 : decode cX12_load 0 = .ok (.aload_n 0, 1) := by decide +kernel
theorem dX12_load_1 : decode cX12_load 1 = .ok (.iconst 0, 1) := by decide +kernel
theorem dX12_load_2 : decode cX12_load 2 = .ok (.putfield 1, 3) := by decide +kernel
theorem dX12_load_5 : decode cX12_load 5 = .ok (.aload_n 0, 1) := by decide +kernel
theorem dX12_load_6 : decode cX12_load 6 = .ok (.iload_n 1, 1) := by decide +kernel
theorem dX12_load_7 : decode cX12_load 7 = .ok (.invokevirtual 205, 3) := by decide +kernel
theorem dX12_load_10 : decode cX12_load 10 = .ok (.ifCond .ne 6, 3) := by decide +kernel
theorem dX12_load_13 : decode cX12_load 13 = .ok (.bipush (-2), 2) := by decide +kernel
theorem dX12_load_15 : decode cX12_load 15 = .ok (.ireturn, 1) := by decide +kernel
theorem dX12_net_0 : decode cX12_net 0 = .ok (.aload_n 0, 1) := by decide +kernel
theorem dX12_net_1 : decode cX12_net 1 = .ok (.iconst 0, 1) := by decide +kernel
theorem dX12_net_2 : decode cX12_net 2 = .ok (.putfield 1, 3) := by decide +kernel
theorem dX12_net_5 : decode cX12_net 5 = .ok (.aload_n 0, 1) := by decide +kernel
theorem dX12_net_6 : decode cX12_net 6 = .ok (.iload_n 1, 1) := by decide +kernel
theorem dX12_net_7 : decode cX12_net 7 = .ok (.invokevirtual 198, 3) := by decide +kernel
theorem dX12_net_10 : decode cX12_net 10 = .ok (.ifCond .eq 11, 3) := by decide +kernel
theorem dX12_net_21 : decode cX12_net 21 = .ok (.bipush (-2), 2) := by decide +kernel
theorem dX12_net_23 : decode cX12_net 23 = .ok (.ireturn, 1) := by decide +kernel
theorem dX12_plain_0 : decode cX12_plain 0 = .ok (.aload_n 0, 1) := by decide +kernel
theorem dX12_plain_1 : decode cX12_plain 1 = .ok (.iconst 0, 1) := by decide +kernel
theorem dX12_plain_2 : decode cX12_plain 2 = .ok (.putfield 80, 3) := by decide +kernel
theorem dX12_plain_5 : decode cX12_plain 5 = .ok (.aload_n 0, 1) := by decide +kernel
theorem dX12_plain_6 : decode cX12_plain 6 = .ok (.iconst 0, 1) := by decide +kernel
theorem dX12_plain_7 : decode cX12_plain 7 = .ok (.putfield 83, 3) := by decide +kernel
theorem dX12_plain_10 : decode cX12_plain 10 = .ok (.iconst 0, 1) := by decide +kernel
theorem dX12_plain_11 : decode cX12_plain 11 = .ok (.istore_n 1, 1) := by decide +kernel
theorem dX12_plain_12 : decode cX12_plain 12 = .ok (.iload_n 1, 1) := by decide +kernel
theorem dX12_plain_13 : decode cX12_plain 13 = .ok (.sipush 266, 3) := by decide +kernel
theorem dX12_plain_16 : decode cX12_plain 16 = .ok (.if_icmp .ge 28, 3) := by decide +kernel
theorem dX12_plain_19 : decode cX12_plain 19 = .ok (.aload_n 0, 1) := by decide +kernel
theorem dX12_plain_20 : decode cX12_plain 20 = .ok (.getfield 13, 3) := by decide +kernel
theorem dX12_plain_23 : decode cX12_plain 23 = .ok (.iload_n 1, 1) := by decide +kernel
theorem dX12_plain_24 : decode cX12_plain 24 = .ok (.iload_n 1, 1) := by decide +kernel
theorem dX12_plain_25 : decode cX12_plain 25 = .ok (.sipush 202, 3) := by decide +kernel
theorem dX12_plain_28 : decode cX12_plain 28 = .ok (.if_icmp .ge 7, 3) := by decide +kernel
theorem dX12_plain_31 : decode cX12_plain 31 = .ok (.iconst 0, 1) := by decide +kernel
theorem dX12_plain_32 : decode cX12_plain 32 = .ok (.goto 5, 3) := by decide +kernel
theorem dX12_plain_35 : decode cX12_plain 35 = .ok (.ldc 86, 2) := by decide +kernel
theorem dX12_plain_37 : decode cX12_plain 37 = .ok (.iastore, 1) := by decide +kernel
theorem dX12_plain_38 : decode cX12_plain 38 = .ok (.iinc 1 1, 3) := by decide +kernel
theorem dX12_plain_41 : decode cX12_plain 41 = .ok (.goto (-29), 3) := by decide +kernel
theorem dX12_plain_44 : decode cX12_plain 44 = .ok (.return_, 1) := by decide +kernel
theorem dX12_press_0 : decode cX12_press 0 = .ok (.aload_n 0, 1) := by decide +kernel
theorem dX12_press_1 : decode cX12_press 1 = .ok (.iconst 0, 1) := by decide +kernel
theorem dX12_press_2 : decode cX12_press 2 = .ok (.putfield 1, 3) := by decide +kernel
theorem dX12_press_5 : decode cX12_press 5 = .ok (.aload_n 0, 1) := by decide +kernel
theorem dX12_press_6 : decode cX12_press 6 = .ok (.iload_n 1, 1) := by decide +kernel
theorem dX12_press_7 : decode cX12_press 7 = .ok (.invokevirtual 205, 3) := by decide +kernel
theorem dX12_press_10 : decode cX12_press 10 = .ok (.ifCond .ne 6, 3) := by decide +kernel
theorem dX12_press_13 : decode cX12_press 13 = .ok (.bipush (-2), 2) := by decide +kernel
theorem dX12_press_15 : decode cX12_press 15 = .ok (.ireturn, 1) := by decide +kernel
theorem dX12_pressed_0 : decode cX12_pressed 0 = .ok (.aload_n 0, 1) := by decide +kernel
theorem dX12_pressed_1 : decode cX12_pressed 1 = .ok (.iconst 0, 1) := by decide +kernel
theorem dX12_pressed_2 : decode cX12_pressed 2 = .ok (.putfield 1, 3) := by decide +kernel
theorem dX12_pressed_5 : decode cX12_pressed 5 = .ok (.aload_n 0, 1) := by decide +kernel
theorem dX12_pressed_6 : decode cX12_pressed 6 = .ok (.iload_n 1, 1) := by decide +kernel
theorem dX12_pressed_7 : decode cX12_pressed 7 = .ok (.iload_n 2, 1) := by decide +kernel
theorem dX12_pressed_8 : decode cX12_pressed 8 = .ok (.invokevirtual 201, 3) := by decide +kernel
theorem dX12_pressed_11 : decode cX12_pressed 11 = .ok (.ifCond .eq 11, 3) := by decide +kernel
theorem dX12_pressed_22 : decode cX12_pressed 22 = .ok (.bipush (-2), 2) := by decide +kernel
theorem dX12_pressed_24 : decode cX12_pressed 24 = .ok (.ireturn, 1) := by decide +kernel
theorem dX12_relief_0 : decode cX12_relief 0 = .ok (.aload_n 0, 1) := by decide +kernel
theorem dX12_relief_1 : decode cX12_relief 1 = .ok (.iconst 0, 1) := by decide +kernel
theorem dX12_relief_2 : decode cX12_relief 2 = .ok (.putfield 1, 3) := by decide +kernel
theorem dX12_relief_5 : decode cX12_relief 5 = .ok (.aload_n 0, 1) := by decide +kernel
theorem dX12_relief_6 : decode cX12_relief 6 = .ok (.iload_n 1, 1) := by decide +kernel
theorem dX12_relief_7 : decode cX12_relief 7 = .ok (.invokevirtual 198, 3) := by decide +kernel
theorem dX12_relief_10 : decode cX12_relief 10 = .ok (.ifCond .eq 11, 3) := by decide +kernel
theorem dX12_relief_21 : decode cX12_relief 21 = .ok (.bipush (-2), 2) := by decide +kernel
theorem dX12_relief_23 : decode cX12_relief 23 = .ok (.ireturn, 1) := by decide +kernel
theorem dX12_relieved_0 : decode cX12_relieved 0 = .ok (.aload_n 0, 1) := by decide +kernel
theorem dX12_relieved_1 : decode cX12_relieved 1 = .ok (.iconst 0, 1) := by decide +kernel
theorem dX12_relieved_2 : decode cX12_relieved 2 = .ok (.putfield 1, 3) := by decide +kernel
theorem dX12_relieved_5 : decode cX12_relieved 5 = .ok (.aload_n 0, 1) := by decide +kernel
theorem dX12_relieved_6 : decode cX12_relieved 6 = .ok (.iload_n 1, 1) := by decide +kernel
theorem dX12_relieved_7 : decode cX12_relieved 7 = .ok (.invokevirtual 205, 3) := by decide +kernel
theorem dX12_relieved_10 : decode cX12_relieved 10 = .ok (.ifCond .ne 6, 3) := by decide +kernel
theorem dX12_relieved_13 : decode cX12_relieved 13 = .ok (.bipush (-2), 2) := by decide +kernel
theorem dX12_relieved_15 : decode cX12_relieved 15 = .ok (.ireturn, 1) := by decide +kernel
theorem dX12_ring_0 : decode cX12_ring 0 = .ok (.aload_n 0, 1) := by decide +kernel
theorem dX12_ring_1 : decode cX12_ring 1 = .ok (.iconst 0, 1) := by decide +kernel
theorem dX12_ring_2 : decode cX12_ring 2 = .ok (.putfield 1, 3) := by decide +kernel
theorem dX12_ring_5 : decode cX12_ring 5 = .ok (.aload_n 0, 1) := by decide +kernel
theorem dX12_ring_6 : decode cX12_ring 6 = .ok (.iload_n 1, 1) := by decide +kernel
theorem dX12_ring_7 : decode cX12_ring 7 = .ok (.invokevirtual 205, 3) := by decide +kernel
theorem dX12_ring_10 : decode cX12_ring 10 = .ok (.ifCond .ne 6, 3) := by decide +kernel
theorem dX12_ring_13 : decode cX12_ring 13 = .ok (.bipush (-2), 2) := by decide +kernel
theorem dX12_ring_15 : decode cX12_ring 15 = .ok (.ireturn, 1) := by decide +kernel
theorem dX12_rounds_0 : decode cX12_rounds 0 = .ok (.aload_n 0, 1) := by decide +kernel
theorem dX12_rounds_1 : decode cX12_rounds 1 = .ok (.iconst 0, 1) := by decide +kernel
theorem dX12_rounds_2 : decode cX12_rounds 2 = .ok (.putfield 1, 3) := by decide +kernel
theorem dX12_rounds_5 : decode cX12_rounds 5 = .ok (.aload_n 0, 1) := by decide +kernel
theorem dX12_rounds_6 : decode cX12_rounds 6 = .ok (.iload_n 1, 1) := by decide +kernel
theorem dX12_rounds_7 : decode cX12_rounds 7 = .ok (.invokevirtual 205, 3) := by decide +kernel
theorem dX12_rounds_10 : decode cX12_rounds 10 = .ok (.ifCond .ne 6, 3) := by decide +kernel
theorem dX12_rounds_13 : decode cX12_rounds 13 = .ok (.bipush (-2), 2) := by decide +kernel
theorem dX12_rounds_15 : decode cX12_rounds 15 = .ok (.ireturn, 1) := by decide +kernel
theorem dX12_side_0 : decode cX12_side 0 = .ok (.aload_n 0, 1) := by decide +kernel
theorem dX12_side_1 : decode cX12_side 1 = .ok (.iconst 0, 1) := by decide +kernel
theorem dX12_side_2 : decode cX12_side 2 = .ok (.putfield 1, 3) := by decide +kernel
theorem dX12_side_5 : decode cX12_side 5 = .ok (.aload_n 0, 1) := by decide +kernel
theorem dX12_side_6 : decode cX12_side 6 = .ok (.iload_n 1, 1) := by decide +kernel
theorem dX12_side_7 : decode cX12_side 7 = .ok (.invokevirtual 198, 3) := by decide +kernel
theorem dX12_side_10 : decode cX12_side 10 = .ok (.ifCond .eq 23, 3) := by decide +kernel
theorem dX12_side_33 : decode cX12_side 33 = .ok (.bipush (-2), 2) := by decide +kernel
theorem dX12_side_35 : decode cX12_side 35 = .ok (.ireturn, 1) := by decide +kernel
theorem dX12_span_0 : decode cX12_span 0 = .ok (.aload_n 0, 1) := by decide +kernel
theorem dX12_span_1 : decode cX12_span 1 = .ok (.iconst 0, 1) := by decide +kernel
theorem dX12_span_2 : decode cX12_span 2 = .ok (.putfield 1, 3) := by decide +kernel
theorem dX12_span_5 : decode cX12_span 5 = .ok (.aload_n 0, 1) := by decide +kernel
theorem dX12_span_6 : decode cX12_span 6 = .ok (.iload_n 1, 1) := by decide +kernel
theorem dX12_span_7 : decode cX12_span 7 = .ok (.iload_n 2, 1) := by decide +kernel
theorem dX12_span_8 : decode cX12_span 8 = .ok (.invokevirtual 201, 3) := by decide +kernel
theorem dX12_span_11 : decode cX12_span 11 = .ok (.ifCond .eq 11, 3) := by decide +kernel
theorem dX12_span_22 : decode cX12_span 22 = .ok (.bipush (-2), 2) := by decide +kernel
theorem dX12_span_24 : decode cX12_span 24 = .ok (.ireturn, 1) := by decide +kernel
theorem dX12_takeRing_0 : decode cX12_takeRing 0 = .ok (.aload_n 0, 1) := by decide +kernel
theorem dX12_takeRing_1 : decode cX12_takeRing 1 = .ok (.iconst 0, 1) := by decide +kernel
theorem dX12_takeRing_2 : decode cX12_takeRing 2 = .ok (.putfield 1, 3) := by decide +kernel
theorem dX12_takeRing_5 : decode cX12_takeRing 5 = .ok (.aload_n 0, 1) := by decide +kernel
theorem dX12_takeRing_6 : decode cX12_takeRing 6 = .ok (.iload_n 1, 1) := by decide +kernel
theorem dX12_takeRing_7 : decode cX12_takeRing 7 = .ok (.invokevirtual 205, 3) := by decide +kernel
theorem dX12_takeRing_10 : decode cX12_takeRing 10 = .ok (.ifCond .ne 6, 3) := by decide +kernel
theorem dX12_takeRing_13 : decode cX12_takeRing 13 = .ok (.bipush (-2), 2) := by decide +kernel
theorem dX12_takeRing_15 : decode cX12_takeRing 15 = .ok (.ireturn, 1) := by decide +kernel
theorem dX12_through_0 : decode cX12_through 0 = .ok (.aload_n 0, 1) := by decide +kernel
theorem dX12_through_1 : decode cX12_through 1 = .ok (.iconst 0, 1) := by decide +kernel
theorem dX12_through_2 : decode cX12_through 2 = .ok (.putfield 1, 3) := by decide +kernel
theorem dX12_through_5 : decode cX12_through 5 = .ok (.aload_n 0, 1) := by decide +kernel
theorem dX12_through_6 : decode cX12_through 6 = .ok (.iload_n 1, 1) := by decide +kernel
theorem dX12_through_7 : decode cX12_through 7 = .ok (.invokevirtual 198, 3) := by decide +kernel
theorem dX12_through_10 : decode cX12_through 10 = .ok (.ifCond .eq 21, 3) := by decide +kernel
theorem dX12_through_31 : decode cX12_through 31 = .ok (.bipush (-2), 2) := by decide +kernel
theorem dX12_through_33 : decode cX12_through 33 = .ok (.ireturn, 1) := by decide +kernel
theorem dX12_total_0 : decode cX12_total 0 = .ok (.aload_n 0, 1) := by decide +kernel
theorem dX12_total_1 : decode cX12_total 1 = .ok (.iconst 0, 1) := by decide +kernel
theorem dX12_total_2 : decode cX12_total 2 = .ok (.putfield 1, 3) := by decide +kernel
theorem dX12_total_5 : decode cX12_total 5 = .ok (.aload_n 0, 1) := by decide +kernel
theorem dX12_total_6 : decode cX12_total 6 = .ok (.iload_n 1, 1) := by decide +kernel
theorem dX12_total_7 : decode cX12_total 7 = .ok (.invokevirtual 205, 3) := by decide +kernel
theorem dX12_total_10 : decode cX12_total 10 = .ok (.ifCond .eq 15, 3) := by decide +kernel
theorem dX12_total_25 : decode cX12_total 25 = .ok (.bipush (-2), 2) := by decide +kernel
theorem dX12_total_27 : decode cX12_total 27 = .ok (.ireturn, 1) := by decide +kernel
theorem dX12_trade_0 : decode cX12_trade 0 = .ok (.aload_n 0, 1) := by decide +kernel
theorem dX12_trade_1 : decode cX12_trade 1 = .ok (.iconst 0, 1) := by decide +kernel
theorem dX12_trade_2 : decode cX12_trade 2 = .ok (.putfield 1, 3) := by decide +kernel
theorem dX12_trade_5 : decode cX12_trade 5 = .ok (.aload_n 0, 1) := by decide +kernel
theorem dX12_trade_6 : decode cX12_trade 6 = .ok (.iload_n 1, 1) := by decide +kernel
theorem dX12_trade_7 : decode cX12_trade 7 = .ok (.iload_n 2, 1) := by decide +kernel
theorem dX12_trade_8 : decode cX12_trade 8 = .ok (.invokevirtual 201, 3) := by decide +kernel
theorem dX12_trade_11 : decode cX12_trade 11 = .ok (.ifCond .eq 12, 3) := by decide +kernel
theorem dX12_trade_23 : decode cX12_trade 23 = .ok (.bipush (-2), 2) := by decide +kernel
theorem dX12_trade_25 : decode cX12_trade 25 = .ok (.ireturn, 1) := by decide +kernel
theorem dX12_tradeOf_0 : decode cX12_tradeOf 0 = .ok (.aload_n 0, 1) := by decide +kernel
theorem dX12_tradeOf_1 : decode cX12_tradeOf 1 = .ok (.iconst 0, 1) := by decide +kernel
theorem dX12_tradeOf_2 : decode cX12_tradeOf 2 = .ok (.putfield 1, 3) := by decide +kernel
theorem dX12_tradeOf_5 : decode cX12_tradeOf 5 = .ok (.aload_n 0, 1) := by decide +kernel
theorem dX12_tradeOf_6 : decode cX12_tradeOf 6 = .ok (.iload_n 1, 1) := by decide +kernel
theorem dX12_tradeOf_7 : decode cX12_tradeOf 7 = .ok (.invokevirtual 213, 3) := by decide +kernel
theorem dX12_tradeOf_10 : decode cX12_tradeOf 10 = .ok (.ifCond .eq 24, 3) := by decide +kernel
theorem dX12_tradeOf_34 : decode cX12_tradeOf 34 = .ok (.bipush (-2), 2) := by decide +kernel
theorem dX12_tradeOf_36 : decode cX12_tradeOf 36 = .ok (.ireturn, 1) := by decide +kernel
theorem dX12_without_0 : decode cX12_without 0 = .ok (.aload_n 0, 1) := by decide +kernel
theorem dX12_without_1 : decode cX12_without 1 = .ok (.iconst 0, 1) := by decide +kernel
theorem dX12_without_2 : decode cX12_without 2 = .ok (.putfield 1, 3) := by decide +kernel
theorem dX12_without_5 : decode cX12_without 5 = .ok (.aload_n 0, 1) := by decide +kernel
theorem dX12_without_6 : decode cX12_without 6 = .ok (.iload_n 1, 1) := by decide +kernel
theorem dX12_without_7 : decode cX12_without 7 = .ok (.invokevirtual 198, 3) := by decide +kernel
theorem dX12_without_10 : decode cX12_without 10 = .ok (.ifCond .eq 11, 3) := by decide +kernel
theorem dX12_without_21 : decode cX12_without 21 = .ok (.bipush (-2), 2) := by decide +kernel
theorem dX12_without_23 : decode cX12_without 23 = .ok (.ireturn, 1) := by decide +kernel
theorem dX1_init_0 : decode cX1_init 0 = .ok (.aload_n 0, 1) := by decide +kernel
theorem dX1_init_1 : decode cX1_init 1 = .ok (.invokespecial 3, 3) := by decide +kernel
theorem dX1_init_4 : decode cX1_init 4 = .ok (.aload_n 0, 1) := by decide +kernel
theorem dX1_init_5 : decode cX1_init 5 = .ok (.bipush 64, 2) := by decide +kernel
theorem dX1_init_7 : decode cX1_init 7 = .ok (.newarray .long, 2) := by decide +kernel
theorem dX1_init_9 : decode cX1_init 9 = .ok (.putfield 9, 3) := by decide +kernel
theorem dX1_init_12 : decode cX1_init 12 = .ok (.return_, 1) := by decide +kernel
theorem dX2_init_0 : decode cX2_init 0 = .ok (.aload_n 0, 1) := by decide +kernel
theorem dX2_init_1 : decode cX2_init 1 = .ok (.invokespecial 3, 3) := by decide +kernel
theorem dX2_init_4 : decode cX2_init 4 = .ok (.aload_n 0, 1) := by decide +kernel
theorem dX2_init_5 : decode cX2_init 5 = .ok (.bipush 8, 2) := by decide +kernel
theorem dX2_init_7 : decode cX2_init 7 = .ok (.newarray .long, 2) := by decide +kernel
theorem dX2_init_9 : decode cX2_init 9 = .ok (.putfield 9, 3) := by decide +kernel
theorem dX2_init_12 : decode cX2_init 12 = .ok (.aload_n 0, 1) := by decide +kernel
theorem dX2_init_13 : decode cX2_init 13 = .ok (.sipush 256, 3) := by decide +kernel
theorem dX2_init_16 : decode cX2_init 16 = .ok (.newarray .long, 2) := by decide +kernel
theorem dX2_init_18 : decode cX2_init 18 = .ok (.putfield 15, 3) := by decide +kernel
theorem dX2_init_21 : decode cX2_init 21 = .ok (.aload_n 0, 1) := by decide +kernel
theorem dX2_init_22 : decode cX2_init 22 = .ok (.sipush 256, 3) := by decide +kernel
theorem dX2_init_25 : decode cX2_init 25 = .ok (.newarray .int, 2) := by decide +kernel
theorem dX2_init_27 : decode cX2_init 27 = .ok (.putfield 18, 3) := by decide +kernel
theorem dX2_init_30 : decode cX2_init 30 = .ok (.return_, 1) := by decide +kernel
theorem dX3_init_0 : decode cX3_init 0 = .ok (.aload_n 0, 1) := by decide +kernel
theorem dX3_init_1 : decode cX3_init 1 = .ok (.invokespecial 3, 3) := by decide +kernel
theorem dX3_init_4 : decode cX3_init 4 = .ok (.aload_n 0, 1) := by decide +kernel
theorem dX3_init_5 : decode cX3_init 5 = .ok (.bipush 96, 2) := by decide +kernel
theorem dX3_init_7 : decode cX3_init 7 = .ok (.newarray .byte, 2) := by decide +kernel
theorem dX3_init_9 : decode cX3_init 9 = .ok (.putfield 11, 3) := by decide +kernel
theorem dX3_init_12 : decode cX3_init 12 = .ok (.aload_n 0, 1) := by decide +kernel
theorem dX3_init_13 : decode cX3_init 13 = .ok (.bipush 12, 2) := by decide +kernel
theorem dX3_init_15 : decode cX3_init 15 = .ok (.newarray .int, 2) := by decide +kernel
theorem dX3_init_17 : decode cX3_init 17 = .ok (.putfield 15, 3) := by decide +kernel
theorem dX3_init_20 : decode cX3_init 20 = .ok (.return_, 1) := by decide +kernel
theorem dX4_init_0 : decode cX4_init 0 = .ok (.aload_n 0, 1) := by decide +kernel
theorem dX4_init_1 : decode cX4_init 1 = .ok (.invokespecial 3, 3) := by decide +kernel
theorem dX4_init_4 : decode cX4_init 4 = .ok (.aload_n 0, 1) := by decide +kernel
theorem dX4_init_5 : decode cX4_init 5 = .ok (.bipush 64, 2) := by decide +kernel
theorem dX4_init_7 : decode cX4_init 7 = .ok (.newarray .byte, 2) := by decide +kernel
theorem dX4_init_9 : decode cX4_init 9 = .ok (.putfield 11, 3) := by decide +kernel
theorem dX4_init_12 : decode cX4_init 12 = .ok (.aload_n 0, 1) := by decide +kernel
theorem dX4_init_13 : decode cX4_init 13 = .ok (.bipush 19, 2) := by decide +kernel
theorem dX4_init_15 : decode cX4_init 15 = .ok (.newarray .byte, 2) := by decide +kernel
theorem dX4_init_17 : decode cX4_init 17 = .ok (.putfield 15, 3) := by decide +kernel
theorem dX4_init_20 : decode cX4_init 20 = .ok (.return_, 1) := by decide +kernel
theorem dX5_init_0 : decode cX5_init 0 = .ok (.aload_n 0, 1) := by decide +kernel
theorem dX5_init_1 : decode cX5_init 1 = .ok (.invokespecial 3, 3) := by decide +kernel
theorem dX5_init_4 : decode cX5_init 4 = .ok (.aload_n 0, 1) := by decide +kernel
theorem dX5_init_5 : decode cX5_init 5 = .ok (.bipush 10, 2) := by decide +kernel
theorem dX5_init_7 : decode cX5_init 7 = .ok (.anewarray 9, 3) := by decide +kernel
theorem dX5_init_10 : decode cX5_init 10 = .ok (.putfield 11, 3) := by decide +kernel
theorem dX5_init_13 : decode cX5_init 13 = .ok (.iconst 0, 1) := by decide +kernel
theorem dX5_init_14 : decode cX5_init 14 = .ok (.istore_n 1, 1) := by decide +kernel
theorem dX5_init_15 : decode cX5_init 15 = .ok (.iload_n 1, 1) := by decide +kernel
theorem dX5_init_16 : decode cX5_init 16 = .ok (.bipush 10, 2) := by decide +kernel
theorem dX5_init_18 : decode cX5_init 18 = .ok (.if_icmp .ge 22, 3) := by decide +kernel
theorem dX5_init_21 : decode cX5_init 21 = .ok (.aload_n 0, 1) := by decide +kernel
theorem dX5_init_22 : decode cX5_init 22 = .ok (.getfield 11, 3) := by decide +kernel
theorem dX5_init_25 : decode cX5_init 25 = .ok (.iload_n 1, 1) := by decide +kernel
theorem dX5_init_26 : decode cX5_init 26 = .ok (.new 9, 3) := by decide +kernel
theorem dX5_init_29 : decode cX5_init 29 = .ok (.dup, 1) := by decide +kernel
theorem dX5_init_30 : decode cX5_init 30 = .ok (.invokespecial 17, 3) := by decide +kernel
theorem dX5_init_33 : decode cX5_init 33 = .ok (.aastore, 1) := by decide +kernel
theorem dX5_init_34 : decode cX5_init 34 = .ok (.iinc 1 1, 3) := by decide +kernel
theorem dX5_init_37 : decode cX5_init 37 = .ok (.goto (-22), 3) := by decide +kernel
theorem dX5_init_40 : decode cX5_init 40 = .ok (.return_, 1) := by decide +kernel
theorem dX6_init_0 : decode cX6_init 0 = .ok (.aload_n 0, 1) := by decide +kernel
theorem dX6_init_1 : decode cX6_init 1 = .ok (.invokespecial 3, 3) := by decide +kernel
theorem dX6_init_4 : decode cX6_init 4 = .ok (.aload_n 0, 1) := by decide +kernel
theorem dX6_init_5 : decode cX6_init 5 = .ok (.iconst (-1), 1) := by decide +kernel
theorem dX6_init_6 : decode cX6_init 6 = .ok (.putfield 9, 3) := by decide +kernel
theorem dX6_init_9 : decode cX6_init 9 = .ok (.aload_n 0, 1) := by decide +kernel
theorem dX6_init_10 : decode cX6_init 10 = .ok (.new 15, 3) := by decide +kernel
theorem dX6_init_13 : decode cX6_init 13 = .ok (.dup, 1) := by decide +kernel
theorem dX6_init_14 : decode cX6_init 14 = .ok (.invokespecial 17, 3) := by decide +kernel
theorem dX6_init_17 : decode cX6_init 17 = .ok (.putfield 18, 3) := by decide +kernel
theorem dX6_init_20 : decode cX6_init 20 = .ok (.aload_n 0, 1) := by decide +kernel
theorem dX6_init_21 : decode cX6_init 21 = .ok (.new 22, 3) := by decide +kernel
theorem dX6_init_24 : decode cX6_init 24 = .ok (.dup, 1) := by decide +kernel
theorem dX6_init_25 : decode cX6_init 25 = .ok (.invokespecial 24, 3) := by decide +kernel
theorem dX6_init_28 : decode cX6_init 28 = .ok (.putfield 25, 3) := by decide +kernel
theorem dX6_init_31 : decode cX6_init 31 = .ok (.aload_n 0, 1) := by decide +kernel
theorem dX6_init_32 : decode cX6_init 32 = .ok (.aload_n 1, 1) := by decide +kernel
theorem dX6_init_33 : decode cX6_init 33 = .ok (.getfield 29, 3) := by decide +kernel
theorem dX6_init_36 : decode cX6_init 36 = .ok (.putfield 35, 3) := by decide +kernel
theorem dX6_init_39 : decode cX6_init 39 = .ok (.return_, 1) := by decide +kernel
theorem dX7_init_0 : decode cX7_init 0 = .ok (.aload_n 0, 1) := by decide +kernel
theorem dX7_init_1 : decode cX7_init 1 = .ok (.invokespecial 3, 3) := by decide +kernel
theorem dX7_init_4 : decode cX7_init 4 = .ok (.aload_n 0, 1) := by decide +kernel
theorem dX7_init_5 : decode cX7_init 5 = .ok (.bipush 8, 2) := by decide +kernel
theorem dX7_init_7 : decode cX7_init 7 = .ok (.newarray .int, 2) := by decide +kernel
theorem dX7_init_9 : decode cX7_init 9 = .ok (.putfield 9, 3) := by decide +kernel
theorem dX7_init_12 : decode cX7_init 12 = .ok (.aload_n 0, 1) := by decide +kernel
theorem dX7_init_13 : decode cX7_init 13 = .ok (.bipush 8, 2) := by decide +kernel
theorem dX7_init_15 : decode cX7_init 15 = .ok (.newarray .int, 2) := by decide +kernel
theorem dX7_init_17 : decode cX7_init 17 = .ok (.putfield 15, 3) := by decide +kernel
theorem dX7_init_20 : decode cX7_init 20 = .ok (.aload_n 0, 1) := by decide +kernel
theorem dX7_init_21 : decode cX7_init 21 = .ok (.bipush 8, 2) := by decide +kernel
theorem dX7_init_23 : decode cX7_init 23 = .ok (.newarray .int, 2) := by decide +kernel
theorem dX7_init_25 : decode cX7_init 25 = .ok (.putfield 18, 3) := by decide +kernel
theorem dX7_init_28 : decode cX7_init 28 = .ok (.return_, 1) := by decide +kernel
theorem dX8_init_0 : decode cX8_init 0 = .ok (.aload_n 0, 1) := by decide +kernel
theorem dX8_init_1 : decode cX8_init 1 = .ok (.invokespecial 3, 3) := by decide +kernel
theorem dX8_init_4 : decode cX8_init 4 = .ok (.aload_n 0, 1) := by decide +kernel
theorem dX8_init_5 : decode cX8_init 5 = .ok (.bipush 8, 2) := by decide +kernel
theorem dX8_init_7 : decode cX8_init 7 = .ok (.newarray .int, 2) := by decide +kernel
theorem dX8_init_9 : decode cX8_init 9 = .ok (.putfield 9, 3) := by decide +kernel
theorem dX8_init_12 : decode cX8_init 12 = .ok (.aload_n 0, 1) := by decide +kernel
theorem dX8_init_13 : decode cX8_init 13 = .ok (.bipush 8, 2) := by decide +kernel
theorem dX8_init_15 : decode cX8_init 15 = .ok (.newarray .int, 2) := by decide +kernel
theorem dX8_init_17 : decode cX8_init 17 = .ok (.putfield 15, 3) := by decide +kernel
theorem dX8_init_20 : decode cX8_init 20 = .ok (.return_, 1) := by decide +kernel
theorem dX9_init_0 : decode cX9_init 0 = .ok (.aload_n 0, 1) := by decide +kernel
theorem dX9_init_1 : decode cX9_init 1 = .ok (.invokespecial 3, 3) := by decide +kernel
theorem dX9_init_4 : decode cX9_init 4 = .ok (.aload_n 0, 1) := by decide +kernel
theorem dX9_init_5 : decode cX9_init 5 = .ok (.bipush 64, 2) := by decide +kernel
theorem dX9_init_7 : decode cX9_init 7 = .ok (.newarray .long, 2) := by decide +kernel
theorem dX9_init_9 : decode cX9_init 9 = .ok (.putfield 9, 3) := by decide +kernel
theorem dX9_init_12 : decode cX9_init 12 = .ok (.aload_n 0, 1) := by decide +kernel
theorem dX9_init_13 : decode cX9_init 13 = .ok (.bipush 64, 2) := by decide +kernel
theorem dX9_init_15 : decode cX9_init 15 = .ok (.newarray .long, 2) := by decide +kernel
theorem dX9_init_17 : decode cX9_init 17 = .ok (.putfield 15, 3) := by decide +kernel
theorem dX9_init_20 : decode cX9_init 20 = .ok (.aload_n 0, 1) := by decide +kernel
theorem dX9_init_21 : decode cX9_init 21 = .ok (.bipush 8, 2) := by decide +kernel
theorem dX9_init_23 : decode cX9_init 23 = .ok (.newarray .long, 2) := by decide +kernel
theorem dX9_init_25 : decode cX9_init 25 = .ok (.putfield 18, 3) := by decide +kernel
theorem dX9_init_28 : decode cX9_init 28 = .ok (.aload_n 0, 1) := by decide +kernel
theorem dX9_init_29 : decode cX9_init 29 = .ok (.bipush 8, 2) := by decide +kernel
theorem dX9_init_31 : decode cX9_init 31 = .ok (.newarray .long, 2) := by decide +kernel
theorem dX9_init_33 : decode cX9_init 33 = .ok (.putfield 21, 3) := by decide +kernel
theorem dX9_init_36 : decode cX9_init 36 = .ok (.aload_n 0, 1) := by decide +kernel
theorem dX9_init_37 : decode cX9_init 37 = .ok (.sipush 256, 3) := by decide +kernel
theorem dX9_init_40 : decode cX9_init 40 = .ok (.newarray .long, 2) := by decide +kernel
theorem dX9_init_42 : decode cX9_init 42 = .ok (.putfield 24, 3) := by decide +kernel
theorem dX9_init_45 : decode cX9_init 45 = .ok (.aload_n 0, 1) := by decide +kernel
theorem dX9_init_46 : decode cX9_init 46 = .ok (.bipush 16, 2) := by decide +kernel
theorem dX9_init_48 : decode cX9_init 48 = .ok (.newarray .int, 2) := by decide +kernel
theorem dX9_init_50 : decode cX9_init 50 = .ok (.putfield 27, 3) := by decide +kernel
theorem dX9_init_53 : decode cX9_init 53 = .ok (.aload_n 0, 1) := by decide +kernel
theorem dX9_init_54 : decode cX9_init 54 = .ok (.bipush 16, 2) := by decide +kernel
theorem dX9_init_56 : decode cX9_init 56 = .ok (.newarray .long, 2) := by decide +kernel
theorem dX9_init_58 : decode cX9_init 58 = .ok (.putfield 31, 3) := by decide +kernel
theorem dX9_init_61 : decode cX9_init 61 = .ok (.aload_n 0, 1) := by decide +kernel
theorem dX9_init_62 : decode cX9_init 62 = .ok (.bipush 16, 2) := by decide +kernel
theorem dX9_init_64 : decode cX9_init 64 = .ok (.newarray .int, 2) := by decide +kernel
theorem dX9_init_66 : decode cX9_init 66 = .ok (.putfield 34, 3) := by decide +kernel
theorem dX9_init_69 : decode cX9_init 69 = .ok (.aload_n 0, 1) := by decide +kernel
theorem dX9_init_70 : decode cX9_init 70 = .ok (.bipush 16, 2) := by decide +kernel
theorem dX9_init_72 : decode cX9_init 72 = .ok (.newarray .int, 2) := by decide +kernel
theorem dX9_init_74 : decode cX9_init 74 = .ok (.putfield 37, 3) := by decide +kernel
theorem dX9_init_77 : decode cX9_init 77 = .ok (.return_, 1) := by decide +kernel
end
section
set_option maxHeartbeats 4000000 in
set_option maxRecDepth 100000 in
/-- noParty on a new object -/
theorem c_noParty (l : Launch) (dC : Nat → ClassId) (dI : Nat → Nat → Nat) (h0 : Nat) (a0 : Nat) (a1 : Nat) (a2 : Nat) (a3 : Nat) (a4 : Nat) (a5 : Nat) (a6 : Nat) (a7 : Nat) (a8 : Nat) (a9 : Nat) (n0 : Nat) (b0 : Nat) (l0 : Nat) (l1 : Nat) (sz : Nat) (k : Int32) : Met l yX11_noParty (wT yX11_noParty cX11_noParty 2 (some .boolean)) ({ frames := 0, cells := 0, slots := 0, locals := 0 }) (pcW dC dI [.ref h0, .int k] sz [(h0, .inr (11, [.ref a0, .ref a1, .ref a2, .ref a3, .ref a4, .ref a5, .ref a6, .ref a7, .ref a8, .ref a9, .ref n0, .ref b0, .int (-1)])), (n0, .inr (3, [.ref l0, .ref l1, .int 0, .int 0]))] []) (vp_Si (fun r => r = 1)) 0 0 (fun _ => False) := by
  refine Met.ofW (cc := cX11_noParty) (maxL := 2) (ret := (some .boolean)) (by decide) rfl ?_
  intro p e s m args below meth c s₁ B hml hv
  obtain ⟨rfl, hsz, hP, hK, hD0⟩ := hv
  have hx := B.exec
  have hb := B.bytes
  have hr := B.returns
  have hT : ∀ w ∈ TB, w.before [.ref h0, .int k].toArray s = true := fun w h => atoms_spec (ws := wT yX11_noParty cX11_noParty 2 (some .boolean)) B.pre w (List.mem_cons_of_mem _ h)
  have hown : s.vm.findClass RX11 = some m.cls := findClass_of_methodNamed B.named
  have hlocks := B.notSynchronized
  subst hsz
  have hD := hD0
  have hP : va_P (dC, dI) vwCl [(h0, .inr (11, [.ref a0, .ref a1, .ref a2, .ref a3, .ref a4, .ref a5, .ref a6, .ref a7, .ref a8, .ref a9, .ref n0, .ref b0, .int (-1)])), (n0, .inr (3, [.ref l0, .ref l1, .int 0, .int 0]))] s.heap := hP
  have hl := lv_entry ([.ref h0, .int k]) (n := 2) (Nat.le_of_ble_eq_true rfl)
  rw [lg_entry_eq]
  generalize (lg_sl ([.ref h0, .int k]) ++ List.replicate (2 - (lg_sl ([.ref h0, .int k])).length) Slot.unset).toArray = ls at hl ⊢
  have hl : lv_has ls 2 [(0, .ref h0), (1, .int k)] := hl
  refine lv_iload_n hx hb dX11_noParty_0 rfl (lv_at hl 1 rfl) ?_
  refine lv_if_lt (tgt := 15) hx hb dX11_noParty_1 (by decide) (fun c_1 => ?_) (fun c_1 => ?_)
  · refine lv_iconst (v := 1) hx hb dX11_noParty_15 (by decide) ?_
    refine lv_goto (tgt := 20) hx hb dX11_noParty_16 (by decide) ?_
    exact W.zret (ty := .boolean) (v := 1) hx hb hr (by decide) (fun t ht hW => ⟨1, rfl, rfl, ht⟩) (fun q h => by cases h) dX11_noParty_20
  · refine lv_iload_n hx hb dX11_noParty_4 rfl (lv_at hl 1 rfl) ?_
    refine lv_aload_n hx hb dX11_noParty_5 rfl (lv_at hl 0 rfl) ?_
    refine va_get (D := (dC, dI)) (ci := 11) (v := .ref n0) (C := RX11) (T := TX11) (N := 13) hx hb hT iX11 hown hK hP 0 rfl rfl 10 (by decide) (hT _ w363) (fun _ h9 => h9) rfl dX11_noParty_6 ?_
    refine va_get (D := (dC, dI)) (ci := 3) (v := .int 0) (C := RX3) (T := TX3) (N := 4) hx hb hT iX3 hown hK hP 1 rfl rfl 2 (by decide) (hT _ w64) (fun _ h9 => h9) rfl dX11_noParty_9 ?_
    refine lv_icmp_lt (tgt := 19) hx hb dX11_noParty_12 (by decide) (fun h => absurd h c_1) (fun _ => ?_)
    refine lv_iconst (v := 1) hx hb dX11_noParty_15 (by decide) ?_
    refine lv_goto (tgt := 20) hx hb dX11_noParty_16 (by decide) ?_
    exact W.zret (ty := .boolean) (v := 1) hx hb hr (by decide) (fun t ht hW => ⟨1, rfl, rfl, ht⟩) (fun q h => by cases h) dX11_noParty_20

set_option maxHeartbeats 4000000 in
set_option maxRecDepth 100000 in
/-- noKind on a new object -/
theorem c_noKind (l : Launch) (dC : Nat → ClassId) (dI : Nat → Nat → Nat) (h0 : Nat) (a0 : Nat) (a1 : Nat) (a2 : Nat) (a3 : Nat) (a4 : Nat) (a5 : Nat) (a6 : Nat) (a7 : Nat) (a8 : Nat) (a9 : Nat) (n0 : Nat) (b0 : Nat) (l0 : Nat) (l1 : Nat) (sz : Nat) (k : Int32) : Met l yX11_noKind (wT yX11_noKind cX11_noKind 2 (some .boolean)) ({ frames := 0, cells := 0, slots := 0, locals := 0 }) (pcW dC dI [.ref h0, .int k] sz [(h0, .inr (11, [.ref a0, .ref a1, .ref a2, .ref a3, .ref a4, .ref a5, .ref a6, .ref a7, .ref a8, .ref a9, .ref n0, .ref b0, .int (-1)])), (n0, .inr (3, [.ref l0, .ref l1, .int 0, .int 0]))] []) (vp_Si (fun r => r = 1)) 0 0 (fun _ => False) := by
  refine Met.ofW (cc := cX11_noKind) (maxL := 2) (ret := (some .boolean)) (by decide) rfl ?_
  intro p e s m args below meth c s₁ B hml hv
  obtain ⟨rfl, hsz, hP, hK, hD0⟩ := hv
  have hx := B.exec
  have hb := B.bytes
  have hr := B.returns
  have hT : ∀ w ∈ TB, w.before [.ref h0, .int k].toArray s = true := fun w h => atoms_spec (ws := wT yX11_noKind cX11_noKind 2 (some .boolean)) B.pre w (List.mem_cons_of_mem _ h)
  have hown : s.vm.findClass RX11 = some m.cls := findClass_of_methodNamed B.named
  have hlocks := B.notSynchronized
  subst hsz
  have hD := hD0
  have hP : va_P (dC, dI) vwCl [(h0, .inr (11, [.ref a0, .ref a1, .ref a2, .ref a3, .ref a4, .ref a5, .ref a6, .ref a7, .ref a8, .ref a9, .ref n0, .ref b0, .int (-1)])), (n0, .inr (3, [.ref l0, .ref l1, .int 0, .int 0]))] s.heap := hP
  have hl := lv_entry ([.ref h0, .int k]) (n := 2) (Nat.le_of_ble_eq_true rfl)
  rw [lg_entry_eq]
  generalize (lg_sl ([.ref h0, .int k]) ++ List.replicate (2 - (lg_sl ([.ref h0, .int k])).length) Slot.unset).toArray = ls at hl ⊢
  have hl : lv_has ls 2 [(0, .ref h0), (1, .int k)] := hl
  refine lv_iload_n hx hb dX11_noKind_0 rfl (lv_at hl 1 rfl) ?_
  refine lv_if_lt (tgt := 15) hx hb dX11_noKind_1 (by decide) (fun c_1 => ?_) (fun c_1 => ?_)
  · refine lv_iconst (v := 1) hx hb dX11_noKind_15 (by decide) ?_
    refine lv_goto (tgt := 20) hx hb dX11_noKind_16 (by decide) ?_
    exact W.zret (ty := .boolean) (v := 1) hx hb hr (by decide) (fun t ht hW => ⟨1, rfl, rfl, ht⟩) (fun q h => by cases h) dX11_noKind_20
  · refine lv_iload_n hx hb dX11_noKind_4 rfl (lv_at hl 1 rfl) ?_
    refine lv_aload_n hx hb dX11_noKind_5 rfl (lv_at hl 0 rfl) ?_
    refine va_get (D := (dC, dI)) (ci := 11) (v := .ref n0) (C := RX11) (T := TX11) (N := 13) hx hb hT iX11 hown hK hP 0 rfl rfl 10 (by decide) (hT _ w363) (fun _ h9 => h9) rfl dX11_noKind_6 ?_
    refine va_get (D := (dC, dI)) (ci := 3) (v := .int 0) (C := RX3) (T := TX3) (N := 4) hx hb hT iX3 hown hK hP 1 rfl rfl 3 (by decide) (hT _ w67) (fun _ h9 => h9) rfl dX11_noKind_9 ?_
    refine lv_icmp_lt (tgt := 19) hx hb dX11_noKind_12 (by decide) (fun h => absurd h c_1) (fun _ => ?_)
    refine lv_iconst (v := 1) hx hb dX11_noKind_15 (by decide) ?_
    refine lv_goto (tgt := 20) hx hb dX11_noKind_16 (by decide) ?_
    exact W.zret (ty := .boolean) (v := 1) hx hb hr (by decide) (fun t ht hW => ⟨1, rfl, rfl, ht⟩) (fun q h => by cases h) dX11_noKind_20

set_option maxHeartbeats 4000000 in
set_option maxRecDepth 100000 in
/-- noTrade on a new object -/
theorem c_noTrade (l : Launch) (dC : Nat → ClassId) (dI : Nat → Nat → Nat) (h0 : Nat) (a0 : Nat) (a1 : Nat) (a2 : Nat) (a3 : Nat) (a4 : Nat) (a5 : Nat) (a6 : Nat) (a7 : Nat) (a8 : Nat) (a9 : Nat) (n0 : Nat) (b0 : Nat) (e0 : Nat) (e1 : Nat) (e2 : Nat) (e3 : Nat) (e4 : Nat) (e5 : Nat) (sz : Nat) (k : Int32) : Met l yX11_noTrade (wT yX11_noTrade cX11_noTrade 2 (some .boolean)) ({ frames := 0, cells := 0, slots := 0, locals := 0 }) (pcW dC dI [.ref h0, .int k] sz [(h0, .inr (11, [.ref a0, .ref a1, .ref a2, .ref a3, .ref a4, .ref a5, .ref a6, .ref a7, .ref a8, .ref a9, .ref n0, .ref b0, .int (-1)])), (b0, .inr (0, [.ref e0, .ref e1, .ref e2, .ref e3, .ref e4, .ref e5, .int 0, .int 0]))] []) (vp_Si (fun r => r = 1)) 0 0 (fun _ => False) := by
  refine Met.ofW (cc := cX11_noTrade) (maxL := 2) (ret := (some .boolean)) (by decide) rfl ?_
  intro p e s m args below meth c s₁ B hml hv
  obtain ⟨rfl, hsz, hP, hK, hD0⟩ := hv
  have hx := B.exec
  have hb := B.bytes
  have hr := B.returns
  have hT : ∀ w ∈ TB, w.before [.ref h0, .int k].toArray s = true := fun w h => atoms_spec (ws := wT yX11_noTrade cX11_noTrade 2 (some .boolean)) B.pre w (List.mem_cons_of_mem _ h)
  have hown : s.vm.findClass RX11 = some m.cls := findClass_of_methodNamed B.named
  have hlocks := B.notSynchronized
  subst hsz
  have hD := hD0
  have hP : va_P (dC, dI) vwCl [(h0, .inr (11, [.ref a0, .ref a1, .ref a2, .ref a3, .ref a4, .ref a5, .ref a6, .ref a7, .ref a8, .ref a9, .ref n0, .ref b0, .int (-1)])), (b0, .inr (0, [.ref e0, .ref e1, .ref e2, .ref e3, .ref e4, .ref e5, .int 0, .int 0]))] s.heap := hP
  have hl := lv_entry ([.ref h0, .int k]) (n := 2) (Nat.le_of_ble_eq_true rfl)
  rw [lg_entry_eq]
  generalize (lg_sl ([.ref h0, .int k]) ++ List.replicate (2 - (lg_sl ([.ref h0, .int k])).length) Slot.unset).toArray = ls at hl ⊢
  have hl : lv_has ls 2 [(0, .ref h0), (1, .int k)] := hl
  refine lv_iload_n hx hb dX11_noTrade_0 rfl (lv_at hl 1 rfl) ?_
  refine lv_if_lt (tgt := 15) hx hb dX11_noTrade_1 (by decide) (fun c_1 => ?_) (fun c_1 => ?_)
  · refine lv_iconst (v := 1) hx hb dX11_noTrade_15 (by decide) ?_
    refine lv_goto (tgt := 20) hx hb dX11_noTrade_16 (by decide) ?_
    exact W.zret (ty := .boolean) (v := 1) hx hb hr (by decide) (fun t ht hW => ⟨1, rfl, rfl, ht⟩) (fun q h => by cases h) dX11_noTrade_20
  · refine lv_iload_n hx hb dX11_noTrade_4 rfl (lv_at hl 1 rfl) ?_
    refine lv_aload_n hx hb dX11_noTrade_5 rfl (lv_at hl 0 rfl) ?_
    refine va_get (D := (dC, dI)) (ci := 11) (v := .ref b0) (C := RX11) (T := TX11) (N := 13) hx hb hT iX11 hown hK hP 0 rfl rfl 11 (by decide) (hT _ w364) (fun _ h9 => h9) rfl dX11_noTrade_6 ?_
    refine va_get (D := (dC, dI)) (ci := 0) (v := .int 0) (C := RX0) (T := TX0) (N := 8) hx hb hT iX0 hown hK hP 1 rfl rfl 6 (by decide) (hT _ w114) (fun _ h9 => h9) rfl dX11_noTrade_9 ?_
    refine lv_icmp_lt (tgt := 19) hx hb dX11_noTrade_12 (by decide) (fun h => absurd h c_1) (fun _ => ?_)
    refine lv_iconst (v := 1) hx hb dX11_noTrade_15 (by decide) ?_
    refine lv_goto (tgt := 20) hx hb dX11_noTrade_16 (by decide) ?_
    exact W.zret (ty := .boolean) (v := 1) hx hb hr (by decide) (fun t ht hW => ⟨1, rfl, rfl, ht⟩) (fun q h => by cases h) dX11_noTrade_20

set_option maxHeartbeats 4000000 in
set_option maxRecDepth 100000 in
theorem c_noCouple (l : Launch) (dC : Nat → ClassId) (dI : Nat → Nat → Nat) (h0 : Nat) (a0 : Nat) (a1 : Nat) (a2 : Nat) (a3 : Nat) (a4 : Nat) (a5 : Nat) (a6 : Nat) (a7 : Nat) (a8 : Nat) (a9 : Nat) (n0 : Nat) (b0 : Nat) (l0 : Nat) (l1 : Nat) (sz : Nat) (k : Int32) (k2 : Int32) : Met l yX11_noCouple (wT yX11_noCouple cX11_noCouple 3 (some .boolean)) ({ frames := 1, cells := 0, slots := 0, locals := 21 }) (pcW dC dI [.ref h0, .int k, .int k2] sz [(h0, .inr (11, [.ref a0, .ref a1, .ref a2, .ref a3, .ref a4, .ref a5, .ref a6, .ref a7, .ref a8, .ref a9, .ref n0, .ref b0, .int (-1)])), (n0, .inr (3, [.ref l0, .ref l1, .int 0, .int 0]))] []) (vp_Si (fun r => r = 1)) 0 0 (fun _ => False) := by
  refine Met.ofW (cc := cX11_noCouple) (maxL := 3) (ret := (some .boolean)) (by decide) rfl ?_
  intro p e s m args below meth c s₁ B hml hv
  obtain ⟨rfl, hsz, hP, hK, hD0⟩ := hv
  have hx := B.exec
  have hb := B.bytes
  have hr := B.returns
  have hT : ∀ w ∈ TB, w.before [.ref h0, .int k, .int k2].toArray s = true := fun w h => atoms_spec (ws := wT yX11_noCouple cX11_noCouple 3 (some .boolean)) B.pre w (List.mem_cons_of_mem _ h)
  have hown : s.vm.findClass RX11 = some m.cls := findClass_of_methodNamed B.named
  have hlocks := B.notSynchronized
  subst hsz
  have hD := hD0
  have hP : va_P (dC, dI) vwCl [(h0, .inr (11, [.ref a0, .ref a1, .ref a2, .ref a3, .ref a4, .ref a5, .ref a6, .ref a7, .ref a8, .ref a9, .ref n0, .ref b0, .int (-1)])), (n0, .inr (3, [.ref l0, .ref l1, .int 0, .int 0]))] s.heap := hP
  have hl := lv_entry ([.ref h0, .int k, .int k2]) (n := 3) (Nat.le_of_ble_eq_true rfl)
  rw [lg_entry_eq]
  generalize (lg_sl ([.ref h0, .int k, .int k2]) ++ List.replicate (3 - (lg_sl ([.ref h0, .int k, .int k2])).length) Slot.unset).toArray = ls at hl ⊢
  have hl : lv_has ls 3 [(0, .ref h0), (1, .int k), (2, .int k2)] := hl
  refine lv_aload_n hx hb dX11_noCouple_0 rfl (lv_at hl 0 rfl) ?_
  refine lv_iload_n hx hb dX11_noCouple_1 rfl (lv_at hl 1 rfl) ?_
  have hPc := hP.sub (ws' := [(h0, .inr (11, [.ref a0, .ref a1, .ref a2, .ref a3, .ref a4, .ref a5, .ref a6, .ref a7, .ref a8, .ref a9, .ref n0, .ref b0, .int (-1)])), (n0, .inr (3, [.ref l0, .ref l1, .int 0, .int 0]))]) [0, 1] rfl
  have hDc := hD.sub (ws' := [(h0, .inr (11, [.ref a0, .ref a1, .ref a2, .ref a3, .ref a4, .ref a5, .ref a6, .ref a7, .ref a8, .ref a9, .ref n0, .ref b0, .int (-1)])), (n0, .inr (3, [.ref l0, .ref l1, .int 0, .int 0]))]) [0, 1] (by decide) rfl
  have hKc := hK.sub (tys' := []) [] rfl
  refine vp_callSi (va_Run.run (va_runV (As := [.int k]) (rest := []) ⟨hx, hb, hml, hown, hT⟩ (c_noParty l dC dI h0 a0 a1 a2 a3 a4 a5 a6 a7 a8 a9 n0 b0 l0 l1 s.heap.size k) (cwV 1 hT (gV w602 w604 ws23 w1 w605) rfl rfl rfl (by decide +kernel) ⟨(Nat.le_of_ble_eq_true rfl), (Nat.le_of_ble_eq_true rfl)⟩) ⟨pcW.blind, va_recv hKc hPc (ci := 11) (q0 := 0) rfl rfl, pcW.pre hPc hKc hDc⟩ rfl rfl hl.1 rfl (lv_room (Nat.le_of_ble_eq_true rfl)) dX11_noCouple_2 ⟨(Nat.le_of_ble_eq_true rfl), (Nat.le_of_ble_eq_true rfl)⟩)) (fun r_2 hr_2 => ?_)
  obtain rfl : r_2 = 1 := hr_2
  refine lv_if_ne (tgt := 21) hx hb dX11_noCouple_5 (by decide) (fun _ => ?_) (fun h => absurd h (by decide))
  refine lv_iconst (v := 1) hx hb dX11_noCouple_21 (by decide) ?_
  refine lv_goto (tgt := 26) hx hb dX11_noCouple_22 (by decide) ?_
  exact W.zret (ty := .boolean) (v := 1) hx hb hr (by decide) (fun t ht hW => ⟨1, rfl, rfl, ht⟩) (fun q h => by cases h) dX11_noCouple_26

set_option maxHeartbeats 4000000 in
set_option maxRecDepth 100000 in
theorem m_isIn (l : Launch) (dC : Nat → ClassId) (dI : Nat → Nat → Nat) (sz : Nat) (v : Int64) (lo : Int64) (hi : Int64) : Met l yX12_isIn (wT yX12_isIn cX12_isIn 6 (some .boolean)) ({ frames := 0, cells := 0, slots := 0, locals := 0 }) (pcW dC dI [.long v, .long lo, .long hi] sz [] []) (vp_Si (fun r => r = (if lo ≤ v ∧ v ≤ hi then 1 else 0))) 0 0 (fun _ => False) := by
  refine Met.ofW (cc := cX12_isIn) (maxL := 6) (ret := (some .boolean)) (by decide) rfl ?_
  intro p e s m args below meth c s₁ B hml hv
  obtain ⟨rfl, hsz, hP, hK, hD0⟩ := hv
  have hx := B.exec
  have hb := B.bytes
  have hr := B.returns
  have hT : ∀ w ∈ TB, w.before [.long v, .long lo, .long hi].toArray s = true := fun w h => atoms_spec (ws := wT yX12_isIn cX12_isIn 6 (some .boolean)) B.pre w (List.mem_cons_of_mem _ h)
  have hown : s.vm.findClass RX12 = some m.cls := findClass_of_methodNamed B.named
  have hlocks := B.notSynchronized
  subst hsz
  have hD := hD0
  have hP : va_P (dC, dI) vwCl [] s.heap := hP
  have hl := lv_entry ([.long v, .long lo, .long hi]) (n := 6) (Nat.le_of_ble_eq_true rfl)
  rw [lg_entry_eq]
  generalize (lg_sl ([.long v, .long lo, .long hi]) ++ List.replicate (6 - (lg_sl ([.long v, .long lo, .long hi])).length) Slot.unset).toArray = ls at hl ⊢
  have hl : lv_has ls 6 [(0, .long v), (2, .long lo), (4, .long hi)] := hl
  refine lv_lload_n hx hb dX12_isIn_0 rfl (lv_at hl 0 rfl) ?_
  refine lv_lload_n hx hb dX12_isIn_1 rfl (lv_at hl 1 rfl) ?_
  refine W.lcmp hx hb dX12_isIn_2 ?_
  refine lv_if_lt (tgt := 17) hx hb dX12_isIn_3 (by decide) (fun c_3 => ?_) (fun c_3 => ?_)
  · refine lv_iconst (v := 0) hx hb dX12_isIn_17 (by decide) ?_
    exact W.zret (ty := .boolean) (v := 0) hx hb hr (by decide) (fun t ht hW => ⟨0, rfl, (isIn_a c_3), ht⟩) (fun q h => by cases h) dX12_isIn_18
  · refine lv_lload_n hx hb dX12_isIn_6 rfl (lv_at hl 0 rfl) ?_
    refine lv_lload hx hb dX12_isIn_7 (lv_at hl 2 rfl) ?_
    refine W.lcmp hx hb dX12_isIn_9 ?_
    refine lv_if_gt (tgt := 17) hx hb dX12_isIn_10 (by decide) (fun c_10 => ?_) (fun c_10 => ?_)
    · refine lv_iconst (v := 0) hx hb dX12_isIn_17 (by decide) ?_
      exact W.zret (ty := .boolean) (v := 0) hx hb hr (by decide) (fun t ht hW => ⟨0, rfl, (isIn_b c_10), ht⟩) (fun q h => by cases h) dX12_isIn_18
    · refine lv_iconst (v := 1) hx hb dX12_isIn_13 (by decide) ?_
      refine lv_goto (tgt := 18) hx hb dX12_isIn_14 (by decide) ?_
      exact W.zret (ty := .boolean) (v := 1) hx hb hr (by decide) (fun t ht hW => ⟨1, rfl, (isIn_1 c_3 c_10), ht⟩) (fun q h => by cases h) dX12_isIn_18

set_option maxHeartbeats 4000000 in
set_option maxRecDepth 100000 in
theorem m_isParty (l : Launch) (dC : Nat → ClassId) (dI : Nat → Nat → Nat) (m0 : Nat) (g0 : Nat) (g1 : Nat) (g2 : Nat) (g3 : Nat) (g4 : Nat) (g9 : Nat) (g17 : Nat) (g18 : Nat) (g20 : Nat) (g21 : Nat) (g22 : Nat) (g23 : Nat) (g24 : Nat) (g25 : Nat) (g26 : Nat) (g27 : Nat) (g28 : Nat) (g29 : Nat) (g30 : Nat) (sz : Nat) (k : Int32) : Met l yX12_isParty (wT yX12_isParty cX12_isParty 2 (some .boolean)) ({ frames := 1, cells := 0, slots := 0, locals := 25 }) (pcW dC dI [.ref m0, .int k] sz [(m0, .inr (12, [.ref g0, .ref g1, .ref g2, .ref g3, .ref g4, .int 0, .int 0, .int 0, .int 0, .ref g9, .int 0, .int 0, .int 0, .int 0, .int (-1), .int 0, .int 0, .ref g17, .ref g18, .int 0, .ref g20, .ref g21, .ref g22, .ref g23, .ref g24, .ref g25, .ref g26, .ref g27, .ref g28, .ref g29, .ref g30, .int 0]))] []) (vp_Si (fun r => r = 0)) 0 0 (fun _ => False) := by
  refine Met.ofW (cc := cX12_isParty) (maxL := 2) (ret := (some .boolean)) (by decide) rfl ?_
  intro p e s m args below meth c s₁ B hml hv
  obtain ⟨rfl, hsz, hP, hK, hD0⟩ := hv
  have hx := B.exec
  have hb := B.bytes
  have hr := B.returns
  have hT : ∀ w ∈ TB, w.before [.ref m0, .int k].toArray s = true := fun w h => atoms_spec (ws := wT yX12_isParty cX12_isParty 2 (some .boolean)) B.pre w (List.mem_cons_of_mem _ h)
  have hown : s.vm.findClass RX12 = some m.cls := findClass_of_methodNamed B.named
  have hlocks := B.notSynchronized
  subst hsz
  have hD := hD0
  have hP : va_P (dC, dI) vwCl [(m0, .inr (12, [.ref g0, .ref g1, .ref g2, .ref g3, .ref g4, .int 0, .int 0, .int 0, .int 0, .ref g9, .int 0, .int 0, .int 0, .int 0, .int (-1), .int 0, .int 0, .ref g17, .ref g18, .int 0, .ref g20, .ref g21, .ref g22, .ref g23, .ref g24, .ref g25, .ref g26, .ref g27, .ref g28, .ref g29, .ref g30, .int 0]))] s.heap := hP
  have hl := lv_entry ([.ref m0, .int k]) (n := 2) (Nat.le_of_ble_eq_true rfl)
  rw [lg_entry_eq]
  generalize (lg_sl ([.ref m0, .int k]) ++ List.replicate (2 - (lg_sl ([.ref m0, .int k])).length) Slot.unset).toArray = ls at hl ⊢
  have hl : lv_has ls 2 [(0, .ref m0), (1, .int k)] := hl
  refine lv_iload_n hx hb dX12_isParty_0 rfl (lv_at hl 1 rfl) ?_
  refine lv_i2l hx hb dX12_isParty_1 rfl ?_
  refine lv_topl (fun z_1 ez_1 => ?_)
  refine lv_lconst (v := 0) hx hb dX12_isParty_2 (by decide) ?_
  refine lv_aload_n hx hb dX12_isParty_3 rfl (lv_at hl 0 rfl) ?_
  refine va_get (D := (dC, dI)) (ci := 12) (v := .int 0) (C := RX12) (T := TX12) (N := 32) hx hb hT iX12 hown hK hP 0 rfl rfl 5 (by decide) (hT _ w1087) (fun _ h9 => h9) rfl dX12_isParty_4 ?_
  refine lv_iconst (v := 1) hx hb dX12_isParty_7 (by decide) ?_
  refine lv_isub hx hb dX12_isParty_8 ?_
  refine lv_topi (fun z_2 ez_2 => ?_)
  obtain rfl : z_2 = (-1) := ez_2.trans (by decide)
  refine lv_i2l (v := (-1)) hx hb dX12_isParty_9 (by decide) ?_
  have hPc := hP.sub (ws' := []) [] rfl
  have hDc := hD.sub (ws' := []) [] (by decide) rfl
  have hKc := hK.sub (tys' := []) [] rfl
  refine vp_callSi (va_Run.run (va_runS (As := [.long z_1, .long 0, .long (-1)]) (rest := []) ⟨hx, hb, hml, hown, hT⟩ (m_isIn l dC dI s.heap.size z_1 0 (-1)) (va_cwS 3 hT (gS w1187 w1188 w14 w1189) rfl rfl rfl (by decide +kernel) ⟨(Nat.le_of_ble_eq_true rfl), (Nat.le_of_ble_eq_true rfl)⟩) ⟨pcW.blind, pcW.pre hPc hKc hDc⟩ rfl rfl hl.1 rfl (lv_room (Nat.le_of_ble_eq_true rfl)) dX12_isParty_10 ⟨(Nat.le_of_ble_eq_true rfl), (Nat.le_of_ble_eq_true rfl)⟩)) (fun r_10 hr_10 => ?_)
  obtain rfl : r_10 = 0 := hr_10.trans (isIn_0 _)
  exact W.zret (ty := .boolean) (v := 0) hx hb hr (by decide) (fun t ht hW => ⟨0, rfl, rfl, ht⟩) (fun q h => by cases h) dX12_isParty_13

set_option maxHeartbeats 4000000 in
set_option maxRecDepth 100000 in
theorem m_isKind (l : Launch) (dC : Nat → ClassId) (dI : Nat → Nat → Nat) (m0 : Nat) (g0 : Nat) (g1 : Nat) (g2 : Nat) (g3 : Nat) (g4 : Nat) (g9 : Nat) (g17 : Nat) (g18 : Nat) (g20 : Nat) (g21 : Nat) (g22 : Nat) (g23 : Nat) (g24 : Nat) (g25 : Nat) (g26 : Nat) (g27 : Nat) (g28 : Nat) (g29 : Nat) (g30 : Nat) (sz : Nat) (k : Int32) : Met l yX12_isKind (wT yX12_isKind cX12_isKind 2 (some .boolean)) ({ frames := 1, cells := 0, slots := 0, locals := 25 }) (pcW dC dI [.ref m0, .int k] sz [(m0, .inr (12, [.ref g0, .ref g1, .ref g2, .ref g3, .ref g4, .int 0, .int 0, .int 0, .int 0, .ref g9, .int 0, .int 0, .int 0, .int 0, .int (-1), .int 0, .int 0, .ref g17, .ref g18, .int 0, .ref g20, .ref g21, .ref g22, .ref g23, .ref g24, .ref g25, .ref g26, .ref g27, .ref g28, .ref g29, .ref g30, .int 0]))] []) (vp_Si (fun r => r = 0)) 0 0 (fun _ => False) := by
  refine Met.ofW (cc := cX12_isKind) (maxL := 2) (ret := (some .boolean)) (by decide) rfl ?_
  intro p e s m args below meth c s₁ B hml hv
  obtain ⟨rfl, hsz, hP, hK, hD0⟩ := hv
  have hx := B.exec
  have hb := B.bytes
  have hr := B.returns
  have hT : ∀ w ∈ TB, w.before [.ref m0, .int k].toArray s = true := fun w h => atoms_spec (ws := wT yX12_isKind cX12_isKind 2 (some .boolean)) B.pre w (List.mem_cons_of_mem _ h)
  have hown : s.vm.findClass RX12 = some m.cls := findClass_of_methodNamed B.named
  have hlocks := B.notSynchronized
  subst hsz
  have hD := hD0
  have hP : va_P (dC, dI) vwCl [(m0, .inr (12, [.ref g0, .ref g1, .ref g2, .ref g3, .ref g4, .int 0, .int 0, .int 0, .int 0, .ref g9, .int 0, .int 0, .int 0, .int 0, .int (-1), .int 0, .int 0, .ref g17, .ref g18, .int 0, .ref g20, .ref g21, .ref g22, .ref g23, .ref g24, .ref g25, .ref g26, .ref g27, .ref g28, .ref g29, .ref g30, .int 0]))] s.heap := hP
  have hl := lv_entry ([.ref m0, .int k]) (n := 2) (Nat.le_of_ble_eq_true rfl)
  rw [lg_entry_eq]
  generalize (lg_sl ([.ref m0, .int k]) ++ List.replicate (2 - (lg_sl ([.ref m0, .int k])).length) Slot.unset).toArray = ls at hl ⊢
  have hl : lv_has ls 2 [(0, .ref m0), (1, .int k)] := hl
  refine lv_iload_n hx hb dX12_isKind_0 rfl (lv_at hl 1 rfl) ?_
  refine lv_i2l hx hb dX12_isKind_1 rfl ?_
  refine lv_topl (fun z_1 ez_1 => ?_)
  refine lv_lconst (v := 0) hx hb dX12_isKind_2 (by decide) ?_
  refine lv_aload_n hx hb dX12_isKind_3 rfl (lv_at hl 0 rfl) ?_
  refine va_get (D := (dC, dI)) (ci := 12) (v := .int 0) (C := RX12) (T := TX12) (N := 32) hx hb hT iX12 hown hK hP 0 rfl rfl 6 (by decide) (hT _ w1088) (fun _ h9 => h9) rfl dX12_isKind_4 ?_
  refine lv_iconst (v := 1) hx hb dX12_isKind_7 (by decide) ?_
  refine lv_isub hx hb dX12_isKind_8 ?_
  refine lv_topi (fun z_2 ez_2 => ?_)
  obtain rfl : z_2 = (-1) := ez_2.trans (by decide)
  refine lv_i2l (v := (-1)) hx hb dX12_isKind_9 (by decide) ?_
  have hPc := hP.sub (ws' := []) [] rfl
  have hDc := hD.sub (ws' := []) [] (by decide) rfl
  have hKc := hK.sub (tys' := []) [] rfl
  refine vp_callSi (va_Run.run (va_runS (As := [.long z_1, .long 0, .long (-1)]) (rest := []) ⟨hx, hb, hml, hown, hT⟩ (m_isIn l dC dI s.heap.size z_1 0 (-1)) (va_cwS 3 hT (gS w1187 w1188 w14 w1189) rfl rfl rfl (by decide +kernel) ⟨(Nat.le_of_ble_eq_true rfl), (Nat.le_of_ble_eq_true rfl)⟩) ⟨pcW.blind, pcW.pre hPc hKc hDc⟩ rfl rfl hl.1 rfl (lv_room (Nat.le_of_ble_eq_true rfl)) dX12_isKind_10 ⟨(Nat.le_of_ble_eq_true rfl), (Nat.le_of_ble_eq_true rfl)⟩)) (fun r_10 hr_10 => ?_)
  obtain rfl : r_10 = 0 := hr_10.trans (isIn_0 _)
  exact W.zret (ty := .boolean) (v := 0) hx hb hr (by decide) (fun t ht hW => ⟨0, rfl, rfl, ht⟩) (fun q h => by cases h) dX12_isKind_13

set_option maxHeartbeats 4000000 in
set_option maxRecDepth 100000 in
theorem m_isTrade (l : Launch) (dC : Nat → ClassId) (dI : Nat → Nat → Nat) (m0 : Nat) (g0 : Nat) (g1 : Nat) (g2 : Nat) (g3 : Nat) (g4 : Nat) (g9 : Nat) (g17 : Nat) (g18 : Nat) (g20 : Nat) (g21 : Nat) (g22 : Nat) (g23 : Nat) (g24 : Nat) (g25 : Nat) (g26 : Nat) (g27 : Nat) (g28 : Nat) (g29 : Nat) (g30 : Nat) (cS : ClassId) (f : Nat → Int32) (sz : Nat) (k : Int32) (hf0 : f 0 = 0) : Met l yX12_isTrade (wT yX12_isTrade cX12_isTrade 2 (some .boolean)) ({ frames := 1, cells := 0, slots := 0, locals := 25 }) (pcW dC dI [.ref m0, .int k] sz [(m0, .inr (12, [.ref g0, .ref g1, .ref g2, .ref g3, .ref g4, .int 0, .int 0, .int 0, .int 0, .ref g9, .int 0, .int 0, .int 0, .int 0, .int (-1), .int 0, .int 0, .ref g17, .ref g18, .int 0, .ref g20, .ref g21, .ref g22, .ref g23, .ref g24, .ref g25, .ref g26, .ref g27, .ref g28, .ref g29, .ref g30, .int 0])), (g0, .inl (cS, 266, .inl f))] [(cS, .int)]) (vp_Si (fun r => r = 0)) 0 0 (fun _ => False) := by
  refine Met.ofW (cc := cX12_isTrade) (maxL := 2) (ret := (some .boolean)) (by decide) rfl ?_
  intro p e s m args below meth c s₁ B hml hv
  obtain ⟨rfl, hsz, hP, hK, hD0⟩ := hv
  have hx := B.exec
  have hb := B.bytes
  have hr := B.returns
  have hT : ∀ w ∈ TB, w.before [.ref m0, .int k].toArray s = true := fun w h => atoms_spec (ws := wT yX12_isTrade cX12_isTrade 2 (some .boolean)) B.pre w (List.mem_cons_of_mem _ h)
  have hown : s.vm.findClass RX12 = some m.cls := findClass_of_methodNamed B.named
  have hlocks := B.notSynchronized
  subst hsz
  have hD := hD0
  have hP : va_P (dC, dI) vwCl [(m0, .inr (12, [.ref g0, .ref g1, .ref g2, .ref g3, .ref g4, .int 0, .int 0, .int 0, .int 0, .ref g9, .int 0, .int 0, .int 0, .int 0, .int (-1), .int 0, .int 0, .ref g17, .ref g18, .int 0, .ref g20, .ref g21, .ref g22, .ref g23, .ref g24, .ref g25, .ref g26, .ref g27, .ref g28, .ref g29, .ref g30, .int 0])), (g0, .inl (cS, 266, .inl f))] s.heap := hP
  have hl := lv_entry ([.ref m0, .int k]) (n := 2) (Nat.le_of_ble_eq_true rfl)
  rw [lg_entry_eq]
  generalize (lg_sl ([.ref m0, .int k]) ++ List.replicate (2 - (lg_sl ([.ref m0, .int k])).length) Slot.unset).toArray = ls at hl ⊢
  have hl : lv_has ls 2 [(0, .ref m0), (1, .int k)] := hl
  refine lv_iload_n hx hb dX12_isTrade_0 rfl (lv_at hl 1 rfl) ?_
  refine lv_i2l hx hb dX12_isTrade_1 rfl ?_
  refine lv_topl (fun z_1 ez_1 => ?_)
  refine lv_lconst (v := 0) hx hb dX12_isTrade_2 (by decide) ?_
  refine lv_aload_n hx hb dX12_isTrade_3 rfl (lv_at hl 0 rfl) ?_
  refine va_get (D := (dC, dI)) (ci := 12) (v := .ref g0) (C := RX12) (T := TX12) (N := 32) hx hb hT iX12 hown hK hP 0 rfl rfl 0 (by decide) (hT _ w1082) (fun _ h9 => h9) rfl dX12_isTrade_4 ?_
  refine lv_iconst (v := 0) hx hb dX12_isTrade_7 (by decide) ?_
  refine va_iald hx hb hK hP 1 0 rfl rfl (by unfold vp_in; decide) dX12_isTrade_8 ?_
  refine lv_topi (fun x_2 ex_2 => ?_)
  obtain rfl : x_2 = 0 := ex_2.trans hf0
  refine lv_iconst (v := 1) hx hb dX12_isTrade_9 (by decide) ?_
  refine lv_isub hx hb dX12_isTrade_10 ?_
  refine lv_topi (fun z_3 ez_3 => ?_)
  obtain rfl : z_3 = (-1) := ez_3.trans (by decide)
  refine lv_i2l (v := (-1)) hx hb dX12_isTrade_11 (by decide) ?_
  have hPc := hP.sub (ws' := []) [] rfl
  have hDc := hD.sub (ws' := []) [] (by decide) rfl
  have hKc := hK.sub (tys' := []) [] rfl
  refine vp_callSi (va_Run.run (va_runS (As := [.long z_1, .long 0, .long (-1)]) (rest := []) ⟨hx, hb, hml, hown, hT⟩ (m_isIn l dC dI s.heap.size z_1 0 (-1)) (va_cwS 3 hT (gS w1187 w1188 w14 w1189) rfl rfl rfl (by decide +kernel) ⟨(Nat.le_of_ble_eq_true rfl), (Nat.le_of_ble_eq_true rfl)⟩) ⟨pcW.blind, pcW.pre hPc hKc hDc⟩ rfl rfl hl.1 rfl (lv_room (Nat.le_of_ble_eq_true rfl)) dX12_isTrade_12 ⟨(Nat.le_of_ble_eq_true rfl), (Nat.le_of_ble_eq_true rfl)⟩)) (fun r_12 hr_12 => ?_)
  obtain rfl : r_12 = 0 := hr_12.trans (isIn_0 _)
  exact W.zret (ty := .boolean) (v := 0) hx hb hr (by decide) (fun t ht hW => ⟨0, rfl, rfl, ht⟩) (fun q h => by cases h) dX12_isTrade_15

set_option maxHeartbeats 4000000 in
set_option maxRecDepth 100000 in
theorem m_areTwo (l : Launch) (dC : Nat → ClassId) (dI : Nat → Nat → Nat) (m0 : Nat) (g0 : Nat) (g1 : Nat) (g2 : Nat) (g3 : Nat) (g4 : Nat) (g9 : Nat) (g17 : Nat) (g18 : Nat) (g20 : Nat) (g21 : Nat) (g22 : Nat) (g23 : Nat) (g24 : Nat) (g25 : Nat) (g26 : Nat) (g27 : Nat) (g28 : Nat) (g29 : Nat) (g30 : Nat) (sz : Nat) (k : Int32) (k2 : Int32) : Met l yX12_areTwo (wT yX12_areTwo cX12_areTwo 3 (some .boolean)) ({ frames := 2, cells := 0, slots := 0, locals := 46 }) (pcW dC dI [.ref m0, .int k, .int k2] sz [(m0, .inr (12, [.ref g0, .ref g1, .ref g2, .ref g3, .ref g4, .int 0, .int 0, .int 0, .int 0, .ref g9, .int 0, .int 0, .int 0, .int 0, .int (-1), .int 0, .int 0, .ref g17, .ref g18, .int 0, .ref g20, .ref g21, .ref g22, .ref g23, .ref g24, .ref g25, .ref g26, .ref g27, .ref g28, .ref g29, .ref g30, .int 0]))] []) (vp_Si (fun r => r = 0)) 0 0 (fun _ => False) := by
  refine Met.ofW (cc := cX12_areTwo) (maxL := 3) (ret := (some .boolean)) (by decide) rfl ?_
  intro p e s m args below meth c s₁ B hml hv
  obtain ⟨rfl, hsz, hP, hK, hD0⟩ := hv
  have hx := B.exec
  have hb := B.bytes
  have hr := B.returns
  have hT : ∀ w ∈ TB, w.before [.ref m0, .int k, .int k2].toArray s = true := fun w h => atoms_spec (ws := wT yX12_areTwo cX12_areTwo 3 (some .boolean)) B.pre w (List.mem_cons_of_mem _ h)
  have hown : s.vm.findClass RX12 = some m.cls := findClass_of_methodNamed B.named
  have hlocks := B.notSynchronized
  subst hsz
  have hD := hD0
  have hP : va_P (dC, dI) vwCl [(m0, .inr (12, [.ref g0, .ref g1, .ref g2, .ref g3, .ref g4, .int 0, .int 0, .int 0, .int 0, .ref g9, .int 0, .int 0, .int 0, .int 0, .int (-1), .int 0, .int 0, .ref g17, .ref g18, .int 0, .ref g20, .ref g21, .ref g22, .ref g23, .ref g24, .ref g25, .ref g26, .ref g27, .ref g28, .ref g29, .ref g30, .int 0]))] s.heap := hP
  have hl := lv_entry ([.ref m0, .int k, .int k2]) (n := 3) (Nat.le_of_ble_eq_true rfl)
  rw [lg_entry_eq]
  generalize (lg_sl ([.ref m0, .int k, .int k2]) ++ List.replicate (3 - (lg_sl ([.ref m0, .int k, .int k2])).length) Slot.unset).toArray = ls at hl ⊢
  have hl : lv_has ls 3 [(0, .ref m0), (1, .int k), (2, .int k2)] := hl
  refine lv_aload_n hx hb dX12_areTwo_0 rfl (lv_at hl 0 rfl) ?_
  refine lv_iload_n hx hb dX12_areTwo_1 rfl (lv_at hl 1 rfl) ?_
  have hPc := hP.sub (ws' := [(m0, .inr (12, [.ref g0, .ref g1, .ref g2, .ref g3, .ref g4, .int 0, .int 0, .int 0, .int 0, .ref g9, .int 0, .int 0, .int 0, .int 0, .int (-1), .int 0, .int 0, .ref g17, .ref g18, .int 0, .ref g20, .ref g21, .ref g22, .ref g23, .ref g24, .ref g25, .ref g26, .ref g27, .ref g28, .ref g29, .ref g30, .int 0]))]) [0] rfl
  have hDc := hD.sub (ws' := [(m0, .inr (12, [.ref g0, .ref g1, .ref g2, .ref g3, .ref g4, .int 0, .int 0, .int 0, .int 0, .ref g9, .int 0, .int 0, .int 0, .int 0, .int (-1), .int 0, .int 0, .ref g17, .ref g18, .int 0, .ref g20, .ref g21, .ref g22, .ref g23, .ref g24, .ref g25, .ref g26, .ref g27, .ref g28, .ref g29, .ref g30, .int 0]))]) [0] (by decide) rfl
  have hKc := hK.sub (tys' := []) [] rfl
  refine vp_callSi (va_Run.run (va_runV (As := [.int k]) (rest := []) ⟨hx, hb, hml, hown, hT⟩ (m_isParty l dC dI m0 g0 g1 g2 g3 g4 g9 g17 g18 g20 g21 g22 g23 g24 g25 g26 g27 g28 g29 g30 s.heap.size k) (cwV 1 hT (gV w1284 w1286 ws73 w14 w1287) rfl rfl rfl (by decide +kernel) ⟨(Nat.le_of_ble_eq_true rfl), (Nat.le_of_ble_eq_true rfl)⟩) ⟨pcW.blind, va_recv hKc hPc (ci := 12) (q0 := 0) rfl rfl, pcW.pre hPc hKc hDc⟩ rfl rfl hl.1 rfl (lv_room (Nat.le_of_ble_eq_true rfl)) dX12_areTwo_2 ⟨(Nat.le_of_ble_eq_true rfl), (Nat.le_of_ble_eq_true rfl)⟩)) (fun r_2 hr_2 => ?_)
  obtain rfl : r_2 = 0 := hr_2
  refine lv_if_eq (tgt := 25) hx hb dX12_areTwo_5 (by decide) (fun _ => ?_) (fun h => absurd (by decide) h)
  refine lv_iconst (v := 0) hx hb dX12_areTwo_25 (by decide) ?_
  exact W.zret (ty := .boolean) (v := 0) hx hb hr (by decide) (fun t ht hW => ⟨0, rfl, rfl, ht⟩) (fun q h => by cases h) dX12_areTwo_26
end
section
set_option maxHeartbeats 4000000 in
set_option maxRecDepth 100000 in
theorem c_trade (l : Launch) (dC : Nat → ClassId) (dI : Nat → Nat → Nat) (h0 : Nat) (a0 : Nat) (a1 : Nat) (a2 : Nat) (a3 : Nat) (a4 : Nat) (a5 : Nat) (a6 : Nat) (a7 : Nat) (a8 : Nat) (a9 : Nat) (n0 : Nat) (b0 : Nat) (l0 : Nat) (l1 : Nat) (sz : Nat) (k0 : Int32) (k1 : Int32) (k2 : Int32) (k3 : Int32) : Met l yX11_trade (wT yX11_trade cX11_trade 5 (some .int)) ({ frames := 2, cells := 0, slots := 0, locals := 43 }) (pcW dC dI [.ref h0, .int k0, .int k1, .int k2, .int k3] sz [(h0, .inr (11, [.ref a0, .ref a1, .ref a2, .ref a3, .ref a4, .ref a5, .ref a6, .ref a7, .ref a8, .ref a9, .ref n0, .ref b0, .int (-1)])), (n0, .inr (3, [.ref l0, .ref l1, .int 0, .int 0]))] []) (vp_Si (fun r => r = (-2))) 0 0 (fun _ => False) := by
  refine Met.ofW (cc := cX11_trade) (maxL := 5) (ret := (some .int)) (by decide) rfl ?_
  intro p e s m args below meth c s₁ B hml hv
  obtain ⟨rfl, hsz, hP, hK, hD0⟩ := hv
  have hx := B.exec
  have hb := B.bytes
  have hr := B.returns
  have hT : ∀ w ∈ TB, w.before [.ref h0, .int k0, .int k1, .int k2, .int k3].toArray s = true := fun w h => atoms_spec (ws := wT yX11_trade cX11_trade 5 (some .int)) B.pre w (List.mem_cons_of_mem _ h)
  have hown : s.vm.findClass RX11 = some m.cls := findClass_of_methodNamed B.named
  have hlocks := B.notSynchronized
  subst hsz
  have hD := hD0
  have hP : va_P (dC, dI) vwCl [(h0, .inr (11, [.ref a0, .ref a1, .ref a2, .ref a3, .ref a4, .ref a5, .ref a6, .ref a7, .ref a8, .ref a9, .ref n0, .ref b0, .int (-1)])), (n0, .inr (3, [.ref l0, .ref l1, .int 0, .int 0]))] s.heap := hP
  have hl := lv_entry ([.ref h0, .int k0, .int k1, .int k2, .int k3]) (n := 5) (Nat.le_of_ble_eq_true rfl)
  rw [lg_entry_eq]
  generalize (lg_sl ([.ref h0, .int k0, .int k1, .int k2, .int k3]) ++ List.replicate (5 - (lg_sl ([.ref h0, .int k0, .int k1, .int k2, .int k3])).length) Slot.unset).toArray = ls at hl ⊢
  have hl : lv_has ls 5 [(0, .ref h0), (1, .int k0), (2, .int k1), (3, .int k2), (4, .int k3)] := hl
  refine lv_aload_n hx hb dX11_trade_0 rfl (lv_at hl 0 rfl) ?_
  refine lv_iload_n hx hb dX11_trade_1 rfl (lv_at hl 1 rfl) ?_
  refine lv_iload_n hx hb dX11_trade_2 rfl (lv_at hl 2 rfl) ?_
  have hPc := hP.sub (ws' := [(h0, .inr (11, [.ref a0, .ref a1, .ref a2, .ref a3, .ref a4, .ref a5, .ref a6, .ref a7, .ref a8, .ref a9, .ref n0, .ref b0, .int (-1)])), (n0, .inr (3, [.ref l0, .ref l1, .int 0, .int 0]))]) [0, 1] rfl
  have hDc := hD.sub (ws' := [(h0, .inr (11, [.ref a0, .ref a1, .ref a2, .ref a3, .ref a4, .ref a5, .ref a6, .ref a7, .ref a8, .ref a9, .ref n0, .ref b0, .int (-1)])), (n0, .inr (3, [.ref l0, .ref l1, .int 0, .int 0]))]) [0, 1] (by decide) rfl
  have hKc := hK.sub (tys' := []) [] rfl
  refine vp_callSi (va_Run.run (va_runV (As := [.int k0, .int k1]) (rest := []) ⟨hx, hb, hml, hown, hT⟩ (c_noCouple l dC dI h0 a0 a1 a2 a3 a4 a5 a6 a7 a8 a9 n0 b0 l0 l1 s.heap.size k0 k1) (cwV 2 hT (gV w598 w600 ws22 w1 w601) rfl rfl rfl (by decide +kernel) ⟨(Nat.le_of_ble_eq_true rfl), (Nat.le_of_ble_eq_true rfl)⟩) ⟨pcW.blind, va_recv hKc hPc (ci := 11) (q0 := 0) rfl rfl, pcW.pre hPc hKc hDc⟩ rfl rfl hl.1 rfl (lv_room (Nat.le_of_ble_eq_true rfl)) dX11_trade_3 ⟨(Nat.le_of_ble_eq_true rfl), (Nat.le_of_ble_eq_true rfl)⟩)) (fun r_3 hr_3 => ?_)
  obtain rfl : r_3 = 1 := hr_3
  refine lv_if_ne (tgt := 18) hx hb dX11_trade_6 (by decide) (fun _ => ?_) (fun h => absurd h (by decide))
  refine lv_bipush (v := (-2)) hx hb dX11_trade_18 (by decide) ?_
  exact W.iret (v := (-2)) hx hb hr (fun t ht hW => ⟨(-2), rfl, rfl, ht⟩) (fun q h => by cases h) dX11_trade_20

set_option maxHeartbeats 4000000 in
set_option maxRecDepth 100000 in
theorem c_cap (l : Launch) (dC : Nat → ClassId) (dI : Nat → Nat → Nat) (h0 : Nat) (a0 : Nat) (a1 : Nat) (a2 : Nat) (a3 : Nat) (a4 : Nat) (a5 : Nat) (a6 : Nat) (a7 : Nat) (a8 : Nat) (a9 : Nat) (n0 : Nat) (b0 : Nat) (l0 : Nat) (l1 : Nat) (sz : Nat) (k0 : Int32) (k1 : Int32) (k2 : Int32) : Met l yX11_cap (wT yX11_cap cX11_cap 5 (some .int)) ({ frames := 2, cells := 0, slots := 0, locals := 43 }) (pcW dC dI [.ref h0, .int k0, .int k1, .int k2] sz [(h0, .inr (11, [.ref a0, .ref a1, .ref a2, .ref a3, .ref a4, .ref a5, .ref a6, .ref a7, .ref a8, .ref a9, .ref n0, .ref b0, .int (-1)])), (n0, .inr (3, [.ref l0, .ref l1, .int 0, .int 0]))] []) (vp_Si (fun r => r = (-2))) 0 0 (fun _ => False) := by
  refine Met.ofW (cc := cX11_cap) (maxL := 5) (ret := (some .int)) (by decide) rfl ?_
  intro p e s m args below meth c s₁ B hml hv
  obtain ⟨rfl, hsz, hP, hK, hD0⟩ := hv
  have hx := B.exec
  have hb := B.bytes
  have hr := B.returns
  have hT : ∀ w ∈ TB, w.before [.ref h0, .int k0, .int k1, .int k2].toArray s = true := fun w h => atoms_spec (ws := wT yX11_cap cX11_cap 5 (some .int)) B.pre w (List.mem_cons_of_mem _ h)
  have hown : s.vm.findClass RX11 = some m.cls := findClass_of_methodNamed B.named
  have hlocks := B.notSynchronized
  subst hsz
  have hD := hD0
  have hP : va_P (dC, dI) vwCl [(h0, .inr (11, [.ref a0, .ref a1, .ref a2, .ref a3, .ref a4, .ref a5, .ref a6, .ref a7, .ref a8, .ref a9, .ref n0, .ref b0, .int (-1)])), (n0, .inr (3, [.ref l0, .ref l1, .int 0, .int 0]))] s.heap := hP
  have hl := lv_entry ([.ref h0, .int k0, .int k1, .int k2]) (n := 5) (Nat.le_of_ble_eq_true rfl)
  rw [lg_entry_eq]
  generalize (lg_sl ([.ref h0, .int k0, .int k1, .int k2]) ++ List.replicate (5 - (lg_sl ([.ref h0, .int k0, .int k1, .int k2])).length) Slot.unset).toArray = ls at hl ⊢
  have hl : lv_has ls 5 [(0, .ref h0), (1, .int k0), (2, .int k1), (3, .int k2)] := hl
  refine lv_aload_n hx hb dX11_cap_0 rfl (lv_at hl 0 rfl) ?_
  refine lv_iload_n hx hb dX11_cap_1 rfl (lv_at hl 1 rfl) ?_
  refine lv_iload_n hx hb dX11_cap_2 rfl (lv_at hl 2 rfl) ?_
  have hPc := hP.sub (ws' := [(h0, .inr (11, [.ref a0, .ref a1, .ref a2, .ref a3, .ref a4, .ref a5, .ref a6, .ref a7, .ref a8, .ref a9, .ref n0, .ref b0, .int (-1)])), (n0, .inr (3, [.ref l0, .ref l1, .int 0, .int 0]))]) [0, 1] rfl
  have hDc := hD.sub (ws' := [(h0, .inr (11, [.ref a0, .ref a1, .ref a2, .ref a3, .ref a4, .ref a5, .ref a6, .ref a7, .ref a8, .ref a9, .ref n0, .ref b0, .int (-1)])), (n0, .inr (3, [.ref l0, .ref l1, .int 0, .int 0]))]) [0, 1] (by decide) rfl
  have hKc := hK.sub (tys' := []) [] rfl
  refine vp_callSi (va_Run.run (va_runV (As := [.int k0, .int k1]) (rest := []) ⟨hx, hb, hml, hown, hT⟩ (c_noCouple l dC dI h0 a0 a1 a2 a3 a4 a5 a6 a7 a8 a9 n0 b0 l0 l1 s.heap.size k0 k1) (cwV 2 hT (gV w598 w600 ws22 w1 w601) rfl rfl rfl (by decide +kernel) ⟨(Nat.le_of_ble_eq_true rfl), (Nat.le_of_ble_eq_true rfl)⟩) ⟨pcW.blind, va_recv hKc hPc (ci := 11) (q0 := 0) rfl rfl, pcW.pre hPc hKc hDc⟩ rfl rfl hl.1 rfl (lv_room (Nat.le_of_ble_eq_true rfl)) dX11_cap_3 ⟨(Nat.le_of_ble_eq_true rfl), (Nat.le_of_ble_eq_true rfl)⟩)) (fun r_3 hr_3 => ?_)
  obtain rfl : r_3 = 1 := hr_3
  refine lv_if_eq (tgt := 12) hx hb dX11_cap_6 (by decide) (fun h => absurd h (by decide)) (fun _ => ?_)
  refine lv_bipush (v := (-2)) hx hb dX11_cap_9 (by decide) ?_
  exact W.iret (v := (-2)) hx hb hr (fun t ht hW => ⟨(-2), rfl, rfl, ht⟩) (fun q h => by cases h) dX11_cap_11

set_option maxHeartbeats 4000000 in
set_option maxRecDepth 100000 in
theorem c_flow (l : Launch) (dC : Nat → ClassId) (dI : Nat → Nat → Nat) (h0 : Nat) (a0 : Nat) (a1 : Nat) (a2 : Nat) (a3 : Nat) (a4 : Nat) (a5 : Nat) (a6 : Nat) (a7 : Nat) (a8 : Nat) (a9 : Nat) (n0 : Nat) (b0 : Nat) (l0 : Nat) (l1 : Nat) (sz : Nat) (k0 : Int32) (k1 : Int32) (k2 : Int32) : Met l yX11_flow (wT yX11_flow cX11_flow 4 (some .int)) ({ frames := 2, cells := 0, slots := 0, locals := 43 }) (pcW dC dI [.ref h0, .int k0, .int k1, .int k2] sz [(h0, .inr (11, [.ref a0, .ref a1, .ref a2, .ref a3, .ref a4, .ref a5, .ref a6, .ref a7, .ref a8, .ref a9, .ref n0, .ref b0, .int (-1)])), (n0, .inr (3, [.ref l0, .ref l1, .int 0, .int 0]))] []) (vp_Si (fun r => r = (-2))) 0 0 (fun _ => False) := by
  refine Met.ofW (cc := cX11_flow) (maxL := 4) (ret := (some .int)) (by decide) rfl ?_
  intro p e s m args below meth c s₁ B hml hv
  obtain ⟨rfl, hsz, hP, hK, hD0⟩ := hv
  have hx := B.exec
  have hb := B.bytes
  have hr := B.returns
  have hT : ∀ w ∈ TB, w.before [.ref h0, .int k0, .int k1, .int k2].toArray s = true := fun w h => atoms_spec (ws := wT yX11_flow cX11_flow 4 (some .int)) B.pre w (List.mem_cons_of_mem _ h)
  have hown : s.vm.findClass RX11 = some m.cls := findClass_of_methodNamed B.named
  have hlocks := B.notSynchronized
  subst hsz
  have hD := hD0
  have hP : va_P (dC, dI) vwCl [(h0, .inr (11, [.ref a0, .ref a1, .ref a2, .ref a3, .ref a4, .ref a5, .ref a6, .ref a7, .ref a8, .ref a9, .ref n0, .ref b0, .int (-1)])), (n0, .inr (3, [.ref l0, .ref l1, .int 0, .int 0]))] s.heap := hP
  have hl := lv_entry ([.ref h0, .int k0, .int k1, .int k2]) (n := 4) (Nat.le_of_ble_eq_true rfl)
  rw [lg_entry_eq]
  generalize (lg_sl ([.ref h0, .int k0, .int k1, .int k2]) ++ List.replicate (4 - (lg_sl ([.ref h0, .int k0, .int k1, .int k2])).length) Slot.unset).toArray = ls at hl ⊢
  have hl : lv_has ls 4 [(0, .ref h0), (1, .int k0), (2, .int k1), (3, .int k2)] := hl
  refine lv_aload_n hx hb dX11_flow_0 rfl (lv_at hl 0 rfl) ?_
  refine lv_iload_n hx hb dX11_flow_1 rfl (lv_at hl 1 rfl) ?_
  refine lv_iload_n hx hb dX11_flow_2 rfl (lv_at hl 2 rfl) ?_
  have hPc := hP.sub (ws' := [(h0, .inr (11, [.ref a0, .ref a1, .ref a2, .ref a3, .ref a4, .ref a5, .ref a6, .ref a7, .ref a8, .ref a9, .ref n0, .ref b0, .int (-1)])), (n0, .inr (3, [.ref l0, .ref l1, .int 0, .int 0]))]) [0, 1] rfl
  have hDc := hD.sub (ws' := [(h0, .inr (11, [.ref a0, .ref a1, .ref a2, .ref a3, .ref a4, .ref a5, .ref a6, .ref a7, .ref a8, .ref a9, .ref n0, .ref b0, .int (-1)])), (n0, .inr (3, [.ref l0, .ref l1, .int 0, .int 0]))]) [0, 1] (by decide) rfl
  have hKc := hK.sub (tys' := []) [] rfl
  refine vp_callSi (va_Run.run (va_runV (As := [.int k0, .int k1]) (rest := []) ⟨hx, hb, hml, hown, hT⟩ (c_noCouple l dC dI h0 a0 a1 a2 a3 a4 a5 a6 a7 a8 a9 n0 b0 l0 l1 s.heap.size k0 k1) (cwV 2 hT (gV w598 w600 ws22 w1 w601) rfl rfl rfl (by decide +kernel) ⟨(Nat.le_of_ble_eq_true rfl), (Nat.le_of_ble_eq_true rfl)⟩) ⟨pcW.blind, va_recv hKc hPc (ci := 11) (q0 := 0) rfl rfl, pcW.pre hPc hKc hDc⟩ rfl rfl hl.1 rfl (lv_room (Nat.le_of_ble_eq_true rfl)) dX11_flow_3 ⟨(Nat.le_of_ble_eq_true rfl), (Nat.le_of_ble_eq_true rfl)⟩)) (fun r_3 hr_3 => ?_)
  obtain rfl : r_3 = 1 := hr_3
  refine lv_if_ne (tgt := 17) hx hb dX11_flow_6 (by decide) (fun _ => ?_) (fun h => absurd h (by decide))
  refine lv_bipush (v := (-2)) hx hb dX11_flow_17 (by decide) ?_
  exact W.iret (v := (-2)) hx hb hr (fun t ht hW => ⟨(-2), rfl, rfl, ht⟩) (fun q h => by cases h) dX11_flow_19

set_option maxHeartbeats 4000000 in
set_option maxRecDepth 100000 in
theorem c_bound (l : Launch) (dC : Nat → ClassId) (dI : Nat → Nat → Nat) (h0 : Nat) (a0 : Nat) (a1 : Nat) (a2 : Nat) (a3 : Nat) (a4 : Nat) (a5 : Nat) (a6 : Nat) (a7 : Nat) (a8 : Nat) (a9 : Nat) (n0 : Nat) (b0 : Nat) (l0 : Nat) (l1 : Nat) (sz : Nat) (k0 : Int32) (k1 : Int32) (k2 : Int32) : Met l yX11_bound (wT yX11_bound cX11_bound 4 (some .int)) ({ frames := 2, cells := 0, slots := 0, locals := 43 }) (pcW dC dI [.ref h0, .int k0, .int k1, .int k2] sz [(h0, .inr (11, [.ref a0, .ref a1, .ref a2, .ref a3, .ref a4, .ref a5, .ref a6, .ref a7, .ref a8, .ref a9, .ref n0, .ref b0, .int (-1)])), (n0, .inr (3, [.ref l0, .ref l1, .int 0, .int 0]))] []) (vp_Si (fun r => r = (-2))) 0 0 (fun _ => False) := by
  refine Met.ofW (cc := cX11_bound) (maxL := 4) (ret := (some .int)) (by decide) rfl ?_
  intro p e s m args below meth c s₁ B hml hv
  obtain ⟨rfl, hsz, hP, hK, hD0⟩ := hv
  have hx := B.exec
  have hb := B.bytes
  have hr := B.returns
  have hT : ∀ w ∈ TB, w.before [.ref h0, .int k0, .int k1, .int k2].toArray s = true := fun w h => atoms_spec (ws := wT yX11_bound cX11_bound 4 (some .int)) B.pre w (List.mem_cons_of_mem _ h)
  have hown : s.vm.findClass RX11 = some m.cls := findClass_of_methodNamed B.named
  have hlocks := B.notSynchronized
  subst hsz
  have hD := hD0
  have hP : va_P (dC, dI) vwCl [(h0, .inr (11, [.ref a0, .ref a1, .ref a2, .ref a3, .ref a4, .ref a5, .ref a6, .ref a7, .ref a8, .ref a9, .ref n0, .ref b0, .int (-1)])), (n0, .inr (3, [.ref l0, .ref l1, .int 0, .int 0]))] s.heap := hP
  have hl := lv_entry ([.ref h0, .int k0, .int k1, .int k2]) (n := 4) (Nat.le_of_ble_eq_true rfl)
  rw [lg_entry_eq]
  generalize (lg_sl ([.ref h0, .int k0, .int k1, .int k2]) ++ List.replicate (4 - (lg_sl ([.ref h0, .int k0, .int k1, .int k2])).length) Slot.unset).toArray = ls at hl ⊢
  have hl : lv_has ls 4 [(0, .ref h0), (1, .int k0), (2, .int k1), (3, .int k2)] := hl
  refine lv_aload_n hx hb dX11_bound_0 rfl (lv_at hl 0 rfl) ?_
  refine lv_iload_n hx hb dX11_bound_1 rfl (lv_at hl 1 rfl) ?_
  refine lv_iload_n hx hb dX11_bound_2 rfl (lv_at hl 2 rfl) ?_
  have hPc := hP.sub (ws' := [(h0, .inr (11, [.ref a0, .ref a1, .ref a2, .ref a3, .ref a4, .ref a5, .ref a6, .ref a7, .ref a8, .ref a9, .ref n0, .ref b0, .int (-1)])), (n0, .inr (3, [.ref l0, .ref l1, .int 0, .int 0]))]) [0, 1] rfl
  have hDc := hD.sub (ws' := [(h0, .inr (11, [.ref a0, .ref a1, .ref a2, .ref a3, .ref a4, .ref a5, .ref a6, .ref a7, .ref a8, .ref a9, .ref n0, .ref b0, .int (-1)])), (n0, .inr (3, [.ref l0, .ref l1, .int 0, .int 0]))]) [0, 1] (by decide) rfl
  have hKc := hK.sub (tys' := []) [] rfl
  refine vp_callSi (va_Run.run (va_runV (As := [.int k0, .int k1]) (rest := []) ⟨hx, hb, hml, hown, hT⟩ (c_noCouple l dC dI h0 a0 a1 a2 a3 a4 a5 a6 a7 a8 a9 n0 b0 l0 l1 s.heap.size k0 k1) (cwV 2 hT (gV w598 w600 ws22 w1 w601) rfl rfl rfl (by decide +kernel) ⟨(Nat.le_of_ble_eq_true rfl), (Nat.le_of_ble_eq_true rfl)⟩) ⟨pcW.blind, va_recv hKc hPc (ci := 11) (q0 := 0) rfl rfl, pcW.pre hPc hKc hDc⟩ rfl rfl hl.1 rfl (lv_room (Nat.le_of_ble_eq_true rfl)) dX11_bound_3 ⟨(Nat.le_of_ble_eq_true rfl), (Nat.le_of_ble_eq_true rfl)⟩)) (fun r_3 hr_3 => ?_)
  obtain rfl : r_3 = 1 := hr_3
  refine lv_if_ne (tgt := 17) hx hb dX11_bound_6 (by decide) (fun _ => ?_) (fun h => absurd h (by decide))
  refine lv_bipush (v := (-2)) hx hb dX11_bound_17 (by decide) ?_
  exact W.iret (v := (-2)) hx hb hr (fun t ht hW => ⟨(-2), rfl, rfl, ht⟩) (fun q h => by cases h) dX11_bound_19

set_option maxHeartbeats 4000000 in
set_option maxRecDepth 100000 in
theorem c_pressed (l : Launch) (dC : Nat → ClassId) (dI : Nat → Nat → Nat) (h0 : Nat) (a0 : Nat) (a1 : Nat) (a2 : Nat) (a3 : Nat) (a4 : Nat) (a5 : Nat) (a6 : Nat) (a7 : Nat) (a8 : Nat) (a9 : Nat) (n0 : Nat) (b0 : Nat) (l0 : Nat) (l1 : Nat) (sz : Nat) (k0 : Int32) (k1 : Int32) (k2 : Int32) : Met l yX11_pressed (wT yX11_pressed cX11_pressed 4 (some .int)) ({ frames := 2, cells := 0, slots := 0, locals := 43 }) (pcW dC dI [.ref h0, .int k0, .int k1, .int k2] sz [(h0, .inr (11, [.ref a0, .ref a1, .ref a2, .ref a3, .ref a4, .ref a5, .ref a6, .ref a7, .ref a8, .ref a9, .ref n0, .ref b0, .int (-1)])), (n0, .inr (3, [.ref l0, .ref l1, .int 0, .int 0]))] []) (vp_Si (fun r => r = (-2))) 0 0 (fun _ => False) := by
  refine Met.ofW (cc := cX11_pressed) (maxL := 4) (ret := (some .int)) (by decide) rfl ?_
  intro p e s m args below meth c s₁ B hml hv
  obtain ⟨rfl, hsz, hP, hK, hD0⟩ := hv
  have hx := B.exec
  have hb := B.bytes
  have hr := B.returns
  have hT : ∀ w ∈ TB, w.before [.ref h0, .int k0, .int k1, .int k2].toArray s = true := fun w h => atoms_spec (ws := wT yX11_pressed cX11_pressed 4 (some .int)) B.pre w (List.mem_cons_of_mem _ h)
  have hown : s.vm.findClass RX11 = some m.cls := findClass_of_methodNamed B.named
  have hlocks := B.notSynchronized
  subst hsz
  have hD := hD0
  have hP : va_P (dC, dI) vwCl [(h0, .inr (11, [.ref a0, .ref a1, .ref a2, .ref a3, .ref a4, .ref a5, .ref a6, .ref a7, .ref a8, .ref a9, .ref n0, .ref b0, .int (-1)])), (n0, .inr (3, [.ref l0, .ref l1, .int 0, .int 0]))] s.heap := hP
  have hl := lv_entry ([.ref h0, .int k0, .int k1, .int k2]) (n := 4) (Nat.le_of_ble_eq_true rfl)
  rw [lg_entry_eq]
  generalize (lg_sl ([.ref h0, .int k0, .int k1, .int k2]) ++ List.replicate (4 - (lg_sl ([.ref h0, .int k0, .int k1, .int k2])).length) Slot.unset).toArray = ls at hl ⊢
  have hl : lv_has ls 4 [(0, .ref h0), (1, .int k0), (2, .int k1), (3, .int k2)] := hl
  refine lv_aload_n hx hb dX11_pressed_0 rfl (lv_at hl 0 rfl) ?_
  refine lv_iload_n hx hb dX11_pressed_1 rfl (lv_at hl 1 rfl) ?_
  refine lv_iload_n hx hb dX11_pressed_2 rfl (lv_at hl 2 rfl) ?_
  have hPc := hP.sub (ws' := [(h0, .inr (11, [.ref a0, .ref a1, .ref a2, .ref a3, .ref a4, .ref a5, .ref a6, .ref a7, .ref a8, .ref a9, .ref n0, .ref b0, .int (-1)])), (n0, .inr (3, [.ref l0, .ref l1, .int 0, .int 0]))]) [0, 1] rfl
  have hDc := hD.sub (ws' := [(h0, .inr (11, [.ref a0, .ref a1, .ref a2, .ref a3, .ref a4, .ref a5, .ref a6, .ref a7, .ref a8, .ref a9, .ref n0, .ref b0, .int (-1)])), (n0, .inr (3, [.ref l0, .ref l1, .int 0, .int 0]))]) [0, 1] (by decide) rfl
  have hKc := hK.sub (tys' := []) [] rfl
  refine vp_callSi (va_Run.run (va_runV (As := [.int k0, .int k1]) (rest := []) ⟨hx, hb, hml, hown, hT⟩ (c_noCouple l dC dI h0 a0 a1 a2 a3 a4 a5 a6 a7 a8 a9 n0 b0 l0 l1 s.heap.size k0 k1) (cwV 2 hT (gV w598 w600 ws22 w1 w601) rfl rfl rfl (by decide +kernel) ⟨(Nat.le_of_ble_eq_true rfl), (Nat.le_of_ble_eq_true rfl)⟩) ⟨pcW.blind, va_recv hKc hPc (ci := 11) (q0 := 0) rfl rfl, pcW.pre hPc hKc hDc⟩ rfl rfl hl.1 rfl (lv_room (Nat.le_of_ble_eq_true rfl)) dX11_pressed_3 ⟨(Nat.le_of_ble_eq_true rfl), (Nat.le_of_ble_eq_true rfl)⟩)) (fun r_3 hr_3 => ?_)
  obtain rfl : r_3 = 1 := hr_3
  refine lv_if_ne (tgt := 17) hx hb dX11_pressed_6 (by decide) (fun _ => ?_) (fun h => absurd h (by decide))
  refine lv_bipush (v := (-2)) hx hb dX11_pressed_17 (by decide) ?_
  exact W.iret (v := (-2)) hx hb hr (fun t ht hW => ⟨(-2), rfl, rfl, ht⟩) (fun q h => by cases h) dX11_pressed_19

set_option maxHeartbeats 4000000 in
set_option maxRecDepth 100000 in
theorem c_span (l : Launch) (dC : Nat → ClassId) (dI : Nat → Nat → Nat) (h0 : Nat) (a0 : Nat) (a1 : Nat) (a2 : Nat) (a3 : Nat) (a4 : Nat) (a5 : Nat) (a6 : Nat) (a7 : Nat) (a8 : Nat) (a9 : Nat) (n0 : Nat) (b0 : Nat) (l0 : Nat) (l1 : Nat) (sz : Nat) (k0 : Int32) (k1 : Int32) (k2 : Int32) (k3 : Int32) : Met l yX11_span (wT yX11_span cX11_span 5 (some .int)) ({ frames := 2, cells := 0, slots := 0, locals := 43 }) (pcW dC dI [.ref h0, .int k0, .int k1, .int k2, .int k3] sz [(h0, .inr (11, [.ref a0, .ref a1, .ref a2, .ref a3, .ref a4, .ref a5, .ref a6, .ref a7, .ref a8, .ref a9, .ref n0, .ref b0, .int (-1)])), (n0, .inr (3, [.ref l0, .ref l1, .int 0, .int 0]))] []) (vp_Si (fun r => r = (-2))) 0 0 (fun _ => False) := by
  refine Met.ofW (cc := cX11_span) (maxL := 5) (ret := (some .int)) (by decide) rfl ?_
  intro p e s m args below meth c s₁ B hml hv
  obtain ⟨rfl, hsz, hP, hK, hD0⟩ := hv
  have hx := B.exec
  have hb := B.bytes
  have hr := B.returns
  have hT : ∀ w ∈ TB, w.before [.ref h0, .int k0, .int k1, .int k2, .int k3].toArray s = true := fun w h => atoms_spec (ws := wT yX11_span cX11_span 5 (some .int)) B.pre w (List.mem_cons_of_mem _ h)
  have hown : s.vm.findClass RX11 = some m.cls := findClass_of_methodNamed B.named
  have hlocks := B.notSynchronized
  subst hsz
  have hD := hD0
  have hP : va_P (dC, dI) vwCl [(h0, .inr (11, [.ref a0, .ref a1, .ref a2, .ref a3, .ref a4, .ref a5, .ref a6, .ref a7, .ref a8, .ref a9, .ref n0, .ref b0, .int (-1)])), (n0, .inr (3, [.ref l0, .ref l1, .int 0, .int 0]))] s.heap := hP
  have hl := lv_entry ([.ref h0, .int k0, .int k1, .int k2, .int k3]) (n := 5) (Nat.le_of_ble_eq_true rfl)
  rw [lg_entry_eq]
  generalize (lg_sl ([.ref h0, .int k0, .int k1, .int k2, .int k3]) ++ List.replicate (5 - (lg_sl ([.ref h0, .int k0, .int k1, .int k2, .int k3])).length) Slot.unset).toArray = ls at hl ⊢
  have hl : lv_has ls 5 [(0, .ref h0), (1, .int k0), (2, .int k1), (3, .int k2), (4, .int k3)] := hl
  refine lv_aload_n hx hb dX11_span_0 rfl (lv_at hl 0 rfl) ?_
  refine lv_iload_n hx hb dX11_span_1 rfl (lv_at hl 1 rfl) ?_
  refine lv_iload_n hx hb dX11_span_2 rfl (lv_at hl 2 rfl) ?_
  have hPc := hP.sub (ws' := [(h0, .inr (11, [.ref a0, .ref a1, .ref a2, .ref a3, .ref a4, .ref a5, .ref a6, .ref a7, .ref a8, .ref a9, .ref n0, .ref b0, .int (-1)])), (n0, .inr (3, [.ref l0, .ref l1, .int 0, .int 0]))]) [0, 1] rfl
  have hDc := hD.sub (ws' := [(h0, .inr (11, [.ref a0, .ref a1, .ref a2, .ref a3, .ref a4, .ref a5, .ref a6, .ref a7, .ref a8, .ref a9, .ref n0, .ref b0, .int (-1)])), (n0, .inr (3, [.ref l0, .ref l1, .int 0, .int 0]))]) [0, 1] (by decide) rfl
  have hKc := hK.sub (tys' := []) [] rfl
  refine vp_callSi (va_Run.run (va_runV (As := [.int k0, .int k1]) (rest := []) ⟨hx, hb, hml, hown, hT⟩ (c_noCouple l dC dI h0 a0 a1 a2 a3 a4 a5 a6 a7 a8 a9 n0 b0 l0 l1 s.heap.size k0 k1) (cwV 2 hT (gV w598 w600 ws22 w1 w601) rfl rfl rfl (by decide +kernel) ⟨(Nat.le_of_ble_eq_true rfl), (Nat.le_of_ble_eq_true rfl)⟩) ⟨pcW.blind, va_recv hKc hPc (ci := 11) (q0 := 0) rfl rfl, pcW.pre hPc hKc hDc⟩ rfl rfl hl.1 rfl (lv_room (Nat.le_of_ble_eq_true rfl)) dX11_span_3 ⟨(Nat.le_of_ble_eq_true rfl), (Nat.le_of_ble_eq_true rfl)⟩)) (fun r_3 hr_3 => ?_)
  obtain rfl : r_3 = 1 := hr_3
  refine lv_if_ne (tgt := 17) hx hb dX11_span_6 (by decide) (fun _ => ?_) (fun h => absurd h (by decide))
  refine lv_bipush (v := (-2)) hx hb dX11_span_17 (by decide) ?_
  exact W.iret (v := (-2)) hx hb hr (fun t ht hW => ⟨(-2), rfl, rfl, ht⟩) (fun q h => by cases h) dX11_span_19

set_option maxHeartbeats 4000000 in
set_option maxRecDepth 100000 in
theorem c_gain (l : Launch) (dC : Nat → ClassId) (dI : Nat → Nat → Nat) (h0 : Nat) (a0 : Nat) (a1 : Nat) (a2 : Nat) (a3 : Nat) (a4 : Nat) (a5 : Nat) (a6 : Nat) (a7 : Nat) (a8 : Nat) (a9 : Nat) (n0 : Nat) (b0 : Nat) (l0 : Nat) (l1 : Nat) (sz : Nat) (k0 : Int32) (k1 : Int32) (k2 : Int32) : Met l yX11_gain (wT yX11_gain cX11_gain 4 (some .int)) ({ frames := 2, cells := 0, slots := 0, locals := 43 }) (pcW dC dI [.ref h0, .int k0, .int k1, .int k2] sz [(h0, .inr (11, [.ref a0, .ref a1, .ref a2, .ref a3, .ref a4, .ref a5, .ref a6, .ref a7, .ref a8, .ref a9, .ref n0, .ref b0, .int (-1)])), (n0, .inr (3, [.ref l0, .ref l1, .int 0, .int 0]))] []) (vp_Si (fun r => r = (-2))) 0 0 (fun _ => False) := by
  refine Met.ofW (cc := cX11_gain) (maxL := 4) (ret := (some .int)) (by decide) rfl ?_
  intro p e s m args below meth c s₁ B hml hv
  obtain ⟨rfl, hsz, hP, hK, hD0⟩ := hv
  have hx := B.exec
  have hb := B.bytes
  have hr := B.returns
  have hT : ∀ w ∈ TB, w.before [.ref h0, .int k0, .int k1, .int k2].toArray s = true := fun w h => atoms_spec (ws := wT yX11_gain cX11_gain 4 (some .int)) B.pre w (List.mem_cons_of_mem _ h)
  have hown : s.vm.findClass RX11 = some m.cls := findClass_of_methodNamed B.named
  have hlocks := B.notSynchronized
  subst hsz
  have hD := hD0
  have hP : va_P (dC, dI) vwCl [(h0, .inr (11, [.ref a0, .ref a1, .ref a2, .ref a3, .ref a4, .ref a5, .ref a6, .ref a7, .ref a8, .ref a9, .ref n0, .ref b0, .int (-1)])), (n0, .inr (3, [.ref l0, .ref l1, .int 0, .int 0]))] s.heap := hP
  have hl := lv_entry ([.ref h0, .int k0, .int k1, .int k2]) (n := 4) (Nat.le_of_ble_eq_true rfl)
  rw [lg_entry_eq]
  generalize (lg_sl ([.ref h0, .int k0, .int k1, .int k2]) ++ List.replicate (4 - (lg_sl ([.ref h0, .int k0, .int k1, .int k2])).length) Slot.unset).toArray = ls at hl ⊢
  have hl : lv_has ls 4 [(0, .ref h0), (1, .int k0), (2, .int k1), (3, .int k2)] := hl
  refine lv_aload_n hx hb dX11_gain_0 rfl (lv_at hl 0 rfl) ?_
  refine lv_iload_n hx hb dX11_gain_1 rfl (lv_at hl 1 rfl) ?_
  refine lv_iload_n hx hb dX11_gain_2 rfl (lv_at hl 2 rfl) ?_
  have hPc := hP.sub (ws' := [(h0, .inr (11, [.ref a0, .ref a1, .ref a2, .ref a3, .ref a4, .ref a5, .ref a6, .ref a7, .ref a8, .ref a9, .ref n0, .ref b0, .int (-1)])), (n0, .inr (3, [.ref l0, .ref l1, .int 0, .int 0]))]) [0, 1] rfl
  have hDc := hD.sub (ws' := [(h0, .inr (11, [.ref a0, .ref a1, .ref a2, .ref a3, .ref a4, .ref a5, .ref a6, .ref a7, .ref a8, .ref a9, .ref n0, .ref b0, .int (-1)])), (n0, .inr (3, [.ref l0, .ref l1, .int 0, .int 0]))]) [0, 1] (by decide) rfl
  have hKc := hK.sub (tys' := []) [] rfl
  refine vp_callSi (va_Run.run (va_runV (As := [.int k0, .int k1]) (rest := []) ⟨hx, hb, hml, hown, hT⟩ (c_noCouple l dC dI h0 a0 a1 a2 a3 a4 a5 a6 a7 a8 a9 n0 b0 l0 l1 s.heap.size k0 k1) (cwV 2 hT (gV w598 w600 ws22 w1 w601) rfl rfl rfl (by decide +kernel) ⟨(Nat.le_of_ble_eq_true rfl), (Nat.le_of_ble_eq_true rfl)⟩) ⟨pcW.blind, va_recv hKc hPc (ci := 11) (q0 := 0) rfl rfl, pcW.pre hPc hKc hDc⟩ rfl rfl hl.1 rfl (lv_room (Nat.le_of_ble_eq_true rfl)) dX11_gain_3 ⟨(Nat.le_of_ble_eq_true rfl), (Nat.le_of_ble_eq_true rfl)⟩)) (fun r_3 hr_3 => ?_)
  obtain rfl : r_3 = 1 := hr_3
  refine lv_if_ne (tgt := 17) hx hb dX11_gain_6 (by decide) (fun _ => ?_) (fun h => absurd h (by decide))
  refine lv_bipush (v := (-2)) hx hb dX11_gain_17 (by decide) ?_
  exact W.iret (v := (-2)) hx hb hr (fun t ht hW => ⟨(-2), rfl, rfl, ht⟩) (fun q h => by cases h) dX11_gain_19

set_option maxHeartbeats 4000000 in
set_option maxRecDepth 100000 in
theorem c_enough (l : Launch) (dC : Nat → ClassId) (dI : Nat → Nat → Nat) (h0 : Nat) (a0 : Nat) (a1 : Nat) (a2 : Nat) (a3 : Nat) (a4 : Nat) (a5 : Nat) (a6 : Nat) (a7 : Nat) (a8 : Nat) (a9 : Nat) (n0 : Nat) (b0 : Nat) (l0 : Nat) (l1 : Nat) (sz : Nat) (k0 : Int32) (k1 : Int32) (k2 : Int32) : Met l yX11_enough (wT yX11_enough cX11_enough 4 (some .int)) ({ frames := 2, cells := 0, slots := 0, locals := 43 }) (pcW dC dI [.ref h0, .int k0, .int k1, .int k2] sz [(h0, .inr (11, [.ref a0, .ref a1, .ref a2, .ref a3, .ref a4, .ref a5, .ref a6, .ref a7, .ref a8, .ref a9, .ref n0, .ref b0, .int (-1)])), (n0, .inr (3, [.ref l0, .ref l1, .int 0, .int 0]))] []) (vp_Si (fun r => r = (-2))) 0 0 (fun _ => False) := by
  refine Met.ofW (cc := cX11_enough) (maxL := 4) (ret := (some .int)) (by decide) rfl ?_
  intro p e s m args below meth c s₁ B hml hv
  obtain ⟨rfl, hsz, hP, hK, hD0⟩ := hv
  have hx := B.exec
  have hb := B.bytes
  have hr := B.returns
  have hT : ∀ w ∈ TB, w.before [.ref h0, .int k0, .int k1, .int k2].toArray s = true := fun w h => atoms_spec (ws := wT yX11_enough cX11_enough 4 (some .int)) B.pre w (List.mem_cons_of_mem _ h)
  have hown : s.vm.findClass RX11 = some m.cls := findClass_of_methodNamed B.named
  have hlocks := B.notSynchronized
  subst hsz
  have hD := hD0
  have hP : va_P (dC, dI) vwCl [(h0, .inr (11, [.ref a0, .ref a1, .ref a2, .ref a3, .ref a4, .ref a5, .ref a6, .ref a7, .ref a8, .ref a9, .ref n0, .ref b0, .int (-1)])), (n0, .inr (3, [.ref l0, .ref l1, .int 0, .int 0]))] s.heap := hP
  have hl := lv_entry ([.ref h0, .int k0, .int k1, .int k2]) (n := 4) (Nat.le_of_ble_eq_true rfl)
  rw [lg_entry_eq]
  generalize (lg_sl ([.ref h0, .int k0, .int k1, .int k2]) ++ List.replicate (4 - (lg_sl ([.ref h0, .int k0, .int k1, .int k2])).length) Slot.unset).toArray = ls at hl ⊢
  have hl : lv_has ls 4 [(0, .ref h0), (1, .int k0), (2, .int k1), (3, .int k2)] := hl
  refine lv_aload_n hx hb dX11_enough_0 rfl (lv_at hl 0 rfl) ?_
  refine lv_iload_n hx hb dX11_enough_1 rfl (lv_at hl 1 rfl) ?_
  refine lv_iload_n hx hb dX11_enough_2 rfl (lv_at hl 2 rfl) ?_
  have hPc := hP.sub (ws' := [(h0, .inr (11, [.ref a0, .ref a1, .ref a2, .ref a3, .ref a4, .ref a5, .ref a6, .ref a7, .ref a8, .ref a9, .ref n0, .ref b0, .int (-1)])), (n0, .inr (3, [.ref l0, .ref l1, .int 0, .int 0]))]) [0, 1] rfl
  have hDc := hD.sub (ws' := [(h0, .inr (11, [.ref a0, .ref a1, .ref a2, .ref a3, .ref a4, .ref a5, .ref a6, .ref a7, .ref a8, .ref a9, .ref n0, .ref b0, .int (-1)])), (n0, .inr (3, [.ref l0, .ref l1, .int 0, .int 0]))]) [0, 1] (by decide) rfl
  have hKc := hK.sub (tys' := []) [] rfl
  refine vp_callSi (va_Run.run (va_runV (As := [.int k0, .int k1]) (rest := []) ⟨hx, hb, hml, hown, hT⟩ (c_noCouple l dC dI h0 a0 a1 a2 a3 a4 a5 a6 a7 a8 a9 n0 b0 l0 l1 s.heap.size k0 k1) (cwV 2 hT (gV w598 w600 ws22 w1 w601) rfl rfl rfl (by decide +kernel) ⟨(Nat.le_of_ble_eq_true rfl), (Nat.le_of_ble_eq_true rfl)⟩) ⟨pcW.blind, va_recv hKc hPc (ci := 11) (q0 := 0) rfl rfl, pcW.pre hPc hKc hDc⟩ rfl rfl hl.1 rfl (lv_room (Nat.le_of_ble_eq_true rfl)) dX11_enough_3 ⟨(Nat.le_of_ble_eq_true rfl), (Nat.le_of_ble_eq_true rfl)⟩)) (fun r_3 hr_3 => ?_)
  obtain rfl : r_3 = 1 := hr_3
  refine lv_if_ne (tgt := 17) hx hb dX11_enough_6 (by decide) (fun _ => ?_) (fun h => absurd h (by decide))
  refine lv_bipush (v := (-2)) hx hb dX11_enough_17 (by decide) ?_
  exact W.iret (v := (-2)) hx hb hr (fun t ht hW => ⟨(-2), rfl, rfl, ht⟩) (fun q h => by cases h) dX11_enough_19

set_option maxHeartbeats 4000000 in
set_option maxRecDepth 100000 in
theorem c_net (l : Launch) (dC : Nat → ClassId) (dI : Nat → Nat → Nat) (h0 : Nat) (a0 : Nat) (a1 : Nat) (a2 : Nat) (a3 : Nat) (a4 : Nat) (a5 : Nat) (a6 : Nat) (a7 : Nat) (a8 : Nat) (a9 : Nat) (n0 : Nat) (b0 : Nat) (l0 : Nat) (l1 : Nat) (sz : Nat) (k0 : Int32) (k1 : Int32) (k2 : Int32) : Met l yX11_net (wT yX11_net cX11_net 4 (some .int)) ({ frames := 1, cells := 0, slots := 0, locals := 21 }) (pcW dC dI [.ref h0, .int k0, .int k1, .int k2] sz [(h0, .inr (11, [.ref a0, .ref a1, .ref a2, .ref a3, .ref a4, .ref a5, .ref a6, .ref a7, .ref a8, .ref a9, .ref n0, .ref b0, .int (-1)])), (n0, .inr (3, [.ref l0, .ref l1, .int 0, .int 0]))] []) (vp_Si (fun r => r = (-2))) 0 0 (fun _ => False) := by
  refine Met.ofW (cc := cX11_net) (maxL := 4) (ret := (some .int)) (by decide) rfl ?_
  intro p e s m args below meth c s₁ B hml hv
  obtain ⟨rfl, hsz, hP, hK, hD0⟩ := hv
  have hx := B.exec
  have hb := B.bytes
  have hr := B.returns
  have hT : ∀ w ∈ TB, w.before [.ref h0, .int k0, .int k1, .int k2].toArray s = true := fun w h => atoms_spec (ws := wT yX11_net cX11_net 4 (some .int)) B.pre w (List.mem_cons_of_mem _ h)
  have hown : s.vm.findClass RX11 = some m.cls := findClass_of_methodNamed B.named
  have hlocks := B.notSynchronized
  subst hsz
  have hD := hD0
  have hP : va_P (dC, dI) vwCl [(h0, .inr (11, [.ref a0, .ref a1, .ref a2, .ref a3, .ref a4, .ref a5, .ref a6, .ref a7, .ref a8, .ref a9, .ref n0, .ref b0, .int (-1)])), (n0, .inr (3, [.ref l0, .ref l1, .int 0, .int 0]))] s.heap := hP
  have hl := lv_entry ([.ref h0, .int k0, .int k1, .int k2]) (n := 4) (Nat.le_of_ble_eq_true rfl)
  rw [lg_entry_eq]
  generalize (lg_sl ([.ref h0, .int k0, .int k1, .int k2]) ++ List.replicate (4 - (lg_sl ([.ref h0, .int k0, .int k1, .int k2])).length) Slot.unset).toArray = ls at hl ⊢
  have hl : lv_has ls 4 [(0, .ref h0), (1, .int k0), (2, .int k1), (3, .int k2)] := hl
  refine lv_aload_n hx hb dX11_net_0 rfl (lv_at hl 0 rfl) ?_
  refine lv_iload_n hx hb dX11_net_1 rfl (lv_at hl 1 rfl) ?_
  have hPc := hP.sub (ws' := [(h0, .inr (11, [.ref a0, .ref a1, .ref a2, .ref a3, .ref a4, .ref a5, .ref a6, .ref a7, .ref a8, .ref a9, .ref n0, .ref b0, .int (-1)])), (n0, .inr (3, [.ref l0, .ref l1, .int 0, .int 0]))]) [0, 1] rfl
  have hDc := hD.sub (ws' := [(h0, .inr (11, [.ref a0, .ref a1, .ref a2, .ref a3, .ref a4, .ref a5, .ref a6, .ref a7, .ref a8, .ref a9, .ref n0, .ref b0, .int (-1)])), (n0, .inr (3, [.ref l0, .ref l1, .int 0, .int 0]))]) [0, 1] (by decide) rfl
  have hKc := hK.sub (tys' := []) [] rfl
  refine vp_callSi (va_Run.run (va_runV (As := [.int k0]) (rest := []) ⟨hx, hb, hml, hown, hT⟩ (c_noParty l dC dI h0 a0 a1 a2 a3 a4 a5 a6 a7 a8 a9 n0 b0 l0 l1 s.heap.size k0) (cwV 1 hT (gV w602 w604 ws23 w1 w605) rfl rfl rfl (by decide +kernel) ⟨(Nat.le_of_ble_eq_true rfl), (Nat.le_of_ble_eq_true rfl)⟩) ⟨pcW.blind, va_recv hKc hPc (ci := 11) (q0 := 0) rfl rfl, pcW.pre hPc hKc hDc⟩ rfl rfl hl.1 rfl (lv_room (Nat.le_of_ble_eq_true rfl)) dX11_net_2 ⟨(Nat.le_of_ble_eq_true rfl), (Nat.le_of_ble_eq_true rfl)⟩)) (fun r_2 hr_2 => ?_)
  obtain rfl : r_2 = 1 := hr_2
  refine lv_if_ne (tgt := 16) hx hb dX11_net_5 (by decide) (fun _ => ?_) (fun h => absurd h (by decide))
  refine lv_bipush (v := (-2)) hx hb dX11_net_16 (by decide) ?_
  exact W.iret (v := (-2)) hx hb hr (fun t ht hW => ⟨(-2), rfl, rfl, ht⟩) (fun q h => by cases h) dX11_net_18

set_option maxHeartbeats 4000000 in
set_option maxRecDepth 100000 in
theorem c_side (l : Launch) (dC : Nat → ClassId) (dI : Nat → Nat → Nat) (h0 : Nat) (a0 : Nat) (a1 : Nat) (a2 : Nat) (a3 : Nat) (a4 : Nat) (a5 : Nat) (a6 : Nat) (a7 : Nat) (a8 : Nat) (a9 : Nat) (n0 : Nat) (b0 : Nat) (l0 : Nat) (l1 : Nat) (sz : Nat) (k0 : Int32) (k1 : Int32) (k2 : Int32) : Met l yX11_side (wT yX11_side cX11_side 4 (some .int)) ({ frames := 1, cells := 0, slots := 0, locals := 21 }) (pcW dC dI [.ref h0, .int k0, .int k1, .int k2] sz [(h0, .inr (11, [.ref a0, .ref a1, .ref a2, .ref a3, .ref a4, .ref a5, .ref a6, .ref a7, .ref a8, .ref a9, .ref n0, .ref b0, .int (-1)])), (n0, .inr (3, [.ref l0, .ref l1, .int 0, .int 0]))] []) (vp_Si (fun r => r = (-2))) 0 0 (fun _ => False) := by
  refine Met.ofW (cc := cX11_side) (maxL := 4) (ret := (some .int)) (by decide) rfl ?_
  intro p e s m args below meth c s₁ B hml hv
  obtain ⟨rfl, hsz, hP, hK, hD0⟩ := hv
  have hx := B.exec
  have hb := B.bytes
  have hr := B.returns
  have hT : ∀ w ∈ TB, w.before [.ref h0, .int k0, .int k1, .int k2].toArray s = true := fun w h => atoms_spec (ws := wT yX11_side cX11_side 4 (some .int)) B.pre w (List.mem_cons_of_mem _ h)
  have hown : s.vm.findClass RX11 = some m.cls := findClass_of_methodNamed B.named
  have hlocks := B.notSynchronized
  subst hsz
  have hD := hD0
  have hP : va_P (dC, dI) vwCl [(h0, .inr (11, [.ref a0, .ref a1, .ref a2, .ref a3, .ref a4, .ref a5, .ref a6, .ref a7, .ref a8, .ref a9, .ref n0, .ref b0, .int (-1)])), (n0, .inr (3, [.ref l0, .ref l1, .int 0, .int 0]))] s.heap := hP
  have hl := lv_entry ([.ref h0, .int k0, .int k1, .int k2]) (n := 4) (Nat.le_of_ble_eq_true rfl)
  rw [lg_entry_eq]
  generalize (lg_sl ([.ref h0, .int k0, .int k1, .int k2]) ++ List.replicate (4 - (lg_sl ([.ref h0, .int k0, .int k1, .int k2])).length) Slot.unset).toArray = ls at hl ⊢
  have hl : lv_has ls 4 [(0, .ref h0), (1, .int k0), (2, .int k1), (3, .int k2)] := hl
  refine lv_aload_n hx hb dX11_side_0 rfl (lv_at hl 0 rfl) ?_
  refine lv_iload_n hx hb dX11_side_1 rfl (lv_at hl 1 rfl) ?_
  have hPc := hP.sub (ws' := [(h0, .inr (11, [.ref a0, .ref a1, .ref a2, .ref a3, .ref a4, .ref a5, .ref a6, .ref a7, .ref a8, .ref a9, .ref n0, .ref b0, .int (-1)])), (n0, .inr (3, [.ref l0, .ref l1, .int 0, .int 0]))]) [0, 1] rfl
  have hDc := hD.sub (ws' := [(h0, .inr (11, [.ref a0, .ref a1, .ref a2, .ref a3, .ref a4, .ref a5, .ref a6, .ref a7, .ref a8, .ref a9, .ref n0, .ref b0, .int (-1)])), (n0, .inr (3, [.ref l0, .ref l1, .int 0, .int 0]))]) [0, 1] (by decide) rfl
  have hKc := hK.sub (tys' := []) [] rfl
  refine vp_callSi (va_Run.run (va_runV (As := [.int k0]) (rest := []) ⟨hx, hb, hml, hown, hT⟩ (c_noParty l dC dI h0 a0 a1 a2 a3 a4 a5 a6 a7 a8 a9 n0 b0 l0 l1 s.heap.size k0) (cwV 1 hT (gV w602 w604 ws23 w1 w605) rfl rfl rfl (by decide +kernel) ⟨(Nat.le_of_ble_eq_true rfl), (Nat.le_of_ble_eq_true rfl)⟩) ⟨pcW.blind, va_recv hKc hPc (ci := 11) (q0 := 0) rfl rfl, pcW.pre hPc hKc hDc⟩ rfl rfl hl.1 rfl (lv_room (Nat.le_of_ble_eq_true rfl)) dX11_side_2 ⟨(Nat.le_of_ble_eq_true rfl), (Nat.le_of_ble_eq_true rfl)⟩)) (fun r_2 hr_2 => ?_)
  obtain rfl : r_2 = 1 := hr_2
  refine lv_if_ne (tgt := 16) hx hb dX11_side_5 (by decide) (fun _ => ?_) (fun h => absurd h (by decide))
  refine lv_bipush (v := (-2)) hx hb dX11_side_16 (by decide) ?_
  exact W.iret (v := (-2)) hx hb hr (fun t ht hW => ⟨(-2), rfl, rfl, ht⟩) (fun q h => by cases h) dX11_side_18

set_option maxHeartbeats 4000000 in
set_option maxRecDepth 100000 in
theorem c_without (l : Launch) (dC : Nat → ClassId) (dI : Nat → Nat → Nat) (h0 : Nat) (a0 : Nat) (a1 : Nat) (a2 : Nat) (a3 : Nat) (a4 : Nat) (a5 : Nat) (a6 : Nat) (a7 : Nat) (a8 : Nat) (a9 : Nat) (n0 : Nat) (b0 : Nat) (l0 : Nat) (l1 : Nat) (sz : Nat) (k0 : Int32) (k1 : Int32) : Met l yX11_without (wT yX11_without cX11_without 5 (some .int)) ({ frames := 1, cells := 0, slots := 0, locals := 21 }) (pcW dC dI [.ref h0, .int k0, .int k1] sz [(h0, .inr (11, [.ref a0, .ref a1, .ref a2, .ref a3, .ref a4, .ref a5, .ref a6, .ref a7, .ref a8, .ref a9, .ref n0, .ref b0, .int (-1)])), (n0, .inr (3, [.ref l0, .ref l1, .int 0, .int 0]))] []) (vp_Si (fun r => r = (-2))) 0 0 (fun _ => False) := by
  refine Met.ofW (cc := cX11_without) (maxL := 5) (ret := (some .int)) (by decide) rfl ?_
  intro p e s m args below meth c s₁ B hml hv
  obtain ⟨rfl, hsz, hP, hK, hD0⟩ := hv
  have hx := B.exec
  have hb := B.bytes
  have hr := B.returns
  have hT : ∀ w ∈ TB, w.before [.ref h0, .int k0, .int k1].toArray s = true := fun w h => atoms_spec (ws := wT yX11_without cX11_without 5 (some .int)) B.pre w (List.mem_cons_of_mem _ h)
  have hown : s.vm.findClass RX11 = some m.cls := findClass_of_methodNamed B.named
  have hlocks := B.notSynchronized
  subst hsz
  have hD := hD0
  have hP : va_P (dC, dI) vwCl [(h0, .inr (11, [.ref a0, .ref a1, .ref a2, .ref a3, .ref a4, .ref a5, .ref a6, .ref a7, .ref a8, .ref a9, .ref n0, .ref b0, .int (-1)])), (n0, .inr (3, [.ref l0, .ref l1, .int 0, .int 0]))] s.heap := hP
  have hl := lv_entry ([.ref h0, .int k0, .int k1]) (n := 5) (Nat.le_of_ble_eq_true rfl)
  rw [lg_entry_eq]
  generalize (lg_sl ([.ref h0, .int k0, .int k1]) ++ List.replicate (5 - (lg_sl ([.ref h0, .int k0, .int k1])).length) Slot.unset).toArray = ls at hl ⊢
  have hl : lv_has ls 5 [(0, .ref h0), (1, .int k0), (2, .int k1)] := hl
  refine lv_aload_n hx hb dX11_without_0 rfl (lv_at hl 0 rfl) ?_
  refine lv_iload_n hx hb dX11_without_1 rfl (lv_at hl 1 rfl) ?_
  have hPc := hP.sub (ws' := [(h0, .inr (11, [.ref a0, .ref a1, .ref a2, .ref a3, .ref a4, .ref a5, .ref a6, .ref a7, .ref a8, .ref a9, .ref n0, .ref b0, .int (-1)])), (n0, .inr (3, [.ref l0, .ref l1, .int 0, .int 0]))]) [0, 1] rfl
  have hDc := hD.sub (ws' := [(h0, .inr (11, [.ref a0, .ref a1, .ref a2, .ref a3, .ref a4, .ref a5, .ref a6, .ref a7, .ref a8, .ref a9, .ref n0, .ref b0, .int (-1)])), (n0, .inr (3, [.ref l0, .ref l1, .int 0, .int 0]))]) [0, 1] (by decide) rfl
  have hKc := hK.sub (tys' := []) [] rfl
  refine vp_callSi (va_Run.run (va_runV (As := [.int k0]) (rest := []) ⟨hx, hb, hml, hown, hT⟩ (c_noParty l dC dI h0 a0 a1 a2 a3 a4 a5 a6 a7 a8 a9 n0 b0 l0 l1 s.heap.size k0) (cwV 1 hT (gV w602 w604 ws23 w1 w605) rfl rfl rfl (by decide +kernel) ⟨(Nat.le_of_ble_eq_true rfl), (Nat.le_of_ble_eq_true rfl)⟩) ⟨pcW.blind, va_recv hKc hPc (ci := 11) (q0 := 0) rfl rfl, pcW.pre hPc hKc hDc⟩ rfl rfl hl.1 rfl (lv_room (Nat.le_of_ble_eq_true rfl)) dX11_without_2 ⟨(Nat.le_of_ble_eq_true rfl), (Nat.le_of_ble_eq_true rfl)⟩)) (fun r_2 hr_2 => ?_)
  obtain rfl : r_2 = 1 := hr_2
  refine lv_if_ne (tgt := 16) hx hb dX11_without_5 (by decide) (fun _ => ?_) (fun h => absurd h (by decide))
  refine lv_bipush (v := (-2)) hx hb dX11_without_16 (by decide) ?_
  exact W.iret (v := (-2)) hx hb hr (fun t ht hW => ⟨(-2), rfl, rfl, ht⟩) (fun q h => by cases h) dX11_without_18

set_option maxHeartbeats 4000000 in
set_option maxRecDepth 100000 in
theorem c_relief (l : Launch) (dC : Nat → ClassId) (dI : Nat → Nat → Nat) (h0 : Nat) (a0 : Nat) (a1 : Nat) (a2 : Nat) (a3 : Nat) (a4 : Nat) (a5 : Nat) (a6 : Nat) (a7 : Nat) (a8 : Nat) (a9 : Nat) (n0 : Nat) (b0 : Nat) (l0 : Nat) (l1 : Nat) (sz : Nat) (k0 : Int32) (k1 : Int32) : Met l yX11_relief (wT yX11_relief cX11_relief 3 (some .int)) ({ frames := 1, cells := 0, slots := 0, locals := 21 }) (pcW dC dI [.ref h0, .int k0, .int k1] sz [(h0, .inr (11, [.ref a0, .ref a1, .ref a2, .ref a3, .ref a4, .ref a5, .ref a6, .ref a7, .ref a8, .ref a9, .ref n0, .ref b0, .int (-1)])), (n0, .inr (3, [.ref l0, .ref l1, .int 0, .int 0]))] []) (vp_Si (fun r => r = (-2))) 0 0 (fun _ => False) := by
  refine Met.ofW (cc := cX11_relief) (maxL := 3) (ret := (some .int)) (by decide) rfl ?_
  intro p e s m args below meth c s₁ B hml hv
  obtain ⟨rfl, hsz, hP, hK, hD0⟩ := hv
  have hx := B.exec
  have hb := B.bytes
  have hr := B.returns
  have hT : ∀ w ∈ TB, w.before [.ref h0, .int k0, .int k1].toArray s = true := fun w h => atoms_spec (ws := wT yX11_relief cX11_relief 3 (some .int)) B.pre w (List.mem_cons_of_mem _ h)
  have hown : s.vm.findClass RX11 = some m.cls := findClass_of_methodNamed B.named
  have hlocks := B.notSynchronized
  subst hsz
  have hD := hD0
  have hP : va_P (dC, dI) vwCl [(h0, .inr (11, [.ref a0, .ref a1, .ref a2, .ref a3, .ref a4, .ref a5, .ref a6, .ref a7, .ref a8, .ref a9, .ref n0, .ref b0, .int (-1)])), (n0, .inr (3, [.ref l0, .ref l1, .int 0, .int 0]))] s.heap := hP
  have hl := lv_entry ([.ref h0, .int k0, .int k1]) (n := 3) (Nat.le_of_ble_eq_true rfl)
  rw [lg_entry_eq]
  generalize (lg_sl ([.ref h0, .int k0, .int k1]) ++ List.replicate (3 - (lg_sl ([.ref h0, .int k0, .int k1])).length) Slot.unset).toArray = ls at hl ⊢
  have hl : lv_has ls 3 [(0, .ref h0), (1, .int k0), (2, .int k1)] := hl
  refine lv_aload_n hx hb dX11_relief_0 rfl (lv_at hl 0 rfl) ?_
  refine lv_iload_n hx hb dX11_relief_1 rfl (lv_at hl 1 rfl) ?_
  have hPc := hP.sub (ws' := [(h0, .inr (11, [.ref a0, .ref a1, .ref a2, .ref a3, .ref a4, .ref a5, .ref a6, .ref a7, .ref a8, .ref a9, .ref n0, .ref b0, .int (-1)])), (n0, .inr (3, [.ref l0, .ref l1, .int 0, .int 0]))]) [0, 1] rfl
  have hDc := hD.sub (ws' := [(h0, .inr (11, [.ref a0, .ref a1, .ref a2, .ref a3, .ref a4, .ref a5, .ref a6, .ref a7, .ref a8, .ref a9, .ref n0, .ref b0, .int (-1)])), (n0, .inr (3, [.ref l0, .ref l1, .int 0, .int 0]))]) [0, 1] (by decide) rfl
  have hKc := hK.sub (tys' := []) [] rfl
  refine vp_callSi (va_Run.run (va_runV (As := [.int k0]) (rest := []) ⟨hx, hb, hml, hown, hT⟩ (c_noParty l dC dI h0 a0 a1 a2 a3 a4 a5 a6 a7 a8 a9 n0 b0 l0 l1 s.heap.size k0) (cwV 1 hT (gV w602 w604 ws23 w1 w605) rfl rfl rfl (by decide +kernel) ⟨(Nat.le_of_ble_eq_true rfl), (Nat.le_of_ble_eq_true rfl)⟩) ⟨pcW.blind, va_recv hKc hPc (ci := 11) (q0 := 0) rfl rfl, pcW.pre hPc hKc hDc⟩ rfl rfl hl.1 rfl (lv_room (Nat.le_of_ble_eq_true rfl)) dX11_relief_2 ⟨(Nat.le_of_ble_eq_true rfl), (Nat.le_of_ble_eq_true rfl)⟩)) (fun r_2 hr_2 => ?_)
  obtain rfl : r_2 = 1 := hr_2
  refine lv_if_ne (tgt := 16) hx hb dX11_relief_5 (by decide) (fun _ => ?_) (fun h => absurd h (by decide))
  refine lv_bipush (v := (-2)) hx hb dX11_relief_16 (by decide) ?_
  exact W.iret (v := (-2)) hx hb hr (fun t ht hW => ⟨(-2), rfl, rfl, ht⟩) (fun q h => by cases h) dX11_relief_18

set_option maxHeartbeats 4000000 in
set_option maxRecDepth 100000 in
theorem c_through (l : Launch) (dC : Nat → ClassId) (dI : Nat → Nat → Nat) (h0 : Nat) (a0 : Nat) (a1 : Nat) (a2 : Nat) (a3 : Nat) (a4 : Nat) (a5 : Nat) (a6 : Nat) (a7 : Nat) (a8 : Nat) (a9 : Nat) (n0 : Nat) (b0 : Nat) (l0 : Nat) (l1 : Nat) (sz : Nat) (k0 : Int32) (k1 : Int32) (k2 : Int32) : Met l yX11_through (wT yX11_through cX11_through 4 (some .int)) ({ frames := 1, cells := 0, slots := 0, locals := 21 }) (pcW dC dI [.ref h0, .int k0, .int k1, .int k2] sz [(h0, .inr (11, [.ref a0, .ref a1, .ref a2, .ref a3, .ref a4, .ref a5, .ref a6, .ref a7, .ref a8, .ref a9, .ref n0, .ref b0, .int (-1)])), (n0, .inr (3, [.ref l0, .ref l1, .int 0, .int 0]))] []) (vp_Si (fun r => r = (-2))) 0 0 (fun _ => False) := by
  refine Met.ofW (cc := cX11_through) (maxL := 4) (ret := (some .int)) (by decide) rfl ?_
  intro p e s m args below meth c s₁ B hml hv
  obtain ⟨rfl, hsz, hP, hK, hD0⟩ := hv
  have hx := B.exec
  have hb := B.bytes
  have hr := B.returns
  have hT : ∀ w ∈ TB, w.before [.ref h0, .int k0, .int k1, .int k2].toArray s = true := fun w h => atoms_spec (ws := wT yX11_through cX11_through 4 (some .int)) B.pre w (List.mem_cons_of_mem _ h)
  have hown : s.vm.findClass RX11 = some m.cls := findClass_of_methodNamed B.named
  have hlocks := B.notSynchronized
  subst hsz
  have hD := hD0
  have hP : va_P (dC, dI) vwCl [(h0, .inr (11, [.ref a0, .ref a1, .ref a2, .ref a3, .ref a4, .ref a5, .ref a6, .ref a7, .ref a8, .ref a9, .ref n0, .ref b0, .int (-1)])), (n0, .inr (3, [.ref l0, .ref l1, .int 0, .int 0]))] s.heap := hP
  have hl := lv_entry ([.ref h0, .int k0, .int k1, .int k2]) (n := 4) (Nat.le_of_ble_eq_true rfl)
  rw [lg_entry_eq]
  generalize (lg_sl ([.ref h0, .int k0, .int k1, .int k2]) ++ List.replicate (4 - (lg_sl ([.ref h0, .int k0, .int k1, .int k2])).length) Slot.unset).toArray = ls at hl ⊢
  have hl : lv_has ls 4 [(0, .ref h0), (1, .int k0), (2, .int k1), (3, .int k2)] := hl
  refine lv_aload_n hx hb dX11_through_0 rfl (lv_at hl 0 rfl) ?_
  refine lv_iload_n hx hb dX11_through_1 rfl (lv_at hl 1 rfl) ?_
  have hPc := hP.sub (ws' := [(h0, .inr (11, [.ref a0, .ref a1, .ref a2, .ref a3, .ref a4, .ref a5, .ref a6, .ref a7, .ref a8, .ref a9, .ref n0, .ref b0, .int (-1)])), (n0, .inr (3, [.ref l0, .ref l1, .int 0, .int 0]))]) [0, 1] rfl
  have hDc := hD.sub (ws' := [(h0, .inr (11, [.ref a0, .ref a1, .ref a2, .ref a3, .ref a4, .ref a5, .ref a6, .ref a7, .ref a8, .ref a9, .ref n0, .ref b0, .int (-1)])), (n0, .inr (3, [.ref l0, .ref l1, .int 0, .int 0]))]) [0, 1] (by decide) rfl
  have hKc := hK.sub (tys' := []) [] rfl
  refine vp_callSi (va_Run.run (va_runV (As := [.int k0]) (rest := []) ⟨hx, hb, hml, hown, hT⟩ (c_noParty l dC dI h0 a0 a1 a2 a3 a4 a5 a6 a7 a8 a9 n0 b0 l0 l1 s.heap.size k0) (cwV 1 hT (gV w602 w604 ws23 w1 w605) rfl rfl rfl (by decide +kernel) ⟨(Nat.le_of_ble_eq_true rfl), (Nat.le_of_ble_eq_true rfl)⟩) ⟨pcW.blind, va_recv hKc hPc (ci := 11) (q0 := 0) rfl rfl, pcW.pre hPc hKc hDc⟩ rfl rfl hl.1 rfl (lv_room (Nat.le_of_ble_eq_true rfl)) dX11_through_2 ⟨(Nat.le_of_ble_eq_true rfl), (Nat.le_of_ble_eq_true rfl)⟩)) (fun r_2 hr_2 => ?_)
  obtain rfl : r_2 = 1 := hr_2
  refine lv_if_ne (tgt := 16) hx hb dX11_through_5 (by decide) (fun _ => ?_) (fun h => absurd h (by decide))
  refine lv_bipush (v := (-2)) hx hb dX11_through_16 (by decide) ?_
  exact W.iret (v := (-2)) hx hb hr (fun t ht hW => ⟨(-2), rfl, rfl, ht⟩) (fun q h => by cases h) dX11_through_18

set_option maxHeartbeats 4000000 in
set_option maxRecDepth 100000 in
theorem c_takeRing (l : Launch) (dC : Nat → ClassId) (dI : Nat → Nat → Nat) (h0 : Nat) (a0 : Nat) (a1 : Nat) (a2 : Nat) (a3 : Nat) (a4 : Nat) (a5 : Nat) (a6 : Nat) (a7 : Nat) (a8 : Nat) (a9 : Nat) (n0 : Nat) (b0 : Nat) (l0 : Nat) (l1 : Nat) (sz : Nat) (k0 : Int32) : Met l yX11_takeRing (wT yX11_takeRing cX11_takeRing 5 (some .int)) ({ frames := 1, cells := 0, slots := 0, locals := 21 }) (pcW dC dI [.ref h0, .int k0] sz [(h0, .inr (11, [.ref a0, .ref a1, .ref a2, .ref a3, .ref a4, .ref a5, .ref a6, .ref a7, .ref a8, .ref a9, .ref n0, .ref b0, .int (-1)])), (n0, .inr (3, [.ref l0, .ref l1, .int 0, .int 0]))] []) (vp_Si (fun r => r = (-2))) 0 0 (fun _ => False) := by
  refine Met.ofW (cc := cX11_takeRing) (maxL := 5) (ret := (some .int)) (by decide) rfl ?_
  intro p e s m args below meth c s₁ B hml hv
  obtain ⟨rfl, hsz, hP, hK, hD0⟩ := hv
  have hx := B.exec
  have hb := B.bytes
  have hr := B.returns
  have hT : ∀ w ∈ TB, w.before [.ref h0, .int k0].toArray s = true := fun w h => atoms_spec (ws := wT yX11_takeRing cX11_takeRing 5 (some .int)) B.pre w (List.mem_cons_of_mem _ h)
  have hown : s.vm.findClass RX11 = some m.cls := findClass_of_methodNamed B.named
  have hlocks := B.notSynchronized
  subst hsz
  have hD := hD0
  have hP : va_P (dC, dI) vwCl [(h0, .inr (11, [.ref a0, .ref a1, .ref a2, .ref a3, .ref a4, .ref a5, .ref a6, .ref a7, .ref a8, .ref a9, .ref n0, .ref b0, .int (-1)])), (n0, .inr (3, [.ref l0, .ref l1, .int 0, .int 0]))] s.heap := hP
  have hl := lv_entry ([.ref h0, .int k0]) (n := 5) (Nat.le_of_ble_eq_true rfl)
  rw [lg_entry_eq]
  generalize (lg_sl ([.ref h0, .int k0]) ++ List.replicate (5 - (lg_sl ([.ref h0, .int k0])).length) Slot.unset).toArray = ls at hl ⊢
  have hl : lv_has ls 5 [(0, .ref h0), (1, .int k0)] := hl
  refine lv_aload_n hx hb dX11_takeRing_0 rfl (lv_at hl 0 rfl) ?_
  refine lv_iload_n hx hb dX11_takeRing_1 rfl (lv_at hl 1 rfl) ?_
  have hPc := hP.sub (ws' := [(h0, .inr (11, [.ref a0, .ref a1, .ref a2, .ref a3, .ref a4, .ref a5, .ref a6, .ref a7, .ref a8, .ref a9, .ref n0, .ref b0, .int (-1)])), (n0, .inr (3, [.ref l0, .ref l1, .int 0, .int 0]))]) [0, 1] rfl
  have hDc := hD.sub (ws' := [(h0, .inr (11, [.ref a0, .ref a1, .ref a2, .ref a3, .ref a4, .ref a5, .ref a6, .ref a7, .ref a8, .ref a9, .ref n0, .ref b0, .int (-1)])), (n0, .inr (3, [.ref l0, .ref l1, .int 0, .int 0]))]) [0, 1] (by decide) rfl
  have hKc := hK.sub (tys' := []) [] rfl
  refine vp_callSi (va_Run.run (va_runV (As := [.int k0]) (rest := []) ⟨hx, hb, hml, hown, hT⟩ (c_noKind l dC dI h0 a0 a1 a2 a3 a4 a5 a6 a7 a8 a9 n0 b0 l0 l1 s.heap.size k0) (cwV 1 hT (gV w606 w608 ws24 w1 w609) rfl rfl rfl (by decide +kernel) ⟨(Nat.le_of_ble_eq_true rfl), (Nat.le_of_ble_eq_true rfl)⟩) ⟨pcW.blind, va_recv hKc hPc (ci := 11) (q0 := 0) rfl rfl, pcW.pre hPc hKc hDc⟩ rfl rfl hl.1 rfl (lv_room (Nat.le_of_ble_eq_true rfl)) dX11_takeRing_2 ⟨(Nat.le_of_ble_eq_true rfl), (Nat.le_of_ble_eq_true rfl)⟩)) (fun r_2 hr_2 => ?_)
  obtain rfl : r_2 = 1 := hr_2
  refine lv_if_eq (tgt := 11) hx hb dX11_takeRing_5 (by decide) (fun h => absurd h (by decide)) (fun _ => ?_)
  refine lv_bipush (v := (-2)) hx hb dX11_takeRing_8 (by decide) ?_
  exact W.iret (v := (-2)) hx hb hr (fun t ht hW => ⟨(-2), rfl, rfl, ht⟩) (fun q h => by cases h) dX11_takeRing_10

set_option maxHeartbeats 4000000 in
set_option maxRecDepth 100000 in
theorem c_press (l : Launch) (dC : Nat → ClassId) (dI : Nat → Nat → Nat) (h0 : Nat) (a0 : Nat) (a1 : Nat) (a2 : Nat) (a3 : Nat) (a4 : Nat) (a5 : Nat) (a6 : Nat) (a7 : Nat) (a8 : Nat) (a9 : Nat) (n0 : Nat) (b0 : Nat) (l0 : Nat) (l1 : Nat) (sz : Nat) (k0 : Int32) : Met l yX11_press (wT yX11_press cX11_press 6 (some .int)) ({ frames := 1, cells := 0, slots := 0, locals := 21 }) (pcW dC dI [.ref h0, .int k0] sz [(h0, .inr (11, [.ref a0, .ref a1, .ref a2, .ref a3, .ref a4, .ref a5, .ref a6, .ref a7, .ref a8, .ref a9, .ref n0, .ref b0, .int (-1)])), (n0, .inr (3, [.ref l0, .ref l1, .int 0, .int 0]))] []) (vp_Si (fun r => r = (-2))) 0 0 (fun _ => False) := by
  refine Met.ofW (cc := cX11_press) (maxL := 6) (ret := (some .int)) (by decide) rfl ?_
  intro p e s m args below meth c s₁ B hml hv
  obtain ⟨rfl, hsz, hP, hK, hD0⟩ := hv
  have hx := B.exec
  have hb := B.bytes
  have hr := B.returns
  have hT : ∀ w ∈ TB, w.before [.ref h0, .int k0].toArray s = true := fun w h => atoms_spec (ws := wT yX11_press cX11_press 6 (some .int)) B.pre w (List.mem_cons_of_mem _ h)
  have hown : s.vm.findClass RX11 = some m.cls := findClass_of_methodNamed B.named
  have hlocks := B.notSynchronized
  subst hsz
  have hD := hD0
  have hP : va_P (dC, dI) vwCl [(h0, .inr (11, [.ref a0, .ref a1, .ref a2, .ref a3, .ref a4, .ref a5, .ref a6, .ref a7, .ref a8, .ref a9, .ref n0, .ref b0, .int (-1)])), (n0, .inr (3, [.ref l0, .ref l1, .int 0, .int 0]))] s.heap := hP
  have hl := lv_entry ([.ref h0, .int k0]) (n := 6) (Nat.le_of_ble_eq_true rfl)
  rw [lg_entry_eq]
  generalize (lg_sl ([.ref h0, .int k0]) ++ List.replicate (6 - (lg_sl ([.ref h0, .int k0])).length) Slot.unset).toArray = ls at hl ⊢
  have hl : lv_has ls 6 [(0, .ref h0), (1, .int k0)] := hl
  refine lv_aload_n hx hb dX11_press_0 rfl (lv_at hl 0 rfl) ?_
  refine lv_iload_n hx hb dX11_press_1 rfl (lv_at hl 1 rfl) ?_
  have hPc := hP.sub (ws' := [(h0, .inr (11, [.ref a0, .ref a1, .ref a2, .ref a3, .ref a4, .ref a5, .ref a6, .ref a7, .ref a8, .ref a9, .ref n0, .ref b0, .int (-1)])), (n0, .inr (3, [.ref l0, .ref l1, .int 0, .int 0]))]) [0, 1] rfl
  have hDc := hD.sub (ws' := [(h0, .inr (11, [.ref a0, .ref a1, .ref a2, .ref a3, .ref a4, .ref a5, .ref a6, .ref a7, .ref a8, .ref a9, .ref n0, .ref b0, .int (-1)])), (n0, .inr (3, [.ref l0, .ref l1, .int 0, .int 0]))]) [0, 1] (by decide) rfl
  have hKc := hK.sub (tys' := []) [] rfl
  refine vp_callSi (va_Run.run (va_runV (As := [.int k0]) (rest := []) ⟨hx, hb, hml, hown, hT⟩ (c_noKind l dC dI h0 a0 a1 a2 a3 a4 a5 a6 a7 a8 a9 n0 b0 l0 l1 s.heap.size k0) (cwV 1 hT (gV w606 w608 ws24 w1 w609) rfl rfl rfl (by decide +kernel) ⟨(Nat.le_of_ble_eq_true rfl), (Nat.le_of_ble_eq_true rfl)⟩) ⟨pcW.blind, va_recv hKc hPc (ci := 11) (q0 := 0) rfl rfl, pcW.pre hPc hKc hDc⟩ rfl rfl hl.1 rfl (lv_room (Nat.le_of_ble_eq_true rfl)) dX11_press_2 ⟨(Nat.le_of_ble_eq_true rfl), (Nat.le_of_ble_eq_true rfl)⟩)) (fun r_2 hr_2 => ?_)
  obtain rfl : r_2 = 1 := hr_2
  refine lv_if_eq (tgt := 11) hx hb dX11_press_5 (by decide) (fun h => absurd h (by decide)) (fun _ => ?_)
  refine lv_bipush (v := (-2)) hx hb dX11_press_8 (by decide) ?_
  exact W.iret (v := (-2)) hx hb hr (fun t ht hW => ⟨(-2), rfl, rfl, ht⟩) (fun q h => by cases h) dX11_press_10

set_option maxHeartbeats 4000000 in
set_option maxRecDepth 100000 in
theorem c_total (l : Launch) (dC : Nat → ClassId) (dI : Nat → Nat → Nat) (h0 : Nat) (a0 : Nat) (a1 : Nat) (a2 : Nat) (a3 : Nat) (a4 : Nat) (a5 : Nat) (a6 : Nat) (a7 : Nat) (a8 : Nat) (a9 : Nat) (n0 : Nat) (b0 : Nat) (l0 : Nat) (l1 : Nat) (sz : Nat) (k0 : Int32) (k1 : Int32) : Met l yX11_total (wT yX11_total cX11_total 3 (some .int)) ({ frames := 1, cells := 0, slots := 0, locals := 21 }) (pcW dC dI [.ref h0, .int k0, .int k1] sz [(h0, .inr (11, [.ref a0, .ref a1, .ref a2, .ref a3, .ref a4, .ref a5, .ref a6, .ref a7, .ref a8, .ref a9, .ref n0, .ref b0, .int (-1)])), (n0, .inr (3, [.ref l0, .ref l1, .int 0, .int 0]))] []) (vp_Si (fun r => r = (-2))) 0 0 (fun _ => False) := by
  refine Met.ofW (cc := cX11_total) (maxL := 3) (ret := (some .int)) (by decide) rfl ?_
  intro p e s m args below meth c s₁ B hml hv
  obtain ⟨rfl, hsz, hP, hK, hD0⟩ := hv
  have hx := B.exec
  have hb := B.bytes
  have hr := B.returns
  have hT : ∀ w ∈ TB, w.before [.ref h0, .int k0, .int k1].toArray s = true := fun w h => atoms_spec (ws := wT yX11_total cX11_total 3 (some .int)) B.pre w (List.mem_cons_of_mem _ h)
  have hown : s.vm.findClass RX11 = some m.cls := findClass_of_methodNamed B.named
  have hlocks := B.notSynchronized
  subst hsz
  have hD := hD0
  have hP : va_P (dC, dI) vwCl [(h0, .inr (11, [.ref a0, .ref a1, .ref a2, .ref a3, .ref a4, .ref a5, .ref a6, .ref a7, .ref a8, .ref a9, .ref n0, .ref b0, .int (-1)])), (n0, .inr (3, [.ref l0, .ref l1, .int 0, .int 0]))] s.heap := hP
  have hl := lv_entry ([.ref h0, .int k0, .int k1]) (n := 3) (Nat.le_of_ble_eq_true rfl)
  rw [lg_entry_eq]
  generalize (lg_sl ([.ref h0, .int k0, .int k1]) ++ List.replicate (3 - (lg_sl ([.ref h0, .int k0, .int k1])).length) Slot.unset).toArray = ls at hl ⊢
  have hl : lv_has ls 3 [(0, .ref h0), (1, .int k0), (2, .int k1)] := hl
  refine lv_aload_n hx hb dX11_total_0 rfl (lv_at hl 0 rfl) ?_
  refine lv_iload_n hx hb dX11_total_1 rfl (lv_at hl 1 rfl) ?_
  have hPc := hP.sub (ws' := [(h0, .inr (11, [.ref a0, .ref a1, .ref a2, .ref a3, .ref a4, .ref a5, .ref a6, .ref a7, .ref a8, .ref a9, .ref n0, .ref b0, .int (-1)])), (n0, .inr (3, [.ref l0, .ref l1, .int 0, .int 0]))]) [0, 1] rfl
  have hDc := hD.sub (ws' := [(h0, .inr (11, [.ref a0, .ref a1, .ref a2, .ref a3, .ref a4, .ref a5, .ref a6, .ref a7, .ref a8, .ref a9, .ref n0, .ref b0, .int (-1)])), (n0, .inr (3, [.ref l0, .ref l1, .int 0, .int 0]))]) [0, 1] (by decide) rfl
  have hKc := hK.sub (tys' := []) [] rfl
  refine vp_callSi (va_Run.run (va_runV (As := [.int k0]) (rest := []) ⟨hx, hb, hml, hown, hT⟩ (c_noKind l dC dI h0 a0 a1 a2 a3 a4 a5 a6 a7 a8 a9 n0 b0 l0 l1 s.heap.size k0) (cwV 1 hT (gV w606 w608 ws24 w1 w609) rfl rfl rfl (by decide +kernel) ⟨(Nat.le_of_ble_eq_true rfl), (Nat.le_of_ble_eq_true rfl)⟩) ⟨pcW.blind, va_recv hKc hPc (ci := 11) (q0 := 0) rfl rfl, pcW.pre hPc hKc hDc⟩ rfl rfl hl.1 rfl (lv_room (Nat.le_of_ble_eq_true rfl)) dX11_total_2 ⟨(Nat.le_of_ble_eq_true rfl), (Nat.le_of_ble_eq_true rfl)⟩)) (fun r_2 hr_2 => ?_)
  obtain rfl : r_2 = 1 := hr_2
  refine lv_if_eq (tgt := 11) hx hb dX11_total_5 (by decide) (fun h => absurd h (by decide)) (fun _ => ?_)
  refine lv_bipush (v := (-2)) hx hb dX11_total_8 (by decide) ?_
  exact W.iret (v := (-2)) hx hb hr (fun t ht hW => ⟨(-2), rfl, rfl, ht⟩) (fun q h => by cases h) dX11_total_10

set_option maxHeartbeats 4000000 in
set_option maxRecDepth 100000 in
theorem c_ring (l : Launch) (dC : Nat → ClassId) (dI : Nat → Nat → Nat) (h0 : Nat) (a0 : Nat) (a1 : Nat) (a2 : Nat) (a3 : Nat) (a4 : Nat) (a5 : Nat) (a6 : Nat) (a7 : Nat) (a8 : Nat) (a9 : Nat) (n0 : Nat) (b0 : Nat) (l0 : Nat) (l1 : Nat) (sz : Nat) (k0 : Int32) (k1 : Int32) : Met l yX11_ring (wT yX11_ring cX11_ring 3 (some .int)) ({ frames := 1, cells := 0, slots := 0, locals := 21 }) (pcW dC dI [.ref h0, .int k0, .int k1] sz [(h0, .inr (11, [.ref a0, .ref a1, .ref a2, .ref a3, .ref a4, .ref a5, .ref a6, .ref a7, .ref a8, .ref a9, .ref n0, .ref b0, .int (-1)])), (n0, .inr (3, [.ref l0, .ref l1, .int 0, .int 0]))] []) (vp_Si (fun r => r = (-2))) 0 0 (fun _ => False) := by
  refine Met.ofW (cc := cX11_ring) (maxL := 3) (ret := (some .int)) (by decide) rfl ?_
  intro p e s m args below meth c s₁ B hml hv
  obtain ⟨rfl, hsz, hP, hK, hD0⟩ := hv
  have hx := B.exec
  have hb := B.bytes
  have hr := B.returns
  have hT : ∀ w ∈ TB, w.before [.ref h0, .int k0, .int k1].toArray s = true := fun w h => atoms_spec (ws := wT yX11_ring cX11_ring 3 (some .int)) B.pre w (List.mem_cons_of_mem _ h)
  have hown : s.vm.findClass RX11 = some m.cls := findClass_of_methodNamed B.named
  have hlocks := B.notSynchronized
  subst hsz
  have hD := hD0
  have hP : va_P (dC, dI) vwCl [(h0, .inr (11, [.ref a0, .ref a1, .ref a2, .ref a3, .ref a4, .ref a5, .ref a6, .ref a7, .ref a8, .ref a9, .ref n0, .ref b0, .int (-1)])), (n0, .inr (3, [.ref l0, .ref l1, .int 0, .int 0]))] s.heap := hP
  have hl := lv_entry ([.ref h0, .int k0, .int k1]) (n := 3) (Nat.le_of_ble_eq_true rfl)
  rw [lg_entry_eq]
  generalize (lg_sl ([.ref h0, .int k0, .int k1]) ++ List.replicate (3 - (lg_sl ([.ref h0, .int k0, .int k1])).length) Slot.unset).toArray = ls at hl ⊢
  have hl : lv_has ls 3 [(0, .ref h0), (1, .int k0), (2, .int k1)] := hl
  refine lv_aload_n hx hb dX11_ring_0 rfl (lv_at hl 0 rfl) ?_
  refine lv_iload_n hx hb dX11_ring_1 rfl (lv_at hl 1 rfl) ?_
  have hPc := hP.sub (ws' := [(h0, .inr (11, [.ref a0, .ref a1, .ref a2, .ref a3, .ref a4, .ref a5, .ref a6, .ref a7, .ref a8, .ref a9, .ref n0, .ref b0, .int (-1)])), (n0, .inr (3, [.ref l0, .ref l1, .int 0, .int 0]))]) [0, 1] rfl
  have hDc := hD.sub (ws' := [(h0, .inr (11, [.ref a0, .ref a1, .ref a2, .ref a3, .ref a4, .ref a5, .ref a6, .ref a7, .ref a8, .ref a9, .ref n0, .ref b0, .int (-1)])), (n0, .inr (3, [.ref l0, .ref l1, .int 0, .int 0]))]) [0, 1] (by decide) rfl
  have hKc := hK.sub (tys' := []) [] rfl
  refine vp_callSi (va_Run.run (va_runV (As := [.int k0]) (rest := []) ⟨hx, hb, hml, hown, hT⟩ (c_noKind l dC dI h0 a0 a1 a2 a3 a4 a5 a6 a7 a8 a9 n0 b0 l0 l1 s.heap.size k0) (cwV 1 hT (gV w606 w608 ws24 w1 w609) rfl rfl rfl (by decide +kernel) ⟨(Nat.le_of_ble_eq_true rfl), (Nat.le_of_ble_eq_true rfl)⟩) ⟨pcW.blind, va_recv hKc hPc (ci := 11) (q0 := 0) rfl rfl, pcW.pre hPc hKc hDc⟩ rfl rfl hl.1 rfl (lv_room (Nat.le_of_ble_eq_true rfl)) dX11_ring_2 ⟨(Nat.le_of_ble_eq_true rfl), (Nat.le_of_ble_eq_true rfl)⟩)) (fun r_2 hr_2 => ?_)
  obtain rfl : r_2 = 1 := hr_2
  refine lv_if_eq (tgt := 11) hx hb dX11_ring_5 (by decide) (fun h => absurd h (by decide)) (fun _ => ?_)
  refine lv_bipush (v := (-2)) hx hb dX11_ring_8 (by decide) ?_
  exact W.iret (v := (-2)) hx hb hr (fun t ht hW => ⟨(-2), rfl, rfl, ht⟩) (fun q h => by cases h) dX11_ring_10

set_option maxHeartbeats 4000000 in
set_option maxRecDepth 100000 in
theorem c_load (l : Launch) (dC : Nat → ClassId) (dI : Nat → Nat → Nat) (h0 : Nat) (a0 : Nat) (a1 : Nat) (a2 : Nat) (a3 : Nat) (a4 : Nat) (a5 : Nat) (a6 : Nat) (a7 : Nat) (a8 : Nat) (a9 : Nat) (n0 : Nat) (b0 : Nat) (l0 : Nat) (l1 : Nat) (sz : Nat) (k0 : Int32) : Met l yX11_load (wT yX11_load cX11_load 2 (some .int)) ({ frames := 1, cells := 0, slots := 0, locals := 21 }) (pcW dC dI [.ref h0, .int k0] sz [(h0, .inr (11, [.ref a0, .ref a1, .ref a2, .ref a3, .ref a4, .ref a5, .ref a6, .ref a7, .ref a8, .ref a9, .ref n0, .ref b0, .int (-1)])), (n0, .inr (3, [.ref l0, .ref l1, .int 0, .int 0]))] []) (vp_Si (fun r => r = (-2))) 0 0 (fun _ => False) := by
  refine Met.ofW (cc := cX11_load) (maxL := 2) (ret := (some .int)) (by decide) rfl ?_
  intro p e s m args below meth c s₁ B hml hv
  obtain ⟨rfl, hsz, hP, hK, hD0⟩ := hv
  have hx := B.exec
  have hb := B.bytes
  have hr := B.returns
  have hT : ∀ w ∈ TB, w.before [.ref h0, .int k0].toArray s = true := fun w h => atoms_spec (ws := wT yX11_load cX11_load 2 (some .int)) B.pre w (List.mem_cons_of_mem _ h)
  have hown : s.vm.findClass RX11 = some m.cls := findClass_of_methodNamed B.named
  have hlocks := B.notSynchronized
  subst hsz
  have hD := hD0
  have hP : va_P (dC, dI) vwCl [(h0, .inr (11, [.ref a0, .ref a1, .ref a2, .ref a3, .ref a4, .ref a5, .ref a6, .ref a7, .ref a8, .ref a9, .ref n0, .ref b0, .int (-1)])), (n0, .inr (3, [.ref l0, .ref l1, .int 0, .int 0]))] s.heap := hP
  have hl := lv_entry ([.ref h0, .int k0]) (n := 2) (Nat.le_of_ble_eq_true rfl)
  rw [lg_entry_eq]
  generalize (lg_sl ([.ref h0, .int k0]) ++ List.replicate (2 - (lg_sl ([.ref h0, .int k0])).length) Slot.unset).toArray = ls at hl ⊢
  have hl : lv_has ls 2 [(0, .ref h0), (1, .int k0)] := hl
  refine lv_aload_n hx hb dX11_load_0 rfl (lv_at hl 0 rfl) ?_
  refine lv_iload_n hx hb dX11_load_1 rfl (lv_at hl 1 rfl) ?_
  have hPc := hP.sub (ws' := [(h0, .inr (11, [.ref a0, .ref a1, .ref a2, .ref a3, .ref a4, .ref a5, .ref a6, .ref a7, .ref a8, .ref a9, .ref n0, .ref b0, .int (-1)])), (n0, .inr (3, [.ref l0, .ref l1, .int 0, .int 0]))]) [0, 1] rfl
  have hDc := hD.sub (ws' := [(h0, .inr (11, [.ref a0, .ref a1, .ref a2, .ref a3, .ref a4, .ref a5, .ref a6, .ref a7, .ref a8, .ref a9, .ref n0, .ref b0, .int (-1)])), (n0, .inr (3, [.ref l0, .ref l1, .int 0, .int 0]))]) [0, 1] (by decide) rfl
  have hKc := hK.sub (tys' := []) [] rfl
  refine vp_callSi (va_Run.run (va_runV (As := [.int k0]) (rest := []) ⟨hx, hb, hml, hown, hT⟩ (c_noKind l dC dI h0 a0 a1 a2 a3 a4 a5 a6 a7 a8 a9 n0 b0 l0 l1 s.heap.size k0) (cwV 1 hT (gV w606 w608 ws24 w1 w609) rfl rfl rfl (by decide +kernel) ⟨(Nat.le_of_ble_eq_true rfl), (Nat.le_of_ble_eq_true rfl)⟩) ⟨pcW.blind, va_recv hKc hPc (ci := 11) (q0 := 0) rfl rfl, pcW.pre hPc hKc hDc⟩ rfl rfl hl.1 rfl (lv_room (Nat.le_of_ble_eq_true rfl)) dX11_load_2 ⟨(Nat.le_of_ble_eq_true rfl), (Nat.le_of_ble_eq_true rfl)⟩)) (fun r_2 hr_2 => ?_)
  obtain rfl : r_2 = 1 := hr_2
  refine lv_if_eq (tgt := 11) hx hb dX11_load_5 (by decide) (fun h => absurd h (by decide)) (fun _ => ?_)
  refine lv_bipush (v := (-2)) hx hb dX11_load_8 (by decide) ?_
  exact W.iret (v := (-2)) hx hb hr (fun t ht hW => ⟨(-2), rfl, rfl, ht⟩) (fun q h => by cases h) dX11_load_10

set_option maxHeartbeats 4000000 in
set_option maxRecDepth 100000 in
theorem c_cleared (l : Launch) (dC : Nat → ClassId) (dI : Nat → Nat → Nat) (h0 : Nat) (a0 : Nat) (a1 : Nat) (a2 : Nat) (a3 : Nat) (a4 : Nat) (a5 : Nat) (a6 : Nat) (a7 : Nat) (a8 : Nat) (a9 : Nat) (n0 : Nat) (b0 : Nat) (l0 : Nat) (l1 : Nat) (sz : Nat) (k0 : Int32) (k1 : Int32) : Met l yX11_cleared (wT yX11_cleared cX11_cleared 3 (some .int)) ({ frames := 1, cells := 0, slots := 0, locals := 21 }) (pcW dC dI [.ref h0, .int k0, .int k1] sz [(h0, .inr (11, [.ref a0, .ref a1, .ref a2, .ref a3, .ref a4, .ref a5, .ref a6, .ref a7, .ref a8, .ref a9, .ref n0, .ref b0, .int (-1)])), (n0, .inr (3, [.ref l0, .ref l1, .int 0, .int 0]))] []) (vp_Si (fun r => r = (-2))) 0 0 (fun _ => False) := by
  refine Met.ofW (cc := cX11_cleared) (maxL := 3) (ret := (some .int)) (by decide) rfl ?_
  intro p e s m args below meth c s₁ B hml hv
  obtain ⟨rfl, hsz, hP, hK, hD0⟩ := hv
  have hx := B.exec
  have hb := B.bytes
  have hr := B.returns
  have hT : ∀ w ∈ TB, w.before [.ref h0, .int k0, .int k1].toArray s = true := fun w h => atoms_spec (ws := wT yX11_cleared cX11_cleared 3 (some .int)) B.pre w (List.mem_cons_of_mem _ h)
  have hown : s.vm.findClass RX11 = some m.cls := findClass_of_methodNamed B.named
  have hlocks := B.notSynchronized
  subst hsz
  have hD := hD0
  have hP : va_P (dC, dI) vwCl [(h0, .inr (11, [.ref a0, .ref a1, .ref a2, .ref a3, .ref a4, .ref a5, .ref a6, .ref a7, .ref a8, .ref a9, .ref n0, .ref b0, .int (-1)])), (n0, .inr (3, [.ref l0, .ref l1, .int 0, .int 0]))] s.heap := hP
  have hl := lv_entry ([.ref h0, .int k0, .int k1]) (n := 3) (Nat.le_of_ble_eq_true rfl)
  rw [lg_entry_eq]
  generalize (lg_sl ([.ref h0, .int k0, .int k1]) ++ List.replicate (3 - (lg_sl ([.ref h0, .int k0, .int k1])).length) Slot.unset).toArray = ls at hl ⊢
  have hl : lv_has ls 3 [(0, .ref h0), (1, .int k0), (2, .int k1)] := hl
  refine lv_aload_n hx hb dX11_cleared_0 rfl (lv_at hl 0 rfl) ?_
  refine lv_iload_n hx hb dX11_cleared_1 rfl (lv_at hl 1 rfl) ?_
  have hPc := hP.sub (ws' := [(h0, .inr (11, [.ref a0, .ref a1, .ref a2, .ref a3, .ref a4, .ref a5, .ref a6, .ref a7, .ref a8, .ref a9, .ref n0, .ref b0, .int (-1)])), (n0, .inr (3, [.ref l0, .ref l1, .int 0, .int 0]))]) [0, 1] rfl
  have hDc := hD.sub (ws' := [(h0, .inr (11, [.ref a0, .ref a1, .ref a2, .ref a3, .ref a4, .ref a5, .ref a6, .ref a7, .ref a8, .ref a9, .ref n0, .ref b0, .int (-1)])), (n0, .inr (3, [.ref l0, .ref l1, .int 0, .int 0]))]) [0, 1] (by decide) rfl
  have hKc := hK.sub (tys' := []) [] rfl
  refine vp_callSi (va_Run.run (va_runV (As := [.int k0]) (rest := []) ⟨hx, hb, hml, hown, hT⟩ (c_noKind l dC dI h0 a0 a1 a2 a3 a4 a5 a6 a7 a8 a9 n0 b0 l0 l1 s.heap.size k0) (cwV 1 hT (gV w606 w608 ws24 w1 w609) rfl rfl rfl (by decide +kernel) ⟨(Nat.le_of_ble_eq_true rfl), (Nat.le_of_ble_eq_true rfl)⟩) ⟨pcW.blind, va_recv hKc hPc (ci := 11) (q0 := 0) rfl rfl, pcW.pre hPc hKc hDc⟩ rfl rfl hl.1 rfl (lv_room (Nat.le_of_ble_eq_true rfl)) dX11_cleared_2 ⟨(Nat.le_of_ble_eq_true rfl), (Nat.le_of_ble_eq_true rfl)⟩)) (fun r_2 hr_2 => ?_)
  obtain rfl : r_2 = 1 := hr_2
  refine lv_if_eq (tgt := 11) hx hb dX11_cleared_5 (by decide) (fun h => absurd h (by decide)) (fun _ => ?_)
  refine lv_bipush (v := (-2)) hx hb dX11_cleared_8 (by decide) ?_
  exact W.iret (v := (-2)) hx hb hr (fun t ht hW => ⟨(-2), rfl, rfl, ht⟩) (fun q h => by cases h) dX11_cleared_10

set_option maxHeartbeats 4000000 in
set_option maxRecDepth 100000 in
theorem c_rounds (l : Launch) (dC : Nat → ClassId) (dI : Nat → Nat → Nat) (h0 : Nat) (a0 : Nat) (a1 : Nat) (a2 : Nat) (a3 : Nat) (a4 : Nat) (a5 : Nat) (a6 : Nat) (a7 : Nat) (a8 : Nat) (a9 : Nat) (n0 : Nat) (b0 : Nat) (l0 : Nat) (l1 : Nat) (sz : Nat) (k0 : Int32) (k1 : Int32) : Met l yX11_rounds (wT yX11_rounds cX11_rounds 3 (some .int)) ({ frames := 1, cells := 0, slots := 0, locals := 21 }) (pcW dC dI [.ref h0, .int k0, .int k1] sz [(h0, .inr (11, [.ref a0, .ref a1, .ref a2, .ref a3, .ref a4, .ref a5, .ref a6, .ref a7, .ref a8, .ref a9, .ref n0, .ref b0, .int (-1)])), (n0, .inr (3, [.ref l0, .ref l1, .int 0, .int 0]))] []) (vp_Si (fun r => r = (-2))) 0 0 (fun _ => False) := by
  refine Met.ofW (cc := cX11_rounds) (maxL := 3) (ret := (some .int)) (by decide) rfl ?_
  intro p e s m args below meth c s₁ B hml hv
  obtain ⟨rfl, hsz, hP, hK, hD0⟩ := hv
  have hx := B.exec
  have hb := B.bytes
  have hr := B.returns
  have hT : ∀ w ∈ TB, w.before [.ref h0, .int k0, .int k1].toArray s = true := fun w h => atoms_spec (ws := wT yX11_rounds cX11_rounds 3 (some .int)) B.pre w (List.mem_cons_of_mem _ h)
  have hown : s.vm.findClass RX11 = some m.cls := findClass_of_methodNamed B.named
  have hlocks := B.notSynchronized
  subst hsz
  have hD := hD0
  have hP : va_P (dC, dI) vwCl [(h0, .inr (11, [.ref a0, .ref a1, .ref a2, .ref a3, .ref a4, .ref a5, .ref a6, .ref a7, .ref a8, .ref a9, .ref n0, .ref b0, .int (-1)])), (n0, .inr (3, [.ref l0, .ref l1, .int 0, .int 0]))] s.heap := hP
  have hl := lv_entry ([.ref h0, .int k0, .int k1]) (n := 3) (Nat.le_of_ble_eq_true rfl)
  rw [lg_entry_eq]
  generalize (lg_sl ([.ref h0, .int k0, .int k1]) ++ List.replicate (3 - (lg_sl ([.ref h0, .int k0, .int k1])).length) Slot.unset).toArray = ls at hl ⊢
  have hl : lv_has ls 3 [(0, .ref h0), (1, .int k0), (2, .int k1)] := hl
  refine lv_aload_n hx hb dX11_rounds_0 rfl (lv_at hl 0 rfl) ?_
  refine lv_iload_n hx hb dX11_rounds_1 rfl (lv_at hl 1 rfl) ?_
  have hPc := hP.sub (ws' := [(h0, .inr (11, [.ref a0, .ref a1, .ref a2, .ref a3, .ref a4, .ref a5, .ref a6, .ref a7, .ref a8, .ref a9, .ref n0, .ref b0, .int (-1)])), (n0, .inr (3, [.ref l0, .ref l1, .int 0, .int 0]))]) [0, 1] rfl
  have hDc := hD.sub (ws' := [(h0, .inr (11, [.ref a0, .ref a1, .ref a2, .ref a3, .ref a4, .ref a5, .ref a6, .ref a7, .ref a8, .ref a9, .ref n0, .ref b0, .int (-1)])), (n0, .inr (3, [.ref l0, .ref l1, .int 0, .int 0]))]) [0, 1] (by decide) rfl
  have hKc := hK.sub (tys' := []) [] rfl
  refine vp_callSi (va_Run.run (va_runV (As := [.int k0]) (rest := []) ⟨hx, hb, hml, hown, hT⟩ (c_noKind l dC dI h0 a0 a1 a2 a3 a4 a5 a6 a7 a8 a9 n0 b0 l0 l1 s.heap.size k0) (cwV 1 hT (gV w606 w608 ws24 w1 w609) rfl rfl rfl (by decide +kernel) ⟨(Nat.le_of_ble_eq_true rfl), (Nat.le_of_ble_eq_true rfl)⟩) ⟨pcW.blind, va_recv hKc hPc (ci := 11) (q0 := 0) rfl rfl, pcW.pre hPc hKc hDc⟩ rfl rfl hl.1 rfl (lv_room (Nat.le_of_ble_eq_true rfl)) dX11_rounds_2 ⟨(Nat.le_of_ble_eq_true rfl), (Nat.le_of_ble_eq_true rfl)⟩)) (fun r_2 hr_2 => ?_)
  obtain rfl : r_2 = 1 := hr_2
  refine lv_if_eq (tgt := 11) hx hb dX11_rounds_5 (by decide) (fun h => absurd h (by decide)) (fun _ => ?_)
  refine lv_bipush (v := (-2)) hx hb dX11_rounds_8 (by decide) ?_
  exact W.iret (v := (-2)) hx hb hr (fun t ht hW => ⟨(-2), rfl, rfl, ht⟩) (fun q h => by cases h) dX11_rounds_10

set_option maxHeartbeats 4000000 in
set_option maxRecDepth 100000 in
theorem c_chain (l : Launch) (dC : Nat → ClassId) (dI : Nat → Nat → Nat) (h0 : Nat) (a0 : Nat) (a1 : Nat) (a2 : Nat) (a3 : Nat) (a4 : Nat) (a5 : Nat) (a6 : Nat) (a7 : Nat) (a8 : Nat) (a9 : Nat) (n0 : Nat) (b0 : Nat) (l0 : Nat) (l1 : Nat) (sz : Nat) (k0 : Int32) (k1 : Int32) : Met l yX11_chain (wT yX11_chain cX11_chain 3 (some .int)) ({ frames := 1, cells := 0, slots := 0, locals := 21 }) (pcW dC dI [.ref h0, .int k0, .int k1] sz [(h0, .inr (11, [.ref a0, .ref a1, .ref a2, .ref a3, .ref a4, .ref a5, .ref a6, .ref a7, .ref a8, .ref a9, .ref n0, .ref b0, .int (-1)])), (n0, .inr (3, [.ref l0, .ref l1, .int 0, .int 0]))] []) (vp_Si (fun r => r = (-2))) 0 0 (fun _ => False) := by
  refine Met.ofW (cc := cX11_chain) (maxL := 3) (ret := (some .int)) (by decide) rfl ?_
  intro p e s m args below meth c s₁ B hml hv
  obtain ⟨rfl, hsz, hP, hK, hD0⟩ := hv
  have hx := B.exec
  have hb := B.bytes
  have hr := B.returns
  have hT : ∀ w ∈ TB, w.before [.ref h0, .int k0, .int k1].toArray s = true := fun w h => atoms_spec (ws := wT yX11_chain cX11_chain 3 (some .int)) B.pre w (List.mem_cons_of_mem _ h)
  have hown : s.vm.findClass RX11 = some m.cls := findClass_of_methodNamed B.named
  have hlocks := B.notSynchronized
  subst hsz
  have hD := hD0
  have hP : va_P (dC, dI) vwCl [(h0, .inr (11, [.ref a0, .ref a1, .ref a2, .ref a3, .ref a4, .ref a5, .ref a6, .ref a7, .ref a8, .ref a9, .ref n0, .ref b0, .int (-1)])), (n0, .inr (3, [.ref l0, .ref l1, .int 0, .int 0]))] s.heap := hP
  have hl := lv_entry ([.ref h0, .int k0, .int k1]) (n := 3) (Nat.le_of_ble_eq_true rfl)
  rw [lg_entry_eq]
  generalize (lg_sl ([.ref h0, .int k0, .int k1]) ++ List.replicate (3 - (lg_sl ([.ref h0, .int k0, .int k1])).length) Slot.unset).toArray = ls at hl ⊢
  have hl : lv_has ls 3 [(0, .ref h0), (1, .int k0), (2, .int k1)] := hl
  refine lv_aload_n hx hb dX11_chain_0 rfl (lv_at hl 0 rfl) ?_
  refine lv_iload_n hx hb dX11_chain_1 rfl (lv_at hl 1 rfl) ?_
  have hPc := hP.sub (ws' := [(h0, .inr (11, [.ref a0, .ref a1, .ref a2, .ref a3, .ref a4, .ref a5, .ref a6, .ref a7, .ref a8, .ref a9, .ref n0, .ref b0, .int (-1)])), (n0, .inr (3, [.ref l0, .ref l1, .int 0, .int 0]))]) [0, 1] rfl
  have hDc := hD.sub (ws' := [(h0, .inr (11, [.ref a0, .ref a1, .ref a2, .ref a3, .ref a4, .ref a5, .ref a6, .ref a7, .ref a8, .ref a9, .ref n0, .ref b0, .int (-1)])), (n0, .inr (3, [.ref l0, .ref l1, .int 0, .int 0]))]) [0, 1] (by decide) rfl
  have hKc := hK.sub (tys' := []) [] rfl
  refine vp_callSi (va_Run.run (va_runV (As := [.int k0]) (rest := []) ⟨hx, hb, hml, hown, hT⟩ (c_noKind l dC dI h0 a0 a1 a2 a3 a4 a5 a6 a7 a8 a9 n0 b0 l0 l1 s.heap.size k0) (cwV 1 hT (gV w606 w608 ws24 w1 w609) rfl rfl rfl (by decide +kernel) ⟨(Nat.le_of_ble_eq_true rfl), (Nat.le_of_ble_eq_true rfl)⟩) ⟨pcW.blind, va_recv hKc hPc (ci := 11) (q0 := 0) rfl rfl, pcW.pre hPc hKc hDc⟩ rfl rfl hl.1 rfl (lv_room (Nat.le_of_ble_eq_true rfl)) dX11_chain_2 ⟨(Nat.le_of_ble_eq_true rfl), (Nat.le_of_ble_eq_true rfl)⟩)) (fun r_2 hr_2 => ?_)
  obtain rfl : r_2 = 1 := hr_2
  refine lv_if_eq (tgt := 11) hx hb dX11_chain_5 (by decide) (fun h => absurd h (by decide)) (fun _ => ?_)
  refine lv_bipush (v := (-2)) hx hb dX11_chain_8 (by decide) ?_
  exact W.iret (v := (-2)) hx hb hr (fun t ht hW => ⟨(-2), rfl, rfl, ht⟩) (fun q h => by cases h) dX11_chain_10

set_option maxHeartbeats 4000000 in
set_option maxRecDepth 100000 in
theorem c_least (l : Launch) (dC : Nat → ClassId) (dI : Nat → Nat → Nat) (h0 : Nat) (a0 : Nat) (a1 : Nat) (a2 : Nat) (a3 : Nat) (a4 : Nat) (a5 : Nat) (a6 : Nat) (a7 : Nat) (a8 : Nat) (a9 : Nat) (n0 : Nat) (b0 : Nat) (l0 : Nat) (l1 : Nat) (sz : Nat) (k0 : Int32) : Met l yX11_least (wT yX11_least cX11_least 2 (some .int)) ({ frames := 1, cells := 0, slots := 0, locals := 21 }) (pcW dC dI [.ref h0, .int k0] sz [(h0, .inr (11, [.ref a0, .ref a1, .ref a2, .ref a3, .ref a4, .ref a5, .ref a6, .ref a7, .ref a8, .ref a9, .ref n0, .ref b0, .int (-1)])), (n0, .inr (3, [.ref l0, .ref l1, .int 0, .int 0]))] []) (vp_Si (fun r => r = (-2))) 0 0 (fun _ => False) := by
  refine Met.ofW (cc := cX11_least) (maxL := 2) (ret := (some .int)) (by decide) rfl ?_
  intro p e s m args below meth c s₁ B hml hv
  obtain ⟨rfl, hsz, hP, hK, hD0⟩ := hv
  have hx := B.exec
  have hb := B.bytes
  have hr := B.returns
  have hT : ∀ w ∈ TB, w.before [.ref h0, .int k0].toArray s = true := fun w h => atoms_spec (ws := wT yX11_least cX11_least 2 (some .int)) B.pre w (List.mem_cons_of_mem _ h)
  have hown : s.vm.findClass RX11 = some m.cls := findClass_of_methodNamed B.named
  have hlocks := B.notSynchronized
  subst hsz
  have hD := hD0
  have hP : va_P (dC, dI) vwCl [(h0, .inr (11, [.ref a0, .ref a1, .ref a2, .ref a3, .ref a4, .ref a5, .ref a6, .ref a7, .ref a8, .ref a9, .ref n0, .ref b0, .int (-1)])), (n0, .inr (3, [.ref l0, .ref l1, .int 0, .int 0]))] s.heap := hP
  have hl := lv_entry ([.ref h0, .int k0]) (n := 2) (Nat.le_of_ble_eq_true rfl)
  rw [lg_entry_eq]
  generalize (lg_sl ([.ref h0, .int k0]) ++ List.replicate (2 - (lg_sl ([.ref h0, .int k0])).length) Slot.unset).toArray = ls at hl ⊢
  have hl : lv_has ls 2 [(0, .ref h0), (1, .int k0)] := hl
  refine lv_aload_n hx hb dX11_least_0 rfl (lv_at hl 0 rfl) ?_
  refine lv_iload_n hx hb dX11_least_1 rfl (lv_at hl 1 rfl) ?_
  have hPc := hP.sub (ws' := [(h0, .inr (11, [.ref a0, .ref a1, .ref a2, .ref a3, .ref a4, .ref a5, .ref a6, .ref a7, .ref a8, .ref a9, .ref n0, .ref b0, .int (-1)])), (n0, .inr (3, [.ref l0, .ref l1, .int 0, .int 0]))]) [0, 1] rfl
  have hDc := hD.sub (ws' := [(h0, .inr (11, [.ref a0, .ref a1, .ref a2, .ref a3, .ref a4, .ref a5, .ref a6, .ref a7, .ref a8, .ref a9, .ref n0, .ref b0, .int (-1)])), (n0, .inr (3, [.ref l0, .ref l1, .int 0, .int 0]))]) [0, 1] (by decide) rfl
  have hKc := hK.sub (tys' := []) [] rfl
  refine vp_callSi (va_Run.run (va_runV (As := [.int k0]) (rest := []) ⟨hx, hb, hml, hown, hT⟩ (c_noKind l dC dI h0 a0 a1 a2 a3 a4 a5 a6 a7 a8 a9 n0 b0 l0 l1 s.heap.size k0) (cwV 1 hT (gV w606 w608 ws24 w1 w609) rfl rfl rfl (by decide +kernel) ⟨(Nat.le_of_ble_eq_true rfl), (Nat.le_of_ble_eq_true rfl)⟩) ⟨pcW.blind, va_recv hKc hPc (ci := 11) (q0 := 0) rfl rfl, pcW.pre hPc hKc hDc⟩ rfl rfl hl.1 rfl (lv_room (Nat.le_of_ble_eq_true rfl)) dX11_least_2 ⟨(Nat.le_of_ble_eq_true rfl), (Nat.le_of_ble_eq_true rfl)⟩)) (fun r_2 hr_2 => ?_)
  obtain rfl : r_2 = 1 := hr_2
  refine lv_if_eq (tgt := 11) hx hb dX11_least_5 (by decide) (fun h => absurd h (by decide)) (fun _ => ?_)
  refine lv_bipush (v := (-2)) hx hb dX11_least_8 (by decide) ?_
  exact W.iret (v := (-2)) hx hb hr (fun t ht hW => ⟨(-2), rfl, rfl, ht⟩) (fun q h => by cases h) dX11_least_10

set_option maxHeartbeats 4000000 in
set_option maxRecDepth 100000 in
theorem c_couples (l : Launch) (dC : Nat → ClassId) (dI : Nat → Nat → Nat) (h0 : Nat) (a0 : Nat) (a1 : Nat) (a2 : Nat) (a3 : Nat) (a4 : Nat) (a5 : Nat) (a6 : Nat) (a7 : Nat) (a8 : Nat) (a9 : Nat) (n0 : Nat) (b0 : Nat) (l0 : Nat) (l1 : Nat) (sz : Nat) (k0 : Int32) : Met l yX11_couples (wT yX11_couples cX11_couples 2 (some .int)) ({ frames := 1, cells := 0, slots := 0, locals := 21 }) (pcW dC dI [.ref h0, .int k0] sz [(h0, .inr (11, [.ref a0, .ref a1, .ref a2, .ref a3, .ref a4, .ref a5, .ref a6, .ref a7, .ref a8, .ref a9, .ref n0, .ref b0, .int (-1)])), (n0, .inr (3, [.ref l0, .ref l1, .int 0, .int 0]))] []) (vp_Si (fun r => r = (-2))) 0 0 (fun _ => False) := by
  refine Met.ofW (cc := cX11_couples) (maxL := 2) (ret := (some .int)) (by decide) rfl ?_
  intro p e s m args below meth c s₁ B hml hv
  obtain ⟨rfl, hsz, hP, hK, hD0⟩ := hv
  have hx := B.exec
  have hb := B.bytes
  have hr := B.returns
  have hT : ∀ w ∈ TB, w.before [.ref h0, .int k0].toArray s = true := fun w h => atoms_spec (ws := wT yX11_couples cX11_couples 2 (some .int)) B.pre w (List.mem_cons_of_mem _ h)
  have hown : s.vm.findClass RX11 = some m.cls := findClass_of_methodNamed B.named
  have hlocks := B.notSynchronized
  subst hsz
  have hD := hD0
  have hP : va_P (dC, dI) vwCl [(h0, .inr (11, [.ref a0, .ref a1, .ref a2, .ref a3, .ref a4, .ref a5, .ref a6, .ref a7, .ref a8, .ref a9, .ref n0, .ref b0, .int (-1)])), (n0, .inr (3, [.ref l0, .ref l1, .int 0, .int 0]))] s.heap := hP
  have hl := lv_entry ([.ref h0, .int k0]) (n := 2) (Nat.le_of_ble_eq_true rfl)
  rw [lg_entry_eq]
  generalize (lg_sl ([.ref h0, .int k0]) ++ List.replicate (2 - (lg_sl ([.ref h0, .int k0])).length) Slot.unset).toArray = ls at hl ⊢
  have hl : lv_has ls 2 [(0, .ref h0), (1, .int k0)] := hl
  refine lv_aload_n hx hb dX11_couples_0 rfl (lv_at hl 0 rfl) ?_
  refine lv_iload_n hx hb dX11_couples_1 rfl (lv_at hl 1 rfl) ?_
  have hPc := hP.sub (ws' := [(h0, .inr (11, [.ref a0, .ref a1, .ref a2, .ref a3, .ref a4, .ref a5, .ref a6, .ref a7, .ref a8, .ref a9, .ref n0, .ref b0, .int (-1)])), (n0, .inr (3, [.ref l0, .ref l1, .int 0, .int 0]))]) [0, 1] rfl
  have hDc := hD.sub (ws' := [(h0, .inr (11, [.ref a0, .ref a1, .ref a2, .ref a3, .ref a4, .ref a5, .ref a6, .ref a7, .ref a8, .ref a9, .ref n0, .ref b0, .int (-1)])), (n0, .inr (3, [.ref l0, .ref l1, .int 0, .int 0]))]) [0, 1] (by decide) rfl
  have hKc := hK.sub (tys' := []) [] rfl
  refine vp_callSi (va_Run.run (va_runV (As := [.int k0]) (rest := []) ⟨hx, hb, hml, hown, hT⟩ (c_noKind l dC dI h0 a0 a1 a2 a3 a4 a5 a6 a7 a8 a9 n0 b0 l0 l1 s.heap.size k0) (cwV 1 hT (gV w606 w608 ws24 w1 w609) rfl rfl rfl (by decide +kernel) ⟨(Nat.le_of_ble_eq_true rfl), (Nat.le_of_ble_eq_true rfl)⟩) ⟨pcW.blind, va_recv hKc hPc (ci := 11) (q0 := 0) rfl rfl, pcW.pre hPc hKc hDc⟩ rfl rfl hl.1 rfl (lv_room (Nat.le_of_ble_eq_true rfl)) dX11_couples_2 ⟨(Nat.le_of_ble_eq_true rfl), (Nat.le_of_ble_eq_true rfl)⟩)) (fun r_2 hr_2 => ?_)
  obtain rfl : r_2 = 1 := hr_2
  refine lv_if_eq (tgt := 11) hx hb dX11_couples_5 (by decide) (fun h => absurd h (by decide)) (fun _ => ?_)
  refine lv_bipush (v := (-2)) hx hb dX11_couples_8 (by decide) ?_
  exact W.iret (v := (-2)) hx hb hr (fun t ht hW => ⟨(-2), rfl, rfl, ht⟩) (fun q h => by cases h) dX11_couples_10

set_option maxHeartbeats 4000000 in
set_option maxRecDepth 100000 in
theorem c_relieved (l : Launch) (dC : Nat → ClassId) (dI : Nat → Nat → Nat) (h0 : Nat) (a0 : Nat) (a1 : Nat) (a2 : Nat) (a3 : Nat) (a4 : Nat) (a5 : Nat) (a6 : Nat) (a7 : Nat) (a8 : Nat) (a9 : Nat) (n0 : Nat) (b0 : Nat) (l0 : Nat) (l1 : Nat) (sz : Nat) (k0 : Int32) : Met l yX11_relieved (wT yX11_relieved cX11_relieved 8 (some .int)) ({ frames := 1, cells := 0, slots := 0, locals := 21 }) (pcW dC dI [.ref h0, .int k0] sz [(h0, .inr (11, [.ref a0, .ref a1, .ref a2, .ref a3, .ref a4, .ref a5, .ref a6, .ref a7, .ref a8, .ref a9, .ref n0, .ref b0, .int (-1)])), (n0, .inr (3, [.ref l0, .ref l1, .int 0, .int 0]))] []) (vp_Si (fun r => r = (-2))) 0 0 (fun _ => False) := by
  refine Met.ofW (cc := cX11_relieved) (maxL := 8) (ret := (some .int)) (by decide) rfl ?_
  intro p e s m args below meth c s₁ B hml hv
  obtain ⟨rfl, hsz, hP, hK, hD0⟩ := hv
  have hx := B.exec
  have hb := B.bytes
  have hr := B.returns
  have hT : ∀ w ∈ TB, w.before [.ref h0, .int k0].toArray s = true := fun w h => atoms_spec (ws := wT yX11_relieved cX11_relieved 8 (some .int)) B.pre w (List.mem_cons_of_mem _ h)
  have hown : s.vm.findClass RX11 = some m.cls := findClass_of_methodNamed B.named
  have hlocks := B.notSynchronized
  subst hsz
  have hD := hD0
  have hP : va_P (dC, dI) vwCl [(h0, .inr (11, [.ref a0, .ref a1, .ref a2, .ref a3, .ref a4, .ref a5, .ref a6, .ref a7, .ref a8, .ref a9, .ref n0, .ref b0, .int (-1)])), (n0, .inr (3, [.ref l0, .ref l1, .int 0, .int 0]))] s.heap := hP
  have hl := lv_entry ([.ref h0, .int k0]) (n := 8) (Nat.le_of_ble_eq_true rfl)
  rw [lg_entry_eq]
  generalize (lg_sl ([.ref h0, .int k0]) ++ List.replicate (8 - (lg_sl ([.ref h0, .int k0])).length) Slot.unset).toArray = ls at hl ⊢
  have hl : lv_has ls 8 [(0, .ref h0), (1, .int k0)] := hl
  refine lv_aload_n hx hb dX11_relieved_0 rfl (lv_at hl 0 rfl) ?_
  refine lv_iload_n hx hb dX11_relieved_1 rfl (lv_at hl 1 rfl) ?_
  have hPc := hP.sub (ws' := [(h0, .inr (11, [.ref a0, .ref a1, .ref a2, .ref a3, .ref a4, .ref a5, .ref a6, .ref a7, .ref a8, .ref a9, .ref n0, .ref b0, .int (-1)])), (n0, .inr (3, [.ref l0, .ref l1, .int 0, .int 0]))]) [0, 1] rfl
  have hDc := hD.sub (ws' := [(h0, .inr (11, [.ref a0, .ref a1, .ref a2, .ref a3, .ref a4, .ref a5, .ref a6, .ref a7, .ref a8, .ref a9, .ref n0, .ref b0, .int (-1)])), (n0, .inr (3, [.ref l0, .ref l1, .int 0, .int 0]))]) [0, 1] (by decide) rfl
  have hKc := hK.sub (tys' := []) [] rfl
  refine vp_callSi (va_Run.run (va_runV (As := [.int k0]) (rest := []) ⟨hx, hb, hml, hown, hT⟩ (c_noKind l dC dI h0 a0 a1 a2 a3 a4 a5 a6 a7 a8 a9 n0 b0 l0 l1 s.heap.size k0) (cwV 1 hT (gV w606 w608 ws24 w1 w609) rfl rfl rfl (by decide +kernel) ⟨(Nat.le_of_ble_eq_true rfl), (Nat.le_of_ble_eq_true rfl)⟩) ⟨pcW.blind, va_recv hKc hPc (ci := 11) (q0 := 0) rfl rfl, pcW.pre hPc hKc hDc⟩ rfl rfl hl.1 rfl (lv_room (Nat.le_of_ble_eq_true rfl)) dX11_relieved_2 ⟨(Nat.le_of_ble_eq_true rfl), (Nat.le_of_ble_eq_true rfl)⟩)) (fun r_2 hr_2 => ?_)
  obtain rfl : r_2 = 1 := hr_2
  refine lv_if_eq (tgt := 11) hx hb dX11_relieved_5 (by decide) (fun h => absurd h (by decide)) (fun _ => ?_)
  refine lv_bipush (v := (-2)) hx hb dX11_relieved_8 (by decide) ?_
  exact W.iret (v := (-2)) hx hb hr (fun t ht hW => ⟨(-2), rfl, rfl, ht⟩) (fun q h => by cases h) dX11_relieved_10

set_option maxHeartbeats 4000000 in
set_option maxRecDepth 100000 in
theorem c_fewest (l : Launch) (dC : Nat → ClassId) (dI : Nat → Nat → Nat) (h0 : Nat) (a0 : Nat) (a1 : Nat) (a2 : Nat) (a3 : Nat) (a4 : Nat) (a5 : Nat) (a6 : Nat) (a7 : Nat) (a8 : Nat) (a9 : Nat) (n0 : Nat) (b0 : Nat) (l0 : Nat) (l1 : Nat) (sz : Nat) (k0 : Int32) (k1 : Int32) : Met l yX11_fewest (wT yX11_fewest cX11_fewest 3 (some .int)) ({ frames := 1, cells := 0, slots := 0, locals := 21 }) (pcW dC dI [.ref h0, .int k0, .int k1] sz [(h0, .inr (11, [.ref a0, .ref a1, .ref a2, .ref a3, .ref a4, .ref a5, .ref a6, .ref a7, .ref a8, .ref a9, .ref n0, .ref b0, .int (-1)])), (n0, .inr (3, [.ref l0, .ref l1, .int 0, .int 0]))] []) (vp_Si (fun r => r = (-2))) 0 0 (fun _ => False) := by
  refine Met.ofW (cc := cX11_fewest) (maxL := 3) (ret := (some .int)) (by decide) rfl ?_
  intro p e s m args below meth c s₁ B hml hv
  obtain ⟨rfl, hsz, hP, hK, hD0⟩ := hv
  have hx := B.exec
  have hb := B.bytes
  have hr := B.returns
  have hT : ∀ w ∈ TB, w.before [.ref h0, .int k0, .int k1].toArray s = true := fun w h => atoms_spec (ws := wT yX11_fewest cX11_fewest 3 (some .int)) B.pre w (List.mem_cons_of_mem _ h)
  have hown : s.vm.findClass RX11 = some m.cls := findClass_of_methodNamed B.named
  have hlocks := B.notSynchronized
  subst hsz
  have hD := hD0
  have hP : va_P (dC, dI) vwCl [(h0, .inr (11, [.ref a0, .ref a1, .ref a2, .ref a3, .ref a4, .ref a5, .ref a6, .ref a7, .ref a8, .ref a9, .ref n0, .ref b0, .int (-1)])), (n0, .inr (3, [.ref l0, .ref l1, .int 0, .int 0]))] s.heap := hP
  have hl := lv_entry ([.ref h0, .int k0, .int k1]) (n := 3) (Nat.le_of_ble_eq_true rfl)
  rw [lg_entry_eq]
  generalize (lg_sl ([.ref h0, .int k0, .int k1]) ++ List.replicate (3 - (lg_sl ([.ref h0, .int k0, .int k1])).length) Slot.unset).toArray = ls at hl ⊢
  have hl : lv_has ls 3 [(0, .ref h0), (1, .int k0), (2, .int k1)] := hl
  refine lv_aload_n hx hb dX11_fewest_0 rfl (lv_at hl 0 rfl) ?_
  refine lv_iload_n hx hb dX11_fewest_1 rfl (lv_at hl 1 rfl) ?_
  have hPc := hP.sub (ws' := [(h0, .inr (11, [.ref a0, .ref a1, .ref a2, .ref a3, .ref a4, .ref a5, .ref a6, .ref a7, .ref a8, .ref a9, .ref n0, .ref b0, .int (-1)])), (n0, .inr (3, [.ref l0, .ref l1, .int 0, .int 0]))]) [0, 1] rfl
  have hDc := hD.sub (ws' := [(h0, .inr (11, [.ref a0, .ref a1, .ref a2, .ref a3, .ref a4, .ref a5, .ref a6, .ref a7, .ref a8, .ref a9, .ref n0, .ref b0, .int (-1)])), (n0, .inr (3, [.ref l0, .ref l1, .int 0, .int 0]))]) [0, 1] (by decide) rfl
  have hKc := hK.sub (tys' := []) [] rfl
  refine vp_callSi (va_Run.run (va_runV (As := [.int k0]) (rest := []) ⟨hx, hb, hml, hown, hT⟩ (c_noKind l dC dI h0 a0 a1 a2 a3 a4 a5 a6 a7 a8 a9 n0 b0 l0 l1 s.heap.size k0) (cwV 1 hT (gV w606 w608 ws24 w1 w609) rfl rfl rfl (by decide +kernel) ⟨(Nat.le_of_ble_eq_true rfl), (Nat.le_of_ble_eq_true rfl)⟩) ⟨pcW.blind, va_recv hKc hPc (ci := 11) (q0 := 0) rfl rfl, pcW.pre hPc hKc hDc⟩ rfl rfl hl.1 rfl (lv_room (Nat.le_of_ble_eq_true rfl)) dX11_fewest_2 ⟨(Nat.le_of_ble_eq_true rfl), (Nat.le_of_ble_eq_true rfl)⟩)) (fun r_2 hr_2 => ?_)
  obtain rfl : r_2 = 1 := hr_2
  refine lv_if_eq (tgt := 11) hx hb dX11_fewest_5 (by decide) (fun h => absurd h (by decide)) (fun _ => ?_)
  refine lv_bipush (v := (-2)) hx hb dX11_fewest_8 (by decide) ?_
  exact W.iret (v := (-2)) hx hb hr (fun t ht hW => ⟨(-2), rfl, rfl, ht⟩) (fun q h => by cases h) dX11_fewest_10

set_option maxHeartbeats 4000000 in
set_option maxRecDepth 100000 in
theorem c_even (l : Launch) (dC : Nat → ClassId) (dI : Nat → Nat → Nat) (h0 : Nat) (a0 : Nat) (a1 : Nat) (a2 : Nat) (a3 : Nat) (a4 : Nat) (a5 : Nat) (a6 : Nat) (a7 : Nat) (a8 : Nat) (a9 : Nat) (n0 : Nat) (b0 : Nat) (l0 : Nat) (l1 : Nat) (sz : Nat) (k0 : Int32) (k1 : Int32) : Met l yX11_even (wT yX11_even cX11_even 6 (some .int)) ({ frames := 1, cells := 0, slots := 0, locals := 21 }) (pcW dC dI [.ref h0, .int k0, .int k1] sz [(h0, .inr (11, [.ref a0, .ref a1, .ref a2, .ref a3, .ref a4, .ref a5, .ref a6, .ref a7, .ref a8, .ref a9, .ref n0, .ref b0, .int (-1)])), (n0, .inr (3, [.ref l0, .ref l1, .int 0, .int 0]))] []) (vp_Si (fun r => r = (-2))) 0 0 (fun _ => False) := by
  refine Met.ofW (cc := cX11_even) (maxL := 6) (ret := (some .int)) (by decide) rfl ?_
  intro p e s m args below meth c s₁ B hml hv
  obtain ⟨rfl, hsz, hP, hK, hD0⟩ := hv
  have hx := B.exec
  have hb := B.bytes
  have hr := B.returns
  have hT : ∀ w ∈ TB, w.before [.ref h0, .int k0, .int k1].toArray s = true := fun w h => atoms_spec (ws := wT yX11_even cX11_even 6 (some .int)) B.pre w (List.mem_cons_of_mem _ h)
  have hown : s.vm.findClass RX11 = some m.cls := findClass_of_methodNamed B.named
  have hlocks := B.notSynchronized
  subst hsz
  have hD := hD0
  have hP : va_P (dC, dI) vwCl [(h0, .inr (11, [.ref a0, .ref a1, .ref a2, .ref a3, .ref a4, .ref a5, .ref a6, .ref a7, .ref a8, .ref a9, .ref n0, .ref b0, .int (-1)])), (n0, .inr (3, [.ref l0, .ref l1, .int 0, .int 0]))] s.heap := hP
  have hl := lv_entry ([.ref h0, .int k0, .int k1]) (n := 6) (Nat.le_of_ble_eq_true rfl)
  rw [lg_entry_eq]
  generalize (lg_sl ([.ref h0, .int k0, .int k1]) ++ List.replicate (6 - (lg_sl ([.ref h0, .int k0, .int k1])).length) Slot.unset).toArray = ls at hl ⊢
  have hl : lv_has ls 6 [(0, .ref h0), (1, .int k0), (2, .int k1)] := hl
  refine lv_aload_n hx hb dX11_even_0 rfl (lv_at hl 0 rfl) ?_
  refine lv_iload_n hx hb dX11_even_1 rfl (lv_at hl 2 rfl) ?_
  have hPc := hP.sub (ws' := [(h0, .inr (11, [.ref a0, .ref a1, .ref a2, .ref a3, .ref a4, .ref a5, .ref a6, .ref a7, .ref a8, .ref a9, .ref n0, .ref b0, .int (-1)])), (n0, .inr (3, [.ref l0, .ref l1, .int 0, .int 0]))]) [0, 1] rfl
  have hDc := hD.sub (ws' := [(h0, .inr (11, [.ref a0, .ref a1, .ref a2, .ref a3, .ref a4, .ref a5, .ref a6, .ref a7, .ref a8, .ref a9, .ref n0, .ref b0, .int (-1)])), (n0, .inr (3, [.ref l0, .ref l1, .int 0, .int 0]))]) [0, 1] (by decide) rfl
  have hKc := hK.sub (tys' := []) [] rfl
  refine vp_callSi (va_Run.run (va_runV (As := [.int k1]) (rest := []) ⟨hx, hb, hml, hown, hT⟩ (c_noKind l dC dI h0 a0 a1 a2 a3 a4 a5 a6 a7 a8 a9 n0 b0 l0 l1 s.heap.size k1) (cwV 1 hT (gV w606 w608 ws24 w1 w609) rfl rfl rfl (by decide +kernel) ⟨(Nat.le_of_ble_eq_true rfl), (Nat.le_of_ble_eq_true rfl)⟩) ⟨pcW.blind, va_recv hKc hPc (ci := 11) (q0 := 0) rfl rfl, pcW.pre hPc hKc hDc⟩ rfl rfl hl.1 rfl (lv_room (Nat.le_of_ble_eq_true rfl)) dX11_even_2 ⟨(Nat.le_of_ble_eq_true rfl), (Nat.le_of_ble_eq_true rfl)⟩)) (fun r_2 hr_2 => ?_)
  obtain rfl : r_2 = 1 := hr_2
  refine lv_if_ne (tgt := 20) hx hb dX11_even_5 (by decide) (fun _ => ?_) (fun h => absurd h (by decide))
  refine lv_bipush (v := (-2)) hx hb dX11_even_20 (by decide) ?_
  exact W.iret (v := (-2)) hx hb hr (fun t ht hW => ⟨(-2), rfl, rfl, ht⟩) (fun q h => by cases h) dX11_even_22

set_option maxHeartbeats 4000000 in
set_option maxRecDepth 100000 in
theorem c_drop (l : Launch) (dC : Nat → ClassId) (dI : Nat → Nat → Nat) (h0 : Nat) (a0 : Nat) (a1 : Nat) (a2 : Nat) (a3 : Nat) (a4 : Nat) (a5 : Nat) (a6 : Nat) (a7 : Nat) (a8 : Nat) (a9 : Nat) (n0 : Nat) (b0 : Nat) (e0 : Nat) (e1 : Nat) (e2 : Nat) (e3 : Nat) (e4 : Nat) (e5 : Nat) (sz : Nat) (k0 : Int32) : Met l yX11_drop (wT yX11_drop cX11_drop 2 (some .int)) ({ frames := 1, cells := 0, slots := 0, locals := 21 }) (pcW dC dI [.ref h0, .int k0] sz [(h0, .inr (11, [.ref a0, .ref a1, .ref a2, .ref a3, .ref a4, .ref a5, .ref a6, .ref a7, .ref a8, .ref a9, .ref n0, .ref b0, .int (-1)])), (b0, .inr (0, [.ref e0, .ref e1, .ref e2, .ref e3, .ref e4, .ref e5, .int 0, .int 0]))] []) (vp_Si (fun r => r = (-2))) 0 0 (fun _ => False) := by
  refine Met.ofW (cc := cX11_drop) (maxL := 2) (ret := (some .int)) (by decide) rfl ?_
  intro p e s m args below meth c s₁ B hml hv
  obtain ⟨rfl, hsz, hP, hK, hD0⟩ := hv
  have hx := B.exec
  have hb := B.bytes
  have hr := B.returns
  have hT : ∀ w ∈ TB, w.before [.ref h0, .int k0].toArray s = true := fun w h => atoms_spec (ws := wT yX11_drop cX11_drop 2 (some .int)) B.pre w (List.mem_cons_of_mem _ h)
  have hown : s.vm.findClass RX11 = some m.cls := findClass_of_methodNamed B.named
  have hlocks := B.notSynchronized
  subst hsz
  have hD := hD0
  have hP : va_P (dC, dI) vwCl [(h0, .inr (11, [.ref a0, .ref a1, .ref a2, .ref a3, .ref a4, .ref a5, .ref a6, .ref a7, .ref a8, .ref a9, .ref n0, .ref b0, .int (-1)])), (b0, .inr (0, [.ref e0, .ref e1, .ref e2, .ref e3, .ref e4, .ref e5, .int 0, .int 0]))] s.heap := hP
  have hl := lv_entry ([.ref h0, .int k0]) (n := 2) (Nat.le_of_ble_eq_true rfl)
  rw [lg_entry_eq]
  generalize (lg_sl ([.ref h0, .int k0]) ++ List.replicate (2 - (lg_sl ([.ref h0, .int k0])).length) Slot.unset).toArray = ls at hl ⊢
  have hl : lv_has ls 2 [(0, .ref h0), (1, .int k0)] := hl
  refine lv_aload_n hx hb dX11_drop_0 rfl (lv_at hl 0 rfl) ?_
  refine lv_iload_n hx hb dX11_drop_1 rfl (lv_at hl 1 rfl) ?_
  have hPc := hP.sub (ws' := [(h0, .inr (11, [.ref a0, .ref a1, .ref a2, .ref a3, .ref a4, .ref a5, .ref a6, .ref a7, .ref a8, .ref a9, .ref n0, .ref b0, .int (-1)])), (b0, .inr (0, [.ref e0, .ref e1, .ref e2, .ref e3, .ref e4, .ref e5, .int 0, .int 0]))]) [0, 1] rfl
  have hDc := hD.sub (ws' := [(h0, .inr (11, [.ref a0, .ref a1, .ref a2, .ref a3, .ref a4, .ref a5, .ref a6, .ref a7, .ref a8, .ref a9, .ref n0, .ref b0, .int (-1)])), (b0, .inr (0, [.ref e0, .ref e1, .ref e2, .ref e3, .ref e4, .ref e5, .int 0, .int 0]))]) [0, 1] (by decide) rfl
  have hKc := hK.sub (tys' := []) [] rfl
  refine vp_callSi (va_Run.run (va_runV (As := [.int k0]) (rest := []) ⟨hx, hb, hml, hown, hT⟩ (c_noTrade l dC dI h0 a0 a1 a2 a3 a4 a5 a6 a7 a8 a9 n0 b0 e0 e1 e2 e3 e4 e5 s.heap.size k0) (cwV 1 hT (gV w639 w641 ws28 w1 w642) rfl rfl rfl (by decide +kernel) ⟨(Nat.le_of_ble_eq_true rfl), (Nat.le_of_ble_eq_true rfl)⟩) ⟨pcW.blind, va_recv hKc hPc (ci := 11) (q0 := 0) rfl rfl, pcW.pre hPc hKc hDc⟩ rfl rfl hl.1 rfl (lv_room (Nat.le_of_ble_eq_true rfl)) dX11_drop_2 ⟨(Nat.le_of_ble_eq_true rfl), (Nat.le_of_ble_eq_true rfl)⟩)) (fun r_2 hr_2 => ?_)
  obtain rfl : r_2 = 1 := hr_2
  refine lv_if_eq (tgt := 11) hx hb dX11_drop_5 (by decide) (fun h => absurd h (by decide)) (fun _ => ?_)
  refine lv_bipush (v := (-2)) hx hb dX11_drop_8 (by decide) ?_
  exact W.iret (v := (-2)) hx hb hr (fun t ht hW => ⟨(-2), rfl, rfl, ht⟩) (fun q h => by cases h) dX11_drop_10

set_option maxHeartbeats 4000000 in
set_option maxRecDepth 100000 in
theorem c_keep (l : Launch) (dC : Nat → ClassId) (dI : Nat → Nat → Nat) (h0 : Nat) (a0 : Nat) (a1 : Nat) (a2 : Nat) (a3 : Nat) (a4 : Nat) (a5 : Nat) (a6 : Nat) (a7 : Nat) (a8 : Nat) (a9 : Nat) (n0 : Nat) (b0 : Nat) (e0 : Nat) (e1 : Nat) (e2 : Nat) (e3 : Nat) (e4 : Nat) (e5 : Nat) (sz : Nat) (k0 : Int32) : Met l yX11_keep (wT yX11_keep cX11_keep 2 (some .int)) ({ frames := 1, cells := 0, slots := 0, locals := 21 }) (pcW dC dI [.ref h0, .int k0] sz [(h0, .inr (11, [.ref a0, .ref a1, .ref a2, .ref a3, .ref a4, .ref a5, .ref a6, .ref a7, .ref a8, .ref a9, .ref n0, .ref b0, .int (-1)])), (b0, .inr (0, [.ref e0, .ref e1, .ref e2, .ref e3, .ref e4, .ref e5, .int 0, .int 0]))] []) (vp_Si (fun r => r = (-2))) 0 0 (fun _ => False) := by
  refine Met.ofW (cc := cX11_keep) (maxL := 2) (ret := (some .int)) (by decide) rfl ?_
  intro p e s m args below meth c s₁ B hml hv
  obtain ⟨rfl, hsz, hP, hK, hD0⟩ := hv
  have hx := B.exec
  have hb := B.bytes
  have hr := B.returns
  have hT : ∀ w ∈ TB, w.before [.ref h0, .int k0].toArray s = true := fun w h => atoms_spec (ws := wT yX11_keep cX11_keep 2 (some .int)) B.pre w (List.mem_cons_of_mem _ h)
  have hown : s.vm.findClass RX11 = some m.cls := findClass_of_methodNamed B.named
  have hlocks := B.notSynchronized
  subst hsz
  have hD := hD0
  have hP : va_P (dC, dI) vwCl [(h0, .inr (11, [.ref a0, .ref a1, .ref a2, .ref a3, .ref a4, .ref a5, .ref a6, .ref a7, .ref a8, .ref a9, .ref n0, .ref b0, .int (-1)])), (b0, .inr (0, [.ref e0, .ref e1, .ref e2, .ref e3, .ref e4, .ref e5, .int 0, .int 0]))] s.heap := hP
  have hl := lv_entry ([.ref h0, .int k0]) (n := 2) (Nat.le_of_ble_eq_true rfl)
  rw [lg_entry_eq]
  generalize (lg_sl ([.ref h0, .int k0]) ++ List.replicate (2 - (lg_sl ([.ref h0, .int k0])).length) Slot.unset).toArray = ls at hl ⊢
  have hl : lv_has ls 2 [(0, .ref h0), (1, .int k0)] := hl
  refine lv_aload_n hx hb dX11_keep_0 rfl (lv_at hl 0 rfl) ?_
  refine lv_iload_n hx hb dX11_keep_1 rfl (lv_at hl 1 rfl) ?_
  have hPc := hP.sub (ws' := [(h0, .inr (11, [.ref a0, .ref a1, .ref a2, .ref a3, .ref a4, .ref a5, .ref a6, .ref a7, .ref a8, .ref a9, .ref n0, .ref b0, .int (-1)])), (b0, .inr (0, [.ref e0, .ref e1, .ref e2, .ref e3, .ref e4, .ref e5, .int 0, .int 0]))]) [0, 1] rfl
  have hDc := hD.sub (ws' := [(h0, .inr (11, [.ref a0, .ref a1, .ref a2, .ref a3, .ref a4, .ref a5, .ref a6, .ref a7, .ref a8, .ref a9, .ref n0, .ref b0, .int (-1)])), (b0, .inr (0, [.ref e0, .ref e1, .ref e2, .ref e3, .ref e4, .ref e5, .int 0, .int 0]))]) [0, 1] (by decide) rfl
  have hKc := hK.sub (tys' := []) [] rfl
  refine vp_callSi (va_Run.run (va_runV (As := [.int k0]) (rest := []) ⟨hx, hb, hml, hown, hT⟩ (c_noTrade l dC dI h0 a0 a1 a2 a3 a4 a5 a6 a7 a8 a9 n0 b0 e0 e1 e2 e3 e4 e5 s.heap.size k0) (cwV 1 hT (gV w639 w641 ws28 w1 w642) rfl rfl rfl (by decide +kernel) ⟨(Nat.le_of_ble_eq_true rfl), (Nat.le_of_ble_eq_true rfl)⟩) ⟨pcW.blind, va_recv hKc hPc (ci := 11) (q0 := 0) rfl rfl, pcW.pre hPc hKc hDc⟩ rfl rfl hl.1 rfl (lv_room (Nat.le_of_ble_eq_true rfl)) dX11_keep_2 ⟨(Nat.le_of_ble_eq_true rfl), (Nat.le_of_ble_eq_true rfl)⟩)) (fun r_2 hr_2 => ?_)
  obtain rfl : r_2 = 1 := hr_2
  refine lv_if_eq (tgt := 11) hx hb dX11_keep_5 (by decide) (fun h => absurd h (by decide)) (fun _ => ?_)
  refine lv_bipush (v := (-2)) hx hb dX11_keep_8 (by decide) ?_
  exact W.iret (v := (-2)) hx hb hr (fun t ht hW => ⟨(-2), rfl, rfl, ht⟩) (fun q h => by cases h) dX11_keep_10

set_option maxHeartbeats 4000000 in
set_option maxRecDepth 100000 in
theorem c_tradeOf (l : Launch) (dC : Nat → ClassId) (dI : Nat → Nat → Nat) (h0 : Nat) (a0 : Nat) (a1 : Nat) (a2 : Nat) (a3 : Nat) (a4 : Nat) (a5 : Nat) (a6 : Nat) (a7 : Nat) (a8 : Nat) (a9 : Nat) (n0 : Nat) (b0 : Nat) (e0 : Nat) (e1 : Nat) (e2 : Nat) (e3 : Nat) (e4 : Nat) (e5 : Nat) (sz : Nat) (k0 : Int32) (k1 : Int32) : Met l yX11_tradeOf (wT yX11_tradeOf cX11_tradeOf 3 (some .int)) ({ frames := 1, cells := 0, slots := 0, locals := 21 }) (pcW dC dI [.ref h0, .int k0, .int k1] sz [(h0, .inr (11, [.ref a0, .ref a1, .ref a2, .ref a3, .ref a4, .ref a5, .ref a6, .ref a7, .ref a8, .ref a9, .ref n0, .ref b0, .int (-1)])), (b0, .inr (0, [.ref e0, .ref e1, .ref e2, .ref e3, .ref e4, .ref e5, .int 0, .int 0]))] []) (vp_Si (fun r => r = (-2))) 0 0 (fun _ => False) := by
  refine Met.ofW (cc := cX11_tradeOf) (maxL := 3) (ret := (some .int)) (by decide) rfl ?_
  intro p e s m args below meth c s₁ B hml hv
  obtain ⟨rfl, hsz, hP, hK, hD0⟩ := hv
  have hx := B.exec
  have hb := B.bytes
  have hr := B.returns
  have hT : ∀ w ∈ TB, w.before [.ref h0, .int k0, .int k1].toArray s = true := fun w h => atoms_spec (ws := wT yX11_tradeOf cX11_tradeOf 3 (some .int)) B.pre w (List.mem_cons_of_mem _ h)
  have hown : s.vm.findClass RX11 = some m.cls := findClass_of_methodNamed B.named
  have hlocks := B.notSynchronized
  subst hsz
  have hD := hD0
  have hP : va_P (dC, dI) vwCl [(h0, .inr (11, [.ref a0, .ref a1, .ref a2, .ref a3, .ref a4, .ref a5, .ref a6, .ref a7, .ref a8, .ref a9, .ref n0, .ref b0, .int (-1)])), (b0, .inr (0, [.ref e0, .ref e1, .ref e2, .ref e3, .ref e4, .ref e5, .int 0, .int 0]))] s.heap := hP
  have hl := lv_entry ([.ref h0, .int k0, .int k1]) (n := 3) (Nat.le_of_ble_eq_true rfl)
  rw [lg_entry_eq]
  generalize (lg_sl ([.ref h0, .int k0, .int k1]) ++ List.replicate (3 - (lg_sl ([.ref h0, .int k0, .int k1])).length) Slot.unset).toArray = ls at hl ⊢
  have hl : lv_has ls 3 [(0, .ref h0), (1, .int k0), (2, .int k1)] := hl
  refine lv_aload_n hx hb dX11_tradeOf_0 rfl (lv_at hl 0 rfl) ?_
  refine lv_iload_n hx hb dX11_tradeOf_1 rfl (lv_at hl 1 rfl) ?_
  have hPc := hP.sub (ws' := [(h0, .inr (11, [.ref a0, .ref a1, .ref a2, .ref a3, .ref a4, .ref a5, .ref a6, .ref a7, .ref a8, .ref a9, .ref n0, .ref b0, .int (-1)])), (b0, .inr (0, [.ref e0, .ref e1, .ref e2, .ref e3, .ref e4, .ref e5, .int 0, .int 0]))]) [0, 1] rfl
  have hDc := hD.sub (ws' := [(h0, .inr (11, [.ref a0, .ref a1, .ref a2, .ref a3, .ref a4, .ref a5, .ref a6, .ref a7, .ref a8, .ref a9, .ref n0, .ref b0, .int (-1)])), (b0, .inr (0, [.ref e0, .ref e1, .ref e2, .ref e3, .ref e4, .ref e5, .int 0, .int 0]))]) [0, 1] (by decide) rfl
  have hKc := hK.sub (tys' := []) [] rfl
  refine vp_callSi (va_Run.run (va_runV (As := [.int k0]) (rest := []) ⟨hx, hb, hml, hown, hT⟩ (c_noTrade l dC dI h0 a0 a1 a2 a3 a4 a5 a6 a7 a8 a9 n0 b0 e0 e1 e2 e3 e4 e5 s.heap.size k0) (cwV 1 hT (gV w639 w641 ws28 w1 w642) rfl rfl rfl (by decide +kernel) ⟨(Nat.le_of_ble_eq_true rfl), (Nat.le_of_ble_eq_true rfl)⟩) ⟨pcW.blind, va_recv hKc hPc (ci := 11) (q0 := 0) rfl rfl, pcW.pre hPc hKc hDc⟩ rfl rfl hl.1 rfl (lv_room (Nat.le_of_ble_eq_true rfl)) dX11_tradeOf_2 ⟨(Nat.le_of_ble_eq_true rfl), (Nat.le_of_ble_eq_true rfl)⟩)) (fun r_2 hr_2 => ?_)
  obtain rfl : r_2 = 1 := hr_2
  refine lv_if_eq (tgt := 11) hx hb dX11_tradeOf_5 (by decide) (fun h => absurd h (by decide)) (fun _ => ?_)
  refine lv_bipush (v := (-2)) hx hb dX11_tradeOf_8 (by decide) ?_
  exact W.iret (v := (-2)) hx hb hr (fun t ht hW => ⟨(-2), rfl, rfl, ht⟩) (fun q h => by cases h) dX11_tradeOf_10

set_option maxHeartbeats 4000000 in
set_option maxRecDepth 100000 in
theorem c_line (l : Launch) (dC : Nat → ClassId) (dI : Nat → Nat → Nat) (h0 : Nat) (a0 : Nat) (a1 : Nat) (a2 : Nat) (a3 : Nat) (a4 : Nat) (a5 : Nat) (a6 : Nat) (a7 : Nat) (a8 : Nat) (a9 : Nat) (n0 : Nat) (b0 : Nat) (e0 : Nat) (e1 : Nat) (e2 : Nat) (e3 : Nat) (e4 : Nat) (e5 : Nat) (sz : Nat) (k0 : Int32) (k1 : Int32) : Met l yX11_line (wT yX11_line cX11_line 3 (some .int)) ({ frames := 1, cells := 0, slots := 0, locals := 21 }) (pcW dC dI [.ref h0, .int k0, .int k1] sz [(h0, .inr (11, [.ref a0, .ref a1, .ref a2, .ref a3, .ref a4, .ref a5, .ref a6, .ref a7, .ref a8, .ref a9, .ref n0, .ref b0, .int (-1)])), (b0, .inr (0, [.ref e0, .ref e1, .ref e2, .ref e3, .ref e4, .ref e5, .int 0, .int 0]))] []) (vp_Si (fun r => r = (-2))) 0 0 (fun _ => False) := by
  refine Met.ofW (cc := cX11_line) (maxL := 3) (ret := (some .int)) (by decide) rfl ?_
  intro p e s m args below meth c s₁ B hml hv
  obtain ⟨rfl, hsz, hP, hK, hD0⟩ := hv
  have hx := B.exec
  have hb := B.bytes
  have hr := B.returns
  have hT : ∀ w ∈ TB, w.before [.ref h0, .int k0, .int k1].toArray s = true := fun w h => atoms_spec (ws := wT yX11_line cX11_line 3 (some .int)) B.pre w (List.mem_cons_of_mem _ h)
  have hown : s.vm.findClass RX11 = some m.cls := findClass_of_methodNamed B.named
  have hlocks := B.notSynchronized
  subst hsz
  have hD := hD0
  have hP : va_P (dC, dI) vwCl [(h0, .inr (11, [.ref a0, .ref a1, .ref a2, .ref a3, .ref a4, .ref a5, .ref a6, .ref a7, .ref a8, .ref a9, .ref n0, .ref b0, .int (-1)])), (b0, .inr (0, [.ref e0, .ref e1, .ref e2, .ref e3, .ref e4, .ref e5, .int 0, .int 0]))] s.heap := hP
  have hl := lv_entry ([.ref h0, .int k0, .int k1]) (n := 3) (Nat.le_of_ble_eq_true rfl)
  rw [lg_entry_eq]
  generalize (lg_sl ([.ref h0, .int k0, .int k1]) ++ List.replicate (3 - (lg_sl ([.ref h0, .int k0, .int k1])).length) Slot.unset).toArray = ls at hl ⊢
  have hl : lv_has ls 3 [(0, .ref h0), (1, .int k0), (2, .int k1)] := hl
  refine lv_aload_n hx hb dX11_line_0 rfl (lv_at hl 0 rfl) ?_
  refine lv_iload_n hx hb dX11_line_1 rfl (lv_at hl 1 rfl) ?_
  have hPc := hP.sub (ws' := [(h0, .inr (11, [.ref a0, .ref a1, .ref a2, .ref a3, .ref a4, .ref a5, .ref a6, .ref a7, .ref a8, .ref a9, .ref n0, .ref b0, .int (-1)])), (b0, .inr (0, [.ref e0, .ref e1, .ref e2, .ref e3, .ref e4, .ref e5, .int 0, .int 0]))]) [0, 1] rfl
  have hDc := hD.sub (ws' := [(h0, .inr (11, [.ref a0, .ref a1, .ref a2, .ref a3, .ref a4, .ref a5, .ref a6, .ref a7, .ref a8, .ref a9, .ref n0, .ref b0, .int (-1)])), (b0, .inr (0, [.ref e0, .ref e1, .ref e2, .ref e3, .ref e4, .ref e5, .int 0, .int 0]))]) [0, 1] (by decide) rfl
  have hKc := hK.sub (tys' := []) [] rfl
  refine vp_callSi (va_Run.run (va_runV (As := [.int k0]) (rest := []) ⟨hx, hb, hml, hown, hT⟩ (c_noTrade l dC dI h0 a0 a1 a2 a3 a4 a5 a6 a7 a8 a9 n0 b0 e0 e1 e2 e3 e4 e5 s.heap.size k0) (cwV 1 hT (gV w639 w641 ws28 w1 w642) rfl rfl rfl (by decide +kernel) ⟨(Nat.le_of_ble_eq_true rfl), (Nat.le_of_ble_eq_true rfl)⟩) ⟨pcW.blind, va_recv hKc hPc (ci := 11) (q0 := 0) rfl rfl, pcW.pre hPc hKc hDc⟩ rfl rfl hl.1 rfl (lv_room (Nat.le_of_ble_eq_true rfl)) dX11_line_2 ⟨(Nat.le_of_ble_eq_true rfl), (Nat.le_of_ble_eq_true rfl)⟩)) (fun r_2 hr_2 => ?_)
  obtain rfl : r_2 = 1 := hr_2
  refine lv_if_eq (tgt := 11) hx hb dX11_line_5 (by decide) (fun h => absurd h (by decide)) (fun _ => ?_)
  refine lv_bipush (v := (-2)) hx hb dX11_line_8 (by decide) ?_
  exact W.iret (v := (-2)) hx hb hr (fun t ht hW => ⟨(-2), rfl, rfl, ht⟩) (fun q h => by cases h) dX11_line_10
end
section
set_option maxHeartbeats 4000000 in
set_option maxRecDepth 100000 in
theorem m_trade (l : Launch) (dC : Nat → ClassId) (dI : Nat → Nat → Nat) (m0 : Nat) (g0 : Nat) (g1 : Nat) (g2 : Nat) (g3 : Nat) (g4 : Nat) (g9 : Nat) (g17 : Nat) (g18 : Nat) (g20 : Nat) (g21 : Nat) (g22 : Nat) (g23 : Nat) (g24 : Nat) (g25 : Nat) (g26 : Nat) (g27 : Nat) (g28 : Nat) (g29 : Nat) (g30 : Nat) (sz : Nat) (k0 : Int32) (k1 : Int32) (k2 : Int32) (k3 : Int32) : Met l yX12_trade (wT yX12_trade cX12_trade 5 (some .int)) ({ frames := 3, cells := 0, slots := 0, locals := 68 }) (pcW dC dI [.ref m0, .int k0, .int k1, .int k2, .int k3] sz [(m0, .inr (12, [.ref g0, .ref g1, .ref g2, .ref g3, .ref g4, .int 0, .int 0, .int 0, .int 0, .ref g9, .int 0, .int 0, .int 0, .int 0, .int (-1), .int 0, .int 0, .ref g17, .ref g18, .int 0, .ref g20, .ref g21, .ref g22, .ref g23, .ref g24, .ref g25, .ref g26, .ref g27, .ref g28, .ref g29, .ref g30, .int 0]))] []) (va_Qi (fun (r : Int32) (_ : Unit) => r = (-2)) (fun _ _ => True) (va_A [(m0, .inr (12, [.ref g0, .ref g1, .ref g2, .ref g3, .ref g4, .int 0, .int 0, .int 0, .int 0, .ref g9, .int 0, .int 0, .int 0, .int 0, .int (-1), .int 0, .int 0, .ref g17, .ref g18, .int 0, .ref g20, .ref g21, .ref g22, .ref g23, .ref g24, .ref g25, .ref g26, .ref g27, .ref g28, .ref g29, .ref g30, .int 0]))] sz)) 0 0 (va_A [(m0, .inr (12, [.ref g0, .ref g1, .ref g2, .ref g3, .ref g4, .int 0, .int 0, .int 0, .int 0, .ref g9, .int 0, .int 0, .int 0, .int 0, .int (-1), .int 0, .int 0, .ref g17, .ref g18, .int 0, .ref g20, .ref g21, .ref g22, .ref g23, .ref g24, .ref g25, .ref g26, .ref g27, .ref g28, .ref g29, .ref g30, .int 0]))] sz) := by
  refine Met.ofW (cc := cX12_trade) (maxL := 5) (ret := (some .int)) (by decide) rfl ?_
  intro p e s m args below meth c s₁ B hml hv
  obtain ⟨rfl, hsz, hP, hK, hD0⟩ := hv
  have hx := B.exec
  have hb := B.bytes
  have hr := B.returns
  have hT : ∀ w ∈ TB, w.before [.ref m0, .int k0, .int k1, .int k2, .int k3].toArray s = true := fun w h => atoms_spec (ws := wT yX12_trade cX12_trade 5 (some .int)) B.pre w (List.mem_cons_of_mem _ h)
  have hown : s.vm.findClass RX12 = some m.cls := findClass_of_methodNamed B.named
  have hlocks := B.notSynchronized
  subst hsz
  have hD := hD0.self (sz := s.heap.size)
  generalize hAe : va_A [(m0, .inr (12, [.ref g0, .ref g1, .ref g2, .ref g3, .ref g4, .int 0, .int 0, .int 0, .int 0, .ref g9, .int 0, .int 0, .int 0, .int 0, .int (-1), .int 0, .int 0, .ref g17, .ref g18, .int 0, .ref g20, .ref g21, .ref g22, .ref g23, .ref g24, .ref g25, .ref g26, .ref g27, .ref g28, .ref g29, .ref g30, .int 0]))] s.heap.size = A at hD ⊢
  have hA : ∀ q : Nat, s.heap.size ≤ q → A q := fun q h => by rw [← hAe]; exact Or.inr h
  have hS : va_S A s.heap s.heap [] := va_S.rf
  have hP : va_P (dC, dI) vwCl [(m0, .inr (12, [.ref g0, .ref g1, .ref g2, .ref g3, .ref g4, .int 0, .int 0, .int 0, .int 0, .ref g9, .int 0, .int 0, .int 0, .int 0, .int (-1), .int 0, .int 0, .ref g17, .ref g18, .int 0, .ref g20, .ref g21, .ref g22, .ref g23, .ref g24, .ref g25, .ref g26, .ref g27, .ref g28, .ref g29, .ref g30, .int 0]))] s.heap := hP
  have hl := lv_entry ([.ref m0, .int k0, .int k1, .int k2, .int k3]) (n := 5) (Nat.le_of_ble_eq_true rfl)
  rw [lg_entry_eq]
  generalize (lg_sl ([.ref m0, .int k0, .int k1, .int k2, .int k3]) ++ List.replicate (5 - (lg_sl ([.ref m0, .int k0, .int k1, .int k2, .int k3])).length) Slot.unset).toArray = ls at hl ⊢
  have hl : lv_has ls 5 [(0, .ref m0), (1, .int k0), (2, .int k1), (3, .int k2), (4, .int k3)] := hl
  refine lv_aload_n hx hb dX12_trade_0 rfl (lv_at hl 0 rfl) ?_
  refine lv_iconst (v := 0) hx hb dX12_trade_1 (by decide) ?_
  refine va_put (D := (dC, dI)) (ci := 12) (v := .int 0) (ty := .int) (C := RX12) (T := TX12) (N := 32) hx hb hT iX12 tyX12 tyX12_ok nmX12 hown hK hP hD hS 0 rfl rfl 8 (by decide) (hT _ w1090) (fun _ h9 => h9) rfl (by decide +kernel) rfl rfl (Nat.le_of_ble_eq_true rfl) dX12_trade_2 (fun H locs hP hD hS => ?_)
  have hP : va_P (dC, dI) vwCl [(m0, .inr (12, [.ref g0, .ref g1, .ref g2, .ref g3, .ref g4, .int 0, .int 0, .int 0, .int 0, .ref g9, .int 0, .int 0, .int 0, .int 0, .int (-1), .int 0, .int 0, .ref g17, .ref g18, .int 0, .ref g20, .ref g21, .ref g22, .ref g23, .ref g24, .ref g25, .ref g26, .ref g27, .ref g28, .ref g29, .ref g30, .int 0]))] H := hP
  have hD : va_D A [(m0, .inr (12, [.ref g0, .ref g1, .ref g2, .ref g3, .ref g4, .int 0, .int 0, .int 0, .int 0, .ref g9, .int 0, .int 0, .int 0, .int 0, .int (-1), .int 0, .int 0, .ref g17, .ref g18, .int 0, .ref g20, .ref g21, .ref g22, .ref g23, .ref g24, .ref g25, .ref g26, .ref g27, .ref g28, .ref g29, .ref g30, .int 0]))] := hD
  refine lv_aload_n hx hb dX12_trade_5 rfl (lv_at hl 0 rfl) ?_
  refine lv_iload_n hx hb dX12_trade_6 rfl (lv_at hl 1 rfl) ?_
  refine lv_iload_n hx hb dX12_trade_7 rfl (lv_at hl 2 rfl) ?_
  have hPc := hP.sub (ws' := [(m0, .inr (12, [.ref g0, .ref g1, .ref g2, .ref g3, .ref g4, .int 0, .int 0, .int 0, .int 0, .ref g9, .int 0, .int 0, .int 0, .int 0, .int (-1), .int 0, .int 0, .ref g17, .ref g18, .int 0, .ref g20, .ref g21, .ref g22, .ref g23, .ref g24, .ref g25, .ref g26, .ref g27, .ref g28, .ref g29, .ref g30, .int 0]))]) [0] rfl
  have hDc := hD.sub (ws' := [(m0, .inr (12, [.ref g0, .ref g1, .ref g2, .ref g3, .ref g4, .int 0, .int 0, .int 0, .int 0, .ref g9, .int 0, .int 0, .int 0, .int 0, .int (-1), .int 0, .int 0, .ref g17, .ref g18, .int 0, .ref g20, .ref g21, .ref g22, .ref g23, .ref g24, .ref g25, .ref g26, .ref g27, .ref g28, .ref g29, .ref g30, .int 0]))]) [0] (by decide) rfl
  have hKc := hK.sub (tys' := []) [] rfl
  refine vp_callSi (va_Run.run (va_runV (As := [.int k0, .int k1]) (rest := []) ⟨hx, hb, hml, hown, hT⟩ (m_areTwo l dC dI m0 g0 g1 g2 g3 g4 g9 g17 g18 g20 g21 g22 g23 g24 g25 g26 g27 g28 g29 g30 H.size k0 k1) (cwV 2 hT (gV w1280 w1282 ws72 w14 w1283) rfl rfl rfl (by decide +kernel) ⟨(Nat.le_of_ble_eq_true rfl), (Nat.le_of_ble_eq_true rfl)⟩) ⟨pcW.blind, va_recv hKc hPc (ci := 12) (q0 := 0) rfl rfl, pcW.pre hPc hKc hDc⟩ rfl rfl hl.1 rfl (lv_room (Nat.le_of_ble_eq_true rfl)) dX12_trade_8 ⟨(Nat.le_of_ble_eq_true rfl), (Nat.le_of_ble_eq_true rfl)⟩)) (fun r_8 hr_8 => ?_)
  obtain rfl : r_8 = 0 := hr_8
  refine lv_if_eq (tgt := 23) hx hb dX12_trade_11 (by decide) (fun _ => ?_) (fun h => absurd (by decide) h)
  refine lv_bipush (v := (-2)) hx hb dX12_trade_23 (by decide) ?_
  refine W.widen (k := 0) (n := 0) (Nat.le_of_ble_eq_true rfl) (Nat.le_of_ble_eq_true rfl) ?_
  exact W.iret (v := (-2)) hx hb hr (fun t ht hW => ⟨⟨(-2), (), rfl, rfl, trivial⟩, hS.F ht⟩) hS.2.2 dX12_trade_25

set_option maxHeartbeats 4000000 in
set_option maxRecDepth 100000 in
theorem m_cap (l : Launch) (dC : Nat → ClassId) (dI : Nat → Nat → Nat) (m0 : Nat) (g0 : Nat) (g1 : Nat) (g2 : Nat) (g3 : Nat) (g4 : Nat) (g9 : Nat) (g17 : Nat) (g18 : Nat) (g20 : Nat) (g21 : Nat) (g22 : Nat) (g23 : Nat) (g24 : Nat) (g25 : Nat) (g26 : Nat) (g27 : Nat) (g28 : Nat) (g29 : Nat) (g30 : Nat) (sz : Nat) (k0 : Int32) (k1 : Int32) (k2 : Int32) : Met l yX12_cap (wT yX12_cap cX12_cap 5 (some .int)) ({ frames := 3, cells := 0, slots := 0, locals := 68 }) (pcW dC dI [.ref m0, .int k0, .int k1, .int k2] sz [(m0, .inr (12, [.ref g0, .ref g1, .ref g2, .ref g3, .ref g4, .int 0, .int 0, .int 0, .int 0, .ref g9, .int 0, .int 0, .int 0, .int 0, .int (-1), .int 0, .int 0, .ref g17, .ref g18, .int 0, .ref g20, .ref g21, .ref g22, .ref g23, .ref g24, .ref g25, .ref g26, .ref g27, .ref g28, .ref g29, .ref g30, .int 0]))] []) (va_Qi (fun (r : Int32) (_ : Unit) => r = (-2)) (fun _ _ => True) (va_A [(m0, .inr (12, [.ref g0, .ref g1, .ref g2, .ref g3, .ref g4, .int 0, .int 0, .int 0, .int 0, .ref g9, .int 0, .int 0, .int 0, .int 0, .int (-1), .int 0, .int 0, .ref g17, .ref g18, .int 0, .ref g20, .ref g21, .ref g22, .ref g23, .ref g24, .ref g25, .ref g26, .ref g27, .ref g28, .ref g29, .ref g30, .int 0]))] sz)) 0 0 (va_A [(m0, .inr (12, [.ref g0, .ref g1, .ref g2, .ref g3, .ref g4, .int 0, .int 0, .int 0, .int 0, .ref g9, .int 0, .int 0, .int 0, .int 0, .int (-1), .int 0, .int 0, .ref g17, .ref g18, .int 0, .ref g20, .ref g21, .ref g22, .ref g23, .ref g24, .ref g25, .ref g26, .ref g27, .ref g28, .ref g29, .ref g30, .int 0]))] sz) := by
  refine Met.ofW (cc := cX12_cap) (maxL := 5) (ret := (some .int)) (by decide) rfl ?_
  intro p e s m args below meth c s₁ B hml hv
  obtain ⟨rfl, hsz, hP, hK, hD0⟩ := hv
  have hx := B.exec
  have hb := B.bytes
  have hr := B.returns
  have hT : ∀ w ∈ TB, w.before [.ref m0, .int k0, .int k1, .int k2].toArray s = true := fun w h => atoms_spec (ws := wT yX12_cap cX12_cap 5 (some .int)) B.pre w (List.mem_cons_of_mem _ h)
  have hown : s.vm.findClass RX12 = some m.cls := findClass_of_methodNamed B.named
  have hlocks := B.notSynchronized
  subst hsz
  have hD := hD0.self (sz := s.heap.size)
  generalize hAe : va_A [(m0, .inr (12, [.ref g0, .ref g1, .ref g2, .ref g3, .ref g4, .int 0, .int 0, .int 0, .int 0, .ref g9, .int 0, .int 0, .int 0, .int 0, .int (-1), .int 0, .int 0, .ref g17, .ref g18, .int 0, .ref g20, .ref g21, .ref g22, .ref g23, .ref g24, .ref g25, .ref g26, .ref g27, .ref g28, .ref g29, .ref g30, .int 0]))] s.heap.size = A at hD ⊢
  have hA : ∀ q : Nat, s.heap.size ≤ q → A q := fun q h => by rw [← hAe]; exact Or.inr h
  have hS : va_S A s.heap s.heap [] := va_S.rf
  have hP : va_P (dC, dI) vwCl [(m0, .inr (12, [.ref g0, .ref g1, .ref g2, .ref g3, .ref g4, .int 0, .int 0, .int 0, .int 0, .ref g9, .int 0, .int 0, .int 0, .int 0, .int (-1), .int 0, .int 0, .ref g17, .ref g18, .int 0, .ref g20, .ref g21, .ref g22, .ref g23, .ref g24, .ref g25, .ref g26, .ref g27, .ref g28, .ref g29, .ref g30, .int 0]))] s.heap := hP
  have hl := lv_entry ([.ref m0, .int k0, .int k1, .int k2]) (n := 5) (Nat.le_of_ble_eq_true rfl)
  rw [lg_entry_eq]
  generalize (lg_sl ([.ref m0, .int k0, .int k1, .int k2]) ++ List.replicate (5 - (lg_sl ([.ref m0, .int k0, .int k1, .int k2])).length) Slot.unset).toArray = ls at hl ⊢
  have hl : lv_has ls 5 [(0, .ref m0), (1, .int k0), (2, .int k1), (3, .int k2)] := hl
  refine lv_aload_n hx hb dX12_cap_0 rfl (lv_at hl 0 rfl) ?_
  refine lv_iconst (v := 0) hx hb dX12_cap_1 (by decide) ?_
  refine va_put (D := (dC, dI)) (ci := 12) (v := .int 0) (ty := .int) (C := RX12) (T := TX12) (N := 32) hx hb hT iX12 tyX12 tyX12_ok nmX12 hown hK hP hD hS 0 rfl rfl 8 (by decide) (hT _ w1090) (fun _ h9 => h9) rfl (by decide +kernel) rfl rfl (Nat.le_of_ble_eq_true rfl) dX12_cap_2 (fun H locs hP hD hS => ?_)
  have hP : va_P (dC, dI) vwCl [(m0, .inr (12, [.ref g0, .ref g1, .ref g2, .ref g3, .ref g4, .int 0, .int 0, .int 0, .int 0, .ref g9, .int 0, .int 0, .int 0, .int 0, .int (-1), .int 0, .int 0, .ref g17, .ref g18, .int 0, .ref g20, .ref g21, .ref g22, .ref g23, .ref g24, .ref g25, .ref g26, .ref g27, .ref g28, .ref g29, .ref g30, .int 0]))] H := hP
  have hD : va_D A [(m0, .inr (12, [.ref g0, .ref g1, .ref g2, .ref g3, .ref g4, .int 0, .int 0, .int 0, .int 0, .ref g9, .int 0, .int 0, .int 0, .int 0, .int (-1), .int 0, .int 0, .ref g17, .ref g18, .int 0, .ref g20, .ref g21, .ref g22, .ref g23, .ref g24, .ref g25, .ref g26, .ref g27, .ref g28, .ref g29, .ref g30, .int 0]))] := hD
  refine lv_aload_n hx hb dX12_cap_5 rfl (lv_at hl 0 rfl) ?_
  refine lv_iload_n hx hb dX12_cap_6 rfl (lv_at hl 1 rfl) ?_
  refine lv_iload_n hx hb dX12_cap_7 rfl (lv_at hl 2 rfl) ?_
  have hPc := hP.sub (ws' := [(m0, .inr (12, [.ref g0, .ref g1, .ref g2, .ref g3, .ref g4, .int 0, .int 0, .int 0, .int 0, .ref g9, .int 0, .int 0, .int 0, .int 0, .int (-1), .int 0, .int 0, .ref g17, .ref g18, .int 0, .ref g20, .ref g21, .ref g22, .ref g23, .ref g24, .ref g25, .ref g26, .ref g27, .ref g28, .ref g29, .ref g30, .int 0]))]) [0] rfl
  have hDc := hD.sub (ws' := [(m0, .inr (12, [.ref g0, .ref g1, .ref g2, .ref g3, .ref g4, .int 0, .int 0, .int 0, .int 0, .ref g9, .int 0, .int 0, .int 0, .int 0, .int (-1), .int 0, .int 0, .ref g17, .ref g18, .int 0, .ref g20, .ref g21, .ref g22, .ref g23, .ref g24, .ref g25, .ref g26, .ref g27, .ref g28, .ref g29, .ref g30, .int 0]))]) [0] (by decide) rfl
  have hKc := hK.sub (tys' := []) [] rfl
  refine vp_callSi (va_Run.run (va_runV (As := [.int k0, .int k1]) (rest := []) ⟨hx, hb, hml, hown, hT⟩ (m_areTwo l dC dI m0 g0 g1 g2 g3 g4 g9 g17 g18 g20 g21 g22 g23 g24 g25 g26 g27 g28 g29 g30 H.size k0 k1) (cwV 2 hT (gV w1280 w1282 ws72 w14 w1283) rfl rfl rfl (by decide +kernel) ⟨(Nat.le_of_ble_eq_true rfl), (Nat.le_of_ble_eq_true rfl)⟩) ⟨pcW.blind, va_recv hKc hPc (ci := 12) (q0 := 0) rfl rfl, pcW.pre hPc hKc hDc⟩ rfl rfl hl.1 rfl (lv_room (Nat.le_of_ble_eq_true rfl)) dX12_cap_8 ⟨(Nat.le_of_ble_eq_true rfl), (Nat.le_of_ble_eq_true rfl)⟩)) (fun r_8 hr_8 => ?_)
  obtain rfl : r_8 = 0 := hr_8
  refine lv_if_ne (tgt := 17) hx hb dX12_cap_11 (by decide) (fun h => absurd (by decide) h) (fun _ => ?_)
  refine lv_bipush (v := (-2)) hx hb dX12_cap_14 (by decide) ?_
  refine W.widen (k := 0) (n := 0) (Nat.le_of_ble_eq_true rfl) (Nat.le_of_ble_eq_true rfl) ?_
  exact W.iret (v := (-2)) hx hb hr (fun t ht hW => ⟨⟨(-2), (), rfl, rfl, trivial⟩, hS.F ht⟩) hS.2.2 dX12_cap_16

set_option maxHeartbeats 4000000 in
set_option maxRecDepth 100000 in
theorem m_flow (l : Launch) (dC : Nat → ClassId) (dI : Nat → Nat → Nat) (m0 : Nat) (g0 : Nat) (g1 : Nat) (g2 : Nat) (g3 : Nat) (g4 : Nat) (g9 : Nat) (g17 : Nat) (g18 : Nat) (g20 : Nat) (g21 : Nat) (g22 : Nat) (g23 : Nat) (g24 : Nat) (g25 : Nat) (g26 : Nat) (g27 : Nat) (g28 : Nat) (g29 : Nat) (g30 : Nat) (sz : Nat) (k0 : Int32) (k1 : Int32) (k2 : Int32) : Met l yX12_flow (wT yX12_flow cX12_flow 4 (some .int)) ({ frames := 3, cells := 0, slots := 0, locals := 68 }) (pcW dC dI [.ref m0, .int k0, .int k1, .int k2] sz [(m0, .inr (12, [.ref g0, .ref g1, .ref g2, .ref g3, .ref g4, .int 0, .int 0, .int 0, .int 0, .ref g9, .int 0, .int 0, .int 0, .int 0, .int (-1), .int 0, .int 0, .ref g17, .ref g18, .int 0, .ref g20, .ref g21, .ref g22, .ref g23, .ref g24, .ref g25, .ref g26, .ref g27, .ref g28, .ref g29, .ref g30, .int 0]))] []) (va_Qi (fun (r : Int32) (_ : Unit) => r = (-2)) (fun _ _ => True) (va_A [(m0, .inr (12, [.ref g0, .ref g1, .ref g2, .ref g3, .ref g4, .int 0, .int 0, .int 0, .int 0, .ref g9, .int 0, .int 0, .int 0, .int 0, .int (-1), .int 0, .int 0, .ref g17, .ref g18, .int 0, .ref g20, .ref g21, .ref g22, .ref g23, .ref g24, .ref g25, .ref g26, .ref g27, .ref g28, .ref g29, .ref g30, .int 0]))] sz)) 0 0 (va_A [(m0, .inr (12, [.ref g0, .ref g1, .ref g2, .ref g3, .ref g4, .int 0, .int 0, .int 0, .int 0, .ref g9, .int 0, .int 0, .int 0, .int 0, .int (-1), .int 0, .int 0, .ref g17, .ref g18, .int 0, .ref g20, .ref g21, .ref g22, .ref g23, .ref g24, .ref g25, .ref g26, .ref g27, .ref g28, .ref g29, .ref g30, .int 0]))] sz) := by
  refine Met.ofW (cc := cX12_flow) (maxL := 4) (ret := (some .int)) (by decide) rfl ?_
  intro p e s m args below meth c s₁ B hml hv
  obtain ⟨rfl, hsz, hP, hK, hD0⟩ := hv
  have hx := B.exec
  have hb := B.bytes
  have hr := B.returns
  have hT : ∀ w ∈ TB, w.before [.ref m0, .int k0, .int k1, .int k2].toArray s = true := fun w h => atoms_spec (ws := wT yX12_flow cX12_flow 4 (some .int)) B.pre w (List.mem_cons_of_mem _ h)
  have hown : s.vm.findClass RX12 = some m.cls := findClass_of_methodNamed B.named
  have hlocks := B.notSynchronized
  subst hsz
  have hD := hD0.self (sz := s.heap.size)
  generalize hAe : va_A [(m0, .inr (12, [.ref g0, .ref g1, .ref g2, .ref g3, .ref g4, .int 0, .int 0, .int 0, .int 0, .ref g9, .int 0, .int 0, .int 0, .int 0, .int (-1), .int 0, .int 0, .ref g17, .ref g18, .int 0, .ref g20, .ref g21, .ref g22, .ref g23, .ref g24, .ref g25, .ref g26, .ref g27, .ref g28, .ref g29, .ref g30, .int 0]))] s.heap.size = A at hD ⊢
  have hA : ∀ q : Nat, s.heap.size ≤ q → A q := fun q h => by rw [← hAe]; exact Or.inr h
  have hS : va_S A s.heap s.heap [] := va_S.rf
  have hP : va_P (dC, dI) vwCl [(m0, .inr (12, [.ref g0, .ref g1, .ref g2, .ref g3, .ref g4, .int 0, .int 0, .int 0, .int 0, .ref g9, .int 0, .int 0, .int 0, .int 0, .int (-1), .int 0, .int 0, .ref g17, .ref g18, .int 0, .ref g20, .ref g21, .ref g22, .ref g23, .ref g24, .ref g25, .ref g26, .ref g27, .ref g28, .ref g29, .ref g30, .int 0]))] s.heap := hP
  have hl := lv_entry ([.ref m0, .int k0, .int k1, .int k2]) (n := 4) (Nat.le_of_ble_eq_true rfl)
  rw [lg_entry_eq]
  generalize (lg_sl ([.ref m0, .int k0, .int k1, .int k2]) ++ List.replicate (4 - (lg_sl ([.ref m0, .int k0, .int k1, .int k2])).length) Slot.unset).toArray = ls at hl ⊢
  have hl : lv_has ls 4 [(0, .ref m0), (1, .int k0), (2, .int k1), (3, .int k2)] := hl
  refine lv_aload_n hx hb dX12_flow_0 rfl (lv_at hl 0 rfl) ?_
  refine lv_iconst (v := 0) hx hb dX12_flow_1 (by decide) ?_
  refine va_put (D := (dC, dI)) (ci := 12) (v := .int 0) (ty := .int) (C := RX12) (T := TX12) (N := 32) hx hb hT iX12 tyX12 tyX12_ok nmX12 hown hK hP hD hS 0 rfl rfl 8 (by decide) (hT _ w1090) (fun _ h9 => h9) rfl (by decide +kernel) rfl rfl (Nat.le_of_ble_eq_true rfl) dX12_flow_2 (fun H locs hP hD hS => ?_)
  have hP : va_P (dC, dI) vwCl [(m0, .inr (12, [.ref g0, .ref g1, .ref g2, .ref g3, .ref g4, .int 0, .int 0, .int 0, .int 0, .ref g9, .int 0, .int 0, .int 0, .int 0, .int (-1), .int 0, .int 0, .ref g17, .ref g18, .int 0, .ref g20, .ref g21, .ref g22, .ref g23, .ref g24, .ref g25, .ref g26, .ref g27, .ref g28, .ref g29, .ref g30, .int 0]))] H := hP
  have hD : va_D A [(m0, .inr (12, [.ref g0, .ref g1, .ref g2, .ref g3, .ref g4, .int 0, .int 0, .int 0, .int 0, .ref g9, .int 0, .int 0, .int 0, .int 0, .int (-1), .int 0, .int 0, .ref g17, .ref g18, .int 0, .ref g20, .ref g21, .ref g22, .ref g23, .ref g24, .ref g25, .ref g26, .ref g27, .ref g28, .ref g29, .ref g30, .int 0]))] := hD
  refine lv_aload_n hx hb dX12_flow_5 rfl (lv_at hl 0 rfl) ?_
  refine lv_iload_n hx hb dX12_flow_6 rfl (lv_at hl 1 rfl) ?_
  refine lv_iload_n hx hb dX12_flow_7 rfl (lv_at hl 2 rfl) ?_
  have hPc := hP.sub (ws' := [(m0, .inr (12, [.ref g0, .ref g1, .ref g2, .ref g3, .ref g4, .int 0, .int 0, .int 0, .int 0, .ref g9, .int 0, .int 0, .int 0, .int 0, .int (-1), .int 0, .int 0, .ref g17, .ref g18, .int 0, .ref g20, .ref g21, .ref g22, .ref g23, .ref g24, .ref g25, .ref g26, .ref g27, .ref g28, .ref g29, .ref g30, .int 0]))]) [0] rfl
  have hDc := hD.sub (ws' := [(m0, .inr (12, [.ref g0, .ref g1, .ref g2, .ref g3, .ref g4, .int 0, .int 0, .int 0, .int 0, .ref g9, .int 0, .int 0, .int 0, .int 0, .int (-1), .int 0, .int 0, .ref g17, .ref g18, .int 0, .ref g20, .ref g21, .ref g22, .ref g23, .ref g24, .ref g25, .ref g26, .ref g27, .ref g28, .ref g29, .ref g30, .int 0]))]) [0] (by decide) rfl
  have hKc := hK.sub (tys' := []) [] rfl
  refine vp_callSi (va_Run.run (va_runV (As := [.int k0, .int k1]) (rest := []) ⟨hx, hb, hml, hown, hT⟩ (m_areTwo l dC dI m0 g0 g1 g2 g3 g4 g9 g17 g18 g20 g21 g22 g23 g24 g25 g26 g27 g28 g29 g30 H.size k0 k1) (cwV 2 hT (gV w1280 w1282 ws72 w14 w1283) rfl rfl rfl (by decide +kernel) ⟨(Nat.le_of_ble_eq_true rfl), (Nat.le_of_ble_eq_true rfl)⟩) ⟨pcW.blind, va_recv hKc hPc (ci := 12) (q0 := 0) rfl rfl, pcW.pre hPc hKc hDc⟩ rfl rfl hl.1 rfl (lv_room (Nat.le_of_ble_eq_true rfl)) dX12_flow_8 ⟨(Nat.le_of_ble_eq_true rfl), (Nat.le_of_ble_eq_true rfl)⟩)) (fun r_8 hr_8 => ?_)
  obtain rfl : r_8 = 0 := hr_8
  refine lv_if_eq (tgt := 22) hx hb dX12_flow_11 (by decide) (fun _ => ?_) (fun h => absurd (by decide) h)
  refine lv_bipush (v := (-2)) hx hb dX12_flow_22 (by decide) ?_
  refine W.widen (k := 0) (n := 0) (Nat.le_of_ble_eq_true rfl) (Nat.le_of_ble_eq_true rfl) ?_
  exact W.iret (v := (-2)) hx hb hr (fun t ht hW => ⟨⟨(-2), (), rfl, rfl, trivial⟩, hS.F ht⟩) hS.2.2 dX12_flow_24

set_option maxHeartbeats 4000000 in
set_option maxRecDepth 100000 in
theorem m_bound (l : Launch) (dC : Nat → ClassId) (dI : Nat → Nat → Nat) (m0 : Nat) (g0 : Nat) (g1 : Nat) (g2 : Nat) (g3 : Nat) (g4 : Nat) (g9 : Nat) (g17 : Nat) (g18 : Nat) (g20 : Nat) (g21 : Nat) (g22 : Nat) (g23 : Nat) (g24 : Nat) (g25 : Nat) (g26 : Nat) (g27 : Nat) (g28 : Nat) (g29 : Nat) (g30 : Nat) (sz : Nat) (k0 : Int32) (k1 : Int32) (k2 : Int32) : Met l yX12_bound (wT yX12_bound cX12_bound 4 (some .int)) ({ frames := 3, cells := 0, slots := 0, locals := 68 }) (pcW dC dI [.ref m0, .int k0, .int k1, .int k2] sz [(m0, .inr (12, [.ref g0, .ref g1, .ref g2, .ref g3, .ref g4, .int 0, .int 0, .int 0, .int 0, .ref g9, .int 0, .int 0, .int 0, .int 0, .int (-1), .int 0, .int 0, .ref g17, .ref g18, .int 0, .ref g20, .ref g21, .ref g22, .ref g23, .ref g24, .ref g25, .ref g26, .ref g27, .ref g28, .ref g29, .ref g30, .int 0]))] []) (va_Qi (fun (r : Int32) (_ : Unit) => r = (-2)) (fun _ _ => True) (va_A [(m0, .inr (12, [.ref g0, .ref g1, .ref g2, .ref g3, .ref g4, .int 0, .int 0, .int 0, .int 0, .ref g9, .int 0, .int 0, .int 0, .int 0, .int (-1), .int 0, .int 0, .ref g17, .ref g18, .int 0, .ref g20, .ref g21, .ref g22, .ref g23, .ref g24, .ref g25, .ref g26, .ref g27, .ref g28, .ref g29, .ref g30, .int 0]))] sz)) 0 0 (va_A [(m0, .inr (12, [.ref g0, .ref g1, .ref g2, .ref g3, .ref g4, .int 0, .int 0, .int 0, .int 0, .ref g9, .int 0, .int 0, .int 0, .int 0, .int (-1), .int 0, .int 0, .ref g17, .ref g18, .int 0, .ref g20, .ref g21, .ref g22, .ref g23, .ref g24, .ref g25, .ref g26, .ref g27, .ref g28, .ref g29, .ref g30, .int 0]))] sz) := by
  refine Met.ofW (cc := cX12_bound) (maxL := 4) (ret := (some .int)) (by decide) rfl ?_
  intro p e s m args below meth c s₁ B hml hv
  obtain ⟨rfl, hsz, hP, hK, hD0⟩ := hv
  have hx := B.exec
  have hb := B.bytes
  have hr := B.returns
  have hT : ∀ w ∈ TB, w.before [.ref m0, .int k0, .int k1, .int k2].toArray s = true := fun w h => atoms_spec (ws := wT yX12_bound cX12_bound 4 (some .int)) B.pre w (List.mem_cons_of_mem _ h)
  have hown : s.vm.findClass RX12 = some m.cls := findClass_of_methodNamed B.named
  have hlocks := B.notSynchronized
  subst hsz
  have hD := hD0.self (sz := s.heap.size)
  generalize hAe : va_A [(m0, .inr (12, [.ref g0, .ref g1, .ref g2, .ref g3, .ref g4, .int 0, .int 0, .int 0, .int 0, .ref g9, .int 0, .int 0, .int 0, .int 0, .int (-1), .int 0, .int 0, .ref g17, .ref g18, .int 0, .ref g20, .ref g21, .ref g22, .ref g23, .ref g24, .ref g25, .ref g26, .ref g27, .ref g28, .ref g29, .ref g30, .int 0]))] s.heap.size = A at hD ⊢
  have hA : ∀ q : Nat, s.heap.size ≤ q → A q := fun q h => by rw [← hAe]; exact Or.inr h
  have hS : va_S A s.heap s.heap [] := va_S.rf
  have hP : va_P (dC, dI) vwCl [(m0, .inr (12, [.ref g0, .ref g1, .ref g2, .ref g3, .ref g4, .int 0, .int 0, .int 0, .int 0, .ref g9, .int 0, .int 0, .int 0, .int 0, .int (-1), .int 0, .int 0, .ref g17, .ref g18, .int 0, .ref g20, .ref g21, .ref g22, .ref g23, .ref g24, .ref g25, .ref g26, .ref g27, .ref g28, .ref g29, .ref g30, .int 0]))] s.heap := hP
  have hl := lv_entry ([.ref m0, .int k0, .int k1, .int k2]) (n := 4) (Nat.le_of_ble_eq_true rfl)
  rw [lg_entry_eq]
  generalize (lg_sl ([.ref m0, .int k0, .int k1, .int k2]) ++ List.replicate (4 - (lg_sl ([.ref m0, .int k0, .int k1, .int k2])).length) Slot.unset).toArray = ls at hl ⊢
  have hl : lv_has ls 4 [(0, .ref m0), (1, .int k0), (2, .int k1), (3, .int k2)] := hl
  refine lv_aload_n hx hb dX12_bound_0 rfl (lv_at hl 0 rfl) ?_
  refine lv_iconst (v := 0) hx hb dX12_bound_1 (by decide) ?_
  refine va_put (D := (dC, dI)) (ci := 12) (v := .int 0) (ty := .int) (C := RX12) (T := TX12) (N := 32) hx hb hT iX12 tyX12 tyX12_ok nmX12 hown hK hP hD hS 0 rfl rfl 8 (by decide) (hT _ w1090) (fun _ h9 => h9) rfl (by decide +kernel) rfl rfl (Nat.le_of_ble_eq_true rfl) dX12_bound_2 (fun H locs hP hD hS => ?_)
  have hP : va_P (dC, dI) vwCl [(m0, .inr (12, [.ref g0, .ref g1, .ref g2, .ref g3, .ref g4, .int 0, .int 0, .int 0, .int 0, .ref g9, .int 0, .int 0, .int 0, .int 0, .int (-1), .int 0, .int 0, .ref g17, .ref g18, .int 0, .ref g20, .ref g21, .ref g22, .ref g23, .ref g24, .ref g25, .ref g26, .ref g27, .ref g28, .ref g29, .ref g30, .int 0]))] H := hP
  have hD : va_D A [(m0, .inr (12, [.ref g0, .ref g1, .ref g2, .ref g3, .ref g4, .int 0, .int 0, .int 0, .int 0, .ref g9, .int 0, .int 0, .int 0, .int 0, .int (-1), .int 0, .int 0, .ref g17, .ref g18, .int 0, .ref g20, .ref g21, .ref g22, .ref g23, .ref g24, .ref g25, .ref g26, .ref g27, .ref g28, .ref g29, .ref g30, .int 0]))] := hD
  refine lv_aload_n hx hb dX12_bound_5 rfl (lv_at hl 0 rfl) ?_
  refine lv_iload_n hx hb dX12_bound_6 rfl (lv_at hl 1 rfl) ?_
  refine lv_iload_n hx hb dX12_bound_7 rfl (lv_at hl 2 rfl) ?_
  have hPc := hP.sub (ws' := [(m0, .inr (12, [.ref g0, .ref g1, .ref g2, .ref g3, .ref g4, .int 0, .int 0, .int 0, .int 0, .ref g9, .int 0, .int 0, .int 0, .int 0, .int (-1), .int 0, .int 0, .ref g17, .ref g18, .int 0, .ref g20, .ref g21, .ref g22, .ref g23, .ref g24, .ref g25, .ref g26, .ref g27, .ref g28, .ref g29, .ref g30, .int 0]))]) [0] rfl
  have hDc := hD.sub (ws' := [(m0, .inr (12, [.ref g0, .ref g1, .ref g2, .ref g3, .ref g4, .int 0, .int 0, .int 0, .int 0, .ref g9, .int 0, .int 0, .int 0, .int 0, .int (-1), .int 0, .int 0, .ref g17, .ref g18, .int 0, .ref g20, .ref g21, .ref g22, .ref g23, .ref g24, .ref g25, .ref g26, .ref g27, .ref g28, .ref g29, .ref g30, .int 0]))]) [0] (by decide) rfl
  have hKc := hK.sub (tys' := []) [] rfl
  refine vp_callSi (va_Run.run (va_runV (As := [.int k0, .int k1]) (rest := []) ⟨hx, hb, hml, hown, hT⟩ (m_areTwo l dC dI m0 g0 g1 g2 g3 g4 g9 g17 g18 g20 g21 g22 g23 g24 g25 g26 g27 g28 g29 g30 H.size k0 k1) (cwV 2 hT (gV w1280 w1282 ws72 w14 w1283) rfl rfl rfl (by decide +kernel) ⟨(Nat.le_of_ble_eq_true rfl), (Nat.le_of_ble_eq_true rfl)⟩) ⟨pcW.blind, va_recv hKc hPc (ci := 12) (q0 := 0) rfl rfl, pcW.pre hPc hKc hDc⟩ rfl rfl hl.1 rfl (lv_room (Nat.le_of_ble_eq_true rfl)) dX12_bound_8 ⟨(Nat.le_of_ble_eq_true rfl), (Nat.le_of_ble_eq_true rfl)⟩)) (fun r_8 hr_8 => ?_)
  obtain rfl : r_8 = 0 := hr_8
  refine lv_if_eq (tgt := 22) hx hb dX12_bound_11 (by decide) (fun _ => ?_) (fun h => absurd (by decide) h)
  refine lv_bipush (v := (-2)) hx hb dX12_bound_22 (by decide) ?_
  refine W.widen (k := 0) (n := 0) (Nat.le_of_ble_eq_true rfl) (Nat.le_of_ble_eq_true rfl) ?_
  exact W.iret (v := (-2)) hx hb hr (fun t ht hW => ⟨⟨(-2), (), rfl, rfl, trivial⟩, hS.F ht⟩) hS.2.2 dX12_bound_24

set_option maxHeartbeats 4000000 in
set_option maxRecDepth 100000 in
theorem m_pressed (l : Launch) (dC : Nat → ClassId) (dI : Nat → Nat → Nat) (m0 : Nat) (g0 : Nat) (g1 : Nat) (g2 : Nat) (g3 : Nat) (g4 : Nat) (g9 : Nat) (g17 : Nat) (g18 : Nat) (g20 : Nat) (g21 : Nat) (g22 : Nat) (g23 : Nat) (g24 : Nat) (g25 : Nat) (g26 : Nat) (g27 : Nat) (g28 : Nat) (g29 : Nat) (g30 : Nat) (sz : Nat) (k0 : Int32) (k1 : Int32) (k2 : Int32) : Met l yX12_pressed (wT yX12_pressed cX12_pressed 4 (some .int)) ({ frames := 3, cells := 0, slots := 0, locals := 68 }) (pcW dC dI [.ref m0, .int k0, .int k1, .int k2] sz [(m0, .inr (12, [.ref g0, .ref g1, .ref g2, .ref g3, .ref g4, .int 0, .int 0, .int 0, .int 0, .ref g9, .int 0, .int 0, .int 0, .int 0, .int (-1), .int 0, .int 0, .ref g17, .ref g18, .int 0, .ref g20, .ref g21, .ref g22, .ref g23, .ref g24, .ref g25, .ref g26, .ref g27, .ref g28, .ref g29, .ref g30, .int 0]))] []) (va_Qi (fun (r : Int32) (_ : Unit) => r = (-2)) (fun _ _ => True) (va_A [(m0, .inr (12, [.ref g0, .ref g1, .ref g2, .ref g3, .ref g4, .int 0, .int 0, .int 0, .int 0, .ref g9, .int 0, .int 0, .int 0, .int 0, .int (-1), .int 0, .int 0, .ref g17, .ref g18, .int 0, .ref g20, .ref g21, .ref g22, .ref g23, .ref g24, .ref g25, .ref g26, .ref g27, .ref g28, .ref g29, .ref g30, .int 0]))] sz)) 0 0 (va_A [(m0, .inr (12, [.ref g0, .ref g1, .ref g2, .ref g3, .ref g4, .int 0, .int 0, .int 0, .int 0, .ref g9, .int 0, .int 0, .int 0, .int 0, .int (-1), .int 0, .int 0, .ref g17, .ref g18, .int 0, .ref g20, .ref g21, .ref g22, .ref g23, .ref g24, .ref g25, .ref g26, .ref g27, .ref g28, .ref g29, .ref g30, .int 0]))] sz) := by
  refine Met.ofW (cc := cX12_pressed) (maxL := 4) (ret := (some .int)) (by decide) rfl ?_
  intro p e s m args below meth c s₁ B hml hv
  obtain ⟨rfl, hsz, hP, hK, hD0⟩ := hv
  have hx := B.exec
  have hb := B.bytes
  have hr := B.returns
  have hT : ∀ w ∈ TB, w.before [.ref m0, .int k0, .int k1, .int k2].toArray s = true := fun w h => atoms_spec (ws := wT yX12_pressed cX12_pressed 4 (some .int)) B.pre w (List.mem_cons_of_mem _ h)
  have hown : s.vm.findClass RX12 = some m.cls := findClass_of_methodNamed B.named
  have hlocks := B.notSynchronized
  subst hsz
  have hD := hD0.self (sz := s.heap.size)
  generalize hAe : va_A [(m0, .inr (12, [.ref g0, .ref g1, .ref g2, .ref g3, .ref g4, .int 0, .int 0, .int 0, .int 0, .ref g9, .int 0, .int 0, .int 0, .int 0, .int (-1), .int 0, .int 0, .ref g17, .ref g18, .int 0, .ref g20, .ref g21, .ref g22, .ref g23, .ref g24, .ref g25, .ref g26, .ref g27, .ref g28, .ref g29, .ref g30, .int 0]))] s.heap.size = A at hD ⊢
  have hA : ∀ q : Nat, s.heap.size ≤ q → A q := fun q h => by rw [← hAe]; exact Or.inr h
  have hS : va_S A s.heap s.heap [] := va_S.rf
  have hP : va_P (dC, dI) vwCl [(m0, .inr (12, [.ref g0, .ref g1, .ref g2, .ref g3, .ref g4, .int 0, .int 0, .int 0, .int 0, .ref g9, .int 0, .int 0, .int 0, .int 0, .int (-1), .int 0, .int 0, .ref g17, .ref g18, .int 0, .ref g20, .ref g21, .ref g22, .ref g23, .ref g24, .ref g25, .ref g26, .ref g27, .ref g28, .ref g29, .ref g30, .int 0]))] s.heap := hP
  have hl := lv_entry ([.ref m0, .int k0, .int k1, .int k2]) (n := 4) (Nat.le_of_ble_eq_true rfl)
  rw [lg_entry_eq]
  generalize (lg_sl ([.ref m0, .int k0, .int k1, .int k2]) ++ List.replicate (4 - (lg_sl ([.ref m0, .int k0, .int k1, .int k2])).length) Slot.unset).toArray = ls at hl ⊢
  have hl : lv_has ls 4 [(0, .ref m0), (1, .int k0), (2, .int k1), (3, .int k2)] := hl
  refine lv_aload_n hx hb dX12_pressed_0 rfl (lv_at hl 0 rfl) ?_
  refine lv_iconst (v := 0) hx hb dX12_pressed_1 (by decide) ?_
  refine va_put (D := (dC, dI)) (ci := 12) (v := .int 0) (ty := .int) (C := RX12) (T := TX12) (N := 32) hx hb hT iX12 tyX12 tyX12_ok nmX12 hown hK hP hD hS 0 rfl rfl 8 (by decide) (hT _ w1090) (fun _ h9 => h9) rfl (by decide +kernel) rfl rfl (Nat.le_of_ble_eq_true rfl) dX12_pressed_2 (fun H locs hP hD hS => ?_)
  have hP : va_P (dC, dI) vwCl [(m0, .inr (12, [.ref g0, .ref g1, .ref g2, .ref g3, .ref g4, .int 0, .int 0, .int 0, .int 0, .ref g9, .int 0, .int 0, .int 0, .int 0, .int (-1), .int 0, .int 0, .ref g17, .ref g18, .int 0, .ref g20, .ref g21, .ref g22, .ref g23, .ref g24, .ref g25, .ref g26, .ref g27, .ref g28, .ref g29, .ref g30, .int 0]))] H := hP
  have hD : va_D A [(m0, .inr (12, [.ref g0, .ref g1, .ref g2, .ref g3, .ref g4, .int 0, .int 0, .int 0, .int 0, .ref g9, .int 0, .int 0, .int 0, .int 0, .int (-1), .int 0, .int 0, .ref g17, .ref g18, .int 0, .ref g20, .ref g21, .ref g22, .ref g23, .ref g24, .ref g25, .ref g26, .ref g27, .ref g28, .ref g29, .ref g30, .int 0]))] := hD
  refine lv_aload_n hx hb dX12_pressed_5 rfl (lv_at hl 0 rfl) ?_
  refine lv_iload_n hx hb dX12_pressed_6 rfl (lv_at hl 1 rfl) ?_
  refine lv_iload_n hx hb dX12_pressed_7 rfl (lv_at hl 2 rfl) ?_
  have hPc := hP.sub (ws' := [(m0, .inr (12, [.ref g0, .ref g1, .ref g2, .ref g3, .ref g4, .int 0, .int 0, .int 0, .int 0, .ref g9, .int 0, .int 0, .int 0, .int 0, .int (-1), .int 0, .int 0, .ref g17, .ref g18, .int 0, .ref g20, .ref g21, .ref g22, .ref g23, .ref g24, .ref g25, .ref g26, .ref g27, .ref g28, .ref g29, .ref g30, .int 0]))]) [0] rfl
  have hDc := hD.sub (ws' := [(m0, .inr (12, [.ref g0, .ref g1, .ref g2, .ref g3, .ref g4, .int 0, .int 0, .int 0, .int 0, .ref g9, .int 0, .int 0, .int 0, .int 0, .int (-1), .int 0, .int 0, .ref g17, .ref g18, .int 0, .ref g20, .ref g21, .ref g22, .ref g23, .ref g24, .ref g25, .ref g26, .ref g27, .ref g28, .ref g29, .ref g30, .int 0]))]) [0] (by decide) rfl
  have hKc := hK.sub (tys' := []) [] rfl
  refine vp_callSi (va_Run.run (va_runV (As := [.int k0, .int k1]) (rest := []) ⟨hx, hb, hml, hown, hT⟩ (m_areTwo l dC dI m0 g0 g1 g2 g3 g4 g9 g17 g18 g20 g21 g22 g23 g24 g25 g26 g27 g28 g29 g30 H.size k0 k1) (cwV 2 hT (gV w1280 w1282 ws72 w14 w1283) rfl rfl rfl (by decide +kernel) ⟨(Nat.le_of_ble_eq_true rfl), (Nat.le_of_ble_eq_true rfl)⟩) ⟨pcW.blind, va_recv hKc hPc (ci := 12) (q0 := 0) rfl rfl, pcW.pre hPc hKc hDc⟩ rfl rfl hl.1 rfl (lv_room (Nat.le_of_ble_eq_true rfl)) dX12_pressed_8 ⟨(Nat.le_of_ble_eq_true rfl), (Nat.le_of_ble_eq_true rfl)⟩)) (fun r_8 hr_8 => ?_)
  obtain rfl : r_8 = 0 := hr_8
  refine lv_if_eq (tgt := 22) hx hb dX12_pressed_11 (by decide) (fun _ => ?_) (fun h => absurd (by decide) h)
  refine lv_bipush (v := (-2)) hx hb dX12_pressed_22 (by decide) ?_
  refine W.widen (k := 0) (n := 0) (Nat.le_of_ble_eq_true rfl) (Nat.le_of_ble_eq_true rfl) ?_
  exact W.iret (v := (-2)) hx hb hr (fun t ht hW => ⟨⟨(-2), (), rfl, rfl, trivial⟩, hS.F ht⟩) hS.2.2 dX12_pressed_24

set_option maxHeartbeats 4000000 in
set_option maxRecDepth 100000 in
theorem m_span (l : Launch) (dC : Nat → ClassId) (dI : Nat → Nat → Nat) (m0 : Nat) (g0 : Nat) (g1 : Nat) (g2 : Nat) (g3 : Nat) (g4 : Nat) (g9 : Nat) (g17 : Nat) (g18 : Nat) (g20 : Nat) (g21 : Nat) (g22 : Nat) (g23 : Nat) (g24 : Nat) (g25 : Nat) (g26 : Nat) (g27 : Nat) (g28 : Nat) (g29 : Nat) (g30 : Nat) (sz : Nat) (k0 : Int32) (k1 : Int32) (k2 : Int32) (k3 : Int32) : Met l yX12_span (wT yX12_span cX12_span 5 (some .int)) ({ frames := 3, cells := 0, slots := 0, locals := 68 }) (pcW dC dI [.ref m0, .int k0, .int k1, .int k2, .int k3] sz [(m0, .inr (12, [.ref g0, .ref g1, .ref g2, .ref g3, .ref g4, .int 0, .int 0, .int 0, .int 0, .ref g9, .int 0, .int 0, .int 0, .int 0, .int (-1), .int 0, .int 0, .ref g17, .ref g18, .int 0, .ref g20, .ref g21, .ref g22, .ref g23, .ref g24, .ref g25, .ref g26, .ref g27, .ref g28, .ref g29, .ref g30, .int 0]))] []) (va_Qi (fun (r : Int32) (_ : Unit) => r = (-2)) (fun _ _ => True) (va_A [(m0, .inr (12, [.ref g0, .ref g1, .ref g2, .ref g3, .ref g4, .int 0, .int 0, .int 0, .int 0, .ref g9, .int 0, .int 0, .int 0, .int 0, .int (-1), .int 0, .int 0, .ref g17, .ref g18, .int 0, .ref g20, .ref g21, .ref g22, .ref g23, .ref g24, .ref g25, .ref g26, .ref g27, .ref g28, .ref g29, .ref g30, .int 0]))] sz)) 0 0 (va_A [(m0, .inr (12, [.ref g0, .ref g1, .ref g2, .ref g3, .ref g4, .int 0, .int 0, .int 0, .int 0, .ref g9, .int 0, .int 0, .int 0, .int 0, .int (-1), .int 0, .int 0, .ref g17, .ref g18, .int 0, .ref g20, .ref g21, .ref g22, .ref g23, .ref g24, .ref g25, .ref g26, .ref g27, .ref g28, .ref g29, .ref g30, .int 0]))] sz) := by
  refine Met.ofW (cc := cX12_span) (maxL := 5) (ret := (some .int)) (by decide) rfl ?_
  intro p e s m args below meth c s₁ B hml hv
  obtain ⟨rfl, hsz, hP, hK, hD0⟩ := hv
  have hx := B.exec
  have hb := B.bytes
  have hr := B.returns
  have hT : ∀ w ∈ TB, w.before [.ref m0, .int k0, .int k1, .int k2, .int k3].toArray s = true := fun w h => atoms_spec (ws := wT yX12_span cX12_span 5 (some .int)) B.pre w (List.mem_cons_of_mem _ h)
  have hown : s.vm.findClass RX12 = some m.cls := findClass_of_methodNamed B.named
  have hlocks := B.notSynchronized
  subst hsz
  have hD := hD0.self (sz := s.heap.size)
  generalize hAe : va_A [(m0, .inr (12, [.ref g0, .ref g1, .ref g2, .ref g3, .ref g4, .int 0, .int 0, .int 0, .int 0, .ref g9, .int 0, .int 0, .int 0, .int 0, .int (-1), .int 0, .int 0, .ref g17, .ref g18, .int 0, .ref g20, .ref g21, .ref g22, .ref g23, .ref g24, .ref g25, .ref g26, .ref g27, .ref g28, .ref g29, .ref g30, .int 0]))] s.heap.size = A at hD ⊢
  have hA : ∀ q : Nat, s.heap.size ≤ q → A q := fun q h => by rw [← hAe]; exact Or.inr h
  have hS : va_S A s.heap s.heap [] := va_S.rf
  have hP : va_P (dC, dI) vwCl [(m0, .inr (12, [.ref g0, .ref g1, .ref g2, .ref g3, .ref g4, .int 0, .int 0, .int 0, .int 0, .ref g9, .int 0, .int 0, .int 0, .int 0, .int (-1), .int 0, .int 0, .ref g17, .ref g18, .int 0, .ref g20, .ref g21, .ref g22, .ref g23, .ref g24, .ref g25, .ref g26, .ref g27, .ref g28, .ref g29, .ref g30, .int 0]))] s.heap := hP
  have hl := lv_entry ([.ref m0, .int k0, .int k1, .int k2, .int k3]) (n := 5) (Nat.le_of_ble_eq_true rfl)
  rw [lg_entry_eq]
  generalize (lg_sl ([.ref m0, .int k0, .int k1, .int k2, .int k3]) ++ List.replicate (5 - (lg_sl ([.ref m0, .int k0, .int k1, .int k2, .int k3])).length) Slot.unset).toArray = ls at hl ⊢
  have hl : lv_has ls 5 [(0, .ref m0), (1, .int k0), (2, .int k1), (3, .int k2), (4, .int k3)] := hl
  refine lv_aload_n hx hb dX12_span_0 rfl (lv_at hl 0 rfl) ?_
  refine lv_iconst (v := 0) hx hb dX12_span_1 (by decide) ?_
  refine va_put (D := (dC, dI)) (ci := 12) (v := .int 0) (ty := .int) (C := RX12) (T := TX12) (N := 32) hx hb hT iX12 tyX12 tyX12_ok nmX12 hown hK hP hD hS 0 rfl rfl 8 (by decide) (hT _ w1090) (fun _ h9 => h9) rfl (by decide +kernel) rfl rfl (Nat.le_of_ble_eq_true rfl) dX12_span_2 (fun H locs hP hD hS => ?_)
  have hP : va_P (dC, dI) vwCl [(m0, .inr (12, [.ref g0, .ref g1, .ref g2, .ref g3, .ref g4, .int 0, .int 0, .int 0, .int 0, .ref g9, .int 0, .int 0, .int 0, .int 0, .int (-1), .int 0, .int 0, .ref g17, .ref g18, .int 0, .ref g20, .ref g21, .ref g22, .ref g23, .ref g24, .ref g25, .ref g26, .ref g27, .ref g28, .ref g29, .ref g30, .int 0]))] H := hP
  have hD : va_D A [(m0, .inr (12, [.ref g0, .ref g1, .ref g2, .ref g3, .ref g4, .int 0, .int 0, .int 0, .int 0, .ref g9, .int 0, .int 0, .int 0, .int 0, .int (-1), .int 0, .int 0, .ref g17, .ref g18, .int 0, .ref g20, .ref g21, .ref g22, .ref g23, .ref g24, .ref g25, .ref g26, .ref g27, .ref g28, .ref g29, .ref g30, .int 0]))] := hD
  refine lv_aload_n hx hb dX12_span_5 rfl (lv_at hl 0 rfl) ?_
  refine lv_iload_n hx hb dX12_span_6 rfl (lv_at hl 1 rfl) ?_
  refine lv_iload_n hx hb dX12_span_7 rfl (lv_at hl 2 rfl) ?_
  have hPc := hP.sub (ws' := [(m0, .inr (12, [.ref g0, .ref g1, .ref g2, .ref g3, .ref g4, .int 0, .int 0, .int 0, .int 0, .ref g9, .int 0, .int 0, .int 0, .int 0, .int (-1), .int 0, .int 0, .ref g17, .ref g18, .int 0, .ref g20, .ref g21, .ref g22, .ref g23, .ref g24, .ref g25, .ref g26, .ref g27, .ref g28, .ref g29, .ref g30, .int 0]))]) [0] rfl
  have hDc := hD.sub (ws' := [(m0, .inr (12, [.ref g0, .ref g1, .ref g2, .ref g3, .ref g4, .int 0, .int 0, .int 0, .int 0, .ref g9, .int 0, .int 0, .int 0, .int 0, .int (-1), .int 0, .int 0, .ref g17, .ref g18, .int 0, .ref g20, .ref g21, .ref g22, .ref g23, .ref g24, .ref g25, .ref g26, .ref g27, .ref g28, .ref g29, .ref g30, .int 0]))]) [0] (by decide) rfl
  have hKc := hK.sub (tys' := []) [] rfl
  refine vp_callSi (va_Run.run (va_runV (As := [.int k0, .int k1]) (rest := []) ⟨hx, hb, hml, hown, hT⟩ (m_areTwo l dC dI m0 g0 g1 g2 g3 g4 g9 g17 g18 g20 g21 g22 g23 g24 g25 g26 g27 g28 g29 g30 H.size k0 k1) (cwV 2 hT (gV w1280 w1282 ws72 w14 w1283) rfl rfl rfl (by decide +kernel) ⟨(Nat.le_of_ble_eq_true rfl), (Nat.le_of_ble_eq_true rfl)⟩) ⟨pcW.blind, va_recv hKc hPc (ci := 12) (q0 := 0) rfl rfl, pcW.pre hPc hKc hDc⟩ rfl rfl hl.1 rfl (lv_room (Nat.le_of_ble_eq_true rfl)) dX12_span_8 ⟨(Nat.le_of_ble_eq_true rfl), (Nat.le_of_ble_eq_true rfl)⟩)) (fun r_8 hr_8 => ?_)
  obtain rfl : r_8 = 0 := hr_8
  refine lv_if_eq (tgt := 22) hx hb dX12_span_11 (by decide) (fun _ => ?_) (fun h => absurd (by decide) h)
  refine lv_bipush (v := (-2)) hx hb dX12_span_22 (by decide) ?_
  refine W.widen (k := 0) (n := 0) (Nat.le_of_ble_eq_true rfl) (Nat.le_of_ble_eq_true rfl) ?_
  exact W.iret (v := (-2)) hx hb hr (fun t ht hW => ⟨⟨(-2), (), rfl, rfl, trivial⟩, hS.F ht⟩) hS.2.2 dX12_span_24

set_option maxHeartbeats 4000000 in
set_option maxRecDepth 100000 in
theorem m_gain (l : Launch) (dC : Nat → ClassId) (dI : Nat → Nat → Nat) (m0 : Nat) (g0 : Nat) (g1 : Nat) (g2 : Nat) (g3 : Nat) (g4 : Nat) (g9 : Nat) (g17 : Nat) (g18 : Nat) (g20 : Nat) (g21 : Nat) (g22 : Nat) (g23 : Nat) (g24 : Nat) (g25 : Nat) (g26 : Nat) (g27 : Nat) (g28 : Nat) (g29 : Nat) (g30 : Nat) (sz : Nat) (k0 : Int32) (k1 : Int32) (k2 : Int32) : Met l yX12_gain (wT yX12_gain cX12_gain 5 (some .int)) ({ frames := 3, cells := 0, slots := 0, locals := 68 }) (pcW dC dI [.ref m0, .int k0, .int k1, .int k2] sz [(m0, .inr (12, [.ref g0, .ref g1, .ref g2, .ref g3, .ref g4, .int 0, .int 0, .int 0, .int 0, .ref g9, .int 0, .int 0, .int 0, .int 0, .int (-1), .int 0, .int 0, .ref g17, .ref g18, .int 0, .ref g20, .ref g21, .ref g22, .ref g23, .ref g24, .ref g25, .ref g26, .ref g27, .ref g28, .ref g29, .ref g30, .int 0]))] []) (va_Qi (fun (r : Int32) (_ : Unit) => r = (-2)) (fun _ _ => True) (va_A [(m0, .inr (12, [.ref g0, .ref g1, .ref g2, .ref g3, .ref g4, .int 0, .int 0, .int 0, .int 0, .ref g9, .int 0, .int 0, .int 0, .int 0, .int (-1), .int 0, .int 0, .ref g17, .ref g18, .int 0, .ref g20, .ref g21, .ref g22, .ref g23, .ref g24, .ref g25, .ref g26, .ref g27, .ref g28, .ref g29, .ref g30, .int 0]))] sz)) 0 0 (va_A [(m0, .inr (12, [.ref g0, .ref g1, .ref g2, .ref g3, .ref g4, .int 0, .int 0, .int 0, .int 0, .ref g9, .int 0, .int 0, .int 0, .int 0, .int (-1), .int 0, .int 0, .ref g17, .ref g18, .int 0, .ref g20, .ref g21, .ref g22, .ref g23, .ref g24, .ref g25, .ref g26, .ref g27, .ref g28, .ref g29, .ref g30, .int 0]))] sz) := by
  refine Met.ofW (cc := cX12_gain) (maxL := 5) (ret := (some .int)) (by decide) rfl ?_
  intro p e s m args below meth c s₁ B hml hv
  obtain ⟨rfl, hsz, hP, hK, hD0⟩ := hv
  have hx := B.exec
  have hb := B.bytes
  have hr := B.returns
  have hT : ∀ w ∈ TB, w.before [.ref m0, .int k0, .int k1, .int k2].toArray s = true := fun w h => atoms_spec (ws := wT yX12_gain cX12_gain 5 (some .int)) B.pre w (List.mem_cons_of_mem _ h)
  have hown : s.vm.findClass RX12 = some m.cls := findClass_of_methodNamed B.named
  have hlocks := B.notSynchronized
  subst hsz
  have hD := hD0.self (sz := s.heap.size)
  generalize hAe : va_A [(m0, .inr (12, [.ref g0, .ref g1, .ref g2, .ref g3, .ref g4, .int 0, .int 0, .int 0, .int 0, .ref g9, .int 0, .int 0, .int 0, .int 0, .int (-1), .int 0, .int 0, .ref g17, .ref g18, .int 0, .ref g20, .ref g21, .ref g22, .ref g23, .ref g24, .ref g25, .ref g26, .ref g27, .ref g28, .ref g29, .ref g30, .int 0]))] s.heap.size = A at hD ⊢
  have hA : ∀ q : Nat, s.heap.size ≤ q → A q := fun q h => by rw [← hAe]; exact Or.inr h
  have hS : va_S A s.heap s.heap [] := va_S.rf
  have hP : va_P (dC, dI) vwCl [(m0, .inr (12, [.ref g0, .ref g1, .ref g2, .ref g3, .ref g4, .int 0, .int 0, .int 0, .int 0, .ref g9, .int 0, .int 0, .int 0, .int 0, .int (-1), .int 0, .int 0, .ref g17, .ref g18, .int 0, .ref g20, .ref g21, .ref g22, .ref g23, .ref g24, .ref g25, .ref g26, .ref g27, .ref g28, .ref g29, .ref g30, .int 0]))] s.heap := hP
  have hl := lv_entry ([.ref m0, .int k0, .int k1, .int k2]) (n := 5) (Nat.le_of_ble_eq_true rfl)
  rw [lg_entry_eq]
  generalize (lg_sl ([.ref m0, .int k0, .int k1, .int k2]) ++ List.replicate (5 - (lg_sl ([.ref m0, .int k0, .int k1, .int k2])).length) Slot.unset).toArray = ls at hl ⊢
  have hl : lv_has ls 5 [(0, .ref m0), (1, .int k0), (2, .int k1), (3, .int k2)] := hl
  refine lv_aload_n hx hb dX12_gain_0 rfl (lv_at hl 0 rfl) ?_
  refine lv_iconst (v := 0) hx hb dX12_gain_1 (by decide) ?_
  refine va_put (D := (dC, dI)) (ci := 12) (v := .int 0) (ty := .int) (C := RX12) (T := TX12) (N := 32) hx hb hT iX12 tyX12 tyX12_ok nmX12 hown hK hP hD hS 0 rfl rfl 8 (by decide) (hT _ w1090) (fun _ h9 => h9) rfl (by decide +kernel) rfl rfl (Nat.le_of_ble_eq_true rfl) dX12_gain_2 (fun H locs hP hD hS => ?_)
  have hP : va_P (dC, dI) vwCl [(m0, .inr (12, [.ref g0, .ref g1, .ref g2, .ref g3, .ref g4, .int 0, .int 0, .int 0, .int 0, .ref g9, .int 0, .int 0, .int 0, .int 0, .int (-1), .int 0, .int 0, .ref g17, .ref g18, .int 0, .ref g20, .ref g21, .ref g22, .ref g23, .ref g24, .ref g25, .ref g26, .ref g27, .ref g28, .ref g29, .ref g30, .int 0]))] H := hP
  have hD : va_D A [(m0, .inr (12, [.ref g0, .ref g1, .ref g2, .ref g3, .ref g4, .int 0, .int 0, .int 0, .int 0, .ref g9, .int 0, .int 0, .int 0, .int 0, .int (-1), .int 0, .int 0, .ref g17, .ref g18, .int 0, .ref g20, .ref g21, .ref g22, .ref g23, .ref g24, .ref g25, .ref g26, .ref g27, .ref g28, .ref g29, .ref g30, .int 0]))] := hD
  refine lv_aload_n hx hb dX12_gain_5 rfl (lv_at hl 0 rfl) ?_
  refine lv_iload_n hx hb dX12_gain_6 rfl (lv_at hl 1 rfl) ?_
  refine lv_iload_n hx hb dX12_gain_7 rfl (lv_at hl 2 rfl) ?_
  have hPc := hP.sub (ws' := [(m0, .inr (12, [.ref g0, .ref g1, .ref g2, .ref g3, .ref g4, .int 0, .int 0, .int 0, .int 0, .ref g9, .int 0, .int 0, .int 0, .int 0, .int (-1), .int 0, .int 0, .ref g17, .ref g18, .int 0, .ref g20, .ref g21, .ref g22, .ref g23, .ref g24, .ref g25, .ref g26, .ref g27, .ref g28, .ref g29, .ref g30, .int 0]))]) [0] rfl
  have hDc := hD.sub (ws' := [(m0, .inr (12, [.ref g0, .ref g1, .ref g2, .ref g3, .ref g4, .int 0, .int 0, .int 0, .int 0, .ref g9, .int 0, .int 0, .int 0, .int 0, .int (-1), .int 0, .int 0, .ref g17, .ref g18, .int 0, .ref g20, .ref g21, .ref g22, .ref g23, .ref g24, .ref g25, .ref g26, .ref g27, .ref g28, .ref g29, .ref g30, .int 0]))]) [0] (by decide) rfl
  have hKc := hK.sub (tys' := []) [] rfl
  refine vp_callSi (va_Run.run (va_runV (As := [.int k0, .int k1]) (rest := []) ⟨hx, hb, hml, hown, hT⟩ (m_areTwo l dC dI m0 g0 g1 g2 g3 g4 g9 g17 g18 g20 g21 g22 g23 g24 g25 g26 g27 g28 g29 g30 H.size k0 k1) (cwV 2 hT (gV w1280 w1282 ws72 w14 w1283) rfl rfl rfl (by decide +kernel) ⟨(Nat.le_of_ble_eq_true rfl), (Nat.le_of_ble_eq_true rfl)⟩) ⟨pcW.blind, va_recv hKc hPc (ci := 12) (q0 := 0) rfl rfl, pcW.pre hPc hKc hDc⟩ rfl rfl hl.1 rfl (lv_room (Nat.le_of_ble_eq_true rfl)) dX12_gain_8 ⟨(Nat.le_of_ble_eq_true rfl), (Nat.le_of_ble_eq_true rfl)⟩)) (fun r_8 hr_8 => ?_)
  obtain rfl : r_8 = 0 := hr_8
  refine lv_if_eq (tgt := 22) hx hb dX12_gain_11 (by decide) (fun _ => ?_) (fun h => absurd (by decide) h)
  refine lv_bipush (v := (-2)) hx hb dX12_gain_22 (by decide) ?_
  refine W.widen (k := 0) (n := 0) (Nat.le_of_ble_eq_true rfl) (Nat.le_of_ble_eq_true rfl) ?_
  exact W.iret (v := (-2)) hx hb hr (fun t ht hW => ⟨⟨(-2), (), rfl, rfl, trivial⟩, hS.F ht⟩) hS.2.2 dX12_gain_24

set_option maxHeartbeats 4000000 in
set_option maxRecDepth 100000 in
theorem m_enough (l : Launch) (dC : Nat → ClassId) (dI : Nat → Nat → Nat) (m0 : Nat) (g0 : Nat) (g1 : Nat) (g2 : Nat) (g3 : Nat) (g4 : Nat) (g9 : Nat) (g17 : Nat) (g18 : Nat) (g20 : Nat) (g21 : Nat) (g22 : Nat) (g23 : Nat) (g24 : Nat) (g25 : Nat) (g26 : Nat) (g27 : Nat) (g28 : Nat) (g29 : Nat) (g30 : Nat) (sz : Nat) (k0 : Int32) (k1 : Int32) (k2 : Int32) : Met l yX12_enough (wT yX12_enough cX12_enough 4 (some .int)) ({ frames := 3, cells := 0, slots := 0, locals := 68 }) (pcW dC dI [.ref m0, .int k0, .int k1, .int k2] sz [(m0, .inr (12, [.ref g0, .ref g1, .ref g2, .ref g3, .ref g4, .int 0, .int 0, .int 0, .int 0, .ref g9, .int 0, .int 0, .int 0, .int 0, .int (-1), .int 0, .int 0, .ref g17, .ref g18, .int 0, .ref g20, .ref g21, .ref g22, .ref g23, .ref g24, .ref g25, .ref g26, .ref g27, .ref g28, .ref g29, .ref g30, .int 0]))] []) (va_Qi (fun (r : Int32) (_ : Unit) => r = (-2)) (fun _ _ => True) (va_A [(m0, .inr (12, [.ref g0, .ref g1, .ref g2, .ref g3, .ref g4, .int 0, .int 0, .int 0, .int 0, .ref g9, .int 0, .int 0, .int 0, .int 0, .int (-1), .int 0, .int 0, .ref g17, .ref g18, .int 0, .ref g20, .ref g21, .ref g22, .ref g23, .ref g24, .ref g25, .ref g26, .ref g27, .ref g28, .ref g29, .ref g30, .int 0]))] sz)) 0 0 (va_A [(m0, .inr (12, [.ref g0, .ref g1, .ref g2, .ref g3, .ref g4, .int 0, .int 0, .int 0, .int 0, .ref g9, .int 0, .int 0, .int 0, .int 0, .int (-1), .int 0, .int 0, .ref g17, .ref g18, .int 0, .ref g20, .ref g21, .ref g22, .ref g23, .ref g24, .ref g25, .ref g26, .ref g27, .ref g28, .ref g29, .ref g30, .int 0]))] sz) := by
  refine Met.ofW (cc := cX12_enough) (maxL := 4) (ret := (some .int)) (by decide) rfl ?_
  intro p e s m args below meth c s₁ B hml hv
  obtain ⟨rfl, hsz, hP, hK, hD0⟩ := hv
  have hx := B.exec
  have hb := B.bytes
  have hr := B.returns
  have hT : ∀ w ∈ TB, w.before [.ref m0, .int k0, .int k1, .int k2].toArray s = true := fun w h => atoms_spec (ws := wT yX12_enough cX12_enough 4 (some .int)) B.pre w (List.mem_cons_of_mem _ h)
  have hown : s.vm.findClass RX12 = some m.cls := findClass_of_methodNamed B.named
  have hlocks := B.notSynchronized
  subst hsz
  have hD := hD0.self (sz := s.heap.size)
  generalize hAe : va_A [(m0, .inr (12, [.ref g0, .ref g1, .ref g2, .ref g3, .ref g4, .int 0, .int 0, .int 0, .int 0, .ref g9, .int 0, .int 0, .int 0, .int 0, .int (-1), .int 0, .int 0, .ref g17, .ref g18, .int 0, .ref g20, .ref g21, .ref g22, .ref g23, .ref g24, .ref g25, .ref g26, .ref g27, .ref g28, .ref g29, .ref g30, .int 0]))] s.heap.size = A at hD ⊢
  have hA : ∀ q : Nat, s.heap.size ≤ q → A q := fun q h => by rw [← hAe]; exact Or.inr h
  have hS : va_S A s.heap s.heap [] := va_S.rf
  have hP : va_P (dC, dI) vwCl [(m0, .inr (12, [.ref g0, .ref g1, .ref g2, .ref g3, .ref g4, .int 0, .int 0, .int 0, .int 0, .ref g9, .int 0, .int 0, .int 0, .int 0, .int (-1), .int 0, .int 0, .ref g17, .ref g18, .int 0, .ref g20, .ref g21, .ref g22, .ref g23, .ref g24, .ref g25, .ref g26, .ref g27, .ref g28, .ref g29, .ref g30, .int 0]))] s.heap := hP
  have hl := lv_entry ([.ref m0, .int k0, .int k1, .int k2]) (n := 4) (Nat.le_of_ble_eq_true rfl)
  rw [lg_entry_eq]
  generalize (lg_sl ([.ref m0, .int k0, .int k1, .int k2]) ++ List.replicate (4 - (lg_sl ([.ref m0, .int k0, .int k1, .int k2])).length) Slot.unset).toArray = ls at hl ⊢
  have hl : lv_has ls 4 [(0, .ref m0), (1, .int k0), (2, .int k1), (3, .int k2)] := hl
  refine lv_aload_n hx hb dX12_enough_0 rfl (lv_at hl 0 rfl) ?_
  refine lv_iconst (v := 0) hx hb dX12_enough_1 (by decide) ?_
  refine va_put (D := (dC, dI)) (ci := 12) (v := .int 0) (ty := .int) (C := RX12) (T := TX12) (N := 32) hx hb hT iX12 tyX12 tyX12_ok nmX12 hown hK hP hD hS 0 rfl rfl 8 (by decide) (hT _ w1090) (fun _ h9 => h9) rfl (by decide +kernel) rfl rfl (Nat.le_of_ble_eq_true rfl) dX12_enough_2 (fun H locs hP hD hS => ?_)
  have hP : va_P (dC, dI) vwCl [(m0, .inr (12, [.ref g0, .ref g1, .ref g2, .ref g3, .ref g4, .int 0, .int 0, .int 0, .int 0, .ref g9, .int 0, .int 0, .int 0, .int 0, .int (-1), .int 0, .int 0, .ref g17, .ref g18, .int 0, .ref g20, .ref g21, .ref g22, .ref g23, .ref g24, .ref g25, .ref g26, .ref g27, .ref g28, .ref g29, .ref g30, .int 0]))] H := hP
  have hD : va_D A [(m0, .inr (12, [.ref g0, .ref g1, .ref g2, .ref g3, .ref g4, .int 0, .int 0, .int 0, .int 0, .ref g9, .int 0, .int 0, .int 0, .int 0, .int (-1), .int 0, .int 0, .ref g17, .ref g18, .int 0, .ref g20, .ref g21, .ref g22, .ref g23, .ref g24, .ref g25, .ref g26, .ref g27, .ref g28, .ref g29, .ref g30, .int 0]))] := hD
  refine lv_aload_n hx hb dX12_enough_5 rfl (lv_at hl 0 rfl) ?_
  refine lv_iload_n hx hb dX12_enough_6 rfl (lv_at hl 1 rfl) ?_
  refine lv_iload_n hx hb dX12_enough_7 rfl (lv_at hl 2 rfl) ?_
  have hPc := hP.sub (ws' := [(m0, .inr (12, [.ref g0, .ref g1, .ref g2, .ref g3, .ref g4, .int 0, .int 0, .int 0, .int 0, .ref g9, .int 0, .int 0, .int 0, .int 0, .int (-1), .int 0, .int 0, .ref g17, .ref g18, .int 0, .ref g20, .ref g21, .ref g22, .ref g23, .ref g24, .ref g25, .ref g26, .ref g27, .ref g28, .ref g29, .ref g30, .int 0]))]) [0] rfl
  have hDc := hD.sub (ws' := [(m0, .inr (12, [.ref g0, .ref g1, .ref g2, .ref g3, .ref g4, .int 0, .int 0, .int 0, .int 0, .ref g9, .int 0, .int 0, .int 0, .int 0, .int (-1), .int 0, .int 0, .ref g17, .ref g18, .int 0, .ref g20, .ref g21, .ref g22, .ref g23, .ref g24, .ref g25, .ref g26, .ref g27, .ref g28, .ref g29, .ref g30, .int 0]))]) [0] (by decide) rfl
  have hKc := hK.sub (tys' := []) [] rfl
  refine vp_callSi (va_Run.run (va_runV (As := [.int k0, .int k1]) (rest := []) ⟨hx, hb, hml, hown, hT⟩ (m_areTwo l dC dI m0 g0 g1 g2 g3 g4 g9 g17 g18 g20 g21 g22 g23 g24 g25 g26 g27 g28 g29 g30 H.size k0 k1) (cwV 2 hT (gV w1280 w1282 ws72 w14 w1283) rfl rfl rfl (by decide +kernel) ⟨(Nat.le_of_ble_eq_true rfl), (Nat.le_of_ble_eq_true rfl)⟩) ⟨pcW.blind, va_recv hKc hPc (ci := 12) (q0 := 0) rfl rfl, pcW.pre hPc hKc hDc⟩ rfl rfl hl.1 rfl (lv_room (Nat.le_of_ble_eq_true rfl)) dX12_enough_8 ⟨(Nat.le_of_ble_eq_true rfl), (Nat.le_of_ble_eq_true rfl)⟩)) (fun r_8 hr_8 => ?_)
  obtain rfl : r_8 = 0 := hr_8
  refine lv_if_eq (tgt := 22) hx hb dX12_enough_11 (by decide) (fun _ => ?_) (fun h => absurd (by decide) h)
  refine lv_bipush (v := (-2)) hx hb dX12_enough_22 (by decide) ?_
  refine W.widen (k := 0) (n := 0) (Nat.le_of_ble_eq_true rfl) (Nat.le_of_ble_eq_true rfl) ?_
  exact W.iret (v := (-2)) hx hb hr (fun t ht hW => ⟨⟨(-2), (), rfl, rfl, trivial⟩, hS.F ht⟩) hS.2.2 dX12_enough_24

set_option maxHeartbeats 4000000 in
set_option maxRecDepth 100000 in
theorem m_net (l : Launch) (dC : Nat → ClassId) (dI : Nat → Nat → Nat) (m0 : Nat) (g0 : Nat) (g1 : Nat) (g2 : Nat) (g3 : Nat) (g4 : Nat) (g9 : Nat) (g17 : Nat) (g18 : Nat) (g20 : Nat) (g21 : Nat) (g22 : Nat) (g23 : Nat) (g24 : Nat) (g25 : Nat) (g26 : Nat) (g27 : Nat) (g28 : Nat) (g29 : Nat) (g30 : Nat) (sz : Nat) (k0 : Int32) (k1 : Int32) (k2 : Int32) : Met l yX12_net (wT yX12_net cX12_net 4 (some .int)) ({ frames := 2, cells := 0, slots := 0, locals := 46 }) (pcW dC dI [.ref m0, .int k0, .int k1, .int k2] sz [(m0, .inr (12, [.ref g0, .ref g1, .ref g2, .ref g3, .ref g4, .int 0, .int 0, .int 0, .int 0, .ref g9, .int 0, .int 0, .int 0, .int 0, .int (-1), .int 0, .int 0, .ref g17, .ref g18, .int 0, .ref g20, .ref g21, .ref g22, .ref g23, .ref g24, .ref g25, .ref g26, .ref g27, .ref g28, .ref g29, .ref g30, .int 0]))] []) (va_Qi (fun (r : Int32) (_ : Unit) => r = (-2)) (fun _ _ => True) (va_A [(m0, .inr (12, [.ref g0, .ref g1, .ref g2, .ref g3, .ref g4, .int 0, .int 0, .int 0, .int 0, .ref g9, .int 0, .int 0, .int 0, .int 0, .int (-1), .int 0, .int 0, .ref g17, .ref g18, .int 0, .ref g20, .ref g21, .ref g22, .ref g23, .ref g24, .ref g25, .ref g26, .ref g27, .ref g28, .ref g29, .ref g30, .int 0]))] sz)) 0 0 (va_A [(m0, .inr (12, [.ref g0, .ref g1, .ref g2, .ref g3, .ref g4, .int 0, .int 0, .int 0, .int 0, .ref g9, .int 0, .int 0, .int 0, .int 0, .int (-1), .int 0, .int 0, .ref g17, .ref g18, .int 0, .ref g20, .ref g21, .ref g22, .ref g23, .ref g24, .ref g25, .ref g26, .ref g27, .ref g28, .ref g29, .ref g30, .int 0]))] sz) := by
  refine Met.ofW (cc := cX12_net) (maxL := 4) (ret := (some .int)) (by decide) rfl ?_
  intro p e s m args below meth c s₁ B hml hv
  obtain ⟨rfl, hsz, hP, hK, hD0⟩ := hv
  have hx := B.exec
  have hb := B.bytes
  have hr := B.returns
  have hT : ∀ w ∈ TB, w.before [.ref m0, .int k0, .int k1, .int k2].toArray s = true := fun w h => atoms_spec (ws := wT yX12_net cX12_net 4 (some .int)) B.pre w (List.mem_cons_of_mem _ h)
  have hown : s.vm.findClass RX12 = some m.cls := findClass_of_methodNamed B.named
  have hlocks := B.notSynchronized
  subst hsz
  have hD := hD0.self (sz := s.heap.size)
  generalize hAe : va_A [(m0, .inr (12, [.ref g0, .ref g1, .ref g2, .ref g3, .ref g4, .int 0, .int 0, .int 0, .int 0, .ref g9, .int 0, .int 0, .int 0, .int 0, .int (-1), .int 0, .int 0, .ref g17, .ref g18, .int 0, .ref g20, .ref g21, .ref g22, .ref g23, .ref g24, .ref g25, .ref g26, .ref g27, .ref g28, .ref g29, .ref g30, .int 0]))] s.heap.size = A at hD ⊢
  have hA : ∀ q : Nat, s.heap.size ≤ q → A q := fun q h => by rw [← hAe]; exact Or.inr h
  have hS : va_S A s.heap s.heap [] := va_S.rf
  have hP : va_P (dC, dI) vwCl [(m0, .inr (12, [.ref g0, .ref g1, .ref g2, .ref g3, .ref g4, .int 0, .int 0, .int 0, .int 0, .ref g9, .int 0, .int 0, .int 0, .int 0, .int (-1), .int 0, .int 0, .ref g17, .ref g18, .int 0, .ref g20, .ref g21, .ref g22, .ref g23, .ref g24, .ref g25, .ref g26, .ref g27, .ref g28, .ref g29, .ref g30, .int 0]))] s.heap := hP
  have hl := lv_entry ([.ref m0, .int k0, .int k1, .int k2]) (n := 4) (Nat.le_of_ble_eq_true rfl)
  rw [lg_entry_eq]
  generalize (lg_sl ([.ref m0, .int k0, .int k1, .int k2]) ++ List.replicate (4 - (lg_sl ([.ref m0, .int k0, .int k1, .int k2])).length) Slot.unset).toArray = ls at hl ⊢
  have hl : lv_has ls 4 [(0, .ref m0), (1, .int k0), (2, .int k1), (3, .int k2)] := hl
  refine lv_aload_n hx hb dX12_net_0 rfl (lv_at hl 0 rfl) ?_
  refine lv_iconst (v := 0) hx hb dX12_net_1 (by decide) ?_
  refine va_put (D := (dC, dI)) (ci := 12) (v := .int 0) (ty := .int) (C := RX12) (T := TX12) (N := 32) hx hb hT iX12 tyX12 tyX12_ok nmX12 hown hK hP hD hS 0 rfl rfl 8 (by decide) (hT _ w1090) (fun _ h9 => h9) rfl (by decide +kernel) rfl rfl (Nat.le_of_ble_eq_true rfl) dX12_net_2 (fun H locs hP hD hS => ?_)
  have hP : va_P (dC, dI) vwCl [(m0, .inr (12, [.ref g0, .ref g1, .ref g2, .ref g3, .ref g4, .int 0, .int 0, .int 0, .int 0, .ref g9, .int 0, .int 0, .int 0, .int 0, .int (-1), .int 0, .int 0, .ref g17, .ref g18, .int 0, .ref g20, .ref g21, .ref g22, .ref g23, .ref g24, .ref g25, .ref g26, .ref g27, .ref g28, .ref g29, .ref g30, .int 0]))] H := hP
  have hD : va_D A [(m0, .inr (12, [.ref g0, .ref g1, .ref g2, .ref g3, .ref g4, .int 0, .int 0, .int 0, .int 0, .ref g9, .int 0, .int 0, .int 0, .int 0, .int (-1), .int 0, .int 0, .ref g17, .ref g18, .int 0, .ref g20, .ref g21, .ref g22, .ref g23, .ref g24, .ref g25, .ref g26, .ref g27, .ref g28, .ref g29, .ref g30, .int 0]))] := hD
  refine lv_aload_n hx hb dX12_net_5 rfl (lv_at hl 0 rfl) ?_
  refine lv_iload_n hx hb dX12_net_6 rfl (lv_at hl 1 rfl) ?_
  have hPc := hP.sub (ws' := [(m0, .inr (12, [.ref g0, .ref g1, .ref g2, .ref g3, .ref g4, .int 0, .int 0, .int 0, .int 0, .ref g9, .int 0, .int 0, .int 0, .int 0, .int (-1), .int 0, .int 0, .ref g17, .ref g18, .int 0, .ref g20, .ref g21, .ref g22, .ref g23, .ref g24, .ref g25, .ref g26, .ref g27, .ref g28, .ref g29, .ref g30, .int 0]))]) [0] rfl
  have hDc := hD.sub (ws' := [(m0, .inr (12, [.ref g0, .ref g1, .ref g2, .ref g3, .ref g4, .int 0, .int 0, .int 0, .int 0, .ref g9, .int 0, .int 0, .int 0, .int 0, .int (-1), .int 0, .int 0, .ref g17, .ref g18, .int 0, .ref g20, .ref g21, .ref g22, .ref g23, .ref g24, .ref g25, .ref g26, .ref g27, .ref g28, .ref g29, .ref g30, .int 0]))]) [0] (by decide) rfl
  have hKc := hK.sub (tys' := []) [] rfl
  refine vp_callSi (va_Run.run (va_runV (As := [.int k0]) (rest := []) ⟨hx, hb, hml, hown, hT⟩ (m_isParty l dC dI m0 g0 g1 g2 g3 g4 g9 g17 g18 g20 g21 g22 g23 g24 g25 g26 g27 g28 g29 g30 H.size k0) (cwV 1 hT (gV w1284 w1286 ws73 w14 w1287) rfl rfl rfl (by decide +kernel) ⟨(Nat.le_of_ble_eq_true rfl), (Nat.le_of_ble_eq_true rfl)⟩) ⟨pcW.blind, va_recv hKc hPc (ci := 12) (q0 := 0) rfl rfl, pcW.pre hPc hKc hDc⟩ rfl rfl hl.1 rfl (lv_room (Nat.le_of_ble_eq_true rfl)) dX12_net_7 ⟨(Nat.le_of_ble_eq_true rfl), (Nat.le_of_ble_eq_true rfl)⟩)) (fun r_7 hr_7 => ?_)
  obtain rfl : r_7 = 0 := hr_7
  refine lv_if_eq (tgt := 21) hx hb dX12_net_10 (by decide) (fun _ => ?_) (fun h => absurd (by decide) h)
  refine lv_bipush (v := (-2)) hx hb dX12_net_21 (by decide) ?_
  refine W.widen (k := 0) (n := 0) (Nat.le_of_ble_eq_true rfl) (Nat.le_of_ble_eq_true rfl) ?_
  exact W.iret (v := (-2)) hx hb hr (fun t ht hW => ⟨⟨(-2), (), rfl, rfl, trivial⟩, hS.F ht⟩) hS.2.2 dX12_net_23

set_option maxHeartbeats 4000000 in
set_option maxRecDepth 100000 in
theorem m_side (l : Launch) (dC : Nat → ClassId) (dI : Nat → Nat → Nat) (m0 : Nat) (g0 : Nat) (g1 : Nat) (g2 : Nat) (g3 : Nat) (g4 : Nat) (g9 : Nat) (g17 : Nat) (g18 : Nat) (g20 : Nat) (g21 : Nat) (g22 : Nat) (g23 : Nat) (g24 : Nat) (g25 : Nat) (g26 : Nat) (g27 : Nat) (g28 : Nat) (g29 : Nat) (g30 : Nat) (sz : Nat) (k0 : Int32) (k1 : Int32) (k2 : Int32) : Met l yX12_side (wT yX12_side cX12_side 6 (some .int)) ({ frames := 2, cells := 0, slots := 0, locals := 46 }) (pcW dC dI [.ref m0, .int k0, .int k1, .int k2] sz [(m0, .inr (12, [.ref g0, .ref g1, .ref g2, .ref g3, .ref g4, .int 0, .int 0, .int 0, .int 0, .ref g9, .int 0, .int 0, .int 0, .int 0, .int (-1), .int 0, .int 0, .ref g17, .ref g18, .int 0, .ref g20, .ref g21, .ref g22, .ref g23, .ref g24, .ref g25, .ref g26, .ref g27, .ref g28, .ref g29, .ref g30, .int 0]))] []) (va_Qi (fun (r : Int32) (_ : Unit) => r = (-2)) (fun _ _ => True) (va_A [(m0, .inr (12, [.ref g0, .ref g1, .ref g2, .ref g3, .ref g4, .int 0, .int 0, .int 0, .int 0, .ref g9, .int 0, .int 0, .int 0, .int 0, .int (-1), .int 0, .int 0, .ref g17, .ref g18, .int 0, .ref g20, .ref g21, .ref g22, .ref g23, .ref g24, .ref g25, .ref g26, .ref g27, .ref g28, .ref g29, .ref g30, .int 0]))] sz)) 0 0 (va_A [(m0, .inr (12, [.ref g0, .ref g1, .ref g2, .ref g3, .ref g4, .int 0, .int 0, .int 0, .int 0, .ref g9, .int 0, .int 0, .int 0, .int 0, .int (-1), .int 0, .int 0, .ref g17, .ref g18, .int 0, .ref g20, .ref g21, .ref g22, .ref g23, .ref g24, .ref g25, .ref g26, .ref g27, .ref g28, .ref g29, .ref g30, .int 0]))] sz) := by
  refine Met.ofW (cc := cX12_side) (maxL := 6) (ret := (some .int)) (by decide) rfl ?_
  intro p e s m args below meth c s₁ B hml hv
  obtain ⟨rfl, hsz, hP, hK, hD0⟩ := hv
  have hx := B.exec
  have hb := B.bytes
  have hr := B.returns
  have hT : ∀ w ∈ TB, w.before [.ref m0, .int k0, .int k1, .int k2].toArray s = true := fun w h => atoms_spec (ws := wT yX12_side cX12_side 6 (some .int)) B.pre w (List.mem_cons_of_mem _ h)
  have hown : s.vm.findClass RX12 = some m.cls := findClass_of_methodNamed B.named
  have hlocks := B.notSynchronized
  subst hsz
  have hD := hD0.self (sz := s.heap.size)
  generalize hAe : va_A [(m0, .inr (12, [.ref g0, .ref g1, .ref g2, .ref g3, .ref g4, .int 0, .int 0, .int 0, .int 0, .ref g9, .int 0, .int 0, .int 0, .int 0, .int (-1), .int 0, .int 0, .ref g17, .ref g18, .int 0, .ref g20, .ref g21, .ref g22, .ref g23, .ref g24, .ref g25, .ref g26, .ref g27, .ref g28, .ref g29, .ref g30, .int 0]))] s.heap.size = A at hD ⊢
  have hA : ∀ q : Nat, s.heap.size ≤ q → A q := fun q h => by rw [← hAe]; exact Or.inr h
  have hS : va_S A s.heap s.heap [] := va_S.rf
  have hP : va_P (dC, dI) vwCl [(m0, .inr (12, [.ref g0, .ref g1, .ref g2, .ref g3, .ref g4, .int 0, .int 0, .int 0, .int 0, .ref g9, .int 0, .int 0, .int 0, .int 0, .int (-1), .int 0, .int 0, .ref g17, .ref g18, .int 0, .ref g20, .ref g21, .ref g22, .ref g23, .ref g24, .ref g25, .ref g26, .ref g27, .ref g28, .ref g29, .ref g30, .int 0]))] s.heap := hP
  have hl := lv_entry ([.ref m0, .int k0, .int k1, .int k2]) (n := 6) (Nat.le_of_ble_eq_true rfl)
  rw [lg_entry_eq]
  generalize (lg_sl ([.ref m0, .int k0, .int k1, .int k2]) ++ List.replicate (6 - (lg_sl ([.ref m0, .int k0, .int k1, .int k2])).length) Slot.unset).toArray = ls at hl ⊢
  have hl : lv_has ls 6 [(0, .ref m0), (1, .int k0), (2, .int k1), (3, .int k2)] := hl
  refine lv_aload_n hx hb dX12_side_0 rfl (lv_at hl 0 rfl) ?_
  refine lv_iconst (v := 0) hx hb dX12_side_1 (by decide) ?_
  refine va_put (D := (dC, dI)) (ci := 12) (v := .int 0) (ty := .int) (C := RX12) (T := TX12) (N := 32) hx hb hT iX12 tyX12 tyX12_ok nmX12 hown hK hP hD hS 0 rfl rfl 8 (by decide) (hT _ w1090) (fun _ h9 => h9) rfl (by decide +kernel) rfl rfl (Nat.le_of_ble_eq_true rfl) dX12_side_2 (fun H locs hP hD hS => ?_)
  have hP : va_P (dC, dI) vwCl [(m0, .inr (12, [.ref g0, .ref g1, .ref g2, .ref g3, .ref g4, .int 0, .int 0, .int 0, .int 0, .ref g9, .int 0, .int 0, .int 0, .int 0, .int (-1), .int 0, .int 0, .ref g17, .ref g18, .int 0, .ref g20, .ref g21, .ref g22, .ref g23, .ref g24, .ref g25, .ref g26, .ref g27, .ref g28, .ref g29, .ref g30, .int 0]))] H := hP
  have hD : va_D A [(m0, .inr (12, [.ref g0, .ref g1, .ref g2, .ref g3, .ref g4, .int 0, .int 0, .int 0, .int 0, .ref g9, .int 0, .int 0, .int 0, .int 0, .int (-1), .int 0, .int 0, .ref g17, .ref g18, .int 0, .ref g20, .ref g21, .ref g22, .ref g23, .ref g24, .ref g25, .ref g26, .ref g27, .ref g28, .ref g29, .ref g30, .int 0]))] := hD
  refine lv_aload_n hx hb dX12_side_5 rfl (lv_at hl 0 rfl) ?_
  refine lv_iload_n hx hb dX12_side_6 rfl (lv_at hl 1 rfl) ?_
  have hPc := hP.sub (ws' := [(m0, .inr (12, [.ref g0, .ref g1, .ref g2, .ref g3, .ref g4, .int 0, .int 0, .int 0, .int 0, .ref g9, .int 0, .int 0, .int 0, .int 0, .int (-1), .int 0, .int 0, .ref g17, .ref g18, .int 0, .ref g20, .ref g21, .ref g22, .ref g23, .ref g24, .ref g25, .ref g26, .ref g27, .ref g28, .ref g29, .ref g30, .int 0]))]) [0] rfl
  have hDc := hD.sub (ws' := [(m0, .inr (12, [.ref g0, .ref g1, .ref g2, .ref g3, .ref g4, .int 0, .int 0, .int 0, .int 0, .ref g9, .int 0, .int 0, .int 0, .int 0, .int (-1), .int 0, .int 0, .ref g17, .ref g18, .int 0, .ref g20, .ref g21, .ref g22, .ref g23, .ref g24, .ref g25, .ref g26, .ref g27, .ref g28, .ref g29, .ref g30, .int 0]))]) [0] (by decide) rfl
  have hKc := hK.sub (tys' := []) [] rfl
  refine vp_callSi (va_Run.run (va_runV (As := [.int k0]) (rest := []) ⟨hx, hb, hml, hown, hT⟩ (m_isParty l dC dI m0 g0 g1 g2 g3 g4 g9 g17 g18 g20 g21 g22 g23 g24 g25 g26 g27 g28 g29 g30 H.size k0) (cwV 1 hT (gV w1284 w1286 ws73 w14 w1287) rfl rfl rfl (by decide +kernel) ⟨(Nat.le_of_ble_eq_true rfl), (Nat.le_of_ble_eq_true rfl)⟩) ⟨pcW.blind, va_recv hKc hPc (ci := 12) (q0 := 0) rfl rfl, pcW.pre hPc hKc hDc⟩ rfl rfl hl.1 rfl (lv_room (Nat.le_of_ble_eq_true rfl)) dX12_side_7 ⟨(Nat.le_of_ble_eq_true rfl), (Nat.le_of_ble_eq_true rfl)⟩)) (fun r_7 hr_7 => ?_)
  obtain rfl : r_7 = 0 := hr_7
  refine lv_if_eq (tgt := 33) hx hb dX12_side_10 (by decide) (fun _ => ?_) (fun h => absurd (by decide) h)
  refine lv_bipush (v := (-2)) hx hb dX12_side_33 (by decide) ?_
  refine W.widen (k := 0) (n := 0) (Nat.le_of_ble_eq_true rfl) (Nat.le_of_ble_eq_true rfl) ?_
  exact W.iret (v := (-2)) hx hb hr (fun t ht hW => ⟨⟨(-2), (), rfl, rfl, trivial⟩, hS.F ht⟩) hS.2.2 dX12_side_35

set_option maxHeartbeats 4000000 in
set_option maxRecDepth 100000 in
theorem m_without (l : Launch) (dC : Nat → ClassId) (dI : Nat → Nat → Nat) (m0 : Nat) (g0 : Nat) (g1 : Nat) (g2 : Nat) (g3 : Nat) (g4 : Nat) (g9 : Nat) (g17 : Nat) (g18 : Nat) (g20 : Nat) (g21 : Nat) (g22 : Nat) (g23 : Nat) (g24 : Nat) (g25 : Nat) (g26 : Nat) (g27 : Nat) (g28 : Nat) (g29 : Nat) (g30 : Nat) (sz : Nat) (k0 : Int32) (k1 : Int32) : Met l yX12_without (wT yX12_without cX12_without 5 (some .int)) ({ frames := 2, cells := 0, slots := 0, locals := 46 }) (pcW dC dI [.ref m0, .int k0, .int k1] sz [(m0, .inr (12, [.ref g0, .ref g1, .ref g2, .ref g3, .ref g4, .int 0, .int 0, .int 0, .int 0, .ref g9, .int 0, .int 0, .int 0, .int 0, .int (-1), .int 0, .int 0, .ref g17, .ref g18, .int 0, .ref g20, .ref g21, .ref g22, .ref g23, .ref g24, .ref g25, .ref g26, .ref g27, .ref g28, .ref g29, .ref g30, .int 0]))] []) (va_Qi (fun (r : Int32) (_ : Unit) => r = (-2)) (fun _ _ => True) (va_A [(m0, .inr (12, [.ref g0, .ref g1, .ref g2, .ref g3, .ref g4, .int 0, .int 0, .int 0, .int 0, .ref g9, .int 0, .int 0, .int 0, .int 0, .int (-1), .int 0, .int 0, .ref g17, .ref g18, .int 0, .ref g20, .ref g21, .ref g22, .ref g23, .ref g24, .ref g25, .ref g26, .ref g27, .ref g28, .ref g29, .ref g30, .int 0]))] sz)) 0 0 (va_A [(m0, .inr (12, [.ref g0, .ref g1, .ref g2, .ref g3, .ref g4, .int 0, .int 0, .int 0, .int 0, .ref g9, .int 0, .int 0, .int 0, .int 0, .int (-1), .int 0, .int 0, .ref g17, .ref g18, .int 0, .ref g20, .ref g21, .ref g22, .ref g23, .ref g24, .ref g25, .ref g26, .ref g27, .ref g28, .ref g29, .ref g30, .int 0]))] sz) := by
  refine Met.ofW (cc := cX12_without) (maxL := 5) (ret := (some .int)) (by decide) rfl ?_
  intro p e s m args below meth c s₁ B hml hv
  obtain ⟨rfl, hsz, hP, hK, hD0⟩ := hv
  have hx := B.exec
  have hb := B.bytes
  have hr := B.returns
  have hT : ∀ w ∈ TB, w.before [.ref m0, .int k0, .int k1].toArray s = true := fun w h => atoms_spec (ws := wT yX12_without cX12_without 5 (some .int)) B.pre w (List.mem_cons_of_mem _ h)
  have hown : s.vm.findClass RX12 = some m.cls := findClass_of_methodNamed B.named
  have hlocks := B.notSynchronized
  subst hsz
  have hD := hD0.self (sz := s.heap.size)
  generalize hAe : va_A [(m0, .inr (12, [.ref g0, .ref g1, .ref g2, .ref g3, .ref g4, .int 0, .int 0, .int 0, .int 0, .ref g9, .int 0, .int 0, .int 0, .int 0, .int (-1), .int 0, .int 0, .ref g17, .ref g18, .int 0, .ref g20, .ref g21, .ref g22, .ref g23, .ref g24, .ref g25, .ref g26, .ref g27, .ref g28, .ref g29, .ref g30, .int 0]))] s.heap.size = A at hD ⊢
  have hA : ∀ q : Nat, s.heap.size ≤ q → A q := fun q h => by rw [← hAe]; exact Or.inr h
  have hS : va_S A s.heap s.heap [] := va_S.rf
  have hP : va_P (dC, dI) vwCl [(m0, .inr (12, [.ref g0, .ref g1, .ref g2, .ref g3, .ref g4, .int 0, .int 0, .int 0, .int 0, .ref g9, .int 0, .int 0, .int 0, .int 0, .int (-1), .int 0, .int 0, .ref g17, .ref g18, .int 0, .ref g20, .ref g21, .ref g22, .ref g23, .ref g24, .ref g25, .ref g26, .ref g27, .ref g28, .ref g29, .ref g30, .int 0]))] s.heap := hP
  have hl := lv_entry ([.ref m0, .int k0, .int k1]) (n := 5) (Nat.le_of_ble_eq_true rfl)
  rw [lg_entry_eq]
  generalize (lg_sl ([.ref m0, .int k0, .int k1]) ++ List.replicate (5 - (lg_sl ([.ref m0, .int k0, .int k1])).length) Slot.unset).toArray = ls at hl ⊢
  have hl : lv_has ls 5 [(0, .ref m0), (1, .int k0), (2, .int k1)] := hl
  refine lv_aload_n hx hb dX12_without_0 rfl (lv_at hl 0 rfl) ?_
  refine lv_iconst (v := 0) hx hb dX12_without_1 (by decide) ?_
  refine va_put (D := (dC, dI)) (ci := 12) (v := .int 0) (ty := .int) (C := RX12) (T := TX12) (N := 32) hx hb hT iX12 tyX12 tyX12_ok nmX12 hown hK hP hD hS 0 rfl rfl 8 (by decide) (hT _ w1090) (fun _ h9 => h9) rfl (by decide +kernel) rfl rfl (Nat.le_of_ble_eq_true rfl) dX12_without_2 (fun H locs hP hD hS => ?_)
  have hP : va_P (dC, dI) vwCl [(m0, .inr (12, [.ref g0, .ref g1, .ref g2, .ref g3, .ref g4, .int 0, .int 0, .int 0, .int 0, .ref g9, .int 0, .int 0, .int 0, .int 0, .int (-1), .int 0, .int 0, .ref g17, .ref g18, .int 0, .ref g20, .ref g21, .ref g22, .ref g23, .ref g24, .ref g25, .ref g26, .ref g27, .ref g28, .ref g29, .ref g30, .int 0]))] H := hP
  have hD : va_D A [(m0, .inr (12, [.ref g0, .ref g1, .ref g2, .ref g3, .ref g4, .int 0, .int 0, .int 0, .int 0, .ref g9, .int 0, .int 0, .int 0, .int 0, .int (-1), .int 0, .int 0, .ref g17, .ref g18, .int 0, .ref g20, .ref g21, .ref g22, .ref g23, .ref g24, .ref g25, .ref g26, .ref g27, .ref g28, .ref g29, .ref g30, .int 0]))] := hD
  refine lv_aload_n hx hb dX12_without_5 rfl (lv_at hl 0 rfl) ?_
  refine lv_iload_n hx hb dX12_without_6 rfl (lv_at hl 1 rfl) ?_
  have hPc := hP.sub (ws' := [(m0, .inr (12, [.ref g0, .ref g1, .ref g2, .ref g3, .ref g4, .int 0, .int 0, .int 0, .int 0, .ref g9, .int 0, .int 0, .int 0, .int 0, .int (-1), .int 0, .int 0, .ref g17, .ref g18, .int 0, .ref g20, .ref g21, .ref g22, .ref g23, .ref g24, .ref g25, .ref g26, .ref g27, .ref g28, .ref g29, .ref g30, .int 0]))]) [0] rfl
  have hDc := hD.sub (ws' := [(m0, .inr (12, [.ref g0, .ref g1, .ref g2, .ref g3, .ref g4, .int 0, .int 0, .int 0, .int 0, .ref g9, .int 0, .int 0, .int 0, .int 0, .int (-1), .int 0, .int 0, .ref g17, .ref g18, .int 0, .ref g20, .ref g21, .ref g22, .ref g23, .ref g24, .ref g25, .ref g26, .ref g27, .ref g28, .ref g29, .ref g30, .int 0]))]) [0] (by decide) rfl
  have hKc := hK.sub (tys' := []) [] rfl
  refine vp_callSi (va_Run.run (va_runV (As := [.int k0]) (rest := []) ⟨hx, hb, hml, hown, hT⟩ (m_isParty l dC dI m0 g0 g1 g2 g3 g4 g9 g17 g18 g20 g21 g22 g23 g24 g25 g26 g27 g28 g29 g30 H.size k0) (cwV 1 hT (gV w1284 w1286 ws73 w14 w1287) rfl rfl rfl (by decide +kernel) ⟨(Nat.le_of_ble_eq_true rfl), (Nat.le_of_ble_eq_true rfl)⟩) ⟨pcW.blind, va_recv hKc hPc (ci := 12) (q0 := 0) rfl rfl, pcW.pre hPc hKc hDc⟩ rfl rfl hl.1 rfl (lv_room (Nat.le_of_ble_eq_true rfl)) dX12_without_7 ⟨(Nat.le_of_ble_eq_true rfl), (Nat.le_of_ble_eq_true rfl)⟩)) (fun r_7 hr_7 => ?_)
  obtain rfl : r_7 = 0 := hr_7
  refine lv_if_eq (tgt := 21) hx hb dX12_without_10 (by decide) (fun _ => ?_) (fun h => absurd (by decide) h)
  refine lv_bipush (v := (-2)) hx hb dX12_without_21 (by decide) ?_
  refine W.widen (k := 0) (n := 0) (Nat.le_of_ble_eq_true rfl) (Nat.le_of_ble_eq_true rfl) ?_
  exact W.iret (v := (-2)) hx hb hr (fun t ht hW => ⟨⟨(-2), (), rfl, rfl, trivial⟩, hS.F ht⟩) hS.2.2 dX12_without_23

set_option maxHeartbeats 4000000 in
set_option maxRecDepth 100000 in
theorem m_relief (l : Launch) (dC : Nat → ClassId) (dI : Nat → Nat → Nat) (m0 : Nat) (g0 : Nat) (g1 : Nat) (g2 : Nat) (g3 : Nat) (g4 : Nat) (g9 : Nat) (g17 : Nat) (g18 : Nat) (g20 : Nat) (g21 : Nat) (g22 : Nat) (g23 : Nat) (g24 : Nat) (g25 : Nat) (g26 : Nat) (g27 : Nat) (g28 : Nat) (g29 : Nat) (g30 : Nat) (sz : Nat) (k0 : Int32) (k1 : Int32) : Met l yX12_relief (wT yX12_relief cX12_relief 3 (some .int)) ({ frames := 2, cells := 0, slots := 0, locals := 46 }) (pcW dC dI [.ref m0, .int k0, .int k1] sz [(m0, .inr (12, [.ref g0, .ref g1, .ref g2, .ref g3, .ref g4, .int 0, .int 0, .int 0, .int 0, .ref g9, .int 0, .int 0, .int 0, .int 0, .int (-1), .int 0, .int 0, .ref g17, .ref g18, .int 0, .ref g20, .ref g21, .ref g22, .ref g23, .ref g24, .ref g25, .ref g26, .ref g27, .ref g28, .ref g29, .ref g30, .int 0]))] []) (va_Qi (fun (r : Int32) (_ : Unit) => r = (-2)) (fun _ _ => True) (va_A [(m0, .inr (12, [.ref g0, .ref g1, .ref g2, .ref g3, .ref g4, .int 0, .int 0, .int 0, .int 0, .ref g9, .int 0, .int 0, .int 0, .int 0, .int (-1), .int 0, .int 0, .ref g17, .ref g18, .int 0, .ref g20, .ref g21, .ref g22, .ref g23, .ref g24, .ref g25, .ref g26, .ref g27, .ref g28, .ref g29, .ref g30, .int 0]))] sz)) 0 0 (va_A [(m0, .inr (12, [.ref g0, .ref g1, .ref g2, .ref g3, .ref g4, .int 0, .int 0, .int 0, .int 0, .ref g9, .int 0, .int 0, .int 0, .int 0, .int (-1), .int 0, .int 0, .ref g17, .ref g18, .int 0, .ref g20, .ref g21, .ref g22, .ref g23, .ref g24, .ref g25, .ref g26, .ref g27, .ref g28, .ref g29, .ref g30, .int 0]))] sz) := by
  refine Met.ofW (cc := cX12_relief) (maxL := 3) (ret := (some .int)) (by decide) rfl ?_
  intro p e s m args below meth c s₁ B hml hv
  obtain ⟨rfl, hsz, hP, hK, hD0⟩ := hv
  have hx := B.exec
  have hb := B.bytes
  have hr := B.returns
  have hT : ∀ w ∈ TB, w.before [.ref m0, .int k0, .int k1].toArray s = true := fun w h => atoms_spec (ws := wT yX12_relief cX12_relief 3 (some .int)) B.pre w (List.mem_cons_of_mem _ h)
  have hown : s.vm.findClass RX12 = some m.cls := findClass_of_methodNamed B.named
  have hlocks := B.notSynchronized
  subst hsz
  have hD := hD0.self (sz := s.heap.size)
  generalize hAe : va_A [(m0, .inr (12, [.ref g0, .ref g1, .ref g2, .ref g3, .ref g4, .int 0, .int 0, .int 0, .int 0, .ref g9, .int 0, .int 0, .int 0, .int 0, .int (-1), .int 0, .int 0, .ref g17, .ref g18, .int 0, .ref g20, .ref g21, .ref g22, .ref g23, .ref g24, .ref g25, .ref g26, .ref g27, .ref g28, .ref g29, .ref g30, .int 0]))] s.heap.size = A at hD ⊢
  have hA : ∀ q : Nat, s.heap.size ≤ q → A q := fun q h => by rw [← hAe]; exact Or.inr h
  have hS : va_S A s.heap s.heap [] := va_S.rf
  have hP : va_P (dC, dI) vwCl [(m0, .inr (12, [.ref g0, .ref g1, .ref g2, .ref g3, .ref g4, .int 0, .int 0, .int 0, .int 0, .ref g9, .int 0, .int 0, .int 0, .int 0, .int (-1), .int 0, .int 0, .ref g17, .ref g18, .int 0, .ref g20, .ref g21, .ref g22, .ref g23, .ref g24, .ref g25, .ref g26, .ref g27, .ref g28, .ref g29, .ref g30, .int 0]))] s.heap := hP
  have hl := lv_entry ([.ref m0, .int k0, .int k1]) (n := 3) (Nat.le_of_ble_eq_true rfl)
  rw [lg_entry_eq]
  generalize (lg_sl ([.ref m0, .int k0, .int k1]) ++ List.replicate (3 - (lg_sl ([.ref m0, .int k0, .int k1])).length) Slot.unset).toArray = ls at hl ⊢
  have hl : lv_has ls 3 [(0, .ref m0), (1, .int k0), (2, .int k1)] := hl
  refine lv_aload_n hx hb dX12_relief_0 rfl (lv_at hl 0 rfl) ?_
  refine lv_iconst (v := 0) hx hb dX12_relief_1 (by decide) ?_
  refine va_put (D := (dC, dI)) (ci := 12) (v := .int 0) (ty := .int) (C := RX12) (T := TX12) (N := 32) hx hb hT iX12 tyX12 tyX12_ok nmX12 hown hK hP hD hS 0 rfl rfl 8 (by decide) (hT _ w1090) (fun _ h9 => h9) rfl (by decide +kernel) rfl rfl (Nat.le_of_ble_eq_true rfl) dX12_relief_2 (fun H locs hP hD hS => ?_)
  have hP : va_P (dC, dI) vwCl [(m0, .inr (12, [.ref g0, .ref g1, .ref g2, .ref g3, .ref g4, .int 0, .int 0, .int 0, .int 0, .ref g9, .int 0, .int 0, .int 0, .int 0, .int (-1), .int 0, .int 0, .ref g17, .ref g18, .int 0, .ref g20, .ref g21, .ref g22, .ref g23, .ref g24, .ref g25, .ref g26, .ref g27, .ref g28, .ref g29, .ref g30, .int 0]))] H := hP
  have hD : va_D A [(m0, .inr (12, [.ref g0, .ref g1, .ref g2, .ref g3, .ref g4, .int 0, .int 0, .int 0, .int 0, .ref g9, .int 0, .int 0, .int 0, .int 0, .int (-1), .int 0, .int 0, .ref g17, .ref g18, .int 0, .ref g20, .ref g21, .ref g22, .ref g23, .ref g24, .ref g25, .ref g26, .ref g27, .ref g28, .ref g29, .ref g30, .int 0]))] := hD
  refine lv_aload_n hx hb dX12_relief_5 rfl (lv_at hl 0 rfl) ?_
  refine lv_iload_n hx hb dX12_relief_6 rfl (lv_at hl 1 rfl) ?_
  have hPc := hP.sub (ws' := [(m0, .inr (12, [.ref g0, .ref g1, .ref g2, .ref g3, .ref g4, .int 0, .int 0, .int 0, .int 0, .ref g9, .int 0, .int 0, .int 0, .int 0, .int (-1), .int 0, .int 0, .ref g17, .ref g18, .int 0, .ref g20, .ref g21, .ref g22, .ref g23, .ref g24, .ref g25, .ref g26, .ref g27, .ref g28, .ref g29, .ref g30, .int 0]))]) [0] rfl
  have hDc := hD.sub (ws' := [(m0, .inr (12, [.ref g0, .ref g1, .ref g2, .ref g3, .ref g4, .int 0, .int 0, .int 0, .int 0, .ref g9, .int 0, .int 0, .int 0, .int 0, .int (-1), .int 0, .int 0, .ref g17, .ref g18, .int 0, .ref g20, .ref g21, .ref g22, .ref g23, .ref g24, .ref g25, .ref g26, .ref g27, .ref g28, .ref g29, .ref g30, .int 0]))]) [0] (by decide) rfl
  have hKc := hK.sub (tys' := []) [] rfl
  refine vp_callSi (va_Run.run (va_runV (As := [.int k0]) (rest := []) ⟨hx, hb, hml, hown, hT⟩ (m_isParty l dC dI m0 g0 g1 g2 g3 g4 g9 g17 g18 g20 g21 g22 g23 g24 g25 g26 g27 g28 g29 g30 H.size k0) (cwV 1 hT (gV w1284 w1286 ws73 w14 w1287) rfl rfl rfl (by decide +kernel) ⟨(Nat.le_of_ble_eq_true rfl), (Nat.le_of_ble_eq_true rfl)⟩) ⟨pcW.blind, va_recv hKc hPc (ci := 12) (q0 := 0) rfl rfl, pcW.pre hPc hKc hDc⟩ rfl rfl hl.1 rfl (lv_room (Nat.le_of_ble_eq_true rfl)) dX12_relief_7 ⟨(Nat.le_of_ble_eq_true rfl), (Nat.le_of_ble_eq_true rfl)⟩)) (fun r_7 hr_7 => ?_)
  obtain rfl : r_7 = 0 := hr_7
  refine lv_if_eq (tgt := 21) hx hb dX12_relief_10 (by decide) (fun _ => ?_) (fun h => absurd (by decide) h)
  refine lv_bipush (v := (-2)) hx hb dX12_relief_21 (by decide) ?_
  refine W.widen (k := 0) (n := 0) (Nat.le_of_ble_eq_true rfl) (Nat.le_of_ble_eq_true rfl) ?_
  exact W.iret (v := (-2)) hx hb hr (fun t ht hW => ⟨⟨(-2), (), rfl, rfl, trivial⟩, hS.F ht⟩) hS.2.2 dX12_relief_23

set_option maxHeartbeats 4000000 in
set_option maxRecDepth 100000 in
theorem m_through (l : Launch) (dC : Nat → ClassId) (dI : Nat → Nat → Nat) (m0 : Nat) (g0 : Nat) (g1 : Nat) (g2 : Nat) (g3 : Nat) (g4 : Nat) (g9 : Nat) (g17 : Nat) (g18 : Nat) (g20 : Nat) (g21 : Nat) (g22 : Nat) (g23 : Nat) (g24 : Nat) (g25 : Nat) (g26 : Nat) (g27 : Nat) (g28 : Nat) (g29 : Nat) (g30 : Nat) (sz : Nat) (k0 : Int32) (k1 : Int32) (k2 : Int32) : Met l yX12_through (wT yX12_through cX12_through 4 (some .int)) ({ frames := 2, cells := 0, slots := 0, locals := 46 }) (pcW dC dI [.ref m0, .int k0, .int k1, .int k2] sz [(m0, .inr (12, [.ref g0, .ref g1, .ref g2, .ref g3, .ref g4, .int 0, .int 0, .int 0, .int 0, .ref g9, .int 0, .int 0, .int 0, .int 0, .int (-1), .int 0, .int 0, .ref g17, .ref g18, .int 0, .ref g20, .ref g21, .ref g22, .ref g23, .ref g24, .ref g25, .ref g26, .ref g27, .ref g28, .ref g29, .ref g30, .int 0]))] []) (va_Qi (fun (r : Int32) (_ : Unit) => r = (-2)) (fun _ _ => True) (va_A [(m0, .inr (12, [.ref g0, .ref g1, .ref g2, .ref g3, .ref g4, .int 0, .int 0, .int 0, .int 0, .ref g9, .int 0, .int 0, .int 0, .int 0, .int (-1), .int 0, .int 0, .ref g17, .ref g18, .int 0, .ref g20, .ref g21, .ref g22, .ref g23, .ref g24, .ref g25, .ref g26, .ref g27, .ref g28, .ref g29, .ref g30, .int 0]))] sz)) 0 0 (va_A [(m0, .inr (12, [.ref g0, .ref g1, .ref g2, .ref g3, .ref g4, .int 0, .int 0, .int 0, .int 0, .ref g9, .int 0, .int 0, .int 0, .int 0, .int (-1), .int 0, .int 0, .ref g17, .ref g18, .int 0, .ref g20, .ref g21, .ref g22, .ref g23, .ref g24, .ref g25, .ref g26, .ref g27, .ref g28, .ref g29, .ref g30, .int 0]))] sz) := by
  refine Met.ofW (cc := cX12_through) (maxL := 4) (ret := (some .int)) (by decide) rfl ?_
  intro p e s m args below meth c s₁ B hml hv
  obtain ⟨rfl, hsz, hP, hK, hD0⟩ := hv
  have hx := B.exec
  have hb := B.bytes
  have hr := B.returns
  have hT : ∀ w ∈ TB, w.before [.ref m0, .int k0, .int k1, .int k2].toArray s = true := fun w h => atoms_spec (ws := wT yX12_through cX12_through 4 (some .int)) B.pre w (List.mem_cons_of_mem _ h)
  have hown : s.vm.findClass RX12 = some m.cls := findClass_of_methodNamed B.named
  have hlocks := B.notSynchronized
  subst hsz
  have hD := hD0.self (sz := s.heap.size)
  generalize hAe : va_A [(m0, .inr (12, [.ref g0, .ref g1, .ref g2, .ref g3, .ref g4, .int 0, .int 0, .int 0, .int 0, .ref g9, .int 0, .int 0, .int 0, .int 0, .int (-1), .int 0, .int 0, .ref g17, .ref g18, .int 0, .ref g20, .ref g21, .ref g22, .ref g23, .ref g24, .ref g25, .ref g26, .ref g27, .ref g28, .ref g29, .ref g30, .int 0]))] s.heap.size = A at hD ⊢
  have hA : ∀ q : Nat, s.heap.size ≤ q → A q := fun q h => by rw [← hAe]; exact Or.inr h
  have hS : va_S A s.heap s.heap [] := va_S.rf
  have hP : va_P (dC, dI) vwCl [(m0, .inr (12, [.ref g0, .ref g1, .ref g2, .ref g3, .ref g4, .int 0, .int 0, .int 0, .int 0, .ref g9, .int 0, .int 0, .int 0, .int 0, .int (-1), .int 0, .int 0, .ref g17, .ref g18, .int 0, .ref g20, .ref g21, .ref g22, .ref g23, .ref g24, .ref g25, .ref g26, .ref g27, .ref g28, .ref g29, .ref g30, .int 0]))] s.heap := hP
  have hl := lv_entry ([.ref m0, .int k0, .int k1, .int k2]) (n := 4) (Nat.le_of_ble_eq_true rfl)
  rw [lg_entry_eq]
  generalize (lg_sl ([.ref m0, .int k0, .int k1, .int k2]) ++ List.replicate (4 - (lg_sl ([.ref m0, .int k0, .int k1, .int k2])).length) Slot.unset).toArray = ls at hl ⊢
  have hl : lv_has ls 4 [(0, .ref m0), (1, .int k0), (2, .int k1), (3, .int k2)] := hl
  refine lv_aload_n hx hb dX12_through_0 rfl (lv_at hl 0 rfl) ?_
  refine lv_iconst (v := 0) hx hb dX12_through_1 (by decide) ?_
  refine va_put (D := (dC, dI)) (ci := 12) (v := .int 0) (ty := .int) (C := RX12) (T := TX12) (N := 32) hx hb hT iX12 tyX12 tyX12_ok nmX12 hown hK hP hD hS 0 rfl rfl 8 (by decide) (hT _ w1090) (fun _ h9 => h9) rfl (by decide +kernel) rfl rfl (Nat.le_of_ble_eq_true rfl) dX12_through_2 (fun H locs hP hD hS => ?_)
  have hP : va_P (dC, dI) vwCl [(m0, .inr (12, [.ref g0, .ref g1, .ref g2, .ref g3, .ref g4, .int 0, .int 0, .int 0, .int 0, .ref g9, .int 0, .int 0, .int 0, .int 0, .int (-1), .int 0, .int 0, .ref g17, .ref g18, .int 0, .ref g20, .ref g21, .ref g22, .ref g23, .ref g24, .ref g25, .ref g26, .ref g27, .ref g28, .ref g29, .ref g30, .int 0]))] H := hP
  have hD : va_D A [(m0, .inr (12, [.ref g0, .ref g1, .ref g2, .ref g3, .ref g4, .int 0, .int 0, .int 0, .int 0, .ref g9, .int 0, .int 0, .int 0, .int 0, .int (-1), .int 0, .int 0, .ref g17, .ref g18, .int 0, .ref g20, .ref g21, .ref g22, .ref g23, .ref g24, .ref g25, .ref g26, .ref g27, .ref g28, .ref g29, .ref g30, .int 0]))] := hD
  refine lv_aload_n hx hb dX12_through_5 rfl (lv_at hl 0 rfl) ?_
  refine lv_iload_n hx hb dX12_through_6 rfl (lv_at hl 1 rfl) ?_
  have hPc := hP.sub (ws' := [(m0, .inr (12, [.ref g0, .ref g1, .ref g2, .ref g3, .ref g4, .int 0, .int 0, .int 0, .int 0, .ref g9, .int 0, .int 0, .int 0, .int 0, .int (-1), .int 0, .int 0, .ref g17, .ref g18, .int 0, .ref g20, .ref g21, .ref g22, .ref g23, .ref g24, .ref g25, .ref g26, .ref g27, .ref g28, .ref g29, .ref g30, .int 0]))]) [0] rfl
  have hDc := hD.sub (ws' := [(m0, .inr (12, [.ref g0, .ref g1, .ref g2, .ref g3, .ref g4, .int 0, .int 0, .int 0, .int 0, .ref g9, .int 0, .int 0, .int 0, .int 0, .int (-1), .int 0, .int 0, .ref g17, .ref g18, .int 0, .ref g20, .ref g21, .ref g22, .ref g23, .ref g24, .ref g25, .ref g26, .ref g27, .ref g28, .ref g29, .ref g30, .int 0]))]) [0] (by decide) rfl
  have hKc := hK.sub (tys' := []) [] rfl
  refine vp_callSi (va_Run.run (va_runV (As := [.int k0]) (rest := []) ⟨hx, hb, hml, hown, hT⟩ (m_isParty l dC dI m0 g0 g1 g2 g3 g4 g9 g17 g18 g20 g21 g22 g23 g24 g25 g26 g27 g28 g29 g30 H.size k0) (cwV 1 hT (gV w1284 w1286 ws73 w14 w1287) rfl rfl rfl (by decide +kernel) ⟨(Nat.le_of_ble_eq_true rfl), (Nat.le_of_ble_eq_true rfl)⟩) ⟨pcW.blind, va_recv hKc hPc (ci := 12) (q0 := 0) rfl rfl, pcW.pre hPc hKc hDc⟩ rfl rfl hl.1 rfl (lv_room (Nat.le_of_ble_eq_true rfl)) dX12_through_7 ⟨(Nat.le_of_ble_eq_true rfl), (Nat.le_of_ble_eq_true rfl)⟩)) (fun r_7 hr_7 => ?_)
  obtain rfl : r_7 = 0 := hr_7
  refine lv_if_eq (tgt := 31) hx hb dX12_through_10 (by decide) (fun _ => ?_) (fun h => absurd (by decide) h)
  refine lv_bipush (v := (-2)) hx hb dX12_through_31 (by decide) ?_
  refine W.widen (k := 0) (n := 0) (Nat.le_of_ble_eq_true rfl) (Nat.le_of_ble_eq_true rfl) ?_
  exact W.iret (v := (-2)) hx hb hr (fun t ht hW => ⟨⟨(-2), (), rfl, rfl, trivial⟩, hS.F ht⟩) hS.2.2 dX12_through_33

set_option maxHeartbeats 4000000 in
set_option maxRecDepth 100000 in
theorem m_takeRing (l : Launch) (dC : Nat → ClassId) (dI : Nat → Nat → Nat) (m0 : Nat) (g0 : Nat) (g1 : Nat) (g2 : Nat) (g3 : Nat) (g4 : Nat) (g9 : Nat) (g17 : Nat) (g18 : Nat) (g20 : Nat) (g21 : Nat) (g22 : Nat) (g23 : Nat) (g24 : Nat) (g25 : Nat) (g26 : Nat) (g27 : Nat) (g28 : Nat) (g29 : Nat) (g30 : Nat) (sz : Nat) (k0 : Int32) : Met l yX12_takeRing (wT yX12_takeRing cX12_takeRing 7 (some .int)) ({ frames := 2, cells := 0, slots := 0, locals := 46 }) (pcW dC dI [.ref m0, .int k0] sz [(m0, .inr (12, [.ref g0, .ref g1, .ref g2, .ref g3, .ref g4, .int 0, .int 0, .int 0, .int 0, .ref g9, .int 0, .int 0, .int 0, .int 0, .int (-1), .int 0, .int 0, .ref g17, .ref g18, .int 0, .ref g20, .ref g21, .ref g22, .ref g23, .ref g24, .ref g25, .ref g26, .ref g27, .ref g28, .ref g29, .ref g30, .int 0]))] []) (va_Qi (fun (r : Int32) (_ : Unit) => r = (-2)) (fun _ _ => True) (va_A [(m0, .inr (12, [.ref g0, .ref g1, .ref g2, .ref g3, .ref g4, .int 0, .int 0, .int 0, .int 0, .ref g9, .int 0, .int 0, .int 0, .int 0, .int (-1), .int 0, .int 0, .ref g17, .ref g18, .int 0, .ref g20, .ref g21, .ref g22, .ref g23, .ref g24, .ref g25, .ref g26, .ref g27, .ref g28, .ref g29, .ref g30, .int 0]))] sz)) 0 0 (va_A [(m0, .inr (12, [.ref g0, .ref g1, .ref g2, .ref g3, .ref g4, .int 0, .int 0, .int 0, .int 0, .ref g9, .int 0, .int 0, .int 0, .int 0, .int (-1), .int 0, .int 0, .ref g17, .ref g18, .int 0, .ref g20, .ref g21, .ref g22, .ref g23, .ref g24, .ref g25, .ref g26, .ref g27, .ref g28, .ref g29, .ref g30, .int 0]))] sz) := by
  refine Met.ofW (cc := cX12_takeRing) (maxL := 7) (ret := (some .int)) (by decide) rfl ?_
  intro p e s m args below meth c s₁ B hml hv
  obtain ⟨rfl, hsz, hP, hK, hD0⟩ := hv
  have hx := B.exec
  have hb := B.bytes
  have hr := B.returns
  have hT : ∀ w ∈ TB, w.before [.ref m0, .int k0].toArray s = true := fun w h => atoms_spec (ws := wT yX12_takeRing cX12_takeRing 7 (some .int)) B.pre w (List.mem_cons_of_mem _ h)
  have hown : s.vm.findClass RX12 = some m.cls := findClass_of_methodNamed B.named
  have hlocks := B.notSynchronized
  subst hsz
  have hD := hD0.self (sz := s.heap.size)
  generalize hAe : va_A [(m0, .inr (12, [.ref g0, .ref g1, .ref g2, .ref g3, .ref g4, .int 0, .int 0, .int 0, .int 0, .ref g9, .int 0, .int 0, .int 0, .int 0, .int (-1), .int 0, .int 0, .ref g17, .ref g18, .int 0, .ref g20, .ref g21, .ref g22, .ref g23, .ref g24, .ref g25, .ref g26, .ref g27, .ref g28, .ref g29, .ref g30, .int 0]))] s.heap.size = A at hD ⊢
  have hA : ∀ q : Nat, s.heap.size ≤ q → A q := fun q h => by rw [← hAe]; exact Or.inr h
  have hS : va_S A s.heap s.heap [] := va_S.rf
  have hP : va_P (dC, dI) vwCl [(m0, .inr (12, [.ref g0, .ref g1, .ref g2, .ref g3, .ref g4, .int 0, .int 0, .int 0, .int 0, .ref g9, .int 0, .int 0, .int 0, .int 0, .int (-1), .int 0, .int 0, .ref g17, .ref g18, .int 0, .ref g20, .ref g21, .ref g22, .ref g23, .ref g24, .ref g25, .ref g26, .ref g27, .ref g28, .ref g29, .ref g30, .int 0]))] s.heap := hP
  have hl := lv_entry ([.ref m0, .int k0]) (n := 7) (Nat.le_of_ble_eq_true rfl)
  rw [lg_entry_eq]
  generalize (lg_sl ([.ref m0, .int k0]) ++ List.replicate (7 - (lg_sl ([.ref m0, .int k0])).length) Slot.unset).toArray = ls at hl ⊢
  have hl : lv_has ls 7 [(0, .ref m0), (1, .int k0)] := hl
  refine lv_aload_n hx hb dX12_takeRing_0 rfl (lv_at hl 0 rfl) ?_
  refine lv_iconst (v := 0) hx hb dX12_takeRing_1 (by decide) ?_
  refine va_put (D := (dC, dI)) (ci := 12) (v := .int 0) (ty := .int) (C := RX12) (T := TX12) (N := 32) hx hb hT iX12 tyX12 tyX12_ok nmX12 hown hK hP hD hS 0 rfl rfl 8 (by decide) (hT _ w1090) (fun _ h9 => h9) rfl (by decide +kernel) rfl rfl (Nat.le_of_ble_eq_true rfl) dX12_takeRing_2 (fun H locs hP hD hS => ?_)
  have hP : va_P (dC, dI) vwCl [(m0, .inr (12, [.ref g0, .ref g1, .ref g2, .ref g3, .ref g4, .int 0, .int 0, .int 0, .int 0, .ref g9, .int 0, .int 0, .int 0, .int 0, .int (-1), .int 0, .int 0, .ref g17, .ref g18, .int 0, .ref g20, .ref g21, .ref g22, .ref g23, .ref g24, .ref g25, .ref g26, .ref g27, .ref g28, .ref g29, .ref g30, .int 0]))] H := hP
  have hD : va_D A [(m0, .inr (12, [.ref g0, .ref g1, .ref g2, .ref g3, .ref g4, .int 0, .int 0, .int 0, .int 0, .ref g9, .int 0, .int 0, .int 0, .int 0, .int (-1), .int 0, .int 0, .ref g17, .ref g18, .int 0, .ref g20, .ref g21, .ref g22, .ref g23, .ref g24, .ref g25, .ref g26, .ref g27, .ref g28, .ref g29, .ref g30, .int 0]))] := hD
  refine lv_aload_n hx hb dX12_takeRing_5 rfl (lv_at hl 0 rfl) ?_
  refine lv_iload_n hx hb dX12_takeRing_6 rfl (lv_at hl 1 rfl) ?_
  have hPc := hP.sub (ws' := [(m0, .inr (12, [.ref g0, .ref g1, .ref g2, .ref g3, .ref g4, .int 0, .int 0, .int 0, .int 0, .ref g9, .int 0, .int 0, .int 0, .int 0, .int (-1), .int 0, .int 0, .ref g17, .ref g18, .int 0, .ref g20, .ref g21, .ref g22, .ref g23, .ref g24, .ref g25, .ref g26, .ref g27, .ref g28, .ref g29, .ref g30, .int 0]))]) [0] rfl
  have hDc := hD.sub (ws' := [(m0, .inr (12, [.ref g0, .ref g1, .ref g2, .ref g3, .ref g4, .int 0, .int 0, .int 0, .int 0, .ref g9, .int 0, .int 0, .int 0, .int 0, .int (-1), .int 0, .int 0, .ref g17, .ref g18, .int 0, .ref g20, .ref g21, .ref g22, .ref g23, .ref g24, .ref g25, .ref g26, .ref g27, .ref g28, .ref g29, .ref g30, .int 0]))]) [0] (by decide) rfl
  have hKc := hK.sub (tys' := []) [] rfl
  refine vp_callSi (va_Run.run (va_runV (As := [.int k0]) (rest := []) ⟨hx, hb, hml, hown, hT⟩ (m_isKind l dC dI m0 g0 g1 g2 g3 g4 g9 g17 g18 g20 g21 g22 g23 g24 g25 g26 g27 g28 g29 g30 H.size k0) (cwV 1 hT (gV w1288 w1290 ws74 w14 w1291) rfl rfl rfl (by decide +kernel) ⟨(Nat.le_of_ble_eq_true rfl), (Nat.le_of_ble_eq_true rfl)⟩) ⟨pcW.blind, va_recv hKc hPc (ci := 12) (q0 := 0) rfl rfl, pcW.pre hPc hKc hDc⟩ rfl rfl hl.1 rfl (lv_room (Nat.le_of_ble_eq_true rfl)) dX12_takeRing_7 ⟨(Nat.le_of_ble_eq_true rfl), (Nat.le_of_ble_eq_true rfl)⟩)) (fun r_7 hr_7 => ?_)
  obtain rfl : r_7 = 0 := hr_7
  refine lv_if_ne (tgt := 16) hx hb dX12_takeRing_10 (by decide) (fun h => absurd (by decide) h) (fun _ => ?_)
  refine lv_bipush (v := (-2)) hx hb dX12_takeRing_13 (by decide) ?_
  refine W.widen (k := 0) (n := 0) (Nat.le_of_ble_eq_true rfl) (Nat.le_of_ble_eq_true rfl) ?_
  exact W.iret (v := (-2)) hx hb hr (fun t ht hW => ⟨⟨(-2), (), rfl, rfl, trivial⟩, hS.F ht⟩) hS.2.2 dX12_takeRing_15

set_option maxHeartbeats 4000000 in
set_option maxRecDepth 100000 in
theorem m_press (l : Launch) (dC : Nat → ClassId) (dI : Nat → Nat → Nat) (m0 : Nat) (g0 : Nat) (g1 : Nat) (g2 : Nat) (g3 : Nat) (g4 : Nat) (g9 : Nat) (g17 : Nat) (g18 : Nat) (g20 : Nat) (g21 : Nat) (g22 : Nat) (g23 : Nat) (g24 : Nat) (g25 : Nat) (g26 : Nat) (g27 : Nat) (g28 : Nat) (g29 : Nat) (g30 : Nat) (sz : Nat) (k0 : Int32) : Met l yX12_press (wT yX12_press cX12_press 4 (some .int)) ({ frames := 2, cells := 0, slots := 0, locals := 46 }) (pcW dC dI [.ref m0, .int k0] sz [(m0, .inr (12, [.ref g0, .ref g1, .ref g2, .ref g3, .ref g4, .int 0, .int 0, .int 0, .int 0, .ref g9, .int 0, .int 0, .int 0, .int 0, .int (-1), .int 0, .int 0, .ref g17, .ref g18, .int 0, .ref g20, .ref g21, .ref g22, .ref g23, .ref g24, .ref g25, .ref g26, .ref g27, .ref g28, .ref g29, .ref g30, .int 0]))] []) (va_Qi (fun (r : Int32) (_ : Unit) => r = (-2)) (fun _ _ => True) (va_A [(m0, .inr (12, [.ref g0, .ref g1, .ref g2, .ref g3, .ref g4, .int 0, .int 0, .int 0, .int 0, .ref g9, .int 0, .int 0, .int 0, .int 0, .int (-1), .int 0, .int 0, .ref g17, .ref g18, .int 0, .ref g20, .ref g21, .ref g22, .ref g23, .ref g24, .ref g25, .ref g26, .ref g27, .ref g28, .ref g29, .ref g30, .int 0]))] sz)) 0 0 (va_A [(m0, .inr (12, [.ref g0, .ref g1, .ref g2, .ref g3, .ref g4, .int 0, .int 0, .int 0, .int 0, .ref g9, .int 0, .int 0, .int 0, .int 0, .int (-1), .int 0, .int 0, .ref g17, .ref g18, .int 0, .ref g20, .ref g21, .ref g22, .ref g23, .ref g24, .ref g25, .ref g26, .ref g27, .ref g28, .ref g29, .ref g30, .int 0]))] sz) := by
  refine Met.ofW (cc := cX12_press) (maxL := 4) (ret := (some .int)) (by decide) rfl ?_
  intro p e s m args below meth c s₁ B hml hv
  obtain ⟨rfl, hsz, hP, hK, hD0⟩ := hv
  have hx := B.exec
  have hb := B.bytes
  have hr := B.returns
  have hT : ∀ w ∈ TB, w.before [.ref m0, .int k0].toArray s = true := fun w h => atoms_spec (ws := wT yX12_press cX12_press 4 (some .int)) B.pre w (List.mem_cons_of_mem _ h)
  have hown : s.vm.findClass RX12 = some m.cls := findClass_of_methodNamed B.named
  have hlocks := B.notSynchronized
  subst hsz
  have hD := hD0.self (sz := s.heap.size)
  generalize hAe : va_A [(m0, .inr (12, [.ref g0, .ref g1, .ref g2, .ref g3, .ref g4, .int 0, .int 0, .int 0, .int 0, .ref g9, .int 0, .int 0, .int 0, .int 0, .int (-1), .int 0, .int 0, .ref g17, .ref g18, .int 0, .ref g20, .ref g21, .ref g22, .ref g23, .ref g24, .ref g25, .ref g26, .ref g27, .ref g28, .ref g29, .ref g30, .int 0]))] s.heap.size = A at hD ⊢
  have hA : ∀ q : Nat, s.heap.size ≤ q → A q := fun q h => by rw [← hAe]; exact Or.inr h
  have hS : va_S A s.heap s.heap [] := va_S.rf
  have hP : va_P (dC, dI) vwCl [(m0, .inr (12, [.ref g0, .ref g1, .ref g2, .ref g3, .ref g4, .int 0, .int 0, .int 0, .int 0, .ref g9, .int 0, .int 0, .int 0, .int 0, .int (-1), .int 0, .int 0, .ref g17, .ref g18, .int 0, .ref g20, .ref g21, .ref g22, .ref g23, .ref g24, .ref g25, .ref g26, .ref g27, .ref g28, .ref g29, .ref g30, .int 0]))] s.heap := hP
  have hl := lv_entry ([.ref m0, .int k0]) (n := 4) (Nat.le_of_ble_eq_true rfl)
  rw [lg_entry_eq]
  generalize (lg_sl ([.ref m0, .int k0]) ++ List.replicate (4 - (lg_sl ([.ref m0, .int k0])).length) Slot.unset).toArray = ls at hl ⊢
  have hl : lv_has ls 4 [(0, .ref m0), (1, .int k0)] := hl
  refine lv_aload_n hx hb dX12_press_0 rfl (lv_at hl 0 rfl) ?_
  refine lv_iconst (v := 0) hx hb dX12_press_1 (by decide) ?_
  refine va_put (D := (dC, dI)) (ci := 12) (v := .int 0) (ty := .int) (C := RX12) (T := TX12) (N := 32) hx hb hT iX12 tyX12 tyX12_ok nmX12 hown hK hP hD hS 0 rfl rfl 8 (by decide) (hT _ w1090) (fun _ h9 => h9) rfl (by decide +kernel) rfl rfl (Nat.le_of_ble_eq_true rfl) dX12_press_2 (fun H locs hP hD hS => ?_)
  have hP : va_P (dC, dI) vwCl [(m0, .inr (12, [.ref g0, .ref g1, .ref g2, .ref g3, .ref g4, .int 0, .int 0, .int 0, .int 0, .ref g9, .int 0, .int 0, .int 0, .int 0, .int (-1), .int 0, .int 0, .ref g17, .ref g18, .int 0, .ref g20, .ref g21, .ref g22, .ref g23, .ref g24, .ref g25, .ref g26, .ref g27, .ref g28, .ref g29, .ref g30, .int 0]))] H := hP
  have hD : va_D A [(m0, .inr (12, [.ref g0, .ref g1, .ref g2, .ref g3, .ref g4, .int 0, .int 0, .int 0, .int 0, .ref g9, .int 0, .int 0, .int 0, .int 0, .int (-1), .int 0, .int 0, .ref g17, .ref g18, .int 0, .ref g20, .ref g21, .ref g22, .ref g23, .ref g24, .ref g25, .ref g26, .ref g27, .ref g28, .ref g29, .ref g30, .int 0]))] := hD
  refine lv_aload_n hx hb dX12_press_5 rfl (lv_at hl 0 rfl) ?_
  refine lv_iload_n hx hb dX12_press_6 rfl (lv_at hl 1 rfl) ?_
  have hPc := hP.sub (ws' := [(m0, .inr (12, [.ref g0, .ref g1, .ref g2, .ref g3, .ref g4, .int 0, .int 0, .int 0, .int 0, .ref g9, .int 0, .int 0, .int 0, .int 0, .int (-1), .int 0, .int 0, .ref g17, .ref g18, .int 0, .ref g20, .ref g21, .ref g22, .ref g23, .ref g24, .ref g25, .ref g26, .ref g27, .ref g28, .ref g29, .ref g30, .int 0]))]) [0] rfl
  have hDc := hD.sub (ws' := [(m0, .inr (12, [.ref g0, .ref g1, .ref g2, .ref g3, .ref g4, .int 0, .int 0, .int 0, .int 0, .ref g9, .int 0, .int 0, .int 0, .int 0, .int (-1), .int 0, .int 0, .ref g17, .ref g18, .int 0, .ref g20, .ref g21, .ref g22, .ref g23, .ref g24, .ref g25, .ref g26, .ref g27, .ref g28, .ref g29, .ref g30, .int 0]))]) [0] (by decide) rfl
  have hKc := hK.sub (tys' := []) [] rfl
  refine vp_callSi (va_Run.run (va_runV (As := [.int k0]) (rest := []) ⟨hx, hb, hml, hown, hT⟩ (m_isKind l dC dI m0 g0 g1 g2 g3 g4 g9 g17 g18 g20 g21 g22 g23 g24 g25 g26 g27 g28 g29 g30 H.size k0) (cwV 1 hT (gV w1288 w1290 ws74 w14 w1291) rfl rfl rfl (by decide +kernel) ⟨(Nat.le_of_ble_eq_true rfl), (Nat.le_of_ble_eq_true rfl)⟩) ⟨pcW.blind, va_recv hKc hPc (ci := 12) (q0 := 0) rfl rfl, pcW.pre hPc hKc hDc⟩ rfl rfl hl.1 rfl (lv_room (Nat.le_of_ble_eq_true rfl)) dX12_press_7 ⟨(Nat.le_of_ble_eq_true rfl), (Nat.le_of_ble_eq_true rfl)⟩)) (fun r_7 hr_7 => ?_)
  obtain rfl : r_7 = 0 := hr_7
  refine lv_if_ne (tgt := 16) hx hb dX12_press_10 (by decide) (fun h => absurd (by decide) h) (fun _ => ?_)
  refine lv_bipush (v := (-2)) hx hb dX12_press_13 (by decide) ?_
  refine W.widen (k := 0) (n := 0) (Nat.le_of_ble_eq_true rfl) (Nat.le_of_ble_eq_true rfl) ?_
  exact W.iret (v := (-2)) hx hb hr (fun t ht hW => ⟨⟨(-2), (), rfl, rfl, trivial⟩, hS.F ht⟩) hS.2.2 dX12_press_15

set_option maxHeartbeats 4000000 in
set_option maxRecDepth 100000 in
theorem m_total (l : Launch) (dC : Nat → ClassId) (dI : Nat → Nat → Nat) (m0 : Nat) (g0 : Nat) (g1 : Nat) (g2 : Nat) (g3 : Nat) (g4 : Nat) (g9 : Nat) (g17 : Nat) (g18 : Nat) (g20 : Nat) (g21 : Nat) (g22 : Nat) (g23 : Nat) (g24 : Nat) (g25 : Nat) (g26 : Nat) (g27 : Nat) (g28 : Nat) (g29 : Nat) (g30 : Nat) (sz : Nat) (k0 : Int32) (k1 : Int32) : Met l yX12_total (wT yX12_total cX12_total 5 (some .int)) ({ frames := 2, cells := 0, slots := 0, locals := 46 }) (pcW dC dI [.ref m0, .int k0, .int k1] sz [(m0, .inr (12, [.ref g0, .ref g1, .ref g2, .ref g3, .ref g4, .int 0, .int 0, .int 0, .int 0, .ref g9, .int 0, .int 0, .int 0, .int 0, .int (-1), .int 0, .int 0, .ref g17, .ref g18, .int 0, .ref g20, .ref g21, .ref g22, .ref g23, .ref g24, .ref g25, .ref g26, .ref g27, .ref g28, .ref g29, .ref g30, .int 0]))] []) (va_Qi (fun (r : Int32) (_ : Unit) => r = (-2)) (fun _ _ => True) (va_A [(m0, .inr (12, [.ref g0, .ref g1, .ref g2, .ref g3, .ref g4, .int 0, .int 0, .int 0, .int 0, .ref g9, .int 0, .int 0, .int 0, .int 0, .int (-1), .int 0, .int 0, .ref g17, .ref g18, .int 0, .ref g20, .ref g21, .ref g22, .ref g23, .ref g24, .ref g25, .ref g26, .ref g27, .ref g28, .ref g29, .ref g30, .int 0]))] sz)) 0 0 (va_A [(m0, .inr (12, [.ref g0, .ref g1, .ref g2, .ref g3, .ref g4, .int 0, .int 0, .int 0, .int 0, .ref g9, .int 0, .int 0, .int 0, .int 0, .int (-1), .int 0, .int 0, .ref g17, .ref g18, .int 0, .ref g20, .ref g21, .ref g22, .ref g23, .ref g24, .ref g25, .ref g26, .ref g27, .ref g28, .ref g29, .ref g30, .int 0]))] sz) := by
  refine Met.ofW (cc := cX12_total) (maxL := 5) (ret := (some .int)) (by decide) rfl ?_
  intro p e s m args below meth c s₁ B hml hv
  obtain ⟨rfl, hsz, hP, hK, hD0⟩ := hv
  have hx := B.exec
  have hb := B.bytes
  have hr := B.returns
  have hT : ∀ w ∈ TB, w.before [.ref m0, .int k0, .int k1].toArray s = true := fun w h => atoms_spec (ws := wT yX12_total cX12_total 5 (some .int)) B.pre w (List.mem_cons_of_mem _ h)
  have hown : s.vm.findClass RX12 = some m.cls := findClass_of_methodNamed B.named
  have hlocks := B.notSynchronized
  subst hsz
  have hD := hD0.self (sz := s.heap.size)
  generalize hAe : va_A [(m0, .inr (12, [.ref g0, .ref g1, .ref g2, .ref g3, .ref g4, .int 0, .int 0, .int 0, .int 0, .ref g9, .int 0, .int 0, .int 0, .int 0, .int (-1), .int 0, .int 0, .ref g17, .ref g18, .int 0, .ref g20, .ref g21, .ref g22, .ref g23, .ref g24, .ref g25, .ref g26, .ref g27, .ref g28, .ref g29, .ref g30, .int 0]))] s.heap.size = A at hD ⊢
  have hA : ∀ q : Nat, s.heap.size ≤ q → A q := fun q h => by rw [← hAe]; exact Or.inr h
  have hS : va_S A s.heap s.heap [] := va_S.rf
  have hP : va_P (dC, dI) vwCl [(m0, .inr (12, [.ref g0, .ref g1, .ref g2, .ref g3, .ref g4, .int 0, .int 0, .int 0, .int 0, .ref g9, .int 0, .int 0, .int 0, .int 0, .int (-1), .int 0, .int 0, .ref g17, .ref g18, .int 0, .ref g20, .ref g21, .ref g22, .ref g23, .ref g24, .ref g25, .ref g26, .ref g27, .ref g28, .ref g29, .ref g30, .int 0]))] s.heap := hP
  have hl := lv_entry ([.ref m0, .int k0, .int k1]) (n := 5) (Nat.le_of_ble_eq_true rfl)
  rw [lg_entry_eq]
  generalize (lg_sl ([.ref m0, .int k0, .int k1]) ++ List.replicate (5 - (lg_sl ([.ref m0, .int k0, .int k1])).length) Slot.unset).toArray = ls at hl ⊢
  have hl : lv_has ls 5 [(0, .ref m0), (1, .int k0), (2, .int k1)] := hl
  refine lv_aload_n hx hb dX12_total_0 rfl (lv_at hl 0 rfl) ?_
  refine lv_iconst (v := 0) hx hb dX12_total_1 (by decide) ?_
  refine va_put (D := (dC, dI)) (ci := 12) (v := .int 0) (ty := .int) (C := RX12) (T := TX12) (N := 32) hx hb hT iX12 tyX12 tyX12_ok nmX12 hown hK hP hD hS 0 rfl rfl 8 (by decide) (hT _ w1090) (fun _ h9 => h9) rfl (by decide +kernel) rfl rfl (Nat.le_of_ble_eq_true rfl) dX12_total_2 (fun H locs hP hD hS => ?_)
  have hP : va_P (dC, dI) vwCl [(m0, .inr (12, [.ref g0, .ref g1, .ref g2, .ref g3, .ref g4, .int 0, .int 0, .int 0, .int 0, .ref g9, .int 0, .int 0, .int 0, .int 0, .int (-1), .int 0, .int 0, .ref g17, .ref g18, .int 0, .ref g20, .ref g21, .ref g22, .ref g23, .ref g24, .ref g25, .ref g26, .ref g27, .ref g28, .ref g29, .ref g30, .int 0]))] H := hP
  have hD : va_D A [(m0, .inr (12, [.ref g0, .ref g1, .ref g2, .ref g3, .ref g4, .int 0, .int 0, .int 0, .int 0, .ref g9, .int 0, .int 0, .int 0, .int 0, .int (-1), .int 0, .int 0, .ref g17, .ref g18, .int 0, .ref g20, .ref g21, .ref g22, .ref g23, .ref g24, .ref g25, .ref g26, .ref g27, .ref g28, .ref g29, .ref g30, .int 0]))] := hD
  refine lv_aload_n hx hb dX12_total_5 rfl (lv_at hl 0 rfl) ?_
  refine lv_iload_n hx hb dX12_total_6 rfl (lv_at hl 1 rfl) ?_
  have hPc := hP.sub (ws' := [(m0, .inr (12, [.ref g0, .ref g1, .ref g2, .ref g3, .ref g4, .int 0, .int 0, .int 0, .int 0, .ref g9, .int 0, .int 0, .int 0, .int 0, .int (-1), .int 0, .int 0, .ref g17, .ref g18, .int 0, .ref g20, .ref g21, .ref g22, .ref g23, .ref g24, .ref g25, .ref g26, .ref g27, .ref g28, .ref g29, .ref g30, .int 0]))]) [0] rfl
  have hDc := hD.sub (ws' := [(m0, .inr (12, [.ref g0, .ref g1, .ref g2, .ref g3, .ref g4, .int 0, .int 0, .int 0, .int 0, .ref g9, .int 0, .int 0, .int 0, .int 0, .int (-1), .int 0, .int 0, .ref g17, .ref g18, .int 0, .ref g20, .ref g21, .ref g22, .ref g23, .ref g24, .ref g25, .ref g26, .ref g27, .ref g28, .ref g29, .ref g30, .int 0]))]) [0] (by decide) rfl
  have hKc := hK.sub (tys' := []) [] rfl
  refine vp_callSi (va_Run.run (va_runV (As := [.int k0]) (rest := []) ⟨hx, hb, hml, hown, hT⟩ (m_isKind l dC dI m0 g0 g1 g2 g3 g4 g9 g17 g18 g20 g21 g22 g23 g24 g25 g26 g27 g28 g29 g30 H.size k0) (cwV 1 hT (gV w1288 w1290 ws74 w14 w1291) rfl rfl rfl (by decide +kernel) ⟨(Nat.le_of_ble_eq_true rfl), (Nat.le_of_ble_eq_true rfl)⟩) ⟨pcW.blind, va_recv hKc hPc (ci := 12) (q0 := 0) rfl rfl, pcW.pre hPc hKc hDc⟩ rfl rfl hl.1 rfl (lv_room (Nat.le_of_ble_eq_true rfl)) dX12_total_7 ⟨(Nat.le_of_ble_eq_true rfl), (Nat.le_of_ble_eq_true rfl)⟩)) (fun r_7 hr_7 => ?_)
  obtain rfl : r_7 = 0 := hr_7
  refine lv_if_eq (tgt := 25) hx hb dX12_total_10 (by decide) (fun _ => ?_) (fun h => absurd (by decide) h)
  refine lv_bipush (v := (-2)) hx hb dX12_total_25 (by decide) ?_
  refine W.widen (k := 0) (n := 0) (Nat.le_of_ble_eq_true rfl) (Nat.le_of_ble_eq_true rfl) ?_
  exact W.iret (v := (-2)) hx hb hr (fun t ht hW => ⟨⟨(-2), (), rfl, rfl, trivial⟩, hS.F ht⟩) hS.2.2 dX12_total_27

set_option maxHeartbeats 4000000 in
set_option maxRecDepth 100000 in
theorem m_ring (l : Launch) (dC : Nat → ClassId) (dI : Nat → Nat → Nat) (m0 : Nat) (g0 : Nat) (g1 : Nat) (g2 : Nat) (g3 : Nat) (g4 : Nat) (g9 : Nat) (g17 : Nat) (g18 : Nat) (g20 : Nat) (g21 : Nat) (g22 : Nat) (g23 : Nat) (g24 : Nat) (g25 : Nat) (g26 : Nat) (g27 : Nat) (g28 : Nat) (g29 : Nat) (g30 : Nat) (sz : Nat) (k0 : Int32) (k1 : Int32) : Met l yX12_ring (wT yX12_ring cX12_ring 4 (some .int)) ({ frames := 2, cells := 0, slots := 0, locals := 46 }) (pcW dC dI [.ref m0, .int k0, .int k1] sz [(m0, .inr (12, [.ref g0, .ref g1, .ref g2, .ref g3, .ref g4, .int 0, .int 0, .int 0, .int 0, .ref g9, .int 0, .int 0, .int 0, .int 0, .int (-1), .int 0, .int 0, .ref g17, .ref g18, .int 0, .ref g20, .ref g21, .ref g22, .ref g23, .ref g24, .ref g25, .ref g26, .ref g27, .ref g28, .ref g29, .ref g30, .int 0]))] []) (va_Qi (fun (r : Int32) (_ : Unit) => r = (-2)) (fun _ _ => True) (va_A [(m0, .inr (12, [.ref g0, .ref g1, .ref g2, .ref g3, .ref g4, .int 0, .int 0, .int 0, .int 0, .ref g9, .int 0, .int 0, .int 0, .int 0, .int (-1), .int 0, .int 0, .ref g17, .ref g18, .int 0, .ref g20, .ref g21, .ref g22, .ref g23, .ref g24, .ref g25, .ref g26, .ref g27, .ref g28, .ref g29, .ref g30, .int 0]))] sz)) 0 0 (va_A [(m0, .inr (12, [.ref g0, .ref g1, .ref g2, .ref g3, .ref g4, .int 0, .int 0, .int 0, .int 0, .ref g9, .int 0, .int 0, .int 0, .int 0, .int (-1), .int 0, .int 0, .ref g17, .ref g18, .int 0, .ref g20, .ref g21, .ref g22, .ref g23, .ref g24, .ref g25, .ref g26, .ref g27, .ref g28, .ref g29, .ref g30, .int 0]))] sz) := by
  refine Met.ofW (cc := cX12_ring) (maxL := 4) (ret := (some .int)) (by decide) rfl ?_
  intro p e s m args below meth c s₁ B hml hv
  obtain ⟨rfl, hsz, hP, hK, hD0⟩ := hv
  have hx := B.exec
  have hb := B.bytes
  have hr := B.returns
  have hT : ∀ w ∈ TB, w.before [.ref m0, .int k0, .int k1].toArray s = true := fun w h => atoms_spec (ws := wT yX12_ring cX12_ring 4 (some .int)) B.pre w (List.mem_cons_of_mem _ h)
  have hown : s.vm.findClass RX12 = some m.cls := findClass_of_methodNamed B.named
  have hlocks := B.notSynchronized
  subst hsz
  have hD := hD0.self (sz := s.heap.size)
  generalize hAe : va_A [(m0, .inr (12, [.ref g0, .ref g1, .ref g2, .ref g3, .ref g4, .int 0, .int 0, .int 0, .int 0, .ref g9, .int 0, .int 0, .int 0, .int 0, .int (-1), .int 0, .int 0, .ref g17, .ref g18, .int 0, .ref g20, .ref g21, .ref g22, .ref g23, .ref g24, .ref g25, .ref g26, .ref g27, .ref g28, .ref g29, .ref g30, .int 0]))] s.heap.size = A at hD ⊢
  have hA : ∀ q : Nat, s.heap.size ≤ q → A q := fun q h => by rw [← hAe]; exact Or.inr h
  have hS : va_S A s.heap s.heap [] := va_S.rf
  have hP : va_P (dC, dI) vwCl [(m0, .inr (12, [.ref g0, .ref g1, .ref g2, .ref g3, .ref g4, .int 0, .int 0, .int 0, .int 0, .ref g9, .int 0, .int 0, .int 0, .int 0, .int (-1), .int 0, .int 0, .ref g17, .ref g18, .int 0, .ref g20, .ref g21, .ref g22, .ref g23, .ref g24, .ref g25, .ref g26, .ref g27, .ref g28, .ref g29, .ref g30, .int 0]))] s.heap := hP
  have hl := lv_entry ([.ref m0, .int k0, .int k1]) (n := 4) (Nat.le_of_ble_eq_true rfl)
  rw [lg_entry_eq]
  generalize (lg_sl ([.ref m0, .int k0, .int k1]) ++ List.replicate (4 - (lg_sl ([.ref m0, .int k0, .int k1])).length) Slot.unset).toArray = ls at hl ⊢
  have hl : lv_has ls 4 [(0, .ref m0), (1, .int k0), (2, .int k1)] := hl
  refine lv_aload_n hx hb dX12_ring_0 rfl (lv_at hl 0 rfl) ?_
  refine lv_iconst (v := 0) hx hb dX12_ring_1 (by decide) ?_
  refine va_put (D := (dC, dI)) (ci := 12) (v := .int 0) (ty := .int) (C := RX12) (T := TX12) (N := 32) hx hb hT iX12 tyX12 tyX12_ok nmX12 hown hK hP hD hS 0 rfl rfl 8 (by decide) (hT _ w1090) (fun _ h9 => h9) rfl (by decide +kernel) rfl rfl (Nat.le_of_ble_eq_true rfl) dX12_ring_2 (fun H locs hP hD hS => ?_)
  have hP : va_P (dC, dI) vwCl [(m0, .inr (12, [.ref g0, .ref g1, .ref g2, .ref g3, .ref g4, .int 0, .int 0, .int 0, .int 0, .ref g9, .int 0, .int 0, .int 0, .int 0, .int (-1), .int 0, .int 0, .ref g17, .ref g18, .int 0, .ref g20, .ref g21, .ref g22, .ref g23, .ref g24, .ref g25, .ref g26, .ref g27, .ref g28, .ref g29, .ref g30, .int 0]))] H := hP
  have hD : va_D A [(m0, .inr (12, [.ref g0, .ref g1, .ref g2, .ref g3, .ref g4, .int 0, .int 0, .int 0, .int 0, .ref g9, .int 0, .int 0, .int 0, .int 0, .int (-1), .int 0, .int 0, .ref g17, .ref g18, .int 0, .ref g20, .ref g21, .ref g22, .ref g23, .ref g24, .ref g25, .ref g26, .ref g27, .ref g28, .ref g29, .ref g30, .int 0]))] := hD
  refine lv_aload_n hx hb dX12_ring_5 rfl (lv_at hl 0 rfl) ?_
  refine lv_iload_n hx hb dX12_ring_6 rfl (lv_at hl 1 rfl) ?_
  have hPc := hP.sub (ws' := [(m0, .inr (12, [.ref g0, .ref g1, .ref g2, .ref g3, .ref g4, .int 0, .int 0, .int 0, .int 0, .ref g9, .int 0, .int 0, .int 0, .int 0, .int (-1), .int 0, .int 0, .ref g17, .ref g18, .int 0, .ref g20, .ref g21, .ref g22, .ref g23, .ref g24, .ref g25, .ref g26, .ref g27, .ref g28, .ref g29, .ref g30, .int 0]))]) [0] rfl
  have hDc := hD.sub (ws' := [(m0, .inr (12, [.ref g0, .ref g1, .ref g2, .ref g3, .ref g4, .int 0, .int 0, .int 0, .int 0, .ref g9, .int 0, .int 0, .int 0, .int 0, .int (-1), .int 0, .int 0, .ref g17, .ref g18, .int 0, .ref g20, .ref g21, .ref g22, .ref g23, .ref g24, .ref g25, .ref g26, .ref g27, .ref g28, .ref g29, .ref g30, .int 0]))]) [0] (by decide) rfl
  have hKc := hK.sub (tys' := []) [] rfl
  refine vp_callSi (va_Run.run (va_runV (As := [.int k0]) (rest := []) ⟨hx, hb, hml, hown, hT⟩ (m_isKind l dC dI m0 g0 g1 g2 g3 g4 g9 g17 g18 g20 g21 g22 g23 g24 g25 g26 g27 g28 g29 g30 H.size k0) (cwV 1 hT (gV w1288 w1290 ws74 w14 w1291) rfl rfl rfl (by decide +kernel) ⟨(Nat.le_of_ble_eq_true rfl), (Nat.le_of_ble_eq_true rfl)⟩) ⟨pcW.blind, va_recv hKc hPc (ci := 12) (q0 := 0) rfl rfl, pcW.pre hPc hKc hDc⟩ rfl rfl hl.1 rfl (lv_room (Nat.le_of_ble_eq_true rfl)) dX12_ring_7 ⟨(Nat.le_of_ble_eq_true rfl), (Nat.le_of_ble_eq_true rfl)⟩)) (fun r_7 hr_7 => ?_)
  obtain rfl : r_7 = 0 := hr_7
  refine lv_if_ne (tgt := 16) hx hb dX12_ring_10 (by decide) (fun h => absurd (by decide) h) (fun _ => ?_)
  refine lv_bipush (v := (-2)) hx hb dX12_ring_13 (by decide) ?_
  refine W.widen (k := 0) (n := 0) (Nat.le_of_ble_eq_true rfl) (Nat.le_of_ble_eq_true rfl) ?_
  exact W.iret (v := (-2)) hx hb hr (fun t ht hW => ⟨⟨(-2), (), rfl, rfl, trivial⟩, hS.F ht⟩) hS.2.2 dX12_ring_15

set_option maxHeartbeats 4000000 in
set_option maxRecDepth 100000 in
theorem m_load (l : Launch) (dC : Nat → ClassId) (dI : Nat → Nat → Nat) (m0 : Nat) (g0 : Nat) (g1 : Nat) (g2 : Nat) (g3 : Nat) (g4 : Nat) (g9 : Nat) (g17 : Nat) (g18 : Nat) (g20 : Nat) (g21 : Nat) (g22 : Nat) (g23 : Nat) (g24 : Nat) (g25 : Nat) (g26 : Nat) (g27 : Nat) (g28 : Nat) (g29 : Nat) (g30 : Nat) (sz : Nat) (k0 : Int32) : Met l yX12_load (wT yX12_load cX12_load 2 (some .int)) ({ frames := 2, cells := 0, slots := 0, locals := 46 }) (pcW dC dI [.ref m0, .int k0] sz [(m0, .inr (12, [.ref g0, .ref g1, .ref g2, .ref g3, .ref g4, .int 0, .int 0, .int 0, .int 0, .ref g9, .int 0, .int 0, .int 0, .int 0, .int (-1), .int 0, .int 0, .ref g17, .ref g18, .int 0, .ref g20, .ref g21, .ref g22, .ref g23, .ref g24, .ref g25, .ref g26, .ref g27, .ref g28, .ref g29, .ref g30, .int 0]))] []) (va_Qi (fun (r : Int32) (_ : Unit) => r = (-2)) (fun _ _ => True) (va_A [(m0, .inr (12, [.ref g0, .ref g1, .ref g2, .ref g3, .ref g4, .int 0, .int 0, .int 0, .int 0, .ref g9, .int 0, .int 0, .int 0, .int 0, .int (-1), .int 0, .int 0, .ref g17, .ref g18, .int 0, .ref g20, .ref g21, .ref g22, .ref g23, .ref g24, .ref g25, .ref g26, .ref g27, .ref g28, .ref g29, .ref g30, .int 0]))] sz)) 0 0 (va_A [(m0, .inr (12, [.ref g0, .ref g1, .ref g2, .ref g3, .ref g4, .int 0, .int 0, .int 0, .int 0, .ref g9, .int 0, .int 0, .int 0, .int 0, .int (-1), .int 0, .int 0, .ref g17, .ref g18, .int 0, .ref g20, .ref g21, .ref g22, .ref g23, .ref g24, .ref g25, .ref g26, .ref g27, .ref g28, .ref g29, .ref g30, .int 0]))] sz) := by
  refine Met.ofW (cc := cX12_load) (maxL := 2) (ret := (some .int)) (by decide) rfl ?_
  intro p e s m args below meth c s₁ B hml hv
  obtain ⟨rfl, hsz, hP, hK, hD0⟩ := hv
  have hx := B.exec
  have hb := B.bytes
  have hr := B.returns
  have hT : ∀ w ∈ TB, w.before [.ref m0, .int k0].toArray s = true := fun w h => atoms_spec (ws := wT yX12_load cX12_load 2 (some .int)) B.pre w (List.mem_cons_of_mem _ h)
  have hown : s.vm.findClass RX12 = some m.cls := findClass_of_methodNamed B.named
  have hlocks := B.notSynchronized
  subst hsz
  have hD := hD0.self (sz := s.heap.size)
  generalize hAe : va_A [(m0, .inr (12, [.ref g0, .ref g1, .ref g2, .ref g3, .ref g4, .int 0, .int 0, .int 0, .int 0, .ref g9, .int 0, .int 0, .int 0, .int 0, .int (-1), .int 0, .int 0, .ref g17, .ref g18, .int 0, .ref g20, .ref g21, .ref g22, .ref g23, .ref g24, .ref g25, .ref g26, .ref g27, .ref g28, .ref g29, .ref g30, .int 0]))] s.heap.size = A at hD ⊢
  have hA : ∀ q : Nat, s.heap.size ≤ q → A q := fun q h => by rw [← hAe]; exact Or.inr h
  have hS : va_S A s.heap s.heap [] := va_S.rf
  have hP : va_P (dC, dI) vwCl [(m0, .inr (12, [.ref g0, .ref g1, .ref g2, .ref g3, .ref g4, .int 0, .int 0, .int 0, .int 0, .ref g9, .int 0, .int 0, .int 0, .int 0, .int (-1), .int 0, .int 0, .ref g17, .ref g18, .int 0, .ref g20, .ref g21, .ref g22, .ref g23, .ref g24, .ref g25, .ref g26, .ref g27, .ref g28, .ref g29, .ref g30, .int 0]))] s.heap := hP
  have hl := lv_entry ([.ref m0, .int k0]) (n := 2) (Nat.le_of_ble_eq_true rfl)
  rw [lg_entry_eq]
  generalize (lg_sl ([.ref m0, .int k0]) ++ List.replicate (2 - (lg_sl ([.ref m0, .int k0])).length) Slot.unset).toArray = ls at hl ⊢
  have hl : lv_has ls 2 [(0, .ref m0), (1, .int k0)] := hl
  refine lv_aload_n hx hb dX12_load_0 rfl (lv_at hl 0 rfl) ?_
  refine lv_iconst (v := 0) hx hb dX12_load_1 (by decide) ?_
  refine va_put (D := (dC, dI)) (ci := 12) (v := .int 0) (ty := .int) (C := RX12) (T := TX12) (N := 32) hx hb hT iX12 tyX12 tyX12_ok nmX12 hown hK hP hD hS 0 rfl rfl 8 (by decide) (hT _ w1090) (fun _ h9 => h9) rfl (by decide +kernel) rfl rfl (Nat.le_of_ble_eq_true rfl) dX12_load_2 (fun H locs hP hD hS => ?_)
  have hP : va_P (dC, dI) vwCl [(m0, .inr (12, [.ref g0, .ref g1, .ref g2, .ref g3, .ref g4, .int 0, .int 0, .int 0, .int 0, .ref g9, .int 0, .int 0, .int 0, .int 0, .int (-1), .int 0, .int 0, .ref g17, .ref g18, .int 0, .ref g20, .ref g21, .ref g22, .ref g23, .ref g24, .ref g25, .ref g26, .ref g27, .ref g28, .ref g29, .ref g30, .int 0]))] H := hP
  have hD : va_D A [(m0, .inr (12, [.ref g0, .ref g1, .ref g2, .ref g3, .ref g4, .int 0, .int 0, .int 0, .int 0, .ref g9, .int 0, .int 0, .int 0, .int 0, .int (-1), .int 0, .int 0, .ref g17, .ref g18, .int 0, .ref g20, .ref g21, .ref g22, .ref g23, .ref g24, .ref g25, .ref g26, .ref g27, .ref g28, .ref g29, .ref g30, .int 0]))] := hD
  refine lv_aload_n hx hb dX12_load_5 rfl (lv_at hl 0 rfl) ?_
  refine lv_iload_n hx hb dX12_load_6 rfl (lv_at hl 1 rfl) ?_
  have hPc := hP.sub (ws' := [(m0, .inr (12, [.ref g0, .ref g1, .ref g2, .ref g3, .ref g4, .int 0, .int 0, .int 0, .int 0, .ref g9, .int 0, .int 0, .int 0, .int 0, .int (-1), .int 0, .int 0, .ref g17, .ref g18, .int 0, .ref g20, .ref g21, .ref g22, .ref g23, .ref g24, .ref g25, .ref g26, .ref g27, .ref g28, .ref g29, .ref g30, .int 0]))]) [0] rfl
  have hDc := hD.sub (ws' := [(m0, .inr (12, [.ref g0, .ref g1, .ref g2, .ref g3, .ref g4, .int 0, .int 0, .int 0, .int 0, .ref g9, .int 0, .int 0, .int 0, .int 0, .int (-1), .int 0, .int 0, .ref g17, .ref g18, .int 0, .ref g20, .ref g21, .ref g22, .ref g23, .ref g24, .ref g25, .ref g26, .ref g27, .ref g28, .ref g29, .ref g30, .int 0]))]) [0] (by decide) rfl
  have hKc := hK.sub (tys' := []) [] rfl
  refine vp_callSi (va_Run.run (va_runV (As := [.int k0]) (rest := []) ⟨hx, hb, hml, hown, hT⟩ (m_isKind l dC dI m0 g0 g1 g2 g3 g4 g9 g17 g18 g20 g21 g22 g23 g24 g25 g26 g27 g28 g29 g30 H.size k0) (cwV 1 hT (gV w1288 w1290 ws74 w14 w1291) rfl rfl rfl (by decide +kernel) ⟨(Nat.le_of_ble_eq_true rfl), (Nat.le_of_ble_eq_true rfl)⟩) ⟨pcW.blind, va_recv hKc hPc (ci := 12) (q0 := 0) rfl rfl, pcW.pre hPc hKc hDc⟩ rfl rfl hl.1 rfl (lv_room (Nat.le_of_ble_eq_true rfl)) dX12_load_7 ⟨(Nat.le_of_ble_eq_true rfl), (Nat.le_of_ble_eq_true rfl)⟩)) (fun r_7 hr_7 => ?_)
  obtain rfl : r_7 = 0 := hr_7
  refine lv_if_ne (tgt := 16) hx hb dX12_load_10 (by decide) (fun h => absurd (by decide) h) (fun _ => ?_)
  refine lv_bipush (v := (-2)) hx hb dX12_load_13 (by decide) ?_
  refine W.widen (k := 0) (n := 0) (Nat.le_of_ble_eq_true rfl) (Nat.le_of_ble_eq_true rfl) ?_
  exact W.iret (v := (-2)) hx hb hr (fun t ht hW => ⟨⟨(-2), (), rfl, rfl, trivial⟩, hS.F ht⟩) hS.2.2 dX12_load_15

set_option maxHeartbeats 4000000 in
set_option maxRecDepth 100000 in
theorem m_cleared (l : Launch) (dC : Nat → ClassId) (dI : Nat → Nat → Nat) (m0 : Nat) (g0 : Nat) (g1 : Nat) (g2 : Nat) (g3 : Nat) (g4 : Nat) (g9 : Nat) (g17 : Nat) (g18 : Nat) (g20 : Nat) (g21 : Nat) (g22 : Nat) (g23 : Nat) (g24 : Nat) (g25 : Nat) (g26 : Nat) (g27 : Nat) (g28 : Nat) (g29 : Nat) (g30 : Nat) (sz : Nat) (k0 : Int32) (k1 : Int32) : Met l yX12_cleared (wT yX12_cleared cX12_cleared 5 (some .int)) ({ frames := 2, cells := 0, slots := 0, locals := 46 }) (pcW dC dI [.ref m0, .int k0, .int k1] sz [(m0, .inr (12, [.ref g0, .ref g1, .ref g2, .ref g3, .ref g4, .int 0, .int 0, .int 0, .int 0, .ref g9, .int 0, .int 0, .int 0, .int 0, .int (-1), .int 0, .int 0, .ref g17, .ref g18, .int 0, .ref g20, .ref g21, .ref g22, .ref g23, .ref g24, .ref g25, .ref g26, .ref g27, .ref g28, .ref g29, .ref g30, .int 0]))] []) (va_Qi (fun (r : Int32) (_ : Unit) => r = (-2)) (fun _ _ => True) (va_A [(m0, .inr (12, [.ref g0, .ref g1, .ref g2, .ref g3, .ref g4, .int 0, .int 0, .int 0, .int 0, .ref g9, .int 0, .int 0, .int 0, .int 0, .int (-1), .int 0, .int 0, .ref g17, .ref g18, .int 0, .ref g20, .ref g21, .ref g22, .ref g23, .ref g24, .ref g25, .ref g26, .ref g27, .ref g28, .ref g29, .ref g30, .int 0]))] sz)) 0 0 (va_A [(m0, .inr (12, [.ref g0, .ref g1, .ref g2, .ref g3, .ref g4, .int 0, .int 0, .int 0, .int 0, .ref g9, .int 0, .int 0, .int 0, .int 0, .int (-1), .int 0, .int 0, .ref g17, .ref g18, .int 0, .ref g20, .ref g21, .ref g22, .ref g23, .ref g24, .ref g25, .ref g26, .ref g27, .ref g28, .ref g29, .ref g30, .int 0]))] sz) := by
  refine Met.ofW (cc := cX12_cleared) (maxL := 5) (ret := (some .int)) (by decide) rfl ?_
  intro p e s m args below meth c s₁ B hml hv
  obtain ⟨rfl, hsz, hP, hK, hD0⟩ := hv
  have hx := B.exec
  have hb := B.bytes
  have hr := B.returns
  have hT : ∀ w ∈ TB, w.before [.ref m0, .int k0, .int k1].toArray s = true := fun w h => atoms_spec (ws := wT yX12_cleared cX12_cleared 5 (some .int)) B.pre w (List.mem_cons_of_mem _ h)
  have hown : s.vm.findClass RX12 = some m.cls := findClass_of_methodNamed B.named
  have hlocks := B.notSynchronized
  subst hsz
  have hD := hD0.self (sz := s.heap.size)
  generalize hAe : va_A [(m0, .inr (12, [.ref g0, .ref g1, .ref g2, .ref g3, .ref g4, .int 0, .int 0, .int 0, .int 0, .ref g9, .int 0, .int 0, .int 0, .int 0, .int (-1), .int 0, .int 0, .ref g17, .ref g18, .int 0, .ref g20, .ref g21, .ref g22, .ref g23, .ref g24, .ref g25, .ref g26, .ref g27, .ref g28, .ref g29, .ref g30, .int 0]))] s.heap.size = A at hD ⊢
  have hA : ∀ q : Nat, s.heap.size ≤ q → A q := fun q h => by rw [← hAe]; exact Or.inr h
  have hS : va_S A s.heap s.heap [] := va_S.rf
  have hP : va_P (dC, dI) vwCl [(m0, .inr (12, [.ref g0, .ref g1, .ref g2, .ref g3, .ref g4, .int 0, .int 0, .int 0, .int 0, .ref g9, .int 0, .int 0, .int 0, .int 0, .int (-1), .int 0, .int 0, .ref g17, .ref g18, .int 0, .ref g20, .ref g21, .ref g22, .ref g23, .ref g24, .ref g25, .ref g26, .ref g27, .ref g28, .ref g29, .ref g30, .int 0]))] s.heap := hP
  have hl := lv_entry ([.ref m0, .int k0, .int k1]) (n := 5) (Nat.le_of_ble_eq_true rfl)
  rw [lg_entry_eq]
  generalize (lg_sl ([.ref m0, .int k0, .int k1]) ++ List.replicate (5 - (lg_sl ([.ref m0, .int k0, .int k1])).length) Slot.unset).toArray = ls at hl ⊢
  have hl : lv_has ls 5 [(0, .ref m0), (1, .int k0), (2, .int k1)] := hl
  refine lv_aload_n hx hb dX12_cleared_0 rfl (lv_at hl 0 rfl) ?_
  refine lv_iconst (v := 0) hx hb dX12_cleared_1 (by decide) ?_
  refine va_put (D := (dC, dI)) (ci := 12) (v := .int 0) (ty := .int) (C := RX12) (T := TX12) (N := 32) hx hb hT iX12 tyX12 tyX12_ok nmX12 hown hK hP hD hS 0 rfl rfl 8 (by decide) (hT _ w1090) (fun _ h9 => h9) rfl (by decide +kernel) rfl rfl (Nat.le_of_ble_eq_true rfl) dX12_cleared_2 (fun H locs hP hD hS => ?_)
  have hP : va_P (dC, dI) vwCl [(m0, .inr (12, [.ref g0, .ref g1, .ref g2, .ref g3, .ref g4, .int 0, .int 0, .int 0, .int 0, .ref g9, .int 0, .int 0, .int 0, .int 0, .int (-1), .int 0, .int 0, .ref g17, .ref g18, .int 0, .ref g20, .ref g21, .ref g22, .ref g23, .ref g24, .ref g25, .ref g26, .ref g27, .ref g28, .ref g29, .ref g30, .int 0]))] H := hP
  have hD : va_D A [(m0, .inr (12, [.ref g0, .ref g1, .ref g2, .ref g3, .ref g4, .int 0, .int 0, .int 0, .int 0, .ref g9, .int 0, .int 0, .int 0, .int 0, .int (-1), .int 0, .int 0, .ref g17, .ref g18, .int 0, .ref g20, .ref g21, .ref g22, .ref g23, .ref g24, .ref g25, .ref g26, .ref g27, .ref g28, .ref g29, .ref g30, .int 0]))] := hD
  refine lv_aload_n hx hb dX12_cleared_5 rfl (lv_at hl 0 rfl) ?_
  refine lv_iload_n hx hb dX12_cleared_6 rfl (lv_at hl 1 rfl) ?_
  have hPc := hP.sub (ws' := [(m0, .inr (12, [.ref g0, .ref g1, .ref g2, .ref g3, .ref g4, .int 0, .int 0, .int 0, .int 0, .ref g9, .int 0, .int 0, .int 0, .int 0, .int (-1), .int 0, .int 0, .ref g17, .ref g18, .int 0, .ref g20, .ref g21, .ref g22, .ref g23, .ref g24, .ref g25, .ref g26, .ref g27, .ref g28, .ref g29, .ref g30, .int 0]))]) [0] rfl
  have hDc := hD.sub (ws' := [(m0, .inr (12, [.ref g0, .ref g1, .ref g2, .ref g3, .ref g4, .int 0, .int 0, .int 0, .int 0, .ref g9, .int 0, .int 0, .int 0, .int 0, .int (-1), .int 0, .int 0, .ref g17, .ref g18, .int 0, .ref g20, .ref g21, .ref g22, .ref g23, .ref g24, .ref g25, .ref g26, .ref g27, .ref g28, .ref g29, .ref g30, .int 0]))]) [0] (by decide) rfl
  have hKc := hK.sub (tys' := []) [] rfl
  refine vp_callSi (va_Run.run (va_runV (As := [.int k0]) (rest := []) ⟨hx, hb, hml, hown, hT⟩ (m_isKind l dC dI m0 g0 g1 g2 g3 g4 g9 g17 g18 g20 g21 g22 g23 g24 g25 g26 g27 g28 g29 g30 H.size k0) (cwV 1 hT (gV w1288 w1290 ws74 w14 w1291) rfl rfl rfl (by decide +kernel) ⟨(Nat.le_of_ble_eq_true rfl), (Nat.le_of_ble_eq_true rfl)⟩) ⟨pcW.blind, va_recv hKc hPc (ci := 12) (q0 := 0) rfl rfl, pcW.pre hPc hKc hDc⟩ rfl rfl hl.1 rfl (lv_room (Nat.le_of_ble_eq_true rfl)) dX12_cleared_7 ⟨(Nat.le_of_ble_eq_true rfl), (Nat.le_of_ble_eq_true rfl)⟩)) (fun r_7 hr_7 => ?_)
  obtain rfl : r_7 = 0 := hr_7
  refine lv_if_eq (tgt := 25) hx hb dX12_cleared_10 (by decide) (fun _ => ?_) (fun h => absurd (by decide) h)
  refine lv_bipush (v := (-2)) hx hb dX12_cleared_25 (by decide) ?_
  refine W.widen (k := 0) (n := 0) (Nat.le_of_ble_eq_true rfl) (Nat.le_of_ble_eq_true rfl) ?_
  exact W.iret (v := (-2)) hx hb hr (fun t ht hW => ⟨⟨(-2), (), rfl, rfl, trivial⟩, hS.F ht⟩) hS.2.2 dX12_cleared_27

set_option maxHeartbeats 4000000 in
set_option maxRecDepth 100000 in
theorem m_rounds (l : Launch) (dC : Nat → ClassId) (dI : Nat → Nat → Nat) (m0 : Nat) (g0 : Nat) (g1 : Nat) (g2 : Nat) (g3 : Nat) (g4 : Nat) (g9 : Nat) (g17 : Nat) (g18 : Nat) (g20 : Nat) (g21 : Nat) (g22 : Nat) (g23 : Nat) (g24 : Nat) (g25 : Nat) (g26 : Nat) (g27 : Nat) (g28 : Nat) (g29 : Nat) (g30 : Nat) (sz : Nat) (k0 : Int32) (k1 : Int32) : Met l yX12_rounds (wT yX12_rounds cX12_rounds 4 (some .int)) ({ frames := 2, cells := 0, slots := 0, locals := 46 }) (pcW dC dI [.ref m0, .int k0, .int k1] sz [(m0, .inr (12, [.ref g0, .ref g1, .ref g2, .ref g3, .ref g4, .int 0, .int 0, .int 0, .int 0, .ref g9, .int 0, .int 0, .int 0, .int 0, .int (-1), .int 0, .int 0, .ref g17, .ref g18, .int 0, .ref g20, .ref g21, .ref g22, .ref g23, .ref g24, .ref g25, .ref g26, .ref g27, .ref g28, .ref g29, .ref g30, .int 0]))] []) (va_Qi (fun (r : Int32) (_ : Unit) => r = (-2)) (fun _ _ => True) (va_A [(m0, .inr (12, [.ref g0, .ref g1, .ref g2, .ref g3, .ref g4, .int 0, .int 0, .int 0, .int 0, .ref g9, .int 0, .int 0, .int 0, .int 0, .int (-1), .int 0, .int 0, .ref g17, .ref g18, .int 0, .ref g20, .ref g21, .ref g22, .ref g23, .ref g24, .ref g25, .ref g26, .ref g27, .ref g28, .ref g29, .ref g30, .int 0]))] sz)) 0 0 (va_A [(m0, .inr (12, [.ref g0, .ref g1, .ref g2, .ref g3, .ref g4, .int 0, .int 0, .int 0, .int 0, .ref g9, .int 0, .int 0, .int 0, .int 0, .int (-1), .int 0, .int 0, .ref g17, .ref g18, .int 0, .ref g20, .ref g21, .ref g22, .ref g23, .ref g24, .ref g25, .ref g26, .ref g27, .ref g28, .ref g29, .ref g30, .int 0]))] sz) := by
  refine Met.ofW (cc := cX12_rounds) (maxL := 4) (ret := (some .int)) (by decide) rfl ?_
  intro p e s m args below meth c s₁ B hml hv
  obtain ⟨rfl, hsz, hP, hK, hD0⟩ := hv
  have hx := B.exec
  have hb := B.bytes
  have hr := B.returns
  have hT : ∀ w ∈ TB, w.before [.ref m0, .int k0, .int k1].toArray s = true := fun w h => atoms_spec (ws := wT yX12_rounds cX12_rounds 4 (some .int)) B.pre w (List.mem_cons_of_mem _ h)
  have hown : s.vm.findClass RX12 = some m.cls := findClass_of_methodNamed B.named
  have hlocks := B.notSynchronized
  subst hsz
  have hD := hD0.self (sz := s.heap.size)
  generalize hAe : va_A [(m0, .inr (12, [.ref g0, .ref g1, .ref g2, .ref g3, .ref g4, .int 0, .int 0, .int 0, .int 0, .ref g9, .int 0, .int 0, .int 0, .int 0, .int (-1), .int 0, .int 0, .ref g17, .ref g18, .int 0, .ref g20, .ref g21, .ref g22, .ref g23, .ref g24, .ref g25, .ref g26, .ref g27, .ref g28, .ref g29, .ref g30, .int 0]))] s.heap.size = A at hD ⊢
  have hA : ∀ q : Nat, s.heap.size ≤ q → A q := fun q h => by rw [← hAe]; exact Or.inr h
  have hS : va_S A s.heap s.heap [] := va_S.rf
  have hP : va_P (dC, dI) vwCl [(m0, .inr (12, [.ref g0, .ref g1, .ref g2, .ref g3, .ref g4, .int 0, .int 0, .int 0, .int 0, .ref g9, .int 0, .int 0, .int 0, .int 0, .int (-1), .int 0, .int 0, .ref g17, .ref g18, .int 0, .ref g20, .ref g21, .ref g22, .ref g23, .ref g24, .ref g25, .ref g26, .ref g27, .ref g28, .ref g29, .ref g30, .int 0]))] s.heap := hP
  have hl := lv_entry ([.ref m0, .int k0, .int k1]) (n := 4) (Nat.le_of_ble_eq_true rfl)
  rw [lg_entry_eq]
  generalize (lg_sl ([.ref m0, .int k0, .int k1]) ++ List.replicate (4 - (lg_sl ([.ref m0, .int k0, .int k1])).length) Slot.unset).toArray = ls at hl ⊢
  have hl : lv_has ls 4 [(0, .ref m0), (1, .int k0), (2, .int k1)] := hl
  refine lv_aload_n hx hb dX12_rounds_0 rfl (lv_at hl 0 rfl) ?_
  refine lv_iconst (v := 0) hx hb dX12_rounds_1 (by decide) ?_
  refine va_put (D := (dC, dI)) (ci := 12) (v := .int 0) (ty := .int) (C := RX12) (T := TX12) (N := 32) hx hb hT iX12 tyX12 tyX12_ok nmX12 hown hK hP hD hS 0 rfl rfl 8 (by decide) (hT _ w1090) (fun _ h9 => h9) rfl (by decide +kernel) rfl rfl (Nat.le_of_ble_eq_true rfl) dX12_rounds_2 (fun H locs hP hD hS => ?_)
  have hP : va_P (dC, dI) vwCl [(m0, .inr (12, [.ref g0, .ref g1, .ref g2, .ref g3, .ref g4, .int 0, .int 0, .int 0, .int 0, .ref g9, .int 0, .int 0, .int 0, .int 0, .int (-1), .int 0, .int 0, .ref g17, .ref g18, .int 0, .ref g20, .ref g21, .ref g22, .ref g23, .ref g24, .ref g25, .ref g26, .ref g27, .ref g28, .ref g29, .ref g30, .int 0]))] H := hP
  have hD : va_D A [(m0, .inr (12, [.ref g0, .ref g1, .ref g2, .ref g3, .ref g4, .int 0, .int 0, .int 0, .int 0, .ref g9, .int 0, .int 0, .int 0, .int 0, .int (-1), .int 0, .int 0, .ref g17, .ref g18, .int 0, .ref g20, .ref g21, .ref g22, .ref g23, .ref g24, .ref g25, .ref g26, .ref g27, .ref g28, .ref g29, .ref g30, .int 0]))] := hD
  refine lv_aload_n hx hb dX12_rounds_5 rfl (lv_at hl 0 rfl) ?_
  refine lv_iload_n hx hb dX12_rounds_6 rfl (lv_at hl 1 rfl) ?_
  have hPc := hP.sub (ws' := [(m0, .inr (12, [.ref g0, .ref g1, .ref g2, .ref g3, .ref g4, .int 0, .int 0, .int 0, .int 0, .ref g9, .int 0, .int 0, .int 0, .int 0, .int (-1), .int 0, .int 0, .ref g17, .ref g18, .int 0, .ref g20, .ref g21, .ref g22, .ref g23, .ref g24, .ref g25, .ref g26, .ref g27, .ref g28, .ref g29, .ref g30, .int 0]))]) [0] rfl
  have hDc := hD.sub (ws' := [(m0, .inr (12, [.ref g0, .ref g1, .ref g2, .ref g3, .ref g4, .int 0, .int 0, .int 0, .int 0, .ref g9, .int 0, .int 0, .int 0, .int 0, .int (-1), .int 0, .int 0, .ref g17, .ref g18, .int 0, .ref g20, .ref g21, .ref g22, .ref g23, .ref g24, .ref g25, .ref g26, .ref g27, .ref g28, .ref g29, .ref g30, .int 0]))]) [0] (by decide) rfl
  have hKc := hK.sub (tys' := []) [] rfl
  refine vp_callSi (va_Run.run (va_runV (As := [.int k0]) (rest := []) ⟨hx, hb, hml, hown, hT⟩ (m_isKind l dC dI m0 g0 g1 g2 g3 g4 g9 g17 g18 g20 g21 g22 g23 g24 g25 g26 g27 g28 g29 g30 H.size k0) (cwV 1 hT (gV w1288 w1290 ws74 w14 w1291) rfl rfl rfl (by decide +kernel) ⟨(Nat.le_of_ble_eq_true rfl), (Nat.le_of_ble_eq_true rfl)⟩) ⟨pcW.blind, va_recv hKc hPc (ci := 12) (q0 := 0) rfl rfl, pcW.pre hPc hKc hDc⟩ rfl rfl hl.1 rfl (lv_room (Nat.le_of_ble_eq_true rfl)) dX12_rounds_7 ⟨(Nat.le_of_ble_eq_true rfl), (Nat.le_of_ble_eq_true rfl)⟩)) (fun r_7 hr_7 => ?_)
  obtain rfl : r_7 = 0 := hr_7
  refine lv_if_ne (tgt := 16) hx hb dX12_rounds_10 (by decide) (fun h => absurd (by decide) h) (fun _ => ?_)
  refine lv_bipush (v := (-2)) hx hb dX12_rounds_13 (by decide) ?_
  refine W.widen (k := 0) (n := 0) (Nat.le_of_ble_eq_true rfl) (Nat.le_of_ble_eq_true rfl) ?_
  exact W.iret (v := (-2)) hx hb hr (fun t ht hW => ⟨⟨(-2), (), rfl, rfl, trivial⟩, hS.F ht⟩) hS.2.2 dX12_rounds_15

set_option maxHeartbeats 4000000 in
set_option maxRecDepth 100000 in
theorem m_chain (l : Launch) (dC : Nat → ClassId) (dI : Nat → Nat → Nat) (m0 : Nat) (g0 : Nat) (g1 : Nat) (g2 : Nat) (g3 : Nat) (g4 : Nat) (g9 : Nat) (g17 : Nat) (g18 : Nat) (g20 : Nat) (g21 : Nat) (g22 : Nat) (g23 : Nat) (g24 : Nat) (g25 : Nat) (g26 : Nat) (g27 : Nat) (g28 : Nat) (g29 : Nat) (g30 : Nat) (sz : Nat) (k0 : Int32) (k1 : Int32) : Met l yX12_chain (wT yX12_chain cX12_chain 6 (some .int)) ({ frames := 2, cells := 0, slots := 0, locals := 46 }) (pcW dC dI [.ref m0, .int k0, .int k1] sz [(m0, .inr (12, [.ref g0, .ref g1, .ref g2, .ref g3, .ref g4, .int 0, .int 0, .int 0, .int 0, .ref g9, .int 0, .int 0, .int 0, .int 0, .int (-1), .int 0, .int 0, .ref g17, .ref g18, .int 0, .ref g20, .ref g21, .ref g22, .ref g23, .ref g24, .ref g25, .ref g26, .ref g27, .ref g28, .ref g29, .ref g30, .int 0]))] []) (va_Qi (fun (r : Int32) (_ : Unit) => r = (-2)) (fun _ _ => True) (va_A [(m0, .inr (12, [.ref g0, .ref g1, .ref g2, .ref g3, .ref g4, .int 0, .int 0, .int 0, .int 0, .ref g9, .int 0, .int 0, .int 0, .int 0, .int (-1), .int 0, .int 0, .ref g17, .ref g18, .int 0, .ref g20, .ref g21, .ref g22, .ref g23, .ref g24, .ref g25, .ref g26, .ref g27, .ref g28, .ref g29, .ref g30, .int 0]))] sz)) 0 0 (va_A [(m0, .inr (12, [.ref g0, .ref g1, .ref g2, .ref g3, .ref g4, .int 0, .int 0, .int 0, .int 0, .ref g9, .int 0, .int 0, .int 0, .int 0, .int (-1), .int 0, .int 0, .ref g17, .ref g18, .int 0, .ref g20, .ref g21, .ref g22, .ref g23, .ref g24, .ref g25, .ref g26, .ref g27, .ref g28, .ref g29, .ref g30, .int 0]))] sz) := by
  refine Met.ofW (cc := cX12_chain) (maxL := 6) (ret := (some .int)) (by decide) rfl ?_
  intro p e s m args below meth c s₁ B hml hv
  obtain ⟨rfl, hsz, hP, hK, hD0⟩ := hv
  have hx := B.exec
  have hb := B.bytes
  have hr := B.returns
  have hT : ∀ w ∈ TB, w.before [.ref m0, .int k0, .int k1].toArray s = true := fun w h => atoms_spec (ws := wT yX12_chain cX12_chain 6 (some .int)) B.pre w (List.mem_cons_of_mem _ h)
  have hown : s.vm.findClass RX12 = some m.cls := findClass_of_methodNamed B.named
  have hlocks := B.notSynchronized
  subst hsz
  have hD := hD0.self (sz := s.heap.size)
  generalize hAe : va_A [(m0, .inr (12, [.ref g0, .ref g1, .ref g2, .ref g3, .ref g4, .int 0, .int 0, .int 0, .int 0, .ref g9, .int 0, .int 0, .int 0, .int 0, .int (-1), .int 0, .int 0, .ref g17, .ref g18, .int 0, .ref g20, .ref g21, .ref g22, .ref g23, .ref g24, .ref g25, .ref g26, .ref g27, .ref g28, .ref g29, .ref g30, .int 0]))] s.heap.size = A at hD ⊢
  have hA : ∀ q : Nat, s.heap.size ≤ q → A q := fun q h => by rw [← hAe]; exact Or.inr h
  have hS : va_S A s.heap s.heap [] := va_S.rf
  have hP : va_P (dC, dI) vwCl [(m0, .inr (12, [.ref g0, .ref g1, .ref g2, .ref g3, .ref g4, .int 0, .int 0, .int 0, .int 0, .ref g9, .int 0, .int 0, .int 0, .int 0, .int (-1), .int 0, .int 0, .ref g17, .ref g18, .int 0, .ref g20, .ref g21, .ref g22, .ref g23, .ref g24, .ref g25, .ref g26, .ref g27, .ref g28, .ref g29, .ref g30, .int 0]))] s.heap := hP
  have hl := lv_entry ([.ref m0, .int k0, .int k1]) (n := 6) (Nat.le_of_ble_eq_true rfl)
  rw [lg_entry_eq]
  generalize (lg_sl ([.ref m0, .int k0, .int k1]) ++ List.replicate (6 - (lg_sl ([.ref m0, .int k0, .int k1])).length) Slot.unset).toArray = ls at hl ⊢
  have hl : lv_has ls 6 [(0, .ref m0), (1, .int k0), (2, .int k1)] := hl
  refine lv_aload_n hx hb dX12_chain_0 rfl (lv_at hl 0 rfl) ?_
  refine lv_iconst (v := 0) hx hb dX12_chain_1 (by decide) ?_
  refine va_put (D := (dC, dI)) (ci := 12) (v := .int 0) (ty := .int) (C := RX12) (T := TX12) (N := 32) hx hb hT iX12 tyX12 tyX12_ok nmX12 hown hK hP hD hS 0 rfl rfl 8 (by decide) (hT _ w1090) (fun _ h9 => h9) rfl (by decide +kernel) rfl rfl (Nat.le_of_ble_eq_true rfl) dX12_chain_2 (fun H locs hP hD hS => ?_)
  have hP : va_P (dC, dI) vwCl [(m0, .inr (12, [.ref g0, .ref g1, .ref g2, .ref g3, .ref g4, .int 0, .int 0, .int 0, .int 0, .ref g9, .int 0, .int 0, .int 0, .int 0, .int (-1), .int 0, .int 0, .ref g17, .ref g18, .int 0, .ref g20, .ref g21, .ref g22, .ref g23, .ref g24, .ref g25, .ref g26, .ref g27, .ref g28, .ref g29, .ref g30, .int 0]))] H := hP
  have hD : va_D A [(m0, .inr (12, [.ref g0, .ref g1, .ref g2, .ref g3, .ref g4, .int 0, .int 0, .int 0, .int 0, .ref g9, .int 0, .int 0, .int 0, .int 0, .int (-1), .int 0, .int 0, .ref g17, .ref g18, .int 0, .ref g20, .ref g21, .ref g22, .ref g23, .ref g24, .ref g25, .ref g26, .ref g27, .ref g28, .ref g29, .ref g30, .int 0]))] := hD
  refine lv_aload_n hx hb dX12_chain_5 rfl (lv_at hl 0 rfl) ?_
  refine lv_iload_n hx hb dX12_chain_6 rfl (lv_at hl 1 rfl) ?_
  have hPc := hP.sub (ws' := [(m0, .inr (12, [.ref g0, .ref g1, .ref g2, .ref g3, .ref g4, .int 0, .int 0, .int 0, .int 0, .ref g9, .int 0, .int 0, .int 0, .int 0, .int (-1), .int 0, .int 0, .ref g17, .ref g18, .int 0, .ref g20, .ref g21, .ref g22, .ref g23, .ref g24, .ref g25, .ref g26, .ref g27, .ref g28, .ref g29, .ref g30, .int 0]))]) [0] rfl
  have hDc := hD.sub (ws' := [(m0, .inr (12, [.ref g0, .ref g1, .ref g2, .ref g3, .ref g4, .int 0, .int 0, .int 0, .int 0, .ref g9, .int 0, .int 0, .int 0, .int 0, .int (-1), .int 0, .int 0, .ref g17, .ref g18, .int 0, .ref g20, .ref g21, .ref g22, .ref g23, .ref g24, .ref g25, .ref g26, .ref g27, .ref g28, .ref g29, .ref g30, .int 0]))]) [0] (by decide) rfl
  have hKc := hK.sub (tys' := []) [] rfl
  refine vp_callSi (va_Run.run (va_runV (As := [.int k0]) (rest := []) ⟨hx, hb, hml, hown, hT⟩ (m_isKind l dC dI m0 g0 g1 g2 g3 g4 g9 g17 g18 g20 g21 g22 g23 g24 g25 g26 g27 g28 g29 g30 H.size k0) (cwV 1 hT (gV w1288 w1290 ws74 w14 w1291) rfl rfl rfl (by decide +kernel) ⟨(Nat.le_of_ble_eq_true rfl), (Nat.le_of_ble_eq_true rfl)⟩) ⟨pcW.blind, va_recv hKc hPc (ci := 12) (q0 := 0) rfl rfl, pcW.pre hPc hKc hDc⟩ rfl rfl hl.1 rfl (lv_room (Nat.le_of_ble_eq_true rfl)) dX12_chain_7 ⟨(Nat.le_of_ble_eq_true rfl), (Nat.le_of_ble_eq_true rfl)⟩)) (fun r_7 hr_7 => ?_)
  obtain rfl : r_7 = 0 := hr_7
  refine lv_if_ne (tgt := 16) hx hb dX12_chain_10 (by decide) (fun h => absurd (by decide) h) (fun _ => ?_)
  refine lv_bipush (v := (-2)) hx hb dX12_chain_13 (by decide) ?_
  refine W.widen (k := 0) (n := 0) (Nat.le_of_ble_eq_true rfl) (Nat.le_of_ble_eq_true rfl) ?_
  exact W.iret (v := (-2)) hx hb hr (fun t ht hW => ⟨⟨(-2), (), rfl, rfl, trivial⟩, hS.F ht⟩) hS.2.2 dX12_chain_15

set_option maxHeartbeats 4000000 in
set_option maxRecDepth 100000 in
theorem m_least (l : Launch) (dC : Nat → ClassId) (dI : Nat → Nat → Nat) (m0 : Nat) (g0 : Nat) (g1 : Nat) (g2 : Nat) (g3 : Nat) (g4 : Nat) (g9 : Nat) (g17 : Nat) (g18 : Nat) (g20 : Nat) (g21 : Nat) (g22 : Nat) (g23 : Nat) (g24 : Nat) (g25 : Nat) (g26 : Nat) (g27 : Nat) (g28 : Nat) (g29 : Nat) (g30 : Nat) (sz : Nat) (k0 : Int32) : Met l yX12_least (wT yX12_least cX12_least 2 (some .int)) ({ frames := 2, cells := 0, slots := 0, locals := 46 }) (pcW dC dI [.ref m0, .int k0] sz [(m0, .inr (12, [.ref g0, .ref g1, .ref g2, .ref g3, .ref g4, .int 0, .int 0, .int 0, .int 0, .ref g9, .int 0, .int 0, .int 0, .int 0, .int (-1), .int 0, .int 0, .ref g17, .ref g18, .int 0, .ref g20, .ref g21, .ref g22, .ref g23, .ref g24, .ref g25, .ref g26, .ref g27, .ref g28, .ref g29, .ref g30, .int 0]))] []) (va_Qi (fun (r : Int32) (_ : Unit) => r = (-2)) (fun _ _ => True) (va_A [(m0, .inr (12, [.ref g0, .ref g1, .ref g2, .ref g3, .ref g4, .int 0, .int 0, .int 0, .int 0, .ref g9, .int 0, .int 0, .int 0, .int 0, .int (-1), .int 0, .int 0, .ref g17, .ref g18, .int 0, .ref g20, .ref g21, .ref g22, .ref g23, .ref g24, .ref g25, .ref g26, .ref g27, .ref g28, .ref g29, .ref g30, .int 0]))] sz)) 0 0 (va_A [(m0, .inr (12, [.ref g0, .ref g1, .ref g2, .ref g3, .ref g4, .int 0, .int 0, .int 0, .int 0, .ref g9, .int 0, .int 0, .int 0, .int 0, .int (-1), .int 0, .int 0, .ref g17, .ref g18, .int 0, .ref g20, .ref g21, .ref g22, .ref g23, .ref g24, .ref g25, .ref g26, .ref g27, .ref g28, .ref g29, .ref g30, .int 0]))] sz) := by
  refine Met.ofW (cc := cX12_least) (maxL := 2) (ret := (some .int)) (by decide) rfl ?_
  intro p e s m args below meth c s₁ B hml hv
  obtain ⟨rfl, hsz, hP, hK, hD0⟩ := hv
  have hx := B.exec
  have hb := B.bytes
  have hr := B.returns
  have hT : ∀ w ∈ TB, w.before [.ref m0, .int k0].toArray s = true := fun w h => atoms_spec (ws := wT yX12_least cX12_least 2 (some .int)) B.pre w (List.mem_cons_of_mem _ h)
  have hown : s.vm.findClass RX12 = some m.cls := findClass_of_methodNamed B.named
  have hlocks := B.notSynchronized
  subst hsz
  have hD := hD0.self (sz := s.heap.size)
  generalize hAe : va_A [(m0, .inr (12, [.ref g0, .ref g1, .ref g2, .ref g3, .ref g4, .int 0, .int 0, .int 0, .int 0, .ref g9, .int 0, .int 0, .int 0, .int 0, .int (-1), .int 0, .int 0, .ref g17, .ref g18, .int 0, .ref g20, .ref g21, .ref g22, .ref g23, .ref g24, .ref g25, .ref g26, .ref g27, .ref g28, .ref g29, .ref g30, .int 0]))] s.heap.size = A at hD ⊢
  have hA : ∀ q : Nat, s.heap.size ≤ q → A q := fun q h => by rw [← hAe]; exact Or.inr h
  have hS : va_S A s.heap s.heap [] := va_S.rf
  have hP : va_P (dC, dI) vwCl [(m0, .inr (12, [.ref g0, .ref g1, .ref g2, .ref g3, .ref g4, .int 0, .int 0, .int 0, .int 0, .ref g9, .int 0, .int 0, .int 0, .int 0, .int (-1), .int 0, .int 0, .ref g17, .ref g18, .int 0, .ref g20, .ref g21, .ref g22, .ref g23, .ref g24, .ref g25, .ref g26, .ref g27, .ref g28, .ref g29, .ref g30, .int 0]))] s.heap := hP
  have hl := lv_entry ([.ref m0, .int k0]) (n := 2) (Nat.le_of_ble_eq_true rfl)
  rw [lg_entry_eq]
  generalize (lg_sl ([.ref m0, .int k0]) ++ List.replicate (2 - (lg_sl ([.ref m0, .int k0])).length) Slot.unset).toArray = ls at hl ⊢
  have hl : lv_has ls 2 [(0, .ref m0), (1, .int k0)] := hl
  refine lv_aload_n hx hb dX12_least_0 rfl (lv_at hl 0 rfl) ?_
  refine lv_iconst (v := 0) hx hb dX12_least_1 (by decide) ?_
  refine va_put (D := (dC, dI)) (ci := 12) (v := .int 0) (ty := .int) (C := RX12) (T := TX12) (N := 32) hx hb hT iX12 tyX12 tyX12_ok nmX12 hown hK hP hD hS 0 rfl rfl 8 (by decide) (hT _ w1090) (fun _ h9 => h9) rfl (by decide +kernel) rfl rfl (Nat.le_of_ble_eq_true rfl) dX12_least_2 (fun H locs hP hD hS => ?_)
  have hP : va_P (dC, dI) vwCl [(m0, .inr (12, [.ref g0, .ref g1, .ref g2, .ref g3, .ref g4, .int 0, .int 0, .int 0, .int 0, .ref g9, .int 0, .int 0, .int 0, .int 0, .int (-1), .int 0, .int 0, .ref g17, .ref g18, .int 0, .ref g20, .ref g21, .ref g22, .ref g23, .ref g24, .ref g25, .ref g26, .ref g27, .ref g28, .ref g29, .ref g30, .int 0]))] H := hP
  have hD : va_D A [(m0, .inr (12, [.ref g0, .ref g1, .ref g2, .ref g3, .ref g4, .int 0, .int 0, .int 0, .int 0, .ref g9, .int 0, .int 0, .int 0, .int 0, .int (-1), .int 0, .int 0, .ref g17, .ref g18, .int 0, .ref g20, .ref g21, .ref g22, .ref g23, .ref g24, .ref g25, .ref g26, .ref g27, .ref g28, .ref g29, .ref g30, .int 0]))] := hD
  refine lv_aload_n hx hb dX12_least_5 rfl (lv_at hl 0 rfl) ?_
  refine lv_iload_n hx hb dX12_least_6 rfl (lv_at hl 1 rfl) ?_
  have hPc := hP.sub (ws' := [(m0, .inr (12, [.ref g0, .ref g1, .ref g2, .ref g3, .ref g4, .int 0, .int 0, .int 0, .int 0, .ref g9, .int 0, .int 0, .int 0, .int 0, .int (-1), .int 0, .int 0, .ref g17, .ref g18, .int 0, .ref g20, .ref g21, .ref g22, .ref g23, .ref g24, .ref g25, .ref g26, .ref g27, .ref g28, .ref g29, .ref g30, .int 0]))]) [0] rfl
  have hDc := hD.sub (ws' := [(m0, .inr (12, [.ref g0, .ref g1, .ref g2, .ref g3, .ref g4, .int 0, .int 0, .int 0, .int 0, .ref g9, .int 0, .int 0, .int 0, .int 0, .int (-1), .int 0, .int 0, .ref g17, .ref g18, .int 0, .ref g20, .ref g21, .ref g22, .ref g23, .ref g24, .ref g25, .ref g26, .ref g27, .ref g28, .ref g29, .ref g30, .int 0]))]) [0] (by decide) rfl
  have hKc := hK.sub (tys' := []) [] rfl
  refine vp_callSi (va_Run.run (va_runV (As := [.int k0]) (rest := []) ⟨hx, hb, hml, hown, hT⟩ (m_isKind l dC dI m0 g0 g1 g2 g3 g4 g9 g17 g18 g20 g21 g22 g23 g24 g25 g26 g27 g28 g29 g30 H.size k0) (cwV 1 hT (gV w1288 w1290 ws74 w14 w1291) rfl rfl rfl (by decide +kernel) ⟨(Nat.le_of_ble_eq_true rfl), (Nat.le_of_ble_eq_true rfl)⟩) ⟨pcW.blind, va_recv hKc hPc (ci := 12) (q0 := 0) rfl rfl, pcW.pre hPc hKc hDc⟩ rfl rfl hl.1 rfl (lv_room (Nat.le_of_ble_eq_true rfl)) dX12_least_7 ⟨(Nat.le_of_ble_eq_true rfl), (Nat.le_of_ble_eq_true rfl)⟩)) (fun r_7 hr_7 => ?_)
  obtain rfl : r_7 = 0 := hr_7
  refine lv_if_ne (tgt := 16) hx hb dX12_least_10 (by decide) (fun h => absurd (by decide) h) (fun _ => ?_)
  refine lv_bipush (v := (-2)) hx hb dX12_least_13 (by decide) ?_
  refine W.widen (k := 0) (n := 0) (Nat.le_of_ble_eq_true rfl) (Nat.le_of_ble_eq_true rfl) ?_
  exact W.iret (v := (-2)) hx hb hr (fun t ht hW => ⟨⟨(-2), (), rfl, rfl, trivial⟩, hS.F ht⟩) hS.2.2 dX12_least_15

set_option maxHeartbeats 4000000 in
set_option maxRecDepth 100000 in
theorem m_couples (l : Launch) (dC : Nat → ClassId) (dI : Nat → Nat → Nat) (m0 : Nat) (g0 : Nat) (g1 : Nat) (g2 : Nat) (g3 : Nat) (g4 : Nat) (g9 : Nat) (g17 : Nat) (g18 : Nat) (g20 : Nat) (g21 : Nat) (g22 : Nat) (g23 : Nat) (g24 : Nat) (g25 : Nat) (g26 : Nat) (g27 : Nat) (g28 : Nat) (g29 : Nat) (g30 : Nat) (sz : Nat) (k0 : Int32) : Met l yX12_couples (wT yX12_couples cX12_couples 2 (some .int)) ({ frames := 2, cells := 0, slots := 0, locals := 46 }) (pcW dC dI [.ref m0, .int k0] sz [(m0, .inr (12, [.ref g0, .ref g1, .ref g2, .ref g3, .ref g4, .int 0, .int 0, .int 0, .int 0, .ref g9, .int 0, .int 0, .int 0, .int 0, .int (-1), .int 0, .int 0, .ref g17, .ref g18, .int 0, .ref g20, .ref g21, .ref g22, .ref g23, .ref g24, .ref g25, .ref g26, .ref g27, .ref g28, .ref g29, .ref g30, .int 0]))] []) (va_Qi (fun (r : Int32) (_ : Unit) => r = (-2)) (fun _ _ => True) (va_A [(m0, .inr (12, [.ref g0, .ref g1, .ref g2, .ref g3, .ref g4, .int 0, .int 0, .int 0, .int 0, .ref g9, .int 0, .int 0, .int 0, .int 0, .int (-1), .int 0, .int 0, .ref g17, .ref g18, .int 0, .ref g20, .ref g21, .ref g22, .ref g23, .ref g24, .ref g25, .ref g26, .ref g27, .ref g28, .ref g29, .ref g30, .int 0]))] sz)) 0 0 (va_A [(m0, .inr (12, [.ref g0, .ref g1, .ref g2, .ref g3, .ref g4, .int 0, .int 0, .int 0, .int 0, .ref g9, .int 0, .int 0, .int 0, .int 0, .int (-1), .int 0, .int 0, .ref g17, .ref g18, .int 0, .ref g20, .ref g21, .ref g22, .ref g23, .ref g24, .ref g25, .ref g26, .ref g27, .ref g28, .ref g29, .ref g30, .int 0]))] sz) := by
  refine Met.ofW (cc := cX12_couples) (maxL := 2) (ret := (some .int)) (by decide) rfl ?_
  intro p e s m args below meth c s₁ B hml hv
  obtain ⟨rfl, hsz, hP, hK, hD0⟩ := hv
  have hx := B.exec
  have hb := B.bytes
  have hr := B.returns
  have hT : ∀ w ∈ TB, w.before [.ref m0, .int k0].toArray s = true := fun w h => atoms_spec (ws := wT yX12_couples cX12_couples 2 (some .int)) B.pre w (List.mem_cons_of_mem _ h)
  have hown : s.vm.findClass RX12 = some m.cls := findClass_of_methodNamed B.named
  have hlocks := B.notSynchronized
  subst hsz
  have hD := hD0.self (sz := s.heap.size)
  generalize hAe : va_A [(m0, .inr (12, [.ref g0, .ref g1, .ref g2, .ref g3, .ref g4, .int 0, .int 0, .int 0, .int 0, .ref g9, .int 0, .int 0, .int 0, .int 0, .int (-1), .int 0, .int 0, .ref g17, .ref g18, .int 0, .ref g20, .ref g21, .ref g22, .ref g23, .ref g24, .ref g25, .ref g26, .ref g27, .ref g28, .ref g29, .ref g30, .int 0]))] s.heap.size = A at hD ⊢
  have hA : ∀ q : Nat, s.heap.size ≤ q → A q := fun q h => by rw [← hAe]; exact Or.inr h
  have hS : va_S A s.heap s.heap [] := va_S.rf
  have hP : va_P (dC, dI) vwCl [(m0, .inr (12, [.ref g0, .ref g1, .ref g2, .ref g3, .ref g4, .int 0, .int 0, .int 0, .int 0, .ref g9, .int 0, .int 0, .int 0, .int 0, .int (-1), .int 0, .int 0, .ref g17, .ref g18, .int 0, .ref g20, .ref g21, .ref g22, .ref g23, .ref g24, .ref g25, .ref g26, .ref g27, .ref g28, .ref g29, .ref g30, .int 0]))] s.heap := hP
  have hl := lv_entry ([.ref m0, .int k0]) (n := 2) (Nat.le_of_ble_eq_true rfl)
  rw [lg_entry_eq]
  generalize (lg_sl ([.ref m0, .int k0]) ++ List.replicate (2 - (lg_sl ([.ref m0, .int k0])).length) Slot.unset).toArray = ls at hl ⊢
  have hl : lv_has ls 2 [(0, .ref m0), (1, .int k0)] := hl
  refine lv_aload_n hx hb dX12_couples_0 rfl (lv_at hl 0 rfl) ?_
  refine lv_iconst (v := 0) hx hb dX12_couples_1 (by decide) ?_
  refine va_put (D := (dC, dI)) (ci := 12) (v := .int 0) (ty := .int) (C := RX12) (T := TX12) (N := 32) hx hb hT iX12 tyX12 tyX12_ok nmX12 hown hK hP hD hS 0 rfl rfl 8 (by decide) (hT _ w1090) (fun _ h9 => h9) rfl (by decide +kernel) rfl rfl (Nat.le_of_ble_eq_true rfl) dX12_couples_2 (fun H locs hP hD hS => ?_)
  have hP : va_P (dC, dI) vwCl [(m0, .inr (12, [.ref g0, .ref g1, .ref g2, .ref g3, .ref g4, .int 0, .int 0, .int 0, .int 0, .ref g9, .int 0, .int 0, .int 0, .int 0, .int (-1), .int 0, .int 0, .ref g17, .ref g18, .int 0, .ref g20, .ref g21, .ref g22, .ref g23, .ref g24, .ref g25, .ref g26, .ref g27, .ref g28, .ref g29, .ref g30, .int 0]))] H := hP
  have hD : va_D A [(m0, .inr (12, [.ref g0, .ref g1, .ref g2, .ref g3, .ref g4, .int 0, .int 0, .int 0, .int 0, .ref g9, .int 0, .int 0, .int 0, .int 0, .int (-1), .int 0, .int 0, .ref g17, .ref g18, .int 0, .ref g20, .ref g21, .ref g22, .ref g23, .ref g24, .ref g25, .ref g26, .ref g27, .ref g28, .ref g29, .ref g30, .int 0]))] := hD
  refine lv_aload_n hx hb dX12_couples_5 rfl (lv_at hl 0 rfl) ?_
  refine lv_iload_n hx hb dX12_couples_6 rfl (lv_at hl 1 rfl) ?_
  have hPc := hP.sub (ws' := [(m0, .inr (12, [.ref g0, .ref g1, .ref g2, .ref g3, .ref g4, .int 0, .int 0, .int 0, .int 0, .ref g9, .int 0, .int 0, .int 0, .int 0, .int (-1), .int 0, .int 0, .ref g17, .ref g18, .int 0, .ref g20, .ref g21, .ref g22, .ref g23, .ref g24, .ref g25, .ref g26, .ref g27, .ref g28, .ref g29, .ref g30, .int 0]))]) [0] rfl
  have hDc := hD.sub (ws' := [(m0, .inr (12, [.ref g0, .ref g1, .ref g2, .ref g3, .ref g4, .int 0, .int 0, .int 0, .int 0, .ref g9, .int 0, .int 0, .int 0, .int 0, .int (-1), .int 0, .int 0, .ref g17, .ref g18, .int 0, .ref g20, .ref g21, .ref g22, .ref g23, .ref g24, .ref g25, .ref g26, .ref g27, .ref g28, .ref g29, .ref g30, .int 0]))]) [0] (by decide) rfl
  have hKc := hK.sub (tys' := []) [] rfl
  refine vp_callSi (va_Run.run (va_runV (As := [.int k0]) (rest := []) ⟨hx, hb, hml, hown, hT⟩ (m_isKind l dC dI m0 g0 g1 g2 g3 g4 g9 g17 g18 g20 g21 g22 g23 g24 g25 g26 g27 g28 g29 g30 H.size k0) (cwV 1 hT (gV w1288 w1290 ws74 w14 w1291) rfl rfl rfl (by decide +kernel) ⟨(Nat.le_of_ble_eq_true rfl), (Nat.le_of_ble_eq_true rfl)⟩) ⟨pcW.blind, va_recv hKc hPc (ci := 12) (q0 := 0) rfl rfl, pcW.pre hPc hKc hDc⟩ rfl rfl hl.1 rfl (lv_room (Nat.le_of_ble_eq_true rfl)) dX12_couples_7 ⟨(Nat.le_of_ble_eq_true rfl), (Nat.le_of_ble_eq_true rfl)⟩)) (fun r_7 hr_7 => ?_)
  obtain rfl : r_7 = 0 := hr_7
  refine lv_if_ne (tgt := 16) hx hb dX12_couples_10 (by decide) (fun h => absurd (by decide) h) (fun _ => ?_)
  refine lv_bipush (v := (-2)) hx hb dX12_couples_13 (by decide) ?_
  refine W.widen (k := 0) (n := 0) (Nat.le_of_ble_eq_true rfl) (Nat.le_of_ble_eq_true rfl) ?_
  exact W.iret (v := (-2)) hx hb hr (fun t ht hW => ⟨⟨(-2), (), rfl, rfl, trivial⟩, hS.F ht⟩) hS.2.2 dX12_couples_15

set_option maxHeartbeats 4000000 in
set_option maxRecDepth 100000 in
theorem m_relieved (l : Launch) (dC : Nat → ClassId) (dI : Nat → Nat → Nat) (m0 : Nat) (g0 : Nat) (g1 : Nat) (g2 : Nat) (g3 : Nat) (g4 : Nat) (g9 : Nat) (g17 : Nat) (g18 : Nat) (g20 : Nat) (g21 : Nat) (g22 : Nat) (g23 : Nat) (g24 : Nat) (g25 : Nat) (g26 : Nat) (g27 : Nat) (g28 : Nat) (g29 : Nat) (g30 : Nat) (sz : Nat) (k0 : Int32) : Met l yX12_relieved (wT yX12_relieved cX12_relieved 4 (some .int)) ({ frames := 2, cells := 0, slots := 0, locals := 46 }) (pcW dC dI [.ref m0, .int k0] sz [(m0, .inr (12, [.ref g0, .ref g1, .ref g2, .ref g3, .ref g4, .int 0, .int 0, .int 0, .int 0, .ref g9, .int 0, .int 0, .int 0, .int 0, .int (-1), .int 0, .int 0, .ref g17, .ref g18, .int 0, .ref g20, .ref g21, .ref g22, .ref g23, .ref g24, .ref g25, .ref g26, .ref g27, .ref g28, .ref g29, .ref g30, .int 0]))] []) (va_Qi (fun (r : Int32) (_ : Unit) => r = (-2)) (fun _ _ => True) (va_A [(m0, .inr (12, [.ref g0, .ref g1, .ref g2, .ref g3, .ref g4, .int 0, .int 0, .int 0, .int 0, .ref g9, .int 0, .int 0, .int 0, .int 0, .int (-1), .int 0, .int 0, .ref g17, .ref g18, .int 0, .ref g20, .ref g21, .ref g22, .ref g23, .ref g24, .ref g25, .ref g26, .ref g27, .ref g28, .ref g29, .ref g30, .int 0]))] sz)) 0 0 (va_A [(m0, .inr (12, [.ref g0, .ref g1, .ref g2, .ref g3, .ref g4, .int 0, .int 0, .int 0, .int 0, .ref g9, .int 0, .int 0, .int 0, .int 0, .int (-1), .int 0, .int 0, .ref g17, .ref g18, .int 0, .ref g20, .ref g21, .ref g22, .ref g23, .ref g24, .ref g25, .ref g26, .ref g27, .ref g28, .ref g29, .ref g30, .int 0]))] sz) := by
  refine Met.ofW (cc := cX12_relieved) (maxL := 4) (ret := (some .int)) (by decide) rfl ?_
  intro p e s m args below meth c s₁ B hml hv
  obtain ⟨rfl, hsz, hP, hK, hD0⟩ := hv
  have hx := B.exec
  have hb := B.bytes
  have hr := B.returns
  have hT : ∀ w ∈ TB, w.before [.ref m0, .int k0].toArray s = true := fun w h => atoms_spec (ws := wT yX12_relieved cX12_relieved 4 (some .int)) B.pre w (List.mem_cons_of_mem _ h)
  have hown : s.vm.findClass RX12 = some m.cls := findClass_of_methodNamed B.named
  have hlocks := B.notSynchronized
  subst hsz
  have hD := hD0.self (sz := s.heap.size)
  generalize hAe : va_A [(m0, .inr (12, [.ref g0, .ref g1, .ref g2, .ref g3, .ref g4, .int 0, .int 0, .int 0, .int 0, .ref g9, .int 0, .int 0, .int 0, .int 0, .int (-1), .int 0, .int 0, .ref g17, .ref g18, .int 0, .ref g20, .ref g21, .ref g22, .ref g23, .ref g24, .ref g25, .ref g26, .ref g27, .ref g28, .ref g29, .ref g30, .int 0]))] s.heap.size = A at hD ⊢
  have hA : ∀ q : Nat, s.heap.size ≤ q → A q := fun q h => by rw [← hAe]; exact Or.inr h
  have hS : va_S A s.heap s.heap [] := va_S.rf
  have hP : va_P (dC, dI) vwCl [(m0, .inr (12, [.ref g0, .ref g1, .ref g2, .ref g3, .ref g4, .int 0, .int 0, .int 0, .int 0, .ref g9, .int 0, .int 0, .int 0, .int 0, .int (-1), .int 0, .int 0, .ref g17, .ref g18, .int 0, .ref g20, .ref g21, .ref g22, .ref g23, .ref g24, .ref g25, .ref g26, .ref g27, .ref g28, .ref g29, .ref g30, .int 0]))] s.heap := hP
  have hl := lv_entry ([.ref m0, .int k0]) (n := 4) (Nat.le_of_ble_eq_true rfl)
  rw [lg_entry_eq]
  generalize (lg_sl ([.ref m0, .int k0]) ++ List.replicate (4 - (lg_sl ([.ref m0, .int k0])).length) Slot.unset).toArray = ls at hl ⊢
  have hl : lv_has ls 4 [(0, .ref m0), (1, .int k0)] := hl
  refine lv_aload_n hx hb dX12_relieved_0 rfl (lv_at hl 0 rfl) ?_
  refine lv_iconst (v := 0) hx hb dX12_relieved_1 (by decide) ?_
  refine va_put (D := (dC, dI)) (ci := 12) (v := .int 0) (ty := .int) (C := RX12) (T := TX12) (N := 32) hx hb hT iX12 tyX12 tyX12_ok nmX12 hown hK hP hD hS 0 rfl rfl 8 (by decide) (hT _ w1090) (fun _ h9 => h9) rfl (by decide +kernel) rfl rfl (Nat.le_of_ble_eq_true rfl) dX12_relieved_2 (fun H locs hP hD hS => ?_)
  have hP : va_P (dC, dI) vwCl [(m0, .inr (12, [.ref g0, .ref g1, .ref g2, .ref g3, .ref g4, .int 0, .int 0, .int 0, .int 0, .ref g9, .int 0, .int 0, .int 0, .int 0, .int (-1), .int 0, .int 0, .ref g17, .ref g18, .int 0, .ref g20, .ref g21, .ref g22, .ref g23, .ref g24, .ref g25, .ref g26, .ref g27, .ref g28, .ref g29, .ref g30, .int 0]))] H := hP
  have hD : va_D A [(m0, .inr (12, [.ref g0, .ref g1, .ref g2, .ref g3, .ref g4, .int 0, .int 0, .int 0, .int 0, .ref g9, .int 0, .int 0, .int 0, .int 0, .int (-1), .int 0, .int 0, .ref g17, .ref g18, .int 0, .ref g20, .ref g21, .ref g22, .ref g23, .ref g24, .ref g25, .ref g26, .ref g27, .ref g28, .ref g29, .ref g30, .int 0]))] := hD
  refine lv_aload_n hx hb dX12_relieved_5 rfl (lv_at hl 0 rfl) ?_
  refine lv_iload_n hx hb dX12_relieved_6 rfl (lv_at hl 1 rfl) ?_
  have hPc := hP.sub (ws' := [(m0, .inr (12, [.ref g0, .ref g1, .ref g2, .ref g3, .ref g4, .int 0, .int 0, .int 0, .int 0, .ref g9, .int 0, .int 0, .int 0, .int 0, .int (-1), .int 0, .int 0, .ref g17, .ref g18, .int 0, .ref g20, .ref g21, .ref g22, .ref g23, .ref g24, .ref g25, .ref g26, .ref g27, .ref g28, .ref g29, .ref g30, .int 0]))]) [0] rfl
  have hDc := hD.sub (ws' := [(m0, .inr (12, [.ref g0, .ref g1, .ref g2, .ref g3, .ref g4, .int 0, .int 0, .int 0, .int 0, .ref g9, .int 0, .int 0, .int 0, .int 0, .int (-1), .int 0, .int 0, .ref g17, .ref g18, .int 0, .ref g20, .ref g21, .ref g22, .ref g23, .ref g24, .ref g25, .ref g26, .ref g27, .ref g28, .ref g29, .ref g30, .int 0]))]) [0] (by decide) rfl
  have hKc := hK.sub (tys' := []) [] rfl
  refine vp_callSi (va_Run.run (va_runV (As := [.int k0]) (rest := []) ⟨hx, hb, hml, hown, hT⟩ (m_isKind l dC dI m0 g0 g1 g2 g3 g4 g9 g17 g18 g20 g21 g22 g23 g24 g25 g26 g27 g28 g29 g30 H.size k0) (cwV 1 hT (gV w1288 w1290 ws74 w14 w1291) rfl rfl rfl (by decide +kernel) ⟨(Nat.le_of_ble_eq_true rfl), (Nat.le_of_ble_eq_true rfl)⟩) ⟨pcW.blind, va_recv hKc hPc (ci := 12) (q0 := 0) rfl rfl, pcW.pre hPc hKc hDc⟩ rfl rfl hl.1 rfl (lv_room (Nat.le_of_ble_eq_true rfl)) dX12_relieved_7 ⟨(Nat.le_of_ble_eq_true rfl), (Nat.le_of_ble_eq_true rfl)⟩)) (fun r_7 hr_7 => ?_)
  obtain rfl : r_7 = 0 := hr_7
  refine lv_if_ne (tgt := 16) hx hb dX12_relieved_10 (by decide) (fun h => absurd (by decide) h) (fun _ => ?_)
  refine lv_bipush (v := (-2)) hx hb dX12_relieved_13 (by decide) ?_
  refine W.widen (k := 0) (n := 0) (Nat.le_of_ble_eq_true rfl) (Nat.le_of_ble_eq_true rfl) ?_
  exact W.iret (v := (-2)) hx hb hr (fun t ht hW => ⟨⟨(-2), (), rfl, rfl, trivial⟩, hS.F ht⟩) hS.2.2 dX12_relieved_15

set_option maxHeartbeats 4000000 in
set_option maxRecDepth 100000 in
theorem m_fewest (l : Launch) (dC : Nat → ClassId) (dI : Nat → Nat → Nat) (m0 : Nat) (g0 : Nat) (g1 : Nat) (g2 : Nat) (g3 : Nat) (g4 : Nat) (g9 : Nat) (g17 : Nat) (g18 : Nat) (g20 : Nat) (g21 : Nat) (g22 : Nat) (g23 : Nat) (g24 : Nat) (g25 : Nat) (g26 : Nat) (g27 : Nat) (g28 : Nat) (g29 : Nat) (g30 : Nat) (sz : Nat) (k0 : Int32) (k1 : Int32) : Met l yX12_fewest (wT yX12_fewest cX12_fewest 7 (some .int)) ({ frames := 2, cells := 0, slots := 0, locals := 46 }) (pcW dC dI [.ref m0, .int k0, .int k1] sz [(m0, .inr (12, [.ref g0, .ref g1, .ref g2, .ref g3, .ref g4, .int 0, .int 0, .int 0, .int 0, .ref g9, .int 0, .int 0, .int 0, .int 0, .int (-1), .int 0, .int 0, .ref g17, .ref g18, .int 0, .ref g20, .ref g21, .ref g22, .ref g23, .ref g24, .ref g25, .ref g26, .ref g27, .ref g28, .ref g29, .ref g30, .int 0]))] []) (va_Qi (fun (r : Int32) (_ : Unit) => r = (-2)) (fun _ _ => True) (va_A [(m0, .inr (12, [.ref g0, .ref g1, .ref g2, .ref g3, .ref g4, .int 0, .int 0, .int 0, .int 0, .ref g9, .int 0, .int 0, .int 0, .int 0, .int (-1), .int 0, .int 0, .ref g17, .ref g18, .int 0, .ref g20, .ref g21, .ref g22, .ref g23, .ref g24, .ref g25, .ref g26, .ref g27, .ref g28, .ref g29, .ref g30, .int 0]))] sz)) 0 0 (va_A [(m0, .inr (12, [.ref g0, .ref g1, .ref g2, .ref g3, .ref g4, .int 0, .int 0, .int 0, .int 0, .ref g9, .int 0, .int 0, .int 0, .int 0, .int (-1), .int 0, .int 0, .ref g17, .ref g18, .int 0, .ref g20, .ref g21, .ref g22, .ref g23, .ref g24, .ref g25, .ref g26, .ref g27, .ref g28, .ref g29, .ref g30, .int 0]))] sz) := by
  refine Met.ofW (cc := cX12_fewest) (maxL := 7) (ret := (some .int)) (by decide) rfl ?_
  intro p e s m args below meth c s₁ B hml hv
  obtain ⟨rfl, hsz, hP, hK, hD0⟩ := hv
  have hx := B.exec
  have hb := B.bytes
  have hr := B.returns
  have hT : ∀ w ∈ TB, w.before [.ref m0, .int k0, .int k1].toArray s = true := fun w h => atoms_spec (ws := wT yX12_fewest cX12_fewest 7 (some .int)) B.pre w (List.mem_cons_of_mem _ h)
  have hown : s.vm.findClass RX12 = some m.cls := findClass_of_methodNamed B.named
  have hlocks := B.notSynchronized
  subst hsz
  have hD := hD0.self (sz := s.heap.size)
  generalize hAe : va_A [(m0, .inr (12, [.ref g0, .ref g1, .ref g2, .ref g3, .ref g4, .int 0, .int 0, .int 0, .int 0, .ref g9, .int 0, .int 0, .int 0, .int 0, .int (-1), .int 0, .int 0, .ref g17, .ref g18, .int 0, .ref g20, .ref g21, .ref g22, .ref g23, .ref g24, .ref g25, .ref g26, .ref g27, .ref g28, .ref g29, .ref g30, .int 0]))] s.heap.size = A at hD ⊢
  have hA : ∀ q : Nat, s.heap.size ≤ q → A q := fun q h => by rw [← hAe]; exact Or.inr h
  have hS : va_S A s.heap s.heap [] := va_S.rf
  have hP : va_P (dC, dI) vwCl [(m0, .inr (12, [.ref g0, .ref g1, .ref g2, .ref g3, .ref g4, .int 0, .int 0, .int 0, .int 0, .ref g9, .int 0, .int 0, .int 0, .int 0, .int (-1), .int 0, .int 0, .ref g17, .ref g18, .int 0, .ref g20, .ref g21, .ref g22, .ref g23, .ref g24, .ref g25, .ref g26, .ref g27, .ref g28, .ref g29, .ref g30, .int 0]))] s.heap := hP
  have hl := lv_entry ([.ref m0, .int k0, .int k1]) (n := 7) (Nat.le_of_ble_eq_true rfl)
  rw [lg_entry_eq]
  generalize (lg_sl ([.ref m0, .int k0, .int k1]) ++ List.replicate (7 - (lg_sl ([.ref m0, .int k0, .int k1])).length) Slot.unset).toArray = ls at hl ⊢
  have hl : lv_has ls 7 [(0, .ref m0), (1, .int k0), (2, .int k1)] := hl
  refine lv_aload_n hx hb dX12_fewest_0 rfl (lv_at hl 0 rfl) ?_
  refine lv_iconst (v := 0) hx hb dX12_fewest_1 (by decide) ?_
  refine va_put (D := (dC, dI)) (ci := 12) (v := .int 0) (ty := .int) (C := RX12) (T := TX12) (N := 32) hx hb hT iX12 tyX12 tyX12_ok nmX12 hown hK hP hD hS 0 rfl rfl 8 (by decide) (hT _ w1090) (fun _ h9 => h9) rfl (by decide +kernel) rfl rfl (Nat.le_of_ble_eq_true rfl) dX12_fewest_2 (fun H locs hP hD hS => ?_)
  have hP : va_P (dC, dI) vwCl [(m0, .inr (12, [.ref g0, .ref g1, .ref g2, .ref g3, .ref g4, .int 0, .int 0, .int 0, .int 0, .ref g9, .int 0, .int 0, .int 0, .int 0, .int (-1), .int 0, .int 0, .ref g17, .ref g18, .int 0, .ref g20, .ref g21, .ref g22, .ref g23, .ref g24, .ref g25, .ref g26, .ref g27, .ref g28, .ref g29, .ref g30, .int 0]))] H := hP
  have hD : va_D A [(m0, .inr (12, [.ref g0, .ref g1, .ref g2, .ref g3, .ref g4, .int 0, .int 0, .int 0, .int 0, .ref g9, .int 0, .int 0, .int 0, .int 0, .int (-1), .int 0, .int 0, .ref g17, .ref g18, .int 0, .ref g20, .ref g21, .ref g22, .ref g23, .ref g24, .ref g25, .ref g26, .ref g27, .ref g28, .ref g29, .ref g30, .int 0]))] := hD
  refine lv_aload_n hx hb dX12_fewest_5 rfl (lv_at hl 0 rfl) ?_
  refine lv_iload_n hx hb dX12_fewest_6 rfl (lv_at hl 1 rfl) ?_
  have hPc := hP.sub (ws' := [(m0, .inr (12, [.ref g0, .ref g1, .ref g2, .ref g3, .ref g4, .int 0, .int 0, .int 0, .int 0, .ref g9, .int 0, .int 0, .int 0, .int 0, .int (-1), .int 0, .int 0, .ref g17, .ref g18, .int 0, .ref g20, .ref g21, .ref g22, .ref g23, .ref g24, .ref g25, .ref g26, .ref g27, .ref g28, .ref g29, .ref g30, .int 0]))]) [0] rfl
  have hDc := hD.sub (ws' := [(m0, .inr (12, [.ref g0, .ref g1, .ref g2, .ref g3, .ref g4, .int 0, .int 0, .int 0, .int 0, .ref g9, .int 0, .int 0, .int 0, .int 0, .int (-1), .int 0, .int 0, .ref g17, .ref g18, .int 0, .ref g20, .ref g21, .ref g22, .ref g23, .ref g24, .ref g25, .ref g26, .ref g27, .ref g28, .ref g29, .ref g30, .int 0]))]) [0] (by decide) rfl
  have hKc := hK.sub (tys' := []) [] rfl
  refine vp_callSi (va_Run.run (va_runV (As := [.int k0]) (rest := []) ⟨hx, hb, hml, hown, hT⟩ (m_isKind l dC dI m0 g0 g1 g2 g3 g4 g9 g17 g18 g20 g21 g22 g23 g24 g25 g26 g27 g28 g29 g30 H.size k0) (cwV 1 hT (gV w1288 w1290 ws74 w14 w1291) rfl rfl rfl (by decide +kernel) ⟨(Nat.le_of_ble_eq_true rfl), (Nat.le_of_ble_eq_true rfl)⟩) ⟨pcW.blind, va_recv hKc hPc (ci := 12) (q0 := 0) rfl rfl, pcW.pre hPc hKc hDc⟩ rfl rfl hl.1 rfl (lv_room (Nat.le_of_ble_eq_true rfl)) dX12_fewest_7 ⟨(Nat.le_of_ble_eq_true rfl), (Nat.le_of_ble_eq_true rfl)⟩)) (fun r_7 hr_7 => ?_)
  obtain rfl : r_7 = 0 := hr_7
  refine lv_if_eq (tgt := 23) hx hb dX12_fewest_10 (by decide) (fun _ => ?_) (fun h => absurd (by decide) h)
  refine lv_bipush (v := (-2)) hx hb dX12_fewest_23 (by decide) ?_
  refine W.widen (k := 0) (n := 0) (Nat.le_of_ble_eq_true rfl) (Nat.le_of_ble_eq_true rfl) ?_
  exact W.iret (v := (-2)) hx hb hr (fun t ht hW => ⟨⟨(-2), (), rfl, rfl, trivial⟩, hS.F ht⟩) hS.2.2 dX12_fewest_25

set_option maxHeartbeats 4000000 in
set_option maxRecDepth 100000 in
theorem m_even (l : Launch) (dC : Nat → ClassId) (dI : Nat → Nat → Nat) (m0 : Nat) (g0 : Nat) (g1 : Nat) (g2 : Nat) (g3 : Nat) (g4 : Nat) (g9 : Nat) (g17 : Nat) (g18 : Nat) (g20 : Nat) (g21 : Nat) (g22 : Nat) (g23 : Nat) (g24 : Nat) (g25 : Nat) (g26 : Nat) (g27 : Nat) (g28 : Nat) (g29 : Nat) (g30 : Nat) (sz : Nat) (k0 : Int32) (k1 : Int32) : Met l yX12_even (wT yX12_even cX12_even 3 (some .int)) ({ frames := 2, cells := 0, slots := 0, locals := 46 }) (pcW dC dI [.ref m0, .int k0, .int k1] sz [(m0, .inr (12, [.ref g0, .ref g1, .ref g2, .ref g3, .ref g4, .int 0, .int 0, .int 0, .int 0, .ref g9, .int 0, .int 0, .int 0, .int 0, .int (-1), .int 0, .int 0, .ref g17, .ref g18, .int 0, .ref g20, .ref g21, .ref g22, .ref g23, .ref g24, .ref g25, .ref g26, .ref g27, .ref g28, .ref g29, .ref g30, .int 0]))] []) (va_Qi (fun (r : Int32) (_ : Unit) => r = (-2)) (fun _ _ => True) (va_A [(m0, .inr (12, [.ref g0, .ref g1, .ref g2, .ref g3, .ref g4, .int 0, .int 0, .int 0, .int 0, .ref g9, .int 0, .int 0, .int 0, .int 0, .int (-1), .int 0, .int 0, .ref g17, .ref g18, .int 0, .ref g20, .ref g21, .ref g22, .ref g23, .ref g24, .ref g25, .ref g26, .ref g27, .ref g28, .ref g29, .ref g30, .int 0]))] sz)) 0 0 (va_A [(m0, .inr (12, [.ref g0, .ref g1, .ref g2, .ref g3, .ref g4, .int 0, .int 0, .int 0, .int 0, .ref g9, .int 0, .int 0, .int 0, .int 0, .int (-1), .int 0, .int 0, .ref g17, .ref g18, .int 0, .ref g20, .ref g21, .ref g22, .ref g23, .ref g24, .ref g25, .ref g26, .ref g27, .ref g28, .ref g29, .ref g30, .int 0]))] sz) := by
  refine Met.ofW (cc := cX12_even) (maxL := 3) (ret := (some .int)) (by decide) rfl ?_
  intro p e s m args below meth c s₁ B hml hv
  obtain ⟨rfl, hsz, hP, hK, hD0⟩ := hv
  have hx := B.exec
  have hb := B.bytes
  have hr := B.returns
  have hT : ∀ w ∈ TB, w.before [.ref m0, .int k0, .int k1].toArray s = true := fun w h => atoms_spec (ws := wT yX12_even cX12_even 3 (some .int)) B.pre w (List.mem_cons_of_mem _ h)
  have hown : s.vm.findClass RX12 = some m.cls := findClass_of_methodNamed B.named
  have hlocks := B.notSynchronized
  subst hsz
  have hD := hD0.self (sz := s.heap.size)
  generalize hAe : va_A [(m0, .inr (12, [.ref g0, .ref g1, .ref g2, .ref g3, .ref g4, .int 0, .int 0, .int 0, .int 0, .ref g9, .int 0, .int 0, .int 0, .int 0, .int (-1), .int 0, .int 0, .ref g17, .ref g18, .int 0, .ref g20, .ref g21, .ref g22, .ref g23, .ref g24, .ref g25, .ref g26, .ref g27, .ref g28, .ref g29, .ref g30, .int 0]))] s.heap.size = A at hD ⊢
  have hA : ∀ q : Nat, s.heap.size ≤ q → A q := fun q h => by rw [← hAe]; exact Or.inr h
  have hS : va_S A s.heap s.heap [] := va_S.rf
  have hP : va_P (dC, dI) vwCl [(m0, .inr (12, [.ref g0, .ref g1, .ref g2, .ref g3, .ref g4, .int 0, .int 0, .int 0, .int 0, .ref g9, .int 0, .int 0, .int 0, .int 0, .int (-1), .int 0, .int 0, .ref g17, .ref g18, .int 0, .ref g20, .ref g21, .ref g22, .ref g23, .ref g24, .ref g25, .ref g26, .ref g27, .ref g28, .ref g29, .ref g30, .int 0]))] s.heap := hP
  have hl := lv_entry ([.ref m0, .int k0, .int k1]) (n := 3) (Nat.le_of_ble_eq_true rfl)
  rw [lg_entry_eq]
  generalize (lg_sl ([.ref m0, .int k0, .int k1]) ++ List.replicate (3 - (lg_sl ([.ref m0, .int k0, .int k1])).length) Slot.unset).toArray = ls at hl ⊢
  have hl : lv_has ls 3 [(0, .ref m0), (1, .int k0), (2, .int k1)] := hl
  refine lv_aload_n hx hb dX12_even_0 rfl (lv_at hl 0 rfl) ?_
  refine lv_iconst (v := 0) hx hb dX12_even_1 (by decide) ?_
  refine va_put (D := (dC, dI)) (ci := 12) (v := .int 0) (ty := .int) (C := RX12) (T := TX12) (N := 32) hx hb hT iX12 tyX12 tyX12_ok nmX12 hown hK hP hD hS 0 rfl rfl 8 (by decide) (hT _ w1090) (fun _ h9 => h9) rfl (by decide +kernel) rfl rfl (Nat.le_of_ble_eq_true rfl) dX12_even_2 (fun H locs hP hD hS => ?_)
  have hP : va_P (dC, dI) vwCl [(m0, .inr (12, [.ref g0, .ref g1, .ref g2, .ref g3, .ref g4, .int 0, .int 0, .int 0, .int 0, .ref g9, .int 0, .int 0, .int 0, .int 0, .int (-1), .int 0, .int 0, .ref g17, .ref g18, .int 0, .ref g20, .ref g21, .ref g22, .ref g23, .ref g24, .ref g25, .ref g26, .ref g27, .ref g28, .ref g29, .ref g30, .int 0]))] H := hP
  have hD : va_D A [(m0, .inr (12, [.ref g0, .ref g1, .ref g2, .ref g3, .ref g4, .int 0, .int 0, .int 0, .int 0, .ref g9, .int 0, .int 0, .int 0, .int 0, .int (-1), .int 0, .int 0, .ref g17, .ref g18, .int 0, .ref g20, .ref g21, .ref g22, .ref g23, .ref g24, .ref g25, .ref g26, .ref g27, .ref g28, .ref g29, .ref g30, .int 0]))] := hD
  refine lv_aload_n hx hb dX12_even_5 rfl (lv_at hl 0 rfl) ?_
  refine lv_iload_n hx hb dX12_even_6 rfl (lv_at hl 2 rfl) ?_
  have hPc := hP.sub (ws' := [(m0, .inr (12, [.ref g0, .ref g1, .ref g2, .ref g3, .ref g4, .int 0, .int 0, .int 0, .int 0, .ref g9, .int 0, .int 0, .int 0, .int 0, .int (-1), .int 0, .int 0, .ref g17, .ref g18, .int 0, .ref g20, .ref g21, .ref g22, .ref g23, .ref g24, .ref g25, .ref g26, .ref g27, .ref g28, .ref g29, .ref g30, .int 0]))]) [0] rfl
  have hDc := hD.sub (ws' := [(m0, .inr (12, [.ref g0, .ref g1, .ref g2, .ref g3, .ref g4, .int 0, .int 0, .int 0, .int 0, .ref g9, .int 0, .int 0, .int 0, .int 0, .int (-1), .int 0, .int 0, .ref g17, .ref g18, .int 0, .ref g20, .ref g21, .ref g22, .ref g23, .ref g24, .ref g25, .ref g26, .ref g27, .ref g28, .ref g29, .ref g30, .int 0]))]) [0] (by decide) rfl
  have hKc := hK.sub (tys' := []) [] rfl
  refine vp_callSi (va_Run.run (va_runV (As := [.int k1]) (rest := []) ⟨hx, hb, hml, hown, hT⟩ (m_isKind l dC dI m0 g0 g1 g2 g3 g4 g9 g17 g18 g20 g21 g22 g23 g24 g25 g26 g27 g28 g29 g30 H.size k1) (cwV 1 hT (gV w1288 w1290 ws74 w14 w1291) rfl rfl rfl (by decide +kernel) ⟨(Nat.le_of_ble_eq_true rfl), (Nat.le_of_ble_eq_true rfl)⟩) ⟨pcW.blind, va_recv hKc hPc (ci := 12) (q0 := 0) rfl rfl, pcW.pre hPc hKc hDc⟩ rfl rfl hl.1 rfl (lv_room (Nat.le_of_ble_eq_true rfl)) dX12_even_7 ⟨(Nat.le_of_ble_eq_true rfl), (Nat.le_of_ble_eq_true rfl)⟩)) (fun r_7 hr_7 => ?_)
  obtain rfl : r_7 = 0 := hr_7
  refine lv_if_eq (tgt := 31) hx hb dX12_even_10 (by decide) (fun _ => ?_) (fun h => absurd (by decide) h)
  refine lv_bipush (v := (-2)) hx hb dX12_even_31 (by decide) ?_
  refine W.widen (k := 0) (n := 0) (Nat.le_of_ble_eq_true rfl) (Nat.le_of_ble_eq_true rfl) ?_
  exact W.iret (v := (-2)) hx hb hr (fun t ht hW => ⟨⟨(-2), (), rfl, rfl, trivial⟩, hS.F ht⟩) hS.2.2 dX12_even_33

set_option maxHeartbeats 4000000 in
set_option maxRecDepth 100000 in
theorem m_drop (l : Launch) (dC : Nat → ClassId) (dI : Nat → Nat → Nat) (m0 : Nat) (g0 : Nat) (g1 : Nat) (g2 : Nat) (g3 : Nat) (g4 : Nat) (g9 : Nat) (g17 : Nat) (g18 : Nat) (g20 : Nat) (g21 : Nat) (g22 : Nat) (g23 : Nat) (g24 : Nat) (g25 : Nat) (g26 : Nat) (g27 : Nat) (g28 : Nat) (g29 : Nat) (g30 : Nat) (cS : ClassId) (f : Nat → Int32) (sz : Nat) (k0 : Int32) (hf0 : f 0 = 0) : Met l yX12_drop (wT yX12_drop cX12_drop 2 (some .int)) ({ frames := 2, cells := 0, slots := 0, locals := 46 }) (pcW dC dI [.ref m0, .int k0] sz [(m0, .inr (12, [.ref g0, .ref g1, .ref g2, .ref g3, .ref g4, .int 0, .int 0, .int 0, .int 0, .ref g9, .int 0, .int 0, .int 0, .int 0, .int (-1), .int 0, .int 0, .ref g17, .ref g18, .int 0, .ref g20, .ref g21, .ref g22, .ref g23, .ref g24, .ref g25, .ref g26, .ref g27, .ref g28, .ref g29, .ref g30, .int 0])), (g0, .inl (cS, 266, .inl f))] [(cS, .int)]) (va_Qi (fun (r : Int32) (_ : Unit) => r = (-2)) (fun _ _ => True) (va_A [(m0, .inr (12, [.ref g0, .ref g1, .ref g2, .ref g3, .ref g4, .int 0, .int 0, .int 0, .int 0, .ref g9, .int 0, .int 0, .int 0, .int 0, .int (-1), .int 0, .int 0, .ref g17, .ref g18, .int 0, .ref g20, .ref g21, .ref g22, .ref g23, .ref g24, .ref g25, .ref g26, .ref g27, .ref g28, .ref g29, .ref g30, .int 0])), (g0, .inl (cS, 266, .inl f))] sz)) 0 0 (va_A [(m0, .inr (12, [.ref g0, .ref g1, .ref g2, .ref g3, .ref g4, .int 0, .int 0, .int 0, .int 0, .ref g9, .int 0, .int 0, .int 0, .int 0, .int (-1), .int 0, .int 0, .ref g17, .ref g18, .int 0, .ref g20, .ref g21, .ref g22, .ref g23, .ref g24, .ref g25, .ref g26, .ref g27, .ref g28, .ref g29, .ref g30, .int 0])), (g0, .inl (cS, 266, .inl f))] sz) := by
  refine Met.ofW (cc := cX12_drop) (maxL := 2) (ret := (some .int)) (by decide) rfl ?_
  intro p e s m args below meth c s₁ B hml hv
  obtain ⟨rfl, hsz, hP, hK, hD0⟩ := hv
  have hx := B.exec
  have hb := B.bytes
  have hr := B.returns
  have hT : ∀ w ∈ TB, w.before [.ref m0, .int k0].toArray s = true := fun w h => atoms_spec (ws := wT yX12_drop cX12_drop 2 (some .int)) B.pre w (List.mem_cons_of_mem _ h)
  have hown : s.vm.findClass RX12 = some m.cls := findClass_of_methodNamed B.named
  have hlocks := B.notSynchronized
  subst hsz
  have hD := hD0.self (sz := s.heap.size)
  generalize hAe : va_A [(m0, .inr (12, [.ref g0, .ref g1, .ref g2, .ref g3, .ref g4, .int 0, .int 0, .int 0, .int 0, .ref g9, .int 0, .int 0, .int 0, .int 0, .int (-1), .int 0, .int 0, .ref g17, .ref g18, .int 0, .ref g20, .ref g21, .ref g22, .ref g23, .ref g24, .ref g25, .ref g26, .ref g27, .ref g28, .ref g29, .ref g30, .int 0])), (g0, .inl (cS, 266, .inl f))] s.heap.size = A at hD ⊢
  have hA : ∀ q : Nat, s.heap.size ≤ q → A q := fun q h => by rw [← hAe]; exact Or.inr h
  have hS : va_S A s.heap s.heap [] := va_S.rf
  have hP : va_P (dC, dI) vwCl [(m0, .inr (12, [.ref g0, .ref g1, .ref g2, .ref g3, .ref g4, .int 0, .int 0, .int 0, .int 0, .ref g9, .int 0, .int 0, .int 0, .int 0, .int (-1), .int 0, .int 0, .ref g17, .ref g18, .int 0, .ref g20, .ref g21, .ref g22, .ref g23, .ref g24, .ref g25, .ref g26, .ref g27, .ref g28, .ref g29, .ref g30, .int 0])), (g0, .inl (cS, 266, .inl f))] s.heap := hP
  have hl := lv_entry ([.ref m0, .int k0]) (n := 2) (Nat.le_of_ble_eq_true rfl)
  rw [lg_entry_eq]
  generalize (lg_sl ([.ref m0, .int k0]) ++ List.replicate (2 - (lg_sl ([.ref m0, .int k0])).length) Slot.unset).toArray = ls at hl ⊢
  have hl : lv_has ls 2 [(0, .ref m0), (1, .int k0)] := hl
  refine lv_aload_n hx hb dX12_drop_0 rfl (lv_at hl 0 rfl) ?_
  refine lv_iconst (v := 0) hx hb dX12_drop_1 (by decide) ?_
  refine va_put (D := (dC, dI)) (ci := 12) (v := .int 0) (ty := .int) (C := RX12) (T := TX12) (N := 32) hx hb hT iX12 tyX12 tyX12_ok nmX12 hown hK hP hD hS 0 rfl rfl 8 (by decide) (hT _ w1090) (fun _ h9 => h9) rfl (by decide +kernel) rfl rfl (Nat.le_of_ble_eq_true rfl) dX12_drop_2 (fun H locs hP hD hS => ?_)
  have hP : va_P (dC, dI) vwCl [(m0, .inr (12, [.ref g0, .ref g1, .ref g2, .ref g3, .ref g4, .int 0, .int 0, .int 0, .int 0, .ref g9, .int 0, .int 0, .int 0, .int 0, .int (-1), .int 0, .int 0, .ref g17, .ref g18, .int 0, .ref g20, .ref g21, .ref g22, .ref g23, .ref g24, .ref g25, .ref g26, .ref g27, .ref g28, .ref g29, .ref g30, .int 0])), (g0, .inl (cS, 266, .inl f))] H := hP
  have hD : va_D A [(m0, .inr (12, [.ref g0, .ref g1, .ref g2, .ref g3, .ref g4, .int 0, .int 0, .int 0, .int 0, .ref g9, .int 0, .int 0, .int 0, .int 0, .int (-1), .int 0, .int 0, .ref g17, .ref g18, .int 0, .ref g20, .ref g21, .ref g22, .ref g23, .ref g24, .ref g25, .ref g26, .ref g27, .ref g28, .ref g29, .ref g30, .int 0])), (g0, .inl (cS, 266, .inl f))] := hD
  refine lv_aload_n hx hb dX12_drop_5 rfl (lv_at hl 0 rfl) ?_
  refine lv_iload_n hx hb dX12_drop_6 rfl (lv_at hl 1 rfl) ?_
  have hPc := hP.sub (ws' := [(m0, .inr (12, [.ref g0, .ref g1, .ref g2, .ref g3, .ref g4, .int 0, .int 0, .int 0, .int 0, .ref g9, .int 0, .int 0, .int 0, .int 0, .int (-1), .int 0, .int 0, .ref g17, .ref g18, .int 0, .ref g20, .ref g21, .ref g22, .ref g23, .ref g24, .ref g25, .ref g26, .ref g27, .ref g28, .ref g29, .ref g30, .int 0])), (g0, .inl (cS, 266, .inl f))]) [0, 1] rfl
  have hDc := hD.sub (ws' := [(m0, .inr (12, [.ref g0, .ref g1, .ref g2, .ref g3, .ref g4, .int 0, .int 0, .int 0, .int 0, .ref g9, .int 0, .int 0, .int 0, .int 0, .int (-1), .int 0, .int 0, .ref g17, .ref g18, .int 0, .ref g20, .ref g21, .ref g22, .ref g23, .ref g24, .ref g25, .ref g26, .ref g27, .ref g28, .ref g29, .ref g30, .int 0])), (g0, .inl (cS, 266, .inl f))]) [0, 1] (by decide) rfl
  have hKc := hK.sub (tys' := [(cS, .int)]) [0] rfl
  refine vp_callSi (va_Run.run (va_runV (As := [.int k0]) (rest := []) ⟨hx, hb, hml, hown, hT⟩ (m_isTrade l dC dI m0 g0 g1 g2 g3 g4 g9 g17 g18 g20 g21 g22 g23 g24 g25 g26 g27 g28 g29 g30 cS f H.size k0 hf0) (cwV 1 hT (gV w1301 w1303 ws76 w14 w1304) rfl rfl rfl (by decide +kernel) ⟨(Nat.le_of_ble_eq_true rfl), (Nat.le_of_ble_eq_true rfl)⟩) ⟨pcW.blind, va_recv hKc hPc (ci := 12) (q0 := 0) rfl rfl, pcW.pre hPc hKc hDc⟩ rfl rfl hl.1 rfl (lv_room (Nat.le_of_ble_eq_true rfl)) dX12_drop_7 ⟨(Nat.le_of_ble_eq_true rfl), (Nat.le_of_ble_eq_true rfl)⟩)) (fun r_7 hr_7 => ?_)
  obtain rfl : r_7 = 0 := hr_7
  refine lv_if_ne (tgt := 16) hx hb dX12_drop_10 (by decide) (fun h => absurd (by decide) h) (fun _ => ?_)
  refine lv_bipush (v := (-2)) hx hb dX12_drop_13 (by decide) ?_
  refine W.widen (k := 0) (n := 0) (Nat.le_of_ble_eq_true rfl) (Nat.le_of_ble_eq_true rfl) ?_
  exact W.iret (v := (-2)) hx hb hr (fun t ht hW => ⟨⟨(-2), (), rfl, rfl, trivial⟩, hS.F ht⟩) hS.2.2 dX12_drop_15

set_option maxHeartbeats 4000000 in
set_option maxRecDepth 100000 in
theorem m_keep (l : Launch) (dC : Nat → ClassId) (dI : Nat → Nat → Nat) (m0 : Nat) (g0 : Nat) (g1 : Nat) (g2 : Nat) (g3 : Nat) (g4 : Nat) (g9 : Nat) (g17 : Nat) (g18 : Nat) (g20 : Nat) (g21 : Nat) (g22 : Nat) (g23 : Nat) (g24 : Nat) (g25 : Nat) (g26 : Nat) (g27 : Nat) (g28 : Nat) (g29 : Nat) (g30 : Nat) (cS : ClassId) (f : Nat → Int32) (sz : Nat) (k0 : Int32) (hf0 : f 0 = 0) : Met l yX12_keep (wT yX12_keep cX12_keep 2 (some .int)) ({ frames := 2, cells := 0, slots := 0, locals := 46 }) (pcW dC dI [.ref m0, .int k0] sz [(m0, .inr (12, [.ref g0, .ref g1, .ref g2, .ref g3, .ref g4, .int 0, .int 0, .int 0, .int 0, .ref g9, .int 0, .int 0, .int 0, .int 0, .int (-1), .int 0, .int 0, .ref g17, .ref g18, .int 0, .ref g20, .ref g21, .ref g22, .ref g23, .ref g24, .ref g25, .ref g26, .ref g27, .ref g28, .ref g29, .ref g30, .int 0])), (g0, .inl (cS, 266, .inl f))] [(cS, .int)]) (va_Qi (fun (r : Int32) (_ : Unit) => r = (-2)) (fun _ _ => True) (va_A [(m0, .inr (12, [.ref g0, .ref g1, .ref g2, .ref g3, .ref g4, .int 0, .int 0, .int 0, .int 0, .ref g9, .int 0, .int 0, .int 0, .int 0, .int (-1), .int 0, .int 0, .ref g17, .ref g18, .int 0, .ref g20, .ref g21, .ref g22, .ref g23, .ref g24, .ref g25, .ref g26, .ref g27, .ref g28, .ref g29, .ref g30, .int 0])), (g0, .inl (cS, 266, .inl f))] sz)) 0 0 (va_A [(m0, .inr (12, [.ref g0, .ref g1, .ref g2, .ref g3, .ref g4, .int 0, .int 0, .int 0, .int 0, .ref g9, .int 0, .int 0, .int 0, .int 0, .int (-1), .int 0, .int 0, .ref g17, .ref g18, .int 0, .ref g20, .ref g21, .ref g22, .ref g23, .ref g24, .ref g25, .ref g26, .ref g27, .ref g28, .ref g29, .ref g30, .int 0])), (g0, .inl (cS, 266, .inl f))] sz) := by
  refine Met.ofW (cc := cX12_keep) (maxL := 2) (ret := (some .int)) (by decide) rfl ?_
  intro p e s m args below meth c s₁ B hml hv
  obtain ⟨rfl, hsz, hP, hK, hD0⟩ := hv
  have hx := B.exec
  have hb := B.bytes
  have hr := B.returns
  have hT : ∀ w ∈ TB, w.before [.ref m0, .int k0].toArray s = true := fun w h => atoms_spec (ws := wT yX12_keep cX12_keep 2 (some .int)) B.pre w (List.mem_cons_of_mem _ h)
  have hown : s.vm.findClass RX12 = some m.cls := findClass_of_methodNamed B.named
  have hlocks := B.notSynchronized
  subst hsz
  have hD := hD0.self (sz := s.heap.size)
  generalize hAe : va_A [(m0, .inr (12, [.ref g0, .ref g1, .ref g2, .ref g3, .ref g4, .int 0, .int 0, .int 0, .int 0, .ref g9, .int 0, .int 0, .int 0, .int 0, .int (-1), .int 0, .int 0, .ref g17, .ref g18, .int 0, .ref g20, .ref g21, .ref g22, .ref g23, .ref g24, .ref g25, .ref g26, .ref g27, .ref g28, .ref g29, .ref g30, .int 0])), (g0, .inl (cS, 266, .inl f))] s.heap.size = A at hD ⊢
  have hA : ∀ q : Nat, s.heap.size ≤ q → A q := fun q h => by rw [← hAe]; exact Or.inr h
  have hS : va_S A s.heap s.heap [] := va_S.rf
  have hP : va_P (dC, dI) vwCl [(m0, .inr (12, [.ref g0, .ref g1, .ref g2, .ref g3, .ref g4, .int 0, .int 0, .int 0, .int 0, .ref g9, .int 0, .int 0, .int 0, .int 0, .int (-1), .int 0, .int 0, .ref g17, .ref g18, .int 0, .ref g20, .ref g21, .ref g22, .ref g23, .ref g24, .ref g25, .ref g26, .ref g27, .ref g28, .ref g29, .ref g30, .int 0])), (g0, .inl (cS, 266, .inl f))] s.heap := hP
  have hl := lv_entry ([.ref m0, .int k0]) (n := 2) (Nat.le_of_ble_eq_true rfl)
  rw [lg_entry_eq]
  generalize (lg_sl ([.ref m0, .int k0]) ++ List.replicate (2 - (lg_sl ([.ref m0, .int k0])).length) Slot.unset).toArray = ls at hl ⊢
  have hl : lv_has ls 2 [(0, .ref m0), (1, .int k0)] := hl
  refine lv_aload_n hx hb dX12_keep_0 rfl (lv_at hl 0 rfl) ?_
  refine lv_iconst (v := 0) hx hb dX12_keep_1 (by decide) ?_
  refine va_put (D := (dC, dI)) (ci := 12) (v := .int 0) (ty := .int) (C := RX12) (T := TX12) (N := 32) hx hb hT iX12 tyX12 tyX12_ok nmX12 hown hK hP hD hS 0 rfl rfl 8 (by decide) (hT _ w1090) (fun _ h9 => h9) rfl (by decide +kernel) rfl rfl (Nat.le_of_ble_eq_true rfl) dX12_keep_2 (fun H locs hP hD hS => ?_)
  have hP : va_P (dC, dI) vwCl [(m0, .inr (12, [.ref g0, .ref g1, .ref g2, .ref g3, .ref g4, .int 0, .int 0, .int 0, .int 0, .ref g9, .int 0, .int 0, .int 0, .int 0, .int (-1), .int 0, .int 0, .ref g17, .ref g18, .int 0, .ref g20, .ref g21, .ref g22, .ref g23, .ref g24, .ref g25, .ref g26, .ref g27, .ref g28, .ref g29, .ref g30, .int 0])), (g0, .inl (cS, 266, .inl f))] H := hP
  have hD : va_D A [(m0, .inr (12, [.ref g0, .ref g1, .ref g2, .ref g3, .ref g4, .int 0, .int 0, .int 0, .int 0, .ref g9, .int 0, .int 0, .int 0, .int 0, .int (-1), .int 0, .int 0, .ref g17, .ref g18, .int 0, .ref g20, .ref g21, .ref g22, .ref g23, .ref g24, .ref g25, .ref g26, .ref g27, .ref g28, .ref g29, .ref g30, .int 0])), (g0, .inl (cS, 266, .inl f))] := hD
  refine lv_aload_n hx hb dX12_keep_5 rfl (lv_at hl 0 rfl) ?_
  refine lv_iload_n hx hb dX12_keep_6 rfl (lv_at hl 1 rfl) ?_
  have hPc := hP.sub (ws' := [(m0, .inr (12, [.ref g0, .ref g1, .ref g2, .ref g3, .ref g4, .int 0, .int 0, .int 0, .int 0, .ref g9, .int 0, .int 0, .int 0, .int 0, .int (-1), .int 0, .int 0, .ref g17, .ref g18, .int 0, .ref g20, .ref g21, .ref g22, .ref g23, .ref g24, .ref g25, .ref g26, .ref g27, .ref g28, .ref g29, .ref g30, .int 0])), (g0, .inl (cS, 266, .inl f))]) [0, 1] rfl
  have hDc := hD.sub (ws' := [(m0, .inr (12, [.ref g0, .ref g1, .ref g2, .ref g3, .ref g4, .int 0, .int 0, .int 0, .int 0, .ref g9, .int 0, .int 0, .int 0, .int 0, .int (-1), .int 0, .int 0, .ref g17, .ref g18, .int 0, .ref g20, .ref g21, .ref g22, .ref g23, .ref g24, .ref g25, .ref g26, .ref g27, .ref g28, .ref g29, .ref g30, .int 0])), (g0, .inl (cS, 266, .inl f))]) [0, 1] (by decide) rfl
  have hKc := hK.sub (tys' := [(cS, .int)]) [0] rfl
  refine vp_callSi (va_Run.run (va_runV (As := [.int k0]) (rest := []) ⟨hx, hb, hml, hown, hT⟩ (m_isTrade l dC dI m0 g0 g1 g2 g3 g4 g9 g17 g18 g20 g21 g22 g23 g24 g25 g26 g27 g28 g29 g30 cS f H.size k0 hf0) (cwV 1 hT (gV w1301 w1303 ws76 w14 w1304) rfl rfl rfl (by decide +kernel) ⟨(Nat.le_of_ble_eq_true rfl), (Nat.le_of_ble_eq_true rfl)⟩) ⟨pcW.blind, va_recv hKc hPc (ci := 12) (q0 := 0) rfl rfl, pcW.pre hPc hKc hDc⟩ rfl rfl hl.1 rfl (lv_room (Nat.le_of_ble_eq_true rfl)) dX12_keep_7 ⟨(Nat.le_of_ble_eq_true rfl), (Nat.le_of_ble_eq_true rfl)⟩)) (fun r_7 hr_7 => ?_)
  obtain rfl : r_7 = 0 := hr_7
  refine lv_if_ne (tgt := 16) hx hb dX12_keep_10 (by decide) (fun h => absurd (by decide) h) (fun _ => ?_)
  refine lv_bipush (v := (-2)) hx hb dX12_keep_13 (by decide) ?_
  refine W.widen (k := 0) (n := 0) (Nat.le_of_ble_eq_true rfl) (Nat.le_of_ble_eq_true rfl) ?_
  exact W.iret (v := (-2)) hx hb hr (fun t ht hW => ⟨⟨(-2), (), rfl, rfl, trivial⟩, hS.F ht⟩) hS.2.2 dX12_keep_15

set_option maxHeartbeats 4000000 in
set_option maxRecDepth 100000 in
theorem m_tradeOf (l : Launch) (dC : Nat → ClassId) (dI : Nat → Nat → Nat) (m0 : Nat) (g0 : Nat) (g1 : Nat) (g2 : Nat) (g3 : Nat) (g4 : Nat) (g9 : Nat) (g17 : Nat) (g18 : Nat) (g20 : Nat) (g21 : Nat) (g22 : Nat) (g23 : Nat) (g24 : Nat) (g25 : Nat) (g26 : Nat) (g27 : Nat) (g28 : Nat) (g29 : Nat) (g30 : Nat) (cS : ClassId) (f : Nat → Int32) (sz : Nat) (k0 : Int32) (k1 : Int32) (hf0 : f 0 = 0) : Met l yX12_tradeOf (wT yX12_tradeOf cX12_tradeOf 3 (some .int)) ({ frames := 2, cells := 0, slots := 0, locals := 46 }) (pcW dC dI [.ref m0, .int k0, .int k1] sz [(m0, .inr (12, [.ref g0, .ref g1, .ref g2, .ref g3, .ref g4, .int 0, .int 0, .int 0, .int 0, .ref g9, .int 0, .int 0, .int 0, .int 0, .int (-1), .int 0, .int 0, .ref g17, .ref g18, .int 0, .ref g20, .ref g21, .ref g22, .ref g23, .ref g24, .ref g25, .ref g26, .ref g27, .ref g28, .ref g29, .ref g30, .int 0])), (g0, .inl (cS, 266, .inl f))] [(cS, .int)]) (va_Qi (fun (r : Int32) (_ : Unit) => r = (-2)) (fun _ _ => True) (va_A [(m0, .inr (12, [.ref g0, .ref g1, .ref g2, .ref g3, .ref g4, .int 0, .int 0, .int 0, .int 0, .ref g9, .int 0, .int 0, .int 0, .int 0, .int (-1), .int 0, .int 0, .ref g17, .ref g18, .int 0, .ref g20, .ref g21, .ref g22, .ref g23, .ref g24, .ref g25, .ref g26, .ref g27, .ref g28, .ref g29, .ref g30, .int 0])), (g0, .inl (cS, 266, .inl f))] sz)) 0 0 (va_A [(m0, .inr (12, [.ref g0, .ref g1, .ref g2, .ref g3, .ref g4, .int 0, .int 0, .int 0, .int 0, .ref g9, .int 0, .int 0, .int 0, .int 0, .int (-1), .int 0, .int 0, .ref g17, .ref g18, .int 0, .ref g20, .ref g21, .ref g22, .ref g23, .ref g24, .ref g25, .ref g26, .ref g27, .ref g28, .ref g29, .ref g30, .int 0])), (g0, .inl (cS, 266, .inl f))] sz) := by
  refine Met.ofW (cc := cX12_tradeOf) (maxL := 3) (ret := (some .int)) (by decide) rfl ?_
  intro p e s m args below meth c s₁ B hml hv
  obtain ⟨rfl, hsz, hP, hK, hD0⟩ := hv
  have hx := B.exec
  have hb := B.bytes
  have hr := B.returns
  have hT : ∀ w ∈ TB, w.before [.ref m0, .int k0, .int k1].toArray s = true := fun w h => atoms_spec (ws := wT yX12_tradeOf cX12_tradeOf 3 (some .int)) B.pre w (List.mem_cons_of_mem _ h)
  have hown : s.vm.findClass RX12 = some m.cls := findClass_of_methodNamed B.named
  have hlocks := B.notSynchronized
  subst hsz
  have hD := hD0.self (sz := s.heap.size)
  generalize hAe : va_A [(m0, .inr (12, [.ref g0, .ref g1, .ref g2, .ref g3, .ref g4, .int 0, .int 0, .int 0, .int 0, .ref g9, .int 0, .int 0, .int 0, .int 0, .int (-1), .int 0, .int 0, .ref g17, .ref g18, .int 0, .ref g20, .ref g21, .ref g22, .ref g23, .ref g24, .ref g25, .ref g26, .ref g27, .ref g28, .ref g29, .ref g30, .int 0])), (g0, .inl (cS, 266, .inl f))] s.heap.size = A at hD ⊢
  have hA : ∀ q : Nat, s.heap.size ≤ q → A q := fun q h => by rw [← hAe]; exact Or.inr h
  have hS : va_S A s.heap s.heap [] := va_S.rf
  have hP : va_P (dC, dI) vwCl [(m0, .inr (12, [.ref g0, .ref g1, .ref g2, .ref g3, .ref g4, .int 0, .int 0, .int 0, .int 0, .ref g9, .int 0, .int 0, .int 0, .int 0, .int (-1), .int 0, .int 0, .ref g17, .ref g18, .int 0, .ref g20, .ref g21, .ref g22, .ref g23, .ref g24, .ref g25, .ref g26, .ref g27, .ref g28, .ref g29, .ref g30, .int 0])), (g0, .inl (cS, 266, .inl f))] s.heap := hP
  have hl := lv_entry ([.ref m0, .int k0, .int k1]) (n := 3) (Nat.le_of_ble_eq_true rfl)
  rw [lg_entry_eq]
  generalize (lg_sl ([.ref m0, .int k0, .int k1]) ++ List.replicate (3 - (lg_sl ([.ref m0, .int k0, .int k1])).length) Slot.unset).toArray = ls at hl ⊢
  have hl : lv_has ls 3 [(0, .ref m0), (1, .int k0), (2, .int k1)] := hl
  refine lv_aload_n hx hb dX12_tradeOf_0 rfl (lv_at hl 0 rfl) ?_
  refine lv_iconst (v := 0) hx hb dX12_tradeOf_1 (by decide) ?_
  refine va_put (D := (dC, dI)) (ci := 12) (v := .int 0) (ty := .int) (C := RX12) (T := TX12) (N := 32) hx hb hT iX12 tyX12 tyX12_ok nmX12 hown hK hP hD hS 0 rfl rfl 8 (by decide) (hT _ w1090) (fun _ h9 => h9) rfl (by decide +kernel) rfl rfl (Nat.le_of_ble_eq_true rfl) dX12_tradeOf_2 (fun H locs hP hD hS => ?_)
  have hP : va_P (dC, dI) vwCl [(m0, .inr (12, [.ref g0, .ref g1, .ref g2, .ref g3, .ref g4, .int 0, .int 0, .int 0, .int 0, .ref g9, .int 0, .int 0, .int 0, .int 0, .int (-1), .int 0, .int 0, .ref g17, .ref g18, .int 0, .ref g20, .ref g21, .ref g22, .ref g23, .ref g24, .ref g25, .ref g26, .ref g27, .ref g28, .ref g29, .ref g30, .int 0])), (g0, .inl (cS, 266, .inl f))] H := hP
  have hD : va_D A [(m0, .inr (12, [.ref g0, .ref g1, .ref g2, .ref g3, .ref g4, .int 0, .int 0, .int 0, .int 0, .ref g9, .int 0, .int 0, .int 0, .int 0, .int (-1), .int 0, .int 0, .ref g17, .ref g18, .int 0, .ref g20, .ref g21, .ref g22, .ref g23, .ref g24, .ref g25, .ref g26, .ref g27, .ref g28, .ref g29, .ref g30, .int 0])), (g0, .inl (cS, 266, .inl f))] := hD
  refine lv_aload_n hx hb dX12_tradeOf_5 rfl (lv_at hl 0 rfl) ?_
  refine lv_iload_n hx hb dX12_tradeOf_6 rfl (lv_at hl 1 rfl) ?_
  have hPc := hP.sub (ws' := [(m0, .inr (12, [.ref g0, .ref g1, .ref g2, .ref g3, .ref g4, .int 0, .int 0, .int 0, .int 0, .ref g9, .int 0, .int 0, .int 0, .int 0, .int (-1), .int 0, .int 0, .ref g17, .ref g18, .int 0, .ref g20, .ref g21, .ref g22, .ref g23, .ref g24, .ref g25, .ref g26, .ref g27, .ref g28, .ref g29, .ref g30, .int 0])), (g0, .inl (cS, 266, .inl f))]) [0, 1] rfl
  have hDc := hD.sub (ws' := [(m0, .inr (12, [.ref g0, .ref g1, .ref g2, .ref g3, .ref g4, .int 0, .int 0, .int 0, .int 0, .ref g9, .int 0, .int 0, .int 0, .int 0, .int (-1), .int 0, .int 0, .ref g17, .ref g18, .int 0, .ref g20, .ref g21, .ref g22, .ref g23, .ref g24, .ref g25, .ref g26, .ref g27, .ref g28, .ref g29, .ref g30, .int 0])), (g0, .inl (cS, 266, .inl f))]) [0, 1] (by decide) rfl
  have hKc := hK.sub (tys' := [(cS, .int)]) [0] rfl
  refine vp_callSi (va_Run.run (va_runV (As := [.int k0]) (rest := []) ⟨hx, hb, hml, hown, hT⟩ (m_isTrade l dC dI m0 g0 g1 g2 g3 g4 g9 g17 g18 g20 g21 g22 g23 g24 g25 g26 g27 g28 g29 g30 cS f H.size k0 hf0) (cwV 1 hT (gV w1301 w1303 ws76 w14 w1304) rfl rfl rfl (by decide +kernel) ⟨(Nat.le_of_ble_eq_true rfl), (Nat.le_of_ble_eq_true rfl)⟩) ⟨pcW.blind, va_recv hKc hPc (ci := 12) (q0 := 0) rfl rfl, pcW.pre hPc hKc hDc⟩ rfl rfl hl.1 rfl (lv_room (Nat.le_of_ble_eq_true rfl)) dX12_tradeOf_7 ⟨(Nat.le_of_ble_eq_true rfl), (Nat.le_of_ble_eq_true rfl)⟩)) (fun r_7 hr_7 => ?_)
  obtain rfl : r_7 = 0 := hr_7
  refine lv_if_eq (tgt := 34) hx hb dX12_tradeOf_10 (by decide) (fun _ => ?_) (fun h => absurd (by decide) h)
  refine lv_bipush (v := (-2)) hx hb dX12_tradeOf_34 (by decide) ?_
  refine W.widen (k := 0) (n := 0) (Nat.le_of_ble_eq_true rfl) (Nat.le_of_ble_eq_true rfl) ?_
  exact W.iret (v := (-2)) hx hb hr (fun t ht hW => ⟨⟨(-2), (), rfl, rfl, trivial⟩, hS.F ht⟩) hS.2.2 dX12_tradeOf_36

set_option maxHeartbeats 4000000 in
set_option maxRecDepth 100000 in
theorem m_line (l : Launch) (dC : Nat → ClassId) (dI : Nat → Nat → Nat) (m0 : Nat) (g0 : Nat) (g1 : Nat) (g2 : Nat) (g3 : Nat) (g4 : Nat) (g9 : Nat) (g17 : Nat) (g18 : Nat) (g20 : Nat) (g21 : Nat) (g22 : Nat) (g23 : Nat) (g24 : Nat) (g25 : Nat) (g26 : Nat) (g27 : Nat) (g28 : Nat) (g29 : Nat) (g30 : Nat) (cS : ClassId) (f : Nat → Int32) (sz : Nat) (k0 : Int32) (k1 : Int32) (hf0 : f 0 = 0) : Met l yX12_line (wT yX12_line cX12_line 3 (some .int)) ({ frames := 2, cells := 0, slots := 0, locals := 46 }) (pcW dC dI [.ref m0, .int k0, .int k1] sz [(m0, .inr (12, [.ref g0, .ref g1, .ref g2, .ref g3, .ref g4, .int 0, .int 0, .int 0, .int 0, .ref g9, .int 0, .int 0, .int 0, .int 0, .int (-1), .int 0, .int 0, .ref g17, .ref g18, .int 0, .ref g20, .ref g21, .ref g22, .ref g23, .ref g24, .ref g25, .ref g26, .ref g27, .ref g28, .ref g29, .ref g30, .int 0])), (g0, .inl (cS, 266, .inl f))] [(cS, .int)]) (va_Qi (fun (r : Int32) (_ : Unit) => r = (-2)) (fun _ _ => True) (va_A [(m0, .inr (12, [.ref g0, .ref g1, .ref g2, .ref g3, .ref g4, .int 0, .int 0, .int 0, .int 0, .ref g9, .int 0, .int 0, .int 0, .int 0, .int (-1), .int 0, .int 0, .ref g17, .ref g18, .int 0, .ref g20, .ref g21, .ref g22, .ref g23, .ref g24, .ref g25, .ref g26, .ref g27, .ref g28, .ref g29, .ref g30, .int 0])), (g0, .inl (cS, 266, .inl f))] sz)) 0 0 (va_A [(m0, .inr (12, [.ref g0, .ref g1, .ref g2, .ref g3, .ref g4, .int 0, .int 0, .int 0, .int 0, .ref g9, .int 0, .int 0, .int 0, .int 0, .int (-1), .int 0, .int 0, .ref g17, .ref g18, .int 0, .ref g20, .ref g21, .ref g22, .ref g23, .ref g24, .ref g25, .ref g26, .ref g27, .ref g28, .ref g29, .ref g30, .int 0])), (g0, .inl (cS, 266, .inl f))] sz) := by
  refine Met.ofW (cc := cX12_line) (maxL := 3) (ret := (some .int)) (by decide) rfl ?_
  intro p e s m args below meth c s₁ B hml hv
  obtain ⟨rfl, hsz, hP, hK, hD0⟩ := hv
  have hx := B.exec
  have hb := B.bytes
  have hr := B.returns
  have hT : ∀ w ∈ TB, w.before [.ref m0, .int k0, .int k1].toArray s = true := fun w h => atoms_spec (ws := wT yX12_line cX12_line 3 (some .int)) B.pre w (List.mem_cons_of_mem _ h)
  have hown : s.vm.findClass RX12 = some m.cls := findClass_of_methodNamed B.named
  have hlocks := B.notSynchronized
  subst hsz
  have hD := hD0.self (sz := s.heap.size)
  generalize hAe : va_A [(m0, .inr (12, [.ref g0, .ref g1, .ref g2, .ref g3, .ref g4, .int 0, .int 0, .int 0, .int 0, .ref g9, .int 0, .int 0, .int 0, .int 0, .int (-1), .int 0, .int 0, .ref g17, .ref g18, .int 0, .ref g20, .ref g21, .ref g22, .ref g23, .ref g24, .ref g25, .ref g26, .ref g27, .ref g28, .ref g29, .ref g30, .int 0])), (g0, .inl (cS, 266, .inl f))] s.heap.size = A at hD ⊢
  have hA : ∀ q : Nat, s.heap.size ≤ q → A q := fun q h => by rw [← hAe]; exact Or.inr h
  have hS : va_S A s.heap s.heap [] := va_S.rf
  have hP : va_P (dC, dI) vwCl [(m0, .inr (12, [.ref g0, .ref g1, .ref g2, .ref g3, .ref g4, .int 0, .int 0, .int 0, .int 0, .ref g9, .int 0, .int 0, .int 0, .int 0, .int (-1), .int 0, .int 0, .ref g17, .ref g18, .int 0, .ref g20, .ref g21, .ref g22, .ref g23, .ref g24, .ref g25, .ref g26, .ref g27, .ref g28, .ref g29, .ref g30, .int 0])), (g0, .inl (cS, 266, .inl f))] s.heap := hP
  have hl := lv_entry ([.ref m0, .int k0, .int k1]) (n := 3) (Nat.le_of_ble_eq_true rfl)
  rw [lg_entry_eq]
  generalize (lg_sl ([.ref m0, .int k0, .int k1]) ++ List.replicate (3 - (lg_sl ([.ref m0, .int k0, .int k1])).length) Slot.unset).toArray = ls at hl ⊢
  have hl : lv_has ls 3 [(0, .ref m0), (1, .int k0), (2, .int k1)] := hl
  refine lv_aload_n hx hb dX12_line_0 rfl (lv_at hl 0 rfl) ?_
  refine lv_iconst (v := 0) hx hb dX12_line_1 (by decide) ?_
  refine va_put (D := (dC, dI)) (ci := 12) (v := .int 0) (ty := .int) (C := RX12) (T := TX12) (N := 32) hx hb hT iX12 tyX12 tyX12_ok nmX12 hown hK hP hD hS 0 rfl rfl 8 (by decide) (hT _ w1090) (fun _ h9 => h9) rfl (by decide +kernel) rfl rfl (Nat.le_of_ble_eq_true rfl) dX12_line_2 (fun H locs hP hD hS => ?_)
  have hP : va_P (dC, dI) vwCl [(m0, .inr (12, [.ref g0, .ref g1, .ref g2, .ref g3, .ref g4, .int 0, .int 0, .int 0, .int 0, .ref g9, .int 0, .int 0, .int 0, .int 0, .int (-1), .int 0, .int 0, .ref g17, .ref g18, .int 0, .ref g20, .ref g21, .ref g22, .ref g23, .ref g24, .ref g25, .ref g26, .ref g27, .ref g28, .ref g29, .ref g30, .int 0])), (g0, .inl (cS, 266, .inl f))] H := hP
  have hD : va_D A [(m0, .inr (12, [.ref g0, .ref g1, .ref g2, .ref g3, .ref g4, .int 0, .int 0, .int 0, .int 0, .ref g9, .int 0, .int 0, .int 0, .int 0, .int (-1), .int 0, .int 0, .ref g17, .ref g18, .int 0, .ref g20, .ref g21, .ref g22, .ref g23, .ref g24, .ref g25, .ref g26, .ref g27, .ref g28, .ref g29, .ref g30, .int 0])), (g0, .inl (cS, 266, .inl f))] := hD
  refine lv_aload_n hx hb dX12_line_5 rfl (lv_at hl 0 rfl) ?_
  refine lv_iload_n hx hb dX12_line_6 rfl (lv_at hl 1 rfl) ?_
  have hPc := hP.sub (ws' := [(m0, .inr (12, [.ref g0, .ref g1, .ref g2, .ref g3, .ref g4, .int 0, .int 0, .int 0, .int 0, .ref g9, .int 0, .int 0, .int 0, .int 0, .int (-1), .int 0, .int 0, .ref g17, .ref g18, .int 0, .ref g20, .ref g21, .ref g22, .ref g23, .ref g24, .ref g25, .ref g26, .ref g27, .ref g28, .ref g29, .ref g30, .int 0])), (g0, .inl (cS, 266, .inl f))]) [0, 1] rfl
  have hDc := hD.sub (ws' := [(m0, .inr (12, [.ref g0, .ref g1, .ref g2, .ref g3, .ref g4, .int 0, .int 0, .int 0, .int 0, .ref g9, .int 0, .int 0, .int 0, .int 0, .int (-1), .int 0, .int 0, .ref g17, .ref g18, .int 0, .ref g20, .ref g21, .ref g22, .ref g23, .ref g24, .ref g25, .ref g26, .ref g27, .ref g28, .ref g29, .ref g30, .int 0])), (g0, .inl (cS, 266, .inl f))]) [0, 1] (by decide) rfl
  have hKc := hK.sub (tys' := [(cS, .int)]) [0] rfl
  refine vp_callSi (va_Run.run (va_runV (As := [.int k0]) (rest := []) ⟨hx, hb, hml, hown, hT⟩ (m_isTrade l dC dI m0 g0 g1 g2 g3 g4 g9 g17 g18 g20 g21 g22 g23 g24 g25 g26 g27 g28 g29 g30 cS f H.size k0 hf0) (cwV 1 hT (gV w1301 w1303 ws76 w14 w1304) rfl rfl rfl (by decide +kernel) ⟨(Nat.le_of_ble_eq_true rfl), (Nat.le_of_ble_eq_true rfl)⟩) ⟨pcW.blind, va_recv hKc hPc (ci := 12) (q0 := 0) rfl rfl, pcW.pre hPc hKc hDc⟩ rfl rfl hl.1 rfl (lv_room (Nat.le_of_ble_eq_true rfl)) dX12_line_7 ⟨(Nat.le_of_ble_eq_true rfl), (Nat.le_of_ble_eq_true rfl)⟩)) (fun r_7 hr_7 => ?_)
  obtain rfl : r_7 = 0 := hr_7
  refine lv_if_ne (tgt := 16) hx hb dX12_line_10 (by decide) (fun h => absurd (by decide) h) (fun _ => ?_)
  refine lv_bipush (v := (-2)) hx hb dX12_line_13 (by decide) ?_
  refine W.widen (k := 0) (n := 0) (Nat.le_of_ble_eq_true rfl) (Nat.le_of_ble_eq_true rfl) ?_
  exact W.iret (v := (-2)) hx hb hr (fun t ht hW => ⟨⟨(-2), (), rfl, rfl, trivial⟩, hS.F ht⟩) hS.2.2 dX12_line_15
end
section
set_option maxHeartbeats 4000000 in
set_option maxRecDepth 100000 in
theorem j_fill (l : Launch) (dC : Nat → ClassId) (dI : Nat → Nat → Nat) (q : Nat) (cA : ClassId) (f : Nat → Int32) (sz : Nat) (v : Int32) : Met l yJ7_fill_53178 (wT yJ7_fill_53178 cJ7_fill_53178 4 none) ({ frames := 0, cells := 0, slots := 0, locals := 0 }) (pcW dC dI [.ref q, .int v] sz [(q, .inl (cA, 64, .inl f))] [(cA, .int)]) (va_Qv (fun _ : Unit => True) (fun _ t => ∃ f2 : Nat → Int32, pB dC dI (va_A [(q, .inl (cA, 64, .inl f))] sz) [(q, .inl (cA, 64, .inl f2))] [(cA, .int)] t) (va_A [(q, .inl (cA, 64, .inl f))] sz)) 0 0 (va_A [(q, .inl (cA, 64, .inl f))] sz) := by
  refine Met.ofW (cc := cJ7_fill_53178) (maxL := 4) (ret := none) (by decide) rfl ?_
  intro p e s m args below meth c s₁ B hml hv
  obtain ⟨rfl, hsz, hP, hK, hD0⟩ := hv
  have hx := B.exec
  have hb := B.bytes
  have hr := B.returns
  have hT : ∀ w ∈ TB, w.before [.ref q, .int v].toArray s = true := fun w h => atoms_spec (ws := wT yJ7_fill_53178 cJ7_fill_53178 4 none) B.pre w (List.mem_cons_of_mem _ h)
  have hown : s.vm.findClass RJ7 = some m.cls := findClass_of_methodNamed B.named
  have hlocks := B.notSynchronized
  subst hsz
  have hD := hD0.self (sz := s.heap.size)
  generalize hAe : va_A [(q, .inl (cA, 64, .inl f))] s.heap.size = A at hD ⊢
  have hA : ∀ q : Nat, s.heap.size ≤ q → A q := fun q h => by rw [← hAe]; exact Or.inr h
  have hS : va_S A s.heap s.heap [] := va_S.rf
  have hP : va_P (dC, dI) vwCl [(q, .inl (cA, 64, .inl f))] s.heap := hP
  have hl := lv_entry ([.ref q, .int v]) (n := 4) (Nat.le_of_ble_eq_true rfl)
  rw [lg_entry_eq]
  generalize (lg_sl ([.ref q, .int v]) ++ List.replicate (4 - (lg_sl ([.ref q, .int v])).length) Slot.unset).toArray = ls at hl ⊢
  have hl : lv_has ls 4 [(0, .ref q), (1, .int v)] := hl
  refine lv_iconst (v := 0) hx hb dJ7_fill_53178_0 (by decide) ?_
  refine lv_istore_n (lv' := [(2, .int 0), (0, .ref q), (1, .int v)]) hx hb dJ7_fill_53178_1 rfl hl (by decide) rfl (fun ls hl => ?_)
  refine lv_aload_n hx hb dJ7_fill_53178_2 rfl (lv_at hl 1 rfl) ?_
  refine va_alen (v := 64) hx hb hK hP 0 0 rfl rfl rfl dJ7_fill_53178_3 ?_
  refine lv_istore_n (lv' := [(3, .int 64), (2, .int 0), (0, .ref q), (1, .int v)]) hx hb dJ7_fill_53178_4 rfl hl (by decide) rfl (fun ls hl => ?_)
  have loop : ∀ (n i : Nat), i + n = 64 → ∀ (f_q : Nat → Int32) (H : Heap) (locs : List Loc), va_P (dC, dI) vwCl [(q, .inl (cA, 64, .inl f_q))] H → va_D A [(q, .inl (cA, 64, .inl f_q))] → va_S A s.heap H locs → ∀ ls : Array Slot, lv_has ls 4 [(3, .int 64), (2, .int (nI i)), (0, .ref q), (1, .int v)] → W p l e (headSpec (wT yJ7_fill_53178 cJ7_fill_53178 4 none) { frames := 0, cells := 0, slots := 0, locals := 0 }).room s m [.ref q, .int v].toArray below meth c H locs 0 0 (MQ below (va_Qv (fun _ : Unit => True) (fun _ t => ∃ f2 : Nat → Int32, pB dC dI A [(q, .inl (cA, 64, .inl f2))] [(cA, .int)] t) A) [.ref q, .int v].toArray s 0 0 A) (F0 m 5 ls []) := by
    intro n
    induction n with
    | zero =>
      intro i hi f_q H locs hP hD hS ls hl
      obtain rfl : i = 64 := by omega
      refine lv_iload_n hx hb dJ7_fill_53178_5 rfl (lv_at hl 1 rfl) ?_
      refine lv_iload_n hx hb dJ7_fill_53178_6 rfl (lv_at hl 0 rfl) ?_
      refine lv_icmp_ge (tgt := 20) hx hb dJ7_fill_53178_7 (by decide) (fun _ => ?_) (fun h => absurd (by decide) h)
      refine W.widen (k := 0) (n := 0) (Nat.le_of_ble_eq_true rfl) (Nat.le_of_ble_eq_true rfl) ?_
      have hP9 := hP.sub (ws' := [(q, .inl (cA, 64, .inl f_q))]) [0] rfl
      have hD9 := hD.sub (ws' := [(q, .inl (cA, 64, .inl f_q))]) [0] (by decide) rfl
      have hK9 := hK.sub (tys' := [(cA, .int)]) [0] rfl
      exact W.vret hx hb hr (fun t ht hW => ⟨⟨(), rfl, trivial, f_q, by rw [ht]; exact hP9, va_K.moved hW.alike hK9, hD9⟩, hS.F ht⟩) hS.2.2 dJ7_fill_53178_20
    | succ n ih =>
      intro i hi f_q H locs hP hD hS ls hl
      have hlt : i < 64 := by omega
      refine lv_iload_n hx hb dJ7_fill_53178_5 rfl (lv_at hl 1 rfl) ?_
      refine lv_iload_n hx hb dJ7_fill_53178_6 rfl (lv_at hl 0 rfl) ?_
      refine lv_icmp_ge (tgt := 20) hx hb dJ7_fill_53178_7 (by decide) (fun h => absurd h (nI_ge (a := i) (b := 64) hlt (by decide))) (fun _ => ?_)
      refine lv_aload_n hx hb dJ7_fill_53178_10 rfl (lv_at hl 2 rfl) ?_
      refine lv_iload_n hx hb dJ7_fill_53178_11 rfl (lv_at hl 1 rfl) ?_
      refine lv_iload_n hx hb dJ7_fill_53178_12 rfl (lv_at hl 3 rfl) ?_
      refine va_iast hx hb hK hP hD hS 0 0 rfl rfl (vp_in_nI hlt (by decide)) dJ7_fill_53178_13 (fun H locs hP hD hS => ?_)
      obtain ⟨f_1, hf_1⟩ : ∃ f : Nat → Int32, f = upd f_q (nI i).toNatClampNeg v := ⟨_, rfl⟩
      rw [← hf_1] at hP hD
      have hP : va_P (dC, dI) vwCl [(q, .inl (cA, 64, .inl f_1))] H := hP
      have hD : va_D A [(q, .inl (cA, 64, .inl f_1))] := hD
      refine lv_iinc (v := nI (i + 1)) (lv' := [(2, .int (nI (i + 1))), (3, .int 64), (0, .ref q), (1, .int v)]) hx hb dJ7_fill_53178_14 hl (k := 1) rfl (nI_1 _) (by decide) rfl (fun ls hl => ?_)
      refine lv_goto (tgt := 5) hx hb dJ7_fill_53178_17 (by decide) ?_
      exact ih (i + 1) (by omega) f_1 _ _ (hP.sub [0] rfl) (hD.sub [0] (by decide) rfl) hS ls (lv_sub hl [1, 0, 2, 3] rfl)
  exact loop 64 0 (by omega) f _ _ hP hD hS ls hl

set_option maxHeartbeats 4000000 in
set_option maxRecDepth 100000 in
theorem k_Book (l : Launch) (dC : Nat → ClassId) (dI : Nat → Nat → Nat) (h0 : Nat) (sz : Nat) : Met l yX0_init (wT yX0_init cX0_init 1 none) ({ frames := 1, cells := 6, slots := 264, locals := 23 }) (pcW dC dI [.ref h0] sz [(h0, .inr (0, [.null, .null, .null, .null, .null, .null, .int 0, .int 0]))] []) (va_Qv (fun _ : Unit => True) (fun _ t => ∃ e0 : Nat, ∃ e1 : Nat, ∃ e2 : Nat, ∃ e3 : Nat, ∃ e4 : Nat, ∃ e5 : Nat, ∃ cA : ClassId, ∃ f : Nat → Int32, pB dC dI (va_A [(h0, .inr (0, [.null, .null, .null, .null, .null, .null, .int 0, .int 0]))] sz) [(h0, .inr (0, [.ref e0, .ref e1, .ref e2, .ref e3, .ref e4, .ref e5, .int 0, .int 0])), (e5, .inl (cA, 64, .inl f))] [(cA, .int)] t) (va_A [(h0, .inr (0, [.null, .null, .null, .null, .null, .null, .int 0, .int 0]))] sz)) 6 264 (va_A [(h0, .inr (0, [.null, .null, .null, .null, .null, .null, .int 0, .int 0]))] sz) := by
  refine Met.ofW (cc := cX0_init) (maxL := 1) (ret := none) (by decide) rfl ?_
  intro p e s m args below meth c s₁ B hml hv
  obtain ⟨rfl, hsz, hP, hK, hD0⟩ := hv
  have hx := B.exec
  have hb := B.bytes
  have hr := B.returns
  have hT : ∀ w ∈ TB, w.before [.ref h0].toArray s = true := fun w h => atoms_spec (ws := wT yX0_init cX0_init 1 none) B.pre w (List.mem_cons_of_mem _ h)
  have hown : s.vm.findClass RX0 = some m.cls := findClass_of_methodNamed B.named
  have hlocks := B.notSynchronized
  have hin : meth.name = "<init>" := (name_of_methodNamed B.named B.method).1
  subst hsz
  have hD := hD0.self (sz := s.heap.size)
  generalize hAe : va_A [(h0, .inr (0, [.null, .null, .null, .null, .null, .null, .int 0, .int 0]))] s.heap.size = A at hD ⊢
  have hA : ∀ q : Nat, s.heap.size ≤ q → A q := fun q h => by rw [← hAe]; exact Or.inr h
  have hS : va_S A s.heap s.heap [] := va_S.rf
  have hP : va_P (dC, dI) vwCl [(h0, .inr (0, [.null, .null, .null, .null, .null, .null, .int 0, .int 0]))] s.heap := hP
  have hl := lv_entry ([.ref h0]) (n := 1) (Nat.le_of_ble_eq_true rfl)
  rw [lg_entry_eq]
  generalize (lg_sl ([.ref h0]) ++ List.replicate (1 - (lg_sl ([.ref h0])).length) Slot.unset).toArray = ls at hl ⊢
  have hl : lv_has ls 1 [(0, .ref h0)] := hl
  refine lv_aload_n hx hb dX0_init_0 rfl (lv_at hl 0 rfl) ?_
  refine W.objInit hx hb hown (hT _ w83) (hT _ w28) (hT _ w29) rfl (by rw [hml]; exact hl.1) rfl dX0_init_1 (Nat.le_of_ble_eq_true rfl) (Nat.le_of_ble_eq_true rfl) ?_
  refine W.eq (g2 := F0 m 4 ls []) rfl ?_
  refine lv_aload_n hx hb dX0_init_4 rfl (lv_at hl 0 rfl) ?_
  refine lv_bipush (v := 40) hx hb dX0_init_5 (by decide) ?_
  refine va_newa (atype := .int) (ty := .int) (a0 := (40, .inl (fun _ => 0))) (n := 40) (N' := 40) hx hb (hT _ w77) rfl hK hP hD hS hA (fun _ => rfl) (by decide) (by decide) (Nat.le_of_ble_eq_true rfl) (Nat.le_of_ble_eq_true rfl) (Nat.le_of_ble_eq_true rfl) dX0_init_7 (fun q_1 cA_2 H hK hP hD hS => ?_)
  have hP : va_P (dC, dI) vwCl [(h0, .inr (0, [.null, .null, .null, .null, .null, .null, .int 0, .int 0])), (q_1, .inl (cA_2, 40, .inl (fun _ => 0)))] H := hP
  have hD : va_D A [(h0, .inr (0, [.null, .null, .null, .null, .null, .null, .int 0, .int 0])), (q_1, .inl (cA_2, 40, .inl (fun _ => 0)))] := hD
  have hK : va_K (dC, dI) vwCl [(cA_2, .int)] s := hK
  refine W.widen (k := 1) (n := 40) (Nat.le_of_ble_eq_true rfl) (Nat.le_of_ble_eq_true rfl) ?_
  refine va_putF (D := (dC, dI)) (ci := 0) (v := .ref q_1) (ty := .array .int) (C := RX0) (T := TX0) (N := 8) hx hb hT iX0 tyX0 tyX0_ok nmX0 hown hK hP hD hS 0 rfl rfl 0 (by decide) (hT _ w88) (fun _ h9 => h9) rfl hin rfl (by decide +kernel) rfl rfl (Nat.le_of_ble_eq_true rfl) dX0_init_9 (fun H locs hP hD hS => ?_)
  have hP : va_P (dC, dI) vwCl [(h0, .inr (0, [.ref q_1, .null, .null, .null, .null, .null, .int 0, .int 0])), (q_1, .inl (cA_2, 40, .inl (fun _ => 0)))] H := hP
  have hD : va_D A [(h0, .inr (0, [.ref q_1, .null, .null, .null, .null, .null, .int 0, .int 0])), (q_1, .inl (cA_2, 40, .inl (fun _ => 0)))] := hD
  refine lv_aload_n hx hb dX0_init_12 rfl (lv_at hl 0 rfl) ?_
  refine lv_bipush (v := 40) hx hb dX0_init_13 (by decide) ?_
  refine va_newa (atype := .int) (ty := .int) (a0 := (40, .inl (fun _ => 0))) (n := 40) (N' := 40) hx hb (hT _ w77) rfl hK hP hD hS hA (fun _ => rfl) (by decide) (by decide) (Nat.le_of_ble_eq_true rfl) (Nat.le_of_ble_eq_true rfl) (Nat.le_of_ble_eq_true rfl) dX0_init_15 (fun q_3 cA_4 H hK hP hD hS => ?_)
  have hP : va_P (dC, dI) vwCl [(h0, .inr (0, [.ref q_1, .null, .null, .null, .null, .null, .int 0, .int 0])), (q_1, .inl (cA_2, 40, .inl (fun _ => 0))), (q_3, .inl (cA_4, 40, .inl (fun _ => 0)))] H := hP
  have hD : va_D A [(h0, .inr (0, [.ref q_1, .null, .null, .null, .null, .null, .int 0, .int 0])), (q_1, .inl (cA_2, 40, .inl (fun _ => 0))), (q_3, .inl (cA_4, 40, .inl (fun _ => 0)))] := hD
  have hK : va_K (dC, dI) vwCl [(cA_2, .int), (cA_4, .int)] s := hK
  refine W.widen (k := 2) (n := 80) (Nat.le_of_ble_eq_true rfl) (Nat.le_of_ble_eq_true rfl) ?_
  refine va_putF (D := (dC, dI)) (ci := 0) (v := .ref q_3) (ty := .array .int) (C := RX0) (T := TX0) (N := 8) hx hb hT iX0 tyX0 tyX0_ok nmX0 hown hK hP hD hS 0 rfl rfl 1 (by decide) (hT _ w92) (fun _ h9 => h9) rfl hin rfl (by decide +kernel) rfl rfl (Nat.le_of_ble_eq_true rfl) dX0_init_17 (fun H locs hP hD hS => ?_)
  have hP : va_P (dC, dI) vwCl [(h0, .inr (0, [.ref q_1, .ref q_3, .null, .null, .null, .null, .int 0, .int 0])), (q_1, .inl (cA_2, 40, .inl (fun _ => 0))), (q_3, .inl (cA_4, 40, .inl (fun _ => 0)))] H := hP
  have hD : va_D A [(h0, .inr (0, [.ref q_1, .ref q_3, .null, .null, .null, .null, .int 0, .int 0])), (q_1, .inl (cA_2, 40, .inl (fun _ => 0))), (q_3, .inl (cA_4, 40, .inl (fun _ => 0)))] := hD
  refine lv_aload_n hx hb dX0_init_20 rfl (lv_at hl 0 rfl) ?_
  refine lv_bipush (v := 40) hx hb dX0_init_21 (by decide) ?_
  refine va_newa (atype := .int) (ty := .int) (a0 := (40, .inl (fun _ => 0))) (n := 40) (N' := 40) hx hb (hT _ w77) rfl hK hP hD hS hA (fun _ => rfl) (by decide) (by decide) (Nat.le_of_ble_eq_true rfl) (Nat.le_of_ble_eq_true rfl) (Nat.le_of_ble_eq_true rfl) dX0_init_23 (fun q_5 cA_6 H hK hP hD hS => ?_)
  have hP : va_P (dC, dI) vwCl [(h0, .inr (0, [.ref q_1, .ref q_3, .null, .null, .null, .null, .int 0, .int 0])), (q_1, .inl (cA_2, 40, .inl (fun _ => 0))), (q_3, .inl (cA_4, 40, .inl (fun _ => 0))), (q_5, .inl (cA_6, 40, .inl (fun _ => 0)))] H := hP
  have hD : va_D A [(h0, .inr (0, [.ref q_1, .ref q_3, .null, .null, .null, .null, .int 0, .int 0])), (q_1, .inl (cA_2, 40, .inl (fun _ => 0))), (q_3, .inl (cA_4, 40, .inl (fun _ => 0))), (q_5, .inl (cA_6, 40, .inl (fun _ => 0)))] := hD
  have hK : va_K (dC, dI) vwCl [(cA_2, .int), (cA_4, .int), (cA_6, .int)] s := hK
  refine W.widen (k := 3) (n := 120) (Nat.le_of_ble_eq_true rfl) (Nat.le_of_ble_eq_true rfl) ?_
  refine va_putF (D := (dC, dI)) (ci := 0) (v := .ref q_5) (ty := .array .int) (C := RX0) (T := TX0) (N := 8) hx hb hT iX0 tyX0 tyX0_ok nmX0 hown hK hP hD hS 0 rfl rfl 2 (by decide) (hT _ w96) (fun _ h9 => h9) rfl hin rfl (by decide +kernel) rfl rfl (Nat.le_of_ble_eq_true rfl) dX0_init_25 (fun H locs hP hD hS => ?_)
  have hP : va_P (dC, dI) vwCl [(h0, .inr (0, [.ref q_1, .ref q_3, .ref q_5, .null, .null, .null, .int 0, .int 0])), (q_1, .inl (cA_2, 40, .inl (fun _ => 0))), (q_3, .inl (cA_4, 40, .inl (fun _ => 0))), (q_5, .inl (cA_6, 40, .inl (fun _ => 0)))] H := hP
  have hD : va_D A [(h0, .inr (0, [.ref q_1, .ref q_3, .ref q_5, .null, .null, .null, .int 0, .int 0])), (q_1, .inl (cA_2, 40, .inl (fun _ => 0))), (q_3, .inl (cA_4, 40, .inl (fun _ => 0))), (q_5, .inl (cA_6, 40, .inl (fun _ => 0)))] := hD
  refine lv_aload_n hx hb dX0_init_28 rfl (lv_at hl 0 rfl) ?_
  refine lv_bipush (v := 40) hx hb dX0_init_29 (by decide) ?_
  refine va_newa (atype := .long) (ty := .long) (a0 := (40, .inr (.inl (fun _ => 0)))) (n := 40) (N' := 40) hx hb (hT _ w137) rfl hK hP hD hS hA (fun _ => rfl) (by decide) (by decide) (Nat.le_of_ble_eq_true rfl) (Nat.le_of_ble_eq_true rfl) (Nat.le_of_ble_eq_true rfl) dX0_init_31 (fun q_7 cA_8 H hK hP hD hS => ?_)
  have hP : va_P (dC, dI) vwCl [(h0, .inr (0, [.ref q_1, .ref q_3, .ref q_5, .null, .null, .null, .int 0, .int 0])), (q_1, .inl (cA_2, 40, .inl (fun _ => 0))), (q_3, .inl (cA_4, 40, .inl (fun _ => 0))), (q_5, .inl (cA_6, 40, .inl (fun _ => 0))), (q_7, .inl (cA_8, 40, .inr (.inl (fun _ => 0))))] H := hP
  have hD : va_D A [(h0, .inr (0, [.ref q_1, .ref q_3, .ref q_5, .null, .null, .null, .int 0, .int 0])), (q_1, .inl (cA_2, 40, .inl (fun _ => 0))), (q_3, .inl (cA_4, 40, .inl (fun _ => 0))), (q_5, .inl (cA_6, 40, .inl (fun _ => 0))), (q_7, .inl (cA_8, 40, .inr (.inl (fun _ => 0))))] := hD
  have hK : va_K (dC, dI) vwCl [(cA_2, .int), (cA_4, .int), (cA_6, .int), (cA_8, .long)] s := hK
  refine W.widen (k := 4) (n := 160) (Nat.le_of_ble_eq_true rfl) (Nat.le_of_ble_eq_true rfl) ?_
  refine va_putF (D := (dC, dI)) (ci := 0) (v := .ref q_7) (ty := .array .long) (C := RX0) (T := TX0) (N := 8) hx hb hT iX0 tyX0 tyX0_ok nmX0 hown hK hP hD hS 0 rfl rfl 3 (by decide) (hT _ w100) (fun _ h9 => h9) rfl hin rfl (by decide +kernel) rfl rfl (Nat.le_of_ble_eq_true rfl) dX0_init_33 (fun H locs hP hD hS => ?_)
  have hP : va_P (dC, dI) vwCl [(h0, .inr (0, [.ref q_1, .ref q_3, .ref q_5, .ref q_7, .null, .null, .int 0, .int 0])), (q_1, .inl (cA_2, 40, .inl (fun _ => 0))), (q_3, .inl (cA_4, 40, .inl (fun _ => 0))), (q_5, .inl (cA_6, 40, .inl (fun _ => 0))), (q_7, .inl (cA_8, 40, .inr (.inl (fun _ => 0))))] H := hP
  have hD : va_D A [(h0, .inr (0, [.ref q_1, .ref q_3, .ref q_5, .ref q_7, .null, .null, .int 0, .int 0])), (q_1, .inl (cA_2, 40, .inl (fun _ => 0))), (q_3, .inl (cA_4, 40, .inl (fun _ => 0))), (q_5, .inl (cA_6, 40, .inl (fun _ => 0))), (q_7, .inl (cA_8, 40, .inr (.inl (fun _ => 0))))] := hD
  refine lv_aload_n hx hb dX0_init_36 rfl (lv_at hl 0 rfl) ?_
  refine lv_bipush (v := 40) hx hb dX0_init_37 (by decide) ?_
  refine va_newa (atype := .boolean) (ty := .boolean) (a0 := (40, .inl (fun _ => 0))) (n := 40) (N' := 40) hx hb (hT _ w138) rfl hK hP hD hS hA (fun _ => rfl) (by decide) (by decide) (Nat.le_of_ble_eq_true rfl) (Nat.le_of_ble_eq_true rfl) (Nat.le_of_ble_eq_true rfl) dX0_init_39 (fun q_9 cA_10 H hK hP hD hS => ?_)
  have hP : va_P (dC, dI) vwCl [(h0, .inr (0, [.ref q_1, .ref q_3, .ref q_5, .ref q_7, .null, .null, .int 0, .int 0])), (q_1, .inl (cA_2, 40, .inl (fun _ => 0))), (q_3, .inl (cA_4, 40, .inl (fun _ => 0))), (q_5, .inl (cA_6, 40, .inl (fun _ => 0))), (q_7, .inl (cA_8, 40, .inr (.inl (fun _ => 0)))), (q_9, .inl (cA_10, 40, .inl (fun _ => 0)))] H := hP
  have hD : va_D A [(h0, .inr (0, [.ref q_1, .ref q_3, .ref q_5, .ref q_7, .null, .null, .int 0, .int 0])), (q_1, .inl (cA_2, 40, .inl (fun _ => 0))), (q_3, .inl (cA_4, 40, .inl (fun _ => 0))), (q_5, .inl (cA_6, 40, .inl (fun _ => 0))), (q_7, .inl (cA_8, 40, .inr (.inl (fun _ => 0)))), (q_9, .inl (cA_10, 40, .inl (fun _ => 0)))] := hD
  have hK : va_K (dC, dI) vwCl [(cA_2, .int), (cA_4, .int), (cA_6, .int), (cA_8, .long), (cA_10, .boolean)] s := hK
  refine W.widen (k := 5) (n := 200) (Nat.le_of_ble_eq_true rfl) (Nat.le_of_ble_eq_true rfl) ?_
  refine va_putF (D := (dC, dI)) (ci := 0) (v := .ref q_9) (ty := .array .boolean) (C := RX0) (T := TX0) (N := 8) hx hb hT iX0 tyX0 tyX0_ok nmX0 hown hK hP hD hS 0 rfl rfl 4 (by decide) (hT _ w104) (fun _ h9 => h9) rfl hin rfl (by decide +kernel) rfl rfl (Nat.le_of_ble_eq_true rfl) dX0_init_41 (fun H locs hP hD hS => ?_)
  have hP : va_P (dC, dI) vwCl [(h0, .inr (0, [.ref q_1, .ref q_3, .ref q_5, .ref q_7, .ref q_9, .null, .int 0, .int 0])), (q_1, .inl (cA_2, 40, .inl (fun _ => 0))), (q_3, .inl (cA_4, 40, .inl (fun _ => 0))), (q_5, .inl (cA_6, 40, .inl (fun _ => 0))), (q_7, .inl (cA_8, 40, .inr (.inl (fun _ => 0)))), (q_9, .inl (cA_10, 40, .inl (fun _ => 0)))] H := hP
  have hD : va_D A [(h0, .inr (0, [.ref q_1, .ref q_3, .ref q_5, .ref q_7, .ref q_9, .null, .int 0, .int 0])), (q_1, .inl (cA_2, 40, .inl (fun _ => 0))), (q_3, .inl (cA_4, 40, .inl (fun _ => 0))), (q_5, .inl (cA_6, 40, .inl (fun _ => 0))), (q_7, .inl (cA_8, 40, .inr (.inl (fun _ => 0)))), (q_9, .inl (cA_10, 40, .inl (fun _ => 0)))] := hD
  refine lv_aload_n hx hb dX0_init_44 rfl (lv_at hl 0 rfl) ?_
  refine lv_bipush (v := 64) hx hb dX0_init_45 (by decide) ?_
  refine va_newa (atype := .int) (ty := .int) (a0 := (64, .inl (fun _ => 0))) (n := 64) (N' := 64) hx hb (hT _ w77) rfl hK hP hD hS hA (fun _ => rfl) (by decide) (by decide) (Nat.le_of_ble_eq_true rfl) (Nat.le_of_ble_eq_true rfl) (Nat.le_of_ble_eq_true rfl) dX0_init_47 (fun q_11 cA_12 H hK hP hD hS => ?_)
  have hP : va_P (dC, dI) vwCl [(h0, .inr (0, [.ref q_1, .ref q_3, .ref q_5, .ref q_7, .ref q_9, .null, .int 0, .int 0])), (q_1, .inl (cA_2, 40, .inl (fun _ => 0))), (q_3, .inl (cA_4, 40, .inl (fun _ => 0))), (q_5, .inl (cA_6, 40, .inl (fun _ => 0))), (q_7, .inl (cA_8, 40, .inr (.inl (fun _ => 0)))), (q_9, .inl (cA_10, 40, .inl (fun _ => 0))), (q_11, .inl (cA_12, 64, .inl (fun _ => 0)))] H := hP
  have hD : va_D A [(h0, .inr (0, [.ref q_1, .ref q_3, .ref q_5, .ref q_7, .ref q_9, .null, .int 0, .int 0])), (q_1, .inl (cA_2, 40, .inl (fun _ => 0))), (q_3, .inl (cA_4, 40, .inl (fun _ => 0))), (q_5, .inl (cA_6, 40, .inl (fun _ => 0))), (q_7, .inl (cA_8, 40, .inr (.inl (fun _ => 0)))), (q_9, .inl (cA_10, 40, .inl (fun _ => 0))), (q_11, .inl (cA_12, 64, .inl (fun _ => 0)))] := hD
  have hK : va_K (dC, dI) vwCl [(cA_2, .int), (cA_4, .int), (cA_6, .int), (cA_8, .long), (cA_10, .boolean), (cA_12, .int)] s := hK
  refine W.widen (k := 6) (n := 264) (Nat.le_of_ble_eq_true rfl) (Nat.le_of_ble_eq_true rfl) ?_
  refine va_putF (D := (dC, dI)) (ci := 0) (v := .ref q_11) (ty := .array .int) (C := RX0) (T := TX0) (N := 8) hx hb hT iX0 tyX0 tyX0_ok nmX0 hown hK hP hD hS 0 rfl rfl 5 (by decide) (hT _ w109) (fun _ h9 => h9) rfl hin rfl (by decide +kernel) rfl rfl (Nat.le_of_ble_eq_true rfl) dX0_init_49 (fun H locs hP hD hS => ?_)
  have hP : va_P (dC, dI) vwCl [(h0, .inr (0, [.ref q_1, .ref q_3, .ref q_5, .ref q_7, .ref q_9, .ref q_11, .int 0, .int 0])), (q_1, .inl (cA_2, 40, .inl (fun _ => 0))), (q_3, .inl (cA_4, 40, .inl (fun _ => 0))), (q_5, .inl (cA_6, 40, .inl (fun _ => 0))), (q_7, .inl (cA_8, 40, .inr (.inl (fun _ => 0)))), (q_9, .inl (cA_10, 40, .inl (fun _ => 0))), (q_11, .inl (cA_12, 64, .inl (fun _ => 0)))] H := hP
  have hD : va_D A [(h0, .inr (0, [.ref q_1, .ref q_3, .ref q_5, .ref q_7, .ref q_9, .ref q_11, .int 0, .int 0])), (q_1, .inl (cA_2, 40, .inl (fun _ => 0))), (q_3, .inl (cA_4, 40, .inl (fun _ => 0))), (q_5, .inl (cA_6, 40, .inl (fun _ => 0))), (q_7, .inl (cA_8, 40, .inr (.inl (fun _ => 0)))), (q_9, .inl (cA_10, 40, .inl (fun _ => 0))), (q_11, .inl (cA_12, 64, .inl (fun _ => 0)))] := hD
  refine lv_aload_n hx hb dX0_init_52 rfl (lv_at hl 0 rfl) ?_
  refine va_get (D := (dC, dI)) (ci := 0) (v := .ref q_11) (C := RX0) (T := TX0) (N := 8) hx hb hT iX0 hown hK hP 0 rfl rfl 5 (by decide) (hT _ w109) (fun _ h9 => h9) rfl dX0_init_53 ?_
  refine lv_ldc (v := 99999999) hx hb hown (hT _ w84) dX0_init_56 ?_
  have hPc := hP.sub (ws' := [(q_11, .inl (cA_12, 64, .inl (fun _ => 0)))]) [6] rfl
  have hDc := hD.sub (ws' := [(q_11, .inl (cA_12, 64, .inl (fun _ => 0)))]) [6] (by decide) rfl
  have hKc := hK.sub (tys' := [(cA_12, .int)]) [5] rfl
  have hFc := va_free (wc := [(q_11, .inl (cA_12, 64, .inl (fun _ => 0)))]) hD hS hA [6] rfl
  refine va_callv (va_runS (As := [.ref q_11, .int 99999999]) (rest := []) ⟨hx, hb, hml, hown, hT⟩ (j_fill l dC dI q_11 cA_12 (fun _ => 0) H.size 99999999) (va_cwS 2 hT (gS w85 w86 w6 w87) rfl rfl rfl (by decide +kernel) ⟨(Nat.le_of_ble_eq_true rfl), (Nat.le_of_ble_eq_true rfl)⟩) ⟨pcW.blind, pcW.pre hPc hKc hDc⟩ rfl rfl hl.1 rfl (lv_room (Nat.le_of_ble_eq_true rfl)) dX0_init_58 ⟨(Nat.le_of_ble_eq_true rfl), (Nat.le_of_ble_eq_true rfl)⟩) hS (fun q _ h => hFc q h) hFc (fun u t H1 locs ht hvm hw hB hz1 hk1 hS => ?_)
  obtain ⟨f2_13, hP1, hK1, hD1⟩ := hB
  rw [ht] at hP1
  have hK1 := va_K.moved hvm.symm hK1
  obtain ⟨hP, hD⟩ := va_join (wr := [(h0, .inr (0, [.ref q_1, .ref q_3, .ref q_5, .ref q_7, .ref q_9, .ref q_11, .int 0, .int 0])), (q_1, .inl (cA_2, 40, .inl (fun _ => 0))), (q_3, .inl (cA_4, 40, .inl (fun _ => 0))), (q_5, .inl (cA_6, 40, .inl (fun _ => 0))), (q_7, .inl (cA_8, 40, .inr (.inl (fun _ => 0)))), (q_9, .inl (cA_10, 40, .inl (fun _ => 0)))]) (w1 := [(q_11, .inl (cA_12, 64, .inl f2_13))]) hP hD [6] [0, 1, 2, 3, 4, 5] rfl rfl (by decide) (by decide) hk1 hFc hP1 hD1
  have hK := hK.app hK1
  generalize H1 = H at hP hS ⊢
  have hP : va_P (dC, dI) vwCl [(h0, .inr (0, [.ref q_1, .ref q_3, .ref q_5, .ref q_7, .ref q_9, .ref q_11, .int 0, .int 0])), (q_1, .inl (cA_2, 40, .inl (fun _ => 0))), (q_3, .inl (cA_4, 40, .inl (fun _ => 0))), (q_5, .inl (cA_6, 40, .inl (fun _ => 0))), (q_7, .inl (cA_8, 40, .inr (.inl (fun _ => 0)))), (q_9, .inl (cA_10, 40, .inl (fun _ => 0))), (q_11, .inl (cA_12, 64, .inl f2_13))] H := hP
  have hD : va_D A [(h0, .inr (0, [.ref q_1, .ref q_3, .ref q_5, .ref q_7, .ref q_9, .ref q_11, .int 0, .int 0])), (q_1, .inl (cA_2, 40, .inl (fun _ => 0))), (q_3, .inl (cA_4, 40, .inl (fun _ => 0))), (q_5, .inl (cA_6, 40, .inl (fun _ => 0))), (q_7, .inl (cA_8, 40, .inr (.inl (fun _ => 0)))), (q_9, .inl (cA_10, 40, .inl (fun _ => 0))), (q_11, .inl (cA_12, 64, .inl f2_13))] := hD
  have hK : va_K (dC, dI) vwCl [(cA_2, .int), (cA_4, .int), (cA_6, .int), (cA_8, .long), (cA_10, .boolean), (cA_12, .int), (cA_12, .int)] s := hK
  refine W.widen (k := 6) (n := 264) (Nat.le_of_ble_eq_true rfl) (Nat.le_of_ble_eq_true rfl) ?_
  refine W.widen (k := 6) (n := 264) (Nat.le_of_ble_eq_true rfl) (Nat.le_of_ble_eq_true rfl) ?_
  have hP9 := hP.sub (ws' := [(h0, .inr (0, [.ref q_1, .ref q_3, .ref q_5, .ref q_7, .ref q_9, .ref q_11, .int 0, .int 0])), (q_11, .inl (cA_12, 64, .inl f2_13))]) [0, 6] rfl
  have hD9 := hD.sub (ws' := [(h0, .inr (0, [.ref q_1, .ref q_3, .ref q_5, .ref q_7, .ref q_9, .ref q_11, .int 0, .int 0])), (q_11, .inl (cA_12, 64, .inl f2_13))]) [0, 6] (by decide) rfl
  have hK9 := hK.sub (tys' := [(cA_12, .int)]) [5] rfl
  exact W.vret hx hb hr (fun t ht hW => ⟨⟨(), rfl, trivial, q_1, q_3, q_5, q_7, q_9, q_11, cA_12, f2_13, by rw [ht]; exact hP9, va_K.moved hW.alike hK9, hD9⟩, hS.F ht⟩) hS.2.2 dX0_init_61

set_option maxHeartbeats 4000000 in
set_option maxRecDepth 100000 in
theorem k_Names (l : Launch) (dC : Nat → ClassId) (dI : Nat → Nat → Nat) (h0 : Nat) (sz : Nat) : Met l yX3_init (wT yX3_init cX3_init 1 none) ({ frames := 1, cells := 2, slots := 108, locals := 12 }) (pcW dC dI [.ref h0] sz [(h0, .inr (3, [.null, .null, .int 0, .int 0]))] []) (va_Qv (fun _ : Unit => True) (fun _ t => ∃ l0 : Nat, ∃ l1 : Nat, pB dC dI (va_A [(h0, .inr (3, [.null, .null, .int 0, .int 0]))] sz) [(h0, .inr (3, [.ref l0, .ref l1, .int 0, .int 0]))] [] t) (va_A [(h0, .inr (3, [.null, .null, .int 0, .int 0]))] sz)) 2 108 (va_A [(h0, .inr (3, [.null, .null, .int 0, .int 0]))] sz) := by
  refine Met.ofW (cc := cX3_init) (maxL := 1) (ret := none) (by decide) rfl ?_
  intro p e s m args below meth c s₁ B hml hv
  obtain ⟨rfl, hsz, hP, hK, hD0⟩ := hv
  have hx := B.exec
  have hb := B.bytes
  have hr := B.returns
  have hT : ∀ w ∈ TB, w.before [.ref h0].toArray s = true := fun w h => atoms_spec (ws := wT yX3_init cX3_init 1 none) B.pre w (List.mem_cons_of_mem _ h)
  have hown : s.vm.findClass RX3 = some m.cls := findClass_of_methodNamed B.named
  have hlocks := B.notSynchronized
  have hin : meth.name = "<init>" := (name_of_methodNamed B.named B.method).1
  subst hsz
  have hD := hD0.self (sz := s.heap.size)
  generalize hAe : va_A [(h0, .inr (3, [.null, .null, .int 0, .int 0]))] s.heap.size = A at hD ⊢
  have hA : ∀ q : Nat, s.heap.size ≤ q → A q := fun q h => by rw [← hAe]; exact Or.inr h
  have hS : va_S A s.heap s.heap [] := va_S.rf
  have hP : va_P (dC, dI) vwCl [(h0, .inr (3, [.null, .null, .int 0, .int 0]))] s.heap := hP
  have hl := lv_entry ([.ref h0]) (n := 1) (Nat.le_of_ble_eq_true rfl)
  rw [lg_entry_eq]
  generalize (lg_sl ([.ref h0]) ++ List.replicate (1 - (lg_sl ([.ref h0])).length) Slot.unset).toArray = ls at hl ⊢
  have hl : lv_has ls 1 [(0, .ref h0)] := hl
  refine lv_aload_n hx hb dX3_init_0 rfl (lv_at hl 0 rfl) ?_
  refine W.objInit hx hb hown (hT _ w57) (hT _ w28) (hT _ w29) rfl (by rw [hml]; exact hl.1) rfl dX3_init_1 (Nat.le_of_ble_eq_true rfl) (Nat.le_of_ble_eq_true rfl) ?_
  refine W.eq (g2 := F0 m 4 ls []) rfl ?_
  refine lv_aload_n hx hb dX3_init_4 rfl (lv_at hl 0 rfl) ?_
  refine lv_bipush (v := 96) hx hb dX3_init_5 (by decide) ?_
  refine va_newa (atype := .byte) (ty := .byte) (a0 := (96, .inl (fun _ => 0))) (n := 96) (N' := 96) hx hb (hT _ w45) rfl hK hP hD hS hA (fun _ => rfl) (by decide) (by decide) (Nat.le_of_ble_eq_true rfl) (Nat.le_of_ble_eq_true rfl) (Nat.le_of_ble_eq_true rfl) dX3_init_7 (fun q_1 cA_2 H hK hP hD hS => ?_)
  have hP : va_P (dC, dI) vwCl [(h0, .inr (3, [.null, .null, .int 0, .int 0])), (q_1, .inl (cA_2, 96, .inl (fun _ => 0)))] H := hP
  have hD : va_D A [(h0, .inr (3, [.null, .null, .int 0, .int 0])), (q_1, .inl (cA_2, 96, .inl (fun _ => 0)))] := hD
  have hK : va_K (dC, dI) vwCl [(cA_2, .byte)] s := hK
  refine W.widen (k := 1) (n := 96) (Nat.le_of_ble_eq_true rfl) (Nat.le_of_ble_eq_true rfl) ?_
  refine va_putF (D := (dC, dI)) (ci := 3) (v := .ref q_1) (ty := .array .byte) (C := RX3) (T := TX3) (N := 4) hx hb hT iX3 tyX3 tyX3_ok nmX3 hown hK hP hD hS 0 rfl rfl 0 (by decide) (hT _ w58) (fun _ h9 => h9) rfl hin rfl (by decide +kernel) rfl rfl (Nat.le_of_ble_eq_true rfl) dX3_init_9 (fun H locs hP hD hS => ?_)
  have hP : va_P (dC, dI) vwCl [(h0, .inr (3, [.ref q_1, .null, .int 0, .int 0])), (q_1, .inl (cA_2, 96, .inl (fun _ => 0)))] H := hP
  have hD : va_D A [(h0, .inr (3, [.ref q_1, .null, .int 0, .int 0])), (q_1, .inl (cA_2, 96, .inl (fun _ => 0)))] := hD
  refine lv_aload_n hx hb dX3_init_12 rfl (lv_at hl 0 rfl) ?_
  refine lv_bipush (v := 12) hx hb dX3_init_13 (by decide) ?_
  refine va_newa (atype := .int) (ty := .int) (a0 := (12, .inl (fun _ => 0))) (n := 12) (N' := 12) hx hb (hT _ w77) rfl hK hP hD hS hA (fun _ => rfl) (by decide) (by decide) (Nat.le_of_ble_eq_true rfl) (Nat.le_of_ble_eq_true rfl) (Nat.le_of_ble_eq_true rfl) dX3_init_15 (fun q_3 cA_4 H hK hP hD hS => ?_)
  have hP : va_P (dC, dI) vwCl [(h0, .inr (3, [.ref q_1, .null, .int 0, .int 0])), (q_1, .inl (cA_2, 96, .inl (fun _ => 0))), (q_3, .inl (cA_4, 12, .inl (fun _ => 0)))] H := hP
  have hD : va_D A [(h0, .inr (3, [.ref q_1, .null, .int 0, .int 0])), (q_1, .inl (cA_2, 96, .inl (fun _ => 0))), (q_3, .inl (cA_4, 12, .inl (fun _ => 0)))] := hD
  have hK : va_K (dC, dI) vwCl [(cA_2, .byte), (cA_4, .int)] s := hK
  refine W.widen (k := 2) (n := 108) (Nat.le_of_ble_eq_true rfl) (Nat.le_of_ble_eq_true rfl) ?_
  refine va_putF (D := (dC, dI)) (ci := 3) (v := .ref q_3) (ty := .array .int) (C := RX3) (T := TX3) (N := 4) hx hb hT iX3 tyX3 tyX3_ok nmX3 hown hK hP hD hS 0 rfl rfl 1 (by decide) (hT _ w60) (fun _ h9 => h9) rfl hin rfl (by decide +kernel) rfl rfl (Nat.le_of_ble_eq_true rfl) dX3_init_17 (fun H locs hP hD hS => ?_)
  have hP : va_P (dC, dI) vwCl [(h0, .inr (3, [.ref q_1, .ref q_3, .int 0, .int 0])), (q_1, .inl (cA_2, 96, .inl (fun _ => 0))), (q_3, .inl (cA_4, 12, .inl (fun _ => 0)))] H := hP
  have hD : va_D A [(h0, .inr (3, [.ref q_1, .ref q_3, .int 0, .int 0])), (q_1, .inl (cA_2, 96, .inl (fun _ => 0))), (q_3, .inl (cA_4, 12, .inl (fun _ => 0)))] := hD
  refine W.widen (k := 2) (n := 108) (Nat.le_of_ble_eq_true rfl) (Nat.le_of_ble_eq_true rfl) ?_
  have hP9 := hP.sub (ws' := [(h0, .inr (3, [.ref q_1, .ref q_3, .int 0, .int 0]))]) [0] rfl
  have hD9 := hD.sub (ws' := [(h0, .inr (3, [.ref q_1, .ref q_3, .int 0, .int 0]))]) [0] (by decide) rfl
  have hK9 := hK.sub (tys' := []) [] rfl
  exact W.vret hx hb hr (fun t ht hW => ⟨⟨(), rfl, trivial, q_1, q_3, by rw [ht]; exact hP9, va_K.moved hW.alike hK9, hD9⟩, hS.F ht⟩) hS.2.2 dX3_init_20

set_option maxHeartbeats 4000000 in
set_option maxRecDepth 100000 in
theorem k_Tape (l : Launch) (dC : Nat → ClassId) (dI : Nat → Nat → Nat) (h0 : Nat) (sz : Nat) : Met l yX10_init (wT yX10_init cX10_init 1 none) ({ frames := 1, cells := 1, slots := 900, locals := 12 }) (pcW dC dI [.ref h0] sz [(h0, .inr (10, [.null, .int 0]))] []) (va_Qv (fun _ : Unit => True) (fun _ t => ∃ tb : Nat, ∃ cB : ClassId, ∃ fb : Nat → Int32, pB dC dI (va_A [(h0, .inr (10, [.null, .int 0]))] sz) [(h0, .inr (10, [.ref tb, .int 0])), (tb, .inl (cB, 900, .inl fb))] [(cB, .byte)] t) (va_A [(h0, .inr (10, [.null, .int 0]))] sz)) 1 900 (va_A [(h0, .inr (10, [.null, .int 0]))] sz) := by
  refine Met.ofW (cc := cX10_init) (maxL := 1) (ret := none) (by decide) rfl ?_
  intro p e s m args below meth c s₁ B hml hv
  obtain ⟨rfl, hsz, hP, hK, hD0⟩ := hv
  have hx := B.exec
  have hb := B.bytes
  have hr := B.returns
  have hT : ∀ w ∈ TB, w.before [.ref h0].toArray s = true := fun w h => atoms_spec (ws := wT yX10_init cX10_init 1 none) B.pre w (List.mem_cons_of_mem _ h)
  have hown : s.vm.findClass RX10 = some m.cls := findClass_of_methodNamed B.named
  have hlocks := B.notSynchronized
  have hin : meth.name = "<init>" := (name_of_methodNamed B.named B.method).1
  subst hsz
  have hD := hD0.self (sz := s.heap.size)
  generalize hAe : va_A [(h0, .inr (10, [.null, .int 0]))] s.heap.size = A at hD ⊢
  have hA : ∀ q : Nat, s.heap.size ≤ q → A q := fun q h => by rw [← hAe]; exact Or.inr h
  have hS : va_S A s.heap s.heap [] := va_S.rf
  have hP : va_P (dC, dI) vwCl [(h0, .inr (10, [.null, .int 0]))] s.heap := hP
  have hl := lv_entry ([.ref h0]) (n := 1) (Nat.le_of_ble_eq_true rfl)
  rw [lg_entry_eq]
  generalize (lg_sl ([.ref h0]) ++ List.replicate (1 - (lg_sl ([.ref h0])).length) Slot.unset).toArray = ls at hl ⊢
  have hl : lv_has ls 1 [(0, .ref h0)] := hl
  refine lv_aload_n hx hb dX10_init_0 rfl (lv_at hl 0 rfl) ?_
  refine W.objInit hx hb hown (hT _ w35) (hT _ w28) (hT _ w29) rfl (by rw [hml]; exact hl.1) rfl dX10_init_1 (Nat.le_of_ble_eq_true rfl) (Nat.le_of_ble_eq_true rfl) ?_
  refine W.eq (g2 := F0 m 4 ls []) rfl ?_
  refine lv_aload_n hx hb dX10_init_4 rfl (lv_at hl 0 rfl) ?_
  refine lv_sipush (v := 900) hx hb dX10_init_5 (by decide) ?_
  refine va_newa (atype := .byte) (ty := .byte) (a0 := (900, .inl (fun _ => 0))) (n := 900) (N' := 900) hx hb (hT _ w45) rfl hK hP hD hS hA (fun _ => rfl) (by decide) (by decide) (Nat.le_of_ble_eq_true rfl) (Nat.le_of_ble_eq_true rfl) (Nat.le_of_ble_eq_true rfl) dX10_init_8 (fun q_1 cA_2 H hK hP hD hS => ?_)
  have hP : va_P (dC, dI) vwCl [(h0, .inr (10, [.null, .int 0])), (q_1, .inl (cA_2, 900, .inl (fun _ => 0)))] H := hP
  have hD : va_D A [(h0, .inr (10, [.null, .int 0])), (q_1, .inl (cA_2, 900, .inl (fun _ => 0)))] := hD
  have hK : va_K (dC, dI) vwCl [(cA_2, .byte)] s := hK
  refine W.widen (k := 1) (n := 900) (Nat.le_of_ble_eq_true rfl) (Nat.le_of_ble_eq_true rfl) ?_
  refine va_putF (D := (dC, dI)) (ci := 10) (v := .ref q_1) (ty := .array .byte) (C := RX10) (T := TX10) (N := 2) hx hb hT iX10 tyX10 tyX10_ok nmX10 hown hK hP hD hS 0 rfl rfl 0 (by decide) (hT _ w36) (fun _ h9 => h9) rfl hin rfl (by decide +kernel) rfl rfl (Nat.le_of_ble_eq_true rfl) dX10_init_10 (fun H locs hP hD hS => ?_)
  have hP : va_P (dC, dI) vwCl [(h0, .inr (10, [.ref q_1, .int 0])), (q_1, .inl (cA_2, 900, .inl (fun _ => 0)))] H := hP
  have hD : va_D A [(h0, .inr (10, [.ref q_1, .int 0])), (q_1, .inl (cA_2, 900, .inl (fun _ => 0)))] := hD
  refine W.widen (k := 1) (n := 900) (Nat.le_of_ble_eq_true rfl) (Nat.le_of_ble_eq_true rfl) ?_
  have hP9 := hP.sub (ws' := [(h0, .inr (10, [.ref q_1, .int 0])), (q_1, .inl (cA_2, 900, .inl (fun _ => 0)))]) [0, 1] rfl
  have hD9 := hD.sub (ws' := [(h0, .inr (10, [.ref q_1, .int 0])), (q_1, .inl (cA_2, 900, .inl (fun _ => 0)))]) [0, 1] (by decide) rfl
  have hK9 := hK.sub (tys' := [(cA_2, .byte)]) [0] rfl
  exact W.vret hx hb hr (fun t ht hW => ⟨⟨(), rfl, trivial, q_1, cA_2, fun _ => 0, by rw [ht]; exact hP9, va_K.moved hW.alike hK9, hD9⟩, hS.F ht⟩) hS.2.2 dX10_init_13

set_option maxHeartbeats 4000000 in
set_option maxRecDepth 100000 in
theorem k_Flows (l : Launch) (dC : Nat → ClassId) (dI : Nat → Nat → Nat) (h0 : Nat) (sz : Nat) : Met l yX1_init (wT yX1_init cX1_init 1 none) ({ frames := 1, cells := 1, slots := 64, locals := 12 }) (pcW dC dI [.ref h0] sz [(h0, .inr (1, [.null, .int 0]))] []) (va_Qv (fun _ : Unit => True) (fun _ _ => True) (va_A [(h0, .inr (1, [.null, .int 0]))] sz)) 1 64 (va_A [(h0, .inr (1, [.null, .int 0]))] sz) := by
  refine Met.ofW (cc := cX1_init) (maxL := 1) (ret := none) (by decide) rfl ?_
  intro p e s m args below meth c s₁ B hml hv
  obtain ⟨rfl, hsz, hP, hK, hD0⟩ := hv
  have hx := B.exec
  have hb := B.bytes
  have hr := B.returns
  have hT : ∀ w ∈ TB, w.before [.ref h0].toArray s = true := fun w h => atoms_spec (ws := wT yX1_init cX1_init 1 none) B.pre w (List.mem_cons_of_mem _ h)
  have hown : s.vm.findClass RX1 = some m.cls := findClass_of_methodNamed B.named
  have hlocks := B.notSynchronized
  have hin : meth.name = "<init>" := (name_of_methodNamed B.named B.method).1
  subst hsz
  have hD := hD0.self (sz := s.heap.size)
  generalize hAe : va_A [(h0, .inr (1, [.null, .int 0]))] s.heap.size = A at hD ⊢
  have hA : ∀ q : Nat, s.heap.size ≤ q → A q := fun q h => by rw [← hAe]; exact Or.inr h
  have hS : va_S A s.heap s.heap [] := va_S.rf
  have hP : va_P (dC, dI) vwCl [(h0, .inr (1, [.null, .int 0]))] s.heap := hP
  have hl := lv_entry ([.ref h0]) (n := 1) (Nat.le_of_ble_eq_true rfl)
  rw [lg_entry_eq]
  generalize (lg_sl ([.ref h0]) ++ List.replicate (1 - (lg_sl ([.ref h0])).length) Slot.unset).toArray = ls at hl ⊢
  have hl : lv_has ls 1 [(0, .ref h0)] := hl
  refine lv_aload_n hx hb dX1_init_0 rfl (lv_at hl 0 rfl) ?_
  refine W.objInit hx hb hown (hT _ w196) (hT _ w28) (hT _ w29) rfl (by rw [hml]; exact hl.1) rfl dX1_init_1 (Nat.le_of_ble_eq_true rfl) (Nat.le_of_ble_eq_true rfl) ?_
  refine W.eq (g2 := F0 m 4 ls []) rfl ?_
  refine lv_aload_n hx hb dX1_init_4 rfl (lv_at hl 0 rfl) ?_
  refine lv_bipush (v := 64) hx hb dX1_init_5 (by decide) ?_
  refine va_newa (atype := .long) (ty := .long) (a0 := (64, .inr (.inl (fun _ => 0)))) (n := 64) (N' := 64) hx hb (hT _ w137) rfl hK hP hD hS hA (fun _ => rfl) (by decide) (by decide) (Nat.le_of_ble_eq_true rfl) (Nat.le_of_ble_eq_true rfl) (Nat.le_of_ble_eq_true rfl) dX1_init_7 (fun q_1 cA_2 H hK hP hD hS => ?_)
  have hP : va_P (dC, dI) vwCl [(h0, .inr (1, [.null, .int 0])), (q_1, .inl (cA_2, 64, .inr (.inl (fun _ => 0))))] H := hP
  have hD : va_D A [(h0, .inr (1, [.null, .int 0])), (q_1, .inl (cA_2, 64, .inr (.inl (fun _ => 0))))] := hD
  have hK : va_K (dC, dI) vwCl [(cA_2, .long)] s := hK
  refine W.widen (k := 1) (n := 64) (Nat.le_of_ble_eq_true rfl) (Nat.le_of_ble_eq_true rfl) ?_
  refine va_putF (D := (dC, dI)) (ci := 1) (v := .ref q_1) (ty := .array .long) (C := RX1) (T := TX1) (N := 2) hx hb hT iX1 tyX1 tyX1_ok nmX1 hown hK hP hD hS 0 rfl rfl 0 (by decide) (hT _ w197) (fun _ h9 => h9) rfl hin rfl (by decide +kernel) rfl rfl (Nat.le_of_ble_eq_true rfl) dX1_init_9 (fun H locs hP hD hS => ?_)
  have hP : va_P (dC, dI) vwCl [(h0, .inr (1, [.ref q_1, .int 0])), (q_1, .inl (cA_2, 64, .inr (.inl (fun _ => 0))))] H := hP
  have hD : va_D A [(h0, .inr (1, [.ref q_1, .int 0])), (q_1, .inl (cA_2, 64, .inr (.inl (fun _ => 0))))] := hD
  refine W.widen (k := 1) (n := 64) (Nat.le_of_ble_eq_true rfl) (Nat.le_of_ble_eq_true rfl) ?_
  exact W.vret hx hb hr (fun t ht hW => ⟨⟨(), rfl, trivial, trivial⟩, hS.F ht⟩) hS.2.2 dX1_init_12

set_option maxHeartbeats 4000000 in
set_option maxRecDepth 100000 in
theorem k_Rings (l : Launch) (dC : Nat → ClassId) (dI : Nat → Nat → Nat) (h0 : Nat) (sz : Nat) : Met l yX7_init (wT yX7_init cX7_init 1 none) ({ frames := 1, cells := 3, slots := 24, locals := 12 }) (pcW dC dI [.ref h0] sz [(h0, .inr (7, [.null, .int 0, .long 0, .int 0, .null, .null]))] []) (va_Qv (fun _ : Unit => True) (fun _ _ => True) (va_A [(h0, .inr (7, [.null, .int 0, .long 0, .int 0, .null, .null]))] sz)) 3 24 (va_A [(h0, .inr (7, [.null, .int 0, .long 0, .int 0, .null, .null]))] sz) := by
  refine Met.ofW (cc := cX7_init) (maxL := 1) (ret := none) (by decide) rfl ?_
  intro p e s m args below meth c s₁ B hml hv
  obtain ⟨rfl, hsz, hP, hK, hD0⟩ := hv
  have hx := B.exec
  have hb := B.bytes
  have hr := B.returns
  have hT : ∀ w ∈ TB, w.before [.ref h0].toArray s = true := fun w h => atoms_spec (ws := wT yX7_init cX7_init 1 none) B.pre w (List.mem_cons_of_mem _ h)
  have hown : s.vm.findClass RX7 = some m.cls := findClass_of_methodNamed B.named
  have hlocks := B.notSynchronized
  have hin : meth.name = "<init>" := (name_of_methodNamed B.named B.method).1
  subst hsz
  have hD := hD0.self (sz := s.heap.size)
  generalize hAe : va_A [(h0, .inr (7, [.null, .int 0, .long 0, .int 0, .null, .null]))] s.heap.size = A at hD ⊢
  have hA : ∀ q : Nat, s.heap.size ≤ q → A q := fun q h => by rw [← hAe]; exact Or.inr h
  have hS : va_S A s.heap s.heap [] := va_S.rf
  have hP : va_P (dC, dI) vwCl [(h0, .inr (7, [.null, .int 0, .long 0, .int 0, .null, .null]))] s.heap := hP
  have hl := lv_entry ([.ref h0]) (n := 1) (Nat.le_of_ble_eq_true rfl)
  rw [lg_entry_eq]
  generalize (lg_sl ([.ref h0]) ++ List.replicate (1 - (lg_sl ([.ref h0])).length) Slot.unset).toArray = ls at hl ⊢
  have hl : lv_has ls 1 [(0, .ref h0)] := hl
  refine lv_aload_n hx hb dX7_init_0 rfl (lv_at hl 0 rfl) ?_
  refine W.objInit hx hb hown (hT _ w215) (hT _ w28) (hT _ w29) rfl (by rw [hml]; exact hl.1) rfl dX7_init_1 (Nat.le_of_ble_eq_true rfl) (Nat.le_of_ble_eq_true rfl) ?_
  refine W.eq (g2 := F0 m 4 ls []) rfl ?_
  refine lv_aload_n hx hb dX7_init_4 rfl (lv_at hl 0 rfl) ?_
  refine lv_bipush (v := 8) hx hb dX7_init_5 (by decide) ?_
  refine va_newa (atype := .int) (ty := .int) (a0 := (8, .inl (fun _ => 0))) (n := 8) (N' := 8) hx hb (hT _ w77) rfl hK hP hD hS hA (fun _ => rfl) (by decide) (by decide) (Nat.le_of_ble_eq_true rfl) (Nat.le_of_ble_eq_true rfl) (Nat.le_of_ble_eq_true rfl) dX7_init_7 (fun q_1 cA_2 H hK hP hD hS => ?_)
  have hP : va_P (dC, dI) vwCl [(h0, .inr (7, [.null, .int 0, .long 0, .int 0, .null, .null])), (q_1, .inl (cA_2, 8, .inl (fun _ => 0)))] H := hP
  have hD : va_D A [(h0, .inr (7, [.null, .int 0, .long 0, .int 0, .null, .null])), (q_1, .inl (cA_2, 8, .inl (fun _ => 0)))] := hD
  have hK : va_K (dC, dI) vwCl [(cA_2, .int)] s := hK
  refine W.widen (k := 1) (n := 8) (Nat.le_of_ble_eq_true rfl) (Nat.le_of_ble_eq_true rfl) ?_
  refine va_putF (D := (dC, dI)) (ci := 7) (v := .ref q_1) (ty := .array .int) (C := RX7) (T := TX7) (N := 6) hx hb hT iX7 tyX7 tyX7_ok nmX7 hown hK hP hD hS 0 rfl rfl 0 (by decide) (hT _ w216) (fun _ h9 => h9) rfl hin rfl (by decide +kernel) rfl rfl (Nat.le_of_ble_eq_true rfl) dX7_init_9 (fun H locs hP hD hS => ?_)
  have hP : va_P (dC, dI) vwCl [(h0, .inr (7, [.ref q_1, .int 0, .long 0, .int 0, .null, .null])), (q_1, .inl (cA_2, 8, .inl (fun _ => 0)))] H := hP
  have hD : va_D A [(h0, .inr (7, [.ref q_1, .int 0, .long 0, .int 0, .null, .null])), (q_1, .inl (cA_2, 8, .inl (fun _ => 0)))] := hD
  refine lv_aload_n hx hb dX7_init_12 rfl (lv_at hl 0 rfl) ?_
  refine lv_bipush (v := 8) hx hb dX7_init_13 (by decide) ?_
  refine va_newa (atype := .int) (ty := .int) (a0 := (8, .inl (fun _ => 0))) (n := 8) (N' := 8) hx hb (hT _ w77) rfl hK hP hD hS hA (fun _ => rfl) (by decide) (by decide) (Nat.le_of_ble_eq_true rfl) (Nat.le_of_ble_eq_true rfl) (Nat.le_of_ble_eq_true rfl) dX7_init_15 (fun q_3 cA_4 H hK hP hD hS => ?_)
  have hP : va_P (dC, dI) vwCl [(h0, .inr (7, [.ref q_1, .int 0, .long 0, .int 0, .null, .null])), (q_1, .inl (cA_2, 8, .inl (fun _ => 0))), (q_3, .inl (cA_4, 8, .inl (fun _ => 0)))] H := hP
  have hD : va_D A [(h0, .inr (7, [.ref q_1, .int 0, .long 0, .int 0, .null, .null])), (q_1, .inl (cA_2, 8, .inl (fun _ => 0))), (q_3, .inl (cA_4, 8, .inl (fun _ => 0)))] := hD
  have hK : va_K (dC, dI) vwCl [(cA_2, .int), (cA_4, .int)] s := hK
  refine W.widen (k := 2) (n := 16) (Nat.le_of_ble_eq_true rfl) (Nat.le_of_ble_eq_true rfl) ?_
  refine va_putF (D := (dC, dI)) (ci := 7) (v := .ref q_3) (ty := .array .int) (C := RX7) (T := TX7) (N := 6) hx hb hT iX7 tyX7 tyX7_ok nmX7 hown hK hP hD hS 0 rfl rfl 4 (by decide) (hT _ w224) (fun _ h9 => h9) rfl hin rfl (by decide +kernel) rfl rfl (Nat.le_of_ble_eq_true rfl) dX7_init_17 (fun H locs hP hD hS => ?_)
  have hP : va_P (dC, dI) vwCl [(h0, .inr (7, [.ref q_1, .int 0, .long 0, .int 0, .ref q_3, .null])), (q_1, .inl (cA_2, 8, .inl (fun _ => 0))), (q_3, .inl (cA_4, 8, .inl (fun _ => 0)))] H := hP
  have hD : va_D A [(h0, .inr (7, [.ref q_1, .int 0, .long 0, .int 0, .ref q_3, .null])), (q_1, .inl (cA_2, 8, .inl (fun _ => 0))), (q_3, .inl (cA_4, 8, .inl (fun _ => 0)))] := hD
  refine lv_aload_n hx hb dX7_init_20 rfl (lv_at hl 0 rfl) ?_
  refine lv_bipush (v := 8) hx hb dX7_init_21 (by decide) ?_
  refine va_newa (atype := .int) (ty := .int) (a0 := (8, .inl (fun _ => 0))) (n := 8) (N' := 8) hx hb (hT _ w77) rfl hK hP hD hS hA (fun _ => rfl) (by decide) (by decide) (Nat.le_of_ble_eq_true rfl) (Nat.le_of_ble_eq_true rfl) (Nat.le_of_ble_eq_true rfl) dX7_init_23 (fun q_5 cA_6 H hK hP hD hS => ?_)
  have hP : va_P (dC, dI) vwCl [(h0, .inr (7, [.ref q_1, .int 0, .long 0, .int 0, .ref q_3, .null])), (q_1, .inl (cA_2, 8, .inl (fun _ => 0))), (q_3, .inl (cA_4, 8, .inl (fun _ => 0))), (q_5, .inl (cA_6, 8, .inl (fun _ => 0)))] H := hP
  have hD : va_D A [(h0, .inr (7, [.ref q_1, .int 0, .long 0, .int 0, .ref q_3, .null])), (q_1, .inl (cA_2, 8, .inl (fun _ => 0))), (q_3, .inl (cA_4, 8, .inl (fun _ => 0))), (q_5, .inl (cA_6, 8, .inl (fun _ => 0)))] := hD
  have hK : va_K (dC, dI) vwCl [(cA_2, .int), (cA_4, .int), (cA_6, .int)] s := hK
  refine W.widen (k := 3) (n := 24) (Nat.le_of_ble_eq_true rfl) (Nat.le_of_ble_eq_true rfl) ?_
  refine va_putF (D := (dC, dI)) (ci := 7) (v := .ref q_5) (ty := .array .int) (C := RX7) (T := TX7) (N := 6) hx hb hT iX7 tyX7 tyX7_ok nmX7 hown hK hP hD hS 0 rfl rfl 5 (by decide) (hT _ w225) (fun _ h9 => h9) rfl hin rfl (by decide +kernel) rfl rfl (Nat.le_of_ble_eq_true rfl) dX7_init_25 (fun H locs hP hD hS => ?_)
  have hP : va_P (dC, dI) vwCl [(h0, .inr (7, [.ref q_1, .int 0, .long 0, .int 0, .ref q_3, .ref q_5])), (q_1, .inl (cA_2, 8, .inl (fun _ => 0))), (q_3, .inl (cA_4, 8, .inl (fun _ => 0))), (q_5, .inl (cA_6, 8, .inl (fun _ => 0)))] H := hP
  have hD : va_D A [(h0, .inr (7, [.ref q_1, .int 0, .long 0, .int 0, .ref q_3, .ref q_5])), (q_1, .inl (cA_2, 8, .inl (fun _ => 0))), (q_3, .inl (cA_4, 8, .inl (fun _ => 0))), (q_5, .inl (cA_6, 8, .inl (fun _ => 0)))] := hD
  refine W.widen (k := 3) (n := 24) (Nat.le_of_ble_eq_true rfl) (Nat.le_of_ble_eq_true rfl) ?_
  exact W.vret hx hb hr (fun t ht hW => ⟨⟨(), rfl, trivial, trivial⟩, hS.F ht⟩) hS.2.2 dX7_init_28

set_option maxHeartbeats 4000000 in
set_option maxRecDepth 100000 in
theorem k_Row (l : Launch) (dC : Nat → ClassId) (dI : Nat → Nat → Nat) (h0 : Nat) (sz : Nat) : Met l yX8_init (wT yX8_init cX8_init 1 none) ({ frames := 1, cells := 2, slots := 16, locals := 12 }) (pcW dC dI [.ref h0] sz [(h0, .inr (8, [.null, .int 0, .null]))] []) (va_Qv (fun _ : Unit => True) (fun _ _ => True) (va_A [(h0, .inr (8, [.null, .int 0, .null]))] sz)) 2 16 (va_A [(h0, .inr (8, [.null, .int 0, .null]))] sz) := by
  refine Met.ofW (cc := cX8_init) (maxL := 1) (ret := none) (by decide) rfl ?_
  intro p e s m args below meth c s₁ B hml hv
  obtain ⟨rfl, hsz, hP, hK, hD0⟩ := hv
  have hx := B.exec
  have hb := B.bytes
  have hr := B.returns
  have hT : ∀ w ∈ TB, w.before [.ref h0].toArray s = true := fun w h => atoms_spec (ws := wT yX8_init cX8_init 1 none) B.pre w (List.mem_cons_of_mem _ h)
  have hown : s.vm.findClass RX8 = some m.cls := findClass_of_methodNamed B.named
  have hlocks := B.notSynchronized
  have hin : meth.name = "<init>" := (name_of_methodNamed B.named B.method).1
  subst hsz
  have hD := hD0.self (sz := s.heap.size)
  generalize hAe : va_A [(h0, .inr (8, [.null, .int 0, .null]))] s.heap.size = A at hD ⊢
  have hA : ∀ q : Nat, s.heap.size ≤ q → A q := fun q h => by rw [← hAe]; exact Or.inr h
  have hS : va_S A s.heap s.heap [] := va_S.rf
  have hP : va_P (dC, dI) vwCl [(h0, .inr (8, [.null, .int 0, .null]))] s.heap := hP
  have hl := lv_entry ([.ref h0]) (n := 1) (Nat.le_of_ble_eq_true rfl)
  rw [lg_entry_eq]
  generalize (lg_sl ([.ref h0]) ++ List.replicate (1 - (lg_sl ([.ref h0])).length) Slot.unset).toArray = ls at hl ⊢
  have hl : lv_has ls 1 [(0, .ref h0)] := hl
  refine lv_aload_n hx hb dX8_init_0 rfl (lv_at hl 0 rfl) ?_
  refine W.objInit hx hb hown (hT _ w244) (hT _ w28) (hT _ w29) rfl (by rw [hml]; exact hl.1) rfl dX8_init_1 (Nat.le_of_ble_eq_true rfl) (Nat.le_of_ble_eq_true rfl) ?_
  refine W.eq (g2 := F0 m 4 ls []) rfl ?_
  refine lv_aload_n hx hb dX8_init_4 rfl (lv_at hl 0 rfl) ?_
  refine lv_bipush (v := 8) hx hb dX8_init_5 (by decide) ?_
  refine va_newa (atype := .int) (ty := .int) (a0 := (8, .inl (fun _ => 0))) (n := 8) (N' := 8) hx hb (hT _ w77) rfl hK hP hD hS hA (fun _ => rfl) (by decide) (by decide) (Nat.le_of_ble_eq_true rfl) (Nat.le_of_ble_eq_true rfl) (Nat.le_of_ble_eq_true rfl) dX8_init_7 (fun q_1 cA_2 H hK hP hD hS => ?_)
  have hP : va_P (dC, dI) vwCl [(h0, .inr (8, [.null, .int 0, .null])), (q_1, .inl (cA_2, 8, .inl (fun _ => 0)))] H := hP
  have hD : va_D A [(h0, .inr (8, [.null, .int 0, .null])), (q_1, .inl (cA_2, 8, .inl (fun _ => 0)))] := hD
  have hK : va_K (dC, dI) vwCl [(cA_2, .int)] s := hK
  refine W.widen (k := 1) (n := 8) (Nat.le_of_ble_eq_true rfl) (Nat.le_of_ble_eq_true rfl) ?_
  refine va_putF (D := (dC, dI)) (ci := 8) (v := .ref q_1) (ty := .array .int) (C := RX8) (T := TX8) (N := 3) hx hb hT iX8 tyX8 tyX8_ok nmX8 hown hK hP hD hS 0 rfl rfl 0 (by decide) (hT _ w245) (fun _ h9 => h9) rfl hin rfl (by decide +kernel) rfl rfl (Nat.le_of_ble_eq_true rfl) dX8_init_9 (fun H locs hP hD hS => ?_)
  have hP : va_P (dC, dI) vwCl [(h0, .inr (8, [.ref q_1, .int 0, .null])), (q_1, .inl (cA_2, 8, .inl (fun _ => 0)))] H := hP
  have hD : va_D A [(h0, .inr (8, [.ref q_1, .int 0, .null])), (q_1, .inl (cA_2, 8, .inl (fun _ => 0)))] := hD
  refine lv_aload_n hx hb dX8_init_12 rfl (lv_at hl 0 rfl) ?_
  refine lv_bipush (v := 8) hx hb dX8_init_13 (by decide) ?_
  refine va_newa (atype := .int) (ty := .int) (a0 := (8, .inl (fun _ => 0))) (n := 8) (N' := 8) hx hb (hT _ w77) rfl hK hP hD hS hA (fun _ => rfl) (by decide) (by decide) (Nat.le_of_ble_eq_true rfl) (Nat.le_of_ble_eq_true rfl) (Nat.le_of_ble_eq_true rfl) dX8_init_15 (fun q_3 cA_4 H hK hP hD hS => ?_)
  have hP : va_P (dC, dI) vwCl [(h0, .inr (8, [.ref q_1, .int 0, .null])), (q_1, .inl (cA_2, 8, .inl (fun _ => 0))), (q_3, .inl (cA_4, 8, .inl (fun _ => 0)))] H := hP
  have hD : va_D A [(h0, .inr (8, [.ref q_1, .int 0, .null])), (q_1, .inl (cA_2, 8, .inl (fun _ => 0))), (q_3, .inl (cA_4, 8, .inl (fun _ => 0)))] := hD
  have hK : va_K (dC, dI) vwCl [(cA_2, .int), (cA_4, .int)] s := hK
  refine W.widen (k := 2) (n := 16) (Nat.le_of_ble_eq_true rfl) (Nat.le_of_ble_eq_true rfl) ?_
  refine va_putF (D := (dC, dI)) (ci := 8) (v := .ref q_3) (ty := .array .int) (C := RX8) (T := TX8) (N := 3) hx hb hT iX8 tyX8 tyX8_ok nmX8 hown hK hP hD hS 0 rfl rfl 2 (by decide) (hT _ w249) (fun _ h9 => h9) rfl hin rfl (by decide +kernel) rfl rfl (Nat.le_of_ble_eq_true rfl) dX8_init_17 (fun H locs hP hD hS => ?_)
  have hP : va_P (dC, dI) vwCl [(h0, .inr (8, [.ref q_1, .int 0, .ref q_3])), (q_1, .inl (cA_2, 8, .inl (fun _ => 0))), (q_3, .inl (cA_4, 8, .inl (fun _ => 0)))] H := hP
  have hD : va_D A [(h0, .inr (8, [.ref q_1, .int 0, .ref q_3])), (q_1, .inl (cA_2, 8, .inl (fun _ => 0))), (q_3, .inl (cA_4, 8, .inl (fun _ => 0)))] := hD
  refine W.widen (k := 2) (n := 16) (Nat.le_of_ble_eq_true rfl) (Nat.le_of_ble_eq_true rfl) ?_
  exact W.vret hx hb hr (fun t ht hW => ⟨⟨(), rfl, trivial, trivial⟩, hS.F ht⟩) hS.2.2 dX8_init_20

set_option maxHeartbeats 4000000 in
set_option maxRecDepth 100000 in
theorem k_Solver (l : Launch) (dC : Nat → ClassId) (dI : Nat → Nat → Nat) (h0 : Nat) (sz : Nat) : Met l yX9_init (wT yX9_init cX9_init 1 none) ({ frames := 1, cells := 9, slots := 464, locals := 12 }) (pcW dC dI [.ref h0] sz [(h0, .inr (9, [.null, .null, .int 0, .long 0, .null, .null, .null, .null, .null, .null, .null, .int 0, .int 0]))] []) (va_Qv (fun _ : Unit => True) (fun _ _ => True) (va_A [(h0, .inr (9, [.null, .null, .int 0, .long 0, .null, .null, .null, .null, .null, .null, .null, .int 0, .int 0]))] sz)) 9 464 (va_A [(h0, .inr (9, [.null, .null, .int 0, .long 0, .null, .null, .null, .null, .null, .null, .null, .int 0, .int 0]))] sz) := by
  refine Met.ofW (cc := cX9_init) (maxL := 1) (ret := none) (by decide) rfl ?_
  intro p e s m args below meth c s₁ B hml hv
  obtain ⟨rfl, hsz, hP, hK, hD0⟩ := hv
  have hx := B.exec
  have hb := B.bytes
  have hr := B.returns
  have hT : ∀ w ∈ TB, w.before [.ref h0].toArray s = true := fun w h => atoms_spec (ws := wT yX9_init cX9_init 1 none) B.pre w (List.mem_cons_of_mem _ h)
  have hown : s.vm.findClass RX9 = some m.cls := findClass_of_methodNamed B.named
  have hlocks := B.notSynchronized
  have hin : meth.name = "<init>" := (name_of_methodNamed B.named B.method).1
  subst hsz
  have hD := hD0.self (sz := s.heap.size)
  generalize hAe : va_A [(h0, .inr (9, [.null, .null, .int 0, .long 0, .null, .null, .null, .null, .null, .null, .null, .int 0, .int 0]))] s.heap.size = A at hD ⊢
  have hA : ∀ q : Nat, s.heap.size ≤ q → A q := fun q h => by rw [← hAe]; exact Or.inr h
  have hS : va_S A s.heap s.heap [] := va_S.rf
  have hP : va_P (dC, dI) vwCl [(h0, .inr (9, [.null, .null, .int 0, .long 0, .null, .null, .null, .null, .null, .null, .null, .int 0, .int 0]))] s.heap := hP
  have hl := lv_entry ([.ref h0]) (n := 1) (Nat.le_of_ble_eq_true rfl)
  rw [lg_entry_eq]
  generalize (lg_sl ([.ref h0]) ++ List.replicate (1 - (lg_sl ([.ref h0])).length) Slot.unset).toArray = ls at hl ⊢
  have hl : lv_has ls 1 [(0, .ref h0)] := hl
  refine lv_aload_n hx hb dX9_init_0 rfl (lv_at hl 0 rfl) ?_
  refine W.objInit hx hb hown (hT _ w262) (hT _ w28) (hT _ w29) rfl (by rw [hml]; exact hl.1) rfl dX9_init_1 (Nat.le_of_ble_eq_true rfl) (Nat.le_of_ble_eq_true rfl) ?_
  refine W.eq (g2 := F0 m 4 ls []) rfl ?_
  refine lv_aload_n hx hb dX9_init_4 rfl (lv_at hl 0 rfl) ?_
  refine lv_bipush (v := 64) hx hb dX9_init_5 (by decide) ?_
  refine va_newa (atype := .long) (ty := .long) (a0 := (64, .inr (.inl (fun _ => 0)))) (n := 64) (N' := 64) hx hb (hT _ w137) rfl hK hP hD hS hA (fun _ => rfl) (by decide) (by decide) (Nat.le_of_ble_eq_true rfl) (Nat.le_of_ble_eq_true rfl) (Nat.le_of_ble_eq_true rfl) dX9_init_7 (fun q_1 cA_2 H hK hP hD hS => ?_)
  have hP : va_P (dC, dI) vwCl [(h0, .inr (9, [.null, .null, .int 0, .long 0, .null, .null, .null, .null, .null, .null, .null, .int 0, .int 0])), (q_1, .inl (cA_2, 64, .inr (.inl (fun _ => 0))))] H := hP
  have hD : va_D A [(h0, .inr (9, [.null, .null, .int 0, .long 0, .null, .null, .null, .null, .null, .null, .null, .int 0, .int 0])), (q_1, .inl (cA_2, 64, .inr (.inl (fun _ => 0))))] := hD
  have hK : va_K (dC, dI) vwCl [(cA_2, .long)] s := hK
  refine W.widen (k := 1) (n := 64) (Nat.le_of_ble_eq_true rfl) (Nat.le_of_ble_eq_true rfl) ?_
  refine va_putF (D := (dC, dI)) (ci := 9) (v := .ref q_1) (ty := .array .long) (C := RX9) (T := TX9) (N := 13) hx hb hT iX9 tyX9 tyX9_ok nmX9 hown hK hP hD hS 0 rfl rfl 0 (by decide) (hT _ w263) (fun _ h9 => h9) rfl hin rfl (by decide +kernel) rfl rfl (Nat.le_of_ble_eq_true rfl) dX9_init_9 (fun H locs hP hD hS => ?_)
  have hP : va_P (dC, dI) vwCl [(h0, .inr (9, [.ref q_1, .null, .int 0, .long 0, .null, .null, .null, .null, .null, .null, .null, .int 0, .int 0])), (q_1, .inl (cA_2, 64, .inr (.inl (fun _ => 0))))] H := hP
  have hD : va_D A [(h0, .inr (9, [.ref q_1, .null, .int 0, .long 0, .null, .null, .null, .null, .null, .null, .null, .int 0, .int 0])), (q_1, .inl (cA_2, 64, .inr (.inl (fun _ => 0))))] := hD
  refine lv_aload_n hx hb dX9_init_12 rfl (lv_at hl 0 rfl) ?_
  refine lv_bipush (v := 64) hx hb dX9_init_13 (by decide) ?_
  refine va_newa (atype := .long) (ty := .long) (a0 := (64, .inr (.inl (fun _ => 0)))) (n := 64) (N' := 64) hx hb (hT _ w137) rfl hK hP hD hS hA (fun _ => rfl) (by decide) (by decide) (Nat.le_of_ble_eq_true rfl) (Nat.le_of_ble_eq_true rfl) (Nat.le_of_ble_eq_true rfl) dX9_init_15 (fun q_3 cA_4 H hK hP hD hS => ?_)
  have hP : va_P (dC, dI) vwCl [(h0, .inr (9, [.ref q_1, .null, .int 0, .long 0, .null, .null, .null, .null, .null, .null, .null, .int 0, .int 0])), (q_1, .inl (cA_2, 64, .inr (.inl (fun _ => 0)))), (q_3, .inl (cA_4, 64, .inr (.inl (fun _ => 0))))] H := hP
  have hD : va_D A [(h0, .inr (9, [.ref q_1, .null, .int 0, .long 0, .null, .null, .null, .null, .null, .null, .null, .int 0, .int 0])), (q_1, .inl (cA_2, 64, .inr (.inl (fun _ => 0)))), (q_3, .inl (cA_4, 64, .inr (.inl (fun _ => 0))))] := hD
  have hK : va_K (dC, dI) vwCl [(cA_2, .long), (cA_4, .long)] s := hK
  refine W.widen (k := 2) (n := 128) (Nat.le_of_ble_eq_true rfl) (Nat.le_of_ble_eq_true rfl) ?_
  refine va_putF (D := (dC, dI)) (ci := 9) (v := .ref q_3) (ty := .array .long) (C := RX9) (T := TX9) (N := 13) hx hb hT iX9 tyX9 tyX9_ok nmX9 hown hK hP hD hS 0 rfl rfl 1 (by decide) (hT _ w265) (fun _ h9 => h9) rfl hin rfl (by decide +kernel) rfl rfl (Nat.le_of_ble_eq_true rfl) dX9_init_17 (fun H locs hP hD hS => ?_)
  have hP : va_P (dC, dI) vwCl [(h0, .inr (9, [.ref q_1, .ref q_3, .int 0, .long 0, .null, .null, .null, .null, .null, .null, .null, .int 0, .int 0])), (q_1, .inl (cA_2, 64, .inr (.inl (fun _ => 0)))), (q_3, .inl (cA_4, 64, .inr (.inl (fun _ => 0))))] H := hP
  have hD : va_D A [(h0, .inr (9, [.ref q_1, .ref q_3, .int 0, .long 0, .null, .null, .null, .null, .null, .null, .null, .int 0, .int 0])), (q_1, .inl (cA_2, 64, .inr (.inl (fun _ => 0)))), (q_3, .inl (cA_4, 64, .inr (.inl (fun _ => 0))))] := hD
  refine lv_aload_n hx hb dX9_init_20 rfl (lv_at hl 0 rfl) ?_
  refine lv_bipush (v := 8) hx hb dX9_init_21 (by decide) ?_
  refine va_newa (atype := .long) (ty := .long) (a0 := (8, .inr (.inl (fun _ => 0)))) (n := 8) (N' := 8) hx hb (hT _ w137) rfl hK hP hD hS hA (fun _ => rfl) (by decide) (by decide) (Nat.le_of_ble_eq_true rfl) (Nat.le_of_ble_eq_true rfl) (Nat.le_of_ble_eq_true rfl) dX9_init_23 (fun q_5 cA_6 H hK hP hD hS => ?_)
  have hP : va_P (dC, dI) vwCl [(h0, .inr (9, [.ref q_1, .ref q_3, .int 0, .long 0, .null, .null, .null, .null, .null, .null, .null, .int 0, .int 0])), (q_1, .inl (cA_2, 64, .inr (.inl (fun _ => 0)))), (q_3, .inl (cA_4, 64, .inr (.inl (fun _ => 0)))), (q_5, .inl (cA_6, 8, .inr (.inl (fun _ => 0))))] H := hP
  have hD : va_D A [(h0, .inr (9, [.ref q_1, .ref q_3, .int 0, .long 0, .null, .null, .null, .null, .null, .null, .null, .int 0, .int 0])), (q_1, .inl (cA_2, 64, .inr (.inl (fun _ => 0)))), (q_3, .inl (cA_4, 64, .inr (.inl (fun _ => 0)))), (q_5, .inl (cA_6, 8, .inr (.inl (fun _ => 0))))] := hD
  have hK : va_K (dC, dI) vwCl [(cA_2, .long), (cA_4, .long), (cA_6, .long)] s := hK
  refine W.widen (k := 3) (n := 136) (Nat.le_of_ble_eq_true rfl) (Nat.le_of_ble_eq_true rfl) ?_
  refine va_putF (D := (dC, dI)) (ci := 9) (v := .ref q_5) (ty := .array .long) (C := RX9) (T := TX9) (N := 13) hx hb hT iX9 tyX9 tyX9_ok nmX9 hown hK hP hD hS 0 rfl rfl 4 (by decide) (hT _ w271) (fun _ h9 => h9) rfl hin rfl (by decide +kernel) rfl rfl (Nat.le_of_ble_eq_true rfl) dX9_init_25 (fun H locs hP hD hS => ?_)
  have hP : va_P (dC, dI) vwCl [(h0, .inr (9, [.ref q_1, .ref q_3, .int 0, .long 0, .ref q_5, .null, .null, .null, .null, .null, .null, .int 0, .int 0])), (q_1, .inl (cA_2, 64, .inr (.inl (fun _ => 0)))), (q_3, .inl (cA_4, 64, .inr (.inl (fun _ => 0)))), (q_5, .inl (cA_6, 8, .inr (.inl (fun _ => 0))))] H := hP
  have hD : va_D A [(h0, .inr (9, [.ref q_1, .ref q_3, .int 0, .long 0, .ref q_5, .null, .null, .null, .null, .null, .null, .int 0, .int 0])), (q_1, .inl (cA_2, 64, .inr (.inl (fun _ => 0)))), (q_3, .inl (cA_4, 64, .inr (.inl (fun _ => 0)))), (q_5, .inl (cA_6, 8, .inr (.inl (fun _ => 0))))] := hD
  refine lv_aload_n hx hb dX9_init_28 rfl (lv_at hl 0 rfl) ?_
  refine lv_bipush (v := 8) hx hb dX9_init_29 (by decide) ?_
  refine va_newa (atype := .long) (ty := .long) (a0 := (8, .inr (.inl (fun _ => 0)))) (n := 8) (N' := 8) hx hb (hT _ w137) rfl hK hP hD hS hA (fun _ => rfl) (by decide) (by decide) (Nat.le_of_ble_eq_true rfl) (Nat.le_of_ble_eq_true rfl) (Nat.le_of_ble_eq_true rfl) dX9_init_31 (fun q_7 cA_8 H hK hP hD hS => ?_)
  have hP : va_P (dC, dI) vwCl [(h0, .inr (9, [.ref q_1, .ref q_3, .int 0, .long 0, .ref q_5, .null, .null, .null, .null, .null, .null, .int 0, .int 0])), (q_1, .inl (cA_2, 64, .inr (.inl (fun _ => 0)))), (q_3, .inl (cA_4, 64, .inr (.inl (fun _ => 0)))), (q_5, .inl (cA_6, 8, .inr (.inl (fun _ => 0)))), (q_7, .inl (cA_8, 8, .inr (.inl (fun _ => 0))))] H := hP
  have hD : va_D A [(h0, .inr (9, [.ref q_1, .ref q_3, .int 0, .long 0, .ref q_5, .null, .null, .null, .null, .null, .null, .int 0, .int 0])), (q_1, .inl (cA_2, 64, .inr (.inl (fun _ => 0)))), (q_3, .inl (cA_4, 64, .inr (.inl (fun _ => 0)))), (q_5, .inl (cA_6, 8, .inr (.inl (fun _ => 0)))), (q_7, .inl (cA_8, 8, .inr (.inl (fun _ => 0))))] := hD
  have hK : va_K (dC, dI) vwCl [(cA_2, .long), (cA_4, .long), (cA_6, .long), (cA_8, .long)] s := hK
  refine W.widen (k := 4) (n := 144) (Nat.le_of_ble_eq_true rfl) (Nat.le_of_ble_eq_true rfl) ?_
  refine va_putF (D := (dC, dI)) (ci := 9) (v := .ref q_7) (ty := .array .long) (C := RX9) (T := TX9) (N := 13) hx hb hT iX9 tyX9 tyX9_ok nmX9 hown hK hP hD hS 0 rfl rfl 5 (by decide) (hT _ w272) (fun _ h9 => h9) rfl hin rfl (by decide +kernel) rfl rfl (Nat.le_of_ble_eq_true rfl) dX9_init_33 (fun H locs hP hD hS => ?_)
  have hP : va_P (dC, dI) vwCl [(h0, .inr (9, [.ref q_1, .ref q_3, .int 0, .long 0, .ref q_5, .ref q_7, .null, .null, .null, .null, .null, .int 0, .int 0])), (q_1, .inl (cA_2, 64, .inr (.inl (fun _ => 0)))), (q_3, .inl (cA_4, 64, .inr (.inl (fun _ => 0)))), (q_5, .inl (cA_6, 8, .inr (.inl (fun _ => 0)))), (q_7, .inl (cA_8, 8, .inr (.inl (fun _ => 0))))] H := hP
  have hD : va_D A [(h0, .inr (9, [.ref q_1, .ref q_3, .int 0, .long 0, .ref q_5, .ref q_7, .null, .null, .null, .null, .null, .int 0, .int 0])), (q_1, .inl (cA_2, 64, .inr (.inl (fun _ => 0)))), (q_3, .inl (cA_4, 64, .inr (.inl (fun _ => 0)))), (q_5, .inl (cA_6, 8, .inr (.inl (fun _ => 0)))), (q_7, .inl (cA_8, 8, .inr (.inl (fun _ => 0))))] := hD
  refine lv_aload_n hx hb dX9_init_36 rfl (lv_at hl 0 rfl) ?_
  refine lv_sipush (v := 256) hx hb dX9_init_37 (by decide) ?_
  refine va_newa (atype := .long) (ty := .long) (a0 := (256, .inr (.inl (fun _ => 0)))) (n := 256) (N' := 256) hx hb (hT _ w137) rfl hK hP hD hS hA (fun _ => rfl) (by decide) (by decide) (Nat.le_of_ble_eq_true rfl) (Nat.le_of_ble_eq_true rfl) (Nat.le_of_ble_eq_true rfl) dX9_init_40 (fun q_9 cA_10 H hK hP hD hS => ?_)
  have hP : va_P (dC, dI) vwCl [(h0, .inr (9, [.ref q_1, .ref q_3, .int 0, .long 0, .ref q_5, .ref q_7, .null, .null, .null, .null, .null, .int 0, .int 0])), (q_1, .inl (cA_2, 64, .inr (.inl (fun _ => 0)))), (q_3, .inl (cA_4, 64, .inr (.inl (fun _ => 0)))), (q_5, .inl (cA_6, 8, .inr (.inl (fun _ => 0)))), (q_7, .inl (cA_8, 8, .inr (.inl (fun _ => 0)))), (q_9, .inl (cA_10, 256, .inr (.inl (fun _ => 0))))] H := hP
  have hD : va_D A [(h0, .inr (9, [.ref q_1, .ref q_3, .int 0, .long 0, .ref q_5, .ref q_7, .null, .null, .null, .null, .null, .int 0, .int 0])), (q_1, .inl (cA_2, 64, .inr (.inl (fun _ => 0)))), (q_3, .inl (cA_4, 64, .inr (.inl (fun _ => 0)))), (q_5, .inl (cA_6, 8, .inr (.inl (fun _ => 0)))), (q_7, .inl (cA_8, 8, .inr (.inl (fun _ => 0)))), (q_9, .inl (cA_10, 256, .inr (.inl (fun _ => 0))))] := hD
  have hK : va_K (dC, dI) vwCl [(cA_2, .long), (cA_4, .long), (cA_6, .long), (cA_8, .long), (cA_10, .long)] s := hK
  refine W.widen (k := 5) (n := 400) (Nat.le_of_ble_eq_true rfl) (Nat.le_of_ble_eq_true rfl) ?_
  refine va_putF (D := (dC, dI)) (ci := 9) (v := .ref q_9) (ty := .array .long) (C := RX9) (T := TX9) (N := 13) hx hb hT iX9 tyX9 tyX9_ok nmX9 hown hK hP hD hS 0 rfl rfl 6 (by decide) (hT _ w273) (fun _ h9 => h9) rfl hin rfl (by decide +kernel) rfl rfl (Nat.le_of_ble_eq_true rfl) dX9_init_42 (fun H locs hP hD hS => ?_)
  have hP : va_P (dC, dI) vwCl [(h0, .inr (9, [.ref q_1, .ref q_3, .int 0, .long 0, .ref q_5, .ref q_7, .ref q_9, .null, .null, .null, .null, .int 0, .int 0])), (q_1, .inl (cA_2, 64, .inr (.inl (fun _ => 0)))), (q_3, .inl (cA_4, 64, .inr (.inl (fun _ => 0)))), (q_5, .inl (cA_6, 8, .inr (.inl (fun _ => 0)))), (q_7, .inl (cA_8, 8, .inr (.inl (fun _ => 0)))), (q_9, .inl (cA_10, 256, .inr (.inl (fun _ => 0))))] H := hP
  have hD : va_D A [(h0, .inr (9, [.ref q_1, .ref q_3, .int 0, .long 0, .ref q_5, .ref q_7, .ref q_9, .null, .null, .null, .null, .int 0, .int 0])), (q_1, .inl (cA_2, 64, .inr (.inl (fun _ => 0)))), (q_3, .inl (cA_4, 64, .inr (.inl (fun _ => 0)))), (q_5, .inl (cA_6, 8, .inr (.inl (fun _ => 0)))), (q_7, .inl (cA_8, 8, .inr (.inl (fun _ => 0)))), (q_9, .inl (cA_10, 256, .inr (.inl (fun _ => 0))))] := hD
  refine lv_aload_n hx hb dX9_init_45 rfl (lv_at hl 0 rfl) ?_
  refine lv_bipush (v := 16) hx hb dX9_init_46 (by decide) ?_
  refine va_newa (atype := .int) (ty := .int) (a0 := (16, .inl (fun _ => 0))) (n := 16) (N' := 16) hx hb (hT _ w77) rfl hK hP hD hS hA (fun _ => rfl) (by decide) (by decide) (Nat.le_of_ble_eq_true rfl) (Nat.le_of_ble_eq_true rfl) (Nat.le_of_ble_eq_true rfl) dX9_init_48 (fun q_11 cA_12 H hK hP hD hS => ?_)
  have hP : va_P (dC, dI) vwCl [(h0, .inr (9, [.ref q_1, .ref q_3, .int 0, .long 0, .ref q_5, .ref q_7, .ref q_9, .null, .null, .null, .null, .int 0, .int 0])), (q_1, .inl (cA_2, 64, .inr (.inl (fun _ => 0)))), (q_3, .inl (cA_4, 64, .inr (.inl (fun _ => 0)))), (q_5, .inl (cA_6, 8, .inr (.inl (fun _ => 0)))), (q_7, .inl (cA_8, 8, .inr (.inl (fun _ => 0)))), (q_9, .inl (cA_10, 256, .inr (.inl (fun _ => 0)))), (q_11, .inl (cA_12, 16, .inl (fun _ => 0)))] H := hP
  have hD : va_D A [(h0, .inr (9, [.ref q_1, .ref q_3, .int 0, .long 0, .ref q_5, .ref q_7, .ref q_9, .null, .null, .null, .null, .int 0, .int 0])), (q_1, .inl (cA_2, 64, .inr (.inl (fun _ => 0)))), (q_3, .inl (cA_4, 64, .inr (.inl (fun _ => 0)))), (q_5, .inl (cA_6, 8, .inr (.inl (fun _ => 0)))), (q_7, .inl (cA_8, 8, .inr (.inl (fun _ => 0)))), (q_9, .inl (cA_10, 256, .inr (.inl (fun _ => 0)))), (q_11, .inl (cA_12, 16, .inl (fun _ => 0)))] := hD
  have hK : va_K (dC, dI) vwCl [(cA_2, .long), (cA_4, .long), (cA_6, .long), (cA_8, .long), (cA_10, .long), (cA_12, .int)] s := hK
  refine W.widen (k := 6) (n := 416) (Nat.le_of_ble_eq_true rfl) (Nat.le_of_ble_eq_true rfl) ?_
  refine va_putF (D := (dC, dI)) (ci := 9) (v := .ref q_11) (ty := .array .int) (C := RX9) (T := TX9) (N := 13) hx hb hT iX9 tyX9 tyX9_ok nmX9 hown hK hP hD hS 0 rfl rfl 7 (by decide) (hT _ w274) (fun _ h9 => h9) rfl hin rfl (by decide +kernel) rfl rfl (Nat.le_of_ble_eq_true rfl) dX9_init_50 (fun H locs hP hD hS => ?_)
  have hP : va_P (dC, dI) vwCl [(h0, .inr (9, [.ref q_1, .ref q_3, .int 0, .long 0, .ref q_5, .ref q_7, .ref q_9, .ref q_11, .null, .null, .null, .int 0, .int 0])), (q_1, .inl (cA_2, 64, .inr (.inl (fun _ => 0)))), (q_3, .inl (cA_4, 64, .inr (.inl (fun _ => 0)))), (q_5, .inl (cA_6, 8, .inr (.inl (fun _ => 0)))), (q_7, .inl (cA_8, 8, .inr (.inl (fun _ => 0)))), (q_9, .inl (cA_10, 256, .inr (.inl (fun _ => 0)))), (q_11, .inl (cA_12, 16, .inl (fun _ => 0)))] H := hP
  have hD : va_D A [(h0, .inr (9, [.ref q_1, .ref q_3, .int 0, .long 0, .ref q_5, .ref q_7, .ref q_9, .ref q_11, .null, .null, .null, .int 0, .int 0])), (q_1, .inl (cA_2, 64, .inr (.inl (fun _ => 0)))), (q_3, .inl (cA_4, 64, .inr (.inl (fun _ => 0)))), (q_5, .inl (cA_6, 8, .inr (.inl (fun _ => 0)))), (q_7, .inl (cA_8, 8, .inr (.inl (fun _ => 0)))), (q_9, .inl (cA_10, 256, .inr (.inl (fun _ => 0)))), (q_11, .inl (cA_12, 16, .inl (fun _ => 0)))] := hD
  refine lv_aload_n hx hb dX9_init_53 rfl (lv_at hl 0 rfl) ?_
  refine lv_bipush (v := 16) hx hb dX9_init_54 (by decide) ?_
  refine va_newa (atype := .long) (ty := .long) (a0 := (16, .inr (.inl (fun _ => 0)))) (n := 16) (N' := 16) hx hb (hT _ w137) rfl hK hP hD hS hA (fun _ => rfl) (by decide) (by decide) (Nat.le_of_ble_eq_true rfl) (Nat.le_of_ble_eq_true rfl) (Nat.le_of_ble_eq_true rfl) dX9_init_56 (fun q_13 cA_14 H hK hP hD hS => ?_)
  have hP : va_P (dC, dI) vwCl [(h0, .inr (9, [.ref q_1, .ref q_3, .int 0, .long 0, .ref q_5, .ref q_7, .ref q_9, .ref q_11, .null, .null, .null, .int 0, .int 0])), (q_1, .inl (cA_2, 64, .inr (.inl (fun _ => 0)))), (q_3, .inl (cA_4, 64, .inr (.inl (fun _ => 0)))), (q_5, .inl (cA_6, 8, .inr (.inl (fun _ => 0)))), (q_7, .inl (cA_8, 8, .inr (.inl (fun _ => 0)))), (q_9, .inl (cA_10, 256, .inr (.inl (fun _ => 0)))), (q_11, .inl (cA_12, 16, .inl (fun _ => 0))), (q_13, .inl (cA_14, 16, .inr (.inl (fun _ => 0))))] H := hP
  have hD : va_D A [(h0, .inr (9, [.ref q_1, .ref q_3, .int 0, .long 0, .ref q_5, .ref q_7, .ref q_9, .ref q_11, .null, .null, .null, .int 0, .int 0])), (q_1, .inl (cA_2, 64, .inr (.inl (fun _ => 0)))), (q_3, .inl (cA_4, 64, .inr (.inl (fun _ => 0)))), (q_5, .inl (cA_6, 8, .inr (.inl (fun _ => 0)))), (q_7, .inl (cA_8, 8, .inr (.inl (fun _ => 0)))), (q_9, .inl (cA_10, 256, .inr (.inl (fun _ => 0)))), (q_11, .inl (cA_12, 16, .inl (fun _ => 0))), (q_13, .inl (cA_14, 16, .inr (.inl (fun _ => 0))))] := hD
  have hK : va_K (dC, dI) vwCl [(cA_2, .long), (cA_4, .long), (cA_6, .long), (cA_8, .long), (cA_10, .long), (cA_12, .int), (cA_14, .long)] s := hK
  refine W.widen (k := 7) (n := 432) (Nat.le_of_ble_eq_true rfl) (Nat.le_of_ble_eq_true rfl) ?_
  refine va_putF (D := (dC, dI)) (ci := 9) (v := .ref q_13) (ty := .array .long) (C := RX9) (T := TX9) (N := 13) hx hb hT iX9 tyX9 tyX9_ok nmX9 hown hK hP hD hS 0 rfl rfl 8 (by decide) (hT _ w275) (fun _ h9 => h9) rfl hin rfl (by decide +kernel) rfl rfl (Nat.le_of_ble_eq_true rfl) dX9_init_58 (fun H locs hP hD hS => ?_)
  have hP : va_P (dC, dI) vwCl [(h0, .inr (9, [.ref q_1, .ref q_3, .int 0, .long 0, .ref q_5, .ref q_7, .ref q_9, .ref q_11, .ref q_13, .null, .null, .int 0, .int 0])), (q_1, .inl (cA_2, 64, .inr (.inl (fun _ => 0)))), (q_3, .inl (cA_4, 64, .inr (.inl (fun _ => 0)))), (q_5, .inl (cA_6, 8, .inr (.inl (fun _ => 0)))), (q_7, .inl (cA_8, 8, .inr (.inl (fun _ => 0)))), (q_9, .inl (cA_10, 256, .inr (.inl (fun _ => 0)))), (q_11, .inl (cA_12, 16, .inl (fun _ => 0))), (q_13, .inl (cA_14, 16, .inr (.inl (fun _ => 0))))] H := hP
  have hD : va_D A [(h0, .inr (9, [.ref q_1, .ref q_3, .int 0, .long 0, .ref q_5, .ref q_7, .ref q_9, .ref q_11, .ref q_13, .null, .null, .int 0, .int 0])), (q_1, .inl (cA_2, 64, .inr (.inl (fun _ => 0)))), (q_3, .inl (cA_4, 64, .inr (.inl (fun _ => 0)))), (q_5, .inl (cA_6, 8, .inr (.inl (fun _ => 0)))), (q_7, .inl (cA_8, 8, .inr (.inl (fun _ => 0)))), (q_9, .inl (cA_10, 256, .inr (.inl (fun _ => 0)))), (q_11, .inl (cA_12, 16, .inl (fun _ => 0))), (q_13, .inl (cA_14, 16, .inr (.inl (fun _ => 0))))] := hD
  refine lv_aload_n hx hb dX9_init_61 rfl (lv_at hl 0 rfl) ?_
  refine lv_bipush (v := 16) hx hb dX9_init_62 (by decide) ?_
  refine va_newa (atype := .int) (ty := .int) (a0 := (16, .inl (fun _ => 0))) (n := 16) (N' := 16) hx hb (hT _ w77) rfl hK hP hD hS hA (fun _ => rfl) (by decide) (by decide) (Nat.le_of_ble_eq_true rfl) (Nat.le_of_ble_eq_true rfl) (Nat.le_of_ble_eq_true rfl) dX9_init_64 (fun q_15 cA_16 H hK hP hD hS => ?_)
  have hP : va_P (dC, dI) vwCl [(h0, .inr (9, [.ref q_1, .ref q_3, .int 0, .long 0, .ref q_5, .ref q_7, .ref q_9, .ref q_11, .ref q_13, .null, .null, .int 0, .int 0])), (q_1, .inl (cA_2, 64, .inr (.inl (fun _ => 0)))), (q_3, .inl (cA_4, 64, .inr (.inl (fun _ => 0)))), (q_5, .inl (cA_6, 8, .inr (.inl (fun _ => 0)))), (q_7, .inl (cA_8, 8, .inr (.inl (fun _ => 0)))), (q_9, .inl (cA_10, 256, .inr (.inl (fun _ => 0)))), (q_11, .inl (cA_12, 16, .inl (fun _ => 0))), (q_13, .inl (cA_14, 16, .inr (.inl (fun _ => 0)))), (q_15, .inl (cA_16, 16, .inl (fun _ => 0)))] H := hP
  have hD : va_D A [(h0, .inr (9, [.ref q_1, .ref q_3, .int 0, .long 0, .ref q_5, .ref q_7, .ref q_9, .ref q_11, .ref q_13, .null, .null, .int 0, .int 0])), (q_1, .inl (cA_2, 64, .inr (.inl (fun _ => 0)))), (q_3, .inl (cA_4, 64, .inr (.inl (fun _ => 0)))), (q_5, .inl (cA_6, 8, .inr (.inl (fun _ => 0)))), (q_7, .inl (cA_8, 8, .inr (.inl (fun _ => 0)))), (q_9, .inl (cA_10, 256, .inr (.inl (fun _ => 0)))), (q_11, .inl (cA_12, 16, .inl (fun _ => 0))), (q_13, .inl (cA_14, 16, .inr (.inl (fun _ => 0)))), (q_15, .inl (cA_16, 16, .inl (fun _ => 0)))] := hD
  have hK : va_K (dC, dI) vwCl [(cA_2, .long), (cA_4, .long), (cA_6, .long), (cA_8, .long), (cA_10, .long), (cA_12, .int), (cA_14, .long), (cA_16, .int)] s := hK
  refine W.widen (k := 8) (n := 448) (Nat.le_of_ble_eq_true rfl) (Nat.le_of_ble_eq_true rfl) ?_
  refine va_putF (D := (dC, dI)) (ci := 9) (v := .ref q_15) (ty := .array .int) (C := RX9) (T := TX9) (N := 13) hx hb hT iX9 tyX9 tyX9_ok nmX9 hown hK hP hD hS 0 rfl rfl 9 (by decide) (hT _ w276) (fun _ h9 => h9) rfl hin rfl (by decide +kernel) rfl rfl (Nat.le_of_ble_eq_true rfl) dX9_init_66 (fun H locs hP hD hS => ?_)
  have hP : va_P (dC, dI) vwCl [(h0, .inr (9, [.ref q_1, .ref q_3, .int 0, .long 0, .ref q_5, .ref q_7, .ref q_9, .ref q_11, .ref q_13, .ref q_15, .null, .int 0, .int 0])), (q_1, .inl (cA_2, 64, .inr (.inl (fun _ => 0)))), (q_3, .inl (cA_4, 64, .inr (.inl (fun _ => 0)))), (q_5, .inl (cA_6, 8, .inr (.inl (fun _ => 0)))), (q_7, .inl (cA_8, 8, .inr (.inl (fun _ => 0)))), (q_9, .inl (cA_10, 256, .inr (.inl (fun _ => 0)))), (q_11, .inl (cA_12, 16, .inl (fun _ => 0))), (q_13, .inl (cA_14, 16, .inr (.inl (fun _ => 0)))), (q_15, .inl (cA_16, 16, .inl (fun _ => 0)))] H := hP
  have hD : va_D A [(h0, .inr (9, [.ref q_1, .ref q_3, .int 0, .long 0, .ref q_5, .ref q_7, .ref q_9, .ref q_11, .ref q_13, .ref q_15, .null, .int 0, .int 0])), (q_1, .inl (cA_2, 64, .inr (.inl (fun _ => 0)))), (q_3, .inl (cA_4, 64, .inr (.inl (fun _ => 0)))), (q_5, .inl (cA_6, 8, .inr (.inl (fun _ => 0)))), (q_7, .inl (cA_8, 8, .inr (.inl (fun _ => 0)))), (q_9, .inl (cA_10, 256, .inr (.inl (fun _ => 0)))), (q_11, .inl (cA_12, 16, .inl (fun _ => 0))), (q_13, .inl (cA_14, 16, .inr (.inl (fun _ => 0)))), (q_15, .inl (cA_16, 16, .inl (fun _ => 0)))] := hD
  refine lv_aload_n hx hb dX9_init_69 rfl (lv_at hl 0 rfl) ?_
  refine lv_bipush (v := 16) hx hb dX9_init_70 (by decide) ?_
  refine va_newa (atype := .int) (ty := .int) (a0 := (16, .inl (fun _ => 0))) (n := 16) (N' := 16) hx hb (hT _ w77) rfl hK hP hD hS hA (fun _ => rfl) (by decide) (by decide) (Nat.le_of_ble_eq_true rfl) (Nat.le_of_ble_eq_true rfl) (Nat.le_of_ble_eq_true rfl) dX9_init_72 (fun q_17 cA_18 H hK hP hD hS => ?_)
  have hP : va_P (dC, dI) vwCl [(h0, .inr (9, [.ref q_1, .ref q_3, .int 0, .long 0, .ref q_5, .ref q_7, .ref q_9, .ref q_11, .ref q_13, .ref q_15, .null, .int 0, .int 0])), (q_1, .inl (cA_2, 64, .inr (.inl (fun _ => 0)))), (q_3, .inl (cA_4, 64, .inr (.inl (fun _ => 0)))), (q_5, .inl (cA_6, 8, .inr (.inl (fun _ => 0)))), (q_7, .inl (cA_8, 8, .inr (.inl (fun _ => 0)))), (q_9, .inl (cA_10, 256, .inr (.inl (fun _ => 0)))), (q_11, .inl (cA_12, 16, .inl (fun _ => 0))), (q_13, .inl (cA_14, 16, .inr (.inl (fun _ => 0)))), (q_15, .inl (cA_16, 16, .inl (fun _ => 0))), (q_17, .inl (cA_18, 16, .inl (fun _ => 0)))] H := hP
  have hD : va_D A [(h0, .inr (9, [.ref q_1, .ref q_3, .int 0, .long 0, .ref q_5, .ref q_7, .ref q_9, .ref q_11, .ref q_13, .ref q_15, .null, .int 0, .int 0])), (q_1, .inl (cA_2, 64, .inr (.inl (fun _ => 0)))), (q_3, .inl (cA_4, 64, .inr (.inl (fun _ => 0)))), (q_5, .inl (cA_6, 8, .inr (.inl (fun _ => 0)))), (q_7, .inl (cA_8, 8, .inr (.inl (fun _ => 0)))), (q_9, .inl (cA_10, 256, .inr (.inl (fun _ => 0)))), (q_11, .inl (cA_12, 16, .inl (fun _ => 0))), (q_13, .inl (cA_14, 16, .inr (.inl (fun _ => 0)))), (q_15, .inl (cA_16, 16, .inl (fun _ => 0))), (q_17, .inl (cA_18, 16, .inl (fun _ => 0)))] := hD
  have hK : va_K (dC, dI) vwCl [(cA_2, .long), (cA_4, .long), (cA_6, .long), (cA_8, .long), (cA_10, .long), (cA_12, .int), (cA_14, .long), (cA_16, .int), (cA_18, .int)] s := hK
  refine W.widen (k := 9) (n := 464) (Nat.le_of_ble_eq_true rfl) (Nat.le_of_ble_eq_true rfl) ?_
  refine va_putF (D := (dC, dI)) (ci := 9) (v := .ref q_17) (ty := .array .int) (C := RX9) (T := TX9) (N := 13) hx hb hT iX9 tyX9 tyX9_ok nmX9 hown hK hP hD hS 0 rfl rfl 10 (by decide) (hT _ w277) (fun _ h9 => h9) rfl hin rfl (by decide +kernel) rfl rfl (Nat.le_of_ble_eq_true rfl) dX9_init_74 (fun H locs hP hD hS => ?_)
  have hP : va_P (dC, dI) vwCl [(h0, .inr (9, [.ref q_1, .ref q_3, .int 0, .long 0, .ref q_5, .ref q_7, .ref q_9, .ref q_11, .ref q_13, .ref q_15, .ref q_17, .int 0, .int 0])), (q_1, .inl (cA_2, 64, .inr (.inl (fun _ => 0)))), (q_3, .inl (cA_4, 64, .inr (.inl (fun _ => 0)))), (q_5, .inl (cA_6, 8, .inr (.inl (fun _ => 0)))), (q_7, .inl (cA_8, 8, .inr (.inl (fun _ => 0)))), (q_9, .inl (cA_10, 256, .inr (.inl (fun _ => 0)))), (q_11, .inl (cA_12, 16, .inl (fun _ => 0))), (q_13, .inl (cA_14, 16, .inr (.inl (fun _ => 0)))), (q_15, .inl (cA_16, 16, .inl (fun _ => 0))), (q_17, .inl (cA_18, 16, .inl (fun _ => 0)))] H := hP
  have hD : va_D A [(h0, .inr (9, [.ref q_1, .ref q_3, .int 0, .long 0, .ref q_5, .ref q_7, .ref q_9, .ref q_11, .ref q_13, .ref q_15, .ref q_17, .int 0, .int 0])), (q_1, .inl (cA_2, 64, .inr (.inl (fun _ => 0)))), (q_3, .inl (cA_4, 64, .inr (.inl (fun _ => 0)))), (q_5, .inl (cA_6, 8, .inr (.inl (fun _ => 0)))), (q_7, .inl (cA_8, 8, .inr (.inl (fun _ => 0)))), (q_9, .inl (cA_10, 256, .inr (.inl (fun _ => 0)))), (q_11, .inl (cA_12, 16, .inl (fun _ => 0))), (q_13, .inl (cA_14, 16, .inr (.inl (fun _ => 0)))), (q_15, .inl (cA_16, 16, .inl (fun _ => 0))), (q_17, .inl (cA_18, 16, .inl (fun _ => 0)))] := hD
  refine W.widen (k := 9) (n := 464) (Nat.le_of_ble_eq_true rfl) (Nat.le_of_ble_eq_true rfl) ?_
  exact W.vret hx hb hr (fun t ht hW => ⟨⟨(), rfl, trivial, trivial⟩, hS.F ht⟩) hS.2.2 dX9_init_77

set_option maxHeartbeats 4000000 in
set_option maxRecDepth 100000 in
theorem k_Groups (l : Launch) (dC : Nat → ClassId) (dI : Nat → Nat → Nat) (h0 : Nat) (sz : Nat) : Met l yX2_init (wT yX2_init cX2_init 1 none) ({ frames := 1, cells := 3, slots := 520, locals := 12 }) (pcW dC dI [.ref h0] sz [(h0, .inr (2, [.int 0, .int 0, .null, .null, .null]))] []) (va_Qv (fun _ : Unit => True) (fun _ _ => True) (va_A [(h0, .inr (2, [.int 0, .int 0, .null, .null, .null]))] sz)) 3 520 (va_A [(h0, .inr (2, [.int 0, .int 0, .null, .null, .null]))] sz) := by
  refine Met.ofW (cc := cX2_init) (maxL := 1) (ret := none) (by decide) rfl ?_
  intro p e s m args below meth c s₁ B hml hv
  obtain ⟨rfl, hsz, hP, hK, hD0⟩ := hv
  have hx := B.exec
  have hb := B.bytes
  have hr := B.returns
  have hT : ∀ w ∈ TB, w.before [.ref h0].toArray s = true := fun w h => atoms_spec (ws := wT yX2_init cX2_init 1 none) B.pre w (List.mem_cons_of_mem _ h)
  have hown : s.vm.findClass RX2 = some m.cls := findClass_of_methodNamed B.named
  have hlocks := B.notSynchronized
  have hin : meth.name = "<init>" := (name_of_methodNamed B.named B.method).1
  subst hsz
  have hD := hD0.self (sz := s.heap.size)
  generalize hAe : va_A [(h0, .inr (2, [.int 0, .int 0, .null, .null, .null]))] s.heap.size = A at hD ⊢
  have hA : ∀ q : Nat, s.heap.size ≤ q → A q := fun q h => by rw [← hAe]; exact Or.inr h
  have hS : va_S A s.heap s.heap [] := va_S.rf
  have hP : va_P (dC, dI) vwCl [(h0, .inr (2, [.int 0, .int 0, .null, .null, .null]))] s.heap := hP
  have hl := lv_entry ([.ref h0]) (n := 1) (Nat.le_of_ble_eq_true rfl)
  rw [lg_entry_eq]
  generalize (lg_sl ([.ref h0]) ++ List.replicate (1 - (lg_sl ([.ref h0])).length) Slot.unset).toArray = ls at hl ⊢
  have hl : lv_has ls 1 [(0, .ref h0)] := hl
  refine lv_aload_n hx hb dX2_init_0 rfl (lv_at hl 0 rfl) ?_
  refine W.objInit hx hb hown (hT _ w312) (hT _ w28) (hT _ w29) rfl (by rw [hml]; exact hl.1) rfl dX2_init_1 (Nat.le_of_ble_eq_true rfl) (Nat.le_of_ble_eq_true rfl) ?_
  refine W.eq (g2 := F0 m 4 ls []) rfl ?_
  refine lv_aload_n hx hb dX2_init_4 rfl (lv_at hl 0 rfl) ?_
  refine lv_bipush (v := 8) hx hb dX2_init_5 (by decide) ?_
  refine va_newa (atype := .long) (ty := .long) (a0 := (8, .inr (.inl (fun _ => 0)))) (n := 8) (N' := 8) hx hb (hT _ w137) rfl hK hP hD hS hA (fun _ => rfl) (by decide) (by decide) (Nat.le_of_ble_eq_true rfl) (Nat.le_of_ble_eq_true rfl) (Nat.le_of_ble_eq_true rfl) dX2_init_7 (fun q_1 cA_2 H hK hP hD hS => ?_)
  have hP : va_P (dC, dI) vwCl [(h0, .inr (2, [.int 0, .int 0, .null, .null, .null])), (q_1, .inl (cA_2, 8, .inr (.inl (fun _ => 0))))] H := hP
  have hD : va_D A [(h0, .inr (2, [.int 0, .int 0, .null, .null, .null])), (q_1, .inl (cA_2, 8, .inr (.inl (fun _ => 0))))] := hD
  have hK : va_K (dC, dI) vwCl [(cA_2, .long)] s := hK
  refine W.widen (k := 1) (n := 8) (Nat.le_of_ble_eq_true rfl) (Nat.le_of_ble_eq_true rfl) ?_
  refine va_putF (D := (dC, dI)) (ci := 2) (v := .ref q_1) (ty := .array .long) (C := RX2) (T := TX2) (N := 5) hx hb hT iX2 tyX2 tyX2_ok nmX2 hown hK hP hD hS 0 rfl rfl 2 (by decide) (hT _ w317) (fun _ h9 => h9) rfl hin rfl (by decide +kernel) rfl rfl (Nat.le_of_ble_eq_true rfl) dX2_init_9 (fun H locs hP hD hS => ?_)
  have hP : va_P (dC, dI) vwCl [(h0, .inr (2, [.int 0, .int 0, .ref q_1, .null, .null])), (q_1, .inl (cA_2, 8, .inr (.inl (fun _ => 0))))] H := hP
  have hD : va_D A [(h0, .inr (2, [.int 0, .int 0, .ref q_1, .null, .null])), (q_1, .inl (cA_2, 8, .inr (.inl (fun _ => 0))))] := hD
  refine lv_aload_n hx hb dX2_init_12 rfl (lv_at hl 0 rfl) ?_
  refine lv_sipush (v := 256) hx hb dX2_init_13 (by decide) ?_
  refine va_newa (atype := .long) (ty := .long) (a0 := (256, .inr (.inl (fun _ => 0)))) (n := 256) (N' := 256) hx hb (hT _ w137) rfl hK hP hD hS hA (fun _ => rfl) (by decide) (by decide) (Nat.le_of_ble_eq_true rfl) (Nat.le_of_ble_eq_true rfl) (Nat.le_of_ble_eq_true rfl) dX2_init_16 (fun q_3 cA_4 H hK hP hD hS => ?_)
  have hP : va_P (dC, dI) vwCl [(h0, .inr (2, [.int 0, .int 0, .ref q_1, .null, .null])), (q_1, .inl (cA_2, 8, .inr (.inl (fun _ => 0)))), (q_3, .inl (cA_4, 256, .inr (.inl (fun _ => 0))))] H := hP
  have hD : va_D A [(h0, .inr (2, [.int 0, .int 0, .ref q_1, .null, .null])), (q_1, .inl (cA_2, 8, .inr (.inl (fun _ => 0)))), (q_3, .inl (cA_4, 256, .inr (.inl (fun _ => 0))))] := hD
  have hK : va_K (dC, dI) vwCl [(cA_2, .long), (cA_4, .long)] s := hK
  refine W.widen (k := 2) (n := 264) (Nat.le_of_ble_eq_true rfl) (Nat.le_of_ble_eq_true rfl) ?_
  refine va_putF (D := (dC, dI)) (ci := 2) (v := .ref q_3) (ty := .array .long) (C := RX2) (T := TX2) (N := 5) hx hb hT iX2 tyX2 tyX2_ok nmX2 hown hK hP hD hS 0 rfl rfl 3 (by decide) (hT _ w318) (fun _ h9 => h9) rfl hin rfl (by decide +kernel) rfl rfl (Nat.le_of_ble_eq_true rfl) dX2_init_18 (fun H locs hP hD hS => ?_)
  have hP : va_P (dC, dI) vwCl [(h0, .inr (2, [.int 0, .int 0, .ref q_1, .ref q_3, .null])), (q_1, .inl (cA_2, 8, .inr (.inl (fun _ => 0)))), (q_3, .inl (cA_4, 256, .inr (.inl (fun _ => 0))))] H := hP
  have hD : va_D A [(h0, .inr (2, [.int 0, .int 0, .ref q_1, .ref q_3, .null])), (q_1, .inl (cA_2, 8, .inr (.inl (fun _ => 0)))), (q_3, .inl (cA_4, 256, .inr (.inl (fun _ => 0))))] := hD
  refine lv_aload_n hx hb dX2_init_21 rfl (lv_at hl 0 rfl) ?_
  refine lv_sipush (v := 256) hx hb dX2_init_22 (by decide) ?_
  refine va_newa (atype := .int) (ty := .int) (a0 := (256, .inl (fun _ => 0))) (n := 256) (N' := 256) hx hb (hT _ w77) rfl hK hP hD hS hA (fun _ => rfl) (by decide) (by decide) (Nat.le_of_ble_eq_true rfl) (Nat.le_of_ble_eq_true rfl) (Nat.le_of_ble_eq_true rfl) dX2_init_25 (fun q_5 cA_6 H hK hP hD hS => ?_)
  have hP : va_P (dC, dI) vwCl [(h0, .inr (2, [.int 0, .int 0, .ref q_1, .ref q_3, .null])), (q_1, .inl (cA_2, 8, .inr (.inl (fun _ => 0)))), (q_3, .inl (cA_4, 256, .inr (.inl (fun _ => 0)))), (q_5, .inl (cA_6, 256, .inl (fun _ => 0)))] H := hP
  have hD : va_D A [(h0, .inr (2, [.int 0, .int 0, .ref q_1, .ref q_3, .null])), (q_1, .inl (cA_2, 8, .inr (.inl (fun _ => 0)))), (q_3, .inl (cA_4, 256, .inr (.inl (fun _ => 0)))), (q_5, .inl (cA_6, 256, .inl (fun _ => 0)))] := hD
  have hK : va_K (dC, dI) vwCl [(cA_2, .long), (cA_4, .long), (cA_6, .int)] s := hK
  refine W.widen (k := 3) (n := 520) (Nat.le_of_ble_eq_true rfl) (Nat.le_of_ble_eq_true rfl) ?_
  refine va_putF (D := (dC, dI)) (ci := 2) (v := .ref q_5) (ty := .array .int) (C := RX2) (T := TX2) (N := 5) hx hb hT iX2 tyX2 tyX2_ok nmX2 hown hK hP hD hS 0 rfl rfl 4 (by decide) (hT _ w319) (fun _ h9 => h9) rfl hin rfl (by decide +kernel) rfl rfl (Nat.le_of_ble_eq_true rfl) dX2_init_27 (fun H locs hP hD hS => ?_)
  have hP : va_P (dC, dI) vwCl [(h0, .inr (2, [.int 0, .int 0, .ref q_1, .ref q_3, .ref q_5])), (q_1, .inl (cA_2, 8, .inr (.inl (fun _ => 0)))), (q_3, .inl (cA_4, 256, .inr (.inl (fun _ => 0)))), (q_5, .inl (cA_6, 256, .inl (fun _ => 0)))] H := hP
  have hD : va_D A [(h0, .inr (2, [.int 0, .int 0, .ref q_1, .ref q_3, .ref q_5])), (q_1, .inl (cA_2, 8, .inr (.inl (fun _ => 0)))), (q_3, .inl (cA_4, 256, .inr (.inl (fun _ => 0)))), (q_5, .inl (cA_6, 256, .inl (fun _ => 0)))] := hD
  refine W.widen (k := 3) (n := 520) (Nat.le_of_ble_eq_true rfl) (Nat.le_of_ble_eq_true rfl) ?_
  exact W.vret hx hb hr (fun t ht hW => ⟨⟨(), rfl, trivial, trivial⟩, hS.F ht⟩) hS.2.2 dX2_init_30

set_option maxHeartbeats 4000000 in
set_option maxRecDepth 100000 in
theorem k_Page (l : Launch) (dC : Nat → ClassId) (dI : Nat → Nat → Nat) (h0 : Nat) (sz : Nat) : Met l yX4_init (wT yX4_init cX4_init 1 none) ({ frames := 1, cells := 2, slots := 83, locals := 12 }) (pcW dC dI [.ref h0] sz [(h0, .inr (4, [.null, .int 0, .null]))] []) (va_Qv (fun _ : Unit => True) (fun _ _ => True) (va_A [(h0, .inr (4, [.null, .int 0, .null]))] sz)) 2 83 (va_A [(h0, .inr (4, [.null, .int 0, .null]))] sz) := by
  refine Met.ofW (cc := cX4_init) (maxL := 1) (ret := none) (by decide) rfl ?_
  intro p e s m args below meth c s₁ B hml hv
  obtain ⟨rfl, hsz, hP, hK, hD0⟩ := hv
  have hx := B.exec
  have hb := B.bytes
  have hr := B.returns
  have hT : ∀ w ∈ TB, w.before [.ref h0].toArray s = true := fun w h => atoms_spec (ws := wT yX4_init cX4_init 1 none) B.pre w (List.mem_cons_of_mem _ h)
  have hown : s.vm.findClass RX4 = some m.cls := findClass_of_methodNamed B.named
  have hlocks := B.notSynchronized
  have hin : meth.name = "<init>" := (name_of_methodNamed B.named B.method).1
  subst hsz
  have hD := hD0.self (sz := s.heap.size)
  generalize hAe : va_A [(h0, .inr (4, [.null, .int 0, .null]))] s.heap.size = A at hD ⊢
  have hA : ∀ q : Nat, s.heap.size ≤ q → A q := fun q h => by rw [← hAe]; exact Or.inr h
  have hS : va_S A s.heap s.heap [] := va_S.rf
  have hP : va_P (dC, dI) vwCl [(h0, .inr (4, [.null, .int 0, .null]))] s.heap := hP
  have hl := lv_entry ([.ref h0]) (n := 1) (Nat.le_of_ble_eq_true rfl)
  rw [lg_entry_eq]
  generalize (lg_sl ([.ref h0]) ++ List.replicate (1 - (lg_sl ([.ref h0])).length) Slot.unset).toArray = ls at hl ⊢
  have hl : lv_has ls 1 [(0, .ref h0)] := hl
  refine lv_aload_n hx hb dX4_init_0 rfl (lv_at hl 0 rfl) ?_
  refine W.objInit hx hb hown (hT _ w336) (hT _ w28) (hT _ w29) rfl (by rw [hml]; exact hl.1) rfl dX4_init_1 (Nat.le_of_ble_eq_true rfl) (Nat.le_of_ble_eq_true rfl) ?_
  refine W.eq (g2 := F0 m 4 ls []) rfl ?_
  refine lv_aload_n hx hb dX4_init_4 rfl (lv_at hl 0 rfl) ?_
  refine lv_bipush (v := 64) hx hb dX4_init_5 (by decide) ?_
  refine va_newa (atype := .byte) (ty := .byte) (a0 := (64, .inl (fun _ => 0))) (n := 64) (N' := 64) hx hb (hT _ w45) rfl hK hP hD hS hA (fun _ => rfl) (by decide) (by decide) (Nat.le_of_ble_eq_true rfl) (Nat.le_of_ble_eq_true rfl) (Nat.le_of_ble_eq_true rfl) dX4_init_7 (fun q_1 cA_2 H hK hP hD hS => ?_)
  have hP : va_P (dC, dI) vwCl [(h0, .inr (4, [.null, .int 0, .null])), (q_1, .inl (cA_2, 64, .inl (fun _ => 0)))] H := hP
  have hD : va_D A [(h0, .inr (4, [.null, .int 0, .null])), (q_1, .inl (cA_2, 64, .inl (fun _ => 0)))] := hD
  have hK : va_K (dC, dI) vwCl [(cA_2, .byte)] s := hK
  refine W.widen (k := 1) (n := 64) (Nat.le_of_ble_eq_true rfl) (Nat.le_of_ble_eq_true rfl) ?_
  refine va_putF (D := (dC, dI)) (ci := 4) (v := .ref q_1) (ty := .array .byte) (C := RX4) (T := TX4) (N := 3) hx hb hT iX4 tyX4 tyX4_ok nmX4 hown hK hP hD hS 0 rfl rfl 0 (by decide) (hT _ w337) (fun _ h9 => h9) rfl hin rfl (by decide +kernel) rfl rfl (Nat.le_of_ble_eq_true rfl) dX4_init_9 (fun H locs hP hD hS => ?_)
  have hP : va_P (dC, dI) vwCl [(h0, .inr (4, [.ref q_1, .int 0, .null])), (q_1, .inl (cA_2, 64, .inl (fun _ => 0)))] H := hP
  have hD : va_D A [(h0, .inr (4, [.ref q_1, .int 0, .null])), (q_1, .inl (cA_2, 64, .inl (fun _ => 0)))] := hD
  refine lv_aload_n hx hb dX4_init_12 rfl (lv_at hl 0 rfl) ?_
  refine lv_bipush (v := 19) hx hb dX4_init_13 (by decide) ?_
  refine va_newa (atype := .byte) (ty := .byte) (a0 := (19, .inl (fun _ => 0))) (n := 19) (N' := 19) hx hb (hT _ w45) rfl hK hP hD hS hA (fun _ => rfl) (by decide) (by decide) (Nat.le_of_ble_eq_true rfl) (Nat.le_of_ble_eq_true rfl) (Nat.le_of_ble_eq_true rfl) dX4_init_15 (fun q_3 cA_4 H hK hP hD hS => ?_)
  have hP : va_P (dC, dI) vwCl [(h0, .inr (4, [.ref q_1, .int 0, .null])), (q_1, .inl (cA_2, 64, .inl (fun _ => 0))), (q_3, .inl (cA_4, 19, .inl (fun _ => 0)))] H := hP
  have hD : va_D A [(h0, .inr (4, [.ref q_1, .int 0, .null])), (q_1, .inl (cA_2, 64, .inl (fun _ => 0))), (q_3, .inl (cA_4, 19, .inl (fun _ => 0)))] := hD
  have hK : va_K (dC, dI) vwCl [(cA_2, .byte), (cA_4, .byte)] s := hK
  refine W.widen (k := 2) (n := 83) (Nat.le_of_ble_eq_true rfl) (Nat.le_of_ble_eq_true rfl) ?_
  refine va_putF (D := (dC, dI)) (ci := 4) (v := .ref q_3) (ty := .array .byte) (C := RX4) (T := TX4) (N := 3) hx hb hT iX4 tyX4 tyX4_ok nmX4 hown hK hP hD hS 0 rfl rfl 2 (by decide) (hT _ w341) (fun _ h9 => h9) rfl hin rfl (by decide +kernel) rfl rfl (Nat.le_of_ble_eq_true rfl) dX4_init_17 (fun H locs hP hD hS => ?_)
  have hP : va_P (dC, dI) vwCl [(h0, .inr (4, [.ref q_1, .int 0, .ref q_3])), (q_1, .inl (cA_2, 64, .inl (fun _ => 0))), (q_3, .inl (cA_4, 19, .inl (fun _ => 0)))] H := hP
  have hD : va_D A [(h0, .inr (4, [.ref q_1, .int 0, .ref q_3])), (q_1, .inl (cA_2, 64, .inl (fun _ => 0))), (q_3, .inl (cA_4, 19, .inl (fun _ => 0)))] := hD
  refine W.widen (k := 2) (n := 83) (Nat.le_of_ble_eq_true rfl) (Nat.le_of_ble_eq_true rfl) ?_
  exact W.vret hx hb hr (fun t ht hW => ⟨⟨(), rfl, trivial, trivial⟩, hS.F ht⟩) hS.2.2 dX4_init_20
end
section
set_option maxHeartbeats 4000000 in
set_option maxRecDepth 100000 in
theorem k_Past (l : Launch) (dC : Nat → ClassId) (dI : Nat → Nat → Nat) (h0 : Nat) (sz : Nat) : Met l yX5_init (wT yX5_init cX5_init 2 none) ({ frames := 2, cells := 71, slots := 2730, locals := 43 }) (pcN dC dI [.ref h0] sz [(h0, .inr (5, [.null, .int 0]))] [] [] [RX0]) (va_Qv (fun _ : Unit => True) (fun _ t => ∃ ba : Nat, ∃ cP : ClassId, ∃ fb : Nat → Option Nat, ∃ p0 : Nat, ∃ q0 : Nat, ∃ q1 : Nat, ∃ q2 : Nat, ∃ q3 : Nat, ∃ q4 : Nat, ∃ q5 : Nat, ∃ cQ : ClassId, ∃ fq : Nat → Int32, (fb 0 = some p0) ∧ pB dC dI (va_A [(h0, .inr (5, [.null, .int 0]))] sz) [(h0, .inr (5, [.ref ba, .int 0])), (ba, .inl (cP, 10, .inr (.inr (.inr (.inr fb))))), (p0, .inr (0, [.ref q0, .ref q1, .ref q2, .ref q3, .ref q4, .ref q5, .int 0, .int 0])), (q5, .inl (cQ, 64, .inl fq))] [(cP, .object RX0), (cQ, .int)] t) (va_A [(h0, .inr (5, [.null, .int 0]))] sz)) 71 2730 (va_A [(h0, .inr (5, [.null, .int 0]))] sz) := by
  refine Met.ofW (cc := cX5_init) (maxL := 2) (ret := none) (by decide) rfl ?_
  intro p e s m args below meth c s₁ B hml hv
  obtain ⟨rfl, hsz, hP, hK, hD0, hN, hO⟩ := hv
  have hx := B.exec
  have hb := B.bytes
  have hr := B.returns
  have hT : ∀ w ∈ TB, w.before [.ref h0].toArray s = true := fun w h => atoms_spec (ws := wT yX5_init cX5_init 2 none) B.pre w (List.mem_cons_of_mem _ h)
  have hown : s.vm.findClass RX5 = some m.cls := findClass_of_methodNamed B.named
  have hlocks := B.notSynchronized
  have hin : meth.name = "<init>" := (name_of_methodNamed B.named B.method).1
  subst hsz
  have hD := hD0.self (sz := s.heap.size)
  generalize hAe : va_A [(h0, .inr (5, [.null, .int 0]))] s.heap.size = A at hD ⊢
  have hA : ∀ q : Nat, s.heap.size ≤ q → A q := fun q h => by rw [← hAe]; exact Or.inr h
  have hS : va_S A s.heap s.heap [] := va_S.rf
  have hP : va_P (dC, dI) vwCl [(h0, .inr (5, [.null, .int 0]))] s.heap := hP
  have hl := lv_entry ([.ref h0]) (n := 2) (Nat.le_of_ble_eq_true rfl)
  rw [lg_entry_eq]
  generalize (lg_sl ([.ref h0]) ++ List.replicate (2 - (lg_sl ([.ref h0])).length) Slot.unset).toArray = ls at hl ⊢
  have hl : lv_has ls 2 [(0, .ref h0)] := hl
  refine lv_aload_n hx hb dX5_init_0 rfl (lv_at hl 0 rfl) ?_
  refine W.objInit hx hb hown (hT _ w179) (hT _ w28) (hT _ w29) rfl (by rw [hml]; exact hl.1) rfl dX5_init_1 (Nat.le_of_ble_eq_true rfl) (Nat.le_of_ble_eq_true rfl) ?_
  refine W.eq (g2 := F0 m 4 ls []) rfl ?_
  refine lv_aload_n hx hb dX5_init_4 rfl (lv_at hl 0 rfl) ?_
  refine lv_bipush (v := 10) hx hb dX5_init_5 (by decide) ?_
  refine va_newq (C := RX0) (n := 10) (N' := 10) hx hb hown (hT _ w180) (hO RX0 (by decide)) hK hP hD hS hA (by decide) (by decide) (Nat.le_of_ble_eq_true rfl) (Nat.le_of_ble_eq_true rfl) (Nat.le_of_ble_eq_true rfl) dX5_init_7 (fun q_1 cA_2 H hK hP hD hS => ?_)
  have hP : va_P (dC, dI) vwCl [(h0, .inr (5, [.null, .int 0])), (q_1, .inl (cA_2, 10, .inr (.inr (.inr (.inr (fun _ => none))))))] H := hP
  have hD : va_D A [(h0, .inr (5, [.null, .int 0])), (q_1, .inl (cA_2, 10, .inr (.inr (.inr (.inr (fun _ => none))))))] := hD
  have hK : va_K (dC, dI) vwCl [(cA_2, .object RX0)] s := hK
  refine W.widen (k := 1) (n := 10) (Nat.le_of_ble_eq_true rfl) (Nat.le_of_ble_eq_true rfl) ?_
  refine va_putF (D := (dC, dI)) (ci := 5) (v := .ref q_1) (ty := .array (.object "SwapPress$Book")) (C := RX5) (T := TX5) (N := 2) hx hb hT iX5 tyX5 tyX5_ok nmX5 hown hK hP hD hS 0 rfl rfl 0 (by decide) (hT _ w183) (fun _ h9 => h9) rfl hin rfl (by decide +kernel) rfl rfl (Nat.le_of_ble_eq_true rfl) dX5_init_10 (fun H locs hP hD hS => ?_)
  have hP : va_P (dC, dI) vwCl [(h0, .inr (5, [.ref q_1, .int 0])), (q_1, .inl (cA_2, 10, .inr (.inr (.inr (.inr (fun _ => none))))))] H := hP
  have hD : va_D A [(h0, .inr (5, [.ref q_1, .int 0])), (q_1, .inl (cA_2, 10, .inr (.inr (.inr (.inr (fun _ => none))))))] := hD
  refine lv_iconst (v := 0) hx hb dX5_init_13 (by decide) ?_
  refine lv_istore_n (lv' := [(1, .int 0), (0, .ref h0)]) hx hb dX5_init_14 rfl hl (by decide) rfl (fun ls hl => ?_)
  refine lv_iload_n hx hb dX5_init_15 rfl (lv_at hl 0 rfl) ?_
  refine lv_bipush (v := 10) hx hb dX5_init_16 (by decide) ?_
  refine lv_icmp_ge (tgt := 40) hx hb dX5_init_18 (by decide) (fun h => absurd h (by decide)) (fun _ => ?_)
  refine lv_aload_n hx hb dX5_init_21 rfl (lv_at hl 1 rfl) ?_
  refine va_get (D := (dC, dI)) (ci := 5) (v := .ref q_1) (C := RX5) (T := TX5) (N := 2) hx hb hT iX5 hown hK hP 0 rfl rfl 0 (by decide) (hT _ w183) (fun _ h9 => h9) rfl dX5_init_22 ?_
  refine lv_iload_n hx hb dX5_init_25 rfl (lv_at hl 0 rfl) ?_
  refine va_new (ci := 0) (fs := [.null, .null, .null, .null, .null, .null, .int 0, .int 0]) (C := RX0) (T := TX0) (N := 8) hx hb hT iX0 tyX0 tyX0_ok hown (hT _ w180) (hT _ w79) (hT _ w5) hK hP hD hS hA rfl (fun j hj => by rcases (show j = 0 ∨ j = 1 ∨ j = 2 ∨ j = 3 ∨ j = 4 ∨ j = 5 ∨ j = 6 ∨ j = 7 by omega) with rfl | rfl | rfl | rfl | rfl | rfl | rfl | rfl <;> rfl) (Nat.le_of_ble_eq_true rfl) (Nat.le_of_ble_eq_true rfl) dX5_init_26 (fun q_3 H hP hD hS => ?_)
  have hP : va_P (dC, dI) vwCl [(h0, .inr (5, [.ref q_1, .int 0])), (q_1, .inl (cA_2, 10, .inr (.inr (.inr (.inr (fun _ => none)))))), (q_3, .inr (0, [.null, .null, .null, .null, .null, .null, .int 0, .int 0]))] H := hP
  have hD : va_D A [(h0, .inr (5, [.ref q_1, .int 0])), (q_1, .inl (cA_2, 10, .inr (.inr (.inr (.inr (fun _ => none)))))), (q_3, .inr (0, [.null, .null, .null, .null, .null, .null, .int 0, .int 0]))] := hD
  refine W.widen (k := 2) (n := 18) (Nat.le_of_ble_eq_true rfl) (Nat.le_of_ble_eq_true rfl) ?_
  refine lv_dup hx hb dX5_init_29 rfl ?_
  have hPc := hP.sub (ws' := [(q_3, .inr (0, [.null, .null, .null, .null, .null, .null, .int 0, .int 0]))]) [2] rfl
  have hDc := hD.sub (ws' := [(q_3, .inr (0, [.null, .null, .null, .null, .null, .null, .int 0, .int 0]))]) [2] (by decide) rfl
  have hKc := hK.sub (tys' := []) [] rfl
  have hFc := va_free (wc := [(q_3, .inr (0, [.null, .null, .null, .null, .null, .null, .int 0, .int 0]))]) hD hS hA [2] rfl
  refine va_callv (va_runI (As := []) (rest := [.ref q_3, .int 0, .ref q_1]) ⟨hx, hb, hml, hown, hT⟩ (k_Book l dC dI q_3 H.size) (cwI 0 hT (gT w82) rfl rfl rfl (hT _ w5) (hT _ w182) (hT _ w81) rfl (by decide +kernel) ⟨(Nat.le_of_ble_eq_true rfl), (Nat.le_of_ble_eq_true rfl)⟩) ⟨pcW.blind, pcW.pre hPc hKc hDc⟩ rfl rfl hl.1 rfl (lv_room (Nat.le_of_ble_eq_true rfl)) dX5_init_30 ⟨(Nat.le_of_ble_eq_true rfl), (Nat.le_of_ble_eq_true rfl)⟩) hS (fun q _ h => hFc q h) hFc (fun u t H1 locs ht hvm hw hB hz1 hk1 hS => ?_)
  obtain ⟨e0_4, e1_5, e2_6, e3_7, e4_8, e5_9, cA_10, f_11, hP1, hK1, hD1⟩ := hB
  rw [ht] at hP1
  have hK1 := va_K.moved hvm.symm hK1
  obtain ⟨hP, hD⟩ := va_join (wr := [(h0, .inr (5, [.ref q_1, .int 0])), (q_1, .inl (cA_2, 10, .inr (.inr (.inr (.inr (fun _ => none))))))]) (w1 := [(q_3, .inr (0, [.ref e0_4, .ref e1_5, .ref e2_6, .ref e3_7, .ref e4_8, .ref e5_9, .int 0, .int 0])), (e5_9, .inl (cA_10, 64, .inl f_11))]) hP hD [2] [0, 1] rfl rfl (by decide) (by decide) hk1 hFc hP1 hD1
  have hK := hK.app hK1
  generalize H1 = H at hP hS ⊢
  have hP : va_P (dC, dI) vwCl [(h0, .inr (5, [.ref q_1, .int 0])), (q_1, .inl (cA_2, 10, .inr (.inr (.inr (.inr (fun _ => none)))))), (q_3, .inr (0, [.ref e0_4, .ref e1_5, .ref e2_6, .ref e3_7, .ref e4_8, .ref e5_9, .int 0, .int 0])), (e5_9, .inl (cA_10, 64, .inl f_11))] H := hP
  have hD : va_D A [(h0, .inr (5, [.ref q_1, .int 0])), (q_1, .inl (cA_2, 10, .inr (.inr (.inr (.inr (fun _ => none)))))), (q_3, .inr (0, [.ref e0_4, .ref e1_5, .ref e2_6, .ref e3_7, .ref e4_8, .ref e5_9, .int 0, .int 0])), (e5_9, .inl (cA_10, 64, .inl f_11))] := hD
  have hK : va_K (dC, dI) vwCl [(cA_2, .object RX0), (cA_10, .int)] s := hK
  refine W.widen (k := 8) (n := 282) (Nat.le_of_ble_eq_true rfl) (Nat.le_of_ble_eq_true rfl) ?_
  refine va_astq hx hb hK hP hD hS 1 0 2 0 rfl rfl rfl rfl (by unfold vp_in; decide) dX5_init_33 (fun H locs hP hD hS => ?_)
  obtain ⟨f_12, hf_12⟩ : ∃ f : Nat → Option Nat, f = va_up (fun _ => none) (0 : Int32).toNatClampNeg (some q_3) := ⟨_, rfl⟩
  rw [← hf_12] at hP hD
  have hP : va_P (dC, dI) vwCl [(h0, .inr (5, [.ref q_1, .int 0])), (q_1, .inl (cA_2, 10, .inr (.inr (.inr (.inr f_12))))), (q_3, .inr (0, [.ref e0_4, .ref e1_5, .ref e2_6, .ref e3_7, .ref e4_8, .ref e5_9, .int 0, .int 0])), (e5_9, .inl (cA_10, 64, .inl f_11))] H := hP
  have hD : va_D A [(h0, .inr (5, [.ref q_1, .int 0])), (q_1, .inl (cA_2, 10, .inr (.inr (.inr (.inr f_12))))), (q_3, .inr (0, [.ref e0_4, .ref e1_5, .ref e2_6, .ref e3_7, .ref e4_8, .ref e5_9, .int 0, .int 0])), (e5_9, .inl (cA_10, 64, .inl f_11))] := hD
  have hz_0 : f_12 0 = some q_3 := by rw [hf_12]; rfl
  have hP := hP.sub (ws' := [(h0, .inr (5, [.ref q_1, .int 0])), (q_1, .inl (cA_2, 10, .inr (.inr (.inr (.inr f_12))))), (q_3, .inr (0, [.ref e0_4, .ref e1_5, .ref e2_6, .ref e3_7, .ref e4_8, .ref e5_9, .int 0, .int 0])), (e5_9, .inl (cA_10, 64, .inl f_11))]) [0, 1, 2, 3] rfl
  have hD := hD.sub (ws' := [(h0, .inr (5, [.ref q_1, .int 0])), (q_1, .inl (cA_2, 10, .inr (.inr (.inr (.inr f_12))))), (q_3, .inr (0, [.ref e0_4, .ref e1_5, .ref e2_6, .ref e3_7, .ref e4_8, .ref e5_9, .int 0, .int 0])), (e5_9, .inl (cA_10, 64, .inl f_11))]) [0, 1, 2, 3] (by decide) rfl
  have hK := hK.sub (tys' := [(cA_2, .object RX0), (cA_10, .int)]) [0, 1] rfl
  refine lv_iinc (v := 1) (lv' := [(1, .int 1), (0, .ref h0)]) hx hb dX5_init_34 hl (k := 0) rfl (by decide) (by decide) rfl (fun ls hl => ?_)
  refine lv_goto (tgt := 15) hx hb dX5_init_37 (by decide) ?_
  refine lv_iload_n hx hb dX5_init_15 rfl (lv_at hl 0 rfl) ?_
  refine lv_bipush (v := 10) hx hb dX5_init_16 (by decide) ?_
  refine lv_icmp_ge (tgt := 40) hx hb dX5_init_18 (by decide) (fun h => absurd h (by decide)) (fun _ => ?_)
  refine lv_aload_n hx hb dX5_init_21 rfl (lv_at hl 1 rfl) ?_
  refine va_get (D := (dC, dI)) (ci := 5) (v := .ref q_1) (C := RX5) (T := TX5) (N := 2) hx hb hT iX5 hown hK hP 0 rfl rfl 0 (by decide) (hT _ w183) (fun _ h9 => h9) rfl dX5_init_22 ?_
  refine lv_iload_n hx hb dX5_init_25 rfl (lv_at hl 0 rfl) ?_
  refine va_new (ci := 0) (fs := [.null, .null, .null, .null, .null, .null, .int 0, .int 0]) (C := RX0) (T := TX0) (N := 8) hx hb hT iX0 tyX0 tyX0_ok hown (hT _ w180) (hT _ w79) (hT _ w5) hK hP hD hS hA rfl (fun j hj => by rcases (show j = 0 ∨ j = 1 ∨ j = 2 ∨ j = 3 ∨ j = 4 ∨ j = 5 ∨ j = 6 ∨ j = 7 by omega) with rfl | rfl | rfl | rfl | rfl | rfl | rfl | rfl <;> rfl) (Nat.le_of_ble_eq_true rfl) (Nat.le_of_ble_eq_true rfl) dX5_init_26 (fun q_13 H hP hD hS => ?_)
  have hP : va_P (dC, dI) vwCl [(h0, .inr (5, [.ref q_1, .int 0])), (q_1, .inl (cA_2, 10, .inr (.inr (.inr (.inr f_12))))), (q_3, .inr (0, [.ref e0_4, .ref e1_5, .ref e2_6, .ref e3_7, .ref e4_8, .ref e5_9, .int 0, .int 0])), (e5_9, .inl (cA_10, 64, .inl f_11)), (q_13, .inr (0, [.null, .null, .null, .null, .null, .null, .int 0, .int 0]))] H := hP
  have hD : va_D A [(h0, .inr (5, [.ref q_1, .int 0])), (q_1, .inl (cA_2, 10, .inr (.inr (.inr (.inr f_12))))), (q_3, .inr (0, [.ref e0_4, .ref e1_5, .ref e2_6, .ref e3_7, .ref e4_8, .ref e5_9, .int 0, .int 0])), (e5_9, .inl (cA_10, 64, .inl f_11)), (q_13, .inr (0, [.null, .null, .null, .null, .null, .null, .int 0, .int 0]))] := hD
  refine W.widen (k := 9) (n := 290) (Nat.le_of_ble_eq_true rfl) (Nat.le_of_ble_eq_true rfl) ?_
  refine lv_dup hx hb dX5_init_29 rfl ?_
  have hPc := hP.sub (ws' := [(q_13, .inr (0, [.null, .null, .null, .null, .null, .null, .int 0, .int 0]))]) [4] rfl
  have hDc := hD.sub (ws' := [(q_13, .inr (0, [.null, .null, .null, .null, .null, .null, .int 0, .int 0]))]) [4] (by decide) rfl
  have hKc := hK.sub (tys' := []) [] rfl
  have hFc := va_free (wc := [(q_13, .inr (0, [.null, .null, .null, .null, .null, .null, .int 0, .int 0]))]) hD hS hA [4] rfl
  refine va_callv (va_runI (As := []) (rest := [.ref q_13, .int 1, .ref q_1]) ⟨hx, hb, hml, hown, hT⟩ (k_Book l dC dI q_13 H.size) (cwI 0 hT (gT w82) rfl rfl rfl (hT _ w5) (hT _ w182) (hT _ w81) rfl (by decide +kernel) ⟨(Nat.le_of_ble_eq_true rfl), (Nat.le_of_ble_eq_true rfl)⟩) ⟨pcW.blind, pcW.pre hPc hKc hDc⟩ rfl rfl hl.1 rfl (lv_room (Nat.le_of_ble_eq_true rfl)) dX5_init_30 ⟨(Nat.le_of_ble_eq_true rfl), (Nat.le_of_ble_eq_true rfl)⟩) hS (fun q _ h => hFc q h) hFc (fun u t H1 locs ht hvm hw hB hz1 hk1 hS => ?_)
  obtain ⟨e0_14, e1_15, e2_16, e3_17, e4_18, e5_19, cA_20, f_21, hP1, hK1, hD1⟩ := hB
  rw [ht] at hP1
  have hK1 := va_K.moved hvm.symm hK1
  obtain ⟨hP, hD⟩ := va_join (wr := [(h0, .inr (5, [.ref q_1, .int 0])), (q_1, .inl (cA_2, 10, .inr (.inr (.inr (.inr f_12))))), (q_3, .inr (0, [.ref e0_4, .ref e1_5, .ref e2_6, .ref e3_7, .ref e4_8, .ref e5_9, .int 0, .int 0])), (e5_9, .inl (cA_10, 64, .inl f_11))]) (w1 := [(q_13, .inr (0, [.ref e0_14, .ref e1_15, .ref e2_16, .ref e3_17, .ref e4_18, .ref e5_19, .int 0, .int 0])), (e5_19, .inl (cA_20, 64, .inl f_21))]) hP hD [4] [0, 1, 2, 3] rfl rfl (by decide) (by decide) hk1 hFc hP1 hD1
  have hK := hK.app hK1
  generalize H1 = H at hP hS ⊢
  have hP : va_P (dC, dI) vwCl [(h0, .inr (5, [.ref q_1, .int 0])), (q_1, .inl (cA_2, 10, .inr (.inr (.inr (.inr f_12))))), (q_3, .inr (0, [.ref e0_4, .ref e1_5, .ref e2_6, .ref e3_7, .ref e4_8, .ref e5_9, .int 0, .int 0])), (e5_9, .inl (cA_10, 64, .inl f_11)), (q_13, .inr (0, [.ref e0_14, .ref e1_15, .ref e2_16, .ref e3_17, .ref e4_18, .ref e5_19, .int 0, .int 0])), (e5_19, .inl (cA_20, 64, .inl f_21))] H := hP
  have hD : va_D A [(h0, .inr (5, [.ref q_1, .int 0])), (q_1, .inl (cA_2, 10, .inr (.inr (.inr (.inr f_12))))), (q_3, .inr (0, [.ref e0_4, .ref e1_5, .ref e2_6, .ref e3_7, .ref e4_8, .ref e5_9, .int 0, .int 0])), (e5_9, .inl (cA_10, 64, .inl f_11)), (q_13, .inr (0, [.ref e0_14, .ref e1_15, .ref e2_16, .ref e3_17, .ref e4_18, .ref e5_19, .int 0, .int 0])), (e5_19, .inl (cA_20, 64, .inl f_21))] := hD
  have hK : va_K (dC, dI) vwCl [(cA_2, .object RX0), (cA_10, .int), (cA_20, .int)] s := hK
  refine W.widen (k := 15) (n := 554) (Nat.le_of_ble_eq_true rfl) (Nat.le_of_ble_eq_true rfl) ?_
  refine va_astq hx hb hK hP hD hS 1 0 4 0 rfl rfl rfl rfl (by unfold vp_in; decide) dX5_init_33 (fun H locs hP hD hS => ?_)
  obtain ⟨f_22, hf_22⟩ : ∃ f : Nat → Option Nat, f = va_up f_12 (1 : Int32).toNatClampNeg (some q_13) := ⟨_, rfl⟩
  rw [← hf_22] at hP hD
  have hP : va_P (dC, dI) vwCl [(h0, .inr (5, [.ref q_1, .int 0])), (q_1, .inl (cA_2, 10, .inr (.inr (.inr (.inr f_22))))), (q_3, .inr (0, [.ref e0_4, .ref e1_5, .ref e2_6, .ref e3_7, .ref e4_8, .ref e5_9, .int 0, .int 0])), (e5_9, .inl (cA_10, 64, .inl f_11)), (q_13, .inr (0, [.ref e0_14, .ref e1_15, .ref e2_16, .ref e3_17, .ref e4_18, .ref e5_19, .int 0, .int 0])), (e5_19, .inl (cA_20, 64, .inl f_21))] H := hP
  have hD : va_D A [(h0, .inr (5, [.ref q_1, .int 0])), (q_1, .inl (cA_2, 10, .inr (.inr (.inr (.inr f_22))))), (q_3, .inr (0, [.ref e0_4, .ref e1_5, .ref e2_6, .ref e3_7, .ref e4_8, .ref e5_9, .int 0, .int 0])), (e5_9, .inl (cA_10, 64, .inl f_11)), (q_13, .inr (0, [.ref e0_14, .ref e1_15, .ref e2_16, .ref e3_17, .ref e4_18, .ref e5_19, .int 0, .int 0])), (e5_19, .inl (cA_20, 64, .inl f_21))] := hD
  have hz_1 : f_22 0 = some q_3 := by rw [hf_22]; exact hz_0
  have hP := hP.sub (ws' := [(h0, .inr (5, [.ref q_1, .int 0])), (q_1, .inl (cA_2, 10, .inr (.inr (.inr (.inr f_22))))), (q_3, .inr (0, [.ref e0_4, .ref e1_5, .ref e2_6, .ref e3_7, .ref e4_8, .ref e5_9, .int 0, .int 0])), (e5_9, .inl (cA_10, 64, .inl f_11))]) [0, 1, 2, 3] rfl
  have hD := hD.sub (ws' := [(h0, .inr (5, [.ref q_1, .int 0])), (q_1, .inl (cA_2, 10, .inr (.inr (.inr (.inr f_22))))), (q_3, .inr (0, [.ref e0_4, .ref e1_5, .ref e2_6, .ref e3_7, .ref e4_8, .ref e5_9, .int 0, .int 0])), (e5_9, .inl (cA_10, 64, .inl f_11))]) [0, 1, 2, 3] (by decide) rfl
  have hK := hK.sub (tys' := [(cA_2, .object RX0), (cA_10, .int)]) [0, 1] rfl
  refine lv_iinc (v := 2) (lv' := [(1, .int 2), (0, .ref h0)]) hx hb dX5_init_34 hl (k := 0) rfl (by decide) (by decide) rfl (fun ls hl => ?_)
  refine lv_goto (tgt := 15) hx hb dX5_init_37 (by decide) ?_
  refine lv_iload_n hx hb dX5_init_15 rfl (lv_at hl 0 rfl) ?_
  refine lv_bipush (v := 10) hx hb dX5_init_16 (by decide) ?_
  refine lv_icmp_ge (tgt := 40) hx hb dX5_init_18 (by decide) (fun h => absurd h (by decide)) (fun _ => ?_)
  refine lv_aload_n hx hb dX5_init_21 rfl (lv_at hl 1 rfl) ?_
  refine va_get (D := (dC, dI)) (ci := 5) (v := .ref q_1) (C := RX5) (T := TX5) (N := 2) hx hb hT iX5 hown hK hP 0 rfl rfl 0 (by decide) (hT _ w183) (fun _ h9 => h9) rfl dX5_init_22 ?_
  refine lv_iload_n hx hb dX5_init_25 rfl (lv_at hl 0 rfl) ?_
  refine va_new (ci := 0) (fs := [.null, .null, .null, .null, .null, .null, .int 0, .int 0]) (C := RX0) (T := TX0) (N := 8) hx hb hT iX0 tyX0 tyX0_ok hown (hT _ w180) (hT _ w79) (hT _ w5) hK hP hD hS hA rfl (fun j hj => by rcases (show j = 0 ∨ j = 1 ∨ j = 2 ∨ j = 3 ∨ j = 4 ∨ j = 5 ∨ j = 6 ∨ j = 7 by omega) with rfl | rfl | rfl | rfl | rfl | rfl | rfl | rfl <;> rfl) (Nat.le_of_ble_eq_true rfl) (Nat.le_of_ble_eq_true rfl) dX5_init_26 (fun q_23 H hP hD hS => ?_)
  have hP : va_P (dC, dI) vwCl [(h0, .inr (5, [.ref q_1, .int 0])), (q_1, .inl (cA_2, 10, .inr (.inr (.inr (.inr f_22))))), (q_3, .inr (0, [.ref e0_4, .ref e1_5, .ref e2_6, .ref e3_7, .ref e4_8, .ref e5_9, .int 0, .int 0])), (e5_9, .inl (cA_10, 64, .inl f_11)), (q_23, .inr (0, [.null, .null, .null, .null, .null, .null, .int 0, .int 0]))] H := hP
  have hD : va_D A [(h0, .inr (5, [.ref q_1, .int 0])), (q_1, .inl (cA_2, 10, .inr (.inr (.inr (.inr f_22))))), (q_3, .inr (0, [.ref e0_4, .ref e1_5, .ref e2_6, .ref e3_7, .ref e4_8, .ref e5_9, .int 0, .int 0])), (e5_9, .inl (cA_10, 64, .inl f_11)), (q_23, .inr (0, [.null, .null, .null, .null, .null, .null, .int 0, .int 0]))] := hD
  refine W.widen (k := 16) (n := 562) (Nat.le_of_ble_eq_true rfl) (Nat.le_of_ble_eq_true rfl) ?_
  refine lv_dup hx hb dX5_init_29 rfl ?_
  have hPc := hP.sub (ws' := [(q_23, .inr (0, [.null, .null, .null, .null, .null, .null, .int 0, .int 0]))]) [4] rfl
  have hDc := hD.sub (ws' := [(q_23, .inr (0, [.null, .null, .null, .null, .null, .null, .int 0, .int 0]))]) [4] (by decide) rfl
  have hKc := hK.sub (tys' := []) [] rfl
  have hFc := va_free (wc := [(q_23, .inr (0, [.null, .null, .null, .null, .null, .null, .int 0, .int 0]))]) hD hS hA [4] rfl
  refine va_callv (va_runI (As := []) (rest := [.ref q_23, .int 2, .ref q_1]) ⟨hx, hb, hml, hown, hT⟩ (k_Book l dC dI q_23 H.size) (cwI 0 hT (gT w82) rfl rfl rfl (hT _ w5) (hT _ w182) (hT _ w81) rfl (by decide +kernel) ⟨(Nat.le_of_ble_eq_true rfl), (Nat.le_of_ble_eq_true rfl)⟩) ⟨pcW.blind, pcW.pre hPc hKc hDc⟩ rfl rfl hl.1 rfl (lv_room (Nat.le_of_ble_eq_true rfl)) dX5_init_30 ⟨(Nat.le_of_ble_eq_true rfl), (Nat.le_of_ble_eq_true rfl)⟩) hS (fun q _ h => hFc q h) hFc (fun u t H1 locs ht hvm hw hB hz1 hk1 hS => ?_)
  obtain ⟨e0_24, e1_25, e2_26, e3_27, e4_28, e5_29, cA_30, f_31, hP1, hK1, hD1⟩ := hB
  rw [ht] at hP1
  have hK1 := va_K.moved hvm.symm hK1
  obtain ⟨hP, hD⟩ := va_join (wr := [(h0, .inr (5, [.ref q_1, .int 0])), (q_1, .inl (cA_2, 10, .inr (.inr (.inr (.inr f_22))))), (q_3, .inr (0, [.ref e0_4, .ref e1_5, .ref e2_6, .ref e3_7, .ref e4_8, .ref e5_9, .int 0, .int 0])), (e5_9, .inl (cA_10, 64, .inl f_11))]) (w1 := [(q_23, .inr (0, [.ref e0_24, .ref e1_25, .ref e2_26, .ref e3_27, .ref e4_28, .ref e5_29, .int 0, .int 0])), (e5_29, .inl (cA_30, 64, .inl f_31))]) hP hD [4] [0, 1, 2, 3] rfl rfl (by decide) (by decide) hk1 hFc hP1 hD1
  have hK := hK.app hK1
  generalize H1 = H at hP hS ⊢
  have hP : va_P (dC, dI) vwCl [(h0, .inr (5, [.ref q_1, .int 0])), (q_1, .inl (cA_2, 10, .inr (.inr (.inr (.inr f_22))))), (q_3, .inr (0, [.ref e0_4, .ref e1_5, .ref e2_6, .ref e3_7, .ref e4_8, .ref e5_9, .int 0, .int 0])), (e5_9, .inl (cA_10, 64, .inl f_11)), (q_23, .inr (0, [.ref e0_24, .ref e1_25, .ref e2_26, .ref e3_27, .ref e4_28, .ref e5_29, .int 0, .int 0])), (e5_29, .inl (cA_30, 64, .inl f_31))] H := hP
  have hD : va_D A [(h0, .inr (5, [.ref q_1, .int 0])), (q_1, .inl (cA_2, 10, .inr (.inr (.inr (.inr f_22))))), (q_3, .inr (0, [.ref e0_4, .ref e1_5, .ref e2_6, .ref e3_7, .ref e4_8, .ref e5_9, .int 0, .int 0])), (e5_9, .inl (cA_10, 64, .inl f_11)), (q_23, .inr (0, [.ref e0_24, .ref e1_25, .ref e2_26, .ref e3_27, .ref e4_28, .ref e5_29, .int 0, .int 0])), (e5_29, .inl (cA_30, 64, .inl f_31))] := hD
  have hK : va_K (dC, dI) vwCl [(cA_2, .object RX0), (cA_10, .int), (cA_30, .int)] s := hK
  refine W.widen (k := 22) (n := 826) (Nat.le_of_ble_eq_true rfl) (Nat.le_of_ble_eq_true rfl) ?_
  refine va_astq hx hb hK hP hD hS 1 0 4 0 rfl rfl rfl rfl (by unfold vp_in; decide) dX5_init_33 (fun H locs hP hD hS => ?_)
  obtain ⟨f_32, hf_32⟩ : ∃ f : Nat → Option Nat, f = va_up f_22 (2 : Int32).toNatClampNeg (some q_23) := ⟨_, rfl⟩
  rw [← hf_32] at hP hD
  have hP : va_P (dC, dI) vwCl [(h0, .inr (5, [.ref q_1, .int 0])), (q_1, .inl (cA_2, 10, .inr (.inr (.inr (.inr f_32))))), (q_3, .inr (0, [.ref e0_4, .ref e1_5, .ref e2_6, .ref e3_7, .ref e4_8, .ref e5_9, .int 0, .int 0])), (e5_9, .inl (cA_10, 64, .inl f_11)), (q_23, .inr (0, [.ref e0_24, .ref e1_25, .ref e2_26, .ref e3_27, .ref e4_28, .ref e5_29, .int 0, .int 0])), (e5_29, .inl (cA_30, 64, .inl f_31))] H := hP
  have hD : va_D A [(h0, .inr (5, [.ref q_1, .int 0])), (q_1, .inl (cA_2, 10, .inr (.inr (.inr (.inr f_32))))), (q_3, .inr (0, [.ref e0_4, .ref e1_5, .ref e2_6, .ref e3_7, .ref e4_8, .ref e5_9, .int 0, .int 0])), (e5_9, .inl (cA_10, 64, .inl f_11)), (q_23, .inr (0, [.ref e0_24, .ref e1_25, .ref e2_26, .ref e3_27, .ref e4_28, .ref e5_29, .int 0, .int 0])), (e5_29, .inl (cA_30, 64, .inl f_31))] := hD
  have hz_2 : f_32 0 = some q_3 := by rw [hf_32]; exact hz_1
  have hP := hP.sub (ws' := [(h0, .inr (5, [.ref q_1, .int 0])), (q_1, .inl (cA_2, 10, .inr (.inr (.inr (.inr f_32))))), (q_3, .inr (0, [.ref e0_4, .ref e1_5, .ref e2_6, .ref e3_7, .ref e4_8, .ref e5_9, .int 0, .int 0])), (e5_9, .inl (cA_10, 64, .inl f_11))]) [0, 1, 2, 3] rfl
  have hD := hD.sub (ws' := [(h0, .inr (5, [.ref q_1, .int 0])), (q_1, .inl (cA_2, 10, .inr (.inr (.inr (.inr f_32))))), (q_3, .inr (0, [.ref e0_4, .ref e1_5, .ref e2_6, .ref e3_7, .ref e4_8, .ref e5_9, .int 0, .int 0])), (e5_9, .inl (cA_10, 64, .inl f_11))]) [0, 1, 2, 3] (by decide) rfl
  have hK := hK.sub (tys' := [(cA_2, .object RX0), (cA_10, .int)]) [0, 1] rfl
  refine lv_iinc (v := 3) (lv' := [(1, .int 3), (0, .ref h0)]) hx hb dX5_init_34 hl (k := 0) rfl (by decide) (by decide) rfl (fun ls hl => ?_)
  refine lv_goto (tgt := 15) hx hb dX5_init_37 (by decide) ?_
  refine lv_iload_n hx hb dX5_init_15 rfl (lv_at hl 0 rfl) ?_
  refine lv_bipush (v := 10) hx hb dX5_init_16 (by decide) ?_
  refine lv_icmp_ge (tgt := 40) hx hb dX5_init_18 (by decide) (fun h => absurd h (by decide)) (fun _ => ?_)
  refine lv_aload_n hx hb dX5_init_21 rfl (lv_at hl 1 rfl) ?_
  refine va_get (D := (dC, dI)) (ci := 5) (v := .ref q_1) (C := RX5) (T := TX5) (N := 2) hx hb hT iX5 hown hK hP 0 rfl rfl 0 (by decide) (hT _ w183) (fun _ h9 => h9) rfl dX5_init_22 ?_
  refine lv_iload_n hx hb dX5_init_25 rfl (lv_at hl 0 rfl) ?_
  refine va_new (ci := 0) (fs := [.null, .null, .null, .null, .null, .null, .int 0, .int 0]) (C := RX0) (T := TX0) (N := 8) hx hb hT iX0 tyX0 tyX0_ok hown (hT _ w180) (hT _ w79) (hT _ w5) hK hP hD hS hA rfl (fun j hj => by rcases (show j = 0 ∨ j = 1 ∨ j = 2 ∨ j = 3 ∨ j = 4 ∨ j = 5 ∨ j = 6 ∨ j = 7 by omega) with rfl | rfl | rfl | rfl | rfl | rfl | rfl | rfl <;> rfl) (Nat.le_of_ble_eq_true rfl) (Nat.le_of_ble_eq_true rfl) dX5_init_26 (fun q_33 H hP hD hS => ?_)
  have hP : va_P (dC, dI) vwCl [(h0, .inr (5, [.ref q_1, .int 0])), (q_1, .inl (cA_2, 10, .inr (.inr (.inr (.inr f_32))))), (q_3, .inr (0, [.ref e0_4, .ref e1_5, .ref e2_6, .ref e3_7, .ref e4_8, .ref e5_9, .int 0, .int 0])), (e5_9, .inl (cA_10, 64, .inl f_11)), (q_33, .inr (0, [.null, .null, .null, .null, .null, .null, .int 0, .int 0]))] H := hP
  have hD : va_D A [(h0, .inr (5, [.ref q_1, .int 0])), (q_1, .inl (cA_2, 10, .inr (.inr (.inr (.inr f_32))))), (q_3, .inr (0, [.ref e0_4, .ref e1_5, .ref e2_6, .ref e3_7, .ref e4_8, .ref e5_9, .int 0, .int 0])), (e5_9, .inl (cA_10, 64, .inl f_11)), (q_33, .inr (0, [.null, .null, .null, .null, .null, .null, .int 0, .int 0]))] := hD
  refine W.widen (k := 23) (n := 834) (Nat.le_of_ble_eq_true rfl) (Nat.le_of_ble_eq_true rfl) ?_
  refine lv_dup hx hb dX5_init_29 rfl ?_
  have hPc := hP.sub (ws' := [(q_33, .inr (0, [.null, .null, .null, .null, .null, .null, .int 0, .int 0]))]) [4] rfl
  have hDc := hD.sub (ws' := [(q_33, .inr (0, [.null, .null, .null, .null, .null, .null, .int 0, .int 0]))]) [4] (by decide) rfl
  have hKc := hK.sub (tys' := []) [] rfl
  have hFc := va_free (wc := [(q_33, .inr (0, [.null, .null, .null, .null, .null, .null, .int 0, .int 0]))]) hD hS hA [4] rfl
  refine va_callv (va_runI (As := []) (rest := [.ref q_33, .int 3, .ref q_1]) ⟨hx, hb, hml, hown, hT⟩ (k_Book l dC dI q_33 H.size) (cwI 0 hT (gT w82) rfl rfl rfl (hT _ w5) (hT _ w182) (hT _ w81) rfl (by decide +kernel) ⟨(Nat.le_of_ble_eq_true rfl), (Nat.le_of_ble_eq_true rfl)⟩) ⟨pcW.blind, pcW.pre hPc hKc hDc⟩ rfl rfl hl.1 rfl (lv_room (Nat.le_of_ble_eq_true rfl)) dX5_init_30 ⟨(Nat.le_of_ble_eq_true rfl), (Nat.le_of_ble_eq_true rfl)⟩) hS (fun q _ h => hFc q h) hFc (fun u t H1 locs ht hvm hw hB hz1 hk1 hS => ?_)
  obtain ⟨e0_34, e1_35, e2_36, e3_37, e4_38, e5_39, cA_40, f_41, hP1, hK1, hD1⟩ := hB
  rw [ht] at hP1
  have hK1 := va_K.moved hvm.symm hK1
  obtain ⟨hP, hD⟩ := va_join (wr := [(h0, .inr (5, [.ref q_1, .int 0])), (q_1, .inl (cA_2, 10, .inr (.inr (.inr (.inr f_32))))), (q_3, .inr (0, [.ref e0_4, .ref e1_5, .ref e2_6, .ref e3_7, .ref e4_8, .ref e5_9, .int 0, .int 0])), (e5_9, .inl (cA_10, 64, .inl f_11))]) (w1 := [(q_33, .inr (0, [.ref e0_34, .ref e1_35, .ref e2_36, .ref e3_37, .ref e4_38, .ref e5_39, .int 0, .int 0])), (e5_39, .inl (cA_40, 64, .inl f_41))]) hP hD [4] [0, 1, 2, 3] rfl rfl (by decide) (by decide) hk1 hFc hP1 hD1
  have hK := hK.app hK1
  generalize H1 = H at hP hS ⊢
  have hP : va_P (dC, dI) vwCl [(h0, .inr (5, [.ref q_1, .int 0])), (q_1, .inl (cA_2, 10, .inr (.inr (.inr (.inr f_32))))), (q_3, .inr (0, [.ref e0_4, .ref e1_5, .ref e2_6, .ref e3_7, .ref e4_8, .ref e5_9, .int 0, .int 0])), (e5_9, .inl (cA_10, 64, .inl f_11)), (q_33, .inr (0, [.ref e0_34, .ref e1_35, .ref e2_36, .ref e3_37, .ref e4_38, .ref e5_39, .int 0, .int 0])), (e5_39, .inl (cA_40, 64, .inl f_41))] H := hP
  have hD : va_D A [(h0, .inr (5, [.ref q_1, .int 0])), (q_1, .inl (cA_2, 10, .inr (.inr (.inr (.inr f_32))))), (q_3, .inr (0, [.ref e0_4, .ref e1_5, .ref e2_6, .ref e3_7, .ref e4_8, .ref e5_9, .int 0, .int 0])), (e5_9, .inl (cA_10, 64, .inl f_11)), (q_33, .inr (0, [.ref e0_34, .ref e1_35, .ref e2_36, .ref e3_37, .ref e4_38, .ref e5_39, .int 0, .int 0])), (e5_39, .inl (cA_40, 64, .inl f_41))] := hD
  have hK : va_K (dC, dI) vwCl [(cA_2, .object RX0), (cA_10, .int), (cA_40, .int)] s := hK
  refine W.widen (k := 29) (n := 1098) (Nat.le_of_ble_eq_true rfl) (Nat.le_of_ble_eq_true rfl) ?_
  refine va_astq hx hb hK hP hD hS 1 0 4 0 rfl rfl rfl rfl (by unfold vp_in; decide) dX5_init_33 (fun H locs hP hD hS => ?_)
  obtain ⟨f_42, hf_42⟩ : ∃ f : Nat → Option Nat, f = va_up f_32 (3 : Int32).toNatClampNeg (some q_33) := ⟨_, rfl⟩
  rw [← hf_42] at hP hD
  have hP : va_P (dC, dI) vwCl [(h0, .inr (5, [.ref q_1, .int 0])), (q_1, .inl (cA_2, 10, .inr (.inr (.inr (.inr f_42))))), (q_3, .inr (0, [.ref e0_4, .ref e1_5, .ref e2_6, .ref e3_7, .ref e4_8, .ref e5_9, .int 0, .int 0])), (e5_9, .inl (cA_10, 64, .inl f_11)), (q_33, .inr (0, [.ref e0_34, .ref e1_35, .ref e2_36, .ref e3_37, .ref e4_38, .ref e5_39, .int 0, .int 0])), (e5_39, .inl (cA_40, 64, .inl f_41))] H := hP
  have hD : va_D A [(h0, .inr (5, [.ref q_1, .int 0])), (q_1, .inl (cA_2, 10, .inr (.inr (.inr (.inr f_42))))), (q_3, .inr (0, [.ref e0_4, .ref e1_5, .ref e2_6, .ref e3_7, .ref e4_8, .ref e5_9, .int 0, .int 0])), (e5_9, .inl (cA_10, 64, .inl f_11)), (q_33, .inr (0, [.ref e0_34, .ref e1_35, .ref e2_36, .ref e3_37, .ref e4_38, .ref e5_39, .int 0, .int 0])), (e5_39, .inl (cA_40, 64, .inl f_41))] := hD
  have hz_3 : f_42 0 = some q_3 := by rw [hf_42]; exact hz_2
  have hP := hP.sub (ws' := [(h0, .inr (5, [.ref q_1, .int 0])), (q_1, .inl (cA_2, 10, .inr (.inr (.inr (.inr f_42))))), (q_3, .inr (0, [.ref e0_4, .ref e1_5, .ref e2_6, .ref e3_7, .ref e4_8, .ref e5_9, .int 0, .int 0])), (e5_9, .inl (cA_10, 64, .inl f_11))]) [0, 1, 2, 3] rfl
  have hD := hD.sub (ws' := [(h0, .inr (5, [.ref q_1, .int 0])), (q_1, .inl (cA_2, 10, .inr (.inr (.inr (.inr f_42))))), (q_3, .inr (0, [.ref e0_4, .ref e1_5, .ref e2_6, .ref e3_7, .ref e4_8, .ref e5_9, .int 0, .int 0])), (e5_9, .inl (cA_10, 64, .inl f_11))]) [0, 1, 2, 3] (by decide) rfl
  have hK := hK.sub (tys' := [(cA_2, .object RX0), (cA_10, .int)]) [0, 1] rfl
  refine lv_iinc (v := 4) (lv' := [(1, .int 4), (0, .ref h0)]) hx hb dX5_init_34 hl (k := 0) rfl (by decide) (by decide) rfl (fun ls hl => ?_)
  refine lv_goto (tgt := 15) hx hb dX5_init_37 (by decide) ?_
  refine lv_iload_n hx hb dX5_init_15 rfl (lv_at hl 0 rfl) ?_
  refine lv_bipush (v := 10) hx hb dX5_init_16 (by decide) ?_
  refine lv_icmp_ge (tgt := 40) hx hb dX5_init_18 (by decide) (fun h => absurd h (by decide)) (fun _ => ?_)
  refine lv_aload_n hx hb dX5_init_21 rfl (lv_at hl 1 rfl) ?_
  refine va_get (D := (dC, dI)) (ci := 5) (v := .ref q_1) (C := RX5) (T := TX5) (N := 2) hx hb hT iX5 hown hK hP 0 rfl rfl 0 (by decide) (hT _ w183) (fun _ h9 => h9) rfl dX5_init_22 ?_
  refine lv_iload_n hx hb dX5_init_25 rfl (lv_at hl 0 rfl) ?_
  refine va_new (ci := 0) (fs := [.null, .null, .null, .null, .null, .null, .int 0, .int 0]) (C := RX0) (T := TX0) (N := 8) hx hb hT iX0 tyX0 tyX0_ok hown (hT _ w180) (hT _ w79) (hT _ w5) hK hP hD hS hA rfl (fun j hj => by rcases (show j = 0 ∨ j = 1 ∨ j = 2 ∨ j = 3 ∨ j = 4 ∨ j = 5 ∨ j = 6 ∨ j = 7 by omega) with rfl | rfl | rfl | rfl | rfl | rfl | rfl | rfl <;> rfl) (Nat.le_of_ble_eq_true rfl) (Nat.le_of_ble_eq_true rfl) dX5_init_26 (fun q_43 H hP hD hS => ?_)
  have hP : va_P (dC, dI) vwCl [(h0, .inr (5, [.ref q_1, .int 0])), (q_1, .inl (cA_2, 10, .inr (.inr (.inr (.inr f_42))))), (q_3, .inr (0, [.ref e0_4, .ref e1_5, .ref e2_6, .ref e3_7, .ref e4_8, .ref e5_9, .int 0, .int 0])), (e5_9, .inl (cA_10, 64, .inl f_11)), (q_43, .inr (0, [.null, .null, .null, .null, .null, .null, .int 0, .int 0]))] H := hP
  have hD : va_D A [(h0, .inr (5, [.ref q_1, .int 0])), (q_1, .inl (cA_2, 10, .inr (.inr (.inr (.inr f_42))))), (q_3, .inr (0, [.ref e0_4, .ref e1_5, .ref e2_6, .ref e3_7, .ref e4_8, .ref e5_9, .int 0, .int 0])), (e5_9, .inl (cA_10, 64, .inl f_11)), (q_43, .inr (0, [.null, .null, .null, .null, .null, .null, .int 0, .int 0]))] := hD
  refine W.widen (k := 30) (n := 1106) (Nat.le_of_ble_eq_true rfl) (Nat.le_of_ble_eq_true rfl) ?_
  refine lv_dup hx hb dX5_init_29 rfl ?_
  have hPc := hP.sub (ws' := [(q_43, .inr (0, [.null, .null, .null, .null, .null, .null, .int 0, .int 0]))]) [4] rfl
  have hDc := hD.sub (ws' := [(q_43, .inr (0, [.null, .null, .null, .null, .null, .null, .int 0, .int 0]))]) [4] (by decide) rfl
  have hKc := hK.sub (tys' := []) [] rfl
  have hFc := va_free (wc := [(q_43, .inr (0, [.null, .null, .null, .null, .null, .null, .int 0, .int 0]))]) hD hS hA [4] rfl
  refine va_callv (va_runI (As := []) (rest := [.ref q_43, .int 4, .ref q_1]) ⟨hx, hb, hml, hown, hT⟩ (k_Book l dC dI q_43 H.size) (cwI 0 hT (gT w82) rfl rfl rfl (hT _ w5) (hT _ w182) (hT _ w81) rfl (by decide +kernel) ⟨(Nat.le_of_ble_eq_true rfl), (Nat.le_of_ble_eq_true rfl)⟩) ⟨pcW.blind, pcW.pre hPc hKc hDc⟩ rfl rfl hl.1 rfl (lv_room (Nat.le_of_ble_eq_true rfl)) dX5_init_30 ⟨(Nat.le_of_ble_eq_true rfl), (Nat.le_of_ble_eq_true rfl)⟩) hS (fun q _ h => hFc q h) hFc (fun u t H1 locs ht hvm hw hB hz1 hk1 hS => ?_)
  obtain ⟨e0_44, e1_45, e2_46, e3_47, e4_48, e5_49, cA_50, f_51, hP1, hK1, hD1⟩ := hB
  rw [ht] at hP1
  have hK1 := va_K.moved hvm.symm hK1
  obtain ⟨hP, hD⟩ := va_join (wr := [(h0, .inr (5, [.ref q_1, .int 0])), (q_1, .inl (cA_2, 10, .inr (.inr (.inr (.inr f_42))))), (q_3, .inr (0, [.ref e0_4, .ref e1_5, .ref e2_6, .ref e3_7, .ref e4_8, .ref e5_9, .int 0, .int 0])), (e5_9, .inl (cA_10, 64, .inl f_11))]) (w1 := [(q_43, .inr (0, [.ref e0_44, .ref e1_45, .ref e2_46, .ref e3_47, .ref e4_48, .ref e5_49, .int 0, .int 0])), (e5_49, .inl (cA_50, 64, .inl f_51))]) hP hD [4] [0, 1, 2, 3] rfl rfl (by decide) (by decide) hk1 hFc hP1 hD1
  have hK := hK.app hK1
  generalize H1 = H at hP hS ⊢
  have hP : va_P (dC, dI) vwCl [(h0, .inr (5, [.ref q_1, .int 0])), (q_1, .inl (cA_2, 10, .inr (.inr (.inr (.inr f_42))))), (q_3, .inr (0, [.ref e0_4, .ref e1_5, .ref e2_6, .ref e3_7, .ref e4_8, .ref e5_9, .int 0, .int 0])), (e5_9, .inl (cA_10, 64, .inl f_11)), (q_43, .inr (0, [.ref e0_44, .ref e1_45, .ref e2_46, .ref e3_47, .ref e4_48, .ref e5_49, .int 0, .int 0])), (e5_49, .inl (cA_50, 64, .inl f_51))] H := hP
  have hD : va_D A [(h0, .inr (5, [.ref q_1, .int 0])), (q_1, .inl (cA_2, 10, .inr (.inr (.inr (.inr f_42))))), (q_3, .inr (0, [.ref e0_4, .ref e1_5, .ref e2_6, .ref e3_7, .ref e4_8, .ref e5_9, .int 0, .int 0])), (e5_9, .inl (cA_10, 64, .inl f_11)), (q_43, .inr (0, [.ref e0_44, .ref e1_45, .ref e2_46, .ref e3_47, .ref e4_48, .ref e5_49, .int 0, .int 0])), (e5_49, .inl (cA_50, 64, .inl f_51))] := hD
  have hK : va_K (dC, dI) vwCl [(cA_2, .object RX0), (cA_10, .int), (cA_50, .int)] s := hK
  refine W.widen (k := 36) (n := 1370) (Nat.le_of_ble_eq_true rfl) (Nat.le_of_ble_eq_true rfl) ?_
  refine va_astq hx hb hK hP hD hS 1 0 4 0 rfl rfl rfl rfl (by unfold vp_in; decide) dX5_init_33 (fun H locs hP hD hS => ?_)
  obtain ⟨f_52, hf_52⟩ : ∃ f : Nat → Option Nat, f = va_up f_42 (4 : Int32).toNatClampNeg (some q_43) := ⟨_, rfl⟩
  rw [← hf_52] at hP hD
  have hP : va_P (dC, dI) vwCl [(h0, .inr (5, [.ref q_1, .int 0])), (q_1, .inl (cA_2, 10, .inr (.inr (.inr (.inr f_52))))), (q_3, .inr (0, [.ref e0_4, .ref e1_5, .ref e2_6, .ref e3_7, .ref e4_8, .ref e5_9, .int 0, .int 0])), (e5_9, .inl (cA_10, 64, .inl f_11)), (q_43, .inr (0, [.ref e0_44, .ref e1_45, .ref e2_46, .ref e3_47, .ref e4_48, .ref e5_49, .int 0, .int 0])), (e5_49, .inl (cA_50, 64, .inl f_51))] H := hP
  have hD : va_D A [(h0, .inr (5, [.ref q_1, .int 0])), (q_1, .inl (cA_2, 10, .inr (.inr (.inr (.inr f_52))))), (q_3, .inr (0, [.ref e0_4, .ref e1_5, .ref e2_6, .ref e3_7, .ref e4_8, .ref e5_9, .int 0, .int 0])), (e5_9, .inl (cA_10, 64, .inl f_11)), (q_43, .inr (0, [.ref e0_44, .ref e1_45, .ref e2_46, .ref e3_47, .ref e4_48, .ref e5_49, .int 0, .int 0])), (e5_49, .inl (cA_50, 64, .inl f_51))] := hD
  have hz_4 : f_52 0 = some q_3 := by rw [hf_52]; exact hz_3
  have hP := hP.sub (ws' := [(h0, .inr (5, [.ref q_1, .int 0])), (q_1, .inl (cA_2, 10, .inr (.inr (.inr (.inr f_52))))), (q_3, .inr (0, [.ref e0_4, .ref e1_5, .ref e2_6, .ref e3_7, .ref e4_8, .ref e5_9, .int 0, .int 0])), (e5_9, .inl (cA_10, 64, .inl f_11))]) [0, 1, 2, 3] rfl
  have hD := hD.sub (ws' := [(h0, .inr (5, [.ref q_1, .int 0])), (q_1, .inl (cA_2, 10, .inr (.inr (.inr (.inr f_52))))), (q_3, .inr (0, [.ref e0_4, .ref e1_5, .ref e2_6, .ref e3_7, .ref e4_8, .ref e5_9, .int 0, .int 0])), (e5_9, .inl (cA_10, 64, .inl f_11))]) [0, 1, 2, 3] (by decide) rfl
  have hK := hK.sub (tys' := [(cA_2, .object RX0), (cA_10, .int)]) [0, 1] rfl
  refine lv_iinc (v := 5) (lv' := [(1, .int 5), (0, .ref h0)]) hx hb dX5_init_34 hl (k := 0) rfl (by decide) (by decide) rfl (fun ls hl => ?_)
  refine lv_goto (tgt := 15) hx hb dX5_init_37 (by decide) ?_
  refine lv_iload_n hx hb dX5_init_15 rfl (lv_at hl 0 rfl) ?_
  refine lv_bipush (v := 10) hx hb dX5_init_16 (by decide) ?_
  refine lv_icmp_ge (tgt := 40) hx hb dX5_init_18 (by decide) (fun h => absurd h (by decide)) (fun _ => ?_)
  refine lv_aload_n hx hb dX5_init_21 rfl (lv_at hl 1 rfl) ?_
  refine va_get (D := (dC, dI)) (ci := 5) (v := .ref q_1) (C := RX5) (T := TX5) (N := 2) hx hb hT iX5 hown hK hP 0 rfl rfl 0 (by decide) (hT _ w183) (fun _ h9 => h9) rfl dX5_init_22 ?_
  refine lv_iload_n hx hb dX5_init_25 rfl (lv_at hl 0 rfl) ?_
  refine va_new (ci := 0) (fs := [.null, .null, .null, .null, .null, .null, .int 0, .int 0]) (C := RX0) (T := TX0) (N := 8) hx hb hT iX0 tyX0 tyX0_ok hown (hT _ w180) (hT _ w79) (hT _ w5) hK hP hD hS hA rfl (fun j hj => by rcases (show j = 0 ∨ j = 1 ∨ j = 2 ∨ j = 3 ∨ j = 4 ∨ j = 5 ∨ j = 6 ∨ j = 7 by omega) with rfl | rfl | rfl | rfl | rfl | rfl | rfl | rfl <;> rfl) (Nat.le_of_ble_eq_true rfl) (Nat.le_of_ble_eq_true rfl) dX5_init_26 (fun q_53 H hP hD hS => ?_)
  have hP : va_P (dC, dI) vwCl [(h0, .inr (5, [.ref q_1, .int 0])), (q_1, .inl (cA_2, 10, .inr (.inr (.inr (.inr f_52))))), (q_3, .inr (0, [.ref e0_4, .ref e1_5, .ref e2_6, .ref e3_7, .ref e4_8, .ref e5_9, .int 0, .int 0])), (e5_9, .inl (cA_10, 64, .inl f_11)), (q_53, .inr (0, [.null, .null, .null, .null, .null, .null, .int 0, .int 0]))] H := hP
  have hD : va_D A [(h0, .inr (5, [.ref q_1, .int 0])), (q_1, .inl (cA_2, 10, .inr (.inr (.inr (.inr f_52))))), (q_3, .inr (0, [.ref e0_4, .ref e1_5, .ref e2_6, .ref e3_7, .ref e4_8, .ref e5_9, .int 0, .int 0])), (e5_9, .inl (cA_10, 64, .inl f_11)), (q_53, .inr (0, [.null, .null, .null, .null, .null, .null, .int 0, .int 0]))] := hD
  refine W.widen (k := 37) (n := 1378) (Nat.le_of_ble_eq_true rfl) (Nat.le_of_ble_eq_true rfl) ?_
  refine lv_dup hx hb dX5_init_29 rfl ?_
  have hPc := hP.sub (ws' := [(q_53, .inr (0, [.null, .null, .null, .null, .null, .null, .int 0, .int 0]))]) [4] rfl
  have hDc := hD.sub (ws' := [(q_53, .inr (0, [.null, .null, .null, .null, .null, .null, .int 0, .int 0]))]) [4] (by decide) rfl
  have hKc := hK.sub (tys' := []) [] rfl
  have hFc := va_free (wc := [(q_53, .inr (0, [.null, .null, .null, .null, .null, .null, .int 0, .int 0]))]) hD hS hA [4] rfl
  refine va_callv (va_runI (As := []) (rest := [.ref q_53, .int 5, .ref q_1]) ⟨hx, hb, hml, hown, hT⟩ (k_Book l dC dI q_53 H.size) (cwI 0 hT (gT w82) rfl rfl rfl (hT _ w5) (hT _ w182) (hT _ w81) rfl (by decide +kernel) ⟨(Nat.le_of_ble_eq_true rfl), (Nat.le_of_ble_eq_true rfl)⟩) ⟨pcW.blind, pcW.pre hPc hKc hDc⟩ rfl rfl hl.1 rfl (lv_room (Nat.le_of_ble_eq_true rfl)) dX5_init_30 ⟨(Nat.le_of_ble_eq_true rfl), (Nat.le_of_ble_eq_true rfl)⟩) hS (fun q _ h => hFc q h) hFc (fun u t H1 locs ht hvm hw hB hz1 hk1 hS => ?_)
  obtain ⟨e0_54, e1_55, e2_56, e3_57, e4_58, e5_59, cA_60, f_61, hP1, hK1, hD1⟩ := hB
  rw [ht] at hP1
  have hK1 := va_K.moved hvm.symm hK1
  obtain ⟨hP, hD⟩ := va_join (wr := [(h0, .inr (5, [.ref q_1, .int 0])), (q_1, .inl (cA_2, 10, .inr (.inr (.inr (.inr f_52))))), (q_3, .inr (0, [.ref e0_4, .ref e1_5, .ref e2_6, .ref e3_7, .ref e4_8, .ref e5_9, .int 0, .int 0])), (e5_9, .inl (cA_10, 64, .inl f_11))]) (w1 := [(q_53, .inr (0, [.ref e0_54, .ref e1_55, .ref e2_56, .ref e3_57, .ref e4_58, .ref e5_59, .int 0, .int 0])), (e5_59, .inl (cA_60, 64, .inl f_61))]) hP hD [4] [0, 1, 2, 3] rfl rfl (by decide) (by decide) hk1 hFc hP1 hD1
  have hK := hK.app hK1
  generalize H1 = H at hP hS ⊢
  have hP : va_P (dC, dI) vwCl [(h0, .inr (5, [.ref q_1, .int 0])), (q_1, .inl (cA_2, 10, .inr (.inr (.inr (.inr f_52))))), (q_3, .inr (0, [.ref e0_4, .ref e1_5, .ref e2_6, .ref e3_7, .ref e4_8, .ref e5_9, .int 0, .int 0])), (e5_9, .inl (cA_10, 64, .inl f_11)), (q_53, .inr (0, [.ref e0_54, .ref e1_55, .ref e2_56, .ref e3_57, .ref e4_58, .ref e5_59, .int 0, .int 0])), (e5_59, .inl (cA_60, 64, .inl f_61))] H := hP
  have hD : va_D A [(h0, .inr (5, [.ref q_1, .int 0])), (q_1, .inl (cA_2, 10, .inr (.inr (.inr (.inr f_52))))), (q_3, .inr (0, [.ref e0_4, .ref e1_5, .ref e2_6, .ref e3_7, .ref e4_8, .ref e5_9, .int 0, .int 0])), (e5_9, .inl (cA_10, 64, .inl f_11)), (q_53, .inr (0, [.ref e0_54, .ref e1_55, .ref e2_56, .ref e3_57, .ref e4_58, .ref e5_59, .int 0, .int 0])), (e5_59, .inl (cA_60, 64, .inl f_61))] := hD
  have hK : va_K (dC, dI) vwCl [(cA_2, .object RX0), (cA_10, .int), (cA_60, .int)] s := hK
  refine W.widen (k := 43) (n := 1642) (Nat.le_of_ble_eq_true rfl) (Nat.le_of_ble_eq_true rfl) ?_
  refine va_astq hx hb hK hP hD hS 1 0 4 0 rfl rfl rfl rfl (by unfold vp_in; decide) dX5_init_33 (fun H locs hP hD hS => ?_)
  obtain ⟨f_62, hf_62⟩ : ∃ f : Nat → Option Nat, f = va_up f_52 (5 : Int32).toNatClampNeg (some q_53) := ⟨_, rfl⟩
  rw [← hf_62] at hP hD
  have hP : va_P (dC, dI) vwCl [(h0, .inr (5, [.ref q_1, .int 0])), (q_1, .inl (cA_2, 10, .inr (.inr (.inr (.inr f_62))))), (q_3, .inr (0, [.ref e0_4, .ref e1_5, .ref e2_6, .ref e3_7, .ref e4_8, .ref e5_9, .int 0, .int 0])), (e5_9, .inl (cA_10, 64, .inl f_11)), (q_53, .inr (0, [.ref e0_54, .ref e1_55, .ref e2_56, .ref e3_57, .ref e4_58, .ref e5_59, .int 0, .int 0])), (e5_59, .inl (cA_60, 64, .inl f_61))] H := hP
  have hD : va_D A [(h0, .inr (5, [.ref q_1, .int 0])), (q_1, .inl (cA_2, 10, .inr (.inr (.inr (.inr f_62))))), (q_3, .inr (0, [.ref e0_4, .ref e1_5, .ref e2_6, .ref e3_7, .ref e4_8, .ref e5_9, .int 0, .int 0])), (e5_9, .inl (cA_10, 64, .inl f_11)), (q_53, .inr (0, [.ref e0_54, .ref e1_55, .ref e2_56, .ref e3_57, .ref e4_58, .ref e5_59, .int 0, .int 0])), (e5_59, .inl (cA_60, 64, .inl f_61))] := hD
  have hz_5 : f_62 0 = some q_3 := by rw [hf_62]; exact hz_4
  have hP := hP.sub (ws' := [(h0, .inr (5, [.ref q_1, .int 0])), (q_1, .inl (cA_2, 10, .inr (.inr (.inr (.inr f_62))))), (q_3, .inr (0, [.ref e0_4, .ref e1_5, .ref e2_6, .ref e3_7, .ref e4_8, .ref e5_9, .int 0, .int 0])), (e5_9, .inl (cA_10, 64, .inl f_11))]) [0, 1, 2, 3] rfl
  have hD := hD.sub (ws' := [(h0, .inr (5, [.ref q_1, .int 0])), (q_1, .inl (cA_2, 10, .inr (.inr (.inr (.inr f_62))))), (q_3, .inr (0, [.ref e0_4, .ref e1_5, .ref e2_6, .ref e3_7, .ref e4_8, .ref e5_9, .int 0, .int 0])), (e5_9, .inl (cA_10, 64, .inl f_11))]) [0, 1, 2, 3] (by decide) rfl
  have hK := hK.sub (tys' := [(cA_2, .object RX0), (cA_10, .int)]) [0, 1] rfl
  refine lv_iinc (v := 6) (lv' := [(1, .int 6), (0, .ref h0)]) hx hb dX5_init_34 hl (k := 0) rfl (by decide) (by decide) rfl (fun ls hl => ?_)
  refine lv_goto (tgt := 15) hx hb dX5_init_37 (by decide) ?_
  refine lv_iload_n hx hb dX5_init_15 rfl (lv_at hl 0 rfl) ?_
  refine lv_bipush (v := 10) hx hb dX5_init_16 (by decide) ?_
  refine lv_icmp_ge (tgt := 40) hx hb dX5_init_18 (by decide) (fun h => absurd h (by decide)) (fun _ => ?_)
  refine lv_aload_n hx hb dX5_init_21 rfl (lv_at hl 1 rfl) ?_
  refine va_get (D := (dC, dI)) (ci := 5) (v := .ref q_1) (C := RX5) (T := TX5) (N := 2) hx hb hT iX5 hown hK hP 0 rfl rfl 0 (by decide) (hT _ w183) (fun _ h9 => h9) rfl dX5_init_22 ?_
  refine lv_iload_n hx hb dX5_init_25 rfl (lv_at hl 0 rfl) ?_
  refine va_new (ci := 0) (fs := [.null, .null, .null, .null, .null, .null, .int 0, .int 0]) (C := RX0) (T := TX0) (N := 8) hx hb hT iX0 tyX0 tyX0_ok hown (hT _ w180) (hT _ w79) (hT _ w5) hK hP hD hS hA rfl (fun j hj => by rcases (show j = 0 ∨ j = 1 ∨ j = 2 ∨ j = 3 ∨ j = 4 ∨ j = 5 ∨ j = 6 ∨ j = 7 by omega) with rfl | rfl | rfl | rfl | rfl | rfl | rfl | rfl <;> rfl) (Nat.le_of_ble_eq_true rfl) (Nat.le_of_ble_eq_true rfl) dX5_init_26 (fun q_63 H hP hD hS => ?_)
  have hP : va_P (dC, dI) vwCl [(h0, .inr (5, [.ref q_1, .int 0])), (q_1, .inl (cA_2, 10, .inr (.inr (.inr (.inr f_62))))), (q_3, .inr (0, [.ref e0_4, .ref e1_5, .ref e2_6, .ref e3_7, .ref e4_8, .ref e5_9, .int 0, .int 0])), (e5_9, .inl (cA_10, 64, .inl f_11)), (q_63, .inr (0, [.null, .null, .null, .null, .null, .null, .int 0, .int 0]))] H := hP
  have hD : va_D A [(h0, .inr (5, [.ref q_1, .int 0])), (q_1, .inl (cA_2, 10, .inr (.inr (.inr (.inr f_62))))), (q_3, .inr (0, [.ref e0_4, .ref e1_5, .ref e2_6, .ref e3_7, .ref e4_8, .ref e5_9, .int 0, .int 0])), (e5_9, .inl (cA_10, 64, .inl f_11)), (q_63, .inr (0, [.null, .null, .null, .null, .null, .null, .int 0, .int 0]))] := hD
  refine W.widen (k := 44) (n := 1650) (Nat.le_of_ble_eq_true rfl) (Nat.le_of_ble_eq_true rfl) ?_
  refine lv_dup hx hb dX5_init_29 rfl ?_
  have hPc := hP.sub (ws' := [(q_63, .inr (0, [.null, .null, .null, .null, .null, .null, .int 0, .int 0]))]) [4] rfl
  have hDc := hD.sub (ws' := [(q_63, .inr (0, [.null, .null, .null, .null, .null, .null, .int 0, .int 0]))]) [4] (by decide) rfl
  have hKc := hK.sub (tys' := []) [] rfl
  have hFc := va_free (wc := [(q_63, .inr (0, [.null, .null, .null, .null, .null, .null, .int 0, .int 0]))]) hD hS hA [4] rfl
  refine va_callv (va_runI (As := []) (rest := [.ref q_63, .int 6, .ref q_1]) ⟨hx, hb, hml, hown, hT⟩ (k_Book l dC dI q_63 H.size) (cwI 0 hT (gT w82) rfl rfl rfl (hT _ w5) (hT _ w182) (hT _ w81) rfl (by decide +kernel) ⟨(Nat.le_of_ble_eq_true rfl), (Nat.le_of_ble_eq_true rfl)⟩) ⟨pcW.blind, pcW.pre hPc hKc hDc⟩ rfl rfl hl.1 rfl (lv_room (Nat.le_of_ble_eq_true rfl)) dX5_init_30 ⟨(Nat.le_of_ble_eq_true rfl), (Nat.le_of_ble_eq_true rfl)⟩) hS (fun q _ h => hFc q h) hFc (fun u t H1 locs ht hvm hw hB hz1 hk1 hS => ?_)
  obtain ⟨e0_64, e1_65, e2_66, e3_67, e4_68, e5_69, cA_70, f_71, hP1, hK1, hD1⟩ := hB
  rw [ht] at hP1
  have hK1 := va_K.moved hvm.symm hK1
  obtain ⟨hP, hD⟩ := va_join (wr := [(h0, .inr (5, [.ref q_1, .int 0])), (q_1, .inl (cA_2, 10, .inr (.inr (.inr (.inr f_62))))), (q_3, .inr (0, [.ref e0_4, .ref e1_5, .ref e2_6, .ref e3_7, .ref e4_8, .ref e5_9, .int 0, .int 0])), (e5_9, .inl (cA_10, 64, .inl f_11))]) (w1 := [(q_63, .inr (0, [.ref e0_64, .ref e1_65, .ref e2_66, .ref e3_67, .ref e4_68, .ref e5_69, .int 0, .int 0])), (e5_69, .inl (cA_70, 64, .inl f_71))]) hP hD [4] [0, 1, 2, 3] rfl rfl (by decide) (by decide) hk1 hFc hP1 hD1
  have hK := hK.app hK1
  generalize H1 = H at hP hS ⊢
  have hP : va_P (dC, dI) vwCl [(h0, .inr (5, [.ref q_1, .int 0])), (q_1, .inl (cA_2, 10, .inr (.inr (.inr (.inr f_62))))), (q_3, .inr (0, [.ref e0_4, .ref e1_5, .ref e2_6, .ref e3_7, .ref e4_8, .ref e5_9, .int 0, .int 0])), (e5_9, .inl (cA_10, 64, .inl f_11)), (q_63, .inr (0, [.ref e0_64, .ref e1_65, .ref e2_66, .ref e3_67, .ref e4_68, .ref e5_69, .int 0, .int 0])), (e5_69, .inl (cA_70, 64, .inl f_71))] H := hP
  have hD : va_D A [(h0, .inr (5, [.ref q_1, .int 0])), (q_1, .inl (cA_2, 10, .inr (.inr (.inr (.inr f_62))))), (q_3, .inr (0, [.ref e0_4, .ref e1_5, .ref e2_6, .ref e3_7, .ref e4_8, .ref e5_9, .int 0, .int 0])), (e5_9, .inl (cA_10, 64, .inl f_11)), (q_63, .inr (0, [.ref e0_64, .ref e1_65, .ref e2_66, .ref e3_67, .ref e4_68, .ref e5_69, .int 0, .int 0])), (e5_69, .inl (cA_70, 64, .inl f_71))] := hD
  have hK : va_K (dC, dI) vwCl [(cA_2, .object RX0), (cA_10, .int), (cA_70, .int)] s := hK
  refine W.widen (k := 50) (n := 1914) (Nat.le_of_ble_eq_true rfl) (Nat.le_of_ble_eq_true rfl) ?_
  refine va_astq hx hb hK hP hD hS 1 0 4 0 rfl rfl rfl rfl (by unfold vp_in; decide) dX5_init_33 (fun H locs hP hD hS => ?_)
  obtain ⟨f_72, hf_72⟩ : ∃ f : Nat → Option Nat, f = va_up f_62 (6 : Int32).toNatClampNeg (some q_63) := ⟨_, rfl⟩
  rw [← hf_72] at hP hD
  have hP : va_P (dC, dI) vwCl [(h0, .inr (5, [.ref q_1, .int 0])), (q_1, .inl (cA_2, 10, .inr (.inr (.inr (.inr f_72))))), (q_3, .inr (0, [.ref e0_4, .ref e1_5, .ref e2_6, .ref e3_7, .ref e4_8, .ref e5_9, .int 0, .int 0])), (e5_9, .inl (cA_10, 64, .inl f_11)), (q_63, .inr (0, [.ref e0_64, .ref e1_65, .ref e2_66, .ref e3_67, .ref e4_68, .ref e5_69, .int 0, .int 0])), (e5_69, .inl (cA_70, 64, .inl f_71))] H := hP
  have hD : va_D A [(h0, .inr (5, [.ref q_1, .int 0])), (q_1, .inl (cA_2, 10, .inr (.inr (.inr (.inr f_72))))), (q_3, .inr (0, [.ref e0_4, .ref e1_5, .ref e2_6, .ref e3_7, .ref e4_8, .ref e5_9, .int 0, .int 0])), (e5_9, .inl (cA_10, 64, .inl f_11)), (q_63, .inr (0, [.ref e0_64, .ref e1_65, .ref e2_66, .ref e3_67, .ref e4_68, .ref e5_69, .int 0, .int 0])), (e5_69, .inl (cA_70, 64, .inl f_71))] := hD
  have hz_6 : f_72 0 = some q_3 := by rw [hf_72]; exact hz_5
  have hP := hP.sub (ws' := [(h0, .inr (5, [.ref q_1, .int 0])), (q_1, .inl (cA_2, 10, .inr (.inr (.inr (.inr f_72))))), (q_3, .inr (0, [.ref e0_4, .ref e1_5, .ref e2_6, .ref e3_7, .ref e4_8, .ref e5_9, .int 0, .int 0])), (e5_9, .inl (cA_10, 64, .inl f_11))]) [0, 1, 2, 3] rfl
  have hD := hD.sub (ws' := [(h0, .inr (5, [.ref q_1, .int 0])), (q_1, .inl (cA_2, 10, .inr (.inr (.inr (.inr f_72))))), (q_3, .inr (0, [.ref e0_4, .ref e1_5, .ref e2_6, .ref e3_7, .ref e4_8, .ref e5_9, .int 0, .int 0])), (e5_9, .inl (cA_10, 64, .inl f_11))]) [0, 1, 2, 3] (by decide) rfl
  have hK := hK.sub (tys' := [(cA_2, .object RX0), (cA_10, .int)]) [0, 1] rfl
  refine lv_iinc (v := 7) (lv' := [(1, .int 7), (0, .ref h0)]) hx hb dX5_init_34 hl (k := 0) rfl (by decide) (by decide) rfl (fun ls hl => ?_)
  refine lv_goto (tgt := 15) hx hb dX5_init_37 (by decide) ?_
  refine lv_iload_n hx hb dX5_init_15 rfl (lv_at hl 0 rfl) ?_
  refine lv_bipush (v := 10) hx hb dX5_init_16 (by decide) ?_
  refine lv_icmp_ge (tgt := 40) hx hb dX5_init_18 (by decide) (fun h => absurd h (by decide)) (fun _ => ?_)
  refine lv_aload_n hx hb dX5_init_21 rfl (lv_at hl 1 rfl) ?_
  refine va_get (D := (dC, dI)) (ci := 5) (v := .ref q_1) (C := RX5) (T := TX5) (N := 2) hx hb hT iX5 hown hK hP 0 rfl rfl 0 (by decide) (hT _ w183) (fun _ h9 => h9) rfl dX5_init_22 ?_
  refine lv_iload_n hx hb dX5_init_25 rfl (lv_at hl 0 rfl) ?_
  refine va_new (ci := 0) (fs := [.null, .null, .null, .null, .null, .null, .int 0, .int 0]) (C := RX0) (T := TX0) (N := 8) hx hb hT iX0 tyX0 tyX0_ok hown (hT _ w180) (hT _ w79) (hT _ w5) hK hP hD hS hA rfl (fun j hj => by rcases (show j = 0 ∨ j = 1 ∨ j = 2 ∨ j = 3 ∨ j = 4 ∨ j = 5 ∨ j = 6 ∨ j = 7 by omega) with rfl | rfl | rfl | rfl | rfl | rfl | rfl | rfl <;> rfl) (Nat.le_of_ble_eq_true rfl) (Nat.le_of_ble_eq_true rfl) dX5_init_26 (fun q_73 H hP hD hS => ?_)
  have hP : va_P (dC, dI) vwCl [(h0, .inr (5, [.ref q_1, .int 0])), (q_1, .inl (cA_2, 10, .inr (.inr (.inr (.inr f_72))))), (q_3, .inr (0, [.ref e0_4, .ref e1_5, .ref e2_6, .ref e3_7, .ref e4_8, .ref e5_9, .int 0, .int 0])), (e5_9, .inl (cA_10, 64, .inl f_11)), (q_73, .inr (0, [.null, .null, .null, .null, .null, .null, .int 0, .int 0]))] H := hP
  have hD : va_D A [(h0, .inr (5, [.ref q_1, .int 0])), (q_1, .inl (cA_2, 10, .inr (.inr (.inr (.inr f_72))))), (q_3, .inr (0, [.ref e0_4, .ref e1_5, .ref e2_6, .ref e3_7, .ref e4_8, .ref e5_9, .int 0, .int 0])), (e5_9, .inl (cA_10, 64, .inl f_11)), (q_73, .inr (0, [.null, .null, .null, .null, .null, .null, .int 0, .int 0]))] := hD
  refine W.widen (k := 51) (n := 1922) (Nat.le_of_ble_eq_true rfl) (Nat.le_of_ble_eq_true rfl) ?_
  refine lv_dup hx hb dX5_init_29 rfl ?_
  have hPc := hP.sub (ws' := [(q_73, .inr (0, [.null, .null, .null, .null, .null, .null, .int 0, .int 0]))]) [4] rfl
  have hDc := hD.sub (ws' := [(q_73, .inr (0, [.null, .null, .null, .null, .null, .null, .int 0, .int 0]))]) [4] (by decide) rfl
  have hKc := hK.sub (tys' := []) [] rfl
  have hFc := va_free (wc := [(q_73, .inr (0, [.null, .null, .null, .null, .null, .null, .int 0, .int 0]))]) hD hS hA [4] rfl
  refine va_callv (va_runI (As := []) (rest := [.ref q_73, .int 7, .ref q_1]) ⟨hx, hb, hml, hown, hT⟩ (k_Book l dC dI q_73 H.size) (cwI 0 hT (gT w82) rfl rfl rfl (hT _ w5) (hT _ w182) (hT _ w81) rfl (by decide +kernel) ⟨(Nat.le_of_ble_eq_true rfl), (Nat.le_of_ble_eq_true rfl)⟩) ⟨pcW.blind, pcW.pre hPc hKc hDc⟩ rfl rfl hl.1 rfl (lv_room (Nat.le_of_ble_eq_true rfl)) dX5_init_30 ⟨(Nat.le_of_ble_eq_true rfl), (Nat.le_of_ble_eq_true rfl)⟩) hS (fun q _ h => hFc q h) hFc (fun u t H1 locs ht hvm hw hB hz1 hk1 hS => ?_)
  obtain ⟨e0_74, e1_75, e2_76, e3_77, e4_78, e5_79, cA_80, f_81, hP1, hK1, hD1⟩ := hB
  rw [ht] at hP1
  have hK1 := va_K.moved hvm.symm hK1
  obtain ⟨hP, hD⟩ := va_join (wr := [(h0, .inr (5, [.ref q_1, .int 0])), (q_1, .inl (cA_2, 10, .inr (.inr (.inr (.inr f_72))))), (q_3, .inr (0, [.ref e0_4, .ref e1_5, .ref e2_6, .ref e3_7, .ref e4_8, .ref e5_9, .int 0, .int 0])), (e5_9, .inl (cA_10, 64, .inl f_11))]) (w1 := [(q_73, .inr (0, [.ref e0_74, .ref e1_75, .ref e2_76, .ref e3_77, .ref e4_78, .ref e5_79, .int 0, .int 0])), (e5_79, .inl (cA_80, 64, .inl f_81))]) hP hD [4] [0, 1, 2, 3] rfl rfl (by decide) (by decide) hk1 hFc hP1 hD1
  have hK := hK.app hK1
  generalize H1 = H at hP hS ⊢
  have hP : va_P (dC, dI) vwCl [(h0, .inr (5, [.ref q_1, .int 0])), (q_1, .inl (cA_2, 10, .inr (.inr (.inr (.inr f_72))))), (q_3, .inr (0, [.ref e0_4, .ref e1_5, .ref e2_6, .ref e3_7, .ref e4_8, .ref e5_9, .int 0, .int 0])), (e5_9, .inl (cA_10, 64, .inl f_11)), (q_73, .inr (0, [.ref e0_74, .ref e1_75, .ref e2_76, .ref e3_77, .ref e4_78, .ref e5_79, .int 0, .int 0])), (e5_79, .inl (cA_80, 64, .inl f_81))] H := hP
  have hD : va_D A [(h0, .inr (5, [.ref q_1, .int 0])), (q_1, .inl (cA_2, 10, .inr (.inr (.inr (.inr f_72))))), (q_3, .inr (0, [.ref e0_4, .ref e1_5, .ref e2_6, .ref e3_7, .ref e4_8, .ref e5_9, .int 0, .int 0])), (e5_9, .inl (cA_10, 64, .inl f_11)), (q_73, .inr (0, [.ref e0_74, .ref e1_75, .ref e2_76, .ref e3_77, .ref e4_78, .ref e5_79, .int 0, .int 0])), (e5_79, .inl (cA_80, 64, .inl f_81))] := hD
  have hK : va_K (dC, dI) vwCl [(cA_2, .object RX0), (cA_10, .int), (cA_80, .int)] s := hK
  refine W.widen (k := 57) (n := 2186) (Nat.le_of_ble_eq_true rfl) (Nat.le_of_ble_eq_true rfl) ?_
  refine va_astq hx hb hK hP hD hS 1 0 4 0 rfl rfl rfl rfl (by unfold vp_in; decide) dX5_init_33 (fun H locs hP hD hS => ?_)
  obtain ⟨f_82, hf_82⟩ : ∃ f : Nat → Option Nat, f = va_up f_72 (7 : Int32).toNatClampNeg (some q_73) := ⟨_, rfl⟩
  rw [← hf_82] at hP hD
  have hP : va_P (dC, dI) vwCl [(h0, .inr (5, [.ref q_1, .int 0])), (q_1, .inl (cA_2, 10, .inr (.inr (.inr (.inr f_82))))), (q_3, .inr (0, [.ref e0_4, .ref e1_5, .ref e2_6, .ref e3_7, .ref e4_8, .ref e5_9, .int 0, .int 0])), (e5_9, .inl (cA_10, 64, .inl f_11)), (q_73, .inr (0, [.ref e0_74, .ref e1_75, .ref e2_76, .ref e3_77, .ref e4_78, .ref e5_79, .int 0, .int 0])), (e5_79, .inl (cA_80, 64, .inl f_81))] H := hP
  have hD : va_D A [(h0, .inr (5, [.ref q_1, .int 0])), (q_1, .inl (cA_2, 10, .inr (.inr (.inr (.inr f_82))))), (q_3, .inr (0, [.ref e0_4, .ref e1_5, .ref e2_6, .ref e3_7, .ref e4_8, .ref e5_9, .int 0, .int 0])), (e5_9, .inl (cA_10, 64, .inl f_11)), (q_73, .inr (0, [.ref e0_74, .ref e1_75, .ref e2_76, .ref e3_77, .ref e4_78, .ref e5_79, .int 0, .int 0])), (e5_79, .inl (cA_80, 64, .inl f_81))] := hD
  have hz_7 : f_82 0 = some q_3 := by rw [hf_82]; exact hz_6
  have hP := hP.sub (ws' := [(h0, .inr (5, [.ref q_1, .int 0])), (q_1, .inl (cA_2, 10, .inr (.inr (.inr (.inr f_82))))), (q_3, .inr (0, [.ref e0_4, .ref e1_5, .ref e2_6, .ref e3_7, .ref e4_8, .ref e5_9, .int 0, .int 0])), (e5_9, .inl (cA_10, 64, .inl f_11))]) [0, 1, 2, 3] rfl
  have hD := hD.sub (ws' := [(h0, .inr (5, [.ref q_1, .int 0])), (q_1, .inl (cA_2, 10, .inr (.inr (.inr (.inr f_82))))), (q_3, .inr (0, [.ref e0_4, .ref e1_5, .ref e2_6, .ref e3_7, .ref e4_8, .ref e5_9, .int 0, .int 0])), (e5_9, .inl (cA_10, 64, .inl f_11))]) [0, 1, 2, 3] (by decide) rfl
  have hK := hK.sub (tys' := [(cA_2, .object RX0), (cA_10, .int)]) [0, 1] rfl
  refine lv_iinc (v := 8) (lv' := [(1, .int 8), (0, .ref h0)]) hx hb dX5_init_34 hl (k := 0) rfl (by decide) (by decide) rfl (fun ls hl => ?_)
  refine lv_goto (tgt := 15) hx hb dX5_init_37 (by decide) ?_
  refine lv_iload_n hx hb dX5_init_15 rfl (lv_at hl 0 rfl) ?_
  refine lv_bipush (v := 10) hx hb dX5_init_16 (by decide) ?_
  refine lv_icmp_ge (tgt := 40) hx hb dX5_init_18 (by decide) (fun h => absurd h (by decide)) (fun _ => ?_)
  refine lv_aload_n hx hb dX5_init_21 rfl (lv_at hl 1 rfl) ?_
  refine va_get (D := (dC, dI)) (ci := 5) (v := .ref q_1) (C := RX5) (T := TX5) (N := 2) hx hb hT iX5 hown hK hP 0 rfl rfl 0 (by decide) (hT _ w183) (fun _ h9 => h9) rfl dX5_init_22 ?_
  refine lv_iload_n hx hb dX5_init_25 rfl (lv_at hl 0 rfl) ?_
  refine va_new (ci := 0) (fs := [.null, .null, .null, .null, .null, .null, .int 0, .int 0]) (C := RX0) (T := TX0) (N := 8) hx hb hT iX0 tyX0 tyX0_ok hown (hT _ w180) (hT _ w79) (hT _ w5) hK hP hD hS hA rfl (fun j hj => by rcases (show j = 0 ∨ j = 1 ∨ j = 2 ∨ j = 3 ∨ j = 4 ∨ j = 5 ∨ j = 6 ∨ j = 7 by omega) with rfl | rfl | rfl | rfl | rfl | rfl | rfl | rfl <;> rfl) (Nat.le_of_ble_eq_true rfl) (Nat.le_of_ble_eq_true rfl) dX5_init_26 (fun q_83 H hP hD hS => ?_)
  have hP : va_P (dC, dI) vwCl [(h0, .inr (5, [.ref q_1, .int 0])), (q_1, .inl (cA_2, 10, .inr (.inr (.inr (.inr f_82))))), (q_3, .inr (0, [.ref e0_4, .ref e1_5, .ref e2_6, .ref e3_7, .ref e4_8, .ref e5_9, .int 0, .int 0])), (e5_9, .inl (cA_10, 64, .inl f_11)), (q_83, .inr (0, [.null, .null, .null, .null, .null, .null, .int 0, .int 0]))] H := hP
  have hD : va_D A [(h0, .inr (5, [.ref q_1, .int 0])), (q_1, .inl (cA_2, 10, .inr (.inr (.inr (.inr f_82))))), (q_3, .inr (0, [.ref e0_4, .ref e1_5, .ref e2_6, .ref e3_7, .ref e4_8, .ref e5_9, .int 0, .int 0])), (e5_9, .inl (cA_10, 64, .inl f_11)), (q_83, .inr (0, [.null, .null, .null, .null, .null, .null, .int 0, .int 0]))] := hD
  refine W.widen (k := 58) (n := 2194) (Nat.le_of_ble_eq_true rfl) (Nat.le_of_ble_eq_true rfl) ?_
  refine lv_dup hx hb dX5_init_29 rfl ?_
  have hPc := hP.sub (ws' := [(q_83, .inr (0, [.null, .null, .null, .null, .null, .null, .int 0, .int 0]))]) [4] rfl
  have hDc := hD.sub (ws' := [(q_83, .inr (0, [.null, .null, .null, .null, .null, .null, .int 0, .int 0]))]) [4] (by decide) rfl
  have hKc := hK.sub (tys' := []) [] rfl
  have hFc := va_free (wc := [(q_83, .inr (0, [.null, .null, .null, .null, .null, .null, .int 0, .int 0]))]) hD hS hA [4] rfl
  refine va_callv (va_runI (As := []) (rest := [.ref q_83, .int 8, .ref q_1]) ⟨hx, hb, hml, hown, hT⟩ (k_Book l dC dI q_83 H.size) (cwI 0 hT (gT w82) rfl rfl rfl (hT _ w5) (hT _ w182) (hT _ w81) rfl (by decide +kernel) ⟨(Nat.le_of_ble_eq_true rfl), (Nat.le_of_ble_eq_true rfl)⟩) ⟨pcW.blind, pcW.pre hPc hKc hDc⟩ rfl rfl hl.1 rfl (lv_room (Nat.le_of_ble_eq_true rfl)) dX5_init_30 ⟨(Nat.le_of_ble_eq_true rfl), (Nat.le_of_ble_eq_true rfl)⟩) hS (fun q _ h => hFc q h) hFc (fun u t H1 locs ht hvm hw hB hz1 hk1 hS => ?_)
  obtain ⟨e0_84, e1_85, e2_86, e3_87, e4_88, e5_89, cA_90, f_91, hP1, hK1, hD1⟩ := hB
  rw [ht] at hP1
  have hK1 := va_K.moved hvm.symm hK1
  obtain ⟨hP, hD⟩ := va_join (wr := [(h0, .inr (5, [.ref q_1, .int 0])), (q_1, .inl (cA_2, 10, .inr (.inr (.inr (.inr f_82))))), (q_3, .inr (0, [.ref e0_4, .ref e1_5, .ref e2_6, .ref e3_7, .ref e4_8, .ref e5_9, .int 0, .int 0])), (e5_9, .inl (cA_10, 64, .inl f_11))]) (w1 := [(q_83, .inr (0, [.ref e0_84, .ref e1_85, .ref e2_86, .ref e3_87, .ref e4_88, .ref e5_89, .int 0, .int 0])), (e5_89, .inl (cA_90, 64, .inl f_91))]) hP hD [4] [0, 1, 2, 3] rfl rfl (by decide) (by decide) hk1 hFc hP1 hD1
  have hK := hK.app hK1
  generalize H1 = H at hP hS ⊢
  have hP : va_P (dC, dI) vwCl [(h0, .inr (5, [.ref q_1, .int 0])), (q_1, .inl (cA_2, 10, .inr (.inr (.inr (.inr f_82))))), (q_3, .inr (0, [.ref e0_4, .ref e1_5, .ref e2_6, .ref e3_7, .ref e4_8, .ref e5_9, .int 0, .int 0])), (e5_9, .inl (cA_10, 64, .inl f_11)), (q_83, .inr (0, [.ref e0_84, .ref e1_85, .ref e2_86, .ref e3_87, .ref e4_88, .ref e5_89, .int 0, .int 0])), (e5_89, .inl (cA_90, 64, .inl f_91))] H := hP
  have hD : va_D A [(h0, .inr (5, [.ref q_1, .int 0])), (q_1, .inl (cA_2, 10, .inr (.inr (.inr (.inr f_82))))), (q_3, .inr (0, [.ref e0_4, .ref e1_5, .ref e2_6, .ref e3_7, .ref e4_8, .ref e5_9, .int 0, .int 0])), (e5_9, .inl (cA_10, 64, .inl f_11)), (q_83, .inr (0, [.ref e0_84, .ref e1_85, .ref e2_86, .ref e3_87, .ref e4_88, .ref e5_89, .int 0, .int 0])), (e5_89, .inl (cA_90, 64, .inl f_91))] := hD
  have hK : va_K (dC, dI) vwCl [(cA_2, .object RX0), (cA_10, .int), (cA_90, .int)] s := hK
  refine W.widen (k := 64) (n := 2458) (Nat.le_of_ble_eq_true rfl) (Nat.le_of_ble_eq_true rfl) ?_
  refine va_astq hx hb hK hP hD hS 1 0 4 0 rfl rfl rfl rfl (by unfold vp_in; decide) dX5_init_33 (fun H locs hP hD hS => ?_)
  obtain ⟨f_92, hf_92⟩ : ∃ f : Nat → Option Nat, f = va_up f_82 (8 : Int32).toNatClampNeg (some q_83) := ⟨_, rfl⟩
  rw [← hf_92] at hP hD
  have hP : va_P (dC, dI) vwCl [(h0, .inr (5, [.ref q_1, .int 0])), (q_1, .inl (cA_2, 10, .inr (.inr (.inr (.inr f_92))))), (q_3, .inr (0, [.ref e0_4, .ref e1_5, .ref e2_6, .ref e3_7, .ref e4_8, .ref e5_9, .int 0, .int 0])), (e5_9, .inl (cA_10, 64, .inl f_11)), (q_83, .inr (0, [.ref e0_84, .ref e1_85, .ref e2_86, .ref e3_87, .ref e4_88, .ref e5_89, .int 0, .int 0])), (e5_89, .inl (cA_90, 64, .inl f_91))] H := hP
  have hD : va_D A [(h0, .inr (5, [.ref q_1, .int 0])), (q_1, .inl (cA_2, 10, .inr (.inr (.inr (.inr f_92))))), (q_3, .inr (0, [.ref e0_4, .ref e1_5, .ref e2_6, .ref e3_7, .ref e4_8, .ref e5_9, .int 0, .int 0])), (e5_9, .inl (cA_10, 64, .inl f_11)), (q_83, .inr (0, [.ref e0_84, .ref e1_85, .ref e2_86, .ref e3_87, .ref e4_88, .ref e5_89, .int 0, .int 0])), (e5_89, .inl (cA_90, 64, .inl f_91))] := hD
  have hz_8 : f_92 0 = some q_3 := by rw [hf_92]; exact hz_7
  have hP := hP.sub (ws' := [(h0, .inr (5, [.ref q_1, .int 0])), (q_1, .inl (cA_2, 10, .inr (.inr (.inr (.inr f_92))))), (q_3, .inr (0, [.ref e0_4, .ref e1_5, .ref e2_6, .ref e3_7, .ref e4_8, .ref e5_9, .int 0, .int 0])), (e5_9, .inl (cA_10, 64, .inl f_11))]) [0, 1, 2, 3] rfl
  have hD := hD.sub (ws' := [(h0, .inr (5, [.ref q_1, .int 0])), (q_1, .inl (cA_2, 10, .inr (.inr (.inr (.inr f_92))))), (q_3, .inr (0, [.ref e0_4, .ref e1_5, .ref e2_6, .ref e3_7, .ref e4_8, .ref e5_9, .int 0, .int 0])), (e5_9, .inl (cA_10, 64, .inl f_11))]) [0, 1, 2, 3] (by decide) rfl
  have hK := hK.sub (tys' := [(cA_2, .object RX0), (cA_10, .int)]) [0, 1] rfl
  refine lv_iinc (v := 9) (lv' := [(1, .int 9), (0, .ref h0)]) hx hb dX5_init_34 hl (k := 0) rfl (by decide) (by decide) rfl (fun ls hl => ?_)
  refine lv_goto (tgt := 15) hx hb dX5_init_37 (by decide) ?_
  refine lv_iload_n hx hb dX5_init_15 rfl (lv_at hl 0 rfl) ?_
  refine lv_bipush (v := 10) hx hb dX5_init_16 (by decide) ?_
  refine lv_icmp_ge (tgt := 40) hx hb dX5_init_18 (by decide) (fun h => absurd h (by decide)) (fun _ => ?_)
  refine lv_aload_n hx hb dX5_init_21 rfl (lv_at hl 1 rfl) ?_
  refine va_get (D := (dC, dI)) (ci := 5) (v := .ref q_1) (C := RX5) (T := TX5) (N := 2) hx hb hT iX5 hown hK hP 0 rfl rfl 0 (by decide) (hT _ w183) (fun _ h9 => h9) rfl dX5_init_22 ?_
  refine lv_iload_n hx hb dX5_init_25 rfl (lv_at hl 0 rfl) ?_
  refine va_new (ci := 0) (fs := [.null, .null, .null, .null, .null, .null, .int 0, .int 0]) (C := RX0) (T := TX0) (N := 8) hx hb hT iX0 tyX0 tyX0_ok hown (hT _ w180) (hT _ w79) (hT _ w5) hK hP hD hS hA rfl (fun j hj => by rcases (show j = 0 ∨ j = 1 ∨ j = 2 ∨ j = 3 ∨ j = 4 ∨ j = 5 ∨ j = 6 ∨ j = 7 by omega) with rfl | rfl | rfl | rfl | rfl | rfl | rfl | rfl <;> rfl) (Nat.le_of_ble_eq_true rfl) (Nat.le_of_ble_eq_true rfl) dX5_init_26 (fun q_93 H hP hD hS => ?_)
  have hP : va_P (dC, dI) vwCl [(h0, .inr (5, [.ref q_1, .int 0])), (q_1, .inl (cA_2, 10, .inr (.inr (.inr (.inr f_92))))), (q_3, .inr (0, [.ref e0_4, .ref e1_5, .ref e2_6, .ref e3_7, .ref e4_8, .ref e5_9, .int 0, .int 0])), (e5_9, .inl (cA_10, 64, .inl f_11)), (q_93, .inr (0, [.null, .null, .null, .null, .null, .null, .int 0, .int 0]))] H := hP
  have hD : va_D A [(h0, .inr (5, [.ref q_1, .int 0])), (q_1, .inl (cA_2, 10, .inr (.inr (.inr (.inr f_92))))), (q_3, .inr (0, [.ref e0_4, .ref e1_5, .ref e2_6, .ref e3_7, .ref e4_8, .ref e5_9, .int 0, .int 0])), (e5_9, .inl (cA_10, 64, .inl f_11)), (q_93, .inr (0, [.null, .null, .null, .null, .null, .null, .int 0, .int 0]))] := hD
  refine W.widen (k := 65) (n := 2466) (Nat.le_of_ble_eq_true rfl) (Nat.le_of_ble_eq_true rfl) ?_
  refine lv_dup hx hb dX5_init_29 rfl ?_
  have hPc := hP.sub (ws' := [(q_93, .inr (0, [.null, .null, .null, .null, .null, .null, .int 0, .int 0]))]) [4] rfl
  have hDc := hD.sub (ws' := [(q_93, .inr (0, [.null, .null, .null, .null, .null, .null, .int 0, .int 0]))]) [4] (by decide) rfl
  have hKc := hK.sub (tys' := []) [] rfl
  have hFc := va_free (wc := [(q_93, .inr (0, [.null, .null, .null, .null, .null, .null, .int 0, .int 0]))]) hD hS hA [4] rfl
  refine va_callv (va_runI (As := []) (rest := [.ref q_93, .int 9, .ref q_1]) ⟨hx, hb, hml, hown, hT⟩ (k_Book l dC dI q_93 H.size) (cwI 0 hT (gT w82) rfl rfl rfl (hT _ w5) (hT _ w182) (hT _ w81) rfl (by decide +kernel) ⟨(Nat.le_of_ble_eq_true rfl), (Nat.le_of_ble_eq_true rfl)⟩) ⟨pcW.blind, pcW.pre hPc hKc hDc⟩ rfl rfl hl.1 rfl (lv_room (Nat.le_of_ble_eq_true rfl)) dX5_init_30 ⟨(Nat.le_of_ble_eq_true rfl), (Nat.le_of_ble_eq_true rfl)⟩) hS (fun q _ h => hFc q h) hFc (fun u t H1 locs ht hvm hw hB hz1 hk1 hS => ?_)
  obtain ⟨e0_94, e1_95, e2_96, e3_97, e4_98, e5_99, cA_100, f_101, hP1, hK1, hD1⟩ := hB
  rw [ht] at hP1
  have hK1 := va_K.moved hvm.symm hK1
  obtain ⟨hP, hD⟩ := va_join (wr := [(h0, .inr (5, [.ref q_1, .int 0])), (q_1, .inl (cA_2, 10, .inr (.inr (.inr (.inr f_92))))), (q_3, .inr (0, [.ref e0_4, .ref e1_5, .ref e2_6, .ref e3_7, .ref e4_8, .ref e5_9, .int 0, .int 0])), (e5_9, .inl (cA_10, 64, .inl f_11))]) (w1 := [(q_93, .inr (0, [.ref e0_94, .ref e1_95, .ref e2_96, .ref e3_97, .ref e4_98, .ref e5_99, .int 0, .int 0])), (e5_99, .inl (cA_100, 64, .inl f_101))]) hP hD [4] [0, 1, 2, 3] rfl rfl (by decide) (by decide) hk1 hFc hP1 hD1
  have hK := hK.app hK1
  generalize H1 = H at hP hS ⊢
  have hP : va_P (dC, dI) vwCl [(h0, .inr (5, [.ref q_1, .int 0])), (q_1, .inl (cA_2, 10, .inr (.inr (.inr (.inr f_92))))), (q_3, .inr (0, [.ref e0_4, .ref e1_5, .ref e2_6, .ref e3_7, .ref e4_8, .ref e5_9, .int 0, .int 0])), (e5_9, .inl (cA_10, 64, .inl f_11)), (q_93, .inr (0, [.ref e0_94, .ref e1_95, .ref e2_96, .ref e3_97, .ref e4_98, .ref e5_99, .int 0, .int 0])), (e5_99, .inl (cA_100, 64, .inl f_101))] H := hP
  have hD : va_D A [(h0, .inr (5, [.ref q_1, .int 0])), (q_1, .inl (cA_2, 10, .inr (.inr (.inr (.inr f_92))))), (q_3, .inr (0, [.ref e0_4, .ref e1_5, .ref e2_6, .ref e3_7, .ref e4_8, .ref e5_9, .int 0, .int 0])), (e5_9, .inl (cA_10, 64, .inl f_11)), (q_93, .inr (0, [.ref e0_94, .ref e1_95, .ref e2_96, .ref e3_97, .ref e4_98, .ref e5_99, .int 0, .int 0])), (e5_99, .inl (cA_100, 64, .inl f_101))] := hD
  have hK : va_K (dC, dI) vwCl [(cA_2, .object RX0), (cA_10, .int), (cA_100, .int)] s := hK
  refine W.widen (k := 71) (n := 2730) (Nat.le_of_ble_eq_true rfl) (Nat.le_of_ble_eq_true rfl) ?_
  refine va_astq hx hb hK hP hD hS 1 0 4 0 rfl rfl rfl rfl (by unfold vp_in; decide) dX5_init_33 (fun H locs hP hD hS => ?_)
  obtain ⟨f_102, hf_102⟩ : ∃ f : Nat → Option Nat, f = va_up f_92 (9 : Int32).toNatClampNeg (some q_93) := ⟨_, rfl⟩
  rw [← hf_102] at hP hD
  have hP : va_P (dC, dI) vwCl [(h0, .inr (5, [.ref q_1, .int 0])), (q_1, .inl (cA_2, 10, .inr (.inr (.inr (.inr f_102))))), (q_3, .inr (0, [.ref e0_4, .ref e1_5, .ref e2_6, .ref e3_7, .ref e4_8, .ref e5_9, .int 0, .int 0])), (e5_9, .inl (cA_10, 64, .inl f_11)), (q_93, .inr (0, [.ref e0_94, .ref e1_95, .ref e2_96, .ref e3_97, .ref e4_98, .ref e5_99, .int 0, .int 0])), (e5_99, .inl (cA_100, 64, .inl f_101))] H := hP
  have hD : va_D A [(h0, .inr (5, [.ref q_1, .int 0])), (q_1, .inl (cA_2, 10, .inr (.inr (.inr (.inr f_102))))), (q_3, .inr (0, [.ref e0_4, .ref e1_5, .ref e2_6, .ref e3_7, .ref e4_8, .ref e5_9, .int 0, .int 0])), (e5_9, .inl (cA_10, 64, .inl f_11)), (q_93, .inr (0, [.ref e0_94, .ref e1_95, .ref e2_96, .ref e3_97, .ref e4_98, .ref e5_99, .int 0, .int 0])), (e5_99, .inl (cA_100, 64, .inl f_101))] := hD
  have hz_9 : f_102 0 = some q_3 := by rw [hf_102]; exact hz_8
  have hP := hP.sub (ws' := [(h0, .inr (5, [.ref q_1, .int 0])), (q_1, .inl (cA_2, 10, .inr (.inr (.inr (.inr f_102))))), (q_3, .inr (0, [.ref e0_4, .ref e1_5, .ref e2_6, .ref e3_7, .ref e4_8, .ref e5_9, .int 0, .int 0])), (e5_9, .inl (cA_10, 64, .inl f_11))]) [0, 1, 2, 3] rfl
  have hD := hD.sub (ws' := [(h0, .inr (5, [.ref q_1, .int 0])), (q_1, .inl (cA_2, 10, .inr (.inr (.inr (.inr f_102))))), (q_3, .inr (0, [.ref e0_4, .ref e1_5, .ref e2_6, .ref e3_7, .ref e4_8, .ref e5_9, .int 0, .int 0])), (e5_9, .inl (cA_10, 64, .inl f_11))]) [0, 1, 2, 3] (by decide) rfl
  have hK := hK.sub (tys' := [(cA_2, .object RX0), (cA_10, .int)]) [0, 1] rfl
  refine lv_iinc (v := 10) (lv' := [(1, .int 10), (0, .ref h0)]) hx hb dX5_init_34 hl (k := 0) rfl (by decide) (by decide) rfl (fun ls hl => ?_)
  refine lv_goto (tgt := 15) hx hb dX5_init_37 (by decide) ?_
  refine lv_iload_n hx hb dX5_init_15 rfl (lv_at hl 0 rfl) ?_
  refine lv_bipush (v := 10) hx hb dX5_init_16 (by decide) ?_
  refine lv_icmp_ge (tgt := 40) hx hb dX5_init_18 (by decide) (fun _ => ?_) (fun h => absurd (by decide) h)
  refine W.widen (k := 71) (n := 2730) (Nat.le_of_ble_eq_true rfl) (Nat.le_of_ble_eq_true rfl) ?_
  have hP9 := hP.sub (ws' := [(h0, .inr (5, [.ref q_1, .int 0])), (q_1, .inl (cA_2, 10, .inr (.inr (.inr (.inr f_102))))), (q_3, .inr (0, [.ref e0_4, .ref e1_5, .ref e2_6, .ref e3_7, .ref e4_8, .ref e5_9, .int 0, .int 0])), (e5_9, .inl (cA_10, 64, .inl f_11))]) [0, 1, 2, 3] rfl
  have hD9 := hD.sub (ws' := [(h0, .inr (5, [.ref q_1, .int 0])), (q_1, .inl (cA_2, 10, .inr (.inr (.inr (.inr f_102))))), (q_3, .inr (0, [.ref e0_4, .ref e1_5, .ref e2_6, .ref e3_7, .ref e4_8, .ref e5_9, .int 0, .int 0])), (e5_9, .inl (cA_10, 64, .inl f_11))]) [0, 1, 2, 3] (by decide) rfl
  have hK9 := hK.sub (tys' := [(cA_2, .object RX0), (cA_10, .int)]) [0, 1] rfl
  exact W.vret hx hb hr (fun t ht hW => ⟨⟨(), rfl, trivial, q_1, cA_2, f_102, q_3, e0_4, e1_5, e2_6, e3_7, e4_8, e5_9, cA_10, f_11, hz_9, by rw [ht]; exact hP9, va_K.moved hW.alike hK9, hD9⟩, hS.F ht⟩) hS.2.2 dX5_init_40

set_option maxHeartbeats 4000000 in
set_option maxRecDepth 100000 in
theorem k_Reader (l : Launch) (dC : Nat → ClassId) (dI : Nat → Nat → Nat) (h0 : Nat) (a0 : Nat) (tb : Nat) (sz : Nat) : Met l yX6_init (wT yX6_init cX6_init 2 none) ({ frames := 2, cells := 10, slots := 384, locals := 43 }) (pcN dC dI [.ref h0, .ref a0] sz [(h0, .inr (6, [.int 0, .int 0, .null, .null, .null, .int 0, .int 0, .int 0, .int 0, .int 0])), (a0, .inr (10, [.ref tb, .int 0]))] [] [(RX6, 17, yX3_init, RX11)] []) (va_Qv (fun _ : Unit => True) (fun _ t => ∃ rn : Nat, ∃ rb : Nat, ∃ l0 : Nat, ∃ l1 : Nat, ∃ r0 : Nat, ∃ r1 : Nat, ∃ r2 : Nat, ∃ r3 : Nat, ∃ r4 : Nat, ∃ r5 : Nat, ∃ cR : ClassId, ∃ fr : Nat → Int32, pB dC dI (va_A [(h0, .inr (6, [.int 0, .int 0, .null, .null, .null, .int 0, .int 0, .int 0, .int 0, .int 0])), (a0, .inr (10, [.ref tb, .int 0]))] sz) [(h0, .inr (6, [.int 0, .int (-1), .ref rn, .ref rb, .ref tb, .int 0, .int 0, .int 0, .int 0, .int 0])), (a0, .inr (10, [.ref tb, .int 0])), (rn, .inr (3, [.ref l0, .ref l1, .int 0, .int 0])), (rb, .inr (0, [.ref r0, .ref r1, .ref r2, .ref r3, .ref r4, .ref r5, .int 0, .int 0])), (r5, .inl (cR, 64, .inl fr))] [(cR, .int)] t) (va_A [(h0, .inr (6, [.int 0, .int 0, .null, .null, .null, .int 0, .int 0, .int 0, .int 0, .int 0])), (a0, .inr (10, [.ref tb, .int 0]))] sz)) 10 384 (va_A [(h0, .inr (6, [.int 0, .int 0, .null, .null, .null, .int 0, .int 0, .int 0, .int 0, .int 0])), (a0, .inr (10, [.ref tb, .int 0]))] sz) := by
  refine Met.ofW (cc := cX6_init) (maxL := 2) (ret := none) (by decide) rfl ?_
  intro p e s m args below meth c s₁ B hml hv
  obtain ⟨rfl, hsz, hP, hK, hD0, hN, hO⟩ := hv
  have hx := B.exec
  have hb := B.bytes
  have hr := B.returns
  have hT : ∀ w ∈ TB, w.before [.ref h0, .ref a0].toArray s = true := fun w h => atoms_spec (ws := wT yX6_init cX6_init 2 none) B.pre w (List.mem_cons_of_mem _ h)
  have hown : s.vm.findClass RX6 = some m.cls := findClass_of_methodNamed B.named
  have hlocks := B.notSynchronized
  have hin : meth.name = "<init>" := (name_of_methodNamed B.named B.method).1
  subst hsz
  have hD := hD0.self (sz := s.heap.size)
  generalize hAe : va_A [(h0, .inr (6, [.int 0, .int 0, .null, .null, .null, .int 0, .int 0, .int 0, .int 0, .int 0])), (a0, .inr (10, [.ref tb, .int 0]))] s.heap.size = A at hD ⊢
  have hA : ∀ q : Nat, s.heap.size ≤ q → A q := fun q h => by rw [← hAe]; exact Or.inr h
  have hS : va_S A s.heap s.heap [] := va_S.rf
  have hP : va_P (dC, dI) vwCl [(h0, .inr (6, [.int 0, .int 0, .null, .null, .null, .int 0, .int 0, .int 0, .int 0, .int 0])), (a0, .inr (10, [.ref tb, .int 0]))] s.heap := hP
  have hl := lv_entry ([.ref h0, .ref a0]) (n := 2) (Nat.le_of_ble_eq_true rfl)
  rw [lg_entry_eq]
  generalize (lg_sl ([.ref h0, .ref a0]) ++ List.replicate (2 - (lg_sl ([.ref h0, .ref a0])).length) Slot.unset).toArray = ls at hl ⊢
  have hl : lv_has ls 2 [(0, .ref h0), (1, .ref a0)] := hl
  refine lv_aload_n hx hb dX6_init_0 rfl (lv_at hl 0 rfl) ?_
  refine W.objInit hx hb hown (hT _ w51) (hT _ w28) (hT _ w29) rfl (by rw [hml]; exact hl.1) rfl dX6_init_1 (Nat.le_of_ble_eq_true rfl) (Nat.le_of_ble_eq_true rfl) ?_
  refine W.eq (g2 := F0 m 4 ls []) rfl ?_
  refine lv_aload_n hx hb dX6_init_4 rfl (lv_at hl 0 rfl) ?_
  refine lv_iconst (v := (-1)) hx hb dX6_init_5 (by decide) ?_
  refine va_put (D := (dC, dI)) (ci := 6) (v := .int (-1)) (ty := .int) (C := RX6) (T := TX6) (N := 10) hx hb hT iX6 tyX6 tyX6_ok nmX6 hown hK hP hD hS 0 rfl rfl 1 (by decide) (hT _ w141) (fun _ h9 => h9) rfl (by decide +kernel) rfl rfl (Nat.le_of_ble_eq_true rfl) dX6_init_6 (fun H locs hP hD hS => ?_)
  have hP : va_P (dC, dI) vwCl [(h0, .inr (6, [.int 0, .int (-1), .null, .null, .null, .int 0, .int 0, .int 0, .int 0, .int 0])), (a0, .inr (10, [.ref tb, .int 0]))] H := hP
  have hD : va_D A [(h0, .inr (6, [.int 0, .int (-1), .null, .null, .null, .int 0, .int 0, .int 0, .int 0, .int 0])), (a0, .inr (10, [.ref tb, .int 0]))] := hD
  refine lv_aload_n hx hb dX6_init_9 rfl (lv_at hl 0 rfl) ?_
  refine va_new (ci := 3) (fs := [.null, .null, .int 0, .int 0]) (C := RX3) (T := TX3) (N := 4) hx hb hT iX3 tyX3 tyX3_ok hown (hT _ w52) (hT _ w53) (hT _ w4) hK hP hD hS hA rfl (fun j hj => by rcases (show j = 0 ∨ j = 1 ∨ j = 2 ∨ j = 3 by omega) with rfl | rfl | rfl | rfl <;> rfl) (Nat.le_of_ble_eq_true rfl) (Nat.le_of_ble_eq_true rfl) dX6_init_10 (fun q_1 H hP hD hS => ?_)
  have hP : va_P (dC, dI) vwCl [(h0, .inr (6, [.int 0, .int (-1), .null, .null, .null, .int 0, .int 0, .int 0, .int 0, .int 0])), (a0, .inr (10, [.ref tb, .int 0])), (q_1, .inr (3, [.null, .null, .int 0, .int 0]))] H := hP
  have hD : va_D A [(h0, .inr (6, [.int 0, .int (-1), .null, .null, .null, .int 0, .int 0, .int 0, .int 0, .int 0])), (a0, .inr (10, [.ref tb, .int 0])), (q_1, .inr (3, [.null, .null, .int 0, .int 0]))] := hD
  refine W.widen (k := 1) (n := 4) (Nat.le_of_ble_eq_true rfl) (Nat.le_of_ble_eq_true rfl) ?_
  refine lv_dup hx hb dX6_init_13 rfl ?_
  have hPc := hP.sub (ws' := [(q_1, .inr (3, [.null, .null, .int 0, .int 0]))]) [2] rfl
  have hDc := hD.sub (ws' := [(q_1, .inr (3, [.null, .null, .int 0, .int 0]))]) [2] (by decide) rfl
  have hKc := hK.sub (tys' := []) [] rfl
  have hFc := va_free (wc := [(q_1, .inr (3, [.null, .null, .int 0, .int 0]))]) hD hS hA [2] rfl
  refine va_callv (va_runIN (As := []) (rest := [.ref q_1, .ref h0]) ⟨hx, hb, hml, hown, hT⟩ (k_Names l dC dI q_1 H.size) ⟨va_cnB 0 hT (gT w56) rfl rfl rfl (hN (RX6, 17, yX3_init, RX11) (by decide +kernel)) (hT _ w4) (by decide +kernel) ⟨(Nat.le_of_ble_eq_true rfl), (Nat.le_of_ble_eq_true rfl)⟩, rfl, (hT _ w55)⟩ ⟨pcW.blind, pcW.pre hPc hKc hDc⟩ rfl rfl hl.1 rfl (lv_room (Nat.le_of_ble_eq_true rfl)) dX6_init_14 ⟨(Nat.le_of_ble_eq_true rfl), (Nat.le_of_ble_eq_true rfl)⟩) hS (fun q _ h => hFc q h) hFc (fun u t H1 locs ht hvm hw hB hz1 hk1 hS => ?_)
  obtain ⟨l0_2, l1_3, hP1, hK1, hD1⟩ := hB
  rw [ht] at hP1
  have hK1 := va_K.moved hvm.symm hK1
  obtain ⟨hP, hD⟩ := va_join (wr := [(h0, .inr (6, [.int 0, .int (-1), .null, .null, .null, .int 0, .int 0, .int 0, .int 0, .int 0])), (a0, .inr (10, [.ref tb, .int 0]))]) (w1 := [(q_1, .inr (3, [.ref l0_2, .ref l1_3, .int 0, .int 0]))]) hP hD [2] [0, 1] rfl rfl (by decide) (by decide) hk1 hFc hP1 hD1
  have hK := hK.app hK1
  generalize H1 = H at hP hS ⊢
  have hP : va_P (dC, dI) vwCl [(h0, .inr (6, [.int 0, .int (-1), .null, .null, .null, .int 0, .int 0, .int 0, .int 0, .int 0])), (a0, .inr (10, [.ref tb, .int 0])), (q_1, .inr (3, [.ref l0_2, .ref l1_3, .int 0, .int 0]))] H := hP
  have hD : va_D A [(h0, .inr (6, [.int 0, .int (-1), .null, .null, .null, .int 0, .int 0, .int 0, .int 0, .int 0])), (a0, .inr (10, [.ref tb, .int 0])), (q_1, .inr (3, [.ref l0_2, .ref l1_3, .int 0, .int 0]))] := hD
  have hK : va_K (dC, dI) vwCl [] s := hK
  refine W.widen (k := 3) (n := 112) (Nat.le_of_ble_eq_true rfl) (Nat.le_of_ble_eq_true rfl) ?_
  refine va_put (D := (dC, dI)) (ci := 6) (v := .ref q_1) (ty := .object "SwapPress$Names") (C := RX6) (T := TX6) (N := 10) hx hb hT iX6 tyX6 tyX6_ok nmX6 hown hK hP hD hS 0 rfl rfl 2 (by decide) (hT _ w143) (fun _ h9 => h9) rfl (by decide +kernel) rfl rfl (Nat.le_of_ble_eq_true rfl) dX6_init_17 (fun H locs hP hD hS => ?_)
  have hP : va_P (dC, dI) vwCl [(h0, .inr (6, [.int 0, .int (-1), .ref q_1, .null, .null, .int 0, .int 0, .int 0, .int 0, .int 0])), (a0, .inr (10, [.ref tb, .int 0])), (q_1, .inr (3, [.ref l0_2, .ref l1_3, .int 0, .int 0]))] H := hP
  have hD : va_D A [(h0, .inr (6, [.int 0, .int (-1), .ref q_1, .null, .null, .int 0, .int 0, .int 0, .int 0, .int 0])), (a0, .inr (10, [.ref tb, .int 0])), (q_1, .inr (3, [.ref l0_2, .ref l1_3, .int 0, .int 0]))] := hD
  refine lv_aload_n hx hb dX6_init_20 rfl (lv_at hl 0 rfl) ?_
  refine va_new (ci := 0) (fs := [.null, .null, .null, .null, .null, .null, .int 0, .int 0]) (C := RX0) (T := TX0) (N := 8) hx hb hT iX0 tyX0 tyX0_ok hown (hT _ w78) (hT _ w79) (hT _ w5) hK hP hD hS hA rfl (fun j hj => by rcases (show j = 0 ∨ j = 1 ∨ j = 2 ∨ j = 3 ∨ j = 4 ∨ j = 5 ∨ j = 6 ∨ j = 7 by omega) with rfl | rfl | rfl | rfl | rfl | rfl | rfl | rfl <;> rfl) (Nat.le_of_ble_eq_true rfl) (Nat.le_of_ble_eq_true rfl) dX6_init_21 (fun q_4 H hP hD hS => ?_)
  have hP : va_P (dC, dI) vwCl [(h0, .inr (6, [.int 0, .int (-1), .ref q_1, .null, .null, .int 0, .int 0, .int 0, .int 0, .int 0])), (a0, .inr (10, [.ref tb, .int 0])), (q_1, .inr (3, [.ref l0_2, .ref l1_3, .int 0, .int 0])), (q_4, .inr (0, [.null, .null, .null, .null, .null, .null, .int 0, .int 0]))] H := hP
  have hD : va_D A [(h0, .inr (6, [.int 0, .int (-1), .ref q_1, .null, .null, .int 0, .int 0, .int 0, .int 0, .int 0])), (a0, .inr (10, [.ref tb, .int 0])), (q_1, .inr (3, [.ref l0_2, .ref l1_3, .int 0, .int 0])), (q_4, .inr (0, [.null, .null, .null, .null, .null, .null, .int 0, .int 0]))] := hD
  refine W.widen (k := 4) (n := 120) (Nat.le_of_ble_eq_true rfl) (Nat.le_of_ble_eq_true rfl) ?_
  refine lv_dup hx hb dX6_init_24 rfl ?_
  have hPc := hP.sub (ws' := [(q_4, .inr (0, [.null, .null, .null, .null, .null, .null, .int 0, .int 0]))]) [3] rfl
  have hDc := hD.sub (ws' := [(q_4, .inr (0, [.null, .null, .null, .null, .null, .null, .int 0, .int 0]))]) [3] (by decide) rfl
  have hKc := hK.sub (tys' := []) [] rfl
  have hFc := va_free (wc := [(q_4, .inr (0, [.null, .null, .null, .null, .null, .null, .int 0, .int 0]))]) hD hS hA [3] rfl
  refine va_callv (va_runI (As := []) (rest := [.ref q_4, .ref h0]) ⟨hx, hb, hml, hown, hT⟩ (k_Book l dC dI q_4 H.size) (cwI 0 hT (gT w82) rfl rfl rfl (hT _ w5) (hT _ w80) (hT _ w81) rfl (by decide +kernel) ⟨(Nat.le_of_ble_eq_true rfl), (Nat.le_of_ble_eq_true rfl)⟩) ⟨pcW.blind, pcW.pre hPc hKc hDc⟩ rfl rfl hl.1 rfl (lv_room (Nat.le_of_ble_eq_true rfl)) dX6_init_25 ⟨(Nat.le_of_ble_eq_true rfl), (Nat.le_of_ble_eq_true rfl)⟩) hS (fun q _ h => hFc q h) hFc (fun u t H1 locs ht hvm hw hB hz1 hk1 hS => ?_)
  obtain ⟨e0_5, e1_6, e2_7, e3_8, e4_9, e5_10, cA_11, f_12, hP1, hK1, hD1⟩ := hB
  rw [ht] at hP1
  have hK1 := va_K.moved hvm.symm hK1
  obtain ⟨hP, hD⟩ := va_join (wr := [(h0, .inr (6, [.int 0, .int (-1), .ref q_1, .null, .null, .int 0, .int 0, .int 0, .int 0, .int 0])), (a0, .inr (10, [.ref tb, .int 0])), (q_1, .inr (3, [.ref l0_2, .ref l1_3, .int 0, .int 0]))]) (w1 := [(q_4, .inr (0, [.ref e0_5, .ref e1_6, .ref e2_7, .ref e3_8, .ref e4_9, .ref e5_10, .int 0, .int 0])), (e5_10, .inl (cA_11, 64, .inl f_12))]) hP hD [3] [0, 1, 2] rfl rfl (by decide) (by decide) hk1 hFc hP1 hD1
  have hK := hK.app hK1
  generalize H1 = H at hP hS ⊢
  have hP : va_P (dC, dI) vwCl [(h0, .inr (6, [.int 0, .int (-1), .ref q_1, .null, .null, .int 0, .int 0, .int 0, .int 0, .int 0])), (a0, .inr (10, [.ref tb, .int 0])), (q_1, .inr (3, [.ref l0_2, .ref l1_3, .int 0, .int 0])), (q_4, .inr (0, [.ref e0_5, .ref e1_6, .ref e2_7, .ref e3_8, .ref e4_9, .ref e5_10, .int 0, .int 0])), (e5_10, .inl (cA_11, 64, .inl f_12))] H := hP
  have hD : va_D A [(h0, .inr (6, [.int 0, .int (-1), .ref q_1, .null, .null, .int 0, .int 0, .int 0, .int 0, .int 0])), (a0, .inr (10, [.ref tb, .int 0])), (q_1, .inr (3, [.ref l0_2, .ref l1_3, .int 0, .int 0])), (q_4, .inr (0, [.ref e0_5, .ref e1_6, .ref e2_7, .ref e3_8, .ref e4_9, .ref e5_10, .int 0, .int 0])), (e5_10, .inl (cA_11, 64, .inl f_12))] := hD
  have hK : va_K (dC, dI) vwCl [(cA_11, .int)] s := hK
  refine W.widen (k := 10) (n := 384) (Nat.le_of_ble_eq_true rfl) (Nat.le_of_ble_eq_true rfl) ?_
  refine va_put (D := (dC, dI)) (ci := 6) (v := .ref q_4) (ty := .object "SwapPress$Book") (C := RX6) (T := TX6) (N := 10) hx hb hT iX6 tyX6 tyX6_ok nmX6 hown hK hP hD hS 0 rfl rfl 3 (by decide) (hT _ w145) (fun _ h9 => h9) rfl (by decide +kernel) rfl rfl (Nat.le_of_ble_eq_true rfl) dX6_init_28 (fun H locs hP hD hS => ?_)
  have hP : va_P (dC, dI) vwCl [(h0, .inr (6, [.int 0, .int (-1), .ref q_1, .ref q_4, .null, .int 0, .int 0, .int 0, .int 0, .int 0])), (a0, .inr (10, [.ref tb, .int 0])), (q_1, .inr (3, [.ref l0_2, .ref l1_3, .int 0, .int 0])), (q_4, .inr (0, [.ref e0_5, .ref e1_6, .ref e2_7, .ref e3_8, .ref e4_9, .ref e5_10, .int 0, .int 0])), (e5_10, .inl (cA_11, 64, .inl f_12))] H := hP
  have hD : va_D A [(h0, .inr (6, [.int 0, .int (-1), .ref q_1, .ref q_4, .null, .int 0, .int 0, .int 0, .int 0, .int 0])), (a0, .inr (10, [.ref tb, .int 0])), (q_1, .inr (3, [.ref l0_2, .ref l1_3, .int 0, .int 0])), (q_4, .inr (0, [.ref e0_5, .ref e1_6, .ref e2_7, .ref e3_8, .ref e4_9, .ref e5_10, .int 0, .int 0])), (e5_10, .inl (cA_11, 64, .inl f_12))] := hD
  refine lv_aload_n hx hb dX6_init_31 rfl (lv_at hl 0 rfl) ?_
  refine lv_aload_n hx hb dX6_init_32 rfl (lv_at hl 1 rfl) ?_
  refine va_get (D := (dC, dI)) (ci := 10) (v := .ref tb) (C := RX10) (T := TX10) (N := 2) hx hb hT iX10 hown hK hP 1 rfl rfl 0 (by decide) (hT _ w37) (fun _ h9 => h9) rfl dX6_init_33 ?_
  refine va_putF (D := (dC, dI)) (ci := 6) (v := .ref tb) (ty := .array .byte) (C := RX6) (T := TX6) (N := 10) hx hb hT iX6 tyX6 tyX6_ok nmX6 hown hK hP hD hS 0 rfl rfl 4 (by decide) (hT _ w147) (fun _ h9 => h9) rfl hin rfl (by decide +kernel) rfl rfl (Nat.le_of_ble_eq_true rfl) dX6_init_36 (fun H locs hP hD hS => ?_)
  have hP : va_P (dC, dI) vwCl [(h0, .inr (6, [.int 0, .int (-1), .ref q_1, .ref q_4, .ref tb, .int 0, .int 0, .int 0, .int 0, .int 0])), (a0, .inr (10, [.ref tb, .int 0])), (q_1, .inr (3, [.ref l0_2, .ref l1_3, .int 0, .int 0])), (q_4, .inr (0, [.ref e0_5, .ref e1_6, .ref e2_7, .ref e3_8, .ref e4_9, .ref e5_10, .int 0, .int 0])), (e5_10, .inl (cA_11, 64, .inl f_12))] H := hP
  have hD : va_D A [(h0, .inr (6, [.int 0, .int (-1), .ref q_1, .ref q_4, .ref tb, .int 0, .int 0, .int 0, .int 0, .int 0])), (a0, .inr (10, [.ref tb, .int 0])), (q_1, .inr (3, [.ref l0_2, .ref l1_3, .int 0, .int 0])), (q_4, .inr (0, [.ref e0_5, .ref e1_6, .ref e2_7, .ref e3_8, .ref e4_9, .ref e5_10, .int 0, .int 0])), (e5_10, .inl (cA_11, 64, .inl f_12))] := hD
  refine W.widen (k := 10) (n := 384) (Nat.le_of_ble_eq_true rfl) (Nat.le_of_ble_eq_true rfl) ?_
  have hP9 := hP.sub (ws' := [(h0, .inr (6, [.int 0, .int (-1), .ref q_1, .ref q_4, .ref tb, .int 0, .int 0, .int 0, .int 0, .int 0])), (a0, .inr (10, [.ref tb, .int 0])), (q_1, .inr (3, [.ref l0_2, .ref l1_3, .int 0, .int 0])), (q_4, .inr (0, [.ref e0_5, .ref e1_6, .ref e2_7, .ref e3_8, .ref e4_9, .ref e5_10, .int 0, .int 0])), (e5_10, .inl (cA_11, 64, .inl f_12))]) [0, 1, 2, 3, 4] rfl
  have hD9 := hD.sub (ws' := [(h0, .inr (6, [.int 0, .int (-1), .ref q_1, .ref q_4, .ref tb, .int 0, .int 0, .int 0, .int 0, .int 0])), (a0, .inr (10, [.ref tb, .int 0])), (q_1, .inr (3, [.ref l0_2, .ref l1_3, .int 0, .int 0])), (q_4, .inr (0, [.ref e0_5, .ref e1_6, .ref e2_7, .ref e3_8, .ref e4_9, .ref e5_10, .int 0, .int 0])), (e5_10, .inl (cA_11, 64, .inl f_12))]) [0, 1, 2, 3, 4] (by decide) rfl
  have hK9 := hK.sub (tys' := [(cA_11, .int)]) [0] rfl
  exact W.vret hx hb hr (fun t ht hW => ⟨⟨(), rfl, trivial, q_1, q_4, l0_2, l1_3, e0_5, e1_6, e2_7, e3_8, e4_9, e5_10, cA_11, f_12, by rw [ht]; exact hP9, va_K.moved hW.alike hK9, hD9⟩, hS.F ht⟩) hS.2.2 dX6_init_39

set_option maxHeartbeats 4000000 in
set_option maxRecDepth 100000 in
theorem k_Swap (l : Launch) (dC : Nat → ClassId) (dI : Nat → Nat → Nat) (h0 : Nat) (sz : Nat) : Met l yX11_init (wT yX11_init cX11_init 1 none) ({ frames := 3, cells := 131, slots := 6092, locals := 64 }) (pcN dC dI [.ref h0] sz [(h0, .inr (11, [.null, .null, .null, .null, .null, .null, .null, .null, .null, .null, .null, .null, .int 0]))] [] [(RX11, 11, yX10_init, RX11), (RX11, 34, yX1_init, RX11), (RX11, 41, yX7_init, RX11), (RX11, 48, yX8_init, RX11), (RX11, 55, yX9_init, RX11), (RX11, 65, yX2_init, RX11), (RX11, 72, yX4_init, RX11), (RX11, 79, yX3_init, RX11), (RX6, 17, yX3_init, RX11)] [RX0]) (va_Qv (fun _ : Unit => True) (fun _ t => ∃ a0 : Nat, ∃ a1 : Nat, ∃ a2 : Nat, ∃ a3 : Nat, ∃ a4 : Nat, ∃ a5 : Nat, ∃ a6 : Nat, ∃ a7 : Nat, ∃ a8 : Nat, ∃ a9 : Nat, ∃ n0 : Nat, ∃ b0 : Nat, ∃ tb : Nat, ∃ cB : ClassId, ∃ fb : Nat → Int32, ∃ rn : Nat, ∃ rb : Nat, ∃ s0 : Nat, ∃ s1 : Nat, ∃ r0 : Nat, ∃ r1 : Nat, ∃ r2 : Nat, ∃ r3 : Nat, ∃ r4 : Nat, ∃ r5 : Nat, ∃ cR : ClassId, ∃ fr : Nat → Int32, ∃ ba : Nat, ∃ cP : ClassId, ∃ fp : Nat → Option Nat, ∃ p0 : Nat, ∃ q0 : Nat, ∃ q1 : Nat, ∃ q2 : Nat, ∃ q3 : Nat, ∃ q4 : Nat, ∃ q5 : Nat, ∃ cQ : ClassId, ∃ fq : Nat → Int32, ∃ l0 : Nat, ∃ l1 : Nat, ∃ e0 : Nat, ∃ e1 : Nat, ∃ e2 : Nat, ∃ e3 : Nat, ∃ e4 : Nat, ∃ e5 : Nat, ∃ cC : ClassId, ∃ fc : Nat → Int32, (fp 0 = some p0) ∧ pB dC dI (va_A [(h0, .inr (11, [.null, .null, .null, .null, .null, .null, .null, .null, .null, .null, .null, .null, .int 0]))] sz) [(h0, .inr (11, [.ref a0, .ref a1, .ref a2, .ref a3, .ref a4, .ref a5, .ref a6, .ref a7, .ref a8, .ref a9, .ref n0, .ref b0, .int (-1)])), (a0, .inr (10, [.ref tb, .int 0])), (tb, .inl (cB, 900, .inl fb)), (a1, .inr (6, [.int 0, .int (-1), .ref rn, .ref rb, .ref tb, .int 0, .int 0, .int 0, .int 0, .int 0])), (rn, .inr (3, [.ref s0, .ref s1, .int 0, .int 0])), (rb, .inr (0, [.ref r0, .ref r1, .ref r2, .ref r3, .ref r4, .ref r5, .int 0, .int 0])), (r5, .inl (cR, 64, .inl fr)), (a2, .inr (5, [.ref ba, .int 0])), (ba, .inl (cP, 10, .inr (.inr (.inr (.inr fp))))), (p0, .inr (0, [.ref q0, .ref q1, .ref q2, .ref q3, .ref q4, .ref q5, .int 0, .int 0])), (q5, .inl (cQ, 64, .inl fq)), (n0, .inr (3, [.ref l0, .ref l1, .int 0, .int 0])), (b0, .inr (0, [.ref e0, .ref e1, .ref e2, .ref e3, .ref e4, .ref e5, .int 0, .int 0])), (e5, .inl (cC, 64, .inl fc))] [(cB, .byte), (cR, .int), (cP, .object RX0), (cQ, .int), (cC, .int)] t) (va_A [(h0, .inr (11, [.null, .null, .null, .null, .null, .null, .null, .null, .null, .null, .null, .null, .int 0]))] sz)) 131 6092 (va_A [(h0, .inr (11, [.null, .null, .null, .null, .null, .null, .null, .null, .null, .null, .null, .null, .int 0]))] sz) := by
  refine Met.ofW (cc := cX11_init) (maxL := 1) (ret := none) (by decide) rfl ?_
  intro p e s m args below meth c s₁ B hml hv
  obtain ⟨rfl, hsz, hP, hK, hD0, hN, hO⟩ := hv
  have hx := B.exec
  have hb := B.bytes
  have hr := B.returns
  have hT : ∀ w ∈ TB, w.before [.ref h0].toArray s = true := fun w h => atoms_spec (ws := wT yX11_init cX11_init 1 none) B.pre w (List.mem_cons_of_mem _ h)
  have hown : s.vm.findClass RX11 = some m.cls := findClass_of_methodNamed B.named
  have hlocks := B.notSynchronized
  have hin : meth.name = "<init>" := (name_of_methodNamed B.named B.method).1
  subst hsz
  have hD := hD0.self (sz := s.heap.size)
  generalize hAe : va_A [(h0, .inr (11, [.null, .null, .null, .null, .null, .null, .null, .null, .null, .null, .null, .null, .int 0]))] s.heap.size = A at hD ⊢
  have hA : ∀ q : Nat, s.heap.size ≤ q → A q := fun q h => by rw [← hAe]; exact Or.inr h
  have hS : va_S A s.heap s.heap [] := va_S.rf
  have hP : va_P (dC, dI) vwCl [(h0, .inr (11, [.null, .null, .null, .null, .null, .null, .null, .null, .null, .null, .null, .null, .int 0]))] s.heap := hP
  have hl := lv_entry ([.ref h0]) (n := 1) (Nat.le_of_ble_eq_true rfl)
  rw [lg_entry_eq]
  generalize (lg_sl ([.ref h0]) ++ List.replicate (1 - (lg_sl ([.ref h0])).length) Slot.unset).toArray = ls at hl ⊢
  have hl : lv_has ls 1 [(0, .ref h0)] := hl
  refine lv_aload_n hx hb dX11_init_0 rfl (lv_at hl 0 rfl) ?_
  refine W.objInit hx hb hown (hT _ w27) (hT _ w28) (hT _ w29) rfl (by rw [hml]; exact hl.1) rfl dX11_init_1 (Nat.le_of_ble_eq_true rfl) (Nat.le_of_ble_eq_true rfl) ?_
  refine W.eq (g2 := F0 m 4 ls []) rfl ?_
  refine lv_aload_n hx hb dX11_init_4 rfl (lv_at hl 0 rfl) ?_
  refine va_new (ci := 10) (fs := [.null, .int 0]) (C := RX10) (T := TX10) (N := 2) hx hb hT iX10 tyX10 tyX10_ok hown (hT _ w30) (hT _ w31) (hT _ w2) hK hP hD hS hA rfl (fun j hj => by rcases (show j = 0 ∨ j = 1 by omega) with rfl | rfl <;> rfl) (Nat.le_of_ble_eq_true rfl) (Nat.le_of_ble_eq_true rfl) dX11_init_5 (fun q_1 H hP hD hS => ?_)
  have hP : va_P (dC, dI) vwCl [(h0, .inr (11, [.null, .null, .null, .null, .null, .null, .null, .null, .null, .null, .null, .null, .int 0])), (q_1, .inr (10, [.null, .int 0]))] H := hP
  have hD : va_D A [(h0, .inr (11, [.null, .null, .null, .null, .null, .null, .null, .null, .null, .null, .null, .null, .int 0])), (q_1, .inr (10, [.null, .int 0]))] := hD
  refine W.widen (k := 1) (n := 2) (Nat.le_of_ble_eq_true rfl) (Nat.le_of_ble_eq_true rfl) ?_
  refine lv_dup hx hb dX11_init_8 rfl ?_
  have hPc := hP.sub (ws' := [(q_1, .inr (10, [.null, .int 0]))]) [1] rfl
  have hDc := hD.sub (ws' := [(q_1, .inr (10, [.null, .int 0]))]) [1] (by decide) rfl
  have hKc := hK.sub (tys' := []) [] rfl
  have hFc := va_free (wc := [(q_1, .inr (10, [.null, .int 0]))]) hD hS hA [1] rfl
  refine va_callv (va_runIN (As := []) (rest := [.ref q_1, .ref h0]) ⟨hx, hb, hml, hown, hT⟩ (k_Tape l dC dI q_1 H.size) ⟨va_cnB 0 hT (gT w34) rfl rfl rfl (hN (RX11, 11, yX10_init, RX11) (by decide +kernel)) (hT _ w2) (by decide +kernel) ⟨(Nat.le_of_ble_eq_true rfl), (Nat.le_of_ble_eq_true rfl)⟩, rfl, (hT _ w33)⟩ ⟨pcW.blind, pcW.pre hPc hKc hDc⟩ rfl rfl hl.1 rfl (lv_room (Nat.le_of_ble_eq_true rfl)) dX11_init_9 ⟨(Nat.le_of_ble_eq_true rfl), (Nat.le_of_ble_eq_true rfl)⟩) hS (fun q _ h => hFc q h) hFc (fun u t H1 locs ht hvm hw hB hz1 hk1 hS => ?_)
  obtain ⟨tb_2, cB_3, fb_4, hP1, hK1, hD1⟩ := hB
  rw [ht] at hP1
  have hK1 := va_K.moved hvm.symm hK1
  obtain ⟨hP, hD⟩ := va_join (wr := [(h0, .inr (11, [.null, .null, .null, .null, .null, .null, .null, .null, .null, .null, .null, .null, .int 0]))]) (w1 := [(q_1, .inr (10, [.ref tb_2, .int 0])), (tb_2, .inl (cB_3, 900, .inl fb_4))]) hP hD [1] [0] rfl rfl (by decide) (by decide) hk1 hFc hP1 hD1
  have hK := hK.app hK1
  generalize H1 = H at hP hS ⊢
  have hP : va_P (dC, dI) vwCl [(h0, .inr (11, [.null, .null, .null, .null, .null, .null, .null, .null, .null, .null, .null, .null, .int 0])), (q_1, .inr (10, [.ref tb_2, .int 0])), (tb_2, .inl (cB_3, 900, .inl fb_4))] H := hP
  have hD : va_D A [(h0, .inr (11, [.null, .null, .null, .null, .null, .null, .null, .null, .null, .null, .null, .null, .int 0])), (q_1, .inr (10, [.ref tb_2, .int 0])), (tb_2, .inl (cB_3, 900, .inl fb_4))] := hD
  have hK : va_K (dC, dI) vwCl [(cB_3, .byte)] s := hK
  refine W.widen (k := 2) (n := 902) (Nat.le_of_ble_eq_true rfl) (Nat.le_of_ble_eq_true rfl) ?_
  refine va_putF (D := (dC, dI)) (ci := 11) (v := .ref q_1) (ty := .object "SwapPress$Tape") (C := RX11) (T := TX11) (N := 13) hx hb hT iX11 tyX11 tyX11_ok nmX11 hown hK hP hD hS 0 rfl rfl 0 (by decide) (hT _ w353) (fun _ h9 => h9) rfl hin rfl (by decide +kernel) rfl rfl (Nat.le_of_ble_eq_true rfl) dX11_init_12 (fun H locs hP hD hS => ?_)
  have hP : va_P (dC, dI) vwCl [(h0, .inr (11, [.ref q_1, .null, .null, .null, .null, .null, .null, .null, .null, .null, .null, .null, .int 0])), (q_1, .inr (10, [.ref tb_2, .int 0])), (tb_2, .inl (cB_3, 900, .inl fb_4))] H := hP
  have hD : va_D A [(h0, .inr (11, [.ref q_1, .null, .null, .null, .null, .null, .null, .null, .null, .null, .null, .null, .int 0])), (q_1, .inr (10, [.ref tb_2, .int 0])), (tb_2, .inl (cB_3, 900, .inl fb_4))] := hD
  refine lv_aload_n hx hb dX11_init_15 rfl (lv_at hl 0 rfl) ?_
  refine va_new (ci := 6) (fs := [.int 0, .int 0, .null, .null, .null, .int 0, .int 0, .int 0, .int 0, .int 0]) (C := RX6) (T := TX6) (N := 10) hx hb hT iX6 tyX6 tyX6_ok hown (hT _ w46) (hT _ w47) (hT _ w3) hK hP hD hS hA rfl (fun j hj => by rcases (show j = 0 ∨ j = 1 ∨ j = 2 ∨ j = 3 ∨ j = 4 ∨ j = 5 ∨ j = 6 ∨ j = 7 ∨ j = 8 ∨ j = 9 by omega) with rfl | rfl | rfl | rfl | rfl | rfl | rfl | rfl | rfl | rfl <;> rfl) (Nat.le_of_ble_eq_true rfl) (Nat.le_of_ble_eq_true rfl) dX11_init_16 (fun q_5 H hP hD hS => ?_)
  have hP : va_P (dC, dI) vwCl [(h0, .inr (11, [.ref q_1, .null, .null, .null, .null, .null, .null, .null, .null, .null, .null, .null, .int 0])), (q_1, .inr (10, [.ref tb_2, .int 0])), (tb_2, .inl (cB_3, 900, .inl fb_4)), (q_5, .inr (6, [.int 0, .int 0, .null, .null, .null, .int 0, .int 0, .int 0, .int 0, .int 0]))] H := hP
  have hD : va_D A [(h0, .inr (11, [.ref q_1, .null, .null, .null, .null, .null, .null, .null, .null, .null, .null, .null, .int 0])), (q_1, .inr (10, [.ref tb_2, .int 0])), (tb_2, .inl (cB_3, 900, .inl fb_4)), (q_5, .inr (6, [.int 0, .int 0, .null, .null, .null, .int 0, .int 0, .int 0, .int 0, .int 0]))] := hD
  refine W.widen (k := 3) (n := 912) (Nat.le_of_ble_eq_true rfl) (Nat.le_of_ble_eq_true rfl) ?_
  refine lv_dup hx hb dX11_init_19 rfl ?_
  refine lv_aload_n hx hb dX11_init_20 rfl (lv_at hl 0 rfl) ?_
  refine va_get (D := (dC, dI)) (ci := 11) (v := .ref q_1) (C := RX11) (T := TX11) (N := 13) hx hb hT iX11 hown hK hP 0 rfl rfl 0 (by decide) (hT _ w353) (fun _ h9 => h9) rfl dX11_init_21 ?_
  have hPc := hP.sub (ws' := [(q_5, .inr (6, [.int 0, .int 0, .null, .null, .null, .int 0, .int 0, .int 0, .int 0, .int 0])), (q_1, .inr (10, [.ref tb_2, .int 0]))]) [3, 1] rfl
  have hDc := hD.sub (ws' := [(q_5, .inr (6, [.int 0, .int 0, .null, .null, .null, .int 0, .int 0, .int 0, .int 0, .int 0])), (q_1, .inr (10, [.ref tb_2, .int 0]))]) [3, 1] (by decide) rfl
  have hKc := hK.sub (tys' := []) [] rfl
  have hFc := va_free (wc := [(q_5, .inr (6, [.int 0, .int 0, .null, .null, .null, .int 0, .int 0, .int 0, .int 0, .int 0])), (q_1, .inr (10, [.ref tb_2, .int 0]))]) hD hS hA [3, 1] rfl
  refine va_callv (va_runI (As := [.ref q_1]) (rest := [.ref q_5, .ref h0]) ⟨hx, hb, hml, hown, hT⟩ (k_Reader l dC dI q_5 q_1 tb_2 H.size) (cwI 1 hT (gT w50) rfl rfl rfl (hT _ w3) (hT _ w48) (hT _ w49) rfl (by decide +kernel) ⟨(Nat.le_of_ble_eq_true rfl), (Nat.le_of_ble_eq_true rfl)⟩) ⟨pcN.blind, pcN.pre hPc hKc hDc (fun q h => hN q ((by decide +kernel : ∀ q ∈ ([(RX6, 17, yX3_init, RX11)] : List nLk), q ∈ ([(RX11, 11, yX10_init, RX11), (RX11, 34, yX1_init, RX11), (RX11, 41, yX7_init, RX11), (RX11, 48, yX8_init, RX11), (RX11, 55, yX9_init, RX11), (RX11, 65, yX2_init, RX11), (RX11, 72, yX4_init, RX11), (RX11, 79, yX3_init, RX11), (RX6, 17, yX3_init, RX11)] : List nLk)) q h)) (fun q h => hO q ((by decide +kernel : ∀ q ∈ ([] : List String), q ∈ ([RX0] : List String)) q h))⟩ rfl rfl hl.1 rfl (lv_room (Nat.le_of_ble_eq_true rfl)) dX11_init_24 ⟨(Nat.le_of_ble_eq_true rfl), (Nat.le_of_ble_eq_true rfl)⟩) hS (fun q _ h => hFc q h) hFc (fun u t H1 locs ht hvm hw hB hz1 hk1 hS => ?_)
  obtain ⟨rn_6, rb_7, l0_8, l1_9, r0_10, r1_11, r2_12, r3_13, r4_14, r5_15, cR_16, fr_17, hP1, hK1, hD1⟩ := hB
  rw [ht] at hP1
  have hK1 := va_K.moved hvm.symm hK1
  obtain ⟨hP, hD⟩ := va_join (wr := [(h0, .inr (11, [.ref q_1, .null, .null, .null, .null, .null, .null, .null, .null, .null, .null, .null, .int 0])), (tb_2, .inl (cB_3, 900, .inl fb_4))]) (w1 := [(q_5, .inr (6, [.int 0, .int (-1), .ref rn_6, .ref rb_7, .ref tb_2, .int 0, .int 0, .int 0, .int 0, .int 0])), (q_1, .inr (10, [.ref tb_2, .int 0])), (rn_6, .inr (3, [.ref l0_8, .ref l1_9, .int 0, .int 0])), (rb_7, .inr (0, [.ref r0_10, .ref r1_11, .ref r2_12, .ref r3_13, .ref r4_14, .ref r5_15, .int 0, .int 0])), (r5_15, .inl (cR_16, 64, .inl fr_17))]) hP hD [3, 1] [0, 2] rfl rfl (by decide) (by decide) hk1 hFc hP1 hD1
  have hK := hK.app hK1
  generalize H1 = H at hP hS ⊢
  have hP : va_P (dC, dI) vwCl [(h0, .inr (11, [.ref q_1, .null, .null, .null, .null, .null, .null, .null, .null, .null, .null, .null, .int 0])), (tb_2, .inl (cB_3, 900, .inl fb_4)), (q_5, .inr (6, [.int 0, .int (-1), .ref rn_6, .ref rb_7, .ref tb_2, .int 0, .int 0, .int 0, .int 0, .int 0])), (q_1, .inr (10, [.ref tb_2, .int 0])), (rn_6, .inr (3, [.ref l0_8, .ref l1_9, .int 0, .int 0])), (rb_7, .inr (0, [.ref r0_10, .ref r1_11, .ref r2_12, .ref r3_13, .ref r4_14, .ref r5_15, .int 0, .int 0])), (r5_15, .inl (cR_16, 64, .inl fr_17))] H := hP
  have hD : va_D A [(h0, .inr (11, [.ref q_1, .null, .null, .null, .null, .null, .null, .null, .null, .null, .null, .null, .int 0])), (tb_2, .inl (cB_3, 900, .inl fb_4)), (q_5, .inr (6, [.int 0, .int (-1), .ref rn_6, .ref rb_7, .ref tb_2, .int 0, .int 0, .int 0, .int 0, .int 0])), (q_1, .inr (10, [.ref tb_2, .int 0])), (rn_6, .inr (3, [.ref l0_8, .ref l1_9, .int 0, .int 0])), (rb_7, .inr (0, [.ref r0_10, .ref r1_11, .ref r2_12, .ref r3_13, .ref r4_14, .ref r5_15, .int 0, .int 0])), (r5_15, .inl (cR_16, 64, .inl fr_17))] := hD
  have hK : va_K (dC, dI) vwCl [(cB_3, .byte), (cR_16, .int)] s := hK
  refine W.widen (k := 13) (n := 1296) (Nat.le_of_ble_eq_true rfl) (Nat.le_of_ble_eq_true rfl) ?_
  refine va_putF (D := (dC, dI)) (ci := 11) (v := .ref q_5) (ty := .object "SwapPress$Reader") (C := RX11) (T := TX11) (N := 13) hx hb hT iX11 tyX11 tyX11_ok nmX11 hown hK hP hD hS 0 rfl rfl 1 (by decide) (hT _ w354) (fun _ h9 => h9) rfl hin rfl (by decide +kernel) rfl rfl (Nat.le_of_ble_eq_true rfl) dX11_init_27 (fun H locs hP hD hS => ?_)
  have hP : va_P (dC, dI) vwCl [(h0, .inr (11, [.ref q_1, .ref q_5, .null, .null, .null, .null, .null, .null, .null, .null, .null, .null, .int 0])), (tb_2, .inl (cB_3, 900, .inl fb_4)), (q_5, .inr (6, [.int 0, .int (-1), .ref rn_6, .ref rb_7, .ref tb_2, .int 0, .int 0, .int 0, .int 0, .int 0])), (q_1, .inr (10, [.ref tb_2, .int 0])), (rn_6, .inr (3, [.ref l0_8, .ref l1_9, .int 0, .int 0])), (rb_7, .inr (0, [.ref r0_10, .ref r1_11, .ref r2_12, .ref r3_13, .ref r4_14, .ref r5_15, .int 0, .int 0])), (r5_15, .inl (cR_16, 64, .inl fr_17))] H := hP
  have hD : va_D A [(h0, .inr (11, [.ref q_1, .ref q_5, .null, .null, .null, .null, .null, .null, .null, .null, .null, .null, .int 0])), (tb_2, .inl (cB_3, 900, .inl fb_4)), (q_5, .inr (6, [.int 0, .int (-1), .ref rn_6, .ref rb_7, .ref tb_2, .int 0, .int 0, .int 0, .int 0, .int 0])), (q_1, .inr (10, [.ref tb_2, .int 0])), (rn_6, .inr (3, [.ref l0_8, .ref l1_9, .int 0, .int 0])), (rb_7, .inr (0, [.ref r0_10, .ref r1_11, .ref r2_12, .ref r3_13, .ref r4_14, .ref r5_15, .int 0, .int 0])), (r5_15, .inl (cR_16, 64, .inl fr_17))] := hD
  refine lv_aload_n hx hb dX11_init_30 rfl (lv_at hl 0 rfl) ?_
  refine va_new (ci := 5) (fs := [.null, .int 0]) (C := RX5) (T := TX5) (N := 2) hx hb hT iX5 tyX5 tyX5_ok hown (hT _ w174) (hT _ w175) (hT _ w7) hK hP hD hS hA rfl (fun j hj => by rcases (show j = 0 ∨ j = 1 by omega) with rfl | rfl <;> rfl) (Nat.le_of_ble_eq_true rfl) (Nat.le_of_ble_eq_true rfl) dX11_init_31 (fun q_18 H hP hD hS => ?_)
  have hP : va_P (dC, dI) vwCl [(h0, .inr (11, [.ref q_1, .ref q_5, .null, .null, .null, .null, .null, .null, .null, .null, .null, .null, .int 0])), (tb_2, .inl (cB_3, 900, .inl fb_4)), (q_5, .inr (6, [.int 0, .int (-1), .ref rn_6, .ref rb_7, .ref tb_2, .int 0, .int 0, .int 0, .int 0, .int 0])), (q_1, .inr (10, [.ref tb_2, .int 0])), (rn_6, .inr (3, [.ref l0_8, .ref l1_9, .int 0, .int 0])), (rb_7, .inr (0, [.ref r0_10, .ref r1_11, .ref r2_12, .ref r3_13, .ref r4_14, .ref r5_15, .int 0, .int 0])), (r5_15, .inl (cR_16, 64, .inl fr_17)), (q_18, .inr (5, [.null, .int 0]))] H := hP
  have hD : va_D A [(h0, .inr (11, [.ref q_1, .ref q_5, .null, .null, .null, .null, .null, .null, .null, .null, .null, .null, .int 0])), (tb_2, .inl (cB_3, 900, .inl fb_4)), (q_5, .inr (6, [.int 0, .int (-1), .ref rn_6, .ref rb_7, .ref tb_2, .int 0, .int 0, .int 0, .int 0, .int 0])), (q_1, .inr (10, [.ref tb_2, .int 0])), (rn_6, .inr (3, [.ref l0_8, .ref l1_9, .int 0, .int 0])), (rb_7, .inr (0, [.ref r0_10, .ref r1_11, .ref r2_12, .ref r3_13, .ref r4_14, .ref r5_15, .int 0, .int 0])), (r5_15, .inl (cR_16, 64, .inl fr_17)), (q_18, .inr (5, [.null, .int 0]))] := hD
  refine W.widen (k := 14) (n := 1298) (Nat.le_of_ble_eq_true rfl) (Nat.le_of_ble_eq_true rfl) ?_
  refine lv_dup hx hb dX11_init_34 rfl ?_
  have hPc := hP.sub (ws' := [(q_18, .inr (5, [.null, .int 0]))]) [7] rfl
  have hDc := hD.sub (ws' := [(q_18, .inr (5, [.null, .int 0]))]) [7] (by decide) rfl
  have hKc := hK.sub (tys' := []) [] rfl
  have hFc := va_free (wc := [(q_18, .inr (5, [.null, .int 0]))]) hD hS hA [7] rfl
  refine va_callv (va_runI (As := []) (rest := [.ref q_18, .ref h0]) ⟨hx, hb, hml, hown, hT⟩ (k_Past l dC dI q_18 H.size) (cwI 0 hT (gT w178) rfl rfl rfl (hT _ w7) (hT _ w176) (hT _ w177) rfl (by decide +kernel) ⟨(Nat.le_of_ble_eq_true rfl), (Nat.le_of_ble_eq_true rfl)⟩) ⟨pcN.blind, pcN.pre hPc hKc hDc (fun q h => hN q ((by decide +kernel : ∀ q ∈ ([] : List nLk), q ∈ ([(RX11, 11, yX10_init, RX11), (RX11, 34, yX1_init, RX11), (RX11, 41, yX7_init, RX11), (RX11, 48, yX8_init, RX11), (RX11, 55, yX9_init, RX11), (RX11, 65, yX2_init, RX11), (RX11, 72, yX4_init, RX11), (RX11, 79, yX3_init, RX11), (RX6, 17, yX3_init, RX11)] : List nLk)) q h)) (fun q h => hO q ((by decide +kernel : ∀ q ∈ ([RX0] : List String), q ∈ ([RX0] : List String)) q h))⟩ rfl rfl hl.1 rfl (lv_room (Nat.le_of_ble_eq_true rfl)) dX11_init_35 ⟨(Nat.le_of_ble_eq_true rfl), (Nat.le_of_ble_eq_true rfl)⟩) hS (fun q _ h => hFc q h) hFc (fun u t H1 locs ht hvm hw hB hz1 hk1 hS => ?_)
  obtain ⟨ba_19, cP_20, fb_21, p0_22, q0_23, q1_24, q2_25, q3_26, q4_27, q5_28, cQ_29, fq_30, hx_31, hP1, hK1, hD1⟩ := hB
  rw [ht] at hP1
  have hK1 := va_K.moved hvm.symm hK1
  obtain ⟨hP, hD⟩ := va_join (wr := [(h0, .inr (11, [.ref q_1, .ref q_5, .null, .null, .null, .null, .null, .null, .null, .null, .null, .null, .int 0])), (tb_2, .inl (cB_3, 900, .inl fb_4)), (q_5, .inr (6, [.int 0, .int (-1), .ref rn_6, .ref rb_7, .ref tb_2, .int 0, .int 0, .int 0, .int 0, .int 0])), (q_1, .inr (10, [.ref tb_2, .int 0])), (rn_6, .inr (3, [.ref l0_8, .ref l1_9, .int 0, .int 0])), (rb_7, .inr (0, [.ref r0_10, .ref r1_11, .ref r2_12, .ref r3_13, .ref r4_14, .ref r5_15, .int 0, .int 0])), (r5_15, .inl (cR_16, 64, .inl fr_17))]) (w1 := [(q_18, .inr (5, [.ref ba_19, .int 0])), (ba_19, .inl (cP_20, 10, .inr (.inr (.inr (.inr fb_21))))), (p0_22, .inr (0, [.ref q0_23, .ref q1_24, .ref q2_25, .ref q3_26, .ref q4_27, .ref q5_28, .int 0, .int 0])), (q5_28, .inl (cQ_29, 64, .inl fq_30))]) hP hD [7] [0, 1, 2, 3, 4, 5, 6] rfl rfl (by decide) (by decide) hk1 hFc hP1 hD1
  have hK := hK.app hK1
  generalize H1 = H at hP hS ⊢
  have hP : va_P (dC, dI) vwCl [(h0, .inr (11, [.ref q_1, .ref q_5, .null, .null, .null, .null, .null, .null, .null, .null, .null, .null, .int 0])), (tb_2, .inl (cB_3, 900, .inl fb_4)), (q_5, .inr (6, [.int 0, .int (-1), .ref rn_6, .ref rb_7, .ref tb_2, .int 0, .int 0, .int 0, .int 0, .int 0])), (q_1, .inr (10, [.ref tb_2, .int 0])), (rn_6, .inr (3, [.ref l0_8, .ref l1_9, .int 0, .int 0])), (rb_7, .inr (0, [.ref r0_10, .ref r1_11, .ref r2_12, .ref r3_13, .ref r4_14, .ref r5_15, .int 0, .int 0])), (r5_15, .inl (cR_16, 64, .inl fr_17)), (q_18, .inr (5, [.ref ba_19, .int 0])), (ba_19, .inl (cP_20, 10, .inr (.inr (.inr (.inr fb_21))))), (p0_22, .inr (0, [.ref q0_23, .ref q1_24, .ref q2_25, .ref q3_26, .ref q4_27, .ref q5_28, .int 0, .int 0])), (q5_28, .inl (cQ_29, 64, .inl fq_30))] H := hP
  have hD : va_D A [(h0, .inr (11, [.ref q_1, .ref q_5, .null, .null, .null, .null, .null, .null, .null, .null, .null, .null, .int 0])), (tb_2, .inl (cB_3, 900, .inl fb_4)), (q_5, .inr (6, [.int 0, .int (-1), .ref rn_6, .ref rb_7, .ref tb_2, .int 0, .int 0, .int 0, .int 0, .int 0])), (q_1, .inr (10, [.ref tb_2, .int 0])), (rn_6, .inr (3, [.ref l0_8, .ref l1_9, .int 0, .int 0])), (rb_7, .inr (0, [.ref r0_10, .ref r1_11, .ref r2_12, .ref r3_13, .ref r4_14, .ref r5_15, .int 0, .int 0])), (r5_15, .inl (cR_16, 64, .inl fr_17)), (q_18, .inr (5, [.ref ba_19, .int 0])), (ba_19, .inl (cP_20, 10, .inr (.inr (.inr (.inr fb_21))))), (p0_22, .inr (0, [.ref q0_23, .ref q1_24, .ref q2_25, .ref q3_26, .ref q4_27, .ref q5_28, .int 0, .int 0])), (q5_28, .inl (cQ_29, 64, .inl fq_30))] := hD
  have hK : va_K (dC, dI) vwCl [(cB_3, .byte), (cR_16, .int), (cP_20, .object RX0), (cQ_29, .int)] s := hK
  refine W.widen (k := 85) (n := 4028) (Nat.le_of_ble_eq_true rfl) (Nat.le_of_ble_eq_true rfl) ?_
  refine va_putF (D := (dC, dI)) (ci := 11) (v := .ref q_18) (ty := .object "SwapPress$Past") (C := RX11) (T := TX11) (N := 13) hx hb hT iX11 tyX11 tyX11_ok nmX11 hown hK hP hD hS 0 rfl rfl 2 (by decide) (hT _ w355) (fun _ h9 => h9) rfl hin rfl (by decide +kernel) rfl rfl (Nat.le_of_ble_eq_true rfl) dX11_init_38 (fun H locs hP hD hS => ?_)
  have hP : va_P (dC, dI) vwCl [(h0, .inr (11, [.ref q_1, .ref q_5, .ref q_18, .null, .null, .null, .null, .null, .null, .null, .null, .null, .int 0])), (tb_2, .inl (cB_3, 900, .inl fb_4)), (q_5, .inr (6, [.int 0, .int (-1), .ref rn_6, .ref rb_7, .ref tb_2, .int 0, .int 0, .int 0, .int 0, .int 0])), (q_1, .inr (10, [.ref tb_2, .int 0])), (rn_6, .inr (3, [.ref l0_8, .ref l1_9, .int 0, .int 0])), (rb_7, .inr (0, [.ref r0_10, .ref r1_11, .ref r2_12, .ref r3_13, .ref r4_14, .ref r5_15, .int 0, .int 0])), (r5_15, .inl (cR_16, 64, .inl fr_17)), (q_18, .inr (5, [.ref ba_19, .int 0])), (ba_19, .inl (cP_20, 10, .inr (.inr (.inr (.inr fb_21))))), (p0_22, .inr (0, [.ref q0_23, .ref q1_24, .ref q2_25, .ref q3_26, .ref q4_27, .ref q5_28, .int 0, .int 0])), (q5_28, .inl (cQ_29, 64, .inl fq_30))] H := hP
  have hD : va_D A [(h0, .inr (11, [.ref q_1, .ref q_5, .ref q_18, .null, .null, .null, .null, .null, .null, .null, .null, .null, .int 0])), (tb_2, .inl (cB_3, 900, .inl fb_4)), (q_5, .inr (6, [.int 0, .int (-1), .ref rn_6, .ref rb_7, .ref tb_2, .int 0, .int 0, .int 0, .int 0, .int 0])), (q_1, .inr (10, [.ref tb_2, .int 0])), (rn_6, .inr (3, [.ref l0_8, .ref l1_9, .int 0, .int 0])), (rb_7, .inr (0, [.ref r0_10, .ref r1_11, .ref r2_12, .ref r3_13, .ref r4_14, .ref r5_15, .int 0, .int 0])), (r5_15, .inl (cR_16, 64, .inl fr_17)), (q_18, .inr (5, [.ref ba_19, .int 0])), (ba_19, .inl (cP_20, 10, .inr (.inr (.inr (.inr fb_21))))), (p0_22, .inr (0, [.ref q0_23, .ref q1_24, .ref q2_25, .ref q3_26, .ref q4_27, .ref q5_28, .int 0, .int 0])), (q5_28, .inl (cQ_29, 64, .inl fq_30))] := hD
  refine lv_aload_n hx hb dX11_init_41 rfl (lv_at hl 0 rfl) ?_
  refine va_new (ci := 1) (fs := [.null, .int 0]) (C := RX1) (T := TX1) (N := 2) hx hb hT iX1 tyX1 tyX1_ok hown (hT _ w191) (hT _ w192) (hT _ w8) hK hP hD hS hA rfl (fun j hj => by rcases (show j = 0 ∨ j = 1 by omega) with rfl | rfl <;> rfl) (Nat.le_of_ble_eq_true rfl) (Nat.le_of_ble_eq_true rfl) dX11_init_42 (fun q_32 H hP hD hS => ?_)
  have hP : va_P (dC, dI) vwCl [(h0, .inr (11, [.ref q_1, .ref q_5, .ref q_18, .null, .null, .null, .null, .null, .null, .null, .null, .null, .int 0])), (tb_2, .inl (cB_3, 900, .inl fb_4)), (q_5, .inr (6, [.int 0, .int (-1), .ref rn_6, .ref rb_7, .ref tb_2, .int 0, .int 0, .int 0, .int 0, .int 0])), (q_1, .inr (10, [.ref tb_2, .int 0])), (rn_6, .inr (3, [.ref l0_8, .ref l1_9, .int 0, .int 0])), (rb_7, .inr (0, [.ref r0_10, .ref r1_11, .ref r2_12, .ref r3_13, .ref r4_14, .ref r5_15, .int 0, .int 0])), (r5_15, .inl (cR_16, 64, .inl fr_17)), (q_18, .inr (5, [.ref ba_19, .int 0])), (ba_19, .inl (cP_20, 10, .inr (.inr (.inr (.inr fb_21))))), (p0_22, .inr (0, [.ref q0_23, .ref q1_24, .ref q2_25, .ref q3_26, .ref q4_27, .ref q5_28, .int 0, .int 0])), (q5_28, .inl (cQ_29, 64, .inl fq_30)), (q_32, .inr (1, [.null, .int 0]))] H := hP
  have hD : va_D A [(h0, .inr (11, [.ref q_1, .ref q_5, .ref q_18, .null, .null, .null, .null, .null, .null, .null, .null, .null, .int 0])), (tb_2, .inl (cB_3, 900, .inl fb_4)), (q_5, .inr (6, [.int 0, .int (-1), .ref rn_6, .ref rb_7, .ref tb_2, .int 0, .int 0, .int 0, .int 0, .int 0])), (q_1, .inr (10, [.ref tb_2, .int 0])), (rn_6, .inr (3, [.ref l0_8, .ref l1_9, .int 0, .int 0])), (rb_7, .inr (0, [.ref r0_10, .ref r1_11, .ref r2_12, .ref r3_13, .ref r4_14, .ref r5_15, .int 0, .int 0])), (r5_15, .inl (cR_16, 64, .inl fr_17)), (q_18, .inr (5, [.ref ba_19, .int 0])), (ba_19, .inl (cP_20, 10, .inr (.inr (.inr (.inr fb_21))))), (p0_22, .inr (0, [.ref q0_23, .ref q1_24, .ref q2_25, .ref q3_26, .ref q4_27, .ref q5_28, .int 0, .int 0])), (q5_28, .inl (cQ_29, 64, .inl fq_30)), (q_32, .inr (1, [.null, .int 0]))] := hD
  refine W.widen (k := 86) (n := 4030) (Nat.le_of_ble_eq_true rfl) (Nat.le_of_ble_eq_true rfl) ?_
  refine lv_dup hx hb dX11_init_45 rfl ?_
  have hPc := hP.sub (ws' := [(q_32, .inr (1, [.null, .int 0]))]) [11] rfl
  have hDc := hD.sub (ws' := [(q_32, .inr (1, [.null, .int 0]))]) [11] (by decide) rfl
  have hKc := hK.sub (tys' := []) [] rfl
  have hFc := va_free (wc := [(q_32, .inr (1, [.null, .int 0]))]) hD hS hA [11] rfl
  refine va_callv (va_runIN (As := []) (rest := [.ref q_32, .ref h0]) ⟨hx, hb, hml, hown, hT⟩ (k_Flows l dC dI q_32 H.size) ⟨va_cnB 0 hT (gT w195) rfl rfl rfl (hN (RX11, 34, yX1_init, RX11) (by decide +kernel)) (hT _ w8) (by decide +kernel) ⟨(Nat.le_of_ble_eq_true rfl), (Nat.le_of_ble_eq_true rfl)⟩, rfl, (hT _ w194)⟩ ⟨pcW.blind, pcW.pre hPc hKc hDc⟩ rfl rfl hl.1 rfl (lv_room (Nat.le_of_ble_eq_true rfl)) dX11_init_46 ⟨(Nat.le_of_ble_eq_true rfl), (Nat.le_of_ble_eq_true rfl)⟩) hS (fun q _ h => hFc q h) hFc (fun u t H1 locs ht hvm hw hB hz1 hk1 hS => ?_)
  obtain ⟨hP, hD⟩ := va_join (wr := [(h0, .inr (11, [.ref q_1, .ref q_5, .ref q_18, .null, .null, .null, .null, .null, .null, .null, .null, .null, .int 0])), (tb_2, .inl (cB_3, 900, .inl fb_4)), (q_5, .inr (6, [.int 0, .int (-1), .ref rn_6, .ref rb_7, .ref tb_2, .int 0, .int 0, .int 0, .int 0, .int 0])), (q_1, .inr (10, [.ref tb_2, .int 0])), (rn_6, .inr (3, [.ref l0_8, .ref l1_9, .int 0, .int 0])), (rb_7, .inr (0, [.ref r0_10, .ref r1_11, .ref r2_12, .ref r3_13, .ref r4_14, .ref r5_15, .int 0, .int 0])), (r5_15, .inl (cR_16, 64, .inl fr_17)), (q_18, .inr (5, [.ref ba_19, .int 0])), (ba_19, .inl (cP_20, 10, .inr (.inr (.inr (.inr fb_21))))), (p0_22, .inr (0, [.ref q0_23, .ref q1_24, .ref q2_25, .ref q3_26, .ref q4_27, .ref q5_28, .int 0, .int 0])), (q5_28, .inl (cQ_29, 64, .inl fq_30))]) (w1 := []) hP hD [11] [0, 1, 2, 3, 4, 5, 6, 7, 8, 9, 10] rfl rfl (by decide) (by decide) hk1 hFc (va_P0 _ _ _) (va_D0 _)
  generalize H1 = H at hP hS ⊢
  have hP : va_P (dC, dI) vwCl [(h0, .inr (11, [.ref q_1, .ref q_5, .ref q_18, .null, .null, .null, .null, .null, .null, .null, .null, .null, .int 0])), (tb_2, .inl (cB_3, 900, .inl fb_4)), (q_5, .inr (6, [.int 0, .int (-1), .ref rn_6, .ref rb_7, .ref tb_2, .int 0, .int 0, .int 0, .int 0, .int 0])), (q_1, .inr (10, [.ref tb_2, .int 0])), (rn_6, .inr (3, [.ref l0_8, .ref l1_9, .int 0, .int 0])), (rb_7, .inr (0, [.ref r0_10, .ref r1_11, .ref r2_12, .ref r3_13, .ref r4_14, .ref r5_15, .int 0, .int 0])), (r5_15, .inl (cR_16, 64, .inl fr_17)), (q_18, .inr (5, [.ref ba_19, .int 0])), (ba_19, .inl (cP_20, 10, .inr (.inr (.inr (.inr fb_21))))), (p0_22, .inr (0, [.ref q0_23, .ref q1_24, .ref q2_25, .ref q3_26, .ref q4_27, .ref q5_28, .int 0, .int 0])), (q5_28, .inl (cQ_29, 64, .inl fq_30))] H := hP
  have hD : va_D A [(h0, .inr (11, [.ref q_1, .ref q_5, .ref q_18, .null, .null, .null, .null, .null, .null, .null, .null, .null, .int 0])), (tb_2, .inl (cB_3, 900, .inl fb_4)), (q_5, .inr (6, [.int 0, .int (-1), .ref rn_6, .ref rb_7, .ref tb_2, .int 0, .int 0, .int 0, .int 0, .int 0])), (q_1, .inr (10, [.ref tb_2, .int 0])), (rn_6, .inr (3, [.ref l0_8, .ref l1_9, .int 0, .int 0])), (rb_7, .inr (0, [.ref r0_10, .ref r1_11, .ref r2_12, .ref r3_13, .ref r4_14, .ref r5_15, .int 0, .int 0])), (r5_15, .inl (cR_16, 64, .inl fr_17)), (q_18, .inr (5, [.ref ba_19, .int 0])), (ba_19, .inl (cP_20, 10, .inr (.inr (.inr (.inr fb_21))))), (p0_22, .inr (0, [.ref q0_23, .ref q1_24, .ref q2_25, .ref q3_26, .ref q4_27, .ref q5_28, .int 0, .int 0])), (q5_28, .inl (cQ_29, 64, .inl fq_30))] := hD
  refine W.widen (k := 87) (n := 4094) (Nat.le_of_ble_eq_true rfl) (Nat.le_of_ble_eq_true rfl) ?_
  refine va_putF (D := (dC, dI)) (ci := 11) (v := .ref q_32) (ty := .object "SwapPress$Flows") (C := RX11) (T := TX11) (N := 13) hx hb hT iX11 tyX11 tyX11_ok nmX11 hown hK hP hD hS 0 rfl rfl 3 (by decide) (hT _ w356) (fun _ h9 => h9) rfl hin rfl (by decide +kernel) rfl rfl (Nat.le_of_ble_eq_true rfl) dX11_init_49 (fun H locs hP hD hS => ?_)
  have hP : va_P (dC, dI) vwCl [(h0, .inr (11, [.ref q_1, .ref q_5, .ref q_18, .ref q_32, .null, .null, .null, .null, .null, .null, .null, .null, .int 0])), (tb_2, .inl (cB_3, 900, .inl fb_4)), (q_5, .inr (6, [.int 0, .int (-1), .ref rn_6, .ref rb_7, .ref tb_2, .int 0, .int 0, .int 0, .int 0, .int 0])), (q_1, .inr (10, [.ref tb_2, .int 0])), (rn_6, .inr (3, [.ref l0_8, .ref l1_9, .int 0, .int 0])), (rb_7, .inr (0, [.ref r0_10, .ref r1_11, .ref r2_12, .ref r3_13, .ref r4_14, .ref r5_15, .int 0, .int 0])), (r5_15, .inl (cR_16, 64, .inl fr_17)), (q_18, .inr (5, [.ref ba_19, .int 0])), (ba_19, .inl (cP_20, 10, .inr (.inr (.inr (.inr fb_21))))), (p0_22, .inr (0, [.ref q0_23, .ref q1_24, .ref q2_25, .ref q3_26, .ref q4_27, .ref q5_28, .int 0, .int 0])), (q5_28, .inl (cQ_29, 64, .inl fq_30))] H := hP
  have hD : va_D A [(h0, .inr (11, [.ref q_1, .ref q_5, .ref q_18, .ref q_32, .null, .null, .null, .null, .null, .null, .null, .null, .int 0])), (tb_2, .inl (cB_3, 900, .inl fb_4)), (q_5, .inr (6, [.int 0, .int (-1), .ref rn_6, .ref rb_7, .ref tb_2, .int 0, .int 0, .int 0, .int 0, .int 0])), (q_1, .inr (10, [.ref tb_2, .int 0])), (rn_6, .inr (3, [.ref l0_8, .ref l1_9, .int 0, .int 0])), (rb_7, .inr (0, [.ref r0_10, .ref r1_11, .ref r2_12, .ref r3_13, .ref r4_14, .ref r5_15, .int 0, .int 0])), (r5_15, .inl (cR_16, 64, .inl fr_17)), (q_18, .inr (5, [.ref ba_19, .int 0])), (ba_19, .inl (cP_20, 10, .inr (.inr (.inr (.inr fb_21))))), (p0_22, .inr (0, [.ref q0_23, .ref q1_24, .ref q2_25, .ref q3_26, .ref q4_27, .ref q5_28, .int 0, .int 0])), (q5_28, .inl (cQ_29, 64, .inl fq_30))] := hD
  refine lv_aload_n hx hb dX11_init_52 rfl (lv_at hl 0 rfl) ?_
  refine va_new (ci := 7) (fs := [.null, .int 0, .long 0, .int 0, .null, .null]) (C := RX7) (T := TX7) (N := 6) hx hb hT iX7 tyX7 tyX7_ok hown (hT _ w210) (hT _ w211) (hT _ w9) hK hP hD hS hA rfl (fun j hj => by rcases (show j = 0 ∨ j = 1 ∨ j = 2 ∨ j = 3 ∨ j = 4 ∨ j = 5 by omega) with rfl | rfl | rfl | rfl | rfl | rfl <;> rfl) (Nat.le_of_ble_eq_true rfl) (Nat.le_of_ble_eq_true rfl) dX11_init_53 (fun q_33 H hP hD hS => ?_)
  have hP : va_P (dC, dI) vwCl [(h0, .inr (11, [.ref q_1, .ref q_5, .ref q_18, .ref q_32, .null, .null, .null, .null, .null, .null, .null, .null, .int 0])), (tb_2, .inl (cB_3, 900, .inl fb_4)), (q_5, .inr (6, [.int 0, .int (-1), .ref rn_6, .ref rb_7, .ref tb_2, .int 0, .int 0, .int 0, .int 0, .int 0])), (q_1, .inr (10, [.ref tb_2, .int 0])), (rn_6, .inr (3, [.ref l0_8, .ref l1_9, .int 0, .int 0])), (rb_7, .inr (0, [.ref r0_10, .ref r1_11, .ref r2_12, .ref r3_13, .ref r4_14, .ref r5_15, .int 0, .int 0])), (r5_15, .inl (cR_16, 64, .inl fr_17)), (q_18, .inr (5, [.ref ba_19, .int 0])), (ba_19, .inl (cP_20, 10, .inr (.inr (.inr (.inr fb_21))))), (p0_22, .inr (0, [.ref q0_23, .ref q1_24, .ref q2_25, .ref q3_26, .ref q4_27, .ref q5_28, .int 0, .int 0])), (q5_28, .inl (cQ_29, 64, .inl fq_30)), (q_33, .inr (7, [.null, .int 0, .long 0, .int 0, .null, .null]))] H := hP
  have hD : va_D A [(h0, .inr (11, [.ref q_1, .ref q_5, .ref q_18, .ref q_32, .null, .null, .null, .null, .null, .null, .null, .null, .int 0])), (tb_2, .inl (cB_3, 900, .inl fb_4)), (q_5, .inr (6, [.int 0, .int (-1), .ref rn_6, .ref rb_7, .ref tb_2, .int 0, .int 0, .int 0, .int 0, .int 0])), (q_1, .inr (10, [.ref tb_2, .int 0])), (rn_6, .inr (3, [.ref l0_8, .ref l1_9, .int 0, .int 0])), (rb_7, .inr (0, [.ref r0_10, .ref r1_11, .ref r2_12, .ref r3_13, .ref r4_14, .ref r5_15, .int 0, .int 0])), (r5_15, .inl (cR_16, 64, .inl fr_17)), (q_18, .inr (5, [.ref ba_19, .int 0])), (ba_19, .inl (cP_20, 10, .inr (.inr (.inr (.inr fb_21))))), (p0_22, .inr (0, [.ref q0_23, .ref q1_24, .ref q2_25, .ref q3_26, .ref q4_27, .ref q5_28, .int 0, .int 0])), (q5_28, .inl (cQ_29, 64, .inl fq_30)), (q_33, .inr (7, [.null, .int 0, .long 0, .int 0, .null, .null]))] := hD
  refine W.widen (k := 88) (n := 4100) (Nat.le_of_ble_eq_true rfl) (Nat.le_of_ble_eq_true rfl) ?_
  refine lv_dup hx hb dX11_init_56 rfl ?_
  have hPc := hP.sub (ws' := [(q_33, .inr (7, [.null, .int 0, .long 0, .int 0, .null, .null]))]) [11] rfl
  have hDc := hD.sub (ws' := [(q_33, .inr (7, [.null, .int 0, .long 0, .int 0, .null, .null]))]) [11] (by decide) rfl
  have hKc := hK.sub (tys' := []) [] rfl
  have hFc := va_free (wc := [(q_33, .inr (7, [.null, .int 0, .long 0, .int 0, .null, .null]))]) hD hS hA [11] rfl
  refine va_callv (va_runIN (As := []) (rest := [.ref q_33, .ref h0]) ⟨hx, hb, hml, hown, hT⟩ (k_Rings l dC dI q_33 H.size) ⟨va_cnB 0 hT (gT w214) rfl rfl rfl (hN (RX11, 41, yX7_init, RX11) (by decide +kernel)) (hT _ w9) (by decide +kernel) ⟨(Nat.le_of_ble_eq_true rfl), (Nat.le_of_ble_eq_true rfl)⟩, rfl, (hT _ w213)⟩ ⟨pcW.blind, pcW.pre hPc hKc hDc⟩ rfl rfl hl.1 rfl (lv_room (Nat.le_of_ble_eq_true rfl)) dX11_init_57 ⟨(Nat.le_of_ble_eq_true rfl), (Nat.le_of_ble_eq_true rfl)⟩) hS (fun q _ h => hFc q h) hFc (fun u t H1 locs ht hvm hw hB hz1 hk1 hS => ?_)
  obtain ⟨hP, hD⟩ := va_join (wr := [(h0, .inr (11, [.ref q_1, .ref q_5, .ref q_18, .ref q_32, .null, .null, .null, .null, .null, .null, .null, .null, .int 0])), (tb_2, .inl (cB_3, 900, .inl fb_4)), (q_5, .inr (6, [.int 0, .int (-1), .ref rn_6, .ref rb_7, .ref tb_2, .int 0, .int 0, .int 0, .int 0, .int 0])), (q_1, .inr (10, [.ref tb_2, .int 0])), (rn_6, .inr (3, [.ref l0_8, .ref l1_9, .int 0, .int 0])), (rb_7, .inr (0, [.ref r0_10, .ref r1_11, .ref r2_12, .ref r3_13, .ref r4_14, .ref r5_15, .int 0, .int 0])), (r5_15, .inl (cR_16, 64, .inl fr_17)), (q_18, .inr (5, [.ref ba_19, .int 0])), (ba_19, .inl (cP_20, 10, .inr (.inr (.inr (.inr fb_21))))), (p0_22, .inr (0, [.ref q0_23, .ref q1_24, .ref q2_25, .ref q3_26, .ref q4_27, .ref q5_28, .int 0, .int 0])), (q5_28, .inl (cQ_29, 64, .inl fq_30))]) (w1 := []) hP hD [11] [0, 1, 2, 3, 4, 5, 6, 7, 8, 9, 10] rfl rfl (by decide) (by decide) hk1 hFc (va_P0 _ _ _) (va_D0 _)
  generalize H1 = H at hP hS ⊢
  have hP : va_P (dC, dI) vwCl [(h0, .inr (11, [.ref q_1, .ref q_5, .ref q_18, .ref q_32, .null, .null, .null, .null, .null, .null, .null, .null, .int 0])), (tb_2, .inl (cB_3, 900, .inl fb_4)), (q_5, .inr (6, [.int 0, .int (-1), .ref rn_6, .ref rb_7, .ref tb_2, .int 0, .int 0, .int 0, .int 0, .int 0])), (q_1, .inr (10, [.ref tb_2, .int 0])), (rn_6, .inr (3, [.ref l0_8, .ref l1_9, .int 0, .int 0])), (rb_7, .inr (0, [.ref r0_10, .ref r1_11, .ref r2_12, .ref r3_13, .ref r4_14, .ref r5_15, .int 0, .int 0])), (r5_15, .inl (cR_16, 64, .inl fr_17)), (q_18, .inr (5, [.ref ba_19, .int 0])), (ba_19, .inl (cP_20, 10, .inr (.inr (.inr (.inr fb_21))))), (p0_22, .inr (0, [.ref q0_23, .ref q1_24, .ref q2_25, .ref q3_26, .ref q4_27, .ref q5_28, .int 0, .int 0])), (q5_28, .inl (cQ_29, 64, .inl fq_30))] H := hP
  have hD : va_D A [(h0, .inr (11, [.ref q_1, .ref q_5, .ref q_18, .ref q_32, .null, .null, .null, .null, .null, .null, .null, .null, .int 0])), (tb_2, .inl (cB_3, 900, .inl fb_4)), (q_5, .inr (6, [.int 0, .int (-1), .ref rn_6, .ref rb_7, .ref tb_2, .int 0, .int 0, .int 0, .int 0, .int 0])), (q_1, .inr (10, [.ref tb_2, .int 0])), (rn_6, .inr (3, [.ref l0_8, .ref l1_9, .int 0, .int 0])), (rb_7, .inr (0, [.ref r0_10, .ref r1_11, .ref r2_12, .ref r3_13, .ref r4_14, .ref r5_15, .int 0, .int 0])), (r5_15, .inl (cR_16, 64, .inl fr_17)), (q_18, .inr (5, [.ref ba_19, .int 0])), (ba_19, .inl (cP_20, 10, .inr (.inr (.inr (.inr fb_21))))), (p0_22, .inr (0, [.ref q0_23, .ref q1_24, .ref q2_25, .ref q3_26, .ref q4_27, .ref q5_28, .int 0, .int 0])), (q5_28, .inl (cQ_29, 64, .inl fq_30))] := hD
  refine W.widen (k := 91) (n := 4124) (Nat.le_of_ble_eq_true rfl) (Nat.le_of_ble_eq_true rfl) ?_
  refine va_putF (D := (dC, dI)) (ci := 11) (v := .ref q_33) (ty := .object "SwapPress$Rings") (C := RX11) (T := TX11) (N := 13) hx hb hT iX11 tyX11 tyX11_ok nmX11 hown hK hP hD hS 0 rfl rfl 4 (by decide) (hT _ w357) (fun _ h9 => h9) rfl hin rfl (by decide +kernel) rfl rfl (Nat.le_of_ble_eq_true rfl) dX11_init_60 (fun H locs hP hD hS => ?_)
  have hP : va_P (dC, dI) vwCl [(h0, .inr (11, [.ref q_1, .ref q_5, .ref q_18, .ref q_32, .ref q_33, .null, .null, .null, .null, .null, .null, .null, .int 0])), (tb_2, .inl (cB_3, 900, .inl fb_4)), (q_5, .inr (6, [.int 0, .int (-1), .ref rn_6, .ref rb_7, .ref tb_2, .int 0, .int 0, .int 0, .int 0, .int 0])), (q_1, .inr (10, [.ref tb_2, .int 0])), (rn_6, .inr (3, [.ref l0_8, .ref l1_9, .int 0, .int 0])), (rb_7, .inr (0, [.ref r0_10, .ref r1_11, .ref r2_12, .ref r3_13, .ref r4_14, .ref r5_15, .int 0, .int 0])), (r5_15, .inl (cR_16, 64, .inl fr_17)), (q_18, .inr (5, [.ref ba_19, .int 0])), (ba_19, .inl (cP_20, 10, .inr (.inr (.inr (.inr fb_21))))), (p0_22, .inr (0, [.ref q0_23, .ref q1_24, .ref q2_25, .ref q3_26, .ref q4_27, .ref q5_28, .int 0, .int 0])), (q5_28, .inl (cQ_29, 64, .inl fq_30))] H := hP
  have hD : va_D A [(h0, .inr (11, [.ref q_1, .ref q_5, .ref q_18, .ref q_32, .ref q_33, .null, .null, .null, .null, .null, .null, .null, .int 0])), (tb_2, .inl (cB_3, 900, .inl fb_4)), (q_5, .inr (6, [.int 0, .int (-1), .ref rn_6, .ref rb_7, .ref tb_2, .int 0, .int 0, .int 0, .int 0, .int 0])), (q_1, .inr (10, [.ref tb_2, .int 0])), (rn_6, .inr (3, [.ref l0_8, .ref l1_9, .int 0, .int 0])), (rb_7, .inr (0, [.ref r0_10, .ref r1_11, .ref r2_12, .ref r3_13, .ref r4_14, .ref r5_15, .int 0, .int 0])), (r5_15, .inl (cR_16, 64, .inl fr_17)), (q_18, .inr (5, [.ref ba_19, .int 0])), (ba_19, .inl (cP_20, 10, .inr (.inr (.inr (.inr fb_21))))), (p0_22, .inr (0, [.ref q0_23, .ref q1_24, .ref q2_25, .ref q3_26, .ref q4_27, .ref q5_28, .int 0, .int 0])), (q5_28, .inl (cQ_29, 64, .inl fq_30))] := hD
  refine lv_aload_n hx hb dX11_init_63 rfl (lv_at hl 0 rfl) ?_
  refine va_new (ci := 8) (fs := [.null, .int 0, .null]) (C := RX8) (T := TX8) (N := 3) hx hb hT iX8 tyX8 tyX8_ok hown (hT _ w239) (hT _ w240) (hT _ w10) hK hP hD hS hA rfl (fun j hj => by rcases (show j = 0 ∨ j = 1 ∨ j = 2 by omega) with rfl | rfl | rfl <;> rfl) (Nat.le_of_ble_eq_true rfl) (Nat.le_of_ble_eq_true rfl) dX11_init_64 (fun q_34 H hP hD hS => ?_)
  have hP : va_P (dC, dI) vwCl [(h0, .inr (11, [.ref q_1, .ref q_5, .ref q_18, .ref q_32, .ref q_33, .null, .null, .null, .null, .null, .null, .null, .int 0])), (tb_2, .inl (cB_3, 900, .inl fb_4)), (q_5, .inr (6, [.int 0, .int (-1), .ref rn_6, .ref rb_7, .ref tb_2, .int 0, .int 0, .int 0, .int 0, .int 0])), (q_1, .inr (10, [.ref tb_2, .int 0])), (rn_6, .inr (3, [.ref l0_8, .ref l1_9, .int 0, .int 0])), (rb_7, .inr (0, [.ref r0_10, .ref r1_11, .ref r2_12, .ref r3_13, .ref r4_14, .ref r5_15, .int 0, .int 0])), (r5_15, .inl (cR_16, 64, .inl fr_17)), (q_18, .inr (5, [.ref ba_19, .int 0])), (ba_19, .inl (cP_20, 10, .inr (.inr (.inr (.inr fb_21))))), (p0_22, .inr (0, [.ref q0_23, .ref q1_24, .ref q2_25, .ref q3_26, .ref q4_27, .ref q5_28, .int 0, .int 0])), (q5_28, .inl (cQ_29, 64, .inl fq_30)), (q_34, .inr (8, [.null, .int 0, .null]))] H := hP
  have hD : va_D A [(h0, .inr (11, [.ref q_1, .ref q_5, .ref q_18, .ref q_32, .ref q_33, .null, .null, .null, .null, .null, .null, .null, .int 0])), (tb_2, .inl (cB_3, 900, .inl fb_4)), (q_5, .inr (6, [.int 0, .int (-1), .ref rn_6, .ref rb_7, .ref tb_2, .int 0, .int 0, .int 0, .int 0, .int 0])), (q_1, .inr (10, [.ref tb_2, .int 0])), (rn_6, .inr (3, [.ref l0_8, .ref l1_9, .int 0, .int 0])), (rb_7, .inr (0, [.ref r0_10, .ref r1_11, .ref r2_12, .ref r3_13, .ref r4_14, .ref r5_15, .int 0, .int 0])), (r5_15, .inl (cR_16, 64, .inl fr_17)), (q_18, .inr (5, [.ref ba_19, .int 0])), (ba_19, .inl (cP_20, 10, .inr (.inr (.inr (.inr fb_21))))), (p0_22, .inr (0, [.ref q0_23, .ref q1_24, .ref q2_25, .ref q3_26, .ref q4_27, .ref q5_28, .int 0, .int 0])), (q5_28, .inl (cQ_29, 64, .inl fq_30)), (q_34, .inr (8, [.null, .int 0, .null]))] := hD
  refine W.widen (k := 92) (n := 4127) (Nat.le_of_ble_eq_true rfl) (Nat.le_of_ble_eq_true rfl) ?_
  refine lv_dup hx hb dX11_init_67 rfl ?_
  have hPc := hP.sub (ws' := [(q_34, .inr (8, [.null, .int 0, .null]))]) [11] rfl
  have hDc := hD.sub (ws' := [(q_34, .inr (8, [.null, .int 0, .null]))]) [11] (by decide) rfl
  have hKc := hK.sub (tys' := []) [] rfl
  have hFc := va_free (wc := [(q_34, .inr (8, [.null, .int 0, .null]))]) hD hS hA [11] rfl
  refine va_callv (va_runIN (As := []) (rest := [.ref q_34, .ref h0]) ⟨hx, hb, hml, hown, hT⟩ (k_Row l dC dI q_34 H.size) ⟨va_cnB 0 hT (gT w243) rfl rfl rfl (hN (RX11, 48, yX8_init, RX11) (by decide +kernel)) (hT _ w10) (by decide +kernel) ⟨(Nat.le_of_ble_eq_true rfl), (Nat.le_of_ble_eq_true rfl)⟩, rfl, (hT _ w242)⟩ ⟨pcW.blind, pcW.pre hPc hKc hDc⟩ rfl rfl hl.1 rfl (lv_room (Nat.le_of_ble_eq_true rfl)) dX11_init_68 ⟨(Nat.le_of_ble_eq_true rfl), (Nat.le_of_ble_eq_true rfl)⟩) hS (fun q _ h => hFc q h) hFc (fun u t H1 locs ht hvm hw hB hz1 hk1 hS => ?_)
  obtain ⟨hP, hD⟩ := va_join (wr := [(h0, .inr (11, [.ref q_1, .ref q_5, .ref q_18, .ref q_32, .ref q_33, .null, .null, .null, .null, .null, .null, .null, .int 0])), (tb_2, .inl (cB_3, 900, .inl fb_4)), (q_5, .inr (6, [.int 0, .int (-1), .ref rn_6, .ref rb_7, .ref tb_2, .int 0, .int 0, .int 0, .int 0, .int 0])), (q_1, .inr (10, [.ref tb_2, .int 0])), (rn_6, .inr (3, [.ref l0_8, .ref l1_9, .int 0, .int 0])), (rb_7, .inr (0, [.ref r0_10, .ref r1_11, .ref r2_12, .ref r3_13, .ref r4_14, .ref r5_15, .int 0, .int 0])), (r5_15, .inl (cR_16, 64, .inl fr_17)), (q_18, .inr (5, [.ref ba_19, .int 0])), (ba_19, .inl (cP_20, 10, .inr (.inr (.inr (.inr fb_21))))), (p0_22, .inr (0, [.ref q0_23, .ref q1_24, .ref q2_25, .ref q3_26, .ref q4_27, .ref q5_28, .int 0, .int 0])), (q5_28, .inl (cQ_29, 64, .inl fq_30))]) (w1 := []) hP hD [11] [0, 1, 2, 3, 4, 5, 6, 7, 8, 9, 10] rfl rfl (by decide) (by decide) hk1 hFc (va_P0 _ _ _) (va_D0 _)
  generalize H1 = H at hP hS ⊢
  have hP : va_P (dC, dI) vwCl [(h0, .inr (11, [.ref q_1, .ref q_5, .ref q_18, .ref q_32, .ref q_33, .null, .null, .null, .null, .null, .null, .null, .int 0])), (tb_2, .inl (cB_3, 900, .inl fb_4)), (q_5, .inr (6, [.int 0, .int (-1), .ref rn_6, .ref rb_7, .ref tb_2, .int 0, .int 0, .int 0, .int 0, .int 0])), (q_1, .inr (10, [.ref tb_2, .int 0])), (rn_6, .inr (3, [.ref l0_8, .ref l1_9, .int 0, .int 0])), (rb_7, .inr (0, [.ref r0_10, .ref r1_11, .ref r2_12, .ref r3_13, .ref r4_14, .ref r5_15, .int 0, .int 0])), (r5_15, .inl (cR_16, 64, .inl fr_17)), (q_18, .inr (5, [.ref ba_19, .int 0])), (ba_19, .inl (cP_20, 10, .inr (.inr (.inr (.inr fb_21))))), (p0_22, .inr (0, [.ref q0_23, .ref q1_24, .ref q2_25, .ref q3_26, .ref q4_27, .ref q5_28, .int 0, .int 0])), (q5_28, .inl (cQ_29, 64, .inl fq_30))] H := hP
  have hD : va_D A [(h0, .inr (11, [.ref q_1, .ref q_5, .ref q_18, .ref q_32, .ref q_33, .null, .null, .null, .null, .null, .null, .null, .int 0])), (tb_2, .inl (cB_3, 900, .inl fb_4)), (q_5, .inr (6, [.int 0, .int (-1), .ref rn_6, .ref rb_7, .ref tb_2, .int 0, .int 0, .int 0, .int 0, .int 0])), (q_1, .inr (10, [.ref tb_2, .int 0])), (rn_6, .inr (3, [.ref l0_8, .ref l1_9, .int 0, .int 0])), (rb_7, .inr (0, [.ref r0_10, .ref r1_11, .ref r2_12, .ref r3_13, .ref r4_14, .ref r5_15, .int 0, .int 0])), (r5_15, .inl (cR_16, 64, .inl fr_17)), (q_18, .inr (5, [.ref ba_19, .int 0])), (ba_19, .inl (cP_20, 10, .inr (.inr (.inr (.inr fb_21))))), (p0_22, .inr (0, [.ref q0_23, .ref q1_24, .ref q2_25, .ref q3_26, .ref q4_27, .ref q5_28, .int 0, .int 0])), (q5_28, .inl (cQ_29, 64, .inl fq_30))] := hD
  refine W.widen (k := 94) (n := 4143) (Nat.le_of_ble_eq_true rfl) (Nat.le_of_ble_eq_true rfl) ?_
  refine va_putF (D := (dC, dI)) (ci := 11) (v := .ref q_34) (ty := .object "SwapPress$Row") (C := RX11) (T := TX11) (N := 13) hx hb hT iX11 tyX11 tyX11_ok nmX11 hown hK hP hD hS 0 rfl rfl 5 (by decide) (hT _ w358) (fun _ h9 => h9) rfl hin rfl (by decide +kernel) rfl rfl (Nat.le_of_ble_eq_true rfl) dX11_init_71 (fun H locs hP hD hS => ?_)
  have hP : va_P (dC, dI) vwCl [(h0, .inr (11, [.ref q_1, .ref q_5, .ref q_18, .ref q_32, .ref q_33, .ref q_34, .null, .null, .null, .null, .null, .null, .int 0])), (tb_2, .inl (cB_3, 900, .inl fb_4)), (q_5, .inr (6, [.int 0, .int (-1), .ref rn_6, .ref rb_7, .ref tb_2, .int 0, .int 0, .int 0, .int 0, .int 0])), (q_1, .inr (10, [.ref tb_2, .int 0])), (rn_6, .inr (3, [.ref l0_8, .ref l1_9, .int 0, .int 0])), (rb_7, .inr (0, [.ref r0_10, .ref r1_11, .ref r2_12, .ref r3_13, .ref r4_14, .ref r5_15, .int 0, .int 0])), (r5_15, .inl (cR_16, 64, .inl fr_17)), (q_18, .inr (5, [.ref ba_19, .int 0])), (ba_19, .inl (cP_20, 10, .inr (.inr (.inr (.inr fb_21))))), (p0_22, .inr (0, [.ref q0_23, .ref q1_24, .ref q2_25, .ref q3_26, .ref q4_27, .ref q5_28, .int 0, .int 0])), (q5_28, .inl (cQ_29, 64, .inl fq_30))] H := hP
  have hD : va_D A [(h0, .inr (11, [.ref q_1, .ref q_5, .ref q_18, .ref q_32, .ref q_33, .ref q_34, .null, .null, .null, .null, .null, .null, .int 0])), (tb_2, .inl (cB_3, 900, .inl fb_4)), (q_5, .inr (6, [.int 0, .int (-1), .ref rn_6, .ref rb_7, .ref tb_2, .int 0, .int 0, .int 0, .int 0, .int 0])), (q_1, .inr (10, [.ref tb_2, .int 0])), (rn_6, .inr (3, [.ref l0_8, .ref l1_9, .int 0, .int 0])), (rb_7, .inr (0, [.ref r0_10, .ref r1_11, .ref r2_12, .ref r3_13, .ref r4_14, .ref r5_15, .int 0, .int 0])), (r5_15, .inl (cR_16, 64, .inl fr_17)), (q_18, .inr (5, [.ref ba_19, .int 0])), (ba_19, .inl (cP_20, 10, .inr (.inr (.inr (.inr fb_21))))), (p0_22, .inr (0, [.ref q0_23, .ref q1_24, .ref q2_25, .ref q3_26, .ref q4_27, .ref q5_28, .int 0, .int 0])), (q5_28, .inl (cQ_29, 64, .inl fq_30))] := hD
  refine lv_aload_n hx hb dX11_init_74 rfl (lv_at hl 0 rfl) ?_
  refine va_new (ci := 9) (fs := [.null, .null, .int 0, .long 0, .null, .null, .null, .null, .null, .null, .null, .int 0, .int 0]) (C := RX9) (T := TX9) (N := 13) hx hb hT iX9 tyX9 tyX9_ok hown (hT _ w257) (hT _ w258) (hT _ w11) hK hP hD hS hA rfl (fun j hj => by rcases (show j = 0 ∨ j = 1 ∨ j = 2 ∨ j = 3 ∨ j = 4 ∨ j = 5 ∨ j = 6 ∨ j = 7 ∨ j = 8 ∨ j = 9 ∨ j = 10 ∨ j = 11 ∨ j = 12 by omega) with rfl | rfl | rfl | rfl | rfl | rfl | rfl | rfl | rfl | rfl | rfl | rfl | rfl <;> rfl) (Nat.le_of_ble_eq_true rfl) (Nat.le_of_ble_eq_true rfl) dX11_init_75 (fun q_35 H hP hD hS => ?_)
  have hP : va_P (dC, dI) vwCl [(h0, .inr (11, [.ref q_1, .ref q_5, .ref q_18, .ref q_32, .ref q_33, .ref q_34, .null, .null, .null, .null, .null, .null, .int 0])), (tb_2, .inl (cB_3, 900, .inl fb_4)), (q_5, .inr (6, [.int 0, .int (-1), .ref rn_6, .ref rb_7, .ref tb_2, .int 0, .int 0, .int 0, .int 0, .int 0])), (q_1, .inr (10, [.ref tb_2, .int 0])), (rn_6, .inr (3, [.ref l0_8, .ref l1_9, .int 0, .int 0])), (rb_7, .inr (0, [.ref r0_10, .ref r1_11, .ref r2_12, .ref r3_13, .ref r4_14, .ref r5_15, .int 0, .int 0])), (r5_15, .inl (cR_16, 64, .inl fr_17)), (q_18, .inr (5, [.ref ba_19, .int 0])), (ba_19, .inl (cP_20, 10, .inr (.inr (.inr (.inr fb_21))))), (p0_22, .inr (0, [.ref q0_23, .ref q1_24, .ref q2_25, .ref q3_26, .ref q4_27, .ref q5_28, .int 0, .int 0])), (q5_28, .inl (cQ_29, 64, .inl fq_30)), (q_35, .inr (9, [.null, .null, .int 0, .long 0, .null, .null, .null, .null, .null, .null, .null, .int 0, .int 0]))] H := hP
  have hD : va_D A [(h0, .inr (11, [.ref q_1, .ref q_5, .ref q_18, .ref q_32, .ref q_33, .ref q_34, .null, .null, .null, .null, .null, .null, .int 0])), (tb_2, .inl (cB_3, 900, .inl fb_4)), (q_5, .inr (6, [.int 0, .int (-1), .ref rn_6, .ref rb_7, .ref tb_2, .int 0, .int 0, .int 0, .int 0, .int 0])), (q_1, .inr (10, [.ref tb_2, .int 0])), (rn_6, .inr (3, [.ref l0_8, .ref l1_9, .int 0, .int 0])), (rb_7, .inr (0, [.ref r0_10, .ref r1_11, .ref r2_12, .ref r3_13, .ref r4_14, .ref r5_15, .int 0, .int 0])), (r5_15, .inl (cR_16, 64, .inl fr_17)), (q_18, .inr (5, [.ref ba_19, .int 0])), (ba_19, .inl (cP_20, 10, .inr (.inr (.inr (.inr fb_21))))), (p0_22, .inr (0, [.ref q0_23, .ref q1_24, .ref q2_25, .ref q3_26, .ref q4_27, .ref q5_28, .int 0, .int 0])), (q5_28, .inl (cQ_29, 64, .inl fq_30)), (q_35, .inr (9, [.null, .null, .int 0, .long 0, .null, .null, .null, .null, .null, .null, .null, .int 0, .int 0]))] := hD
  refine W.widen (k := 95) (n := 4156) (Nat.le_of_ble_eq_true rfl) (Nat.le_of_ble_eq_true rfl) ?_
  refine lv_dup hx hb dX11_init_78 rfl ?_
  have hPc := hP.sub (ws' := [(q_35, .inr (9, [.null, .null, .int 0, .long 0, .null, .null, .null, .null, .null, .null, .null, .int 0, .int 0]))]) [11] rfl
  have hDc := hD.sub (ws' := [(q_35, .inr (9, [.null, .null, .int 0, .long 0, .null, .null, .null, .null, .null, .null, .null, .int 0, .int 0]))]) [11] (by decide) rfl
  have hKc := hK.sub (tys' := []) [] rfl
  have hFc := va_free (wc := [(q_35, .inr (9, [.null, .null, .int 0, .long 0, .null, .null, .null, .null, .null, .null, .null, .int 0, .int 0]))]) hD hS hA [11] rfl
  refine va_callv (va_runIN (As := []) (rest := [.ref q_35, .ref h0]) ⟨hx, hb, hml, hown, hT⟩ (k_Solver l dC dI q_35 H.size) ⟨va_cnB 0 hT (gT w261) rfl rfl rfl (hN (RX11, 55, yX9_init, RX11) (by decide +kernel)) (hT _ w11) (by decide +kernel) ⟨(Nat.le_of_ble_eq_true rfl), (Nat.le_of_ble_eq_true rfl)⟩, rfl, (hT _ w260)⟩ ⟨pcW.blind, pcW.pre hPc hKc hDc⟩ rfl rfl hl.1 rfl (lv_room (Nat.le_of_ble_eq_true rfl)) dX11_init_79 ⟨(Nat.le_of_ble_eq_true rfl), (Nat.le_of_ble_eq_true rfl)⟩) hS (fun q _ h => hFc q h) hFc (fun u t H1 locs ht hvm hw hB hz1 hk1 hS => ?_)
  obtain ⟨hP, hD⟩ := va_join (wr := [(h0, .inr (11, [.ref q_1, .ref q_5, .ref q_18, .ref q_32, .ref q_33, .ref q_34, .null, .null, .null, .null, .null, .null, .int 0])), (tb_2, .inl (cB_3, 900, .inl fb_4)), (q_5, .inr (6, [.int 0, .int (-1), .ref rn_6, .ref rb_7, .ref tb_2, .int 0, .int 0, .int 0, .int 0, .int 0])), (q_1, .inr (10, [.ref tb_2, .int 0])), (rn_6, .inr (3, [.ref l0_8, .ref l1_9, .int 0, .int 0])), (rb_7, .inr (0, [.ref r0_10, .ref r1_11, .ref r2_12, .ref r3_13, .ref r4_14, .ref r5_15, .int 0, .int 0])), (r5_15, .inl (cR_16, 64, .inl fr_17)), (q_18, .inr (5, [.ref ba_19, .int 0])), (ba_19, .inl (cP_20, 10, .inr (.inr (.inr (.inr fb_21))))), (p0_22, .inr (0, [.ref q0_23, .ref q1_24, .ref q2_25, .ref q3_26, .ref q4_27, .ref q5_28, .int 0, .int 0])), (q5_28, .inl (cQ_29, 64, .inl fq_30))]) (w1 := []) hP hD [11] [0, 1, 2, 3, 4, 5, 6, 7, 8, 9, 10] rfl rfl (by decide) (by decide) hk1 hFc (va_P0 _ _ _) (va_D0 _)
  generalize H1 = H at hP hS ⊢
  have hP : va_P (dC, dI) vwCl [(h0, .inr (11, [.ref q_1, .ref q_5, .ref q_18, .ref q_32, .ref q_33, .ref q_34, .null, .null, .null, .null, .null, .null, .int 0])), (tb_2, .inl (cB_3, 900, .inl fb_4)), (q_5, .inr (6, [.int 0, .int (-1), .ref rn_6, .ref rb_7, .ref tb_2, .int 0, .int 0, .int 0, .int 0, .int 0])), (q_1, .inr (10, [.ref tb_2, .int 0])), (rn_6, .inr (3, [.ref l0_8, .ref l1_9, .int 0, .int 0])), (rb_7, .inr (0, [.ref r0_10, .ref r1_11, .ref r2_12, .ref r3_13, .ref r4_14, .ref r5_15, .int 0, .int 0])), (r5_15, .inl (cR_16, 64, .inl fr_17)), (q_18, .inr (5, [.ref ba_19, .int 0])), (ba_19, .inl (cP_20, 10, .inr (.inr (.inr (.inr fb_21))))), (p0_22, .inr (0, [.ref q0_23, .ref q1_24, .ref q2_25, .ref q3_26, .ref q4_27, .ref q5_28, .int 0, .int 0])), (q5_28, .inl (cQ_29, 64, .inl fq_30))] H := hP
  have hD : va_D A [(h0, .inr (11, [.ref q_1, .ref q_5, .ref q_18, .ref q_32, .ref q_33, .ref q_34, .null, .null, .null, .null, .null, .null, .int 0])), (tb_2, .inl (cB_3, 900, .inl fb_4)), (q_5, .inr (6, [.int 0, .int (-1), .ref rn_6, .ref rb_7, .ref tb_2, .int 0, .int 0, .int 0, .int 0, .int 0])), (q_1, .inr (10, [.ref tb_2, .int 0])), (rn_6, .inr (3, [.ref l0_8, .ref l1_9, .int 0, .int 0])), (rb_7, .inr (0, [.ref r0_10, .ref r1_11, .ref r2_12, .ref r3_13, .ref r4_14, .ref r5_15, .int 0, .int 0])), (r5_15, .inl (cR_16, 64, .inl fr_17)), (q_18, .inr (5, [.ref ba_19, .int 0])), (ba_19, .inl (cP_20, 10, .inr (.inr (.inr (.inr fb_21))))), (p0_22, .inr (0, [.ref q0_23, .ref q1_24, .ref q2_25, .ref q3_26, .ref q4_27, .ref q5_28, .int 0, .int 0])), (q5_28, .inl (cQ_29, 64, .inl fq_30))] := hD
  refine W.widen (k := 104) (n := 4620) (Nat.le_of_ble_eq_true rfl) (Nat.le_of_ble_eq_true rfl) ?_
  refine va_putF (D := (dC, dI)) (ci := 11) (v := .ref q_35) (ty := .object "SwapPress$Solver") (C := RX11) (T := TX11) (N := 13) hx hb hT iX11 tyX11 tyX11_ok nmX11 hown hK hP hD hS 0 rfl rfl 6 (by decide) (hT _ w359) (fun _ h9 => h9) rfl hin rfl (by decide +kernel) rfl rfl (Nat.le_of_ble_eq_true rfl) dX11_init_82 (fun H locs hP hD hS => ?_)
  have hP : va_P (dC, dI) vwCl [(h0, .inr (11, [.ref q_1, .ref q_5, .ref q_18, .ref q_32, .ref q_33, .ref q_34, .ref q_35, .null, .null, .null, .null, .null, .int 0])), (tb_2, .inl (cB_3, 900, .inl fb_4)), (q_5, .inr (6, [.int 0, .int (-1), .ref rn_6, .ref rb_7, .ref tb_2, .int 0, .int 0, .int 0, .int 0, .int 0])), (q_1, .inr (10, [.ref tb_2, .int 0])), (rn_6, .inr (3, [.ref l0_8, .ref l1_9, .int 0, .int 0])), (rb_7, .inr (0, [.ref r0_10, .ref r1_11, .ref r2_12, .ref r3_13, .ref r4_14, .ref r5_15, .int 0, .int 0])), (r5_15, .inl (cR_16, 64, .inl fr_17)), (q_18, .inr (5, [.ref ba_19, .int 0])), (ba_19, .inl (cP_20, 10, .inr (.inr (.inr (.inr fb_21))))), (p0_22, .inr (0, [.ref q0_23, .ref q1_24, .ref q2_25, .ref q3_26, .ref q4_27, .ref q5_28, .int 0, .int 0])), (q5_28, .inl (cQ_29, 64, .inl fq_30))] H := hP
  have hD : va_D A [(h0, .inr (11, [.ref q_1, .ref q_5, .ref q_18, .ref q_32, .ref q_33, .ref q_34, .ref q_35, .null, .null, .null, .null, .null, .int 0])), (tb_2, .inl (cB_3, 900, .inl fb_4)), (q_5, .inr (6, [.int 0, .int (-1), .ref rn_6, .ref rb_7, .ref tb_2, .int 0, .int 0, .int 0, .int 0, .int 0])), (q_1, .inr (10, [.ref tb_2, .int 0])), (rn_6, .inr (3, [.ref l0_8, .ref l1_9, .int 0, .int 0])), (rb_7, .inr (0, [.ref r0_10, .ref r1_11, .ref r2_12, .ref r3_13, .ref r4_14, .ref r5_15, .int 0, .int 0])), (r5_15, .inl (cR_16, 64, .inl fr_17)), (q_18, .inr (5, [.ref ba_19, .int 0])), (ba_19, .inl (cP_20, 10, .inr (.inr (.inr (.inr fb_21))))), (p0_22, .inr (0, [.ref q0_23, .ref q1_24, .ref q2_25, .ref q3_26, .ref q4_27, .ref q5_28, .int 0, .int 0])), (q5_28, .inl (cQ_29, 64, .inl fq_30))] := hD
  refine lv_aload_n hx hb dX11_init_85 rfl (lv_at hl 0 rfl) ?_
  refine va_new (ci := 9) (fs := [.null, .null, .int 0, .long 0, .null, .null, .null, .null, .null, .null, .null, .int 0, .int 0]) (C := RX9) (T := TX9) (N := 13) hx hb hT iX9 tyX9 tyX9_ok hown (hT _ w257) (hT _ w258) (hT _ w11) hK hP hD hS hA rfl (fun j hj => by rcases (show j = 0 ∨ j = 1 ∨ j = 2 ∨ j = 3 ∨ j = 4 ∨ j = 5 ∨ j = 6 ∨ j = 7 ∨ j = 8 ∨ j = 9 ∨ j = 10 ∨ j = 11 ∨ j = 12 by omega) with rfl | rfl | rfl | rfl | rfl | rfl | rfl | rfl | rfl | rfl | rfl | rfl | rfl <;> rfl) (Nat.le_of_ble_eq_true rfl) (Nat.le_of_ble_eq_true rfl) dX11_init_86 (fun q_36 H hP hD hS => ?_)
  have hP : va_P (dC, dI) vwCl [(h0, .inr (11, [.ref q_1, .ref q_5, .ref q_18, .ref q_32, .ref q_33, .ref q_34, .ref q_35, .null, .null, .null, .null, .null, .int 0])), (tb_2, .inl (cB_3, 900, .inl fb_4)), (q_5, .inr (6, [.int 0, .int (-1), .ref rn_6, .ref rb_7, .ref tb_2, .int 0, .int 0, .int 0, .int 0, .int 0])), (q_1, .inr (10, [.ref tb_2, .int 0])), (rn_6, .inr (3, [.ref l0_8, .ref l1_9, .int 0, .int 0])), (rb_7, .inr (0, [.ref r0_10, .ref r1_11, .ref r2_12, .ref r3_13, .ref r4_14, .ref r5_15, .int 0, .int 0])), (r5_15, .inl (cR_16, 64, .inl fr_17)), (q_18, .inr (5, [.ref ba_19, .int 0])), (ba_19, .inl (cP_20, 10, .inr (.inr (.inr (.inr fb_21))))), (p0_22, .inr (0, [.ref q0_23, .ref q1_24, .ref q2_25, .ref q3_26, .ref q4_27, .ref q5_28, .int 0, .int 0])), (q5_28, .inl (cQ_29, 64, .inl fq_30)), (q_36, .inr (9, [.null, .null, .int 0, .long 0, .null, .null, .null, .null, .null, .null, .null, .int 0, .int 0]))] H := hP
  have hD : va_D A [(h0, .inr (11, [.ref q_1, .ref q_5, .ref q_18, .ref q_32, .ref q_33, .ref q_34, .ref q_35, .null, .null, .null, .null, .null, .int 0])), (tb_2, .inl (cB_3, 900, .inl fb_4)), (q_5, .inr (6, [.int 0, .int (-1), .ref rn_6, .ref rb_7, .ref tb_2, .int 0, .int 0, .int 0, .int 0, .int 0])), (q_1, .inr (10, [.ref tb_2, .int 0])), (rn_6, .inr (3, [.ref l0_8, .ref l1_9, .int 0, .int 0])), (rb_7, .inr (0, [.ref r0_10, .ref r1_11, .ref r2_12, .ref r3_13, .ref r4_14, .ref r5_15, .int 0, .int 0])), (r5_15, .inl (cR_16, 64, .inl fr_17)), (q_18, .inr (5, [.ref ba_19, .int 0])), (ba_19, .inl (cP_20, 10, .inr (.inr (.inr (.inr fb_21))))), (p0_22, .inr (0, [.ref q0_23, .ref q1_24, .ref q2_25, .ref q3_26, .ref q4_27, .ref q5_28, .int 0, .int 0])), (q5_28, .inl (cQ_29, 64, .inl fq_30)), (q_36, .inr (9, [.null, .null, .int 0, .long 0, .null, .null, .null, .null, .null, .null, .null, .int 0, .int 0]))] := hD
  refine W.widen (k := 105) (n := 4633) (Nat.le_of_ble_eq_true rfl) (Nat.le_of_ble_eq_true rfl) ?_
  refine lv_dup hx hb dX11_init_89 rfl ?_
  have hPc := hP.sub (ws' := [(q_36, .inr (9, [.null, .null, .int 0, .long 0, .null, .null, .null, .null, .null, .null, .null, .int 0, .int 0]))]) [11] rfl
  have hDc := hD.sub (ws' := [(q_36, .inr (9, [.null, .null, .int 0, .long 0, .null, .null, .null, .null, .null, .null, .null, .int 0, .int 0]))]) [11] (by decide) rfl
  have hKc := hK.sub (tys' := []) [] rfl
  have hFc := va_free (wc := [(q_36, .inr (9, [.null, .null, .int 0, .long 0, .null, .null, .null, .null, .null, .null, .null, .int 0, .int 0]))]) hD hS hA [11] rfl
  refine va_callv (va_runIN (As := []) (rest := [.ref q_36, .ref h0]) ⟨hx, hb, hml, hown, hT⟩ (k_Solver l dC dI q_36 H.size) ⟨va_cnB 0 hT (gT w261) rfl rfl rfl (hN (RX11, 55, yX9_init, RX11) (by decide +kernel)) (hT _ w11) (by decide +kernel) ⟨(Nat.le_of_ble_eq_true rfl), (Nat.le_of_ble_eq_true rfl)⟩, rfl, (hT _ w260)⟩ ⟨pcW.blind, pcW.pre hPc hKc hDc⟩ rfl rfl hl.1 rfl (lv_room (Nat.le_of_ble_eq_true rfl)) dX11_init_90 ⟨(Nat.le_of_ble_eq_true rfl), (Nat.le_of_ble_eq_true rfl)⟩) hS (fun q _ h => hFc q h) hFc (fun u t H1 locs ht hvm hw hB hz1 hk1 hS => ?_)
  obtain ⟨hP, hD⟩ := va_join (wr := [(h0, .inr (11, [.ref q_1, .ref q_5, .ref q_18, .ref q_32, .ref q_33, .ref q_34, .ref q_35, .null, .null, .null, .null, .null, .int 0])), (tb_2, .inl (cB_3, 900, .inl fb_4)), (q_5, .inr (6, [.int 0, .int (-1), .ref rn_6, .ref rb_7, .ref tb_2, .int 0, .int 0, .int 0, .int 0, .int 0])), (q_1, .inr (10, [.ref tb_2, .int 0])), (rn_6, .inr (3, [.ref l0_8, .ref l1_9, .int 0, .int 0])), (rb_7, .inr (0, [.ref r0_10, .ref r1_11, .ref r2_12, .ref r3_13, .ref r4_14, .ref r5_15, .int 0, .int 0])), (r5_15, .inl (cR_16, 64, .inl fr_17)), (q_18, .inr (5, [.ref ba_19, .int 0])), (ba_19, .inl (cP_20, 10, .inr (.inr (.inr (.inr fb_21))))), (p0_22, .inr (0, [.ref q0_23, .ref q1_24, .ref q2_25, .ref q3_26, .ref q4_27, .ref q5_28, .int 0, .int 0])), (q5_28, .inl (cQ_29, 64, .inl fq_30))]) (w1 := []) hP hD [11] [0, 1, 2, 3, 4, 5, 6, 7, 8, 9, 10] rfl rfl (by decide) (by decide) hk1 hFc (va_P0 _ _ _) (va_D0 _)
  generalize H1 = H at hP hS ⊢
  have hP : va_P (dC, dI) vwCl [(h0, .inr (11, [.ref q_1, .ref q_5, .ref q_18, .ref q_32, .ref q_33, .ref q_34, .ref q_35, .null, .null, .null, .null, .null, .int 0])), (tb_2, .inl (cB_3, 900, .inl fb_4)), (q_5, .inr (6, [.int 0, .int (-1), .ref rn_6, .ref rb_7, .ref tb_2, .int 0, .int 0, .int 0, .int 0, .int 0])), (q_1, .inr (10, [.ref tb_2, .int 0])), (rn_6, .inr (3, [.ref l0_8, .ref l1_9, .int 0, .int 0])), (rb_7, .inr (0, [.ref r0_10, .ref r1_11, .ref r2_12, .ref r3_13, .ref r4_14, .ref r5_15, .int 0, .int 0])), (r5_15, .inl (cR_16, 64, .inl fr_17)), (q_18, .inr (5, [.ref ba_19, .int 0])), (ba_19, .inl (cP_20, 10, .inr (.inr (.inr (.inr fb_21))))), (p0_22, .inr (0, [.ref q0_23, .ref q1_24, .ref q2_25, .ref q3_26, .ref q4_27, .ref q5_28, .int 0, .int 0])), (q5_28, .inl (cQ_29, 64, .inl fq_30))] H := hP
  have hD : va_D A [(h0, .inr (11, [.ref q_1, .ref q_5, .ref q_18, .ref q_32, .ref q_33, .ref q_34, .ref q_35, .null, .null, .null, .null, .null, .int 0])), (tb_2, .inl (cB_3, 900, .inl fb_4)), (q_5, .inr (6, [.int 0, .int (-1), .ref rn_6, .ref rb_7, .ref tb_2, .int 0, .int 0, .int 0, .int 0, .int 0])), (q_1, .inr (10, [.ref tb_2, .int 0])), (rn_6, .inr (3, [.ref l0_8, .ref l1_9, .int 0, .int 0])), (rb_7, .inr (0, [.ref r0_10, .ref r1_11, .ref r2_12, .ref r3_13, .ref r4_14, .ref r5_15, .int 0, .int 0])), (r5_15, .inl (cR_16, 64, .inl fr_17)), (q_18, .inr (5, [.ref ba_19, .int 0])), (ba_19, .inl (cP_20, 10, .inr (.inr (.inr (.inr fb_21))))), (p0_22, .inr (0, [.ref q0_23, .ref q1_24, .ref q2_25, .ref q3_26, .ref q4_27, .ref q5_28, .int 0, .int 0])), (q5_28, .inl (cQ_29, 64, .inl fq_30))] := hD
  refine W.widen (k := 114) (n := 5097) (Nat.le_of_ble_eq_true rfl) (Nat.le_of_ble_eq_true rfl) ?_
  refine va_putF (D := (dC, dI)) (ci := 11) (v := .ref q_36) (ty := .object "SwapPress$Solver") (C := RX11) (T := TX11) (N := 13) hx hb hT iX11 tyX11 tyX11_ok nmX11 hown hK hP hD hS 0 rfl rfl 7 (by decide) (hT _ w360) (fun _ h9 => h9) rfl hin rfl (by decide +kernel) rfl rfl (Nat.le_of_ble_eq_true rfl) dX11_init_93 (fun H locs hP hD hS => ?_)
  have hP : va_P (dC, dI) vwCl [(h0, .inr (11, [.ref q_1, .ref q_5, .ref q_18, .ref q_32, .ref q_33, .ref q_34, .ref q_35, .ref q_36, .null, .null, .null, .null, .int 0])), (tb_2, .inl (cB_3, 900, .inl fb_4)), (q_5, .inr (6, [.int 0, .int (-1), .ref rn_6, .ref rb_7, .ref tb_2, .int 0, .int 0, .int 0, .int 0, .int 0])), (q_1, .inr (10, [.ref tb_2, .int 0])), (rn_6, .inr (3, [.ref l0_8, .ref l1_9, .int 0, .int 0])), (rb_7, .inr (0, [.ref r0_10, .ref r1_11, .ref r2_12, .ref r3_13, .ref r4_14, .ref r5_15, .int 0, .int 0])), (r5_15, .inl (cR_16, 64, .inl fr_17)), (q_18, .inr (5, [.ref ba_19, .int 0])), (ba_19, .inl (cP_20, 10, .inr (.inr (.inr (.inr fb_21))))), (p0_22, .inr (0, [.ref q0_23, .ref q1_24, .ref q2_25, .ref q3_26, .ref q4_27, .ref q5_28, .int 0, .int 0])), (q5_28, .inl (cQ_29, 64, .inl fq_30))] H := hP
  have hD : va_D A [(h0, .inr (11, [.ref q_1, .ref q_5, .ref q_18, .ref q_32, .ref q_33, .ref q_34, .ref q_35, .ref q_36, .null, .null, .null, .null, .int 0])), (tb_2, .inl (cB_3, 900, .inl fb_4)), (q_5, .inr (6, [.int 0, .int (-1), .ref rn_6, .ref rb_7, .ref tb_2, .int 0, .int 0, .int 0, .int 0, .int 0])), (q_1, .inr (10, [.ref tb_2, .int 0])), (rn_6, .inr (3, [.ref l0_8, .ref l1_9, .int 0, .int 0])), (rb_7, .inr (0, [.ref r0_10, .ref r1_11, .ref r2_12, .ref r3_13, .ref r4_14, .ref r5_15, .int 0, .int 0])), (r5_15, .inl (cR_16, 64, .inl fr_17)), (q_18, .inr (5, [.ref ba_19, .int 0])), (ba_19, .inl (cP_20, 10, .inr (.inr (.inr (.inr fb_21))))), (p0_22, .inr (0, [.ref q0_23, .ref q1_24, .ref q2_25, .ref q3_26, .ref q4_27, .ref q5_28, .int 0, .int 0])), (q5_28, .inl (cQ_29, 64, .inl fq_30))] := hD
  refine lv_aload_n hx hb dX11_init_96 rfl (lv_at hl 0 rfl) ?_
  refine va_new (ci := 2) (fs := [.int 0, .int 0, .null, .null, .null]) (C := RX2) (T := TX2) (N := 5) hx hb hT iX2 tyX2 tyX2_ok hown (hT _ w307) (hT _ w308) (hT _ w12) hK hP hD hS hA rfl (fun j hj => by rcases (show j = 0 ∨ j = 1 ∨ j = 2 ∨ j = 3 ∨ j = 4 by omega) with rfl | rfl | rfl | rfl | rfl <;> rfl) (Nat.le_of_ble_eq_true rfl) (Nat.le_of_ble_eq_true rfl) dX11_init_97 (fun q_37 H hP hD hS => ?_)
  have hP : va_P (dC, dI) vwCl [(h0, .inr (11, [.ref q_1, .ref q_5, .ref q_18, .ref q_32, .ref q_33, .ref q_34, .ref q_35, .ref q_36, .null, .null, .null, .null, .int 0])), (tb_2, .inl (cB_3, 900, .inl fb_4)), (q_5, .inr (6, [.int 0, .int (-1), .ref rn_6, .ref rb_7, .ref tb_2, .int 0, .int 0, .int 0, .int 0, .int 0])), (q_1, .inr (10, [.ref tb_2, .int 0])), (rn_6, .inr (3, [.ref l0_8, .ref l1_9, .int 0, .int 0])), (rb_7, .inr (0, [.ref r0_10, .ref r1_11, .ref r2_12, .ref r3_13, .ref r4_14, .ref r5_15, .int 0, .int 0])), (r5_15, .inl (cR_16, 64, .inl fr_17)), (q_18, .inr (5, [.ref ba_19, .int 0])), (ba_19, .inl (cP_20, 10, .inr (.inr (.inr (.inr fb_21))))), (p0_22, .inr (0, [.ref q0_23, .ref q1_24, .ref q2_25, .ref q3_26, .ref q4_27, .ref q5_28, .int 0, .int 0])), (q5_28, .inl (cQ_29, 64, .inl fq_30)), (q_37, .inr (2, [.int 0, .int 0, .null, .null, .null]))] H := hP
  have hD : va_D A [(h0, .inr (11, [.ref q_1, .ref q_5, .ref q_18, .ref q_32, .ref q_33, .ref q_34, .ref q_35, .ref q_36, .null, .null, .null, .null, .int 0])), (tb_2, .inl (cB_3, 900, .inl fb_4)), (q_5, .inr (6, [.int 0, .int (-1), .ref rn_6, .ref rb_7, .ref tb_2, .int 0, .int 0, .int 0, .int 0, .int 0])), (q_1, .inr (10, [.ref tb_2, .int 0])), (rn_6, .inr (3, [.ref l0_8, .ref l1_9, .int 0, .int 0])), (rb_7, .inr (0, [.ref r0_10, .ref r1_11, .ref r2_12, .ref r3_13, .ref r4_14, .ref r5_15, .int 0, .int 0])), (r5_15, .inl (cR_16, 64, .inl fr_17)), (q_18, .inr (5, [.ref ba_19, .int 0])), (ba_19, .inl (cP_20, 10, .inr (.inr (.inr (.inr fb_21))))), (p0_22, .inr (0, [.ref q0_23, .ref q1_24, .ref q2_25, .ref q3_26, .ref q4_27, .ref q5_28, .int 0, .int 0])), (q5_28, .inl (cQ_29, 64, .inl fq_30)), (q_37, .inr (2, [.int 0, .int 0, .null, .null, .null]))] := hD
  refine W.widen (k := 115) (n := 5102) (Nat.le_of_ble_eq_true rfl) (Nat.le_of_ble_eq_true rfl) ?_
  refine lv_dup hx hb dX11_init_100 rfl ?_
  have hPc := hP.sub (ws' := [(q_37, .inr (2, [.int 0, .int 0, .null, .null, .null]))]) [11] rfl
  have hDc := hD.sub (ws' := [(q_37, .inr (2, [.int 0, .int 0, .null, .null, .null]))]) [11] (by decide) rfl
  have hKc := hK.sub (tys' := []) [] rfl
  have hFc := va_free (wc := [(q_37, .inr (2, [.int 0, .int 0, .null, .null, .null]))]) hD hS hA [11] rfl
  refine va_callv (va_runIN (As := []) (rest := [.ref q_37, .ref h0]) ⟨hx, hb, hml, hown, hT⟩ (k_Groups l dC dI q_37 H.size) ⟨va_cnB 0 hT (gT w311) rfl rfl rfl (hN (RX11, 65, yX2_init, RX11) (by decide +kernel)) (hT _ w12) (by decide +kernel) ⟨(Nat.le_of_ble_eq_true rfl), (Nat.le_of_ble_eq_true rfl)⟩, rfl, (hT _ w310)⟩ ⟨pcW.blind, pcW.pre hPc hKc hDc⟩ rfl rfl hl.1 rfl (lv_room (Nat.le_of_ble_eq_true rfl)) dX11_init_101 ⟨(Nat.le_of_ble_eq_true rfl), (Nat.le_of_ble_eq_true rfl)⟩) hS (fun q _ h => hFc q h) hFc (fun u t H1 locs ht hvm hw hB hz1 hk1 hS => ?_)
  obtain ⟨hP, hD⟩ := va_join (wr := [(h0, .inr (11, [.ref q_1, .ref q_5, .ref q_18, .ref q_32, .ref q_33, .ref q_34, .ref q_35, .ref q_36, .null, .null, .null, .null, .int 0])), (tb_2, .inl (cB_3, 900, .inl fb_4)), (q_5, .inr (6, [.int 0, .int (-1), .ref rn_6, .ref rb_7, .ref tb_2, .int 0, .int 0, .int 0, .int 0, .int 0])), (q_1, .inr (10, [.ref tb_2, .int 0])), (rn_6, .inr (3, [.ref l0_8, .ref l1_9, .int 0, .int 0])), (rb_7, .inr (0, [.ref r0_10, .ref r1_11, .ref r2_12, .ref r3_13, .ref r4_14, .ref r5_15, .int 0, .int 0])), (r5_15, .inl (cR_16, 64, .inl fr_17)), (q_18, .inr (5, [.ref ba_19, .int 0])), (ba_19, .inl (cP_20, 10, .inr (.inr (.inr (.inr fb_21))))), (p0_22, .inr (0, [.ref q0_23, .ref q1_24, .ref q2_25, .ref q3_26, .ref q4_27, .ref q5_28, .int 0, .int 0])), (q5_28, .inl (cQ_29, 64, .inl fq_30))]) (w1 := []) hP hD [11] [0, 1, 2, 3, 4, 5, 6, 7, 8, 9, 10] rfl rfl (by decide) (by decide) hk1 hFc (va_P0 _ _ _) (va_D0 _)
  generalize H1 = H at hP hS ⊢
  have hP : va_P (dC, dI) vwCl [(h0, .inr (11, [.ref q_1, .ref q_5, .ref q_18, .ref q_32, .ref q_33, .ref q_34, .ref q_35, .ref q_36, .null, .null, .null, .null, .int 0])), (tb_2, .inl (cB_3, 900, .inl fb_4)), (q_5, .inr (6, [.int 0, .int (-1), .ref rn_6, .ref rb_7, .ref tb_2, .int 0, .int 0, .int 0, .int 0, .int 0])), (q_1, .inr (10, [.ref tb_2, .int 0])), (rn_6, .inr (3, [.ref l0_8, .ref l1_9, .int 0, .int 0])), (rb_7, .inr (0, [.ref r0_10, .ref r1_11, .ref r2_12, .ref r3_13, .ref r4_14, .ref r5_15, .int 0, .int 0])), (r5_15, .inl (cR_16, 64, .inl fr_17)), (q_18, .inr (5, [.ref ba_19, .int 0])), (ba_19, .inl (cP_20, 10, .inr (.inr (.inr (.inr fb_21))))), (p0_22, .inr (0, [.ref q0_23, .ref q1_24, .ref q2_25, .ref q3_26, .ref q4_27, .ref q5_28, .int 0, .int 0])), (q5_28, .inl (cQ_29, 64, .inl fq_30))] H := hP
  have hD : va_D A [(h0, .inr (11, [.ref q_1, .ref q_5, .ref q_18, .ref q_32, .ref q_33, .ref q_34, .ref q_35, .ref q_36, .null, .null, .null, .null, .int 0])), (tb_2, .inl (cB_3, 900, .inl fb_4)), (q_5, .inr (6, [.int 0, .int (-1), .ref rn_6, .ref rb_7, .ref tb_2, .int 0, .int 0, .int 0, .int 0, .int 0])), (q_1, .inr (10, [.ref tb_2, .int 0])), (rn_6, .inr (3, [.ref l0_8, .ref l1_9, .int 0, .int 0])), (rb_7, .inr (0, [.ref r0_10, .ref r1_11, .ref r2_12, .ref r3_13, .ref r4_14, .ref r5_15, .int 0, .int 0])), (r5_15, .inl (cR_16, 64, .inl fr_17)), (q_18, .inr (5, [.ref ba_19, .int 0])), (ba_19, .inl (cP_20, 10, .inr (.inr (.inr (.inr fb_21))))), (p0_22, .inr (0, [.ref q0_23, .ref q1_24, .ref q2_25, .ref q3_26, .ref q4_27, .ref q5_28, .int 0, .int 0])), (q5_28, .inl (cQ_29, 64, .inl fq_30))] := hD
  refine W.widen (k := 118) (n := 5622) (Nat.le_of_ble_eq_true rfl) (Nat.le_of_ble_eq_true rfl) ?_
  refine va_putF (D := (dC, dI)) (ci := 11) (v := .ref q_37) (ty := .object "SwapPress$Groups") (C := RX11) (T := TX11) (N := 13) hx hb hT iX11 tyX11 tyX11_ok nmX11 hown hK hP hD hS 0 rfl rfl 8 (by decide) (hT _ w361) (fun _ h9 => h9) rfl hin rfl (by decide +kernel) rfl rfl (Nat.le_of_ble_eq_true rfl) dX11_init_104 (fun H locs hP hD hS => ?_)
  have hP : va_P (dC, dI) vwCl [(h0, .inr (11, [.ref q_1, .ref q_5, .ref q_18, .ref q_32, .ref q_33, .ref q_34, .ref q_35, .ref q_36, .ref q_37, .null, .null, .null, .int 0])), (tb_2, .inl (cB_3, 900, .inl fb_4)), (q_5, .inr (6, [.int 0, .int (-1), .ref rn_6, .ref rb_7, .ref tb_2, .int 0, .int 0, .int 0, .int 0, .int 0])), (q_1, .inr (10, [.ref tb_2, .int 0])), (rn_6, .inr (3, [.ref l0_8, .ref l1_9, .int 0, .int 0])), (rb_7, .inr (0, [.ref r0_10, .ref r1_11, .ref r2_12, .ref r3_13, .ref r4_14, .ref r5_15, .int 0, .int 0])), (r5_15, .inl (cR_16, 64, .inl fr_17)), (q_18, .inr (5, [.ref ba_19, .int 0])), (ba_19, .inl (cP_20, 10, .inr (.inr (.inr (.inr fb_21))))), (p0_22, .inr (0, [.ref q0_23, .ref q1_24, .ref q2_25, .ref q3_26, .ref q4_27, .ref q5_28, .int 0, .int 0])), (q5_28, .inl (cQ_29, 64, .inl fq_30))] H := hP
  have hD : va_D A [(h0, .inr (11, [.ref q_1, .ref q_5, .ref q_18, .ref q_32, .ref q_33, .ref q_34, .ref q_35, .ref q_36, .ref q_37, .null, .null, .null, .int 0])), (tb_2, .inl (cB_3, 900, .inl fb_4)), (q_5, .inr (6, [.int 0, .int (-1), .ref rn_6, .ref rb_7, .ref tb_2, .int 0, .int 0, .int 0, .int 0, .int 0])), (q_1, .inr (10, [.ref tb_2, .int 0])), (rn_6, .inr (3, [.ref l0_8, .ref l1_9, .int 0, .int 0])), (rb_7, .inr (0, [.ref r0_10, .ref r1_11, .ref r2_12, .ref r3_13, .ref r4_14, .ref r5_15, .int 0, .int 0])), (r5_15, .inl (cR_16, 64, .inl fr_17)), (q_18, .inr (5, [.ref ba_19, .int 0])), (ba_19, .inl (cP_20, 10, .inr (.inr (.inr (.inr fb_21))))), (p0_22, .inr (0, [.ref q0_23, .ref q1_24, .ref q2_25, .ref q3_26, .ref q4_27, .ref q5_28, .int 0, .int 0])), (q5_28, .inl (cQ_29, 64, .inl fq_30))] := hD
  refine lv_aload_n hx hb dX11_init_107 rfl (lv_at hl 0 rfl) ?_
  refine va_new (ci := 4) (fs := [.null, .int 0, .null]) (C := RX4) (T := TX4) (N := 3) hx hb hT iX4 tyX4 tyX4_ok hown (hT _ w331) (hT _ w332) (hT _ w13) hK hP hD hS hA rfl (fun j hj => by rcases (show j = 0 ∨ j = 1 ∨ j = 2 by omega) with rfl | rfl | rfl <;> rfl) (Nat.le_of_ble_eq_true rfl) (Nat.le_of_ble_eq_true rfl) dX11_init_108 (fun q_38 H hP hD hS => ?_)
  have hP : va_P (dC, dI) vwCl [(h0, .inr (11, [.ref q_1, .ref q_5, .ref q_18, .ref q_32, .ref q_33, .ref q_34, .ref q_35, .ref q_36, .ref q_37, .null, .null, .null, .int 0])), (tb_2, .inl (cB_3, 900, .inl fb_4)), (q_5, .inr (6, [.int 0, .int (-1), .ref rn_6, .ref rb_7, .ref tb_2, .int 0, .int 0, .int 0, .int 0, .int 0])), (q_1, .inr (10, [.ref tb_2, .int 0])), (rn_6, .inr (3, [.ref l0_8, .ref l1_9, .int 0, .int 0])), (rb_7, .inr (0, [.ref r0_10, .ref r1_11, .ref r2_12, .ref r3_13, .ref r4_14, .ref r5_15, .int 0, .int 0])), (r5_15, .inl (cR_16, 64, .inl fr_17)), (q_18, .inr (5, [.ref ba_19, .int 0])), (ba_19, .inl (cP_20, 10, .inr (.inr (.inr (.inr fb_21))))), (p0_22, .inr (0, [.ref q0_23, .ref q1_24, .ref q2_25, .ref q3_26, .ref q4_27, .ref q5_28, .int 0, .int 0])), (q5_28, .inl (cQ_29, 64, .inl fq_30)), (q_38, .inr (4, [.null, .int 0, .null]))] H := hP
  have hD : va_D A [(h0, .inr (11, [.ref q_1, .ref q_5, .ref q_18, .ref q_32, .ref q_33, .ref q_34, .ref q_35, .ref q_36, .ref q_37, .null, .null, .null, .int 0])), (tb_2, .inl (cB_3, 900, .inl fb_4)), (q_5, .inr (6, [.int 0, .int (-1), .ref rn_6, .ref rb_7, .ref tb_2, .int 0, .int 0, .int 0, .int 0, .int 0])), (q_1, .inr (10, [.ref tb_2, .int 0])), (rn_6, .inr (3, [.ref l0_8, .ref l1_9, .int 0, .int 0])), (rb_7, .inr (0, [.ref r0_10, .ref r1_11, .ref r2_12, .ref r3_13, .ref r4_14, .ref r5_15, .int 0, .int 0])), (r5_15, .inl (cR_16, 64, .inl fr_17)), (q_18, .inr (5, [.ref ba_19, .int 0])), (ba_19, .inl (cP_20, 10, .inr (.inr (.inr (.inr fb_21))))), (p0_22, .inr (0, [.ref q0_23, .ref q1_24, .ref q2_25, .ref q3_26, .ref q4_27, .ref q5_28, .int 0, .int 0])), (q5_28, .inl (cQ_29, 64, .inl fq_30)), (q_38, .inr (4, [.null, .int 0, .null]))] := hD
  refine W.widen (k := 119) (n := 5625) (Nat.le_of_ble_eq_true rfl) (Nat.le_of_ble_eq_true rfl) ?_
  refine lv_dup hx hb dX11_init_111 rfl ?_
  have hPc := hP.sub (ws' := [(q_38, .inr (4, [.null, .int 0, .null]))]) [11] rfl
  have hDc := hD.sub (ws' := [(q_38, .inr (4, [.null, .int 0, .null]))]) [11] (by decide) rfl
  have hKc := hK.sub (tys' := []) [] rfl
  have hFc := va_free (wc := [(q_38, .inr (4, [.null, .int 0, .null]))]) hD hS hA [11] rfl
  refine va_callv (va_runIN (As := []) (rest := [.ref q_38, .ref h0]) ⟨hx, hb, hml, hown, hT⟩ (k_Page l dC dI q_38 H.size) ⟨va_cnB 0 hT (gT w335) rfl rfl rfl (hN (RX11, 72, yX4_init, RX11) (by decide +kernel)) (hT _ w13) (by decide +kernel) ⟨(Nat.le_of_ble_eq_true rfl), (Nat.le_of_ble_eq_true rfl)⟩, rfl, (hT _ w334)⟩ ⟨pcW.blind, pcW.pre hPc hKc hDc⟩ rfl rfl hl.1 rfl (lv_room (Nat.le_of_ble_eq_true rfl)) dX11_init_112 ⟨(Nat.le_of_ble_eq_true rfl), (Nat.le_of_ble_eq_true rfl)⟩) hS (fun q _ h => hFc q h) hFc (fun u t H1 locs ht hvm hw hB hz1 hk1 hS => ?_)
  obtain ⟨hP, hD⟩ := va_join (wr := [(h0, .inr (11, [.ref q_1, .ref q_5, .ref q_18, .ref q_32, .ref q_33, .ref q_34, .ref q_35, .ref q_36, .ref q_37, .null, .null, .null, .int 0])), (tb_2, .inl (cB_3, 900, .inl fb_4)), (q_5, .inr (6, [.int 0, .int (-1), .ref rn_6, .ref rb_7, .ref tb_2, .int 0, .int 0, .int 0, .int 0, .int 0])), (q_1, .inr (10, [.ref tb_2, .int 0])), (rn_6, .inr (3, [.ref l0_8, .ref l1_9, .int 0, .int 0])), (rb_7, .inr (0, [.ref r0_10, .ref r1_11, .ref r2_12, .ref r3_13, .ref r4_14, .ref r5_15, .int 0, .int 0])), (r5_15, .inl (cR_16, 64, .inl fr_17)), (q_18, .inr (5, [.ref ba_19, .int 0])), (ba_19, .inl (cP_20, 10, .inr (.inr (.inr (.inr fb_21))))), (p0_22, .inr (0, [.ref q0_23, .ref q1_24, .ref q2_25, .ref q3_26, .ref q4_27, .ref q5_28, .int 0, .int 0])), (q5_28, .inl (cQ_29, 64, .inl fq_30))]) (w1 := []) hP hD [11] [0, 1, 2, 3, 4, 5, 6, 7, 8, 9, 10] rfl rfl (by decide) (by decide) hk1 hFc (va_P0 _ _ _) (va_D0 _)
  generalize H1 = H at hP hS ⊢
  have hP : va_P (dC, dI) vwCl [(h0, .inr (11, [.ref q_1, .ref q_5, .ref q_18, .ref q_32, .ref q_33, .ref q_34, .ref q_35, .ref q_36, .ref q_37, .null, .null, .null, .int 0])), (tb_2, .inl (cB_3, 900, .inl fb_4)), (q_5, .inr (6, [.int 0, .int (-1), .ref rn_6, .ref rb_7, .ref tb_2, .int 0, .int 0, .int 0, .int 0, .int 0])), (q_1, .inr (10, [.ref tb_2, .int 0])), (rn_6, .inr (3, [.ref l0_8, .ref l1_9, .int 0, .int 0])), (rb_7, .inr (0, [.ref r0_10, .ref r1_11, .ref r2_12, .ref r3_13, .ref r4_14, .ref r5_15, .int 0, .int 0])), (r5_15, .inl (cR_16, 64, .inl fr_17)), (q_18, .inr (5, [.ref ba_19, .int 0])), (ba_19, .inl (cP_20, 10, .inr (.inr (.inr (.inr fb_21))))), (p0_22, .inr (0, [.ref q0_23, .ref q1_24, .ref q2_25, .ref q3_26, .ref q4_27, .ref q5_28, .int 0, .int 0])), (q5_28, .inl (cQ_29, 64, .inl fq_30))] H := hP
  have hD : va_D A [(h0, .inr (11, [.ref q_1, .ref q_5, .ref q_18, .ref q_32, .ref q_33, .ref q_34, .ref q_35, .ref q_36, .ref q_37, .null, .null, .null, .int 0])), (tb_2, .inl (cB_3, 900, .inl fb_4)), (q_5, .inr (6, [.int 0, .int (-1), .ref rn_6, .ref rb_7, .ref tb_2, .int 0, .int 0, .int 0, .int 0, .int 0])), (q_1, .inr (10, [.ref tb_2, .int 0])), (rn_6, .inr (3, [.ref l0_8, .ref l1_9, .int 0, .int 0])), (rb_7, .inr (0, [.ref r0_10, .ref r1_11, .ref r2_12, .ref r3_13, .ref r4_14, .ref r5_15, .int 0, .int 0])), (r5_15, .inl (cR_16, 64, .inl fr_17)), (q_18, .inr (5, [.ref ba_19, .int 0])), (ba_19, .inl (cP_20, 10, .inr (.inr (.inr (.inr fb_21))))), (p0_22, .inr (0, [.ref q0_23, .ref q1_24, .ref q2_25, .ref q3_26, .ref q4_27, .ref q5_28, .int 0, .int 0])), (q5_28, .inl (cQ_29, 64, .inl fq_30))] := hD
  refine W.widen (k := 121) (n := 5708) (Nat.le_of_ble_eq_true rfl) (Nat.le_of_ble_eq_true rfl) ?_
  refine va_putF (D := (dC, dI)) (ci := 11) (v := .ref q_38) (ty := .object "SwapPress$Page") (C := RX11) (T := TX11) (N := 13) hx hb hT iX11 tyX11 tyX11_ok nmX11 hown hK hP hD hS 0 rfl rfl 9 (by decide) (hT _ w362) (fun _ h9 => h9) rfl hin rfl (by decide +kernel) rfl rfl (Nat.le_of_ble_eq_true rfl) dX11_init_115 (fun H locs hP hD hS => ?_)
  have hP : va_P (dC, dI) vwCl [(h0, .inr (11, [.ref q_1, .ref q_5, .ref q_18, .ref q_32, .ref q_33, .ref q_34, .ref q_35, .ref q_36, .ref q_37, .ref q_38, .null, .null, .int 0])), (tb_2, .inl (cB_3, 900, .inl fb_4)), (q_5, .inr (6, [.int 0, .int (-1), .ref rn_6, .ref rb_7, .ref tb_2, .int 0, .int 0, .int 0, .int 0, .int 0])), (q_1, .inr (10, [.ref tb_2, .int 0])), (rn_6, .inr (3, [.ref l0_8, .ref l1_9, .int 0, .int 0])), (rb_7, .inr (0, [.ref r0_10, .ref r1_11, .ref r2_12, .ref r3_13, .ref r4_14, .ref r5_15, .int 0, .int 0])), (r5_15, .inl (cR_16, 64, .inl fr_17)), (q_18, .inr (5, [.ref ba_19, .int 0])), (ba_19, .inl (cP_20, 10, .inr (.inr (.inr (.inr fb_21))))), (p0_22, .inr (0, [.ref q0_23, .ref q1_24, .ref q2_25, .ref q3_26, .ref q4_27, .ref q5_28, .int 0, .int 0])), (q5_28, .inl (cQ_29, 64, .inl fq_30))] H := hP
  have hD : va_D A [(h0, .inr (11, [.ref q_1, .ref q_5, .ref q_18, .ref q_32, .ref q_33, .ref q_34, .ref q_35, .ref q_36, .ref q_37, .ref q_38, .null, .null, .int 0])), (tb_2, .inl (cB_3, 900, .inl fb_4)), (q_5, .inr (6, [.int 0, .int (-1), .ref rn_6, .ref rb_7, .ref tb_2, .int 0, .int 0, .int 0, .int 0, .int 0])), (q_1, .inr (10, [.ref tb_2, .int 0])), (rn_6, .inr (3, [.ref l0_8, .ref l1_9, .int 0, .int 0])), (rb_7, .inr (0, [.ref r0_10, .ref r1_11, .ref r2_12, .ref r3_13, .ref r4_14, .ref r5_15, .int 0, .int 0])), (r5_15, .inl (cR_16, 64, .inl fr_17)), (q_18, .inr (5, [.ref ba_19, .int 0])), (ba_19, .inl (cP_20, 10, .inr (.inr (.inr (.inr fb_21))))), (p0_22, .inr (0, [.ref q0_23, .ref q1_24, .ref q2_25, .ref q3_26, .ref q4_27, .ref q5_28, .int 0, .int 0])), (q5_28, .inl (cQ_29, 64, .inl fq_30))] := hD
  refine lv_aload_n hx hb dX11_init_118 rfl (lv_at hl 0 rfl) ?_
  refine va_new (ci := 3) (fs := [.null, .null, .int 0, .int 0]) (C := RX3) (T := TX3) (N := 4) hx hb hT iX3 tyX3 tyX3_ok hown (hT _ w349) (hT _ w53) (hT _ w4) hK hP hD hS hA rfl (fun j hj => by rcases (show j = 0 ∨ j = 1 ∨ j = 2 ∨ j = 3 by omega) with rfl | rfl | rfl | rfl <;> rfl) (Nat.le_of_ble_eq_true rfl) (Nat.le_of_ble_eq_true rfl) dX11_init_119 (fun q_39 H hP hD hS => ?_)
  have hP : va_P (dC, dI) vwCl [(h0, .inr (11, [.ref q_1, .ref q_5, .ref q_18, .ref q_32, .ref q_33, .ref q_34, .ref q_35, .ref q_36, .ref q_37, .ref q_38, .null, .null, .int 0])), (tb_2, .inl (cB_3, 900, .inl fb_4)), (q_5, .inr (6, [.int 0, .int (-1), .ref rn_6, .ref rb_7, .ref tb_2, .int 0, .int 0, .int 0, .int 0, .int 0])), (q_1, .inr (10, [.ref tb_2, .int 0])), (rn_6, .inr (3, [.ref l0_8, .ref l1_9, .int 0, .int 0])), (rb_7, .inr (0, [.ref r0_10, .ref r1_11, .ref r2_12, .ref r3_13, .ref r4_14, .ref r5_15, .int 0, .int 0])), (r5_15, .inl (cR_16, 64, .inl fr_17)), (q_18, .inr (5, [.ref ba_19, .int 0])), (ba_19, .inl (cP_20, 10, .inr (.inr (.inr (.inr fb_21))))), (p0_22, .inr (0, [.ref q0_23, .ref q1_24, .ref q2_25, .ref q3_26, .ref q4_27, .ref q5_28, .int 0, .int 0])), (q5_28, .inl (cQ_29, 64, .inl fq_30)), (q_39, .inr (3, [.null, .null, .int 0, .int 0]))] H := hP
  have hD : va_D A [(h0, .inr (11, [.ref q_1, .ref q_5, .ref q_18, .ref q_32, .ref q_33, .ref q_34, .ref q_35, .ref q_36, .ref q_37, .ref q_38, .null, .null, .int 0])), (tb_2, .inl (cB_3, 900, .inl fb_4)), (q_5, .inr (6, [.int 0, .int (-1), .ref rn_6, .ref rb_7, .ref tb_2, .int 0, .int 0, .int 0, .int 0, .int 0])), (q_1, .inr (10, [.ref tb_2, .int 0])), (rn_6, .inr (3, [.ref l0_8, .ref l1_9, .int 0, .int 0])), (rb_7, .inr (0, [.ref r0_10, .ref r1_11, .ref r2_12, .ref r3_13, .ref r4_14, .ref r5_15, .int 0, .int 0])), (r5_15, .inl (cR_16, 64, .inl fr_17)), (q_18, .inr (5, [.ref ba_19, .int 0])), (ba_19, .inl (cP_20, 10, .inr (.inr (.inr (.inr fb_21))))), (p0_22, .inr (0, [.ref q0_23, .ref q1_24, .ref q2_25, .ref q3_26, .ref q4_27, .ref q5_28, .int 0, .int 0])), (q5_28, .inl (cQ_29, 64, .inl fq_30)), (q_39, .inr (3, [.null, .null, .int 0, .int 0]))] := hD
  refine W.widen (k := 122) (n := 5712) (Nat.le_of_ble_eq_true rfl) (Nat.le_of_ble_eq_true rfl) ?_
  refine lv_dup hx hb dX11_init_122 rfl ?_
  have hPc := hP.sub (ws' := [(q_39, .inr (3, [.null, .null, .int 0, .int 0]))]) [11] rfl
  have hDc := hD.sub (ws' := [(q_39, .inr (3, [.null, .null, .int 0, .int 0]))]) [11] (by decide) rfl
  have hKc := hK.sub (tys' := []) [] rfl
  have hFc := va_free (wc := [(q_39, .inr (3, [.null, .null, .int 0, .int 0]))]) hD hS hA [11] rfl
  refine va_callv (va_runIN (As := []) (rest := [.ref q_39, .ref h0]) ⟨hx, hb, hml, hown, hT⟩ (k_Names l dC dI q_39 H.size) ⟨va_cnB 0 hT (gT w56) rfl rfl rfl (hN (RX11, 79, yX3_init, RX11) (by decide +kernel)) (hT _ w4) (by decide +kernel) ⟨(Nat.le_of_ble_eq_true rfl), (Nat.le_of_ble_eq_true rfl)⟩, rfl, (hT _ w55)⟩ ⟨pcW.blind, pcW.pre hPc hKc hDc⟩ rfl rfl hl.1 rfl (lv_room (Nat.le_of_ble_eq_true rfl)) dX11_init_123 ⟨(Nat.le_of_ble_eq_true rfl), (Nat.le_of_ble_eq_true rfl)⟩) hS (fun q _ h => hFc q h) hFc (fun u t H1 locs ht hvm hw hB hz1 hk1 hS => ?_)
  obtain ⟨l0_40, l1_41, hP1, hK1, hD1⟩ := hB
  rw [ht] at hP1
  have hK1 := va_K.moved hvm.symm hK1
  obtain ⟨hP, hD⟩ := va_join (wr := [(h0, .inr (11, [.ref q_1, .ref q_5, .ref q_18, .ref q_32, .ref q_33, .ref q_34, .ref q_35, .ref q_36, .ref q_37, .ref q_38, .null, .null, .int 0])), (tb_2, .inl (cB_3, 900, .inl fb_4)), (q_5, .inr (6, [.int 0, .int (-1), .ref rn_6, .ref rb_7, .ref tb_2, .int 0, .int 0, .int 0, .int 0, .int 0])), (q_1, .inr (10, [.ref tb_2, .int 0])), (rn_6, .inr (3, [.ref l0_8, .ref l1_9, .int 0, .int 0])), (rb_7, .inr (0, [.ref r0_10, .ref r1_11, .ref r2_12, .ref r3_13, .ref r4_14, .ref r5_15, .int 0, .int 0])), (r5_15, .inl (cR_16, 64, .inl fr_17)), (q_18, .inr (5, [.ref ba_19, .int 0])), (ba_19, .inl (cP_20, 10, .inr (.inr (.inr (.inr fb_21))))), (p0_22, .inr (0, [.ref q0_23, .ref q1_24, .ref q2_25, .ref q3_26, .ref q4_27, .ref q5_28, .int 0, .int 0])), (q5_28, .inl (cQ_29, 64, .inl fq_30))]) (w1 := [(q_39, .inr (3, [.ref l0_40, .ref l1_41, .int 0, .int 0]))]) hP hD [11] [0, 1, 2, 3, 4, 5, 6, 7, 8, 9, 10] rfl rfl (by decide) (by decide) hk1 hFc hP1 hD1
  have hK := hK.app hK1
  generalize H1 = H at hP hS ⊢
  have hP : va_P (dC, dI) vwCl [(h0, .inr (11, [.ref q_1, .ref q_5, .ref q_18, .ref q_32, .ref q_33, .ref q_34, .ref q_35, .ref q_36, .ref q_37, .ref q_38, .null, .null, .int 0])), (tb_2, .inl (cB_3, 900, .inl fb_4)), (q_5, .inr (6, [.int 0, .int (-1), .ref rn_6, .ref rb_7, .ref tb_2, .int 0, .int 0, .int 0, .int 0, .int 0])), (q_1, .inr (10, [.ref tb_2, .int 0])), (rn_6, .inr (3, [.ref l0_8, .ref l1_9, .int 0, .int 0])), (rb_7, .inr (0, [.ref r0_10, .ref r1_11, .ref r2_12, .ref r3_13, .ref r4_14, .ref r5_15, .int 0, .int 0])), (r5_15, .inl (cR_16, 64, .inl fr_17)), (q_18, .inr (5, [.ref ba_19, .int 0])), (ba_19, .inl (cP_20, 10, .inr (.inr (.inr (.inr fb_21))))), (p0_22, .inr (0, [.ref q0_23, .ref q1_24, .ref q2_25, .ref q3_26, .ref q4_27, .ref q5_28, .int 0, .int 0])), (q5_28, .inl (cQ_29, 64, .inl fq_30)), (q_39, .inr (3, [.ref l0_40, .ref l1_41, .int 0, .int 0]))] H := hP
  have hD : va_D A [(h0, .inr (11, [.ref q_1, .ref q_5, .ref q_18, .ref q_32, .ref q_33, .ref q_34, .ref q_35, .ref q_36, .ref q_37, .ref q_38, .null, .null, .int 0])), (tb_2, .inl (cB_3, 900, .inl fb_4)), (q_5, .inr (6, [.int 0, .int (-1), .ref rn_6, .ref rb_7, .ref tb_2, .int 0, .int 0, .int 0, .int 0, .int 0])), (q_1, .inr (10, [.ref tb_2, .int 0])), (rn_6, .inr (3, [.ref l0_8, .ref l1_9, .int 0, .int 0])), (rb_7, .inr (0, [.ref r0_10, .ref r1_11, .ref r2_12, .ref r3_13, .ref r4_14, .ref r5_15, .int 0, .int 0])), (r5_15, .inl (cR_16, 64, .inl fr_17)), (q_18, .inr (5, [.ref ba_19, .int 0])), (ba_19, .inl (cP_20, 10, .inr (.inr (.inr (.inr fb_21))))), (p0_22, .inr (0, [.ref q0_23, .ref q1_24, .ref q2_25, .ref q3_26, .ref q4_27, .ref q5_28, .int 0, .int 0])), (q5_28, .inl (cQ_29, 64, .inl fq_30)), (q_39, .inr (3, [.ref l0_40, .ref l1_41, .int 0, .int 0]))] := hD
  have hK : va_K (dC, dI) vwCl [(cB_3, .byte), (cR_16, .int), (cP_20, .object RX0), (cQ_29, .int)] s := hK
  refine W.widen (k := 124) (n := 5820) (Nat.le_of_ble_eq_true rfl) (Nat.le_of_ble_eq_true rfl) ?_
  refine va_put (D := (dC, dI)) (ci := 11) (v := .ref q_39) (ty := .object "SwapPress$Names") (C := RX11) (T := TX11) (N := 13) hx hb hT iX11 tyX11 tyX11_ok nmX11 hown hK hP hD hS 0 rfl rfl 10 (by decide) (hT _ w363) (fun _ h9 => h9) rfl (by decide +kernel) rfl rfl (Nat.le_of_ble_eq_true rfl) dX11_init_126 (fun H locs hP hD hS => ?_)
  have hP : va_P (dC, dI) vwCl [(h0, .inr (11, [.ref q_1, .ref q_5, .ref q_18, .ref q_32, .ref q_33, .ref q_34, .ref q_35, .ref q_36, .ref q_37, .ref q_38, .ref q_39, .null, .int 0])), (tb_2, .inl (cB_3, 900, .inl fb_4)), (q_5, .inr (6, [.int 0, .int (-1), .ref rn_6, .ref rb_7, .ref tb_2, .int 0, .int 0, .int 0, .int 0, .int 0])), (q_1, .inr (10, [.ref tb_2, .int 0])), (rn_6, .inr (3, [.ref l0_8, .ref l1_9, .int 0, .int 0])), (rb_7, .inr (0, [.ref r0_10, .ref r1_11, .ref r2_12, .ref r3_13, .ref r4_14, .ref r5_15, .int 0, .int 0])), (r5_15, .inl (cR_16, 64, .inl fr_17)), (q_18, .inr (5, [.ref ba_19, .int 0])), (ba_19, .inl (cP_20, 10, .inr (.inr (.inr (.inr fb_21))))), (p0_22, .inr (0, [.ref q0_23, .ref q1_24, .ref q2_25, .ref q3_26, .ref q4_27, .ref q5_28, .int 0, .int 0])), (q5_28, .inl (cQ_29, 64, .inl fq_30)), (q_39, .inr (3, [.ref l0_40, .ref l1_41, .int 0, .int 0]))] H := hP
  have hD : va_D A [(h0, .inr (11, [.ref q_1, .ref q_5, .ref q_18, .ref q_32, .ref q_33, .ref q_34, .ref q_35, .ref q_36, .ref q_37, .ref q_38, .ref q_39, .null, .int 0])), (tb_2, .inl (cB_3, 900, .inl fb_4)), (q_5, .inr (6, [.int 0, .int (-1), .ref rn_6, .ref rb_7, .ref tb_2, .int 0, .int 0, .int 0, .int 0, .int 0])), (q_1, .inr (10, [.ref tb_2, .int 0])), (rn_6, .inr (3, [.ref l0_8, .ref l1_9, .int 0, .int 0])), (rb_7, .inr (0, [.ref r0_10, .ref r1_11, .ref r2_12, .ref r3_13, .ref r4_14, .ref r5_15, .int 0, .int 0])), (r5_15, .inl (cR_16, 64, .inl fr_17)), (q_18, .inr (5, [.ref ba_19, .int 0])), (ba_19, .inl (cP_20, 10, .inr (.inr (.inr (.inr fb_21))))), (p0_22, .inr (0, [.ref q0_23, .ref q1_24, .ref q2_25, .ref q3_26, .ref q4_27, .ref q5_28, .int 0, .int 0])), (q5_28, .inl (cQ_29, 64, .inl fq_30)), (q_39, .inr (3, [.ref l0_40, .ref l1_41, .int 0, .int 0]))] := hD
  refine lv_aload_n hx hb dX11_init_129 rfl (lv_at hl 0 rfl) ?_
  refine va_new (ci := 0) (fs := [.null, .null, .null, .null, .null, .null, .int 0, .int 0]) (C := RX0) (T := TX0) (N := 8) hx hb hT iX0 tyX0 tyX0_ok hown (hT _ w351) (hT _ w79) (hT _ w5) hK hP hD hS hA rfl (fun j hj => by rcases (show j = 0 ∨ j = 1 ∨ j = 2 ∨ j = 3 ∨ j = 4 ∨ j = 5 ∨ j = 6 ∨ j = 7 by omega) with rfl | rfl | rfl | rfl | rfl | rfl | rfl | rfl <;> rfl) (Nat.le_of_ble_eq_true rfl) (Nat.le_of_ble_eq_true rfl) dX11_init_130 (fun q_42 H hP hD hS => ?_)
  have hP : va_P (dC, dI) vwCl [(h0, .inr (11, [.ref q_1, .ref q_5, .ref q_18, .ref q_32, .ref q_33, .ref q_34, .ref q_35, .ref q_36, .ref q_37, .ref q_38, .ref q_39, .null, .int 0])), (tb_2, .inl (cB_3, 900, .inl fb_4)), (q_5, .inr (6, [.int 0, .int (-1), .ref rn_6, .ref rb_7, .ref tb_2, .int 0, .int 0, .int 0, .int 0, .int 0])), (q_1, .inr (10, [.ref tb_2, .int 0])), (rn_6, .inr (3, [.ref l0_8, .ref l1_9, .int 0, .int 0])), (rb_7, .inr (0, [.ref r0_10, .ref r1_11, .ref r2_12, .ref r3_13, .ref r4_14, .ref r5_15, .int 0, .int 0])), (r5_15, .inl (cR_16, 64, .inl fr_17)), (q_18, .inr (5, [.ref ba_19, .int 0])), (ba_19, .inl (cP_20, 10, .inr (.inr (.inr (.inr fb_21))))), (p0_22, .inr (0, [.ref q0_23, .ref q1_24, .ref q2_25, .ref q3_26, .ref q4_27, .ref q5_28, .int 0, .int 0])), (q5_28, .inl (cQ_29, 64, .inl fq_30)), (q_39, .inr (3, [.ref l0_40, .ref l1_41, .int 0, .int 0])), (q_42, .inr (0, [.null, .null, .null, .null, .null, .null, .int 0, .int 0]))] H := hP
  have hD : va_D A [(h0, .inr (11, [.ref q_1, .ref q_5, .ref q_18, .ref q_32, .ref q_33, .ref q_34, .ref q_35, .ref q_36, .ref q_37, .ref q_38, .ref q_39, .null, .int 0])), (tb_2, .inl (cB_3, 900, .inl fb_4)), (q_5, .inr (6, [.int 0, .int (-1), .ref rn_6, .ref rb_7, .ref tb_2, .int 0, .int 0, .int 0, .int 0, .int 0])), (q_1, .inr (10, [.ref tb_2, .int 0])), (rn_6, .inr (3, [.ref l0_8, .ref l1_9, .int 0, .int 0])), (rb_7, .inr (0, [.ref r0_10, .ref r1_11, .ref r2_12, .ref r3_13, .ref r4_14, .ref r5_15, .int 0, .int 0])), (r5_15, .inl (cR_16, 64, .inl fr_17)), (q_18, .inr (5, [.ref ba_19, .int 0])), (ba_19, .inl (cP_20, 10, .inr (.inr (.inr (.inr fb_21))))), (p0_22, .inr (0, [.ref q0_23, .ref q1_24, .ref q2_25, .ref q3_26, .ref q4_27, .ref q5_28, .int 0, .int 0])), (q5_28, .inl (cQ_29, 64, .inl fq_30)), (q_39, .inr (3, [.ref l0_40, .ref l1_41, .int 0, .int 0])), (q_42, .inr (0, [.null, .null, .null, .null, .null, .null, .int 0, .int 0]))] := hD
  refine W.widen (k := 125) (n := 5828) (Nat.le_of_ble_eq_true rfl) (Nat.le_of_ble_eq_true rfl) ?_
  refine lv_dup hx hb dX11_init_133 rfl ?_
  have hPc := hP.sub (ws' := [(q_42, .inr (0, [.null, .null, .null, .null, .null, .null, .int 0, .int 0]))]) [12] rfl
  have hDc := hD.sub (ws' := [(q_42, .inr (0, [.null, .null, .null, .null, .null, .null, .int 0, .int 0]))]) [12] (by decide) rfl
  have hKc := hK.sub (tys' := []) [] rfl
  have hFc := va_free (wc := [(q_42, .inr (0, [.null, .null, .null, .null, .null, .null, .int 0, .int 0]))]) hD hS hA [12] rfl
  refine va_callv (va_runI (As := []) (rest := [.ref q_42, .ref h0]) ⟨hx, hb, hml, hown, hT⟩ (k_Book l dC dI q_42 H.size) (cwI 0 hT (gT w82) rfl rfl rfl (hT _ w5) (hT _ w352) (hT _ w81) rfl (by decide +kernel) ⟨(Nat.le_of_ble_eq_true rfl), (Nat.le_of_ble_eq_true rfl)⟩) ⟨pcW.blind, pcW.pre hPc hKc hDc⟩ rfl rfl hl.1 rfl (lv_room (Nat.le_of_ble_eq_true rfl)) dX11_init_134 ⟨(Nat.le_of_ble_eq_true rfl), (Nat.le_of_ble_eq_true rfl)⟩) hS (fun q _ h => hFc q h) hFc (fun u t H1 locs ht hvm hw hB hz1 hk1 hS => ?_)
  obtain ⟨e0_43, e1_44, e2_45, e3_46, e4_47, e5_48, cA_49, f_50, hP1, hK1, hD1⟩ := hB
  rw [ht] at hP1
  have hK1 := va_K.moved hvm.symm hK1
  obtain ⟨hP, hD⟩ := va_join (wr := [(h0, .inr (11, [.ref q_1, .ref q_5, .ref q_18, .ref q_32, .ref q_33, .ref q_34, .ref q_35, .ref q_36, .ref q_37, .ref q_38, .ref q_39, .null, .int 0])), (tb_2, .inl (cB_3, 900, .inl fb_4)), (q_5, .inr (6, [.int 0, .int (-1), .ref rn_6, .ref rb_7, .ref tb_2, .int 0, .int 0, .int 0, .int 0, .int 0])), (q_1, .inr (10, [.ref tb_2, .int 0])), (rn_6, .inr (3, [.ref l0_8, .ref l1_9, .int 0, .int 0])), (rb_7, .inr (0, [.ref r0_10, .ref r1_11, .ref r2_12, .ref r3_13, .ref r4_14, .ref r5_15, .int 0, .int 0])), (r5_15, .inl (cR_16, 64, .inl fr_17)), (q_18, .inr (5, [.ref ba_19, .int 0])), (ba_19, .inl (cP_20, 10, .inr (.inr (.inr (.inr fb_21))))), (p0_22, .inr (0, [.ref q0_23, .ref q1_24, .ref q2_25, .ref q3_26, .ref q4_27, .ref q5_28, .int 0, .int 0])), (q5_28, .inl (cQ_29, 64, .inl fq_30)), (q_39, .inr (3, [.ref l0_40, .ref l1_41, .int 0, .int 0]))]) (w1 := [(q_42, .inr (0, [.ref e0_43, .ref e1_44, .ref e2_45, .ref e3_46, .ref e4_47, .ref e5_48, .int 0, .int 0])), (e5_48, .inl (cA_49, 64, .inl f_50))]) hP hD [12] [0, 1, 2, 3, 4, 5, 6, 7, 8, 9, 10, 11] rfl rfl (by decide) (by decide) hk1 hFc hP1 hD1
  have hK := hK.app hK1
  generalize H1 = H at hP hS ⊢
  have hP : va_P (dC, dI) vwCl [(h0, .inr (11, [.ref q_1, .ref q_5, .ref q_18, .ref q_32, .ref q_33, .ref q_34, .ref q_35, .ref q_36, .ref q_37, .ref q_38, .ref q_39, .null, .int 0])), (tb_2, .inl (cB_3, 900, .inl fb_4)), (q_5, .inr (6, [.int 0, .int (-1), .ref rn_6, .ref rb_7, .ref tb_2, .int 0, .int 0, .int 0, .int 0, .int 0])), (q_1, .inr (10, [.ref tb_2, .int 0])), (rn_6, .inr (3, [.ref l0_8, .ref l1_9, .int 0, .int 0])), (rb_7, .inr (0, [.ref r0_10, .ref r1_11, .ref r2_12, .ref r3_13, .ref r4_14, .ref r5_15, .int 0, .int 0])), (r5_15, .inl (cR_16, 64, .inl fr_17)), (q_18, .inr (5, [.ref ba_19, .int 0])), (ba_19, .inl (cP_20, 10, .inr (.inr (.inr (.inr fb_21))))), (p0_22, .inr (0, [.ref q0_23, .ref q1_24, .ref q2_25, .ref q3_26, .ref q4_27, .ref q5_28, .int 0, .int 0])), (q5_28, .inl (cQ_29, 64, .inl fq_30)), (q_39, .inr (3, [.ref l0_40, .ref l1_41, .int 0, .int 0])), (q_42, .inr (0, [.ref e0_43, .ref e1_44, .ref e2_45, .ref e3_46, .ref e4_47, .ref e5_48, .int 0, .int 0])), (e5_48, .inl (cA_49, 64, .inl f_50))] H := hP
  have hD : va_D A [(h0, .inr (11, [.ref q_1, .ref q_5, .ref q_18, .ref q_32, .ref q_33, .ref q_34, .ref q_35, .ref q_36, .ref q_37, .ref q_38, .ref q_39, .null, .int 0])), (tb_2, .inl (cB_3, 900, .inl fb_4)), (q_5, .inr (6, [.int 0, .int (-1), .ref rn_6, .ref rb_7, .ref tb_2, .int 0, .int 0, .int 0, .int 0, .int 0])), (q_1, .inr (10, [.ref tb_2, .int 0])), (rn_6, .inr (3, [.ref l0_8, .ref l1_9, .int 0, .int 0])), (rb_7, .inr (0, [.ref r0_10, .ref r1_11, .ref r2_12, .ref r3_13, .ref r4_14, .ref r5_15, .int 0, .int 0])), (r5_15, .inl (cR_16, 64, .inl fr_17)), (q_18, .inr (5, [.ref ba_19, .int 0])), (ba_19, .inl (cP_20, 10, .inr (.inr (.inr (.inr fb_21))))), (p0_22, .inr (0, [.ref q0_23, .ref q1_24, .ref q2_25, .ref q3_26, .ref q4_27, .ref q5_28, .int 0, .int 0])), (q5_28, .inl (cQ_29, 64, .inl fq_30)), (q_39, .inr (3, [.ref l0_40, .ref l1_41, .int 0, .int 0])), (q_42, .inr (0, [.ref e0_43, .ref e1_44, .ref e2_45, .ref e3_46, .ref e4_47, .ref e5_48, .int 0, .int 0])), (e5_48, .inl (cA_49, 64, .inl f_50))] := hD
  have hK : va_K (dC, dI) vwCl [(cB_3, .byte), (cR_16, .int), (cP_20, .object RX0), (cQ_29, .int), (cA_49, .int)] s := hK
  refine W.widen (k := 131) (n := 6092) (Nat.le_of_ble_eq_true rfl) (Nat.le_of_ble_eq_true rfl) ?_
  refine va_put (D := (dC, dI)) (ci := 11) (v := .ref q_42) (ty := .object "SwapPress$Book") (C := RX11) (T := TX11) (N := 13) hx hb hT iX11 tyX11 tyX11_ok nmX11 hown hK hP hD hS 0 rfl rfl 11 (by decide) (hT _ w364) (fun _ h9 => h9) rfl (by decide +kernel) rfl rfl (Nat.le_of_ble_eq_true rfl) dX11_init_137 (fun H locs hP hD hS => ?_)
  have hP : va_P (dC, dI) vwCl [(h0, .inr (11, [.ref q_1, .ref q_5, .ref q_18, .ref q_32, .ref q_33, .ref q_34, .ref q_35, .ref q_36, .ref q_37, .ref q_38, .ref q_39, .ref q_42, .int 0])), (tb_2, .inl (cB_3, 900, .inl fb_4)), (q_5, .inr (6, [.int 0, .int (-1), .ref rn_6, .ref rb_7, .ref tb_2, .int 0, .int 0, .int 0, .int 0, .int 0])), (q_1, .inr (10, [.ref tb_2, .int 0])), (rn_6, .inr (3, [.ref l0_8, .ref l1_9, .int 0, .int 0])), (rb_7, .inr (0, [.ref r0_10, .ref r1_11, .ref r2_12, .ref r3_13, .ref r4_14, .ref r5_15, .int 0, .int 0])), (r5_15, .inl (cR_16, 64, .inl fr_17)), (q_18, .inr (5, [.ref ba_19, .int 0])), (ba_19, .inl (cP_20, 10, .inr (.inr (.inr (.inr fb_21))))), (p0_22, .inr (0, [.ref q0_23, .ref q1_24, .ref q2_25, .ref q3_26, .ref q4_27, .ref q5_28, .int 0, .int 0])), (q5_28, .inl (cQ_29, 64, .inl fq_30)), (q_39, .inr (3, [.ref l0_40, .ref l1_41, .int 0, .int 0])), (q_42, .inr (0, [.ref e0_43, .ref e1_44, .ref e2_45, .ref e3_46, .ref e4_47, .ref e5_48, .int 0, .int 0])), (e5_48, .inl (cA_49, 64, .inl f_50))] H := hP
  have hD : va_D A [(h0, .inr (11, [.ref q_1, .ref q_5, .ref q_18, .ref q_32, .ref q_33, .ref q_34, .ref q_35, .ref q_36, .ref q_37, .ref q_38, .ref q_39, .ref q_42, .int 0])), (tb_2, .inl (cB_3, 900, .inl fb_4)), (q_5, .inr (6, [.int 0, .int (-1), .ref rn_6, .ref rb_7, .ref tb_2, .int 0, .int 0, .int 0, .int 0, .int 0])), (q_1, .inr (10, [.ref tb_2, .int 0])), (rn_6, .inr (3, [.ref l0_8, .ref l1_9, .int 0, .int 0])), (rb_7, .inr (0, [.ref r0_10, .ref r1_11, .ref r2_12, .ref r3_13, .ref r4_14, .ref r5_15, .int 0, .int 0])), (r5_15, .inl (cR_16, 64, .inl fr_17)), (q_18, .inr (5, [.ref ba_19, .int 0])), (ba_19, .inl (cP_20, 10, .inr (.inr (.inr (.inr fb_21))))), (p0_22, .inr (0, [.ref q0_23, .ref q1_24, .ref q2_25, .ref q3_26, .ref q4_27, .ref q5_28, .int 0, .int 0])), (q5_28, .inl (cQ_29, 64, .inl fq_30)), (q_39, .inr (3, [.ref l0_40, .ref l1_41, .int 0, .int 0])), (q_42, .inr (0, [.ref e0_43, .ref e1_44, .ref e2_45, .ref e3_46, .ref e4_47, .ref e5_48, .int 0, .int 0])), (e5_48, .inl (cA_49, 64, .inl f_50))] := hD
  refine lv_aload_n hx hb dX11_init_140 rfl (lv_at hl 0 rfl) ?_
  refine lv_iconst (v := (-1)) hx hb dX11_init_141 (by decide) ?_
  refine va_put (D := (dC, dI)) (ci := 11) (v := .int (-1)) (ty := .int) (C := RX11) (T := TX11) (N := 13) hx hb hT iX11 tyX11 tyX11_ok nmX11 hown hK hP hD hS 0 rfl rfl 12 (by decide) (hT _ w365) (fun _ h9 => h9) rfl (by decide +kernel) rfl rfl (Nat.le_of_ble_eq_true rfl) dX11_init_142 (fun H locs hP hD hS => ?_)
  have hP : va_P (dC, dI) vwCl [(h0, .inr (11, [.ref q_1, .ref q_5, .ref q_18, .ref q_32, .ref q_33, .ref q_34, .ref q_35, .ref q_36, .ref q_37, .ref q_38, .ref q_39, .ref q_42, .int (-1)])), (tb_2, .inl (cB_3, 900, .inl fb_4)), (q_5, .inr (6, [.int 0, .int (-1), .ref rn_6, .ref rb_7, .ref tb_2, .int 0, .int 0, .int 0, .int 0, .int 0])), (q_1, .inr (10, [.ref tb_2, .int 0])), (rn_6, .inr (3, [.ref l0_8, .ref l1_9, .int 0, .int 0])), (rb_7, .inr (0, [.ref r0_10, .ref r1_11, .ref r2_12, .ref r3_13, .ref r4_14, .ref r5_15, .int 0, .int 0])), (r5_15, .inl (cR_16, 64, .inl fr_17)), (q_18, .inr (5, [.ref ba_19, .int 0])), (ba_19, .inl (cP_20, 10, .inr (.inr (.inr (.inr fb_21))))), (p0_22, .inr (0, [.ref q0_23, .ref q1_24, .ref q2_25, .ref q3_26, .ref q4_27, .ref q5_28, .int 0, .int 0])), (q5_28, .inl (cQ_29, 64, .inl fq_30)), (q_39, .inr (3, [.ref l0_40, .ref l1_41, .int 0, .int 0])), (q_42, .inr (0, [.ref e0_43, .ref e1_44, .ref e2_45, .ref e3_46, .ref e4_47, .ref e5_48, .int 0, .int 0])), (e5_48, .inl (cA_49, 64, .inl f_50))] H := hP
  have hD : va_D A [(h0, .inr (11, [.ref q_1, .ref q_5, .ref q_18, .ref q_32, .ref q_33, .ref q_34, .ref q_35, .ref q_36, .ref q_37, .ref q_38, .ref q_39, .ref q_42, .int (-1)])), (tb_2, .inl (cB_3, 900, .inl fb_4)), (q_5, .inr (6, [.int 0, .int (-1), .ref rn_6, .ref rb_7, .ref tb_2, .int 0, .int 0, .int 0, .int 0, .int 0])), (q_1, .inr (10, [.ref tb_2, .int 0])), (rn_6, .inr (3, [.ref l0_8, .ref l1_9, .int 0, .int 0])), (rb_7, .inr (0, [.ref r0_10, .ref r1_11, .ref r2_12, .ref r3_13, .ref r4_14, .ref r5_15, .int 0, .int 0])), (r5_15, .inl (cR_16, 64, .inl fr_17)), (q_18, .inr (5, [.ref ba_19, .int 0])), (ba_19, .inl (cP_20, 10, .inr (.inr (.inr (.inr fb_21))))), (p0_22, .inr (0, [.ref q0_23, .ref q1_24, .ref q2_25, .ref q3_26, .ref q4_27, .ref q5_28, .int 0, .int 0])), (q5_28, .inl (cQ_29, 64, .inl fq_30)), (q_39, .inr (3, [.ref l0_40, .ref l1_41, .int 0, .int 0])), (q_42, .inr (0, [.ref e0_43, .ref e1_44, .ref e2_45, .ref e3_46, .ref e4_47, .ref e5_48, .int 0, .int 0])), (e5_48, .inl (cA_49, 64, .inl f_50))] := hD
  refine W.widen (k := 131) (n := 6092) (Nat.le_of_ble_eq_true rfl) (Nat.le_of_ble_eq_true rfl) ?_
  have hP9 := hP.sub (ws' := [(h0, .inr (11, [.ref q_1, .ref q_5, .ref q_18, .ref q_32, .ref q_33, .ref q_34, .ref q_35, .ref q_36, .ref q_37, .ref q_38, .ref q_39, .ref q_42, .int (-1)])), (q_1, .inr (10, [.ref tb_2, .int 0])), (tb_2, .inl (cB_3, 900, .inl fb_4)), (q_5, .inr (6, [.int 0, .int (-1), .ref rn_6, .ref rb_7, .ref tb_2, .int 0, .int 0, .int 0, .int 0, .int 0])), (rn_6, .inr (3, [.ref l0_8, .ref l1_9, .int 0, .int 0])), (rb_7, .inr (0, [.ref r0_10, .ref r1_11, .ref r2_12, .ref r3_13, .ref r4_14, .ref r5_15, .int 0, .int 0])), (r5_15, .inl (cR_16, 64, .inl fr_17)), (q_18, .inr (5, [.ref ba_19, .int 0])), (ba_19, .inl (cP_20, 10, .inr (.inr (.inr (.inr fb_21))))), (p0_22, .inr (0, [.ref q0_23, .ref q1_24, .ref q2_25, .ref q3_26, .ref q4_27, .ref q5_28, .int 0, .int 0])), (q5_28, .inl (cQ_29, 64, .inl fq_30)), (q_39, .inr (3, [.ref l0_40, .ref l1_41, .int 0, .int 0])), (q_42, .inr (0, [.ref e0_43, .ref e1_44, .ref e2_45, .ref e3_46, .ref e4_47, .ref e5_48, .int 0, .int 0])), (e5_48, .inl (cA_49, 64, .inl f_50))]) [0, 3, 1, 2, 4, 5, 6, 7, 8, 9, 10, 11, 12, 13] rfl
  have hD9 := hD.sub (ws' := [(h0, .inr (11, [.ref q_1, .ref q_5, .ref q_18, .ref q_32, .ref q_33, .ref q_34, .ref q_35, .ref q_36, .ref q_37, .ref q_38, .ref q_39, .ref q_42, .int (-1)])), (q_1, .inr (10, [.ref tb_2, .int 0])), (tb_2, .inl (cB_3, 900, .inl fb_4)), (q_5, .inr (6, [.int 0, .int (-1), .ref rn_6, .ref rb_7, .ref tb_2, .int 0, .int 0, .int 0, .int 0, .int 0])), (rn_6, .inr (3, [.ref l0_8, .ref l1_9, .int 0, .int 0])), (rb_7, .inr (0, [.ref r0_10, .ref r1_11, .ref r2_12, .ref r3_13, .ref r4_14, .ref r5_15, .int 0, .int 0])), (r5_15, .inl (cR_16, 64, .inl fr_17)), (q_18, .inr (5, [.ref ba_19, .int 0])), (ba_19, .inl (cP_20, 10, .inr (.inr (.inr (.inr fb_21))))), (p0_22, .inr (0, [.ref q0_23, .ref q1_24, .ref q2_25, .ref q3_26, .ref q4_27, .ref q5_28, .int 0, .int 0])), (q5_28, .inl (cQ_29, 64, .inl fq_30)), (q_39, .inr (3, [.ref l0_40, .ref l1_41, .int 0, .int 0])), (q_42, .inr (0, [.ref e0_43, .ref e1_44, .ref e2_45, .ref e3_46, .ref e4_47, .ref e5_48, .int 0, .int 0])), (e5_48, .inl (cA_49, 64, .inl f_50))]) [0, 3, 1, 2, 4, 5, 6, 7, 8, 9, 10, 11, 12, 13] (by decide) rfl
  have hK9 := hK.sub (tys' := [(cB_3, .byte), (cR_16, .int), (cP_20, .object RX0), (cQ_29, .int), (cA_49, .int)]) [0, 1, 2, 3, 4] rfl
  exact W.vret hx hb hr (fun t ht hW => ⟨⟨(), rfl, trivial, q_1, q_5, q_18, q_32, q_33, q_34, q_35, q_36, q_37, q_38, q_39, q_42, tb_2, cB_3, fb_4, rn_6, rb_7, l0_8, l1_9, r0_10, r1_11, r2_12, r3_13, r4_14, r5_15, cR_16, fr_17, ba_19, cP_20, fb_21, p0_22, q0_23, q1_24, q2_25, q3_26, q4_27, q5_28, cQ_29, fq_30, l0_40, l1_41, e0_43, e1_44, e2_45, e3_46, e4_47, e5_48, cA_49, f_50, hx_31, by rw [ht]; exact hP9, va_K.moved hW.alike hK9, hD9⟩, hS.F ht⟩) hS.2.2 dX11_init_145

set_option maxHeartbeats 4000000 in
set_option maxRecDepth 100000 in
theorem m_plain (l : Launch) (dC : Nat → ClassId) (dI : Nat → Nat → Nat) (m0 : Nat) (g0 : Nat) (g1 : Nat) (g2 : Nat) (g3 : Nat) (g4 : Nat) (g9 : Nat) (g17 : Nat) (g18 : Nat) (g20 : Nat) (g21 : Nat) (g22 : Nat) (g23 : Nat) (g24 : Nat) (g25 : Nat) (g26 : Nat) (g27 : Nat) (g28 : Nat) (g29 : Nat) (g30 : Nat) (cS : ClassId) (f : Nat → Int32) (sz : Nat) : Met l yX12_plain (wT yX12_plain cX12_plain 2 none) ({ frames := 0, cells := 0, slots := 0, locals := 0 }) (pcW dC dI [.ref m0] sz [(m0, .inr (12, [.ref g0, .ref g1, .ref g2, .ref g3, .ref g4, .int 0, .int 0, .int 0, .int 0, .ref g9, .int 0, .int 0, .int 0, .int 0, .int (-1), .int 0, .int 0, .ref g17, .ref g18, .int 0, .ref g20, .ref g21, .ref g22, .ref g23, .ref g24, .ref g25, .ref g26, .ref g27, .ref g28, .ref g29, .ref g30, .int 0])), (g0, .inl (cS, 266, .inl f))] [(cS, .int)]) (va_Qv (fun _ : Unit => True) (fun _ t => ∃ f2 : Nat → Int32, (f2 0 = 0) ∧ (f2 1 = 0) ∧ pB dC dI (va_A [(m0, .inr (12, [.ref g0, .ref g1, .ref g2, .ref g3, .ref g4, .int 0, .int 0, .int 0, .int 0, .ref g9, .int 0, .int 0, .int 0, .int 0, .int (-1), .int 0, .int 0, .ref g17, .ref g18, .int 0, .ref g20, .ref g21, .ref g22, .ref g23, .ref g24, .ref g25, .ref g26, .ref g27, .ref g28, .ref g29, .ref g30, .int 0])), (g0, .inl (cS, 266, .inl f))] sz) [(m0, .inr (12, [.ref g0, .ref g1, .ref g2, .ref g3, .ref g4, .int 0, .int 0, .int 0, .int 0, .ref g9, .int 0, .int 0, .int 0, .int 0, .int (-1), .int 0, .int 0, .ref g17, .ref g18, .int 0, .ref g20, .ref g21, .ref g22, .ref g23, .ref g24, .ref g25, .ref g26, .ref g27, .ref g28, .ref g29, .ref g30, .int 0])), (g0, .inl (cS, 266, .inl f2))] [(cS, .int)] t) (va_A [(m0, .inr (12, [.ref g0, .ref g1, .ref g2, .ref g3, .ref g4, .int 0, .int 0, .int 0, .int 0, .ref g9, .int 0, .int 0, .int 0, .int 0, .int (-1), .int 0, .int 0, .ref g17, .ref g18, .int 0, .ref g20, .ref g21, .ref g22, .ref g23, .ref g24, .ref g25, .ref g26, .ref g27, .ref g28, .ref g29, .ref g30, .int 0])), (g0, .inl (cS, 266, .inl f))] sz)) 0 0 (va_A [(m0, .inr (12, [.ref g0, .ref g1, .ref g2, .ref g3, .ref g4, .int 0, .int 0, .int 0, .int 0, .ref g9, .int 0, .int 0, .int 0, .int 0, .int (-1), .int 0, .int 0, .ref g17, .ref g18, .int 0, .ref g20, .ref g21, .ref g22, .ref g23, .ref g24, .ref g25, .ref g26, .ref g27, .ref g28, .ref g29, .ref g30, .int 0])), (g0, .inl (cS, 266, .inl f))] sz) := by
  refine Met.ofW (cc := cX12_plain) (maxL := 2) (ret := none) (by decide) rfl ?_
  intro p e s m args below meth c s₁ B hml hv
  obtain ⟨rfl, hsz, hP, hK, hD0⟩ := hv
  have hx := B.exec
  have hb := B.bytes
  have hr := B.returns
  have hT : ∀ w ∈ TB, w.before [.ref m0].toArray s = true := fun w h => atoms_spec (ws := wT yX12_plain cX12_plain 2 none) B.pre w (List.mem_cons_of_mem _ h)
  have hown : s.vm.findClass RX12 = some m.cls := findClass_of_methodNamed B.named
  have hlocks := B.notSynchronized
  subst hsz
  have hD := hD0.self (sz := s.heap.size)
  generalize hAe : va_A [(m0, .inr (12, [.ref g0, .ref g1, .ref g2, .ref g3, .ref g4, .int 0, .int 0, .int 0, .int 0, .ref g9, .int 0, .int 0, .int 0, .int 0, .int (-1), .int 0, .int 0, .ref g17, .ref g18, .int 0, .ref g20, .ref g21, .ref g22, .ref g23, .ref g24, .ref g25, .ref g26, .ref g27, .ref g28, .ref g29, .ref g30, .int 0])), (g0, .inl (cS, 266, .inl f))] s.heap.size = A at hD ⊢
  have hA : ∀ q : Nat, s.heap.size ≤ q → A q := fun q h => by rw [← hAe]; exact Or.inr h
  have hS : va_S A s.heap s.heap [] := va_S.rf
  have hP : va_P (dC, dI) vwCl [(m0, .inr (12, [.ref g0, .ref g1, .ref g2, .ref g3, .ref g4, .int 0, .int 0, .int 0, .int 0, .ref g9, .int 0, .int 0, .int 0, .int 0, .int (-1), .int 0, .int 0, .ref g17, .ref g18, .int 0, .ref g20, .ref g21, .ref g22, .ref g23, .ref g24, .ref g25, .ref g26, .ref g27, .ref g28, .ref g29, .ref g30, .int 0])), (g0, .inl (cS, 266, .inl f))] s.heap := hP
  have hl := lv_entry ([.ref m0]) (n := 2) (Nat.le_of_ble_eq_true rfl)
  rw [lg_entry_eq]
  generalize (lg_sl ([.ref m0]) ++ List.replicate (2 - (lg_sl ([.ref m0])).length) Slot.unset).toArray = ls at hl ⊢
  have hl : lv_has ls 2 [(0, .ref m0)] := hl
  refine lv_aload_n hx hb dX12_plain_0 rfl (lv_at hl 0 rfl) ?_
  refine lv_iconst (v := 0) hx hb dX12_plain_1 (by decide) ?_
  refine va_put (D := (dC, dI)) (ci := 12) (v := .int 0) (ty := .int) (C := RX12) (T := TX12) (N := 32) hx hb hT iX12 tyX12 tyX12_ok nmX12 hown hK hP hD hS 0 rfl rfl 5 (by decide) (hT _ w1087) (fun _ h9 => h9) rfl (by decide +kernel) rfl rfl (Nat.le_of_ble_eq_true rfl) dX12_plain_2 (fun H locs hP hD hS => ?_)
  have hP : va_P (dC, dI) vwCl [(m0, .inr (12, [.ref g0, .ref g1, .ref g2, .ref g3, .ref g4, .int 0, .int 0, .int 0, .int 0, .ref g9, .int 0, .int 0, .int 0, .int 0, .int (-1), .int 0, .int 0, .ref g17, .ref g18, .int 0, .ref g20, .ref g21, .ref g22, .ref g23, .ref g24, .ref g25, .ref g26, .ref g27, .ref g28, .ref g29, .ref g30, .int 0])), (g0, .inl (cS, 266, .inl f))] H := hP
  have hD : va_D A [(m0, .inr (12, [.ref g0, .ref g1, .ref g2, .ref g3, .ref g4, .int 0, .int 0, .int 0, .int 0, .ref g9, .int 0, .int 0, .int 0, .int 0, .int (-1), .int 0, .int 0, .ref g17, .ref g18, .int 0, .ref g20, .ref g21, .ref g22, .ref g23, .ref g24, .ref g25, .ref g26, .ref g27, .ref g28, .ref g29, .ref g30, .int 0])), (g0, .inl (cS, 266, .inl f))] := hD
  refine lv_aload_n hx hb dX12_plain_5 rfl (lv_at hl 0 rfl) ?_
  refine lv_iconst (v := 0) hx hb dX12_plain_6 (by decide) ?_
  refine va_put (D := (dC, dI)) (ci := 12) (v := .int 0) (ty := .int) (C := RX12) (T := TX12) (N := 32) hx hb hT iX12 tyX12 tyX12_ok nmX12 hown hK hP hD hS 0 rfl rfl 6 (by decide) (hT _ w1088) (fun _ h9 => h9) rfl (by decide +kernel) rfl rfl (Nat.le_of_ble_eq_true rfl) dX12_plain_7 (fun H locs hP hD hS => ?_)
  have hP : va_P (dC, dI) vwCl [(m0, .inr (12, [.ref g0, .ref g1, .ref g2, .ref g3, .ref g4, .int 0, .int 0, .int 0, .int 0, .ref g9, .int 0, .int 0, .int 0, .int 0, .int (-1), .int 0, .int 0, .ref g17, .ref g18, .int 0, .ref g20, .ref g21, .ref g22, .ref g23, .ref g24, .ref g25, .ref g26, .ref g27, .ref g28, .ref g29, .ref g30, .int 0])), (g0, .inl (cS, 266, .inl f))] H := hP
  have hD : va_D A [(m0, .inr (12, [.ref g0, .ref g1, .ref g2, .ref g3, .ref g4, .int 0, .int 0, .int 0, .int 0, .ref g9, .int 0, .int 0, .int 0, .int 0, .int (-1), .int 0, .int 0, .ref g17, .ref g18, .int 0, .ref g20, .ref g21, .ref g22, .ref g23, .ref g24, .ref g25, .ref g26, .ref g27, .ref g28, .ref g29, .ref g30, .int 0])), (g0, .inl (cS, 266, .inl f))] := hD
  refine lv_iconst (v := 0) hx hb dX12_plain_10 (by decide) ?_
  refine lv_istore_n (lv' := [(1, .int 0), (0, .ref m0)]) hx hb dX12_plain_11 rfl hl (by decide) rfl (fun ls hl => ?_)
  have loop : ∀ (n i : Nat), i + n = 266 → ∀ (f_g0 : Nat → Int32) (H : Heap) (locs : List Loc), (0 < i → f_g0 0 = 0) ∧ (1 < i → f_g0 1 = 0) → va_P (dC, dI) vwCl [(m0, .inr (12, [.ref g0, .ref g1, .ref g2, .ref g3, .ref g4, .int 0, .int 0, .int 0, .int 0, .ref g9, .int 0, .int 0, .int 0, .int 0, .int (-1), .int 0, .int 0, .ref g17, .ref g18, .int 0, .ref g20, .ref g21, .ref g22, .ref g23, .ref g24, .ref g25, .ref g26, .ref g27, .ref g28, .ref g29, .ref g30, .int 0])), (g0, .inl (cS, 266, .inl f_g0))] H → va_D A [(m0, .inr (12, [.ref g0, .ref g1, .ref g2, .ref g3, .ref g4, .int 0, .int 0, .int 0, .int 0, .ref g9, .int 0, .int 0, .int 0, .int 0, .int (-1), .int 0, .int 0, .ref g17, .ref g18, .int 0, .ref g20, .ref g21, .ref g22, .ref g23, .ref g24, .ref g25, .ref g26, .ref g27, .ref g28, .ref g29, .ref g30, .int 0])), (g0, .inl (cS, 266, .inl f_g0))] → va_S A s.heap H locs → ∀ ls : Array Slot, lv_has ls 2 [(1, .int (nI i)), (0, .ref m0)] → W p l e (headSpec (wT yX12_plain cX12_plain 2 none) { frames := 0, cells := 0, slots := 0, locals := 0 }).room s m [.ref m0].toArray below meth c H locs 0 0 (MQ below (va_Qv (fun _ : Unit => True) (fun _ t => ∃ f2 : Nat → Int32, (f2 0 = 0) ∧ (f2 1 = 0) ∧ pB dC dI A [(m0, .inr (12, [.ref g0, .ref g1, .ref g2, .ref g3, .ref g4, .int 0, .int 0, .int 0, .int 0, .ref g9, .int 0, .int 0, .int 0, .int 0, .int (-1), .int 0, .int 0, .ref g17, .ref g18, .int 0, .ref g20, .ref g21, .ref g22, .ref g23, .ref g24, .ref g25, .ref g26, .ref g27, .ref g28, .ref g29, .ref g30, .int 0])), (g0, .inl (cS, 266, .inl f2))] [(cS, .int)] t) A) [.ref m0].toArray s 0 0 A) (F0 m 12 ls []) := by
    intro n
    induction n with
    | zero =>
      intro i hi f_g0 H locs hinv hP hD hS ls hl
      obtain rfl : i = 266 := by omega
      refine lv_iload_n hx hb dX12_plain_12 rfl (lv_at hl 0 rfl) ?_
      refine lv_sipush (v := 266) hx hb dX12_plain_13 (by decide) ?_
      refine lv_icmp_ge (tgt := 44) hx hb dX12_plain_16 (by decide) (fun _ => ?_) (fun h => absurd (by decide) h)
      refine W.widen (k := 0) (n := 0) (Nat.le_of_ble_eq_true rfl) (Nat.le_of_ble_eq_true rfl) ?_
      have hP9 := hP.sub (ws' := [(m0, .inr (12, [.ref g0, .ref g1, .ref g2, .ref g3, .ref g4, .int 0, .int 0, .int 0, .int 0, .ref g9, .int 0, .int 0, .int 0, .int 0, .int (-1), .int 0, .int 0, .ref g17, .ref g18, .int 0, .ref g20, .ref g21, .ref g22, .ref g23, .ref g24, .ref g25, .ref g26, .ref g27, .ref g28, .ref g29, .ref g30, .int 0])), (g0, .inl (cS, 266, .inl f_g0))]) [0, 1] rfl
      have hD9 := hD.sub (ws' := [(m0, .inr (12, [.ref g0, .ref g1, .ref g2, .ref g3, .ref g4, .int 0, .int 0, .int 0, .int 0, .ref g9, .int 0, .int 0, .int 0, .int 0, .int (-1), .int 0, .int 0, .ref g17, .ref g18, .int 0, .ref g20, .ref g21, .ref g22, .ref g23, .ref g24, .ref g25, .ref g26, .ref g27, .ref g28, .ref g29, .ref g30, .int 0])), (g0, .inl (cS, 266, .inl f_g0))]) [0, 1] (by decide) rfl
      have hK9 := hK.sub (tys' := [(cS, .int)]) [0] rfl
      exact W.vret hx hb hr (fun t ht hW => ⟨⟨(), rfl, trivial, f_g0, hinv.1 (by decide), hinv.2 (by decide), by rw [ht]; exact hP9, va_K.moved hW.alike hK9, hD9⟩, hS.F ht⟩) hS.2.2 dX12_plain_44
    | succ n ih =>
      intro i hi f_g0 H locs hinv hP hD hS ls hl
      have hlt : i < 266 := by omega
      refine lv_iload_n hx hb dX12_plain_12 rfl (lv_at hl 0 rfl) ?_
      refine lv_sipush (v := 266) hx hb dX12_plain_13 (by decide) ?_
      refine lv_icmp_ge (tgt := 44) hx hb dX12_plain_16 (by decide) (fun h => absurd h (nI_ge (a := i) (b := 266) hlt (by decide))) (fun _ => ?_)
      refine lv_aload_n hx hb dX12_plain_19 rfl (lv_at hl 1 rfl) ?_
      refine va_get (D := (dC, dI)) (ci := 12) (v := .ref g0) (C := RX12) (T := TX12) (N := 32) hx hb hT iX12 hown hK hP 0 rfl rfl 0 (by decide) (hT _ w1082) (fun _ h9 => h9) rfl dX12_plain_20 ?_
      refine lv_iload_n hx hb dX12_plain_23 rfl (lv_at hl 0 rfl) ?_
      refine lv_iload_n hx hb dX12_plain_24 rfl (lv_at hl 0 rfl) ?_
      refine lv_sipush (v := 202) hx hb dX12_plain_25 (by decide) ?_
      refine lv_icmp_ge (tgt := 35) hx hb dX12_plain_28 (by decide) (fun c_28 => ?_) (fun c_28 => ?_)
      · refine lv_ldc (v := 99999999) hx hb hown (hT _ w1081) dX12_plain_35 ?_
        refine va_iast hx hb hK hP hD hS 1 0 rfl rfl (vp_in_nI hlt (by decide)) dX12_plain_37 (fun H locs hP hD hS => ?_)
        obtain ⟨f_1, hf_1⟩ : ∃ f : Nat → Int32, f = upd f_g0 (nI i).toNatClampNeg 99999999 := ⟨_, rfl⟩
        rw [← hf_1] at hP hD
        have hP : va_P (dC, dI) vwCl [(m0, .inr (12, [.ref g0, .ref g1, .ref g2, .ref g3, .ref g4, .int 0, .int 0, .int 0, .int 0, .ref g9, .int 0, .int 0, .int 0, .int 0, .int (-1), .int 0, .int 0, .ref g17, .ref g18, .int 0, .ref g20, .ref g21, .ref g22, .ref g23, .ref g24, .ref g25, .ref g26, .ref g27, .ref g28, .ref g29, .ref g30, .int 0])), (g0, .inl (cS, 266, .inl f_1))] H := hP
        have hD : va_D A [(m0, .inr (12, [.ref g0, .ref g1, .ref g2, .ref g3, .ref g4, .int 0, .int 0, .int 0, .int 0, .ref g9, .int 0, .int 0, .int 0, .int 0, .int (-1), .int 0, .int 0, .ref g17, .ref g18, .int 0, .ref g20, .ref g21, .ref g22, .ref g23, .ref g24, .ref g25, .ref g26, .ref g27, .ref g28, .ref g29, .ref g30, .int 0])), (g0, .inl (cS, 266, .inl f_1))] := hD
        refine lv_iinc (v := nI (i + 1)) (lv' := [(1, .int (nI (i + 1))), (0, .ref m0)]) hx hb dX12_plain_38 hl (k := 0) rfl (nI_1 _) (by decide) rfl (fun ls hl => ?_)
        refine lv_goto (tgt := 12) hx hb dX12_plain_41 (by decide) ?_
        exact ih (i + 1) (by omega) f_1 _ _ (pl_s hlt hf_1 (fun q => absurd c_28 (nI_ge (a := i) (b := 202) (by omega) (by decide))) hinv) (hP.sub [0, 1] rfl) (hD.sub [0, 1] (by decide) rfl) hS ls (lv_sub hl [0, 1] rfl)
      · refine lv_iconst (v := 0) hx hb dX12_plain_31 (by decide) ?_
        refine lv_goto (tgt := 37) hx hb dX12_plain_32 (by decide) ?_
        refine va_iast hx hb hK hP hD hS 1 0 rfl rfl (vp_in_nI hlt (by decide)) dX12_plain_37 (fun H locs hP hD hS => ?_)
        obtain ⟨f_2, hf_2⟩ : ∃ f : Nat → Int32, f = upd f_g0 (nI i).toNatClampNeg 0 := ⟨_, rfl⟩
        rw [← hf_2] at hP hD
        have hP : va_P (dC, dI) vwCl [(m0, .inr (12, [.ref g0, .ref g1, .ref g2, .ref g3, .ref g4, .int 0, .int 0, .int 0, .int 0, .ref g9, .int 0, .int 0, .int 0, .int 0, .int (-1), .int 0, .int 0, .ref g17, .ref g18, .int 0, .ref g20, .ref g21, .ref g22, .ref g23, .ref g24, .ref g25, .ref g26, .ref g27, .ref g28, .ref g29, .ref g30, .int 0])), (g0, .inl (cS, 266, .inl f_2))] H := hP
        have hD : va_D A [(m0, .inr (12, [.ref g0, .ref g1, .ref g2, .ref g3, .ref g4, .int 0, .int 0, .int 0, .int 0, .ref g9, .int 0, .int 0, .int 0, .int 0, .int (-1), .int 0, .int 0, .ref g17, .ref g18, .int 0, .ref g20, .ref g21, .ref g22, .ref g23, .ref g24, .ref g25, .ref g26, .ref g27, .ref g28, .ref g29, .ref g30, .int 0])), (g0, .inl (cS, 266, .inl f_2))] := hD
        refine lv_iinc (v := nI (i + 1)) (lv' := [(1, .int (nI (i + 1))), (0, .ref m0)]) hx hb dX12_plain_38 hl (k := 0) rfl (nI_1 _) (by decide) rfl (fun ls hl => ?_)
        refine lv_goto (tgt := 12) hx hb dX12_plain_41 (by decide) ?_
        exact ih (i + 1) (by omega) f_2 _ _ (pl_s hlt hf_2 (fun _ => rfl) hinv) (hP.sub [0, 1] rfl) (hD.sub [0, 1] (by decide) rfl) hS ls (lv_sub hl [0, 1] rfl)
  exact loop 266 0 (by omega) f _ _ ⟨fun h => absurd h (by decide), fun h => absurd h (by decide)⟩ hP hD hS ls hl

set_option maxHeartbeats 4000000 in
set_option maxRecDepth 100000 in
theorem k_Model (l : Launch) (dC : Nat → ClassId) (dI : Nat → Nat → Nat) (m0 : Nat) (sz : Nat) : Met l yX12_init (wT yX12_init cX12_init 1 none) ({ frames := 1, cells := 19, slots := 4748, locals := 21 }) (pcW dC dI [.ref m0] sz [(m0, .inr (12, [.null, .null, .null, .null, .null, .int 0, .int 0, .int 0, .int 0, .null, .int 0, .int 0, .int 0, .int 0, .int 0, .int 0, .int 0, .null, .null, .int 0, .null, .null, .null, .null, .null, .null, .null, .null, .null, .null, .null, .int 0]))] []) (va_Qv (fun _ : Unit => True) (fun _ t => ∃ g0 : Nat, ∃ g1 : Nat, ∃ g2 : Nat, ∃ g3 : Nat, ∃ g4 : Nat, ∃ g9 : Nat, ∃ g17 : Nat, ∃ g18 : Nat, ∃ g20 : Nat, ∃ g21 : Nat, ∃ g22 : Nat, ∃ g23 : Nat, ∃ g24 : Nat, ∃ g25 : Nat, ∃ g26 : Nat, ∃ g27 : Nat, ∃ g28 : Nat, ∃ g29 : Nat, ∃ g30 : Nat, ∃ cS : ClassId, ∃ f : Nat → Int32, ∃ cT : ClassId, ∃ ft : Nat → Int32, ∃ cU : ClassId, ∃ fu : Nat → Int32, ∃ cV : ClassId, ∃ fv : Nat → Int32, ∃ cN : ClassId, ∃ fn : Nat → Int64, ∃ cO : ClassId, ∃ fo : Nat → Int64, (f 0 = 0) ∧ (f 1 = 0) ∧ pB dC dI (va_A [(m0, .inr (12, [.null, .null, .null, .null, .null, .int 0, .int 0, .int 0, .int 0, .null, .int 0, .int 0, .int 0, .int 0, .int 0, .int 0, .int 0, .null, .null, .int 0, .null, .null, .null, .null, .null, .null, .null, .null, .null, .null, .null, .int 0]))] sz) [(m0, .inr (12, [.ref g0, .ref g1, .ref g2, .ref g3, .ref g4, .int 0, .int 0, .int 0, .int 0, .ref g9, .int 0, .int 0, .int 0, .int 0, .int (-1), .int 0, .int 0, .ref g17, .ref g18, .int 0, .ref g20, .ref g21, .ref g22, .ref g23, .ref g24, .ref g25, .ref g26, .ref g27, .ref g28, .ref g29, .ref g30, .int 0])), (g0, .inl (cS, 266, .inl f)), (g2, .inl (cT, 2660, .inl ft)), (g9, .inl (cU, 900, .inl fu)), (g1, .inl (cV, 266, .inl fv)), (g3, .inl (cN, 12, .inr (.inl fn))), (g4, .inl (cO, 12, .inr (.inl fo)))] [(cS, .int), (cT, .int), (cU, .byte), (cV, .int), (cN, .long), (cO, .long)] t) (va_A [(m0, .inr (12, [.null, .null, .null, .null, .null, .int 0, .int 0, .int 0, .int 0, .null, .int 0, .int 0, .int 0, .int 0, .int 0, .int 0, .int 0, .null, .null, .int 0, .null, .null, .null, .null, .null, .null, .null, .null, .null, .null, .null, .int 0]))] sz)) 19 4748 (va_A [(m0, .inr (12, [.null, .null, .null, .null, .null, .int 0, .int 0, .int 0, .int 0, .null, .int 0, .int 0, .int 0, .int 0, .int 0, .int 0, .int 0, .null, .null, .int 0, .null, .null, .null, .null, .null, .null, .null, .null, .null, .null, .null, .int 0]))] sz) := by
  refine Met.ofW (cc := cX12_init) (maxL := 1) (ret := none) (by decide) rfl ?_
  intro p e s m args below meth c s₁ B hml hv
  obtain ⟨rfl, hsz, hP, hK, hD0⟩ := hv
  have hx := B.exec
  have hb := B.bytes
  have hr := B.returns
  have hT : ∀ w ∈ TB, w.before [.ref m0].toArray s = true := fun w h => atoms_spec (ws := wT yX12_init cX12_init 1 none) B.pre w (List.mem_cons_of_mem _ h)
  have hown : s.vm.findClass RX12 = some m.cls := findClass_of_methodNamed B.named
  have hlocks := B.notSynchronized
  have hin : meth.name = "<init>" := (name_of_methodNamed B.named B.method).1
  subst hsz
  have hD := hD0.self (sz := s.heap.size)
  generalize hAe : va_A [(m0, .inr (12, [.null, .null, .null, .null, .null, .int 0, .int 0, .int 0, .int 0, .null, .int 0, .int 0, .int 0, .int 0, .int 0, .int 0, .int 0, .null, .null, .int 0, .null, .null, .null, .null, .null, .null, .null, .null, .null, .null, .null, .int 0]))] s.heap.size = A at hD ⊢
  have hA : ∀ q : Nat, s.heap.size ≤ q → A q := fun q h => by rw [← hAe]; exact Or.inr h
  have hS : va_S A s.heap s.heap [] := va_S.rf
  have hP : va_P (dC, dI) vwCl [(m0, .inr (12, [.null, .null, .null, .null, .null, .int 0, .int 0, .int 0, .int 0, .null, .int 0, .int 0, .int 0, .int 0, .int 0, .int 0, .int 0, .null, .null, .int 0, .null, .null, .null, .null, .null, .null, .null, .null, .null, .null, .null, .int 0]))] s.heap := hP
  have hl := lv_entry ([.ref m0]) (n := 1) (Nat.le_of_ble_eq_true rfl)
  rw [lg_entry_eq]
  generalize (lg_sl ([.ref m0]) ++ List.replicate (1 - (lg_sl ([.ref m0])).length) Slot.unset).toArray = ls at hl ⊢
  have hl : lv_has ls 1 [(0, .ref m0)] := hl
  refine lv_aload_n hx hb dX12_init_0 rfl (lv_at hl 0 rfl) ?_
  refine W.objInit hx hb hown (hT _ w1076) (hT _ w28) (hT _ w29) rfl (by rw [hml]; exact hl.1) rfl dX12_init_1 (Nat.le_of_ble_eq_true rfl) (Nat.le_of_ble_eq_true rfl) ?_
  refine W.eq (g2 := F0 m 4 ls []) rfl ?_
  refine lv_aload_n hx hb dX12_init_4 rfl (lv_at hl 0 rfl) ?_
  refine lv_sipush (v := 266) hx hb dX12_init_5 (by decide) ?_
  refine va_newa (atype := .int) (ty := .int) (a0 := (266, .inl (fun _ => 0))) (n := 266) (N' := 266) hx hb (hT _ w77) rfl hK hP hD hS hA (fun _ => rfl) (by decide) (by decide) (Nat.le_of_ble_eq_true rfl) (Nat.le_of_ble_eq_true rfl) (Nat.le_of_ble_eq_true rfl) dX12_init_8 (fun q_1 cA_2 H hK hP hD hS => ?_)
  have hP : va_P (dC, dI) vwCl [(m0, .inr (12, [.null, .null, .null, .null, .null, .int 0, .int 0, .int 0, .int 0, .null, .int 0, .int 0, .int 0, .int 0, .int 0, .int 0, .int 0, .null, .null, .int 0, .null, .null, .null, .null, .null, .null, .null, .null, .null, .null, .null, .int 0])), (q_1, .inl (cA_2, 266, .inl (fun _ => 0)))] H := hP
  have hD : va_D A [(m0, .inr (12, [.null, .null, .null, .null, .null, .int 0, .int 0, .int 0, .int 0, .null, .int 0, .int 0, .int 0, .int 0, .int 0, .int 0, .int 0, .null, .null, .int 0, .null, .null, .null, .null, .null, .null, .null, .null, .null, .null, .null, .int 0])), (q_1, .inl (cA_2, 266, .inl (fun _ => 0)))] := hD
  have hK : va_K (dC, dI) vwCl [(cA_2, .int)] s := hK
  refine W.widen (k := 1) (n := 266) (Nat.le_of_ble_eq_true rfl) (Nat.le_of_ble_eq_true rfl) ?_
  refine va_putF (D := (dC, dI)) (ci := 12) (v := .ref q_1) (ty := .array .int) (C := RX12) (T := TX12) (N := 32) hx hb hT iX12 tyX12 tyX12_ok nmX12 hown hK hP hD hS 0 rfl rfl 0 (by decide) (hT _ w1082) (fun _ h9 => h9) rfl hin rfl (by decide +kernel) rfl rfl (Nat.le_of_ble_eq_true rfl) dX12_init_10 (fun H locs hP hD hS => ?_)
  have hP : va_P (dC, dI) vwCl [(m0, .inr (12, [.ref q_1, .null, .null, .null, .null, .int 0, .int 0, .int 0, .int 0, .null, .int 0, .int 0, .int 0, .int 0, .int 0, .int 0, .int 0, .null, .null, .int 0, .null, .null, .null, .null, .null, .null, .null, .null, .null, .null, .null, .int 0])), (q_1, .inl (cA_2, 266, .inl (fun _ => 0)))] H := hP
  have hD : va_D A [(m0, .inr (12, [.ref q_1, .null, .null, .null, .null, .int 0, .int 0, .int 0, .int 0, .null, .int 0, .int 0, .int 0, .int 0, .int 0, .int 0, .int 0, .null, .null, .int 0, .null, .null, .null, .null, .null, .null, .null, .null, .null, .null, .null, .int 0])), (q_1, .inl (cA_2, 266, .inl (fun _ => 0)))] := hD
  refine lv_aload_n hx hb dX12_init_13 rfl (lv_at hl 0 rfl) ?_
  refine lv_sipush (v := 266) hx hb dX12_init_14 (by decide) ?_
  refine va_newa (atype := .int) (ty := .int) (a0 := (266, .inl (fun _ => 0))) (n := 266) (N' := 266) hx hb (hT _ w77) rfl hK hP hD hS hA (fun _ => rfl) (by decide) (by decide) (Nat.le_of_ble_eq_true rfl) (Nat.le_of_ble_eq_true rfl) (Nat.le_of_ble_eq_true rfl) dX12_init_17 (fun q_3 cA_4 H hK hP hD hS => ?_)
  have hP : va_P (dC, dI) vwCl [(m0, .inr (12, [.ref q_1, .null, .null, .null, .null, .int 0, .int 0, .int 0, .int 0, .null, .int 0, .int 0, .int 0, .int 0, .int 0, .int 0, .int 0, .null, .null, .int 0, .null, .null, .null, .null, .null, .null, .null, .null, .null, .null, .null, .int 0])), (q_1, .inl (cA_2, 266, .inl (fun _ => 0))), (q_3, .inl (cA_4, 266, .inl (fun _ => 0)))] H := hP
  have hD : va_D A [(m0, .inr (12, [.ref q_1, .null, .null, .null, .null, .int 0, .int 0, .int 0, .int 0, .null, .int 0, .int 0, .int 0, .int 0, .int 0, .int 0, .int 0, .null, .null, .int 0, .null, .null, .null, .null, .null, .null, .null, .null, .null, .null, .null, .int 0])), (q_1, .inl (cA_2, 266, .inl (fun _ => 0))), (q_3, .inl (cA_4, 266, .inl (fun _ => 0)))] := hD
  have hK : va_K (dC, dI) vwCl [(cA_2, .int), (cA_4, .int)] s := hK
  refine W.widen (k := 2) (n := 532) (Nat.le_of_ble_eq_true rfl) (Nat.le_of_ble_eq_true rfl) ?_
  refine va_putF (D := (dC, dI)) (ci := 12) (v := .ref q_3) (ty := .array .int) (C := RX12) (T := TX12) (N := 32) hx hb hT iX12 tyX12 tyX12_ok nmX12 hown hK hP hD hS 0 rfl rfl 1 (by decide) (hT _ w1083) (fun _ h9 => h9) rfl hin rfl (by decide +kernel) rfl rfl (Nat.le_of_ble_eq_true rfl) dX12_init_19 (fun H locs hP hD hS => ?_)
  have hP : va_P (dC, dI) vwCl [(m0, .inr (12, [.ref q_1, .ref q_3, .null, .null, .null, .int 0, .int 0, .int 0, .int 0, .null, .int 0, .int 0, .int 0, .int 0, .int 0, .int 0, .int 0, .null, .null, .int 0, .null, .null, .null, .null, .null, .null, .null, .null, .null, .null, .null, .int 0])), (q_1, .inl (cA_2, 266, .inl (fun _ => 0))), (q_3, .inl (cA_4, 266, .inl (fun _ => 0)))] H := hP
  have hD : va_D A [(m0, .inr (12, [.ref q_1, .ref q_3, .null, .null, .null, .int 0, .int 0, .int 0, .int 0, .null, .int 0, .int 0, .int 0, .int 0, .int 0, .int 0, .int 0, .null, .null, .int 0, .null, .null, .null, .null, .null, .null, .null, .null, .null, .null, .null, .int 0])), (q_1, .inl (cA_2, 266, .inl (fun _ => 0))), (q_3, .inl (cA_4, 266, .inl (fun _ => 0)))] := hD
  refine lv_aload_n hx hb dX12_init_22 rfl (lv_at hl 0 rfl) ?_
  refine lv_sipush (v := 2660) hx hb dX12_init_23 (by decide) ?_
  refine va_newa (atype := .int) (ty := .int) (a0 := (2660, .inl (fun _ => 0))) (n := 2660) (N' := 2660) hx hb (hT _ w77) rfl hK hP hD hS hA (fun _ => rfl) (by decide) (by decide) (Nat.le_of_ble_eq_true rfl) (Nat.le_of_ble_eq_true rfl) (Nat.le_of_ble_eq_true rfl) dX12_init_26 (fun q_5 cA_6 H hK hP hD hS => ?_)
  have hP : va_P (dC, dI) vwCl [(m0, .inr (12, [.ref q_1, .ref q_3, .null, .null, .null, .int 0, .int 0, .int 0, .int 0, .null, .int 0, .int 0, .int 0, .int 0, .int 0, .int 0, .int 0, .null, .null, .int 0, .null, .null, .null, .null, .null, .null, .null, .null, .null, .null, .null, .int 0])), (q_1, .inl (cA_2, 266, .inl (fun _ => 0))), (q_3, .inl (cA_4, 266, .inl (fun _ => 0))), (q_5, .inl (cA_6, 2660, .inl (fun _ => 0)))] H := hP
  have hD : va_D A [(m0, .inr (12, [.ref q_1, .ref q_3, .null, .null, .null, .int 0, .int 0, .int 0, .int 0, .null, .int 0, .int 0, .int 0, .int 0, .int 0, .int 0, .int 0, .null, .null, .int 0, .null, .null, .null, .null, .null, .null, .null, .null, .null, .null, .null, .int 0])), (q_1, .inl (cA_2, 266, .inl (fun _ => 0))), (q_3, .inl (cA_4, 266, .inl (fun _ => 0))), (q_5, .inl (cA_6, 2660, .inl (fun _ => 0)))] := hD
  have hK : va_K (dC, dI) vwCl [(cA_2, .int), (cA_4, .int), (cA_6, .int)] s := hK
  refine W.widen (k := 3) (n := 3192) (Nat.le_of_ble_eq_true rfl) (Nat.le_of_ble_eq_true rfl) ?_
  refine va_putF (D := (dC, dI)) (ci := 12) (v := .ref q_5) (ty := .array .int) (C := RX12) (T := TX12) (N := 32) hx hb hT iX12 tyX12 tyX12_ok nmX12 hown hK hP hD hS 0 rfl rfl 2 (by decide) (hT _ w1084) (fun _ h9 => h9) rfl hin rfl (by decide +kernel) rfl rfl (Nat.le_of_ble_eq_true rfl) dX12_init_28 (fun H locs hP hD hS => ?_)
  have hP : va_P (dC, dI) vwCl [(m0, .inr (12, [.ref q_1, .ref q_3, .ref q_5, .null, .null, .int 0, .int 0, .int 0, .int 0, .null, .int 0, .int 0, .int 0, .int 0, .int 0, .int 0, .int 0, .null, .null, .int 0, .null, .null, .null, .null, .null, .null, .null, .null, .null, .null, .null, .int 0])), (q_1, .inl (cA_2, 266, .inl (fun _ => 0))), (q_3, .inl (cA_4, 266, .inl (fun _ => 0))), (q_5, .inl (cA_6, 2660, .inl (fun _ => 0)))] H := hP
  have hD : va_D A [(m0, .inr (12, [.ref q_1, .ref q_3, .ref q_5, .null, .null, .int 0, .int 0, .int 0, .int 0, .null, .int 0, .int 0, .int 0, .int 0, .int 0, .int 0, .int 0, .null, .null, .int 0, .null, .null, .null, .null, .null, .null, .null, .null, .null, .null, .null, .int 0])), (q_1, .inl (cA_2, 266, .inl (fun _ => 0))), (q_3, .inl (cA_4, 266, .inl (fun _ => 0))), (q_5, .inl (cA_6, 2660, .inl (fun _ => 0)))] := hD
  refine lv_aload_n hx hb dX12_init_31 rfl (lv_at hl 0 rfl) ?_
  refine lv_bipush (v := 12) hx hb dX12_init_32 (by decide) ?_
  refine va_newa (atype := .long) (ty := .long) (a0 := (12, .inr (.inl (fun _ => 0)))) (n := 12) (N' := 12) hx hb (hT _ w137) rfl hK hP hD hS hA (fun _ => rfl) (by decide) (by decide) (Nat.le_of_ble_eq_true rfl) (Nat.le_of_ble_eq_true rfl) (Nat.le_of_ble_eq_true rfl) dX12_init_34 (fun q_7 cA_8 H hK hP hD hS => ?_)
  have hP : va_P (dC, dI) vwCl [(m0, .inr (12, [.ref q_1, .ref q_3, .ref q_5, .null, .null, .int 0, .int 0, .int 0, .int 0, .null, .int 0, .int 0, .int 0, .int 0, .int 0, .int 0, .int 0, .null, .null, .int 0, .null, .null, .null, .null, .null, .null, .null, .null, .null, .null, .null, .int 0])), (q_1, .inl (cA_2, 266, .inl (fun _ => 0))), (q_3, .inl (cA_4, 266, .inl (fun _ => 0))), (q_5, .inl (cA_6, 2660, .inl (fun _ => 0))), (q_7, .inl (cA_8, 12, .inr (.inl (fun _ => 0))))] H := hP
  have hD : va_D A [(m0, .inr (12, [.ref q_1, .ref q_3, .ref q_5, .null, .null, .int 0, .int 0, .int 0, .int 0, .null, .int 0, .int 0, .int 0, .int 0, .int 0, .int 0, .int 0, .null, .null, .int 0, .null, .null, .null, .null, .null, .null, .null, .null, .null, .null, .null, .int 0])), (q_1, .inl (cA_2, 266, .inl (fun _ => 0))), (q_3, .inl (cA_4, 266, .inl (fun _ => 0))), (q_5, .inl (cA_6, 2660, .inl (fun _ => 0))), (q_7, .inl (cA_8, 12, .inr (.inl (fun _ => 0))))] := hD
  have hK : va_K (dC, dI) vwCl [(cA_2, .int), (cA_4, .int), (cA_6, .int), (cA_8, .long)] s := hK
  refine W.widen (k := 4) (n := 3204) (Nat.le_of_ble_eq_true rfl) (Nat.le_of_ble_eq_true rfl) ?_
  refine va_putF (D := (dC, dI)) (ci := 12) (v := .ref q_7) (ty := .array .long) (C := RX12) (T := TX12) (N := 32) hx hb hT iX12 tyX12 tyX12_ok nmX12 hown hK hP hD hS 0 rfl rfl 3 (by decide) (hT _ w1085) (fun _ h9 => h9) rfl hin rfl (by decide +kernel) rfl rfl (Nat.le_of_ble_eq_true rfl) dX12_init_36 (fun H locs hP hD hS => ?_)
  have hP : va_P (dC, dI) vwCl [(m0, .inr (12, [.ref q_1, .ref q_3, .ref q_5, .ref q_7, .null, .int 0, .int 0, .int 0, .int 0, .null, .int 0, .int 0, .int 0, .int 0, .int 0, .int 0, .int 0, .null, .null, .int 0, .null, .null, .null, .null, .null, .null, .null, .null, .null, .null, .null, .int 0])), (q_1, .inl (cA_2, 266, .inl (fun _ => 0))), (q_3, .inl (cA_4, 266, .inl (fun _ => 0))), (q_5, .inl (cA_6, 2660, .inl (fun _ => 0))), (q_7, .inl (cA_8, 12, .inr (.inl (fun _ => 0))))] H := hP
  have hD : va_D A [(m0, .inr (12, [.ref q_1, .ref q_3, .ref q_5, .ref q_7, .null, .int 0, .int 0, .int 0, .int 0, .null, .int 0, .int 0, .int 0, .int 0, .int 0, .int 0, .int 0, .null, .null, .int 0, .null, .null, .null, .null, .null, .null, .null, .null, .null, .null, .null, .int 0])), (q_1, .inl (cA_2, 266, .inl (fun _ => 0))), (q_3, .inl (cA_4, 266, .inl (fun _ => 0))), (q_5, .inl (cA_6, 2660, .inl (fun _ => 0))), (q_7, .inl (cA_8, 12, .inr (.inl (fun _ => 0))))] := hD
  refine lv_aload_n hx hb dX12_init_39 rfl (lv_at hl 0 rfl) ?_
  refine lv_bipush (v := 12) hx hb dX12_init_40 (by decide) ?_
  refine va_newa (atype := .long) (ty := .long) (a0 := (12, .inr (.inl (fun _ => 0)))) (n := 12) (N' := 12) hx hb (hT _ w137) rfl hK hP hD hS hA (fun _ => rfl) (by decide) (by decide) (Nat.le_of_ble_eq_true rfl) (Nat.le_of_ble_eq_true rfl) (Nat.le_of_ble_eq_true rfl) dX12_init_42 (fun q_9 cA_10 H hK hP hD hS => ?_)
  have hP : va_P (dC, dI) vwCl [(m0, .inr (12, [.ref q_1, .ref q_3, .ref q_5, .ref q_7, .null, .int 0, .int 0, .int 0, .int 0, .null, .int 0, .int 0, .int 0, .int 0, .int 0, .int 0, .int 0, .null, .null, .int 0, .null, .null, .null, .null, .null, .null, .null, .null, .null, .null, .null, .int 0])), (q_1, .inl (cA_2, 266, .inl (fun _ => 0))), (q_3, .inl (cA_4, 266, .inl (fun _ => 0))), (q_5, .inl (cA_6, 2660, .inl (fun _ => 0))), (q_7, .inl (cA_8, 12, .inr (.inl (fun _ => 0)))), (q_9, .inl (cA_10, 12, .inr (.inl (fun _ => 0))))] H := hP
  have hD : va_D A [(m0, .inr (12, [.ref q_1, .ref q_3, .ref q_5, .ref q_7, .null, .int 0, .int 0, .int 0, .int 0, .null, .int 0, .int 0, .int 0, .int 0, .int 0, .int 0, .int 0, .null, .null, .int 0, .null, .null, .null, .null, .null, .null, .null, .null, .null, .null, .null, .int 0])), (q_1, .inl (cA_2, 266, .inl (fun _ => 0))), (q_3, .inl (cA_4, 266, .inl (fun _ => 0))), (q_5, .inl (cA_6, 2660, .inl (fun _ => 0))), (q_7, .inl (cA_8, 12, .inr (.inl (fun _ => 0)))), (q_9, .inl (cA_10, 12, .inr (.inl (fun _ => 0))))] := hD
  have hK : va_K (dC, dI) vwCl [(cA_2, .int), (cA_4, .int), (cA_6, .int), (cA_8, .long), (cA_10, .long)] s := hK
  refine W.widen (k := 5) (n := 3216) (Nat.le_of_ble_eq_true rfl) (Nat.le_of_ble_eq_true rfl) ?_
  refine va_putF (D := (dC, dI)) (ci := 12) (v := .ref q_9) (ty := .array .long) (C := RX12) (T := TX12) (N := 32) hx hb hT iX12 tyX12 tyX12_ok nmX12 hown hK hP hD hS 0 rfl rfl 4 (by decide) (hT _ w1086) (fun _ h9 => h9) rfl hin rfl (by decide +kernel) rfl rfl (Nat.le_of_ble_eq_true rfl) dX12_init_44 (fun H locs hP hD hS => ?_)
  have hP : va_P (dC, dI) vwCl [(m0, .inr (12, [.ref q_1, .ref q_3, .ref q_5, .ref q_7, .ref q_9, .int 0, .int 0, .int 0, .int 0, .null, .int 0, .int 0, .int 0, .int 0, .int 0, .int 0, .int 0, .null, .null, .int 0, .null, .null, .null, .null, .null, .null, .null, .null, .null, .null, .null, .int 0])), (q_1, .inl (cA_2, 266, .inl (fun _ => 0))), (q_3, .inl (cA_4, 266, .inl (fun _ => 0))), (q_5, .inl (cA_6, 2660, .inl (fun _ => 0))), (q_7, .inl (cA_8, 12, .inr (.inl (fun _ => 0)))), (q_9, .inl (cA_10, 12, .inr (.inl (fun _ => 0))))] H := hP
  have hD : va_D A [(m0, .inr (12, [.ref q_1, .ref q_3, .ref q_5, .ref q_7, .ref q_9, .int 0, .int 0, .int 0, .int 0, .null, .int 0, .int 0, .int 0, .int 0, .int 0, .int 0, .int 0, .null, .null, .int 0, .null, .null, .null, .null, .null, .null, .null, .null, .null, .null, .null, .int 0])), (q_1, .inl (cA_2, 266, .inl (fun _ => 0))), (q_3, .inl (cA_4, 266, .inl (fun _ => 0))), (q_5, .inl (cA_6, 2660, .inl (fun _ => 0))), (q_7, .inl (cA_8, 12, .inr (.inl (fun _ => 0)))), (q_9, .inl (cA_10, 12, .inr (.inl (fun _ => 0))))] := hD
  refine lv_aload_n hx hb dX12_init_47 rfl (lv_at hl 0 rfl) ?_
  refine lv_sipush (v := 900) hx hb dX12_init_48 (by decide) ?_
  refine va_newa (atype := .byte) (ty := .byte) (a0 := (900, .inl (fun _ => 0))) (n := 900) (N' := 900) hx hb (hT _ w45) rfl hK hP hD hS hA (fun _ => rfl) (by decide) (by decide) (Nat.le_of_ble_eq_true rfl) (Nat.le_of_ble_eq_true rfl) (Nat.le_of_ble_eq_true rfl) dX12_init_51 (fun q_11 cA_12 H hK hP hD hS => ?_)
  have hP : va_P (dC, dI) vwCl [(m0, .inr (12, [.ref q_1, .ref q_3, .ref q_5, .ref q_7, .ref q_9, .int 0, .int 0, .int 0, .int 0, .null, .int 0, .int 0, .int 0, .int 0, .int 0, .int 0, .int 0, .null, .null, .int 0, .null, .null, .null, .null, .null, .null, .null, .null, .null, .null, .null, .int 0])), (q_1, .inl (cA_2, 266, .inl (fun _ => 0))), (q_3, .inl (cA_4, 266, .inl (fun _ => 0))), (q_5, .inl (cA_6, 2660, .inl (fun _ => 0))), (q_7, .inl (cA_8, 12, .inr (.inl (fun _ => 0)))), (q_9, .inl (cA_10, 12, .inr (.inl (fun _ => 0)))), (q_11, .inl (cA_12, 900, .inl (fun _ => 0)))] H := hP
  have hD : va_D A [(m0, .inr (12, [.ref q_1, .ref q_3, .ref q_5, .ref q_7, .ref q_9, .int 0, .int 0, .int 0, .int 0, .null, .int 0, .int 0, .int 0, .int 0, .int 0, .int 0, .int 0, .null, .null, .int 0, .null, .null, .null, .null, .null, .null, .null, .null, .null, .null, .null, .int 0])), (q_1, .inl (cA_2, 266, .inl (fun _ => 0))), (q_3, .inl (cA_4, 266, .inl (fun _ => 0))), (q_5, .inl (cA_6, 2660, .inl (fun _ => 0))), (q_7, .inl (cA_8, 12, .inr (.inl (fun _ => 0)))), (q_9, .inl (cA_10, 12, .inr (.inl (fun _ => 0)))), (q_11, .inl (cA_12, 900, .inl (fun _ => 0)))] := hD
  have hK : va_K (dC, dI) vwCl [(cA_2, .int), (cA_4, .int), (cA_6, .int), (cA_8, .long), (cA_10, .long), (cA_12, .byte)] s := hK
  refine W.widen (k := 6) (n := 4116) (Nat.le_of_ble_eq_true rfl) (Nat.le_of_ble_eq_true rfl) ?_
  refine va_putF (D := (dC, dI)) (ci := 12) (v := .ref q_11) (ty := .array .byte) (C := RX12) (T := TX12) (N := 32) hx hb hT iX12 tyX12 tyX12_ok nmX12 hown hK hP hD hS 0 rfl rfl 9 (by decide) (hT _ w1091) (fun _ h9 => h9) rfl hin rfl (by decide +kernel) rfl rfl (Nat.le_of_ble_eq_true rfl) dX12_init_53 (fun H locs hP hD hS => ?_)
  have hP : va_P (dC, dI) vwCl [(m0, .inr (12, [.ref q_1, .ref q_3, .ref q_5, .ref q_7, .ref q_9, .int 0, .int 0, .int 0, .int 0, .ref q_11, .int 0, .int 0, .int 0, .int 0, .int 0, .int 0, .int 0, .null, .null, .int 0, .null, .null, .null, .null, .null, .null, .null, .null, .null, .null, .null, .int 0])), (q_1, .inl (cA_2, 266, .inl (fun _ => 0))), (q_3, .inl (cA_4, 266, .inl (fun _ => 0))), (q_5, .inl (cA_6, 2660, .inl (fun _ => 0))), (q_7, .inl (cA_8, 12, .inr (.inl (fun _ => 0)))), (q_9, .inl (cA_10, 12, .inr (.inl (fun _ => 0)))), (q_11, .inl (cA_12, 900, .inl (fun _ => 0)))] H := hP
  have hD : va_D A [(m0, .inr (12, [.ref q_1, .ref q_3, .ref q_5, .ref q_7, .ref q_9, .int 0, .int 0, .int 0, .int 0, .ref q_11, .int 0, .int 0, .int 0, .int 0, .int 0, .int 0, .int 0, .null, .null, .int 0, .null, .null, .null, .null, .null, .null, .null, .null, .null, .null, .null, .int 0])), (q_1, .inl (cA_2, 266, .inl (fun _ => 0))), (q_3, .inl (cA_4, 266, .inl (fun _ => 0))), (q_5, .inl (cA_6, 2660, .inl (fun _ => 0))), (q_7, .inl (cA_8, 12, .inr (.inl (fun _ => 0)))), (q_9, .inl (cA_10, 12, .inr (.inl (fun _ => 0)))), (q_11, .inl (cA_12, 900, .inl (fun _ => 0)))] := hD
  refine lv_aload_n hx hb dX12_init_56 rfl (lv_at hl 0 rfl) ?_
  refine lv_iconst (v := (-1)) hx hb dX12_init_57 (by decide) ?_
  refine va_put (D := (dC, dI)) (ci := 12) (v := .int (-1)) (ty := .int) (C := RX12) (T := TX12) (N := 32) hx hb hT iX12 tyX12 tyX12_ok nmX12 hown hK hP hD hS 0 rfl rfl 14 (by decide) (hT _ w1096) (fun _ h9 => h9) rfl (by decide +kernel) rfl rfl (Nat.le_of_ble_eq_true rfl) dX12_init_58 (fun H locs hP hD hS => ?_)
  have hP : va_P (dC, dI) vwCl [(m0, .inr (12, [.ref q_1, .ref q_3, .ref q_5, .ref q_7, .ref q_9, .int 0, .int 0, .int 0, .int 0, .ref q_11, .int 0, .int 0, .int 0, .int 0, .int (-1), .int 0, .int 0, .null, .null, .int 0, .null, .null, .null, .null, .null, .null, .null, .null, .null, .null, .null, .int 0])), (q_1, .inl (cA_2, 266, .inl (fun _ => 0))), (q_3, .inl (cA_4, 266, .inl (fun _ => 0))), (q_5, .inl (cA_6, 2660, .inl (fun _ => 0))), (q_7, .inl (cA_8, 12, .inr (.inl (fun _ => 0)))), (q_9, .inl (cA_10, 12, .inr (.inl (fun _ => 0)))), (q_11, .inl (cA_12, 900, .inl (fun _ => 0)))] H := hP
  have hD : va_D A [(m0, .inr (12, [.ref q_1, .ref q_3, .ref q_5, .ref q_7, .ref q_9, .int 0, .int 0, .int 0, .int 0, .ref q_11, .int 0, .int 0, .int 0, .int 0, .int (-1), .int 0, .int 0, .null, .null, .int 0, .null, .null, .null, .null, .null, .null, .null, .null, .null, .null, .null, .int 0])), (q_1, .inl (cA_2, 266, .inl (fun _ => 0))), (q_3, .inl (cA_4, 266, .inl (fun _ => 0))), (q_5, .inl (cA_6, 2660, .inl (fun _ => 0))), (q_7, .inl (cA_8, 12, .inr (.inl (fun _ => 0)))), (q_9, .inl (cA_10, 12, .inr (.inl (fun _ => 0)))), (q_11, .inl (cA_12, 900, .inl (fun _ => 0)))] := hD
  refine lv_aload_n hx hb dX12_init_61 rfl (lv_at hl 0 rfl) ?_
  refine lv_bipush (v := 64) hx hb dX12_init_62 (by decide) ?_
  refine va_newa (atype := .int) (ty := .int) (a0 := (64, .inl (fun _ => 0))) (n := 64) (N' := 64) hx hb (hT _ w77) rfl hK hP hD hS hA (fun _ => rfl) (by decide) (by decide) (Nat.le_of_ble_eq_true rfl) (Nat.le_of_ble_eq_true rfl) (Nat.le_of_ble_eq_true rfl) dX12_init_64 (fun q_13 cA_14 H hK hP hD hS => ?_)
  have hP : va_P (dC, dI) vwCl [(m0, .inr (12, [.ref q_1, .ref q_3, .ref q_5, .ref q_7, .ref q_9, .int 0, .int 0, .int 0, .int 0, .ref q_11, .int 0, .int 0, .int 0, .int 0, .int (-1), .int 0, .int 0, .null, .null, .int 0, .null, .null, .null, .null, .null, .null, .null, .null, .null, .null, .null, .int 0])), (q_1, .inl (cA_2, 266, .inl (fun _ => 0))), (q_3, .inl (cA_4, 266, .inl (fun _ => 0))), (q_5, .inl (cA_6, 2660, .inl (fun _ => 0))), (q_7, .inl (cA_8, 12, .inr (.inl (fun _ => 0)))), (q_9, .inl (cA_10, 12, .inr (.inl (fun _ => 0)))), (q_11, .inl (cA_12, 900, .inl (fun _ => 0))), (q_13, .inl (cA_14, 64, .inl (fun _ => 0)))] H := hP
  have hD : va_D A [(m0, .inr (12, [.ref q_1, .ref q_3, .ref q_5, .ref q_7, .ref q_9, .int 0, .int 0, .int 0, .int 0, .ref q_11, .int 0, .int 0, .int 0, .int 0, .int (-1), .int 0, .int 0, .null, .null, .int 0, .null, .null, .null, .null, .null, .null, .null, .null, .null, .null, .null, .int 0])), (q_1, .inl (cA_2, 266, .inl (fun _ => 0))), (q_3, .inl (cA_4, 266, .inl (fun _ => 0))), (q_5, .inl (cA_6, 2660, .inl (fun _ => 0))), (q_7, .inl (cA_8, 12, .inr (.inl (fun _ => 0)))), (q_9, .inl (cA_10, 12, .inr (.inl (fun _ => 0)))), (q_11, .inl (cA_12, 900, .inl (fun _ => 0))), (q_13, .inl (cA_14, 64, .inl (fun _ => 0)))] := hD
  have hK : va_K (dC, dI) vwCl [(cA_2, .int), (cA_4, .int), (cA_6, .int), (cA_8, .long), (cA_10, .long), (cA_12, .byte), (cA_14, .int)] s := hK
  refine W.widen (k := 7) (n := 4180) (Nat.le_of_ble_eq_true rfl) (Nat.le_of_ble_eq_true rfl) ?_
  refine va_putF (D := (dC, dI)) (ci := 12) (v := .ref q_13) (ty := .array .int) (C := RX12) (T := TX12) (N := 32) hx hb hT iX12 tyX12 tyX12_ok nmX12 hown hK hP hD hS 0 rfl rfl 17 (by decide) (hT _ w1099) (fun _ h9 => h9) rfl hin rfl (by decide +kernel) rfl rfl (Nat.le_of_ble_eq_true rfl) dX12_init_66 (fun H locs hP hD hS => ?_)
  have hP : va_P (dC, dI) vwCl [(m0, .inr (12, [.ref q_1, .ref q_3, .ref q_5, .ref q_7, .ref q_9, .int 0, .int 0, .int 0, .int 0, .ref q_11, .int 0, .int 0, .int 0, .int 0, .int (-1), .int 0, .int 0, .ref q_13, .null, .int 0, .null, .null, .null, .null, .null, .null, .null, .null, .null, .null, .null, .int 0])), (q_1, .inl (cA_2, 266, .inl (fun _ => 0))), (q_3, .inl (cA_4, 266, .inl (fun _ => 0))), (q_5, .inl (cA_6, 2660, .inl (fun _ => 0))), (q_7, .inl (cA_8, 12, .inr (.inl (fun _ => 0)))), (q_9, .inl (cA_10, 12, .inr (.inl (fun _ => 0)))), (q_11, .inl (cA_12, 900, .inl (fun _ => 0))), (q_13, .inl (cA_14, 64, .inl (fun _ => 0)))] H := hP
  have hD : va_D A [(m0, .inr (12, [.ref q_1, .ref q_3, .ref q_5, .ref q_7, .ref q_9, .int 0, .int 0, .int 0, .int 0, .ref q_11, .int 0, .int 0, .int 0, .int 0, .int (-1), .int 0, .int 0, .ref q_13, .null, .int 0, .null, .null, .null, .null, .null, .null, .null, .null, .null, .null, .null, .int 0])), (q_1, .inl (cA_2, 266, .inl (fun _ => 0))), (q_3, .inl (cA_4, 266, .inl (fun _ => 0))), (q_5, .inl (cA_6, 2660, .inl (fun _ => 0))), (q_7, .inl (cA_8, 12, .inr (.inl (fun _ => 0)))), (q_9, .inl (cA_10, 12, .inr (.inl (fun _ => 0)))), (q_11, .inl (cA_12, 900, .inl (fun _ => 0))), (q_13, .inl (cA_14, 64, .inl (fun _ => 0)))] := hD
  refine lv_aload_n hx hb dX12_init_69 rfl (lv_at hl 0 rfl) ?_
  refine lv_bipush (v := 8) hx hb dX12_init_70 (by decide) ?_
  refine va_newa (atype := .int) (ty := .int) (a0 := (8, .inl (fun _ => 0))) (n := 8) (N' := 8) hx hb (hT _ w77) rfl hK hP hD hS hA (fun _ => rfl) (by decide) (by decide) (Nat.le_of_ble_eq_true rfl) (Nat.le_of_ble_eq_true rfl) (Nat.le_of_ble_eq_true rfl) dX12_init_72 (fun q_15 cA_16 H hK hP hD hS => ?_)
  have hP : va_P (dC, dI) vwCl [(m0, .inr (12, [.ref q_1, .ref q_3, .ref q_5, .ref q_7, .ref q_9, .int 0, .int 0, .int 0, .int 0, .ref q_11, .int 0, .int 0, .int 0, .int 0, .int (-1), .int 0, .int 0, .ref q_13, .null, .int 0, .null, .null, .null, .null, .null, .null, .null, .null, .null, .null, .null, .int 0])), (q_1, .inl (cA_2, 266, .inl (fun _ => 0))), (q_3, .inl (cA_4, 266, .inl (fun _ => 0))), (q_5, .inl (cA_6, 2660, .inl (fun _ => 0))), (q_7, .inl (cA_8, 12, .inr (.inl (fun _ => 0)))), (q_9, .inl (cA_10, 12, .inr (.inl (fun _ => 0)))), (q_11, .inl (cA_12, 900, .inl (fun _ => 0))), (q_13, .inl (cA_14, 64, .inl (fun _ => 0))), (q_15, .inl (cA_16, 8, .inl (fun _ => 0)))] H := hP
  have hD : va_D A [(m0, .inr (12, [.ref q_1, .ref q_3, .ref q_5, .ref q_7, .ref q_9, .int 0, .int 0, .int 0, .int 0, .ref q_11, .int 0, .int 0, .int 0, .int 0, .int (-1), .int 0, .int 0, .ref q_13, .null, .int 0, .null, .null, .null, .null, .null, .null, .null, .null, .null, .null, .null, .int 0])), (q_1, .inl (cA_2, 266, .inl (fun _ => 0))), (q_3, .inl (cA_4, 266, .inl (fun _ => 0))), (q_5, .inl (cA_6, 2660, .inl (fun _ => 0))), (q_7, .inl (cA_8, 12, .inr (.inl (fun _ => 0)))), (q_9, .inl (cA_10, 12, .inr (.inl (fun _ => 0)))), (q_11, .inl (cA_12, 900, .inl (fun _ => 0))), (q_13, .inl (cA_14, 64, .inl (fun _ => 0))), (q_15, .inl (cA_16, 8, .inl (fun _ => 0)))] := hD
  have hK : va_K (dC, dI) vwCl [(cA_2, .int), (cA_4, .int), (cA_6, .int), (cA_8, .long), (cA_10, .long), (cA_12, .byte), (cA_14, .int), (cA_16, .int)] s := hK
  refine W.widen (k := 8) (n := 4188) (Nat.le_of_ble_eq_true rfl) (Nat.le_of_ble_eq_true rfl) ?_
  refine va_putF (D := (dC, dI)) (ci := 12) (v := .ref q_15) (ty := .array .int) (C := RX12) (T := TX12) (N := 32) hx hb hT iX12 tyX12 tyX12_ok nmX12 hown hK hP hD hS 0 rfl rfl 18 (by decide) (hT _ w1100) (fun _ h9 => h9) rfl hin rfl (by decide +kernel) rfl rfl (Nat.le_of_ble_eq_true rfl) dX12_init_74 (fun H locs hP hD hS => ?_)
  have hP : va_P (dC, dI) vwCl [(m0, .inr (12, [.ref q_1, .ref q_3, .ref q_5, .ref q_7, .ref q_9, .int 0, .int 0, .int 0, .int 0, .ref q_11, .int 0, .int 0, .int 0, .int 0, .int (-1), .int 0, .int 0, .ref q_13, .ref q_15, .int 0, .null, .null, .null, .null, .null, .null, .null, .null, .null, .null, .null, .int 0])), (q_1, .inl (cA_2, 266, .inl (fun _ => 0))), (q_3, .inl (cA_4, 266, .inl (fun _ => 0))), (q_5, .inl (cA_6, 2660, .inl (fun _ => 0))), (q_7, .inl (cA_8, 12, .inr (.inl (fun _ => 0)))), (q_9, .inl (cA_10, 12, .inr (.inl (fun _ => 0)))), (q_11, .inl (cA_12, 900, .inl (fun _ => 0))), (q_13, .inl (cA_14, 64, .inl (fun _ => 0))), (q_15, .inl (cA_16, 8, .inl (fun _ => 0)))] H := hP
  have hD : va_D A [(m0, .inr (12, [.ref q_1, .ref q_3, .ref q_5, .ref q_7, .ref q_9, .int 0, .int 0, .int 0, .int 0, .ref q_11, .int 0, .int 0, .int 0, .int 0, .int (-1), .int 0, .int 0, .ref q_13, .ref q_15, .int 0, .null, .null, .null, .null, .null, .null, .null, .null, .null, .null, .null, .int 0])), (q_1, .inl (cA_2, 266, .inl (fun _ => 0))), (q_3, .inl (cA_4, 266, .inl (fun _ => 0))), (q_5, .inl (cA_6, 2660, .inl (fun _ => 0))), (q_7, .inl (cA_8, 12, .inr (.inl (fun _ => 0)))), (q_9, .inl (cA_10, 12, .inr (.inl (fun _ => 0)))), (q_11, .inl (cA_12, 900, .inl (fun _ => 0))), (q_13, .inl (cA_14, 64, .inl (fun _ => 0))), (q_15, .inl (cA_16, 8, .inl (fun _ => 0)))] := hD
  refine lv_aload_n hx hb dX12_init_77 rfl (lv_at hl 0 rfl) ?_
  refine lv_bipush (v := 8) hx hb dX12_init_78 (by decide) ?_
  refine va_newa (atype := .int) (ty := .int) (a0 := (8, .inl (fun _ => 0))) (n := 8) (N' := 8) hx hb (hT _ w77) rfl hK hP hD hS hA (fun _ => rfl) (by decide) (by decide) (Nat.le_of_ble_eq_true rfl) (Nat.le_of_ble_eq_true rfl) (Nat.le_of_ble_eq_true rfl) dX12_init_80 (fun q_17 cA_18 H hK hP hD hS => ?_)
  have hP : va_P (dC, dI) vwCl [(m0, .inr (12, [.ref q_1, .ref q_3, .ref q_5, .ref q_7, .ref q_9, .int 0, .int 0, .int 0, .int 0, .ref q_11, .int 0, .int 0, .int 0, .int 0, .int (-1), .int 0, .int 0, .ref q_13, .ref q_15, .int 0, .null, .null, .null, .null, .null, .null, .null, .null, .null, .null, .null, .int 0])), (q_1, .inl (cA_2, 266, .inl (fun _ => 0))), (q_3, .inl (cA_4, 266, .inl (fun _ => 0))), (q_5, .inl (cA_6, 2660, .inl (fun _ => 0))), (q_7, .inl (cA_8, 12, .inr (.inl (fun _ => 0)))), (q_9, .inl (cA_10, 12, .inr (.inl (fun _ => 0)))), (q_11, .inl (cA_12, 900, .inl (fun _ => 0))), (q_13, .inl (cA_14, 64, .inl (fun _ => 0))), (q_15, .inl (cA_16, 8, .inl (fun _ => 0))), (q_17, .inl (cA_18, 8, .inl (fun _ => 0)))] H := hP
  have hD : va_D A [(m0, .inr (12, [.ref q_1, .ref q_3, .ref q_5, .ref q_7, .ref q_9, .int 0, .int 0, .int 0, .int 0, .ref q_11, .int 0, .int 0, .int 0, .int 0, .int (-1), .int 0, .int 0, .ref q_13, .ref q_15, .int 0, .null, .null, .null, .null, .null, .null, .null, .null, .null, .null, .null, .int 0])), (q_1, .inl (cA_2, 266, .inl (fun _ => 0))), (q_3, .inl (cA_4, 266, .inl (fun _ => 0))), (q_5, .inl (cA_6, 2660, .inl (fun _ => 0))), (q_7, .inl (cA_8, 12, .inr (.inl (fun _ => 0)))), (q_9, .inl (cA_10, 12, .inr (.inl (fun _ => 0)))), (q_11, .inl (cA_12, 900, .inl (fun _ => 0))), (q_13, .inl (cA_14, 64, .inl (fun _ => 0))), (q_15, .inl (cA_16, 8, .inl (fun _ => 0))), (q_17, .inl (cA_18, 8, .inl (fun _ => 0)))] := hD
  have hK : va_K (dC, dI) vwCl [(cA_2, .int), (cA_4, .int), (cA_6, .int), (cA_8, .long), (cA_10, .long), (cA_12, .byte), (cA_14, .int), (cA_16, .int), (cA_18, .int)] s := hK
  refine W.widen (k := 9) (n := 4196) (Nat.le_of_ble_eq_true rfl) (Nat.le_of_ble_eq_true rfl) ?_
  refine va_putF (D := (dC, dI)) (ci := 12) (v := .ref q_17) (ty := .array .int) (C := RX12) (T := TX12) (N := 32) hx hb hT iX12 tyX12 tyX12_ok nmX12 hown hK hP hD hS 0 rfl rfl 20 (by decide) (hT _ w1102) (fun _ h9 => h9) rfl hin rfl (by decide +kernel) rfl rfl (Nat.le_of_ble_eq_true rfl) dX12_init_82 (fun H locs hP hD hS => ?_)
  have hP : va_P (dC, dI) vwCl [(m0, .inr (12, [.ref q_1, .ref q_3, .ref q_5, .ref q_7, .ref q_9, .int 0, .int 0, .int 0, .int 0, .ref q_11, .int 0, .int 0, .int 0, .int 0, .int (-1), .int 0, .int 0, .ref q_13, .ref q_15, .int 0, .ref q_17, .null, .null, .null, .null, .null, .null, .null, .null, .null, .null, .int 0])), (q_1, .inl (cA_2, 266, .inl (fun _ => 0))), (q_3, .inl (cA_4, 266, .inl (fun _ => 0))), (q_5, .inl (cA_6, 2660, .inl (fun _ => 0))), (q_7, .inl (cA_8, 12, .inr (.inl (fun _ => 0)))), (q_9, .inl (cA_10, 12, .inr (.inl (fun _ => 0)))), (q_11, .inl (cA_12, 900, .inl (fun _ => 0))), (q_13, .inl (cA_14, 64, .inl (fun _ => 0))), (q_15, .inl (cA_16, 8, .inl (fun _ => 0))), (q_17, .inl (cA_18, 8, .inl (fun _ => 0)))] H := hP
  have hD : va_D A [(m0, .inr (12, [.ref q_1, .ref q_3, .ref q_5, .ref q_7, .ref q_9, .int 0, .int 0, .int 0, .int 0, .ref q_11, .int 0, .int 0, .int 0, .int 0, .int (-1), .int 0, .int 0, .ref q_13, .ref q_15, .int 0, .ref q_17, .null, .null, .null, .null, .null, .null, .null, .null, .null, .null, .int 0])), (q_1, .inl (cA_2, 266, .inl (fun _ => 0))), (q_3, .inl (cA_4, 266, .inl (fun _ => 0))), (q_5, .inl (cA_6, 2660, .inl (fun _ => 0))), (q_7, .inl (cA_8, 12, .inr (.inl (fun _ => 0)))), (q_9, .inl (cA_10, 12, .inr (.inl (fun _ => 0)))), (q_11, .inl (cA_12, 900, .inl (fun _ => 0))), (q_13, .inl (cA_14, 64, .inl (fun _ => 0))), (q_15, .inl (cA_16, 8, .inl (fun _ => 0))), (q_17, .inl (cA_18, 8, .inl (fun _ => 0)))] := hD
  refine lv_aload_n hx hb dX12_init_85 rfl (lv_at hl 0 rfl) ?_
  refine lv_bipush (v := 64) hx hb dX12_init_86 (by decide) ?_
  refine va_newa (atype := .int) (ty := .int) (a0 := (64, .inl (fun _ => 0))) (n := 64) (N' := 64) hx hb (hT _ w77) rfl hK hP hD hS hA (fun _ => rfl) (by decide) (by decide) (Nat.le_of_ble_eq_true rfl) (Nat.le_of_ble_eq_true rfl) (Nat.le_of_ble_eq_true rfl) dX12_init_88 (fun q_19 cA_20 H hK hP hD hS => ?_)
  have hP : va_P (dC, dI) vwCl [(m0, .inr (12, [.ref q_1, .ref q_3, .ref q_5, .ref q_7, .ref q_9, .int 0, .int 0, .int 0, .int 0, .ref q_11, .int 0, .int 0, .int 0, .int 0, .int (-1), .int 0, .int 0, .ref q_13, .ref q_15, .int 0, .ref q_17, .null, .null, .null, .null, .null, .null, .null, .null, .null, .null, .int 0])), (q_1, .inl (cA_2, 266, .inl (fun _ => 0))), (q_3, .inl (cA_4, 266, .inl (fun _ => 0))), (q_5, .inl (cA_6, 2660, .inl (fun _ => 0))), (q_7, .inl (cA_8, 12, .inr (.inl (fun _ => 0)))), (q_9, .inl (cA_10, 12, .inr (.inl (fun _ => 0)))), (q_11, .inl (cA_12, 900, .inl (fun _ => 0))), (q_13, .inl (cA_14, 64, .inl (fun _ => 0))), (q_15, .inl (cA_16, 8, .inl (fun _ => 0))), (q_17, .inl (cA_18, 8, .inl (fun _ => 0))), (q_19, .inl (cA_20, 64, .inl (fun _ => 0)))] H := hP
  have hD : va_D A [(m0, .inr (12, [.ref q_1, .ref q_3, .ref q_5, .ref q_7, .ref q_9, .int 0, .int 0, .int 0, .int 0, .ref q_11, .int 0, .int 0, .int 0, .int 0, .int (-1), .int 0, .int 0, .ref q_13, .ref q_15, .int 0, .ref q_17, .null, .null, .null, .null, .null, .null, .null, .null, .null, .null, .int 0])), (q_1, .inl (cA_2, 266, .inl (fun _ => 0))), (q_3, .inl (cA_4, 266, .inl (fun _ => 0))), (q_5, .inl (cA_6, 2660, .inl (fun _ => 0))), (q_7, .inl (cA_8, 12, .inr (.inl (fun _ => 0)))), (q_9, .inl (cA_10, 12, .inr (.inl (fun _ => 0)))), (q_11, .inl (cA_12, 900, .inl (fun _ => 0))), (q_13, .inl (cA_14, 64, .inl (fun _ => 0))), (q_15, .inl (cA_16, 8, .inl (fun _ => 0))), (q_17, .inl (cA_18, 8, .inl (fun _ => 0))), (q_19, .inl (cA_20, 64, .inl (fun _ => 0)))] := hD
  have hK : va_K (dC, dI) vwCl [(cA_2, .int), (cA_4, .int), (cA_6, .int), (cA_8, .long), (cA_10, .long), (cA_12, .byte), (cA_14, .int), (cA_16, .int), (cA_18, .int), (cA_20, .int)] s := hK
  refine W.widen (k := 10) (n := 4260) (Nat.le_of_ble_eq_true rfl) (Nat.le_of_ble_eq_true rfl) ?_
  refine va_putF (D := (dC, dI)) (ci := 12) (v := .ref q_19) (ty := .array .int) (C := RX12) (T := TX12) (N := 32) hx hb hT iX12 tyX12 tyX12_ok nmX12 hown hK hP hD hS 0 rfl rfl 21 (by decide) (hT _ w1103) (fun _ h9 => h9) rfl hin rfl (by decide +kernel) rfl rfl (Nat.le_of_ble_eq_true rfl) dX12_init_90 (fun H locs hP hD hS => ?_)
  have hP : va_P (dC, dI) vwCl [(m0, .inr (12, [.ref q_1, .ref q_3, .ref q_5, .ref q_7, .ref q_9, .int 0, .int 0, .int 0, .int 0, .ref q_11, .int 0, .int 0, .int 0, .int 0, .int (-1), .int 0, .int 0, .ref q_13, .ref q_15, .int 0, .ref q_17, .ref q_19, .null, .null, .null, .null, .null, .null, .null, .null, .null, .int 0])), (q_1, .inl (cA_2, 266, .inl (fun _ => 0))), (q_3, .inl (cA_4, 266, .inl (fun _ => 0))), (q_5, .inl (cA_6, 2660, .inl (fun _ => 0))), (q_7, .inl (cA_8, 12, .inr (.inl (fun _ => 0)))), (q_9, .inl (cA_10, 12, .inr (.inl (fun _ => 0)))), (q_11, .inl (cA_12, 900, .inl (fun _ => 0))), (q_13, .inl (cA_14, 64, .inl (fun _ => 0))), (q_15, .inl (cA_16, 8, .inl (fun _ => 0))), (q_17, .inl (cA_18, 8, .inl (fun _ => 0))), (q_19, .inl (cA_20, 64, .inl (fun _ => 0)))] H := hP
  have hD : va_D A [(m0, .inr (12, [.ref q_1, .ref q_3, .ref q_5, .ref q_7, .ref q_9, .int 0, .int 0, .int 0, .int 0, .ref q_11, .int 0, .int 0, .int 0, .int 0, .int (-1), .int 0, .int 0, .ref q_13, .ref q_15, .int 0, .ref q_17, .ref q_19, .null, .null, .null, .null, .null, .null, .null, .null, .null, .int 0])), (q_1, .inl (cA_2, 266, .inl (fun _ => 0))), (q_3, .inl (cA_4, 266, .inl (fun _ => 0))), (q_5, .inl (cA_6, 2660, .inl (fun _ => 0))), (q_7, .inl (cA_8, 12, .inr (.inl (fun _ => 0)))), (q_9, .inl (cA_10, 12, .inr (.inl (fun _ => 0)))), (q_11, .inl (cA_12, 900, .inl (fun _ => 0))), (q_13, .inl (cA_14, 64, .inl (fun _ => 0))), (q_15, .inl (cA_16, 8, .inl (fun _ => 0))), (q_17, .inl (cA_18, 8, .inl (fun _ => 0))), (q_19, .inl (cA_20, 64, .inl (fun _ => 0)))] := hD
  refine lv_aload_n hx hb dX12_init_93 rfl (lv_at hl 0 rfl) ?_
  refine lv_bipush (v := 64) hx hb dX12_init_94 (by decide) ?_
  refine va_newa (atype := .int) (ty := .int) (a0 := (64, .inl (fun _ => 0))) (n := 64) (N' := 64) hx hb (hT _ w77) rfl hK hP hD hS hA (fun _ => rfl) (by decide) (by decide) (Nat.le_of_ble_eq_true rfl) (Nat.le_of_ble_eq_true rfl) (Nat.le_of_ble_eq_true rfl) dX12_init_96 (fun q_21 cA_22 H hK hP hD hS => ?_)
  have hP : va_P (dC, dI) vwCl [(m0, .inr (12, [.ref q_1, .ref q_3, .ref q_5, .ref q_7, .ref q_9, .int 0, .int 0, .int 0, .int 0, .ref q_11, .int 0, .int 0, .int 0, .int 0, .int (-1), .int 0, .int 0, .ref q_13, .ref q_15, .int 0, .ref q_17, .ref q_19, .null, .null, .null, .null, .null, .null, .null, .null, .null, .int 0])), (q_1, .inl (cA_2, 266, .inl (fun _ => 0))), (q_3, .inl (cA_4, 266, .inl (fun _ => 0))), (q_5, .inl (cA_6, 2660, .inl (fun _ => 0))), (q_7, .inl (cA_8, 12, .inr (.inl (fun _ => 0)))), (q_9, .inl (cA_10, 12, .inr (.inl (fun _ => 0)))), (q_11, .inl (cA_12, 900, .inl (fun _ => 0))), (q_13, .inl (cA_14, 64, .inl (fun _ => 0))), (q_15, .inl (cA_16, 8, .inl (fun _ => 0))), (q_17, .inl (cA_18, 8, .inl (fun _ => 0))), (q_19, .inl (cA_20, 64, .inl (fun _ => 0))), (q_21, .inl (cA_22, 64, .inl (fun _ => 0)))] H := hP
  have hD : va_D A [(m0, .inr (12, [.ref q_1, .ref q_3, .ref q_5, .ref q_7, .ref q_9, .int 0, .int 0, .int 0, .int 0, .ref q_11, .int 0, .int 0, .int 0, .int 0, .int (-1), .int 0, .int 0, .ref q_13, .ref q_15, .int 0, .ref q_17, .ref q_19, .null, .null, .null, .null, .null, .null, .null, .null, .null, .int 0])), (q_1, .inl (cA_2, 266, .inl (fun _ => 0))), (q_3, .inl (cA_4, 266, .inl (fun _ => 0))), (q_5, .inl (cA_6, 2660, .inl (fun _ => 0))), (q_7, .inl (cA_8, 12, .inr (.inl (fun _ => 0)))), (q_9, .inl (cA_10, 12, .inr (.inl (fun _ => 0)))), (q_11, .inl (cA_12, 900, .inl (fun _ => 0))), (q_13, .inl (cA_14, 64, .inl (fun _ => 0))), (q_15, .inl (cA_16, 8, .inl (fun _ => 0))), (q_17, .inl (cA_18, 8, .inl (fun _ => 0))), (q_19, .inl (cA_20, 64, .inl (fun _ => 0))), (q_21, .inl (cA_22, 64, .inl (fun _ => 0)))] := hD
  have hK : va_K (dC, dI) vwCl [(cA_2, .int), (cA_4, .int), (cA_6, .int), (cA_8, .long), (cA_10, .long), (cA_12, .byte), (cA_14, .int), (cA_16, .int), (cA_18, .int), (cA_20, .int), (cA_22, .int)] s := hK
  refine W.widen (k := 11) (n := 4324) (Nat.le_of_ble_eq_true rfl) (Nat.le_of_ble_eq_true rfl) ?_
  refine va_putF (D := (dC, dI)) (ci := 12) (v := .ref q_21) (ty := .array .int) (C := RX12) (T := TX12) (N := 32) hx hb hT iX12 tyX12 tyX12_ok nmX12 hown hK hP hD hS 0 rfl rfl 22 (by decide) (hT _ w1104) (fun _ h9 => h9) rfl hin rfl (by decide +kernel) rfl rfl (Nat.le_of_ble_eq_true rfl) dX12_init_98 (fun H locs hP hD hS => ?_)
  have hP : va_P (dC, dI) vwCl [(m0, .inr (12, [.ref q_1, .ref q_3, .ref q_5, .ref q_7, .ref q_9, .int 0, .int 0, .int 0, .int 0, .ref q_11, .int 0, .int 0, .int 0, .int 0, .int (-1), .int 0, .int 0, .ref q_13, .ref q_15, .int 0, .ref q_17, .ref q_19, .ref q_21, .null, .null, .null, .null, .null, .null, .null, .null, .int 0])), (q_1, .inl (cA_2, 266, .inl (fun _ => 0))), (q_3, .inl (cA_4, 266, .inl (fun _ => 0))), (q_5, .inl (cA_6, 2660, .inl (fun _ => 0))), (q_7, .inl (cA_8, 12, .inr (.inl (fun _ => 0)))), (q_9, .inl (cA_10, 12, .inr (.inl (fun _ => 0)))), (q_11, .inl (cA_12, 900, .inl (fun _ => 0))), (q_13, .inl (cA_14, 64, .inl (fun _ => 0))), (q_15, .inl (cA_16, 8, .inl (fun _ => 0))), (q_17, .inl (cA_18, 8, .inl (fun _ => 0))), (q_19, .inl (cA_20, 64, .inl (fun _ => 0))), (q_21, .inl (cA_22, 64, .inl (fun _ => 0)))] H := hP
  have hD : va_D A [(m0, .inr (12, [.ref q_1, .ref q_3, .ref q_5, .ref q_7, .ref q_9, .int 0, .int 0, .int 0, .int 0, .ref q_11, .int 0, .int 0, .int 0, .int 0, .int (-1), .int 0, .int 0, .ref q_13, .ref q_15, .int 0, .ref q_17, .ref q_19, .ref q_21, .null, .null, .null, .null, .null, .null, .null, .null, .int 0])), (q_1, .inl (cA_2, 266, .inl (fun _ => 0))), (q_3, .inl (cA_4, 266, .inl (fun _ => 0))), (q_5, .inl (cA_6, 2660, .inl (fun _ => 0))), (q_7, .inl (cA_8, 12, .inr (.inl (fun _ => 0)))), (q_9, .inl (cA_10, 12, .inr (.inl (fun _ => 0)))), (q_11, .inl (cA_12, 900, .inl (fun _ => 0))), (q_13, .inl (cA_14, 64, .inl (fun _ => 0))), (q_15, .inl (cA_16, 8, .inl (fun _ => 0))), (q_17, .inl (cA_18, 8, .inl (fun _ => 0))), (q_19, .inl (cA_20, 64, .inl (fun _ => 0))), (q_21, .inl (cA_22, 64, .inl (fun _ => 0)))] := hD
  refine lv_aload_n hx hb dX12_init_101 rfl (lv_at hl 0 rfl) ?_
  refine lv_bipush (v := 8) hx hb dX12_init_102 (by decide) ?_
  refine va_newa (atype := .int) (ty := .int) (a0 := (8, .inl (fun _ => 0))) (n := 8) (N' := 8) hx hb (hT _ w77) rfl hK hP hD hS hA (fun _ => rfl) (by decide) (by decide) (Nat.le_of_ble_eq_true rfl) (Nat.le_of_ble_eq_true rfl) (Nat.le_of_ble_eq_true rfl) dX12_init_104 (fun q_23 cA_24 H hK hP hD hS => ?_)
  have hP : va_P (dC, dI) vwCl [(m0, .inr (12, [.ref q_1, .ref q_3, .ref q_5, .ref q_7, .ref q_9, .int 0, .int 0, .int 0, .int 0, .ref q_11, .int 0, .int 0, .int 0, .int 0, .int (-1), .int 0, .int 0, .ref q_13, .ref q_15, .int 0, .ref q_17, .ref q_19, .ref q_21, .null, .null, .null, .null, .null, .null, .null, .null, .int 0])), (q_1, .inl (cA_2, 266, .inl (fun _ => 0))), (q_3, .inl (cA_4, 266, .inl (fun _ => 0))), (q_5, .inl (cA_6, 2660, .inl (fun _ => 0))), (q_7, .inl (cA_8, 12, .inr (.inl (fun _ => 0)))), (q_9, .inl (cA_10, 12, .inr (.inl (fun _ => 0)))), (q_11, .inl (cA_12, 900, .inl (fun _ => 0))), (q_13, .inl (cA_14, 64, .inl (fun _ => 0))), (q_15, .inl (cA_16, 8, .inl (fun _ => 0))), (q_17, .inl (cA_18, 8, .inl (fun _ => 0))), (q_19, .inl (cA_20, 64, .inl (fun _ => 0))), (q_21, .inl (cA_22, 64, .inl (fun _ => 0))), (q_23, .inl (cA_24, 8, .inl (fun _ => 0)))] H := hP
  have hD : va_D A [(m0, .inr (12, [.ref q_1, .ref q_3, .ref q_5, .ref q_7, .ref q_9, .int 0, .int 0, .int 0, .int 0, .ref q_11, .int 0, .int 0, .int 0, .int 0, .int (-1), .int 0, .int 0, .ref q_13, .ref q_15, .int 0, .ref q_17, .ref q_19, .ref q_21, .null, .null, .null, .null, .null, .null, .null, .null, .int 0])), (q_1, .inl (cA_2, 266, .inl (fun _ => 0))), (q_3, .inl (cA_4, 266, .inl (fun _ => 0))), (q_5, .inl (cA_6, 2660, .inl (fun _ => 0))), (q_7, .inl (cA_8, 12, .inr (.inl (fun _ => 0)))), (q_9, .inl (cA_10, 12, .inr (.inl (fun _ => 0)))), (q_11, .inl (cA_12, 900, .inl (fun _ => 0))), (q_13, .inl (cA_14, 64, .inl (fun _ => 0))), (q_15, .inl (cA_16, 8, .inl (fun _ => 0))), (q_17, .inl (cA_18, 8, .inl (fun _ => 0))), (q_19, .inl (cA_20, 64, .inl (fun _ => 0))), (q_21, .inl (cA_22, 64, .inl (fun _ => 0))), (q_23, .inl (cA_24, 8, .inl (fun _ => 0)))] := hD
  have hK : va_K (dC, dI) vwCl [(cA_2, .int), (cA_4, .int), (cA_6, .int), (cA_8, .long), (cA_10, .long), (cA_12, .byte), (cA_14, .int), (cA_16, .int), (cA_18, .int), (cA_20, .int), (cA_22, .int), (cA_24, .int)] s := hK
  refine W.widen (k := 12) (n := 4332) (Nat.le_of_ble_eq_true rfl) (Nat.le_of_ble_eq_true rfl) ?_
  refine va_putF (D := (dC, dI)) (ci := 12) (v := .ref q_23) (ty := .array .int) (C := RX12) (T := TX12) (N := 32) hx hb hT iX12 tyX12 tyX12_ok nmX12 hown hK hP hD hS 0 rfl rfl 23 (by decide) (hT _ w1105) (fun _ h9 => h9) rfl hin rfl (by decide +kernel) rfl rfl (Nat.le_of_ble_eq_true rfl) dX12_init_106 (fun H locs hP hD hS => ?_)
  have hP : va_P (dC, dI) vwCl [(m0, .inr (12, [.ref q_1, .ref q_3, .ref q_5, .ref q_7, .ref q_9, .int 0, .int 0, .int 0, .int 0, .ref q_11, .int 0, .int 0, .int 0, .int 0, .int (-1), .int 0, .int 0, .ref q_13, .ref q_15, .int 0, .ref q_17, .ref q_19, .ref q_21, .ref q_23, .null, .null, .null, .null, .null, .null, .null, .int 0])), (q_1, .inl (cA_2, 266, .inl (fun _ => 0))), (q_3, .inl (cA_4, 266, .inl (fun _ => 0))), (q_5, .inl (cA_6, 2660, .inl (fun _ => 0))), (q_7, .inl (cA_8, 12, .inr (.inl (fun _ => 0)))), (q_9, .inl (cA_10, 12, .inr (.inl (fun _ => 0)))), (q_11, .inl (cA_12, 900, .inl (fun _ => 0))), (q_13, .inl (cA_14, 64, .inl (fun _ => 0))), (q_15, .inl (cA_16, 8, .inl (fun _ => 0))), (q_17, .inl (cA_18, 8, .inl (fun _ => 0))), (q_19, .inl (cA_20, 64, .inl (fun _ => 0))), (q_21, .inl (cA_22, 64, .inl (fun _ => 0))), (q_23, .inl (cA_24, 8, .inl (fun _ => 0)))] H := hP
  have hD : va_D A [(m0, .inr (12, [.ref q_1, .ref q_3, .ref q_5, .ref q_7, .ref q_9, .int 0, .int 0, .int 0, .int 0, .ref q_11, .int 0, .int 0, .int 0, .int 0, .int (-1), .int 0, .int 0, .ref q_13, .ref q_15, .int 0, .ref q_17, .ref q_19, .ref q_21, .ref q_23, .null, .null, .null, .null, .null, .null, .null, .int 0])), (q_1, .inl (cA_2, 266, .inl (fun _ => 0))), (q_3, .inl (cA_4, 266, .inl (fun _ => 0))), (q_5, .inl (cA_6, 2660, .inl (fun _ => 0))), (q_7, .inl (cA_8, 12, .inr (.inl (fun _ => 0)))), (q_9, .inl (cA_10, 12, .inr (.inl (fun _ => 0)))), (q_11, .inl (cA_12, 900, .inl (fun _ => 0))), (q_13, .inl (cA_14, 64, .inl (fun _ => 0))), (q_15, .inl (cA_16, 8, .inl (fun _ => 0))), (q_17, .inl (cA_18, 8, .inl (fun _ => 0))), (q_19, .inl (cA_20, 64, .inl (fun _ => 0))), (q_21, .inl (cA_22, 64, .inl (fun _ => 0))), (q_23, .inl (cA_24, 8, .inl (fun _ => 0)))] := hD
  refine lv_aload_n hx hb dX12_init_109 rfl (lv_at hl 0 rfl) ?_
  refine lv_bipush (v := 8) hx hb dX12_init_110 (by decide) ?_
  refine va_newa (atype := .int) (ty := .int) (a0 := (8, .inl (fun _ => 0))) (n := 8) (N' := 8) hx hb (hT _ w77) rfl hK hP hD hS hA (fun _ => rfl) (by decide) (by decide) (Nat.le_of_ble_eq_true rfl) (Nat.le_of_ble_eq_true rfl) (Nat.le_of_ble_eq_true rfl) dX12_init_112 (fun q_25 cA_26 H hK hP hD hS => ?_)
  have hP : va_P (dC, dI) vwCl [(m0, .inr (12, [.ref q_1, .ref q_3, .ref q_5, .ref q_7, .ref q_9, .int 0, .int 0, .int 0, .int 0, .ref q_11, .int 0, .int 0, .int 0, .int 0, .int (-1), .int 0, .int 0, .ref q_13, .ref q_15, .int 0, .ref q_17, .ref q_19, .ref q_21, .ref q_23, .null, .null, .null, .null, .null, .null, .null, .int 0])), (q_1, .inl (cA_2, 266, .inl (fun _ => 0))), (q_3, .inl (cA_4, 266, .inl (fun _ => 0))), (q_5, .inl (cA_6, 2660, .inl (fun _ => 0))), (q_7, .inl (cA_8, 12, .inr (.inl (fun _ => 0)))), (q_9, .inl (cA_10, 12, .inr (.inl (fun _ => 0)))), (q_11, .inl (cA_12, 900, .inl (fun _ => 0))), (q_13, .inl (cA_14, 64, .inl (fun _ => 0))), (q_15, .inl (cA_16, 8, .inl (fun _ => 0))), (q_17, .inl (cA_18, 8, .inl (fun _ => 0))), (q_19, .inl (cA_20, 64, .inl (fun _ => 0))), (q_21, .inl (cA_22, 64, .inl (fun _ => 0))), (q_23, .inl (cA_24, 8, .inl (fun _ => 0))), (q_25, .inl (cA_26, 8, .inl (fun _ => 0)))] H := hP
  have hD : va_D A [(m0, .inr (12, [.ref q_1, .ref q_3, .ref q_5, .ref q_7, .ref q_9, .int 0, .int 0, .int 0, .int 0, .ref q_11, .int 0, .int 0, .int 0, .int 0, .int (-1), .int 0, .int 0, .ref q_13, .ref q_15, .int 0, .ref q_17, .ref q_19, .ref q_21, .ref q_23, .null, .null, .null, .null, .null, .null, .null, .int 0])), (q_1, .inl (cA_2, 266, .inl (fun _ => 0))), (q_3, .inl (cA_4, 266, .inl (fun _ => 0))), (q_5, .inl (cA_6, 2660, .inl (fun _ => 0))), (q_7, .inl (cA_8, 12, .inr (.inl (fun _ => 0)))), (q_9, .inl (cA_10, 12, .inr (.inl (fun _ => 0)))), (q_11, .inl (cA_12, 900, .inl (fun _ => 0))), (q_13, .inl (cA_14, 64, .inl (fun _ => 0))), (q_15, .inl (cA_16, 8, .inl (fun _ => 0))), (q_17, .inl (cA_18, 8, .inl (fun _ => 0))), (q_19, .inl (cA_20, 64, .inl (fun _ => 0))), (q_21, .inl (cA_22, 64, .inl (fun _ => 0))), (q_23, .inl (cA_24, 8, .inl (fun _ => 0))), (q_25, .inl (cA_26, 8, .inl (fun _ => 0)))] := hD
  have hK : va_K (dC, dI) vwCl [(cA_2, .int), (cA_4, .int), (cA_6, .int), (cA_8, .long), (cA_10, .long), (cA_12, .byte), (cA_14, .int), (cA_16, .int), (cA_18, .int), (cA_20, .int), (cA_22, .int), (cA_24, .int), (cA_26, .int)] s := hK
  refine W.widen (k := 13) (n := 4340) (Nat.le_of_ble_eq_true rfl) (Nat.le_of_ble_eq_true rfl) ?_
  refine va_putF (D := (dC, dI)) (ci := 12) (v := .ref q_25) (ty := .array .int) (C := RX12) (T := TX12) (N := 32) hx hb hT iX12 tyX12 tyX12_ok nmX12 hown hK hP hD hS 0 rfl rfl 24 (by decide) (hT _ w1106) (fun _ h9 => h9) rfl hin rfl (by decide +kernel) rfl rfl (Nat.le_of_ble_eq_true rfl) dX12_init_114 (fun H locs hP hD hS => ?_)
  have hP : va_P (dC, dI) vwCl [(m0, .inr (12, [.ref q_1, .ref q_3, .ref q_5, .ref q_7, .ref q_9, .int 0, .int 0, .int 0, .int 0, .ref q_11, .int 0, .int 0, .int 0, .int 0, .int (-1), .int 0, .int 0, .ref q_13, .ref q_15, .int 0, .ref q_17, .ref q_19, .ref q_21, .ref q_23, .ref q_25, .null, .null, .null, .null, .null, .null, .int 0])), (q_1, .inl (cA_2, 266, .inl (fun _ => 0))), (q_3, .inl (cA_4, 266, .inl (fun _ => 0))), (q_5, .inl (cA_6, 2660, .inl (fun _ => 0))), (q_7, .inl (cA_8, 12, .inr (.inl (fun _ => 0)))), (q_9, .inl (cA_10, 12, .inr (.inl (fun _ => 0)))), (q_11, .inl (cA_12, 900, .inl (fun _ => 0))), (q_13, .inl (cA_14, 64, .inl (fun _ => 0))), (q_15, .inl (cA_16, 8, .inl (fun _ => 0))), (q_17, .inl (cA_18, 8, .inl (fun _ => 0))), (q_19, .inl (cA_20, 64, .inl (fun _ => 0))), (q_21, .inl (cA_22, 64, .inl (fun _ => 0))), (q_23, .inl (cA_24, 8, .inl (fun _ => 0))), (q_25, .inl (cA_26, 8, .inl (fun _ => 0)))] H := hP
  have hD : va_D A [(m0, .inr (12, [.ref q_1, .ref q_3, .ref q_5, .ref q_7, .ref q_9, .int 0, .int 0, .int 0, .int 0, .ref q_11, .int 0, .int 0, .int 0, .int 0, .int (-1), .int 0, .int 0, .ref q_13, .ref q_15, .int 0, .ref q_17, .ref q_19, .ref q_21, .ref q_23, .ref q_25, .null, .null, .null, .null, .null, .null, .int 0])), (q_1, .inl (cA_2, 266, .inl (fun _ => 0))), (q_3, .inl (cA_4, 266, .inl (fun _ => 0))), (q_5, .inl (cA_6, 2660, .inl (fun _ => 0))), (q_7, .inl (cA_8, 12, .inr (.inl (fun _ => 0)))), (q_9, .inl (cA_10, 12, .inr (.inl (fun _ => 0)))), (q_11, .inl (cA_12, 900, .inl (fun _ => 0))), (q_13, .inl (cA_14, 64, .inl (fun _ => 0))), (q_15, .inl (cA_16, 8, .inl (fun _ => 0))), (q_17, .inl (cA_18, 8, .inl (fun _ => 0))), (q_19, .inl (cA_20, 64, .inl (fun _ => 0))), (q_21, .inl (cA_22, 64, .inl (fun _ => 0))), (q_23, .inl (cA_24, 8, .inl (fun _ => 0))), (q_25, .inl (cA_26, 8, .inl (fun _ => 0)))] := hD
  refine lv_aload_n hx hb dX12_init_117 rfl (lv_at hl 0 rfl) ?_
  refine lv_bipush (v := 8) hx hb dX12_init_118 (by decide) ?_
  refine va_newa (atype := .int) (ty := .int) (a0 := (8, .inl (fun _ => 0))) (n := 8) (N' := 8) hx hb (hT _ w77) rfl hK hP hD hS hA (fun _ => rfl) (by decide) (by decide) (Nat.le_of_ble_eq_true rfl) (Nat.le_of_ble_eq_true rfl) (Nat.le_of_ble_eq_true rfl) dX12_init_120 (fun q_27 cA_28 H hK hP hD hS => ?_)
  have hP : va_P (dC, dI) vwCl [(m0, .inr (12, [.ref q_1, .ref q_3, .ref q_5, .ref q_7, .ref q_9, .int 0, .int 0, .int 0, .int 0, .ref q_11, .int 0, .int 0, .int 0, .int 0, .int (-1), .int 0, .int 0, .ref q_13, .ref q_15, .int 0, .ref q_17, .ref q_19, .ref q_21, .ref q_23, .ref q_25, .null, .null, .null, .null, .null, .null, .int 0])), (q_1, .inl (cA_2, 266, .inl (fun _ => 0))), (q_3, .inl (cA_4, 266, .inl (fun _ => 0))), (q_5, .inl (cA_6, 2660, .inl (fun _ => 0))), (q_7, .inl (cA_8, 12, .inr (.inl (fun _ => 0)))), (q_9, .inl (cA_10, 12, .inr (.inl (fun _ => 0)))), (q_11, .inl (cA_12, 900, .inl (fun _ => 0))), (q_13, .inl (cA_14, 64, .inl (fun _ => 0))), (q_15, .inl (cA_16, 8, .inl (fun _ => 0))), (q_17, .inl (cA_18, 8, .inl (fun _ => 0))), (q_19, .inl (cA_20, 64, .inl (fun _ => 0))), (q_21, .inl (cA_22, 64, .inl (fun _ => 0))), (q_23, .inl (cA_24, 8, .inl (fun _ => 0))), (q_25, .inl (cA_26, 8, .inl (fun _ => 0))), (q_27, .inl (cA_28, 8, .inl (fun _ => 0)))] H := hP
  have hD : va_D A [(m0, .inr (12, [.ref q_1, .ref q_3, .ref q_5, .ref q_7, .ref q_9, .int 0, .int 0, .int 0, .int 0, .ref q_11, .int 0, .int 0, .int 0, .int 0, .int (-1), .int 0, .int 0, .ref q_13, .ref q_15, .int 0, .ref q_17, .ref q_19, .ref q_21, .ref q_23, .ref q_25, .null, .null, .null, .null, .null, .null, .int 0])), (q_1, .inl (cA_2, 266, .inl (fun _ => 0))), (q_3, .inl (cA_4, 266, .inl (fun _ => 0))), (q_5, .inl (cA_6, 2660, .inl (fun _ => 0))), (q_7, .inl (cA_8, 12, .inr (.inl (fun _ => 0)))), (q_9, .inl (cA_10, 12, .inr (.inl (fun _ => 0)))), (q_11, .inl (cA_12, 900, .inl (fun _ => 0))), (q_13, .inl (cA_14, 64, .inl (fun _ => 0))), (q_15, .inl (cA_16, 8, .inl (fun _ => 0))), (q_17, .inl (cA_18, 8, .inl (fun _ => 0))), (q_19, .inl (cA_20, 64, .inl (fun _ => 0))), (q_21, .inl (cA_22, 64, .inl (fun _ => 0))), (q_23, .inl (cA_24, 8, .inl (fun _ => 0))), (q_25, .inl (cA_26, 8, .inl (fun _ => 0))), (q_27, .inl (cA_28, 8, .inl (fun _ => 0)))] := hD
  have hK : va_K (dC, dI) vwCl [(cA_2, .int), (cA_4, .int), (cA_6, .int), (cA_8, .long), (cA_10, .long), (cA_12, .byte), (cA_14, .int), (cA_16, .int), (cA_18, .int), (cA_20, .int), (cA_22, .int), (cA_24, .int), (cA_26, .int), (cA_28, .int)] s := hK
  refine W.widen (k := 14) (n := 4348) (Nat.le_of_ble_eq_true rfl) (Nat.le_of_ble_eq_true rfl) ?_
  refine va_putF (D := (dC, dI)) (ci := 12) (v := .ref q_27) (ty := .array .int) (C := RX12) (T := TX12) (N := 32) hx hb hT iX12 tyX12 tyX12_ok nmX12 hown hK hP hD hS 0 rfl rfl 25 (by decide) (hT _ w1107) (fun _ h9 => h9) rfl hin rfl (by decide +kernel) rfl rfl (Nat.le_of_ble_eq_true rfl) dX12_init_122 (fun H locs hP hD hS => ?_)
  have hP : va_P (dC, dI) vwCl [(m0, .inr (12, [.ref q_1, .ref q_3, .ref q_5, .ref q_7, .ref q_9, .int 0, .int 0, .int 0, .int 0, .ref q_11, .int 0, .int 0, .int 0, .int 0, .int (-1), .int 0, .int 0, .ref q_13, .ref q_15, .int 0, .ref q_17, .ref q_19, .ref q_21, .ref q_23, .ref q_25, .ref q_27, .null, .null, .null, .null, .null, .int 0])), (q_1, .inl (cA_2, 266, .inl (fun _ => 0))), (q_3, .inl (cA_4, 266, .inl (fun _ => 0))), (q_5, .inl (cA_6, 2660, .inl (fun _ => 0))), (q_7, .inl (cA_8, 12, .inr (.inl (fun _ => 0)))), (q_9, .inl (cA_10, 12, .inr (.inl (fun _ => 0)))), (q_11, .inl (cA_12, 900, .inl (fun _ => 0))), (q_13, .inl (cA_14, 64, .inl (fun _ => 0))), (q_15, .inl (cA_16, 8, .inl (fun _ => 0))), (q_17, .inl (cA_18, 8, .inl (fun _ => 0))), (q_19, .inl (cA_20, 64, .inl (fun _ => 0))), (q_21, .inl (cA_22, 64, .inl (fun _ => 0))), (q_23, .inl (cA_24, 8, .inl (fun _ => 0))), (q_25, .inl (cA_26, 8, .inl (fun _ => 0))), (q_27, .inl (cA_28, 8, .inl (fun _ => 0)))] H := hP
  have hD : va_D A [(m0, .inr (12, [.ref q_1, .ref q_3, .ref q_5, .ref q_7, .ref q_9, .int 0, .int 0, .int 0, .int 0, .ref q_11, .int 0, .int 0, .int 0, .int 0, .int (-1), .int 0, .int 0, .ref q_13, .ref q_15, .int 0, .ref q_17, .ref q_19, .ref q_21, .ref q_23, .ref q_25, .ref q_27, .null, .null, .null, .null, .null, .int 0])), (q_1, .inl (cA_2, 266, .inl (fun _ => 0))), (q_3, .inl (cA_4, 266, .inl (fun _ => 0))), (q_5, .inl (cA_6, 2660, .inl (fun _ => 0))), (q_7, .inl (cA_8, 12, .inr (.inl (fun _ => 0)))), (q_9, .inl (cA_10, 12, .inr (.inl (fun _ => 0)))), (q_11, .inl (cA_12, 900, .inl (fun _ => 0))), (q_13, .inl (cA_14, 64, .inl (fun _ => 0))), (q_15, .inl (cA_16, 8, .inl (fun _ => 0))), (q_17, .inl (cA_18, 8, .inl (fun _ => 0))), (q_19, .inl (cA_20, 64, .inl (fun _ => 0))), (q_21, .inl (cA_22, 64, .inl (fun _ => 0))), (q_23, .inl (cA_24, 8, .inl (fun _ => 0))), (q_25, .inl (cA_26, 8, .inl (fun _ => 0))), (q_27, .inl (cA_28, 8, .inl (fun _ => 0)))] := hD
  refine lv_aload_n hx hb dX12_init_125 rfl (lv_at hl 0 rfl) ?_
  refine lv_bipush (v := 64) hx hb dX12_init_126 (by decide) ?_
  refine va_newa (atype := .boolean) (ty := .boolean) (a0 := (64, .inl (fun _ => 0))) (n := 64) (N' := 64) hx hb (hT _ w138) rfl hK hP hD hS hA (fun _ => rfl) (by decide) (by decide) (Nat.le_of_ble_eq_true rfl) (Nat.le_of_ble_eq_true rfl) (Nat.le_of_ble_eq_true rfl) dX12_init_128 (fun q_29 cA_30 H hK hP hD hS => ?_)
  have hP : va_P (dC, dI) vwCl [(m0, .inr (12, [.ref q_1, .ref q_3, .ref q_5, .ref q_7, .ref q_9, .int 0, .int 0, .int 0, .int 0, .ref q_11, .int 0, .int 0, .int 0, .int 0, .int (-1), .int 0, .int 0, .ref q_13, .ref q_15, .int 0, .ref q_17, .ref q_19, .ref q_21, .ref q_23, .ref q_25, .ref q_27, .null, .null, .null, .null, .null, .int 0])), (q_1, .inl (cA_2, 266, .inl (fun _ => 0))), (q_3, .inl (cA_4, 266, .inl (fun _ => 0))), (q_5, .inl (cA_6, 2660, .inl (fun _ => 0))), (q_7, .inl (cA_8, 12, .inr (.inl (fun _ => 0)))), (q_9, .inl (cA_10, 12, .inr (.inl (fun _ => 0)))), (q_11, .inl (cA_12, 900, .inl (fun _ => 0))), (q_13, .inl (cA_14, 64, .inl (fun _ => 0))), (q_15, .inl (cA_16, 8, .inl (fun _ => 0))), (q_17, .inl (cA_18, 8, .inl (fun _ => 0))), (q_19, .inl (cA_20, 64, .inl (fun _ => 0))), (q_21, .inl (cA_22, 64, .inl (fun _ => 0))), (q_23, .inl (cA_24, 8, .inl (fun _ => 0))), (q_25, .inl (cA_26, 8, .inl (fun _ => 0))), (q_27, .inl (cA_28, 8, .inl (fun _ => 0))), (q_29, .inl (cA_30, 64, .inl (fun _ => 0)))] H := hP
  have hD : va_D A [(m0, .inr (12, [.ref q_1, .ref q_3, .ref q_5, .ref q_7, .ref q_9, .int 0, .int 0, .int 0, .int 0, .ref q_11, .int 0, .int 0, .int 0, .int 0, .int (-1), .int 0, .int 0, .ref q_13, .ref q_15, .int 0, .ref q_17, .ref q_19, .ref q_21, .ref q_23, .ref q_25, .ref q_27, .null, .null, .null, .null, .null, .int 0])), (q_1, .inl (cA_2, 266, .inl (fun _ => 0))), (q_3, .inl (cA_4, 266, .inl (fun _ => 0))), (q_5, .inl (cA_6, 2660, .inl (fun _ => 0))), (q_7, .inl (cA_8, 12, .inr (.inl (fun _ => 0)))), (q_9, .inl (cA_10, 12, .inr (.inl (fun _ => 0)))), (q_11, .inl (cA_12, 900, .inl (fun _ => 0))), (q_13, .inl (cA_14, 64, .inl (fun _ => 0))), (q_15, .inl (cA_16, 8, .inl (fun _ => 0))), (q_17, .inl (cA_18, 8, .inl (fun _ => 0))), (q_19, .inl (cA_20, 64, .inl (fun _ => 0))), (q_21, .inl (cA_22, 64, .inl (fun _ => 0))), (q_23, .inl (cA_24, 8, .inl (fun _ => 0))), (q_25, .inl (cA_26, 8, .inl (fun _ => 0))), (q_27, .inl (cA_28, 8, .inl (fun _ => 0))), (q_29, .inl (cA_30, 64, .inl (fun _ => 0)))] := hD
  have hK : va_K (dC, dI) vwCl [(cA_2, .int), (cA_4, .int), (cA_6, .int), (cA_8, .long), (cA_10, .long), (cA_12, .byte), (cA_14, .int), (cA_16, .int), (cA_18, .int), (cA_20, .int), (cA_22, .int), (cA_24, .int), (cA_26, .int), (cA_28, .int), (cA_30, .boolean)] s := hK
  refine W.widen (k := 15) (n := 4412) (Nat.le_of_ble_eq_true rfl) (Nat.le_of_ble_eq_true rfl) ?_
  refine va_putF (D := (dC, dI)) (ci := 12) (v := .ref q_29) (ty := .array .boolean) (C := RX12) (T := TX12) (N := 32) hx hb hT iX12 tyX12 tyX12_ok nmX12 hown hK hP hD hS 0 rfl rfl 26 (by decide) (hT _ w1108) (fun _ h9 => h9) rfl hin rfl (by decide +kernel) rfl rfl (Nat.le_of_ble_eq_true rfl) dX12_init_130 (fun H locs hP hD hS => ?_)
  have hP : va_P (dC, dI) vwCl [(m0, .inr (12, [.ref q_1, .ref q_3, .ref q_5, .ref q_7, .ref q_9, .int 0, .int 0, .int 0, .int 0, .ref q_11, .int 0, .int 0, .int 0, .int 0, .int (-1), .int 0, .int 0, .ref q_13, .ref q_15, .int 0, .ref q_17, .ref q_19, .ref q_21, .ref q_23, .ref q_25, .ref q_27, .ref q_29, .null, .null, .null, .null, .int 0])), (q_1, .inl (cA_2, 266, .inl (fun _ => 0))), (q_3, .inl (cA_4, 266, .inl (fun _ => 0))), (q_5, .inl (cA_6, 2660, .inl (fun _ => 0))), (q_7, .inl (cA_8, 12, .inr (.inl (fun _ => 0)))), (q_9, .inl (cA_10, 12, .inr (.inl (fun _ => 0)))), (q_11, .inl (cA_12, 900, .inl (fun _ => 0))), (q_13, .inl (cA_14, 64, .inl (fun _ => 0))), (q_15, .inl (cA_16, 8, .inl (fun _ => 0))), (q_17, .inl (cA_18, 8, .inl (fun _ => 0))), (q_19, .inl (cA_20, 64, .inl (fun _ => 0))), (q_21, .inl (cA_22, 64, .inl (fun _ => 0))), (q_23, .inl (cA_24, 8, .inl (fun _ => 0))), (q_25, .inl (cA_26, 8, .inl (fun _ => 0))), (q_27, .inl (cA_28, 8, .inl (fun _ => 0))), (q_29, .inl (cA_30, 64, .inl (fun _ => 0)))] H := hP
  have hD : va_D A [(m0, .inr (12, [.ref q_1, .ref q_3, .ref q_5, .ref q_7, .ref q_9, .int 0, .int 0, .int 0, .int 0, .ref q_11, .int 0, .int 0, .int 0, .int 0, .int (-1), .int 0, .int 0, .ref q_13, .ref q_15, .int 0, .ref q_17, .ref q_19, .ref q_21, .ref q_23, .ref q_25, .ref q_27, .ref q_29, .null, .null, .null, .null, .int 0])), (q_1, .inl (cA_2, 266, .inl (fun _ => 0))), (q_3, .inl (cA_4, 266, .inl (fun _ => 0))), (q_5, .inl (cA_6, 2660, .inl (fun _ => 0))), (q_7, .inl (cA_8, 12, .inr (.inl (fun _ => 0)))), (q_9, .inl (cA_10, 12, .inr (.inl (fun _ => 0)))), (q_11, .inl (cA_12, 900, .inl (fun _ => 0))), (q_13, .inl (cA_14, 64, .inl (fun _ => 0))), (q_15, .inl (cA_16, 8, .inl (fun _ => 0))), (q_17, .inl (cA_18, 8, .inl (fun _ => 0))), (q_19, .inl (cA_20, 64, .inl (fun _ => 0))), (q_21, .inl (cA_22, 64, .inl (fun _ => 0))), (q_23, .inl (cA_24, 8, .inl (fun _ => 0))), (q_25, .inl (cA_26, 8, .inl (fun _ => 0))), (q_27, .inl (cA_28, 8, .inl (fun _ => 0))), (q_29, .inl (cA_30, 64, .inl (fun _ => 0)))] := hD
  refine lv_aload_n hx hb dX12_init_133 rfl (lv_at hl 0 rfl) ?_
  refine lv_bipush (v := 16) hx hb dX12_init_134 (by decide) ?_
  refine va_newa (atype := .int) (ty := .int) (a0 := (16, .inl (fun _ => 0))) (n := 16) (N' := 16) hx hb (hT _ w77) rfl hK hP hD hS hA (fun _ => rfl) (by decide) (by decide) (Nat.le_of_ble_eq_true rfl) (Nat.le_of_ble_eq_true rfl) (Nat.le_of_ble_eq_true rfl) dX12_init_136 (fun q_31 cA_32 H hK hP hD hS => ?_)
  have hP : va_P (dC, dI) vwCl [(m0, .inr (12, [.ref q_1, .ref q_3, .ref q_5, .ref q_7, .ref q_9, .int 0, .int 0, .int 0, .int 0, .ref q_11, .int 0, .int 0, .int 0, .int 0, .int (-1), .int 0, .int 0, .ref q_13, .ref q_15, .int 0, .ref q_17, .ref q_19, .ref q_21, .ref q_23, .ref q_25, .ref q_27, .ref q_29, .null, .null, .null, .null, .int 0])), (q_1, .inl (cA_2, 266, .inl (fun _ => 0))), (q_3, .inl (cA_4, 266, .inl (fun _ => 0))), (q_5, .inl (cA_6, 2660, .inl (fun _ => 0))), (q_7, .inl (cA_8, 12, .inr (.inl (fun _ => 0)))), (q_9, .inl (cA_10, 12, .inr (.inl (fun _ => 0)))), (q_11, .inl (cA_12, 900, .inl (fun _ => 0))), (q_13, .inl (cA_14, 64, .inl (fun _ => 0))), (q_15, .inl (cA_16, 8, .inl (fun _ => 0))), (q_17, .inl (cA_18, 8, .inl (fun _ => 0))), (q_19, .inl (cA_20, 64, .inl (fun _ => 0))), (q_21, .inl (cA_22, 64, .inl (fun _ => 0))), (q_23, .inl (cA_24, 8, .inl (fun _ => 0))), (q_25, .inl (cA_26, 8, .inl (fun _ => 0))), (q_27, .inl (cA_28, 8, .inl (fun _ => 0))), (q_29, .inl (cA_30, 64, .inl (fun _ => 0))), (q_31, .inl (cA_32, 16, .inl (fun _ => 0)))] H := hP
  have hD : va_D A [(m0, .inr (12, [.ref q_1, .ref q_3, .ref q_5, .ref q_7, .ref q_9, .int 0, .int 0, .int 0, .int 0, .ref q_11, .int 0, .int 0, .int 0, .int 0, .int (-1), .int 0, .int 0, .ref q_13, .ref q_15, .int 0, .ref q_17, .ref q_19, .ref q_21, .ref q_23, .ref q_25, .ref q_27, .ref q_29, .null, .null, .null, .null, .int 0])), (q_1, .inl (cA_2, 266, .inl (fun _ => 0))), (q_3, .inl (cA_4, 266, .inl (fun _ => 0))), (q_5, .inl (cA_6, 2660, .inl (fun _ => 0))), (q_7, .inl (cA_8, 12, .inr (.inl (fun _ => 0)))), (q_9, .inl (cA_10, 12, .inr (.inl (fun _ => 0)))), (q_11, .inl (cA_12, 900, .inl (fun _ => 0))), (q_13, .inl (cA_14, 64, .inl (fun _ => 0))), (q_15, .inl (cA_16, 8, .inl (fun _ => 0))), (q_17, .inl (cA_18, 8, .inl (fun _ => 0))), (q_19, .inl (cA_20, 64, .inl (fun _ => 0))), (q_21, .inl (cA_22, 64, .inl (fun _ => 0))), (q_23, .inl (cA_24, 8, .inl (fun _ => 0))), (q_25, .inl (cA_26, 8, .inl (fun _ => 0))), (q_27, .inl (cA_28, 8, .inl (fun _ => 0))), (q_29, .inl (cA_30, 64, .inl (fun _ => 0))), (q_31, .inl (cA_32, 16, .inl (fun _ => 0)))] := hD
  have hK : va_K (dC, dI) vwCl [(cA_2, .int), (cA_4, .int), (cA_6, .int), (cA_8, .long), (cA_10, .long), (cA_12, .byte), (cA_14, .int), (cA_16, .int), (cA_18, .int), (cA_20, .int), (cA_22, .int), (cA_24, .int), (cA_26, .int), (cA_28, .int), (cA_30, .boolean), (cA_32, .int)] s := hK
  refine W.widen (k := 16) (n := 4428) (Nat.le_of_ble_eq_true rfl) (Nat.le_of_ble_eq_true rfl) ?_
  refine va_putF (D := (dC, dI)) (ci := 12) (v := .ref q_31) (ty := .array .int) (C := RX12) (T := TX12) (N := 32) hx hb hT iX12 tyX12 tyX12_ok nmX12 hown hK hP hD hS 0 rfl rfl 27 (by decide) (hT _ w1109) (fun _ h9 => h9) rfl hin rfl (by decide +kernel) rfl rfl (Nat.le_of_ble_eq_true rfl) dX12_init_138 (fun H locs hP hD hS => ?_)
  have hP : va_P (dC, dI) vwCl [(m0, .inr (12, [.ref q_1, .ref q_3, .ref q_5, .ref q_7, .ref q_9, .int 0, .int 0, .int 0, .int 0, .ref q_11, .int 0, .int 0, .int 0, .int 0, .int (-1), .int 0, .int 0, .ref q_13, .ref q_15, .int 0, .ref q_17, .ref q_19, .ref q_21, .ref q_23, .ref q_25, .ref q_27, .ref q_29, .ref q_31, .null, .null, .null, .int 0])), (q_1, .inl (cA_2, 266, .inl (fun _ => 0))), (q_3, .inl (cA_4, 266, .inl (fun _ => 0))), (q_5, .inl (cA_6, 2660, .inl (fun _ => 0))), (q_7, .inl (cA_8, 12, .inr (.inl (fun _ => 0)))), (q_9, .inl (cA_10, 12, .inr (.inl (fun _ => 0)))), (q_11, .inl (cA_12, 900, .inl (fun _ => 0))), (q_13, .inl (cA_14, 64, .inl (fun _ => 0))), (q_15, .inl (cA_16, 8, .inl (fun _ => 0))), (q_17, .inl (cA_18, 8, .inl (fun _ => 0))), (q_19, .inl (cA_20, 64, .inl (fun _ => 0))), (q_21, .inl (cA_22, 64, .inl (fun _ => 0))), (q_23, .inl (cA_24, 8, .inl (fun _ => 0))), (q_25, .inl (cA_26, 8, .inl (fun _ => 0))), (q_27, .inl (cA_28, 8, .inl (fun _ => 0))), (q_29, .inl (cA_30, 64, .inl (fun _ => 0))), (q_31, .inl (cA_32, 16, .inl (fun _ => 0)))] H := hP
  have hD : va_D A [(m0, .inr (12, [.ref q_1, .ref q_3, .ref q_5, .ref q_7, .ref q_9, .int 0, .int 0, .int 0, .int 0, .ref q_11, .int 0, .int 0, .int 0, .int 0, .int (-1), .int 0, .int 0, .ref q_13, .ref q_15, .int 0, .ref q_17, .ref q_19, .ref q_21, .ref q_23, .ref q_25, .ref q_27, .ref q_29, .ref q_31, .null, .null, .null, .int 0])), (q_1, .inl (cA_2, 266, .inl (fun _ => 0))), (q_3, .inl (cA_4, 266, .inl (fun _ => 0))), (q_5, .inl (cA_6, 2660, .inl (fun _ => 0))), (q_7, .inl (cA_8, 12, .inr (.inl (fun _ => 0)))), (q_9, .inl (cA_10, 12, .inr (.inl (fun _ => 0)))), (q_11, .inl (cA_12, 900, .inl (fun _ => 0))), (q_13, .inl (cA_14, 64, .inl (fun _ => 0))), (q_15, .inl (cA_16, 8, .inl (fun _ => 0))), (q_17, .inl (cA_18, 8, .inl (fun _ => 0))), (q_19, .inl (cA_20, 64, .inl (fun _ => 0))), (q_21, .inl (cA_22, 64, .inl (fun _ => 0))), (q_23, .inl (cA_24, 8, .inl (fun _ => 0))), (q_25, .inl (cA_26, 8, .inl (fun _ => 0))), (q_27, .inl (cA_28, 8, .inl (fun _ => 0))), (q_29, .inl (cA_30, 64, .inl (fun _ => 0))), (q_31, .inl (cA_32, 16, .inl (fun _ => 0)))] := hD
  refine lv_aload_n hx hb dX12_init_141 rfl (lv_at hl 0 rfl) ?_
  refine lv_bipush (v := 16) hx hb dX12_init_142 (by decide) ?_
  refine va_newa (atype := .int) (ty := .int) (a0 := (16, .inl (fun _ => 0))) (n := 16) (N' := 16) hx hb (hT _ w77) rfl hK hP hD hS hA (fun _ => rfl) (by decide) (by decide) (Nat.le_of_ble_eq_true rfl) (Nat.le_of_ble_eq_true rfl) (Nat.le_of_ble_eq_true rfl) dX12_init_144 (fun q_33 cA_34 H hK hP hD hS => ?_)
  have hP : va_P (dC, dI) vwCl [(m0, .inr (12, [.ref q_1, .ref q_3, .ref q_5, .ref q_7, .ref q_9, .int 0, .int 0, .int 0, .int 0, .ref q_11, .int 0, .int 0, .int 0, .int 0, .int (-1), .int 0, .int 0, .ref q_13, .ref q_15, .int 0, .ref q_17, .ref q_19, .ref q_21, .ref q_23, .ref q_25, .ref q_27, .ref q_29, .ref q_31, .null, .null, .null, .int 0])), (q_1, .inl (cA_2, 266, .inl (fun _ => 0))), (q_3, .inl (cA_4, 266, .inl (fun _ => 0))), (q_5, .inl (cA_6, 2660, .inl (fun _ => 0))), (q_7, .inl (cA_8, 12, .inr (.inl (fun _ => 0)))), (q_9, .inl (cA_10, 12, .inr (.inl (fun _ => 0)))), (q_11, .inl (cA_12, 900, .inl (fun _ => 0))), (q_13, .inl (cA_14, 64, .inl (fun _ => 0))), (q_15, .inl (cA_16, 8, .inl (fun _ => 0))), (q_17, .inl (cA_18, 8, .inl (fun _ => 0))), (q_19, .inl (cA_20, 64, .inl (fun _ => 0))), (q_21, .inl (cA_22, 64, .inl (fun _ => 0))), (q_23, .inl (cA_24, 8, .inl (fun _ => 0))), (q_25, .inl (cA_26, 8, .inl (fun _ => 0))), (q_27, .inl (cA_28, 8, .inl (fun _ => 0))), (q_29, .inl (cA_30, 64, .inl (fun _ => 0))), (q_31, .inl (cA_32, 16, .inl (fun _ => 0))), (q_33, .inl (cA_34, 16, .inl (fun _ => 0)))] H := hP
  have hD : va_D A [(m0, .inr (12, [.ref q_1, .ref q_3, .ref q_5, .ref q_7, .ref q_9, .int 0, .int 0, .int 0, .int 0, .ref q_11, .int 0, .int 0, .int 0, .int 0, .int (-1), .int 0, .int 0, .ref q_13, .ref q_15, .int 0, .ref q_17, .ref q_19, .ref q_21, .ref q_23, .ref q_25, .ref q_27, .ref q_29, .ref q_31, .null, .null, .null, .int 0])), (q_1, .inl (cA_2, 266, .inl (fun _ => 0))), (q_3, .inl (cA_4, 266, .inl (fun _ => 0))), (q_5, .inl (cA_6, 2660, .inl (fun _ => 0))), (q_7, .inl (cA_8, 12, .inr (.inl (fun _ => 0)))), (q_9, .inl (cA_10, 12, .inr (.inl (fun _ => 0)))), (q_11, .inl (cA_12, 900, .inl (fun _ => 0))), (q_13, .inl (cA_14, 64, .inl (fun _ => 0))), (q_15, .inl (cA_16, 8, .inl (fun _ => 0))), (q_17, .inl (cA_18, 8, .inl (fun _ => 0))), (q_19, .inl (cA_20, 64, .inl (fun _ => 0))), (q_21, .inl (cA_22, 64, .inl (fun _ => 0))), (q_23, .inl (cA_24, 8, .inl (fun _ => 0))), (q_25, .inl (cA_26, 8, .inl (fun _ => 0))), (q_27, .inl (cA_28, 8, .inl (fun _ => 0))), (q_29, .inl (cA_30, 64, .inl (fun _ => 0))), (q_31, .inl (cA_32, 16, .inl (fun _ => 0))), (q_33, .inl (cA_34, 16, .inl (fun _ => 0)))] := hD
  have hK : va_K (dC, dI) vwCl [(cA_2, .int), (cA_4, .int), (cA_6, .int), (cA_8, .long), (cA_10, .long), (cA_12, .byte), (cA_14, .int), (cA_16, .int), (cA_18, .int), (cA_20, .int), (cA_22, .int), (cA_24, .int), (cA_26, .int), (cA_28, .int), (cA_30, .boolean), (cA_32, .int), (cA_34, .int)] s := hK
  refine W.widen (k := 17) (n := 4444) (Nat.le_of_ble_eq_true rfl) (Nat.le_of_ble_eq_true rfl) ?_
  refine va_putF (D := (dC, dI)) (ci := 12) (v := .ref q_33) (ty := .array .int) (C := RX12) (T := TX12) (N := 32) hx hb hT iX12 tyX12 tyX12_ok nmX12 hown hK hP hD hS 0 rfl rfl 28 (by decide) (hT _ w1110) (fun _ h9 => h9) rfl hin rfl (by decide +kernel) rfl rfl (Nat.le_of_ble_eq_true rfl) dX12_init_146 (fun H locs hP hD hS => ?_)
  have hP : va_P (dC, dI) vwCl [(m0, .inr (12, [.ref q_1, .ref q_3, .ref q_5, .ref q_7, .ref q_9, .int 0, .int 0, .int 0, .int 0, .ref q_11, .int 0, .int 0, .int 0, .int 0, .int (-1), .int 0, .int 0, .ref q_13, .ref q_15, .int 0, .ref q_17, .ref q_19, .ref q_21, .ref q_23, .ref q_25, .ref q_27, .ref q_29, .ref q_31, .ref q_33, .null, .null, .int 0])), (q_1, .inl (cA_2, 266, .inl (fun _ => 0))), (q_3, .inl (cA_4, 266, .inl (fun _ => 0))), (q_5, .inl (cA_6, 2660, .inl (fun _ => 0))), (q_7, .inl (cA_8, 12, .inr (.inl (fun _ => 0)))), (q_9, .inl (cA_10, 12, .inr (.inl (fun _ => 0)))), (q_11, .inl (cA_12, 900, .inl (fun _ => 0))), (q_13, .inl (cA_14, 64, .inl (fun _ => 0))), (q_15, .inl (cA_16, 8, .inl (fun _ => 0))), (q_17, .inl (cA_18, 8, .inl (fun _ => 0))), (q_19, .inl (cA_20, 64, .inl (fun _ => 0))), (q_21, .inl (cA_22, 64, .inl (fun _ => 0))), (q_23, .inl (cA_24, 8, .inl (fun _ => 0))), (q_25, .inl (cA_26, 8, .inl (fun _ => 0))), (q_27, .inl (cA_28, 8, .inl (fun _ => 0))), (q_29, .inl (cA_30, 64, .inl (fun _ => 0))), (q_31, .inl (cA_32, 16, .inl (fun _ => 0))), (q_33, .inl (cA_34, 16, .inl (fun _ => 0)))] H := hP
  have hD : va_D A [(m0, .inr (12, [.ref q_1, .ref q_3, .ref q_5, .ref q_7, .ref q_9, .int 0, .int 0, .int 0, .int 0, .ref q_11, .int 0, .int 0, .int 0, .int 0, .int (-1), .int 0, .int 0, .ref q_13, .ref q_15, .int 0, .ref q_17, .ref q_19, .ref q_21, .ref q_23, .ref q_25, .ref q_27, .ref q_29, .ref q_31, .ref q_33, .null, .null, .int 0])), (q_1, .inl (cA_2, 266, .inl (fun _ => 0))), (q_3, .inl (cA_4, 266, .inl (fun _ => 0))), (q_5, .inl (cA_6, 2660, .inl (fun _ => 0))), (q_7, .inl (cA_8, 12, .inr (.inl (fun _ => 0)))), (q_9, .inl (cA_10, 12, .inr (.inl (fun _ => 0)))), (q_11, .inl (cA_12, 900, .inl (fun _ => 0))), (q_13, .inl (cA_14, 64, .inl (fun _ => 0))), (q_15, .inl (cA_16, 8, .inl (fun _ => 0))), (q_17, .inl (cA_18, 8, .inl (fun _ => 0))), (q_19, .inl (cA_20, 64, .inl (fun _ => 0))), (q_21, .inl (cA_22, 64, .inl (fun _ => 0))), (q_23, .inl (cA_24, 8, .inl (fun _ => 0))), (q_25, .inl (cA_26, 8, .inl (fun _ => 0))), (q_27, .inl (cA_28, 8, .inl (fun _ => 0))), (q_29, .inl (cA_30, 64, .inl (fun _ => 0))), (q_31, .inl (cA_32, 16, .inl (fun _ => 0))), (q_33, .inl (cA_34, 16, .inl (fun _ => 0)))] := hD
  refine lv_aload_n hx hb dX12_init_149 rfl (lv_at hl 0 rfl) ?_
  refine lv_sipush (v := 256) hx hb dX12_init_150 (by decide) ?_
  refine va_newa (atype := .int) (ty := .int) (a0 := (256, .inl (fun _ => 0))) (n := 256) (N' := 256) hx hb (hT _ w77) rfl hK hP hD hS hA (fun _ => rfl) (by decide) (by decide) (Nat.le_of_ble_eq_true rfl) (Nat.le_of_ble_eq_true rfl) (Nat.le_of_ble_eq_true rfl) dX12_init_153 (fun q_35 cA_36 H hK hP hD hS => ?_)
  have hP : va_P (dC, dI) vwCl [(m0, .inr (12, [.ref q_1, .ref q_3, .ref q_5, .ref q_7, .ref q_9, .int 0, .int 0, .int 0, .int 0, .ref q_11, .int 0, .int 0, .int 0, .int 0, .int (-1), .int 0, .int 0, .ref q_13, .ref q_15, .int 0, .ref q_17, .ref q_19, .ref q_21, .ref q_23, .ref q_25, .ref q_27, .ref q_29, .ref q_31, .ref q_33, .null, .null, .int 0])), (q_1, .inl (cA_2, 266, .inl (fun _ => 0))), (q_3, .inl (cA_4, 266, .inl (fun _ => 0))), (q_5, .inl (cA_6, 2660, .inl (fun _ => 0))), (q_7, .inl (cA_8, 12, .inr (.inl (fun _ => 0)))), (q_9, .inl (cA_10, 12, .inr (.inl (fun _ => 0)))), (q_11, .inl (cA_12, 900, .inl (fun _ => 0))), (q_13, .inl (cA_14, 64, .inl (fun _ => 0))), (q_15, .inl (cA_16, 8, .inl (fun _ => 0))), (q_17, .inl (cA_18, 8, .inl (fun _ => 0))), (q_19, .inl (cA_20, 64, .inl (fun _ => 0))), (q_21, .inl (cA_22, 64, .inl (fun _ => 0))), (q_23, .inl (cA_24, 8, .inl (fun _ => 0))), (q_25, .inl (cA_26, 8, .inl (fun _ => 0))), (q_27, .inl (cA_28, 8, .inl (fun _ => 0))), (q_29, .inl (cA_30, 64, .inl (fun _ => 0))), (q_31, .inl (cA_32, 16, .inl (fun _ => 0))), (q_33, .inl (cA_34, 16, .inl (fun _ => 0))), (q_35, .inl (cA_36, 256, .inl (fun _ => 0)))] H := hP
  have hD : va_D A [(m0, .inr (12, [.ref q_1, .ref q_3, .ref q_5, .ref q_7, .ref q_9, .int 0, .int 0, .int 0, .int 0, .ref q_11, .int 0, .int 0, .int 0, .int 0, .int (-1), .int 0, .int 0, .ref q_13, .ref q_15, .int 0, .ref q_17, .ref q_19, .ref q_21, .ref q_23, .ref q_25, .ref q_27, .ref q_29, .ref q_31, .ref q_33, .null, .null, .int 0])), (q_1, .inl (cA_2, 266, .inl (fun _ => 0))), (q_3, .inl (cA_4, 266, .inl (fun _ => 0))), (q_5, .inl (cA_6, 2660, .inl (fun _ => 0))), (q_7, .inl (cA_8, 12, .inr (.inl (fun _ => 0)))), (q_9, .inl (cA_10, 12, .inr (.inl (fun _ => 0)))), (q_11, .inl (cA_12, 900, .inl (fun _ => 0))), (q_13, .inl (cA_14, 64, .inl (fun _ => 0))), (q_15, .inl (cA_16, 8, .inl (fun _ => 0))), (q_17, .inl (cA_18, 8, .inl (fun _ => 0))), (q_19, .inl (cA_20, 64, .inl (fun _ => 0))), (q_21, .inl (cA_22, 64, .inl (fun _ => 0))), (q_23, .inl (cA_24, 8, .inl (fun _ => 0))), (q_25, .inl (cA_26, 8, .inl (fun _ => 0))), (q_27, .inl (cA_28, 8, .inl (fun _ => 0))), (q_29, .inl (cA_30, 64, .inl (fun _ => 0))), (q_31, .inl (cA_32, 16, .inl (fun _ => 0))), (q_33, .inl (cA_34, 16, .inl (fun _ => 0))), (q_35, .inl (cA_36, 256, .inl (fun _ => 0)))] := hD
  have hK : va_K (dC, dI) vwCl [(cA_2, .int), (cA_4, .int), (cA_6, .int), (cA_8, .long), (cA_10, .long), (cA_12, .byte), (cA_14, .int), (cA_16, .int), (cA_18, .int), (cA_20, .int), (cA_22, .int), (cA_24, .int), (cA_26, .int), (cA_28, .int), (cA_30, .boolean), (cA_32, .int), (cA_34, .int), (cA_36, .int)] s := hK
  refine W.widen (k := 18) (n := 4700) (Nat.le_of_ble_eq_true rfl) (Nat.le_of_ble_eq_true rfl) ?_
  refine va_putF (D := (dC, dI)) (ci := 12) (v := .ref q_35) (ty := .array .int) (C := RX12) (T := TX12) (N := 32) hx hb hT iX12 tyX12 tyX12_ok nmX12 hown hK hP hD hS 0 rfl rfl 29 (by decide) (hT _ w1111) (fun _ h9 => h9) rfl hin rfl (by decide +kernel) rfl rfl (Nat.le_of_ble_eq_true rfl) dX12_init_155 (fun H locs hP hD hS => ?_)
  have hP : va_P (dC, dI) vwCl [(m0, .inr (12, [.ref q_1, .ref q_3, .ref q_5, .ref q_7, .ref q_9, .int 0, .int 0, .int 0, .int 0, .ref q_11, .int 0, .int 0, .int 0, .int 0, .int (-1), .int 0, .int 0, .ref q_13, .ref q_15, .int 0, .ref q_17, .ref q_19, .ref q_21, .ref q_23, .ref q_25, .ref q_27, .ref q_29, .ref q_31, .ref q_33, .ref q_35, .null, .int 0])), (q_1, .inl (cA_2, 266, .inl (fun _ => 0))), (q_3, .inl (cA_4, 266, .inl (fun _ => 0))), (q_5, .inl (cA_6, 2660, .inl (fun _ => 0))), (q_7, .inl (cA_8, 12, .inr (.inl (fun _ => 0)))), (q_9, .inl (cA_10, 12, .inr (.inl (fun _ => 0)))), (q_11, .inl (cA_12, 900, .inl (fun _ => 0))), (q_13, .inl (cA_14, 64, .inl (fun _ => 0))), (q_15, .inl (cA_16, 8, .inl (fun _ => 0))), (q_17, .inl (cA_18, 8, .inl (fun _ => 0))), (q_19, .inl (cA_20, 64, .inl (fun _ => 0))), (q_21, .inl (cA_22, 64, .inl (fun _ => 0))), (q_23, .inl (cA_24, 8, .inl (fun _ => 0))), (q_25, .inl (cA_26, 8, .inl (fun _ => 0))), (q_27, .inl (cA_28, 8, .inl (fun _ => 0))), (q_29, .inl (cA_30, 64, .inl (fun _ => 0))), (q_31, .inl (cA_32, 16, .inl (fun _ => 0))), (q_33, .inl (cA_34, 16, .inl (fun _ => 0))), (q_35, .inl (cA_36, 256, .inl (fun _ => 0)))] H := hP
  have hD : va_D A [(m0, .inr (12, [.ref q_1, .ref q_3, .ref q_5, .ref q_7, .ref q_9, .int 0, .int 0, .int 0, .int 0, .ref q_11, .int 0, .int 0, .int 0, .int 0, .int (-1), .int 0, .int 0, .ref q_13, .ref q_15, .int 0, .ref q_17, .ref q_19, .ref q_21, .ref q_23, .ref q_25, .ref q_27, .ref q_29, .ref q_31, .ref q_33, .ref q_35, .null, .int 0])), (q_1, .inl (cA_2, 266, .inl (fun _ => 0))), (q_3, .inl (cA_4, 266, .inl (fun _ => 0))), (q_5, .inl (cA_6, 2660, .inl (fun _ => 0))), (q_7, .inl (cA_8, 12, .inr (.inl (fun _ => 0)))), (q_9, .inl (cA_10, 12, .inr (.inl (fun _ => 0)))), (q_11, .inl (cA_12, 900, .inl (fun _ => 0))), (q_13, .inl (cA_14, 64, .inl (fun _ => 0))), (q_15, .inl (cA_16, 8, .inl (fun _ => 0))), (q_17, .inl (cA_18, 8, .inl (fun _ => 0))), (q_19, .inl (cA_20, 64, .inl (fun _ => 0))), (q_21, .inl (cA_22, 64, .inl (fun _ => 0))), (q_23, .inl (cA_24, 8, .inl (fun _ => 0))), (q_25, .inl (cA_26, 8, .inl (fun _ => 0))), (q_27, .inl (cA_28, 8, .inl (fun _ => 0))), (q_29, .inl (cA_30, 64, .inl (fun _ => 0))), (q_31, .inl (cA_32, 16, .inl (fun _ => 0))), (q_33, .inl (cA_34, 16, .inl (fun _ => 0))), (q_35, .inl (cA_36, 256, .inl (fun _ => 0)))] := hD
  refine lv_aload_n hx hb dX12_init_158 rfl (lv_at hl 0 rfl) ?_
  refine lv_bipush (v := 48) hx hb dX12_init_159 (by decide) ?_
  refine va_newa (atype := .int) (ty := .int) (a0 := (48, .inl (fun _ => 0))) (n := 48) (N' := 48) hx hb (hT _ w77) rfl hK hP hD hS hA (fun _ => rfl) (by decide) (by decide) (Nat.le_of_ble_eq_true rfl) (Nat.le_of_ble_eq_true rfl) (Nat.le_of_ble_eq_true rfl) dX12_init_161 (fun q_37 cA_38 H hK hP hD hS => ?_)
  have hP : va_P (dC, dI) vwCl [(m0, .inr (12, [.ref q_1, .ref q_3, .ref q_5, .ref q_7, .ref q_9, .int 0, .int 0, .int 0, .int 0, .ref q_11, .int 0, .int 0, .int 0, .int 0, .int (-1), .int 0, .int 0, .ref q_13, .ref q_15, .int 0, .ref q_17, .ref q_19, .ref q_21, .ref q_23, .ref q_25, .ref q_27, .ref q_29, .ref q_31, .ref q_33, .ref q_35, .null, .int 0])), (q_1, .inl (cA_2, 266, .inl (fun _ => 0))), (q_3, .inl (cA_4, 266, .inl (fun _ => 0))), (q_5, .inl (cA_6, 2660, .inl (fun _ => 0))), (q_7, .inl (cA_8, 12, .inr (.inl (fun _ => 0)))), (q_9, .inl (cA_10, 12, .inr (.inl (fun _ => 0)))), (q_11, .inl (cA_12, 900, .inl (fun _ => 0))), (q_13, .inl (cA_14, 64, .inl (fun _ => 0))), (q_15, .inl (cA_16, 8, .inl (fun _ => 0))), (q_17, .inl (cA_18, 8, .inl (fun _ => 0))), (q_19, .inl (cA_20, 64, .inl (fun _ => 0))), (q_21, .inl (cA_22, 64, .inl (fun _ => 0))), (q_23, .inl (cA_24, 8, .inl (fun _ => 0))), (q_25, .inl (cA_26, 8, .inl (fun _ => 0))), (q_27, .inl (cA_28, 8, .inl (fun _ => 0))), (q_29, .inl (cA_30, 64, .inl (fun _ => 0))), (q_31, .inl (cA_32, 16, .inl (fun _ => 0))), (q_33, .inl (cA_34, 16, .inl (fun _ => 0))), (q_35, .inl (cA_36, 256, .inl (fun _ => 0))), (q_37, .inl (cA_38, 48, .inl (fun _ => 0)))] H := hP
  have hD : va_D A [(m0, .inr (12, [.ref q_1, .ref q_3, .ref q_5, .ref q_7, .ref q_9, .int 0, .int 0, .int 0, .int 0, .ref q_11, .int 0, .int 0, .int 0, .int 0, .int (-1), .int 0, .int 0, .ref q_13, .ref q_15, .int 0, .ref q_17, .ref q_19, .ref q_21, .ref q_23, .ref q_25, .ref q_27, .ref q_29, .ref q_31, .ref q_33, .ref q_35, .null, .int 0])), (q_1, .inl (cA_2, 266, .inl (fun _ => 0))), (q_3, .inl (cA_4, 266, .inl (fun _ => 0))), (q_5, .inl (cA_6, 2660, .inl (fun _ => 0))), (q_7, .inl (cA_8, 12, .inr (.inl (fun _ => 0)))), (q_9, .inl (cA_10, 12, .inr (.inl (fun _ => 0)))), (q_11, .inl (cA_12, 900, .inl (fun _ => 0))), (q_13, .inl (cA_14, 64, .inl (fun _ => 0))), (q_15, .inl (cA_16, 8, .inl (fun _ => 0))), (q_17, .inl (cA_18, 8, .inl (fun _ => 0))), (q_19, .inl (cA_20, 64, .inl (fun _ => 0))), (q_21, .inl (cA_22, 64, .inl (fun _ => 0))), (q_23, .inl (cA_24, 8, .inl (fun _ => 0))), (q_25, .inl (cA_26, 8, .inl (fun _ => 0))), (q_27, .inl (cA_28, 8, .inl (fun _ => 0))), (q_29, .inl (cA_30, 64, .inl (fun _ => 0))), (q_31, .inl (cA_32, 16, .inl (fun _ => 0))), (q_33, .inl (cA_34, 16, .inl (fun _ => 0))), (q_35, .inl (cA_36, 256, .inl (fun _ => 0))), (q_37, .inl (cA_38, 48, .inl (fun _ => 0)))] := hD
  have hK : va_K (dC, dI) vwCl [(cA_2, .int), (cA_4, .int), (cA_6, .int), (cA_8, .long), (cA_10, .long), (cA_12, .byte), (cA_14, .int), (cA_16, .int), (cA_18, .int), (cA_20, .int), (cA_22, .int), (cA_24, .int), (cA_26, .int), (cA_28, .int), (cA_30, .boolean), (cA_32, .int), (cA_34, .int), (cA_36, .int), (cA_38, .int)] s := hK
  refine W.widen (k := 19) (n := 4748) (Nat.le_of_ble_eq_true rfl) (Nat.le_of_ble_eq_true rfl) ?_
  refine va_putF (D := (dC, dI)) (ci := 12) (v := .ref q_37) (ty := .array .int) (C := RX12) (T := TX12) (N := 32) hx hb hT iX12 tyX12 tyX12_ok nmX12 hown hK hP hD hS 0 rfl rfl 30 (by decide) (hT _ w1112) (fun _ h9 => h9) rfl hin rfl (by decide +kernel) rfl rfl (Nat.le_of_ble_eq_true rfl) dX12_init_163 (fun H locs hP hD hS => ?_)
  have hP : va_P (dC, dI) vwCl [(m0, .inr (12, [.ref q_1, .ref q_3, .ref q_5, .ref q_7, .ref q_9, .int 0, .int 0, .int 0, .int 0, .ref q_11, .int 0, .int 0, .int 0, .int 0, .int (-1), .int 0, .int 0, .ref q_13, .ref q_15, .int 0, .ref q_17, .ref q_19, .ref q_21, .ref q_23, .ref q_25, .ref q_27, .ref q_29, .ref q_31, .ref q_33, .ref q_35, .ref q_37, .int 0])), (q_1, .inl (cA_2, 266, .inl (fun _ => 0))), (q_3, .inl (cA_4, 266, .inl (fun _ => 0))), (q_5, .inl (cA_6, 2660, .inl (fun _ => 0))), (q_7, .inl (cA_8, 12, .inr (.inl (fun _ => 0)))), (q_9, .inl (cA_10, 12, .inr (.inl (fun _ => 0)))), (q_11, .inl (cA_12, 900, .inl (fun _ => 0))), (q_13, .inl (cA_14, 64, .inl (fun _ => 0))), (q_15, .inl (cA_16, 8, .inl (fun _ => 0))), (q_17, .inl (cA_18, 8, .inl (fun _ => 0))), (q_19, .inl (cA_20, 64, .inl (fun _ => 0))), (q_21, .inl (cA_22, 64, .inl (fun _ => 0))), (q_23, .inl (cA_24, 8, .inl (fun _ => 0))), (q_25, .inl (cA_26, 8, .inl (fun _ => 0))), (q_27, .inl (cA_28, 8, .inl (fun _ => 0))), (q_29, .inl (cA_30, 64, .inl (fun _ => 0))), (q_31, .inl (cA_32, 16, .inl (fun _ => 0))), (q_33, .inl (cA_34, 16, .inl (fun _ => 0))), (q_35, .inl (cA_36, 256, .inl (fun _ => 0))), (q_37, .inl (cA_38, 48, .inl (fun _ => 0)))] H := hP
  have hD : va_D A [(m0, .inr (12, [.ref q_1, .ref q_3, .ref q_5, .ref q_7, .ref q_9, .int 0, .int 0, .int 0, .int 0, .ref q_11, .int 0, .int 0, .int 0, .int 0, .int (-1), .int 0, .int 0, .ref q_13, .ref q_15, .int 0, .ref q_17, .ref q_19, .ref q_21, .ref q_23, .ref q_25, .ref q_27, .ref q_29, .ref q_31, .ref q_33, .ref q_35, .ref q_37, .int 0])), (q_1, .inl (cA_2, 266, .inl (fun _ => 0))), (q_3, .inl (cA_4, 266, .inl (fun _ => 0))), (q_5, .inl (cA_6, 2660, .inl (fun _ => 0))), (q_7, .inl (cA_8, 12, .inr (.inl (fun _ => 0)))), (q_9, .inl (cA_10, 12, .inr (.inl (fun _ => 0)))), (q_11, .inl (cA_12, 900, .inl (fun _ => 0))), (q_13, .inl (cA_14, 64, .inl (fun _ => 0))), (q_15, .inl (cA_16, 8, .inl (fun _ => 0))), (q_17, .inl (cA_18, 8, .inl (fun _ => 0))), (q_19, .inl (cA_20, 64, .inl (fun _ => 0))), (q_21, .inl (cA_22, 64, .inl (fun _ => 0))), (q_23, .inl (cA_24, 8, .inl (fun _ => 0))), (q_25, .inl (cA_26, 8, .inl (fun _ => 0))), (q_27, .inl (cA_28, 8, .inl (fun _ => 0))), (q_29, .inl (cA_30, 64, .inl (fun _ => 0))), (q_31, .inl (cA_32, 16, .inl (fun _ => 0))), (q_33, .inl (cA_34, 16, .inl (fun _ => 0))), (q_35, .inl (cA_36, 256, .inl (fun _ => 0))), (q_37, .inl (cA_38, 48, .inl (fun _ => 0)))] := hD
  refine lv_aload_n hx hb dX12_init_166 rfl (lv_at hl 0 rfl) ?_
  have hPc := hP.sub (ws' := [(m0, .inr (12, [.ref q_1, .ref q_3, .ref q_5, .ref q_7, .ref q_9, .int 0, .int 0, .int 0, .int 0, .ref q_11, .int 0, .int 0, .int 0, .int 0, .int (-1), .int 0, .int 0, .ref q_13, .ref q_15, .int 0, .ref q_17, .ref q_19, .ref q_21, .ref q_23, .ref q_25, .ref q_27, .ref q_29, .ref q_31, .ref q_33, .ref q_35, .ref q_37, .int 0])), (q_1, .inl (cA_2, 266, .inl (fun _ => 0)))]) [0, 1] rfl
  have hDc := hD.sub (ws' := [(m0, .inr (12, [.ref q_1, .ref q_3, .ref q_5, .ref q_7, .ref q_9, .int 0, .int 0, .int 0, .int 0, .ref q_11, .int 0, .int 0, .int 0, .int 0, .int (-1), .int 0, .int 0, .ref q_13, .ref q_15, .int 0, .ref q_17, .ref q_19, .ref q_21, .ref q_23, .ref q_25, .ref q_27, .ref q_29, .ref q_31, .ref q_33, .ref q_35, .ref q_37, .int 0])), (q_1, .inl (cA_2, 266, .inl (fun _ => 0)))]) [0, 1] (by decide) rfl
  have hKc := hK.sub (tys' := [(cA_2, .int)]) [0] rfl
  have hFc := va_free (wc := [(m0, .inr (12, [.ref q_1, .ref q_3, .ref q_5, .ref q_7, .ref q_9, .int 0, .int 0, .int 0, .int 0, .ref q_11, .int 0, .int 0, .int 0, .int 0, .int (-1), .int 0, .int 0, .ref q_13, .ref q_15, .int 0, .ref q_17, .ref q_19, .ref q_21, .ref q_23, .ref q_25, .ref q_27, .ref q_29, .ref q_31, .ref q_33, .ref q_35, .ref q_37, .int 0])), (q_1, .inl (cA_2, 266, .inl (fun _ => 0)))]) hD hS hA [0, 1] rfl
  refine va_callv (va_runV (As := []) (rest := []) ⟨hx, hb, hml, hown, hT⟩ (m_plain l dC dI m0 q_1 q_3 q_5 q_7 q_9 q_11 q_13 q_15 q_17 q_19 q_21 q_23 q_25 q_27 q_29 q_31 q_33 q_35 q_37 cA_2 (fun _ => 0) H.size) (cwV 0 hT (gV w1077 w1079 ws54 w14 w1080) rfl rfl rfl (by decide +kernel) ⟨(Nat.le_of_ble_eq_true rfl), (Nat.le_of_ble_eq_true rfl)⟩) ⟨pcW.blind, va_recv hKc hPc (ci := 12) (q0 := 0) rfl rfl, pcW.pre hPc hKc hDc⟩ rfl rfl hl.1 rfl (lv_room (Nat.le_of_ble_eq_true rfl)) dX12_init_167 ⟨(Nat.le_of_ble_eq_true rfl), (Nat.le_of_ble_eq_true rfl)⟩) hS (fun q _ h => hFc q h) hFc (fun u t H1 locs ht hvm hw hB hz1 hk1 hS => ?_)
  obtain ⟨f2_39, hx_40, hx_41, hP1, hK1, hD1⟩ := hB
  rw [ht] at hP1
  have hK1 := va_K.moved hvm.symm hK1
  obtain ⟨hP, hD⟩ := va_join (wr := [(q_3, .inl (cA_4, 266, .inl (fun _ => 0))), (q_5, .inl (cA_6, 2660, .inl (fun _ => 0))), (q_7, .inl (cA_8, 12, .inr (.inl (fun _ => 0)))), (q_9, .inl (cA_10, 12, .inr (.inl (fun _ => 0)))), (q_11, .inl (cA_12, 900, .inl (fun _ => 0))), (q_13, .inl (cA_14, 64, .inl (fun _ => 0))), (q_15, .inl (cA_16, 8, .inl (fun _ => 0))), (q_17, .inl (cA_18, 8, .inl (fun _ => 0))), (q_19, .inl (cA_20, 64, .inl (fun _ => 0))), (q_21, .inl (cA_22, 64, .inl (fun _ => 0))), (q_23, .inl (cA_24, 8, .inl (fun _ => 0))), (q_25, .inl (cA_26, 8, .inl (fun _ => 0))), (q_27, .inl (cA_28, 8, .inl (fun _ => 0))), (q_29, .inl (cA_30, 64, .inl (fun _ => 0))), (q_31, .inl (cA_32, 16, .inl (fun _ => 0))), (q_33, .inl (cA_34, 16, .inl (fun _ => 0))), (q_35, .inl (cA_36, 256, .inl (fun _ => 0))), (q_37, .inl (cA_38, 48, .inl (fun _ => 0)))]) (w1 := [(m0, .inr (12, [.ref q_1, .ref q_3, .ref q_5, .ref q_7, .ref q_9, .int 0, .int 0, .int 0, .int 0, .ref q_11, .int 0, .int 0, .int 0, .int 0, .int (-1), .int 0, .int 0, .ref q_13, .ref q_15, .int 0, .ref q_17, .ref q_19, .ref q_21, .ref q_23, .ref q_25, .ref q_27, .ref q_29, .ref q_31, .ref q_33, .ref q_35, .ref q_37, .int 0])), (q_1, .inl (cA_2, 266, .inl f2_39))]) hP hD [0, 1] [2, 3, 4, 5, 6, 7, 8, 9, 10, 11, 12, 13, 14, 15, 16, 17, 18, 19] rfl rfl (by decide) (by decide) hk1 hFc hP1 hD1
  have hK := hK.app hK1
  generalize H1 = H at hP hS ⊢
  have hP : va_P (dC, dI) vwCl [(q_3, .inl (cA_4, 266, .inl (fun _ => 0))), (q_5, .inl (cA_6, 2660, .inl (fun _ => 0))), (q_7, .inl (cA_8, 12, .inr (.inl (fun _ => 0)))), (q_9, .inl (cA_10, 12, .inr (.inl (fun _ => 0)))), (q_11, .inl (cA_12, 900, .inl (fun _ => 0))), (q_13, .inl (cA_14, 64, .inl (fun _ => 0))), (q_15, .inl (cA_16, 8, .inl (fun _ => 0))), (q_17, .inl (cA_18, 8, .inl (fun _ => 0))), (q_19, .inl (cA_20, 64, .inl (fun _ => 0))), (q_21, .inl (cA_22, 64, .inl (fun _ => 0))), (q_23, .inl (cA_24, 8, .inl (fun _ => 0))), (q_25, .inl (cA_26, 8, .inl (fun _ => 0))), (q_27, .inl (cA_28, 8, .inl (fun _ => 0))), (q_29, .inl (cA_30, 64, .inl (fun _ => 0))), (q_31, .inl (cA_32, 16, .inl (fun _ => 0))), (q_33, .inl (cA_34, 16, .inl (fun _ => 0))), (q_35, .inl (cA_36, 256, .inl (fun _ => 0))), (q_37, .inl (cA_38, 48, .inl (fun _ => 0))), (m0, .inr (12, [.ref q_1, .ref q_3, .ref q_5, .ref q_7, .ref q_9, .int 0, .int 0, .int 0, .int 0, .ref q_11, .int 0, .int 0, .int 0, .int 0, .int (-1), .int 0, .int 0, .ref q_13, .ref q_15, .int 0, .ref q_17, .ref q_19, .ref q_21, .ref q_23, .ref q_25, .ref q_27, .ref q_29, .ref q_31, .ref q_33, .ref q_35, .ref q_37, .int 0])), (q_1, .inl (cA_2, 266, .inl f2_39))] H := hP
  have hD : va_D A [(q_3, .inl (cA_4, 266, .inl (fun _ => 0))), (q_5, .inl (cA_6, 2660, .inl (fun _ => 0))), (q_7, .inl (cA_8, 12, .inr (.inl (fun _ => 0)))), (q_9, .inl (cA_10, 12, .inr (.inl (fun _ => 0)))), (q_11, .inl (cA_12, 900, .inl (fun _ => 0))), (q_13, .inl (cA_14, 64, .inl (fun _ => 0))), (q_15, .inl (cA_16, 8, .inl (fun _ => 0))), (q_17, .inl (cA_18, 8, .inl (fun _ => 0))), (q_19, .inl (cA_20, 64, .inl (fun _ => 0))), (q_21, .inl (cA_22, 64, .inl (fun _ => 0))), (q_23, .inl (cA_24, 8, .inl (fun _ => 0))), (q_25, .inl (cA_26, 8, .inl (fun _ => 0))), (q_27, .inl (cA_28, 8, .inl (fun _ => 0))), (q_29, .inl (cA_30, 64, .inl (fun _ => 0))), (q_31, .inl (cA_32, 16, .inl (fun _ => 0))), (q_33, .inl (cA_34, 16, .inl (fun _ => 0))), (q_35, .inl (cA_36, 256, .inl (fun _ => 0))), (q_37, .inl (cA_38, 48, .inl (fun _ => 0))), (m0, .inr (12, [.ref q_1, .ref q_3, .ref q_5, .ref q_7, .ref q_9, .int 0, .int 0, .int 0, .int 0, .ref q_11, .int 0, .int 0, .int 0, .int 0, .int (-1), .int 0, .int 0, .ref q_13, .ref q_15, .int 0, .ref q_17, .ref q_19, .ref q_21, .ref q_23, .ref q_25, .ref q_27, .ref q_29, .ref q_31, .ref q_33, .ref q_35, .ref q_37, .int 0])), (q_1, .inl (cA_2, 266, .inl f2_39))] := hD
  have hK : va_K (dC, dI) vwCl [(cA_2, .int), (cA_4, .int), (cA_6, .int), (cA_8, .long), (cA_10, .long), (cA_12, .byte), (cA_14, .int), (cA_16, .int), (cA_18, .int), (cA_20, .int), (cA_22, .int), (cA_24, .int), (cA_26, .int), (cA_28, .int), (cA_30, .boolean), (cA_32, .int), (cA_34, .int), (cA_36, .int), (cA_38, .int), (cA_2, .int)] s := hK
  refine W.widen (k := 19) (n := 4748) (Nat.le_of_ble_eq_true rfl) (Nat.le_of_ble_eq_true rfl) ?_
  refine W.widen (k := 19) (n := 4748) (Nat.le_of_ble_eq_true rfl) (Nat.le_of_ble_eq_true rfl) ?_
  have hP9 := hP.sub (ws' := [(m0, .inr (12, [.ref q_1, .ref q_3, .ref q_5, .ref q_7, .ref q_9, .int 0, .int 0, .int 0, .int 0, .ref q_11, .int 0, .int 0, .int 0, .int 0, .int (-1), .int 0, .int 0, .ref q_13, .ref q_15, .int 0, .ref q_17, .ref q_19, .ref q_21, .ref q_23, .ref q_25, .ref q_27, .ref q_29, .ref q_31, .ref q_33, .ref q_35, .ref q_37, .int 0])), (q_1, .inl (cA_2, 266, .inl f2_39)), (q_5, .inl (cA_6, 2660, .inl (fun _ => 0))), (q_11, .inl (cA_12, 900, .inl (fun _ => 0))), (q_3, .inl (cA_4, 266, .inl (fun _ => 0))), (q_7, .inl (cA_8, 12, .inr (.inl (fun _ => 0)))), (q_9, .inl (cA_10, 12, .inr (.inl (fun _ => 0))))]) [18, 19, 1, 4, 0, 2, 3] rfl
  have hD9 := hD.sub (ws' := [(m0, .inr (12, [.ref q_1, .ref q_3, .ref q_5, .ref q_7, .ref q_9, .int 0, .int 0, .int 0, .int 0, .ref q_11, .int 0, .int 0, .int 0, .int 0, .int (-1), .int 0, .int 0, .ref q_13, .ref q_15, .int 0, .ref q_17, .ref q_19, .ref q_21, .ref q_23, .ref q_25, .ref q_27, .ref q_29, .ref q_31, .ref q_33, .ref q_35, .ref q_37, .int 0])), (q_1, .inl (cA_2, 266, .inl f2_39)), (q_5, .inl (cA_6, 2660, .inl (fun _ => 0))), (q_11, .inl (cA_12, 900, .inl (fun _ => 0))), (q_3, .inl (cA_4, 266, .inl (fun _ => 0))), (q_7, .inl (cA_8, 12, .inr (.inl (fun _ => 0)))), (q_9, .inl (cA_10, 12, .inr (.inl (fun _ => 0))))]) [18, 19, 1, 4, 0, 2, 3] (by decide) rfl
  have hK9 := hK.sub (tys' := [(cA_2, .int), (cA_6, .int), (cA_12, .byte), (cA_4, .int), (cA_8, .long), (cA_10, .long)]) [0, 2, 5, 1, 3, 4] rfl
  exact W.vret hx hb hr (fun t ht hW => ⟨⟨(), rfl, trivial, q_1, q_3, q_5, q_7, q_9, q_11, q_13, q_15, q_17, q_19, q_21, q_23, q_25, q_27, q_29, q_31, q_33, q_35, q_37, cA_2, f2_39, cA_6, fun _ => 0, cA_12, fun _ => 0, cA_4, fun _ => 0, cA_8, fun _ => 0, cA_10, fun _ => 0, hx_40, hx_41, by rw [ht]; exact hP9, va_K.moved hW.alike hK9, hD9⟩, hS.F ht⟩) hS.2.2 dX12_init_170
end
