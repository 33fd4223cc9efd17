-- ===== PART A: goes FIRST, ahead of the names: the tables' words, and 'selects' of the private methods out of them =====
/-- a private method of a class that the tables say can be made, by its rows of tables_1 -/
def lw_okq (q : MethodName × Nat) : Prop := (q.1.cls ≠ "java/lang/invoke/MethodHandle" ∧ q.1.cls ≠ "java/lang/invoke/VarHandle") ∧ Cond.instantiable q.1.cls q.2 ∈ tables_1 ∧ Cond.privateMethod q.1 ∈ tables_1 ∧ Cond.instanceMethod q.1 ∈ tables_1
theorem lw_p0 : lw_okq (⟨"WorthLadder$Tokens", "learn", "(Ljava/lang/String;I)V"⟩, 8) := ⟨⟨by decide +kernel, by decide +kernel⟩, List.mem_of_getElem? (i := 127) (by decide +kernel), List.mem_of_getElem? (i := 134) (by decide +kernel), List.mem_of_getElem? (i := 135) (by decide +kernel)⟩
theorem lw_p1 : lw_okq (⟨"WorthLadder$Tokens", "takeWord", "()V"⟩, 8) := ⟨⟨by decide +kernel, by decide +kernel⟩, List.mem_of_getElem? (i := 127) (by decide +kernel), List.mem_of_getElem? (i := 450) (by decide +kernel), List.mem_of_getElem? (i := 451) (by decide +kernel)⟩
theorem lw_p2 : lw_okq (⟨"WorthLadder$Tokens", "takeNumber", "()V"⟩, 8) := ⟨⟨by decide +kernel, by decide +kernel⟩, List.mem_of_getElem? (i := 127) (by decide +kernel), List.mem_of_getElem? (i := 457) (by decide +kernel), List.mem_of_getElem? (i := 458) (by decide +kernel)⟩
theorem lw_p3 : lw_okq (⟨"WorthLadder$Reader", "checkStart", "(I)V"⟩, 8) := ⟨⟨by decide +kernel, by decide +kernel⟩, List.mem_of_getElem? (i := 121) (by decide +kernel), List.mem_of_getElem? (i := 462) (by decide +kernel), List.mem_of_getElem? (i := 463) (by decide +kernel)⟩
theorem lw_p4 : lw_okq (⟨"WorthLadder$Reader", "fail", "(I)V"⟩, 8) := ⟨⟨by decide +kernel, by decide +kernel⟩, List.mem_of_getElem? (i := 121) (by decide +kernel), List.mem_of_getElem? (i := 466) (by decide +kernel), List.mem_of_getElem? (i := 467) (by decide +kernel)⟩
theorem lw_p5 : lw_okq (⟨"WorthLadder$Reader", "isFull", "(I)Z"⟩, 8) := ⟨⟨by decide +kernel, by decide +kernel⟩, List.mem_of_getElem? (i := 121) (by decide +kernel), List.mem_of_getElem? (i := 470) (by decide +kernel), List.mem_of_getElem? (i := 471) (by decide +kernel)⟩
theorem lw_p6 : lw_okq (⟨"WorthLadder$Reader", "readLine", "(I)V"⟩, 8) := ⟨⟨by decide +kernel, by decide +kernel⟩, List.mem_of_getElem? (i := 121) (by decide +kernel), List.mem_of_getElem? (i := 474) (by decide +kernel), List.mem_of_getElem? (i := 475) (by decide +kernel)⟩
theorem lw_p7 : lw_okq (⟨"WorthLadder$Reader", "readParty", "()V"⟩, 8) := ⟨⟨by decide +kernel, by decide +kernel⟩, List.mem_of_getElem? (i := 121) (by decide +kernel), List.mem_of_getElem? (i := 478) (by decide +kernel), List.mem_of_getElem? (i := 479) (by decide +kernel)⟩
theorem lw_p8 : lw_okq (⟨"WorthLadder$Reader", "giveName", "(I)V"⟩, 8) := ⟨⟨by decide +kernel, by decide +kernel⟩, List.mem_of_getElem? (i := 121) (by decide +kernel), List.mem_of_getElem? (i := 482) (by decide +kernel), List.mem_of_getElem? (i := 483) (by decide +kernel)⟩
theorem lw_p9 : lw_okq (⟨"WorthLadder$Reader", "find", "(J)I"⟩, 8) := ⟨⟨by decide +kernel, by decide +kernel⟩, List.mem_of_getElem? (i := 121) (by decide +kernel), List.mem_of_getElem? (i := 490) (by decide +kernel), List.mem_of_getElem? (i := 491) (by decide +kernel)⟩
theorem lw_p10 : lw_okq (⟨"WorthLadder$Reader", "readKin", "()V"⟩, 8) := ⟨⟨by decide +kernel, by decide +kernel⟩, List.mem_of_getElem? (i := 121) (by decide +kernel), List.mem_of_getElem? (i := 494) (by decide +kernel), List.mem_of_getElem? (i := 495) (by decide +kernel)⟩
theorem lw_p11 : lw_okq (⟨"WorthLadder$Reader", "toldOf", "(I)I"⟩, 8) := ⟨⟨by decide +kernel, by decide +kernel⟩, List.mem_of_getElem? (i := 121) (by decide +kernel), List.mem_of_getElem? (i := 498) (by decide +kernel), List.mem_of_getElem? (i := 499) (by decide +kernel)⟩
theorem lw_p12 : lw_okq (⟨"WorthLadder$Reader", "readGood", "()V"⟩, 8) := ⟨⟨by decide +kernel, by decide +kernel⟩, List.mem_of_getElem? (i := 121) (by decide +kernel), List.mem_of_getElem? (i := 511) (by decide +kernel), List.mem_of_getElem? (i := 512) (by decide +kernel)⟩
theorem lw_p13 : lw_okq (⟨"WorthLadder$Reader", "expect", "(I)V"⟩, 8) := ⟨⟨by decide +kernel, by decide +kernel⟩, List.mem_of_getElem? (i := 121) (by decide +kernel), List.mem_of_getElem? (i := 515) (by decide +kernel), List.mem_of_getElem? (i := 516) (by decide +kernel)⟩
theorem lw_p14 : lw_okq (⟨"WorthLadder$Reader", "number", "(II)I"⟩, 8) := ⟨⟨by decide +kernel, by decide +kernel⟩, List.mem_of_getElem? (i := 121) (by decide +kernel), List.mem_of_getElem? (i := 519) (by decide +kernel), List.mem_of_getElem? (i := 520) (by decide +kernel)⟩
theorem lw_p15 : lw_okq (⟨"WorthLadder$Reader", "readAssist", "()V"⟩, 8) := ⟨⟨by decide +kernel, by decide +kernel⟩, List.mem_of_getElem? (i := 121) (by decide +kernel), List.mem_of_getElem? (i := 523) (by decide +kernel), List.mem_of_getElem? (i := 524) (by decide +kernel)⟩
def lw_privs_1 : List (MethodName × Nat) := [(⟨"WorthLadder$Tokens", "learn", "(Ljava/lang/String;I)V"⟩, 8), (⟨"WorthLadder$Tokens", "takeWord", "()V"⟩, 8), (⟨"WorthLadder$Tokens", "takeNumber", "()V"⟩, 8), (⟨"WorthLadder$Reader", "checkStart", "(I)V"⟩, 8), (⟨"WorthLadder$Reader", "fail", "(I)V"⟩, 8), (⟨"WorthLadder$Reader", "isFull", "(I)Z"⟩, 8), (⟨"WorthLadder$Reader", "readLine", "(I)V"⟩, 8), (⟨"WorthLadder$Reader", "readParty", "()V"⟩, 8), (⟨"WorthLadder$Reader", "giveName", "(I)V"⟩, 8), (⟨"WorthLadder$Reader", "find", "(J)I"⟩, 8), (⟨"WorthLadder$Reader", "readKin", "()V"⟩, 8), (⟨"WorthLadder$Reader", "toldOf", "(I)I"⟩, 8), (⟨"WorthLadder$Reader", "readGood", "()V"⟩, 8), (⟨"WorthLadder$Reader", "expect", "(I)V"⟩, 8), (⟨"WorthLadder$Reader", "number", "(II)I"⟩, 8), (⟨"WorthLadder$Reader", "readAssist", "()V"⟩, 8)]
theorem lw_r1 : ∀ q ∈ lw_privs_1, lw_okq q := List.forall_mem_cons.mpr ⟨lw_p0, List.forall_mem_cons.mpr ⟨lw_p1, List.forall_mem_cons.mpr ⟨lw_p2, List.forall_mem_cons.mpr ⟨lw_p3, List.forall_mem_cons.mpr ⟨lw_p4, List.forall_mem_cons.mpr ⟨lw_p5, List.forall_mem_cons.mpr ⟨lw_p6, List.forall_mem_cons.mpr ⟨lw_p7, List.forall_mem_cons.mpr ⟨lw_p8, List.forall_mem_cons.mpr ⟨lw_p9, List.forall_mem_cons.mpr ⟨lw_p10, List.forall_mem_cons.mpr ⟨lw_p11, List.forall_mem_cons.mpr ⟨lw_p12, List.forall_mem_cons.mpr ⟨lw_p13, List.forall_mem_cons.mpr ⟨lw_p14, List.forall_mem_cons.mpr ⟨lw_p15, fun _ h => absurd h List.not_mem_nil⟩⟩⟩⟩⟩⟩⟩⟩⟩⟩⟩⟩⟩⟩⟩⟩
theorem lw_p16 : lw_okq (⟨"WorthLadder$Reader", "readSale", "([I)V"⟩, 8) := ⟨⟨by decide +kernel, by decide +kernel⟩, List.mem_of_getElem? (i := 121) (by decide +kernel), List.mem_of_getElem? (i := 527) (by decide +kernel), List.mem_of_getElem? (i := 528) (by decide +kernel)⟩
theorem lw_p17 : lw_okq (⟨"WorthLadder$Reader", "readExtras", "([I)V"⟩, 8) := ⟨⟨by decide +kernel, by decide +kernel⟩, List.mem_of_getElem? (i := 121) (by decide +kernel), List.mem_of_getElem? (i := 532) (by decide +kernel), List.mem_of_getElem? (i := 533) (by decide +kernel)⟩
theorem lw_p18 : lw_okq (⟨"WorthLadder$Reader", "readResold", "()V"⟩, 8) := ⟨⟨by decide +kernel, by decide +kernel⟩, List.mem_of_getElem? (i := 121) (by decide +kernel), List.mem_of_getElem? (i := 536) (by decide +kernel), List.mem_of_getElem? (i := 537) (by decide +kernel)⟩
theorem lw_p19 : lw_okq (⟨"WorthLadder$Reader", "readMade", "()V"⟩, 8) := ⟨⟨by decide +kernel, by decide +kernel⟩, List.mem_of_getElem? (i := 121) (by decide +kernel), List.mem_of_getElem? (i := 540) (by decide +kernel), List.mem_of_getElem? (i := 541) (by decide +kernel)⟩
theorem lw_p20 : lw_okq (⟨"WorthLadder$Reader", "readBand", "()V"⟩, 8) := ⟨⟨by decide +kernel, by decide +kernel⟩, List.mem_of_getElem? (i := 121) (by decide +kernel), List.mem_of_getElem? (i := 544) (by decide +kernel), List.mem_of_getElem? (i := 545) (by decide +kernel)⟩
theorem lw_p21 : lw_okq (⟨"WorthLadder$Reader", "readRule", "(I)V"⟩, 8) := ⟨⟨by decide +kernel, by decide +kernel⟩, List.mem_of_getElem? (i := 121) (by decide +kernel), List.mem_of_getElem? (i := 548) (by decide +kernel), List.mem_of_getElem? (i := 549) (by decide +kernel)⟩
theorem lw_p22 : lw_okq (⟨"WorthLadder$Ledger", "closeKin", "()V"⟩, 8) := ⟨⟨by decide +kernel, by decide +kernel⟩, List.mem_of_getElem? (i := 243) (by decide +kernel), List.mem_of_getElem? (i := 591) (by decide +kernel), List.mem_of_getElem? (i := 592) (by decide +kernel)⟩
theorem lw_p23 : lw_okq (⟨"WorthLadder$Ledger", "shareOut", "(I)V"⟩, 8) := ⟨⟨by decide +kernel, by decide +kernel⟩, List.mem_of_getElem? (i := 243) (by decide +kernel), List.mem_of_getElem? (i := 599) (by decide +kernel), List.mem_of_getElem? (i := 600) (by decide +kernel)⟩
theorem lw_p24 : lw_okq (⟨"WorthLadder$Ledger", "firstUser", "(II)I"⟩, 8) := ⟨⟨by decide +kernel, by decide +kernel⟩, List.mem_of_getElem? (i := 243) (by decide +kernel), List.mem_of_getElem? (i := 604) (by decide +kernel), List.mem_of_getElem? (i := 605) (by decide +kernel)⟩
theorem lw_p25 : lw_okq (⟨"WorthLadder$Ledger", "broughtAlong", "(I)J"⟩, 8) := ⟨⟨by decide +kernel, by decide +kernel⟩, List.mem_of_getElem? (i := 243) (by decide +kernel), List.mem_of_getElem? (i := 621) (by decide +kernel), List.mem_of_getElem? (i := 622) (by decide +kernel)⟩
theorem lw_p26 : lw_okq (⟨"WorthLadder$Ledger", "priceResold", "(I)I"⟩, 8) := ⟨⟨by decide +kernel, by decide +kernel⟩, List.mem_of_getElem? (i := 243) (by decide +kernel), List.mem_of_getElem? (i := 625) (by decide +kernel), List.mem_of_getElem? (i := 626) (by decide +kernel)⟩
theorem lw_p27 : lw_okq (⟨"WorthLadder$Ledger", "rowsFor", "(IZ)I"⟩, 8) := ⟨⟨by decide +kernel, by decide +kernel⟩, List.mem_of_getElem? (i := 243) (by decide +kernel), List.mem_of_getElem? (i := 629) (by decide +kernel), List.mem_of_getElem? (i := 630) (by decide +kernel)⟩
theorem lw_p28 : lw_okq (⟨"WorthLadder$Ledger", "priceOfMost", "(I)I"⟩, 8) := ⟨⟨by decide +kernel, by decide +kernel⟩, List.mem_of_getElem? (i := 243) (by decide +kernel), List.mem_of_getElem? (i := 637) (by decide +kernel), List.mem_of_getElem? (i := 638) (by decide +kernel)⟩
theorem lw_p29 : lw_okq (⟨"WorthLadder$Ledger", "piecesAt", "(II)I"⟩, 8) := ⟨⟨by decide +kernel, by decide +kernel⟩, List.mem_of_getElem? (i := 243) (by decide +kernel), List.mem_of_getElem? (i := 641) (by decide +kernel), List.mem_of_getElem? (i := 642) (by decide +kernel)⟩
theorem lw_p30 : lw_okq (⟨"WorthLadder$Ladder", "judge", "(I)I"⟩, 11) := ⟨⟨by decide +kernel, by decide +kernel⟩, List.mem_of_getElem? (i := 282) (by decide +kernel), List.mem_of_getElem? (i := 681) (by decide +kernel), List.mem_of_getElem? (i := 682) (by decide +kernel)⟩
theorem lw_p31 : lw_okq (⟨"WorthLadder$Ladder", "isTestFor", "(II)Z"⟩, 11) := ⟨⟨by decide +kernel, by decide +kernel⟩, List.mem_of_getElem? (i := 282) (by decide +kernel), List.mem_of_getElem? (i := 693) (by decide +kernel), List.mem_of_getElem? (i := 694) (by decide +kernel)⟩
def lw_privs_2 : List (MethodName × Nat) := [(⟨"WorthLadder$Reader", "readSale", "([I)V"⟩, 8), (⟨"WorthLadder$Reader", "readExtras", "([I)V"⟩, 8), (⟨"WorthLadder$Reader", "readResold", "()V"⟩, 8), (⟨"WorthLadder$Reader", "readMade", "()V"⟩, 8), (⟨"WorthLadder$Reader", "readBand", "()V"⟩, 8), (⟨"WorthLadder$Reader", "readRule", "(I)V"⟩, 8), (⟨"WorthLadder$Ledger", "closeKin", "()V"⟩, 8), (⟨"WorthLadder$Ledger", "shareOut", "(I)V"⟩, 8), (⟨"WorthLadder$Ledger", "firstUser", "(II)I"⟩, 8), (⟨"WorthLadder$Ledger", "broughtAlong", "(I)J"⟩, 8), (⟨"WorthLadder$Ledger", "priceResold", "(I)I"⟩, 8), (⟨"WorthLadder$Ledger", "rowsFor", "(IZ)I"⟩, 8), (⟨"WorthLadder$Ledger", "priceOfMost", "(I)I"⟩, 8), (⟨"WorthLadder$Ledger", "piecesAt", "(II)I"⟩, 8), (⟨"WorthLadder$Ladder", "judge", "(I)I"⟩, 11), (⟨"WorthLadder$Ladder", "isTestFor", "(II)Z"⟩, 11)]
theorem lw_r2 : ∀ q ∈ lw_privs_2, lw_okq q := List.forall_mem_cons.mpr ⟨lw_p16, List.forall_mem_cons.mpr ⟨lw_p17, List.forall_mem_cons.mpr ⟨lw_p18, List.forall_mem_cons.mpr ⟨lw_p19, List.forall_mem_cons.mpr ⟨lw_p20, List.forall_mem_cons.mpr ⟨lw_p21, List.forall_mem_cons.mpr ⟨lw_p22, List.forall_mem_cons.mpr ⟨lw_p23, List.forall_mem_cons.mpr ⟨lw_p24, List.forall_mem_cons.mpr ⟨lw_p25, List.forall_mem_cons.mpr ⟨lw_p26, List.forall_mem_cons.mpr ⟨lw_p27, List.forall_mem_cons.mpr ⟨lw_p28, List.forall_mem_cons.mpr ⟨lw_p29, List.forall_mem_cons.mpr ⟨lw_p30, List.forall_mem_cons.mpr ⟨lw_p31, fun _ h => absurd h List.not_mem_nil⟩⟩⟩⟩⟩⟩⟩⟩⟩⟩⟩⟩⟩⟩⟩⟩
theorem lw_p32 : lw_okq (⟨"WorthLadder$Ledger", "measure", "(I)J"⟩, 8) := ⟨⟨by decide +kernel, by decide +kernel⟩, List.mem_of_getElem? (i := 243) (by decide +kernel), List.mem_of_getElem? (i := 713) (by decide +kernel), List.mem_of_getElem? (i := 714) (by decide +kernel)⟩
theorem lw_p33 : lw_okq (⟨"WorthLadder$Ladder", "addTest", "(J)V"⟩, 11) := ⟨⟨by decide +kernel, by decide +kernel⟩, List.mem_of_getElem? (i := 282) (by decide +kernel), List.mem_of_getElem? (i := 717) (by decide +kernel), List.mem_of_getElem? (i := 718) (by decide +kernel)⟩
theorem lw_p34 : lw_okq (⟨"WorthLadder$Ladder", "sourcesFor", "(II)I"⟩, 11) := ⟨⟨by decide +kernel, by decide +kernel⟩, List.mem_of_getElem? (i := 282) (by decide +kernel), List.mem_of_getElem? (i := 746) (by decide +kernel), List.mem_of_getElem? (i := 747) (by decide +kernel)⟩
theorem lw_p35 : lw_okq (⟨"WorthLadder$Ladder", "fits", "(III)Z"⟩, 11) := ⟨⟨by decide +kernel, by decide +kernel⟩, List.mem_of_getElem? (i := 282) (by decide +kernel), List.mem_of_getElem? (i := 750) (by decide +kernel), List.mem_of_getElem? (i := 751) (by decide +kernel)⟩
theorem lw_p36 : lw_okq (⟨"WorthLadder$Ladder", "bringLeast", "(II)V"⟩, 11) := ⟨⟨by decide +kernel, by decide +kernel⟩, List.mem_of_getElem? (i := 282) (by decide +kernel), List.mem_of_getElem? (i := 754) (by decide +kernel), List.mem_of_getElem? (i := 755) (by decide +kernel)⟩
theorem lw_p37 : lw_okq (⟨"WorthLadder", "isTurned", "()Z"⟩, 11) := ⟨⟨by decide +kernel, by decide +kernel⟩, List.mem_of_getElem? (i := 24) (by decide +kernel), List.mem_of_getElem? (i := 766) (by decide +kernel), List.mem_of_getElem? (i := 767) (by decide +kernel)⟩
theorem lw_p38 : lw_okq (⟨"WorthLadder", "worthInOrder", "(IZ)J"⟩, 11) := ⟨⟨by decide +kernel, by decide +kernel⟩, List.mem_of_getElem? (i := 24) (by decide +kernel), List.mem_of_getElem? (i := 770) (by decide +kernel), List.mem_of_getElem? (i := 771) (by decide +kernel)⟩
theorem lw_p39 : lw_okq (⟨"WorthLadder$Spans", "pricesBelow", "(IJ)I"⟩, 5) := ⟨⟨by decide +kernel, by decide +kernel⟩, List.mem_of_getElem? (i := 330) (by decide +kernel), List.mem_of_getElem? (i := 816) (by decide +kernel), List.mem_of_getElem? (i := 817) (by decide +kernel)⟩
theorem lw_p40 : lw_okq (⟨"WorthLadder$Spans", "lowestBeyond", "(I)I"⟩, 5) := ⟨⟨by decide +kernel, by decide +kernel⟩, List.mem_of_getElem? (i := 330) (by decide +kernel), List.mem_of_getElem? (i := 825) (by decide +kernel), List.mem_of_getElem? (i := 826) (by decide +kernel)⟩
theorem lw_p41 : lw_okq (⟨"WorthLadder", "dutyOn", "(J)J"⟩, 11) := ⟨⟨by decide +kernel, by decide +kernel⟩, List.mem_of_getElem? (i := 24) (by decide +kernel), List.mem_of_getElem? (i := 867) (by decide +kernel), List.mem_of_getElem? (i := 868) (by decide +kernel)⟩
theorem lw_p42 : lw_okq (⟨"WorthLadder", "writeReport", "()V"⟩, 11) := ⟨⟨by decide +kernel, by decide +kernel⟩, List.mem_of_getElem? (i := 24) (by decide +kernel), List.mem_of_getElem? (i := 884) (by decide +kernel), List.mem_of_getElem? (i := 885) (by decide +kernel)⟩
theorem lw_p43 : lw_okq (⟨"WorthLadder$Page", "add", "(I)V"⟩, 2) := ⟨⟨by decide +kernel, by decide +kernel⟩, List.mem_of_getElem? (i := 370) (by decide +kernel), List.mem_of_getElem? (i := 894) (by decide +kernel), List.mem_of_getElem? (i := 895) (by decide +kernel)⟩
theorem lw_p44 : lw_okq (⟨"java/lang/Throwable", "fillInStackTrace", "(I)Ljava/lang/Throwable;"⟩, 6) := ⟨⟨by decide +kernel, by decide +kernel⟩, List.mem_of_getElem? (i := 1012) (by decide +kernel), List.mem_of_getElem? (i := 1010) (by decide +kernel), List.mem_of_getElem? (i := 1011) (by decide +kernel)⟩
theorem lw_p45 : lw_okq (⟨"WorthLadderModel", "puts", "(I)V"⟩, 34) := ⟨⟨by decide +kernel, by decide +kernel⟩, List.mem_of_getElem? (i := 1042) (by decide +kernel), List.mem_of_getElem? (i := 1158) (by decide +kernel), List.mem_of_getElem? (i := 1159) (by decide +kernel)⟩
theorem lw_p46 : lw_okq (⟨"WorthLadderModel", "go", "()V"⟩, 34) := ⟨⟨by decide +kernel, by decide +kernel⟩, List.mem_of_getElem? (i := 1042) (by decide +kernel), List.mem_of_getElem? (i := 1169) (by decide +kernel), List.mem_of_getElem? (i := 1170) (by decide +kernel)⟩
theorem lw_p47 : lw_okq (⟨"WorthLadderModel", "byteAt", "(I)I"⟩, 34) := ⟨⟨by decide +kernel, by decide +kernel⟩, List.mem_of_getElem? (i := 1042) (by decide +kernel), List.mem_of_getElem? (i := 1173) (by decide +kernel), List.mem_of_getElem? (i := 1174) (by decide +kernel)⟩
def lw_privs_3 : List (MethodName × Nat) := [(⟨"WorthLadder$Ledger", "measure", "(I)J"⟩, 8), (⟨"WorthLadder$Ladder", "addTest", "(J)V"⟩, 11), (⟨"WorthLadder$Ladder", "sourcesFor", "(II)I"⟩, 11), (⟨"WorthLadder$Ladder", "fits", "(III)Z"⟩, 11), (⟨"WorthLadder$Ladder", "bringLeast", "(II)V"⟩, 11), (⟨"WorthLadder", "isTurned", "()Z"⟩, 11), (⟨"WorthLadder", "worthInOrder", "(IZ)J"⟩, 11), (⟨"WorthLadder$Spans", "pricesBelow", "(IJ)I"⟩, 5), (⟨"WorthLadder$Spans", "lowestBeyond", "(I)I"⟩, 5), (⟨"WorthLadder", "dutyOn", "(J)J"⟩, 11), (⟨"WorthLadder", "writeReport", "()V"⟩, 11), (⟨"WorthLadder$Page", "add", "(I)V"⟩, 2), (⟨"java/lang/Throwable", "fillInStackTrace", "(I)Ljava/lang/Throwable;"⟩, 6), (⟨"WorthLadderModel", "puts", "(I)V"⟩, 34), (⟨"WorthLadderModel", "go", "()V"⟩, 34), (⟨"WorthLadderModel", "byteAt", "(I)I"⟩, 34)]
theorem lw_r3 : ∀ q ∈ lw_privs_3, lw_okq q := List.forall_mem_cons.mpr ⟨lw_p32, List.forall_mem_cons.mpr ⟨lw_p33, List.forall_mem_cons.mpr ⟨lw_p34, List.forall_mem_cons.mpr ⟨lw_p35, List.forall_mem_cons.mpr ⟨lw_p36, List.forall_mem_cons.mpr ⟨lw_p37, List.forall_mem_cons.mpr ⟨lw_p38, List.forall_mem_cons.mpr ⟨lw_p39, List.forall_mem_cons.mpr ⟨lw_p40, List.forall_mem_cons.mpr ⟨lw_p41, List.forall_mem_cons.mpr ⟨lw_p42, List.forall_mem_cons.mpr ⟨lw_p43, List.forall_mem_cons.mpr ⟨lw_p44, List.forall_mem_cons.mpr ⟨lw_p45, List.forall_mem_cons.mpr ⟨lw_p46, List.forall_mem_cons.mpr ⟨lw_p47, fun _ h => absurd h List.not_mem_nil⟩⟩⟩⟩⟩⟩⟩⟩⟩⟩⟩⟩⟩⟩⟩⟩
theorem lw_p48 : lw_okq (⟨"WorthLadderModel", "line", "()Z"⟩, 34) := ⟨⟨by decide +kernel, by decide +kernel⟩, List.mem_of_getElem? (i := 1042) (by decide +kernel), List.mem_of_getElem? (i := 1183) (by decide +kernel), List.mem_of_getElem? (i := 1184) (by decide +kernel)⟩
theorem lw_p49 : lw_okq (⟨"WorthLadderModel", "is", "(J)Z"⟩, 34) := ⟨⟨by decide +kernel, by decide +kernel⟩, List.mem_of_getElem? (i := 1042) (by decide +kernel), List.mem_of_getElem? (i := 1188) (by decide +kernel), List.mem_of_getElem? (i := 1189) (by decide +kernel)⟩
theorem lw_p50 : lw_okq (⟨"WorthLadderModel", "partyLine", "()Z"⟩, 34) := ⟨⟨by decide +kernel, by decide +kernel⟩, List.mem_of_getElem? (i := 1042) (by decide +kernel), List.mem_of_getElem? (i := 1192) (by decide +kernel), List.mem_of_getElem? (i := 1193) (by decide +kernel)⟩
theorem lw_p51 : lw_okq (⟨"WorthLadderModel", "begins", "(II)Z"⟩, 34) := ⟨⟨by decide +kernel, by decide +kernel⟩, List.mem_of_getElem? (i := 1042) (by decide +kernel), List.mem_of_getElem? (i := 1196) (by decide +kernel), List.mem_of_getElem? (i := 1197) (by decide +kernel)⟩
theorem lw_p52 : lw_okq (⟨"WorthLadderModel", "bad", "(I)Z"⟩, 34) := ⟨⟨by decide +kernel, by decide +kernel⟩, List.mem_of_getElem? (i := 1042) (by decide +kernel), List.mem_of_getElem? (i := 1200) (by decide +kernel), List.mem_of_getElem? (i := 1201) (by decide +kernel)⟩
theorem lw_p53 : lw_okq (⟨"WorthLadderModel", "name", "(I)Z"⟩, 34) := ⟨⟨by decide +kernel, by decide +kernel⟩, List.mem_of_getElem? (i := 1042) (by decide +kernel), List.mem_of_getElem? (i := 1204) (by decide +kernel), List.mem_of_getElem? (i := 1205) (by decide +kernel)⟩
theorem lw_p54 : lw_okq (⟨"WorthLadderModel", "isName", "()Z"⟩, 34) := ⟨⟨by decide +kernel, by decide +kernel⟩, List.mem_of_getElem? (i := 1042) (by decide +kernel), List.mem_of_getElem? (i := 1208) (by decide +kernel), List.mem_of_getElem? (i := 1209) (by decide +kernel)⟩
theorem lw_p55 : lw_okq (⟨"WorthLadderModel", "kinLine", "()Z"⟩, 34) := ⟨⟨by decide +kernel, by decide +kernel⟩, List.mem_of_getElem? (i := 1042) (by decide +kernel), List.mem_of_getElem? (i := 1241) (by decide +kernel), List.mem_of_getElem? (i := 1242) (by decide +kernel)⟩
theorem lw_p56 : lw_okq (⟨"WorthLadderModel", "known", "(I)Z"⟩, 34) := ⟨⟨by decide +kernel, by decide +kernel⟩, List.mem_of_getElem? (i := 1042) (by decide +kernel), List.mem_of_getElem? (i := 1245) (by decide +kernel), List.mem_of_getElem? (i := 1246) (by decide +kernel)⟩
theorem lw_p57 : lw_okq (⟨"WorthLadderModel", "isHere", "(I)Z"⟩, 34) := ⟨⟨by decide +kernel, by decide +kernel⟩, List.mem_of_getElem? (i := 1042) (by decide +kernel), List.mem_of_getElem? (i := 1249) (by decide +kernel), List.mem_of_getElem? (i := 1250) (by decide +kernel)⟩
theorem lw_p58 : lw_okq (⟨"WorthLadderModel", "goodLine", "()Z"⟩, 34) := ⟨⟨by decide +kernel, by decide +kernel⟩, List.mem_of_getElem? (i := 1042) (by decide +kernel), List.mem_of_getElem? (i := 1256) (by decide +kernel), List.mem_of_getElem? (i := 1257) (by decide +kernel)⟩
theorem lw_p59 : lw_okq (⟨"WorthLadderModel", "after", "(JII)Z"⟩, 34) := ⟨⟨by decide +kernel, by decide +kernel⟩, List.mem_of_getElem? (i := 1042) (by decide +kernel), List.mem_of_getElem? (i := 1260) (by decide +kernel), List.mem_of_getElem? (i := 1261) (by decide +kernel)⟩
theorem lw_p60 : lw_okq (⟨"WorthLadderModel", "number", "(II)Z"⟩, 34) := ⟨⟨by decide +kernel, by decide +kernel⟩, List.mem_of_getElem? (i := 1042) (by decide +kernel), List.mem_of_getElem? (i := 1264) (by decide +kernel), List.mem_of_getElem? (i := 1265) (by decide +kernel)⟩
theorem lw_p61 : lw_okq (⟨"WorthLadderModel", "assistLine", "()Z"⟩, 34) := ⟨⟨by decide +kernel, by decide +kernel⟩, List.mem_of_getElem? (i := 1042) (by decide +kernel), List.mem_of_getElem? (i := 1268) (by decide +kernel), List.mem_of_getElem? (i := 1269) (by decide +kernel)⟩
theorem lw_p62 : lw_okq (⟨"WorthLadderModel", "saleLine", "()Z"⟩, 34) := ⟨⟨by decide +kernel, by decide +kernel⟩, List.mem_of_getElem? (i := 1042) (by decide +kernel), List.mem_of_getElem? (i := 1272) (by decide +kernel), List.mem_of_getElem? (i := 1273) (by decide +kernel)⟩
theorem lw_p63 : lw_okq (⟨"WorthLadderModel", "trade", "(I)Z"⟩, 34) := ⟨⟨by decide +kernel, by decide +kernel⟩, List.mem_of_getElem? (i := 1042) (by decide +kernel), List.mem_of_getElem? (i := 1276) (by decide +kernel), List.mem_of_getElem? (i := 1277) (by decide +kernel)⟩
def lw_privs_4 : List (MethodName × Nat) := [(⟨"WorthLadderModel", "line", "()Z"⟩, 34), (⟨"WorthLadderModel", "is", "(J)Z"⟩, 34), (⟨"WorthLadderModel", "partyLine", "()Z"⟩, 34), (⟨"WorthLadderModel", "begins", "(II)Z"⟩, 34), (⟨"WorthLadderModel", "bad", "(I)Z"⟩, 34), (⟨"WorthLadderModel", "name", "(I)Z"⟩, 34), (⟨"WorthLadderModel", "isName", "()Z"⟩, 34), (⟨"WorthLadderModel", "kinLine", "()Z"⟩, 34), (⟨"WorthLadderModel", "known", "(I)Z"⟩, 34), (⟨"WorthLadderModel", "isHere", "(I)Z"⟩, 34), (⟨"WorthLadderModel", "goodLine", "()Z"⟩, 34), (⟨"WorthLadderModel", "after", "(JII)Z"⟩, 34), (⟨"WorthLadderModel", "number", "(II)Z"⟩, 34), (⟨"WorthLadderModel", "assistLine", "()Z"⟩, 34), (⟨"WorthLadderModel", "saleLine", "()Z"⟩, 34), (⟨"WorthLadderModel", "trade", "(I)Z"⟩, 34)]
theorem lw_r4 : ∀ q ∈ lw_privs_4, lw_okq q := List.forall_mem_cons.mpr ⟨lw_p48, List.forall_mem_cons.mpr ⟨lw_p49, List.forall_mem_cons.mpr ⟨lw_p50, List.forall_mem_cons.mpr ⟨lw_p51, List.forall_mem_cons.mpr ⟨lw_p52, List.forall_mem_cons.mpr ⟨lw_p53, List.forall_mem_cons.mpr ⟨lw_p54, List.forall_mem_cons.mpr ⟨lw_p55, List.forall_mem_cons.mpr ⟨lw_p56, List.forall_mem_cons.mpr ⟨lw_p57, List.forall_mem_cons.mpr ⟨lw_p58, List.forall_mem_cons.mpr ⟨lw_p59, List.forall_mem_cons.mpr ⟨lw_p60, List.forall_mem_cons.mpr ⟨lw_p61, List.forall_mem_cons.mpr ⟨lw_p62, List.forall_mem_cons.mpr ⟨lw_p63, fun _ h => absurd h List.not_mem_nil⟩⟩⟩⟩⟩⟩⟩⟩⟩⟩⟩⟩⟩⟩⟩⟩
theorem lw_p64 : lw_okq (⟨"WorthLadderModel", "extras", "(I)Z"⟩, 34) := ⟨⟨by decide +kernel, by decide +kernel⟩, List.mem_of_getElem? (i := 1042) (by decide +kernel), List.mem_of_getElem? (i := 1280) (by decide +kernel), List.mem_of_getElem? (i := 1281) (by decide +kernel)⟩
theorem lw_p65 : lw_okq (⟨"WorthLadderModel", "usesExtra", "(I)Z"⟩, 34) := ⟨⟨by decide +kernel, by decide +kernel⟩, List.mem_of_getElem? (i := 1042) (by decide +kernel), List.mem_of_getElem? (i := 1284) (by decide +kernel), List.mem_of_getElem? (i := 1285) (by decide +kernel)⟩
theorem lw_p66 : lw_okq (⟨"WorthLadderModel", "resoldLine", "()Z"⟩, 34) := ⟨⟨by decide +kernel, by decide +kernel⟩, List.mem_of_getElem? (i := 1042) (by decide +kernel), List.mem_of_getElem? (i := 1291) (by decide +kernel), List.mem_of_getElem? (i := 1292) (by decide +kernel)⟩
theorem lw_p67 : lw_okq (⟨"WorthLadderModel", "madeLine", "()Z"⟩, 34) := ⟨⟨by decide +kernel, by decide +kernel⟩, List.mem_of_getElem? (i := 1042) (by decide +kernel), List.mem_of_getElem? (i := 1295) (by decide +kernel), List.mem_of_getElem? (i := 1296) (by decide +kernel)⟩
theorem lw_p68 : lw_okq (⟨"WorthLadderModel", "bandLine", "()Z"⟩, 34) := ⟨⟨by decide +kernel, by decide +kernel⟩, List.mem_of_getElem? (i := 1042) (by decide +kernel), List.mem_of_getElem? (i := 1299) (by decide +kernel), List.mem_of_getElem? (i := 1300) (by decide +kernel)⟩
theorem lw_p69 : lw_okq (⟨"WorthLadderModel", "ruleLine", "(I)Z"⟩, 34) := ⟨⟨by decide +kernel, by decide +kernel⟩, List.mem_of_getElem? (i := 1042) (by decide +kernel), List.mem_of_getElem? (i := 1303) (by decide +kernel), List.mem_of_getElem? (i := 1304) (by decide +kernel)⟩
theorem lw_p70 : lw_okq (⟨"WorthLadderModel", "ends", "()Z"⟩, 34) := ⟨⟨by decide +kernel, by decide +kernel⟩, List.mem_of_getElem? (i := 1042) (by decide +kernel), List.mem_of_getElem? (i := 1313) (by decide +kernel), List.mem_of_getElem? (i := 1314) (by decide +kernel)⟩
theorem lw_p71 : lw_okq (⟨"WorthLadderModel", "isSale", "(I)Z"⟩, 34) := ⟨⟨by decide +kernel, by decide +kernel⟩, List.mem_of_getElem? (i := 1042) (by decide +kernel), List.mem_of_getElem? (i := 1328) (by decide +kernel), List.mem_of_getElem? (i := 1329) (by decide +kernel)⟩
theorem lw_p72 : lw_okq (⟨"WorthLadderModel", "levelOf", "(I)I"⟩, 34) := ⟨⟨by decide +kernel, by decide +kernel⟩, List.mem_of_getElem? (i := 1042) (by decide +kernel), List.mem_of_getElem? (i := 1336) (by decide +kernel), List.mem_of_getElem? (i := 1337) (by decide +kernel)⟩
theorem lw_p73 : lw_okq (⟨"WorthLadderModel", "of", "(II)I"⟩, 34) := ⟨⟨by decide +kernel, by decide +kernel⟩, List.mem_of_getElem? (i := 1042) (by decide +kernel), List.mem_of_getElem? (i := 1340) (by decide +kernel), List.mem_of_getElem? (i := 1341) (by decide +kernel)⟩
theorem lw_p74 : lw_okq (⟨"WorthLadderModel", "areKin", "(II)Z"⟩, 34) := ⟨⟨by decide +kernel, by decide +kernel⟩, List.mem_of_getElem? (i := 1042) (by decide +kernel), List.mem_of_getElem? (i := 1353) (by decide +kernel), List.mem_of_getElem? (i := 1354) (by decide +kernel)⟩
theorem lw_p75 : lw_okq (⟨"WorthLadderModel", "likeness", "(II)I"⟩, 34) := ⟨⟨by decide +kernel, by decide +kernel⟩, List.mem_of_getElem? (i := 1042) (by decide +kernel), List.mem_of_getElem? (i := 1361) (by decide +kernel), List.mem_of_getElem? (i := 1362) (by decide +kernel)⟩
theorem lw_p76 : lw_okq (⟨"WorthLadderModel", "good", "(II)I"⟩, 34) := ⟨⟨by decide +kernel, by decide +kernel⟩, List.mem_of_getElem? (i := 1042) (by decide +kernel), List.mem_of_getElem? (i := 1365) (by decide +kernel), List.mem_of_getElem? (i := 1366) (by decide +kernel)⟩
theorem lw_p77 : lw_okq (⟨"WorthLadderModel", "assistOf", "(II)I"⟩, 34) := ⟨⟨by decide +kernel, by decide +kernel⟩, List.mem_of_getElem? (i := 1042) (by decide +kernel), List.mem_of_getElem? (i := 1377) (by decide +kernel), List.mem_of_getElem? (i := 1378) (by decide +kernel)⟩
theorem lw_p78 : lw_okq (⟨"WorthLadderModel", "shareOf", "(II)I"⟩, 34) := ⟨⟨by decide +kernel, by decide +kernel⟩, List.mem_of_getElem? (i := 1042) (by decide +kernel), List.mem_of_getElem? (i := 1385) (by decide +kernel), List.mem_of_getElem? (i := 1386) (by decide +kernel)⟩
theorem lw_p79 : lw_okq (⟨"WorthLadderModel", "uses", "(II)Z"⟩, 34) := ⟨⟨by decide +kernel, by decide +kernel⟩, List.mem_of_getElem? (i := 1042) (by decide +kernel), List.mem_of_getElem? (i := 1389) (by decide +kernel), List.mem_of_getElem? (i := 1390) (by decide +kernel)⟩
def lw_privs_5 : List (MethodName × Nat) := [(⟨"WorthLadderModel", "extras", "(I)Z"⟩, 34), (⟨"WorthLadderModel", "usesExtra", "(I)Z"⟩, 34), (⟨"WorthLadderModel", "resoldLine", "()Z"⟩, 34), (⟨"WorthLadderModel", "madeLine", "()Z"⟩, 34), (⟨"WorthLadderModel", "bandLine", "()Z"⟩, 34), (⟨"WorthLadderModel", "ruleLine", "(I)Z"⟩, 34), (⟨"WorthLadderModel", "ends", "()Z"⟩, 34), (⟨"WorthLadderModel", "isSale", "(I)Z"⟩, 34), (⟨"WorthLadderModel", "levelOf", "(I)I"⟩, 34), (⟨"WorthLadderModel", "of", "(II)I"⟩, 34), (⟨"WorthLadderModel", "areKin", "(II)Z"⟩, 34), (⟨"WorthLadderModel", "likeness", "(II)I"⟩, 34), (⟨"WorthLadderModel", "good", "(II)I"⟩, 34), (⟨"WorthLadderModel", "assistOf", "(II)I"⟩, 34), (⟨"WorthLadderModel", "shareOf", "(II)I"⟩, 34), (⟨"WorthLadderModel", "uses", "(II)Z"⟩, 34)]
theorem lw_r5 : ∀ q ∈ lw_privs_5, lw_okq q := List.forall_mem_cons.mpr ⟨lw_p64, List.forall_mem_cons.mpr ⟨lw_p65, List.forall_mem_cons.mpr ⟨lw_p66, List.forall_mem_cons.mpr ⟨lw_p67, List.forall_mem_cons.mpr ⟨lw_p68, List.forall_mem_cons.mpr ⟨lw_p69, List.forall_mem_cons.mpr ⟨lw_p70, List.forall_mem_cons.mpr ⟨lw_p71, List.forall_mem_cons.mpr ⟨lw_p72, List.forall_mem_cons.mpr ⟨lw_p73, List.forall_mem_cons.mpr ⟨lw_p74, List.forall_mem_cons.mpr ⟨lw_p75, List.forall_mem_cons.mpr ⟨lw_p76, List.forall_mem_cons.mpr ⟨lw_p77, List.forall_mem_cons.mpr ⟨lw_p78, List.forall_mem_cons.mpr ⟨lw_p79, fun _ h => absurd h List.not_mem_nil⟩⟩⟩⟩⟩⟩⟩⟩⟩⟩⟩⟩⟩⟩⟩⟩
theorem lw_p80 : lw_okq (⟨"WorthLadderModel", "isThere", "(I)Z"⟩, 34) := ⟨⟨by decide +kernel, by decide +kernel⟩, List.mem_of_getElem? (i := 1042) (by decide +kernel), List.mem_of_getElem? (i := 1393) (by decide +kernel), List.mem_of_getElem? (i := 1394) (by decide +kernel)⟩
theorem lw_p81 : lw_okq (⟨"WorthLadderModel", "looksAhead", "(II)V"⟩, 34) := ⟨⟨by decide +kernel, by decide +kernel⟩, List.mem_of_getElem? (i := 1042) (by decide +kernel), List.mem_of_getElem? (i := 1397) (by decide +kernel), List.mem_of_getElem? (i := 1398) (by decide +kernel)⟩
theorem lw_p82 : lw_okq (⟨"WorthLadderModel", "ownOf", "(I)J"⟩, 34) := ⟨⟨by decide +kernel, by decide +kernel⟩, List.mem_of_getElem? (i := 1042) (by decide +kernel), List.mem_of_getElem? (i := 1409) (by decide +kernel), List.mem_of_getElem? (i := 1410) (by decide +kernel)⟩
theorem lw_p83 : lw_okq (⟨"WorthLadderModel", "ownAt", "(II)J"⟩, 34) := ⟨⟨by decide +kernel, by decide +kernel⟩, List.mem_of_getElem? (i := 1042) (by decide +kernel), List.mem_of_getElem? (i := 1413) (by decide +kernel), List.mem_of_getElem? (i := 1414) (by decide +kernel)⟩
theorem lw_p84 : lw_okq (⟨"WorthLadderModel", "sharesOf", "(I)I"⟩, 34) := ⟨⟨by decide +kernel, by decide +kernel⟩, List.mem_of_getElem? (i := 1042) (by decide +kernel), List.mem_of_getElem? (i := 1418) (by decide +kernel), List.mem_of_getElem? (i := 1419) (by decide +kernel)⟩
theorem lw_p85 : lw_okq (⟨"WorthLadderModel", "byMethod", "(II)J"⟩, 34) := ⟨⟨by decide +kernel, by decide +kernel⟩, List.mem_of_getElem? (i := 1042) (by decide +kernel), List.mem_of_getElem? (i := 1428) (by decide +kernel), List.mem_of_getElem? (i := 1429) (by decide +kernel)⟩
theorem lw_p86 : lw_okq (⟨"WorthLadderModel", "byOwn", "(I)J"⟩, 34) := ⟨⟨by decide +kernel, by decide +kernel⟩, List.mem_of_getElem? (i := 1042) (by decide +kernel), List.mem_of_getElem? (i := 1432) (by decide +kernel), List.mem_of_getElem? (i := 1433) (by decide +kernel)⟩
theorem lw_p87 : lw_okq (⟨"WorthLadderModel", "isBetweenKin", "(I)Z"⟩, 34) := ⟨⟨by decide +kernel, by decide +kernel⟩, List.mem_of_getElem? (i := 1042) (by decide +kernel), List.mem_of_getElem? (i := 1439) (by decide +kernel), List.mem_of_getElem? (i := 1440) (by decide +kernel)⟩
theorem lw_p88 : lw_okq (⟨"WorthLadderModel", "doesPass", "(I)Z"⟩, 34) := ⟨⟨by decide +kernel, by decide +kernel⟩, List.mem_of_getElem? (i := 1042) (by decide +kernel), List.mem_of_getElem? (i := 1443) (by decide +kernel), List.mem_of_getElem? (i := 1444) (by decide +kernel)⟩
theorem lw_p89 : lw_okq (⟨"WorthLadderModel", "laysTests", "(I)V"⟩, 34) := ⟨⟨by decide +kernel, by decide +kernel⟩, List.mem_of_getElem? (i := 1042) (by decide +kernel), List.mem_of_getElem? (i := 1447) (by decide +kernel), List.mem_of_getElem? (i := 1448) (by decide +kernel)⟩
theorem lw_p90 : lw_okq (⟨"WorthLadderModel", "likeSales", "(II)I"⟩, 34) := ⟨⟨by decide +kernel, by decide +kernel⟩, List.mem_of_getElem? (i := 1042) (by decide +kernel), List.mem_of_getElem? (i := 1451) (by decide +kernel), List.mem_of_getElem? (i := 1452) (by decide +kernel)⟩
theorem lw_p91 : lw_okq (⟨"WorthLadderModel", "isNearDay", "(II)Z"⟩, 34) := ⟨⟨by decide +kernel, by decide +kernel⟩, List.mem_of_getElem? (i := 1042) (by decide +kernel), List.mem_of_getElem? (i := 1455) (by decide +kernel), List.mem_of_getElem? (i := 1456) (by decide +kernel)⟩
theorem lw_p92 : lw_okq (⟨"WorthLadderModel", "brought", "(II)J"⟩, 34) := ⟨⟨by decide +kernel, by decide +kernel⟩, List.mem_of_getElem? (i := 1042) (by decide +kernel), List.mem_of_getElem? (i := 1459) (by decide +kernel), List.mem_of_getElem? (i := 1460) (by decide +kernel)⟩
theorem lw_p93 : lw_okq (⟨"WorthLadderModel", "lessOf", "(I)I"⟩, 34) := ⟨⟨by decide +kernel, by decide +kernel⟩, List.mem_of_getElem? (i := 1042) (by decide +kernel), List.mem_of_getElem? (i := 1463) (by decide +kernel), List.mem_of_getElem? (i := 1464) (by decide +kernel)⟩
theorem lw_p94 : lw_okq (⟨"WorthLadderModel", "adds", "(J)V"⟩, 34) := ⟨⟨by decide +kernel, by decide +kernel⟩, List.mem_of_getElem? (i := 1042) (by decide +kernel), List.mem_of_getElem? (i := 1467) (by decide +kernel), List.mem_of_getElem? (i := 1468) (by decide +kernel)⟩
theorem lw_p95 : lw_okq (⟨"WorthLadderModel", "byResold", "(I)J"⟩, 34) := ⟨⟨by decide +kernel, by decide +kernel⟩, List.mem_of_getElem? (i := 1042) (by decide +kernel), List.mem_of_getElem? (i := 1471) (by decide +kernel), List.mem_of_getElem? (i := 1472) (by decide +kernel)⟩
def lw_privs_6 : List (MethodName × Nat) := [(⟨"WorthLadderModel", "isThere", "(I)Z"⟩, 34), (⟨"WorthLadderModel", "looksAhead", "(II)V"⟩, 34), (⟨"WorthLadderModel", "ownOf", "(I)J"⟩, 34), (⟨"WorthLadderModel", "ownAt", "(II)J"⟩, 34), (⟨"WorthLadderModel", "sharesOf", "(I)I"⟩, 34), (⟨"WorthLadderModel", "byMethod", "(II)J"⟩, 34), (⟨"WorthLadderModel", "byOwn", "(I)J"⟩, 34), (⟨"WorthLadderModel", "isBetweenKin", "(I)Z"⟩, 34), (⟨"WorthLadderModel", "doesPass", "(I)Z"⟩, 34), (⟨"WorthLadderModel", "laysTests", "(I)V"⟩, 34), (⟨"WorthLadderModel", "likeSales", "(II)I"⟩, 34), (⟨"WorthLadderModel", "isNearDay", "(II)Z"⟩, 34), (⟨"WorthLadderModel", "brought", "(II)J"⟩, 34), (⟨"WorthLadderModel", "lessOf", "(I)I"⟩, 34), (⟨"WorthLadderModel", "adds", "(J)V"⟩, 34), (⟨"WorthLadderModel", "byResold", "(I)J"⟩, 34)]
theorem lw_r6 : ∀ q ∈ lw_privs_6, lw_okq q := List.forall_mem_cons.mpr ⟨lw_p80, List.forall_mem_cons.mpr ⟨lw_p81, List.forall_mem_cons.mpr ⟨lw_p82, List.forall_mem_cons.mpr ⟨lw_p83, List.forall_mem_cons.mpr ⟨lw_p84, List.forall_mem_cons.mpr ⟨lw_p85, List.forall_mem_cons.mpr ⟨lw_p86, List.forall_mem_cons.mpr ⟨lw_p87, List.forall_mem_cons.mpr ⟨lw_p88, List.forall_mem_cons.mpr ⟨lw_p89, List.forall_mem_cons.mpr ⟨lw_p90, List.forall_mem_cons.mpr ⟨lw_p91, List.forall_mem_cons.mpr ⟨lw_p92, List.forall_mem_cons.mpr ⟨lw_p93, List.forall_mem_cons.mpr ⟨lw_p94, List.forall_mem_cons.mpr ⟨lw_p95, fun _ h => absurd h List.not_mem_nil⟩⟩⟩⟩⟩⟩⟩⟩⟩⟩⟩⟩⟩⟩⟩⟩
theorem lw_p96 : lw_okq (⟨"WorthLadderModel", "bestPrice", "(II)I"⟩, 34) := ⟨⟨by decide +kernel, by decide +kernel⟩, List.mem_of_getElem? (i := 1042) (by decide +kernel), List.mem_of_getElem? (i := 1475) (by decide +kernel), List.mem_of_getElem? (i := 1476) (by decide +kernel)⟩
theorem lw_p97 : lw_okq (⟨"WorthLadderModel", "isRowFor", "(III)Z"⟩, 34) := ⟨⟨by decide +kernel, by decide +kernel⟩, List.mem_of_getElem? (i := 1042) (by decide +kernel), List.mem_of_getElem? (i := 1479) (by decide +kernel), List.mem_of_getElem? (i := 1480) (by decide +kernel)⟩
theorem lw_p98 : lw_okq (⟨"WorthLadderModel", "row", "(II)I"⟩, 34) := ⟨⟨by decide +kernel, by decide +kernel⟩, List.mem_of_getElem? (i := 1042) (by decide +kernel), List.mem_of_getElem? (i := 1483) (by decide +kernel), List.mem_of_getElem? (i := 1484) (by decide +kernel)⟩
theorem lw_p99 : lw_okq (⟨"WorthLadderModel", "piecesAt", "(III)I"⟩, 34) := ⟨⟨by decide +kernel, by decide +kernel⟩, List.mem_of_getElem? (i := 1042) (by decide +kernel), List.mem_of_getElem? (i := 1487) (by decide +kernel), List.mem_of_getElem? (i := 1488) (by decide +kernel)⟩
theorem lw_p100 : lw_okq (⟨"WorthLadderModel", "byMaking", "(I)J"⟩, 34) := ⟨⟨by decide +kernel, by decide +kernel⟩, List.mem_of_getElem? (i := 1042) (by decide +kernel), List.mem_of_getElem? (i := 1491) (by decide +kernel), List.mem_of_getElem? (i := 1492) (by decide +kernel)⟩
theorem lw_p101 : lw_okq (⟨"WorthLadderModel", "isNear", "(JI)Z"⟩, 34) := ⟨⟨by decide +kernel, by decide +kernel⟩, List.mem_of_getElem? (i := 1042) (by decide +kernel), List.mem_of_getElem? (i := 1495) (by decide +kernel), List.mem_of_getElem? (i := 1496) (by decide +kernel)⟩
theorem lw_p102 : lw_okq (⟨"WorthLadderModel", "byOthers", "(II)J"⟩, 34) := ⟨⟨by decide +kernel, by decide +kernel⟩, List.mem_of_getElem? (i := 1042) (by decide +kernel), List.mem_of_getElem? (i := 1499) (by decide +kernel), List.mem_of_getElem? (i := 1500) (by decide +kernel)⟩
theorem lw_p103 : lw_okq (⟨"WorthLadderModel", "isOf", "(III)Z"⟩, 34) := ⟨⟨by decide +kernel, by decide +kernel⟩, List.mem_of_getElem? (i := 1042) (by decide +kernel), List.mem_of_getElem? (i := 1504) (by decide +kernel), List.mem_of_getElem? (i := 1505) (by decide +kernel)⟩
theorem lw_p104 : lw_okq (⟨"WorthLadderModel", "worthOf", "(I)J"⟩, 34) := ⟨⟨by decide +kernel, by decide +kernel⟩, List.mem_of_getElem? (i := 1042) (by decide +kernel), List.mem_of_getElem? (i := 1517) (by decide +kernel), List.mem_of_getElem? (i := 1518) (by decide +kernel)⟩
theorem lw_p105 : lw_okq (⟨"WorthLadderModel", "worthBy", "(II)J"⟩, 34) := ⟨⟨by decide +kernel, by decide +kernel⟩, List.mem_of_getElem? (i := 1042) (by decide +kernel), List.mem_of_getElem? (i := 1521) (by decide +kernel), List.mem_of_getElem? (i := 1522) (by decide +kernel)⟩
theorem lw_p106 : lw_okq (⟨"WorthLadderModel", "dueOf", "(I)J"⟩, 34) := ⟨⟨by decide +kernel, by decide +kernel⟩, List.mem_of_getElem? (i := 1042) (by decide +kernel), List.mem_of_getElem? (i := 1564) (by decide +kernel), List.mem_of_getElem? (i := 1565) (by decide +kernel)⟩
theorem lw_p107 : lw_okq (⟨"WorthLadderModel", "saysWord", "(J)V"⟩, 34) := ⟨⟨by decide +kernel, by decide +kernel⟩, List.mem_of_getElem? (i := 1042) (by decide +kernel), List.mem_of_getElem? (i := 1580) (by decide +kernel), List.mem_of_getElem? (i := 1581) (by decide +kernel)⟩
theorem lw_p108 : lw_okq (⟨"WorthLadderModel", "says", "(I)V"⟩, 34) := ⟨⟨by decide +kernel, by decide +kernel⟩, List.mem_of_getElem? (i := 1042) (by decide +kernel), List.mem_of_getElem? (i := 1585) (by decide +kernel), List.mem_of_getElem? (i := 1586) (by decide +kernel)⟩
theorem lw_p109 : lw_okq (⟨"WorthLadderModel", "saysNumber", "(J)V"⟩, 34) := ⟨⟨by decide +kernel, by decide +kernel⟩, List.mem_of_getElem? (i := 1042) (by decide +kernel), List.mem_of_getElem? (i := 1590) (by decide +kernel), List.mem_of_getElem? (i := 1591) (by decide +kernel)⟩
theorem lw_p110 : lw_okq (⟨"WorthLadderModel", "sets", "(II)I"⟩, 34) := ⟨⟨by decide +kernel, by decide +kernel⟩, List.mem_of_getElem? (i := 1042) (by decide +kernel), List.mem_of_getElem? (i := 1600) (by decide +kernel), List.mem_of_getElem? (i := 1601) (by decide +kernel)⟩
theorem lw_p111 : lw_okq (⟨"WorthLadderModel", "acts", "()V"⟩, 34) := ⟨⟨by decide +kernel, by decide +kernel⟩, List.mem_of_getElem? (i := 1042) (by decide +kernel), List.mem_of_getElem? (i := 1604) (by decide +kernel), List.mem_of_getElem? (i := 1605) (by decide +kernel)⟩
def lw_privs_7 : List (MethodName × Nat) := [(⟨"WorthLadderModel", "bestPrice", "(II)I"⟩, 34), (⟨"WorthLadderModel", "isRowFor", "(III)Z"⟩, 34), (⟨"WorthLadderModel", "row", "(II)I"⟩, 34), (⟨"WorthLadderModel", "piecesAt", "(III)I"⟩, 34), (⟨"WorthLadderModel", "byMaking", "(I)J"⟩, 34), (⟨"WorthLadderModel", "isNear", "(JI)Z"⟩, 34), (⟨"WorthLadderModel", "byOthers", "(II)J"⟩, 34), (⟨"WorthLadderModel", "isOf", "(III)Z"⟩, 34), (⟨"WorthLadderModel", "worthOf", "(I)J"⟩, 34), (⟨"WorthLadderModel", "worthBy", "(II)J"⟩, 34), (⟨"WorthLadderModel", "dueOf", "(I)J"⟩, 34), (⟨"WorthLadderModel", "saysWord", "(J)V"⟩, 34), (⟨"WorthLadderModel", "says", "(I)V"⟩, 34), (⟨"WorthLadderModel", "saysNumber", "(J)V"⟩, 34), (⟨"WorthLadderModel", "sets", "(II)I"⟩, 34), (⟨"WorthLadderModel", "acts", "()V"⟩, 34)]
theorem lw_r7 : ∀ q ∈ lw_privs_7, lw_okq q := List.forall_mem_cons.mpr ⟨lw_p96, List.forall_mem_cons.mpr ⟨lw_p97, List.forall_mem_cons.mpr ⟨lw_p98, List.forall_mem_cons.mpr ⟨lw_p99, List.forall_mem_cons.mpr ⟨lw_p100, List.forall_mem_cons.mpr ⟨lw_p101, List.forall_mem_cons.mpr ⟨lw_p102, List.forall_mem_cons.mpr ⟨lw_p103, List.forall_mem_cons.mpr ⟨lw_p104, List.forall_mem_cons.mpr ⟨lw_p105, List.forall_mem_cons.mpr ⟨lw_p106, List.forall_mem_cons.mpr ⟨lw_p107, List.forall_mem_cons.mpr ⟨lw_p108, List.forall_mem_cons.mpr ⟨lw_p109, List.forall_mem_cons.mpr ⟨lw_p110, List.forall_mem_cons.mpr ⟨lw_p111, fun _ h => absurd h List.not_mem_nil⟩⟩⟩⟩⟩⟩⟩⟩⟩⟩⟩⟩⟩⟩⟩⟩
def lw_privs : List (MethodName × Nat) := lw_privs_1 ++ (lw_privs_2 ++ (lw_privs_3 ++ (lw_privs_4 ++ (lw_privs_5 ++ (lw_privs_6 ++ (lw_privs_7))))))
def lw_tbl : List Cond := k2_sels lw_privs ++ tables_1
theorem lw_privs_ok : ∀ q ∈ lw_privs, lw_okq q := by
  show ∀ q ∈ lw_privs_1 ++ (lw_privs_2 ++ (lw_privs_3 ++ (lw_privs_4 ++ (lw_privs_5 ++ (lw_privs_6 ++ (lw_privs_7)))))), lw_okq q
  exact List.forall_mem_append.mpr ⟨lw_r1, List.forall_mem_append.mpr ⟨lw_r2, List.forall_mem_append.mpr ⟨lw_r3, List.forall_mem_append.mpr ⟨lw_r4, List.forall_mem_append.mpr ⟨lw_r5, List.forall_mem_append.mpr ⟨lw_r6, lw_r7⟩⟩⟩⟩⟩⟩
def RX0 : String := "WorthLadder$Acts"
def TX0 : u_T := fun k => match k with
  | 0 => ("WorthLadder$Acts", "rows", "[[I", true)
  | 1 => ("WorthLadder$Acts", "next", "I", false)
  | _ => ("WorthLadder$Acts", "size", "I", false)
def tyX0 : Nat → FieldType := fun k => match k with
  | 0 => .array (.array .int)
  | 1 => .int
  | _ => .int
abbrev wsX00 : List Cond := u_ws RX0 TX0 3
theorem nmX0 : ∀ a, a < 3 → ∀ b, b < 3 → a ≠ b → (TX0 a).2.1 ≠ (TX0 b).2.1 := by decide +kernel
theorem tyX0_ok : ∀ k, k < 3 → parseFieldDescriptor (TX0 k).2.2.1 = some (tyX0 k) := by decide +kernel
abbrev cX0_init : ByteArray := prog_2_method_1_code
def yX0_init : MethodName := ⟨RX0, "<init>", "()V"⟩
abbrev cX0_clear : ByteArray := prog_2_method_2_code
def yX0_clear : MethodName := ⟨RX0, "clear", "()V"⟩
abbrev cX0_add : ByteArray := prog_2_method_3_code
def yX0_add : MethodName := ⟨RX0, "add", "(IIII)V"⟩
abbrev cX0_takeBack : ByteArray := prog_2_method_4_code
def yX0_takeBack : MethodName := ⟨RX0, "takeBack", "(LWorthLadder$World;)V"⟩
def RX1 : String := "WorthLadder$Ladder"
def TX1 : u_T := fun k => match k with
  | 0 => ("WorthLadder$Ladder", "world", "LWorthLadder$World;", true)
  | 1 => ("WorthLadder$Ladder", "ledger", "LWorthLadder$Ledger;", true)
  | 2 => ("WorthLadder$Ladder", "ownFailures", "[I", true)
  | 3 => ("WorthLadder$Ladder", "tests", "[J", true)
  | 4 => ("WorthLadder$Ladder", "testCount", "I", false)
  | 5 => ("WorthLadder$Ladder", "failure", "I", false)
  | 6 => ("WorthLadder$Ladder", "value", "J", false)
  | 7 => ("WorthLadder$Ladder", "source", "I", false)
  | 8 => ("WorthLadder$Ladder", "reasons", "[I", true)
  | 9 => ("WorthLadder$Ladder", "failures", "I", false)
  | _ => ("WorthLadder$Ladder", "step", "I", false)
def tyX1 : Nat → FieldType := fun k => match k with
  | 0 => .object "WorthLadder$World"
  | 1 => .object "WorthLadder$Ledger"
  | 2 => .array .int
  | 3 => .array .long
  | 4 => .int
  | 5 => .int
  | 6 => .long
  | 7 => .int
  | 8 => .array .int
  | 9 => .int
  | _ => .int
abbrev wsX10 : List Cond := u_ws RX1 TX1 11
theorem nmX1 : ∀ a, a < 11 → ∀ b, b < 11 → a ≠ b → (TX1 a).2.1 ≠ (TX1 b).2.1 := by decide +kernel
theorem tyX1_ok : ∀ k, k < 11 → parseFieldDescriptor (TX1 k).2.2.1 = some (tyX1 k) := by decide +kernel
abbrev cX1_init : ByteArray := prog_3_method_1_code
def yX1_init : MethodName := ⟨RX1, "<init>", "(LWorthLadder$World;LWorthLadder$Ledger;)V"⟩
abbrev cX1_look : ByteArray := prog_3_method_2_code
def yX1_look : MethodName := ⟨RX1, "look", "(I)V"⟩
abbrev cX1_judge : ByteArray := prog_3_method_3_code
def yX1_judge : MethodName := ⟨RX1, "judge", "(I)I"⟩
abbrev cX1_gatherTests : ByteArray := prog_3_method_4_code
def yX1_gatherTests : MethodName := ⟨RX1, "gatherTests", "(I)V"⟩
abbrev cX1_isTestFor : ByteArray := prog_3_method_5_code
def yX1_isTestFor : MethodName := ⟨RX1, "isTestFor", "(II)Z"⟩
abbrev cX1_addTest : ByteArray := prog_3_method_6_code
def yX1_addTest : MethodName := ⟨RX1, "addTest", "(J)V"⟩
abbrev cX1_isNearATest : ByteArray := prog_3_method_7_code
def yX1_isNearATest : MethodName := ⟨RX1, "isNearATest", "(I)Z"⟩
abbrev cX1_leastNear : ByteArray := prog_3_method_8_code
def yX1_leastNear : MethodName := ⟨RX1, "leastNear", "(I)I"⟩
abbrev cX1_ask : ByteArray := prog_3_method_9_code
def yX1_ask : MethodName := ⟨RX1, "ask", "(II)V"⟩
abbrev cX1_sourcesFor : ByteArray := prog_3_method_10_code
def yX1_sourcesFor : MethodName := ⟨RX1, "sourcesFor", "(II)I"⟩
abbrev cX1_fits : ByteArray := prog_3_method_11_code
def yX1_fits : MethodName := ⟨RX1, "fits", "(III)Z"⟩
abbrev cX1_bringLeast : ByteArray := prog_3_method_12_code
def yX1_bringLeast : MethodName := ⟨RX1, "bringLeast", "(II)V"⟩
abbrev cX1_climb : ByteArray := prog_3_method_13_code
def yX1_climb : MethodName := ⟨RX1, "climb", "(IZ)V"⟩
abbrev cX1_answer : ByteArray := prog_3_method_14_code
def yX1_answer : MethodName := ⟨RX1, "answer", "()J"⟩
def RX2 : String := "WorthLadder$Ledger"
def TX2 : u_T := fun k => match k with
  | 0 => ("WorthLadder$Ledger", "world", "LWorthLadder$World;", true)
  | 1 => ("WorthLadder$Ledger", "kinBits", "[I", true)
  | 2 => ("WorthLadder$Ledger", "amongKin", "[Z", true)
  | 3 => ("WorthLadder$Ledger", "gone", "I", false)
  | 4 => ("WorthLadder$Ledger", "levels", "[I", true)
  | 5 => ("WorthLadder$Ledger", "shares", "[[I", true)
  | 6 => ("WorthLadder$Ledger", "owns", "[J", true)
  | _ => ("WorthLadder$Ledger", "resoldPrices", "[I", true)
def tyX2 : Nat → FieldType := fun k => match k with
  | 0 => .object "WorthLadder$World"
  | 1 => .array .int
  | 2 => .array .boolean
  | 3 => .int
  | 4 => .array .int
  | 5 => .array (.array .int)
  | 6 => .array .long
  | _ => .array .int
abbrev wsX20 : List Cond := u_ws RX2 TX2 8
theorem nmX2 : ∀ a, a < 8 → ∀ b, b < 8 → a ≠ b → (TX2 a).2.1 ≠ (TX2 b).2.1 := by decide +kernel
theorem tyX2_ok : ∀ k, k < 8 → parseFieldDescriptor (TX2 k).2.2.1 = some (tyX2 k) := by decide +kernel
abbrev cX2_init : ByteArray := prog_4_method_1_code
def yX2_init : MethodName := ⟨RX2, "<init>", "(LWorthLadder$World;)V"⟩
abbrev cX2_look : ByteArray := prog_4_method_2_code
def yX2_look : MethodName := ⟨RX2, "look", "(I)V"⟩
abbrev cX2_areKin : ByteArray := prog_4_method_3_code
def yX2_areKin : MethodName := ⟨RX2, "areKin", "(II)Z"⟩
abbrev cX2_closeKin : ByteArray := prog_4_method_4_code
def yX2_closeKin : MethodName := ⟨RX2, "closeKin", "()V"⟩
abbrev cX2_shareOut : ByteArray := prog_4_method_5_code
def yX2_shareOut : MethodName := ⟨RX2, "shareOut", "(I)V"⟩
abbrev cX2_firstUser : ByteArray := prog_4_method_6_code
def yX2_firstUser : MethodName := ⟨RX2, "firstUser", "(II)I"⟩
abbrev cX2_priced : ByteArray := prog_4_method_7_code
def yX2_priced : MethodName := ⟨RX2, "priced", "(II)J"⟩
abbrev cX2_broughtAlong : ByteArray := prog_4_method_8_code
def yX2_broughtAlong : MethodName := ⟨RX2, "broughtAlong", "(I)J"⟩
abbrev cX2_priceResold : ByteArray := prog_4_method_9_code
def yX2_priceResold : MethodName := ⟨RX2, "priceResold", "(I)I"⟩
abbrev cX2_rowsFor : ByteArray := prog_4_method_10_code
def yX2_rowsFor : MethodName := ⟨RX2, "rowsFor", "(IZ)I"⟩
abbrev cX2_priceOfMost : ByteArray := prog_4_method_11_code
def yX2_priceOfMost : MethodName := ⟨RX2, "priceOfMost", "(I)I"⟩
abbrev cX2_piecesAt : ByteArray := prog_4_method_12_code
def yX2_piecesAt : MethodName := ⟨RX2, "piecesAt", "(II)I"⟩
abbrev cX2_resoldWorth : ByteArray := prog_4_method_13_code
def yX2_resoldWorth : MethodName := ⟨RX2, "resoldWorth", "(I)J"⟩
abbrev cX2_madeWorth : ByteArray := prog_4_method_14_code
def yX2_madeWorth : MethodName := ⟨RX2, "madeWorth", "(I)J"⟩
abbrev cX2_isAmongKin : ByteArray := prog_4_method_15_code
def yX2_isAmongKin : MethodName := ⟨RX2, "isAmongKin", "(I)Z"⟩
abbrev cX2_isAnother : ByteArray := prog_4_method_16_code
def yX2_isAnother : MethodName := ⟨RX2, "isAnother", "(II)Z"⟩
abbrev cX2_isInWindow : ByteArray := prog_4_method_17_code
def yX2_isInWindow : MethodName := ⟨RX2, "isInWindow", "(II)Z"⟩
abbrev cX2_brought : ByteArray := prog_4_method_18_code
def yX2_brought : MethodName := ⟨RX2, "brought", "(II)J"⟩
abbrev cX2_measure : ByteArray := prog_4_method_19_code
def yX2_measure : MethodName := ⟨RX2, "measure", "(I)J"⟩
abbrev cX2_slack : ByteArray := prog_4_method_20_code
def yX2_slack : MethodName := ⟨RX2, "slack", "(J)J"⟩
def RX3 : String := "WorthLadder$Page"
def TX3 : u_T := fun k => match k with
  | 0 => ("WorthLadder$Page", "bytes", "[B", true)
  | _ => ("WorthLadder$Page", "size", "I", false)
def tyX3 : Nat → FieldType := fun k => match k with
  | 0 => .array .byte
  | _ => .int
abbrev wsX30 : List Cond := u_ws RX3 TX3 2
theorem nmX3 : ∀ a, a < 2 → ∀ b, b < 2 → a ≠ b → (TX3 a).2.1 ≠ (TX3 b).2.1 := by decide +kernel
theorem tyX3_ok : ∀ k, k < 2 → parseFieldDescriptor (TX3 k).2.2.1 = some (tyX3 k) := by decide +kernel
abbrev cX3_init : ByteArray := prog_5_method_1_code
def yX3_init : MethodName := ⟨RX3, "<init>", "()V"⟩
abbrev cX3_add : ByteArray := prog_5_method_2_code
def yX3_add : MethodName := ⟨RX3, "add", "(I)V"⟩
abbrev cX3_addText : ByteArray := prog_5_method_3_code
def yX3_addText : MethodName := ⟨RX3, "addText", "(Ljava/lang/String;)V"⟩
abbrev cX3_addWord : ByteArray := prog_5_method_4_code
def yX3_addWord : MethodName := ⟨RX3, "addWord", "(J)V"⟩
abbrev cX3_addNumber : ByteArray := prog_5_method_5_code
def yX3_addNumber : MethodName := ⟨RX3, "addNumber", "(J)V"⟩
def RX4 : String := "WorthLadder$Reader"
def TX4 : u_T := fun k => match k with
  | 0 => ("WorthLadder$Reader", "tokens", "LWorthLadder$Tokens;", true)
  | 1 => ("WorthLadder$Reader", "draft", "LWorthLadder$World;", true)
  | 2 => ("WorthLadder$Reader", "names", "[J", true)
  | 3 => ("WorthLadder$Reader", "nameSorts", "[I", true)
  | 4 => ("WorthLadder$Reader", "nameNumbers", "[I", true)
  | 5 => ("WorthLadder$Reader", "named", "I", false)
  | 6 => ("WorthLadder$Reader", "rulesTold", "I", false)
  | _ => ("WorthLadder$Reader", "fault", "I", false)
def tyX4 : Nat → FieldType := fun k => match k with
  | 0 => .object "WorthLadder$Tokens"
  | 1 => .object "WorthLadder$World"
  | 2 => .array .long
  | 3 => .array .int
  | 4 => .array .int
  | 5 => .int
  | 6 => .int
  | _ => .int
abbrev wsX40 : List Cond := u_ws RX4 TX4 8
theorem nmX4 : ∀ a, a < 8 → ∀ b, b < 8 → a ≠ b → (TX4 a).2.1 ≠ (TX4 b).2.1 := by decide +kernel
theorem tyX4_ok : ∀ k, k < 8 → parseFieldDescriptor (TX4 k).2.2.1 = some (tyX4 k) := by decide +kernel
abbrev cX4_init : ByteArray := prog_6_method_1_code
def yX4_init : MethodName := ⟨RX4, "<init>", "(LWorthLadder$Tape;LWorthLadder$World;)V"⟩
abbrev cX4_read : ByteArray := prog_6_method_2_code
def yX4_read : MethodName := ⟨RX4, "read", "(I)I"⟩
abbrev cX4_checkStart : ByteArray := prog_6_method_3_code
def yX4_checkStart : MethodName := ⟨RX4, "checkStart", "(I)V"⟩
abbrev cX4_isFull : ByteArray := prog_6_method_4_code
def yX4_isFull : MethodName := ⟨RX4, "isFull", "(I)Z"⟩
abbrev cX4_readLine : ByteArray := prog_6_method_5_code
def yX4_readLine : MethodName := ⟨RX4, "readLine", "(I)V"⟩
abbrev cX4_readParty : ByteArray := prog_6_method_6_code
def yX4_readParty : MethodName := ⟨RX4, "readParty", "()V"⟩
abbrev cX4_readKin : ByteArray := prog_6_method_7_code
def yX4_readKin : MethodName := ⟨RX4, "readKin", "()V"⟩
abbrev cX4_readGood : ByteArray := prog_6_method_8_code
def yX4_readGood : MethodName := ⟨RX4, "readGood", "()V"⟩
abbrev cX4_readAssist : ByteArray := prog_6_method_9_code
def yX4_readAssist : MethodName := ⟨RX4, "readAssist", "()V"⟩
abbrev cX4_readSale : ByteArray := prog_6_method_10_code
def yX4_readSale : MethodName := ⟨RX4, "readSale", "([I)V"⟩
abbrev cX4_readExtras : ByteArray := prog_6_method_11_code
def yX4_readExtras : MethodName := ⟨RX4, "readExtras", "([I)V"⟩
abbrev cX4_readResold : ByteArray := prog_6_method_12_code
def yX4_readResold : MethodName := ⟨RX4, "readResold", "()V"⟩
abbrev cX4_readMade : ByteArray := prog_6_method_13_code
def yX4_readMade : MethodName := ⟨RX4, "readMade", "()V"⟩
abbrev cX4_readBand : ByteArray := prog_6_method_14_code
def yX4_readBand : MethodName := ⟨RX4, "readBand", "()V"⟩
abbrev cX4_readRule : ByteArray := prog_6_method_15_code
def yX4_readRule : MethodName := ⟨RX4, "readRule", "(I)V"⟩
abbrev cX4_fail : ByteArray := prog_6_method_16_code
def yX4_fail : MethodName := ⟨RX4, "fail", "(I)V"⟩
abbrev cX4_expect : ByteArray := prog_6_method_17_code
def yX4_expect : MethodName := ⟨RX4, "expect", "(I)V"⟩
abbrev cX4_number : ByteArray := prog_6_method_18_code
def yX4_number : MethodName := ⟨RX4, "number", "(II)I"⟩
abbrev cX4_giveName : ByteArray := prog_6_method_19_code
def yX4_giveName : MethodName := ⟨RX4, "giveName", "(I)V"⟩
abbrev cX4_toldOf : ByteArray := prog_6_method_20_code
def yX4_toldOf : MethodName := ⟨RX4, "toldOf", "(I)I"⟩
abbrev cX4_find : ByteArray := prog_6_method_21_code
def yX4_find : MethodName := ⟨RX4, "find", "(J)I"⟩
def RX5 : String := "WorthLadder$Spans"
def TX5 : u_T := fun k => match k with
  | 0 => ("WorthLadder$Spans", "world", "LWorthLadder$World;", true)
  | 1 => ("WorthLadder$Spans", "ledger", "LWorthLadder$Ledger;", true)
  | 2 => ("WorthLadder$Spans", "lows", "[I", true)
  | 3 => ("WorthLadder$Spans", "highs", "[I", true)
  | _ => ("WorthLadder$Spans", "count", "I", false)
def tyX5 : Nat → FieldType := fun k => match k with
  | 0 => .object "WorthLadder$World"
  | 1 => .object "WorthLadder$Ledger"
  | 2 => .array .int
  | 3 => .array .int
  | _ => .int
abbrev wsX50 : List Cond := u_ws RX5 TX5 5
theorem nmX5 : ∀ a, a < 5 → ∀ b, b < 5 → a ≠ b → (TX5 a).2.1 ≠ (TX5 b).2.1 := by decide +kernel
theorem tyX5_ok : ∀ k, k < 5 → parseFieldDescriptor (TX5 k).2.2.1 = some (tyX5 k) := by decide +kernel
abbrev cX5_init : ByteArray := prog_7_method_1_code
def yX5_init : MethodName := ⟨RX5, "<init>", "(LWorthLadder$World;LWorthLadder$Ledger;)V"⟩
abbrev cX5_find : ByteArray := prog_7_method_2_code
def yX5_find : MethodName := ⟨RX5, "find", "(I[JI)V"⟩
abbrev cX5_pricesBelow : ByteArray := prog_7_method_3_code
def yX5_pricesBelow : MethodName := ⟨RX5, "pricesBelow", "(IJ)I"⟩
abbrev cX5_size : ByteArray := prog_7_method_4_code
def yX5_size : MethodName := ⟨RX5, "size", "()I"⟩
abbrev cX5_lowestBeyond : ByteArray := prog_7_method_5_code
def yX5_lowestBeyond : MethodName := ⟨RX5, "lowestBeyond", "(I)I"⟩
abbrev cX5_least : ByteArray := prog_7_method_6_code
def yX5_least : MethodName := ⟨RX5, "least", "()I"⟩
abbrev cX5_greatest : ByteArray := prog_7_method_7_code
def yX5_greatest : MethodName := ⟨RX5, "greatest", "()I"⟩
def RX6 : String := "WorthLadder$Tape"
def TX6 : u_T := fun k => match k with
  | 0 => ("WorthLadder$Tape", "bytes", "[B", true)
  | _ => ("WorthLadder$Tape", "size", "I", false)
def tyX6 : Nat → FieldType := fun k => match k with
  | 0 => .array .byte
  | _ => .int
abbrev wsX60 : List Cond := u_ws RX6 TX6 2
theorem nmX6 : ∀ a, a < 2 → ∀ b, b < 2 → a ≠ b → (TX6 a).2.1 ≠ (TX6 b).2.1 := by decide +kernel
theorem tyX6_ok : ∀ k, k < 2 → parseFieldDescriptor (TX6 k).2.2.1 = some (tyX6 k) := by decide +kernel
abbrev cX6_init : ByteArray := prog_8_method_1_code
def yX6_init : MethodName := ⟨RX6, "<init>", "()V"⟩
abbrev cX6_add : ByteArray := prog_8_method_2_code
def yX6_add : MethodName := ⟨RX6, "add", "(I)V"⟩
def RX7 : String := "WorthLadder$Tokens"
def TX7 : u_T := fun k => match k with
  | 0 => ("WorthLadder$Tokens", "bytes", "[B", true)
  | 1 => ("WorthLadder$Tokens", "grammar", "[J", true)
  | 2 => ("WorthLadder$Tokens", "end", "I", false)
  | 3 => ("WorthLadder$Tokens", "at", "I", false)
  | 4 => ("WorthLadder$Tokens", "place", "I", false)
  | 5 => ("WorthLadder$Tokens", "sort", "I", false)
  | 6 => ("WorthLadder$Tokens", "word", "I", false)
  | _ => ("WorthLadder$Tokens", "value", "J", false)
def tyX7 : Nat → FieldType := fun k => match k with
  | 0 => .array .byte
  | 1 => .array .long
  | 2 => .int
  | 3 => .int
  | 4 => .int
  | 5 => .int
  | 6 => .int
  | _ => .long
abbrev wsX70 : List Cond := u_ws RX7 TX7 8
theorem nmX7 : ∀ a, a < 8 → ∀ b, b < 8 → a ≠ b → (TX7 a).2.1 ≠ (TX7 b).2.1 := by decide +kernel
theorem tyX7_ok : ∀ k, k < 8 → parseFieldDescriptor (TX7 k).2.2.1 = some (tyX7 k) := by decide +kernel
abbrev cX7_init : ByteArray := prog_9_method_1_code
def yX7_init : MethodName := ⟨RX7, "<init>", "(LWorthLadder$Tape;)V"⟩
abbrev cX7_learn : ByteArray := prog_9_method_2_code
def yX7_learn : MethodName := ⟨RX7, "learn", "(Ljava/lang/String;I)V"⟩
abbrev cX7_start : ByteArray := prog_9_method_3_code
def yX7_start : MethodName := ⟨RX7, "start", "(I)V"⟩
abbrev cX7_next : ByteArray := prog_9_method_4_code
def yX7_next : MethodName := ⟨RX7, "next", "()V"⟩
abbrev cX7_isName : ByteArray := prog_9_method_5_code
def yX7_isName : MethodName := ⟨RX7, "isName", "()Z"⟩
abbrev cX7_takeWord : ByteArray := prog_9_method_6_code
def yX7_takeWord : MethodName := ⟨RX7, "takeWord", "()V"⟩
abbrev cX7_takeNumber : ByteArray := prog_9_method_7_code
def yX7_takeNumber : MethodName := ⟨RX7, "takeNumber", "()V"⟩
abbrev cX7_isLetter : ByteArray := prog_9_method_8_code
def yX7_isLetter : MethodName := ⟨RX7, "isLetter", "(I)Z"⟩
abbrev cX7_isDigit : ByteArray := prog_9_method_9_code
def yX7_isDigit : MethodName := ⟨RX7, "isDigit", "(I)Z"⟩
def RX8 : String := "WorthLadder$World"
def TX8 : u_T := fun k => match k with
  | 0 => ("WorthLadder$World", "tally", "[I", true)
  | 1 => ("WorthLadder$World", "toldKin", "[I", true)
  | 2 => ("WorthLadder$World", "good", "[[I", true)
  | 3 => ("WorthLadder$World", "assist", "[[I", true)
  | 4 => ("WorthLadder$World", "sale", "[[I", true)
  | 5 => ("WorthLadder$World", "saleName", "[J", true)
  | 6 => ("WorthLadder$World", "resale", "[[I", true)
  | _ => ("WorthLadder$World", "band", "[[I", true)
def tyX8 : Nat → FieldType := fun k => match k with
  | 0 => .array .int
  | 1 => .array .int
  | 2 => .array (.array .int)
  | 3 => .array (.array .int)
  | 4 => .array (.array .int)
  | 5 => .array .long
  | 6 => .array (.array .int)
  | _ => .array (.array .int)
abbrev wsX80 : List Cond := u_ws RX8 TX8 8
theorem nmX8 : ∀ a, a < 8 → ∀ b, b < 8 → a ≠ b → (TX8 a).2.1 ≠ (TX8 b).2.1 := by decide +kernel
theorem tyX8_ok : ∀ k, k < 8 → parseFieldDescriptor (TX8 k).2.2.1 = some (tyX8 k) := by decide +kernel
abbrev cX8_init : ByteArray := prog_10_method_1_code
def yX8_init : MethodName := ⟨RX8, "<init>", "()V"⟩
abbrev cX8_clear : ByteArray := prog_10_method_2_code
def yX8_clear : MethodName := ⟨RX8, "clear", "()V"⟩
abbrev cX8_take : ByteArray := prog_10_method_3_code
def yX8_take : MethodName := ⟨RX8, "take", "(LWorthLadder$World;)V"⟩
abbrev cX8_takeRows : ByteArray := prog_10_method_4_code
def yX8_takeRows : MethodName := ⟨RX8, "takeRows", "([[I[[I)V"⟩
abbrev cX8_has : ByteArray := prog_10_method_5_code
def yX8_has : MethodName := ⟨RX8, "has", "(II)Z"⟩
abbrev cX8_isTold : ByteArray := prog_10_method_6_code
def yX8_isTold : MethodName := ⟨RX8, "isTold", "(II)Z"⟩
abbrev cX8_tell : ByteArray := prog_10_method_7_code
def yX8_tell : MethodName := ⟨RX8, "tell", "(IIZ)V"⟩
abbrev cX8_areSimilar : ByteArray := prog_10_method_8_code
def yX8_areSimilar : MethodName := ⟨RX8, "areSimilar", "(II)Z"⟩
abbrev cX8_levelOf : ByteArray := prog_10_method_9_code
def yX8_levelOf : MethodName := ⟨RX8, "levelOf", "(I)I"⟩
def RX9 : String := "WorthLadder"
def TX9 : u_T := fun k => match k with
  | 0 => ("WorthLadder", "tape", "LWorthLadder$Tape;", true)
  | 1 => ("WorthLadder", "world", "LWorthLadder$World;", true)
  | 2 => ("WorthLadder", "draft", "LWorthLadder$World;", true)
  | 3 => ("WorthLadder", "kept", "[LWorthLadder$World;", true)
  | 4 => ("WorthLadder", "reader", "LWorthLadder$Reader;", true)
  | 5 => ("WorthLadder", "ledger", "LWorthLadder$Ledger;", true)
  | 6 => ("WorthLadder", "ladder", "LWorthLadder$Ladder;", true)
  | 7 => ("WorthLadder", "spans", "LWorthLadder$Spans;", true)
  | 8 => ("WorthLadder", "acts", "LWorthLadder$Acts;", true)
  | 9 => ("WorthLadder", "page", "LWorthLadder$Page;", true)
  | _ => ("WorthLadder", "laidBits", "I", false)
def tyX9 : Nat → FieldType := fun k => match k with
  | 0 => .object "WorthLadder$Tape"
  | 1 => .object "WorthLadder$World"
  | 2 => .object "WorthLadder$World"
  | 3 => .array (.object "WorthLadder$World")
  | 4 => .object "WorthLadder$Reader"
  | 5 => .object "WorthLadder$Ledger"
  | 6 => .object "WorthLadder$Ladder"
  | 7 => .object "WorthLadder$Spans"
  | 8 => .object "WorthLadder$Acts"
  | 9 => .object "WorthLadder$Page"
  | _ => .int
abbrev wsX90 : List Cond := u_ws RX9 TX9 11
theorem nmX9 : ∀ a, a < 11 → ∀ b, b < 11 → a ≠ b → (TX9 a).2.1 ≠ (TX9 b).2.1 := by decide +kernel
theorem tyX9_ok : ∀ k, k < 11 → parseFieldDescriptor (TX9 k).2.2.1 = some (tyX9 k) := by decide +kernel
abbrev cX9_init : ByteArray := prog_1_method_1_code
def yX9_init : MethodName := ⟨RX9, "<init>", "()V"⟩
abbrev cX9_feed : ByteArray := prog_1_method_2_code
def yX9_feed : MethodName := ⟨RX9, "feed", "(IIIII)I"⟩
abbrev cX9_text : ByteArray := prog_1_method_3_code
def yX9_text : MethodName := ⟨RX9, "text", "(I)I"⟩
abbrev cX9_count : ByteArray := prog_1_method_4_code
def yX9_count : MethodName := ⟨RX9, "count", "(I)I"⟩
abbrev cX9_sale : ByteArray := prog_1_method_5_code
def yX9_sale : MethodName := ⟨RX9, "sale", "(II)I"⟩
abbrev cX9_resold : ByteArray := prog_1_method_6_code
def yX9_resold : MethodName := ⟨RX9, "resold", "(II)I"⟩
abbrev cX9_kin : ByteArray := prog_1_method_7_code
def yX9_kin : MethodName := ⟨RX9, "kin", "(II)I"⟩
abbrev cX9_like : ByteArray := prog_1_method_8_code
def yX9_like : MethodName := ⟨RX9, "like", "(II)I"⟩
abbrev cX9_band : ByteArray := prog_1_method_9_code
def yX9_band : MethodName := ⟨RX9, "band", "(II)I"⟩
abbrev cX9_assist : ByteArray := prog_1_method_10_code
def yX9_assist : MethodName := ⟨RX9, "assist", "(II)I"⟩
abbrev cX9_share : ByteArray := prog_1_method_11_code
def yX9_share : MethodName := ⟨RX9, "share", "(II)I"⟩
abbrev cX9_rest : ByteArray := prog_1_method_12_code
def yX9_rest : MethodName := ⟨RX9, "rest", "(I)I"⟩
abbrev cX9_own : ByteArray := prog_1_method_13_code
def yX9_own : MethodName := ⟨RX9, "own", "(I)J"⟩
abbrev cX9_by : ByteArray := prog_1_method_14_code
def yX9_by : MethodName := ⟨RX9, "by", "(II)J"⟩
abbrev cX9_base : ByteArray := prog_1_method_15_code
def yX9_base : MethodName := ⟨RX9, "base", "(II)I"⟩
abbrev cX9_worth : ByteArray := prog_1_method_16_code
def yX9_worth : MethodName := ⟨RX9, "worth", "(I)J"⟩
abbrev cX9_method : ByteArray := prog_1_method_17_code
def yX9_method : MethodName := ⟨RX9, "method", "(I)I"⟩
abbrev cX9_why : ByteArray := prog_1_method_18_code
def yX9_why : MethodName := ⟨RX9, "why", "(II)I"⟩
abbrev cX9_test : ByteArray := prog_1_method_19_code
def yX9_test : MethodName := ⟨RX9, "test", "(II)J"⟩
abbrev cX9_passes : ByteArray := prog_1_method_20_code
def yX9_passes : MethodName := ⟨RX9, "passes", "(I)I"⟩
abbrev cX9_prices : ByteArray := prog_1_method_21_code
def yX9_prices : MethodName := ⟨RX9, "prices", "(II)I"⟩
abbrev cX9_needs : ByteArray := prog_1_method_22_code
def yX9_needs : MethodName := ⟨RX9, "needs", "(I)I"⟩
abbrev cX9_rests : ByteArray := prog_1_method_23_code
def yX9_rests : MethodName := ⟨RX9, "rests", "(I)I"⟩
abbrev cX9_turned : ByteArray := prog_1_method_24_code
def yX9_turned : MethodName := ⟨RX9, "turned", "(I)J"⟩
abbrev cX9_due : ByteArray := prog_1_method_25_code
def yX9_due : MethodName := ⟨RX9, "due", "(I)J"⟩
abbrev cX9_dues : ByteArray := prog_1_method_26_code
def yX9_dues : MethodName := ⟨RX9, "dues", "()J"⟩
abbrev cX9_all : ByteArray := prog_1_method_27_code
def yX9_all : MethodName := ⟨RX9, "all", "(I)I"⟩
abbrev cX9_report : ByteArray := prog_1_method_28_code
def yX9_report : MethodName := ⟨RX9, "report", "(I)I"⟩
abbrev cX9_price : ByteArray := prog_1_method_29_code
def yX9_price : MethodName := ⟨RX9, "price", "(II)I"⟩
abbrev cX9_bind : ByteArray := prog_1_method_30_code
def yX9_bind : MethodName := ⟨RX9, "bind", "(IZ)Z"⟩
abbrev cX9_relate : ByteArray := prog_1_method_31_code
def yX9_relate : MethodName := ⟨RX9, "relate", "(IIZ)Z"⟩
abbrev cX9_rule : ByteArray := prog_1_method_32_code
def yX9_rule : MethodName := ⟨RX9, "rule", "(II)I"⟩
abbrev cX9_turn : ByteArray := prog_1_method_33_code
def yX9_turn : MethodName := ⟨RX9, "turn", "()I"⟩
abbrev cX9_resell : ByteArray := prog_1_method_34_code
def yX9_resell : MethodName := ⟨RX9, "resell", "(IIII)I"⟩
abbrev cX9_spread : ByteArray := prog_1_method_35_code
def yX9_spread : MethodName := ⟨RX9, "spread", "(II)I"⟩
abbrev cX9_lessen : ByteArray := prog_1_method_36_code
def yX9_lessen : MethodName := ⟨RX9, "lessen", "(II)I"⟩
abbrev cX9_undo : ByteArray := prog_1_method_37_code
def yX9_undo : MethodName := ⟨RX9, "undo", "()I"⟩
abbrev cX9_keep : ByteArray := prog_1_method_38_code
def yX9_keep : MethodName := ⟨RX9, "keep", "(IZ)Z"⟩
abbrev cX9_isTurned : ByteArray := prog_1_method_39_code
def yX9_isTurned : MethodName := ⟨RX9, "isTurned", "()Z"⟩
abbrev cX9_worthInOrder : ByteArray := prog_1_method_40_code
def yX9_worthInOrder : MethodName := ⟨RX9, "worthInOrder", "(IZ)J"⟩
abbrev cX9_dutyOn : ByteArray := prog_1_method_41_code
def yX9_dutyOn : MethodName := ⟨RX9, "dutyOn", "(J)J"⟩
abbrev cX9_writeReport : ByteArray := prog_1_method_42_code
def yX9_writeReport : MethodName := ⟨RX9, "writeReport", "()V"⟩
abbrev cX9_cut : ByteArray := prog_1_method_43_code
def yX9_cut : MethodName := ⟨RX9, "cut", "(JJ)J"⟩
def RX10 : String := "WorthLadderModel"
def TX10 : u_T := fun k => match k with
  | 0 => ("WorthLadderModel", "thrown", "I", false)
  | 1 => ("WorthLadderModel", "now", "[I", true)
  | 2 => ("WorthLadderModel", "draft", "[I", true)
  | 3 => ("WorthLadderModel", "past", "[I", true)
  | 4 => ("WorthLadderModel", "kept", "[I", true)
  | 5 => ("WorthLadderModel", "isKept", "[Z", true)
  | 6 => ("WorthLadderModel", "undos", "I", false)
  | 7 => ("WorthLadderModel", "tape", "[B", true)
  | 8 => ("WorthLadderModel", "taped", "I", false)
  | 9 => ("WorthLadderModel", "size", "I", false)
  | 10 => ("WorthLadderModel", "from", "I", false)
  | 11 => ("WorthLadderModel", "next", "I", false)
  | 12 => ("WorthLadderModel", "token", "I", false)
  | 13 => ("WorthLadderModel", "value", "I", false)
  | 14 => ("WorthLadderModel", "word", "J", false)
  | 15 => ("WorthLadderModel", "fault", "I", false)
  | 16 => ("WorthLadderModel", "got", "I", false)
  | 17 => ("WorthLadderModel", "names", "[J", true)
  | 18 => ("WorthLadderModel", "sortOf", "[I", true)
  | 19 => ("WorthLadderModel", "numberOf", "[I", true)
  | 20 => ("WorthLadderModel", "nameMany", "I", false)
  | 21 => ("WorthLadderModel", "saleNames", "[J", true)
  | 22 => ("WorthLadderModel", "toldRules", "I", false)
  | 23 => ("WorthLadderModel", "gone", "I", false)
  | 24 => ("WorthLadderModel", "piecesAhead", "I", false)
  | 25 => ("WorthLadderModel", "salesAhead", "I", false)
  | 26 => ("WorthLadderModel", "tests", "[J", true)
  | 27 => ("WorthLadderModel", "testMany", "I", false)
  | 28 => ("WorthLadderModel", "base", "I", false)
  | 29 => ("WorthLadderModel", "whys", "[I", true)
  | 30 => ("WorthLadderModel", "whyMany", "I", false)
  | 31 => ("WorthLadderModel", "methodNow", "I", false)
  | 32 => ("WorthLadderModel", "out", "[I", true)
  | _ => ("WorthLadderModel", "outs", "I", false)
def tyX10 : Nat → FieldType := fun k => match k with
  | 0 => .int
  | 1 => .array .int
  | 2 => .array .int
  | 3 => .array .int
  | 4 => .array .int
  | 5 => .array .boolean
  | 6 => .int
  | 7 => .array .byte
  | 8 => .int
  | 9 => .int
  | 10 => .int
  | 11 => .int
  | 12 => .int
  | 13 => .int
  | 14 => .long
  | 15 => .int
  | 16 => .int
  | 17 => .array .long
  | 18 => .array .int
  | 19 => .array .int
  | 20 => .int
  | 21 => .array .long
  | 22 => .int
  | 23 => .int
  | 24 => .int
  | 25 => .int
  | 26 => .array .long
  | 27 => .int
  | 28 => .int
  | 29 => .array .int
  | 30 => .int
  | 31 => .int
  | 32 => .array .int
  | _ => .int
abbrev wsX100 : List Cond := u_ws RX10 TX10 34
theorem nmX10 : ∀ a, a < 34 → ∀ b, b < 34 → a ≠ b → (TX10 a).2.1 ≠ (TX10 b).2.1 := by decide +kernel
theorem tyX10_ok : ∀ k, k < 34 → parseFieldDescriptor (TX10 k).2.2.1 = some (tyX10 k) := by decide +kernel
abbrev cX10_thrown : ByteArray := prog_12_method_1_code
def yX10_thrown : MethodName := ⟨RX10, "thrown", "()I"⟩
abbrev cX10_within : ByteArray := prog_12_method_2_code
def yX10_within : MethodName := ⟨RX10, "within", "(JJJ)Z"⟩
abbrev cX10_has : ByteArray := prog_12_method_3_code
def yX10_has : MethodName := ⟨RX10, "has", "(II)Z"⟩
abbrev cX10_init : ByteArray := prog_12_method_4_code
def yX10_init : MethodName := ⟨RX10, "<init>", "()V"⟩
abbrev cX10_rules : ByteArray := prog_12_method_5_code
def yX10_rules : MethodName := ⟨RX10, "rules", "([I)V"⟩
abbrev cX10_copies : ByteArray := prog_12_method_6_code
def yX10_copies : MethodName := ⟨RX10, "copies", "([II[II)V"⟩
abbrev cX10_feed : ByteArray := prog_12_method_7_code
def yX10_feed : MethodName := ⟨RX10, "feed", "(IIIII)I"⟩
abbrev cX10_puts : ByteArray := prog_12_method_8_code
def yX10_puts : MethodName := ⟨RX10, "puts", "(I)V"⟩
abbrev cX10_byteAt : ByteArray := prog_12_method_9_code
def yX10_byteAt : MethodName := ⟨RX10, "byteAt", "(I)I"⟩
abbrev cX10_go : ByteArray := prog_12_method_10_code
def yX10_go : MethodName := ⟨RX10, "go", "()V"⟩
abbrev cX10_is : ByteArray := prog_12_method_11_code
def yX10_is : MethodName := ⟨RX10, "is", "(J)Z"⟩
abbrev cX10_bad : ByteArray := prog_12_method_12_code
def yX10_bad : MethodName := ⟨RX10, "bad", "(I)Z"⟩
abbrev cX10_number : ByteArray := prog_12_method_13_code
def yX10_number : MethodName := ⟨RX10, "number", "(II)Z"⟩
abbrev cX10_after : ByteArray := prog_12_method_14_code
def yX10_after : MethodName := ⟨RX10, "after", "(JII)Z"⟩
abbrev cX10_isName : ByteArray := prog_12_method_15_code
def yX10_isName : MethodName := ⟨RX10, "isName", "()Z"⟩
abbrev cX10_name : ByteArray := prog_12_method_16_code
def yX10_name : MethodName := ⟨RX10, "name", "(I)Z"⟩
abbrev cX10_isHere : ByteArray := prog_12_method_17_code
def yX10_isHere : MethodName := ⟨RX10, "isHere", "(I)Z"⟩
abbrev cX10_known : ByteArray := prog_12_method_18_code
def yX10_known : MethodName := ⟨RX10, "known", "(I)Z"⟩
abbrev cX10_begins : ByteArray := prog_12_method_19_code
def yX10_begins : MethodName := ⟨RX10, "begins", "(II)Z"⟩
abbrev cX10_partyLine : ByteArray := prog_12_method_20_code
def yX10_partyLine : MethodName := ⟨RX10, "partyLine", "()Z"⟩
abbrev cX10_pairOf : ByteArray := prog_12_method_21_code
def yX10_pairOf : MethodName := ⟨RX10, "pairOf", "([III)I"⟩
abbrev cX10_kinLine : ByteArray := prog_12_method_22_code
def yX10_kinLine : MethodName := ⟨RX10, "kinLine", "()Z"⟩
abbrev cX10_goodLine : ByteArray := prog_12_method_23_code
def yX10_goodLine : MethodName := ⟨RX10, "goodLine", "()Z"⟩
abbrev cX10_assistLine : ByteArray := prog_12_method_24_code
def yX10_assistLine : MethodName := ⟨RX10, "assistLine", "()Z"⟩
abbrev cX10_usesExtra : ByteArray := prog_12_method_25_code
def yX10_usesExtra : MethodName := ⟨RX10, "usesExtra", "(I)Z"⟩
abbrev cX10_extras : ByteArray := prog_12_method_26_code
def yX10_extras : MethodName := ⟨RX10, "extras", "(I)Z"⟩
abbrev cX10_saleLine : ByteArray := prog_12_method_27_code
def yX10_saleLine : MethodName := ⟨RX10, "saleLine", "()Z"⟩
abbrev cX10_trade : ByteArray := prog_12_method_28_code
def yX10_trade : MethodName := ⟨RX10, "trade", "(I)Z"⟩
abbrev cX10_resoldLine : ByteArray := prog_12_method_29_code
def yX10_resoldLine : MethodName := ⟨RX10, "resoldLine", "()Z"⟩
abbrev cX10_madeLine : ByteArray := prog_12_method_30_code
def yX10_madeLine : MethodName := ⟨RX10, "madeLine", "()Z"⟩
abbrev cX10_bandLine : ByteArray := prog_12_method_31_code
def yX10_bandLine : MethodName := ⟨RX10, "bandLine", "()Z"⟩
abbrev cX10_ruleLine : ByteArray := prog_12_method_32_code
def yX10_ruleLine : MethodName := ⟨RX10, "ruleLine", "(I)Z"⟩
abbrev cX10_leastOf : ByteArray := prog_12_method_33_code
def yX10_leastOf : MethodName := ⟨RX10, "leastOf", "(I)I"⟩
abbrev cX10_mostOf : ByteArray := prog_12_method_34_code
def yX10_mostOf : MethodName := ⟨RX10, "mostOf", "(I)I"⟩
abbrev cX10_line : ByteArray := prog_12_method_35_code
def yX10_line : MethodName := ⟨RX10, "line", "()Z"⟩
abbrev cX10_ends : ByteArray := prog_12_method_36_code
def yX10_ends : MethodName := ⟨RX10, "ends", "()Z"⟩
abbrev cX10_text : ByteArray := prog_12_method_37_code
def yX10_text : MethodName := ⟨RX10, "text", "(I)I"⟩
abbrev cX10_isIn : ByteArray := prog_12_method_38_code
def yX10_isIn : MethodName := ⟨RX10, "isIn", "(II)Z"⟩
abbrev cX10_count : ByteArray := prog_12_method_39_code
def yX10_count : MethodName := ⟨RX10, "count", "(I)I"⟩
abbrev cX10_isSale : ByteArray := prog_12_method_40_code
def yX10_isSale : MethodName := ⟨RX10, "isSale", "(I)Z"⟩
abbrev cX10_of : ByteArray := prog_12_method_41_code
def yX10_of : MethodName := ⟨RX10, "of", "(II)I"⟩
abbrev cX10_levelOf : ByteArray := prog_12_method_42_code
def yX10_levelOf : MethodName := ⟨RX10, "levelOf", "(I)I"⟩
abbrev cX10_lessOf : ByteArray := prog_12_method_43_code
def yX10_lessOf : MethodName := ⟨RX10, "lessOf", "(I)I"⟩
abbrev cX10_sale : ByteArray := prog_12_method_44_code
def yX10_sale : MethodName := ⟨RX10, "sale", "(II)I"⟩
abbrev cX10_resold : ByteArray := prog_12_method_45_code
def yX10_resold : MethodName := ⟨RX10, "resold", "(II)I"⟩
abbrev cX10_areKin : ByteArray := prog_12_method_46_code
def yX10_areKin : MethodName := ⟨RX10, "areKin", "(II)Z"⟩
abbrev cX10_kin : ByteArray := prog_12_method_47_code
def yX10_kin : MethodName := ⟨RX10, "kin", "(II)I"⟩
abbrev cX10_good : ByteArray := prog_12_method_48_code
def yX10_good : MethodName := ⟨RX10, "good", "(II)I"⟩
abbrev cX10_likeness : ByteArray := prog_12_method_49_code
def yX10_likeness : MethodName := ⟨RX10, "likeness", "(II)I"⟩
abbrev cX10_like : ByteArray := prog_12_method_50_code
def yX10_like : MethodName := ⟨RX10, "like", "(II)I"⟩
abbrev cX10_band : ByteArray := prog_12_method_51_code
def yX10_band : MethodName := ⟨RX10, "band", "(II)I"⟩
abbrev cX10_isThere : ByteArray := prog_12_method_52_code
def yX10_isThere : MethodName := ⟨RX10, "isThere", "(I)Z"⟩
abbrev cX10_assistOf : ByteArray := prog_12_method_53_code
def yX10_assistOf : MethodName := ⟨RX10, "assistOf", "(II)I"⟩
abbrev cX10_uses : ByteArray := prog_12_method_54_code
def yX10_uses : MethodName := ⟨RX10, "uses", "(II)Z"⟩
abbrev cX10_looksAhead : ByteArray := prog_12_method_55_code
def yX10_looksAhead : MethodName := ⟨RX10, "looksAhead", "(II)V"⟩
abbrev cX10_shareOf : ByteArray := prog_12_method_56_code
def yX10_shareOf : MethodName := ⟨RX10, "shareOf", "(II)I"⟩
abbrev cX10_sharesOf : ByteArray := prog_12_method_57_code
def yX10_sharesOf : MethodName := ⟨RX10, "sharesOf", "(I)I"⟩
abbrev cX10_assist : ByteArray := prog_12_method_58_code
def yX10_assist : MethodName := ⟨RX10, "assist", "(II)I"⟩
abbrev cX10_share : ByteArray := prog_12_method_59_code
def yX10_share : MethodName := ⟨RX10, "share", "(II)I"⟩
abbrev cX10_rest : ByteArray := prog_12_method_60_code
def yX10_rest : MethodName := ⟨RX10, "rest", "(I)I"⟩
abbrev cX10_ownAt : ByteArray := prog_12_method_61_code
def yX10_ownAt : MethodName := ⟨RX10, "ownAt", "(II)J"⟩
abbrev cX10_ownOf : ByteArray := prog_12_method_62_code
def yX10_ownOf : MethodName := ⟨RX10, "ownOf", "(I)J"⟩
abbrev cX10_own : ByteArray := prog_12_method_63_code
def yX10_own : MethodName := ⟨RX10, "own", "(I)J"⟩
abbrev cX10_isBetweenKin : ByteArray := prog_12_method_64_code
def yX10_isBetweenKin : MethodName := ⟨RX10, "isBetweenKin", "(I)Z"⟩
abbrev cX10_isNearDay : ByteArray := prog_12_method_65_code
def yX10_isNearDay : MethodName := ⟨RX10, "isNearDay", "(II)Z"⟩
abbrev cX10_likeSales : ByteArray := prog_12_method_66_code
def yX10_likeSales : MethodName := ⟨RX10, "likeSales", "(II)I"⟩
abbrev cX10_brought : ByteArray := prog_12_method_67_code
def yX10_brought : MethodName := ⟨RX10, "brought", "(II)J"⟩
abbrev cX10_adds : ByteArray := prog_12_method_68_code
def yX10_adds : MethodName := ⟨RX10, "adds", "(J)V"⟩
abbrev cX10_laysTests : ByteArray := prog_12_method_69_code
def yX10_laysTests : MethodName := ⟨RX10, "laysTests", "(I)V"⟩
abbrev cX10_isNear : ByteArray := prog_12_method_70_code
def yX10_isNear : MethodName := ⟨RX10, "isNear", "(JI)Z"⟩
abbrev cX10_doesPass : ByteArray := prog_12_method_71_code
def yX10_doesPass : MethodName := ⟨RX10, "doesPass", "(I)Z"⟩
abbrev cX10_fails : ByteArray := prog_12_method_72_code
def yX10_fails : MethodName := ⟨RX10, "fails", "(I)J"⟩
abbrev cX10_byOwn : ByteArray := prog_12_method_73_code
def yX10_byOwn : MethodName := ⟨RX10, "byOwn", "(I)J"⟩
abbrev cX10_byOthers : ByteArray := prog_12_method_74_code
def yX10_byOthers : MethodName := ⟨RX10, "byOthers", "(II)J"⟩
abbrev cX10_isOf : ByteArray := prog_12_method_75_code
def yX10_isOf : MethodName := ⟨RX10, "isOf", "(III)Z"⟩
abbrev cX10_row : ByteArray := prog_12_method_76_code
def yX10_row : MethodName := ⟨RX10, "row", "(II)I"⟩
abbrev cX10_isRowFor : ByteArray := prog_12_method_77_code
def yX10_isRowFor : MethodName := ⟨RX10, "isRowFor", "(III)Z"⟩
abbrev cX10_piecesAt : ByteArray := prog_12_method_78_code
def yX10_piecesAt : MethodName := ⟨RX10, "piecesAt", "(III)I"⟩
abbrev cX10_bestPrice : ByteArray := prog_12_method_79_code
def yX10_bestPrice : MethodName := ⟨RX10, "bestPrice", "(II)I"⟩
abbrev cX10_byResold : ByteArray := prog_12_method_80_code
def yX10_byResold : MethodName := ⟨RX10, "byResold", "(I)J"⟩
abbrev cX10_byMaking : ByteArray := prog_12_method_81_code
def yX10_byMaking : MethodName := ⟨RX10, "byMaking", "(I)J"⟩
abbrev cX10_byMethod : ByteArray := prog_12_method_82_code
def yX10_byMethod : MethodName := ⟨RX10, "byMethod", "(II)J"⟩
abbrev cX10_by : ByteArray := prog_12_method_83_code
def yX10_by : MethodName := ⟨RX10, "by", "(II)J"⟩
abbrev cX10_base : ByteArray := prog_12_method_84_code
def yX10_base : MethodName := ⟨RX10, "base", "(II)I"⟩
abbrev cX10_methodAt : ByteArray := prog_12_method_85_code
def yX10_methodAt : MethodName := ⟨RX10, "methodAt", "(II)I"⟩
abbrev cX10_worthBy : ByteArray := prog_12_method_86_code
def yX10_worthBy : MethodName := ⟨RX10, "worthBy", "(II)J"⟩
abbrev cX10_worthOf : ByteArray := prog_12_method_87_code
def yX10_worthOf : MethodName := ⟨RX10, "worthOf", "(I)J"⟩
abbrev cX10_worth : ByteArray := prog_12_method_88_code
def yX10_worth : MethodName := ⟨RX10, "worth", "(I)J"⟩
abbrev cX10_method : ByteArray := prog_12_method_89_code
def yX10_method : MethodName := ⟨RX10, "method", "(I)I"⟩
abbrev cX10_why : ByteArray := prog_12_method_90_code
def yX10_why : MethodName := ⟨RX10, "why", "(II)I"⟩
abbrev cX10_test : ByteArray := prog_12_method_91_code
def yX10_test : MethodName := ⟨RX10, "test", "(II)J"⟩
abbrev cX10_passes : ByteArray := prog_12_method_92_code
def yX10_passes : MethodName := ⟨RX10, "passes", "(I)I"⟩
abbrev cX10_prices : ByteArray := prog_12_method_93_code
def yX10_prices : MethodName := ⟨RX10, "prices", "(II)I"⟩
abbrev cX10_needs : ByteArray := prog_12_method_94_code
def yX10_needs : MethodName := ⟨RX10, "needs", "(I)I"⟩
abbrev cX10_rests : ByteArray := prog_12_method_95_code
def yX10_rests : MethodName := ⟨RX10, "rests", "(I)I"⟩
abbrev cX10_turned : ByteArray := prog_12_method_96_code
def yX10_turned : MethodName := ⟨RX10, "turned", "(I)J"⟩
abbrev cX10_dueOf : ByteArray := prog_12_method_97_code
def yX10_dueOf : MethodName := ⟨RX10, "dueOf", "(I)J"⟩
abbrev cX10_due : ByteArray := prog_12_method_98_code
def yX10_due : MethodName := ⟨RX10, "due", "(I)J"⟩
abbrev cX10_dues : ByteArray := prog_12_method_99_code
def yX10_dues : MethodName := ⟨RX10, "dues", "()J"⟩
abbrev cX10_all : ByteArray := prog_12_method_100_code
def yX10_all : MethodName := ⟨RX10, "all", "(I)I"⟩
abbrev cX10_says : ByteArray := prog_12_method_101_code
def yX10_says : MethodName := ⟨RX10, "says", "(I)V"⟩
abbrev cX10_saysWord : ByteArray := prog_12_method_102_code
def yX10_saysWord : MethodName := ⟨RX10, "saysWord", "(J)V"⟩
abbrev cX10_saysNumber : ByteArray := prog_12_method_103_code
def yX10_saysNumber : MethodName := ⟨RX10, "saysNumber", "(J)V"⟩
abbrev cX10_report : ByteArray := prog_12_method_104_code
def yX10_report : MethodName := ⟨RX10, "report", "(I)I"⟩
abbrev cX10_acts : ByteArray := prog_12_method_105_code
def yX10_acts : MethodName := ⟨RX10, "acts", "()V"⟩
abbrev cX10_sets : ByteArray := prog_12_method_106_code
def yX10_sets : MethodName := ⟨RX10, "sets", "(II)I"⟩
abbrev cX10_price : ByteArray := prog_12_method_107_code
def yX10_price : MethodName := ⟨RX10, "price", "(II)I"⟩
abbrev cX10_bind : ByteArray := prog_12_method_108_code
def yX10_bind : MethodName := ⟨RX10, "bind", "(IZ)Z"⟩
abbrev cX10_relate : ByteArray := prog_12_method_109_code
def yX10_relate : MethodName := ⟨RX10, "relate", "(IIZ)Z"⟩
abbrev cX10_rule : ByteArray := prog_12_method_110_code
def yX10_rule : MethodName := ⟨RX10, "rule", "(II)I"⟩
abbrev cX10_turn : ByteArray := prog_12_method_111_code
def yX10_turn : MethodName := ⟨RX10, "turn", "()I"⟩
abbrev cX10_resell : ByteArray := prog_12_method_112_code
def yX10_resell : MethodName := ⟨RX10, "resell", "(IIII)I"⟩
abbrev cX10_spread : ByteArray := prog_12_method_113_code
def yX10_spread : MethodName := ⟨RX10, "spread", "(II)I"⟩
abbrev cX10_lessen : ByteArray := prog_12_method_114_code
def yX10_lessen : MethodName := ⟨RX10, "lessen", "(II)I"⟩
abbrev cX10_undo : ByteArray := prog_12_method_115_code
def yX10_undo : MethodName := ⟨RX10, "undo", "()I"⟩
abbrev cX10_keep : ByteArray := prog_12_method_116_code
def yX10_keep : MethodName := ⟨RX10, "keep", "(IZ)Z"⟩
def RJx145de : String := "java/io/Serializable"
def RJx9f9b0 : String := "java/lang/CharSequence"
def RJxb160c : String := "java/lang/Comparable"
def RJ9 : String := "java/lang/Math"
abbrev cJ9_abs_0f7a4 : ByteArray := prog_17_method_59_code
def yJ9_abs_0f7a4 : MethodName := ⟨RJ9, "abs", "(I)I"⟩
abbrev cJ9_abs_067f4 : ByteArray := prog_17_method_61_code
def yJ9_abs_067f4 : MethodName := ⟨RJ9, "abs", "(J)J"⟩
abbrev cJ9_max_7cf53 : ByteArray := prog_17_method_65_code
def yJ9_max_7cf53 : MethodName := ⟨RJ9, "max", "(II)I"⟩
abbrev cJ9_min_7cf53 : ByteArray := prog_17_method_69_code
def yJ9_min_7cf53 : MethodName := ⟨RJ9, "min", "(II)I"⟩
abbrev cJ9_min_f86c9 : ByteArray := prog_17_method_70_code
def yJ9_min_f86c9 : MethodName := ⟨RJ9, "min", "(JJ)J"⟩
def RJ0 : String := "java/lang/String"
def TJ0 : u_T := fun k => match k with
  | _ => ("", "", "", false)
abbrev cJ0_length_8abf5 : ByteArray := prog_19_method_54_code
def yJ0_length_8abf5 : MethodName := ⟨RJ0, "length", "()I"⟩
abbrev cJ0_charAt_5068e : ByteArray := prog_19_method_56_code
def yJ0_charAt_5068e : MethodName := ⟨RJ0, "charAt", "(I)C"⟩
abbrev cJ0_coder_7d493 : ByteArray := prog_19_method_152_code
def yJ0_coder_7d493 : MethodName := ⟨RJ0, "coder", "()B"⟩
abbrev cJ0_isLatin1_aae02 : ByteArray := prog_19_method_154_code
def yJ0_isLatin1_aae02 : MethodName := ⟨RJ0, "isLatin1", "()Z"⟩
abbrev cJ0_checkIndex_df160 : ByteArray := prog_19_method_155_code
def yJ0_checkIndex_df160 : MethodName := ⟨RJ0, "checkIndex", "(II)V"⟩
def RJ1 : String := "java/lang/StringLatin1"
abbrev cJ1_charAt_3b067 : ByteArray := prog_20_method_2_code
def yJ1_charAt_3b067 : MethodName := ⟨RJ1, "charAt", "([BI)C"⟩
def RJ2 : String := "java/lang/StringUTF16"
abbrev cJ2_getChar_3b067 : ByteArray := prog_21_method_5_code
def yJ2_getChar_3b067 : MethodName := ⟨RJ2, "getChar", "([BI)C"⟩
abbrev cJ2_length_9d52b : ByteArray := prog_21_method_6_code
def yJ2_length_9d52b : MethodName := ⟨RJ2, "length", "([B)I"⟩
abbrev cJ2_charAt_3b067 : ByteArray := prog_21_method_83_code
def yJ2_charAt_3b067 : MethodName := ⟨RJ2, "charAt", "([BI)C"⟩
abbrev cJ2_checkIndex_2214a : ByteArray := prog_21_method_91_code
def yJ2_checkIndex_2214a : MethodName := ⟨RJ2, "checkIndex", "(I[B)V"⟩
def RJ10 : String := "java/lang/System"
def RJxfd54e : String := "java/lang/constant/Constable"
def RJx3cf43 : String := "java/lang/constant/ConstantDesc"
def RJ7 : String := "java/util/Arrays"
def TJ7 : u_T := fun k => match k with
  | _ => ("", "", "", false)
abbrev cJ7_fill_53178 : ByteArray := prog_26_method_103_code
def yJ7_fill_53178 : MethodName := ⟨RJ7, "fill", "([II)V"⟩
def RJ3 : String := "jdk/internal/util/Preconditions"
abbrev cJ3_checkIndex_8e157 : ByteArray := prog_28_method_11_code
def yJ3_checkIndex_8e157 : MethodName := ⟨RJ3, "checkIndex", "(IILjava/util/function/BiFunction;)I"⟩
def RL : String := "WorthLadderLaw"
abbrev cL_sale : ByteArray := method_3_code
def yL_sale : MethodName := ⟨RL, "sale", "(LWorthLadder;II[J)I"⟩
abbrev cL_law : ByteArray := code
def yL_law : MethodName := ⟨RL, "law", "([I)Z"⟩
abbrev vwCl : List vw_C := [(RX0, TX0, 3), (RX1, TX1, 11), (RX2, TX2, 8), (RX3, TX3, 2), (RX4, TX4, 8), (RX5, TX5, 5), (RX6, TX6, 2), (RX7, TX7, 8), (RX8, TX8, 8), (RX9, TX9, 11), (RX10, TX10, 34)]
