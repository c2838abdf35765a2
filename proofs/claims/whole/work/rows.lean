section
-- ===== PART A: goes FIRST, ahead of the names: the tables' words, and 'selects' of the private methods out of them =====
/-- a private method of a class that the tables say can be made, by its rows of tables_1 -/
def lw_okq (q : MethodName × Nat) : Prop := (q.1.cls ≠ "java/lang/invoke/MethodHandle" ∧ q.1.cls ≠ "java/lang/invoke/VarHandle") ∧ Cond.instantiable q.1.cls q.2 ∈ tables_1 ∧ Cond.privateMethod q.1 ∈ tables_1 ∧ Cond.instanceMethod q.1 ∈ tables_1
theorem lw_p0 : lw_okq (⟨"FenceHandshakes$History", "startOfRow", "(I)I"⟩, 3) := ⟨⟨by decide +kernel, by decide +kernel⟩, List.mem_of_getElem? (i := 33) (by decide +kernel), List.mem_of_getElem? (i := 153) (by decide +kernel), List.mem_of_getElem? (i := 154) (by decide +kernel)⟩
theorem lw_p1 : lw_okq (⟨"FenceHandshakes", "makeRound", "(LFenceHandshakes$Clans;)I"⟩, 8) := ⟨⟨by decide +kernel, by decide +kernel⟩, List.mem_of_getElem? (i := 13) (by decide +kernel), List.mem_of_getElem? (i := 236) (by decide +kernel), List.mem_of_getElem? (i := 237) (by decide +kernel)⟩
theorem lw_p2 : lw_okq (⟨"FenceHandshakes$Matching", "growsByOne", "(II)Z"⟩, 5) := ⟨⟨by decide +kernel, by decide +kernel⟩, List.mem_of_getElem? (i := 75) (by decide +kernel), List.mem_of_getElem? (i := 265) (by decide +kernel), List.mem_of_getElem? (i := 266) (by decide +kernel)⟩
theorem lw_p3 : lw_okq (⟨"FenceHandshakes$Matching", "findFreeRight", "(II)I"⟩, 5) := ⟨⟨by decide +kernel, by decide +kernel⟩, List.mem_of_getElem? (i := 75) (by decide +kernel), List.mem_of_getElem? (i := 269) (by decide +kernel), List.mem_of_getElem? (i := 270) (by decide +kernel)⟩
theorem lw_p4 : lw_okq (⟨"FenceHandshakes$Matching", "leftsWithoutPartner", "(I)I"⟩, 5) := ⟨⟨by decide +kernel, by decide +kernel⟩, List.mem_of_getElem? (i := 75) (by decide +kernel), List.mem_of_getElem? (i := 273) (by decide +kernel), List.mem_of_getElem? (i := 274) (by decide +kernel)⟩
theorem lw_p5 : lw_okq (⟨"FenceHandshakes$Matching", "join", "(II)V"⟩, 5) := ⟨⟨by decide +kernel, by decide +kernel⟩, List.mem_of_getElem? (i := 75) (by decide +kernel), List.mem_of_getElem? (i := 279) (by decide +kernel), List.mem_of_getElem? (i := 280) (by decide +kernel)⟩
theorem lw_p6 : lw_okq (⟨"FenceHandshakes$Matching", "canTake", "(III)Z"⟩, 5) := ⟨⟨by decide +kernel, by decide +kernel⟩, List.mem_of_getElem? (i := 75) (by decide +kernel), List.mem_of_getElem? (i := 283) (by decide +kernel), List.mem_of_getElem? (i := 284) (by decide +kernel)⟩
theorem lw_p7 : lw_okq (⟨"FenceHandshakes$WishText", "beginGroup", "()V"⟩, 6) := ⟨⟨by decide +kernel, by decide +kernel⟩, List.mem_of_getElem? (i := 49) (by decide +kernel), List.mem_of_getElem? (i := 339) (by decide +kernel), List.mem_of_getElem? (i := 340) (by decide +kernel)⟩
theorem lw_p8 : lw_okq (⟨"FenceHandshakes$WishText", "takesSign", "(C)Z"⟩, 6) := ⟨⟨by decide +kernel, by decide +kernel⟩, List.mem_of_getElem? (i := 49) (by decide +kernel), List.mem_of_getElem? (i := 343) (by decide +kernel), List.mem_of_getElem? (i := 344) (by decide +kernel)⟩
theorem lw_p9 : lw_okq (⟨"FenceHandshakes$WishText", "takesPerson", "(I)Z"⟩, 6) := ⟨⟨by decide +kernel, by decide +kernel⟩, List.mem_of_getElem? (i := 49) (by decide +kernel), List.mem_of_getElem? (i := 347) (by decide +kernel), List.mem_of_getElem? (i := 348) (by decide +kernel)⟩
theorem lw_p10 : lw_okq (⟨"FenceHandshakes$WishText", "endGroup", "()V"⟩, 6) := ⟨⟨by decide +kernel, by decide +kernel⟩, List.mem_of_getElem? (i := 49) (by decide +kernel), List.mem_of_getElem? (i := 351) (by decide +kernel), List.mem_of_getElem? (i := 352) (by decide +kernel)⟩
theorem lw_p11 : lw_okq (⟨"FenceHandshakes$Clans", "amountOfPair", "(III)I"⟩, 1) := ⟨⟨by decide +kernel, by decide +kernel⟩, List.mem_of_getElem? (i := 21) (by decide +kernel), List.mem_of_getElem? (i := 398) (by decide +kernel), List.mem_of_getElem? (i := 399) (by decide +kernel)⟩
theorem lw_p12 : lw_okq (⟨"FenceHandshakes", "reasonAgainst", "(II)I"⟩, 8) := ⟨⟨by decide +kernel, by decide +kernel⟩, List.mem_of_getElem? (i := 13) (by decide +kernel), List.mem_of_getElem? (i := 417) (by decide +kernel), List.mem_of_getElem? (i := 418) (by decide +kernel)⟩
theorem lw_p13 : lw_okq (⟨"FenceHandshakes$Plan", "addWish", "(II)V"⟩, 1) := ⟨⟨by decide +kernel, by decide +kernel⟩, List.mem_of_getElem? (i := 97) (by decide +kernel), List.mem_of_getElem? (i := 449) (by decide +kernel), List.mem_of_getElem? (i := 450) (by decide +kernel)⟩
theorem lw_p14 : lw_okq (⟨"FenceHandshakes$Plan", "leastNumberWithout", "(ZI)I"⟩, 1) := ⟨⟨by decide +kernel, by decide +kernel⟩, List.mem_of_getElem? (i := 97) (by decide +kernel), List.mem_of_getElem? (i := 453) (by decide +kernel), List.mem_of_getElem? (i := 454) (by decide +kernel)⟩
theorem lw_p15 : lw_okq (⟨"FenceHandshakes$Plan", "leftWith", "(II)I"⟩, 1) := ⟨⟨by decide +kernel, by decide +kernel⟩, List.mem_of_getElem? (i := 97) (by decide +kernel), List.mem_of_getElem? (i := 462) (by decide +kernel), List.mem_of_getElem? (i := 463) (by decide +kernel)⟩
def lw_privs_1 : List (MethodName × Nat) := [(⟨"FenceHandshakes$History", "startOfRow", "(I)I"⟩, 3), (⟨"FenceHandshakes", "makeRound", "(LFenceHandshakes$Clans;)I"⟩, 8), (⟨"FenceHandshakes$Matching", "growsByOne", "(II)Z"⟩, 5), (⟨"FenceHandshakes$Matching", "findFreeRight", "(II)I"⟩, 5), (⟨"FenceHandshakes$Matching", "leftsWithoutPartner", "(I)I"⟩, 5), (⟨"FenceHandshakes$Matching", "join", "(II)V"⟩, 5), (⟨"FenceHandshakes$Matching", "canTake", "(III)Z"⟩, 5), (⟨"FenceHandshakes$WishText", "beginGroup", "()V"⟩, 6), (⟨"FenceHandshakes$WishText", "takesSign", "(C)Z"⟩, 6), (⟨"FenceHandshakes$WishText", "takesPerson", "(I)Z"⟩, 6), (⟨"FenceHandshakes$WishText", "endGroup", "()V"⟩, 6), (⟨"FenceHandshakes$Clans", "amountOfPair", "(III)I"⟩, 1), (⟨"FenceHandshakes", "reasonAgainst", "(II)I"⟩, 8), (⟨"FenceHandshakes$Plan", "addWish", "(II)V"⟩, 1), (⟨"FenceHandshakes$Plan", "leastNumberWithout", "(ZI)I"⟩, 1), (⟨"FenceHandshakes$Plan", "leftWith", "(II)I"⟩, 1)]
theorem lw_r1 : ∀ q ∈ lw_privs_1, lw_okq q := List.forall_mem_cons.mpr ⟨lw_p0, List.forall_mem_cons.mpr ⟨lw_p1, List.forall_mem_cons.mpr ⟨lw_p2, List.forall_mem_cons.mpr ⟨lw_p3, List.forall_mem_cons.mpr ⟨lw_p4, List.forall_mem_cons.mpr ⟨lw_p5, List.forall_mem_cons.mpr ⟨lw_p6, List.forall_mem_cons.mpr ⟨lw_p7, List.forall_mem_cons.mpr ⟨lw_p8, List.forall_mem_cons.mpr ⟨lw_p9, List.forall_mem_cons.mpr ⟨lw_p10, List.forall_mem_cons.mpr ⟨lw_p11, List.forall_mem_cons.mpr ⟨lw_p12, List.forall_mem_cons.mpr ⟨lw_p13, List.forall_mem_cons.mpr ⟨lw_p14, List.forall_mem_cons.mpr ⟨lw_p15, fun _ h => absurd h List.not_mem_nil⟩⟩⟩⟩⟩⟩⟩⟩⟩⟩⟩⟩⟩⟩⟩⟩
theorem lw_p16 : lw_okq (⟨"FenceHandshakes$Plan", "exchangeAlongPath", "(III)V"⟩, 1) := ⟨⟨by decide +kernel, by decide +kernel⟩, List.mem_of_getElem? (i := 97) (by decide +kernel), List.mem_of_getElem? (i := 466) (by decide +kernel), List.mem_of_getElem? (i := 467) (by decide +kernel)⟩
theorem lw_p17 : lw_okq (⟨"FenceHandshakes$Plan", "rightWith", "(II)I"⟩, 1) := ⟨⟨by decide +kernel, by decide +kernel⟩, List.mem_of_getElem? (i := 97) (by decide +kernel), List.mem_of_getElem? (i := 471) (by decide +kernel), List.mem_of_getElem? (i := 472) (by decide +kernel)⟩
theorem lw_p18 : lw_okq (⟨"FenceHandshakes$Plan", "setNumber", "(III)V"⟩, 1) := ⟨⟨by decide +kernel, by decide +kernel⟩, List.mem_of_getElem? (i := 97) (by decide +kernel), List.mem_of_getElem? (i := 475) (by decide +kernel), List.mem_of_getElem? (i := 476) (by decide +kernel)⟩
theorem lw_p19 : lw_okq (⟨"FenceHandshakes", "greatestSize", "(LFenceHandshakes$Clans;)I"⟩, 8) := ⟨⟨by decide +kernel, by decide +kernel⟩, List.mem_of_getElem? (i := 13) (by decide +kernel), List.mem_of_getElem? (i := 497) (by decide +kernel), List.mem_of_getElem? (i := 498) (by decide +kernel)⟩
theorem lw_p20 : lw_okq (⟨"FenceHandshakes", "mostPossibleOfAPerson", "()I"⟩, 8) := ⟨⟨by decide +kernel, by decide +kernel⟩, List.mem_of_getElem? (i := 13) (by decide +kernel), List.mem_of_getElem? (i := 501) (by decide +kernel), List.mem_of_getElem? (i := 502) (by decide +kernel)⟩
theorem lw_p21 : lw_okq (⟨"FenceHandshakesModel", "isOpen", "(II)Z"⟩, 18) := ⟨⟨by decide +kernel, by decide +kernel⟩, List.mem_of_getElem? (i := 524) (by decide +kernel), List.mem_of_getElem? (i := 598) (by decide +kernel), List.mem_of_getElem? (i := 599) (by decide +kernel)⟩
theorem lw_p22 : lw_okq (⟨"FenceHandshakesModel", "records", "()V"⟩, 18) := ⟨⟨by decide +kernel, by decide +kernel⟩, List.mem_of_getElem? (i := 524) (by decide +kernel), List.mem_of_getElem? (i := 602) (by decide +kernel), List.mem_of_getElem? (i := 603) (by decide +kernel)⟩
theorem lw_p23 : lw_okq (⟨"FenceHandshakesModel", "openMany", "()I"⟩, 18) := ⟨⟨by decide +kernel, by decide +kernel⟩, List.mem_of_getElem? (i := 524) (by decide +kernel), List.mem_of_getElem? (i := 606) (by decide +kernel), List.mem_of_getElem? (i := 607) (by decide +kernel)⟩
theorem lw_p24 : lw_okq (⟨"FenceHandshakesModel", "shakes", "()I"⟩, 18) := ⟨⟨by decide +kernel, by decide +kernel⟩, List.mem_of_getElem? (i := 524) (by decide +kernel), List.mem_of_getElem? (i := 637) (by decide +kernel), List.mem_of_getElem? (i := 638) (by decide +kernel)⟩
theorem lw_p25 : lw_okq (⟨"FenceHandshakesModel", "matches", "()I"⟩, 18) := ⟨⟨by decide +kernel, by decide +kernel⟩, List.mem_of_getElem? (i := 524) (by decide +kernel), List.mem_of_getElem? (i := 641) (by decide +kernel), List.mem_of_getElem? (i := 642) (by decide +kernel)⟩
theorem lw_p26 : lw_okq (⟨"FenceHandshakesModel", "findsCan", "(I)V"⟩, 18) := ⟨⟨by decide +kernel, by decide +kernel⟩, List.mem_of_getElem? (i := 524) (by decide +kernel), List.mem_of_getElem? (i := 645) (by decide +kernel), List.mem_of_getElem? (i := 646) (by decide +kernel)⟩
theorem lw_p27 : lw_okq (⟨"FenceHandshakesModel", "isPossible", "(II)Z"⟩, 18) := ⟨⟨by decide +kernel, by decide +kernel⟩, List.mem_of_getElem? (i := 524) (by decide +kernel), List.mem_of_getElem? (i := 649) (by decide +kernel), List.mem_of_getElem? (i := 650) (by decide +kernel)⟩
theorem lw_p28 : lw_okq (⟨"FenceHandshakesModel", "canMeet", "(II)Z"⟩, 18) := ⟨⟨by decide +kernel, by decide +kernel⟩, List.mem_of_getElem? (i := 524) (by decide +kernel), List.mem_of_getElem? (i := 653) (by decide +kernel), List.mem_of_getElem? (i := 654) (by decide +kernel)⟩
theorem lw_p29 : lw_okq (⟨"FenceHandshakesModel", "areLinked", "(II)Z"⟩, 18) := ⟨⟨by decide +kernel, by decide +kernel⟩, List.mem_of_getElem? (i := 524) (by decide +kernel), List.mem_of_getElem? (i := 657) (by decide +kernel), List.mem_of_getElem? (i := 658) (by decide +kernel)⟩
theorem lw_p30 : lw_okq (⟨"FenceHandshakesModel", "fills", "()I"⟩, 18) := ⟨⟨by decide +kernel, by decide +kernel⟩, List.mem_of_getElem? (i := 524) (by decide +kernel), List.mem_of_getElem? (i := 661) (by decide +kernel), List.mem_of_getElem? (i := 662) (by decide +kernel)⟩
theorem lw_p31 : lw_okq (⟨"FenceHandshakesModel", "bestFor", "(II)I"⟩, 18) := ⟨⟨by decide +kernel, by decide +kernel⟩, List.mem_of_getElem? (i := 524) (by decide +kernel), List.mem_of_getElem? (i := 665) (by decide +kernel), List.mem_of_getElem? (i := 666) (by decide +kernel)⟩
def lw_privs_2 : List (MethodName × Nat) := [(⟨"FenceHandshakes$Plan", "exchangeAlongPath", "(III)V"⟩, 1), (⟨"FenceHandshakes$Plan", "rightWith", "(II)I"⟩, 1), (⟨"FenceHandshakes$Plan", "setNumber", "(III)V"⟩, 1), (⟨"FenceHandshakes", "greatestSize", "(LFenceHandshakes$Clans;)I"⟩, 8), (⟨"FenceHandshakes", "mostPossibleOfAPerson", "()I"⟩, 8), (⟨"FenceHandshakesModel", "isOpen", "(II)Z"⟩, 18), (⟨"FenceHandshakesModel", "records", "()V"⟩, 18), (⟨"FenceHandshakesModel", "openMany", "()I"⟩, 18), (⟨"FenceHandshakesModel", "shakes", "()I"⟩, 18), (⟨"FenceHandshakesModel", "matches", "()I"⟩, 18), (⟨"FenceHandshakesModel", "findsCan", "(I)V"⟩, 18), (⟨"FenceHandshakesModel", "isPossible", "(II)Z"⟩, 18), (⟨"FenceHandshakesModel", "canMeet", "(II)Z"⟩, 18), (⟨"FenceHandshakesModel", "areLinked", "(II)Z"⟩, 18), (⟨"FenceHandshakesModel", "fills", "()I"⟩, 18), (⟨"FenceHandshakesModel", "bestFor", "(II)I"⟩, 18)]
theorem lw_r2 : ∀ q ∈ lw_privs_2, lw_okq q := List.forall_mem_cons.mpr ⟨lw_p16, List.forall_mem_cons.mpr ⟨lw_p17, List.forall_mem_cons.mpr ⟨lw_p18, List.forall_mem_cons.mpr ⟨lw_p19, List.forall_mem_cons.mpr ⟨lw_p20, List.forall_mem_cons.mpr ⟨lw_p21, List.forall_mem_cons.mpr ⟨lw_p22, List.forall_mem_cons.mpr ⟨lw_p23, List.forall_mem_cons.mpr ⟨lw_p24, List.forall_mem_cons.mpr ⟨lw_p25, List.forall_mem_cons.mpr ⟨lw_p26, List.forall_mem_cons.mpr ⟨lw_p27, List.forall_mem_cons.mpr ⟨lw_p28, List.forall_mem_cons.mpr ⟨lw_p29, List.forall_mem_cons.mpr ⟨lw_p30, List.forall_mem_cons.mpr ⟨lw_p31, fun _ h => absurd h List.not_mem_nil⟩⟩⟩⟩⟩⟩⟩⟩⟩⟩⟩⟩⟩⟩⟩⟩
theorem lw_p32 : lw_okq (⟨"FenceHandshakesModel", "sizeOf", "(II)I"⟩, 18) := ⟨⟨by decide +kernel, by decide +kernel⟩, List.mem_of_getElem? (i := 524) (by decide +kernel), List.mem_of_getElem? (i := 669) (by decide +kernel), List.mem_of_getElem? (i := 670) (by decide +kernel)⟩
theorem lw_p33 : lw_okq (⟨"FenceHandshakesModel", "firstFor", "(II)I"⟩, 18) := ⟨⟨by decide +kernel, by decide +kernel⟩, List.mem_of_getElem? (i := 524) (by decide +kernel), List.mem_of_getElem? (i := 673) (by decide +kernel), List.mem_of_getElem? (i := 674) (by decide +kernel)⟩
theorem lw_p34 : lw_okq (⟨"FenceHandshakesModel", "reads", "()I"⟩, 18) := ⟨⟨by decide +kernel, by decide +kernel⟩, List.mem_of_getElem? (i := 524) (by decide +kernel), List.mem_of_getElem? (i := 689) (by decide +kernel), List.mem_of_getElem? (i := 690) (by decide +kernel)⟩
theorem lw_p35 : lw_okq (⟨"FenceHandshakesModel", "readsGroup", "()V"⟩, 18) := ⟨⟨by decide +kernel, by decide +kernel⟩, List.mem_of_getElem? (i := 524) (by decide +kernel), List.mem_of_getElem? (i := 693) (by decide +kernel), List.mem_of_getElem? (i := 694) (by decide +kernel)⟩
theorem lw_p36 : lw_okq (⟨"FenceHandshakesModel", "people", "()I"⟩, 18) := ⟨⟨by decide +kernel, by decide +kernel⟩, List.mem_of_getElem? (i := 524) (by decide +kernel), List.mem_of_getElem? (i := 697) (by decide +kernel), List.mem_of_getElem? (i := 698) (by decide +kernel)⟩
theorem lw_p37 : lw_okq (⟨"FenceHandshakesModel", "sign", "()I"⟩, 18) := ⟨⟨by decide +kernel, by decide +kernel⟩, List.mem_of_getElem? (i := 524) (by decide +kernel), List.mem_of_getElem? (i := 701) (by decide +kernel), List.mem_of_getElem? (i := 702) (by decide +kernel)⟩
theorem lw_p38 : lw_okq (⟨"FenceHandshakesModel", "adds", "(II)I"⟩, 18) := ⟨⟨by decide +kernel, by decide +kernel⟩, List.mem_of_getElem? (i := 524) (by decide +kernel), List.mem_of_getElem? (i := 709) (by decide +kernel), List.mem_of_getElem? (i := 710) (by decide +kernel)⟩
theorem lw_p39 : lw_okq (⟨"FenceHandshakesModel", "ofTwo", "(III)I"⟩, 18) := ⟨⟨by decide +kernel, by decide +kernel⟩, List.mem_of_getElem? (i := 524) (by decide +kernel), List.mem_of_getElem? (i := 729) (by decide +kernel), List.mem_of_getElem? (i := 730) (by decide +kernel)⟩
theorem lw_p40 : lw_okq (⟨"FenceHandshakesModel", "why", "(II)I"⟩, 18) := ⟨⟨by decide +kernel, by decide +kernel⟩, List.mem_of_getElem? (i := 524) (by decide +kernel), List.mem_of_getElem? (i := 737) (by decide +kernel), List.mem_of_getElem? (i := 738) (by decide +kernel)⟩
theorem lw_p41 : lw_okq (⟨"FenceHandshakesModel", "plans", "()V"⟩, 18) := ⟨⟨by decide +kernel, by decide +kernel⟩, List.mem_of_getElem? (i := 524) (by decide +kernel), List.mem_of_getElem? (i := 757) (by decide +kernel), List.mem_of_getElem? (i := 758) (by decide +kernel)⟩
theorem lw_p42 : lw_okq (⟨"FenceHandshakesModel", "leastFree", "(ZI)I"⟩, 18) := ⟨⟨by decide +kernel, by decide +kernel⟩, List.mem_of_getElem? (i := 524) (by decide +kernel), List.mem_of_getElem? (i := 761) (by decide +kernel), List.mem_of_getElem? (i := 762) (by decide +kernel)⟩
theorem lw_p43 : lw_okq (⟨"FenceHandshakesModel", "wishWith", "(ZII)I"⟩, 18) := ⟨⟨by decide +kernel, by decide +kernel⟩, List.mem_of_getElem? (i := 524) (by decide +kernel), List.mem_of_getElem? (i := 765) (by decide +kernel), List.mem_of_getElem? (i := 766) (by decide +kernel)⟩
theorem lw_p44 : lw_okq (⟨"FenceHandshakesModel", "changes", "(III)V"⟩, 18) := ⟨⟨by decide +kernel, by decide +kernel⟩, List.mem_of_getElem? (i := 524) (by decide +kernel), List.mem_of_getElem? (i := 769) (by decide +kernel), List.mem_of_getElem? (i := 770) (by decide +kernel)⟩
theorem lw_p45 : lw_okq (⟨"FenceHandshakesModel", "possibleMany", "()I"⟩, 18) := ⟨⟨by decide +kernel, by decide +kernel⟩, List.mem_of_getElem? (i := 524) (by decide +kernel), List.mem_of_getElem? (i := 777) (by decide +kernel), List.mem_of_getElem? (i := 778) (by decide +kernel)⟩
theorem lw_p46 : lw_okq (⟨"FenceHandshakesModel", "feuds", "()I"⟩, 18) := ⟨⟨by decide +kernel, by decide +kernel⟩, List.mem_of_getElem? (i := 524) (by decide +kernel), List.mem_of_getElem? (i := 781) (by decide +kernel), List.mem_of_getElem? (i := 782) (by decide +kernel)⟩
theorem lw_p47 : lw_okq (⟨"FenceHandshakesModel", "links", "()I"⟩, 18) := ⟨⟨by decide +kernel, by decide +kernel⟩, List.mem_of_getElem? (i := 524) (by decide +kernel), List.mem_of_getElem? (i := 785) (by decide +kernel), List.mem_of_getElem? (i := 786) (by decide +kernel)⟩
def lw_privs_3 : List (MethodName × Nat) := [(⟨"FenceHandshakesModel", "sizeOf", "(II)I"⟩, 18), (⟨"FenceHandshakesModel", "firstFor", "(II)I"⟩, 18), (⟨"FenceHandshakesModel", "reads", "()I"⟩, 18), (⟨"FenceHandshakesModel", "readsGroup", "()V"⟩, 18), (⟨"FenceHandshakesModel", "people", "()I"⟩, 18), (⟨"FenceHandshakesModel", "sign", "()I"⟩, 18), (⟨"FenceHandshakesModel", "adds", "(II)I"⟩, 18), (⟨"FenceHandshakesModel", "ofTwo", "(III)I"⟩, 18), (⟨"FenceHandshakesModel", "why", "(II)I"⟩, 18), (⟨"FenceHandshakesModel", "plans", "()V"⟩, 18), (⟨"FenceHandshakesModel", "leastFree", "(ZI)I"⟩, 18), (⟨"FenceHandshakesModel", "wishWith", "(ZII)I"⟩, 18), (⟨"FenceHandshakesModel", "changes", "(III)V"⟩, 18), (⟨"FenceHandshakesModel", "possibleMany", "()I"⟩, 18), (⟨"FenceHandshakesModel", "feuds", "()I"⟩, 18), (⟨"FenceHandshakesModel", "links", "()I"⟩, 18)]
theorem lw_r3 : ∀ q ∈ lw_privs_3, lw_okq q := List.forall_mem_cons.mpr ⟨lw_p32, List.forall_mem_cons.mpr ⟨lw_p33, List.forall_mem_cons.mpr ⟨lw_p34, List.forall_mem_cons.mpr ⟨lw_p35, List.forall_mem_cons.mpr ⟨lw_p36, List.forall_mem_cons.mpr ⟨lw_p37, List.forall_mem_cons.mpr ⟨lw_p38, List.forall_mem_cons.mpr ⟨lw_p39, List.forall_mem_cons.mpr ⟨lw_p40, List.forall_mem_cons.mpr ⟨lw_p41, List.forall_mem_cons.mpr ⟨lw_p42, List.forall_mem_cons.mpr ⟨lw_p43, List.forall_mem_cons.mpr ⟨lw_p44, List.forall_mem_cons.mpr ⟨lw_p45, List.forall_mem_cons.mpr ⟨lw_p46, List.forall_mem_cons.mpr ⟨lw_p47, fun _ h => absurd h List.not_mem_nil⟩⟩⟩⟩⟩⟩⟩⟩⟩⟩⟩⟩⟩⟩⟩⟩
theorem lw_p48 : lw_okq (⟨"FenceHandshakesModel", "shaken", "()I"⟩, 18) := ⟨⟨by decide +kernel, by decide +kernel⟩, List.mem_of_getElem? (i := 524) (by decide +kernel), List.mem_of_getElem? (i := 789) (by decide +kernel), List.mem_of_getElem? (i := 790) (by decide +kernel)⟩
theorem lw_p49 : lw_okq (⟨"FenceHandshakesModel", "greatest", "()I"⟩, 18) := ⟨⟨by decide +kernel, by decide +kernel⟩, List.mem_of_getElem? (i := 524) (by decide +kernel), List.mem_of_getElem? (i := 793) (by decide +kernel), List.mem_of_getElem? (i := 794) (by decide +kernel)⟩
theorem lw_p50 : lw_okq (⟨"FenceHandshakesModel", "putAside", "()V"⟩, 18) := ⟨⟨by decide +kernel, by decide +kernel⟩, List.mem_of_getElem? (i := 524) (by decide +kernel), List.mem_of_getElem? (i := 801) (by decide +kernel), List.mem_of_getElem? (i := 802) (by decide +kernel)⟩
theorem lw_p51 : lw_okq (⟨"FenceHandshakesModel", "takeBack", "()V"⟩, 18) := ⟨⟨by decide +kernel, by decide +kernel⟩, List.mem_of_getElem? (i := 524) (by decide +kernel), List.mem_of_getElem? (i := 805) (by decide +kernel), List.mem_of_getElem? (i := 806) (by decide +kernel)⟩
def lw_privs_4 : List (MethodName × Nat) := [(⟨"FenceHandshakesModel", "shaken", "()I"⟩, 18), (⟨"FenceHandshakesModel", "greatest", "()I"⟩, 18), (⟨"FenceHandshakesModel", "putAside", "()V"⟩, 18), (⟨"FenceHandshakesModel", "takeBack", "()V"⟩, 18)]
theorem lw_r4 : ∀ q ∈ lw_privs_4, lw_okq q := List.forall_mem_cons.mpr ⟨lw_p48, List.forall_mem_cons.mpr ⟨lw_p49, List.forall_mem_cons.mpr ⟨lw_p50, List.forall_mem_cons.mpr ⟨lw_p51, fun _ h => absurd h List.not_mem_nil⟩⟩⟩⟩
def lw_privs : List (MethodName × Nat) := lw_privs_1 ++ (lw_privs_2 ++ (lw_privs_3 ++ (lw_privs_4)))
def lw_tbl : List Cond := k2_sels lw_privs ++ tables_1
theorem lw_privs_ok : ∀ q ∈ lw_privs, lw_okq q := by
  show ∀ q ∈ lw_privs_1 ++ (lw_privs_2 ++ (lw_privs_3 ++ (lw_privs_4))), lw_okq q
  exact List.forall_mem_append.mpr ⟨lw_r1, List.forall_mem_append.mpr ⟨lw_r2, List.forall_mem_append.mpr ⟨lw_r3, lw_r4⟩⟩⟩
/-- the streams that the claim lets the run draw from -/
abbrev lw_cs : List Choice := [Jvm.Choice.named "NaN.bits"]
theorem lw_bits : nanBits ∈ lw_cs := by first | decide | exact List.mem_cons_self | simp [lw_cs, nanBits]
-- ===== end of PART A; then your names; then what follows =====
end
section
/-! ===== BEGIN words of one list among another's, by their places ===== -/
theorem goodIn_r {big : List Cond} (ws : List Cond) (ps : List Nat) (hp : ws = ps.filterMap (fun i => big[i]?)) (h : ws.all goodWord = true) : GoodIn big ws := by
  intro w hw
  have h1 := List.all_eq_true.mp h w hw
  rw [hp] at hw
  obtain ⟨i, -, hi⟩ := List.mem_filterMap.mp hw
  have hm : w ∈ big := by first | exact List.mem_of_getElem? hi | exact List.getElem?_mem hi
  exact ⟨hm, good_of_word h1⟩
theorem goodIn_app {big a b : List Cond} (ha : GoodIn big a) (hb : GoodIn big b) : GoodIn big (a ++ b) := fun w h => (List.mem_append.mp h).elim (ha w) (hb w)
theorem goodIn_ca {big a b : List Cond} {c : Cond} (ha : GoodIn big (c :: a)) (hb : GoodIn big b) : GoodIn big (c :: (a ++ b)) := fun w h => (List.mem_cons.mp h).elim (fun e => ha w (List.mem_cons.mpr (Or.inl e))) (fun h => (List.mem_append.mp h).elim (fun h => ha w (List.mem_cons.mpr (Or.inr h))) (hb w))
theorem goodIn_sub {big ws : List Cond} (hm : ∀ w ∈ ws, w ∈ big) (h : ws.all goodWord = true) : GoodIn big ws := fun w hw => ⟨hm w hw, good_of_word (List.all_eq_true.mp h w hw)⟩
/-! ===== END ===== -/

/-! ===== BEGIN printed: names, fields, word lists, decode rows ===== -/
def RX0 : String := "FenceHandshakes$Clans"
def TX0 : u_T := fun k => match k with
  | _ => ("FenceHandshakes$Clans", "cells", "[I", true)
def tyX0 : Nat → FieldType := fun k => match k with
  | _ => .array .int
abbrev wsX00 : List Cond := u_ws RX0 TX0 1
theorem nmX0 : ∀ a, a < 1 → ∀ b, b < 1 → a ≠ b → (TX0 a).2.1 ≠ (TX0 b).2.1 := by decide +kernel
theorem tyX0_ok : ∀ k, k < 1 → parseFieldDescriptor (TX0 k).2.2.1 = some (tyX0 k) := by decide +kernel
abbrev cX0_init : ByteArray := prog_2_method_1_code
def yX0_init : MethodName := ⟨RX0, "<init>", "()V"⟩
abbrev cX0_copyFrom : ByteArray := prog_2_method_2_code
def yX0_copyFrom : MethodName := ⟨RX0, "copyFrom", "(LFenceHandshakes$Clans;)V"⟩
abbrev cX0_hasWish : ByteArray := prog_2_method_3_code
def yX0_hasWish : MethodName := ⟨RX0, "hasWish", "(II)Z"⟩
abbrev cX0_openWish : ByteArray := prog_2_method_4_code
def yX0_openWish : MethodName := ⟨RX0, "openWish", "(II)V"⟩
abbrev cX0_openWishes : ByteArray := prog_2_method_5_code
def yX0_openWishes : MethodName := ⟨RX0, "openWishes", "(II)V"⟩
abbrev cX0_closeWish : ByteArray := prog_2_method_6_code
def yX0_closeWish : MethodName := ⟨RX0, "closeWish", "(II)V"⟩
abbrev cX0_feudOf : ByteArray := prog_2_method_7_code
def yX0_feudOf : MethodName := ⟨RX0, "feudOf", "(II)I"⟩
abbrev cX0_setFeud : ByteArray := prog_2_method_8_code
def yX0_setFeud : MethodName := ⟨RX0, "setFeud", "(III)V"⟩
abbrev cX0_handshakesOf : ByteArray := prog_2_method_9_code
def yX0_handshakesOf : MethodName := ⟨RX0, "handshakesOf", "(II)I"⟩
abbrev cX0_areLinked : ByteArray := prog_2_method_10_code
def yX0_areLinked : MethodName := ⟨RX0, "areLinked", "(II)Z"⟩
abbrev cX0_setLinked : ByteArray := prog_2_method_11_code
def yX0_setLinked : MethodName := ⟨RX0, "setLinked", "(IIZ)V"⟩
abbrev cX0_linkedPairsOfGates : ByteArray := prog_2_method_12_code
def yX0_linkedPairsOfGates : MethodName := ⟨RX0, "linkedPairsOfGates", "()I"⟩
abbrev cX0_gateOf : ByteArray := prog_2_method_13_code
def yX0_gateOf : MethodName := ⟨RX0, "gateOf", "(ZI)I"⟩
abbrev cX0_setGate : ByteArray := prog_2_method_14_code
def yX0_setGate : MethodName := ⟨RX0, "setGate", "(ZII)V"⟩
abbrev cX0_areAtLinkedGates : ByteArray := prog_2_method_15_code
def yX0_areAtLinkedGates : MethodName := ⟨RX0, "areAtLinkedGates", "(II)Z"⟩
abbrev cX0_canMeet : ByteArray := prog_2_method_16_code
def yX0_canMeet : MethodName := ⟨RX0, "canMeet", "(II)Z"⟩
abbrev cX0_isPossible : ByteArray := prog_2_method_17_code
def yX0_isPossible : MethodName := ⟨RX0, "isPossible", "(II)Z"⟩
abbrev cX0_peopleToMeet : ByteArray := prog_2_method_18_code
def yX0_peopleToMeet : MethodName := ⟨RX0, "peopleToMeet", "(ZI)I"⟩
abbrev cX0_hasWishOverUnlinkedGates : ByteArray := prog_2_method_19_code
def yX0_hasWishOverUnlinkedGates : MethodName := ⟨RX0, "hasWishOverUnlinkedGates", "()Z"⟩
abbrev cX0_amountOfPair : ByteArray := prog_2_method_20_code
def yX0_amountOfPair : MethodName := ⟨RX0, "amountOfPair", "(III)I"⟩
abbrev cX0_amountOfPerson : ByteArray := prog_2_method_21_code
def yX0_amountOfPerson : MethodName := ⟨RX0, "amountOfPerson", "(ZII)I"⟩
abbrev cX0_amountOfAll : ByteArray := prog_2_method_22_code
def yX0_amountOfAll : MethodName := ⟨RX0, "amountOfAll", "(I)I"⟩
abbrev cX0_numberOfWishes : ByteArray := prog_2_method_23_code
def yX0_numberOfWishes : MethodName := ⟨RX0, "numberOfWishes", "()I"⟩
abbrev cX0_roundsSoFar : ByteArray := prog_2_method_24_code
def yX0_roundsSoFar : MethodName := ⟨RX0, "roundsSoFar", "()I"⟩
abbrev cX0_shakeHands : ByteArray := prog_2_method_25_code
def yX0_shakeHands : MethodName := ⟨RX0, "shakeHands", "(II)V"⟩
abbrev cX0_endRound : ByteArray := prog_2_method_26_code
def yX0_endRound : MethodName := ⟨RX0, "endRound", "()V"⟩
def RX1 : String := "FenceHandshakes$History"
def TX1 : u_T := fun k => match k with
  | 0 => ("FenceHandshakes$History", "rows", "[I", true)
  | 1 => ("FenceHandshakes$History", "oldest", "I", false)
  | _ => ("FenceHandshakes$History", "size", "I", false)
def tyX1 : Nat → FieldType := fun k => match k with
  | 0 => .array .int
  | 1 => .int
  | _ => .int
abbrev wsX10 : List Cond := u_ws RX1 TX1 3
theorem nmX1 : ∀ a, a < 3 → ∀ b, b < 3 → a ≠ b → (TX1 a).2.1 ≠ (TX1 b).2.1 := by decide +kernel
theorem tyX1_ok : ∀ k, k < 3 → parseFieldDescriptor (TX1 k).2.2.1 = some (tyX1 k) := by decide +kernel
abbrev cX1_init : ByteArray := prog_3_method_1_code
def yX1_init : MethodName := ⟨RX1, "<init>", "()V"⟩
abbrev cX1_size : ByteArray := prog_3_method_2_code
def yX1_size : MethodName := ⟨RX1, "size", "()I"⟩
abbrev cX1_keep : ByteArray := prog_3_method_3_code
def yX1_keep : MethodName := ⟨RX1, "keep", "(LFenceHandshakes$Clans;)V"⟩
abbrev cX1_takeLatest : ByteArray := prog_3_method_4_code
def yX1_takeLatest : MethodName := ⟨RX1, "takeLatest", "(LFenceHandshakes$Clans;)V"⟩
abbrev cX1_startOfRow : ByteArray := prog_3_method_5_code
def yX1_startOfRow : MethodName := ⟨RX1, "startOfRow", "(I)I"⟩
def RX2 : String := "FenceHandshakes$Matching"
def TX2 : u_T := fun k => match k with
  | 0 => ("FenceHandshakes$Matching", "wished", "[I", true)
  | 1 => ("FenceHandshakes$Matching", "ofLeft", "[I", true)
  | 2 => ("FenceHandshakes$Matching", "ofRight", "[I", true)
  | 3 => ("FenceHandshakes$Matching", "seenFrom", "[I", true)
  | _ => ("FenceHandshakes$Matching", "reachedLefts", "I", false)
def tyX2 : Nat → FieldType := fun k => match k with
  | 0 => .array .int
  | 1 => .array .int
  | 2 => .array .int
  | 3 => .array .int
  | _ => .int
abbrev wsX20 : List Cond := u_ws RX2 TX2 5
theorem nmX2 : ∀ a, a < 5 → ∀ b, b < 5 → a ≠ b → (TX2 a).2.1 ≠ (TX2 b).2.1 := by decide +kernel
theorem tyX2_ok : ∀ k, k < 5 → parseFieldDescriptor (TX2 k).2.2.1 = some (tyX2 k) := by decide +kernel
abbrev cX2_init : ByteArray := prog_4_method_1_code
def yX2_init : MethodName := ⟨RX2, "<init>", "()V"⟩
abbrev cX2_partnerOf : ByteArray := prog_4_method_2_code
def yX2_partnerOf : MethodName := ⟨RX2, "partnerOf", "(ZI)I"⟩
abbrev cX2_size : ByteArray := prog_4_method_3_code
def yX2_size : MethodName := ⟨RX2, "size", "()I"⟩
abbrev cX2_takeGreatest : ByteArray := prog_4_method_4_code
def yX2_takeGreatest : MethodName := ⟨RX2, "takeGreatest", "(LFenceHandshakes$Clans;)V"⟩
abbrev cX2_takeFirst : ByteArray := prog_4_method_5_code
def yX2_takeFirst : MethodName := ⟨RX2, "takeFirst", "(LFenceHandshakes$Clans;)V"⟩
abbrev cX2_leftsWhoMayBeLeftOut : ByteArray := prog_4_method_6_code
def yX2_leftsWhoMayBeLeftOut : MethodName := ⟨RX2, "leftsWhoMayBeLeftOut", "()I"⟩
abbrev cX2_canTake : ByteArray := prog_4_method_7_code
def yX2_canTake : MethodName := ⟨RX2, "canTake", "(III)Z"⟩
abbrev cX2_join : ByteArray := prog_4_method_8_code
def yX2_join : MethodName := ⟨RX2, "join", "(II)V"⟩
abbrev cX2_growsByOne : ByteArray := prog_4_method_9_code
def yX2_growsByOne : MethodName := ⟨RX2, "growsByOne", "(II)Z"⟩
abbrev cX2_findFreeRight : ByteArray := prog_4_method_10_code
def yX2_findFreeRight : MethodName := ⟨RX2, "findFreeRight", "(II)I"⟩
abbrev cX2_leftsWithoutPartner : ByteArray := prog_4_method_11_code
def yX2_leftsWithoutPartner : MethodName := ⟨RX2, "leftsWithoutPartner", "(I)I"⟩
def RX3 : String := "FenceHandshakes$Plan"
def TX3 : u_T := fun k => match k with
  | _ => ("FenceHandshakes$Plan", "numbers", "[I", true)
def tyX3 : Nat → FieldType := fun k => match k with
  | _ => .array .int
abbrev wsX30 : List Cond := u_ws RX3 TX3 1
theorem nmX3 : ∀ a, a < 1 → ∀ b, b < 1 → a ≠ b → (TX3 a).2.1 ≠ (TX3 b).2.1 := by decide +kernel
theorem tyX3_ok : ∀ k, k < 1 → parseFieldDescriptor (TX3 k).2.2.1 = some (tyX3 k) := by decide +kernel
abbrev cX3_init : ByteArray := prog_5_method_1_code
def yX3_init : MethodName := ⟨RX3, "<init>", "()V"⟩
abbrev cX3_numberOf : ByteArray := prog_5_method_2_code
def yX3_numberOf : MethodName := ⟨RX3, "numberOf", "(II)I"⟩
abbrev cX3_make : ByteArray := prog_5_method_3_code
def yX3_make : MethodName := ⟨RX3, "make", "(LFenceHandshakes$Clans;)V"⟩
abbrev cX3_addWish : ByteArray := prog_5_method_4_code
def yX3_addWish : MethodName := ⟨RX3, "addWish", "(II)V"⟩
abbrev cX3_setNumber : ByteArray := prog_5_method_5_code
def yX3_setNumber : MethodName := ⟨RX3, "setNumber", "(III)V"⟩
abbrev cX3_leastNumberWithout : ByteArray := prog_5_method_6_code
def yX3_leastNumberWithout : MethodName := ⟨RX3, "leastNumberWithout", "(ZI)I"⟩
abbrev cX3_rightWith : ByteArray := prog_5_method_7_code
def yX3_rightWith : MethodName := ⟨RX3, "rightWith", "(II)I"⟩
abbrev cX3_leftWith : ByteArray := prog_5_method_8_code
def yX3_leftWith : MethodName := ⟨RX3, "leftWith", "(II)I"⟩
abbrev cX3_exchangeAlongPath : ByteArray := prog_5_method_9_code
def yX3_exchangeAlongPath : MethodName := ⟨RX3, "exchangeAlongPath", "(III)V"⟩
def RX4 : String := "FenceHandshakes$WishText"
def TX4 : u_T := fun k => match k with
  | 0 => ("FenceHandshakes$WishText", "signs", "[C", true)
  | 1 => ("FenceHandshakes$WishText", "length", "I", false)
  | 2 => ("FenceHandshakes$WishText", "rows", "[I", true)
  | 3 => ("FenceHandshakes$WishText", "lefts", "I", false)
  | 4 => ("FenceHandshakes$WishText", "rights", "I", false)
  | _ => ("FenceHandshakes$WishText", "isBehindDash", "Z", false)
def tyX4 : Nat → FieldType := fun k => match k with
  | 0 => .array .char
  | 1 => .int
  | 2 => .array .int
  | 3 => .int
  | 4 => .int
  | _ => .boolean
abbrev wsX40 : List Cond := u_ws RX4 TX4 6
theorem nmX4 : ∀ a, a < 6 → ∀ b, b < 6 → a ≠ b → (TX4 a).2.1 ≠ (TX4 b).2.1 := by decide +kernel
theorem tyX4_ok : ∀ k, k < 6 → parseFieldDescriptor (TX4 k).2.2.1 = some (tyX4 k) := by decide +kernel
abbrev cX4_init : ByteArray := prog_6_method_1_code
def yX4_init : MethodName := ⟨RX4, "<init>", "()V"⟩
abbrev cX4_length : ByteArray := prog_6_method_2_code
def yX4_length : MethodName := ⟨RX4, "length", "()I"⟩
abbrev cX4_hasRoom : ByteArray := prog_6_method_3_code
def yX4_hasRoom : MethodName := ⟨RX4, "hasRoom", "()Z"⟩
abbrev cX4_add : ByteArray := prog_6_method_4_code
def yX4_add : MethodName := ⟨RX4, "add", "(I)V"⟩
abbrev cX4_empty : ByteArray := prog_6_method_5_code
def yX4_empty : MethodName := ⟨RX4, "empty", "()V"⟩
abbrev cX4_rightsFor : ByteArray := prog_6_method_6_code
def yX4_rightsFor : MethodName := ⟨RX4, "rightsFor", "(I)I"⟩
abbrev cX4_parse : ByteArray := prog_6_method_7_code
def yX4_parse : MethodName := ⟨RX4, "parse", "()I"⟩
abbrev cX4_beginGroup : ByteArray := prog_6_method_8_code
def yX4_beginGroup : MethodName := ⟨RX4, "beginGroup", "()V"⟩
abbrev cX4_endGroup : ByteArray := prog_6_method_9_code
def yX4_endGroup : MethodName := ⟨RX4, "endGroup", "()V"⟩
abbrev cX4_takesSign : ByteArray := prog_6_method_10_code
def yX4_takesSign : MethodName := ⟨RX4, "takesSign", "(C)Z"⟩
abbrev cX4_takesPerson : ByteArray := prog_6_method_11_code
def yX4_takesPerson : MethodName := ⟨RX4, "takesPerson", "(I)Z"⟩
def RX5 : String := "FenceHandshakes"
def TX5 : u_T := fun k => match k with
  | 0 => ("FenceHandshakes", "now", "LFenceHandshakes$Clans;", true)
  | 1 => ("FenceHandshakes", "trial", "LFenceHandshakes$Clans;", true)
  | 2 => ("FenceHandshakes", "snapshot", "LFenceHandshakes$Clans;", true)
  | 3 => ("FenceHandshakes", "hasSnapshot", "Z", false)
  | 4 => ("FenceHandshakes", "history", "LFenceHandshakes$History;", true)
  | 5 => ("FenceHandshakes", "text", "LFenceHandshakes$WishText;", true)
  | 6 => ("FenceHandshakes", "matching", "LFenceHandshakes$Matching;", true)
  | _ => ("FenceHandshakes", "plan", "LFenceHandshakes$Plan;", true)
def tyX5 : Nat → FieldType := fun k => match k with
  | 0 => .object "FenceHandshakes$Clans"
  | 1 => .object "FenceHandshakes$Clans"
  | 2 => .object "FenceHandshakes$Clans"
  | 3 => .boolean
  | 4 => .object "FenceHandshakes$History"
  | 5 => .object "FenceHandshakes$WishText"
  | 6 => .object "FenceHandshakes$Matching"
  | _ => .object "FenceHandshakes$Plan"
abbrev wsX50 : List Cond := u_ws RX5 TX5 8
theorem nmX5 : ∀ a, a < 8 → ∀ b, b < 8 → a ≠ b → (TX5 a).2.1 ≠ (TX5 b).2.1 := by decide +kernel
theorem tyX5_ok : ∀ k, k < 8 → parseFieldDescriptor (TX5 k).2.2.1 = some (tyX5 k) := by decide +kernel
abbrev cX5_init : ByteArray := prog_1_method_1_code
def yX5_init : MethodName := ⟨RX5, "<init>", "()V"⟩
abbrev cX5_wish : ByteArray := prog_1_method_2_code
def yX5_wish : MethodName := ⟨RX5, "wish", "(II)I"⟩
abbrev cX5_withdraw : ByteArray := prog_1_method_3_code
def yX5_withdraw : MethodName := ⟨RX5, "withdraw", "(II)I"⟩
abbrev cX5_quarrel : ByteArray := prog_1_method_4_code
def yX5_quarrel : MethodName := ⟨RX5, "quarrel", "(III)I"⟩
abbrev cX5_reconcile : ByteArray := prog_1_method_5_code
def yX5_reconcile : MethodName := ⟨RX5, "reconcile", "(II)I"⟩
abbrev cX5_link : ByteArray := prog_1_method_6_code
def yX5_link : MethodName := ⟨RX5, "link", "(IIZ)I"⟩
abbrev cX5_move : ByteArray := prog_1_method_7_code
def yX5_move : MethodName := ⟨RX5, "move", "(ZII)I"⟩
abbrev cX5_round : ByteArray := prog_1_method_8_code
def yX5_round : MethodName := ⟨RX5, "round", "()I"⟩
abbrev cX5_append : ByteArray := prog_1_method_9_code
def yX5_append : MethodName := ⟨RX5, "append", "(I)I"⟩
abbrev cX5_clearText : ByteArray := prog_1_method_10_code
def yX5_clearText : MethodName := ⟨RX5, "clearText", "()I"⟩
abbrev cX5_fault : ByteArray := prog_1_method_11_code
def yX5_fault : MethodName := ⟨RX5, "fault", "()I"⟩
abbrev cX5_read : ByteArray := prog_1_method_12_code
def yX5_read : MethodName := ⟨RX5, "read", "()I"⟩
abbrev cX5_undo : ByteArray := prog_1_method_13_code
def yX5_undo : MethodName := ⟨RX5, "undo", "()I"⟩
abbrev cX5_save : ByteArray := prog_1_method_14_code
def yX5_save : MethodName := ⟨RX5, "save", "()I"⟩
abbrev cX5_restore : ByteArray := prog_1_method_15_code
def yX5_restore : MethodName := ⟨RX5, "restore", "()I"⟩
abbrev cX5_person : ByteArray := prog_1_method_16_code
def yX5_person : MethodName := ⟨RX5, "person", "(ZII)I"⟩
abbrev cX5_pair : ByteArray := prog_1_method_17_code
def yX5_pair : MethodName := ⟨RX5, "pair", "(III)I"⟩
abbrev cX5_isLinked : ByteArray := prog_1_method_18_code
def yX5_isLinked : MethodName := ⟨RX5, "isLinked", "(II)I"⟩
abbrev cX5_partner : ByteArray := prog_1_method_19_code
def yX5_partner : MethodName := ⟨RX5, "partner", "(ZI)I"⟩
abbrev cX5_hindered : ByteArray := prog_1_method_20_code
def yX5_hindered : MethodName := ⟨RX5, "hindered", "()I"⟩
abbrev cX5_planned : ByteArray := prog_1_method_21_code
def yX5_planned : MethodName := ⟨RX5, "planned", "(II)I"⟩
abbrev cX5_count : ByteArray := prog_1_method_22_code
def yX5_count : MethodName := ⟨RX5, "count", "(I)I"⟩
abbrev cX5_doneIn : ByteArray := prog_1_method_23_code
def yX5_doneIn : MethodName := ⟨RX5, "doneIn", "()I"⟩
abbrev cX5_bestLink : ByteArray := prog_1_method_24_code
def yX5_bestLink : MethodName := ⟨RX5, "bestLink", "()I"⟩
abbrev cX5_mean : ByteArray := prog_1_method_25_code
def yX5_mean : MethodName := ⟨RX5, "mean", "()D"⟩
abbrev cX5_isPerson : ByteArray := prog_1_method_26_code
def yX5_isPerson : MethodName := ⟨RX5, "isPerson", "(I)Z"⟩
abbrev cX5_arePeople : ByteArray := prog_1_method_27_code
def yX5_arePeople : MethodName := ⟨RX5, "arePeople", "(II)Z"⟩
abbrev cX5_isGate : ByteArray := prog_1_method_28_code
def yX5_isGate : MethodName := ⟨RX5, "isGate", "(I)Z"⟩
abbrev cX5_asNumber : ByteArray := prog_1_method_29_code
def yX5_asNumber : MethodName := ⟨RX5, "asNumber", "(Z)I"⟩
abbrev cX5_hasBit : ByteArray := prog_1_method_30_code
def yX5_hasBit : MethodName := ⟨RX5, "hasBit", "(II)Z"⟩
abbrev cX5_makeRound : ByteArray := prog_1_method_31_code
def yX5_makeRound : MethodName := ⟨RX5, "makeRound", "(LFenceHandshakes$Clans;)I"⟩
abbrev cX5_reasonAgainst : ByteArray := prog_1_method_32_code
def yX5_reasonAgainst : MethodName := ⟨RX5, "reasonAgainst", "(II)I"⟩
abbrev cX5_greatestSize : ByteArray := prog_1_method_33_code
def yX5_greatestSize : MethodName := ⟨RX5, "greatestSize", "(LFenceHandshakes$Clans;)I"⟩
abbrev cX5_mostPossibleOfAPerson : ByteArray := prog_1_method_34_code
def yX5_mostPossibleOfAPerson : MethodName := ⟨RX5, "mostPossibleOfAPerson", "()I"⟩
def RX6 : String := "FenceHandshakesModel"
def TX6 : u_T := fun k => match k with
  | 0 => ("FenceHandshakesModel", "thrown", "I", false)
  | 1 => ("FenceHandshakesModel", "s", "[I", true)
  | 2 => ("FenceHandshakesModel", "aside", "[I", true)
  | 3 => ("FenceHandshakesModel", "states", "[I", true)
  | 4 => ("FenceHandshakesModel", "stateMany", "I", false)
  | 5 => ("FenceHandshakesModel", "snapshot", "[I", true)
  | 6 => ("FenceHandshakesModel", "hasSnapshot", "Z", false)
  | 7 => ("FenceHandshakesModel", "text", "[I", true)
  | 8 => ("FenceHandshakesModel", "length", "I", false)
  | 9 => ("FenceHandshakesModel", "can", "[I", true)
  | 10 => ("FenceHandshakesModel", "sizes", "[I", true)
  | 11 => ("FenceHandshakesModel", "partners", "[I", true)
  | 12 => ("FenceHandshakesModel", "numbers", "[I", true)
  | 13 => ("FenceHandshakesModel", "path", "[I", true)
  | 14 => ("FenceHandshakesModel", "at", "I", false)
  | 15 => ("FenceHandshakesModel", "isWell", "Z", false)
  | 16 => ("FenceHandshakesModel", "read", "[I", true)
  | _ => ("FenceHandshakesModel", "readMany", "I", false)
def tyX6 : Nat → FieldType := fun k => match k with
  | 0 => .int
  | 1 => .array .int
  | 2 => .array .int
  | 3 => .array .int
  | 4 => .int
  | 5 => .array .int
  | 6 => .boolean
  | 7 => .array .int
  | 8 => .int
  | 9 => .array .int
  | 10 => .array .int
  | 11 => .array .int
  | 12 => .array .int
  | 13 => .array .int
  | 14 => .int
  | 15 => .boolean
  | 16 => .array .int
  | _ => .int
abbrev wsX60 : List Cond := u_ws RX6 TX6 18
theorem nmX6 : ∀ a, a < 18 → ∀ b, b < 18 → a ≠ b → (TX6 a).2.1 ≠ (TX6 b).2.1 := by decide +kernel
theorem tyX6_ok : ∀ k, k < 18 → parseFieldDescriptor (TX6 k).2.2.1 = some (tyX6 k) := by decide +kernel
abbrev cX6_init : ByteArray := prog_8_method_1_code
def yX6_init : MethodName := ⟨RX6, "<init>", "()V"⟩
abbrev cX6_in : ByteArray := prog_8_method_3_code
def yX6_in : MethodName := ⟨RX6, "in", "(III)Z"⟩
abbrev cX6_isPerson : ByteArray := prog_8_method_4_code
def yX6_isPerson : MethodName := ⟨RX6, "isPerson", "(I)Z"⟩
abbrev cX6_isPair : ByteArray := prog_8_method_5_code
def yX6_isPair : MethodName := ⟨RX6, "isPair", "(II)Z"⟩
abbrev cX6_isGate : ByteArray := prog_8_method_6_code
def yX6_isGate : MethodName := ⟨RX6, "isGate", "(I)Z"⟩
abbrev cX6_records : ByteArray := prog_8_method_7_code
def yX6_records : MethodName := ⟨RX6, "records", "()V"⟩
abbrev cX6_putAside : ByteArray := prog_8_method_8_code
def yX6_putAside : MethodName := ⟨RX6, "putAside", "()V"⟩
abbrev cX6_takeBack : ByteArray := prog_8_method_9_code
def yX6_takeBack : MethodName := ⟨RX6, "takeBack", "()V"⟩
abbrev cX6_areLinked : ByteArray := prog_8_method_10_code
def yX6_areLinked : MethodName := ⟨RX6, "areLinked", "(II)Z"⟩
abbrev cX6_canMeet : ByteArray := prog_8_method_11_code
def yX6_canMeet : MethodName := ⟨RX6, "canMeet", "(II)Z"⟩
abbrev cX6_isOpen : ByteArray := prog_8_method_12_code
def yX6_isOpen : MethodName := ⟨RX6, "isOpen", "(II)Z"⟩
abbrev cX6_isPossible : ByteArray := prog_8_method_13_code
def yX6_isPossible : MethodName := ⟨RX6, "isPossible", "(II)Z"⟩
abbrev cX6_findsCan : ByteArray := prog_8_method_14_code
def yX6_findsCan : MethodName := ⟨RX6, "findsCan", "(I)V"⟩
abbrev cX6_sizeOf : ByteArray := prog_8_method_15_code
def yX6_sizeOf : MethodName := ⟨RX6, "sizeOf", "(II)I"⟩
abbrev cX6_bestFor : ByteArray := prog_8_method_16_code
def yX6_bestFor : MethodName := ⟨RX6, "bestFor", "(II)I"⟩
abbrev cX6_fills : ByteArray := prog_8_method_17_code
def yX6_fills : MethodName := ⟨RX6, "fills", "()I"⟩
abbrev cX6_firstFor : ByteArray := prog_8_method_18_code
def yX6_firstFor : MethodName := ⟨RX6, "firstFor", "(II)I"⟩
abbrev cX6_matches : ByteArray := prog_8_method_19_code
def yX6_matches : MethodName := ⟨RX6, "matches", "()I"⟩
abbrev cX6_openMany : ByteArray := prog_8_method_20_code
def yX6_openMany : MethodName := ⟨RX6, "openMany", "()I"⟩
abbrev cX6_wish : ByteArray := prog_8_method_21_code
def yX6_wish : MethodName := ⟨RX6, "wish", "(II)I"⟩
abbrev cX6_withdraw : ByteArray := prog_8_method_22_code
def yX6_withdraw : MethodName := ⟨RX6, "withdraw", "(II)I"⟩
abbrev cX6_quarrel : ByteArray := prog_8_method_23_code
def yX6_quarrel : MethodName := ⟨RX6, "quarrel", "(III)I"⟩
abbrev cX6_reconcile : ByteArray := prog_8_method_24_code
def yX6_reconcile : MethodName := ⟨RX6, "reconcile", "(II)I"⟩
abbrev cX6_link : ByteArray := prog_8_method_25_code
def yX6_link : MethodName := ⟨RX6, "link", "(IIZ)I"⟩
abbrev cX6_move : ByteArray := prog_8_method_26_code
def yX6_move : MethodName := ⟨RX6, "move", "(ZII)I"⟩
abbrev cX6_shakes : ByteArray := prog_8_method_27_code
def yX6_shakes : MethodName := ⟨RX6, "shakes", "()I"⟩
abbrev cX6_round : ByteArray := prog_8_method_28_code
def yX6_round : MethodName := ⟨RX6, "round", "()I"⟩
abbrev cX6_append : ByteArray := prog_8_method_29_code
def yX6_append : MethodName := ⟨RX6, "append", "(I)I"⟩
abbrev cX6_clearText : ByteArray := prog_8_method_30_code
def yX6_clearText : MethodName := ⟨RX6, "clearText", "()I"⟩
abbrev cX6_sign : ByteArray := prog_8_method_31_code
def yX6_sign : MethodName := ⟨RX6, "sign", "()I"⟩
abbrev cX6_people : ByteArray := prog_8_method_32_code
def yX6_people : MethodName := ⟨RX6, "people", "()I"⟩
abbrev cX6_readsGroup : ByteArray := prog_8_method_33_code
def yX6_readsGroup : MethodName := ⟨RX6, "readsGroup", "()V"⟩
abbrev cX6_reads : ByteArray := prog_8_method_34_code
def yX6_reads : MethodName := ⟨RX6, "reads", "()I"⟩
abbrev cX6_fault : ByteArray := prog_8_method_35_code
def yX6_fault : MethodName := ⟨RX6, "fault", "()I"⟩
abbrev cX6_adds : ByteArray := prog_8_method_36_code
def yX6_adds : MethodName := ⟨RX6, "adds", "(II)I"⟩
abbrev cX6_read : ByteArray := prog_8_method_37_code
def yX6_read : MethodName := ⟨RX6, "read", "()I"⟩
abbrev cX6_undo : ByteArray := prog_8_method_38_code
def yX6_undo : MethodName := ⟨RX6, "undo", "()I"⟩
abbrev cX6_save : ByteArray := prog_8_method_39_code
def yX6_save : MethodName := ⟨RX6, "save", "()I"⟩
abbrev cX6_restore : ByteArray := prog_8_method_40_code
def yX6_restore : MethodName := ⟨RX6, "restore", "()I"⟩
abbrev cX6_ofTwo : ByteArray := prog_8_method_41_code
def yX6_ofTwo : MethodName := ⟨RX6, "ofTwo", "(III)I"⟩
abbrev cX6_person : ByteArray := prog_8_method_42_code
def yX6_person : MethodName := ⟨RX6, "person", "(ZII)I"⟩
abbrev cX6_why : ByteArray := prog_8_method_43_code
def yX6_why : MethodName := ⟨RX6, "why", "(II)I"⟩
abbrev cX6_pair : ByteArray := prog_8_method_44_code
def yX6_pair : MethodName := ⟨RX6, "pair", "(III)I"⟩
abbrev cX6_isLinked : ByteArray := prog_8_method_45_code
def yX6_isLinked : MethodName := ⟨RX6, "isLinked", "(II)I"⟩
abbrev cX6_partner : ByteArray := prog_8_method_46_code
def yX6_partner : MethodName := ⟨RX6, "partner", "(ZI)I"⟩
abbrev cX6_hindered : ByteArray := prog_8_method_47_code
def yX6_hindered : MethodName := ⟨RX6, "hindered", "()I"⟩
abbrev cX6_wishWith : ByteArray := prog_8_method_48_code
def yX6_wishWith : MethodName := ⟨RX6, "wishWith", "(ZII)I"⟩
abbrev cX6_leastFree : ByteArray := prog_8_method_49_code
def yX6_leastFree : MethodName := ⟨RX6, "leastFree", "(ZI)I"⟩
abbrev cX6_changes : ByteArray := prog_8_method_50_code
def yX6_changes : MethodName := ⟨RX6, "changes", "(III)V"⟩
abbrev cX6_plans : ByteArray := prog_8_method_51_code
def yX6_plans : MethodName := ⟨RX6, "plans", "()V"⟩
abbrev cX6_planned : ByteArray := prog_8_method_52_code
def yX6_planned : MethodName := ⟨RX6, "planned", "(II)I"⟩
abbrev cX6_possibleMany : ByteArray := prog_8_method_53_code
def yX6_possibleMany : MethodName := ⟨RX6, "possibleMany", "()I"⟩
abbrev cX6_feuds : ByteArray := prog_8_method_54_code
def yX6_feuds : MethodName := ⟨RX6, "feuds", "()I"⟩
abbrev cX6_links : ByteArray := prog_8_method_55_code
def yX6_links : MethodName := ⟨RX6, "links", "()I"⟩
abbrev cX6_shaken : ByteArray := prog_8_method_56_code
def yX6_shaken : MethodName := ⟨RX6, "shaken", "()I"⟩
abbrev cX6_greatest : ByteArray := prog_8_method_57_code
def yX6_greatest : MethodName := ⟨RX6, "greatest", "()I"⟩
abbrev cX6_count : ByteArray := prog_8_method_58_code
def yX6_count : MethodName := ⟨RX6, "count", "(I)I"⟩
abbrev cX6_doneIn : ByteArray := prog_8_method_59_code
def yX6_doneIn : MethodName := ⟨RX6, "doneIn", "()I"⟩
abbrev cX6_bestLink : ByteArray := prog_8_method_60_code
def yX6_bestLink : MethodName := ⟨RX6, "bestLink", "()I"⟩
abbrev cX6_mean : ByteArray := prog_8_method_61_code
def yX6_mean : MethodName := ⟨RX6, "mean", "()D"⟩
def RJ6 : String := "java/lang/Integer"
def TJ6 : u_T := fun k => match k with
  | _ => ("", "", "", false)
def tyJ6 : Nat → FieldType := fun k => match k with
  | _ => .int
abbrev wsJ60 : List Cond := u_ws RJ6 TJ6 0
theorem nmJ6 : ∀ a, a < 0 → ∀ b, b < 0 → a ≠ b → (TJ6 a).2.1 ≠ (TJ6 b).2.1 := by decide +kernel
theorem tyJ6_ok : ∀ k, k < 0 → parseFieldDescriptor (TJ6 k).2.2.1 = some (tyJ6 k) := by decide +kernel
abbrev cJ6_bitCount_0f7a4 : ByteArray := prog_9_method_49_code
def yJ6_bitCount_0f7a4 : MethodName := ⟨RJ6, "bitCount", "(I)I"⟩
def RJ9 : String := "java/lang/Math"
def TJ9 : u_T := fun k => match k with
  | _ => ("", "", "", false)
def tyJ9 : Nat → FieldType := fun k => match k with
  | _ => .int
abbrev wsJ90 : List Cond := u_ws RJ9 TJ9 0
theorem nmJ9 : ∀ a, a < 0 → ∀ b, b < 0 → a ≠ b → (TJ9 a).2.1 ≠ (TJ9 b).2.1 := by decide +kernel
theorem tyJ9_ok : ∀ k, k < 0 → parseFieldDescriptor (TJ9 k).2.2.1 = some (tyJ9 k) := by decide +kernel
abbrev cJ9_max_7cf53 : ByteArray := prog_10_method_65_code
def yJ9_max_7cf53 : MethodName := ⟨RJ9, "max", "(II)I"⟩
def RJ10 : String := "java/lang/System"
def TJ10 : u_T := fun k => match k with
  | _ => ("", "", "", false)
def tyJ10 : Nat → FieldType := fun k => match k with
  | _ => .int
abbrev wsJ100 : List Cond := u_ws RJ10 TJ10 0
theorem nmJ10 : ∀ a, a < 0 → ∀ b, b < 0 → a ≠ b → (TJ10 a).2.1 ≠ (TJ10 b).2.1 := by decide +kernel
theorem tyJ10_ok : ∀ k, k < 0 → parseFieldDescriptor (TJ10 k).2.2.1 = some (tyJ10 k) := by decide +kernel
def RJ7 : String := "java/util/Arrays"
def TJ7 : u_T := fun k => match k with
  | _ => ("", "", "", false)
def tyJ7 : Nat → FieldType := fun k => match k with
  | _ => .int
abbrev wsJ70 : List Cond := u_ws RJ7 TJ7 0
theorem nmJ7 : ∀ a, a < 0 → ∀ b, b < 0 → a ≠ b → (TJ7 a).2.1 ≠ (TJ7 b).2.1 := by decide +kernel
theorem tyJ7_ok : ∀ k, k < 0 → parseFieldDescriptor (TJ7 k).2.2.1 = some (tyJ7 k) := by decide +kernel
abbrev cJ7_fill_53178 : ByteArray := prog_12_method_103_code
def yJ7_fill_53178 : MethodName := ⟨RJ7, "fill", "([II)V"⟩
def RL : String := "FenceHandshakesLaw"
abbrev cL_law : ByteArray := code
def yL_law : MethodName := ⟨RL, "law", "([I)Z"⟩
def wsX0_init : List Cond := .code yX0_init cX0_init 2 none :: ([.methodLink RX0 5 objectInit, .instanceMethod objectInit, .code objectInit ⟨#[0xb1]⟩ 1 none, .arrayClass .int, .fieldLink RX0 11 "FenceHandshakes$Clans" "cells" "[I"] ++ wsX00)
def wsX0_copyFrom : List Cond := .code yX0_copyFrom cX0_copyFrom 2 none :: ([.fieldLink RX0 11 "FenceHandshakes$Clans" "cells" "[I", .methodLink RX0 15 arraycopyName, .native arraycopyName, .static arraycopyName, .initialized "java/lang/System"] ++ wsX00)
def wsX5_hasBit : List Cond := .code yX5_hasBit cX5_hasBit 2 (some .boolean) :: ([])
def wsX0_hasWish : List Cond := .code yX0_hasWish cX0_hasWish 3 (some .boolean) :: ([.fieldLink RX0 11 "FenceHandshakes$Clans" "cells" "[I", .static yX5_hasBit, .initialized RX5, .code yX5_hasBit cX5_hasBit 2 (some .boolean)] ++ wsX00)
def wsX0_openWishes : List Cond := .code yX0_openWishes cX0_openWishes 3 none :: ([.fieldLink RX0 11 "FenceHandshakes$Clans" "cells" "[I"] ++ wsX00)
def wsX0_openWish : List Cond := .code yX0_openWish cX0_openWish 3 none :: ([.methodLink RX0 25 yX0_openWishes, .instanceMethod yX0_openWishes, .selects RX0 yX0_openWishes yX0_openWishes, .initialized RX0, .code yX0_openWishes cX0_openWishes 3 none, .fieldLink RX0 11 "FenceHandshakes$Clans" "cells" "[I"] ++ wsX00)
def wsX0_closeWish : List Cond := .code yX0_closeWish cX0_closeWish 3 none :: ([.fieldLink RX0 11 "FenceHandshakes$Clans" "cells" "[I"] ++ wsX00)
def wsX0_feudOf : List Cond := .code yX0_feudOf cX0_feudOf 3 (some .int) :: ([.fieldLink RX0 11 "FenceHandshakes$Clans" "cells" "[I"] ++ wsX00)
def wsX0_setFeud : List Cond := .code yX0_setFeud cX0_setFeud 4 none :: ([.fieldLink RX0 11 "FenceHandshakes$Clans" "cells" "[I"] ++ wsX00)
def wsX0_handshakesOf : List Cond := .code yX0_handshakesOf cX0_handshakesOf 3 (some .int) :: ([.fieldLink RX0 11 "FenceHandshakes$Clans" "cells" "[I"] ++ wsX00)
def wsX0_areLinked : List Cond := .code yX0_areLinked cX0_areLinked 3 (some .boolean) :: ([.fieldLink RX0 11 "FenceHandshakes$Clans" "cells" "[I", .static yX5_hasBit, .initialized RX5, .code yX5_hasBit cX5_hasBit 2 (some .boolean)] ++ wsX00)
def wsX0_setLinked : List Cond := .code yX0_setLinked cX0_setLinked 5 none :: ([.fieldLink RX0 11 "FenceHandshakes$Clans" "cells" "[I"] ++ wsX00)
def wsJ6_bitCount_0f7a4 : List Cond := .code yJ6_bitCount_0f7a4 cJ6_bitCount_0f7a4 1 (some .int) :: ([.constant RJ6 265 (1431655765), .constant RJ6 266 (858993459), .constant RJ6 267 (252645135)])
def wsX0_linkedPairsOfGates : List Cond := .code yX0_linkedPairsOfGates cX0_linkedPairsOfGates 1 (some .int) :: ([.fieldLink RX0 11 "FenceHandshakes$Clans" "cells" "[I", .methodLink RX0 29 yJ6_bitCount_0f7a4, .static yJ6_bitCount_0f7a4, .initialized RJ6, .code yJ6_bitCount_0f7a4 cJ6_bitCount_0f7a4 1 (some .int), .constant RJ6 265 (1431655765), .constant RJ6 266 (858993459), .constant RJ6 267 (252645135)] ++ wsX00)
def wsX0_gateOf : List Cond := .code yX0_gateOf cX0_gateOf 3 (some .int) :: ([.fieldLink RX0 11 "FenceHandshakes$Clans" "cells" "[I"] ++ wsX00)
def wsX0_setGate : List Cond := .code yX0_setGate cX0_setGate 4 none :: ([.fieldLink RX0 11 "FenceHandshakes$Clans" "cells" "[I"] ++ wsX00)
def wsX0_areAtLinkedGates : List Cond := .code yX0_areAtLinkedGates cX0_areAtLinkedGates 4 (some .boolean) :: ([.fieldLink RX0 11 "FenceHandshakes$Clans" "cells" "[I"] ++ wsX00)
def wsX0_canMeet : List Cond := .code yX0_canMeet cX0_canMeet 3 (some .boolean) :: ([.methodLink RX0 35 yX0_feudOf, .instanceMethod yX0_feudOf, .selects RX0 yX0_feudOf yX0_feudOf, .initialized RX0, .code yX0_feudOf cX0_feudOf 3 (some .int), .fieldLink RX0 11 "FenceHandshakes$Clans" "cells" "[I", .methodLink RX0 39 yX0_areAtLinkedGates, .instanceMethod yX0_areAtLinkedGates, .selects RX0 yX0_areAtLinkedGates yX0_areAtLinkedGates, .code yX0_areAtLinkedGates cX0_areAtLinkedGates 4 (some .boolean)] ++ wsX00)
def wsX0_isPossible : List Cond := .code yX0_isPossible cX0_isPossible 3 (some .boolean) :: ([.methodLink RX0 42 yX0_hasWish, .instanceMethod yX0_hasWish, .selects RX0 yX0_hasWish yX0_hasWish, .initialized RX0, .code yX0_hasWish cX0_hasWish 3 (some .boolean), .fieldLink RX0 11 "FenceHandshakes$Clans" "cells" "[I", .static yX5_hasBit, .initialized RX5, .code yX5_hasBit cX5_hasBit 2 (some .boolean), .methodLink RX0 45 yX0_canMeet, .instanceMethod yX0_canMeet, .selects RX0 yX0_canMeet yX0_canMeet, .code yX0_canMeet cX0_canMeet 3 (some .boolean), .methodLink RX0 35 yX0_feudOf, .instanceMethod yX0_feudOf, .selects RX0 yX0_feudOf yX0_feudOf, .code yX0_feudOf cX0_feudOf 3 (some .int), .methodLink RX0 39 yX0_areAtLinkedGates, .instanceMethod yX0_areAtLinkedGates, .selects RX0 yX0_areAtLinkedGates yX0_areAtLinkedGates, .code yX0_areAtLinkedGates cX0_areAtLinkedGates 4 (some .boolean)] ++ wsX00)
def wsX0_peopleToMeet : List Cond := .code yX0_peopleToMeet cX0_peopleToMeet 5 (some .int) :: ([.methodLink RX0 45 yX0_canMeet, .instanceMethod yX0_canMeet, .selects RX0 yX0_canMeet yX0_canMeet, .initialized RX0, .code yX0_canMeet cX0_canMeet 3 (some .boolean), .methodLink RX0 35 yX0_feudOf, .instanceMethod yX0_feudOf, .selects RX0 yX0_feudOf yX0_feudOf, .code yX0_feudOf cX0_feudOf 3 (some .int), .fieldLink RX0 11 "FenceHandshakes$Clans" "cells" "[I", .methodLink RX0 39 yX0_areAtLinkedGates, .instanceMethod yX0_areAtLinkedGates, .selects RX0 yX0_areAtLinkedGates yX0_areAtLinkedGates, .code yX0_areAtLinkedGates cX0_areAtLinkedGates 4 (some .boolean)] ++ wsX00)
def wsX0_hasWishOverUnlinkedGates : List Cond := .code yX0_hasWishOverUnlinkedGates cX0_hasWishOverUnlinkedGates 3 (some .boolean) :: ([.methodLink RX0 42 yX0_hasWish, .instanceMethod yX0_hasWish, .selects RX0 yX0_hasWish yX0_hasWish, .initialized RX0, .code yX0_hasWish cX0_hasWish 3 (some .boolean), .fieldLink RX0 11 "FenceHandshakes$Clans" "cells" "[I", .static yX5_hasBit, .initialized RX5, .code yX5_hasBit cX5_hasBit 2 (some .boolean), .methodLink RX0 39 yX0_areAtLinkedGates, .instanceMethod yX0_areAtLinkedGates, .selects RX0 yX0_areAtLinkedGates yX0_areAtLinkedGates, .code yX0_areAtLinkedGates cX0_areAtLinkedGates 4 (some .boolean)] ++ wsX00)
def wsX5_asNumber : List Cond := .code yX5_asNumber cX5_asNumber 1 (some .int) :: ([])
def wsX0_amountOfPair_r1 : List Cond := [Cond.methodLink RX0 42 yX0_hasWish, Cond.instanceMethod yX0_hasWish, Cond.selects RX0 yX0_hasWish yX0_hasWish, Cond.initialized RX0, Cond.code yX0_hasWish cX0_hasWish 3 (some .boolean), Cond.fieldLink RX0 11 "FenceHandshakes$Clans" "cells" "[I", Cond.static yX5_hasBit, Cond.initialized RX5, Cond.code yX5_hasBit cX5_hasBit 2 (some .boolean), Cond.static yX5_asNumber, Cond.code yX5_asNumber cX5_asNumber 1 (some .int), Cond.methodLink RX0 52 yX0_isPossible, Cond.instanceMethod yX0_isPossible, Cond.selects RX0 yX0_isPossible yX0_isPossible, Cond.code yX0_isPossible cX0_isPossible 3 (some .boolean), Cond.methodLink RX0 45 yX0_canMeet, Cond.instanceMethod yX0_canMeet, Cond.selects RX0 yX0_canMeet yX0_canMeet, Cond.code yX0_canMeet cX0_canMeet 3 (some .boolean), Cond.methodLink RX0 35 yX0_feudOf, Cond.instanceMethod yX0_feudOf, Cond.selects RX0 yX0_feudOf yX0_feudOf, Cond.code yX0_feudOf cX0_feudOf 3 (some .int), Cond.methodLink RX0 39 yX0_areAtLinkedGates]
def wsX0_amountOfPair_r2 : List Cond := [Cond.instanceMethod yX0_areAtLinkedGates, Cond.selects RX0 yX0_areAtLinkedGates yX0_areAtLinkedGates, Cond.code yX0_areAtLinkedGates cX0_areAtLinkedGates 4 (some .boolean), Cond.methodLink RX0 55 yX0_handshakesOf, Cond.instanceMethod yX0_handshakesOf, Cond.selects RX0 yX0_handshakesOf yX0_handshakesOf, Cond.code yX0_handshakesOf cX0_handshakesOf 3 (some .int)]
def wsX0_amountOfPair : List Cond := .code yX0_amountOfPair cX0_amountOfPair 4 (some .int) :: ((wsX0_amountOfPair_r1 ++ wsX0_amountOfPair_r2) ++ wsX00)
def wsX0_amountOfPerson_r1 : List Cond := [Cond.methodLink RX0 58 yX0_amountOfPair, Cond.instanceMethod yX0_amountOfPair, Cond.selects RX0 yX0_amountOfPair yX0_amountOfPair, Cond.initialized RX0, Cond.code yX0_amountOfPair cX0_amountOfPair 4 (some .int), Cond.methodLink RX0 42 yX0_hasWish, Cond.instanceMethod yX0_hasWish, Cond.selects RX0 yX0_hasWish yX0_hasWish, Cond.code yX0_hasWish cX0_hasWish 3 (some .boolean), Cond.fieldLink RX0 11 "FenceHandshakes$Clans" "cells" "[I", Cond.static yX5_hasBit, Cond.initialized RX5, Cond.code yX5_hasBit cX5_hasBit 2 (some .boolean), Cond.static yX5_asNumber, Cond.code yX5_asNumber cX5_asNumber 1 (some .int), Cond.methodLink RX0 52 yX0_isPossible, Cond.instanceMethod yX0_isPossible, Cond.selects RX0 yX0_isPossible yX0_isPossible, Cond.code yX0_isPossible cX0_isPossible 3 (some .boolean), Cond.methodLink RX0 45 yX0_canMeet, Cond.instanceMethod yX0_canMeet, Cond.selects RX0 yX0_canMeet yX0_canMeet, Cond.code yX0_canMeet cX0_canMeet 3 (some .boolean), Cond.methodLink RX0 35 yX0_feudOf]
def wsX0_amountOfPerson_r2 : List Cond := [Cond.instanceMethod yX0_feudOf, Cond.selects RX0 yX0_feudOf yX0_feudOf, Cond.code yX0_feudOf cX0_feudOf 3 (some .int), Cond.methodLink RX0 39 yX0_areAtLinkedGates, Cond.instanceMethod yX0_areAtLinkedGates, Cond.selects RX0 yX0_areAtLinkedGates yX0_areAtLinkedGates, Cond.code yX0_areAtLinkedGates cX0_areAtLinkedGates 4 (some .boolean), Cond.methodLink RX0 55 yX0_handshakesOf, Cond.instanceMethod yX0_handshakesOf, Cond.selects RX0 yX0_handshakesOf yX0_handshakesOf, Cond.code yX0_handshakesOf cX0_handshakesOf 3 (some .int)]
def wsX0_amountOfPerson : List Cond := .code yX0_amountOfPerson cX0_amountOfPerson 6 (some .int) :: ((wsX0_amountOfPerson_r1 ++ wsX0_amountOfPerson_r2) ++ wsX00)
def wsX0_amountOfAll_r1 : List Cond := [Cond.methodLink RX0 62 yX0_amountOfPerson, Cond.instanceMethod yX0_amountOfPerson, Cond.selects RX0 yX0_amountOfPerson yX0_amountOfPerson, Cond.initialized RX0, Cond.code yX0_amountOfPerson cX0_amountOfPerson 6 (some .int), Cond.methodLink RX0 58 yX0_amountOfPair, Cond.instanceMethod yX0_amountOfPair, Cond.selects RX0 yX0_amountOfPair yX0_amountOfPair, Cond.code yX0_amountOfPair cX0_amountOfPair 4 (some .int), Cond.methodLink RX0 42 yX0_hasWish, Cond.instanceMethod yX0_hasWish, Cond.selects RX0 yX0_hasWish yX0_hasWish, Cond.code yX0_hasWish cX0_hasWish 3 (some .boolean), Cond.fieldLink RX0 11 "FenceHandshakes$Clans" "cells" "[I", Cond.static yX5_hasBit, Cond.initialized RX5, Cond.code yX5_hasBit cX5_hasBit 2 (some .boolean), Cond.static yX5_asNumber, Cond.code yX5_asNumber cX5_asNumber 1 (some .int), Cond.methodLink RX0 52 yX0_isPossible, Cond.instanceMethod yX0_isPossible, Cond.selects RX0 yX0_isPossible yX0_isPossible, Cond.code yX0_isPossible cX0_isPossible 3 (some .boolean), Cond.methodLink RX0 45 yX0_canMeet]
def wsX0_amountOfAll_r2 : List Cond := [Cond.instanceMethod yX0_canMeet, Cond.selects RX0 yX0_canMeet yX0_canMeet, Cond.code yX0_canMeet cX0_canMeet 3 (some .boolean), Cond.methodLink RX0 35 yX0_feudOf, Cond.instanceMethod yX0_feudOf, Cond.selects RX0 yX0_feudOf yX0_feudOf, Cond.code yX0_feudOf cX0_feudOf 3 (some .int), Cond.methodLink RX0 39 yX0_areAtLinkedGates, Cond.instanceMethod yX0_areAtLinkedGates, Cond.selects RX0 yX0_areAtLinkedGates yX0_areAtLinkedGates, Cond.code yX0_areAtLinkedGates cX0_areAtLinkedGates 4 (some .boolean), Cond.methodLink RX0 55 yX0_handshakesOf, Cond.instanceMethod yX0_handshakesOf, Cond.selects RX0 yX0_handshakesOf yX0_handshakesOf, Cond.code yX0_handshakesOf cX0_handshakesOf 3 (some .int)]
def wsX0_amountOfAll : List Cond := .code yX0_amountOfAll cX0_amountOfAll 4 (some .int) :: ((wsX0_amountOfAll_r1 ++ wsX0_amountOfAll_r2) ++ wsX00)
def wsX0_numberOfWishes : List Cond := .code yX0_numberOfWishes cX0_numberOfWishes 3 (some .int) :: ([.fieldLink RX0 11 "FenceHandshakes$Clans" "cells" "[I", .methodLink RX0 29 yJ6_bitCount_0f7a4, .static yJ6_bitCount_0f7a4, .initialized RJ6, .code yJ6_bitCount_0f7a4 cJ6_bitCount_0f7a4 1 (some .int), .constant RJ6 265 (1431655765), .constant RJ6 266 (858993459), .constant RJ6 267 (252645135)] ++ wsX00)
def wsX0_roundsSoFar : List Cond := .code yX0_roundsSoFar cX0_roundsSoFar 1 (some .int) :: ([.fieldLink RX0 11 "FenceHandshakes$Clans" "cells" "[I"] ++ wsX00)
def wsX0_shakeHands : List Cond := .code yX0_shakeHands cX0_shakeHands 3 none :: ([.fieldLink RX0 11 "FenceHandshakes$Clans" "cells" "[I", .methodLink RX0 66 yX0_closeWish, .instanceMethod yX0_closeWish, .selects RX0 yX0_closeWish yX0_closeWish, .initialized RX0, .code yX0_closeWish cX0_closeWish 3 none] ++ wsX00)
def wsX0_endRound : List Cond := .code yX0_endRound cX0_endRound 2 none :: ([.fieldLink RX0 11 "FenceHandshakes$Clans" "cells" "[I"] ++ wsX00)
def wsX1_init : List Cond := .code yX1_init cX1_init 1 none :: ([.methodLink RX1 3 objectInit, .instanceMethod objectInit, .code objectInit ⟨#[0xb1]⟩ 1 none, .arrayClass .int, .fieldLink RX1 11 "FenceHandshakes$History" "rows" "[I"] ++ wsX10)
def wsX1_size : List Cond := .code yX1_size cX1_size 1 (some .int) :: ([.fieldLink RX1 17 "FenceHandshakes$History" "size" "I"] ++ wsX10)
def wsX1_startOfRow : List Cond := .code yX1_startOfRow cX1_startOfRow 2 (some .int) :: ([.fieldLink RX1 21 "FenceHandshakes$History" "oldest" "I"] ++ wsX10)
def wsX1_keep : List Cond := .code yX1_keep cX1_keep 2 none :: ([.fieldLink RX1 17 "FenceHandshakes$History" "size" "I", .fieldLink RX1 21 "FenceHandshakes$History" "oldest" "I", .fieldLink RX1 11 "FenceHandshakes$History" "rows" "[I", .methodLink RX1 31 arraycopyName, .native arraycopyName, .static arraycopyName, .initialized "java/lang/System", .methodLink RX1 27 yX1_startOfRow, .instanceMethod yX1_startOfRow, .selects RX1 yX1_startOfRow yX1_startOfRow, .initialized RX1, .code yX1_startOfRow cX1_startOfRow 2 (some .int)] ++ wsX10 ++ wsX00)
def wsX1_takeLatest : List Cond := .code yX1_takeLatest cX1_takeLatest 2 none :: ([.fieldLink RX1 17 "FenceHandshakes$History" "size" "I", .fieldLink RX1 11 "FenceHandshakes$History" "rows" "[I", .methodLink RX1 31 arraycopyName, .native arraycopyName, .static arraycopyName, .initialized "java/lang/System", .methodLink RX1 27 yX1_startOfRow, .instanceMethod yX1_startOfRow, .selects RX1 yX1_startOfRow yX1_startOfRow, .initialized RX1, .code yX1_startOfRow cX1_startOfRow 2 (some .int), .fieldLink RX1 21 "FenceHandshakes$History" "oldest" "I"] ++ wsX10 ++ wsX00)
def wsX2_init : List Cond := .code yX2_init cX2_init 1 none :: ([.methodLink RX2 3 objectInit, .instanceMethod objectInit, .code objectInit ⟨#[0xb1]⟩ 1 none, .arrayClass .int, .fieldLink RX2 9 "FenceHandshakes$Matching" "wished" "[I", .fieldLink RX2 15 "FenceHandshakes$Matching" "ofLeft" "[I", .fieldLink RX2 18 "FenceHandshakes$Matching" "ofRight" "[I", .fieldLink RX2 21 "FenceHandshakes$Matching" "seenFrom" "[I"] ++ wsX20)
def wsX2_partnerOf : List Cond := .code yX2_partnerOf cX2_partnerOf 3 (some .int) :: ([.fieldLink RX2 15 "FenceHandshakes$Matching" "ofLeft" "[I", .fieldLink RX2 18 "FenceHandshakes$Matching" "ofRight" "[I"] ++ wsX20)
def wsX2_size : List Cond := .code yX2_size cX2_size 3 (some .int) :: ([.fieldLink RX2 15 "FenceHandshakes$Matching" "ofLeft" "[I", .static yX5_asNumber, .initialized RX5, .code yX5_asNumber cX5_asNumber 1 (some .int)] ++ wsX20)
def wsJ7_fill_53178 : List Cond := .code yJ7_fill_53178 cJ7_fill_53178 4 none :: ([])
def wsX2_leftsWithoutPartner : List Cond := .code yX2_leftsWithoutPartner cX2_leftsWithoutPartner 4 (some .int) :: ([.fieldLink RX2 15 "FenceHandshakes$Matching" "ofLeft" "[I"] ++ wsX20)
def wsX2_findFreeRight : List Cond := .code yX2_findFreeRight cX2_findFreeRight 8 (some .int) :: ([.fieldLink RX2 62 "FenceHandshakes$Matching" "reachedLefts" "I", .fieldLink RX2 9 "FenceHandshakes$Matching" "wished" "[I", .fieldLink RX2 21 "FenceHandshakes$Matching" "seenFrom" "[I", .fieldLink RX2 18 "FenceHandshakes$Matching" "ofRight" "[I", .methodLink RX2 70 yX2_leftsWithoutPartner, .instanceMethod yX2_leftsWithoutPartner, .selects RX2 yX2_leftsWithoutPartner yX2_leftsWithoutPartner, .initialized RX2, .code yX2_leftsWithoutPartner cX2_leftsWithoutPartner 4 (some .int), .fieldLink RX2 15 "FenceHandshakes$Matching" "ofLeft" "[I", .static yX5_hasBit, .initialized RX5, .code yX5_hasBit cX5_hasBit 2 (some .boolean)] ++ wsX20)
def wsX5_isPerson : List Cond := .code yX5_isPerson cX5_isPerson 1 (some .boolean) :: ([])
def wsX2_join : List Cond := .code yX2_join cX2_join 3 none :: ([.fieldLink RX2 15 "FenceHandshakes$Matching" "ofLeft" "[I", .fieldLink RX2 18 "FenceHandshakes$Matching" "ofRight" "[I"] ++ wsX20)
def wsX2_growsByOne : List Cond := .code yX2_growsByOne cX2_growsByOne 7 (some .boolean) :: ([.fieldLink RX2 21 "FenceHandshakes$Matching" "seenFrom" "[I", .fieldLink RX2 15 "FenceHandshakes$Matching" "ofLeft" "[I", .methodLink RX2 58 yX2_findFreeRight, .instanceMethod yX2_findFreeRight, .selects RX2 yX2_findFreeRight yX2_findFreeRight, .initialized RX2, .code yX2_findFreeRight cX2_findFreeRight 8 (some .int), .fieldLink RX2 62 "FenceHandshakes$Matching" "reachedLefts" "I", .fieldLink RX2 9 "FenceHandshakes$Matching" "wished" "[I", .fieldLink RX2 18 "FenceHandshakes$Matching" "ofRight" "[I", .methodLink RX2 70 yX2_leftsWithoutPartner, .instanceMethod yX2_leftsWithoutPartner, .selects RX2 yX2_leftsWithoutPartner yX2_leftsWithoutPartner, .code yX2_leftsWithoutPartner cX2_leftsWithoutPartner 4 (some .int), .static yX5_hasBit, .initialized RX5, .code yX5_hasBit cX5_hasBit 2 (some .boolean), .static yX5_isPerson, .code yX5_isPerson cX5_isPerson 1 (some .boolean), .methodLink RX2 66 yX2_join, .instanceMethod yX2_join, .selects RX2 yX2_join yX2_join, .code yX2_join cX2_join 3 none] ++ wsX20)
def wsX2_takeGreatest_r1 : List Cond := [Cond.fieldLink RX2 9 "FenceHandshakes$Matching" "wished" "[I", Cond.fieldLink RX2 15 "FenceHandshakes$Matching" "ofLeft" "[I", Cond.fieldLink RX2 18 "FenceHandshakes$Matching" "ofRight" "[I", Cond.methodLink RX2 28 yJ7_fill_53178, Cond.static yJ7_fill_53178, Cond.initialized RJ7, Cond.code yJ7_fill_53178 cJ7_fill_53178 4 none, Cond.methodLink RX2 34 yX0_isPossible, Cond.instanceMethod yX0_isPossible, Cond.selects RX0 yX0_isPossible yX0_isPossible, Cond.initialized RX0, Cond.code yX0_isPossible cX0_isPossible 3 (some .boolean), Cond.methodLink RX0 42 yX0_hasWish, Cond.instanceMethod yX0_hasWish, Cond.selects RX0 yX0_hasWish yX0_hasWish, Cond.code yX0_hasWish cX0_hasWish 3 (some .boolean), Cond.fieldLink RX0 11 "FenceHandshakes$Clans" "cells" "[I", Cond.static yX5_hasBit, Cond.initialized RX5, Cond.code yX5_hasBit cX5_hasBit 2 (some .boolean), Cond.methodLink RX0 45 yX0_canMeet, Cond.instanceMethod yX0_canMeet, Cond.selects RX0 yX0_canMeet yX0_canMeet, Cond.code yX0_canMeet cX0_canMeet 3 (some .boolean)]
def wsX2_takeGreatest_r2 : List Cond := [Cond.methodLink RX0 35 yX0_feudOf, Cond.instanceMethod yX0_feudOf, Cond.selects RX0 yX0_feudOf yX0_feudOf, Cond.code yX0_feudOf cX0_feudOf 3 (some .int), Cond.methodLink RX0 39 yX0_areAtLinkedGates, Cond.instanceMethod yX0_areAtLinkedGates, Cond.selects RX0 yX0_areAtLinkedGates yX0_areAtLinkedGates, Cond.code yX0_areAtLinkedGates cX0_areAtLinkedGates 4 (some .boolean), Cond.methodLink RX2 40 yX2_growsByOne, Cond.instanceMethod yX2_growsByOne, Cond.selects RX2 yX2_growsByOne yX2_growsByOne, Cond.initialized RX2, Cond.code yX2_growsByOne cX2_growsByOne 7 (some .boolean), Cond.fieldLink RX2 21 "FenceHandshakes$Matching" "seenFrom" "[I", Cond.methodLink RX2 58 yX2_findFreeRight, Cond.instanceMethod yX2_findFreeRight, Cond.selects RX2 yX2_findFreeRight yX2_findFreeRight, Cond.code yX2_findFreeRight cX2_findFreeRight 8 (some .int), Cond.fieldLink RX2 62 "FenceHandshakes$Matching" "reachedLefts" "I", Cond.methodLink RX2 70 yX2_leftsWithoutPartner, Cond.instanceMethod yX2_leftsWithoutPartner, Cond.selects RX2 yX2_leftsWithoutPartner yX2_leftsWithoutPartner, Cond.code yX2_leftsWithoutPartner cX2_leftsWithoutPartner 4 (some .int), Cond.static yX5_isPerson]
def wsX2_takeGreatest_r3 : List Cond := [Cond.code yX5_isPerson cX5_isPerson 1 (some .boolean), Cond.methodLink RX2 66 yX2_join, Cond.instanceMethod yX2_join, Cond.selects RX2 yX2_join yX2_join, Cond.code yX2_join cX2_join 3 none]
def wsX2_takeGreatest : List Cond := .code yX2_takeGreatest cX2_takeGreatest 4 none :: ((wsX2_takeGreatest_r1 ++ (wsX2_takeGreatest_r2 ++ wsX2_takeGreatest_r3)) ++ wsX20 ++ wsX00)
def wsX2_canTake_r1 : List Cond := [Cond.fieldLink RX2 15 "FenceHandshakes$Matching" "ofLeft" "[I", Cond.fieldLink RX2 18 "FenceHandshakes$Matching" "ofRight" "[I", Cond.static yX5_isPerson, Cond.initialized RX5, Cond.code yX5_isPerson cX5_isPerson 1 (some .boolean), Cond.methodLink RX2 66 yX2_join, Cond.instanceMethod yX2_join, Cond.selects RX2 yX2_join yX2_join, Cond.initialized RX2, Cond.code yX2_join cX2_join 3 none, Cond.methodLink RX2 40 yX2_growsByOne, Cond.instanceMethod yX2_growsByOne, Cond.selects RX2 yX2_growsByOne yX2_growsByOne, Cond.code yX2_growsByOne cX2_growsByOne 7 (some .boolean), Cond.fieldLink RX2 21 "FenceHandshakes$Matching" "seenFrom" "[I", Cond.methodLink RX2 58 yX2_findFreeRight, Cond.instanceMethod yX2_findFreeRight, Cond.selects RX2 yX2_findFreeRight yX2_findFreeRight, Cond.code yX2_findFreeRight cX2_findFreeRight 8 (some .int), Cond.fieldLink RX2 62 "FenceHandshakes$Matching" "reachedLefts" "I", Cond.fieldLink RX2 9 "FenceHandshakes$Matching" "wished" "[I", Cond.methodLink RX2 70 yX2_leftsWithoutPartner, Cond.instanceMethod yX2_leftsWithoutPartner, Cond.selects RX2 yX2_leftsWithoutPartner yX2_leftsWithoutPartner]
def wsX2_canTake_r2 : List Cond := [Cond.code yX2_leftsWithoutPartner cX2_leftsWithoutPartner 4 (some .int), Cond.static yX5_hasBit, Cond.code yX5_hasBit cX5_hasBit 2 (some .boolean)]
def wsX2_canTake : List Cond := .code yX2_canTake cX2_canTake 6 (some .boolean) :: ((wsX2_canTake_r1 ++ wsX2_canTake_r2) ++ wsX20)
def wsX2_takeFirst_r1 : List Cond := [Cond.fieldLink RX2 15 "FenceHandshakes$Matching" "ofLeft" "[I", Cond.fieldLink RX2 9 "FenceHandshakes$Matching" "wished" "[I", Cond.methodLink RX2 43 yX2_takeGreatest, Cond.instanceMethod yX2_takeGreatest, Cond.selects RX2 yX2_takeGreatest yX2_takeGreatest, Cond.initialized RX2, Cond.code yX2_takeGreatest cX2_takeGreatest 4 none, Cond.fieldLink RX2 18 "FenceHandshakes$Matching" "ofRight" "[I", Cond.methodLink RX2 28 yJ7_fill_53178, Cond.static yJ7_fill_53178, Cond.initialized RJ7, Cond.code yJ7_fill_53178 cJ7_fill_53178 4 none, Cond.methodLink RX2 34 yX0_isPossible, Cond.instanceMethod yX0_isPossible, Cond.selects RX0 yX0_isPossible yX0_isPossible, Cond.initialized RX0, Cond.code yX0_isPossible cX0_isPossible 3 (some .boolean), Cond.methodLink RX0 42 yX0_hasWish, Cond.instanceMethod yX0_hasWish, Cond.selects RX0 yX0_hasWish yX0_hasWish, Cond.code yX0_hasWish cX0_hasWish 3 (some .boolean), Cond.fieldLink RX0 11 "FenceHandshakes$Clans" "cells" "[I", Cond.static yX5_hasBit, Cond.initialized RX5]
def wsX2_takeFirst_r2 : List Cond := [Cond.code yX5_hasBit cX5_hasBit 2 (some .boolean), Cond.methodLink RX0 45 yX0_canMeet, Cond.instanceMethod yX0_canMeet, Cond.selects RX0 yX0_canMeet yX0_canMeet, Cond.code yX0_canMeet cX0_canMeet 3 (some .boolean), Cond.methodLink RX0 35 yX0_feudOf, Cond.instanceMethod yX0_feudOf, Cond.selects RX0 yX0_feudOf yX0_feudOf, Cond.code yX0_feudOf cX0_feudOf 3 (some .int), Cond.methodLink RX0 39 yX0_areAtLinkedGates, Cond.instanceMethod yX0_areAtLinkedGates, Cond.selects RX0 yX0_areAtLinkedGates yX0_areAtLinkedGates, Cond.code yX0_areAtLinkedGates cX0_areAtLinkedGates 4 (some .boolean), Cond.methodLink RX2 40 yX2_growsByOne, Cond.instanceMethod yX2_growsByOne, Cond.selects RX2 yX2_growsByOne yX2_growsByOne, Cond.code yX2_growsByOne cX2_growsByOne 7 (some .boolean), Cond.fieldLink RX2 21 "FenceHandshakes$Matching" "seenFrom" "[I", Cond.methodLink RX2 58 yX2_findFreeRight, Cond.instanceMethod yX2_findFreeRight, Cond.selects RX2 yX2_findFreeRight yX2_findFreeRight, Cond.code yX2_findFreeRight cX2_findFreeRight 8 (some .int), Cond.fieldLink RX2 62 "FenceHandshakes$Matching" "reachedLefts" "I", Cond.methodLink RX2 70 yX2_leftsWithoutPartner]
def wsX2_takeFirst_r3 : List Cond := [Cond.instanceMethod yX2_leftsWithoutPartner, Cond.selects RX2 yX2_leftsWithoutPartner yX2_leftsWithoutPartner, Cond.code yX2_leftsWithoutPartner cX2_leftsWithoutPartner 4 (some .int), Cond.static yX5_isPerson, Cond.code yX5_isPerson cX5_isPerson 1 (some .boolean), Cond.methodLink RX2 66 yX2_join, Cond.instanceMethod yX2_join, Cond.selects RX2 yX2_join yX2_join, Cond.code yX2_join cX2_join 3 none, Cond.methodLink RX2 50 yX2_canTake, Cond.instanceMethod yX2_canTake, Cond.selects RX2 yX2_canTake yX2_canTake, Cond.code yX2_canTake cX2_canTake 6 (some .boolean)]
def wsX2_takeFirst : List Cond := .code yX2_takeFirst cX2_takeFirst 6 none :: ((wsX2_takeFirst_r1 ++ (wsX2_takeFirst_r2 ++ wsX2_takeFirst_r3)) ++ wsX20 ++ wsX00)
def wsX2_leftsWhoMayBeLeftOut : List Cond := .code yX2_leftsWhoMayBeLeftOut cX2_leftsWhoMayBeLeftOut 3 (some .int) :: ([.fieldLink RX2 62 "FenceHandshakes$Matching" "reachedLefts" "I", .fieldLink RX2 9 "FenceHandshakes$Matching" "wished" "[I", .methodLink RX2 58 yX2_findFreeRight, .instanceMethod yX2_findFreeRight, .selects RX2 yX2_findFreeRight yX2_findFreeRight, .initialized RX2, .code yX2_findFreeRight cX2_findFreeRight 8 (some .int), .fieldLink RX2 21 "FenceHandshakes$Matching" "seenFrom" "[I", .fieldLink RX2 18 "FenceHandshakes$Matching" "ofRight" "[I", .methodLink RX2 70 yX2_leftsWithoutPartner, .instanceMethod yX2_leftsWithoutPartner, .selects RX2 yX2_leftsWithoutPartner yX2_leftsWithoutPartner, .code yX2_leftsWithoutPartner cX2_leftsWithoutPartner 4 (some .int), .fieldLink RX2 15 "FenceHandshakes$Matching" "ofLeft" "[I", .static yX5_hasBit, .initialized RX5, .code yX5_hasBit cX5_hasBit 2 (some .boolean)] ++ wsX20)
def wsX3_init : List Cond := .code yX3_init cX3_init 1 none :: ([.methodLink RX3 3 objectInit, .instanceMethod objectInit, .code objectInit ⟨#[0xb1]⟩ 1 none, .arrayClass .int, .fieldLink RX3 9 "FenceHandshakes$Plan" "numbers" "[I"] ++ wsX30)
def wsX3_numberOf : List Cond := .code yX3_numberOf cX3_numberOf 3 (some .int) :: ([.fieldLink RX3 9 "FenceHandshakes$Plan" "numbers" "[I"] ++ wsX30)
def wsX3_leastNumberWithout : List Cond := .code yX3_leastNumberWithout cX3_leastNumberWithout 6 (some .int) :: ([.methodLink RX3 46 yX3_numberOf, .instanceMethod yX3_numberOf, .selects RX3 yX3_numberOf yX3_numberOf, .initialized RX3, .code yX3_numberOf cX3_numberOf 3 (some .int), .fieldLink RX3 9 "FenceHandshakes$Plan" "numbers" "[I", .static yX5_hasBit, .initialized RX5, .code yX5_hasBit cX5_hasBit 2 (some .boolean)] ++ wsX30)
def wsX3_leftWith : List Cond := .code yX3_leftWith cX3_leftWith 4 (some .int) :: ([.methodLink RX3 46 yX3_numberOf, .instanceMethod yX3_numberOf, .selects RX3 yX3_numberOf yX3_numberOf, .initialized RX3, .code yX3_numberOf cX3_numberOf 3 (some .int), .fieldLink RX3 9 "FenceHandshakes$Plan" "numbers" "[I"] ++ wsX30)
def wsX3_rightWith : List Cond := .code yX3_rightWith cX3_rightWith 4 (some .int) :: ([.methodLink RX3 46 yX3_numberOf, .instanceMethod yX3_numberOf, .selects RX3 yX3_numberOf yX3_numberOf, .initialized RX3, .code yX3_numberOf cX3_numberOf 3 (some .int), .fieldLink RX3 9 "FenceHandshakes$Plan" "numbers" "[I"] ++ wsX30)
def wsX3_setNumber : List Cond := .code yX3_setNumber cX3_setNumber 4 none :: ([.fieldLink RX3 9 "FenceHandshakes$Plan" "numbers" "[I"] ++ wsX30)
def wsX3_exchangeAlongPath : List Cond := .code yX3_exchangeAlongPath cX3_exchangeAlongPath 9 none :: ([.methodLink RX3 35 yX3_leftWith, .instanceMethod yX3_leftWith, .selects RX3 yX3_leftWith yX3_leftWith, .initialized RX3, .code yX3_leftWith cX3_leftWith 4 (some .int), .methodLink RX3 46 yX3_numberOf, .instanceMethod yX3_numberOf, .selects RX3 yX3_numberOf yX3_numberOf, .code yX3_numberOf cX3_numberOf 3 (some .int), .fieldLink RX3 9 "FenceHandshakes$Plan" "numbers" "[I", .static yX5_isPerson, .initialized RX5, .code yX5_isPerson cX5_isPerson 1 (some .boolean), .methodLink RX3 56 yX3_rightWith, .instanceMethod yX3_rightWith, .selects RX3 yX3_rightWith yX3_rightWith, .code yX3_rightWith cX3_rightWith 4 (some .int), .methodLink RX3 43 yX3_setNumber, .instanceMethod yX3_setNumber, .selects RX3 yX3_setNumber yX3_setNumber, .code yX3_setNumber cX3_setNumber 4 none] ++ wsX30)
def wsX3_addWish_r1 : List Cond := [Cond.methodLink RX3 31 yX3_leastNumberWithout, Cond.instanceMethod yX3_leastNumberWithout, Cond.selects RX3 yX3_leastNumberWithout yX3_leastNumberWithout, Cond.initialized RX3, Cond.code yX3_leastNumberWithout cX3_leastNumberWithout 6 (some .int), Cond.methodLink RX3 46 yX3_numberOf, Cond.instanceMethod yX3_numberOf, Cond.selects RX3 yX3_numberOf yX3_numberOf, Cond.code yX3_numberOf cX3_numberOf 3 (some .int), Cond.fieldLink RX3 9 "FenceHandshakes$Plan" "numbers" "[I", Cond.static yX5_hasBit, Cond.initialized RX5, Cond.code yX5_hasBit cX5_hasBit 2 (some .boolean), Cond.methodLink RX3 35 yX3_leftWith, Cond.instanceMethod yX3_leftWith, Cond.selects RX3 yX3_leftWith yX3_leftWith, Cond.code yX3_leftWith cX3_leftWith 4 (some .int), Cond.methodLink RX3 39 yX3_exchangeAlongPath, Cond.instanceMethod yX3_exchangeAlongPath, Cond.selects RX3 yX3_exchangeAlongPath yX3_exchangeAlongPath, Cond.code yX3_exchangeAlongPath cX3_exchangeAlongPath 9 none, Cond.static yX5_isPerson, Cond.code yX5_isPerson cX5_isPerson 1 (some .boolean), Cond.methodLink RX3 56 yX3_rightWith]
def wsX3_addWish_r2 : List Cond := [Cond.instanceMethod yX3_rightWith, Cond.selects RX3 yX3_rightWith yX3_rightWith, Cond.code yX3_rightWith cX3_rightWith 4 (some .int), Cond.methodLink RX3 43 yX3_setNumber, Cond.instanceMethod yX3_setNumber, Cond.selects RX3 yX3_setNumber yX3_setNumber, Cond.code yX3_setNumber cX3_setNumber 4 none]
def wsX3_addWish : List Cond := .code yX3_addWish cX3_addWish 5 none :: ((wsX3_addWish_r1 ++ wsX3_addWish_r2) ++ wsX30)
def wsX3_make_r1 : List Cond := [Cond.fieldLink RX3 9 "FenceHandshakes$Plan" "numbers" "[I", Cond.methodLink RX3 15 yJ7_fill_53178, Cond.static yJ7_fill_53178, Cond.initialized RJ7, Cond.code yJ7_fill_53178 cJ7_fill_53178 4 none, Cond.methodLink RX3 21 yX0_isPossible, Cond.instanceMethod yX0_isPossible, Cond.selects RX0 yX0_isPossible yX0_isPossible, Cond.initialized RX0, Cond.code yX0_isPossible cX0_isPossible 3 (some .boolean), Cond.methodLink RX0 42 yX0_hasWish, Cond.instanceMethod yX0_hasWish, Cond.selects RX0 yX0_hasWish yX0_hasWish, Cond.code yX0_hasWish cX0_hasWish 3 (some .boolean), Cond.fieldLink RX0 11 "FenceHandshakes$Clans" "cells" "[I", Cond.static yX5_hasBit, Cond.initialized RX5, Cond.code yX5_hasBit cX5_hasBit 2 (some .boolean), Cond.methodLink RX0 45 yX0_canMeet, Cond.instanceMethod yX0_canMeet, Cond.selects RX0 yX0_canMeet yX0_canMeet, Cond.code yX0_canMeet cX0_canMeet 3 (some .boolean), Cond.methodLink RX0 35 yX0_feudOf, Cond.instanceMethod yX0_feudOf]
def wsX3_make_r2 : List Cond := [Cond.selects RX0 yX0_feudOf yX0_feudOf, Cond.code yX0_feudOf cX0_feudOf 3 (some .int), Cond.methodLink RX0 39 yX0_areAtLinkedGates, Cond.instanceMethod yX0_areAtLinkedGates, Cond.selects RX0 yX0_areAtLinkedGates yX0_areAtLinkedGates, Cond.code yX0_areAtLinkedGates cX0_areAtLinkedGates 4 (some .boolean), Cond.methodLink RX3 27 yX3_addWish, Cond.instanceMethod yX3_addWish, Cond.selects RX3 yX3_addWish yX3_addWish, Cond.initialized RX3, Cond.code yX3_addWish cX3_addWish 5 none, Cond.methodLink RX3 31 yX3_leastNumberWithout, Cond.instanceMethod yX3_leastNumberWithout, Cond.selects RX3 yX3_leastNumberWithout yX3_leastNumberWithout, Cond.code yX3_leastNumberWithout cX3_leastNumberWithout 6 (some .int), Cond.methodLink RX3 46 yX3_numberOf, Cond.instanceMethod yX3_numberOf, Cond.selects RX3 yX3_numberOf yX3_numberOf, Cond.code yX3_numberOf cX3_numberOf 3 (some .int), Cond.methodLink RX3 35 yX3_leftWith, Cond.instanceMethod yX3_leftWith, Cond.selects RX3 yX3_leftWith yX3_leftWith, Cond.code yX3_leftWith cX3_leftWith 4 (some .int), Cond.methodLink RX3 39 yX3_exchangeAlongPath]
def wsX3_make_r3 : List Cond := [Cond.instanceMethod yX3_exchangeAlongPath, Cond.selects RX3 yX3_exchangeAlongPath yX3_exchangeAlongPath, Cond.code yX3_exchangeAlongPath cX3_exchangeAlongPath 9 none, Cond.static yX5_isPerson, Cond.code yX5_isPerson cX5_isPerson 1 (some .boolean), Cond.methodLink RX3 56 yX3_rightWith, Cond.instanceMethod yX3_rightWith, Cond.selects RX3 yX3_rightWith yX3_rightWith, Cond.code yX3_rightWith cX3_rightWith 4 (some .int), Cond.methodLink RX3 43 yX3_setNumber, Cond.instanceMethod yX3_setNumber, Cond.selects RX3 yX3_setNumber yX3_setNumber, Cond.code yX3_setNumber cX3_setNumber 4 none]
def wsX3_make : List Cond := .code yX3_make cX3_make 4 none :: ((wsX3_make_r1 ++ (wsX3_make_r2 ++ wsX3_make_r3)) ++ wsX30 ++ wsX00)
def wsX4_init : List Cond := .code yX4_init cX4_init 1 none :: ([.methodLink RX4 3 objectInit, .instanceMethod objectInit, .code objectInit ⟨#[0xb1]⟩ 1 none, .arrayClass .char, .fieldLink RX4 9 "FenceHandshakes$WishText" "signs" "[C", .arrayClass .int, .fieldLink RX4 15 "FenceHandshakes$WishText" "rows" "[I"] ++ wsX40)
def wsX4_length : List Cond := .code yX4_length cX4_length 1 (some .int) :: ([.fieldLink RX4 19 "FenceHandshakes$WishText" "length" "I"] ++ wsX40)
def wsX4_hasRoom : List Cond := .code yX4_hasRoom cX4_hasRoom 1 (some .boolean) :: ([.fieldLink RX4 19 "FenceHandshakes$WishText" "length" "I"] ++ wsX40)
def wsX4_add : List Cond := .code yX4_add cX4_add 2 none :: ([.fieldLink RX4 9 "FenceHandshakes$WishText" "signs" "[C", .fieldLink RX4 19 "FenceHandshakes$WishText" "length" "I", .methodLink RX4 23 yX4_hasRoom, .instanceMethod yX4_hasRoom, .selects RX4 yX4_hasRoom yX4_hasRoom, .initialized RX4, .code yX4_hasRoom cX4_hasRoom 1 (some .boolean)] ++ wsX40)
def wsX4_empty : List Cond := .code yX4_empty cX4_empty 1 none :: ([.fieldLink RX4 19 "FenceHandshakes$WishText" "length" "I"] ++ wsX40)
def wsX4_rightsFor : List Cond := .code yX4_rightsFor cX4_rightsFor 2 (some .int) :: ([.fieldLink RX4 15 "FenceHandshakes$WishText" "rows" "[I"] ++ wsX40)
def wsX4_beginGroup : List Cond := .code yX4_beginGroup cX4_beginGroup 1 none :: ([.fieldLink RX4 46 "FenceHandshakes$WishText" "lefts" "I", .fieldLink RX4 40 "FenceHandshakes$WishText" "rights" "I", .fieldLink RX4 49 "FenceHandshakes$WishText" "isBehindDash" "Z"] ++ wsX40)
def wsX4_takesPerson : List Cond := .code yX4_takesPerson cX4_takesPerson 2 (some .boolean) :: ([.fieldLink RX4 49 "FenceHandshakes$WishText" "isBehindDash" "Z", .fieldLink RX4 40 "FenceHandshakes$WishText" "rights" "I", .fieldLink RX4 46 "FenceHandshakes$WishText" "lefts" "I"] ++ wsX40)
def wsX4_endGroup : List Cond := .code yX4_endGroup cX4_endGroup 2 none :: ([.fieldLink RX4 46 "FenceHandshakes$WishText" "lefts" "I", .fieldLink RX4 15 "FenceHandshakes$WishText" "rows" "[I", .fieldLink RX4 40 "FenceHandshakes$WishText" "rights" "I", .static yX5_hasBit, .initialized RX5, .code yX5_hasBit cX5_hasBit 2 (some .boolean)] ++ wsX40)
def wsX4_takesSign : List Cond := .code yX4_takesSign cX4_takesSign 2 (some .boolean) :: ([.fieldLink RX4 46 "FenceHandshakes$WishText" "lefts" "I", .fieldLink RX4 49 "FenceHandshakes$WishText" "isBehindDash" "Z", .fieldLink RX4 40 "FenceHandshakes$WishText" "rights" "I", .methodLink RX4 57 yX4_takesPerson, .instanceMethod yX4_takesPerson, .selects RX4 yX4_takesPerson yX4_takesPerson, .initialized RX4, .code yX4_takesPerson cX4_takesPerson 2 (some .boolean), .methodLink RX4 43 yX4_endGroup, .instanceMethod yX4_endGroup, .selects RX4 yX4_endGroup yX4_endGroup, .code yX4_endGroup cX4_endGroup 2 none, .fieldLink RX4 15 "FenceHandshakes$WishText" "rows" "[I", .static yX5_hasBit, .initialized RX5, .code yX5_hasBit cX5_hasBit 2 (some .boolean), .methodLink RX4 33 yX4_beginGroup, .instanceMethod yX4_beginGroup, .selects RX4 yX4_beginGroup yX4_beginGroup, .code yX4_beginGroup cX4_beginGroup 1 none] ++ wsX40)
def wsX4_parse_r1 : List Cond := [Cond.fieldLink RX4 15 "FenceHandshakes$WishText" "rows" "[I", Cond.fieldLink RX4 19 "FenceHandshakes$WishText" "length" "I", Cond.fieldLink RX4 9 "FenceHandshakes$WishText" "signs" "[C", Cond.fieldLink RX4 40 "FenceHandshakes$WishText" "rights" "I", Cond.methodLink RX4 27 yJ7_fill_53178, Cond.static yJ7_fill_53178, Cond.initialized RJ7, Cond.code yJ7_fill_53178 cJ7_fill_53178 4 none, Cond.methodLink RX4 33 yX4_beginGroup, Cond.instanceMethod yX4_beginGroup, Cond.selects RX4 yX4_beginGroup yX4_beginGroup, Cond.initialized RX4, Cond.code yX4_beginGroup cX4_beginGroup 1 none, Cond.fieldLink RX4 46 "FenceHandshakes$WishText" "lefts" "I", Cond.fieldLink RX4 49 "FenceHandshakes$WishText" "isBehindDash" "Z", Cond.methodLink RX4 36 yX4_takesSign, Cond.instanceMethod yX4_takesSign, Cond.selects RX4 yX4_takesSign yX4_takesSign, Cond.code yX4_takesSign cX4_takesSign 2 (some .boolean), Cond.methodLink RX4 57 yX4_takesPerson, Cond.instanceMethod yX4_takesPerson, Cond.selects RX4 yX4_takesPerson yX4_takesPerson, Cond.code yX4_takesPerson cX4_takesPerson 2 (some .boolean), Cond.methodLink RX4 43 yX4_endGroup]
def wsX4_parse_r2 : List Cond := [Cond.instanceMethod yX4_endGroup, Cond.selects RX4 yX4_endGroup yX4_endGroup, Cond.code yX4_endGroup cX4_endGroup 2 none, Cond.static yX5_hasBit, Cond.initialized RX5, Cond.code yX5_hasBit cX5_hasBit 2 (some .boolean)]
def wsX4_parse : List Cond := .code yX4_parse cX4_parse 2 (some .int) :: ((wsX4_parse_r1 ++ wsX4_parse_r2) ++ wsX40)
def wsX5_init_r1 : List Cond := [Cond.methodLink RX5 3 objectInit, Cond.instanceMethod objectInit, Cond.code objectInit ⟨#[0xb1]⟩ 1 none, Cond.classLink RX5 9 RX0, Cond.instantiable RX0 1, Cond.initialized RX0, Cond.fieldLink RX5 12 "FenceHandshakes" "now" "LFenceHandshakes$Clans;", Cond.fieldLink RX5 16 "FenceHandshakes" "trial" "LFenceHandshakes$Clans;", Cond.fieldLink RX5 19 "FenceHandshakes" "snapshot" "LFenceHandshakes$Clans;", Cond.classLink RX5 22 RX1, Cond.instantiable RX1 3, Cond.initialized RX1, Cond.fieldLink RX5 25 "FenceHandshakes" "history" "LFenceHandshakes$History;", Cond.classLink RX5 29 RX4, Cond.instantiable RX4 6, Cond.initialized RX4, Cond.fieldLink RX5 32 "FenceHandshakes" "text" "LFenceHandshakes$WishText;", Cond.classLink RX5 36 RX2, Cond.instantiable RX2 5, Cond.initialized RX2, Cond.fieldLink RX5 39 "FenceHandshakes" "matching" "LFenceHandshakes$Matching;", Cond.classLink RX5 43 RX3, Cond.instantiable RX3 1, Cond.initialized RX3]
def wsX5_init_r2 : List Cond := [Cond.fieldLink RX5 46 "FenceHandshakes" "plan" "LFenceHandshakes$Plan;", Cond.fieldLink RX5 50 "FenceHandshakes" "hasSnapshot" "Z", Cond.methodLink RX5 11 yX0_init, Cond.instanceMethod yX0_init, Cond.code yX0_init cX0_init 2 none, Cond.methodLink RX0 5 objectInit, Cond.arrayClass .int, Cond.fieldLink RX0 11 "FenceHandshakes$Clans" "cells" "[I", Cond.instanceMethod yX1_init, Cond.code yX1_init cX1_init 1 none, Cond.methodLink RX1 3 objectInit, Cond.fieldLink RX1 11 "FenceHandshakes$History" "rows" "[I", Cond.instanceMethod yX4_init, Cond.code yX4_init cX4_init 1 none, Cond.methodLink RX4 3 objectInit, Cond.arrayClass .char, Cond.fieldLink RX4 9 "FenceHandshakes$WishText" "signs" "[C", Cond.fieldLink RX4 15 "FenceHandshakes$WishText" "rows" "[I", Cond.instanceMethod yX2_init, Cond.code yX2_init cX2_init 1 none, Cond.methodLink RX2 3 objectInit, Cond.fieldLink RX2 9 "FenceHandshakes$Matching" "wished" "[I", Cond.fieldLink RX2 15 "FenceHandshakes$Matching" "ofLeft" "[I", Cond.fieldLink RX2 18 "FenceHandshakes$Matching" "ofRight" "[I"]
def wsX5_init_r3 : List Cond := [Cond.fieldLink RX2 21 "FenceHandshakes$Matching" "seenFrom" "[I", Cond.instanceMethod yX3_init, Cond.code yX3_init cX3_init 1 none, Cond.methodLink RX3 3 objectInit, Cond.fieldLink RX3 9 "FenceHandshakes$Plan" "numbers" "[I"]
def wsX5_init : List Cond := .code yX5_init cX5_init 1 none :: ((wsX5_init_r1 ++ (wsX5_init_r2 ++ wsX5_init_r3)) ++ wsX00 ++ wsX50 ++ wsX10 ++ wsX40 ++ wsX20 ++ wsX30)
def wsX5_arePeople : List Cond := .code yX5_arePeople cX5_arePeople 2 (some .boolean) :: ([.methodLink RX5 99 yX5_isPerson, .static yX5_isPerson, .initialized RX5, .code yX5_isPerson cX5_isPerson 1 (some .boolean)])
def wsX5_wish_r1 : List Cond := [Cond.fieldLink RX5 12 "FenceHandshakes" "now" "LFenceHandshakes$Clans;", Cond.fieldLink RX5 25 "FenceHandshakes" "history" "LFenceHandshakes$History;", Cond.methodLink RX5 54 yX5_arePeople, Cond.static yX5_arePeople, Cond.initialized RX5, Cond.code yX5_arePeople cX5_arePeople 2 (some .boolean), Cond.methodLink RX5 99 yX5_isPerson, Cond.static yX5_isPerson, Cond.code yX5_isPerson cX5_isPerson 1 (some .boolean), Cond.methodLink RX5 58 yX0_hasWish, Cond.instanceMethod yX0_hasWish, Cond.selects RX0 yX0_hasWish yX0_hasWish, Cond.initialized RX0, Cond.code yX0_hasWish cX0_hasWish 3 (some .boolean), Cond.fieldLink RX0 11 "FenceHandshakes$Clans" "cells" "[I", Cond.static yX5_hasBit, Cond.code yX5_hasBit cX5_hasBit 2 (some .boolean), Cond.methodLink RX5 61 yX1_keep, Cond.instanceMethod yX1_keep, Cond.selects RX1 yX1_keep yX1_keep, Cond.initialized RX1, Cond.code yX1_keep cX1_keep 2 none, Cond.fieldLink RX1 17 "FenceHandshakes$History" "size" "I", Cond.fieldLink RX1 21 "FenceHandshakes$History" "oldest" "I"]
def wsX5_wish_r2 : List Cond := [Cond.fieldLink RX1 11 "FenceHandshakes$History" "rows" "[I", Cond.methodLink RX1 31 arraycopyName, Cond.native arraycopyName, Cond.static arraycopyName, Cond.initialized "java/lang/System", Cond.methodLink RX1 27 yX1_startOfRow, Cond.instanceMethod yX1_startOfRow, Cond.selects RX1 yX1_startOfRow yX1_startOfRow, Cond.code yX1_startOfRow cX1_startOfRow 2 (some .int), Cond.methodLink RX5 65 yX0_openWish, Cond.instanceMethod yX0_openWish, Cond.selects RX0 yX0_openWish yX0_openWish, Cond.code yX0_openWish cX0_openWish 3 none, Cond.methodLink RX0 25 yX0_openWishes, Cond.instanceMethod yX0_openWishes, Cond.selects RX0 yX0_openWishes yX0_openWishes, Cond.code yX0_openWishes cX0_openWishes 3 none, Cond.methodLink RX5 69 yX0_numberOfWishes, Cond.instanceMethod yX0_numberOfWishes, Cond.selects RX0 yX0_numberOfWishes yX0_numberOfWishes, Cond.code yX0_numberOfWishes cX0_numberOfWishes 3 (some .int), Cond.methodLink RX0 29 yJ6_bitCount_0f7a4, Cond.static yJ6_bitCount_0f7a4, Cond.initialized RJ6]
def wsX5_wish_r3 : List Cond := [Cond.code yJ6_bitCount_0f7a4 cJ6_bitCount_0f7a4 1 (some .int), Cond.constant RJ6 265 (1431655765), Cond.constant RJ6 266 (858993459), Cond.constant RJ6 267 (252645135)]
def wsX5_wish : List Cond := .code yX5_wish cX5_wish 3 (some .int) :: ((wsX5_wish_r1 ++ (wsX5_wish_r2 ++ wsX5_wish_r3)) ++ wsX50 ++ wsX00 ++ wsX10)
def wsX5_withdraw_r1 : List Cond := [Cond.fieldLink RX5 12 "FenceHandshakes" "now" "LFenceHandshakes$Clans;", Cond.fieldLink RX5 25 "FenceHandshakes" "history" "LFenceHandshakes$History;", Cond.methodLink RX5 54 yX5_arePeople, Cond.static yX5_arePeople, Cond.initialized RX5, Cond.code yX5_arePeople cX5_arePeople 2 (some .boolean), Cond.methodLink RX5 99 yX5_isPerson, Cond.static yX5_isPerson, Cond.code yX5_isPerson cX5_isPerson 1 (some .boolean), Cond.methodLink RX5 58 yX0_hasWish, Cond.instanceMethod yX0_hasWish, Cond.selects RX0 yX0_hasWish yX0_hasWish, Cond.initialized RX0, Cond.code yX0_hasWish cX0_hasWish 3 (some .boolean), Cond.fieldLink RX0 11 "FenceHandshakes$Clans" "cells" "[I", Cond.static yX5_hasBit, Cond.code yX5_hasBit cX5_hasBit 2 (some .boolean), Cond.methodLink RX5 61 yX1_keep, Cond.instanceMethod yX1_keep, Cond.selects RX1 yX1_keep yX1_keep, Cond.initialized RX1, Cond.code yX1_keep cX1_keep 2 none, Cond.fieldLink RX1 17 "FenceHandshakes$History" "size" "I", Cond.fieldLink RX1 21 "FenceHandshakes$History" "oldest" "I"]
def wsX5_withdraw_r2 : List Cond := [Cond.fieldLink RX1 11 "FenceHandshakes$History" "rows" "[I", Cond.methodLink RX1 31 arraycopyName, Cond.native arraycopyName, Cond.static arraycopyName, Cond.initialized "java/lang/System", Cond.methodLink RX1 27 yX1_startOfRow, Cond.instanceMethod yX1_startOfRow, Cond.selects RX1 yX1_startOfRow yX1_startOfRow, Cond.code yX1_startOfRow cX1_startOfRow 2 (some .int), Cond.methodLink RX5 73 yX0_closeWish, Cond.instanceMethod yX0_closeWish, Cond.selects RX0 yX0_closeWish yX0_closeWish, Cond.code yX0_closeWish cX0_closeWish 3 none, Cond.methodLink RX5 69 yX0_numberOfWishes, Cond.instanceMethod yX0_numberOfWishes, Cond.selects RX0 yX0_numberOfWishes yX0_numberOfWishes, Cond.code yX0_numberOfWishes cX0_numberOfWishes 3 (some .int), Cond.methodLink RX0 29 yJ6_bitCount_0f7a4, Cond.static yJ6_bitCount_0f7a4, Cond.initialized RJ6, Cond.code yJ6_bitCount_0f7a4 cJ6_bitCount_0f7a4 1 (some .int), Cond.constant RJ6 265 (1431655765), Cond.constant RJ6 266 (858993459), Cond.constant RJ6 267 (252645135)]
def wsX5_withdraw : List Cond := .code yX5_withdraw cX5_withdraw 3 (some .int) :: ((wsX5_withdraw_r1 ++ wsX5_withdraw_r2) ++ wsX50 ++ wsX00 ++ wsX10)
def wsX5_quarrel_r1 : List Cond := [Cond.fieldLink RX5 25 "FenceHandshakes" "history" "LFenceHandshakes$History;", Cond.fieldLink RX5 12 "FenceHandshakes" "now" "LFenceHandshakes$Clans;", Cond.methodLink RX5 54 yX5_arePeople, Cond.static yX5_arePeople, Cond.initialized RX5, Cond.code yX5_arePeople cX5_arePeople 2 (some .boolean), Cond.methodLink RX5 99 yX5_isPerson, Cond.static yX5_isPerson, Cond.code yX5_isPerson cX5_isPerson 1 (some .boolean), Cond.methodLink RX5 61 yX1_keep, Cond.instanceMethod yX1_keep, Cond.selects RX1 yX1_keep yX1_keep, Cond.initialized RX1, Cond.code yX1_keep cX1_keep 2 none, Cond.fieldLink RX1 17 "FenceHandshakes$History" "size" "I", Cond.fieldLink RX1 21 "FenceHandshakes$History" "oldest" "I", Cond.fieldLink RX1 11 "FenceHandshakes$History" "rows" "[I", Cond.methodLink RX1 31 arraycopyName, Cond.native arraycopyName, Cond.static arraycopyName, Cond.initialized "java/lang/System", Cond.methodLink RX1 27 yX1_startOfRow, Cond.instanceMethod yX1_startOfRow, Cond.selects RX1 yX1_startOfRow yX1_startOfRow]
def wsX5_quarrel_r2 : List Cond := [Cond.code yX1_startOfRow cX1_startOfRow 2 (some .int), Cond.methodLink RX5 76 yX0_feudOf, Cond.instanceMethod yX0_feudOf, Cond.selects RX0 yX0_feudOf yX0_feudOf, Cond.initialized RX0, Cond.code yX0_feudOf cX0_feudOf 3 (some .int), Cond.fieldLink RX0 11 "FenceHandshakes$Clans" "cells" "[I", Cond.methodLink RX5 80 yX0_setFeud, Cond.instanceMethod yX0_setFeud, Cond.selects RX0 yX0_setFeud yX0_setFeud, Cond.code yX0_setFeud cX0_setFeud 4 none]
def wsX5_quarrel : List Cond := .code yX5_quarrel cX5_quarrel 5 (some .int) :: ((wsX5_quarrel_r1 ++ wsX5_quarrel_r2) ++ wsX50 ++ wsX10 ++ wsX00)
def wsX5_reconcile_r1 : List Cond := [Cond.fieldLink RX5 12 "FenceHandshakes" "now" "LFenceHandshakes$Clans;", Cond.fieldLink RX5 25 "FenceHandshakes" "history" "LFenceHandshakes$History;", Cond.methodLink RX5 54 yX5_arePeople, Cond.static yX5_arePeople, Cond.initialized RX5, Cond.code yX5_arePeople cX5_arePeople 2 (some .boolean), Cond.methodLink RX5 99 yX5_isPerson, Cond.static yX5_isPerson, Cond.code yX5_isPerson cX5_isPerson 1 (some .boolean), Cond.methodLink RX5 76 yX0_feudOf, Cond.instanceMethod yX0_feudOf, Cond.selects RX0 yX0_feudOf yX0_feudOf, Cond.initialized RX0, Cond.code yX0_feudOf cX0_feudOf 3 (some .int), Cond.fieldLink RX0 11 "FenceHandshakes$Clans" "cells" "[I", Cond.methodLink RX5 61 yX1_keep, Cond.instanceMethod yX1_keep, Cond.selects RX1 yX1_keep yX1_keep, Cond.initialized RX1, Cond.code yX1_keep cX1_keep 2 none, Cond.fieldLink RX1 17 "FenceHandshakes$History" "size" "I", Cond.fieldLink RX1 21 "FenceHandshakes$History" "oldest" "I", Cond.fieldLink RX1 11 "FenceHandshakes$History" "rows" "[I", Cond.methodLink RX1 31 arraycopyName]
def wsX5_reconcile_r2 : List Cond := [Cond.native arraycopyName, Cond.static arraycopyName, Cond.initialized "java/lang/System", Cond.methodLink RX1 27 yX1_startOfRow, Cond.instanceMethod yX1_startOfRow, Cond.selects RX1 yX1_startOfRow yX1_startOfRow, Cond.code yX1_startOfRow cX1_startOfRow 2 (some .int), Cond.methodLink RX5 80 yX0_setFeud, Cond.instanceMethod yX0_setFeud, Cond.selects RX0 yX0_setFeud yX0_setFeud, Cond.code yX0_setFeud cX0_setFeud 4 none]
def wsX5_reconcile : List Cond := .code yX5_reconcile cX5_reconcile 4 (some .int) :: ((wsX5_reconcile_r1 ++ wsX5_reconcile_r2) ++ wsX50 ++ wsX00 ++ wsX10)
def wsX5_isGate : List Cond := .code yX5_isGate cX5_isGate 1 (some .boolean) :: ([])
def wsX5_link_r1 : List Cond := [Cond.fieldLink RX5 25 "FenceHandshakes" "history" "LFenceHandshakes$History;", Cond.fieldLink RX5 12 "FenceHandshakes" "now" "LFenceHandshakes$Clans;", Cond.methodLink RX5 84 yX5_isGate, Cond.static yX5_isGate, Cond.initialized RX5, Cond.code yX5_isGate cX5_isGate 1 (some .boolean), Cond.methodLink RX5 61 yX1_keep, Cond.instanceMethod yX1_keep, Cond.selects RX1 yX1_keep yX1_keep, Cond.initialized RX1, Cond.code yX1_keep cX1_keep 2 none, Cond.fieldLink RX1 17 "FenceHandshakes$History" "size" "I", Cond.fieldLink RX1 21 "FenceHandshakes$History" "oldest" "I", Cond.fieldLink RX1 11 "FenceHandshakes$History" "rows" "[I", Cond.methodLink RX1 31 arraycopyName, Cond.native arraycopyName, Cond.static arraycopyName, Cond.initialized "java/lang/System", Cond.methodLink RX1 27 yX1_startOfRow, Cond.instanceMethod yX1_startOfRow, Cond.selects RX1 yX1_startOfRow yX1_startOfRow, Cond.code yX1_startOfRow cX1_startOfRow 2 (some .int), Cond.methodLink RX5 88 yX0_areLinked, Cond.instanceMethod yX0_areLinked]
def wsX5_link_r2 : List Cond := [Cond.selects RX0 yX0_areLinked yX0_areLinked, Cond.initialized RX0, Cond.code yX0_areLinked cX0_areLinked 3 (some .boolean), Cond.fieldLink RX0 11 "FenceHandshakes$Clans" "cells" "[I", Cond.static yX5_hasBit, Cond.code yX5_hasBit cX5_hasBit 2 (some .boolean), Cond.methodLink RX5 91 yX5_asNumber, Cond.static yX5_asNumber, Cond.code yX5_asNumber cX5_asNumber 1 (some .int), Cond.methodLink RX5 95 yX0_setLinked, Cond.instanceMethod yX0_setLinked, Cond.selects RX0 yX0_setLinked yX0_setLinked, Cond.code yX0_setLinked cX0_setLinked 5 none]
def wsX5_link : List Cond := .code yX5_link cX5_link 5 (some .int) :: ((wsX5_link_r1 ++ wsX5_link_r2) ++ wsX50 ++ wsX10 ++ wsX00)
def wsX5_move_r1 : List Cond := [Cond.fieldLink RX5 25 "FenceHandshakes" "history" "LFenceHandshakes$History;", Cond.fieldLink RX5 12 "FenceHandshakes" "now" "LFenceHandshakes$Clans;", Cond.methodLink RX5 99 yX5_isPerson, Cond.static yX5_isPerson, Cond.initialized RX5, Cond.code yX5_isPerson cX5_isPerson 1 (some .boolean), Cond.methodLink RX5 84 yX5_isGate, Cond.static yX5_isGate, Cond.code yX5_isGate cX5_isGate 1 (some .boolean), Cond.methodLink RX5 61 yX1_keep, Cond.instanceMethod yX1_keep, Cond.selects RX1 yX1_keep yX1_keep, Cond.initialized RX1, Cond.code yX1_keep cX1_keep 2 none, Cond.fieldLink RX1 17 "FenceHandshakes$History" "size" "I", Cond.fieldLink RX1 21 "FenceHandshakes$History" "oldest" "I", Cond.fieldLink RX1 11 "FenceHandshakes$History" "rows" "[I", Cond.methodLink RX1 31 arraycopyName, Cond.native arraycopyName, Cond.static arraycopyName, Cond.initialized "java/lang/System", Cond.methodLink RX1 27 yX1_startOfRow, Cond.instanceMethod yX1_startOfRow, Cond.selects RX1 yX1_startOfRow yX1_startOfRow]
def wsX5_move_r2 : List Cond := [Cond.code yX1_startOfRow cX1_startOfRow 2 (some .int), Cond.methodLink RX5 102 yX0_gateOf, Cond.instanceMethod yX0_gateOf, Cond.selects RX0 yX0_gateOf yX0_gateOf, Cond.initialized RX0, Cond.code yX0_gateOf cX0_gateOf 3 (some .int), Cond.fieldLink RX0 11 "FenceHandshakes$Clans" "cells" "[I", Cond.methodLink RX5 106 yX0_setGate, Cond.instanceMethod yX0_setGate, Cond.selects RX0 yX0_setGate yX0_setGate, Cond.code yX0_setGate cX0_setGate 4 none]
def wsX5_move : List Cond := .code yX5_move cX5_move 5 (some .int) :: ((wsX5_move_r1 ++ wsX5_move_r2) ++ wsX50 ++ wsX10 ++ wsX00)
def wsX5_makeRound_r1 : List Cond := [Cond.fieldLink RX5 39 "FenceHandshakes" "matching" "LFenceHandshakes$Matching;", Cond.methodLink RX5 160 yX2_takeFirst, Cond.instanceMethod yX2_takeFirst, Cond.selects RX2 yX2_takeFirst yX2_takeFirst, Cond.initialized RX2, Cond.code yX2_takeFirst cX2_takeFirst 6 none, Cond.fieldLink RX2 15 "FenceHandshakes$Matching" "ofLeft" "[I", Cond.fieldLink RX2 9 "FenceHandshakes$Matching" "wished" "[I", Cond.methodLink RX2 43 yX2_takeGreatest, Cond.instanceMethod yX2_takeGreatest, Cond.selects RX2 yX2_takeGreatest yX2_takeGreatest, Cond.code yX2_takeGreatest cX2_takeGreatest 4 none, Cond.fieldLink RX2 18 "FenceHandshakes$Matching" "ofRight" "[I", Cond.methodLink RX2 28 yJ7_fill_53178, Cond.static yJ7_fill_53178, Cond.initialized RJ7, Cond.code yJ7_fill_53178 cJ7_fill_53178 4 none, Cond.methodLink RX2 34 yX0_isPossible, Cond.instanceMethod yX0_isPossible, Cond.selects RX0 yX0_isPossible yX0_isPossible, Cond.initialized RX0, Cond.code yX0_isPossible cX0_isPossible 3 (some .boolean), Cond.methodLink RX0 42 yX0_hasWish, Cond.instanceMethod yX0_hasWish]
def wsX5_makeRound_r2 : List Cond := [Cond.selects RX0 yX0_hasWish yX0_hasWish, Cond.code yX0_hasWish cX0_hasWish 3 (some .boolean), Cond.fieldLink RX0 11 "FenceHandshakes$Clans" "cells" "[I", Cond.static yX5_hasBit, Cond.initialized RX5, Cond.code yX5_hasBit cX5_hasBit 2 (some .boolean), Cond.methodLink RX0 45 yX0_canMeet, Cond.instanceMethod yX0_canMeet, Cond.selects RX0 yX0_canMeet yX0_canMeet, Cond.code yX0_canMeet cX0_canMeet 3 (some .boolean), Cond.methodLink RX0 35 yX0_feudOf, Cond.instanceMethod yX0_feudOf, Cond.selects RX0 yX0_feudOf yX0_feudOf, Cond.code yX0_feudOf cX0_feudOf 3 (some .int), Cond.methodLink RX0 39 yX0_areAtLinkedGates, Cond.instanceMethod yX0_areAtLinkedGates, Cond.selects RX0 yX0_areAtLinkedGates yX0_areAtLinkedGates, Cond.code yX0_areAtLinkedGates cX0_areAtLinkedGates 4 (some .boolean), Cond.methodLink RX2 40 yX2_growsByOne, Cond.instanceMethod yX2_growsByOne, Cond.selects RX2 yX2_growsByOne yX2_growsByOne, Cond.code yX2_growsByOne cX2_growsByOne 7 (some .boolean), Cond.fieldLink RX2 21 "FenceHandshakes$Matching" "seenFrom" "[I", Cond.methodLink RX2 58 yX2_findFreeRight]
def wsX5_makeRound_r3 : List Cond := [Cond.instanceMethod yX2_findFreeRight, Cond.selects RX2 yX2_findFreeRight yX2_findFreeRight, Cond.code yX2_findFreeRight cX2_findFreeRight 8 (some .int), Cond.fieldLink RX2 62 "FenceHandshakes$Matching" "reachedLefts" "I", Cond.methodLink RX2 70 yX2_leftsWithoutPartner, Cond.instanceMethod yX2_leftsWithoutPartner, Cond.selects RX2 yX2_leftsWithoutPartner yX2_leftsWithoutPartner, Cond.code yX2_leftsWithoutPartner cX2_leftsWithoutPartner 4 (some .int), Cond.static yX5_isPerson, Cond.code yX5_isPerson cX5_isPerson 1 (some .boolean), Cond.methodLink RX2 66 yX2_join, Cond.instanceMethod yX2_join, Cond.selects RX2 yX2_join yX2_join, Cond.code yX2_join cX2_join 3 none, Cond.methodLink RX2 50 yX2_canTake, Cond.instanceMethod yX2_canTake, Cond.selects RX2 yX2_canTake yX2_canTake, Cond.code yX2_canTake cX2_canTake 6 (some .boolean), Cond.methodLink RX5 163 yX2_partnerOf, Cond.instanceMethod yX2_partnerOf, Cond.selects RX2 yX2_partnerOf yX2_partnerOf, Cond.code yX2_partnerOf cX2_partnerOf 3 (some .int), Cond.methodLink RX5 99 yX5_isPerson, Cond.methodLink RX5 196 yX0_shakeHands]
def wsX5_makeRound_r4 : List Cond := [Cond.instanceMethod yX0_shakeHands, Cond.selects RX0 yX0_shakeHands yX0_shakeHands, Cond.code yX0_shakeHands cX0_shakeHands 3 none, Cond.methodLink RX0 66 yX0_closeWish, Cond.instanceMethod yX0_closeWish, Cond.selects RX0 yX0_closeWish yX0_closeWish, Cond.code yX0_closeWish cX0_closeWish 3 none, Cond.methodLink RX5 199 yX0_endRound, Cond.instanceMethod yX0_endRound, Cond.selects RX0 yX0_endRound yX0_endRound, Cond.code yX0_endRound cX0_endRound 2 none, Cond.methodLink RX5 202 yX2_size, Cond.instanceMethod yX2_size, Cond.selects RX2 yX2_size yX2_size, Cond.code yX2_size cX2_size 3 (some .int), Cond.static yX5_asNumber, Cond.code yX5_asNumber cX5_asNumber 1 (some .int)]
def wsX5_makeRound : List Cond := .code yX5_makeRound cX5_makeRound 4 (some .int) :: ((wsX5_makeRound_r1 ++ (wsX5_makeRound_r2 ++ (wsX5_makeRound_r3 ++ wsX5_makeRound_r4))) ++ wsX50 ++ wsX20 ++ wsX00)
def wsX5_round_r1 : List Cond := [Cond.fieldLink RX5 25 "FenceHandshakes" "history" "LFenceHandshakes$History;", Cond.fieldLink RX5 12 "FenceHandshakes" "now" "LFenceHandshakes$Clans;", Cond.methodLink RX5 61 yX1_keep, Cond.instanceMethod yX1_keep, Cond.selects RX1 yX1_keep yX1_keep, Cond.initialized RX1, Cond.code yX1_keep cX1_keep 2 none, Cond.fieldLink RX1 17 "FenceHandshakes$History" "size" "I", Cond.fieldLink RX1 21 "FenceHandshakes$History" "oldest" "I", Cond.fieldLink RX1 11 "FenceHandshakes$History" "rows" "[I", Cond.methodLink RX1 31 arraycopyName, Cond.native arraycopyName, Cond.static arraycopyName, Cond.initialized "java/lang/System", Cond.methodLink RX1 27 yX1_startOfRow, Cond.instanceMethod yX1_startOfRow, Cond.selects RX1 yX1_startOfRow yX1_startOfRow, Cond.code yX1_startOfRow cX1_startOfRow 2 (some .int), Cond.methodLink RX5 110 yX5_makeRound, Cond.instanceMethod yX5_makeRound, Cond.selects RX5 yX5_makeRound yX5_makeRound, Cond.initialized RX5, Cond.code yX5_makeRound cX5_makeRound 4 (some .int), Cond.fieldLink RX5 39 "FenceHandshakes" "matching" "LFenceHandshakes$Matching;"]
def wsX5_round_r2 : List Cond := [Cond.methodLink RX5 160 yX2_takeFirst, Cond.instanceMethod yX2_takeFirst, Cond.selects RX2 yX2_takeFirst yX2_takeFirst, Cond.initialized RX2, Cond.code yX2_takeFirst cX2_takeFirst 6 none, Cond.fieldLink RX2 15 "FenceHandshakes$Matching" "ofLeft" "[I", Cond.fieldLink RX2 9 "FenceHandshakes$Matching" "wished" "[I", Cond.methodLink RX2 43 yX2_takeGreatest, Cond.instanceMethod yX2_takeGreatest, Cond.selects RX2 yX2_takeGreatest yX2_takeGreatest, Cond.code yX2_takeGreatest cX2_takeGreatest 4 none, Cond.fieldLink RX2 18 "FenceHandshakes$Matching" "ofRight" "[I", Cond.methodLink RX2 28 yJ7_fill_53178, Cond.static yJ7_fill_53178, Cond.initialized RJ7, Cond.code yJ7_fill_53178 cJ7_fill_53178 4 none, Cond.methodLink RX2 34 yX0_isPossible, Cond.instanceMethod yX0_isPossible, Cond.selects RX0 yX0_isPossible yX0_isPossible, Cond.initialized RX0, Cond.code yX0_isPossible cX0_isPossible 3 (some .boolean), Cond.methodLink RX0 42 yX0_hasWish, Cond.instanceMethod yX0_hasWish, Cond.selects RX0 yX0_hasWish yX0_hasWish]
def wsX5_round_r3 : List Cond := [Cond.code yX0_hasWish cX0_hasWish 3 (some .boolean), Cond.fieldLink RX0 11 "FenceHandshakes$Clans" "cells" "[I", Cond.static yX5_hasBit, Cond.code yX5_hasBit cX5_hasBit 2 (some .boolean), Cond.methodLink RX0 45 yX0_canMeet, Cond.instanceMethod yX0_canMeet, Cond.selects RX0 yX0_canMeet yX0_canMeet, Cond.code yX0_canMeet cX0_canMeet 3 (some .boolean), Cond.methodLink RX0 35 yX0_feudOf, Cond.instanceMethod yX0_feudOf, Cond.selects RX0 yX0_feudOf yX0_feudOf, Cond.code yX0_feudOf cX0_feudOf 3 (some .int), Cond.methodLink RX0 39 yX0_areAtLinkedGates, Cond.instanceMethod yX0_areAtLinkedGates, Cond.selects RX0 yX0_areAtLinkedGates yX0_areAtLinkedGates, Cond.code yX0_areAtLinkedGates cX0_areAtLinkedGates 4 (some .boolean), Cond.methodLink RX2 40 yX2_growsByOne, Cond.instanceMethod yX2_growsByOne, Cond.selects RX2 yX2_growsByOne yX2_growsByOne, Cond.code yX2_growsByOne cX2_growsByOne 7 (some .boolean), Cond.fieldLink RX2 21 "FenceHandshakes$Matching" "seenFrom" "[I", Cond.methodLink RX2 58 yX2_findFreeRight, Cond.instanceMethod yX2_findFreeRight, Cond.selects RX2 yX2_findFreeRight yX2_findFreeRight]
def wsX5_round_r4 : List Cond := [Cond.code yX2_findFreeRight cX2_findFreeRight 8 (some .int), Cond.fieldLink RX2 62 "FenceHandshakes$Matching" "reachedLefts" "I", Cond.methodLink RX2 70 yX2_leftsWithoutPartner, Cond.instanceMethod yX2_leftsWithoutPartner, Cond.selects RX2 yX2_leftsWithoutPartner yX2_leftsWithoutPartner, Cond.code yX2_leftsWithoutPartner cX2_leftsWithoutPartner 4 (some .int), Cond.static yX5_isPerson, Cond.code yX5_isPerson cX5_isPerson 1 (some .boolean), Cond.methodLink RX2 66 yX2_join, Cond.instanceMethod yX2_join, Cond.selects RX2 yX2_join yX2_join, Cond.code yX2_join cX2_join 3 none, Cond.methodLink RX2 50 yX2_canTake, Cond.instanceMethod yX2_canTake, Cond.selects RX2 yX2_canTake yX2_canTake, Cond.code yX2_canTake cX2_canTake 6 (some .boolean), Cond.methodLink RX5 163 yX2_partnerOf, Cond.instanceMethod yX2_partnerOf, Cond.selects RX2 yX2_partnerOf yX2_partnerOf, Cond.code yX2_partnerOf cX2_partnerOf 3 (some .int), Cond.methodLink RX5 99 yX5_isPerson, Cond.methodLink RX5 196 yX0_shakeHands, Cond.instanceMethod yX0_shakeHands, Cond.selects RX0 yX0_shakeHands yX0_shakeHands]
def wsX5_round_r5 : List Cond := [Cond.code yX0_shakeHands cX0_shakeHands 3 none, Cond.methodLink RX0 66 yX0_closeWish, Cond.instanceMethod yX0_closeWish, Cond.selects RX0 yX0_closeWish yX0_closeWish, Cond.code yX0_closeWish cX0_closeWish 3 none, Cond.methodLink RX5 199 yX0_endRound, Cond.instanceMethod yX0_endRound, Cond.selects RX0 yX0_endRound yX0_endRound, Cond.code yX0_endRound cX0_endRound 2 none, Cond.methodLink RX5 202 yX2_size, Cond.instanceMethod yX2_size, Cond.selects RX2 yX2_size yX2_size, Cond.code yX2_size cX2_size 3 (some .int), Cond.static yX5_asNumber, Cond.code yX5_asNumber cX5_asNumber 1 (some .int)]
def wsX5_round : List Cond := .code yX5_round cX5_round 1 (some .int) :: ((wsX5_round_r1 ++ (wsX5_round_r2 ++ (wsX5_round_r3 ++ (wsX5_round_r4 ++ wsX5_round_r5)))) ++ wsX50 ++ wsX10 ++ wsX00 ++ wsX20)
def wsX5_append : List Cond := .code yX5_append cX5_append 2 (some .int) :: ([.fieldLink RX5 32 "FenceHandshakes" "text" "LFenceHandshakes$WishText;", .methodLink RX5 114 yX4_hasRoom, .instanceMethod yX4_hasRoom, .selects RX4 yX4_hasRoom yX4_hasRoom, .initialized RX4, .code yX4_hasRoom cX4_hasRoom 1 (some .boolean), .fieldLink RX4 19 "FenceHandshakes$WishText" "length" "I", .methodLink RX5 118 yX4_add, .instanceMethod yX4_add, .selects RX4 yX4_add yX4_add, .code yX4_add cX4_add 2 none, .fieldLink RX4 9 "FenceHandshakes$WishText" "signs" "[C", .methodLink RX4 23 yX4_hasRoom, .methodLink RX5 122 yX4_length, .instanceMethod yX4_length, .selects RX4 yX4_length yX4_length, .code yX4_length cX4_length 1 (some .int)] ++ wsX50 ++ wsX40)
def wsX5_clearText : List Cond := .code yX5_clearText cX5_clearText 2 (some .int) :: ([.fieldLink RX5 32 "FenceHandshakes" "text" "LFenceHandshakes$WishText;", .methodLink RX5 122 yX4_length, .instanceMethod yX4_length, .selects RX4 yX4_length yX4_length, .initialized RX4, .code yX4_length cX4_length 1 (some .int), .fieldLink RX4 19 "FenceHandshakes$WishText" "length" "I", .methodLink RX5 125 yX4_empty, .instanceMethod yX4_empty, .selects RX4 yX4_empty yX4_empty, .code yX4_empty cX4_empty 1 none] ++ wsX50 ++ wsX40)
def wsX5_fault_r1 : List Cond := [Cond.fieldLink RX5 32 "FenceHandshakes" "text" "LFenceHandshakes$WishText;", Cond.methodLink RX5 128 yX4_parse, Cond.instanceMethod yX4_parse, Cond.selects RX4 yX4_parse yX4_parse, Cond.initialized RX4, Cond.code yX4_parse cX4_parse 2 (some .int), Cond.fieldLink RX4 15 "FenceHandshakes$WishText" "rows" "[I", Cond.fieldLink RX4 19 "FenceHandshakes$WishText" "length" "I", Cond.fieldLink RX4 9 "FenceHandshakes$WishText" "signs" "[C", Cond.fieldLink RX4 40 "FenceHandshakes$WishText" "rights" "I", Cond.methodLink RX4 27 yJ7_fill_53178, Cond.static yJ7_fill_53178, Cond.initialized RJ7, Cond.code yJ7_fill_53178 cJ7_fill_53178 4 none, Cond.methodLink RX4 33 yX4_beginGroup, Cond.instanceMethod yX4_beginGroup, Cond.selects RX4 yX4_beginGroup yX4_beginGroup, Cond.code yX4_beginGroup cX4_beginGroup 1 none, Cond.fieldLink RX4 46 "FenceHandshakes$WishText" "lefts" "I", Cond.fieldLink RX4 49 "FenceHandshakes$WishText" "isBehindDash" "Z", Cond.methodLink RX4 36 yX4_takesSign, Cond.instanceMethod yX4_takesSign, Cond.selects RX4 yX4_takesSign yX4_takesSign, Cond.code yX4_takesSign cX4_takesSign 2 (some .boolean)]
def wsX5_fault_r2 : List Cond := [Cond.methodLink RX4 57 yX4_takesPerson, Cond.instanceMethod yX4_takesPerson, Cond.selects RX4 yX4_takesPerson yX4_takesPerson, Cond.code yX4_takesPerson cX4_takesPerson 2 (some .boolean), Cond.methodLink RX4 43 yX4_endGroup, Cond.instanceMethod yX4_endGroup, Cond.selects RX4 yX4_endGroup yX4_endGroup, Cond.code yX4_endGroup cX4_endGroup 2 none, Cond.static yX5_hasBit, Cond.initialized RX5, Cond.code yX5_hasBit cX5_hasBit 2 (some .boolean)]
def wsX5_fault : List Cond := .code yX5_fault cX5_fault 1 (some .int) :: ((wsX5_fault_r1 ++ wsX5_fault_r2) ++ wsX50 ++ wsX40)
def wsX5_read_r1 : List Cond := [Cond.fieldLink RX5 32 "FenceHandshakes" "text" "LFenceHandshakes$WishText;", Cond.fieldLink RX5 25 "FenceHandshakes" "history" "LFenceHandshakes$History;", Cond.fieldLink RX5 12 "FenceHandshakes" "now" "LFenceHandshakes$Clans;", Cond.methodLink RX5 128 yX4_parse, Cond.instanceMethod yX4_parse, Cond.selects RX4 yX4_parse yX4_parse, Cond.initialized RX4, Cond.code yX4_parse cX4_parse 2 (some .int), Cond.fieldLink RX4 15 "FenceHandshakes$WishText" "rows" "[I", Cond.fieldLink RX4 19 "FenceHandshakes$WishText" "length" "I", Cond.fieldLink RX4 9 "FenceHandshakes$WishText" "signs" "[C", Cond.fieldLink RX4 40 "FenceHandshakes$WishText" "rights" "I", Cond.methodLink RX4 27 yJ7_fill_53178, Cond.static yJ7_fill_53178, Cond.initialized RJ7, Cond.code yJ7_fill_53178 cJ7_fill_53178 4 none, Cond.methodLink RX4 33 yX4_beginGroup, Cond.instanceMethod yX4_beginGroup, Cond.selects RX4 yX4_beginGroup yX4_beginGroup, Cond.code yX4_beginGroup cX4_beginGroup 1 none, Cond.fieldLink RX4 46 "FenceHandshakes$WishText" "lefts" "I", Cond.fieldLink RX4 49 "FenceHandshakes$WishText" "isBehindDash" "Z", Cond.methodLink RX4 36 yX4_takesSign, Cond.instanceMethod yX4_takesSign]
def wsX5_read_r2 : List Cond := [Cond.selects RX4 yX4_takesSign yX4_takesSign, Cond.code yX4_takesSign cX4_takesSign 2 (some .boolean), Cond.methodLink RX4 57 yX4_takesPerson, Cond.instanceMethod yX4_takesPerson, Cond.selects RX4 yX4_takesPerson yX4_takesPerson, Cond.code yX4_takesPerson cX4_takesPerson 2 (some .boolean), Cond.methodLink RX4 43 yX4_endGroup, Cond.instanceMethod yX4_endGroup, Cond.selects RX4 yX4_endGroup yX4_endGroup, Cond.code yX4_endGroup cX4_endGroup 2 none, Cond.static yX5_hasBit, Cond.initialized RX5, Cond.code yX5_hasBit cX5_hasBit 2 (some .boolean), Cond.methodLink RX5 61 yX1_keep, Cond.instanceMethod yX1_keep, Cond.selects RX1 yX1_keep yX1_keep, Cond.initialized RX1, Cond.code yX1_keep cX1_keep 2 none, Cond.fieldLink RX1 17 "FenceHandshakes$History" "size" "I", Cond.fieldLink RX1 21 "FenceHandshakes$History" "oldest" "I", Cond.fieldLink RX1 11 "FenceHandshakes$History" "rows" "[I", Cond.methodLink RX1 31 arraycopyName, Cond.native arraycopyName, Cond.static arraycopyName]
def wsX5_read_r3 : List Cond := [Cond.initialized "java/lang/System", Cond.methodLink RX1 27 yX1_startOfRow, Cond.instanceMethod yX1_startOfRow, Cond.selects RX1 yX1_startOfRow yX1_startOfRow, Cond.code yX1_startOfRow cX1_startOfRow 2 (some .int), Cond.methodLink RX5 69 yX0_numberOfWishes, Cond.instanceMethod yX0_numberOfWishes, Cond.selects RX0 yX0_numberOfWishes yX0_numberOfWishes, Cond.initialized RX0, Cond.code yX0_numberOfWishes cX0_numberOfWishes 3 (some .int), Cond.fieldLink RX0 11 "FenceHandshakes$Clans" "cells" "[I", Cond.methodLink RX0 29 yJ6_bitCount_0f7a4, Cond.static yJ6_bitCount_0f7a4, Cond.initialized RJ6, Cond.code yJ6_bitCount_0f7a4 cJ6_bitCount_0f7a4 1 (some .int), Cond.constant RJ6 265 (1431655765), Cond.constant RJ6 266 (858993459), Cond.constant RJ6 267 (252645135), Cond.methodLink RX5 131 yX4_rightsFor, Cond.instanceMethod yX4_rightsFor, Cond.selects RX4 yX4_rightsFor yX4_rightsFor, Cond.code yX4_rightsFor cX4_rightsFor 2 (some .int), Cond.methodLink RX5 135 yX0_openWishes, Cond.instanceMethod yX0_openWishes]
def wsX5_read_r4 : List Cond := [Cond.selects RX0 yX0_openWishes yX0_openWishes, Cond.code yX0_openWishes cX0_openWishes 3 none]
def wsX5_read : List Cond := .code yX5_read cX5_read 4 (some .int) :: ((wsX5_read_r1 ++ (wsX5_read_r2 ++ (wsX5_read_r3 ++ wsX5_read_r4))) ++ wsX50 ++ wsX40 ++ wsX10 ++ wsX00)
def wsX5_undo : List Cond := .code yX5_undo cX5_undo 1 (some .int) :: ([.fieldLink RX5 25 "FenceHandshakes" "history" "LFenceHandshakes$History;", .fieldLink RX5 12 "FenceHandshakes" "now" "LFenceHandshakes$Clans;", .methodLink RX5 138 yX1_size, .instanceMethod yX1_size, .selects RX1 yX1_size yX1_size, .initialized RX1, .code yX1_size cX1_size 1 (some .int), .fieldLink RX1 17 "FenceHandshakes$History" "size" "I", .methodLink RX5 141 yX1_takeLatest, .instanceMethod yX1_takeLatest, .selects RX1 yX1_takeLatest yX1_takeLatest, .code yX1_takeLatest cX1_takeLatest 2 none, .fieldLink RX1 11 "FenceHandshakes$History" "rows" "[I", .methodLink RX1 31 arraycopyName, .native arraycopyName, .static arraycopyName, .initialized "java/lang/System", .methodLink RX1 27 yX1_startOfRow, .instanceMethod yX1_startOfRow, .selects RX1 yX1_startOfRow yX1_startOfRow, .code yX1_startOfRow cX1_startOfRow 2 (some .int), .fieldLink RX1 21 "FenceHandshakes$History" "oldest" "I"] ++ wsX50 ++ wsX10 ++ wsX00)
def wsX5_save : List Cond := .code yX5_save cX5_save 1 (some .int) :: ([.fieldLink RX5 19 "FenceHandshakes" "snapshot" "LFenceHandshakes$Clans;", .fieldLink RX5 12 "FenceHandshakes" "now" "LFenceHandshakes$Clans;", .fieldLink RX5 50 "FenceHandshakes" "hasSnapshot" "Z", .methodLink RX5 144 yX0_copyFrom, .instanceMethod yX0_copyFrom, .selects RX0 yX0_copyFrom yX0_copyFrom, .initialized RX0, .code yX0_copyFrom cX0_copyFrom 2 none, .fieldLink RX0 11 "FenceHandshakes$Clans" "cells" "[I", .methodLink RX0 15 arraycopyName, .native arraycopyName, .static arraycopyName, .initialized "java/lang/System", .methodLink RX5 69 yX0_numberOfWishes, .instanceMethod yX0_numberOfWishes, .selects RX0 yX0_numberOfWishes yX0_numberOfWishes, .code yX0_numberOfWishes cX0_numberOfWishes 3 (some .int), .methodLink RX0 29 yJ6_bitCount_0f7a4, .static yJ6_bitCount_0f7a4, .initialized RJ6, .code yJ6_bitCount_0f7a4 cJ6_bitCount_0f7a4 1 (some .int), .constant RJ6 265 (1431655765), .constant RJ6 266 (858993459), .constant RJ6 267 (252645135)] ++ wsX50 ++ wsX00)
def wsX5_restore_r1 : List Cond := [Cond.fieldLink RX5 50 "FenceHandshakes" "hasSnapshot" "Z", Cond.fieldLink RX5 25 "FenceHandshakes" "history" "LFenceHandshakes$History;", Cond.fieldLink RX5 12 "FenceHandshakes" "now" "LFenceHandshakes$Clans;", Cond.fieldLink RX5 19 "FenceHandshakes" "snapshot" "LFenceHandshakes$Clans;", Cond.methodLink RX5 61 yX1_keep, Cond.instanceMethod yX1_keep, Cond.selects RX1 yX1_keep yX1_keep, Cond.initialized RX1, Cond.code yX1_keep cX1_keep 2 none, Cond.fieldLink RX1 17 "FenceHandshakes$History" "size" "I", Cond.fieldLink RX1 21 "FenceHandshakes$History" "oldest" "I", Cond.fieldLink RX1 11 "FenceHandshakes$History" "rows" "[I", Cond.methodLink RX1 31 arraycopyName, Cond.native arraycopyName, Cond.static arraycopyName, Cond.initialized "java/lang/System", Cond.methodLink RX1 27 yX1_startOfRow, Cond.instanceMethod yX1_startOfRow, Cond.selects RX1 yX1_startOfRow yX1_startOfRow, Cond.code yX1_startOfRow cX1_startOfRow 2 (some .int), Cond.methodLink RX5 144 yX0_copyFrom, Cond.instanceMethod yX0_copyFrom, Cond.selects RX0 yX0_copyFrom yX0_copyFrom, Cond.initialized RX0]
def wsX5_restore_r2 : List Cond := [Cond.code yX0_copyFrom cX0_copyFrom 2 none, Cond.fieldLink RX0 11 "FenceHandshakes$Clans" "cells" "[I", Cond.methodLink RX0 15 arraycopyName, Cond.methodLink RX5 69 yX0_numberOfWishes, Cond.instanceMethod yX0_numberOfWishes, Cond.selects RX0 yX0_numberOfWishes yX0_numberOfWishes, Cond.code yX0_numberOfWishes cX0_numberOfWishes 3 (some .int), Cond.methodLink RX0 29 yJ6_bitCount_0f7a4, Cond.static yJ6_bitCount_0f7a4, Cond.initialized RJ6, Cond.code yJ6_bitCount_0f7a4 cJ6_bitCount_0f7a4 1 (some .int), Cond.constant RJ6 265 (1431655765), Cond.constant RJ6 266 (858993459), Cond.constant RJ6 267 (252645135)]
def wsX5_restore : List Cond := .code yX5_restore cX5_restore 1 (some .int) :: ((wsX5_restore_r1 ++ wsX5_restore_r2) ++ wsX50 ++ wsX10 ++ wsX00)
def wsX5_person_r1 : List Cond := [Cond.fieldLink RX5 12 "FenceHandshakes" "now" "LFenceHandshakes$Clans;", Cond.methodLink RX5 99 yX5_isPerson, Cond.static yX5_isPerson, Cond.initialized RX5, Cond.code yX5_isPerson cX5_isPerson 1 (some .boolean), Cond.methodLink RX5 102 yX0_gateOf, Cond.instanceMethod yX0_gateOf, Cond.selects RX0 yX0_gateOf yX0_gateOf, Cond.initialized RX0, Cond.code yX0_gateOf cX0_gateOf 3 (some .int), Cond.fieldLink RX0 11 "FenceHandshakes$Clans" "cells" "[I", Cond.methodLink RX5 147 yX0_amountOfPerson, Cond.instanceMethod yX0_amountOfPerson, Cond.selects RX0 yX0_amountOfPerson yX0_amountOfPerson, Cond.code yX0_amountOfPerson cX0_amountOfPerson 6 (some .int), Cond.methodLink RX0 58 yX0_amountOfPair, Cond.instanceMethod yX0_amountOfPair, Cond.selects RX0 yX0_amountOfPair yX0_amountOfPair, Cond.code yX0_amountOfPair cX0_amountOfPair 4 (some .int), Cond.methodLink RX0 42 yX0_hasWish, Cond.instanceMethod yX0_hasWish, Cond.selects RX0 yX0_hasWish yX0_hasWish, Cond.code yX0_hasWish cX0_hasWish 3 (some .boolean), Cond.static yX5_hasBit]
def wsX5_person_r2 : List Cond := [Cond.code yX5_hasBit cX5_hasBit 2 (some .boolean), Cond.static yX5_asNumber, Cond.code yX5_asNumber cX5_asNumber 1 (some .int), Cond.methodLink RX0 52 yX0_isPossible, Cond.instanceMethod yX0_isPossible, Cond.selects RX0 yX0_isPossible yX0_isPossible, Cond.code yX0_isPossible cX0_isPossible 3 (some .boolean), Cond.methodLink RX0 45 yX0_canMeet, Cond.instanceMethod yX0_canMeet, Cond.selects RX0 yX0_canMeet yX0_canMeet, Cond.code yX0_canMeet cX0_canMeet 3 (some .boolean), Cond.methodLink RX0 35 yX0_feudOf, Cond.instanceMethod yX0_feudOf, Cond.selects RX0 yX0_feudOf yX0_feudOf, Cond.code yX0_feudOf cX0_feudOf 3 (some .int), Cond.methodLink RX0 39 yX0_areAtLinkedGates, Cond.instanceMethod yX0_areAtLinkedGates, Cond.selects RX0 yX0_areAtLinkedGates yX0_areAtLinkedGates, Cond.code yX0_areAtLinkedGates cX0_areAtLinkedGates 4 (some .boolean), Cond.methodLink RX0 55 yX0_handshakesOf, Cond.instanceMethod yX0_handshakesOf, Cond.selects RX0 yX0_handshakesOf yX0_handshakesOf, Cond.code yX0_handshakesOf cX0_handshakesOf 3 (some .int), Cond.methodLink RX5 151 yX0_peopleToMeet]
def wsX5_person_r3 : List Cond := [Cond.instanceMethod yX0_peopleToMeet, Cond.selects RX0 yX0_peopleToMeet yX0_peopleToMeet, Cond.code yX0_peopleToMeet cX0_peopleToMeet 5 (some .int)]
def wsX5_person : List Cond := .code yX5_person cX5_person 4 (some .int) :: ((wsX5_person_r1 ++ (wsX5_person_r2 ++ wsX5_person_r3)) ++ wsX50 ++ wsX00)
def wsX5_reasonAgainst_r1 : List Cond := [Cond.fieldLink RX5 12 "FenceHandshakes" "now" "LFenceHandshakes$Clans;", Cond.fieldLink RX5 39 "FenceHandshakes" "matching" "LFenceHandshakes$Matching;", Cond.methodLink RX5 58 yX0_hasWish, Cond.instanceMethod yX0_hasWish, Cond.selects RX0 yX0_hasWish yX0_hasWish, Cond.initialized RX0, Cond.code yX0_hasWish cX0_hasWish 3 (some .boolean), Cond.fieldLink RX0 11 "FenceHandshakes$Clans" "cells" "[I", Cond.static yX5_hasBit, Cond.initialized RX5, Cond.code yX5_hasBit cX5_hasBit 2 (some .boolean), Cond.methodLink RX5 203 yX0_areAtLinkedGates, Cond.instanceMethod yX0_areAtLinkedGates, Cond.selects RX0 yX0_areAtLinkedGates yX0_areAtLinkedGates, Cond.code yX0_areAtLinkedGates cX0_areAtLinkedGates 4 (some .boolean), Cond.methodLink RX5 76 yX0_feudOf, Cond.instanceMethod yX0_feudOf, Cond.selects RX0 yX0_feudOf yX0_feudOf, Cond.code yX0_feudOf cX0_feudOf 3 (some .int), Cond.methodLink RX5 160 yX2_takeFirst, Cond.instanceMethod yX2_takeFirst, Cond.selects RX2 yX2_takeFirst yX2_takeFirst, Cond.initialized RX2, Cond.code yX2_takeFirst cX2_takeFirst 6 none]
def wsX5_reasonAgainst_r2 : List Cond := [Cond.fieldLink RX2 15 "FenceHandshakes$Matching" "ofLeft" "[I", Cond.fieldLink RX2 9 "FenceHandshakes$Matching" "wished" "[I", Cond.methodLink RX2 43 yX2_takeGreatest, Cond.instanceMethod yX2_takeGreatest, Cond.selects RX2 yX2_takeGreatest yX2_takeGreatest, Cond.code yX2_takeGreatest cX2_takeGreatest 4 none, Cond.fieldLink RX2 18 "FenceHandshakes$Matching" "ofRight" "[I", Cond.methodLink RX2 28 yJ7_fill_53178, Cond.static yJ7_fill_53178, Cond.initialized RJ7, Cond.code yJ7_fill_53178 cJ7_fill_53178 4 none, Cond.methodLink RX2 34 yX0_isPossible, Cond.instanceMethod yX0_isPossible, Cond.selects RX0 yX0_isPossible yX0_isPossible, Cond.code yX0_isPossible cX0_isPossible 3 (some .boolean), Cond.methodLink RX0 42 yX0_hasWish, Cond.methodLink RX0 45 yX0_canMeet, Cond.instanceMethod yX0_canMeet, Cond.selects RX0 yX0_canMeet yX0_canMeet, Cond.code yX0_canMeet cX0_canMeet 3 (some .boolean), Cond.methodLink RX0 35 yX0_feudOf, Cond.methodLink RX0 39 yX0_areAtLinkedGates, Cond.methodLink RX2 40 yX2_growsByOne, Cond.instanceMethod yX2_growsByOne]
def wsX5_reasonAgainst_r3 : List Cond := [Cond.selects RX2 yX2_growsByOne yX2_growsByOne, Cond.code yX2_growsByOne cX2_growsByOne 7 (some .boolean), Cond.fieldLink RX2 21 "FenceHandshakes$Matching" "seenFrom" "[I", Cond.methodLink RX2 58 yX2_findFreeRight, Cond.instanceMethod yX2_findFreeRight, Cond.selects RX2 yX2_findFreeRight yX2_findFreeRight, Cond.code yX2_findFreeRight cX2_findFreeRight 8 (some .int), Cond.fieldLink RX2 62 "FenceHandshakes$Matching" "reachedLefts" "I", Cond.methodLink RX2 70 yX2_leftsWithoutPartner, Cond.instanceMethod yX2_leftsWithoutPartner, Cond.selects RX2 yX2_leftsWithoutPartner yX2_leftsWithoutPartner, Cond.code yX2_leftsWithoutPartner cX2_leftsWithoutPartner 4 (some .int), Cond.static yX5_isPerson, Cond.code yX5_isPerson cX5_isPerson 1 (some .boolean), Cond.methodLink RX2 66 yX2_join, Cond.instanceMethod yX2_join, Cond.selects RX2 yX2_join yX2_join, Cond.code yX2_join cX2_join 3 none, Cond.methodLink RX2 50 yX2_canTake, Cond.instanceMethod yX2_canTake, Cond.selects RX2 yX2_canTake yX2_canTake, Cond.code yX2_canTake cX2_canTake 6 (some .boolean), Cond.methodLink RX5 163 yX2_partnerOf, Cond.instanceMethod yX2_partnerOf]
def wsX5_reasonAgainst_r4 : List Cond := [Cond.selects RX2 yX2_partnerOf yX2_partnerOf, Cond.code yX2_partnerOf cX2_partnerOf 3 (some .int)]
def wsX5_reasonAgainst : List Cond := .code yX5_reasonAgainst cX5_reasonAgainst 3 (some .int) :: ((wsX5_reasonAgainst_r1 ++ (wsX5_reasonAgainst_r2 ++ (wsX5_reasonAgainst_r3 ++ wsX5_reasonAgainst_r4))) ++ wsX50 ++ wsX00 ++ wsX20)
def wsX5_pair_r1 : List Cond := [Cond.fieldLink RX5 12 "FenceHandshakes" "now" "LFenceHandshakes$Clans;", Cond.methodLink RX5 54 yX5_arePeople, Cond.static yX5_arePeople, Cond.initialized RX5, Cond.code yX5_arePeople cX5_arePeople 2 (some .boolean), Cond.methodLink RX5 99 yX5_isPerson, Cond.static yX5_isPerson, Cond.code yX5_isPerson cX5_isPerson 1 (some .boolean), Cond.methodLink RX5 58 yX0_hasWish, Cond.instanceMethod yX0_hasWish, Cond.selects RX0 yX0_hasWish yX0_hasWish, Cond.initialized RX0, Cond.code yX0_hasWish cX0_hasWish 3 (some .boolean), Cond.fieldLink RX0 11 "FenceHandshakes$Clans" "cells" "[I", Cond.static yX5_hasBit, Cond.code yX5_hasBit cX5_hasBit 2 (some .boolean), Cond.methodLink RX5 91 yX5_asNumber, Cond.static yX5_asNumber, Cond.code yX5_asNumber cX5_asNumber 1 (some .int), Cond.methodLink RX5 76 yX0_feudOf, Cond.instanceMethod yX0_feudOf, Cond.selects RX0 yX0_feudOf yX0_feudOf, Cond.code yX0_feudOf cX0_feudOf 3 (some .int), Cond.methodLink RX5 154 yX0_handshakesOf]
def wsX5_pair_r2 : List Cond := [Cond.instanceMethod yX0_handshakesOf, Cond.selects RX0 yX0_handshakesOf yX0_handshakesOf, Cond.code yX0_handshakesOf cX0_handshakesOf 3 (some .int), Cond.methodLink RX5 157 yX5_reasonAgainst, Cond.instanceMethod yX5_reasonAgainst, Cond.selects RX5 yX5_reasonAgainst yX5_reasonAgainst, Cond.code yX5_reasonAgainst cX5_reasonAgainst 3 (some .int), Cond.fieldLink RX5 39 "FenceHandshakes" "matching" "LFenceHandshakes$Matching;", Cond.methodLink RX5 203 yX0_areAtLinkedGates, Cond.instanceMethod yX0_areAtLinkedGates, Cond.selects RX0 yX0_areAtLinkedGates yX0_areAtLinkedGates, Cond.code yX0_areAtLinkedGates cX0_areAtLinkedGates 4 (some .boolean), Cond.methodLink RX5 160 yX2_takeFirst, Cond.instanceMethod yX2_takeFirst, Cond.selects RX2 yX2_takeFirst yX2_takeFirst, Cond.initialized RX2, Cond.code yX2_takeFirst cX2_takeFirst 6 none, Cond.fieldLink RX2 15 "FenceHandshakes$Matching" "ofLeft" "[I", Cond.fieldLink RX2 9 "FenceHandshakes$Matching" "wished" "[I", Cond.methodLink RX2 43 yX2_takeGreatest, Cond.instanceMethod yX2_takeGreatest, Cond.selects RX2 yX2_takeGreatest yX2_takeGreatest, Cond.code yX2_takeGreatest cX2_takeGreatest 4 none, Cond.fieldLink RX2 18 "FenceHandshakes$Matching" "ofRight" "[I"]
def wsX5_pair_r3 : List Cond := [Cond.methodLink RX2 28 yJ7_fill_53178, Cond.static yJ7_fill_53178, Cond.initialized RJ7, Cond.code yJ7_fill_53178 cJ7_fill_53178 4 none, Cond.methodLink RX2 34 yX0_isPossible, Cond.instanceMethod yX0_isPossible, Cond.selects RX0 yX0_isPossible yX0_isPossible, Cond.code yX0_isPossible cX0_isPossible 3 (some .boolean), Cond.methodLink RX0 42 yX0_hasWish, Cond.methodLink RX0 45 yX0_canMeet, Cond.instanceMethod yX0_canMeet, Cond.selects RX0 yX0_canMeet yX0_canMeet, Cond.code yX0_canMeet cX0_canMeet 3 (some .boolean), Cond.methodLink RX0 35 yX0_feudOf, Cond.methodLink RX0 39 yX0_areAtLinkedGates, Cond.methodLink RX2 40 yX2_growsByOne, Cond.instanceMethod yX2_growsByOne, Cond.selects RX2 yX2_growsByOne yX2_growsByOne, Cond.code yX2_growsByOne cX2_growsByOne 7 (some .boolean), Cond.fieldLink RX2 21 "FenceHandshakes$Matching" "seenFrom" "[I", Cond.methodLink RX2 58 yX2_findFreeRight, Cond.instanceMethod yX2_findFreeRight, Cond.selects RX2 yX2_findFreeRight yX2_findFreeRight, Cond.code yX2_findFreeRight cX2_findFreeRight 8 (some .int)]
def wsX5_pair_r4 : List Cond := [Cond.fieldLink RX2 62 "FenceHandshakes$Matching" "reachedLefts" "I", Cond.methodLink RX2 70 yX2_leftsWithoutPartner, Cond.instanceMethod yX2_leftsWithoutPartner, Cond.selects RX2 yX2_leftsWithoutPartner yX2_leftsWithoutPartner, Cond.code yX2_leftsWithoutPartner cX2_leftsWithoutPartner 4 (some .int), Cond.methodLink RX2 66 yX2_join, Cond.instanceMethod yX2_join, Cond.selects RX2 yX2_join yX2_join, Cond.code yX2_join cX2_join 3 none, Cond.methodLink RX2 50 yX2_canTake, Cond.instanceMethod yX2_canTake, Cond.selects RX2 yX2_canTake yX2_canTake, Cond.code yX2_canTake cX2_canTake 6 (some .boolean), Cond.methodLink RX5 163 yX2_partnerOf, Cond.instanceMethod yX2_partnerOf, Cond.selects RX2 yX2_partnerOf yX2_partnerOf, Cond.code yX2_partnerOf cX2_partnerOf 3 (some .int)]
def wsX5_pair : List Cond := .code yX5_pair cX5_pair 4 (some .int) :: ((wsX5_pair_r1 ++ (wsX5_pair_r2 ++ (wsX5_pair_r3 ++ wsX5_pair_r4))) ++ wsX50 ++ wsX00 ++ wsX20)
def wsX5_isLinked : List Cond := .code yX5_isLinked cX5_isLinked 3 (some .int) :: ([.fieldLink RX5 12 "FenceHandshakes" "now" "LFenceHandshakes$Clans;", .methodLink RX5 84 yX5_isGate, .static yX5_isGate, .initialized RX5, .code yX5_isGate cX5_isGate 1 (some .boolean), .methodLink RX5 88 yX0_areLinked, .instanceMethod yX0_areLinked, .selects RX0 yX0_areLinked yX0_areLinked, .initialized RX0, .code yX0_areLinked cX0_areLinked 3 (some .boolean), .fieldLink RX0 11 "FenceHandshakes$Clans" "cells" "[I", .static yX5_hasBit, .code yX5_hasBit cX5_hasBit 2 (some .boolean), .methodLink RX5 91 yX5_asNumber, .static yX5_asNumber, .code yX5_asNumber cX5_asNumber 1 (some .int)] ++ wsX50 ++ wsX00)
def wsX5_partner_r1 : List Cond := [Cond.fieldLink RX5 39 "FenceHandshakes" "matching" "LFenceHandshakes$Matching;", Cond.fieldLink RX5 12 "FenceHandshakes" "now" "LFenceHandshakes$Clans;", Cond.methodLink RX5 99 yX5_isPerson, Cond.static yX5_isPerson, Cond.initialized RX5, Cond.code yX5_isPerson cX5_isPerson 1 (some .boolean), Cond.methodLink RX5 160 yX2_takeFirst, Cond.instanceMethod yX2_takeFirst, Cond.selects RX2 yX2_takeFirst yX2_takeFirst, Cond.initialized RX2, Cond.code yX2_takeFirst cX2_takeFirst 6 none, Cond.fieldLink RX2 15 "FenceHandshakes$Matching" "ofLeft" "[I", Cond.fieldLink RX2 9 "FenceHandshakes$Matching" "wished" "[I", Cond.methodLink RX2 43 yX2_takeGreatest, Cond.instanceMethod yX2_takeGreatest, Cond.selects RX2 yX2_takeGreatest yX2_takeGreatest, Cond.code yX2_takeGreatest cX2_takeGreatest 4 none, Cond.fieldLink RX2 18 "FenceHandshakes$Matching" "ofRight" "[I", Cond.methodLink RX2 28 yJ7_fill_53178, Cond.static yJ7_fill_53178, Cond.initialized RJ7, Cond.code yJ7_fill_53178 cJ7_fill_53178 4 none, Cond.methodLink RX2 34 yX0_isPossible, Cond.instanceMethod yX0_isPossible]
def wsX5_partner_r2 : List Cond := [Cond.selects RX0 yX0_isPossible yX0_isPossible, Cond.initialized RX0, Cond.code yX0_isPossible cX0_isPossible 3 (some .boolean), Cond.methodLink RX0 42 yX0_hasWish, Cond.instanceMethod yX0_hasWish, Cond.selects RX0 yX0_hasWish yX0_hasWish, Cond.code yX0_hasWish cX0_hasWish 3 (some .boolean), Cond.fieldLink RX0 11 "FenceHandshakes$Clans" "cells" "[I", Cond.static yX5_hasBit, Cond.code yX5_hasBit cX5_hasBit 2 (some .boolean), Cond.methodLink RX0 45 yX0_canMeet, Cond.instanceMethod yX0_canMeet, Cond.selects RX0 yX0_canMeet yX0_canMeet, Cond.code yX0_canMeet cX0_canMeet 3 (some .boolean), Cond.methodLink RX0 35 yX0_feudOf, Cond.instanceMethod yX0_feudOf, Cond.selects RX0 yX0_feudOf yX0_feudOf, Cond.code yX0_feudOf cX0_feudOf 3 (some .int), Cond.methodLink RX0 39 yX0_areAtLinkedGates, Cond.instanceMethod yX0_areAtLinkedGates, Cond.selects RX0 yX0_areAtLinkedGates yX0_areAtLinkedGates, Cond.code yX0_areAtLinkedGates cX0_areAtLinkedGates 4 (some .boolean), Cond.methodLink RX2 40 yX2_growsByOne, Cond.instanceMethod yX2_growsByOne]
def wsX5_partner_r3 : List Cond := [Cond.selects RX2 yX2_growsByOne yX2_growsByOne, Cond.code yX2_growsByOne cX2_growsByOne 7 (some .boolean), Cond.fieldLink RX2 21 "FenceHandshakes$Matching" "seenFrom" "[I", Cond.methodLink RX2 58 yX2_findFreeRight, Cond.instanceMethod yX2_findFreeRight, Cond.selects RX2 yX2_findFreeRight yX2_findFreeRight, Cond.code yX2_findFreeRight cX2_findFreeRight 8 (some .int), Cond.fieldLink RX2 62 "FenceHandshakes$Matching" "reachedLefts" "I", Cond.methodLink RX2 70 yX2_leftsWithoutPartner, Cond.instanceMethod yX2_leftsWithoutPartner, Cond.selects RX2 yX2_leftsWithoutPartner yX2_leftsWithoutPartner, Cond.code yX2_leftsWithoutPartner cX2_leftsWithoutPartner 4 (some .int), Cond.methodLink RX2 66 yX2_join, Cond.instanceMethod yX2_join, Cond.selects RX2 yX2_join yX2_join, Cond.code yX2_join cX2_join 3 none, Cond.methodLink RX2 50 yX2_canTake, Cond.instanceMethod yX2_canTake, Cond.selects RX2 yX2_canTake yX2_canTake, Cond.code yX2_canTake cX2_canTake 6 (some .boolean), Cond.methodLink RX5 163 yX2_partnerOf, Cond.instanceMethod yX2_partnerOf, Cond.selects RX2 yX2_partnerOf yX2_partnerOf, Cond.code yX2_partnerOf cX2_partnerOf 3 (some .int)]
end
section
def wsX5_partner : List Cond := .code yX5_partner cX5_partner 3 (some .int) :: ((wsX5_partner_r1 ++ (wsX5_partner_r2 ++ wsX5_partner_r3)) ++ wsX50 ++ wsX20 ++ wsX00)
def wsX5_hindered_r1 : List Cond := [Cond.fieldLink RX5 39 "FenceHandshakes" "matching" "LFenceHandshakes$Matching;", Cond.fieldLink RX5 12 "FenceHandshakes" "now" "LFenceHandshakes$Clans;", Cond.methodLink RX5 166 yX2_takeGreatest, Cond.instanceMethod yX2_takeGreatest, Cond.selects RX2 yX2_takeGreatest yX2_takeGreatest, Cond.initialized RX2, Cond.code yX2_takeGreatest cX2_takeGreatest 4 none, Cond.fieldLink RX2 9 "FenceHandshakes$Matching" "wished" "[I", Cond.fieldLink RX2 15 "FenceHandshakes$Matching" "ofLeft" "[I", Cond.fieldLink RX2 18 "FenceHandshakes$Matching" "ofRight" "[I", Cond.methodLink RX2 28 yJ7_fill_53178, Cond.static yJ7_fill_53178, Cond.initialized RJ7, Cond.code yJ7_fill_53178 cJ7_fill_53178 4 none, Cond.methodLink RX2 34 yX0_isPossible, Cond.instanceMethod yX0_isPossible, Cond.selects RX0 yX0_isPossible yX0_isPossible, Cond.initialized RX0, Cond.code yX0_isPossible cX0_isPossible 3 (some .boolean), Cond.methodLink RX0 42 yX0_hasWish, Cond.instanceMethod yX0_hasWish, Cond.selects RX0 yX0_hasWish yX0_hasWish, Cond.code yX0_hasWish cX0_hasWish 3 (some .boolean), Cond.fieldLink RX0 11 "FenceHandshakes$Clans" "cells" "[I"]
def wsX5_hindered_r2 : List Cond := [Cond.static yX5_hasBit, Cond.initialized RX5, Cond.code yX5_hasBit cX5_hasBit 2 (some .boolean), Cond.methodLink RX0 45 yX0_canMeet, Cond.instanceMethod yX0_canMeet, Cond.selects RX0 yX0_canMeet yX0_canMeet, Cond.code yX0_canMeet cX0_canMeet 3 (some .boolean), Cond.methodLink RX0 35 yX0_feudOf, Cond.instanceMethod yX0_feudOf, Cond.selects RX0 yX0_feudOf yX0_feudOf, Cond.code yX0_feudOf cX0_feudOf 3 (some .int), Cond.methodLink RX0 39 yX0_areAtLinkedGates, Cond.instanceMethod yX0_areAtLinkedGates, Cond.selects RX0 yX0_areAtLinkedGates yX0_areAtLinkedGates, Cond.code yX0_areAtLinkedGates cX0_areAtLinkedGates 4 (some .boolean), Cond.methodLink RX2 40 yX2_growsByOne, Cond.instanceMethod yX2_growsByOne, Cond.selects RX2 yX2_growsByOne yX2_growsByOne, Cond.code yX2_growsByOne cX2_growsByOne 7 (some .boolean), Cond.fieldLink RX2 21 "FenceHandshakes$Matching" "seenFrom" "[I", Cond.methodLink RX2 58 yX2_findFreeRight, Cond.instanceMethod yX2_findFreeRight, Cond.selects RX2 yX2_findFreeRight yX2_findFreeRight, Cond.code yX2_findFreeRight cX2_findFreeRight 8 (some .int)]
def wsX5_hindered_r3 : List Cond := [Cond.fieldLink RX2 62 "FenceHandshakes$Matching" "reachedLefts" "I", Cond.methodLink RX2 70 yX2_leftsWithoutPartner, Cond.instanceMethod yX2_leftsWithoutPartner, Cond.selects RX2 yX2_leftsWithoutPartner yX2_leftsWithoutPartner, Cond.code yX2_leftsWithoutPartner cX2_leftsWithoutPartner 4 (some .int), Cond.static yX5_isPerson, Cond.code yX5_isPerson cX5_isPerson 1 (some .boolean), Cond.methodLink RX2 66 yX2_join, Cond.instanceMethod yX2_join, Cond.selects RX2 yX2_join yX2_join, Cond.code yX2_join cX2_join 3 none, Cond.methodLink RX5 169 yX2_leftsWhoMayBeLeftOut, Cond.instanceMethod yX2_leftsWhoMayBeLeftOut, Cond.selects RX2 yX2_leftsWhoMayBeLeftOut yX2_leftsWhoMayBeLeftOut, Cond.code yX2_leftsWhoMayBeLeftOut cX2_leftsWhoMayBeLeftOut 3 (some .int)]
def wsX5_hindered : List Cond := .code yX5_hindered cX5_hindered 1 (some .int) :: ((wsX5_hindered_r1 ++ (wsX5_hindered_r2 ++ wsX5_hindered_r3)) ++ wsX50 ++ wsX20 ++ wsX00)
def wsX5_planned_r1 : List Cond := [Cond.fieldLink RX5 46 "FenceHandshakes" "plan" "LFenceHandshakes$Plan;", Cond.fieldLink RX5 12 "FenceHandshakes" "now" "LFenceHandshakes$Clans;", Cond.methodLink RX5 54 yX5_arePeople, Cond.static yX5_arePeople, Cond.initialized RX5, Cond.code yX5_arePeople cX5_arePeople 2 (some .boolean), Cond.methodLink RX5 99 yX5_isPerson, Cond.static yX5_isPerson, Cond.code yX5_isPerson cX5_isPerson 1 (some .boolean), Cond.methodLink RX5 172 yX3_make, Cond.instanceMethod yX3_make, Cond.selects RX3 yX3_make yX3_make, Cond.initialized RX3, Cond.code yX3_make cX3_make 4 none, Cond.fieldLink RX3 9 "FenceHandshakes$Plan" "numbers" "[I", Cond.methodLink RX3 15 yJ7_fill_53178, Cond.static yJ7_fill_53178, Cond.initialized RJ7, Cond.code yJ7_fill_53178 cJ7_fill_53178 4 none, Cond.methodLink RX3 21 yX0_isPossible, Cond.instanceMethod yX0_isPossible, Cond.selects RX0 yX0_isPossible yX0_isPossible, Cond.initialized RX0, Cond.code yX0_isPossible cX0_isPossible 3 (some .boolean)]
def wsX5_planned_r2 : List Cond := [Cond.methodLink RX0 42 yX0_hasWish, Cond.instanceMethod yX0_hasWish, Cond.selects RX0 yX0_hasWish yX0_hasWish, Cond.code yX0_hasWish cX0_hasWish 3 (some .boolean), Cond.fieldLink RX0 11 "FenceHandshakes$Clans" "cells" "[I", Cond.static yX5_hasBit, Cond.code yX5_hasBit cX5_hasBit 2 (some .boolean), Cond.methodLink RX0 45 yX0_canMeet, Cond.instanceMethod yX0_canMeet, Cond.selects RX0 yX0_canMeet yX0_canMeet, Cond.code yX0_canMeet cX0_canMeet 3 (some .boolean), Cond.methodLink RX0 35 yX0_feudOf, Cond.instanceMethod yX0_feudOf, Cond.selects RX0 yX0_feudOf yX0_feudOf, Cond.code yX0_feudOf cX0_feudOf 3 (some .int), Cond.methodLink RX0 39 yX0_areAtLinkedGates, Cond.instanceMethod yX0_areAtLinkedGates, Cond.selects RX0 yX0_areAtLinkedGates yX0_areAtLinkedGates, Cond.code yX0_areAtLinkedGates cX0_areAtLinkedGates 4 (some .boolean), Cond.methodLink RX3 27 yX3_addWish, Cond.instanceMethod yX3_addWish, Cond.selects RX3 yX3_addWish yX3_addWish, Cond.code yX3_addWish cX3_addWish 5 none, Cond.methodLink RX3 31 yX3_leastNumberWithout]
def wsX5_planned_r3 : List Cond := [Cond.instanceMethod yX3_leastNumberWithout, Cond.selects RX3 yX3_leastNumberWithout yX3_leastNumberWithout, Cond.code yX3_leastNumberWithout cX3_leastNumberWithout 6 (some .int), Cond.methodLink RX3 46 yX3_numberOf, Cond.instanceMethod yX3_numberOf, Cond.selects RX3 yX3_numberOf yX3_numberOf, Cond.code yX3_numberOf cX3_numberOf 3 (some .int), Cond.methodLink RX3 35 yX3_leftWith, Cond.instanceMethod yX3_leftWith, Cond.selects RX3 yX3_leftWith yX3_leftWith, Cond.code yX3_leftWith cX3_leftWith 4 (some .int), Cond.methodLink RX3 39 yX3_exchangeAlongPath, Cond.instanceMethod yX3_exchangeAlongPath, Cond.selects RX3 yX3_exchangeAlongPath yX3_exchangeAlongPath, Cond.code yX3_exchangeAlongPath cX3_exchangeAlongPath 9 none, Cond.methodLink RX3 56 yX3_rightWith, Cond.instanceMethod yX3_rightWith, Cond.selects RX3 yX3_rightWith yX3_rightWith, Cond.code yX3_rightWith cX3_rightWith 4 (some .int), Cond.methodLink RX3 43 yX3_setNumber, Cond.instanceMethod yX3_setNumber, Cond.selects RX3 yX3_setNumber yX3_setNumber, Cond.code yX3_setNumber cX3_setNumber 4 none, Cond.methodLink RX5 175 yX3_numberOf]
def wsX5_planned : List Cond := .code yX5_planned cX5_planned 3 (some .int) :: ((wsX5_planned_r1 ++ (wsX5_planned_r2 ++ wsX5_planned_r3)) ++ wsX50 ++ wsX30 ++ wsX00)
def wsX5_greatestSize_r1 : List Cond := [Cond.fieldLink RX5 39 "FenceHandshakes" "matching" "LFenceHandshakes$Matching;", Cond.methodLink RX5 166 yX2_takeGreatest, Cond.instanceMethod yX2_takeGreatest, Cond.selects RX2 yX2_takeGreatest yX2_takeGreatest, Cond.initialized RX2, Cond.code yX2_takeGreatest cX2_takeGreatest 4 none, Cond.fieldLink RX2 9 "FenceHandshakes$Matching" "wished" "[I", Cond.fieldLink RX2 15 "FenceHandshakes$Matching" "ofLeft" "[I", Cond.fieldLink RX2 18 "FenceHandshakes$Matching" "ofRight" "[I", Cond.methodLink RX2 28 yJ7_fill_53178, Cond.static yJ7_fill_53178, Cond.initialized RJ7, Cond.code yJ7_fill_53178 cJ7_fill_53178 4 none, Cond.methodLink RX2 34 yX0_isPossible, Cond.instanceMethod yX0_isPossible, Cond.selects RX0 yX0_isPossible yX0_isPossible, Cond.initialized RX0, Cond.code yX0_isPossible cX0_isPossible 3 (some .boolean), Cond.methodLink RX0 42 yX0_hasWish, Cond.instanceMethod yX0_hasWish, Cond.selects RX0 yX0_hasWish yX0_hasWish, Cond.code yX0_hasWish cX0_hasWish 3 (some .boolean), Cond.fieldLink RX0 11 "FenceHandshakes$Clans" "cells" "[I", Cond.static yX5_hasBit]
def wsX5_greatestSize_r2 : List Cond := [Cond.initialized RX5, Cond.code yX5_hasBit cX5_hasBit 2 (some .boolean), Cond.methodLink RX0 45 yX0_canMeet, Cond.instanceMethod yX0_canMeet, Cond.selects RX0 yX0_canMeet yX0_canMeet, Cond.code yX0_canMeet cX0_canMeet 3 (some .boolean), Cond.methodLink RX0 35 yX0_feudOf, Cond.instanceMethod yX0_feudOf, Cond.selects RX0 yX0_feudOf yX0_feudOf, Cond.code yX0_feudOf cX0_feudOf 3 (some .int), Cond.methodLink RX0 39 yX0_areAtLinkedGates, Cond.instanceMethod yX0_areAtLinkedGates, Cond.selects RX0 yX0_areAtLinkedGates yX0_areAtLinkedGates, Cond.code yX0_areAtLinkedGates cX0_areAtLinkedGates 4 (some .boolean), Cond.methodLink RX2 40 yX2_growsByOne, Cond.instanceMethod yX2_growsByOne, Cond.selects RX2 yX2_growsByOne yX2_growsByOne, Cond.code yX2_growsByOne cX2_growsByOne 7 (some .boolean), Cond.fieldLink RX2 21 "FenceHandshakes$Matching" "seenFrom" "[I", Cond.methodLink RX2 58 yX2_findFreeRight, Cond.instanceMethod yX2_findFreeRight, Cond.selects RX2 yX2_findFreeRight yX2_findFreeRight, Cond.code yX2_findFreeRight cX2_findFreeRight 8 (some .int), Cond.fieldLink RX2 62 "FenceHandshakes$Matching" "reachedLefts" "I"]
def wsX5_greatestSize_r3 : List Cond := [Cond.methodLink RX2 70 yX2_leftsWithoutPartner, Cond.instanceMethod yX2_leftsWithoutPartner, Cond.selects RX2 yX2_leftsWithoutPartner yX2_leftsWithoutPartner, Cond.code yX2_leftsWithoutPartner cX2_leftsWithoutPartner 4 (some .int), Cond.static yX5_isPerson, Cond.code yX5_isPerson cX5_isPerson 1 (some .boolean), Cond.methodLink RX2 66 yX2_join, Cond.instanceMethod yX2_join, Cond.selects RX2 yX2_join yX2_join, Cond.code yX2_join cX2_join 3 none, Cond.methodLink RX5 202 yX2_size, Cond.instanceMethod yX2_size, Cond.selects RX2 yX2_size yX2_size, Cond.code yX2_size cX2_size 3 (some .int), Cond.static yX5_asNumber, Cond.code yX5_asNumber cX5_asNumber 1 (some .int)]
def wsX5_greatestSize : List Cond := .code yX5_greatestSize cX5_greatestSize 2 (some .int) :: ((wsX5_greatestSize_r1 ++ (wsX5_greatestSize_r2 ++ wsX5_greatestSize_r3)) ++ wsX50 ++ wsX20 ++ wsX00)
def wsX5_mostPossibleOfAPerson_r1 : List Cond := [Cond.fieldLink RX5 12 "FenceHandshakes" "now" "LFenceHandshakes$Clans;", Cond.methodLink RX5 206 Lib.Math.max.name, Cond.static Lib.Math.max.name, Cond.initialized "java/lang/Math", Cond.code Lib.Math.max.name Lib.Math.max.code 2 (some .int), Cond.methodLink RX5 147 yX0_amountOfPerson, Cond.instanceMethod yX0_amountOfPerson, Cond.selects RX0 yX0_amountOfPerson yX0_amountOfPerson, Cond.initialized RX0, Cond.code yX0_amountOfPerson cX0_amountOfPerson 6 (some .int), Cond.methodLink RX0 58 yX0_amountOfPair, Cond.instanceMethod yX0_amountOfPair, Cond.selects RX0 yX0_amountOfPair yX0_amountOfPair, Cond.code yX0_amountOfPair cX0_amountOfPair 4 (some .int), Cond.methodLink RX0 42 yX0_hasWish, Cond.instanceMethod yX0_hasWish, Cond.selects RX0 yX0_hasWish yX0_hasWish, Cond.code yX0_hasWish cX0_hasWish 3 (some .boolean), Cond.fieldLink RX0 11 "FenceHandshakes$Clans" "cells" "[I", Cond.static yX5_hasBit, Cond.initialized RX5, Cond.code yX5_hasBit cX5_hasBit 2 (some .boolean), Cond.static yX5_asNumber, Cond.code yX5_asNumber cX5_asNumber 1 (some .int)]
def wsX5_mostPossibleOfAPerson_r2 : List Cond := [Cond.methodLink RX0 52 yX0_isPossible, Cond.instanceMethod yX0_isPossible, Cond.selects RX0 yX0_isPossible yX0_isPossible, Cond.code yX0_isPossible cX0_isPossible 3 (some .boolean), Cond.methodLink RX0 45 yX0_canMeet, Cond.instanceMethod yX0_canMeet, Cond.selects RX0 yX0_canMeet yX0_canMeet, Cond.code yX0_canMeet cX0_canMeet 3 (some .boolean), Cond.methodLink RX0 35 yX0_feudOf, Cond.instanceMethod yX0_feudOf, Cond.selects RX0 yX0_feudOf yX0_feudOf, Cond.code yX0_feudOf cX0_feudOf 3 (some .int), Cond.methodLink RX0 39 yX0_areAtLinkedGates, Cond.instanceMethod yX0_areAtLinkedGates, Cond.selects RX0 yX0_areAtLinkedGates yX0_areAtLinkedGates, Cond.code yX0_areAtLinkedGates cX0_areAtLinkedGates 4 (some .boolean), Cond.methodLink RX0 55 yX0_handshakesOf, Cond.instanceMethod yX0_handshakesOf, Cond.selects RX0 yX0_handshakesOf yX0_handshakesOf, Cond.code yX0_handshakesOf cX0_handshakesOf 3 (some .int)]
def wsX5_mostPossibleOfAPerson : List Cond := .code yX5_mostPossibleOfAPerson cX5_mostPossibleOfAPerson 3 (some .int) :: ((wsX5_mostPossibleOfAPerson_r1 ++ wsX5_mostPossibleOfAPerson_r2) ++ wsX50 ++ wsX00)
def wsX5_count_r1 : List Cond := [Cond.fieldLink RX5 12 "FenceHandshakes" "now" "LFenceHandshakes$Clans;", Cond.fieldLink RX5 25 "FenceHandshakes" "history" "LFenceHandshakes$History;", Cond.fieldLink RX5 32 "FenceHandshakes" "text" "LFenceHandshakes$WishText;", Cond.methodLink RX5 69 yX0_numberOfWishes, Cond.instanceMethod yX0_numberOfWishes, Cond.selects RX0 yX0_numberOfWishes yX0_numberOfWishes, Cond.initialized RX0, Cond.code yX0_numberOfWishes cX0_numberOfWishes 3 (some .int), Cond.fieldLink RX0 11 "FenceHandshakes$Clans" "cells" "[I", Cond.methodLink RX0 29 yJ6_bitCount_0f7a4, Cond.static yJ6_bitCount_0f7a4, Cond.initialized RJ6, Cond.code yJ6_bitCount_0f7a4 cJ6_bitCount_0f7a4 1 (some .int), Cond.constant RJ6 265 (1431655765), Cond.constant RJ6 266 (858993459), Cond.constant RJ6 267 (252645135), Cond.methodLink RX5 178 yX0_amountOfAll, Cond.instanceMethod yX0_amountOfAll, Cond.selects RX0 yX0_amountOfAll yX0_amountOfAll, Cond.code yX0_amountOfAll cX0_amountOfAll 4 (some .int), Cond.methodLink RX0 62 yX0_amountOfPerson, Cond.instanceMethod yX0_amountOfPerson, Cond.selects RX0 yX0_amountOfPerson yX0_amountOfPerson, Cond.code yX0_amountOfPerson cX0_amountOfPerson 6 (some .int)]
def wsX5_count_r2 : List Cond := [Cond.methodLink RX0 58 yX0_amountOfPair, Cond.instanceMethod yX0_amountOfPair, Cond.selects RX0 yX0_amountOfPair yX0_amountOfPair, Cond.code yX0_amountOfPair cX0_amountOfPair 4 (some .int), Cond.methodLink RX0 42 yX0_hasWish, Cond.instanceMethod yX0_hasWish, Cond.selects RX0 yX0_hasWish yX0_hasWish, Cond.code yX0_hasWish cX0_hasWish 3 (some .boolean), Cond.static yX5_hasBit, Cond.initialized RX5, Cond.code yX5_hasBit cX5_hasBit 2 (some .boolean), Cond.static yX5_asNumber, Cond.code yX5_asNumber cX5_asNumber 1 (some .int), Cond.methodLink RX0 52 yX0_isPossible, Cond.instanceMethod yX0_isPossible, Cond.selects RX0 yX0_isPossible yX0_isPossible, Cond.code yX0_isPossible cX0_isPossible 3 (some .boolean), Cond.methodLink RX0 45 yX0_canMeet, Cond.instanceMethod yX0_canMeet, Cond.selects RX0 yX0_canMeet yX0_canMeet, Cond.code yX0_canMeet cX0_canMeet 3 (some .boolean), Cond.methodLink RX0 35 yX0_feudOf, Cond.instanceMethod yX0_feudOf, Cond.selects RX0 yX0_feudOf yX0_feudOf]
def wsX5_count_r3 : List Cond := [Cond.code yX0_feudOf cX0_feudOf 3 (some .int), Cond.methodLink RX0 39 yX0_areAtLinkedGates, Cond.instanceMethod yX0_areAtLinkedGates, Cond.selects RX0 yX0_areAtLinkedGates yX0_areAtLinkedGates, Cond.code yX0_areAtLinkedGates cX0_areAtLinkedGates 4 (some .boolean), Cond.methodLink RX0 55 yX0_handshakesOf, Cond.instanceMethod yX0_handshakesOf, Cond.selects RX0 yX0_handshakesOf yX0_handshakesOf, Cond.code yX0_handshakesOf cX0_handshakesOf 3 (some .int), Cond.methodLink RX5 181 yX0_linkedPairsOfGates, Cond.instanceMethod yX0_linkedPairsOfGates, Cond.selects RX0 yX0_linkedPairsOfGates yX0_linkedPairsOfGates, Cond.code yX0_linkedPairsOfGates cX0_linkedPairsOfGates 1 (some .int), Cond.methodLink RX5 184 yX0_roundsSoFar, Cond.instanceMethod yX0_roundsSoFar, Cond.selects RX0 yX0_roundsSoFar yX0_roundsSoFar, Cond.code yX0_roundsSoFar cX0_roundsSoFar 1 (some .int), Cond.methodLink RX5 187 yX5_greatestSize, Cond.instanceMethod yX5_greatestSize, Cond.selects RX5 yX5_greatestSize yX5_greatestSize, Cond.code yX5_greatestSize cX5_greatestSize 2 (some .int), Cond.fieldLink RX5 39 "FenceHandshakes" "matching" "LFenceHandshakes$Matching;", Cond.methodLink RX5 166 yX2_takeGreatest, Cond.instanceMethod yX2_takeGreatest]
def wsX5_count_r4 : List Cond := [Cond.selects RX2 yX2_takeGreatest yX2_takeGreatest, Cond.initialized RX2, Cond.code yX2_takeGreatest cX2_takeGreatest 4 none, Cond.fieldLink RX2 9 "FenceHandshakes$Matching" "wished" "[I", Cond.fieldLink RX2 15 "FenceHandshakes$Matching" "ofLeft" "[I", Cond.fieldLink RX2 18 "FenceHandshakes$Matching" "ofRight" "[I", Cond.methodLink RX2 28 yJ7_fill_53178, Cond.static yJ7_fill_53178, Cond.initialized RJ7, Cond.code yJ7_fill_53178 cJ7_fill_53178 4 none, Cond.methodLink RX2 34 yX0_isPossible, Cond.methodLink RX2 40 yX2_growsByOne, Cond.instanceMethod yX2_growsByOne, Cond.selects RX2 yX2_growsByOne yX2_growsByOne, Cond.code yX2_growsByOne cX2_growsByOne 7 (some .boolean), Cond.fieldLink RX2 21 "FenceHandshakes$Matching" "seenFrom" "[I", Cond.methodLink RX2 58 yX2_findFreeRight, Cond.instanceMethod yX2_findFreeRight, Cond.selects RX2 yX2_findFreeRight yX2_findFreeRight, Cond.code yX2_findFreeRight cX2_findFreeRight 8 (some .int), Cond.fieldLink RX2 62 "FenceHandshakes$Matching" "reachedLefts" "I", Cond.methodLink RX2 70 yX2_leftsWithoutPartner, Cond.instanceMethod yX2_leftsWithoutPartner, Cond.selects RX2 yX2_leftsWithoutPartner yX2_leftsWithoutPartner]
def wsX5_count_r5 : List Cond := [Cond.code yX2_leftsWithoutPartner cX2_leftsWithoutPartner 4 (some .int), Cond.static yX5_isPerson, Cond.code yX5_isPerson cX5_isPerson 1 (some .boolean), Cond.methodLink RX2 66 yX2_join, Cond.instanceMethod yX2_join, Cond.selects RX2 yX2_join yX2_join, Cond.code yX2_join cX2_join 3 none, Cond.methodLink RX5 202 yX2_size, Cond.instanceMethod yX2_size, Cond.selects RX2 yX2_size yX2_size, Cond.code yX2_size cX2_size 3 (some .int), Cond.methodLink RX5 190 yX5_mostPossibleOfAPerson, Cond.instanceMethod yX5_mostPossibleOfAPerson, Cond.selects RX5 yX5_mostPossibleOfAPerson yX5_mostPossibleOfAPerson, Cond.code yX5_mostPossibleOfAPerson cX5_mostPossibleOfAPerson 3 (some .int), Cond.methodLink RX5 206 Lib.Math.max.name, Cond.static Lib.Math.max.name, Cond.initialized "java/lang/Math", Cond.code Lib.Math.max.name Lib.Math.max.code 2 (some .int), Cond.methodLink RX5 147 yX0_amountOfPerson, Cond.methodLink RX5 138 yX1_size, Cond.instanceMethod yX1_size, Cond.selects RX1 yX1_size yX1_size, Cond.initialized RX1]
def wsX5_count_r6 : List Cond := [Cond.code yX1_size cX1_size 1 (some .int), Cond.fieldLink RX1 17 "FenceHandshakes$History" "size" "I", Cond.methodLink RX5 122 yX4_length, Cond.instanceMethod yX4_length, Cond.selects RX4 yX4_length yX4_length, Cond.initialized RX4, Cond.code yX4_length cX4_length 1 (some .int), Cond.fieldLink RX4 19 "FenceHandshakes$WishText" "length" "I"]
def wsX5_count : List Cond := .code yX5_count cX5_count 2 (some .int) :: ((wsX5_count_r1 ++ (wsX5_count_r2 ++ (wsX5_count_r3 ++ (wsX5_count_r4 ++ (wsX5_count_r5 ++ wsX5_count_r6))))) ++ wsX50 ++ wsX00 ++ wsX20 ++ wsX10 ++ wsX40)
def wsX5_doneIn_r1 : List Cond := [Cond.fieldLink RX5 12 "FenceHandshakes" "now" "LFenceHandshakes$Clans;", Cond.fieldLink RX5 16 "FenceHandshakes" "trial" "LFenceHandshakes$Clans;", Cond.methodLink RX5 193 yX0_hasWishOverUnlinkedGates, Cond.instanceMethod yX0_hasWishOverUnlinkedGates, Cond.selects RX0 yX0_hasWishOverUnlinkedGates yX0_hasWishOverUnlinkedGates, Cond.initialized RX0, Cond.code yX0_hasWishOverUnlinkedGates cX0_hasWishOverUnlinkedGates 3 (some .boolean), Cond.methodLink RX0 42 yX0_hasWish, Cond.instanceMethod yX0_hasWish, Cond.selects RX0 yX0_hasWish yX0_hasWish, Cond.code yX0_hasWish cX0_hasWish 3 (some .boolean), Cond.fieldLink RX0 11 "FenceHandshakes$Clans" "cells" "[I", Cond.static yX5_hasBit, Cond.initialized RX5, Cond.code yX5_hasBit cX5_hasBit 2 (some .boolean), Cond.methodLink RX0 39 yX0_areAtLinkedGates, Cond.instanceMethod yX0_areAtLinkedGates, Cond.selects RX0 yX0_areAtLinkedGates yX0_areAtLinkedGates, Cond.code yX0_areAtLinkedGates cX0_areAtLinkedGates 4 (some .boolean), Cond.methodLink RX5 144 yX0_copyFrom, Cond.instanceMethod yX0_copyFrom, Cond.selects RX0 yX0_copyFrom yX0_copyFrom, Cond.code yX0_copyFrom cX0_copyFrom 2 none, Cond.methodLink RX0 15 arraycopyName]
def wsX5_doneIn_r2 : List Cond := [Cond.native arraycopyName, Cond.static arraycopyName, Cond.initialized "java/lang/System", Cond.methodLink RX5 69 yX0_numberOfWishes, Cond.instanceMethod yX0_numberOfWishes, Cond.selects RX0 yX0_numberOfWishes yX0_numberOfWishes, Cond.code yX0_numberOfWishes cX0_numberOfWishes 3 (some .int), Cond.methodLink RX0 29 yJ6_bitCount_0f7a4, Cond.static yJ6_bitCount_0f7a4, Cond.initialized RJ6, Cond.code yJ6_bitCount_0f7a4 cJ6_bitCount_0f7a4 1 (some .int), Cond.constant RJ6 265 (1431655765), Cond.constant RJ6 266 (858993459), Cond.constant RJ6 267 (252645135), Cond.methodLink RX5 110 yX5_makeRound, Cond.instanceMethod yX5_makeRound, Cond.selects RX5 yX5_makeRound yX5_makeRound, Cond.code yX5_makeRound cX5_makeRound 4 (some .int), Cond.fieldLink RX5 39 "FenceHandshakes" "matching" "LFenceHandshakes$Matching;", Cond.methodLink RX5 160 yX2_takeFirst, Cond.instanceMethod yX2_takeFirst, Cond.selects RX2 yX2_takeFirst yX2_takeFirst, Cond.initialized RX2, Cond.code yX2_takeFirst cX2_takeFirst 6 none]
def wsX5_doneIn_r3 : List Cond := [Cond.fieldLink RX2 15 "FenceHandshakes$Matching" "ofLeft" "[I", Cond.fieldLink RX2 9 "FenceHandshakes$Matching" "wished" "[I", Cond.methodLink RX2 43 yX2_takeGreatest, Cond.instanceMethod yX2_takeGreatest, Cond.selects RX2 yX2_takeGreatest yX2_takeGreatest, Cond.code yX2_takeGreatest cX2_takeGreatest 4 none, Cond.fieldLink RX2 18 "FenceHandshakes$Matching" "ofRight" "[I", Cond.methodLink RX2 28 yJ7_fill_53178, Cond.static yJ7_fill_53178, Cond.initialized RJ7, Cond.code yJ7_fill_53178 cJ7_fill_53178 4 none, Cond.methodLink RX2 34 yX0_isPossible, Cond.instanceMethod yX0_isPossible, Cond.selects RX0 yX0_isPossible yX0_isPossible, Cond.code yX0_isPossible cX0_isPossible 3 (some .boolean), Cond.methodLink RX0 45 yX0_canMeet, Cond.instanceMethod yX0_canMeet, Cond.selects RX0 yX0_canMeet yX0_canMeet, Cond.code yX0_canMeet cX0_canMeet 3 (some .boolean), Cond.methodLink RX0 35 yX0_feudOf, Cond.instanceMethod yX0_feudOf, Cond.selects RX0 yX0_feudOf yX0_feudOf, Cond.code yX0_feudOf cX0_feudOf 3 (some .int), Cond.methodLink RX2 40 yX2_growsByOne]
def wsX5_doneIn_r4 : List Cond := [Cond.instanceMethod yX2_growsByOne, Cond.selects RX2 yX2_growsByOne yX2_growsByOne, Cond.code yX2_growsByOne cX2_growsByOne 7 (some .boolean), Cond.fieldLink RX2 21 "FenceHandshakes$Matching" "seenFrom" "[I", Cond.methodLink RX2 58 yX2_findFreeRight, Cond.instanceMethod yX2_findFreeRight, Cond.selects RX2 yX2_findFreeRight yX2_findFreeRight, Cond.code yX2_findFreeRight cX2_findFreeRight 8 (some .int), Cond.fieldLink RX2 62 "FenceHandshakes$Matching" "reachedLefts" "I", Cond.methodLink RX2 70 yX2_leftsWithoutPartner, Cond.instanceMethod yX2_leftsWithoutPartner, Cond.selects RX2 yX2_leftsWithoutPartner yX2_leftsWithoutPartner, Cond.code yX2_leftsWithoutPartner cX2_leftsWithoutPartner 4 (some .int), Cond.static yX5_isPerson, Cond.code yX5_isPerson cX5_isPerson 1 (some .boolean), Cond.methodLink RX2 66 yX2_join, Cond.instanceMethod yX2_join, Cond.selects RX2 yX2_join yX2_join, Cond.code yX2_join cX2_join 3 none, Cond.methodLink RX2 50 yX2_canTake, Cond.instanceMethod yX2_canTake, Cond.selects RX2 yX2_canTake yX2_canTake, Cond.code yX2_canTake cX2_canTake 6 (some .boolean), Cond.methodLink RX5 163 yX2_partnerOf]
def wsX5_doneIn_r5 : List Cond := [Cond.instanceMethod yX2_partnerOf, Cond.selects RX2 yX2_partnerOf yX2_partnerOf, Cond.code yX2_partnerOf cX2_partnerOf 3 (some .int), Cond.methodLink RX5 99 yX5_isPerson, Cond.methodLink RX5 196 yX0_shakeHands, Cond.instanceMethod yX0_shakeHands, Cond.selects RX0 yX0_shakeHands yX0_shakeHands, Cond.code yX0_shakeHands cX0_shakeHands 3 none, Cond.methodLink RX0 66 yX0_closeWish, Cond.instanceMethod yX0_closeWish, Cond.selects RX0 yX0_closeWish yX0_closeWish, Cond.code yX0_closeWish cX0_closeWish 3 none, Cond.methodLink RX5 199 yX0_endRound, Cond.instanceMethod yX0_endRound, Cond.selects RX0 yX0_endRound yX0_endRound, Cond.code yX0_endRound cX0_endRound 2 none, Cond.methodLink RX5 202 yX2_size, Cond.instanceMethod yX2_size, Cond.selects RX2 yX2_size yX2_size, Cond.code yX2_size cX2_size 3 (some .int), Cond.static yX5_asNumber, Cond.code yX5_asNumber cX5_asNumber 1 (some .int)]
def wsX5_doneIn : List Cond := .code yX5_doneIn cX5_doneIn 2 (some .int) :: ((wsX5_doneIn_r1 ++ (wsX5_doneIn_r2 ++ (wsX5_doneIn_r3 ++ (wsX5_doneIn_r4 ++ wsX5_doneIn_r5)))) ++ wsX50 ++ wsX00 ++ wsX20)
def wsX5_bestLink_r1 : List Cond := [Cond.fieldLink RX5 12 "FenceHandshakes" "now" "LFenceHandshakes$Clans;", Cond.fieldLink RX5 16 "FenceHandshakes" "trial" "LFenceHandshakes$Clans;", Cond.methodLink RX5 187 yX5_greatestSize, Cond.instanceMethod yX5_greatestSize, Cond.selects RX5 yX5_greatestSize yX5_greatestSize, Cond.initialized RX5, Cond.code yX5_greatestSize cX5_greatestSize 2 (some .int), Cond.fieldLink RX5 39 "FenceHandshakes" "matching" "LFenceHandshakes$Matching;", Cond.methodLink RX5 166 yX2_takeGreatest, Cond.instanceMethod yX2_takeGreatest, Cond.selects RX2 yX2_takeGreatest yX2_takeGreatest, Cond.initialized RX2, Cond.code yX2_takeGreatest cX2_takeGreatest 4 none, Cond.fieldLink RX2 9 "FenceHandshakes$Matching" "wished" "[I", Cond.fieldLink RX2 15 "FenceHandshakes$Matching" "ofLeft" "[I", Cond.fieldLink RX2 18 "FenceHandshakes$Matching" "ofRight" "[I", Cond.methodLink RX2 28 yJ7_fill_53178, Cond.static yJ7_fill_53178, Cond.initialized RJ7, Cond.code yJ7_fill_53178 cJ7_fill_53178 4 none, Cond.methodLink RX2 34 yX0_isPossible, Cond.instanceMethod yX0_isPossible, Cond.selects RX0 yX0_isPossible yX0_isPossible, Cond.initialized RX0]
def wsX5_bestLink_r2 : List Cond := [Cond.code yX0_isPossible cX0_isPossible 3 (some .boolean), Cond.methodLink RX0 42 yX0_hasWish, Cond.instanceMethod yX0_hasWish, Cond.selects RX0 yX0_hasWish yX0_hasWish, Cond.code yX0_hasWish cX0_hasWish 3 (some .boolean), Cond.fieldLink RX0 11 "FenceHandshakes$Clans" "cells" "[I", Cond.static yX5_hasBit, Cond.code yX5_hasBit cX5_hasBit 2 (some .boolean), Cond.methodLink RX0 45 yX0_canMeet, Cond.instanceMethod yX0_canMeet, Cond.selects RX0 yX0_canMeet yX0_canMeet, Cond.code yX0_canMeet cX0_canMeet 3 (some .boolean), Cond.methodLink RX0 35 yX0_feudOf, Cond.instanceMethod yX0_feudOf, Cond.selects RX0 yX0_feudOf yX0_feudOf, Cond.code yX0_feudOf cX0_feudOf 3 (some .int), Cond.methodLink RX0 39 yX0_areAtLinkedGates, Cond.instanceMethod yX0_areAtLinkedGates, Cond.selects RX0 yX0_areAtLinkedGates yX0_areAtLinkedGates, Cond.code yX0_areAtLinkedGates cX0_areAtLinkedGates 4 (some .boolean), Cond.methodLink RX2 40 yX2_growsByOne, Cond.instanceMethod yX2_growsByOne, Cond.selects RX2 yX2_growsByOne yX2_growsByOne, Cond.code yX2_growsByOne cX2_growsByOne 7 (some .boolean)]
def wsX5_bestLink_r3 : List Cond := [Cond.fieldLink RX2 21 "FenceHandshakes$Matching" "seenFrom" "[I", Cond.methodLink RX2 58 yX2_findFreeRight, Cond.instanceMethod yX2_findFreeRight, Cond.selects RX2 yX2_findFreeRight yX2_findFreeRight, Cond.code yX2_findFreeRight cX2_findFreeRight 8 (some .int), Cond.fieldLink RX2 62 "FenceHandshakes$Matching" "reachedLefts" "I", Cond.methodLink RX2 70 yX2_leftsWithoutPartner, Cond.instanceMethod yX2_leftsWithoutPartner, Cond.selects RX2 yX2_leftsWithoutPartner yX2_leftsWithoutPartner, Cond.code yX2_leftsWithoutPartner cX2_leftsWithoutPartner 4 (some .int), Cond.static yX5_isPerson, Cond.code yX5_isPerson cX5_isPerson 1 (some .boolean), Cond.methodLink RX2 66 yX2_join, Cond.instanceMethod yX2_join, Cond.selects RX2 yX2_join yX2_join, Cond.code yX2_join cX2_join 3 none, Cond.methodLink RX5 202 yX2_size, Cond.instanceMethod yX2_size, Cond.selects RX2 yX2_size yX2_size, Cond.code yX2_size cX2_size 3 (some .int), Cond.static yX5_asNumber, Cond.code yX5_asNumber cX5_asNumber 1 (some .int), Cond.methodLink RX5 144 yX0_copyFrom, Cond.instanceMethod yX0_copyFrom]
def wsX5_bestLink_r4 : List Cond := [Cond.selects RX0 yX0_copyFrom yX0_copyFrom, Cond.code yX0_copyFrom cX0_copyFrom 2 none, Cond.methodLink RX0 15 arraycopyName, Cond.native arraycopyName, Cond.static arraycopyName, Cond.initialized "java/lang/System", Cond.methodLink RX5 88 yX0_areLinked, Cond.instanceMethod yX0_areLinked, Cond.selects RX0 yX0_areLinked yX0_areLinked, Cond.code yX0_areLinked cX0_areLinked 3 (some .boolean), Cond.methodLink RX5 95 yX0_setLinked, Cond.instanceMethod yX0_setLinked, Cond.selects RX0 yX0_setLinked yX0_setLinked, Cond.code yX0_setLinked cX0_setLinked 5 none]
def wsX5_bestLink : List Cond := .code yX5_bestLink cX5_bestLink 6 (some .int) :: ((wsX5_bestLink_r1 ++ (wsX5_bestLink_r2 ++ (wsX5_bestLink_r3 ++ wsX5_bestLink_r4))) ++ wsX50 ++ wsX20 ++ wsX00)
def wsX5_mean_r1 : List Cond := [Cond.fieldLink RX5 12 "FenceHandshakes" "now" "LFenceHandshakes$Clans;", Cond.methodLink RX5 184 yX0_roundsSoFar, Cond.instanceMethod yX0_roundsSoFar, Cond.selects RX0 yX0_roundsSoFar yX0_roundsSoFar, Cond.initialized RX0, Cond.code yX0_roundsSoFar cX0_roundsSoFar 1 (some .int), Cond.fieldLink RX0 11 "FenceHandshakes$Clans" "cells" "[I", Cond.methodLink RX5 178 yX0_amountOfAll, Cond.instanceMethod yX0_amountOfAll, Cond.selects RX0 yX0_amountOfAll yX0_amountOfAll, Cond.code yX0_amountOfAll cX0_amountOfAll 4 (some .int), Cond.methodLink RX0 62 yX0_amountOfPerson, Cond.instanceMethod yX0_amountOfPerson, Cond.selects RX0 yX0_amountOfPerson yX0_amountOfPerson, Cond.code yX0_amountOfPerson cX0_amountOfPerson 6 (some .int), Cond.methodLink RX0 58 yX0_amountOfPair, Cond.instanceMethod yX0_amountOfPair, Cond.selects RX0 yX0_amountOfPair yX0_amountOfPair, Cond.code yX0_amountOfPair cX0_amountOfPair 4 (some .int), Cond.methodLink RX0 42 yX0_hasWish, Cond.instanceMethod yX0_hasWish, Cond.selects RX0 yX0_hasWish yX0_hasWish, Cond.code yX0_hasWish cX0_hasWish 3 (some .boolean), Cond.static yX5_hasBit]
def wsX5_mean_r2 : List Cond := [Cond.initialized RX5, Cond.code yX5_hasBit cX5_hasBit 2 (some .boolean), Cond.static yX5_asNumber, Cond.code yX5_asNumber cX5_asNumber 1 (some .int), Cond.methodLink RX0 52 yX0_isPossible, Cond.instanceMethod yX0_isPossible, Cond.selects RX0 yX0_isPossible yX0_isPossible, Cond.code yX0_isPossible cX0_isPossible 3 (some .boolean), Cond.methodLink RX0 45 yX0_canMeet, Cond.instanceMethod yX0_canMeet, Cond.selects RX0 yX0_canMeet yX0_canMeet, Cond.code yX0_canMeet cX0_canMeet 3 (some .boolean), Cond.methodLink RX0 35 yX0_feudOf, Cond.instanceMethod yX0_feudOf, Cond.selects RX0 yX0_feudOf yX0_feudOf, Cond.code yX0_feudOf cX0_feudOf 3 (some .int), Cond.methodLink RX0 39 yX0_areAtLinkedGates, Cond.instanceMethod yX0_areAtLinkedGates, Cond.selects RX0 yX0_areAtLinkedGates yX0_areAtLinkedGates, Cond.code yX0_areAtLinkedGates cX0_areAtLinkedGates 4 (some .boolean), Cond.methodLink RX0 55 yX0_handshakesOf, Cond.instanceMethod yX0_handshakesOf, Cond.selects RX0 yX0_handshakesOf yX0_handshakesOf, Cond.code yX0_handshakesOf cX0_handshakesOf 3 (some .int)]
def wsX5_mean : List Cond := .code yX5_mean cX5_mean 2 (some .double) :: ((wsX5_mean_r1 ++ wsX5_mean_r2) ++ wsX50 ++ wsX00)
def wsX6_init : List Cond := .code yX6_init cX6_init 2 none :: ([.methodLink RX6 1 objectInit, .instanceMethod objectInit, .code objectInit ⟨#[0xb1]⟩ 1 none, .arrayClass .int, .fieldLink RX6 7 "FenceHandshakesModel" "s" "[I", .fieldLink RX6 13 "FenceHandshakesModel" "aside" "[I", .fieldLink RX6 16 "FenceHandshakesModel" "states" "[I", .fieldLink RX6 19 "FenceHandshakesModel" "snapshot" "[I", .fieldLink RX6 22 "FenceHandshakesModel" "text" "[I", .fieldLink RX6 25 "FenceHandshakesModel" "can" "[I", .fieldLink RX6 28 "FenceHandshakesModel" "sizes" "[I", .fieldLink RX6 31 "FenceHandshakesModel" "partners" "[I", .fieldLink RX6 34 "FenceHandshakesModel" "numbers" "[I", .fieldLink RX6 37 "FenceHandshakesModel" "path" "[I", .fieldLink RX6 40 "FenceHandshakesModel" "read" "[I", .fieldLink RX6 43 "FenceHandshakesModel" "thrown" "I"] ++ wsX60)
def wsX6_in : List Cond := .code yX6_in cX6_in 3 (some .boolean) :: ([])
def wsX6_isPerson : List Cond := .code yX6_isPerson cX6_isPerson 1 (some .boolean) :: ([.methodLink RX6 47 yX6_in, .static yX6_in, .initialized RX6, .code yX6_in cX6_in 3 (some .boolean)])
def wsX6_isPair : List Cond := .code yX6_isPair cX6_isPair 2 (some .boolean) :: ([.methodLink RX6 51 yX6_isPerson, .static yX6_isPerson, .initialized RX6, .code yX6_isPerson cX6_isPerson 1 (some .boolean), .methodLink RX6 47 yX6_in, .static yX6_in, .code yX6_in cX6_in 3 (some .boolean)])
def wsX6_isGate : List Cond := .code yX6_isGate cX6_isGate 1 (some .boolean) :: ([.methodLink RX6 47 yX6_in, .static yX6_in, .initialized RX6, .code yX6_in cX6_in 3 (some .boolean)])
def wsX6_records : List Cond := .code yX6_records cX6_records 2 none :: ([.fieldLink RX6 55 "FenceHandshakesModel" "stateMany" "I", .fieldLink RX6 16 "FenceHandshakesModel" "states" "[I", .fieldLink RX6 7 "FenceHandshakesModel" "s" "[I"] ++ wsX60)
def wsX6_putAside : List Cond := .code yX6_putAside cX6_putAside 2 none :: ([.fieldLink RX6 13 "FenceHandshakesModel" "aside" "[I", .fieldLink RX6 7 "FenceHandshakesModel" "s" "[I"] ++ wsX60)
def wsX6_takeBack : List Cond := .code yX6_takeBack cX6_takeBack 2 none :: ([.fieldLink RX6 7 "FenceHandshakesModel" "s" "[I", .fieldLink RX6 13 "FenceHandshakesModel" "aside" "[I"] ++ wsX60)
def wsX6_areLinked : List Cond := .code yX6_areLinked cX6_areLinked 3 (some .boolean) :: ([.fieldLink RX6 7 "FenceHandshakesModel" "s" "[I"] ++ wsX60)
def wsX6_canMeet : List Cond := .code yX6_canMeet cX6_canMeet 3 (some .boolean) :: ([.fieldLink RX6 7 "FenceHandshakesModel" "s" "[I", .methodLink RX6 58 yX6_areLinked, .instanceMethod yX6_areLinked, .selects RX6 yX6_areLinked yX6_areLinked, .initialized RX6, .code yX6_areLinked cX6_areLinked 3 (some .boolean)] ++ wsX60)
def wsX6_isOpen : List Cond := .code yX6_isOpen cX6_isOpen 3 (some .boolean) :: ([.fieldLink RX6 7 "FenceHandshakesModel" "s" "[I"] ++ wsX60)
def wsX6_isPossible : List Cond := .code yX6_isPossible cX6_isPossible 3 (some .boolean) :: ([.methodLink RX6 62 yX6_isOpen, .instanceMethod yX6_isOpen, .selects RX6 yX6_isOpen yX6_isOpen, .initialized RX6, .code yX6_isOpen cX6_isOpen 3 (some .boolean), .fieldLink RX6 7 "FenceHandshakesModel" "s" "[I", .methodLink RX6 65 yX6_canMeet, .instanceMethod yX6_canMeet, .selects RX6 yX6_canMeet yX6_canMeet, .code yX6_canMeet cX6_canMeet 3 (some .boolean), .methodLink RX6 58 yX6_areLinked, .instanceMethod yX6_areLinked, .selects RX6 yX6_areLinked yX6_areLinked, .code yX6_areLinked cX6_areLinked 3 (some .boolean)] ++ wsX60)
def wsX6_findsCan : List Cond := .code yX6_findsCan cX6_findsCan 4 none :: ([.fieldLink RX6 25 "FenceHandshakesModel" "can" "[I", .methodLink RX6 68 yX6_isPossible, .instanceMethod yX6_isPossible, .selects RX6 yX6_isPossible yX6_isPossible, .initialized RX6, .code yX6_isPossible cX6_isPossible 3 (some .boolean), .methodLink RX6 62 yX6_isOpen, .instanceMethod yX6_isOpen, .selects RX6 yX6_isOpen yX6_isOpen, .code yX6_isOpen cX6_isOpen 3 (some .boolean), .fieldLink RX6 7 "FenceHandshakesModel" "s" "[I", .methodLink RX6 65 yX6_canMeet, .instanceMethod yX6_canMeet, .selects RX6 yX6_canMeet yX6_canMeet, .code yX6_canMeet cX6_canMeet 3 (some .boolean), .methodLink RX6 58 yX6_areLinked, .instanceMethod yX6_areLinked, .selects RX6 yX6_areLinked yX6_areLinked, .code yX6_areLinked cX6_areLinked 3 (some .boolean)] ++ wsX60)
def wsX6_sizeOf : List Cond := .code yX6_sizeOf cX6_sizeOf 3 (some .int) :: ([.fieldLink RX6 28 "FenceHandshakesModel" "sizes" "[I"] ++ wsX60)
def wsX6_bestFor : List Cond := .code yX6_bestFor cX6_bestFor 6 (some .int) :: ([.fieldLink RX6 25 "FenceHandshakesModel" "can" "[I", .methodLink RX6 71 yX6_sizeOf, .instanceMethod yX6_sizeOf, .selects RX6 yX6_sizeOf yX6_sizeOf, .initialized RX6, .code yX6_sizeOf cX6_sizeOf 3 (some .int), .fieldLink RX6 28 "FenceHandshakesModel" "sizes" "[I"] ++ wsX60)
def wsX6_fills : List Cond := .code yX6_fills cX6_fills 3 (some .int) :: ([.fieldLink RX6 28 "FenceHandshakesModel" "sizes" "[I", .methodLink RX6 75 yX6_bestFor, .instanceMethod yX6_bestFor, .selects RX6 yX6_bestFor yX6_bestFor, .initialized RX6, .code yX6_bestFor cX6_bestFor 6 (some .int), .fieldLink RX6 25 "FenceHandshakesModel" "can" "[I", .methodLink RX6 71 yX6_sizeOf, .instanceMethod yX6_sizeOf, .selects RX6 yX6_sizeOf yX6_sizeOf, .code yX6_sizeOf cX6_sizeOf 3 (some .int)] ++ wsX60)
def wsX6_firstFor : List Cond := .code yX6_firstFor cX6_firstFor 5 (some .int) :: ([.fieldLink RX6 25 "FenceHandshakesModel" "can" "[I", .methodLink RX6 71 yX6_sizeOf, .instanceMethod yX6_sizeOf, .selects RX6 yX6_sizeOf yX6_sizeOf, .initialized RX6, .code yX6_sizeOf cX6_sizeOf 3 (some .int), .fieldLink RX6 28 "FenceHandshakesModel" "sizes" "[I"] ++ wsX60)
def wsX6_matches_r1 : List Cond := [Cond.fieldLink RX6 31 "FenceHandshakesModel" "partners" "[I", Cond.methodLink RX6 78 yX6_findsCan, Cond.instanceMethod yX6_findsCan, Cond.selects RX6 yX6_findsCan yX6_findsCan, Cond.initialized RX6, Cond.code yX6_findsCan cX6_findsCan 4 none, Cond.fieldLink RX6 25 "FenceHandshakesModel" "can" "[I", Cond.methodLink RX6 68 yX6_isPossible, Cond.instanceMethod yX6_isPossible, Cond.selects RX6 yX6_isPossible yX6_isPossible, Cond.code yX6_isPossible cX6_isPossible 3 (some .boolean), Cond.methodLink RX6 62 yX6_isOpen, Cond.instanceMethod yX6_isOpen, Cond.selects RX6 yX6_isOpen yX6_isOpen, Cond.code yX6_isOpen cX6_isOpen 3 (some .boolean), Cond.fieldLink RX6 7 "FenceHandshakesModel" "s" "[I", Cond.methodLink RX6 65 yX6_canMeet, Cond.instanceMethod yX6_canMeet, Cond.selects RX6 yX6_canMeet yX6_canMeet, Cond.code yX6_canMeet cX6_canMeet 3 (some .boolean), Cond.methodLink RX6 58 yX6_areLinked, Cond.instanceMethod yX6_areLinked, Cond.selects RX6 yX6_areLinked yX6_areLinked, Cond.code yX6_areLinked cX6_areLinked 3 (some .boolean)]
def wsX6_matches_r2 : List Cond := [Cond.methodLink RX6 82 yX6_fills, Cond.instanceMethod yX6_fills, Cond.selects RX6 yX6_fills yX6_fills, Cond.code yX6_fills cX6_fills 3 (some .int), Cond.fieldLink RX6 28 "FenceHandshakesModel" "sizes" "[I", Cond.methodLink RX6 75 yX6_bestFor, Cond.instanceMethod yX6_bestFor, Cond.selects RX6 yX6_bestFor yX6_bestFor, Cond.code yX6_bestFor cX6_bestFor 6 (some .int), Cond.methodLink RX6 71 yX6_sizeOf, Cond.instanceMethod yX6_sizeOf, Cond.selects RX6 yX6_sizeOf yX6_sizeOf, Cond.code yX6_sizeOf cX6_sizeOf 3 (some .int), Cond.methodLink RX6 86 yX6_firstFor, Cond.instanceMethod yX6_firstFor, Cond.selects RX6 yX6_firstFor yX6_firstFor, Cond.code yX6_firstFor cX6_firstFor 5 (some .int)]
def wsX6_matches : List Cond := .code yX6_matches cX6_matches 4 (some .int) :: ((wsX6_matches_r1 ++ wsX6_matches_r2) ++ wsX60)
def wsX6_openMany : List Cond := .code yX6_openMany cX6_openMany 3 (some .int) :: ([.fieldLink RX6 7 "FenceHandshakesModel" "s" "[I"] ++ wsX60)
def wsX6_wish_r1 : List Cond := [Cond.fieldLink RX6 43 "FenceHandshakesModel" "thrown" "I", Cond.fieldLink RX6 7 "FenceHandshakesModel" "s" "[I", Cond.methodLink RX6 89 yX6_isPair, Cond.static yX6_isPair, Cond.initialized RX6, Cond.code yX6_isPair cX6_isPair 2 (some .boolean), Cond.methodLink RX6 51 yX6_isPerson, Cond.static yX6_isPerson, Cond.code yX6_isPerson cX6_isPerson 1 (some .boolean), Cond.methodLink RX6 47 yX6_in, Cond.static yX6_in, Cond.code yX6_in cX6_in 3 (some .boolean), Cond.methodLink RX6 62 yX6_isOpen, Cond.instanceMethod yX6_isOpen, Cond.selects RX6 yX6_isOpen yX6_isOpen, Cond.code yX6_isOpen cX6_isOpen 3 (some .boolean), Cond.methodLink RX6 92 yX6_records, Cond.instanceMethod yX6_records, Cond.selects RX6 yX6_records yX6_records, Cond.code yX6_records cX6_records 2 none, Cond.fieldLink RX6 55 "FenceHandshakesModel" "stateMany" "I", Cond.fieldLink RX6 16 "FenceHandshakesModel" "states" "[I", Cond.methodLink RX6 95 yX6_openMany, Cond.instanceMethod yX6_openMany]
def wsX6_wish_r2 : List Cond := [Cond.selects RX6 yX6_openMany yX6_openMany, Cond.code yX6_openMany cX6_openMany 3 (some .int)]
def wsX6_wish : List Cond := .code yX6_wish cX6_wish 3 (some .int) :: ((wsX6_wish_r1 ++ wsX6_wish_r2) ++ wsX60)
def wsX6_withdraw_r1 : List Cond := [Cond.fieldLink RX6 43 "FenceHandshakesModel" "thrown" "I", Cond.fieldLink RX6 7 "FenceHandshakesModel" "s" "[I", Cond.methodLink RX6 89 yX6_isPair, Cond.static yX6_isPair, Cond.initialized RX6, Cond.code yX6_isPair cX6_isPair 2 (some .boolean), Cond.methodLink RX6 51 yX6_isPerson, Cond.static yX6_isPerson, Cond.code yX6_isPerson cX6_isPerson 1 (some .boolean), Cond.methodLink RX6 47 yX6_in, Cond.static yX6_in, Cond.code yX6_in cX6_in 3 (some .boolean), Cond.methodLink RX6 62 yX6_isOpen, Cond.instanceMethod yX6_isOpen, Cond.selects RX6 yX6_isOpen yX6_isOpen, Cond.code yX6_isOpen cX6_isOpen 3 (some .boolean), Cond.methodLink RX6 92 yX6_records, Cond.instanceMethod yX6_records, Cond.selects RX6 yX6_records yX6_records, Cond.code yX6_records cX6_records 2 none, Cond.fieldLink RX6 55 "FenceHandshakesModel" "stateMany" "I", Cond.fieldLink RX6 16 "FenceHandshakesModel" "states" "[I", Cond.methodLink RX6 95 yX6_openMany, Cond.instanceMethod yX6_openMany]
def wsX6_withdraw_r2 : List Cond := [Cond.selects RX6 yX6_openMany yX6_openMany, Cond.code yX6_openMany cX6_openMany 3 (some .int)]
def wsX6_withdraw : List Cond := .code yX6_withdraw cX6_withdraw 3 (some .int) :: ((wsX6_withdraw_r1 ++ wsX6_withdraw_r2) ++ wsX60)
def wsX6_quarrel : List Cond := .code yX6_quarrel cX6_quarrel 5 (some .int) :: ([.fieldLink RX6 43 "FenceHandshakesModel" "thrown" "I", .fieldLink RX6 7 "FenceHandshakesModel" "s" "[I", .methodLink RX6 89 yX6_isPair, .static yX6_isPair, .initialized RX6, .code yX6_isPair cX6_isPair 2 (some .boolean), .methodLink RX6 51 yX6_isPerson, .static yX6_isPerson, .code yX6_isPerson cX6_isPerson 1 (some .boolean), .methodLink RX6 47 yX6_in, .static yX6_in, .code yX6_in cX6_in 3 (some .boolean), .methodLink RX6 92 yX6_records, .instanceMethod yX6_records, .selects RX6 yX6_records yX6_records, .code yX6_records cX6_records 2 none, .fieldLink RX6 55 "FenceHandshakesModel" "stateMany" "I", .fieldLink RX6 16 "FenceHandshakesModel" "states" "[I"] ++ wsX60)
def wsX6_reconcile : List Cond := .code yX6_reconcile cX6_reconcile 4 (some .int) :: ([.fieldLink RX6 43 "FenceHandshakesModel" "thrown" "I", .fieldLink RX6 7 "FenceHandshakesModel" "s" "[I", .methodLink RX6 89 yX6_isPair, .static yX6_isPair, .initialized RX6, .code yX6_isPair cX6_isPair 2 (some .boolean), .methodLink RX6 51 yX6_isPerson, .static yX6_isPerson, .code yX6_isPerson cX6_isPerson 1 (some .boolean), .methodLink RX6 47 yX6_in, .static yX6_in, .code yX6_in cX6_in 3 (some .boolean), .methodLink RX6 92 yX6_records, .instanceMethod yX6_records, .selects RX6 yX6_records yX6_records, .code yX6_records cX6_records 2 none, .fieldLink RX6 55 "FenceHandshakesModel" "stateMany" "I", .fieldLink RX6 16 "FenceHandshakesModel" "states" "[I"] ++ wsX60)
def wsX6_link : List Cond := .code yX6_link cX6_link 5 (some .int) :: ([.fieldLink RX6 43 "FenceHandshakesModel" "thrown" "I", .fieldLink RX6 7 "FenceHandshakesModel" "s" "[I", .methodLink RX6 98 yX6_isGate, .static yX6_isGate, .initialized RX6, .code yX6_isGate cX6_isGate 1 (some .boolean), .methodLink RX6 47 yX6_in, .static yX6_in, .code yX6_in cX6_in 3 (some .boolean), .methodLink RX6 92 yX6_records, .instanceMethod yX6_records, .selects RX6 yX6_records yX6_records, .code yX6_records cX6_records 2 none, .fieldLink RX6 55 "FenceHandshakesModel" "stateMany" "I", .fieldLink RX6 16 "FenceHandshakesModel" "states" "[I"] ++ wsX60)
def wsX6_move : List Cond := .code yX6_move cX6_move 6 (some .int) :: ([.fieldLink RX6 43 "FenceHandshakesModel" "thrown" "I", .fieldLink RX6 7 "FenceHandshakesModel" "s" "[I", .methodLink RX6 51 yX6_isPerson, .static yX6_isPerson, .initialized RX6, .code yX6_isPerson cX6_isPerson 1 (some .boolean), .methodLink RX6 47 yX6_in, .static yX6_in, .code yX6_in cX6_in 3 (some .boolean), .methodLink RX6 98 yX6_isGate, .static yX6_isGate, .code yX6_isGate cX6_isGate 1 (some .boolean), .methodLink RX6 92 yX6_records, .instanceMethod yX6_records, .selects RX6 yX6_records yX6_records, .code yX6_records cX6_records 2 none, .fieldLink RX6 55 "FenceHandshakesModel" "stateMany" "I", .fieldLink RX6 16 "FenceHandshakesModel" "states" "[I"] ++ wsX60)
def wsX6_shakes_r1 : List Cond := [Cond.fieldLink RX6 31 "FenceHandshakesModel" "partners" "[I", Cond.fieldLink RX6 7 "FenceHandshakesModel" "s" "[I", Cond.methodLink RX6 101 yX6_matches, Cond.instanceMethod yX6_matches, Cond.selects RX6 yX6_matches yX6_matches, Cond.initialized RX6, Cond.code yX6_matches cX6_matches 4 (some .int), Cond.methodLink RX6 78 yX6_findsCan, Cond.instanceMethod yX6_findsCan, Cond.selects RX6 yX6_findsCan yX6_findsCan, Cond.code yX6_findsCan cX6_findsCan 4 none, Cond.fieldLink RX6 25 "FenceHandshakesModel" "can" "[I", Cond.methodLink RX6 68 yX6_isPossible, Cond.instanceMethod yX6_isPossible, Cond.selects RX6 yX6_isPossible yX6_isPossible, Cond.code yX6_isPossible cX6_isPossible 3 (some .boolean), Cond.methodLink RX6 62 yX6_isOpen, Cond.instanceMethod yX6_isOpen, Cond.selects RX6 yX6_isOpen yX6_isOpen, Cond.code yX6_isOpen cX6_isOpen 3 (some .boolean), Cond.methodLink RX6 65 yX6_canMeet, Cond.instanceMethod yX6_canMeet, Cond.selects RX6 yX6_canMeet yX6_canMeet, Cond.code yX6_canMeet cX6_canMeet 3 (some .boolean)]
def wsX6_shakes_r2 : List Cond := [Cond.methodLink RX6 58 yX6_areLinked, Cond.instanceMethod yX6_areLinked, Cond.selects RX6 yX6_areLinked yX6_areLinked, Cond.code yX6_areLinked cX6_areLinked 3 (some .boolean), Cond.methodLink RX6 82 yX6_fills, Cond.instanceMethod yX6_fills, Cond.selects RX6 yX6_fills yX6_fills, Cond.code yX6_fills cX6_fills 3 (some .int), Cond.fieldLink RX6 28 "FenceHandshakesModel" "sizes" "[I", Cond.methodLink RX6 75 yX6_bestFor, Cond.instanceMethod yX6_bestFor, Cond.selects RX6 yX6_bestFor yX6_bestFor, Cond.code yX6_bestFor cX6_bestFor 6 (some .int), Cond.methodLink RX6 71 yX6_sizeOf, Cond.instanceMethod yX6_sizeOf, Cond.selects RX6 yX6_sizeOf yX6_sizeOf, Cond.code yX6_sizeOf cX6_sizeOf 3 (some .int), Cond.methodLink RX6 86 yX6_firstFor, Cond.instanceMethod yX6_firstFor, Cond.selects RX6 yX6_firstFor yX6_firstFor, Cond.code yX6_firstFor cX6_firstFor 5 (some .int)]
def wsX6_shakes : List Cond := .code yX6_shakes cX6_shakes 3 (some .int) :: ((wsX6_shakes_r1 ++ wsX6_shakes_r2) ++ wsX60)
def wsX6_round_r1 : List Cond := [Cond.fieldLink RX6 43 "FenceHandshakesModel" "thrown" "I", Cond.methodLink RX6 92 yX6_records, Cond.instanceMethod yX6_records, Cond.selects RX6 yX6_records yX6_records, Cond.initialized RX6, Cond.code yX6_records cX6_records 2 none, Cond.fieldLink RX6 55 "FenceHandshakesModel" "stateMany" "I", Cond.fieldLink RX6 16 "FenceHandshakesModel" "states" "[I", Cond.fieldLink RX6 7 "FenceHandshakesModel" "s" "[I", Cond.methodLink RX6 104 yX6_shakes, Cond.instanceMethod yX6_shakes, Cond.selects RX6 yX6_shakes yX6_shakes, Cond.code yX6_shakes cX6_shakes 3 (some .int), Cond.fieldLink RX6 31 "FenceHandshakesModel" "partners" "[I", Cond.methodLink RX6 101 yX6_matches, Cond.instanceMethod yX6_matches, Cond.selects RX6 yX6_matches yX6_matches, Cond.code yX6_matches cX6_matches 4 (some .int), Cond.methodLink RX6 78 yX6_findsCan, Cond.instanceMethod yX6_findsCan, Cond.selects RX6 yX6_findsCan yX6_findsCan, Cond.code yX6_findsCan cX6_findsCan 4 none, Cond.fieldLink RX6 25 "FenceHandshakesModel" "can" "[I", Cond.methodLink RX6 68 yX6_isPossible]
def wsX6_round_r2 : List Cond := [Cond.instanceMethod yX6_isPossible, Cond.selects RX6 yX6_isPossible yX6_isPossible, Cond.code yX6_isPossible cX6_isPossible 3 (some .boolean), Cond.methodLink RX6 62 yX6_isOpen, Cond.instanceMethod yX6_isOpen, Cond.selects RX6 yX6_isOpen yX6_isOpen, Cond.code yX6_isOpen cX6_isOpen 3 (some .boolean), Cond.methodLink RX6 65 yX6_canMeet, Cond.instanceMethod yX6_canMeet, Cond.selects RX6 yX6_canMeet yX6_canMeet, Cond.code yX6_canMeet cX6_canMeet 3 (some .boolean), Cond.methodLink RX6 58 yX6_areLinked, Cond.instanceMethod yX6_areLinked, Cond.selects RX6 yX6_areLinked yX6_areLinked, Cond.code yX6_areLinked cX6_areLinked 3 (some .boolean), Cond.methodLink RX6 82 yX6_fills, Cond.instanceMethod yX6_fills, Cond.selects RX6 yX6_fills yX6_fills, Cond.code yX6_fills cX6_fills 3 (some .int), Cond.fieldLink RX6 28 "FenceHandshakesModel" "sizes" "[I", Cond.methodLink RX6 75 yX6_bestFor, Cond.instanceMethod yX6_bestFor, Cond.selects RX6 yX6_bestFor yX6_bestFor, Cond.code yX6_bestFor cX6_bestFor 6 (some .int)]
def wsX6_round_r3 : List Cond := [Cond.methodLink RX6 71 yX6_sizeOf, Cond.instanceMethod yX6_sizeOf, Cond.selects RX6 yX6_sizeOf yX6_sizeOf, Cond.code yX6_sizeOf cX6_sizeOf 3 (some .int), Cond.methodLink RX6 86 yX6_firstFor, Cond.instanceMethod yX6_firstFor, Cond.selects RX6 yX6_firstFor yX6_firstFor, Cond.code yX6_firstFor cX6_firstFor 5 (some .int)]
def wsX6_round : List Cond := .code yX6_round cX6_round 1 (some .int) :: ((wsX6_round_r1 ++ (wsX6_round_r2 ++ wsX6_round_r3)) ++ wsX60)
def wsX6_append : List Cond := .code yX6_append cX6_append 2 (some .int) :: ([.fieldLink RX6 43 "FenceHandshakesModel" "thrown" "I", .fieldLink RX6 107 "FenceHandshakesModel" "length" "I", .fieldLink RX6 22 "FenceHandshakesModel" "text" "[I", .methodLink RX6 47 yX6_in, .static yX6_in, .initialized RX6, .code yX6_in cX6_in 3 (some .boolean)] ++ wsX60)
def wsX6_clearText : List Cond := .code yX6_clearText cX6_clearText 2 (some .int) :: ([.fieldLink RX6 43 "FenceHandshakesModel" "thrown" "I", .fieldLink RX6 107 "FenceHandshakesModel" "length" "I"] ++ wsX60)
def wsX6_sign : List Cond := .code yX6_sign cX6_sign 1 (some .int) :: ([.fieldLink RX6 110 "FenceHandshakesModel" "at" "I", .fieldLink RX6 107 "FenceHandshakesModel" "length" "I", .fieldLink RX6 22 "FenceHandshakesModel" "text" "[I"] ++ wsX60)
def wsX6_people : List Cond := .code yX6_people cX6_people 2 (some .int) :: ([.fieldLink RX6 113 "FenceHandshakesModel" "isWell" "Z", .fieldLink RX6 110 "FenceHandshakesModel" "at" "I", .methodLink RX6 117 yX6_sign, .instanceMethod yX6_sign, .selects RX6 yX6_sign yX6_sign, .initialized RX6, .code yX6_sign cX6_sign 1 (some .int), .fieldLink RX6 107 "FenceHandshakesModel" "length" "I", .fieldLink RX6 22 "FenceHandshakesModel" "text" "[I", .methodLink RX6 47 yX6_in, .static yX6_in, .code yX6_in cX6_in 3 (some .boolean)] ++ wsX60)
def wsX6_readsGroup : List Cond := .code yX6_readsGroup cX6_readsGroup 1 none :: ([.fieldLink RX6 113 "FenceHandshakesModel" "isWell" "Z", .fieldLink RX6 40 "FenceHandshakesModel" "read" "[I", .fieldLink RX6 120 "FenceHandshakesModel" "readMany" "I", .fieldLink RX6 110 "FenceHandshakesModel" "at" "I", .methodLink RX6 123 yX6_people, .instanceMethod yX6_people, .selects RX6 yX6_people yX6_people, .initialized RX6, .code yX6_people cX6_people 2 (some .int), .methodLink RX6 117 yX6_sign, .instanceMethod yX6_sign, .selects RX6 yX6_sign yX6_sign, .code yX6_sign cX6_sign 1 (some .int), .fieldLink RX6 107 "FenceHandshakesModel" "length" "I", .fieldLink RX6 22 "FenceHandshakesModel" "text" "[I", .methodLink RX6 47 yX6_in, .static yX6_in, .code yX6_in cX6_in 3 (some .boolean)] ++ wsX60)
def wsX6_reads : List Cond := .code yX6_reads cX6_reads 1 (some .int) :: ([.fieldLink RX6 110 "FenceHandshakesModel" "at" "I", .fieldLink RX6 120 "FenceHandshakesModel" "readMany" "I", .fieldLink RX6 113 "FenceHandshakesModel" "isWell" "Z", .fieldLink RX6 107 "FenceHandshakesModel" "length" "I", .methodLink RX6 126 yX6_readsGroup, .instanceMethod yX6_readsGroup, .selects RX6 yX6_readsGroup yX6_readsGroup, .initialized RX6, .code yX6_readsGroup cX6_readsGroup 1 none, .fieldLink RX6 40 "FenceHandshakesModel" "read" "[I", .methodLink RX6 123 yX6_people, .instanceMethod yX6_people, .selects RX6 yX6_people yX6_people, .code yX6_people cX6_people 2 (some .int), .methodLink RX6 117 yX6_sign, .instanceMethod yX6_sign, .selects RX6 yX6_sign yX6_sign, .code yX6_sign cX6_sign 1 (some .int), .fieldLink RX6 22 "FenceHandshakesModel" "text" "[I", .methodLink RX6 47 yX6_in, .static yX6_in, .code yX6_in cX6_in 3 (some .boolean)] ++ wsX60)
def wsX6_fault_r1 : List Cond := [Cond.fieldLink RX6 43 "FenceHandshakesModel" "thrown" "I", Cond.methodLink RX6 129 yX6_reads, Cond.instanceMethod yX6_reads, Cond.selects RX6 yX6_reads yX6_reads, Cond.initialized RX6, Cond.code yX6_reads cX6_reads 1 (some .int), Cond.fieldLink RX6 110 "FenceHandshakesModel" "at" "I", Cond.fieldLink RX6 120 "FenceHandshakesModel" "readMany" "I", Cond.fieldLink RX6 113 "FenceHandshakesModel" "isWell" "Z", Cond.fieldLink RX6 107 "FenceHandshakesModel" "length" "I", Cond.methodLink RX6 126 yX6_readsGroup, Cond.instanceMethod yX6_readsGroup, Cond.selects RX6 yX6_readsGroup yX6_readsGroup, Cond.code yX6_readsGroup cX6_readsGroup 1 none, Cond.fieldLink RX6 40 "FenceHandshakesModel" "read" "[I", Cond.methodLink RX6 123 yX6_people, Cond.instanceMethod yX6_people, Cond.selects RX6 yX6_people yX6_people, Cond.code yX6_people cX6_people 2 (some .int), Cond.methodLink RX6 117 yX6_sign, Cond.instanceMethod yX6_sign, Cond.selects RX6 yX6_sign yX6_sign, Cond.code yX6_sign cX6_sign 1 (some .int), Cond.fieldLink RX6 22 "FenceHandshakesModel" "text" "[I"]
def wsX6_fault_r2 : List Cond := [Cond.methodLink RX6 47 yX6_in, Cond.static yX6_in, Cond.code yX6_in cX6_in 3 (some .boolean)]
def wsX6_fault : List Cond := .code yX6_fault cX6_fault 1 (some .int) :: ((wsX6_fault_r1 ++ wsX6_fault_r2) ++ wsX60)
def wsX6_adds : List Cond := .code yX6_adds cX6_adds 6 (some .int) :: ([.fieldLink RX6 7 "FenceHandshakesModel" "s" "[I"] ++ wsX60)
def wsX6_read_r1 : List Cond := [Cond.fieldLink RX6 43 "FenceHandshakesModel" "thrown" "I", Cond.fieldLink RX6 120 "FenceHandshakesModel" "readMany" "I", Cond.fieldLink RX6 40 "FenceHandshakesModel" "read" "[I", Cond.methodLink RX6 129 yX6_reads, Cond.instanceMethod yX6_reads, Cond.selects RX6 yX6_reads yX6_reads, Cond.initialized RX6, Cond.code yX6_reads cX6_reads 1 (some .int), Cond.fieldLink RX6 110 "FenceHandshakesModel" "at" "I", Cond.fieldLink RX6 113 "FenceHandshakesModel" "isWell" "Z", Cond.fieldLink RX6 107 "FenceHandshakesModel" "length" "I", Cond.methodLink RX6 126 yX6_readsGroup, Cond.instanceMethod yX6_readsGroup, Cond.selects RX6 yX6_readsGroup yX6_readsGroup, Cond.code yX6_readsGroup cX6_readsGroup 1 none, Cond.methodLink RX6 123 yX6_people, Cond.instanceMethod yX6_people, Cond.selects RX6 yX6_people yX6_people, Cond.code yX6_people cX6_people 2 (some .int), Cond.methodLink RX6 117 yX6_sign, Cond.instanceMethod yX6_sign, Cond.selects RX6 yX6_sign yX6_sign, Cond.code yX6_sign cX6_sign 1 (some .int), Cond.fieldLink RX6 22 "FenceHandshakesModel" "text" "[I"]
def wsX6_read_r2 : List Cond := [Cond.methodLink RX6 47 yX6_in, Cond.static yX6_in, Cond.code yX6_in cX6_in 3 (some .boolean), Cond.methodLink RX6 92 yX6_records, Cond.instanceMethod yX6_records, Cond.selects RX6 yX6_records yX6_records, Cond.code yX6_records cX6_records 2 none, Cond.fieldLink RX6 55 "FenceHandshakesModel" "stateMany" "I", Cond.fieldLink RX6 16 "FenceHandshakesModel" "states" "[I", Cond.fieldLink RX6 7 "FenceHandshakesModel" "s" "[I", Cond.methodLink RX6 132 yX6_adds, Cond.instanceMethod yX6_adds, Cond.selects RX6 yX6_adds yX6_adds, Cond.code yX6_adds cX6_adds 6 (some .int)]
def wsX6_read : List Cond := .code yX6_read cX6_read 4 (some .int) :: ((wsX6_read_r1 ++ wsX6_read_r2) ++ wsX60)
def wsX6_undo : List Cond := .code yX6_undo cX6_undo 2 (some .int) :: ([.fieldLink RX6 43 "FenceHandshakesModel" "thrown" "I", .fieldLink RX6 55 "FenceHandshakesModel" "stateMany" "I", .fieldLink RX6 7 "FenceHandshakesModel" "s" "[I", .fieldLink RX6 16 "FenceHandshakesModel" "states" "[I"] ++ wsX60)
def wsX6_save : List Cond := .code yX6_save cX6_save 2 (some .int) :: ([.fieldLink RX6 43 "FenceHandshakesModel" "thrown" "I", .fieldLink RX6 19 "FenceHandshakesModel" "snapshot" "[I", .fieldLink RX6 7 "FenceHandshakesModel" "s" "[I", .fieldLink RX6 135 "FenceHandshakesModel" "hasSnapshot" "Z", .methodLink RX6 95 yX6_openMany, .instanceMethod yX6_openMany, .selects RX6 yX6_openMany yX6_openMany, .initialized RX6, .code yX6_openMany cX6_openMany 3 (some .int)] ++ wsX60)
def wsX6_restore : List Cond := .code yX6_restore cX6_restore 2 (some .int) :: ([.fieldLink RX6 43 "FenceHandshakesModel" "thrown" "I", .fieldLink RX6 135 "FenceHandshakesModel" "hasSnapshot" "Z", .fieldLink RX6 7 "FenceHandshakesModel" "s" "[I", .fieldLink RX6 19 "FenceHandshakesModel" "snapshot" "[I", .methodLink RX6 92 yX6_records, .instanceMethod yX6_records, .selects RX6 yX6_records yX6_records, .initialized RX6, .code yX6_records cX6_records 2 none, .fieldLink RX6 55 "FenceHandshakesModel" "stateMany" "I", .fieldLink RX6 16 "FenceHandshakesModel" "states" "[I", .methodLink RX6 95 yX6_openMany, .instanceMethod yX6_openMany, .selects RX6 yX6_openMany yX6_openMany, .code yX6_openMany cX6_openMany 3 (some .int)] ++ wsX60)
def wsX6_ofTwo : List Cond := .code yX6_ofTwo cX6_ofTwo 4 (some .int) :: ([.fieldLink RX6 7 "FenceHandshakesModel" "s" "[I", .methodLink RX6 68 yX6_isPossible, .instanceMethod yX6_isPossible, .selects RX6 yX6_isPossible yX6_isPossible, .initialized RX6, .code yX6_isPossible cX6_isPossible 3 (some .boolean), .methodLink RX6 62 yX6_isOpen, .instanceMethod yX6_isOpen, .selects RX6 yX6_isOpen yX6_isOpen, .code yX6_isOpen cX6_isOpen 3 (some .boolean), .methodLink RX6 65 yX6_canMeet, .instanceMethod yX6_canMeet, .selects RX6 yX6_canMeet yX6_canMeet, .code yX6_canMeet cX6_canMeet 3 (some .boolean), .methodLink RX6 58 yX6_areLinked, .instanceMethod yX6_areLinked, .selects RX6 yX6_areLinked yX6_areLinked, .code yX6_areLinked cX6_areLinked 3 (some .boolean)] ++ wsX60)
def wsX6_person_r1 : List Cond := [Cond.fieldLink RX6 43 "FenceHandshakesModel" "thrown" "I", Cond.fieldLink RX6 7 "FenceHandshakesModel" "s" "[I", Cond.methodLink RX6 51 yX6_isPerson, Cond.static yX6_isPerson, Cond.initialized RX6, Cond.code yX6_isPerson cX6_isPerson 1 (some .boolean), Cond.methodLink RX6 47 yX6_in, Cond.static yX6_in, Cond.code yX6_in cX6_in 3 (some .boolean), Cond.methodLink RX6 138 yX6_ofTwo, Cond.instanceMethod yX6_ofTwo, Cond.selects RX6 yX6_ofTwo yX6_ofTwo, Cond.code yX6_ofTwo cX6_ofTwo 4 (some .int), Cond.methodLink RX6 68 yX6_isPossible, Cond.instanceMethod yX6_isPossible, Cond.selects RX6 yX6_isPossible yX6_isPossible, Cond.code yX6_isPossible cX6_isPossible 3 (some .boolean), Cond.methodLink RX6 62 yX6_isOpen, Cond.instanceMethod yX6_isOpen, Cond.selects RX6 yX6_isOpen yX6_isOpen, Cond.code yX6_isOpen cX6_isOpen 3 (some .boolean), Cond.methodLink RX6 65 yX6_canMeet, Cond.instanceMethod yX6_canMeet, Cond.selects RX6 yX6_canMeet yX6_canMeet]
def wsX6_person_r2 : List Cond := [Cond.code yX6_canMeet cX6_canMeet 3 (some .boolean), Cond.methodLink RX6 58 yX6_areLinked, Cond.instanceMethod yX6_areLinked, Cond.selects RX6 yX6_areLinked yX6_areLinked, Cond.code yX6_areLinked cX6_areLinked 3 (some .boolean)]
def wsX6_person : List Cond := .code yX6_person cX6_person 7 (some .int) :: ((wsX6_person_r1 ++ wsX6_person_r2) ++ wsX60)
def wsX6_why_r1 : List Cond := [Cond.fieldLink RX6 7 "FenceHandshakesModel" "s" "[I", Cond.fieldLink RX6 31 "FenceHandshakesModel" "partners" "[I", Cond.methodLink RX6 62 yX6_isOpen, Cond.instanceMethod yX6_isOpen, Cond.selects RX6 yX6_isOpen yX6_isOpen, Cond.initialized RX6, Cond.code yX6_isOpen cX6_isOpen 3 (some .boolean), Cond.methodLink RX6 58 yX6_areLinked, Cond.instanceMethod yX6_areLinked, Cond.selects RX6 yX6_areLinked yX6_areLinked, Cond.code yX6_areLinked cX6_areLinked 3 (some .boolean), Cond.methodLink RX6 101 yX6_matches, Cond.instanceMethod yX6_matches, Cond.selects RX6 yX6_matches yX6_matches, Cond.code yX6_matches cX6_matches 4 (some .int), Cond.methodLink RX6 78 yX6_findsCan, Cond.instanceMethod yX6_findsCan, Cond.selects RX6 yX6_findsCan yX6_findsCan, Cond.code yX6_findsCan cX6_findsCan 4 none, Cond.fieldLink RX6 25 "FenceHandshakesModel" "can" "[I", Cond.methodLink RX6 68 yX6_isPossible, Cond.instanceMethod yX6_isPossible, Cond.selects RX6 yX6_isPossible yX6_isPossible, Cond.code yX6_isPossible cX6_isPossible 3 (some .boolean)]
def wsX6_why_r2 : List Cond := [Cond.methodLink RX6 65 yX6_canMeet, Cond.instanceMethod yX6_canMeet, Cond.selects RX6 yX6_canMeet yX6_canMeet, Cond.code yX6_canMeet cX6_canMeet 3 (some .boolean), Cond.methodLink RX6 82 yX6_fills, Cond.instanceMethod yX6_fills, Cond.selects RX6 yX6_fills yX6_fills, Cond.code yX6_fills cX6_fills 3 (some .int), Cond.fieldLink RX6 28 "FenceHandshakesModel" "sizes" "[I", Cond.methodLink RX6 75 yX6_bestFor, Cond.instanceMethod yX6_bestFor, Cond.selects RX6 yX6_bestFor yX6_bestFor, Cond.code yX6_bestFor cX6_bestFor 6 (some .int), Cond.methodLink RX6 71 yX6_sizeOf, Cond.instanceMethod yX6_sizeOf, Cond.selects RX6 yX6_sizeOf yX6_sizeOf, Cond.code yX6_sizeOf cX6_sizeOf 3 (some .int), Cond.methodLink RX6 86 yX6_firstFor, Cond.instanceMethod yX6_firstFor, Cond.selects RX6 yX6_firstFor yX6_firstFor, Cond.code yX6_firstFor cX6_firstFor 5 (some .int)]
def wsX6_why : List Cond := .code yX6_why cX6_why 3 (some .int) :: ((wsX6_why_r1 ++ wsX6_why_r2) ++ wsX60)
def wsX6_pair_r1 : List Cond := [Cond.fieldLink RX6 43 "FenceHandshakesModel" "thrown" "I", Cond.fieldLink RX6 7 "FenceHandshakesModel" "s" "[I", Cond.methodLink RX6 89 yX6_isPair, Cond.static yX6_isPair, Cond.initialized RX6, Cond.code yX6_isPair cX6_isPair 2 (some .boolean), Cond.methodLink RX6 51 yX6_isPerson, Cond.static yX6_isPerson, Cond.code yX6_isPerson cX6_isPerson 1 (some .boolean), Cond.methodLink RX6 47 yX6_in, Cond.static yX6_in, Cond.code yX6_in cX6_in 3 (some .boolean), Cond.methodLink RX6 142 yX6_why, Cond.instanceMethod yX6_why, Cond.selects RX6 yX6_why yX6_why, Cond.code yX6_why cX6_why 3 (some .int), Cond.fieldLink RX6 31 "FenceHandshakesModel" "partners" "[I", Cond.methodLink RX6 62 yX6_isOpen, Cond.instanceMethod yX6_isOpen, Cond.selects RX6 yX6_isOpen yX6_isOpen, Cond.code yX6_isOpen cX6_isOpen 3 (some .boolean), Cond.methodLink RX6 58 yX6_areLinked, Cond.instanceMethod yX6_areLinked, Cond.selects RX6 yX6_areLinked yX6_areLinked]
def wsX6_pair_r2 : List Cond := [Cond.code yX6_areLinked cX6_areLinked 3 (some .boolean), Cond.methodLink RX6 101 yX6_matches, Cond.instanceMethod yX6_matches, Cond.selects RX6 yX6_matches yX6_matches, Cond.code yX6_matches cX6_matches 4 (some .int), Cond.methodLink RX6 78 yX6_findsCan, Cond.instanceMethod yX6_findsCan, Cond.selects RX6 yX6_findsCan yX6_findsCan, Cond.code yX6_findsCan cX6_findsCan 4 none, Cond.fieldLink RX6 25 "FenceHandshakesModel" "can" "[I", Cond.methodLink RX6 68 yX6_isPossible, Cond.instanceMethod yX6_isPossible, Cond.selects RX6 yX6_isPossible yX6_isPossible, Cond.code yX6_isPossible cX6_isPossible 3 (some .boolean), Cond.methodLink RX6 65 yX6_canMeet, Cond.instanceMethod yX6_canMeet, Cond.selects RX6 yX6_canMeet yX6_canMeet, Cond.code yX6_canMeet cX6_canMeet 3 (some .boolean), Cond.methodLink RX6 82 yX6_fills, Cond.instanceMethod yX6_fills, Cond.selects RX6 yX6_fills yX6_fills, Cond.code yX6_fills cX6_fills 3 (some .int), Cond.fieldLink RX6 28 "FenceHandshakesModel" "sizes" "[I", Cond.methodLink RX6 75 yX6_bestFor]
def wsX6_pair_r3 : List Cond := [Cond.instanceMethod yX6_bestFor, Cond.selects RX6 yX6_bestFor yX6_bestFor, Cond.code yX6_bestFor cX6_bestFor 6 (some .int), Cond.methodLink RX6 71 yX6_sizeOf, Cond.instanceMethod yX6_sizeOf, Cond.selects RX6 yX6_sizeOf yX6_sizeOf, Cond.code yX6_sizeOf cX6_sizeOf 3 (some .int), Cond.methodLink RX6 86 yX6_firstFor, Cond.instanceMethod yX6_firstFor, Cond.selects RX6 yX6_firstFor yX6_firstFor, Cond.code yX6_firstFor cX6_firstFor 5 (some .int)]
def wsX6_pair : List Cond := .code yX6_pair cX6_pair 4 (some .int) :: ((wsX6_pair_r1 ++ (wsX6_pair_r2 ++ wsX6_pair_r3)) ++ wsX60)
def wsX6_isLinked : List Cond := .code yX6_isLinked cX6_isLinked 3 (some .int) :: ([.fieldLink RX6 43 "FenceHandshakesModel" "thrown" "I", .fieldLink RX6 7 "FenceHandshakesModel" "s" "[I", .methodLink RX6 98 yX6_isGate, .static yX6_isGate, .initialized RX6, .code yX6_isGate cX6_isGate 1 (some .boolean), .methodLink RX6 47 yX6_in, .static yX6_in, .code yX6_in cX6_in 3 (some .boolean)] ++ wsX60)
def wsX6_partner_r1 : List Cond := [Cond.fieldLink RX6 43 "FenceHandshakesModel" "thrown" "I", Cond.fieldLink RX6 31 "FenceHandshakesModel" "partners" "[I", Cond.methodLink RX6 51 yX6_isPerson, Cond.static yX6_isPerson, Cond.initialized RX6, Cond.code yX6_isPerson cX6_isPerson 1 (some .boolean), Cond.methodLink RX6 47 yX6_in, Cond.static yX6_in, Cond.code yX6_in cX6_in 3 (some .boolean), Cond.methodLink RX6 101 yX6_matches, Cond.instanceMethod yX6_matches, Cond.selects RX6 yX6_matches yX6_matches, Cond.code yX6_matches cX6_matches 4 (some .int), Cond.methodLink RX6 78 yX6_findsCan, Cond.instanceMethod yX6_findsCan, Cond.selects RX6 yX6_findsCan yX6_findsCan, Cond.code yX6_findsCan cX6_findsCan 4 none, Cond.fieldLink RX6 25 "FenceHandshakesModel" "can" "[I", Cond.methodLink RX6 68 yX6_isPossible, Cond.instanceMethod yX6_isPossible, Cond.selects RX6 yX6_isPossible yX6_isPossible, Cond.code yX6_isPossible cX6_isPossible 3 (some .boolean), Cond.methodLink RX6 62 yX6_isOpen, Cond.instanceMethod yX6_isOpen]
def wsX6_partner_r2 : List Cond := [Cond.selects RX6 yX6_isOpen yX6_isOpen, Cond.code yX6_isOpen cX6_isOpen 3 (some .boolean), Cond.fieldLink RX6 7 "FenceHandshakesModel" "s" "[I", Cond.methodLink RX6 65 yX6_canMeet, Cond.instanceMethod yX6_canMeet, Cond.selects RX6 yX6_canMeet yX6_canMeet, Cond.code yX6_canMeet cX6_canMeet 3 (some .boolean), Cond.methodLink RX6 58 yX6_areLinked, Cond.instanceMethod yX6_areLinked, Cond.selects RX6 yX6_areLinked yX6_areLinked, Cond.code yX6_areLinked cX6_areLinked 3 (some .boolean), Cond.methodLink RX6 82 yX6_fills, Cond.instanceMethod yX6_fills, Cond.selects RX6 yX6_fills yX6_fills, Cond.code yX6_fills cX6_fills 3 (some .int), Cond.fieldLink RX6 28 "FenceHandshakesModel" "sizes" "[I", Cond.methodLink RX6 75 yX6_bestFor, Cond.instanceMethod yX6_bestFor, Cond.selects RX6 yX6_bestFor yX6_bestFor, Cond.code yX6_bestFor cX6_bestFor 6 (some .int), Cond.methodLink RX6 71 yX6_sizeOf, Cond.instanceMethod yX6_sizeOf, Cond.selects RX6 yX6_sizeOf yX6_sizeOf, Cond.code yX6_sizeOf cX6_sizeOf 3 (some .int)]
def wsX6_partner_r3 : List Cond := [Cond.methodLink RX6 86 yX6_firstFor, Cond.instanceMethod yX6_firstFor, Cond.selects RX6 yX6_firstFor yX6_firstFor, Cond.code yX6_firstFor cX6_firstFor 5 (some .int)]
def wsX6_partner : List Cond := .code yX6_partner cX6_partner 5 (some .int) :: ((wsX6_partner_r1 ++ (wsX6_partner_r2 ++ wsX6_partner_r3)) ++ wsX60)
def wsX6_hindered_r1 : List Cond := [Cond.fieldLink RX6 43 "FenceHandshakesModel" "thrown" "I", Cond.fieldLink RX6 25 "FenceHandshakesModel" "can" "[I", Cond.methodLink RX6 101 yX6_matches, Cond.instanceMethod yX6_matches, Cond.selects RX6 yX6_matches yX6_matches, Cond.initialized RX6, Cond.code yX6_matches cX6_matches 4 (some .int), Cond.fieldLink RX6 31 "FenceHandshakesModel" "partners" "[I", Cond.methodLink RX6 78 yX6_findsCan, Cond.instanceMethod yX6_findsCan, Cond.selects RX6 yX6_findsCan yX6_findsCan, Cond.code yX6_findsCan cX6_findsCan 4 none, Cond.methodLink RX6 68 yX6_isPossible, Cond.instanceMethod yX6_isPossible, Cond.selects RX6 yX6_isPossible yX6_isPossible, Cond.code yX6_isPossible cX6_isPossible 3 (some .boolean), Cond.methodLink RX6 62 yX6_isOpen, Cond.instanceMethod yX6_isOpen, Cond.selects RX6 yX6_isOpen yX6_isOpen, Cond.code yX6_isOpen cX6_isOpen 3 (some .boolean), Cond.fieldLink RX6 7 "FenceHandshakesModel" "s" "[I", Cond.methodLink RX6 65 yX6_canMeet, Cond.instanceMethod yX6_canMeet, Cond.selects RX6 yX6_canMeet yX6_canMeet]
def wsX6_hindered_r2 : List Cond := [Cond.code yX6_canMeet cX6_canMeet 3 (some .boolean), Cond.methodLink RX6 58 yX6_areLinked, Cond.instanceMethod yX6_areLinked, Cond.selects RX6 yX6_areLinked yX6_areLinked, Cond.code yX6_areLinked cX6_areLinked 3 (some .boolean), Cond.methodLink RX6 82 yX6_fills, Cond.instanceMethod yX6_fills, Cond.selects RX6 yX6_fills yX6_fills, Cond.code yX6_fills cX6_fills 3 (some .int), Cond.fieldLink RX6 28 "FenceHandshakesModel" "sizes" "[I", Cond.methodLink RX6 75 yX6_bestFor, Cond.instanceMethod yX6_bestFor, Cond.selects RX6 yX6_bestFor yX6_bestFor, Cond.code yX6_bestFor cX6_bestFor 6 (some .int), Cond.methodLink RX6 71 yX6_sizeOf, Cond.instanceMethod yX6_sizeOf, Cond.selects RX6 yX6_sizeOf yX6_sizeOf, Cond.code yX6_sizeOf cX6_sizeOf 3 (some .int), Cond.methodLink RX6 86 yX6_firstFor, Cond.instanceMethod yX6_firstFor, Cond.selects RX6 yX6_firstFor yX6_firstFor, Cond.code yX6_firstFor cX6_firstFor 5 (some .int)]
def wsX6_hindered : List Cond := .code yX6_hindered cX6_hindered 5 (some .int) :: ((wsX6_hindered_r1 ++ wsX6_hindered_r2) ++ wsX60)
def wsX6_wishWith : List Cond := .code yX6_wishWith cX6_wishWith 6 (some .int) :: ([.fieldLink RX6 34 "FenceHandshakesModel" "numbers" "[I"] ++ wsX60)
def wsX6_leastFree : List Cond := .code yX6_leastFree cX6_leastFree 4 (some .int) :: ([.methodLink RX6 145 yX6_wishWith, .instanceMethod yX6_wishWith, .selects RX6 yX6_wishWith yX6_wishWith, .initialized RX6, .code yX6_wishWith cX6_wishWith 6 (some .int), .fieldLink RX6 34 "FenceHandshakesModel" "numbers" "[I"] ++ wsX60)
def wsX6_changes : List Cond := .code yX6_changes cX6_changes 10 none :: ([.fieldLink RX6 37 "FenceHandshakesModel" "path" "[I", .fieldLink RX6 34 "FenceHandshakesModel" "numbers" "[I", .methodLink RX6 145 yX6_wishWith, .instanceMethod yX6_wishWith, .selects RX6 yX6_wishWith yX6_wishWith, .initialized RX6, .code yX6_wishWith cX6_wishWith 6 (some .int)] ++ wsX60)
def wsX6_plans_r1 : List Cond := [Cond.fieldLink RX6 34 "FenceHandshakesModel" "numbers" "[I", Cond.methodLink RX6 68 yX6_isPossible, Cond.instanceMethod yX6_isPossible, Cond.selects RX6 yX6_isPossible yX6_isPossible, Cond.initialized RX6, Cond.code yX6_isPossible cX6_isPossible 3 (some .boolean), Cond.methodLink RX6 62 yX6_isOpen, Cond.instanceMethod yX6_isOpen, Cond.selects RX6 yX6_isOpen yX6_isOpen, Cond.code yX6_isOpen cX6_isOpen 3 (some .boolean), Cond.fieldLink RX6 7 "FenceHandshakesModel" "s" "[I", Cond.methodLink RX6 65 yX6_canMeet, Cond.instanceMethod yX6_canMeet, Cond.selects RX6 yX6_canMeet yX6_canMeet, Cond.code yX6_canMeet cX6_canMeet 3 (some .boolean), Cond.methodLink RX6 58 yX6_areLinked, Cond.instanceMethod yX6_areLinked, Cond.selects RX6 yX6_areLinked yX6_areLinked, Cond.code yX6_areLinked cX6_areLinked 3 (some .boolean), Cond.methodLink RX6 149 yX6_leastFree, Cond.instanceMethod yX6_leastFree, Cond.selects RX6 yX6_leastFree yX6_leastFree, Cond.code yX6_leastFree cX6_leastFree 4 (some .int), Cond.methodLink RX6 145 yX6_wishWith]
def wsX6_plans_r2 : List Cond := [Cond.instanceMethod yX6_wishWith, Cond.selects RX6 yX6_wishWith yX6_wishWith, Cond.code yX6_wishWith cX6_wishWith 6 (some .int), Cond.methodLink RX6 153 yX6_changes, Cond.instanceMethod yX6_changes, Cond.selects RX6 yX6_changes yX6_changes, Cond.code yX6_changes cX6_changes 10 none, Cond.fieldLink RX6 37 "FenceHandshakesModel" "path" "[I"]
def wsX6_plans : List Cond := .code yX6_plans cX6_plans 5 none :: ((wsX6_plans_r1 ++ wsX6_plans_r2) ++ wsX60)
def wsX6_planned_r1 : List Cond := [Cond.fieldLink RX6 43 "FenceHandshakesModel" "thrown" "I", Cond.fieldLink RX6 34 "FenceHandshakesModel" "numbers" "[I", Cond.methodLink RX6 89 yX6_isPair, Cond.static yX6_isPair, Cond.initialized RX6, Cond.code yX6_isPair cX6_isPair 2 (some .boolean), Cond.methodLink RX6 51 yX6_isPerson, Cond.static yX6_isPerson, Cond.code yX6_isPerson cX6_isPerson 1 (some .boolean), Cond.methodLink RX6 47 yX6_in, Cond.static yX6_in, Cond.code yX6_in cX6_in 3 (some .boolean), Cond.methodLink RX6 157 yX6_plans, Cond.instanceMethod yX6_plans, Cond.selects RX6 yX6_plans yX6_plans, Cond.code yX6_plans cX6_plans 5 none, Cond.methodLink RX6 68 yX6_isPossible, Cond.instanceMethod yX6_isPossible, Cond.selects RX6 yX6_isPossible yX6_isPossible, Cond.code yX6_isPossible cX6_isPossible 3 (some .boolean), Cond.methodLink RX6 62 yX6_isOpen, Cond.instanceMethod yX6_isOpen, Cond.selects RX6 yX6_isOpen yX6_isOpen, Cond.code yX6_isOpen cX6_isOpen 3 (some .boolean)]
def wsX6_planned_r2 : List Cond := [Cond.fieldLink RX6 7 "FenceHandshakesModel" "s" "[I", Cond.methodLink RX6 65 yX6_canMeet, Cond.instanceMethod yX6_canMeet, Cond.selects RX6 yX6_canMeet yX6_canMeet, Cond.code yX6_canMeet cX6_canMeet 3 (some .boolean), Cond.methodLink RX6 58 yX6_areLinked, Cond.instanceMethod yX6_areLinked, Cond.selects RX6 yX6_areLinked yX6_areLinked, Cond.code yX6_areLinked cX6_areLinked 3 (some .boolean), Cond.methodLink RX6 149 yX6_leastFree, Cond.instanceMethod yX6_leastFree, Cond.selects RX6 yX6_leastFree yX6_leastFree, Cond.code yX6_leastFree cX6_leastFree 4 (some .int), Cond.methodLink RX6 145 yX6_wishWith, Cond.instanceMethod yX6_wishWith, Cond.selects RX6 yX6_wishWith yX6_wishWith, Cond.code yX6_wishWith cX6_wishWith 6 (some .int), Cond.methodLink RX6 153 yX6_changes, Cond.instanceMethod yX6_changes, Cond.selects RX6 yX6_changes yX6_changes, Cond.code yX6_changes cX6_changes 10 none, Cond.fieldLink RX6 37 "FenceHandshakesModel" "path" "[I"]
def wsX6_planned : List Cond := .code yX6_planned cX6_planned 3 (some .int) :: ((wsX6_planned_r1 ++ wsX6_planned_r2) ++ wsX60)
def wsX6_possibleMany : List Cond := .code yX6_possibleMany cX6_possibleMany 3 (some .int) :: ([.methodLink RX6 68 yX6_isPossible, .instanceMethod yX6_isPossible, .selects RX6 yX6_isPossible yX6_isPossible, .initialized RX6, .code yX6_isPossible cX6_isPossible 3 (some .boolean), .methodLink RX6 62 yX6_isOpen, .instanceMethod yX6_isOpen, .selects RX6 yX6_isOpen yX6_isOpen, .code yX6_isOpen cX6_isOpen 3 (some .boolean), .fieldLink RX6 7 "FenceHandshakesModel" "s" "[I", .methodLink RX6 65 yX6_canMeet, .instanceMethod yX6_canMeet, .selects RX6 yX6_canMeet yX6_canMeet, .code yX6_canMeet cX6_canMeet 3 (some .boolean), .methodLink RX6 58 yX6_areLinked, .instanceMethod yX6_areLinked, .selects RX6 yX6_areLinked yX6_areLinked, .code yX6_areLinked cX6_areLinked 3 (some .boolean)] ++ wsX60)
def wsX6_feuds : List Cond := .code yX6_feuds cX6_feuds 3 (some .int) :: ([.fieldLink RX6 7 "FenceHandshakesModel" "s" "[I"] ++ wsX60)
def wsX6_links : List Cond := .code yX6_links cX6_links 3 (some .int) :: ([.fieldLink RX6 7 "FenceHandshakesModel" "s" "[I"] ++ wsX60)
def wsX6_shaken : List Cond := .code yX6_shaken cX6_shaken 3 (some .int) :: ([.fieldLink RX6 7 "FenceHandshakesModel" "s" "[I"] ++ wsX60)
def wsX6_greatest : List Cond := .code yX6_greatest cX6_greatest 6 (some .int) :: ([.methodLink RX6 68 yX6_isPossible, .instanceMethod yX6_isPossible, .selects RX6 yX6_isPossible yX6_isPossible, .initialized RX6, .code yX6_isPossible cX6_isPossible 3 (some .boolean), .methodLink RX6 62 yX6_isOpen, .instanceMethod yX6_isOpen, .selects RX6 yX6_isOpen yX6_isOpen, .code yX6_isOpen cX6_isOpen 3 (some .boolean), .fieldLink RX6 7 "FenceHandshakesModel" "s" "[I", .methodLink RX6 65 yX6_canMeet, .instanceMethod yX6_canMeet, .selects RX6 yX6_canMeet yX6_canMeet, .code yX6_canMeet cX6_canMeet 3 (some .boolean), .methodLink RX6 58 yX6_areLinked, .instanceMethod yX6_areLinked, .selects RX6 yX6_areLinked yX6_areLinked, .code yX6_areLinked cX6_areLinked 3 (some .boolean)] ++ wsX60)
def wsX6_count_r1 : List Cond := [Cond.fieldLink RX6 43 "FenceHandshakesModel" "thrown" "I", Cond.fieldLink RX6 7 "FenceHandshakesModel" "s" "[I", Cond.fieldLink RX6 55 "FenceHandshakesModel" "stateMany" "I", Cond.fieldLink RX6 107 "FenceHandshakesModel" "length" "I", Cond.methodLink RX6 95 yX6_openMany, Cond.instanceMethod yX6_openMany, Cond.selects RX6 yX6_openMany yX6_openMany, Cond.initialized RX6, Cond.code yX6_openMany cX6_openMany 3 (some .int), Cond.methodLink RX6 160 yX6_possibleMany, Cond.instanceMethod yX6_possibleMany, Cond.selects RX6 yX6_possibleMany yX6_possibleMany, Cond.code yX6_possibleMany cX6_possibleMany 3 (some .int), Cond.methodLink RX6 68 yX6_isPossible, Cond.instanceMethod yX6_isPossible, Cond.selects RX6 yX6_isPossible yX6_isPossible, Cond.code yX6_isPossible cX6_isPossible 3 (some .boolean), Cond.methodLink RX6 62 yX6_isOpen, Cond.instanceMethod yX6_isOpen, Cond.selects RX6 yX6_isOpen yX6_isOpen, Cond.code yX6_isOpen cX6_isOpen 3 (some .boolean), Cond.methodLink RX6 65 yX6_canMeet, Cond.instanceMethod yX6_canMeet, Cond.selects RX6 yX6_canMeet yX6_canMeet]
def wsX6_count_r2 : List Cond := [Cond.code yX6_canMeet cX6_canMeet 3 (some .boolean), Cond.methodLink RX6 58 yX6_areLinked, Cond.instanceMethod yX6_areLinked, Cond.selects RX6 yX6_areLinked yX6_areLinked, Cond.code yX6_areLinked cX6_areLinked 3 (some .boolean), Cond.methodLink RX6 163 yX6_feuds, Cond.instanceMethod yX6_feuds, Cond.selects RX6 yX6_feuds yX6_feuds, Cond.code yX6_feuds cX6_feuds 3 (some .int), Cond.methodLink RX6 166 yX6_links, Cond.instanceMethod yX6_links, Cond.selects RX6 yX6_links yX6_links, Cond.code yX6_links cX6_links 3 (some .int), Cond.methodLink RX6 169 yX6_shaken, Cond.instanceMethod yX6_shaken, Cond.selects RX6 yX6_shaken yX6_shaken, Cond.code yX6_shaken cX6_shaken 3 (some .int), Cond.methodLink RX6 101 yX6_matches, Cond.instanceMethod yX6_matches, Cond.selects RX6 yX6_matches yX6_matches, Cond.code yX6_matches cX6_matches 4 (some .int), Cond.fieldLink RX6 31 "FenceHandshakesModel" "partners" "[I", Cond.methodLink RX6 78 yX6_findsCan, Cond.instanceMethod yX6_findsCan]
def wsX6_count_r3 : List Cond := [Cond.selects RX6 yX6_findsCan yX6_findsCan, Cond.code yX6_findsCan cX6_findsCan 4 none, Cond.fieldLink RX6 25 "FenceHandshakesModel" "can" "[I", Cond.methodLink RX6 82 yX6_fills, Cond.instanceMethod yX6_fills, Cond.selects RX6 yX6_fills yX6_fills, Cond.code yX6_fills cX6_fills 3 (some .int), Cond.fieldLink RX6 28 "FenceHandshakesModel" "sizes" "[I", Cond.methodLink RX6 75 yX6_bestFor, Cond.instanceMethod yX6_bestFor, Cond.selects RX6 yX6_bestFor yX6_bestFor, Cond.code yX6_bestFor cX6_bestFor 6 (some .int), Cond.methodLink RX6 71 yX6_sizeOf, Cond.instanceMethod yX6_sizeOf, Cond.selects RX6 yX6_sizeOf yX6_sizeOf, Cond.code yX6_sizeOf cX6_sizeOf 3 (some .int), Cond.methodLink RX6 86 yX6_firstFor, Cond.instanceMethod yX6_firstFor, Cond.selects RX6 yX6_firstFor yX6_firstFor, Cond.code yX6_firstFor cX6_firstFor 5 (some .int), Cond.methodLink RX6 172 yX6_greatest, Cond.instanceMethod yX6_greatest, Cond.selects RX6 yX6_greatest yX6_greatest, Cond.code yX6_greatest cX6_greatest 6 (some .int)]
def wsX6_count : List Cond := .code yX6_count cX6_count 2 (some .int) :: ((wsX6_count_r1 ++ (wsX6_count_r2 ++ wsX6_count_r3)) ++ wsX60)
def wsX6_doneIn_r1 : List Cond := [Cond.fieldLink RX6 43 "FenceHandshakesModel" "thrown" "I", Cond.methodLink RX6 175 yX6_putAside, Cond.instanceMethod yX6_putAside, Cond.selects RX6 yX6_putAside yX6_putAside, Cond.initialized RX6, Cond.code yX6_putAside cX6_putAside 2 none, Cond.fieldLink RX6 13 "FenceHandshakesModel" "aside" "[I", Cond.fieldLink RX6 7 "FenceHandshakesModel" "s" "[I", Cond.methodLink RX6 95 yX6_openMany, Cond.instanceMethod yX6_openMany, Cond.selects RX6 yX6_openMany yX6_openMany, Cond.code yX6_openMany cX6_openMany 3 (some .int), Cond.methodLink RX6 104 yX6_shakes, Cond.instanceMethod yX6_shakes, Cond.selects RX6 yX6_shakes yX6_shakes, Cond.code yX6_shakes cX6_shakes 3 (some .int), Cond.fieldLink RX6 31 "FenceHandshakesModel" "partners" "[I", Cond.methodLink RX6 101 yX6_matches, Cond.instanceMethod yX6_matches, Cond.selects RX6 yX6_matches yX6_matches, Cond.code yX6_matches cX6_matches 4 (some .int), Cond.methodLink RX6 78 yX6_findsCan, Cond.instanceMethod yX6_findsCan, Cond.selects RX6 yX6_findsCan yX6_findsCan]
def wsX6_doneIn_r2 : List Cond := [Cond.code yX6_findsCan cX6_findsCan 4 none, Cond.fieldLink RX6 25 "FenceHandshakesModel" "can" "[I", Cond.methodLink RX6 68 yX6_isPossible, Cond.instanceMethod yX6_isPossible, Cond.selects RX6 yX6_isPossible yX6_isPossible, Cond.code yX6_isPossible cX6_isPossible 3 (some .boolean), Cond.methodLink RX6 62 yX6_isOpen, Cond.instanceMethod yX6_isOpen, Cond.selects RX6 yX6_isOpen yX6_isOpen, Cond.code yX6_isOpen cX6_isOpen 3 (some .boolean), Cond.methodLink RX6 65 yX6_canMeet, Cond.instanceMethod yX6_canMeet, Cond.selects RX6 yX6_canMeet yX6_canMeet, Cond.code yX6_canMeet cX6_canMeet 3 (some .boolean), Cond.methodLink RX6 58 yX6_areLinked, Cond.instanceMethod yX6_areLinked, Cond.selects RX6 yX6_areLinked yX6_areLinked, Cond.code yX6_areLinked cX6_areLinked 3 (some .boolean), Cond.methodLink RX6 82 yX6_fills, Cond.instanceMethod yX6_fills, Cond.selects RX6 yX6_fills yX6_fills, Cond.code yX6_fills cX6_fills 3 (some .int), Cond.fieldLink RX6 28 "FenceHandshakesModel" "sizes" "[I", Cond.methodLink RX6 75 yX6_bestFor]
def wsX6_doneIn_r3 : List Cond := [Cond.instanceMethod yX6_bestFor, Cond.selects RX6 yX6_bestFor yX6_bestFor, Cond.code yX6_bestFor cX6_bestFor 6 (some .int), Cond.methodLink RX6 71 yX6_sizeOf, Cond.instanceMethod yX6_sizeOf, Cond.selects RX6 yX6_sizeOf yX6_sizeOf, Cond.code yX6_sizeOf cX6_sizeOf 3 (some .int), Cond.methodLink RX6 86 yX6_firstFor, Cond.instanceMethod yX6_firstFor, Cond.selects RX6 yX6_firstFor yX6_firstFor, Cond.code yX6_firstFor cX6_firstFor 5 (some .int), Cond.methodLink RX6 178 yX6_takeBack, Cond.instanceMethod yX6_takeBack, Cond.selects RX6 yX6_takeBack yX6_takeBack, Cond.code yX6_takeBack cX6_takeBack 2 none]
def wsX6_doneIn : List Cond := .code yX6_doneIn cX6_doneIn 3 (some .int) :: ((wsX6_doneIn_r1 ++ (wsX6_doneIn_r2 ++ wsX6_doneIn_r3)) ++ wsX60)
def wsX6_bestLink_r1 : List Cond := [Cond.fieldLink RX6 43 "FenceHandshakesModel" "thrown" "I", Cond.fieldLink RX6 7 "FenceHandshakesModel" "s" "[I", Cond.methodLink RX6 101 yX6_matches, Cond.instanceMethod yX6_matches, Cond.selects RX6 yX6_matches yX6_matches, Cond.initialized RX6, Cond.code yX6_matches cX6_matches 4 (some .int), Cond.fieldLink RX6 31 "FenceHandshakesModel" "partners" "[I", Cond.methodLink RX6 78 yX6_findsCan, Cond.instanceMethod yX6_findsCan, Cond.selects RX6 yX6_findsCan yX6_findsCan, Cond.code yX6_findsCan cX6_findsCan 4 none, Cond.fieldLink RX6 25 "FenceHandshakesModel" "can" "[I", Cond.methodLink RX6 68 yX6_isPossible, Cond.instanceMethod yX6_isPossible, Cond.selects RX6 yX6_isPossible yX6_isPossible, Cond.code yX6_isPossible cX6_isPossible 3 (some .boolean), Cond.methodLink RX6 62 yX6_isOpen, Cond.instanceMethod yX6_isOpen, Cond.selects RX6 yX6_isOpen yX6_isOpen, Cond.code yX6_isOpen cX6_isOpen 3 (some .boolean), Cond.methodLink RX6 65 yX6_canMeet, Cond.instanceMethod yX6_canMeet, Cond.selects RX6 yX6_canMeet yX6_canMeet]
def wsX6_bestLink_r2 : List Cond := [Cond.code yX6_canMeet cX6_canMeet 3 (some .boolean), Cond.methodLink RX6 58 yX6_areLinked, Cond.instanceMethod yX6_areLinked, Cond.selects RX6 yX6_areLinked yX6_areLinked, Cond.code yX6_areLinked cX6_areLinked 3 (some .boolean), Cond.methodLink RX6 82 yX6_fills, Cond.instanceMethod yX6_fills, Cond.selects RX6 yX6_fills yX6_fills, Cond.code yX6_fills cX6_fills 3 (some .int), Cond.fieldLink RX6 28 "FenceHandshakesModel" "sizes" "[I", Cond.methodLink RX6 75 yX6_bestFor, Cond.instanceMethod yX6_bestFor, Cond.selects RX6 yX6_bestFor yX6_bestFor, Cond.code yX6_bestFor cX6_bestFor 6 (some .int), Cond.methodLink RX6 71 yX6_sizeOf, Cond.instanceMethod yX6_sizeOf, Cond.selects RX6 yX6_sizeOf yX6_sizeOf, Cond.code yX6_sizeOf cX6_sizeOf 3 (some .int), Cond.methodLink RX6 86 yX6_firstFor, Cond.instanceMethod yX6_firstFor, Cond.selects RX6 yX6_firstFor yX6_firstFor, Cond.code yX6_firstFor cX6_firstFor 5 (some .int)]
def wsX6_bestLink : List Cond := .code yX6_bestLink cX6_bestLink 5 (some .int) :: ((wsX6_bestLink_r1 ++ wsX6_bestLink_r2) ++ wsX60)
def wsX6_mean : List Cond := .code yX6_mean cX6_mean 1 (some .double) :: ([.fieldLink RX6 43 "FenceHandshakesModel" "thrown" "I", .fieldLink RX6 7 "FenceHandshakesModel" "s" "[I", .methodLink RX6 169 yX6_shaken, .instanceMethod yX6_shaken, .selects RX6 yX6_shaken yX6_shaken, .initialized RX6, .code yX6_shaken cX6_shaken 3 (some .int)] ++ wsX60)
def wsJ9_max_7cf53 : List Cond := .code yJ9_max_7cf53 cJ9_max_7cf53 2 (some .int) :: ([])
def wsL_law_r1 : List Cond := [Cond.classLink RL 7 RX5, Cond.instantiable RX5 8, Cond.initialized RX5, Cond.classLink RL 10 RX6, Cond.instantiable RX6 18, Cond.initialized RX6, Cond.methodLink RL 9 yX5_init, Cond.instanceMethod yX5_init, Cond.code yX5_init cX5_init 1 none, Cond.methodLink RX5 3 objectInit, Cond.instanceMethod objectInit, Cond.code objectInit ⟨#[0xb1]⟩ 1 none, Cond.classLink RX5 9 RX0, Cond.instantiable RX0 1, Cond.initialized RX0, Cond.fieldLink RX5 12 "FenceHandshakes" "now" "LFenceHandshakes$Clans;", Cond.fieldLink RX5 16 "FenceHandshakes" "trial" "LFenceHandshakes$Clans;", Cond.fieldLink RX5 19 "FenceHandshakes" "snapshot" "LFenceHandshakes$Clans;", Cond.classLink RX5 22 RX1, Cond.instantiable RX1 3, Cond.initialized RX1, Cond.fieldLink RX5 25 "FenceHandshakes" "history" "LFenceHandshakes$History;", Cond.classLink RX5 29 RX4, Cond.instantiable RX4 6]
def wsL_law_r2 : List Cond := [Cond.initialized RX4, Cond.fieldLink RX5 32 "FenceHandshakes" "text" "LFenceHandshakes$WishText;", Cond.classLink RX5 36 RX2, Cond.instantiable RX2 5, Cond.initialized RX2, Cond.fieldLink RX5 39 "FenceHandshakes" "matching" "LFenceHandshakes$Matching;", Cond.classLink RX5 43 RX3, Cond.instantiable RX3 1, Cond.initialized RX3, Cond.fieldLink RX5 46 "FenceHandshakes" "plan" "LFenceHandshakes$Plan;", Cond.fieldLink RX5 50 "FenceHandshakes" "hasSnapshot" "Z", Cond.methodLink RX5 11 yX0_init, Cond.instanceMethod yX0_init, Cond.code yX0_init cX0_init 2 none, Cond.methodLink RX0 5 objectInit, Cond.arrayClass .int, Cond.fieldLink RX0 11 "FenceHandshakes$Clans" "cells" "[I", Cond.instanceMethod yX1_init, Cond.code yX1_init cX1_init 1 none, Cond.methodLink RX1 3 objectInit, Cond.fieldLink RX1 11 "FenceHandshakes$History" "rows" "[I", Cond.instanceMethod yX4_init, Cond.code yX4_init cX4_init 1 none, Cond.methodLink RX4 3 objectInit]
def wsL_law_r3 : List Cond := [Cond.arrayClass .char, Cond.fieldLink RX4 9 "FenceHandshakes$WishText" "signs" "[C", Cond.fieldLink RX4 15 "FenceHandshakes$WishText" "rows" "[I", Cond.instanceMethod yX2_init, Cond.code yX2_init cX2_init 1 none, Cond.methodLink RX2 3 objectInit, Cond.fieldLink RX2 9 "FenceHandshakes$Matching" "wished" "[I", Cond.fieldLink RX2 15 "FenceHandshakes$Matching" "ofLeft" "[I", Cond.fieldLink RX2 18 "FenceHandshakes$Matching" "ofRight" "[I", Cond.fieldLink RX2 21 "FenceHandshakes$Matching" "seenFrom" "[I", Cond.instanceMethod yX3_init, Cond.code yX3_init cX3_init 1 none, Cond.methodLink RX3 3 objectInit, Cond.fieldLink RX3 9 "FenceHandshakes$Plan" "numbers" "[I", Cond.methodLink RL 12 yX6_init, Cond.instanceMethod yX6_init, Cond.code yX6_init cX6_init 2 none, Cond.methodLink RX6 1 objectInit, Cond.fieldLink RX6 7 "FenceHandshakesModel" "s" "[I", Cond.fieldLink RX6 13 "FenceHandshakesModel" "aside" "[I", Cond.fieldLink RX6 16 "FenceHandshakesModel" "states" "[I", Cond.fieldLink RX6 19 "FenceHandshakesModel" "snapshot" "[I", Cond.fieldLink RX6 22 "FenceHandshakesModel" "text" "[I", Cond.fieldLink RX6 25 "FenceHandshakesModel" "can" "[I"]
def wsL_law_r4 : List Cond := [Cond.fieldLink RX6 28 "FenceHandshakesModel" "sizes" "[I", Cond.fieldLink RX6 31 "FenceHandshakesModel" "partners" "[I", Cond.fieldLink RX6 34 "FenceHandshakesModel" "numbers" "[I", Cond.fieldLink RX6 37 "FenceHandshakesModel" "path" "[I", Cond.fieldLink RX6 40 "FenceHandshakesModel" "read" "[I", Cond.fieldLink RX6 43 "FenceHandshakesModel" "thrown" "I", Cond.methodLink RL 13 yX5_wish, Cond.instanceMethod yX5_wish, Cond.selects RX5 yX5_wish yX5_wish, Cond.code yX5_wish cX5_wish 3 (some .int), Cond.methodLink RX5 54 yX5_arePeople, Cond.static yX5_arePeople, Cond.code yX5_arePeople cX5_arePeople 2 (some .boolean), Cond.methodLink RX5 99 yX5_isPerson, Cond.static yX5_isPerson, Cond.code yX5_isPerson cX5_isPerson 1 (some .boolean), Cond.methodLink RX5 58 yX0_hasWish, Cond.instanceMethod yX0_hasWish, Cond.selects RX0 yX0_hasWish yX0_hasWish, Cond.code yX0_hasWish cX0_hasWish 3 (some .boolean), Cond.static yX5_hasBit, Cond.code yX5_hasBit cX5_hasBit 2 (some .boolean), Cond.methodLink RX5 61 yX1_keep, Cond.instanceMethod yX1_keep]
def wsL_law_r5 : List Cond := [Cond.selects RX1 yX1_keep yX1_keep, Cond.code yX1_keep cX1_keep 2 none, Cond.fieldLink RX1 17 "FenceHandshakes$History" "size" "I", Cond.fieldLink RX1 21 "FenceHandshakes$History" "oldest" "I", Cond.methodLink RX1 31 arraycopyName, Cond.native arraycopyName, Cond.static arraycopyName, Cond.initialized "java/lang/System", Cond.methodLink RX1 27 yX1_startOfRow, Cond.instanceMethod yX1_startOfRow, Cond.selects RX1 yX1_startOfRow yX1_startOfRow, Cond.code yX1_startOfRow cX1_startOfRow 2 (some .int), Cond.methodLink RX5 65 yX0_openWish, Cond.instanceMethod yX0_openWish, Cond.selects RX0 yX0_openWish yX0_openWish, Cond.code yX0_openWish cX0_openWish 3 none, Cond.methodLink RX0 25 yX0_openWishes, Cond.instanceMethod yX0_openWishes, Cond.selects RX0 yX0_openWishes yX0_openWishes, Cond.code yX0_openWishes cX0_openWishes 3 none, Cond.methodLink RX5 69 yX0_numberOfWishes, Cond.instanceMethod yX0_numberOfWishes, Cond.selects RX0 yX0_numberOfWishes yX0_numberOfWishes, Cond.code yX0_numberOfWishes cX0_numberOfWishes 3 (some .int)]
def wsL_law_r6 : List Cond := [Cond.methodLink RX0 29 yJ6_bitCount_0f7a4, Cond.static yJ6_bitCount_0f7a4, Cond.initialized RJ6, Cond.code yJ6_bitCount_0f7a4 cJ6_bitCount_0f7a4 1 (some .int), Cond.constant RJ6 265 (1431655765), Cond.constant RJ6 266 (858993459), Cond.constant RJ6 267 (252645135), Cond.methodLink RL 17 yX6_wish, Cond.instanceMethod yX6_wish, Cond.selects RX6 yX6_wish yX6_wish, Cond.code yX6_wish cX6_wish 3 (some .int), Cond.methodLink RX6 89 yX6_isPair, Cond.static yX6_isPair, Cond.code yX6_isPair cX6_isPair 2 (some .boolean), Cond.methodLink RX6 51 yX6_isPerson, Cond.static yX6_isPerson, Cond.code yX6_isPerson cX6_isPerson 1 (some .boolean), Cond.methodLink RX6 47 yX6_in, Cond.static yX6_in, Cond.code yX6_in cX6_in 3 (some .boolean), Cond.methodLink RX6 62 yX6_isOpen, Cond.instanceMethod yX6_isOpen, Cond.selects RX6 yX6_isOpen yX6_isOpen, Cond.code yX6_isOpen cX6_isOpen 3 (some .boolean)]
def wsL_law_r7 : List Cond := [Cond.methodLink RX6 92 yX6_records, Cond.instanceMethod yX6_records, Cond.selects RX6 yX6_records yX6_records, Cond.code yX6_records cX6_records 2 none, Cond.fieldLink RX6 55 "FenceHandshakesModel" "stateMany" "I", Cond.methodLink RX6 95 yX6_openMany, Cond.instanceMethod yX6_openMany, Cond.selects RX6 yX6_openMany yX6_openMany, Cond.code yX6_openMany cX6_openMany 3 (some .int), Cond.methodLink RL 18 yX5_withdraw, Cond.instanceMethod yX5_withdraw, Cond.selects RX5 yX5_withdraw yX5_withdraw, Cond.code yX5_withdraw cX5_withdraw 3 (some .int), Cond.methodLink RX5 73 yX0_closeWish, Cond.instanceMethod yX0_closeWish, Cond.selects RX0 yX0_closeWish yX0_closeWish, Cond.code yX0_closeWish cX0_closeWish 3 none, Cond.methodLink RL 21 yX6_withdraw, Cond.instanceMethod yX6_withdraw, Cond.selects RX6 yX6_withdraw yX6_withdraw, Cond.code yX6_withdraw cX6_withdraw 3 (some .int), Cond.methodLink RL 22 yX5_quarrel, Cond.instanceMethod yX5_quarrel, Cond.selects RX5 yX5_quarrel yX5_quarrel]
def wsL_law_r8 : List Cond := [Cond.code yX5_quarrel cX5_quarrel 5 (some .int), Cond.methodLink RX5 76 yX0_feudOf, Cond.instanceMethod yX0_feudOf, Cond.selects RX0 yX0_feudOf yX0_feudOf, Cond.code yX0_feudOf cX0_feudOf 3 (some .int), Cond.methodLink RX5 80 yX0_setFeud, Cond.instanceMethod yX0_setFeud, Cond.selects RX0 yX0_setFeud yX0_setFeud, Cond.code yX0_setFeud cX0_setFeud 4 none, Cond.methodLink RL 26 yX6_quarrel, Cond.instanceMethod yX6_quarrel, Cond.selects RX6 yX6_quarrel yX6_quarrel, Cond.code yX6_quarrel cX6_quarrel 5 (some .int), Cond.methodLink RL 27 yX5_reconcile, Cond.instanceMethod yX5_reconcile, Cond.selects RX5 yX5_reconcile yX5_reconcile, Cond.code yX5_reconcile cX5_reconcile 4 (some .int), Cond.methodLink RL 30 yX6_reconcile, Cond.instanceMethod yX6_reconcile, Cond.selects RX6 yX6_reconcile yX6_reconcile, Cond.code yX6_reconcile cX6_reconcile 4 (some .int), Cond.methodLink RL 31 yX5_link, Cond.instanceMethod yX5_link, Cond.selects RX5 yX5_link yX5_link]
def wsL_law_r9 : List Cond := [Cond.code yX5_link cX5_link 5 (some .int), Cond.methodLink RX5 84 yX5_isGate, Cond.static yX5_isGate, Cond.code yX5_isGate cX5_isGate 1 (some .boolean), Cond.methodLink RX5 88 yX0_areLinked, Cond.instanceMethod yX0_areLinked, Cond.selects RX0 yX0_areLinked yX0_areLinked, Cond.code yX0_areLinked cX0_areLinked 3 (some .boolean), Cond.methodLink RX5 91 yX5_asNumber, Cond.static yX5_asNumber, Cond.code yX5_asNumber cX5_asNumber 1 (some .int), Cond.methodLink RX5 95 yX0_setLinked, Cond.instanceMethod yX0_setLinked, Cond.selects RX0 yX0_setLinked yX0_setLinked, Cond.code yX0_setLinked cX0_setLinked 5 none, Cond.methodLink RL 35 yX6_link, Cond.instanceMethod yX6_link, Cond.selects RX6 yX6_link yX6_link, Cond.code yX6_link cX6_link 5 (some .int), Cond.methodLink RX6 98 yX6_isGate, Cond.static yX6_isGate, Cond.code yX6_isGate cX6_isGate 1 (some .boolean), Cond.methodLink RL 36 yX5_move, Cond.instanceMethod yX5_move]
def wsL_law_r10 : List Cond := [Cond.selects RX5 yX5_move yX5_move, Cond.code yX5_move cX5_move 5 (some .int), Cond.methodLink RX5 102 yX0_gateOf, Cond.instanceMethod yX0_gateOf, Cond.selects RX0 yX0_gateOf yX0_gateOf, Cond.code yX0_gateOf cX0_gateOf 3 (some .int), Cond.methodLink RX5 106 yX0_setGate, Cond.instanceMethod yX0_setGate, Cond.selects RX0 yX0_setGate yX0_setGate, Cond.code yX0_setGate cX0_setGate 4 none, Cond.methodLink RL 40 yX6_move, Cond.instanceMethod yX6_move, Cond.selects RX6 yX6_move yX6_move, Cond.code yX6_move cX6_move 6 (some .int), Cond.methodLink RL 41 yX5_round, Cond.instanceMethod yX5_round, Cond.selects RX5 yX5_round yX5_round, Cond.code yX5_round cX5_round 1 (some .int), Cond.methodLink RX5 110 yX5_makeRound, Cond.instanceMethod yX5_makeRound, Cond.selects RX5 yX5_makeRound yX5_makeRound, Cond.code yX5_makeRound cX5_makeRound 4 (some .int), Cond.methodLink RX5 160 yX2_takeFirst, Cond.instanceMethod yX2_takeFirst]
def wsL_law_r11 : List Cond := [Cond.selects RX2 yX2_takeFirst yX2_takeFirst, Cond.code yX2_takeFirst cX2_takeFirst 6 none, Cond.methodLink RX2 43 yX2_takeGreatest, Cond.instanceMethod yX2_takeGreatest, Cond.selects RX2 yX2_takeGreatest yX2_takeGreatest, Cond.code yX2_takeGreatest cX2_takeGreatest 4 none, Cond.methodLink RX2 28 yJ7_fill_53178, Cond.static yJ7_fill_53178, Cond.initialized RJ7, Cond.code yJ7_fill_53178 cJ7_fill_53178 4 none, Cond.methodLink RX2 34 yX0_isPossible, Cond.instanceMethod yX0_isPossible, Cond.selects RX0 yX0_isPossible yX0_isPossible, Cond.code yX0_isPossible cX0_isPossible 3 (some .boolean), Cond.methodLink RX0 42 yX0_hasWish, Cond.methodLink RX0 45 yX0_canMeet, Cond.instanceMethod yX0_canMeet, Cond.selects RX0 yX0_canMeet yX0_canMeet, Cond.code yX0_canMeet cX0_canMeet 3 (some .boolean), Cond.methodLink RX0 35 yX0_feudOf, Cond.methodLink RX0 39 yX0_areAtLinkedGates, Cond.instanceMethod yX0_areAtLinkedGates, Cond.selects RX0 yX0_areAtLinkedGates yX0_areAtLinkedGates, Cond.code yX0_areAtLinkedGates cX0_areAtLinkedGates 4 (some .boolean)]
def wsL_law_r12 : List Cond := [Cond.methodLink RX2 40 yX2_growsByOne, Cond.instanceMethod yX2_growsByOne, Cond.selects RX2 yX2_growsByOne yX2_growsByOne, Cond.code yX2_growsByOne cX2_growsByOne 7 (some .boolean), Cond.methodLink RX2 58 yX2_findFreeRight, Cond.instanceMethod yX2_findFreeRight, Cond.selects RX2 yX2_findFreeRight yX2_findFreeRight, Cond.code yX2_findFreeRight cX2_findFreeRight 8 (some .int), Cond.fieldLink RX2 62 "FenceHandshakes$Matching" "reachedLefts" "I", Cond.methodLink RX2 70 yX2_leftsWithoutPartner, Cond.instanceMethod yX2_leftsWithoutPartner, Cond.selects RX2 yX2_leftsWithoutPartner yX2_leftsWithoutPartner, Cond.code yX2_leftsWithoutPartner cX2_leftsWithoutPartner 4 (some .int), Cond.methodLink RX2 66 yX2_join, Cond.instanceMethod yX2_join, Cond.selects RX2 yX2_join yX2_join, Cond.code yX2_join cX2_join 3 none, Cond.methodLink RX2 50 yX2_canTake, Cond.instanceMethod yX2_canTake, Cond.selects RX2 yX2_canTake yX2_canTake, Cond.code yX2_canTake cX2_canTake 6 (some .boolean), Cond.methodLink RX5 163 yX2_partnerOf, Cond.instanceMethod yX2_partnerOf, Cond.selects RX2 yX2_partnerOf yX2_partnerOf]
def wsL_law_r13 : List Cond := [Cond.code yX2_partnerOf cX2_partnerOf 3 (some .int), Cond.methodLink RX5 196 yX0_shakeHands, Cond.instanceMethod yX0_shakeHands, Cond.selects RX0 yX0_shakeHands yX0_shakeHands, Cond.code yX0_shakeHands cX0_shakeHands 3 none, Cond.methodLink RX0 66 yX0_closeWish, Cond.methodLink RX5 199 yX0_endRound, Cond.instanceMethod yX0_endRound, Cond.selects RX0 yX0_endRound yX0_endRound, Cond.code yX0_endRound cX0_endRound 2 none, Cond.methodLink RX5 202 yX2_size, Cond.instanceMethod yX2_size, Cond.selects RX2 yX2_size yX2_size, Cond.code yX2_size cX2_size 3 (some .int), Cond.methodLink RL 45 yX6_round, Cond.instanceMethod yX6_round, Cond.selects RX6 yX6_round yX6_round, Cond.code yX6_round cX6_round 1 (some .int), Cond.methodLink RX6 104 yX6_shakes, Cond.instanceMethod yX6_shakes, Cond.selects RX6 yX6_shakes yX6_shakes, Cond.code yX6_shakes cX6_shakes 3 (some .int), Cond.methodLink RX6 101 yX6_matches, Cond.instanceMethod yX6_matches]
def wsL_law_r14 : List Cond := [Cond.selects RX6 yX6_matches yX6_matches, Cond.code yX6_matches cX6_matches 4 (some .int), Cond.methodLink RX6 78 yX6_findsCan, Cond.instanceMethod yX6_findsCan, Cond.selects RX6 yX6_findsCan yX6_findsCan, Cond.code yX6_findsCan cX6_findsCan 4 none, Cond.methodLink RX6 68 yX6_isPossible, Cond.instanceMethod yX6_isPossible, Cond.selects RX6 yX6_isPossible yX6_isPossible, Cond.code yX6_isPossible cX6_isPossible 3 (some .boolean), Cond.methodLink RX6 65 yX6_canMeet, Cond.instanceMethod yX6_canMeet, Cond.selects RX6 yX6_canMeet yX6_canMeet, Cond.code yX6_canMeet cX6_canMeet 3 (some .boolean), Cond.methodLink RX6 58 yX6_areLinked, Cond.instanceMethod yX6_areLinked, Cond.selects RX6 yX6_areLinked yX6_areLinked, Cond.code yX6_areLinked cX6_areLinked 3 (some .boolean), Cond.methodLink RX6 82 yX6_fills, Cond.instanceMethod yX6_fills, Cond.selects RX6 yX6_fills yX6_fills, Cond.code yX6_fills cX6_fills 3 (some .int), Cond.methodLink RX6 75 yX6_bestFor, Cond.instanceMethod yX6_bestFor]
def wsL_law_r15 : List Cond := [Cond.selects RX6 yX6_bestFor yX6_bestFor, Cond.code yX6_bestFor cX6_bestFor 6 (some .int), Cond.methodLink RX6 71 yX6_sizeOf, Cond.instanceMethod yX6_sizeOf, Cond.selects RX6 yX6_sizeOf yX6_sizeOf, Cond.code yX6_sizeOf cX6_sizeOf 3 (some .int), Cond.methodLink RX6 86 yX6_firstFor, Cond.instanceMethod yX6_firstFor, Cond.selects RX6 yX6_firstFor yX6_firstFor, Cond.code yX6_firstFor cX6_firstFor 5 (some .int), Cond.methodLink RL 46 yX5_append, Cond.instanceMethod yX5_append, Cond.selects RX5 yX5_append yX5_append, Cond.code yX5_append cX5_append 2 (some .int), Cond.methodLink RX5 114 yX4_hasRoom, Cond.instanceMethod yX4_hasRoom, Cond.selects RX4 yX4_hasRoom yX4_hasRoom, Cond.code yX4_hasRoom cX4_hasRoom 1 (some .boolean), Cond.fieldLink RX4 19 "FenceHandshakes$WishText" "length" "I", Cond.methodLink RX5 118 yX4_add, Cond.instanceMethod yX4_add, Cond.selects RX4 yX4_add yX4_add, Cond.code yX4_add cX4_add 2 none, Cond.methodLink RX4 23 yX4_hasRoom]
def wsL_law_r16 : List Cond := [Cond.methodLink RX5 122 yX4_length, Cond.instanceMethod yX4_length, Cond.selects RX4 yX4_length yX4_length, Cond.code yX4_length cX4_length 1 (some .int), Cond.methodLink RL 50 yX6_append, Cond.instanceMethod yX6_append, Cond.selects RX6 yX6_append yX6_append, Cond.code yX6_append cX6_append 2 (some .int), Cond.fieldLink RX6 107 "FenceHandshakesModel" "length" "I", Cond.methodLink RL 51 yX5_clearText, Cond.instanceMethod yX5_clearText, Cond.selects RX5 yX5_clearText yX5_clearText, Cond.code yX5_clearText cX5_clearText 2 (some .int), Cond.methodLink RX5 125 yX4_empty, Cond.instanceMethod yX4_empty, Cond.selects RX4 yX4_empty yX4_empty, Cond.code yX4_empty cX4_empty 1 none, Cond.methodLink RL 54 yX6_clearText, Cond.instanceMethod yX6_clearText, Cond.selects RX6 yX6_clearText yX6_clearText, Cond.code yX6_clearText cX6_clearText 2 (some .int), Cond.methodLink RL 55 yX5_fault, Cond.instanceMethod yX5_fault, Cond.selects RX5 yX5_fault yX5_fault]
def wsL_law_r17 : List Cond := [Cond.code yX5_fault cX5_fault 1 (some .int), Cond.methodLink RX5 128 yX4_parse, Cond.instanceMethod yX4_parse, Cond.selects RX4 yX4_parse yX4_parse, Cond.code yX4_parse cX4_parse 2 (some .int), Cond.fieldLink RX4 40 "FenceHandshakes$WishText" "rights" "I", Cond.methodLink RX4 27 yJ7_fill_53178, Cond.methodLink RX4 33 yX4_beginGroup, Cond.instanceMethod yX4_beginGroup, Cond.selects RX4 yX4_beginGroup yX4_beginGroup, Cond.code yX4_beginGroup cX4_beginGroup 1 none, Cond.fieldLink RX4 46 "FenceHandshakes$WishText" "lefts" "I", Cond.fieldLink RX4 49 "FenceHandshakes$WishText" "isBehindDash" "Z", Cond.methodLink RX4 36 yX4_takesSign, Cond.instanceMethod yX4_takesSign, Cond.selects RX4 yX4_takesSign yX4_takesSign, Cond.code yX4_takesSign cX4_takesSign 2 (some .boolean), Cond.methodLink RX4 57 yX4_takesPerson, Cond.instanceMethod yX4_takesPerson, Cond.selects RX4 yX4_takesPerson yX4_takesPerson, Cond.code yX4_takesPerson cX4_takesPerson 2 (some .boolean), Cond.methodLink RX4 43 yX4_endGroup, Cond.instanceMethod yX4_endGroup, Cond.selects RX4 yX4_endGroup yX4_endGroup]
def wsL_law_r18 : List Cond := [Cond.code yX4_endGroup cX4_endGroup 2 none, Cond.methodLink RL 58 yX6_fault, Cond.instanceMethod yX6_fault, Cond.selects RX6 yX6_fault yX6_fault, Cond.code yX6_fault cX6_fault 1 (some .int), Cond.methodLink RX6 129 yX6_reads, Cond.instanceMethod yX6_reads, Cond.selects RX6 yX6_reads yX6_reads, Cond.code yX6_reads cX6_reads 1 (some .int), Cond.fieldLink RX6 110 "FenceHandshakesModel" "at" "I", Cond.fieldLink RX6 120 "FenceHandshakesModel" "readMany" "I", Cond.fieldLink RX6 113 "FenceHandshakesModel" "isWell" "Z", Cond.methodLink RX6 126 yX6_readsGroup, Cond.instanceMethod yX6_readsGroup, Cond.selects RX6 yX6_readsGroup yX6_readsGroup, Cond.code yX6_readsGroup cX6_readsGroup 1 none, Cond.methodLink RX6 123 yX6_people, Cond.instanceMethod yX6_people, Cond.selects RX6 yX6_people yX6_people, Cond.code yX6_people cX6_people 2 (some .int), Cond.methodLink RX6 117 yX6_sign, Cond.instanceMethod yX6_sign, Cond.selects RX6 yX6_sign yX6_sign, Cond.code yX6_sign cX6_sign 1 (some .int)]
def wsL_law_r19 : List Cond := [Cond.methodLink RL 59 yX5_read, Cond.instanceMethod yX5_read, Cond.selects RX5 yX5_read yX5_read, Cond.code yX5_read cX5_read 4 (some .int), Cond.methodLink RX5 131 yX4_rightsFor, Cond.instanceMethod yX4_rightsFor, Cond.selects RX4 yX4_rightsFor yX4_rightsFor, Cond.code yX4_rightsFor cX4_rightsFor 2 (some .int), Cond.methodLink RX5 135 yX0_openWishes, Cond.methodLink RL 62 yX6_read, Cond.instanceMethod yX6_read, Cond.selects RX6 yX6_read yX6_read, Cond.code yX6_read cX6_read 4 (some .int), Cond.methodLink RX6 132 yX6_adds, Cond.instanceMethod yX6_adds, Cond.selects RX6 yX6_adds yX6_adds, Cond.code yX6_adds cX6_adds 6 (some .int), Cond.methodLink RL 63 yX5_undo, Cond.instanceMethod yX5_undo, Cond.selects RX5 yX5_undo yX5_undo, Cond.code yX5_undo cX5_undo 1 (some .int), Cond.methodLink RX5 138 yX1_size, Cond.instanceMethod yX1_size, Cond.selects RX1 yX1_size yX1_size]
def wsL_law_r20 : List Cond := [Cond.code yX1_size cX1_size 1 (some .int), Cond.methodLink RX5 141 yX1_takeLatest, Cond.instanceMethod yX1_takeLatest, Cond.selects RX1 yX1_takeLatest yX1_takeLatest, Cond.code yX1_takeLatest cX1_takeLatest 2 none, Cond.methodLink RL 66 yX6_undo, Cond.instanceMethod yX6_undo, Cond.selects RX6 yX6_undo yX6_undo, Cond.code yX6_undo cX6_undo 2 (some .int), Cond.methodLink RL 67 yX5_save, Cond.instanceMethod yX5_save, Cond.selects RX5 yX5_save yX5_save, Cond.code yX5_save cX5_save 1 (some .int), Cond.methodLink RX5 144 yX0_copyFrom, Cond.instanceMethod yX0_copyFrom, Cond.selects RX0 yX0_copyFrom yX0_copyFrom, Cond.code yX0_copyFrom cX0_copyFrom 2 none, Cond.methodLink RX0 15 arraycopyName, Cond.methodLink RL 70 yX6_save, Cond.instanceMethod yX6_save, Cond.selects RX6 yX6_save yX6_save, Cond.code yX6_save cX6_save 2 (some .int), Cond.fieldLink RX6 135 "FenceHandshakesModel" "hasSnapshot" "Z", Cond.methodLink RL 71 yX5_restore]
def wsL_law_r21 : List Cond := [Cond.instanceMethod yX5_restore, Cond.selects RX5 yX5_restore yX5_restore, Cond.code yX5_restore cX5_restore 1 (some .int), Cond.methodLink RL 74 yX6_restore, Cond.instanceMethod yX6_restore, Cond.selects RX6 yX6_restore yX6_restore, Cond.code yX6_restore cX6_restore 2 (some .int), Cond.methodLink RL 75 yX5_person, Cond.instanceMethod yX5_person, Cond.selects RX5 yX5_person yX5_person, Cond.code yX5_person cX5_person 4 (some .int), Cond.methodLink RX5 147 yX0_amountOfPerson, Cond.instanceMethod yX0_amountOfPerson, Cond.selects RX0 yX0_amountOfPerson yX0_amountOfPerson, Cond.code yX0_amountOfPerson cX0_amountOfPerson 6 (some .int), Cond.methodLink RX0 58 yX0_amountOfPair, Cond.instanceMethod yX0_amountOfPair, Cond.selects RX0 yX0_amountOfPair yX0_amountOfPair, Cond.code yX0_amountOfPair cX0_amountOfPair 4 (some .int), Cond.methodLink RX0 52 yX0_isPossible, Cond.methodLink RX0 55 yX0_handshakesOf, Cond.instanceMethod yX0_handshakesOf, Cond.selects RX0 yX0_handshakesOf yX0_handshakesOf, Cond.code yX0_handshakesOf cX0_handshakesOf 3 (some .int)]
def wsL_law_r22 : List Cond := [Cond.methodLink RX5 151 yX0_peopleToMeet, Cond.instanceMethod yX0_peopleToMeet, Cond.selects RX0 yX0_peopleToMeet yX0_peopleToMeet, Cond.code yX0_peopleToMeet cX0_peopleToMeet 5 (some .int), Cond.methodLink RL 78 yX6_person, Cond.instanceMethod yX6_person, Cond.selects RX6 yX6_person yX6_person, Cond.code yX6_person cX6_person 7 (some .int), Cond.methodLink RX6 138 yX6_ofTwo, Cond.instanceMethod yX6_ofTwo, Cond.selects RX6 yX6_ofTwo yX6_ofTwo, Cond.code yX6_ofTwo cX6_ofTwo 4 (some .int), Cond.methodLink RL 79 yX5_pair, Cond.instanceMethod yX5_pair, Cond.selects RX5 yX5_pair yX5_pair, Cond.code yX5_pair cX5_pair 4 (some .int), Cond.methodLink RX5 154 yX0_handshakesOf, Cond.methodLink RX5 157 yX5_reasonAgainst, Cond.instanceMethod yX5_reasonAgainst, Cond.selects RX5 yX5_reasonAgainst yX5_reasonAgainst, Cond.code yX5_reasonAgainst cX5_reasonAgainst 3 (some .int), Cond.methodLink RX5 203 yX0_areAtLinkedGates, Cond.methodLink RL 82 yX6_pair, Cond.instanceMethod yX6_pair]
def wsL_law_r23 : List Cond := [Cond.selects RX6 yX6_pair yX6_pair, Cond.code yX6_pair cX6_pair 4 (some .int), Cond.methodLink RX6 142 yX6_why, Cond.instanceMethod yX6_why, Cond.selects RX6 yX6_why yX6_why, Cond.code yX6_why cX6_why 3 (some .int), Cond.methodLink RL 83 yX5_isLinked, Cond.instanceMethod yX5_isLinked, Cond.selects RX5 yX5_isLinked yX5_isLinked, Cond.code yX5_isLinked cX5_isLinked 3 (some .int), Cond.methodLink RL 86 yX6_isLinked, Cond.instanceMethod yX6_isLinked, Cond.selects RX6 yX6_isLinked yX6_isLinked, Cond.code yX6_isLinked cX6_isLinked 3 (some .int), Cond.methodLink RL 87 yX5_partner, Cond.instanceMethod yX5_partner, Cond.selects RX5 yX5_partner yX5_partner, Cond.code yX5_partner cX5_partner 3 (some .int), Cond.methodLink RL 91 yX6_partner, Cond.instanceMethod yX6_partner, Cond.selects RX6 yX6_partner yX6_partner, Cond.code yX6_partner cX6_partner 5 (some .int), Cond.methodLink RL 92 yX5_hindered, Cond.instanceMethod yX5_hindered]
def wsL_law_r24 : List Cond := [Cond.selects RX5 yX5_hindered yX5_hindered, Cond.code yX5_hindered cX5_hindered 1 (some .int), Cond.methodLink RX5 166 yX2_takeGreatest, Cond.methodLink RX5 169 yX2_leftsWhoMayBeLeftOut, Cond.instanceMethod yX2_leftsWhoMayBeLeftOut, Cond.selects RX2 yX2_leftsWhoMayBeLeftOut yX2_leftsWhoMayBeLeftOut, Cond.code yX2_leftsWhoMayBeLeftOut cX2_leftsWhoMayBeLeftOut 3 (some .int), Cond.methodLink RL 95 yX6_hindered, Cond.instanceMethod yX6_hindered, Cond.selects RX6 yX6_hindered yX6_hindered, Cond.code yX6_hindered cX6_hindered 5 (some .int), Cond.methodLink RL 96 yX5_planned, Cond.instanceMethod yX5_planned, Cond.selects RX5 yX5_planned yX5_planned, Cond.code yX5_planned cX5_planned 3 (some .int), Cond.methodLink RX5 172 yX3_make, Cond.instanceMethod yX3_make, Cond.selects RX3 yX3_make yX3_make, Cond.code yX3_make cX3_make 4 none, Cond.methodLink RX3 15 yJ7_fill_53178, Cond.methodLink RX3 21 yX0_isPossible, Cond.methodLink RX3 27 yX3_addWish, Cond.instanceMethod yX3_addWish, Cond.selects RX3 yX3_addWish yX3_addWish]
def wsL_law_r25 : List Cond := [Cond.code yX3_addWish cX3_addWish 5 none, Cond.methodLink RX3 31 yX3_leastNumberWithout, Cond.instanceMethod yX3_leastNumberWithout, Cond.selects RX3 yX3_leastNumberWithout yX3_leastNumberWithout, Cond.code yX3_leastNumberWithout cX3_leastNumberWithout 6 (some .int), Cond.methodLink RX3 46 yX3_numberOf, Cond.instanceMethod yX3_numberOf, Cond.selects RX3 yX3_numberOf yX3_numberOf, Cond.code yX3_numberOf cX3_numberOf 3 (some .int), Cond.methodLink RX3 35 yX3_leftWith, Cond.instanceMethod yX3_leftWith, Cond.selects RX3 yX3_leftWith yX3_leftWith, Cond.code yX3_leftWith cX3_leftWith 4 (some .int), Cond.methodLink RX3 39 yX3_exchangeAlongPath, Cond.instanceMethod yX3_exchangeAlongPath, Cond.selects RX3 yX3_exchangeAlongPath yX3_exchangeAlongPath, Cond.code yX3_exchangeAlongPath cX3_exchangeAlongPath 9 none, Cond.methodLink RX3 56 yX3_rightWith, Cond.instanceMethod yX3_rightWith, Cond.selects RX3 yX3_rightWith yX3_rightWith, Cond.code yX3_rightWith cX3_rightWith 4 (some .int), Cond.methodLink RX3 43 yX3_setNumber, Cond.instanceMethod yX3_setNumber, Cond.selects RX3 yX3_setNumber yX3_setNumber]
def wsL_law_r26 : List Cond := [Cond.code yX3_setNumber cX3_setNumber 4 none, Cond.methodLink RX5 175 yX3_numberOf, Cond.methodLink RL 99 yX6_planned, Cond.instanceMethod yX6_planned, Cond.selects RX6 yX6_planned yX6_planned, Cond.code yX6_planned cX6_planned 3 (some .int), Cond.methodLink RX6 157 yX6_plans, Cond.instanceMethod yX6_plans, Cond.selects RX6 yX6_plans yX6_plans, Cond.code yX6_plans cX6_plans 5 none, Cond.methodLink RX6 149 yX6_leastFree, Cond.instanceMethod yX6_leastFree, Cond.selects RX6 yX6_leastFree yX6_leastFree, Cond.code yX6_leastFree cX6_leastFree 4 (some .int), Cond.methodLink RX6 145 yX6_wishWith, Cond.instanceMethod yX6_wishWith, Cond.selects RX6 yX6_wishWith yX6_wishWith, Cond.code yX6_wishWith cX6_wishWith 6 (some .int), Cond.methodLink RX6 153 yX6_changes, Cond.instanceMethod yX6_changes, Cond.selects RX6 yX6_changes yX6_changes, Cond.code yX6_changes cX6_changes 10 none, Cond.methodLink RL 100 yX5_count, Cond.instanceMethod yX5_count]
def wsL_law_r27 : List Cond := [Cond.selects RX5 yX5_count yX5_count, Cond.code yX5_count cX5_count 2 (some .int), Cond.methodLink RX5 178 yX0_amountOfAll, Cond.instanceMethod yX0_amountOfAll, Cond.selects RX0 yX0_amountOfAll yX0_amountOfAll, Cond.code yX0_amountOfAll cX0_amountOfAll 4 (some .int), Cond.methodLink RX0 62 yX0_amountOfPerson, Cond.methodLink RX5 181 yX0_linkedPairsOfGates, Cond.instanceMethod yX0_linkedPairsOfGates, Cond.selects RX0 yX0_linkedPairsOfGates yX0_linkedPairsOfGates, Cond.code yX0_linkedPairsOfGates cX0_linkedPairsOfGates 1 (some .int), Cond.methodLink RX5 184 yX0_roundsSoFar, Cond.instanceMethod yX0_roundsSoFar, Cond.selects RX0 yX0_roundsSoFar yX0_roundsSoFar, Cond.code yX0_roundsSoFar cX0_roundsSoFar 1 (some .int), Cond.methodLink RX5 187 yX5_greatestSize, Cond.instanceMethod yX5_greatestSize, Cond.selects RX5 yX5_greatestSize yX5_greatestSize, Cond.code yX5_greatestSize cX5_greatestSize 2 (some .int), Cond.methodLink RX5 190 yX5_mostPossibleOfAPerson, Cond.instanceMethod yX5_mostPossibleOfAPerson, Cond.selects RX5 yX5_mostPossibleOfAPerson yX5_mostPossibleOfAPerson, Cond.code yX5_mostPossibleOfAPerson cX5_mostPossibleOfAPerson 3 (some .int), Cond.methodLink RX5 206 Lib.Math.max.name]
def wsL_law_r28 : List Cond := [Cond.static Lib.Math.max.name, Cond.initialized "java/lang/Math", Cond.code Lib.Math.max.name Lib.Math.max.code 2 (some .int), Cond.methodLink RL 103 yX6_count, Cond.instanceMethod yX6_count, Cond.selects RX6 yX6_count yX6_count, Cond.code yX6_count cX6_count 2 (some .int), Cond.methodLink RX6 160 yX6_possibleMany, Cond.instanceMethod yX6_possibleMany, Cond.selects RX6 yX6_possibleMany yX6_possibleMany, Cond.code yX6_possibleMany cX6_possibleMany 3 (some .int), Cond.methodLink RX6 163 yX6_feuds, Cond.instanceMethod yX6_feuds, Cond.selects RX6 yX6_feuds yX6_feuds, Cond.code yX6_feuds cX6_feuds 3 (some .int), Cond.methodLink RX6 166 yX6_links, Cond.instanceMethod yX6_links, Cond.selects RX6 yX6_links yX6_links, Cond.code yX6_links cX6_links 3 (some .int), Cond.methodLink RX6 169 yX6_shaken, Cond.instanceMethod yX6_shaken, Cond.selects RX6 yX6_shaken yX6_shaken, Cond.code yX6_shaken cX6_shaken 3 (some .int), Cond.methodLink RX6 172 yX6_greatest]
def wsL_law_r29 : List Cond := [Cond.instanceMethod yX6_greatest, Cond.selects RX6 yX6_greatest yX6_greatest, Cond.code yX6_greatest cX6_greatest 6 (some .int), Cond.methodLink RL 104 yX5_doneIn, Cond.instanceMethod yX5_doneIn, Cond.selects RX5 yX5_doneIn yX5_doneIn, Cond.code yX5_doneIn cX5_doneIn 2 (some .int), Cond.methodLink RX5 193 yX0_hasWishOverUnlinkedGates, Cond.instanceMethod yX0_hasWishOverUnlinkedGates, Cond.selects RX0 yX0_hasWishOverUnlinkedGates yX0_hasWishOverUnlinkedGates, Cond.code yX0_hasWishOverUnlinkedGates cX0_hasWishOverUnlinkedGates 3 (some .boolean), Cond.methodLink RL 107 yX6_doneIn, Cond.instanceMethod yX6_doneIn, Cond.selects RX6 yX6_doneIn yX6_doneIn, Cond.code yX6_doneIn cX6_doneIn 3 (some .int), Cond.methodLink RX6 175 yX6_putAside, Cond.instanceMethod yX6_putAside, Cond.selects RX6 yX6_putAside yX6_putAside, Cond.code yX6_putAside cX6_putAside 2 none, Cond.methodLink RX6 178 yX6_takeBack, Cond.instanceMethod yX6_takeBack, Cond.selects RX6 yX6_takeBack yX6_takeBack, Cond.code yX6_takeBack cX6_takeBack 2 none, Cond.methodLink RL 108 yX5_bestLink]
def wsL_law_r30 : List Cond := [Cond.instanceMethod yX5_bestLink, Cond.selects RX5 yX5_bestLink yX5_bestLink, Cond.code yX5_bestLink cX5_bestLink 6 (some .int), Cond.methodLink RL 111 yX6_bestLink, Cond.instanceMethod yX6_bestLink, Cond.selects RX6 yX6_bestLink yX6_bestLink, Cond.code yX6_bestLink cX6_bestLink 5 (some .int), Cond.methodLink RL 112 yX5_mean, Cond.instanceMethod yX5_mean, Cond.selects RX5 yX5_mean yX5_mean, Cond.code yX5_mean cX5_mean 2 (some .double), Cond.methodLink RL 116 yX6_mean, Cond.instanceMethod yX6_mean, Cond.selects RX6 yX6_mean yX6_mean, Cond.code yX6_mean cX6_mean 1 (some .double)]
def wsL_law : List Cond := (wsL_law_r1 ++ (wsL_law_r2 ++ (wsL_law_r3 ++ (wsL_law_r4 ++ (wsL_law_r5 ++ (wsL_law_r6 ++ (wsL_law_r7 ++ (wsL_law_r8 ++ (wsL_law_r9 ++ (wsL_law_r10 ++ (wsL_law_r11 ++ (wsL_law_r12 ++ (wsL_law_r13 ++ (wsL_law_r14 ++ (wsL_law_r15 ++ (wsL_law_r16 ++ (wsL_law_r17 ++ (wsL_law_r18 ++ (wsL_law_r19 ++ (wsL_law_r20 ++ (wsL_law_r21 ++ (wsL_law_r22 ++ (wsL_law_r23 ++ (wsL_law_r24 ++ (wsL_law_r25 ++ (wsL_law_r26 ++ (wsL_law_r27 ++ (wsL_law_r28 ++ (wsL_law_r29 ++ wsL_law_r30))))))))))))))))))))))))))))) ++ wsX50 ++ wsX60 ++ wsX00 ++ wsX10 ++ wsX40 ++ wsX20 ++ wsX30 ++ ([] : List Cond)

theorem g_ixs {ws big : List Cond} (ps : List Nat) (h : ws = ps.filterMap (fun i => big[i]?)) : ∀ w ∈ ws, w ∈ big := by
  intro w hw
  rw [h] at hw
  obtain ⟨i, -, hi⟩ := List.mem_filterMap.mp hw
  exact List.mem_of_getElem? hi
set_option maxRecDepth 20000 in
theorem in_wsL_law_r1 : ∀ w ∈ wsL_law_r1, w ∈ lw_tbl := g_ixs [64, 65, 53, 575, 576, 59, 66, 67, 68, 69, 70, 71, 72, 73, 54, 158, 159, 160, 84, 85, 55, 162, 100, 101] rfl
set_option maxRecDepth 20000 in
theorem in_wsL_law_r2 : ∀ w ∈ wsL_law_r2, w ∈ lw_tbl := g_ixs [56, 163, 126, 127, 57, 164, 148, 149, 58, 165, 161, 74, 75, 76, 77, 83, 78, 87, 88, 89, 90, 103, 104, 105] rfl
set_option maxRecDepth 20000 in
theorem in_wsL_law_r3 : ∀ w ∈ wsL_law_r3, w ∈ lw_tbl := g_ixs [125, 106, 108, 129, 130, 131, 132, 133, 134, 135, 151, 152, 153, 154, 577, 578, 579, 580, 582, 583, 584, 586, 588, 590] rfl
set_option maxRecDepth 20000 in
theorem in_wsL_law_r4 : ∀ w ∈ wsL_law_r4, w ∈ lw_tbl := g_ixs [591, 592, 593, 594, 597, 581, 183, 184, 185, 186, 187, 188, 189, 190, 191, 192, 193, 194, 195, 196, 198, 199, 200, 201] rfl
set_option maxRecDepth 20000 in
theorem in_wsL_law_r5 : ∀ w ∈ wsL_law_r5, w ∈ lw_tbl := g_ixs [202, 203, 92, 91, 208, 210, 209, 60, 204, 206, 0, 207, 211, 212, 213, 214, 215, 216, 217, 218, 219, 220, 221, 222] rfl
set_option maxRecDepth 20000 in
theorem in_wsL_law_r6 : ∀ w ∈ wsL_law_r6, w ∈ lw_tbl := g_ixs [223, 224, 61, 225, 226, 227, 228, 636, 637, 638, 639, 640, 641, 642, 643, 644, 645, 646, 647, 648, 649, 651, 21, 652] rfl
set_option maxRecDepth 20000 in
theorem in_wsL_law_r7 : ∀ w ∈ wsL_law_r7, w ∈ lw_tbl := g_ixs [653, 655, 22, 656, 585, 657, 659, 23, 660, 229, 230, 231, 232, 233, 234, 235, 236, 661, 662, 663, 664, 237, 238, 239] rfl
set_option maxRecDepth 20000 in
theorem in_wsL_law_r8 : ∀ w ∈ wsL_law_r8, w ∈ lw_tbl := g_ixs [240, 241, 242, 243, 244, 245, 246, 247, 248, 665, 666, 667, 668, 249, 250, 251, 252, 669, 670, 671, 672, 253, 254, 255] rfl
set_option maxRecDepth 20000 in
theorem in_wsL_law_r9 : ∀ w ∈ wsL_law_r9, w ∈ lw_tbl := g_ixs [256, 257, 258, 259, 260, 261, 262, 263, 264, 265, 266, 267, 268, 269, 270, 673, 674, 675, 676, 677, 678, 679, 271, 272] rfl
set_option maxRecDepth 20000 in
theorem in_wsL_law_r10 : ∀ w ∈ wsL_law_r10, w ∈ lw_tbl := g_ixs [273, 274, 275, 276, 277, 278, 279, 280, 281, 282, 680, 681, 682, 683, 283, 284, 285, 286, 287, 289, 1, 290, 291, 292] rfl
set_option maxRecDepth 20000 in
theorem in_wsL_law_r11 : ∀ w ∈ wsL_law_r11, w ∈ lw_tbl := g_ixs [293, 294, 295, 296, 297, 298, 299, 300, 62, 301, 302, 303, 304, 305, 306, 307, 308, 309, 310, 311, 312, 313, 314, 315] rfl
set_option maxRecDepth 20000 in
theorem in_wsL_law_r12 : ∀ w ∈ wsL_law_r12, w ∈ lw_tbl := g_ixs [316, 318, 2, 319, 320, 322, 3, 323, 136, 324, 326, 4, 327, 330, 332, 5, 333, 334, 336, 6, 337, 338, 339, 340] rfl
set_option maxRecDepth 20000 in
theorem in_wsL_law_r13 : ∀ w ∈ wsL_law_r13, w ∈ lw_tbl := g_ixs [341, 342, 343, 344, 345, 346, 347, 348, 349, 350, 351, 352, 353, 354, 684, 685, 686, 687, 688, 690, 24, 691, 692, 694] rfl
set_option maxRecDepth 20000 in
theorem in_wsL_law_r14 : ∀ w ∈ wsL_law_r14, w ∈ lw_tbl := g_ixs [25, 695, 696, 698, 26, 699, 700, 702, 27, 703, 704, 706, 28, 707, 708, 710, 29, 711, 712, 714, 30, 715, 716, 718] rfl
set_option maxRecDepth 20000 in
theorem in_wsL_law_r15 : ∀ w ∈ wsL_law_r15, w ∈ lw_tbl := g_ixs [31, 719, 720, 722, 32, 723, 724, 726, 33, 727, 356, 357, 358, 359, 360, 361, 362, 363, 107, 364, 365, 366, 367, 368] rfl
set_option maxRecDepth 20000 in
theorem in_wsL_law_r16 : ∀ w ∈ wsL_law_r16, w ∈ lw_tbl := g_ixs [369, 370, 371, 372, 728, 729, 730, 731, 589, 373, 374, 375, 376, 377, 378, 379, 380, 732, 733, 734, 735, 381, 382, 383] rfl
set_option maxRecDepth 20000 in
theorem in_wsL_law_r17 : ∀ w ∈ wsL_law_r17, w ∈ lw_tbl := g_ixs [384, 385, 386, 387, 388, 110, 389, 390, 392, 7, 393, 109, 111, 394, 396, 8, 397, 398, 400, 9, 401, 402, 404, 10] rfl
set_option maxRecDepth 20000 in
theorem in_wsL_law_r18 : ∀ w ∈ wsL_law_r18, w ∈ lw_tbl := g_ixs [405, 736, 737, 738, 739, 740, 742, 34, 743, 595, 598, 596, 744, 746, 35, 747, 748, 750, 36, 751, 752, 754, 37, 755] rfl
set_option maxRecDepth 20000 in
theorem in_wsL_law_r19 : ∀ w ∈ wsL_law_r19, w ∈ lw_tbl := g_ixs [407, 408, 409, 410, 411, 412, 413, 414, 415, 756, 757, 758, 759, 760, 762, 38, 763, 416, 417, 418, 419, 420, 421, 422] rfl
set_option maxRecDepth 20000 in
theorem in_wsL_law_r20 : ∀ w ∈ wsL_law_r20, w ∈ lw_tbl := g_ixs [423, 424, 425, 426, 427, 764, 765, 766, 767, 428, 429, 430, 431, 432, 433, 434, 435, 436, 768, 769, 770, 771, 587, 437] rfl
set_option maxRecDepth 20000 in
theorem in_wsL_law_r21 : ∀ w ∈ wsL_law_r21, w ∈ lw_tbl := g_ixs [438, 439, 440, 772, 773, 774, 775, 441, 442, 443, 444, 445, 446, 447, 448, 449, 451, 11, 452, 454, 455, 456, 457, 458] rfl
set_option maxRecDepth 20000 in
theorem in_wsL_law_r22 : ∀ w ∈ wsL_law_r22, w ∈ lw_tbl := g_ixs [459, 460, 461, 462, 776, 777, 778, 779, 780, 782, 39, 783, 463, 464, 465, 466, 467, 468, 470, 12, 471, 472, 784, 785] rfl
set_option maxRecDepth 20000 in
theorem in_wsL_law_r23 : ∀ w ∈ wsL_law_r23, w ∈ lw_tbl := g_ixs [786, 787, 788, 790, 40, 791, 473, 474, 475, 476, 792, 793, 794, 795, 477, 478, 479, 480, 796, 797, 798, 799, 481, 482] rfl
set_option maxRecDepth 20000 in
theorem in_wsL_law_r24 : ∀ w ∈ wsL_law_r24, w ∈ lw_tbl := g_ixs [483, 484, 485, 486, 487, 488, 489, 800, 801, 802, 803, 490, 491, 492, 493, 494, 495, 496, 497, 498, 499, 500, 502, 13] rfl
set_option maxRecDepth 20000 in
theorem in_wsL_law_r25 : ∀ w ∈ wsL_law_r25, w ∈ lw_tbl := g_ixs [503, 504, 506, 14, 507, 508, 509, 510, 511, 513, 515, 15, 516, 517, 519, 16, 520, 522, 524, 17, 525, 526, 528, 18] rfl
set_option maxRecDepth 20000 in
theorem in_wsL_law_r26 : ∀ w ∈ wsL_law_r26, w ∈ lw_tbl := g_ixs [529, 530, 804, 805, 806, 807, 808, 810, 41, 811, 812, 814, 42, 815, 816, 818, 43, 819, 820, 822, 44, 823, 531, 532] rfl
set_option maxRecDepth 20000 in
theorem in_wsL_law_r27 : ∀ w ∈ wsL_law_r27, w ∈ lw_tbl := g_ixs [533, 534, 535, 536, 537, 538, 539, 540, 541, 542, 543, 544, 545, 546, 547, 548, 550, 19, 551, 552, 554, 20, 555, 556] rfl
set_option maxRecDepth 20000 in
theorem in_wsL_law_r28 : ∀ w ∈ wsL_law_r28, w ∈ lw_tbl := g_ixs [557, 63, 558, 824, 825, 826, 827, 828, 830, 45, 831, 832, 834, 46, 835, 836, 838, 47, 839, 840, 842, 48, 843, 844] rfl
set_option maxRecDepth 20000 in
theorem in_wsL_law_r29 : ∀ w ∈ wsL_law_r29, w ∈ lw_tbl := g_ixs [846, 49, 847, 559, 560, 561, 562, 563, 564, 565, 566, 848, 849, 850, 851, 852, 854, 50, 855, 856, 858, 51, 859, 567] rfl
set_option maxRecDepth 20000 in
theorem in_wsL_law_r30 : ∀ w ∈ wsL_law_r30, w ∈ lw_tbl := g_ixs [568, 569, 570, 860, 861, 862, 863, 571, 572, 573, 574, 864, 865, 866, 867] rfl
set_option maxRecDepth 20000 in
theorem in_wsX50 : ∀ w ∈ wsX50, w ∈ lw_tbl := g_ixs [166, 168, 170, 172, 174, 176, 178, 180] rfl
set_option maxRecDepth 20000 in
theorem in_wsX60 : ∀ w ∈ wsX60, w ∈ lw_tbl := g_ixs [599, 601, 603, 605, 607, 609, 611, 613, 615, 617, 619, 621, 623, 625, 627, 629, 631, 633] rfl
set_option maxRecDepth 20000 in
theorem in_wsX00 : ∀ w ∈ wsX00, w ∈ lw_tbl := g_ixs [80] rfl
set_option maxRecDepth 20000 in
theorem in_wsX10 : ∀ w ∈ wsX10, w ∈ lw_tbl := g_ixs [93, 95, 97] rfl
set_option maxRecDepth 20000 in
theorem in_wsX40 : ∀ w ∈ wsX40, w ∈ lw_tbl := g_ixs [112, 114, 116, 118, 120, 122] rfl
set_option maxRecDepth 20000 in
theorem in_wsX20 : ∀ w ∈ wsX20, w ∈ lw_tbl := g_ixs [137, 139, 141, 143, 145] rfl
set_option maxRecDepth 20000 in
theorem in_wsX30 : ∀ w ∈ wsX30, w ∈ lw_tbl := g_ixs [155] rfl
set_option maxRecDepth 20000 in
theorem wsL_law_in : ∀ w ∈ wsL_law, w ∈ lw_tbl := by
  unfold wsL_law
  exact (fun w h => (List.mem_append.mp h).elim ((fun w h => (List.mem_append.mp h).elim ((fun w h => (List.mem_append.mp h).elim ((fun w h => (List.mem_append.mp h).elim ((fun w h => (List.mem_append.mp h).elim ((fun w h => (List.mem_append.mp h).elim ((fun w h => (List.mem_append.mp h).elim ((fun w h => (List.mem_append.mp h).elim ((fun w h => (List.mem_append.mp h).elim (in_wsL_law_r1 w) ((fun w h => (List.mem_append.mp h).elim (in_wsL_law_r2 w) ((fun w h => (List.mem_append.mp h).elim (in_wsL_law_r3 w) ((fun w h => (List.mem_append.mp h).elim (in_wsL_law_r4 w) ((fun w h => (List.mem_append.mp h).elim (in_wsL_law_r5 w) ((fun w h => (List.mem_append.mp h).elim (in_wsL_law_r6 w) ((fun w h => (List.mem_append.mp h).elim (in_wsL_law_r7 w) ((fun w h => (List.mem_append.mp h).elim (in_wsL_law_r8 w) ((fun w h => (List.mem_append.mp h).elim (in_wsL_law_r9 w) ((fun w h => (List.mem_append.mp h).elim (in_wsL_law_r10 w) ((fun w h => (List.mem_append.mp h).elim (in_wsL_law_r11 w) ((fun w h => (List.mem_append.mp h).elim (in_wsL_law_r12 w) ((fun w h => (List.mem_append.mp h).elim (in_wsL_law_r13 w) ((fun w h => (List.mem_append.mp h).elim (in_wsL_law_r14 w) ((fun w h => (List.mem_append.mp h).elim (in_wsL_law_r15 w) ((fun w h => (List.mem_append.mp h).elim (in_wsL_law_r16 w) ((fun w h => (List.mem_append.mp h).elim (in_wsL_law_r17 w) ((fun w h => (List.mem_append.mp h).elim (in_wsL_law_r18 w) ((fun w h => (List.mem_append.mp h).elim (in_wsL_law_r19 w) ((fun w h => (List.mem_append.mp h).elim (in_wsL_law_r20 w) ((fun w h => (List.mem_append.mp h).elim (in_wsL_law_r21 w) ((fun w h => (List.mem_append.mp h).elim (in_wsL_law_r22 w) ((fun w h => (List.mem_append.mp h).elim (in_wsL_law_r23 w) ((fun w h => (List.mem_append.mp h).elim (in_wsL_law_r24 w) ((fun w h => (List.mem_append.mp h).elim (in_wsL_law_r25 w) ((fun w h => (List.mem_append.mp h).elim (in_wsL_law_r26 w) ((fun w h => (List.mem_append.mp h).elim (in_wsL_law_r27 w) ((fun w h => (List.mem_append.mp h).elim (in_wsL_law_r28 w) ((fun w h => (List.mem_append.mp h).elim (in_wsL_law_r29 w) (in_wsL_law_r30 w)) w)) w)) w)) w)) w)) w)) w)) w)) w)) w)) w)) w)) w)) w)) w)) w)) w)) w)) w)) w)) w)) w)) w)) w)) w)) w)) w)) w)) w) (in_wsX50 w)) w) (in_wsX60 w)) w) (in_wsX00 w)) w) (in_wsX10 w)) w) (in_wsX40 w)) w) (in_wsX20 w)) w) (in_wsX30 w)) w) (fun h => absurd h List.not_mem_nil))
theorem inlX0 : ∀ w ∈ wsX00, w ∈ wsL_law := fun _ h => List.mem_append_left _ (List.mem_append_left _ (List.mem_append_left _ (List.mem_append_left _ (List.mem_append_left _ (List.mem_append_right _ h)))))
theorem inX0 : ∀ w ∈ wsX00, w ∈ lw_tbl := fun w h => wsL_law_in w (inlX0 w h)
theorem inlX1 : ∀ w ∈ wsX10, w ∈ wsL_law := fun _ h => List.mem_append_left _ (List.mem_append_left _ (List.mem_append_left _ (List.mem_append_left _ (List.mem_append_right _ h))))
theorem inX1 : ∀ w ∈ wsX10, w ∈ lw_tbl := fun w h => wsL_law_in w (inlX1 w h)
theorem inlX2 : ∀ w ∈ wsX20, w ∈ wsL_law := fun _ h => List.mem_append_left _ (List.mem_append_left _ (List.mem_append_right _ h))
theorem inX2 : ∀ w ∈ wsX20, w ∈ lw_tbl := fun w h => wsL_law_in w (inlX2 w h)
theorem inlX3 : ∀ w ∈ wsX30, w ∈ wsL_law := fun _ h => List.mem_append_left _ (List.mem_append_right _ h)
theorem inX3 : ∀ w ∈ wsX30, w ∈ lw_tbl := fun w h => wsL_law_in w (inlX3 w h)
theorem inlX4 : ∀ w ∈ wsX40, w ∈ wsL_law := fun _ h => List.mem_append_left _ (List.mem_append_left _ (List.mem_append_left _ (List.mem_append_right _ h)))
theorem inX4 : ∀ w ∈ wsX40, w ∈ lw_tbl := fun w h => wsL_law_in w (inlX4 w h)
theorem inlX5 : ∀ w ∈ wsX50, w ∈ wsL_law := fun _ h => List.mem_append_left _ (List.mem_append_left _ (List.mem_append_left _ (List.mem_append_left _ (List.mem_append_left _ (List.mem_append_left _ (List.mem_append_left _ (List.mem_append_right _ h)))))))
theorem inX5 : ∀ w ∈ wsX50, w ∈ lw_tbl := fun w h => wsL_law_in w (inlX5 w h)
theorem inlX6 : ∀ w ∈ wsX60, w ∈ wsL_law := fun _ h => List.mem_append_left _ (List.mem_append_left _ (List.mem_append_left _ (List.mem_append_left _ (List.mem_append_left _ (List.mem_append_left _ (List.mem_append_right _ h))))))
theorem inX6 : ∀ w ∈ wsX60, w ∈ lw_tbl := fun w h => wsL_law_in w (inlX6 w h)
theorem inJ6 : ∀ w ∈ wsJ60, w ∈ lw_tbl := by decide +kernel
theorem inJ9 : ∀ w ∈ wsJ90, w ∈ lw_tbl := by decide +kernel
theorem inJ10 : ∀ w ∈ wsJ100, w ∈ lw_tbl := by decide +kernel
theorem inJ7 : ∀ w ∈ wsJ70, w ∈ lw_tbl := by decide +kernel
theorem dX0_init_0 : decode cX0_init 0 = .ok (.aload_n 0, 1) := by decide +kernel
theorem dX0_init_1 : decode cX0_init 1 = .ok (.invokespecial 5, 3) := by decide +kernel
theorem dX0_init_4 : decode cX0_init 4 = .ok (.aload_n 0, 1) := by decide +kernel
theorem dX0_init_5 : decode cX0_init 5 = .ok (.sipush 154, 3) := by decide +kernel
theorem dX0_init_8 : decode cX0_init 8 = .ok (.newarray .int, 2) := by decide +kernel
theorem dX0_init_10 : decode cX0_init 10 = .ok (.putfield 11, 3) := by decide +kernel
theorem dX0_init_13 : decode cX0_init 13 = .ok (.iconst 0, 1) := by decide +kernel
theorem dX0_init_14 : decode cX0_init 14 = .ok (.istore_n 1, 1) := by decide +kernel
theorem dX0_init_15 : decode cX0_init 15 = .ok (.iload_n 1, 1) := by decide +kernel
theorem dX0_init_16 : decode cX0_init 16 = .ok (.bipush 8, 2) := by decide +kernel
theorem dX0_init_18 : decode cX0_init 18 = .ok (.if_icmp .ge 32, 3) := by decide +kernel
theorem dX0_init_21 : decode cX0_init 21 = .ok (.aload_n 0, 1) := by decide +kernel
theorem dX0_init_22 : decode cX0_init 22 = .ok (.getfield 11, 3) := by decide +kernel
theorem dX0_init_25 : decode cX0_init 25 = .ok (.iconst 0, 1) := by decide +kernel
theorem dX0_init_26 : decode cX0_init 26 = .ok (.iload_n 1, 1) := by decide +kernel
theorem dX0_init_27 : decode cX0_init 27 = .ok (.iadd, 1) := by decide +kernel
theorem dX0_init_28 : decode cX0_init 28 = .ok (.iload_n 1, 1) := by decide +kernel
theorem dX0_init_29 : decode cX0_init 29 = .ok (.iconst 2, 1) := by decide +kernel
theorem dX0_init_30 : decode cX0_init 30 = .ok (.idiv, 1) := by decide +kernel
theorem dX0_init_31 : decode cX0_init 31 = .ok (.iastore, 1) := by decide +kernel
theorem dX0_init_32 : decode cX0_init 32 = .ok (.aload_n 0, 1) := by decide +kernel
theorem dX0_init_33 : decode cX0_init 33 = .ok (.getfield 11, 3) := by decide +kernel
theorem dX0_init_36 : decode cX0_init 36 = .ok (.bipush 8, 2) := by decide +kernel
theorem dX0_init_38 : decode cX0_init 38 = .ok (.iload_n 1, 1) := by decide +kernel
theorem dX0_init_39 : decode cX0_init 39 = .ok (.iadd, 1) := by decide +kernel
theorem dX0_init_40 : decode cX0_init 40 = .ok (.iload_n 1, 1) := by decide +kernel
theorem dX0_init_41 : decode cX0_init 41 = .ok (.iconst 2, 1) := by decide +kernel
theorem dX0_init_42 : decode cX0_init 42 = .ok (.idiv, 1) := by decide +kernel
theorem dX0_init_43 : decode cX0_init 43 = .ok (.iastore, 1) := by decide +kernel
theorem dX0_init_44 : decode cX0_init 44 = .ok (.iinc 1 1, 3) := by decide +kernel
theorem dX0_init_47 : decode cX0_init 47 = .ok (.goto (-32), 3) := by decide +kernel
theorem dX0_init_50 : decode cX0_init 50 = .ok (.iconst 0, 1) := by decide +kernel
theorem dX0_init_51 : decode cX0_init 51 = .ok (.istore_n 1, 1) := by decide +kernel
theorem dX0_init_52 : decode cX0_init 52 = .ok (.iload_n 1, 1) := by decide +kernel
theorem dX0_init_53 : decode cX0_init 53 = .ok (.iconst 4, 1) := by decide +kernel
theorem dX0_init_54 : decode cX0_init 54 = .ok (.if_icmp .ge 27, 3) := by decide +kernel
theorem dX0_init_57 : decode cX0_init 57 = .ok (.aload_n 0, 1) := by decide +kernel
theorem dX0_init_58 : decode cX0_init 58 = .ok (.getfield 11, 3) := by decide +kernel
theorem dX0_init_61 : decode cX0_init 61 = .ok (.sipush 152, 3) := by decide +kernel
theorem dX0_init_64 : decode cX0_init 64 = .ok (.dup2, 1) := by decide +kernel
theorem dX0_init_65 : decode cX0_init 65 = .ok (.iaload, 1) := by decide +kernel
theorem dX0_init_66 : decode cX0_init 66 = .ok (.iconst 1, 1) := by decide +kernel
theorem dX0_init_67 : decode cX0_init 67 = .ok (.iconst 4, 1) := by decide +kernel
theorem dX0_init_68 : decode cX0_init 68 = .ok (.iload_n 1, 1) := by decide +kernel
theorem dX0_init_69 : decode cX0_init 69 = .ok (.imul, 1) := by decide +kernel
theorem dX0_init_70 : decode cX0_init 70 = .ok (.iload_n 1, 1) := by decide +kernel
theorem dX0_init_71 : decode cX0_init 71 = .ok (.iadd, 1) := by decide +kernel
theorem dX0_init_72 : decode cX0_init 72 = .ok (.ishl, 1) := by decide +kernel
theorem dX0_init_73 : decode cX0_init 73 = .ok (.ior, 1) := by decide +kernel
theorem dX0_init_74 : decode cX0_init 74 = .ok (.iastore, 1) := by decide +kernel
theorem dX0_init_75 : decode cX0_init 75 = .ok (.iinc 1 1, 3) := by decide +kernel
theorem dX0_init_78 : decode cX0_init 78 = .ok (.goto (-26), 3) := by decide +kernel
theorem dX0_init_81 : decode cX0_init 81 = .ok (.return_, 1) := by decide +kernel
theorem dX0_copyFrom_0 : decode cX0_copyFrom 0 = .ok (.aload_n 1, 1) := by decide +kernel
theorem dX0_copyFrom_1 : decode cX0_copyFrom 1 = .ok (.getfield 11, 3) := by decide +kernel
theorem dX0_copyFrom_4 : decode cX0_copyFrom 4 = .ok (.iconst 0, 1) := by decide +kernel
theorem dX0_copyFrom_5 : decode cX0_copyFrom 5 = .ok (.aload_n 0, 1) := by decide +kernel
theorem dX0_copyFrom_6 : decode cX0_copyFrom 6 = .ok (.getfield 11, 3) := by decide +kernel
theorem dX0_copyFrom_9 : decode cX0_copyFrom 9 = .ok (.iconst 0, 1) := by decide +kernel
theorem dX0_copyFrom_10 : decode cX0_copyFrom 10 = .ok (.sipush 154, 3) := by decide +kernel
theorem dX0_copyFrom_13 : decode cX0_copyFrom 13 = .ok (.invokestatic 15, 3) := by decide +kernel
theorem dX0_copyFrom_16 : decode cX0_copyFrom 16 = .ok (.return_, 1) := by decide +kernel
set_option maxRecDepth 20000 in
theorem ggX0_hasWish_X5_hasBit : GoodIn wsX0_hasWish wsX5_hasBit := goodIn_r _ [4] (by decide +kernel) (by decide +kernel)
set_option maxRecDepth 20000 in
theorem gX0_hasWish_X5_hasBit_n21 : GoodIn wsX0_hasWish (wsX5_hasBit) := ggX0_hasWish_X5_hasBit
theorem dX0_hasWish_0 : decode cX0_hasWish 0 = .ok (.aload_n 0, 1) := by decide +kernel
theorem dX0_hasWish_1 : decode cX0_hasWish 1 = .ok (.getfield 11, 3) := by decide +kernel
theorem dX0_hasWish_4 : decode cX0_hasWish 4 = .ok (.bipush 16, 2) := by decide +kernel
theorem dX0_hasWish_6 : decode cX0_hasWish 6 = .ok (.iload_n 1, 1) := by decide +kernel
theorem dX0_hasWish_7 : decode cX0_hasWish 7 = .ok (.iadd, 1) := by decide +kernel
theorem dX0_hasWish_8 : decode cX0_hasWish 8 = .ok (.iaload, 1) := by decide +kernel
theorem dX0_hasWish_9 : decode cX0_hasWish 9 = .ok (.iload_n 2, 1) := by decide +kernel
theorem dX0_hasWish_10 : decode cX0_hasWish 10 = .ok (.invokestatic 21, 3) := by decide +kernel
theorem dX0_hasWish_13 : decode cX0_hasWish 13 = .ok (.ireturn, 1) := by decide +kernel
set_option maxRecDepth 20000 in
theorem ggX0_openWish_X0_openWishes : GoodIn wsX0_openWish wsX0_openWishes := goodIn_r _ [5, 6, 7] (by decide +kernel) (by decide +kernel)
set_option maxRecDepth 20000 in
theorem gX0_openWish_X0_openWishes : GoodIn wsX0_openWish (wsV RX0 25 RX0 yX0_openWishes wsX0_openWishes) := goodIn_app (goodIn_of _ (by decide +kernel)) ggX0_openWish_X0_openWishes
theorem dX0_openWish_0 : decode cX0_openWish 0 = .ok (.aload_n 0, 1) := by decide +kernel
theorem dX0_openWish_1 : decode cX0_openWish 1 = .ok (.iload_n 1, 1) := by decide +kernel
theorem dX0_openWish_2 : decode cX0_openWish 2 = .ok (.iconst 1, 1) := by decide +kernel
theorem dX0_openWish_3 : decode cX0_openWish 3 = .ok (.iload_n 2, 1) := by decide +kernel
theorem dX0_openWish_4 : decode cX0_openWish 4 = .ok (.ishl, 1) := by decide +kernel
theorem dX0_openWish_5 : decode cX0_openWish 5 = .ok (.invokevirtual 25, 3) := by decide +kernel
theorem dX0_openWish_8 : decode cX0_openWish 8 = .ok (.return_, 1) := by decide +kernel
theorem dX0_openWishes_0 : decode cX0_openWishes 0 = .ok (.aload_n 0, 1) := by decide +kernel
theorem dX0_openWishes_1 : decode cX0_openWishes 1 = .ok (.getfield 11, 3) := by decide +kernel
theorem dX0_openWishes_4 : decode cX0_openWishes 4 = .ok (.bipush 16, 2) := by decide +kernel
theorem dX0_openWishes_6 : decode cX0_openWishes 6 = .ok (.iload_n 1, 1) := by decide +kernel
theorem dX0_openWishes_7 : decode cX0_openWishes 7 = .ok (.iadd, 1) := by decide +kernel
theorem dX0_openWishes_8 : decode cX0_openWishes 8 = .ok (.dup2, 1) := by decide +kernel
theorem dX0_openWishes_9 : decode cX0_openWishes 9 = .ok (.iaload, 1) := by decide +kernel
theorem dX0_openWishes_10 : decode cX0_openWishes 10 = .ok (.iload_n 2, 1) := by decide +kernel
theorem dX0_openWishes_11 : decode cX0_openWishes 11 = .ok (.ior, 1) := by decide +kernel
theorem dX0_openWishes_12 : decode cX0_openWishes 12 = .ok (.iastore, 1) := by decide +kernel
theorem dX0_openWishes_13 : decode cX0_openWishes 13 = .ok (.return_, 1) := by decide +kernel
theorem dX0_closeWish_0 : decode cX0_closeWish 0 = .ok (.aload_n 0, 1) := by decide +kernel
theorem dX0_closeWish_1 : decode cX0_closeWish 1 = .ok (.getfield 11, 3) := by decide +kernel
theorem dX0_closeWish_4 : decode cX0_closeWish 4 = .ok (.bipush 16, 2) := by decide +kernel
theorem dX0_closeWish_6 : decode cX0_closeWish 6 = .ok (.iload_n 1, 1) := by decide +kernel
theorem dX0_closeWish_7 : decode cX0_closeWish 7 = .ok (.iadd, 1) := by decide +kernel
theorem dX0_closeWish_8 : decode cX0_closeWish 8 = .ok (.dup2, 1) := by decide +kernel
theorem dX0_closeWish_9 : decode cX0_closeWish 9 = .ok (.iaload, 1) := by decide +kernel
theorem dX0_closeWish_10 : decode cX0_closeWish 10 = .ok (.iconst 1, 1) := by decide +kernel
theorem dX0_closeWish_11 : decode cX0_closeWish 11 = .ok (.iload_n 2, 1) := by decide +kernel
theorem dX0_closeWish_12 : decode cX0_closeWish 12 = .ok (.ishl, 1) := by decide +kernel
theorem dX0_closeWish_13 : decode cX0_closeWish 13 = .ok (.iconst (-1), 1) := by decide +kernel
theorem dX0_closeWish_14 : decode cX0_closeWish 14 = .ok (.ixor, 1) := by decide +kernel
theorem dX0_closeWish_15 : decode cX0_closeWish 15 = .ok (.iand, 1) := by decide +kernel
theorem dX0_closeWish_16 : decode cX0_closeWish 16 = .ok (.iastore, 1) := by decide +kernel
theorem dX0_closeWish_17 : decode cX0_closeWish 17 = .ok (.return_, 1) := by decide +kernel
theorem dX0_feudOf_0 : decode cX0_feudOf 0 = .ok (.aload_n 0, 1) := by decide +kernel
theorem dX0_feudOf_1 : decode cX0_feudOf 1 = .ok (.getfield 11, 3) := by decide +kernel
theorem dX0_feudOf_4 : decode cX0_feudOf 4 = .ok (.bipush 24, 2) := by decide +kernel
theorem dX0_feudOf_6 : decode cX0_feudOf 6 = .ok (.bipush 8, 2) := by decide +kernel
theorem dX0_feudOf_8 : decode cX0_feudOf 8 = .ok (.iload_n 1, 1) := by decide +kernel
theorem dX0_feudOf_9 : decode cX0_feudOf 9 = .ok (.imul, 1) := by decide +kernel
theorem dX0_feudOf_10 : decode cX0_feudOf 10 = .ok (.iadd, 1) := by decide +kernel
theorem dX0_feudOf_11 : decode cX0_feudOf 11 = .ok (.iload_n 2, 1) := by decide +kernel
theorem dX0_feudOf_12 : decode cX0_feudOf 12 = .ok (.iadd, 1) := by decide +kernel
theorem dX0_feudOf_13 : decode cX0_feudOf 13 = .ok (.iaload, 1) := by decide +kernel
theorem dX0_feudOf_14 : decode cX0_feudOf 14 = .ok (.ireturn, 1) := by decide +kernel
theorem dX0_setFeud_0 : decode cX0_setFeud 0 = .ok (.aload_n 0, 1) := by decide +kernel
theorem dX0_setFeud_1 : decode cX0_setFeud 1 = .ok (.getfield 11, 3) := by decide +kernel
theorem dX0_setFeud_4 : decode cX0_setFeud 4 = .ok (.bipush 24, 2) := by decide +kernel
theorem dX0_setFeud_6 : decode cX0_setFeud 6 = .ok (.bipush 8, 2) := by decide +kernel
theorem dX0_setFeud_8 : decode cX0_setFeud 8 = .ok (.iload_n 1, 1) := by decide +kernel
theorem dX0_setFeud_9 : decode cX0_setFeud 9 = .ok (.imul, 1) := by decide +kernel
theorem dX0_setFeud_10 : decode cX0_setFeud 10 = .ok (.iadd, 1) := by decide +kernel
theorem dX0_setFeud_11 : decode cX0_setFeud 11 = .ok (.iload_n 2, 1) := by decide +kernel
theorem dX0_setFeud_12 : decode cX0_setFeud 12 = .ok (.iadd, 1) := by decide +kernel
theorem dX0_setFeud_13 : decode cX0_setFeud 13 = .ok (.iload_n 3, 1) := by decide +kernel
theorem dX0_setFeud_14 : decode cX0_setFeud 14 = .ok (.iastore, 1) := by decide +kernel
theorem dX0_setFeud_15 : decode cX0_setFeud 15 = .ok (.return_, 1) := by decide +kernel
theorem dX0_handshakesOf_0 : decode cX0_handshakesOf 0 = .ok (.aload_n 0, 1) := by decide +kernel
theorem dX0_handshakesOf_1 : decode cX0_handshakesOf 1 = .ok (.getfield 11, 3) := by decide +kernel
theorem dX0_handshakesOf_4 : decode cX0_handshakesOf 4 = .ok (.bipush 88, 2) := by decide +kernel
theorem dX0_handshakesOf_6 : decode cX0_handshakesOf 6 = .ok (.bipush 8, 2) := by decide +kernel
theorem dX0_handshakesOf_8 : decode cX0_handshakesOf 8 = .ok (.iload_n 1, 1) := by decide +kernel
theorem dX0_handshakesOf_9 : decode cX0_handshakesOf 9 = .ok (.imul, 1) := by decide +kernel
theorem dX0_handshakesOf_10 : decode cX0_handshakesOf 10 = .ok (.iadd, 1) := by decide +kernel
theorem dX0_handshakesOf_11 : decode cX0_handshakesOf 11 = .ok (.iload_n 2, 1) := by decide +kernel
theorem dX0_handshakesOf_12 : decode cX0_handshakesOf 12 = .ok (.iadd, 1) := by decide +kernel
theorem dX0_handshakesOf_13 : decode cX0_handshakesOf 13 = .ok (.iaload, 1) := by decide +kernel
theorem dX0_handshakesOf_14 : decode cX0_handshakesOf 14 = .ok (.ireturn, 1) := by decide +kernel
set_option maxRecDepth 20000 in
theorem ggX0_areLinked_X5_hasBit : GoodIn wsX0_areLinked wsX5_hasBit := goodIn_r _ [4] (by decide +kernel) (by decide +kernel)
set_option maxRecDepth 20000 in
theorem gX0_areLinked_X5_hasBit_n21 : GoodIn wsX0_areLinked (wsX5_hasBit) := ggX0_areLinked_X5_hasBit
theorem dX0_areLinked_0 : decode cX0_areLinked 0 = .ok (.aload_n 0, 1) := by decide +kernel
theorem dX0_areLinked_1 : decode cX0_areLinked 1 = .ok (.getfield 11, 3) := by decide +kernel
theorem dX0_areLinked_4 : decode cX0_areLinked 4 = .ok (.sipush 152, 3) := by decide +kernel
theorem dX0_areLinked_7 : decode cX0_areLinked 7 = .ok (.iaload, 1) := by decide +kernel
theorem dX0_areLinked_8 : decode cX0_areLinked 8 = .ok (.iconst 4, 1) := by decide +kernel
theorem dX0_areLinked_9 : decode cX0_areLinked 9 = .ok (.iload_n 1, 1) := by decide +kernel
theorem dX0_areLinked_10 : decode cX0_areLinked 10 = .ok (.imul, 1) := by decide +kernel
theorem dX0_areLinked_11 : decode cX0_areLinked 11 = .ok (.iload_n 2, 1) := by decide +kernel
theorem dX0_areLinked_12 : decode cX0_areLinked 12 = .ok (.iadd, 1) := by decide +kernel
theorem dX0_areLinked_13 : decode cX0_areLinked 13 = .ok (.invokestatic 21, 3) := by decide +kernel
theorem dX0_areLinked_16 : decode cX0_areLinked 16 = .ok (.ireturn, 1) := by decide +kernel
theorem dX0_setLinked_0 : decode cX0_setLinked 0 = .ok (.iconst 1, 1) := by decide +kernel
theorem dX0_setLinked_1 : decode cX0_setLinked 1 = .ok (.iconst 4, 1) := by decide +kernel
theorem dX0_setLinked_2 : decode cX0_setLinked 2 = .ok (.iload_n 1, 1) := by decide +kernel
theorem dX0_setLinked_3 : decode cX0_setLinked 3 = .ok (.imul, 1) := by decide +kernel
theorem dX0_setLinked_4 : decode cX0_setLinked 4 = .ok (.iload_n 2, 1) := by decide +kernel
theorem dX0_setLinked_5 : decode cX0_setLinked 5 = .ok (.iadd, 1) := by decide +kernel
theorem dX0_setLinked_6 : decode cX0_setLinked 6 = .ok (.ishl, 1) := by decide +kernel
theorem dX0_setLinked_7 : decode cX0_setLinked 7 = .ok (.istore 4, 2) := by decide +kernel
theorem dX0_setLinked_9 : decode cX0_setLinked 9 = .ok (.iload_n 3, 1) := by decide +kernel
theorem dX0_setLinked_10 : decode cX0_setLinked 10 = .ok (.ifCond .eq 19, 3) := by decide +kernel
theorem dX0_setLinked_13 : decode cX0_setLinked 13 = .ok (.aload_n 0, 1) := by decide +kernel
theorem dX0_setLinked_14 : decode cX0_setLinked 14 = .ok (.getfield 11, 3) := by decide +kernel
theorem dX0_setLinked_17 : decode cX0_setLinked 17 = .ok (.sipush 152, 3) := by decide +kernel
theorem dX0_setLinked_20 : decode cX0_setLinked 20 = .ok (.dup2, 1) := by decide +kernel
theorem dX0_setLinked_21 : decode cX0_setLinked 21 = .ok (.iaload, 1) := by decide +kernel
theorem dX0_setLinked_22 : decode cX0_setLinked 22 = .ok (.iload 4, 2) := by decide +kernel
theorem dX0_setLinked_24 : decode cX0_setLinked 24 = .ok (.ior, 1) := by decide +kernel
theorem dX0_setLinked_25 : decode cX0_setLinked 25 = .ok (.iastore, 1) := by decide +kernel
theorem dX0_setLinked_26 : decode cX0_setLinked 26 = .ok (.goto 18, 3) := by decide +kernel
theorem dX0_setLinked_29 : decode cX0_setLinked 29 = .ok (.aload_n 0, 1) := by decide +kernel
theorem dX0_setLinked_30 : decode cX0_setLinked 30 = .ok (.getfield 11, 3) := by decide +kernel
theorem dX0_setLinked_33 : decode cX0_setLinked 33 = .ok (.sipush 152, 3) := by decide +kernel
theorem dX0_setLinked_36 : decode cX0_setLinked 36 = .ok (.dup2, 1) := by decide +kernel
theorem dX0_setLinked_37 : decode cX0_setLinked 37 = .ok (.iaload, 1) := by decide +kernel
theorem dX0_setLinked_38 : decode cX0_setLinked 38 = .ok (.iload 4, 2) := by decide +kernel
theorem dX0_setLinked_40 : decode cX0_setLinked 40 = .ok (.iconst (-1), 1) := by decide +kernel
theorem dX0_setLinked_41 : decode cX0_setLinked 41 = .ok (.ixor, 1) := by decide +kernel
theorem dX0_setLinked_42 : decode cX0_setLinked 42 = .ok (.iand, 1) := by decide +kernel
theorem dX0_setLinked_43 : decode cX0_setLinked 43 = .ok (.iastore, 1) := by decide +kernel
theorem dX0_setLinked_44 : decode cX0_setLinked 44 = .ok (.return_, 1) := by decide +kernel
set_option maxRecDepth 20000 in
theorem ggX0_linkedPairsOfGates_J6_bitCount_0f7a4 : GoodIn wsX0_linkedPairsOfGates wsJ6_bitCount_0f7a4 := goodIn_r _ [5, 6, 7, 8] (by decide +kernel) (by decide +kernel)
set_option maxRecDepth 20000 in
theorem gX0_linkedPairsOfGates_J6_bitCount_0f7a4 : GoodIn wsX0_linkedPairsOfGates (va_wsS RX0 29 yJ6_bitCount_0f7a4 wsJ6_bitCount_0f7a4) := goodIn_app (goodIn_of _ (by decide +kernel)) ggX0_linkedPairsOfGates_J6_bitCount_0f7a4
theorem dX0_linkedPairsOfGates_0 : decode cX0_linkedPairsOfGates 0 = .ok (.aload_n 0, 1) := by decide +kernel
theorem dX0_linkedPairsOfGates_1 : decode cX0_linkedPairsOfGates 1 = .ok (.getfield 11, 3) := by decide +kernel
theorem dX0_linkedPairsOfGates_4 : decode cX0_linkedPairsOfGates 4 = .ok (.sipush 152, 3) := by decide +kernel
theorem dX0_linkedPairsOfGates_7 : decode cX0_linkedPairsOfGates 7 = .ok (.iaload, 1) := by decide +kernel
theorem dX0_linkedPairsOfGates_8 : decode cX0_linkedPairsOfGates 8 = .ok (.invokestatic 29, 3) := by decide +kernel
theorem dX0_linkedPairsOfGates_11 : decode cX0_linkedPairsOfGates 11 = .ok (.ireturn, 1) := by decide +kernel
theorem dX0_gateOf_0 : decode cX0_gateOf 0 = .ok (.aload_n 0, 1) := by decide +kernel
theorem dX0_gateOf_1 : decode cX0_gateOf 1 = .ok (.getfield 11, 3) := by decide +kernel
theorem dX0_gateOf_4 : decode cX0_gateOf 4 = .ok (.iload_n 1, 1) := by decide +kernel
theorem dX0_gateOf_5 : decode cX0_gateOf 5 = .ok (.ifCond .eq 7, 3) := by decide +kernel
theorem dX0_gateOf_8 : decode cX0_gateOf 8 = .ok (.iconst 0, 1) := by decide +kernel
theorem dX0_gateOf_9 : decode cX0_gateOf 9 = .ok (.goto 5, 3) := by decide +kernel
theorem dX0_gateOf_12 : decode cX0_gateOf 12 = .ok (.bipush 8, 2) := by decide +kernel
theorem dX0_gateOf_14 : decode cX0_gateOf 14 = .ok (.iload_n 2, 1) := by decide +kernel
theorem dX0_gateOf_15 : decode cX0_gateOf 15 = .ok (.iadd, 1) := by decide +kernel
theorem dX0_gateOf_16 : decode cX0_gateOf 16 = .ok (.iaload, 1) := by decide +kernel
theorem dX0_gateOf_17 : decode cX0_gateOf 17 = .ok (.ireturn, 1) := by decide +kernel
theorem dX0_setGate_0 : decode cX0_setGate 0 = .ok (.aload_n 0, 1) := by decide +kernel
theorem dX0_setGate_1 : decode cX0_setGate 1 = .ok (.getfield 11, 3) := by decide +kernel
theorem dX0_setGate_4 : decode cX0_setGate 4 = .ok (.iload_n 1, 1) := by decide +kernel
theorem dX0_setGate_5 : decode cX0_setGate 5 = .ok (.ifCond .eq 7, 3) := by decide +kernel
theorem dX0_setGate_8 : decode cX0_setGate 8 = .ok (.iconst 0, 1) := by decide +kernel
theorem dX0_setGate_9 : decode cX0_setGate 9 = .ok (.goto 5, 3) := by decide +kernel
theorem dX0_setGate_12 : decode cX0_setGate 12 = .ok (.bipush 8, 2) := by decide +kernel
theorem dX0_setGate_14 : decode cX0_setGate 14 = .ok (.iload_n 2, 1) := by decide +kernel
theorem dX0_setGate_15 : decode cX0_setGate 15 = .ok (.iadd, 1) := by decide +kernel
theorem dX0_setGate_16 : decode cX0_setGate 16 = .ok (.iload_n 3, 1) := by decide +kernel
theorem dX0_setGate_17 : decode cX0_setGate 17 = .ok (.iastore, 1) := by decide +kernel
theorem dX0_setGate_18 : decode cX0_setGate 18 = .ok (.return_, 1) := by decide +kernel
theorem dX0_areAtLinkedGates_0 : decode cX0_areAtLinkedGates 0 = .ok (.iconst 4, 1) := by decide +kernel
theorem dX0_areAtLinkedGates_1 : decode cX0_areAtLinkedGates 1 = .ok (.aload_n 0, 1) := by decide +kernel
theorem dX0_areAtLinkedGates_2 : decode cX0_areAtLinkedGates 2 = .ok (.getfield 11, 3) := by decide +kernel
theorem dX0_areAtLinkedGates_5 : decode cX0_areAtLinkedGates 5 = .ok (.iconst 0, 1) := by decide +kernel
theorem dX0_areAtLinkedGates_6 : decode cX0_areAtLinkedGates 6 = .ok (.iload_n 1, 1) := by decide +kernel
theorem dX0_areAtLinkedGates_7 : decode cX0_areAtLinkedGates 7 = .ok (.iadd, 1) := by decide +kernel
theorem dX0_areAtLinkedGates_8 : decode cX0_areAtLinkedGates 8 = .ok (.iaload, 1) := by decide +kernel
theorem dX0_areAtLinkedGates_9 : decode cX0_areAtLinkedGates 9 = .ok (.imul, 1) := by decide +kernel
theorem dX0_areAtLinkedGates_10 : decode cX0_areAtLinkedGates 10 = .ok (.aload_n 0, 1) := by decide +kernel
theorem dX0_areAtLinkedGates_11 : decode cX0_areAtLinkedGates 11 = .ok (.getfield 11, 3) := by decide +kernel
theorem dX0_areAtLinkedGates_14 : decode cX0_areAtLinkedGates 14 = .ok (.bipush 8, 2) := by decide +kernel
theorem dX0_areAtLinkedGates_16 : decode cX0_areAtLinkedGates 16 = .ok (.iload_n 2, 1) := by decide +kernel
theorem dX0_areAtLinkedGates_17 : decode cX0_areAtLinkedGates 17 = .ok (.iadd, 1) := by decide +kernel
theorem dX0_areAtLinkedGates_18 : decode cX0_areAtLinkedGates 18 = .ok (.iaload, 1) := by decide +kernel
theorem dX0_areAtLinkedGates_19 : decode cX0_areAtLinkedGates 19 = .ok (.iadd, 1) := by decide +kernel
theorem dX0_areAtLinkedGates_20 : decode cX0_areAtLinkedGates 20 = .ok (.istore_n 3, 1) := by decide +kernel
theorem dX0_areAtLinkedGates_21 : decode cX0_areAtLinkedGates 21 = .ok (.aload_n 0, 1) := by decide +kernel
theorem dX0_areAtLinkedGates_22 : decode cX0_areAtLinkedGates 22 = .ok (.getfield 11, 3) := by decide +kernel
theorem dX0_areAtLinkedGates_25 : decode cX0_areAtLinkedGates 25 = .ok (.sipush 152, 3) := by decide +kernel
theorem dX0_areAtLinkedGates_28 : decode cX0_areAtLinkedGates 28 = .ok (.iaload, 1) := by decide +kernel
theorem dX0_areAtLinkedGates_29 : decode cX0_areAtLinkedGates 29 = .ok (.iload_n 3, 1) := by decide +kernel
theorem dX0_areAtLinkedGates_30 : decode cX0_areAtLinkedGates 30 = .ok (.ishr, 1) := by decide +kernel
theorem dX0_areAtLinkedGates_31 : decode cX0_areAtLinkedGates 31 = .ok (.iconst 1, 1) := by decide +kernel
theorem dX0_areAtLinkedGates_32 : decode cX0_areAtLinkedGates 32 = .ok (.iand, 1) := by decide +kernel
theorem dX0_areAtLinkedGates_33 : decode cX0_areAtLinkedGates 33 = .ok (.iconst 1, 1) := by decide +kernel
theorem dX0_areAtLinkedGates_34 : decode cX0_areAtLinkedGates 34 = .ok (.if_icmp .ne 7, 3) := by decide +kernel
theorem dX0_areAtLinkedGates_37 : decode cX0_areAtLinkedGates 37 = .ok (.iconst 1, 1) := by decide +kernel
theorem dX0_areAtLinkedGates_38 : decode cX0_areAtLinkedGates 38 = .ok (.goto 4, 3) := by decide +kernel
theorem dX0_areAtLinkedGates_41 : decode cX0_areAtLinkedGates 41 = .ok (.iconst 0, 1) := by decide +kernel
theorem dX0_areAtLinkedGates_42 : decode cX0_areAtLinkedGates 42 = .ok (.ireturn, 1) := by decide +kernel
set_option maxRecDepth 20000 in
theorem ggX0_canMeet_X0_feudOf : GoodIn wsX0_canMeet wsX0_feudOf := goodIn_r _ [5, 6, 11] (by decide +kernel) (by decide +kernel)
set_option maxRecDepth 20000 in
theorem gX0_canMeet_X0_feudOf : GoodIn wsX0_canMeet (wsV RX0 35 RX0 yX0_feudOf wsX0_feudOf) := goodIn_app (goodIn_of _ (by decide +kernel)) ggX0_canMeet_X0_feudOf
set_option maxRecDepth 20000 in
theorem ggX0_canMeet_X0_areAtLinkedGates : GoodIn wsX0_canMeet wsX0_areAtLinkedGates := goodIn_r _ [10, 6, 11] (by decide +kernel) (by decide +kernel)
set_option maxRecDepth 20000 in
theorem gX0_canMeet_X0_areAtLinkedGates : GoodIn wsX0_canMeet (wsV RX0 39 RX0 yX0_areAtLinkedGates wsX0_areAtLinkedGates) := goodIn_app (goodIn_of _ (by decide +kernel)) ggX0_canMeet_X0_areAtLinkedGates
theorem dX0_canMeet_0 : decode cX0_canMeet 0 = .ok (.aload_n 0, 1) := by decide +kernel
theorem dX0_canMeet_1 : decode cX0_canMeet 1 = .ok (.iload_n 1, 1) := by decide +kernel
theorem dX0_canMeet_2 : decode cX0_canMeet 2 = .ok (.iload_n 2, 1) := by decide +kernel
theorem dX0_canMeet_3 : decode cX0_canMeet 3 = .ok (.invokevirtual 35, 3) := by decide +kernel
theorem dX0_canMeet_6 : decode cX0_canMeet 6 = .ok (.ifCond .ne 16, 3) := by decide +kernel
theorem dX0_canMeet_9 : decode cX0_canMeet 9 = .ok (.aload_n 0, 1) := by decide +kernel
theorem dX0_canMeet_10 : decode cX0_canMeet 10 = .ok (.iload_n 1, 1) := by decide +kernel
theorem dX0_canMeet_11 : decode cX0_canMeet 11 = .ok (.iload_n 2, 1) := by decide +kernel
theorem dX0_canMeet_12 : decode cX0_canMeet 12 = .ok (.invokevirtual 39, 3) := by decide +kernel
theorem dX0_canMeet_15 : decode cX0_canMeet 15 = .ok (.ifCond .eq 7, 3) := by decide +kernel
theorem dX0_canMeet_18 : decode cX0_canMeet 18 = .ok (.iconst 1, 1) := by decide +kernel
theorem dX0_canMeet_19 : decode cX0_canMeet 19 = .ok (.goto 4, 3) := by decide +kernel
theorem dX0_canMeet_22 : decode cX0_canMeet 22 = .ok (.iconst 0, 1) := by decide +kernel
theorem dX0_canMeet_23 : decode cX0_canMeet 23 = .ok (.ireturn, 1) := by decide +kernel
set_option maxRecDepth 20000 in
theorem ggX0_isPossible_X0_hasWish : GoodIn wsX0_isPossible wsX0_hasWish := goodIn_r _ [5, 6, 7, 8, 9, 22] (by decide +kernel) (by decide +kernel)
set_option maxRecDepth 20000 in
theorem gX0_isPossible_X0_hasWish : GoodIn wsX0_isPossible (wsV RX0 42 RX0 yX0_hasWish wsX0_hasWish) := goodIn_app (goodIn_of _ (by decide +kernel)) ggX0_isPossible_X0_hasWish
set_option maxRecDepth 20000 in
theorem ggX0_isPossible_X0_canMeet : GoodIn wsX0_isPossible wsX0_canMeet := goodIn_r _ [13, 14, 15, 16, 4, 17, 6, 18, 19, 20, 21, 22] (by decide +kernel) (by decide +kernel)
set_option maxRecDepth 20000 in
theorem gX0_isPossible_X0_canMeet : GoodIn wsX0_isPossible (wsV RX0 45 RX0 yX0_canMeet wsX0_canMeet) := goodIn_app (goodIn_of _ (by decide +kernel)) ggX0_isPossible_X0_canMeet
theorem dX0_isPossible_0 : decode cX0_isPossible 0 = .ok (.aload_n 0, 1) := by decide +kernel
theorem dX0_isPossible_1 : decode cX0_isPossible 1 = .ok (.iload_n 1, 1) := by decide +kernel
theorem dX0_isPossible_2 : decode cX0_isPossible 2 = .ok (.iload_n 2, 1) := by decide +kernel
theorem dX0_isPossible_3 : decode cX0_isPossible 3 = .ok (.invokevirtual 42, 3) := by decide +kernel
theorem dX0_isPossible_6 : decode cX0_isPossible 6 = .ok (.ifCond .eq 16, 3) := by decide +kernel
theorem dX0_isPossible_9 : decode cX0_isPossible 9 = .ok (.aload_n 0, 1) := by decide +kernel
theorem dX0_isPossible_10 : decode cX0_isPossible 10 = .ok (.iload_n 1, 1) := by decide +kernel
theorem dX0_isPossible_11 : decode cX0_isPossible 11 = .ok (.iload_n 2, 1) := by decide +kernel
theorem dX0_isPossible_12 : decode cX0_isPossible 12 = .ok (.invokevirtual 45, 3) := by decide +kernel
theorem dX0_isPossible_15 : decode cX0_isPossible 15 = .ok (.ifCond .eq 7, 3) := by decide +kernel
theorem dX0_isPossible_18 : decode cX0_isPossible 18 = .ok (.iconst 1, 1) := by decide +kernel
theorem dX0_isPossible_19 : decode cX0_isPossible 19 = .ok (.goto 4, 3) := by decide +kernel
theorem dX0_isPossible_22 : decode cX0_isPossible 22 = .ok (.iconst 0, 1) := by decide +kernel
theorem dX0_isPossible_23 : decode cX0_isPossible 23 = .ok (.ireturn, 1) := by decide +kernel
set_option maxRecDepth 20000 in
theorem ggX0_peopleToMeet_X0_canMeet : GoodIn wsX0_peopleToMeet wsX0_canMeet := goodIn_r _ [5, 6, 7, 8, 4, 9, 10, 11, 12, 13, 14, 15] (by decide +kernel) (by decide +kernel)
set_option maxRecDepth 20000 in
theorem gX0_peopleToMeet_X0_canMeet : GoodIn wsX0_peopleToMeet (wsV RX0 45 RX0 yX0_canMeet wsX0_canMeet) := goodIn_app (goodIn_of _ (by decide +kernel)) ggX0_peopleToMeet_X0_canMeet
theorem dX0_peopleToMeet_0 : decode cX0_peopleToMeet 0 = .ok (.iconst 0, 1) := by decide +kernel
theorem dX0_peopleToMeet_1 : decode cX0_peopleToMeet 1 = .ok (.istore_n 3, 1) := by decide +kernel
theorem dX0_peopleToMeet_2 : decode cX0_peopleToMeet 2 = .ok (.iconst 0, 1) := by decide +kernel
theorem dX0_peopleToMeet_3 : decode cX0_peopleToMeet 3 = .ok (.istore 4, 2) := by decide +kernel
theorem dX0_peopleToMeet_5 : decode cX0_peopleToMeet 5 = .ok (.iload 4, 2) := by decide +kernel
theorem dX0_peopleToMeet_7 : decode cX0_peopleToMeet 7 = .ok (.bipush 8, 2) := by decide +kernel
theorem dX0_peopleToMeet_9 : decode cX0_peopleToMeet 9 = .ok (.if_icmp .ge 43, 3) := by decide +kernel
theorem dX0_peopleToMeet_12 : decode cX0_peopleToMeet 12 = .ok (.iload_n 1, 1) := by decide +kernel
theorem dX0_peopleToMeet_13 : decode cX0_peopleToMeet 13 = .ok (.ifCond .eq 16, 3) := by decide +kernel
theorem dX0_peopleToMeet_16 : decode cX0_peopleToMeet 16 = .ok (.aload_n 0, 1) := by decide +kernel
theorem dX0_peopleToMeet_17 : decode cX0_peopleToMeet 17 = .ok (.iload_n 2, 1) := by decide +kernel
theorem dX0_peopleToMeet_18 : decode cX0_peopleToMeet 18 = .ok (.iload 4, 2) := by decide +kernel
theorem dX0_peopleToMeet_20 : decode cX0_peopleToMeet 20 = .ok (.invokevirtual 45, 3) := by decide +kernel
theorem dX0_peopleToMeet_23 : decode cX0_peopleToMeet 23 = .ok (.ifCond .eq 23, 3) := by decide +kernel
theorem dX0_peopleToMeet_26 : decode cX0_peopleToMeet 26 = .ok (.goto 13, 3) := by decide +kernel
theorem dX0_peopleToMeet_29 : decode cX0_peopleToMeet 29 = .ok (.aload_n 0, 1) := by decide +kernel
theorem dX0_peopleToMeet_30 : decode cX0_peopleToMeet 30 = .ok (.iload 4, 2) := by decide +kernel
theorem dX0_peopleToMeet_32 : decode cX0_peopleToMeet 32 = .ok (.iload_n 2, 1) := by decide +kernel
theorem dX0_peopleToMeet_33 : decode cX0_peopleToMeet 33 = .ok (.invokevirtual 45, 3) := by decide +kernel
theorem dX0_peopleToMeet_36 : decode cX0_peopleToMeet 36 = .ok (.ifCond .eq 10, 3) := by decide +kernel
theorem dX0_peopleToMeet_39 : decode cX0_peopleToMeet 39 = .ok (.iload_n 3, 1) := by decide +kernel
theorem dX0_peopleToMeet_40 : decode cX0_peopleToMeet 40 = .ok (.iconst 1, 1) := by decide +kernel
theorem dX0_peopleToMeet_41 : decode cX0_peopleToMeet 41 = .ok (.iload 4, 2) := by decide +kernel
theorem dX0_peopleToMeet_43 : decode cX0_peopleToMeet 43 = .ok (.ishl, 1) := by decide +kernel
theorem dX0_peopleToMeet_44 : decode cX0_peopleToMeet 44 = .ok (.ior, 1) := by decide +kernel
theorem dX0_peopleToMeet_45 : decode cX0_peopleToMeet 45 = .ok (.istore_n 3, 1) := by decide +kernel
theorem dX0_peopleToMeet_46 : decode cX0_peopleToMeet 46 = .ok (.iinc 4 1, 3) := by decide +kernel
theorem dX0_peopleToMeet_49 : decode cX0_peopleToMeet 49 = .ok (.goto (-44), 3) := by decide +kernel
theorem dX0_peopleToMeet_52 : decode cX0_peopleToMeet 52 = .ok (.iload_n 3, 1) := by decide +kernel
theorem dX0_peopleToMeet_53 : decode cX0_peopleToMeet 53 = .ok (.ireturn, 1) := by decide +kernel
set_option maxRecDepth 20000 in
theorem ggX0_hasWishOverUnlinkedGates_X0_hasWish : GoodIn wsX0_hasWishOverUnlinkedGates wsX0_hasWish := goodIn_r _ [5, 6, 7, 8, 9, 14] (by decide +kernel) (by decide +kernel)
set_option maxRecDepth 20000 in
theorem gX0_hasWishOverUnlinkedGates_X0_hasWish : GoodIn wsX0_hasWishOverUnlinkedGates (wsV RX0 42 RX0 yX0_hasWish wsX0_hasWish) := goodIn_app (goodIn_of _ (by decide +kernel)) ggX0_hasWishOverUnlinkedGates_X0_hasWish
set_option maxRecDepth 20000 in
theorem ggX0_hasWishOverUnlinkedGates_X0_areAtLinkedGates : GoodIn wsX0_hasWishOverUnlinkedGates wsX0_areAtLinkedGates := goodIn_r _ [13, 6, 14] (by decide +kernel) (by decide +kernel)
set_option maxRecDepth 20000 in
theorem gX0_hasWishOverUnlinkedGates_X0_areAtLinkedGates : GoodIn wsX0_hasWishOverUnlinkedGates (wsV RX0 39 RX0 yX0_areAtLinkedGates wsX0_areAtLinkedGates) := goodIn_app (goodIn_of _ (by decide +kernel)) ggX0_hasWishOverUnlinkedGates_X0_areAtLinkedGates
theorem dX0_hasWishOverUnlinkedGates_0 : decode cX0_hasWishOverUnlinkedGates 0 = .ok (.iconst 0, 1) := by decide +kernel
theorem dX0_hasWishOverUnlinkedGates_1 : decode cX0_hasWishOverUnlinkedGates 1 = .ok (.istore_n 1, 1) := by decide +kernel
theorem dX0_hasWishOverUnlinkedGates_2 : decode cX0_hasWishOverUnlinkedGates 2 = .ok (.iload_n 1, 1) := by decide +kernel
theorem dX0_hasWishOverUnlinkedGates_3 : decode cX0_hasWishOverUnlinkedGates 3 = .ok (.bipush 8, 2) := by decide +kernel
theorem dX0_hasWishOverUnlinkedGates_5 : decode cX0_hasWishOverUnlinkedGates 5 = .ok (.if_icmp .ge 43, 3) := by decide +kernel
theorem dX0_hasWishOverUnlinkedGates_8 : decode cX0_hasWishOverUnlinkedGates 8 = .ok (.iconst 0, 1) := by decide +kernel
theorem dX0_hasWishOverUnlinkedGates_9 : decode cX0_hasWishOverUnlinkedGates 9 = .ok (.istore_n 2, 1) := by decide +kernel
theorem dX0_hasWishOverUnlinkedGates_10 : decode cX0_hasWishOverUnlinkedGates 10 = .ok (.iload_n 2, 1) := by decide +kernel
theorem dX0_hasWishOverUnlinkedGates_11 : decode cX0_hasWishOverUnlinkedGates 11 = .ok (.bipush 8, 2) := by decide +kernel
theorem dX0_hasWishOverUnlinkedGates_13 : decode cX0_hasWishOverUnlinkedGates 13 = .ok (.if_icmp .ge 29, 3) := by decide +kernel
theorem dX0_hasWishOverUnlinkedGates_16 : decode cX0_hasWishOverUnlinkedGates 16 = .ok (.aload_n 0, 1) := by decide +kernel
theorem dX0_hasWishOverUnlinkedGates_17 : decode cX0_hasWishOverUnlinkedGates 17 = .ok (.iload_n 1, 1) := by decide +kernel
theorem dX0_hasWishOverUnlinkedGates_18 : decode cX0_hasWishOverUnlinkedGates 18 = .ok (.iload_n 2, 1) := by decide +kernel
theorem dX0_hasWishOverUnlinkedGates_19 : decode cX0_hasWishOverUnlinkedGates 19 = .ok (.invokevirtual 42, 3) := by decide +kernel
theorem dX0_hasWishOverUnlinkedGates_22 : decode cX0_hasWishOverUnlinkedGates 22 = .ok (.ifCond .eq 14, 3) := by decide +kernel
theorem dX0_hasWishOverUnlinkedGates_25 : decode cX0_hasWishOverUnlinkedGates 25 = .ok (.aload_n 0, 1) := by decide +kernel
theorem dX0_hasWishOverUnlinkedGates_26 : decode cX0_hasWishOverUnlinkedGates 26 = .ok (.iload_n 1, 1) := by decide +kernel
theorem dX0_hasWishOverUnlinkedGates_27 : decode cX0_hasWishOverUnlinkedGates 27 = .ok (.iload_n 2, 1) := by decide +kernel
theorem dX0_hasWishOverUnlinkedGates_28 : decode cX0_hasWishOverUnlinkedGates 28 = .ok (.invokevirtual 39, 3) := by decide +kernel
theorem dX0_hasWishOverUnlinkedGates_31 : decode cX0_hasWishOverUnlinkedGates 31 = .ok (.ifCond .ne 5, 3) := by decide +kernel
theorem dX0_hasWishOverUnlinkedGates_34 : decode cX0_hasWishOverUnlinkedGates 34 = .ok (.iconst 1, 1) := by decide +kernel
theorem dX0_hasWishOverUnlinkedGates_35 : decode cX0_hasWishOverUnlinkedGates 35 = .ok (.ireturn, 1) := by decide +kernel
theorem dX0_hasWishOverUnlinkedGates_36 : decode cX0_hasWishOverUnlinkedGates 36 = .ok (.iinc 2 1, 3) := by decide +kernel
theorem dX0_hasWishOverUnlinkedGates_39 : decode cX0_hasWishOverUnlinkedGates 39 = .ok (.goto (-29), 3) := by decide +kernel
theorem dX0_hasWishOverUnlinkedGates_42 : decode cX0_hasWishOverUnlinkedGates 42 = .ok (.iinc 1 1, 3) := by decide +kernel
theorem dX0_hasWishOverUnlinkedGates_45 : decode cX0_hasWishOverUnlinkedGates 45 = .ok (.goto (-43), 3) := by decide +kernel
theorem dX0_hasWishOverUnlinkedGates_48 : decode cX0_hasWishOverUnlinkedGates 48 = .ok (.iconst 0, 1) := by decide +kernel
theorem dX0_hasWishOverUnlinkedGates_49 : decode cX0_hasWishOverUnlinkedGates 49 = .ok (.ireturn, 1) := by decide +kernel
set_option maxRecDepth 20000 in
theorem ggX0_amountOfPair_X0_hasWish : GoodIn wsX0_amountOfPair wsX0_hasWish := goodIn_r _ [5, 6, 7, 8, 9, 32] (by decide +kernel) (by decide +kernel)
set_option maxRecDepth 20000 in
theorem gX0_amountOfPair_X0_hasWish : GoodIn wsX0_amountOfPair (wsV RX0 42 RX0 yX0_hasWish wsX0_hasWish) := goodIn_app (goodIn_of _ (by decide +kernel)) ggX0_amountOfPair_X0_hasWish
set_option maxRecDepth 20000 in
theorem ggX0_amountOfPair_X5_asNumber : GoodIn wsX0_amountOfPair wsX5_asNumber := goodIn_r _ [11] (by decide +kernel) (by decide +kernel)
set_option maxRecDepth 20000 in
theorem gX0_amountOfPair_X5_asNumber_n48 : GoodIn wsX0_amountOfPair (wsX5_asNumber) := ggX0_amountOfPair_X5_asNumber
set_option maxRecDepth 20000 in
theorem ggX0_amountOfPair_X0_isPossible : GoodIn wsX0_amountOfPair wsX0_isPossible := goodIn_r _ [15, 1, 2, 3, 4, 5, 6, 7, 8, 9, 16, 17, 18, 19, 20, 21, 22, 23, 24, 25, 26, 27, 32] (by decide +kernel) (by decide +kernel)
set_option maxRecDepth 20000 in
theorem gX0_amountOfPair_X0_isPossible : GoodIn wsX0_amountOfPair (wsV RX0 52 RX0 yX0_isPossible wsX0_isPossible) := goodIn_app (goodIn_of _ (by decide +kernel)) ggX0_amountOfPair_X0_isPossible
set_option maxRecDepth 20000 in
theorem ggX0_amountOfPair_X0_feudOf : GoodIn wsX0_amountOfPair wsX0_feudOf := goodIn_r _ [23, 6, 32] (by decide +kernel) (by decide +kernel)
set_option maxRecDepth 20000 in
theorem gX0_amountOfPair_X0_feudOf : GoodIn wsX0_amountOfPair (wsV RX0 35 RX0 yX0_feudOf wsX0_feudOf) := goodIn_app (goodIn_of _ (by decide +kernel)) ggX0_amountOfPair_X0_feudOf
set_option maxRecDepth 20000 in
theorem ggX0_amountOfPair_X0_handshakesOf : GoodIn wsX0_amountOfPair wsX0_handshakesOf := goodIn_r _ [31, 6, 32] (by decide +kernel) (by decide +kernel)
set_option maxRecDepth 20000 in
theorem gX0_amountOfPair_X0_handshakesOf : GoodIn wsX0_amountOfPair (wsV RX0 55 RX0 yX0_handshakesOf wsX0_handshakesOf) := goodIn_app (goodIn_of _ (by decide +kernel)) ggX0_amountOfPair_X0_handshakesOf
theorem dX0_amountOfPair_0 : decode cX0_amountOfPair 0 = .ok (.iload_n 3, 1) := by decide +kernel
theorem dX0_amountOfPair_1 : decode cX0_amountOfPair 1 = .ok (.tableswitch 76 1 4 #[31, 41, 51, 69], 31) := by decide +kernel
theorem dX0_amountOfPair_32 : decode cX0_amountOfPair 32 = .ok (.aload_n 0, 1) := by decide +kernel
theorem dX0_amountOfPair_33 : decode cX0_amountOfPair 33 = .ok (.iload_n 1, 1) := by decide +kernel
theorem dX0_amountOfPair_34 : decode cX0_amountOfPair 34 = .ok (.iload_n 2, 1) := by decide +kernel
theorem dX0_amountOfPair_35 : decode cX0_amountOfPair 35 = .ok (.invokevirtual 42, 3) := by decide +kernel
theorem dX0_amountOfPair_38 : decode cX0_amountOfPair 38 = .ok (.invokestatic 48, 3) := by decide +kernel
theorem dX0_amountOfPair_41 : decode cX0_amountOfPair 41 = .ok (.ireturn, 1) := by decide +kernel
theorem dX0_amountOfPair_42 : decode cX0_amountOfPair 42 = .ok (.aload_n 0, 1) := by decide +kernel
theorem dX0_amountOfPair_43 : decode cX0_amountOfPair 43 = .ok (.iload_n 1, 1) := by decide +kernel
theorem dX0_amountOfPair_44 : decode cX0_amountOfPair 44 = .ok (.iload_n 2, 1) := by decide +kernel
theorem dX0_amountOfPair_45 : decode cX0_amountOfPair 45 = .ok (.invokevirtual 52, 3) := by decide +kernel
theorem dX0_amountOfPair_48 : decode cX0_amountOfPair 48 = .ok (.invokestatic 48, 3) := by decide +kernel
theorem dX0_amountOfPair_51 : decode cX0_amountOfPair 51 = .ok (.ireturn, 1) := by decide +kernel
theorem dX0_amountOfPair_52 : decode cX0_amountOfPair 52 = .ok (.aload_n 0, 1) := by decide +kernel
theorem dX0_amountOfPair_53 : decode cX0_amountOfPair 53 = .ok (.iload_n 1, 1) := by decide +kernel
theorem dX0_amountOfPair_54 : decode cX0_amountOfPair 54 = .ok (.iload_n 2, 1) := by decide +kernel
theorem dX0_amountOfPair_55 : decode cX0_amountOfPair 55 = .ok (.invokevirtual 35, 3) := by decide +kernel
theorem dX0_amountOfPair_58 : decode cX0_amountOfPair 58 = .ok (.ifCond .le 7, 3) := by decide +kernel
theorem dX0_amountOfPair_61 : decode cX0_amountOfPair 61 = .ok (.iconst 1, 1) := by decide +kernel
theorem dX0_amountOfPair_62 : decode cX0_amountOfPair 62 = .ok (.goto 4, 3) := by decide +kernel
theorem dX0_amountOfPair_65 : decode cX0_amountOfPair 65 = .ok (.iconst 0, 1) := by decide +kernel
theorem dX0_amountOfPair_66 : decode cX0_amountOfPair 66 = .ok (.invokestatic 48, 3) := by decide +kernel
theorem dX0_amountOfPair_69 : decode cX0_amountOfPair 69 = .ok (.ireturn, 1) := by decide +kernel
theorem dX0_amountOfPair_70 : decode cX0_amountOfPair 70 = .ok (.aload_n 0, 1) := by decide +kernel
theorem dX0_amountOfPair_71 : decode cX0_amountOfPair 71 = .ok (.iload_n 1, 1) := by decide +kernel
theorem dX0_amountOfPair_72 : decode cX0_amountOfPair 72 = .ok (.iload_n 2, 1) := by decide +kernel
theorem dX0_amountOfPair_73 : decode cX0_amountOfPair 73 = .ok (.invokevirtual 55, 3) := by decide +kernel
theorem dX0_amountOfPair_76 : decode cX0_amountOfPair 76 = .ok (.ireturn, 1) := by decide +kernel
theorem dX0_amountOfPair_77 : decode cX0_amountOfPair 77 = .ok (.iconst 0, 1) := by decide +kernel
theorem dX0_amountOfPair_78 : decode cX0_amountOfPair 78 = .ok (.ireturn, 1) := by decide +kernel
set_option maxRecDepth 20000 in
theorem ggX0_amountOfPerson_X0_amountOfPair : GoodIn wsX0_amountOfPerson wsX0_amountOfPair := goodIn_r _ [5, 6, 7, 8, 4, 9, 10, 11, 12, 13, 14, 15, 16, 17, 18, 19, 20, 21, 22, 23, 24, 25, 26, 27, 28, 29, 30, 31, 32, 33, 34, 35, 36] (by decide +kernel) (by decide +kernel)
set_option maxRecDepth 20000 in
theorem gX0_amountOfPerson_X0_amountOfPair : GoodIn wsX0_amountOfPerson (wsV RX0 58 RX0 yX0_amountOfPair wsX0_amountOfPair) := goodIn_app (goodIn_of _ (by decide +kernel)) ggX0_amountOfPerson_X0_amountOfPair
theorem dX0_amountOfPerson_0 : decode cX0_amountOfPerson 0 = .ok (.iconst 0, 1) := by decide +kernel
theorem dX0_amountOfPerson_1 : decode cX0_amountOfPerson 1 = .ok (.istore 4, 2) := by decide +kernel
theorem dX0_amountOfPerson_3 : decode cX0_amountOfPerson 3 = .ok (.iconst 0, 1) := by decide +kernel
theorem dX0_amountOfPerson_4 : decode cX0_amountOfPerson 4 = .ok (.istore 5, 2) := by decide +kernel
theorem dX0_amountOfPerson_6 : decode cX0_amountOfPerson 6 = .ok (.iload 5, 2) := by decide +kernel
theorem dX0_amountOfPerson_8 : decode cX0_amountOfPerson 8 = .ok (.bipush 8, 2) := by decide +kernel
theorem dX0_amountOfPerson_10 : decode cX0_amountOfPerson 10 = .ok (.if_icmp .ge 37, 3) := by decide +kernel
theorem dX0_amountOfPerson_13 : decode cX0_amountOfPerson 13 = .ok (.iload 4, 2) := by decide +kernel
theorem dX0_amountOfPerson_15 : decode cX0_amountOfPerson 15 = .ok (.iload_n 1, 1) := by decide +kernel
theorem dX0_amountOfPerson_16 : decode cX0_amountOfPerson 16 = .ok (.ifCond .eq 14, 3) := by decide +kernel
theorem dX0_amountOfPerson_19 : decode cX0_amountOfPerson 19 = .ok (.aload_n 0, 1) := by decide +kernel
theorem dX0_amountOfPerson_20 : decode cX0_amountOfPerson 20 = .ok (.iload_n 2, 1) := by decide +kernel
theorem dX0_amountOfPerson_21 : decode cX0_amountOfPerson 21 = .ok (.iload 5, 2) := by decide +kernel
theorem dX0_amountOfPerson_23 : decode cX0_amountOfPerson 23 = .ok (.iload_n 3, 1) := by decide +kernel
theorem dX0_amountOfPerson_24 : decode cX0_amountOfPerson 24 = .ok (.invokevirtual 58, 3) := by decide +kernel
theorem dX0_amountOfPerson_27 : decode cX0_amountOfPerson 27 = .ok (.goto 11, 3) := by decide +kernel
theorem dX0_amountOfPerson_30 : decode cX0_amountOfPerson 30 = .ok (.aload_n 0, 1) := by decide +kernel
theorem dX0_amountOfPerson_31 : decode cX0_amountOfPerson 31 = .ok (.iload 5, 2) := by decide +kernel
theorem dX0_amountOfPerson_33 : decode cX0_amountOfPerson 33 = .ok (.iload_n 2, 1) := by decide +kernel
theorem dX0_amountOfPerson_34 : decode cX0_amountOfPerson 34 = .ok (.iload_n 3, 1) := by decide +kernel
theorem dX0_amountOfPerson_35 : decode cX0_amountOfPerson 35 = .ok (.invokevirtual 58, 3) := by decide +kernel
theorem dX0_amountOfPerson_38 : decode cX0_amountOfPerson 38 = .ok (.iadd, 1) := by decide +kernel
theorem dX0_amountOfPerson_39 : decode cX0_amountOfPerson 39 = .ok (.istore 4, 2) := by decide +kernel
theorem dX0_amountOfPerson_41 : decode cX0_amountOfPerson 41 = .ok (.iinc 5 1, 3) := by decide +kernel
theorem dX0_amountOfPerson_44 : decode cX0_amountOfPerson 44 = .ok (.goto (-38), 3) := by decide +kernel
theorem dX0_amountOfPerson_47 : decode cX0_amountOfPerson 47 = .ok (.iload 4, 2) := by decide +kernel
theorem dX0_amountOfPerson_49 : decode cX0_amountOfPerson 49 = .ok (.ireturn, 1) := by decide +kernel
set_option maxRecDepth 20000 in
theorem ggX0_amountOfAll_X0_amountOfPerson : GoodIn wsX0_amountOfAll wsX0_amountOfPerson := goodIn_r _ [5, 6, 7, 8, 4, 9, 10, 11, 12, 13, 14, 15, 16, 17, 18, 19, 20, 21, 22, 23, 24, 25, 26, 27, 28, 29, 30, 31, 32, 33, 34, 35, 36, 37, 38, 39, 40] (by decide +kernel) (by decide +kernel)
set_option maxRecDepth 20000 in
theorem gX0_amountOfAll_X0_amountOfPerson : GoodIn wsX0_amountOfAll (wsV RX0 62 RX0 yX0_amountOfPerson wsX0_amountOfPerson) := goodIn_app (goodIn_of _ (by decide +kernel)) ggX0_amountOfAll_X0_amountOfPerson
theorem dX0_amountOfAll_0 : decode cX0_amountOfAll 0 = .ok (.iconst 0, 1) := by decide +kernel
theorem dX0_amountOfAll_1 : decode cX0_amountOfAll 1 = .ok (.istore_n 2, 1) := by decide +kernel
theorem dX0_amountOfAll_2 : decode cX0_amountOfAll 2 = .ok (.iconst 0, 1) := by decide +kernel
theorem dX0_amountOfAll_3 : decode cX0_amountOfAll 3 = .ok (.istore_n 3, 1) := by decide +kernel
theorem dX0_amountOfAll_4 : decode cX0_amountOfAll 4 = .ok (.iload_n 3, 1) := by decide +kernel
theorem dX0_amountOfAll_5 : decode cX0_amountOfAll 5 = .ok (.bipush 8, 2) := by decide +kernel
theorem dX0_amountOfAll_7 : decode cX0_amountOfAll 7 = .ok (.if_icmp .ge 19, 3) := by decide +kernel
theorem dX0_amountOfAll_10 : decode cX0_amountOfAll 10 = .ok (.iload_n 2, 1) := by decide +kernel
end
section
theorem dX0_amountOfAll_11 : decode cX0_amountOfAll 11 = .ok (.aload_n 0, 1) := by decide +kernel
theorem dX0_amountOfAll_12 : decode cX0_amountOfAll 12 = .ok (.iconst 1, 1) := by decide +kernel
theorem dX0_amountOfAll_13 : decode cX0_amountOfAll 13 = .ok (.iload_n 3, 1) := by decide +kernel
theorem dX0_amountOfAll_14 : decode cX0_amountOfAll 14 = .ok (.iload_n 1, 1) := by decide +kernel
theorem dX0_amountOfAll_15 : decode cX0_amountOfAll 15 = .ok (.invokevirtual 62, 3) := by decide +kernel
theorem dX0_amountOfAll_18 : decode cX0_amountOfAll 18 = .ok (.iadd, 1) := by decide +kernel
theorem dX0_amountOfAll_19 : decode cX0_amountOfAll 19 = .ok (.istore_n 2, 1) := by decide +kernel
theorem dX0_amountOfAll_20 : decode cX0_amountOfAll 20 = .ok (.iinc 3 1, 3) := by decide +kernel
theorem dX0_amountOfAll_23 : decode cX0_amountOfAll 23 = .ok (.goto (-19), 3) := by decide +kernel
theorem dX0_amountOfAll_26 : decode cX0_amountOfAll 26 = .ok (.iload_n 2, 1) := by decide +kernel
theorem dX0_amountOfAll_27 : decode cX0_amountOfAll 27 = .ok (.ireturn, 1) := by decide +kernel
set_option maxRecDepth 20000 in
theorem ggX0_numberOfWishes_J6_bitCount_0f7a4 : GoodIn wsX0_numberOfWishes wsJ6_bitCount_0f7a4 := goodIn_r _ [5, 6, 7, 8] (by decide +kernel) (by decide +kernel)
set_option maxRecDepth 20000 in
theorem gX0_numberOfWishes_J6_bitCount_0f7a4 : GoodIn wsX0_numberOfWishes (va_wsS RX0 29 yJ6_bitCount_0f7a4 wsJ6_bitCount_0f7a4) := goodIn_app (goodIn_of _ (by decide +kernel)) ggX0_numberOfWishes_J6_bitCount_0f7a4
theorem dX0_numberOfWishes_0 : decode cX0_numberOfWishes 0 = .ok (.iconst 0, 1) := by decide +kernel
theorem dX0_numberOfWishes_1 : decode cX0_numberOfWishes 1 = .ok (.istore_n 1, 1) := by decide +kernel
theorem dX0_numberOfWishes_2 : decode cX0_numberOfWishes 2 = .ok (.iconst 0, 1) := by decide +kernel
theorem dX0_numberOfWishes_3 : decode cX0_numberOfWishes 3 = .ok (.istore_n 2, 1) := by decide +kernel
theorem dX0_numberOfWishes_4 : decode cX0_numberOfWishes 4 = .ok (.iload_n 2, 1) := by decide +kernel
theorem dX0_numberOfWishes_5 : decode cX0_numberOfWishes 5 = .ok (.bipush 8, 2) := by decide +kernel
theorem dX0_numberOfWishes_7 : decode cX0_numberOfWishes 7 = .ok (.if_icmp .ge 24, 3) := by decide +kernel
theorem dX0_numberOfWishes_10 : decode cX0_numberOfWishes 10 = .ok (.iload_n 1, 1) := by decide +kernel
theorem dX0_numberOfWishes_11 : decode cX0_numberOfWishes 11 = .ok (.aload_n 0, 1) := by decide +kernel
theorem dX0_numberOfWishes_12 : decode cX0_numberOfWishes 12 = .ok (.getfield 11, 3) := by decide +kernel
theorem dX0_numberOfWishes_15 : decode cX0_numberOfWishes 15 = .ok (.bipush 16, 2) := by decide +kernel
theorem dX0_numberOfWishes_17 : decode cX0_numberOfWishes 17 = .ok (.iload_n 2, 1) := by decide +kernel
theorem dX0_numberOfWishes_18 : decode cX0_numberOfWishes 18 = .ok (.iadd, 1) := by decide +kernel
theorem dX0_numberOfWishes_19 : decode cX0_numberOfWishes 19 = .ok (.iaload, 1) := by decide +kernel
theorem dX0_numberOfWishes_20 : decode cX0_numberOfWishes 20 = .ok (.invokestatic 29, 3) := by decide +kernel
theorem dX0_numberOfWishes_23 : decode cX0_numberOfWishes 23 = .ok (.iadd, 1) := by decide +kernel
theorem dX0_numberOfWishes_24 : decode cX0_numberOfWishes 24 = .ok (.istore_n 1, 1) := by decide +kernel
theorem dX0_numberOfWishes_25 : decode cX0_numberOfWishes 25 = .ok (.iinc 2 1, 3) := by decide +kernel
theorem dX0_numberOfWishes_28 : decode cX0_numberOfWishes 28 = .ok (.goto (-24), 3) := by decide +kernel
theorem dX0_numberOfWishes_31 : decode cX0_numberOfWishes 31 = .ok (.iload_n 1, 1) := by decide +kernel
theorem dX0_numberOfWishes_32 : decode cX0_numberOfWishes 32 = .ok (.ireturn, 1) := by decide +kernel
theorem dX0_roundsSoFar_0 : decode cX0_roundsSoFar 0 = .ok (.aload_n 0, 1) := by decide +kernel
theorem dX0_roundsSoFar_1 : decode cX0_roundsSoFar 1 = .ok (.getfield 11, 3) := by decide +kernel
theorem dX0_roundsSoFar_4 : decode cX0_roundsSoFar 4 = .ok (.sipush 153, 3) := by decide +kernel
theorem dX0_roundsSoFar_7 : decode cX0_roundsSoFar 7 = .ok (.iaload, 1) := by decide +kernel
theorem dX0_roundsSoFar_8 : decode cX0_roundsSoFar 8 = .ok (.ireturn, 1) := by decide +kernel
set_option maxRecDepth 20000 in
theorem ggX0_shakeHands_X0_closeWish : GoodIn wsX0_shakeHands wsX0_closeWish := goodIn_r _ [6, 1, 7] (by decide +kernel) (by decide +kernel)
set_option maxRecDepth 20000 in
theorem gX0_shakeHands_X0_closeWish : GoodIn wsX0_shakeHands (wsV RX0 66 RX0 yX0_closeWish wsX0_closeWish) := goodIn_app (goodIn_of _ (by decide +kernel)) ggX0_shakeHands_X0_closeWish
theorem dX0_shakeHands_0 : decode cX0_shakeHands 0 = .ok (.aload_n 0, 1) := by decide +kernel
theorem dX0_shakeHands_1 : decode cX0_shakeHands 1 = .ok (.getfield 11, 3) := by decide +kernel
theorem dX0_shakeHands_4 : decode cX0_shakeHands 4 = .ok (.bipush 88, 2) := by decide +kernel
theorem dX0_shakeHands_6 : decode cX0_shakeHands 6 = .ok (.bipush 8, 2) := by decide +kernel
theorem dX0_shakeHands_8 : decode cX0_shakeHands 8 = .ok (.iload_n 1, 1) := by decide +kernel
theorem dX0_shakeHands_9 : decode cX0_shakeHands 9 = .ok (.imul, 1) := by decide +kernel
theorem dX0_shakeHands_10 : decode cX0_shakeHands 10 = .ok (.iadd, 1) := by decide +kernel
theorem dX0_shakeHands_11 : decode cX0_shakeHands 11 = .ok (.iload_n 2, 1) := by decide +kernel
theorem dX0_shakeHands_12 : decode cX0_shakeHands 12 = .ok (.iadd, 1) := by decide +kernel
theorem dX0_shakeHands_13 : decode cX0_shakeHands 13 = .ok (.dup2, 1) := by decide +kernel
theorem dX0_shakeHands_14 : decode cX0_shakeHands 14 = .ok (.iaload, 1) := by decide +kernel
theorem dX0_shakeHands_15 : decode cX0_shakeHands 15 = .ok (.iconst 1, 1) := by decide +kernel
theorem dX0_shakeHands_16 : decode cX0_shakeHands 16 = .ok (.iadd, 1) := by decide +kernel
theorem dX0_shakeHands_17 : decode cX0_shakeHands 17 = .ok (.iastore, 1) := by decide +kernel
theorem dX0_shakeHands_18 : decode cX0_shakeHands 18 = .ok (.aload_n 0, 1) := by decide +kernel
theorem dX0_shakeHands_19 : decode cX0_shakeHands 19 = .ok (.iload_n 1, 1) := by decide +kernel
theorem dX0_shakeHands_20 : decode cX0_shakeHands 20 = .ok (.iload_n 2, 1) := by decide +kernel
theorem dX0_shakeHands_21 : decode cX0_shakeHands 21 = .ok (.invokevirtual 66, 3) := by decide +kernel
theorem dX0_shakeHands_24 : decode cX0_shakeHands 24 = .ok (.return_, 1) := by decide +kernel
theorem dX0_endRound_0 : decode cX0_endRound 0 = .ok (.bipush 24, 2) := by decide +kernel
theorem dX0_endRound_2 : decode cX0_endRound 2 = .ok (.istore_n 1, 1) := by decide +kernel
theorem dX0_endRound_3 : decode cX0_endRound 3 = .ok (.iload_n 1, 1) := by decide +kernel
theorem dX0_endRound_4 : decode cX0_endRound 4 = .ok (.bipush 88, 2) := by decide +kernel
theorem dX0_endRound_6 : decode cX0_endRound 6 = .ok (.if_icmp .ge 28, 3) := by decide +kernel
theorem dX0_endRound_9 : decode cX0_endRound 9 = .ok (.aload_n 0, 1) := by decide +kernel
theorem dX0_endRound_10 : decode cX0_endRound 10 = .ok (.getfield 11, 3) := by decide +kernel
theorem dX0_endRound_13 : decode cX0_endRound 13 = .ok (.iload_n 1, 1) := by decide +kernel
theorem dX0_endRound_14 : decode cX0_endRound 14 = .ok (.iaload, 1) := by decide +kernel
theorem dX0_endRound_15 : decode cX0_endRound 15 = .ok (.ifCond .le 13, 3) := by decide +kernel
theorem dX0_endRound_18 : decode cX0_endRound 18 = .ok (.aload_n 0, 1) := by decide +kernel
theorem dX0_endRound_19 : decode cX0_endRound 19 = .ok (.getfield 11, 3) := by decide +kernel
theorem dX0_endRound_22 : decode cX0_endRound 22 = .ok (.iload_n 1, 1) := by decide +kernel
theorem dX0_endRound_23 : decode cX0_endRound 23 = .ok (.dup2, 1) := by decide +kernel
theorem dX0_endRound_24 : decode cX0_endRound 24 = .ok (.iaload, 1) := by decide +kernel
theorem dX0_endRound_25 : decode cX0_endRound 25 = .ok (.iconst 1, 1) := by decide +kernel
theorem dX0_endRound_26 : decode cX0_endRound 26 = .ok (.isub, 1) := by decide +kernel
theorem dX0_endRound_27 : decode cX0_endRound 27 = .ok (.iastore, 1) := by decide +kernel
theorem dX0_endRound_28 : decode cX0_endRound 28 = .ok (.iinc 1 1, 3) := by decide +kernel
theorem dX0_endRound_31 : decode cX0_endRound 31 = .ok (.goto (-28), 3) := by decide +kernel
theorem dX0_endRound_34 : decode cX0_endRound 34 = .ok (.aload_n 0, 1) := by decide +kernel
theorem dX0_endRound_35 : decode cX0_endRound 35 = .ok (.getfield 11, 3) := by decide +kernel
theorem dX0_endRound_38 : decode cX0_endRound 38 = .ok (.sipush 153, 3) := by decide +kernel
theorem dX0_endRound_41 : decode cX0_endRound 41 = .ok (.dup2, 1) := by decide +kernel
theorem dX0_endRound_42 : decode cX0_endRound 42 = .ok (.iaload, 1) := by decide +kernel
theorem dX0_endRound_43 : decode cX0_endRound 43 = .ok (.iconst 1, 1) := by decide +kernel
theorem dX0_endRound_44 : decode cX0_endRound 44 = .ok (.iadd, 1) := by decide +kernel
theorem dX0_endRound_45 : decode cX0_endRound 45 = .ok (.iastore, 1) := by decide +kernel
theorem dX0_endRound_46 : decode cX0_endRound 46 = .ok (.return_, 1) := by decide +kernel
theorem dX1_init_0 : decode cX1_init 0 = .ok (.aload_n 0, 1) := by decide +kernel
theorem dX1_init_1 : decode cX1_init 1 = .ok (.invokespecial 3, 3) := by decide +kernel
theorem dX1_init_4 : decode cX1_init 4 = .ok (.aload_n 0, 1) := by decide +kernel
theorem dX1_init_5 : decode cX1_init 5 = .ok (.sipush 770, 3) := by decide +kernel
theorem dX1_init_8 : decode cX1_init 8 = .ok (.newarray .int, 2) := by decide +kernel
theorem dX1_init_10 : decode cX1_init 10 = .ok (.putfield 11, 3) := by decide +kernel
theorem dX1_init_13 : decode cX1_init 13 = .ok (.return_, 1) := by decide +kernel
theorem dX1_size_0 : decode cX1_size 0 = .ok (.aload_n 0, 1) := by decide +kernel
theorem dX1_size_1 : decode cX1_size 1 = .ok (.getfield 17, 3) := by decide +kernel
theorem dX1_size_4 : decode cX1_size 4 = .ok (.ireturn, 1) := by decide +kernel
set_option maxRecDepth 20000 in
theorem ggX1_keep_X1_startOfRow : GoodIn wsX1_keep wsX1_startOfRow := goodIn_r _ [12, 2, 13, 14, 15] (by decide +kernel) (by decide +kernel)
set_option maxRecDepth 20000 in
theorem gX1_keep_X1_startOfRow : GoodIn wsX1_keep (wsV RX1 27 RX1 yX1_startOfRow wsX1_startOfRow) := goodIn_app (goodIn_of _ (by decide +kernel)) ggX1_keep_X1_startOfRow
theorem dX1_keep_0 : decode cX1_keep 0 = .ok (.aload_n 0, 1) := by decide +kernel
theorem dX1_keep_1 : decode cX1_keep 1 = .ok (.getfield 17, 3) := by decide +kernel
theorem dX1_keep_4 : decode cX1_keep 4 = .ok (.iconst 5, 1) := by decide +kernel
theorem dX1_keep_5 : decode cX1_keep 5 = .ok (.if_icmp .ne 25, 3) := by decide +kernel
theorem dX1_keep_8 : decode cX1_keep 8 = .ok (.aload_n 0, 1) := by decide +kernel
theorem dX1_keep_9 : decode cX1_keep 9 = .ok (.aload_n 0, 1) := by decide +kernel
theorem dX1_keep_10 : decode cX1_keep 10 = .ok (.getfield 21, 3) := by decide +kernel
theorem dX1_keep_13 : decode cX1_keep 13 = .ok (.iconst 1, 1) := by decide +kernel
theorem dX1_keep_14 : decode cX1_keep 14 = .ok (.iadd, 1) := by decide +kernel
theorem dX1_keep_15 : decode cX1_keep 15 = .ok (.iconst 5, 1) := by decide +kernel
theorem dX1_keep_16 : decode cX1_keep 16 = .ok (.irem, 1) := by decide +kernel
theorem dX1_keep_17 : decode cX1_keep 17 = .ok (.putfield 21, 3) := by decide +kernel
theorem dX1_keep_20 : decode cX1_keep 20 = .ok (.aload_n 0, 1) := by decide +kernel
theorem dX1_keep_21 : decode cX1_keep 21 = .ok (.dup, 1) := by decide +kernel
theorem dX1_keep_22 : decode cX1_keep 22 = .ok (.getfield 17, 3) := by decide +kernel
theorem dX1_keep_25 : decode cX1_keep 25 = .ok (.iconst 1, 1) := by decide +kernel
theorem dX1_keep_26 : decode cX1_keep 26 = .ok (.isub, 1) := by decide +kernel
theorem dX1_keep_27 : decode cX1_keep 27 = .ok (.putfield 17, 3) := by decide +kernel
theorem dX1_keep_30 : decode cX1_keep 30 = .ok (.aload_n 1, 1) := by decide +kernel
theorem dX1_keep_31 : decode cX1_keep 31 = .ok (.getfield 24, 3) := by decide +kernel
theorem dX1_keep_34 : decode cX1_keep 34 = .ok (.iconst 0, 1) := by decide +kernel
theorem dX1_keep_35 : decode cX1_keep 35 = .ok (.aload_n 0, 1) := by decide +kernel
theorem dX1_keep_36 : decode cX1_keep 36 = .ok (.getfield 11, 3) := by decide +kernel
theorem dX1_keep_39 : decode cX1_keep 39 = .ok (.aload_n 0, 1) := by decide +kernel
theorem dX1_keep_40 : decode cX1_keep 40 = .ok (.aload_n 0, 1) := by decide +kernel
theorem dX1_keep_41 : decode cX1_keep 41 = .ok (.getfield 17, 3) := by decide +kernel
theorem dX1_keep_44 : decode cX1_keep 44 = .ok (.invokevirtual 27, 3) := by decide +kernel
theorem dX1_keep_47 : decode cX1_keep 47 = .ok (.sipush 154, 3) := by decide +kernel
theorem dX1_keep_50 : decode cX1_keep 50 = .ok (.invokestatic 31, 3) := by decide +kernel
theorem dX1_keep_53 : decode cX1_keep 53 = .ok (.aload_n 0, 1) := by decide +kernel
theorem dX1_keep_54 : decode cX1_keep 54 = .ok (.dup, 1) := by decide +kernel
theorem dX1_keep_55 : decode cX1_keep 55 = .ok (.getfield 17, 3) := by decide +kernel
theorem dX1_keep_58 : decode cX1_keep 58 = .ok (.iconst 1, 1) := by decide +kernel
theorem dX1_keep_59 : decode cX1_keep 59 = .ok (.iadd, 1) := by decide +kernel
theorem dX1_keep_60 : decode cX1_keep 60 = .ok (.putfield 17, 3) := by decide +kernel
theorem dX1_keep_63 : decode cX1_keep 63 = .ok (.return_, 1) := by decide +kernel
set_option maxRecDepth 20000 in
theorem ggX1_takeLatest_X1_startOfRow : GoodIn wsX1_takeLatest wsX1_startOfRow := goodIn_r _ [11, 12, 13, 14, 15] (by decide +kernel) (by decide +kernel)
set_option maxRecDepth 20000 in
theorem gX1_takeLatest_X1_startOfRow : GoodIn wsX1_takeLatest (wsV RX1 27 RX1 yX1_startOfRow wsX1_startOfRow) := goodIn_app (goodIn_of _ (by decide +kernel)) ggX1_takeLatest_X1_startOfRow
theorem dX1_takeLatest_0 : decode cX1_takeLatest 0 = .ok (.aload_n 0, 1) := by decide +kernel
theorem dX1_takeLatest_1 : decode cX1_takeLatest 1 = .ok (.getfield 17, 3) := by decide +kernel
theorem dX1_takeLatest_4 : decode cX1_takeLatest 4 = .ok (.ifCond .ne 4, 3) := by decide +kernel
theorem dX1_takeLatest_7 : decode cX1_takeLatest 7 = .ok (.return_, 1) := by decide +kernel
theorem dX1_takeLatest_8 : decode cX1_takeLatest 8 = .ok (.aload_n 0, 1) := by decide +kernel
theorem dX1_takeLatest_9 : decode cX1_takeLatest 9 = .ok (.dup, 1) := by decide +kernel
theorem dX1_takeLatest_10 : decode cX1_takeLatest 10 = .ok (.getfield 17, 3) := by decide +kernel
theorem dX1_takeLatest_13 : decode cX1_takeLatest 13 = .ok (.iconst 1, 1) := by decide +kernel
theorem dX1_takeLatest_14 : decode cX1_takeLatest 14 = .ok (.isub, 1) := by decide +kernel
theorem dX1_takeLatest_15 : decode cX1_takeLatest 15 = .ok (.putfield 17, 3) := by decide +kernel
theorem dX1_takeLatest_18 : decode cX1_takeLatest 18 = .ok (.aload_n 0, 1) := by decide +kernel
theorem dX1_takeLatest_19 : decode cX1_takeLatest 19 = .ok (.getfield 11, 3) := by decide +kernel
theorem dX1_takeLatest_22 : decode cX1_takeLatest 22 = .ok (.aload_n 0, 1) := by decide +kernel
theorem dX1_takeLatest_23 : decode cX1_takeLatest 23 = .ok (.aload_n 0, 1) := by decide +kernel
theorem dX1_takeLatest_24 : decode cX1_takeLatest 24 = .ok (.getfield 17, 3) := by decide +kernel
theorem dX1_takeLatest_27 : decode cX1_takeLatest 27 = .ok (.invokevirtual 27, 3) := by decide +kernel
theorem dX1_takeLatest_30 : decode cX1_takeLatest 30 = .ok (.aload_n 1, 1) := by decide +kernel
theorem dX1_takeLatest_31 : decode cX1_takeLatest 31 = .ok (.getfield 24, 3) := by decide +kernel
theorem dX1_takeLatest_34 : decode cX1_takeLatest 34 = .ok (.iconst 0, 1) := by decide +kernel
theorem dX1_takeLatest_35 : decode cX1_takeLatest 35 = .ok (.sipush 154, 3) := by decide +kernel
theorem dX1_takeLatest_38 : decode cX1_takeLatest 38 = .ok (.invokestatic 31, 3) := by decide +kernel
theorem dX1_takeLatest_41 : decode cX1_takeLatest 41 = .ok (.return_, 1) := by decide +kernel
theorem dX1_startOfRow_0 : decode cX1_startOfRow 0 = .ok (.aload_n 0, 1) := by decide +kernel
theorem dX1_startOfRow_1 : decode cX1_startOfRow 1 = .ok (.getfield 21, 3) := by decide +kernel
theorem dX1_startOfRow_4 : decode cX1_startOfRow 4 = .ok (.iload_n 1, 1) := by decide +kernel
theorem dX1_startOfRow_5 : decode cX1_startOfRow 5 = .ok (.iadd, 1) := by decide +kernel
theorem dX1_startOfRow_6 : decode cX1_startOfRow 6 = .ok (.iconst 5, 1) := by decide +kernel
theorem dX1_startOfRow_7 : decode cX1_startOfRow 7 = .ok (.irem, 1) := by decide +kernel
theorem dX1_startOfRow_8 : decode cX1_startOfRow 8 = .ok (.sipush 154, 3) := by decide +kernel
theorem dX1_startOfRow_11 : decode cX1_startOfRow 11 = .ok (.imul, 1) := by decide +kernel
theorem dX1_startOfRow_12 : decode cX1_startOfRow 12 = .ok (.ireturn, 1) := by decide +kernel
theorem dX2_init_0 : decode cX2_init 0 = .ok (.aload_n 0, 1) := by decide +kernel
theorem dX2_init_1 : decode cX2_init 1 = .ok (.invokespecial 3, 3) := by decide +kernel
theorem dX2_init_4 : decode cX2_init 4 = .ok (.aload_n 0, 1) := by decide +kernel
theorem dX2_init_5 : decode cX2_init 5 = .ok (.bipush 8, 2) := by decide +kernel
theorem dX2_init_7 : decode cX2_init 7 = .ok (.newarray .int, 2) := by decide +kernel
theorem dX2_init_9 : decode cX2_init 9 = .ok (.putfield 9, 3) := by decide +kernel
theorem dX2_init_12 : decode cX2_init 12 = .ok (.aload_n 0, 1) := by decide +kernel
theorem dX2_init_13 : decode cX2_init 13 = .ok (.bipush 8, 2) := by decide +kernel
theorem dX2_init_15 : decode cX2_init 15 = .ok (.newarray .int, 2) := by decide +kernel
theorem dX2_init_17 : decode cX2_init 17 = .ok (.putfield 15, 3) := by decide +kernel
theorem dX2_init_20 : decode cX2_init 20 = .ok (.aload_n 0, 1) := by decide +kernel
theorem dX2_init_21 : decode cX2_init 21 = .ok (.bipush 8, 2) := by decide +kernel
theorem dX2_init_23 : decode cX2_init 23 = .ok (.newarray .int, 2) := by decide +kernel
theorem dX2_init_25 : decode cX2_init 25 = .ok (.putfield 18, 3) := by decide +kernel
theorem dX2_init_28 : decode cX2_init 28 = .ok (.aload_n 0, 1) := by decide +kernel
theorem dX2_init_29 : decode cX2_init 29 = .ok (.bipush 8, 2) := by decide +kernel
theorem dX2_init_31 : decode cX2_init 31 = .ok (.newarray .int, 2) := by decide +kernel
theorem dX2_init_33 : decode cX2_init 33 = .ok (.putfield 21, 3) := by decide +kernel
theorem dX2_init_36 : decode cX2_init 36 = .ok (.return_, 1) := by decide +kernel
theorem dX2_partnerOf_0 : decode cX2_partnerOf 0 = .ok (.iload_n 1, 1) := by decide +kernel
theorem dX2_partnerOf_1 : decode cX2_partnerOf 1 = .ok (.ifCond .eq 12, 3) := by decide +kernel
theorem dX2_partnerOf_4 : decode cX2_partnerOf 4 = .ok (.aload_n 0, 1) := by decide +kernel
theorem dX2_partnerOf_5 : decode cX2_partnerOf 5 = .ok (.getfield 15, 3) := by decide +kernel
theorem dX2_partnerOf_8 : decode cX2_partnerOf 8 = .ok (.iload_n 2, 1) := by decide +kernel
theorem dX2_partnerOf_9 : decode cX2_partnerOf 9 = .ok (.iaload, 1) := by decide +kernel
theorem dX2_partnerOf_10 : decode cX2_partnerOf 10 = .ok (.goto 9, 3) := by decide +kernel
theorem dX2_partnerOf_13 : decode cX2_partnerOf 13 = .ok (.aload_n 0, 1) := by decide +kernel
theorem dX2_partnerOf_14 : decode cX2_partnerOf 14 = .ok (.getfield 18, 3) := by decide +kernel
theorem dX2_partnerOf_17 : decode cX2_partnerOf 17 = .ok (.iload_n 2, 1) := by decide +kernel
theorem dX2_partnerOf_18 : decode cX2_partnerOf 18 = .ok (.iaload, 1) := by decide +kernel
theorem dX2_partnerOf_19 : decode cX2_partnerOf 19 = .ok (.ireturn, 1) := by decide +kernel
set_option maxRecDepth 20000 in
theorem ggX2_size_X5_asNumber : GoodIn wsX2_size wsX5_asNumber := goodIn_r _ [4] (by decide +kernel) (by decide +kernel)
set_option maxRecDepth 20000 in
theorem gX2_size_X5_asNumber_n24 : GoodIn wsX2_size (wsX5_asNumber) := ggX2_size_X5_asNumber
theorem dX2_size_0 : decode cX2_size 0 = .ok (.iconst 0, 1) := by decide +kernel
theorem dX2_size_1 : decode cX2_size 1 = .ok (.istore_n 1, 1) := by decide +kernel
theorem dX2_size_2 : decode cX2_size 2 = .ok (.iconst 0, 1) := by decide +kernel
theorem dX2_size_3 : decode cX2_size 3 = .ok (.istore_n 2, 1) := by decide +kernel
theorem dX2_size_4 : decode cX2_size 4 = .ok (.iload_n 2, 1) := by decide +kernel
theorem dX2_size_5 : decode cX2_size 5 = .ok (.bipush 8, 2) := by decide +kernel
theorem dX2_size_7 : decode cX2_size 7 = .ok (.if_icmp .ge 31, 3) := by decide +kernel
theorem dX2_size_10 : decode cX2_size 10 = .ok (.iload_n 1, 1) := by decide +kernel
theorem dX2_size_11 : decode cX2_size 11 = .ok (.aload_n 0, 1) := by decide +kernel
theorem dX2_size_12 : decode cX2_size 12 = .ok (.getfield 15, 3) := by decide +kernel
theorem dX2_size_15 : decode cX2_size 15 = .ok (.iload_n 2, 1) := by decide +kernel
theorem dX2_size_16 : decode cX2_size 16 = .ok (.iaload, 1) := by decide +kernel
theorem dX2_size_17 : decode cX2_size 17 = .ok (.bipush (-5), 2) := by decide +kernel
theorem dX2_size_19 : decode cX2_size 19 = .ok (.if_icmp .eq 7, 3) := by decide +kernel
theorem dX2_size_22 : decode cX2_size 22 = .ok (.iconst 1, 1) := by decide +kernel
theorem dX2_size_23 : decode cX2_size 23 = .ok (.goto 4, 3) := by decide +kernel
theorem dX2_size_26 : decode cX2_size 26 = .ok (.iconst 0, 1) := by decide +kernel
theorem dX2_size_27 : decode cX2_size 27 = .ok (.invokestatic 24, 3) := by decide +kernel
theorem dX2_size_30 : decode cX2_size 30 = .ok (.iadd, 1) := by decide +kernel
theorem dX2_size_31 : decode cX2_size 31 = .ok (.istore_n 1, 1) := by decide +kernel
theorem dX2_size_32 : decode cX2_size 32 = .ok (.iinc 2 1, 3) := by decide +kernel
theorem dX2_size_35 : decode cX2_size 35 = .ok (.goto (-31), 3) := by decide +kernel
theorem dX2_size_38 : decode cX2_size 38 = .ok (.iload_n 1, 1) := by decide +kernel
theorem dX2_size_39 : decode cX2_size 39 = .ok (.ireturn, 1) := by decide +kernel
set_option maxRecDepth 20000 in
theorem ggX2_takeGreatest_J7_fill_53178 : GoodIn wsX2_takeGreatest wsJ7_fill_53178 := goodIn_r _ [7] (by decide +kernel) (by decide +kernel)
set_option maxRecDepth 20000 in
theorem gX2_takeGreatest_J7_fill_53178 : GoodIn wsX2_takeGreatest (va_wsS RX2 28 yJ7_fill_53178 wsJ7_fill_53178) := goodIn_app (goodIn_of _ (by decide +kernel)) ggX2_takeGreatest_J7_fill_53178
set_option maxRecDepth 20000 in
theorem ggX2_takeGreatest_X0_isPossible : GoodIn wsX2_takeGreatest wsX0_isPossible := goodIn_r _ [12, 13, 14, 15, 11, 16, 17, 18, 19, 20, 21, 22, 23, 24, 25, 26, 27, 28, 29, 30, 31, 32, 59] (by decide +kernel) (by decide +kernel)
set_option maxRecDepth 20000 in
theorem gX2_takeGreatest_X0_isPossible : GoodIn wsX2_takeGreatest (wsV RX2 34 RX0 yX0_isPossible wsX0_isPossible) := goodIn_app (goodIn_of _ (by decide +kernel)) ggX2_takeGreatest_X0_isPossible
set_option maxRecDepth 20000 in
theorem ggX2_takeGreatest_X2_growsByOne : GoodIn wsX2_takeGreatest wsX2_growsByOne := goodIn_r _ [37, 38, 2, 39, 40, 41, 36, 42, 43, 1, 3, 44, 45, 46, 47, 18, 19, 20, 48, 49, 50, 51, 52, 53, 54, 55, 56, 57, 58] (by decide +kernel) (by decide +kernel)
set_option maxRecDepth 20000 in
theorem gX2_takeGreatest_X2_growsByOne : GoodIn wsX2_takeGreatest (wsV RX2 40 RX2 yX2_growsByOne wsX2_growsByOne) := goodIn_app (goodIn_of _ (by decide +kernel)) ggX2_takeGreatest_X2_growsByOne
theorem dX2_takeGreatest_0 : decode cX2_takeGreatest 0 = .ok (.aload_n 0, 1) := by decide +kernel
theorem dX2_takeGreatest_1 : decode cX2_takeGreatest 1 = .ok (.getfield 9, 3) := by decide +kernel
theorem dX2_takeGreatest_4 : decode cX2_takeGreatest 4 = .ok (.iconst 0, 1) := by decide +kernel
theorem dX2_takeGreatest_5 : decode cX2_takeGreatest 5 = .ok (.invokestatic 28, 3) := by decide +kernel
theorem dX2_takeGreatest_8 : decode cX2_takeGreatest 8 = .ok (.aload_n 0, 1) := by decide +kernel
theorem dX2_takeGreatest_9 : decode cX2_takeGreatest 9 = .ok (.getfield 15, 3) := by decide +kernel
theorem dX2_takeGreatest_12 : decode cX2_takeGreatest 12 = .ok (.bipush (-5), 2) := by decide +kernel
theorem dX2_takeGreatest_14 : decode cX2_takeGreatest 14 = .ok (.invokestatic 28, 3) := by decide +kernel
theorem dX2_takeGreatest_17 : decode cX2_takeGreatest 17 = .ok (.aload_n 0, 1) := by decide +kernel
theorem dX2_takeGreatest_18 : decode cX2_takeGreatest 18 = .ok (.getfield 18, 3) := by decide +kernel
theorem dX2_takeGreatest_21 : decode cX2_takeGreatest 21 = .ok (.bipush (-5), 2) := by decide +kernel
theorem dX2_takeGreatest_23 : decode cX2_takeGreatest 23 = .ok (.invokestatic 28, 3) := by decide +kernel
theorem dX2_takeGreatest_26 : decode cX2_takeGreatest 26 = .ok (.iconst 0, 1) := by decide +kernel
theorem dX2_takeGreatest_27 : decode cX2_takeGreatest 27 = .ok (.istore_n 2, 1) := by decide +kernel
theorem dX2_takeGreatest_28 : decode cX2_takeGreatest 28 = .ok (.iload_n 2, 1) := by decide +kernel
theorem dX2_takeGreatest_29 : decode cX2_takeGreatest 29 = .ok (.bipush 8, 2) := by decide +kernel
theorem dX2_takeGreatest_31 : decode cX2_takeGreatest 31 = .ok (.if_icmp .ge 44, 3) := by decide +kernel
theorem dX2_takeGreatest_34 : decode cX2_takeGreatest 34 = .ok (.iconst 0, 1) := by decide +kernel
theorem dX2_takeGreatest_35 : decode cX2_takeGreatest 35 = .ok (.istore_n 3, 1) := by decide +kernel
theorem dX2_takeGreatest_36 : decode cX2_takeGreatest 36 = .ok (.iload_n 3, 1) := by decide +kernel
theorem dX2_takeGreatest_37 : decode cX2_takeGreatest 37 = .ok (.bipush 8, 2) := by decide +kernel
theorem dX2_takeGreatest_39 : decode cX2_takeGreatest 39 = .ok (.if_icmp .ge 30, 3) := by decide +kernel
theorem dX2_takeGreatest_42 : decode cX2_takeGreatest 42 = .ok (.aload_n 1, 1) := by decide +kernel
theorem dX2_takeGreatest_43 : decode cX2_takeGreatest 43 = .ok (.iload_n 2, 1) := by decide +kernel
theorem dX2_takeGreatest_44 : decode cX2_takeGreatest 44 = .ok (.iload_n 3, 1) := by decide +kernel
theorem dX2_takeGreatest_45 : decode cX2_takeGreatest 45 = .ok (.invokevirtual 34, 3) := by decide +kernel
theorem dX2_takeGreatest_48 : decode cX2_takeGreatest 48 = .ok (.ifCond .eq 15, 3) := by decide +kernel
theorem dX2_takeGreatest_51 : decode cX2_takeGreatest 51 = .ok (.aload_n 0, 1) := by decide +kernel
theorem dX2_takeGreatest_52 : decode cX2_takeGreatest 52 = .ok (.getfield 9, 3) := by decide +kernel
theorem dX2_takeGreatest_55 : decode cX2_takeGreatest 55 = .ok (.iload_n 2, 1) := by decide +kernel
theorem dX2_takeGreatest_56 : decode cX2_takeGreatest 56 = .ok (.dup2, 1) := by decide +kernel
theorem dX2_takeGreatest_57 : decode cX2_takeGreatest 57 = .ok (.iaload, 1) := by decide +kernel
theorem dX2_takeGreatest_58 : decode cX2_takeGreatest 58 = .ok (.iconst 1, 1) := by decide +kernel
theorem dX2_takeGreatest_59 : decode cX2_takeGreatest 59 = .ok (.iload_n 3, 1) := by decide +kernel
theorem dX2_takeGreatest_60 : decode cX2_takeGreatest 60 = .ok (.ishl, 1) := by decide +kernel
theorem dX2_takeGreatest_61 : decode cX2_takeGreatest 61 = .ok (.ior, 1) := by decide +kernel
theorem dX2_takeGreatest_62 : decode cX2_takeGreatest 62 = .ok (.iastore, 1) := by decide +kernel
theorem dX2_takeGreatest_63 : decode cX2_takeGreatest 63 = .ok (.iinc 3 1, 3) := by decide +kernel
theorem dX2_takeGreatest_66 : decode cX2_takeGreatest 66 = .ok (.goto (-30), 3) := by decide +kernel
theorem dX2_takeGreatest_69 : decode cX2_takeGreatest 69 = .ok (.iinc 2 1, 3) := by decide +kernel
theorem dX2_takeGreatest_72 : decode cX2_takeGreatest 72 = .ok (.goto (-44), 3) := by decide +kernel
theorem dX2_takeGreatest_75 : decode cX2_takeGreatest 75 = .ok (.iconst 0, 1) := by decide +kernel
theorem dX2_takeGreatest_76 : decode cX2_takeGreatest 76 = .ok (.istore_n 2, 1) := by decide +kernel
theorem dX2_takeGreatest_77 : decode cX2_takeGreatest 77 = .ok (.iload_n 2, 1) := by decide +kernel
theorem dX2_takeGreatest_78 : decode cX2_takeGreatest 78 = .ok (.bipush 8, 2) := by decide +kernel
theorem dX2_takeGreatest_80 : decode cX2_takeGreatest 80 = .ok (.if_icmp .ge 20, 3) := by decide +kernel
theorem dX2_takeGreatest_83 : decode cX2_takeGreatest 83 = .ok (.aload_n 0, 1) := by decide +kernel
theorem dX2_takeGreatest_84 : decode cX2_takeGreatest 84 = .ok (.iconst 0, 1) := by decide +kernel
theorem dX2_takeGreatest_85 : decode cX2_takeGreatest 85 = .ok (.sipush 255, 3) := by decide +kernel
theorem dX2_takeGreatest_88 : decode cX2_takeGreatest 88 = .ok (.invokevirtual 40, 3) := by decide +kernel
theorem dX2_takeGreatest_91 : decode cX2_takeGreatest 91 = .ok (.ifCond .eq 9, 3) := by decide +kernel
theorem dX2_takeGreatest_94 : decode cX2_takeGreatest 94 = .ok (.iinc 2 1, 3) := by decide +kernel
theorem dX2_takeGreatest_97 : decode cX2_takeGreatest 97 = .ok (.goto (-20), 3) := by decide +kernel
theorem dX2_takeGreatest_100 : decode cX2_takeGreatest 100 = .ok (.return_, 1) := by decide +kernel
set_option maxRecDepth 20000 in
theorem ggX2_takeFirst_X2_takeGreatest : GoodIn wsX2_takeFirst wsX2_takeGreatest := goodIn_r _ [7, 2, 1, 8, 9, 10, 11, 12, 13, 14, 15, 16, 17, 18, 19, 20, 21, 22, 23, 24, 25, 26, 27, 28, 29, 30, 31, 32, 33, 34, 35, 36, 37, 38, 39, 40, 6, 41, 42, 43, 44, 45, 46, 47, 48, 49, 50, 51, 52, 53, 54, 55, 56, 57, 62, 63, 64, 65, 66, 67] (by decide +kernel) (by decide +kernel)
set_option maxRecDepth 20000 in
theorem gX2_takeFirst_X2_takeGreatest : GoodIn wsX2_takeFirst (wsV RX2 43 RX2 yX2_takeGreatest wsX2_takeGreatest) := goodIn_app (goodIn_of _ (by decide +kernel)) ggX2_takeFirst_X2_takeGreatest
set_option maxRecDepth 20000 in
theorem ggX2_takeFirst_X5_hasBit : GoodIn wsX2_takeFirst wsX5_hasBit := goodIn_r _ [25] (by decide +kernel) (by decide +kernel)
set_option maxRecDepth 20000 in
theorem gX2_takeFirst_X5_hasBit_n47 : GoodIn wsX2_takeFirst (wsX5_hasBit) := ggX2_takeFirst_X5_hasBit
set_option maxRecDepth 20000 in
theorem ggX2_takeFirst_X2_canTake : GoodIn wsX2_takeFirst wsX2_canTake := goodIn_r _ [61, 1, 8, 52, 24, 53, 54, 55, 56, 6, 57, 38, 39, 40, 41, 42, 43, 44, 45, 46, 47, 2, 48, 49, 50, 51, 23, 25, 62, 63, 64, 65, 66] (by decide +kernel) (by decide +kernel)
set_option maxRecDepth 20000 in
theorem gX2_takeFirst_X2_canTake : GoodIn wsX2_takeFirst (wsV RX2 50 RX2 yX2_canTake wsX2_canTake) := goodIn_app (goodIn_of _ (by decide +kernel)) ggX2_takeFirst_X2_canTake
set_option maxRecDepth 20000 in
theorem ggX2_takeFirst_X5_isPerson : GoodIn wsX2_takeFirst wsX5_isPerson := goodIn_r _ [53] (by decide +kernel) (by decide +kernel)
set_option maxRecDepth 20000 in
theorem gX2_takeFirst_X5_isPerson_n54 : GoodIn wsX2_takeFirst (wsX5_isPerson) := ggX2_takeFirst_X5_isPerson
theorem dX2_takeFirst_0 : decode cX2_takeFirst 0 = .ok (.aload_n 0, 1) := by decide +kernel
theorem dX2_takeFirst_1 : decode cX2_takeFirst 1 = .ok (.aload_n 1, 1) := by decide +kernel
theorem dX2_takeFirst_2 : decode cX2_takeFirst 2 = .ok (.invokevirtual 43, 3) := by decide +kernel
theorem dX2_takeFirst_5 : decode cX2_takeFirst 5 = .ok (.sipush 255, 3) := by decide +kernel
theorem dX2_takeFirst_8 : decode cX2_takeFirst 8 = .ok (.istore_n 2, 1) := by decide +kernel
theorem dX2_takeFirst_9 : decode cX2_takeFirst 9 = .ok (.iconst 0, 1) := by decide +kernel
theorem dX2_takeFirst_10 : decode cX2_takeFirst 10 = .ok (.istore_n 3, 1) := by decide +kernel
theorem dX2_takeFirst_11 : decode cX2_takeFirst 11 = .ok (.iload_n 3, 1) := by decide +kernel
theorem dX2_takeFirst_12 : decode cX2_takeFirst 12 = .ok (.bipush 8, 2) := by decide +kernel
theorem dX2_takeFirst_14 : decode cX2_takeFirst 14 = .ok (.if_icmp .ge 103, 3) := by decide +kernel
theorem dX2_takeFirst_17 : decode cX2_takeFirst 17 = .ok (.iconst 0, 1) := by decide +kernel
theorem dX2_takeFirst_18 : decode cX2_takeFirst 18 = .ok (.istore 4, 2) := by decide +kernel
theorem dX2_takeFirst_20 : decode cX2_takeFirst 20 = .ok (.iconst 0, 1) := by decide +kernel
theorem dX2_takeFirst_21 : decode cX2_takeFirst 21 = .ok (.istore 5, 2) := by decide +kernel
theorem dX2_takeFirst_23 : decode cX2_takeFirst 23 = .ok (.iload 5, 2) := by decide +kernel
theorem dX2_takeFirst_25 : decode cX2_takeFirst 25 = .ok (.bipush 8, 2) := by decide +kernel
theorem dX2_takeFirst_27 : decode cX2_takeFirst 27 = .ok (.if_icmp .ge 59, 3) := by decide +kernel
theorem dX2_takeFirst_30 : decode cX2_takeFirst 30 = .ok (.iload 5, 2) := by decide +kernel
theorem dX2_takeFirst_32 : decode cX2_takeFirst 32 = .ok (.aload_n 0, 1) := by decide +kernel
theorem dX2_takeFirst_33 : decode cX2_takeFirst 33 = .ok (.getfield 15, 3) := by decide +kernel
theorem dX2_takeFirst_36 : decode cX2_takeFirst 36 = .ok (.iload_n 3, 1) := by decide +kernel
theorem dX2_takeFirst_37 : decode cX2_takeFirst 37 = .ok (.iaload, 1) := by decide +kernel
theorem dX2_takeFirst_38 : decode cX2_takeFirst 38 = .ok (.if_icmp .eq 48, 3) := by decide +kernel
theorem dX2_takeFirst_41 : decode cX2_takeFirst 41 = .ok (.iload 4, 2) := by decide +kernel
theorem dX2_takeFirst_43 : decode cX2_takeFirst 43 = .ok (.ifCond .ne 43, 3) := by decide +kernel
theorem dX2_takeFirst_46 : decode cX2_takeFirst 46 = .ok (.aload_n 0, 1) := by decide +kernel
theorem dX2_takeFirst_47 : decode cX2_takeFirst 47 = .ok (.getfield 9, 3) := by decide +kernel
theorem dX2_takeFirst_50 : decode cX2_takeFirst 50 = .ok (.iload_n 3, 1) := by decide +kernel
theorem dX2_takeFirst_51 : decode cX2_takeFirst 51 = .ok (.iaload, 1) := by decide +kernel
theorem dX2_takeFirst_52 : decode cX2_takeFirst 52 = .ok (.iload_n 2, 1) := by decide +kernel
theorem dX2_takeFirst_53 : decode cX2_takeFirst 53 = .ok (.iand, 1) := by decide +kernel
theorem dX2_takeFirst_54 : decode cX2_takeFirst 54 = .ok (.iload 5, 2) := by decide +kernel
theorem dX2_takeFirst_56 : decode cX2_takeFirst 56 = .ok (.invokestatic 47, 3) := by decide +kernel
theorem dX2_takeFirst_59 : decode cX2_takeFirst 59 = .ok (.ifCond .eq 18, 3) := by decide +kernel
theorem dX2_takeFirst_62 : decode cX2_takeFirst 62 = .ok (.aload_n 0, 1) := by decide +kernel
theorem dX2_takeFirst_63 : decode cX2_takeFirst 63 = .ok (.iload_n 3, 1) := by decide +kernel
theorem dX2_takeFirst_64 : decode cX2_takeFirst 64 = .ok (.iload 5, 2) := by decide +kernel
theorem dX2_takeFirst_66 : decode cX2_takeFirst 66 = .ok (.iload_n 2, 1) := by decide +kernel
theorem dX2_takeFirst_67 : decode cX2_takeFirst 67 = .ok (.invokevirtual 50, 3) := by decide +kernel
theorem dX2_takeFirst_70 : decode cX2_takeFirst 70 = .ok (.ifCond .eq 7, 3) := by decide +kernel
theorem dX2_takeFirst_73 : decode cX2_takeFirst 73 = .ok (.iconst 1, 1) := by decide +kernel
theorem dX2_takeFirst_74 : decode cX2_takeFirst 74 = .ok (.goto 4, 3) := by decide +kernel
theorem dX2_takeFirst_77 : decode cX2_takeFirst 77 = .ok (.iconst 0, 1) := by decide +kernel
theorem dX2_takeFirst_78 : decode cX2_takeFirst 78 = .ok (.istore 4, 2) := by decide +kernel
theorem dX2_takeFirst_80 : decode cX2_takeFirst 80 = .ok (.iinc 5 1, 3) := by decide +kernel
theorem dX2_takeFirst_83 : decode cX2_takeFirst 83 = .ok (.goto (-60), 3) := by decide +kernel
theorem dX2_takeFirst_86 : decode cX2_takeFirst 86 = .ok (.aload_n 0, 1) := by decide +kernel
theorem dX2_takeFirst_87 : decode cX2_takeFirst 87 = .ok (.getfield 15, 3) := by decide +kernel
theorem dX2_takeFirst_90 : decode cX2_takeFirst 90 = .ok (.iload_n 3, 1) := by decide +kernel
theorem dX2_takeFirst_91 : decode cX2_takeFirst 91 = .ok (.iaload, 1) := by decide +kernel
theorem dX2_takeFirst_92 : decode cX2_takeFirst 92 = .ok (.invokestatic 54, 3) := by decide +kernel
theorem dX2_takeFirst_95 : decode cX2_takeFirst 95 = .ok (.ifCond .eq 16, 3) := by decide +kernel
theorem dX2_takeFirst_98 : decode cX2_takeFirst 98 = .ok (.iload_n 2, 1) := by decide +kernel
theorem dX2_takeFirst_99 : decode cX2_takeFirst 99 = .ok (.iconst 1, 1) := by decide +kernel
theorem dX2_takeFirst_100 : decode cX2_takeFirst 100 = .ok (.aload_n 0, 1) := by decide +kernel
theorem dX2_takeFirst_101 : decode cX2_takeFirst 101 = .ok (.getfield 15, 3) := by decide +kernel
theorem dX2_takeFirst_104 : decode cX2_takeFirst 104 = .ok (.iload_n 3, 1) := by decide +kernel
theorem dX2_takeFirst_105 : decode cX2_takeFirst 105 = .ok (.iaload, 1) := by decide +kernel
theorem dX2_takeFirst_106 : decode cX2_takeFirst 106 = .ok (.ishl, 1) := by decide +kernel
theorem dX2_takeFirst_107 : decode cX2_takeFirst 107 = .ok (.iconst (-1), 1) := by decide +kernel
theorem dX2_takeFirst_108 : decode cX2_takeFirst 108 = .ok (.ixor, 1) := by decide +kernel
theorem dX2_takeFirst_109 : decode cX2_takeFirst 109 = .ok (.iand, 1) := by decide +kernel
theorem dX2_takeFirst_110 : decode cX2_takeFirst 110 = .ok (.istore_n 2, 1) := by decide +kernel
theorem dX2_takeFirst_111 : decode cX2_takeFirst 111 = .ok (.iinc 3 1, 3) := by decide +kernel
theorem dX2_takeFirst_114 : decode cX2_takeFirst 114 = .ok (.goto (-103), 3) := by decide +kernel
theorem dX2_takeFirst_117 : decode cX2_takeFirst 117 = .ok (.return_, 1) := by decide +kernel
set_option maxRecDepth 20000 in
theorem ggX2_leftsWhoMayBeLeftOut_X2_findFreeRight : GoodIn wsX2_leftsWhoMayBeLeftOut wsX2_findFreeRight := goodIn_r _ [7, 1, 2, 8, 9, 10, 11, 12, 6, 13, 14, 15, 16, 17, 18, 19, 20, 21, 22] (by decide +kernel) (by decide +kernel)
set_option maxRecDepth 20000 in
theorem gX2_leftsWhoMayBeLeftOut_X2_findFreeRight : GoodIn wsX2_leftsWhoMayBeLeftOut (wsV RX2 58 RX2 yX2_findFreeRight wsX2_findFreeRight) := goodIn_app (goodIn_of _ (by decide +kernel)) ggX2_leftsWhoMayBeLeftOut_X2_findFreeRight
set_option maxRecDepth 20000 in
theorem ggX2_leftsWhoMayBeLeftOut_X5_hasBit : GoodIn wsX2_leftsWhoMayBeLeftOut wsX5_hasBit := goodIn_r _ [17] (by decide +kernel) (by decide +kernel)
set_option maxRecDepth 20000 in
theorem gX2_leftsWhoMayBeLeftOut_X5_hasBit_n47 : GoodIn wsX2_leftsWhoMayBeLeftOut (wsX5_hasBit) := ggX2_leftsWhoMayBeLeftOut_X5_hasBit
theorem dX2_leftsWhoMayBeLeftOut_0 : decode cX2_leftsWhoMayBeLeftOut 0 = .ok (.aload_n 0, 1) := by decide +kernel
theorem dX2_leftsWhoMayBeLeftOut_1 : decode cX2_leftsWhoMayBeLeftOut 1 = .ok (.iconst 0, 1) := by decide +kernel
theorem dX2_leftsWhoMayBeLeftOut_2 : decode cX2_leftsWhoMayBeLeftOut 2 = .ok (.sipush 255, 3) := by decide +kernel
theorem dX2_leftsWhoMayBeLeftOut_5 : decode cX2_leftsWhoMayBeLeftOut 5 = .ok (.invokevirtual 58, 3) := by decide +kernel
theorem dX2_leftsWhoMayBeLeftOut_8 : decode cX2_leftsWhoMayBeLeftOut 8 = .ok (.pop, 1) := by decide +kernel
theorem dX2_leftsWhoMayBeLeftOut_9 : decode cX2_leftsWhoMayBeLeftOut 9 = .ok (.iconst 0, 1) := by decide +kernel
theorem dX2_leftsWhoMayBeLeftOut_10 : decode cX2_leftsWhoMayBeLeftOut 10 = .ok (.istore_n 1, 1) := by decide +kernel
theorem dX2_leftsWhoMayBeLeftOut_11 : decode cX2_leftsWhoMayBeLeftOut 11 = .ok (.iconst 0, 1) := by decide +kernel
theorem dX2_leftsWhoMayBeLeftOut_12 : decode cX2_leftsWhoMayBeLeftOut 12 = .ok (.istore_n 2, 1) := by decide +kernel
theorem dX2_leftsWhoMayBeLeftOut_13 : decode cX2_leftsWhoMayBeLeftOut 13 = .ok (.iload_n 2, 1) := by decide +kernel
theorem dX2_leftsWhoMayBeLeftOut_14 : decode cX2_leftsWhoMayBeLeftOut 14 = .ok (.bipush 8, 2) := by decide +kernel
theorem dX2_leftsWhoMayBeLeftOut_16 : decode cX2_leftsWhoMayBeLeftOut 16 = .ok (.if_icmp .ge 35, 3) := by decide +kernel
theorem dX2_leftsWhoMayBeLeftOut_19 : decode cX2_leftsWhoMayBeLeftOut 19 = .ok (.aload_n 0, 1) := by decide +kernel
theorem dX2_leftsWhoMayBeLeftOut_20 : decode cX2_leftsWhoMayBeLeftOut 20 = .ok (.getfield 62, 3) := by decide +kernel
theorem dX2_leftsWhoMayBeLeftOut_23 : decode cX2_leftsWhoMayBeLeftOut 23 = .ok (.iload_n 2, 1) := by decide +kernel
theorem dX2_leftsWhoMayBeLeftOut_24 : decode cX2_leftsWhoMayBeLeftOut 24 = .ok (.invokestatic 47, 3) := by decide +kernel
theorem dX2_leftsWhoMayBeLeftOut_27 : decode cX2_leftsWhoMayBeLeftOut 27 = .ok (.ifCond .eq 18, 3) := by decide +kernel
theorem dX2_leftsWhoMayBeLeftOut_30 : decode cX2_leftsWhoMayBeLeftOut 30 = .ok (.aload_n 0, 1) := by decide +kernel
theorem dX2_leftsWhoMayBeLeftOut_31 : decode cX2_leftsWhoMayBeLeftOut 31 = .ok (.getfield 9, 3) := by decide +kernel
theorem dX2_leftsWhoMayBeLeftOut_34 : decode cX2_leftsWhoMayBeLeftOut 34 = .ok (.iload_n 2, 1) := by decide +kernel
theorem dX2_leftsWhoMayBeLeftOut_35 : decode cX2_leftsWhoMayBeLeftOut 35 = .ok (.iaload, 1) := by decide +kernel
theorem dX2_leftsWhoMayBeLeftOut_36 : decode cX2_leftsWhoMayBeLeftOut 36 = .ok (.ifCond .eq 9, 3) := by decide +kernel
theorem dX2_leftsWhoMayBeLeftOut_39 : decode cX2_leftsWhoMayBeLeftOut 39 = .ok (.iload_n 1, 1) := by decide +kernel
theorem dX2_leftsWhoMayBeLeftOut_40 : decode cX2_leftsWhoMayBeLeftOut 40 = .ok (.iconst 1, 1) := by decide +kernel
theorem dX2_leftsWhoMayBeLeftOut_41 : decode cX2_leftsWhoMayBeLeftOut 41 = .ok (.iload_n 2, 1) := by decide +kernel
theorem dX2_leftsWhoMayBeLeftOut_42 : decode cX2_leftsWhoMayBeLeftOut 42 = .ok (.ishl, 1) := by decide +kernel
theorem dX2_leftsWhoMayBeLeftOut_43 : decode cX2_leftsWhoMayBeLeftOut 43 = .ok (.ior, 1) := by decide +kernel
theorem dX2_leftsWhoMayBeLeftOut_44 : decode cX2_leftsWhoMayBeLeftOut 44 = .ok (.istore_n 1, 1) := by decide +kernel
theorem dX2_leftsWhoMayBeLeftOut_45 : decode cX2_leftsWhoMayBeLeftOut 45 = .ok (.iinc 2 1, 3) := by decide +kernel
theorem dX2_leftsWhoMayBeLeftOut_48 : decode cX2_leftsWhoMayBeLeftOut 48 = .ok (.goto (-35), 3) := by decide +kernel
theorem dX2_leftsWhoMayBeLeftOut_51 : decode cX2_leftsWhoMayBeLeftOut 51 = .ok (.iload_n 1, 1) := by decide +kernel
theorem dX2_leftsWhoMayBeLeftOut_52 : decode cX2_leftsWhoMayBeLeftOut 52 = .ok (.ireturn, 1) := by decide +kernel
set_option maxRecDepth 20000 in
theorem ggX2_canTake_X5_isPerson : GoodIn wsX2_canTake wsX5_isPerson := goodIn_r _ [5] (by decide +kernel) (by decide +kernel)
set_option maxRecDepth 20000 in
theorem gX2_canTake_X5_isPerson_n54 : GoodIn wsX2_canTake (wsX5_isPerson) := ggX2_canTake_X5_isPerson
set_option maxRecDepth 20000 in
theorem ggX2_canTake_X2_join : GoodIn wsX2_canTake wsX2_join := goodIn_r _ [10, 1, 2, 28, 29, 30, 31, 32] (by decide +kernel) (by decide +kernel)
set_option maxRecDepth 20000 in
theorem gX2_canTake_X2_join : GoodIn wsX2_canTake (wsV RX2 66 RX2 yX2_join wsX2_join) := goodIn_app (goodIn_of _ (by decide +kernel)) ggX2_canTake_X2_join
set_option maxRecDepth 20000 in
theorem ggX2_canTake_X2_growsByOne : GoodIn wsX2_canTake wsX2_growsByOne := goodIn_r _ [14, 15, 1, 16, 17, 18, 9, 19, 20, 21, 2, 22, 23, 24, 25, 26, 4, 27, 3, 5, 6, 7, 8, 10, 28, 29, 30, 31, 32] (by decide +kernel) (by decide +kernel)
set_option maxRecDepth 20000 in
theorem gX2_canTake_X2_growsByOne : GoodIn wsX2_canTake (wsV RX2 40 RX2 yX2_growsByOne wsX2_growsByOne) := goodIn_app (goodIn_of _ (by decide +kernel)) ggX2_canTake_X2_growsByOne
theorem dX2_canTake_0 : decode cX2_canTake 0 = .ok (.aload_n 0, 1) := by decide +kernel
theorem dX2_canTake_1 : decode cX2_canTake 1 = .ok (.getfield 15, 3) := by decide +kernel
theorem dX2_canTake_4 : decode cX2_canTake 4 = .ok (.iload_n 1, 1) := by decide +kernel
theorem dX2_canTake_5 : decode cX2_canTake 5 = .ok (.iaload, 1) := by decide +kernel
theorem dX2_canTake_6 : decode cX2_canTake 6 = .ok (.istore 4, 2) := by decide +kernel
theorem dX2_canTake_8 : decode cX2_canTake 8 = .ok (.aload_n 0, 1) := by decide +kernel
theorem dX2_canTake_9 : decode cX2_canTake 9 = .ok (.getfield 18, 3) := by decide +kernel
theorem dX2_canTake_12 : decode cX2_canTake 12 = .ok (.iload_n 2, 1) := by decide +kernel
theorem dX2_canTake_13 : decode cX2_canTake 13 = .ok (.iaload, 1) := by decide +kernel
theorem dX2_canTake_14 : decode cX2_canTake 14 = .ok (.istore 5, 2) := by decide +kernel
theorem dX2_canTake_16 : decode cX2_canTake 16 = .ok (.iload 4, 2) := by decide +kernel
theorem dX2_canTake_18 : decode cX2_canTake 18 = .ok (.invokestatic 54, 3) := by decide +kernel
theorem dX2_canTake_21 : decode cX2_canTake 21 = .ok (.ifCond .eq 12, 3) := by decide +kernel
theorem dX2_canTake_24 : decode cX2_canTake 24 = .ok (.aload_n 0, 1) := by decide +kernel
theorem dX2_canTake_25 : decode cX2_canTake 25 = .ok (.getfield 18, 3) := by decide +kernel
theorem dX2_canTake_28 : decode cX2_canTake 28 = .ok (.iload 4, 2) := by decide +kernel
theorem dX2_canTake_30 : decode cX2_canTake 30 = .ok (.bipush (-5), 2) := by decide +kernel
theorem dX2_canTake_32 : decode cX2_canTake 32 = .ok (.iastore, 1) := by decide +kernel
theorem dX2_canTake_33 : decode cX2_canTake 33 = .ok (.iload 5, 2) := by decide +kernel
theorem dX2_canTake_35 : decode cX2_canTake 35 = .ok (.invokestatic 54, 3) := by decide +kernel
theorem dX2_canTake_38 : decode cX2_canTake 38 = .ok (.ifCond .eq 12, 3) := by decide +kernel
theorem dX2_canTake_41 : decode cX2_canTake 41 = .ok (.aload_n 0, 1) := by decide +kernel
theorem dX2_canTake_42 : decode cX2_canTake 42 = .ok (.getfield 15, 3) := by decide +kernel
theorem dX2_canTake_45 : decode cX2_canTake 45 = .ok (.iload 5, 2) := by decide +kernel
theorem dX2_canTake_47 : decode cX2_canTake 47 = .ok (.bipush (-5), 2) := by decide +kernel
theorem dX2_canTake_49 : decode cX2_canTake 49 = .ok (.iastore, 1) := by decide +kernel
theorem dX2_canTake_50 : decode cX2_canTake 50 = .ok (.aload_n 0, 1) := by decide +kernel
theorem dX2_canTake_51 : decode cX2_canTake 51 = .ok (.iload_n 1, 1) := by decide +kernel
theorem dX2_canTake_52 : decode cX2_canTake 52 = .ok (.iload_n 2, 1) := by decide +kernel
theorem dX2_canTake_53 : decode cX2_canTake 53 = .ok (.invokevirtual 66, 3) := by decide +kernel
theorem dX2_canTake_56 : decode cX2_canTake 56 = .ok (.iload 4, 2) := by decide +kernel
theorem dX2_canTake_58 : decode cX2_canTake 58 = .ok (.invokestatic 54, 3) := by decide +kernel
theorem dX2_canTake_61 : decode cX2_canTake 61 = .ok (.ifCond .eq 11, 3) := by decide +kernel
theorem dX2_canTake_64 : decode cX2_canTake 64 = .ok (.iload 5, 2) := by decide +kernel
theorem dX2_canTake_66 : decode cX2_canTake 66 = .ok (.invokestatic 54, 3) := by decide +kernel
theorem dX2_canTake_69 : decode cX2_canTake 69 = .ok (.ifCond .ne 5, 3) := by decide +kernel
theorem dX2_canTake_72 : decode cX2_canTake 72 = .ok (.iconst 1, 1) := by decide +kernel
theorem dX2_canTake_73 : decode cX2_canTake 73 = .ok (.ireturn, 1) := by decide +kernel
theorem dX2_canTake_74 : decode cX2_canTake 74 = .ok (.aload_n 0, 1) := by decide +kernel
theorem dX2_canTake_75 : decode cX2_canTake 75 = .ok (.iload_n 1, 1) := by decide +kernel
theorem dX2_canTake_76 : decode cX2_canTake 76 = .ok (.iconst 1, 1) := by decide +kernel
theorem dX2_canTake_77 : decode cX2_canTake 77 = .ok (.iadd, 1) := by decide +kernel
theorem dX2_canTake_78 : decode cX2_canTake 78 = .ok (.iload_n 3, 1) := by decide +kernel
theorem dX2_canTake_79 : decode cX2_canTake 79 = .ok (.iconst 1, 1) := by decide +kernel
theorem dX2_canTake_80 : decode cX2_canTake 80 = .ok (.iload_n 2, 1) := by decide +kernel
theorem dX2_canTake_81 : decode cX2_canTake 81 = .ok (.ishl, 1) := by decide +kernel
theorem dX2_canTake_82 : decode cX2_canTake 82 = .ok (.iconst (-1), 1) := by decide +kernel
theorem dX2_canTake_83 : decode cX2_canTake 83 = .ok (.ixor, 1) := by decide +kernel
theorem dX2_canTake_84 : decode cX2_canTake 84 = .ok (.iand, 1) := by decide +kernel
theorem dX2_canTake_85 : decode cX2_canTake 85 = .ok (.invokevirtual 40, 3) := by decide +kernel
theorem dX2_canTake_88 : decode cX2_canTake 88 = .ok (.ifCond .eq 5, 3) := by decide +kernel
theorem dX2_canTake_91 : decode cX2_canTake 91 = .ok (.iconst 1, 1) := by decide +kernel
theorem dX2_canTake_92 : decode cX2_canTake 92 = .ok (.ireturn, 1) := by decide +kernel
theorem dX2_canTake_93 : decode cX2_canTake 93 = .ok (.aload_n 0, 1) := by decide +kernel
theorem dX2_canTake_94 : decode cX2_canTake 94 = .ok (.iload_n 1, 1) := by decide +kernel
theorem dX2_canTake_95 : decode cX2_canTake 95 = .ok (.iload 4, 2) := by decide +kernel
theorem dX2_canTake_97 : decode cX2_canTake 97 = .ok (.invokevirtual 66, 3) := by decide +kernel
theorem dX2_canTake_100 : decode cX2_canTake 100 = .ok (.aload_n 0, 1) := by decide +kernel
theorem dX2_canTake_101 : decode cX2_canTake 101 = .ok (.iload 5, 2) := by decide +kernel
theorem dX2_canTake_103 : decode cX2_canTake 103 = .ok (.iload_n 2, 1) := by decide +kernel
theorem dX2_canTake_104 : decode cX2_canTake 104 = .ok (.invokevirtual 66, 3) := by decide +kernel
theorem dX2_canTake_107 : decode cX2_canTake 107 = .ok (.iconst 0, 1) := by decide +kernel
theorem dX2_canTake_108 : decode cX2_canTake 108 = .ok (.ireturn, 1) := by decide +kernel
theorem dX2_join_0 : decode cX2_join 0 = .ok (.aload_n 0, 1) := by decide +kernel
theorem dX2_join_1 : decode cX2_join 1 = .ok (.getfield 15, 3) := by decide +kernel
theorem dX2_join_4 : decode cX2_join 4 = .ok (.iload_n 1, 1) := by decide +kernel
theorem dX2_join_5 : decode cX2_join 5 = .ok (.iload_n 2, 1) := by decide +kernel
theorem dX2_join_6 : decode cX2_join 6 = .ok (.iastore, 1) := by decide +kernel
theorem dX2_join_7 : decode cX2_join 7 = .ok (.aload_n 0, 1) := by decide +kernel
theorem dX2_join_8 : decode cX2_join 8 = .ok (.getfield 18, 3) := by decide +kernel
theorem dX2_join_11 : decode cX2_join 11 = .ok (.iload_n 2, 1) := by decide +kernel
theorem dX2_join_12 : decode cX2_join 12 = .ok (.iload_n 1, 1) := by decide +kernel
theorem dX2_join_13 : decode cX2_join 13 = .ok (.iastore, 1) := by decide +kernel
theorem dX2_join_14 : decode cX2_join 14 = .ok (.return_, 1) := by decide +kernel
set_option maxRecDepth 20000 in
theorem ggX2_growsByOne_X2_findFreeRight : GoodIn wsX2_growsByOne wsX2_findFreeRight := goodIn_r _ [7, 8, 9, 1, 10, 11, 12, 13, 6, 14, 2, 15, 16, 17, 24, 25, 26, 27, 28] (by decide +kernel) (by decide +kernel)
set_option maxRecDepth 20000 in
theorem gX2_growsByOne_X2_findFreeRight : GoodIn wsX2_growsByOne (wsV RX2 58 RX2 yX2_findFreeRight wsX2_findFreeRight) := goodIn_app (goodIn_of _ (by decide +kernel)) ggX2_growsByOne_X2_findFreeRight
set_option maxRecDepth 20000 in
theorem ggX2_growsByOne_X5_isPerson : GoodIn wsX2_growsByOne wsX5_isPerson := goodIn_r _ [19] (by decide +kernel) (by decide +kernel)
set_option maxRecDepth 20000 in
theorem gX2_growsByOne_X5_isPerson_n54 : GoodIn wsX2_growsByOne (wsX5_isPerson) := ggX2_growsByOne_X5_isPerson
set_option maxRecDepth 20000 in
theorem ggX2_growsByOne_X2_join : GoodIn wsX2_growsByOne wsX2_join := goodIn_r _ [23, 2, 10, 24, 25, 26, 27, 28] (by decide +kernel) (by decide +kernel)
set_option maxRecDepth 20000 in
theorem gX2_growsByOne_X2_join : GoodIn wsX2_growsByOne (wsV RX2 66 RX2 yX2_join wsX2_join) := goodIn_app (goodIn_of _ (by decide +kernel)) ggX2_growsByOne_X2_join
theorem dX2_growsByOne_0 : decode cX2_growsByOne 0 = .ok (.aload_n 0, 1) := by decide +kernel
theorem dX2_growsByOne_1 : decode cX2_growsByOne 1 = .ok (.iload_n 1, 1) := by decide +kernel
theorem dX2_growsByOne_2 : decode cX2_growsByOne 2 = .ok (.iload_n 2, 1) := by decide +kernel
theorem dX2_growsByOne_3 : decode cX2_growsByOne 3 = .ok (.invokevirtual 58, 3) := by decide +kernel
theorem dX2_growsByOne_6 : decode cX2_growsByOne 6 = .ok (.istore_n 3, 1) := by decide +kernel
theorem dX2_growsByOne_7 : decode cX2_growsByOne 7 = .ok (.iload_n 3, 1) := by decide +kernel
theorem dX2_growsByOne_8 : decode cX2_growsByOne 8 = .ok (.bipush (-5), 2) := by decide +kernel
theorem dX2_growsByOne_10 : decode cX2_growsByOne 10 = .ok (.if_icmp .ne 5, 3) := by decide +kernel
theorem dX2_growsByOne_13 : decode cX2_growsByOne 13 = .ok (.iconst 0, 1) := by decide +kernel
theorem dX2_growsByOne_14 : decode cX2_growsByOne 14 = .ok (.ireturn, 1) := by decide +kernel
theorem dX2_growsByOne_15 : decode cX2_growsByOne 15 = .ok (.iconst 0, 1) := by decide +kernel
theorem dX2_growsByOne_16 : decode cX2_growsByOne 16 = .ok (.istore 4, 2) := by decide +kernel
theorem dX2_growsByOne_18 : decode cX2_growsByOne 18 = .ok (.iload 4, 2) := by decide +kernel
theorem dX2_growsByOne_20 : decode cX2_growsByOne 20 = .ok (.bipush 8, 2) := by decide +kernel
theorem dX2_growsByOne_22 : decode cX2_growsByOne 22 = .ok (.if_icmp .ge 53, 3) := by decide +kernel
theorem dX2_growsByOne_25 : decode cX2_growsByOne 25 = .ok (.iload_n 3, 1) := by decide +kernel
theorem dX2_growsByOne_26 : decode cX2_growsByOne 26 = .ok (.invokestatic 54, 3) := by decide +kernel
theorem dX2_growsByOne_29 : decode cX2_growsByOne 29 = .ok (.ifCond .eq 46, 3) := by decide +kernel
theorem dX2_growsByOne_32 : decode cX2_growsByOne 32 = .ok (.aload_n 0, 1) := by decide +kernel
theorem dX2_growsByOne_33 : decode cX2_growsByOne 33 = .ok (.getfield 21, 3) := by decide +kernel
theorem dX2_growsByOne_36 : decode cX2_growsByOne 36 = .ok (.iload_n 3, 1) := by decide +kernel
theorem dX2_growsByOne_37 : decode cX2_growsByOne 37 = .ok (.iaload, 1) := by decide +kernel
theorem dX2_growsByOne_38 : decode cX2_growsByOne 38 = .ok (.istore 5, 2) := by decide +kernel
theorem dX2_growsByOne_40 : decode cX2_growsByOne 40 = .ok (.iload 5, 2) := by decide +kernel
theorem dX2_growsByOne_42 : decode cX2_growsByOne 42 = .ok (.invokestatic 54, 3) := by decide +kernel
theorem dX2_growsByOne_45 : decode cX2_growsByOne 45 = .ok (.ifCond .ne 5, 3) := by decide +kernel
theorem dX2_growsByOne_48 : decode cX2_growsByOne 48 = .ok (.iconst 0, 1) := by decide +kernel
theorem dX2_growsByOne_49 : decode cX2_growsByOne 49 = .ok (.ireturn, 1) := by decide +kernel
theorem dX2_growsByOne_50 : decode cX2_growsByOne 50 = .ok (.aload_n 0, 1) := by decide +kernel
theorem dX2_growsByOne_51 : decode cX2_growsByOne 51 = .ok (.getfield 15, 3) := by decide +kernel
theorem dX2_growsByOne_54 : decode cX2_growsByOne 54 = .ok (.iload 5, 2) := by decide +kernel
theorem dX2_growsByOne_56 : decode cX2_growsByOne 56 = .ok (.iaload, 1) := by decide +kernel
theorem dX2_growsByOne_57 : decode cX2_growsByOne 57 = .ok (.istore 6, 2) := by decide +kernel
theorem dX2_growsByOne_59 : decode cX2_growsByOne 59 = .ok (.aload_n 0, 1) := by decide +kernel
theorem dX2_growsByOne_60 : decode cX2_growsByOne 60 = .ok (.iload 5, 2) := by decide +kernel
theorem dX2_growsByOne_62 : decode cX2_growsByOne 62 = .ok (.iload_n 3, 1) := by decide +kernel
theorem dX2_growsByOne_63 : decode cX2_growsByOne 63 = .ok (.invokevirtual 66, 3) := by decide +kernel
theorem dX2_growsByOne_66 : decode cX2_growsByOne 66 = .ok (.iload 6, 2) := by decide +kernel
theorem dX2_growsByOne_68 : decode cX2_growsByOne 68 = .ok (.istore_n 3, 1) := by decide +kernel
theorem dX2_growsByOne_69 : decode cX2_growsByOne 69 = .ok (.iinc 4 1, 3) := by decide +kernel
theorem dX2_growsByOne_72 : decode cX2_growsByOne 72 = .ok (.goto (-54), 3) := by decide +kernel
theorem dX2_growsByOne_75 : decode cX2_growsByOne 75 = .ok (.iconst 1, 1) := by decide +kernel
theorem dX2_growsByOne_76 : decode cX2_growsByOne 76 = .ok (.ireturn, 1) := by decide +kernel
set_option maxRecDepth 20000 in
theorem ggX2_findFreeRight_X2_leftsWithoutPartner : GoodIn wsX2_findFreeRight wsX2_leftsWithoutPartner := goodIn_r _ [9, 10, 14, 15, 16, 17, 18] (by decide +kernel) (by decide +kernel)
set_option maxRecDepth 20000 in
theorem gX2_findFreeRight_X2_leftsWithoutPartner : GoodIn wsX2_findFreeRight (wsV RX2 70 RX2 yX2_leftsWithoutPartner wsX2_leftsWithoutPartner) := goodIn_app (goodIn_of _ (by decide +kernel)) ggX2_findFreeRight_X2_leftsWithoutPartner
set_option maxRecDepth 20000 in
theorem ggX2_findFreeRight_X5_hasBit : GoodIn wsX2_findFreeRight wsX5_hasBit := goodIn_r _ [13] (by decide +kernel) (by decide +kernel)
set_option maxRecDepth 20000 in
theorem gX2_findFreeRight_X5_hasBit_n47 : GoodIn wsX2_findFreeRight (wsX5_hasBit) := ggX2_findFreeRight_X5_hasBit
theorem dX2_findFreeRight_0 : decode cX2_findFreeRight 0 = .ok (.aload_n 0, 1) := by decide +kernel
theorem dX2_findFreeRight_1 : decode cX2_findFreeRight 1 = .ok (.iload_n 1, 1) := by decide +kernel
theorem dX2_findFreeRight_2 : decode cX2_findFreeRight 2 = .ok (.invokevirtual 70, 3) := by decide +kernel
theorem dX2_findFreeRight_5 : decode cX2_findFreeRight 5 = .ok (.istore_n 3, 1) := by decide +kernel
theorem dX2_findFreeRight_6 : decode cX2_findFreeRight 6 = .ok (.iload_n 2, 1) := by decide +kernel
theorem dX2_findFreeRight_7 : decode cX2_findFreeRight 7 = .ok (.istore 4, 2) := by decide +kernel
theorem dX2_findFreeRight_9 : decode cX2_findFreeRight 9 = .ok (.aload_n 0, 1) := by decide +kernel
theorem dX2_findFreeRight_10 : decode cX2_findFreeRight 10 = .ok (.iload_n 3, 1) := by decide +kernel
theorem dX2_findFreeRight_11 : decode cX2_findFreeRight 11 = .ok (.putfield 62, 3) := by decide +kernel
theorem dX2_findFreeRight_14 : decode cX2_findFreeRight 14 = .ok (.iconst 0, 1) := by decide +kernel
theorem dX2_findFreeRight_15 : decode cX2_findFreeRight 15 = .ok (.istore 5, 2) := by decide +kernel
theorem dX2_findFreeRight_17 : decode cX2_findFreeRight 17 = .ok (.iload 5, 2) := by decide +kernel
theorem dX2_findFreeRight_19 : decode cX2_findFreeRight 19 = .ok (.bipush 8, 2) := by decide +kernel
theorem dX2_findFreeRight_21 : decode cX2_findFreeRight 21 = .ok (.if_icmp .ge 152, 3) := by decide +kernel
theorem dX2_findFreeRight_24 : decode cX2_findFreeRight 24 = .ok (.iload_n 3, 1) := by decide +kernel
theorem dX2_findFreeRight_25 : decode cX2_findFreeRight 25 = .ok (.ifCond .eq 148, 3) := by decide +kernel
theorem dX2_findFreeRight_28 : decode cX2_findFreeRight 28 = .ok (.iload_n 1, 1) := by decide +kernel
theorem dX2_findFreeRight_29 : decode cX2_findFreeRight 29 = .ok (.istore 6, 2) := by decide +kernel
theorem dX2_findFreeRight_31 : decode cX2_findFreeRight 31 = .ok (.iload 6, 2) := by decide +kernel
theorem dX2_findFreeRight_33 : decode cX2_findFreeRight 33 = .ok (.bipush 8, 2) := by decide +kernel
theorem dX2_findFreeRight_35 : decode cX2_findFreeRight 35 = .ok (.if_icmp .ge 132, 3) := by decide +kernel
theorem dX2_findFreeRight_38 : decode cX2_findFreeRight 38 = .ok (.iload_n 3, 1) := by decide +kernel
theorem dX2_findFreeRight_39 : decode cX2_findFreeRight 39 = .ok (.iload 6, 2) := by decide +kernel
theorem dX2_findFreeRight_41 : decode cX2_findFreeRight 41 = .ok (.invokestatic 47, 3) := by decide +kernel
theorem dX2_findFreeRight_44 : decode cX2_findFreeRight 44 = .ok (.ifCond .ne 6, 3) := by decide +kernel
theorem dX2_findFreeRight_47 : decode cX2_findFreeRight 47 = .ok (.goto 114, 3) := by decide +kernel
theorem dX2_findFreeRight_50 : decode cX2_findFreeRight 50 = .ok (.iload_n 3, 1) := by decide +kernel
theorem dX2_findFreeRight_51 : decode cX2_findFreeRight 51 = .ok (.iconst 1, 1) := by decide +kernel
theorem dX2_findFreeRight_52 : decode cX2_findFreeRight 52 = .ok (.iload 6, 2) := by decide +kernel
theorem dX2_findFreeRight_54 : decode cX2_findFreeRight 54 = .ok (.ishl, 1) := by decide +kernel
theorem dX2_findFreeRight_55 : decode cX2_findFreeRight 55 = .ok (.iconst (-1), 1) := by decide +kernel
theorem dX2_findFreeRight_56 : decode cX2_findFreeRight 56 = .ok (.ixor, 1) := by decide +kernel
theorem dX2_findFreeRight_57 : decode cX2_findFreeRight 57 = .ok (.iand, 1) := by decide +kernel
theorem dX2_findFreeRight_58 : decode cX2_findFreeRight 58 = .ok (.istore_n 3, 1) := by decide +kernel
theorem dX2_findFreeRight_59 : decode cX2_findFreeRight 59 = .ok (.iconst 0, 1) := by decide +kernel
theorem dX2_findFreeRight_60 : decode cX2_findFreeRight 60 = .ok (.istore 7, 2) := by decide +kernel
theorem dX2_findFreeRight_62 : decode cX2_findFreeRight 62 = .ok (.iload 7, 2) := by decide +kernel
theorem dX2_findFreeRight_64 : decode cX2_findFreeRight 64 = .ok (.bipush 8, 2) := by decide +kernel
theorem dX2_findFreeRight_66 : decode cX2_findFreeRight 66 = .ok (.if_icmp .ge 95, 3) := by decide +kernel
theorem dX2_findFreeRight_69 : decode cX2_findFreeRight 69 = .ok (.aload_n 0, 1) := by decide +kernel
theorem dX2_findFreeRight_70 : decode cX2_findFreeRight 70 = .ok (.getfield 9, 3) := by decide +kernel
theorem dX2_findFreeRight_73 : decode cX2_findFreeRight 73 = .ok (.iload 6, 2) := by decide +kernel
theorem dX2_findFreeRight_75 : decode cX2_findFreeRight 75 = .ok (.iaload, 1) := by decide +kernel
theorem dX2_findFreeRight_76 : decode cX2_findFreeRight 76 = .ok (.iload 4, 2) := by decide +kernel
theorem dX2_findFreeRight_78 : decode cX2_findFreeRight 78 = .ok (.iand, 1) := by decide +kernel
theorem dX2_findFreeRight_79 : decode cX2_findFreeRight 79 = .ok (.iload 7, 2) := by decide +kernel
theorem dX2_findFreeRight_81 : decode cX2_findFreeRight 81 = .ok (.invokestatic 47, 3) := by decide +kernel
theorem dX2_findFreeRight_84 : decode cX2_findFreeRight 84 = .ok (.ifCond .ne 6, 3) := by decide +kernel
theorem dX2_findFreeRight_87 : decode cX2_findFreeRight 87 = .ok (.goto 68, 3) := by decide +kernel
theorem dX2_findFreeRight_90 : decode cX2_findFreeRight 90 = .ok (.iload 4, 2) := by decide +kernel
theorem dX2_findFreeRight_92 : decode cX2_findFreeRight 92 = .ok (.iconst 1, 1) := by decide +kernel
theorem dX2_findFreeRight_93 : decode cX2_findFreeRight 93 = .ok (.iload 7, 2) := by decide +kernel
theorem dX2_findFreeRight_95 : decode cX2_findFreeRight 95 = .ok (.ishl, 1) := by decide +kernel
theorem dX2_findFreeRight_96 : decode cX2_findFreeRight 96 = .ok (.iconst (-1), 1) := by decide +kernel
theorem dX2_findFreeRight_97 : decode cX2_findFreeRight 97 = .ok (.ixor, 1) := by decide +kernel
theorem dX2_findFreeRight_98 : decode cX2_findFreeRight 98 = .ok (.iand, 1) := by decide +kernel
theorem dX2_findFreeRight_99 : decode cX2_findFreeRight 99 = .ok (.istore 4, 2) := by decide +kernel
theorem dX2_findFreeRight_101 : decode cX2_findFreeRight 101 = .ok (.aload_n 0, 1) := by decide +kernel
theorem dX2_findFreeRight_102 : decode cX2_findFreeRight 102 = .ok (.getfield 21, 3) := by decide +kernel
theorem dX2_findFreeRight_105 : decode cX2_findFreeRight 105 = .ok (.iload 7, 2) := by decide +kernel
theorem dX2_findFreeRight_107 : decode cX2_findFreeRight 107 = .ok (.iload 6, 2) := by decide +kernel
theorem dX2_findFreeRight_109 : decode cX2_findFreeRight 109 = .ok (.iastore, 1) := by decide +kernel
theorem dX2_findFreeRight_110 : decode cX2_findFreeRight 110 = .ok (.aload_n 0, 1) := by decide +kernel
theorem dX2_findFreeRight_111 : decode cX2_findFreeRight 111 = .ok (.getfield 18, 3) := by decide +kernel
theorem dX2_findFreeRight_114 : decode cX2_findFreeRight 114 = .ok (.iload 7, 2) := by decide +kernel
theorem dX2_findFreeRight_116 : decode cX2_findFreeRight 116 = .ok (.iaload, 1) := by decide +kernel
theorem dX2_findFreeRight_117 : decode cX2_findFreeRight 117 = .ok (.bipush (-5), 2) := by decide +kernel
theorem dX2_findFreeRight_119 : decode cX2_findFreeRight 119 = .ok (.if_icmp .ne 6, 3) := by decide +kernel
theorem dX2_findFreeRight_122 : decode cX2_findFreeRight 122 = .ok (.iload 7, 2) := by decide +kernel
theorem dX2_findFreeRight_124 : decode cX2_findFreeRight 124 = .ok (.ireturn, 1) := by decide +kernel
theorem dX2_findFreeRight_125 : decode cX2_findFreeRight 125 = .ok (.iload_n 3, 1) := by decide +kernel
theorem dX2_findFreeRight_126 : decode cX2_findFreeRight 126 = .ok (.iconst 1, 1) := by decide +kernel
theorem dX2_findFreeRight_127 : decode cX2_findFreeRight 127 = .ok (.aload_n 0, 1) := by decide +kernel
theorem dX2_findFreeRight_128 : decode cX2_findFreeRight 128 = .ok (.getfield 18, 3) := by decide +kernel
theorem dX2_findFreeRight_131 : decode cX2_findFreeRight 131 = .ok (.iload 7, 2) := by decide +kernel
theorem dX2_findFreeRight_133 : decode cX2_findFreeRight 133 = .ok (.iaload, 1) := by decide +kernel
end
section
theorem dX2_findFreeRight_134 : decode cX2_findFreeRight 134 = .ok (.ishl, 1) := by decide +kernel
theorem dX2_findFreeRight_135 : decode cX2_findFreeRight 135 = .ok (.ior, 1) := by decide +kernel
theorem dX2_findFreeRight_136 : decode cX2_findFreeRight 136 = .ok (.istore_n 3, 1) := by decide +kernel
theorem dX2_findFreeRight_137 : decode cX2_findFreeRight 137 = .ok (.aload_n 0, 1) := by decide +kernel
theorem dX2_findFreeRight_138 : decode cX2_findFreeRight 138 = .ok (.dup, 1) := by decide +kernel
theorem dX2_findFreeRight_139 : decode cX2_findFreeRight 139 = .ok (.getfield 62, 3) := by decide +kernel
theorem dX2_findFreeRight_142 : decode cX2_findFreeRight 142 = .ok (.iconst 1, 1) := by decide +kernel
theorem dX2_findFreeRight_143 : decode cX2_findFreeRight 143 = .ok (.aload_n 0, 1) := by decide +kernel
theorem dX2_findFreeRight_144 : decode cX2_findFreeRight 144 = .ok (.getfield 18, 3) := by decide +kernel
theorem dX2_findFreeRight_147 : decode cX2_findFreeRight 147 = .ok (.iload 7, 2) := by decide +kernel
theorem dX2_findFreeRight_149 : decode cX2_findFreeRight 149 = .ok (.iaload, 1) := by decide +kernel
theorem dX2_findFreeRight_150 : decode cX2_findFreeRight 150 = .ok (.ishl, 1) := by decide +kernel
theorem dX2_findFreeRight_151 : decode cX2_findFreeRight 151 = .ok (.ior, 1) := by decide +kernel
theorem dX2_findFreeRight_152 : decode cX2_findFreeRight 152 = .ok (.putfield 62, 3) := by decide +kernel
theorem dX2_findFreeRight_155 : decode cX2_findFreeRight 155 = .ok (.iinc 7 1, 3) := by decide +kernel
theorem dX2_findFreeRight_158 : decode cX2_findFreeRight 158 = .ok (.goto (-96), 3) := by decide +kernel
theorem dX2_findFreeRight_161 : decode cX2_findFreeRight 161 = .ok (.iinc 6 1, 3) := by decide +kernel
theorem dX2_findFreeRight_164 : decode cX2_findFreeRight 164 = .ok (.goto (-133), 3) := by decide +kernel
theorem dX2_findFreeRight_167 : decode cX2_findFreeRight 167 = .ok (.iinc 5 1, 3) := by decide +kernel
theorem dX2_findFreeRight_170 : decode cX2_findFreeRight 170 = .ok (.goto (-153), 3) := by decide +kernel
theorem dX2_findFreeRight_173 : decode cX2_findFreeRight 173 = .ok (.bipush (-5), 2) := by decide +kernel
theorem dX2_findFreeRight_175 : decode cX2_findFreeRight 175 = .ok (.ireturn, 1) := by decide +kernel
theorem dX2_leftsWithoutPartner_0 : decode cX2_leftsWithoutPartner 0 = .ok (.iconst 0, 1) := by decide +kernel
theorem dX2_leftsWithoutPartner_1 : decode cX2_leftsWithoutPartner 1 = .ok (.istore_n 2, 1) := by decide +kernel
theorem dX2_leftsWithoutPartner_2 : decode cX2_leftsWithoutPartner 2 = .ok (.iload_n 1, 1) := by decide +kernel
theorem dX2_leftsWithoutPartner_3 : decode cX2_leftsWithoutPartner 3 = .ok (.istore_n 3, 1) := by decide +kernel
theorem dX2_leftsWithoutPartner_4 : decode cX2_leftsWithoutPartner 4 = .ok (.iload_n 3, 1) := by decide +kernel
theorem dX2_leftsWithoutPartner_5 : decode cX2_leftsWithoutPartner 5 = .ok (.bipush 8, 2) := by decide +kernel
theorem dX2_leftsWithoutPartner_7 : decode cX2_leftsWithoutPartner 7 = .ok (.if_icmp .ge 26, 3) := by decide +kernel
theorem dX2_leftsWithoutPartner_10 : decode cX2_leftsWithoutPartner 10 = .ok (.aload_n 0, 1) := by decide +kernel
theorem dX2_leftsWithoutPartner_11 : decode cX2_leftsWithoutPartner 11 = .ok (.getfield 15, 3) := by decide +kernel
theorem dX2_leftsWithoutPartner_14 : decode cX2_leftsWithoutPartner 14 = .ok (.iload_n 3, 1) := by decide +kernel
theorem dX2_leftsWithoutPartner_15 : decode cX2_leftsWithoutPartner 15 = .ok (.iaload, 1) := by decide +kernel
theorem dX2_leftsWithoutPartner_16 : decode cX2_leftsWithoutPartner 16 = .ok (.bipush (-5), 2) := by decide +kernel
theorem dX2_leftsWithoutPartner_18 : decode cX2_leftsWithoutPartner 18 = .ok (.if_icmp .ne 9, 3) := by decide +kernel
theorem dX2_leftsWithoutPartner_21 : decode cX2_leftsWithoutPartner 21 = .ok (.iload_n 2, 1) := by decide +kernel
theorem dX2_leftsWithoutPartner_22 : decode cX2_leftsWithoutPartner 22 = .ok (.iconst 1, 1) := by decide +kernel
theorem dX2_leftsWithoutPartner_23 : decode cX2_leftsWithoutPartner 23 = .ok (.iload_n 3, 1) := by decide +kernel
theorem dX2_leftsWithoutPartner_24 : decode cX2_leftsWithoutPartner 24 = .ok (.ishl, 1) := by decide +kernel
theorem dX2_leftsWithoutPartner_25 : decode cX2_leftsWithoutPartner 25 = .ok (.ior, 1) := by decide +kernel
theorem dX2_leftsWithoutPartner_26 : decode cX2_leftsWithoutPartner 26 = .ok (.istore_n 2, 1) := by decide +kernel
theorem dX2_leftsWithoutPartner_27 : decode cX2_leftsWithoutPartner 27 = .ok (.iinc 3 1, 3) := by decide +kernel
theorem dX2_leftsWithoutPartner_30 : decode cX2_leftsWithoutPartner 30 = .ok (.goto (-26), 3) := by decide +kernel
theorem dX2_leftsWithoutPartner_33 : decode cX2_leftsWithoutPartner 33 = .ok (.iload_n 2, 1) := by decide +kernel
theorem dX2_leftsWithoutPartner_34 : decode cX2_leftsWithoutPartner 34 = .ok (.ireturn, 1) := by decide +kernel
theorem dX3_init_0 : decode cX3_init 0 = .ok (.aload_n 0, 1) := by decide +kernel
theorem dX3_init_1 : decode cX3_init 1 = .ok (.invokespecial 3, 3) := by decide +kernel
theorem dX3_init_4 : decode cX3_init 4 = .ok (.aload_n 0, 1) := by decide +kernel
theorem dX3_init_5 : decode cX3_init 5 = .ok (.bipush 64, 2) := by decide +kernel
theorem dX3_init_7 : decode cX3_init 7 = .ok (.newarray .int, 2) := by decide +kernel
theorem dX3_init_9 : decode cX3_init 9 = .ok (.putfield 9, 3) := by decide +kernel
theorem dX3_init_12 : decode cX3_init 12 = .ok (.return_, 1) := by decide +kernel
theorem dX3_numberOf_0 : decode cX3_numberOf 0 = .ok (.aload_n 0, 1) := by decide +kernel
theorem dX3_numberOf_1 : decode cX3_numberOf 1 = .ok (.getfield 9, 3) := by decide +kernel
theorem dX3_numberOf_4 : decode cX3_numberOf 4 = .ok (.bipush 8, 2) := by decide +kernel
theorem dX3_numberOf_6 : decode cX3_numberOf 6 = .ok (.iload_n 1, 1) := by decide +kernel
theorem dX3_numberOf_7 : decode cX3_numberOf 7 = .ok (.imul, 1) := by decide +kernel
theorem dX3_numberOf_8 : decode cX3_numberOf 8 = .ok (.iload_n 2, 1) := by decide +kernel
theorem dX3_numberOf_9 : decode cX3_numberOf 9 = .ok (.iadd, 1) := by decide +kernel
theorem dX3_numberOf_10 : decode cX3_numberOf 10 = .ok (.iaload, 1) := by decide +kernel
theorem dX3_numberOf_11 : decode cX3_numberOf 11 = .ok (.ireturn, 1) := by decide +kernel
set_option maxRecDepth 20000 in
theorem ggX3_make_J7_fill_53178 : GoodIn wsX3_make wsJ7_fill_53178 := goodIn_r _ [5] (by decide +kernel) (by decide +kernel)
set_option maxRecDepth 20000 in
theorem gX3_make_J7_fill_53178 : GoodIn wsX3_make (va_wsS RX3 15 yJ7_fill_53178 wsJ7_fill_53178) := goodIn_app (goodIn_of _ (by decide +kernel)) ggX3_make_J7_fill_53178
set_option maxRecDepth 20000 in
theorem ggX3_make_X0_isPossible : GoodIn wsX3_make wsX0_isPossible := goodIn_r _ [10, 11, 12, 13, 9, 14, 15, 16, 17, 18, 19, 20, 21, 22, 23, 24, 25, 26, 27, 28, 29, 30, 63] (by decide +kernel) (by decide +kernel)
set_option maxRecDepth 20000 in
theorem gX3_make_X0_isPossible : GoodIn wsX3_make (wsV RX3 21 RX0 yX0_isPossible wsX0_isPossible) := goodIn_app (goodIn_of _ (by decide +kernel)) ggX3_make_X0_isPossible
set_option maxRecDepth 20000 in
theorem ggX3_make_X3_addWish : GoodIn wsX3_make wsX3_addWish := goodIn_r _ [35, 36, 37, 38, 34, 39, 40, 41, 42, 43, 1, 16, 17, 18, 44, 45, 46, 47, 48, 49, 50, 51, 52, 53, 54, 55, 56, 57, 58, 59, 60, 61, 62] (by decide +kernel) (by decide +kernel)
set_option maxRecDepth 20000 in
theorem gX3_make_X3_addWish : GoodIn wsX3_make (wsV RX3 27 RX3 yX3_addWish wsX3_addWish) := goodIn_app (goodIn_of _ (by decide +kernel)) ggX3_make_X3_addWish
theorem dX3_make_0 : decode cX3_make 0 = .ok (.aload_n 0, 1) := by decide +kernel
theorem dX3_make_1 : decode cX3_make 1 = .ok (.getfield 9, 3) := by decide +kernel
theorem dX3_make_4 : decode cX3_make 4 = .ok (.bipush (-5), 2) := by decide +kernel
theorem dX3_make_6 : decode cX3_make 6 = .ok (.invokestatic 15, 3) := by decide +kernel
theorem dX3_make_9 : decode cX3_make 9 = .ok (.iconst 0, 1) := by decide +kernel
theorem dX3_make_10 : decode cX3_make 10 = .ok (.istore_n 2, 1) := by decide +kernel
theorem dX3_make_11 : decode cX3_make 11 = .ok (.iload_n 2, 1) := by decide +kernel
theorem dX3_make_12 : decode cX3_make 12 = .ok (.bipush 8, 2) := by decide +kernel
theorem dX3_make_14 : decode cX3_make 14 = .ok (.if_icmp .ge 38, 3) := by decide +kernel
theorem dX3_make_17 : decode cX3_make 17 = .ok (.iconst 0, 1) := by decide +kernel
theorem dX3_make_18 : decode cX3_make 18 = .ok (.istore_n 3, 1) := by decide +kernel
theorem dX3_make_19 : decode cX3_make 19 = .ok (.iload_n 3, 1) := by decide +kernel
theorem dX3_make_20 : decode cX3_make 20 = .ok (.bipush 8, 2) := by decide +kernel
theorem dX3_make_22 : decode cX3_make 22 = .ok (.if_icmp .ge 24, 3) := by decide +kernel
theorem dX3_make_25 : decode cX3_make 25 = .ok (.aload_n 1, 1) := by decide +kernel
theorem dX3_make_26 : decode cX3_make 26 = .ok (.iload_n 2, 1) := by decide +kernel
theorem dX3_make_27 : decode cX3_make 27 = .ok (.iload_n 3, 1) := by decide +kernel
theorem dX3_make_28 : decode cX3_make 28 = .ok (.invokevirtual 21, 3) := by decide +kernel
theorem dX3_make_31 : decode cX3_make 31 = .ok (.ifCond .eq 9, 3) := by decide +kernel
theorem dX3_make_34 : decode cX3_make 34 = .ok (.aload_n 0, 1) := by decide +kernel
theorem dX3_make_35 : decode cX3_make 35 = .ok (.iload_n 2, 1) := by decide +kernel
theorem dX3_make_36 : decode cX3_make 36 = .ok (.iload_n 3, 1) := by decide +kernel
theorem dX3_make_37 : decode cX3_make 37 = .ok (.invokevirtual 27, 3) := by decide +kernel
theorem dX3_make_40 : decode cX3_make 40 = .ok (.iinc 3 1, 3) := by decide +kernel
theorem dX3_make_43 : decode cX3_make 43 = .ok (.goto (-24), 3) := by decide +kernel
theorem dX3_make_46 : decode cX3_make 46 = .ok (.iinc 2 1, 3) := by decide +kernel
theorem dX3_make_49 : decode cX3_make 49 = .ok (.goto (-38), 3) := by decide +kernel
theorem dX3_make_52 : decode cX3_make 52 = .ok (.return_, 1) := by decide +kernel
set_option maxRecDepth 20000 in
theorem ggX3_addWish_X3_leastNumberWithout : GoodIn wsX3_addWish wsX3_leastNumberWithout := goodIn_r _ [5, 6, 7, 8, 4, 9, 10, 11, 12, 13, 32] (by decide +kernel) (by decide +kernel)
set_option maxRecDepth 20000 in
theorem gX3_addWish_X3_leastNumberWithout : GoodIn wsX3_addWish (wsV RX3 31 RX3 yX3_leastNumberWithout wsX3_leastNumberWithout) := goodIn_app (goodIn_of _ (by decide +kernel)) ggX3_addWish_X3_leastNumberWithout
set_option maxRecDepth 20000 in
theorem ggX3_addWish_X3_leftWith : GoodIn wsX3_addWish wsX3_leftWith := goodIn_r _ [17, 6, 7, 8, 4, 9, 10, 32] (by decide +kernel) (by decide +kernel)
set_option maxRecDepth 20000 in
theorem gX3_addWish_X3_leftWith : GoodIn wsX3_addWish (wsV RX3 35 RX3 yX3_leftWith wsX3_leftWith) := goodIn_app (goodIn_of _ (by decide +kernel)) ggX3_addWish_X3_leftWith
set_option maxRecDepth 20000 in
theorem ggX3_addWish_X3_exchangeAlongPath : GoodIn wsX3_addWish wsX3_exchangeAlongPath := goodIn_r _ [21, 14, 15, 16, 4, 17, 6, 7, 8, 9, 10, 22, 12, 23, 24, 25, 26, 27, 28, 29, 30, 31, 32] (by decide +kernel) (by decide +kernel)
set_option maxRecDepth 20000 in
theorem gX3_addWish_X3_exchangeAlongPath : GoodIn wsX3_addWish (wsV RX3 39 RX3 yX3_exchangeAlongPath wsX3_exchangeAlongPath) := goodIn_app (goodIn_of _ (by decide +kernel)) ggX3_addWish_X3_exchangeAlongPath
set_option maxRecDepth 20000 in
theorem ggX3_addWish_X3_setNumber : GoodIn wsX3_addWish wsX3_setNumber := goodIn_r _ [31, 10, 32] (by decide +kernel) (by decide +kernel)
set_option maxRecDepth 20000 in
theorem gX3_addWish_X3_setNumber : GoodIn wsX3_addWish (wsV RX3 43 RX3 yX3_setNumber wsX3_setNumber) := goodIn_app (goodIn_of _ (by decide +kernel)) ggX3_addWish_X3_setNumber
theorem dX3_addWish_0 : decode cX3_addWish 0 = .ok (.aload_n 0, 1) := by decide +kernel
theorem dX3_addWish_1 : decode cX3_addWish 1 = .ok (.iconst 1, 1) := by decide +kernel
theorem dX3_addWish_2 : decode cX3_addWish 2 = .ok (.iload_n 1, 1) := by decide +kernel
theorem dX3_addWish_3 : decode cX3_addWish 3 = .ok (.invokevirtual 31, 3) := by decide +kernel
theorem dX3_addWish_6 : decode cX3_addWish 6 = .ok (.istore_n 3, 1) := by decide +kernel
theorem dX3_addWish_7 : decode cX3_addWish 7 = .ok (.aload_n 0, 1) := by decide +kernel
theorem dX3_addWish_8 : decode cX3_addWish 8 = .ok (.iconst 0, 1) := by decide +kernel
theorem dX3_addWish_9 : decode cX3_addWish 9 = .ok (.iload_n 2, 1) := by decide +kernel
theorem dX3_addWish_10 : decode cX3_addWish 10 = .ok (.invokevirtual 31, 3) := by decide +kernel
theorem dX3_addWish_13 : decode cX3_addWish 13 = .ok (.istore 4, 2) := by decide +kernel
theorem dX3_addWish_15 : decode cX3_addWish 15 = .ok (.aload_n 0, 1) := by decide +kernel
theorem dX3_addWish_16 : decode cX3_addWish 16 = .ok (.iload_n 2, 1) := by decide +kernel
theorem dX3_addWish_17 : decode cX3_addWish 17 = .ok (.iload_n 3, 1) := by decide +kernel
theorem dX3_addWish_18 : decode cX3_addWish 18 = .ok (.invokevirtual 35, 3) := by decide +kernel
theorem dX3_addWish_21 : decode cX3_addWish 21 = .ok (.bipush (-5), 2) := by decide +kernel
theorem dX3_addWish_23 : decode cX3_addWish 23 = .ok (.if_icmp .eq 11, 3) := by decide +kernel
theorem dX3_addWish_26 : decode cX3_addWish 26 = .ok (.aload_n 0, 1) := by decide +kernel
theorem dX3_addWish_27 : decode cX3_addWish 27 = .ok (.iload_n 2, 1) := by decide +kernel
theorem dX3_addWish_28 : decode cX3_addWish 28 = .ok (.iload_n 3, 1) := by decide +kernel
theorem dX3_addWish_29 : decode cX3_addWish 29 = .ok (.iload 4, 2) := by decide +kernel
theorem dX3_addWish_31 : decode cX3_addWish 31 = .ok (.invokevirtual 39, 3) := by decide +kernel
theorem dX3_addWish_34 : decode cX3_addWish 34 = .ok (.aload_n 0, 1) := by decide +kernel
theorem dX3_addWish_35 : decode cX3_addWish 35 = .ok (.iload_n 1, 1) := by decide +kernel
theorem dX3_addWish_36 : decode cX3_addWish 36 = .ok (.iload_n 2, 1) := by decide +kernel
theorem dX3_addWish_37 : decode cX3_addWish 37 = .ok (.iload_n 3, 1) := by decide +kernel
theorem dX3_addWish_38 : decode cX3_addWish 38 = .ok (.invokevirtual 43, 3) := by decide +kernel
theorem dX3_addWish_41 : decode cX3_addWish 41 = .ok (.return_, 1) := by decide +kernel
theorem dX3_setNumber_0 : decode cX3_setNumber 0 = .ok (.aload_n 0, 1) := by decide +kernel
theorem dX3_setNumber_1 : decode cX3_setNumber 1 = .ok (.getfield 9, 3) := by decide +kernel
theorem dX3_setNumber_4 : decode cX3_setNumber 4 = .ok (.bipush 8, 2) := by decide +kernel
theorem dX3_setNumber_6 : decode cX3_setNumber 6 = .ok (.iload_n 1, 1) := by decide +kernel
theorem dX3_setNumber_7 : decode cX3_setNumber 7 = .ok (.imul, 1) := by decide +kernel
theorem dX3_setNumber_8 : decode cX3_setNumber 8 = .ok (.iload_n 2, 1) := by decide +kernel
theorem dX3_setNumber_9 : decode cX3_setNumber 9 = .ok (.iadd, 1) := by decide +kernel
theorem dX3_setNumber_10 : decode cX3_setNumber 10 = .ok (.iload_n 3, 1) := by decide +kernel
theorem dX3_setNumber_11 : decode cX3_setNumber 11 = .ok (.iastore, 1) := by decide +kernel
theorem dX3_setNumber_12 : decode cX3_setNumber 12 = .ok (.return_, 1) := by decide +kernel
set_option maxRecDepth 20000 in
theorem ggX3_leastNumberWithout_X3_numberOf : GoodIn wsX3_leastNumberWithout wsX3_numberOf := goodIn_r _ [5, 6, 10] (by decide +kernel) (by decide +kernel)
set_option maxRecDepth 20000 in
theorem gX3_leastNumberWithout_X3_numberOf : GoodIn wsX3_leastNumberWithout (wsV RX3 46 RX3 yX3_numberOf wsX3_numberOf) := goodIn_app (goodIn_of _ (by decide +kernel)) ggX3_leastNumberWithout_X3_numberOf
set_option maxRecDepth 20000 in
theorem ggX3_leastNumberWithout_X5_hasBit : GoodIn wsX3_leastNumberWithout wsX5_hasBit := goodIn_r _ [9] (by decide +kernel) (by decide +kernel)
set_option maxRecDepth 20000 in
theorem gX3_leastNumberWithout_X5_hasBit_n49 : GoodIn wsX3_leastNumberWithout (wsX5_hasBit) := ggX3_leastNumberWithout_X5_hasBit
theorem dX3_leastNumberWithout_0 : decode cX3_leastNumberWithout 0 = .ok (.iconst 0, 1) := by decide +kernel
theorem dX3_leastNumberWithout_1 : decode cX3_leastNumberWithout 1 = .ok (.istore_n 3, 1) := by decide +kernel
theorem dX3_leastNumberWithout_2 : decode cX3_leastNumberWithout 2 = .ok (.iconst 0, 1) := by decide +kernel
theorem dX3_leastNumberWithout_3 : decode cX3_leastNumberWithout 3 = .ok (.istore 4, 2) := by decide +kernel
theorem dX3_leastNumberWithout_5 : decode cX3_leastNumberWithout 5 = .ok (.iload 4, 2) := by decide +kernel
theorem dX3_leastNumberWithout_7 : decode cX3_leastNumberWithout 7 = .ok (.bipush 8, 2) := by decide +kernel
theorem dX3_leastNumberWithout_9 : decode cX3_leastNumberWithout 9 = .ok (.if_icmp .ge 46, 3) := by decide +kernel
theorem dX3_leastNumberWithout_12 : decode cX3_leastNumberWithout 12 = .ok (.iload_n 1, 1) := by decide +kernel
theorem dX3_leastNumberWithout_13 : decode cX3_leastNumberWithout 13 = .ok (.ifCond .eq 13, 3) := by decide +kernel
theorem dX3_leastNumberWithout_16 : decode cX3_leastNumberWithout 16 = .ok (.aload_n 0, 1) := by decide +kernel
theorem dX3_leastNumberWithout_17 : decode cX3_leastNumberWithout 17 = .ok (.iload_n 2, 1) := by decide +kernel
theorem dX3_leastNumberWithout_18 : decode cX3_leastNumberWithout 18 = .ok (.iload 4, 2) := by decide +kernel
theorem dX3_leastNumberWithout_20 : decode cX3_leastNumberWithout 20 = .ok (.invokevirtual 46, 3) := by decide +kernel
theorem dX3_leastNumberWithout_23 : decode cX3_leastNumberWithout 23 = .ok (.goto 10, 3) := by decide +kernel
theorem dX3_leastNumberWithout_26 : decode cX3_leastNumberWithout 26 = .ok (.aload_n 0, 1) := by decide +kernel
theorem dX3_leastNumberWithout_27 : decode cX3_leastNumberWithout 27 = .ok (.iload 4, 2) := by decide +kernel
theorem dX3_leastNumberWithout_29 : decode cX3_leastNumberWithout 29 = .ok (.iload_n 2, 1) := by decide +kernel
theorem dX3_leastNumberWithout_30 : decode cX3_leastNumberWithout 30 = .ok (.invokevirtual 46, 3) := by decide +kernel
theorem dX3_leastNumberWithout_33 : decode cX3_leastNumberWithout 33 = .ok (.istore 5, 2) := by decide +kernel
theorem dX3_leastNumberWithout_35 : decode cX3_leastNumberWithout 35 = .ok (.iload 5, 2) := by decide +kernel
theorem dX3_leastNumberWithout_37 : decode cX3_leastNumberWithout 37 = .ok (.bipush (-5), 2) := by decide +kernel
theorem dX3_leastNumberWithout_39 : decode cX3_leastNumberWithout 39 = .ok (.if_icmp .eq 10, 3) := by decide +kernel
theorem dX3_leastNumberWithout_42 : decode cX3_leastNumberWithout 42 = .ok (.iload_n 3, 1) := by decide +kernel
theorem dX3_leastNumberWithout_43 : decode cX3_leastNumberWithout 43 = .ok (.iconst 1, 1) := by decide +kernel
theorem dX3_leastNumberWithout_44 : decode cX3_leastNumberWithout 44 = .ok (.iload 5, 2) := by decide +kernel
theorem dX3_leastNumberWithout_46 : decode cX3_leastNumberWithout 46 = .ok (.ishl, 1) := by decide +kernel
theorem dX3_leastNumberWithout_47 : decode cX3_leastNumberWithout 47 = .ok (.ior, 1) := by decide +kernel
theorem dX3_leastNumberWithout_48 : decode cX3_leastNumberWithout 48 = .ok (.istore_n 3, 1) := by decide +kernel
theorem dX3_leastNumberWithout_49 : decode cX3_leastNumberWithout 49 = .ok (.iinc 4 1, 3) := by decide +kernel
theorem dX3_leastNumberWithout_52 : decode cX3_leastNumberWithout 52 = .ok (.goto (-47), 3) := by decide +kernel
theorem dX3_leastNumberWithout_55 : decode cX3_leastNumberWithout 55 = .ok (.iconst 0, 1) := by decide +kernel
theorem dX3_leastNumberWithout_56 : decode cX3_leastNumberWithout 56 = .ok (.istore 4, 2) := by decide +kernel
theorem dX3_leastNumberWithout_58 : decode cX3_leastNumberWithout 58 = .ok (.iload 4, 2) := by decide +kernel
theorem dX3_leastNumberWithout_60 : decode cX3_leastNumberWithout 60 = .ok (.bipush 8, 2) := by decide +kernel
theorem dX3_leastNumberWithout_62 : decode cX3_leastNumberWithout 62 = .ok (.if_icmp .ge 18, 3) := by decide +kernel
theorem dX3_leastNumberWithout_65 : decode cX3_leastNumberWithout 65 = .ok (.iload_n 3, 1) := by decide +kernel
theorem dX3_leastNumberWithout_66 : decode cX3_leastNumberWithout 66 = .ok (.iload 4, 2) := by decide +kernel
theorem dX3_leastNumberWithout_68 : decode cX3_leastNumberWithout 68 = .ok (.invokestatic 49, 3) := by decide +kernel
theorem dX3_leastNumberWithout_71 : decode cX3_leastNumberWithout 71 = .ok (.ifCond .eq 9, 3) := by decide +kernel
theorem dX3_leastNumberWithout_74 : decode cX3_leastNumberWithout 74 = .ok (.iinc 4 1, 3) := by decide +kernel
theorem dX3_leastNumberWithout_77 : decode cX3_leastNumberWithout 77 = .ok (.goto (-19), 3) := by decide +kernel
theorem dX3_leastNumberWithout_80 : decode cX3_leastNumberWithout 80 = .ok (.iload 4, 2) := by decide +kernel
theorem dX3_leastNumberWithout_82 : decode cX3_leastNumberWithout 82 = .ok (.ireturn, 1) := by decide +kernel
set_option maxRecDepth 20000 in
theorem ggX3_rightWith_X3_numberOf : GoodIn wsX3_rightWith wsX3_numberOf := goodIn_r _ [5, 6, 7] (by decide +kernel) (by decide +kernel)
set_option maxRecDepth 20000 in
theorem gX3_rightWith_X3_numberOf : GoodIn wsX3_rightWith (wsV RX3 46 RX3 yX3_numberOf wsX3_numberOf) := goodIn_app (goodIn_of _ (by decide +kernel)) ggX3_rightWith_X3_numberOf
theorem dX3_rightWith_0 : decode cX3_rightWith 0 = .ok (.iconst 0, 1) := by decide +kernel
theorem dX3_rightWith_1 : decode cX3_rightWith 1 = .ok (.istore_n 3, 1) := by decide +kernel
theorem dX3_rightWith_2 : decode cX3_rightWith 2 = .ok (.iload_n 3, 1) := by decide +kernel
theorem dX3_rightWith_3 : decode cX3_rightWith 3 = .ok (.bipush 8, 2) := by decide +kernel
theorem dX3_rightWith_5 : decode cX3_rightWith 5 = .ok (.if_icmp .ge 21, 3) := by decide +kernel
theorem dX3_rightWith_8 : decode cX3_rightWith 8 = .ok (.aload_n 0, 1) := by decide +kernel
theorem dX3_rightWith_9 : decode cX3_rightWith 9 = .ok (.iload_n 1, 1) := by decide +kernel
theorem dX3_rightWith_10 : decode cX3_rightWith 10 = .ok (.iload_n 3, 1) := by decide +kernel
theorem dX3_rightWith_11 : decode cX3_rightWith 11 = .ok (.invokevirtual 46, 3) := by decide +kernel
theorem dX3_rightWith_14 : decode cX3_rightWith 14 = .ok (.iload_n 2, 1) := by decide +kernel
theorem dX3_rightWith_15 : decode cX3_rightWith 15 = .ok (.if_icmp .ne 5, 3) := by decide +kernel
theorem dX3_rightWith_18 : decode cX3_rightWith 18 = .ok (.iload_n 3, 1) := by decide +kernel
theorem dX3_rightWith_19 : decode cX3_rightWith 19 = .ok (.ireturn, 1) := by decide +kernel
theorem dX3_rightWith_20 : decode cX3_rightWith 20 = .ok (.iinc 3 1, 3) := by decide +kernel
theorem dX3_rightWith_23 : decode cX3_rightWith 23 = .ok (.goto (-21), 3) := by decide +kernel
theorem dX3_rightWith_26 : decode cX3_rightWith 26 = .ok (.bipush (-5), 2) := by decide +kernel
theorem dX3_rightWith_28 : decode cX3_rightWith 28 = .ok (.ireturn, 1) := by decide +kernel
set_option maxRecDepth 20000 in
theorem ggX3_leftWith_X3_numberOf : GoodIn wsX3_leftWith wsX3_numberOf := goodIn_r _ [5, 6, 7] (by decide +kernel) (by decide +kernel)
set_option maxRecDepth 20000 in
theorem gX3_leftWith_X3_numberOf : GoodIn wsX3_leftWith (wsV RX3 46 RX3 yX3_numberOf wsX3_numberOf) := goodIn_app (goodIn_of _ (by decide +kernel)) ggX3_leftWith_X3_numberOf
theorem dX3_leftWith_0 : decode cX3_leftWith 0 = .ok (.iconst 0, 1) := by decide +kernel
theorem dX3_leftWith_1 : decode cX3_leftWith 1 = .ok (.istore_n 3, 1) := by decide +kernel
theorem dX3_leftWith_2 : decode cX3_leftWith 2 = .ok (.iload_n 3, 1) := by decide +kernel
theorem dX3_leftWith_3 : decode cX3_leftWith 3 = .ok (.bipush 8, 2) := by decide +kernel
theorem dX3_leftWith_5 : decode cX3_leftWith 5 = .ok (.if_icmp .ge 21, 3) := by decide +kernel
theorem dX3_leftWith_8 : decode cX3_leftWith 8 = .ok (.aload_n 0, 1) := by decide +kernel
theorem dX3_leftWith_9 : decode cX3_leftWith 9 = .ok (.iload_n 3, 1) := by decide +kernel
theorem dX3_leftWith_10 : decode cX3_leftWith 10 = .ok (.iload_n 1, 1) := by decide +kernel
theorem dX3_leftWith_11 : decode cX3_leftWith 11 = .ok (.invokevirtual 46, 3) := by decide +kernel
theorem dX3_leftWith_14 : decode cX3_leftWith 14 = .ok (.iload_n 2, 1) := by decide +kernel
theorem dX3_leftWith_15 : decode cX3_leftWith 15 = .ok (.if_icmp .ne 5, 3) := by decide +kernel
theorem dX3_leftWith_18 : decode cX3_leftWith 18 = .ok (.iload_n 3, 1) := by decide +kernel
theorem dX3_leftWith_19 : decode cX3_leftWith 19 = .ok (.ireturn, 1) := by decide +kernel
theorem dX3_leftWith_20 : decode cX3_leftWith 20 = .ok (.iinc 3 1, 3) := by decide +kernel
theorem dX3_leftWith_23 : decode cX3_leftWith 23 = .ok (.goto (-21), 3) := by decide +kernel
theorem dX3_leftWith_26 : decode cX3_leftWith 26 = .ok (.bipush (-5), 2) := by decide +kernel
theorem dX3_leftWith_28 : decode cX3_leftWith 28 = .ok (.ireturn, 1) := by decide +kernel
set_option maxRecDepth 20000 in
theorem ggX3_exchangeAlongPath_X3_leftWith : GoodIn wsX3_exchangeAlongPath wsX3_leftWith := goodIn_r _ [5, 6, 7, 8, 4, 9, 10, 22] (by decide +kernel) (by decide +kernel)
set_option maxRecDepth 20000 in
theorem gX3_exchangeAlongPath_X3_leftWith : GoodIn wsX3_exchangeAlongPath (wsV RX3 35 RX3 yX3_leftWith wsX3_leftWith) := goodIn_app (goodIn_of _ (by decide +kernel)) ggX3_exchangeAlongPath_X3_leftWith
set_option maxRecDepth 20000 in
theorem ggX3_exchangeAlongPath_X5_isPerson : GoodIn wsX3_exchangeAlongPath wsX5_isPerson := goodIn_r _ [13] (by decide +kernel) (by decide +kernel)
set_option maxRecDepth 20000 in
theorem gX3_exchangeAlongPath_X5_isPerson_n52 : GoodIn wsX3_exchangeAlongPath (wsX5_isPerson) := ggX3_exchangeAlongPath_X5_isPerson
set_option maxRecDepth 20000 in
theorem ggX3_exchangeAlongPath_X3_rightWith : GoodIn wsX3_exchangeAlongPath wsX3_rightWith := goodIn_r _ [17, 6, 7, 8, 4, 9, 10, 22] (by decide +kernel) (by decide +kernel)
set_option maxRecDepth 20000 in
theorem gX3_exchangeAlongPath_X3_rightWith : GoodIn wsX3_exchangeAlongPath (wsV RX3 56 RX3 yX3_rightWith wsX3_rightWith) := goodIn_app (goodIn_of _ (by decide +kernel)) ggX3_exchangeAlongPath_X3_rightWith
set_option maxRecDepth 20000 in
theorem ggX3_exchangeAlongPath_X3_setNumber : GoodIn wsX3_exchangeAlongPath wsX3_setNumber := goodIn_r _ [21, 10, 22] (by decide +kernel) (by decide +kernel)
set_option maxRecDepth 20000 in
theorem gX3_exchangeAlongPath_X3_setNumber : GoodIn wsX3_exchangeAlongPath (wsV RX3 43 RX3 yX3_setNumber wsX3_setNumber) := goodIn_app (goodIn_of _ (by decide +kernel)) ggX3_exchangeAlongPath_X3_setNumber
theorem dX3_exchangeAlongPath_0 : decode cX3_exchangeAlongPath 0 = .ok (.iload_n 1, 1) := by decide +kernel
theorem dX3_exchangeAlongPath_1 : decode cX3_exchangeAlongPath 1 = .ok (.istore 4, 2) := by decide +kernel
theorem dX3_exchangeAlongPath_3 : decode cX3_exchangeAlongPath 3 = .ok (.aload_n 0, 1) := by decide +kernel
theorem dX3_exchangeAlongPath_4 : decode cX3_exchangeAlongPath 4 = .ok (.iload 4, 2) := by decide +kernel
theorem dX3_exchangeAlongPath_6 : decode cX3_exchangeAlongPath 6 = .ok (.iload_n 2, 1) := by decide +kernel
theorem dX3_exchangeAlongPath_7 : decode cX3_exchangeAlongPath 7 = .ok (.invokevirtual 35, 3) := by decide +kernel
theorem dX3_exchangeAlongPath_10 : decode cX3_exchangeAlongPath 10 = .ok (.istore 5, 2) := by decide +kernel
theorem dX3_exchangeAlongPath_12 : decode cX3_exchangeAlongPath 12 = .ok (.iconst 0, 1) := by decide +kernel
theorem dX3_exchangeAlongPath_13 : decode cX3_exchangeAlongPath 13 = .ok (.istore 6, 2) := by decide +kernel
theorem dX3_exchangeAlongPath_15 : decode cX3_exchangeAlongPath 15 = .ok (.iload 6, 2) := by decide +kernel
theorem dX3_exchangeAlongPath_17 : decode cX3_exchangeAlongPath 17 = .ok (.bipush 8, 2) := by decide +kernel
theorem dX3_exchangeAlongPath_19 : decode cX3_exchangeAlongPath 19 = .ok (.if_icmp .ge 70, 3) := by decide +kernel
theorem dX3_exchangeAlongPath_22 : decode cX3_exchangeAlongPath 22 = .ok (.iload 5, 2) := by decide +kernel
theorem dX3_exchangeAlongPath_24 : decode cX3_exchangeAlongPath 24 = .ok (.invokestatic 52, 3) := by decide +kernel
theorem dX3_exchangeAlongPath_27 : decode cX3_exchangeAlongPath 27 = .ok (.ifCond .eq 62, 3) := by decide +kernel
theorem dX3_exchangeAlongPath_30 : decode cX3_exchangeAlongPath 30 = .ok (.aload_n 0, 1) := by decide +kernel
theorem dX3_exchangeAlongPath_31 : decode cX3_exchangeAlongPath 31 = .ok (.iload 5, 2) := by decide +kernel
theorem dX3_exchangeAlongPath_33 : decode cX3_exchangeAlongPath 33 = .ok (.iload_n 3, 1) := by decide +kernel
theorem dX3_exchangeAlongPath_34 : decode cX3_exchangeAlongPath 34 = .ok (.invokevirtual 56, 3) := by decide +kernel
theorem dX3_exchangeAlongPath_37 : decode cX3_exchangeAlongPath 37 = .ok (.istore 7, 2) := by decide +kernel
theorem dX3_exchangeAlongPath_39 : decode cX3_exchangeAlongPath 39 = .ok (.aload_n 0, 1) := by decide +kernel
theorem dX3_exchangeAlongPath_40 : decode cX3_exchangeAlongPath 40 = .ok (.iload 5, 2) := by decide +kernel
theorem dX3_exchangeAlongPath_42 : decode cX3_exchangeAlongPath 42 = .ok (.iload 4, 2) := by decide +kernel
theorem dX3_exchangeAlongPath_44 : decode cX3_exchangeAlongPath 44 = .ok (.iload_n 3, 1) := by decide +kernel
theorem dX3_exchangeAlongPath_45 : decode cX3_exchangeAlongPath 45 = .ok (.invokevirtual 43, 3) := by decide +kernel
theorem dX3_exchangeAlongPath_48 : decode cX3_exchangeAlongPath 48 = .ok (.iload 7, 2) := by decide +kernel
theorem dX3_exchangeAlongPath_50 : decode cX3_exchangeAlongPath 50 = .ok (.invokestatic 52, 3) := by decide +kernel
theorem dX3_exchangeAlongPath_53 : decode cX3_exchangeAlongPath 53 = .ok (.ifCond .ne 4, 3) := by decide +kernel
theorem dX3_exchangeAlongPath_56 : decode cX3_exchangeAlongPath 56 = .ok (.return_, 1) := by decide +kernel
theorem dX3_exchangeAlongPath_57 : decode cX3_exchangeAlongPath 57 = .ok (.aload_n 0, 1) := by decide +kernel
theorem dX3_exchangeAlongPath_58 : decode cX3_exchangeAlongPath 58 = .ok (.iload 7, 2) := by decide +kernel
theorem dX3_exchangeAlongPath_60 : decode cX3_exchangeAlongPath 60 = .ok (.iload_n 2, 1) := by decide +kernel
theorem dX3_exchangeAlongPath_61 : decode cX3_exchangeAlongPath 61 = .ok (.invokevirtual 35, 3) := by decide +kernel
theorem dX3_exchangeAlongPath_64 : decode cX3_exchangeAlongPath 64 = .ok (.istore 8, 2) := by decide +kernel
theorem dX3_exchangeAlongPath_66 : decode cX3_exchangeAlongPath 66 = .ok (.aload_n 0, 1) := by decide +kernel
theorem dX3_exchangeAlongPath_67 : decode cX3_exchangeAlongPath 67 = .ok (.iload 5, 2) := by decide +kernel
theorem dX3_exchangeAlongPath_69 : decode cX3_exchangeAlongPath 69 = .ok (.iload 7, 2) := by decide +kernel
theorem dX3_exchangeAlongPath_71 : decode cX3_exchangeAlongPath 71 = .ok (.iload_n 2, 1) := by decide +kernel
theorem dX3_exchangeAlongPath_72 : decode cX3_exchangeAlongPath 72 = .ok (.invokevirtual 43, 3) := by decide +kernel
theorem dX3_exchangeAlongPath_75 : decode cX3_exchangeAlongPath 75 = .ok (.iload 7, 2) := by decide +kernel
theorem dX3_exchangeAlongPath_77 : decode cX3_exchangeAlongPath 77 = .ok (.istore 4, 2) := by decide +kernel
theorem dX3_exchangeAlongPath_79 : decode cX3_exchangeAlongPath 79 = .ok (.iload 8, 2) := by decide +kernel
theorem dX3_exchangeAlongPath_81 : decode cX3_exchangeAlongPath 81 = .ok (.istore 5, 2) := by decide +kernel
theorem dX3_exchangeAlongPath_83 : decode cX3_exchangeAlongPath 83 = .ok (.iinc 6 1, 3) := by decide +kernel
theorem dX3_exchangeAlongPath_86 : decode cX3_exchangeAlongPath 86 = .ok (.goto (-71), 3) := by decide +kernel
theorem dX3_exchangeAlongPath_89 : decode cX3_exchangeAlongPath 89 = .ok (.return_, 1) := by decide +kernel
theorem dX4_init_0 : decode cX4_init 0 = .ok (.aload_n 0, 1) := by decide +kernel
theorem dX4_init_1 : decode cX4_init 1 = .ok (.invokespecial 3, 3) := by decide +kernel
theorem dX4_init_4 : decode cX4_init 4 = .ok (.aload_n 0, 1) := by decide +kernel
theorem dX4_init_5 : decode cX4_init 5 = .ok (.bipush 80, 2) := by decide +kernel
theorem dX4_init_7 : decode cX4_init 7 = .ok (.newarray .char, 2) := by decide +kernel
theorem dX4_init_9 : decode cX4_init 9 = .ok (.putfield 9, 3) := by decide +kernel
theorem dX4_init_12 : decode cX4_init 12 = .ok (.aload_n 0, 1) := by decide +kernel
theorem dX4_init_13 : decode cX4_init 13 = .ok (.bipush 8, 2) := by decide +kernel
theorem dX4_init_15 : decode cX4_init 15 = .ok (.newarray .int, 2) := by decide +kernel
theorem dX4_init_17 : decode cX4_init 17 = .ok (.putfield 15, 3) := by decide +kernel
theorem dX4_init_20 : decode cX4_init 20 = .ok (.return_, 1) := by decide +kernel
theorem dX4_length_0 : decode cX4_length 0 = .ok (.aload_n 0, 1) := by decide +kernel
theorem dX4_length_1 : decode cX4_length 1 = .ok (.getfield 19, 3) := by decide +kernel
theorem dX4_length_4 : decode cX4_length 4 = .ok (.ireturn, 1) := by decide +kernel
theorem dX4_hasRoom_0 : decode cX4_hasRoom 0 = .ok (.aload_n 0, 1) := by decide +kernel
theorem dX4_hasRoom_1 : decode cX4_hasRoom 1 = .ok (.getfield 19, 3) := by decide +kernel
theorem dX4_hasRoom_4 : decode cX4_hasRoom 4 = .ok (.bipush 80, 2) := by decide +kernel
theorem dX4_hasRoom_6 : decode cX4_hasRoom 6 = .ok (.if_icmp .ge 7, 3) := by decide +kernel
theorem dX4_hasRoom_9 : decode cX4_hasRoom 9 = .ok (.iconst 1, 1) := by decide +kernel
theorem dX4_hasRoom_10 : decode cX4_hasRoom 10 = .ok (.goto 4, 3) := by decide +kernel
theorem dX4_hasRoom_13 : decode cX4_hasRoom 13 = .ok (.iconst 0, 1) := by decide +kernel
theorem dX4_hasRoom_14 : decode cX4_hasRoom 14 = .ok (.ireturn, 1) := by decide +kernel
set_option maxRecDepth 20000 in
theorem ggX4_add_X4_hasRoom : GoodIn wsX4_add wsX4_hasRoom := goodIn_r _ [7, 2, 8, 9, 10, 11, 12, 13] (by decide +kernel) (by decide +kernel)
set_option maxRecDepth 20000 in
theorem gX4_add_X4_hasRoom : GoodIn wsX4_add (wsV RX4 23 RX4 yX4_hasRoom wsX4_hasRoom) := goodIn_app (goodIn_of _ (by decide +kernel)) ggX4_add_X4_hasRoom
theorem dX4_add_0 : decode cX4_add 0 = .ok (.aload_n 0, 1) := by decide +kernel
theorem dX4_add_1 : decode cX4_add 1 = .ok (.invokevirtual 23, 3) := by decide +kernel
theorem dX4_add_4 : decode cX4_add 4 = .ok (.ifCond .eq 24, 3) := by decide +kernel
theorem dX4_add_7 : decode cX4_add 7 = .ok (.aload_n 0, 1) := by decide +kernel
theorem dX4_add_8 : decode cX4_add 8 = .ok (.getfield 9, 3) := by decide +kernel
theorem dX4_add_11 : decode cX4_add 11 = .ok (.aload_n 0, 1) := by decide +kernel
theorem dX4_add_12 : decode cX4_add 12 = .ok (.getfield 19, 3) := by decide +kernel
theorem dX4_add_15 : decode cX4_add 15 = .ok (.iload_n 1, 1) := by decide +kernel
theorem dX4_add_16 : decode cX4_add 16 = .ok (.i2c, 1) := by decide +kernel
theorem dX4_add_17 : decode cX4_add 17 = .ok (.castore, 1) := by decide +kernel
theorem dX4_add_18 : decode cX4_add 18 = .ok (.aload_n 0, 1) := by decide +kernel
theorem dX4_add_19 : decode cX4_add 19 = .ok (.dup, 1) := by decide +kernel
theorem dX4_add_20 : decode cX4_add 20 = .ok (.getfield 19, 3) := by decide +kernel
theorem dX4_add_23 : decode cX4_add 23 = .ok (.iconst 1, 1) := by decide +kernel
theorem dX4_add_24 : decode cX4_add 24 = .ok (.iadd, 1) := by decide +kernel
theorem dX4_add_25 : decode cX4_add 25 = .ok (.putfield 19, 3) := by decide +kernel
theorem dX4_add_28 : decode cX4_add 28 = .ok (.return_, 1) := by decide +kernel
theorem dX4_empty_0 : decode cX4_empty 0 = .ok (.aload_n 0, 1) := by decide +kernel
theorem dX4_empty_1 : decode cX4_empty 1 = .ok (.iconst 0, 1) := by decide +kernel
theorem dX4_empty_2 : decode cX4_empty 2 = .ok (.putfield 19, 3) := by decide +kernel
theorem dX4_empty_5 : decode cX4_empty 5 = .ok (.return_, 1) := by decide +kernel
theorem dX4_rightsFor_0 : decode cX4_rightsFor 0 = .ok (.aload_n 0, 1) := by decide +kernel
theorem dX4_rightsFor_1 : decode cX4_rightsFor 1 = .ok (.getfield 15, 3) := by decide +kernel
theorem dX4_rightsFor_4 : decode cX4_rightsFor 4 = .ok (.iload_n 1, 1) := by decide +kernel
theorem dX4_rightsFor_5 : decode cX4_rightsFor 5 = .ok (.iaload, 1) := by decide +kernel
theorem dX4_rightsFor_6 : decode cX4_rightsFor 6 = .ok (.ireturn, 1) := by decide +kernel
set_option maxRecDepth 20000 in
theorem ggX4_parse_J7_fill_53178 : GoodIn wsX4_parse wsJ7_fill_53178 := goodIn_r _ [8] (by decide +kernel) (by decide +kernel)
set_option maxRecDepth 20000 in
theorem gX4_parse_J7_fill_53178 : GoodIn wsX4_parse (va_wsS RX4 27 yJ7_fill_53178 wsJ7_fill_53178) := goodIn_app (goodIn_of _ (by decide +kernel)) ggX4_parse_J7_fill_53178
set_option maxRecDepth 20000 in
theorem ggX4_parse_X4_beginGroup : GoodIn wsX4_parse wsX4_beginGroup := goodIn_r _ [13, 14, 4, 15, 31, 32, 33, 34, 35, 36] (by decide +kernel) (by decide +kernel)
set_option maxRecDepth 20000 in
theorem gX4_parse_X4_beginGroup : GoodIn wsX4_parse (wsV RX4 33 RX4 yX4_beginGroup wsX4_beginGroup) := goodIn_app (goodIn_of _ (by decide +kernel)) ggX4_parse_X4_beginGroup
set_option maxRecDepth 20000 in
theorem ggX4_parse_X4_takesSign : GoodIn wsX4_parse wsX4_takesSign := goodIn_r _ [19, 14, 15, 4, 20, 21, 22, 12, 23, 24, 25, 26, 27, 1, 28, 29, 30, 9, 10, 11, 13, 31, 32, 33, 34, 35, 36] (by decide +kernel) (by decide +kernel)
set_option maxRecDepth 20000 in
theorem gX4_parse_X4_takesSign : GoodIn wsX4_parse (wsV RX4 36 RX4 yX4_takesSign wsX4_takesSign) := goodIn_app (goodIn_of _ (by decide +kernel)) ggX4_parse_X4_takesSign
set_option maxRecDepth 20000 in
theorem ggX4_parse_X4_endGroup : GoodIn wsX4_parse wsX4_endGroup := goodIn_r _ [27, 14, 1, 4, 28, 29, 30, 31, 32, 33, 34, 35, 36] (by decide +kernel) (by decide +kernel)
set_option maxRecDepth 20000 in
theorem gX4_parse_X4_endGroup : GoodIn wsX4_parse (wsV RX4 43 RX4 yX4_endGroup wsX4_endGroup) := goodIn_app (goodIn_of _ (by decide +kernel)) ggX4_parse_X4_endGroup
theorem dX4_parse_0 : decode cX4_parse 0 = .ok (.aload_n 0, 1) := by decide +kernel
theorem dX4_parse_1 : decode cX4_parse 1 = .ok (.getfield 15, 3) := by decide +kernel
theorem dX4_parse_4 : decode cX4_parse 4 = .ok (.iconst 0, 1) := by decide +kernel
theorem dX4_parse_5 : decode cX4_parse 5 = .ok (.invokestatic 27, 3) := by decide +kernel
theorem dX4_parse_8 : decode cX4_parse 8 = .ok (.aload_n 0, 1) := by decide +kernel
theorem dX4_parse_9 : decode cX4_parse 9 = .ok (.invokevirtual 33, 3) := by decide +kernel
theorem dX4_parse_12 : decode cX4_parse 12 = .ok (.iconst 0, 1) := by decide +kernel
theorem dX4_parse_13 : decode cX4_parse 13 = .ok (.istore_n 1, 1) := by decide +kernel
theorem dX4_parse_14 : decode cX4_parse 14 = .ok (.iload_n 1, 1) := by decide +kernel
theorem dX4_parse_15 : decode cX4_parse 15 = .ok (.aload_n 0, 1) := by decide +kernel
theorem dX4_parse_16 : decode cX4_parse 16 = .ok (.getfield 19, 3) := by decide +kernel
theorem dX4_parse_19 : decode cX4_parse 19 = .ok (.if_icmp .ge 30, 3) := by decide +kernel
theorem dX4_parse_22 : decode cX4_parse 22 = .ok (.iload_n 1, 1) := by decide +kernel
theorem dX4_parse_23 : decode cX4_parse 23 = .ok (.bipush 80, 2) := by decide +kernel
theorem dX4_parse_25 : decode cX4_parse 25 = .ok (.if_icmp .ge 24, 3) := by decide +kernel
theorem dX4_parse_28 : decode cX4_parse 28 = .ok (.aload_n 0, 1) := by decide +kernel
theorem dX4_parse_29 : decode cX4_parse 29 = .ok (.aload_n 0, 1) := by decide +kernel
theorem dX4_parse_30 : decode cX4_parse 30 = .ok (.getfield 9, 3) := by decide +kernel
theorem dX4_parse_33 : decode cX4_parse 33 = .ok (.iload_n 1, 1) := by decide +kernel
theorem dX4_parse_34 : decode cX4_parse 34 = .ok (.caload, 1) := by decide +kernel
theorem dX4_parse_35 : decode cX4_parse 35 = .ok (.invokevirtual 36, 3) := by decide +kernel
theorem dX4_parse_38 : decode cX4_parse 38 = .ok (.ifCond .ne 5, 3) := by decide +kernel
theorem dX4_parse_41 : decode cX4_parse 41 = .ok (.iload_n 1, 1) := by decide +kernel
theorem dX4_parse_42 : decode cX4_parse 42 = .ok (.ireturn, 1) := by decide +kernel
theorem dX4_parse_43 : decode cX4_parse 43 = .ok (.iinc 1 1, 3) := by decide +kernel
theorem dX4_parse_46 : decode cX4_parse 46 = .ok (.goto (-32), 3) := by decide +kernel
theorem dX4_parse_49 : decode cX4_parse 49 = .ok (.aload_n 0, 1) := by decide +kernel
theorem dX4_parse_50 : decode cX4_parse 50 = .ok (.getfield 40, 3) := by decide +kernel
theorem dX4_parse_53 : decode cX4_parse 53 = .ok (.ifCond .ne 8, 3) := by decide +kernel
theorem dX4_parse_56 : decode cX4_parse 56 = .ok (.aload_n 0, 1) := by decide +kernel
theorem dX4_parse_57 : decode cX4_parse 57 = .ok (.getfield 19, 3) := by decide +kernel
theorem dX4_parse_60 : decode cX4_parse 60 = .ok (.ireturn, 1) := by decide +kernel
theorem dX4_parse_61 : decode cX4_parse 61 = .ok (.aload_n 0, 1) := by decide +kernel
theorem dX4_parse_62 : decode cX4_parse 62 = .ok (.invokevirtual 43, 3) := by decide +kernel
theorem dX4_parse_65 : decode cX4_parse 65 = .ok (.bipush (-5), 2) := by decide +kernel
theorem dX4_parse_67 : decode cX4_parse 67 = .ok (.ireturn, 1) := by decide +kernel
theorem dX4_beginGroup_0 : decode cX4_beginGroup 0 = .ok (.aload_n 0, 1) := by decide +kernel
theorem dX4_beginGroup_1 : decode cX4_beginGroup 1 = .ok (.iconst 0, 1) := by decide +kernel
theorem dX4_beginGroup_2 : decode cX4_beginGroup 2 = .ok (.putfield 46, 3) := by decide +kernel
theorem dX4_beginGroup_5 : decode cX4_beginGroup 5 = .ok (.aload_n 0, 1) := by decide +kernel
theorem dX4_beginGroup_6 : decode cX4_beginGroup 6 = .ok (.iconst 0, 1) := by decide +kernel
theorem dX4_beginGroup_7 : decode cX4_beginGroup 7 = .ok (.putfield 40, 3) := by decide +kernel
theorem dX4_beginGroup_10 : decode cX4_beginGroup 10 = .ok (.aload_n 0, 1) := by decide +kernel
theorem dX4_beginGroup_11 : decode cX4_beginGroup 11 = .ok (.iconst 0, 1) := by decide +kernel
theorem dX4_beginGroup_12 : decode cX4_beginGroup 12 = .ok (.putfield 49, 3) := by decide +kernel
theorem dX4_beginGroup_15 : decode cX4_beginGroup 15 = .ok (.return_, 1) := by decide +kernel
set_option maxRecDepth 20000 in
theorem ggX4_endGroup_X5_hasBit : GoodIn wsX4_endGroup wsX5_hasBit := goodIn_r _ [6] (by decide +kernel) (by decide +kernel)
set_option maxRecDepth 20000 in
theorem gX4_endGroup_X5_hasBit_n53 : GoodIn wsX4_endGroup (wsX5_hasBit) := ggX4_endGroup_X5_hasBit
theorem dX4_endGroup_0 : decode cX4_endGroup 0 = .ok (.iconst 0, 1) := by decide +kernel
theorem dX4_endGroup_1 : decode cX4_endGroup 1 = .ok (.istore_n 1, 1) := by decide +kernel
theorem dX4_endGroup_2 : decode cX4_endGroup 2 = .ok (.iload_n 1, 1) := by decide +kernel
theorem dX4_endGroup_3 : decode cX4_endGroup 3 = .ok (.bipush 8, 2) := by decide +kernel
theorem dX4_endGroup_5 : decode cX4_endGroup 5 = .ok (.if_icmp .ge 33, 3) := by decide +kernel
theorem dX4_endGroup_8 : decode cX4_endGroup 8 = .ok (.aload_n 0, 1) := by decide +kernel
theorem dX4_endGroup_9 : decode cX4_endGroup 9 = .ok (.getfield 46, 3) := by decide +kernel
theorem dX4_endGroup_12 : decode cX4_endGroup 12 = .ok (.iload_n 1, 1) := by decide +kernel
theorem dX4_endGroup_13 : decode cX4_endGroup 13 = .ok (.invokestatic 53, 3) := by decide +kernel
theorem dX4_endGroup_16 : decode cX4_endGroup 16 = .ok (.ifCond .eq 16, 3) := by decide +kernel
theorem dX4_endGroup_19 : decode cX4_endGroup 19 = .ok (.aload_n 0, 1) := by decide +kernel
theorem dX4_endGroup_20 : decode cX4_endGroup 20 = .ok (.getfield 15, 3) := by decide +kernel
theorem dX4_endGroup_23 : decode cX4_endGroup 23 = .ok (.iload_n 1, 1) := by decide +kernel
theorem dX4_endGroup_24 : decode cX4_endGroup 24 = .ok (.dup2, 1) := by decide +kernel
theorem dX4_endGroup_25 : decode cX4_endGroup 25 = .ok (.iaload, 1) := by decide +kernel
theorem dX4_endGroup_26 : decode cX4_endGroup 26 = .ok (.aload_n 0, 1) := by decide +kernel
theorem dX4_endGroup_27 : decode cX4_endGroup 27 = .ok (.getfield 40, 3) := by decide +kernel
theorem dX4_endGroup_30 : decode cX4_endGroup 30 = .ok (.ior, 1) := by decide +kernel
theorem dX4_endGroup_31 : decode cX4_endGroup 31 = .ok (.iastore, 1) := by decide +kernel
theorem dX4_endGroup_32 : decode cX4_endGroup 32 = .ok (.iinc 1 1, 3) := by decide +kernel
theorem dX4_endGroup_35 : decode cX4_endGroup 35 = .ok (.goto (-33), 3) := by decide +kernel
theorem dX4_endGroup_38 : decode cX4_endGroup 38 = .ok (.return_, 1) := by decide +kernel
set_option maxRecDepth 20000 in
theorem ggX4_takesSign_X4_takesPerson : GoodIn wsX4_takesSign wsX4_takesPerson := goodIn_r _ [8, 2, 3, 1, 21, 22, 23, 24, 25, 26] (by decide +kernel) (by decide +kernel)
set_option maxRecDepth 20000 in
theorem gX4_takesSign_X4_takesPerson : GoodIn wsX4_takesSign (wsV RX4 57 RX4 yX4_takesPerson wsX4_takesPerson) := goodIn_app (goodIn_of _ (by decide +kernel)) ggX4_takesSign_X4_takesPerson
set_option maxRecDepth 20000 in
theorem ggX4_takesSign_X4_endGroup : GoodIn wsX4_takesSign wsX4_endGroup := goodIn_r _ [12, 1, 13, 3, 14, 15, 16, 21, 22, 23, 24, 25, 26] (by decide +kernel) (by decide +kernel)
set_option maxRecDepth 20000 in
theorem gX4_takesSign_X4_endGroup : GoodIn wsX4_takesSign (wsV RX4 43 RX4 yX4_endGroup wsX4_endGroup) := goodIn_app (goodIn_of _ (by decide +kernel)) ggX4_takesSign_X4_endGroup
set_option maxRecDepth 20000 in
theorem ggX4_takesSign_X4_beginGroup : GoodIn wsX4_takesSign wsX4_beginGroup := goodIn_r _ [20, 1, 3, 2, 21, 22, 23, 24, 25, 26] (by decide +kernel) (by decide +kernel)
set_option maxRecDepth 20000 in
theorem gX4_takesSign_X4_beginGroup : GoodIn wsX4_takesSign (wsV RX4 33 RX4 yX4_beginGroup wsX4_beginGroup) := goodIn_app (goodIn_of _ (by decide +kernel)) ggX4_takesSign_X4_beginGroup
theorem dX4_takesSign_0 : decode cX4_takesSign 0 = .ok (.iload_n 1, 1) := by decide +kernel
theorem dX4_takesSign_1 : decode cX4_takesSign 1 = .ok (.bipush 48, 2) := by decide +kernel
theorem dX4_takesSign_3 : decode cX4_takesSign 3 = .ok (.if_icmp .lt 20, 3) := by decide +kernel
theorem dX4_takesSign_6 : decode cX4_takesSign 6 = .ok (.iload_n 1, 1) := by decide +kernel
theorem dX4_takesSign_7 : decode cX4_takesSign 7 = .ok (.bipush 56, 2) := by decide +kernel
theorem dX4_takesSign_9 : decode cX4_takesSign 9 = .ok (.if_icmp .ge 14, 3) := by decide +kernel
theorem dX4_takesSign_12 : decode cX4_takesSign 12 = .ok (.aload_n 0, 1) := by decide +kernel
theorem dX4_takesSign_13 : decode cX4_takesSign 13 = .ok (.iconst 1, 1) := by decide +kernel
theorem dX4_takesSign_14 : decode cX4_takesSign 14 = .ok (.iload_n 1, 1) := by decide +kernel
theorem dX4_takesSign_15 : decode cX4_takesSign 15 = .ok (.bipush 48, 2) := by decide +kernel
theorem dX4_takesSign_17 : decode cX4_takesSign 17 = .ok (.isub, 1) := by decide +kernel
theorem dX4_takesSign_18 : decode cX4_takesSign 18 = .ok (.ishl, 1) := by decide +kernel
theorem dX4_takesSign_19 : decode cX4_takesSign 19 = .ok (.invokevirtual 57, 3) := by decide +kernel
theorem dX4_takesSign_22 : decode cX4_takesSign 22 = .ok (.ireturn, 1) := by decide +kernel
theorem dX4_takesSign_23 : decode cX4_takesSign 23 = .ok (.iload_n 1, 1) := by decide +kernel
theorem dX4_takesSign_24 : decode cX4_takesSign 24 = .ok (.bipush 45, 2) := by decide +kernel
theorem dX4_takesSign_26 : decode cX4_takesSign 26 = .ok (.if_icmp .ne 24, 3) := by decide +kernel
theorem dX4_takesSign_29 : decode cX4_takesSign 29 = .ok (.aload_n 0, 1) := by decide +kernel
theorem dX4_takesSign_30 : decode cX4_takesSign 30 = .ok (.getfield 46, 3) := by decide +kernel
theorem dX4_takesSign_33 : decode cX4_takesSign 33 = .ok (.ifCond .eq 17, 3) := by decide +kernel
theorem dX4_takesSign_36 : decode cX4_takesSign 36 = .ok (.aload_n 0, 1) := by decide +kernel
theorem dX4_takesSign_37 : decode cX4_takesSign 37 = .ok (.getfield 49, 3) := by decide +kernel
theorem dX4_takesSign_40 : decode cX4_takesSign 40 = .ok (.ifCond .ne 10, 3) := by decide +kernel
theorem dX4_takesSign_43 : decode cX4_takesSign 43 = .ok (.aload_n 0, 1) := by decide +kernel
theorem dX4_takesSign_44 : decode cX4_takesSign 44 = .ok (.iconst 1, 1) := by decide +kernel
theorem dX4_takesSign_45 : decode cX4_takesSign 45 = .ok (.putfield 49, 3) := by decide +kernel
theorem dX4_takesSign_48 : decode cX4_takesSign 48 = .ok (.iconst 1, 1) := by decide +kernel
theorem dX4_takesSign_49 : decode cX4_takesSign 49 = .ok (.ireturn, 1) := by decide +kernel
theorem dX4_takesSign_50 : decode cX4_takesSign 50 = .ok (.iload_n 1, 1) := by decide +kernel
theorem dX4_takesSign_51 : decode cX4_takesSign 51 = .ok (.bipush 44, 2) := by decide +kernel
theorem dX4_takesSign_53 : decode cX4_takesSign 53 = .ok (.if_icmp .ne 20, 3) := by decide +kernel
theorem dX4_takesSign_56 : decode cX4_takesSign 56 = .ok (.aload_n 0, 1) := by decide +kernel
theorem dX4_takesSign_57 : decode cX4_takesSign 57 = .ok (.getfield 40, 3) := by decide +kernel
theorem dX4_takesSign_60 : decode cX4_takesSign 60 = .ok (.ifCond .eq 13, 3) := by decide +kernel
theorem dX4_takesSign_63 : decode cX4_takesSign 63 = .ok (.aload_n 0, 1) := by decide +kernel
theorem dX4_takesSign_64 : decode cX4_takesSign 64 = .ok (.invokevirtual 43, 3) := by decide +kernel
theorem dX4_takesSign_67 : decode cX4_takesSign 67 = .ok (.aload_n 0, 1) := by decide +kernel
theorem dX4_takesSign_68 : decode cX4_takesSign 68 = .ok (.invokevirtual 33, 3) := by decide +kernel
theorem dX4_takesSign_71 : decode cX4_takesSign 71 = .ok (.iconst 1, 1) := by decide +kernel
theorem dX4_takesSign_72 : decode cX4_takesSign 72 = .ok (.ireturn, 1) := by decide +kernel
theorem dX4_takesSign_73 : decode cX4_takesSign 73 = .ok (.iconst 0, 1) := by decide +kernel
theorem dX4_takesSign_74 : decode cX4_takesSign 74 = .ok (.ireturn, 1) := by decide +kernel
theorem dX4_takesPerson_0 : decode cX4_takesPerson 0 = .ok (.aload_n 0, 1) := by decide +kernel
theorem dX4_takesPerson_1 : decode cX4_takesPerson 1 = .ok (.getfield 49, 3) := by decide +kernel
theorem dX4_takesPerson_4 : decode cX4_takesPerson 4 = .ok (.ifCond .eq 10, 3) := by decide +kernel
theorem dX4_takesPerson_7 : decode cX4_takesPerson 7 = .ok (.aload_n 0, 1) := by decide +kernel
theorem dX4_takesPerson_8 : decode cX4_takesPerson 8 = .ok (.getfield 40, 3) := by decide +kernel
theorem dX4_takesPerson_11 : decode cX4_takesPerson 11 = .ok (.goto 7, 3) := by decide +kernel
theorem dX4_takesPerson_14 : decode cX4_takesPerson 14 = .ok (.aload_n 0, 1) := by decide +kernel
theorem dX4_takesPerson_15 : decode cX4_takesPerson 15 = .ok (.getfield 46, 3) := by decide +kernel
theorem dX4_takesPerson_18 : decode cX4_takesPerson 18 = .ok (.iload_n 1, 1) := by decide +kernel
theorem dX4_takesPerson_19 : decode cX4_takesPerson 19 = .ok (.if_icmp .lt 5, 3) := by decide +kernel
theorem dX4_takesPerson_22 : decode cX4_takesPerson 22 = .ok (.iconst 0, 1) := by decide +kernel
theorem dX4_takesPerson_23 : decode cX4_takesPerson 23 = .ok (.ireturn, 1) := by decide +kernel
theorem dX4_takesPerson_24 : decode cX4_takesPerson 24 = .ok (.aload_n 0, 1) := by decide +kernel
theorem dX4_takesPerson_25 : decode cX4_takesPerson 25 = .ok (.getfield 49, 3) := by decide +kernel
theorem dX4_takesPerson_28 : decode cX4_takesPerson 28 = .ok (.ifCond .eq 16, 3) := by decide +kernel
theorem dX4_takesPerson_31 : decode cX4_takesPerson 31 = .ok (.aload_n 0, 1) := by decide +kernel
theorem dX4_takesPerson_32 : decode cX4_takesPerson 32 = .ok (.dup, 1) := by decide +kernel
theorem dX4_takesPerson_33 : decode cX4_takesPerson 33 = .ok (.getfield 40, 3) := by decide +kernel
theorem dX4_takesPerson_36 : decode cX4_takesPerson 36 = .ok (.iload_n 1, 1) := by decide +kernel
theorem dX4_takesPerson_37 : decode cX4_takesPerson 37 = .ok (.ior, 1) := by decide +kernel
theorem dX4_takesPerson_38 : decode cX4_takesPerson 38 = .ok (.putfield 40, 3) := by decide +kernel
theorem dX4_takesPerson_41 : decode cX4_takesPerson 41 = .ok (.goto 13, 3) := by decide +kernel
theorem dX4_takesPerson_44 : decode cX4_takesPerson 44 = .ok (.aload_n 0, 1) := by decide +kernel
theorem dX4_takesPerson_45 : decode cX4_takesPerson 45 = .ok (.dup, 1) := by decide +kernel
theorem dX4_takesPerson_46 : decode cX4_takesPerson 46 = .ok (.getfield 46, 3) := by decide +kernel
theorem dX4_takesPerson_49 : decode cX4_takesPerson 49 = .ok (.iload_n 1, 1) := by decide +kernel
theorem dX4_takesPerson_50 : decode cX4_takesPerson 50 = .ok (.ior, 1) := by decide +kernel
theorem dX4_takesPerson_51 : decode cX4_takesPerson 51 = .ok (.putfield 46, 3) := by decide +kernel
theorem dX4_takesPerson_54 : decode cX4_takesPerson 54 = .ok (.iconst 1, 1) := by decide +kernel
theorem dX4_takesPerson_55 : decode cX4_takesPerson 55 = .ok (.ireturn, 1) := by decide +kernel
set_option maxRecDepth 20000 in
theorem ggX5_init_X0_init : GoodIn wsX5_init wsX0_init := goodIn_r _ [29, 30, 2, 3, 31, 32, 54] (by decide +kernel) (by decide +kernel)
set_option maxRecDepth 20000 in
theorem gX5_init_X0_init : GoodIn wsX5_init (wsX0_init) := ggX5_init_X0_init
set_option maxRecDepth 20000 in
theorem ggX5_init_X1_init : GoodIn wsX5_init wsX1_init := goodIn_r _ [34, 35, 2, 3, 31, 36, 63, 64, 65] (by decide +kernel) (by decide +kernel)
set_option maxRecDepth 20000 in
theorem gX5_init_X1_init_n24 : GoodIn wsX5_init (wsX1_init) := ggX5_init_X1_init
set_option maxRecDepth 20000 in
theorem ggX5_init_X4_init : GoodIn wsX5_init wsX4_init := goodIn_r _ [38, 39, 2, 3, 40, 41, 31, 42, 66, 67, 68, 69, 70, 71] (by decide +kernel) (by decide +kernel)
set_option maxRecDepth 20000 in
theorem gX5_init_X4_init_n31 : GoodIn wsX5_init (wsX4_init) := ggX5_init_X4_init
set_option maxRecDepth 20000 in
theorem ggX5_init_X2_init : GoodIn wsX5_init wsX2_init := goodIn_r _ [44, 45, 2, 3, 31, 46, 47, 48, 49, 72, 73, 74, 75, 76] (by decide +kernel) (by decide +kernel)
set_option maxRecDepth 20000 in
theorem gX5_init_X2_init_n38 : GoodIn wsX5_init (wsX2_init) := ggX5_init_X2_init
set_option maxRecDepth 20000 in
theorem ggX5_init_X3_init : GoodIn wsX5_init wsX3_init := goodIn_r _ [51, 52, 2, 3, 31, 53, 77] (by decide +kernel) (by decide +kernel)
set_option maxRecDepth 20000 in
theorem gX5_init_X3_init_n45 : GoodIn wsX5_init (wsX3_init) := ggX5_init_X3_init
theorem dX5_init_0 : decode cX5_init 0 = .ok (.aload_n 0, 1) := by decide +kernel
theorem dX5_init_1 : decode cX5_init 1 = .ok (.invokespecial 3, 3) := by decide +kernel
theorem dX5_init_4 : decode cX5_init 4 = .ok (.aload_n 0, 1) := by decide +kernel
theorem dX5_init_5 : decode cX5_init 5 = .ok (.new 9, 3) := by decide +kernel
theorem dX5_init_8 : decode cX5_init 8 = .ok (.dup, 1) := by decide +kernel
theorem dX5_init_9 : decode cX5_init 9 = .ok (.invokespecial 11, 3) := by decide +kernel
theorem dX5_init_12 : decode cX5_init 12 = .ok (.putfield 12, 3) := by decide +kernel
theorem dX5_init_15 : decode cX5_init 15 = .ok (.aload_n 0, 1) := by decide +kernel
theorem dX5_init_16 : decode cX5_init 16 = .ok (.new 9, 3) := by decide +kernel
theorem dX5_init_19 : decode cX5_init 19 = .ok (.dup, 1) := by decide +kernel
theorem dX5_init_20 : decode cX5_init 20 = .ok (.invokespecial 11, 3) := by decide +kernel
theorem dX5_init_23 : decode cX5_init 23 = .ok (.putfield 16, 3) := by decide +kernel
theorem dX5_init_26 : decode cX5_init 26 = .ok (.aload_n 0, 1) := by decide +kernel
theorem dX5_init_27 : decode cX5_init 27 = .ok (.new 9, 3) := by decide +kernel
theorem dX5_init_30 : decode cX5_init 30 = .ok (.dup, 1) := by decide +kernel
theorem dX5_init_31 : decode cX5_init 31 = .ok (.invokespecial 11, 3) := by decide +kernel
theorem dX5_init_34 : decode cX5_init 34 = .ok (.putfield 19, 3) := by decide +kernel
theorem dX5_init_37 : decode cX5_init 37 = .ok (.aload_n 0, 1) := by decide +kernel
theorem dX5_init_38 : decode cX5_init 38 = .ok (.new 22, 3) := by decide +kernel
theorem dX5_init_41 : decode cX5_init 41 = .ok (.dup, 1) := by decide +kernel
theorem dX5_init_42 : decode cX5_init 42 = .ok (.invokespecial 24, 3) := by decide +kernel
theorem dX5_init_45 : decode cX5_init 45 = .ok (.putfield 25, 3) := by decide +kernel
theorem dX5_init_48 : decode cX5_init 48 = .ok (.aload_n 0, 1) := by decide +kernel
theorem dX5_init_49 : decode cX5_init 49 = .ok (.new 29, 3) := by decide +kernel
theorem dX5_init_52 : decode cX5_init 52 = .ok (.dup, 1) := by decide +kernel
theorem dX5_init_53 : decode cX5_init 53 = .ok (.invokespecial 31, 3) := by decide +kernel
theorem dX5_init_56 : decode cX5_init 56 = .ok (.putfield 32, 3) := by decide +kernel
theorem dX5_init_59 : decode cX5_init 59 = .ok (.aload_n 0, 1) := by decide +kernel
theorem dX5_init_60 : decode cX5_init 60 = .ok (.new 36, 3) := by decide +kernel
theorem dX5_init_63 : decode cX5_init 63 = .ok (.dup, 1) := by decide +kernel
theorem dX5_init_64 : decode cX5_init 64 = .ok (.invokespecial 38, 3) := by decide +kernel
theorem dX5_init_67 : decode cX5_init 67 = .ok (.putfield 39, 3) := by decide +kernel
theorem dX5_init_70 : decode cX5_init 70 = .ok (.aload_n 0, 1) := by decide +kernel
theorem dX5_init_71 : decode cX5_init 71 = .ok (.new 43, 3) := by decide +kernel
theorem dX5_init_74 : decode cX5_init 74 = .ok (.dup, 1) := by decide +kernel
theorem dX5_init_75 : decode cX5_init 75 = .ok (.invokespecial 45, 3) := by decide +kernel
theorem dX5_init_78 : decode cX5_init 78 = .ok (.putfield 46, 3) := by decide +kernel
theorem dX5_init_81 : decode cX5_init 81 = .ok (.aload_n 0, 1) := by decide +kernel
theorem dX5_init_82 : decode cX5_init 82 = .ok (.iconst 0, 1) := by decide +kernel
theorem dX5_init_83 : decode cX5_init 83 = .ok (.putfield 50, 3) := by decide +kernel
theorem dX5_init_86 : decode cX5_init 86 = .ok (.return_, 1) := by decide +kernel
set_option maxRecDepth 20000 in
theorem ggX5_wish_X5_arePeople : GoodIn wsX5_wish wsX5_arePeople := goodIn_r _ [6, 7, 8, 5, 9] (by decide +kernel) (by decide +kernel)
set_option maxRecDepth 20000 in
theorem gX5_wish_X5_arePeople : GoodIn wsX5_wish (va_wsS RX5 54 yX5_arePeople wsX5_arePeople) := goodIn_app (goodIn_of _ (by decide +kernel)) ggX5_wish_X5_arePeople
set_option maxRecDepth 20000 in
theorem ggX5_wish_X0_hasWish : GoodIn wsX5_wish wsX0_hasWish := goodIn_r _ [14, 15, 16, 5, 17, 61] (by decide +kernel) (by decide +kernel)
set_option maxRecDepth 20000 in
theorem gX5_wish_X0_hasWish : GoodIn wsX5_wish (wsV RX5 58 RX0 yX0_hasWish wsX0_hasWish) := goodIn_app (goodIn_of _ (by decide +kernel)) ggX5_wish_X0_hasWish
set_option maxRecDepth 20000 in
theorem ggX5_wish_X1_keep : GoodIn wsX5_wish wsX1_keep := goodIn_r _ [22, 23, 24, 25, 26, 27, 28, 29, 30, 31, 32, 21, 33, 62, 63, 64, 61] (by decide +kernel) (by decide +kernel)
set_option maxRecDepth 20000 in
theorem gX5_wish_X1_keep : GoodIn wsX5_wish (wsV RX5 61 RX1 yX1_keep wsX1_keep) := goodIn_app (goodIn_of _ (by decide +kernel)) ggX5_wish_X1_keep
set_option maxRecDepth 20000 in
theorem ggX5_wish_X0_openWish : GoodIn wsX5_wish wsX0_openWish := goodIn_r _ [37, 38, 39, 40, 13, 41, 15, 61] (by decide +kernel) (by decide +kernel)
set_option maxRecDepth 20000 in
theorem gX5_wish_X0_openWish : GoodIn wsX5_wish (wsV RX5 65 RX0 yX0_openWish wsX0_openWish) := goodIn_app (goodIn_of _ (by decide +kernel)) ggX5_wish_X0_openWish
set_option maxRecDepth 20000 in
theorem ggX5_wish_X0_numberOfWishes : GoodIn wsX5_wish wsX0_numberOfWishes := goodIn_r _ [45, 15, 46, 47, 48, 49, 50, 51, 52, 61] (by decide +kernel) (by decide +kernel)
set_option maxRecDepth 20000 in
theorem gX5_wish_X0_numberOfWishes : GoodIn wsX5_wish (wsV RX5 69 RX0 yX0_numberOfWishes wsX0_numberOfWishes) := goodIn_app (goodIn_of _ (by decide +kernel)) ggX5_wish_X0_numberOfWishes
theorem dX5_wish_0 : decode cX5_wish 0 = .ok (.iload_n 1, 1) := by decide +kernel
theorem dX5_wish_1 : decode cX5_wish 1 = .ok (.iload_n 2, 1) := by decide +kernel
theorem dX5_wish_2 : decode cX5_wish 2 = .ok (.invokestatic 54, 3) := by decide +kernel
theorem dX5_wish_5 : decode cX5_wish 5 = .ok (.ifCond .ne 5, 3) := by decide +kernel
theorem dX5_wish_8 : decode cX5_wish 8 = .ok (.iconst (-1), 1) := by decide +kernel
theorem dX5_wish_9 : decode cX5_wish 9 = .ok (.ireturn, 1) := by decide +kernel
theorem dX5_wish_10 : decode cX5_wish 10 = .ok (.aload_n 0, 1) := by decide +kernel
theorem dX5_wish_11 : decode cX5_wish 11 = .ok (.getfield 12, 3) := by decide +kernel
theorem dX5_wish_14 : decode cX5_wish 14 = .ok (.iload_n 1, 1) := by decide +kernel
theorem dX5_wish_15 : decode cX5_wish 15 = .ok (.iload_n 2, 1) := by decide +kernel
theorem dX5_wish_16 : decode cX5_wish 16 = .ok (.invokevirtual 58, 3) := by decide +kernel
theorem dX5_wish_19 : decode cX5_wish 19 = .ok (.ifCond .eq 6, 3) := by decide +kernel
theorem dX5_wish_22 : decode cX5_wish 22 = .ok (.bipush (-4), 2) := by decide +kernel
theorem dX5_wish_24 : decode cX5_wish 24 = .ok (.ireturn, 1) := by decide +kernel
theorem dX5_wish_25 : decode cX5_wish 25 = .ok (.aload_n 0, 1) := by decide +kernel
theorem dX5_wish_26 : decode cX5_wish 26 = .ok (.getfield 25, 3) := by decide +kernel
theorem dX5_wish_29 : decode cX5_wish 29 = .ok (.aload_n 0, 1) := by decide +kernel
theorem dX5_wish_30 : decode cX5_wish 30 = .ok (.getfield 12, 3) := by decide +kernel
theorem dX5_wish_33 : decode cX5_wish 33 = .ok (.invokevirtual 61, 3) := by decide +kernel
theorem dX5_wish_36 : decode cX5_wish 36 = .ok (.aload_n 0, 1) := by decide +kernel
theorem dX5_wish_37 : decode cX5_wish 37 = .ok (.getfield 12, 3) := by decide +kernel
theorem dX5_wish_40 : decode cX5_wish 40 = .ok (.iload_n 1, 1) := by decide +kernel
theorem dX5_wish_41 : decode cX5_wish 41 = .ok (.iload_n 2, 1) := by decide +kernel
theorem dX5_wish_42 : decode cX5_wish 42 = .ok (.invokevirtual 65, 3) := by decide +kernel
theorem dX5_wish_45 : decode cX5_wish 45 = .ok (.aload_n 0, 1) := by decide +kernel
theorem dX5_wish_46 : decode cX5_wish 46 = .ok (.getfield 12, 3) := by decide +kernel
theorem dX5_wish_49 : decode cX5_wish 49 = .ok (.invokevirtual 69, 3) := by decide +kernel
theorem dX5_wish_52 : decode cX5_wish 52 = .ok (.ireturn, 1) := by decide +kernel
set_option maxRecDepth 20000 in
theorem ggX5_withdraw_X5_arePeople : GoodIn wsX5_withdraw wsX5_arePeople := goodIn_r _ [6, 7, 8, 5, 9] (by decide +kernel) (by decide +kernel)
set_option maxRecDepth 20000 in
theorem gX5_withdraw_X5_arePeople : GoodIn wsX5_withdraw (va_wsS RX5 54 yX5_arePeople wsX5_arePeople) := goodIn_app (goodIn_of _ (by decide +kernel)) ggX5_withdraw_X5_arePeople
set_option maxRecDepth 20000 in
theorem ggX5_withdraw_X0_hasWish : GoodIn wsX5_withdraw wsX0_hasWish := goodIn_r _ [14, 15, 16, 5, 17, 57] (by decide +kernel) (by decide +kernel)
set_option maxRecDepth 20000 in
theorem gX5_withdraw_X0_hasWish : GoodIn wsX5_withdraw (wsV RX5 58 RX0 yX0_hasWish wsX0_hasWish) := goodIn_app (goodIn_of _ (by decide +kernel)) ggX5_withdraw_X0_hasWish
end
section
set_option maxRecDepth 20000 in
theorem ggX5_withdraw_X1_keep : GoodIn wsX5_withdraw wsX1_keep := goodIn_r _ [22, 23, 24, 25, 26, 27, 28, 29, 30, 31, 32, 21, 33, 58, 59, 60, 57] (by decide +kernel) (by decide +kernel)
set_option maxRecDepth 20000 in
theorem gX5_withdraw_X1_keep : GoodIn wsX5_withdraw (wsV RX5 61 RX1 yX1_keep wsX1_keep) := goodIn_app (goodIn_of _ (by decide +kernel)) ggX5_withdraw_X1_keep
set_option maxRecDepth 20000 in
theorem ggX5_withdraw_X0_closeWish : GoodIn wsX5_withdraw wsX0_closeWish := goodIn_r _ [37, 15, 57] (by decide +kernel) (by decide +kernel)
set_option maxRecDepth 20000 in
theorem gX5_withdraw_X0_closeWish : GoodIn wsX5_withdraw (wsV RX5 73 RX0 yX0_closeWish wsX0_closeWish) := goodIn_app (goodIn_of _ (by decide +kernel)) ggX5_withdraw_X0_closeWish
set_option maxRecDepth 20000 in
theorem ggX5_withdraw_X0_numberOfWishes : GoodIn wsX5_withdraw wsX0_numberOfWishes := goodIn_r _ [41, 15, 42, 43, 44, 45, 46, 47, 48, 57] (by decide +kernel) (by decide +kernel)
set_option maxRecDepth 20000 in
theorem gX5_withdraw_X0_numberOfWishes : GoodIn wsX5_withdraw (wsV RX5 69 RX0 yX0_numberOfWishes wsX0_numberOfWishes) := goodIn_app (goodIn_of _ (by decide +kernel)) ggX5_withdraw_X0_numberOfWishes
theorem dX5_withdraw_0 : decode cX5_withdraw 0 = .ok (.iload_n 1, 1) := by decide +kernel
theorem dX5_withdraw_1 : decode cX5_withdraw 1 = .ok (.iload_n 2, 1) := by decide +kernel
theorem dX5_withdraw_2 : decode cX5_withdraw 2 = .ok (.invokestatic 54, 3) := by decide +kernel
theorem dX5_withdraw_5 : decode cX5_withdraw 5 = .ok (.ifCond .ne 5, 3) := by decide +kernel
theorem dX5_withdraw_8 : decode cX5_withdraw 8 = .ok (.iconst (-1), 1) := by decide +kernel
theorem dX5_withdraw_9 : decode cX5_withdraw 9 = .ok (.ireturn, 1) := by decide +kernel
theorem dX5_withdraw_10 : decode cX5_withdraw 10 = .ok (.aload_n 0, 1) := by decide +kernel
theorem dX5_withdraw_11 : decode cX5_withdraw 11 = .ok (.getfield 12, 3) := by decide +kernel
theorem dX5_withdraw_14 : decode cX5_withdraw 14 = .ok (.iload_n 1, 1) := by decide +kernel
theorem dX5_withdraw_15 : decode cX5_withdraw 15 = .ok (.iload_n 2, 1) := by decide +kernel
theorem dX5_withdraw_16 : decode cX5_withdraw 16 = .ok (.invokevirtual 58, 3) := by decide +kernel
theorem dX5_withdraw_19 : decode cX5_withdraw 19 = .ok (.ifCond .ne 6, 3) := by decide +kernel
theorem dX5_withdraw_22 : decode cX5_withdraw 22 = .ok (.bipush (-4), 2) := by decide +kernel
theorem dX5_withdraw_24 : decode cX5_withdraw 24 = .ok (.ireturn, 1) := by decide +kernel
theorem dX5_withdraw_25 : decode cX5_withdraw 25 = .ok (.aload_n 0, 1) := by decide +kernel
theorem dX5_withdraw_26 : decode cX5_withdraw 26 = .ok (.getfield 25, 3) := by decide +kernel
theorem dX5_withdraw_29 : decode cX5_withdraw 29 = .ok (.aload_n 0, 1) := by decide +kernel
theorem dX5_withdraw_30 : decode cX5_withdraw 30 = .ok (.getfield 12, 3) := by decide +kernel
theorem dX5_withdraw_33 : decode cX5_withdraw 33 = .ok (.invokevirtual 61, 3) := by decide +kernel
theorem dX5_withdraw_36 : decode cX5_withdraw 36 = .ok (.aload_n 0, 1) := by decide +kernel
theorem dX5_withdraw_37 : decode cX5_withdraw 37 = .ok (.getfield 12, 3) := by decide +kernel
theorem dX5_withdraw_40 : decode cX5_withdraw 40 = .ok (.iload_n 1, 1) := by decide +kernel
theorem dX5_withdraw_41 : decode cX5_withdraw 41 = .ok (.iload_n 2, 1) := by decide +kernel
theorem dX5_withdraw_42 : decode cX5_withdraw 42 = .ok (.invokevirtual 73, 3) := by decide +kernel
theorem dX5_withdraw_45 : decode cX5_withdraw 45 = .ok (.aload_n 0, 1) := by decide +kernel
theorem dX5_withdraw_46 : decode cX5_withdraw 46 = .ok (.getfield 12, 3) := by decide +kernel
theorem dX5_withdraw_49 : decode cX5_withdraw 49 = .ok (.invokevirtual 69, 3) := by decide +kernel
theorem dX5_withdraw_52 : decode cX5_withdraw 52 = .ok (.ireturn, 1) := by decide +kernel
set_option maxRecDepth 20000 in
theorem ggX5_quarrel_X5_arePeople : GoodIn wsX5_quarrel wsX5_arePeople := goodIn_r _ [6, 7, 8, 5, 9] (by decide +kernel) (by decide +kernel)
set_option maxRecDepth 20000 in
theorem gX5_quarrel_X5_arePeople : GoodIn wsX5_quarrel (va_wsS RX5 54 yX5_arePeople wsX5_arePeople) := goodIn_app (goodIn_of _ (by decide +kernel)) ggX5_quarrel_X5_arePeople
set_option maxRecDepth 20000 in
theorem ggX5_quarrel_X1_keep : GoodIn wsX5_quarrel wsX1_keep := goodIn_r _ [14, 15, 16, 17, 18, 19, 20, 21, 22, 23, 24, 13, 25, 44, 45, 46, 47] (by decide +kernel) (by decide +kernel)
set_option maxRecDepth 20000 in
theorem gX5_quarrel_X1_keep : GoodIn wsX5_quarrel (wsV RX5 61 RX1 yX1_keep wsX1_keep) := goodIn_app (goodIn_of _ (by decide +kernel)) ggX5_quarrel_X1_keep
set_option maxRecDepth 20000 in
theorem ggX5_quarrel_X0_feudOf : GoodIn wsX5_quarrel wsX0_feudOf := goodIn_r _ [30, 31, 47] (by decide +kernel) (by decide +kernel)
set_option maxRecDepth 20000 in
theorem gX5_quarrel_X0_feudOf : GoodIn wsX5_quarrel (wsV RX5 76 RX0 yX0_feudOf wsX0_feudOf) := goodIn_app (goodIn_of _ (by decide +kernel)) ggX5_quarrel_X0_feudOf
set_option maxRecDepth 20000 in
theorem ggX5_quarrel_X0_setFeud : GoodIn wsX5_quarrel wsX0_setFeud := goodIn_r _ [35, 31, 47] (by decide +kernel) (by decide +kernel)
set_option maxRecDepth 20000 in
theorem gX5_quarrel_X0_setFeud : GoodIn wsX5_quarrel (wsV RX5 80 RX0 yX0_setFeud wsX0_setFeud) := goodIn_app (goodIn_of _ (by decide +kernel)) ggX5_quarrel_X0_setFeud
theorem dX5_quarrel_0 : decode cX5_quarrel 0 = .ok (.iload_n 1, 1) := by decide +kernel
theorem dX5_quarrel_1 : decode cX5_quarrel 1 = .ok (.iload_n 2, 1) := by decide +kernel
theorem dX5_quarrel_2 : decode cX5_quarrel 2 = .ok (.invokestatic 54, 3) := by decide +kernel
theorem dX5_quarrel_5 : decode cX5_quarrel 5 = .ok (.ifCond .ne 5, 3) := by decide +kernel
theorem dX5_quarrel_8 : decode cX5_quarrel 8 = .ok (.iconst (-1), 1) := by decide +kernel
theorem dX5_quarrel_9 : decode cX5_quarrel 9 = .ok (.ireturn, 1) := by decide +kernel
theorem dX5_quarrel_10 : decode cX5_quarrel 10 = .ok (.iload_n 3, 1) := by decide +kernel
theorem dX5_quarrel_11 : decode cX5_quarrel 11 = .ok (.iconst 1, 1) := by decide +kernel
theorem dX5_quarrel_12 : decode cX5_quarrel 12 = .ok (.if_icmp .lt 9, 3) := by decide +kernel
theorem dX5_quarrel_15 : decode cX5_quarrel 15 = .ok (.iload_n 3, 1) := by decide +kernel
theorem dX5_quarrel_16 : decode cX5_quarrel 16 = .ok (.bipush 50, 2) := by decide +kernel
theorem dX5_quarrel_18 : decode cX5_quarrel 18 = .ok (.if_icmp .le 6, 3) := by decide +kernel
theorem dX5_quarrel_21 : decode cX5_quarrel 21 = .ok (.bipush (-2), 2) := by decide +kernel
theorem dX5_quarrel_23 : decode cX5_quarrel 23 = .ok (.ireturn, 1) := by decide +kernel
theorem dX5_quarrel_24 : decode cX5_quarrel 24 = .ok (.aload_n 0, 1) := by decide +kernel
theorem dX5_quarrel_25 : decode cX5_quarrel 25 = .ok (.getfield 25, 3) := by decide +kernel
theorem dX5_quarrel_28 : decode cX5_quarrel 28 = .ok (.aload_n 0, 1) := by decide +kernel
theorem dX5_quarrel_29 : decode cX5_quarrel 29 = .ok (.getfield 12, 3) := by decide +kernel
theorem dX5_quarrel_32 : decode cX5_quarrel 32 = .ok (.invokevirtual 61, 3) := by decide +kernel
theorem dX5_quarrel_35 : decode cX5_quarrel 35 = .ok (.aload_n 0, 1) := by decide +kernel
theorem dX5_quarrel_36 : decode cX5_quarrel 36 = .ok (.getfield 12, 3) := by decide +kernel
theorem dX5_quarrel_39 : decode cX5_quarrel 39 = .ok (.iload_n 1, 1) := by decide +kernel
theorem dX5_quarrel_40 : decode cX5_quarrel 40 = .ok (.iload_n 2, 1) := by decide +kernel
theorem dX5_quarrel_41 : decode cX5_quarrel 41 = .ok (.invokevirtual 76, 3) := by decide +kernel
theorem dX5_quarrel_44 : decode cX5_quarrel 44 = .ok (.istore 4, 2) := by decide +kernel
theorem dX5_quarrel_46 : decode cX5_quarrel 46 = .ok (.aload_n 0, 1) := by decide +kernel
theorem dX5_quarrel_47 : decode cX5_quarrel 47 = .ok (.getfield 12, 3) := by decide +kernel
theorem dX5_quarrel_50 : decode cX5_quarrel 50 = .ok (.iload_n 1, 1) := by decide +kernel
theorem dX5_quarrel_51 : decode cX5_quarrel 51 = .ok (.iload_n 2, 1) := by decide +kernel
theorem dX5_quarrel_52 : decode cX5_quarrel 52 = .ok (.iload_n 3, 1) := by decide +kernel
theorem dX5_quarrel_53 : decode cX5_quarrel 53 = .ok (.invokevirtual 80, 3) := by decide +kernel
theorem dX5_quarrel_56 : decode cX5_quarrel 56 = .ok (.iload 4, 2) := by decide +kernel
theorem dX5_quarrel_58 : decode cX5_quarrel 58 = .ok (.ireturn, 1) := by decide +kernel
set_option maxRecDepth 20000 in
theorem ggX5_reconcile_X5_arePeople : GoodIn wsX5_reconcile wsX5_arePeople := goodIn_r _ [6, 7, 8, 5, 9] (by decide +kernel) (by decide +kernel)
set_option maxRecDepth 20000 in
theorem gX5_reconcile_X5_arePeople : GoodIn wsX5_reconcile (va_wsS RX5 54 yX5_arePeople wsX5_arePeople) := goodIn_app (goodIn_of _ (by decide +kernel)) ggX5_reconcile_X5_arePeople
set_option maxRecDepth 20000 in
theorem ggX5_reconcile_X0_feudOf : GoodIn wsX5_reconcile wsX0_feudOf := goodIn_r _ [14, 15, 44] (by decide +kernel) (by decide +kernel)
set_option maxRecDepth 20000 in
theorem gX5_reconcile_X0_feudOf : GoodIn wsX5_reconcile (wsV RX5 76 RX0 yX0_feudOf wsX0_feudOf) := goodIn_app (goodIn_of _ (by decide +kernel)) ggX5_reconcile_X0_feudOf
set_option maxRecDepth 20000 in
theorem ggX5_reconcile_X1_keep : GoodIn wsX5_reconcile wsX1_keep := goodIn_r _ [20, 21, 22, 23, 24, 25, 26, 27, 28, 29, 30, 19, 31, 45, 46, 47, 44] (by decide +kernel) (by decide +kernel)
set_option maxRecDepth 20000 in
theorem gX5_reconcile_X1_keep : GoodIn wsX5_reconcile (wsV RX5 61 RX1 yX1_keep wsX1_keep) := goodIn_app (goodIn_of _ (by decide +kernel)) ggX5_reconcile_X1_keep
set_option maxRecDepth 20000 in
theorem ggX5_reconcile_X0_setFeud : GoodIn wsX5_reconcile wsX0_setFeud := goodIn_r _ [35, 15, 44] (by decide +kernel) (by decide +kernel)
set_option maxRecDepth 20000 in
theorem gX5_reconcile_X0_setFeud : GoodIn wsX5_reconcile (wsV RX5 80 RX0 yX0_setFeud wsX0_setFeud) := goodIn_app (goodIn_of _ (by decide +kernel)) ggX5_reconcile_X0_setFeud
theorem dX5_reconcile_0 : decode cX5_reconcile 0 = .ok (.iload_n 1, 1) := by decide +kernel
theorem dX5_reconcile_1 : decode cX5_reconcile 1 = .ok (.iload_n 2, 1) := by decide +kernel
theorem dX5_reconcile_2 : decode cX5_reconcile 2 = .ok (.invokestatic 54, 3) := by decide +kernel
theorem dX5_reconcile_5 : decode cX5_reconcile 5 = .ok (.ifCond .ne 5, 3) := by decide +kernel
theorem dX5_reconcile_8 : decode cX5_reconcile 8 = .ok (.iconst (-1), 1) := by decide +kernel
theorem dX5_reconcile_9 : decode cX5_reconcile 9 = .ok (.ireturn, 1) := by decide +kernel
theorem dX5_reconcile_10 : decode cX5_reconcile 10 = .ok (.aload_n 0, 1) := by decide +kernel
theorem dX5_reconcile_11 : decode cX5_reconcile 11 = .ok (.getfield 12, 3) := by decide +kernel
theorem dX5_reconcile_14 : decode cX5_reconcile 14 = .ok (.iload_n 1, 1) := by decide +kernel
theorem dX5_reconcile_15 : decode cX5_reconcile 15 = .ok (.iload_n 2, 1) := by decide +kernel
theorem dX5_reconcile_16 : decode cX5_reconcile 16 = .ok (.invokevirtual 76, 3) := by decide +kernel
theorem dX5_reconcile_19 : decode cX5_reconcile 19 = .ok (.istore_n 3, 1) := by decide +kernel
theorem dX5_reconcile_20 : decode cX5_reconcile 20 = .ok (.iload_n 3, 1) := by decide +kernel
theorem dX5_reconcile_21 : decode cX5_reconcile 21 = .ok (.ifCond .ne 6, 3) := by decide +kernel
theorem dX5_reconcile_24 : decode cX5_reconcile 24 = .ok (.bipush (-4), 2) := by decide +kernel
theorem dX5_reconcile_26 : decode cX5_reconcile 26 = .ok (.ireturn, 1) := by decide +kernel
theorem dX5_reconcile_27 : decode cX5_reconcile 27 = .ok (.aload_n 0, 1) := by decide +kernel
theorem dX5_reconcile_28 : decode cX5_reconcile 28 = .ok (.getfield 25, 3) := by decide +kernel
theorem dX5_reconcile_31 : decode cX5_reconcile 31 = .ok (.aload_n 0, 1) := by decide +kernel
theorem dX5_reconcile_32 : decode cX5_reconcile 32 = .ok (.getfield 12, 3) := by decide +kernel
theorem dX5_reconcile_35 : decode cX5_reconcile 35 = .ok (.invokevirtual 61, 3) := by decide +kernel
theorem dX5_reconcile_38 : decode cX5_reconcile 38 = .ok (.aload_n 0, 1) := by decide +kernel
theorem dX5_reconcile_39 : decode cX5_reconcile 39 = .ok (.getfield 12, 3) := by decide +kernel
theorem dX5_reconcile_42 : decode cX5_reconcile 42 = .ok (.iload_n 1, 1) := by decide +kernel
theorem dX5_reconcile_43 : decode cX5_reconcile 43 = .ok (.iload_n 2, 1) := by decide +kernel
theorem dX5_reconcile_44 : decode cX5_reconcile 44 = .ok (.iconst 0, 1) := by decide +kernel
theorem dX5_reconcile_45 : decode cX5_reconcile 45 = .ok (.invokevirtual 80, 3) := by decide +kernel
theorem dX5_reconcile_48 : decode cX5_reconcile 48 = .ok (.iload_n 3, 1) := by decide +kernel
theorem dX5_reconcile_49 : decode cX5_reconcile 49 = .ok (.ireturn, 1) := by decide +kernel
set_option maxRecDepth 20000 in
theorem ggX5_link_X5_isGate : GoodIn wsX5_link wsX5_isGate := goodIn_r _ [6] (by decide +kernel) (by decide +kernel)
set_option maxRecDepth 20000 in
theorem gX5_link_X5_isGate : GoodIn wsX5_link (va_wsS RX5 84 yX5_isGate wsX5_isGate) := goodIn_app (goodIn_of _ (by decide +kernel)) ggX5_link_X5_isGate
set_option maxRecDepth 20000 in
theorem ggX5_link_X1_keep : GoodIn wsX5_link wsX1_keep := goodIn_r _ [11, 12, 13, 14, 15, 16, 17, 18, 19, 20, 21, 10, 22, 46, 47, 48, 49] (by decide +kernel) (by decide +kernel)
set_option maxRecDepth 20000 in
theorem gX5_link_X1_keep : GoodIn wsX5_link (wsV RX5 61 RX1 yX1_keep wsX1_keep) := goodIn_app (goodIn_of _ (by decide +kernel)) ggX5_link_X1_keep
set_option maxRecDepth 20000 in
theorem ggX5_link_X0_areLinked : GoodIn wsX5_link wsX0_areLinked := goodIn_r _ [27, 28, 29, 5, 30, 49] (by decide +kernel) (by decide +kernel)
set_option maxRecDepth 20000 in
theorem gX5_link_X0_areLinked : GoodIn wsX5_link (wsV RX5 88 RX0 yX0_areLinked wsX0_areLinked) := goodIn_app (goodIn_of _ (by decide +kernel)) ggX5_link_X0_areLinked
set_option maxRecDepth 20000 in
theorem ggX5_link_X5_asNumber : GoodIn wsX5_link wsX5_asNumber := goodIn_r _ [33] (by decide +kernel) (by decide +kernel)
set_option maxRecDepth 20000 in
theorem gX5_link_X5_asNumber : GoodIn wsX5_link (va_wsS RX5 91 yX5_asNumber wsX5_asNumber) := goodIn_app (goodIn_of _ (by decide +kernel)) ggX5_link_X5_asNumber
set_option maxRecDepth 20000 in
theorem ggX5_link_X0_setLinked : GoodIn wsX5_link wsX0_setLinked := goodIn_r _ [37, 28, 49] (by decide +kernel) (by decide +kernel)
set_option maxRecDepth 20000 in
theorem gX5_link_X0_setLinked : GoodIn wsX5_link (wsV RX5 95 RX0 yX0_setLinked wsX0_setLinked) := goodIn_app (goodIn_of _ (by decide +kernel)) ggX5_link_X0_setLinked
theorem dX5_link_0 : decode cX5_link 0 = .ok (.iload_n 1, 1) := by decide +kernel
theorem dX5_link_1 : decode cX5_link 1 = .ok (.invokestatic 84, 3) := by decide +kernel
theorem dX5_link_4 : decode cX5_link 4 = .ok (.ifCond .eq 10, 3) := by decide +kernel
theorem dX5_link_7 : decode cX5_link 7 = .ok (.iload_n 2, 1) := by decide +kernel
theorem dX5_link_8 : decode cX5_link 8 = .ok (.invokestatic 84, 3) := by decide +kernel
theorem dX5_link_11 : decode cX5_link 11 = .ok (.ifCond .ne 5, 3) := by decide +kernel
theorem dX5_link_14 : decode cX5_link 14 = .ok (.iconst (-1), 1) := by decide +kernel
theorem dX5_link_15 : decode cX5_link 15 = .ok (.ireturn, 1) := by decide +kernel
theorem dX5_link_16 : decode cX5_link 16 = .ok (.aload_n 0, 1) := by decide +kernel
theorem dX5_link_17 : decode cX5_link 17 = .ok (.getfield 25, 3) := by decide +kernel
theorem dX5_link_20 : decode cX5_link 20 = .ok (.aload_n 0, 1) := by decide +kernel
theorem dX5_link_21 : decode cX5_link 21 = .ok (.getfield 12, 3) := by decide +kernel
theorem dX5_link_24 : decode cX5_link 24 = .ok (.invokevirtual 61, 3) := by decide +kernel
theorem dX5_link_27 : decode cX5_link 27 = .ok (.aload_n 0, 1) := by decide +kernel
theorem dX5_link_28 : decode cX5_link 28 = .ok (.getfield 12, 3) := by decide +kernel
theorem dX5_link_31 : decode cX5_link 31 = .ok (.iload_n 1, 1) := by decide +kernel
theorem dX5_link_32 : decode cX5_link 32 = .ok (.iload_n 2, 1) := by decide +kernel
theorem dX5_link_33 : decode cX5_link 33 = .ok (.invokevirtual 88, 3) := by decide +kernel
theorem dX5_link_36 : decode cX5_link 36 = .ok (.invokestatic 91, 3) := by decide +kernel
theorem dX5_link_39 : decode cX5_link 39 = .ok (.istore 4, 2) := by decide +kernel
theorem dX5_link_41 : decode cX5_link 41 = .ok (.aload_n 0, 1) := by decide +kernel
theorem dX5_link_42 : decode cX5_link 42 = .ok (.getfield 12, 3) := by decide +kernel
theorem dX5_link_45 : decode cX5_link 45 = .ok (.iload_n 1, 1) := by decide +kernel
theorem dX5_link_46 : decode cX5_link 46 = .ok (.iload_n 2, 1) := by decide +kernel
theorem dX5_link_47 : decode cX5_link 47 = .ok (.iload_n 3, 1) := by decide +kernel
theorem dX5_link_48 : decode cX5_link 48 = .ok (.invokevirtual 95, 3) := by decide +kernel
theorem dX5_link_51 : decode cX5_link 51 = .ok (.iload 4, 2) := by decide +kernel
theorem dX5_link_53 : decode cX5_link 53 = .ok (.ireturn, 1) := by decide +kernel
set_option maxRecDepth 20000 in
theorem ggX5_move_X5_isPerson : GoodIn wsX5_move wsX5_isPerson := goodIn_r _ [6] (by decide +kernel) (by decide +kernel)
set_option maxRecDepth 20000 in
theorem gX5_move_X5_isPerson : GoodIn wsX5_move (va_wsS RX5 99 yX5_isPerson wsX5_isPerson) := goodIn_app (goodIn_of _ (by decide +kernel)) ggX5_move_X5_isPerson
set_option maxRecDepth 20000 in
theorem ggX5_move_X5_isGate : GoodIn wsX5_move wsX5_isGate := goodIn_r _ [9] (by decide +kernel) (by decide +kernel)
set_option maxRecDepth 20000 in
theorem gX5_move_X5_isGate : GoodIn wsX5_move (va_wsS RX5 84 yX5_isGate wsX5_isGate) := goodIn_app (goodIn_of _ (by decide +kernel)) ggX5_move_X5_isGate
set_option maxRecDepth 20000 in
theorem ggX5_move_X1_keep : GoodIn wsX5_move wsX1_keep := goodIn_r _ [14, 15, 16, 17, 18, 19, 20, 21, 22, 23, 24, 13, 25, 44, 45, 46, 47] (by decide +kernel) (by decide +kernel)
set_option maxRecDepth 20000 in
theorem gX5_move_X1_keep : GoodIn wsX5_move (wsV RX5 61 RX1 yX1_keep wsX1_keep) := goodIn_app (goodIn_of _ (by decide +kernel)) ggX5_move_X1_keep
set_option maxRecDepth 20000 in
theorem ggX5_move_X0_gateOf : GoodIn wsX5_move wsX0_gateOf := goodIn_r _ [30, 31, 47] (by decide +kernel) (by decide +kernel)
set_option maxRecDepth 20000 in
theorem gX5_move_X0_gateOf : GoodIn wsX5_move (wsV RX5 102 RX0 yX0_gateOf wsX0_gateOf) := goodIn_app (goodIn_of _ (by decide +kernel)) ggX5_move_X0_gateOf
set_option maxRecDepth 20000 in
theorem ggX5_move_X0_setGate : GoodIn wsX5_move wsX0_setGate := goodIn_r _ [35, 31, 47] (by decide +kernel) (by decide +kernel)
set_option maxRecDepth 20000 in
theorem gX5_move_X0_setGate : GoodIn wsX5_move (wsV RX5 106 RX0 yX0_setGate wsX0_setGate) := goodIn_app (goodIn_of _ (by decide +kernel)) ggX5_move_X0_setGate
theorem dX5_move_0 : decode cX5_move 0 = .ok (.iload_n 2, 1) := by decide +kernel
theorem dX5_move_1 : decode cX5_move 1 = .ok (.invokestatic 99, 3) := by decide +kernel
theorem dX5_move_4 : decode cX5_move 4 = .ok (.ifCond .eq 10, 3) := by decide +kernel
theorem dX5_move_7 : decode cX5_move 7 = .ok (.iload_n 3, 1) := by decide +kernel
theorem dX5_move_8 : decode cX5_move 8 = .ok (.invokestatic 84, 3) := by decide +kernel
theorem dX5_move_11 : decode cX5_move 11 = .ok (.ifCond .ne 5, 3) := by decide +kernel
theorem dX5_move_14 : decode cX5_move 14 = .ok (.iconst (-1), 1) := by decide +kernel
theorem dX5_move_15 : decode cX5_move 15 = .ok (.ireturn, 1) := by decide +kernel
theorem dX5_move_16 : decode cX5_move 16 = .ok (.aload_n 0, 1) := by decide +kernel
theorem dX5_move_17 : decode cX5_move 17 = .ok (.getfield 25, 3) := by decide +kernel
theorem dX5_move_20 : decode cX5_move 20 = .ok (.aload_n 0, 1) := by decide +kernel
theorem dX5_move_21 : decode cX5_move 21 = .ok (.getfield 12, 3) := by decide +kernel
theorem dX5_move_24 : decode cX5_move 24 = .ok (.invokevirtual 61, 3) := by decide +kernel
theorem dX5_move_27 : decode cX5_move 27 = .ok (.aload_n 0, 1) := by decide +kernel
theorem dX5_move_28 : decode cX5_move 28 = .ok (.getfield 12, 3) := by decide +kernel
theorem dX5_move_31 : decode cX5_move 31 = .ok (.iload_n 1, 1) := by decide +kernel
theorem dX5_move_32 : decode cX5_move 32 = .ok (.iload_n 2, 1) := by decide +kernel
theorem dX5_move_33 : decode cX5_move 33 = .ok (.invokevirtual 102, 3) := by decide +kernel
theorem dX5_move_36 : decode cX5_move 36 = .ok (.istore 4, 2) := by decide +kernel
theorem dX5_move_38 : decode cX5_move 38 = .ok (.aload_n 0, 1) := by decide +kernel
theorem dX5_move_39 : decode cX5_move 39 = .ok (.getfield 12, 3) := by decide +kernel
theorem dX5_move_42 : decode cX5_move 42 = .ok (.iload_n 1, 1) := by decide +kernel
theorem dX5_move_43 : decode cX5_move 43 = .ok (.iload_n 2, 1) := by decide +kernel
theorem dX5_move_44 : decode cX5_move 44 = .ok (.iload_n 3, 1) := by decide +kernel
theorem dX5_move_45 : decode cX5_move 45 = .ok (.invokevirtual 106, 3) := by decide +kernel
theorem dX5_move_48 : decode cX5_move 48 = .ok (.iload 4, 2) := by decide +kernel
theorem dX5_move_50 : decode cX5_move 50 = .ok (.ireturn, 1) := by decide +kernel
set_option maxRecDepth 20000 in
theorem ggX5_round_X1_keep : GoodIn wsX5_round wsX1_keep := goodIn_r _ [7, 8, 9, 10, 11, 12, 13, 14, 15, 16, 17, 6, 18, 120, 121, 122, 123] (by decide +kernel) (by decide +kernel)
set_option maxRecDepth 20000 in
theorem gX5_round_X1_keep : GoodIn wsX5_round (wsV RX5 61 RX1 yX1_keep wsX1_keep) := goodIn_app (goodIn_of _ (by decide +kernel)) ggX5_round_X1_keep
set_option maxRecDepth 20000 in
theorem ggX5_round_X5_makeRound : GoodIn wsX5_round wsX5_makeRound := goodIn_r _ [23, 24, 25, 26, 27, 28, 29, 30, 31, 32, 33, 34, 35, 36, 37, 38, 39, 40, 41, 42, 43, 44, 45, 46, 47, 48, 49, 50, 51, 22, 52, 53, 54, 55, 56, 57, 58, 59, 60, 61, 62, 63, 64, 65, 66, 67, 68, 69, 70, 71, 72, 73, 74, 75, 76, 77, 78, 79, 80, 81, 82, 83, 84, 85, 86, 87, 88, 89, 90, 91, 92, 93, 94, 95, 96, 97, 98, 99, 100, 101, 102, 103, 104, 105, 106, 107, 108, 109, 110, 111, 112, 113, 114, 115, 116, 117, 118, 119, 124, 125, 126, 127, 128, 123] (by decide +kernel) (by decide +kernel)
set_option maxRecDepth 20000 in
theorem gX5_round_X5_makeRound : GoodIn wsX5_round (wsV RX5 110 RX5 yX5_makeRound wsX5_makeRound) := goodIn_app (goodIn_of _ (by decide +kernel)) ggX5_round_X5_makeRound
theorem dX5_round_0 : decode cX5_round 0 = .ok (.aload_n 0, 1) := by decide +kernel
theorem dX5_round_1 : decode cX5_round 1 = .ok (.getfield 25, 3) := by decide +kernel
theorem dX5_round_4 : decode cX5_round 4 = .ok (.aload_n 0, 1) := by decide +kernel
theorem dX5_round_5 : decode cX5_round 5 = .ok (.getfield 12, 3) := by decide +kernel
theorem dX5_round_8 : decode cX5_round 8 = .ok (.invokevirtual 61, 3) := by decide +kernel
theorem dX5_round_11 : decode cX5_round 11 = .ok (.aload_n 0, 1) := by decide +kernel
theorem dX5_round_12 : decode cX5_round 12 = .ok (.aload_n 0, 1) := by decide +kernel
theorem dX5_round_13 : decode cX5_round 13 = .ok (.getfield 12, 3) := by decide +kernel
theorem dX5_round_16 : decode cX5_round 16 = .ok (.invokevirtual 110, 3) := by decide +kernel
theorem dX5_round_19 : decode cX5_round 19 = .ok (.ireturn, 1) := by decide +kernel
set_option maxRecDepth 20000 in
theorem ggX5_append_X4_hasRoom : GoodIn wsX5_append wsX4_hasRoom := goodIn_r _ [6, 7, 26, 27, 28, 29, 30, 31] (by decide +kernel) (by decide +kernel)
set_option maxRecDepth 20000 in
theorem gX5_append_X4_hasRoom : GoodIn wsX5_append (wsV RX5 114 RX4 yX4_hasRoom wsX4_hasRoom) := goodIn_app (goodIn_of _ (by decide +kernel)) ggX5_append_X4_hasRoom
set_option maxRecDepth 20000 in
theorem ggX5_append_X4_add : GoodIn wsX5_append wsX4_add := goodIn_r _ [11, 12, 7, 13, 3, 4, 5, 6, 26, 27, 28, 29, 30, 31] (by decide +kernel) (by decide +kernel)
set_option maxRecDepth 20000 in
theorem gX5_append_X4_add : GoodIn wsX5_append (wsV RX5 118 RX4 yX4_add wsX4_add) := goodIn_app (goodIn_of _ (by decide +kernel)) ggX5_append_X4_add
set_option maxRecDepth 20000 in
theorem ggX5_append_X4_length : GoodIn wsX5_append wsX4_length := goodIn_r _ [17, 7, 26, 27, 28, 29, 30, 31] (by decide +kernel) (by decide +kernel)
set_option maxRecDepth 20000 in
theorem gX5_append_X4_length : GoodIn wsX5_append (wsV RX5 122 RX4 yX4_length wsX4_length) := goodIn_app (goodIn_of _ (by decide +kernel)) ggX5_append_X4_length
theorem dX5_append_0 : decode cX5_append 0 = .ok (.iload_n 1, 1) := by decide +kernel
theorem dX5_append_1 : decode cX5_append 1 = .ok (.bipush 32, 2) := by decide +kernel
theorem dX5_append_3 : decode cX5_append 3 = .ok (.if_icmp .lt 9, 3) := by decide +kernel
theorem dX5_append_6 : decode cX5_append 6 = .ok (.iload_n 1, 1) := by decide +kernel
theorem dX5_append_7 : decode cX5_append 7 = .ok (.bipush 126, 2) := by decide +kernel
theorem dX5_append_9 : decode cX5_append 9 = .ok (.if_icmp .le 6, 3) := by decide +kernel
theorem dX5_append_12 : decode cX5_append 12 = .ok (.bipush (-2), 2) := by decide +kernel
theorem dX5_append_14 : decode cX5_append 14 = .ok (.ireturn, 1) := by decide +kernel
theorem dX5_append_15 : decode cX5_append 15 = .ok (.aload_n 0, 1) := by decide +kernel
theorem dX5_append_16 : decode cX5_append 16 = .ok (.getfield 32, 3) := by decide +kernel
theorem dX5_append_19 : decode cX5_append 19 = .ok (.invokevirtual 114, 3) := by decide +kernel
theorem dX5_append_22 : decode cX5_append 22 = .ok (.ifCond .ne 6, 3) := by decide +kernel
theorem dX5_append_25 : decode cX5_append 25 = .ok (.bipush (-3), 2) := by decide +kernel
theorem dX5_append_27 : decode cX5_append 27 = .ok (.ireturn, 1) := by decide +kernel
theorem dX5_append_28 : decode cX5_append 28 = .ok (.aload_n 0, 1) := by decide +kernel
theorem dX5_append_29 : decode cX5_append 29 = .ok (.getfield 32, 3) := by decide +kernel
theorem dX5_append_32 : decode cX5_append 32 = .ok (.iload_n 1, 1) := by decide +kernel
theorem dX5_append_33 : decode cX5_append 33 = .ok (.invokevirtual 118, 3) := by decide +kernel
theorem dX5_append_36 : decode cX5_append 36 = .ok (.aload_n 0, 1) := by decide +kernel
theorem dX5_append_37 : decode cX5_append 37 = .ok (.getfield 32, 3) := by decide +kernel
theorem dX5_append_40 : decode cX5_append 40 = .ok (.invokevirtual 122, 3) := by decide +kernel
theorem dX5_append_43 : decode cX5_append 43 = .ok (.ireturn, 1) := by decide +kernel
set_option maxRecDepth 20000 in
theorem ggX5_clearText_X4_length : GoodIn wsX5_clearText wsX4_length := goodIn_r _ [6, 7, 20, 21, 22, 23, 24, 25] (by decide +kernel) (by decide +kernel)
set_option maxRecDepth 20000 in
theorem gX5_clearText_X4_length : GoodIn wsX5_clearText (wsV RX5 122 RX4 yX4_length wsX4_length) := goodIn_app (goodIn_of _ (by decide +kernel)) ggX5_clearText_X4_length
set_option maxRecDepth 20000 in
theorem ggX5_clearText_X4_empty : GoodIn wsX5_clearText wsX4_empty := goodIn_r _ [11, 7, 20, 21, 22, 23, 24, 25] (by decide +kernel) (by decide +kernel)
set_option maxRecDepth 20000 in
theorem gX5_clearText_X4_empty : GoodIn wsX5_clearText (wsV RX5 125 RX4 yX4_empty wsX4_empty) := goodIn_app (goodIn_of _ (by decide +kernel)) ggX5_clearText_X4_empty
theorem dX5_clearText_0 : decode cX5_clearText 0 = .ok (.aload_n 0, 1) := by decide +kernel
theorem dX5_clearText_1 : decode cX5_clearText 1 = .ok (.getfield 32, 3) := by decide +kernel
theorem dX5_clearText_4 : decode cX5_clearText 4 = .ok (.invokevirtual 122, 3) := by decide +kernel
theorem dX5_clearText_7 : decode cX5_clearText 7 = .ok (.istore_n 1, 1) := by decide +kernel
theorem dX5_clearText_8 : decode cX5_clearText 8 = .ok (.aload_n 0, 1) := by decide +kernel
theorem dX5_clearText_9 : decode cX5_clearText 9 = .ok (.getfield 32, 3) := by decide +kernel
theorem dX5_clearText_12 : decode cX5_clearText 12 = .ok (.invokevirtual 125, 3) := by decide +kernel
theorem dX5_clearText_15 : decode cX5_clearText 15 = .ok (.iload_n 1, 1) := by decide +kernel
theorem dX5_clearText_16 : decode cX5_clearText 16 = .ok (.ireturn, 1) := by decide +kernel
set_option maxRecDepth 20000 in
theorem ggX5_fault_X4_parse : GoodIn wsX5_fault wsX4_parse := goodIn_r _ [6, 7, 8, 9, 10, 11, 12, 13, 14, 15, 16, 17, 5, 18, 19, 20, 21, 22, 23, 24, 25, 26, 27, 28, 29, 30, 31, 32, 33, 34, 35, 44, 45, 46, 47, 48, 49] (by decide +kernel) (by decide +kernel)
set_option maxRecDepth 20000 in
theorem gX5_fault_X4_parse : GoodIn wsX5_fault (wsV RX5 128 RX4 yX4_parse wsX4_parse) := goodIn_app (goodIn_of _ (by decide +kernel)) ggX5_fault_X4_parse
theorem dX5_fault_0 : decode cX5_fault 0 = .ok (.aload_n 0, 1) := by decide +kernel
theorem dX5_fault_1 : decode cX5_fault 1 = .ok (.getfield 32, 3) := by decide +kernel
theorem dX5_fault_4 : decode cX5_fault 4 = .ok (.invokevirtual 128, 3) := by decide +kernel
theorem dX5_fault_7 : decode cX5_fault 7 = .ok (.ireturn, 1) := by decide +kernel
set_option maxRecDepth 20000 in
theorem ggX5_read_X4_parse : GoodIn wsX5_read wsX4_parse := goodIn_r _ [8, 9, 10, 11, 12, 13, 14, 15, 16, 17, 18, 19, 7, 20, 21, 22, 23, 24, 25, 26, 27, 28, 29, 30, 31, 32, 33, 34, 35, 36, 37, 83, 84, 85, 86, 87, 88] (by decide +kernel) (by decide +kernel)
set_option maxRecDepth 20000 in
theorem gX5_read_X4_parse : GoodIn wsX5_read (wsV RX5 128 RX4 yX4_parse wsX4_parse) := goodIn_app (goodIn_of _ (by decide +kernel)) ggX5_read_X4_parse
set_option maxRecDepth 20000 in
theorem ggX5_read_X1_keep : GoodIn wsX5_read wsX1_keep := goodIn_r _ [42, 43, 44, 45, 46, 47, 48, 49, 50, 51, 52, 41, 53, 89, 90, 91, 92] (by decide +kernel) (by decide +kernel)
set_option maxRecDepth 20000 in
theorem gX5_read_X1_keep : GoodIn wsX5_read (wsV RX5 61 RX1 yX1_keep wsX1_keep) := goodIn_app (goodIn_of _ (by decide +kernel)) ggX5_read_X1_keep
set_option maxRecDepth 20000 in
theorem ggX5_read_X0_numberOfWishes : GoodIn wsX5_read wsX0_numberOfWishes := goodIn_r _ [58, 59, 60, 61, 62, 63, 64, 65, 66, 92] (by decide +kernel) (by decide +kernel)
set_option maxRecDepth 20000 in
theorem gX5_read_X0_numberOfWishes : GoodIn wsX5_read (wsV RX5 69 RX0 yX0_numberOfWishes wsX0_numberOfWishes) := goodIn_app (goodIn_of _ (by decide +kernel)) ggX5_read_X0_numberOfWishes
set_option maxRecDepth 20000 in
theorem ggX5_read_X4_rightsFor : GoodIn wsX5_read wsX4_rightsFor := goodIn_r _ [70, 9, 83, 84, 85, 86, 87, 88] (by decide +kernel) (by decide +kernel)
set_option maxRecDepth 20000 in
theorem gX5_read_X4_rightsFor : GoodIn wsX5_read (wsV RX5 131 RX4 yX4_rightsFor wsX4_rightsFor) := goodIn_app (goodIn_of _ (by decide +kernel)) ggX5_read_X4_rightsFor
set_option maxRecDepth 20000 in
theorem ggX5_read_X0_openWishes : GoodIn wsX5_read wsX0_openWishes := goodIn_r _ [74, 59, 92] (by decide +kernel) (by decide +kernel)
set_option maxRecDepth 20000 in
theorem gX5_read_X0_openWishes : GoodIn wsX5_read (wsV RX5 135 RX0 yX0_openWishes wsX0_openWishes) := goodIn_app (goodIn_of _ (by decide +kernel)) ggX5_read_X0_openWishes
theorem dX5_read_0 : decode cX5_read 0 = .ok (.aload_n 0, 1) := by decide +kernel
theorem dX5_read_1 : decode cX5_read 1 = .ok (.getfield 32, 3) := by decide +kernel
theorem dX5_read_4 : decode cX5_read 4 = .ok (.invokevirtual 128, 3) := by decide +kernel
theorem dX5_read_7 : decode cX5_read 7 = .ok (.istore_n 1, 1) := by decide +kernel
theorem dX5_read_8 : decode cX5_read 8 = .ok (.iload_n 1, 1) := by decide +kernel
theorem dX5_read_9 : decode cX5_read 9 = .ok (.bipush (-5), 2) := by decide +kernel
theorem dX5_read_11 : decode cX5_read 11 = .ok (.if_icmp .eq 8, 3) := by decide +kernel
theorem dX5_read_14 : decode cX5_read 14 = .ok (.bipush (-100), 2) := by decide +kernel
theorem dX5_read_16 : decode cX5_read 16 = .ok (.iload_n 1, 1) := by decide +kernel
theorem dX5_read_17 : decode cX5_read 17 = .ok (.isub, 1) := by decide +kernel
theorem dX5_read_18 : decode cX5_read 18 = .ok (.ireturn, 1) := by decide +kernel
theorem dX5_read_19 : decode cX5_read 19 = .ok (.aload_n 0, 1) := by decide +kernel
theorem dX5_read_20 : decode cX5_read 20 = .ok (.getfield 25, 3) := by decide +kernel
theorem dX5_read_23 : decode cX5_read 23 = .ok (.aload_n 0, 1) := by decide +kernel
theorem dX5_read_24 : decode cX5_read 24 = .ok (.getfield 12, 3) := by decide +kernel
theorem dX5_read_27 : decode cX5_read 27 = .ok (.invokevirtual 61, 3) := by decide +kernel
theorem dX5_read_30 : decode cX5_read 30 = .ok (.aload_n 0, 1) := by decide +kernel
theorem dX5_read_31 : decode cX5_read 31 = .ok (.getfield 12, 3) := by decide +kernel
theorem dX5_read_34 : decode cX5_read 34 = .ok (.invokevirtual 69, 3) := by decide +kernel
theorem dX5_read_37 : decode cX5_read 37 = .ok (.istore_n 2, 1) := by decide +kernel
theorem dX5_read_38 : decode cX5_read 38 = .ok (.iconst 0, 1) := by decide +kernel
theorem dX5_read_39 : decode cX5_read 39 = .ok (.istore_n 3, 1) := by decide +kernel
theorem dX5_read_40 : decode cX5_read 40 = .ok (.iload_n 3, 1) := by decide +kernel
theorem dX5_read_41 : decode cX5_read 41 = .ok (.bipush 8, 2) := by decide +kernel
theorem dX5_read_43 : decode cX5_read 43 = .ok (.if_icmp .ge 25, 3) := by decide +kernel
theorem dX5_read_46 : decode cX5_read 46 = .ok (.aload_n 0, 1) := by decide +kernel
theorem dX5_read_47 : decode cX5_read 47 = .ok (.getfield 12, 3) := by decide +kernel
theorem dX5_read_50 : decode cX5_read 50 = .ok (.iload_n 3, 1) := by decide +kernel
theorem dX5_read_51 : decode cX5_read 51 = .ok (.aload_n 0, 1) := by decide +kernel
theorem dX5_read_52 : decode cX5_read 52 = .ok (.getfield 32, 3) := by decide +kernel
theorem dX5_read_55 : decode cX5_read 55 = .ok (.iload_n 3, 1) := by decide +kernel
theorem dX5_read_56 : decode cX5_read 56 = .ok (.invokevirtual 131, 3) := by decide +kernel
theorem dX5_read_59 : decode cX5_read 59 = .ok (.invokevirtual 135, 3) := by decide +kernel
theorem dX5_read_62 : decode cX5_read 62 = .ok (.iinc 3 1, 3) := by decide +kernel
theorem dX5_read_65 : decode cX5_read 65 = .ok (.goto (-25), 3) := by decide +kernel
theorem dX5_read_68 : decode cX5_read 68 = .ok (.aload_n 0, 1) := by decide +kernel
theorem dX5_read_69 : decode cX5_read 69 = .ok (.getfield 12, 3) := by decide +kernel
theorem dX5_read_72 : decode cX5_read 72 = .ok (.invokevirtual 69, 3) := by decide +kernel
theorem dX5_read_75 : decode cX5_read 75 = .ok (.iload_n 2, 1) := by decide +kernel
theorem dX5_read_76 : decode cX5_read 76 = .ok (.isub, 1) := by decide +kernel
theorem dX5_read_77 : decode cX5_read 77 = .ok (.ireturn, 1) := by decide +kernel
set_option maxRecDepth 20000 in
theorem ggX5_undo_X1_size : GoodIn wsX5_undo wsX1_size := goodIn_r _ [7, 8, 31, 32, 33] (by decide +kernel) (by decide +kernel)
set_option maxRecDepth 20000 in
theorem gX5_undo_X1_size : GoodIn wsX5_undo (wsV RX5 138 RX1 yX1_size wsX1_size) := goodIn_app (goodIn_of _ (by decide +kernel)) ggX5_undo_X1_size
set_option maxRecDepth 20000 in
theorem ggX5_undo_X1_takeLatest : GoodIn wsX5_undo wsX1_takeLatest := goodIn_r _ [12, 8, 13, 14, 15, 16, 17, 18, 19, 20, 6, 21, 22, 31, 32, 33, 34] (by decide +kernel) (by decide +kernel)
set_option maxRecDepth 20000 in
theorem gX5_undo_X1_takeLatest : GoodIn wsX5_undo (wsV RX5 141 RX1 yX1_takeLatest wsX1_takeLatest) := goodIn_app (goodIn_of _ (by decide +kernel)) ggX5_undo_X1_takeLatest
theorem dX5_undo_0 : decode cX5_undo 0 = .ok (.aload_n 0, 1) := by decide +kernel
theorem dX5_undo_1 : decode cX5_undo 1 = .ok (.getfield 25, 3) := by decide +kernel
theorem dX5_undo_4 : decode cX5_undo 4 = .ok (.invokevirtual 138, 3) := by decide +kernel
theorem dX5_undo_7 : decode cX5_undo 7 = .ok (.ifCond .ne 6, 3) := by decide +kernel
theorem dX5_undo_10 : decode cX5_undo 10 = .ok (.bipush (-5), 2) := by decide +kernel
theorem dX5_undo_12 : decode cX5_undo 12 = .ok (.ireturn, 1) := by decide +kernel
theorem dX5_undo_13 : decode cX5_undo 13 = .ok (.aload_n 0, 1) := by decide +kernel
theorem dX5_undo_14 : decode cX5_undo 14 = .ok (.getfield 25, 3) := by decide +kernel
theorem dX5_undo_17 : decode cX5_undo 17 = .ok (.aload_n 0, 1) := by decide +kernel
theorem dX5_undo_18 : decode cX5_undo 18 = .ok (.getfield 12, 3) := by decide +kernel
theorem dX5_undo_21 : decode cX5_undo 21 = .ok (.invokevirtual 141, 3) := by decide +kernel
theorem dX5_undo_24 : decode cX5_undo 24 = .ok (.aload_n 0, 1) := by decide +kernel
theorem dX5_undo_25 : decode cX5_undo 25 = .ok (.getfield 25, 3) := by decide +kernel
theorem dX5_undo_28 : decode cX5_undo 28 = .ok (.invokevirtual 138, 3) := by decide +kernel
theorem dX5_undo_31 : decode cX5_undo 31 = .ok (.ireturn, 1) := by decide +kernel
set_option maxRecDepth 20000 in
theorem ggX5_save_X0_copyFrom : GoodIn wsX5_save wsX0_copyFrom := goodIn_r _ [8, 9, 10, 11, 12, 13, 33] (by decide +kernel) (by decide +kernel)
set_option maxRecDepth 20000 in
theorem gX5_save_X0_copyFrom : GoodIn wsX5_save (wsV RX5 144 RX0 yX0_copyFrom wsX0_copyFrom) := goodIn_app (goodIn_of _ (by decide +kernel)) ggX5_save_X0_copyFrom
set_option maxRecDepth 20000 in
theorem ggX5_save_X0_numberOfWishes : GoodIn wsX5_save wsX0_numberOfWishes := goodIn_r _ [17, 9, 18, 19, 20, 21, 22, 23, 24, 33] (by decide +kernel) (by decide +kernel)
set_option maxRecDepth 20000 in
theorem gX5_save_X0_numberOfWishes : GoodIn wsX5_save (wsV RX5 69 RX0 yX0_numberOfWishes wsX0_numberOfWishes) := goodIn_app (goodIn_of _ (by decide +kernel)) ggX5_save_X0_numberOfWishes
theorem dX5_save_0 : decode cX5_save 0 = .ok (.aload_n 0, 1) := by decide +kernel
theorem dX5_save_1 : decode cX5_save 1 = .ok (.getfield 19, 3) := by decide +kernel
theorem dX5_save_4 : decode cX5_save 4 = .ok (.aload_n 0, 1) := by decide +kernel
theorem dX5_save_5 : decode cX5_save 5 = .ok (.getfield 12, 3) := by decide +kernel
theorem dX5_save_8 : decode cX5_save 8 = .ok (.invokevirtual 144, 3) := by decide +kernel
theorem dX5_save_11 : decode cX5_save 11 = .ok (.aload_n 0, 1) := by decide +kernel
theorem dX5_save_12 : decode cX5_save 12 = .ok (.iconst 1, 1) := by decide +kernel
theorem dX5_save_13 : decode cX5_save 13 = .ok (.putfield 50, 3) := by decide +kernel
theorem dX5_save_16 : decode cX5_save 16 = .ok (.aload_n 0, 1) := by decide +kernel
theorem dX5_save_17 : decode cX5_save 17 = .ok (.getfield 12, 3) := by decide +kernel
theorem dX5_save_20 : decode cX5_save 20 = .ok (.invokevirtual 69, 3) := by decide +kernel
theorem dX5_save_23 : decode cX5_save 23 = .ok (.ireturn, 1) := by decide +kernel
set_option maxRecDepth 20000 in
theorem ggX5_restore_X1_keep : GoodIn wsX5_restore wsX1_keep := goodIn_r _ [9, 10, 11, 12, 13, 14, 15, 16, 17, 18, 19, 8, 20, 47, 48, 49, 50] (by decide +kernel) (by decide +kernel)
set_option maxRecDepth 20000 in
theorem gX5_restore_X1_keep : GoodIn wsX5_restore (wsV RX5 61 RX1 yX1_keep wsX1_keep) := goodIn_app (goodIn_of _ (by decide +kernel)) ggX5_restore_X1_keep
set_option maxRecDepth 20000 in
theorem ggX5_restore_X0_copyFrom : GoodIn wsX5_restore wsX0_copyFrom := goodIn_r _ [25, 26, 27, 14, 15, 16, 50] (by decide +kernel) (by decide +kernel)
set_option maxRecDepth 20000 in
theorem gX5_restore_X0_copyFrom : GoodIn wsX5_restore (wsV RX5 144 RX0 yX0_copyFrom wsX0_copyFrom) := goodIn_app (goodIn_of _ (by decide +kernel)) ggX5_restore_X0_copyFrom
set_option maxRecDepth 20000 in
theorem ggX5_restore_X0_numberOfWishes : GoodIn wsX5_restore wsX0_numberOfWishes := goodIn_r _ [31, 26, 32, 33, 34, 35, 36, 37, 38, 50] (by decide +kernel) (by decide +kernel)
set_option maxRecDepth 20000 in
theorem gX5_restore_X0_numberOfWishes : GoodIn wsX5_restore (wsV RX5 69 RX0 yX0_numberOfWishes wsX0_numberOfWishes) := goodIn_app (goodIn_of _ (by decide +kernel)) ggX5_restore_X0_numberOfWishes
theorem dX5_restore_0 : decode cX5_restore 0 = .ok (.aload_n 0, 1) := by decide +kernel
theorem dX5_restore_1 : decode cX5_restore 1 = .ok (.getfield 50, 3) := by decide +kernel
theorem dX5_restore_4 : decode cX5_restore 4 = .ok (.ifCond .ne 6, 3) := by decide +kernel
theorem dX5_restore_7 : decode cX5_restore 7 = .ok (.bipush (-4), 2) := by decide +kernel
theorem dX5_restore_9 : decode cX5_restore 9 = .ok (.ireturn, 1) := by decide +kernel
theorem dX5_restore_10 : decode cX5_restore 10 = .ok (.aload_n 0, 1) := by decide +kernel
theorem dX5_restore_11 : decode cX5_restore 11 = .ok (.getfield 25, 3) := by decide +kernel
theorem dX5_restore_14 : decode cX5_restore 14 = .ok (.aload_n 0, 1) := by decide +kernel
theorem dX5_restore_15 : decode cX5_restore 15 = .ok (.getfield 12, 3) := by decide +kernel
theorem dX5_restore_18 : decode cX5_restore 18 = .ok (.invokevirtual 61, 3) := by decide +kernel
theorem dX5_restore_21 : decode cX5_restore 21 = .ok (.aload_n 0, 1) := by decide +kernel
theorem dX5_restore_22 : decode cX5_restore 22 = .ok (.getfield 12, 3) := by decide +kernel
theorem dX5_restore_25 : decode cX5_restore 25 = .ok (.aload_n 0, 1) := by decide +kernel
theorem dX5_restore_26 : decode cX5_restore 26 = .ok (.getfield 19, 3) := by decide +kernel
theorem dX5_restore_29 : decode cX5_restore 29 = .ok (.invokevirtual 144, 3) := by decide +kernel
theorem dX5_restore_32 : decode cX5_restore 32 = .ok (.aload_n 0, 1) := by decide +kernel
theorem dX5_restore_33 : decode cX5_restore 33 = .ok (.getfield 12, 3) := by decide +kernel
theorem dX5_restore_36 : decode cX5_restore 36 = .ok (.invokevirtual 69, 3) := by decide +kernel
theorem dX5_restore_39 : decode cX5_restore 39 = .ok (.ireturn, 1) := by decide +kernel
set_option maxRecDepth 20000 in
theorem ggX5_person_X5_isPerson : GoodIn wsX5_person wsX5_isPerson := goodIn_r _ [5] (by decide +kernel) (by decide +kernel)
set_option maxRecDepth 20000 in
theorem gX5_person_X5_isPerson : GoodIn wsX5_person (va_wsS RX5 99 yX5_isPerson wsX5_isPerson) := goodIn_app (goodIn_of _ (by decide +kernel)) ggX5_person_X5_isPerson
set_option maxRecDepth 20000 in
theorem ggX5_person_X0_gateOf : GoodIn wsX5_person wsX0_gateOf := goodIn_r _ [10, 11, 60] (by decide +kernel) (by decide +kernel)
set_option maxRecDepth 20000 in
theorem gX5_person_X0_gateOf : GoodIn wsX5_person (wsV RX5 102 RX0 yX0_gateOf wsX0_gateOf) := goodIn_app (goodIn_of _ (by decide +kernel)) ggX5_person_X0_gateOf
set_option maxRecDepth 20000 in
theorem ggX5_person_X0_amountOfPerson : GoodIn wsX5_person wsX0_amountOfPerson := goodIn_r _ [15, 16, 17, 18, 9, 19, 20, 21, 22, 23, 11, 24, 4, 25, 26, 27, 28, 29, 30, 31, 32, 33, 34, 35, 36, 37, 38, 39, 40, 41, 42, 43, 44, 45, 46, 47, 60] (by decide +kernel) (by decide +kernel)
set_option maxRecDepth 20000 in
theorem gX5_person_X0_amountOfPerson : GoodIn wsX5_person (wsV RX5 147 RX0 yX0_amountOfPerson wsX0_amountOfPerson) := goodIn_app (goodIn_of _ (by decide +kernel)) ggX5_person_X0_amountOfPerson
set_option maxRecDepth 20000 in
theorem ggX5_person_X0_peopleToMeet : GoodIn wsX5_person wsX0_peopleToMeet := goodIn_r _ [51, 32, 33, 34, 9, 35, 36, 37, 38, 39, 11, 40, 41, 42, 43, 60] (by decide +kernel) (by decide +kernel)
set_option maxRecDepth 20000 in
theorem gX5_person_X0_peopleToMeet : GoodIn wsX5_person (wsV RX5 151 RX0 yX0_peopleToMeet wsX0_peopleToMeet) := goodIn_app (goodIn_of _ (by decide +kernel)) ggX5_person_X0_peopleToMeet
theorem dX5_person_0 : decode cX5_person 0 = .ok (.iload_n 2, 1) := by decide +kernel
theorem dX5_person_1 : decode cX5_person 1 = .ok (.invokestatic 99, 3) := by decide +kernel
theorem dX5_person_4 : decode cX5_person 4 = .ok (.ifCond .ne 5, 3) := by decide +kernel
theorem dX5_person_7 : decode cX5_person 7 = .ok (.iconst (-1), 1) := by decide +kernel
theorem dX5_person_8 : decode cX5_person 8 = .ok (.ireturn, 1) := by decide +kernel
theorem dX5_person_9 : decode cX5_person 9 = .ok (.iload_n 3, 1) := by decide +kernel
theorem dX5_person_10 : decode cX5_person 10 = .ok (.tableswitch 69 0 5 #[38, 48, 48, 48, 48, 59], 38) := by decide +kernel
theorem dX5_person_48 : decode cX5_person 48 = .ok (.aload_n 0, 1) := by decide +kernel
theorem dX5_person_49 : decode cX5_person 49 = .ok (.getfield 12, 3) := by decide +kernel
theorem dX5_person_52 : decode cX5_person 52 = .ok (.iload_n 1, 1) := by decide +kernel
theorem dX5_person_53 : decode cX5_person 53 = .ok (.iload_n 2, 1) := by decide +kernel
theorem dX5_person_54 : decode cX5_person 54 = .ok (.invokevirtual 102, 3) := by decide +kernel
theorem dX5_person_57 : decode cX5_person 57 = .ok (.ireturn, 1) := by decide +kernel
theorem dX5_person_58 : decode cX5_person 58 = .ok (.aload_n 0, 1) := by decide +kernel
theorem dX5_person_59 : decode cX5_person 59 = .ok (.getfield 12, 3) := by decide +kernel
theorem dX5_person_62 : decode cX5_person 62 = .ok (.iload_n 1, 1) := by decide +kernel
theorem dX5_person_63 : decode cX5_person 63 = .ok (.iload_n 2, 1) := by decide +kernel
theorem dX5_person_64 : decode cX5_person 64 = .ok (.iload_n 3, 1) := by decide +kernel
theorem dX5_person_65 : decode cX5_person 65 = .ok (.invokevirtual 147, 3) := by decide +kernel
theorem dX5_person_68 : decode cX5_person 68 = .ok (.ireturn, 1) := by decide +kernel
theorem dX5_person_69 : decode cX5_person 69 = .ok (.aload_n 0, 1) := by decide +kernel
theorem dX5_person_70 : decode cX5_person 70 = .ok (.getfield 12, 3) := by decide +kernel
theorem dX5_person_73 : decode cX5_person 73 = .ok (.iload_n 1, 1) := by decide +kernel
theorem dX5_person_74 : decode cX5_person 74 = .ok (.iload_n 2, 1) := by decide +kernel
theorem dX5_person_75 : decode cX5_person 75 = .ok (.invokevirtual 151, 3) := by decide +kernel
theorem dX5_person_78 : decode cX5_person 78 = .ok (.ireturn, 1) := by decide +kernel
theorem dX5_person_79 : decode cX5_person 79 = .ok (.bipush (-2), 2) := by decide +kernel
theorem dX5_person_81 : decode cX5_person 81 = .ok (.ireturn, 1) := by decide +kernel
set_option maxRecDepth 20000 in
theorem ggX5_pair_X5_arePeople : GoodIn wsX5_pair wsX5_arePeople := goodIn_r _ [5, 6, 7, 4, 8] (by decide +kernel) (by decide +kernel)
set_option maxRecDepth 20000 in
theorem gX5_pair_X5_arePeople : GoodIn wsX5_pair (va_wsS RX5 54 yX5_arePeople wsX5_arePeople) := goodIn_app (goodIn_of _ (by decide +kernel)) ggX5_pair_X5_arePeople
set_option maxRecDepth 20000 in
theorem ggX5_pair_X0_hasWish : GoodIn wsX5_pair wsX0_hasWish := goodIn_r _ [13, 14, 15, 4, 16, 98] (by decide +kernel) (by decide +kernel)
set_option maxRecDepth 20000 in
theorem gX5_pair_X0_hasWish : GoodIn wsX5_pair (wsV RX5 58 RX0 yX0_hasWish wsX0_hasWish) := goodIn_app (goodIn_of _ (by decide +kernel)) ggX5_pair_X0_hasWish
set_option maxRecDepth 20000 in
theorem ggX5_pair_X5_asNumber : GoodIn wsX5_pair wsX5_asNumber := goodIn_r _ [19] (by decide +kernel) (by decide +kernel)
set_option maxRecDepth 20000 in
theorem gX5_pair_X5_asNumber : GoodIn wsX5_pair (va_wsS RX5 91 yX5_asNumber wsX5_asNumber) := goodIn_app (goodIn_of _ (by decide +kernel)) ggX5_pair_X5_asNumber
set_option maxRecDepth 20000 in
theorem ggX5_pair_X0_feudOf : GoodIn wsX5_pair wsX0_feudOf := goodIn_r _ [23, 14, 98] (by decide +kernel) (by decide +kernel)
set_option maxRecDepth 20000 in
theorem gX5_pair_X0_feudOf : GoodIn wsX5_pair (wsV RX5 76 RX0 yX0_feudOf wsX0_feudOf) := goodIn_app (goodIn_of _ (by decide +kernel)) ggX5_pair_X0_feudOf
set_option maxRecDepth 20000 in
theorem ggX5_pair_X0_handshakesOf : GoodIn wsX5_pair wsX0_handshakesOf := goodIn_r _ [27, 14, 98] (by decide +kernel) (by decide +kernel)
set_option maxRecDepth 20000 in
theorem gX5_pair_X0_handshakesOf : GoodIn wsX5_pair (wsV RX5 154 RX0 yX0_handshakesOf wsX0_handshakesOf) := goodIn_app (goodIn_of _ (by decide +kernel)) ggX5_pair_X0_handshakesOf
set_option maxRecDepth 20000 in
theorem ggX5_pair_X5_reasonAgainst : GoodIn wsX5_pair wsX5_reasonAgainst := goodIn_r _ [31, 1, 32, 9, 10, 11, 12, 13, 14, 15, 4, 16, 33, 34, 35, 36, 20, 21, 22, 23, 37, 38, 39, 40, 41, 42, 43, 44, 45, 46, 47, 48, 49, 50, 51, 52, 53, 54, 55, 56, 57, 58, 59, 60, 61, 62, 63, 64, 65, 66, 67, 68, 69, 70, 71, 72, 73, 74, 75, 76, 77, 7, 8, 78, 79, 80, 81, 82, 83, 84, 85, 86, 87, 88, 89, 90, 91, 92, 93, 94, 95, 96, 97, 98, 99, 100, 101, 102, 103] (by decide +kernel) (by decide +kernel)
set_option maxRecDepth 20000 in
theorem gX5_pair_X5_reasonAgainst : GoodIn wsX5_pair (wsV RX5 157 RX5 yX5_reasonAgainst wsX5_reasonAgainst) := goodIn_app (goodIn_of _ (by decide +kernel)) ggX5_pair_X5_reasonAgainst
theorem dX5_pair_0 : decode cX5_pair 0 = .ok (.iload_n 1, 1) := by decide +kernel
theorem dX5_pair_1 : decode cX5_pair 1 = .ok (.iload_n 2, 1) := by decide +kernel
theorem dX5_pair_2 : decode cX5_pair 2 = .ok (.invokestatic 54, 3) := by decide +kernel
theorem dX5_pair_5 : decode cX5_pair 5 = .ok (.ifCond .ne 5, 3) := by decide +kernel
theorem dX5_pair_8 : decode cX5_pair 8 = .ok (.iconst (-1), 1) := by decide +kernel
theorem dX5_pair_9 : decode cX5_pair 9 = .ok (.ireturn, 1) := by decide +kernel
theorem dX5_pair_10 : decode cX5_pair 10 = .ok (.iload_n 3, 1) := by decide +kernel
theorem dX5_pair_11 : decode cX5_pair 11 = .ok (.tableswitch 69 0 3 #[29, 42, 52, 62], 29) := by decide +kernel
theorem dX5_pair_40 : decode cX5_pair 40 = .ok (.aload_n 0, 1) := by decide +kernel
theorem dX5_pair_41 : decode cX5_pair 41 = .ok (.getfield 12, 3) := by decide +kernel
theorem dX5_pair_44 : decode cX5_pair 44 = .ok (.iload_n 1, 1) := by decide +kernel
theorem dX5_pair_45 : decode cX5_pair 45 = .ok (.iload_n 2, 1) := by decide +kernel
theorem dX5_pair_46 : decode cX5_pair 46 = .ok (.invokevirtual 58, 3) := by decide +kernel
theorem dX5_pair_49 : decode cX5_pair 49 = .ok (.invokestatic 91, 3) := by decide +kernel
theorem dX5_pair_52 : decode cX5_pair 52 = .ok (.ireturn, 1) := by decide +kernel
theorem dX5_pair_53 : decode cX5_pair 53 = .ok (.aload_n 0, 1) := by decide +kernel
theorem dX5_pair_54 : decode cX5_pair 54 = .ok (.getfield 12, 3) := by decide +kernel
theorem dX5_pair_57 : decode cX5_pair 57 = .ok (.iload_n 1, 1) := by decide +kernel
theorem dX5_pair_58 : decode cX5_pair 58 = .ok (.iload_n 2, 1) := by decide +kernel
theorem dX5_pair_59 : decode cX5_pair 59 = .ok (.invokevirtual 76, 3) := by decide +kernel
theorem dX5_pair_62 : decode cX5_pair 62 = .ok (.ireturn, 1) := by decide +kernel
theorem dX5_pair_63 : decode cX5_pair 63 = .ok (.aload_n 0, 1) := by decide +kernel
theorem dX5_pair_64 : decode cX5_pair 64 = .ok (.getfield 12, 3) := by decide +kernel
theorem dX5_pair_67 : decode cX5_pair 67 = .ok (.iload_n 1, 1) := by decide +kernel
theorem dX5_pair_68 : decode cX5_pair 68 = .ok (.iload_n 2, 1) := by decide +kernel
theorem dX5_pair_69 : decode cX5_pair 69 = .ok (.invokevirtual 154, 3) := by decide +kernel
theorem dX5_pair_72 : decode cX5_pair 72 = .ok (.ireturn, 1) := by decide +kernel
theorem dX5_pair_73 : decode cX5_pair 73 = .ok (.aload_n 0, 1) := by decide +kernel
theorem dX5_pair_74 : decode cX5_pair 74 = .ok (.iload_n 1, 1) := by decide +kernel
theorem dX5_pair_75 : decode cX5_pair 75 = .ok (.iload_n 2, 1) := by decide +kernel
theorem dX5_pair_76 : decode cX5_pair 76 = .ok (.invokevirtual 157, 3) := by decide +kernel
theorem dX5_pair_79 : decode cX5_pair 79 = .ok (.ireturn, 1) := by decide +kernel
theorem dX5_pair_80 : decode cX5_pair 80 = .ok (.bipush (-2), 2) := by decide +kernel
theorem dX5_pair_82 : decode cX5_pair 82 = .ok (.ireturn, 1) := by decide +kernel
set_option maxRecDepth 20000 in
theorem ggX5_isLinked_X5_isGate : GoodIn wsX5_isLinked wsX5_isGate := goodIn_r _ [5] (by decide +kernel) (by decide +kernel)
set_option maxRecDepth 20000 in
theorem gX5_isLinked_X5_isGate : GoodIn wsX5_isLinked (va_wsS RX5 84 yX5_isGate wsX5_isGate) := goodIn_app (goodIn_of _ (by decide +kernel)) ggX5_isLinked_X5_isGate
set_option maxRecDepth 20000 in
theorem ggX5_isLinked_X0_areLinked : GoodIn wsX5_isLinked wsX0_areLinked := goodIn_r _ [10, 11, 12, 4, 13, 25] (by decide +kernel) (by decide +kernel)
set_option maxRecDepth 20000 in
theorem gX5_isLinked_X0_areLinked : GoodIn wsX5_isLinked (wsV RX5 88 RX0 yX0_areLinked wsX0_areLinked) := goodIn_app (goodIn_of _ (by decide +kernel)) ggX5_isLinked_X0_areLinked
set_option maxRecDepth 20000 in
theorem ggX5_isLinked_X5_asNumber : GoodIn wsX5_isLinked wsX5_asNumber := goodIn_r _ [16] (by decide +kernel) (by decide +kernel)
set_option maxRecDepth 20000 in
theorem gX5_isLinked_X5_asNumber : GoodIn wsX5_isLinked (va_wsS RX5 91 yX5_asNumber wsX5_asNumber) := goodIn_app (goodIn_of _ (by decide +kernel)) ggX5_isLinked_X5_asNumber
theorem dX5_isLinked_0 : decode cX5_isLinked 0 = .ok (.iload_n 1, 1) := by decide +kernel
theorem dX5_isLinked_1 : decode cX5_isLinked 1 = .ok (.invokestatic 84, 3) := by decide +kernel
theorem dX5_isLinked_4 : decode cX5_isLinked 4 = .ok (.ifCond .eq 10, 3) := by decide +kernel
theorem dX5_isLinked_7 : decode cX5_isLinked 7 = .ok (.iload_n 2, 1) := by decide +kernel
theorem dX5_isLinked_8 : decode cX5_isLinked 8 = .ok (.invokestatic 84, 3) := by decide +kernel
theorem dX5_isLinked_11 : decode cX5_isLinked 11 = .ok (.ifCond .ne 5, 3) := by decide +kernel
theorem dX5_isLinked_14 : decode cX5_isLinked 14 = .ok (.iconst (-1), 1) := by decide +kernel
theorem dX5_isLinked_15 : decode cX5_isLinked 15 = .ok (.ireturn, 1) := by decide +kernel
theorem dX5_isLinked_16 : decode cX5_isLinked 16 = .ok (.aload_n 0, 1) := by decide +kernel
theorem dX5_isLinked_17 : decode cX5_isLinked 17 = .ok (.getfield 12, 3) := by decide +kernel
theorem dX5_isLinked_20 : decode cX5_isLinked 20 = .ok (.iload_n 1, 1) := by decide +kernel
theorem dX5_isLinked_21 : decode cX5_isLinked 21 = .ok (.iload_n 2, 1) := by decide +kernel
theorem dX5_isLinked_22 : decode cX5_isLinked 22 = .ok (.invokevirtual 88, 3) := by decide +kernel
theorem dX5_isLinked_25 : decode cX5_isLinked 25 = .ok (.invokestatic 91, 3) := by decide +kernel
theorem dX5_isLinked_28 : decode cX5_isLinked 28 = .ok (.ireturn, 1) := by decide +kernel
set_option maxRecDepth 20000 in
theorem ggX5_partner_X5_isPerson : GoodIn wsX5_partner wsX5_isPerson := goodIn_r _ [6] (by decide +kernel) (by decide +kernel)
set_option maxRecDepth 20000 in
theorem gX5_partner_X5_isPerson : GoodIn wsX5_partner (va_wsS RX5 99 yX5_isPerson wsX5_isPerson) := goodIn_app (goodIn_of _ (by decide +kernel)) ggX5_partner_X5_isPerson
set_option maxRecDepth 20000 in
theorem ggX5_partner_X2_takeFirst : GoodIn wsX5_partner wsX2_takeFirst := goodIn_r _ [11, 12, 13, 14, 15, 16, 10, 17, 18, 19, 20, 21, 22, 23, 24, 25, 26, 27, 28, 29, 30, 31, 32, 33, 5, 34, 35, 36, 37, 38, 39, 40, 41, 42, 43, 44, 45, 46, 47, 48, 49, 50, 51, 52, 53, 54, 55, 56, 57, 58, 59, 60, 4, 6, 61, 62, 63, 64, 65, 66, 67, 68, 81, 82, 83, 84, 85, 86] (by decide +kernel) (by decide +kernel)
set_option maxRecDepth 20000 in
theorem gX5_partner_X2_takeFirst : GoodIn wsX5_partner (wsV RX5 160 RX2 yX2_takeFirst wsX2_takeFirst) := goodIn_app (goodIn_of _ (by decide +kernel)) ggX5_partner_X2_takeFirst
set_option maxRecDepth 20000 in
theorem ggX5_partner_X2_partnerOf : GoodIn wsX5_partner wsX2_partnerOf := goodIn_r _ [72, 12, 18, 81, 82, 83, 84, 85] (by decide +kernel) (by decide +kernel)
set_option maxRecDepth 20000 in
theorem gX5_partner_X2_partnerOf : GoodIn wsX5_partner (wsV RX5 163 RX2 yX2_partnerOf wsX2_partnerOf) := goodIn_app (goodIn_of _ (by decide +kernel)) ggX5_partner_X2_partnerOf
theorem dX5_partner_0 : decode cX5_partner 0 = .ok (.iload_n 2, 1) := by decide +kernel
theorem dX5_partner_1 : decode cX5_partner 1 = .ok (.invokestatic 99, 3) := by decide +kernel
theorem dX5_partner_4 : decode cX5_partner 4 = .ok (.ifCond .ne 5, 3) := by decide +kernel
theorem dX5_partner_7 : decode cX5_partner 7 = .ok (.iconst (-1), 1) := by decide +kernel
theorem dX5_partner_8 : decode cX5_partner 8 = .ok (.ireturn, 1) := by decide +kernel
theorem dX5_partner_9 : decode cX5_partner 9 = .ok (.aload_n 0, 1) := by decide +kernel
theorem dX5_partner_10 : decode cX5_partner 10 = .ok (.getfield 39, 3) := by decide +kernel
theorem dX5_partner_13 : decode cX5_partner 13 = .ok (.aload_n 0, 1) := by decide +kernel
theorem dX5_partner_14 : decode cX5_partner 14 = .ok (.getfield 12, 3) := by decide +kernel
theorem dX5_partner_17 : decode cX5_partner 17 = .ok (.invokevirtual 160, 3) := by decide +kernel
theorem dX5_partner_20 : decode cX5_partner 20 = .ok (.aload_n 0, 1) := by decide +kernel
theorem dX5_partner_21 : decode cX5_partner 21 = .ok (.getfield 39, 3) := by decide +kernel
theorem dX5_partner_24 : decode cX5_partner 24 = .ok (.iload_n 1, 1) := by decide +kernel
theorem dX5_partner_25 : decode cX5_partner 25 = .ok (.iload_n 2, 1) := by decide +kernel
theorem dX5_partner_26 : decode cX5_partner 26 = .ok (.invokevirtual 163, 3) := by decide +kernel
theorem dX5_partner_29 : decode cX5_partner 29 = .ok (.ireturn, 1) := by decide +kernel
set_option maxRecDepth 20000 in
theorem ggX5_hindered_X2_takeGreatest : GoodIn wsX5_hindered wsX2_takeGreatest := goodIn_r _ [7, 8, 9, 10, 11, 12, 13, 14, 15, 16, 17, 18, 19, 20, 21, 22, 23, 24, 25, 26, 27, 28, 29, 30, 31, 32, 33, 34, 35, 36, 37, 38, 39, 40, 41, 42, 6, 43, 44, 45, 46, 47, 48, 49, 50, 51, 52, 53, 54, 55, 56, 57, 58, 59, 72, 73, 74, 75, 76, 77] (by decide +kernel) (by decide +kernel)
set_option maxRecDepth 20000 in
theorem gX5_hindered_X2_takeGreatest : GoodIn wsX5_hindered (wsV RX5 166 RX2 yX2_takeGreatest wsX2_takeGreatest) := goodIn_app (goodIn_of _ (by decide +kernel)) ggX5_hindered_X2_takeGreatest
set_option maxRecDepth 20000 in
theorem ggX5_hindered_X2_leftsWhoMayBeLeftOut : GoodIn wsX5_hindered wsX2_leftsWhoMayBeLeftOut := goodIn_r _ [63, 49, 8, 45, 46, 47, 6, 48, 44, 10, 50, 51, 52, 53, 9, 25, 26, 27, 72, 73, 74, 75, 76] (by decide +kernel) (by decide +kernel)
set_option maxRecDepth 20000 in
theorem gX5_hindered_X2_leftsWhoMayBeLeftOut : GoodIn wsX5_hindered (wsV RX5 169 RX2 yX2_leftsWhoMayBeLeftOut wsX2_leftsWhoMayBeLeftOut) := goodIn_app (goodIn_of _ (by decide +kernel)) ggX5_hindered_X2_leftsWhoMayBeLeftOut
theorem dX5_hindered_0 : decode cX5_hindered 0 = .ok (.aload_n 0, 1) := by decide +kernel
theorem dX5_hindered_1 : decode cX5_hindered 1 = .ok (.getfield 39, 3) := by decide +kernel
theorem dX5_hindered_4 : decode cX5_hindered 4 = .ok (.aload_n 0, 1) := by decide +kernel
theorem dX5_hindered_5 : decode cX5_hindered 5 = .ok (.getfield 12, 3) := by decide +kernel
theorem dX5_hindered_8 : decode cX5_hindered 8 = .ok (.invokevirtual 166, 3) := by decide +kernel
theorem dX5_hindered_11 : decode cX5_hindered 11 = .ok (.aload_n 0, 1) := by decide +kernel
theorem dX5_hindered_12 : decode cX5_hindered 12 = .ok (.getfield 39, 3) := by decide +kernel
theorem dX5_hindered_15 : decode cX5_hindered 15 = .ok (.invokevirtual 169, 3) := by decide +kernel
theorem dX5_hindered_18 : decode cX5_hindered 18 = .ok (.ireturn, 1) := by decide +kernel
set_option maxRecDepth 20000 in
theorem ggX5_planned_X5_arePeople : GoodIn wsX5_planned wsX5_arePeople := goodIn_r _ [6, 7, 8, 5, 9] (by decide +kernel) (by decide +kernel)
set_option maxRecDepth 20000 in
theorem gX5_planned_X5_arePeople : GoodIn wsX5_planned (va_wsS RX5 54 yX5_arePeople wsX5_arePeople) := goodIn_app (goodIn_of _ (by decide +kernel)) ggX5_planned_X5_arePeople
set_option maxRecDepth 20000 in
theorem ggX5_planned_X3_make : GoodIn wsX5_planned wsX3_make := goodIn_r _ [14, 15, 16, 17, 18, 19, 20, 21, 22, 23, 24, 25, 26, 27, 28, 29, 30, 5, 31, 32, 33, 34, 35, 36, 37, 38, 39, 40, 41, 42, 43, 44, 45, 46, 13, 47, 48, 49, 50, 51, 52, 53, 54, 55, 56, 57, 58, 59, 60, 61, 62, 63, 8, 9, 64, 65, 66, 67, 68, 69, 70, 71, 81, 82] (by decide +kernel) (by decide +kernel)
set_option maxRecDepth 20000 in
theorem gX5_planned_X3_make : GoodIn wsX5_planned (wsV RX5 172 RX3 yX3_make wsX3_make) := goodIn_app (goodIn_of _ (by decide +kernel)) ggX5_planned_X3_make
set_option maxRecDepth 20000 in
theorem ggX5_planned_X3_numberOf : GoodIn wsX5_planned wsX3_numberOf := goodIn_r _ [55, 15, 81] (by decide +kernel) (by decide +kernel)
set_option maxRecDepth 20000 in
theorem gX5_planned_X3_numberOf : GoodIn wsX5_planned (wsV RX5 175 RX3 yX3_numberOf wsX3_numberOf) := goodIn_app (goodIn_of _ (by decide +kernel)) ggX5_planned_X3_numberOf
theorem dX5_planned_0 : decode cX5_planned 0 = .ok (.iload_n 1, 1) := by decide +kernel
theorem dX5_planned_1 : decode cX5_planned 1 = .ok (.iload_n 2, 1) := by decide +kernel
theorem dX5_planned_2 : decode cX5_planned 2 = .ok (.invokestatic 54, 3) := by decide +kernel
theorem dX5_planned_5 : decode cX5_planned 5 = .ok (.ifCond .ne 5, 3) := by decide +kernel
theorem dX5_planned_8 : decode cX5_planned 8 = .ok (.iconst (-1), 1) := by decide +kernel
theorem dX5_planned_9 : decode cX5_planned 9 = .ok (.ireturn, 1) := by decide +kernel
theorem dX5_planned_10 : decode cX5_planned 10 = .ok (.aload_n 0, 1) := by decide +kernel
theorem dX5_planned_11 : decode cX5_planned 11 = .ok (.getfield 46, 3) := by decide +kernel
theorem dX5_planned_14 : decode cX5_planned 14 = .ok (.aload_n 0, 1) := by decide +kernel
theorem dX5_planned_15 : decode cX5_planned 15 = .ok (.getfield 12, 3) := by decide +kernel
theorem dX5_planned_18 : decode cX5_planned 18 = .ok (.invokevirtual 172, 3) := by decide +kernel
theorem dX5_planned_21 : decode cX5_planned 21 = .ok (.aload_n 0, 1) := by decide +kernel
theorem dX5_planned_22 : decode cX5_planned 22 = .ok (.getfield 46, 3) := by decide +kernel
theorem dX5_planned_25 : decode cX5_planned 25 = .ok (.iload_n 1, 1) := by decide +kernel
theorem dX5_planned_26 : decode cX5_planned 26 = .ok (.iload_n 2, 1) := by decide +kernel
theorem dX5_planned_27 : decode cX5_planned 27 = .ok (.invokevirtual 175, 3) := by decide +kernel
theorem dX5_planned_30 : decode cX5_planned 30 = .ok (.ireturn, 1) := by decide +kernel
set_option maxRecDepth 20000 in
theorem ggX5_count_X0_numberOfWishes : GoodIn wsX5_count wsX0_numberOfWishes := goodIn_r _ [8, 9, 10, 11, 12, 13, 14, 15, 16, 137] (by decide +kernel) (by decide +kernel)
set_option maxRecDepth 20000 in
theorem gX5_count_X0_numberOfWishes : GoodIn wsX5_count (wsV RX5 69 RX0 yX0_numberOfWishes wsX0_numberOfWishes) := goodIn_app (goodIn_of _ (by decide +kernel)) ggX5_count_X0_numberOfWishes
set_option maxRecDepth 20000 in
theorem ggX5_count_X0_amountOfAll : GoodIn wsX5_count wsX0_amountOfAll := goodIn_r _ [20, 21, 22, 23, 7, 24, 25, 26, 27, 28, 29, 30, 31, 32, 9, 33, 34, 35, 36, 37, 38, 39, 40, 41, 42, 43, 44, 45, 46, 47, 48, 49, 50, 51, 52, 53, 54, 55, 56, 57, 137] (by decide +kernel) (by decide +kernel)
end
section
set_option maxRecDepth 20000 in
theorem gX5_count_X0_amountOfAll : GoodIn wsX5_count (wsV RX5 178 RX0 yX0_amountOfAll wsX0_amountOfAll) := goodIn_app (goodIn_of _ (by decide +kernel)) ggX5_count_X0_amountOfAll
set_option maxRecDepth 20000 in
theorem ggX5_count_X0_linkedPairsOfGates : GoodIn wsX5_count wsX0_linkedPairsOfGates := goodIn_r _ [61, 9, 10, 11, 12, 13, 14, 15, 16, 137] (by decide +kernel) (by decide +kernel)
set_option maxRecDepth 20000 in
theorem gX5_count_X0_linkedPairsOfGates : GoodIn wsX5_count (wsV RX5 181 RX0 yX0_linkedPairsOfGates wsX0_linkedPairsOfGates) := goodIn_app (goodIn_of _ (by decide +kernel)) ggX5_count_X0_linkedPairsOfGates
set_option maxRecDepth 20000 in
theorem ggX5_count_X0_roundsSoFar : GoodIn wsX5_count wsX0_roundsSoFar := goodIn_r _ [65, 9, 137] (by decide +kernel) (by decide +kernel)
set_option maxRecDepth 20000 in
theorem gX5_count_X0_roundsSoFar : GoodIn wsX5_count (wsV RX5 184 RX0 yX0_roundsSoFar wsX0_roundsSoFar) := goodIn_app (goodIn_of _ (by decide +kernel)) ggX5_count_X0_roundsSoFar
set_option maxRecDepth 20000 in
theorem ggX5_count_X5_greatestSize : GoodIn wsX5_count wsX5_greatestSize := goodIn_r _ [69, 70, 71, 72, 73, 74, 75, 76, 77, 78, 79, 80, 81, 82, 83, 39, 40, 7, 41, 29, 30, 31, 32, 9, 33, 34, 35, 42, 43, 44, 45, 46, 47, 48, 49, 50, 51, 52, 53, 84, 85, 86, 87, 88, 89, 90, 91, 92, 93, 94, 95, 96, 97, 98, 99, 100, 101, 102, 103, 104, 105, 106, 107, 36, 37, 129, 130, 131, 132, 133, 134, 135, 136, 138, 139, 140, 141, 142, 137] (by decide +kernel) (by decide +kernel)
set_option maxRecDepth 20000 in
theorem gX5_count_X5_greatestSize : GoodIn wsX5_count (wsV RX5 187 RX5 yX5_greatestSize wsX5_greatestSize) := goodIn_app (goodIn_of _ (by decide +kernel)) ggX5_count_X5_greatestSize
set_option maxRecDepth 20000 in
theorem ggX5_count_X5_mostPossibleOfAPerson : GoodIn wsX5_count wsX5_mostPossibleOfAPerson := goodIn_r _ [111, 1, 112, 113, 114, 115, 116, 22, 23, 7, 24, 25, 26, 27, 28, 29, 30, 31, 32, 9, 33, 34, 35, 36, 37, 38, 39, 40, 41, 42, 43, 44, 45, 46, 47, 48, 49, 50, 51, 52, 53, 54, 55, 56, 57, 129, 130, 131, 132, 133, 134, 135, 136, 137] (by decide +kernel) (by decide +kernel)
set_option maxRecDepth 20000 in
theorem gX5_count_X5_mostPossibleOfAPerson : GoodIn wsX5_count (wsV RX5 190 RX5 yX5_mostPossibleOfAPerson wsX5_mostPossibleOfAPerson) := goodIn_app (goodIn_of _ (by decide +kernel)) ggX5_count_X5_mostPossibleOfAPerson
set_option maxRecDepth 20000 in
theorem ggX5_count_X1_size : GoodIn wsX5_count wsX1_size := goodIn_r _ [121, 122, 143, 144, 145] (by decide +kernel) (by decide +kernel)
set_option maxRecDepth 20000 in
theorem gX5_count_X1_size : GoodIn wsX5_count (wsV RX5 138 RX1 yX1_size wsX1_size) := goodIn_app (goodIn_of _ (by decide +kernel)) ggX5_count_X1_size
set_option maxRecDepth 20000 in
theorem ggX5_count_X4_length : GoodIn wsX5_count wsX4_length := goodIn_r _ [127, 128, 146, 147, 148, 149, 150, 151] (by decide +kernel) (by decide +kernel)
set_option maxRecDepth 20000 in
theorem gX5_count_X4_length : GoodIn wsX5_count (wsV RX5 122 RX4 yX4_length wsX4_length) := goodIn_app (goodIn_of _ (by decide +kernel)) ggX5_count_X4_length
theorem dX5_count_0 : decode cX5_count 0 = .ok (.iload_n 1, 1) := by decide +kernel
theorem dX5_count_1 : decode cX5_count 1 = .ok (.tableswitch 136 0 9 #[55, 63, 72, 81, 89, 97, 106, 115, 120, 128], 55) := by decide +kernel
theorem dX5_count_56 : decode cX5_count 56 = .ok (.aload_n 0, 1) := by decide +kernel
theorem dX5_count_57 : decode cX5_count 57 = .ok (.getfield 12, 3) := by decide +kernel
theorem dX5_count_60 : decode cX5_count 60 = .ok (.invokevirtual 69, 3) := by decide +kernel
theorem dX5_count_63 : decode cX5_count 63 = .ok (.ireturn, 1) := by decide +kernel
theorem dX5_count_64 : decode cX5_count 64 = .ok (.aload_n 0, 1) := by decide +kernel
theorem dX5_count_65 : decode cX5_count 65 = .ok (.getfield 12, 3) := by decide +kernel
theorem dX5_count_68 : decode cX5_count 68 = .ok (.iconst 2, 1) := by decide +kernel
theorem dX5_count_69 : decode cX5_count 69 = .ok (.invokevirtual 178, 3) := by decide +kernel
theorem dX5_count_72 : decode cX5_count 72 = .ok (.ireturn, 1) := by decide +kernel
theorem dX5_count_73 : decode cX5_count 73 = .ok (.aload_n 0, 1) := by decide +kernel
theorem dX5_count_74 : decode cX5_count 74 = .ok (.getfield 12, 3) := by decide +kernel
theorem dX5_count_77 : decode cX5_count 77 = .ok (.iconst 3, 1) := by decide +kernel
theorem dX5_count_78 : decode cX5_count 78 = .ok (.invokevirtual 178, 3) := by decide +kernel
theorem dX5_count_81 : decode cX5_count 81 = .ok (.ireturn, 1) := by decide +kernel
theorem dX5_count_82 : decode cX5_count 82 = .ok (.aload_n 0, 1) := by decide +kernel
theorem dX5_count_83 : decode cX5_count 83 = .ok (.getfield 12, 3) := by decide +kernel
theorem dX5_count_86 : decode cX5_count 86 = .ok (.invokevirtual 181, 3) := by decide +kernel
theorem dX5_count_89 : decode cX5_count 89 = .ok (.ireturn, 1) := by decide +kernel
theorem dX5_count_90 : decode cX5_count 90 = .ok (.aload_n 0, 1) := by decide +kernel
theorem dX5_count_91 : decode cX5_count 91 = .ok (.getfield 12, 3) := by decide +kernel
theorem dX5_count_94 : decode cX5_count 94 = .ok (.invokevirtual 184, 3) := by decide +kernel
theorem dX5_count_97 : decode cX5_count 97 = .ok (.ireturn, 1) := by decide +kernel
theorem dX5_count_98 : decode cX5_count 98 = .ok (.aload_n 0, 1) := by decide +kernel
theorem dX5_count_99 : decode cX5_count 99 = .ok (.getfield 12, 3) := by decide +kernel
theorem dX5_count_102 : decode cX5_count 102 = .ok (.iconst 4, 1) := by decide +kernel
theorem dX5_count_103 : decode cX5_count 103 = .ok (.invokevirtual 178, 3) := by decide +kernel
theorem dX5_count_106 : decode cX5_count 106 = .ok (.ireturn, 1) := by decide +kernel
theorem dX5_count_107 : decode cX5_count 107 = .ok (.aload_n 0, 1) := by decide +kernel
theorem dX5_count_108 : decode cX5_count 108 = .ok (.aload_n 0, 1) := by decide +kernel
theorem dX5_count_109 : decode cX5_count 109 = .ok (.getfield 12, 3) := by decide +kernel
theorem dX5_count_112 : decode cX5_count 112 = .ok (.invokevirtual 187, 3) := by decide +kernel
theorem dX5_count_115 : decode cX5_count 115 = .ok (.ireturn, 1) := by decide +kernel
theorem dX5_count_116 : decode cX5_count 116 = .ok (.aload_n 0, 1) := by decide +kernel
theorem dX5_count_117 : decode cX5_count 117 = .ok (.invokevirtual 190, 3) := by decide +kernel
theorem dX5_count_120 : decode cX5_count 120 = .ok (.ireturn, 1) := by decide +kernel
theorem dX5_count_121 : decode cX5_count 121 = .ok (.aload_n 0, 1) := by decide +kernel
theorem dX5_count_122 : decode cX5_count 122 = .ok (.getfield 25, 3) := by decide +kernel
theorem dX5_count_125 : decode cX5_count 125 = .ok (.invokevirtual 138, 3) := by decide +kernel
theorem dX5_count_128 : decode cX5_count 128 = .ok (.ireturn, 1) := by decide +kernel
theorem dX5_count_129 : decode cX5_count 129 = .ok (.aload_n 0, 1) := by decide +kernel
theorem dX5_count_130 : decode cX5_count 130 = .ok (.getfield 32, 3) := by decide +kernel
theorem dX5_count_133 : decode cX5_count 133 = .ok (.invokevirtual 122, 3) := by decide +kernel
theorem dX5_count_136 : decode cX5_count 136 = .ok (.ireturn, 1) := by decide +kernel
theorem dX5_count_137 : decode cX5_count 137 = .ok (.bipush (-2), 2) := by decide +kernel
theorem dX5_count_139 : decode cX5_count 139 = .ok (.ireturn, 1) := by decide +kernel
set_option maxRecDepth 20000 in
theorem ggX5_doneIn_X0_hasWishOverUnlinkedGates : GoodIn wsX5_doneIn wsX0_hasWishOverUnlinkedGates := goodIn_r _ [7, 8, 9, 10, 6, 11, 12, 13, 14, 15, 16, 17, 18, 19, 127] (by decide +kernel) (by decide +kernel)
set_option maxRecDepth 20000 in
theorem gX5_doneIn_X0_hasWishOverUnlinkedGates : GoodIn wsX5_doneIn (wsV RX5 193 RX0 yX0_hasWishOverUnlinkedGates wsX0_hasWishOverUnlinkedGates) := goodIn_app (goodIn_of _ (by decide +kernel)) ggX5_doneIn_X0_hasWishOverUnlinkedGates
set_option maxRecDepth 20000 in
theorem ggX5_doneIn_X0_copyFrom : GoodIn wsX5_doneIn wsX0_copyFrom := goodIn_r _ [23, 12, 24, 25, 26, 27, 127] (by decide +kernel) (by decide +kernel)
set_option maxRecDepth 20000 in
theorem gX5_doneIn_X0_copyFrom : GoodIn wsX5_doneIn (wsV RX5 144 RX0 yX0_copyFrom wsX0_copyFrom) := goodIn_app (goodIn_of _ (by decide +kernel)) ggX5_doneIn_X0_copyFrom
set_option maxRecDepth 20000 in
theorem ggX5_doneIn_X0_numberOfWishes : GoodIn wsX5_doneIn wsX0_numberOfWishes := goodIn_r _ [31, 12, 32, 33, 34, 35, 36, 37, 38, 127] (by decide +kernel) (by decide +kernel)
set_option maxRecDepth 20000 in
theorem gX5_doneIn_X0_numberOfWishes : GoodIn wsX5_doneIn (wsV RX5 69 RX0 yX0_numberOfWishes wsX0_numberOfWishes) := goodIn_app (goodIn_of _ (by decide +kernel)) ggX5_doneIn_X0_numberOfWishes
set_option maxRecDepth 20000 in
theorem ggX5_doneIn_X5_makeRound : GoodIn wsX5_doneIn wsX5_makeRound := goodIn_r _ [42, 43, 44, 45, 46, 47, 48, 49, 50, 51, 52, 53, 54, 55, 56, 57, 58, 59, 60, 61, 62, 6, 63, 8, 9, 10, 11, 12, 13, 14, 15, 64, 65, 66, 67, 68, 69, 70, 71, 16, 17, 18, 19, 72, 73, 74, 75, 76, 77, 78, 79, 80, 81, 82, 83, 84, 85, 86, 87, 88, 89, 90, 91, 92, 93, 94, 95, 96, 97, 98, 99, 100, 101, 102, 103, 104, 105, 106, 107, 108, 109, 110, 111, 112, 113, 114, 115, 116, 117, 118, 119, 120, 121, 122, 123, 124, 125, 126, 128, 129, 130, 131, 132, 127] (by decide +kernel) (by decide +kernel)
set_option maxRecDepth 20000 in
theorem gX5_doneIn_X5_makeRound : GoodIn wsX5_doneIn (wsV RX5 110 RX5 yX5_makeRound wsX5_makeRound) := goodIn_app (goodIn_of _ (by decide +kernel)) ggX5_doneIn_X5_makeRound
theorem dX5_doneIn_0 : decode cX5_doneIn 0 = .ok (.aload_n 0, 1) := by decide +kernel
theorem dX5_doneIn_1 : decode cX5_doneIn 1 = .ok (.getfield 12, 3) := by decide +kernel
theorem dX5_doneIn_4 : decode cX5_doneIn 4 = .ok (.invokevirtual 193, 3) := by decide +kernel
theorem dX5_doneIn_7 : decode cX5_doneIn 7 = .ok (.ifCond .eq 6, 3) := by decide +kernel
theorem dX5_doneIn_10 : decode cX5_doneIn 10 = .ok (.bipush (-5), 2) := by decide +kernel
theorem dX5_doneIn_12 : decode cX5_doneIn 12 = .ok (.ireturn, 1) := by decide +kernel
theorem dX5_doneIn_13 : decode cX5_doneIn 13 = .ok (.aload_n 0, 1) := by decide +kernel
theorem dX5_doneIn_14 : decode cX5_doneIn 14 = .ok (.getfield 16, 3) := by decide +kernel
theorem dX5_doneIn_17 : decode cX5_doneIn 17 = .ok (.aload_n 0, 1) := by decide +kernel
theorem dX5_doneIn_18 : decode cX5_doneIn 18 = .ok (.getfield 12, 3) := by decide +kernel
theorem dX5_doneIn_21 : decode cX5_doneIn 21 = .ok (.invokevirtual 144, 3) := by decide +kernel
theorem dX5_doneIn_24 : decode cX5_doneIn 24 = .ok (.iconst 0, 1) := by decide +kernel
theorem dX5_doneIn_25 : decode cX5_doneIn 25 = .ok (.istore_n 1, 1) := by decide +kernel
theorem dX5_doneIn_26 : decode cX5_doneIn 26 = .ok (.iload_n 1, 1) := by decide +kernel
theorem dX5_doneIn_27 : decode cX5_doneIn 27 = .ok (.sipush 200, 3) := by decide +kernel
theorem dX5_doneIn_30 : decode cX5_doneIn 30 = .ok (.if_icmp .gt 30, 3) := by decide +kernel
theorem dX5_doneIn_33 : decode cX5_doneIn 33 = .ok (.aload_n 0, 1) := by decide +kernel
theorem dX5_doneIn_34 : decode cX5_doneIn 34 = .ok (.getfield 16, 3) := by decide +kernel
theorem dX5_doneIn_37 : decode cX5_doneIn 37 = .ok (.invokevirtual 69, 3) := by decide +kernel
theorem dX5_doneIn_40 : decode cX5_doneIn 40 = .ok (.ifCond .ne 5, 3) := by decide +kernel
theorem dX5_doneIn_43 : decode cX5_doneIn 43 = .ok (.iload_n 1, 1) := by decide +kernel
theorem dX5_doneIn_44 : decode cX5_doneIn 44 = .ok (.ireturn, 1) := by decide +kernel
theorem dX5_doneIn_45 : decode cX5_doneIn 45 = .ok (.aload_n 0, 1) := by decide +kernel
theorem dX5_doneIn_46 : decode cX5_doneIn 46 = .ok (.aload_n 0, 1) := by decide +kernel
theorem dX5_doneIn_47 : decode cX5_doneIn 47 = .ok (.getfield 16, 3) := by decide +kernel
theorem dX5_doneIn_50 : decode cX5_doneIn 50 = .ok (.invokevirtual 110, 3) := by decide +kernel
theorem dX5_doneIn_53 : decode cX5_doneIn 53 = .ok (.pop, 1) := by decide +kernel
theorem dX5_doneIn_54 : decode cX5_doneIn 54 = .ok (.iinc 1 1, 3) := by decide +kernel
theorem dX5_doneIn_57 : decode cX5_doneIn 57 = .ok (.goto (-31), 3) := by decide +kernel
theorem dX5_doneIn_60 : decode cX5_doneIn 60 = .ok (.bipush (-5), 2) := by decide +kernel
theorem dX5_doneIn_62 : decode cX5_doneIn 62 = .ok (.ireturn, 1) := by decide +kernel
set_option maxRecDepth 20000 in
theorem ggX5_bestLink_X5_greatestSize : GoodIn wsX5_bestLink wsX5_greatestSize := goodIn_r _ [7, 8, 9, 10, 11, 12, 13, 14, 15, 16, 17, 18, 19, 20, 21, 22, 23, 24, 25, 26, 27, 28, 29, 30, 31, 6, 32, 33, 34, 35, 36, 37, 38, 39, 40, 41, 42, 43, 44, 45, 46, 47, 48, 49, 50, 51, 52, 53, 54, 55, 56, 57, 58, 59, 60, 61, 62, 63, 64, 65, 66, 67, 68, 69, 70, 87, 88, 89, 90, 91, 92, 93, 94, 95, 96, 97, 98, 99, 100] (by decide +kernel) (by decide +kernel)
set_option maxRecDepth 20000 in
theorem gX5_bestLink_X5_greatestSize : GoodIn wsX5_bestLink (wsV RX5 187 RX5 yX5_greatestSize wsX5_greatestSize) := goodIn_app (goodIn_of _ (by decide +kernel)) ggX5_bestLink_X5_greatestSize
set_option maxRecDepth 20000 in
theorem ggX5_bestLink_X0_copyFrom : GoodIn wsX5_bestLink wsX0_copyFrom := goodIn_r _ [74, 30, 75, 76, 77, 78, 100] (by decide +kernel) (by decide +kernel)
set_option maxRecDepth 20000 in
theorem gX5_bestLink_X0_copyFrom : GoodIn wsX5_bestLink (wsV RX5 144 RX0 yX0_copyFrom wsX0_copyFrom) := goodIn_app (goodIn_of _ (by decide +kernel)) ggX5_bestLink_X0_copyFrom
set_option maxRecDepth 20000 in
theorem ggX5_bestLink_X0_areLinked : GoodIn wsX5_bestLink wsX0_areLinked := goodIn_r _ [82, 30, 31, 6, 32, 100] (by decide +kernel) (by decide +kernel)
set_option maxRecDepth 20000 in
theorem gX5_bestLink_X0_areLinked : GoodIn wsX5_bestLink (wsV RX5 88 RX0 yX0_areLinked wsX0_areLinked) := goodIn_app (goodIn_of _ (by decide +kernel)) ggX5_bestLink_X0_areLinked
set_option maxRecDepth 20000 in
theorem ggX5_bestLink_X0_setLinked : GoodIn wsX5_bestLink wsX0_setLinked := goodIn_r _ [86, 30, 100] (by decide +kernel) (by decide +kernel)
set_option maxRecDepth 20000 in
theorem gX5_bestLink_X0_setLinked : GoodIn wsX5_bestLink (wsV RX5 95 RX0 yX0_setLinked wsX0_setLinked) := goodIn_app (goodIn_of _ (by decide +kernel)) ggX5_bestLink_X0_setLinked
theorem dX5_bestLink_0 : decode cX5_bestLink 0 = .ok (.aload_n 0, 1) := by decide +kernel
theorem dX5_bestLink_1 : decode cX5_bestLink 1 = .ok (.aload_n 0, 1) := by decide +kernel
theorem dX5_bestLink_2 : decode cX5_bestLink 2 = .ok (.getfield 12, 3) := by decide +kernel
theorem dX5_bestLink_5 : decode cX5_bestLink 5 = .ok (.invokevirtual 187, 3) := by decide +kernel
theorem dX5_bestLink_8 : decode cX5_bestLink 8 = .ok (.istore_n 1, 1) := by decide +kernel
theorem dX5_bestLink_9 : decode cX5_bestLink 9 = .ok (.bipush (-5), 2) := by decide +kernel
theorem dX5_bestLink_11 : decode cX5_bestLink 11 = .ok (.istore_n 2, 1) := by decide +kernel
theorem dX5_bestLink_12 : decode cX5_bestLink 12 = .ok (.aload_n 0, 1) := by decide +kernel
theorem dX5_bestLink_13 : decode cX5_bestLink 13 = .ok (.getfield 16, 3) := by decide +kernel
theorem dX5_bestLink_16 : decode cX5_bestLink 16 = .ok (.aload_n 0, 1) := by decide +kernel
theorem dX5_bestLink_17 : decode cX5_bestLink 17 = .ok (.getfield 12, 3) := by decide +kernel
theorem dX5_bestLink_20 : decode cX5_bestLink 20 = .ok (.invokevirtual 144, 3) := by decide +kernel
theorem dX5_bestLink_23 : decode cX5_bestLink 23 = .ok (.iconst 0, 1) := by decide +kernel
theorem dX5_bestLink_24 : decode cX5_bestLink 24 = .ok (.istore_n 3, 1) := by decide +kernel
theorem dX5_bestLink_25 : decode cX5_bestLink 25 = .ok (.iload_n 3, 1) := by decide +kernel
theorem dX5_bestLink_26 : decode cX5_bestLink 26 = .ok (.iconst 4, 1) := by decide +kernel
theorem dX5_bestLink_27 : decode cX5_bestLink 27 = .ok (.if_icmp .ge 88, 3) := by decide +kernel
theorem dX5_bestLink_30 : decode cX5_bestLink 30 = .ok (.iconst 0, 1) := by decide +kernel
theorem dX5_bestLink_31 : decode cX5_bestLink 31 = .ok (.istore 4, 2) := by decide +kernel
theorem dX5_bestLink_33 : decode cX5_bestLink 33 = .ok (.iload 4, 2) := by decide +kernel
theorem dX5_bestLink_35 : decode cX5_bestLink 35 = .ok (.iconst 4, 1) := by decide +kernel
theorem dX5_bestLink_36 : decode cX5_bestLink 36 = .ok (.if_icmp .ge 73, 3) := by decide +kernel
theorem dX5_bestLink_39 : decode cX5_bestLink 39 = .ok (.aload_n 0, 1) := by decide +kernel
theorem dX5_bestLink_40 : decode cX5_bestLink 40 = .ok (.getfield 12, 3) := by decide +kernel
theorem dX5_bestLink_43 : decode cX5_bestLink 43 = .ok (.iload_n 3, 1) := by decide +kernel
theorem dX5_bestLink_44 : decode cX5_bestLink 44 = .ok (.iload 4, 2) := by decide +kernel
theorem dX5_bestLink_46 : decode cX5_bestLink 46 = .ok (.invokevirtual 88, 3) := by decide +kernel
theorem dX5_bestLink_49 : decode cX5_bestLink 49 = .ok (.ifCond .eq 6, 3) := by decide +kernel
theorem dX5_bestLink_52 : decode cX5_bestLink 52 = .ok (.goto 51, 3) := by decide +kernel
theorem dX5_bestLink_55 : decode cX5_bestLink 55 = .ok (.aload_n 0, 1) := by decide +kernel
theorem dX5_bestLink_56 : decode cX5_bestLink 56 = .ok (.getfield 16, 3) := by decide +kernel
theorem dX5_bestLink_59 : decode cX5_bestLink 59 = .ok (.iload_n 3, 1) := by decide +kernel
theorem dX5_bestLink_60 : decode cX5_bestLink 60 = .ok (.iload 4, 2) := by decide +kernel
theorem dX5_bestLink_62 : decode cX5_bestLink 62 = .ok (.iconst 1, 1) := by decide +kernel
theorem dX5_bestLink_63 : decode cX5_bestLink 63 = .ok (.invokevirtual 95, 3) := by decide +kernel
theorem dX5_bestLink_66 : decode cX5_bestLink 66 = .ok (.aload_n 0, 1) := by decide +kernel
theorem dX5_bestLink_67 : decode cX5_bestLink 67 = .ok (.aload_n 0, 1) := by decide +kernel
theorem dX5_bestLink_68 : decode cX5_bestLink 68 = .ok (.getfield 16, 3) := by decide +kernel
theorem dX5_bestLink_71 : decode cX5_bestLink 71 = .ok (.invokevirtual 187, 3) := by decide +kernel
theorem dX5_bestLink_74 : decode cX5_bestLink 74 = .ok (.istore 5, 2) := by decide +kernel
theorem dX5_bestLink_76 : decode cX5_bestLink 76 = .ok (.aload_n 0, 1) := by decide +kernel
theorem dX5_bestLink_77 : decode cX5_bestLink 77 = .ok (.getfield 16, 3) := by decide +kernel
theorem dX5_bestLink_80 : decode cX5_bestLink 80 = .ok (.iload_n 3, 1) := by decide +kernel
theorem dX5_bestLink_81 : decode cX5_bestLink 81 = .ok (.iload 4, 2) := by decide +kernel
theorem dX5_bestLink_83 : decode cX5_bestLink 83 = .ok (.iconst 0, 1) := by decide +kernel
theorem dX5_bestLink_84 : decode cX5_bestLink 84 = .ok (.invokevirtual 95, 3) := by decide +kernel
theorem dX5_bestLink_87 : decode cX5_bestLink 87 = .ok (.iload 5, 2) := by decide +kernel
theorem dX5_bestLink_89 : decode cX5_bestLink 89 = .ok (.iload_n 1, 1) := by decide +kernel
theorem dX5_bestLink_90 : decode cX5_bestLink 90 = .ok (.if_icmp .le 13, 3) := by decide +kernel
theorem dX5_bestLink_93 : decode cX5_bestLink 93 = .ok (.iload 5, 2) := by decide +kernel
theorem dX5_bestLink_95 : decode cX5_bestLink 95 = .ok (.istore_n 1, 1) := by decide +kernel
theorem dX5_bestLink_96 : decode cX5_bestLink 96 = .ok (.iconst 4, 1) := by decide +kernel
theorem dX5_bestLink_97 : decode cX5_bestLink 97 = .ok (.iload_n 3, 1) := by decide +kernel
theorem dX5_bestLink_98 : decode cX5_bestLink 98 = .ok (.imul, 1) := by decide +kernel
theorem dX5_bestLink_99 : decode cX5_bestLink 99 = .ok (.iload 4, 2) := by decide +kernel
theorem dX5_bestLink_101 : decode cX5_bestLink 101 = .ok (.iadd, 1) := by decide +kernel
theorem dX5_bestLink_102 : decode cX5_bestLink 102 = .ok (.istore_n 2, 1) := by decide +kernel
theorem dX5_bestLink_103 : decode cX5_bestLink 103 = .ok (.iinc 4 1, 3) := by decide +kernel
theorem dX5_bestLink_106 : decode cX5_bestLink 106 = .ok (.goto (-73), 3) := by decide +kernel
theorem dX5_bestLink_109 : decode cX5_bestLink 109 = .ok (.iinc 3 1, 3) := by decide +kernel
theorem dX5_bestLink_112 : decode cX5_bestLink 112 = .ok (.goto (-87), 3) := by decide +kernel
theorem dX5_bestLink_115 : decode cX5_bestLink 115 = .ok (.iload_n 2, 1) := by decide +kernel
theorem dX5_bestLink_116 : decode cX5_bestLink 116 = .ok (.ireturn, 1) := by decide +kernel
set_option maxRecDepth 20000 in
theorem ggX5_mean_X0_roundsSoFar : GoodIn wsX5_mean wsX0_roundsSoFar := goodIn_r _ [6, 7, 57] (by decide +kernel) (by decide +kernel)
set_option maxRecDepth 20000 in
theorem gX5_mean_X0_roundsSoFar : GoodIn wsX5_mean (wsV RX5 184 RX0 yX0_roundsSoFar wsX0_roundsSoFar) := goodIn_app (goodIn_of _ (by decide +kernel)) ggX5_mean_X0_roundsSoFar
set_option maxRecDepth 20000 in
theorem ggX5_mean_X0_amountOfAll : GoodIn wsX5_mean wsX0_amountOfAll := goodIn_r _ [11, 12, 13, 14, 5, 15, 16, 17, 18, 19, 20, 21, 22, 23, 7, 24, 25, 26, 27, 28, 29, 30, 31, 32, 33, 34, 35, 36, 37, 38, 39, 40, 41, 42, 43, 44, 45, 46, 47, 48, 57] (by decide +kernel) (by decide +kernel)
set_option maxRecDepth 20000 in
theorem gX5_mean_X0_amountOfAll : GoodIn wsX5_mean (wsV RX5 178 RX0 yX0_amountOfAll wsX0_amountOfAll) := goodIn_app (goodIn_of _ (by decide +kernel)) ggX5_mean_X0_amountOfAll
theorem dX5_mean_0 : decode cX5_mean 0 = .ok (.aload_n 0, 1) := by decide +kernel
theorem dX5_mean_1 : decode cX5_mean 1 = .ok (.getfield 12, 3) := by decide +kernel
theorem dX5_mean_4 : decode cX5_mean 4 = .ok (.invokevirtual 184, 3) := by decide +kernel
theorem dX5_mean_7 : decode cX5_mean 7 = .ok (.istore_n 1, 1) := by decide +kernel
theorem dX5_mean_8 : decode cX5_mean 8 = .ok (.iload_n 1, 1) := by decide +kernel
theorem dX5_mean_9 : decode cX5_mean 9 = .ok (.ifCond .ne 5, 3) := by decide +kernel
theorem dX5_mean_12 : decode cX5_mean 12 = .ok (.dconst 0, 1) := by decide +kernel
theorem dX5_mean_13 : decode cX5_mean 13 = .ok (.dreturn, 1) := by decide +kernel
theorem dX5_mean_14 : decode cX5_mean 14 = .ok (.aload_n 0, 1) := by decide +kernel
theorem dX5_mean_15 : decode cX5_mean 15 = .ok (.getfield 12, 3) := by decide +kernel
theorem dX5_mean_18 : decode cX5_mean 18 = .ok (.iconst 4, 1) := by decide +kernel
theorem dX5_mean_19 : decode cX5_mean 19 = .ok (.invokevirtual 178, 3) := by decide +kernel
theorem dX5_mean_22 : decode cX5_mean 22 = .ok (.i2d, 1) := by decide +kernel
theorem dX5_mean_23 : decode cX5_mean 23 = .ok (.iload_n 1, 1) := by decide +kernel
theorem dX5_mean_24 : decode cX5_mean 24 = .ok (.i2d, 1) := by decide +kernel
theorem dX5_mean_25 : decode cX5_mean 25 = .ok (.ddiv, 1) := by decide +kernel
theorem dX5_mean_26 : decode cX5_mean 26 = .ok (.dreturn, 1) := by decide +kernel
theorem dX5_isPerson_0 : decode cX5_isPerson 0 = .ok (.iload_n 0, 1) := by decide +kernel
theorem dX5_isPerson_1 : decode cX5_isPerson 1 = .ok (.ifCond .lt 13, 3) := by decide +kernel
theorem dX5_isPerson_4 : decode cX5_isPerson 4 = .ok (.iload_n 0, 1) := by decide +kernel
theorem dX5_isPerson_5 : decode cX5_isPerson 5 = .ok (.bipush 8, 2) := by decide +kernel
theorem dX5_isPerson_7 : decode cX5_isPerson 7 = .ok (.if_icmp .ge 7, 3) := by decide +kernel
theorem dX5_isPerson_10 : decode cX5_isPerson 10 = .ok (.iconst 1, 1) := by decide +kernel
theorem dX5_isPerson_11 : decode cX5_isPerson 11 = .ok (.goto 4, 3) := by decide +kernel
theorem dX5_isPerson_14 : decode cX5_isPerson 14 = .ok (.iconst 0, 1) := by decide +kernel
theorem dX5_isPerson_15 : decode cX5_isPerson 15 = .ok (.ireturn, 1) := by decide +kernel
set_option maxRecDepth 20000 in
theorem ggX5_arePeople_X5_isPerson : GoodIn wsX5_arePeople wsX5_isPerson := goodIn_r _ [4] (by decide +kernel) (by decide +kernel)
set_option maxRecDepth 20000 in
theorem gX5_arePeople_X5_isPerson : GoodIn wsX5_arePeople (va_wsS RX5 99 yX5_isPerson wsX5_isPerson) := goodIn_app (goodIn_of _ (by decide +kernel)) ggX5_arePeople_X5_isPerson
theorem dX5_arePeople_0 : decode cX5_arePeople 0 = .ok (.iload_n 0, 1) := by decide +kernel
theorem dX5_arePeople_1 : decode cX5_arePeople 1 = .ok (.invokestatic 99, 3) := by decide +kernel
theorem dX5_arePeople_4 : decode cX5_arePeople 4 = .ok (.ifCond .eq 14, 3) := by decide +kernel
theorem dX5_arePeople_7 : decode cX5_arePeople 7 = .ok (.iload_n 1, 1) := by decide +kernel
theorem dX5_arePeople_8 : decode cX5_arePeople 8 = .ok (.invokestatic 99, 3) := by decide +kernel
theorem dX5_arePeople_11 : decode cX5_arePeople 11 = .ok (.ifCond .eq 7, 3) := by decide +kernel
theorem dX5_arePeople_14 : decode cX5_arePeople 14 = .ok (.iconst 1, 1) := by decide +kernel
theorem dX5_arePeople_15 : decode cX5_arePeople 15 = .ok (.goto 4, 3) := by decide +kernel
theorem dX5_arePeople_18 : decode cX5_arePeople 18 = .ok (.iconst 0, 1) := by decide +kernel
theorem dX5_arePeople_19 : decode cX5_arePeople 19 = .ok (.ireturn, 1) := by decide +kernel
theorem dX5_isGate_0 : decode cX5_isGate 0 = .ok (.iload_n 0, 1) := by decide +kernel
theorem dX5_isGate_1 : decode cX5_isGate 1 = .ok (.ifCond .lt 12, 3) := by decide +kernel
theorem dX5_isGate_4 : decode cX5_isGate 4 = .ok (.iload_n 0, 1) := by decide +kernel
theorem dX5_isGate_5 : decode cX5_isGate 5 = .ok (.iconst 4, 1) := by decide +kernel
theorem dX5_isGate_6 : decode cX5_isGate 6 = .ok (.if_icmp .ge 7, 3) := by decide +kernel
theorem dX5_isGate_9 : decode cX5_isGate 9 = .ok (.iconst 1, 1) := by decide +kernel
theorem dX5_isGate_10 : decode cX5_isGate 10 = .ok (.goto 4, 3) := by decide +kernel
theorem dX5_isGate_13 : decode cX5_isGate 13 = .ok (.iconst 0, 1) := by decide +kernel
theorem dX5_isGate_14 : decode cX5_isGate 14 = .ok (.ireturn, 1) := by decide +kernel
theorem dX5_asNumber_0 : decode cX5_asNumber 0 = .ok (.iload_n 0, 1) := by decide +kernel
theorem dX5_asNumber_1 : decode cX5_asNumber 1 = .ok (.ifCond .eq 7, 3) := by decide +kernel
theorem dX5_asNumber_4 : decode cX5_asNumber 4 = .ok (.iconst 1, 1) := by decide +kernel
theorem dX5_asNumber_5 : decode cX5_asNumber 5 = .ok (.goto 4, 3) := by decide +kernel
theorem dX5_asNumber_8 : decode cX5_asNumber 8 = .ok (.iconst 0, 1) := by decide +kernel
theorem dX5_asNumber_9 : decode cX5_asNumber 9 = .ok (.ireturn, 1) := by decide +kernel
theorem dX5_hasBit_0 : decode cX5_hasBit 0 = .ok (.iload_n 0, 1) := by decide +kernel
theorem dX5_hasBit_1 : decode cX5_hasBit 1 = .ok (.iload_n 1, 1) := by decide +kernel
theorem dX5_hasBit_2 : decode cX5_hasBit 2 = .ok (.ishr, 1) := by decide +kernel
theorem dX5_hasBit_3 : decode cX5_hasBit 3 = .ok (.iconst 1, 1) := by decide +kernel
theorem dX5_hasBit_4 : decode cX5_hasBit 4 = .ok (.iand, 1) := by decide +kernel
theorem dX5_hasBit_5 : decode cX5_hasBit 5 = .ok (.iconst 1, 1) := by decide +kernel
theorem dX5_hasBit_6 : decode cX5_hasBit 6 = .ok (.if_icmp .ne 7, 3) := by decide +kernel
theorem dX5_hasBit_9 : decode cX5_hasBit 9 = .ok (.iconst 1, 1) := by decide +kernel
theorem dX5_hasBit_10 : decode cX5_hasBit 10 = .ok (.goto 4, 3) := by decide +kernel
theorem dX5_hasBit_13 : decode cX5_hasBit 13 = .ok (.iconst 0, 1) := by decide +kernel
theorem dX5_hasBit_14 : decode cX5_hasBit 14 = .ok (.ireturn, 1) := by decide +kernel
set_option maxRecDepth 20000 in
theorem ggX5_makeRound_X2_takeFirst : GoodIn wsX5_makeRound wsX2_takeFirst := goodIn_r _ [6, 7, 8, 9, 10, 11, 5, 12, 13, 14, 15, 16, 17, 18, 19, 20, 21, 22, 23, 24, 25, 26, 27, 28, 29, 30, 31, 32, 33, 34, 35, 36, 37, 38, 39, 40, 41, 42, 43, 44, 45, 46, 47, 48, 49, 50, 51, 52, 53, 54, 55, 56, 57, 58, 59, 60, 61, 62, 63, 64, 65, 66, 98, 99, 100, 101, 102, 103] (by decide +kernel) (by decide +kernel)
set_option maxRecDepth 20000 in
theorem gX5_makeRound_X2_takeFirst : GoodIn wsX5_makeRound (wsV RX5 160 RX2 yX2_takeFirst wsX2_takeFirst) := goodIn_app (goodIn_of _ (by decide +kernel)) ggX5_makeRound_X2_takeFirst
set_option maxRecDepth 20000 in
theorem ggX5_makeRound_X2_partnerOf : GoodIn wsX5_makeRound wsX2_partnerOf := goodIn_r _ [70, 7, 13, 98, 99, 100, 101, 102] (by decide +kernel) (by decide +kernel)
set_option maxRecDepth 20000 in
theorem gX5_makeRound_X2_partnerOf : GoodIn wsX5_makeRound (wsV RX5 163 RX2 yX2_partnerOf wsX2_partnerOf) := goodIn_app (goodIn_of _ (by decide +kernel)) ggX5_makeRound_X2_partnerOf
set_option maxRecDepth 20000 in
theorem ggX5_makeRound_X5_isPerson : GoodIn wsX5_makeRound wsX5_isPerson := goodIn_r _ [58] (by decide +kernel) (by decide +kernel)
set_option maxRecDepth 20000 in
theorem gX5_makeRound_X5_isPerson : GoodIn wsX5_makeRound (va_wsS RX5 99 yX5_isPerson wsX5_isPerson) := goodIn_app (goodIn_of _ (by decide +kernel)) ggX5_makeRound_X5_isPerson
set_option maxRecDepth 20000 in
theorem ggX5_makeRound_X0_shakeHands : GoodIn wsX5_makeRound wsX0_shakeHands := goodIn_r _ [75, 27, 76, 77, 78, 21, 79, 103] (by decide +kernel) (by decide +kernel)
set_option maxRecDepth 20000 in
theorem gX5_makeRound_X0_shakeHands : GoodIn wsX5_makeRound (wsV RX5 196 RX0 yX0_shakeHands wsX0_shakeHands) := goodIn_app (goodIn_of _ (by decide +kernel)) ggX5_makeRound_X0_shakeHands
set_option maxRecDepth 20000 in
theorem ggX5_makeRound_X0_endRound : GoodIn wsX5_makeRound wsX0_endRound := goodIn_r _ [83, 27, 103] (by decide +kernel) (by decide +kernel)
set_option maxRecDepth 20000 in
theorem gX5_makeRound_X0_endRound : GoodIn wsX5_makeRound (wsV RX5 199 RX0 yX0_endRound wsX0_endRound) := goodIn_app (goodIn_of _ (by decide +kernel)) ggX5_makeRound_X0_endRound
set_option maxRecDepth 20000 in
theorem ggX5_makeRound_X2_size : GoodIn wsX5_makeRound wsX2_size := goodIn_r _ [87, 7, 88, 29, 89, 98, 99, 100, 101, 102] (by decide +kernel) (by decide +kernel)
set_option maxRecDepth 20000 in
theorem gX5_makeRound_X2_size : GoodIn wsX5_makeRound (wsV RX5 202 RX2 yX2_size wsX2_size) := goodIn_app (goodIn_of _ (by decide +kernel)) ggX5_makeRound_X2_size
theorem dX5_makeRound_0 : decode cX5_makeRound 0 = .ok (.aload_n 0, 1) := by decide +kernel
theorem dX5_makeRound_1 : decode cX5_makeRound 1 = .ok (.getfield 39, 3) := by decide +kernel
theorem dX5_makeRound_4 : decode cX5_makeRound 4 = .ok (.aload_n 1, 1) := by decide +kernel
theorem dX5_makeRound_5 : decode cX5_makeRound 5 = .ok (.invokevirtual 160, 3) := by decide +kernel
theorem dX5_makeRound_8 : decode cX5_makeRound 8 = .ok (.iconst 0, 1) := by decide +kernel
theorem dX5_makeRound_9 : decode cX5_makeRound 9 = .ok (.istore_n 2, 1) := by decide +kernel
theorem dX5_makeRound_10 : decode cX5_makeRound 10 = .ok (.iload_n 2, 1) := by decide +kernel
theorem dX5_makeRound_11 : decode cX5_makeRound 11 = .ok (.bipush 8, 2) := by decide +kernel
theorem dX5_makeRound_13 : decode cX5_makeRound 13 = .ok (.if_icmp .ge 32, 3) := by decide +kernel
theorem dX5_makeRound_16 : decode cX5_makeRound 16 = .ok (.aload_n 0, 1) := by decide +kernel
theorem dX5_makeRound_17 : decode cX5_makeRound 17 = .ok (.getfield 39, 3) := by decide +kernel
theorem dX5_makeRound_20 : decode cX5_makeRound 20 = .ok (.iconst 1, 1) := by decide +kernel
theorem dX5_makeRound_21 : decode cX5_makeRound 21 = .ok (.iload_n 2, 1) := by decide +kernel
theorem dX5_makeRound_22 : decode cX5_makeRound 22 = .ok (.invokevirtual 163, 3) := by decide +kernel
theorem dX5_makeRound_25 : decode cX5_makeRound 25 = .ok (.istore_n 3, 1) := by decide +kernel
theorem dX5_makeRound_26 : decode cX5_makeRound 26 = .ok (.iload_n 3, 1) := by decide +kernel
theorem dX5_makeRound_27 : decode cX5_makeRound 27 = .ok (.invokestatic 99, 3) := by decide +kernel
theorem dX5_makeRound_30 : decode cX5_makeRound 30 = .ok (.ifCond .eq 9, 3) := by decide +kernel
theorem dX5_makeRound_33 : decode cX5_makeRound 33 = .ok (.aload_n 1, 1) := by decide +kernel
theorem dX5_makeRound_34 : decode cX5_makeRound 34 = .ok (.iload_n 2, 1) := by decide +kernel
theorem dX5_makeRound_35 : decode cX5_makeRound 35 = .ok (.iload_n 3, 1) := by decide +kernel
theorem dX5_makeRound_36 : decode cX5_makeRound 36 = .ok (.invokevirtual 196, 3) := by decide +kernel
theorem dX5_makeRound_39 : decode cX5_makeRound 39 = .ok (.iinc 2 1, 3) := by decide +kernel
theorem dX5_makeRound_42 : decode cX5_makeRound 42 = .ok (.goto (-32), 3) := by decide +kernel
theorem dX5_makeRound_45 : decode cX5_makeRound 45 = .ok (.aload_n 1, 1) := by decide +kernel
theorem dX5_makeRound_46 : decode cX5_makeRound 46 = .ok (.invokevirtual 199, 3) := by decide +kernel
theorem dX5_makeRound_49 : decode cX5_makeRound 49 = .ok (.aload_n 0, 1) := by decide +kernel
theorem dX5_makeRound_50 : decode cX5_makeRound 50 = .ok (.getfield 39, 3) := by decide +kernel
theorem dX5_makeRound_53 : decode cX5_makeRound 53 = .ok (.invokevirtual 202, 3) := by decide +kernel
theorem dX5_makeRound_56 : decode cX5_makeRound 56 = .ok (.ireturn, 1) := by decide +kernel
set_option maxRecDepth 20000 in
theorem ggX5_reasonAgainst_X0_hasWish : GoodIn wsX5_reasonAgainst wsX0_hasWish := goodIn_r _ [7, 8, 9, 10, 11, 83] (by decide +kernel) (by decide +kernel)
set_option maxRecDepth 20000 in
theorem gX5_reasonAgainst_X0_hasWish : GoodIn wsX5_reasonAgainst (wsV RX5 58 RX0 yX0_hasWish wsX0_hasWish) := goodIn_app (goodIn_of _ (by decide +kernel)) ggX5_reasonAgainst_X0_hasWish
set_option maxRecDepth 20000 in
theorem ggX5_reasonAgainst_X0_areAtLinkedGates : GoodIn wsX5_reasonAgainst wsX0_areAtLinkedGates := goodIn_r _ [15, 8, 83] (by decide +kernel) (by decide +kernel)
set_option maxRecDepth 20000 in
theorem gX5_reasonAgainst_X0_areAtLinkedGates : GoodIn wsX5_reasonAgainst (wsV RX5 203 RX0 yX0_areAtLinkedGates wsX0_areAtLinkedGates) := goodIn_app (goodIn_of _ (by decide +kernel)) ggX5_reasonAgainst_X0_areAtLinkedGates
set_option maxRecDepth 20000 in
theorem ggX5_reasonAgainst_X0_feudOf : GoodIn wsX5_reasonAgainst wsX0_feudOf := goodIn_r _ [19, 8, 83] (by decide +kernel) (by decide +kernel)
set_option maxRecDepth 20000 in
theorem gX5_reasonAgainst_X0_feudOf : GoodIn wsX5_reasonAgainst (wsV RX5 76 RX0 yX0_feudOf wsX0_feudOf) := goodIn_app (goodIn_of _ (by decide +kernel)) ggX5_reasonAgainst_X0_feudOf
set_option maxRecDepth 20000 in
theorem ggX5_reasonAgainst_X2_takeFirst : GoodIn wsX5_reasonAgainst wsX2_takeFirst := goodIn_r _ [24, 25, 26, 27, 28, 29, 23, 30, 31, 32, 33, 34, 35, 36, 37, 38, 6, 39, 40, 4, 5, 7, 8, 9, 10, 11, 41, 42, 43, 44, 45, 17, 18, 19, 46, 13, 14, 15, 47, 48, 49, 50, 51, 52, 53, 54, 55, 56, 57, 58, 59, 60, 61, 62, 63, 64, 65, 66, 67, 68, 69, 70, 84, 85, 86, 87, 88, 83] (by decide +kernel) (by decide +kernel)
set_option maxRecDepth 20000 in
theorem gX5_reasonAgainst_X2_takeFirst : GoodIn wsX5_reasonAgainst (wsV RX5 160 RX2 yX2_takeFirst wsX2_takeFirst) := goodIn_app (goodIn_of _ (by decide +kernel)) ggX5_reasonAgainst_X2_takeFirst
set_option maxRecDepth 20000 in
theorem ggX5_reasonAgainst_X2_partnerOf : GoodIn wsX5_reasonAgainst wsX2_partnerOf := goodIn_r _ [74, 25, 31, 84, 85, 86, 87, 88] (by decide +kernel) (by decide +kernel)
set_option maxRecDepth 20000 in
theorem gX5_reasonAgainst_X2_partnerOf : GoodIn wsX5_reasonAgainst (wsV RX5 163 RX2 yX2_partnerOf wsX2_partnerOf) := goodIn_app (goodIn_of _ (by decide +kernel)) ggX5_reasonAgainst_X2_partnerOf
theorem dX5_reasonAgainst_0 : decode cX5_reasonAgainst 0 = .ok (.aload_n 0, 1) := by decide +kernel
theorem dX5_reasonAgainst_1 : decode cX5_reasonAgainst 1 = .ok (.getfield 12, 3) := by decide +kernel
theorem dX5_reasonAgainst_4 : decode cX5_reasonAgainst 4 = .ok (.iload_n 1, 1) := by decide +kernel
theorem dX5_reasonAgainst_5 : decode cX5_reasonAgainst 5 = .ok (.iload_n 2, 1) := by decide +kernel
theorem dX5_reasonAgainst_6 : decode cX5_reasonAgainst 6 = .ok (.invokevirtual 58, 3) := by decide +kernel
theorem dX5_reasonAgainst_9 : decode cX5_reasonAgainst 9 = .ok (.ifCond .ne 5, 3) := by decide +kernel
theorem dX5_reasonAgainst_12 : decode cX5_reasonAgainst 12 = .ok (.iconst 1, 1) := by decide +kernel
theorem dX5_reasonAgainst_13 : decode cX5_reasonAgainst 13 = .ok (.ireturn, 1) := by decide +kernel
theorem dX5_reasonAgainst_14 : decode cX5_reasonAgainst 14 = .ok (.aload_n 0, 1) := by decide +kernel
theorem dX5_reasonAgainst_15 : decode cX5_reasonAgainst 15 = .ok (.getfield 12, 3) := by decide +kernel
theorem dX5_reasonAgainst_18 : decode cX5_reasonAgainst 18 = .ok (.iload_n 1, 1) := by decide +kernel
theorem dX5_reasonAgainst_19 : decode cX5_reasonAgainst 19 = .ok (.iload_n 2, 1) := by decide +kernel
theorem dX5_reasonAgainst_20 : decode cX5_reasonAgainst 20 = .ok (.invokevirtual 203, 3) := by decide +kernel
theorem dX5_reasonAgainst_23 : decode cX5_reasonAgainst 23 = .ok (.ifCond .ne 5, 3) := by decide +kernel
theorem dX5_reasonAgainst_26 : decode cX5_reasonAgainst 26 = .ok (.iconst 2, 1) := by decide +kernel
theorem dX5_reasonAgainst_27 : decode cX5_reasonAgainst 27 = .ok (.ireturn, 1) := by decide +kernel
theorem dX5_reasonAgainst_28 : decode cX5_reasonAgainst 28 = .ok (.aload_n 0, 1) := by decide +kernel
theorem dX5_reasonAgainst_29 : decode cX5_reasonAgainst 29 = .ok (.getfield 12, 3) := by decide +kernel
theorem dX5_reasonAgainst_32 : decode cX5_reasonAgainst 32 = .ok (.iload_n 1, 1) := by decide +kernel
theorem dX5_reasonAgainst_33 : decode cX5_reasonAgainst 33 = .ok (.iload_n 2, 1) := by decide +kernel
theorem dX5_reasonAgainst_34 : decode cX5_reasonAgainst 34 = .ok (.invokevirtual 76, 3) := by decide +kernel
theorem dX5_reasonAgainst_37 : decode cX5_reasonAgainst 37 = .ok (.ifCond .le 5, 3) := by decide +kernel
theorem dX5_reasonAgainst_40 : decode cX5_reasonAgainst 40 = .ok (.iconst 3, 1) := by decide +kernel
theorem dX5_reasonAgainst_41 : decode cX5_reasonAgainst 41 = .ok (.ireturn, 1) := by decide +kernel
theorem dX5_reasonAgainst_42 : decode cX5_reasonAgainst 42 = .ok (.aload_n 0, 1) := by decide +kernel
theorem dX5_reasonAgainst_43 : decode cX5_reasonAgainst 43 = .ok (.getfield 39, 3) := by decide +kernel
theorem dX5_reasonAgainst_46 : decode cX5_reasonAgainst 46 = .ok (.aload_n 0, 1) := by decide +kernel
theorem dX5_reasonAgainst_47 : decode cX5_reasonAgainst 47 = .ok (.getfield 12, 3) := by decide +kernel
theorem dX5_reasonAgainst_50 : decode cX5_reasonAgainst 50 = .ok (.invokevirtual 160, 3) := by decide +kernel
theorem dX5_reasonAgainst_53 : decode cX5_reasonAgainst 53 = .ok (.aload_n 0, 1) := by decide +kernel
theorem dX5_reasonAgainst_54 : decode cX5_reasonAgainst 54 = .ok (.getfield 39, 3) := by decide +kernel
theorem dX5_reasonAgainst_57 : decode cX5_reasonAgainst 57 = .ok (.iconst 1, 1) := by decide +kernel
theorem dX5_reasonAgainst_58 : decode cX5_reasonAgainst 58 = .ok (.iload_n 1, 1) := by decide +kernel
theorem dX5_reasonAgainst_59 : decode cX5_reasonAgainst 59 = .ok (.invokevirtual 163, 3) := by decide +kernel
theorem dX5_reasonAgainst_62 : decode cX5_reasonAgainst 62 = .ok (.iload_n 2, 1) := by decide +kernel
theorem dX5_reasonAgainst_63 : decode cX5_reasonAgainst 63 = .ok (.if_icmp .ne 7, 3) := by decide +kernel
theorem dX5_reasonAgainst_66 : decode cX5_reasonAgainst 66 = .ok (.iconst 0, 1) := by decide +kernel
theorem dX5_reasonAgainst_67 : decode cX5_reasonAgainst 67 = .ok (.goto 4, 3) := by decide +kernel
theorem dX5_reasonAgainst_70 : decode cX5_reasonAgainst 70 = .ok (.iconst 4, 1) := by decide +kernel
theorem dX5_reasonAgainst_71 : decode cX5_reasonAgainst 71 = .ok (.ireturn, 1) := by decide +kernel
set_option maxRecDepth 20000 in
theorem ggX5_greatestSize_X2_takeGreatest : GoodIn wsX5_greatestSize wsX2_takeGreatest := goodIn_r _ [6, 7, 8, 9, 10, 11, 12, 13, 14, 15, 16, 17, 18, 19, 20, 21, 22, 23, 24, 25, 26, 27, 28, 29, 30, 31, 32, 33, 34, 35, 36, 37, 38, 39, 40, 41, 5, 42, 43, 44, 45, 46, 47, 48, 49, 50, 51, 52, 53, 54, 55, 56, 57, 58, 73, 74, 75, 76, 77, 78] (by decide +kernel) (by decide +kernel)
set_option maxRecDepth 20000 in
theorem gX5_greatestSize_X2_takeGreatest : GoodIn wsX5_greatestSize (wsV RX5 166 RX2 yX2_takeGreatest wsX2_takeGreatest) := goodIn_app (goodIn_of _ (by decide +kernel)) ggX5_greatestSize_X2_takeGreatest
set_option maxRecDepth 20000 in
theorem ggX5_greatestSize_X2_size : GoodIn wsX5_greatestSize wsX2_size := goodIn_r _ [62, 8, 63, 25, 64, 73, 74, 75, 76, 77] (by decide +kernel) (by decide +kernel)
set_option maxRecDepth 20000 in
theorem gX5_greatestSize_X2_size : GoodIn wsX5_greatestSize (wsV RX5 202 RX2 yX2_size wsX2_size) := goodIn_app (goodIn_of _ (by decide +kernel)) ggX5_greatestSize_X2_size
theorem dX5_greatestSize_0 : decode cX5_greatestSize 0 = .ok (.aload_n 0, 1) := by decide +kernel
theorem dX5_greatestSize_1 : decode cX5_greatestSize 1 = .ok (.getfield 39, 3) := by decide +kernel
theorem dX5_greatestSize_4 : decode cX5_greatestSize 4 = .ok (.aload_n 1, 1) := by decide +kernel
theorem dX5_greatestSize_5 : decode cX5_greatestSize 5 = .ok (.invokevirtual 166, 3) := by decide +kernel
theorem dX5_greatestSize_8 : decode cX5_greatestSize 8 = .ok (.aload_n 0, 1) := by decide +kernel
theorem dX5_greatestSize_9 : decode cX5_greatestSize 9 = .ok (.getfield 39, 3) := by decide +kernel
theorem dX5_greatestSize_12 : decode cX5_greatestSize 12 = .ok (.invokevirtual 202, 3) := by decide +kernel
theorem dX5_greatestSize_15 : decode cX5_greatestSize 15 = .ok (.ireturn, 1) := by decide +kernel
set_option maxRecDepth 20000 in
theorem ggX5_mostPossibleOfAPerson_X0_amountOfPerson : GoodIn wsX5_mostPossibleOfAPerson wsX0_amountOfPerson := goodIn_r _ [10, 11, 12, 13, 9, 14, 15, 16, 17, 18, 19, 20, 21, 22, 23, 24, 25, 26, 27, 28, 29, 30, 31, 32, 33, 34, 35, 36, 37, 38, 39, 40, 41, 42, 43, 44, 53] (by decide +kernel) (by decide +kernel)
set_option maxRecDepth 20000 in
theorem gX5_mostPossibleOfAPerson_X0_amountOfPerson : GoodIn wsX5_mostPossibleOfAPerson (wsV RX5 147 RX0 yX0_amountOfPerson wsX0_amountOfPerson) := goodIn_app (goodIn_of _ (by decide +kernel)) ggX5_mostPossibleOfAPerson_X0_amountOfPerson
theorem dX5_mostPossibleOfAPerson_0 : decode cX5_mostPossibleOfAPerson 0 = .ok (.iconst 0, 1) := by decide +kernel
theorem dX5_mostPossibleOfAPerson_1 : decode cX5_mostPossibleOfAPerson 1 = .ok (.istore_n 1, 1) := by decide +kernel
theorem dX5_mostPossibleOfAPerson_2 : decode cX5_mostPossibleOfAPerson 2 = .ok (.iconst 0, 1) := by decide +kernel
theorem dX5_mostPossibleOfAPerson_3 : decode cX5_mostPossibleOfAPerson 3 = .ok (.istore_n 2, 1) := by decide +kernel
theorem dX5_mostPossibleOfAPerson_4 : decode cX5_mostPossibleOfAPerson 4 = .ok (.iload_n 2, 1) := by decide +kernel
theorem dX5_mostPossibleOfAPerson_5 : decode cX5_mostPossibleOfAPerson 5 = .ok (.bipush 8, 2) := by decide +kernel
theorem dX5_mostPossibleOfAPerson_7 : decode cX5_mostPossibleOfAPerson 7 = .ok (.if_icmp .ge 39, 3) := by decide +kernel
theorem dX5_mostPossibleOfAPerson_10 : decode cX5_mostPossibleOfAPerson 10 = .ok (.iload_n 1, 1) := by decide +kernel
theorem dX5_mostPossibleOfAPerson_11 : decode cX5_mostPossibleOfAPerson 11 = .ok (.aload_n 0, 1) := by decide +kernel
theorem dX5_mostPossibleOfAPerson_12 : decode cX5_mostPossibleOfAPerson 12 = .ok (.getfield 12, 3) := by decide +kernel
theorem dX5_mostPossibleOfAPerson_15 : decode cX5_mostPossibleOfAPerson 15 = .ok (.iconst 1, 1) := by decide +kernel
theorem dX5_mostPossibleOfAPerson_16 : decode cX5_mostPossibleOfAPerson 16 = .ok (.iload_n 2, 1) := by decide +kernel
theorem dX5_mostPossibleOfAPerson_17 : decode cX5_mostPossibleOfAPerson 17 = .ok (.iconst 2, 1) := by decide +kernel
theorem dX5_mostPossibleOfAPerson_18 : decode cX5_mostPossibleOfAPerson 18 = .ok (.invokevirtual 147, 3) := by decide +kernel
theorem dX5_mostPossibleOfAPerson_21 : decode cX5_mostPossibleOfAPerson 21 = .ok (.invokestatic 206, 3) := by decide +kernel
theorem dX5_mostPossibleOfAPerson_24 : decode cX5_mostPossibleOfAPerson 24 = .ok (.istore_n 1, 1) := by decide +kernel
theorem dX5_mostPossibleOfAPerson_25 : decode cX5_mostPossibleOfAPerson 25 = .ok (.iload_n 1, 1) := by decide +kernel
theorem dX5_mostPossibleOfAPerson_26 : decode cX5_mostPossibleOfAPerson 26 = .ok (.aload_n 0, 1) := by decide +kernel
theorem dX5_mostPossibleOfAPerson_27 : decode cX5_mostPossibleOfAPerson 27 = .ok (.getfield 12, 3) := by decide +kernel
theorem dX5_mostPossibleOfAPerson_30 : decode cX5_mostPossibleOfAPerson 30 = .ok (.iconst 0, 1) := by decide +kernel
theorem dX5_mostPossibleOfAPerson_31 : decode cX5_mostPossibleOfAPerson 31 = .ok (.iload_n 2, 1) := by decide +kernel
theorem dX5_mostPossibleOfAPerson_32 : decode cX5_mostPossibleOfAPerson 32 = .ok (.iconst 2, 1) := by decide +kernel
theorem dX5_mostPossibleOfAPerson_33 : decode cX5_mostPossibleOfAPerson 33 = .ok (.invokevirtual 147, 3) := by decide +kernel
theorem dX5_mostPossibleOfAPerson_36 : decode cX5_mostPossibleOfAPerson 36 = .ok (.invokestatic 206, 3) := by decide +kernel
theorem dX5_mostPossibleOfAPerson_39 : decode cX5_mostPossibleOfAPerson 39 = .ok (.istore_n 1, 1) := by decide +kernel
theorem dX5_mostPossibleOfAPerson_40 : decode cX5_mostPossibleOfAPerson 40 = .ok (.iinc 2 1, 3) := by decide +kernel
theorem dX5_mostPossibleOfAPerson_43 : decode cX5_mostPossibleOfAPerson 43 = .ok (.goto (-39), 3) := by decide +kernel
theorem dX5_mostPossibleOfAPerson_46 : decode cX5_mostPossibleOfAPerson 46 = .ok (.iload_n 1, 1) := by decide +kernel
theorem dX5_mostPossibleOfAPerson_47 : decode cX5_mostPossibleOfAPerson 47 = .ok (.ireturn, 1) := by decide +kernel
theorem dX6_init_0 : decode cX6_init 0 = .ok (.aload_n 0, 1) := by decide +kernel
theorem dX6_init_1 : decode cX6_init 1 = .ok (.invokespecial 1, 3) := by decide +kernel
theorem dX6_init_4 : decode cX6_init 4 = .ok (.aload_n 0, 1) := by decide +kernel
theorem dX6_init_5 : decode cX6_init 5 = .ok (.sipush 225, 3) := by decide +kernel
theorem dX6_init_8 : decode cX6_init 8 = .ok (.newarray .int, 2) := by decide +kernel
theorem dX6_init_10 : decode cX6_init 10 = .ok (.putfield 7, 3) := by decide +kernel
theorem dX6_init_13 : decode cX6_init 13 = .ok (.aload_n 0, 1) := by decide +kernel
theorem dX6_init_14 : decode cX6_init 14 = .ok (.sipush 225, 3) := by decide +kernel
theorem dX6_init_17 : decode cX6_init 17 = .ok (.newarray .int, 2) := by decide +kernel
theorem dX6_init_19 : decode cX6_init 19 = .ok (.putfield 13, 3) := by decide +kernel
theorem dX6_init_22 : decode cX6_init 22 = .ok (.aload_n 0, 1) := by decide +kernel
theorem dX6_init_23 : decode cX6_init 23 = .ok (.sipush 1125, 3) := by decide +kernel
theorem dX6_init_26 : decode cX6_init 26 = .ok (.newarray .int, 2) := by decide +kernel
theorem dX6_init_28 : decode cX6_init 28 = .ok (.putfield 16, 3) := by decide +kernel
theorem dX6_init_31 : decode cX6_init 31 = .ok (.aload_n 0, 1) := by decide +kernel
theorem dX6_init_32 : decode cX6_init 32 = .ok (.sipush 225, 3) := by decide +kernel
theorem dX6_init_35 : decode cX6_init 35 = .ok (.newarray .int, 2) := by decide +kernel
theorem dX6_init_37 : decode cX6_init 37 = .ok (.putfield 19, 3) := by decide +kernel
theorem dX6_init_40 : decode cX6_init 40 = .ok (.aload_n 0, 1) := by decide +kernel
theorem dX6_init_41 : decode cX6_init 41 = .ok (.bipush 80, 2) := by decide +kernel
theorem dX6_init_43 : decode cX6_init 43 = .ok (.newarray .int, 2) := by decide +kernel
theorem dX6_init_45 : decode cX6_init 45 = .ok (.putfield 22, 3) := by decide +kernel
theorem dX6_init_48 : decode cX6_init 48 = .ok (.aload_n 0, 1) := by decide +kernel
theorem dX6_init_49 : decode cX6_init 49 = .ok (.bipush 8, 2) := by decide +kernel
theorem dX6_init_51 : decode cX6_init 51 = .ok (.newarray .int, 2) := by decide +kernel
theorem dX6_init_53 : decode cX6_init 53 = .ok (.putfield 25, 3) := by decide +kernel
theorem dX6_init_56 : decode cX6_init 56 = .ok (.aload_n 0, 1) := by decide +kernel
theorem dX6_init_57 : decode cX6_init 57 = .ok (.sipush 2304, 3) := by decide +kernel
theorem dX6_init_60 : decode cX6_init 60 = .ok (.newarray .int, 2) := by decide +kernel
theorem dX6_init_62 : decode cX6_init 62 = .ok (.putfield 28, 3) := by decide +kernel
theorem dX6_init_65 : decode cX6_init 65 = .ok (.aload_n 0, 1) := by decide +kernel
theorem dX6_init_66 : decode cX6_init 66 = .ok (.bipush 8, 2) := by decide +kernel
theorem dX6_init_68 : decode cX6_init 68 = .ok (.newarray .int, 2) := by decide +kernel
theorem dX6_init_70 : decode cX6_init 70 = .ok (.putfield 31, 3) := by decide +kernel
theorem dX6_init_73 : decode cX6_init 73 = .ok (.aload_n 0, 1) := by decide +kernel
theorem dX6_init_74 : decode cX6_init 74 = .ok (.bipush 64, 2) := by decide +kernel
theorem dX6_init_76 : decode cX6_init 76 = .ok (.newarray .int, 2) := by decide +kernel
theorem dX6_init_78 : decode cX6_init 78 = .ok (.putfield 34, 3) := by decide +kernel
theorem dX6_init_81 : decode cX6_init 81 = .ok (.aload_n 0, 1) := by decide +kernel
theorem dX6_init_82 : decode cX6_init 82 = .ok (.bipush 64, 2) := by decide +kernel
theorem dX6_init_84 : decode cX6_init 84 = .ok (.newarray .int, 2) := by decide +kernel
theorem dX6_init_86 : decode cX6_init 86 = .ok (.putfield 37, 3) := by decide +kernel
theorem dX6_init_89 : decode cX6_init 89 = .ok (.aload_n 0, 1) := by decide +kernel
theorem dX6_init_90 : decode cX6_init 90 = .ok (.bipush 64, 2) := by decide +kernel
theorem dX6_init_92 : decode cX6_init 92 = .ok (.newarray .int, 2) := by decide +kernel
theorem dX6_init_94 : decode cX6_init 94 = .ok (.putfield 40, 3) := by decide +kernel
theorem dX6_init_97 : decode cX6_init 97 = .ok (.aload_n 0, 1) := by decide +kernel
theorem dX6_init_98 : decode cX6_init 98 = .ok (.iconst 0, 1) := by decide +kernel
theorem dX6_init_99 : decode cX6_init 99 = .ok (.putfield 43, 3) := by decide +kernel
theorem dX6_init_102 : decode cX6_init 102 = .ok (.iconst 0, 1) := by decide +kernel
theorem dX6_init_103 : decode cX6_init 103 = .ok (.istore_n 1, 1) := by decide +kernel
theorem dX6_init_104 : decode cX6_init 104 = .ok (.iload_n 1, 1) := by decide +kernel
theorem dX6_init_105 : decode cX6_init 105 = .ok (.bipush 8, 2) := by decide +kernel
theorem dX6_init_107 : decode cX6_init 107 = .ok (.if_icmp .ge 32, 3) := by decide +kernel
theorem dX6_init_110 : decode cX6_init 110 = .ok (.aload_n 0, 1) := by decide +kernel
theorem dX6_init_111 : decode cX6_init 111 = .ok (.getfield 7, 3) := by decide +kernel
theorem dX6_init_114 : decode cX6_init 114 = .ok (.iconst 1, 1) := by decide +kernel
theorem dX6_init_115 : decode cX6_init 115 = .ok (.iload_n 1, 1) := by decide +kernel
theorem dX6_init_116 : decode cX6_init 116 = .ok (.iadd, 1) := by decide +kernel
theorem dX6_init_117 : decode cX6_init 117 = .ok (.iload_n 1, 1) := by decide +kernel
theorem dX6_init_118 : decode cX6_init 118 = .ok (.iconst 2, 1) := by decide +kernel
theorem dX6_init_119 : decode cX6_init 119 = .ok (.idiv, 1) := by decide +kernel
theorem dX6_init_120 : decode cX6_init 120 = .ok (.iastore, 1) := by decide +kernel
theorem dX6_init_121 : decode cX6_init 121 = .ok (.aload_n 0, 1) := by decide +kernel
theorem dX6_init_122 : decode cX6_init 122 = .ok (.getfield 7, 3) := by decide +kernel
theorem dX6_init_125 : decode cX6_init 125 = .ok (.bipush 9, 2) := by decide +kernel
theorem dX6_init_127 : decode cX6_init 127 = .ok (.iload_n 1, 1) := by decide +kernel
theorem dX6_init_128 : decode cX6_init 128 = .ok (.iadd, 1) := by decide +kernel
theorem dX6_init_129 : decode cX6_init 129 = .ok (.iload_n 1, 1) := by decide +kernel
theorem dX6_init_130 : decode cX6_init 130 = .ok (.iconst 2, 1) := by decide +kernel
theorem dX6_init_131 : decode cX6_init 131 = .ok (.idiv, 1) := by decide +kernel
theorem dX6_init_132 : decode cX6_init 132 = .ok (.iastore, 1) := by decide +kernel
theorem dX6_init_133 : decode cX6_init 133 = .ok (.iinc 1 1, 3) := by decide +kernel
theorem dX6_init_136 : decode cX6_init 136 = .ok (.goto (-32), 3) := by decide +kernel
theorem dX6_init_139 : decode cX6_init 139 = .ok (.iconst 0, 1) := by decide +kernel
theorem dX6_init_140 : decode cX6_init 140 = .ok (.istore_n 1, 1) := by decide +kernel
theorem dX6_init_141 : decode cX6_init 141 = .ok (.iload_n 1, 1) := by decide +kernel
theorem dX6_init_142 : decode cX6_init 142 = .ok (.iconst 4, 1) := by decide +kernel
theorem dX6_init_143 : decode cX6_init 143 = .ok (.if_icmp .ge 21, 3) := by decide +kernel
theorem dX6_init_146 : decode cX6_init 146 = .ok (.aload_n 0, 1) := by decide +kernel
theorem dX6_init_147 : decode cX6_init 147 = .ok (.getfield 7, 3) := by decide +kernel
theorem dX6_init_150 : decode cX6_init 150 = .ok (.bipush 17, 2) := by decide +kernel
theorem dX6_init_152 : decode cX6_init 152 = .ok (.iconst 5, 1) := by decide +kernel
theorem dX6_init_153 : decode cX6_init 153 = .ok (.iload_n 1, 1) := by decide +kernel
theorem dX6_init_154 : decode cX6_init 154 = .ok (.imul, 1) := by decide +kernel
theorem dX6_init_155 : decode cX6_init 155 = .ok (.iadd, 1) := by decide +kernel
theorem dX6_init_156 : decode cX6_init 156 = .ok (.iconst 1, 1) := by decide +kernel
theorem dX6_init_157 : decode cX6_init 157 = .ok (.iastore, 1) := by decide +kernel
theorem dX6_init_158 : decode cX6_init 158 = .ok (.iinc 1 1, 3) := by decide +kernel
theorem dX6_init_161 : decode cX6_init 161 = .ok (.goto (-20), 3) := by decide +kernel
theorem dX6_init_164 : decode cX6_init 164 = .ok (.return_, 1) := by decide +kernel
theorem dX6_in_0 : decode cX6_in 0 = .ok (.iload_n 0, 1) := by decide +kernel
theorem dX6_in_1 : decode cX6_in 1 = .ok (.iload_n 1, 1) := by decide +kernel
theorem dX6_in_2 : decode cX6_in 2 = .ok (.if_icmp .lt 12, 3) := by decide +kernel
theorem dX6_in_5 : decode cX6_in 5 = .ok (.iload_n 0, 1) := by decide +kernel
theorem dX6_in_6 : decode cX6_in 6 = .ok (.iload_n 2, 1) := by decide +kernel
theorem dX6_in_7 : decode cX6_in 7 = .ok (.if_icmp .gt 7, 3) := by decide +kernel
theorem dX6_in_10 : decode cX6_in 10 = .ok (.iconst 1, 1) := by decide +kernel
theorem dX6_in_11 : decode cX6_in 11 = .ok (.goto 4, 3) := by decide +kernel
theorem dX6_in_14 : decode cX6_in 14 = .ok (.iconst 0, 1) := by decide +kernel
theorem dX6_in_15 : decode cX6_in 15 = .ok (.ireturn, 1) := by decide +kernel
set_option maxRecDepth 20000 in
theorem ggX6_isPerson_X6_in : GoodIn wsX6_isPerson wsX6_in := goodIn_r _ [4] (by decide +kernel) (by decide +kernel)
set_option maxRecDepth 20000 in
theorem gX6_isPerson_X6_in : GoodIn wsX6_isPerson (va_wsS RX6 47 yX6_in wsX6_in) := goodIn_app (goodIn_of _ (by decide +kernel)) ggX6_isPerson_X6_in
theorem dX6_isPerson_0 : decode cX6_isPerson 0 = .ok (.iload_n 0, 1) := by decide +kernel
theorem dX6_isPerson_1 : decode cX6_isPerson 1 = .ok (.iconst 0, 1) := by decide +kernel
theorem dX6_isPerson_2 : decode cX6_isPerson 2 = .ok (.bipush 7, 2) := by decide +kernel
theorem dX6_isPerson_4 : decode cX6_isPerson 4 = .ok (.invokestatic 47, 3) := by decide +kernel
theorem dX6_isPerson_7 : decode cX6_isPerson 7 = .ok (.ireturn, 1) := by decide +kernel
set_option maxRecDepth 20000 in
theorem ggX6_isPair_X6_isPerson : GoodIn wsX6_isPair wsX6_isPerson := goodIn_r _ [4, 5, 6, 3, 7] (by decide +kernel) (by decide +kernel)
set_option maxRecDepth 20000 in
theorem gX6_isPair_X6_isPerson : GoodIn wsX6_isPair (va_wsS RX6 51 yX6_isPerson wsX6_isPerson) := goodIn_app (goodIn_of _ (by decide +kernel)) ggX6_isPair_X6_isPerson
theorem dX6_isPair_0 : decode cX6_isPair 0 = .ok (.iload_n 0, 1) := by decide +kernel
theorem dX6_isPair_1 : decode cX6_isPair 1 = .ok (.invokestatic 51, 3) := by decide +kernel
theorem dX6_isPair_4 : decode cX6_isPair 4 = .ok (.ifCond .eq 14, 3) := by decide +kernel
theorem dX6_isPair_7 : decode cX6_isPair 7 = .ok (.iload_n 1, 1) := by decide +kernel
theorem dX6_isPair_8 : decode cX6_isPair 8 = .ok (.invokestatic 51, 3) := by decide +kernel
theorem dX6_isPair_11 : decode cX6_isPair 11 = .ok (.ifCond .eq 7, 3) := by decide +kernel
theorem dX6_isPair_14 : decode cX6_isPair 14 = .ok (.iconst 1, 1) := by decide +kernel
theorem dX6_isPair_15 : decode cX6_isPair 15 = .ok (.goto 4, 3) := by decide +kernel
theorem dX6_isPair_18 : decode cX6_isPair 18 = .ok (.iconst 0, 1) := by decide +kernel
theorem dX6_isPair_19 : decode cX6_isPair 19 = .ok (.ireturn, 1) := by decide +kernel
set_option maxRecDepth 20000 in
theorem ggX6_isGate_X6_in : GoodIn wsX6_isGate wsX6_in := goodIn_r _ [4] (by decide +kernel) (by decide +kernel)
set_option maxRecDepth 20000 in
theorem gX6_isGate_X6_in : GoodIn wsX6_isGate (va_wsS RX6 47 yX6_in wsX6_in) := goodIn_app (goodIn_of _ (by decide +kernel)) ggX6_isGate_X6_in
theorem dX6_isGate_0 : decode cX6_isGate 0 = .ok (.iload_n 0, 1) := by decide +kernel
theorem dX6_isGate_1 : decode cX6_isGate 1 = .ok (.iconst 0, 1) := by decide +kernel
theorem dX6_isGate_2 : decode cX6_isGate 2 = .ok (.iconst 3, 1) := by decide +kernel
theorem dX6_isGate_3 : decode cX6_isGate 3 = .ok (.invokestatic 47, 3) := by decide +kernel
theorem dX6_isGate_6 : decode cX6_isGate 6 = .ok (.ireturn, 1) := by decide +kernel
theorem dX6_records_0 : decode cX6_records 0 = .ok (.aload_n 0, 1) := by decide +kernel
theorem dX6_records_1 : decode cX6_records 1 = .ok (.getfield 55, 3) := by decide +kernel
theorem dX6_records_4 : decode cX6_records 4 = .ok (.iconst 5, 1) := by decide +kernel
theorem dX6_records_5 : decode cX6_records 5 = .ok (.if_icmp .ne 44, 3) := by decide +kernel
theorem dX6_records_8 : decode cX6_records 8 = .ok (.iconst 0, 1) := by decide +kernel
theorem dX6_records_9 : decode cX6_records 9 = .ok (.istore_n 1, 1) := by decide +kernel
theorem dX6_records_10 : decode cX6_records 10 = .ok (.iload_n 1, 1) := by decide +kernel
theorem dX6_records_11 : decode cX6_records 11 = .ok (.sipush 900, 3) := by decide +kernel
theorem dX6_records_14 : decode cX6_records 14 = .ok (.if_icmp .ge 25, 3) := by decide +kernel
theorem dX6_records_17 : decode cX6_records 17 = .ok (.aload_n 0, 1) := by decide +kernel
theorem dX6_records_18 : decode cX6_records 18 = .ok (.getfield 16, 3) := by decide +kernel
theorem dX6_records_21 : decode cX6_records 21 = .ok (.iload_n 1, 1) := by decide +kernel
theorem dX6_records_22 : decode cX6_records 22 = .ok (.aload_n 0, 1) := by decide +kernel
theorem dX6_records_23 : decode cX6_records 23 = .ok (.getfield 16, 3) := by decide +kernel
theorem dX6_records_26 : decode cX6_records 26 = .ok (.iload_n 1, 1) := by decide +kernel
theorem dX6_records_27 : decode cX6_records 27 = .ok (.sipush 225, 3) := by decide +kernel
theorem dX6_records_30 : decode cX6_records 30 = .ok (.iadd, 1) := by decide +kernel
theorem dX6_records_31 : decode cX6_records 31 = .ok (.iaload, 1) := by decide +kernel
theorem dX6_records_32 : decode cX6_records 32 = .ok (.iastore, 1) := by decide +kernel
theorem dX6_records_33 : decode cX6_records 33 = .ok (.iinc 1 1, 3) := by decide +kernel
theorem dX6_records_36 : decode cX6_records 36 = .ok (.goto (-26), 3) := by decide +kernel
theorem dX6_records_39 : decode cX6_records 39 = .ok (.aload_n 0, 1) := by decide +kernel
theorem dX6_records_40 : decode cX6_records 40 = .ok (.dup, 1) := by decide +kernel
theorem dX6_records_41 : decode cX6_records 41 = .ok (.getfield 55, 3) := by decide +kernel
theorem dX6_records_44 : decode cX6_records 44 = .ok (.iconst 1, 1) := by decide +kernel
theorem dX6_records_45 : decode cX6_records 45 = .ok (.isub, 1) := by decide +kernel
theorem dX6_records_46 : decode cX6_records 46 = .ok (.putfield 55, 3) := by decide +kernel
theorem dX6_records_49 : decode cX6_records 49 = .ok (.iconst 0, 1) := by decide +kernel
theorem dX6_records_50 : decode cX6_records 50 = .ok (.istore_n 1, 1) := by decide +kernel
theorem dX6_records_51 : decode cX6_records 51 = .ok (.iload_n 1, 1) := by decide +kernel
theorem dX6_records_52 : decode cX6_records 52 = .ok (.sipush 225, 3) := by decide +kernel
theorem dX6_records_55 : decode cX6_records 55 = .ok (.if_icmp .ge 30, 3) := by decide +kernel
theorem dX6_records_58 : decode cX6_records 58 = .ok (.aload_n 0, 1) := by decide +kernel
theorem dX6_records_59 : decode cX6_records 59 = .ok (.getfield 16, 3) := by decide +kernel
theorem dX6_records_62 : decode cX6_records 62 = .ok (.sipush 225, 3) := by decide +kernel
theorem dX6_records_65 : decode cX6_records 65 = .ok (.aload_n 0, 1) := by decide +kernel
theorem dX6_records_66 : decode cX6_records 66 = .ok (.getfield 55, 3) := by decide +kernel
theorem dX6_records_69 : decode cX6_records 69 = .ok (.imul, 1) := by decide +kernel
theorem dX6_records_70 : decode cX6_records 70 = .ok (.iload_n 1, 1) := by decide +kernel
theorem dX6_records_71 : decode cX6_records 71 = .ok (.iadd, 1) := by decide +kernel
theorem dX6_records_72 : decode cX6_records 72 = .ok (.aload_n 0, 1) := by decide +kernel
theorem dX6_records_73 : decode cX6_records 73 = .ok (.getfield 7, 3) := by decide +kernel
theorem dX6_records_76 : decode cX6_records 76 = .ok (.iload_n 1, 1) := by decide +kernel
theorem dX6_records_77 : decode cX6_records 77 = .ok (.iaload, 1) := by decide +kernel
theorem dX6_records_78 : decode cX6_records 78 = .ok (.iastore, 1) := by decide +kernel
theorem dX6_records_79 : decode cX6_records 79 = .ok (.iinc 1 1, 3) := by decide +kernel
theorem dX6_records_82 : decode cX6_records 82 = .ok (.goto (-31), 3) := by decide +kernel
theorem dX6_records_85 : decode cX6_records 85 = .ok (.aload_n 0, 1) := by decide +kernel
theorem dX6_records_86 : decode cX6_records 86 = .ok (.dup, 1) := by decide +kernel
theorem dX6_records_87 : decode cX6_records 87 = .ok (.getfield 55, 3) := by decide +kernel
theorem dX6_records_90 : decode cX6_records 90 = .ok (.iconst 1, 1) := by decide +kernel
theorem dX6_records_91 : decode cX6_records 91 = .ok (.iadd, 1) := by decide +kernel
theorem dX6_records_92 : decode cX6_records 92 = .ok (.putfield 55, 3) := by decide +kernel
theorem dX6_records_95 : decode cX6_records 95 = .ok (.return_, 1) := by decide +kernel
theorem dX6_putAside_0 : decode cX6_putAside 0 = .ok (.iconst 0, 1) := by decide +kernel
theorem dX6_putAside_1 : decode cX6_putAside 1 = .ok (.istore_n 1, 1) := by decide +kernel
theorem dX6_putAside_2 : decode cX6_putAside 2 = .ok (.iload_n 1, 1) := by decide +kernel
theorem dX6_putAside_3 : decode cX6_putAside 3 = .ok (.sipush 225, 3) := by decide +kernel
theorem dX6_putAside_6 : decode cX6_putAside 6 = .ok (.if_icmp .ge 21, 3) := by decide +kernel
theorem dX6_putAside_9 : decode cX6_putAside 9 = .ok (.aload_n 0, 1) := by decide +kernel
theorem dX6_putAside_10 : decode cX6_putAside 10 = .ok (.getfield 13, 3) := by decide +kernel
theorem dX6_putAside_13 : decode cX6_putAside 13 = .ok (.iload_n 1, 1) := by decide +kernel
theorem dX6_putAside_14 : decode cX6_putAside 14 = .ok (.aload_n 0, 1) := by decide +kernel
theorem dX6_putAside_15 : decode cX6_putAside 15 = .ok (.getfield 7, 3) := by decide +kernel
theorem dX6_putAside_18 : decode cX6_putAside 18 = .ok (.iload_n 1, 1) := by decide +kernel
theorem dX6_putAside_19 : decode cX6_putAside 19 = .ok (.iaload, 1) := by decide +kernel
theorem dX6_putAside_20 : decode cX6_putAside 20 = .ok (.iastore, 1) := by decide +kernel
theorem dX6_putAside_21 : decode cX6_putAside 21 = .ok (.iinc 1 1, 3) := by decide +kernel
theorem dX6_putAside_24 : decode cX6_putAside 24 = .ok (.goto (-22), 3) := by decide +kernel
theorem dX6_putAside_27 : decode cX6_putAside 27 = .ok (.return_, 1) := by decide +kernel
theorem dX6_takeBack_0 : decode cX6_takeBack 0 = .ok (.iconst 0, 1) := by decide +kernel
theorem dX6_takeBack_1 : decode cX6_takeBack 1 = .ok (.istore_n 1, 1) := by decide +kernel
theorem dX6_takeBack_2 : decode cX6_takeBack 2 = .ok (.iload_n 1, 1) := by decide +kernel
theorem dX6_takeBack_3 : decode cX6_takeBack 3 = .ok (.sipush 225, 3) := by decide +kernel
theorem dX6_takeBack_6 : decode cX6_takeBack 6 = .ok (.if_icmp .ge 21, 3) := by decide +kernel
theorem dX6_takeBack_9 : decode cX6_takeBack 9 = .ok (.aload_n 0, 1) := by decide +kernel
theorem dX6_takeBack_10 : decode cX6_takeBack 10 = .ok (.getfield 7, 3) := by decide +kernel
theorem dX6_takeBack_13 : decode cX6_takeBack 13 = .ok (.iload_n 1, 1) := by decide +kernel
theorem dX6_takeBack_14 : decode cX6_takeBack 14 = .ok (.aload_n 0, 1) := by decide +kernel
theorem dX6_takeBack_15 : decode cX6_takeBack 15 = .ok (.getfield 13, 3) := by decide +kernel
theorem dX6_takeBack_18 : decode cX6_takeBack 18 = .ok (.iload_n 1, 1) := by decide +kernel
end
section
theorem dX6_takeBack_19 : decode cX6_takeBack 19 = .ok (.iaload, 1) := by decide +kernel
theorem dX6_takeBack_20 : decode cX6_takeBack 20 = .ok (.iastore, 1) := by decide +kernel
theorem dX6_takeBack_21 : decode cX6_takeBack 21 = .ok (.iinc 1 1, 3) := by decide +kernel
theorem dX6_takeBack_24 : decode cX6_takeBack 24 = .ok (.goto (-22), 3) := by decide +kernel
theorem dX6_takeBack_27 : decode cX6_takeBack 27 = .ok (.return_, 1) := by decide +kernel
theorem dX6_areLinked_0 : decode cX6_areLinked 0 = .ok (.aload_n 0, 1) := by decide +kernel
theorem dX6_areLinked_1 : decode cX6_areLinked 1 = .ok (.getfield 7, 3) := by decide +kernel
theorem dX6_areLinked_4 : decode cX6_areLinked 4 = .ok (.bipush 17, 2) := by decide +kernel
theorem dX6_areLinked_6 : decode cX6_areLinked 6 = .ok (.iconst 4, 1) := by decide +kernel
theorem dX6_areLinked_7 : decode cX6_areLinked 7 = .ok (.aload_n 0, 1) := by decide +kernel
theorem dX6_areLinked_8 : decode cX6_areLinked 8 = .ok (.getfield 7, 3) := by decide +kernel
theorem dX6_areLinked_11 : decode cX6_areLinked 11 = .ok (.iconst 1, 1) := by decide +kernel
theorem dX6_areLinked_12 : decode cX6_areLinked 12 = .ok (.iload_n 1, 1) := by decide +kernel
theorem dX6_areLinked_13 : decode cX6_areLinked 13 = .ok (.iadd, 1) := by decide +kernel
theorem dX6_areLinked_14 : decode cX6_areLinked 14 = .ok (.iaload, 1) := by decide +kernel
theorem dX6_areLinked_15 : decode cX6_areLinked 15 = .ok (.imul, 1) := by decide +kernel
theorem dX6_areLinked_16 : decode cX6_areLinked 16 = .ok (.iadd, 1) := by decide +kernel
theorem dX6_areLinked_17 : decode cX6_areLinked 17 = .ok (.aload_n 0, 1) := by decide +kernel
theorem dX6_areLinked_18 : decode cX6_areLinked 18 = .ok (.getfield 7, 3) := by decide +kernel
theorem dX6_areLinked_21 : decode cX6_areLinked 21 = .ok (.bipush 9, 2) := by decide +kernel
theorem dX6_areLinked_23 : decode cX6_areLinked 23 = .ok (.iload_n 2, 1) := by decide +kernel
theorem dX6_areLinked_24 : decode cX6_areLinked 24 = .ok (.iadd, 1) := by decide +kernel
theorem dX6_areLinked_25 : decode cX6_areLinked 25 = .ok (.iaload, 1) := by decide +kernel
theorem dX6_areLinked_26 : decode cX6_areLinked 26 = .ok (.iadd, 1) := by decide +kernel
theorem dX6_areLinked_27 : decode cX6_areLinked 27 = .ok (.iaload, 1) := by decide +kernel
theorem dX6_areLinked_28 : decode cX6_areLinked 28 = .ok (.iconst 1, 1) := by decide +kernel
theorem dX6_areLinked_29 : decode cX6_areLinked 29 = .ok (.if_icmp .ne 7, 3) := by decide +kernel
theorem dX6_areLinked_32 : decode cX6_areLinked 32 = .ok (.iconst 1, 1) := by decide +kernel
theorem dX6_areLinked_33 : decode cX6_areLinked 33 = .ok (.goto 4, 3) := by decide +kernel
theorem dX6_areLinked_36 : decode cX6_areLinked 36 = .ok (.iconst 0, 1) := by decide +kernel
theorem dX6_areLinked_37 : decode cX6_areLinked 37 = .ok (.ireturn, 1) := by decide +kernel
set_option maxRecDepth 20000 in
theorem ggX6_canMeet_X6_areLinked : GoodIn wsX6_canMeet wsX6_areLinked := goodIn_r _ [6, 1, 7, 8, 9, 10, 11, 12, 13, 14, 15, 16, 17, 18, 19, 20, 21, 22, 23, 24] (by decide +kernel) (by decide +kernel)
set_option maxRecDepth 20000 in
theorem gX6_canMeet_X6_areLinked : GoodIn wsX6_canMeet (wsV RX6 58 RX6 yX6_areLinked wsX6_areLinked) := goodIn_app (goodIn_of _ (by decide +kernel)) ggX6_canMeet_X6_areLinked
theorem dX6_canMeet_0 : decode cX6_canMeet 0 = .ok (.aload_n 0, 1) := by decide +kernel
theorem dX6_canMeet_1 : decode cX6_canMeet 1 = .ok (.iload_n 1, 1) := by decide +kernel
theorem dX6_canMeet_2 : decode cX6_canMeet 2 = .ok (.iload_n 2, 1) := by decide +kernel
theorem dX6_canMeet_3 : decode cX6_canMeet 3 = .ok (.invokevirtual 58, 3) := by decide +kernel
theorem dX6_canMeet_6 : decode cX6_canMeet 6 = .ok (.ifCond .eq 24, 3) := by decide +kernel
theorem dX6_canMeet_9 : decode cX6_canMeet 9 = .ok (.aload_n 0, 1) := by decide +kernel
theorem dX6_canMeet_10 : decode cX6_canMeet 10 = .ok (.getfield 7, 3) := by decide +kernel
theorem dX6_canMeet_13 : decode cX6_canMeet 13 = .ok (.bipush 33, 2) := by decide +kernel
theorem dX6_canMeet_15 : decode cX6_canMeet 15 = .ok (.bipush 8, 2) := by decide +kernel
theorem dX6_canMeet_17 : decode cX6_canMeet 17 = .ok (.iload_n 1, 1) := by decide +kernel
theorem dX6_canMeet_18 : decode cX6_canMeet 18 = .ok (.imul, 1) := by decide +kernel
theorem dX6_canMeet_19 : decode cX6_canMeet 19 = .ok (.iadd, 1) := by decide +kernel
theorem dX6_canMeet_20 : decode cX6_canMeet 20 = .ok (.iload_n 2, 1) := by decide +kernel
theorem dX6_canMeet_21 : decode cX6_canMeet 21 = .ok (.iadd, 1) := by decide +kernel
theorem dX6_canMeet_22 : decode cX6_canMeet 22 = .ok (.iaload, 1) := by decide +kernel
theorem dX6_canMeet_23 : decode cX6_canMeet 23 = .ok (.ifCond .ne 7, 3) := by decide +kernel
theorem dX6_canMeet_26 : decode cX6_canMeet 26 = .ok (.iconst 1, 1) := by decide +kernel
theorem dX6_canMeet_27 : decode cX6_canMeet 27 = .ok (.goto 4, 3) := by decide +kernel
theorem dX6_canMeet_30 : decode cX6_canMeet 30 = .ok (.iconst 0, 1) := by decide +kernel
theorem dX6_canMeet_31 : decode cX6_canMeet 31 = .ok (.ireturn, 1) := by decide +kernel
theorem dX6_isOpen_0 : decode cX6_isOpen 0 = .ok (.aload_n 0, 1) := by decide +kernel
theorem dX6_isOpen_1 : decode cX6_isOpen 1 = .ok (.getfield 7, 3) := by decide +kernel
theorem dX6_isOpen_4 : decode cX6_isOpen 4 = .ok (.bipush 97, 2) := by decide +kernel
theorem dX6_isOpen_6 : decode cX6_isOpen 6 = .ok (.bipush 8, 2) := by decide +kernel
theorem dX6_isOpen_8 : decode cX6_isOpen 8 = .ok (.iload_n 1, 1) := by decide +kernel
theorem dX6_isOpen_9 : decode cX6_isOpen 9 = .ok (.imul, 1) := by decide +kernel
theorem dX6_isOpen_10 : decode cX6_isOpen 10 = .ok (.iadd, 1) := by decide +kernel
theorem dX6_isOpen_11 : decode cX6_isOpen 11 = .ok (.iload_n 2, 1) := by decide +kernel
theorem dX6_isOpen_12 : decode cX6_isOpen 12 = .ok (.iadd, 1) := by decide +kernel
theorem dX6_isOpen_13 : decode cX6_isOpen 13 = .ok (.iaload, 1) := by decide +kernel
theorem dX6_isOpen_14 : decode cX6_isOpen 14 = .ok (.iconst 1, 1) := by decide +kernel
theorem dX6_isOpen_15 : decode cX6_isOpen 15 = .ok (.if_icmp .ne 7, 3) := by decide +kernel
theorem dX6_isOpen_18 : decode cX6_isOpen 18 = .ok (.iconst 1, 1) := by decide +kernel
theorem dX6_isOpen_19 : decode cX6_isOpen 19 = .ok (.goto 4, 3) := by decide +kernel
theorem dX6_isOpen_22 : decode cX6_isOpen 22 = .ok (.iconst 0, 1) := by decide +kernel
theorem dX6_isOpen_23 : decode cX6_isOpen 23 = .ok (.ireturn, 1) := by decide +kernel
set_option maxRecDepth 20000 in
theorem ggX6_isPossible_X6_isOpen : GoodIn wsX6_isPossible wsX6_isOpen := goodIn_r _ [5, 6, 15, 16, 17, 18, 19, 20, 21, 22, 23, 24, 25, 26, 27, 28, 29, 30, 31, 32] (by decide +kernel) (by decide +kernel)
set_option maxRecDepth 20000 in
theorem gX6_isPossible_X6_isOpen : GoodIn wsX6_isPossible (wsV RX6 62 RX6 yX6_isOpen wsX6_isOpen) := goodIn_app (goodIn_of _ (by decide +kernel)) ggX6_isPossible_X6_isOpen
set_option maxRecDepth 20000 in
theorem ggX6_isPossible_X6_canMeet : GoodIn wsX6_isPossible wsX6_canMeet := goodIn_r _ [10, 6, 11, 12, 13, 4, 14, 15, 16, 17, 18, 19, 20, 21, 22, 23, 24, 25, 26, 27, 28, 29, 30, 31, 32] (by decide +kernel) (by decide +kernel)
set_option maxRecDepth 20000 in
theorem gX6_isPossible_X6_canMeet : GoodIn wsX6_isPossible (wsV RX6 65 RX6 yX6_canMeet wsX6_canMeet) := goodIn_app (goodIn_of _ (by decide +kernel)) ggX6_isPossible_X6_canMeet
theorem dX6_isPossible_0 : decode cX6_isPossible 0 = .ok (.aload_n 0, 1) := by decide +kernel
theorem dX6_isPossible_1 : decode cX6_isPossible 1 = .ok (.iload_n 1, 1) := by decide +kernel
theorem dX6_isPossible_2 : decode cX6_isPossible 2 = .ok (.iload_n 2, 1) := by decide +kernel
theorem dX6_isPossible_3 : decode cX6_isPossible 3 = .ok (.invokevirtual 62, 3) := by decide +kernel
theorem dX6_isPossible_6 : decode cX6_isPossible 6 = .ok (.ifCond .eq 16, 3) := by decide +kernel
theorem dX6_isPossible_9 : decode cX6_isPossible 9 = .ok (.aload_n 0, 1) := by decide +kernel
theorem dX6_isPossible_10 : decode cX6_isPossible 10 = .ok (.iload_n 1, 1) := by decide +kernel
theorem dX6_isPossible_11 : decode cX6_isPossible 11 = .ok (.iload_n 2, 1) := by decide +kernel
theorem dX6_isPossible_12 : decode cX6_isPossible 12 = .ok (.invokevirtual 65, 3) := by decide +kernel
theorem dX6_isPossible_15 : decode cX6_isPossible 15 = .ok (.ifCond .eq 7, 3) := by decide +kernel
theorem dX6_isPossible_18 : decode cX6_isPossible 18 = .ok (.iconst 1, 1) := by decide +kernel
theorem dX6_isPossible_19 : decode cX6_isPossible 19 = .ok (.goto 4, 3) := by decide +kernel
theorem dX6_isPossible_22 : decode cX6_isPossible 22 = .ok (.iconst 0, 1) := by decide +kernel
theorem dX6_isPossible_23 : decode cX6_isPossible 23 = .ok (.ireturn, 1) := by decide +kernel
set_option maxRecDepth 20000 in
theorem ggX6_findsCan_X6_isPossible : GoodIn wsX6_findsCan wsX6_isPossible := goodIn_r _ [6, 7, 8, 9, 5, 10, 11, 12, 13, 14, 15, 16, 17, 18, 19, 20, 21, 22, 23, 24, 25, 26, 27, 28, 29, 30, 31, 32, 33, 34, 35, 36, 37] (by decide +kernel) (by decide +kernel)
set_option maxRecDepth 20000 in
theorem gX6_findsCan_X6_isPossible : GoodIn wsX6_findsCan (wsV RX6 68 RX6 yX6_isPossible wsX6_isPossible) := goodIn_app (goodIn_of _ (by decide +kernel)) ggX6_findsCan_X6_isPossible
theorem dX6_findsCan_0 : decode cX6_findsCan 0 = .ok (.iconst 0, 1) := by decide +kernel
theorem dX6_findsCan_1 : decode cX6_findsCan 1 = .ok (.istore_n 2, 1) := by decide +kernel
theorem dX6_findsCan_2 : decode cX6_findsCan 2 = .ok (.iload_n 2, 1) := by decide +kernel
theorem dX6_findsCan_3 : decode cX6_findsCan 3 = .ok (.bipush 8, 2) := by decide +kernel
theorem dX6_findsCan_5 : decode cX6_findsCan 5 = .ok (.if_icmp .ge 60, 3) := by decide +kernel
theorem dX6_findsCan_8 : decode cX6_findsCan 8 = .ok (.aload_n 0, 1) := by decide +kernel
theorem dX6_findsCan_9 : decode cX6_findsCan 9 = .ok (.getfield 25, 3) := by decide +kernel
theorem dX6_findsCan_12 : decode cX6_findsCan 12 = .ok (.iload_n 2, 1) := by decide +kernel
theorem dX6_findsCan_13 : decode cX6_findsCan 13 = .ok (.iconst 0, 1) := by decide +kernel
theorem dX6_findsCan_14 : decode cX6_findsCan 14 = .ok (.iastore, 1) := by decide +kernel
theorem dX6_findsCan_15 : decode cX6_findsCan 15 = .ok (.iconst 0, 1) := by decide +kernel
theorem dX6_findsCan_16 : decode cX6_findsCan 16 = .ok (.istore_n 3, 1) := by decide +kernel
theorem dX6_findsCan_17 : decode cX6_findsCan 17 = .ok (.iload_n 3, 1) := by decide +kernel
theorem dX6_findsCan_18 : decode cX6_findsCan 18 = .ok (.bipush 8, 2) := by decide +kernel
theorem dX6_findsCan_20 : decode cX6_findsCan 20 = .ok (.if_icmp .ge 39, 3) := by decide +kernel
theorem dX6_findsCan_23 : decode cX6_findsCan 23 = .ok (.iload_n 2, 1) := by decide +kernel
theorem dX6_findsCan_24 : decode cX6_findsCan 24 = .ok (.iload_n 1, 1) := by decide +kernel
theorem dX6_findsCan_25 : decode cX6_findsCan 25 = .ok (.if_icmp .eq 34, 3) := by decide +kernel
theorem dX6_findsCan_28 : decode cX6_findsCan 28 = .ok (.aload_n 0, 1) := by decide +kernel
theorem dX6_findsCan_29 : decode cX6_findsCan 29 = .ok (.getfield 25, 3) := by decide +kernel
theorem dX6_findsCan_32 : decode cX6_findsCan 32 = .ok (.iload_n 2, 1) := by decide +kernel
theorem dX6_findsCan_33 : decode cX6_findsCan 33 = .ok (.dup2, 1) := by decide +kernel
theorem dX6_findsCan_34 : decode cX6_findsCan 34 = .ok (.iaload, 1) := by decide +kernel
theorem dX6_findsCan_35 : decode cX6_findsCan 35 = .ok (.aload_n 0, 1) := by decide +kernel
theorem dX6_findsCan_36 : decode cX6_findsCan 36 = .ok (.iload_n 2, 1) := by decide +kernel
theorem dX6_findsCan_37 : decode cX6_findsCan 37 = .ok (.iload_n 3, 1) := by decide +kernel
theorem dX6_findsCan_38 : decode cX6_findsCan 38 = .ok (.invokevirtual 68, 3) := by decide +kernel
theorem dX6_findsCan_41 : decode cX6_findsCan 41 = .ok (.ifCond .eq 9, 3) := by decide +kernel
theorem dX6_findsCan_44 : decode cX6_findsCan 44 = .ok (.iconst 1, 1) := by decide +kernel
theorem dX6_findsCan_45 : decode cX6_findsCan 45 = .ok (.iload_n 3, 1) := by decide +kernel
theorem dX6_findsCan_46 : decode cX6_findsCan 46 = .ok (.ishl, 1) := by decide +kernel
theorem dX6_findsCan_47 : decode cX6_findsCan 47 = .ok (.goto 4, 3) := by decide +kernel
theorem dX6_findsCan_50 : decode cX6_findsCan 50 = .ok (.iconst 0, 1) := by decide +kernel
theorem dX6_findsCan_51 : decode cX6_findsCan 51 = .ok (.ior, 1) := by decide +kernel
theorem dX6_findsCan_52 : decode cX6_findsCan 52 = .ok (.iastore, 1) := by decide +kernel
theorem dX6_findsCan_53 : decode cX6_findsCan 53 = .ok (.iinc 3 1, 3) := by decide +kernel
theorem dX6_findsCan_56 : decode cX6_findsCan 56 = .ok (.goto (-39), 3) := by decide +kernel
theorem dX6_findsCan_59 : decode cX6_findsCan 59 = .ok (.iinc 2 1, 3) := by decide +kernel
theorem dX6_findsCan_62 : decode cX6_findsCan 62 = .ok (.goto (-60), 3) := by decide +kernel
theorem dX6_findsCan_65 : decode cX6_findsCan 65 = .ok (.return_, 1) := by decide +kernel
theorem dX6_sizeOf_0 : decode cX6_sizeOf 0 = .ok (.aload_n 0, 1) := by decide +kernel
theorem dX6_sizeOf_1 : decode cX6_sizeOf 1 = .ok (.getfield 28, 3) := by decide +kernel
theorem dX6_sizeOf_4 : decode cX6_sizeOf 4 = .ok (.sipush 256, 3) := by decide +kernel
theorem dX6_sizeOf_7 : decode cX6_sizeOf 7 = .ok (.iload_n 1, 1) := by decide +kernel
theorem dX6_sizeOf_8 : decode cX6_sizeOf 8 = .ok (.imul, 1) := by decide +kernel
theorem dX6_sizeOf_9 : decode cX6_sizeOf 9 = .ok (.iload_n 2, 1) := by decide +kernel
theorem dX6_sizeOf_10 : decode cX6_sizeOf 10 = .ok (.iadd, 1) := by decide +kernel
theorem dX6_sizeOf_11 : decode cX6_sizeOf 11 = .ok (.iaload, 1) := by decide +kernel
theorem dX6_sizeOf_12 : decode cX6_sizeOf 12 = .ok (.ireturn, 1) := by decide +kernel
set_option maxRecDepth 20000 in
theorem ggX6_bestFor_X6_sizeOf : GoodIn wsX6_bestFor wsX6_sizeOf := goodIn_r _ [6, 7, 8, 9, 10, 11, 12, 13, 14, 15, 16, 17, 18, 19, 20, 21, 22, 23, 24, 25] (by decide +kernel) (by decide +kernel)
set_option maxRecDepth 20000 in
theorem gX6_bestFor_X6_sizeOf : GoodIn wsX6_bestFor (wsV RX6 71 RX6 yX6_sizeOf wsX6_sizeOf) := goodIn_app (goodIn_of _ (by decide +kernel)) ggX6_bestFor_X6_sizeOf
theorem dX6_bestFor_0 : decode cX6_bestFor 0 = .ok (.aload_n 0, 1) := by decide +kernel
theorem dX6_bestFor_1 : decode cX6_bestFor 1 = .ok (.iload_n 1, 1) := by decide +kernel
theorem dX6_bestFor_2 : decode cX6_bestFor 2 = .ok (.iconst 1, 1) := by decide +kernel
theorem dX6_bestFor_3 : decode cX6_bestFor 3 = .ok (.iadd, 1) := by decide +kernel
theorem dX6_bestFor_4 : decode cX6_bestFor 4 = .ok (.iload_n 2, 1) := by decide +kernel
theorem dX6_bestFor_5 : decode cX6_bestFor 5 = .ok (.invokevirtual 71, 3) := by decide +kernel
theorem dX6_bestFor_8 : decode cX6_bestFor 8 = .ok (.istore_n 3, 1) := by decide +kernel
theorem dX6_bestFor_9 : decode cX6_bestFor 9 = .ok (.iconst 0, 1) := by decide +kernel
theorem dX6_bestFor_10 : decode cX6_bestFor 10 = .ok (.istore 4, 2) := by decide +kernel
theorem dX6_bestFor_12 : decode cX6_bestFor 12 = .ok (.iload 4, 2) := by decide +kernel
theorem dX6_bestFor_14 : decode cX6_bestFor 14 = .ok (.bipush 8, 2) := by decide +kernel
theorem dX6_bestFor_16 : decode cX6_bestFor 16 = .ok (.if_icmp .ge 57, 3) := by decide +kernel
theorem dX6_bestFor_19 : decode cX6_bestFor 19 = .ok (.aload_n 0, 1) := by decide +kernel
theorem dX6_bestFor_20 : decode cX6_bestFor 20 = .ok (.getfield 25, 3) := by decide +kernel
theorem dX6_bestFor_23 : decode cX6_bestFor 23 = .ok (.iload_n 1, 1) := by decide +kernel
theorem dX6_bestFor_24 : decode cX6_bestFor 24 = .ok (.iaload, 1) := by decide +kernel
theorem dX6_bestFor_25 : decode cX6_bestFor 25 = .ok (.iload_n 2, 1) := by decide +kernel
theorem dX6_bestFor_26 : decode cX6_bestFor 26 = .ok (.iand, 1) := by decide +kernel
theorem dX6_bestFor_27 : decode cX6_bestFor 27 = .ok (.iconst 1, 1) := by decide +kernel
theorem dX6_bestFor_28 : decode cX6_bestFor 28 = .ok (.iload 4, 2) := by decide +kernel
theorem dX6_bestFor_30 : decode cX6_bestFor 30 = .ok (.ishl, 1) := by decide +kernel
theorem dX6_bestFor_31 : decode cX6_bestFor 31 = .ok (.iand, 1) := by decide +kernel
theorem dX6_bestFor_32 : decode cX6_bestFor 32 = .ok (.ifCond .eq 35, 3) := by decide +kernel
theorem dX6_bestFor_35 : decode cX6_bestFor 35 = .ok (.iconst 1, 1) := by decide +kernel
theorem dX6_bestFor_36 : decode cX6_bestFor 36 = .ok (.aload_n 0, 1) := by decide +kernel
theorem dX6_bestFor_37 : decode cX6_bestFor 37 = .ok (.iload_n 1, 1) := by decide +kernel
theorem dX6_bestFor_38 : decode cX6_bestFor 38 = .ok (.iconst 1, 1) := by decide +kernel
theorem dX6_bestFor_39 : decode cX6_bestFor 39 = .ok (.iadd, 1) := by decide +kernel
theorem dX6_bestFor_40 : decode cX6_bestFor 40 = .ok (.iload_n 2, 1) := by decide +kernel
theorem dX6_bestFor_41 : decode cX6_bestFor 41 = .ok (.iconst 1, 1) := by decide +kernel
theorem dX6_bestFor_42 : decode cX6_bestFor 42 = .ok (.iload 4, 2) := by decide +kernel
theorem dX6_bestFor_44 : decode cX6_bestFor 44 = .ok (.ishl, 1) := by decide +kernel
theorem dX6_bestFor_45 : decode cX6_bestFor 45 = .ok (.iconst (-1), 1) := by decide +kernel
theorem dX6_bestFor_46 : decode cX6_bestFor 46 = .ok (.ixor, 1) := by decide +kernel
theorem dX6_bestFor_47 : decode cX6_bestFor 47 = .ok (.iand, 1) := by decide +kernel
theorem dX6_bestFor_48 : decode cX6_bestFor 48 = .ok (.invokevirtual 71, 3) := by decide +kernel
theorem dX6_bestFor_51 : decode cX6_bestFor 51 = .ok (.iadd, 1) := by decide +kernel
theorem dX6_bestFor_52 : decode cX6_bestFor 52 = .ok (.istore 5, 2) := by decide +kernel
theorem dX6_bestFor_54 : decode cX6_bestFor 54 = .ok (.iload 5, 2) := by decide +kernel
theorem dX6_bestFor_56 : decode cX6_bestFor 56 = .ok (.iload_n 3, 1) := by decide +kernel
theorem dX6_bestFor_57 : decode cX6_bestFor 57 = .ok (.if_icmp .le 8, 3) := by decide +kernel
theorem dX6_bestFor_60 : decode cX6_bestFor 60 = .ok (.iload 5, 2) := by decide +kernel
theorem dX6_bestFor_62 : decode cX6_bestFor 62 = .ok (.goto 4, 3) := by decide +kernel
theorem dX6_bestFor_65 : decode cX6_bestFor 65 = .ok (.iload_n 3, 1) := by decide +kernel
theorem dX6_bestFor_66 : decode cX6_bestFor 66 = .ok (.istore_n 3, 1) := by decide +kernel
theorem dX6_bestFor_67 : decode cX6_bestFor 67 = .ok (.iinc 4 1, 3) := by decide +kernel
theorem dX6_bestFor_70 : decode cX6_bestFor 70 = .ok (.goto (-58), 3) := by decide +kernel
theorem dX6_bestFor_73 : decode cX6_bestFor 73 = .ok (.iload_n 3, 1) := by decide +kernel
theorem dX6_bestFor_74 : decode cX6_bestFor 74 = .ok (.ireturn, 1) := by decide +kernel
set_option maxRecDepth 20000 in
theorem ggX6_fills_X6_bestFor : GoodIn wsX6_fills wsX6_bestFor := goodIn_r _ [6, 7, 8, 9, 10, 5, 11, 1, 12, 13, 14, 15, 16, 17, 18, 19, 20, 21, 22, 23, 24, 25, 26, 27, 28, 29] (by decide +kernel) (by decide +kernel)
set_option maxRecDepth 20000 in
theorem gX6_fills_X6_bestFor : GoodIn wsX6_fills (wsV RX6 75 RX6 yX6_bestFor wsX6_bestFor) := goodIn_app (goodIn_of _ (by decide +kernel)) ggX6_fills_X6_bestFor
set_option maxRecDepth 20000 in
theorem ggX6_fills_X6_sizeOf : GoodIn wsX6_fills wsX6_sizeOf := goodIn_r _ [11, 1, 12, 13, 14, 15, 16, 17, 18, 19, 20, 21, 22, 23, 24, 25, 26, 27, 28, 29] (by decide +kernel) (by decide +kernel)
set_option maxRecDepth 20000 in
theorem gX6_fills_X6_sizeOf : GoodIn wsX6_fills (wsV RX6 71 RX6 yX6_sizeOf wsX6_sizeOf) := goodIn_app (goodIn_of _ (by decide +kernel)) ggX6_fills_X6_sizeOf
theorem dX6_fills_0 : decode cX6_fills 0 = .ok (.iconst 0, 1) := by decide +kernel
theorem dX6_fills_1 : decode cX6_fills 1 = .ok (.istore_n 1, 1) := by decide +kernel
theorem dX6_fills_2 : decode cX6_fills 2 = .ok (.iload_n 1, 1) := by decide +kernel
theorem dX6_fills_3 : decode cX6_fills 3 = .ok (.sipush 256, 3) := by decide +kernel
theorem dX6_fills_6 : decode cX6_fills 6 = .ok (.if_icmp .ge 20, 3) := by decide +kernel
theorem dX6_fills_9 : decode cX6_fills 9 = .ok (.aload_n 0, 1) := by decide +kernel
theorem dX6_fills_10 : decode cX6_fills 10 = .ok (.getfield 28, 3) := by decide +kernel
theorem dX6_fills_13 : decode cX6_fills 13 = .ok (.sipush 2048, 3) := by decide +kernel
theorem dX6_fills_16 : decode cX6_fills 16 = .ok (.iload_n 1, 1) := by decide +kernel
theorem dX6_fills_17 : decode cX6_fills 17 = .ok (.iadd, 1) := by decide +kernel
theorem dX6_fills_18 : decode cX6_fills 18 = .ok (.iconst 0, 1) := by decide +kernel
theorem dX6_fills_19 : decode cX6_fills 19 = .ok (.iastore, 1) := by decide +kernel
theorem dX6_fills_20 : decode cX6_fills 20 = .ok (.iinc 1 1, 3) := by decide +kernel
theorem dX6_fills_23 : decode cX6_fills 23 = .ok (.goto (-21), 3) := by decide +kernel
theorem dX6_fills_26 : decode cX6_fills 26 = .ok (.bipush 7, 2) := by decide +kernel
theorem dX6_fills_28 : decode cX6_fills 28 = .ok (.istore_n 1, 1) := by decide +kernel
theorem dX6_fills_29 : decode cX6_fills 29 = .ok (.iload_n 1, 1) := by decide +kernel
theorem dX6_fills_30 : decode cX6_fills 30 = .ok (.ifCond .lt 42, 3) := by decide +kernel
theorem dX6_fills_33 : decode cX6_fills 33 = .ok (.iconst 0, 1) := by decide +kernel
theorem dX6_fills_34 : decode cX6_fills 34 = .ok (.istore_n 2, 1) := by decide +kernel
theorem dX6_fills_35 : decode cX6_fills 35 = .ok (.iload_n 2, 1) := by decide +kernel
theorem dX6_fills_36 : decode cX6_fills 36 = .ok (.sipush 256, 3) := by decide +kernel
theorem dX6_fills_39 : decode cX6_fills 39 = .ok (.if_icmp .ge 27, 3) := by decide +kernel
theorem dX6_fills_42 : decode cX6_fills 42 = .ok (.aload_n 0, 1) := by decide +kernel
theorem dX6_fills_43 : decode cX6_fills 43 = .ok (.getfield 28, 3) := by decide +kernel
theorem dX6_fills_46 : decode cX6_fills 46 = .ok (.sipush 256, 3) := by decide +kernel
theorem dX6_fills_49 : decode cX6_fills 49 = .ok (.iload_n 1, 1) := by decide +kernel
theorem dX6_fills_50 : decode cX6_fills 50 = .ok (.imul, 1) := by decide +kernel
theorem dX6_fills_51 : decode cX6_fills 51 = .ok (.iload_n 2, 1) := by decide +kernel
theorem dX6_fills_52 : decode cX6_fills 52 = .ok (.iadd, 1) := by decide +kernel
theorem dX6_fills_53 : decode cX6_fills 53 = .ok (.aload_n 0, 1) := by decide +kernel
theorem dX6_fills_54 : decode cX6_fills 54 = .ok (.iload_n 1, 1) := by decide +kernel
theorem dX6_fills_55 : decode cX6_fills 55 = .ok (.iload_n 2, 1) := by decide +kernel
theorem dX6_fills_56 : decode cX6_fills 56 = .ok (.invokevirtual 75, 3) := by decide +kernel
theorem dX6_fills_59 : decode cX6_fills 59 = .ok (.iastore, 1) := by decide +kernel
theorem dX6_fills_60 : decode cX6_fills 60 = .ok (.iinc 2 1, 3) := by decide +kernel
theorem dX6_fills_63 : decode cX6_fills 63 = .ok (.goto (-28), 3) := by decide +kernel
theorem dX6_fills_66 : decode cX6_fills 66 = .ok (.iinc 1 (-1), 3) := by decide +kernel
theorem dX6_fills_69 : decode cX6_fills 69 = .ok (.goto (-40), 3) := by decide +kernel
theorem dX6_fills_72 : decode cX6_fills 72 = .ok (.aload_n 0, 1) := by decide +kernel
theorem dX6_fills_73 : decode cX6_fills 73 = .ok (.iconst 0, 1) := by decide +kernel
theorem dX6_fills_74 : decode cX6_fills 74 = .ok (.sipush 255, 3) := by decide +kernel
theorem dX6_fills_77 : decode cX6_fills 77 = .ok (.invokevirtual 71, 3) := by decide +kernel
theorem dX6_fills_80 : decode cX6_fills 80 = .ok (.ireturn, 1) := by decide +kernel
set_option maxRecDepth 20000 in
theorem ggX6_firstFor_X6_sizeOf : GoodIn wsX6_firstFor wsX6_sizeOf := goodIn_r _ [6, 7, 8, 9, 10, 11, 12, 13, 14, 15, 16, 17, 18, 19, 20, 21, 22, 23, 24, 25] (by decide +kernel) (by decide +kernel)
set_option maxRecDepth 20000 in
theorem gX6_firstFor_X6_sizeOf : GoodIn wsX6_firstFor (wsV RX6 71 RX6 yX6_sizeOf wsX6_sizeOf) := goodIn_app (goodIn_of _ (by decide +kernel)) ggX6_firstFor_X6_sizeOf
theorem dX6_firstFor_0 : decode cX6_firstFor 0 = .ok (.iconst 0, 1) := by decide +kernel
theorem dX6_firstFor_1 : decode cX6_firstFor 1 = .ok (.istore_n 3, 1) := by decide +kernel
theorem dX6_firstFor_2 : decode cX6_firstFor 2 = .ok (.iload_n 3, 1) := by decide +kernel
theorem dX6_firstFor_3 : decode cX6_firstFor 3 = .ok (.bipush 8, 2) := by decide +kernel
theorem dX6_firstFor_5 : decode cX6_firstFor 5 = .ok (.if_icmp .ge 63, 3) := by decide +kernel
theorem dX6_firstFor_8 : decode cX6_firstFor 8 = .ok (.aload_n 0, 1) := by decide +kernel
theorem dX6_firstFor_9 : decode cX6_firstFor 9 = .ok (.getfield 25, 3) := by decide +kernel
theorem dX6_firstFor_12 : decode cX6_firstFor 12 = .ok (.iload_n 1, 1) := by decide +kernel
theorem dX6_firstFor_13 : decode cX6_firstFor 13 = .ok (.iaload, 1) := by decide +kernel
theorem dX6_firstFor_14 : decode cX6_firstFor 14 = .ok (.iload_n 2, 1) := by decide +kernel
theorem dX6_firstFor_15 : decode cX6_firstFor 15 = .ok (.iand, 1) := by decide +kernel
theorem dX6_firstFor_16 : decode cX6_firstFor 16 = .ok (.iconst 1, 1) := by decide +kernel
theorem dX6_firstFor_17 : decode cX6_firstFor 17 = .ok (.iload_n 3, 1) := by decide +kernel
theorem dX6_firstFor_18 : decode cX6_firstFor 18 = .ok (.ishl, 1) := by decide +kernel
theorem dX6_firstFor_19 : decode cX6_firstFor 19 = .ok (.iand, 1) := by decide +kernel
theorem dX6_firstFor_20 : decode cX6_firstFor 20 = .ok (.ifCond .eq 7, 3) := by decide +kernel
theorem dX6_firstFor_23 : decode cX6_firstFor 23 = .ok (.iconst 1, 1) := by decide +kernel
theorem dX6_firstFor_24 : decode cX6_firstFor 24 = .ok (.goto 4, 3) := by decide +kernel
theorem dX6_firstFor_27 : decode cX6_firstFor 27 = .ok (.iconst 0, 1) := by decide +kernel
theorem dX6_firstFor_28 : decode cX6_firstFor 28 = .ok (.istore 4, 2) := by decide +kernel
theorem dX6_firstFor_30 : decode cX6_firstFor 30 = .ok (.iload 4, 2) := by decide +kernel
theorem dX6_firstFor_32 : decode cX6_firstFor 32 = .ok (.ifCond .eq 30, 3) := by decide +kernel
theorem dX6_firstFor_35 : decode cX6_firstFor 35 = .ok (.iconst 1, 1) := by decide +kernel
theorem dX6_firstFor_36 : decode cX6_firstFor 36 = .ok (.aload_n 0, 1) := by decide +kernel
theorem dX6_firstFor_37 : decode cX6_firstFor 37 = .ok (.iload_n 1, 1) := by decide +kernel
theorem dX6_firstFor_38 : decode cX6_firstFor 38 = .ok (.iconst 1, 1) := by decide +kernel
theorem dX6_firstFor_39 : decode cX6_firstFor 39 = .ok (.iadd, 1) := by decide +kernel
theorem dX6_firstFor_40 : decode cX6_firstFor 40 = .ok (.iload_n 2, 1) := by decide +kernel
theorem dX6_firstFor_41 : decode cX6_firstFor 41 = .ok (.iconst 1, 1) := by decide +kernel
theorem dX6_firstFor_42 : decode cX6_firstFor 42 = .ok (.iload_n 3, 1) := by decide +kernel
theorem dX6_firstFor_43 : decode cX6_firstFor 43 = .ok (.ishl, 1) := by decide +kernel
theorem dX6_firstFor_44 : decode cX6_firstFor 44 = .ok (.iconst (-1), 1) := by decide +kernel
theorem dX6_firstFor_45 : decode cX6_firstFor 45 = .ok (.ixor, 1) := by decide +kernel
theorem dX6_firstFor_46 : decode cX6_firstFor 46 = .ok (.iand, 1) := by decide +kernel
theorem dX6_firstFor_47 : decode cX6_firstFor 47 = .ok (.invokevirtual 71, 3) := by decide +kernel
theorem dX6_firstFor_50 : decode cX6_firstFor 50 = .ok (.iadd, 1) := by decide +kernel
theorem dX6_firstFor_51 : decode cX6_firstFor 51 = .ok (.aload_n 0, 1) := by decide +kernel
theorem dX6_firstFor_52 : decode cX6_firstFor 52 = .ok (.iload_n 1, 1) := by decide +kernel
theorem dX6_firstFor_53 : decode cX6_firstFor 53 = .ok (.iload_n 2, 1) := by decide +kernel
theorem dX6_firstFor_54 : decode cX6_firstFor 54 = .ok (.invokevirtual 71, 3) := by decide +kernel
theorem dX6_firstFor_57 : decode cX6_firstFor 57 = .ok (.if_icmp .ne 5, 3) := by decide +kernel
theorem dX6_firstFor_60 : decode cX6_firstFor 60 = .ok (.iload_n 3, 1) := by decide +kernel
theorem dX6_firstFor_61 : decode cX6_firstFor 61 = .ok (.ireturn, 1) := by decide +kernel
theorem dX6_firstFor_62 : decode cX6_firstFor 62 = .ok (.iinc 3 1, 3) := by decide +kernel
theorem dX6_firstFor_65 : decode cX6_firstFor 65 = .ok (.goto (-63), 3) := by decide +kernel
theorem dX6_firstFor_68 : decode cX6_firstFor 68 = .ok (.bipush (-5), 2) := by decide +kernel
theorem dX6_firstFor_70 : decode cX6_firstFor 70 = .ok (.ireturn, 1) := by decide +kernel
set_option maxRecDepth 20000 in
theorem ggX6_matches_X6_findsCan : GoodIn wsX6_matches wsX6_findsCan := goodIn_r _ [6, 7, 8, 9, 10, 5, 11, 12, 13, 14, 15, 16, 17, 18, 19, 20, 21, 22, 23, 24, 42, 43, 44, 45, 46, 47, 48, 49, 50, 51, 52, 53, 54, 55, 56, 57, 58, 59] (by decide +kernel) (by decide +kernel)
set_option maxRecDepth 20000 in
theorem gX6_matches_X6_findsCan : GoodIn wsX6_matches (wsV RX6 78 RX6 yX6_findsCan wsX6_findsCan) := goodIn_app (goodIn_of _ (by decide +kernel)) ggX6_matches_X6_findsCan
set_option maxRecDepth 20000 in
theorem ggX6_matches_X6_fills : GoodIn wsX6_matches wsX6_fills := goodIn_r _ [28, 29, 30, 31, 32, 5, 33, 7, 34, 35, 36, 37, 42, 43, 44, 45, 46, 47, 48, 49, 50, 51, 52, 53, 54, 55, 56, 57, 58, 59] (by decide +kernel) (by decide +kernel)
set_option maxRecDepth 20000 in
theorem gX6_matches_X6_fills : GoodIn wsX6_matches (wsV RX6 82 RX6 yX6_fills wsX6_fills) := goodIn_app (goodIn_of _ (by decide +kernel)) ggX6_matches_X6_fills
set_option maxRecDepth 20000 in
theorem ggX6_matches_X6_firstFor : GoodIn wsX6_matches wsX6_firstFor := goodIn_r _ [41, 7, 34, 35, 36, 5, 37, 29, 42, 43, 44, 45, 46, 47, 48, 49, 50, 51, 52, 53, 54, 55, 56, 57, 58, 59] (by decide +kernel) (by decide +kernel)
set_option maxRecDepth 20000 in
theorem gX6_matches_X6_firstFor : GoodIn wsX6_matches (wsV RX6 86 RX6 yX6_firstFor wsX6_firstFor) := goodIn_app (goodIn_of _ (by decide +kernel)) ggX6_matches_X6_firstFor
theorem dX6_matches_0 : decode cX6_matches 0 = .ok (.aload_n 0, 1) := by decide +kernel
theorem dX6_matches_1 : decode cX6_matches 1 = .ok (.bipush (-5), 2) := by decide +kernel
theorem dX6_matches_3 : decode cX6_matches 3 = .ok (.invokevirtual 78, 3) := by decide +kernel
theorem dX6_matches_6 : decode cX6_matches 6 = .ok (.aload_n 0, 1) := by decide +kernel
theorem dX6_matches_7 : decode cX6_matches 7 = .ok (.invokevirtual 82, 3) := by decide +kernel
theorem dX6_matches_10 : decode cX6_matches 10 = .ok (.istore_n 1, 1) := by decide +kernel
theorem dX6_matches_11 : decode cX6_matches 11 = .ok (.sipush 255, 3) := by decide +kernel
theorem dX6_matches_14 : decode cX6_matches 14 = .ok (.istore_n 2, 1) := by decide +kernel
theorem dX6_matches_15 : decode cX6_matches 15 = .ok (.iconst 0, 1) := by decide +kernel
theorem dX6_matches_16 : decode cX6_matches 16 = .ok (.istore_n 3, 1) := by decide +kernel
theorem dX6_matches_17 : decode cX6_matches 17 = .ok (.iload_n 3, 1) := by decide +kernel
theorem dX6_matches_18 : decode cX6_matches 18 = .ok (.bipush 8, 2) := by decide +kernel
theorem dX6_matches_20 : decode cX6_matches 20 = .ok (.if_icmp .ge 49, 3) := by decide +kernel
theorem dX6_matches_23 : decode cX6_matches 23 = .ok (.aload_n 0, 1) := by decide +kernel
theorem dX6_matches_24 : decode cX6_matches 24 = .ok (.getfield 31, 3) := by decide +kernel
theorem dX6_matches_27 : decode cX6_matches 27 = .ok (.iload_n 3, 1) := by decide +kernel
theorem dX6_matches_28 : decode cX6_matches 28 = .ok (.aload_n 0, 1) := by decide +kernel
theorem dX6_matches_29 : decode cX6_matches 29 = .ok (.iload_n 3, 1) := by decide +kernel
theorem dX6_matches_30 : decode cX6_matches 30 = .ok (.iload_n 2, 1) := by decide +kernel
theorem dX6_matches_31 : decode cX6_matches 31 = .ok (.invokevirtual 86, 3) := by decide +kernel
theorem dX6_matches_34 : decode cX6_matches 34 = .ok (.iastore, 1) := by decide +kernel
theorem dX6_matches_35 : decode cX6_matches 35 = .ok (.iload_n 2, 1) := by decide +kernel
theorem dX6_matches_36 : decode cX6_matches 36 = .ok (.aload_n 0, 1) := by decide +kernel
theorem dX6_matches_37 : decode cX6_matches 37 = .ok (.getfield 31, 3) := by decide +kernel
theorem dX6_matches_40 : decode cX6_matches 40 = .ok (.iload_n 3, 1) := by decide +kernel
theorem dX6_matches_41 : decode cX6_matches 41 = .ok (.iaload, 1) := by decide +kernel
theorem dX6_matches_42 : decode cX6_matches 42 = .ok (.bipush (-5), 2) := by decide +kernel
theorem dX6_matches_44 : decode cX6_matches 44 = .ok (.if_icmp .ne 7, 3) := by decide +kernel
theorem dX6_matches_47 : decode cX6_matches 47 = .ok (.iconst (-1), 1) := by decide +kernel
theorem dX6_matches_48 : decode cX6_matches 48 = .ok (.goto 13, 3) := by decide +kernel
theorem dX6_matches_51 : decode cX6_matches 51 = .ok (.iconst 1, 1) := by decide +kernel
theorem dX6_matches_52 : decode cX6_matches 52 = .ok (.aload_n 0, 1) := by decide +kernel
theorem dX6_matches_53 : decode cX6_matches 53 = .ok (.getfield 31, 3) := by decide +kernel
theorem dX6_matches_56 : decode cX6_matches 56 = .ok (.iload_n 3, 1) := by decide +kernel
theorem dX6_matches_57 : decode cX6_matches 57 = .ok (.iaload, 1) := by decide +kernel
theorem dX6_matches_58 : decode cX6_matches 58 = .ok (.ishl, 1) := by decide +kernel
theorem dX6_matches_59 : decode cX6_matches 59 = .ok (.iconst (-1), 1) := by decide +kernel
theorem dX6_matches_60 : decode cX6_matches 60 = .ok (.ixor, 1) := by decide +kernel
theorem dX6_matches_61 : decode cX6_matches 61 = .ok (.iand, 1) := by decide +kernel
theorem dX6_matches_62 : decode cX6_matches 62 = .ok (.istore_n 2, 1) := by decide +kernel
theorem dX6_matches_63 : decode cX6_matches 63 = .ok (.iinc 3 1, 3) := by decide +kernel
theorem dX6_matches_66 : decode cX6_matches 66 = .ok (.goto (-49), 3) := by decide +kernel
theorem dX6_matches_69 : decode cX6_matches 69 = .ok (.iload_n 1, 1) := by decide +kernel
theorem dX6_matches_70 : decode cX6_matches 70 = .ok (.ireturn, 1) := by decide +kernel
theorem dX6_openMany_0 : decode cX6_openMany 0 = .ok (.iconst 0, 1) := by decide +kernel
theorem dX6_openMany_1 : decode cX6_openMany 1 = .ok (.istore_n 1, 1) := by decide +kernel
theorem dX6_openMany_2 : decode cX6_openMany 2 = .ok (.iconst 0, 1) := by decide +kernel
theorem dX6_openMany_3 : decode cX6_openMany 3 = .ok (.istore_n 2, 1) := by decide +kernel
theorem dX6_openMany_4 : decode cX6_openMany 4 = .ok (.iload_n 2, 1) := by decide +kernel
theorem dX6_openMany_5 : decode cX6_openMany 5 = .ok (.bipush 64, 2) := by decide +kernel
theorem dX6_openMany_7 : decode cX6_openMany 7 = .ok (.if_icmp .ge 21, 3) := by decide +kernel
theorem dX6_openMany_10 : decode cX6_openMany 10 = .ok (.iload_n 1, 1) := by decide +kernel
theorem dX6_openMany_11 : decode cX6_openMany 11 = .ok (.aload_n 0, 1) := by decide +kernel
theorem dX6_openMany_12 : decode cX6_openMany 12 = .ok (.getfield 7, 3) := by decide +kernel
theorem dX6_openMany_15 : decode cX6_openMany 15 = .ok (.bipush 97, 2) := by decide +kernel
theorem dX6_openMany_17 : decode cX6_openMany 17 = .ok (.iload_n 2, 1) := by decide +kernel
theorem dX6_openMany_18 : decode cX6_openMany 18 = .ok (.iadd, 1) := by decide +kernel
theorem dX6_openMany_19 : decode cX6_openMany 19 = .ok (.iaload, 1) := by decide +kernel
theorem dX6_openMany_20 : decode cX6_openMany 20 = .ok (.iadd, 1) := by decide +kernel
theorem dX6_openMany_21 : decode cX6_openMany 21 = .ok (.istore_n 1, 1) := by decide +kernel
theorem dX6_openMany_22 : decode cX6_openMany 22 = .ok (.iinc 2 1, 3) := by decide +kernel
theorem dX6_openMany_25 : decode cX6_openMany 25 = .ok (.goto (-21), 3) := by decide +kernel
theorem dX6_openMany_28 : decode cX6_openMany 28 = .ok (.iload_n 1, 1) := by decide +kernel
theorem dX6_openMany_29 : decode cX6_openMany 29 = .ok (.ireturn, 1) := by decide +kernel
set_option maxRecDepth 20000 in
theorem ggX6_wish_X6_isPair : GoodIn wsX6_wish wsX6_isPair := goodIn_r _ [6, 7, 8, 5, 9, 10, 11, 12] (by decide +kernel) (by decide +kernel)
set_option maxRecDepth 20000 in
theorem gX6_wish_X6_isPair : GoodIn wsX6_wish (va_wsS RX6 89 yX6_isPair wsX6_isPair) := goodIn_app (goodIn_of _ (by decide +kernel)) ggX6_wish_X6_isPair
set_option maxRecDepth 20000 in
theorem ggX6_wish_X6_isOpen : GoodIn wsX6_wish wsX6_isOpen := goodIn_r _ [16, 2, 27, 28, 29, 30, 31, 32, 33, 34, 35, 36, 37, 38, 39, 40, 41, 42, 43, 44] (by decide +kernel) (by decide +kernel)
set_option maxRecDepth 20000 in
theorem gX6_wish_X6_isOpen : GoodIn wsX6_wish (wsV RX6 62 RX6 yX6_isOpen wsX6_isOpen) := goodIn_app (goodIn_of _ (by decide +kernel)) ggX6_wish_X6_isOpen
set_option maxRecDepth 20000 in
theorem ggX6_wish_X6_records : GoodIn wsX6_wish wsX6_records := goodIn_r _ [20, 21, 22, 2, 27, 28, 29, 30, 31, 32, 33, 34, 35, 36, 37, 38, 39, 40, 41, 42, 43, 44] (by decide +kernel) (by decide +kernel)
set_option maxRecDepth 20000 in
theorem gX6_wish_X6_records : GoodIn wsX6_wish (wsV RX6 92 RX6 yX6_records wsX6_records) := goodIn_app (goodIn_of _ (by decide +kernel)) ggX6_wish_X6_records
set_option maxRecDepth 20000 in
theorem ggX6_wish_X6_openMany : GoodIn wsX6_wish wsX6_openMany := goodIn_r _ [26, 2, 27, 28, 29, 30, 31, 32, 33, 34, 35, 36, 37, 38, 39, 40, 41, 42, 43, 44] (by decide +kernel) (by decide +kernel)
set_option maxRecDepth 20000 in
theorem gX6_wish_X6_openMany : GoodIn wsX6_wish (wsV RX6 95 RX6 yX6_openMany wsX6_openMany) := goodIn_app (goodIn_of _ (by decide +kernel)) ggX6_wish_X6_openMany
theorem dX6_wish_0 : decode cX6_wish 0 = .ok (.aload_n 0, 1) := by decide +kernel
theorem dX6_wish_1 : decode cX6_wish 1 = .ok (.iconst 0, 1) := by decide +kernel
theorem dX6_wish_2 : decode cX6_wish 2 = .ok (.putfield 43, 3) := by decide +kernel
theorem dX6_wish_5 : decode cX6_wish 5 = .ok (.iload_n 1, 1) := by decide +kernel
theorem dX6_wish_6 : decode cX6_wish 6 = .ok (.iload_n 2, 1) := by decide +kernel
theorem dX6_wish_7 : decode cX6_wish 7 = .ok (.invokestatic 89, 3) := by decide +kernel
theorem dX6_wish_10 : decode cX6_wish 10 = .ok (.ifCond .ne 5, 3) := by decide +kernel
theorem dX6_wish_13 : decode cX6_wish 13 = .ok (.iconst (-1), 1) := by decide +kernel
theorem dX6_wish_14 : decode cX6_wish 14 = .ok (.ireturn, 1) := by decide +kernel
theorem dX6_wish_15 : decode cX6_wish 15 = .ok (.aload_n 0, 1) := by decide +kernel
theorem dX6_wish_16 : decode cX6_wish 16 = .ok (.iload_n 1, 1) := by decide +kernel
theorem dX6_wish_17 : decode cX6_wish 17 = .ok (.iload_n 2, 1) := by decide +kernel
theorem dX6_wish_18 : decode cX6_wish 18 = .ok (.invokevirtual 62, 3) := by decide +kernel
theorem dX6_wish_21 : decode cX6_wish 21 = .ok (.ifCond .eq 6, 3) := by decide +kernel
theorem dX6_wish_24 : decode cX6_wish 24 = .ok (.bipush (-4), 2) := by decide +kernel
theorem dX6_wish_26 : decode cX6_wish 26 = .ok (.ireturn, 1) := by decide +kernel
theorem dX6_wish_27 : decode cX6_wish 27 = .ok (.aload_n 0, 1) := by decide +kernel
theorem dX6_wish_28 : decode cX6_wish 28 = .ok (.invokevirtual 92, 3) := by decide +kernel
theorem dX6_wish_31 : decode cX6_wish 31 = .ok (.aload_n 0, 1) := by decide +kernel
theorem dX6_wish_32 : decode cX6_wish 32 = .ok (.getfield 7, 3) := by decide +kernel
theorem dX6_wish_35 : decode cX6_wish 35 = .ok (.bipush 97, 2) := by decide +kernel
theorem dX6_wish_37 : decode cX6_wish 37 = .ok (.bipush 8, 2) := by decide +kernel
theorem dX6_wish_39 : decode cX6_wish 39 = .ok (.iload_n 1, 1) := by decide +kernel
theorem dX6_wish_40 : decode cX6_wish 40 = .ok (.imul, 1) := by decide +kernel
theorem dX6_wish_41 : decode cX6_wish 41 = .ok (.iadd, 1) := by decide +kernel
theorem dX6_wish_42 : decode cX6_wish 42 = .ok (.iload_n 2, 1) := by decide +kernel
theorem dX6_wish_43 : decode cX6_wish 43 = .ok (.iadd, 1) := by decide +kernel
theorem dX6_wish_44 : decode cX6_wish 44 = .ok (.iconst 1, 1) := by decide +kernel
theorem dX6_wish_45 : decode cX6_wish 45 = .ok (.iastore, 1) := by decide +kernel
theorem dX6_wish_46 : decode cX6_wish 46 = .ok (.aload_n 0, 1) := by decide +kernel
theorem dX6_wish_47 : decode cX6_wish 47 = .ok (.invokevirtual 95, 3) := by decide +kernel
theorem dX6_wish_50 : decode cX6_wish 50 = .ok (.ireturn, 1) := by decide +kernel
set_option maxRecDepth 20000 in
theorem ggX6_withdraw_X6_isPair : GoodIn wsX6_withdraw wsX6_isPair := goodIn_r _ [6, 7, 8, 5, 9, 10, 11, 12] (by decide +kernel) (by decide +kernel)
set_option maxRecDepth 20000 in
theorem gX6_withdraw_X6_isPair : GoodIn wsX6_withdraw (va_wsS RX6 89 yX6_isPair wsX6_isPair) := goodIn_app (goodIn_of _ (by decide +kernel)) ggX6_withdraw_X6_isPair
set_option maxRecDepth 20000 in
theorem ggX6_withdraw_X6_isOpen : GoodIn wsX6_withdraw wsX6_isOpen := goodIn_r _ [16, 2, 27, 28, 29, 30, 31, 32, 33, 34, 35, 36, 37, 38, 39, 40, 41, 42, 43, 44] (by decide +kernel) (by decide +kernel)
set_option maxRecDepth 20000 in
theorem gX6_withdraw_X6_isOpen : GoodIn wsX6_withdraw (wsV RX6 62 RX6 yX6_isOpen wsX6_isOpen) := goodIn_app (goodIn_of _ (by decide +kernel)) ggX6_withdraw_X6_isOpen
set_option maxRecDepth 20000 in
theorem ggX6_withdraw_X6_records : GoodIn wsX6_withdraw wsX6_records := goodIn_r _ [20, 21, 22, 2, 27, 28, 29, 30, 31, 32, 33, 34, 35, 36, 37, 38, 39, 40, 41, 42, 43, 44] (by decide +kernel) (by decide +kernel)
set_option maxRecDepth 20000 in
theorem gX6_withdraw_X6_records : GoodIn wsX6_withdraw (wsV RX6 92 RX6 yX6_records wsX6_records) := goodIn_app (goodIn_of _ (by decide +kernel)) ggX6_withdraw_X6_records
set_option maxRecDepth 20000 in
theorem ggX6_withdraw_X6_openMany : GoodIn wsX6_withdraw wsX6_openMany := goodIn_r _ [26, 2, 27, 28, 29, 30, 31, 32, 33, 34, 35, 36, 37, 38, 39, 40, 41, 42, 43, 44] (by decide +kernel) (by decide +kernel)
set_option maxRecDepth 20000 in
theorem gX6_withdraw_X6_openMany : GoodIn wsX6_withdraw (wsV RX6 95 RX6 yX6_openMany wsX6_openMany) := goodIn_app (goodIn_of _ (by decide +kernel)) ggX6_withdraw_X6_openMany
theorem dX6_withdraw_0 : decode cX6_withdraw 0 = .ok (.aload_n 0, 1) := by decide +kernel
theorem dX6_withdraw_1 : decode cX6_withdraw 1 = .ok (.iconst 0, 1) := by decide +kernel
theorem dX6_withdraw_2 : decode cX6_withdraw 2 = .ok (.putfield 43, 3) := by decide +kernel
theorem dX6_withdraw_5 : decode cX6_withdraw 5 = .ok (.iload_n 1, 1) := by decide +kernel
theorem dX6_withdraw_6 : decode cX6_withdraw 6 = .ok (.iload_n 2, 1) := by decide +kernel
theorem dX6_withdraw_7 : decode cX6_withdraw 7 = .ok (.invokestatic 89, 3) := by decide +kernel
theorem dX6_withdraw_10 : decode cX6_withdraw 10 = .ok (.ifCond .ne 5, 3) := by decide +kernel
theorem dX6_withdraw_13 : decode cX6_withdraw 13 = .ok (.iconst (-1), 1) := by decide +kernel
theorem dX6_withdraw_14 : decode cX6_withdraw 14 = .ok (.ireturn, 1) := by decide +kernel
theorem dX6_withdraw_15 : decode cX6_withdraw 15 = .ok (.aload_n 0, 1) := by decide +kernel
theorem dX6_withdraw_16 : decode cX6_withdraw 16 = .ok (.iload_n 1, 1) := by decide +kernel
theorem dX6_withdraw_17 : decode cX6_withdraw 17 = .ok (.iload_n 2, 1) := by decide +kernel
theorem dX6_withdraw_18 : decode cX6_withdraw 18 = .ok (.invokevirtual 62, 3) := by decide +kernel
theorem dX6_withdraw_21 : decode cX6_withdraw 21 = .ok (.ifCond .ne 6, 3) := by decide +kernel
theorem dX6_withdraw_24 : decode cX6_withdraw 24 = .ok (.bipush (-4), 2) := by decide +kernel
theorem dX6_withdraw_26 : decode cX6_withdraw 26 = .ok (.ireturn, 1) := by decide +kernel
theorem dX6_withdraw_27 : decode cX6_withdraw 27 = .ok (.aload_n 0, 1) := by decide +kernel
theorem dX6_withdraw_28 : decode cX6_withdraw 28 = .ok (.invokevirtual 92, 3) := by decide +kernel
theorem dX6_withdraw_31 : decode cX6_withdraw 31 = .ok (.aload_n 0, 1) := by decide +kernel
theorem dX6_withdraw_32 : decode cX6_withdraw 32 = .ok (.getfield 7, 3) := by decide +kernel
theorem dX6_withdraw_35 : decode cX6_withdraw 35 = .ok (.bipush 97, 2) := by decide +kernel
theorem dX6_withdraw_37 : decode cX6_withdraw 37 = .ok (.bipush 8, 2) := by decide +kernel
theorem dX6_withdraw_39 : decode cX6_withdraw 39 = .ok (.iload_n 1, 1) := by decide +kernel
theorem dX6_withdraw_40 : decode cX6_withdraw 40 = .ok (.imul, 1) := by decide +kernel
theorem dX6_withdraw_41 : decode cX6_withdraw 41 = .ok (.iadd, 1) := by decide +kernel
theorem dX6_withdraw_42 : decode cX6_withdraw 42 = .ok (.iload_n 2, 1) := by decide +kernel
theorem dX6_withdraw_43 : decode cX6_withdraw 43 = .ok (.iadd, 1) := by decide +kernel
theorem dX6_withdraw_44 : decode cX6_withdraw 44 = .ok (.iconst 0, 1) := by decide +kernel
theorem dX6_withdraw_45 : decode cX6_withdraw 45 = .ok (.iastore, 1) := by decide +kernel
theorem dX6_withdraw_46 : decode cX6_withdraw 46 = .ok (.aload_n 0, 1) := by decide +kernel
theorem dX6_withdraw_47 : decode cX6_withdraw 47 = .ok (.invokevirtual 95, 3) := by decide +kernel
theorem dX6_withdraw_50 : decode cX6_withdraw 50 = .ok (.ireturn, 1) := by decide +kernel
set_option maxRecDepth 20000 in
theorem ggX6_quarrel_X6_isPair : GoodIn wsX6_quarrel wsX6_isPair := goodIn_r _ [6, 7, 8, 5, 9, 10, 11, 12] (by decide +kernel) (by decide +kernel)
set_option maxRecDepth 20000 in
theorem gX6_quarrel_X6_isPair : GoodIn wsX6_quarrel (va_wsS RX6 89 yX6_isPair wsX6_isPair) := goodIn_app (goodIn_of _ (by decide +kernel)) ggX6_quarrel_X6_isPair
set_option maxRecDepth 20000 in
theorem ggX6_quarrel_X6_in : GoodIn wsX6_quarrel wsX6_in := goodIn_r _ [12] (by decide +kernel) (by decide +kernel)
set_option maxRecDepth 20000 in
theorem gX6_quarrel_X6_in : GoodIn wsX6_quarrel (va_wsS RX6 47 yX6_in wsX6_in) := goodIn_app (goodIn_of _ (by decide +kernel)) ggX6_quarrel_X6_in
set_option maxRecDepth 20000 in
theorem ggX6_quarrel_X6_records : GoodIn wsX6_quarrel wsX6_records := goodIn_r _ [16, 17, 18, 2, 19, 20, 21, 22, 23, 24, 25, 26, 27, 28, 29, 30, 31, 32, 33, 34, 35, 36] (by decide +kernel) (by decide +kernel)
set_option maxRecDepth 20000 in
theorem gX6_quarrel_X6_records : GoodIn wsX6_quarrel (wsV RX6 92 RX6 yX6_records wsX6_records) := goodIn_app (goodIn_of _ (by decide +kernel)) ggX6_quarrel_X6_records
theorem dX6_quarrel_0 : decode cX6_quarrel 0 = .ok (.aload_n 0, 1) := by decide +kernel
theorem dX6_quarrel_1 : decode cX6_quarrel 1 = .ok (.iconst 0, 1) := by decide +kernel
theorem dX6_quarrel_2 : decode cX6_quarrel 2 = .ok (.putfield 43, 3) := by decide +kernel
theorem dX6_quarrel_5 : decode cX6_quarrel 5 = .ok (.iload_n 1, 1) := by decide +kernel
theorem dX6_quarrel_6 : decode cX6_quarrel 6 = .ok (.iload_n 2, 1) := by decide +kernel
theorem dX6_quarrel_7 : decode cX6_quarrel 7 = .ok (.invokestatic 89, 3) := by decide +kernel
theorem dX6_quarrel_10 : decode cX6_quarrel 10 = .ok (.ifCond .ne 5, 3) := by decide +kernel
theorem dX6_quarrel_13 : decode cX6_quarrel 13 = .ok (.iconst (-1), 1) := by decide +kernel
theorem dX6_quarrel_14 : decode cX6_quarrel 14 = .ok (.ireturn, 1) := by decide +kernel
theorem dX6_quarrel_15 : decode cX6_quarrel 15 = .ok (.iload_n 3, 1) := by decide +kernel
theorem dX6_quarrel_16 : decode cX6_quarrel 16 = .ok (.iconst 1, 1) := by decide +kernel
theorem dX6_quarrel_17 : decode cX6_quarrel 17 = .ok (.bipush 50, 2) := by decide +kernel
theorem dX6_quarrel_19 : decode cX6_quarrel 19 = .ok (.invokestatic 47, 3) := by decide +kernel
theorem dX6_quarrel_22 : decode cX6_quarrel 22 = .ok (.ifCond .ne 6, 3) := by decide +kernel
theorem dX6_quarrel_25 : decode cX6_quarrel 25 = .ok (.bipush (-2), 2) := by decide +kernel
theorem dX6_quarrel_27 : decode cX6_quarrel 27 = .ok (.ireturn, 1) := by decide +kernel
theorem dX6_quarrel_28 : decode cX6_quarrel 28 = .ok (.aload_n 0, 1) := by decide +kernel
theorem dX6_quarrel_29 : decode cX6_quarrel 29 = .ok (.invokevirtual 92, 3) := by decide +kernel
theorem dX6_quarrel_32 : decode cX6_quarrel 32 = .ok (.aload_n 0, 1) := by decide +kernel
theorem dX6_quarrel_33 : decode cX6_quarrel 33 = .ok (.getfield 7, 3) := by decide +kernel
theorem dX6_quarrel_36 : decode cX6_quarrel 36 = .ok (.bipush 33, 2) := by decide +kernel
theorem dX6_quarrel_38 : decode cX6_quarrel 38 = .ok (.bipush 8, 2) := by decide +kernel
theorem dX6_quarrel_40 : decode cX6_quarrel 40 = .ok (.iload_n 1, 1) := by decide +kernel
theorem dX6_quarrel_41 : decode cX6_quarrel 41 = .ok (.imul, 1) := by decide +kernel
theorem dX6_quarrel_42 : decode cX6_quarrel 42 = .ok (.iadd, 1) := by decide +kernel
theorem dX6_quarrel_43 : decode cX6_quarrel 43 = .ok (.iload_n 2, 1) := by decide +kernel
theorem dX6_quarrel_44 : decode cX6_quarrel 44 = .ok (.iadd, 1) := by decide +kernel
theorem dX6_quarrel_45 : decode cX6_quarrel 45 = .ok (.iaload, 1) := by decide +kernel
theorem dX6_quarrel_46 : decode cX6_quarrel 46 = .ok (.istore 4, 2) := by decide +kernel
theorem dX6_quarrel_48 : decode cX6_quarrel 48 = .ok (.aload_n 0, 1) := by decide +kernel
theorem dX6_quarrel_49 : decode cX6_quarrel 49 = .ok (.getfield 7, 3) := by decide +kernel
theorem dX6_quarrel_52 : decode cX6_quarrel 52 = .ok (.bipush 33, 2) := by decide +kernel
theorem dX6_quarrel_54 : decode cX6_quarrel 54 = .ok (.bipush 8, 2) := by decide +kernel
theorem dX6_quarrel_56 : decode cX6_quarrel 56 = .ok (.iload_n 1, 1) := by decide +kernel
theorem dX6_quarrel_57 : decode cX6_quarrel 57 = .ok (.imul, 1) := by decide +kernel
theorem dX6_quarrel_58 : decode cX6_quarrel 58 = .ok (.iadd, 1) := by decide +kernel
theorem dX6_quarrel_59 : decode cX6_quarrel 59 = .ok (.iload_n 2, 1) := by decide +kernel
theorem dX6_quarrel_60 : decode cX6_quarrel 60 = .ok (.iadd, 1) := by decide +kernel
theorem dX6_quarrel_61 : decode cX6_quarrel 61 = .ok (.iload_n 3, 1) := by decide +kernel
theorem dX6_quarrel_62 : decode cX6_quarrel 62 = .ok (.iastore, 1) := by decide +kernel
theorem dX6_quarrel_63 : decode cX6_quarrel 63 = .ok (.iload 4, 2) := by decide +kernel
theorem dX6_quarrel_65 : decode cX6_quarrel 65 = .ok (.ireturn, 1) := by decide +kernel
set_option maxRecDepth 20000 in
theorem ggX6_reconcile_X6_isPair : GoodIn wsX6_reconcile wsX6_isPair := goodIn_r _ [6, 7, 8, 5, 9, 10, 11, 12] (by decide +kernel) (by decide +kernel)
set_option maxRecDepth 20000 in
theorem gX6_reconcile_X6_isPair : GoodIn wsX6_reconcile (va_wsS RX6 89 yX6_isPair wsX6_isPair) := goodIn_app (goodIn_of _ (by decide +kernel)) ggX6_reconcile_X6_isPair
set_option maxRecDepth 20000 in
theorem ggX6_reconcile_X6_records : GoodIn wsX6_reconcile wsX6_records := goodIn_r _ [16, 17, 18, 2, 19, 20, 21, 22, 23, 24, 25, 26, 27, 28, 29, 30, 31, 32, 33, 34, 35, 36] (by decide +kernel) (by decide +kernel)
set_option maxRecDepth 20000 in
theorem gX6_reconcile_X6_records : GoodIn wsX6_reconcile (wsV RX6 92 RX6 yX6_records wsX6_records) := goodIn_app (goodIn_of _ (by decide +kernel)) ggX6_reconcile_X6_records
theorem dX6_reconcile_0 : decode cX6_reconcile 0 = .ok (.aload_n 0, 1) := by decide +kernel
theorem dX6_reconcile_1 : decode cX6_reconcile 1 = .ok (.iconst 0, 1) := by decide +kernel
theorem dX6_reconcile_2 : decode cX6_reconcile 2 = .ok (.putfield 43, 3) := by decide +kernel
theorem dX6_reconcile_5 : decode cX6_reconcile 5 = .ok (.iload_n 1, 1) := by decide +kernel
theorem dX6_reconcile_6 : decode cX6_reconcile 6 = .ok (.iload_n 2, 1) := by decide +kernel
theorem dX6_reconcile_7 : decode cX6_reconcile 7 = .ok (.invokestatic 89, 3) := by decide +kernel
theorem dX6_reconcile_10 : decode cX6_reconcile 10 = .ok (.ifCond .ne 5, 3) := by decide +kernel
theorem dX6_reconcile_13 : decode cX6_reconcile 13 = .ok (.iconst (-1), 1) := by decide +kernel
theorem dX6_reconcile_14 : decode cX6_reconcile 14 = .ok (.ireturn, 1) := by decide +kernel
theorem dX6_reconcile_15 : decode cX6_reconcile 15 = .ok (.aload_n 0, 1) := by decide +kernel
theorem dX6_reconcile_16 : decode cX6_reconcile 16 = .ok (.getfield 7, 3) := by decide +kernel
theorem dX6_reconcile_19 : decode cX6_reconcile 19 = .ok (.bipush 33, 2) := by decide +kernel
theorem dX6_reconcile_21 : decode cX6_reconcile 21 = .ok (.bipush 8, 2) := by decide +kernel
theorem dX6_reconcile_23 : decode cX6_reconcile 23 = .ok (.iload_n 1, 1) := by decide +kernel
theorem dX6_reconcile_24 : decode cX6_reconcile 24 = .ok (.imul, 1) := by decide +kernel
theorem dX6_reconcile_25 : decode cX6_reconcile 25 = .ok (.iadd, 1) := by decide +kernel
theorem dX6_reconcile_26 : decode cX6_reconcile 26 = .ok (.iload_n 2, 1) := by decide +kernel
theorem dX6_reconcile_27 : decode cX6_reconcile 27 = .ok (.iadd, 1) := by decide +kernel
theorem dX6_reconcile_28 : decode cX6_reconcile 28 = .ok (.iaload, 1) := by decide +kernel
theorem dX6_reconcile_29 : decode cX6_reconcile 29 = .ok (.istore_n 3, 1) := by decide +kernel
theorem dX6_reconcile_30 : decode cX6_reconcile 30 = .ok (.iload_n 3, 1) := by decide +kernel
theorem dX6_reconcile_31 : decode cX6_reconcile 31 = .ok (.ifCond .ne 6, 3) := by decide +kernel
theorem dX6_reconcile_34 : decode cX6_reconcile 34 = .ok (.bipush (-4), 2) := by decide +kernel
theorem dX6_reconcile_36 : decode cX6_reconcile 36 = .ok (.ireturn, 1) := by decide +kernel
theorem dX6_reconcile_37 : decode cX6_reconcile 37 = .ok (.aload_n 0, 1) := by decide +kernel
theorem dX6_reconcile_38 : decode cX6_reconcile 38 = .ok (.invokevirtual 92, 3) := by decide +kernel
theorem dX6_reconcile_41 : decode cX6_reconcile 41 = .ok (.aload_n 0, 1) := by decide +kernel
theorem dX6_reconcile_42 : decode cX6_reconcile 42 = .ok (.getfield 7, 3) := by decide +kernel
theorem dX6_reconcile_45 : decode cX6_reconcile 45 = .ok (.bipush 33, 2) := by decide +kernel
theorem dX6_reconcile_47 : decode cX6_reconcile 47 = .ok (.bipush 8, 2) := by decide +kernel
theorem dX6_reconcile_49 : decode cX6_reconcile 49 = .ok (.iload_n 1, 1) := by decide +kernel
theorem dX6_reconcile_50 : decode cX6_reconcile 50 = .ok (.imul, 1) := by decide +kernel
theorem dX6_reconcile_51 : decode cX6_reconcile 51 = .ok (.iadd, 1) := by decide +kernel
theorem dX6_reconcile_52 : decode cX6_reconcile 52 = .ok (.iload_n 2, 1) := by decide +kernel
theorem dX6_reconcile_53 : decode cX6_reconcile 53 = .ok (.iadd, 1) := by decide +kernel
theorem dX6_reconcile_54 : decode cX6_reconcile 54 = .ok (.iconst 0, 1) := by decide +kernel
theorem dX6_reconcile_55 : decode cX6_reconcile 55 = .ok (.iastore, 1) := by decide +kernel
theorem dX6_reconcile_56 : decode cX6_reconcile 56 = .ok (.iload_n 3, 1) := by decide +kernel
theorem dX6_reconcile_57 : decode cX6_reconcile 57 = .ok (.ireturn, 1) := by decide +kernel
set_option maxRecDepth 20000 in
theorem ggX6_link_X6_isGate : GoodIn wsX6_link wsX6_isGate := goodIn_r _ [6, 7, 8, 5, 9] (by decide +kernel) (by decide +kernel)
set_option maxRecDepth 20000 in
theorem gX6_link_X6_isGate : GoodIn wsX6_link (va_wsS RX6 98 yX6_isGate wsX6_isGate) := goodIn_app (goodIn_of _ (by decide +kernel)) ggX6_link_X6_isGate
set_option maxRecDepth 20000 in
theorem ggX6_link_X6_records : GoodIn wsX6_link wsX6_records := goodIn_r _ [13, 14, 15, 2, 16, 17, 18, 19, 20, 21, 22, 23, 24, 25, 26, 27, 28, 29, 30, 31, 32, 33] (by decide +kernel) (by decide +kernel)
set_option maxRecDepth 20000 in
theorem gX6_link_X6_records : GoodIn wsX6_link (wsV RX6 92 RX6 yX6_records wsX6_records) := goodIn_app (goodIn_of _ (by decide +kernel)) ggX6_link_X6_records
theorem dX6_link_0 : decode cX6_link 0 = .ok (.aload_n 0, 1) := by decide +kernel
theorem dX6_link_1 : decode cX6_link 1 = .ok (.iconst 0, 1) := by decide +kernel
theorem dX6_link_2 : decode cX6_link 2 = .ok (.putfield 43, 3) := by decide +kernel
theorem dX6_link_5 : decode cX6_link 5 = .ok (.iload_n 1, 1) := by decide +kernel
theorem dX6_link_6 : decode cX6_link 6 = .ok (.invokestatic 98, 3) := by decide +kernel
theorem dX6_link_9 : decode cX6_link 9 = .ok (.ifCond .eq 10, 3) := by decide +kernel
theorem dX6_link_12 : decode cX6_link 12 = .ok (.iload_n 2, 1) := by decide +kernel
theorem dX6_link_13 : decode cX6_link 13 = .ok (.invokestatic 98, 3) := by decide +kernel
theorem dX6_link_16 : decode cX6_link 16 = .ok (.ifCond .ne 5, 3) := by decide +kernel
theorem dX6_link_19 : decode cX6_link 19 = .ok (.iconst (-1), 1) := by decide +kernel
theorem dX6_link_20 : decode cX6_link 20 = .ok (.ireturn, 1) := by decide +kernel
theorem dX6_link_21 : decode cX6_link 21 = .ok (.aload_n 0, 1) := by decide +kernel
theorem dX6_link_22 : decode cX6_link 22 = .ok (.invokevirtual 92, 3) := by decide +kernel
theorem dX6_link_25 : decode cX6_link 25 = .ok (.aload_n 0, 1) := by decide +kernel
theorem dX6_link_26 : decode cX6_link 26 = .ok (.getfield 7, 3) := by decide +kernel
theorem dX6_link_29 : decode cX6_link 29 = .ok (.bipush 17, 2) := by decide +kernel
theorem dX6_link_31 : decode cX6_link 31 = .ok (.iconst 4, 1) := by decide +kernel
theorem dX6_link_32 : decode cX6_link 32 = .ok (.iload_n 1, 1) := by decide +kernel
theorem dX6_link_33 : decode cX6_link 33 = .ok (.imul, 1) := by decide +kernel
theorem dX6_link_34 : decode cX6_link 34 = .ok (.iadd, 1) := by decide +kernel
theorem dX6_link_35 : decode cX6_link 35 = .ok (.iload_n 2, 1) := by decide +kernel
theorem dX6_link_36 : decode cX6_link 36 = .ok (.iadd, 1) := by decide +kernel
theorem dX6_link_37 : decode cX6_link 37 = .ok (.iaload, 1) := by decide +kernel
theorem dX6_link_38 : decode cX6_link 38 = .ok (.istore 4, 2) := by decide +kernel
theorem dX6_link_40 : decode cX6_link 40 = .ok (.aload_n 0, 1) := by decide +kernel
theorem dX6_link_41 : decode cX6_link 41 = .ok (.getfield 7, 3) := by decide +kernel
theorem dX6_link_44 : decode cX6_link 44 = .ok (.bipush 17, 2) := by decide +kernel
theorem dX6_link_46 : decode cX6_link 46 = .ok (.iconst 4, 1) := by decide +kernel
theorem dX6_link_47 : decode cX6_link 47 = .ok (.iload_n 1, 1) := by decide +kernel
theorem dX6_link_48 : decode cX6_link 48 = .ok (.imul, 1) := by decide +kernel
theorem dX6_link_49 : decode cX6_link 49 = .ok (.iadd, 1) := by decide +kernel
theorem dX6_link_50 : decode cX6_link 50 = .ok (.iload_n 2, 1) := by decide +kernel
theorem dX6_link_51 : decode cX6_link 51 = .ok (.iadd, 1) := by decide +kernel
theorem dX6_link_52 : decode cX6_link 52 = .ok (.iload_n 3, 1) := by decide +kernel
theorem dX6_link_53 : decode cX6_link 53 = .ok (.ifCond .eq 7, 3) := by decide +kernel
theorem dX6_link_56 : decode cX6_link 56 = .ok (.iconst 1, 1) := by decide +kernel
theorem dX6_link_57 : decode cX6_link 57 = .ok (.goto 4, 3) := by decide +kernel
theorem dX6_link_60 : decode cX6_link 60 = .ok (.iconst 0, 1) := by decide +kernel
theorem dX6_link_61 : decode cX6_link 61 = .ok (.iastore, 1) := by decide +kernel
theorem dX6_link_62 : decode cX6_link 62 = .ok (.iload 4, 2) := by decide +kernel
theorem dX6_link_64 : decode cX6_link 64 = .ok (.ireturn, 1) := by decide +kernel
set_option maxRecDepth 20000 in
theorem ggX6_move_X6_isPerson : GoodIn wsX6_move wsX6_isPerson := goodIn_r _ [6, 7, 8, 5, 9] (by decide +kernel) (by decide +kernel)
set_option maxRecDepth 20000 in
theorem gX6_move_X6_isPerson : GoodIn wsX6_move (va_wsS RX6 51 yX6_isPerson wsX6_isPerson) := goodIn_app (goodIn_of _ (by decide +kernel)) ggX6_move_X6_isPerson
set_option maxRecDepth 20000 in
theorem ggX6_move_X6_isGate : GoodIn wsX6_move wsX6_isGate := goodIn_r _ [12, 7, 8, 5, 9] (by decide +kernel) (by decide +kernel)
set_option maxRecDepth 20000 in
theorem gX6_move_X6_isGate : GoodIn wsX6_move (va_wsS RX6 98 yX6_isGate wsX6_isGate) := goodIn_app (goodIn_of _ (by decide +kernel)) ggX6_move_X6_isGate
set_option maxRecDepth 20000 in
theorem ggX6_move_X6_records : GoodIn wsX6_move wsX6_records := goodIn_r _ [16, 17, 18, 2, 19, 20, 21, 22, 23, 24, 25, 26, 27, 28, 29, 30, 31, 32, 33, 34, 35, 36] (by decide +kernel) (by decide +kernel)
set_option maxRecDepth 20000 in
theorem gX6_move_X6_records : GoodIn wsX6_move (wsV RX6 92 RX6 yX6_records wsX6_records) := goodIn_app (goodIn_of _ (by decide +kernel)) ggX6_move_X6_records
theorem dX6_move_0 : decode cX6_move 0 = .ok (.aload_n 0, 1) := by decide +kernel
theorem dX6_move_1 : decode cX6_move 1 = .ok (.iconst 0, 1) := by decide +kernel
theorem dX6_move_2 : decode cX6_move 2 = .ok (.putfield 43, 3) := by decide +kernel
theorem dX6_move_5 : decode cX6_move 5 = .ok (.iload_n 2, 1) := by decide +kernel
theorem dX6_move_6 : decode cX6_move 6 = .ok (.invokestatic 51, 3) := by decide +kernel
theorem dX6_move_9 : decode cX6_move 9 = .ok (.ifCond .eq 10, 3) := by decide +kernel
theorem dX6_move_12 : decode cX6_move 12 = .ok (.iload_n 3, 1) := by decide +kernel
theorem dX6_move_13 : decode cX6_move 13 = .ok (.invokestatic 98, 3) := by decide +kernel
theorem dX6_move_16 : decode cX6_move 16 = .ok (.ifCond .ne 5, 3) := by decide +kernel
theorem dX6_move_19 : decode cX6_move 19 = .ok (.iconst (-1), 1) := by decide +kernel
theorem dX6_move_20 : decode cX6_move 20 = .ok (.ireturn, 1) := by decide +kernel
theorem dX6_move_21 : decode cX6_move 21 = .ok (.aload_n 0, 1) := by decide +kernel
theorem dX6_move_22 : decode cX6_move 22 = .ok (.invokevirtual 92, 3) := by decide +kernel
theorem dX6_move_25 : decode cX6_move 25 = .ok (.iconst 1, 1) := by decide +kernel
end
section
theorem dX6_move_26 : decode cX6_move 26 = .ok (.iload_n 1, 1) := by decide +kernel
theorem dX6_move_27 : decode cX6_move 27 = .ok (.ifCond .eq 7, 3) := by decide +kernel
theorem dX6_move_30 : decode cX6_move 30 = .ok (.iconst 0, 1) := by decide +kernel
theorem dX6_move_31 : decode cX6_move 31 = .ok (.goto 5, 3) := by decide +kernel
theorem dX6_move_34 : decode cX6_move 34 = .ok (.bipush 8, 2) := by decide +kernel
theorem dX6_move_36 : decode cX6_move 36 = .ok (.iadd, 1) := by decide +kernel
theorem dX6_move_37 : decode cX6_move 37 = .ok (.iload_n 2, 1) := by decide +kernel
theorem dX6_move_38 : decode cX6_move 38 = .ok (.iadd, 1) := by decide +kernel
theorem dX6_move_39 : decode cX6_move 39 = .ok (.istore 4, 2) := by decide +kernel
theorem dX6_move_41 : decode cX6_move 41 = .ok (.aload_n 0, 1) := by decide +kernel
theorem dX6_move_42 : decode cX6_move 42 = .ok (.getfield 7, 3) := by decide +kernel
theorem dX6_move_45 : decode cX6_move 45 = .ok (.iload 4, 2) := by decide +kernel
theorem dX6_move_47 : decode cX6_move 47 = .ok (.iaload, 1) := by decide +kernel
theorem dX6_move_48 : decode cX6_move 48 = .ok (.istore 5, 2) := by decide +kernel
theorem dX6_move_50 : decode cX6_move 50 = .ok (.aload_n 0, 1) := by decide +kernel
theorem dX6_move_51 : decode cX6_move 51 = .ok (.getfield 7, 3) := by decide +kernel
theorem dX6_move_54 : decode cX6_move 54 = .ok (.iload 4, 2) := by decide +kernel
theorem dX6_move_56 : decode cX6_move 56 = .ok (.iload_n 3, 1) := by decide +kernel
theorem dX6_move_57 : decode cX6_move 57 = .ok (.iastore, 1) := by decide +kernel
theorem dX6_move_58 : decode cX6_move 58 = .ok (.iload 5, 2) := by decide +kernel
theorem dX6_move_60 : decode cX6_move 60 = .ok (.ireturn, 1) := by decide +kernel
set_option maxRecDepth 20000 in
theorem ggX6_shakes_X6_matches : GoodIn wsX6_shakes wsX6_matches := goodIn_r _ [7, 1, 8, 9, 10, 6, 11, 12, 13, 14, 15, 16, 17, 18, 19, 20, 2, 21, 22, 23, 24, 25, 26, 27, 28, 29, 30, 31, 32, 33, 34, 35, 36, 37, 38, 39, 40, 41, 42, 43, 44, 45, 46, 47, 48, 49, 50, 51, 52, 53, 54, 55, 56, 57, 58, 59, 60, 61, 62, 63] (by decide +kernel) (by decide +kernel)
set_option maxRecDepth 20000 in
theorem gX6_shakes_X6_matches : GoodIn wsX6_shakes (wsV RX6 101 RX6 yX6_matches wsX6_matches) := goodIn_app (goodIn_of _ (by decide +kernel)) ggX6_shakes_X6_matches
theorem dX6_shakes_0 : decode cX6_shakes 0 = .ok (.aload_n 0, 1) := by decide +kernel
theorem dX6_shakes_1 : decode cX6_shakes 1 = .ok (.invokevirtual 101, 3) := by decide +kernel
theorem dX6_shakes_4 : decode cX6_shakes 4 = .ok (.istore_n 1, 1) := by decide +kernel
theorem dX6_shakes_5 : decode cX6_shakes 5 = .ok (.iconst 0, 1) := by decide +kernel
theorem dX6_shakes_6 : decode cX6_shakes 6 = .ok (.istore_n 2, 1) := by decide +kernel
theorem dX6_shakes_7 : decode cX6_shakes 7 = .ok (.iload_n 2, 1) := by decide +kernel
theorem dX6_shakes_8 : decode cX6_shakes 8 = .ok (.bipush 8, 2) := by decide +kernel
theorem dX6_shakes_10 : decode cX6_shakes 10 = .ok (.if_icmp .ge 64, 3) := by decide +kernel
theorem dX6_shakes_13 : decode cX6_shakes 13 = .ok (.aload_n 0, 1) := by decide +kernel
theorem dX6_shakes_14 : decode cX6_shakes 14 = .ok (.getfield 31, 3) := by decide +kernel
theorem dX6_shakes_17 : decode cX6_shakes 17 = .ok (.iload_n 2, 1) := by decide +kernel
theorem dX6_shakes_18 : decode cX6_shakes 18 = .ok (.iaload, 1) := by decide +kernel
theorem dX6_shakes_19 : decode cX6_shakes 19 = .ok (.bipush (-5), 2) := by decide +kernel
theorem dX6_shakes_21 : decode cX6_shakes 21 = .ok (.if_icmp .eq 47, 3) := by decide +kernel
theorem dX6_shakes_24 : decode cX6_shakes 24 = .ok (.aload_n 0, 1) := by decide +kernel
theorem dX6_shakes_25 : decode cX6_shakes 25 = .ok (.getfield 7, 3) := by decide +kernel
theorem dX6_shakes_28 : decode cX6_shakes 28 = .ok (.bipush 97, 2) := by decide +kernel
theorem dX6_shakes_30 : decode cX6_shakes 30 = .ok (.bipush 8, 2) := by decide +kernel
theorem dX6_shakes_32 : decode cX6_shakes 32 = .ok (.iload_n 2, 1) := by decide +kernel
theorem dX6_shakes_33 : decode cX6_shakes 33 = .ok (.imul, 1) := by decide +kernel
theorem dX6_shakes_34 : decode cX6_shakes 34 = .ok (.iadd, 1) := by decide +kernel
theorem dX6_shakes_35 : decode cX6_shakes 35 = .ok (.aload_n 0, 1) := by decide +kernel
theorem dX6_shakes_36 : decode cX6_shakes 36 = .ok (.getfield 31, 3) := by decide +kernel
theorem dX6_shakes_39 : decode cX6_shakes 39 = .ok (.iload_n 2, 1) := by decide +kernel
theorem dX6_shakes_40 : decode cX6_shakes 40 = .ok (.iaload, 1) := by decide +kernel
theorem dX6_shakes_41 : decode cX6_shakes 41 = .ok (.iadd, 1) := by decide +kernel
theorem dX6_shakes_42 : decode cX6_shakes 42 = .ok (.iconst 0, 1) := by decide +kernel
theorem dX6_shakes_43 : decode cX6_shakes 43 = .ok (.iastore, 1) := by decide +kernel
theorem dX6_shakes_44 : decode cX6_shakes 44 = .ok (.aload_n 0, 1) := by decide +kernel
theorem dX6_shakes_45 : decode cX6_shakes 45 = .ok (.getfield 7, 3) := by decide +kernel
theorem dX6_shakes_48 : decode cX6_shakes 48 = .ok (.sipush 161, 3) := by decide +kernel
theorem dX6_shakes_51 : decode cX6_shakes 51 = .ok (.bipush 8, 2) := by decide +kernel
theorem dX6_shakes_53 : decode cX6_shakes 53 = .ok (.iload_n 2, 1) := by decide +kernel
theorem dX6_shakes_54 : decode cX6_shakes 54 = .ok (.imul, 1) := by decide +kernel
theorem dX6_shakes_55 : decode cX6_shakes 55 = .ok (.iadd, 1) := by decide +kernel
theorem dX6_shakes_56 : decode cX6_shakes 56 = .ok (.aload_n 0, 1) := by decide +kernel
theorem dX6_shakes_57 : decode cX6_shakes 57 = .ok (.getfield 31, 3) := by decide +kernel
theorem dX6_shakes_60 : decode cX6_shakes 60 = .ok (.iload_n 2, 1) := by decide +kernel
theorem dX6_shakes_61 : decode cX6_shakes 61 = .ok (.iaload, 1) := by decide +kernel
theorem dX6_shakes_62 : decode cX6_shakes 62 = .ok (.iadd, 1) := by decide +kernel
theorem dX6_shakes_63 : decode cX6_shakes 63 = .ok (.dup2, 1) := by decide +kernel
theorem dX6_shakes_64 : decode cX6_shakes 64 = .ok (.iaload, 1) := by decide +kernel
theorem dX6_shakes_65 : decode cX6_shakes 65 = .ok (.iconst 1, 1) := by decide +kernel
theorem dX6_shakes_66 : decode cX6_shakes 66 = .ok (.iadd, 1) := by decide +kernel
theorem dX6_shakes_67 : decode cX6_shakes 67 = .ok (.iastore, 1) := by decide +kernel
theorem dX6_shakes_68 : decode cX6_shakes 68 = .ok (.iinc 2 1, 3) := by decide +kernel
theorem dX6_shakes_71 : decode cX6_shakes 71 = .ok (.goto (-64), 3) := by decide +kernel
theorem dX6_shakes_74 : decode cX6_shakes 74 = .ok (.iconst 0, 1) := by decide +kernel
theorem dX6_shakes_75 : decode cX6_shakes 75 = .ok (.istore_n 2, 1) := by decide +kernel
theorem dX6_shakes_76 : decode cX6_shakes 76 = .ok (.iload_n 2, 1) := by decide +kernel
theorem dX6_shakes_77 : decode cX6_shakes 77 = .ok (.bipush 64, 2) := by decide +kernel
theorem dX6_shakes_79 : decode cX6_shakes 79 = .ok (.if_icmp .ge 38, 3) := by decide +kernel
theorem dX6_shakes_82 : decode cX6_shakes 82 = .ok (.aload_n 0, 1) := by decide +kernel
theorem dX6_shakes_83 : decode cX6_shakes 83 = .ok (.getfield 7, 3) := by decide +kernel
theorem dX6_shakes_86 : decode cX6_shakes 86 = .ok (.bipush 33, 2) := by decide +kernel
theorem dX6_shakes_88 : decode cX6_shakes 88 = .ok (.iload_n 2, 1) := by decide +kernel
theorem dX6_shakes_89 : decode cX6_shakes 89 = .ok (.iadd, 1) := by decide +kernel
theorem dX6_shakes_90 : decode cX6_shakes 90 = .ok (.dup2, 1) := by decide +kernel
theorem dX6_shakes_91 : decode cX6_shakes 91 = .ok (.iaload, 1) := by decide +kernel
theorem dX6_shakes_92 : decode cX6_shakes 92 = .ok (.aload_n 0, 1) := by decide +kernel
theorem dX6_shakes_93 : decode cX6_shakes 93 = .ok (.getfield 7, 3) := by decide +kernel
theorem dX6_shakes_96 : decode cX6_shakes 96 = .ok (.bipush 33, 2) := by decide +kernel
theorem dX6_shakes_98 : decode cX6_shakes 98 = .ok (.iload_n 2, 1) := by decide +kernel
theorem dX6_shakes_99 : decode cX6_shakes 99 = .ok (.iadd, 1) := by decide +kernel
theorem dX6_shakes_100 : decode cX6_shakes 100 = .ok (.iaload, 1) := by decide +kernel
theorem dX6_shakes_101 : decode cX6_shakes 101 = .ok (.ifCond .le 7, 3) := by decide +kernel
theorem dX6_shakes_104 : decode cX6_shakes 104 = .ok (.iconst 1, 1) := by decide +kernel
theorem dX6_shakes_105 : decode cX6_shakes 105 = .ok (.goto 4, 3) := by decide +kernel
theorem dX6_shakes_108 : decode cX6_shakes 108 = .ok (.iconst 0, 1) := by decide +kernel
theorem dX6_shakes_109 : decode cX6_shakes 109 = .ok (.isub, 1) := by decide +kernel
theorem dX6_shakes_110 : decode cX6_shakes 110 = .ok (.iastore, 1) := by decide +kernel
theorem dX6_shakes_111 : decode cX6_shakes 111 = .ok (.iinc 2 1, 3) := by decide +kernel
theorem dX6_shakes_114 : decode cX6_shakes 114 = .ok (.goto (-38), 3) := by decide +kernel
theorem dX6_shakes_117 : decode cX6_shakes 117 = .ok (.aload_n 0, 1) := by decide +kernel
theorem dX6_shakes_118 : decode cX6_shakes 118 = .ok (.getfield 7, 3) := by decide +kernel
theorem dX6_shakes_121 : decode cX6_shakes 121 = .ok (.iconst 0, 1) := by decide +kernel
theorem dX6_shakes_122 : decode cX6_shakes 122 = .ok (.dup2, 1) := by decide +kernel
theorem dX6_shakes_123 : decode cX6_shakes 123 = .ok (.iaload, 1) := by decide +kernel
theorem dX6_shakes_124 : decode cX6_shakes 124 = .ok (.iconst 1, 1) := by decide +kernel
theorem dX6_shakes_125 : decode cX6_shakes 125 = .ok (.iadd, 1) := by decide +kernel
theorem dX6_shakes_126 : decode cX6_shakes 126 = .ok (.iastore, 1) := by decide +kernel
theorem dX6_shakes_127 : decode cX6_shakes 127 = .ok (.iload_n 1, 1) := by decide +kernel
theorem dX6_shakes_128 : decode cX6_shakes 128 = .ok (.ireturn, 1) := by decide +kernel
set_option maxRecDepth 20000 in
theorem ggX6_round_X6_records : GoodIn wsX6_round wsX6_records := goodIn_r _ [6, 7, 8, 9, 57, 58, 59, 60, 61, 62, 63, 64, 65, 66, 67, 68, 69, 70, 71, 72, 73, 74] (by decide +kernel) (by decide +kernel)
set_option maxRecDepth 20000 in
theorem gX6_round_X6_records : GoodIn wsX6_round (wsV RX6 92 RX6 yX6_records wsX6_records) := goodIn_app (goodIn_of _ (by decide +kernel)) ggX6_round_X6_records
set_option maxRecDepth 20000 in
theorem ggX6_round_X6_shakes : GoodIn wsX6_round wsX6_shakes := goodIn_r _ [13, 14, 9, 15, 16, 17, 5, 18, 19, 20, 21, 22, 23, 24, 25, 26, 27, 28, 29, 30, 31, 32, 33, 34, 35, 36, 37, 38, 39, 40, 41, 42, 43, 44, 45, 46, 47, 48, 49, 50, 51, 52, 53, 54, 55, 56, 57, 58, 59, 60, 61, 62, 63, 64, 65, 66, 67, 68, 69, 70, 71, 72, 73, 74] (by decide +kernel) (by decide +kernel)
set_option maxRecDepth 20000 in
theorem gX6_round_X6_shakes : GoodIn wsX6_round (wsV RX6 104 RX6 yX6_shakes wsX6_shakes) := goodIn_app (goodIn_of _ (by decide +kernel)) ggX6_round_X6_shakes
theorem dX6_round_0 : decode cX6_round 0 = .ok (.aload_n 0, 1) := by decide +kernel
theorem dX6_round_1 : decode cX6_round 1 = .ok (.iconst 0, 1) := by decide +kernel
theorem dX6_round_2 : decode cX6_round 2 = .ok (.putfield 43, 3) := by decide +kernel
theorem dX6_round_5 : decode cX6_round 5 = .ok (.aload_n 0, 1) := by decide +kernel
theorem dX6_round_6 : decode cX6_round 6 = .ok (.invokevirtual 92, 3) := by decide +kernel
theorem dX6_round_9 : decode cX6_round 9 = .ok (.aload_n 0, 1) := by decide +kernel
theorem dX6_round_10 : decode cX6_round 10 = .ok (.invokevirtual 104, 3) := by decide +kernel
theorem dX6_round_13 : decode cX6_round 13 = .ok (.ireturn, 1) := by decide +kernel
set_option maxRecDepth 20000 in
theorem ggX6_append_X6_in : GoodIn wsX6_append wsX6_in := goodIn_r _ [7] (by decide +kernel) (by decide +kernel)
set_option maxRecDepth 20000 in
theorem gX6_append_X6_in : GoodIn wsX6_append (va_wsS RX6 47 yX6_in wsX6_in) := goodIn_app (goodIn_of _ (by decide +kernel)) ggX6_append_X6_in
theorem dX6_append_0 : decode cX6_append 0 = .ok (.aload_n 0, 1) := by decide +kernel
theorem dX6_append_1 : decode cX6_append 1 = .ok (.iconst 0, 1) := by decide +kernel
theorem dX6_append_2 : decode cX6_append 2 = .ok (.putfield 43, 3) := by decide +kernel
theorem dX6_append_5 : decode cX6_append 5 = .ok (.iload_n 1, 1) := by decide +kernel
theorem dX6_append_6 : decode cX6_append 6 = .ok (.bipush 32, 2) := by decide +kernel
theorem dX6_append_8 : decode cX6_append 8 = .ok (.bipush 126, 2) := by decide +kernel
theorem dX6_append_10 : decode cX6_append 10 = .ok (.invokestatic 47, 3) := by decide +kernel
theorem dX6_append_13 : decode cX6_append 13 = .ok (.ifCond .ne 6, 3) := by decide +kernel
theorem dX6_append_16 : decode cX6_append 16 = .ok (.bipush (-2), 2) := by decide +kernel
theorem dX6_append_18 : decode cX6_append 18 = .ok (.ireturn, 1) := by decide +kernel
theorem dX6_append_19 : decode cX6_append 19 = .ok (.aload_n 0, 1) := by decide +kernel
theorem dX6_append_20 : decode cX6_append 20 = .ok (.getfield 107, 3) := by decide +kernel
theorem dX6_append_23 : decode cX6_append 23 = .ok (.bipush 80, 2) := by decide +kernel
theorem dX6_append_25 : decode cX6_append 25 = .ok (.if_icmp .ne 6, 3) := by decide +kernel
theorem dX6_append_28 : decode cX6_append 28 = .ok (.bipush (-3), 2) := by decide +kernel
theorem dX6_append_30 : decode cX6_append 30 = .ok (.ireturn, 1) := by decide +kernel
theorem dX6_append_31 : decode cX6_append 31 = .ok (.aload_n 0, 1) := by decide +kernel
theorem dX6_append_32 : decode cX6_append 32 = .ok (.getfield 22, 3) := by decide +kernel
theorem dX6_append_35 : decode cX6_append 35 = .ok (.aload_n 0, 1) := by decide +kernel
theorem dX6_append_36 : decode cX6_append 36 = .ok (.getfield 107, 3) := by decide +kernel
theorem dX6_append_39 : decode cX6_append 39 = .ok (.iload_n 1, 1) := by decide +kernel
theorem dX6_append_40 : decode cX6_append 40 = .ok (.iastore, 1) := by decide +kernel
theorem dX6_append_41 : decode cX6_append 41 = .ok (.aload_n 0, 1) := by decide +kernel
theorem dX6_append_42 : decode cX6_append 42 = .ok (.dup, 1) := by decide +kernel
theorem dX6_append_43 : decode cX6_append 43 = .ok (.getfield 107, 3) := by decide +kernel
theorem dX6_append_46 : decode cX6_append 46 = .ok (.iconst 1, 1) := by decide +kernel
theorem dX6_append_47 : decode cX6_append 47 = .ok (.iadd, 1) := by decide +kernel
theorem dX6_append_48 : decode cX6_append 48 = .ok (.putfield 107, 3) := by decide +kernel
theorem dX6_append_51 : decode cX6_append 51 = .ok (.aload_n 0, 1) := by decide +kernel
theorem dX6_append_52 : decode cX6_append 52 = .ok (.getfield 107, 3) := by decide +kernel
theorem dX6_append_55 : decode cX6_append 55 = .ok (.ireturn, 1) := by decide +kernel
theorem dX6_clearText_0 : decode cX6_clearText 0 = .ok (.aload_n 0, 1) := by decide +kernel
theorem dX6_clearText_1 : decode cX6_clearText 1 = .ok (.iconst 0, 1) := by decide +kernel
theorem dX6_clearText_2 : decode cX6_clearText 2 = .ok (.putfield 43, 3) := by decide +kernel
theorem dX6_clearText_5 : decode cX6_clearText 5 = .ok (.aload_n 0, 1) := by decide +kernel
theorem dX6_clearText_6 : decode cX6_clearText 6 = .ok (.getfield 107, 3) := by decide +kernel
theorem dX6_clearText_9 : decode cX6_clearText 9 = .ok (.istore_n 1, 1) := by decide +kernel
theorem dX6_clearText_10 : decode cX6_clearText 10 = .ok (.aload_n 0, 1) := by decide +kernel
theorem dX6_clearText_11 : decode cX6_clearText 11 = .ok (.iconst 0, 1) := by decide +kernel
theorem dX6_clearText_12 : decode cX6_clearText 12 = .ok (.putfield 107, 3) := by decide +kernel
theorem dX6_clearText_15 : decode cX6_clearText 15 = .ok (.iload_n 1, 1) := by decide +kernel
theorem dX6_clearText_16 : decode cX6_clearText 16 = .ok (.ireturn, 1) := by decide +kernel
theorem dX6_sign_0 : decode cX6_sign 0 = .ok (.aload_n 0, 1) := by decide +kernel
theorem dX6_sign_1 : decode cX6_sign 1 = .ok (.getfield 110, 3) := by decide +kernel
theorem dX6_sign_4 : decode cX6_sign 4 = .ok (.aload_n 0, 1) := by decide +kernel
theorem dX6_sign_5 : decode cX6_sign 5 = .ok (.getfield 107, 3) := by decide +kernel
theorem dX6_sign_8 : decode cX6_sign 8 = .ok (.if_icmp .ge 15, 3) := by decide +kernel
theorem dX6_sign_11 : decode cX6_sign 11 = .ok (.aload_n 0, 1) := by decide +kernel
theorem dX6_sign_12 : decode cX6_sign 12 = .ok (.getfield 22, 3) := by decide +kernel
theorem dX6_sign_15 : decode cX6_sign 15 = .ok (.aload_n 0, 1) := by decide +kernel
theorem dX6_sign_16 : decode cX6_sign 16 = .ok (.getfield 110, 3) := by decide +kernel
theorem dX6_sign_19 : decode cX6_sign 19 = .ok (.iaload, 1) := by decide +kernel
theorem dX6_sign_20 : decode cX6_sign 20 = .ok (.goto 4, 3) := by decide +kernel
theorem dX6_sign_23 : decode cX6_sign 23 = .ok (.iconst 0, 1) := by decide +kernel
theorem dX6_sign_24 : decode cX6_sign 24 = .ok (.ireturn, 1) := by decide +kernel
set_option maxRecDepth 20000 in
theorem ggX6_people_X6_sign : GoodIn wsX6_people wsX6_sign := goodIn_r _ [7, 2, 8, 9, 13, 14, 15, 16, 17, 18, 19, 20, 21, 22, 23, 24, 25, 26, 27, 28, 29, 30] (by decide +kernel) (by decide +kernel)
set_option maxRecDepth 20000 in
theorem gX6_people_X6_sign : GoodIn wsX6_people (wsV RX6 117 RX6 yX6_sign wsX6_sign) := goodIn_app (goodIn_of _ (by decide +kernel)) ggX6_people_X6_sign
set_option maxRecDepth 20000 in
theorem ggX6_people_X6_in : GoodIn wsX6_people wsX6_in := goodIn_r _ [12] (by decide +kernel) (by decide +kernel)
set_option maxRecDepth 20000 in
theorem gX6_people_X6_in : GoodIn wsX6_people (va_wsS RX6 47 yX6_in wsX6_in) := goodIn_app (goodIn_of _ (by decide +kernel)) ggX6_people_X6_in
theorem dX6_people_0 : decode cX6_people 0 = .ok (.iconst 0, 1) := by decide +kernel
theorem dX6_people_1 : decode cX6_people 1 = .ok (.istore_n 1, 1) := by decide +kernel
theorem dX6_people_2 : decode cX6_people 2 = .ok (.aload_n 0, 1) := by decide +kernel
theorem dX6_people_3 : decode cX6_people 3 = .ok (.aload_n 0, 1) := by decide +kernel
theorem dX6_people_4 : decode cX6_people 4 = .ok (.getfield 113, 3) := by decide +kernel
theorem dX6_people_7 : decode cX6_people 7 = .ok (.ifCond .eq 21, 3) := by decide +kernel
theorem dX6_people_10 : decode cX6_people 10 = .ok (.aload_n 0, 1) := by decide +kernel
theorem dX6_people_11 : decode cX6_people 11 = .ok (.invokevirtual 117, 3) := by decide +kernel
theorem dX6_people_14 : decode cX6_people 14 = .ok (.bipush 48, 2) := by decide +kernel
theorem dX6_people_16 : decode cX6_people 16 = .ok (.bipush 55, 2) := by decide +kernel
theorem dX6_people_18 : decode cX6_people 18 = .ok (.invokestatic 47, 3) := by decide +kernel
theorem dX6_people_21 : decode cX6_people 21 = .ok (.ifCond .eq 7, 3) := by decide +kernel
theorem dX6_people_24 : decode cX6_people 24 = .ok (.iconst 1, 1) := by decide +kernel
theorem dX6_people_25 : decode cX6_people 25 = .ok (.goto 4, 3) := by decide +kernel
theorem dX6_people_28 : decode cX6_people 28 = .ok (.iconst 0, 1) := by decide +kernel
theorem dX6_people_29 : decode cX6_people 29 = .ok (.putfield 113, 3) := by decide +kernel
theorem dX6_people_32 : decode cX6_people 32 = .ok (.aload_n 0, 1) := by decide +kernel
theorem dX6_people_33 : decode cX6_people 33 = .ok (.getfield 113, 3) := by decide +kernel
theorem dX6_people_36 : decode cX6_people 36 = .ok (.ifCond .eq 54, 3) := by decide +kernel
theorem dX6_people_39 : decode cX6_people 39 = .ok (.aload_n 0, 1) := by decide +kernel
theorem dX6_people_40 : decode cX6_people 40 = .ok (.invokevirtual 117, 3) := by decide +kernel
theorem dX6_people_43 : decode cX6_people 43 = .ok (.bipush 48, 2) := by decide +kernel
theorem dX6_people_45 : decode cX6_people 45 = .ok (.bipush 55, 2) := by decide +kernel
theorem dX6_people_47 : decode cX6_people 47 = .ok (.invokestatic 47, 3) := by decide +kernel
theorem dX6_people_50 : decode cX6_people 50 = .ok (.ifCond .eq 40, 3) := by decide +kernel
theorem dX6_people_53 : decode cX6_people 53 = .ok (.iload_n 1, 1) := by decide +kernel
theorem dX6_people_54 : decode cX6_people 54 = .ok (.aload_n 0, 1) := by decide +kernel
theorem dX6_people_55 : decode cX6_people 55 = .ok (.invokevirtual 117, 3) := by decide +kernel
theorem dX6_people_58 : decode cX6_people 58 = .ok (.bipush 48, 2) := by decide +kernel
theorem dX6_people_60 : decode cX6_people 60 = .ok (.isub, 1) := by decide +kernel
theorem dX6_people_61 : decode cX6_people 61 = .ok (.ishr, 1) := by decide +kernel
theorem dX6_people_62 : decode cX6_people 62 = .ok (.ifCond .ne 28, 3) := by decide +kernel
theorem dX6_people_65 : decode cX6_people 65 = .ok (.iload_n 1, 1) := by decide +kernel
theorem dX6_people_66 : decode cX6_people 66 = .ok (.iconst 1, 1) := by decide +kernel
theorem dX6_people_67 : decode cX6_people 67 = .ok (.aload_n 0, 1) := by decide +kernel
theorem dX6_people_68 : decode cX6_people 68 = .ok (.invokevirtual 117, 3) := by decide +kernel
theorem dX6_people_71 : decode cX6_people 71 = .ok (.bipush 48, 2) := by decide +kernel
theorem dX6_people_73 : decode cX6_people 73 = .ok (.isub, 1) := by decide +kernel
theorem dX6_people_74 : decode cX6_people 74 = .ok (.ishl, 1) := by decide +kernel
theorem dX6_people_75 : decode cX6_people 75 = .ok (.ior, 1) := by decide +kernel
theorem dX6_people_76 : decode cX6_people 76 = .ok (.istore_n 1, 1) := by decide +kernel
theorem dX6_people_77 : decode cX6_people 77 = .ok (.aload_n 0, 1) := by decide +kernel
theorem dX6_people_78 : decode cX6_people 78 = .ok (.dup, 1) := by decide +kernel
theorem dX6_people_79 : decode cX6_people 79 = .ok (.getfield 110, 3) := by decide +kernel
theorem dX6_people_82 : decode cX6_people 82 = .ok (.iconst 1, 1) := by decide +kernel
theorem dX6_people_83 : decode cX6_people 83 = .ok (.iadd, 1) := by decide +kernel
theorem dX6_people_84 : decode cX6_people 84 = .ok (.putfield 110, 3) := by decide +kernel
theorem dX6_people_87 : decode cX6_people 87 = .ok (.goto (-55), 3) := by decide +kernel
theorem dX6_people_90 : decode cX6_people 90 = .ok (.iload_n 1, 1) := by decide +kernel
theorem dX6_people_91 : decode cX6_people 91 = .ok (.ireturn, 1) := by decide +kernel
set_option maxRecDepth 20000 in
theorem ggX6_readsGroup_X6_people : GoodIn wsX6_readsGroup wsX6_people := goodIn_r _ [9, 1, 4, 10, 11, 12, 8, 13, 14, 15, 16, 17, 18, 19, 20, 21, 22, 23, 24, 25, 26, 27, 28, 29, 30, 31, 32, 33, 34, 35, 36] (by decide +kernel) (by decide +kernel)
set_option maxRecDepth 20000 in
theorem gX6_readsGroup_X6_people : GoodIn wsX6_readsGroup (wsV RX6 123 RX6 yX6_people wsX6_people) := goodIn_app (goodIn_of _ (by decide +kernel)) ggX6_readsGroup_X6_people
set_option maxRecDepth 20000 in
theorem ggX6_readsGroup_X6_sign : GoodIn wsX6_readsGroup wsX6_sign := goodIn_r _ [13, 4, 14, 15, 19, 20, 21, 22, 23, 24, 25, 26, 27, 28, 29, 30, 31, 32, 33, 34, 35, 36] (by decide +kernel) (by decide +kernel)
set_option maxRecDepth 20000 in
theorem gX6_readsGroup_X6_sign : GoodIn wsX6_readsGroup (wsV RX6 117 RX6 yX6_sign wsX6_sign) := goodIn_app (goodIn_of _ (by decide +kernel)) ggX6_readsGroup_X6_sign
theorem dX6_readsGroup_0 : decode cX6_readsGroup 0 = .ok (.aload_n 0, 1) := by decide +kernel
theorem dX6_readsGroup_1 : decode cX6_readsGroup 1 = .ok (.iconst 1, 1) := by decide +kernel
theorem dX6_readsGroup_2 : decode cX6_readsGroup 2 = .ok (.putfield 113, 3) := by decide +kernel
theorem dX6_readsGroup_5 : decode cX6_readsGroup 5 = .ok (.aload_n 0, 1) := by decide +kernel
theorem dX6_readsGroup_6 : decode cX6_readsGroup 6 = .ok (.getfield 40, 3) := by decide +kernel
theorem dX6_readsGroup_9 : decode cX6_readsGroup 9 = .ok (.iconst 2, 1) := by decide +kernel
theorem dX6_readsGroup_10 : decode cX6_readsGroup 10 = .ok (.aload_n 0, 1) := by decide +kernel
theorem dX6_readsGroup_11 : decode cX6_readsGroup 11 = .ok (.getfield 120, 3) := by decide +kernel
theorem dX6_readsGroup_14 : decode cX6_readsGroup 14 = .ok (.imul, 1) := by decide +kernel
theorem dX6_readsGroup_15 : decode cX6_readsGroup 15 = .ok (.aload_n 0, 1) := by decide +kernel
theorem dX6_readsGroup_16 : decode cX6_readsGroup 16 = .ok (.invokevirtual 123, 3) := by decide +kernel
theorem dX6_readsGroup_19 : decode cX6_readsGroup 19 = .ok (.iastore, 1) := by decide +kernel
theorem dX6_readsGroup_20 : decode cX6_readsGroup 20 = .ok (.aload_n 0, 1) := by decide +kernel
theorem dX6_readsGroup_21 : decode cX6_readsGroup 21 = .ok (.aload_n 0, 1) := by decide +kernel
theorem dX6_readsGroup_22 : decode cX6_readsGroup 22 = .ok (.getfield 113, 3) := by decide +kernel
theorem dX6_readsGroup_25 : decode cX6_readsGroup 25 = .ok (.ifCond .eq 16, 3) := by decide +kernel
theorem dX6_readsGroup_28 : decode cX6_readsGroup 28 = .ok (.aload_n 0, 1) := by decide +kernel
theorem dX6_readsGroup_29 : decode cX6_readsGroup 29 = .ok (.invokevirtual 117, 3) := by decide +kernel
theorem dX6_readsGroup_32 : decode cX6_readsGroup 32 = .ok (.bipush 45, 2) := by decide +kernel
theorem dX6_readsGroup_34 : decode cX6_readsGroup 34 = .ok (.if_icmp .ne 7, 3) := by decide +kernel
theorem dX6_readsGroup_37 : decode cX6_readsGroup 37 = .ok (.iconst 1, 1) := by decide +kernel
theorem dX6_readsGroup_38 : decode cX6_readsGroup 38 = .ok (.goto 4, 3) := by decide +kernel
theorem dX6_readsGroup_41 : decode cX6_readsGroup 41 = .ok (.iconst 0, 1) := by decide +kernel
theorem dX6_readsGroup_42 : decode cX6_readsGroup 42 = .ok (.putfield 113, 3) := by decide +kernel
theorem dX6_readsGroup_45 : decode cX6_readsGroup 45 = .ok (.aload_n 0, 1) := by decide +kernel
theorem dX6_readsGroup_46 : decode cX6_readsGroup 46 = .ok (.dup, 1) := by decide +kernel
theorem dX6_readsGroup_47 : decode cX6_readsGroup 47 = .ok (.getfield 110, 3) := by decide +kernel
theorem dX6_readsGroup_50 : decode cX6_readsGroup 50 = .ok (.aload_n 0, 1) := by decide +kernel
theorem dX6_readsGroup_51 : decode cX6_readsGroup 51 = .ok (.getfield 113, 3) := by decide +kernel
theorem dX6_readsGroup_54 : decode cX6_readsGroup 54 = .ok (.ifCond .eq 7, 3) := by decide +kernel
theorem dX6_readsGroup_57 : decode cX6_readsGroup 57 = .ok (.iconst 1, 1) := by decide +kernel
theorem dX6_readsGroup_58 : decode cX6_readsGroup 58 = .ok (.goto 4, 3) := by decide +kernel
theorem dX6_readsGroup_61 : decode cX6_readsGroup 61 = .ok (.iconst 0, 1) := by decide +kernel
theorem dX6_readsGroup_62 : decode cX6_readsGroup 62 = .ok (.iadd, 1) := by decide +kernel
theorem dX6_readsGroup_63 : decode cX6_readsGroup 63 = .ok (.putfield 110, 3) := by decide +kernel
theorem dX6_readsGroup_66 : decode cX6_readsGroup 66 = .ok (.aload_n 0, 1) := by decide +kernel
theorem dX6_readsGroup_67 : decode cX6_readsGroup 67 = .ok (.getfield 40, 3) := by decide +kernel
theorem dX6_readsGroup_70 : decode cX6_readsGroup 70 = .ok (.iconst 2, 1) := by decide +kernel
theorem dX6_readsGroup_71 : decode cX6_readsGroup 71 = .ok (.aload_n 0, 1) := by decide +kernel
theorem dX6_readsGroup_72 : decode cX6_readsGroup 72 = .ok (.getfield 120, 3) := by decide +kernel
theorem dX6_readsGroup_75 : decode cX6_readsGroup 75 = .ok (.imul, 1) := by decide +kernel
theorem dX6_readsGroup_76 : decode cX6_readsGroup 76 = .ok (.iconst 1, 1) := by decide +kernel
theorem dX6_readsGroup_77 : decode cX6_readsGroup 77 = .ok (.iadd, 1) := by decide +kernel
theorem dX6_readsGroup_78 : decode cX6_readsGroup 78 = .ok (.aload_n 0, 1) := by decide +kernel
theorem dX6_readsGroup_79 : decode cX6_readsGroup 79 = .ok (.invokevirtual 123, 3) := by decide +kernel
theorem dX6_readsGroup_82 : decode cX6_readsGroup 82 = .ok (.iastore, 1) := by decide +kernel
theorem dX6_readsGroup_83 : decode cX6_readsGroup 83 = .ok (.aload_n 0, 1) := by decide +kernel
theorem dX6_readsGroup_84 : decode cX6_readsGroup 84 = .ok (.dup, 1) := by decide +kernel
theorem dX6_readsGroup_85 : decode cX6_readsGroup 85 = .ok (.getfield 120, 3) := by decide +kernel
theorem dX6_readsGroup_88 : decode cX6_readsGroup 88 = .ok (.aload_n 0, 1) := by decide +kernel
theorem dX6_readsGroup_89 : decode cX6_readsGroup 89 = .ok (.getfield 113, 3) := by decide +kernel
theorem dX6_readsGroup_92 : decode cX6_readsGroup 92 = .ok (.ifCond .eq 7, 3) := by decide +kernel
theorem dX6_readsGroup_95 : decode cX6_readsGroup 95 = .ok (.iconst 1, 1) := by decide +kernel
theorem dX6_readsGroup_96 : decode cX6_readsGroup 96 = .ok (.goto 4, 3) := by decide +kernel
theorem dX6_readsGroup_99 : decode cX6_readsGroup 99 = .ok (.iconst 0, 1) := by decide +kernel
theorem dX6_readsGroup_100 : decode cX6_readsGroup 100 = .ok (.iadd, 1) := by decide +kernel
theorem dX6_readsGroup_101 : decode cX6_readsGroup 101 = .ok (.putfield 120, 3) := by decide +kernel
theorem dX6_readsGroup_104 : decode cX6_readsGroup 104 = .ok (.return_, 1) := by decide +kernel
set_option maxRecDepth 20000 in
theorem ggX6_reads_X6_readsGroup : GoodIn wsX6_reads wsX6_readsGroup := goodIn_r _ [9, 3, 10, 2, 1, 11, 12, 13, 8, 14, 15, 16, 17, 18, 4, 19, 20, 21, 22, 23, 24, 25, 26, 27, 28, 29, 30, 31, 32, 33, 34, 35, 36, 37, 38, 39, 40] (by decide +kernel) (by decide +kernel)
set_option maxRecDepth 20000 in
theorem gX6_reads_X6_readsGroup : GoodIn wsX6_reads (wsV RX6 126 RX6 yX6_readsGroup wsX6_readsGroup) := goodIn_app (goodIn_of _ (by decide +kernel)) ggX6_reads_X6_readsGroup
set_option maxRecDepth 20000 in
theorem ggX6_reads_X6_sign : GoodIn wsX6_reads wsX6_sign := goodIn_r _ [18, 1, 4, 19, 23, 24, 25, 26, 27, 28, 29, 30, 31, 32, 33, 34, 35, 36, 37, 38, 39, 40] (by decide +kernel) (by decide +kernel)
set_option maxRecDepth 20000 in
theorem gX6_reads_X6_sign : GoodIn wsX6_reads (wsV RX6 117 RX6 yX6_sign wsX6_sign) := goodIn_app (goodIn_of _ (by decide +kernel)) ggX6_reads_X6_sign
theorem dX6_reads_0 : decode cX6_reads 0 = .ok (.aload_n 0, 1) := by decide +kernel
theorem dX6_reads_1 : decode cX6_reads 1 = .ok (.iconst 0, 1) := by decide +kernel
theorem dX6_reads_2 : decode cX6_reads 2 = .ok (.putfield 110, 3) := by decide +kernel
theorem dX6_reads_5 : decode cX6_reads 5 = .ok (.aload_n 0, 1) := by decide +kernel
theorem dX6_reads_6 : decode cX6_reads 6 = .ok (.iconst 0, 1) := by decide +kernel
theorem dX6_reads_7 : decode cX6_reads 7 = .ok (.putfield 120, 3) := by decide +kernel
theorem dX6_reads_10 : decode cX6_reads 10 = .ok (.aload_n 0, 1) := by decide +kernel
theorem dX6_reads_11 : decode cX6_reads 11 = .ok (.invokevirtual 126, 3) := by decide +kernel
theorem dX6_reads_14 : decode cX6_reads 14 = .ok (.aload_n 0, 1) := by decide +kernel
theorem dX6_reads_15 : decode cX6_reads 15 = .ok (.getfield 113, 3) := by decide +kernel
theorem dX6_reads_18 : decode cX6_reads 18 = .ok (.ifCond .eq 67, 3) := by decide +kernel
theorem dX6_reads_21 : decode cX6_reads 21 = .ok (.aload_n 0, 1) := by decide +kernel
theorem dX6_reads_22 : decode cX6_reads 22 = .ok (.getfield 110, 3) := by decide +kernel
theorem dX6_reads_25 : decode cX6_reads 25 = .ok (.aload_n 0, 1) := by decide +kernel
theorem dX6_reads_26 : decode cX6_reads 26 = .ok (.getfield 107, 3) := by decide +kernel
theorem dX6_reads_29 : decode cX6_reads 29 = .ok (.if_icmp .ge 56, 3) := by decide +kernel
theorem dX6_reads_32 : decode cX6_reads 32 = .ok (.aload_n 0, 1) := by decide +kernel
theorem dX6_reads_33 : decode cX6_reads 33 = .ok (.aload_n 0, 1) := by decide +kernel
theorem dX6_reads_34 : decode cX6_reads 34 = .ok (.invokevirtual 117, 3) := by decide +kernel
theorem dX6_reads_37 : decode cX6_reads 37 = .ok (.bipush 44, 2) := by decide +kernel
theorem dX6_reads_39 : decode cX6_reads 39 = .ok (.if_icmp .ne 7, 3) := by decide +kernel
theorem dX6_reads_42 : decode cX6_reads 42 = .ok (.iconst 1, 1) := by decide +kernel
theorem dX6_reads_43 : decode cX6_reads 43 = .ok (.goto 4, 3) := by decide +kernel
theorem dX6_reads_46 : decode cX6_reads 46 = .ok (.iconst 0, 1) := by decide +kernel
theorem dX6_reads_47 : decode cX6_reads 47 = .ok (.putfield 113, 3) := by decide +kernel
theorem dX6_reads_50 : decode cX6_reads 50 = .ok (.aload_n 0, 1) := by decide +kernel
theorem dX6_reads_51 : decode cX6_reads 51 = .ok (.dup, 1) := by decide +kernel
theorem dX6_reads_52 : decode cX6_reads 52 = .ok (.getfield 110, 3) := by decide +kernel
theorem dX6_reads_55 : decode cX6_reads 55 = .ok (.aload_n 0, 1) := by decide +kernel
theorem dX6_reads_56 : decode cX6_reads 56 = .ok (.getfield 113, 3) := by decide +kernel
theorem dX6_reads_59 : decode cX6_reads 59 = .ok (.ifCond .eq 7, 3) := by decide +kernel
theorem dX6_reads_62 : decode cX6_reads 62 = .ok (.iconst 1, 1) := by decide +kernel
theorem dX6_reads_63 : decode cX6_reads 63 = .ok (.goto 4, 3) := by decide +kernel
theorem dX6_reads_66 : decode cX6_reads 66 = .ok (.iconst 0, 1) := by decide +kernel
theorem dX6_reads_67 : decode cX6_reads 67 = .ok (.iadd, 1) := by decide +kernel
theorem dX6_reads_68 : decode cX6_reads 68 = .ok (.putfield 110, 3) := by decide +kernel
theorem dX6_reads_71 : decode cX6_reads 71 = .ok (.aload_n 0, 1) := by decide +kernel
theorem dX6_reads_72 : decode cX6_reads 72 = .ok (.getfield 113, 3) := by decide +kernel
theorem dX6_reads_75 : decode cX6_reads 75 = .ok (.ifCond .eq (-61), 3) := by decide +kernel
theorem dX6_reads_78 : decode cX6_reads 78 = .ok (.aload_n 0, 1) := by decide +kernel
theorem dX6_reads_79 : decode cX6_reads 79 = .ok (.invokevirtual 126, 3) := by decide +kernel
theorem dX6_reads_82 : decode cX6_reads 82 = .ok (.goto (-68), 3) := by decide +kernel
theorem dX6_reads_85 : decode cX6_reads 85 = .ok (.aload_n 0, 1) := by decide +kernel
theorem dX6_reads_86 : decode cX6_reads 86 = .ok (.getfield 113, 3) := by decide +kernel
theorem dX6_reads_89 : decode cX6_reads 89 = .ok (.ifCond .eq 8, 3) := by decide +kernel
theorem dX6_reads_92 : decode cX6_reads 92 = .ok (.bipush (-5), 2) := by decide +kernel
theorem dX6_reads_94 : decode cX6_reads 94 = .ok (.goto 7, 3) := by decide +kernel
theorem dX6_reads_97 : decode cX6_reads 97 = .ok (.aload_n 0, 1) := by decide +kernel
theorem dX6_reads_98 : decode cX6_reads 98 = .ok (.getfield 110, 3) := by decide +kernel
theorem dX6_reads_101 : decode cX6_reads 101 = .ok (.ireturn, 1) := by decide +kernel
set_option maxRecDepth 20000 in
theorem ggX6_fault_X6_reads : GoodIn wsX6_fault wsX6_reads := goodIn_r _ [6, 7, 8, 9, 10, 11, 12, 13, 5, 14, 15, 16, 17, 18, 19, 20, 21, 22, 23, 24, 25, 26, 27, 28, 29, 30, 31, 32, 33, 34, 35, 36, 37, 38, 39, 40, 41, 42, 43, 44, 45] (by decide +kernel) (by decide +kernel)
set_option maxRecDepth 20000 in
theorem gX6_fault_X6_reads : GoodIn wsX6_fault (wsV RX6 129 RX6 yX6_reads wsX6_reads) := goodIn_app (goodIn_of _ (by decide +kernel)) ggX6_fault_X6_reads
theorem dX6_fault_0 : decode cX6_fault 0 = .ok (.aload_n 0, 1) := by decide +kernel
theorem dX6_fault_1 : decode cX6_fault 1 = .ok (.iconst 0, 1) := by decide +kernel
theorem dX6_fault_2 : decode cX6_fault 2 = .ok (.putfield 43, 3) := by decide +kernel
theorem dX6_fault_5 : decode cX6_fault 5 = .ok (.aload_n 0, 1) := by decide +kernel
theorem dX6_fault_6 : decode cX6_fault 6 = .ok (.invokevirtual 129, 3) := by decide +kernel
theorem dX6_fault_9 : decode cX6_fault 9 = .ok (.ireturn, 1) := by decide +kernel
theorem dX6_adds_0 : decode cX6_adds 0 = .ok (.iconst 0, 1) := by decide +kernel
theorem dX6_adds_1 : decode cX6_adds 1 = .ok (.istore_n 3, 1) := by decide +kernel
theorem dX6_adds_2 : decode cX6_adds 2 = .ok (.iconst 0, 1) := by decide +kernel
theorem dX6_adds_3 : decode cX6_adds 3 = .ok (.istore 4, 2) := by decide +kernel
theorem dX6_adds_5 : decode cX6_adds 5 = .ok (.iload 4, 2) := by decide +kernel
theorem dX6_adds_7 : decode cX6_adds 7 = .ok (.bipush 64, 2) := by decide +kernel
theorem dX6_adds_9 : decode cX6_adds 9 = .ok (.if_icmp .ge 97, 3) := by decide +kernel
theorem dX6_adds_12 : decode cX6_adds 12 = .ok (.iload_n 1, 1) := by decide +kernel
theorem dX6_adds_13 : decode cX6_adds 13 = .ok (.iload 4, 2) := by decide +kernel
theorem dX6_adds_15 : decode cX6_adds 15 = .ok (.bipush 8, 2) := by decide +kernel
theorem dX6_adds_17 : decode cX6_adds 17 = .ok (.idiv, 1) := by decide +kernel
theorem dX6_adds_18 : decode cX6_adds 18 = .ok (.ishr, 1) := by decide +kernel
theorem dX6_adds_19 : decode cX6_adds 19 = .ok (.iconst 1, 1) := by decide +kernel
theorem dX6_adds_20 : decode cX6_adds 20 = .ok (.iand, 1) := by decide +kernel
theorem dX6_adds_21 : decode cX6_adds 21 = .ok (.iconst 1, 1) := by decide +kernel
theorem dX6_adds_22 : decode cX6_adds 22 = .ok (.if_icmp .ne 20, 3) := by decide +kernel
theorem dX6_adds_25 : decode cX6_adds 25 = .ok (.iload_n 2, 1) := by decide +kernel
theorem dX6_adds_26 : decode cX6_adds 26 = .ok (.iload 4, 2) := by decide +kernel
theorem dX6_adds_28 : decode cX6_adds 28 = .ok (.bipush 8, 2) := by decide +kernel
theorem dX6_adds_30 : decode cX6_adds 30 = .ok (.irem, 1) := by decide +kernel
theorem dX6_adds_31 : decode cX6_adds 31 = .ok (.ishr, 1) := by decide +kernel
theorem dX6_adds_32 : decode cX6_adds 32 = .ok (.iconst 1, 1) := by decide +kernel
theorem dX6_adds_33 : decode cX6_adds 33 = .ok (.iand, 1) := by decide +kernel
theorem dX6_adds_34 : decode cX6_adds 34 = .ok (.iconst 1, 1) := by decide +kernel
theorem dX6_adds_35 : decode cX6_adds 35 = .ok (.if_icmp .ne 7, 3) := by decide +kernel
theorem dX6_adds_38 : decode cX6_adds 38 = .ok (.iconst 1, 1) := by decide +kernel
theorem dX6_adds_39 : decode cX6_adds 39 = .ok (.goto 4, 3) := by decide +kernel
theorem dX6_adds_42 : decode cX6_adds 42 = .ok (.iconst 0, 1) := by decide +kernel
theorem dX6_adds_43 : decode cX6_adds 43 = .ok (.istore 5, 2) := by decide +kernel
theorem dX6_adds_45 : decode cX6_adds 45 = .ok (.iload_n 3, 1) := by decide +kernel
theorem dX6_adds_46 : decode cX6_adds 46 = .ok (.iload 5, 2) := by decide +kernel
theorem dX6_adds_48 : decode cX6_adds 48 = .ok (.ifCond .eq 20, 3) := by decide +kernel
theorem dX6_adds_51 : decode cX6_adds 51 = .ok (.aload_n 0, 1) := by decide +kernel
theorem dX6_adds_52 : decode cX6_adds 52 = .ok (.getfield 7, 3) := by decide +kernel
theorem dX6_adds_55 : decode cX6_adds 55 = .ok (.bipush 97, 2) := by decide +kernel
theorem dX6_adds_57 : decode cX6_adds 57 = .ok (.iload 4, 2) := by decide +kernel
theorem dX6_adds_59 : decode cX6_adds 59 = .ok (.iadd, 1) := by decide +kernel
theorem dX6_adds_60 : decode cX6_adds 60 = .ok (.iaload, 1) := by decide +kernel
theorem dX6_adds_61 : decode cX6_adds 61 = .ok (.ifCond .ne 7, 3) := by decide +kernel
theorem dX6_adds_64 : decode cX6_adds 64 = .ok (.iconst 1, 1) := by decide +kernel
theorem dX6_adds_65 : decode cX6_adds 65 = .ok (.goto 4, 3) := by decide +kernel
theorem dX6_adds_68 : decode cX6_adds 68 = .ok (.iconst 0, 1) := by decide +kernel
theorem dX6_adds_69 : decode cX6_adds 69 = .ok (.iadd, 1) := by decide +kernel
theorem dX6_adds_70 : decode cX6_adds 70 = .ok (.istore_n 3, 1) := by decide +kernel
theorem dX6_adds_71 : decode cX6_adds 71 = .ok (.aload_n 0, 1) := by decide +kernel
theorem dX6_adds_72 : decode cX6_adds 72 = .ok (.getfield 7, 3) := by decide +kernel
theorem dX6_adds_75 : decode cX6_adds 75 = .ok (.bipush 97, 2) := by decide +kernel
theorem dX6_adds_77 : decode cX6_adds 77 = .ok (.iload 4, 2) := by decide +kernel
theorem dX6_adds_79 : decode cX6_adds 79 = .ok (.iadd, 1) := by decide +kernel
theorem dX6_adds_80 : decode cX6_adds 80 = .ok (.iload 5, 2) := by decide +kernel
theorem dX6_adds_82 : decode cX6_adds 82 = .ok (.ifCond .eq 7, 3) := by decide +kernel
theorem dX6_adds_85 : decode cX6_adds 85 = .ok (.iconst 1, 1) := by decide +kernel
theorem dX6_adds_86 : decode cX6_adds 86 = .ok (.goto 13, 3) := by decide +kernel
theorem dX6_adds_89 : decode cX6_adds 89 = .ok (.aload_n 0, 1) := by decide +kernel
theorem dX6_adds_90 : decode cX6_adds 90 = .ok (.getfield 7, 3) := by decide +kernel
theorem dX6_adds_93 : decode cX6_adds 93 = .ok (.bipush 97, 2) := by decide +kernel
theorem dX6_adds_95 : decode cX6_adds 95 = .ok (.iload 4, 2) := by decide +kernel
theorem dX6_adds_97 : decode cX6_adds 97 = .ok (.iadd, 1) := by decide +kernel
theorem dX6_adds_98 : decode cX6_adds 98 = .ok (.iaload, 1) := by decide +kernel
theorem dX6_adds_99 : decode cX6_adds 99 = .ok (.iastore, 1) := by decide +kernel
theorem dX6_adds_100 : decode cX6_adds 100 = .ok (.iinc 4 1, 3) := by decide +kernel
theorem dX6_adds_103 : decode cX6_adds 103 = .ok (.goto (-98), 3) := by decide +kernel
theorem dX6_adds_106 : decode cX6_adds 106 = .ok (.iload_n 3, 1) := by decide +kernel
theorem dX6_adds_107 : decode cX6_adds 107 = .ok (.ireturn, 1) := by decide +kernel
set_option maxRecDepth 20000 in
theorem ggX6_read_X6_reads : GoodIn wsX6_read wsX6_reads := goodIn_r _ [8, 9, 2, 10, 11, 12, 13, 14, 7, 15, 3, 16, 17, 18, 19, 20, 21, 22, 23, 24, 25, 26, 27, 39, 40, 41, 42, 43, 44, 45, 46, 47, 48, 49, 50, 51, 52, 53, 54, 55, 56] (by decide +kernel) (by decide +kernel)
set_option maxRecDepth 20000 in
theorem gX6_read_X6_reads : GoodIn wsX6_read (wsV RX6 129 RX6 yX6_reads wsX6_reads) := goodIn_app (goodIn_of _ (by decide +kernel)) ggX6_read_X6_reads
set_option maxRecDepth 20000 in
theorem ggX6_read_X6_records : GoodIn wsX6_read wsX6_records := goodIn_r _ [31, 32, 33, 34, 39, 40, 41, 42, 43, 44, 45, 46, 47, 48, 49, 50, 51, 52, 53, 54, 55, 56] (by decide +kernel) (by decide +kernel)
set_option maxRecDepth 20000 in
theorem gX6_read_X6_records : GoodIn wsX6_read (wsV RX6 92 RX6 yX6_records wsX6_records) := goodIn_app (goodIn_of _ (by decide +kernel)) ggX6_read_X6_records
set_option maxRecDepth 20000 in
theorem ggX6_read_X6_adds : GoodIn wsX6_read wsX6_adds := goodIn_r _ [38, 34, 39, 40, 41, 42, 43, 44, 45, 46, 47, 48, 49, 50, 51, 52, 53, 54, 55, 56] (by decide +kernel) (by decide +kernel)
set_option maxRecDepth 20000 in
theorem gX6_read_X6_adds : GoodIn wsX6_read (wsV RX6 132 RX6 yX6_adds wsX6_adds) := goodIn_app (goodIn_of _ (by decide +kernel)) ggX6_read_X6_adds
theorem dX6_read_0 : decode cX6_read 0 = .ok (.aload_n 0, 1) := by decide +kernel
theorem dX6_read_1 : decode cX6_read 1 = .ok (.iconst 0, 1) := by decide +kernel
theorem dX6_read_2 : decode cX6_read 2 = .ok (.putfield 43, 3) := by decide +kernel
theorem dX6_read_5 : decode cX6_read 5 = .ok (.aload_n 0, 1) := by decide +kernel
theorem dX6_read_6 : decode cX6_read 6 = .ok (.invokevirtual 129, 3) := by decide +kernel
theorem dX6_read_9 : decode cX6_read 9 = .ok (.istore_n 1, 1) := by decide +kernel
theorem dX6_read_10 : decode cX6_read 10 = .ok (.iload_n 1, 1) := by decide +kernel
theorem dX6_read_11 : decode cX6_read 11 = .ok (.bipush (-5), 2) := by decide +kernel
theorem dX6_read_13 : decode cX6_read 13 = .ok (.if_icmp .eq 8, 3) := by decide +kernel
theorem dX6_read_16 : decode cX6_read 16 = .ok (.bipush (-100), 2) := by decide +kernel
theorem dX6_read_18 : decode cX6_read 18 = .ok (.iload_n 1, 1) := by decide +kernel
theorem dX6_read_19 : decode cX6_read 19 = .ok (.isub, 1) := by decide +kernel
theorem dX6_read_20 : decode cX6_read 20 = .ok (.ireturn, 1) := by decide +kernel
theorem dX6_read_21 : decode cX6_read 21 = .ok (.aload_n 0, 1) := by decide +kernel
theorem dX6_read_22 : decode cX6_read 22 = .ok (.invokevirtual 92, 3) := by decide +kernel
theorem dX6_read_25 : decode cX6_read 25 = .ok (.iconst 0, 1) := by decide +kernel
theorem dX6_read_26 : decode cX6_read 26 = .ok (.istore_n 2, 1) := by decide +kernel
theorem dX6_read_27 : decode cX6_read 27 = .ok (.iconst 0, 1) := by decide +kernel
theorem dX6_read_28 : decode cX6_read 28 = .ok (.istore_n 3, 1) := by decide +kernel
theorem dX6_read_29 : decode cX6_read 29 = .ok (.iload_n 3, 1) := by decide +kernel
theorem dX6_read_30 : decode cX6_read 30 = .ok (.aload_n 0, 1) := by decide +kernel
theorem dX6_read_31 : decode cX6_read 31 = .ok (.getfield 120, 3) := by decide +kernel
theorem dX6_read_34 : decode cX6_read 34 = .ok (.if_icmp .ge 34, 3) := by decide +kernel
theorem dX6_read_37 : decode cX6_read 37 = .ok (.iload_n 2, 1) := by decide +kernel
theorem dX6_read_38 : decode cX6_read 38 = .ok (.aload_n 0, 1) := by decide +kernel
theorem dX6_read_39 : decode cX6_read 39 = .ok (.aload_n 0, 1) := by decide +kernel
theorem dX6_read_40 : decode cX6_read 40 = .ok (.getfield 40, 3) := by decide +kernel
theorem dX6_read_43 : decode cX6_read 43 = .ok (.iconst 2, 1) := by decide +kernel
theorem dX6_read_44 : decode cX6_read 44 = .ok (.iload_n 3, 1) := by decide +kernel
theorem dX6_read_45 : decode cX6_read 45 = .ok (.imul, 1) := by decide +kernel
theorem dX6_read_46 : decode cX6_read 46 = .ok (.iaload, 1) := by decide +kernel
theorem dX6_read_47 : decode cX6_read 47 = .ok (.aload_n 0, 1) := by decide +kernel
theorem dX6_read_48 : decode cX6_read 48 = .ok (.getfield 40, 3) := by decide +kernel
theorem dX6_read_51 : decode cX6_read 51 = .ok (.iconst 2, 1) := by decide +kernel
theorem dX6_read_52 : decode cX6_read 52 = .ok (.iload_n 3, 1) := by decide +kernel
theorem dX6_read_53 : decode cX6_read 53 = .ok (.imul, 1) := by decide +kernel
theorem dX6_read_54 : decode cX6_read 54 = .ok (.iconst 1, 1) := by decide +kernel
theorem dX6_read_55 : decode cX6_read 55 = .ok (.iadd, 1) := by decide +kernel
theorem dX6_read_56 : decode cX6_read 56 = .ok (.iaload, 1) := by decide +kernel
theorem dX6_read_57 : decode cX6_read 57 = .ok (.invokevirtual 132, 3) := by decide +kernel
theorem dX6_read_60 : decode cX6_read 60 = .ok (.iadd, 1) := by decide +kernel
theorem dX6_read_61 : decode cX6_read 61 = .ok (.istore_n 2, 1) := by decide +kernel
theorem dX6_read_62 : decode cX6_read 62 = .ok (.iinc 3 1, 3) := by decide +kernel
theorem dX6_read_65 : decode cX6_read 65 = .ok (.goto (-36), 3) := by decide +kernel
theorem dX6_read_68 : decode cX6_read 68 = .ok (.iload_n 2, 1) := by decide +kernel
theorem dX6_read_69 : decode cX6_read 69 = .ok (.ireturn, 1) := by decide +kernel
theorem dX6_undo_0 : decode cX6_undo 0 = .ok (.aload_n 0, 1) := by decide +kernel
theorem dX6_undo_1 : decode cX6_undo 1 = .ok (.iconst 0, 1) := by decide +kernel
theorem dX6_undo_2 : decode cX6_undo 2 = .ok (.putfield 43, 3) := by decide +kernel
theorem dX6_undo_5 : decode cX6_undo 5 = .ok (.aload_n 0, 1) := by decide +kernel
theorem dX6_undo_6 : decode cX6_undo 6 = .ok (.getfield 55, 3) := by decide +kernel
theorem dX6_undo_9 : decode cX6_undo 9 = .ok (.ifCond .ne 6, 3) := by decide +kernel
theorem dX6_undo_12 : decode cX6_undo 12 = .ok (.bipush (-5), 2) := by decide +kernel
theorem dX6_undo_14 : decode cX6_undo 14 = .ok (.ireturn, 1) := by decide +kernel
theorem dX6_undo_15 : decode cX6_undo 15 = .ok (.aload_n 0, 1) := by decide +kernel
theorem dX6_undo_16 : decode cX6_undo 16 = .ok (.dup, 1) := by decide +kernel
theorem dX6_undo_17 : decode cX6_undo 17 = .ok (.getfield 55, 3) := by decide +kernel
theorem dX6_undo_20 : decode cX6_undo 20 = .ok (.iconst 1, 1) := by decide +kernel
theorem dX6_undo_21 : decode cX6_undo 21 = .ok (.isub, 1) := by decide +kernel
theorem dX6_undo_22 : decode cX6_undo 22 = .ok (.putfield 55, 3) := by decide +kernel
theorem dX6_undo_25 : decode cX6_undo 25 = .ok (.iconst 0, 1) := by decide +kernel
theorem dX6_undo_26 : decode cX6_undo 26 = .ok (.istore_n 1, 1) := by decide +kernel
theorem dX6_undo_27 : decode cX6_undo 27 = .ok (.iload_n 1, 1) := by decide +kernel
theorem dX6_undo_28 : decode cX6_undo 28 = .ok (.sipush 225, 3) := by decide +kernel
theorem dX6_undo_31 : decode cX6_undo 31 = .ok (.if_icmp .ge 30, 3) := by decide +kernel
theorem dX6_undo_34 : decode cX6_undo 34 = .ok (.aload_n 0, 1) := by decide +kernel
theorem dX6_undo_35 : decode cX6_undo 35 = .ok (.getfield 7, 3) := by decide +kernel
theorem dX6_undo_38 : decode cX6_undo 38 = .ok (.iload_n 1, 1) := by decide +kernel
theorem dX6_undo_39 : decode cX6_undo 39 = .ok (.aload_n 0, 1) := by decide +kernel
theorem dX6_undo_40 : decode cX6_undo 40 = .ok (.getfield 16, 3) := by decide +kernel
theorem dX6_undo_43 : decode cX6_undo 43 = .ok (.sipush 225, 3) := by decide +kernel
theorem dX6_undo_46 : decode cX6_undo 46 = .ok (.aload_n 0, 1) := by decide +kernel
theorem dX6_undo_47 : decode cX6_undo 47 = .ok (.getfield 55, 3) := by decide +kernel
theorem dX6_undo_50 : decode cX6_undo 50 = .ok (.imul, 1) := by decide +kernel
theorem dX6_undo_51 : decode cX6_undo 51 = .ok (.iload_n 1, 1) := by decide +kernel
theorem dX6_undo_52 : decode cX6_undo 52 = .ok (.iadd, 1) := by decide +kernel
theorem dX6_undo_53 : decode cX6_undo 53 = .ok (.iaload, 1) := by decide +kernel
theorem dX6_undo_54 : decode cX6_undo 54 = .ok (.iastore, 1) := by decide +kernel
theorem dX6_undo_55 : decode cX6_undo 55 = .ok (.iinc 1 1, 3) := by decide +kernel
theorem dX6_undo_58 : decode cX6_undo 58 = .ok (.goto (-31), 3) := by decide +kernel
theorem dX6_undo_61 : decode cX6_undo 61 = .ok (.aload_n 0, 1) := by decide +kernel
theorem dX6_undo_62 : decode cX6_undo 62 = .ok (.getfield 55, 3) := by decide +kernel
theorem dX6_undo_65 : decode cX6_undo 65 = .ok (.ireturn, 1) := by decide +kernel
set_option maxRecDepth 20000 in
theorem ggX6_save_X6_openMany : GoodIn wsX6_save wsX6_openMany := goodIn_r _ [9, 3, 10, 11, 12, 13, 14, 15, 16, 17, 18, 19, 20, 21, 22, 23, 24, 25, 26, 27] (by decide +kernel) (by decide +kernel)
set_option maxRecDepth 20000 in
theorem gX6_save_X6_openMany : GoodIn wsX6_save (wsV RX6 95 RX6 yX6_openMany wsX6_openMany) := goodIn_app (goodIn_of _ (by decide +kernel)) ggX6_save_X6_openMany
theorem dX6_save_0 : decode cX6_save 0 = .ok (.aload_n 0, 1) := by decide +kernel
theorem dX6_save_1 : decode cX6_save 1 = .ok (.iconst 0, 1) := by decide +kernel
theorem dX6_save_2 : decode cX6_save 2 = .ok (.putfield 43, 3) := by decide +kernel
theorem dX6_save_5 : decode cX6_save 5 = .ok (.iconst 0, 1) := by decide +kernel
theorem dX6_save_6 : decode cX6_save 6 = .ok (.istore_n 1, 1) := by decide +kernel
theorem dX6_save_7 : decode cX6_save 7 = .ok (.iload_n 1, 1) := by decide +kernel
theorem dX6_save_8 : decode cX6_save 8 = .ok (.sipush 225, 3) := by decide +kernel
theorem dX6_save_11 : decode cX6_save 11 = .ok (.if_icmp .ge 21, 3) := by decide +kernel
theorem dX6_save_14 : decode cX6_save 14 = .ok (.aload_n 0, 1) := by decide +kernel
theorem dX6_save_15 : decode cX6_save 15 = .ok (.getfield 19, 3) := by decide +kernel
theorem dX6_save_18 : decode cX6_save 18 = .ok (.iload_n 1, 1) := by decide +kernel
theorem dX6_save_19 : decode cX6_save 19 = .ok (.aload_n 0, 1) := by decide +kernel
theorem dX6_save_20 : decode cX6_save 20 = .ok (.getfield 7, 3) := by decide +kernel
theorem dX6_save_23 : decode cX6_save 23 = .ok (.iload_n 1, 1) := by decide +kernel
theorem dX6_save_24 : decode cX6_save 24 = .ok (.iaload, 1) := by decide +kernel
theorem dX6_save_25 : decode cX6_save 25 = .ok (.iastore, 1) := by decide +kernel
theorem dX6_save_26 : decode cX6_save 26 = .ok (.iinc 1 1, 3) := by decide +kernel
theorem dX6_save_29 : decode cX6_save 29 = .ok (.goto (-22), 3) := by decide +kernel
theorem dX6_save_32 : decode cX6_save 32 = .ok (.aload_n 0, 1) := by decide +kernel
theorem dX6_save_33 : decode cX6_save 33 = .ok (.iconst 1, 1) := by decide +kernel
theorem dX6_save_34 : decode cX6_save 34 = .ok (.putfield 135, 3) := by decide +kernel
theorem dX6_save_37 : decode cX6_save 37 = .ok (.aload_n 0, 1) := by decide +kernel
theorem dX6_save_38 : decode cX6_save 38 = .ok (.invokevirtual 95, 3) := by decide +kernel
theorem dX6_save_41 : decode cX6_save 41 = .ok (.ireturn, 1) := by decide +kernel
set_option maxRecDepth 20000 in
theorem ggX6_restore_X6_records : GoodIn wsX6_restore wsX6_records := goodIn_r _ [9, 10, 11, 3, 16, 17, 18, 19, 20, 21, 22, 23, 24, 25, 26, 27, 28, 29, 30, 31, 32, 33] (by decide +kernel) (by decide +kernel)
set_option maxRecDepth 20000 in
theorem gX6_restore_X6_records : GoodIn wsX6_restore (wsV RX6 92 RX6 yX6_records wsX6_records) := goodIn_app (goodIn_of _ (by decide +kernel)) ggX6_restore_X6_records
set_option maxRecDepth 20000 in
theorem ggX6_restore_X6_openMany : GoodIn wsX6_restore wsX6_openMany := goodIn_r _ [15, 3, 16, 17, 18, 19, 20, 21, 22, 23, 24, 25, 26, 27, 28, 29, 30, 31, 32, 33] (by decide +kernel) (by decide +kernel)
set_option maxRecDepth 20000 in
theorem gX6_restore_X6_openMany : GoodIn wsX6_restore (wsV RX6 95 RX6 yX6_openMany wsX6_openMany) := goodIn_app (goodIn_of _ (by decide +kernel)) ggX6_restore_X6_openMany
theorem dX6_restore_0 : decode cX6_restore 0 = .ok (.aload_n 0, 1) := by decide +kernel
theorem dX6_restore_1 : decode cX6_restore 1 = .ok (.iconst 0, 1) := by decide +kernel
theorem dX6_restore_2 : decode cX6_restore 2 = .ok (.putfield 43, 3) := by decide +kernel
theorem dX6_restore_5 : decode cX6_restore 5 = .ok (.aload_n 0, 1) := by decide +kernel
theorem dX6_restore_6 : decode cX6_restore 6 = .ok (.getfield 135, 3) := by decide +kernel
theorem dX6_restore_9 : decode cX6_restore 9 = .ok (.ifCond .ne 6, 3) := by decide +kernel
theorem dX6_restore_12 : decode cX6_restore 12 = .ok (.bipush (-4), 2) := by decide +kernel
theorem dX6_restore_14 : decode cX6_restore 14 = .ok (.ireturn, 1) := by decide +kernel
theorem dX6_restore_15 : decode cX6_restore 15 = .ok (.aload_n 0, 1) := by decide +kernel
theorem dX6_restore_16 : decode cX6_restore 16 = .ok (.invokevirtual 92, 3) := by decide +kernel
theorem dX6_restore_19 : decode cX6_restore 19 = .ok (.iconst 0, 1) := by decide +kernel
theorem dX6_restore_20 : decode cX6_restore 20 = .ok (.istore_n 1, 1) := by decide +kernel
theorem dX6_restore_21 : decode cX6_restore 21 = .ok (.iload_n 1, 1) := by decide +kernel
theorem dX6_restore_22 : decode cX6_restore 22 = .ok (.sipush 225, 3) := by decide +kernel
theorem dX6_restore_25 : decode cX6_restore 25 = .ok (.if_icmp .ge 21, 3) := by decide +kernel
theorem dX6_restore_28 : decode cX6_restore 28 = .ok (.aload_n 0, 1) := by decide +kernel
theorem dX6_restore_29 : decode cX6_restore 29 = .ok (.getfield 7, 3) := by decide +kernel
theorem dX6_restore_32 : decode cX6_restore 32 = .ok (.iload_n 1, 1) := by decide +kernel
theorem dX6_restore_33 : decode cX6_restore 33 = .ok (.aload_n 0, 1) := by decide +kernel
theorem dX6_restore_34 : decode cX6_restore 34 = .ok (.getfield 19, 3) := by decide +kernel
theorem dX6_restore_37 : decode cX6_restore 37 = .ok (.iload_n 1, 1) := by decide +kernel
theorem dX6_restore_38 : decode cX6_restore 38 = .ok (.iaload, 1) := by decide +kernel
theorem dX6_restore_39 : decode cX6_restore 39 = .ok (.iastore, 1) := by decide +kernel
theorem dX6_restore_40 : decode cX6_restore 40 = .ok (.iinc 1 1, 3) := by decide +kernel
theorem dX6_restore_43 : decode cX6_restore 43 = .ok (.goto (-22), 3) := by decide +kernel
theorem dX6_restore_46 : decode cX6_restore 46 = .ok (.aload_n 0, 1) := by decide +kernel
theorem dX6_restore_47 : decode cX6_restore 47 = .ok (.invokevirtual 95, 3) := by decide +kernel
theorem dX6_restore_50 : decode cX6_restore 50 = .ok (.ireturn, 1) := by decide +kernel
set_option maxRecDepth 20000 in
theorem ggX6_ofTwo_X6_isPossible : GoodIn wsX6_ofTwo wsX6_isPossible := goodIn_r _ [6, 7, 8, 9, 5, 10, 1, 11, 12, 13, 14, 15, 16, 17, 18, 19, 20, 21, 22, 23, 24, 25, 26, 27, 28, 29, 30, 31, 32, 33, 34, 35, 36] (by decide +kernel) (by decide +kernel)
set_option maxRecDepth 20000 in
theorem gX6_ofTwo_X6_isPossible : GoodIn wsX6_ofTwo (wsV RX6 68 RX6 yX6_isPossible wsX6_isPossible) := goodIn_app (goodIn_of _ (by decide +kernel)) ggX6_ofTwo_X6_isPossible
set_option maxRecDepth 20000 in
theorem ggX6_ofTwo_X6_canMeet : GoodIn wsX6_ofTwo wsX6_canMeet := goodIn_r _ [14, 1, 15, 16, 17, 5, 18, 19, 20, 21, 22, 23, 24, 25, 26, 27, 28, 29, 30, 31, 32, 33, 34, 35, 36] (by decide +kernel) (by decide +kernel)
set_option maxRecDepth 20000 in
theorem gX6_ofTwo_X6_canMeet : GoodIn wsX6_ofTwo (wsV RX6 65 RX6 yX6_canMeet wsX6_canMeet) := goodIn_app (goodIn_of _ (by decide +kernel)) ggX6_ofTwo_X6_canMeet
theorem dX6_ofTwo_0 : decode cX6_ofTwo 0 = .ok (.iload_n 3, 1) := by decide +kernel
theorem dX6_ofTwo_1 : decode cX6_ofTwo 1 = .ok (.tableswitch 100 1 4 #[31, 46, 61, 84], 31) := by decide +kernel
theorem dX6_ofTwo_32 : decode cX6_ofTwo 32 = .ok (.aload_n 0, 1) := by decide +kernel
theorem dX6_ofTwo_33 : decode cX6_ofTwo 33 = .ok (.getfield 7, 3) := by decide +kernel
theorem dX6_ofTwo_36 : decode cX6_ofTwo 36 = .ok (.bipush 97, 2) := by decide +kernel
theorem dX6_ofTwo_38 : decode cX6_ofTwo 38 = .ok (.bipush 8, 2) := by decide +kernel
theorem dX6_ofTwo_40 : decode cX6_ofTwo 40 = .ok (.iload_n 1, 1) := by decide +kernel
theorem dX6_ofTwo_41 : decode cX6_ofTwo 41 = .ok (.imul, 1) := by decide +kernel
theorem dX6_ofTwo_42 : decode cX6_ofTwo 42 = .ok (.iadd, 1) := by decide +kernel
theorem dX6_ofTwo_43 : decode cX6_ofTwo 43 = .ok (.iload_n 2, 1) := by decide +kernel
theorem dX6_ofTwo_44 : decode cX6_ofTwo 44 = .ok (.iadd, 1) := by decide +kernel
theorem dX6_ofTwo_45 : decode cX6_ofTwo 45 = .ok (.iaload, 1) := by decide +kernel
theorem dX6_ofTwo_46 : decode cX6_ofTwo 46 = .ok (.ireturn, 1) := by decide +kernel
theorem dX6_ofTwo_47 : decode cX6_ofTwo 47 = .ok (.aload_n 0, 1) := by decide +kernel
theorem dX6_ofTwo_48 : decode cX6_ofTwo 48 = .ok (.iload_n 1, 1) := by decide +kernel
theorem dX6_ofTwo_49 : decode cX6_ofTwo 49 = .ok (.iload_n 2, 1) := by decide +kernel
theorem dX6_ofTwo_50 : decode cX6_ofTwo 50 = .ok (.invokevirtual 68, 3) := by decide +kernel
theorem dX6_ofTwo_53 : decode cX6_ofTwo 53 = .ok (.ifCond .eq 7, 3) := by decide +kernel
theorem dX6_ofTwo_56 : decode cX6_ofTwo 56 = .ok (.iconst 1, 1) := by decide +kernel
theorem dX6_ofTwo_57 : decode cX6_ofTwo 57 = .ok (.goto 4, 3) := by decide +kernel
theorem dX6_ofTwo_60 : decode cX6_ofTwo 60 = .ok (.iconst 0, 1) := by decide +kernel
theorem dX6_ofTwo_61 : decode cX6_ofTwo 61 = .ok (.ireturn, 1) := by decide +kernel
theorem dX6_ofTwo_62 : decode cX6_ofTwo 62 = .ok (.aload_n 0, 1) := by decide +kernel
theorem dX6_ofTwo_63 : decode cX6_ofTwo 63 = .ok (.getfield 7, 3) := by decide +kernel
theorem dX6_ofTwo_66 : decode cX6_ofTwo 66 = .ok (.bipush 33, 2) := by decide +kernel
theorem dX6_ofTwo_68 : decode cX6_ofTwo 68 = .ok (.bipush 8, 2) := by decide +kernel
theorem dX6_ofTwo_70 : decode cX6_ofTwo 70 = .ok (.iload_n 1, 1) := by decide +kernel
theorem dX6_ofTwo_71 : decode cX6_ofTwo 71 = .ok (.imul, 1) := by decide +kernel
theorem dX6_ofTwo_72 : decode cX6_ofTwo 72 = .ok (.iadd, 1) := by decide +kernel
theorem dX6_ofTwo_73 : decode cX6_ofTwo 73 = .ok (.iload_n 2, 1) := by decide +kernel
theorem dX6_ofTwo_74 : decode cX6_ofTwo 74 = .ok (.iadd, 1) := by decide +kernel
theorem dX6_ofTwo_75 : decode cX6_ofTwo 75 = .ok (.iaload, 1) := by decide +kernel
theorem dX6_ofTwo_76 : decode cX6_ofTwo 76 = .ok (.ifCond .le 7, 3) := by decide +kernel
theorem dX6_ofTwo_79 : decode cX6_ofTwo 79 = .ok (.iconst 1, 1) := by decide +kernel
theorem dX6_ofTwo_80 : decode cX6_ofTwo 80 = .ok (.goto 4, 3) := by decide +kernel
theorem dX6_ofTwo_83 : decode cX6_ofTwo 83 = .ok (.iconst 0, 1) := by decide +kernel
theorem dX6_ofTwo_84 : decode cX6_ofTwo 84 = .ok (.ireturn, 1) := by decide +kernel
theorem dX6_ofTwo_85 : decode cX6_ofTwo 85 = .ok (.aload_n 0, 1) := by decide +kernel
theorem dX6_ofTwo_86 : decode cX6_ofTwo 86 = .ok (.getfield 7, 3) := by decide +kernel
theorem dX6_ofTwo_89 : decode cX6_ofTwo 89 = .ok (.sipush 161, 3) := by decide +kernel
theorem dX6_ofTwo_92 : decode cX6_ofTwo 92 = .ok (.bipush 8, 2) := by decide +kernel
theorem dX6_ofTwo_94 : decode cX6_ofTwo 94 = .ok (.iload_n 1, 1) := by decide +kernel
theorem dX6_ofTwo_95 : decode cX6_ofTwo 95 = .ok (.imul, 1) := by decide +kernel
theorem dX6_ofTwo_96 : decode cX6_ofTwo 96 = .ok (.iadd, 1) := by decide +kernel
end
section
theorem dX6_ofTwo_97 : decode cX6_ofTwo 97 = .ok (.iload_n 2, 1) := by decide +kernel
theorem dX6_ofTwo_98 : decode cX6_ofTwo 98 = .ok (.iadd, 1) := by decide +kernel
theorem dX6_ofTwo_99 : decode cX6_ofTwo 99 = .ok (.iaload, 1) := by decide +kernel
theorem dX6_ofTwo_100 : decode cX6_ofTwo 100 = .ok (.ireturn, 1) := by decide +kernel
theorem dX6_ofTwo_101 : decode cX6_ofTwo 101 = .ok (.aload_n 0, 1) := by decide +kernel
theorem dX6_ofTwo_102 : decode cX6_ofTwo 102 = .ok (.iload_n 1, 1) := by decide +kernel
theorem dX6_ofTwo_103 : decode cX6_ofTwo 103 = .ok (.iload_n 2, 1) := by decide +kernel
theorem dX6_ofTwo_104 : decode cX6_ofTwo 104 = .ok (.invokevirtual 65, 3) := by decide +kernel
theorem dX6_ofTwo_107 : decode cX6_ofTwo 107 = .ok (.ifCond .eq 7, 3) := by decide +kernel
theorem dX6_ofTwo_110 : decode cX6_ofTwo 110 = .ok (.iconst 1, 1) := by decide +kernel
theorem dX6_ofTwo_111 : decode cX6_ofTwo 111 = .ok (.goto 4, 3) := by decide +kernel
theorem dX6_ofTwo_114 : decode cX6_ofTwo 114 = .ok (.iconst 0, 1) := by decide +kernel
theorem dX6_ofTwo_115 : decode cX6_ofTwo 115 = .ok (.ireturn, 1) := by decide +kernel
set_option maxRecDepth 20000 in
theorem ggX6_person_X6_isPerson : GoodIn wsX6_person wsX6_isPerson := goodIn_r _ [6, 7, 8, 5, 9] (by decide +kernel) (by decide +kernel)
set_option maxRecDepth 20000 in
theorem gX6_person_X6_isPerson : GoodIn wsX6_person (va_wsS RX6 51 yX6_isPerson wsX6_isPerson) := goodIn_app (goodIn_of _ (by decide +kernel)) ggX6_person_X6_isPerson
set_option maxRecDepth 20000 in
theorem ggX6_person_X6_in : GoodIn wsX6_person wsX6_in := goodIn_r _ [9] (by decide +kernel) (by decide +kernel)
set_option maxRecDepth 20000 in
theorem gX6_person_X6_in : GoodIn wsX6_person (va_wsS RX6 47 yX6_in wsX6_in) := goodIn_app (goodIn_of _ (by decide +kernel)) ggX6_person_X6_in
set_option maxRecDepth 20000 in
theorem ggX6_person_X6_ofTwo : GoodIn wsX6_person wsX6_ofTwo := goodIn_r _ [13, 2, 14, 15, 16, 5, 17, 18, 19, 20, 21, 22, 23, 24, 25, 26, 27, 28, 29, 30, 31, 32, 33, 34, 35, 36, 37, 38, 39, 40, 41, 42, 43, 44, 45, 46, 47] (by decide +kernel) (by decide +kernel)
set_option maxRecDepth 20000 in
theorem gX6_person_X6_ofTwo : GoodIn wsX6_person (wsV RX6 138 RX6 yX6_ofTwo wsX6_ofTwo) := goodIn_app (goodIn_of _ (by decide +kernel)) ggX6_person_X6_ofTwo
theorem dX6_person_0 : decode cX6_person 0 = .ok (.aload_n 0, 1) := by decide +kernel
theorem dX6_person_1 : decode cX6_person 1 = .ok (.iconst 0, 1) := by decide +kernel
theorem dX6_person_2 : decode cX6_person 2 = .ok (.putfield 43, 3) := by decide +kernel
theorem dX6_person_5 : decode cX6_person 5 = .ok (.iload_n 2, 1) := by decide +kernel
theorem dX6_person_6 : decode cX6_person 6 = .ok (.invokestatic 51, 3) := by decide +kernel
theorem dX6_person_9 : decode cX6_person 9 = .ok (.ifCond .ne 5, 3) := by decide +kernel
theorem dX6_person_12 : decode cX6_person 12 = .ok (.iconst (-1), 1) := by decide +kernel
theorem dX6_person_13 : decode cX6_person 13 = .ok (.ireturn, 1) := by decide +kernel
theorem dX6_person_14 : decode cX6_person 14 = .ok (.iload_n 3, 1) := by decide +kernel
theorem dX6_person_15 : decode cX6_person 15 = .ok (.iconst 0, 1) := by decide +kernel
theorem dX6_person_16 : decode cX6_person 16 = .ok (.iconst 5, 1) := by decide +kernel
theorem dX6_person_17 : decode cX6_person 17 = .ok (.invokestatic 47, 3) := by decide +kernel
theorem dX6_person_20 : decode cX6_person 20 = .ok (.ifCond .ne 6, 3) := by decide +kernel
theorem dX6_person_23 : decode cX6_person 23 = .ok (.bipush (-2), 2) := by decide +kernel
theorem dX6_person_25 : decode cX6_person 25 = .ok (.ireturn, 1) := by decide +kernel
theorem dX6_person_26 : decode cX6_person 26 = .ok (.iload_n 3, 1) := by decide +kernel
theorem dX6_person_27 : decode cX6_person 27 = .ok (.ifCond .ne 23, 3) := by decide +kernel
theorem dX6_person_30 : decode cX6_person 30 = .ok (.aload_n 0, 1) := by decide +kernel
theorem dX6_person_31 : decode cX6_person 31 = .ok (.getfield 7, 3) := by decide +kernel
theorem dX6_person_34 : decode cX6_person 34 = .ok (.iconst 1, 1) := by decide +kernel
theorem dX6_person_35 : decode cX6_person 35 = .ok (.iload_n 1, 1) := by decide +kernel
theorem dX6_person_36 : decode cX6_person 36 = .ok (.ifCond .eq 7, 3) := by decide +kernel
theorem dX6_person_39 : decode cX6_person 39 = .ok (.iconst 0, 1) := by decide +kernel
theorem dX6_person_40 : decode cX6_person 40 = .ok (.goto 5, 3) := by decide +kernel
theorem dX6_person_43 : decode cX6_person 43 = .ok (.bipush 8, 2) := by decide +kernel
theorem dX6_person_45 : decode cX6_person 45 = .ok (.iadd, 1) := by decide +kernel
theorem dX6_person_46 : decode cX6_person 46 = .ok (.iload_n 2, 1) := by decide +kernel
theorem dX6_person_47 : decode cX6_person 47 = .ok (.iadd, 1) := by decide +kernel
theorem dX6_person_48 : decode cX6_person 48 = .ok (.iaload, 1) := by decide +kernel
theorem dX6_person_49 : decode cX6_person 49 = .ok (.ireturn, 1) := by decide +kernel
theorem dX6_person_50 : decode cX6_person 50 = .ok (.iconst 0, 1) := by decide +kernel
theorem dX6_person_51 : decode cX6_person 51 = .ok (.istore 4, 2) := by decide +kernel
theorem dX6_person_53 : decode cX6_person 53 = .ok (.iconst 0, 1) := by decide +kernel
theorem dX6_person_54 : decode cX6_person 54 = .ok (.istore 5, 2) := by decide +kernel
theorem dX6_person_56 : decode cX6_person 56 = .ok (.iload 5, 2) := by decide +kernel
theorem dX6_person_58 : decode cX6_person 58 = .ok (.bipush 8, 2) := by decide +kernel
theorem dX6_person_60 : decode cX6_person 60 = .ok (.if_icmp .ge 54, 3) := by decide +kernel
theorem dX6_person_63 : decode cX6_person 63 = .ok (.iload_n 1, 1) := by decide +kernel
theorem dX6_person_64 : decode cX6_person 64 = .ok (.ifCond .eq 14, 3) := by decide +kernel
theorem dX6_person_67 : decode cX6_person 67 = .ok (.aload_n 0, 1) := by decide +kernel
theorem dX6_person_68 : decode cX6_person 68 = .ok (.iload_n 2, 1) := by decide +kernel
theorem dX6_person_69 : decode cX6_person 69 = .ok (.iload 5, 2) := by decide +kernel
theorem dX6_person_71 : decode cX6_person 71 = .ok (.iload_n 3, 1) := by decide +kernel
theorem dX6_person_72 : decode cX6_person 72 = .ok (.invokevirtual 138, 3) := by decide +kernel
theorem dX6_person_75 : decode cX6_person 75 = .ok (.goto 11, 3) := by decide +kernel
theorem dX6_person_78 : decode cX6_person 78 = .ok (.aload_n 0, 1) := by decide +kernel
theorem dX6_person_79 : decode cX6_person 79 = .ok (.iload 5, 2) := by decide +kernel
theorem dX6_person_81 : decode cX6_person 81 = .ok (.iload_n 2, 1) := by decide +kernel
theorem dX6_person_82 : decode cX6_person 82 = .ok (.iload_n 3, 1) := by decide +kernel
theorem dX6_person_83 : decode cX6_person 83 = .ok (.invokevirtual 138, 3) := by decide +kernel
theorem dX6_person_86 : decode cX6_person 86 = .ok (.istore 6, 2) := by decide +kernel
theorem dX6_person_88 : decode cX6_person 88 = .ok (.iload 4, 2) := by decide +kernel
theorem dX6_person_90 : decode cX6_person 90 = .ok (.iload_n 3, 1) := by decide +kernel
theorem dX6_person_91 : decode cX6_person 91 = .ok (.iconst 5, 1) := by decide +kernel
theorem dX6_person_92 : decode cX6_person 92 = .ok (.if_icmp .ne 11, 3) := by decide +kernel
theorem dX6_person_95 : decode cX6_person 95 = .ok (.iload 6, 2) := by decide +kernel
theorem dX6_person_97 : decode cX6_person 97 = .ok (.iload 5, 2) := by decide +kernel
theorem dX6_person_99 : decode cX6_person 99 = .ok (.ishl, 1) := by decide +kernel
theorem dX6_person_100 : decode cX6_person 100 = .ok (.goto 5, 3) := by decide +kernel
theorem dX6_person_103 : decode cX6_person 103 = .ok (.iload 6, 2) := by decide +kernel
theorem dX6_person_105 : decode cX6_person 105 = .ok (.iadd, 1) := by decide +kernel
theorem dX6_person_106 : decode cX6_person 106 = .ok (.istore 4, 2) := by decide +kernel
theorem dX6_person_108 : decode cX6_person 108 = .ok (.iinc 5 1, 3) := by decide +kernel
theorem dX6_person_111 : decode cX6_person 111 = .ok (.goto (-55), 3) := by decide +kernel
theorem dX6_person_114 : decode cX6_person 114 = .ok (.iload 4, 2) := by decide +kernel
theorem dX6_person_116 : decode cX6_person 116 = .ok (.ireturn, 1) := by decide +kernel
set_option maxRecDepth 20000 in
theorem ggX6_why_X6_isOpen : GoodIn wsX6_why wsX6_isOpen := goodIn_r _ [7, 1, 46, 47, 48, 49, 50, 51, 52, 53, 54, 55, 56, 57, 58, 59, 60, 61, 62, 63] (by decide +kernel) (by decide +kernel)
set_option maxRecDepth 20000 in
theorem gX6_why_X6_isOpen : GoodIn wsX6_why (wsV RX6 62 RX6 yX6_isOpen wsX6_isOpen) := goodIn_app (goodIn_of _ (by decide +kernel)) ggX6_why_X6_isOpen
set_option maxRecDepth 20000 in
theorem ggX6_why_X6_areLinked : GoodIn wsX6_why wsX6_areLinked := goodIn_r _ [11, 1, 46, 47, 48, 49, 50, 51, 52, 53, 54, 55, 56, 57, 58, 59, 60, 61, 62, 63] (by decide +kernel) (by decide +kernel)
set_option maxRecDepth 20000 in
theorem gX6_why_X6_areLinked : GoodIn wsX6_why (wsV RX6 58 RX6 yX6_areLinked wsX6_areLinked) := goodIn_app (goodIn_of _ (by decide +kernel)) ggX6_why_X6_areLinked
set_option maxRecDepth 20000 in
theorem ggX6_why_X6_matches : GoodIn wsX6_why wsX6_matches := goodIn_r _ [15, 2, 16, 17, 18, 6, 19, 20, 21, 22, 23, 24, 3, 4, 5, 7, 1, 25, 26, 27, 28, 8, 9, 10, 11, 29, 30, 31, 32, 33, 34, 35, 36, 37, 38, 39, 40, 41, 42, 43, 44, 45, 46, 47, 48, 49, 50, 51, 52, 53, 54, 55, 56, 57, 58, 59, 60, 61, 62, 63] (by decide +kernel) (by decide +kernel)
set_option maxRecDepth 20000 in
theorem gX6_why_X6_matches : GoodIn wsX6_why (wsV RX6 101 RX6 yX6_matches wsX6_matches) := goodIn_app (goodIn_of _ (by decide +kernel)) ggX6_why_X6_matches
theorem dX6_why_0 : decode cX6_why 0 = .ok (.aload_n 0, 1) := by decide +kernel
theorem dX6_why_1 : decode cX6_why 1 = .ok (.iload_n 1, 1) := by decide +kernel
theorem dX6_why_2 : decode cX6_why 2 = .ok (.iload_n 2, 1) := by decide +kernel
theorem dX6_why_3 : decode cX6_why 3 = .ok (.invokevirtual 62, 3) := by decide +kernel
theorem dX6_why_6 : decode cX6_why 6 = .ok (.ifCond .ne 5, 3) := by decide +kernel
theorem dX6_why_9 : decode cX6_why 9 = .ok (.iconst 1, 1) := by decide +kernel
theorem dX6_why_10 : decode cX6_why 10 = .ok (.ireturn, 1) := by decide +kernel
theorem dX6_why_11 : decode cX6_why 11 = .ok (.aload_n 0, 1) := by decide +kernel
theorem dX6_why_12 : decode cX6_why 12 = .ok (.iload_n 1, 1) := by decide +kernel
theorem dX6_why_13 : decode cX6_why 13 = .ok (.iload_n 2, 1) := by decide +kernel
theorem dX6_why_14 : decode cX6_why 14 = .ok (.invokevirtual 58, 3) := by decide +kernel
theorem dX6_why_17 : decode cX6_why 17 = .ok (.ifCond .ne 5, 3) := by decide +kernel
theorem dX6_why_20 : decode cX6_why 20 = .ok (.iconst 2, 1) := by decide +kernel
theorem dX6_why_21 : decode cX6_why 21 = .ok (.ireturn, 1) := by decide +kernel
theorem dX6_why_22 : decode cX6_why 22 = .ok (.aload_n 0, 1) := by decide +kernel
theorem dX6_why_23 : decode cX6_why 23 = .ok (.getfield 7, 3) := by decide +kernel
theorem dX6_why_26 : decode cX6_why 26 = .ok (.bipush 33, 2) := by decide +kernel
theorem dX6_why_28 : decode cX6_why 28 = .ok (.bipush 8, 2) := by decide +kernel
theorem dX6_why_30 : decode cX6_why 30 = .ok (.iload_n 1, 1) := by decide +kernel
theorem dX6_why_31 : decode cX6_why 31 = .ok (.imul, 1) := by decide +kernel
theorem dX6_why_32 : decode cX6_why 32 = .ok (.iadd, 1) := by decide +kernel
theorem dX6_why_33 : decode cX6_why 33 = .ok (.iload_n 2, 1) := by decide +kernel
theorem dX6_why_34 : decode cX6_why 34 = .ok (.iadd, 1) := by decide +kernel
theorem dX6_why_35 : decode cX6_why 35 = .ok (.iaload, 1) := by decide +kernel
theorem dX6_why_36 : decode cX6_why 36 = .ok (.ifCond .le 5, 3) := by decide +kernel
theorem dX6_why_39 : decode cX6_why 39 = .ok (.iconst 3, 1) := by decide +kernel
theorem dX6_why_40 : decode cX6_why 40 = .ok (.ireturn, 1) := by decide +kernel
theorem dX6_why_41 : decode cX6_why 41 = .ok (.aload_n 0, 1) := by decide +kernel
theorem dX6_why_42 : decode cX6_why 42 = .ok (.invokevirtual 101, 3) := by decide +kernel
theorem dX6_why_45 : decode cX6_why 45 = .ok (.pop, 1) := by decide +kernel
theorem dX6_why_46 : decode cX6_why 46 = .ok (.aload_n 0, 1) := by decide +kernel
theorem dX6_why_47 : decode cX6_why 47 = .ok (.getfield 31, 3) := by decide +kernel
theorem dX6_why_50 : decode cX6_why 50 = .ok (.iload_n 1, 1) := by decide +kernel
theorem dX6_why_51 : decode cX6_why 51 = .ok (.iaload, 1) := by decide +kernel
theorem dX6_why_52 : decode cX6_why 52 = .ok (.iload_n 2, 1) := by decide +kernel
theorem dX6_why_53 : decode cX6_why 53 = .ok (.if_icmp .ne 7, 3) := by decide +kernel
theorem dX6_why_56 : decode cX6_why 56 = .ok (.iconst 0, 1) := by decide +kernel
theorem dX6_why_57 : decode cX6_why 57 = .ok (.goto 4, 3) := by decide +kernel
theorem dX6_why_60 : decode cX6_why 60 = .ok (.iconst 4, 1) := by decide +kernel
theorem dX6_why_61 : decode cX6_why 61 = .ok (.ireturn, 1) := by decide +kernel
set_option maxRecDepth 20000 in
theorem ggX6_pair_X6_isPair : GoodIn wsX6_pair wsX6_isPair := goodIn_r _ [6, 7, 8, 5, 9, 10, 11, 12] (by decide +kernel) (by decide +kernel)
set_option maxRecDepth 20000 in
theorem gX6_pair_X6_isPair : GoodIn wsX6_pair (va_wsS RX6 89 yX6_isPair wsX6_isPair) := goodIn_app (goodIn_of _ (by decide +kernel)) ggX6_pair_X6_isPair
set_option maxRecDepth 20000 in
theorem ggX6_pair_X6_why : GoodIn wsX6_pair wsX6_why := goodIn_r _ [16, 2, 17, 18, 19, 20, 5, 21, 22, 23, 24, 25, 26, 27, 28, 29, 30, 31, 32, 33, 34, 35, 36, 37, 38, 39, 40, 41, 42, 43, 44, 45, 46, 47, 48, 49, 50, 51, 52, 53, 54, 55, 56, 57, 58, 59, 60, 61, 62, 63, 64, 65, 66, 67, 68, 69, 70, 71, 72, 73, 74, 75, 76, 77] (by decide +kernel) (by decide +kernel)
set_option maxRecDepth 20000 in
theorem gX6_pair_X6_why : GoodIn wsX6_pair (wsV RX6 142 RX6 yX6_why wsX6_why) := goodIn_app (goodIn_of _ (by decide +kernel)) ggX6_pair_X6_why
theorem dX6_pair_0 : decode cX6_pair 0 = .ok (.aload_n 0, 1) := by decide +kernel
theorem dX6_pair_1 : decode cX6_pair 1 = .ok (.iconst 0, 1) := by decide +kernel
theorem dX6_pair_2 : decode cX6_pair 2 = .ok (.putfield 43, 3) := by decide +kernel
theorem dX6_pair_5 : decode cX6_pair 5 = .ok (.iload_n 1, 1) := by decide +kernel
theorem dX6_pair_6 : decode cX6_pair 6 = .ok (.iload_n 2, 1) := by decide +kernel
theorem dX6_pair_7 : decode cX6_pair 7 = .ok (.invokestatic 89, 3) := by decide +kernel
theorem dX6_pair_10 : decode cX6_pair 10 = .ok (.ifCond .ne 5, 3) := by decide +kernel
theorem dX6_pair_13 : decode cX6_pair 13 = .ok (.iconst (-1), 1) := by decide +kernel
theorem dX6_pair_14 : decode cX6_pair 14 = .ok (.ireturn, 1) := by decide +kernel
theorem dX6_pair_15 : decode cX6_pair 15 = .ok (.iload_n 3, 1) := by decide +kernel
theorem dX6_pair_16 : decode cX6_pair 16 = .ok (.tableswitch 85 0 3 #[32, 47, 62, 78], 32) := by decide +kernel
theorem dX6_pair_48 : decode cX6_pair 48 = .ok (.aload_n 0, 1) := by decide +kernel
theorem dX6_pair_49 : decode cX6_pair 49 = .ok (.getfield 7, 3) := by decide +kernel
theorem dX6_pair_52 : decode cX6_pair 52 = .ok (.bipush 97, 2) := by decide +kernel
theorem dX6_pair_54 : decode cX6_pair 54 = .ok (.bipush 8, 2) := by decide +kernel
theorem dX6_pair_56 : decode cX6_pair 56 = .ok (.iload_n 1, 1) := by decide +kernel
theorem dX6_pair_57 : decode cX6_pair 57 = .ok (.imul, 1) := by decide +kernel
theorem dX6_pair_58 : decode cX6_pair 58 = .ok (.iadd, 1) := by decide +kernel
theorem dX6_pair_59 : decode cX6_pair 59 = .ok (.iload_n 2, 1) := by decide +kernel
theorem dX6_pair_60 : decode cX6_pair 60 = .ok (.iadd, 1) := by decide +kernel
theorem dX6_pair_61 : decode cX6_pair 61 = .ok (.iaload, 1) := by decide +kernel
theorem dX6_pair_62 : decode cX6_pair 62 = .ok (.ireturn, 1) := by decide +kernel
theorem dX6_pair_63 : decode cX6_pair 63 = .ok (.aload_n 0, 1) := by decide +kernel
theorem dX6_pair_64 : decode cX6_pair 64 = .ok (.getfield 7, 3) := by decide +kernel
theorem dX6_pair_67 : decode cX6_pair 67 = .ok (.bipush 33, 2) := by decide +kernel
theorem dX6_pair_69 : decode cX6_pair 69 = .ok (.bipush 8, 2) := by decide +kernel
theorem dX6_pair_71 : decode cX6_pair 71 = .ok (.iload_n 1, 1) := by decide +kernel
theorem dX6_pair_72 : decode cX6_pair 72 = .ok (.imul, 1) := by decide +kernel
theorem dX6_pair_73 : decode cX6_pair 73 = .ok (.iadd, 1) := by decide +kernel
theorem dX6_pair_74 : decode cX6_pair 74 = .ok (.iload_n 2, 1) := by decide +kernel
theorem dX6_pair_75 : decode cX6_pair 75 = .ok (.iadd, 1) := by decide +kernel
theorem dX6_pair_76 : decode cX6_pair 76 = .ok (.iaload, 1) := by decide +kernel
theorem dX6_pair_77 : decode cX6_pair 77 = .ok (.ireturn, 1) := by decide +kernel
theorem dX6_pair_78 : decode cX6_pair 78 = .ok (.aload_n 0, 1) := by decide +kernel
theorem dX6_pair_79 : decode cX6_pair 79 = .ok (.getfield 7, 3) := by decide +kernel
theorem dX6_pair_82 : decode cX6_pair 82 = .ok (.sipush 161, 3) := by decide +kernel
theorem dX6_pair_85 : decode cX6_pair 85 = .ok (.bipush 8, 2) := by decide +kernel
theorem dX6_pair_87 : decode cX6_pair 87 = .ok (.iload_n 1, 1) := by decide +kernel
theorem dX6_pair_88 : decode cX6_pair 88 = .ok (.imul, 1) := by decide +kernel
theorem dX6_pair_89 : decode cX6_pair 89 = .ok (.iadd, 1) := by decide +kernel
theorem dX6_pair_90 : decode cX6_pair 90 = .ok (.iload_n 2, 1) := by decide +kernel
theorem dX6_pair_91 : decode cX6_pair 91 = .ok (.iadd, 1) := by decide +kernel
theorem dX6_pair_92 : decode cX6_pair 92 = .ok (.iaload, 1) := by decide +kernel
theorem dX6_pair_93 : decode cX6_pair 93 = .ok (.ireturn, 1) := by decide +kernel
theorem dX6_pair_94 : decode cX6_pair 94 = .ok (.aload_n 0, 1) := by decide +kernel
theorem dX6_pair_95 : decode cX6_pair 95 = .ok (.iload_n 1, 1) := by decide +kernel
theorem dX6_pair_96 : decode cX6_pair 96 = .ok (.iload_n 2, 1) := by decide +kernel
theorem dX6_pair_97 : decode cX6_pair 97 = .ok (.invokevirtual 142, 3) := by decide +kernel
theorem dX6_pair_100 : decode cX6_pair 100 = .ok (.ireturn, 1) := by decide +kernel
theorem dX6_pair_101 : decode cX6_pair 101 = .ok (.bipush (-2), 2) := by decide +kernel
theorem dX6_pair_103 : decode cX6_pair 103 = .ok (.ireturn, 1) := by decide +kernel
set_option maxRecDepth 20000 in
theorem ggX6_isLinked_X6_isGate : GoodIn wsX6_isLinked wsX6_isGate := goodIn_r _ [6, 7, 8, 5, 9] (by decide +kernel) (by decide +kernel)
set_option maxRecDepth 20000 in
theorem gX6_isLinked_X6_isGate : GoodIn wsX6_isLinked (va_wsS RX6 98 yX6_isGate wsX6_isGate) := goodIn_app (goodIn_of _ (by decide +kernel)) ggX6_isLinked_X6_isGate
theorem dX6_isLinked_0 : decode cX6_isLinked 0 = .ok (.aload_n 0, 1) := by decide +kernel
theorem dX6_isLinked_1 : decode cX6_isLinked 1 = .ok (.iconst 0, 1) := by decide +kernel
theorem dX6_isLinked_2 : decode cX6_isLinked 2 = .ok (.putfield 43, 3) := by decide +kernel
theorem dX6_isLinked_5 : decode cX6_isLinked 5 = .ok (.iload_n 1, 1) := by decide +kernel
theorem dX6_isLinked_6 : decode cX6_isLinked 6 = .ok (.invokestatic 98, 3) := by decide +kernel
theorem dX6_isLinked_9 : decode cX6_isLinked 9 = .ok (.ifCond .eq 26, 3) := by decide +kernel
theorem dX6_isLinked_12 : decode cX6_isLinked 12 = .ok (.iload_n 2, 1) := by decide +kernel
theorem dX6_isLinked_13 : decode cX6_isLinked 13 = .ok (.invokestatic 98, 3) := by decide +kernel
theorem dX6_isLinked_16 : decode cX6_isLinked 16 = .ok (.ifCond .eq 19, 3) := by decide +kernel
theorem dX6_isLinked_19 : decode cX6_isLinked 19 = .ok (.aload_n 0, 1) := by decide +kernel
theorem dX6_isLinked_20 : decode cX6_isLinked 20 = .ok (.getfield 7, 3) := by decide +kernel
theorem dX6_isLinked_23 : decode cX6_isLinked 23 = .ok (.bipush 17, 2) := by decide +kernel
theorem dX6_isLinked_25 : decode cX6_isLinked 25 = .ok (.iconst 4, 1) := by decide +kernel
theorem dX6_isLinked_26 : decode cX6_isLinked 26 = .ok (.iload_n 1, 1) := by decide +kernel
theorem dX6_isLinked_27 : decode cX6_isLinked 27 = .ok (.imul, 1) := by decide +kernel
theorem dX6_isLinked_28 : decode cX6_isLinked 28 = .ok (.iadd, 1) := by decide +kernel
theorem dX6_isLinked_29 : decode cX6_isLinked 29 = .ok (.iload_n 2, 1) := by decide +kernel
theorem dX6_isLinked_30 : decode cX6_isLinked 30 = .ok (.iadd, 1) := by decide +kernel
theorem dX6_isLinked_31 : decode cX6_isLinked 31 = .ok (.iaload, 1) := by decide +kernel
theorem dX6_isLinked_32 : decode cX6_isLinked 32 = .ok (.goto 4, 3) := by decide +kernel
theorem dX6_isLinked_35 : decode cX6_isLinked 35 = .ok (.iconst (-1), 1) := by decide +kernel
theorem dX6_isLinked_36 : decode cX6_isLinked 36 = .ok (.ireturn, 1) := by decide +kernel
set_option maxRecDepth 20000 in
theorem ggX6_partner_X6_isPerson : GoodIn wsX6_partner wsX6_isPerson := goodIn_r _ [6, 7, 8, 5, 9] (by decide +kernel) (by decide +kernel)
set_option maxRecDepth 20000 in
theorem gX6_partner_X6_isPerson : GoodIn wsX6_partner (va_wsS RX6 51 yX6_isPerson wsX6_isPerson) := goodIn_app (goodIn_of _ (by decide +kernel)) ggX6_partner_X6_isPerson
set_option maxRecDepth 20000 in
theorem ggX6_partner_X6_matches : GoodIn wsX6_partner wsX6_matches := goodIn_r _ [13, 2, 14, 15, 16, 5, 17, 18, 19, 20, 21, 22, 23, 24, 25, 26, 27, 28, 29, 30, 31, 32, 33, 34, 35, 36, 37, 38, 39, 40, 41, 42, 43, 44, 45, 46, 47, 48, 49, 50, 51, 52, 53, 54, 55, 56, 57, 58, 59, 60, 61, 62, 63, 64, 65, 66, 67, 68, 69, 70] (by decide +kernel) (by decide +kernel)
set_option maxRecDepth 20000 in
theorem gX6_partner_X6_matches : GoodIn wsX6_partner (wsV RX6 101 RX6 yX6_matches wsX6_matches) := goodIn_app (goodIn_of _ (by decide +kernel)) ggX6_partner_X6_matches
theorem dX6_partner_0 : decode cX6_partner 0 = .ok (.aload_n 0, 1) := by decide +kernel
theorem dX6_partner_1 : decode cX6_partner 1 = .ok (.iconst 0, 1) := by decide +kernel
theorem dX6_partner_2 : decode cX6_partner 2 = .ok (.putfield 43, 3) := by decide +kernel
theorem dX6_partner_5 : decode cX6_partner 5 = .ok (.iload_n 2, 1) := by decide +kernel
theorem dX6_partner_6 : decode cX6_partner 6 = .ok (.invokestatic 51, 3) := by decide +kernel
theorem dX6_partner_9 : decode cX6_partner 9 = .ok (.ifCond .ne 5, 3) := by decide +kernel
theorem dX6_partner_12 : decode cX6_partner 12 = .ok (.iconst (-1), 1) := by decide +kernel
theorem dX6_partner_13 : decode cX6_partner 13 = .ok (.ireturn, 1) := by decide +kernel
theorem dX6_partner_14 : decode cX6_partner 14 = .ok (.aload_n 0, 1) := by decide +kernel
theorem dX6_partner_15 : decode cX6_partner 15 = .ok (.invokevirtual 101, 3) := by decide +kernel
theorem dX6_partner_18 : decode cX6_partner 18 = .ok (.pop, 1) := by decide +kernel
theorem dX6_partner_19 : decode cX6_partner 19 = .ok (.bipush (-5), 2) := by decide +kernel
theorem dX6_partner_21 : decode cX6_partner 21 = .ok (.istore_n 3, 1) := by decide +kernel
theorem dX6_partner_22 : decode cX6_partner 22 = .ok (.iconst 0, 1) := by decide +kernel
theorem dX6_partner_23 : decode cX6_partner 23 = .ok (.istore 4, 2) := by decide +kernel
theorem dX6_partner_25 : decode cX6_partner 25 = .ok (.iload 4, 2) := by decide +kernel
theorem dX6_partner_27 : decode cX6_partner 27 = .ok (.bipush 8, 2) := by decide +kernel
theorem dX6_partner_29 : decode cX6_partner 29 = .ok (.if_icmp .ge 31, 3) := by decide +kernel
theorem dX6_partner_32 : decode cX6_partner 32 = .ok (.iload_n 1, 1) := by decide +kernel
theorem dX6_partner_33 : decode cX6_partner 33 = .ok (.ifCond .ne 19, 3) := by decide +kernel
theorem dX6_partner_36 : decode cX6_partner 36 = .ok (.aload_n 0, 1) := by decide +kernel
theorem dX6_partner_37 : decode cX6_partner 37 = .ok (.getfield 31, 3) := by decide +kernel
theorem dX6_partner_40 : decode cX6_partner 40 = .ok (.iload 4, 2) := by decide +kernel
theorem dX6_partner_42 : decode cX6_partner 42 = .ok (.iaload, 1) := by decide +kernel
theorem dX6_partner_43 : decode cX6_partner 43 = .ok (.iload_n 2, 1) := by decide +kernel
theorem dX6_partner_44 : decode cX6_partner 44 = .ok (.if_icmp .ne 8, 3) := by decide +kernel
theorem dX6_partner_47 : decode cX6_partner 47 = .ok (.iload 4, 2) := by decide +kernel
theorem dX6_partner_49 : decode cX6_partner 49 = .ok (.goto 4, 3) := by decide +kernel
theorem dX6_partner_52 : decode cX6_partner 52 = .ok (.iload_n 3, 1) := by decide +kernel
theorem dX6_partner_53 : decode cX6_partner 53 = .ok (.istore_n 3, 1) := by decide +kernel
theorem dX6_partner_54 : decode cX6_partner 54 = .ok (.iinc 4 1, 3) := by decide +kernel
theorem dX6_partner_57 : decode cX6_partner 57 = .ok (.goto (-32), 3) := by decide +kernel
theorem dX6_partner_60 : decode cX6_partner 60 = .ok (.iload_n 1, 1) := by decide +kernel
theorem dX6_partner_61 : decode cX6_partner 61 = .ok (.ifCond .eq 12, 3) := by decide +kernel
theorem dX6_partner_64 : decode cX6_partner 64 = .ok (.aload_n 0, 1) := by decide +kernel
theorem dX6_partner_65 : decode cX6_partner 65 = .ok (.getfield 31, 3) := by decide +kernel
theorem dX6_partner_68 : decode cX6_partner 68 = .ok (.iload_n 2, 1) := by decide +kernel
theorem dX6_partner_69 : decode cX6_partner 69 = .ok (.iaload, 1) := by decide +kernel
theorem dX6_partner_70 : decode cX6_partner 70 = .ok (.goto 4, 3) := by decide +kernel
theorem dX6_partner_73 : decode cX6_partner 73 = .ok (.iload_n 3, 1) := by decide +kernel
theorem dX6_partner_74 : decode cX6_partner 74 = .ok (.ireturn, 1) := by decide +kernel
set_option maxRecDepth 20000 in
theorem ggX6_hindered_X6_matches : GoodIn wsX6_hindered wsX6_matches := goodIn_r _ [7, 8, 9, 10, 11, 6, 12, 2, 13, 14, 15, 16, 17, 18, 19, 20, 21, 22, 23, 24, 25, 26, 27, 28, 29, 30, 31, 32, 33, 34, 35, 36, 37, 38, 39, 40, 41, 42, 43, 44, 45, 46, 47, 48, 49, 50, 51, 52, 53, 54, 55, 56, 57, 58, 59, 60, 61, 62, 63, 64] (by decide +kernel) (by decide +kernel)
set_option maxRecDepth 20000 in
theorem gX6_hindered_X6_matches : GoodIn wsX6_hindered (wsV RX6 101 RX6 yX6_matches wsX6_matches) := goodIn_app (goodIn_of _ (by decide +kernel)) ggX6_hindered_X6_matches
set_option maxRecDepth 20000 in
theorem ggX6_hindered_X6_findsCan : GoodIn wsX6_hindered wsX6_findsCan := goodIn_r _ [12, 2, 13, 14, 15, 6, 16, 17, 18, 19, 20, 21, 22, 23, 24, 25, 26, 27, 28, 29, 47, 48, 49, 50, 51, 52, 53, 54, 55, 56, 57, 58, 59, 60, 61, 62, 63, 64] (by decide +kernel) (by decide +kernel)
set_option maxRecDepth 20000 in
theorem gX6_hindered_X6_findsCan : GoodIn wsX6_hindered (wsV RX6 78 RX6 yX6_findsCan wsX6_findsCan) := goodIn_app (goodIn_of _ (by decide +kernel)) ggX6_hindered_X6_findsCan
set_option maxRecDepth 20000 in
theorem ggX6_hindered_X6_fills : GoodIn wsX6_hindered wsX6_fills := goodIn_r _ [33, 34, 35, 36, 37, 6, 38, 2, 39, 40, 41, 42, 47, 48, 49, 50, 51, 52, 53, 54, 55, 56, 57, 58, 59, 60, 61, 62, 63, 64] (by decide +kernel) (by decide +kernel)
set_option maxRecDepth 20000 in
theorem gX6_hindered_X6_fills : GoodIn wsX6_hindered (wsV RX6 82 RX6 yX6_fills wsX6_fills) := goodIn_app (goodIn_of _ (by decide +kernel)) ggX6_hindered_X6_fills
theorem dX6_hindered_0 : decode cX6_hindered 0 = .ok (.aload_n 0, 1) := by decide +kernel
theorem dX6_hindered_1 : decode cX6_hindered 1 = .ok (.iconst 0, 1) := by decide +kernel
theorem dX6_hindered_2 : decode cX6_hindered 2 = .ok (.putfield 43, 3) := by decide +kernel
theorem dX6_hindered_5 : decode cX6_hindered 5 = .ok (.aload_n 0, 1) := by decide +kernel
theorem dX6_hindered_6 : decode cX6_hindered 6 = .ok (.invokevirtual 101, 3) := by decide +kernel
theorem dX6_hindered_9 : decode cX6_hindered 9 = .ok (.istore_n 1, 1) := by decide +kernel
theorem dX6_hindered_10 : decode cX6_hindered 10 = .ok (.iconst 0, 1) := by decide +kernel
theorem dX6_hindered_11 : decode cX6_hindered 11 = .ok (.istore_n 2, 1) := by decide +kernel
theorem dX6_hindered_12 : decode cX6_hindered 12 = .ok (.iconst 0, 1) := by decide +kernel
theorem dX6_hindered_13 : decode cX6_hindered 13 = .ok (.istore_n 3, 1) := by decide +kernel
theorem dX6_hindered_14 : decode cX6_hindered 14 = .ok (.iconst 0, 1) := by decide +kernel
theorem dX6_hindered_15 : decode cX6_hindered 15 = .ok (.istore 4, 2) := by decide +kernel
theorem dX6_hindered_17 : decode cX6_hindered 17 = .ok (.iload 4, 2) := by decide +kernel
theorem dX6_hindered_19 : decode cX6_hindered 19 = .ok (.bipush 8, 2) := by decide +kernel
theorem dX6_hindered_21 : decode cX6_hindered 21 = .ok (.if_icmp .ge 30, 3) := by decide +kernel
theorem dX6_hindered_24 : decode cX6_hindered 24 = .ok (.iload_n 3, 1) := by decide +kernel
theorem dX6_hindered_25 : decode cX6_hindered 25 = .ok (.aload_n 0, 1) := by decide +kernel
theorem dX6_hindered_26 : decode cX6_hindered 26 = .ok (.getfield 25, 3) := by decide +kernel
theorem dX6_hindered_29 : decode cX6_hindered 29 = .ok (.iload 4, 2) := by decide +kernel
theorem dX6_hindered_31 : decode cX6_hindered 31 = .ok (.iaload, 1) := by decide +kernel
theorem dX6_hindered_32 : decode cX6_hindered 32 = .ok (.ifCond .eq 10, 3) := by decide +kernel
theorem dX6_hindered_35 : decode cX6_hindered 35 = .ok (.iconst 1, 1) := by decide +kernel
theorem dX6_hindered_36 : decode cX6_hindered 36 = .ok (.iload 4, 2) := by decide +kernel
theorem dX6_hindered_38 : decode cX6_hindered 38 = .ok (.ishl, 1) := by decide +kernel
theorem dX6_hindered_39 : decode cX6_hindered 39 = .ok (.goto 4, 3) := by decide +kernel
theorem dX6_hindered_42 : decode cX6_hindered 42 = .ok (.iconst 0, 1) := by decide +kernel
theorem dX6_hindered_43 : decode cX6_hindered 43 = .ok (.ior, 1) := by decide +kernel
theorem dX6_hindered_44 : decode cX6_hindered 44 = .ok (.istore_n 3, 1) := by decide +kernel
theorem dX6_hindered_45 : decode cX6_hindered 45 = .ok (.iinc 4 1, 3) := by decide +kernel
theorem dX6_hindered_48 : decode cX6_hindered 48 = .ok (.goto (-31), 3) := by decide +kernel
theorem dX6_hindered_51 : decode cX6_hindered 51 = .ok (.iconst 0, 1) := by decide +kernel
theorem dX6_hindered_52 : decode cX6_hindered 52 = .ok (.istore 4, 2) := by decide +kernel
theorem dX6_hindered_54 : decode cX6_hindered 54 = .ok (.iload 4, 2) := by decide +kernel
theorem dX6_hindered_56 : decode cX6_hindered 56 = .ok (.bipush 8, 2) := by decide +kernel
theorem dX6_hindered_58 : decode cX6_hindered 58 = .ok (.if_icmp .ge 34, 3) := by decide +kernel
theorem dX6_hindered_61 : decode cX6_hindered 61 = .ok (.aload_n 0, 1) := by decide +kernel
theorem dX6_hindered_62 : decode cX6_hindered 62 = .ok (.iload 4, 2) := by decide +kernel
theorem dX6_hindered_64 : decode cX6_hindered 64 = .ok (.invokevirtual 78, 3) := by decide +kernel
theorem dX6_hindered_67 : decode cX6_hindered 67 = .ok (.iload_n 2, 1) := by decide +kernel
theorem dX6_hindered_68 : decode cX6_hindered 68 = .ok (.aload_n 0, 1) := by decide +kernel
theorem dX6_hindered_69 : decode cX6_hindered 69 = .ok (.invokevirtual 82, 3) := by decide +kernel
theorem dX6_hindered_72 : decode cX6_hindered 72 = .ok (.iload_n 1, 1) := by decide +kernel
theorem dX6_hindered_73 : decode cX6_hindered 73 = .ok (.if_icmp .ne 10, 3) := by decide +kernel
theorem dX6_hindered_76 : decode cX6_hindered 76 = .ok (.iconst 1, 1) := by decide +kernel
theorem dX6_hindered_77 : decode cX6_hindered 77 = .ok (.iload 4, 2) := by decide +kernel
theorem dX6_hindered_79 : decode cX6_hindered 79 = .ok (.ishl, 1) := by decide +kernel
theorem dX6_hindered_80 : decode cX6_hindered 80 = .ok (.goto 4, 3) := by decide +kernel
theorem dX6_hindered_83 : decode cX6_hindered 83 = .ok (.iconst 0, 1) := by decide +kernel
theorem dX6_hindered_84 : decode cX6_hindered 84 = .ok (.ior, 1) := by decide +kernel
theorem dX6_hindered_85 : decode cX6_hindered 85 = .ok (.istore_n 2, 1) := by decide +kernel
theorem dX6_hindered_86 : decode cX6_hindered 86 = .ok (.iinc 4 1, 3) := by decide +kernel
theorem dX6_hindered_89 : decode cX6_hindered 89 = .ok (.goto (-35), 3) := by decide +kernel
theorem dX6_hindered_92 : decode cX6_hindered 92 = .ok (.iload_n 2, 1) := by decide +kernel
theorem dX6_hindered_93 : decode cX6_hindered 93 = .ok (.iload_n 3, 1) := by decide +kernel
theorem dX6_hindered_94 : decode cX6_hindered 94 = .ok (.iand, 1) := by decide +kernel
theorem dX6_hindered_95 : decode cX6_hindered 95 = .ok (.ireturn, 1) := by decide +kernel
theorem dX6_wishWith_0 : decode cX6_wishWith 0 = .ok (.iconst 0, 1) := by decide +kernel
theorem dX6_wishWith_1 : decode cX6_wishWith 1 = .ok (.istore 4, 2) := by decide +kernel
theorem dX6_wishWith_3 : decode cX6_wishWith 3 = .ok (.iload 4, 2) := by decide +kernel
theorem dX6_wishWith_5 : decode cX6_wishWith 5 = .ok (.bipush 8, 2) := by decide +kernel
theorem dX6_wishWith_7 : decode cX6_wishWith 7 = .ok (.if_icmp .ge 46, 3) := by decide +kernel
theorem dX6_wishWith_10 : decode cX6_wishWith 10 = .ok (.iload_n 1, 1) := by decide +kernel
theorem dX6_wishWith_11 : decode cX6_wishWith 11 = .ok (.ifCond .eq 13, 3) := by decide +kernel
theorem dX6_wishWith_14 : decode cX6_wishWith 14 = .ok (.bipush 8, 2) := by decide +kernel
theorem dX6_wishWith_16 : decode cX6_wishWith 16 = .ok (.iload_n 2, 1) := by decide +kernel
theorem dX6_wishWith_17 : decode cX6_wishWith 17 = .ok (.imul, 1) := by decide +kernel
theorem dX6_wishWith_18 : decode cX6_wishWith 18 = .ok (.iload 4, 2) := by decide +kernel
theorem dX6_wishWith_20 : decode cX6_wishWith 20 = .ok (.iadd, 1) := by decide +kernel
theorem dX6_wishWith_21 : decode cX6_wishWith 21 = .ok (.goto 10, 3) := by decide +kernel
theorem dX6_wishWith_24 : decode cX6_wishWith 24 = .ok (.bipush 8, 2) := by decide +kernel
theorem dX6_wishWith_26 : decode cX6_wishWith 26 = .ok (.iload 4, 2) := by decide +kernel
theorem dX6_wishWith_28 : decode cX6_wishWith 28 = .ok (.imul, 1) := by decide +kernel
theorem dX6_wishWith_29 : decode cX6_wishWith 29 = .ok (.iload_n 2, 1) := by decide +kernel
theorem dX6_wishWith_30 : decode cX6_wishWith 30 = .ok (.iadd, 1) := by decide +kernel
theorem dX6_wishWith_31 : decode cX6_wishWith 31 = .ok (.istore 5, 2) := by decide +kernel
theorem dX6_wishWith_33 : decode cX6_wishWith 33 = .ok (.aload_n 0, 1) := by decide +kernel
theorem dX6_wishWith_34 : decode cX6_wishWith 34 = .ok (.getfield 34, 3) := by decide +kernel
theorem dX6_wishWith_37 : decode cX6_wishWith 37 = .ok (.iload 5, 2) := by decide +kernel
theorem dX6_wishWith_39 : decode cX6_wishWith 39 = .ok (.iaload, 1) := by decide +kernel
theorem dX6_wishWith_40 : decode cX6_wishWith 40 = .ok (.iload_n 3, 1) := by decide +kernel
theorem dX6_wishWith_41 : decode cX6_wishWith 41 = .ok (.if_icmp .ne 6, 3) := by decide +kernel
theorem dX6_wishWith_44 : decode cX6_wishWith 44 = .ok (.iload 5, 2) := by decide +kernel
theorem dX6_wishWith_46 : decode cX6_wishWith 46 = .ok (.ireturn, 1) := by decide +kernel
theorem dX6_wishWith_47 : decode cX6_wishWith 47 = .ok (.iinc 4 1, 3) := by decide +kernel
theorem dX6_wishWith_50 : decode cX6_wishWith 50 = .ok (.goto (-47), 3) := by decide +kernel
theorem dX6_wishWith_53 : decode cX6_wishWith 53 = .ok (.bipush (-5), 2) := by decide +kernel
theorem dX6_wishWith_55 : decode cX6_wishWith 55 = .ok (.ireturn, 1) := by decide +kernel
set_option maxRecDepth 20000 in
theorem ggX6_leastFree_X6_wishWith : GoodIn wsX6_leastFree wsX6_wishWith := goodIn_r _ [5, 6, 7, 8, 9, 10, 11, 12, 13, 14, 15, 16, 17, 18, 19, 20, 21, 22, 23, 24] (by decide +kernel) (by decide +kernel)
set_option maxRecDepth 20000 in
theorem gX6_leastFree_X6_wishWith : GoodIn wsX6_leastFree (wsV RX6 145 RX6 yX6_wishWith wsX6_wishWith) := goodIn_app (goodIn_of _ (by decide +kernel)) ggX6_leastFree_X6_wishWith
theorem dX6_leastFree_0 : decode cX6_leastFree 0 = .ok (.iconst 0, 1) := by decide +kernel
theorem dX6_leastFree_1 : decode cX6_leastFree 1 = .ok (.istore_n 3, 1) := by decide +kernel
theorem dX6_leastFree_2 : decode cX6_leastFree 2 = .ok (.aload_n 0, 1) := by decide +kernel
theorem dX6_leastFree_3 : decode cX6_leastFree 3 = .ok (.iload_n 1, 1) := by decide +kernel
theorem dX6_leastFree_4 : decode cX6_leastFree 4 = .ok (.iload_n 2, 1) := by decide +kernel
theorem dX6_leastFree_5 : decode cX6_leastFree 5 = .ok (.iload_n 3, 1) := by decide +kernel
theorem dX6_leastFree_6 : decode cX6_leastFree 6 = .ok (.invokevirtual 145, 3) := by decide +kernel
theorem dX6_leastFree_9 : decode cX6_leastFree 9 = .ok (.bipush (-5), 2) := by decide +kernel
theorem dX6_leastFree_11 : decode cX6_leastFree 11 = .ok (.if_icmp .eq 9, 3) := by decide +kernel
theorem dX6_leastFree_14 : decode cX6_leastFree 14 = .ok (.iinc 3 1, 3) := by decide +kernel
theorem dX6_leastFree_17 : decode cX6_leastFree 17 = .ok (.goto (-15), 3) := by decide +kernel
theorem dX6_leastFree_20 : decode cX6_leastFree 20 = .ok (.iload_n 3, 1) := by decide +kernel
theorem dX6_leastFree_21 : decode cX6_leastFree 21 = .ok (.ireturn, 1) := by decide +kernel
set_option maxRecDepth 20000 in
theorem ggX6_changes_X6_wishWith : GoodIn wsX6_changes wsX6_wishWith := goodIn_r _ [7, 2, 8, 9, 10, 11, 12, 13, 14, 15, 16, 17, 18, 19, 20, 21, 22, 23, 24, 25] (by decide +kernel) (by decide +kernel)
set_option maxRecDepth 20000 in
theorem gX6_changes_X6_wishWith : GoodIn wsX6_changes (wsV RX6 145 RX6 yX6_wishWith wsX6_wishWith) := goodIn_app (goodIn_of _ (by decide +kernel)) ggX6_changes_X6_wishWith
theorem dX6_changes_0 : decode cX6_changes 0 = .ok (.iconst 0, 1) := by decide +kernel
theorem dX6_changes_1 : decode cX6_changes 1 = .ok (.istore 4, 2) := by decide +kernel
theorem dX6_changes_3 : decode cX6_changes 3 = .ok (.iconst 0, 1) := by decide +kernel
theorem dX6_changes_4 : decode cX6_changes 4 = .ok (.istore 5, 2) := by decide +kernel
theorem dX6_changes_6 : decode cX6_changes 6 = .ok (.iload_n 1, 1) := by decide +kernel
theorem dX6_changes_7 : decode cX6_changes 7 = .ok (.istore 6, 2) := by decide +kernel
theorem dX6_changes_9 : decode cX6_changes 9 = .ok (.iload_n 2, 1) := by decide +kernel
theorem dX6_changes_10 : decode cX6_changes 10 = .ok (.istore 7, 2) := by decide +kernel
theorem dX6_changes_12 : decode cX6_changes 12 = .ok (.aload_n 0, 1) := by decide +kernel
theorem dX6_changes_13 : decode cX6_changes 13 = .ok (.iload 5, 2) := by decide +kernel
theorem dX6_changes_15 : decode cX6_changes 15 = .ok (.iload 6, 2) := by decide +kernel
theorem dX6_changes_17 : decode cX6_changes 17 = .ok (.iload 7, 2) := by decide +kernel
theorem dX6_changes_19 : decode cX6_changes 19 = .ok (.invokevirtual 145, 3) := by decide +kernel
theorem dX6_changes_22 : decode cX6_changes 22 = .ok (.istore 8, 2) := by decide +kernel
theorem dX6_changes_24 : decode cX6_changes 24 = .ok (.iload 8, 2) := by decide +kernel
theorem dX6_changes_26 : decode cX6_changes 26 = .ok (.bipush (-5), 2) := by decide +kernel
theorem dX6_changes_28 : decode cX6_changes 28 = .ok (.if_icmp .eq 75, 3) := by decide +kernel
theorem dX6_changes_31 : decode cX6_changes 31 = .ok (.aload_n 0, 1) := by decide +kernel
theorem dX6_changes_32 : decode cX6_changes 32 = .ok (.getfield 37, 3) := by decide +kernel
theorem dX6_changes_35 : decode cX6_changes 35 = .ok (.iload 4, 2) := by decide +kernel
theorem dX6_changes_37 : decode cX6_changes 37 = .ok (.iload 8, 2) := by decide +kernel
theorem dX6_changes_39 : decode cX6_changes 39 = .ok (.iastore, 1) := by decide +kernel
theorem dX6_changes_40 : decode cX6_changes 40 = .ok (.iinc 4 1, 3) := by decide +kernel
theorem dX6_changes_43 : decode cX6_changes 43 = .ok (.iload 5, 2) := by decide +kernel
theorem dX6_changes_45 : decode cX6_changes 45 = .ok (.ifCond .eq 11, 3) := by decide +kernel
theorem dX6_changes_48 : decode cX6_changes 48 = .ok (.iload 8, 2) := by decide +kernel
theorem dX6_changes_50 : decode cX6_changes 50 = .ok (.bipush 8, 2) := by decide +kernel
theorem dX6_changes_52 : decode cX6_changes 52 = .ok (.irem, 1) := by decide +kernel
theorem dX6_changes_53 : decode cX6_changes 53 = .ok (.goto 8, 3) := by decide +kernel
theorem dX6_changes_56 : decode cX6_changes 56 = .ok (.iload 8, 2) := by decide +kernel
theorem dX6_changes_58 : decode cX6_changes 58 = .ok (.bipush 8, 2) := by decide +kernel
theorem dX6_changes_60 : decode cX6_changes 60 = .ok (.idiv, 1) := by decide +kernel
theorem dX6_changes_61 : decode cX6_changes 61 = .ok (.istore 6, 2) := by decide +kernel
theorem dX6_changes_63 : decode cX6_changes 63 = .ok (.iload 5, 2) := by decide +kernel
theorem dX6_changes_65 : decode cX6_changes 65 = .ok (.ifCond .ne 7, 3) := by decide +kernel
theorem dX6_changes_68 : decode cX6_changes 68 = .ok (.iconst 1, 1) := by decide +kernel
theorem dX6_changes_69 : decode cX6_changes 69 = .ok (.goto 4, 3) := by decide +kernel
theorem dX6_changes_72 : decode cX6_changes 72 = .ok (.iconst 0, 1) := by decide +kernel
theorem dX6_changes_73 : decode cX6_changes 73 = .ok (.istore 5, 2) := by decide +kernel
theorem dX6_changes_75 : decode cX6_changes 75 = .ok (.iload 7, 2) := by decide +kernel
theorem dX6_changes_77 : decode cX6_changes 77 = .ok (.iload_n 2, 1) := by decide +kernel
theorem dX6_changes_78 : decode cX6_changes 78 = .ok (.if_icmp .ne 7, 3) := by decide +kernel
theorem dX6_changes_81 : decode cX6_changes 81 = .ok (.iload_n 3, 1) := by decide +kernel
theorem dX6_changes_82 : decode cX6_changes 82 = .ok (.goto 4, 3) := by decide +kernel
theorem dX6_changes_85 : decode cX6_changes 85 = .ok (.iload_n 2, 1) := by decide +kernel
theorem dX6_changes_86 : decode cX6_changes 86 = .ok (.istore 7, 2) := by decide +kernel
theorem dX6_changes_88 : decode cX6_changes 88 = .ok (.aload_n 0, 1) := by decide +kernel
theorem dX6_changes_89 : decode cX6_changes 89 = .ok (.iload 5, 2) := by decide +kernel
theorem dX6_changes_91 : decode cX6_changes 91 = .ok (.iload 6, 2) := by decide +kernel
theorem dX6_changes_93 : decode cX6_changes 93 = .ok (.iload 7, 2) := by decide +kernel
theorem dX6_changes_95 : decode cX6_changes 95 = .ok (.invokevirtual 145, 3) := by decide +kernel
theorem dX6_changes_98 : decode cX6_changes 98 = .ok (.istore 8, 2) := by decide +kernel
theorem dX6_changes_100 : decode cX6_changes 100 = .ok (.goto (-76), 3) := by decide +kernel
theorem dX6_changes_103 : decode cX6_changes 103 = .ok (.iconst 0, 1) := by decide +kernel
theorem dX6_changes_104 : decode cX6_changes 104 = .ok (.istore 9, 2) := by decide +kernel
theorem dX6_changes_106 : decode cX6_changes 106 = .ok (.iload 9, 2) := by decide +kernel
theorem dX6_changes_108 : decode cX6_changes 108 = .ok (.iload 4, 2) := by decide +kernel
theorem dX6_changes_110 : decode cX6_changes 110 = .ok (.if_icmp .ge 42, 3) := by decide +kernel
theorem dX6_changes_113 : decode cX6_changes 113 = .ok (.aload_n 0, 1) := by decide +kernel
theorem dX6_changes_114 : decode cX6_changes 114 = .ok (.getfield 34, 3) := by decide +kernel
theorem dX6_changes_117 : decode cX6_changes 117 = .ok (.aload_n 0, 1) := by decide +kernel
theorem dX6_changes_118 : decode cX6_changes 118 = .ok (.getfield 37, 3) := by decide +kernel
theorem dX6_changes_121 : decode cX6_changes 121 = .ok (.iload 9, 2) := by decide +kernel
theorem dX6_changes_123 : decode cX6_changes 123 = .ok (.iaload, 1) := by decide +kernel
theorem dX6_changes_124 : decode cX6_changes 124 = .ok (.aload_n 0, 1) := by decide +kernel
theorem dX6_changes_125 : decode cX6_changes 125 = .ok (.getfield 34, 3) := by decide +kernel
theorem dX6_changes_128 : decode cX6_changes 128 = .ok (.aload_n 0, 1) := by decide +kernel
theorem dX6_changes_129 : decode cX6_changes 129 = .ok (.getfield 37, 3) := by decide +kernel
theorem dX6_changes_132 : decode cX6_changes 132 = .ok (.iload 9, 2) := by decide +kernel
theorem dX6_changes_134 : decode cX6_changes 134 = .ok (.iaload, 1) := by decide +kernel
theorem dX6_changes_135 : decode cX6_changes 135 = .ok (.iaload, 1) := by decide +kernel
theorem dX6_changes_136 : decode cX6_changes 136 = .ok (.iload_n 2, 1) := by decide +kernel
theorem dX6_changes_137 : decode cX6_changes 137 = .ok (.if_icmp .ne 7, 3) := by decide +kernel
theorem dX6_changes_140 : decode cX6_changes 140 = .ok (.iload_n 3, 1) := by decide +kernel
theorem dX6_changes_141 : decode cX6_changes 141 = .ok (.goto 4, 3) := by decide +kernel
theorem dX6_changes_144 : decode cX6_changes 144 = .ok (.iload_n 2, 1) := by decide +kernel
theorem dX6_changes_145 : decode cX6_changes 145 = .ok (.iastore, 1) := by decide +kernel
theorem dX6_changes_146 : decode cX6_changes 146 = .ok (.iinc 9 1, 3) := by decide +kernel
theorem dX6_changes_149 : decode cX6_changes 149 = .ok (.goto (-43), 3) := by decide +kernel
theorem dX6_changes_152 : decode cX6_changes 152 = .ok (.return_, 1) := by decide +kernel
set_option maxRecDepth 20000 in
theorem ggX6_plans_X6_isPossible : GoodIn wsX6_plans wsX6_isPossible := goodIn_r _ [6, 7, 8, 9, 5, 10, 11, 12, 13, 14, 15, 16, 17, 18, 19, 33, 34, 35, 36, 37, 38, 39, 40, 41, 42, 43, 44, 45, 46, 47, 48, 49, 50] (by decide +kernel) (by decide +kernel)
set_option maxRecDepth 20000 in
theorem gX6_plans_X6_isPossible : GoodIn wsX6_plans (wsV RX6 68 RX6 yX6_isPossible wsX6_isPossible) := goodIn_app (goodIn_of _ (by decide +kernel)) ggX6_plans_X6_isPossible
set_option maxRecDepth 20000 in
theorem ggX6_plans_X6_leastFree : GoodIn wsX6_plans wsX6_leastFree := goodIn_r _ [23, 24, 25, 26, 5, 27, 1, 33, 34, 35, 36, 37, 38, 39, 40, 41, 42, 43, 44, 45, 46, 47, 48, 49, 50] (by decide +kernel) (by decide +kernel)
set_option maxRecDepth 20000 in
theorem gX6_plans_X6_leastFree : GoodIn wsX6_plans (wsV RX6 149 RX6 yX6_leastFree wsX6_leastFree) := goodIn_app (goodIn_of _ (by decide +kernel)) ggX6_plans_X6_leastFree
set_option maxRecDepth 20000 in
theorem ggX6_plans_X6_wishWith : GoodIn wsX6_plans wsX6_wishWith := goodIn_r _ [27, 1, 33, 34, 35, 36, 37, 38, 39, 40, 41, 42, 43, 44, 45, 46, 47, 48, 49, 50] (by decide +kernel) (by decide +kernel)
set_option maxRecDepth 20000 in
theorem gX6_plans_X6_wishWith : GoodIn wsX6_plans (wsV RX6 145 RX6 yX6_wishWith wsX6_wishWith) := goodIn_app (goodIn_of _ (by decide +kernel)) ggX6_plans_X6_wishWith
set_option maxRecDepth 20000 in
theorem ggX6_plans_X6_changes : GoodIn wsX6_plans wsX6_changes := goodIn_r _ [31, 32, 1, 24, 25, 26, 5, 27, 33, 34, 35, 36, 37, 38, 39, 40, 41, 42, 43, 44, 45, 46, 47, 48, 49, 50] (by decide +kernel) (by decide +kernel)
set_option maxRecDepth 20000 in
theorem gX6_plans_X6_changes : GoodIn wsX6_plans (wsV RX6 153 RX6 yX6_changes wsX6_changes) := goodIn_app (goodIn_of _ (by decide +kernel)) ggX6_plans_X6_changes
theorem dX6_plans_0 : decode cX6_plans 0 = .ok (.iconst 0, 1) := by decide +kernel
theorem dX6_plans_1 : decode cX6_plans 1 = .ok (.istore_n 1, 1) := by decide +kernel
theorem dX6_plans_2 : decode cX6_plans 2 = .ok (.iload_n 1, 1) := by decide +kernel
theorem dX6_plans_3 : decode cX6_plans 3 = .ok (.bipush 64, 2) := by decide +kernel
theorem dX6_plans_5 : decode cX6_plans 5 = .ok (.if_icmp .ge 17, 3) := by decide +kernel
theorem dX6_plans_8 : decode cX6_plans 8 = .ok (.aload_n 0, 1) := by decide +kernel
theorem dX6_plans_9 : decode cX6_plans 9 = .ok (.getfield 34, 3) := by decide +kernel
theorem dX6_plans_12 : decode cX6_plans 12 = .ok (.iload_n 1, 1) := by decide +kernel
theorem dX6_plans_13 : decode cX6_plans 13 = .ok (.bipush (-5), 2) := by decide +kernel
theorem dX6_plans_15 : decode cX6_plans 15 = .ok (.iastore, 1) := by decide +kernel
theorem dX6_plans_16 : decode cX6_plans 16 = .ok (.iinc 1 1, 3) := by decide +kernel
theorem dX6_plans_19 : decode cX6_plans 19 = .ok (.goto (-17), 3) := by decide +kernel
theorem dX6_plans_22 : decode cX6_plans 22 = .ok (.iconst 0, 1) := by decide +kernel
theorem dX6_plans_23 : decode cX6_plans 23 = .ok (.istore_n 1, 1) := by decide +kernel
theorem dX6_plans_24 : decode cX6_plans 24 = .ok (.iload_n 1, 1) := by decide +kernel
theorem dX6_plans_25 : decode cX6_plans 25 = .ok (.bipush 64, 2) := by decide +kernel
theorem dX6_plans_27 : decode cX6_plans 27 = .ok (.if_icmp .ge 70, 3) := by decide +kernel
theorem dX6_plans_30 : decode cX6_plans 30 = .ok (.iload_n 1, 1) := by decide +kernel
theorem dX6_plans_31 : decode cX6_plans 31 = .ok (.bipush 8, 2) := by decide +kernel
theorem dX6_plans_33 : decode cX6_plans 33 = .ok (.idiv, 1) := by decide +kernel
theorem dX6_plans_34 : decode cX6_plans 34 = .ok (.istore_n 2, 1) := by decide +kernel
theorem dX6_plans_35 : decode cX6_plans 35 = .ok (.iload_n 1, 1) := by decide +kernel
theorem dX6_plans_36 : decode cX6_plans 36 = .ok (.bipush 8, 2) := by decide +kernel
theorem dX6_plans_38 : decode cX6_plans 38 = .ok (.irem, 1) := by decide +kernel
theorem dX6_plans_39 : decode cX6_plans 39 = .ok (.istore_n 3, 1) := by decide +kernel
theorem dX6_plans_40 : decode cX6_plans 40 = .ok (.aload_n 0, 1) := by decide +kernel
theorem dX6_plans_41 : decode cX6_plans 41 = .ok (.iload_n 2, 1) := by decide +kernel
theorem dX6_plans_42 : decode cX6_plans 42 = .ok (.iload_n 3, 1) := by decide +kernel
theorem dX6_plans_43 : decode cX6_plans 43 = .ok (.invokevirtual 68, 3) := by decide +kernel
theorem dX6_plans_46 : decode cX6_plans 46 = .ok (.ifCond .eq 45, 3) := by decide +kernel
theorem dX6_plans_49 : decode cX6_plans 49 = .ok (.aload_n 0, 1) := by decide +kernel
theorem dX6_plans_50 : decode cX6_plans 50 = .ok (.iconst 1, 1) := by decide +kernel
theorem dX6_plans_51 : decode cX6_plans 51 = .ok (.iload_n 2, 1) := by decide +kernel
theorem dX6_plans_52 : decode cX6_plans 52 = .ok (.invokevirtual 149, 3) := by decide +kernel
theorem dX6_plans_55 : decode cX6_plans 55 = .ok (.istore 4, 2) := by decide +kernel
theorem dX6_plans_57 : decode cX6_plans 57 = .ok (.aload_n 0, 1) := by decide +kernel
theorem dX6_plans_58 : decode cX6_plans 58 = .ok (.iconst 0, 1) := by decide +kernel
theorem dX6_plans_59 : decode cX6_plans 59 = .ok (.iload_n 3, 1) := by decide +kernel
theorem dX6_plans_60 : decode cX6_plans 60 = .ok (.iload 4, 2) := by decide +kernel
theorem dX6_plans_62 : decode cX6_plans 62 = .ok (.invokevirtual 145, 3) := by decide +kernel
theorem dX6_plans_65 : decode cX6_plans 65 = .ok (.bipush (-5), 2) := by decide +kernel
theorem dX6_plans_67 : decode cX6_plans 67 = .ok (.if_icmp .eq 16, 3) := by decide +kernel
theorem dX6_plans_70 : decode cX6_plans 70 = .ok (.aload_n 0, 1) := by decide +kernel
theorem dX6_plans_71 : decode cX6_plans 71 = .ok (.iload_n 3, 1) := by decide +kernel
theorem dX6_plans_72 : decode cX6_plans 72 = .ok (.iload 4, 2) := by decide +kernel
theorem dX6_plans_74 : decode cX6_plans 74 = .ok (.aload_n 0, 1) := by decide +kernel
theorem dX6_plans_75 : decode cX6_plans 75 = .ok (.iconst 0, 1) := by decide +kernel
theorem dX6_plans_76 : decode cX6_plans 76 = .ok (.iload_n 3, 1) := by decide +kernel
theorem dX6_plans_77 : decode cX6_plans 77 = .ok (.invokevirtual 149, 3) := by decide +kernel
theorem dX6_plans_80 : decode cX6_plans 80 = .ok (.invokevirtual 153, 3) := by decide +kernel
theorem dX6_plans_83 : decode cX6_plans 83 = .ok (.aload_n 0, 1) := by decide +kernel
theorem dX6_plans_84 : decode cX6_plans 84 = .ok (.getfield 34, 3) := by decide +kernel
theorem dX6_plans_87 : decode cX6_plans 87 = .ok (.iload_n 1, 1) := by decide +kernel
theorem dX6_plans_88 : decode cX6_plans 88 = .ok (.iload 4, 2) := by decide +kernel
theorem dX6_plans_90 : decode cX6_plans 90 = .ok (.iastore, 1) := by decide +kernel
theorem dX6_plans_91 : decode cX6_plans 91 = .ok (.iinc 1 1, 3) := by decide +kernel
theorem dX6_plans_94 : decode cX6_plans 94 = .ok (.goto (-70), 3) := by decide +kernel
theorem dX6_plans_97 : decode cX6_plans 97 = .ok (.return_, 1) := by decide +kernel
set_option maxRecDepth 20000 in
theorem ggX6_planned_X6_isPair : GoodIn wsX6_planned wsX6_isPair := goodIn_r _ [6, 7, 8, 5, 9, 10, 11, 12] (by decide +kernel) (by decide +kernel)
set_option maxRecDepth 20000 in
theorem gX6_planned_X6_isPair : GoodIn wsX6_planned (va_wsS RX6 89 yX6_isPair wsX6_isPair) := goodIn_app (goodIn_of _ (by decide +kernel)) ggX6_planned_X6_isPair
set_option maxRecDepth 20000 in
theorem ggX6_planned_X6_plans : GoodIn wsX6_planned wsX6_plans := goodIn_r _ [16, 2, 17, 18, 19, 5, 20, 21, 22, 23, 24, 25, 26, 27, 28, 29, 30, 31, 32, 33, 34, 35, 36, 37, 38, 39, 40, 41, 42, 43, 44, 45, 46, 47, 48, 49, 50, 51, 52, 53, 54, 55, 56, 57, 58, 59, 60, 61, 62, 63, 64] (by decide +kernel) (by decide +kernel)
set_option maxRecDepth 20000 in
theorem gX6_planned_X6_plans : GoodIn wsX6_planned (wsV RX6 157 RX6 yX6_plans wsX6_plans) := goodIn_app (goodIn_of _ (by decide +kernel)) ggX6_planned_X6_plans
theorem dX6_planned_0 : decode cX6_planned 0 = .ok (.aload_n 0, 1) := by decide +kernel
theorem dX6_planned_1 : decode cX6_planned 1 = .ok (.iconst 0, 1) := by decide +kernel
theorem dX6_planned_2 : decode cX6_planned 2 = .ok (.putfield 43, 3) := by decide +kernel
theorem dX6_planned_5 : decode cX6_planned 5 = .ok (.iload_n 1, 1) := by decide +kernel
theorem dX6_planned_6 : decode cX6_planned 6 = .ok (.iload_n 2, 1) := by decide +kernel
theorem dX6_planned_7 : decode cX6_planned 7 = .ok (.invokestatic 89, 3) := by decide +kernel
theorem dX6_planned_10 : decode cX6_planned 10 = .ok (.ifCond .ne 5, 3) := by decide +kernel
theorem dX6_planned_13 : decode cX6_planned 13 = .ok (.iconst (-1), 1) := by decide +kernel
theorem dX6_planned_14 : decode cX6_planned 14 = .ok (.ireturn, 1) := by decide +kernel
theorem dX6_planned_15 : decode cX6_planned 15 = .ok (.aload_n 0, 1) := by decide +kernel
theorem dX6_planned_16 : decode cX6_planned 16 = .ok (.invokevirtual 157, 3) := by decide +kernel
theorem dX6_planned_19 : decode cX6_planned 19 = .ok (.aload_n 0, 1) := by decide +kernel
theorem dX6_planned_20 : decode cX6_planned 20 = .ok (.getfield 34, 3) := by decide +kernel
theorem dX6_planned_23 : decode cX6_planned 23 = .ok (.bipush 8, 2) := by decide +kernel
theorem dX6_planned_25 : decode cX6_planned 25 = .ok (.iload_n 1, 1) := by decide +kernel
theorem dX6_planned_26 : decode cX6_planned 26 = .ok (.imul, 1) := by decide +kernel
theorem dX6_planned_27 : decode cX6_planned 27 = .ok (.iload_n 2, 1) := by decide +kernel
theorem dX6_planned_28 : decode cX6_planned 28 = .ok (.iadd, 1) := by decide +kernel
theorem dX6_planned_29 : decode cX6_planned 29 = .ok (.iaload, 1) := by decide +kernel
theorem dX6_planned_30 : decode cX6_planned 30 = .ok (.ireturn, 1) := by decide +kernel
set_option maxRecDepth 20000 in
theorem ggX6_possibleMany_X6_isPossible : GoodIn wsX6_possibleMany wsX6_isPossible := goodIn_r _ [5, 6, 7, 8, 4, 9, 10, 11, 12, 13, 14, 15, 16, 17, 18, 19, 20, 21, 22, 23, 24, 25, 26, 27, 28, 29, 30, 31, 32, 33, 34, 35, 36] (by decide +kernel) (by decide +kernel)
set_option maxRecDepth 20000 in
theorem gX6_possibleMany_X6_isPossible : GoodIn wsX6_possibleMany (wsV RX6 68 RX6 yX6_isPossible wsX6_isPossible) := goodIn_app (goodIn_of _ (by decide +kernel)) ggX6_possibleMany_X6_isPossible
theorem dX6_possibleMany_0 : decode cX6_possibleMany 0 = .ok (.iconst 0, 1) := by decide +kernel
theorem dX6_possibleMany_1 : decode cX6_possibleMany 1 = .ok (.istore_n 1, 1) := by decide +kernel
theorem dX6_possibleMany_2 : decode cX6_possibleMany 2 = .ok (.iconst 0, 1) := by decide +kernel
theorem dX6_possibleMany_3 : decode cX6_possibleMany 3 = .ok (.istore_n 2, 1) := by decide +kernel
theorem dX6_possibleMany_4 : decode cX6_possibleMany 4 = .ok (.iload_n 2, 1) := by decide +kernel
theorem dX6_possibleMany_5 : decode cX6_possibleMany 5 = .ok (.bipush 64, 2) := by decide +kernel
theorem dX6_possibleMany_7 : decode cX6_possibleMany 7 = .ok (.if_icmp .ge 32, 3) := by decide +kernel
theorem dX6_possibleMany_10 : decode cX6_possibleMany 10 = .ok (.iload_n 1, 1) := by decide +kernel
theorem dX6_possibleMany_11 : decode cX6_possibleMany 11 = .ok (.aload_n 0, 1) := by decide +kernel
theorem dX6_possibleMany_12 : decode cX6_possibleMany 12 = .ok (.iload_n 2, 1) := by decide +kernel
theorem dX6_possibleMany_13 : decode cX6_possibleMany 13 = .ok (.bipush 8, 2) := by decide +kernel
theorem dX6_possibleMany_15 : decode cX6_possibleMany 15 = .ok (.idiv, 1) := by decide +kernel
theorem dX6_possibleMany_16 : decode cX6_possibleMany 16 = .ok (.iload_n 2, 1) := by decide +kernel
theorem dX6_possibleMany_17 : decode cX6_possibleMany 17 = .ok (.bipush 8, 2) := by decide +kernel
theorem dX6_possibleMany_19 : decode cX6_possibleMany 19 = .ok (.irem, 1) := by decide +kernel
theorem dX6_possibleMany_20 : decode cX6_possibleMany 20 = .ok (.invokevirtual 68, 3) := by decide +kernel
theorem dX6_possibleMany_23 : decode cX6_possibleMany 23 = .ok (.ifCond .eq 7, 3) := by decide +kernel
theorem dX6_possibleMany_26 : decode cX6_possibleMany 26 = .ok (.iconst 1, 1) := by decide +kernel
theorem dX6_possibleMany_27 : decode cX6_possibleMany 27 = .ok (.goto 4, 3) := by decide +kernel
theorem dX6_possibleMany_30 : decode cX6_possibleMany 30 = .ok (.iconst 0, 1) := by decide +kernel
theorem dX6_possibleMany_31 : decode cX6_possibleMany 31 = .ok (.iadd, 1) := by decide +kernel
theorem dX6_possibleMany_32 : decode cX6_possibleMany 32 = .ok (.istore_n 1, 1) := by decide +kernel
theorem dX6_possibleMany_33 : decode cX6_possibleMany 33 = .ok (.iinc 2 1, 3) := by decide +kernel
theorem dX6_possibleMany_36 : decode cX6_possibleMany 36 = .ok (.goto (-32), 3) := by decide +kernel
theorem dX6_possibleMany_39 : decode cX6_possibleMany 39 = .ok (.iload_n 1, 1) := by decide +kernel
theorem dX6_possibleMany_40 : decode cX6_possibleMany 40 = .ok (.ireturn, 1) := by decide +kernel
theorem dX6_feuds_0 : decode cX6_feuds 0 = .ok (.iconst 0, 1) := by decide +kernel
theorem dX6_feuds_1 : decode cX6_feuds 1 = .ok (.istore_n 1, 1) := by decide +kernel
theorem dX6_feuds_2 : decode cX6_feuds 2 = .ok (.iconst 0, 1) := by decide +kernel
theorem dX6_feuds_3 : decode cX6_feuds 3 = .ok (.istore_n 2, 1) := by decide +kernel
theorem dX6_feuds_4 : decode cX6_feuds 4 = .ok (.iload_n 2, 1) := by decide +kernel
theorem dX6_feuds_5 : decode cX6_feuds 5 = .ok (.bipush 64, 2) := by decide +kernel
theorem dX6_feuds_7 : decode cX6_feuds 7 = .ok (.if_icmp .ge 29, 3) := by decide +kernel
theorem dX6_feuds_10 : decode cX6_feuds 10 = .ok (.iload_n 1, 1) := by decide +kernel
theorem dX6_feuds_11 : decode cX6_feuds 11 = .ok (.aload_n 0, 1) := by decide +kernel
theorem dX6_feuds_12 : decode cX6_feuds 12 = .ok (.getfield 7, 3) := by decide +kernel
theorem dX6_feuds_15 : decode cX6_feuds 15 = .ok (.bipush 33, 2) := by decide +kernel
theorem dX6_feuds_17 : decode cX6_feuds 17 = .ok (.iload_n 2, 1) := by decide +kernel
theorem dX6_feuds_18 : decode cX6_feuds 18 = .ok (.iadd, 1) := by decide +kernel
theorem dX6_feuds_19 : decode cX6_feuds 19 = .ok (.iaload, 1) := by decide +kernel
theorem dX6_feuds_20 : decode cX6_feuds 20 = .ok (.ifCond .le 7, 3) := by decide +kernel
theorem dX6_feuds_23 : decode cX6_feuds 23 = .ok (.iconst 1, 1) := by decide +kernel
theorem dX6_feuds_24 : decode cX6_feuds 24 = .ok (.goto 4, 3) := by decide +kernel
theorem dX6_feuds_27 : decode cX6_feuds 27 = .ok (.iconst 0, 1) := by decide +kernel
theorem dX6_feuds_28 : decode cX6_feuds 28 = .ok (.iadd, 1) := by decide +kernel
theorem dX6_feuds_29 : decode cX6_feuds 29 = .ok (.istore_n 1, 1) := by decide +kernel
theorem dX6_feuds_30 : decode cX6_feuds 30 = .ok (.iinc 2 1, 3) := by decide +kernel
theorem dX6_feuds_33 : decode cX6_feuds 33 = .ok (.goto (-29), 3) := by decide +kernel
theorem dX6_feuds_36 : decode cX6_feuds 36 = .ok (.iload_n 1, 1) := by decide +kernel
theorem dX6_feuds_37 : decode cX6_feuds 37 = .ok (.ireturn, 1) := by decide +kernel
theorem dX6_links_0 : decode cX6_links 0 = .ok (.iconst 0, 1) := by decide +kernel
theorem dX6_links_1 : decode cX6_links 1 = .ok (.istore_n 1, 1) := by decide +kernel
theorem dX6_links_2 : decode cX6_links 2 = .ok (.iconst 0, 1) := by decide +kernel
theorem dX6_links_3 : decode cX6_links 3 = .ok (.istore_n 2, 1) := by decide +kernel
theorem dX6_links_4 : decode cX6_links 4 = .ok (.iload_n 2, 1) := by decide +kernel
theorem dX6_links_5 : decode cX6_links 5 = .ok (.bipush 16, 2) := by decide +kernel
theorem dX6_links_7 : decode cX6_links 7 = .ok (.if_icmp .ge 21, 3) := by decide +kernel
theorem dX6_links_10 : decode cX6_links 10 = .ok (.iload_n 1, 1) := by decide +kernel
theorem dX6_links_11 : decode cX6_links 11 = .ok (.aload_n 0, 1) := by decide +kernel
theorem dX6_links_12 : decode cX6_links 12 = .ok (.getfield 7, 3) := by decide +kernel
theorem dX6_links_15 : decode cX6_links 15 = .ok (.bipush 17, 2) := by decide +kernel
theorem dX6_links_17 : decode cX6_links 17 = .ok (.iload_n 2, 1) := by decide +kernel
theorem dX6_links_18 : decode cX6_links 18 = .ok (.iadd, 1) := by decide +kernel
theorem dX6_links_19 : decode cX6_links 19 = .ok (.iaload, 1) := by decide +kernel
theorem dX6_links_20 : decode cX6_links 20 = .ok (.iadd, 1) := by decide +kernel
theorem dX6_links_21 : decode cX6_links 21 = .ok (.istore_n 1, 1) := by decide +kernel
theorem dX6_links_22 : decode cX6_links 22 = .ok (.iinc 2 1, 3) := by decide +kernel
end
section
theorem dX6_links_25 : decode cX6_links 25 = .ok (.goto (-21), 3) := by decide +kernel
theorem dX6_links_28 : decode cX6_links 28 = .ok (.iload_n 1, 1) := by decide +kernel
theorem dX6_links_29 : decode cX6_links 29 = .ok (.ireturn, 1) := by decide +kernel
theorem dX6_shaken_0 : decode cX6_shaken 0 = .ok (.iconst 0, 1) := by decide +kernel
theorem dX6_shaken_1 : decode cX6_shaken 1 = .ok (.istore_n 1, 1) := by decide +kernel
theorem dX6_shaken_2 : decode cX6_shaken 2 = .ok (.iconst 0, 1) := by decide +kernel
theorem dX6_shaken_3 : decode cX6_shaken 3 = .ok (.istore_n 2, 1) := by decide +kernel
theorem dX6_shaken_4 : decode cX6_shaken 4 = .ok (.iload_n 2, 1) := by decide +kernel
theorem dX6_shaken_5 : decode cX6_shaken 5 = .ok (.bipush 64, 2) := by decide +kernel
theorem dX6_shaken_7 : decode cX6_shaken 7 = .ok (.if_icmp .ge 22, 3) := by decide +kernel
theorem dX6_shaken_10 : decode cX6_shaken 10 = .ok (.iload_n 1, 1) := by decide +kernel
theorem dX6_shaken_11 : decode cX6_shaken 11 = .ok (.aload_n 0, 1) := by decide +kernel
theorem dX6_shaken_12 : decode cX6_shaken 12 = .ok (.getfield 7, 3) := by decide +kernel
theorem dX6_shaken_15 : decode cX6_shaken 15 = .ok (.sipush 161, 3) := by decide +kernel
theorem dX6_shaken_18 : decode cX6_shaken 18 = .ok (.iload_n 2, 1) := by decide +kernel
theorem dX6_shaken_19 : decode cX6_shaken 19 = .ok (.iadd, 1) := by decide +kernel
theorem dX6_shaken_20 : decode cX6_shaken 20 = .ok (.iaload, 1) := by decide +kernel
theorem dX6_shaken_21 : decode cX6_shaken 21 = .ok (.iadd, 1) := by decide +kernel
theorem dX6_shaken_22 : decode cX6_shaken 22 = .ok (.istore_n 1, 1) := by decide +kernel
theorem dX6_shaken_23 : decode cX6_shaken 23 = .ok (.iinc 2 1, 3) := by decide +kernel
theorem dX6_shaken_26 : decode cX6_shaken 26 = .ok (.goto (-22), 3) := by decide +kernel
theorem dX6_shaken_29 : decode cX6_shaken 29 = .ok (.iload_n 1, 1) := by decide +kernel
theorem dX6_shaken_30 : decode cX6_shaken 30 = .ok (.ireturn, 1) := by decide +kernel
set_option maxRecDepth 20000 in
theorem ggX6_greatest_X6_isPossible : GoodIn wsX6_greatest wsX6_isPossible := goodIn_r _ [5, 6, 7, 8, 4, 9, 10, 11, 12, 13, 14, 15, 16, 17, 18, 19, 20, 21, 22, 23, 24, 25, 26, 27, 28, 29, 30, 31, 32, 33, 34, 35, 36] (by decide +kernel) (by decide +kernel)
set_option maxRecDepth 20000 in
theorem gX6_greatest_X6_isPossible : GoodIn wsX6_greatest (wsV RX6 68 RX6 yX6_isPossible wsX6_isPossible) := goodIn_app (goodIn_of _ (by decide +kernel)) ggX6_greatest_X6_isPossible
theorem dX6_greatest_0 : decode cX6_greatest 0 = .ok (.iconst 0, 1) := by decide +kernel
theorem dX6_greatest_1 : decode cX6_greatest 1 = .ok (.istore_n 1, 1) := by decide +kernel
theorem dX6_greatest_2 : decode cX6_greatest 2 = .ok (.iconst 0, 1) := by decide +kernel
theorem dX6_greatest_3 : decode cX6_greatest 3 = .ok (.istore_n 2, 1) := by decide +kernel
theorem dX6_greatest_4 : decode cX6_greatest 4 = .ok (.iload_n 2, 1) := by decide +kernel
theorem dX6_greatest_5 : decode cX6_greatest 5 = .ok (.bipush 8, 2) := by decide +kernel
theorem dX6_greatest_7 : decode cX6_greatest 7 = .ok (.if_icmp .ge 92, 3) := by decide +kernel
theorem dX6_greatest_10 : decode cX6_greatest 10 = .ok (.iconst 0, 1) := by decide +kernel
theorem dX6_greatest_11 : decode cX6_greatest 11 = .ok (.istore_n 3, 1) := by decide +kernel
theorem dX6_greatest_12 : decode cX6_greatest 12 = .ok (.iconst 0, 1) := by decide +kernel
theorem dX6_greatest_13 : decode cX6_greatest 13 = .ok (.istore 4, 2) := by decide +kernel
theorem dX6_greatest_15 : decode cX6_greatest 15 = .ok (.iconst 0, 1) := by decide +kernel
theorem dX6_greatest_16 : decode cX6_greatest 16 = .ok (.istore 5, 2) := by decide +kernel
theorem dX6_greatest_18 : decode cX6_greatest 18 = .ok (.iload 5, 2) := by decide +kernel
theorem dX6_greatest_20 : decode cX6_greatest 20 = .ok (.bipush 8, 2) := by decide +kernel
theorem dX6_greatest_22 : decode cX6_greatest 22 = .ok (.if_icmp .ge 47, 3) := by decide +kernel
theorem dX6_greatest_25 : decode cX6_greatest 25 = .ok (.iload_n 3, 1) := by decide +kernel
theorem dX6_greatest_26 : decode cX6_greatest 26 = .ok (.aload_n 0, 1) := by decide +kernel
theorem dX6_greatest_27 : decode cX6_greatest 27 = .ok (.iload_n 2, 1) := by decide +kernel
theorem dX6_greatest_28 : decode cX6_greatest 28 = .ok (.iload 5, 2) := by decide +kernel
theorem dX6_greatest_30 : decode cX6_greatest 30 = .ok (.invokevirtual 68, 3) := by decide +kernel
theorem dX6_greatest_33 : decode cX6_greatest 33 = .ok (.ifCond .eq 7, 3) := by decide +kernel
theorem dX6_greatest_36 : decode cX6_greatest 36 = .ok (.iconst 1, 1) := by decide +kernel
theorem dX6_greatest_37 : decode cX6_greatest 37 = .ok (.goto 4, 3) := by decide +kernel
theorem dX6_greatest_40 : decode cX6_greatest 40 = .ok (.iconst 0, 1) := by decide +kernel
theorem dX6_greatest_41 : decode cX6_greatest 41 = .ok (.iadd, 1) := by decide +kernel
theorem dX6_greatest_42 : decode cX6_greatest 42 = .ok (.istore_n 3, 1) := by decide +kernel
theorem dX6_greatest_43 : decode cX6_greatest 43 = .ok (.iload 4, 2) := by decide +kernel
theorem dX6_greatest_45 : decode cX6_greatest 45 = .ok (.aload_n 0, 1) := by decide +kernel
theorem dX6_greatest_46 : decode cX6_greatest 46 = .ok (.iload 5, 2) := by decide +kernel
theorem dX6_greatest_48 : decode cX6_greatest 48 = .ok (.iload_n 2, 1) := by decide +kernel
theorem dX6_greatest_49 : decode cX6_greatest 49 = .ok (.invokevirtual 68, 3) := by decide +kernel
theorem dX6_greatest_52 : decode cX6_greatest 52 = .ok (.ifCond .eq 7, 3) := by decide +kernel
theorem dX6_greatest_55 : decode cX6_greatest 55 = .ok (.iconst 1, 1) := by decide +kernel
theorem dX6_greatest_56 : decode cX6_greatest 56 = .ok (.goto 4, 3) := by decide +kernel
theorem dX6_greatest_59 : decode cX6_greatest 59 = .ok (.iconst 0, 1) := by decide +kernel
theorem dX6_greatest_60 : decode cX6_greatest 60 = .ok (.iadd, 1) := by decide +kernel
theorem dX6_greatest_61 : decode cX6_greatest 61 = .ok (.istore 4, 2) := by decide +kernel
theorem dX6_greatest_63 : decode cX6_greatest 63 = .ok (.iinc 5 1, 3) := by decide +kernel
theorem dX6_greatest_66 : decode cX6_greatest 66 = .ok (.goto (-48), 3) := by decide +kernel
theorem dX6_greatest_69 : decode cX6_greatest 69 = .ok (.iload_n 3, 1) := by decide +kernel
theorem dX6_greatest_70 : decode cX6_greatest 70 = .ok (.iload_n 1, 1) := by decide +kernel
theorem dX6_greatest_71 : decode cX6_greatest 71 = .ok (.if_icmp .le 7, 3) := by decide +kernel
theorem dX6_greatest_74 : decode cX6_greatest 74 = .ok (.iload_n 3, 1) := by decide +kernel
theorem dX6_greatest_75 : decode cX6_greatest 75 = .ok (.goto 4, 3) := by decide +kernel
theorem dX6_greatest_78 : decode cX6_greatest 78 = .ok (.iload_n 1, 1) := by decide +kernel
theorem dX6_greatest_79 : decode cX6_greatest 79 = .ok (.istore_n 1, 1) := by decide +kernel
theorem dX6_greatest_80 : decode cX6_greatest 80 = .ok (.iload 4, 2) := by decide +kernel
theorem dX6_greatest_82 : decode cX6_greatest 82 = .ok (.iload_n 1, 1) := by decide +kernel
theorem dX6_greatest_83 : decode cX6_greatest 83 = .ok (.if_icmp .le 8, 3) := by decide +kernel
theorem dX6_greatest_86 : decode cX6_greatest 86 = .ok (.iload 4, 2) := by decide +kernel
theorem dX6_greatest_88 : decode cX6_greatest 88 = .ok (.goto 4, 3) := by decide +kernel
theorem dX6_greatest_91 : decode cX6_greatest 91 = .ok (.iload_n 1, 1) := by decide +kernel
theorem dX6_greatest_92 : decode cX6_greatest 92 = .ok (.istore_n 1, 1) := by decide +kernel
theorem dX6_greatest_93 : decode cX6_greatest 93 = .ok (.iinc 2 1, 3) := by decide +kernel
theorem dX6_greatest_96 : decode cX6_greatest 96 = .ok (.goto (-92), 3) := by decide +kernel
theorem dX6_greatest_99 : decode cX6_greatest 99 = .ok (.iload_n 1, 1) := by decide +kernel
theorem dX6_greatest_100 : decode cX6_greatest 100 = .ok (.ireturn, 1) := by decide +kernel
set_option maxRecDepth 20000 in
theorem ggX6_count_X6_openMany : GoodIn wsX6_count wsX6_openMany := goodIn_r _ [9, 2, 73, 74, 75, 76, 77, 78, 79, 80, 81, 82, 83, 84, 85, 86, 87, 88, 89, 90] (by decide +kernel) (by decide +kernel)
set_option maxRecDepth 20000 in
theorem gX6_count_X6_openMany : GoodIn wsX6_count (wsV RX6 95 RX6 yX6_openMany wsX6_openMany) := goodIn_app (goodIn_of _ (by decide +kernel)) ggX6_count_X6_openMany
set_option maxRecDepth 20000 in
theorem ggX6_count_X6_possibleMany : GoodIn wsX6_count wsX6_possibleMany := goodIn_r _ [13, 14, 15, 16, 8, 17, 18, 19, 20, 21, 2, 22, 23, 24, 25, 26, 27, 28, 29, 73, 74, 75, 76, 77, 78, 79, 80, 81, 82, 83, 84, 85, 86, 87, 88, 89, 90] (by decide +kernel) (by decide +kernel)
set_option maxRecDepth 20000 in
theorem gX6_count_X6_possibleMany : GoodIn wsX6_count (wsV RX6 160 RX6 yX6_possibleMany wsX6_possibleMany) := goodIn_app (goodIn_of _ (by decide +kernel)) ggX6_count_X6_possibleMany
set_option maxRecDepth 20000 in
theorem ggX6_count_X6_feuds : GoodIn wsX6_count wsX6_feuds := goodIn_r _ [33, 2, 73, 74, 75, 76, 77, 78, 79, 80, 81, 82, 83, 84, 85, 86, 87, 88, 89, 90] (by decide +kernel) (by decide +kernel)
set_option maxRecDepth 20000 in
theorem gX6_count_X6_feuds : GoodIn wsX6_count (wsV RX6 163 RX6 yX6_feuds wsX6_feuds) := goodIn_app (goodIn_of _ (by decide +kernel)) ggX6_count_X6_feuds
set_option maxRecDepth 20000 in
theorem ggX6_count_X6_links : GoodIn wsX6_count wsX6_links := goodIn_r _ [37, 2, 73, 74, 75, 76, 77, 78, 79, 80, 81, 82, 83, 84, 85, 86, 87, 88, 89, 90] (by decide +kernel) (by decide +kernel)
set_option maxRecDepth 20000 in
theorem gX6_count_X6_links : GoodIn wsX6_count (wsV RX6 166 RX6 yX6_links wsX6_links) := goodIn_app (goodIn_of _ (by decide +kernel)) ggX6_count_X6_links
set_option maxRecDepth 20000 in
theorem ggX6_count_X6_shaken : GoodIn wsX6_count wsX6_shaken := goodIn_r _ [41, 2, 73, 74, 75, 76, 77, 78, 79, 80, 81, 82, 83, 84, 85, 86, 87, 88, 89, 90] (by decide +kernel) (by decide +kernel)
set_option maxRecDepth 20000 in
theorem gX6_count_X6_shaken : GoodIn wsX6_count (wsV RX6 169 RX6 yX6_shaken wsX6_shaken) := goodIn_app (goodIn_of _ (by decide +kernel)) ggX6_count_X6_shaken
set_option maxRecDepth 20000 in
theorem ggX6_count_X6_matches : GoodIn wsX6_count wsX6_matches := goodIn_r _ [45, 46, 47, 48, 49, 8, 50, 51, 14, 15, 16, 17, 18, 19, 20, 21, 2, 22, 23, 24, 25, 26, 27, 28, 29, 52, 53, 54, 55, 56, 57, 58, 59, 60, 61, 62, 63, 64, 65, 66, 67, 68, 73, 74, 75, 76, 77, 78, 79, 80, 81, 82, 83, 84, 85, 86, 87, 88, 89, 90] (by decide +kernel) (by decide +kernel)
set_option maxRecDepth 20000 in
theorem gX6_count_X6_matches : GoodIn wsX6_count (wsV RX6 101 RX6 yX6_matches wsX6_matches) := goodIn_app (goodIn_of _ (by decide +kernel)) ggX6_count_X6_matches
set_option maxRecDepth 20000 in
theorem ggX6_count_X6_greatest : GoodIn wsX6_count wsX6_greatest := goodIn_r _ [72, 14, 15, 16, 8, 17, 18, 19, 20, 21, 2, 22, 23, 24, 25, 26, 27, 28, 29, 73, 74, 75, 76, 77, 78, 79, 80, 81, 82, 83, 84, 85, 86, 87, 88, 89, 90] (by decide +kernel) (by decide +kernel)
set_option maxRecDepth 20000 in
theorem gX6_count_X6_greatest : GoodIn wsX6_count (wsV RX6 172 RX6 yX6_greatest wsX6_greatest) := goodIn_app (goodIn_of _ (by decide +kernel)) ggX6_count_X6_greatest
theorem dX6_count_0 : decode cX6_count 0 = .ok (.aload_n 0, 1) := by decide +kernel
theorem dX6_count_1 : decode cX6_count 1 = .ok (.iconst 0, 1) := by decide +kernel
theorem dX6_count_2 : decode cX6_count 2 = .ok (.putfield 43, 3) := by decide +kernel
theorem dX6_count_5 : decode cX6_count 5 = .ok (.iload_n 1, 1) := by decide +kernel
theorem dX6_count_6 : decode cX6_count 6 = .ok (.tableswitch 106 0 9 #[54, 59, 64, 69, 74, 81, 86, 91, 96, 101], 54) := by decide +kernel
theorem dX6_count_60 : decode cX6_count 60 = .ok (.aload_n 0, 1) := by decide +kernel
theorem dX6_count_61 : decode cX6_count 61 = .ok (.invokevirtual 95, 3) := by decide +kernel
theorem dX6_count_64 : decode cX6_count 64 = .ok (.ireturn, 1) := by decide +kernel
theorem dX6_count_65 : decode cX6_count 65 = .ok (.aload_n 0, 1) := by decide +kernel
theorem dX6_count_66 : decode cX6_count 66 = .ok (.invokevirtual 160, 3) := by decide +kernel
theorem dX6_count_69 : decode cX6_count 69 = .ok (.ireturn, 1) := by decide +kernel
theorem dX6_count_70 : decode cX6_count 70 = .ok (.aload_n 0, 1) := by decide +kernel
theorem dX6_count_71 : decode cX6_count 71 = .ok (.invokevirtual 163, 3) := by decide +kernel
theorem dX6_count_74 : decode cX6_count 74 = .ok (.ireturn, 1) := by decide +kernel
theorem dX6_count_75 : decode cX6_count 75 = .ok (.aload_n 0, 1) := by decide +kernel
theorem dX6_count_76 : decode cX6_count 76 = .ok (.invokevirtual 166, 3) := by decide +kernel
theorem dX6_count_79 : decode cX6_count 79 = .ok (.ireturn, 1) := by decide +kernel
theorem dX6_count_80 : decode cX6_count 80 = .ok (.aload_n 0, 1) := by decide +kernel
theorem dX6_count_81 : decode cX6_count 81 = .ok (.getfield 7, 3) := by decide +kernel
theorem dX6_count_84 : decode cX6_count 84 = .ok (.iconst 0, 1) := by decide +kernel
theorem dX6_count_85 : decode cX6_count 85 = .ok (.iaload, 1) := by decide +kernel
theorem dX6_count_86 : decode cX6_count 86 = .ok (.ireturn, 1) := by decide +kernel
theorem dX6_count_87 : decode cX6_count 87 = .ok (.aload_n 0, 1) := by decide +kernel
theorem dX6_count_88 : decode cX6_count 88 = .ok (.invokevirtual 169, 3) := by decide +kernel
theorem dX6_count_91 : decode cX6_count 91 = .ok (.ireturn, 1) := by decide +kernel
theorem dX6_count_92 : decode cX6_count 92 = .ok (.aload_n 0, 1) := by decide +kernel
theorem dX6_count_93 : decode cX6_count 93 = .ok (.invokevirtual 101, 3) := by decide +kernel
theorem dX6_count_96 : decode cX6_count 96 = .ok (.ireturn, 1) := by decide +kernel
theorem dX6_count_97 : decode cX6_count 97 = .ok (.aload_n 0, 1) := by decide +kernel
theorem dX6_count_98 : decode cX6_count 98 = .ok (.invokevirtual 172, 3) := by decide +kernel
theorem dX6_count_101 : decode cX6_count 101 = .ok (.ireturn, 1) := by decide +kernel
theorem dX6_count_102 : decode cX6_count 102 = .ok (.aload_n 0, 1) := by decide +kernel
theorem dX6_count_103 : decode cX6_count 103 = .ok (.getfield 55, 3) := by decide +kernel
theorem dX6_count_106 : decode cX6_count 106 = .ok (.ireturn, 1) := by decide +kernel
theorem dX6_count_107 : decode cX6_count 107 = .ok (.aload_n 0, 1) := by decide +kernel
theorem dX6_count_108 : decode cX6_count 108 = .ok (.getfield 107, 3) := by decide +kernel
theorem dX6_count_111 : decode cX6_count 111 = .ok (.ireturn, 1) := by decide +kernel
theorem dX6_count_112 : decode cX6_count 112 = .ok (.bipush (-2), 2) := by decide +kernel
theorem dX6_count_114 : decode cX6_count 114 = .ok (.ireturn, 1) := by decide +kernel
set_option maxRecDepth 20000 in
theorem ggX6_doneIn_X6_putAside : GoodIn wsX6_doneIn wsX6_putAside := goodIn_r _ [6, 7, 8, 64, 65, 66, 67, 68, 69, 70, 71, 72, 73, 74, 75, 76, 77, 78, 79, 80, 81] (by decide +kernel) (by decide +kernel)
set_option maxRecDepth 20000 in
theorem gX6_doneIn_X6_putAside : GoodIn wsX6_doneIn (wsV RX6 175 RX6 yX6_putAside wsX6_putAside) := goodIn_app (goodIn_of _ (by decide +kernel)) ggX6_doneIn_X6_putAside
set_option maxRecDepth 20000 in
theorem ggX6_doneIn_X6_openMany : GoodIn wsX6_doneIn wsX6_openMany := goodIn_r _ [12, 8, 64, 65, 66, 67, 68, 69, 70, 71, 72, 73, 74, 75, 76, 77, 78, 79, 80, 81] (by decide +kernel) (by decide +kernel)
set_option maxRecDepth 20000 in
theorem gX6_doneIn_X6_openMany : GoodIn wsX6_doneIn (wsV RX6 95 RX6 yX6_openMany wsX6_openMany) := goodIn_app (goodIn_of _ (by decide +kernel)) ggX6_doneIn_X6_openMany
set_option maxRecDepth 20000 in
theorem ggX6_doneIn_X6_shakes : GoodIn wsX6_doneIn wsX6_shakes := goodIn_r _ [16, 17, 8, 18, 19, 20, 5, 21, 22, 23, 24, 25, 26, 27, 28, 29, 30, 31, 32, 33, 34, 35, 36, 37, 38, 39, 40, 41, 42, 43, 44, 45, 46, 47, 48, 49, 50, 51, 52, 53, 54, 55, 56, 57, 58, 59, 64, 65, 66, 67, 68, 69, 70, 71, 72, 73, 74, 75, 76, 77, 78, 79, 80, 81] (by decide +kernel) (by decide +kernel)
set_option maxRecDepth 20000 in
theorem gX6_doneIn_X6_shakes : GoodIn wsX6_doneIn (wsV RX6 104 RX6 yX6_shakes wsX6_shakes) := goodIn_app (goodIn_of _ (by decide +kernel)) ggX6_doneIn_X6_shakes
set_option maxRecDepth 20000 in
theorem ggX6_doneIn_X6_takeBack : GoodIn wsX6_doneIn wsX6_takeBack := goodIn_r _ [63, 8, 7, 64, 65, 66, 67, 68, 69, 70, 71, 72, 73, 74, 75, 76, 77, 78, 79, 80, 81] (by decide +kernel) (by decide +kernel)
set_option maxRecDepth 20000 in
theorem gX6_doneIn_X6_takeBack : GoodIn wsX6_doneIn (wsV RX6 178 RX6 yX6_takeBack wsX6_takeBack) := goodIn_app (goodIn_of _ (by decide +kernel)) ggX6_doneIn_X6_takeBack
theorem dX6_doneIn_0 : decode cX6_doneIn 0 = .ok (.aload_n 0, 1) := by decide +kernel
theorem dX6_doneIn_1 : decode cX6_doneIn 1 = .ok (.iconst 0, 1) := by decide +kernel
theorem dX6_doneIn_2 : decode cX6_doneIn 2 = .ok (.putfield 43, 3) := by decide +kernel
theorem dX6_doneIn_5 : decode cX6_doneIn 5 = .ok (.aload_n 0, 1) := by decide +kernel
theorem dX6_doneIn_6 : decode cX6_doneIn 6 = .ok (.invokevirtual 175, 3) := by decide +kernel
theorem dX6_doneIn_9 : decode cX6_doneIn 9 = .ok (.iconst 0, 1) := by decide +kernel
theorem dX6_doneIn_10 : decode cX6_doneIn 10 = .ok (.istore_n 1, 1) := by decide +kernel
theorem dX6_doneIn_11 : decode cX6_doneIn 11 = .ok (.iload_n 1, 1) := by decide +kernel
theorem dX6_doneIn_12 : decode cX6_doneIn 12 = .ok (.sipush 200, 3) := by decide +kernel
theorem dX6_doneIn_15 : decode cX6_doneIn 15 = .ok (.if_icmp .ge 21, 3) := by decide +kernel
theorem dX6_doneIn_18 : decode cX6_doneIn 18 = .ok (.aload_n 0, 1) := by decide +kernel
theorem dX6_doneIn_19 : decode cX6_doneIn 19 = .ok (.invokevirtual 95, 3) := by decide +kernel
theorem dX6_doneIn_22 : decode cX6_doneIn 22 = .ok (.ifCond .le 14, 3) := by decide +kernel
theorem dX6_doneIn_25 : decode cX6_doneIn 25 = .ok (.aload_n 0, 1) := by decide +kernel
theorem dX6_doneIn_26 : decode cX6_doneIn 26 = .ok (.invokevirtual 104, 3) := by decide +kernel
theorem dX6_doneIn_29 : decode cX6_doneIn 29 = .ok (.pop, 1) := by decide +kernel
theorem dX6_doneIn_30 : decode cX6_doneIn 30 = .ok (.iinc 1 1, 3) := by decide +kernel
theorem dX6_doneIn_33 : decode cX6_doneIn 33 = .ok (.goto (-22), 3) := by decide +kernel
theorem dX6_doneIn_36 : decode cX6_doneIn 36 = .ok (.aload_n 0, 1) := by decide +kernel
theorem dX6_doneIn_37 : decode cX6_doneIn 37 = .ok (.invokevirtual 95, 3) := by decide +kernel
theorem dX6_doneIn_40 : decode cX6_doneIn 40 = .ok (.ifCond .le 8, 3) := by decide +kernel
theorem dX6_doneIn_43 : decode cX6_doneIn 43 = .ok (.bipush (-5), 2) := by decide +kernel
theorem dX6_doneIn_45 : decode cX6_doneIn 45 = .ok (.goto 4, 3) := by decide +kernel
theorem dX6_doneIn_48 : decode cX6_doneIn 48 = .ok (.iload_n 1, 1) := by decide +kernel
theorem dX6_doneIn_49 : decode cX6_doneIn 49 = .ok (.istore_n 2, 1) := by decide +kernel
theorem dX6_doneIn_50 : decode cX6_doneIn 50 = .ok (.aload_n 0, 1) := by decide +kernel
theorem dX6_doneIn_51 : decode cX6_doneIn 51 = .ok (.invokevirtual 178, 3) := by decide +kernel
theorem dX6_doneIn_54 : decode cX6_doneIn 54 = .ok (.iload_n 2, 1) := by decide +kernel
theorem dX6_doneIn_55 : decode cX6_doneIn 55 = .ok (.ireturn, 1) := by decide +kernel
set_option maxRecDepth 20000 in
theorem ggX6_bestLink_X6_matches : GoodIn wsX6_bestLink wsX6_matches := goodIn_r _ [7, 8, 9, 10, 11, 6, 12, 13, 14, 15, 16, 17, 18, 19, 20, 21, 2, 22, 23, 24, 25, 26, 27, 28, 29, 30, 31, 32, 33, 34, 35, 36, 37, 38, 39, 40, 41, 42, 43, 44, 45, 46, 47, 48, 49, 50, 51, 52, 53, 54, 55, 56, 57, 58, 59, 60, 61, 62, 63, 64] (by decide +kernel) (by decide +kernel)
set_option maxRecDepth 20000 in
theorem gX6_bestLink_X6_matches : GoodIn wsX6_bestLink (wsV RX6 101 RX6 yX6_matches wsX6_matches) := goodIn_app (goodIn_of _ (by decide +kernel)) ggX6_bestLink_X6_matches
theorem dX6_bestLink_0 : decode cX6_bestLink 0 = .ok (.aload_n 0, 1) := by decide +kernel
theorem dX6_bestLink_1 : decode cX6_bestLink 1 = .ok (.iconst 0, 1) := by decide +kernel
theorem dX6_bestLink_2 : decode cX6_bestLink 2 = .ok (.putfield 43, 3) := by decide +kernel
theorem dX6_bestLink_5 : decode cX6_bestLink 5 = .ok (.aload_n 0, 1) := by decide +kernel
theorem dX6_bestLink_6 : decode cX6_bestLink 6 = .ok (.invokevirtual 101, 3) := by decide +kernel
theorem dX6_bestLink_9 : decode cX6_bestLink 9 = .ok (.istore_n 1, 1) := by decide +kernel
theorem dX6_bestLink_10 : decode cX6_bestLink 10 = .ok (.bipush (-5), 2) := by decide +kernel
theorem dX6_bestLink_12 : decode cX6_bestLink 12 = .ok (.istore_n 2, 1) := by decide +kernel
theorem dX6_bestLink_13 : decode cX6_bestLink 13 = .ok (.iconst 0, 1) := by decide +kernel
theorem dX6_bestLink_14 : decode cX6_bestLink 14 = .ok (.istore_n 3, 1) := by decide +kernel
theorem dX6_bestLink_15 : decode cX6_bestLink 15 = .ok (.iload_n 3, 1) := by decide +kernel
theorem dX6_bestLink_16 : decode cX6_bestLink 16 = .ok (.bipush 16, 2) := by decide +kernel
theorem dX6_bestLink_18 : decode cX6_bestLink 18 = .ok (.if_icmp .ge 72, 3) := by decide +kernel
theorem dX6_bestLink_21 : decode cX6_bestLink 21 = .ok (.aload_n 0, 1) := by decide +kernel
theorem dX6_bestLink_22 : decode cX6_bestLink 22 = .ok (.getfield 7, 3) := by decide +kernel
theorem dX6_bestLink_25 : decode cX6_bestLink 25 = .ok (.bipush 17, 2) := by decide +kernel
theorem dX6_bestLink_27 : decode cX6_bestLink 27 = .ok (.iload_n 3, 1) := by decide +kernel
theorem dX6_bestLink_28 : decode cX6_bestLink 28 = .ok (.iadd, 1) := by decide +kernel
theorem dX6_bestLink_29 : decode cX6_bestLink 29 = .ok (.iaload, 1) := by decide +kernel
theorem dX6_bestLink_30 : decode cX6_bestLink 30 = .ok (.ifCond .ne 54, 3) := by decide +kernel
theorem dX6_bestLink_33 : decode cX6_bestLink 33 = .ok (.aload_n 0, 1) := by decide +kernel
theorem dX6_bestLink_34 : decode cX6_bestLink 34 = .ok (.getfield 7, 3) := by decide +kernel
theorem dX6_bestLink_37 : decode cX6_bestLink 37 = .ok (.bipush 17, 2) := by decide +kernel
theorem dX6_bestLink_39 : decode cX6_bestLink 39 = .ok (.iload_n 3, 1) := by decide +kernel
theorem dX6_bestLink_40 : decode cX6_bestLink 40 = .ok (.iadd, 1) := by decide +kernel
theorem dX6_bestLink_41 : decode cX6_bestLink 41 = .ok (.iconst 1, 1) := by decide +kernel
theorem dX6_bestLink_42 : decode cX6_bestLink 42 = .ok (.iastore, 1) := by decide +kernel
theorem dX6_bestLink_43 : decode cX6_bestLink 43 = .ok (.aload_n 0, 1) := by decide +kernel
theorem dX6_bestLink_44 : decode cX6_bestLink 44 = .ok (.invokevirtual 101, 3) := by decide +kernel
theorem dX6_bestLink_47 : decode cX6_bestLink 47 = .ok (.istore 4, 2) := by decide +kernel
theorem dX6_bestLink_49 : decode cX6_bestLink 49 = .ok (.aload_n 0, 1) := by decide +kernel
theorem dX6_bestLink_50 : decode cX6_bestLink 50 = .ok (.getfield 7, 3) := by decide +kernel
theorem dX6_bestLink_53 : decode cX6_bestLink 53 = .ok (.bipush 17, 2) := by decide +kernel
theorem dX6_bestLink_55 : decode cX6_bestLink 55 = .ok (.iload_n 3, 1) := by decide +kernel
theorem dX6_bestLink_56 : decode cX6_bestLink 56 = .ok (.iadd, 1) := by decide +kernel
theorem dX6_bestLink_57 : decode cX6_bestLink 57 = .ok (.iconst 0, 1) := by decide +kernel
theorem dX6_bestLink_58 : decode cX6_bestLink 58 = .ok (.iastore, 1) := by decide +kernel
theorem dX6_bestLink_59 : decode cX6_bestLink 59 = .ok (.iload 4, 2) := by decide +kernel
theorem dX6_bestLink_61 : decode cX6_bestLink 61 = .ok (.iload_n 1, 1) := by decide +kernel
theorem dX6_bestLink_62 : decode cX6_bestLink 62 = .ok (.if_icmp .le 7, 3) := by decide +kernel
theorem dX6_bestLink_65 : decode cX6_bestLink 65 = .ok (.iload_n 3, 1) := by decide +kernel
theorem dX6_bestLink_66 : decode cX6_bestLink 66 = .ok (.goto 4, 3) := by decide +kernel
theorem dX6_bestLink_69 : decode cX6_bestLink 69 = .ok (.iload_n 2, 1) := by decide +kernel
theorem dX6_bestLink_70 : decode cX6_bestLink 70 = .ok (.istore_n 2, 1) := by decide +kernel
theorem dX6_bestLink_71 : decode cX6_bestLink 71 = .ok (.iload 4, 2) := by decide +kernel
theorem dX6_bestLink_73 : decode cX6_bestLink 73 = .ok (.iload_n 1, 1) := by decide +kernel
theorem dX6_bestLink_74 : decode cX6_bestLink 74 = .ok (.if_icmp .le 8, 3) := by decide +kernel
theorem dX6_bestLink_77 : decode cX6_bestLink 77 = .ok (.iload 4, 2) := by decide +kernel
theorem dX6_bestLink_79 : decode cX6_bestLink 79 = .ok (.goto 4, 3) := by decide +kernel
theorem dX6_bestLink_82 : decode cX6_bestLink 82 = .ok (.iload_n 1, 1) := by decide +kernel
theorem dX6_bestLink_83 : decode cX6_bestLink 83 = .ok (.istore_n 1, 1) := by decide +kernel
theorem dX6_bestLink_84 : decode cX6_bestLink 84 = .ok (.iinc 3 1, 3) := by decide +kernel
theorem dX6_bestLink_87 : decode cX6_bestLink 87 = .ok (.goto (-72), 3) := by decide +kernel
theorem dX6_bestLink_90 : decode cX6_bestLink 90 = .ok (.iload_n 2, 1) := by decide +kernel
theorem dX6_bestLink_91 : decode cX6_bestLink 91 = .ok (.ireturn, 1) := by decide +kernel
set_option maxRecDepth 20000 in
theorem ggX6_mean_X6_shaken : GoodIn wsX6_mean wsX6_shaken := goodIn_r _ [7, 2, 8, 9, 10, 11, 12, 13, 14, 15, 16, 17, 18, 19, 20, 21, 22, 23, 24, 25] (by decide +kernel) (by decide +kernel)
set_option maxRecDepth 20000 in
theorem gX6_mean_X6_shaken : GoodIn wsX6_mean (wsV RX6 169 RX6 yX6_shaken wsX6_shaken) := goodIn_app (goodIn_of _ (by decide +kernel)) ggX6_mean_X6_shaken
theorem dX6_mean_0 : decode cX6_mean 0 = .ok (.aload_n 0, 1) := by decide +kernel
theorem dX6_mean_1 : decode cX6_mean 1 = .ok (.iconst 0, 1) := by decide +kernel
theorem dX6_mean_2 : decode cX6_mean 2 = .ok (.putfield 43, 3) := by decide +kernel
theorem dX6_mean_5 : decode cX6_mean 5 = .ok (.aload_n 0, 1) := by decide +kernel
theorem dX6_mean_6 : decode cX6_mean 6 = .ok (.getfield 7, 3) := by decide +kernel
theorem dX6_mean_9 : decode cX6_mean 9 = .ok (.iconst 0, 1) := by decide +kernel
theorem dX6_mean_10 : decode cX6_mean 10 = .ok (.iaload, 1) := by decide +kernel
theorem dX6_mean_11 : decode cX6_mean 11 = .ok (.ifCond .ne 7, 3) := by decide +kernel
theorem dX6_mean_14 : decode cX6_mean 14 = .ok (.dconst 0, 1) := by decide +kernel
theorem dX6_mean_15 : decode cX6_mean 15 = .ok (.goto 16, 3) := by decide +kernel
theorem dX6_mean_18 : decode cX6_mean 18 = .ok (.aload_n 0, 1) := by decide +kernel
theorem dX6_mean_19 : decode cX6_mean 19 = .ok (.invokevirtual 169, 3) := by decide +kernel
theorem dX6_mean_22 : decode cX6_mean 22 = .ok (.i2d, 1) := by decide +kernel
theorem dX6_mean_23 : decode cX6_mean 23 = .ok (.aload_n 0, 1) := by decide +kernel
theorem dX6_mean_24 : decode cX6_mean 24 = .ok (.getfield 7, 3) := by decide +kernel
theorem dX6_mean_27 : decode cX6_mean 27 = .ok (.iconst 0, 1) := by decide +kernel
theorem dX6_mean_28 : decode cX6_mean 28 = .ok (.iaload, 1) := by decide +kernel
theorem dX6_mean_29 : decode cX6_mean 29 = .ok (.i2d, 1) := by decide +kernel
theorem dX6_mean_30 : decode cX6_mean 30 = .ok (.ddiv, 1) := by decide +kernel
theorem dX6_mean_31 : decode cX6_mean 31 = .ok (.dreturn, 1) := by decide +kernel
theorem dJ6_bitCount_0f7a4_0 : decode cJ6_bitCount_0f7a4 0 = .ok (.iload_n 0, 1) := by decide +kernel
theorem dJ6_bitCount_0f7a4_1 : decode cJ6_bitCount_0f7a4 1 = .ok (.iload_n 0, 1) := by decide +kernel
theorem dJ6_bitCount_0f7a4_2 : decode cJ6_bitCount_0f7a4 2 = .ok (.iconst 1, 1) := by decide +kernel
theorem dJ6_bitCount_0f7a4_3 : decode cJ6_bitCount_0f7a4 3 = .ok (.iushr, 1) := by decide +kernel
theorem dJ6_bitCount_0f7a4_4 : decode cJ6_bitCount_0f7a4 4 = .ok (.ldc_w 265, 3) := by decide +kernel
theorem dJ6_bitCount_0f7a4_7 : decode cJ6_bitCount_0f7a4 7 = .ok (.iand, 1) := by decide +kernel
theorem dJ6_bitCount_0f7a4_8 : decode cJ6_bitCount_0f7a4 8 = .ok (.isub, 1) := by decide +kernel
theorem dJ6_bitCount_0f7a4_9 : decode cJ6_bitCount_0f7a4 9 = .ok (.istore_n 0, 1) := by decide +kernel
theorem dJ6_bitCount_0f7a4_10 : decode cJ6_bitCount_0f7a4 10 = .ok (.iload_n 0, 1) := by decide +kernel
theorem dJ6_bitCount_0f7a4_11 : decode cJ6_bitCount_0f7a4 11 = .ok (.ldc_w 266, 3) := by decide +kernel
theorem dJ6_bitCount_0f7a4_14 : decode cJ6_bitCount_0f7a4 14 = .ok (.iand, 1) := by decide +kernel
theorem dJ6_bitCount_0f7a4_15 : decode cJ6_bitCount_0f7a4 15 = .ok (.iload_n 0, 1) := by decide +kernel
theorem dJ6_bitCount_0f7a4_16 : decode cJ6_bitCount_0f7a4 16 = .ok (.iconst 2, 1) := by decide +kernel
theorem dJ6_bitCount_0f7a4_17 : decode cJ6_bitCount_0f7a4 17 = .ok (.iushr, 1) := by decide +kernel
theorem dJ6_bitCount_0f7a4_18 : decode cJ6_bitCount_0f7a4 18 = .ok (.ldc_w 266, 3) := by decide +kernel
theorem dJ6_bitCount_0f7a4_21 : decode cJ6_bitCount_0f7a4 21 = .ok (.iand, 1) := by decide +kernel
theorem dJ6_bitCount_0f7a4_22 : decode cJ6_bitCount_0f7a4 22 = .ok (.iadd, 1) := by decide +kernel
theorem dJ6_bitCount_0f7a4_23 : decode cJ6_bitCount_0f7a4 23 = .ok (.istore_n 0, 1) := by decide +kernel
theorem dJ6_bitCount_0f7a4_24 : decode cJ6_bitCount_0f7a4 24 = .ok (.iload_n 0, 1) := by decide +kernel
theorem dJ6_bitCount_0f7a4_25 : decode cJ6_bitCount_0f7a4 25 = .ok (.iload_n 0, 1) := by decide +kernel
theorem dJ6_bitCount_0f7a4_26 : decode cJ6_bitCount_0f7a4 26 = .ok (.iconst 4, 1) := by decide +kernel
theorem dJ6_bitCount_0f7a4_27 : decode cJ6_bitCount_0f7a4 27 = .ok (.iushr, 1) := by decide +kernel
theorem dJ6_bitCount_0f7a4_28 : decode cJ6_bitCount_0f7a4 28 = .ok (.iadd, 1) := by decide +kernel
theorem dJ6_bitCount_0f7a4_29 : decode cJ6_bitCount_0f7a4 29 = .ok (.ldc_w 267, 3) := by decide +kernel
theorem dJ6_bitCount_0f7a4_32 : decode cJ6_bitCount_0f7a4 32 = .ok (.iand, 1) := by decide +kernel
theorem dJ6_bitCount_0f7a4_33 : decode cJ6_bitCount_0f7a4 33 = .ok (.istore_n 0, 1) := by decide +kernel
theorem dJ6_bitCount_0f7a4_34 : decode cJ6_bitCount_0f7a4 34 = .ok (.iload_n 0, 1) := by decide +kernel
theorem dJ6_bitCount_0f7a4_35 : decode cJ6_bitCount_0f7a4 35 = .ok (.iload_n 0, 1) := by decide +kernel
theorem dJ6_bitCount_0f7a4_36 : decode cJ6_bitCount_0f7a4 36 = .ok (.bipush 8, 2) := by decide +kernel
theorem dJ6_bitCount_0f7a4_38 : decode cJ6_bitCount_0f7a4 38 = .ok (.iushr, 1) := by decide +kernel
theorem dJ6_bitCount_0f7a4_39 : decode cJ6_bitCount_0f7a4 39 = .ok (.iadd, 1) := by decide +kernel
theorem dJ6_bitCount_0f7a4_40 : decode cJ6_bitCount_0f7a4 40 = .ok (.istore_n 0, 1) := by decide +kernel
theorem dJ6_bitCount_0f7a4_41 : decode cJ6_bitCount_0f7a4 41 = .ok (.iload_n 0, 1) := by decide +kernel
theorem dJ6_bitCount_0f7a4_42 : decode cJ6_bitCount_0f7a4 42 = .ok (.iload_n 0, 1) := by decide +kernel
theorem dJ6_bitCount_0f7a4_43 : decode cJ6_bitCount_0f7a4 43 = .ok (.bipush 16, 2) := by decide +kernel
theorem dJ6_bitCount_0f7a4_45 : decode cJ6_bitCount_0f7a4 45 = .ok (.iushr, 1) := by decide +kernel
theorem dJ6_bitCount_0f7a4_46 : decode cJ6_bitCount_0f7a4 46 = .ok (.iadd, 1) := by decide +kernel
theorem dJ6_bitCount_0f7a4_47 : decode cJ6_bitCount_0f7a4 47 = .ok (.istore_n 0, 1) := by decide +kernel
theorem dJ6_bitCount_0f7a4_48 : decode cJ6_bitCount_0f7a4 48 = .ok (.iload_n 0, 1) := by decide +kernel
theorem dJ6_bitCount_0f7a4_49 : decode cJ6_bitCount_0f7a4 49 = .ok (.bipush 63, 2) := by decide +kernel
theorem dJ6_bitCount_0f7a4_51 : decode cJ6_bitCount_0f7a4 51 = .ok (.iand, 1) := by decide +kernel
theorem dJ6_bitCount_0f7a4_52 : decode cJ6_bitCount_0f7a4 52 = .ok (.ireturn, 1) := by decide +kernel
theorem dJ9_max_7cf53_0 : decode cJ9_max_7cf53 0 = .ok (.iload_n 0, 1) := by decide +kernel
theorem dJ9_max_7cf53_1 : decode cJ9_max_7cf53 1 = .ok (.iload_n 1, 1) := by decide +kernel
theorem dJ9_max_7cf53_2 : decode cJ9_max_7cf53 2 = .ok (.if_icmp .lt 7, 3) := by decide +kernel
theorem dJ9_max_7cf53_5 : decode cJ9_max_7cf53 5 = .ok (.iload_n 0, 1) := by decide +kernel
theorem dJ9_max_7cf53_6 : decode cJ9_max_7cf53 6 = .ok (.goto 4, 3) := by decide +kernel
theorem dJ9_max_7cf53_9 : decode cJ9_max_7cf53 9 = .ok (.iload_n 1, 1) := by decide +kernel
theorem dJ9_max_7cf53_10 : decode cJ9_max_7cf53 10 = .ok (.ireturn, 1) := by decide +kernel
theorem dJ7_fill_53178_0 : decode cJ7_fill_53178 0 = .ok (.iconst 0, 1) := by decide +kernel
theorem dJ7_fill_53178_1 : decode cJ7_fill_53178 1 = .ok (.istore_n 2, 1) := by decide +kernel
theorem dJ7_fill_53178_2 : decode cJ7_fill_53178 2 = .ok (.aload_n 0, 1) := by decide +kernel
theorem dJ7_fill_53178_3 : decode cJ7_fill_53178 3 = .ok (.arraylength, 1) := by decide +kernel
theorem dJ7_fill_53178_4 : decode cJ7_fill_53178 4 = .ok (.istore_n 3, 1) := by decide +kernel
theorem dJ7_fill_53178_5 : decode cJ7_fill_53178 5 = .ok (.iload_n 2, 1) := by decide +kernel
theorem dJ7_fill_53178_6 : decode cJ7_fill_53178 6 = .ok (.iload_n 3, 1) := by decide +kernel
theorem dJ7_fill_53178_7 : decode cJ7_fill_53178 7 = .ok (.if_icmp .ge 13, 3) := by decide +kernel
theorem dJ7_fill_53178_10 : decode cJ7_fill_53178 10 = .ok (.aload_n 0, 1) := by decide +kernel
theorem dJ7_fill_53178_11 : decode cJ7_fill_53178 11 = .ok (.iload_n 2, 1) := by decide +kernel
theorem dJ7_fill_53178_12 : decode cJ7_fill_53178 12 = .ok (.iload_n 1, 1) := by decide +kernel
theorem dJ7_fill_53178_13 : decode cJ7_fill_53178 13 = .ok (.iastore, 1) := by decide +kernel
theorem dJ7_fill_53178_14 : decode cJ7_fill_53178 14 = .ok (.iinc 2 1, 3) := by decide +kernel
theorem dJ7_fill_53178_17 : decode cJ7_fill_53178 17 = .ok (.goto (-12), 3) := by decide +kernel
theorem dJ7_fill_53178_20 : decode cJ7_fill_53178 20 = .ok (.return_, 1) := by decide +kernel
set_option maxRecDepth 20000 in
theorem ggL_law_X5_init : GoodIn wsL_law wsX5_init := goodIn_r _ [8, 9, 10, 11, 12, 13, 14, 15, 16, 17, 18, 19, 20, 21, 22, 23, 24, 25, 26, 27, 28, 29, 30, 31, 32, 33, 34, 35, 36, 37, 38, 39, 40, 41, 42, 43, 44, 45, 46, 47, 48, 49, 50, 51, 52, 53, 54, 55, 56, 57, 58, 59, 60, 61, 737, 711, 712, 713, 714, 715, 716, 717, 718, 738, 739, 740, 741, 742, 743, 744, 745, 746, 747, 748, 749, 750, 751, 752] (by decide +kernel) (by decide +kernel)
set_option maxRecDepth 20000 in
theorem gL_law_X5_init : GoodIn wsL_law (wsX5_init) := ggL_law_X5_init
set_option maxRecDepth 20000 in
theorem ggL_law_X6_init : GoodIn wsL_law wsX6_init := goodIn_r _ [64, 65, 10, 11, 39, 66, 67, 68, 69, 70, 71, 72, 73, 74, 75, 76, 77, 719, 720, 721, 722, 723, 724, 725, 726, 727, 728, 729, 730, 731, 732, 733, 734, 735, 736] (by decide +kernel) (by decide +kernel)
set_option maxRecDepth 20000 in
theorem gL_law_X6_init : GoodIn wsL_law (wsX6_init) := ggL_law_X6_init
set_option maxRecDepth 20000 in
theorem ggL_law_X5_wish : GoodIn wsL_law wsX5_wish := goodIn_r _ [81, 15, 21, 82, 83, 2, 84, 85, 86, 87, 88, 89, 90, 14, 91, 40, 92, 93, 94, 95, 96, 20, 97, 98, 99, 44, 100, 101, 102, 103, 104, 105, 106, 107, 108, 109, 110, 111, 112, 113, 114, 115, 116, 117, 118, 119, 120, 121, 122, 123, 124, 125, 126, 711, 712, 713, 714, 715, 716, 717, 718, 737, 738, 739, 740] (by decide +kernel) (by decide +kernel)
set_option maxRecDepth 20000 in
theorem gL_law_X5_wish : GoodIn wsL_law (wsV RL 13 RX5 yX5_wish wsX5_wish) := goodIn_app (goodIn_of _ (by decide +kernel)) ggL_law_X5_wish
set_option maxRecDepth 20000 in
theorem ggL_law_X6_wish : GoodIn wsL_law wsX6_wish := goodIn_r _ [130, 77, 66, 131, 132, 5, 133, 134, 135, 136, 137, 138, 139, 140, 141, 142, 143, 144, 145, 146, 147, 148, 68, 149, 150, 151, 152, 719, 720, 721, 722, 723, 724, 725, 726, 727, 728, 729, 730, 731, 732, 733, 734, 735, 736] (by decide +kernel) (by decide +kernel)
set_option maxRecDepth 20000 in
theorem gL_law_X6_wish : GoodIn wsL_law (wsV RL 17 RX6 yX6_wish wsX6_wish) := goodIn_app (goodIn_of _ (by decide +kernel)) ggL_law_X6_wish
set_option maxRecDepth 20000 in
theorem ggL_law_X5_withdraw : GoodIn wsL_law wsX5_withdraw := goodIn_r _ [156, 15, 21, 82, 83, 2, 84, 85, 86, 87, 88, 89, 90, 14, 91, 40, 92, 93, 94, 95, 96, 20, 97, 98, 99, 44, 100, 101, 102, 103, 104, 105, 106, 107, 157, 158, 159, 160, 116, 117, 118, 119, 120, 121, 122, 123, 124, 125, 126, 711, 712, 713, 714, 715, 716, 717, 718, 737, 738, 739, 740] (by decide +kernel) (by decide +kernel)
set_option maxRecDepth 20000 in
theorem gL_law_X5_withdraw : GoodIn wsL_law (wsV RL 18 RX5 yX5_withdraw wsX5_withdraw) := goodIn_app (goodIn_of _ (by decide +kernel)) ggL_law_X5_withdraw
set_option maxRecDepth 20000 in
theorem ggL_law_X6_withdraw : GoodIn wsL_law wsX6_withdraw := goodIn_r _ [164, 77, 66, 131, 132, 5, 133, 134, 135, 136, 137, 138, 139, 140, 141, 142, 143, 144, 145, 146, 147, 148, 68, 149, 150, 151, 152, 719, 720, 721, 722, 723, 724, 725, 726, 727, 728, 729, 730, 731, 732, 733, 734, 735, 736] (by decide +kernel) (by decide +kernel)
set_option maxRecDepth 20000 in
theorem gL_law_X6_withdraw : GoodIn wsL_law (wsV RL 21 RX6 yX6_withdraw wsX6_withdraw) := goodIn_app (goodIn_of _ (by decide +kernel)) ggL_law_X6_withdraw
set_option maxRecDepth 20000 in
theorem ggL_law_X5_quarrel : GoodIn wsL_law wsX5_quarrel := goodIn_r _ [168, 21, 15, 82, 83, 2, 84, 85, 86, 87, 94, 95, 96, 20, 97, 98, 99, 44, 100, 101, 102, 103, 104, 105, 106, 107, 169, 170, 171, 14, 172, 40, 173, 174, 175, 176, 711, 712, 713, 714, 715, 716, 717, 718, 738, 739, 740, 737] (by decide +kernel) (by decide +kernel)
set_option maxRecDepth 20000 in
theorem gL_law_X5_quarrel : GoodIn wsL_law (wsV RL 22 RX5 yX5_quarrel wsX5_quarrel) := goodIn_app (goodIn_of _ (by decide +kernel)) ggL_law_X5_quarrel
set_option maxRecDepth 20000 in
theorem ggL_law_X6_quarrel : GoodIn wsL_law wsX6_quarrel := goodIn_r _ [180, 77, 66, 131, 132, 5, 133, 134, 135, 136, 137, 138, 139, 144, 145, 146, 147, 148, 68, 719, 720, 721, 722, 723, 724, 725, 726, 727, 728, 729, 730, 731, 732, 733, 734, 735, 736] (by decide +kernel) (by decide +kernel)
set_option maxRecDepth 20000 in
theorem gL_law_X6_quarrel : GoodIn wsL_law (wsV RL 26 RX6 yX6_quarrel wsX6_quarrel) := goodIn_app (goodIn_of _ (by decide +kernel)) ggL_law_X6_quarrel
set_option maxRecDepth 20000 in
theorem ggL_law_X5_reconcile : GoodIn wsL_law wsX5_reconcile := goodIn_r _ [184, 15, 21, 82, 83, 2, 84, 85, 86, 87, 169, 170, 171, 14, 172, 40, 94, 95, 96, 20, 97, 98, 99, 44, 100, 101, 102, 103, 104, 105, 106, 107, 173, 174, 175, 176, 711, 712, 713, 714, 715, 716, 717, 718, 737, 738, 739, 740] (by decide +kernel) (by decide +kernel)
set_option maxRecDepth 20000 in
theorem gL_law_X5_reconcile : GoodIn wsL_law (wsV RL 27 RX5 yX5_reconcile wsX5_reconcile) := goodIn_app (goodIn_of _ (by decide +kernel)) ggL_law_X5_reconcile
set_option maxRecDepth 20000 in
theorem ggL_law_X6_reconcile : GoodIn wsL_law wsX6_reconcile := goodIn_r _ [188, 77, 66, 131, 132, 5, 133, 134, 135, 136, 137, 138, 139, 144, 145, 146, 147, 148, 68, 719, 720, 721, 722, 723, 724, 725, 726, 727, 728, 729, 730, 731, 732, 733, 734, 735, 736] (by decide +kernel) (by decide +kernel)
set_option maxRecDepth 20000 in
theorem gL_law_X6_reconcile : GoodIn wsL_law (wsV RL 30 RX6 yX6_reconcile wsX6_reconcile) := goodIn_app (goodIn_of _ (by decide +kernel)) ggL_law_X6_reconcile
set_option maxRecDepth 20000 in
theorem ggL_law_X5_link : GoodIn wsL_law wsX5_link := goodIn_r _ [192, 21, 15, 193, 194, 2, 195, 94, 95, 96, 20, 97, 98, 99, 44, 100, 101, 102, 103, 104, 105, 106, 107, 196, 197, 198, 14, 199, 40, 92, 93, 200, 201, 202, 203, 204, 205, 206, 711, 712, 713, 714, 715, 716, 717, 718, 738, 739, 740, 737] (by decide +kernel) (by decide +kernel)
set_option maxRecDepth 20000 in
theorem gL_law_X5_link : GoodIn wsL_law (wsV RL 31 RX5 yX5_link wsX5_link) := goodIn_app (goodIn_of _ (by decide +kernel)) ggL_law_X5_link
set_option maxRecDepth 20000 in
theorem ggL_law_X6_link : GoodIn wsL_law wsX6_link := goodIn_r _ [210, 77, 66, 211, 212, 5, 213, 137, 138, 139, 144, 145, 146, 147, 148, 68, 719, 720, 721, 722, 723, 724, 725, 726, 727, 728, 729, 730, 731, 732, 733, 734, 735, 736] (by decide +kernel) (by decide +kernel)
set_option maxRecDepth 20000 in
theorem gL_law_X6_link : GoodIn wsL_law (wsV RL 35 RX6 yX6_link wsX6_link) := goodIn_app (goodIn_of _ (by decide +kernel)) ggL_law_X6_link
set_option maxRecDepth 20000 in
theorem ggL_law_X5_move : GoodIn wsL_law wsX5_move := goodIn_r _ [217, 21, 15, 85, 86, 2, 87, 193, 194, 195, 94, 95, 96, 20, 97, 98, 99, 44, 100, 101, 102, 103, 104, 105, 106, 107, 218, 219, 220, 14, 221, 40, 222, 223, 224, 225, 711, 712, 713, 714, 715, 716, 717, 718, 738, 739, 740, 737] (by decide +kernel) (by decide +kernel)
set_option maxRecDepth 20000 in
theorem gL_law_X5_move : GoodIn wsL_law (wsV RL 36 RX5 yX5_move wsX5_move) := goodIn_app (goodIn_of _ (by decide +kernel)) ggL_law_X5_move
set_option maxRecDepth 20000 in
theorem ggL_law_X6_move : GoodIn wsL_law wsX6_move := goodIn_r _ [229, 77, 66, 134, 135, 5, 136, 137, 138, 139, 211, 212, 213, 144, 145, 146, 147, 148, 68, 719, 720, 721, 722, 723, 724, 725, 726, 727, 728, 729, 730, 731, 732, 733, 734, 735, 736] (by decide +kernel) (by decide +kernel)
set_option maxRecDepth 20000 in
theorem gL_law_X6_move : GoodIn wsL_law (wsV RL 40 RX6 yX6_move wsX6_move) := goodIn_app (goodIn_of _ (by decide +kernel)) ggL_law_X6_move
set_option maxRecDepth 20000 in
theorem ggL_law_X5_round : GoodIn wsL_law wsX5_round := goodIn_r _ [233, 21, 15, 94, 95, 96, 20, 97, 98, 99, 44, 100, 101, 102, 103, 104, 105, 106, 107, 234, 235, 236, 2, 237, 29, 238, 239, 240, 28, 241, 55, 54, 242, 243, 244, 245, 56, 246, 247, 248, 249, 250, 251, 252, 14, 253, 254, 89, 90, 91, 40, 92, 93, 255, 256, 257, 258, 259, 170, 171, 172, 260, 261, 262, 263, 264, 265, 266, 267, 57, 268, 269, 270, 271, 272, 273, 274, 275, 276, 86, 87, 277, 278, 279, 280, 281, 282, 283, 284, 285, 286, 287, 288, 85, 289, 290, 291, 292, 293, 158, 159, 160, 294, 295, 296, 297, 298, 299, 300, 301, 201, 202, 711, 712, 713, 714, 715, 716, 717, 718, 738, 739, 740, 737, 747, 748, 749, 750, 751] (by decide +kernel) (by decide +kernel)
set_option maxRecDepth 20000 in
theorem gL_law_X5_round : GoodIn wsL_law (wsV RL 41 RX5 yX5_round wsX5_round) := goodIn_app (goodIn_of _ (by decide +kernel)) ggL_law_X5_round
set_option maxRecDepth 20000 in
theorem ggL_law_X6_round : GoodIn wsL_law wsX6_round := goodIn_r _ [305, 77, 144, 145, 146, 5, 147, 148, 68, 66, 306, 307, 308, 309, 73, 310, 311, 312, 313, 314, 315, 316, 317, 71, 318, 319, 320, 321, 140, 141, 142, 143, 322, 323, 324, 325, 326, 327, 328, 329, 330, 331, 332, 333, 72, 334, 335, 336, 337, 338, 339, 340, 341, 342, 343, 344, 345, 719, 720, 721, 722, 723, 724, 725, 726, 727, 728, 729, 730, 731, 732, 733, 734, 735, 736] (by decide +kernel) (by decide +kernel)
set_option maxRecDepth 20000 in
theorem gL_law_X6_round : GoodIn wsL_law (wsV RL 45 RX6 yX6_round wsX6_round) := goodIn_app (goodIn_of _ (by decide +kernel)) ggL_law_X6_round
set_option maxRecDepth 20000 in
theorem ggL_law_X5_append : GoodIn wsL_law wsX5_append := goodIn_r _ [349, 25, 350, 351, 352, 24, 353, 354, 355, 356, 357, 358, 49, 359, 360, 361, 362, 363, 711, 712, 713, 714, 715, 716, 717, 718, 741, 742, 743, 744, 745, 746] (by decide +kernel) (by decide +kernel)
set_option maxRecDepth 20000 in
theorem gL_law_X5_append : GoodIn wsL_law (wsV RL 46 RX5 yX5_append wsX5_append) := goodIn_app (goodIn_of _ (by decide +kernel)) ggL_law_X5_append
set_option maxRecDepth 20000 in
theorem ggL_law_X6_append : GoodIn wsL_law wsX6_append := goodIn_r _ [367, 77, 368, 70, 137, 138, 5, 139, 719, 720, 721, 722, 723, 724, 725, 726, 727, 728, 729, 730, 731, 732, 733, 734, 735, 736] (by decide +kernel) (by decide +kernel)
set_option maxRecDepth 20000 in
theorem gL_law_X6_append : GoodIn wsL_law (wsV RL 50 RX6 yX6_append wsX6_append) := goodIn_app (goodIn_of _ (by decide +kernel)) ggL_law_X6_append
set_option maxRecDepth 20000 in
theorem ggL_law_X5_clearText : GoodIn wsL_law wsX5_clearText := goodIn_r _ [372, 25, 360, 361, 362, 24, 363, 354, 373, 374, 375, 376, 711, 712, 713, 714, 715, 716, 717, 718, 741, 742, 743, 744, 745, 746] (by decide +kernel) (by decide +kernel)
set_option maxRecDepth 20000 in
theorem gL_law_X5_clearText : GoodIn wsL_law (wsV RL 51 RX5 yX5_clearText wsX5_clearText) := goodIn_app (goodIn_of _ (by decide +kernel)) ggL_law_X5_clearText
set_option maxRecDepth 20000 in
theorem ggL_law_X6_clearText : GoodIn wsL_law wsX6_clearText := goodIn_r _ [380, 77, 368, 719, 720, 721, 722, 723, 724, 725, 726, 727, 728, 729, 730, 731, 732, 733, 734, 735, 736] (by decide +kernel) (by decide +kernel)
set_option maxRecDepth 20000 in
theorem gL_law_X6_clearText : GoodIn wsL_law (wsV RL 54 RX6 yX6_clearText wsX6_clearText) := goodIn_app (goodIn_of _ (by decide +kernel)) ggL_law_X6_clearText
set_option maxRecDepth 20000 in
theorem ggL_law_X5_fault : GoodIn wsL_law wsX5_fault := goodIn_r _ [384, 25, 385, 386, 387, 24, 388, 50, 354, 49, 389, 390, 247, 248, 249, 391, 392, 393, 394, 395, 396, 397, 398, 399, 400, 401, 402, 403, 404, 405, 406, 407, 408, 92, 2, 93, 711, 712, 713, 714, 715, 716, 717, 718, 741, 742, 743, 744, 745, 746] (by decide +kernel) (by decide +kernel)
set_option maxRecDepth 20000 in
theorem gL_law_X5_fault : GoodIn wsL_law (wsV RL 55 RX5 yX5_fault wsX5_fault) := goodIn_app (goodIn_of _ (by decide +kernel)) ggL_law_X5_fault
set_option maxRecDepth 20000 in
theorem ggL_law_X6_fault : GoodIn wsL_law wsX6_fault := goodIn_r _ [412, 77, 413, 414, 415, 5, 416, 417, 418, 419, 368, 420, 421, 422, 423, 76, 424, 425, 426, 427, 428, 429, 430, 431, 70, 137, 138, 139, 719, 720, 721, 722, 723, 724, 725, 726, 727, 728, 729, 730, 731, 732, 733, 734, 735, 736] (by decide +kernel) (by decide +kernel)
set_option maxRecDepth 20000 in
theorem gL_law_X6_fault : GoodIn wsL_law (wsV RL 58 RX6 yX6_fault wsX6_fault) := goodIn_app (goodIn_of _ (by decide +kernel)) ggL_law_X6_fault
set_option maxRecDepth 20000 in
theorem ggL_law_X5_read : GoodIn wsL_law wsX5_read := goodIn_r _ [435, 25, 21, 15, 385, 386, 387, 24, 388, 50, 354, 49, 389, 390, 247, 248, 249, 391, 392, 393, 394, 395, 396, 397, 398, 399, 400, 401, 402, 403, 404, 405, 406, 407, 408, 92, 2, 93, 94, 95, 96, 20, 97, 98, 99, 44, 100, 101, 102, 103, 104, 105, 106, 107, 116, 117, 118, 14, 119, 40, 120, 121, 122, 123, 124, 125, 126, 436, 437, 438, 439, 440, 113, 114, 115, 711, 712, 713, 714, 715, 716, 717, 718, 741, 742, 743, 744, 745, 746, 738, 739, 740, 737] (by decide +kernel) (by decide +kernel)
set_option maxRecDepth 20000 in
theorem gL_law_X5_read : GoodIn wsL_law (wsV RL 59 RX5 yX5_read wsX5_read) := goodIn_app (goodIn_of _ (by decide +kernel)) ggL_law_X5_read
set_option maxRecDepth 20000 in
theorem ggL_law_X6_read : GoodIn wsL_law wsX6_read := goodIn_r _ [444, 77, 418, 76, 413, 414, 415, 5, 416, 417, 419, 368, 420, 421, 422, 423, 424, 425, 426, 427, 428, 429, 430, 431, 70, 137, 138, 139, 144, 145, 146, 147, 148, 68, 66, 445, 446, 447, 448, 719, 720, 721, 722, 723, 724, 725, 726, 727, 728, 729, 730, 731, 732, 733, 734, 735, 736] (by decide +kernel) (by decide +kernel)
set_option maxRecDepth 20000 in
theorem gL_law_X6_read : GoodIn wsL_law (wsV RL 62 RX6 yX6_read wsX6_read) := goodIn_app (goodIn_of _ (by decide +kernel)) ggL_law_X6_read
set_option maxRecDepth 20000 in
theorem ggL_law_X5_undo : GoodIn wsL_law wsX5_undo := goodIn_r _ [452, 21, 15, 453, 454, 455, 20, 456, 98, 457, 458, 459, 460, 44, 100, 101, 102, 103, 104, 105, 106, 107, 99, 711, 712, 713, 714, 715, 716, 717, 718, 738, 739, 740, 737] (by decide +kernel) (by decide +kernel)
set_option maxRecDepth 20000 in
theorem gL_law_X5_undo : GoodIn wsL_law (wsV RL 63 RX5 yX5_undo wsX5_undo) := goodIn_app (goodIn_of _ (by decide +kernel)) ggL_law_X5_undo
set_option maxRecDepth 20000 in
theorem ggL_law_X6_undo : GoodIn wsL_law wsX6_undo := goodIn_r _ [464, 77, 148, 66, 68, 719, 720, 721, 722, 723, 724, 725, 726, 727, 728, 729, 730, 731, 732, 733, 734, 735, 736] (by decide +kernel) (by decide +kernel)
set_option maxRecDepth 20000 in
theorem gL_law_X6_undo : GoodIn wsL_law (wsV RL 66 RX6 yX6_undo wsX6_undo) := goodIn_app (goodIn_of _ (by decide +kernel)) ggL_law_X6_undo
set_option maxRecDepth 20000 in
theorem ggL_law_X5_save : GoodIn wsL_law wsX5_save := goodIn_r _ [468, 17, 15, 34, 469, 470, 471, 14, 472, 40, 473, 101, 102, 103, 116, 117, 118, 119, 120, 121, 122, 123, 124, 125, 126, 711, 712, 713, 714, 715, 716, 717, 718, 737] (by decide +kernel) (by decide +kernel)
set_option maxRecDepth 20000 in
theorem gL_law_X5_save : GoodIn wsL_law (wsV RL 67 RX5 yX5_save wsX5_save) := goodIn_app (goodIn_of _ (by decide +kernel)) ggL_law_X5_save
set_option maxRecDepth 20000 in
theorem ggL_law_X6_save : GoodIn wsL_law wsX6_save := goodIn_r _ [477, 77, 69, 66, 478, 149, 150, 151, 5, 152, 719, 720, 721, 722, 723, 724, 725, 726, 727, 728, 729, 730, 731, 732, 733, 734, 735, 736] (by decide +kernel) (by decide +kernel)
set_option maxRecDepth 20000 in
theorem gL_law_X6_save : GoodIn wsL_law (wsV RL 70 RX6 yX6_save wsX6_save) := goodIn_app (goodIn_of _ (by decide +kernel)) ggL_law_X6_save
set_option maxRecDepth 20000 in
theorem ggL_law_X5_restore : GoodIn wsL_law wsX5_restore := goodIn_r _ [482, 34, 21, 15, 17, 94, 95, 96, 20, 97, 98, 99, 44, 100, 101, 102, 103, 104, 105, 106, 107, 469, 470, 471, 14, 472, 40, 473, 116, 117, 118, 119, 120, 121, 122, 123, 124, 125, 126, 711, 712, 713, 714, 715, 716, 717, 718, 738, 739, 740, 737] (by decide +kernel) (by decide +kernel)
set_option maxRecDepth 20000 in
theorem gL_law_X5_restore : GoodIn wsL_law (wsV RL 71 RX5 yX5_restore wsX5_restore) := goodIn_app (goodIn_of _ (by decide +kernel)) ggL_law_X5_restore
set_option maxRecDepth 20000 in
theorem ggL_law_X6_restore : GoodIn wsL_law wsX6_restore := goodIn_r _ [486, 77, 478, 66, 69, 144, 145, 146, 5, 147, 148, 68, 149, 150, 151, 152, 719, 720, 721, 722, 723, 724, 725, 726, 727, 728, 729, 730, 731, 732, 733, 734, 735, 736] (by decide +kernel) (by decide +kernel)
set_option maxRecDepth 20000 in
theorem gL_law_X6_restore : GoodIn wsL_law (wsV RL 74 RX6 yX6_restore wsX6_restore) := goodIn_app (goodIn_of _ (by decide +kernel)) ggL_law_X6_restore
set_option maxRecDepth 20000 in
theorem ggL_law_X5_person : GoodIn wsL_law wsX5_person := goodIn_r _ [490, 15, 85, 86, 2, 87, 218, 219, 220, 14, 221, 40, 491, 492, 493, 494, 495, 496, 497, 498, 254, 89, 90, 91, 92, 93, 201, 202, 499, 251, 252, 253, 255, 256, 257, 258, 259, 170, 171, 172, 260, 261, 262, 263, 500, 501, 502, 503, 504, 505, 506, 507, 711, 712, 713, 714, 715, 716, 717, 718, 737] (by decide +kernel) (by decide +kernel)
set_option maxRecDepth 20000 in
theorem gL_law_X5_person : GoodIn wsL_law (wsV RL 75 RX5 yX5_person wsX5_person) := goodIn_app (goodIn_of _ (by decide +kernel)) ggL_law_X5_person
set_option maxRecDepth 20000 in
theorem ggL_law_X6_person : GoodIn wsL_law wsX6_person := goodIn_r _ [511, 77, 66, 134, 135, 5, 136, 137, 138, 139, 512, 513, 514, 515, 318, 319, 320, 321, 140, 141, 142, 143, 322, 323, 324, 325, 326, 327, 328, 329, 719, 720, 721, 722, 723, 724, 725, 726, 727, 728, 729, 730, 731, 732, 733, 734, 735, 736] (by decide +kernel) (by decide +kernel)
set_option maxRecDepth 20000 in
theorem gL_law_X6_person : GoodIn wsL_law (wsV RL 78 RX6 yX6_person wsX6_person) := goodIn_app (goodIn_of _ (by decide +kernel)) ggL_law_X6_person
set_option maxRecDepth 20000 in
theorem ggL_law_X5_pair : GoodIn wsL_law wsX5_pair := goodIn_r _ [519, 15, 82, 83, 2, 84, 85, 86, 87, 88, 89, 90, 14, 91, 40, 92, 93, 200, 201, 202, 169, 170, 171, 172, 520, 501, 502, 503, 521, 522, 523, 524, 29, 525, 261, 262, 263, 238, 239, 240, 28, 241, 55, 54, 242, 243, 244, 245, 56, 246, 247, 248, 249, 250, 251, 252, 253, 254, 255, 256, 257, 258, 259, 260, 264, 265, 266, 267, 57, 268, 269, 270, 271, 272, 273, 274, 275, 276, 277, 278, 279, 280, 281, 282, 283, 284, 285, 286, 287, 288, 711, 712, 713, 714, 715, 716, 717, 718, 737, 747, 748, 749, 750, 751] (by decide +kernel) (by decide +kernel)
set_option maxRecDepth 20000 in
theorem gL_law_X5_pair : GoodIn wsL_law (wsV RL 79 RX5 yX5_pair wsX5_pair) := goodIn_app (goodIn_of _ (by decide +kernel)) ggL_law_X5_pair
set_option maxRecDepth 20000 in
theorem ggL_law_X6_pair : GoodIn wsL_law wsX6_pair := goodIn_r _ [529, 77, 66, 131, 132, 5, 133, 134, 135, 136, 137, 138, 139, 530, 531, 532, 533, 73, 140, 141, 142, 143, 326, 327, 328, 329, 310, 311, 312, 313, 314, 315, 316, 317, 71, 318, 319, 320, 321, 322, 323, 324, 325, 330, 331, 332, 333, 72, 334, 335, 336, 337, 338, 339, 340, 341, 342, 343, 344, 345, 719, 720, 721, 722, 723, 724, 725, 726, 727, 728, 729, 730, 731, 732, 733, 734, 735, 736] (by decide +kernel) (by decide +kernel)
set_option maxRecDepth 20000 in
theorem gL_law_X6_pair : GoodIn wsL_law (wsV RL 82 RX6 yX6_pair wsX6_pair) := goodIn_app (goodIn_of _ (by decide +kernel)) ggL_law_X6_pair
set_option maxRecDepth 20000 in
theorem ggL_law_X5_isLinked : GoodIn wsL_law wsX5_isLinked := goodIn_r _ [537, 15, 193, 194, 2, 195, 196, 197, 198, 14, 199, 40, 92, 93, 200, 201, 202, 711, 712, 713, 714, 715, 716, 717, 718, 737] (by decide +kernel) (by decide +kernel)
set_option maxRecDepth 20000 in
theorem gL_law_X5_isLinked : GoodIn wsL_law (wsV RL 83 RX5 yX5_isLinked wsX5_isLinked) := goodIn_app (goodIn_of _ (by decide +kernel)) ggL_law_X5_isLinked
set_option maxRecDepth 20000 in
theorem ggL_law_X6_isLinked : GoodIn wsL_law wsX6_isLinked := goodIn_r _ [541, 77, 66, 211, 212, 5, 213, 137, 138, 139, 719, 720, 721, 722, 723, 724, 725, 726, 727, 728, 729, 730, 731, 732, 733, 734, 735, 736] (by decide +kernel) (by decide +kernel)
set_option maxRecDepth 20000 in
theorem gL_law_X6_isLinked : GoodIn wsL_law (wsV RL 86 RX6 yX6_isLinked wsX6_isLinked) := goodIn_app (goodIn_of _ (by decide +kernel)) ggL_law_X6_isLinked
set_option maxRecDepth 20000 in
theorem ggL_law_X5_partner : GoodIn wsL_law wsX5_partner := goodIn_r _ [545, 29, 15, 85, 86, 2, 87, 238, 239, 240, 28, 241, 55, 54, 242, 243, 244, 245, 56, 246, 247, 248, 249, 250, 251, 252, 14, 253, 254, 89, 90, 91, 40, 92, 93, 255, 256, 257, 258, 259, 170, 171, 172, 260, 261, 262, 263, 264, 265, 266, 267, 57, 268, 269, 270, 271, 272, 273, 274, 275, 276, 277, 278, 279, 280, 281, 282, 283, 284, 285, 286, 287, 288, 711, 712, 713, 714, 715, 716, 717, 718, 747, 748, 749, 750, 751, 737] (by decide +kernel) (by decide +kernel)
set_option maxRecDepth 20000 in
theorem gL_law_X5_partner : GoodIn wsL_law (wsV RL 87 RX5 yX5_partner wsX5_partner) := goodIn_app (goodIn_of _ (by decide +kernel)) ggL_law_X5_partner
set_option maxRecDepth 20000 in
theorem ggL_law_X6_partner : GoodIn wsL_law wsX6_partner := goodIn_r _ [549, 77, 73, 134, 135, 5, 136, 137, 138, 139, 310, 311, 312, 313, 314, 315, 316, 317, 71, 318, 319, 320, 321, 140, 141, 142, 143, 66, 322, 323, 324, 325, 326, 327, 328, 329, 330, 331, 332, 333, 72, 334, 335, 336, 337, 338, 339, 340, 341, 342, 343, 344, 345, 719, 720, 721, 722, 723, 724, 725, 726, 727, 728, 729, 730, 731, 732, 733, 734, 735, 736] (by decide +kernel) (by decide +kernel)
set_option maxRecDepth 20000 in
theorem gL_law_X6_partner : GoodIn wsL_law (wsV RL 91 RX6 yX6_partner wsX6_partner) := goodIn_app (goodIn_of _ (by decide +kernel)) ggL_law_X6_partner
set_option maxRecDepth 20000 in
theorem ggL_law_X5_hindered : GoodIn wsL_law wsX5_hindered := goodIn_r _ [553, 29, 15, 554, 243, 244, 28, 245, 54, 55, 56, 246, 247, 248, 249, 250, 251, 252, 14, 253, 254, 89, 90, 91, 40, 92, 2, 93, 255, 256, 257, 258, 259, 170, 171, 172, 260, 261, 262, 263, 264, 265, 266, 267, 57, 268, 269, 270, 271, 272, 273, 274, 275, 276, 86, 87, 277, 278, 279, 280, 555, 556, 557, 558, 711, 712, 713, 714, 715, 716, 717, 718, 747, 748, 749, 750, 751, 737] (by decide +kernel) (by decide +kernel)
set_option maxRecDepth 20000 in
theorem gL_law_X5_hindered : GoodIn wsL_law (wsV RL 92 RX5 yX5_hindered wsX5_hindered) := goodIn_app (goodIn_of _ (by decide +kernel)) ggL_law_X5_hindered
set_option maxRecDepth 20000 in
theorem ggL_law_X6_hindered : GoodIn wsL_law wsX6_hindered := goodIn_r _ [562, 77, 71, 310, 311, 312, 5, 313, 73, 314, 315, 316, 317, 318, 319, 320, 321, 140, 141, 142, 143, 66, 322, 323, 324, 325, 326, 327, 328, 329, 330, 331, 332, 333, 72, 334, 335, 336, 337, 338, 339, 340, 341, 342, 343, 344, 345, 719, 720, 721, 722, 723, 724, 725, 726, 727, 728, 729, 730, 731, 732, 733, 734, 735, 736] (by decide +kernel) (by decide +kernel)
set_option maxRecDepth 20000 in
theorem gL_law_X6_hindered : GoodIn wsL_law (wsV RL 95 RX6 yX6_hindered wsX6_hindered) := goodIn_app (goodIn_of _ (by decide +kernel)) ggL_law_X6_hindered
set_option maxRecDepth 20000 in
theorem ggL_law_X5_planned : GoodIn wsL_law wsX5_planned := goodIn_r _ [566, 33, 15, 82, 83, 2, 84, 85, 86, 87, 567, 568, 569, 32, 570, 61, 571, 247, 248, 249, 572, 251, 252, 14, 253, 254, 89, 90, 91, 40, 92, 93, 255, 256, 257, 258, 259, 170, 171, 172, 260, 261, 262, 263, 573, 574, 575, 576, 577, 578, 579, 580, 581, 582, 583, 584, 585, 586, 587, 588, 589, 590, 591, 592, 593, 594, 595, 596, 597, 598, 599, 600, 601, 711, 712, 713, 714, 715, 716, 717, 718, 752, 737] (by decide +kernel) (by decide +kernel)
set_option maxRecDepth 20000 in
theorem gL_law_X5_planned : GoodIn wsL_law (wsV RL 96 RX5 yX5_planned wsX5_planned) := goodIn_app (goodIn_of _ (by decide +kernel)) ggL_law_X5_planned
set_option maxRecDepth 20000 in
theorem ggL_law_X6_planned : GoodIn wsL_law wsX6_planned := goodIn_r _ [605, 77, 74, 131, 132, 5, 133, 134, 135, 136, 137, 138, 139, 606, 607, 608, 609, 318, 319, 320, 321, 140, 141, 142, 143, 66, 322, 323, 324, 325, 326, 327, 328, 329, 610, 611, 612, 613, 614, 615, 616, 617, 618, 619, 620, 621, 75, 719, 720, 721, 722, 723, 724, 725, 726, 727, 728, 729, 730, 731, 732, 733, 734, 735, 736] (by decide +kernel) (by decide +kernel)
set_option maxRecDepth 20000 in
theorem gL_law_X6_planned : GoodIn wsL_law (wsV RL 99 RX6 yX6_planned wsX6_planned) := goodIn_app (goodIn_of _ (by decide +kernel)) ggL_law_X6_planned
set_option maxRecDepth 20000 in
theorem ggL_law_X5_count : GoodIn wsL_law wsX5_count := goodIn_r _ [625, 15, 21, 25, 116, 117, 118, 14, 119, 40, 120, 121, 122, 123, 124, 125, 126, 626, 627, 628, 629, 630, 492, 493, 494, 495, 496, 497, 498, 254, 89, 90, 91, 92, 2, 93, 201, 202, 499, 251, 252, 253, 255, 256, 257, 258, 259, 170, 171, 172, 260, 261, 262, 263, 500, 501, 502, 503, 631, 632, 633, 634, 635, 636, 637, 638, 639, 640, 641, 642, 29, 554, 243, 244, 28, 245, 54, 55, 56, 246, 247, 248, 249, 250, 264, 265, 266, 267, 57, 268, 269, 270, 271, 272, 273, 274, 275, 276, 86, 87, 277, 278, 279, 280, 298, 299, 300, 301, 643, 644, 645, 646, 647, 648, 649, 650, 491, 453, 454, 455, 20, 456, 98, 360, 361, 362, 24, 363, 354, 711, 712, 713, 714, 715, 716, 717, 718, 737, 747, 748, 749, 750, 751, 738, 739, 740, 741, 742, 743, 744, 745, 746] (by decide +kernel) (by decide +kernel)
set_option maxRecDepth 20000 in
theorem gL_law_X5_count : GoodIn wsL_law (wsV RL 100 RX5 yX5_count wsX5_count) := goodIn_app (goodIn_of _ (by decide +kernel)) ggL_law_X5_count
set_option maxRecDepth 20000 in
theorem ggL_law_X6_count : GoodIn wsL_law wsX6_count := goodIn_r _ [654, 77, 66, 148, 368, 149, 150, 151, 5, 152, 655, 656, 657, 658, 318, 319, 320, 321, 140, 141, 142, 143, 322, 323, 324, 325, 326, 327, 328, 329, 659, 660, 661, 662, 663, 664, 665, 666, 667, 668, 669, 670, 310, 311, 312, 313, 73, 314, 315, 316, 317, 71, 330, 331, 332, 333, 72, 334, 335, 336, 337, 338, 339, 340, 341, 342, 343, 344, 345, 671, 672, 673, 674, 719, 720, 721, 722, 723, 724, 725, 726, 727, 728, 729, 730, 731, 732, 733, 734, 735, 736] (by decide +kernel) (by decide +kernel)
set_option maxRecDepth 20000 in
theorem gL_law_X6_count : GoodIn wsL_law (wsV RL 103 RX6 yX6_count wsX6_count) := goodIn_app (goodIn_of _ (by decide +kernel)) ggL_law_X6_count
set_option maxRecDepth 20000 in
theorem ggL_law_X5_doneIn : GoodIn wsL_law wsX5_doneIn := goodIn_r _ [678, 15, 16, 679, 680, 681, 14, 682, 254, 89, 90, 91, 40, 92, 2, 93, 260, 261, 262, 263, 469, 470, 471, 472, 473, 101, 102, 103, 116, 117, 118, 119, 120, 121, 122, 123, 124, 125, 126, 234, 235, 236, 237, 29, 238, 239, 240, 28, 241, 55, 54, 242, 243, 244, 245, 56, 246, 247, 248, 249, 250, 251, 252, 253, 255, 256, 257, 258, 259, 170, 171, 172, 264, 265, 266, 267, 57, 268, 269, 270, 271, 272, 273, 274, 275, 276, 86, 87, 277, 278, 279, 280, 281, 282, 283, 284, 285, 286, 287, 288, 85, 289, 290, 291, 292, 293, 158, 159, 160, 294, 295, 296, 297, 298, 299, 300, 301, 201, 202, 711, 712, 713, 714, 715, 716, 717, 718, 737, 747, 748, 749, 750, 751] (by decide +kernel) (by decide +kernel)
set_option maxRecDepth 20000 in
theorem gL_law_X5_doneIn : GoodIn wsL_law (wsV RL 104 RX5 yX5_doneIn wsX5_doneIn) := goodIn_app (goodIn_of _ (by decide +kernel)) ggL_law_X5_doneIn
set_option maxRecDepth 20000 in
theorem ggL_law_X6_doneIn : GoodIn wsL_law wsX6_doneIn := goodIn_r _ [686, 77, 687, 688, 689, 5, 690, 67, 66, 149, 150, 151, 152, 306, 307, 308, 309, 73, 310, 311, 312, 313, 314, 315, 316, 317, 71, 318, 319, 320, 321, 140, 141, 142, 143, 322, 323, 324, 325, 326, 327, 328, 329, 330, 331, 332, 333, 72, 334, 335, 336, 337, 338, 339, 340, 341, 342, 343, 344, 345, 691, 692, 693, 694, 719, 720, 721, 722, 723, 724, 725, 726, 727, 728, 729, 730, 731, 732, 733, 734, 735, 736] (by decide +kernel) (by decide +kernel)
set_option maxRecDepth 20000 in
theorem gL_law_X6_doneIn : GoodIn wsL_law (wsV RL 107 RX6 yX6_doneIn wsX6_doneIn) := goodIn_app (goodIn_of _ (by decide +kernel)) ggL_law_X6_doneIn
set_option maxRecDepth 20000 in
theorem ggL_law_X5_bestLink : GoodIn wsL_law wsX5_bestLink := goodIn_r _ [698, 15, 16, 639, 640, 641, 2, 642, 29, 554, 243, 244, 28, 245, 54, 55, 56, 246, 247, 248, 249, 250, 251, 252, 14, 253, 254, 89, 90, 91, 40, 92, 93, 255, 256, 257, 258, 259, 170, 171, 172, 260, 261, 262, 263, 264, 265, 266, 267, 57, 268, 269, 270, 271, 272, 273, 274, 275, 276, 86, 87, 277, 278, 279, 280, 298, 299, 300, 301, 201, 202, 469, 470, 471, 472, 473, 101, 102, 103, 196, 197, 198, 199, 203, 204, 205, 206, 711, 712, 713, 714, 715, 716, 717, 718, 747, 748, 749, 750, 751, 737] (by decide +kernel) (by decide +kernel)
set_option maxRecDepth 20000 in
theorem gL_law_X5_bestLink : GoodIn wsL_law (wsV RL 108 RX5 yX5_bestLink wsX5_bestLink) := goodIn_app (goodIn_of _ (by decide +kernel)) ggL_law_X5_bestLink
set_option maxRecDepth 20000 in
theorem ggL_law_X6_bestLink : GoodIn wsL_law wsX6_bestLink := goodIn_r _ [702, 77, 66, 310, 311, 312, 5, 313, 73, 314, 315, 316, 317, 71, 318, 319, 320, 321, 140, 141, 142, 143, 322, 323, 324, 325, 326, 327, 328, 329, 330, 331, 332, 333, 72, 334, 335, 336, 337, 338, 339, 340, 341, 342, 343, 344, 345, 719, 720, 721, 722, 723, 724, 725, 726, 727, 728, 729, 730, 731, 732, 733, 734, 735, 736] (by decide +kernel) (by decide +kernel)
set_option maxRecDepth 20000 in
theorem gL_law_X6_bestLink : GoodIn wsL_law (wsV RL 111 RX6 yX6_bestLink wsX6_bestLink) := goodIn_app (goodIn_of _ (by decide +kernel)) ggL_law_X6_bestLink
set_option maxRecDepth 20000 in
theorem ggL_law_X5_mean : GoodIn wsL_law wsX5_mean := goodIn_r _ [706, 15, 635, 636, 637, 14, 638, 40, 626, 627, 628, 629, 630, 492, 493, 494, 495, 496, 497, 498, 254, 89, 90, 91, 92, 2, 93, 201, 202, 499, 251, 252, 253, 255, 256, 257, 258, 259, 170, 171, 172, 260, 261, 262, 263, 500, 501, 502, 503, 711, 712, 713, 714, 715, 716, 717, 718, 737] (by decide +kernel) (by decide +kernel)
set_option maxRecDepth 20000 in
theorem gL_law_X5_mean : GoodIn wsL_law (wsV RL 112 RX5 yX5_mean wsX5_mean) := goodIn_app (goodIn_of _ (by decide +kernel)) ggL_law_X5_mean
set_option maxRecDepth 20000 in
theorem ggL_law_X6_mean : GoodIn wsL_law wsX6_mean := goodIn_r _ [710, 77, 66, 667, 668, 669, 5, 670, 719, 720, 721, 722, 723, 724, 725, 726, 727, 728, 729, 730, 731, 732, 733, 734, 735, 736] (by decide +kernel) (by decide +kernel)
set_option maxRecDepth 20000 in
theorem gL_law_X6_mean : GoodIn wsL_law (wsV RL 116 RX6 yX6_mean wsX6_mean) := goodIn_app (goodIn_of _ (by decide +kernel)) ggL_law_X6_mean
theorem dL_law_0 : decode cL_law 0 = .ok (.new 7, 3) := by decide +kernel
theorem dL_law_3 : decode cL_law 3 = .ok (.dup, 1) := by decide +kernel
theorem dL_law_4 : decode cL_law 4 = .ok (.invokespecial 9, 3) := by decide +kernel
theorem dL_law_7 : decode cL_law 7 = .ok (.astore_n 1, 1) := by decide +kernel
theorem dL_law_8 : decode cL_law 8 = .ok (.new 10, 3) := by decide +kernel
theorem dL_law_11 : decode cL_law 11 = .ok (.dup, 1) := by decide +kernel
theorem dL_law_12 : decode cL_law 12 = .ok (.invokespecial 12, 3) := by decide +kernel
theorem dL_law_15 : decode cL_law 15 = .ok (.astore_n 2, 1) := by decide +kernel
theorem dL_law_16 : decode cL_law 16 = .ok (.iconst 0, 1) := by decide +kernel
theorem dL_law_17 : decode cL_law 17 = .ok (.istore_n 3, 1) := by decide +kernel
theorem dL_law_18 : decode cL_law 18 = .ok (.iload_n 3, 1) := by decide +kernel
theorem dL_law_19 : decode cL_law 19 = .ok (.aload_n 0, 1) := by decide +kernel
theorem dL_law_20 : decode cL_law 20 = .ok (.arraylength, 1) := by decide +kernel
theorem dL_law_21 : decode cL_law 21 = .ok (.iconst 4, 1) := by decide +kernel
theorem dL_law_22 : decode cL_law 22 = .ok (.isub, 1) := by decide +kernel
theorem dL_law_23 : decode cL_law 23 = .ok (.if_icmp .gt 821, 3) := by decide +kernel
theorem dL_law_26 : decode cL_law 26 = .ok (.aload_n 0, 1) := by decide +kernel
theorem dL_law_27 : decode cL_law 27 = .ok (.iload_n 3, 1) := by decide +kernel
theorem dL_law_28 : decode cL_law 28 = .ok (.iaload, 1) := by decide +kernel
theorem dL_law_29 : decode cL_law 29 = .ok (.bipush 31, 2) := by decide +kernel
theorem dL_law_31 : decode cL_law 31 = .ok (.iand, 1) := by decide +kernel
theorem dL_law_32 : decode cL_law 32 = .ok (.tableswitch 806 0 23 #[112, 145, 178, 221, 254, 313, 372, 385, 408, 421, 434, 447, 460, 473, 486, 545, 588, 621, 670, 683, 716, 739, 752, 765], 112) := by decide +kernel
theorem dL_law_144 : decode cL_law 144 = .ok (.aload_n 1, 1) := by decide +kernel
theorem dL_law_145 : decode cL_law 145 = .ok (.aload_n 0, 1) := by decide +kernel
theorem dL_law_146 : decode cL_law 146 = .ok (.iload_n 3, 1) := by decide +kernel
theorem dL_law_147 : decode cL_law 147 = .ok (.iconst 1, 1) := by decide +kernel
theorem dL_law_148 : decode cL_law 148 = .ok (.iadd, 1) := by decide +kernel
theorem dL_law_149 : decode cL_law 149 = .ok (.iaload, 1) := by decide +kernel
theorem dL_law_150 : decode cL_law 150 = .ok (.aload_n 0, 1) := by decide +kernel
theorem dL_law_151 : decode cL_law 151 = .ok (.iload_n 3, 1) := by decide +kernel
theorem dL_law_152 : decode cL_law 152 = .ok (.iconst 2, 1) := by decide +kernel
theorem dL_law_153 : decode cL_law 153 = .ok (.iadd, 1) := by decide +kernel
theorem dL_law_154 : decode cL_law 154 = .ok (.iaload, 1) := by decide +kernel
theorem dL_law_155 : decode cL_law 155 = .ok (.invokevirtual 13, 3) := by decide +kernel
theorem dL_law_158 : decode cL_law 158 = .ok (.aload_n 2, 1) := by decide +kernel
theorem dL_law_159 : decode cL_law 159 = .ok (.aload_n 0, 1) := by decide +kernel
theorem dL_law_160 : decode cL_law 160 = .ok (.iload_n 3, 1) := by decide +kernel
theorem dL_law_161 : decode cL_law 161 = .ok (.iconst 1, 1) := by decide +kernel
theorem dL_law_162 : decode cL_law 162 = .ok (.iadd, 1) := by decide +kernel
theorem dL_law_163 : decode cL_law 163 = .ok (.iaload, 1) := by decide +kernel
theorem dL_law_164 : decode cL_law 164 = .ok (.aload_n 0, 1) := by decide +kernel
theorem dL_law_165 : decode cL_law 165 = .ok (.iload_n 3, 1) := by decide +kernel
theorem dL_law_166 : decode cL_law 166 = .ok (.iconst 2, 1) := by decide +kernel
theorem dL_law_167 : decode cL_law 167 = .ok (.iadd, 1) := by decide +kernel
theorem dL_law_168 : decode cL_law 168 = .ok (.iaload, 1) := by decide +kernel
theorem dL_law_169 : decode cL_law 169 = .ok (.invokevirtual 17, 3) := by decide +kernel
theorem dL_law_172 : decode cL_law 172 = .ok (.if_icmp .eq 666, 3) := by decide +kernel
theorem dL_law_175 : decode cL_law 175 = .ok (.iconst 0, 1) := by decide +kernel
theorem dL_law_176 : decode cL_law 176 = .ok (.ireturn, 1) := by decide +kernel
theorem dL_law_177 : decode cL_law 177 = .ok (.aload_n 1, 1) := by decide +kernel
theorem dL_law_178 : decode cL_law 178 = .ok (.aload_n 0, 1) := by decide +kernel
theorem dL_law_179 : decode cL_law 179 = .ok (.iload_n 3, 1) := by decide +kernel
theorem dL_law_180 : decode cL_law 180 = .ok (.iconst 1, 1) := by decide +kernel
theorem dL_law_181 : decode cL_law 181 = .ok (.iadd, 1) := by decide +kernel
theorem dL_law_182 : decode cL_law 182 = .ok (.iaload, 1) := by decide +kernel
theorem dL_law_183 : decode cL_law 183 = .ok (.aload_n 0, 1) := by decide +kernel
theorem dL_law_184 : decode cL_law 184 = .ok (.iload_n 3, 1) := by decide +kernel
theorem dL_law_185 : decode cL_law 185 = .ok (.iconst 2, 1) := by decide +kernel
theorem dL_law_186 : decode cL_law 186 = .ok (.iadd, 1) := by decide +kernel
theorem dL_law_187 : decode cL_law 187 = .ok (.iaload, 1) := by decide +kernel
theorem dL_law_188 : decode cL_law 188 = .ok (.invokevirtual 18, 3) := by decide +kernel
theorem dL_law_191 : decode cL_law 191 = .ok (.aload_n 2, 1) := by decide +kernel
theorem dL_law_192 : decode cL_law 192 = .ok (.aload_n 0, 1) := by decide +kernel
theorem dL_law_193 : decode cL_law 193 = .ok (.iload_n 3, 1) := by decide +kernel
theorem dL_law_194 : decode cL_law 194 = .ok (.iconst 1, 1) := by decide +kernel
theorem dL_law_195 : decode cL_law 195 = .ok (.iadd, 1) := by decide +kernel
theorem dL_law_196 : decode cL_law 196 = .ok (.iaload, 1) := by decide +kernel
theorem dL_law_197 : decode cL_law 197 = .ok (.aload_n 0, 1) := by decide +kernel
theorem dL_law_198 : decode cL_law 198 = .ok (.iload_n 3, 1) := by decide +kernel
theorem dL_law_199 : decode cL_law 199 = .ok (.iconst 2, 1) := by decide +kernel
theorem dL_law_200 : decode cL_law 200 = .ok (.iadd, 1) := by decide +kernel
theorem dL_law_201 : decode cL_law 201 = .ok (.iaload, 1) := by decide +kernel
theorem dL_law_202 : decode cL_law 202 = .ok (.invokevirtual 21, 3) := by decide +kernel
theorem dL_law_205 : decode cL_law 205 = .ok (.if_icmp .eq 633, 3) := by decide +kernel
theorem dL_law_208 : decode cL_law 208 = .ok (.iconst 0, 1) := by decide +kernel
theorem dL_law_209 : decode cL_law 209 = .ok (.ireturn, 1) := by decide +kernel
theorem dL_law_210 : decode cL_law 210 = .ok (.aload_n 1, 1) := by decide +kernel
theorem dL_law_211 : decode cL_law 211 = .ok (.aload_n 0, 1) := by decide +kernel
theorem dL_law_212 : decode cL_law 212 = .ok (.iload_n 3, 1) := by decide +kernel
theorem dL_law_213 : decode cL_law 213 = .ok (.iconst 1, 1) := by decide +kernel
theorem dL_law_214 : decode cL_law 214 = .ok (.iadd, 1) := by decide +kernel
theorem dL_law_215 : decode cL_law 215 = .ok (.iaload, 1) := by decide +kernel
theorem dL_law_216 : decode cL_law 216 = .ok (.aload_n 0, 1) := by decide +kernel
theorem dL_law_217 : decode cL_law 217 = .ok (.iload_n 3, 1) := by decide +kernel
theorem dL_law_218 : decode cL_law 218 = .ok (.iconst 2, 1) := by decide +kernel
theorem dL_law_219 : decode cL_law 219 = .ok (.iadd, 1) := by decide +kernel
theorem dL_law_220 : decode cL_law 220 = .ok (.iaload, 1) := by decide +kernel
theorem dL_law_221 : decode cL_law 221 = .ok (.aload_n 0, 1) := by decide +kernel
theorem dL_law_222 : decode cL_law 222 = .ok (.iload_n 3, 1) := by decide +kernel
theorem dL_law_223 : decode cL_law 223 = .ok (.iconst 3, 1) := by decide +kernel
theorem dL_law_224 : decode cL_law 224 = .ok (.iadd, 1) := by decide +kernel
theorem dL_law_225 : decode cL_law 225 = .ok (.iaload, 1) := by decide +kernel
theorem dL_law_226 : decode cL_law 226 = .ok (.invokevirtual 22, 3) := by decide +kernel
theorem dL_law_229 : decode cL_law 229 = .ok (.aload_n 2, 1) := by decide +kernel
theorem dL_law_230 : decode cL_law 230 = .ok (.aload_n 0, 1) := by decide +kernel
theorem dL_law_231 : decode cL_law 231 = .ok (.iload_n 3, 1) := by decide +kernel
theorem dL_law_232 : decode cL_law 232 = .ok (.iconst 1, 1) := by decide +kernel
theorem dL_law_233 : decode cL_law 233 = .ok (.iadd, 1) := by decide +kernel
theorem dL_law_234 : decode cL_law 234 = .ok (.iaload, 1) := by decide +kernel
theorem dL_law_235 : decode cL_law 235 = .ok (.aload_n 0, 1) := by decide +kernel
theorem dL_law_236 : decode cL_law 236 = .ok (.iload_n 3, 1) := by decide +kernel
theorem dL_law_237 : decode cL_law 237 = .ok (.iconst 2, 1) := by decide +kernel
theorem dL_law_238 : decode cL_law 238 = .ok (.iadd, 1) := by decide +kernel
theorem dL_law_239 : decode cL_law 239 = .ok (.iaload, 1) := by decide +kernel
theorem dL_law_240 : decode cL_law 240 = .ok (.aload_n 0, 1) := by decide +kernel
theorem dL_law_241 : decode cL_law 241 = .ok (.iload_n 3, 1) := by decide +kernel
end
section
theorem dL_law_242 : decode cL_law 242 = .ok (.iconst 3, 1) := by decide +kernel
theorem dL_law_243 : decode cL_law 243 = .ok (.iadd, 1) := by decide +kernel
theorem dL_law_244 : decode cL_law 244 = .ok (.iaload, 1) := by decide +kernel
theorem dL_law_245 : decode cL_law 245 = .ok (.invokevirtual 26, 3) := by decide +kernel
theorem dL_law_248 : decode cL_law 248 = .ok (.if_icmp .eq 590, 3) := by decide +kernel
theorem dL_law_251 : decode cL_law 251 = .ok (.iconst 0, 1) := by decide +kernel
theorem dL_law_252 : decode cL_law 252 = .ok (.ireturn, 1) := by decide +kernel
theorem dL_law_253 : decode cL_law 253 = .ok (.aload_n 1, 1) := by decide +kernel
theorem dL_law_254 : decode cL_law 254 = .ok (.aload_n 0, 1) := by decide +kernel
theorem dL_law_255 : decode cL_law 255 = .ok (.iload_n 3, 1) := by decide +kernel
theorem dL_law_256 : decode cL_law 256 = .ok (.iconst 1, 1) := by decide +kernel
theorem dL_law_257 : decode cL_law 257 = .ok (.iadd, 1) := by decide +kernel
theorem dL_law_258 : decode cL_law 258 = .ok (.iaload, 1) := by decide +kernel
theorem dL_law_259 : decode cL_law 259 = .ok (.aload_n 0, 1) := by decide +kernel
theorem dL_law_260 : decode cL_law 260 = .ok (.iload_n 3, 1) := by decide +kernel
theorem dL_law_261 : decode cL_law 261 = .ok (.iconst 2, 1) := by decide +kernel
theorem dL_law_262 : decode cL_law 262 = .ok (.iadd, 1) := by decide +kernel
theorem dL_law_263 : decode cL_law 263 = .ok (.iaload, 1) := by decide +kernel
theorem dL_law_264 : decode cL_law 264 = .ok (.invokevirtual 27, 3) := by decide +kernel
theorem dL_law_267 : decode cL_law 267 = .ok (.aload_n 2, 1) := by decide +kernel
theorem dL_law_268 : decode cL_law 268 = .ok (.aload_n 0, 1) := by decide +kernel
theorem dL_law_269 : decode cL_law 269 = .ok (.iload_n 3, 1) := by decide +kernel
theorem dL_law_270 : decode cL_law 270 = .ok (.iconst 1, 1) := by decide +kernel
theorem dL_law_271 : decode cL_law 271 = .ok (.iadd, 1) := by decide +kernel
theorem dL_law_272 : decode cL_law 272 = .ok (.iaload, 1) := by decide +kernel
theorem dL_law_273 : decode cL_law 273 = .ok (.aload_n 0, 1) := by decide +kernel
theorem dL_law_274 : decode cL_law 274 = .ok (.iload_n 3, 1) := by decide +kernel
theorem dL_law_275 : decode cL_law 275 = .ok (.iconst 2, 1) := by decide +kernel
theorem dL_law_276 : decode cL_law 276 = .ok (.iadd, 1) := by decide +kernel
theorem dL_law_277 : decode cL_law 277 = .ok (.iaload, 1) := by decide +kernel
theorem dL_law_278 : decode cL_law 278 = .ok (.invokevirtual 30, 3) := by decide +kernel
theorem dL_law_281 : decode cL_law 281 = .ok (.if_icmp .eq 557, 3) := by decide +kernel
theorem dL_law_284 : decode cL_law 284 = .ok (.iconst 0, 1) := by decide +kernel
theorem dL_law_285 : decode cL_law 285 = .ok (.ireturn, 1) := by decide +kernel
theorem dL_law_286 : decode cL_law 286 = .ok (.aload_n 1, 1) := by decide +kernel
theorem dL_law_287 : decode cL_law 287 = .ok (.aload_n 0, 1) := by decide +kernel
theorem dL_law_288 : decode cL_law 288 = .ok (.iload_n 3, 1) := by decide +kernel
theorem dL_law_289 : decode cL_law 289 = .ok (.iconst 1, 1) := by decide +kernel
theorem dL_law_290 : decode cL_law 290 = .ok (.iadd, 1) := by decide +kernel
theorem dL_law_291 : decode cL_law 291 = .ok (.iaload, 1) := by decide +kernel
theorem dL_law_292 : decode cL_law 292 = .ok (.aload_n 0, 1) := by decide +kernel
theorem dL_law_293 : decode cL_law 293 = .ok (.iload_n 3, 1) := by decide +kernel
theorem dL_law_294 : decode cL_law 294 = .ok (.iconst 2, 1) := by decide +kernel
theorem dL_law_295 : decode cL_law 295 = .ok (.iadd, 1) := by decide +kernel
theorem dL_law_296 : decode cL_law 296 = .ok (.iaload, 1) := by decide +kernel
theorem dL_law_297 : decode cL_law 297 = .ok (.aload_n 0, 1) := by decide +kernel
theorem dL_law_298 : decode cL_law 298 = .ok (.iload_n 3, 1) := by decide +kernel
theorem dL_law_299 : decode cL_law 299 = .ok (.iconst 3, 1) := by decide +kernel
theorem dL_law_300 : decode cL_law 300 = .ok (.iadd, 1) := by decide +kernel
theorem dL_law_301 : decode cL_law 301 = .ok (.iaload, 1) := by decide +kernel
theorem dL_law_302 : decode cL_law 302 = .ok (.ifCond .eq 7, 3) := by decide +kernel
theorem dL_law_305 : decode cL_law 305 = .ok (.iconst 1, 1) := by decide +kernel
theorem dL_law_306 : decode cL_law 306 = .ok (.goto 4, 3) := by decide +kernel
theorem dL_law_309 : decode cL_law 309 = .ok (.iconst 0, 1) := by decide +kernel
theorem dL_law_310 : decode cL_law 310 = .ok (.invokevirtual 31, 3) := by decide +kernel
theorem dL_law_313 : decode cL_law 313 = .ok (.aload_n 2, 1) := by decide +kernel
theorem dL_law_314 : decode cL_law 314 = .ok (.aload_n 0, 1) := by decide +kernel
theorem dL_law_315 : decode cL_law 315 = .ok (.iload_n 3, 1) := by decide +kernel
theorem dL_law_316 : decode cL_law 316 = .ok (.iconst 1, 1) := by decide +kernel
theorem dL_law_317 : decode cL_law 317 = .ok (.iadd, 1) := by decide +kernel
theorem dL_law_318 : decode cL_law 318 = .ok (.iaload, 1) := by decide +kernel
theorem dL_law_319 : decode cL_law 319 = .ok (.aload_n 0, 1) := by decide +kernel
theorem dL_law_320 : decode cL_law 320 = .ok (.iload_n 3, 1) := by decide +kernel
theorem dL_law_321 : decode cL_law 321 = .ok (.iconst 2, 1) := by decide +kernel
theorem dL_law_322 : decode cL_law 322 = .ok (.iadd, 1) := by decide +kernel
theorem dL_law_323 : decode cL_law 323 = .ok (.iaload, 1) := by decide +kernel
theorem dL_law_324 : decode cL_law 324 = .ok (.aload_n 0, 1) := by decide +kernel
theorem dL_law_325 : decode cL_law 325 = .ok (.iload_n 3, 1) := by decide +kernel
theorem dL_law_326 : decode cL_law 326 = .ok (.iconst 3, 1) := by decide +kernel
theorem dL_law_327 : decode cL_law 327 = .ok (.iadd, 1) := by decide +kernel
theorem dL_law_328 : decode cL_law 328 = .ok (.iaload, 1) := by decide +kernel
theorem dL_law_329 : decode cL_law 329 = .ok (.ifCond .eq 7, 3) := by decide +kernel
theorem dL_law_332 : decode cL_law 332 = .ok (.iconst 1, 1) := by decide +kernel
theorem dL_law_333 : decode cL_law 333 = .ok (.goto 4, 3) := by decide +kernel
theorem dL_law_336 : decode cL_law 336 = .ok (.iconst 0, 1) := by decide +kernel
theorem dL_law_337 : decode cL_law 337 = .ok (.invokevirtual 35, 3) := by decide +kernel
theorem dL_law_340 : decode cL_law 340 = .ok (.if_icmp .eq 498, 3) := by decide +kernel
theorem dL_law_343 : decode cL_law 343 = .ok (.iconst 0, 1) := by decide +kernel
theorem dL_law_344 : decode cL_law 344 = .ok (.ireturn, 1) := by decide +kernel
theorem dL_law_345 : decode cL_law 345 = .ok (.aload_n 1, 1) := by decide +kernel
theorem dL_law_346 : decode cL_law 346 = .ok (.aload_n 0, 1) := by decide +kernel
theorem dL_law_347 : decode cL_law 347 = .ok (.iload_n 3, 1) := by decide +kernel
theorem dL_law_348 : decode cL_law 348 = .ok (.iconst 1, 1) := by decide +kernel
theorem dL_law_349 : decode cL_law 349 = .ok (.iadd, 1) := by decide +kernel
theorem dL_law_350 : decode cL_law 350 = .ok (.iaload, 1) := by decide +kernel
theorem dL_law_351 : decode cL_law 351 = .ok (.ifCond .eq 7, 3) := by decide +kernel
theorem dL_law_354 : decode cL_law 354 = .ok (.iconst 1, 1) := by decide +kernel
theorem dL_law_355 : decode cL_law 355 = .ok (.goto 4, 3) := by decide +kernel
theorem dL_law_358 : decode cL_law 358 = .ok (.iconst 0, 1) := by decide +kernel
theorem dL_law_359 : decode cL_law 359 = .ok (.aload_n 0, 1) := by decide +kernel
theorem dL_law_360 : decode cL_law 360 = .ok (.iload_n 3, 1) := by decide +kernel
theorem dL_law_361 : decode cL_law 361 = .ok (.iconst 2, 1) := by decide +kernel
theorem dL_law_362 : decode cL_law 362 = .ok (.iadd, 1) := by decide +kernel
theorem dL_law_363 : decode cL_law 363 = .ok (.iaload, 1) := by decide +kernel
theorem dL_law_364 : decode cL_law 364 = .ok (.aload_n 0, 1) := by decide +kernel
theorem dL_law_365 : decode cL_law 365 = .ok (.iload_n 3, 1) := by decide +kernel
theorem dL_law_366 : decode cL_law 366 = .ok (.iconst 3, 1) := by decide +kernel
theorem dL_law_367 : decode cL_law 367 = .ok (.iadd, 1) := by decide +kernel
theorem dL_law_368 : decode cL_law 368 = .ok (.iaload, 1) := by decide +kernel
theorem dL_law_369 : decode cL_law 369 = .ok (.invokevirtual 36, 3) := by decide +kernel
theorem dL_law_372 : decode cL_law 372 = .ok (.aload_n 2, 1) := by decide +kernel
theorem dL_law_373 : decode cL_law 373 = .ok (.aload_n 0, 1) := by decide +kernel
theorem dL_law_374 : decode cL_law 374 = .ok (.iload_n 3, 1) := by decide +kernel
theorem dL_law_375 : decode cL_law 375 = .ok (.iconst 1, 1) := by decide +kernel
theorem dL_law_376 : decode cL_law 376 = .ok (.iadd, 1) := by decide +kernel
theorem dL_law_377 : decode cL_law 377 = .ok (.iaload, 1) := by decide +kernel
theorem dL_law_378 : decode cL_law 378 = .ok (.ifCond .eq 7, 3) := by decide +kernel
theorem dL_law_381 : decode cL_law 381 = .ok (.iconst 1, 1) := by decide +kernel
theorem dL_law_382 : decode cL_law 382 = .ok (.goto 4, 3) := by decide +kernel
theorem dL_law_385 : decode cL_law 385 = .ok (.iconst 0, 1) := by decide +kernel
theorem dL_law_386 : decode cL_law 386 = .ok (.aload_n 0, 1) := by decide +kernel
theorem dL_law_387 : decode cL_law 387 = .ok (.iload_n 3, 1) := by decide +kernel
theorem dL_law_388 : decode cL_law 388 = .ok (.iconst 2, 1) := by decide +kernel
theorem dL_law_389 : decode cL_law 389 = .ok (.iadd, 1) := by decide +kernel
theorem dL_law_390 : decode cL_law 390 = .ok (.iaload, 1) := by decide +kernel
theorem dL_law_391 : decode cL_law 391 = .ok (.aload_n 0, 1) := by decide +kernel
theorem dL_law_392 : decode cL_law 392 = .ok (.iload_n 3, 1) := by decide +kernel
theorem dL_law_393 : decode cL_law 393 = .ok (.iconst 3, 1) := by decide +kernel
theorem dL_law_394 : decode cL_law 394 = .ok (.iadd, 1) := by decide +kernel
theorem dL_law_395 : decode cL_law 395 = .ok (.iaload, 1) := by decide +kernel
theorem dL_law_396 : decode cL_law 396 = .ok (.invokevirtual 40, 3) := by decide +kernel
theorem dL_law_399 : decode cL_law 399 = .ok (.if_icmp .eq 439, 3) := by decide +kernel
theorem dL_law_402 : decode cL_law 402 = .ok (.iconst 0, 1) := by decide +kernel
theorem dL_law_403 : decode cL_law 403 = .ok (.ireturn, 1) := by decide +kernel
theorem dL_law_404 : decode cL_law 404 = .ok (.aload_n 1, 1) := by decide +kernel
theorem dL_law_405 : decode cL_law 405 = .ok (.invokevirtual 41, 3) := by decide +kernel
theorem dL_law_408 : decode cL_law 408 = .ok (.aload_n 2, 1) := by decide +kernel
theorem dL_law_409 : decode cL_law 409 = .ok (.invokevirtual 45, 3) := by decide +kernel
theorem dL_law_412 : decode cL_law 412 = .ok (.if_icmp .eq 426, 3) := by decide +kernel
theorem dL_law_415 : decode cL_law 415 = .ok (.iconst 0, 1) := by decide +kernel
theorem dL_law_416 : decode cL_law 416 = .ok (.ireturn, 1) := by decide +kernel
theorem dL_law_417 : decode cL_law 417 = .ok (.aload_n 1, 1) := by decide +kernel
theorem dL_law_418 : decode cL_law 418 = .ok (.aload_n 0, 1) := by decide +kernel
theorem dL_law_419 : decode cL_law 419 = .ok (.iload_n 3, 1) := by decide +kernel
theorem dL_law_420 : decode cL_law 420 = .ok (.iconst 1, 1) := by decide +kernel
theorem dL_law_421 : decode cL_law 421 = .ok (.iadd, 1) := by decide +kernel
theorem dL_law_422 : decode cL_law 422 = .ok (.iaload, 1) := by decide +kernel
theorem dL_law_423 : decode cL_law 423 = .ok (.invokevirtual 46, 3) := by decide +kernel
theorem dL_law_426 : decode cL_law 426 = .ok (.aload_n 2, 1) := by decide +kernel
theorem dL_law_427 : decode cL_law 427 = .ok (.aload_n 0, 1) := by decide +kernel
theorem dL_law_428 : decode cL_law 428 = .ok (.iload_n 3, 1) := by decide +kernel
theorem dL_law_429 : decode cL_law 429 = .ok (.iconst 1, 1) := by decide +kernel
theorem dL_law_430 : decode cL_law 430 = .ok (.iadd, 1) := by decide +kernel
theorem dL_law_431 : decode cL_law 431 = .ok (.iaload, 1) := by decide +kernel
theorem dL_law_432 : decode cL_law 432 = .ok (.invokevirtual 50, 3) := by decide +kernel
theorem dL_law_435 : decode cL_law 435 = .ok (.if_icmp .eq 403, 3) := by decide +kernel
theorem dL_law_438 : decode cL_law 438 = .ok (.iconst 0, 1) := by decide +kernel
theorem dL_law_439 : decode cL_law 439 = .ok (.ireturn, 1) := by decide +kernel
theorem dL_law_440 : decode cL_law 440 = .ok (.aload_n 1, 1) := by decide +kernel
theorem dL_law_441 : decode cL_law 441 = .ok (.invokevirtual 51, 3) := by decide +kernel
theorem dL_law_444 : decode cL_law 444 = .ok (.aload_n 2, 1) := by decide +kernel
theorem dL_law_445 : decode cL_law 445 = .ok (.invokevirtual 54, 3) := by decide +kernel
theorem dL_law_448 : decode cL_law 448 = .ok (.if_icmp .eq 390, 3) := by decide +kernel
theorem dL_law_451 : decode cL_law 451 = .ok (.iconst 0, 1) := by decide +kernel
theorem dL_law_452 : decode cL_law 452 = .ok (.ireturn, 1) := by decide +kernel
theorem dL_law_453 : decode cL_law 453 = .ok (.aload_n 1, 1) := by decide +kernel
theorem dL_law_454 : decode cL_law 454 = .ok (.invokevirtual 55, 3) := by decide +kernel
theorem dL_law_457 : decode cL_law 457 = .ok (.aload_n 2, 1) := by decide +kernel
theorem dL_law_458 : decode cL_law 458 = .ok (.invokevirtual 58, 3) := by decide +kernel
theorem dL_law_461 : decode cL_law 461 = .ok (.if_icmp .eq 377, 3) := by decide +kernel
theorem dL_law_464 : decode cL_law 464 = .ok (.iconst 0, 1) := by decide +kernel
theorem dL_law_465 : decode cL_law 465 = .ok (.ireturn, 1) := by decide +kernel
theorem dL_law_466 : decode cL_law 466 = .ok (.aload_n 1, 1) := by decide +kernel
theorem dL_law_467 : decode cL_law 467 = .ok (.invokevirtual 59, 3) := by decide +kernel
theorem dL_law_470 : decode cL_law 470 = .ok (.aload_n 2, 1) := by decide +kernel
theorem dL_law_471 : decode cL_law 471 = .ok (.invokevirtual 62, 3) := by decide +kernel
theorem dL_law_474 : decode cL_law 474 = .ok (.if_icmp .eq 364, 3) := by decide +kernel
theorem dL_law_477 : decode cL_law 477 = .ok (.iconst 0, 1) := by decide +kernel
theorem dL_law_478 : decode cL_law 478 = .ok (.ireturn, 1) := by decide +kernel
theorem dL_law_479 : decode cL_law 479 = .ok (.aload_n 1, 1) := by decide +kernel
theorem dL_law_480 : decode cL_law 480 = .ok (.invokevirtual 63, 3) := by decide +kernel
theorem dL_law_483 : decode cL_law 483 = .ok (.aload_n 2, 1) := by decide +kernel
theorem dL_law_484 : decode cL_law 484 = .ok (.invokevirtual 66, 3) := by decide +kernel
theorem dL_law_487 : decode cL_law 487 = .ok (.if_icmp .eq 351, 3) := by decide +kernel
theorem dL_law_490 : decode cL_law 490 = .ok (.iconst 0, 1) := by decide +kernel
theorem dL_law_491 : decode cL_law 491 = .ok (.ireturn, 1) := by decide +kernel
theorem dL_law_492 : decode cL_law 492 = .ok (.aload_n 1, 1) := by decide +kernel
theorem dL_law_493 : decode cL_law 493 = .ok (.invokevirtual 67, 3) := by decide +kernel
theorem dL_law_496 : decode cL_law 496 = .ok (.aload_n 2, 1) := by decide +kernel
theorem dL_law_497 : decode cL_law 497 = .ok (.invokevirtual 70, 3) := by decide +kernel
theorem dL_law_500 : decode cL_law 500 = .ok (.if_icmp .eq 338, 3) := by decide +kernel
theorem dL_law_503 : decode cL_law 503 = .ok (.iconst 0, 1) := by decide +kernel
theorem dL_law_504 : decode cL_law 504 = .ok (.ireturn, 1) := by decide +kernel
theorem dL_law_505 : decode cL_law 505 = .ok (.aload_n 1, 1) := by decide +kernel
theorem dL_law_506 : decode cL_law 506 = .ok (.invokevirtual 71, 3) := by decide +kernel
theorem dL_law_509 : decode cL_law 509 = .ok (.aload_n 2, 1) := by decide +kernel
theorem dL_law_510 : decode cL_law 510 = .ok (.invokevirtual 74, 3) := by decide +kernel
theorem dL_law_513 : decode cL_law 513 = .ok (.if_icmp .eq 325, 3) := by decide +kernel
theorem dL_law_516 : decode cL_law 516 = .ok (.iconst 0, 1) := by decide +kernel
theorem dL_law_517 : decode cL_law 517 = .ok (.ireturn, 1) := by decide +kernel
theorem dL_law_518 : decode cL_law 518 = .ok (.aload_n 1, 1) := by decide +kernel
theorem dL_law_519 : decode cL_law 519 = .ok (.aload_n 0, 1) := by decide +kernel
theorem dL_law_520 : decode cL_law 520 = .ok (.iload_n 3, 1) := by decide +kernel
theorem dL_law_521 : decode cL_law 521 = .ok (.iconst 1, 1) := by decide +kernel
theorem dL_law_522 : decode cL_law 522 = .ok (.iadd, 1) := by decide +kernel
theorem dL_law_523 : decode cL_law 523 = .ok (.iaload, 1) := by decide +kernel
theorem dL_law_524 : decode cL_law 524 = .ok (.ifCond .eq 7, 3) := by decide +kernel
theorem dL_law_527 : decode cL_law 527 = .ok (.iconst 1, 1) := by decide +kernel
theorem dL_law_528 : decode cL_law 528 = .ok (.goto 4, 3) := by decide +kernel
theorem dL_law_531 : decode cL_law 531 = .ok (.iconst 0, 1) := by decide +kernel
theorem dL_law_532 : decode cL_law 532 = .ok (.aload_n 0, 1) := by decide +kernel
theorem dL_law_533 : decode cL_law 533 = .ok (.iload_n 3, 1) := by decide +kernel
theorem dL_law_534 : decode cL_law 534 = .ok (.iconst 2, 1) := by decide +kernel
theorem dL_law_535 : decode cL_law 535 = .ok (.iadd, 1) := by decide +kernel
theorem dL_law_536 : decode cL_law 536 = .ok (.iaload, 1) := by decide +kernel
theorem dL_law_537 : decode cL_law 537 = .ok (.aload_n 0, 1) := by decide +kernel
theorem dL_law_538 : decode cL_law 538 = .ok (.iload_n 3, 1) := by decide +kernel
theorem dL_law_539 : decode cL_law 539 = .ok (.iconst 3, 1) := by decide +kernel
theorem dL_law_540 : decode cL_law 540 = .ok (.iadd, 1) := by decide +kernel
theorem dL_law_541 : decode cL_law 541 = .ok (.iaload, 1) := by decide +kernel
theorem dL_law_542 : decode cL_law 542 = .ok (.invokevirtual 75, 3) := by decide +kernel
theorem dL_law_545 : decode cL_law 545 = .ok (.aload_n 2, 1) := by decide +kernel
theorem dL_law_546 : decode cL_law 546 = .ok (.aload_n 0, 1) := by decide +kernel
theorem dL_law_547 : decode cL_law 547 = .ok (.iload_n 3, 1) := by decide +kernel
theorem dL_law_548 : decode cL_law 548 = .ok (.iconst 1, 1) := by decide +kernel
theorem dL_law_549 : decode cL_law 549 = .ok (.iadd, 1) := by decide +kernel
theorem dL_law_550 : decode cL_law 550 = .ok (.iaload, 1) := by decide +kernel
theorem dL_law_551 : decode cL_law 551 = .ok (.ifCond .eq 7, 3) := by decide +kernel
theorem dL_law_554 : decode cL_law 554 = .ok (.iconst 1, 1) := by decide +kernel
theorem dL_law_555 : decode cL_law 555 = .ok (.goto 4, 3) := by decide +kernel
theorem dL_law_558 : decode cL_law 558 = .ok (.iconst 0, 1) := by decide +kernel
theorem dL_law_559 : decode cL_law 559 = .ok (.aload_n 0, 1) := by decide +kernel
theorem dL_law_560 : decode cL_law 560 = .ok (.iload_n 3, 1) := by decide +kernel
theorem dL_law_561 : decode cL_law 561 = .ok (.iconst 2, 1) := by decide +kernel
theorem dL_law_562 : decode cL_law 562 = .ok (.iadd, 1) := by decide +kernel
theorem dL_law_563 : decode cL_law 563 = .ok (.iaload, 1) := by decide +kernel
theorem dL_law_564 : decode cL_law 564 = .ok (.aload_n 0, 1) := by decide +kernel
theorem dL_law_565 : decode cL_law 565 = .ok (.iload_n 3, 1) := by decide +kernel
theorem dL_law_566 : decode cL_law 566 = .ok (.iconst 3, 1) := by decide +kernel
theorem dL_law_567 : decode cL_law 567 = .ok (.iadd, 1) := by decide +kernel
theorem dL_law_568 : decode cL_law 568 = .ok (.iaload, 1) := by decide +kernel
theorem dL_law_569 : decode cL_law 569 = .ok (.invokevirtual 78, 3) := by decide +kernel
theorem dL_law_572 : decode cL_law 572 = .ok (.if_icmp .eq 266, 3) := by decide +kernel
theorem dL_law_575 : decode cL_law 575 = .ok (.iconst 0, 1) := by decide +kernel
theorem dL_law_576 : decode cL_law 576 = .ok (.ireturn, 1) := by decide +kernel
theorem dL_law_577 : decode cL_law 577 = .ok (.aload_n 1, 1) := by decide +kernel
theorem dL_law_578 : decode cL_law 578 = .ok (.aload_n 0, 1) := by decide +kernel
theorem dL_law_579 : decode cL_law 579 = .ok (.iload_n 3, 1) := by decide +kernel
theorem dL_law_580 : decode cL_law 580 = .ok (.iconst 1, 1) := by decide +kernel
theorem dL_law_581 : decode cL_law 581 = .ok (.iadd, 1) := by decide +kernel
theorem dL_law_582 : decode cL_law 582 = .ok (.iaload, 1) := by decide +kernel
theorem dL_law_583 : decode cL_law 583 = .ok (.aload_n 0, 1) := by decide +kernel
theorem dL_law_584 : decode cL_law 584 = .ok (.iload_n 3, 1) := by decide +kernel
theorem dL_law_585 : decode cL_law 585 = .ok (.iconst 2, 1) := by decide +kernel
theorem dL_law_586 : decode cL_law 586 = .ok (.iadd, 1) := by decide +kernel
theorem dL_law_587 : decode cL_law 587 = .ok (.iaload, 1) := by decide +kernel
theorem dL_law_588 : decode cL_law 588 = .ok (.aload_n 0, 1) := by decide +kernel
theorem dL_law_589 : decode cL_law 589 = .ok (.iload_n 3, 1) := by decide +kernel
theorem dL_law_590 : decode cL_law 590 = .ok (.iconst 3, 1) := by decide +kernel
theorem dL_law_591 : decode cL_law 591 = .ok (.iadd, 1) := by decide +kernel
theorem dL_law_592 : decode cL_law 592 = .ok (.iaload, 1) := by decide +kernel
theorem dL_law_593 : decode cL_law 593 = .ok (.invokevirtual 79, 3) := by decide +kernel
theorem dL_law_596 : decode cL_law 596 = .ok (.aload_n 2, 1) := by decide +kernel
theorem dL_law_597 : decode cL_law 597 = .ok (.aload_n 0, 1) := by decide +kernel
theorem dL_law_598 : decode cL_law 598 = .ok (.iload_n 3, 1) := by decide +kernel
theorem dL_law_599 : decode cL_law 599 = .ok (.iconst 1, 1) := by decide +kernel
theorem dL_law_600 : decode cL_law 600 = .ok (.iadd, 1) := by decide +kernel
theorem dL_law_601 : decode cL_law 601 = .ok (.iaload, 1) := by decide +kernel
theorem dL_law_602 : decode cL_law 602 = .ok (.aload_n 0, 1) := by decide +kernel
theorem dL_law_603 : decode cL_law 603 = .ok (.iload_n 3, 1) := by decide +kernel
theorem dL_law_604 : decode cL_law 604 = .ok (.iconst 2, 1) := by decide +kernel
theorem dL_law_605 : decode cL_law 605 = .ok (.iadd, 1) := by decide +kernel
theorem dL_law_606 : decode cL_law 606 = .ok (.iaload, 1) := by decide +kernel
theorem dL_law_607 : decode cL_law 607 = .ok (.aload_n 0, 1) := by decide +kernel
theorem dL_law_608 : decode cL_law 608 = .ok (.iload_n 3, 1) := by decide +kernel
theorem dL_law_609 : decode cL_law 609 = .ok (.iconst 3, 1) := by decide +kernel
theorem dL_law_610 : decode cL_law 610 = .ok (.iadd, 1) := by decide +kernel
theorem dL_law_611 : decode cL_law 611 = .ok (.iaload, 1) := by decide +kernel
theorem dL_law_612 : decode cL_law 612 = .ok (.invokevirtual 82, 3) := by decide +kernel
theorem dL_law_615 : decode cL_law 615 = .ok (.if_icmp .eq 223, 3) := by decide +kernel
theorem dL_law_618 : decode cL_law 618 = .ok (.iconst 0, 1) := by decide +kernel
theorem dL_law_619 : decode cL_law 619 = .ok (.ireturn, 1) := by decide +kernel
theorem dL_law_620 : decode cL_law 620 = .ok (.aload_n 1, 1) := by decide +kernel
theorem dL_law_621 : decode cL_law 621 = .ok (.aload_n 0, 1) := by decide +kernel
theorem dL_law_622 : decode cL_law 622 = .ok (.iload_n 3, 1) := by decide +kernel
theorem dL_law_623 : decode cL_law 623 = .ok (.iconst 1, 1) := by decide +kernel
theorem dL_law_624 : decode cL_law 624 = .ok (.iadd, 1) := by decide +kernel
theorem dL_law_625 : decode cL_law 625 = .ok (.iaload, 1) := by decide +kernel
theorem dL_law_626 : decode cL_law 626 = .ok (.aload_n 0, 1) := by decide +kernel
theorem dL_law_627 : decode cL_law 627 = .ok (.iload_n 3, 1) := by decide +kernel
theorem dL_law_628 : decode cL_law 628 = .ok (.iconst 2, 1) := by decide +kernel
theorem dL_law_629 : decode cL_law 629 = .ok (.iadd, 1) := by decide +kernel
theorem dL_law_630 : decode cL_law 630 = .ok (.iaload, 1) := by decide +kernel
theorem dL_law_631 : decode cL_law 631 = .ok (.invokevirtual 83, 3) := by decide +kernel
theorem dL_law_634 : decode cL_law 634 = .ok (.aload_n 2, 1) := by decide +kernel
theorem dL_law_635 : decode cL_law 635 = .ok (.aload_n 0, 1) := by decide +kernel
theorem dL_law_636 : decode cL_law 636 = .ok (.iload_n 3, 1) := by decide +kernel
theorem dL_law_637 : decode cL_law 637 = .ok (.iconst 1, 1) := by decide +kernel
theorem dL_law_638 : decode cL_law 638 = .ok (.iadd, 1) := by decide +kernel
theorem dL_law_639 : decode cL_law 639 = .ok (.iaload, 1) := by decide +kernel
theorem dL_law_640 : decode cL_law 640 = .ok (.aload_n 0, 1) := by decide +kernel
theorem dL_law_641 : decode cL_law 641 = .ok (.iload_n 3, 1) := by decide +kernel
theorem dL_law_642 : decode cL_law 642 = .ok (.iconst 2, 1) := by decide +kernel
theorem dL_law_643 : decode cL_law 643 = .ok (.iadd, 1) := by decide +kernel
theorem dL_law_644 : decode cL_law 644 = .ok (.iaload, 1) := by decide +kernel
theorem dL_law_645 : decode cL_law 645 = .ok (.invokevirtual 86, 3) := by decide +kernel
theorem dL_law_648 : decode cL_law 648 = .ok (.if_icmp .eq 190, 3) := by decide +kernel
theorem dL_law_651 : decode cL_law 651 = .ok (.iconst 0, 1) := by decide +kernel
theorem dL_law_652 : decode cL_law 652 = .ok (.ireturn, 1) := by decide +kernel
theorem dL_law_653 : decode cL_law 653 = .ok (.aload_n 1, 1) := by decide +kernel
theorem dL_law_654 : decode cL_law 654 = .ok (.aload_n 0, 1) := by decide +kernel
theorem dL_law_655 : decode cL_law 655 = .ok (.iload_n 3, 1) := by decide +kernel
theorem dL_law_656 : decode cL_law 656 = .ok (.iconst 1, 1) := by decide +kernel
theorem dL_law_657 : decode cL_law 657 = .ok (.iadd, 1) := by decide +kernel
theorem dL_law_658 : decode cL_law 658 = .ok (.iaload, 1) := by decide +kernel
theorem dL_law_659 : decode cL_law 659 = .ok (.ifCond .eq 7, 3) := by decide +kernel
theorem dL_law_662 : decode cL_law 662 = .ok (.iconst 1, 1) := by decide +kernel
theorem dL_law_663 : decode cL_law 663 = .ok (.goto 4, 3) := by decide +kernel
theorem dL_law_666 : decode cL_law 666 = .ok (.iconst 0, 1) := by decide +kernel
theorem dL_law_667 : decode cL_law 667 = .ok (.aload_n 0, 1) := by decide +kernel
theorem dL_law_668 : decode cL_law 668 = .ok (.iload_n 3, 1) := by decide +kernel
theorem dL_law_669 : decode cL_law 669 = .ok (.iconst 2, 1) := by decide +kernel
theorem dL_law_670 : decode cL_law 670 = .ok (.iadd, 1) := by decide +kernel
theorem dL_law_671 : decode cL_law 671 = .ok (.iaload, 1) := by decide +kernel
theorem dL_law_672 : decode cL_law 672 = .ok (.invokevirtual 87, 3) := by decide +kernel
theorem dL_law_675 : decode cL_law 675 = .ok (.aload_n 2, 1) := by decide +kernel
theorem dL_law_676 : decode cL_law 676 = .ok (.aload_n 0, 1) := by decide +kernel
theorem dL_law_677 : decode cL_law 677 = .ok (.iload_n 3, 1) := by decide +kernel
theorem dL_law_678 : decode cL_law 678 = .ok (.iconst 1, 1) := by decide +kernel
theorem dL_law_679 : decode cL_law 679 = .ok (.iadd, 1) := by decide +kernel
theorem dL_law_680 : decode cL_law 680 = .ok (.iaload, 1) := by decide +kernel
theorem dL_law_681 : decode cL_law 681 = .ok (.ifCond .eq 7, 3) := by decide +kernel
theorem dL_law_684 : decode cL_law 684 = .ok (.iconst 1, 1) := by decide +kernel
theorem dL_law_685 : decode cL_law 685 = .ok (.goto 4, 3) := by decide +kernel
theorem dL_law_688 : decode cL_law 688 = .ok (.iconst 0, 1) := by decide +kernel
theorem dL_law_689 : decode cL_law 689 = .ok (.aload_n 0, 1) := by decide +kernel
theorem dL_law_690 : decode cL_law 690 = .ok (.iload_n 3, 1) := by decide +kernel
theorem dL_law_691 : decode cL_law 691 = .ok (.iconst 2, 1) := by decide +kernel
theorem dL_law_692 : decode cL_law 692 = .ok (.iadd, 1) := by decide +kernel
theorem dL_law_693 : decode cL_law 693 = .ok (.iaload, 1) := by decide +kernel
theorem dL_law_694 : decode cL_law 694 = .ok (.invokevirtual 91, 3) := by decide +kernel
theorem dL_law_697 : decode cL_law 697 = .ok (.if_icmp .eq 141, 3) := by decide +kernel
theorem dL_law_700 : decode cL_law 700 = .ok (.iconst 0, 1) := by decide +kernel
theorem dL_law_701 : decode cL_law 701 = .ok (.ireturn, 1) := by decide +kernel
theorem dL_law_702 : decode cL_law 702 = .ok (.aload_n 1, 1) := by decide +kernel
theorem dL_law_703 : decode cL_law 703 = .ok (.invokevirtual 92, 3) := by decide +kernel
theorem dL_law_706 : decode cL_law 706 = .ok (.aload_n 2, 1) := by decide +kernel
theorem dL_law_707 : decode cL_law 707 = .ok (.invokevirtual 95, 3) := by decide +kernel
theorem dL_law_710 : decode cL_law 710 = .ok (.if_icmp .eq 128, 3) := by decide +kernel
theorem dL_law_713 : decode cL_law 713 = .ok (.iconst 0, 1) := by decide +kernel
theorem dL_law_714 : decode cL_law 714 = .ok (.ireturn, 1) := by decide +kernel
theorem dL_law_715 : decode cL_law 715 = .ok (.aload_n 1, 1) := by decide +kernel
theorem dL_law_716 : decode cL_law 716 = .ok (.aload_n 0, 1) := by decide +kernel
theorem dL_law_717 : decode cL_law 717 = .ok (.iload_n 3, 1) := by decide +kernel
theorem dL_law_718 : decode cL_law 718 = .ok (.iconst 1, 1) := by decide +kernel
theorem dL_law_719 : decode cL_law 719 = .ok (.iadd, 1) := by decide +kernel
theorem dL_law_720 : decode cL_law 720 = .ok (.iaload, 1) := by decide +kernel
theorem dL_law_721 : decode cL_law 721 = .ok (.aload_n 0, 1) := by decide +kernel
theorem dL_law_722 : decode cL_law 722 = .ok (.iload_n 3, 1) := by decide +kernel
theorem dL_law_723 : decode cL_law 723 = .ok (.iconst 2, 1) := by decide +kernel
theorem dL_law_724 : decode cL_law 724 = .ok (.iadd, 1) := by decide +kernel
theorem dL_law_725 : decode cL_law 725 = .ok (.iaload, 1) := by decide +kernel
theorem dL_law_726 : decode cL_law 726 = .ok (.invokevirtual 96, 3) := by decide +kernel
theorem dL_law_729 : decode cL_law 729 = .ok (.aload_n 2, 1) := by decide +kernel
theorem dL_law_730 : decode cL_law 730 = .ok (.aload_n 0, 1) := by decide +kernel
theorem dL_law_731 : decode cL_law 731 = .ok (.iload_n 3, 1) := by decide +kernel
theorem dL_law_732 : decode cL_law 732 = .ok (.iconst 1, 1) := by decide +kernel
theorem dL_law_733 : decode cL_law 733 = .ok (.iadd, 1) := by decide +kernel
theorem dL_law_734 : decode cL_law 734 = .ok (.iaload, 1) := by decide +kernel
theorem dL_law_735 : decode cL_law 735 = .ok (.aload_n 0, 1) := by decide +kernel
theorem dL_law_736 : decode cL_law 736 = .ok (.iload_n 3, 1) := by decide +kernel
theorem dL_law_737 : decode cL_law 737 = .ok (.iconst 2, 1) := by decide +kernel
theorem dL_law_738 : decode cL_law 738 = .ok (.iadd, 1) := by decide +kernel
theorem dL_law_739 : decode cL_law 739 = .ok (.iaload, 1) := by decide +kernel
theorem dL_law_740 : decode cL_law 740 = .ok (.invokevirtual 99, 3) := by decide +kernel
theorem dL_law_743 : decode cL_law 743 = .ok (.if_icmp .eq 95, 3) := by decide +kernel
theorem dL_law_746 : decode cL_law 746 = .ok (.iconst 0, 1) := by decide +kernel
theorem dL_law_747 : decode cL_law 747 = .ok (.ireturn, 1) := by decide +kernel
theorem dL_law_748 : decode cL_law 748 = .ok (.aload_n 1, 1) := by decide +kernel
theorem dL_law_749 : decode cL_law 749 = .ok (.aload_n 0, 1) := by decide +kernel
theorem dL_law_750 : decode cL_law 750 = .ok (.iload_n 3, 1) := by decide +kernel
theorem dL_law_751 : decode cL_law 751 = .ok (.iconst 1, 1) := by decide +kernel
theorem dL_law_752 : decode cL_law 752 = .ok (.iadd, 1) := by decide +kernel
theorem dL_law_753 : decode cL_law 753 = .ok (.iaload, 1) := by decide +kernel
theorem dL_law_754 : decode cL_law 754 = .ok (.invokevirtual 100, 3) := by decide +kernel
theorem dL_law_757 : decode cL_law 757 = .ok (.aload_n 2, 1) := by decide +kernel
theorem dL_law_758 : decode cL_law 758 = .ok (.aload_n 0, 1) := by decide +kernel
theorem dL_law_759 : decode cL_law 759 = .ok (.iload_n 3, 1) := by decide +kernel
theorem dL_law_760 : decode cL_law 760 = .ok (.iconst 1, 1) := by decide +kernel
theorem dL_law_761 : decode cL_law 761 = .ok (.iadd, 1) := by decide +kernel
theorem dL_law_762 : decode cL_law 762 = .ok (.iaload, 1) := by decide +kernel
theorem dL_law_763 : decode cL_law 763 = .ok (.invokevirtual 103, 3) := by decide +kernel
theorem dL_law_766 : decode cL_law 766 = .ok (.if_icmp .eq 72, 3) := by decide +kernel
theorem dL_law_769 : decode cL_law 769 = .ok (.iconst 0, 1) := by decide +kernel
theorem dL_law_770 : decode cL_law 770 = .ok (.ireturn, 1) := by decide +kernel
theorem dL_law_771 : decode cL_law 771 = .ok (.aload_n 1, 1) := by decide +kernel
theorem dL_law_772 : decode cL_law 772 = .ok (.invokevirtual 104, 3) := by decide +kernel
theorem dL_law_775 : decode cL_law 775 = .ok (.aload_n 2, 1) := by decide +kernel
theorem dL_law_776 : decode cL_law 776 = .ok (.invokevirtual 107, 3) := by decide +kernel
theorem dL_law_779 : decode cL_law 779 = .ok (.if_icmp .eq 59, 3) := by decide +kernel
theorem dL_law_782 : decode cL_law 782 = .ok (.iconst 0, 1) := by decide +kernel
theorem dL_law_783 : decode cL_law 783 = .ok (.ireturn, 1) := by decide +kernel
theorem dL_law_784 : decode cL_law 784 = .ok (.aload_n 1, 1) := by decide +kernel
theorem dL_law_785 : decode cL_law 785 = .ok (.invokevirtual 108, 3) := by decide +kernel
theorem dL_law_788 : decode cL_law 788 = .ok (.aload_n 2, 1) := by decide +kernel
theorem dL_law_789 : decode cL_law 789 = .ok (.invokevirtual 111, 3) := by decide +kernel
theorem dL_law_792 : decode cL_law 792 = .ok (.if_icmp .eq 46, 3) := by decide +kernel
theorem dL_law_795 : decode cL_law 795 = .ok (.iconst 0, 1) := by decide +kernel
theorem dL_law_796 : decode cL_law 796 = .ok (.ireturn, 1) := by decide +kernel
theorem dL_law_797 : decode cL_law 797 = .ok (.aload_n 1, 1) := by decide +kernel
theorem dL_law_798 : decode cL_law 798 = .ok (.invokevirtual 112, 3) := by decide +kernel
theorem dL_law_801 : decode cL_law 801 = .ok (.dstore 4, 2) := by decide +kernel
theorem dL_law_803 : decode cL_law 803 = .ok (.aload_n 2, 1) := by decide +kernel
theorem dL_law_804 : decode cL_law 804 = .ok (.invokevirtual 116, 3) := by decide +kernel
theorem dL_law_807 : decode cL_law 807 = .ok (.dstore 6, 2) := by decide +kernel
theorem dL_law_809 : decode cL_law 809 = .ok (.dload 4, 2) := by decide +kernel
theorem dL_law_811 : decode cL_law 811 = .ok (.dload 6, 2) := by decide +kernel
theorem dL_law_813 : decode cL_law 813 = .ok (.dcmp .l, 1) := by decide +kernel
theorem dL_law_814 : decode cL_law 814 = .ok (.ifCond .eq 21, 3) := by decide +kernel
theorem dL_law_817 : decode cL_law 817 = .ok (.dload 4, 2) := by decide +kernel
theorem dL_law_819 : decode cL_law 819 = .ok (.dload 4, 2) := by decide +kernel
theorem dL_law_821 : decode cL_law 821 = .ok (.dcmp .l, 1) := by decide +kernel
theorem dL_law_822 : decode cL_law 822 = .ok (.ifCond .eq 11, 3) := by decide +kernel
theorem dL_law_825 : decode cL_law 825 = .ok (.dload 6, 2) := by decide +kernel
theorem dL_law_827 : decode cL_law 827 = .ok (.dload 6, 2) := by decide +kernel
theorem dL_law_829 : decode cL_law 829 = .ok (.dcmp .l, 1) := by decide +kernel
theorem dL_law_830 : decode cL_law 830 = .ok (.ifCond .ne 5, 3) := by decide +kernel
theorem dL_law_833 : decode cL_law 833 = .ok (.iconst 0, 1) := by decide +kernel
theorem dL_law_834 : decode cL_law 834 = .ok (.ireturn, 1) := by decide +kernel
theorem dL_law_835 : decode cL_law 835 = .ok (.goto 3, 3) := by decide +kernel
theorem dL_law_838 : decode cL_law 838 = .ok (.iinc 3 4, 3) := by decide +kernel
theorem dL_law_841 : decode cL_law 841 = .ok (.goto (-823), 3) := by decide +kernel
theorem dL_law_844 : decode cL_law 844 = .ok (.iconst 1, 1) := by decide +kernel
theorem dL_law_845 : decode cL_law 845 = .ok (.ireturn, 1) := by decide +kernel
abbrev vwCl : List vw_C := [(RX0, TX0, 1), (RX1, TX1, 3), (RX2, TX2, 5), (RX3, TX3, 1), (RX4, TX4, 6), (RX5, TX5, 8), (RX6, TX6, 18)]
end
section
/-! a thin layer over the kit: a walk's goal says the world, the counter, the locals and the stack; heaps stay inside -/
/-- the nest mates' words that the tables have -/
def g_nw : List Cond := [
  .fieldLinkNest "FenceHandshakes$History" 24 "FenceHandshakes$Clans" "cells" "[I" "FenceHandshakes",
  .methodLinkNest "FenceHandshakes" 24 ⟨"FenceHandshakes$History", "<init>", "()V"⟩ "FenceHandshakes",
  .methodLinkNest "FenceHandshakes" 31 ⟨"FenceHandshakes$WishText", "<init>", "()V"⟩ "FenceHandshakes",
  .methodLinkNest "FenceHandshakes" 38 ⟨"FenceHandshakes$Matching", "<init>", "()V"⟩ "FenceHandshakes",
  .methodLinkNest "FenceHandshakes" 45 ⟨"FenceHandshakes$Plan", "<init>", "()V"⟩ "FenceHandshakes",
  .methodLinkNest "FenceHandshakes$Clans" 21 ⟨"FenceHandshakes", "hasBit", "(II)Z"⟩ "FenceHandshakes",
  .methodLinkNest "FenceHandshakes$Matching" 47 ⟨"FenceHandshakes", "hasBit", "(II)Z"⟩ "FenceHandshakes",
  .methodLinkNest "FenceHandshakes$Matching" 54 ⟨"FenceHandshakes", "isPerson", "(I)Z"⟩ "FenceHandshakes",
  .methodLinkNest "FenceHandshakes$Matching" 24 ⟨"FenceHandshakes", "asNumber", "(Z)I"⟩ "FenceHandshakes",
  .methodLinkNest "FenceHandshakes$WishText" 53 ⟨"FenceHandshakes", "hasBit", "(II)Z"⟩ "FenceHandshakes",
  .methodLinkNest "FenceHandshakes$Clans" 48 ⟨"FenceHandshakes", "asNumber", "(Z)I"⟩ "FenceHandshakes",
  .methodLinkNest "FenceHandshakes$Plan" 49 ⟨"FenceHandshakes", "hasBit", "(II)Z"⟩ "FenceHandshakes",
  .methodLinkNest "FenceHandshakes$Plan" 52 ⟨"FenceHandshakes", "isPerson", "(I)Z"⟩ "FenceHandshakes"]
theorem g_nw_form : ∀ w ∈ g_nw, (∃ a i b n d h, w = Cond.fieldLinkNest a i b n d h) ∨ (∃ a i x h, w = Cond.methodLinkNest a i x h) := by
  intro w hw
  simp only [g_nw, List.mem_cons, List.not_mem_nil, or_false] at hw
  rcases hw with rfl | rfl | rfl | rfl | rfl | rfl | rfl | rfl | rfl | rfl | rfl | rfl | rfl <;> first | exact Or.inl ⟨_, _, _, _, _, _, rfl⟩ | exact Or.inr ⟨_, _, _, _, rfl⟩
def g_N (U : State) : Prop := ∀ w ∈ g_nw, va_Nw w U
theorem g_N.warm {s U : State} (hW : s.WarmedH U.vm) (h : g_N s) : g_N U := by
  intro w hw
  have h1 := h w hw
  rcases g_nw_form w hw with ⟨a, i, b, n, d, hh, rfl⟩ | ⟨a, i, x, hh, rfl⟩
  · exact va_Nw.warmF hW h1
  · exact va_Nw.warmM hW h1
theorem g_N.same {u U : State} (e : u.vm = U.vm) (h : g_N u) : g_N U := by
  intro w hw
  have h1 := h w hw
  rcases g_nw_form w hw with ⟨a, i, b, n, d, hh, rfl⟩ | ⟨a, i, x, hh, rfl⟩
  · exact va_Nw.same rfl e h1
  · exact va_Nw.same rfl e h1
/-- cells put back at their places -/
def g_pb : va_W → List Nat → va_W → va_W
  | ws, i :: is, q :: qs => g_pb (ws.set i q) is qs
  | ws, [], _ => ws
  | ws, _, [] => ws
theorem g_pb_get : ∀ (is : List Nat) (ws qs : va_W) (k : Nat) (q : Nat × va_E), is.length = qs.length → (g_pb ws is qs)[k]? = some q → (∃ j : Nat, is[j]? = some k ∧ qs[j]? = some q) ∨ (k ∉ is ∧ ws[k]? = some q)
  | [], ws, [], k, q, _, h => Or.inr ⟨List.not_mem_nil, h⟩
  | [], ws, q0 :: qs, k, q, hl, h => by simp at hl
  | i :: is, ws, [], k, q, hl, h => by simp at hl
  | i :: is, ws, q0 :: qs, k, q, hl, h => by
    rcases g_pb_get is (ws.set i q0) qs k q (by simpa using hl) h with ⟨j, h1, h2⟩ | ⟨h1, h2⟩
    · exact Or.inl ⟨j + 1, by rw [List.getElem?_cons_succ]; exact h1, by rw [List.getElem?_cons_succ]; exact h2⟩
    · by_cases hk : i = k
      · subst hk
        have hlt : i < ws.length := by
          have := (List.getElem?_eq_some_iff.mp h2).1
          rwa [List.length_set] at this
        rw [List.getElem?_set_self hlt] at h2
        exact Or.inl ⟨0, rfl, by rw [List.getElem?_cons_zero]; exact h2⟩
      · rw [List.getElem?_set_ne hk] at h2
        exact Or.inr ⟨fun h => (List.mem_cons.mp h).elim (fun e => hk e.symm) h1, h2⟩
theorem g_setfst : ∀ (ws : va_W) (i : Nat) (q : Nat × va_E), (ws.map (·.1))[i]? = some q.1 → (ws.set i q).map (·.1) = ws.map (·.1)
  | [], i, q, h => by simp at h
  | w :: ws, 0, q, h => by
    simp only [List.map_cons, List.getElem?_cons_zero, Option.some.injEq] at h
    simp [h]
  | w :: ws, i + 1, q, h => by
    simp only [List.map_cons, List.getElem?_cons_succ] at h
    simp only [List.set_cons_succ, List.map_cons, g_setfst ws i q h]
theorem g_pb_fst : ∀ (is : List Nat) (ws qs : va_W), is.map (fun i => (ws.map (·.1))[i]?) = (qs.map (·.1)).map some → (g_pb ws is qs).map (·.1) = ws.map (·.1)
  | [], ws, [], _ => rfl
  | [], ws, q :: qs, h => by simp at h
  | i :: is, ws, [], h => by simp at h
  | i :: is, ws, q :: qs, h => by
    simp only [List.map_cons, List.cons.injEq] at h
    have e := g_setfst ws i q h.1
    show (g_pb (ws.set i q) is qs).map (·.1) = _
    rw [g_pb_fst is (ws.set i q) qs (by rw [e]; exact h.2), e]
theorem g_D_fst {A : Nat → Prop} {ws ws' : va_W} (e : ws'.map (·.1) = ws.map (·.1)) (h : va_D A ws) : va_D A ws' := by
  have key : ∀ (k : Nat) (q : Nat × va_E), ws'[k]? = some q → ∃ q0, ws[k]? = some q0 ∧ q0.1 = q.1 := by
    intro k q hk
    have h1 : (ws'.map (·.1))[k]? = some q.1 := by rw [List.getElem?_map, hk]; rfl
    rw [e, List.getElem?_map] at h1
    cases hq : ws[k]? with
    | none => rw [hq] at h1; cases h1
    | some q0 => rw [hq] at h1; exact ⟨q0, rfl, Option.some.inj h1⟩
  refine ⟨fun i j x y hi hj hxy => ?_, fun k q hk => ?_⟩
  · obtain ⟨x0, h1, h2⟩ := key i x hi
    obtain ⟨y0, h3, h4⟩ := key j y hj
    exact h.1 i j x0 y0 h1 h3 (h2.trans (hxy.trans h4.symm))
  · obtain ⟨q0, h1, h2⟩ := key k q hk
    rw [← h2]
    exact h.2 k q0 h1
theorem g_at {isC : List Nat} {ws wc : va_W} (hC : isC.map (fun i => ws[i]?) = wc.map some) {k : Nat} {q : Nat × va_E} (hk : wc[k]? = some q) : ∃ i, isC[k]? = some i ∧ ws[i]? = some q := by
  have h1 : (isC.map (fun i => ws[i]?))[k]? = some (some q) := by rw [hC, List.getElem?_map, hk]; rfl
  rw [List.getElem?_map] at h1
  cases hi : isC[k]? with
  | none => rw [hi] at h1; cases h1
  | some i => rw [hi] at h1; exact ⟨i, rfl, Option.some.inj h1⟩
theorem g_Psub {D : va_G} {cl : List vw_C} {isC : List Nat} {ws wc : va_W} {H : Heap} (hP : va_P D cl ws H) (hC : isC.map (fun i => ws[i]?) = wc.map some) : va_P D cl wc H := by
  intro k q hk
  obtain ⟨i, -, h2⟩ := g_at hC hk
  exact hP i q h2
theorem g_back {A0 : Nat → Prop} {D : va_G} {cl : List vw_C} {ws wc w1 : va_W} {H H1 : Heap} (hP : va_P D cl ws H) (hD : va_D A0 ws) (isC : List Nat) (hC : isC.map (fun i => ws[i]?) = wc.map some)
    (hk : ∀ q : Nat, q < H.size → ¬ va_A wc H.size q → H1[q]? = H[q]?) (hf : w1.map (·.1) = wc.map (·.1)) (hP1 : va_P D cl w1 H1) : va_P D cl (g_pb ws isC w1) H1 ∧ va_D A0 (g_pb ws isC w1) := by
  have hlen : isC.length = w1.length := by
    have h1 := congrArg List.length hC
    have h2 := congrArg List.length hf
    simp only [List.length_map] at h1 h2
    omega
  constructor
  · intro k q hq
    rcases g_pb_get isC ws w1 k q hlen hq with ⟨j, -, h2⟩ | ⟨h1, h2⟩
    · exact hP1 j q h2
    · have hl := (hP k q h2).lt
      refine (hP k q h2).kept (hk q.1 hl ?_)
      rintro (⟨k2, e, h⟩ | h)
      · obtain ⟨i, h3, h4⟩ := g_at hC h
        have hij := hD.1 k i q (q.1, e) h2 h4 rfl
        subst hij
        exact h1 (List.mem_of_getElem? h3)
      · omega
  · refine g_D_fst (g_pb_fst isC ws w1 ?_) hD
    rw [hf]
    have : isC.map (fun i => (ws.map (·.1))[i]?) = (isC.map (fun i => ws[i]?)).map (fun o => o.map (·.1)) := by
      rw [List.map_map]
      exact List.map_congr_left (fun i _ => by simp [List.getElem?_map])
    rw [this, hC]
    simp [List.map_map, Function.comp_def]
/-- a method's start -/
def g_PS (D : va_G) (cI cC : ClassId) (w : va_W) (sz : Nat) (U : State) : Prop := U.heap.size = sz ∧ va_P D vwCl w U.heap ∧ va_K D vwCl [(cI, .int), (cC, .char)] U ∧ g_N U ∧ va_D (fun _ => True) w
/-- a method's end: its answer and its world -/
def g_Q (D : va_G) (w : va_W) (A : Nat → Prop) (post : Option Value → va_W → Prop) : Array Value → State → Outcome → State → Prop := fun _ st oc t => (∃ (v : Option Value) (w' : va_W), oc = .returned v ∧ post v w' ∧ w'.map (·.1) = w.map (·.1) ∧ va_P D vwCl w' t.heap) ∧ va_F A st t
/-- a contract -/
def g_M (l : Launch) (y : MethodName) (ws : List Cond) (rm : Room) (D : va_G) (cI cC : ClassId) (av : List Value) (w : va_W) (post : Option Value → va_W → Prop) : Prop := ∀ sz : Nat, Met l y ws rm (va_Pc av (g_PS D cI cC w sz)) (g_Q D w (va_A w sz) post) 0 0 (va_A w sz)
theorem g_blind {D : va_G} {cI cC : ClassId} {av : List Value} {w : va_W} {sz : Nat} : FrameBlind (va_Pc av (g_PS D cI cC w sz)) := fun a U g mk q => ⟨q.1, q.2.1, q.2.2.1, va_K.moved (u := U) (U := U.calling g mk a) (Vm.Alike.refl U.vm) q.2.2.2.1, g_N.same (u := U) (U := U.calling g mk a) rfl q.2.2.2.2.1, q.2.2.2.2.2⟩
/-- what holds all through a walk -/
def g_C (p : Program) (s : State) (m : MethodId) (args : Array Value) (meth : Method) (c : Code) (cc : ByteArray) (nL : Nat) (own : String) (Ts : List Cond) (D : va_G) (cI cC : ClassId) (A : Nat → Prop) : Prop :=
  CallFix p m c cc nL s args Ts own ∧ va_K D vwCl [(cI, .int), (cC, .char)] s ∧ g_N s ∧ (∀ q : Nat, s.heap.size ≤ q → A q) ∧ meth.locks = false
/-- the walk's goal -/
def g_J (p : Program) (l : Launch) (e : Env) (R : Room) (s : State) (m : MethodId) (args : Array Value) (below : List Frame) (meth : Method) (c : Code) (Q : State → Prop) (D : va_G) (A : Nat → Prop) (nL k n : Nat) (ws : va_W) (pc : Nat) (lv : List (Nat × Value)) (st : List Value) : Prop :=
  ∀ (H : Heap) (locs : List Loc) (ls : Array Slot), va_P D vwCl ws H → va_D A ws → va_S A s.heap H locs → lv_has ls nL lv → W p l e R s m args below meth c H locs k n Q (F0 m pc ls st)
def bI (b : Bool) : Int32 := if b then 1 else 0
theorem bI_t : bI true = 1 := rfl
theorem bI_f : bI false = 0 := rfl
theorem bI_ne (b : Bool) : bI b = 0 ↔ b = false := by cases b <;> decide
theorem bI_eq (b : Bool) : bI b = 1 ↔ b = true := by cases b <;> decide
theorem bI_nI (b : Bool) : bI b = nI (if b then 1 else 0) := by cases b <;> rfl
theorem g_entry {l : Launch} {y : MethodName} {ws ws' : List Cond} {rm : Room} {D : va_G} {cI cC : ClassId} {av : List Value} {w : va_W} {post : Option Value → va_W → Prop} {cc : ByteArray} {maxL : Nat} {ret : Option FieldType} {own : String} {lv : List (Nat × Value)}
    (hy : plainName y.cls = true) (ho : y.cls = own) (hw : ws = Cond.code y cc maxL ret :: ws') (hlen : (lg_sl av).length ≤ maxL) (hlv : lv_args 0 av = lv)
    (body : ∀ (p : Program) (e : Env) (s : State) (m : MethodId) (args : Array Value) (below : List Frame) (meth : Method) (c : Code) (A : Nat → Prop) (Q : State → Prop), g_C p s m args meth c cc maxL own ws D cI cC A → meth.sig.returnType = ret → Q = MQ below (g_Q D w A post) args s 0 0 A → g_J p l e rm s m args below meth c Q D A maxL 0 0 w 0 lv []) : g_M l y ws rm D cI cC av w post := by
  intro sz
  refine Met.ofW (cc := cc) (maxL := maxL) (ret := ret) hy hw ?_
  intro p e s m args below meth c s₁ B hml hv
  obtain ⟨rfl, hsz, hP, hK, hN, hD0⟩ := hv
  have hts := atoms_spec (ws := ws) B.pre
  have hown : s.vm.findClass y.cls = some m.cls := findClass_of_methodNamed B.named
  subst hsz
  have hD := hD0.self (sz := s.heap.size)
  have hl := lv_entry av (n := maxL) hlen
  rw [lg_entry_eq]
  refine body p e s m _ below meth c (va_A w s.heap.size) _ ⟨⟨B.exec, B.bytes, hml, by rw [← ho]; exact hown, hts⟩, hK, hN, fun q h => Or.inr h, B.notSynchronized⟩ B.returns rfl s.heap [] _ hP hD va_S.rf ?_
  rw [← hlv]
  exact hl
/-! numbers -/
theorem g_and (a b : Nat) : nI a &&& nI b = nI (a &&& b) := by
  apply Int32.toBitVec_inj.mp
  show BitVec.ofNat 32 a &&& BitVec.ofNat 32 b = BitVec.ofNat 32 (a &&& b)
  exact (BitVec.ofNat_and).symm
theorem g_or (a b : Nat) : nI a ||| nI b = nI (a ||| b) := by
  apply Int32.toBitVec_inj.mp
  show BitVec.ofNat 32 a ||| BitVec.ofNat 32 b = BitVec.ofNat 32 (a ||| b)
  exact (BitVec.ofNat_or).symm
theorem g_xor (a b : Nat) : nI a ^^^ nI b = nI (a ^^^ b) := by
  apply Int32.toBitVec_inj.mp
  show BitVec.ofNat 32 a ^^^ BitVec.ofNat 32 b = BitVec.ofNat 32 (a ^^^ b)
  exact (BitVec.ofNat_xor).symm
def g_nand (x y : Nat) : Nat := x &&& (4294967295 ^^^ y)
theorem g_nand_eq (x y : Nat) : nI x &&& (nI y ^^^ (-1)) = nI (g_nand x y) := by
  have h : (-1 : Int32) = nI 4294967295 := by decide
  rw [h, g_xor, g_and, Nat.xor_comm]
  rfl
theorem g_nand_bit (x y i : Nat) (hi : i < 32) : (g_nand x y).testBit i = (x.testBit i && !y.testBit i) := by
  have h : (4294967295 : Nat).testBit i = true := by
    rw [show (4294967295 : Nat) = 2 ^ 32 - 1 by decide, Nat.testBit_two_pow_sub_one]
    exact decide_eq_true hi
  rw [g_nand, Nat.testBit_and, Nat.testBit_xor, h]
  cases y.testBit i <;> rfl
theorem g_sh31 : ∀ n, n < 32 → (nI n &&& 31) = nI n ∧ ((nI n &&& 31).toBitVec.smod 32).toNat = n := by decide
theorem g_shl (a : Nat) {n : Nat} (hn : n < 32) : nI a <<< (nI n &&& 31) = nI (a <<< n) := by
  apply Int32.toBitVec_inj.mp
  rw [Int32.toBitVec_shiftLeft]
  have h := (g_sh31 n hn).2
  rw [BitVec.shiftLeft_eq', h]
  show BitVec.ofNat 32 a <<< n = BitVec.ofNat 32 (a <<< n)
  apply BitVec.eq_of_toNat_eq
  rw [BitVec.toNat_shiftLeft, BitVec.toNat_ofNat, BitVec.toNat_ofNat, Nat.shiftLeft_eq, Nat.shiftLeft_eq, Nat.mod_mul_mod]
theorem g_shr {a : Nat} (ha : a < 2 ^ 31) {n : Nat} (hn : n < 32) : nI a >>> (nI n &&& 31) = nI (a >>> n) := by
  rw [pk_shrN ha _ n (g_sh31 n hn).2, Nat.shiftRight_eq_div_pow]
section GROWS
variable {p : Program} {l : Launch} {e : Env} {R : Room} {s : State} {m : MethodId} {args : Array Value} {below : List Frame} {meth : Method} {c : Code} {Q : State → Prop} {D : va_G} {A : Nat → Prop} {nL k n : Nat} {ws ws' : va_W} {pc : Nat} {lv lv' : List (Nat × Value)} {rest st st' : List Value}
variable {cc : ByteArray} {own : String} {Ts : List Cond} {cI cC : ClassId}
theorem g_eq (hw : ws = ws') (hs : st = st') (K : g_J p l e R s m args below meth c Q D A nL k n ws' pc lv st') : g_J p l e R s m args below meth c Q D A nL k n ws pc lv st := by subst hw; subst hs; exact K
theorem g_ws (hw : ws = ws') (K : g_J p l e R s m args below meth c Q D A nL k n ws' pc lv st) : g_J p l e R s m args below meth c Q D A nL k n ws pc lv st := by subst hw; exact K
theorem g_lvp (ks : List Nat) (hl : lv_pick lv ks = lv') (K : g_J p l e R s m args below meth c Q D A nL k n ws pc lv' st) : g_J p l e R s m args below meth c Q D A nL k n ws pc lv st := fun H locs ls hP hD hS hv => K H locs ls hP hD hS (lv_sub hv ks hl)
theorem g_top {x y : Int32} (h : x = y) (K : g_J p l e R s m args below meth c Q D A nL k n ws pc lv (.int y :: rest)) : g_J p l e R s m args below meth c Q D A nL k n ws pc lv (.int x :: rest) := by subst h; exact K
theorem g_name {x : Int32} (K : ∀ y : Int32, y = x → g_J p l e R s m args below meth c Q D A nL k n ws pc lv (.int y :: rest)) : g_J p l e R s m args below meth c Q D A nL k n ws pc lv (.int x :: rest) := K x rfl
theorem g_iconst (C : g_C p s m args meth c cc nL own Ts D cI cC A) {j : Int} {v : Int32} (hd : decode cc pc = .ok (.iconst j, 1)) (hv : Int32.ofInt j = v) (K : g_J p l e R s m args below meth c Q D A nL k n ws (pc + 1) lv (.int v :: st)) : g_J p l e R s m args below meth c Q D A nL k n ws pc lv st := fun H locs ls hP hD hS hl => lv_iconst C.1.1 C.1.2.1 hd hv (K H locs ls hP hD hS hl)
theorem g_bipush (C : g_C p s m args meth c cc nL own Ts D cI cC A) {j : Int} {v : Int32} (hd : decode cc pc = .ok (.bipush j, 2)) (hv : (Int8.ofInt j).toInt32 = v) (K : g_J p l e R s m args below meth c Q D A nL k n ws (pc + 2) lv (.int v :: st)) : g_J p l e R s m args below meth c Q D A nL k n ws pc lv st := fun H locs ls hP hD hS hl => lv_bipush C.1.1 C.1.2.1 hd hv (K H locs ls hP hD hS hl)
theorem g_sipush (C : g_C p s m args meth c cc nL own Ts D cI cC A) {j : Int} {v : Int32} (hd : decode cc pc = .ok (.sipush j, 3)) (hv : (Int16.ofInt j).toInt32 = v) (K : g_J p l e R s m args below meth c Q D A nL k n ws (pc + 3) lv (.int v :: st)) : g_J p l e R s m args below meth c Q D A nL k n ws pc lv st := fun H locs ls hP hD hS hl => lv_sipush C.1.1 C.1.2.1 hd hv (K H locs ls hP hD hS hl)
theorem g_ldcw (C : g_C p s m args meth c cc nL own Ts D cI cC A) {j : Nat} {v : Int32} (hd : decode cc pc = .ok (.ldc_w j, 3)) (hv : Jvm.Cond.constant own j v ∈ Ts) (K : g_J p l e R s m args below meth c Q D A nL k n ws (pc + 3) lv (.int v :: st)) : g_J p l e R s m args below meth c Q D A nL k n ws pc lv st := fun H locs ls hP hD hS hl => lv_ldcw C.1.1 C.1.2.1 C.1.2.2.2.1 (C.1.2.2.2.2 _ hv) hd (K H locs ls hP hD hS hl)
theorem g_iload_n (C : g_C p s m args meth c cc nL own Ts D cI cC A) {j : Fin 4} {i : Nat} {x : Int32} (hd : decode cc pc = .ok (.iload_n j, 1)) (q : Nat) (hj : (j : Nat) = i) (hq : lv[q]? = some (i, .int x)) (K : g_J p l e R s m args below meth c Q D A nL k n ws (pc + 1) lv (.int x :: st)) : g_J p l e R s m args below meth c Q D A nL k n ws pc lv st := fun H locs ls hP hD hS hl => lv_iload_n C.1.1 C.1.2.1 hd hj (lv_at hl q hq) (K H locs ls hP hD hS hl)
theorem g_iload (C : g_C p s m args meth c cc nL own Ts D cI cC A) {i : Nat} {x : Int32} (hd : decode cc pc = .ok (.iload i, 2)) (q : Nat) (hq : lv[q]? = some (i, .int x)) (K : g_J p l e R s m args below meth c Q D A nL k n ws (pc + 2) lv (.int x :: st)) : g_J p l e R s m args below meth c Q D A nL k n ws pc lv st := fun H locs ls hP hD hS hl => lv_iload C.1.1 C.1.2.1 hd (lv_at hl q hq) (K H locs ls hP hD hS hl)
theorem g_aload_n (C : g_C p s m args meth c cc nL own Ts D cI cC A) {j : Fin 4} {i : Nat} {x : Nat} (hd : decode cc pc = .ok (.aload_n j, 1)) (q : Nat) (hj : (j : Nat) = i) (hq : lv[q]? = some (i, .ref x)) (K : g_J p l e R s m args below meth c Q D A nL k n ws (pc + 1) lv (.ref x :: st)) : g_J p l e R s m args below meth c Q D A nL k n ws pc lv st := fun H locs ls hP hD hS hl => lv_aload_n C.1.1 C.1.2.1 hd hj (lv_at hl q hq) (K H locs ls hP hD hS hl)
theorem g_istore_n (C : g_C p s m args meth c cc nL own Ts D cI cC A) {j : Fin 4} {i : Nat} {x : Int32} (hd : decode cc pc = .ok (.istore_n j, 1)) (hj : (j : Nat) = i) (hn : i < nL) (hl0 : (i, Value.int x) :: lv.filter (fun q => !(q.1 == i) && !(q.1 + 1 == i && q.2.category == 2)) = lv') (K : g_J p l e R s m args below meth c Q D A nL k n ws (pc + 1) lv' st) : g_J p l e R s m args below meth c Q D A nL k n ws pc lv (.int x :: st) := fun H locs ls hP hD hS hl => lv_istore_n C.1.1 C.1.2.1 hd hj hl hn hl0 (fun ls' hl' => K H locs ls' hP hD hS hl')
theorem g_istore (C : g_C p s m args meth c cc nL own Ts D cI cC A) {i : Nat} {x : Int32} (hd : decode cc pc = .ok (.istore i, 2)) (hn : i < nL) (hl0 : (i, Value.int x) :: lv.filter (fun q => !(q.1 == i) && !(q.1 + 1 == i && q.2.category == 2)) = lv') (K : g_J p l e R s m args below meth c Q D A nL k n ws (pc + 2) lv' st) : g_J p l e R s m args below meth c Q D A nL k n ws pc lv (.int x :: st) := fun H locs ls hP hD hS hl => lv_istore C.1.1 C.1.2.1 hd hl hn hl0 (fun ls' hl' => K H locs ls' hP hD hS hl')
theorem g_astore_n (C : g_C p s m args meth c cc nL own Ts D cI cC A) {j : Fin 4} {i : Nat} {x : Nat} (hd : decode cc pc = .ok (.astore_n j, 1)) (hj : (j : Nat) = i) (hn : i < nL) (hl0 : (i, Value.ref x) :: lv.filter (fun q => !(q.1 == i) && !(q.1 + 1 == i && q.2.category == 2)) = lv') (K : g_J p l e R s m args below meth c Q D A nL k n ws (pc + 1) lv' st) : g_J p l e R s m args below meth c Q D A nL k n ws pc lv (.ref x :: st) := fun H locs ls hP hD hS hl => lv_astore_n C.1.1 C.1.2.1 hd hj hl hn hl0 (fun ls' hl' => K H locs ls' hP hD hS hl')
theorem g_iinc (C : g_C p s m args meth c cc nL own Ts D cI cC A) {i : Nat} {j : Int} {x v : Int32} (hd : decode cc pc = .ok (.iinc i j, 3)) (q : Nat) (hq : lv[q]? = some (i, .int x)) (hv : x + Int32.ofInt j = v) (hn : i < nL) (hl0 : (i, Value.int v) :: lv.filter (fun q => !(q.1 == i) && !(q.1 + 1 == i && q.2.category == 2)) = lv') (K : g_J p l e R s m args below meth c Q D A nL k n ws (pc + 3) lv' st) : g_J p l e R s m args below meth c Q D A nL k n ws pc lv st := fun H locs ls hP hD hS hl => lv_iinc C.1.1 C.1.2.1 hd hl hq hv hn hl0 (fun ls' hl' => K H locs ls' hP hD hS hl')
theorem g_iadd (C : g_C p s m args meth c cc nL own Ts D cI cC A) {x y : Int32} (hd : decode cc pc = .ok (.iadd, 1)) (K : g_J p l e R s m args below meth c Q D A nL k n ws (pc + 1) lv (.int (x + y) :: st)) : g_J p l e R s m args below meth c Q D A nL k n ws pc lv (.int y :: .int x :: st) := fun H locs ls hP hD hS hl => lv_iadd C.1.1 C.1.2.1 hd (K H locs ls hP hD hS hl)
theorem g_iaddN (C : g_C p s m args meth c cc nL own Ts D cI cC A) {x y : Nat} (hd : decode cc pc = .ok (.iadd, 1)) (K : g_J p l e R s m args below meth c Q D A nL k n ws (pc + 1) lv (.int (nI (x + y)) :: st)) : g_J p l e R s m args below meth c Q D A nL k n ws pc lv (.int (nI y) :: .int (nI x) :: st) := g_iadd C hd (g_top (nI_add x y) K)
theorem g_isub (C : g_C p s m args meth c cc nL own Ts D cI cC A) {x y : Int32} (hd : decode cc pc = .ok (.isub, 1)) (K : g_J p l e R s m args below meth c Q D A nL k n ws (pc + 1) lv (.int (x - y) :: st)) : g_J p l e R s m args below meth c Q D A nL k n ws pc lv (.int y :: .int x :: st) := fun H locs ls hP hD hS hl => lv_isub C.1.1 C.1.2.1 hd (K H locs ls hP hD hS hl)
theorem g_isubN (C : g_C p s m args meth c cc nL own Ts D cI cC A) {x y : Nat} (hd : decode cc pc = .ok (.isub, 1)) (h : y ≤ x) (K : g_J p l e R s m args below meth c Q D A nL k n ws (pc + 1) lv (.int (nI (x - y)) :: st)) : g_J p l e R s m args below meth c Q D A nL k n ws pc lv (.int (nI y) :: .int (nI x) :: st) := g_isub C hd (g_top (pk_sub h) K)
theorem g_imul (C : g_C p s m args meth c cc nL own Ts D cI cC A) {x y : Int32} (hd : decode cc pc = .ok (.imul, 1)) (K : g_J p l e R s m args below meth c Q D A nL k n ws (pc + 1) lv (.int (x * y) :: st)) : g_J p l e R s m args below meth c Q D A nL k n ws pc lv (.int y :: .int x :: st) := fun H locs ls hP hD hS hl => lv_imul C.1.1 C.1.2.1 hd (K H locs ls hP hD hS hl)
theorem g_imulN (C : g_C p s m args meth c cc nL own Ts D cI cC A) {x y : Nat} (hd : decode cc pc = .ok (.imul, 1)) (K : g_J p l e R s m args below meth c Q D A nL k n ws (pc + 1) lv (.int (nI (x * y)) :: st)) : g_J p l e R s m args below meth c Q D A nL k n ws pc lv (.int (nI y) :: .int (nI x) :: st) := g_imul C hd (g_top (pk_mul x y) K)
theorem g_idivN (C : g_C p s m args meth c cc nL own Ts D cI cC A) {x y : Nat} (hd : decode cc pc = .ok (.idiv, 1)) (hx : x < 2 ^ 31) (h0 : 0 < y) (hy : y < 2 ^ 31) (K : g_J p l e R s m args below meth c Q D A nL k n ws (pc + 1) lv (.int (nI (x / y)) :: st)) : g_J p l e R s m args below meth c Q D A nL k n ws pc lv (.int (nI y) :: .int (nI x) :: st) := fun H locs ls hP hD hS hl => lv_idiv C.1.1 C.1.2.1 hd (nI_ne0 h0 hy) (by rw [pk_div hx h0 hy]; exact K H locs ls hP hD hS hl)
theorem g_irem0 (C : g_C p s m args meth c cc nL own Ts D cI cC A) {x y : Int32} (hd : decode cc pc = .ok (.irem, 1)) (hne : ¬ y = 0) (K : g_J p l e R s m args below meth c Q D A nL k n ws (pc + 1) lv (.int (x - x / y * y) :: st)) : g_J p l e R s m args below meth c Q D A nL k n ws pc lv (.int y :: .int x :: st) := fun H locs ls hP hD hS hl => lv_irem C.1.1 C.1.2.1 hd hne (K H locs ls hP hD hS hl)
theorem g_iremN (C : g_C p s m args meth c cc nL own Ts D cI cC A) {x y : Nat} (hd : decode cc pc = .ok (.irem, 1)) (hx : x < 2 ^ 31) (h0 : 0 < y) (hy : y < 2 ^ 31) (K : g_J p l e R s m args below meth c Q D A nL k n ws (pc + 1) lv (.int (nI (x % y)) :: st)) : g_J p l e R s m args below meth c Q D A nL k n ws pc lv (.int (nI y) :: .int (nI x) :: st) := g_irem0 C hd (nI_ne0 h0 hy) (g_top (pk_rem hx h0 hy) K)
theorem g_iand (C : g_C p s m args meth c cc nL own Ts D cI cC A) {x y : Int32} (hd : decode cc pc = .ok (.iand, 1)) (K : g_J p l e R s m args below meth c Q D A nL k n ws (pc + 1) lv (.int (x &&& y) :: st)) : g_J p l e R s m args below meth c Q D A nL k n ws pc lv (.int y :: .int x :: st) := fun H locs ls hP hD hS hl => lv_iand C.1.1 C.1.2.1 hd (K H locs ls hP hD hS hl)
theorem g_ior (C : g_C p s m args meth c cc nL own Ts D cI cC A) {x y : Int32} (hd : decode cc pc = .ok (.ior, 1)) (K : g_J p l e R s m args below meth c Q D A nL k n ws (pc + 1) lv (.int (x ||| y) :: st)) : g_J p l e R s m args below meth c Q D A nL k n ws pc lv (.int y :: .int x :: st) := fun H locs ls hP hD hS hl => lv_ior C.1.1 C.1.2.1 hd (K H locs ls hP hD hS hl)
theorem g_ixor (C : g_C p s m args meth c cc nL own Ts D cI cC A) {x y : Int32} (hd : decode cc pc = .ok (.ixor, 1)) (K : g_J p l e R s m args below meth c Q D A nL k n ws (pc + 1) lv (.int (x ^^^ y) :: st)) : g_J p l e R s m args below meth c Q D A nL k n ws pc lv (.int y :: .int x :: st) := fun H locs ls hP hD hS hl => lv_ixor C.1.1 C.1.2.1 hd (K H locs ls hP hD hS hl)
theorem g_ishl (C : g_C p s m args meth c cc nL own Ts D cI cC A) {x y : Int32} (hd : decode cc pc = .ok (.ishl, 1)) (K : g_J p l e R s m args below meth c Q D A nL k n ws (pc + 1) lv (.int (x <<< (y &&& 31)) :: st)) : g_J p l e R s m args below meth c Q D A nL k n ws pc lv (.int y :: .int x :: st) := fun H locs ls hP hD hS hl => lv_ishl C.1.1 C.1.2.1 hd (K H locs ls hP hD hS hl)
theorem g_ishr (C : g_C p s m args meth c cc nL own Ts D cI cC A) {x y : Int32} (hd : decode cc pc = .ok (.ishr, 1)) (K : g_J p l e R s m args below meth c Q D A nL k n ws (pc + 1) lv (.int (x >>> (y &&& 31)) :: st)) : g_J p l e R s m args below meth c Q D A nL k n ws pc lv (.int y :: .int x :: st) := fun H locs ls hP hD hS hl => lv_ishr C.1.1 C.1.2.1 hd (K H locs ls hP hD hS hl)
theorem g_iushr (C : g_C p s m args meth c cc nL own Ts D cI cC A) {x y v : Int32} (hd : decode cc pc = .ok (.iushr, 1)) (hv : (x.toUInt32 >>> (y.toUInt32 &&& Int32.toUInt32 31)).toInt32 = v) (K : g_J p l e R s m args below meth c Q D A nL k n ws (pc + 1) lv (.int v :: st)) : g_J p l e R s m args below meth c Q D A nL k n ws pc lv (.int y :: .int x :: st) := fun H locs ls hP hD hS hl => lv_iushr C.1.1 C.1.2.1 hd hv (K H locs ls hP hD hS hl)
theorem g_i2c (C : g_C p s m args meth c cc nL own Ts D cI cC A) {x v : Int32} (hd : decode cc pc = .ok (.i2c, 1)) (hv : (x.toUInt32 % 65536).toInt32 = v) (K : g_J p l e R s m args below meth c Q D A nL k n ws (pc + 1) lv (.int v :: st)) : g_J p l e R s m args below meth c Q D A nL k n ws pc lv (.int x :: st) := fun H locs ls hP hD hS hl => lv_i2c C.1.1 C.1.2.1 hd hv (K H locs ls hP hD hS hl)
theorem g_dup (C : g_C p s m args meth c cc nL own Ts D cI cC A) {v : Value} (hd : decode cc pc = .ok (.dup, 1)) (hv : v.category = 1) (K : g_J p l e R s m args below meth c Q D A nL k n ws (pc + 1) lv (v :: v :: st)) : g_J p l e R s m args below meth c Q D A nL k n ws pc lv (v :: st) := fun H locs ls hP hD hS hl => lv_dup C.1.1 C.1.2.1 hd hv (K H locs ls hP hD hS hl)
theorem g_dup2 (C : g_C p s m args meth c cc nL own Ts D cI cC A) {v w : Value} (hd : decode cc pc = .ok (.dup2, 1)) (hv : v.category = 1) (hw : w.category = 1) (K : g_J p l e R s m args below meth c Q D A nL k n ws (pc + 1) lv (v :: w :: v :: w :: st)) : g_J p l e R s m args below meth c Q D A nL k n ws pc lv (v :: w :: st) := fun H locs ls hP hD hS hl => lv_dup2_11 C.1.1 C.1.2.1 hd hv hw (K H locs ls hP hD hS hl)
theorem g_pop (C : g_C p s m args meth c cc nL own Ts D cI cC A) {v : Value} (hd : decode cc pc = .ok (.pop, 1)) (hv : v.category = 1) (K : g_J p l e R s m args below meth c Q D A nL k n ws (pc + 1) lv st) : g_J p l e R s m args below meth c Q D A nL k n ws pc lv (v :: st) := fun H locs ls hP hD hS hl => lv_pop C.1.1 C.1.2.1 hd hv (K H locs ls hP hD hS hl)
theorem g_goto (C : g_C p s m args meth c cc nL own Ts D cI cC A) {off : Int} (tgt : Nat) (hd : decode cc pc = .ok (.goto off, 3)) (ht : (pc : Int) + off = (tgt : Int)) (K : g_J p l e R s m args below meth c Q D A nL k n ws tgt lv st) : g_J p l e R s m args below meth c Q D A nL k n ws pc lv st := fun H locs ls hP hD hS hl => lv_goto C.1.1 C.1.2.1 hd ht (K H locs ls hP hD hS hl)
theorem g_icmp_eq (C : g_C p s m args meth c cc nL own Ts D cI cC A) {x y : Int32} {off : Int} (tgt : Nat) (hd : decode cc pc = .ok (.if_icmp .eq off, 3)) (ht : (pc : Int) + off = (tgt : Int)) (K1 : x = y → g_J p l e R s m args below meth c Q D A nL k n ws (tgt) lv (st)) (K2 : ¬ (x = y) → g_J p l e R s m args below meth c Q D A nL k n ws (pc + 3) lv (st)) : g_J p l e R s m args below meth c Q D A nL k n ws (pc) lv (.int y :: .int x :: st) := fun H locs ls hP hD hS hl => lv_icmp_eq C.1.1 C.1.2.1 hd ht (fun h => K1 h H locs ls hP hD hS hl) (fun h => K2 h H locs ls hP hD hS hl)
theorem g_if_eq (C : g_C p s m args meth c cc nL own Ts D cI cC A) {x : Int32} {off : Int} (tgt : Nat) (hd : decode cc pc = .ok (.ifCond .eq off, 3)) (ht : (pc : Int) + off = (tgt : Int)) (K1 : x = 0 → g_J p l e R s m args below meth c Q D A nL k n ws (tgt) lv (st)) (K2 : ¬ (x = 0) → g_J p l e R s m args below meth c Q D A nL k n ws (pc + 3) lv (st)) : g_J p l e R s m args below meth c Q D A nL k n ws (pc) lv (.int x :: st) := fun H locs ls hP hD hS hl => lv_if_eq C.1.1 C.1.2.1 hd ht (fun h => K1 h H locs ls hP hD hS hl) (fun h => K2 h H locs ls hP hD hS hl)
theorem g_icmp_ne (C : g_C p s m args meth c cc nL own Ts D cI cC A) {x y : Int32} {off : Int} (tgt : Nat) (hd : decode cc pc = .ok (.if_icmp .ne off, 3)) (ht : (pc : Int) + off = (tgt : Int)) (K1 : ¬ x = y → g_J p l e R s m args below meth c Q D A nL k n ws (tgt) lv (st)) (K2 : x = y → g_J p l e R s m args below meth c Q D A nL k n ws (pc + 3) lv (st)) : g_J p l e R s m args below meth c Q D A nL k n ws (pc) lv (.int y :: .int x :: st) := fun H locs ls hP hD hS hl => lv_icmp_ne C.1.1 C.1.2.1 hd ht (fun h => K1 h H locs ls hP hD hS hl) (fun h => K2 h H locs ls hP hD hS hl)
theorem g_if_ne (C : g_C p s m args meth c cc nL own Ts D cI cC A) {x : Int32} {off : Int} (tgt : Nat) (hd : decode cc pc = .ok (.ifCond .ne off, 3)) (ht : (pc : Int) + off = (tgt : Int)) (K1 : ¬ x = 0 → g_J p l e R s m args below meth c Q D A nL k n ws (tgt) lv (st)) (K2 : x = 0 → g_J p l e R s m args below meth c Q D A nL k n ws (pc + 3) lv (st)) : g_J p l e R s m args below meth c Q D A nL k n ws (pc) lv (.int x :: st) := fun H locs ls hP hD hS hl => lv_if_ne C.1.1 C.1.2.1 hd ht (fun h => K1 h H locs ls hP hD hS hl) (fun h => K2 h H locs ls hP hD hS hl)
theorem g_icmp_lt (C : g_C p s m args meth c cc nL own Ts D cI cC A) {x y : Int32} {off : Int} (tgt : Nat) (hd : decode cc pc = .ok (.if_icmp .lt off, 3)) (ht : (pc : Int) + off = (tgt : Int)) (K1 : x < y → g_J p l e R s m args below meth c Q D A nL k n ws (tgt) lv (st)) (K2 : ¬ (x < y) → g_J p l e R s m args below meth c Q D A nL k n ws (pc + 3) lv (st)) : g_J p l e R s m args below meth c Q D A nL k n ws (pc) lv (.int y :: .int x :: st) := fun H locs ls hP hD hS hl => lv_icmp_lt C.1.1 C.1.2.1 hd ht (fun h => K1 h H locs ls hP hD hS hl) (fun h => K2 h H locs ls hP hD hS hl)
theorem g_if_lt (C : g_C p s m args meth c cc nL own Ts D cI cC A) {x : Int32} {off : Int} (tgt : Nat) (hd : decode cc pc = .ok (.ifCond .lt off, 3)) (ht : (pc : Int) + off = (tgt : Int)) (K1 : x < 0 → g_J p l e R s m args below meth c Q D A nL k n ws (tgt) lv (st)) (K2 : ¬ (x < 0) → g_J p l e R s m args below meth c Q D A nL k n ws (pc + 3) lv (st)) : g_J p l e R s m args below meth c Q D A nL k n ws (pc) lv (.int x :: st) := fun H locs ls hP hD hS hl => lv_if_lt C.1.1 C.1.2.1 hd ht (fun h => K1 h H locs ls hP hD hS hl) (fun h => K2 h H locs ls hP hD hS hl)
theorem g_icmp_ge (C : g_C p s m args meth c cc nL own Ts D cI cC A) {x y : Int32} {off : Int} (tgt : Nat) (hd : decode cc pc = .ok (.if_icmp .ge off, 3)) (ht : (pc : Int) + off = (tgt : Int)) (K1 : y ≤ x → g_J p l e R s m args below meth c Q D A nL k n ws (tgt) lv (st)) (K2 : ¬ (y ≤ x) → g_J p l e R s m args below meth c Q D A nL k n ws (pc + 3) lv (st)) : g_J p l e R s m args below meth c Q D A nL k n ws (pc) lv (.int y :: .int x :: st) := fun H locs ls hP hD hS hl => lv_icmp_ge C.1.1 C.1.2.1 hd ht (fun h => K1 h H locs ls hP hD hS hl) (fun h => K2 h H locs ls hP hD hS hl)
theorem g_if_ge (C : g_C p s m args meth c cc nL own Ts D cI cC A) {x : Int32} {off : Int} (tgt : Nat) (hd : decode cc pc = .ok (.ifCond .ge off, 3)) (ht : (pc : Int) + off = (tgt : Int)) (K1 : 0 ≤ x → g_J p l e R s m args below meth c Q D A nL k n ws (tgt) lv (st)) (K2 : ¬ (0 ≤ x) → g_J p l e R s m args below meth c Q D A nL k n ws (pc + 3) lv (st)) : g_J p l e R s m args below meth c Q D A nL k n ws (pc) lv (.int x :: st) := fun H locs ls hP hD hS hl => lv_if_ge C.1.1 C.1.2.1 hd ht (fun h => K1 h H locs ls hP hD hS hl) (fun h => K2 h H locs ls hP hD hS hl)
theorem g_icmp_gt (C : g_C p s m args meth c cc nL own Ts D cI cC A) {x y : Int32} {off : Int} (tgt : Nat) (hd : decode cc pc = .ok (.if_icmp .gt off, 3)) (ht : (pc : Int) + off = (tgt : Int)) (K1 : y < x → g_J p l e R s m args below meth c Q D A nL k n ws (tgt) lv (st)) (K2 : ¬ (y < x) → g_J p l e R s m args below meth c Q D A nL k n ws (pc + 3) lv (st)) : g_J p l e R s m args below meth c Q D A nL k n ws (pc) lv (.int y :: .int x :: st) := fun H locs ls hP hD hS hl => lv_icmp_gt C.1.1 C.1.2.1 hd ht (fun h => K1 h H locs ls hP hD hS hl) (fun h => K2 h H locs ls hP hD hS hl)
theorem g_if_gt (C : g_C p s m args meth c cc nL own Ts D cI cC A) {x : Int32} {off : Int} (tgt : Nat) (hd : decode cc pc = .ok (.ifCond .gt off, 3)) (ht : (pc : Int) + off = (tgt : Int)) (K1 : 0 < x → g_J p l e R s m args below meth c Q D A nL k n ws (tgt) lv (st)) (K2 : ¬ (0 < x) → g_J p l e R s m args below meth c Q D A nL k n ws (pc + 3) lv (st)) : g_J p l e R s m args below meth c Q D A nL k n ws (pc) lv (.int x :: st) := fun H locs ls hP hD hS hl => lv_if_gt C.1.1 C.1.2.1 hd ht (fun h => K1 h H locs ls hP hD hS hl) (fun h => K2 h H locs ls hP hD hS hl)
theorem g_icmp_le (C : g_C p s m args meth c cc nL own Ts D cI cC A) {x y : Int32} {off : Int} (tgt : Nat) (hd : decode cc pc = .ok (.if_icmp .le off, 3)) (ht : (pc : Int) + off = (tgt : Int)) (K1 : x ≤ y → g_J p l e R s m args below meth c Q D A nL k n ws (tgt) lv (st)) (K2 : ¬ (x ≤ y) → g_J p l e R s m args below meth c Q D A nL k n ws (pc + 3) lv (st)) : g_J p l e R s m args below meth c Q D A nL k n ws (pc) lv (.int y :: .int x :: st) := fun H locs ls hP hD hS hl => lv_icmp_le C.1.1 C.1.2.1 hd ht (fun h => K1 h H locs ls hP hD hS hl) (fun h => K2 h H locs ls hP hD hS hl)
theorem g_if_le (C : g_C p s m args meth c cc nL own Ts D cI cC A) {x : Int32} {off : Int} (tgt : Nat) (hd : decode cc pc = .ok (.ifCond .le off, 3)) (ht : (pc : Int) + off = (tgt : Int)) (K1 : x ≤ 0 → g_J p l e R s m args below meth c Q D A nL k n ws (tgt) lv (st)) (K2 : ¬ (x ≤ 0) → g_J p l e R s m args below meth c Q D A nL k n ws (pc + 3) lv (st)) : g_J p l e R s m args below meth c Q D A nL k n ws (pc) lv (.int x :: st) := fun H locs ls hP hD hS hl => lv_if_le C.1.1 C.1.2.1 hd ht (fun h => K1 h H locs ls hP hD hS hl) (fun h => K2 h H locs ls hP hD hS hl)
theorem g_tabIn (C : g_C p s m args meth c cc nL own Ts D cI cC A) {dflt lo hi : Int} {offs : Array Int} {len : Nat} {x : Int32} {off : Int} (tgt : Nat) (hd : decode cc pc = .ok (.tableswitch dflt lo hi offs, len)) (h1 : ¬ x.toInt < lo) (h2 : ¬ hi < x.toInt) (ho : offs[(x.toInt - lo).toNat]? = some off) (ht : (pc : Int) + off = (tgt : Int)) (K : g_J p l e R s m args below meth c Q D A nL k n ws tgt lv st) : g_J p l e R s m args below meth c Q D A nL k n ws pc lv (.int x :: st) := fun H locs ls hP hD hS hl => lv_tableIn C.1.1 C.1.2.1 hd h1 h2 ho ht (K H locs ls hP hD hS hl)
theorem g_tabOut (C : g_C p s m args meth c cc nL own Ts D cI cC A) {dflt lo hi : Int} {offs : Array Int} {len : Nat} {x : Int32} (tgt : Nat) (hd : decode cc pc = .ok (.tableswitch dflt lo hi offs, len)) (h : x.toInt < lo ∨ hi < x.toInt) (ht : (pc : Int) + dflt = (tgt : Int)) (K : g_J p l e R s m args below meth c Q D A nL k n ws tgt lv st) : g_J p l e R s m args below meth c Q D A nL k n ws pc lv (.int x :: st) := fun H locs ls hP hD hS hl => lv_tableOut C.1.1 C.1.2.1 hd h ht (K H locs ls hP hD hS hl)
theorem g_get (C : g_C p s m args meth c cc nL own Ts D cI cC A) {ref Cn : String} {T : u_T} {N ci index a : Nat} (hin : ∀ w ∈ u_ws Cn T N, w ∈ Ts) (q0 : Nat) {fs : List Value} (he : ws[q0]? = some (a, .inr (ci, fs))) (hc : vwCl[ci]? = some (Cn, T, N)) (f : Nat) (hf : f < N) (hlink : Cond.fieldLink own index ref (T f).2.1 (T f).2.2.1 ∈ Ts) (hsame : (T f).1 = ref) {v : Value} (hv : fs[f]? = some v) (hd : decode cc pc = .ok (.getfield index, 3)) (K : g_J p l e R s m args below meth c Q D A nL k n ws (pc + 3) lv (v :: st)) : g_J p l e R s m args below meth c Q D A nL k n ws pc lv (.ref a :: st) := fun H locs ls hP hD hS hl => va_get C.1.1 C.1.2.1 C.1.2.2.2.2 hin C.1.2.2.2.1 C.2.1 hP q0 he hc f hf (C.1.2.2.2.2 _ hlink) (fun x h => by rw [← hsame]; exact h) hv hd (K H locs ls hP hD hS hl)
theorem g_getN (C : g_C p s m args meth c cc nL own Ts D cI cC A) {ref Cn host : String} {T : u_T} {N ci index a : Nat} (hin : ∀ w ∈ u_ws Cn T N, w ∈ Ts) (q0 : Nat) {fs : List Value} (he : ws[q0]? = some (a, .inr (ci, fs))) (hc : vwCl[ci]? = some (Cn, T, N)) (f : Nat) (hf : f < N) (hlink : Cond.fieldLinkNest own index ref (T f).2.1 (T f).2.2.1 host ∈ g_nw) (hsame : (T f).1 = ref) {v : Value} (hv : fs[f]? = some v) (hd : decode cc pc = .ok (.getfield index, 3)) (K : g_J p l e R s m args below meth c Q D A nL k n ws (pc + 3) lv (v :: st)) : g_J p l e R s m args below meth c Q D A nL k n ws pc lv (.ref a :: st) := fun H locs ls hP hD hS hl => va_getN C.1.1 C.1.2.1 C.1.2.2.2.2 hin C.1.2.2.2.1 C.2.1 hP q0 he hc f hf (va_Nw.use rfl (C.2.2.1 _ hlink)) (fun x h => by rw [← hsame]; exact h) hv hd (K H locs ls hP hD hS hl)
theorem g_put (C : g_C p s m args meth c cc nL own Ts D cI cC A) {ref Cn : String} {T : u_T} {N ci index a : Nat} (hin : ∀ w ∈ u_ws Cn T N, w ∈ Ts) (ty0 : Nat → FieldType) (hty : ∀ k, k < N → parseFieldDescriptor (T k).2.2.1 = some (ty0 k)) (hnm : ∀ a, a < N → ∀ b, b < N → a ≠ b → (T a).2.1 ≠ (T b).2.1) (q0 : Nat) {fs : List Value} (he : ws[q0]? = some (a, .inr (ci, fs))) (hc : vwCl[ci]? = some (Cn, T, N)) (f : Nat) (hf : f < N) (hlink : Cond.fieldLink own index ref (T f).2.1 (T f).2.2.1 ∈ Ts) (hsame : (T f).1 = ref) (hfin : (T f).2.2.2 = false) {ty : FieldType} {v : Value} (hdd : parseFieldDescriptor (T f).2.2.1 = some ty) (hnr : narrow ty v = v) (hfit : fits ty v = true) (hlen : f < fs.length) (hd : decode cc pc = .ok (.putfield index, 3)) (hw : ws.set q0 (a, .inr (ci, fs.set f v)) = ws') (K : g_J p l e R s m args below meth c Q D A nL k n ws' (pc + 3) lv st) : g_J p l e R s m args below meth c Q D A nL k n ws pc lv (v :: .ref a :: st) := fun H locs ls hP hD hS hl => va_put C.1.1 C.1.2.1 C.1.2.2.2.2 hin ty0 hty hnm C.1.2.2.2.1 C.2.1 hP hD hS q0 he hc f hf (C.1.2.2.2.2 _ hlink) (fun x h => by rw [← hsame]; exact h) hfin hdd hnr hfit hlen hd (fun H1 locs1 hP1 hD1 hS1 => K H1 locs1 ls (by rw [← hw]; exact hP1) (by rw [← hw]; exact hD1) hS1 hl)
theorem g_iald (C : g_C p s m args meth c cc nL own Ts D cI cC A) {a z : Nat} {f : Nat → Int32} (q0 : Nat) (ha : ws[q0]? = some (a, .inl (cI, z, .inl f))) {i : Int32} (hi : vp_in i z) (hd : decode cc pc = .ok (.iaload, 1)) (K : g_J p l e R s m args below meth c Q D A nL k n ws (pc + 1) lv (.int (f i.toNatClampNeg) :: st)) : g_J p l e R s m args below meth c Q D A nL k n ws pc lv (.int i :: .ref a :: st) := fun H locs ls hP hD hS hl => va_iald C.1.1 C.1.2.1 C.2.1 hP q0 0 ha rfl hi hd (K H locs ls hP hD hS hl)
theorem g_ialdN (C : g_C p s m args meth c cc nL own Ts D cI cC A) {a z i : Nat} {f : Nat → Int32} (q0 : Nat) (ha : ws[q0]? = some (a, .inl (cI, z, .inl f))) (hi : i < z) (hz : z < 2 ^ 31) (hd : decode cc pc = .ok (.iaload, 1)) (K : g_J p l e R s m args below meth c Q D A nL k n ws (pc + 1) lv (.int (f i) :: st)) : g_J p l e R s m args below meth c Q D A nL k n ws pc lv (.int (nI i) :: .ref a :: st) := g_iald C q0 ha (vp_in_nI hi hz) hd (by rw [nI_clamp (Nat.lt_trans hi hz)]; exact K)
theorem g_caldN (C : g_C p s m args meth c cc nL own Ts D cI cC A) {a z i : Nat} {f : Nat → Int32} (q0 : Nat) (ha : ws[q0]? = some (a, .inl (cC, z, .inl f))) (hi : i < z) (hz : z < 2 ^ 31) (hd : decode cc pc = .ok (.caload, 1)) (K : g_J p l e R s m args below meth c Q D A nL k n ws (pc + 1) lv (.int (f i) :: st)) : g_J p l e R s m args below meth c Q D A nL k n ws pc lv (.int (nI i) :: .ref a :: st) := fun H locs ls hP hD hS hl => va_cald C.1.1 C.1.2.1 C.2.1 hP q0 1 ha rfl (vp_in_nI hi hz) hd (by rw [nI_clamp (Nat.lt_trans hi hz)]; exact K H locs ls hP hD hS hl)
theorem g_iastN (C : g_C p s m args meth c cc nL own Ts D cI cC A) {a z i : Nat} {f : Nat → Int32} {x : Int32} (q0 : Nat) (ha : ws[q0]? = some (a, .inl (cI, z, .inl f))) (hi : i < z) (hz : z < 2 ^ 31) (hd : decode cc pc = .ok (.iastore, 1)) (hw : ws.set q0 (a, .inl (cI, z, .inl (upd f i x))) = ws') (K : g_J p l e R s m args below meth c Q D A nL k n ws' (pc + 1) lv st) : g_J p l e R s m args below meth c Q D A nL k n ws pc lv (.int x :: .int (nI i) :: .ref a :: st) := fun H locs ls hP hD hS hl => va_iast C.1.1 C.1.2.1 C.2.1 hP hD hS q0 0 ha rfl (vp_in_nI hi hz) hd (fun H1 locs1 hP1 hD1 hS1 => K H1 locs1 ls (by rw [← hw]; rw [nI_clamp (Nat.lt_trans hi hz)] at hP1; exact hP1) (by rw [← hw]; rw [nI_clamp (Nat.lt_trans hi hz)] at hD1; exact hD1) hS1 hl)
theorem g_castN (C : g_C p s m args meth c cc nL own Ts D cI cC A) {a z i : Nat} {f : Nat → Int32} {x : Int32} (q0 : Nat) (ha : ws[q0]? = some (a, .inl (cC, z, .inl f))) (hi : i < z) (hz : z < 2 ^ 31) (hd : decode cc pc = .ok (.castore, 1)) (hw : ws.set q0 (a, .inl (cC, z, .inl (upd f i (vp_nar .char x)))) = ws') (K : g_J p l e R s m args below meth c Q D A nL k n ws' (pc + 1) lv st) : g_J p l e R s m args below meth c Q D A nL k n ws pc lv (.int x :: .int (nI i) :: .ref a :: st) := fun H locs ls hP hD hS hl => va_cast C.1.1 C.1.2.1 C.2.1 hP hD hS q0 1 ha rfl (vp_in_nI hi hz) hd (fun H1 locs1 hP1 hD1 hS1 => K H1 locs1 ls (by rw [← hw]; rw [nI_clamp (Nat.lt_trans hi hz)] at hP1; exact hP1) (by rw [← hw]; rw [nI_clamp (Nat.lt_trans hi hz)] at hD1; exact hD1) hS1 hl)
theorem g_alen (C : g_C p s m args meth c cc nL own Ts D cI cC A) {a z : Nat} {f : Nat → Int32} (q0 : Nat) (ha : ws[q0]? = some (a, .inl (cI, z, .inl f))) (hd : decode cc pc = .ok (.arraylength, 1)) (K : g_J p l e R s m args below meth c Q D A nL k n ws (pc + 1) lv (.int (nI z) :: st)) : g_J p l e R s m args below meth c Q D A nL k n ws pc lv (.ref a :: st) := fun H locs ls hP hD hS hl => va_alen C.1.1 C.1.2.1 C.2.1 hP q0 0 ha rfl rfl hd (K H locs ls hP hD hS hl)
theorem g_copyi (C : g_C p s m args meth c cc nL own Ts D cI cC A) {a a0 z0 z1 sp dp w index : Nat} {f g : Nat → Int32} (hlink : Cond.methodLink own index arraycopyName ∈ Ts) (hnat : Cond.native arraycopyName ∈ Ts) (hstat : Cond.static arraycopyName ∈ Ts) (hini : Cond.initialized "java/lang/System" ∈ Ts) (q0 q1 : Nat) (ha0 : ws[q0]? = some (a0, .inl (cI, z0, .inl f))) (ha1 : ws[q1]? = some (a, .inl (cI, z1, .inl g))) (h4 : sp + w ≤ z0) (h5 : dp + w ≤ z1) (hz0 : z0 < 2 ^ 31) (hz1 : z1 < 2 ^ 31) (hfr : 1 ≤ R.frames) (hlo : (st.map fun v => v.category).sum + (nativeFrameWords "java/lang/System" "arraycopy" 5 + 11) ≤ R.locals) (hd : decode cc pc = .ok (.invokestatic index, 3)) (hw : ws.set q1 (a, .inl (cI, z1, .inl (va_cpy f g sp dp w))) = ws') (K : g_J p l e R s m args below meth c Q D A nL k n ws' (pc + 3) lv st) : g_J p l e R s m args below meth c Q D A nL k n ws pc lv (.int (nI w) :: .int (nI dp) :: .ref a :: .int (nI sp) :: .ref a0 :: st) := by
  intro H locs ls hP hD hS hl
  have e1 : (nI sp).toNatClampNeg = sp := nI_clamp (by omega)
  have e2 : (nI dp).toNatClampNeg = dp := nI_clamp (by omega)
  have e3 : (nI w).toNatClampNeg = w := nI_clamp (by omega)
  refine va_copyi (tys := [(cI, .int), (cC, .char)]) (ty := .int) C.1.1 C.1.2.1 (C.1.2.2.1.trans hl.1.symm) C.1.2.2.2.1 (C.1.2.2.2.2 _ hlink) (C.1.2.2.2.2 _ hnat) (C.1.2.2.2.2 _ hstat) (C.1.2.2.2.2 _ hini) C.2.1 hP hD hS q0 q1 0 0 ha0 ha1 rfl rfl rfl (nI_pos (by omega)) (nI_pos (by omega)) (nI_pos (by omega)) (by rw [e1, e3]; exact h4) (by rw [e2, e3]; exact h5) (fun i hi => rfl) hfr hlo hd ?_
  rw [e1, e2, e3, hw]
  exact fun H1 locs1 hP1 hD1 hS1 => K H1 locs1 ls hP1 hD1 hS1 hl
theorem g_max (C : g_C p s m args meth c cc nL own Ts D cI cC A) {index x y : Nat} (hlink : Cond.methodLink own index Lib.Math.max.name ∈ Ts) (hstat : Cond.static Lib.Math.max.name ∈ Ts) (hini : Cond.initialized "java/lang/Math" ∈ Ts) (hcode : Cond.code Lib.Math.max.name Lib.Math.max.code 2 (some .int) ∈ Ts) (hx : x < 2 ^ 31) (hy : y < 2 ^ 31) (hfr : 1 ≤ R.frames) (hlo : (st.map fun v => v.category).sum + 13 ≤ R.locals) (hf : k ≤ R.cells ∧ n ≤ R.slots) (hd : decode cc pc = .ok (.invokestatic index, 3)) (K : g_J p l e R s m args below meth c Q D A nL k n ws (pc + 3) lv (.int (nI (max x y)) :: st)) : g_J p l e R s m args below meth c Q D A nL k n ws pc lv (.int (nI y) :: .int (nI x) :: st) := by
  intro H locs ls hP hD hS hl
  refine va_mmax C.1.1 C.1.2.1 (C.1.2.2.1.trans hl.1.symm) C.1.2.2.2.1 (C.1.2.2.2.2 _ hlink) (C.1.2.2.2.2 _ hstat) (C.1.2.2.2.2 _ hini) (C.1.2.2.2.2 _ hcode) hfr hlo hf.1 hf.2 hd ?_
  have e0 : (if nI x < nI y then nI y else nI x) = nI (max x y) := by
    rw [Nat.max_def]
    by_cases h : x < y
    · rw [if_pos ((nI_ltI hx hy).mpr h), if_pos (by omega)]
    · rw [if_neg (fun z => h ((nI_ltI hx hy).mp z))]
      by_cases h2 : x ≤ y
      · rw [if_pos h2, show x = y by omega]
      · rw [if_neg h2]
  rw [e0]
  exact K H locs ls hP hD hS hl
theorem g_iret {w0 : va_W} {A0 : Nat → Prop} {post : Option Value → va_W → Prop} {v : Int32} (C : g_C p s m args meth c cc nL own Ts D cI cC A) (hr : meth.sig.returnType = some .int) (hQ : Q = MQ below (g_Q D w0 A post) args s k n A) (hd : decode cc pc = .ok (.ireturn, 1)) (hw : ws.map (·.1) = w0.map (·.1)) (hp : post (some (.int v)) ws) : g_J p l e R s m args below meth c Q D A nL k n ws pc lv [.int v] := by
  subst hQ
  exact fun H locs ls hP hD hS hl => W.iret C.1.1 C.1.2.1 hr (fun t ht hW => ⟨⟨some (.int v), ws, rfl, hp, hw, by rw [ht]; exact hP⟩, hS.F ht⟩) hS.2.2 hd (hlocks := C.2.2.2.2)
theorem g_nar (b : Bool) : narrow .boolean (.int (bI b)) = .int (bI b) := by cases b <;> rfl
theorem g_fit (b : Bool) : fits .boolean (.int (bI b)) = true := by cases b <;> rfl
theorem g_zret {w0 : va_W} {post : Option Value → va_W → Prop} {b : Bool} (C : g_C p s m args meth c cc nL own Ts D cI cC A) (hr : meth.sig.returnType = some .boolean) (hQ : Q = MQ below (g_Q D w0 A post) args s k n A) (hd : decode cc pc = .ok (.ireturn, 1)) (hw : ws.map (·.1) = w0.map (·.1)) (hp : post (some (.int (bI b))) ws) : g_J p l e R s m args below meth c Q D A nL k n ws pc lv [.int (bI b)] := by
  subst hQ
  exact fun H locs ls hP hD hS hl => W.zret C.1.1 C.1.2.1 hr (g_nar b) (fun t ht hW => ⟨⟨some (.int (bI b)), ws, rfl, hp, hw, by rw [ht]; exact hP⟩, hS.F ht⟩) hS.2.2 hd (hlocks := C.2.2.2.2)
theorem g_vret {w0 : va_W} {post : Option Value → va_W → Prop} (C : g_C p s m args meth c cc nL own Ts D cI cC A) (hr : meth.sig.returnType = none) (hQ : Q = MQ below (g_Q D w0 A post) args s k n A) (hd : decode cc pc = .ok (.return_, 1)) (hw : ws.map (·.1) = w0.map (·.1)) (hp : post none ws) : g_J p l e R s m args below meth c Q D A nL k n ws pc lv [] := by
  subst hQ
  exact fun H locs ls hP hD hS hl => W.vret C.1.1 C.1.2.1 hr (fun t ht hW => ⟨⟨none, ws, rfl, hp, hw, by rw [ht]; exact hP⟩, hS.F ht⟩) hS.2.2 hd (hlocks := C.2.2.2.2)
theorem g_dret {w0 : va_W} {post : Option Value → va_W → Prop} {v : UInt64} (C : g_C p s m args meth c cc nL own Ts D cI cC A) (hr : meth.sig.returnType = some .double) (hQ : Q = MQ below (g_Q D w0 A post) args s k n A) (hd : decode cc pc = .ok (.dreturn, 1)) (hw : ws.map (·.1) = w0.map (·.1)) (hp : post (some (.double v)) ws) : g_J p l e R s m args below meth c Q D A nL k n ws pc lv [.double v] := by
  subst hQ
  exact fun H locs ls hP hD hS hl => W.dret C.1.1 C.1.2.1 hr (fun t ht hW => ⟨⟨some (.double v), ws, rfl, hp, hw, by rw [ht]; exact hP⟩, hS.F ht⟩) hS.2.2 hd (hlocks := C.2.2.2.2)
/-- behind any call -/
theorem g_run {wc : va_W} {post : Option Value → va_W → Prop} {a : Array Value} {stk : List Value} {H : Heap} {locs : List Loc} {ls : Array Slot} (C : g_C p s m args meth c cc nL own Ts D cI cC A) (isC : List Nat) (hC : isC.map (fun i => ws[i]?) = wc.map some) (hP : va_P D vwCl ws H) (hD : va_D A ws) (hS : va_S A s.heap H locs) (hl : lv_has ls nL lv)
    (run : va_Run p l e R s m args below meth c H locs k n 0 0 (F0 m pc ls stk) st (g_Q D wc (va_A wc H.size) post a) (va_A wc H.size))
    (K : ∀ (v : Option Value) (w' : va_W), post v w' → g_J p l e R s m args below meth c Q D A nL k n (g_pb ws isC w') (pc + 3) lv (v.toList ++ st)) : W p l e R s m args below meth c H locs k n Q (F0 m pc ls stk) := by
  have hFc := va_free (wc := wc) hD hS C.2.2.2.1 isC hC
  intro T hT X
  obtain ⟨v, st₀, t, T', L, h0, X', hL, e1, e2, ⟨⟨v', w', hv, hp, hfst, hPw⟩, hz, hk⟩, stp⟩ := run T hT X
  cases hv
  rw [h0] at hz hk
  have hb := g_back (H1 := T'.heap) hP hD isC hC (fun q h1 h2 => by rw [e1]; exact hk q h1 h2) hfst (by rw [e1]; exact hPw)
  obtain ⟨t2, a1, b1⟩ := K v w' hp T'.heap (locs ++ L) ls hb.1 hb.2 ⟨Nat.le_trans hS.1 (by rw [e1]; exact hz), fun q h1 h2 => by rw [e1, hk q (Nat.lt_of_lt_of_le h1 hS.1) (fun z => h2 (hFc q z))]; exact hS.2.1 q h1 h2, fun q hq => by
      rcases List.mem_append.mp hq with h | h
      · exact hS.2.2 q h
      · exact hFc _ (hL q h)⟩ hl T' rfl X'
  exact ⟨t2, stp t2 a1, b1⟩
theorem g_pre {wc : va_W} {H : Heap} {av : List Value} (C : g_C p s m args meth c cc nL own Ts D cI cC A) (isC : List Nat) (hC : isC.map (fun i => ws[i]?) = wc.map some) (hn : va_nd isC = true) (hP : va_P D vwCl ws H) (hD : va_D A ws) : ∀ U : State, U.heap = H → s.WarmedH U.vm → va_Pc av (g_PS D cI cC wc H.size) av.toArray U := by
  intro U hU hW
  exact ⟨rfl, by rw [hU], by rw [hU]; exact g_Psub hP hC, va_K.moved hW.alike C.2.1, g_N.warm hW C.2.2.1, (hD.sub isC hn hC).weaken (fun _ _ _ _ => trivial)⟩
theorem g_callV {y : MethodName} {wsc wsc' : List Cond} {rm : Room} {bytes : ByteArray} {maxL index nn ci q0 b : Nat} {ret : Option FieldType} {Cn : String} {T : u_T} {N : Nat} {As stk : List Value} {fs : List Value} {wc : va_W} {post : Option Value → va_W → Prop} (C : g_C p s m args meth c cc nL own Ts D cI cC A) (hM : g_M l y wsc rm D cI cC (.ref b :: As) wc post) (hG : GoodIn Ts (wsV own index Cn y wsc)) (hw : wsc = Cond.code y bytes maxL ret :: wsc') (hrc : rm.cells = 0) (hrs : rm.slots = 0)
    (hd : y.cls = Cn ∧ y.cls ≠ "java/lang/invoke/MethodHandle" ∧ y.cls ≠ "java/lang/invoke/VarHandle" ∧ (parseMethodDescriptor y.desc).map (fun d => d.parameters.length) = some nn) (hR : rm.frames + 1 ≤ R.frames ∧ 8 + (maxL + 11) + rm.locals ≤ R.locals) (hnn : As.length = nn) (isC : List Nat) (hC : isC.map (fun i => ws[i]?) = wc.map some) (hnd : va_nd isC = true) (hci : vwCl[ci]? = some (Cn, T, N)) (hq : wc[q0]? = some (b, .inr (ci, fs))) (hst : stk = As.reverse ++ .ref b :: st) (hsm : (st.map fun v => v.category).sum ≤ 8) (hf : k ≤ R.cells ∧ n ≤ R.slots) (hdg : decode cc pc = .ok (.invokevirtual index, 3))
    (K : ∀ (v : Option Value) (w' : va_W), post v w' → g_J p l e R s m args below meth c Q D A nL k n (g_pb ws isC w') (pc + 3) lv (v.toList ++ st)) : g_J p l e R s m args below meth c Q D A nL k n ws pc lv stk := by
  intro H locs ls hP hD hS hl
  subst hst
  exact g_run C isC hC hP hD hS hl (va_runV (As := As) (rest := st) C.1 (hM H.size) (cwV nn C.1.2.2.2.2 hG hw hrc hrs hd hR) ⟨g_blind, va_recv C.2.1 (g_Psub hP hC) hci hq, g_pre C isC hC hnd hP hD⟩ rfl hnn hl.1 rfl (lv_room hsm) hdg hf) K
theorem g_callS {y : MethodName} {wsc wsc' : List Cond} {rm : Room} {bytes : ByteArray} {maxL index nn : Nat} {ret : Option FieldType} {As stk : List Value} {wc : va_W} {post : Option Value → va_W → Prop} (C : g_C p s m args meth c cc nL own Ts D cI cC A) (hM : g_M l y wsc rm D cI cC As wc post) (hG : GoodIn Ts (va_wsS own index y wsc)) (hw : wsc = Cond.code y bytes maxL ret :: wsc') (hrc : rm.cells = 0) (hrs : rm.slots = 0)
    (hd : y.cls ≠ "java/lang/invoke/MethodHandle" ∧ y.cls ≠ "java/lang/invoke/VarHandle" ∧ (parseMethodDescriptor y.desc).map (fun d => d.parameters.length) = some nn) (hR : rm.frames + 1 ≤ R.frames ∧ 8 + (maxL + 11) + rm.locals ≤ R.locals) (hnn : As.length = nn) (isC : List Nat) (hC : isC.map (fun i => ws[i]?) = wc.map some) (hnd : va_nd isC = true) (hst : stk = As.reverse ++ st) (hsm : (st.map fun v => v.category).sum ≤ 8) (hf : k ≤ R.cells ∧ n ≤ R.slots) (hdg : decode cc pc = .ok (.invokestatic index, 3))
    (K : ∀ (v : Option Value) (w' : va_W), post v w' → g_J p l e R s m args below meth c Q D A nL k n (g_pb ws isC w') (pc + 3) lv (v.toList ++ st)) : g_J p l e R s m args below meth c Q D A nL k n ws pc lv stk := by
  intro H locs ls hP hD hS hl
  subst hst
  exact g_run C isC hC hP hD hS hl (va_runS (As := As) (rest := st) C.1 (hM H.size) (va_cwS nn C.1.2.2.2.2 hG hw hrc hrs hd hR) ⟨g_blind, g_pre C isC hC hnd hP hD⟩ rfl hnn hl.1 rfl (lv_room hsm) hdg hf) K
theorem g_callSN {y : MethodName} {wsc wsc' : List Cond} {rm : Room} {bytes : ByteArray} {maxL index nn : Nat} {ret : Option FieldType} {host : String} {As stk : List Value} {wc : va_W} {post : Option Value → va_W → Prop} (C : g_C p s m args meth c cc nL own Ts D cI cC A) (hM : g_M l y wsc rm D cI cC As wc post) (hG : GoodIn Ts wsc) (hw : wsc = Cond.code y bytes maxL ret :: wsc') (hrc : rm.cells = 0) (hrs : rm.slots = 0) (hlk : Cond.methodLinkNest own index y host ∈ g_nw) (hini : Cond.initialized y.cls ∈ Ts) (hstt : Cond.static y ∈ Ts)
    (hd : y.cls ≠ "java/lang/invoke/MethodHandle" ∧ y.cls ≠ "java/lang/invoke/VarHandle" ∧ (parseMethodDescriptor y.desc).map (fun d => d.parameters.length) = some nn) (hR : rm.frames + 1 ≤ R.frames ∧ 8 + (maxL + 11) + rm.locals ≤ R.locals) (hnn : As.length = nn) (isC : List Nat) (hC : isC.map (fun i => ws[i]?) = wc.map some) (hnd : va_nd isC = true) (hst : stk = As.reverse ++ st) (hsm : (st.map fun v => v.category).sum ≤ 8) (hf : k ≤ R.cells ∧ n ≤ R.slots) (hdg : decode cc pc = .ok (.invokestatic index, 3))
    (K : ∀ (v : Option Value) (w' : va_W), post v w' → g_J p l e R s m args below meth c Q D A nL k n (g_pb ws isC w') (pc + 3) lv (v.toList ++ st)) : g_J p l e R s m args below meth c Q D A nL k n ws pc lv stk := by
  intro H locs ls hP hD hS hl
  subst hst
  exact g_run C isC hC hP hD hS hl (va_runSN (As := As) (rest := st) C.1 (hM H.size) ⟨va_cnB nn C.1.2.2.2.2 hG hw hrc hrs (C.2.2.1 _ hlk) (C.1.2.2.2.2 _ hini) hd hR, C.1.2.2.2.2 _ hstt, trivial⟩ ⟨g_blind, g_pre C isC hC hnd hP hD⟩ rfl hnn hl.1 rfl (lv_room hsm) hdg hf) K
theorem g_icmp_eqN (C : g_C p s m args meth c cc nL own Ts D cI cC A) {x y : Nat} {off : Int} (tgt : Nat) (hx : x < 2 ^ 31) (hy : y < 2 ^ 31) (hd : decode cc pc = .ok (.if_icmp .eq off, 3)) (ht : (pc : Int) + off = (tgt : Int)) (K1 : x = y → g_J p l e R s m args below meth c Q D A nL k n ws (tgt) lv (st)) (K2 : x ≠ y → g_J p l e R s m args below meth c Q D A nL k n ws (pc + 3) lv (st)) : g_J p l e R s m args below meth c Q D A nL k n ws (pc) lv (.int (nI y) :: .int (nI x) :: st) := g_icmp_eq C tgt hd ht (fun h => K1 ((nI_eq hx hy).mp h)) (fun h => K2 (fun z => h ((nI_eq hx hy).mpr z)))
theorem g_icmp_neN (C : g_C p s m args meth c cc nL own Ts D cI cC A) {x y : Nat} {off : Int} (tgt : Nat) (hx : x < 2 ^ 31) (hy : y < 2 ^ 31) (hd : decode cc pc = .ok (.if_icmp .ne off, 3)) (ht : (pc : Int) + off = (tgt : Int)) (K1 : x ≠ y → g_J p l e R s m args below meth c Q D A nL k n ws (tgt) lv (st)) (K2 : x = y → g_J p l e R s m args below meth c Q D A nL k n ws (pc + 3) lv (st)) : g_J p l e R s m args below meth c Q D A nL k n ws (pc) lv (.int (nI y) :: .int (nI x) :: st) := g_icmp_ne C tgt hd ht (fun h => K1 (fun z => h ((nI_eq hx hy).mpr z))) (fun h => K2 ((nI_eq hx hy).mp h))
theorem g_icmp_ltN (C : g_C p s m args meth c cc nL own Ts D cI cC A) {x y : Nat} {off : Int} (tgt : Nat) (hx : x < 2 ^ 31) (hy : y < 2 ^ 31) (hd : decode cc pc = .ok (.if_icmp .lt off, 3)) (ht : (pc : Int) + off = (tgt : Int)) (K1 : x < y → g_J p l e R s m args below meth c Q D A nL k n ws (tgt) lv (st)) (K2 : y ≤ x → g_J p l e R s m args below meth c Q D A nL k n ws (pc + 3) lv (st)) : g_J p l e R s m args below meth c Q D A nL k n ws (pc) lv (.int (nI y) :: .int (nI x) :: st) := g_icmp_lt C tgt hd ht (fun h => K1 ((nI_ltI hx hy).mp h)) (fun h => K2 (Nat.not_lt.mp (fun z => h ((nI_ltI hx hy).mpr z))))
theorem g_icmp_geN (C : g_C p s m args meth c cc nL own Ts D cI cC A) {x y : Nat} {off : Int} (tgt : Nat) (hx : x < 2 ^ 31) (hy : y < 2 ^ 31) (hd : decode cc pc = .ok (.if_icmp .ge off, 3)) (ht : (pc : Int) + off = (tgt : Int)) (K1 : y ≤ x → g_J p l e R s m args below meth c Q D A nL k n ws (tgt) lv (st)) (K2 : x < y → g_J p l e R s m args below meth c Q D A nL k n ws (pc + 3) lv (st)) : g_J p l e R s m args below meth c Q D A nL k n ws (pc) lv (.int (nI y) :: .int (nI x) :: st) := g_icmp_ge C tgt hd ht (fun h => K1 ((nI_leI hy hx).mp h)) (fun h => K2 (Nat.not_le.mp (fun z => h ((nI_leI hy hx).mpr z))))
theorem g_icmp_gtN (C : g_C p s m args meth c cc nL own Ts D cI cC A) {x y : Nat} {off : Int} (tgt : Nat) (hx : x < 2 ^ 31) (hy : y < 2 ^ 31) (hd : decode cc pc = .ok (.if_icmp .gt off, 3)) (ht : (pc : Int) + off = (tgt : Int)) (K1 : y < x → g_J p l e R s m args below meth c Q D A nL k n ws (tgt) lv (st)) (K2 : x ≤ y → g_J p l e R s m args below meth c Q D A nL k n ws (pc + 3) lv (st)) : g_J p l e R s m args below meth c Q D A nL k n ws (pc) lv (.int (nI y) :: .int (nI x) :: st) := g_icmp_gt C tgt hd ht (fun h => K1 ((nI_ltI hy hx).mp h)) (fun h => K2 (Nat.not_lt.mp (fun z => h ((nI_ltI hy hx).mpr z))))
theorem g_icmp_leN (C : g_C p s m args meth c cc nL own Ts D cI cC A) {x y : Nat} {off : Int} (tgt : Nat) (hx : x < 2 ^ 31) (hy : y < 2 ^ 31) (hd : decode cc pc = .ok (.if_icmp .le off, 3)) (ht : (pc : Int) + off = (tgt : Int)) (K1 : x ≤ y → g_J p l e R s m args below meth c Q D A nL k n ws (tgt) lv (st)) (K2 : y < x → g_J p l e R s m args below meth c Q D A nL k n ws (pc + 3) lv (st)) : g_J p l e R s m args below meth c Q D A nL k n ws (pc) lv (.int (nI y) :: .int (nI x) :: st) := g_icmp_le C tgt hd ht (fun h => K1 ((nI_leI hx hy).mp h)) (fun h => K2 (Nat.not_le.mp (fun z => h ((nI_leI hx hy).mpr z))))
theorem g_if_eqN (C : g_C p s m args meth c cc nL own Ts D cI cC A) {x : Nat} {off : Int} (tgt : Nat) (hx : x < 2 ^ 31) (hd : decode cc pc = .ok (.ifCond .eq off, 3)) (ht : (pc : Int) + off = (tgt : Int)) (K1 : x = 0 → g_J p l e R s m args below meth c Q D A nL k n ws (tgt) lv (st)) (K2 : x ≠ 0 → g_J p l e R s m args below meth c Q D A nL k n ws (pc + 3) lv (st)) : g_J p l e R s m args below meth c Q D A nL k n ws (pc) lv (.int (nI x) :: st) := g_if_eq C tgt hd ht (fun h => K1 ((nI_eq hx (by decide : 0 < 2 ^ 31)).mp h)) (fun h => K2 (fun z => h (by rw [z]; rfl)))
theorem g_if_neN (C : g_C p s m args meth c cc nL own Ts D cI cC A) {x : Nat} {off : Int} (tgt : Nat) (hx : x < 2 ^ 31) (hd : decode cc pc = .ok (.ifCond .ne off, 3)) (ht : (pc : Int) + off = (tgt : Int)) (K1 : x ≠ 0 → g_J p l e R s m args below meth c Q D A nL k n ws (tgt) lv (st)) (K2 : x = 0 → g_J p l e R s m args below meth c Q D A nL k n ws (pc + 3) lv (st)) : g_J p l e R s m args below meth c Q D A nL k n ws (pc) lv (.int (nI x) :: st) := g_if_ne C tgt hd ht (fun h => K1 (fun z => h (by rw [z]; rfl))) (fun h => K2 ((nI_eq hx (by decide : 0 < 2 ^ 31)).mp h))
theorem g_if_gtN (C : g_C p s m args meth c cc nL own Ts D cI cC A) {x : Nat} {off : Int} (tgt : Nat) (hx : x < 2 ^ 31) (hd : decode cc pc = .ok (.ifCond .gt off, 3)) (ht : (pc : Int) + off = (tgt : Int)) (K1 : 0 < x → g_J p l e R s m args below meth c Q D A nL k n ws (tgt) lv (st)) (K2 : x = 0 → g_J p l e R s m args below meth c Q D A nL k n ws (pc + 3) lv (st)) : g_J p l e R s m args below meth c Q D A nL k n ws (pc) lv (.int (nI x) :: st) := g_if_gt C tgt hd ht (fun h => K1 ((nI_ltI (by decide : 0 < 2 ^ 31) hx).mp h)) (fun h => K2 (Nat.eq_zero_of_not_pos (fun z => h ((nI_ltI (by decide : 0 < 2 ^ 31) hx).mpr z))))
theorem g_if_leN (C : g_C p s m args meth c cc nL own Ts D cI cC A) {x : Nat} {off : Int} (tgt : Nat) (hx : x < 2 ^ 31) (hd : decode cc pc = .ok (.ifCond .le off, 3)) (ht : (pc : Int) + off = (tgt : Int)) (K1 : x = 0 → g_J p l e R s m args below meth c Q D A nL k n ws (tgt) lv (st)) (K2 : 0 < x → g_J p l e R s m args below meth c Q D A nL k n ws (pc + 3) lv (st)) : g_J p l e R s m args below meth c Q D A nL k n ws (pc) lv (.int (nI x) :: st) := g_if_le C tgt hd ht (fun h => K1 (Nat.le_zero.mp ((nI_leI hx (by decide : 0 < 2 ^ 31)).mp h))) (fun h => K2 (Nat.pos_of_ne_zero (fun z => h (by rw [z]; exact nI_leI (by decide : 0 < 2 ^ 31) (by decide : 0 < 2 ^ 31) |>.mpr (Nat.le_refl 0)))))
theorem g_if_ltN (C : g_C p s m args meth c cc nL own Ts D cI cC A) {x : Nat} {off : Int} (tgt : Nat) (hx : x < 2 ^ 31) (hd : decode cc pc = .ok (.ifCond .lt off, 3)) (ht : (pc : Int) + off = (tgt : Int)) (K2 : g_J p l e R s m args below meth c Q D A nL k n ws (pc + 3) lv (st)) : g_J p l e R s m args below meth c Q D A nL k n ws (pc) lv (.int (nI x) :: st) := g_if_lt C tgt hd ht (fun h => absurd h (nI_pos hx)) (fun _ => K2)
theorem g_if_geN (C : g_C p s m args meth c cc nL own Ts D cI cC A) {x : Nat} {off : Int} (tgt : Nat) (hx : x < 2 ^ 31) (hd : decode cc pc = .ok (.ifCond .ge off, 3)) (ht : (pc : Int) + off = (tgt : Int)) (K1 : g_J p l e R s m args below meth c Q D A nL k n ws (tgt) lv (st)) : g_J p l e R s m args below meth c Q D A nL k n ws (pc) lv (.int (nI x) :: st) := g_if_ge C tgt hd ht (fun _ => K1) (fun h => absurd (nI_pos' hx) h)
theorem g_if_eqB (C : g_C p s m args meth c cc nL own Ts D cI cC A) {b : Bool} {off : Int} (tgt : Nat) (hd : decode cc pc = .ok (.ifCond .eq off, 3)) (ht : (pc : Int) + off = (tgt : Int)) (K1 : b = false → g_J p l e R s m args below meth c Q D A nL k n ws (tgt) lv (st)) (K2 : b = true → g_J p l e R s m args below meth c Q D A nL k n ws (pc + 3) lv (st)) : g_J p l e R s m args below meth c Q D A nL k n ws (pc) lv (.int (bI b) :: st) := g_if_eq C tgt hd ht (fun h => K1 ((bI_ne b).mp h)) (fun h => K2 (by cases b with | true => rfl | false => exact absurd rfl h))
theorem g_if_neB (C : g_C p s m args meth c cc nL own Ts D cI cC A) {b : Bool} {off : Int} (tgt : Nat) (hd : decode cc pc = .ok (.ifCond .ne off, 3)) (ht : (pc : Int) + off = (tgt : Int)) (K1 : b = true → g_J p l e R s m args below meth c Q D A nL k n ws (tgt) lv (st)) (K2 : b = false → g_J p l e R s m args below meth c Q D A nL k n ws (pc + 3) lv (st)) : g_J p l e R s m args below meth c Q D A nL k n ws (pc) lv (.int (bI b) :: st) := g_if_ne C tgt hd ht (fun h => K1 (by cases b with | true => rfl | false => exact absurd rfl h)) (fun h => K2 ((bI_ne b).mp h))
theorem g_top2 {v : Value} {x y : Int32} (h : x = y) (K : g_J p l e R s m args below meth c Q D A nL k n ws pc lv (v :: .int y :: rest)) : g_J p l e R s m args below meth c Q D A nL k n ws pc lv (v :: .int x :: rest) := by subst h; exact K
theorem g_iandN (C : g_C p s m args meth c cc nL own Ts D cI cC A) {x y : Nat} (hd : decode cc pc = .ok (.iand, 1)) (K : g_J p l e R s m args below meth c Q D A nL k n ws (pc + 1) lv (.int (nI (x &&& y)) :: st)) : g_J p l e R s m args below meth c Q D A nL k n ws pc lv (.int (nI y) :: .int (nI x) :: st) := g_iand C hd (g_top (g_and x y) K)
theorem g_iandX (C : g_C p s m args meth c cc nL own Ts D cI cC A) {x y : Nat} (hd : decode cc pc = .ok (.iand, 1)) (K : g_J p l e R s m args below meth c Q D A nL k n ws (pc + 1) lv (.int (nI (g_nand x y)) :: st)) : g_J p l e R s m args below meth c Q D A nL k n ws pc lv (.int (nI y ^^^ (-1)) :: .int (nI x) :: st) := g_iand C hd (g_top (g_nand_eq x y) K)
theorem g_iorN (C : g_C p s m args meth c cc nL own Ts D cI cC A) {x y : Nat} (hd : decode cc pc = .ok (.ior, 1)) (K : g_J p l e R s m args below meth c Q D A nL k n ws (pc + 1) lv (.int (nI (x ||| y)) :: st)) : g_J p l e R s m args below meth c Q D A nL k n ws pc lv (.int (nI y) :: .int (nI x) :: st) := g_ior C hd (g_top (g_or x y) K)
theorem g_ishlN (C : g_C p s m args meth c cc nL own Ts D cI cC A) {x y : Nat} (hy : y < 32) (hd : decode cc pc = .ok (.ishl, 1)) (K : g_J p l e R s m args below meth c Q D A nL k n ws (pc + 1) lv (.int (nI (x <<< y)) :: st)) : g_J p l e R s m args below meth c Q D A nL k n ws pc lv (.int (nI y) :: .int (nI x) :: st) := g_ishl C hd (g_top (g_shl x hy) K)
theorem g_ishrN (C : g_C p s m args meth c cc nL own Ts D cI cC A) {x y : Nat} (hx : x < 2 ^ 31) (hy : y < 32) (hd : decode cc pc = .ok (.ishr, 1)) (K : g_J p l e R s m args below meth c Q D A nL k n ws (pc + 1) lv (.int (nI (x >>> y)) :: st)) : g_J p l e R s m args below meth c Q D A nL k n ws pc lv (.int (nI y) :: .int (nI x) :: st) := g_ishr C hd (g_top (g_shr hx hy) K)
theorem g_lveq (h : lv = lv') (K : g_J p l e R s m args below meth c Q D A nL k n ws pc lv' st) : g_J p l e R s m args below meth c Q D A nL k n ws pc lv st := by subst h; exact K
theorem g_topd {x y : UInt64} (h : x = y) (K : g_J p l e R s m args below meth c Q D A nL k n ws pc lv (.double y :: rest)) : g_J p l e R s m args below meth c Q D A nL k n ws pc lv (.double x :: rest) := by subst h; exact K
theorem g_dec {x : Nat} (h : 1 ≤ x) : nI x + Int32.ofInt (-1) = nI (x - 1) := by
  obtain ⟨y, rfl⟩ : ∃ y, x = y + 1 := ⟨x - 1, by omega⟩
  rw [show y + 1 - 1 = y by omega]
  exact pk_m1 y
theorem g_i2cN {x : Nat} (h : x < 65536) : ((nI x).toUInt32 % 65536).toInt32 = nI x := by
  rw [pk_char, pk_tn (by omega), Nat.mod_eq_of_lt h]
theorem g_out {x : Int32} (lo hi : Nat) (hb : hi < 2 ^ 31) (h : ∀ k, lo ≤ k → k ≤ hi → ¬ x = nI k) : x.toInt < (lo : Int) ∨ (hi : Int) < x.toInt := by
  by_cases h1 : x.toInt < (lo : Int)
  · exact Or.inl h1
  · by_cases h2 : (hi : Int) < x.toInt
    · exact Or.inr h2
    · refine absurd ?_ (h x.toInt.toNat (by omega) (by omega))
      apply Int32.toInt_inj.mp
      rw [nI_toInt (by omega)]
      omega
theorem g_i2d (C : g_C p s m args meth c cc nL own Ts D cI cC A) {x : Int32} (hd : decode cc pc = .ok (.i2d, 1)) (K : g_J p l e R s m args below meth c Q D A nL k n ws (pc + 1) lv (.double (FP.i2d x) :: st)) : g_J p l e R s m args below meth c Q D A nL k n ws pc lv (.int x :: st) := fun H locs ls hP hD hS hl => lv_i2d C.1.1 C.1.2.1 hd (K H locs ls hP hD hS hl)
theorem g_ddiv (C : g_C p s m args meth c cc nL own Ts D cI cC A) {x y : UInt64} (hd : decode cc pc = .ok (.ddiv, 1)) (hne : vf_n64 (FP.ddiv x y)) (K : g_J p l e R s m args below meth c Q D A nL k n ws (pc + 1) lv (.double (FP.ddiv x y) :: st)) : g_J p l e R s m args below meth c Q D A nL k n ws pc lv (.double y :: .double x :: st) := fun H locs ls hP hD hS hl => lv_ddiv C.1.1 C.1.2.1 hd hne (K H locs ls hP hD hS hl)
theorem g_dconst0 (C : g_C p s m args meth c cc nL own Ts D cI cC A) (hd : decode cc pc = .ok (.dconst 0, 1)) (K : g_J p l e R s m args below meth c Q D A nL k n ws (pc + 1) lv (.double FP.dconst0 :: st)) : g_J p l e R s m args below meth c Q D A nL k n ws pc lv st := fun H locs ls hP hD hS hl => lv_dconst0 C.1.1 C.1.2.1 hd (K H locs ls hP hD hS hl)
theorem g_and1 (x : Nat) : x &&& 1 < 2 ^ 31 := Nat.lt_of_le_of_lt Nat.and_le_right (by decide)
theorem g_nameN {x : Nat} (K : ∀ y : Nat, y = x → g_J p l e R s m args below meth c Q D A nL k n ws pc lv (.int (nI y) :: rest)) : g_J p l e R s m args below meth c Q D A nL k n ws pc lv (.int (nI x) :: rest) := K x rfl
theorem g_u31 : ∀ n, n < 32 → (((nI n).toUInt32 &&& Int32.toUInt32 31).toBitVec % 32).toNat = n := by decide
theorem g_iushrN (C : g_C p s m args meth c cc nL own Ts D cI cC A) {x y : Nat} (hx : x < 2 ^ 32) (hy : y < 32) (hd : decode cc pc = .ok (.iushr, 1)) (K : g_J p l e R s m args below meth c Q D A nL k n ws (pc + 1) lv (.int (nI (x >>> y)) :: st)) : g_J p l e R s m args below meth c Q D A nL k n ws pc lv (.int (nI y) :: .int (nI x) :: st) := g_iushr C hd (by rw [pk_ushrN hx (nI y) y (g_u31 y hy), Nat.shiftRight_eq_div_pow]) K
end GROWS
end
