section
-- ===== PART A: goes FIRST, ahead of the names: the tables' words, and 'selects' of the private methods out of them =====
/-- a private method of a class that the tables say can be made, by its rows of tables_1 -/
def lw_okq (q : MethodName × Nat) : Prop := (q.1.cls ≠ "java/lang/invoke/MethodHandle" ∧ q.1.cls ≠ "java/lang/invoke/VarHandle") ∧ Cond.instantiable q.1.cls q.2 ∈ tables_1 ∧ Cond.privateMethod q.1 ∈ tables_1 ∧ Cond.instanceMethod q.1 ∈ tables_1
theorem lw_p0 : lw_okq (⟨"PriceUpon$Tape", "readStatement", "(LPriceUpon$Trade;Z)V"⟩, 4) := ⟨⟨by decide +kernel, by decide +kernel⟩, List.mem_of_getElem? (i := 26) (by decide +kernel), List.mem_of_getElem? (i := 382) (by decide +kernel), List.mem_of_getElem? (i := 383) (by decide +kernel)⟩
theorem lw_p1 : lw_okq (⟨"PriceUpon$Tape", "skipBlanks", "()V"⟩, 4) := ⟨⟨by decide +kernel, by decide +kernel⟩, List.mem_of_getElem? (i := 26) (by decide +kernel), List.mem_of_getElem? (i := 386) (by decide +kernel), List.mem_of_getElem? (i := 387) (by decide +kernel)⟩
theorem lw_p2 : lw_okq (⟨"PriceUpon$Tape", "readNumber", "(II)I"⟩, 4) := ⟨⟨by decide +kernel, by decide +kernel⟩, List.mem_of_getElem? (i := 26) (by decide +kernel), List.mem_of_getElem? (i := 390) (by decide +kernel), List.mem_of_getElem? (i := 391) (by decide +kernel)⟩
theorem lw_p3 : lw_okq (⟨"PriceUpon$Tape", "isDigit", "()Z"⟩, 4) := ⟨⟨by decide +kernel, by decide +kernel⟩, List.mem_of_getElem? (i := 26) (by decide +kernel), List.mem_of_getElem? (i := 394) (by decide +kernel), List.mem_of_getElem? (i := 395) (by decide +kernel)⟩
theorem lw_p4 : lw_okq (⟨"PriceUpon$Tape", "readCost", "(LPriceUpon$Trade;)V"⟩, 4) := ⟨⟨by decide +kernel, by decide +kernel⟩, List.mem_of_getElem? (i := 26) (by decide +kernel), List.mem_of_getElem? (i := 398) (by decide +kernel), List.mem_of_getElem? (i := 399) (by decide +kernel)⟩
theorem lw_p5 : lw_okq (⟨"PriceUpon$Tape", "readSource", "(LPriceUpon$Trade;)V"⟩, 4) := ⟨⟨by decide +kernel, by decide +kernel⟩, List.mem_of_getElem? (i := 26) (by decide +kernel), List.mem_of_getElem? (i := 402) (by decide +kernel), List.mem_of_getElem? (i := 403) (by decide +kernel)⟩
theorem lw_p6 : lw_okq (⟨"PriceUpon$Tape", "readLot", "(LPriceUpon$Trade;)V"⟩, 4) := ⟨⟨by decide +kernel, by decide +kernel⟩, List.mem_of_getElem? (i := 26) (by decide +kernel), List.mem_of_getElem? (i := 410) (by decide +kernel), List.mem_of_getElem? (i := 411) (by decide +kernel)⟩
theorem lw_p7 : lw_okq (⟨"PriceUpon$Tape", "readElse", "(LPriceUpon$Trade;)V"⟩, 4) := ⟨⟨by decide +kernel, by decide +kernel⟩, List.mem_of_getElem? (i := 26) (by decide +kernel), List.mem_of_getElem? (i := 418) (by decide +kernel), List.mem_of_getElem? (i := 419) (by decide +kernel)⟩
theorem lw_p8 : lw_okq (⟨"PriceUpon", "find", "(I)LPriceUpon$Trade;"⟩, 12) := ⟨⟨by decide +kernel, by decide +kernel⟩, List.mem_of_getElem? (i := 18) (by decide +kernel), List.mem_of_getElem? (i := 430) (by decide +kernel), List.mem_of_getElem? (i := 431) (by decide +kernel)⟩
theorem lw_p9 : lw_okq (⟨"PriceUpon$Market", "lastStale", "(LPriceUpon$Trade;LPriceUpon$Terms;)I"⟩, 12) := ⟨⟨by decide +kernel, by decide +kernel⟩, List.mem_of_getElem? (i := 173) (by decide +kernel), List.mem_of_getElem? (i := 489) (by decide +kernel), List.mem_of_getElem? (i := 490) (by decide +kernel)⟩
theorem lw_p10 : lw_okq (⟨"PriceUpon$Market", "lastRow", "(LPriceUpon$Trade;I)I"⟩, 12) := ⟨⟨by decide +kernel, by decide +kernel⟩, List.mem_of_getElem? (i := 173) (by decide +kernel), List.mem_of_getElem? (i := 502) (by decide +kernel), List.mem_of_getElem? (i := 503) (by decide +kernel)⟩
theorem lw_p11 : lw_okq (⟨"PriceUpon$Market", "reckon", "(LPriceUpon$Trade;II)V"⟩, 12) := ⟨⟨by decide +kernel, by decide +kernel⟩, List.mem_of_getElem? (i := 173) (by decide +kernel), List.mem_of_getElem? (i := 509) (by decide +kernel), List.mem_of_getElem? (i := 510) (by decide +kernel)⟩
theorem lw_p12 : lw_okq (⟨"PriceUpon$Market", "commonPrice", "(LPriceUpon$Trade;II)I"⟩, 12) := ⟨⟨by decide +kernel, by decide +kernel⟩, List.mem_of_getElem? (i := 173) (by decide +kernel), List.mem_of_getElem? (i := 515) (by decide +kernel), List.mem_of_getElem? (i := 516) (by decide +kernel)⟩
theorem lw_p13 : lw_okq (⟨"PriceUpon$Market", "halvedPrice", "(II)I"⟩, 12) := ⟨⟨by decide +kernel, by decide +kernel⟩, List.mem_of_getElem? (i := 173) (by decide +kernel), List.mem_of_getElem? (i := 523) (by decide +kernel), List.mem_of_getElem? (i := 524) (by decide +kernel)⟩
theorem lw_p14 : lw_okq (⟨"PriceUpon$Market", "ownPrice", "(II)I"⟩, 12) := ⟨⟨by decide +kernel, by decide +kernel⟩, List.mem_of_getElem? (i := 173) (by decide +kernel), List.mem_of_getElem? (i := 527) (by decide +kernel), List.mem_of_getElem? (i := 528) (by decide +kernel)⟩
theorem lw_p15 : lw_okq (⟨"PriceUpon$Market", "trace", "(LPriceUpon$Trade;I)V"⟩, 12) := ⟨⟨by decide +kernel, by decide +kernel⟩, List.mem_of_getElem? (i := 173) (by decide +kernel), List.mem_of_getElem? (i := 531) (by decide +kernel), List.mem_of_getElem? (i := 532) (by decide +kernel)⟩
def lw_privs_1 : List (MethodName × Nat) := [(⟨"PriceUpon$Tape", "readStatement", "(LPriceUpon$Trade;Z)V"⟩, 4), (⟨"PriceUpon$Tape", "skipBlanks", "()V"⟩, 4), (⟨"PriceUpon$Tape", "readNumber", "(II)I"⟩, 4), (⟨"PriceUpon$Tape", "isDigit", "()Z"⟩, 4), (⟨"PriceUpon$Tape", "readCost", "(LPriceUpon$Trade;)V"⟩, 4), (⟨"PriceUpon$Tape", "readSource", "(LPriceUpon$Trade;)V"⟩, 4), (⟨"PriceUpon$Tape", "readLot", "(LPriceUpon$Trade;)V"⟩, 4), (⟨"PriceUpon$Tape", "readElse", "(LPriceUpon$Trade;)V"⟩, 4), (⟨"PriceUpon", "find", "(I)LPriceUpon$Trade;"⟩, 12), (⟨"PriceUpon$Market", "lastStale", "(LPriceUpon$Trade;LPriceUpon$Terms;)I"⟩, 12), (⟨"PriceUpon$Market", "lastRow", "(LPriceUpon$Trade;I)I"⟩, 12), (⟨"PriceUpon$Market", "reckon", "(LPriceUpon$Trade;II)V"⟩, 12), (⟨"PriceUpon$Market", "commonPrice", "(LPriceUpon$Trade;II)I"⟩, 12), (⟨"PriceUpon$Market", "halvedPrice", "(II)I"⟩, 12), (⟨"PriceUpon$Market", "ownPrice", "(II)I"⟩, 12), (⟨"PriceUpon$Market", "trace", "(LPriceUpon$Trade;I)V"⟩, 12)]
theorem lw_r1 : ∀ q ∈ lw_privs_1, lw_okq q := List.forall_mem_cons.mpr ⟨lw_p0, List.forall_mem_cons.mpr ⟨lw_p1, List.forall_mem_cons.mpr ⟨lw_p2, List.forall_mem_cons.mpr ⟨lw_p3, List.forall_mem_cons.mpr ⟨lw_p4, List.forall_mem_cons.mpr ⟨lw_p5, List.forall_mem_cons.mpr ⟨lw_p6, List.forall_mem_cons.mpr ⟨lw_p7, List.forall_mem_cons.mpr ⟨lw_p8, List.forall_mem_cons.mpr ⟨lw_p9, List.forall_mem_cons.mpr ⟨lw_p10, List.forall_mem_cons.mpr ⟨lw_p11, List.forall_mem_cons.mpr ⟨lw_p12, List.forall_mem_cons.mpr ⟨lw_p13, List.forall_mem_cons.mpr ⟨lw_p14, List.forall_mem_cons.mpr ⟨lw_p15, fun _ h => absurd h List.not_mem_nil⟩⟩⟩⟩⟩⟩⟩⟩⟩⟩⟩⟩⟩⟩⟩⟩
theorem lw_p16 : lw_okq (⟨"PriceUpon$Market", "earnedBy", "(LPriceUpon$Trade;I)I"⟩, 12) := ⟨⟨by decide +kernel, by decide +kernel⟩, List.mem_of_getElem? (i := 173) (by decide +kernel), List.mem_of_getElem? (i := 535) (by decide +kernel), List.mem_of_getElem? (i := 536) (by decide +kernel)⟩
theorem lw_p17 : lw_okq (⟨"PriceUpon", "settleTogether", "(LPriceUpon$Trade;I)V"⟩, 12) := ⟨⟨by decide +kernel, by decide +kernel⟩, List.mem_of_getElem? (i := 18) (by decide +kernel), List.mem_of_getElem? (i := 560) (by decide +kernel), List.mem_of_getElem? (i := 561) (by decide +kernel)⟩
theorem lw_p18 : lw_okq (⟨"PriceUpon$Hand", "spentBy", "(LPriceUpon$Trade;I)I"⟩, 1) := ⟨⟨by decide +kernel, by decide +kernel⟩, List.mem_of_getElem? (i := 228) (by decide +kernel), List.mem_of_getElem? (i := 594) (by decide +kernel), List.mem_of_getElem? (i := 595) (by decide +kernel)⟩
theorem lw_p19 : lw_okq (⟨"PriceUpon$Hand", "earnedFrom", "(LPriceUpon$Trade;II)I"⟩, 1) := ⟨⟨by decide +kernel, by decide +kernel⟩, List.mem_of_getElem? (i := 228) (by decide +kernel), List.mem_of_getElem? (i := 598) (by decide +kernel), List.mem_of_getElem? (i := 599) (by decide +kernel)⟩
theorem lw_p20 : lw_okq (⟨"PriceUpon", "settleFree", "(LPriceUpon$Trade;)V"⟩, 12) := ⟨⟨by decide +kernel, by decide +kernel⟩, List.mem_of_getElem? (i := 18) (by decide +kernel), List.mem_of_getElem? (i := 606) (by decide +kernel), List.mem_of_getElem? (i := 607) (by decide +kernel)⟩
theorem lw_p21 : lw_okq (⟨"PriceUpon$Hand", "shopWould", "(LPriceUpon$Trade;I)Z"⟩, 1) := ⟨⟨by decide +kernel, by decide +kernel⟩, List.mem_of_getElem? (i := 228) (by decide +kernel), List.mem_of_getElem? (i := 614) (by decide +kernel), List.mem_of_getElem? (i := 615) (by decide +kernel)⟩
theorem lw_p22 : lw_okq (⟨"PriceUpon$Hand", "anyPriceWould", "(LPriceUpon$Trade;LPriceUpon$Market;I)Z"⟩, 1) := ⟨⟨by decide +kernel, by decide +kernel⟩, List.mem_of_getElem? (i := 228) (by decide +kernel), List.mem_of_getElem? (i := 620) (by decide +kernel), List.mem_of_getElem? (i := 621) (by decide +kernel)⟩
theorem lw_p23 : lw_okq (⟨"PriceUpon$Hand", "priceWould", "(LPriceUpon$Trade;LPriceUpon$Market;II)Z"⟩, 1) := ⟨⟨by decide +kernel, by decide +kernel⟩, List.mem_of_getElem? (i := 228) (by decide +kernel), List.mem_of_getElem? (i := 624) (by decide +kernel), List.mem_of_getElem? (i := 625) (by decide +kernel)⟩
theorem lw_p24 : lw_okq (⟨"PriceUpon", "findParted", "(II)LPriceUpon$Trade;"⟩, 12) := ⟨⟨by decide +kernel, by decide +kernel⟩, List.mem_of_getElem? (i := 18) (by decide +kernel), List.mem_of_getElem? (i := 649) (by decide +kernel), List.mem_of_getElem? (i := 650) (by decide +kernel)⟩
theorem lw_p25 : lw_okq (⟨"PriceUpon$Healing", "isBest", "([IIII)Z"⟩, 4) := ⟨⟨by decide +kernel, by decide +kernel⟩, List.mem_of_getElem? (i := 238) (by decide +kernel), List.mem_of_getElem? (i := 657) (by decide +kernel), List.mem_of_getElem? (i := 658) (by decide +kernel)⟩
theorem lw_p26 : lw_okq (⟨"PriceUpon$Duel", "bestAgainst", "([I[II)I"⟩, 6) := ⟨⟨by decide +kernel, by decide +kernel⟩, List.mem_of_getElem? (i := 259) (by decide +kernel), List.mem_of_getElem? (i := 683) (by decide +kernel), List.mem_of_getElem? (i := 684) (by decide +kernel)⟩
theorem lw_p27 : lw_okq (⟨"PriceUpon$Duel", "gained", "([I[III)I"⟩, 6) := ⟨⟨by decide +kernel, by decide +kernel⟩, List.mem_of_getElem? (i := 259) (by decide +kernel), List.mem_of_getElem? (i := 687) (by decide +kernel), List.mem_of_getElem? (i := 688) (by decide +kernel)⟩
theorem lw_p28 : lw_okq (⟨"PriceUpon$Duel", "isRest", "(II)Z"⟩, 6) := ⟨⟨by decide +kernel, by decide +kernel⟩, List.mem_of_getElem? (i := 259) (by decide +kernel), List.mem_of_getElem? (i := 691) (by decide +kernel), List.mem_of_getElem? (i := 692) (by decide +kernel)⟩
theorem lw_p29 : lw_okq (⟨"PriceUpon$Chances", "leftOf", "(I)I"⟩, 4) := ⟨⟨by decide +kernel, by decide +kernel⟩, List.mem_of_getElem? (i := 298) (by decide +kernel), List.mem_of_getElem? (i := 728) (by decide +kernel), List.mem_of_getElem? (i := 729) (by decide +kernel)⟩
theorem lw_p30 : lw_okq (⟨"PriceUpon$Joining", "buyingHouses", "(LPriceUpon$Trade;)I"⟩, 2) := ⟨⟨by decide +kernel, by decide +kernel⟩, List.mem_of_getElem? (i := 284) (by decide +kernel), List.mem_of_getElem? (i := 775) (by decide +kernel), List.mem_of_getElem? (i := 776) (by decide +kernel)⟩
theorem lw_p31 : lw_okq (⟨"PriceUpon$Joining", "isAtRest", "(LPriceUpon$Trade;II)Z"⟩, 2) := ⟨⟨by decide +kernel, by decide +kernel⟩, List.mem_of_getElem? (i := 284) (by decide +kernel), List.mem_of_getElem? (i := 780) (by decide +kernel), List.mem_of_getElem? (i := 781) (by decide +kernel)⟩
def lw_privs_2 : List (MethodName × Nat) := [(⟨"PriceUpon$Market", "earnedBy", "(LPriceUpon$Trade;I)I"⟩, 12), (⟨"PriceUpon", "settleTogether", "(LPriceUpon$Trade;I)V"⟩, 12), (⟨"PriceUpon$Hand", "spentBy", "(LPriceUpon$Trade;I)I"⟩, 1), (⟨"PriceUpon$Hand", "earnedFrom", "(LPriceUpon$Trade;II)I"⟩, 1), (⟨"PriceUpon", "settleFree", "(LPriceUpon$Trade;)V"⟩, 12), (⟨"PriceUpon$Hand", "shopWould", "(LPriceUpon$Trade;I)Z"⟩, 1), (⟨"PriceUpon$Hand", "anyPriceWould", "(LPriceUpon$Trade;LPriceUpon$Market;I)Z"⟩, 1), (⟨"PriceUpon$Hand", "priceWould", "(LPriceUpon$Trade;LPriceUpon$Market;II)Z"⟩, 1), (⟨"PriceUpon", "findParted", "(II)LPriceUpon$Trade;"⟩, 12), (⟨"PriceUpon$Healing", "isBest", "([IIII)Z"⟩, 4), (⟨"PriceUpon$Duel", "bestAgainst", "([I[II)I"⟩, 6), (⟨"PriceUpon$Duel", "gained", "([I[III)I"⟩, 6), (⟨"PriceUpon$Duel", "isRest", "(II)Z"⟩, 6), (⟨"PriceUpon$Chances", "leftOf", "(I)I"⟩, 4), (⟨"PriceUpon$Joining", "buyingHouses", "(LPriceUpon$Trade;)I"⟩, 2), (⟨"PriceUpon$Joining", "isAtRest", "(LPriceUpon$Trade;II)Z"⟩, 2)]
theorem lw_r2 : ∀ q ∈ lw_privs_2, lw_okq q := List.forall_mem_cons.mpr ⟨lw_p16, List.forall_mem_cons.mpr ⟨lw_p17, List.forall_mem_cons.mpr ⟨lw_p18, List.forall_mem_cons.mpr ⟨lw_p19, List.forall_mem_cons.mpr ⟨lw_p20, List.forall_mem_cons.mpr ⟨lw_p21, List.forall_mem_cons.mpr ⟨lw_p22, List.forall_mem_cons.mpr ⟨lw_p23, List.forall_mem_cons.mpr ⟨lw_p24, List.forall_mem_cons.mpr ⟨lw_p25, List.forall_mem_cons.mpr ⟨lw_p26, List.forall_mem_cons.mpr ⟨lw_p27, List.forall_mem_cons.mpr ⟨lw_p28, List.forall_mem_cons.mpr ⟨lw_p29, List.forall_mem_cons.mpr ⟨lw_p30, List.forall_mem_cons.mpr ⟨lw_p31, fun _ h => absurd h List.not_mem_nil⟩⟩⟩⟩⟩⟩⟩⟩⟩⟩⟩⟩⟩⟩⟩⟩
theorem lw_p32 : lw_okq (⟨"java/lang/Throwable", "fillInStackTrace", "(I)Ljava/lang/Throwable;"⟩, 6) := ⟨⟨by decide +kernel, by decide +kernel⟩, List.mem_of_getElem? (i := 833) (by decide +kernel), List.mem_of_getElem? (i := 831) (by decide +kernel), List.mem_of_getElem? (i := 832) (by decide +kernel)⟩
theorem lw_p33 : lw_okq (⟨"PriceUponModel", "put", "(I)V"⟩, 38) := ⟨⟨by decide +kernel, by decide +kernel⟩, List.mem_of_getElem? (i := 863) (by decide +kernel), List.mem_of_getElem? (i := 996) (by decide +kernel), List.mem_of_getElem? (i := 997) (by decide +kernel)⟩
theorem lw_p34 : lw_okq (⟨"PriceUponModel", "readTrade", "()Z"⟩, 38) := ⟨⟨by decide +kernel, by decide +kernel⟩, List.mem_of_getElem? (i := 863) (by decide +kernel), List.mem_of_getElem? (i := 1008) (by decide +kernel), List.mem_of_getElem? (i := 1009) (by decide +kernel)⟩
theorem lw_p35 : lw_okq (⟨"PriceUponModel", "look", "()I"⟩, 38) := ⟨⟨by decide +kernel, by decide +kernel⟩, List.mem_of_getElem? (i := 863) (by decide +kernel), List.mem_of_getElem? (i := 1012) (by decide +kernel), List.mem_of_getElem? (i := 1013) (by decide +kernel)⟩
theorem lw_p36 : lw_okq (⟨"PriceUponModel", "here", "()I"⟩, 38) := ⟨⟨by decide +kernel, by decide +kernel⟩, List.mem_of_getElem? (i := 863) (by decide +kernel), List.mem_of_getElem? (i := 1016) (by decide +kernel), List.mem_of_getElem? (i := 1017) (by decide +kernel)⟩
theorem lw_p37 : lw_okq (⟨"PriceUponModel", "fails", "(I)Z"⟩, 38) := ⟨⟨by decide +kernel, by decide +kernel⟩, List.mem_of_getElem? (i := 863) (by decide +kernel), List.mem_of_getElem? (i := 1020) (by decide +kernel), List.mem_of_getElem? (i := 1021) (by decide +kernel)⟩
theorem lw_p38 : lw_okq (⟨"PriceUponModel", "number", "(III)Z"⟩, 38) := ⟨⟨by decide +kernel, by decide +kernel⟩, List.mem_of_getElem? (i := 863) (by decide +kernel), List.mem_of_getElem? (i := 1024) (by decide +kernel), List.mem_of_getElem? (i := 1025) (by decide +kernel)⟩
theorem lw_p39 : lw_okq (⟨"PriceUponModel", "isDigit", "()Z"⟩, 38) := ⟨⟨by decide +kernel, by decide +kernel⟩, List.mem_of_getElem? (i := 863) (by decide +kernel), List.mem_of_getElem? (i := 1028) (by decide +kernel), List.mem_of_getElem? (i := 1029) (by decide +kernel)⟩
theorem lw_p40 : lw_okq (⟨"PriceUponModel", "statement", "(I)Z"⟩, 38) := ⟨⟨by decide +kernel, by decide +kernel⟩, List.mem_of_getElem? (i := 863) (by decide +kernel), List.mem_of_getElem? (i := 1035) (by decide +kernel), List.mem_of_getElem? (i := 1036) (by decide +kernel)⟩
theorem lw_p41 : lw_okq (⟨"PriceUponModel", "readTold", "(I[II)Z"⟩, 38) := ⟨⟨by decide +kernel, by decide +kernel⟩, List.mem_of_getElem? (i := 863) (by decide +kernel), List.mem_of_getElem? (i := 1039) (by decide +kernel), List.mem_of_getElem? (i := 1040) (by decide +kernel)⟩
theorem lw_p42 : lw_okq (⟨"PriceUponModel", "readBuys", "(I)Z"⟩, 38) := ⟨⟨by decide +kernel, by decide +kernel⟩, List.mem_of_getElem? (i := 863) (by decide +kernel), List.mem_of_getElem? (i := 1043) (by decide +kernel), List.mem_of_getElem? (i := 1044) (by decide +kernel)⟩
theorem lw_p43 : lw_okq (⟨"PriceUponModel", "readWant", "(I)Z"⟩, 38) := ⟨⟨by decide +kernel, by decide +kernel⟩, List.mem_of_getElem? (i := 863) (by decide +kernel), List.mem_of_getElem? (i := 1047) (by decide +kernel), List.mem_of_getElem? (i := 1048) (by decide +kernel)⟩
theorem lw_p44 : lw_okq (⟨"PriceUponModel", "isHouse", "(II)Z"⟩, 38) := ⟨⟨by decide +kernel, by decide +kernel⟩, List.mem_of_getElem? (i := 863) (by decide +kernel), List.mem_of_getElem? (i := 1059) (by decide +kernel), List.mem_of_getElem? (i := 1060) (by decide +kernel)⟩
theorem lw_p45 : lw_okq (⟨"PriceUponModel", "isTrade", "(I)Z"⟩, 38) := ⟨⟨by decide +kernel, by decide +kernel⟩, List.mem_of_getElem? (i := 863) (by decide +kernel), List.mem_of_getElem? (i := 1063) (by decide +kernel), List.mem_of_getElem? (i := 1064) (by decide +kernel)⟩
theorem lw_p46 : lw_okq (⟨"PriceUponModel", "costOf", "(II)I"⟩, 38) := ⟨⟨by decide +kernel, by decide +kernel⟩, List.mem_of_getElem? (i := 863) (by decide +kernel), List.mem_of_getElem? (i := 1067) (by decide +kernel), List.mem_of_getElem? (i := 1068) (by decide +kernel)⟩
theorem lw_p47 : lw_okq (⟨"PriceUponModel", "buyers", "(II)I"⟩, 38) := ⟨⟨by decide +kernel, by decide +kernel⟩, List.mem_of_getElem? (i := 863) (by decide +kernel), List.mem_of_getElem? (i := 1071) (by decide +kernel), List.mem_of_getElem? (i := 1072) (by decide +kernel)⟩
def lw_privs_3 : List (MethodName × Nat) := [(⟨"java/lang/Throwable", "fillInStackTrace", "(I)Ljava/lang/Throwable;"⟩, 6), (⟨"PriceUponModel", "put", "(I)V"⟩, 38), (⟨"PriceUponModel", "readTrade", "()Z"⟩, 38), (⟨"PriceUponModel", "look", "()I"⟩, 38), (⟨"PriceUponModel", "here", "()I"⟩, 38), (⟨"PriceUponModel", "fails", "(I)Z"⟩, 38), (⟨"PriceUponModel", "number", "(III)Z"⟩, 38), (⟨"PriceUponModel", "isDigit", "()Z"⟩, 38), (⟨"PriceUponModel", "statement", "(I)Z"⟩, 38), (⟨"PriceUponModel", "readTold", "(I[II)Z"⟩, 38), (⟨"PriceUponModel", "readBuys", "(I)Z"⟩, 38), (⟨"PriceUponModel", "readWant", "(I)Z"⟩, 38), (⟨"PriceUponModel", "isHouse", "(II)Z"⟩, 38), (⟨"PriceUponModel", "isTrade", "(I)Z"⟩, 38), (⟨"PriceUponModel", "costOf", "(II)I"⟩, 38), (⟨"PriceUponModel", "buyers", "(II)I"⟩, 38)]
theorem lw_r3 : ∀ q ∈ lw_privs_3, lw_okq q := List.forall_mem_cons.mpr ⟨lw_p32, List.forall_mem_cons.mpr ⟨lw_p33, List.forall_mem_cons.mpr ⟨lw_p34, List.forall_mem_cons.mpr ⟨lw_p35, List.forall_mem_cons.mpr ⟨lw_p36, List.forall_mem_cons.mpr ⟨lw_p37, List.forall_mem_cons.mpr ⟨lw_p38, List.forall_mem_cons.mpr ⟨lw_p39, List.forall_mem_cons.mpr ⟨lw_p40, List.forall_mem_cons.mpr ⟨lw_p41, List.forall_mem_cons.mpr ⟨lw_p42, List.forall_mem_cons.mpr ⟨lw_p43, List.forall_mem_cons.mpr ⟨lw_p44, List.forall_mem_cons.mpr ⟨lw_p45, List.forall_mem_cons.mpr ⟨lw_p46, List.forall_mem_cons.mpr ⟨lw_p47, fun _ h => absurd h List.not_mem_nil⟩⟩⟩⟩⟩⟩⟩⟩⟩⟩⟩⟩⟩⟩⟩⟩
theorem lw_p48 : lw_okq (⟨"PriceUponModel", "buys", "(III)Z"⟩, 38) := ⟨⟨by decide +kernel, by decide +kernel⟩, List.mem_of_getElem? (i := 863) (by decide +kernel), List.mem_of_getElem? (i := 1075) (by decide +kernel), List.mem_of_getElem? (i := 1076) (by decide +kernel)⟩
theorem lw_p49 : lw_okq (⟨"PriceUponModel", "isShop", "(II)Z"⟩, 38) := ⟨⟨by decide +kernel, by decide +kernel⟩, List.mem_of_getElem? (i := 863) (by decide +kernel), List.mem_of_getElem? (i := 1079) (by decide +kernel), List.mem_of_getElem? (i := 1080) (by decide +kernel)⟩
theorem lw_p50 : lw_okq (⟨"PriceUponModel", "wanted", "(III)I"⟩, 38) := ⟨⟨by decide +kernel, by decide +kernel⟩, List.mem_of_getElem? (i := 863) (by decide +kernel), List.mem_of_getElem? (i := 1083) (by decide +kernel), List.mem_of_getElem? (i := 1084) (by decide +kernel)⟩
theorem lw_p51 : lw_okq (⟨"PriceUponModel", "termsOf", "(I)V"⟩, 38) := ⟨⟨by decide +kernel, by decide +kernel⟩, List.mem_of_getElem? (i := 863) (by decide +kernel), List.mem_of_getElem? (i := 1114) (by decide +kernel), List.mem_of_getElem? (i := 1115) (by decide +kernel)⟩
theorem lw_p52 : lw_okq (⟨"PriceUponModel", "terms", "(IIIZZ)V"⟩, 38) := ⟨⟨by decide +kernel, by decide +kernel⟩, List.mem_of_getElem? (i := 863) (by decide +kernel), List.mem_of_getElem? (i := 1118) (by decide +kernel), List.mem_of_getElem? (i := 1119) (by decide +kernel)⟩
theorem lw_p53 : lw_okq (⟨"PriceUponModel", "askBy", "(II)I"⟩, 38) := ⟨⟨by decide +kernel, by decide +kernel⟩, List.mem_of_getElem? (i := 863) (by decide +kernel), List.mem_of_getElem? (i := 1122) (by decide +kernel), List.mem_of_getElem? (i := 1123) (by decide +kernel)⟩
theorem lw_p54 : lw_okq (⟨"PriceUponModel", "takeBy", "(II)I"⟩, 38) := ⟨⟨by decide +kernel, by decide +kernel⟩, List.mem_of_getElem? (i := 863) (by decide +kernel), List.mem_of_getElem? (i := 1130) (by decide +kernel), List.mem_of_getElem? (i := 1131) (by decide +kernel)⟩
theorem lw_p55 : lw_okq (⟨"PriceUponModel", "would", "(II)V"⟩, 38) := ⟨⟨by decide +kernel, by decide +kernel⟩, List.mem_of_getElem? (i := 863) (by decide +kernel), List.mem_of_getElem? (i := 1134) (by decide +kernel), List.mem_of_getElem? (i := 1135) (by decide +kernel)⟩
theorem lw_p56 : lw_okq (⟨"PriceUponModel", "isJoined", "(I)Z"⟩, 38) := ⟨⟨by decide +kernel, by decide +kernel⟩, List.mem_of_getElem? (i := 863) (by decide +kernel), List.mem_of_getElem? (i := 1138) (by decide +kernel), List.mem_of_getElem? (i := 1139) (by decide +kernel)⟩
theorem lw_p57 : lw_okq (⟨"PriceUponModel", "priceTo", "(III)I"⟩, 38) := ⟨⟨by decide +kernel, by decide +kernel⟩, List.mem_of_getElem? (i := 863) (by decide +kernel), List.mem_of_getElem? (i := 1142) (by decide +kernel), List.mem_of_getElem? (i := 1143) (by decide +kernel)⟩
theorem lw_p58 : lw_okq (⟨"PriceUponModel", "halvedPrice", "(II)I"⟩, 38) := ⟨⟨by decide +kernel, by decide +kernel⟩, List.mem_of_getElem? (i := 863) (by decide +kernel), List.mem_of_getElem? (i := 1146) (by decide +kernel), List.mem_of_getElem? (i := 1147) (by decide +kernel)⟩
theorem lw_p59 : lw_okq (⟨"PriceUponModel", "earnBy", "(II)I"⟩, 38) := ⟨⟨by decide +kernel, by decide +kernel⟩, List.mem_of_getElem? (i := 863) (by decide +kernel), List.mem_of_getElem? (i := 1150) (by decide +kernel), List.mem_of_getElem? (i := 1151) (by decide +kernel)⟩
theorem lw_p60 : lw_okq (⟨"PriceUponModel", "alikePrice", "(II)I"⟩, 38) := ⟨⟨by decide +kernel, by decide +kernel⟩, List.mem_of_getElem? (i := 863) (by decide +kernel), List.mem_of_getElem? (i := 1154) (by decide +kernel), List.mem_of_getElem? (i := 1155) (by decide +kernel)⟩
theorem lw_p61 : lw_okq (⟨"PriceUponModel", "bestPrice", "(II)I"⟩, 38) := ⟨⟨by decide +kernel, by decide +kernel⟩, List.mem_of_getElem? (i := 863) (by decide +kernel), List.mem_of_getElem? (i := 1158) (by decide +kernel), List.mem_of_getElem? (i := 1159) (by decide +kernel)⟩
theorem lw_p62 : lw_okq (⟨"PriceUponModel", "layOutcome", "()V"⟩, 38) := ⟨⟨by decide +kernel, by decide +kernel⟩, List.mem_of_getElem? (i := 863) (by decide +kernel), List.mem_of_getElem? (i := 1167) (by decide +kernel), List.mem_of_getElem? (i := 1168) (by decide +kernel)⟩
theorem lw_p63 : lw_okq (⟨"PriceUponModel", "earnsOf", "(I)I"⟩, 38) := ⟨⟨by decide +kernel, by decide +kernel⟩, List.mem_of_getElem? (i := 863) (by decide +kernel), List.mem_of_getElem? (i := 1171) (by decide +kernel), List.mem_of_getElem? (i := 1172) (by decide +kernel)⟩
def lw_privs_4 : List (MethodName × Nat) := [(⟨"PriceUponModel", "buys", "(III)Z"⟩, 38), (⟨"PriceUponModel", "isShop", "(II)Z"⟩, 38), (⟨"PriceUponModel", "wanted", "(III)I"⟩, 38), (⟨"PriceUponModel", "termsOf", "(I)V"⟩, 38), (⟨"PriceUponModel", "terms", "(IIIZZ)V"⟩, 38), (⟨"PriceUponModel", "askBy", "(II)I"⟩, 38), (⟨"PriceUponModel", "takeBy", "(II)I"⟩, 38), (⟨"PriceUponModel", "would", "(II)V"⟩, 38), (⟨"PriceUponModel", "isJoined", "(I)Z"⟩, 38), (⟨"PriceUponModel", "priceTo", "(III)I"⟩, 38), (⟨"PriceUponModel", "halvedPrice", "(II)I"⟩, 38), (⟨"PriceUponModel", "earnBy", "(II)I"⟩, 38), (⟨"PriceUponModel", "alikePrice", "(II)I"⟩, 38), (⟨"PriceUponModel", "bestPrice", "(II)I"⟩, 38), (⟨"PriceUponModel", "layOutcome", "()V"⟩, 38), (⟨"PriceUponModel", "earnsOf", "(I)I"⟩, 38)]
theorem lw_r4 : ∀ q ∈ lw_privs_4, lw_okq q := List.forall_mem_cons.mpr ⟨lw_p48, List.forall_mem_cons.mpr ⟨lw_p49, List.forall_mem_cons.mpr ⟨lw_p50, List.forall_mem_cons.mpr ⟨lw_p51, List.forall_mem_cons.mpr ⟨lw_p52, List.forall_mem_cons.mpr ⟨lw_p53, List.forall_mem_cons.mpr ⟨lw_p54, List.forall_mem_cons.mpr ⟨lw_p55, List.forall_mem_cons.mpr ⟨lw_p56, List.forall_mem_cons.mpr ⟨lw_p57, List.forall_mem_cons.mpr ⟨lw_p58, List.forall_mem_cons.mpr ⟨lw_p59, List.forall_mem_cons.mpr ⟨lw_p60, List.forall_mem_cons.mpr ⟨lw_p61, List.forall_mem_cons.mpr ⟨lw_p62, List.forall_mem_cons.mpr ⟨lw_p63, fun _ h => absurd h List.not_mem_nil⟩⟩⟩⟩⟩⟩⟩⟩⟩⟩⟩⟩⟩⟩⟩⟩
theorem lw_p64 : lw_okq (⟨"PriceUponModel", "saving", "()I"⟩, 38) := ⟨⟨by decide +kernel, by decide +kernel⟩, List.mem_of_getElem? (i := 863) (by decide +kernel), List.mem_of_getElem? (i := 1179) (by decide +kernel), List.mem_of_getElem? (i := 1180) (by decide +kernel)⟩
theorem lw_p65 : lw_okq (⟨"PriceUponModel", "allEarn", "()I"⟩, 38) := ⟨⟨by decide +kernel, by decide +kernel⟩, List.mem_of_getElem? (i := 863) (by decide +kernel), List.mem_of_getElem? (i := 1183) (by decide +kernel), List.mem_of_getElem? (i := 1184) (by decide +kernel)⟩
theorem lw_p66 : lw_okq (⟨"PriceUponModel", "everybody", "(I)I"⟩, 38) := ⟨⟨by decide +kernel, by decide +kernel⟩, List.mem_of_getElem? (i := 863) (by decide +kernel), List.mem_of_getElem? (i := 1187) (by decide +kernel), List.mem_of_getElem? (i := 1188) (by decide +kernel)⟩
theorem lw_p67 : lw_okq (⟨"PriceUponModel", "toldUnit", "(II)I"⟩, 38) := ⟨⟨by decide +kernel, by decide +kernel⟩, List.mem_of_getElem? (i := 863) (by decide +kernel), List.mem_of_getElem? (i := 1207) (by decide +kernel), List.mem_of_getElem? (i := 1208) (by decide +kernel)⟩
theorem lw_p68 : lw_okq (⟨"PriceUponModel", "toldTake", "(II)I"⟩, 38) := ⟨⟨by decide +kernel, by decide +kernel⟩, List.mem_of_getElem? (i := 863) (by decide +kernel), List.mem_of_getElem? (i := 1211) (by decide +kernel), List.mem_of_getElem? (i := 1212) (by decide +kernel)⟩
theorem lw_p69 : lw_okq (⟨"PriceUponModel", "wouldElse", "(II)Z"⟩, 38) := ⟨⟨by decide +kernel, by decide +kernel⟩, List.mem_of_getElem? (i := 863) (by decide +kernel), List.mem_of_getElem? (i := 1219) (by decide +kernel), List.mem_of_getElem? (i := 1220) (by decide +kernel)⟩
theorem lw_p70 : lw_okq (⟨"PriceUponModel", "isBehind", "(III)Z"⟩, 38) := ⟨⟨by decide +kernel, by decide +kernel⟩, List.mem_of_getElem? (i := 863) (by decide +kernel), List.mem_of_getElem? (i := 1227) (by decide +kernel), List.mem_of_getElem? (i := 1228) (by decide +kernel)⟩
theorem lw_p71 : lw_okq (⟨"PriceUponModel", "freely", "(II)I"⟩, 38) := ⟨⟨by decide +kernel, by decide +kernel⟩, List.mem_of_getElem? (i := 863) (by decide +kernel), List.mem_of_getElem? (i := 1231) (by decide +kernel), List.mem_of_getElem? (i := 1232) (by decide +kernel)⟩
theorem lw_p72 : lw_okq (⟨"PriceUponModel", "chainCost", "(II)I"⟩, 38) := ⟨⟨by decide +kernel, by decide +kernel⟩, List.mem_of_getElem? (i := 863) (by decide +kernel), List.mem_of_getElem? (i := 1235) (by decide +kernel), List.mem_of_getElem? (i := 1236) (by decide +kernel)⟩
theorem lw_p73 : lw_okq (⟨"PriceUponModel", "isPartner", "(II)Z"⟩, 38) := ⟨⟨by decide +kernel, by decide +kernel⟩, List.mem_of_getElem? (i := 863) (by decide +kernel), List.mem_of_getElem? (i := 1243) (by decide +kernel), List.mem_of_getElem? (i := 1244) (by decide +kernel)⟩
theorem lw_p74 : lw_okq (⟨"PriceUponModel", "isMaker", "(II)Z"⟩, 38) := ⟨⟨by decide +kernel, by decide +kernel⟩, List.mem_of_getElem? (i := 863) (by decide +kernel), List.mem_of_getElem? (i := 1247) (by decide +kernel), List.mem_of_getElem? (i := 1248) (by decide +kernel)⟩
theorem lw_p75 : lw_okq (⟨"PriceUponModel", "layPairs", "(III)V"⟩, 38) := ⟨⟨by decide +kernel, by decide +kernel⟩, List.mem_of_getElem? (i := 863) (by decide +kernel), List.mem_of_getElem? (i := 1251) (by decide +kernel), List.mem_of_getElem? (i := 1252) (by decide +kernel)⟩
theorem lw_p76 : lw_okq (⟨"PriceUponModel", "isPair", "(IIIII)Z"⟩, 38) := ⟨⟨by decide +kernel, by decide +kernel⟩, List.mem_of_getElem? (i := 863) (by decide +kernel), List.mem_of_getElem? (i := 1255) (by decide +kernel), List.mem_of_getElem? (i := 1256) (by decide +kernel)⟩
theorem lw_p77 : lw_okq (⟨"PriceUponModel", "bracket", "(IIIII)I"⟩, 38) := ⟨⟨by decide +kernel, by decide +kernel⟩, List.mem_of_getElem? (i := 863) (by decide +kernel), List.mem_of_getElem? (i := 1259) (by decide +kernel), List.mem_of_getElem? (i := 1260) (by decide +kernel)⟩
theorem lw_p78 : lw_okq (⟨"PriceUponModel", "restsOf", "(I)I"⟩, 38) := ⟨⟨by decide +kernel, by decide +kernel⟩, List.mem_of_getElem? (i := 863) (by decide +kernel), List.mem_of_getElem? (i := 1273) (by decide +kernel), List.mem_of_getElem? (i := 1274) (by decide +kernel)⟩
theorem lw_p79 : lw_okq (⟨"PriceUponModel", "isAsked", "(III)Z"⟩, 38) := ⟨⟨by decide +kernel, by decide +kernel⟩, List.mem_of_getElem? (i := 863) (by decide +kernel), List.mem_of_getElem? (i := 1296) (by decide +kernel), List.mem_of_getElem? (i := 1297) (by decide +kernel)⟩
def lw_privs_5 : List (MethodName × Nat) := [(⟨"PriceUponModel", "saving", "()I"⟩, 38), (⟨"PriceUponModel", "allEarn", "()I"⟩, 38), (⟨"PriceUponModel", "everybody", "(I)I"⟩, 38), (⟨"PriceUponModel", "toldUnit", "(II)I"⟩, 38), (⟨"PriceUponModel", "toldTake", "(II)I"⟩, 38), (⟨"PriceUponModel", "wouldElse", "(II)Z"⟩, 38), (⟨"PriceUponModel", "isBehind", "(III)Z"⟩, 38), (⟨"PriceUponModel", "freely", "(II)I"⟩, 38), (⟨"PriceUponModel", "chainCost", "(II)I"⟩, 38), (⟨"PriceUponModel", "isPartner", "(II)Z"⟩, 38), (⟨"PriceUponModel", "isMaker", "(II)Z"⟩, 38), (⟨"PriceUponModel", "layPairs", "(III)V"⟩, 38), (⟨"PriceUponModel", "isPair", "(IIIII)Z"⟩, 38), (⟨"PriceUponModel", "bracket", "(IIIII)I"⟩, 38), (⟨"PriceUponModel", "restsOf", "(I)I"⟩, 38), (⟨"PriceUponModel", "isAsked", "(III)Z"⟩, 38)]
theorem lw_r5 : ∀ q ∈ lw_privs_5, lw_okq q := List.forall_mem_cons.mpr ⟨lw_p64, List.forall_mem_cons.mpr ⟨lw_p65, List.forall_mem_cons.mpr ⟨lw_p66, List.forall_mem_cons.mpr ⟨lw_p67, List.forall_mem_cons.mpr ⟨lw_p68, List.forall_mem_cons.mpr ⟨lw_p69, List.forall_mem_cons.mpr ⟨lw_p70, List.forall_mem_cons.mpr ⟨lw_p71, List.forall_mem_cons.mpr ⟨lw_p72, List.forall_mem_cons.mpr ⟨lw_p73, List.forall_mem_cons.mpr ⟨lw_p74, List.forall_mem_cons.mpr ⟨lw_p75, List.forall_mem_cons.mpr ⟨lw_p76, List.forall_mem_cons.mpr ⟨lw_p77, List.forall_mem_cons.mpr ⟨lw_p78, List.forall_mem_cons.mpr ⟨lw_p79, fun _ h => absurd h List.not_mem_nil⟩⟩⟩⟩⟩⟩⟩⟩⟩⟩⟩⟩⟩⟩⟩⟩
theorem lw_p80 : lw_okq (⟨"PriceUponModel", "expected", "(IIII)I"⟩, 38) := ⟨⟨by decide +kernel, by decide +kernel⟩, List.mem_of_getElem? (i := 863) (by decide +kernel), List.mem_of_getElem? (i := 1300) (by decide +kernel), List.mem_of_getElem? (i := 1301) (by decide +kernel)⟩
theorem lw_p81 : lw_okq (⟨"PriceUponModel", "bestStock", "(III)I"⟩, 38) := ⟨⟨by decide +kernel, by decide +kernel⟩, List.mem_of_getElem? (i := 863) (by decide +kernel), List.mem_of_getElem? (i := 1308) (by decide +kernel), List.mem_of_getElem? (i := 1309) (by decide +kernel)⟩
theorem lw_p82 : lw_okq (⟨"PriceUponModel", "sellerExpects", "(IIII)I"⟩, 38) := ⟨⟨by decide +kernel, by decide +kernel⟩, List.mem_of_getElem? (i := 863) (by decide +kernel), List.mem_of_getElem? (i := 1316) (by decide +kernel), List.mem_of_getElem? (i := 1317) (by decide +kernel)⟩
theorem lw_p83 : lw_okq (⟨"PriceUponModel", "ratherBy", "(III)I"⟩, 38) := ⟨⟨by decide +kernel, by decide +kernel⟩, List.mem_of_getElem? (i := 863) (by decide +kernel), List.mem_of_getElem? (i := 1324) (by decide +kernel), List.mem_of_getElem? (i := 1325) (by decide +kernel)⟩
theorem lw_p84 : lw_okq (⟨"PriceUponModel", "oneWith", "(III)I"⟩, 38) := ⟨⟨by decide +kernel, by decide +kernel⟩, List.mem_of_getElem? (i := 863) (by decide +kernel), List.mem_of_getElem? (i := 1328) (by decide +kernel), List.mem_of_getElem? (i := 1329) (by decide +kernel)⟩
theorem lw_p85 : lw_okq (⟨"PriceUponModel", "earnTogether", "(III)I"⟩, 38) := ⟨⟨by decide +kernel, by decide +kernel⟩, List.mem_of_getElem? (i := 863) (by decide +kernel), List.mem_of_getElem? (i := 1332) (by decide +kernel), List.mem_of_getElem? (i := 1333) (by decide +kernel)⟩
def lw_privs_6 : List (MethodName × Nat) := [(⟨"PriceUponModel", "expected", "(IIII)I"⟩, 38), (⟨"PriceUponModel", "bestStock", "(III)I"⟩, 38), (⟨"PriceUponModel", "sellerExpects", "(IIII)I"⟩, 38), (⟨"PriceUponModel", "ratherBy", "(III)I"⟩, 38), (⟨"PriceUponModel", "oneWith", "(III)I"⟩, 38), (⟨"PriceUponModel", "earnTogether", "(III)I"⟩, 38)]
theorem lw_r6 : ∀ q ∈ lw_privs_6, lw_okq q := List.forall_mem_cons.mpr ⟨lw_p80, List.forall_mem_cons.mpr ⟨lw_p81, List.forall_mem_cons.mpr ⟨lw_p82, List.forall_mem_cons.mpr ⟨lw_p83, List.forall_mem_cons.mpr ⟨lw_p84, List.forall_mem_cons.mpr ⟨lw_p85, fun _ h => absurd h List.not_mem_nil⟩⟩⟩⟩⟩⟩
def lw_privs : List (MethodName × Nat) := lw_privs_1 ++ (lw_privs_2 ++ (lw_privs_3 ++ (lw_privs_4 ++ (lw_privs_5 ++ (lw_privs_6)))))
def lw_tbl : List Cond := k2_sels lw_privs ++ tables_1
theorem lw_privs_ok : ∀ q ∈ lw_privs, lw_okq q := by
  show ∀ q ∈ lw_privs_1 ++ (lw_privs_2 ++ (lw_privs_3 ++ (lw_privs_4 ++ (lw_privs_5 ++ (lw_privs_6))))), lw_okq q
  exact List.forall_mem_append.mpr ⟨lw_r1, List.forall_mem_append.mpr ⟨lw_r2, List.forall_mem_append.mpr ⟨lw_r3, List.forall_mem_append.mpr ⟨lw_r4, List.forall_mem_append.mpr ⟨lw_r5, lw_r6⟩⟩⟩⟩⟩
end
section
def va_AOA (t : FieldType) (U : State) : Prop := (Cond.arrayOver (.array t)).before #[] U = true
theorem va_AOA.of {t : FieldType} {A : Array Value} {U : State} (h : (Cond.arrayOver (.array t)).before A U = true) : va_AOA t U := h
theorem va_AOA.use {t : FieldType} {A : Array Value} {U : State} (h : va_AOA t U) : (Cond.arrayOver (.array t)).before A U = true := h
/-! ===== BEGIN words of one list among another's, by their places ===== -/
theorem goodIn_r {big : List Cond} (ws : List Cond) (ps : List Nat) (hp : ws = ps.filterMap (fun i => big[i]?)) (h : ws.all goodWord = true) : GoodIn big ws := by
  intro w hw
  have h1 := List.all_eq_true.mp h w hw
  rw [hp] at hw
  obtain ⟨i, -, hi⟩ := List.mem_filterMap.mp hw
  have hm : w ∈ big := by first | exact List.mem_of_getElem? hi | exact List.getElem?_mem hi
  exact ⟨hm, good_of_word h1⟩
theorem goodIn_app {big a b : List Cond} (ha : GoodIn big a) (hb : GoodIn big b) : GoodIn big (a ++ b) := fun w h => (List.mem_append.mp h).elim (ha w) (hb w)
theorem goodIn_ca {big a b : List Cond} {c : Cond} (ha : GoodIn big (c :: a)) (hb : GoodIn big b) : GoodIn big (c :: (a ++ b)) := fun w h => (List.mem_cons.mp h).elim (fun e => ha w (List.mem_cons.mpr (Or.inl e))) (fun h => (List.mem_append.mp h).elim (fun h => ha w (List.mem_cons.mpr (Or.inr h))) (hb w))
theorem goodIn_sub {big ws : List Cond} (hm : ∀ w ∈ ws, w ∈ big) (h : ws.all goodWord = true) : GoodIn big ws := fun w hw => ⟨hm w hw, good_of_word (List.all_eq_true.mp h w hw)⟩
/-! ===== END ===== -/

/-! ===== BEGIN new T[n][m]: the outer array a place, the inner ones among the pooled ===== -/
/-- f, but v at every address of l -/
def vr_up {α : Type} (f : Nat → α) (l : List Nat) (v : α) : Nat → α := fun a => if a ∈ l then v else f a
theorem vr_up_in {α : Type} {f : Nat → α} {l : List Nat} {v : α} {a : Nat} (h : a ∈ l) : vr_up f l v a = v := if_pos h
theorem vr_up_ne {α : Type} {f : Nat → α} {l : List Nat} {v : α} {a : Nat} (h : a ∉ l) : vr_up f l v a = f a := if_neg h
theorem vr_rows {L l : List Nat} {f : Nat → va_E} {e : va_E} (h : ∀ a, a ∈ l → a ∉ L) : va_pl L f ++ l.map (fun a => (a, e)) = va_pl (L ++ l) (vr_up f l e) := by
  unfold va_pl
  rw [List.map_append]
  congr 1
  · apply List.map_congr_left
    intro a ha
    rw [vr_up_ne (fun q => h a q ha)]
  · apply List.map_congr_left
    intro a ha
    rw [vr_up_in ha]
theorem vr_lay {X rows : va_W} {x : Nat × va_E} {pl : va_W} {D : va_G} {cl : List vw_C} {H : Heap} (hP : va_P D cl (((X ++ pl) ++ [x]) ++ rows) H) : va_P D cl ((X ++ [x]) ++ (pl ++ rows)) H := by
  rw [List.append_assoc (X ++ pl)] at hP
  have h := va_P.swap hP
  rw [← List.append_assoc X] at h
  have h2 := va_P.swap h
  rw [List.append_assoc (X ++ [x])] at h2
  exact h2
theorem vr_layD {X rows : va_W} {x : Nat × va_E} {pl : va_W} {A : Nat → Prop} (hD : va_D A (((X ++ pl) ++ [x]) ++ rows)) : va_D A ((X ++ [x]) ++ (pl ++ rows)) := by
  rw [List.append_assoc (X ++ pl)] at hD
  have h := va_D.swap hD
  rw [← List.append_assoc X] at h
  have h2 := va_D.swap h
  rw [List.append_assoc (X ++ [x])] at h2
  exact h2
theorem vr_outer (c : ClassId) (N h0 : Nat) : ∀ i : Nat, Jvm.Free.Multi.outerC c N h0 i = arrV c N (fun j => va_rf (if j < i then some (h0 + 1 + j) else none))
  | 0 => by
    show ({ cls := c, slots := Array.replicate N .null, vm := .none } : Cell) = _
    rw [arrV_new]
    refine congrArg (arrV c N) (funext fun j => ?_)
    simp [va_rf]
  | i + 1 => by
    show (Jvm.Free.Multi.outerC c N h0 i).setSlot i (.ref (h0 + 1 + i)) = _
    rw [vr_outer c N h0 i, arrV_store]
    refine congrArg (arrV c N) (funext fun j => ?_)
    by_cases e : j = i
    · subst e
      simp [updV, va_rf]
    · by_cases h : j < i
      · simp [updV, e, h, Nat.lt_succ_of_lt h]
      · simp [updV, e, h, show ¬ j < i + 1 by omega]
section VGM
variable {p : Program} {l : Launch} {e : Env} {R : Room} {s : State} {m : MethodId} {args : Array Value} {below : List Frame} {meth : Method} {c : Code} {H : Heap} {locs : List Loc} {cells slots : Nat} {Q : State → Prop}
variable {cc : ByteArray} {pc : Nat} {ls : Array Slot} {rest : List Value} {D : va_G} {cl : List vw_C} {A : Nat → Prop} {a : Nat} {tys : List (ClassId × FieldType)} {ws : va_W} {H0 : Heap}
theorem va_mna {X : va_W} {L : List Nat} {f : Nat → va_E} {cc : ByteArray} (hexec : p.tables.exec = Jvm.exec) (hb : c.code = cc) {own : String} {index : Nat} {ty : FieldType} {cy : ClassId} (hown : s.vm.findClass own = some m.cls) (hclink : (Cond.classLink own index ("[" ++ (FieldType.array ty).toString)).before args s = true) (hover : va_AOA ty s) (harr : (Cond.arrayClass ty).before args s = true) (hcy : s.vm.findClass (FieldType.array ty).toString = some cy)
    (hK : va_K D cl tys s) (hP : va_P D cl (X ++ va_pl L f) H) (hD : va_D A (X ++ va_pl L f)) (hS : va_S A H0 H locs) (hA : ∀ q, H0.size ≤ q → A q) {n k : Int32} {N' K' : Nat} {z : vp_A} (hn : ¬ n < 0) (hk : ¬ k < 0) (hN : n.toNatClampNeg = N') (hM : k.toNatClampNeg = K')
    (hb1 : N' * 4 ≤ 536870912) (hb2 : K' * componentBytes ty ≤ 536870912) (hb3 : K' ≤ 536870912) (hdf : fits ty (defaultValue ty) = true) (hdd : (defaultValue ty).isDefault = true) (hcells : cells + (1 + N') ≤ R.cells) (hslots : slots + (N' + N' * K') ≤ R.slots) (hz : ∀ c : ClassId, Jvm.Free.Multi.innerC c K' (defaultValue ty) = vp_cell c z) (hdg : decode cc pc = .ok (.multianewarray index 2, 4))
    (kk : ∀ (q : Nat) (r : Nat → Nat) (cA : ClassId) (H1 : Heap), (∀ i j : Nat, i < N' → j < N' → r i = r j → i = j) → (∀ i : Nat, i < N' → r i ∉ L) → va_K D cl (tys ++ [(cA, .array ty)]) s →
      va_P D cl ((X ++ [(q, .inl (cA, N', .inr (.inr (.inr (.inr (fun i => if i < N' then some (r i) else none))))))]) ++ va_pl (L ++ (List.range N').map r) (vr_up f ((List.range N').map r) (.inl (cy, z)))) H1 → va_D A ((X ++ [(q, .inl (cA, N', .inr (.inr (.inr (.inr (fun i => if i < N' then some (r i) else none))))))]) ++ va_pl (L ++ (List.range N').map r) (vr_up f ((List.range N').map r) (.inl (cy, z)))) → va_S A H0 H1 locs →
      W p l e R s m args below meth c H1 locs (cells + 1 + N') (slots + N' + N' * K') Q (F0 m (pc + 4) ls (.ref q :: rest))) : W p l e R s m args below meth c H locs cells slots Q (F0 m pc ls (.int k :: .int n :: rest)) := by
  subst hN
  subst hM
  intro T hT Xs
  obtain ⟨vm₁, cA, comp, -, fA, fC, hO, -, X', step⟩ := Xs.multianewarray2F hexec hown hclink (va_AOA.use hover) harr (g := F0 m pc ls (.int k :: .int n :: rest)) rfl (by rw [hb]; exact hdg) rfl hn hk hb1 hb2 hb3 hdf hdd hcells hslots
  have ec : some cy = some comp := hcy.symm.trans fC
  cases ec
  generalize hF : Jvm.Free.Multi.fill (T.setVm vm₁) cA cy n.toNatClampNeg k.toNatClampNeg (defaultValue ty) n.toNatClampNeg = F at X' step
  have hTh : (T.setVm vm₁).heap = H := hT
  obtain ⟨f1, f2, -, -⟩ := Jvm.Free.Multi.fill_facts (T.setVm vm₁) cA cy n.toNatClampNeg k.toNatClampNeg (defaultValue ty) n.toNatClampNeg
  rw [hF, hTh] at f1 f2
  have hold : ∀ x : Nat, x < H.size → F.heap[x]? = H[x]? := fun x hx => by
    have := Jvm.Free.Multi.fill_old (T.setVm vm₁) cA cy n.toNatClampNeg k.toNatClampNeg (defaultValue ty) (a := x) (by rw [hTh]; exact hx) n.toNatClampNeg
    rw [hF, hTh] at this
    exact this
  have hrow : ∀ j : Nat, j < n.toNatClampNeg → F.heap[H.size + 1 + j]? = some (vp_cell cy z) := fun j hj => by
    have := Jvm.Free.Multi.fill_inner (T.setVm vm₁) cA cy n.toNatClampNeg k.toNatClampNeg (defaultValue ty) n.toNatClampNeg j hj
    rw [hF, hTh, hz] at this
    exact this
  have hout : Jvm.Free.Multi.outerC cA n.toNatClampNeg H.size n.toNatClampNeg = vp_cell cA (n.toNatClampNeg, .inr (.inr (.inr (.inr (fun i => if i < n.toNatClampNeg then some (H.size + 1 + i) else none))))) := by
    rw [vp_cell_q]
    exact vr_outer cA n.toNatClampNeg H.size n.toNatClampNeg
  rw [hout] at f2
  have hlt : ∀ a, a ∈ L → a < H.size := fun a ha => by
    obtain ⟨k9, hk9⟩ := va_pl_get (X := X) (f := f) ha
    exact (hP k9 _ hk9).lt
  have hnl : ∀ i : Nat, i < n.toNatClampNeg → H.size + 1 + i ∉ L := fun i _ h => by
    have := hlt _ h
    omega
  have hnm : ∀ a, a ∈ (List.range n.toNatClampNeg).map (fun i => H.size + 1 + i) → a ∉ L := fun a ha h => by
    obtain ⟨i, -, rfl⟩ := List.mem_map.mp ha
    have := hlt _ h
    omega
  have hP0 : va_P D cl (X ++ va_pl L f) F.heap := hP.kept (fun k9 x hx => hold x.1 ((hP k9 x hx).lt))
  have hP1 : va_P D cl ((X ++ va_pl L f) ++ [(H.size, .inl (cA, n.toNatClampNeg, .inr (.inr (.inr (.inr (fun i => if i < n.toNatClampNeg then some (H.size + 1 + i) else none))))))]) F.heap := hP0.app (fun k9 x hx => by
    have h0 : k9 < 1 := (List.getElem?_eq_some_iff.mp hx).1
    rw [show k9 = 0 by omega] at hx
    cases hx
    exact f2)
  have hP2 : va_P D cl (((X ++ va_pl L f) ++ [(H.size, .inl (cA, n.toNatClampNeg, .inr (.inr (.inr (.inr (fun i => if i < n.toNatClampNeg then some (H.size + 1 + i) else none))))))]) ++ ((List.range n.toNatClampNeg).map (fun i => H.size + 1 + i)).map (fun a => (a, .inl (cy, z)))) F.heap := hP1.app (fun k9 x hx => by
    obtain ⟨a, ha, rfl⟩ := List.mem_map.mp (List.mem_of_getElem? hx)
    obtain ⟨i, hi, rfl⟩ := List.mem_map.mp ha
    exact hrow i (List.mem_range.mp hi))
  have hD2 : va_D A (((X ++ va_pl L f) ++ [(H.size, .inl (cA, n.toNatClampNeg, .inr (.inr (.inr (.inr (fun i => if i < n.toNatClampNeg then some (H.size + 1 + i) else none))))))]) ++ ((List.range n.toNatClampNeg).map (fun i => H.size + 1 + i)).map (fun a => (a, .inl (cy, z)))) := by
    have hD1 := hD.push (e := .inl (cA, n.toNatClampNeg, .inr (.inr (.inr (.inr (fun i => if i < n.toNatClampNeg then some (H.size + 1 + i) else none)))))) hP rfl (hA _ hS.1)
    generalize hW1 : (X ++ va_pl L f) ++ [(H.size, .inl (cA, n.toNatClampNeg, .inr (.inr (.inr (.inr (fun i => if i < n.toNatClampNeg then some (H.size + 1 + i) else none))))))] = W1 at hD1 hP1 ⊢
    have hle : ∀ (k9 : Nat) (x : Nat × va_E), W1[k9]? = some x → x.1 ≤ H.size := fun k9 x hx => by
      rw [← hW1] at hx
      by_cases hl : k9 < (X ++ va_pl L f).length
      · rw [List.getElem?_append_left hl] at hx
        exact Nat.le_of_lt ((hP k9 x hx).lt)
      · rw [List.getElem?_append_right (by omega)] at hx
        have h0 : k9 - (X ++ va_pl L f).length < 1 := (List.getElem?_eq_some_iff.mp hx).1
        rw [show k9 - (X ++ va_pl L f).length = 0 by omega] at hx
        cases hx
        exact Nat.le_refl _
    have hr : ∀ (k9 : Nat) (x : Nat × va_E), (((List.range n.toNatClampNeg).map (fun i => H.size + 1 + i)).map (fun a => ((a, .inl (cy, z)) : Nat × va_E)))[k9]? = some x → x.1 = H.size + 1 + k9 := fun k9 x hx => by
      rw [List.getElem?_map, List.getElem?_map] at hx
      by_cases h9 : k9 < n.toNatClampNeg
      · rw [List.getElem?_range h9] at hx
        cases hx
        rfl
      · have hn0 : (List.range n.toNatClampNeg)[k9]? = none := List.getElem?_eq_none (by rw [List.length_range]; omega)
        rw [hn0] at hx
        cases hx
    refine ⟨fun i j x y hi hj hxy => ?_, fun k9 x hx => ?_⟩
    · by_cases h1 : i < W1.length <;> by_cases h2 : j < W1.length
      · rw [List.getElem?_append_left h1] at hi
        rw [List.getElem?_append_left h2] at hj
        exact hD1.1 i j x y hi hj hxy
      · rw [List.getElem?_append_left h1] at hi
        rw [List.getElem?_append_right (by omega)] at hj
        have := hle _ _ hi
        have := hr _ _ hj
        omega
      · rw [List.getElem?_append_right (by omega)] at hi
        rw [List.getElem?_append_left h2] at hj
        have := hle _ _ hj
        have := hr _ _ hi
        omega
      · rw [List.getElem?_append_right (by omega)] at hi hj
        have := hr _ _ hi
        have := hr _ _ hj
        omega
    · by_cases h1 : k9 < W1.length
      · rw [List.getElem?_append_left h1] at hx
        exact hD1.2 k9 x hx
      · rw [List.getElem?_append_right (by omega)] at hx
        have := hr _ _ hx
        exact hA _ (by have := hS.1; omega)
  have hAr : ArrOfT s cA (.array ty) := fun N9 z9 => by
    obtain ⟨-, k9, hk9, cm9, hkk9⟩ := (hO 0 0 0).1
    exact ⟨(fun q hq => by cases hq), k9, hk9, cm9, hkk9⟩
  have hK2 : va_K D cl (tys ++ [(cA, .array ty)]) s := ⟨hK.1, fun k9 x hx => by
    by_cases hl : k9 < tys.length
    · rw [List.getElem?_append_left hl] at hx
      exact hK.2 k9 x hx
    · rw [List.getElem?_append_right (by omega)] at hx
      have h0 : k9 - tys.length < 1 := (List.getElem?_eq_some_iff.mp hx).1
      rw [show k9 - tys.length = 0 by omega] at hx
      cases hx
      exact ⟨hAr, fA⟩⟩
  obtain ⟨t, a1, b1⟩ := kk H.size (fun i => H.size + 1 + i) cA F.heap (fun i j _ _ h => by have h9 : H.size + 1 + i = H.size + 1 + j := h; omega) hnl hK2 (by rw [← vr_rows hnm]; exact vr_lay hP2) (by rw [← vr_rows hnm]; exact vr_layD hD2) ⟨by rw [f1]; have := hS.1; omega, fun x h1 h2 => (hold x (Nat.lt_of_lt_of_le h1 hS.1)).trans (hS.2.1 x h1 h2), hS.2.2⟩ F rfl X'
  refine ⟨t, step t ?_, b1⟩
  have e : T.heap.size = H.size := by rw [hT]
  rw [e]
  exact a1
end VGM
/-! ===== END ===== -/
end
section
def RX0 : String := "PriceUpon$Chances"
def TX0 : u_T := fun k => match k with
  | 0 => ("PriceUpon$Chances", "wanted", "[I", true)
  | 1 => ("PriceUpon$Chances", "weight", "[I", true)
  | 2 => ("PriceUpon$Chances", "size", "I", false)
  | _ => ("PriceUpon$Chances", "weights", "I", false)
def tyX0 : Nat → FieldType := fun k => match k with
  | 0 => .array .int
  | 1 => .array .int
  | 2 => .int
  | _ => .int
abbrev wsX00 : List Cond := u_ws RX0 TX0 4
theorem nmX0 : ∀ a, a < 4 → ∀ b, b < 4 → a ≠ b → (TX0 a).2.1 ≠ (TX0 b).2.1 := by decide +kernel
theorem tyX0_ok : ∀ k, k < 4 → parseFieldDescriptor (TX0 k).2.2.1 = some (tyX0 k) := by decide +kernel
abbrev cX0_init : ByteArray := prog_2_method_1_code
def yX0_init : MethodName := ⟨RX0, "<init>", "()V"⟩
abbrev cX0_more : ByteArray := prog_2_method_2_code
def yX0_more : MethodName := ⟨RX0, "more", "(II)I"⟩
abbrev cX0_forget : ByteArray := prog_2_method_3_code
def yX0_forget : MethodName := ⟨RX0, "forget", "()I"⟩
abbrev cX0_leftOf : ByteArray := prog_2_method_4_code
def yX0_leftOf : MethodName := ⟨RX0, "leftOf", "(I)I"⟩
abbrev cX0_expected : ByteArray := prog_2_method_5_code
def yX0_expected : MethodName := ⟨RX0, "expected", "(IIII)I"⟩
abbrev cX0_bestStock : ByteArray := prog_2_method_6_code
def yX0_bestStock : MethodName := ⟨RX0, "bestStock", "(III)I"⟩
abbrev cX0_sellerExpects : ByteArray := prog_2_method_7_code
def yX0_sellerExpects : MethodName := ⟨RX0, "sellerExpects", "(IIII)I"⟩
abbrev cX0_bestBack : ByteArray := prog_2_method_8_code
def yX0_bestBack : MethodName := ⟨RX0, "bestBack", "(III)I"⟩
def RX1 : String := "PriceUpon$Duel"
def TX1 : u_T := fun k => match k with
  | 0 => ("PriceUpon$Duel", "aloneOne", "[I", true)
  | 1 => ("PriceUpon$Duel", "aloneOther", "[I", true)
  | 2 => ("PriceUpon$Duel", "likeOne", "[I", true)
  | 3 => ("PriceUpon$Duel", "likeOther", "[I", true)
  | 4 => ("PriceUpon$Duel", "bestOne", "[I", true)
  | _ => ("PriceUpon$Duel", "bestOther", "[I", true)
def tyX1 : Nat → FieldType := fun k => match k with
  | 0 => .array .int
  | 1 => .array .int
  | 2 => .array .int
  | 3 => .array .int
  | 4 => .array .int
  | _ => .array .int
abbrev wsX10 : List Cond := u_ws RX1 TX1 6
theorem nmX1 : ∀ a, a < 6 → ∀ b, b < 6 → a ≠ b → (TX1 a).2.1 ≠ (TX1 b).2.1 := by decide +kernel
theorem tyX1_ok : ∀ k, k < 6 → parseFieldDescriptor (TX1 k).2.2.1 = some (tyX1 k) := by decide +kernel
abbrev cX1_init : ByteArray := prog_3_method_1_code
def yX1_init : MethodName := ⟨RX1, "<init>", "()V"⟩
abbrev cX1_setShops : ByteArray := prog_3_method_2_code
def yX1_setShops : MethodName := ⟨RX1, "setShops", "([I[III)V"⟩
abbrev cX1_setMakers : ByteArray := prog_3_method_3_code
def yX1_setMakers : MethodName := ⟨RX1, "setMakers", "(LPriceUpon$Trade;III)V"⟩
abbrev cX1_restAt : ByteArray := prog_3_method_4_code
def yX1_restAt : MethodName := ⟨RX1, "restAt", "(I)I"⟩
abbrev cX1_isRest : ByteArray := prog_3_method_5_code
def yX1_isRest : MethodName := ⟨RX1, "isRest", "(II)Z"⟩
abbrev cX1_bestAgainst : ByteArray := prog_3_method_6_code
def yX1_bestAgainst : MethodName := ⟨RX1, "bestAgainst", "([I[II)I"⟩
abbrev cX1_gained : ByteArray := prog_3_method_7_code
def yX1_gained : MethodName := ⟨RX1, "gained", "([I[III)I"⟩
def RX2 : String := "PriceUpon$Hand"
def TX2 : u_T := fun k => match k with
  | _ => ("PriceUpon$Hand", "taken", "[I", true)
def tyX2 : Nat → FieldType := fun k => match k with
  | _ => .array .int
abbrev wsX20 : List Cond := u_ws RX2 TX2 1
theorem nmX2 : ∀ a, a < 1 → ∀ b, b < 1 → a ≠ b → (TX2 a).2.1 ≠ (TX2 b).2.1 := by decide +kernel
theorem tyX2_ok : ∀ k, k < 1 → parseFieldDescriptor (TX2 k).2.2.1 = some (tyX2 k) := by decide +kernel
abbrev cX2_init : ByteArray := prog_4_method_1_code
def yX2_init : MethodName := ⟨RX2, "<init>", "()V"⟩
abbrev cX2_follow : ByteArray := prog_4_method_2_code
def yX2_follow : MethodName := ⟨RX2, "follow", "(LPriceUpon$Trade;)V"⟩
abbrev cX2_earnedBy : ByteArray := prog_4_method_3_code
def yX2_earnedBy : MethodName := ⟨RX2, "earnedBy", "(LPriceUpon$Trade;I)I"⟩
abbrev cX2_spentBy : ByteArray := prog_4_method_4_code
def yX2_spentBy : MethodName := ⟨RX2, "spentBy", "(LPriceUpon$Trade;I)I"⟩
abbrev cX2_earnedFrom : ByteArray := prog_4_method_5_code
def yX2_earnedFrom : MethodName := ⟨RX2, "earnedFrom", "(LPriceUpon$Trade;II)I"⟩
abbrev cX2_wouldDiffer : ByteArray := prog_4_method_6_code
def yX2_wouldDiffer : MethodName := ⟨RX2, "wouldDiffer", "(LPriceUpon$Trade;LPriceUpon$Market;)I"⟩
abbrev cX2_shopWould : ByteArray := prog_4_method_7_code
def yX2_shopWould : MethodName := ⟨RX2, "shopWould", "(LPriceUpon$Trade;I)Z"⟩
abbrev cX2_anyPriceWould : ByteArray := prog_4_method_8_code
def yX2_anyPriceWould : MethodName := ⟨RX2, "anyPriceWould", "(LPriceUpon$Trade;LPriceUpon$Market;I)Z"⟩
abbrev cX2_priceWould : ByteArray := prog_4_method_9_code
def yX2_priceWould : MethodName := ⟨RX2, "priceWould", "(LPriceUpon$Trade;LPriceUpon$Market;II)Z"⟩
def RX3 : String := "PriceUpon$Healing"
def TX3 : u_T := fun k => match k with
  | 0 => ("PriceUpon$Healing", "pairs", "[I", true)
  | 1 => ("PriceUpon$Healing", "pairCount", "I", false)
  | 2 => ("PriceUpon$Healing", "pairedTrade", "LPriceUpon$Trade;", false)
  | _ => ("PriceUpon$Healing", "pairedShop", "I", false)
def tyX3 : Nat → FieldType := fun k => match k with
  | 0 => .array .int
  | 1 => .int
  | 2 => .object "PriceUpon$Trade"
  | _ => .int
abbrev wsX30 : List Cond := u_ws RX3 TX3 4
theorem nmX3 : ∀ a, a < 4 → ∀ b, b < 4 → a ≠ b → (TX3 a).2.1 ≠ (TX3 b).2.1 := by decide +kernel
theorem tyX3_ok : ∀ k, k < 4 → parseFieldDescriptor (TX3 k).2.2.1 = some (tyX3 k) := by decide +kernel
abbrev cX3_init : ByteArray := prog_5_method_1_code
def yX3_init : MethodName := ⟨RX3, "<init>", "()V"⟩
abbrev cX3_mostFee : ByteArray := prog_5_method_2_code
def yX3_mostFee : MethodName := ⟨RX3, "mostFee", "(LPriceUpon$Trade;LPriceUpon$Market;I)I"⟩
abbrev cX3_heals : ByteArray := prog_5_method_3_code
def yX3_heals : MethodName := ⟨RX3, "heals", "(LPriceUpon$Trade;LPriceUpon$Market;)Z"⟩
abbrev cX3_findPairs : ByteArray := prog_5_method_4_code
def yX3_findPairs : MethodName := ⟨RX3, "findPairs", "(LPriceUpon$Trade;II)V"⟩
abbrev cX3_isBest : ByteArray := prog_5_method_5_code
def yX3_isBest : MethodName := ⟨RX3, "isBest", "([IIII)Z"⟩
abbrev cX3_shareOf : ByteArray := prog_5_method_6_code
def yX3_shareOf : MethodName := ⟨RX3, "shareOf", "(LPriceUpon$Trade;IILPriceUpon$Market;)I"⟩
def RX4 : String := "PriceUpon$Joining"
def TX4 : u_T := fun k => match k with
  | 0 => ("PriceUpon$Joining", "head", "[I", true)
  | _ => ("PriceUpon$Joining", "earned", "[[I", true)
def tyX4 : Nat → FieldType := fun k => match k with
  | 0 => .array .int
  | _ => .array (.array .int)
abbrev wsX40 : List Cond := u_ws RX4 TX4 2
theorem nmX4 : ∀ a, a < 2 → ∀ b, b < 2 → a ≠ b → (TX4 a).2.1 ≠ (TX4 b).2.1 := by decide +kernel
theorem tyX4_ok : ∀ k, k < 2 → parseFieldDescriptor (TX4 k).2.2.1 = some (tyX4 k) := by decide +kernel
abbrev cX4_init : ByteArray := prog_6_method_1_code
def yX4_init : MethodName := ⟨RX4, "<init>", "()V"⟩
abbrev cX4_better : ByteArray := prog_6_method_2_code
def yX4_better : MethodName := ⟨RX4, "better", "(LPriceUpon$Trade;II[I[I)I"⟩
abbrev cX4_findRests : ByteArray := prog_6_method_3_code
def yX4_findRests : MethodName := ⟨RX4, "findRests", "(LPriceUpon$Trade;LPriceUpon$Terms;LPriceUpon$Market;)V"⟩
abbrev cX4_buyingHouses : ByteArray := prog_6_method_4_code
def yX4_buyingHouses : MethodName := ⟨RX4, "buyingHouses", "(LPriceUpon$Trade;)I"⟩
abbrev cX4_isAtRest : ByteArray := prog_6_method_5_code
def yX4_isAtRest : MethodName := ⟨RX4, "isAtRest", "(LPriceUpon$Trade;II)Z"⟩
def RX5 : String := "PriceUpon$Market"
def TX5 : u_T := fun k => match k with
  | 0 => ("PriceUpon$Market", "settled", "LPriceUpon$Trade;", false)
  | 1 => ("PriceUpon$Market", "terms", "LPriceUpon$Terms;", true)
  | 2 => ("PriceUpon$Market", "cost", "[I", true)
  | 3 => ("PriceUpon$Market", "takes", "[[I", true)
  | 4 => ("PriceUpon$Market", "gains", "[[I", true)
  | 5 => ("PriceUpon$Market", "asks", "[[I", true)
  | 6 => ("PriceUpon$Market", "pays", "[[I", true)
  | 7 => ("PriceUpon$Market", "paid", "[I", true)
  | 8 => ("PriceUpon$Market", "spent", "[I", true)
  | 9 => ("PriceUpon$Market", "asked", "[I", true)
  | 10 => ("PriceUpon$Market", "sold", "[I", true)
  | _ => ("PriceUpon$Market", "earned", "[I", true)
def tyX5 : Nat → FieldType := fun k => match k with
  | 0 => .object "PriceUpon$Trade"
  | 1 => .object "PriceUpon$Terms"
  | 2 => .array .int
  | 3 => .array (.array .int)
  | 4 => .array (.array .int)
  | 5 => .array (.array .int)
  | 6 => .array (.array .int)
  | 7 => .array .int
  | 8 => .array .int
  | 9 => .array .int
  | 10 => .array .int
  | _ => .array .int
abbrev wsX50 : List Cond := u_ws RX5 TX5 12
theorem nmX5 : ∀ a, a < 12 → ∀ b, b < 12 → a ≠ b → (TX5 a).2.1 ≠ (TX5 b).2.1 := by decide +kernel
theorem tyX5_ok : ∀ k, k < 12 → parseFieldDescriptor (TX5 k).2.2.1 = some (tyX5 k) := by decide +kernel
abbrev cX5_init : ByteArray := prog_7_method_1_code
def yX5_init : MethodName := ⟨RX5, "<init>", "()V"⟩
abbrev cX5_settle : ByteArray := prog_7_method_2_code
def yX5_settle : MethodName := ⟨RX5, "settle", "(LPriceUpon$Trade;LPriceUpon$Terms;)V"⟩
abbrev cX5_lastStale : ByteArray := prog_7_method_3_code
def yX5_lastStale : MethodName := ⟨RX5, "lastStale", "(LPriceUpon$Trade;LPriceUpon$Terms;)I"⟩
abbrev cX5_lastRow : ByteArray := prog_7_method_4_code
def yX5_lastRow : MethodName := ⟨RX5, "lastRow", "(LPriceUpon$Trade;I)I"⟩
abbrev cX5_reckon : ByteArray := prog_7_method_5_code
def yX5_reckon : MethodName := ⟨RX5, "reckon", "(LPriceUpon$Trade;II)V"⟩
abbrev cX5_ownPrice : ByteArray := prog_7_method_6_code
def yX5_ownPrice : MethodName := ⟨RX5, "ownPrice", "(II)I"⟩
abbrev cX5_commonPrice : ByteArray := prog_7_method_7_code
def yX5_commonPrice : MethodName := ⟨RX5, "commonPrice", "(LPriceUpon$Trade;II)I"⟩
abbrev cX5_halvedPrice : ByteArray := prog_7_method_8_code
def yX5_halvedPrice : MethodName := ⟨RX5, "halvedPrice", "(II)I"⟩
abbrev cX5_takesAt : ByteArray := prog_7_method_9_code
def yX5_takesAt : MethodName := ⟨RX5, "takesAt", "(II)I"⟩
abbrev cX5_takenAt : ByteArray := prog_7_method_10_code
def yX5_takenAt : MethodName := ⟨RX5, "takenAt", "(LPriceUpon$Trade;II)I"⟩
abbrev cX5_trace : ByteArray := prog_7_method_11_code
def yX5_trace : MethodName := ⟨RX5, "trace", "(LPriceUpon$Trade;I)V"⟩
abbrev cX5_earnedBy : ByteArray := prog_7_method_12_code
def yX5_earnedBy : MethodName := ⟨RX5, "earnedBy", "(LPriceUpon$Trade;I)I"⟩
abbrev cX5_allEarned : ByteArray := prog_7_method_13_code
def yX5_allEarned : MethodName := ⟨RX5, "allEarned", "(LPriceUpon$Trade;)I"⟩
abbrev cX5_saved : ByteArray := prog_7_method_14_code
def yX5_saved : MethodName := ⟨RX5, "saved", "(LPriceUpon$Trade;)I"⟩
def RX6 : String := "PriceUpon$Tape"
def TX6 : u_T := fun k => match k with
  | 0 => ("PriceUpon$Tape", "bytes", "[I", true)
  | 1 => ("PriceUpon$Tape", "length", "I", false)
  | 2 => ("PriceUpon$Tape", "at", "I", false)
  | _ => ("PriceUpon$Tape", "wrong", "I", false)
def tyX6 : Nat → FieldType := fun k => match k with
  | 0 => .array .int
  | 1 => .int
  | 2 => .int
  | _ => .int
abbrev wsX60 : List Cond := u_ws RX6 TX6 4
theorem nmX6 : ∀ a, a < 4 → ∀ b, b < 4 → a ≠ b → (TX6 a).2.1 ≠ (TX6 b).2.1 := by decide +kernel
theorem tyX6_ok : ∀ k, k < 4 → parseFieldDescriptor (TX6 k).2.2.1 = some (tyX6 k) := by decide +kernel
abbrev cX6_init : ByteArray := prog_8_method_1_code
def yX6_init : MethodName := ⟨RX6, "<init>", "()V"⟩
abbrev cX6_bytesIn : ByteArray := prog_8_method_2_code
def yX6_bytesIn : MethodName := ⟨RX6, "bytesIn", "(I)I"⟩
abbrev cX6_put : ByteArray := prog_8_method_3_code
def yX6_put : MethodName := ⟨RX6, "put", "(I)V"⟩
abbrev cX6_read : ByteArray := prog_8_method_4_code
def yX6_read : MethodName := ⟨RX6, "read", "(LPriceUpon$Trade;)I"⟩
abbrev cX6_readStatement : ByteArray := prog_8_method_5_code
def yX6_readStatement : MethodName := ⟨RX6, "readStatement", "(LPriceUpon$Trade;Z)V"⟩
abbrev cX6_readCost : ByteArray := prog_8_method_6_code
def yX6_readCost : MethodName := ⟨RX6, "readCost", "(LPriceUpon$Trade;)V"⟩
abbrev cX6_readSource : ByteArray := prog_8_method_7_code
def yX6_readSource : MethodName := ⟨RX6, "readSource", "(LPriceUpon$Trade;)V"⟩
abbrev cX6_readLot : ByteArray := prog_8_method_8_code
def yX6_readLot : MethodName := ⟨RX6, "readLot", "(LPriceUpon$Trade;)V"⟩
abbrev cX6_readElse : ByteArray := prog_8_method_9_code
def yX6_readElse : MethodName := ⟨RX6, "readElse", "(LPriceUpon$Trade;)V"⟩
abbrev cX6_readNumber : ByteArray := prog_8_method_10_code
def yX6_readNumber : MethodName := ⟨RX6, "readNumber", "(II)I"⟩
abbrev cX6_isDigit : ByteArray := prog_8_method_11_code
def yX6_isDigit : MethodName := ⟨RX6, "isDigit", "()Z"⟩
abbrev cX6_skipBlanks : ByteArray := prog_8_method_12_code
def yX6_skipBlanks : MethodName := ⟨RX6, "skipBlanks", "()V"⟩
def RX7 : String := "PriceUpon$Terms"
def TX7 : u_T := fun k => match k with
  | 0 => ("PriceUpon$Terms", "joined", "I", false)
  | 1 => ("PriceUpon$Terms", "cap", "I", false)
  | 2 => ("PriceUpon$Terms", "alike", "Z", false)
  | 3 => ("PriceUpon$Terms", "halved", "Z", false)
  | 4 => ("PriceUpon$Terms", "dearHouse", "I", false)
  | _ => ("PriceUpon$Terms", "dearBy", "I", false)
def tyX7 : Nat → FieldType := fun k => match k with
  | 0 => .int
  | 1 => .int
  | 2 => .boolean
  | 3 => .boolean
  | 4 => .int
  | _ => .int
abbrev wsX70 : List Cond := u_ws RX7 TX7 6
theorem nmX7 : ∀ a, a < 6 → ∀ b, b < 6 → a ≠ b → (TX7 a).2.1 ≠ (TX7 b).2.1 := by decide +kernel
theorem tyX7_ok : ∀ k, k < 6 → parseFieldDescriptor (TX7 k).2.2.1 = some (tyX7 k) := by decide +kernel
abbrev cX7_init : ByteArray := prog_9_method_1_code
def yX7_init : MethodName := ⟨RX7, "<init>", "()V"⟩
abbrev cX7_reset : ByteArray := prog_9_method_2_code
def yX7_reset : MethodName := ⟨RX7, "reset", "()V"⟩
abbrev cX7_copy : ByteArray := prog_9_method_3_code
def yX7_copy : MethodName := ⟨RX7, "copy", "(LPriceUpon$Terms;)V"⟩
abbrev cX7_same : ByteArray := prog_9_method_4_code
def yX7_same : MethodName := ⟨RX7, "same", "(LPriceUpon$Terms;)Z"⟩
abbrev cX7_sameButJoined : ByteArray := prog_9_method_5_code
def yX7_sameButJoined : MethodName := ⟨RX7, "sameButJoined", "(LPriceUpon$Terms;)Z"⟩
abbrev cX7_joins : ByteArray := prog_9_method_6_code
def yX7_joins : MethodName := ⟨RX7, "joins", "(I)Z"⟩
def RX8 : String := "PriceUpon$Trade"
def TX8 : u_T := fun k => match k with
  | 0 => ("PriceUpon$Trade", "size", "I", false)
  | 1 => ("PriceUpon$Trade", "lots", "I", false)
  | 2 => ("PriceUpon$Trade", "cost", "[I", true)
  | 3 => ("PriceUpon$Trade", "source", "[I", true)
  | 4 => ("PriceUpon$Trade", "elsewhere", "[I", true)
  | 5 => ("PriceUpon$Trade", "clients", "[I", true)
  | 6 => ("PriceUpon$Trade", "wants", "[[I", true)
  | 7 => ("PriceUpon$Trade", "terms", "LPriceUpon$Terms;", true)
  | 8 => ("PriceUpon$Trade", "toldPay", "[I", true)
  | 9 => ("PriceUpon$Trade", "toldAsk", "[I", true)
  | 10 => ("PriceUpon$Trade", "rest", "[I", true)
  | 11 => ("PriceUpon$Trade", "restCount", "I", false)
  | _ => ("PriceUpon$Trade", "restKnown", "Z", false)
def tyX8 : Nat → FieldType := fun k => match k with
  | 0 => .int
  | 1 => .int
  | 2 => .array .int
  | 3 => .array .int
  | 4 => .array .int
  | 5 => .array .int
  | 6 => .array (.array .int)
  | 7 => .object "PriceUpon$Terms"
  | 8 => .array .int
  | 9 => .array .int
  | 10 => .array .int
  | 11 => .int
  | _ => .boolean
abbrev wsX80 : List Cond := u_ws RX8 TX8 13
theorem nmX8 : ∀ a, a < 13 → ∀ b, b < 13 → a ≠ b → (TX8 a).2.1 ≠ (TX8 b).2.1 := by decide +kernel
theorem tyX8_ok : ∀ k, k < 13 → parseFieldDescriptor (TX8 k).2.2.1 = some (tyX8 k) := by decide +kernel
abbrev cX8_init : ByteArray := prog_10_method_1_code
def yX8_init : MethodName := ⟨RX8, "<init>", "()V"⟩
abbrev cX8_empty : ByteArray := prog_10_method_2_code
def yX8_empty : MethodName := ⟨RX8, "empty", "()V"⟩
abbrev cX8_addLot : ByteArray := prog_10_method_3_code
def yX8_addLot : MethodName := ⟨RX8, "addLot", "(III)V"⟩
abbrev cX8_addSource : ByteArray := prog_10_method_4_code
def yX8_addSource : MethodName := ⟨RX8, "addSource", "(II)V"⟩
abbrev cX8_holds : ByteArray := prog_10_method_5_code
def yX8_holds : MethodName := ⟨RX8, "holds", "(I)Z"⟩
abbrev cX8_isShop : ByteArray := prog_10_method_6_code
def yX8_isShop : MethodName := ⟨RX8, "isShop", "(I)Z"⟩
abbrev cX8_allHouses : ByteArray := prog_10_method_7_code
def yX8_allHouses : MethodName := ⟨RX8, "allHouses", "()I"⟩
abbrev cX8_isBelow : ByteArray := prog_10_method_8_code
def yX8_isBelow : MethodName := ⟨RX8, "isBelow", "(II)Z"⟩
def RX9 : String := "PriceUpon"
def TX9 : u_T := fun k => match k with
  | 0 => ("PriceUpon", "tape", "LPriceUpon$Tape;", true)
  | 1 => ("PriceUpon", "trades", "[LPriceUpon$Trade;", true)
  | 2 => ("PriceUpon", "tradeCount", "I", false)
  | 3 => ("PriceUpon", "draft", "LPriceUpon$Trade;", false)
  | 4 => ("PriceUpon", "triedTerms", "LPriceUpon$Terms;", true)
  | 5 => ("PriceUpon", "asIs", "LPriceUpon$Market;", true)
  | 6 => ("PriceUpon", "tried", "LPriceUpon$Market;", true)
  | 7 => ("PriceUpon", "hand", "LPriceUpon$Hand;", true)
  | 8 => ("PriceUpon", "healing", "LPriceUpon$Healing;", true)
  | 9 => ("PriceUpon", "duel", "LPriceUpon$Duel;", true)
  | 10 => ("PriceUpon", "joining", "LPriceUpon$Joining;", true)
  | _ => ("PriceUpon", "chances", "LPriceUpon$Chances;", true)
def tyX9 : Nat → FieldType := fun k => match k with
  | 0 => .object "PriceUpon$Tape"
  | 1 => .array (.object "PriceUpon$Trade")
  | 2 => .int
  | 3 => .object "PriceUpon$Trade"
  | 4 => .object "PriceUpon$Terms"
  | 5 => .object "PriceUpon$Market"
  | 6 => .object "PriceUpon$Market"
  | 7 => .object "PriceUpon$Hand"
  | 8 => .object "PriceUpon$Healing"
  | 9 => .object "PriceUpon$Duel"
  | 10 => .object "PriceUpon$Joining"
  | _ => .object "PriceUpon$Chances"
abbrev wsX90 : List Cond := u_ws RX9 TX9 12
theorem nmX9 : ∀ a, a < 12 → ∀ b, b < 12 → a ≠ b → (TX9 a).2.1 ≠ (TX9 b).2.1 := by decide +kernel
theorem tyX9_ok : ∀ k, k < 12 → parseFieldDescriptor (TX9 k).2.2.1 = some (tyX9 k) := by decide +kernel
abbrev cX9_init : ByteArray := prog_1_method_1_code
def yX9_init : MethodName := ⟨RX9, "<init>", "()V"⟩
abbrev cX9_feed : ByteArray := prog_1_method_2_code
def yX9_feed : MethodName := ⟨RX9, "feed", "(IIIII)I"⟩
abbrev cX9_end : ByteArray := prog_1_method_3_code
def yX9_end : MethodName := ⟨RX9, "end", "(I)Z"⟩
abbrev cX9_fault : ByteArray := prog_1_method_4_code
def yX9_fault : MethodName := ⟨RX9, "fault", "()I"⟩
abbrev cX9_trade : ByteArray := prog_1_method_5_code
def yX9_trade : MethodName := ⟨RX9, "trade", "()I"⟩
abbrev cX9_house : ByteArray := prog_1_method_6_code
def yX9_house : MethodName := ⟨RX9, "house", "(III)I"⟩
abbrev cX9_houses : ByteArray := prog_1_method_7_code
def yX9_houses : MethodName := ⟨RX9, "houses", "(I)I"⟩
abbrev cX9_want : ByteArray := prog_1_method_8_code
def yX9_want : MethodName := ⟨RX9, "want", "(III)I"⟩
abbrev cX9_join : ByteArray := prog_1_method_9_code
def yX9_join : MethodName := ⟨RX9, "join", "(II)Z"⟩
abbrev cX9_law : ByteArray := prog_1_method_10_code
def yX9_law : MethodName := ⟨RX9, "law", "(IIZ)Z"⟩
abbrev cX9_halve : ByteArray := prog_1_method_11_code
def yX9_halve : MethodName := ⟨RX9, "halve", "(IZ)Z"⟩
abbrev cX9_ask : ByteArray := prog_1_method_12_code
def yX9_ask : MethodName := ⟨RX9, "ask", "(III)I"⟩
abbrev cX9_take : ByteArray := prog_1_method_13_code
def yX9_take : MethodName := ⟨RX9, "take", "(III)I"⟩
abbrev cX9_outcome : ByteArray := prog_1_method_14_code
def yX9_outcome : MethodName := ⟨RX9, "outcome", "(III)I"⟩
abbrev cX9_sum : ByteArray := prog_1_method_15_code
def yX9_sum : MethodName := ⟨RX9, "sum", "(II)I"⟩
abbrev cX9_passed : ByteArray := prog_1_method_16_code
def yX9_passed : MethodName := ⟨RX9, "passed", "(IIII)I"⟩
abbrev cX9_gain : ByteArray := prog_1_method_17_code
def yX9_gain : MethodName := ⟨RX9, "gain", "(II)I"⟩
abbrev cX9_tell : ByteArray := prog_1_method_18_code
def yX9_tell : MethodName := ⟨RX9, "tell", "(IIZI)Z"⟩
abbrev cX9_given : ByteArray := prog_1_method_19_code
def yX9_given : MethodName := ⟨RX9, "given", "(II)I"⟩
abbrev cX9_doers : ByteArray := prog_1_method_20_code
def yX9_doers : MethodName := ⟨RX9, "doers", "(I)I"⟩
abbrev cX9_fee : ByteArray := prog_1_method_21_code
def yX9_fee : MethodName := ⟨RX9, "fee", "(III)I"⟩
abbrev cX9_parts : ByteArray := prog_1_method_22_code
def yX9_parts : MethodName := ⟨RX9, "parts", "(III)I"⟩
abbrev cX9_takings : ByteArray := prog_1_method_23_code
def yX9_takings : MethodName := ⟨RX9, "takings", "(III)I"⟩
abbrev cX9_rivals : ByteArray := prog_1_method_24_code
def yX9_rivals : MethodName := ⟨RX9, "rivals", "(IIIIII)I"⟩
abbrev cX9_makers : ByteArray := prog_1_method_25_code
def yX9_makers : MethodName := ⟨RX9, "makers", "(IIIII)I"⟩
abbrev cX9_chance : ByteArray := prog_1_method_26_code
def yX9_chance : MethodName := ⟨RX9, "chance", "(II)I"⟩
abbrev cX9_clear : ByteArray := prog_1_method_27_code
def yX9_clear : MethodName := ⟨RX9, "clear", "()I"⟩
abbrev cX9_expects : ByteArray := prog_1_method_28_code
def yX9_expects : MethodName := ⟨RX9, "expects", "(IIII)I"⟩
abbrev cX9_stock : ByteArray := prog_1_method_29_code
def yX9_stock : MethodName := ⟨RX9, "stock", "(III)I"⟩
abbrev cX9_seller : ByteArray := prog_1_method_30_code
def yX9_seller : MethodName := ⟨RX9, "seller", "(IIII)I"⟩
abbrev cX9_rather : ByteArray := prog_1_method_31_code
def yX9_rather : MethodName := ⟨RX9, "rather", "(II)I"⟩
abbrev cX9_rests : ByteArray := prog_1_method_32_code
def yX9_rests : MethodName := ⟨RX9, "rests", "(II)I"⟩
abbrev cX9_count : ByteArray := prog_1_method_33_code
def yX9_count : MethodName := ⟨RX9, "count", "(I)I"⟩
abbrev cX9_find : ByteArray := prog_1_method_34_code
def yX9_find : MethodName := ⟨RX9, "find", "(I)LPriceUpon$Trade;"⟩
abbrev cX9_findParted : ByteArray := prog_1_method_35_code
def yX9_findParted : MethodName := ⟨RX9, "findParted", "(II)LPriceUpon$Trade;"⟩
abbrev cX9_settleTogether : ByteArray := prog_1_method_36_code
def yX9_settleTogether : MethodName := ⟨RX9, "settleTogether", "(LPriceUpon$Trade;I)V"⟩
abbrev cX9_settleFree : ByteArray := prog_1_method_37_code
def yX9_settleFree : MethodName := ⟨RX9, "settleFree", "(LPriceUpon$Trade;)V"⟩
abbrev cX9_isPrice : ByteArray := prog_1_method_38_code
def yX9_isPrice : MethodName := ⟨RX9, "isPrice", "(I)Z"⟩
abbrev cX9_row : ByteArray := prog_1_method_39_code
def yX9_row : MethodName := ⟨RX9, "row", "(I)I"⟩
abbrev cX9_bestPrice : ByteArray := prog_1_method_40_code
def yX9_bestPrice : MethodName := ⟨RX9, "bestPrice", "([III)I"⟩
def RX10 : String := "PriceUponModel"
def TX10 : u_T := fun k => match k with
  | 0 => ("PriceUponModel", "thrown", "I", false)
  | 1 => ("PriceUponModel", "tape", "[B", true)
  | 2 => ("PriceUponModel", "length", "I", false)
  | 3 => ("PriceUponModel", "at", "I", false)
  | 4 => ("PriceUponModel", "fault", "I", false)
  | 5 => ("PriceUponModel", "number", "I", false)
  | 6 => ("PriceUponModel", "houses", "[I", true)
  | 7 => ("PriceUponModel", "cost", "[I", true)
  | 8 => ("PriceUponModel", "from", "[I", true)
  | 9 => ("PriceUponModel", "other", "[I", true)
  | 10 => ("PriceUponModel", "wants", "[I", true)
  | 11 => ("PriceUponModel", "wantHouse", "[I", true)
  | 12 => ("PriceUponModel", "wantPrice", "[I", true)
  | 13 => ("PriceUponModel", "wantMany", "[I", true)
  | 14 => ("PriceUponModel", "joined", "[I", true)
  | 15 => ("PriceUponModel", "cap", "[I", true)
  | 16 => ("PriceUponModel", "pays", "[I", true)
  | 17 => ("PriceUponModel", "asks", "[I", true)
  | 18 => ("PriceUponModel", "isAlike", "[Z", true)
  | 19 => ("PriceUponModel", "isHalved", "[Z", true)
  | 20 => ("PriceUponModel", "trades", "I", false)
  | 21 => ("PriceUponModel", "now", "I", false)
  | 22 => ("PriceUponModel", "termJoined", "I", false)
  | 23 => ("PriceUponModel", "termCap", "I", false)
  | 24 => ("PriceUponModel", "termAlike", "Z", false)
  | 25 => ("PriceUponModel", "termHalved", "Z", false)
  | 26 => ("PriceUponModel", "takes", "[I", true)
  | 27 => ("PriceUponModel", "earned", "[I", true)
  | 28 => ("PriceUponModel", "isKnown", "[Z", true)
  | 29 => ("PriceUponModel", "paid", "[I", true)
  | 30 => ("PriceUponModel", "units", "[I", true)
  | 31 => ("PriceUponModel", "pairMany", "I", false)
  | 32 => ("PriceUponModel", "pairNumber", "I", false)
  | 33 => ("PriceUponModel", "firsts", "[I", true)
  | 34 => ("PriceUponModel", "seconds", "[I", true)
  | 35 => ("PriceUponModel", "chanceWanted", "[I", true)
  | 36 => ("PriceUponModel", "chanceWeight", "[I", true)
  | _ => ("PriceUponModel", "chances", "I", false)
def tyX10 : Nat → FieldType := fun k => match k with
  | 0 => .int
  | 1 => .array .byte
  | 2 => .int
  | 3 => .int
  | 4 => .int
  | 5 => .int
  | 6 => .array .int
  | 7 => .array .int
  | 8 => .array .int
  | 9 => .array .int
  | 10 => .array .int
  | 11 => .array .int
  | 12 => .array .int
  | 13 => .array .int
  | 14 => .array .int
  | 15 => .array .int
  | 16 => .array .int
  | 17 => .array .int
  | 18 => .array .boolean
  | 19 => .array .boolean
  | 20 => .int
  | 21 => .int
  | 22 => .int
  | 23 => .int
  | 24 => .boolean
  | 25 => .boolean
  | 26 => .array .int
  | 27 => .array .int
  | 28 => .array .boolean
  | 29 => .array .int
  | 30 => .array .int
  | 31 => .int
  | 32 => .int
  | 33 => .array .int
  | 34 => .array .int
  | 35 => .array .int
  | 36 => .array .int
  | _ => .int
abbrev wsX100 : List Cond := u_ws RX10 TX10 38
theorem nmX10 : ∀ a, a < 38 → ∀ b, b < 38 → a ≠ b → (TX10 a).2.1 ≠ (TX10 b).2.1 := by decide +kernel
theorem tyX10_ok : ∀ k, k < 38 → parseFieldDescriptor (TX10 k).2.2.1 = some (tyX10 k) := by decide +kernel
abbrev cX10_init : ByteArray := prog_12_method_1_code
def yX10_init : MethodName := ⟨RX10, "<init>", "()V"⟩
abbrev cX10_thrown : ByteArray := prog_12_method_2_code
def yX10_thrown : MethodName := ⟨RX10, "thrown", "()I"⟩
abbrev cX10_isIn : ByteArray := prog_12_method_3_code
def yX10_isIn : MethodName := ⟨RX10, "isIn", "(III)Z"⟩
abbrev cX10_bytesIn : ByteArray := prog_12_method_4_code
def yX10_bytesIn : MethodName := ⟨RX10, "bytesIn", "(I)I"⟩
abbrev cX10_put : ByteArray := prog_12_method_5_code
def yX10_put : MethodName := ⟨RX10, "put", "(I)V"⟩
abbrev cX10_feed : ByteArray := prog_12_method_6_code
def yX10_feed : MethodName := ⟨RX10, "feed", "(IIIII)I"⟩
abbrev cX10_end : ByteArray := prog_12_method_7_code
def yX10_end : MethodName := ⟨RX10, "end", "(I)Z"⟩
abbrev cX10_here : ByteArray := prog_12_method_8_code
def yX10_here : MethodName := ⟨RX10, "here", "()I"⟩
abbrev cX10_look : ByteArray := prog_12_method_9_code
def yX10_look : MethodName := ⟨RX10, "look", "()I"⟩
abbrev cX10_fails : ByteArray := prog_12_method_10_code
def yX10_fails : MethodName := ⟨RX10, "fails", "(I)Z"⟩
abbrev cX10_isDigit : ByteArray := prog_12_method_11_code
def yX10_isDigit : MethodName := ⟨RX10, "isDigit", "()Z"⟩
abbrev cX10_number : ByteArray := prog_12_method_12_code
def yX10_number : MethodName := ⟨RX10, "number", "(III)Z"⟩
abbrev cX10_readWant : ByteArray := prog_12_method_13_code
def yX10_readWant : MethodName := ⟨RX10, "readWant", "(I)Z"⟩
abbrev cX10_readBuys : ByteArray := prog_12_method_14_code
def yX10_readBuys : MethodName := ⟨RX10, "readBuys", "(I)Z"⟩
abbrev cX10_readTold : ByteArray := prog_12_method_15_code
def yX10_readTold : MethodName := ⟨RX10, "readTold", "(I[II)Z"⟩
abbrev cX10_statement : ByteArray := prog_12_method_16_code
def yX10_statement : MethodName := ⟨RX10, "statement", "(I)Z"⟩
abbrev cX10_readTrade : ByteArray := prog_12_method_17_code
def yX10_readTrade : MethodName := ⟨RX10, "readTrade", "()Z"⟩
abbrev cX10_fault : ByteArray := prog_12_method_18_code
def yX10_fault : MethodName := ⟨RX10, "fault", "()I"⟩
abbrev cX10_trade : ByteArray := prog_12_method_19_code
def yX10_trade : MethodName := ⟨RX10, "trade", "()I"⟩
abbrev cX10_isTrade : ByteArray := prog_12_method_20_code
def yX10_isTrade : MethodName := ⟨RX10, "isTrade", "(I)Z"⟩
abbrev cX10_isHouse : ByteArray := prog_12_method_21_code
def yX10_isHouse : MethodName := ⟨RX10, "isHouse", "(II)Z"⟩
abbrev cX10_isPrice : ByteArray := prog_12_method_22_code
def yX10_isPrice : MethodName := ⟨RX10, "isPrice", "(I)Z"⟩
abbrev cX10_buys : ByteArray := prog_12_method_23_code
def yX10_buys : MethodName := ⟨RX10, "buys", "(III)Z"⟩
abbrev cX10_buyers : ByteArray := prog_12_method_24_code
def yX10_buyers : MethodName := ⟨RX10, "buyers", "(II)I"⟩
abbrev cX10_isShop : ByteArray := prog_12_method_25_code
def yX10_isShop : MethodName := ⟨RX10, "isShop", "(II)Z"⟩
abbrev cX10_isMaker : ByteArray := prog_12_method_26_code
def yX10_isMaker : MethodName := ⟨RX10, "isMaker", "(II)Z"⟩
abbrev cX10_wanted : ByteArray := prog_12_method_27_code
def yX10_wanted : MethodName := ⟨RX10, "wanted", "(III)I"⟩
abbrev cX10_costOf : ByteArray := prog_12_method_28_code
def yX10_costOf : MethodName := ⟨RX10, "costOf", "(II)I"⟩
abbrev cX10_house : ByteArray := prog_12_method_29_code
def yX10_house : MethodName := ⟨RX10, "house", "(III)I"⟩
abbrev cX10_houses : ByteArray := prog_12_method_30_code
def yX10_houses : MethodName := ⟨RX10, "houses", "(I)I"⟩
abbrev cX10_want : ByteArray := prog_12_method_31_code
def yX10_want : MethodName := ⟨RX10, "want", "(III)I"⟩
abbrev cX10_join : ByteArray := prog_12_method_32_code
def yX10_join : MethodName := ⟨RX10, "join", "(II)Z"⟩
abbrev cX10_law : ByteArray := prog_12_method_33_code
def yX10_law : MethodName := ⟨RX10, "law", "(IIZ)Z"⟩
abbrev cX10_halve : ByteArray := prog_12_method_34_code
def yX10_halve : MethodName := ⟨RX10, "halve", "(IZ)Z"⟩
abbrev cX10_terms : ByteArray := prog_12_method_35_code
def yX10_terms : MethodName := ⟨RX10, "terms", "(IIIZZ)V"⟩
abbrev cX10_termsOf : ByteArray := prog_12_method_36_code
def yX10_termsOf : MethodName := ⟨RX10, "termsOf", "(I)V"⟩
abbrev cX10_isJoined : ByteArray := prog_12_method_37_code
def yX10_isJoined : MethodName := ⟨RX10, "isJoined", "(I)Z"⟩
abbrev cX10_askBy : ByteArray := prog_12_method_38_code
def yX10_askBy : MethodName := ⟨RX10, "askBy", "(II)I"⟩
abbrev cX10_priceTo : ByteArray := prog_12_method_39_code
def yX10_priceTo : MethodName := ⟨RX10, "priceTo", "(III)I"⟩
abbrev cX10_bestPrice : ByteArray := prog_12_method_40_code
def yX10_bestPrice : MethodName := ⟨RX10, "bestPrice", "(II)I"⟩
abbrev cX10_alikePrice : ByteArray := prog_12_method_41_code
def yX10_alikePrice : MethodName := ⟨RX10, "alikePrice", "(II)I"⟩
abbrev cX10_halvedPrice : ByteArray := prog_12_method_42_code
def yX10_halvedPrice : MethodName := ⟨RX10, "halvedPrice", "(II)I"⟩
abbrev cX10_would : ByteArray := prog_12_method_43_code
def yX10_would : MethodName := ⟨RX10, "would", "(II)V"⟩
abbrev cX10_takeBy : ByteArray := prog_12_method_44_code
def yX10_takeBy : MethodName := ⟨RX10, "takeBy", "(II)I"⟩
abbrev cX10_earnBy : ByteArray := prog_12_method_45_code
def yX10_earnBy : MethodName := ⟨RX10, "earnBy", "(II)I"⟩
abbrev cX10_ask : ByteArray := prog_12_method_46_code
def yX10_ask : MethodName := ⟨RX10, "ask", "(III)I"⟩
abbrev cX10_take : ByteArray := prog_12_method_47_code
def yX10_take : MethodName := ⟨RX10, "take", "(III)I"⟩
abbrev cX10_layOutcome : ByteArray := prog_12_method_48_code
def yX10_layOutcome : MethodName := ⟨RX10, "layOutcome", "()V"⟩
abbrev cX10_earnsOf : ByteArray := prog_12_method_49_code
def yX10_earnsOf : MethodName := ⟨RX10, "earnsOf", "(I)I"⟩
abbrev cX10_outcome : ByteArray := prog_12_method_50_code
def yX10_outcome : MethodName := ⟨RX10, "outcome", "(III)I"⟩
abbrev cX10_allEarn : ByteArray := prog_12_method_51_code
def yX10_allEarn : MethodName := ⟨RX10, "allEarn", "()I"⟩
abbrev cX10_saving : ByteArray := prog_12_method_52_code
def yX10_saving : MethodName := ⟨RX10, "saving", "()I"⟩
abbrev cX10_everybody : ByteArray := prog_12_method_53_code
def yX10_everybody : MethodName := ⟨RX10, "everybody", "(I)I"⟩
abbrev cX10_sum : ByteArray := prog_12_method_54_code
def yX10_sum : MethodName := ⟨RX10, "sum", "(II)I"⟩
abbrev cX10_passed : ByteArray := prog_12_method_55_code
def yX10_passed : MethodName := ⟨RX10, "passed", "(IIII)I"⟩
abbrev cX10_gain : ByteArray := prog_12_method_56_code
def yX10_gain : MethodName := ⟨RX10, "gain", "(II)I"⟩
abbrev cX10_tell : ByteArray := prog_12_method_57_code
def yX10_tell : MethodName := ⟨RX10, "tell", "(IIZI)Z"⟩
abbrev cX10_toldTake : ByteArray := prog_12_method_58_code
def yX10_toldTake : MethodName := ⟨RX10, "toldTake", "(II)I"⟩
abbrev cX10_toldUnit : ByteArray := prog_12_method_59_code
def yX10_toldUnit : MethodName := ⟨RX10, "toldUnit", "(II)I"⟩
abbrev cX10_given : ByteArray := prog_12_method_60_code
def yX10_given : MethodName := ⟨RX10, "given", "(II)I"⟩
abbrev cX10_wouldElse : ByteArray := prog_12_method_61_code
def yX10_wouldElse : MethodName := ⟨RX10, "wouldElse", "(II)Z"⟩
abbrev cX10_doers : ByteArray := prog_12_method_62_code
def yX10_doers : MethodName := ⟨RX10, "doers", "(I)I"⟩
abbrev cX10_isBehind : ByteArray := prog_12_method_63_code
def yX10_isBehind : MethodName := ⟨RX10, "isBehind", "(III)Z"⟩
abbrev cX10_chainCost : ByteArray := prog_12_method_64_code
def yX10_chainCost : MethodName := ⟨RX10, "chainCost", "(II)I"⟩
abbrev cX10_freely : ByteArray := prog_12_method_65_code
def yX10_freely : MethodName := ⟨RX10, "freely", "(II)I"⟩
abbrev cX10_fee : ByteArray := prog_12_method_66_code
def yX10_fee : MethodName := ⟨RX10, "fee", "(III)I"⟩
abbrev cX10_bracket : ByteArray := prog_12_method_67_code
def yX10_bracket : MethodName := ⟨RX10, "bracket", "(IIIII)I"⟩
abbrev cX10_isPair : ByteArray := prog_12_method_68_code
def yX10_isPair : MethodName := ⟨RX10, "isPair", "(IIIII)Z"⟩
abbrev cX10_layPairs : ByteArray := prog_12_method_69_code
def yX10_layPairs : MethodName := ⟨RX10, "layPairs", "(III)V"⟩
abbrev cX10_isPartner : ByteArray := prog_12_method_70_code
def yX10_isPartner : MethodName := ⟨RX10, "isPartner", "(II)Z"⟩
abbrev cX10_parts : ByteArray := prog_12_method_71_code
def yX10_parts : MethodName := ⟨RX10, "parts", "(III)I"⟩
abbrev cX10_takings : ByteArray := prog_12_method_72_code
def yX10_takings : MethodName := ⟨RX10, "takings", "(III)I"⟩
abbrev cX10_restsOf : ByteArray := prog_12_method_73_code
def yX10_restsOf : MethodName := ⟨RX10, "restsOf", "(I)I"⟩
abbrev cX10_rivals : ByteArray := prog_12_method_74_code
def yX10_rivals : MethodName := ⟨RX10, "rivals", "(IIIIII)I"⟩
abbrev cX10_makers : ByteArray := prog_12_method_75_code
def yX10_makers : MethodName := ⟨RX10, "makers", "(IIIII)I"⟩
abbrev cX10_chance : ByteArray := prog_12_method_76_code
def yX10_chance : MethodName := ⟨RX10, "chance", "(II)I"⟩
abbrev cX10_clear : ByteArray := prog_12_method_77_code
def yX10_clear : MethodName := ⟨RX10, "clear", "()I"⟩
abbrev cX10_expected : ByteArray := prog_12_method_78_code
def yX10_expected : MethodName := ⟨RX10, "expected", "(IIII)I"⟩
abbrev cX10_isAsked : ByteArray := prog_12_method_79_code
def yX10_isAsked : MethodName := ⟨RX10, "isAsked", "(III)Z"⟩
abbrev cX10_expects : ByteArray := prog_12_method_80_code
def yX10_expects : MethodName := ⟨RX10, "expects", "(IIII)I"⟩
abbrev cX10_bestStock : ByteArray := prog_12_method_81_code
def yX10_bestStock : MethodName := ⟨RX10, "bestStock", "(III)I"⟩
abbrev cX10_stock : ByteArray := prog_12_method_82_code
def yX10_stock : MethodName := ⟨RX10, "stock", "(III)I"⟩
abbrev cX10_sellerExpects : ByteArray := prog_12_method_83_code
def yX10_sellerExpects : MethodName := ⟨RX10, "sellerExpects", "(IIII)I"⟩
abbrev cX10_seller : ByteArray := prog_12_method_84_code
def yX10_seller : MethodName := ⟨RX10, "seller", "(IIII)I"⟩
abbrev cX10_oneWith : ByteArray := prog_12_method_85_code
def yX10_oneWith : MethodName := ⟨RX10, "oneWith", "(III)I"⟩
abbrev cX10_earnTogether : ByteArray := prog_12_method_86_code
def yX10_earnTogether : MethodName := ⟨RX10, "earnTogether", "(III)I"⟩
abbrev cX10_ratherBy : ByteArray := prog_12_method_87_code
def yX10_ratherBy : MethodName := ⟨RX10, "ratherBy", "(III)I"⟩
abbrev cX10_rather : ByteArray := prog_12_method_88_code
def yX10_rather : MethodName := ⟨RX10, "rather", "(II)I"⟩
abbrev cX10_rests : ByteArray := prog_12_method_89_code
def yX10_rests : MethodName := ⟨RX10, "rests", "(II)I"⟩
abbrev cX10_count : ByteArray := prog_12_method_90_code
def yX10_count : MethodName := ⟨RX10, "count", "(I)I"⟩
def RL : String := "PriceUponLaw"
abbrev cL_house : ByteArray := method_3_code
def yL_house : MethodName := ⟨RL, "house", "(LPriceUpon;III[J)I"⟩
abbrev cL_law : ByteArray := code
def yL_law : MethodName := ⟨RL, "law", "([I)Z"⟩
abbrev vwCl : List vw_C := [(RX0, TX0, 4), (RX1, TX1, 6), (RX2, TX2, 1), (RX3, TX3, 4), (RX4, TX4, 2), (RX5, TX5, 12), (RX6, TX6, 4), (RX7, TX7, 6), (RX8, TX8, 13), (RX9, TX9, 12), (RX10, TX10, 38)]
end
section
/-! ===== an abstract memory (ints, references, longs, shapes, how many cells), and what the machine does over it ===== -/
abbrev Mm : Type := (Nat → Nat → Int32) × (Nat → Nat → Option Nat) × (Nat → Nat → Int64) × (Nat → Nat × Nat) × Nat
abbrev mI (M : Mm) : Nat → Nat → Int32 := M.1
abbrev mP (M : Mm) : Nat → Nat → Option Nat := M.2.1
abbrev mJ (M : Mm) : Nat → Nat → Int64 := M.2.2.1
abbrev mS (M : Mm) : Nat → Nat × Nat := M.2.2.2.1
abbrev mN (M : Mm) : Nat := M.2.2.2.2
def up2 {α : Type} (f : Nat → Nat → α) (a k : Nat) (v : α) : Nat → Nat → α := fun b j => if b = a ∧ j = k then v else f b j
def nfl (c : Nat) : Nat := ([4, 6, 1, 4, 2, 12, 4, 6, 13, 12, 38] : List Nat).getD c 0
def refl_t (ty : FieldType) : Bool := match ty with
  | .object _ => true
  | .array _ => true
  | _ => false
def Cof (c : Nat) : String := ([RX0, RX1, RX2, RX3, RX4, RX5, RX6, RX7, RX8, RX9, RX10] : List String).getD c ""
def Tof (c : Nat) : u_T := ([TX0, TX1, TX2, TX3, TX4, TX5, TX6, TX7, TX8, TX9, TX10] : List u_T).getD c TX0
def Tyof (c : Nat) : Nat → FieldType := ([tyX0, tyX1, tyX2, tyX3, tyX4, tyX5, tyX6, tyX7, tyX8, tyX9, tyX10] : List (Nat → FieldType)).getD c tyX0
def isR (c k : Nat) : Bool := refl_t (Tyof c k)
def flv (ad : Nat → Nat) (I : Nat → Int32) (P : Nat → Option Nat) (c : Nat) : List Value := (List.range (nfl c)).map (fun k => if isR c k then va_rf ((P k).map ad) else .int (I k))
def cel (ad : Nat → Nat) (cA : Nat → ClassId) (M : Mm) (id : Nat) : va_E :=
  if (mS M id).1 = 0 then .inr ((mS M id).2, flv ad (mI M id) (mP M id) (mS M id).2)
  else if (mS M id).1 = 4 then .inl (cA 4, (mS M id).2, .inr (.inl (mJ M id)))
  else if (mS M id).1 = 5 then .inl (cA 5, (mS M id).2, .inr (.inr (.inr (.inr (fun k => (mP M id k).map ad)))))
  else if (mS M id).1 = 6 then .inl (cA 6, (mS M id).2, .inr (.inr (.inr (.inr (fun k => (mP M id k).map ad)))))
  else .inl (cA (mS M id).1, (mS M id).2, .inl (mI M id))
def wsO (ad : Nat → Nat) (cA : Nat → ClassId) (M : Mm) : va_W := (List.range (mN M)).map (fun id => (ad id, cel ad cA M id))
theorem wsO_get {ad : Nat → Nat} {cA : Nat → ClassId} {M : Mm} {id : Nat} (h : id < mN M) : (wsO ad cA M)[id]? = some (ad id, cel ad cA M id) := by
  simp [wsO, h]
theorem wsO_len {ad : Nat → Nat} {cA : Nat → ClassId} {M : Mm} : (wsO ad cA M).length = mN M := by simp [wsO]
/-- a world with one cell changed -/
theorem wsO_set {ad : Nat → Nat} {cA : Nat → ClassId} {M M' : Mm} {id : Nat} {x : va_E} (hn : mN M' = mN M) (hx : cel ad cA M' id = x) (ho : ∀ j, j ≠ id → cel ad cA M' j = cel ad cA M j) : (wsO ad cA M).set id (ad id, x) = wsO ad cA M' := by
  apply List.ext_getElem?
  intro j
  by_cases hj : j < mN M
  · by_cases e : j = id
    · subst e
      rw [List.getElem?_set_self (by rw [wsO_len]; exact hj), wsO_get (by rw [hn]; exact hj), hx]
    · rw [List.getElem?_set_ne (Ne.symm e), wsO_get hj, wsO_get (by rw [hn]; exact hj), ho j e]
  · rw [List.getElem?_eq_none (by rw [List.length_set, wsO_len]; omega), List.getElem?_eq_none (by rw [wsO_len, hn]; omega)]
/-- a world with one cell more -/
theorem wsO_push {ad : Nat → Nat} {cA : Nat → ClassId} {M M' : Mm} {q : Nat} {x : va_E} (hn : mN M' = mN M + 1) (hx : cel (va_up ad (mN M) q) cA M' (mN M) = x) (ho : ∀ j, j < mN M → cel (va_up ad (mN M) q) cA M' j = cel ad cA M j) : wsO ad cA M ++ [(q, x)] = wsO (va_up ad (mN M) q) cA M' := by
  unfold wsO
  rw [hn, List.range_succ, List.map_append, List.map_singleton, hx]
  congr 1
  · apply List.map_congr_left
    intro j hj
    have hj := List.mem_range.mp hj
    rw [ho j hj]
    simp [va_up, Nat.ne_of_lt hj]
  · simp [va_up]
def tr (ad : Nat → Nat) (v : Value) : Value := match v with
  | .ref a => .ref (ad a)
  | w => w
def okV (n : Nat) (v : Value) : Prop := match v with
  | .ref a => a < n
  | _ => True
theorem tr_cat (ad : Nat → Nat) (v : Value) : (tr ad v).category = v.category := by cases v <;> rfl
theorem tr_same {ad ad' : Nat → Nat} {n : Nat} (h : ∀ id, id < n → ad' id = ad id) {v : Value} (hv : okV n v) : tr ad' v = tr ad v := by
  cases v with
  | ref a => exact congrArg Value.ref (h a hv)
  | _ => rfl
theorem okV_le {n n' : Nat} (h : n ≤ n') {v : Value} (hv : okV n v) : okV n' v := by
  cases v with
  | ref a => exact Nat.lt_of_lt_of_le hv h
  | _ => trivial
theorem tr_rf (ad : Nat → Nat) (x : Option Nat) : tr ad (va_rf x) = va_rf (x.map ad) := by cases x <;> rfl
theorem okV_rf {n : Nat} {x : Option Nat} (h : ∀ a, x = some a → a < n) : okV n (va_rf x) := by
  cases x with
  | none => trivial
  | some a => exact h a rfl
def tysO (cA : Nat → ClassId) : List (ClassId × FieldType) := [(cA 1, .int), (cA 2, .byte), (cA 3, .boolean), (cA 4, .long), (cA 5, .object "PriceUpon$Trade"), (cA 6, .array .int)]
abbrev Yt : Type := MethodName × ByteArray × Nat × Option FieldType
def gtb : List Cond := lw_tbl.filter goodWord
theorem gt_of {w : Cond} (i : Nat) (h : tables_1[i]? = some w) (hg : goodWord w = true) : w ∈ gtb := List.mem_filter.mpr ⟨List.mem_append_right _ (List.mem_of_getElem? h), hg⟩
theorem gt_sel {w : Cond} (i : Nat) (h : (k2_sels lw_privs)[i]? = some w) (hg : goodWord w = true) : w ∈ gtb := List.mem_filter.mpr ⟨List.mem_append_left _ (List.mem_of_getElem? h), hg⟩
/-- the words that no list of good words holds: calls among the classes of the nest, arrays over classes -/
def nlk : List (String × Nat × MethodName) := [("PriceUpon", 11, ⟨"PriceUpon$Tape", "<init>", "()V"⟩), ("PriceUpon", 26, ⟨"PriceUpon$Trade", "<init>", "()V"⟩), ("PriceUpon$Trade", 38, ⟨"PriceUpon$Terms", "<init>", "()V"⟩), ("PriceUpon", 33, ⟨"PriceUpon$Terms", "<init>", "()V"⟩), ("PriceUpon", 40, ⟨"PriceUpon$Market", "<init>", "()V"⟩), ("PriceUpon$Market", 17, ⟨"PriceUpon$Terms", "<init>", "()V"⟩), ("PriceUpon", 50, ⟨"PriceUpon$Hand", "<init>", "()V"⟩), ("PriceUpon", 57, ⟨"PriceUpon$Healing", "<init>", "()V"⟩), ("PriceUpon", 64, ⟨"PriceUpon$Duel", "<init>", "()V"⟩), ("PriceUpon", 71, ⟨"PriceUpon$Joining", "<init>", "()V"⟩), ("PriceUpon", 78, ⟨"PriceUpon$Chances", "<init>", "()V"⟩), ("PriceUpon$Market", 84, ⟨"PriceUpon", "row", "(I)I"⟩), ("PriceUpon$Market", 118, ⟨"PriceUpon", "bestPrice", "([III)I"⟩), ("PriceUpon$Hand", 57, ⟨"PriceUpon", "bestPrice", "([III)I"⟩), ("PriceUpon$Duel", 39, ⟨"PriceUpon", "bestPrice", "([III)I"⟩)]
def XW (U : State) : Prop := (∀ q ∈ nlk, va_Nw (.methodLinkNest q.1 q.2.1 q.2.2 "PriceUpon") U) ∧ va_AO "PriceUpon$Trade" U ∧ va_AOA .int U
theorem va_AOA.moved {t : FieldType} {u U : State} (hvm : u.vm.Alike U.vm) (h : va_AOA t u) : va_AOA t U := Jvm.Stand.arrayOver_alikeB hvm h
theorem XW.warm {s U : State} (hW : s.WarmedH U.vm) (h : XW s) : XW U := ⟨fun q hq => va_Nw.warmM hW (h.1 q hq), h.2.1.moved hW.alike, h.2.2.moved hW.alike⟩
theorem XW.same {u U : State} (hv : u.vm = U.vm) (h : XW u) : XW U := ⟨fun q hq => va_Nw.same rfl hv (h.1 q hq), h.2.1.moved (hv ▸ Vm.Alike.refl u.vm), h.2.2.moved (hv ▸ Vm.Alike.refl u.vm)⟩
def Cx (p : Program) (s : State) (m : MethodId) (args : Array Value) (meth : Method) (c : Code) (y : Yt) : Prop :=
  p.tables.exec = Jvm.exec ∧ c.code = y.2.1 ∧ c.maxLocals = y.2.2.1 ∧ meth.sig.returnType = y.2.2.2 ∧ s.vm.findClass y.1.cls = some m.cls ∧ (∀ w ∈ gtb, w.before args s = true) ∧ meth.locks = false ∧ (y.1.name = "<init>" → meth.name = "<init>") ∧ XW s
def Iv (s : State) (D : va_G) (cA : Nat → ClassId) (A : Nat → Prop) (ad : Nat → Nat) (M : Mm) (H0 H : Heap) (locs : List Loc) : Prop :=
  va_K D vwCl (tysO cA) s ∧ va_P D vwCl (wsO ad cA M) H ∧ va_D A (wsO ad cA M) ∧ va_S A H0 H locs ∧ (∀ q, H0.size ≤ q → A q) ∧ (∀ id k a, mP M id k = some a → a < mN M)
def Lv (ls : Array Slot) (nL : Nat) (ad : Nat → Nat) (n : Nat) (L : List (Option Value)) : Prop := ls.size = nL ∧ lv_wf ls ∧ ∀ (i : Nat) (v : Value), L[i]? = some (some v) → ls[i]? = some (Slot.val (tr ad v)) ∧ okV n v
def Sv (n : Nat) (st : List Value) : Prop := ∀ v ∈ st, okV n v
def Rt (y : Yt) (pc : Nat) (r : Option Value) : Prop := match r with
  | none => decode y.2.1 pc = .ok (.return_, 1) ∧ y.2.2.2 = none
  | some (.int v) => decode y.2.1 pc = .ok (.ireturn, 1) ∧ ∃ ty, y.2.2.2 = some ty ∧ narrow ty (.int v) = .int v
  | some v => decode y.2.1 pc = .ok (.areturn, 1) ∧ (v = .null ∨ ∃ a, v = .ref a) ∧ ∃ rt, y.2.2.2 = some rt ∧ ((∃ n, rt = .object n) ∨ ∃ t, rt = .array t)
/-- from here, with these locals, this stack and this memory, the method ends with Q; d frames, kc cells and ks slots are enough -/
def wp (d kc ks : Nat) (y : Yt) (pc : Nat) (L : List (Option Value)) (st : List Value) (M : Mm) (Q : Option Value → Mm → Prop) : Prop :=
  ∀ (p : Program) (l : Launch) (e : Env) (R : Room) (s : State) (m : MethodId) (args : Array Value) (below : List Frame) (meth : Method) (c : Code) (D : va_G) (cA : Nat → ClassId) (A : Nat → Prop) (ad : Nat → Nat) (H : Heap) (locs : List Loc) (cells slots : Nat) (Qm : State → Prop) (ls : Array Slot),
    Cx p s m args meth c y → d ≤ R.frames → 40 * d ≤ R.locals → cells + kc ≤ R.cells → slots + ks ≤ R.slots → Iv s D cA A ad M s.heap H locs → Lv ls y.2.2.1 ad (mN M) L → Sv (mN M) st →
    (∀ (r : Option Value) (M' : Mm) (pcF : Nat) (lsF : Array Slot) (ad' : Nat → Nat) (H' : Heap) (locs' : List Loc), Q r M' → mN M ≤ mN M' → (∀ id, id < mN M → ad' id = ad id) → Iv s D cA A ad' M' s.heap H' locs' → (∀ v, r = some v → okV (mN M') v) → Rt y pcF r →
      W p l e R s m args below meth c H' locs' (cells + kc) (slots + ks) Qm (F0 m pcF lsF ((r.map (tr ad')).toList))) →
    W p l e R s m args below meth c H locs cells slots Qm (F0 m pc ls (st.map (tr ad)))
theorem Sv.tl {n : Nat} {v : Value} {st : List Value} (h : Sv n (v :: st)) : Sv n st := fun w hw => h w (List.mem_cons_of_mem _ hw)
theorem Sv.hd {n : Nat} {v : Value} {st : List Value} (h : Sv n (v :: st)) : okV n v := h v List.mem_cons_self
theorem Sv.cons {n : Nat} {v : Value} {st : List Value} (hv : okV n v) (h : Sv n st) : Sv n (v :: st) := fun w hw => (List.mem_cons.mp hw).elim (fun e => e ▸ hv) (h w)
def lvl (ad : Nat → Nat) (L : List (Option Value)) : List (Nat × Value) := (List.range L.length).filterMap (fun i => (L[i]?.join).map (fun v => (i, tr ad v)))
theorem lvl_mem {ad : Nat → Nat} {L : List (Option Value)} {i : Nat} {w : Value} : (i, w) ∈ lvl ad L ↔ ∃ v, L[i]? = some (some v) ∧ w = tr ad v := by
  unfold lvl
  rw [List.mem_filterMap]
  constructor
  · rintro ⟨j, -, hj⟩
    cases h : L[j]?.join with
    | none => rw [h] at hj; cases hj
    | some v =>
      rw [h] at hj
      simp only [Option.map_some, Option.some.injEq, Prod.mk.injEq] at hj
      obtain ⟨rfl, rfl⟩ := hj
      exact ⟨v, by simpa [Option.join_eq_some_iff] using h, rfl⟩
  · rintro ⟨v, hv, rfl⟩
    exact ⟨i, List.mem_range.mpr (List.getElem?_eq_some_iff.mp hv).1, by rw [hv]; rfl⟩
theorem Lv.has {ls : Array Slot} {nL : Nat} {ad : Nat → Nat} {n : Nat} {L : List (Option Value)} (h : Lv ls nL ad n L) : lv_has ls nL (lvl ad L) :=
  ⟨h.1, h.2.1, fun q hq => by
    obtain ⟨i, w⟩ := q
    obtain ⟨v, hv, rfl⟩ := lvl_mem.mp hq
    exact (h.2.2 i v hv).1⟩
def nolg (L : List (Option Value)) (i : Nat) : Bool := match i with
  | 0 => true
  | z + 1 => match L[z]? with
    | some (some (.long _)) => false
    | some (some (.double _)) => false
    | _ => true
theorem nolg_cat {L : List (Option Value)} {z : Nat} {v : Value} (h : nolg L (z + 1) = true) (hv : L[z]? = some (some v)) : v.category = 1 := by
  simp only [nolg, hv] at h
  cases v <;> first | rfl | cases h
theorem Lv.st1 {ls ls' : Array Slot} {nL : Nat} {ad : Nat → Nat} {n : Nat} {L : List (Option Value)} {i : Nat} {v : Value} (h : Lv ls nL ad n L) (hn : nolg L i = true) (hv : okV n v) (h' : lv_has ls' nL ((i, tr ad v) :: (lvl ad L).filter (fun q => !(q.1 == i) && !(q.1 + 1 == i && q.2.category == 2)))) : Lv ls' nL ad n (L.set i (some v)) := by
  refine ⟨h'.1, h'.2.1, fun j w hw => ?_⟩
  by_cases e : i = j
  · subst e
    have hl : i < L.length := by
      have := (List.getElem?_eq_some_iff.mp hw).1
      rwa [List.length_set] at this
    rw [List.getElem?_set_self hl] at hw
    cases hw
    exact ⟨h'.2.2 (i, tr ad v) List.mem_cons_self, hv⟩
  · rw [List.getElem?_set_ne e] at hw
    refine ⟨h'.2.2 (j, tr ad w) (List.mem_cons_of_mem _ (List.mem_filter.mpr ⟨lvl_mem.mpr ⟨w, hw, rfl⟩, ?_⟩)), (h.2.2 j w hw).2⟩
    have e1 : (j == i) = false := by simpa using fun z => e z.symm
    by_cases e2 : j + 1 = i
    · subst e2
      have := nolg_cat hn hw
      simp [tr_cat, this]
    · have e3 : (j + 1 == i) = false := by simpa using e2
      simp only [e1, e3]
      rfl
theorem Lv.st2 {ls ls' : Array Slot} {nL : Nat} {ad : Nat → Nat} {n : Nat} {L : List (Option Value)} {i : Nat} {v : Value} (h : Lv ls nL ad n L) (hn : nolg L i = true) (hv : okV n v) (h' : lv_has ls' nL ((i, tr ad v) :: (lvl ad L).filter (fun q => !(q.1 == i) && (!(q.1 == i + 1) && !(q.1 + 1 == i && q.2.category == 2))))) : Lv ls' nL ad n ((L.set i (some v)).set (i + 1) none) := by
  refine ⟨h'.1, h'.2.1, fun j w hw => ?_⟩
  by_cases e5 : i + 1 = j
  · subst e5
    by_cases hl : i + 1 < (L.set i (some v)).length
    · rw [List.getElem?_set_self hl] at hw
      cases hw
    · rw [List.getElem?_eq_none (by rw [List.length_set]; omega)] at hw
      cases hw
  rw [List.getElem?_set_ne e5] at hw
  by_cases e : i = j
  · subst e
    have hl : i < L.length := by
      have := (List.getElem?_eq_some_iff.mp hw).1
      rwa [List.length_set] at this
    rw [List.getElem?_set_self hl] at hw
    cases hw
    exact ⟨h'.2.2 (i, tr ad v) List.mem_cons_self, hv⟩
  · rw [List.getElem?_set_ne e] at hw
    refine ⟨h'.2.2 (j, tr ad w) (List.mem_cons_of_mem _ (List.mem_filter.mpr ⟨lvl_mem.mpr ⟨w, hw, rfl⟩, ?_⟩)), (h.2.2 j w hw).2⟩
    have e1 : (j == i) = false := by simpa using fun z => e z.symm
    have e4 : (j == i + 1) = false := by simpa using fun z => e5 z.symm
    by_cases e2 : j + 1 = i
    · subst e2
      have := nolg_cat hn hw
      simp [tr_cat, this]
      omega
    · have e3 : (j + 1 == i) = false := by simpa using e2
      simp only [e1, e3, e4]
      rfl
theorem Lv.mono {ls : Array Slot} {nL : Nat} {ad ad' : Nat → Nat} {n n' : Nat} {L : List (Option Value)} (h : Lv ls nL ad n L) (hn : n ≤ n') (ha : ∀ id, id < n → ad' id = ad id) : Lv ls nL ad' n' L :=
  ⟨h.1, h.2.1, fun i v hv => ⟨by rw [tr_same ha (h.2.2 i v hv).2]; exact (h.2.2 i v hv).1, okV_le hn (h.2.2 i v hv).2⟩⟩
theorem Sv.mono {n n' : Nat} {st : List Value} (h : Sv n st) (hn : n ≤ n') : Sv n' st := fun v hv => okV_le hn (h v hv)
theorem Sv.map {n : Nat} {ad ad' : Nat → Nat} {st : List Value} (h : Sv n st) (ha : ∀ id, id < n → ad' id = ad id) : st.map (tr ad') = st.map (tr ad) := List.map_congr_left fun v hv => tr_same ha (h v hv)
/-- another memory behind the step: the goal's continuation moved along -/
theorem wp_mono {d kc ks : Nat} {y : Yt} {pc : Nat} {L : List (Option Value)} {st : List Value} {M : Mm} {Q Q' : Option Value → Mm → Prop} (h : wp d kc ks y pc L st M Q) (hq : ∀ r M', Q r M' → Q' r M') : wp d kc ks y pc L st M Q' := by
  intro p l e R s m args below meth c D cA A ad H locs cells slots Qm ls C h1 h2 h3 h4 V hL hS F
  exact h p l e R s m args below meth c D cA A ad H locs cells slots Qm ls C h1 h2 h3 h4 V hL hS (fun r M' pcF lsF ad' H' locs' q => F r M' pcF lsF ad' H' locs' (hq r M' q))
end
section
section RULES
variable {d kc ks : Nat} {y : Yt} {pc : Nat} {L L' : List (Option Value)} {st : List Value} {M : Mm} {Q : Option Value → Mm → Prop}
theorem r_iconst {n : Int} {v : Int32} (hd : decode y.2.1 pc = .ok (.iconst n, 1)) (hv : Int32.ofInt n = v) (k : wp d kc ks y (pc + 1) L (.int v :: st) M Q) : wp d kc ks y pc L st M Q := by
  intro p l e R s m args below meth c D cA A ad H locs cells slots Qm ls C h1 h2 h3 h4 V hL hS F
  exact lv_iconst C.1 C.2.1 hd hv (k p l e R s m args below meth c D cA A ad H locs cells slots Qm ls C h1 h2 h3 h4 V hL (hS.cons trivial) F)
theorem r_bipush {n : Int} {v : Int32} (hd : decode y.2.1 pc = .ok (.bipush n, 2)) (hv : (Int8.ofInt n).toInt32 = v) (k : wp d kc ks y (pc + 2) L (.int v :: st) M Q) : wp d kc ks y pc L st M Q := by
  intro p l e R s m args below meth c D cA A ad H locs cells slots Qm ls C h1 h2 h3 h4 V hL hS F
  exact lv_bipush C.1 C.2.1 hd hv (k p l e R s m args below meth c D cA A ad H locs cells slots Qm ls C h1 h2 h3 h4 V hL (hS.cons trivial) F)
theorem r_sipush {n : Int} {v : Int32} (hd : decode y.2.1 pc = .ok (.sipush n, 3)) (hv : (Int16.ofInt n).toInt32 = v) (k : wp d kc ks y (pc + 3) L (.int v :: st) M Q) : wp d kc ks y pc L st M Q := by
  intro p l e R s m args below meth c D cA A ad H locs cells slots Qm ls C h1 h2 h3 h4 V hL hS F
  exact lv_sipush C.1 C.2.1 hd hv (k p l e R s m args below meth c D cA A ad H locs cells slots Qm ls C h1 h2 h3 h4 V hL (hS.cons trivial) F)
theorem r_lconst {n : Fin 2} {v : Int64} (hd : decode y.2.1 pc = .ok (.lconst n, 1)) (hv : Int64.ofNat (n : Nat) = v) (k : wp d kc ks y (pc + 1) L (.long v :: st) M Q) : wp d kc ks y pc L st M Q := by
  intro p l e R s m args below meth c D cA A ad H locs cells slots Qm ls C h1 h2 h3 h4 V hL hS F
  exact lv_lconst C.1 C.2.1 hd hv (k p l e R s m args below meth c D cA A ad H locs cells slots Qm ls C h1 h2 h3 h4 V hL (hS.cons trivial) F)
theorem r_ldc {idx : Nat} {v : Int32} (hd : decode y.2.1 pc = .ok (.ldc idx, 2)) (hc : Cond.constant y.1.cls idx v ∈ gtb) (k : wp d kc ks y (pc + 2) L (.int v :: st) M Q) : wp d kc ks y pc L st M Q := by
  intro p l e R s m args below meth c D cA A ad H locs cells slots Qm ls C h1 h2 h3 h4 V hL hS F
  exact lv_ldc C.1 C.2.1 C.2.2.2.2.1 (C.2.2.2.2.2.1 _ hc) hd (k p l e R s m args below meth c D cA A ad H locs cells slots Qm ls C h1 h2 h3 h4 V hL (hS.cons trivial) F)
theorem r_ldc2 {idx : Nat} {v : Int64} (hd : decode y.2.1 pc = .ok (.ldc2_w idx, 3)) (hc : Cond.constantLong y.1.cls idx v ∈ gtb) (k : wp d kc ks y (pc + 3) L (.long v :: st) M Q) : wp d kc ks y pc L st M Q := by
  intro p l e R s m args below meth c D cA A ad H locs cells slots Qm ls C h1 h2 h3 h4 V hL hS F
  exact lv_ldc2 C.1 C.2.1 C.2.2.2.2.1 (C.2.2.2.2.2.1 _ hc) hd (k p l e R s m args below meth c D cA A ad H locs cells slots Qm ls C h1 h2 h3 h4 V hL (hS.cons trivial) F)
theorem r_null (hd : decode y.2.1 pc = .ok (.aconst_null, 1)) (k : wp d kc ks y (pc + 1) L (.null :: st) M Q) : wp d kc ks y pc L st M Q := by
  intro p l e R s m args below meth c D cA A ad H locs cells slots Qm ls C h1 h2 h3 h4 V hL hS F
  exact lv_null C.1 C.2.1 hd (k p l e R s m args below meth c D cA A ad H locs cells slots Qm ls C h1 h2 h3 h4 V hL (hS.cons trivial) F)
theorem r_iload_n {i : Fin 4} {x : Int32} (hd : decode y.2.1 pc = .ok (.iload_n i, 1)) (hl : L[(i : Nat)]? = some (some (.int x))) (k : wp d kc ks y (pc + 1) L (.int x :: st) M Q) : wp d kc ks y pc L st M Q := by
  intro p l e R s m args below meth c D cA A ad H locs cells slots Qm ls C h1 h2 h3 h4 V hL hS F
  exact lv_iload_n C.1 C.2.1 hd rfl (hL.2.2 _ _ hl).1 (k p l e R s m args below meth c D cA A ad H locs cells slots Qm ls C h1 h2 h3 h4 V hL (hS.cons trivial) F)
theorem r_iload {i : Nat} {x : Int32} (hd : decode y.2.1 pc = .ok (.iload i, 2)) (hl : L[i]? = some (some (.int x))) (k : wp d kc ks y (pc + 2) L (.int x :: st) M Q) : wp d kc ks y pc L st M Q := by
  intro p l e R s m args below meth c D cA A ad H locs cells slots Qm ls C h1 h2 h3 h4 V hL hS F
  exact lv_iload C.1 C.2.1 hd (hL.2.2 _ _ hl).1 (k p l e R s m args below meth c D cA A ad H locs cells slots Qm ls C h1 h2 h3 h4 V hL (hS.cons trivial) F)
theorem r_lload_n {i : Fin 4} {x : Int64} (hd : decode y.2.1 pc = .ok (.lload_n i, 1)) (hl : L[(i : Nat)]? = some (some (.long x))) (k : wp d kc ks y (pc + 1) L (.long x :: st) M Q) : wp d kc ks y pc L st M Q := by
  intro p l e R s m args below meth c D cA A ad H locs cells slots Qm ls C h1 h2 h3 h4 V hL hS F
  exact lv_lload_n C.1 C.2.1 hd rfl (hL.2.2 _ _ hl).1 (k p l e R s m args below meth c D cA A ad H locs cells slots Qm ls C h1 h2 h3 h4 V hL (hS.cons trivial) F)
theorem r_lload {i : Nat} {x : Int64} (hd : decode y.2.1 pc = .ok (.lload i, 2)) (hl : L[i]? = some (some (.long x))) (k : wp d kc ks y (pc + 2) L (.long x :: st) M Q) : wp d kc ks y pc L st M Q := by
  intro p l e R s m args below meth c D cA A ad H locs cells slots Qm ls C h1 h2 h3 h4 V hL hS F
  exact lv_lload C.1 C.2.1 hd (hL.2.2 _ _ hl).1 (k p l e R s m args below meth c D cA A ad H locs cells slots Qm ls C h1 h2 h3 h4 V hL (hS.cons trivial) F)
theorem r_aload_n {i : Fin 4} {x : Nat} (hd : decode y.2.1 pc = .ok (.aload_n i, 1)) (hl : L[(i : Nat)]? = some (some (.ref x))) (k : wp d kc ks y (pc + 1) L (.ref x :: st) M Q) : wp d kc ks y pc L st M Q := by
  intro p l e R s m args below meth c D cA A ad H locs cells slots Qm ls C h1 h2 h3 h4 V hL hS F
  exact lv_aload_n C.1 C.2.1 hd rfl (hL.2.2 _ _ hl).1 (k p l e R s m args below meth c D cA A ad H locs cells slots Qm ls C h1 h2 h3 h4 V hL (hS.cons (hL.2.2 _ _ hl).2) F)
theorem r_aload {i : Nat} {x : Nat} (hd : decode y.2.1 pc = .ok (.aload i, 2)) (hl : L[i]? = some (some (.ref x))) (k : wp d kc ks y (pc + 2) L (.ref x :: st) M Q) : wp d kc ks y pc L st M Q := by
  intro p l e R s m args below meth c D cA A ad H locs cells slots Qm ls C h1 h2 h3 h4 V hL hS F
  exact lv_aload C.1 C.2.1 hd (hL.2.2 _ _ hl).1 (k p l e R s m args below meth c D cA A ad H locs cells slots Qm ls C h1 h2 h3 h4 V hL (hS.cons (hL.2.2 _ _ hl).2) F)
theorem r_aload_nN {i : Fin 4} (hd : decode y.2.1 pc = .ok (.aload_n i, 1)) (hl : L[(i : Nat)]? = some (some .null)) (k : wp d kc ks y (pc + 1) L (.null :: st) M Q) : wp d kc ks y pc L st M Q := by
  intro p l e R s m args below meth c D cA A ad H locs cells slots Qm ls C h1 h2 h3 h4 V hL hS F
  exact lv_aload_nN C.1 C.2.1 hd rfl (hL.2.2 _ _ hl).1 (k p l e R s m args below meth c D cA A ad H locs cells slots Qm ls C h1 h2 h3 h4 V hL (hS.cons trivial) F)
theorem r_aloadN {i : Nat} (hd : decode y.2.1 pc = .ok (.aload i, 2)) (hl : L[i]? = some (some .null)) (k : wp d kc ks y (pc + 2) L (.null :: st) M Q) : wp d kc ks y pc L st M Q := by
  intro p l e R s m args below meth c D cA A ad H locs cells slots Qm ls C h1 h2 h3 h4 V hL hS F
  exact lv_aloadN C.1 C.2.1 hd (hL.2.2 _ _ hl).1 (k p l e R s m args below meth c D cA A ad H locs cells slots Qm ls C h1 h2 h3 h4 V hL (hS.cons trivial) F)
theorem r_istore_n {i : Fin 4} {x : Int32} (hd : decode y.2.1 pc = .ok (.istore_n i, 1)) (hi : (i : Nat) < y.2.2.1) (hn : nolg L (i : Nat) = true) (he : (L.set (i : Nat) (some (.int x))) = L') (k : wp d kc ks y (pc + 1) L' st M Q) : wp d kc ks y pc L (.int x :: st) M Q := by
  subst he
  intro p l e R s m args below meth c D cA A ad H locs cells slots Qm ls C h1 h2 h3 h4 V hL hS F
  exact lv_istore_n (lv := lvl ad L) C.1 C.2.1 hd rfl hL.has hi rfl (fun ls' h' => k p l e R s m args below meth c D cA A ad H locs cells slots Qm ls' C h1 h2 h3 h4 V (hL.st1 hn hS.hd h') hS.tl F)
theorem r_istore {i : Nat} {x : Int32} (hd : decode y.2.1 pc = .ok (.istore i, 2)) (hi : i < y.2.2.1) (hn : nolg L i = true) (he : (L.set i (some (.int x))) = L') (k : wp d kc ks y (pc + 2) L' st M Q) : wp d kc ks y pc L (.int x :: st) M Q := by
  subst he
  intro p l e R s m args below meth c D cA A ad H locs cells slots Qm ls C h1 h2 h3 h4 V hL hS F
  exact lv_istore (lv := lvl ad L) C.1 C.2.1 hd hL.has hi rfl (fun ls' h' => k p l e R s m args below meth c D cA A ad H locs cells slots Qm ls' C h1 h2 h3 h4 V (hL.st1 hn hS.hd h') hS.tl F)
theorem r_astore_n {i : Fin 4} {x : Nat} (hd : decode y.2.1 pc = .ok (.astore_n i, 1)) (hi : (i : Nat) < y.2.2.1) (hn : nolg L (i : Nat) = true) (he : (L.set (i : Nat) (some (.ref x))) = L') (k : wp d kc ks y (pc + 1) L' st M Q) : wp d kc ks y pc L (.ref x :: st) M Q := by
  subst he
  intro p l e R s m args below meth c D cA A ad H locs cells slots Qm ls C h1 h2 h3 h4 V hL hS F
  exact lv_astore_n (lv := lvl ad L) C.1 C.2.1 hd rfl hL.has hi rfl (fun ls' h' => k p l e R s m args below meth c D cA A ad H locs cells slots Qm ls' C h1 h2 h3 h4 V (hL.st1 hn hS.hd h') hS.tl F)
theorem r_astore {i : Nat} {x : Nat} (hd : decode y.2.1 pc = .ok (.astore i, 2)) (hi : i < y.2.2.1) (hn : nolg L i = true) (he : (L.set i (some (.ref x))) = L') (k : wp d kc ks y (pc + 2) L' st M Q) : wp d kc ks y pc L (.ref x :: st) M Q := by
  subst he
  intro p l e R s m args below meth c D cA A ad H locs cells slots Qm ls C h1 h2 h3 h4 V hL hS F
  exact lv_astore (lv := lvl ad L) C.1 C.2.1 hd hL.has hi rfl (fun ls' h' => k p l e R s m args below meth c D cA A ad H locs cells slots Qm ls' C h1 h2 h3 h4 V (hL.st1 hn hS.hd h') hS.tl F)
theorem r_lstore_n {i : Fin 4} {x : Int64} (hd : decode y.2.1 pc = .ok (.lstore_n i, 1)) (hi : (i : Nat) + 1 < y.2.2.1) (hn : nolg L (i : Nat) = true) (he : ((L.set (i : Nat) (some (.long x))).set ((i : Nat) + 1) none) = L') (k : wp d kc ks y (pc + 1) L' st M Q) : wp d kc ks y pc L (.long x :: st) M Q := by
  subst he
  intro p l e R s m args below meth c D cA A ad H locs cells slots Qm ls C h1 h2 h3 h4 V hL hS F
  exact lv_lstore_n (lv := lvl ad L) C.1 C.2.1 hd rfl hL.has hi rfl (fun ls' h' => k p l e R s m args below meth c D cA A ad H locs cells slots Qm ls' C h1 h2 h3 h4 V (hL.st2 hn hS.hd h') hS.tl F)
theorem r_lstore {i : Nat} {x : Int64} (hd : decode y.2.1 pc = .ok (.lstore i, 2)) (hi : i + 1 < y.2.2.1) (hn : nolg L i = true) (he : ((L.set i (some (.long x))).set (i + 1) none) = L') (k : wp d kc ks y (pc + 2) L' st M Q) : wp d kc ks y pc L (.long x :: st) M Q := by
  subst he
  intro p l e R s m args below meth c D cA A ad H locs cells slots Qm ls C h1 h2 h3 h4 V hL hS F
  exact lv_lstore (lv := lvl ad L) C.1 C.2.1 hd hL.has hi rfl (fun ls' h' => k p l e R s m args below meth c D cA A ad H locs cells slots Qm ls' C h1 h2 h3 h4 V (hL.st2 hn hS.hd h') hS.tl F)
theorem r_astore_nN {i : Fin 4} (hd : decode y.2.1 pc = .ok (.astore_n i, 1)) (hi : (i : Nat) < y.2.2.1) (hn : nolg L (i : Nat) = true) (he : (L.set (i : Nat) (some (.null))) = L') (k : wp d kc ks y (pc + 1) L' st M Q) : wp d kc ks y pc L (.null :: st) M Q := by
  subst he
  intro p l e R s m args below meth c D cA A ad H locs cells slots Qm ls C h1 h2 h3 h4 V hL hS F
  exact lv_astore_nN (lv := lvl ad L) C.1 C.2.1 hd rfl hL.has hi rfl (fun ls' h' => k p l e R s m args below meth c D cA A ad H locs cells slots Qm ls' C h1 h2 h3 h4 V (hL.st1 hn hS.hd h') hS.tl F)
theorem r_astoreN {i : Nat} (hd : decode y.2.1 pc = .ok (.astore i, 2)) (hi : i < y.2.2.1) (hn : nolg L i = true) (he : (L.set i (some (.null))) = L') (k : wp d kc ks y (pc + 2) L' st M Q) : wp d kc ks y pc L (.null :: st) M Q := by
  subst he
  intro p l e R s m args below meth c D cA A ad H locs cells slots Qm ls C h1 h2 h3 h4 V hL hS F
  exact lv_astoreN (lv := lvl ad L) C.1 C.2.1 hd hL.has hi rfl (fun ls' h' => k p l e R s m args below meth c D cA A ad H locs cells slots Qm ls' C h1 h2 h3 h4 V (hL.st1 hn hS.hd h') hS.tl F)
theorem r_iinc {i : Nat} {n : Int} {x v : Int32} (hd : decode y.2.1 pc = .ok (.iinc i n, 3)) (hl : L[i]? = some (some (.int x))) (hv : x + Int32.ofInt n = v) (hi : i < y.2.2.1) (hn : nolg L i = true) (he : L.set i (some (.int v)) = L') (k : wp d kc ks y (pc + 3) L' st M Q) : wp d kc ks y pc L st M Q := by
  subst he
  intro p l e R s m args below meth c D cA A ad H locs cells slots Qm ls C h1 h2 h3 h4 V hL hS F
  obtain ⟨j, hj⟩ := List.getElem?_of_mem (lvl_mem.mpr ⟨_, hl, rfl⟩ : (i, tr ad (.int x)) ∈ lvl ad L)
  exact lv_iinc (lv := lvl ad L) (k := j) C.1 C.2.1 hd hL.has hj hv hi rfl (fun ls' h' => k p l e R s m args below meth c D cA A ad H locs cells slots Qm ls' C h1 h2 h3 h4 V (hL.st1 (v := .int v) hn trivial h') hS F)
theorem r_iadd {x z : Int32} (hd : decode y.2.1 pc = .ok (.iadd, 1)) (k : wp d kc ks y (pc + 1) L (.int (x + z) :: st) M Q) : wp d kc ks y pc L (.int z :: .int x :: st) M Q := by
  intro p l e R s m args below meth c D cA A ad H locs cells slots Qm ls C h1 h2 h3 h4 V hL hS F
  exact lv_iadd C.1 C.2.1 hd (k p l e R s m args below meth c D cA A ad H locs cells slots Qm ls C h1 h2 h3 h4 V hL (hS.tl.tl.cons trivial) F)
theorem r_isub {x z : Int32} (hd : decode y.2.1 pc = .ok (.isub, 1)) (k : wp d kc ks y (pc + 1) L (.int (x - z) :: st) M Q) : wp d kc ks y pc L (.int z :: .int x :: st) M Q := by
  intro p l e R s m args below meth c D cA A ad H locs cells slots Qm ls C h1 h2 h3 h4 V hL hS F
  exact lv_isub C.1 C.2.1 hd (k p l e R s m args below meth c D cA A ad H locs cells slots Qm ls C h1 h2 h3 h4 V hL (hS.tl.tl.cons trivial) F)
theorem r_imul {x z : Int32} (hd : decode y.2.1 pc = .ok (.imul, 1)) (k : wp d kc ks y (pc + 1) L (.int (x * z) :: st) M Q) : wp d kc ks y pc L (.int z :: .int x :: st) M Q := by
  intro p l e R s m args below meth c D cA A ad H locs cells slots Qm ls C h1 h2 h3 h4 V hL hS F
  exact lv_imul C.1 C.2.1 hd (k p l e R s m args below meth c D cA A ad H locs cells slots Qm ls C h1 h2 h3 h4 V hL (hS.tl.tl.cons trivial) F)
theorem r_iand {x z : Int32} (hd : decode y.2.1 pc = .ok (.iand, 1)) (k : wp d kc ks y (pc + 1) L (.int (x &&& z) :: st) M Q) : wp d kc ks y pc L (.int z :: .int x :: st) M Q := by
  intro p l e R s m args below meth c D cA A ad H locs cells slots Qm ls C h1 h2 h3 h4 V hL hS F
  exact lv_iand C.1 C.2.1 hd (k p l e R s m args below meth c D cA A ad H locs cells slots Qm ls C h1 h2 h3 h4 V hL (hS.tl.tl.cons trivial) F)
theorem r_ior {x z : Int32} (hd : decode y.2.1 pc = .ok (.ior, 1)) (k : wp d kc ks y (pc + 1) L (.int (x ||| z) :: st) M Q) : wp d kc ks y pc L (.int z :: .int x :: st) M Q := by
  intro p l e R s m args below meth c D cA A ad H locs cells slots Qm ls C h1 h2 h3 h4 V hL hS F
  exact lv_ior C.1 C.2.1 hd (k p l e R s m args below meth c D cA A ad H locs cells slots Qm ls C h1 h2 h3 h4 V hL (hS.tl.tl.cons trivial) F)
theorem r_ixor {x z : Int32} (hd : decode y.2.1 pc = .ok (.ixor, 1)) (k : wp d kc ks y (pc + 1) L (.int (x ^^^ z) :: st) M Q) : wp d kc ks y pc L (.int z :: .int x :: st) M Q := by
  intro p l e R s m args below meth c D cA A ad H locs cells slots Qm ls C h1 h2 h3 h4 V hL hS F
  exact lv_ixor C.1 C.2.1 hd (k p l e R s m args below meth c D cA A ad H locs cells slots Qm ls C h1 h2 h3 h4 V hL (hS.tl.tl.cons trivial) F)
theorem r_ishl {x z : Int32} (hd : decode y.2.1 pc = .ok (.ishl, 1)) (k : wp d kc ks y (pc + 1) L (.int (x <<< (z &&& 31)) :: st) M Q) : wp d kc ks y pc L (.int z :: .int x :: st) M Q := by
  intro p l e R s m args below meth c D cA A ad H locs cells slots Qm ls C h1 h2 h3 h4 V hL hS F
  exact lv_ishl C.1 C.2.1 hd (k p l e R s m args below meth c D cA A ad H locs cells slots Qm ls C h1 h2 h3 h4 V hL (hS.tl.tl.cons trivial) F)
theorem r_ishr {x z : Int32} (hd : decode y.2.1 pc = .ok (.ishr, 1)) (k : wp d kc ks y (pc + 1) L (.int (x >>> (z &&& 31)) :: st) M Q) : wp d kc ks y pc L (.int z :: .int x :: st) M Q := by
  intro p l e R s m args below meth c D cA A ad H locs cells slots Qm ls C h1 h2 h3 h4 V hL hS F
  exact lv_ishr C.1 C.2.1 hd (k p l e R s m args below meth c D cA A ad H locs cells slots Qm ls C h1 h2 h3 h4 V hL (hS.tl.tl.cons trivial) F)
theorem r_idiv {x z : Int32} (hd : decode y.2.1 pc = .ok (.idiv, 1)) (hz : ¬ z = 0) (k : wp d kc ks y (pc + 1) L (.int (x / z) :: st) M Q) : wp d kc ks y pc L (.int z :: .int x :: st) M Q := by
  intro p l e R s m args below meth c D cA A ad H locs cells slots Qm ls C h1 h2 h3 h4 V hL hS F
  exact lv_idiv C.1 C.2.1 hd hz (k p l e R s m args below meth c D cA A ad H locs cells slots Qm ls C h1 h2 h3 h4 V hL (hS.tl.tl.cons trivial) F)
theorem r_irem {x z : Int32} (hd : decode y.2.1 pc = .ok (.irem, 1)) (hz : ¬ z = 0) (k : wp d kc ks y (pc + 1) L (.int (x - x / z * z) :: st) M Q) : wp d kc ks y pc L (.int z :: .int x :: st) M Q := by
  intro p l e R s m args below meth c D cA A ad H locs cells slots Qm ls C h1 h2 h3 h4 V hL hS F
  exact lv_irem C.1 C.2.1 hd hz (k p l e R s m args below meth c D cA A ad H locs cells slots Qm ls C h1 h2 h3 h4 V hL (hS.tl.tl.cons trivial) F)
theorem r_ineg {x : Int32} (hd : decode y.2.1 pc = .ok (.ineg, 1)) (k : wp d kc ks y (pc + 1) L (.int (-x) :: st) M Q) : wp d kc ks y pc L (.int x :: st) M Q := by
  intro p l e R s m args below meth c D cA A ad H locs cells slots Qm ls C h1 h2 h3 h4 V hL hS F
  exact lv_ineg C.1 C.2.1 hd (k p l e R s m args below meth c D cA A ad H locs cells slots Qm ls C h1 h2 h3 h4 V hL (hS.tl.cons trivial) F)
theorem r_lmul {x z : Int64} (hd : decode y.2.1 pc = .ok (.lmul, 1)) (k : wp d kc ks y (pc + 1) L (.long (x * z) :: st) M Q) : wp d kc ks y pc L (.long z :: .long x :: st) M Q := by
  intro p l e R s m args below meth c D cA A ad H locs cells slots Qm ls C h1 h2 h3 h4 V hL hS F
  exact lv_lmul C.1 C.2.1 hd (k p l e R s m args below meth c D cA A ad H locs cells slots Qm ls C h1 h2 h3 h4 V hL (hS.tl.tl.cons trivial) F)
theorem r_ldiv {x z : Int64} (hd : decode y.2.1 pc = .ok (.ldiv, 1)) (hz : ¬ z = 0) (k : wp d kc ks y (pc + 1) L (.long (x / z) :: st) M Q) : wp d kc ks y pc L (.long z :: .long x :: st) M Q := by
  intro p l e R s m args below meth c D cA A ad H locs cells slots Qm ls C h1 h2 h3 h4 V hL hS F
  exact lv_ldiv C.1 C.2.1 hd hz (k p l e R s m args below meth c D cA A ad H locs cells slots Qm ls C h1 h2 h3 h4 V hL (hS.tl.tl.cons trivial) F)
theorem r_lcmp {x z : Int64} (hd : decode y.2.1 pc = .ok (.lcmp, 1)) (k : wp d kc ks y (pc + 1) L (.int (lg_cmp x z) :: st) M Q) : wp d kc ks y pc L (.long z :: .long x :: st) M Q := by
  intro p l e R s m args below meth c D cA A ad H locs cells slots Qm ls C h1 h2 h3 h4 V hL hS F
  exact W.lcmp C.1 C.2.1 hd (k p l e R s m args below meth c D cA A ad H locs cells slots Qm ls C h1 h2 h3 h4 V hL (hS.tl.tl.cons trivial) F)
theorem r_i2l {x : Int32} (hd : decode y.2.1 pc = .ok (.i2l, 1)) (k : wp d kc ks y (pc + 1) L (.long x.toInt64 :: st) M Q) : wp d kc ks y pc L (.int x :: st) M Q := by
  intro p l e R s m args below meth c D cA A ad H locs cells slots Qm ls C h1 h2 h3 h4 V hL hS F
  exact lv_i2l C.1 C.2.1 hd rfl (k p l e R s m args below meth c D cA A ad H locs cells slots Qm ls C h1 h2 h3 h4 V hL (hS.tl.cons trivial) F)
theorem r_l2i {x : Int64} (hd : decode y.2.1 pc = .ok (.l2i, 1)) (k : wp d kc ks y (pc + 1) L (.int x.toInt32 :: st) M Q) : wp d kc ks y pc L (.long x :: st) M Q := by
  intro p l e R s m args below meth c D cA A ad H locs cells slots Qm ls C h1 h2 h3 h4 V hL hS F
  exact lv_l2i C.1 C.2.1 hd rfl (k p l e R s m args below meth c D cA A ad H locs cells slots Qm ls C h1 h2 h3 h4 V hL (hS.tl.cons trivial) F)
theorem r_i2b {x : Int32} (hd : decode y.2.1 pc = .ok (.i2b, 1)) (k : wp d kc ks y (pc + 1) L (.int x.toInt8.toInt32 :: st) M Q) : wp d kc ks y pc L (.int x :: st) M Q := by
  intro p l e R s m args below meth c D cA A ad H locs cells slots Qm ls C h1 h2 h3 h4 V hL hS F
  exact lv_i2b C.1 C.2.1 hd rfl (k p l e R s m args below meth c D cA A ad H locs cells slots Qm ls C h1 h2 h3 h4 V hL (hS.tl.cons trivial) F)
theorem r_dup {v : Value} (hd : decode y.2.1 pc = .ok (.dup, 1)) (hc : v.category = 1) (k : wp d kc ks y (pc + 1) L (v :: v :: st) M Q) : wp d kc ks y pc L (v :: st) M Q := by
  intro p l e R s m args below meth c D cA A ad H locs cells slots Qm ls C h1 h2 h3 h4 V hL hS F
  exact lv_dup C.1 C.2.1 hd (by rw [tr_cat]; exact hc) (k p l e R s m args below meth c D cA A ad H locs cells slots Qm ls C h1 h2 h3 h4 V hL (hS.cons hS.hd) F)
theorem r_dup2 {v w : Value} (hd : decode y.2.1 pc = .ok (.dup2, 1)) (hc : v.category = 1) (hc2 : w.category = 1) (k : wp d kc ks y (pc + 1) L (v :: w :: v :: w :: st) M Q) : wp d kc ks y pc L (v :: w :: st) M Q := by
  intro p l e R s m args below meth c D cA A ad H locs cells slots Qm ls C h1 h2 h3 h4 V hL hS F
  exact lv_dup2_11 C.1 C.2.1 hd (by rw [tr_cat]; exact hc) (by rw [tr_cat]; exact hc2) (k p l e R s m args below meth c D cA A ad H locs cells slots Qm ls C h1 h2 h3 h4 V hL ((hS.cons hS.tl.hd).cons hS.hd) F)
theorem r_pop {v : Value} (hd : decode y.2.1 pc = .ok (.pop, 1)) (hc : v.category = 1) (k : wp d kc ks y (pc + 1) L st M Q) : wp d kc ks y pc L (v :: st) M Q := by
  intro p l e R s m args below meth c D cA A ad H locs cells slots Qm ls C h1 h2 h3 h4 V hL hS F
  exact lv_pop C.1 C.2.1 hd (by rw [tr_cat]; exact hc) (k p l e R s m args below meth c D cA A ad H locs cells slots Qm ls C h1 h2 h3 h4 V hL hS.tl F)
theorem r_if_eq {x : Int32} {off : Int} {tgt : Nat} (hd : decode y.2.1 pc = .ok (.ifCond .eq off, 3)) (ht : (pc : Int) + off = (tgt : Int)) (kt : x = 0 → wp d kc ks y tgt L st M Q) (kf : ¬ x = 0 → wp d kc ks y (pc + 3) L st M Q) : wp d kc ks y pc L (.int x :: st) M Q := by
  intro p l e R s m args below meth c D cA A ad H locs cells slots Qm ls C h1 h2 h3 h4 V hL hS F
  exact lv_if_eq C.1 C.2.1 hd ht (fun q => (kt q p l e R s m args below meth c D cA A ad H locs cells slots Qm ls C h1 h2 h3 h4 V hL hS.tl F)) (fun q => (kf q p l e R s m args below meth c D cA A ad H locs cells slots Qm ls C h1 h2 h3 h4 V hL hS.tl F))
theorem r_icmp_eq {x z : Int32} {off : Int} {tgt : Nat} (hd : decode y.2.1 pc = .ok (.if_icmp .eq off, 3)) (ht : (pc : Int) + off = (tgt : Int)) (kt : x = z → wp d kc ks y tgt L st M Q) (kf : ¬ x = z → wp d kc ks y (pc + 3) L st M Q) : wp d kc ks y pc L (.int z :: .int x :: st) M Q := by
  intro p l e R s m args below meth c D cA A ad H locs cells slots Qm ls C h1 h2 h3 h4 V hL hS F
  exact lv_icmp_eq C.1 C.2.1 hd ht (fun q => (kt q p l e R s m args below meth c D cA A ad H locs cells slots Qm ls C h1 h2 h3 h4 V hL hS.tl.tl F)) (fun q => (kf q p l e R s m args below meth c D cA A ad H locs cells slots Qm ls C h1 h2 h3 h4 V hL hS.tl.tl F))
theorem r_if_ne {x : Int32} {off : Int} {tgt : Nat} (hd : decode y.2.1 pc = .ok (.ifCond .ne off, 3)) (ht : (pc : Int) + off = (tgt : Int)) (kt : ¬ x = 0 → wp d kc ks y tgt L st M Q) (kf : x = 0 → wp d kc ks y (pc + 3) L st M Q) : wp d kc ks y pc L (.int x :: st) M Q := by
  intro p l e R s m args below meth c D cA A ad H locs cells slots Qm ls C h1 h2 h3 h4 V hL hS F
  exact lv_if_ne C.1 C.2.1 hd ht (fun q => (kt q p l e R s m args below meth c D cA A ad H locs cells slots Qm ls C h1 h2 h3 h4 V hL hS.tl F)) (fun q => (kf q p l e R s m args below meth c D cA A ad H locs cells slots Qm ls C h1 h2 h3 h4 V hL hS.tl F))
theorem r_icmp_ne {x z : Int32} {off : Int} {tgt : Nat} (hd : decode y.2.1 pc = .ok (.if_icmp .ne off, 3)) (ht : (pc : Int) + off = (tgt : Int)) (kt : ¬ x = z → wp d kc ks y tgt L st M Q) (kf : x = z → wp d kc ks y (pc + 3) L st M Q) : wp d kc ks y pc L (.int z :: .int x :: st) M Q := by
  intro p l e R s m args below meth c D cA A ad H locs cells slots Qm ls C h1 h2 h3 h4 V hL hS F
  exact lv_icmp_ne C.1 C.2.1 hd ht (fun q => (kt q p l e R s m args below meth c D cA A ad H locs cells slots Qm ls C h1 h2 h3 h4 V hL hS.tl.tl F)) (fun q => (kf q p l e R s m args below meth c D cA A ad H locs cells slots Qm ls C h1 h2 h3 h4 V hL hS.tl.tl F))
theorem r_if_lt {x : Int32} {off : Int} {tgt : Nat} (hd : decode y.2.1 pc = .ok (.ifCond .lt off, 3)) (ht : (pc : Int) + off = (tgt : Int)) (kt : x < 0 → wp d kc ks y tgt L st M Q) (kf : ¬ x < 0 → wp d kc ks y (pc + 3) L st M Q) : wp d kc ks y pc L (.int x :: st) M Q := by
  intro p l e R s m args below meth c D cA A ad H locs cells slots Qm ls C h1 h2 h3 h4 V hL hS F
  exact lv_if_lt C.1 C.2.1 hd ht (fun q => (kt q p l e R s m args below meth c D cA A ad H locs cells slots Qm ls C h1 h2 h3 h4 V hL hS.tl F)) (fun q => (kf q p l e R s m args below meth c D cA A ad H locs cells slots Qm ls C h1 h2 h3 h4 V hL hS.tl F))
theorem r_icmp_lt {x z : Int32} {off : Int} {tgt : Nat} (hd : decode y.2.1 pc = .ok (.if_icmp .lt off, 3)) (ht : (pc : Int) + off = (tgt : Int)) (kt : x < z → wp d kc ks y tgt L st M Q) (kf : ¬ x < z → wp d kc ks y (pc + 3) L st M Q) : wp d kc ks y pc L (.int z :: .int x :: st) M Q := by
  intro p l e R s m args below meth c D cA A ad H locs cells slots Qm ls C h1 h2 h3 h4 V hL hS F
  exact lv_icmp_lt C.1 C.2.1 hd ht (fun q => (kt q p l e R s m args below meth c D cA A ad H locs cells slots Qm ls C h1 h2 h3 h4 V hL hS.tl.tl F)) (fun q => (kf q p l e R s m args below meth c D cA A ad H locs cells slots Qm ls C h1 h2 h3 h4 V hL hS.tl.tl F))
theorem r_if_ge {x : Int32} {off : Int} {tgt : Nat} (hd : decode y.2.1 pc = .ok (.ifCond .ge off, 3)) (ht : (pc : Int) + off = (tgt : Int)) (kt : 0 ≤ x → wp d kc ks y tgt L st M Q) (kf : ¬ 0 ≤ x → wp d kc ks y (pc + 3) L st M Q) : wp d kc ks y pc L (.int x :: st) M Q := by
  intro p l e R s m args below meth c D cA A ad H locs cells slots Qm ls C h1 h2 h3 h4 V hL hS F
  exact lv_if_ge C.1 C.2.1 hd ht (fun q => (kt q p l e R s m args below meth c D cA A ad H locs cells slots Qm ls C h1 h2 h3 h4 V hL hS.tl F)) (fun q => (kf q p l e R s m args below meth c D cA A ad H locs cells slots Qm ls C h1 h2 h3 h4 V hL hS.tl F))
theorem r_icmp_ge {x z : Int32} {off : Int} {tgt : Nat} (hd : decode y.2.1 pc = .ok (.if_icmp .ge off, 3)) (ht : (pc : Int) + off = (tgt : Int)) (kt : z ≤ x → wp d kc ks y tgt L st M Q) (kf : ¬ z ≤ x → wp d kc ks y (pc + 3) L st M Q) : wp d kc ks y pc L (.int z :: .int x :: st) M Q := by
  intro p l e R s m args below meth c D cA A ad H locs cells slots Qm ls C h1 h2 h3 h4 V hL hS F
  exact lv_icmp_ge C.1 C.2.1 hd ht (fun q => (kt q p l e R s m args below meth c D cA A ad H locs cells slots Qm ls C h1 h2 h3 h4 V hL hS.tl.tl F)) (fun q => (kf q p l e R s m args below meth c D cA A ad H locs cells slots Qm ls C h1 h2 h3 h4 V hL hS.tl.tl F))
theorem r_if_gt {x : Int32} {off : Int} {tgt : Nat} (hd : decode y.2.1 pc = .ok (.ifCond .gt off, 3)) (ht : (pc : Int) + off = (tgt : Int)) (kt : 0 < x → wp d kc ks y tgt L st M Q) (kf : ¬ 0 < x → wp d kc ks y (pc + 3) L st M Q) : wp d kc ks y pc L (.int x :: st) M Q := by
  intro p l e R s m args below meth c D cA A ad H locs cells slots Qm ls C h1 h2 h3 h4 V hL hS F
  exact lv_if_gt C.1 C.2.1 hd ht (fun q => (kt q p l e R s m args below meth c D cA A ad H locs cells slots Qm ls C h1 h2 h3 h4 V hL hS.tl F)) (fun q => (kf q p l e R s m args below meth c D cA A ad H locs cells slots Qm ls C h1 h2 h3 h4 V hL hS.tl F))
theorem r_icmp_gt {x z : Int32} {off : Int} {tgt : Nat} (hd : decode y.2.1 pc = .ok (.if_icmp .gt off, 3)) (ht : (pc : Int) + off = (tgt : Int)) (kt : z < x → wp d kc ks y tgt L st M Q) (kf : ¬ z < x → wp d kc ks y (pc + 3) L st M Q) : wp d kc ks y pc L (.int z :: .int x :: st) M Q := by
  intro p l e R s m args below meth c D cA A ad H locs cells slots Qm ls C h1 h2 h3 h4 V hL hS F
  exact lv_icmp_gt C.1 C.2.1 hd ht (fun q => (kt q p l e R s m args below meth c D cA A ad H locs cells slots Qm ls C h1 h2 h3 h4 V hL hS.tl.tl F)) (fun q => (kf q p l e R s m args below meth c D cA A ad H locs cells slots Qm ls C h1 h2 h3 h4 V hL hS.tl.tl F))
theorem r_if_le {x : Int32} {off : Int} {tgt : Nat} (hd : decode y.2.1 pc = .ok (.ifCond .le off, 3)) (ht : (pc : Int) + off = (tgt : Int)) (kt : x ≤ 0 → wp d kc ks y tgt L st M Q) (kf : ¬ x ≤ 0 → wp d kc ks y (pc + 3) L st M Q) : wp d kc ks y pc L (.int x :: st) M Q := by
  intro p l e R s m args below meth c D cA A ad H locs cells slots Qm ls C h1 h2 h3 h4 V hL hS F
  exact lv_if_le C.1 C.2.1 hd ht (fun q => (kt q p l e R s m args below meth c D cA A ad H locs cells slots Qm ls C h1 h2 h3 h4 V hL hS.tl F)) (fun q => (kf q p l e R s m args below meth c D cA A ad H locs cells slots Qm ls C h1 h2 h3 h4 V hL hS.tl F))
theorem r_icmp_le {x z : Int32} {off : Int} {tgt : Nat} (hd : decode y.2.1 pc = .ok (.if_icmp .le off, 3)) (ht : (pc : Int) + off = (tgt : Int)) (kt : x ≤ z → wp d kc ks y tgt L st M Q) (kf : ¬ x ≤ z → wp d kc ks y (pc + 3) L st M Q) : wp d kc ks y pc L (.int z :: .int x :: st) M Q := by
  intro p l e R s m args below meth c D cA A ad H locs cells slots Qm ls C h1 h2 h3 h4 V hL hS F
  exact lv_icmp_le C.1 C.2.1 hd ht (fun q => (kt q p l e R s m args below meth c D cA A ad H locs cells slots Qm ls C h1 h2 h3 h4 V hL hS.tl.tl F)) (fun q => (kf q p l e R s m args below meth c D cA A ad H locs cells slots Qm ls C h1 h2 h3 h4 V hL hS.tl.tl F))
theorem r_goto {off : Int} {tgt : Nat} (hd : decode y.2.1 pc = .ok (.goto off, 3)) (ht : (pc : Int) + off = (tgt : Int)) (k : wp d kc ks y tgt L st M Q) : wp d kc ks y pc L st M Q := by
  intro p l e R s m args below meth c D cA A ad H locs cells slots Qm ls C h1 h2 h3 h4 V hL hS F
  exact lv_goto C.1 C.2.1 hd ht (k p l e R s m args below meth c D cA A ad H locs cells slots Qm ls C h1 h2 h3 h4 V hL hS F)
theorem r_ifnullR {x : Nat} {off : Int} (hd : decode y.2.1 pc = .ok (.ifnull off, 3)) (k : wp d kc ks y (pc + 3) L st M Q) : wp d kc ks y pc L (.ref x :: st) M Q := by
  intro p l e R s m args below meth c D cA A ad H locs cells slots Qm ls C h1 h2 h3 h4 V hL hS F
  exact lv_ifnull C.1 C.2.1 hd (k p l e R s m args below meth c D cA A ad H locs cells slots Qm ls C h1 h2 h3 h4 V hL hS.tl F)
theorem r_ifnullN {off : Int} {tgt : Nat} (hd : decode y.2.1 pc = .ok (.ifnull off, 3)) (ht : (pc : Int) + off = (tgt : Int)) (k : wp d kc ks y tgt L st M Q) : wp d kc ks y pc L (.null :: st) M Q := by
  intro p l e R s m args below meth c D cA A ad H locs cells slots Qm ls C h1 h2 h3 h4 V hL hS F
  exact lv_ifnullN C.1 C.2.1 hd ht (k p l e R s m args below meth c D cA A ad H locs cells slots Qm ls C h1 h2 h3 h4 V hL hS.tl F)
theorem r_ifnonnullR {x : Nat} {off : Int} {tgt : Nat} (hd : decode y.2.1 pc = .ok (.ifnonnull off, 3)) (ht : (pc : Int) + off = (tgt : Int)) (k : wp d kc ks y tgt L st M Q) : wp d kc ks y pc L (.ref x :: st) M Q := by
  intro p l e R s m args below meth c D cA A ad H locs cells slots Qm ls C h1 h2 h3 h4 V hL hS F
  exact lv_ifnonnull C.1 C.2.1 hd ht (k p l e R s m args below meth c D cA A ad H locs cells slots Qm ls C h1 h2 h3 h4 V hL hS.tl F)
theorem r_ifnonnullN {off : Int} (hd : decode y.2.1 pc = .ok (.ifnonnull off, 3)) (k : wp d kc ks y (pc + 3) L st M Q) : wp d kc ks y pc L (.null :: st) M Q := by
  intro p l e R s m args below meth c D cA A ad H locs cells slots Qm ls C h1 h2 h3 h4 V hL hS F
  exact lv_ifnonnullN C.1 C.2.1 hd (k p l e R s m args below meth c D cA A ad H locs cells slots Qm ls C h1 h2 h3 h4 V hL hS.tl F)
theorem ad_inj {s : State} {D : va_G} {cA : Nat → ClassId} {A : Nat → Prop} {ad : Nat → Nat} {H0 H : Heap} {locs : List Loc} (V : Iv s D cA A ad M H0 H locs) {a b : Nat} (ha : a < mN M) (hb : b < mN M) (h : ad a = ad b) : a = b := V.2.2.1.1 a b _ _ (wsO_get ha) (wsO_get hb) h
theorem r_acmp_ne {x z : Option Nat} {off : Int} {tgt : Nat} (hd : decode y.2.1 pc = .ok (.if_acmp .ne off, 3)) (ht : (pc : Int) + off = (tgt : Int)) (kt : ¬ x = z → wp d kc ks y tgt L st M Q) (kf : x = z → wp d kc ks y (pc + 3) L st M Q) : wp d kc ks y pc L (va_rf z :: va_rf x :: st) M Q := by
  intro p l e R s m args below meth c D cA A ad H locs cells slots Qm ls C h1 h2 h3 h4 V hL hS F
  have hi : x.map ad = z.map ad → x = z := by
    have g1 := hS.hd
    have g2 := hS.tl.hd
    cases x <;> cases z <;> intro h
    · rfl
    · cases h
    · cases h
    · exact congrArg some (ad_inj V g2 g1 (Option.some.inj h))
  show W p l e R s m args below meth c H locs cells slots Qm (F0 m pc ls (tr ad (va_rf z) :: tr ad (va_rf x) :: st.map (tr ad)))
  rw [tr_rf, tr_rf]
  exact lv_acmp_ne C.1 C.2.1 hd ht (fun q => (kt (fun e => q (by rw [e])) p l e R s m args below meth c D cA A ad H locs cells slots Qm ls C h1 h2 h3 h4 V hL hS.tl.tl F)) (fun q => (kf (hi q) p l e R s m args below meth c D cA A ad H locs cells slots Qm ls C h1 h2 h3 h4 V hL hS.tl.tl F))
theorem r_tblOut {dflt lo hi : Int} {offs : Array Int} {len : Nat} {x : Int32} {tgt : Nat} (hd : decode y.2.1 pc = .ok (.tableswitch dflt lo hi offs, len)) (h : x.toInt < lo ∨ hi < x.toInt) (ht : (pc : Int) + dflt = (tgt : Int)) (k : wp d kc ks y tgt L st M Q) : wp d kc ks y pc L (.int x :: st) M Q := by
  intro p l e R s m args below meth c D cA A ad H locs cells slots Qm ls C h1 h2 h3 h4 V hL hS F
  exact lv_tableOut C.1 C.2.1 hd h ht (k p l e R s m args below meth c D cA A ad H locs cells slots Qm ls C h1 h2 h3 h4 V hL hS.tl F)
theorem r_tblIn {dflt lo hi : Int} {offs : Array Int} {len : Nat} {x : Int32} {off : Int} {tgt : Nat} (hd : decode y.2.1 pc = .ok (.tableswitch dflt lo hi offs, len)) (g1 : ¬ x.toInt < lo) (g2 : ¬ hi < x.toInt) (ho : offs[(x.toInt - lo).toNat]? = some off) (ht : (pc : Int) + off = (tgt : Int)) (k : wp d kc ks y tgt L st M Q) : wp d kc ks y pc L (.int x :: st) M Q := by
  intro p l e R s m args below meth c D cA A ad H locs cells slots Qm ls C h1 h2 h3 h4 V hL hS F
  exact lv_tableIn C.1 C.2.1 hd g1 g2 ho ht (k p l e R s m args below meth c D cA A ad H locs cells slots Qm ls C h1 h2 h3 h4 V hL hS.tl F)
theorem r_lookup {dflt : Int} {ps : Array (Int × Int)} {len : Nat} {x : Int32} {off : Int} {tgt : Nat} (hd : decode y.2.1 pc = .ok (.lookupswitch dflt ps, len)) (hp : (ps.toList.zip (ps.toList.drop 1)).all (fun (a, next) => a.1 < next.1) = true) (ho : Op.lookupswitch.offset ps.toList dflt x.toInt = off) (ht : (pc : Int) + off = (tgt : Int)) (k : wp d kc ks y tgt L st M Q) : wp d kc ks y pc L (.int x :: st) M Q := by
  intro p l e R s m args below meth c D cA A ad H locs cells slots Qm ls C h1 h2 h3 h4 V hL hS F
  exact lv_lookup C.1 C.2.1 hd hp ho ht (k p l e R s m args below meth c D cA A ad H locs cells slots Qm ls C h1 h2 h3 h4 V hL hS.tl F)
theorem r_ret_i {v : Int32} (hd : decode y.2.1 pc = .ok (.ireturn, 1)) (hr : y.2.2.2 = some .int) (q : Q (some (.int v)) M) : wp d kc ks y pc L [.int v] M Q := by
  intro p l e R s m args below meth c D cA A ad H locs cells slots Qm ls C h1 h2 h3 h4 V hL hS F
  exact W.widen (Nat.le_add_right _ _) (Nat.le_add_right _ _) (F (some (.int v)) M pc ls ad H locs q (Nat.le_refl _) (fun _ _ => rfl) V (fun _ h => by cases h; trivial) ⟨hd, .int, hr, rfl⟩)
theorem r_ret_z {v : Int32} (hd : decode y.2.1 pc = .ok (.ireturn, 1)) (hr : y.2.2.2 = some .boolean) (hv : v = 0 ∨ v = 1) (q : Q (some (.int v)) M) : wp d kc ks y pc L [.int v] M Q := by
  intro p l e R s m args below meth c D cA A ad H locs cells slots Qm ls C h1 h2 h3 h4 V hL hS F
  exact W.widen (Nat.le_add_right _ _) (Nat.le_add_right _ _) (F (some (.int v)) M pc ls ad H locs q (Nat.le_refl _) (fun _ _ => rfl) V (fun _ h => by cases h; trivial) ⟨hd, .boolean, hr, by rcases hv with rfl | rfl <;> rfl⟩)
theorem r_ret_v (hd : decode y.2.1 pc = .ok (.return_, 1)) (hr : y.2.2.2 = none) (q : Q none M) : wp d kc ks y pc L [] M Q := by
  intro p l e R s m args below meth c D cA A ad H locs cells slots Qm ls C h1 h2 h3 h4 V hL hS F
  exact W.widen (Nat.le_add_right _ _) (Nat.le_add_right _ _) (F none M pc ls ad H locs q (Nat.le_refl _) (fun _ _ => rfl) V (fun _ h => by cases h) ⟨hd, hr⟩)
theorem r_ret_a {v : Nat} (hd : decode y.2.1 pc = .ok (.areturn, 1)) {rt : FieldType} (hr : y.2.2.2 = some rt) (hrt : (∃ n, rt = .object n) ∨ ∃ t, rt = .array t) (q : Q (some (.ref v)) M) : wp d kc ks y pc L [.ref v] M Q := by
  intro p l e R s m args below meth c D cA A ad H locs cells slots Qm ls C h1 h2 h3 h4 V hL hS F
  exact W.widen (Nat.le_add_right _ _) (Nat.le_add_right _ _) (F (some (.ref v)) M pc ls ad H locs q (Nat.le_refl _) (fun _ _ => rfl) V (fun _ h => by cases h; exact hS.hd) ⟨hd, Or.inr ⟨v, rfl⟩, rt, hr, hrt⟩)
theorem r_ret_aN (hd : decode y.2.1 pc = .ok (.areturn, 1)) {rt : FieldType} (hr : y.2.2.2 = some rt) (hrt : (∃ n, rt = .object n) ∨ ∃ t, rt = .array t) (q : Q (some .null) M) : wp d kc ks y pc L [.null] M Q := by
  intro p l e R s m args below meth c D cA A ad H locs cells slots Qm ls C h1 h2 h3 h4 V hL hS F
  exact W.widen (Nat.le_add_right _ _) (Nat.le_add_right _ _) (F (some .null) M pc ls ad H locs q (Nat.le_refl _) (fun _ _ => rfl) V (fun _ h => by cases h; trivial) ⟨hd, Or.inl rfl, rt, hr, hrt⟩)
end RULES
end
section
/-! ===== rules of the instructions that read or write the memory ===== -/
theorem cls_w0 : ∀ w ∈ wsX00, w ∈ gtb := by decide +kernel
theorem cls_w1 : ∀ w ∈ wsX10, w ∈ gtb := by decide +kernel
theorem cls_w2 : ∀ w ∈ wsX20, w ∈ gtb := by decide +kernel
theorem cls_w3 : ∀ w ∈ wsX30, w ∈ gtb := by decide +kernel
theorem cls_w4 : ∀ w ∈ wsX40, w ∈ gtb := by decide +kernel
theorem cls_w5 : ∀ w ∈ wsX50, w ∈ gtb := by decide +kernel
theorem cls_w6 : ∀ w ∈ wsX60, w ∈ gtb := by decide +kernel
theorem cls_w7 : ∀ w ∈ wsX70, w ∈ gtb := by decide +kernel
theorem cls_w8 : ∀ w ∈ wsX80, w ∈ gtb := by decide +kernel
theorem cls_w9 : ∀ w ∈ wsX90, w ∈ gtb := by decide +kernel
theorem cls_w10 : ∀ w ∈ wsX100, w ∈ gtb := by decide +kernel
def clsP (ci : Nat) : Prop := vwCl[ci]? = some (Cof ci, Tof ci, nfl ci) ∧ (∀ w ∈ u_ws (Cof ci) (Tof ci) (nfl ci), w ∈ gtb) ∧ (∀ k, k < nfl ci → parseFieldDescriptor (Tof ci k).2.2.1 = some (Tyof ci k)) ∧ (∀ a, a < nfl ci → ∀ b, b < nfl ci → a ≠ b → (Tof ci a).2.1 ≠ (Tof ci b).2.1)
theorem cls_ok : ∀ ci, ci < 11 → clsP ci := by
  intro ci h
  match ci, h with
  | 0, _ => exact ⟨rfl, cls_w0, tyX0_ok, nmX0⟩
  | 1, _ => exact ⟨rfl, cls_w1, tyX1_ok, nmX1⟩
  | 2, _ => exact ⟨rfl, cls_w2, tyX2_ok, nmX2⟩
  | 3, _ => exact ⟨rfl, cls_w3, tyX3_ok, nmX3⟩
  | 4, _ => exact ⟨rfl, cls_w4, tyX4_ok, nmX4⟩
  | 5, _ => exact ⟨rfl, cls_w5, tyX5_ok, nmX5⟩
  | 6, _ => exact ⟨rfl, cls_w6, tyX6_ok, nmX6⟩
  | 7, _ => exact ⟨rfl, cls_w7, tyX7_ok, nmX7⟩
  | 8, _ => exact ⟨rfl, cls_w8, tyX8_ok, nmX8⟩
  | 9, _ => exact ⟨rfl, cls_w9, tyX9_ok, nmX9⟩
  | 10, _ => exact ⟨rfl, cls_w10, tyX10_ok, nmX10⟩
theorem cls_lt {ci k : Nat} (h : k < nfl ci) : ci < 11 := by
  rcases Nat.lt_or_ge ci 11 with q | q
  · exact q
  · exfalso
    have : nfl ci = 0 := by
      unfold nfl
      rw [List.getD_eq_getElem?_getD, List.getElem?_eq_none (by simpa using q)]
      rfl
    omega
theorem flv_get {ad : Nat → Nat} {I : Nat → Int32} {P : Nat → Option Nat} {c k : Nat} (hk : k < nfl c) : (flv ad I P c)[k]? = some (if isR c k then va_rf ((P k).map ad) else .int (I k)) := by
  simp [flv, hk]
theorem flv_len {ad : Nat → Nat} {I : Nat → Int32} {P : Nat → Option Nat} {c : Nat} : (flv ad I P c).length = nfl c := by simp [flv]
theorem flv_setI {ad : Nat → Nat} {I I' : Nat → Int32} {P : Nat → Option Nat} {c k : Nat} {v : Int32} (hr : isR c k = false) (h1 : I' k = v) (h2 : ∀ j, j ≠ k → I' j = I j) : (flv ad I P c).set k (.int v) = flv ad I' P c := by
  apply List.ext_getElem?
  intro j
  by_cases hj : j < nfl c
  · by_cases e : j = k
    · subst e
      rw [List.getElem?_set_self (by rw [flv_len]; exact hj), flv_get hj, hr, h1]
      rfl
    · rw [List.getElem?_set_ne (Ne.symm e), flv_get hj, flv_get hj, h2 j e]
  · rw [List.getElem?_eq_none (by rw [List.length_set, flv_len]; omega), List.getElem?_eq_none (by rw [flv_len]; omega)]
theorem flv_setR {ad : Nat → Nat} {I : Nat → Int32} {P P' : Nat → Option Nat} {c k : Nat} {v : Option Nat} (hr : isR c k = true) (h1 : P' k = v) (h2 : ∀ j, j ≠ k → P' j = P j) : (flv ad I P c).set k (va_rf (v.map ad)) = flv ad I P' c := by
  apply List.ext_getElem?
  intro j
  by_cases hj : j < nfl c
  · by_cases e : j = k
    · subst e
      rw [List.getElem?_set_self (by rw [flv_len]; exact hj), flv_get hj, hr, h1]
      rfl
    · rw [List.getElem?_set_ne (Ne.symm e), flv_get hj, flv_get hj, h2 j e]
  · rw [List.getElem?_eq_none (by rw [List.length_set, flv_len]; omega), List.getElem?_eq_none (by rw [flv_len]; omega)]
theorem up2_at {α : Type} {f : Nat → Nat → α} {a k : Nat} {v : α} : up2 f a k v a k = v := by simp [up2]
theorem up2_row {α : Type} {f : Nat → Nat → α} {a k j : Nat} {v : α} (h : j ≠ k) : up2 f a k v a j = f a j := by simp [up2, h]
theorem up2_ne {α : Type} {f : Nat → Nat → α} {a k b : Nat} {v : α} (h : b ≠ a) : up2 f a k v b = f b := by
  funext j
  simp [up2, h]
/-- a memory with an int changed -/
abbrev wI (M : Mm) (a k : Nat) (v : Int32) : Mm := (up2 (mI M) a k v, M.2)
abbrev wP (M : Mm) (a k : Nat) (v : Option Nat) : Mm := (mI M, up2 (mP M) a k v, M.2.2)
abbrev wJ (M : Mm) (a k : Nat) (v : Int64) : Mm := (mI M, mP M, up2 (mJ M) a k v, M.2.2.2)
/-- an object, an array of a kind -/
abbrev ob (M : Mm) (a ci : Nat) : Prop := a < mN M ∧ mS M a = (0, ci)
abbrev ar (M : Mm) (a t n : Nat) : Prop := a < mN M ∧ mS M a = (t, n)
section MEM
variable {d kc ks : Nat} {y : Yt} {pc : Nat} {L L' : List (Option Value)} {st : List Value} {M : Mm} {Q : Option Value → Mm → Prop}
theorem cel_o {ad : Nat → Nat} {cA : Nat → ClassId} {a ci : Nat} (h : mS M a = (0, ci)) : cel ad cA M a = .inr (ci, flv ad (mI M a) (mP M a) ci) := by simp [cel, h]
theorem cel_i {ad : Nat → Nat} {cA : Nat → ClassId} {a n : Nat} (t : Nat) (ht : t = 1 ∨ t = 2 ∨ t = 3) (h : mS M a = (t, n)) : cel ad cA M a = .inl (cA t, n, .inl (mI M a)) := by
  rcases ht with rfl | rfl | rfl <;> simp [cel, h]
theorem cel_j {ad : Nat → Nat} {cA : Nat → ClassId} {a n : Nat} (h : mS M a = (4, n)) : cel ad cA M a = .inl (cA 4, n, .inr (.inl (mJ M a))) := by simp [cel, h]
theorem cel_r {ad : Nat → Nat} {cA : Nat → ClassId} {a n : Nat} (t : Nat) (ht : t = 5 ∨ t = 6) (h : mS M a = (t, n)) : cel ad cA M a = .inl (cA t, n, .inr (.inr (.inr (.inr (fun k => (mP M a k).map ad))))) := by
  rcases ht with rfl | rfl <;> simp [cel, h]
theorem cel_oI {ad : Nat → Nat} {cA : Nat → ClassId} {a k j : Nat} {v : Int32} (h : j ≠ a) : cel ad cA (wI M a k v) j = cel ad cA M j := by
  have e : up2 (mI M) a k v j = mI M j := up2_ne h
  simp only [cel, mI, wI] at e ⊢
  rw [e]
theorem cel_oP {ad : Nat → Nat} {cA : Nat → ClassId} {a k j : Nat} {v : Option Nat} (h : j ≠ a) : cel ad cA (wP M a k v) j = cel ad cA M j := by
  have e : up2 (mP M) a k v j = mP M j := up2_ne h
  simp only [cel, mP, wP] at e ⊢
  rw [e]
theorem cel_oJ {ad : Nat → Nat} {cA : Nat → ClassId} {a k j : Nat} {v : Int64} (h : j ≠ a) : cel ad cA (wJ M a k v) j = cel ad cA M j := by
  have e : up2 (mJ M) a k v j = mJ M j := up2_ne h
  simp only [cel, mJ, wJ] at e ⊢
  rw [e]
theorem Iv.set {s : State} {D : va_G} {cA : Nat → ClassId} {A : Nat → Prop} {ad : Nat → Nat} {M' : Mm} {H0 H H1 : Heap} {locs locs1 : List Loc} {id : Nat} {x : va_E} (V : Iv s D cA A ad M H0 H locs) (hn : mN M' = mN M) (hp : ∀ id k a, mP M' id k = some a → a < mN M') (hx : cel ad cA M' id = x) (ho : ∀ j, j ≠ id → cel ad cA M' j = cel ad cA M j)
    (g1 : va_P D vwCl ((wsO ad cA M).set id (ad id, x)) H1) (g2 : va_D A ((wsO ad cA M).set id (ad id, x))) (g3 : va_S A H0 H1 locs1) : Iv s D cA A ad M' H0 H1 locs1 := by
  rw [wsO_set hn hx ho] at g1 g2
  exact ⟨V.1, g1, g2, g3, V.2.2.2.2.1, hp⟩
/-- the link of a field in a method's class -/
abbrev lnk (y : Yt) (idx ci k : Nat) : Prop := Cond.fieldLink y.1.cls idx (Tof ci k).1 (Tof ci k).2.1 (Tof ci k).2.2.1 ∈ gtb
theorem r_getI {a : Nat} (ci k idx : Nat) (hd : decode y.2.1 pc = .ok (.getfield idx, 3)) (hl : lnk y idx ci k) (hk : k < nfl ci) (hr : isR ci k = false) (ho : ob M a ci) (kk : wp d kc ks y (pc + 3) L (.int (mI M a k) :: st) M Q) : wp d kc ks y pc L (.ref a :: st) M Q := by
  intro p l e R s m args below meth c D cA A ad H locs cells slots Qm ls C h1 h2 h3 h4 V hL hS F
  have ok := cls_ok ci (cls_lt hk)
  exact va_get (D := D) (ci := ci) (v := .int (mI M a k)) C.1 C.2.1 C.2.2.2.2.2.1 ok.2.1 C.2.2.2.2.1 V.1 V.2.1 a (by rw [wsO_get ho.1, cel_o ho.2]) ok.1 k hk (C.2.2.2.2.2.1 _ hl) (fun _ h => h) (by rw [flv_get hk, hr]; rfl) hd (kk p l e R s m args below meth c D cA A ad H locs cells slots Qm ls C h1 h2 h3 h4 V hL (hS.tl.cons trivial) F)
theorem r_getR {a : Nat} (ci k idx : Nat) {x : Option Nat} (hd : decode y.2.1 pc = .ok (.getfield idx, 3)) (hl : lnk y idx ci k) (hk : k < nfl ci) (hr : isR ci k = true) (ho : ob M a ci) (hx : mP M a k = x) (kk : wp d kc ks y (pc + 3) L (va_rf x :: st) M Q) : wp d kc ks y pc L (.ref a :: st) M Q := by
  intro p l e R s m args below meth c D cA A ad H locs cells slots Qm ls C h1 h2 h3 h4 V hL hS F
  subst hx
  have ok := cls_ok ci (cls_lt hk)
  have g := kk p l e R s m args below meth c D cA A ad H locs cells slots Qm ls C h1 h2 h3 h4 V hL (hS.tl.cons (okV_rf (fun b hb => V.2.2.2.2.2 a k b hb))) F
  rw [List.map_cons, tr_rf] at g
  exact va_get (D := D) (ci := ci) (v := va_rf ((mP M a k).map ad)) C.1 C.2.1 C.2.2.2.2.2.1 ok.2.1 C.2.2.2.2.1 V.1 V.2.1 a (by rw [wsO_get ho.1, cel_o ho.2]) ok.1 k hk (C.2.2.2.2.2.1 _ hl) (fun _ h => h) (by rw [flv_get hk, hr]; rfl) hd g
theorem r_get1 {a b : Nat} (ci k idx : Nat) (hd : decode y.2.1 pc = .ok (.getfield idx, 3)) (hl : lnk y idx ci k) (hk : k < nfl ci) (hr : isR ci k = true) (ho : ob M a ci) (hx : mP M a k = some b) (kk : wp d kc ks y (pc + 3) L (.ref b :: st) M Q) : wp d kc ks y pc L (.ref a :: st) M Q := r_getR ci k idx hd hl hk hr ho hx kk
theorem r_putI {a : Nat} {v : Int32} (ci k idx : Nat) (hd : decode y.2.1 pc = .ok (.putfield idx, 3)) (hl : lnk y idx ci k) (hk : k < nfl ci) (ht : Tyof ci k = .int) (hf : (Tof ci k).2.2.2 = false) (ho : ob M a ci) (kk : wp d kc ks y (pc + 3) L st (wI M a k v) Q) : wp d kc ks y pc L (.int v :: .ref a :: st) M Q := by
  intro p l e R s m args below meth c D cA A ad H locs cells slots Qm ls C h1 h2 h3 h4 V hL hS F
  have ok := cls_ok ci (cls_lt hk)
  have hr : isR ci k = false := by simp [isR, ht, refl_t]
  refine va_put (D := D) (ci := ci) (v := .int v) (ty := .int) C.1 C.2.1 C.2.2.2.2.2.1 ok.2.1 (Tyof ci) ok.2.2.1 ok.2.2.2 C.2.2.2.2.1 V.1 V.2.1 V.2.2.1 V.2.2.2.1 a (by rw [wsO_get ho.1, cel_o ho.2]) ok.1 k hk (C.2.2.2.2.2.1 _ hl) (fun _ h => h) hf (by rw [ok.2.2.1 k hk, ht]) rfl rfl (by rw [flv_len]; exact hk) hd (fun H1 locs1 g1 g2 g3 => ?_)
  exact kk p l e R s m args below meth c D cA A ad H1 locs1 cells slots Qm ls C h1 h2 h3 h4 (V.set rfl V.2.2.2.2.2 ((cel_o (M := wI M a k v) ho.2).trans (by rw [flv_setI hr (I' := mI (wI M a k v) a) up2_at (fun j hj => up2_row hj)])) (fun j hj => cel_oI hj) g1 g2 g3) hL hS.tl.tl F
theorem r_putZ {a : Nat} {v : Int32} (ci k idx : Nat) (hd : decode y.2.1 pc = .ok (.putfield idx, 3)) (hl : lnk y idx ci k) (hk : k < nfl ci) (ht : Tyof ci k = .boolean) (hf : (Tof ci k).2.2.2 = false) (ho : ob M a ci) (hv : v = 0 ∨ v = 1) (kk : wp d kc ks y (pc + 3) L st (wI M a k v) Q) : wp d kc ks y pc L (.int v :: .ref a :: st) M Q := by
  intro p l e R s m args below meth c D cA A ad H locs cells slots Qm ls C h1 h2 h3 h4 V hL hS F
  have ok := cls_ok ci (cls_lt hk)
  have hr : isR ci k = false := by simp [isR, ht, refl_t]
  refine va_put (D := D) (ci := ci) (v := .int v) (ty := .boolean) C.1 C.2.1 C.2.2.2.2.2.1 ok.2.1 (Tyof ci) ok.2.2.1 ok.2.2.2 C.2.2.2.2.1 V.1 V.2.1 V.2.2.1 V.2.2.2.1 a (by rw [wsO_get ho.1, cel_o ho.2]) ok.1 k hk (C.2.2.2.2.2.1 _ hl) (fun _ h => h) hf (by rw [ok.2.2.1 k hk, ht]) (by rcases hv with rfl | rfl <;> rfl) (by rcases hv with rfl | rfl <;> rfl) (by rw [flv_len]; exact hk) hd (fun H1 locs1 g1 g2 g3 => ?_)
  exact kk p l e R s m args below meth c D cA A ad H1 locs1 cells slots Qm ls C h1 h2 h3 h4 (V.set rfl V.2.2.2.2.2 ((cel_o (M := wI M a k v) ho.2).trans (by rw [flv_setI hr (I' := mI (wI M a k v) a) up2_at (fun j hj => up2_row hj)])) (fun j hj => cel_oI hj) g1 g2 g3) hL hS.tl.tl F
theorem nar_ref {ty : FieldType} (h : refl_t ty = true) (x : Option Nat) : narrow ty (va_rf x) = va_rf x ∧ fits ty (va_rf x) = true := by
  cases ty <;> first | (cases x <;> exact ⟨rfl, rfl⟩) | cases h
theorem wP_ok {a k : Nat} {x : Option Nat} (h : ∀ id k a, mP M id k = some a → a < mN M) (hx : ∀ b, x = some b → b < mN M) : ∀ id j b, mP (wP M a k x) id j = some b → b < mN (wP M a k x) := by
  intro id j b hb
  have hb : up2 (mP M) a k x id j = some b := hb
  unfold up2 at hb
  split at hb
  · exact hx b hb
  · exact h id j b hb
theorem rf_ok {n : Nat} {x : Option Nat} (h : okV n (va_rf x)) : ∀ b, x = some b → b < n := by
  intro b hb
  subst hb
  exact h
theorem r_putR {a : Nat} {x : Option Nat} (ci k idx : Nat) (hd : decode y.2.1 pc = .ok (.putfield idx, 3)) (hl : lnk y idx ci k) (hk : k < nfl ci) (hr : isR ci k = true) (hf : (Tof ci k).2.2.2 = false) (ho : ob M a ci) (kk : wp d kc ks y (pc + 3) L st (wP M a k x) Q) : wp d kc ks y pc L (va_rf x :: .ref a :: st) M Q := by
  intro p l e R s m args below meth c D cA A ad H locs cells slots Qm ls C h1 h2 h3 h4 V hL hS F
  have ok := cls_ok ci (cls_lt hk)
  have nf := nar_ref hr (x.map ad)
  show W p l e R s m args below meth c H locs cells slots Qm (F0 m pc ls (tr ad (va_rf x) :: .ref (ad a) :: st.map (tr ad)))
  rw [tr_rf]
  refine va_put (D := D) (ci := ci) (v := va_rf (x.map ad)) (ty := Tyof ci k) C.1 C.2.1 C.2.2.2.2.2.1 ok.2.1 (Tyof ci) ok.2.2.1 ok.2.2.2 C.2.2.2.2.1 V.1 V.2.1 V.2.2.1 V.2.2.2.1 a (by rw [wsO_get ho.1, cel_o ho.2]) ok.1 k hk (C.2.2.2.2.2.1 _ hl) (fun _ h => h) hf (ok.2.2.1 k hk) nf.1 nf.2 (by rw [flv_len]; exact hk) hd (fun H1 locs1 g1 g2 g3 => ?_)
  exact kk p l e R s m args below meth c D cA A ad H1 locs1 cells slots Qm ls C h1 h2 h3 h4 (V.set (M' := wP M a k x) rfl (wP_ok V.2.2.2.2.2 (rf_ok hS.hd)) ((cel_o (M := wP M a k x) ho.2).trans (by rw [flv_setR hr (P' := mP (wP M a k x) a) up2_at (fun j hj => up2_row hj)])) (fun j hj => cel_oP hj) g1 g2 g3) hL hS.tl.tl F
theorem r_put1 {a b : Nat} (ci k idx : Nat) (hd : decode y.2.1 pc = .ok (.putfield idx, 3)) (hl : lnk y idx ci k) (hk : k < nfl ci) (hr : isR ci k = true) (hf : (Tof ci k).2.2.2 = false) (ho : ob M a ci) (kk : wp d kc ks y (pc + 3) L st (wP M a k (some b)) Q) : wp d kc ks y pc L (.ref b :: .ref a :: st) M Q := r_putR (x := some b) ci k idx hd hl hk hr hf ho kk
/-- a final field, in a constructor -/
theorem r_putF {a b : Nat} (ci k idx : Nat) (hd : decode y.2.1 pc = .ok (.putfield idx, 3)) (hl : lnk y idx ci k) (hk : k < nfl ci) (hr : isR ci k = true) (hf : (Tof ci k).2.2.2 = true) (hin : y.1.name = "<init>") (hdc : (Tof ci k).1 = y.1.cls) (ho : ob M a ci) (kk : wp d kc ks y (pc + 3) L st (wP M a k (some b)) Q) : wp d kc ks y pc L (.ref b :: .ref a :: st) M Q := by
  intro p l e R s m args below meth c D cA A ad H locs cells slots Qm ls C h1 h2 h3 h4 V hL hS F
  have ok := cls_ok ci (cls_lt hk)
  have nf := nar_ref hr (some (ad b))
  refine va_putF (D := D) (ci := ci) (v := va_rf (some (ad b))) (ty := Tyof ci k) C.1 C.2.1 C.2.2.2.2.2.1 ok.2.1 (Tyof ci) ok.2.2.1 ok.2.2.2 C.2.2.2.2.1 V.1 V.2.1 V.2.2.1 V.2.2.2.1 a (by rw [wsO_get ho.1, cel_o ho.2]) ok.1 k hk (C.2.2.2.2.2.1 _ hl) (fun _ h => h) hf (C.2.2.2.2.2.2.2.1 hin) hdc (ok.2.2.1 k hk) nf.1 nf.2 (by rw [flv_len]; exact hk) hd (fun H1 locs1 g1 g2 g3 => ?_)
  exact kk p l e R s m args below meth c D cA A ad H1 locs1 cells slots Qm ls C h1 h2 h3 h4 (V.set (M' := wP M a k (some b)) rfl (wP_ok V.2.2.2.2.2 (fun z hz => by cases hz; exact hS.hd)) ((cel_o (M := wP M a k (some b)) ho.2).trans (by rw [show (va_rf (some (ad b)) : Value) = va_rf ((some b : Option Nat).map ad) from rfl, flv_setR hr (P' := mP (wP M a k (some b)) a) up2_at (fun j hj => up2_row hj)])) (fun j hj => cel_oP hj) g1 g2 g3) hL hS.tl.tl F
theorem up2_upd {I : Nat → Nat → Int32} {a k : Nat} {v : Int32} : up2 I a k v a = upd (I a) k v := by
  funext j
  simp [up2, upd]
theorem up2_updL {I : Nat → Nat → Int64} {a k : Nat} {v : Int64} : up2 I a k v a = vp_updL (I a) k v := by
  funext j
  simp [up2, vp_updL]
theorem r_iald {a n : Nat} {i : Int32} (hd : decode y.2.1 pc = .ok (.iaload, 1)) (ha : ar M a 1 n) (hi : vp_in i n) (kk : wp d kc ks y (pc + 1) L (.int (mI M a i.toNatClampNeg) :: st) M Q) : wp d kc ks y pc L (.int i :: .ref a :: st) M Q := by
  intro p l e R s m args below meth c D cA A ad H locs cells slots Qm ls C h1 h2 h3 h4 V hL hS F
  exact va_iald (D := D) C.1 C.2.1 V.1 V.2.1 a 0 (by rw [wsO_get ha.1, cel_i 1 (by decide) ha.2]) rfl hi hd (kk p l e R s m args below meth c D cA A ad H locs cells slots Qm ls C h1 h2 h3 h4 V hL (hS.tl.tl.cons trivial) F)
theorem r_bald {a n : Nat} {i : Int32} (hd : decode y.2.1 pc = .ok (.baload, 1)) (ha : ar M a 2 n) (hi : vp_in i n) (kk : wp d kc ks y (pc + 1) L (.int (mI M a i.toNatClampNeg) :: st) M Q) : wp d kc ks y pc L (.int i :: .ref a :: st) M Q := by
  intro p l e R s m args below meth c D cA A ad H locs cells slots Qm ls C h1 h2 h3 h4 V hL hS F
  exact va_bald (D := D) C.1 C.2.1 V.1 V.2.1 a 1 (by rw [wsO_get ha.1, cel_i 2 (by decide) ha.2]) rfl hi hd (kk p l e R s m args below meth c D cA A ad H locs cells slots Qm ls C h1 h2 h3 h4 V hL (hS.tl.tl.cons trivial) F)
theorem r_zald {a n : Nat} {i : Int32} (hd : decode y.2.1 pc = .ok (.baload, 1)) (ha : ar M a 3 n) (hi : vp_in i n) (kk : wp d kc ks y (pc + 1) L (.int (mI M a i.toNatClampNeg) :: st) M Q) : wp d kc ks y pc L (.int i :: .ref a :: st) M Q := by
  intro p l e R s m args below meth c D cA A ad H locs cells slots Qm ls C h1 h2 h3 h4 V hL hS F
  exact va_zald (D := D) C.1 C.2.1 V.1 V.2.1 a 2 (by rw [wsO_get ha.1, cel_i 3 (by decide) ha.2]) rfl hi hd (kk p l e R s m args below meth c D cA A ad H locs cells slots Qm ls C h1 h2 h3 h4 V hL (hS.tl.tl.cons trivial) F)
theorem r_lald {a n : Nat} {i : Int32} (hd : decode y.2.1 pc = .ok (.laload, 1)) (ha : ar M a 4 n) (hi : vp_in i n) (kk : wp d kc ks y (pc + 1) L (.long (mJ M a i.toNatClampNeg) :: st) M Q) : wp d kc ks y pc L (.int i :: .ref a :: st) M Q := by
  intro p l e R s m args below meth c D cA A ad H locs cells slots Qm ls C h1 h2 h3 h4 V hL hS F
  exact va_lald (D := D) C.1 C.2.1 V.1 V.2.1 a 3 (by rw [wsO_get ha.1, cel_j ha.2]) rfl hi hd (kk p l e R s m args below meth c D cA A ad H locs cells slots Qm ls C h1 h2 h3 h4 V hL (hS.tl.tl.cons trivial) F)
/-- an array of references: of trades (5), of arrays of ints (6) -/
theorem r_aald {a n : Nat} {i : Int32} (t : Nat) {x : Option Nat} (hd : decode y.2.1 pc = .ok (.aaload, 1)) (ht : t = 5 ∨ t = 6) (ha : ar M a t n) (hi : vp_in i n) (hx : mP M a i.toNatClampNeg = x) (kk : wp d kc ks y (pc + 1) L (va_rf x :: st) M Q) : wp d kc ks y pc L (.int i :: .ref a :: st) M Q := by
  intro p l e R s m args below meth c D cA A ad H locs cells slots Qm ls C h1 h2 h3 h4 V hL hS F
  subst hx
  have g := kk p l e R s m args below meth c D cA A ad H locs cells slots Qm ls C h1 h2 h3 h4 V hL (hS.tl.tl.cons (okV_rf (fun b hb => V.2.2.2.2.2 a _ b hb))) F
  rw [List.map_cons, tr_rf] at g
  have hP := V.2.1 a _ (by rw [wsO_get ha.1, cel_r t ht ha.2])
  have hlt : i.toNatClampNeg < n := Nat.not_le.mp fun q => hi (Or.inr q)
  rcases ht with rfl | rfl
  · exact W.aald (v := va_rf ((mP M a i.toNatClampNeg).map ad)) (ty := .object "PriceUpon$Trade") C.1 C.2.1 hP ((V.1.2 4 _ rfl).1 n (fun j => va_rf ((mP M a j).map ad))) rfl (fun q => by cases q) (by show ¬ (i < 0 ∨ (arrV _ _ _).slots.size ≤ _); rw [arrV_size]; exact hi) (by show (arrV _ _ _).slots[_]? = _; rw [arrV_read _ _ hlt]) rfl rfl hd g
  · exact W.aald (v := va_rf ((mP M a i.toNatClampNeg).map ad)) (ty := .array .int) C.1 C.2.1 hP ((V.1.2 5 _ rfl).1 n (fun j => va_rf ((mP M a j).map ad))) rfl (fun q => by cases q) (by show ¬ (i < 0 ∨ (arrV _ _ _).slots.size ≤ _); rw [arrV_size]; exact hi) (by show (arrV _ _ _).slots[_]? = _; rw [arrV_read _ _ hlt]) rfl rfl hd g
theorem r_aald1 {a n b : Nat} {i : Int32} (t : Nat) (hd : decode y.2.1 pc = .ok (.aaload, 1)) (ht : t = 5 ∨ t = 6) (ha : ar M a t n) (hi : vp_in i n) (hx : mP M a i.toNatClampNeg = some b) (kk : wp d kc ks y (pc + 1) L (.ref b :: st) M Q) : wp d kc ks y pc L (.int i :: .ref a :: st) M Q := r_aald t hd ht ha hi hx kk
theorem r_iast {a n : Nat} {i v : Int32} (hd : decode y.2.1 pc = .ok (.iastore, 1)) (ha : ar M a 1 n) (hi : vp_in i n) (kk : wp d kc ks y (pc + 1) L st (wI M a i.toNatClampNeg v) Q) : wp d kc ks y pc L (.int v :: .int i :: .ref a :: st) M Q := by
  intro p l e R s m args below meth c D cA A ad H locs cells slots Qm ls C h1 h2 h3 h4 V hL hS F
  refine va_iast (D := D) C.1 C.2.1 V.1 V.2.1 V.2.2.1 V.2.2.2.1 a 0 (by rw [wsO_get ha.1, cel_i 1 (by decide) ha.2]) rfl hi hd (fun H1 locs1 g1 g2 g3 => ?_)
  exact kk p l e R s m args below meth c D cA A ad H1 locs1 cells slots Qm ls C h1 h2 h3 h4 (V.set (M' := wI M a i.toNatClampNeg v) rfl V.2.2.2.2.2 ((cel_i (M := wI M a i.toNatClampNeg v) 1 (by decide) ha.2).trans (by rw [show mI (wI M a i.toNatClampNeg v) a = upd (mI M a) i.toNatClampNeg v from up2_upd])) (fun j hj => cel_oI hj) g1 g2 g3) hL hS.tl.tl.tl F
theorem r_bast {a n : Nat} {i v : Int32} (hd : decode y.2.1 pc = .ok (.bastore, 1)) (ha : ar M a 2 n) (hi : vp_in i n) (kk : wp d kc ks y (pc + 1) L st (wI M a i.toNatClampNeg (vp_nar .byte v)) Q) : wp d kc ks y pc L (.int v :: .int i :: .ref a :: st) M Q := by
  intro p l e R s m args below meth c D cA A ad H locs cells slots Qm ls C h1 h2 h3 h4 V hL hS F
  refine va_bast (D := D) C.1 C.2.1 V.1 V.2.1 V.2.2.1 V.2.2.2.1 a 1 (by rw [wsO_get ha.1, cel_i 2 (by decide) ha.2]) rfl hi hd (fun H1 locs1 g1 g2 g3 => ?_)
  exact kk p l e R s m args below meth c D cA A ad H1 locs1 cells slots Qm ls C h1 h2 h3 h4 (V.set (M' := wI M a i.toNatClampNeg (vp_nar .byte v)) rfl V.2.2.2.2.2 ((cel_i (M := wI M a i.toNatClampNeg (vp_nar .byte v)) 2 (by decide) ha.2).trans (by rw [show mI (wI M a i.toNatClampNeg (vp_nar .byte v)) a = upd (mI M a) i.toNatClampNeg (vp_nar .byte v) from up2_upd])) (fun j hj => cel_oI hj) g1 g2 g3) hL hS.tl.tl.tl F
theorem r_zast {a n : Nat} {i v : Int32} (hd : decode y.2.1 pc = .ok (.bastore, 1)) (ha : ar M a 3 n) (hi : vp_in i n) (hv : v = 0 ∨ v = 1) (kk : wp d kc ks y (pc + 1) L st (wI M a i.toNatClampNeg v) Q) : wp d kc ks y pc L (.int v :: .int i :: .ref a :: st) M Q := by
  intro p l e R s m args below meth c D cA A ad H locs cells slots Qm ls C h1 h2 h3 h4 V hL hS F
  have ev : vp_nar .boolean v = v := by rcases hv with rfl | rfl <;> rfl
  refine va_zast (D := D) C.1 C.2.1 V.1 V.2.1 V.2.2.1 V.2.2.2.1 a 2 (by rw [wsO_get ha.1, cel_i 3 (by decide) ha.2]) rfl hi hd (fun H1 locs1 g1 g2 g3 => ?_)
  rw [ev] at g1 g2
  exact kk p l e R s m args below meth c D cA A ad H1 locs1 cells slots Qm ls C h1 h2 h3 h4 (V.set (M' := wI M a i.toNatClampNeg v) rfl V.2.2.2.2.2 ((cel_i (M := wI M a i.toNatClampNeg v) 3 (by decide) ha.2).trans (by rw [show mI (wI M a i.toNatClampNeg v) a = upd (mI M a) i.toNatClampNeg v from up2_upd])) (fun j hj => cel_oI hj) g1 g2 g3) hL hS.tl.tl.tl F
theorem r_last {a n : Nat} {i : Int32} {v : Int64} (hd : decode y.2.1 pc = .ok (.lastore, 1)) (ha : ar M a 4 n) (hi : vp_in i n) (kk : wp d kc ks y (pc + 1) L st (wJ M a i.toNatClampNeg v) Q) : wp d kc ks y pc L (.long v :: .int i :: .ref a :: st) M Q := by
  intro p l e R s m args below meth c D cA A ad H locs cells slots Qm ls C h1 h2 h3 h4 V hL hS F
  refine va_last (D := D) C.1 C.2.1 V.1 V.2.1 V.2.2.1 V.2.2.2.1 a 3 (by rw [wsO_get ha.1, cel_j ha.2]) rfl hi hd (fun H1 locs1 g1 g2 g3 => ?_)
  exact kk p l e R s m args below meth c D cA A ad H1 locs1 cells slots Qm ls C h1 h2 h3 h4 (V.set (M' := wJ M a i.toNatClampNeg v) rfl V.2.2.2.2.2 ((cel_j (M := wJ M a i.toNatClampNeg v) ha.2).trans (by rw [show mJ (wJ M a i.toNatClampNeg v) a = vp_updL (mJ M a) i.toNatClampNeg v from up2_updL])) (fun j hj => cel_oJ hj) g1 g2 g3) hL hS.tl.tl.tl F
/-- a trade put among the trades -/
theorem r_aast {a n b : Nat} {i : Int32} (hd : decode y.2.1 pc = .ok (.aastore, 1)) (ha : ar M a 5 n) (hi : vp_in i n) (hb : ob M b 8) (kk : wp d kc ks y (pc + 1) L st (wP M a i.toNatClampNeg (some b)) Q) : wp d kc ks y pc L (.ref b :: .int i :: .ref a :: st) M Q := by
  intro p l e R s m args below meth c D cA A ad H locs cells slots Qm ls C h1 h2 h3 h4 V hL hS F
  refine va_astq (D := D) C.1 C.2.1 V.1 V.2.1 V.2.2.1 V.2.2.2.1 a 4 b 8 (r := (RX8, TX8, 13)) (by rw [wsO_get ha.1, cel_r 5 (by decide) ha.2]) rfl (by rw [wsO_get hb.1, cel_o hb.2]) rfl hi hd (fun H1 locs1 g1 g2 g3 => ?_)
  refine kk p l e R s m args below meth c D cA A ad H1 locs1 cells slots Qm ls C h1 h2 h3 h4 (V.set (M' := wP M a i.toNatClampNeg (some b)) rfl (wP_ok V.2.2.2.2.2 (fun z hz => by cases hz; exact hb.1)) ((cel_r (M := wP M a i.toNatClampNeg (some b)) 5 (by decide) ha.2).trans ?_) (fun j hj => cel_oP hj) g1 g2 g3) hL hS.tl.tl.tl F
  have e : (fun k => (mP (wP M a i.toNatClampNeg (some b)) a k).map ad) = va_up (fun k => (mP M a k).map ad) i.toNatClampNeg (some (ad b)) := by
    funext k
    show (up2 (mP M) a i.toNatClampNeg (some b) a k).map ad = _
    unfold up2 va_up
    by_cases h : k = i.toNatClampNeg <;> simp [h]
  rw [e]
theorem r_alen {a n : Nat} (t : Nat) {v : Int32} (hd : decode y.2.1 pc = .ok (.arraylength, 1)) (ht : t = 1) (ha : ar M a t n) (hv : Int32.ofNat n = v) (kk : wp d kc ks y (pc + 1) L (.int v :: st) M Q) : wp d kc ks y pc L (.ref a :: st) M Q := by
  intro p l e R s m args below meth c D cA A ad H locs cells slots Qm ls C h1 h2 h3 h4 V hL hS F
  subst ht
  exact va_alen (D := D) C.1 C.2.1 V.1 V.2.1 a 0 (by rw [wsO_get ha.1, cel_i 1 (by decide) ha.2]) rfl hv hd (kk p l e R s m args below meth c D cA A ad H locs cells slots Qm ls C h1 h2 h3 h4 V hL (hS.tl.cons trivial) F)
end MEM
end
section
/-! ===== rules of the instructions that make cells; contracts; calls ===== -/
def alM (M : Mm) (sh : Nat × Nat) : Mm := (va_up (mI M) (mN M) (fun _ => 0), va_up (mP M) (mN M) (fun _ => none), va_up (mJ M) (mN M) (fun _ => 0), va_up (mS M) (mN M) sh, mN M + 1)
theorem up_at {α : Type} {f : Nat → α} {k : Nat} {v : α} : va_up f k v k = v := by simp [va_up]
theorem up_ne {α : Type} {f : Nat → α} {k j : Nat} {v : α} (h : j ≠ k) : va_up f k v j = f j := by simp [va_up, h]
theorem map_ad {ad ad' : Nat → Nat} {n : Nat} (h : ∀ id, id < n → ad' id = ad id) {x : Option Nat} (hx : ∀ b, x = some b → b < n) : x.map ad' = x.map ad := by
  cases x with
  | none => rfl
  | some b => exact congrArg some (h b (hx b rfl))
theorem flv_ad {ad ad' : Nat → Nat} {n : Nat} (h : ∀ id, id < n → ad' id = ad id) {I : Nat → Int32} {P : Nat → Option Nat} (hP : ∀ k b, P k = some b → b < n) (c : Nat) : flv ad' I P c = flv ad I P c := by
  unfold flv
  apply List.map_congr_left
  intro k _
  rw [map_ad h (hP k)]
theorem cel_ad {ad ad' : Nat → Nat} {cA : Nat → ClassId} {M M' : Mm} {n j : Nat} (h : ∀ id, id < n → ad' id = ad id) (hP : ∀ id k b, mP M id k = some b → b < n) (e1 : mI M' j = mI M j) (e2 : mP M' j = mP M j) (e3 : mJ M' j = mJ M j) (e4 : mS M' j = mS M j) : cel ad' cA M' j = cel ad cA M j := by
  have e5 : (fun k => (mP M j k).map ad') = fun k => (mP M j k).map ad := funext fun k => map_ad h (hP j k)
  unfold cel
  rw [e1, e2, e3, e4, flv_ad h (hP j), e5]
theorem ad_up {ad : Nat → Nat} {n q : Nat} : ∀ id, id < n → va_up ad n q id = ad id := fun id h => up_ne (Nat.ne_of_lt h)
theorem alM_ok {M : Mm} {sh : Nat × Nat} (h : ∀ id k a, mP M id k = some a → a < mN M) : ∀ id k a, mP (alM M sh) id k = some a → a < mN (alM M sh) := by
  intro id k a ha
  have ha : va_up (mP M) (mN M) (fun _ => none) id k = some a := ha
  by_cases e : id = mN M
  · rw [e, up_at] at ha
    cases ha
  · rw [up_ne e] at ha
    exact Nat.lt_succ_of_lt (h id k a ha)
theorem Iv.push {M : Mm} {s : State} {D : va_G} {cA : Nat → ClassId} {A : Nat → Prop} {ad : Nat → Nat} {H0 H H1 : Heap} {locs locs1 : List Loc} {sh : Nat × Nat} {q : Nat} {x : va_E} (V : Iv s D cA A ad M H0 H locs) (hx : cel (va_up ad (mN M) q) cA (alM M sh) (mN M) = x)
    (g1 : va_P D vwCl (wsO ad cA M ++ [(q, x)]) H1) (g2 : va_D A (wsO ad cA M ++ [(q, x)])) (g3 : va_S A H0 H1 locs1) : Iv s D cA A (va_up ad (mN M) q) (alM M sh) H0 H1 locs1 := by
  have e : wsO ad cA M ++ [(q, x)] = wsO (va_up ad (mN M) q) cA (alM M sh) := wsO_push rfl hx (fun j hj => cel_ad ad_up V.2.2.2.2.2 (up_ne (Nat.ne_of_lt hj)) (up_ne (Nat.ne_of_lt hj)) (up_ne (Nat.ne_of_lt hj)) (up_ne (Nat.ne_of_lt hj)))
  rw [e] at g1 g2
  exact ⟨V.1, g1, g2, g3, V.2.2.2.2.1, alM_ok V.2.2.2.2.2⟩
theorem dfl_ok : ∀ ci, ci < 11 → ∀ j, j < nfl ci → defaultValue (Tyof ci j) = if isR ci j then .null else .int 0 := by decide +kernel
section ALLOC
variable {d kc ks : Nat} {y : Yt} {pc : Nat} {L L' : List (Option Value)} {st : List Value} {M : Mm} {Q : Option Value → Mm → Prop}
theorem r_new (ci idx : Nat) (hd : decode y.2.1 pc = .ok (.new idx, 3)) (hci : ci < 11) (hcl : Cond.classLink y.1.cls idx (Cof ci) ∈ gtb) (hinst : Cond.instantiable (Cof ci) (nfl ci) ∈ gtb) (hini : Cond.initialized (Cof ci) ∈ gtb) (kk : wp d kc ks y (pc + 3) L (.ref (mN M) :: st) (alM M (0, ci)) Q) : wp d (kc + 1) (ks + nfl ci) y pc L st M Q := by
  intro p l e R s m args below meth c D cA A ad H locs cells slots Qm ls C h1 h2 h3 h4 V hL hS F
  have ok := cls_ok ci hci
  have hts := C.2.2.2.2.2.1
  refine va_new (D := D) (ci := ci) (fs := flv ad (fun _ => 0) (fun _ => none) ci) C.1 C.2.1 hts ok.2.1 (Tyof ci) ok.2.2.1 C.2.2.2.2.1 (hts _ hcl) (hts _ hinst) (hts _ hini) V.1 V.2.1 V.2.2.1 V.2.2.2.1 V.2.2.2.2.1 ok.1 (fun j hj => ?_) (by omega) (by omega) hd (fun q H1 g1 g2 g3 => ?_)
  · rw [dfl_ok ci hci j hj]
    unfold vp_V
    rw [List.getD_eq_getElem?_getD, flv_get hj]
    rfl
  · have hx : cel (va_up ad (mN M) q) cA (alM M (0, ci)) (mN M) = .inr (ci, flv ad (fun _ => 0) (fun _ => none) ci) := by
      rw [cel_o (M := alM M (0, ci)) (ci := ci) (show mS (alM M (0, ci)) (mN M) = (0, ci) from up_at), show mI (alM M (0, ci)) (mN M) = fun _ => 0 from up_at, show mP (alM M (0, ci)) (mN M) = fun _ => none from up_at]
      exact congrArg (fun z => Sum.inr (ci, z)) (flv_ad (n := 0) (fun _ h => absurd h (Nat.not_lt_zero _)) (fun _ _ h => by cases h) ci)
    have e1 : cells + 1 + kc = cells + (kc + 1) := by omega
    have e2 : slots + nfl ci + ks = slots + (ks + nfl ci) := by omega
    have g := kk p l e R s m args below meth c D cA A (va_up ad (mN M) q) H1 locs (cells + 1) (slots + nfl ci) Qm ls C h1 h2 (by omega) (by omega) (V.push hx g1 g2 g3) (hL.mono (Nat.le_succ _) ad_up) ((hS.mono (Nat.le_succ _)).cons (Nat.lt_succ_self (mN M)))
    rw [List.map_cons, hS.map ad_up, e1, e2, show tr (va_up ad (mN M) q) (.ref (mN M)) = .ref q from congrArg Value.ref up_at] at g
    exact g (fun r M' pcF lsF ad' H' locs' a1 a2 a3 => F r M' pcF lsF ad' H' locs' a1 (Nat.le_trans (Nat.le_succ _) a2) (fun id hid => (a3 id (Nat.lt_succ_of_lt hid)).trans (ad_up id hid)))
theorem r_newa_g {n : Int32} {N : Nat} (t : Nat) (atype : ArrayType) (ty : FieldType) (a0 : vp_A) (hd : decode y.2.1 pc = .ok (.newarray atype, 2)) (hty : newarray.typeOf atype = ty) (htt : ∀ cA, (tysO cA)[t - 1]? = some (cA t, ty)) (hra : ∀ (U : State) (c : ClassId), va_RA U c ty → U.vm.findClass ("[" ++ ty.toString) = some c) (hw : Cond.arrayClass ty ∈ gtb) (ha : ∀ cA : ClassId, vp_cell cA a0 = arrV cA N (fun _ => defaultValue ty)) (hn : ¬ n < 0) (hN : n.toNatClampNeg = N) (hb : N * componentBytes ty ≤ 536870912)
    (hx : ∀ (ad : Nat → Nat) (cA : Nat → ClassId) (q : Nat), cel (va_up ad (mN M) q) cA (alM M (t, N)) (mN M) = .inl (cA t, a0)) (kk : wp d kc ks y (pc + 2) L (.ref (mN M) :: st) (alM M (t, N)) Q) : wp d (kc + 1) (ks + N) y pc L (.int n :: st) M Q := by
  intro p l e R s m args below meth c D cA A ad H locs cells slots Qm ls C h1 h2 h3 h4 V hL hS F
  have hts := C.2.2.2.2.2.1
  refine va_newa (D := D) C.1 C.2.1 (by rw [hty]; exact hts _ hw) hty V.1 V.2.1 V.2.2.1 V.2.2.2.1 V.2.2.2.2.1 ha hn hN hb (by omega) (by omega) hd (fun q cA' H1 gK g1 g2 g3 => ?_)
  have ec : cA' = cA t := by
    have b1 := hra s cA' (gK.2 6 (cA', ty) rfl).2
    have b2 := hra s (cA t) (V.1.2 (t - 1) _ (htt cA)).2
    exact Option.some.inj (b1.symm.trans b2)
  subst ec
  have e1 : cells + 1 + kc = cells + (kc + 1) := by omega
  have e2 : slots + N + ks = slots + (ks + N) := by omega
  have g := kk p l e R s m args below meth c D cA A (va_up ad (mN M) q) H1 locs (cells + 1) (slots + N) Qm ls C h1 h2 (by omega) (by omega) (V.push (hx ad cA q) g1 g2 g3) (hL.mono (Nat.le_succ _) ad_up) ((hS.tl.mono (Nat.le_succ _)).cons (Nat.lt_succ_self (mN M)))
  rw [List.map_cons, hS.tl.map ad_up, e1, e2, show tr (va_up ad (mN M) q) (.ref (mN M)) = .ref q from congrArg Value.ref up_at] at g
  exact g (fun r M' pcF lsF ad' H' locs' a1 a2 a3 => F r M' pcF lsF ad' H' locs' a1 (Nat.le_trans (Nat.le_succ _) a2) (fun id hid => (a3 id (Nat.lt_succ_of_lt hid)).trans (ad_up id hid)))
theorem aw_int : Cond.arrayClass .int ∈ gtb := gt_of 45 rfl rfl
theorem aw_byte : Cond.arrayClass .byte ∈ gtb := gt_of 861 (by decide +kernel) rfl
theorem aw_bool : Cond.arrayClass .boolean ∈ gtb := gt_of 983 (by decide +kernel) rfl
theorem aw_long : Cond.arrayClass .long ∈ gtb := gt_of 1343 (by decide +kernel) rfl
theorem al_i {t N : Nat} (ht : t = 1 ∨ t = 2 ∨ t = 3) (ad : Nat → Nat) (cA : Nat → ClassId) : cel ad cA (alM M (t, N)) (mN M) = .inl (cA t, N, .inl (fun _ => 0)) := by
  rw [cel_i (M := alM M (t, N)) t ht (show mS (alM M (t, N)) (mN M) = (t, N) from up_at), show mI (alM M (t, N)) (mN M) = fun _ => 0 from up_at]
theorem r_newI {n : Int32} {N : Nat} (hd : decode y.2.1 pc = .ok (.newarray .int, 2)) (hn : ¬ n < 0) (hN : n.toNatClampNeg = N) (hb : N * 4 ≤ 536870912) (kk : wp d kc ks y (pc + 2) L (.ref (mN M) :: st) (alM M (1, N)) Q) : wp d (kc + 1) (ks + N) y pc L (.int n :: st) M Q :=
  r_newa_g 1 .int .int (N, .inl (fun _ => 0)) hd rfl (fun _ => rfl) (fun _ _ h => h) aw_int (fun _ => rfl) hn hN hb (fun ad cA q => al_i (by decide) _ cA) kk
theorem r_newB {n : Int32} {N : Nat} (hd : decode y.2.1 pc = .ok (.newarray .byte, 2)) (hn : ¬ n < 0) (hN : n.toNatClampNeg = N) (hb : N * 1 ≤ 536870912) (kk : wp d kc ks y (pc + 2) L (.ref (mN M) :: st) (alM M (2, N)) Q) : wp d (kc + 1) (ks + N) y pc L (.int n :: st) M Q :=
  r_newa_g 2 .byte .byte (N, .inl (fun _ => 0)) hd rfl (fun _ => rfl) (fun _ _ h => h) aw_byte (fun _ => rfl) hn hN hb (fun ad cA q => al_i (by decide) _ cA) kk
theorem r_newZ {n : Int32} {N : Nat} (hd : decode y.2.1 pc = .ok (.newarray .boolean, 2)) (hn : ¬ n < 0) (hN : n.toNatClampNeg = N) (hb : N * 1 ≤ 536870912) (kk : wp d kc ks y (pc + 2) L (.ref (mN M) :: st) (alM M (3, N)) Q) : wp d (kc + 1) (ks + N) y pc L (.int n :: st) M Q :=
  r_newa_g 3 .boolean .boolean (N, .inl (fun _ => 0)) hd rfl (fun _ => rfl) (fun _ _ h => h) aw_bool (fun _ => rfl) hn hN hb (fun ad cA q => al_i (by decide) _ cA) kk
theorem r_newJ {n : Int32} {N : Nat} (hd : decode y.2.1 pc = .ok (.newarray .long, 2)) (hn : ¬ n < 0) (hN : n.toNatClampNeg = N) (hb : N * 8 ≤ 536870912) (kk : wp d kc ks y (pc + 2) L (.ref (mN M) :: st) (alM M (4, N)) Q) : wp d (kc + 1) (ks + N) y pc L (.int n :: st) M Q :=
  r_newa_g 4 .long .long (N, .inr (.inl (fun _ => 0))) hd rfl (fun _ => rfl) (fun _ _ h => h) aw_long (fun _ => rfl) hn hN hb (fun ad cA q => by
    rw [cel_j (M := alM M (4, N)) (show mS (alM M (4, N)) (mN M) = (4, N) from up_at), show mJ (alM M (4, N)) (mN M) = fun _ => 0 from up_at]) kk
theorem r_anew {n : Int32} {N : Nat} (idx : Nat) (hd : decode y.2.1 pc = .ok (.anewarray idx, 3)) (hcl : Cond.classLink y.1.cls idx "PriceUpon$Trade" ∈ gtb) (hn : ¬ n < 0) (hN : n.toNatClampNeg = N) (hb : N * 4 ≤ 536870912) (kk : wp d kc ks y (pc + 3) L (.ref (mN M) :: st) (alM M (5, N)) Q) : wp d (kc + 1) (ks + N) y pc L (.int n :: st) M Q := by
  intro p l e R s m args below meth c D cA A ad H locs cells slots Qm ls C h1 h2 h3 h4 V hL hS F
  have hts := C.2.2.2.2.2.1
  refine va_newq (D := D) C.1 C.2.1 C.2.2.2.2.1 (hts _ hcl) C.2.2.2.2.2.2.2.2.2.1 V.1 V.2.1 V.2.2.1 V.2.2.2.1 V.2.2.2.2.1 hn hN hb (by omega) (by omega) hd (fun q cA' H1 gK g1 g2 g3 => ?_)
  have ec : cA' = cA 5 := by
    obtain ⟨_, _, _, _, _, b1⟩ := (gK.2 6 (cA', .object "PriceUpon$Trade") rfl).2
    obtain ⟨_, _, _, _, _, b2⟩ := (V.1.2 4 _ rfl).2
    exact Option.some.inj (b1.symm.trans b2)
  subst ec
  have hx : cel (va_up ad (mN M) q) cA (alM M (5, N)) (mN M) = .inl (cA 5, N, .inr (.inr (.inr (.inr (fun _ => none))))) := by
    rw [cel_r (M := alM M (5, N)) 5 (by decide) (show mS (alM M (5, N)) (mN M) = (5, N) from up_at), show mP (alM M (5, N)) (mN M) = fun _ => none from up_at]
    rfl
  have e1 : cells + 1 + kc = cells + (kc + 1) := by omega
  have e2 : slots + N + ks = slots + (ks + N) := by omega
  have g := kk p l e R s m args below meth c D cA A (va_up ad (mN M) q) H1 locs (cells + 1) (slots + N) Qm ls C h1 h2 (by omega) (by omega) (V.push hx g1 g2 g3) (hL.mono (Nat.le_succ _) ad_up) ((hS.tl.mono (Nat.le_succ _)).cons (Nat.lt_succ_self (mN M)))
  rw [List.map_cons, hS.tl.map ad_up, e1, e2, show tr (va_up ad (mN M) q) (.ref (mN M)) = .ref q from congrArg Value.ref up_at] at g
  exact g (fun r M' pcF lsF ad' H' locs' a1 a2 a3 => F r M' pcF lsF ad' H' locs' a1 (Nat.le_trans (Nat.le_succ _) a2) (fun id hid => (a3 id (Nat.lt_succ_of_lt hid)).trans (ad_up id hid)))
end ALLOC
/-- an array of N arrays of K ints: the outer one, then the rows -/
def alR (M : Mm) (N K : Nat) : Mm :=
  (fun a => if a < mN M then mI M a else fun _ => 0, fun a => if a < mN M then mP M a else if a = mN M then (fun k => if k < N then some (mN M + 1 + k) else none) else fun _ => none, fun a => if a < mN M then mJ M a else fun _ => 0, fun a => if a < mN M then mS M a else if a = mN M then (6, N) else (1, K), mN M + 1 + N)
def adR (ad : Nat → Nat) (n q : Nat) (r : Nat → Nat) : Nat → Nat := fun id => if id < n then ad id else if id = n then q else r (id - (n + 1))
theorem adR_lt {ad : Nat → Nat} {n q : Nat} {r : Nat → Nat} : ∀ id, id < n → adR ad n q r id = ad id := fun id h => by simp [adR, h]
theorem wsO_rows {ad : Nat → Nat} {cA : Nat → ClassId} {M : Mm} {N K q : Nat} {r : Nat → Nat} {f : Nat → va_E} (hP : ∀ id k a, mP M id k = some a → a < mN M) : ((wsO ad cA M ++ [(q, .inl (cA 6, N, .inr (.inr (.inr (.inr (fun i => if i < N then some (r i) else none))))))]) ++ va_pl ([] ++ (List.range N).map r) (vr_up f ([] ++ (List.range N).map r) (.inl (cA 1, K, .inl (fun _ => 0))))) = wsO (adR ad (mN M) q r) cA (alR M N K) := by
  have e0 : mN (alR M N K) = mN M + 1 + N := rfl
  unfold wsO
  rw [e0, List.range_add, List.range_succ, List.map_append, List.map_append, List.map_singleton]
  have a1 : ∀ j, j < mN M → cel (adR ad (mN M) q r) cA (alR M N K) j = cel ad cA M j := fun j hj => cel_ad adR_lt hP (by simp [alR, mI, mN, hj]) (by simp [alR, mP, mN, hj]) (by simp [alR, mJ, mN, hj]) (by simp [alR, mS, mN, hj])
  have a2 : cel (adR ad (mN M) q r) cA (alR M N K) (mN M) = .inl (cA 6, N, .inr (.inr (.inr (.inr (fun i => if i < N then some (r i) else none))))) := by
    rw [cel_r (M := alR M N K) (n := N) 6 (by decide) (by simp [alR, mS, mN])]
    have : (fun k => (mP (alR M N K) (mN M) k).map (adR ad (mN M) q r)) = fun i => if i < N then some (r i) else none := by
      funext k
      show Option.map _ ((if mN M < mN M then mP M (mN M) else if mN M = mN M then (fun k => if k < N then some (mN M + 1 + k) else none) else fun _ => none) k) = _
      rw [if_neg (Nat.lt_irrefl _), if_pos rfl]
      by_cases hk : k < N
      · simp only [hk, if_true, Option.map_some]
        unfold adR
        rw [if_neg (by omega), if_neg (by omega), show mN M + 1 + k - (mN M + 1) = k by omega]
      · simp [hk]
    rw [this]
  have a3 : ∀ i, i < N → cel (adR ad (mN M) q r) cA (alR M N K) (mN M + 1 + i) = .inl (cA 1, K, .inl (fun _ => 0)) := by
    intro i hi
    have z1 : ¬ mN M + 1 + i < mN M := by omega
    have z2 : ¬ mN M + 1 + i = mN M := by omega
    rw [cel_i (M := alR M N K) (n := K) 1 (by decide) (by show (if _ then _ else _) = _; rw [if_neg z1, if_neg z2])]
    rw [show mI (alR M N K) (mN M + 1 + i) = fun _ => 0 from if_neg z1]
  congr 1
  · congr 1
    · apply List.map_congr_left
      intro j hj
      have hj := List.mem_range.mp hj
      rw [a1 j hj, adR_lt j hj]
    · rw [a2]
      simp [adR]
  · unfold va_pl
    rw [List.nil_append, List.map_map, List.map_map]
    apply List.map_congr_left
    intro i hi
    have hi' := List.mem_range.mp hi
    show (r i, vr_up f ((List.range N).map r) (.inl (cA 1, K, .inl (fun _ => 0))) (r i)) = (adR ad (mN M) q r (mN M + 1 + i), cel (adR ad (mN M) q r) cA (alR M N K) (mN M + 1 + i))
    rw [a3 i hi', vr_up_in (List.mem_map.mpr ⟨i, hi, rfl⟩)]
    unfold adR
    rw [if_neg (by omega), if_neg (by omega), show mN M + 1 + i - (mN M + 1) = i by omega]
theorem alR_ok {M : Mm} {N K : Nat} (h : ∀ id k a, mP M id k = some a → a < mN M) : ∀ id k a, mP (alR M N K) id k = some a → a < mN (alR M N K) := by
  intro id k a ha
  have e0 : mN (alR M N K) = mN M + 1 + N := rfl
  rw [e0]
  have ha : (if id < mN M then mP M id else if id = mN M then (fun k => if k < N then some (mN M + 1 + k) else none) else fun _ => none) k = some a := ha
  split at ha
  · have := h id k a ha
    omega
  · split at ha
    · simp only at ha
      split at ha
      · cases ha
        omega
      · cases ha
    · cases ha
theorem r_mna {d kc ks : Nat} {y : Yt} {pc : Nat} {L : List (Option Value)} {st : List Value} {M : Mm} {Q : Option Value → Mm → Prop} {n k : Int32} {N K : Nat} (idx : Nat) (hd : decode y.2.1 pc = .ok (.multianewarray idx 2, 4)) (hcl : Cond.classLink y.1.cls idx "[[I" ∈ gtb) (hn : ¬ n < 0) (hk : ¬ k < 0) (hN : n.toNatClampNeg = N) (hK : k.toNatClampNeg = K) (hb1 : N * 4 ≤ 536870912) (hb2 : K * 4 ≤ 536870912)
    (kk : wp d kc ks y (pc + 4) L (.ref (mN M) :: st) (alR M N K) Q) : wp d (kc + (1 + N)) (ks + (N + N * K)) y pc L (.int k :: .int n :: st) M Q := by
  intro p l e R s m args below meth c D cA A ad H locs cells slots Qm ls C h1 h2 h3 h4 V hL hS F
  have hts := C.2.2.2.2.2.1
  have hcy : s.vm.findClass (FieldType.array .int).toString = some (cA 1) := (V.1.2 0 _ rfl).2
  refine va_mna (D := D) (X := wsO ad cA M) (L := []) (f := fun _ => .inr (0, [])) (ty := .int) (z := (K, .inl (fun _ => 0))) C.1 C.2.1 C.2.2.2.2.1 (hts _ hcl) C.2.2.2.2.2.2.2.2.2.2 (hts _ aw_int) hcy V.1 (by rw [show va_pl [] (fun _ => .inr (0, [])) = ([] : va_W) from rfl, List.append_nil]; exact V.2.1) (by rw [show va_pl [] (fun _ => .inr (0, [])) = ([] : va_W) from rfl, List.append_nil]; exact V.2.2.1) V.2.2.2.1 V.2.2.2.2.1 hn hk hN hK hb1 hb2 (by omega) rfl rfl (by omega) (by omega) (fun c => ?_) hd (fun q r cA' H1 _ _ gK g1 g2 g3 => ?_)
  · show ({ cls := c, slots := Array.replicate K (.int 0), vm := .none } : Cell) = arrV c K (fun _ => .int 0)
    rw [arrV_new]
  have ec : cA' = cA 6 := by
    have b1 : s.vm.findClass ("[" ++ (FieldType.array .int).toString) = some cA' := (gK.2 6 (cA', .array .int) rfl).2
    have b2 : s.vm.findClass ("[" ++ (FieldType.array .int).toString) = some (cA 6) := (V.1.2 5 _ rfl).2
    exact Option.some.inj (b1.symm.trans b2)
  subst ec
  have ew := wsO_rows (ad := ad) (cA := cA) (N := N) (K := K) (q := q) (r := r) (f := fun _ => .inr (0, [])) V.2.2.2.2.2
  rw [List.nil_append] at ew
  rw [List.nil_append, ew] at g1 g2
  have V' : Iv s D cA A (adR ad (mN M) q r) (alR M N K) s.heap H1 locs := ⟨V.1, g1, g2, g3, V.2.2.2.2.1, alR_ok V.2.2.2.2.2⟩
  have e0 : mN (alR M N K) = mN M + 1 + N := rfl
  have hle : mN M ≤ mN (alR M N K) := by omega
  have g := kk p l e R s m args below meth c D cA A (adR ad (mN M) q r) H1 locs (cells + 1 + N) (slots + N + N * K) Qm ls C h1 h2 (by omega) (by omega) V' (hL.mono hle adR_lt) ((hS.tl.tl.mono hle).cons (show mN M < mN (alR M N K) by omega))
  rw [List.map_cons, hS.tl.tl.map adR_lt, show cells + 1 + N + kc = cells + (kc + (1 + N)) by omega, show slots + N + N * K + ks = slots + (ks + (N + N * K)) by omega, show tr (adR ad (mN M) q r) (.ref (mN M)) = .ref q from congrArg Value.ref (by simp [adR])] at g
  exact g (fun r' M' pcF lsF ad' H' locs' a1 a2 a3 => F r' M' pcF lsF ad' H' locs' a1 (Nat.le_trans hle a2) (fun id hid => (a3 id (Nat.lt_of_lt_of_le hid hle)).trans (adR_lt id hid)))
end
section
/-! ===== contracts over the abstract memory, and calls ===== -/
def cP (D : va_G) (cA : Nat → ClassId) (ad : Nat → Nat) (sz : Nat) (As : List Value) (M : Mm) : Array Value → State → Prop :=
  va_Pc (As.map (tr ad)) (fun U => U.heap.size = sz ∧ va_P D vwCl (wsO ad cA M) U.heap ∧ va_K D vwCl (tysO cA) U ∧ va_D (fun _ => True) (wsO ad cA M) ∧ XW U)
def cQ (D : va_G) (cA : Nat → ClassId) (ad : Nat → Nat) (sz : Nat) (M : Mm) (Q : Option Value → Mm → Prop) : Array Value → State → Outcome → State → Prop := fun _ st oc t =>
  (∃ (r : Option Value) (M' : Mm) (ad' : Nat → Nat), oc = .returned (r.map (tr ad')) ∧ Q r M' ∧ mN M ≤ mN M' ∧ (∀ id, id < mN M → ad' id = ad id) ∧ va_P D vwCl (wsO ad' cA M') t.heap ∧ va_D (va_A (wsO ad cA M) sz) (wsO ad' cA M') ∧ (∀ id k a, mP M' id k = some a → a < mN M') ∧ (∀ v, r = some v → okV (mN M') v)) ∧ va_F (va_A (wsO ad cA M) sz) st t
/-- the method y, called with As over M, ends with Q; d frames, kc cells and ks slots are enough -/
def Ct (d kc ks : Nat) (y : Yt) (As : List Value) (M : Mm) (Q : Option Value → Mm → Prop) : Prop :=
  ∀ (l : Launch) (D : va_G) (cA : Nat → ClassId) (ad : Nat → Nat) (sz : Nat), Sv (mN M) As → (∀ id k a, mP M id k = some a → a < mN M) →
    Met l y.1 (Cond.code y.1 y.2.1 y.2.2.1 y.2.2.2 :: gtb) ({ frames := d, cells := kc, slots := ks, locals := 40 * d }) (cP D cA ad sz As M) (cQ D cA ad sz M Q) kc ks (va_A (wsO ad cA M) sz)
theorem lg_len1 : ∀ (vs : List Value), (∀ v ∈ vs, v.category = 1) → (lg_sl vs).length = vs.length
  | [], _ => rfl
  | v :: vs, h => by
    have h1 := h v List.mem_cons_self
    have h2 := lg_len1 vs (fun w hw => h w (List.mem_cons_of_mem _ hw))
    unfold lg_sl at h2 ⊢
    rw [List.flatMap_cons, List.length_append, h2, h1]
    simp
    omega
theorem lv_args1 : ∀ (vs : List Value) (k i : Nat) (v : Value), (∀ v ∈ vs, v.category = 1) → vs[i]? = some v → (k + i, v) ∈ lv_args k vs
  | [], _, _, _, _, h => by simp at h
  | w :: vs, k, 0, v, _, h => by
    simp at h
    subst h
    exact List.mem_cons_self
  | w :: vs, k, i + 1, v, hc, h => by
    have h1 := hc w List.mem_cons_self
    have h2 : vs[i]? = some v := by simpa using h
    have h3 := lv_args1 vs (k + 1) i v (fun w hw => hc w (List.mem_cons_of_mem _ hw)) h2
    unfold lv_args
    rw [h1]
    refine List.mem_cons_of_mem _ ?_
    rw [show k + (i + 1) = k + 1 + i by omega]
    exact h3
def ent (y : Yt) (As : List Value) : List (Option Value) := As.map some ++ List.replicate (y.2.2.1 - As.length) none
theorem Lv.entry {y : Yt} {As : List Value} {ad : Nat → Nat} {n : Nat} {ls : Array Slot} (hc : ∀ v ∈ As, v.category = 1) (hS : Sv n As) (h : lv_has ls y.2.2.1 (lv_args 0 (As.map (tr ad)))) : Lv ls y.2.2.1 ad n (ent y As) := by
  refine ⟨h.1, h.2.1, fun i v hv => ?_⟩
  unfold ent at hv
  by_cases hi : i < As.length
  · rw [List.getElem?_append_left (by simpa using hi), List.getElem?_map] at hv
    cases h1 : As[i]? with
    | none => rw [h1] at hv; cases hv
    | some w =>
      rw [h1] at hv
      have e : w = v := by simpa using hv
      subst e
      refine ⟨?_, hS w (List.mem_of_getElem? h1)⟩
      have := lv_args1 (As.map (tr ad)) 0 i (tr ad w) (fun z hz => by
        obtain ⟨x, hx, rfl⟩ := List.mem_map.mp hz
        rw [tr_cat]
        exact hc x hx) (by rw [List.getElem?_map, h1]; rfl)
      rw [Nat.zero_add] at this
      exact h.2.2 _ this
  · rw [List.getElem?_append_right (by simpa using hi)] at hv
    have := List.mem_replicate.mp (List.mem_of_getElem? hv)
    cases this.2
theorem Ct.of {d kc ks : Nat} {y : Yt} {As : List Value} {M : Mm} {Q : Option Value → Mm → Prop} (hy : plainName y.1.cls = true) (hc : ∀ v ∈ As, v.category = 1) (hlen : As.length ≤ y.2.2.1) (h : wp d kc ks y 0 (ent y As) [] M Q) : Ct d kc ks y As M Q := by
  intro l D cA ad sz hSv hPv
  refine Met.ofW (cc := y.2.1) (maxL := y.2.2.1) (ret := y.2.2.2) hy rfl ?_
  intro p e s m args below meth c s₁ B hml hv
  obtain ⟨rfl, hsz, hP, hK, hD0, hX⟩ := hv
  subst hsz
  have hts := atoms_spec (ws := Cond.code y.1 y.2.1 y.2.2.1 y.2.2.2 :: gtb) B.pre
  have hc' : ∀ v ∈ As.map (tr ad), v.category = 1 := fun z hz => by
    obtain ⟨x, hx, rfl⟩ := List.mem_map.mp hz
    rw [tr_cat]
    exact hc x hx
  have hl := lv_entry (As.map (tr ad)) (n := y.2.2.1) (by rw [lg_len1 _ hc', List.length_map]; exact hlen)
  rw [lg_entry_eq]
  generalize (lg_sl (As.map (tr ad)) ++ List.replicate (y.2.2.1 - (lg_sl (As.map (tr ad))).length) Slot.unset).toArray = ls at hl ⊢
  have C : Cx p s m (As.map (tr ad)).toArray meth c y := ⟨B.exec, B.bytes, hml, B.returns, findClass_of_methodNamed B.named, fun w hw => hts w (List.mem_cons_of_mem _ hw), B.notSynchronized, fun h => (name_of_methodNamed B.named B.method).1.trans h, hX⟩
  have hlocks := B.notSynchronized
  have V : Iv s D cA (va_A (wsO ad cA M) s.heap.size) ad M s.heap s.heap [] := ⟨hK, hP, hD0.self, va_S.rf, fun q h => Or.inr h, hPv⟩
  refine h p l e _ s m _ below meth c D cA _ ad s.heap [] 0 0 _ ls C (Nat.le_refl _) (Nat.le_refl _) (by rw [Nat.zero_add]; exact Nat.le_refl _) (by rw [Nat.zero_add]; exact Nat.le_refl _) V (Lv.entry hc hSv hl) (fun v hv => by cases hv) ?_
  intro r M' pcF lsF ad' H' locs' q hn hag V' hok hrt
  rw [Nat.zero_add, Nat.zero_add]
  have Qf : ∀ t : State, t.heap = H' → cQ D cA ad s.heap.size M Q (As.map (tr ad)).toArray s (.returned (r.map (tr ad'))) t := fun t ht =>
    ⟨⟨r, M', ad', rfl, q, hn, hag, by rw [ht]; exact V'.2.1, V'.2.2.1, V'.2.2.2.2.2, hok⟩, V'.2.2.2.1.F ht⟩
  cases r with
  | none => exact W.vret C.1 C.2.1 (C.2.2.2.1.trans hrt.2) (fun t ht _ => Qf t ht) V'.2.2.2.1.2.2 hrt.1
  | some v =>
    cases v with
    | int v =>
      obtain ⟨g1, ty, g2, g3⟩ := hrt
      exact W.zret (v := v) C.1 C.2.1 (C.2.2.2.1.trans g2) g3 (fun t ht _ => Qf t ht) V'.2.2.2.1.2.2 g1
    | null =>
      obtain ⟨g1, -, rt, g2, g3⟩ := hrt
      exact W.aret (v := .null) C.1 C.2.1 (C.2.2.2.1.trans g2) g3 (Or.inl rfl) (fun t ht _ => Qf t ht) V'.2.2.2.1.2.2 g1
    | ref a =>
      obtain ⟨g1, -, rt, g2, g3⟩ := hrt
      exact W.aret (v := .ref (ad' a)) C.1 C.2.1 (C.2.2.2.1.trans g2) g3 (Or.inr ⟨_, rfl⟩) (fun t ht _ => Qf t ht) V'.2.2.2.1.2.2 g1
    | _ =>
      obtain ⟨-, g, -⟩ := hrt
      rcases g with g | ⟨a, g⟩ <;> cases g
theorem Ct.mono {d kc ks : Nat} {y : Yt} {As : List Value} {M : Mm} {Q Q' : Option Value → Mm → Prop} (h : Ct d kc ks y As M Q) (hq : ∀ r M', Q r M' → Q' r M') : Ct d kc ks y As M Q' := by
  intro l D cA ad sz h1 h2
  have g := h l D cA ad sz h1 h2
  intro p e ha hc hk s m args below hf hap hP hK
  obtain ⟨t, o, a1, a2, a3, ⟨⟨r, M', ad', b1, b2, b3⟩, b4⟩, b5⟩ := g p e ha hc hk s m args below hf hap hP hK
  exact ⟨t, o, a1, a2, a3, ⟨⟨r, M', ad', b1, hq r M' b2, b3⟩, b4⟩, b5⟩
theorem gt_good {c : Cond} (h : c ∈ gtb) : GoodIn gtb (c :: gtb) := by
  intro w hw
  have hw' : w ∈ gtb := (List.mem_cons.mp hw).elim (fun e => e ▸ h) id
  exact ⟨hw', good_of_word (List.mem_filter.mp hw').2⟩
/-- what a call of y2 from y needs of the tables -/
def lkB (y2 : Yt) (n : Nat) : Prop := Cond.code y2.1 y2.2.1 y2.2.2.1 y2.2.2.2 ∈ gtb ∧ Cond.initialized y2.1.cls ∈ gtb ∧ (y2.1.cls ≠ "java/lang/invoke/MethodHandle" ∧ y2.1.cls ≠ "java/lang/invoke/VarHandle" ∧ (parseMethodDescriptor y2.1.desc).map (fun d => d.parameters.length) = some n) ∧ y2.2.2.1 ≤ 21
section CALLS
variable {d kc ks kc1 ks1 : Nat} {y y2 : Yt} {pc : Nat} {L : List (Option Value)} {st stk : List Value} {M : Mm} {Q Q1 : Option Value → Mm → Prop} {b : Nat} {As : List Value}
theorem cP_blind {D : va_G} {cA : Nat → ClassId} {ad : Nat → Nat} {sz : Nat} : FrameBlind (cP D cA ad sz As M) := by
  intro a U g mk q
  obtain ⟨q0, q1, qP, qK, qD, qX⟩ := q
  exact ⟨q0, q1, qP, va_K.moved (u := U) (U := U.calling g mk a) (Vm.Alike.refl U.vm) qK, qD, XW.same (u := U) (U := U.calling g mk a) rfl qX⟩
theorem call_go {p : Program} {l : Launch} {e : Env} {R : Room} {s : State} {m : MethodId} {args : Array Value} {below : List Frame} {meth : Method} {c : Code} {D : va_G} {cA : Nat → ClassId} {A : Nat → Prop} {ad : Nat → Nat} {H : Heap} {locs : List Loc} {cells slots mc ms : Nat} {Qm : State → Prop} {ls : Array Slot} {st0 rest : List Value} {a : Array Value}
    (hr : va_Run p l e R s m args below meth c H locs cells slots mc ms (F0 m pc ls st0) rest (cQ D cA ad H.size M Q1 a) (va_A (wsO ad cA M) H.size)) (V : Iv s D cA A ad M s.heap H locs)
    (kk : ∀ (r : Option Value) (M' : Mm) (ad' : Nat → Nat) (H1 : Heap) (locs1 : List Loc), Q1 r M' → mN M ≤ mN M' → (∀ id, id < mN M → ad' id = ad id) → Iv s D cA A ad' M' s.heap H1 locs1 → (∀ v, r = some v → okV (mN M') v) → W p l e R s m args below meth c H1 locs1 (cells + mc) (slots + ms) Qm (F0 m (pc + 3) ls ((r.map (tr ad')).toList ++ rest))) :
    W p l e R s m args below meth c H locs cells slots Qm (F0 m pc ls st0) := by
  intro T hT X
  obtain ⟨v, st₀, t, T', Lc, h0, X', hL, e1, e2, ⟨⟨r, M', ad', hv, hQ, hn, hag, hP, hD, hPv, hok⟩, hz, hk⟩, st⟩ := hr T hT X
  cases hv
  rw [h0] at hz hk
  have hAA : ∀ q, va_A (wsO ad cA M) H.size q → A q := by
    intro q hq
    rcases hq with ⟨k, x, hq⟩ | hq
    · exact V.2.2.1.2 k (q, x) hq
    · exact V.2.2.2.2.1 q (Nat.le_trans V.2.2.2.1.1 hq)
  have V' : Iv s D cA A ad' M' s.heap T'.heap (locs ++ Lc) := by
    refine ⟨V.1, by rw [e1]; exact hP, hD.weaken (fun _ q _ h => hAA q.1 h), ⟨Nat.le_trans V.2.2.2.1.1 (by rw [e1]; exact hz), fun q h1 h2 => ?_, fun q hq => ?_⟩, V.2.2.2.2.1, hPv⟩
    · rw [e1, hk q (Nat.lt_of_lt_of_le h1 V.2.2.2.1.1) (fun z => h2 (hAA q z))]
      exact V.2.2.2.1.2.1 q h1 h2
    · rcases List.mem_append.mp hq with h | h
      · exact V.2.2.2.1.2.2 q h
      · exact hAA _ (hL q h)
  obtain ⟨t2, a1, b1⟩ := kk r M' ad' T'.heap (locs ++ Lc) hQ hn hag V' hok T' rfl X'
  exact ⟨t2, st t2 a1, b1⟩
theorem tr_stk {ad : Nat → Nat} : (As.reverse ++ st).map (tr ad) = (As.map (tr ad)).reverse ++ st.map (tr ad) := by
  rw [List.map_append, List.map_reverse]
theorem cat_sum {ad : Nat → Nat} : ((st.map (tr ad)).map fun v => v.category).sum = (st.map fun v => v.category).sum := by
  rw [List.map_map]
  exact congrArg List.sum (List.map_congr_left fun v _ => tr_cat ad v)
/-- behind a call: the rest of the walk -/
theorem call_k {p : Program} {l : Launch} {e : Env} {R : Room} {s : State} {m : MethodId} {args : Array Value} {below : List Frame} {meth : Method} {c : Code} {D : va_G} {cA : Nat → ClassId} {A : Nat → Prop} {ad : Nat → Nat} {cells slots : Nat} {Qm : State → Prop} {ls : Array Slot}
    (C : Cx p s m args meth c y) (h1 : d + 1 ≤ R.frames) (h2 : 40 * (d + 1) ≤ R.locals) (h3 : cells + (kc1 + kc) ≤ R.cells) (h4 : slots + (ks1 + ks) ≤ R.slots) (hL : Lv ls y.2.2.1 ad (mN M) L) (hS : Sv (mN M) st)
    (F : ∀ (r : Option Value) (M' : Mm) (pcF : Nat) (lsF : Array Slot) (ad' : Nat → Nat) (H' : Heap) (locs' : List Loc), Q r M' → mN M ≤ mN M' → (∀ id, id < mN M → ad' id = ad id) → Iv s D cA A ad' M' s.heap H' locs' → (∀ v, r = some v → okV (mN M') v) → Rt y pcF r → W p l e R s m args below meth c H' locs' (cells + (kc1 + kc)) (slots + (ks1 + ks)) Qm (F0 m pcF lsF ((r.map (tr ad')).toList)))
    (kk : ∀ r M', Q1 r M' → mN M ≤ mN M' → wp (d + 1) kc ks y (pc + 3) L (r.toList ++ st) M' Q) :
    ∀ (r : Option Value) (M' : Mm) (ad' : Nat → Nat) (H1 : Heap) (locs1 : List Loc), Q1 r M' → mN M ≤ mN M' → (∀ id, id < mN M → ad' id = ad id) → Iv s D cA A ad' M' s.heap H1 locs1 → (∀ v, r = some v → okV (mN M') v) → W p l e R s m args below meth c H1 locs1 (cells + kc1) (slots + ks1) Qm (F0 m (pc + 3) ls ((r.map (tr ad')).toList ++ st.map (tr ad))) := by
  intro r M' ad' H1 locs1 q hn hag V' hok
  have g := kk r M' q hn p l e R s m args below meth c D cA A ad' H1 locs1 (cells + kc1) (slots + ks1) Qm ls C h1 h2 (by omega) (by omega) V' (hL.mono hn hag) (fun v hv => by
    rcases List.mem_append.mp hv with h | h
    · exact hok v (by simpa using h)
    · exact okV_le hn (hS v h))
  have es : (r.toList ++ st).map (tr ad') = (r.map (tr ad')).toList ++ st.map (tr ad) := by
    rw [List.map_append, hS.map hag]
    cases r <;> rfl
  rw [es, show cells + kc1 + kc = cells + (kc1 + kc) by omega, show slots + ks1 + ks = slots + (ks1 + ks) by omega] at g
  exact g (fun r2 M2 pcF lsF ad2 H2 locs2 a1 a2 a3 => F r2 M2 pcF lsF ad2 H2 locs2 a1 (Nat.le_trans hn a2) (fun id hid => (a3 id (Nat.lt_of_lt_of_le hid hn)).trans (hag id hid)))
/-- a call of a method of an object -/
theorem r_callV (ci idx : Nat) (hd : decode y.2.1 pc = .ok (.invokevirtual idx, 3)) (lk : lkB y2 As.length) (hl : Cond.methodLink y.1.cls idx y2.1 ∈ gtb) (hin : Cond.instanceMethod y2.1 ∈ gtb) (hse : Cond.selects (Cof ci) y2.1 y2.1 ∈ gtb) (hci : ci < 11) (ho : ob M b ci) (hw : (st.map fun v => v.category).sum ≤ 8) (hs : stk = As.reverse ++ .ref b :: st) (hc : Ct d kc1 ks1 y2 (.ref b :: As) M Q1)
    (kk : ∀ r M', Q1 r M' → mN M ≤ mN M' → wp (d + 1) kc ks y (pc + 3) L (r.toList ++ st) M' Q) : wp (d + 1) (kc1 + kc) (ks1 + ks) y pc L stk M Q := by
  subst hs
  intro p l e R s m args below meth c D cA A ad H locs cells slots Qm ls C h1 h2 h3 h4 V hL hS F
  have hts := C.2.2.2.2.2.1
  have hSa : Sv (mN M) (.ref b :: As) := Sv.cons ho.1 (fun v hv => hS v (List.mem_append_left _ (List.mem_reverse.mpr hv)))
  have hSt : Sv (mN M) st := fun v hv => hS v (List.mem_append_right _ (List.mem_cons_of_mem _ hv))
  have cb : CallB R s args y.1.cls idx y2.1 y2.2.1 y2.2.2.1 y2.2.2.2 (Cond.code y2.1 y2.2.1 y2.2.2.1 y2.2.2.2 :: gtb) ({ frames := d, cells := kc1, slots := ks1, locals := 40 * d }) kc1 ks1 As.length := callB_of _ hts (gt_good lk.1) rfl rfl rfl (hts _ lk.2.1) (hts _ hl) lk.2.2.1 ⟨h1, by have := lk.2.2.2; show 8 + (y2.2.2.1 + 11) + 40 * d ≤ R.locals; omega⟩
  have rn := va_runV (As := As.map (tr ad)) (rest := st.map (tr ad)) (g := F0 m pc ls ((As.reverse ++ .ref b :: st).map (tr ad))) (cells := cells) (slots := slots) (locs := locs) (H := H) (below := below) (e := e) (p := p) (l := l) (meth := meth) (c := c) (m := m) (b := ad b) (C := Cof ci) ⟨C.1, C.2.1, C.2.2.1, C.2.2.2.2.1, hts⟩ (hc l D cA ad H.size hSa V.2.2.2.2.2) ⟨cb, hts _ hin, hts _ hse⟩
    ⟨cP_blind, va_recv V.1 V.2.1 (cls_ok ci hci).1 (by rw [wsO_get ho.1, cel_o ho.2]), fun U hU hW => ⟨rfl, by rw [hU], by rw [hU]; exact V.2.1, va_K.moved hW.alike V.1, V.2.2.1.weaken (fun _ _ _ _ => trivial), XW.warm hW C.2.2.2.2.2.2.2.2⟩⟩ rfl (by rw [List.length_map]) hL.1 (tr_stk (st := .ref b :: st)) (lv_room (by rw [cat_sum]; exact hw)) hd ⟨by omega, by omega⟩
  exact call_go (Q1 := Q1) rn V (call_k C h1 h2 h3 h4 hL hSt F kk)
theorem r_callS (idx : Nat) (hd : decode y.2.1 pc = .ok (.invokestatic idx, 3)) (lk : lkB y2 As.length) (hl : Cond.methodLink y.1.cls idx y2.1 ∈ gtb) (hst : Cond.static y2.1 ∈ gtb) (hw : (st.map fun v => v.category).sum ≤ 8) (hs : stk = As.reverse ++ st) (hc : Ct d kc1 ks1 y2 As M Q1)
    (kk : ∀ r M', Q1 r M' → mN M ≤ mN M' → wp (d + 1) kc ks y (pc + 3) L (r.toList ++ st) M' Q) : wp (d + 1) (kc1 + kc) (ks1 + ks) y pc L stk M Q := by
  subst hs
  intro p l e R s m args below meth c D cA A ad H locs cells slots Qm ls C h1 h2 h3 h4 V hL hS F
  have hts := C.2.2.2.2.2.1
  have hSa : Sv (mN M) As := fun v hv => hS v (List.mem_append_left _ (List.mem_reverse.mpr hv))
  have hSt : Sv (mN M) st := fun v hv => hS v (List.mem_append_right _ hv)
  have cb : CallB R s args y.1.cls idx y2.1 y2.2.1 y2.2.2.1 y2.2.2.2 (Cond.code y2.1 y2.2.1 y2.2.2.1 y2.2.2.2 :: gtb) ({ frames := d, cells := kc1, slots := ks1, locals := 40 * d }) kc1 ks1 As.length := callB_of _ hts (gt_good lk.1) rfl rfl rfl (hts _ lk.2.1) (hts _ hl) lk.2.2.1 ⟨h1, by have := lk.2.2.2; show 8 + (y2.2.2.1 + 11) + 40 * d ≤ R.locals; omega⟩
  have rn := va_runS (As := As.map (tr ad)) (rest := st.map (tr ad)) (g := F0 m pc ls ((As.reverse ++ st).map (tr ad))) (cells := cells) (slots := slots) (locs := locs) (H := H) (below := below) (e := e) (p := p) (l := l) (meth := meth) (c := c) (m := m) ⟨C.1, C.2.1, C.2.2.1, C.2.2.2.2.1, hts⟩ (hc l D cA ad H.size hSa V.2.2.2.2.2) ⟨cb, hts _ hst⟩
    ⟨cP_blind, fun U hU hW => ⟨rfl, by rw [hU], by rw [hU]; exact V.2.1, va_K.moved hW.alike V.1, V.2.2.1.weaken (fun _ _ _ _ => trivial), XW.warm hW C.2.2.2.2.2.2.2.2⟩⟩ rfl (by rw [List.length_map]) hL.1 tr_stk (lv_room (by rw [cat_sum]; exact hw)) hd ⟨by omega, by omega⟩
  exact call_go (Q1 := Q1) rn V (call_k C h1 h2 h3 h4 hL hSt F kk)
/-- a static call of a private method of another class of the nest -/
theorem r_callSN (idx : Nat) (hd : decode y.2.1 pc = .ok (.invokestatic idx, 3)) (lk : lkB y2 As.length) (hl : (y.1.cls, idx, y2.1) ∈ nlk) (hst : Cond.static y2.1 ∈ gtb) (hw : (st.map fun v => v.category).sum ≤ 8) (hs : stk = As.reverse ++ st) (hc : Ct d kc1 ks1 y2 As M Q1)
    (kk : ∀ r M', Q1 r M' → mN M ≤ mN M' → wp (d + 1) kc ks y (pc + 3) L (r.toList ++ st) M' Q) : wp (d + 1) (kc1 + kc) (ks1 + ks) y pc L stk M Q := by
  subst hs
  intro p l e R s m args below meth c D cA A ad H locs cells slots Qm ls C h1 h2 h3 h4 V hL hS F
  have hts := C.2.2.2.2.2.1
  have hSa : Sv (mN M) As := fun v hv => hS v (List.mem_append_left _ (List.mem_reverse.mpr hv))
  have hSt : Sv (mN M) st := fun v hv => hS v (List.mem_append_right _ hv)
  have cb : va_CN R s args y.1.cls idx y2.1 "PriceUpon" y2.2.1 y2.2.2.1 y2.2.2.2 (Cond.code y2.1 y2.2.1 y2.2.2.1 y2.2.2.2 :: gtb) ({ frames := d, cells := kc1, slots := ks1, locals := 40 * d }) kc1 ks1 As.length := va_cnB _ hts (gt_good lk.1) rfl rfl rfl (C.2.2.2.2.2.2.2.2.1 _ hl) (hts _ lk.2.1) lk.2.2.1 ⟨h1, by have := lk.2.2.2; show 8 + (y2.2.2.1 + 11) + 40 * d ≤ R.locals; omega⟩
  have rn := va_runSN (As := As.map (tr ad)) (rest := st.map (tr ad)) (g := F0 m pc ls ((As.reverse ++ st).map (tr ad))) (cells := cells) (slots := slots) (locs := locs) (H := H) (below := below) (e := e) (p := p) (l := l) (meth := meth) (c := c) (m := m) ⟨C.1, C.2.1, C.2.2.1, C.2.2.2.2.1, hts⟩ (hc l D cA ad H.size hSa V.2.2.2.2.2) ⟨cb, hts _ hst, trivial⟩
    ⟨cP_blind, fun U hU hW => ⟨rfl, by rw [hU], by rw [hU]; exact V.2.1, va_K.moved hW.alike V.1, V.2.2.1.weaken (fun _ _ _ _ => trivial), XW.warm hW C.2.2.2.2.2.2.2.2⟩⟩ rfl (by rw [List.length_map]) hL.1 tr_stk (lv_room (by rw [cat_sum]; exact hw)) hd ⟨by omega, by omega⟩
  exact call_go (Q1 := Q1) rn V (call_k C h1 h2 h3 h4 hL hSt F kk)
/-- a constructor: of the class's own, or of another class of the nest -/
theorem r_callI (idx : Nat) (hd : decode y.2.1 pc = .ok (.invokespecial idx, 3)) (lk : lkB y2 As.length) (hl : Cond.methodLink y.1.cls idx y2.1 ∈ gtb) (hin : Cond.instanceMethod y2.1 ∈ gtb) (hnm : y2.1.name = "<init>") (hr : y2.2.2.2 = none) (hb : b < mN M) (hw : (st.map fun v => v.category).sum ≤ 8) (hs : stk = As.reverse ++ .ref b :: st) (hc : Ct d kc1 ks1 y2 (.ref b :: As) M Q1)
    (kk : ∀ r M', Q1 r M' → mN M ≤ mN M' → wp (d + 1) kc ks y (pc + 3) L (r.toList ++ st) M' Q) : wp (d + 1) (kc1 + kc) (ks1 + ks) y pc L stk M Q := by
  subst hs
  intro p l e R s m args below meth c D cA A ad H locs cells slots Qm ls C h1 h2 h3 h4 V hL hS F
  have hts := C.2.2.2.2.2.1
  have hSa : Sv (mN M) (.ref b :: As) := Sv.cons hb (fun v hv => hS v (List.mem_append_left _ (List.mem_reverse.mpr hv)))
  have hSt : Sv (mN M) st := fun v hv => hS v (List.mem_append_right _ (List.mem_cons_of_mem _ hv))
  have cb : CallB R s args y.1.cls idx y2.1 y2.2.1 y2.2.2.1 none (Cond.code y2.1 y2.2.1 y2.2.2.1 y2.2.2.2 :: gtb) ({ frames := d, cells := kc1, slots := ks1, locals := 40 * d }) kc1 ks1 As.length := callB_of _ hts (gt_good lk.1) (by rw [hr]) rfl rfl (hts _ lk.2.1) (hts _ hl) lk.2.2.1 ⟨h1, by have := lk.2.2.2; show 8 + (y2.2.2.1 + 11) + 40 * d ≤ R.locals; omega⟩
  have rn := va_runI (As := As.map (tr ad)) (rest := st.map (tr ad)) (g := F0 m pc ls ((As.reverse ++ .ref b :: st).map (tr ad))) (cells := cells) (slots := slots) (locs := locs) (H := H) (below := below) (e := e) (p := p) (l := l) (meth := meth) (c := c) (m := m) (b := ad b) ⟨C.1, C.2.1, C.2.2.1, C.2.2.2.2.1, hts⟩ (hc l D cA ad H.size hSa V.2.2.2.2.2) ⟨cb, hnm, hts _ hin⟩
    ⟨cP_blind, fun U hU hW => ⟨rfl, by rw [hU], by rw [hU]; exact V.2.1, va_K.moved hW.alike V.1, V.2.2.1.weaken (fun _ _ _ _ => trivial), XW.warm hW C.2.2.2.2.2.2.2.2⟩⟩ rfl (by rw [List.length_map]) hL.1 (tr_stk (st := .ref b :: st)) (lv_room (by rw [cat_sum]; exact hw)) hd ⟨by omega, by omega⟩
  exact call_go (Q1 := Q1) rn V (call_k C h1 h2 h3 h4 hL hSt F kk)
theorem r_callIN (idx : Nat) (hd : decode y.2.1 pc = .ok (.invokespecial idx, 3)) (lk : lkB y2 As.length) (hl : (y.1.cls, idx, y2.1) ∈ nlk) (hin : Cond.instanceMethod y2.1 ∈ gtb) (hnm : y2.1.name = "<init>") (hr : y2.2.2.2 = none) (hb : b < mN M) (hw : (st.map fun v => v.category).sum ≤ 8) (hs : stk = As.reverse ++ .ref b :: st) (hc : Ct d kc1 ks1 y2 (.ref b :: As) M Q1)
    (kk : ∀ r M', Q1 r M' → mN M ≤ mN M' → wp (d + 1) kc ks y (pc + 3) L (r.toList ++ st) M' Q) : wp (d + 1) (kc1 + kc) (ks1 + ks) y pc L stk M Q := by
  subst hs
  intro p l e R s m args below meth c D cA A ad H locs cells slots Qm ls C h1 h2 h3 h4 V hL hS F
  have hts := C.2.2.2.2.2.1
  have hSa : Sv (mN M) (.ref b :: As) := Sv.cons hb (fun v hv => hS v (List.mem_append_left _ (List.mem_reverse.mpr hv)))
  have hSt : Sv (mN M) st := fun v hv => hS v (List.mem_append_right _ (List.mem_cons_of_mem _ hv))
  have cb : va_CN R s args y.1.cls idx y2.1 "PriceUpon" y2.2.1 y2.2.2.1 none (Cond.code y2.1 y2.2.1 y2.2.2.1 y2.2.2.2 :: gtb) ({ frames := d, cells := kc1, slots := ks1, locals := 40 * d }) kc1 ks1 As.length := va_cnB _ hts (gt_good lk.1) (by rw [hr]) rfl rfl (C.2.2.2.2.2.2.2.2.1 _ hl) (hts _ lk.2.1) lk.2.2.1 ⟨h1, by have := lk.2.2.2; show 8 + (y2.2.2.1 + 11) + 40 * d ≤ R.locals; omega⟩
  have rn := va_runIN (As := As.map (tr ad)) (rest := st.map (tr ad)) (g := F0 m pc ls ((As.reverse ++ .ref b :: st).map (tr ad))) (cells := cells) (slots := slots) (locs := locs) (H := H) (below := below) (e := e) (p := p) (l := l) (meth := meth) (c := c) (m := m) (b := ad b) ⟨C.1, C.2.1, C.2.2.1, C.2.2.2.2.1, hts⟩ (hc l D cA ad H.size hSa V.2.2.2.2.2) ⟨cb, hnm, hts _ hin⟩
    ⟨cP_blind, fun U hU hW => ⟨rfl, by rw [hU], by rw [hU]; exact V.2.1, va_K.moved hW.alike V.1, V.2.2.1.weaken (fun _ _ _ _ => trivial), XW.warm hW C.2.2.2.2.2.2.2.2⟩⟩ rfl (by rw [List.length_map]) hL.1 (tr_stk (st := .ref b :: st)) (lv_room (by rw [cat_sum]; exact hw)) hd ⟨by omega, by omega⟩
  exact call_go (Q1 := Q1) rn V (call_k C h1 h2 h3 h4 hL hSt F kk)
/-- Object() -/
theorem r_objInit (idx : Nat) (hd : decode y.2.1 pc = .ok (.invokespecial idx, 3)) (hl : Cond.methodLink y.1.cls idx Lib.objectInit ∈ gtb) (hin : Cond.instanceMethod Lib.objectInit ∈ gtb) (hcd : Cond.code Lib.objectInit ⟨#[0xb1]⟩ 1 none ∈ gtb) (hw : (st.map fun v => v.category).sum ≤ 8) (kk : wp (d + 1) kc ks y (pc + 3) L st M Q) : wp (d + 1) kc ks y pc L (.ref b :: st) M Q := by
  intro p l e R s m args below meth c D cA A ad H locs cells slots Qm ls C h1 h2 h3 h4 V hL hS F
  have hts := C.2.2.2.2.2.1
  have := lv_room (m := m) (pc := pc) (ls := ls) (rest := (Value.ref b :: st).map (tr ad)) (st := st.map (tr ad)) (by rw [cat_sum]; exact hw)
  refine W.objInit C.1 C.2.1 C.2.2.2.2.1 (hts _ hl) (hts _ hin) (hts _ hcd) rfl (by rw [C.2.2.1]; exact hL.1) rfl hd (by omega) (by omega) ?_
  exact kk p l e R s m args below meth c D cA A ad H locs cells slots Qm ls C h1 h2 h3 h4 V hL hS.tl F
/-- Math.max, Math.min -/
theorem r_max {x z : Int32} (idx : Nat) (hd : decode y.2.1 pc = .ok (.invokestatic idx, 3)) (hl : Cond.methodLink y.1.cls idx Lib.Math.max.name ∈ gtb) (hst : Cond.static Lib.Math.max.name ∈ gtb) (hini : Cond.initialized "java/lang/Math" ∈ gtb) (hcd : Cond.code Lib.Math.max.name Lib.Math.max.code 2 (some .int) ∈ gtb) (hw : (st.map fun v => v.category).sum ≤ 8) (kk : wp (d + 1) kc ks y (pc + 3) L (.int (if x < z then z else x) :: st) M Q) : wp (d + 1) kc ks y pc L (.int z :: .int x :: st) M Q := by
  intro p l e R s m args below meth c D cA A ad H locs cells slots Qm ls C h1 h2 h3 h4 V hL hS F
  have hts := C.2.2.2.2.2.1
  exact va_mmax C.1 C.2.1 (by rw [C.2.2.1]; exact hL.1.symm) C.2.2.2.2.1 (hts _ hl) (hts _ hst) (hts _ hini) (hts _ hcd) (by omega) (by rw [cat_sum]; omega) (by omega) (by omega) hd (kk p l e R s m args below meth c D cA A ad H locs cells slots Qm ls C h1 h2 h3 h4 V hL (hS.tl.tl.cons trivial) F)
theorem r_min {x z : Int32} (idx : Nat) (hd : decode y.2.1 pc = .ok (.invokestatic idx, 3)) (hl : Cond.methodLink y.1.cls idx Lib.Math.min.name ∈ gtb) (hst : Cond.static Lib.Math.min.name ∈ gtb) (hini : Cond.initialized "java/lang/Math" ∈ gtb) (hcd : Cond.code Lib.Math.min.name Lib.Math.min.code 2 (some .int) ∈ gtb) (hw : (st.map fun v => v.category).sum ≤ 8) (kk : wp (d + 1) kc ks y (pc + 3) L (.int (if z < x then z else x) :: st) M Q) : wp (d + 1) kc ks y pc L (.int z :: .int x :: st) M Q := by
  intro p l e R s m args below meth c D cA A ad H locs cells slots Qm ls C h1 h2 h3 h4 V hL hS F
  have hts := C.2.2.2.2.2.1
  exact va_mmin C.1 C.2.1 (by rw [C.2.2.1]; exact hL.1.symm) C.2.2.2.2.1 (hts _ hl) (hts _ hst) (hts _ hini) (hts _ hcd) (by omega) (by rw [cat_sum]; omega) (by omega) (by omega) hd (kk p l e R s m args below meth c D cA A ad H locs cells slots Qm ls C h1 h2 h3 h4 V hL (hS.tl.tl.cons trivial) F)
end CALLS
end
