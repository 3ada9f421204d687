-- ===== PART A: goes FIRST, ahead of the names: the tables' words, and 'selects' of the private methods out of them =====
/-- a private method of a class that the tables say can be made, by its rows of tables_1 -/
def lw_okq (q : MethodName × Nat) : Prop := (q.1.cls ≠ "java/lang/invoke/MethodHandle" ∧ q.1.cls ≠ "java/lang/invoke/VarHandle") ∧ Cond.instantiable q.1.cls q.2 ∈ tables_1 ∧ Cond.privateMethod q.1 ∈ tables_1 ∧ Cond.instanceMethod q.1 ∈ tables_1
theorem lw_p0 : lw_okq (⟨"Nestedfare", "worthWithMore", "(III)I"⟩, 14) := ⟨⟨by decide +kernel, by decide +kernel⟩, List.mem_of_getElem? (i := 17) (by decide +kernel), List.mem_of_getElem? (i := 134) (by decide +kernel), List.mem_of_getElem? (i := 135) (by decide +kernel)⟩
theorem lw_p1 : lw_okq (⟨"Nestedfare$Demand", "clear", "()V"⟩, 6) := ⟨⟨by decide +kernel, by decide +kernel⟩, List.mem_of_getElem? (i := 29) (by decide +kernel), List.mem_of_getElem? (i := 138) (by decide +kernel), List.mem_of_getElem? (i := 139) (by decide +kernel)⟩
theorem lw_p2 : lw_okq (⟨"Nestedfare$Demand", "add", "(LNestedfare$Product;)V"⟩, 6) := ⟨⟨by decide +kernel, by decide +kernel⟩, List.mem_of_getElem? (i := 29) (by decide +kernel), List.mem_of_getElem? (i := 142) (by decide +kernel), List.mem_of_getElem? (i := 143) (by decide +kernel)⟩
theorem lw_p3 : lw_okq (⟨"Nestedfare$Demand", "queueOf", "(II)LNestedfare$Queue;"⟩, 6) := ⟨⟨by decide +kernel, by decide +kernel⟩, List.mem_of_getElem? (i := 29) (by decide +kernel), List.mem_of_getElem? (i := 146) (by decide +kernel), List.mem_of_getElem? (i := 147) (by decide +kernel)⟩
theorem lw_p4 : lw_okq (⟨"Nestedfare$Product", "toCome", "()I"⟩, 7) := ⟨⟨by decide +kernel, by decide +kernel⟩, List.mem_of_getElem? (i := 152) (by decide +kernel), List.mem_of_getElem? (i := 150) (by decide +kernel), List.mem_of_getElem? (i := 151) (by decide +kernel)⟩
theorem lw_p5 : lw_okq (⟨"Nestedfare$Queue", "add", "(II)V"⟩, 2) := ⟨⟨by decide +kernel, by decide +kernel⟩, List.mem_of_getElem? (i := 35) (by decide +kernel), List.mem_of_getElem? (i := 158) (by decide +kernel), List.mem_of_getElem? (i := 159) (by decide +kernel)⟩
theorem lw_p6 : lw_okq (⟨"Nestedfare", "leftOn", "(I)I"⟩, 14) := ⟨⟨by decide +kernel, by decide +kernel⟩, List.mem_of_getElem? (i := 17) (by decide +kernel), List.mem_of_getElem? (i := 162) (by decide +kernel), List.mem_of_getElem? (i := 163) (by decide +kernel)⟩
theorem lw_p7 : lw_okq (⟨"Nestedfare", "seatsOf", "(I)I"⟩, 14) := ⟨⟨by decide +kernel, by decide +kernel⟩, List.mem_of_getElem? (i := 17) (by decide +kernel), List.mem_of_getElem? (i := 166) (by decide +kernel), List.mem_of_getElem? (i := 167) (by decide +kernel)⟩
theorem lw_p8 : lw_okq (⟨"Nestedfare", "bookedOn", "(I)I"⟩, 14) := ⟨⟨by decide +kernel, by decide +kernel⟩, List.mem_of_getElem? (i := 17) (by decide +kernel), List.mem_of_getElem? (i := 170) (by decide +kernel), List.mem_of_getElem? (i := 171) (by decide +kernel)⟩
theorem lw_p9 : lw_okq (⟨"Nestedfare", "bookingAt", "(I)LNestedfare$Booking;"⟩, 14) := ⟨⟨by decide +kernel, by decide +kernel⟩, List.mem_of_getElem? (i := 17) (by decide +kernel), List.mem_of_getElem? (i := 174) (by decide +kernel), List.mem_of_getElem? (i := 175) (by decide +kernel)⟩
theorem lw_p10 : lw_okq (⟨"Nestedfare$Booking", "seatsOn", "(I)I"⟩, 5) := ⟨⟨by decide +kernel, by decide +kernel⟩, List.mem_of_getElem? (i := 180) (by decide +kernel), List.mem_of_getElem? (i := 178) (by decide +kernel), List.mem_of_getElem? (i := 179) (by decide +kernel)⟩
theorem lw_p11 : lw_okq (⟨"Nestedfare$Demand", "mostFor", "(III)I"⟩, 6) := ⟨⟨by decide +kernel, by decide +kernel⟩, List.mem_of_getElem? (i := 29) (by decide +kernel), List.mem_of_getElem? (i := 187) (by decide +kernel), List.mem_of_getElem? (i := 188) (by decide +kernel)⟩
theorem lw_p12 : lw_okq (⟨"Nestedfare$Queue", "mostFor", "(I)I"⟩, 2) := ⟨⟨by decide +kernel, by decide +kernel⟩, List.mem_of_getElem? (i := 35) (by decide +kernel), List.mem_of_getElem? (i := 194) (by decide +kernel), List.mem_of_getElem? (i := 195) (by decide +kernel)⟩
theorem lw_p13 : lw_okq (⟨"Nestedfare$Demand", "mostOfShorter", "(III)I"⟩, 6) := ⟨⟨by decide +kernel, by decide +kernel⟩, List.mem_of_getElem? (i := 29) (by decide +kernel), List.mem_of_getElem? (i := 198) (by decide +kernel), List.mem_of_getElem? (i := 199) (by decide +kernel)⟩
theorem lw_p14 : lw_okq (⟨"Nestedfare$Demand", "mostBehind", "(II)I"⟩, 6) := ⟨⟨by decide +kernel, by decide +kernel⟩, List.mem_of_getElem? (i := 29) (by decide +kernel), List.mem_of_getElem? (i := 202) (by decide +kernel), List.mem_of_getElem? (i := 203) (by decide +kernel)⟩
theorem lw_p15 : lw_okq (⟨"Nestedfare$SeatTable", "clear", "()V"⟩, 1) := ⟨⟨by decide +kernel, by decide +kernel⟩, List.mem_of_getElem? (i := 69) (by decide +kernel), List.mem_of_getElem? (i := 211) (by decide +kernel), List.mem_of_getElem? (i := 212) (by decide +kernel)⟩
def lw_privs_1 : List (MethodName × Nat) := [(⟨"Nestedfare", "worthWithMore", "(III)I"⟩, 14), (⟨"Nestedfare$Demand", "clear", "()V"⟩, 6), (⟨"Nestedfare$Demand", "add", "(LNestedfare$Product;)V"⟩, 6), (⟨"Nestedfare$Demand", "queueOf", "(II)LNestedfare$Queue;"⟩, 6), (⟨"Nestedfare$Product", "toCome", "()I"⟩, 7), (⟨"Nestedfare$Queue", "add", "(II)V"⟩, 2), (⟨"Nestedfare", "leftOn", "(I)I"⟩, 14), (⟨"Nestedfare", "seatsOf", "(I)I"⟩, 14), (⟨"Nestedfare", "bookedOn", "(I)I"⟩, 14), (⟨"Nestedfare", "bookingAt", "(I)LNestedfare$Booking;"⟩, 14), (⟨"Nestedfare$Booking", "seatsOn", "(I)I"⟩, 5), (⟨"Nestedfare$Demand", "mostFor", "(III)I"⟩, 6), (⟨"Nestedfare$Queue", "mostFor", "(I)I"⟩, 2), (⟨"Nestedfare$Demand", "mostOfShorter", "(III)I"⟩, 6), (⟨"Nestedfare$Demand", "mostBehind", "(II)I"⟩, 6), (⟨"Nestedfare$SeatTable", "clear", "()V"⟩, 1)]
theorem lw_r1 : ∀ q ∈ lw_privs_1, lw_okq q := List.forall_mem_cons.mpr ⟨lw_p0, List.forall_mem_cons.mpr ⟨lw_p1, List.forall_mem_cons.mpr ⟨lw_p2, List.forall_mem_cons.mpr ⟨lw_p3, List.forall_mem_cons.mpr ⟨lw_p4, List.forall_mem_cons.mpr ⟨lw_p5, List.forall_mem_cons.mpr ⟨lw_p6, List.forall_mem_cons.mpr ⟨lw_p7, List.forall_mem_cons.mpr ⟨lw_p8, List.forall_mem_cons.mpr ⟨lw_p9, List.forall_mem_cons.mpr ⟨lw_p10, List.forall_mem_cons.mpr ⟨lw_p11, List.forall_mem_cons.mpr ⟨lw_p12, List.forall_mem_cons.mpr ⟨lw_p13, List.forall_mem_cons.mpr ⟨lw_p14, List.forall_mem_cons.mpr ⟨lw_p15, fun _ h => absurd h List.not_mem_nil⟩⟩⟩⟩⟩⟩⟩⟩⟩⟩⟩⟩⟩⟩⟩⟩
theorem lw_p16 : lw_okq (⟨"Nestedfare$SeatTable", "admit", "(LNestedfare$Product;III)V"⟩, 1) := ⟨⟨by decide +kernel, by decide +kernel⟩, List.mem_of_getElem? (i := 69) (by decide +kernel), List.mem_of_getElem? (i := 218) (by decide +kernel), List.mem_of_getElem? (i := 219) (by decide +kernel)⟩
theorem lw_p17 : lw_okq (⟨"Nestedfare$SeatTable", "admitOne", "(LNestedfare$Product;III)V"⟩, 1) := ⟨⟨by decide +kernel, by decide +kernel⟩, List.mem_of_getElem? (i := 69) (by decide +kernel), List.mem_of_getElem? (i := 224) (by decide +kernel), List.mem_of_getElem? (i := 225) (by decide +kernel)⟩
theorem lw_p18 : lw_okq (⟨"Nestedfare$Product", "covers", "(I)Z"⟩, 7) := ⟨⟨by decide +kernel, by decide +kernel⟩, List.mem_of_getElem? (i := 152) (by decide +kernel), List.mem_of_getElem? (i := 228) (by decide +kernel), List.mem_of_getElem? (i := 229) (by decide +kernel)⟩
theorem lw_p19 : lw_okq (⟨"Nestedfare$SeatTable", "raiseRow", "(IIII)V"⟩, 1) := ⟨⟨by decide +kernel, by decide +kernel⟩, List.mem_of_getElem? (i := 69) (by decide +kernel), List.mem_of_getElem? (i := 235) (by decide +kernel), List.mem_of_getElem? (i := 236) (by decide +kernel)⟩
theorem lw_p20 : lw_okq (⟨"Nestedfare$SeatTable", "valueOf", "(III)I"⟩, 1) := ⟨⟨by decide +kernel, by decide +kernel⟩, List.mem_of_getElem? (i := 69) (by decide +kernel), List.mem_of_getElem? (i := 239) (by decide +kernel), List.mem_of_getElem? (i := 240) (by decide +kernel)⟩
theorem lw_p21 : lw_okq (⟨"Nestedfare", "faresOfToday", "()I"⟩, 14) := ⟨⟨by decide +kernel, by decide +kernel⟩, List.mem_of_getElem? (i := 17) (by decide +kernel), List.mem_of_getElem? (i := 247) (by decide +kernel), List.mem_of_getElem? (i := 248) (by decide +kernel)⟩
theorem lw_p22 : lw_okq (⟨"java/lang/Throwable", "fillInStackTrace", "(I)Ljava/lang/Throwable;"⟩, 6) := ⟨⟨by decide +kernel, by decide +kernel⟩, List.mem_of_getElem? (i := 301) (by decide +kernel), List.mem_of_getElem? (i := 299) (by decide +kernel), List.mem_of_getElem? (i := 300) (by decide +kernel)⟩
theorem lw_p23 : lw_okq (⟨"Nestedfare", "putSeats", "(II)V"⟩, 14) := ⟨⟨by decide +kernel, by decide +kernel⟩, List.mem_of_getElem? (i := 17) (by decide +kernel), List.mem_of_getElem? (i := 331) (by decide +kernel), List.mem_of_getElem? (i := 332) (by decide +kernel)⟩
theorem lw_p24 : lw_okq (⟨"Nestedfare", "isOffered", "(III)Z"⟩, 14) := ⟨⟨by decide +kernel, by decide +kernel⟩, List.mem_of_getElem? (i := 17) (by decide +kernel), List.mem_of_getElem? (i := 364) (by decide +kernel), List.mem_of_getElem? (i := 365) (by decide +kernel)⟩
theorem lw_p25 : lw_okq (⟨"Nestedfare", "offer", "(LNestedfare$Product;)V"⟩, 14) := ⟨⟨by decide +kernel, by decide +kernel⟩, List.mem_of_getElem? (i := 17) (by decide +kernel), List.mem_of_getElem? (i := 420) (by decide +kernel), List.mem_of_getElem? (i := 421) (by decide +kernel)⟩
theorem lw_p26 : lw_okq (⟨"Nestedfare", "productAt", "(I)LNestedfare$Product;"⟩, 14) := ⟨⟨by decide +kernel, by decide +kernel⟩, List.mem_of_getElem? (i := 17) (by decide +kernel), List.mem_of_getElem? (i := 431) (by decide +kernel), List.mem_of_getElem? (i := 432) (by decide +kernel)⟩
theorem lw_p27 : lw_okq (⟨"Nestedfare", "isFull", "(LNestedfare$Product;)Z"⟩, 14) := ⟨⟨by decide +kernel, by decide +kernel⟩, List.mem_of_getElem? (i := 17) (by decide +kernel), List.mem_of_getElem? (i := 453) (by decide +kernel), List.mem_of_getElem? (i := 454) (by decide +kernel)⟩
theorem lw_p28 : lw_okq (⟨"Nestedfare", "authorisedOn", "(I)I"⟩, 14) := ⟨⟨by decide +kernel, by decide +kernel⟩, List.mem_of_getElem? (i := 17) (by decide +kernel), List.mem_of_getElem? (i := 457) (by decide +kernel), List.mem_of_getElem? (i := 458) (by decide +kernel)⟩
theorem lw_p29 : lw_okq (⟨"Nestedfare", "refuse", "(I)I"⟩, 14) := ⟨⟨by decide +kernel, by decide +kernel⟩, List.mem_of_getElem? (i := 17) (by decide +kernel), List.mem_of_getElem? (i := 461) (by decide +kernel), List.mem_of_getElem? (i := 462) (by decide +kernel)⟩
theorem lw_p30 : lw_okq (⟨"Nestedfare", "isProtected", "(LNestedfare$Product;)Z"⟩, 14) := ⟨⟨by decide +kernel, by decide +kernel⟩, List.mem_of_getElem? (i := 17) (by decide +kernel), List.mem_of_getElem? (i := 465) (by decide +kernel), List.mem_of_getElem? (i := 466) (by decide +kernel)⟩
theorem lw_p31 : lw_okq (⟨"Nestedfare", "protectedOn", "(II)I"⟩, 14) := ⟨⟨by decide +kernel, by decide +kernel⟩, List.mem_of_getElem? (i := 17) (by decide +kernel), List.mem_of_getElem? (i := 469) (by decide +kernel), List.mem_of_getElem? (i := 470) (by decide +kernel)⟩
def lw_privs_2 : List (MethodName × Nat) := [(⟨"Nestedfare$SeatTable", "admit", "(LNestedfare$Product;III)V"⟩, 1), (⟨"Nestedfare$SeatTable", "admitOne", "(LNestedfare$Product;III)V"⟩, 1), (⟨"Nestedfare$Product", "covers", "(I)Z"⟩, 7), (⟨"Nestedfare$SeatTable", "raiseRow", "(IIII)V"⟩, 1), (⟨"Nestedfare$SeatTable", "valueOf", "(III)I"⟩, 1), (⟨"Nestedfare", "faresOfToday", "()I"⟩, 14), (⟨"java/lang/Throwable", "fillInStackTrace", "(I)Ljava/lang/Throwable;"⟩, 6), (⟨"Nestedfare", "putSeats", "(II)V"⟩, 14), (⟨"Nestedfare", "isOffered", "(III)Z"⟩, 14), (⟨"Nestedfare", "offer", "(LNestedfare$Product;)V"⟩, 14), (⟨"Nestedfare", "productAt", "(I)LNestedfare$Product;"⟩, 14), (⟨"Nestedfare", "isFull", "(LNestedfare$Product;)Z"⟩, 14), (⟨"Nestedfare", "authorisedOn", "(I)I"⟩, 14), (⟨"Nestedfare", "refuse", "(I)I"⟩, 14), (⟨"Nestedfare", "isProtected", "(LNestedfare$Product;)Z"⟩, 14), (⟨"Nestedfare", "protectedOn", "(II)I"⟩, 14)]
theorem lw_r2 : ∀ q ∈ lw_privs_2, lw_okq q := List.forall_mem_cons.mpr ⟨lw_p16, List.forall_mem_cons.mpr ⟨lw_p17, List.forall_mem_cons.mpr ⟨lw_p18, List.forall_mem_cons.mpr ⟨lw_p19, List.forall_mem_cons.mpr ⟨lw_p20, List.forall_mem_cons.mpr ⟨lw_p21, List.forall_mem_cons.mpr ⟨lw_p22, List.forall_mem_cons.mpr ⟨lw_p23, List.forall_mem_cons.mpr ⟨lw_p24, List.forall_mem_cons.mpr ⟨lw_p25, List.forall_mem_cons.mpr ⟨lw_p26, List.forall_mem_cons.mpr ⟨lw_p27, List.forall_mem_cons.mpr ⟨lw_p28, List.forall_mem_cons.mpr ⟨lw_p29, List.forall_mem_cons.mpr ⟨lw_p30, List.forall_mem_cons.mpr ⟨lw_p31, fun _ h => absurd h List.not_mem_nil⟩⟩⟩⟩⟩⟩⟩⟩⟩⟩⟩⟩⟩⟩⟩⟩
theorem lw_p32 : lw_okq (⟨"Nestedfare$Product", "protectedAgainst", "(II)I"⟩, 7) := ⟨⟨by decide +kernel, by decide +kernel⟩, List.mem_of_getElem? (i := 152) (by decide +kernel), List.mem_of_getElem? (i := 474) (by decide +kernel), List.mem_of_getElem? (i := 475) (by decide +kernel)⟩
theorem lw_p33 : lw_okq (⟨"Nestedfare", "bidsOver", "(II)I"⟩, 14) := ⟨⟨by decide +kernel, by decide +kernel⟩, List.mem_of_getElem? (i := 17) (by decide +kernel), List.mem_of_getElem? (i := 478) (by decide +kernel), List.mem_of_getElem? (i := 479) (by decide +kernel)⟩
theorem lw_p34 : lw_okq (⟨"Nestedfare", "enter", "(LNestedfare$Booking;)I"⟩, 14) := ⟨⟨by decide +kernel, by decide +kernel⟩, List.mem_of_getElem? (i := 17) (by decide +kernel), List.mem_of_getElem? (i := 505) (by decide +kernel), List.mem_of_getElem? (i := 506) (by decide +kernel)⟩
theorem lw_p35 : lw_okq (⟨"Nestedfare", "hasLeft", "(III)Z"⟩, 14) := ⟨⟨by decide +kernel, by decide +kernel⟩, List.mem_of_getElem? (i := 17) (by decide +kernel), List.mem_of_getElem? (i := 517) (by decide +kernel), List.mem_of_getElem? (i := 518) (by decide +kernel)⟩
theorem lw_p36 : lw_okq (⟨"Nestedfare", "displacement", "(III)I"⟩, 14) := ⟨⟨by decide +kernel, by decide +kernel⟩, List.mem_of_getElem? (i := 17) (by decide +kernel), List.mem_of_getElem? (i := 521) (by decide +kernel), List.mem_of_getElem? (i := 522) (by decide +kernel)⟩
theorem lw_p37 : lw_okq (⟨"Nestedfare", "deniedOn", "(II)I"⟩, 14) := ⟨⟨by decide +kernel, by decide +kernel⟩, List.mem_of_getElem? (i := 17) (by decide +kernel), List.mem_of_getElem? (i := 542) (by decide +kernel), List.mem_of_getElem? (i := 543) (by decide +kernel)⟩
theorem lw_p38 : lw_okq (⟨"Nestedfare", "learn", "()V"⟩, 14) := ⟨⟨by decide +kernel, by decide +kernel⟩, List.mem_of_getElem? (i := 17) (by decide +kernel), List.mem_of_getElem? (i := 546) (by decide +kernel), List.mem_of_getElem? (i := 547) (by decide +kernel)⟩
theorem lw_p39 : lw_okq (⟨"Nestedfare$Product", "learn", "(I)V"⟩, 7) := ⟨⟨by decide +kernel, by decide +kernel⟩, List.mem_of_getElem? (i := 152) (by decide +kernel), List.mem_of_getElem? (i := 550) (by decide +kernel), List.mem_of_getElem? (i := 551) (by decide +kernel)⟩
theorem lw_p40 : lw_okq (⟨"NestedfareModel", "fails", "(I)Z"⟩, 22) := ⟨⟨by decide +kernel, by decide +kernel⟩, List.mem_of_getElem? (i := 621) (by decide +kernel), List.mem_of_getElem? (i := 710) (by decide +kernel), List.mem_of_getElem? (i := 711) (by decide +kernel)⟩
theorem lw_p41 : lw_okq (⟨"NestedfareModel", "isProduct", "(I)Z"⟩, 22) := ⟨⟨by decide +kernel, by decide +kernel⟩, List.mem_of_getElem? (i := 621) (by decide +kernel), List.mem_of_getElem? (i := 725) (by decide +kernel), List.mem_of_getElem? (i := 726) (by decide +kernel)⟩
theorem lw_p42 : lw_okq (⟨"NestedfareModel", "finds", "()V"⟩, 22) := ⟨⟨by decide +kernel, by decide +kernel⟩, List.mem_of_getElem? (i := 621) (by decide +kernel), List.mem_of_getElem? (i := 737) (by decide +kernel), List.mem_of_getElem? (i := 738) (by decide +kernel)⟩
theorem lw_p43 : lw_okq (⟨"NestedfareModel", "adds", "(I)V"⟩, 22) := ⟨⟨by decide +kernel, by decide +kernel⟩, List.mem_of_getElem? (i := 621) (by decide +kernel), List.mem_of_getElem? (i := 741) (by decide +kernel), List.mem_of_getElem? (i := 742) (by decide +kernel)⟩
theorem lw_p44 : lw_okq (⟨"NestedfareModel", "authorisedOf", "(I)I"⟩, 22) := ⟨⟨by decide +kernel, by decide +kernel⟩, List.mem_of_getElem? (i := 621) (by decide +kernel), List.mem_of_getElem? (i := 748) (by decide +kernel), List.mem_of_getElem? (i := 749) (by decide +kernel)⟩
theorem lw_p45 : lw_okq (⟨"NestedfareModel", "protectedOf", "(II)I"⟩, 22) := ⟨⟨by decide +kernel, by decide +kernel⟩, List.mem_of_getElem? (i := 621) (by decide +kernel), List.mem_of_getElem? (i := 752) (by decide +kernel), List.mem_of_getElem? (i := 753) (by decide +kernel)⟩
theorem lw_p46 : lw_okq (⟨"NestedfareModel", "bidOf", "(I)I"⟩, 22) := ⟨⟨by decide +kernel, by decide +kernel⟩, List.mem_of_getElem? (i := 621) (by decide +kernel), List.mem_of_getElem? (i := 756) (by decide +kernel), List.mem_of_getElem? (i := 757) (by decide +kernel)⟩
theorem lw_p47 : lw_okq (⟨"NestedfareModel", "worthOf", "(III)I"⟩, 22) := ⟨⟨by decide +kernel, by decide +kernel⟩, List.mem_of_getElem? (i := 621) (by decide +kernel), List.mem_of_getElem? (i := 760) (by decide +kernel), List.mem_of_getElem? (i := 761) (by decide +kernel)⟩
def lw_privs_3 : List (MethodName × Nat) := [(⟨"Nestedfare$Product", "protectedAgainst", "(II)I"⟩, 7), (⟨"Nestedfare", "bidsOver", "(II)I"⟩, 14), (⟨"Nestedfare", "enter", "(LNestedfare$Booking;)I"⟩, 14), (⟨"Nestedfare", "hasLeft", "(III)Z"⟩, 14), (⟨"Nestedfare", "displacement", "(III)I"⟩, 14), (⟨"Nestedfare", "deniedOn", "(II)I"⟩, 14), (⟨"Nestedfare", "learn", "()V"⟩, 14), (⟨"Nestedfare$Product", "learn", "(I)V"⟩, 7), (⟨"NestedfareModel", "fails", "(I)Z"⟩, 22), (⟨"NestedfareModel", "isProduct", "(I)Z"⟩, 22), (⟨"NestedfareModel", "finds", "()V"⟩, 22), (⟨"NestedfareModel", "adds", "(I)V"⟩, 22), (⟨"NestedfareModel", "authorisedOf", "(I)I"⟩, 22), (⟨"NestedfareModel", "protectedOf", "(II)I"⟩, 22), (⟨"NestedfareModel", "bidOf", "(I)I"⟩, 22), (⟨"NestedfareModel", "worthOf", "(III)I"⟩, 22)]
theorem lw_r3 : ∀ q ∈ lw_privs_3, lw_okq q := List.forall_mem_cons.mpr ⟨lw_p32, List.forall_mem_cons.mpr ⟨lw_p33, List.forall_mem_cons.mpr ⟨lw_p34, List.forall_mem_cons.mpr ⟨lw_p35, List.forall_mem_cons.mpr ⟨lw_p36, List.forall_mem_cons.mpr ⟨lw_p37, List.forall_mem_cons.mpr ⟨lw_p38, List.forall_mem_cons.mpr ⟨lw_p39, List.forall_mem_cons.mpr ⟨lw_p40, List.forall_mem_cons.mpr ⟨lw_p41, List.forall_mem_cons.mpr ⟨lw_p42, List.forall_mem_cons.mpr ⟨lw_p43, List.forall_mem_cons.mpr ⟨lw_p44, List.forall_mem_cons.mpr ⟨lw_p45, List.forall_mem_cons.mpr ⟨lw_p46, List.forall_mem_cons.mpr ⟨lw_p47, fun _ h => absurd h List.not_mem_nil⟩⟩⟩⟩⟩⟩⟩⟩⟩⟩⟩⟩⟩⟩⟩⟩
theorem lw_p48 : lw_okq (⟨"NestedfareModel", "left", "(I)I"⟩, 22) := ⟨⟨by decide +kernel, by decide +kernel⟩, List.mem_of_getElem? (i := 621) (by decide +kernel), List.mem_of_getElem? (i := 764) (by decide +kernel), List.mem_of_getElem? (i := 765) (by decide +kernel)⟩
theorem lw_p49 : lw_okq (⟨"NestedfareModel", "refuses", "(I)I"⟩, 22) := ⟨⟨by decide +kernel, by decide +kernel⟩, List.mem_of_getElem? (i := 621) (by decide +kernel), List.mem_of_getElem? (i := 768) (by decide +kernel), List.mem_of_getElem? (i := 769) (by decide +kernel)⟩
theorem lw_p50 : lw_okq (⟨"NestedfareModel", "books", "(IIII)I"⟩, 22) := ⟨⟨by decide +kernel, by decide +kernel⟩, List.mem_of_getElem? (i := 621) (by decide +kernel), List.mem_of_getElem? (i := 772) (by decide +kernel), List.mem_of_getElem? (i := 773) (by decide +kernel)⟩
theorem lw_p51 : lw_okq (⟨"NestedfareModel", "isTooFull", "(III)Z"⟩, 22) := ⟨⟨by decide +kernel, by decide +kernel⟩, List.mem_of_getElem? (i := 621) (by decide +kernel), List.mem_of_getElem? (i := 780) (by decide +kernel), List.mem_of_getElem? (i := 781) (by decide +kernel)⟩
theorem lw_p52 : lw_okq (⟨"NestedfareModel", "displaces", "(III)I"⟩, 22) := ⟨⟨by decide +kernel, by decide +kernel⟩, List.mem_of_getElem? (i := 621) (by decide +kernel), List.mem_of_getElem? (i := 784) (by decide +kernel), List.mem_of_getElem? (i := 785) (by decide +kernel)⟩
theorem lw_p53 : lw_okq (⟨"NestedfareModel", "sold", "()I"⟩, 22) := ⟨⟨by decide +kernel, by decide +kernel⟩, List.mem_of_getElem? (i := 621) (by decide +kernel), List.mem_of_getElem? (i := 796) (by decide +kernel), List.mem_of_getElem? (i := 797) (by decide +kernel)⟩
theorem lw_p54 : lw_okq (⟨"NestedfareModel", "tells", "(I)I"⟩, 22) := ⟨⟨by decide +kernel, by decide +kernel⟩, List.mem_of_getElem? (i := 621) (by decide +kernel), List.mem_of_getElem? (i := 804) (by decide +kernel), List.mem_of_getElem? (i := 805) (by decide +kernel)⟩
theorem lw_p55 : lw_okq (⟨"NestedfareModel", "of", "([II)I"⟩, 22) := ⟨⟨by decide +kernel, by decide +kernel⟩, List.mem_of_getElem? (i := 621) (by decide +kernel), List.mem_of_getElem? (i := 844) (by decide +kernel), List.mem_of_getElem? (i := 845) (by decide +kernel)⟩
def lw_privs_4 : List (MethodName × Nat) := [(⟨"NestedfareModel", "left", "(I)I"⟩, 22), (⟨"NestedfareModel", "refuses", "(I)I"⟩, 22), (⟨"NestedfareModel", "books", "(IIII)I"⟩, 22), (⟨"NestedfareModel", "isTooFull", "(III)Z"⟩, 22), (⟨"NestedfareModel", "displaces", "(III)I"⟩, 22), (⟨"NestedfareModel", "sold", "()I"⟩, 22), (⟨"NestedfareModel", "tells", "(I)I"⟩, 22), (⟨"NestedfareModel", "of", "([II)I"⟩, 22)]
theorem lw_r4 : ∀ q ∈ lw_privs_4, lw_okq q := List.forall_mem_cons.mpr ⟨lw_p48, List.forall_mem_cons.mpr ⟨lw_p49, List.forall_mem_cons.mpr ⟨lw_p50, List.forall_mem_cons.mpr ⟨lw_p51, List.forall_mem_cons.mpr ⟨lw_p52, List.forall_mem_cons.mpr ⟨lw_p53, List.forall_mem_cons.mpr ⟨lw_p54, List.forall_mem_cons.mpr ⟨lw_p55, fun _ h => absurd h List.not_mem_nil⟩⟩⟩⟩⟩⟩⟩⟩
def lw_privs : List (MethodName × Nat) := lw_privs_1 ++ (lw_privs_2 ++ (lw_privs_3 ++ (lw_privs_4)))
def lw_tbl : List Cond := k2_sels lw_privs ++ tables_1
theorem lw_privs_ok : ∀ q ∈ lw_privs, lw_okq q := by
  show ∀ q ∈ lw_privs_1 ++ (lw_privs_2 ++ (lw_privs_3 ++ (lw_privs_4))), lw_okq q
  exact List.forall_mem_append.mpr ⟨lw_r1, List.forall_mem_append.mpr ⟨lw_r2, List.forall_mem_append.mpr ⟨lw_r3, lw_r4⟩⟩⟩
/-- the streams that the claim lets the run draw from -/
abbrev lw_cs : List Choice := [Jvm.Choice.named "NaN.bits"]
theorem lw_bits : nanBits ∈ lw_cs := by first | decide | exact List.mem_cons_self | simp [lw_cs, nanBits]
-- ===== end of PART A; then your names; then what follows =====
/-! ===== BEGIN words of one list among another's, by their places ===== -/
theorem goodIn_r {big : List Cond} (ws : List Cond) (ps : List Nat) (hp : ws = ps.filterMap (fun i => big[i]?)) (h : ws.all goodWord = true) : GoodIn big ws := by
  intro w hw
  have h1 := List.all_eq_true.mp h w hw
  rw [hp] at hw
  obtain ⟨i, -, hi⟩ := List.mem_filterMap.mp hw
  have hm : w ∈ big := by first | exact List.mem_of_getElem? hi | exact List.getElem?_mem hi
  exact ⟨hm, good_of_word h1⟩
theorem goodIn_app {big a b : List Cond} (ha : GoodIn big a) (hb : GoodIn big b) : GoodIn big (a ++ b) := fun w h => (List.mem_append.mp h).elim (ha w) (hb w)
theorem goodIn_ca {big a b : List Cond} {c : Cond} (ha : GoodIn big (c :: a)) (hb : GoodIn big b) : GoodIn big (c :: (a ++ b)) := fun w h => (List.mem_cons.mp h).elim (fun e => ha w (List.mem_cons.mpr (Or.inl e))) (fun h => (List.mem_append.mp h).elim (fun h => ha w (List.mem_cons.mpr (Or.inr h))) (hb w))
theorem goodIn_sub {big ws : List Cond} (hm : ∀ w ∈ ws, w ∈ big) (h : ws.all goodWord = true) : GoodIn big ws := fun w hw => ⟨hm w hw, good_of_word (List.all_eq_true.mp h w hw)⟩
/-! ===== END ===== -/

/-! ===== BEGIN exceptions that leave a method, and their catching by the caller (launches without stack traces) ===== -/
section VXA
/-! The laws vx_back, vx_callV, vx_callS, vx_callSW, vx_throw0, vx_throwS follow proofs of the library, with one case more: JvmDerived/Free/Laws.lean (Back.of_free), Shelf42/LK1.lean (callV, callS), Shelf/KitTraced.lean (throwNew0V, throwNewS). -/
/-- where a method has thrown q: the class by its name, the cell, what was written, the world -/
def vx_T (XC : String → State → State → Prop) (st : State) (q : Addr) (t : State) (mc ms : Nat) (free : Addr → Prop) : Prop :=
  ∃ (E : String) (ce : Cell) (L : List Loc), XC E st t ∧ t.heap[q]? = some ce ∧ ce.vm = .none ∧ st.vm.findClass E = some ce.cls ∧ st.WarmedH t.vm ∧ st.sameButNew ({ t with vm := st.vm } : State) L mc ms ∧ ∀ z ∈ L, free z.base
def vx_Q (Qc : Array Value → State → Outcome → State → Prop) (XC : String → State → State → Prop) (mc ms : Nat) (free : Addr → Prop) : Array Value → State → Outcome → State → Prop := fun a st o t =>
  (Qc a st o t ∧ ∃ L, FrameEnd st o t L mc ms ∧ ∀ q ∈ L, free q.base) ∨ ∃ q, o = .threw q ∧ vx_T XC st q t mc ms free
/-- a callee that returns or throws -/
def vx_Met (l : Launch) (y : MethodName) (ws : List Cond) (rm : Room) (Pc : Array Value → State → Prop) (Qc : Array Value → State → Outcome → State → Prop) (XC : String → State → State → Prop) (mc ms : Nat) (free : Addr → Prop) : Prop :=
  MetFree l y (headSpec ws rm) Pc (fun _ _ _ _ _ => True) (vx_Q Qc XC mc ms free)
def vx_Post (XC : String → State → State → Prop) (mc ms : Nat) (free : Addr → Prop) : Pt → Array Value → Addr → Pt → Prop := fun A a q B =>
  ∃ (g : JFrame) (mk : MethodId) (t : State) (L : List Loc) (E : String) (ce : Cell), B.U.heap = t.heap ∧ B.U.vm = t.vm ∧ XC E (A.U.calling g mk a) t ∧ t.heap[q]? = some ce ∧ ce.vm = .none ∧ A.U.vm.findClass E = some ce.cls ∧ B.locs = A.locs ++ L ∧ (∀ z ∈ L, free z.base) ∧ B.cells = A.cells + mc ∧ B.slots = A.slots + ms
def vx_Back (l : Launch) (R : Room) (p : Program) (e : Env) (below : List Frame) (s : State) (sargs : Array Value) (y : MethodName) (len W9 : Nat)
    (Pre : Pt → Array Value → Prop) (Post : Pt → Array Value → Option Value → Pt → Prop) (PostX : Pt → Array Value → Addr → Pt → Prop) : Prop :=
  ∀ (m : MethodId) (meth : Method) (c : Code) (A : Pt) (g : JFrame) (ig : Instr) (mk : MethodId) (a : Array Value),
    Stand p l e R s m sargs below meth c A.U A.locs A.cells A.slots → g.method = m → g.locals.size = c.maxLocals → decode c.code g.pc = .ok (ig, len) →
    2 * g.monitorRoom + (g.stack.map fun v => v.category).sum ≤ W9 → A.U.methodNamed? y = some mk → Pre A a →
    (∃ (v : Option Value) (B : Pt), Stand p l e R s m sargs below meth c B.U B.locs B.cells B.slots ∧ Post A a v B ∧
      Steps p.tables e below (doInvoke e (A.U.setTop g) [] mk a).1 (B.U.setTop { g with pc := g.pc + len, stack := v.toList ++ g.stack })) ∨
    (∃ (q : Addr) (B : Pt), Stand p l e R s m sargs below meth c B.U B.locs B.cells B.slots ∧ PostX A a q B ∧
      Steps p.tables e below (doInvoke e (A.U.setTop g) [] mk a).1 ((B.U.setTop g).pushFrame (.throwing q)))
section Payer
variable {l : Launch} {R : Room} {p : Program} {e : Env} {below : List Frame} {s : State} {sargs : Array Value} {y : MethodName} {len W9 : Nat}
theorem vx_back {ws : List Cond} {rm : Room} {Pc : Array Value → State → Prop} {Qc : Array Value → State → Outcome → State → Prop} {XC : String → State → State → Prop} {mc ms : Nat} {free : Addr → Prop} {bytes : ByteArray} {maxL : Nat} {ret : Option FieldType}
    (hM : vx_Met l y ws rm Pc Qc XC mc ms free) (hblind : FrameBlind Pc) (hrc : rm.cells = mc) (hrs : rm.slots = ms)
    (hframes : rm.frames + 1 ≤ R.frames) (hlocals : W9 + (maxL + 11) + rm.locals ≤ R.locals)
    (hws : ∀ w ∈ ws, ∀ a' U, s.WarmedH U.vm → w.before a' U = true) (hcode : Cond.code y bytes maxL ret ∈ ws) (hinit : ∀ a' U, s.WarmedH U.vm → (Cond.initialized y.cls).before a' U = true) :
    vx_Back l R p e below s sargs y len W9 (PreOf R mc ms Pc) (PostOf Qc mc ms free) (vx_Post XC mc ms free) := by
  intro m meth c A g ig mk a X hg hsize hdg hW hn hp
  have h1 : (headSpec ws rm).pre.before a A.U = true := atoms_intro fun w hw => hws w hw _ _ X.warmed
  have h2 : (Cond.code y bytes maxL ret).before a A.U = true := hws _ hcode _ _ X.warmed
  have h3 : (Cond.initialized y.cls).before a A.U = true := hinit _ _ X.warmed
  have h4 : A.cells + (headSpec ws rm).room.cells ≤ R.cells := by rw [show (headSpec ws rm).room.cells = mc from hrc]; exact hp.1
  have h5 : A.slots + (headSpec ws rm).room.slots ≤ R.slots := by rw [show (headSpec ws rm).room.slots = ms from hrs]; exact hp.2.1
  have hPc : Pc a (A.U.calling g mk a) := hblind _ _ _ _ hp.2.2
  obtain ⟨U, Ls, c0, s0⟩ := A
  dsimp only [Pt.U, Pt.locs, Pt.cells, Pt.slots] at h1 h2 h3 h4 h5 X hn hPc ⊢
  obtain ⟨methY, cY, hmY, hcY, -, hlY, -, -, -, -⟩ := Cond.code_spec hn h2
  obtain ⟨kY, hkY, -⟩ := className_of_methodNamed hn
  have hinitY : kY.init = .initialized := Cond.initialized_spec (findClass_of_methodNamed hn) hkY h3
  have h : At U g.method c below := by rw [hg]; exact X.here
  have hlocals9 : W9 + (maxL + 11) + (headSpec ws rm).room.locals ≤ R.locals := hlocals
  have happ : (headSpec ws rm).appliesLoose y e.platform (U.calling g mk a) = true :=
    Spec.appliesLoose_calling (g := g) h hdg hn hkY hinitY
      (X.room_calling (g := g) (R' := (headSpec ws rm).room) hsize hmY hcY hframes (by rw [hlY]; omega) h4 h5) h1
  obtain ⟨mid, hmid⟩ := h.above
  have hfr : (U.setTop g).frames = (.java g :: mid) ++ below := by rw [State.frames_setTop' g h.top, hmid]; rfl
  obtain ⟨o, s₂, hsteps, -, hend, hq⟩ := Steps.callFree hM p X.admits X.cas X.clock (acts := []) hfr happ hPc trivial
  have hq' : vx_Q Qc XC mc ms free a (U.calling g mk a) o s₂ := hq
  rw [State.frames_setTop' g h.top] at hend
  obtain ⟨g₀, hg0⟩ := Option.isSome_iff_exists.mp h.top
  obtain ⟨r, hr⟩ := State.topJava?_eq_some.mp hg0
  have hr' : (({ U with heap := s₂.heap, slotsUsed := s₂.slotsUsed } : State).setVm s₂.vm).frames = .java g₀ :: r := hr
  rcases hq' with ⟨hqc, L, hfe, hL⟩ | ⟨q, rfl, E, ce, L, hx, hce, hcv, hcl, hW₂, hsm, hL⟩
  · obtain ⟨⟨v, rfl⟩, hW₂, e2, q2, q3, q4, q5, q6⟩ := id hfe
    have e3 : s₂ = ({ (U.calling g mk a).setFrames s₂.frames with heap := s₂.heap, slotsUsed := s₂.slotsUsed } : State).setVm s₂.vm := by
      have : s₂ = ({ s₂ with vm := (U.calling g mk a).vm } : State).setVm s₂.vm := rfl
      rw [e2] at this
      exact this
    obtain ⟨c₂, i₂, len₂, hc₂, hd₂, hf₂⟩ := hend
    have hW' : U.WarmedH s₂.vm := hW₂
    have hcc : c₂ = c := by
      have h1 : s₂.code? g.method = U.code? g.method := by
        rw [State.code?_eq, State.code?_eq, hW'.alike.method?]
      exact Option.some.inj (hc₂.symm.trans (h1.trans h.code))
    subst hcc
    have hlen : len₂ = len := by rw [hdg] at hd₂; cases hd₂; rfl
    subst hlen
    have hs₂ : s₂ = (({ U with heap := s₂.heap, slotsUsed := s₂.slotsUsed } : State).setVm s₂.vm).setTop { g with pc := g.pc + len₂, stack := v.toList ++ g.stack } := by
      refine e3.trans ?_
      rw [hf₂, State.calling_eq h.top, State.setFrames_setFrames, State.setTop_of_frames _ hr', hr]
      rfl
    have hsame : U.sameButNew ({ U with heap := s₂.heap, slotsUsed := s₂.slotsUsed } : State) L mc ms := by
      refine ⟨?_, q2, q3, q4, q5, q6⟩
      obtain ⟨t, ht, -⟩ := State.frames_cons hr
      show ({ U with heap := s₂.heap, slotsUsed := s₂.slotsUsed } : State) = { U.setFrames U.frames with heap := s₂.heap, slotsUsed := s₂.slotsUsed }
      rw [State.setFrames_self ht]
    subst hg
    refine Or.inl ⟨v, ⟨(({ U with heap := s₂.heap, slotsUsed := s₂.slotsUsed } : State).setVm s₂.vm), Ls ++ L, c0 + mc, s0 + ms⟩,
      ⟨X.admits, X.cas, X.clock, X.frames, X.room, X.hears, X.method, X.code, (X.here.setHeapUsed s₂.heap s₂.slotsUsed).setVm hW'.alike, X.tail, State.WarmedH.trans X.warmed hW', X.limits, X.bytes, X.same.trans (hsame.setVm s.vm)⟩,
      ⟨g, mk, s₂, L, rfl, rfl, hqc, rfl, hL, rfl, rfl⟩, ?_⟩
    show Steps p.tables e below _ ((({ U with heap := s₂.heap, slotsUsed := s₂.slotsUsed } : State).setVm s₂.vm).setTop { g with pc := g.pc + len₂, stack := v.toList ++ g.stack })
    rw [← hs₂]
    exact hsteps
  · obtain ⟨e2, q2, q3, q4, q5, q6⟩ := id hsm
    have e3 : s₂ = ({ (U.calling g mk a).setFrames s₂.frames with heap := s₂.heap, slotsUsed := s₂.slotsUsed } : State).setVm s₂.vm := by
      have : s₂ = ({ s₂ with vm := (U.calling g mk a).vm } : State).setVm s₂.vm := rfl
      rw [e2] at this
      exact this
    have hf₂ : s₂.frames = .throwing q :: .java g :: U.frames.tail := hend
    have hW' : U.WarmedH s₂.vm := hW₂
    have hs₂ : s₂ = ((({ U with heap := s₂.heap, slotsUsed := s₂.slotsUsed } : State).setVm s₂.vm).setTop g).pushFrame (.throwing q) := by
      refine e3.trans ?_
      rw [hf₂, State.calling_eq h.top, State.setFrames_setFrames, State.pushFrame, State.frames_setTop _ hr', State.setTop_of_frames _ hr', State.setFrames_setFrames, hr]
      rfl
    have hsame : U.sameButNew ({ U with heap := s₂.heap, slotsUsed := s₂.slotsUsed } : State) L mc ms := by
      refine ⟨?_, q2, q3, q4, q5, q6⟩
      obtain ⟨t, ht, -⟩ := State.frames_cons hr
      show ({ U with heap := s₂.heap, slotsUsed := s₂.slotsUsed } : State) = { U.setFrames U.frames with heap := s₂.heap, slotsUsed := s₂.slotsUsed }
      rw [State.setFrames_self ht]
    subst hg
    refine Or.inr ⟨q, ⟨(({ U with heap := s₂.heap, slotsUsed := s₂.slotsUsed } : State).setVm s₂.vm), Ls ++ L, c0 + mc, s0 + ms⟩,
      ⟨X.admits, X.cas, X.clock, X.frames, X.room, X.hears, X.method, X.code, (X.here.setHeapUsed s₂.heap s₂.slotsUsed).setVm hW'.alike, X.tail, State.WarmedH.trans X.warmed hW', X.limits, X.bytes, X.same.trans (hsame.setVm s.vm)⟩,
      ⟨g, mk, s₂, L, E, ce, rfl, rfl, hx, hce, hcv, hcl, rfl, hL, rfl, rfl⟩, ?_⟩
    show Steps p.tables e below _ (((({ U with heap := s₂.heap, slotsUsed := s₂.slotsUsed } : State).setVm s₂.vm).setTop g).pushFrame (.throwing q))
    rw [← hs₂]
    exact hsteps
end Payer
section Calls
variable {p : Program} {l : Launch} {e : Env} {R : Room} {s : State} {m : MethodId} {args : Array Value} {below : List Frame} {meth : Method} {c : Code} {T : State} {locs : List Loc} {cells slots : Nat}
theorem vx_callV (X : Stand p l e R s m args below meth c T locs cells slots) (hexec : p.tables.exec = Jvm.exec) {own C : String} {index : Nat} {y : MethodName} {bytes : ByteArray} {maxL : Nat} {ret : Option FieldType}
    (hown : s.vm.findClass own = some m.cls) (hlink : (Cond.methodLink own index y).before args s = true) (hinst : (Cond.instanceMethod y).before args s = true) (hsel : (Cond.selects C y y).before args s = true)
    (hcode : (Cond.code y bytes maxL ret).before args s = true) (hy : y.cls ≠ "java/lang/invoke/MethodHandle" ∧ y.cls ≠ "java/lang/invoke/VarHandle")
    {W9 : Nat} {Pre : Pt → Array Value → Prop} {Post : Pt → Array Value → Option Value → Pt → Prop} {PostX : Pt → Array Value → Addr → Pt → Prop} (hK : vx_Back l R p e below s args y 3 W9 Pre Post PostX)
    {b : Addr} {cellB : Cell} (hcell : T.heap[b]? = some cellB) (hobj : cellB.vm.isStatics = false) (hcls : s.vm.findClass C = some cellB.cls)
    {g : JFrame} (hg : g.method = m) (hsize : g.locals.size = c.maxLocals) {argsL rest : List Value} (hlen : ∀ sig, parseMethodDescriptor y.desc = some sig → argsL.length = sig.parameters.length)
    (hstack : g.stack = argsL.reverse ++ .ref b :: rest) (hW : 2 * g.monitorRoom + (rest.map fun v => v.category).sum ≤ W9) (hdg : decode c.code g.pc = .ok (.invokevirtual index, 3))
    (hpre : ∀ vm₁, s.WarmedH vm₁ → Pre ⟨T.setVm vm₁, locs, cells, slots⟩ (Value.ref b :: argsL).toArray) :
    (∃ (v : Option Value) (vm₁ : Vm) (B : Pt), s.WarmedH vm₁ ∧ Stand p l e R s m args below meth c B.U B.locs B.cells B.slots ∧ Post ⟨T.setVm vm₁, locs, cells, slots⟩ (Value.ref b :: argsL).toArray v B ∧
      ∀ target, Steps p.tables e below (B.U.setTop { g with pc := g.pc + 3, stack := v.toList ++ rest }) target → Steps p.tables e below (T.setTop g) target) ∨
    (∃ (q : Addr) (vm₁ : Vm) (B : Pt), s.WarmedH vm₁ ∧ Stand p l e R s m args below meth c B.U B.locs B.cells B.slots ∧ PostX ⟨T.setVm vm₁, locs, cells, slots⟩ (Value.ref b :: argsL).toArray q B ∧
      Steps p.tables e below (T.setTop g) ((B.U.setTop { g with stack := rest }).pushFrame (.throwing q))) := by
  obtain ⟨mk, methM, hnamed, hmethM, hstM, habM⟩ := Cond.instanceMethod_spec hinst
  obtain ⟨methM', cM, hmethM', -, -, -, -, -, -, hsigM⟩ := Cond.code_spec hnamed hcode
  cases hmethM.symm.trans hmethM'
  obtain ⟨c2, r2, m2, q1, q2, q3, q4, kP, hkP, hkPi⟩ := Cond.selects_spec hsel
  cases hcls.symm.trans q1
  cases (State.methodFound?_of_named hnamed hy).symm.trans q2
  cases hnamed.symm.trans q3
  have hselP : selectMethod e.platform s.vm cellB.cls mk = .method mk := by rw [Launch.admits_selectMethod X.admits]; exact q4
  obtain ⟨vm₁, X₁, hstep₁⟩ := X.invokevirtual hexec hown hlink hnamed hmethM hstM hkP hkPi hy (a := b) (cell := cellB) hcell
    (fun z h => by rw [h] at hobj; cases hobj) hselP hmethM habM hkP hkPi (g := g) hg (argsL := argsL) (rest := rest) (hlen _ hsigM) hstack hdg
  rcases hK m meth c ⟨T.setVm vm₁, locs, cells, slots⟩ { g with stack := rest } (.invokevirtual index) mk (Value.ref b :: argsL).toArray X₁ hg hsize hdg hW (X₁.named hnamed) (hpre vm₁ X₁.warmed) with ⟨v, B, X', hpost, hsteps⟩ | ⟨q, B, X', hpost, hsteps⟩
  · exact Or.inl ⟨v, vm₁, B, X₁.warmed, X', hpost, fun target h => hstep₁ _ fun acts => by rw [doInvoke_state]; exact hsteps.trans h⟩
  · exact Or.inr ⟨q, vm₁, B, X₁.warmed, X', hpost, hstep₁ _ fun acts => by rw [doInvoke_state]; exact hsteps⟩
theorem vx_callS (X : Stand p l e R s m args below meth c T locs cells slots) (hexec : p.tables.exec = Jvm.exec) {own : String} {index : Nat} {y : MethodName} {bytes : ByteArray} {maxL : Nat} {ret : Option FieldType}
    (hown : s.vm.findClass own = some m.cls) (hlink : (Cond.methodLink own index y).before args s = true) (hstat : (Cond.static y).before args s = true) (hinit : (Cond.initialized y.cls).before args s = true)
    (hcode : (Cond.code y bytes maxL ret).before args s = true) (hy : y.cls ≠ "java/lang/invoke/MethodHandle" ∧ y.cls ≠ "java/lang/invoke/VarHandle")
    {W9 : Nat} {Pre : Pt → Array Value → Prop} {Post : Pt → Array Value → Option Value → Pt → Prop} {PostX : Pt → Array Value → Addr → Pt → Prop} (hK : vx_Back l R p e below s args y 3 W9 Pre Post PostX)
    {g : JFrame} (hg : g.method = m) (hsize : g.locals.size = c.maxLocals) {argsL rest : List Value} (hlen : ∀ sig, parseMethodDescriptor y.desc = some sig → argsL.length = sig.parameters.length)
    (hstack : g.stack = argsL.reverse ++ rest) (hW : 2 * g.monitorRoom + (rest.map fun v => v.category).sum ≤ W9) (hdg : decode c.code g.pc = .ok (.invokestatic index, 3))
    (hpre : ∀ vm₁, s.WarmedH vm₁ → Pre ⟨T.setVm vm₁, locs, cells, slots⟩ argsL.toArray) :
    (∃ (v : Option Value) (vm₁ : Vm) (B : Pt), s.WarmedH vm₁ ∧ Stand p l e R s m args below meth c B.U B.locs B.cells B.slots ∧ Post ⟨T.setVm vm₁, locs, cells, slots⟩ argsL.toArray v B ∧
      ∀ target, Steps p.tables e below (B.U.setTop { g with pc := g.pc + 3, stack := v.toList ++ rest }) target → Steps p.tables e below (T.setTop g) target) ∨
    (∃ (q : Addr) (vm₁ : Vm) (B : Pt), s.WarmedH vm₁ ∧ Stand p l e R s m args below meth c B.U B.locs B.cells B.slots ∧ PostX ⟨T.setVm vm₁, locs, cells, slots⟩ argsL.toArray q B ∧
      Steps p.tables e below (T.setTop g) ((B.U.setTop { g with stack := rest }).pushFrame (.throwing q))) := by
  obtain ⟨mk, hnamed⟩ := Cond.code_named hcode
  obtain ⟨methM, cM, hmethM, -, -, -, -, -, -, hsigM⟩ := Cond.code_spec hnamed hcode
  have hstatic : methM.isStatic = true := Cond.static_spec hnamed hmethM hstat
  obtain ⟨kP, hkP, -⟩ := className_of_methodNamed hnamed
  have hinitP : kP.init = .initialized := Cond.initialized_spec (findClass_of_methodNamed hnamed) hkP hinit
  obtain ⟨vm₁, X₁, hstep₁⟩ := X.invokestatic hexec hown hlink hnamed hmethM hstatic hkP hinitP hy (g := g) hg (argsL := argsL) (rest := rest) (hlen _ hsigM) hstack hdg
  rcases hK m meth c ⟨T.setVm vm₁, locs, cells, slots⟩ { g with stack := rest } (.invokestatic index) mk argsL.toArray X₁ hg hsize hdg hW (X₁.named hnamed) (hpre vm₁ X₁.warmed) with ⟨v, B, X', hpost, hsteps⟩ | ⟨q, B, X', hpost, hsteps⟩
  · exact Or.inl ⟨v, vm₁, B, X₁.warmed, X', hpost, fun target h => hstep₁ _ fun acts => by rw [doInvoke_state]; exact hsteps.trans h⟩
  · exact Or.inr ⟨q, vm₁, B, X₁.warmed, X', hpost, hstep₁ _ fun acts => by rw [doInvoke_state]; exact hsteps⟩
end Calls
theorem vx_cls {s : State} {T : State} {vm₁ : Vm} {E : String} {k : ClassId} (hW : s.WarmedH vm₁) (h : (T.setVm vm₁).vm.findClass E = some k) : s.vm.findClass E = some k := by
  have h1 : vm₁.findClass E = some k := h
  rw [hW.alike.findClass] at h1
  exact h1
/-- the method's frame g, with q thrown over it -/
def vx_W (p : Program) (l : Launch) (e : Env) (R : Room) (s : State) (m : MethodId) (args : Array Value) (below : List Frame) (meth : Method) (c : Code) (H : Heap) (locs : List Loc) (cells slots : Nat) (Q : State → Prop) (g : JFrame) (q : Addr) : Prop :=
  ∀ T : State, T.heap = H → Stand p l e R s m args below meth c T locs cells slots → ∃ t, Steps p.tables e below ((T.setTop g).pushFrame (.throwing q)) t ∧ Q t
def vx_Run (p : Program) (l : Launch) (e : Env) (R : Room) (s : State) (m : MethodId) (args : Array Value) (below : List Frame) (meth : Method) (c : Code) (H : Heap) (locs : List Loc) (cells slots mc ms : Nat) (g : JFrame) (rest : List Value) (Qa : State → Outcome → State → Prop) (XC : String → State → State → Prop) (free : Addr → Prop) : Prop :=
  ∀ T : State, T.heap = H → Stand p l e R s m args below meth c T locs cells slots →
    (∃ (v : Option Value) (st₀ t T' : State) (L : List Loc), st₀.heap = H ∧ Stand p l e R s m args below meth c T' (locs ++ L) (cells + mc) (slots + ms) ∧ (∀ q ∈ L, free q.base) ∧ T'.heap = t.heap ∧ T'.vm = t.vm ∧ Qa st₀ (.returned v) t ∧
      Goes p e below T g T' { g with pc := g.pc + 3, stack := v.toList ++ rest }) ∨
    (∃ (q : Addr) (st₀ t T' : State) (L : List Loc) (E : String) (ce : Cell), st₀.heap = H ∧ Stand p l e R s m args below meth c T' (locs ++ L) (cells + mc) (slots + ms) ∧ (∀ z ∈ L, free z.base) ∧ T'.heap = t.heap ∧ T'.vm = t.vm ∧ XC E st₀ t ∧ t.heap[q]? = some ce ∧ ce.vm = .none ∧ s.vm.findClass E = some ce.cls ∧
      Steps p.tables e below (T.setTop g) ((T'.setTop { g with stack := rest }).pushFrame (.throwing q)))
def vx_X {S : Type} (px : S → Prop) (B : String → S → State → Prop) (A : Nat → Prop) : String → State → State → Prop := fun E st t => ∃ u : S, px u ∧ B E u t ∧ va_F A st t
section Runs
variable {p : Program} {l : Launch} {e : Env} {R : Room} {s : State} {m : MethodId} {args : Array Value} {below : List Frame} {meth : Method} {c : Code} {H : Heap} {locs : List Loc} {cells slots : Nat}
variable {y : MethodName} {bytes cc : ByteArray} {maxL nL mc ms n index : Nat} {ret : Option FieldType} {ws : List Cond} {rm : Room} {Pc : Array Value → State → Prop} {Qc : Array Value → State → Outcome → State → Prop} {XC : String → State → State → Prop} {free : Addr → Prop} {Ts : List Cond} {own C : String} {b : Addr} {As rest : List Value} {g : JFrame}
theorem vx_callBack (cb : CallB R s args own index y bytes maxL ret ws rm mc ms n) (hM : vx_Met l y ws rm Pc Qc XC mc ms free) (hbl : FrameBlind Pc) : vx_Back l R p e below s args y 3 8 (PreOf R mc ms Pc) (PostOf Qc mc ms free) (vx_Post XC mc ms free) := by
  obtain ⟨hrc, hrs, hfr, hlo, hws, hcw, -, hini, -⟩ := cb
  exact vx_back (bytes := bytes) (maxL := maxL) (ret := ret) hM hbl hrc hrs hfr hlo hws hcw (fun a' U hW => word_at hW (Or.inl (by first | rfl | simp [Cond.onTables, Cond.keeps, Cond.steady])) hini)
theorem vx_runV (S : CallFix p m c cc nL s args Ts own) (hM : vx_Met l y ws rm Pc Qc XC mc ms free) (cw : CallW R s args own C index y bytes maxL ret ws rm mc ms n) (hp : PreV s H C b Pc As)
    (hg : g.method = m) (hn : As.length = n) (hsize : g.locals.size = nL) (hstack : g.stack = As.reverse ++ .ref b :: rest) (hW : 2 * g.monitorRoom + (rest.map fun v => v.category).sum ≤ 8) (hdg : decode cc g.pc = .ok (.invokevirtual index, 3)) (hf : cells + mc ≤ R.cells ∧ slots + ms ≤ R.slots) :
    vx_Run p l e R s m args below meth c H locs cells slots mc ms g rest (Qc (Value.ref b :: As).toArray) XC free := by
  have hK : vx_Back l R p e below s args y 3 8 (PreOf R mc ms Pc) (PostOf Qc mc ms free) (vx_Post XC mc ms free) := vx_callBack cw.1 hM hp.1
  obtain ⟨⟨-, -, -, -, -, -, hcode, -, hy, hlen, hl⟩, hin, hse⟩ := cw
  obtain ⟨hx, hb, hml, ho, -⟩ := S
  obtain ⟨-, ⟨cellB, hcB, hoB, hclB⟩, hPc⟩ := hp
  intro T hT X
  rcases vx_callV X hx (C := C) (bytes := bytes) (maxL := maxL) (ret := ret) ho hl hin hse hcode hy hK (by rw [hT]; exact hcB) hoB hclB hg (hsize.trans hml.symm) (argsL := As) (rest := rest) (fun sig h => hn.trans (hlen sig h)) hstack hW (by rw [hb]; exact hdg)
    (fun vm₁ hW₁ => ⟨hf.1, hf.2, hPc (T.setVm vm₁) hT hW₁⟩) with ⟨v, vm₁, ⟨U', l2, c2, s2⟩, hW₁, X', ⟨g', mk, t, L, e1, e2, hq, h1, hL, h2, h3⟩, st⟩ | ⟨q, vm₁, ⟨U', l2, c2, s2⟩, hW₁, X', ⟨g', mk, t, L, E, ce, e1, e2, hq, hce, hcv, hcl, h1, hL, h2, h3⟩, st⟩
  · dsimp only [Pt.U, Pt.locs, Pt.cells, Pt.slots] at X' e1 e2 h1 h2 h3 st
    subst h1; subst h2; subst h3
    exact Or.inl ⟨v, (T.setVm vm₁).calling g' mk (Value.ref b :: As).toArray, t, U', L, hT, X', hL, e1, e2, hq, st⟩
  · dsimp only [Pt.U, Pt.locs, Pt.cells, Pt.slots] at X' e1 e2 h1 h2 h3 st hcl
    subst h1; subst h2; subst h3
    exact Or.inr ⟨q, (T.setVm vm₁).calling g' mk (Value.ref b :: As).toArray, t, U', L, E, ce, hT, X', hL, e1, e2, hq, hce, hcv, vx_cls hW₁ hcl, st⟩
theorem vx_runS (S : CallFix p m c cc nL s args Ts own) (hM : vx_Met l y ws rm Pc Qc XC mc ms free) (cw : CallB R s args own index y bytes maxL ret ws rm mc ms n ∧ (Cond.static y).before args s = true) (hp : PreS s H Pc As)
    (hg : g.method = m) (hn : As.length = n) (hsize : g.locals.size = nL) (hstack : g.stack = As.reverse ++ rest) (hW : 2 * g.monitorRoom + (rest.map fun v => v.category).sum ≤ 8) (hdg : decode cc g.pc = .ok (.invokestatic index, 3)) (hf : cells + mc ≤ R.cells ∧ slots + ms ≤ R.slots) :
    vx_Run p l e R s m args below meth c H locs cells slots mc ms g rest (Qc As.toArray) XC free := by
  have hK : vx_Back l R p e below s args y 3 8 (PreOf R mc ms Pc) (PostOf Qc mc ms free) (vx_Post XC mc ms free) := vx_callBack cw.1 hM hp.1
  obtain ⟨⟨-, -, -, -, -, -, hcode, hini, hy, hlen, hl⟩, hstt⟩ := cw
  obtain ⟨hx, hb, hml, ho, -⟩ := S
  intro T hT X
  rcases vx_callS X hx (bytes := bytes) (maxL := maxL) (ret := ret) ho hl hstt hini hcode hy hK hg (hsize.trans hml.symm) (argsL := As) (rest := rest) (fun sig h => hn.trans (hlen sig h)) hstack hW (by rw [hb]; exact hdg)
    (fun vm₁ hW₁ => ⟨hf.1, hf.2, hp.2 (T.setVm vm₁) hT hW₁⟩) with ⟨v, vm₁, ⟨U', l2, c2, s2⟩, hW₁, X', ⟨g', mk, t, L, e1, e2, hq, h1, hL, h2, h3⟩, st⟩ | ⟨q, vm₁, ⟨U', l2, c2, s2⟩, hW₁, X', ⟨g', mk, t, L, E, ce, e1, e2, hq, hce, hcv, hcl, h1, hL, h2, h3⟩, st⟩
  · dsimp only [Pt.U, Pt.locs, Pt.cells, Pt.slots] at X' e1 e2 h1 h2 h3 st
    subst h1; subst h2; subst h3
    exact Or.inl ⟨v, (T.setVm vm₁).calling g' mk As.toArray, t, U', L, hT, X', hL, e1, e2, hq, st⟩
  · dsimp only [Pt.U, Pt.locs, Pt.cells, Pt.slots] at X' e1 e2 h1 h2 h3 st hcl
    subst h1; subst h2; subst h3
    exact Or.inr ⟨q, (T.setVm vm₁).calling g' mk As.toArray, t, U', L, E, ce, hT, X', hL, e1, e2, hq, hce, hcv, vx_cls hW₁ hcl, st⟩
end Runs
section Rows
variable {p : Program} {l : Launch} {e : Env} {R : Room} {s : State} {m : MethodId} {args : Array Value} {below : List Frame} {meth : Method} {c : Code} {H : Heap} {locs : List Loc} {cells slots : Nat} {Q : State → Prop}
variable {mc ms : Nat} {free : Addr → Prop} {A0 A1 : Nat → Prop} {H0 : Heap} {a : Array Value} {pc : Nat} {ls : Array Slot} {st0 rest : List Value}
theorem vx_keep {st₀ t T' : State} {L : List Loc} (h0 : st₀.heap = H) (e1 : T'.heap = t.heap) (hS : va_S A0 H0 H locs) (hA : ∀ q, q < H.size → A1 q → A0 q) (hf : ∀ q, free q → A0 q) (hL : ∀ q ∈ L, free q.base) (hF : va_F A1 st₀ t) :
    H.size ≤ T'.heap.size ∧ (∀ q : Nat, q < H.size → ¬ A1 q → T'.heap[q]? = H[q]?) ∧ va_S A0 H0 T'.heap (locs ++ L) := by
  obtain ⟨hz, hk⟩ := hF
  rw [h0] at hz hk
  exact ⟨by rw [e1]; exact hz, fun q h1 h2 => by rw [e1]; exact hk q h1 h2,
    ⟨Nat.le_trans hS.1 (by rw [e1]; exact hz), fun q h1 h2 => by rw [e1, hk q (Nat.lt_of_lt_of_le h1 hS.1) (fun z => h2 (hA q (Nat.lt_of_lt_of_le h1 hS.1) z))]; exact hS.2.1 q h1 h2, fun q hq => by
      rcases List.mem_append.mp hq with h | h
      · exact hS.2.2 q h
      · exact hf _ (hL q h)⟩⟩
theorem vx_calli {S SX : Type} {post : Int32 → S → Prop} {px : SX → Prop} {B : S → State → Prop} {BX : String → SX → State → Prop} {AX : Nat → Prop} (hr : vx_Run p l e R s m args below meth c H locs cells slots mc ms (F0 m pc ls st0) rest (va_Qi post B A1 a) (vx_X px BX AX) free) (hS : va_S A0 H0 H locs) (hA : ∀ q, q < H.size → A1 q → A0 q) (hf : ∀ q, free q → A0 q) (hAX : ∀ q, q < H.size → AX q → A0 q)
    (kx : ∀ (E : String) (ce : Cell) (q9 : Addr) (u : SX) (t : State) (H1 : Heap) (locs1 : List Loc), t.heap = H1 → s.vm.Alike t.vm → px u → BX E u t → H.size ≤ H1.size → (∀ q : Nat, q < H.size → ¬ AX q → H1[q]? = H[q]?) → va_S A0 H0 H1 locs1 → H1[q9]? = some ce → ce.vm = .none → s.vm.findClass E = some ce.cls → vx_W p l e R s m args below meth c H1 locs1 (cells + mc) (slots + ms) Q (F0 m pc ls rest) q9)
    (kk : ∀ (r : Int32) (u : S) (t : State) (H1 : Heap) (locs1 : List Loc), t.heap = H1 → s.vm.Alike t.vm → post r u → B u t → H.size ≤ H1.size → (∀ q : Nat, q < H.size → ¬ A1 q → H1[q]? = H[q]?) → va_S A0 H0 H1 locs1 → W p l e R s m args below meth c H1 locs1 (cells + mc) (slots + ms) Q (F0 m (pc + 3) ls (.int r :: rest))) : W p l e R s m args below meth c H locs cells slots Q (F0 m pc ls st0) := by
  intro T hT X
  rcases hr T hT X with ⟨v, st₀, t, T', L, h0, X', hL, e1, e2, ⟨⟨r, u, hv, hp, hb⟩, hF⟩, st⟩ | ⟨q, st₀, t, T', L, E, ce, h0, X', hL, e1, e2, ⟨u, hp, hb, hF⟩, hce, hcv, hcl, st⟩
  · cases hv
    obtain ⟨k1, k2, k3⟩ := vx_keep h0 e1 hS hA hf hL hF
    obtain ⟨t2, a1, b1⟩ := kk r u t T'.heap (locs ++ L) e1.symm (by rw [← e2]; exact X'.warmed.alike) hp hb k1 k2 k3 T' rfl X'
    exact ⟨t2, st t2 a1, b1⟩
  · obtain ⟨k1, k2, k3⟩ := vx_keep h0 e1 hS hAX hf hL hF
    obtain ⟨t2, a1, b1⟩ := kx E ce q u t T'.heap (locs ++ L) e1.symm (by rw [← e2]; exact X'.warmed.alike) hp hb k1 k2 k3 (by rw [e1]; exact hce) hcv hcl T' rfl X'
    exact ⟨t2, st.trans a1, b1⟩
theorem vx_calll {S SX : Type} {post : Int64 → S → Prop} {px : SX → Prop} {B : S → State → Prop} {BX : String → SX → State → Prop} {AX : Nat → Prop} (hr : vx_Run p l e R s m args below meth c H locs cells slots mc ms (F0 m pc ls st0) rest (va_Ql post B A1 a) (vx_X px BX AX) free) (hS : va_S A0 H0 H locs) (hA : ∀ q, q < H.size → A1 q → A0 q) (hf : ∀ q, free q → A0 q) (hAX : ∀ q, q < H.size → AX q → A0 q)
    (kx : ∀ (E : String) (ce : Cell) (q9 : Addr) (u : SX) (t : State) (H1 : Heap) (locs1 : List Loc), t.heap = H1 → s.vm.Alike t.vm → px u → BX E u t → H.size ≤ H1.size → (∀ q : Nat, q < H.size → ¬ AX q → H1[q]? = H[q]?) → va_S A0 H0 H1 locs1 → H1[q9]? = some ce → ce.vm = .none → s.vm.findClass E = some ce.cls → vx_W p l e R s m args below meth c H1 locs1 (cells + mc) (slots + ms) Q (F0 m pc ls rest) q9)
    (kk : ∀ (r : Int64) (u : S) (t : State) (H1 : Heap) (locs1 : List Loc), t.heap = H1 → s.vm.Alike t.vm → post r u → B u t → H.size ≤ H1.size → (∀ q : Nat, q < H.size → ¬ A1 q → H1[q]? = H[q]?) → va_S A0 H0 H1 locs1 → W p l e R s m args below meth c H1 locs1 (cells + mc) (slots + ms) Q (F0 m (pc + 3) ls (.long r :: rest))) : W p l e R s m args below meth c H locs cells slots Q (F0 m pc ls st0) := by
  intro T hT X
  rcases hr T hT X with ⟨v, st₀, t, T', L, h0, X', hL, e1, e2, ⟨⟨r, u, hv, hp, hb⟩, hF⟩, st⟩ | ⟨q, st₀, t, T', L, E, ce, h0, X', hL, e1, e2, ⟨u, hp, hb, hF⟩, hce, hcv, hcl, st⟩
  · cases hv
    obtain ⟨k1, k2, k3⟩ := vx_keep h0 e1 hS hA hf hL hF
    obtain ⟨t2, a1, b1⟩ := kk r u t T'.heap (locs ++ L) e1.symm (by rw [← e2]; exact X'.warmed.alike) hp hb k1 k2 k3 T' rfl X'
    exact ⟨t2, st t2 a1, b1⟩
  · obtain ⟨k1, k2, k3⟩ := vx_keep h0 e1 hS hAX hf hL hF
    obtain ⟨t2, a1, b1⟩ := kx E ce q u t T'.heap (locs ++ L) e1.symm (by rw [← e2]; exact X'.warmed.alike) hp hb k1 k2 k3 (by rw [e1]; exact hce) hcv hcl T' rfl X'
    exact ⟨t2, st.trans a1, b1⟩
theorem vx_callf {S SX : Type} {post : UInt32 → S → Prop} {px : SX → Prop} {B : S → State → Prop} {BX : String → SX → State → Prop} {AX : Nat → Prop} (hr : vx_Run p l e R s m args below meth c H locs cells slots mc ms (F0 m pc ls st0) rest (va_Qf post B A1 a) (vx_X px BX AX) free) (hS : va_S A0 H0 H locs) (hA : ∀ q, q < H.size → A1 q → A0 q) (hf : ∀ q, free q → A0 q) (hAX : ∀ q, q < H.size → AX q → A0 q)
    (kx : ∀ (E : String) (ce : Cell) (q9 : Addr) (u : SX) (t : State) (H1 : Heap) (locs1 : List Loc), t.heap = H1 → s.vm.Alike t.vm → px u → BX E u t → H.size ≤ H1.size → (∀ q : Nat, q < H.size → ¬ AX q → H1[q]? = H[q]?) → va_S A0 H0 H1 locs1 → H1[q9]? = some ce → ce.vm = .none → s.vm.findClass E = some ce.cls → vx_W p l e R s m args below meth c H1 locs1 (cells + mc) (slots + ms) Q (F0 m pc ls rest) q9)
    (kk : ∀ (r : UInt32) (u : S) (t : State) (H1 : Heap) (locs1 : List Loc), t.heap = H1 → s.vm.Alike t.vm → post r u → B u t → H.size ≤ H1.size → (∀ q : Nat, q < H.size → ¬ A1 q → H1[q]? = H[q]?) → va_S A0 H0 H1 locs1 → W p l e R s m args below meth c H1 locs1 (cells + mc) (slots + ms) Q (F0 m (pc + 3) ls (.float r :: rest))) : W p l e R s m args below meth c H locs cells slots Q (F0 m pc ls st0) := by
  intro T hT X
  rcases hr T hT X with ⟨v, st₀, t, T', L, h0, X', hL, e1, e2, ⟨⟨r, u, hv, hp, hb⟩, hF⟩, st⟩ | ⟨q, st₀, t, T', L, E, ce, h0, X', hL, e1, e2, ⟨u, hp, hb, hF⟩, hce, hcv, hcl, st⟩
  · cases hv
    obtain ⟨k1, k2, k3⟩ := vx_keep h0 e1 hS hA hf hL hF
    obtain ⟨t2, a1, b1⟩ := kk r u t T'.heap (locs ++ L) e1.symm (by rw [← e2]; exact X'.warmed.alike) hp hb k1 k2 k3 T' rfl X'
    exact ⟨t2, st t2 a1, b1⟩
  · obtain ⟨k1, k2, k3⟩ := vx_keep h0 e1 hS hAX hf hL hF
    obtain ⟨t2, a1, b1⟩ := kx E ce q u t T'.heap (locs ++ L) e1.symm (by rw [← e2]; exact X'.warmed.alike) hp hb k1 k2 k3 (by rw [e1]; exact hce) hcv hcl T' rfl X'
    exact ⟨t2, st.trans a1, b1⟩
theorem vx_calld {S SX : Type} {post : UInt64 → S → Prop} {px : SX → Prop} {B : S → State → Prop} {BX : String → SX → State → Prop} {AX : Nat → Prop} (hr : vx_Run p l e R s m args below meth c H locs cells slots mc ms (F0 m pc ls st0) rest (va_Qd post B A1 a) (vx_X px BX AX) free) (hS : va_S A0 H0 H locs) (hA : ∀ q, q < H.size → A1 q → A0 q) (hf : ∀ q, free q → A0 q) (hAX : ∀ q, q < H.size → AX q → A0 q)
    (kx : ∀ (E : String) (ce : Cell) (q9 : Addr) (u : SX) (t : State) (H1 : Heap) (locs1 : List Loc), t.heap = H1 → s.vm.Alike t.vm → px u → BX E u t → H.size ≤ H1.size → (∀ q : Nat, q < H.size → ¬ AX q → H1[q]? = H[q]?) → va_S A0 H0 H1 locs1 → H1[q9]? = some ce → ce.vm = .none → s.vm.findClass E = some ce.cls → vx_W p l e R s m args below meth c H1 locs1 (cells + mc) (slots + ms) Q (F0 m pc ls rest) q9)
    (kk : ∀ (r : UInt64) (u : S) (t : State) (H1 : Heap) (locs1 : List Loc), t.heap = H1 → s.vm.Alike t.vm → post r u → B u t → H.size ≤ H1.size → (∀ q : Nat, q < H.size → ¬ A1 q → H1[q]? = H[q]?) → va_S A0 H0 H1 locs1 → W p l e R s m args below meth c H1 locs1 (cells + mc) (slots + ms) Q (F0 m (pc + 3) ls (.double r :: rest))) : W p l e R s m args below meth c H locs cells slots Q (F0 m pc ls st0) := by
  intro T hT X
  rcases hr T hT X with ⟨v, st₀, t, T', L, h0, X', hL, e1, e2, ⟨⟨r, u, hv, hp, hb⟩, hF⟩, st⟩ | ⟨q, st₀, t, T', L, E, ce, h0, X', hL, e1, e2, ⟨u, hp, hb, hF⟩, hce, hcv, hcl, st⟩
  · cases hv
    obtain ⟨k1, k2, k3⟩ := vx_keep h0 e1 hS hA hf hL hF
    obtain ⟨t2, a1, b1⟩ := kk r u t T'.heap (locs ++ L) e1.symm (by rw [← e2]; exact X'.warmed.alike) hp hb k1 k2 k3 T' rfl X'
    exact ⟨t2, st t2 a1, b1⟩
  · obtain ⟨k1, k2, k3⟩ := vx_keep h0 e1 hS hAX hf hL hF
    obtain ⟨t2, a1, b1⟩ := kx E ce q u t T'.heap (locs ++ L) e1.symm (by rw [← e2]; exact X'.warmed.alike) hp hb k1 k2 k3 (by rw [e1]; exact hce) hcv hcl T' rfl X'
    exact ⟨t2, st.trans a1, b1⟩
theorem vx_callv {S SX : Type} {post : S → Prop} {px : SX → Prop} {B : S → State → Prop} {BX : String → SX → State → Prop} {AX : Nat → Prop} (hr : vx_Run p l e R s m args below meth c H locs cells slots mc ms (F0 m pc ls st0) rest (va_Qv post B A1 a) (vx_X px BX AX) free) (hS : va_S A0 H0 H locs) (hA : ∀ q, q < H.size → A1 q → A0 q) (hf : ∀ q, free q → A0 q) (hAX : ∀ q, q < H.size → AX q → A0 q)
    (kx : ∀ (E : String) (ce : Cell) (q9 : Addr) (u : SX) (t : State) (H1 : Heap) (locs1 : List Loc), t.heap = H1 → s.vm.Alike t.vm → px u → BX E u t → H.size ≤ H1.size → (∀ q : Nat, q < H.size → ¬ AX q → H1[q]? = H[q]?) → va_S A0 H0 H1 locs1 → H1[q9]? = some ce → ce.vm = .none → s.vm.findClass E = some ce.cls → vx_W p l e R s m args below meth c H1 locs1 (cells + mc) (slots + ms) Q (F0 m pc ls rest) q9)
    (kk : ∀ (u : S) (t : State) (H1 : Heap) (locs1 : List Loc), t.heap = H1 → s.vm.Alike t.vm → post u → B u t → H.size ≤ H1.size → (∀ q : Nat, q < H.size → ¬ A1 q → H1[q]? = H[q]?) → va_S A0 H0 H1 locs1 → W p l e R s m args below meth c H1 locs1 (cells + mc) (slots + ms) Q (F0 m (pc + 3) ls (rest))) : W p l e R s m args below meth c H locs cells slots Q (F0 m pc ls st0) := by
  intro T hT X
  rcases hr T hT X with ⟨v, st₀, t, T', L, h0, X', hL, e1, e2, ⟨⟨u, hv, hp, hb⟩, hF⟩, st⟩ | ⟨q, st₀, t, T', L, E, ce, h0, X', hL, e1, e2, ⟨u, hp, hb, hF⟩, hce, hcv, hcl, st⟩
  · cases hv
    obtain ⟨k1, k2, k3⟩ := vx_keep h0 e1 hS hA hf hL hF
    obtain ⟨t2, a1, b1⟩ := kk u t T'.heap (locs ++ L) e1.symm (by rw [← e2]; exact X'.warmed.alike) hp hb k1 k2 k3 T' rfl X'
    exact ⟨t2, st t2 a1, b1⟩
  · obtain ⟨k1, k2, k3⟩ := vx_keep h0 e1 hS hAX hf hL hF
    obtain ⟨t2, a1, b1⟩ := kx E ce q u t T'.heap (locs ++ L) e1.symm (by rw [← e2]; exact X'.warmed.alike) hp hb k1 k2 k3 (by rw [e1]; exact hce) hcv hcl T' rfl X'
    exact ⟨t2, st.trans a1, b1⟩
/-- caught by the row x of this method's table; the rows ahead don't take it -/
theorem vx_catch {own name : String} {E : String} {ce : Cell} {q : Addr} (hown : s.vm.findClass own = some m.cls) (pre : List ExceptionTableEntry) (x : ExceptionTableEntry) (suf : List ExceptionTableEntry) (hsplit : c.exceptionTable.toList = pre ++ x :: suf)
    (hpass : ∀ z ∈ pre, covers z pc = false ∨ (z.catchType ≠ 0 ∧ ∃ nm : String, (Cond.classLink own z.catchType nm).before args s = true ∧ va_Nc E nm s)) (hx : covers x pc = true) (h0 : x.catchType ≠ 0)
    (hlink : (Cond.classLink own x.catchType name).before args s = true) (hcast : (Cond.castable E name).before args s = true) (hcell : H[q]? = some ce) (hv : ce.vm = .none) (hcl : s.vm.findClass E = some ce.cls)
    (kk : W p l e R s m args below meth c H locs cells slots Q (F0 m x.handlerPc ls [.ref q])) : vx_W p l e R s m args below meth c H locs cells slots Q (F0 m pc ls rest) q := by
  intro T hT X
  have hpl : e.platform.magicAccessors = ({} : Platform).magicAccessors := by rw [X.admits.platform]
  obtain ⟨c3, c4, hc3, hc4, hasg⟩ := Cond.castable_spec hcast
  cases Option.some.inj (hc3.symm.trans hcl)
  obtain ⟨c5, hc5, hcl5⟩ := Cond.classLink_spec hown hlink e.platform hpl
  cases Option.some.inj (hc4.symm.trans hc5)
  obtain ⟨vm', X', st⟩ := X.thenCaughtThrough q (g := F0 m pc ls rest) rfl (Steps.refl _) (by rw [hT]; exact hcell) (by rw [hv]; rfl) (by obtain ⟨k9, h9, -⟩ := Vm.findClass_spec hcl; exact ⟨k9, h9⟩) pre x suf hsplit
    (fun z hz => by
      rcases hpass z hz with h | ⟨hz0, nm, hl1, hn1⟩
      · exact Or.inl h
      · obtain ⟨c6, hc6, hcl6⟩ := Cond.classLink_spec hown hl1 e.platform hpl
        obtain ⟨a8, b8, h1, h2, h3⟩ := hn1
        cases Option.some.inj (h1.symm.trans hcl)
        cases Option.some.inj (h2.symm.trans hc6)
        exact Or.inr ⟨hz0, _, hcl6, h3⟩) hx (Or.inr ⟨h0, c4, hcl5, hasg⟩)
  obtain ⟨t, a1, b1⟩ := kk (T.setVm vm') hT X'
  exact ⟨t, st.trans a1, b1⟩
end Rows
section Ends
variable {p : Program} {l : Launch} {e : Env} {R : Room} {s : State} {m : MethodId} {args : Array Value} {below : List Frame} {meth : Method} {c : Code} {H : Heap} {locs : List Loc} {cells slots : Nat} {Q : State → Prop}
variable {mc ms : Nat} {free : Addr → Prop} {A0 A1 : Nat → Prop} {H0 : Heap} {a : Array Value} {ls : Array Slot} {st0 rest : List Value}
variable {Qc : Array Value → State → Outcome → State → Prop} {XC : String → State → State → Prop}
/-- what a body that may throw owes at its end -/
def vx_MQ (below : List Frame) (Qc : Array Value → State → Outcome → State → Prop) (XC : String → State → State → Prop) (a : Array Value) (s : State) (mc ms : Nat) (free : Addr → Prop) : State → Prop := fun t =>
  ∃ o, t.status = .running ∧ Ended t below o ∧ vx_Q Qc XC mc ms free a s o t
theorem vx_ret {g : JFrame} {mc ms : Nat} (k : W p l e R s m args below meth c H locs cells slots (MQ below Qc args s mc ms free) g) : W p l e R s m args below meth c H locs cells slots (vx_MQ below Qc XC args s mc ms free) g := by
  intro T hT X
  obtain ⟨t, a1, o, b1, b2, b3, b4⟩ := k T hT X
  exact ⟨t, a1, o, b1, b2, Or.inl ⟨b3, b4⟩⟩
/-- not caught here: it goes on to the caller -/
theorem vx_widen {g : JFrame} {q : Addr} {k n : Nat} (h1 : cells ≤ k) (h2 : slots ≤ n) (kk : vx_W p l e R s m args below meth c H locs k n Q g q) : vx_W p l e R s m args below meth c H locs cells slots Q g q := fun T hT X => kk T hT (stand_widen X h1 h2)
theorem vx_out {pc : Nat} {E : String} {ce : Cell} {q : Addr} {mc ms : Nat} (hout : ∀ x ∈ c.exceptionTable.toList, covers x pc = false) (hlocks : meth.locks = false) (hcell : H[q]? = some ce) (hv : ce.vm = .none) (hcl : s.vm.findClass E = some ce.cls)
    (hx : ∀ t : State, t.heap = H → s.vm.Alike t.vm → XC E s t) (hf : ∀ z ∈ locs, free z.base) (hc : cells ≤ mc) (hs : slots ≤ ms) :
    vx_W p l e R s m args below meth c H locs cells slots (vx_MQ below Qc XC args s mc ms free) (F0 m pc ls rest) q := by
  intro T hT X
  obtain ⟨st1, hrun, hend, hW, hsm⟩ := X.leaveThrown q (g := F0 m pc ls rest) rfl rfl rfl hout hlocks
  have hcell9 : (T.setFrames (.throwing q :: below)).heap[q]? = some ce := by
    show T.heap[q]? = some ce
    rw [hT]; exact hcell
  exact ⟨_, st1, .threw q, hrun, hend, Or.inr ⟨q, rfl, E, ce, locs, hx _ hT hW.alike, hcell9, hv, hcl, hW, hsm.mono hc hs, hf⟩⟩
theorem vx_frame {U : State} {k n : Nat} (h : s.sameButNew ({ U with vm := s.vm } : State) locs k n) : s.heap.size ≤ U.heap.size ∧ ∀ q : Nat, q < s.heap.size → (∀ z ∈ locs, z.base ≠ q) → U.heap[q]? = s.heap[q]? := by
  obtain ⟨-, h2, -, -, -, h6⟩ := h
  refine ⟨h2, fun q hq hz => ?_⟩
  obtain ⟨c9, e1, e2, e3, e4⟩ := h6 q _ (Array.getElem?_eq_getElem hq)
  have hs : c9.slots = (s.heap[q]).slots := Array.ext_getElem? fun i => e4 i fun hm => hz _ hm rfl
  have h9 : c9 = s.heap[q] := by
    rw [hs] at e2
    exact e2
  have e5 : U.heap[q]? = some c9 := e1
  rw [e5, h9, Array.getElem?_eq_getElem hq]
/-- the words of a throw but the four that speak of the heap -/
def vx_no (w : Cond) : Bool := decide (w ≠ .isRef (.static Bundle.tN "UNASSIGNED_STACK" Bundle.steD)) && decide (w ≠ .isRef (.static Bundle.tN "SUPPRESSED_SENTINEL" Bundle.listD)) && decide (w ≠ .laysStatic Bundle.tN "UNASSIGNED_STACK" Bundle.steD) && decide (w ≠ .laysStatic Bundle.tN "SUPPRESSED_SENTINEL" Bundle.listD)
def vx_at0 (own : String) (ic : Nat) (X : String) (names : List String) : List Cond := (Bundle.ownAtoms0 own ic X names).filter vx_no
def vx_atS (own : String) (ic : Nat) (X : String) (names : List String) : List Cond := (Bundle.ownAtoms own ic X names).filter vx_no
/-- a word that the tables alone decide, or a good one -/
def vx_ot (w : Cond) : Bool := w.onTables || goodWord w
theorem vx_ot_at {args a' : Array Value} {s U : State} {w : Cond} (hW : s.WarmedH U.vm) (hvm : s.vm = U.vm) (hg : vx_ot w = true) (h : w.before args s = true) : w.before a' U = true := by
  simp only [vx_ot, Bool.or_eq_true] at hg
  rcases hg with hg | hg
  · exact va_tabs hg hvm h
  · exact word_at hW (good_of_word hg) h
/-- a list's words: the good ones out of the method's own list, the others by premises of their own -/
theorem vx_hat {args : Array Value} {s : State} {L B : List Cond} (h1 : ∀ w ∈ L.filter goodWord, w.before args s = true) (h2 : ∀ w ∈ L.filter (fun w => !goodWord w), w ∈ B) (h3 : ∀ w ∈ B, w.before args s = true) : ∀ w ∈ L, w.before args s = true := by
  intro w hw
  by_cases g : goodWord w = true
  · exact h1 w (List.mem_filter.mpr ⟨hw, g⟩)
  · refine h3 w (h2 w (List.mem_filter.mpr ⟨hw, ?_⟩))
    show (!goodWord w) = true
    cases hgw : goodWord w
    · rfl
    · exact absurd hgw g
theorem vx_c {args : Array Value} {s : State} {w : Cond} {B : List Cond} (h : w.before args s = true) (t : ∀ w ∈ B, w.before args s = true) : ∀ w' ∈ w :: B, w'.before args s = true := fun w' h' => (List.mem_cons.mp h').elim (fun e => by rw [e]; exact h) (t w')
theorem vx_n {args : Array Value} {s : State} : ∀ w ∈ ([] : List Cond), w.before args s = true := fun _ h => nomatch h
theorem vx_own {args : Array Value} {s : State} {L : List Cond} (h1 : ∀ w ∈ L.filter vx_no, w.before args s = true)
    (hU : (Cond.isRef (.static Bundle.tN "UNASSIGNED_STACK" Bundle.steD)).before args s = true) (hN : (Cond.isRef (.static Bundle.tN "SUPPRESSED_SENTINEL" Bundle.listD)).before args s = true)
    (lU : (Cond.laysStatic Bundle.tN "UNASSIGNED_STACK" Bundle.steD).before args s = true) (lN : (Cond.laysStatic Bundle.tN "SUPPRESSED_SENTINEL" Bundle.listD).before args s = true) : ∀ w ∈ L, w.before args s = true := by
  intro w hw
  by_cases e1 : w = .isRef (.static Bundle.tN "UNASSIGNED_STACK" Bundle.steD)
  · rw [e1]; exact hU
  · by_cases e2 : w = .isRef (.static Bundle.tN "SUPPRESSED_SENTINEL" Bundle.listD)
    · rw [e2]; exact hN
    · by_cases e3 : w = .laysStatic Bundle.tN "UNASSIGNED_STACK" Bundle.steD
      · rw [e3]; exact lU
      · by_cases e4 : w = .laysStatic Bundle.tN "SUPPRESSED_SENTINEL" Bundle.listD
        · rw [e4]; exact lN
        · exact h1 w (List.mem_filter.mpr ⟨hw, by unfold vx_no; rw [decide_eq_true e1, decide_eq_true e2, decide_eq_true e3, decide_eq_true e4]; rfl⟩)
/-- where a static field lies, its class's statics cell in H -/
def vx_L (C n d : String) (A : Nat → Prop) (U : State) (H : Heap) : Prop := ∃ (c : ClassId) (k : Class) (i : Nat) (f : Field) (a : Nat) (cell : Cell), U.vm.findClass C = some c ∧ U.fieldFound? C n d = some (c, k, i, f) ∧ f.isStatic = true ∧ k.statics = some a ∧ H[a]? = some cell ∧ cell.vm.isStatics = true ∧ cell.cls = c ∧ f.slot < cell.slots.size ∧ k.staticTypes[f.slot]? = some f.type ∧ ¬ A a
theorem vx_L.moved {C n d : String} {A : Nat → Prop} {u U : State} {H : Heap} (hvm : u.vm.Alike U.vm) (h : vx_L C n d A u H) : vx_L C n d A U H := by
  obtain ⟨c, k, i, f, a, cell, h1, h2, h3, h4, h5, h6, h7, h8, h9, h10⟩ := h
  obtain ⟨k', hi', he⟩ := State.fieldFound?_setVm hvm h2
  exact ⟨c, k', i, f, a, cell, by rw [hvm.findClass]; exact h1, hi', h3, by rw [he]; exact h4, h5, h6, h7, h8, by rw [he]; exact h9, h10⟩
theorem vx_L.kept {C n d : String} {A : Nat → Prop} {U : State} {H H1 : Heap} (h : vx_L C n d A U H) (hq : ∀ a : Nat, a < H.size → ¬ A a → H1[a]? = H[a]?) : vx_L C n d A U H1 := by
  obtain ⟨c, k, i, f, a, cell, h1, h2, h3, h4, h5, h6, h7, h8, h9, h10⟩ := h
  exact ⟨c, k, i, f, a, cell, h1, h2, h3, h4, by rw [hq a (Array.getElem?_eq_some_iff.mp h5).1 h10]; exact h5, h6, h7, h8, h9, h10⟩
theorem vx_L.narrow {C n d : String} {A B : Nat → Prop} {U : State} {H : Heap} (h : vx_L C n d A U H) (hAB : ∀ q, B q → A q) : vx_L C n d B U H := by
  obtain ⟨c, k, i, f, a, cell, h1, h2, h3, h4, h5, h6, h7, h8, h9, h10⟩ := h
  exact ⟨c, k, i, f, a, cell, h1, h2, h3, h4, h5, h6, h7, h8, h9, fun z => h10 (hAB _ z)⟩
theorem vx_L.word {C n d : String} {A : Nat → Prop} {s : State} {args : Array Value} (h : vx_L C n d A s s.heap) : (Cond.laysStatic C n d).before args s = true := by
  obtain ⟨c, k, i, f, a, cell, h1, h2, h3, h4, h5, h6, h7, h8, h9, -⟩ := h
  show (Cond.laysStatic C n d).holds args s none s [] = true
  exact Cond.laysStatic_of h1 h2 h3 h4 h5 h6 h7 h8 h9
/-- .. and what it holds: null or some reference -/
def vx_Zq (C n d : String) (A : Nat → Prop) (U : State) (H : Heap) : Prop := va_Zq C n d A U H ∧ vx_L C n d A U H
theorem vx_Zq.moved {C n d : String} {A : Nat → Prop} {u U : State} {H : Heap} (hvm : u.vm.Alike U.vm) (h : vx_Zq C n d A u H) : vx_Zq C n d A U H := ⟨va_Zq.moved hvm h.1, vx_L.moved hvm h.2⟩
theorem vx_Zq.kept {C n d : String} {A : Nat → Prop} {U : State} {H H1 : Heap} (h : vx_Zq C n d A U H) (hq : ∀ a : Nat, a < H.size → ¬ A a → H1[a]? = H[a]?) : vx_Zq C n d A U H1 := ⟨va_Zq.kept h.1 hq, vx_L.kept h.2 hq⟩
theorem vx_Zq.narrow {C n d : String} {A B : Nat → Prop} {U : State} {H : Heap} (h : vx_Zq C n d A U H) (hAB : ∀ q, B q → A q) : vx_Zq C n d B U H := ⟨va_Zq.narrow h.1 hAB, vx_L.narrow h.2 hAB⟩
theorem vx_Zqof {args : Array Value} {s : State} {C n d : String} {A : Nat → Prop} (hl : (Cond.laysStatic C n d).before args s = true) (hini : (Cond.initialized C).before args s = true) (h : (Cond.isRef (.static C n d)).before args s = true) (hA : ∀ a : Nat, a < s.heap.size → ¬ A a) : vx_Zq C n d A s s.heap := by
  refine ⟨va_Zqof hl hini h hA, ?_⟩
  obtain ⟨c, k, i, f, a, cell, h1, h2, h3, h4, h5, h6, h7, h8, h9⟩ := Cond.laysStatic_spec hl
  exact ⟨c, k, i, f, a, cell, h1, h2, h3, h4, h5, h6, h7, h8, h9, hA a (Array.getElem?_eq_some_iff.mp h5).1⟩
theorem vx_isRef {C n d : String} {v : Value} {A : Nat → Prop} {s : State} {args : Array Value} (h : va_Z C n d v A s s.heap) (hv : v.isRef = true) : (Cond.isRef (.static C n d)).before args s = true := by
  obtain ⟨cf, kf, fi, f, a, cell, h1, h2, h3, h4, h5, h6, h7, -⟩ := h
  have he : (Term.static C n d).eval args s none [] s = some v := by
    simp [Term.eval, State.fieldNamed?, h1, h2, h4, h5, h6, h7]
  simp only [Cond.before, Cond.holds, Cond.value, he]
  cases v <;> simp_all [Value.isRef]
theorem vx_isRefq {C n d : String} {A : Nat → Prop} {s : State} {args : Array Value} (h : va_Zq C n d A s s.heap) : (Cond.isRef (.static C n d)).before args s = true := by
  rcases h with h | ⟨t, h⟩
  · exact vx_isRef h rfl
  · exact vx_isRef h rfl
/-- the same frame, seen from here: as if the method were called anew in this heap -/
theorem vx_rebase {T : State} (X : Stand p l e R s m args below meth c T locs cells slots) {R' : Room} (hf : R'.frames ≤ R.frames) (hl : R'.locals ≤ R.locals) (hc : cells + R'.cells ≤ R.cells) (hs : slots + R'.slots ≤ R.slots) :
    Stand p l e R' ((T.setVm s.vm).setFrames (.invoking m args :: below)) m args below meth c T [] 0 0 := by
  have htop : (T.setVm s.vm).topJava?.isSome := X.here.top
  have hF : ((T.setVm s.vm).setFrames (.invoking m args :: below)).frames = .invoking m args :: below := State.frames_setFrames _ (State.cur_lt_of_top htop)
  obtain ⟨g₀, hg0⟩ := Option.isSome_iff_exists.mp htop
  obtain ⟨r, hr⟩ := State.topJava?_eq_some.mp hg0
  have hl9 : e.platform.stackLimits (T.setVm s.vm).me = e.platform.stackLimits s.me := X.limits
  have hb9 : (T.setVm s.vm).me.stackBytes = s.me.stackBytes := X.bytes
  refine ⟨X.admits, X.cas, X.clock, hF, ?_, X.hears, X.method, X.code, X.here, X.tail, X.warmed, ?_, ?_, ?_⟩
  · have h := X.room
    have hU : ((T.setVm s.vm).setFrames (.invoking m args :: below)).localsInUse = s.localsInUse := by
      rw [State.localsInUse_invoking hF (meth := meth) (c := c) X.method X.code, State.localsInUse_invoking X.frames X.method X.code]
    simp only [State.hasRoom, Bool.and_eq_true, decide_eq_true_eq] at h ⊢
    obtain ⟨⟨⟨⟨h1, h2, h3, h4, h5, h6⟩, h7⟩, h8⟩, h9⟩ := h
    rw [X.frames, List.length_cons] at h2 h3
    have q1 := X.heapSize
    have q2 := X.used
    simp only [hF, hU, List.length_cons, State.stackLimits_setFrames, State.stackBytes_setFrames, hl9, hb9]
    refine ⟨⟨⟨⟨by omega, by omega, by omega, by omega, by omega, h6⟩, ?_⟩, ?_⟩, X.book⟩
    · show T.heap.size + R'.cells ≤ e.platform.maxCells
      omega
    · show T.slotsUsed + R'.slots ≤ e.platform.maxSlots
      omega
  · rw [State.stackLimits_setFrames]; rfl
  · rw [State.stackBytes_setFrames]; rfl
  · refine ⟨?_, Nat.le_refl _, Nat.le_refl _, ?_, ?_, fun a c9 h9 => ⟨c9, h9, rfl, rfl, fun _ _ => rfl⟩⟩
    · obtain ⟨t, ht, -⟩ := State.frames_cons hr
      show T.setVm s.vm = { ((T.setVm s.vm).setFrames (.invoking m args :: below)).setFrames (T.setVm s.vm).frames with heap := T.heap, slotsUsed := T.slotsUsed }
      rw [State.setFrames_setFrames, State.setFrames_self ht]
      rfl
    · show T.slotsUsed = T.slotsUsed + ((T.heap.toList.drop T.heap.size).map (·.slots.size)).sum
      rw [List.drop_eq_nil_of_le (Nat.le_of_eq Array.length_toList)]
      rfl
    · show ((T.heap.toList.drop T.heap.size).map (·.slots.size)).sum ≤ 0
      rw [List.drop_eq_nil_of_le (Nat.le_of_eq Array.length_toList)]
      exact Nat.le_refl _
/-- 'throw new E()': new; dup; invokespecial; athrow -/
theorem vx_throw0 {cc : ByteArray} {pc : Nat} (hexec : p.tables.exec = Jvm.exec) (hb : c.code = cc) (hl : l.stackTraces = false) {own cls : String} {names : List String} {ik ic mc ms : Nat} {A : Nat → Prop}
    (hown : s.vm.findClass own = some m.cls) (hcls : Bundle.fit cls = true) (hnames : ∀ n ∈ names, Bundle.fit n = true)
    (hk : (Cond.classLink own ik cls).before args s = true) (hini : (Cond.initialized cls).before args s = true) (hat : ∀ w ∈ vx_at0 own ic cls names, w.before args s = true)
    (hgood : ∀ w ∈ Cond.classLink own ik cls :: Cond.initialized cls :: vx_at0 own ic cls names, vx_ot w = true)
    (hU : vx_Zq Bundle.tN "UNASSIGNED_STACK" Bundle.steD A s s.heap) (hN : vx_Zq Bundle.tN "SUPPRESSED_SENTINEL" Bundle.listD A s s.heap) (hS : va_S A s.heap H locs) (hsize : ls.size = c.maxLocals)
    (d0 : decode cc pc = .ok (.new ik, 3)) (d3 : decode cc (pc + 3) = .ok (.dup, 1)) (d4 : decode cc (pc + 4) = .ok (.invokespecial ic, 3)) (d7 : decode cc (pc + 7) = .ok (.athrow, 1))
    (hout : ∀ x ∈ c.exceptionTable.toList, covers x (pc + 7) = false)
    (hRframes : names.length + 3 < R.frames) (hRlocals : (rest.map fun v => v.category).sum + (13 * (names.length + 1) + 42) ≤ R.locals) (hRcells : cells + 1 ≤ R.cells) (hRslots : slots + 6 ≤ R.slots) (hlocks : meth.locks = false)
    (hx : ∀ t : State, s.vm.Alike t.vm → H.size ≤ t.heap.size → (∀ q : Nat, q < H.size → t.heap[q]? = H[q]?) → XC cls s t)
    (hf : ∀ z ∈ locs, free z.base) (hc : cells + 1 ≤ mc) (hs : slots + 6 ≤ ms) :
    W p l e R s m args below meth c H locs cells slots (vx_MQ below Qc XC args s mc ms free) (F0 m pc ls rest) := by
  intro T hT X
  have htr : e.platform.stackTraces = false := (show e.platform.stackTraces = l.stackTraces by rw [X.admits.platform]).trans hl
  have Y := vx_rebase X (R' := { frames := R.frames, locals := R.locals, cells := 1, slots := 6 }) (Nat.le_refl _) (Nat.le_refl _) hRcells hRslots
  obtain ⟨s', hA⟩ : ∃ z, z = (T.setVm s.vm).setFrames (.invoking m args :: below) := ⟨_, rfl⟩
  rw [← hA] at Y
  have hvm : s'.vm = s.vm := by rw [hA]; rfl
  have hhp : s'.heap = H := by rw [hA]; exact hT
  have hW0 : s.WarmedH s'.vm := by rw [hvm]; exact State.WarmedH.refl s
  have hat' : ∀ w ∈ vx_at0 own ic cls names, w.before args s' = true := fun w hw => vx_ot_at hW0 hvm.symm (hgood w (List.mem_cons_of_mem _ (List.mem_cons_of_mem _ hw))) (hat w hw)
  have hk' : (Cond.classLink own ik cls).before args s' = true := vx_ot_at hW0 hvm.symm (hgood _ List.mem_cons_self) hk
  have hini' : (Cond.initialized cls).before args s' = true := vx_ot_at hW0 hvm.symm (hgood _ (List.mem_cons_of_mem _ List.mem_cons_self)) hini
  have hU' : vx_Zq Bundle.tN "UNASSIGNED_STACK" Bundle.steD A s' s'.heap := by rw [hhp]; exact vx_Zq.moved hW0.alike (hU.kept hS.2.1)
  have hN' : vx_Zq Bundle.tN "SUPPRESSED_SENTINEL" Bundle.listD A s' s'.heap := by rw [hhp]; exact vx_Zq.moved hW0.alike (hN.kept hS.2.1)
  have h : ∀ w ∈ Bundle.ownAtoms0 own ic cls names, w.before args s' = true := vx_own hat' (vx_isRefq hU'.1) (vx_isRefq hN'.1) hU'.2.word hN'.2.word
  have hown' : s'.vm.findClass own = some m.cls := by rw [hvm]; exact hown
  have hins : (Cond.instantiable cls 6).before args s' = true := h _ (by simp [Bundle.ownAtoms0])
  obtain ⟨vm₁, cX, kX, hfX, hkX, -, -, X₁, st1⟩ := Y.newCold hexec (own := own) (C := cls) (index := ik) (n := 6) hown' hk' hins hini'
    (g := F0 m pc ls rest) rfl (by rw [hb]; exact d0) (Nat.le_refl _) (Nat.le_refl _)
  generalize hT1 : (T.setVm vm₁).pushCell { cls := cX, slots := kX.instanceTypes.map defaultValue, vm := .none } = T1 at X₁ st1
  have hcat : (Value.ref T.heap.size).category = 1 := rfl
  have hcellA : T1.heap[T.heap.size]? = some (freshCell cX kX) := by rw [← hT1]; exact State.heap_pushCell_size _ _
  have d3' : decode c.code (pc + 3) = .ok (.dup, 1) := by rw [hb]; exact d3
  obtain ⟨U, hsteps, hrun, hend, hW, hsame, ce, hce, hO⟩ := X₁.ctorThrow0 hexec htr (own := own) (cls := cls) (names := names) (ic := ic) hown' hcls hnames h (fun x hx => nomatch hx) hfX hkX hcellA (by rw [hhp, hT]; exact Nat.le_refl _)
    (g := { method := m, pc := pc + 4, locals := ls, stack := .ref T.heap.size :: .ref T.heap.size :: rest, locked := none }) rfl hsize rfl rfl (rest := rest) rfl
    (by rw [hb]; exact d4) (by rw [hb]; exact d7) hout hRframes (by simp only [List.map_cons, List.sum_cons, hcat]; omega) hlocks
  obtain ⟨f1, f2⟩ := vx_frame hsame
  rw [hhp] at f1 f2
  have hWs : s.WarmedH U.vm := State.WarmedH.trans hW0 hW
  have hcl : s.vm.findClass cls = some ce.cls := by
    have h9 := hO.cls
    rw [hvm] at h9
    exact h9
  have hall : s.sameButNew ({ U with vm := s.vm } : State) locs mc ms := by
    subst hA
    obtain ⟨e1, e2⟩ := hsame
    rw [State.setFrames_setFrames] at e1
    have h2 : (T.setVm s.vm).sameButNew ({ U with vm := s.vm } : State) [] (0 + 1) (0 + 6) := ⟨e1, e2⟩
    have h3 := X.same.trans h2
    rw [List.append_nil] at h3
    exact h3.mono hc hs
  refine ⟨U, ?_, .threw T.heap.size, hrun, hend, Or.inr ⟨T.heap.size, rfl, cls, ce, locs, hx U hWs.alike f1 (fun q hq => f2 q hq (fun z hz => nomatch hz)), hce, hO.vm, hcl, hWs, hall, hf⟩⟩
  refine st1 _ ?_
  show Steps p.tables e below (T1.setTop { method := m, pc := pc + 3, locals := ls, stack := .ref T.heap.size :: rest, locked := none }) _
  jvm_step X₁.here [X₁.here.top, hexec, d3', Value.category]
  exact hsteps
/-- 'throw new E("text")': new; dup; ldc; invokespecial; athrow -/
theorem vx_throwS {cc : ByteArray} {pc : Nat} (hexec : p.tables.exec = Jvm.exec) (hb : c.code = cc) (hl : l.stackTraces = false) {own cls text : String} {names : List String} {ik is ic mc ms sa : Nat} {A : Nat → Prop}
    (hown : s.vm.findClass own = some m.cls) (hcls : Bundle.fit cls = true) (hnames : ∀ n ∈ names, Bundle.fit n = true)
    (hk : (Cond.classLink own ik cls).before args s = true) (hini : (Cond.initialized cls).before args s = true) (hstr : vk_R own is text sa s) (hat : ∀ w ∈ vx_atS own ic cls names, w.before args s = true)
    (hgood : ∀ w ∈ Cond.classLink own ik cls :: Cond.initialized cls :: vx_atS own ic cls names, vx_ot w = true)
    (hU : vx_Zq Bundle.tN "UNASSIGNED_STACK" Bundle.steD A s s.heap) (hN : vx_Zq Bundle.tN "SUPPRESSED_SENTINEL" Bundle.listD A s s.heap) (hS : va_S A s.heap H locs) (hsize : ls.size = c.maxLocals)
    (d0 : decode cc pc = .ok (.new ik, 3)) (d3 : decode cc (pc + 3) = .ok (.dup, 1)) (d4 : decode cc (pc + 4) = .ok (.ldc is, 2)) (d6 : decode cc (pc + 6) = .ok (.invokespecial ic, 3)) (d9 : decode cc (pc + 9) = .ok (.athrow, 1))
    (hout : ∀ x ∈ c.exceptionTable.toList, covers x (pc + 9) = false)
    (hRframes : names.length + 3 < R.frames) (hRlocals : (rest.map fun v => v.category).sum + (13 * (names.length + 1) + 43) ≤ R.locals) (hRcells : cells + 1 ≤ R.cells) (hRslots : slots + 6 ≤ R.slots) (hlocks : meth.locks = false)
    (hx : ∀ t : State, s.vm.Alike t.vm → H.size ≤ t.heap.size → (∀ q : Nat, q < H.size → t.heap[q]? = H[q]?) → XC cls s t)
    (hf : ∀ z ∈ locs, free z.base) (hc : cells + 1 ≤ mc) (hs : slots + 6 ≤ ms) :
    W p l e R s m args below meth c H locs cells slots (vx_MQ below Qc XC args s mc ms free) (F0 m pc ls rest) := by
  intro T hT X
  have htr : e.platform.stackTraces = false := (show e.platform.stackTraces = l.stackTraces by rw [X.admits.platform]).trans hl
  have Y := vx_rebase X (R' := { frames := R.frames, locals := R.locals, cells := 1, slots := 6 }) (Nat.le_refl _) (Nat.le_refl _) hRcells hRslots
  obtain ⟨s', hA⟩ : ∃ z, z = (T.setVm s.vm).setFrames (.invoking m args :: below) := ⟨_, rfl⟩
  rw [← hA] at Y
  have hvm : s'.vm = s.vm := by rw [hA]; rfl
  have hhp : s'.heap = H := by rw [hA]; exact hT
  have hW0 : s.WarmedH s'.vm := by rw [hvm]; exact State.WarmedH.refl s
  have hat' : ∀ w ∈ vx_atS own ic cls names, w.before args s' = true := fun w hw => vx_ot_at hW0 hvm.symm (hgood w (List.mem_cons_of_mem _ (List.mem_cons_of_mem _ hw))) (hat w hw)
  have hk' : (Cond.classLink own ik cls).before args s' = true := vx_ot_at hW0 hvm.symm (hgood _ List.mem_cons_self) hk
  have hini' : (Cond.initialized cls).before args s' = true := vx_ot_at hW0 hvm.symm (hgood _ (List.mem_cons_of_mem _ List.mem_cons_self)) hini
  have hU' : vx_Zq Bundle.tN "UNASSIGNED_STACK" Bundle.steD A s' s'.heap := by rw [hhp]; exact vx_Zq.moved hW0.alike (hU.kept hS.2.1)
  have hN' : vx_Zq Bundle.tN "SUPPRESSED_SENTINEL" Bundle.listD A s' s'.heap := by rw [hhp]; exact vx_Zq.moved hW0.alike (hN.kept hS.2.1)
  have h : ∀ w ∈ Bundle.ownAtoms own ic cls names, w.before args s' = true := vx_own hat' (vx_isRefq hU'.1) (vx_isRefq hN'.1) hU'.2.word hN'.2.word
  have hown' : s'.vm.findClass own = some m.cls := by rw [hvm]; exact hown
  have hins : (Cond.instantiable cls 6).before args s' = true := h _ (by simp [Bundle.ownAtoms])
  obtain ⟨vm₁, cX, kX, hfX, hkX, -, -, X₁, st1⟩ := Y.newCold hexec (own := own) (C := cls) (index := ik) (n := 6) hown' hk' hins hini'
    (g := F0 m pc ls rest) rfl (by rw [hb]; exact d0) (Nat.le_refl _) (Nat.le_refl _)
  generalize hT1 : (T.setVm vm₁).pushCell { cls := cX, slots := kX.instanceTypes.map defaultValue, vm := .none } = T1 at X₁ st1
  have hcat : (Value.ref T.heap.size).category = 1 := rfl
  have hcellA : T1.heap[T.heap.size]? = some (freshCell cX kX) := by rw [← hT1]; exact State.heap_pushCell_size _ _
  have d3' : decode c.code (pc + 3) = .ok (.dup, 1) := by rw [hb]; exact d3
  have d4' : decode c.code (pc + 4) = .ok (.ldc is, 2) := by rw [hb]; exact d4
  have hstr' : vk_R own is text sa s' := vk_R.warm hW0 hstr
  obtain ⟨U, hsteps, hrun, hend, hW, hsame, ce, hce, hO⟩ := X₁.ctorThrowS hexec htr (own := own) (cls := cls) (names := names) (ic := ic) hown' hcls hnames h (fun x hx => nomatch hx) hfX hkX hcellA (by rw [hhp, hT]; exact Nat.le_refl _) (msg := .ref sa) rfl
    (g := { method := m, pc := pc + 6, locals := ls, stack := .ref sa :: .ref T.heap.size :: .ref T.heap.size :: rest, locked := none }) rfl hsize rfl rfl (rest := rest) rfl
    (by rw [hb]; exact d6) (by rw [hb]; exact d9) hout hRframes (by simp only [List.map_cons, List.sum_cons, hcat]; omega) hlocks
  obtain ⟨f1, f2⟩ := vx_frame hsame
  rw [hhp] at f1 f2
  have hWs : s.WarmedH U.vm := State.WarmedH.trans hW0 hW
  have hcl : s.vm.findClass cls = some ce.cls := by
    have h9 := hO.cls
    rw [hvm] at h9
    exact h9
  have hall : s.sameButNew ({ U with vm := s.vm } : State) locs mc ms := by
    subst hA
    obtain ⟨e1, e2⟩ := hsame
    rw [State.setFrames_setFrames] at e1
    have h2 : (T.setVm s.vm).sameButNew ({ U with vm := s.vm } : State) [] (0 + 1) (0 + 6) := ⟨e1, e2⟩
    have h3 := X.same.trans h2
    rw [List.append_nil] at h3
    exact h3.mono hc hs
  refine ⟨U, ?_, .threw T.heap.size, hrun, hend, Or.inr ⟨T.heap.size, rfl, cls, ce, locs, hx U hWs.alike f1 (fun q hq => f2 q hq (fun z hz => nomatch hz)), hce, hO.vm, hcl, hWs, hall, hf⟩⟩
  refine st1 _ ?_
  show Steps p.tables e below (T1.setTop { method := m, pc := pc + 3, locals := ls, stack := .ref T.heap.size :: rest, locked := none }) _
  jvm_step X₁.here [X₁.here.top, hexec, d3', Value.category]
  exact X₁.ldcString hexec (own := own) (text := text) (index := is) (a := sa) hown' hstr'.1 hstr'.2
    (g := { method := m, pc := pc + 4, locals := ls, stack := .ref T.heap.size :: .ref T.heap.size :: rest, locked := none }) rfl d4' _ hsteps
/-- 'throw new E("text")', the text by a wide index -/
theorem vx_throwSW {cc : ByteArray} {pc : Nat} (hexec : p.tables.exec = Jvm.exec) (hb : c.code = cc) (hl : l.stackTraces = false) {own cls text : String} {names : List String} {ik is ic mc ms sa : Nat} {A : Nat → Prop}
    (hown : s.vm.findClass own = some m.cls) (hcls : Bundle.fit cls = true) (hnames : ∀ n ∈ names, Bundle.fit n = true)
    (hk : (Cond.classLink own ik cls).before args s = true) (hini : (Cond.initialized cls).before args s = true) (hstr : vk_R own is text sa s) (hat : ∀ w ∈ vx_atS own ic cls names, w.before args s = true)
    (hgood : ∀ w ∈ Cond.classLink own ik cls :: Cond.initialized cls :: vx_atS own ic cls names, vx_ot w = true)
    (hU : vx_Zq Bundle.tN "UNASSIGNED_STACK" Bundle.steD A s s.heap) (hN : vx_Zq Bundle.tN "SUPPRESSED_SENTINEL" Bundle.listD A s s.heap) (hS : va_S A s.heap H locs) (hsize : ls.size = c.maxLocals)
    (d0 : decode cc pc = .ok (.new ik, 3)) (d3 : decode cc (pc + 3) = .ok (.dup, 1)) (d4 : decode cc (pc + 4) = .ok (.ldc_w is, 3)) (d7 : decode cc (pc + 7) = .ok (.invokespecial ic, 3)) (d10 : decode cc (pc + 10) = .ok (.athrow, 1))
    (hout : ∀ x ∈ c.exceptionTable.toList, covers x (pc + 10) = false)
    (hRframes : names.length + 3 < R.frames) (hRlocals : (rest.map fun v => v.category).sum + (13 * (names.length + 1) + 43) ≤ R.locals) (hRcells : cells + 1 ≤ R.cells) (hRslots : slots + 6 ≤ R.slots) (hlocks : meth.locks = false)
    (hx : ∀ t : State, s.vm.Alike t.vm → H.size ≤ t.heap.size → (∀ q : Nat, q < H.size → t.heap[q]? = H[q]?) → XC cls s t)
    (hf : ∀ z ∈ locs, free z.base) (hc : cells + 1 ≤ mc) (hs : slots + 6 ≤ ms) :
    W p l e R s m args below meth c H locs cells slots (vx_MQ below Qc XC args s mc ms free) (F0 m pc ls rest) := by
  intro T hT X
  have htr : e.platform.stackTraces = false := (show e.platform.stackTraces = l.stackTraces by rw [X.admits.platform]).trans hl
  have Y := vx_rebase X (R' := { frames := R.frames, locals := R.locals, cells := 1, slots := 6 }) (Nat.le_refl _) (Nat.le_refl _) hRcells hRslots
  obtain ⟨s', hA⟩ : ∃ z, z = (T.setVm s.vm).setFrames (.invoking m args :: below) := ⟨_, rfl⟩
  rw [← hA] at Y
  have hvm : s'.vm = s.vm := by rw [hA]; rfl
  have hhp : s'.heap = H := by rw [hA]; exact hT
  have hW0 : s.WarmedH s'.vm := by rw [hvm]; exact State.WarmedH.refl s
  have hat' : ∀ w ∈ vx_atS own ic cls names, w.before args s' = true := fun w hw => vx_ot_at hW0 hvm.symm (hgood w (List.mem_cons_of_mem _ (List.mem_cons_of_mem _ hw))) (hat w hw)
  have hk' : (Cond.classLink own ik cls).before args s' = true := vx_ot_at hW0 hvm.symm (hgood _ List.mem_cons_self) hk
  have hini' : (Cond.initialized cls).before args s' = true := vx_ot_at hW0 hvm.symm (hgood _ (List.mem_cons_of_mem _ List.mem_cons_self)) hini
  have hU' : vx_Zq Bundle.tN "UNASSIGNED_STACK" Bundle.steD A s' s'.heap := by rw [hhp]; exact vx_Zq.moved hW0.alike (hU.kept hS.2.1)
  have hN' : vx_Zq Bundle.tN "SUPPRESSED_SENTINEL" Bundle.listD A s' s'.heap := by rw [hhp]; exact vx_Zq.moved hW0.alike (hN.kept hS.2.1)
  have h : ∀ w ∈ Bundle.ownAtoms own ic cls names, w.before args s' = true := vx_own hat' (vx_isRefq hU'.1) (vx_isRefq hN'.1) hU'.2.word hN'.2.word
  have hown' : s'.vm.findClass own = some m.cls := by rw [hvm]; exact hown
  have hins : (Cond.instantiable cls 6).before args s' = true := h _ (by simp [Bundle.ownAtoms])
  obtain ⟨vm₁, cX, kX, hfX, hkX, -, -, X₁, st1⟩ := Y.newCold hexec (own := own) (C := cls) (index := ik) (n := 6) hown' hk' hins hini'
    (g := F0 m pc ls rest) rfl (by rw [hb]; exact d0) (Nat.le_refl _) (Nat.le_refl _)
  generalize hT1 : (T.setVm vm₁).pushCell { cls := cX, slots := kX.instanceTypes.map defaultValue, vm := .none } = T1 at X₁ st1
  have hcat : (Value.ref T.heap.size).category = 1 := rfl
  have hcellA : T1.heap[T.heap.size]? = some (freshCell cX kX) := by rw [← hT1]; exact State.heap_pushCell_size _ _
  have d3' : decode c.code (pc + 3) = .ok (.dup, 1) := by rw [hb]; exact d3
  have d4' : decode c.code (pc + 4) = .ok (.ldc_w is, 3) := by rw [hb]; exact d4
  have hstr' : vk_R own is text sa s' := vk_R.warm hW0 hstr
  obtain ⟨U, hsteps, hrun, hend, hW, hsame, ce, hce, hO⟩ := X₁.ctorThrowS hexec htr (own := own) (cls := cls) (names := names) (ic := ic) hown' hcls hnames h (fun x hx => nomatch hx) hfX hkX hcellA (by rw [hhp, hT]; exact Nat.le_refl _) (msg := .ref sa) rfl
    (g := { method := m, pc := pc + 7, locals := ls, stack := .ref sa :: .ref T.heap.size :: .ref T.heap.size :: rest, locked := none }) rfl hsize rfl rfl (rest := rest) rfl
    (by rw [hb]; exact d7) (by rw [hb]; exact d10) hout hRframes (by simp only [List.map_cons, List.sum_cons, hcat]; omega) hlocks
  obtain ⟨f1, f2⟩ := vx_frame hsame
  rw [hhp] at f1 f2
  have hWs : s.WarmedH U.vm := State.WarmedH.trans hW0 hW
  have hcl : s.vm.findClass cls = some ce.cls := by
    have h9 := hO.cls
    rw [hvm] at h9
    exact h9
  have hall : s.sameButNew ({ U with vm := s.vm } : State) locs mc ms := by
    subst hA
    obtain ⟨e1, e2⟩ := hsame
    rw [State.setFrames_setFrames] at e1
    have h2 : (T.setVm s.vm).sameButNew ({ U with vm := s.vm } : State) [] (0 + 1) (0 + 6) := ⟨e1, e2⟩
    have h3 := X.same.trans h2
    rw [List.append_nil] at h3
    exact h3.mono hc hs
  refine ⟨U, ?_, .threw T.heap.size, hrun, hend, Or.inr ⟨T.heap.size, rfl, cls, ce, locs, hx U hWs.alike f1 (fun q hq => f2 q hq (fun z hz => nomatch hz)), hce, hO.vm, hcl, hWs, hall, hf⟩⟩
  refine st1 _ ?_
  show Steps p.tables e below (T1.setTop { method := m, pc := pc + 3, locals := ls, stack := .ref T.heap.size :: rest, locked := none }) _
  jvm_step X₁.here [X₁.here.top, hexec, d3', Value.category]
  exact X₁.ldcStringW hexec (own := own) (text := text) (index := is) (a := sa) hown' hstr'.1 hstr'.2
    (g := { method := m, pc := pc + 4, locals := ls, stack := .ref T.heap.size :: .ref T.heap.size :: rest, locked := none }) rfl d4' _ hsteps
end Ends
section Bodies
variable {l : Launch}
theorem vx_ofW {y : MethodName} {ws ws' : List Cond} {rm : Room} {Pc : Array Value → State → Prop} {Qc : Array Value → State → Outcome → State → Prop} {XC : String → State → State → Prop} {mc ms : Nat} {free : Addr → Prop} {cc : ByteArray} {maxL : Nat} {ret : Option FieldType}
    (hy : plainName y.cls = true) (hw : ws = Cond.code y cc maxL ret :: ws')
    (body : ∀ p e s m args below meth c s₁, BodyLoose p l y (headSpec ws rm) cc maxL ret e s m args below meth c s₁ → c.maxLocals = maxL → (∀ x ∈ c.exceptionTable.toList, False) → Pc args s →
      W p l e (headSpec ws rm).room s m args below meth c s.heap [] 0 0 (vx_MQ below Qc XC args s mc ms free) (entryFrame m args maxL)) : vx_Met l y ws rm Pc Qc XC mc ms free := by
  refine MetFree.of_bodyS (code := cc) (maxLocals := maxL) (ret := ret) hy ?_ ?_
  · intro args s m h hn
    obtain ⟨meth, c, h1, h2, h3, h4, h5, h6, -, -⟩ := Cond.code_spec hn (atoms_spec (ws := ws) h _ (by rw [hw]; exact List.mem_cons_self))
    exact ⟨meth, c, h1, h2, h3, h4, h5, h6⟩
  · intro p e s m args below meth c s₁ B hml hP _
    have hh0 : s₁.heap = s.heap := by rw [B.state]; rfl
    have ht : ∀ x ∈ c.exceptionTable.toList, False := by
      obtain ⟨meth9, c9, h1, h2, -, -, -, -, h7, -⟩ := Cond.code_spec B.named (atoms_spec (ws := ws) B.pre _ (by rw [hw]; exact List.mem_cons_self))
      cases Option.some.inj (h1.symm.trans B.method)
      cases Option.some.inj (h2.symm.trans (Stand.of_body B).code)
      intro x hx
      rw [Array.isEmpty_iff.mp h7] at hx
      cases hx
    obtain ⟨t, a1, o, b1, b2, b3⟩ := body p e s m args below meth c s₁ B hml ht hP s₁ hh0 (Stand.of_body B)
    exact ⟨t, o, a1, b1, b2, b3⟩
/-- the table of a body with handlers -/
theorem vx_table {p : Program} {x y : MethodName} {S : Spec} {cc bytes : ByteArray} {maxL maxL' : Nat} {ret ret' : Option FieldType} {e : Env} {s s₁ : State} {m : MethodId} {args : Array Value} {below : List Frame} {meth : Method} {c : Code} {hh : List (Nat × Nat × Nat × Nat)}
    (B : BodyLoose p l y S cc maxL ret e s m args below meth c s₁) (h : (Cond.codeWith y bytes maxL' ret' hh).before args s = true) : c.exceptionTable.toList = tableOf hh := by
  obtain ⟨m9, meth9, c9, hn9, h1, h2, -, -, h6, -⟩ := Cond.codeWith_spec h
  cases Option.some.inj (hn9.symm.trans B.named)
  cases Option.some.inj (h1.symm.trans B.method)
  cases Option.some.inj (h2.symm.trans (Stand.of_body B).code)
  rw [← h6, table_eq]
end Bodies
end VXA
/-! ===== END ===== -/
/-! ===== BEGIN a static call of a method with an exception table ===== -/
section VXS
variable {p : Program} {l : Launch} {e : Env} {R : Room} {s : State} {m : MethodId} {args : Array Value} {below : List Frame} {meth : Method} {c : Code} {T : State} {H : Heap} {locs : List Loc} {cells slots : Nat}
abbrev vx_CSW (R : Room) (s : State) (args : Array Value) (own : String) (index : Nat) (y : MethodName) (bytes : ByteArray) (maxL : Nat) (ret : Option FieldType) (hh : List (Nat × Nat × Nat × Nat)) (ws : List Cond) (rm : Room) (mc ms n : Nat) : Prop :=
  (rm.cells = mc ∧ rm.slots = ms ∧ rm.frames + 1 ≤ R.frames ∧ 8 + (maxL + 11) + rm.locals ≤ R.locals ∧ (∀ w ∈ ws, ∀ (a' : Array Value) (U : State), s.WarmedH U.vm → w.before a' U = true) ∧ Cond.codeWith y bytes maxL ret hh ∈ ws) ∧
  (Cond.codeWith y bytes maxL ret hh).before args s = true ∧ (Cond.initialized y.cls).before args s = true ∧ (y.cls ≠ "java/lang/invoke/MethodHandle" ∧ y.cls ≠ "java/lang/invoke/VarHandle") ∧
  (∀ sig, parseMethodDescriptor y.desc = some sig → n = sig.parameters.length) ∧ (Cond.methodLink own index y).before args s = true ∧ (Cond.static y).before args s = true
theorem vx_cwSW {own : String} {index maxL mc ms : Nat} {y : MethodName} {bytes : ByteArray} {ret : Option FieldType} {hh : List (Nat × Nat × Nat × Nat)} {Ts ws ws' : List Cond} {rm : Room} (n : Nat) (ht : ∀ w ∈ Ts, w.before args s = true) (hT : GoodIn Ts (va_wsS own index y ws)) (hw : ws = Cond.codeWith y bytes maxL ret hh :: ws') (hrc : rm.cells = mc) (hrs : rm.slots = ms)
    (hd : y.cls ≠ "java/lang/invoke/MethodHandle" ∧ y.cls ≠ "java/lang/invoke/VarHandle" ∧ (parseMethodDescriptor y.desc).map (fun d => d.parameters.length) = some n) (hR : rm.frames + 1 ≤ R.frames ∧ 8 + (maxL + 11) + rm.locals ≤ R.locals) :
    vx_CSW R s args own index y bytes maxL ret hh ws rm mc ms n := by
  have ok : ∀ w ∈ va_wsS own index y ws, w.before args s = true := fun w h => ht w (hT w h).1
  have hG : GoodIn Ts ws := fun w h => hT w (by unfold va_wsS; exact List.mem_append_right _ h)
  have hc : Cond.codeWith y bytes maxL ret hh ∈ ws := by rw [hw]; exact List.mem_cons_self
  refine ⟨⟨hrc, hrs, hR.1, hR.2, pay_in ht hG, hc⟩, ht _ (hG _ hc).1, ok _ (by simp [va_wsS]), ⟨hd.1, hd.2.1⟩, fun sig h => ?_, ok _ (by simp [va_wsS]), ok _ (by simp [va_wsS])⟩
  have h2 := hd.2.2
  rw [h] at h2
  exact (Option.some.inj h2).symm
theorem vx_callSW (X : Stand p l e R s m args below meth c T locs cells slots) (hexec : p.tables.exec = Jvm.exec) {own : String} {index : Nat} {y : MethodName} {bytes : ByteArray} {maxL : Nat} {ret : Option FieldType} {hh : List (Nat × Nat × Nat × Nat)}
    (hown : s.vm.findClass own = some m.cls) (hlink : (Cond.methodLink own index y).before args s = true) (hstat : (Cond.static y).before args s = true) (hinit : (Cond.initialized y.cls).before args s = true)
    (hcode : (Cond.codeWith y bytes maxL ret hh).before args s = true) (hy : y.cls ≠ "java/lang/invoke/MethodHandle" ∧ y.cls ≠ "java/lang/invoke/VarHandle")
    {W9 : Nat} {Pre : Pt → Array Value → Prop} {Post : Pt → Array Value → Option Value → Pt → Prop} (hK : Back l R p e below s args y 3 W9 Pre Post)
    {g : JFrame} (hg : g.method = m) (hsize : g.locals.size = c.maxLocals) {argsL rest : List Value} (hlen : ∀ sig, parseMethodDescriptor y.desc = some sig → argsL.length = sig.parameters.length)
    (hstack : g.stack = argsL.reverse ++ rest) (hW : 2 * g.monitorRoom + (rest.map fun v => v.category).sum ≤ W9) (hdg : decode c.code g.pc = .ok (.invokestatic index, 3))
    (hpre : ∀ vm₁, s.WarmedH vm₁ → Pre ⟨T.setVm vm₁, locs, cells, slots⟩ argsL.toArray) :
    ∃ (v : Option Value) (vm₁ : Vm) (B : Pt), s.WarmedH vm₁ ∧ Stand p l e R s m args below meth c B.U B.locs B.cells B.slots ∧ Post ⟨T.setVm vm₁, locs, cells, slots⟩ argsL.toArray v B ∧
      ∀ target, Steps p.tables e below (B.U.setTop { g with pc := g.pc + 3, stack := v.toList ++ rest }) target → Steps p.tables e below (T.setTop g) target := by
  obtain ⟨mk, methM, cM, hnamed, hmethM, -, -, -, -, -, -, hsigM⟩ := Cond.codeWith_spec hcode
  have hstatic : methM.isStatic = true := Cond.static_spec hnamed hmethM hstat
  obtain ⟨kP, hkP, -⟩ := className_of_methodNamed hnamed
  have hinitP : kP.init = .initialized := Cond.initialized_spec (findClass_of_methodNamed hnamed) hkP hinit
  obtain ⟨vm₁, X₁, hstep₁⟩ := X.invokestatic hexec hown hlink hnamed hmethM hstatic hkP hinitP hy (g := g) hg (argsL := argsL) (rest := rest) (hlen _ hsigM) hstack hdg
  obtain ⟨v, B, X', hpost, hsteps⟩ := hK m meth c ⟨T.setVm vm₁, locs, cells, slots⟩ { g with stack := rest } (.invokestatic index) mk argsL.toArray X₁ hg hsize hdg hW (X₁.named hnamed) (hpre vm₁ X₁.warmed)
  exact ⟨v, vm₁, B, X₁.warmed, X', hpost, fun target h => hstep₁ _ fun acts => by rw [doInvoke_state]; exact hsteps.trans h⟩
theorem vx_runSW {y : MethodName} {bytes cc : ByteArray} {maxL nL mc ms n index : Nat} {ret : Option FieldType} {hh : List (Nat × Nat × Nat × Nat)} {ws : List Cond} {rm : Room} {Pc : Array Value → State → Prop} {Qc : Array Value → State → Outcome → State → Prop} {free : Addr → Prop} {Ts : List Cond} {own : String} {As rest : List Value} {g : JFrame}
    (S : CallFix p m c cc nL s args Ts own) (hM : Met l y ws rm Pc Qc mc ms free) (cw : vx_CSW R s args own index y bytes maxL ret hh ws rm mc ms n) (hp : PreS s H Pc As)
    (hg : g.method = m) (hn : As.length = n) (hsize : g.locals.size = nL) (hstack : g.stack = As.reverse ++ rest) (hW : 2 * g.monitorRoom + (rest.map fun v => v.category).sum ≤ 8) (hdg : decode cc g.pc = .ok (.invokestatic index, 3)) (hf : cells + mc ≤ R.cells ∧ slots + ms ≤ R.slots) :
    va_Run p l e R s m args below meth c H locs cells slots mc ms g rest (Qc As.toArray) (free) := by
  obtain ⟨⟨hrc, hrs, hfr, hlo, hws, hcw⟩, hcode, hini, hy, hlen, hl, hstt⟩ := cw
  have hK : Back l R p e below s args y 3 8 (PreOf R mc ms Pc) (PostOf Qc mc ms free) := va_backW (hh := hh) (bytes := bytes) (maxL := maxL) (ret := ret) hM hp.1 hrc hrs hfr hlo hws hcw (fun a' U hW => word_at hW (Or.inl (by first | rfl | simp [Cond.onTables, Cond.keeps, Cond.steady])) hini)
  obtain ⟨hx, hb, hml, ho, -⟩ := S
  intro T hT X
  obtain ⟨v, vm₁, ⟨U', l2, c2, s2⟩, hW₁, X', ⟨g', mk, t, L, e1, e2, hq, h1, hL, h2, h3⟩, st⟩ := vx_callSW X hx (hh := hh) (bytes := bytes) (maxL := maxL) (ret := ret) ho hl hstt hini hcode hy hK hg (hsize.trans hml.symm) (argsL := As) (rest := rest) (fun sig h => hn.trans (hlen sig h)) hstack hW (by rw [hb]; exact hdg)
    (fun vm₁ hW₁ => ⟨hf.1, hf.2, hp.2 (T.setVm vm₁) hT hW₁⟩)
  dsimp only [Pt.U, Pt.locs, Pt.cells, Pt.slots] at X' e1 e2 h1 h2 h3 st
  subst h1; subst h2; subst h3
  exact ⟨v, (T.setVm vm₁).calling g' mk As.toArray, t, U', L, hT, X', hL, e1, e2, hq, st⟩
/-- not caught here, past rows that name other classes: it goes on to the caller -/
theorem vx_outP {p : Program} {l : Launch} {e : Env} {R : Room} {s : State} {m : MethodId} {args : Array Value} {below : List Frame} {meth : Method} {c : Code} {H : Heap} {locs : List Loc} {cells slots : Nat} {free : Addr → Prop} {ls : Array Slot} {rest : List Value} {Qc : Array Value → State → Outcome → State → Prop} {XC : String → State → State → Prop}
    {pc : Nat} {own E : String} {ce : Cell} {q : Addr} {mc ms : Nat} (hown : s.vm.findClass own = some m.cls) (hlocks : meth.locks = false)
    (hpass : ∀ z ∈ c.exceptionTable.toList, covers z pc = false ∨ (z.catchType ≠ 0 ∧ ∃ nm : String, (Cond.classLink own z.catchType nm).before args s = true ∧ va_Nc E nm s)) (hcell : H[q]? = some ce) (hv : ce.vm = .none) (hcl : s.vm.findClass E = some ce.cls)
    (hx : ∀ t : State, t.heap = H → s.vm.Alike t.vm → XC E s t) (hf : ∀ z ∈ locs, free z.base) (hc : cells ≤ mc) (hs : slots ≤ ms) :
    vx_W p l e R s m args below meth c H locs cells slots (vx_MQ below Qc XC args s mc ms free) (F0 m pc ls rest) q := by
  intro T hT X
  have hpl : e.platform.magicAccessors = ({} : Platform).magicAccessors := by rw [X.admits.platform]
  obtain ⟨vm', hW', X', st⟩ := X.outThrough hlocks q (g := F0 m pc ls rest) rfl rfl rfl (cell := ce) (by rw [hT]; exact hcell) (by rw [hv]; rfl)
    (by obtain ⟨k9, h9, -⟩ := Vm.findClass_spec hcl; exact ⟨k9, h9⟩) (fun z hz => by
      rcases hpass z hz with h | ⟨hz0, nm, hl1, hn1⟩
      · exact Or.inl h
      · obtain ⟨c6, hc6, hcl6⟩ := Cond.classLink_spec hown hl1 e.platform hpl
        obtain ⟨a8, b8, h1, h2, h3⟩ := hn1
        cases Option.some.inj (h1.symm.trans hcl)
        cases Option.some.inj (h2.symm.trans hc6)
        exact Or.inr ⟨hz0, _, hcl6, h3⟩)
  obtain ⟨g₀, hfr⟩ := X'.frames_eq
  have hcell9 : ((T.setVm vm').setFrames (.throwing q :: below)).heap[q]? = some ce := by
    show T.heap[q]? = some ce
    rw [hT]; exact hcell
  have hend : Ended ((T.setVm vm').setFrames (.throwing q :: below)) below (.threw q) := State.frames_setFrames _ (State.cur_lt_of_frames hfr)
  refine ⟨(T.setVm vm').setFrames (.throwing q :: below), ?_, .threw q, X'.here.running, hend, Or.inr ⟨q, rfl, E, ce, locs, hx _ hT (X'.ends _).1.alike, hcell9, hv, hcl, (X'.ends _).1, (X'.ends _).2.mono hc hs, hf⟩⟩
  rw [X.pushThrowing_eq]
  exact st
/-- a thing of a world lies in the heap -/
theorem vx_lt {D : va_G} {cl : List vw_C} {ws : va_W} {H1 : Heap} (h : va_P D cl ws H1) {k : Nat} {q : Nat × va_E} (hk : ws[k]? = some q) : q.1 < H1.size := (h k q hk).lt
end VXS
/-! ===== END ===== -/
/-! ===== BEGIN methods with a table of their own: called by a name, returning or throwing ===== -/
section VXH
/-! vx_backW, vx_callVX, vx_callSX, vx_callVW, vx_runVW, vx_runVX, vx_runSX, vx_ofWH follow the same proofs as their sisters above (Free/Laws.lean, Shelf42/LK1.lean); vx_outP calls Shelf42/NT130.lean (outThrough). -/
section
variable {l : Launch} {R : Room} {p : Program} {e : Env} {below : List Frame} {s : State} {sargs : Array Value} {y : MethodName} {len W9 : Nat}
theorem vx_backW {ws : List Cond} {rm : Room} {Pc : Array Value → State → Prop} {Qc : Array Value → State → Outcome → State → Prop} {XC : String → State → State → Prop} {mc ms : Nat} {free : Addr → Prop} {bytes : ByteArray} {maxL : Nat} {ret : Option FieldType} {hh : List (Nat × Nat × Nat × Nat)}
    (hM : vx_Met l y ws rm Pc Qc XC mc ms free) (hblind : FrameBlind Pc) (hrc : rm.cells = mc) (hrs : rm.slots = ms)
    (hframes : rm.frames + 1 ≤ R.frames) (hlocals : W9 + (maxL + 11) + rm.locals ≤ R.locals)
    (hws : ∀ w ∈ ws, ∀ a' U, s.WarmedH U.vm → w.before a' U = true) (hcode : Cond.codeWith y bytes maxL ret hh ∈ ws) (hinit : ∀ a' U, s.WarmedH U.vm → (Cond.initialized y.cls).before a' U = true) :
    vx_Back l R p e below s sargs y len W9 (PreOf R mc ms Pc) (PostOf Qc mc ms free) (vx_Post XC mc ms free) := by
  intro m meth c A g ig mk a X hg hsize hdg hW hn hp
  have h1 : (headSpec ws rm).pre.before a A.U = true := atoms_intro fun w hw => hws w hw _ _ X.warmed
  have h2 : (Cond.codeWith y bytes maxL ret hh).before a A.U = true := hws _ hcode _ _ X.warmed
  have h3 : (Cond.initialized y.cls).before a A.U = true := hinit _ _ X.warmed
  have h4 : A.cells + (headSpec ws rm).room.cells ≤ R.cells := by rw [show (headSpec ws rm).room.cells = mc from hrc]; exact hp.1
  have h5 : A.slots + (headSpec ws rm).room.slots ≤ R.slots := by rw [show (headSpec ws rm).room.slots = ms from hrs]; exact hp.2.1
  have hPc : Pc a (A.U.calling g mk a) := hblind _ _ _ _ hp.2.2
  obtain ⟨U, Ls, c0, s0⟩ := A
  dsimp only [Pt.U, Pt.locs, Pt.cells, Pt.slots] at h1 h2 h3 h4 h5 X hn hPc ⊢
  obtain ⟨m9, methY, cY, hn9, hmY, hcY, -, hlY, -⟩ := Cond.codeWith_spec h2
  cases Option.some.inj (hn9.symm.trans hn)
  obtain ⟨kY, hkY, -⟩ := className_of_methodNamed hn
  have hinitY : kY.init = .initialized := Cond.initialized_spec (findClass_of_methodNamed hn) hkY h3
  have h : At U g.method c below := by rw [hg]; exact X.here
  have hlocals9 : W9 + (maxL + 11) + (headSpec ws rm).room.locals ≤ R.locals := hlocals
  have happ : (headSpec ws rm).appliesLoose y e.platform (U.calling g mk a) = true :=
    Spec.appliesLoose_calling (g := g) h hdg hn hkY hinitY
      (X.room_calling (g := g) (R' := (headSpec ws rm).room) hsize hmY hcY hframes (by rw [hlY]; omega) h4 h5) h1
  obtain ⟨mid, hmid⟩ := h.above
  have hfr : (U.setTop g).frames = (.java g :: mid) ++ below := by rw [State.frames_setTop' g h.top, hmid]; rfl
  obtain ⟨o, s₂, hsteps, -, hend, hq⟩ := Steps.callFree hM p X.admits X.cas X.clock (acts := []) hfr happ hPc trivial
  have hq' : vx_Q Qc XC mc ms free a (U.calling g mk a) o s₂ := hq
  rw [State.frames_setTop' g h.top] at hend
  obtain ⟨g₀, hg0⟩ := Option.isSome_iff_exists.mp h.top
  obtain ⟨r, hr⟩ := State.topJava?_eq_some.mp hg0
  have hr' : (({ U with heap := s₂.heap, slotsUsed := s₂.slotsUsed } : State).setVm s₂.vm).frames = .java g₀ :: r := hr
  rcases hq' with ⟨hqc, L, hfe, hL⟩ | ⟨q, rfl, E, ce, L, hx, hce, hcv, hcl, hW₂, hsm, hL⟩
  · obtain ⟨⟨v, rfl⟩, hW₂, e2, q2, q3, q4, q5, q6⟩ := id hfe
    have e3 : s₂ = ({ (U.calling g mk a).setFrames s₂.frames with heap := s₂.heap, slotsUsed := s₂.slotsUsed } : State).setVm s₂.vm := by
      have : s₂ = ({ s₂ with vm := (U.calling g mk a).vm } : State).setVm s₂.vm := rfl
      rw [e2] at this
      exact this
    obtain ⟨c₂, i₂, len₂, hc₂, hd₂, hf₂⟩ := hend
    have hW' : U.WarmedH s₂.vm := hW₂
    have hcc : c₂ = c := by
      have h1 : s₂.code? g.method = U.code? g.method := by
        rw [State.code?_eq, State.code?_eq, hW'.alike.method?]
      exact Option.some.inj (hc₂.symm.trans (h1.trans h.code))
    subst hcc
    have hlen : len₂ = len := by rw [hdg] at hd₂; cases hd₂; rfl
    subst hlen
    have hs₂ : s₂ = (({ U with heap := s₂.heap, slotsUsed := s₂.slotsUsed } : State).setVm s₂.vm).setTop { g with pc := g.pc + len₂, stack := v.toList ++ g.stack } := by
      refine e3.trans ?_
      rw [hf₂, State.calling_eq h.top, State.setFrames_setFrames, State.setTop_of_frames _ hr', hr]
      rfl
    have hsame : U.sameButNew ({ U with heap := s₂.heap, slotsUsed := s₂.slotsUsed } : State) L mc ms := by
      refine ⟨?_, q2, q3, q4, q5, q6⟩
      obtain ⟨t, ht, -⟩ := State.frames_cons hr
      show ({ U with heap := s₂.heap, slotsUsed := s₂.slotsUsed } : State) = { U.setFrames U.frames with heap := s₂.heap, slotsUsed := s₂.slotsUsed }
      rw [State.setFrames_self ht]
    subst hg
    refine Or.inl ⟨v, ⟨(({ U with heap := s₂.heap, slotsUsed := s₂.slotsUsed } : State).setVm s₂.vm), Ls ++ L, c0 + mc, s0 + ms⟩,
      ⟨X.admits, X.cas, X.clock, X.frames, X.room, X.hears, X.method, X.code, (X.here.setHeapUsed s₂.heap s₂.slotsUsed).setVm hW'.alike, X.tail, State.WarmedH.trans X.warmed hW', X.limits, X.bytes, X.same.trans (hsame.setVm s.vm)⟩,
      ⟨g, mk, s₂, L, rfl, rfl, hqc, rfl, hL, rfl, rfl⟩, ?_⟩
    show Steps p.tables e below _ ((({ U with heap := s₂.heap, slotsUsed := s₂.slotsUsed } : State).setVm s₂.vm).setTop { g with pc := g.pc + len₂, stack := v.toList ++ g.stack })
    rw [← hs₂]
    exact hsteps
  · obtain ⟨e2, q2, q3, q4, q5, q6⟩ := id hsm
    have e3 : s₂ = ({ (U.calling g mk a).setFrames s₂.frames with heap := s₂.heap, slotsUsed := s₂.slotsUsed } : State).setVm s₂.vm := by
      have : s₂ = ({ s₂ with vm := (U.calling g mk a).vm } : State).setVm s₂.vm := rfl
      rw [e2] at this
      exact this
    have hf₂ : s₂.frames = .throwing q :: .java g :: U.frames.tail := hend
    have hW' : U.WarmedH s₂.vm := hW₂
    have hs₂ : s₂ = ((({ U with heap := s₂.heap, slotsUsed := s₂.slotsUsed } : State).setVm s₂.vm).setTop g).pushFrame (.throwing q) := by
      refine e3.trans ?_
      rw [hf₂, State.calling_eq h.top, State.setFrames_setFrames, State.pushFrame, State.frames_setTop _ hr', State.setTop_of_frames _ hr', State.setFrames_setFrames, hr]
      rfl
    have hsame : U.sameButNew ({ U with heap := s₂.heap, slotsUsed := s₂.slotsUsed } : State) L mc ms := by
      refine ⟨?_, q2, q3, q4, q5, q6⟩
      obtain ⟨t, ht, -⟩ := State.frames_cons hr
      show ({ U with heap := s₂.heap, slotsUsed := s₂.slotsUsed } : State) = { U.setFrames U.frames with heap := s₂.heap, slotsUsed := s₂.slotsUsed }
      rw [State.setFrames_self ht]
    subst hg
    refine Or.inr ⟨q, ⟨(({ U with heap := s₂.heap, slotsUsed := s₂.slotsUsed } : State).setVm s₂.vm), Ls ++ L, c0 + mc, s0 + ms⟩,
      ⟨X.admits, X.cas, X.clock, X.frames, X.room, X.hears, X.method, X.code, (X.here.setHeapUsed s₂.heap s₂.slotsUsed).setVm hW'.alike, X.tail, State.WarmedH.trans X.warmed hW', X.limits, X.bytes, X.same.trans (hsame.setVm s.vm)⟩,
      ⟨g, mk, s₂, L, E, ce, rfl, rfl, hx, hce, hcv, hcl, rfl, hL, rfl, rfl⟩, ?_⟩
    show Steps p.tables e below _ (((({ U with heap := s₂.heap, slotsUsed := s₂.slotsUsed } : State).setVm s₂.vm).setTop g).pushFrame (.throwing q))
    rw [← hs₂]
    exact hsteps
end
variable {p : Program} {l : Launch} {e : Env} {R : Room} {s : State} {m : MethodId} {args : Array Value} {below : List Frame} {meth : Method} {c : Code} {T : State} {H : Heap} {locs : List Loc} {cells slots : Nat}
theorem vx_callVX (X : Stand p l e R s m args below meth c T locs cells slots) (hexec : p.tables.exec = Jvm.exec) {own C : String} {index : Nat} {y : MethodName} {bytes : ByteArray} {maxL : Nat} {ret : Option FieldType} {hh : List (Nat × Nat × Nat × Nat)}
    (hown : s.vm.findClass own = some m.cls) (hlink : (Cond.methodLink own index y).before args s = true) (hinst : (Cond.instanceMethod y).before args s = true) (hsel : (Cond.selects C y y).before args s = true)
    (hcode : (Cond.codeWith y bytes maxL ret hh).before args s = true) (hy : y.cls ≠ "java/lang/invoke/MethodHandle" ∧ y.cls ≠ "java/lang/invoke/VarHandle")
    {W9 : Nat} {Pre : Pt → Array Value → Prop} {Post : Pt → Array Value → Option Value → Pt → Prop} {PostX : Pt → Array Value → Addr → Pt → Prop} (hK : vx_Back l R p e below s args y 3 W9 Pre Post PostX)
    {b : Addr} {cellB : Cell} (hcell : T.heap[b]? = some cellB) (hobj : cellB.vm.isStatics = false) (hcls : s.vm.findClass C = some cellB.cls)
    {g : JFrame} (hg : g.method = m) (hsize : g.locals.size = c.maxLocals) {argsL rest : List Value} (hlen : ∀ sig, parseMethodDescriptor y.desc = some sig → argsL.length = sig.parameters.length)
    (hstack : g.stack = argsL.reverse ++ .ref b :: rest) (hW : 2 * g.monitorRoom + (rest.map fun v => v.category).sum ≤ W9) (hdg : decode c.code g.pc = .ok (.invokevirtual index, 3))
    (hpre : ∀ vm₁, s.WarmedH vm₁ → Pre ⟨T.setVm vm₁, locs, cells, slots⟩ (Value.ref b :: argsL).toArray) :
    (∃ (v : Option Value) (vm₁ : Vm) (B : Pt), s.WarmedH vm₁ ∧ Stand p l e R s m args below meth c B.U B.locs B.cells B.slots ∧ Post ⟨T.setVm vm₁, locs, cells, slots⟩ (Value.ref b :: argsL).toArray v B ∧
      ∀ target, Steps p.tables e below (B.U.setTop { g with pc := g.pc + 3, stack := v.toList ++ rest }) target → Steps p.tables e below (T.setTop g) target) ∨
    (∃ (q : Addr) (vm₁ : Vm) (B : Pt), s.WarmedH vm₁ ∧ Stand p l e R s m args below meth c B.U B.locs B.cells B.slots ∧ PostX ⟨T.setVm vm₁, locs, cells, slots⟩ (Value.ref b :: argsL).toArray q B ∧
      Steps p.tables e below (T.setTop g) ((B.U.setTop { g with stack := rest }).pushFrame (.throwing q))) := by
  obtain ⟨mk, methM, hnamed, hmethM, hstM, habM⟩ := Cond.instanceMethod_spec hinst
  obtain ⟨m8, methM', cM, hn8, hmethM', -, -, -, -, -, -, hsigM⟩ := Cond.codeWith_spec hcode
  cases Option.some.inj (hn8.symm.trans hnamed)
  cases hmethM.symm.trans hmethM'
  obtain ⟨c2, r2, m2, q1, q2, q3, q4, kP, hkP, hkPi⟩ := Cond.selects_spec hsel
  cases hcls.symm.trans q1
  cases (State.methodFound?_of_named hnamed hy).symm.trans q2
  cases hnamed.symm.trans q3
  have hselP : selectMethod e.platform s.vm cellB.cls mk = .method mk := by rw [Launch.admits_selectMethod X.admits]; exact q4
  obtain ⟨vm₁, X₁, hstep₁⟩ := X.invokevirtual hexec hown hlink hnamed hmethM hstM hkP hkPi hy (a := b) (cell := cellB) hcell
    (fun z h => by rw [h] at hobj; cases hobj) hselP hmethM habM hkP hkPi (g := g) hg (argsL := argsL) (rest := rest) (hlen _ hsigM) hstack hdg
  rcases hK m meth c ⟨T.setVm vm₁, locs, cells, slots⟩ { g with stack := rest } (.invokevirtual index) mk (Value.ref b :: argsL).toArray X₁ hg hsize hdg hW (X₁.named hnamed) (hpre vm₁ X₁.warmed) with ⟨v, B, X', hpost, hsteps⟩ | ⟨q, B, X', hpost, hsteps⟩
  · exact Or.inl ⟨v, vm₁, B, X₁.warmed, X', hpost, fun target h => hstep₁ _ fun acts => by rw [doInvoke_state]; exact hsteps.trans h⟩
  · exact Or.inr ⟨q, vm₁, B, X₁.warmed, X', hpost, hstep₁ _ fun acts => by rw [doInvoke_state]; exact hsteps⟩
theorem vx_callSX (X : Stand p l e R s m args below meth c T locs cells slots) (hexec : p.tables.exec = Jvm.exec) {own : String} {index : Nat} {y : MethodName} {bytes : ByteArray} {maxL : Nat} {ret : Option FieldType} {hh : List (Nat × Nat × Nat × Nat)}
    (hown : s.vm.findClass own = some m.cls) (hlink : (Cond.methodLink own index y).before args s = true) (hstat : (Cond.static y).before args s = true) (hinit : (Cond.initialized y.cls).before args s = true)
    (hcode : (Cond.codeWith y bytes maxL ret hh).before args s = true) (hy : y.cls ≠ "java/lang/invoke/MethodHandle" ∧ y.cls ≠ "java/lang/invoke/VarHandle")
    {W9 : Nat} {Pre : Pt → Array Value → Prop} {Post : Pt → Array Value → Option Value → Pt → Prop} {PostX : Pt → Array Value → Addr → Pt → Prop} (hK : vx_Back l R p e below s args y 3 W9 Pre Post PostX)
    {g : JFrame} (hg : g.method = m) (hsize : g.locals.size = c.maxLocals) {argsL rest : List Value} (hlen : ∀ sig, parseMethodDescriptor y.desc = some sig → argsL.length = sig.parameters.length)
    (hstack : g.stack = argsL.reverse ++ rest) (hW : 2 * g.monitorRoom + (rest.map fun v => v.category).sum ≤ W9) (hdg : decode c.code g.pc = .ok (.invokestatic index, 3))
    (hpre : ∀ vm₁, s.WarmedH vm₁ → Pre ⟨T.setVm vm₁, locs, cells, slots⟩ argsL.toArray) :
    (∃ (v : Option Value) (vm₁ : Vm) (B : Pt), s.WarmedH vm₁ ∧ Stand p l e R s m args below meth c B.U B.locs B.cells B.slots ∧ Post ⟨T.setVm vm₁, locs, cells, slots⟩ argsL.toArray v B ∧
      ∀ target, Steps p.tables e below (B.U.setTop { g with pc := g.pc + 3, stack := v.toList ++ rest }) target → Steps p.tables e below (T.setTop g) target) ∨
    (∃ (q : Addr) (vm₁ : Vm) (B : Pt), s.WarmedH vm₁ ∧ Stand p l e R s m args below meth c B.U B.locs B.cells B.slots ∧ PostX ⟨T.setVm vm₁, locs, cells, slots⟩ argsL.toArray q B ∧
      Steps p.tables e below (T.setTop g) ((B.U.setTop { g with stack := rest }).pushFrame (.throwing q))) := by
  obtain ⟨mk, methM, cM, hnamed, hmethM, -, -, -, -, -, -, hsigM⟩ := Cond.codeWith_spec hcode
  have hstatic : methM.isStatic = true := Cond.static_spec hnamed hmethM hstat
  obtain ⟨kP, hkP, -⟩ := className_of_methodNamed hnamed
  have hinitP : kP.init = .initialized := Cond.initialized_spec (findClass_of_methodNamed hnamed) hkP hinit
  obtain ⟨vm₁, X₁, hstep₁⟩ := X.invokestatic hexec hown hlink hnamed hmethM hstatic hkP hinitP hy (g := g) hg (argsL := argsL) (rest := rest) (hlen _ hsigM) hstack hdg
  rcases hK m meth c ⟨T.setVm vm₁, locs, cells, slots⟩ { g with stack := rest } (.invokestatic index) mk argsL.toArray X₁ hg hsize hdg hW (X₁.named hnamed) (hpre vm₁ X₁.warmed) with ⟨v, B, X', hpost, hsteps⟩ | ⟨q, B, X', hpost, hsteps⟩
  · exact Or.inl ⟨v, vm₁, B, X₁.warmed, X', hpost, fun target h => hstep₁ _ fun acts => by rw [doInvoke_state]; exact hsteps.trans h⟩
  · exact Or.inr ⟨q, vm₁, B, X₁.warmed, X', hpost, hstep₁ _ fun acts => by rw [doInvoke_state]; exact hsteps⟩
theorem vx_callVW (X : Stand p l e R s m args below meth c T locs cells slots) (hexec : p.tables.exec = Jvm.exec) {own C : String} {index : Nat} {y : MethodName} {bytes : ByteArray} {maxL : Nat} {ret : Option FieldType} {hh : List (Nat × Nat × Nat × Nat)}
    (hown : s.vm.findClass own = some m.cls) (hlink : (Cond.methodLink own index y).before args s = true) (hinst : (Cond.instanceMethod y).before args s = true) (hsel : (Cond.selects C y y).before args s = true)
    (hcode : (Cond.codeWith y bytes maxL ret hh).before args s = true) (hy : y.cls ≠ "java/lang/invoke/MethodHandle" ∧ y.cls ≠ "java/lang/invoke/VarHandle")
    {W9 : Nat} {Pre : Pt → Array Value → Prop} {Post : Pt → Array Value → Option Value → Pt → Prop} (hK : Back l R p e below s args y 3 W9 Pre Post)
    {b : Addr} {cellB : Cell} (hcell : T.heap[b]? = some cellB) (hobj : cellB.vm.isStatics = false) (hcls : s.vm.findClass C = some cellB.cls)
    {g : JFrame} (hg : g.method = m) (hsize : g.locals.size = c.maxLocals) {argsL rest : List Value} (hlen : ∀ sig, parseMethodDescriptor y.desc = some sig → argsL.length = sig.parameters.length)
    (hstack : g.stack = argsL.reverse ++ .ref b :: rest) (hW : 2 * g.monitorRoom + (rest.map fun v => v.category).sum ≤ W9) (hdg : decode c.code g.pc = .ok (.invokevirtual index, 3))
    (hpre : ∀ vm₁, s.WarmedH vm₁ → Pre ⟨T.setVm vm₁, locs, cells, slots⟩ (Value.ref b :: argsL).toArray) :
    ∃ (v : Option Value) (vm₁ : Vm) (B : Pt), s.WarmedH vm₁ ∧ Stand p l e R s m args below meth c B.U B.locs B.cells B.slots ∧ Post ⟨T.setVm vm₁, locs, cells, slots⟩ (Value.ref b :: argsL).toArray v B ∧
      ∀ target, Steps p.tables e below (B.U.setTop { g with pc := g.pc + 3, stack := v.toList ++ rest }) target → Steps p.tables e below (T.setTop g) target := by
  obtain ⟨mk, methM, hnamed, hmethM, hstM, habM⟩ := Cond.instanceMethod_spec hinst
  obtain ⟨m8, methM', cM, hn8, hmethM', -, -, -, -, -, -, hsigM⟩ := Cond.codeWith_spec hcode
  cases Option.some.inj (hn8.symm.trans hnamed)
  cases hmethM.symm.trans hmethM'
  obtain ⟨c2, r2, m2, q1, q2, q3, q4, kP, hkP, hkPi⟩ := Cond.selects_spec hsel
  cases hcls.symm.trans q1
  cases (State.methodFound?_of_named hnamed hy).symm.trans q2
  cases hnamed.symm.trans q3
  have hselP : selectMethod e.platform s.vm cellB.cls mk = .method mk := by rw [Launch.admits_selectMethod X.admits]; exact q4
  obtain ⟨vm₁, X₁, hstep₁⟩ := X.invokevirtual hexec hown hlink hnamed hmethM hstM hkP hkPi hy (a := b) (cell := cellB) hcell
    (fun z h => by rw [h] at hobj; cases hobj) hselP hmethM habM hkP hkPi (g := g) hg (argsL := argsL) (rest := rest) (hlen _ hsigM) hstack hdg
  obtain ⟨v, B, X', hpost, hsteps⟩ := hK m meth c ⟨T.setVm vm₁, locs, cells, slots⟩ { g with stack := rest } (.invokevirtual index) mk (Value.ref b :: argsL).toArray X₁ hg hsize hdg hW (X₁.named hnamed) (hpre vm₁ X₁.warmed)
  exact ⟨v, vm₁, B, X₁.warmed, X', hpost, fun target h => hstep₁ _ fun acts => by rw [doInvoke_state]; exact hsteps.trans h⟩
abbrev vx_CVW (R : Room) (s : State) (args : Array Value) (own C : String) (index : Nat) (y : MethodName) (bytes : ByteArray) (maxL : Nat) (ret : Option FieldType) (hh : List (Nat × Nat × Nat × Nat)) (ws : List Cond) (rm : Room) (mc ms n : Nat) : Prop :=
  (rm.cells = mc ∧ rm.slots = ms ∧ rm.frames + 1 ≤ R.frames ∧ 8 + (maxL + 11) + rm.locals ≤ R.locals ∧ (∀ w ∈ ws, ∀ (a' : Array Value) (U : State), s.WarmedH U.vm → w.before a' U = true) ∧ Cond.codeWith y bytes maxL ret hh ∈ ws) ∧
  (Cond.codeWith y bytes maxL ret hh).before args s = true ∧ (Cond.initialized y.cls).before args s = true ∧ (y.cls ≠ "java/lang/invoke/MethodHandle" ∧ y.cls ≠ "java/lang/invoke/VarHandle") ∧
  (∀ sig, parseMethodDescriptor y.desc = some sig → n = sig.parameters.length) ∧ (Cond.methodLink own index y).before args s = true ∧ (Cond.instanceMethod y).before args s = true ∧ (Cond.selects C y y).before args s = true
theorem vx_cwVW {own C : String} {index maxL mc ms : Nat} {y : MethodName} {bytes : ByteArray} {ret : Option FieldType} {hh : List (Nat × Nat × Nat × Nat)} {Ts ws ws' : List Cond} {rm : Room} (n : Nat) (ht : ∀ w ∈ Ts, w.before args s = true) (hT : GoodIn Ts (wsV own index C y ws)) (hw : ws = Cond.codeWith y bytes maxL ret hh :: ws') (hrc : rm.cells = mc) (hrs : rm.slots = ms)
    (hd : y.cls = C ∧ y.cls ≠ "java/lang/invoke/MethodHandle" ∧ y.cls ≠ "java/lang/invoke/VarHandle" ∧ (parseMethodDescriptor y.desc).map (fun d => d.parameters.length) = some n) (hR : rm.frames + 1 ≤ R.frames ∧ 8 + (maxL + 11) + rm.locals ≤ R.locals) :
    vx_CVW R s args own C index y bytes maxL ret hh ws rm mc ms n := by
  obtain ⟨hC, hd⟩ := hd
  subst hC
  have ok : ∀ w ∈ wsV own index y.cls y ws, w.before args s = true := fun w h => ht w (hT w h).1
  have hG : GoodIn Ts ws := fun w h => hT w (by unfold wsV; exact List.mem_append_right _ h)
  have hc : Cond.codeWith y bytes maxL ret hh ∈ ws := by rw [hw]; exact List.mem_cons_self
  refine ⟨⟨hrc, hrs, hR.1, hR.2, pay_in ht hG, hc⟩, ht _ (hG _ hc).1, ok _ (by simp [wsV]), ⟨hd.1, hd.2.1⟩, fun sig h => ?_, ok _ (by simp [wsV]), ok _ (by simp [wsV]), ok _ (by simp [wsV])⟩
  have h2 := hd.2.2
  rw [h] at h2
  exact (Option.some.inj h2).symm
theorem vx_runVW {y : MethodName} {bytes cc : ByteArray} {maxL nL mc ms n index : Nat} {ret : Option FieldType} {hh : List (Nat × Nat × Nat × Nat)} {ws : List Cond} {rm : Room} {Pc : Array Value → State → Prop} {Qc : Array Value → State → Outcome → State → Prop} {free : Addr → Prop} {Ts : List Cond} {own C : String} {b : Addr} {As rest : List Value} {g : JFrame}
    (S : CallFix p m c cc nL s args Ts own) (hM : Met l y ws rm Pc Qc mc ms free) (cw : vx_CVW R s args own C index y bytes maxL ret hh ws rm mc ms n) (hp : PreV s H C b Pc As)
    (hg : g.method = m) (hn : As.length = n) (hsize : g.locals.size = nL) (hstack : g.stack = As.reverse ++ .ref b :: rest) (hW : 2 * g.monitorRoom + (rest.map fun v => v.category).sum ≤ 8) (hdg : decode cc g.pc = .ok (.invokevirtual index, 3)) (hf : cells + mc ≤ R.cells ∧ slots + ms ≤ R.slots) :
    va_Run p l e R s m args below meth c H locs cells slots mc ms g rest (Qc (Value.ref b :: As).toArray) free := by
  obtain ⟨⟨hrc, hrs, hfr, hlo, hws, hcw⟩, hcode, hini, hy, hlen, hl, hin, hse⟩ := cw
  have hK : Back l R p e below s args y 3 8 (PreOf R mc ms Pc) (PostOf Qc mc ms free) := va_backW (hh := hh) (bytes := bytes) (maxL := maxL) (ret := ret) hM hp.1 hrc hrs hfr hlo hws hcw (fun a' U hW => word_at hW (Or.inl (by first | rfl | simp [Cond.onTables, Cond.keeps, Cond.steady])) hini)
  obtain ⟨hx, hb, hml, ho, -⟩ := S
  obtain ⟨-, ⟨cellB, hcB, hoB, hclB⟩, hPc⟩ := hp
  intro T hT X
  obtain ⟨v, vm₁, ⟨U', l2, c2, s2⟩, hW₁, X', ⟨g', mk, t, L, e1, e2, hq, h1, hL, h2, h3⟩, st⟩ := vx_callVW X hx (C := C) (hh := hh) (bytes := bytes) (maxL := maxL) (ret := ret) ho hl hin hse hcode hy hK (by rw [hT]; exact hcB) hoB hclB hg (hsize.trans hml.symm) (argsL := As) (rest := rest) (fun sig h => hn.trans (hlen sig h)) hstack hW (by rw [hb]; exact hdg)
    (fun vm₁ hW₁ => ⟨hf.1, hf.2, hPc (T.setVm vm₁) hT hW₁⟩)
  dsimp only [Pt.U, Pt.locs, Pt.cells, Pt.slots] at X' e1 e2 h1 h2 h3 st
  subst h1; subst h2; subst h3
  exact ⟨v, (T.setVm vm₁).calling g' mk (Value.ref b :: As).toArray, t, U', L, hT, X', hL, e1, e2, hq, st⟩
section
variable {y : MethodName} {bytes cc : ByteArray} {maxL nL mc ms n index : Nat} {ret : Option FieldType} {ws : List Cond} {rm : Room} {Pc : Array Value → State → Prop} {Qc : Array Value → State → Outcome → State → Prop} {XC : String → State → State → Prop} {free : Addr → Prop} {Ts : List Cond} {own C : String} {b : Addr} {As rest : List Value} {g : JFrame}
theorem vx_runVX {hh : List (Nat × Nat × Nat × Nat)} (S : CallFix p m c cc nL s args Ts own) (hM : vx_Met l y ws rm Pc Qc XC mc ms free) (cw : vx_CVW R s args own C index y bytes maxL ret hh ws rm mc ms n) (hp : PreV s H C b Pc As)
    (hg : g.method = m) (hn : As.length = n) (hsize : g.locals.size = nL) (hstack : g.stack = As.reverse ++ .ref b :: rest) (hW : 2 * g.monitorRoom + (rest.map fun v => v.category).sum ≤ 8) (hdg : decode cc g.pc = .ok (.invokevirtual index, 3)) (hf : cells + mc ≤ R.cells ∧ slots + ms ≤ R.slots) :
    vx_Run p l e R s m args below meth c H locs cells slots mc ms g rest (Qc (Value.ref b :: As).toArray) XC free := by
  obtain ⟨⟨hrc, hrs, hfr, hlo, hws, hcw⟩, hcode, hini, hy, hlen, hl, hin, hse⟩ := cw
  have hK : vx_Back l R p e below s args y 3 8 (PreOf R mc ms Pc) (PostOf Qc mc ms free) (vx_Post XC mc ms free) := vx_backW (hh := hh) (bytes := bytes) (maxL := maxL) (ret := ret) hM hp.1 hrc hrs hfr hlo hws hcw (fun a' U hW => word_at hW (Or.inl (by first | rfl | simp [Cond.onTables, Cond.keeps, Cond.steady])) hini)
  obtain ⟨hx, hb, hml, ho, -⟩ := S
  obtain ⟨-, ⟨cellB, hcB, hoB, hclB⟩, hPc⟩ := hp
  intro T hT X
  rcases vx_callVX X hx (C := C) (hh := hh) (bytes := bytes) (maxL := maxL) (ret := ret) ho hl hin hse hcode hy hK (by rw [hT]; exact hcB) hoB hclB hg (hsize.trans hml.symm) (argsL := As) (rest := rest) (fun sig h => hn.trans (hlen sig h)) hstack hW (by rw [hb]; exact hdg)
    (fun vm₁ hW₁ => ⟨hf.1, hf.2, hPc (T.setVm vm₁) hT hW₁⟩) with ⟨v, vm₁, ⟨U', l2, c2, s2⟩, hW₁, X', ⟨g', mk, t, L, e1, e2, hq, h1, hL, h2, h3⟩, st⟩ | ⟨q, vm₁, ⟨U', l2, c2, s2⟩, hW₁, X', ⟨g', mk, t, L, E, ce, e1, e2, hq, hce, hcv, hcl, h1, hL, h2, h3⟩, st⟩
  · dsimp only [Pt.U, Pt.locs, Pt.cells, Pt.slots] at X' e1 e2 h1 h2 h3 st
    subst h1; subst h2; subst h3
    exact Or.inl ⟨v, (T.setVm vm₁).calling g' mk (Value.ref b :: As).toArray, t, U', L, hT, X', hL, e1, e2, hq, st⟩
  · dsimp only [Pt.U, Pt.locs, Pt.cells, Pt.slots] at X' e1 e2 h1 h2 h3 st hcl
    subst h1; subst h2; subst h3
    exact Or.inr ⟨q, (T.setVm vm₁).calling g' mk (Value.ref b :: As).toArray, t, U', L, E, ce, hT, X', hL, e1, e2, hq, hce, hcv, vx_cls hW₁ hcl, st⟩
theorem vx_runSX {hh : List (Nat × Nat × Nat × Nat)} (S : CallFix p m c cc nL s args Ts own) (hM : vx_Met l y ws rm Pc Qc XC mc ms free) (cw : vx_CSW R s args own index y bytes maxL ret hh ws rm mc ms n) (hp : PreS s H Pc As)
    (hg : g.method = m) (hn : As.length = n) (hsize : g.locals.size = nL) (hstack : g.stack = As.reverse ++ rest) (hW : 2 * g.monitorRoom + (rest.map fun v => v.category).sum ≤ 8) (hdg : decode cc g.pc = .ok (.invokestatic index, 3)) (hf : cells + mc ≤ R.cells ∧ slots + ms ≤ R.slots) :
    vx_Run p l e R s m args below meth c H locs cells slots mc ms g rest (Qc As.toArray) XC free := by
  obtain ⟨⟨hrc, hrs, hfr, hlo, hws, hcw⟩, hcode, hini, hy, hlen, hl, hstt⟩ := cw
  have hK : vx_Back l R p e below s args y 3 8 (PreOf R mc ms Pc) (PostOf Qc mc ms free) (vx_Post XC mc ms free) := vx_backW (hh := hh) (bytes := bytes) (maxL := maxL) (ret := ret) hM hp.1 hrc hrs hfr hlo hws hcw (fun a' U hW => word_at hW (Or.inl (by first | rfl | simp [Cond.onTables, Cond.keeps, Cond.steady])) hini)
  obtain ⟨hx, hb, hml, ho, -⟩ := S
  intro T hT X
  rcases vx_callSX X hx (hh := hh) (bytes := bytes) (maxL := maxL) (ret := ret) ho hl hstt hini hcode hy hK hg (hsize.trans hml.symm) (argsL := As) (rest := rest) (fun sig h => hn.trans (hlen sig h)) hstack hW (by rw [hb]; exact hdg)
    (fun vm₁ hW₁ => ⟨hf.1, hf.2, hp.2 (T.setVm vm₁) hT hW₁⟩) with ⟨v, vm₁, ⟨U', l2, c2, s2⟩, hW₁, X', ⟨g', mk, t, L, e1, e2, hq, h1, hL, h2, h3⟩, st⟩ | ⟨q, vm₁, ⟨U', l2, c2, s2⟩, hW₁, X', ⟨g', mk, t, L, E, ce, e1, e2, hq, hce, hcv, hcl, h1, hL, h2, h3⟩, st⟩
  · dsimp only [Pt.U, Pt.locs, Pt.cells, Pt.slots] at X' e1 e2 h1 h2 h3 st
    subst h1; subst h2; subst h3
    exact Or.inl ⟨v, (T.setVm vm₁).calling g' mk As.toArray, t, U', L, hT, X', hL, e1, e2, hq, st⟩
  · dsimp only [Pt.U, Pt.locs, Pt.cells, Pt.slots] at X' e1 e2 h1 h2 h3 st hcl
    subst h1; subst h2; subst h3
    exact Or.inr ⟨q, (T.setVm vm₁).calling g' mk As.toArray, t, U', L, E, ce, hT, X', hL, e1, e2, hq, hce, hcv, vx_cls hW₁ hcl, st⟩
end
end VXH
theorem vx_ofWH {l : Launch} {y : MethodName} {ws ws' : List Cond} {rm : Room} {Pc : Array Value → State → Prop} {Qc : Array Value → State → Outcome → State → Prop} {XC : String → State → State → Prop} {mc ms : Nat} {free : Addr → Prop} {cc : ByteArray} {maxL : Nat} {ret : Option FieldType} {hh : List (Nat × Nat × Nat × Nat)}
    (hy : plainName y.cls = true) (hw : ws = Cond.codeWith y cc maxL ret hh :: ws')
    (body : ∀ p e s m args below meth c s₁, BodyLoose p l y (headSpec ws rm) cc maxL ret e s m args below meth c s₁ → c.maxLocals = maxL → Pc args s →
      W p l e (headSpec ws rm).room s m args below meth c s.heap [] 0 0 (vx_MQ below Qc XC args s mc ms free) (entryFrame m args maxL)) : vx_Met l y ws rm Pc Qc XC mc ms free := by
  refine MetFree.of_bodyS (code := cc) (maxLocals := maxL) (ret := ret) hy ?_ ?_
  · intro args s m h hn
    obtain ⟨m9, meth, c, hn9, h1, h2, h3, h4, -, h5, h6, -⟩ := Cond.codeWith_spec (atoms_spec (ws := ws) h _ (by rw [hw]; exact List.mem_cons_self))
    cases hn.symm.trans hn9
    exact ⟨meth, c, h1, h2, h3, h4, h5, h6⟩
  · intro p e s m args below meth c s₁ B hml hP _
    have hh0 : s₁.heap = s.heap := by rw [B.state]; rfl
    obtain ⟨t, a1, o, b1, b2, b3⟩ := body p e s m args below meth c s₁ B hml hP s₁ hh0 (Stand.of_body B)
    exact ⟨t, o, a1, b1, b2, b3⟩
/-! ===== END ===== -/

/-! ===== BEGIN printed: names, fields, word lists, decode rows ===== -/
def RX0 : String := "Nestedfare$Booking"
def TX0 : u_T := fun k => match k with
  | 0 => ("Nestedfare$Booking", "first", "I", true)
  | 1 => ("Nestedfare$Booking", "last", "I", true)
  | 2 => ("Nestedfare$Booking", "seats", "I", true)
  | 3 => ("Nestedfare$Booking", "price", "I", true)
  | _ => ("Nestedfare$Booking", "cancelled", "Z", false)
def tyX0 : Nat → FieldType := fun k => match k with
  | 0 => .int
  | 1 => .int
  | 2 => .int
  | 3 => .int
  | _ => .boolean
abbrev wsX00 : List Cond := u_ws RX0 TX0 5
theorem nmX0 : ∀ a, a < 5 → ∀ b, b < 5 → a ≠ b → (TX0 a).2.1 ≠ (TX0 b).2.1 := by decide +kernel
theorem tyX0_ok : ∀ k, k < 5 → parseFieldDescriptor (TX0 k).2.2.1 = some (tyX0 k) := by decide +kernel
abbrev cX0_init : ByteArray := prog_2_method_1_code
def yX0_init : MethodName := ⟨RX0, "<init>", "(IIII)V"⟩
abbrev cX0_seatsOn : ByteArray := prog_2_method_2_code
def yX0_seatsOn : MethodName := ⟨RX0, "seatsOn", "(I)I"⟩
def RX1 : String := "Nestedfare$Demand"
def TX1 : u_T := fun k => match k with
  | 0 => ("Nestedfare$Demand", "leg0", "LNestedfare$Queue;", true)
  | 1 => ("Nestedfare$Demand", "leg1", "LNestedfare$Queue;", true)
  | 2 => ("Nestedfare$Demand", "leg2", "LNestedfare$Queue;", true)
  | 3 => ("Nestedfare$Demand", "legs01", "LNestedfare$Queue;", true)
  | 4 => ("Nestedfare$Demand", "legs12", "LNestedfare$Queue;", true)
  | _ => ("Nestedfare$Demand", "legs012", "LNestedfare$Queue;", true)
def tyX1 : Nat → FieldType := fun k => match k with
  | 0 => .object "Nestedfare$Queue"
  | 1 => .object "Nestedfare$Queue"
  | 2 => .object "Nestedfare$Queue"
  | 3 => .object "Nestedfare$Queue"
  | 4 => .object "Nestedfare$Queue"
  | _ => .object "Nestedfare$Queue"
abbrev wsX10 : List Cond := u_ws RX1 TX1 6
theorem nmX1 : ∀ a, a < 6 → ∀ b, b < 6 → a ≠ b → (TX1 a).2.1 ≠ (TX1 b).2.1 := by decide +kernel
theorem tyX1_ok : ∀ k, k < 6 → parseFieldDescriptor (TX1 k).2.2.1 = some (tyX1 k) := by decide +kernel
abbrev cX1_init : ByteArray := prog_3_method_1_code
def yX1_init : MethodName := ⟨RX1, "<init>", "()V"⟩
abbrev cX1_clear : ByteArray := prog_3_method_2_code
def yX1_clear : MethodName := ⟨RX1, "clear", "()V"⟩
abbrev cX1_add : ByteArray := prog_3_method_3_code
def yX1_add : MethodName := ⟨RX1, "add", "(LNestedfare$Product;)V"⟩
abbrev cX1_queueOf : ByteArray := prog_3_method_4_code
def yX1_queueOf : MethodName := ⟨RX1, "queueOf", "(II)LNestedfare$Queue;"⟩
abbrev cX1_mostFor : ByteArray := prog_3_method_5_code
def yX1_mostFor : MethodName := ⟨RX1, "mostFor", "(III)I"⟩
abbrev cX1_mostOfShorter : ByteArray := prog_3_method_6_code
def yX1_mostOfShorter : MethodName := ⟨RX1, "mostOfShorter", "(III)I"⟩
abbrev cX1_mostBehind : ByteArray := prog_3_method_7_code
def yX1_mostBehind : MethodName := ⟨RX1, "mostBehind", "(II)I"⟩
def RX2 : String := "Nestedfare$Product"
def TX2 : u_T := fun k => match k with
  | 0 => ("Nestedfare$Product", "first", "I", true)
  | 1 => ("Nestedfare$Product", "last", "I", true)
  | 2 => ("Nestedfare$Product", "fare", "I", true)
  | 3 => ("Nestedfare$Product", "daysByAsked", "[I", true)
  | 4 => ("Nestedfare$Product", "expectedToday", "I", false)
  | 5 => ("Nestedfare$Product", "askedToday", "I", false)
  | _ => ("Nestedfare$Product", "askedBefore", "I", false)
def tyX2 : Nat → FieldType := fun k => match k with
  | 0 => .int
  | 1 => .int
  | 2 => .int
  | 3 => .array .int
  | 4 => .int
  | 5 => .int
  | _ => .int
abbrev wsX20 : List Cond := u_ws RX2 TX2 7
theorem nmX2 : ∀ a, a < 7 → ∀ b, b < 7 → a ≠ b → (TX2 a).2.1 ≠ (TX2 b).2.1 := by decide +kernel
theorem tyX2_ok : ∀ k, k < 7 → parseFieldDescriptor (TX2 k).2.2.1 = some (tyX2 k) := by decide +kernel
abbrev cX2_init : ByteArray := prog_4_method_1_code
def yX2_init : MethodName := ⟨RX2, "<init>", "(IIII)V"⟩
abbrev cX2_covers : ByteArray := prog_4_method_2_code
def yX2_covers : MethodName := ⟨RX2, "covers", "(I)Z"⟩
abbrev cX2_toCome : ByteArray := prog_4_method_3_code
def yX2_toCome : MethodName := ⟨RX2, "toCome", "()I"⟩
abbrev cX2_protectedAgainst : ByteArray := prog_4_method_4_code
def yX2_protectedAgainst : MethodName := ⟨RX2, "protectedAgainst", "(II)I"⟩
abbrev cX2_learn : ByteArray := prog_4_method_5_code
def yX2_learn : MethodName := ⟨RX2, "learn", "(I)V"⟩
def RX3 : String := "Nestedfare$Queue"
def TX3 : u_T := fun k => match k with
  | 0 => ("Nestedfare$Queue", "sums", "[I", true)
  | _ => ("Nestedfare$Queue", "length", "I", false)
def tyX3 : Nat → FieldType := fun k => match k with
  | 0 => .array .int
  | _ => .int
abbrev wsX30 : List Cond := u_ws RX3 TX3 2
theorem nmX3 : ∀ a, a < 2 → ∀ b, b < 2 → a ≠ b → (TX3 a).2.1 ≠ (TX3 b).2.1 := by decide +kernel
theorem tyX3_ok : ∀ k, k < 2 → parseFieldDescriptor (TX3 k).2.2.1 = some (tyX3 k) := by decide +kernel
abbrev cX3_init : ByteArray := prog_5_method_1_code
def yX3_init : MethodName := ⟨RX3, "<init>", "()V"⟩
abbrev cX3_add : ByteArray := prog_5_method_2_code
def yX3_add : MethodName := ⟨RX3, "add", "(II)V"⟩
abbrev cX3_mostFor : ByteArray := prog_5_method_3_code
def yX3_mostFor : MethodName := ⟨RX3, "mostFor", "(I)I"⟩
def RX4 : String := "Nestedfare$SeatTable"
def TX4 : u_T := fun k => match k with
  | _ => ("Nestedfare$SeatTable", "values", "[I", true)
def tyX4 : Nat → FieldType := fun k => match k with
  | _ => .array .int
abbrev wsX40 : List Cond := u_ws RX4 TX4 1
theorem nmX4 : ∀ a, a < 1 → ∀ b, b < 1 → a ≠ b → (TX4 a).2.1 ≠ (TX4 b).2.1 := by decide +kernel
theorem tyX4_ok : ∀ k, k < 1 → parseFieldDescriptor (TX4 k).2.2.1 = some (tyX4 k) := by decide +kernel
abbrev cX4_init : ByteArray := prog_6_method_1_code
def yX4_init : MethodName := ⟨RX4, "<init>", "()V"⟩
abbrev cX4_cellOf : ByteArray := prog_6_method_2_code
def yX4_cellOf : MethodName := ⟨RX4, "cellOf", "(III)I"⟩
abbrev cX4_clear : ByteArray := prog_6_method_3_code
def yX4_clear : MethodName := ⟨RX4, "clear", "()V"⟩
abbrev cX4_admit : ByteArray := prog_6_method_4_code
def yX4_admit : MethodName := ⟨RX4, "admit", "(LNestedfare$Product;III)V"⟩
abbrev cX4_admitOne : ByteArray := prog_6_method_5_code
def yX4_admitOne : MethodName := ⟨RX4, "admitOne", "(LNestedfare$Product;III)V"⟩
abbrev cX4_raiseRow : ByteArray := prog_6_method_6_code
def yX4_raiseRow : MethodName := ⟨RX4, "raiseRow", "(IIII)V"⟩
abbrev cX4_valueOf : ByteArray := prog_6_method_7_code
def yX4_valueOf : MethodName := ⟨RX4, "valueOf", "(III)I"⟩
def RX5 : String := "Nestedfare"
def TX5 : u_T := fun k => match k with
  | 0 => ("Nestedfare", "seats", "[I", true)
  | 1 => ("Nestedfare", "offered", "[LNestedfare$Product;", true)
  | 2 => ("Nestedfare", "dearestFirst", "[LNestedfare$Product;", true)
  | 3 => ("Nestedfare", "bookings", "[LNestedfare$Booking;", true)
  | 4 => ("Nestedfare", "demand", "LNestedfare$Demand;", true)
  | 5 => ("Nestedfare", "table", "LNestedfare$SeatTable;", true)
  | 6 => ("Nestedfare", "offeredCount", "I", false)
  | 7 => ("Nestedfare", "bookingCount", "I", false)
  | 8 => ("Nestedfare", "pastDays", "I", false)
  | 9 => ("Nestedfare", "showRate", "I", false)
  | 10 => ("Nestedfare", "refusedFull", "I", false)
  | 11 => ("Nestedfare", "refusedProtected", "I", false)
  | 12 => ("Nestedfare", "refusedBelow", "I", false)
  | _ => ("Nestedfare", "earnedBefore", "J", false)
def tyX5 : Nat → FieldType := fun k => match k with
  | 0 => .array .int
  | 1 => .array (.object "Nestedfare$Product")
  | 2 => .array (.object "Nestedfare$Product")
  | 3 => .array (.object "Nestedfare$Booking")
  | 4 => .object "Nestedfare$Demand"
  | 5 => .object "Nestedfare$SeatTable"
  | 6 => .int
  | 7 => .int
  | 8 => .int
  | 9 => .int
  | 10 => .int
  | 11 => .int
  | 12 => .int
  | _ => .long
abbrev wsX50 : List Cond := u_ws RX5 TX5 14
theorem nmX5 : ∀ a, a < 14 → ∀ b, b < 14 → a ≠ b → (TX5 a).2.1 ≠ (TX5 b).2.1 := by decide +kernel
theorem tyX5_ok : ∀ k, k < 14 → parseFieldDescriptor (TX5 k).2.2.1 = some (tyX5 k) := by decide +kernel
abbrev cX5_init : ByteArray := prog_1_method_1_code
def yX5_init : MethodName := ⟨RX5, "<init>", "()V"⟩
abbrev cX5_setSeats : ByteArray := prog_1_method_2_code
def yX5_setSeats : MethodName := ⟨RX5, "setSeats", "(III)V"⟩
abbrev cX5_addProduct : ByteArray := prog_1_method_3_code
def yX5_addProduct : MethodName := ⟨RX5, "addProduct", "(III)I"⟩
abbrev cX5_setExpected : ByteArray := prog_1_method_4_code
def yX5_setExpected : MethodName := ⟨RX5, "setExpected", "(II)I"⟩
abbrev cX5_setRate : ByteArray := prog_1_method_5_code
def yX5_setRate : MethodName := ⟨RX5, "setRate", "(I)I"⟩
abbrev cX5_ask : ByteArray := prog_1_method_6_code
def yX5_ask : MethodName := ⟨RX5, "ask", "(I)I"⟩
abbrev cX5_group : ByteArray := prog_1_method_7_code
def yX5_group : MethodName := ⟨RX5, "group", "(IIII)I"⟩
abbrev cX5_cancel : ByteArray := prog_1_method_8_code
def yX5_cancel : MethodName := ⟨RX5, "cancel", "(I)I"⟩
abbrev cX5_endDay : ByteArray := prog_1_method_9_code
def yX5_endDay : MethodName := ⟨RX5, "endDay", "(I)I"⟩
abbrev cX5_products : ByteArray := prog_1_method_10_code
def yX5_products : MethodName := ⟨RX5, "products", "()I"⟩
abbrev cX5_days : ByteArray := prog_1_method_11_code
def yX5_days : MethodName := ⟨RX5, "days", "()I"⟩
abbrev cX5_booked : ByteArray := prog_1_method_12_code
def yX5_booked : MethodName := ⟨RX5, "booked", "(I)I"⟩
abbrev cX5_authorised : ByteArray := prog_1_method_13_code
def yX5_authorised : MethodName := ⟨RX5, "authorised", "(I)I"⟩
abbrev cX5_protectedSeats : ByteArray := prog_1_method_14_code
def yX5_protectedSeats : MethodName := ⟨RX5, "protectedSeats", "(II)I"⟩
abbrev cX5_worth : ByteArray := prog_1_method_15_code
def yX5_worth : MethodName := ⟨RX5, "worth", "()I"⟩
abbrev cX5_worthByTable : ByteArray := prog_1_method_16_code
def yX5_worthByTable : MethodName := ⟨RX5, "worthByTable", "()I"⟩
abbrev cX5_bid : ByteArray := prog_1_method_17_code
def yX5_bid : MethodName := ⟨RX5, "bid", "(I)I"⟩
abbrev cX5_displaced : ByteArray := prog_1_method_18_code
def yX5_displaced : MethodName := ⟨RX5, "displaced", "(III)I"⟩
abbrev cX5_expected : ByteArray := prog_1_method_19_code
def yX5_expected : MethodName := ⟨RX5, "expected", "(I)I"⟩
abbrev cX5_average : ByteArray := prog_1_method_20_code
def yX5_average : MethodName := ⟨RX5, "average", "(I)F"⟩
abbrev cX5_asked : ByteArray := prog_1_method_21_code
def yX5_asked : MethodName := ⟨RX5, "asked", "(I)I"⟩
abbrev cX5_refused : ByteArray := prog_1_method_22_code
def yX5_refused : MethodName := ⟨RX5, "refused", "(I)I"⟩
abbrev cX5_revenue : ByteArray := prog_1_method_23_code
def yX5_revenue : MethodName := ⟨RX5, "revenue", "()I"⟩
abbrev cX5_earned : ByteArray := prog_1_method_24_code
def yX5_earned : MethodName := ⟨RX5, "earned", "()J"⟩
abbrev cX5_within : ByteArray := prog_1_method_25_code
def yX5_within : MethodName := ⟨RX5, "within", "(III)Z"⟩
abbrev cX5_isLeg : ByteArray := prog_1_method_26_code
def yX5_isLeg : MethodName := ⟨RX5, "isLeg", "(I)Z"⟩
abbrev cX5_putSeats : ByteArray := prog_1_method_27_code
def yX5_putSeats : MethodName := ⟨RX5, "putSeats", "(II)V"⟩
abbrev cX5_seatsOf : ByteArray := prog_1_method_28_code
def yX5_seatsOf : MethodName := ⟨RX5, "seatsOf", "(I)I"⟩
abbrev cX5_authorisedOn : ByteArray := prog_1_method_29_code
def yX5_authorisedOn : MethodName := ⟨RX5, "authorisedOn", "(I)I"⟩
abbrev cX5_bookedOn : ByteArray := prog_1_method_30_code
def yX5_bookedOn : MethodName := ⟨RX5, "bookedOn", "(I)I"⟩
abbrev cX5_leftOn : ByteArray := prog_1_method_31_code
def yX5_leftOn : MethodName := ⟨RX5, "leftOn", "(I)I"⟩
abbrev cX5_hasLeft : ByteArray := prog_1_method_32_code
def yX5_hasLeft : MethodName := ⟨RX5, "hasLeft", "(III)Z"⟩
abbrev cX5_deniedOn : ByteArray := prog_1_method_33_code
def yX5_deniedOn : MethodName := ⟨RX5, "deniedOn", "(II)I"⟩
abbrev cX5_productAt : ByteArray := prog_1_method_34_code
def yX5_productAt : MethodName := ⟨RX5, "productAt", "(I)LNestedfare$Product;"⟩
abbrev cX5_isOffered : ByteArray := prog_1_method_35_code
def yX5_isOffered : MethodName := ⟨RX5, "isOffered", "(III)Z"⟩
abbrev cX5_offer : ByteArray := prog_1_method_36_code
def yX5_offer : MethodName := ⟨RX5, "offer", "(LNestedfare$Product;)V"⟩
abbrev cX5_protectedOn : ByteArray := prog_1_method_37_code
def yX5_protectedOn : MethodName := ⟨RX5, "protectedOn", "(II)I"⟩
abbrev cX5_learn : ByteArray := prog_1_method_38_code
def yX5_learn : MethodName := ⟨RX5, "learn", "()V"⟩
abbrev cX5_isFull : ByteArray := prog_1_method_39_code
def yX5_isFull : MethodName := ⟨RX5, "isFull", "(LNestedfare$Product;)Z"⟩
abbrev cX5_isProtected : ByteArray := prog_1_method_40_code
def yX5_isProtected : MethodName := ⟨RX5, "isProtected", "(LNestedfare$Product;)Z"⟩
abbrev cX5_refuse : ByteArray := prog_1_method_41_code
def yX5_refuse : MethodName := ⟨RX5, "refuse", "(I)I"⟩
abbrev cX5_bookingAt : ByteArray := prog_1_method_42_code
def yX5_bookingAt : MethodName := ⟨RX5, "bookingAt", "(I)LNestedfare$Booking;"⟩
abbrev cX5_enter : ByteArray := prog_1_method_43_code
def yX5_enter : MethodName := ⟨RX5, "enter", "(LNestedfare$Booking;)I"⟩
abbrev cX5_faresOfToday : ByteArray := prog_1_method_44_code
def yX5_faresOfToday : MethodName := ⟨RX5, "faresOfToday", "()I"⟩
abbrev cX5_worthWithMore : ByteArray := prog_1_method_45_code
def yX5_worthWithMore : MethodName := ⟨RX5, "worthWithMore", "(III)I"⟩
abbrev cX5_bidsOver : ByteArray := prog_1_method_46_code
def yX5_bidsOver : MethodName := ⟨RX5, "bidsOver", "(II)I"⟩
abbrev cX5_displacement : ByteArray := prog_1_method_47_code
def yX5_displacement : MethodName := ⟨RX5, "displacement", "(III)I"⟩
def RX6 : String := "NestedfareModel"
def TX6 : u_T := fun k => match k with
  | 0 => ("NestedfareModel", "seats", "[I", true)
  | 1 => ("NestedfareModel", "booked", "[I", true)
  | 2 => ("NestedfareModel", "products", "I", false)
  | 3 => ("NestedfareModel", "first", "[I", true)
  | 4 => ("NestedfareModel", "last", "[I", true)
  | 5 => ("NestedfareModel", "fare", "[I", true)
  | 6 => ("NestedfareModel", "expected", "[I", true)
  | 7 => ("NestedfareModel", "asked", "[I", true)
  | 8 => ("NestedfareModel", "total", "[J", true)
  | 9 => ("NestedfareModel", "table", "[I", true)
  | 10 => ("NestedfareModel", "days", "I", false)
  | 11 => ("NestedfareModel", "rate", "I", false)
  | 12 => ("NestedfareModel", "bookings", "I", false)
  | 13 => ("NestedfareModel", "from", "[I", true)
  | 14 => ("NestedfareModel", "to", "[I", true)
  | 15 => ("NestedfareModel", "size", "[I", true)
  | 16 => ("NestedfareModel", "price", "[I", true)
  | 17 => ("NestedfareModel", "isGone", "[Z", true)
  | 18 => ("NestedfareModel", "refused", "[I", true)
  | 19 => ("NestedfareModel", "earned", "J", false)
  | 20 => ("NestedfareModel", "worth", "[I", true)
  | _ => ("NestedfareModel", "thrown", "I", false)
def tyX6 : Nat → FieldType := fun k => match k with
  | 0 => .array .int
  | 1 => .array .int
  | 2 => .int
  | 3 => .array .int
  | 4 => .array .int
  | 5 => .array .int
  | 6 => .array .int
  | 7 => .array .int
  | 8 => .array .long
  | 9 => .array .int
  | 10 => .int
  | 11 => .int
  | 12 => .int
  | 13 => .array .int
  | 14 => .array .int
  | 15 => .array .int
  | 16 => .array .int
  | 17 => .array .boolean
  | 18 => .array .int
  | 19 => .long
  | 20 => .array .int
  | _ => .int
abbrev wsX60 : List Cond := u_ws RX6 TX6 22
theorem nmX6 : ∀ a, a < 22 → ∀ b, b < 22 → a ≠ b → (TX6 a).2.1 ≠ (TX6 b).2.1 := by decide +kernel
theorem tyX6_ok : ∀ k, k < 22 → parseFieldDescriptor (TX6 k).2.2.1 = some (tyX6 k) := by decide +kernel
abbrev cX6_init : ByteArray := prog_8_method_1_code
def yX6_init : MethodName := ⟨RX6, "<init>", "()V"⟩
abbrev cX6_thrown : ByteArray := prog_8_method_2_code
def yX6_thrown : MethodName := ⟨RX6, "thrown", "()I"⟩
abbrev cX6_fails : ByteArray := prog_8_method_3_code
def yX6_fails : MethodName := ⟨RX6, "fails", "(I)Z"⟩
abbrev cX6_tells : ByteArray := prog_8_method_4_code
def yX6_tells : MethodName := ⟨RX6, "tells", "(I)I"⟩
abbrev cX6_isIn : ByteArray := prog_8_method_5_code
def yX6_isIn : MethodName := ⟨RX6, "isIn", "(III)Z"⟩
abbrev cX6_isLeg : ByteArray := prog_8_method_6_code
def yX6_isLeg : MethodName := ⟨RX6, "isLeg", "(I)Z"⟩
abbrev cX6_isProduct : ByteArray := prog_8_method_7_code
def yX6_isProduct : MethodName := ⟨RX6, "isProduct", "(I)Z"⟩
abbrev cX6_left : ByteArray := prog_8_method_8_code
def yX6_left : MethodName := ⟨RX6, "left", "(I)I"⟩
abbrev cX6_place : ByteArray := prog_8_method_9_code
def yX6_place : MethodName := ⟨RX6, "place", "(III)I"⟩
abbrev cX6_adds : ByteArray := prog_8_method_10_code
def yX6_adds : MethodName := ⟨RX6, "adds", "(I)V"⟩
abbrev cX6_finds : ByteArray := prog_8_method_11_code
def yX6_finds : MethodName := ⟨RX6, "finds", "()V"⟩
abbrev cX6_worthOf : ByteArray := prog_8_method_12_code
def yX6_worthOf : MethodName := ⟨RX6, "worthOf", "(III)I"⟩
abbrev cX6_bidOf : ByteArray := prog_8_method_13_code
def yX6_bidOf : MethodName := ⟨RX6, "bidOf", "(I)I"⟩
abbrev cX6_displaces : ByteArray := prog_8_method_14_code
def yX6_displaces : MethodName := ⟨RX6, "displaces", "(III)I"⟩
abbrev cX6_isTooFull : ByteArray := prog_8_method_15_code
def yX6_isTooFull : MethodName := ⟨RX6, "isTooFull", "(III)Z"⟩
abbrev cX6_isSeats : ByteArray := prog_8_method_16_code
def yX6_isSeats : MethodName := ⟨RX6, "isSeats", "(I)Z"⟩
abbrev cX6_setSeats : ByteArray := prog_8_method_17_code
def yX6_setSeats : MethodName := ⟨RX6, "setSeats", "(III)V"⟩
abbrev cX6_addProduct : ByteArray := prog_8_method_18_code
def yX6_addProduct : MethodName := ⟨RX6, "addProduct", "(III)I"⟩
abbrev cX6_setExpected : ByteArray := prog_8_method_19_code
def yX6_setExpected : MethodName := ⟨RX6, "setExpected", "(II)I"⟩
abbrev cX6_setRate : ByteArray := prog_8_method_20_code
def yX6_setRate : MethodName := ⟨RX6, "setRate", "(I)I"⟩
abbrev cX6_authorisedOf : ByteArray := prog_8_method_21_code
def yX6_authorisedOf : MethodName := ⟨RX6, "authorisedOf", "(I)I"⟩
abbrev cX6_protectedOf : ByteArray := prog_8_method_22_code
def yX6_protectedOf : MethodName := ⟨RX6, "protectedOf", "(II)I"⟩
abbrev cX6_books : ByteArray := prog_8_method_23_code
def yX6_books : MethodName := ⟨RX6, "books", "(IIII)I"⟩
abbrev cX6_refuses : ByteArray := prog_8_method_24_code
def yX6_refuses : MethodName := ⟨RX6, "refuses", "(I)I"⟩
abbrev cX6_ask : ByteArray := prog_8_method_25_code
def yX6_ask : MethodName := ⟨RX6, "ask", "(I)I"⟩
abbrev cX6_group : ByteArray := prog_8_method_26_code
def yX6_group : MethodName := ⟨RX6, "group", "(IIII)I"⟩
abbrev cX6_cancel : ByteArray := prog_8_method_27_code
def yX6_cancel : MethodName := ⟨RX6, "cancel", "(I)I"⟩
abbrev cX6_sold : ByteArray := prog_8_method_28_code
def yX6_sold : MethodName := ⟨RX6, "sold", "()I"⟩
abbrev cX6_endDay : ByteArray := prog_8_method_29_code
def yX6_endDay : MethodName := ⟨RX6, "endDay", "(I)I"⟩
abbrev cX6_products : ByteArray := prog_8_method_30_code
def yX6_products : MethodName := ⟨RX6, "products", "()I"⟩
abbrev cX6_days : ByteArray := prog_8_method_31_code
def yX6_days : MethodName := ⟨RX6, "days", "()I"⟩
abbrev cX6_booked : ByteArray := prog_8_method_32_code
def yX6_booked : MethodName := ⟨RX6, "booked", "(I)I"⟩
abbrev cX6_authorised : ByteArray := prog_8_method_33_code
def yX6_authorised : MethodName := ⟨RX6, "authorised", "(I)I"⟩
abbrev cX6_protectedSeats : ByteArray := prog_8_method_34_code
def yX6_protectedSeats : MethodName := ⟨RX6, "protectedSeats", "(II)I"⟩
abbrev cX6_worth : ByteArray := prog_8_method_35_code
def yX6_worth : MethodName := ⟨RX6, "worth", "()I"⟩
abbrev cX6_worthByTable : ByteArray := prog_8_method_36_code
def yX6_worthByTable : MethodName := ⟨RX6, "worthByTable", "()I"⟩
abbrev cX6_bid : ByteArray := prog_8_method_37_code
def yX6_bid : MethodName := ⟨RX6, "bid", "(I)I"⟩
abbrev cX6_displaced : ByteArray := prog_8_method_38_code
def yX6_displaced : MethodName := ⟨RX6, "displaced", "(III)I"⟩
abbrev cX6_of : ByteArray := prog_8_method_39_code
def yX6_of : MethodName := ⟨RX6, "of", "([II)I"⟩
abbrev cX6_expected : ByteArray := prog_8_method_40_code
def yX6_expected : MethodName := ⟨RX6, "expected", "(I)I"⟩
abbrev cX6_average : ByteArray := prog_8_method_41_code
def yX6_average : MethodName := ⟨RX6, "average", "(I)F"⟩
abbrev cX6_asked : ByteArray := prog_8_method_42_code
def yX6_asked : MethodName := ⟨RX6, "asked", "(I)I"⟩
abbrev cX6_refused : ByteArray := prog_8_method_43_code
def yX6_refused : MethodName := ⟨RX6, "refused", "(I)I"⟩
abbrev cX6_revenue : ByteArray := prog_8_method_44_code
def yX6_revenue : MethodName := ⟨RX6, "revenue", "()I"⟩
abbrev cX6_earned : ByteArray := prog_8_method_45_code
def yX6_earned : MethodName := ⟨RX6, "earned", "()J"⟩
def RJx145de : String := "java/io/Serializable"
def TJx145de : u_T := fun k => match k with
  | _ => ("", "", "", false)
def tyJx145de : Nat → FieldType := fun k => match k with
  | _ => .int
abbrev wsJx145de0 : List Cond := u_ws RJx145de TJx145de 0
theorem nmJx145de : ∀ a, a < 0 → ∀ b, b < 0 → a ≠ b → (TJx145de a).2.1 ≠ (TJx145de b).2.1 := by decide +kernel
theorem tyJx145de_ok : ∀ k, k < 0 → parseFieldDescriptor (TJx145de k).2.2.1 = some (tyJx145de k) := by decide +kernel
def RJ9 : String := "java/lang/Math"
def TJ9 : u_T := fun k => match k with
  | _ => ("", "", "", false)
def tyJ9 : Nat → FieldType := fun k => match k with
  | _ => .int
abbrev wsJ90 : List Cond := u_ws RJ9 TJ9 0
theorem nmJ9 : ∀ a, a < 0 → ∀ b, b < 0 → a ≠ b → (TJ9 a).2.1 ≠ (TJ9 b).2.1 := by decide +kernel
theorem tyJ9_ok : ∀ k, k < 0 → parseFieldDescriptor (TJ9 k).2.2.1 = some (tyJ9 k) := by decide +kernel
abbrev cJ9_max_7cf53 : ByteArray := prog_13_method_65_code
def yJ9_max_7cf53 : MethodName := ⟨RJ9, "max", "(II)I"⟩
abbrev cJ9_min_7cf53 : ByteArray := prog_13_method_69_code
def yJ9_min_7cf53 : MethodName := ⟨RJ9, "min", "(II)I"⟩
def RJ0 : String := "java/lang/String"
def TJ0 : u_T := fun k => match k with
  | _ => ("", "", "", false)
def tyJ0 : Nat → FieldType := fun k => match k with
  | _ => .int
abbrev wsJ00 : List Cond := u_ws RJ0 TJ0 0
theorem nmJ0 : ∀ a, a < 0 → ∀ b, b < 0 → a ≠ b → (TJ0 a).2.1 ≠ (TJ0 b).2.1 := by decide +kernel
theorem tyJ0_ok : ∀ k, k < 0 → parseFieldDescriptor (TJ0 k).2.2.1 = some (tyJ0 k) := by decide +kernel
def RJ7 : String := "java/util/Arrays"
def TJ7 : u_T := fun k => match k with
  | _ => ("", "", "", false)
def tyJ7 : Nat → FieldType := fun k => match k with
  | _ => .int
abbrev wsJ70 : List Cond := u_ws RJ7 TJ7 0
theorem nmJ7 : ∀ a, a < 0 → ∀ b, b < 0 → a ≠ b → (TJ7 a).2.1 ≠ (TJ7 b).2.1 := by decide +kernel
theorem tyJ7_ok : ∀ k, k < 0 → parseFieldDescriptor (TJ7 k).2.2.1 = some (tyJ7 k) := by decide +kernel
abbrev cJ7_fill_53178 : ByteArray := prog_17_method_103_code
def yJ7_fill_53178 : MethodName := ⟨RJ7, "fill", "([II)V"⟩
def RL : String := "NestedfareLaw"
abbrev cL_setSeats : ByteArray := method_3_code
def yL_setSeats : MethodName := ⟨RL, "setSeats", "(LNestedfare;III)I"⟩
abbrev cL_addProduct : ByteArray := method_4_code
def yL_addProduct : MethodName := ⟨RL, "addProduct", "(LNestedfare;III[J)I"⟩
abbrev cL_setExpected : ByteArray := method_5_code
def yL_setExpected : MethodName := ⟨RL, "setExpected", "(LNestedfare;II[J)I"⟩
abbrev cL_setRate : ByteArray := method_6_code
def yL_setRate : MethodName := ⟨RL, "setRate", "(LNestedfare;I[J)I"⟩
abbrev cL_ask : ByteArray := method_7_code
def yL_ask : MethodName := ⟨RL, "ask", "(LNestedfare;I[J)I"⟩
abbrev cL_group : ByteArray := method_8_code
def yL_group : MethodName := ⟨RL, "group", "(LNestedfare;IIII[J)I"⟩
abbrev cL_cancel : ByteArray := method_9_code
def yL_cancel : MethodName := ⟨RL, "cancel", "(LNestedfare;I[J)I"⟩
abbrev cL_endDay : ByteArray := method_10_code
def yL_endDay : MethodName := ⟨RL, "endDay", "(LNestedfare;I[J)I"⟩
abbrev cL_booked : ByteArray := method_11_code
def yL_booked : MethodName := ⟨RL, "booked", "(LNestedfare;I[J)I"⟩
abbrev cL_authorised : ByteArray := method_12_code
def yL_authorised : MethodName := ⟨RL, "authorised", "(LNestedfare;I[J)I"⟩
abbrev cL_protectedSeats : ByteArray := method_13_code
def yL_protectedSeats : MethodName := ⟨RL, "protectedSeats", "(LNestedfare;II[J)I"⟩
abbrev cL_bid : ByteArray := method_14_code
def yL_bid : MethodName := ⟨RL, "bid", "(LNestedfare;I[J)I"⟩
abbrev cL_displaced : ByteArray := method_15_code
def yL_displaced : MethodName := ⟨RL, "displaced", "(LNestedfare;III[J)I"⟩
abbrev cL_expected : ByteArray := method_16_code
def yL_expected : MethodName := ⟨RL, "expected", "(LNestedfare;I[J)I"⟩
abbrev cL_average : ByteArray := method_17_code
def yL_average : MethodName := ⟨RL, "average", "(LNestedfare;I[D)I"⟩
abbrev cL_asked : ByteArray := method_18_code
def yL_asked : MethodName := ⟨RL, "asked", "(LNestedfare;I[J)I"⟩
abbrev cL_refused : ByteArray := method_19_code
def yL_refused : MethodName := ⟨RL, "refused", "(LNestedfare;I[J)I"⟩
abbrev cL_law : ByteArray := code
def yL_law : MethodName := ⟨RL, "law", "([I)Z"⟩
def wsX0_init : List Cond := .code yX0_init cX0_init 5 none :: ([.methodLink RX0 1 objectInit, .instanceMethod objectInit, .code objectInit ⟨#[0xb1]⟩ 1 none, .fieldLink RX0 7 "Nestedfare$Booking" "cancelled" "Z", .fieldLink RX0 13 "Nestedfare$Booking" "first" "I", .fieldLink RX0 17 "Nestedfare$Booking" "last" "I", .fieldLink RX0 20 "Nestedfare$Booking" "seats" "I", .fieldLink RX0 23 "Nestedfare$Booking" "price" "I"] ++ wsX00)
def wsX0_seatsOn : List Cond := .code yX0_seatsOn cX0_seatsOn 2 (some .int) :: ([.fieldLink RX0 7 "Nestedfare$Booking" "cancelled" "Z", .fieldLink RX0 13 "Nestedfare$Booking" "first" "I", .fieldLink RX0 17 "Nestedfare$Booking" "last" "I", .fieldLink RX0 20 "Nestedfare$Booking" "seats" "I"] ++ wsX00)
def wsX3_init : List Cond := .code yX3_init cX3_init 1 none :: ([.methodLink RX3 3 objectInit, .instanceMethod objectInit, .code objectInit ⟨#[0xb1]⟩ 1 none, .arrayClass .int, .fieldLink RX3 9 "Nestedfare$Queue" "sums" "[I", .fieldLink RX3 15 "Nestedfare$Queue" "length" "I"] ++ wsX30)
def wsX1_init : List Cond := .code yX1_init cX1_init 1 none :: ([.methodLink RX1 1 objectInit, .instanceMethod objectInit, .code objectInit ⟨#[0xb1]⟩ 1 none, .classLink RX1 7 RX3, .instantiable RX3 2, .initialized RX3, .fieldLink RX1 10 "Nestedfare$Demand" "leg0" "LNestedfare$Queue;", .fieldLink RX1 16 "Nestedfare$Demand" "leg1" "LNestedfare$Queue;", .fieldLink RX1 19 "Nestedfare$Demand" "leg2" "LNestedfare$Queue;", .fieldLink RX1 22 "Nestedfare$Demand" "legs01" "LNestedfare$Queue;", .fieldLink RX1 25 "Nestedfare$Demand" "legs12" "LNestedfare$Queue;", .fieldLink RX1 28 "Nestedfare$Demand" "legs012" "LNestedfare$Queue;", .instanceMethod yX3_init, .code yX3_init cX3_init 1 none, .methodLink RX3 3 objectInit, .arrayClass .int, .fieldLink RX3 9 "Nestedfare$Queue" "sums" "[I", .fieldLink RX3 15 "Nestedfare$Queue" "length" "I"] ++ wsX30 ++ wsX10)
def wsX1_clear : List Cond := .code yX1_clear cX1_clear 1 none :: ([.fieldLink RX1 10 "Nestedfare$Demand" "leg0" "LNestedfare$Queue;", .fieldLink RX1 16 "Nestedfare$Demand" "leg1" "LNestedfare$Queue;", .fieldLink RX1 19 "Nestedfare$Demand" "leg2" "LNestedfare$Queue;", .fieldLink RX1 22 "Nestedfare$Demand" "legs01" "LNestedfare$Queue;", .fieldLink RX1 25 "Nestedfare$Demand" "legs12" "LNestedfare$Queue;", .fieldLink RX1 28 "Nestedfare$Demand" "legs012" "LNestedfare$Queue;"] ++ wsX10 ++ wsX30)
def wsX1_queueOf : List Cond := .code yX1_queueOf cX1_queueOf 3 (some (.object "Nestedfare$Queue")) :: ([.fieldLink RX1 10 "Nestedfare$Demand" "leg0" "LNestedfare$Queue;", .fieldLink RX1 22 "Nestedfare$Demand" "legs01" "LNestedfare$Queue;", .fieldLink RX1 28 "Nestedfare$Demand" "legs012" "LNestedfare$Queue;", .fieldLink RX1 16 "Nestedfare$Demand" "leg1" "LNestedfare$Queue;", .fieldLink RX1 25 "Nestedfare$Demand" "legs12" "LNestedfare$Queue;", .fieldLink RX1 19 "Nestedfare$Demand" "leg2" "LNestedfare$Queue;"] ++ wsX10)
def wsX2_toCome : List Cond := .code yX2_toCome cX2_toCome 1 (some .int) :: ([.fieldLink RX2 15 "Nestedfare$Product" "expectedToday" "I", .fieldLink RX2 19 "Nestedfare$Product" "askedToday" "I", .methodLink RX2 34 Lib.Math.max.name, .static Lib.Math.max.name, .initialized "java/lang/Math", .code Lib.Math.max.name Lib.Math.max.code 2 (some .int)] ++ wsX20)
def wsX3_add : List Cond := .code yX3_add cX3_add 4 none :: ([.fieldLink RX3 15 "Nestedfare$Queue" "length" "I", .fieldLink RX3 9 "Nestedfare$Queue" "sums" "[I"] ++ wsX30)
def wsX1_add_r1 : List Cond := [Cond.methodLink RX1 43 yX1_queueOf, Cond.instanceMethod yX1_queueOf, Cond.selects RX1 yX1_queueOf yX1_queueOf, Cond.initialized RX1, Cond.code yX1_queueOf cX1_queueOf 3 (some (.object "Nestedfare$Queue")), Cond.fieldLink RX1 10 "Nestedfare$Demand" "leg0" "LNestedfare$Queue;", Cond.fieldLink RX1 22 "Nestedfare$Demand" "legs01" "LNestedfare$Queue;", Cond.fieldLink RX1 28 "Nestedfare$Demand" "legs012" "LNestedfare$Queue;", Cond.fieldLink RX1 16 "Nestedfare$Demand" "leg1" "LNestedfare$Queue;", Cond.fieldLink RX1 25 "Nestedfare$Demand" "legs12" "LNestedfare$Queue;", Cond.fieldLink RX1 19 "Nestedfare$Demand" "leg2" "LNestedfare$Queue;", Cond.instanceMethod yX2_toCome, Cond.initialized RX2, Cond.selects RX2 yX2_toCome yX2_toCome, Cond.code yX2_toCome cX2_toCome 1 (some .int), Cond.fieldLink RX2 15 "Nestedfare$Product" "expectedToday" "I", Cond.fieldLink RX2 19 "Nestedfare$Product" "askedToday" "I", Cond.methodLink RX2 34 Lib.Math.max.name, Cond.static Lib.Math.max.name, Cond.initialized "java/lang/Math", Cond.code Lib.Math.max.name Lib.Math.max.code 2 (some .int), Cond.instanceMethod yX3_add, Cond.initialized RX3, Cond.selects RX3 yX3_add yX3_add]
def wsX1_add_r2 : List Cond := [Cond.code yX3_add cX3_add 4 none, Cond.fieldLink RX3 15 "Nestedfare$Queue" "length" "I", Cond.fieldLink RX3 9 "Nestedfare$Queue" "sums" "[I"]
def wsX1_add : List Cond := .code yX1_add cX1_add 2 none :: ((wsX1_add_r1 ++ wsX1_add_r2) ++ wsX20 ++ wsX10 ++ wsX30)
def wsX3_mostFor : List Cond := .code yX3_mostFor cX3_mostFor 3 (some .int) :: ([.fieldLink RX3 15 "Nestedfare$Queue" "length" "I", .fieldLink RX3 9 "Nestedfare$Queue" "sums" "[I"] ++ wsX30)
def wsX1_mostBehind : List Cond := .code yX1_mostBehind cX1_mostBehind 6 (some .int) :: ([.fieldLink RX1 25 "Nestedfare$Demand" "legs12" "LNestedfare$Queue;", .methodLink RX1 58 Lib.Math.min.name, .static Lib.Math.min.name, .initialized "java/lang/Math", .code Lib.Math.min.name Lib.Math.min.code 2 (some .int), .fieldLink RX1 16 "Nestedfare$Demand" "leg1" "LNestedfare$Queue;", .fieldLink RX1 19 "Nestedfare$Demand" "leg2" "LNestedfare$Queue;", .methodLink RX1 72 Lib.Math.max.name, .static Lib.Math.max.name, .code Lib.Math.max.name Lib.Math.max.code 2 (some .int), .instanceMethod yX3_mostFor, .initialized RX3, .selects RX3 yX3_mostFor yX3_mostFor, .code yX3_mostFor cX3_mostFor 3 (some .int), .fieldLink RX3 15 "Nestedfare$Queue" "length" "I", .fieldLink RX3 9 "Nestedfare$Queue" "sums" "[I"] ++ wsX10 ++ wsX30)
def wsX1_mostOfShorter : List Cond := .code yX1_mostOfShorter cX1_mostOfShorter 8 (some .int) :: ([.fieldLink RX1 22 "Nestedfare$Demand" "legs01" "LNestedfare$Queue;", .methodLink RX1 58 Lib.Math.min.name, .static Lib.Math.min.name, .initialized "java/lang/Math", .code Lib.Math.min.name Lib.Math.min.code 2 (some .int), .fieldLink RX1 10 "Nestedfare$Demand" "leg0" "LNestedfare$Queue;", .methodLink RX1 72 Lib.Math.max.name, .static Lib.Math.max.name, .code Lib.Math.max.name Lib.Math.max.code 2 (some .int), .instanceMethod yX3_mostFor, .initialized RX3, .selects RX3 yX3_mostFor yX3_mostFor, .code yX3_mostFor cX3_mostFor 3 (some .int), .fieldLink RX3 15 "Nestedfare$Queue" "length" "I", .fieldLink RX3 9 "Nestedfare$Queue" "sums" "[I", .methodLink RX1 75 yX1_mostBehind, .instanceMethod yX1_mostBehind, .selects RX1 yX1_mostBehind yX1_mostBehind, .initialized RX1, .code yX1_mostBehind cX1_mostBehind 6 (some .int), .fieldLink RX1 25 "Nestedfare$Demand" "legs12" "LNestedfare$Queue;", .fieldLink RX1 16 "Nestedfare$Demand" "leg1" "LNestedfare$Queue;", .fieldLink RX1 19 "Nestedfare$Demand" "leg2" "LNestedfare$Queue;"] ++ wsX10 ++ wsX30)
def wsX1_mostFor_r1 : List Cond := [Cond.fieldLink RX1 28 "Nestedfare$Demand" "legs012" "LNestedfare$Queue;", Cond.methodLink RX1 58 Lib.Math.min.name, Cond.static Lib.Math.min.name, Cond.initialized "java/lang/Math", Cond.code Lib.Math.min.name Lib.Math.min.code 2 (some .int), Cond.methodLink RX1 72 Lib.Math.max.name, Cond.static Lib.Math.max.name, Cond.code Lib.Math.max.name Lib.Math.max.code 2 (some .int), Cond.instanceMethod yX3_mostFor, Cond.initialized RX3, Cond.selects RX3 yX3_mostFor yX3_mostFor, Cond.code yX3_mostFor cX3_mostFor 3 (some .int), Cond.fieldLink RX3 15 "Nestedfare$Queue" "length" "I", Cond.fieldLink RX3 9 "Nestedfare$Queue" "sums" "[I", Cond.methodLink RX1 68 yX1_mostOfShorter, Cond.instanceMethod yX1_mostOfShorter, Cond.selects RX1 yX1_mostOfShorter yX1_mostOfShorter, Cond.initialized RX1, Cond.code yX1_mostOfShorter cX1_mostOfShorter 8 (some .int), Cond.fieldLink RX1 22 "Nestedfare$Demand" "legs01" "LNestedfare$Queue;", Cond.fieldLink RX1 10 "Nestedfare$Demand" "leg0" "LNestedfare$Queue;", Cond.methodLink RX1 75 yX1_mostBehind, Cond.instanceMethod yX1_mostBehind, Cond.selects RX1 yX1_mostBehind yX1_mostBehind]
def wsX1_mostFor_r2 : List Cond := [Cond.code yX1_mostBehind cX1_mostBehind 6 (some .int), Cond.fieldLink RX1 25 "Nestedfare$Demand" "legs12" "LNestedfare$Queue;", Cond.fieldLink RX1 16 "Nestedfare$Demand" "leg1" "LNestedfare$Queue;", Cond.fieldLink RX1 19 "Nestedfare$Demand" "leg2" "LNestedfare$Queue;"]
def wsX1_mostFor : List Cond := .code yX1_mostFor cX1_mostFor 7 (some .int) :: ((wsX1_mostFor_r1 ++ wsX1_mostFor_r2) ++ wsX10 ++ wsX30)
def wsX2_init : List Cond := .code yX2_init cX2_init 5 none :: ([.methodLink RX2 3 objectInit, .instanceMethod objectInit, .code objectInit ⟨#[0xb1]⟩ 1 none, .arrayClass .int, .fieldLink RX2 9 "Nestedfare$Product" "daysByAsked" "[I", .fieldLink RX2 15 "Nestedfare$Product" "expectedToday" "I", .fieldLink RX2 19 "Nestedfare$Product" "askedToday" "I", .fieldLink RX2 22 "Nestedfare$Product" "askedBefore" "I", .fieldLink RX2 25 "Nestedfare$Product" "first" "I", .fieldLink RX2 28 "Nestedfare$Product" "last" "I", .fieldLink RX2 31 "Nestedfare$Product" "fare" "I"] ++ wsX20)
def wsX2_covers : List Cond := .code yX2_covers cX2_covers 2 (some .boolean) :: ([.fieldLink RX2 25 "Nestedfare$Product" "first" "I", .fieldLink RX2 28 "Nestedfare$Product" "last" "I"] ++ wsX20)
def wsX2_protectedAgainst : List Cond := .code yX2_protectedAgainst cX2_protectedAgainst 8 (some .int) :: ([.fieldLink RX2 9 "Nestedfare$Product" "daysByAsked" "[I", .fieldLink RX2 31 "Nestedfare$Product" "fare" "I"] ++ wsX20)
def wsX2_learn : List Cond := .code yX2_learn cX2_learn 3 none :: ([.fieldLink RX2 19 "Nestedfare$Product" "askedToday" "I", .methodLink RX2 40 Lib.Math.min.name, .static Lib.Math.min.name, .initialized "java/lang/Math", .code Lib.Math.min.name Lib.Math.min.code 2 (some .int), .fieldLink RX2 9 "Nestedfare$Product" "daysByAsked" "[I", .fieldLink RX2 22 "Nestedfare$Product" "askedBefore" "I", .fieldLink RX2 15 "Nestedfare$Product" "expectedToday" "I"] ++ wsX20)
def wsX4_init : List Cond := .code yX4_init cX4_init 1 none :: ([.methodLink RX4 3 objectInit, .instanceMethod objectInit, .code objectInit ⟨#[0xb1]⟩ 1 none, .arrayClass .int, .fieldLink RX4 11 "Nestedfare$SeatTable" "values" "[I"] ++ wsX40)
def wsX4_cellOf : List Cond := .code yX4_cellOf cX4_cellOf 3 (some .int) :: ([])
def wsJ7_fill_53178 : List Cond := .code yJ7_fill_53178 cJ7_fill_53178 4 none :: ([])
def wsX4_clear : List Cond := .code yX4_clear cX4_clear 1 none :: ([.fieldLink RX4 11 "Nestedfare$SeatTable" "values" "[I", .methodLink RX4 15 yJ7_fill_53178, .static yJ7_fill_53178, .initialized RJ7, .code yJ7_fill_53178 cJ7_fill_53178 4 none] ++ wsX40)
def wsX4_raiseRow : List Cond := .code yX4_raiseRow cX4_raiseRow 7 none :: ([.fieldLink RX4 11 "Nestedfare$SeatTable" "values" "[I"] ++ wsX40)
def wsX4_admitOne : List Cond := .code yX4_admitOne cX4_admitOne 11 none :: ([.instanceMethod yX2_covers, .initialized RX2, .selects RX2 yX2_covers yX2_covers, .code yX2_covers cX2_covers 2 (some .boolean), .fieldLink RX2 25 "Nestedfare$Product" "first" "I", .fieldLink RX2 28 "Nestedfare$Product" "last" "I", .methodLink RX4 41 yX4_cellOf, .static yX4_cellOf, .initialized RX4, .code yX4_cellOf cX4_cellOf 3 (some .int), .methodLink RX4 49 yX4_raiseRow, .instanceMethod yX4_raiseRow, .selects RX4 yX4_raiseRow yX4_raiseRow, .code yX4_raiseRow cX4_raiseRow 7 none, .fieldLink RX4 11 "Nestedfare$SeatTable" "values" "[I"] ++ wsX20 ++ wsX40)
def wsX4_admit_r1 : List Cond := [Cond.methodLink RX4 27 Lib.Math.min.name, Cond.static Lib.Math.min.name, Cond.initialized "java/lang/Math", Cond.code Lib.Math.min.name Lib.Math.min.code 2 (some .int), Cond.instanceMethod yX2_toCome, Cond.initialized RX2, Cond.selects RX2 yX2_toCome yX2_toCome, Cond.code yX2_toCome cX2_toCome 1 (some .int), Cond.fieldLink RX2 15 "Nestedfare$Product" "expectedToday" "I", Cond.fieldLink RX2 19 "Nestedfare$Product" "askedToday" "I", Cond.methodLink RX2 34 Lib.Math.max.name, Cond.static Lib.Math.max.name, Cond.code Lib.Math.max.name Lib.Math.max.code 2 (some .int), Cond.methodLink RX4 33 yX4_admitOne, Cond.instanceMethod yX4_admitOne, Cond.selects RX4 yX4_admitOne yX4_admitOne, Cond.initialized RX4, Cond.code yX4_admitOne cX4_admitOne 11 none, Cond.instanceMethod yX2_covers, Cond.selects RX2 yX2_covers yX2_covers, Cond.code yX2_covers cX2_covers 2 (some .boolean), Cond.fieldLink RX2 25 "Nestedfare$Product" "first" "I", Cond.fieldLink RX2 28 "Nestedfare$Product" "last" "I", Cond.methodLink RX4 41 yX4_cellOf]
def wsX4_admit_r2 : List Cond := [Cond.static yX4_cellOf, Cond.code yX4_cellOf cX4_cellOf 3 (some .int), Cond.methodLink RX4 49 yX4_raiseRow, Cond.instanceMethod yX4_raiseRow, Cond.selects RX4 yX4_raiseRow yX4_raiseRow, Cond.code yX4_raiseRow cX4_raiseRow 7 none, Cond.fieldLink RX4 11 "Nestedfare$SeatTable" "values" "[I"]
def wsX4_admit : List Cond := .code yX4_admit cX4_admit 7 none :: ((wsX4_admit_r1 ++ wsX4_admit_r2) ++ wsX20 ++ wsX40)
def wsX4_valueOf : List Cond := .code yX4_valueOf cX4_valueOf 5 (some .int) :: ([.fieldLink RX4 11 "Nestedfare$SeatTable" "values" "[I", .methodLink RX4 41 yX4_cellOf, .static yX4_cellOf, .initialized RX4, .code yX4_cellOf cX4_cellOf 3 (some .int)] ++ wsX40)
def wsX5_init_r1 : List Cond := [Cond.methodLink RX5 3 objectInit, Cond.instanceMethod objectInit, Cond.code objectInit ⟨#[0xb1]⟩ 1 none, Cond.arrayClass .int, Cond.fieldLink RX5 9 "Nestedfare" "seats" "[I", Cond.classLink RX5 13 RX2, Cond.fieldLink RX5 15 "Nestedfare" "offered" "[LNestedfare$Product;", Cond.fieldLink RX5 19 "Nestedfare" "dearestFirst" "[LNestedfare$Product;", Cond.classLink RX5 22 RX0, Cond.fieldLink RX5 24 "Nestedfare" "bookings" "[LNestedfare$Booking;", Cond.classLink RX5 28 RX1, Cond.instantiable RX1 6, Cond.initialized RX1, Cond.fieldLink RX5 31 "Nestedfare" "demand" "LNestedfare$Demand;", Cond.classLink RX5 35 RX4, Cond.instantiable RX4 1, Cond.initialized RX4, Cond.fieldLink RX5 38 "Nestedfare" "table" "LNestedfare$SeatTable;", Cond.fieldLink RX5 42 "Nestedfare" "offeredCount" "I", Cond.fieldLink RX5 46 "Nestedfare" "bookingCount" "I", Cond.fieldLink RX5 49 "Nestedfare" "pastDays" "I", Cond.fieldLink RX5 52 "Nestedfare" "showRate" "I", Cond.fieldLink RX5 55 "Nestedfare" "refusedFull" "I", Cond.fieldLink RX5 58 "Nestedfare" "refusedProtected" "I"]
def wsX5_init_r2 : List Cond := [Cond.fieldLink RX5 61 "Nestedfare" "refusedBelow" "I", Cond.fieldLink RX5 64 "Nestedfare" "earnedBefore" "J", Cond.instanceMethod yX1_init, Cond.code yX1_init cX1_init 1 none, Cond.methodLink RX1 1 objectInit, Cond.classLink RX1 7 RX3, Cond.instantiable RX3 2, Cond.initialized RX3, Cond.fieldLink RX1 10 "Nestedfare$Demand" "leg0" "LNestedfare$Queue;", Cond.fieldLink RX1 16 "Nestedfare$Demand" "leg1" "LNestedfare$Queue;", Cond.fieldLink RX1 19 "Nestedfare$Demand" "leg2" "LNestedfare$Queue;", Cond.fieldLink RX1 22 "Nestedfare$Demand" "legs01" "LNestedfare$Queue;", Cond.fieldLink RX1 25 "Nestedfare$Demand" "legs12" "LNestedfare$Queue;", Cond.fieldLink RX1 28 "Nestedfare$Demand" "legs012" "LNestedfare$Queue;", Cond.instanceMethod yX3_init, Cond.code yX3_init cX3_init 1 none, Cond.methodLink RX3 3 objectInit, Cond.fieldLink RX3 9 "Nestedfare$Queue" "sums" "[I", Cond.fieldLink RX3 15 "Nestedfare$Queue" "length" "I", Cond.instanceMethod yX4_init, Cond.code yX4_init cX4_init 1 none, Cond.methodLink RX4 3 objectInit, Cond.fieldLink RX4 11 "Nestedfare$SeatTable" "values" "[I"]
def wsX5_init : List Cond := .code yX5_init cX5_init 1 none :: ((wsX5_init_r1 ++ wsX5_init_r2) ++ wsX50 ++ wsX10 ++ wsX40 ++ wsX30)
def wsX5_within : List Cond := .code yX5_within cX5_within 3 (some .boolean) :: ([])
def wsX5_putSeats : List Cond := .code yX5_putSeats cX5_putSeats 3 none :: ([.fieldLink RX5 9 "Nestedfare" "seats" "[I"] ++ wsX50)
def wsX5_setSeats : List Cond := .code yX5_setSeats cX5_setSeats 4 none :: ([.classLink RX5 72 "java/lang/IllegalArgumentException", .initialized "java/lang/IllegalArgumentException", .methodLink RX5 68 yX5_within, .static yX5_within, .initialized RX5, .code yX5_within cX5_within 3 (some .boolean), .methodLink RX5 79 yX5_putSeats, .instanceMethod yX5_putSeats, .selects RX5 yX5_putSeats yX5_putSeats, .code yX5_putSeats cX5_putSeats 3 none, .fieldLink RX5 9 "Nestedfare" "seats" "[I"] ++ wsX50 ++ (vx_atS RX5 76 "java/lang/IllegalArgumentException" ["java/lang/RuntimeException", "java/lang/Exception"]).filter goodWord)
def wsX5_isLeg : List Cond := .code yX5_isLeg cX5_isLeg 1 (some .boolean) :: ([.methodLink RX5 68 yX5_within, .static yX5_within, .initialized RX5, .code yX5_within cX5_within 3 (some .boolean)])
def wsX5_isOffered : List Cond := .code yX5_isOffered cX5_isOffered 8 (some .boolean) :: ([.fieldLink RX5 15 "Nestedfare" "offered" "[LNestedfare$Product;"] ++ wsX50 ++ wsX20)
def wsX5_offer : List Cond := .code yX5_offer cX5_offer 3 none :: ([.fieldLink RX5 42 "Nestedfare" "offeredCount" "I", .fieldLink RX5 15 "Nestedfare" "offered" "[LNestedfare$Product;", .fieldLink RX5 19 "Nestedfare" "dearestFirst" "[LNestedfare$Product;"] ++ wsX50 ++ wsX20)
def wsX5_addProduct_r1 : List Cond := [Cond.classLink RX5 87 "java/lang/IndexOutOfBoundsException", Cond.initialized "java/lang/IndexOutOfBoundsException", Cond.classLink RX5 72 "java/lang/IllegalArgumentException", Cond.initialized "java/lang/IllegalArgumentException", Cond.classLink RX5 97 "java/lang/IllegalStateException", Cond.initialized "java/lang/IllegalStateException", Cond.fieldLink RX5 42 "Nestedfare" "offeredCount" "I", Cond.classLink RX5 13 RX2, Cond.instantiable RX2 7, Cond.initialized RX2, Cond.fieldLink RX5 49 "Nestedfare" "pastDays" "I", Cond.methodLink RX5 83 yX5_isLeg, Cond.static yX5_isLeg, Cond.initialized RX5, Cond.code yX5_isLeg cX5_isLeg 1 (some .boolean), Cond.methodLink RX5 68 yX5_within, Cond.static yX5_within, Cond.code yX5_within cX5_within 3 (some .boolean), Cond.methodLink RX5 94 yX5_isOffered, Cond.instanceMethod yX5_isOffered, Cond.selects RX5 yX5_isOffered yX5_isOffered, Cond.code yX5_isOffered cX5_isOffered 8 (some .boolean), Cond.fieldLink RX5 15 "Nestedfare" "offered" "[LNestedfare$Product;", Cond.instanceMethod yX2_init]
def wsX5_addProduct_r2 : List Cond := [Cond.code yX2_init cX2_init 5 none, Cond.methodLink RX2 3 objectInit, Cond.instanceMethod objectInit, Cond.code objectInit ⟨#[0xb1]⟩ 1 none, Cond.arrayClass .int, Cond.fieldLink RX2 9 "Nestedfare$Product" "daysByAsked" "[I", Cond.fieldLink RX2 15 "Nestedfare$Product" "expectedToday" "I", Cond.fieldLink RX2 19 "Nestedfare$Product" "askedToday" "I", Cond.fieldLink RX2 22 "Nestedfare$Product" "askedBefore" "I", Cond.fieldLink RX2 25 "Nestedfare$Product" "first" "I", Cond.fieldLink RX2 28 "Nestedfare$Product" "last" "I", Cond.fieldLink RX2 31 "Nestedfare$Product" "fare" "I", Cond.methodLink RX5 105 yX5_offer, Cond.instanceMethod yX5_offer, Cond.selects RX5 yX5_offer yX5_offer, Cond.code yX5_offer cX5_offer 3 none, Cond.fieldLink RX5 19 "Nestedfare" "dearestFirst" "[LNestedfare$Product;"]
def wsX5_addProduct : List Cond := .code yX5_addProduct cX5_addProduct 5 (some .int) :: ((wsX5_addProduct_r1 ++ wsX5_addProduct_r2) ++ wsX50 ++ wsX20 ++ (vx_atS RX5 91 "java/lang/IndexOutOfBoundsException" ["java/lang/RuntimeException", "java/lang/Exception"]).filter goodWord ++ (vx_atS RX5 76 "java/lang/IllegalArgumentException" ["java/lang/RuntimeException", "java/lang/Exception"]).filter goodWord ++ (vx_atS RX5 101 "java/lang/IllegalStateException" ["java/lang/RuntimeException", "java/lang/Exception"]).filter goodWord)
def wsX5_productAt : List Cond := .code yX5_productAt cX5_productAt 2 (some (.object "Nestedfare$Product")) :: ([.fieldLink RX5 15 "Nestedfare" "offered" "[LNestedfare$Product;"] ++ wsX50)
def wsX5_setExpected : List Cond := .code yX5_setExpected cX5_setExpected 5 (some .int) :: ([.classLink RX5 87 "java/lang/IndexOutOfBoundsException", .initialized "java/lang/IndexOutOfBoundsException", .classLink RX5 72 "java/lang/IllegalArgumentException", .initialized "java/lang/IllegalArgumentException", .methodLink RX5 109 yX5_productAt, .instanceMethod yX5_productAt, .selects RX5 yX5_productAt yX5_productAt, .initialized RX5, .code yX5_productAt cX5_productAt 2 (some (.object "Nestedfare$Product")), .fieldLink RX5 15 "Nestedfare" "offered" "[LNestedfare$Product;", .methodLink RX5 68 yX5_within, .static yX5_within, .code yX5_within cX5_within 3 (some .boolean)] ++ wsX20 ++ wsX50 ++ (vx_atS RX5 91 "java/lang/IndexOutOfBoundsException" ["java/lang/RuntimeException", "java/lang/Exception"]).filter goodWord ++ (vx_atS RX5 76 "java/lang/IllegalArgumentException" ["java/lang/RuntimeException", "java/lang/Exception"]).filter goodWord)
def wsX5_setRate : List Cond := .code yX5_setRate cX5_setRate 3 (some .int) :: ([.classLink RX5 72 "java/lang/IllegalArgumentException", .initialized "java/lang/IllegalArgumentException", .fieldLink RX5 52 "Nestedfare" "showRate" "I", .methodLink RX5 68 yX5_within, .static yX5_within, .initialized RX5, .code yX5_within cX5_within 3 (some .boolean)] ++ wsX50 ++ (vx_atS RX5 76 "java/lang/IllegalArgumentException" ["java/lang/RuntimeException", "java/lang/Exception"]).filter goodWord)
def wsX5_bookingAt : List Cond := .code yX5_bookingAt cX5_bookingAt 2 (some (.object "Nestedfare$Booking")) :: ([.fieldLink RX5 46 "Nestedfare" "bookingCount" "I", .fieldLink RX5 24 "Nestedfare" "bookings" "[LNestedfare$Booking;"] ++ wsX50)
def wsX5_bookedOn : List Cond := .code yX5_bookedOn cX5_bookedOn 5 (some .int) :: ([.fieldLink RX5 46 "Nestedfare" "bookingCount" "I", .methodLink RX5 165 yX5_bookingAt, .instanceMethod yX5_bookingAt, .selects RX5 yX5_bookingAt yX5_bookingAt, .initialized RX5, .code yX5_bookingAt cX5_bookingAt 2 (some (.object "Nestedfare$Booking")), .fieldLink RX5 24 "Nestedfare" "bookings" "[LNestedfare$Booking;", .instanceMethod yX0_seatsOn, .initialized RX0, .selects RX0 yX0_seatsOn yX0_seatsOn, .code yX0_seatsOn cX0_seatsOn 2 (some .int), .fieldLink RX0 7 "Nestedfare$Booking" "cancelled" "Z", .fieldLink RX0 13 "Nestedfare$Booking" "first" "I", .fieldLink RX0 17 "Nestedfare$Booking" "last" "I", .fieldLink RX0 20 "Nestedfare$Booking" "seats" "I"] ++ wsX50 ++ wsX00)
def wsX5_seatsOf : List Cond := .code yX5_seatsOf cX5_seatsOf 2 (some .int) :: ([.fieldLink RX5 9 "Nestedfare" "seats" "[I"] ++ wsX50)
def wsX5_authorisedOn : List Cond := .code yX5_authorisedOn cX5_authorisedOn 3 (some .int) :: ([.fieldLink RX5 52 "Nestedfare" "showRate" "I", .methodLink RX5 225 yX5_seatsOf, .instanceMethod yX5_seatsOf, .selects RX5 yX5_seatsOf yX5_seatsOf, .initialized RX5, .code yX5_seatsOf cX5_seatsOf 2 (some .int), .fieldLink RX5 9 "Nestedfare" "seats" "[I"] ++ wsX50)
def wsX5_isFull_r1 : List Cond := [Cond.methodLink RX5 191 yX5_bookedOn, Cond.instanceMethod yX5_bookedOn, Cond.selects RX5 yX5_bookedOn yX5_bookedOn, Cond.initialized RX5, Cond.code yX5_bookedOn cX5_bookedOn 5 (some .int), Cond.fieldLink RX5 46 "Nestedfare" "bookingCount" "I", Cond.methodLink RX5 165 yX5_bookingAt, Cond.instanceMethod yX5_bookingAt, Cond.selects RX5 yX5_bookingAt yX5_bookingAt, Cond.code yX5_bookingAt cX5_bookingAt 2 (some (.object "Nestedfare$Booking")), Cond.fieldLink RX5 24 "Nestedfare" "bookings" "[LNestedfare$Booking;", Cond.instanceMethod yX0_seatsOn, Cond.initialized RX0, Cond.selects RX0 yX0_seatsOn yX0_seatsOn, Cond.code yX0_seatsOn cX0_seatsOn 2 (some .int), Cond.fieldLink RX0 7 "Nestedfare$Booking" "cancelled" "Z", Cond.fieldLink RX0 13 "Nestedfare$Booking" "first" "I", Cond.fieldLink RX0 17 "Nestedfare$Booking" "last" "I", Cond.fieldLink RX0 20 "Nestedfare$Booking" "seats" "I", Cond.methodLink RX5 194 yX5_authorisedOn, Cond.instanceMethod yX5_authorisedOn, Cond.selects RX5 yX5_authorisedOn yX5_authorisedOn, Cond.code yX5_authorisedOn cX5_authorisedOn 3 (some .int), Cond.fieldLink RX5 52 "Nestedfare" "showRate" "I"]
def wsX5_isFull_r2 : List Cond := [Cond.methodLink RX5 225 yX5_seatsOf, Cond.instanceMethod yX5_seatsOf, Cond.selects RX5 yX5_seatsOf yX5_seatsOf, Cond.code yX5_seatsOf cX5_seatsOf 2 (some .int), Cond.fieldLink RX5 9 "Nestedfare" "seats" "[I"]
def wsX5_isFull : List Cond := .code yX5_isFull cX5_isFull 3 (some .boolean) :: ((wsX5_isFull_r1 ++ wsX5_isFull_r2) ++ wsX20 ++ wsX50 ++ wsX00)
def wsX5_refuse : List Cond := .code yX5_refuse cX5_refuse 2 (some .int) :: ([.fieldLink RX5 55 "Nestedfare" "refusedFull" "I", .fieldLink RX5 58 "Nestedfare" "refusedProtected" "I", .fieldLink RX5 61 "Nestedfare" "refusedBelow" "I"] ++ wsX50)
def wsX5_protectedOn : List Cond := .code yX5_protectedOn cX5_protectedOn 8 (some .int) :: ([.fieldLink RX5 15 "Nestedfare" "offered" "[LNestedfare$Product;", .fieldLink RX5 49 "Nestedfare" "pastDays" "I", .instanceMethod yX2_covers, .initialized RX2, .selects RX2 yX2_covers yX2_covers, .code yX2_covers cX2_covers 2 (some .boolean), .fieldLink RX2 25 "Nestedfare$Product" "first" "I", .fieldLink RX2 28 "Nestedfare$Product" "last" "I", .instanceMethod yX2_protectedAgainst, .selects RX2 yX2_protectedAgainst yX2_protectedAgainst, .code yX2_protectedAgainst cX2_protectedAgainst 8 (some .int), .fieldLink RX2 9 "Nestedfare$Product" "daysByAsked" "[I", .fieldLink RX2 31 "Nestedfare$Product" "fare" "I"] ++ wsX50 ++ wsX20)
def wsX5_isProtected_r1 : List Cond := [Cond.methodLink RX5 194 yX5_authorisedOn, Cond.instanceMethod yX5_authorisedOn, Cond.selects RX5 yX5_authorisedOn yX5_authorisedOn, Cond.initialized RX5, Cond.code yX5_authorisedOn cX5_authorisedOn 3 (some .int), Cond.fieldLink RX5 52 "Nestedfare" "showRate" "I", Cond.methodLink RX5 225 yX5_seatsOf, Cond.instanceMethod yX5_seatsOf, Cond.selects RX5 yX5_seatsOf yX5_seatsOf, Cond.code yX5_seatsOf cX5_seatsOf 2 (some .int), Cond.fieldLink RX5 9 "Nestedfare" "seats" "[I", Cond.methodLink RX5 191 yX5_bookedOn, Cond.instanceMethod yX5_bookedOn, Cond.selects RX5 yX5_bookedOn yX5_bookedOn, Cond.code yX5_bookedOn cX5_bookedOn 5 (some .int), Cond.fieldLink RX5 46 "Nestedfare" "bookingCount" "I", Cond.methodLink RX5 165 yX5_bookingAt, Cond.instanceMethod yX5_bookingAt, Cond.selects RX5 yX5_bookingAt yX5_bookingAt, Cond.code yX5_bookingAt cX5_bookingAt 2 (some (.object "Nestedfare$Booking")), Cond.fieldLink RX5 24 "Nestedfare" "bookings" "[LNestedfare$Booking;", Cond.instanceMethod yX0_seatsOn, Cond.initialized RX0, Cond.selects RX0 yX0_seatsOn yX0_seatsOn]
def wsX5_isProtected_r2 : List Cond := [Cond.code yX0_seatsOn cX0_seatsOn 2 (some .int), Cond.fieldLink RX0 7 "Nestedfare$Booking" "cancelled" "Z", Cond.fieldLink RX0 13 "Nestedfare$Booking" "first" "I", Cond.fieldLink RX0 17 "Nestedfare$Booking" "last" "I", Cond.fieldLink RX0 20 "Nestedfare$Booking" "seats" "I", Cond.methodLink RX5 199 yX5_protectedOn, Cond.instanceMethod yX5_protectedOn, Cond.selects RX5 yX5_protectedOn yX5_protectedOn, Cond.code yX5_protectedOn cX5_protectedOn 8 (some .int), Cond.fieldLink RX5 15 "Nestedfare" "offered" "[LNestedfare$Product;", Cond.fieldLink RX5 49 "Nestedfare" "pastDays" "I", Cond.instanceMethod yX2_covers, Cond.initialized RX2, Cond.selects RX2 yX2_covers yX2_covers, Cond.code yX2_covers cX2_covers 2 (some .boolean), Cond.fieldLink RX2 25 "Nestedfare$Product" "first" "I", Cond.fieldLink RX2 28 "Nestedfare$Product" "last" "I", Cond.instanceMethod yX2_protectedAgainst, Cond.selects RX2 yX2_protectedAgainst yX2_protectedAgainst, Cond.code yX2_protectedAgainst cX2_protectedAgainst 8 (some .int), Cond.fieldLink RX2 9 "Nestedfare$Product" "daysByAsked" "[I", Cond.fieldLink RX2 31 "Nestedfare$Product" "fare" "I"]
def wsX5_isProtected : List Cond := .code yX5_isProtected cX5_isProtected 3 (some .boolean) :: ((wsX5_isProtected_r1 ++ wsX5_isProtected_r2) ++ wsX20 ++ wsX50 ++ wsX00)
def wsX5_leftOn_r1 : List Cond := [Cond.methodLink RX5 231 Lib.Math.max.name, Cond.static Lib.Math.max.name, Cond.initialized "java/lang/Math", Cond.code Lib.Math.max.name Lib.Math.max.code 2 (some .int), Cond.methodLink RX5 225 yX5_seatsOf, Cond.instanceMethod yX5_seatsOf, Cond.selects RX5 yX5_seatsOf yX5_seatsOf, Cond.initialized RX5, Cond.code yX5_seatsOf cX5_seatsOf 2 (some .int), Cond.fieldLink RX5 9 "Nestedfare" "seats" "[I", Cond.methodLink RX5 191 yX5_bookedOn, Cond.instanceMethod yX5_bookedOn, Cond.selects RX5 yX5_bookedOn yX5_bookedOn, Cond.code yX5_bookedOn cX5_bookedOn 5 (some .int), Cond.fieldLink RX5 46 "Nestedfare" "bookingCount" "I", Cond.methodLink RX5 165 yX5_bookingAt, Cond.instanceMethod yX5_bookingAt, Cond.selects RX5 yX5_bookingAt yX5_bookingAt, Cond.code yX5_bookingAt cX5_bookingAt 2 (some (.object "Nestedfare$Booking")), Cond.fieldLink RX5 24 "Nestedfare" "bookings" "[LNestedfare$Booking;", Cond.instanceMethod yX0_seatsOn, Cond.initialized RX0, Cond.selects RX0 yX0_seatsOn yX0_seatsOn, Cond.code yX0_seatsOn cX0_seatsOn 2 (some .int)]
def wsX5_leftOn_r2 : List Cond := [Cond.fieldLink RX0 7 "Nestedfare$Booking" "cancelled" "Z", Cond.fieldLink RX0 13 "Nestedfare$Booking" "first" "I", Cond.fieldLink RX0 17 "Nestedfare$Booking" "last" "I", Cond.fieldLink RX0 20 "Nestedfare$Booking" "seats" "I"]
def wsX5_leftOn : List Cond := .code yX5_leftOn cX5_leftOn 2 (some .int) :: ((wsX5_leftOn_r1 ++ wsX5_leftOn_r2) ++ wsX50 ++ wsX00)
def wsX5_worthWithMore_r1 : List Cond := [Cond.fieldLink RX5 31 "Nestedfare" "demand" "LNestedfare$Demand;", Cond.fieldLink RX5 19 "Nestedfare" "dearestFirst" "[LNestedfare$Product;", Cond.instanceMethod yX1_clear, Cond.initialized RX1, Cond.selects RX1 yX1_clear yX1_clear, Cond.code yX1_clear cX1_clear 1 none, Cond.fieldLink RX1 10 "Nestedfare$Demand" "leg0" "LNestedfare$Queue;", Cond.fieldLink RX1 16 "Nestedfare$Demand" "leg1" "LNestedfare$Queue;", Cond.fieldLink RX1 19 "Nestedfare$Demand" "leg2" "LNestedfare$Queue;", Cond.fieldLink RX1 22 "Nestedfare$Demand" "legs01" "LNestedfare$Queue;", Cond.fieldLink RX1 25 "Nestedfare$Demand" "legs12" "LNestedfare$Queue;", Cond.fieldLink RX1 28 "Nestedfare$Demand" "legs012" "LNestedfare$Queue;", Cond.instanceMethod yX1_add, Cond.selects RX1 yX1_add yX1_add, Cond.code yX1_add cX1_add 2 none, Cond.methodLink RX1 43 yX1_queueOf, Cond.instanceMethod yX1_queueOf, Cond.selects RX1 yX1_queueOf yX1_queueOf, Cond.code yX1_queueOf cX1_queueOf 3 (some (.object "Nestedfare$Queue")), Cond.instanceMethod yX2_toCome, Cond.initialized RX2, Cond.selects RX2 yX2_toCome yX2_toCome, Cond.code yX2_toCome cX2_toCome 1 (some .int), Cond.fieldLink RX2 15 "Nestedfare$Product" "expectedToday" "I"]
def wsX5_worthWithMore_r2 : List Cond := [Cond.fieldLink RX2 19 "Nestedfare$Product" "askedToday" "I", Cond.methodLink RX2 34 Lib.Math.max.name, Cond.static Lib.Math.max.name, Cond.initialized "java/lang/Math", Cond.code Lib.Math.max.name Lib.Math.max.code 2 (some .int), Cond.instanceMethod yX3_add, Cond.initialized RX3, Cond.selects RX3 yX3_add yX3_add, Cond.code yX3_add cX3_add 4 none, Cond.fieldLink RX3 15 "Nestedfare$Queue" "length" "I", Cond.fieldLink RX3 9 "Nestedfare$Queue" "sums" "[I", Cond.methodLink RX5 205 yX5_leftOn, Cond.instanceMethod yX5_leftOn, Cond.selects RX5 yX5_leftOn yX5_leftOn, Cond.initialized RX5, Cond.code yX5_leftOn cX5_leftOn 2 (some .int), Cond.methodLink RX5 231 Lib.Math.max.name, Cond.methodLink RX5 225 yX5_seatsOf, Cond.instanceMethod yX5_seatsOf, Cond.selects RX5 yX5_seatsOf yX5_seatsOf, Cond.code yX5_seatsOf cX5_seatsOf 2 (some .int), Cond.fieldLink RX5 9 "Nestedfare" "seats" "[I", Cond.methodLink RX5 191 yX5_bookedOn, Cond.instanceMethod yX5_bookedOn]
def wsX5_worthWithMore_r3 : List Cond := [Cond.selects RX5 yX5_bookedOn yX5_bookedOn, Cond.code yX5_bookedOn cX5_bookedOn 5 (some .int), Cond.fieldLink RX5 46 "Nestedfare" "bookingCount" "I", Cond.methodLink RX5 165 yX5_bookingAt, Cond.instanceMethod yX5_bookingAt, Cond.selects RX5 yX5_bookingAt yX5_bookingAt, Cond.code yX5_bookingAt cX5_bookingAt 2 (some (.object "Nestedfare$Booking")), Cond.fieldLink RX5 24 "Nestedfare" "bookings" "[LNestedfare$Booking;", Cond.instanceMethod yX0_seatsOn, Cond.initialized RX0, Cond.selects RX0 yX0_seatsOn yX0_seatsOn, Cond.code yX0_seatsOn cX0_seatsOn 2 (some .int), Cond.fieldLink RX0 7 "Nestedfare$Booking" "cancelled" "Z", Cond.fieldLink RX0 13 "Nestedfare$Booking" "first" "I", Cond.fieldLink RX0 17 "Nestedfare$Booking" "last" "I", Cond.fieldLink RX0 20 "Nestedfare$Booking" "seats" "I", Cond.methodLink RX5 68 yX5_within, Cond.static yX5_within, Cond.code yX5_within cX5_within 3 (some .boolean), Cond.instanceMethod yX1_mostFor, Cond.selects RX1 yX1_mostFor yX1_mostFor, Cond.code yX1_mostFor cX1_mostFor 7 (some .int), Cond.methodLink RX1 58 Lib.Math.min.name, Cond.static Lib.Math.min.name]
def wsX5_worthWithMore_r4 : List Cond := [Cond.code Lib.Math.min.name Lib.Math.min.code 2 (some .int), Cond.methodLink RX1 72 Lib.Math.max.name, Cond.instanceMethod yX3_mostFor, Cond.selects RX3 yX3_mostFor yX3_mostFor, Cond.code yX3_mostFor cX3_mostFor 3 (some .int), Cond.methodLink RX1 68 yX1_mostOfShorter, Cond.instanceMethod yX1_mostOfShorter, Cond.selects RX1 yX1_mostOfShorter yX1_mostOfShorter, Cond.code yX1_mostOfShorter cX1_mostOfShorter 8 (some .int), Cond.methodLink RX1 75 yX1_mostBehind, Cond.instanceMethod yX1_mostBehind, Cond.selects RX1 yX1_mostBehind yX1_mostBehind, Cond.code yX1_mostBehind cX1_mostBehind 6 (some .int)]
def wsX5_worthWithMore : List Cond := .code yX5_worthWithMore cX5_worthWithMore 8 (some .int) :: ((wsX5_worthWithMore_r1 ++ (wsX5_worthWithMore_r2 ++ (wsX5_worthWithMore_r3 ++ wsX5_worthWithMore_r4))) ++ wsX50 ++ wsX10 ++ wsX30 ++ wsX20 ++ wsX00)
def wsX5_bidsOver_r1 : List Cond := [Cond.methodLink RX5 202 yX5_worthWithMore, Cond.instanceMethod yX5_worthWithMore, Cond.selects RX5 yX5_worthWithMore yX5_worthWithMore, Cond.initialized RX5, Cond.code yX5_worthWithMore cX5_worthWithMore 8 (some .int), Cond.fieldLink RX5 31 "Nestedfare" "demand" "LNestedfare$Demand;", Cond.fieldLink RX5 19 "Nestedfare" "dearestFirst" "[LNestedfare$Product;", Cond.instanceMethod yX1_clear, Cond.initialized RX1, Cond.selects RX1 yX1_clear yX1_clear, Cond.code yX1_clear cX1_clear 1 none, Cond.fieldLink RX1 10 "Nestedfare$Demand" "leg0" "LNestedfare$Queue;", Cond.fieldLink RX1 16 "Nestedfare$Demand" "leg1" "LNestedfare$Queue;", Cond.fieldLink RX1 19 "Nestedfare$Demand" "leg2" "LNestedfare$Queue;", Cond.fieldLink RX1 22 "Nestedfare$Demand" "legs01" "LNestedfare$Queue;", Cond.fieldLink RX1 25 "Nestedfare$Demand" "legs12" "LNestedfare$Queue;", Cond.fieldLink RX1 28 "Nestedfare$Demand" "legs012" "LNestedfare$Queue;", Cond.instanceMethod yX1_add, Cond.selects RX1 yX1_add yX1_add, Cond.code yX1_add cX1_add 2 none, Cond.methodLink RX1 43 yX1_queueOf, Cond.instanceMethod yX1_queueOf, Cond.selects RX1 yX1_queueOf yX1_queueOf, Cond.code yX1_queueOf cX1_queueOf 3 (some (.object "Nestedfare$Queue"))]
def wsX5_bidsOver_r2 : List Cond := [Cond.instanceMethod yX2_toCome, Cond.initialized RX2, Cond.selects RX2 yX2_toCome yX2_toCome, Cond.code yX2_toCome cX2_toCome 1 (some .int), Cond.fieldLink RX2 15 "Nestedfare$Product" "expectedToday" "I", Cond.fieldLink RX2 19 "Nestedfare$Product" "askedToday" "I", Cond.methodLink RX2 34 Lib.Math.max.name, Cond.static Lib.Math.max.name, Cond.initialized "java/lang/Math", Cond.code Lib.Math.max.name Lib.Math.max.code 2 (some .int), Cond.instanceMethod yX3_add, Cond.initialized RX3, Cond.selects RX3 yX3_add yX3_add, Cond.code yX3_add cX3_add 4 none, Cond.fieldLink RX3 15 "Nestedfare$Queue" "length" "I", Cond.fieldLink RX3 9 "Nestedfare$Queue" "sums" "[I", Cond.methodLink RX5 205 yX5_leftOn, Cond.instanceMethod yX5_leftOn, Cond.selects RX5 yX5_leftOn yX5_leftOn, Cond.code yX5_leftOn cX5_leftOn 2 (some .int), Cond.methodLink RX5 231 Lib.Math.max.name, Cond.methodLink RX5 225 yX5_seatsOf, Cond.instanceMethod yX5_seatsOf, Cond.selects RX5 yX5_seatsOf yX5_seatsOf]
def wsX5_bidsOver_r3 : List Cond := [Cond.code yX5_seatsOf cX5_seatsOf 2 (some .int), Cond.fieldLink RX5 9 "Nestedfare" "seats" "[I", Cond.methodLink RX5 191 yX5_bookedOn, Cond.instanceMethod yX5_bookedOn, Cond.selects RX5 yX5_bookedOn yX5_bookedOn, Cond.code yX5_bookedOn cX5_bookedOn 5 (some .int), Cond.fieldLink RX5 46 "Nestedfare" "bookingCount" "I", Cond.methodLink RX5 165 yX5_bookingAt, Cond.instanceMethod yX5_bookingAt, Cond.selects RX5 yX5_bookingAt yX5_bookingAt, Cond.code yX5_bookingAt cX5_bookingAt 2 (some (.object "Nestedfare$Booking")), Cond.fieldLink RX5 24 "Nestedfare" "bookings" "[LNestedfare$Booking;", Cond.instanceMethod yX0_seatsOn, Cond.initialized RX0, Cond.selects RX0 yX0_seatsOn yX0_seatsOn, Cond.code yX0_seatsOn cX0_seatsOn 2 (some .int), Cond.fieldLink RX0 7 "Nestedfare$Booking" "cancelled" "Z", Cond.fieldLink RX0 13 "Nestedfare$Booking" "first" "I", Cond.fieldLink RX0 17 "Nestedfare$Booking" "last" "I", Cond.fieldLink RX0 20 "Nestedfare$Booking" "seats" "I", Cond.methodLink RX5 68 yX5_within, Cond.static yX5_within, Cond.code yX5_within cX5_within 3 (some .boolean), Cond.instanceMethod yX1_mostFor]
def wsX5_bidsOver_r4 : List Cond := [Cond.selects RX1 yX1_mostFor yX1_mostFor, Cond.code yX1_mostFor cX1_mostFor 7 (some .int), Cond.methodLink RX1 58 Lib.Math.min.name, Cond.static Lib.Math.min.name, Cond.code Lib.Math.min.name Lib.Math.min.code 2 (some .int), Cond.methodLink RX1 72 Lib.Math.max.name, Cond.instanceMethod yX3_mostFor, Cond.selects RX3 yX3_mostFor yX3_mostFor, Cond.code yX3_mostFor cX3_mostFor 3 (some .int), Cond.methodLink RX1 68 yX1_mostOfShorter, Cond.instanceMethod yX1_mostOfShorter, Cond.selects RX1 yX1_mostOfShorter yX1_mostOfShorter, Cond.code yX1_mostOfShorter cX1_mostOfShorter 8 (some .int), Cond.methodLink RX1 75 yX1_mostBehind, Cond.instanceMethod yX1_mostBehind, Cond.selects RX1 yX1_mostBehind yX1_mostBehind, Cond.code yX1_mostBehind cX1_mostBehind 6 (some .int)]
def wsX5_bidsOver : List Cond := .code yX5_bidsOver cX5_bidsOver 6 (some .int) :: ((wsX5_bidsOver_r1 ++ (wsX5_bidsOver_r2 ++ (wsX5_bidsOver_r3 ++ wsX5_bidsOver_r4))) ++ wsX50 ++ wsX10 ++ wsX30 ++ wsX20 ++ wsX00)
def wsX5_enter : List Cond := .code yX5_enter cX5_enter 3 (some .int) :: ([.fieldLink RX5 46 "Nestedfare" "bookingCount" "I", .fieldLink RX5 24 "Nestedfare" "bookings" "[LNestedfare$Booking;"] ++ wsX50)
def wsX5_ask_r1 : List Cond := [Cond.classLink RX5 87 "java/lang/IndexOutOfBoundsException", Cond.initialized "java/lang/IndexOutOfBoundsException", Cond.classLink RX5 97 "java/lang/IllegalStateException", Cond.initialized "java/lang/IllegalStateException", Cond.fieldLink RX5 46 "Nestedfare" "bookingCount" "I", Cond.classLink RX5 22 RX0, Cond.instantiable RX0 5, Cond.initialized RX0, Cond.methodLink RX5 109 yX5_productAt, Cond.instanceMethod yX5_productAt, Cond.selects RX5 yX5_productAt yX5_productAt, Cond.initialized RX5, Cond.code yX5_productAt cX5_productAt 2 (some (.object "Nestedfare$Product")), Cond.fieldLink RX5 15 "Nestedfare" "offered" "[LNestedfare$Product;", Cond.methodLink RX5 127 yX5_isFull, Cond.instanceMethod yX5_isFull, Cond.selects RX5 yX5_isFull yX5_isFull, Cond.code yX5_isFull cX5_isFull 3 (some .boolean), Cond.methodLink RX5 191 yX5_bookedOn, Cond.instanceMethod yX5_bookedOn, Cond.selects RX5 yX5_bookedOn yX5_bookedOn, Cond.code yX5_bookedOn cX5_bookedOn 5 (some .int), Cond.methodLink RX5 165 yX5_bookingAt, Cond.instanceMethod yX5_bookingAt]
def wsX5_ask_r2 : List Cond := [Cond.selects RX5 yX5_bookingAt yX5_bookingAt, Cond.code yX5_bookingAt cX5_bookingAt 2 (some (.object "Nestedfare$Booking")), Cond.fieldLink RX5 24 "Nestedfare" "bookings" "[LNestedfare$Booking;", Cond.instanceMethod yX0_seatsOn, Cond.selects RX0 yX0_seatsOn yX0_seatsOn, Cond.code yX0_seatsOn cX0_seatsOn 2 (some .int), Cond.fieldLink RX0 7 "Nestedfare$Booking" "cancelled" "Z", Cond.fieldLink RX0 13 "Nestedfare$Booking" "first" "I", Cond.fieldLink RX0 17 "Nestedfare$Booking" "last" "I", Cond.fieldLink RX0 20 "Nestedfare$Booking" "seats" "I", Cond.methodLink RX5 194 yX5_authorisedOn, Cond.instanceMethod yX5_authorisedOn, Cond.selects RX5 yX5_authorisedOn yX5_authorisedOn, Cond.code yX5_authorisedOn cX5_authorisedOn 3 (some .int), Cond.fieldLink RX5 52 "Nestedfare" "showRate" "I", Cond.methodLink RX5 225 yX5_seatsOf, Cond.instanceMethod yX5_seatsOf, Cond.selects RX5 yX5_seatsOf yX5_seatsOf, Cond.code yX5_seatsOf cX5_seatsOf 2 (some .int), Cond.fieldLink RX5 9 "Nestedfare" "seats" "[I", Cond.methodLink RX5 131 yX5_refuse, Cond.instanceMethod yX5_refuse, Cond.selects RX5 yX5_refuse yX5_refuse, Cond.code yX5_refuse cX5_refuse 2 (some .int)]
def wsX5_ask_r3 : List Cond := [Cond.fieldLink RX5 55 "Nestedfare" "refusedFull" "I", Cond.fieldLink RX5 58 "Nestedfare" "refusedProtected" "I", Cond.fieldLink RX5 61 "Nestedfare" "refusedBelow" "I", Cond.methodLink RX5 135 yX5_isProtected, Cond.instanceMethod yX5_isProtected, Cond.selects RX5 yX5_isProtected yX5_isProtected, Cond.code yX5_isProtected cX5_isProtected 3 (some .boolean), Cond.methodLink RX5 199 yX5_protectedOn, Cond.instanceMethod yX5_protectedOn, Cond.selects RX5 yX5_protectedOn yX5_protectedOn, Cond.code yX5_protectedOn cX5_protectedOn 8 (some .int), Cond.fieldLink RX5 49 "Nestedfare" "pastDays" "I", Cond.instanceMethod yX2_covers, Cond.initialized RX2, Cond.selects RX2 yX2_covers yX2_covers, Cond.code yX2_covers cX2_covers 2 (some .boolean), Cond.fieldLink RX2 25 "Nestedfare$Product" "first" "I", Cond.fieldLink RX2 28 "Nestedfare$Product" "last" "I", Cond.instanceMethod yX2_protectedAgainst, Cond.selects RX2 yX2_protectedAgainst yX2_protectedAgainst, Cond.code yX2_protectedAgainst cX2_protectedAgainst 8 (some .int), Cond.fieldLink RX2 9 "Nestedfare$Product" "daysByAsked" "[I", Cond.fieldLink RX2 31 "Nestedfare$Product" "fare" "I", Cond.methodLink RX5 147 yX5_bidsOver]
def wsX5_ask_r4 : List Cond := [Cond.instanceMethod yX5_bidsOver, Cond.selects RX5 yX5_bidsOver yX5_bidsOver, Cond.code yX5_bidsOver cX5_bidsOver 6 (some .int), Cond.methodLink RX5 202 yX5_worthWithMore, Cond.instanceMethod yX5_worthWithMore, Cond.selects RX5 yX5_worthWithMore yX5_worthWithMore, Cond.code yX5_worthWithMore cX5_worthWithMore 8 (some .int), Cond.fieldLink RX5 31 "Nestedfare" "demand" "LNestedfare$Demand;", Cond.fieldLink RX5 19 "Nestedfare" "dearestFirst" "[LNestedfare$Product;", Cond.instanceMethod yX1_clear, Cond.initialized RX1, Cond.selects RX1 yX1_clear yX1_clear, Cond.code yX1_clear cX1_clear 1 none, Cond.fieldLink RX1 10 "Nestedfare$Demand" "leg0" "LNestedfare$Queue;", Cond.fieldLink RX1 16 "Nestedfare$Demand" "leg1" "LNestedfare$Queue;", Cond.fieldLink RX1 19 "Nestedfare$Demand" "leg2" "LNestedfare$Queue;", Cond.fieldLink RX1 22 "Nestedfare$Demand" "legs01" "LNestedfare$Queue;", Cond.fieldLink RX1 25 "Nestedfare$Demand" "legs12" "LNestedfare$Queue;", Cond.fieldLink RX1 28 "Nestedfare$Demand" "legs012" "LNestedfare$Queue;", Cond.instanceMethod yX1_add, Cond.selects RX1 yX1_add yX1_add, Cond.code yX1_add cX1_add 2 none, Cond.methodLink RX1 43 yX1_queueOf, Cond.instanceMethod yX1_queueOf]
def wsX5_ask_r5 : List Cond := [Cond.selects RX1 yX1_queueOf yX1_queueOf, Cond.code yX1_queueOf cX1_queueOf 3 (some (.object "Nestedfare$Queue")), Cond.instanceMethod yX2_toCome, Cond.selects RX2 yX2_toCome yX2_toCome, Cond.code yX2_toCome cX2_toCome 1 (some .int), Cond.fieldLink RX2 15 "Nestedfare$Product" "expectedToday" "I", Cond.fieldLink RX2 19 "Nestedfare$Product" "askedToday" "I", Cond.methodLink RX2 34 Lib.Math.max.name, Cond.static Lib.Math.max.name, Cond.initialized "java/lang/Math", Cond.code Lib.Math.max.name Lib.Math.max.code 2 (some .int), Cond.instanceMethod yX3_add, Cond.initialized RX3, Cond.selects RX3 yX3_add yX3_add, Cond.code yX3_add cX3_add 4 none, Cond.fieldLink RX3 15 "Nestedfare$Queue" "length" "I", Cond.fieldLink RX3 9 "Nestedfare$Queue" "sums" "[I", Cond.methodLink RX5 205 yX5_leftOn, Cond.instanceMethod yX5_leftOn, Cond.selects RX5 yX5_leftOn yX5_leftOn, Cond.code yX5_leftOn cX5_leftOn 2 (some .int), Cond.methodLink RX5 231 Lib.Math.max.name, Cond.methodLink RX5 68 yX5_within, Cond.static yX5_within]
def wsX5_ask_r6 : List Cond := [Cond.code yX5_within cX5_within 3 (some .boolean), Cond.instanceMethod yX1_mostFor, Cond.selects RX1 yX1_mostFor yX1_mostFor, Cond.code yX1_mostFor cX1_mostFor 7 (some .int), Cond.methodLink RX1 58 Lib.Math.min.name, Cond.static Lib.Math.min.name, Cond.code Lib.Math.min.name Lib.Math.min.code 2 (some .int), Cond.methodLink RX1 72 Lib.Math.max.name, Cond.instanceMethod yX3_mostFor, Cond.selects RX3 yX3_mostFor yX3_mostFor, Cond.code yX3_mostFor cX3_mostFor 3 (some .int), Cond.methodLink RX1 68 yX1_mostOfShorter, Cond.instanceMethod yX1_mostOfShorter, Cond.selects RX1 yX1_mostOfShorter yX1_mostOfShorter, Cond.code yX1_mostOfShorter cX1_mostOfShorter 8 (some .int), Cond.methodLink RX1 75 yX1_mostBehind, Cond.instanceMethod yX1_mostBehind, Cond.selects RX1 yX1_mostBehind yX1_mostBehind, Cond.code yX1_mostBehind cX1_mostBehind 6 (some .int), Cond.instanceMethod yX0_init, Cond.code yX0_init cX0_init 5 none, Cond.methodLink RX0 1 objectInit, Cond.instanceMethod objectInit, Cond.code objectInit ⟨#[0xb1]⟩ 1 none]
def wsX5_ask_r7 : List Cond := [Cond.fieldLink RX0 23 "Nestedfare$Booking" "price" "I", Cond.methodLink RX5 152 yX5_enter, Cond.instanceMethod yX5_enter, Cond.selects RX5 yX5_enter yX5_enter, Cond.code yX5_enter cX5_enter 3 (some .int)]
def wsX5_ask : List Cond := .code yX5_ask cX5_ask 3 (some .int) :: ((wsX5_ask_r1 ++ (wsX5_ask_r2 ++ (wsX5_ask_r3 ++ (wsX5_ask_r4 ++ (wsX5_ask_r5 ++ (wsX5_ask_r6 ++ wsX5_ask_r7)))))) ++ wsX50 ++ wsX20 ++ wsX00 ++ wsX10 ++ wsX30 ++ (vx_atS RX5 91 "java/lang/IndexOutOfBoundsException" ["java/lang/RuntimeException", "java/lang/Exception"]).filter goodWord ++ (vx_atS RX5 101 "java/lang/IllegalStateException" ["java/lang/RuntimeException", "java/lang/Exception"]).filter goodWord)
def wsX5_hasLeft_r1 : List Cond := [Cond.methodLink RX5 205 yX5_leftOn, Cond.instanceMethod yX5_leftOn, Cond.selects RX5 yX5_leftOn yX5_leftOn, Cond.initialized RX5, Cond.code yX5_leftOn cX5_leftOn 2 (some .int), Cond.methodLink RX5 231 Lib.Math.max.name, Cond.static Lib.Math.max.name, Cond.initialized "java/lang/Math", Cond.code Lib.Math.max.name Lib.Math.max.code 2 (some .int), Cond.methodLink RX5 225 yX5_seatsOf, Cond.instanceMethod yX5_seatsOf, Cond.selects RX5 yX5_seatsOf yX5_seatsOf, Cond.code yX5_seatsOf cX5_seatsOf 2 (some .int), Cond.fieldLink RX5 9 "Nestedfare" "seats" "[I", Cond.methodLink RX5 191 yX5_bookedOn, Cond.instanceMethod yX5_bookedOn, Cond.selects RX5 yX5_bookedOn yX5_bookedOn, Cond.code yX5_bookedOn cX5_bookedOn 5 (some .int), Cond.fieldLink RX5 46 "Nestedfare" "bookingCount" "I", Cond.methodLink RX5 165 yX5_bookingAt, Cond.instanceMethod yX5_bookingAt, Cond.selects RX5 yX5_bookingAt yX5_bookingAt, Cond.code yX5_bookingAt cX5_bookingAt 2 (some (.object "Nestedfare$Booking")), Cond.fieldLink RX5 24 "Nestedfare" "bookings" "[LNestedfare$Booking;"]
def wsX5_hasLeft_r2 : List Cond := [Cond.instanceMethod yX0_seatsOn, Cond.initialized RX0, Cond.selects RX0 yX0_seatsOn yX0_seatsOn, Cond.code yX0_seatsOn cX0_seatsOn 2 (some .int), Cond.fieldLink RX0 7 "Nestedfare$Booking" "cancelled" "Z", Cond.fieldLink RX0 13 "Nestedfare$Booking" "first" "I", Cond.fieldLink RX0 17 "Nestedfare$Booking" "last" "I", Cond.fieldLink RX0 20 "Nestedfare$Booking" "seats" "I"]
def wsX5_hasLeft : List Cond := .code yX5_hasLeft cX5_hasLeft 5 (some .boolean) :: ((wsX5_hasLeft_r1 ++ wsX5_hasLeft_r2) ++ wsX50 ++ wsX00)
def wsX5_displacement_r1 : List Cond := [Cond.methodLink RX5 202 yX5_worthWithMore, Cond.instanceMethod yX5_worthWithMore, Cond.selects RX5 yX5_worthWithMore yX5_worthWithMore, Cond.initialized RX5, Cond.code yX5_worthWithMore cX5_worthWithMore 8 (some .int), Cond.fieldLink RX5 31 "Nestedfare" "demand" "LNestedfare$Demand;", Cond.fieldLink RX5 19 "Nestedfare" "dearestFirst" "[LNestedfare$Product;", Cond.instanceMethod yX1_clear, Cond.initialized RX1, Cond.selects RX1 yX1_clear yX1_clear, Cond.code yX1_clear cX1_clear 1 none, Cond.fieldLink RX1 10 "Nestedfare$Demand" "leg0" "LNestedfare$Queue;", Cond.fieldLink RX1 16 "Nestedfare$Demand" "leg1" "LNestedfare$Queue;", Cond.fieldLink RX1 19 "Nestedfare$Demand" "leg2" "LNestedfare$Queue;", Cond.fieldLink RX1 22 "Nestedfare$Demand" "legs01" "LNestedfare$Queue;", Cond.fieldLink RX1 25 "Nestedfare$Demand" "legs12" "LNestedfare$Queue;", Cond.fieldLink RX1 28 "Nestedfare$Demand" "legs012" "LNestedfare$Queue;", Cond.instanceMethod yX1_add, Cond.selects RX1 yX1_add yX1_add, Cond.code yX1_add cX1_add 2 none, Cond.methodLink RX1 43 yX1_queueOf, Cond.instanceMethod yX1_queueOf, Cond.selects RX1 yX1_queueOf yX1_queueOf, Cond.code yX1_queueOf cX1_queueOf 3 (some (.object "Nestedfare$Queue"))]
def wsX5_displacement_r2 : List Cond := [Cond.instanceMethod yX2_toCome, Cond.initialized RX2, Cond.selects RX2 yX2_toCome yX2_toCome, Cond.code yX2_toCome cX2_toCome 1 (some .int), Cond.fieldLink RX2 15 "Nestedfare$Product" "expectedToday" "I", Cond.fieldLink RX2 19 "Nestedfare$Product" "askedToday" "I", Cond.methodLink RX2 34 Lib.Math.max.name, Cond.static Lib.Math.max.name, Cond.initialized "java/lang/Math", Cond.code Lib.Math.max.name Lib.Math.max.code 2 (some .int), Cond.instanceMethod yX3_add, Cond.initialized RX3, Cond.selects RX3 yX3_add yX3_add, Cond.code yX3_add cX3_add 4 none, Cond.fieldLink RX3 15 "Nestedfare$Queue" "length" "I", Cond.fieldLink RX3 9 "Nestedfare$Queue" "sums" "[I", Cond.methodLink RX5 205 yX5_leftOn, Cond.instanceMethod yX5_leftOn, Cond.selects RX5 yX5_leftOn yX5_leftOn, Cond.code yX5_leftOn cX5_leftOn 2 (some .int), Cond.methodLink RX5 231 Lib.Math.max.name, Cond.methodLink RX5 225 yX5_seatsOf, Cond.instanceMethod yX5_seatsOf, Cond.selects RX5 yX5_seatsOf yX5_seatsOf]
def wsX5_displacement_r3 : List Cond := [Cond.code yX5_seatsOf cX5_seatsOf 2 (some .int), Cond.fieldLink RX5 9 "Nestedfare" "seats" "[I", Cond.methodLink RX5 191 yX5_bookedOn, Cond.instanceMethod yX5_bookedOn, Cond.selects RX5 yX5_bookedOn yX5_bookedOn, Cond.code yX5_bookedOn cX5_bookedOn 5 (some .int), Cond.fieldLink RX5 46 "Nestedfare" "bookingCount" "I", Cond.methodLink RX5 165 yX5_bookingAt, Cond.instanceMethod yX5_bookingAt, Cond.selects RX5 yX5_bookingAt yX5_bookingAt, Cond.code yX5_bookingAt cX5_bookingAt 2 (some (.object "Nestedfare$Booking")), Cond.fieldLink RX5 24 "Nestedfare" "bookings" "[LNestedfare$Booking;", Cond.instanceMethod yX0_seatsOn, Cond.initialized RX0, Cond.selects RX0 yX0_seatsOn yX0_seatsOn, Cond.code yX0_seatsOn cX0_seatsOn 2 (some .int), Cond.fieldLink RX0 7 "Nestedfare$Booking" "cancelled" "Z", Cond.fieldLink RX0 13 "Nestedfare$Booking" "first" "I", Cond.fieldLink RX0 17 "Nestedfare$Booking" "last" "I", Cond.fieldLink RX0 20 "Nestedfare$Booking" "seats" "I", Cond.methodLink RX5 68 yX5_within, Cond.static yX5_within, Cond.code yX5_within cX5_within 3 (some .boolean), Cond.instanceMethod yX1_mostFor]
def wsX5_displacement_r4 : List Cond := [Cond.selects RX1 yX1_mostFor yX1_mostFor, Cond.code yX1_mostFor cX1_mostFor 7 (some .int), Cond.methodLink RX1 58 Lib.Math.min.name, Cond.static Lib.Math.min.name, Cond.code Lib.Math.min.name Lib.Math.min.code 2 (some .int), Cond.methodLink RX1 72 Lib.Math.max.name, Cond.instanceMethod yX3_mostFor, Cond.selects RX3 yX3_mostFor yX3_mostFor, Cond.code yX3_mostFor cX3_mostFor 3 (some .int), Cond.methodLink RX1 68 yX1_mostOfShorter, Cond.instanceMethod yX1_mostOfShorter, Cond.selects RX1 yX1_mostOfShorter yX1_mostOfShorter, Cond.code yX1_mostOfShorter cX1_mostOfShorter 8 (some .int), Cond.methodLink RX1 75 yX1_mostBehind, Cond.instanceMethod yX1_mostBehind, Cond.selects RX1 yX1_mostBehind yX1_mostBehind, Cond.code yX1_mostBehind cX1_mostBehind 6 (some .int)]
def wsX5_displacement : List Cond := .code yX5_displacement cX5_displacement 4 (some .int) :: ((wsX5_displacement_r1 ++ (wsX5_displacement_r2 ++ (wsX5_displacement_r3 ++ wsX5_displacement_r4))) ++ wsX50 ++ wsX10 ++ wsX30 ++ wsX20 ++ wsX00)
def wsX5_group_r1 : List Cond := [Cond.classLink RX5 87 "java/lang/IndexOutOfBoundsException", Cond.initialized "java/lang/IndexOutOfBoundsException", Cond.classLink RX5 72 "java/lang/IllegalArgumentException", Cond.initialized "java/lang/IllegalArgumentException", Cond.classLink RX5 97 "java/lang/IllegalStateException", Cond.initialized "java/lang/IllegalStateException", Cond.fieldLink RX5 46 "Nestedfare" "bookingCount" "I", Cond.classLink RX5 22 RX0, Cond.instantiable RX0 5, Cond.initialized RX0, Cond.methodLink RX5 83 yX5_isLeg, Cond.static yX5_isLeg, Cond.initialized RX5, Cond.code yX5_isLeg cX5_isLeg 1 (some .boolean), Cond.methodLink RX5 68 yX5_within, Cond.static yX5_within, Cond.code yX5_within cX5_within 3 (some .boolean), Cond.methodLink RX5 158 yX5_hasLeft, Cond.instanceMethod yX5_hasLeft, Cond.selects RX5 yX5_hasLeft yX5_hasLeft, Cond.code yX5_hasLeft cX5_hasLeft 5 (some .boolean), Cond.methodLink RX5 205 yX5_leftOn, Cond.instanceMethod yX5_leftOn, Cond.selects RX5 yX5_leftOn yX5_leftOn]
def wsX5_group_r2 : List Cond := [Cond.code yX5_leftOn cX5_leftOn 2 (some .int), Cond.methodLink RX5 231 Lib.Math.max.name, Cond.static Lib.Math.max.name, Cond.initialized "java/lang/Math", Cond.code Lib.Math.max.name Lib.Math.max.code 2 (some .int), Cond.methodLink RX5 225 yX5_seatsOf, Cond.instanceMethod yX5_seatsOf, Cond.selects RX5 yX5_seatsOf yX5_seatsOf, Cond.code yX5_seatsOf cX5_seatsOf 2 (some .int), Cond.fieldLink RX5 9 "Nestedfare" "seats" "[I", Cond.methodLink RX5 191 yX5_bookedOn, Cond.instanceMethod yX5_bookedOn, Cond.selects RX5 yX5_bookedOn yX5_bookedOn, Cond.code yX5_bookedOn cX5_bookedOn 5 (some .int), Cond.methodLink RX5 165 yX5_bookingAt, Cond.instanceMethod yX5_bookingAt, Cond.selects RX5 yX5_bookingAt yX5_bookingAt, Cond.code yX5_bookingAt cX5_bookingAt 2 (some (.object "Nestedfare$Booking")), Cond.fieldLink RX5 24 "Nestedfare" "bookings" "[LNestedfare$Booking;", Cond.instanceMethod yX0_seatsOn, Cond.selects RX0 yX0_seatsOn yX0_seatsOn, Cond.code yX0_seatsOn cX0_seatsOn 2 (some .int), Cond.fieldLink RX0 7 "Nestedfare$Booking" "cancelled" "Z", Cond.fieldLink RX0 13 "Nestedfare$Booking" "first" "I"]
def wsX5_group_r3 : List Cond := [Cond.fieldLink RX0 17 "Nestedfare$Booking" "last" "I", Cond.fieldLink RX0 20 "Nestedfare$Booking" "seats" "I", Cond.methodLink RX5 131 yX5_refuse, Cond.instanceMethod yX5_refuse, Cond.selects RX5 yX5_refuse yX5_refuse, Cond.code yX5_refuse cX5_refuse 2 (some .int), Cond.fieldLink RX5 55 "Nestedfare" "refusedFull" "I", Cond.fieldLink RX5 58 "Nestedfare" "refusedProtected" "I", Cond.fieldLink RX5 61 "Nestedfare" "refusedBelow" "I", Cond.methodLink RX5 161 yX5_displacement, Cond.instanceMethod yX5_displacement, Cond.selects RX5 yX5_displacement yX5_displacement, Cond.code yX5_displacement cX5_displacement 4 (some .int), Cond.methodLink RX5 202 yX5_worthWithMore, Cond.instanceMethod yX5_worthWithMore, Cond.selects RX5 yX5_worthWithMore yX5_worthWithMore, Cond.code yX5_worthWithMore cX5_worthWithMore 8 (some .int), Cond.fieldLink RX5 31 "Nestedfare" "demand" "LNestedfare$Demand;", Cond.fieldLink RX5 19 "Nestedfare" "dearestFirst" "[LNestedfare$Product;", Cond.instanceMethod yX1_clear, Cond.initialized RX1, Cond.selects RX1 yX1_clear yX1_clear, Cond.code yX1_clear cX1_clear 1 none, Cond.fieldLink RX1 10 "Nestedfare$Demand" "leg0" "LNestedfare$Queue;"]
def wsX5_group_r4 : List Cond := [Cond.fieldLink RX1 16 "Nestedfare$Demand" "leg1" "LNestedfare$Queue;", Cond.fieldLink RX1 19 "Nestedfare$Demand" "leg2" "LNestedfare$Queue;", Cond.fieldLink RX1 22 "Nestedfare$Demand" "legs01" "LNestedfare$Queue;", Cond.fieldLink RX1 25 "Nestedfare$Demand" "legs12" "LNestedfare$Queue;", Cond.fieldLink RX1 28 "Nestedfare$Demand" "legs012" "LNestedfare$Queue;", Cond.instanceMethod yX1_add, Cond.selects RX1 yX1_add yX1_add, Cond.code yX1_add cX1_add 2 none, Cond.methodLink RX1 43 yX1_queueOf, Cond.instanceMethod yX1_queueOf, Cond.selects RX1 yX1_queueOf yX1_queueOf, Cond.code yX1_queueOf cX1_queueOf 3 (some (.object "Nestedfare$Queue")), Cond.instanceMethod yX2_toCome, Cond.initialized RX2, Cond.selects RX2 yX2_toCome yX2_toCome, Cond.code yX2_toCome cX2_toCome 1 (some .int), Cond.fieldLink RX2 15 "Nestedfare$Product" "expectedToday" "I", Cond.fieldLink RX2 19 "Nestedfare$Product" "askedToday" "I", Cond.methodLink RX2 34 Lib.Math.max.name, Cond.instanceMethod yX3_add, Cond.initialized RX3, Cond.selects RX3 yX3_add yX3_add, Cond.code yX3_add cX3_add 4 none, Cond.fieldLink RX3 15 "Nestedfare$Queue" "length" "I"]
def wsX5_group_r5 : List Cond := [Cond.fieldLink RX3 9 "Nestedfare$Queue" "sums" "[I", Cond.instanceMethod yX1_mostFor, Cond.selects RX1 yX1_mostFor yX1_mostFor, Cond.code yX1_mostFor cX1_mostFor 7 (some .int), Cond.methodLink RX1 58 Lib.Math.min.name, Cond.static Lib.Math.min.name, Cond.code Lib.Math.min.name Lib.Math.min.code 2 (some .int), Cond.methodLink RX1 72 Lib.Math.max.name, Cond.instanceMethod yX3_mostFor, Cond.selects RX3 yX3_mostFor yX3_mostFor, Cond.code yX3_mostFor cX3_mostFor 3 (some .int), Cond.methodLink RX1 68 yX1_mostOfShorter, Cond.instanceMethod yX1_mostOfShorter, Cond.selects RX1 yX1_mostOfShorter yX1_mostOfShorter, Cond.code yX1_mostOfShorter cX1_mostOfShorter 8 (some .int), Cond.methodLink RX1 75 yX1_mostBehind, Cond.instanceMethod yX1_mostBehind, Cond.selects RX1 yX1_mostBehind yX1_mostBehind, Cond.code yX1_mostBehind cX1_mostBehind 6 (some .int), Cond.instanceMethod yX0_init, Cond.code yX0_init cX0_init 5 none, Cond.methodLink RX0 1 objectInit, Cond.instanceMethod objectInit, Cond.code objectInit ⟨#[0xb1]⟩ 1 none]
def wsX5_group_r6 : List Cond := [Cond.fieldLink RX0 23 "Nestedfare$Booking" "price" "I", Cond.methodLink RX5 152 yX5_enter, Cond.instanceMethod yX5_enter, Cond.selects RX5 yX5_enter yX5_enter, Cond.code yX5_enter cX5_enter 3 (some .int)]
def wsX5_group : List Cond := .code yX5_group cX5_group 6 (some .int) :: ((wsX5_group_r1 ++ (wsX5_group_r2 ++ (wsX5_group_r3 ++ (wsX5_group_r4 ++ (wsX5_group_r5 ++ wsX5_group_r6))))) ++ wsX50 ++ wsX00 ++ wsX10 ++ wsX30 ++ wsX20 ++ (vx_atS RX5 91 "java/lang/IndexOutOfBoundsException" ["java/lang/RuntimeException", "java/lang/Exception"]).filter goodWord ++ (vx_atS RX5 76 "java/lang/IllegalArgumentException" ["java/lang/RuntimeException", "java/lang/Exception"]).filter goodWord ++ (vx_atS RX5 101 "java/lang/IllegalStateException" ["java/lang/RuntimeException", "java/lang/Exception"]).filter goodWord)
def wsX5_cancel : List Cond := .code yX5_cancel cX5_cancel 3 (some .int) :: ([.classLink RX5 87 "java/lang/IndexOutOfBoundsException", .initialized "java/lang/IndexOutOfBoundsException", .classLink RX5 97 "java/lang/IllegalStateException", .initialized "java/lang/IllegalStateException", .methodLink RX5 165 yX5_bookingAt, .instanceMethod yX5_bookingAt, .selects RX5 yX5_bookingAt yX5_bookingAt, .initialized RX5, .code yX5_bookingAt cX5_bookingAt 2 (some (.object "Nestedfare$Booking")), .fieldLink RX5 46 "Nestedfare" "bookingCount" "I", .fieldLink RX5 24 "Nestedfare" "bookings" "[LNestedfare$Booking;"] ++ wsX00 ++ wsX50 ++ (vx_atS RX5 91 "java/lang/IndexOutOfBoundsException" ["java/lang/RuntimeException", "java/lang/Exception"]).filter goodWord ++ (vx_atS RX5 101 "java/lang/IllegalStateException" ["java/lang/RuntimeException", "java/lang/Exception"]).filter goodWord)
def wsX5_deniedOn_r1 : List Cond := [Cond.methodLink RX5 231 Lib.Math.max.name, Cond.static Lib.Math.max.name, Cond.initialized "java/lang/Math", Cond.code Lib.Math.max.name Lib.Math.max.code 2 (some .int), Cond.methodLink RX5 191 yX5_bookedOn, Cond.instanceMethod yX5_bookedOn, Cond.selects RX5 yX5_bookedOn yX5_bookedOn, Cond.initialized RX5, Cond.code yX5_bookedOn cX5_bookedOn 5 (some .int), Cond.fieldLink RX5 46 "Nestedfare" "bookingCount" "I", Cond.methodLink RX5 165 yX5_bookingAt, Cond.instanceMethod yX5_bookingAt, Cond.selects RX5 yX5_bookingAt yX5_bookingAt, Cond.code yX5_bookingAt cX5_bookingAt 2 (some (.object "Nestedfare$Booking")), Cond.fieldLink RX5 24 "Nestedfare" "bookings" "[LNestedfare$Booking;", Cond.instanceMethod yX0_seatsOn, Cond.initialized RX0, Cond.selects RX0 yX0_seatsOn yX0_seatsOn, Cond.code yX0_seatsOn cX0_seatsOn 2 (some .int), Cond.fieldLink RX0 7 "Nestedfare$Booking" "cancelled" "Z", Cond.fieldLink RX0 13 "Nestedfare$Booking" "first" "I", Cond.fieldLink RX0 17 "Nestedfare$Booking" "last" "I", Cond.fieldLink RX0 20 "Nestedfare$Booking" "seats" "I", Cond.methodLink RX5 225 yX5_seatsOf]
def wsX5_deniedOn_r2 : List Cond := [Cond.instanceMethod yX5_seatsOf, Cond.selects RX5 yX5_seatsOf yX5_seatsOf, Cond.code yX5_seatsOf cX5_seatsOf 2 (some .int), Cond.fieldLink RX5 9 "Nestedfare" "seats" "[I"]
def wsX5_deniedOn : List Cond := .code yX5_deniedOn cX5_deniedOn 4 (some .int) :: ((wsX5_deniedOn_r1 ++ wsX5_deniedOn_r2) ++ wsX50 ++ wsX00)
def wsX5_faresOfToday : List Cond := .code yX5_faresOfToday cX5_faresOfToday 4 (some .int) :: ([.fieldLink RX5 46 "Nestedfare" "bookingCount" "I", .methodLink RX5 165 yX5_bookingAt, .instanceMethod yX5_bookingAt, .selects RX5 yX5_bookingAt yX5_bookingAt, .initialized RX5, .code yX5_bookingAt cX5_bookingAt 2 (some (.object "Nestedfare$Booking")), .fieldLink RX5 24 "Nestedfare" "bookings" "[LNestedfare$Booking;"] ++ wsX50 ++ wsX00)
def wsX5_learn : List Cond := .code yX5_learn cX5_learn 5 none :: ([.fieldLink RX5 49 "Nestedfare" "pastDays" "I", .fieldLink RX5 15 "Nestedfare" "offered" "[LNestedfare$Product;", .instanceMethod yX2_learn, .initialized RX2, .selects RX2 yX2_learn yX2_learn, .code yX2_learn cX2_learn 3 none, .fieldLink RX2 19 "Nestedfare$Product" "askedToday" "I", .methodLink RX2 40 Lib.Math.min.name, .static Lib.Math.min.name, .initialized "java/lang/Math", .code Lib.Math.min.name Lib.Math.min.code 2 (some .int), .fieldLink RX2 9 "Nestedfare$Product" "daysByAsked" "[I", .fieldLink RX2 22 "Nestedfare$Product" "askedBefore" "I", .fieldLink RX2 15 "Nestedfare$Product" "expectedToday" "I"] ++ wsX50 ++ wsX20)
def wsX5_endDay_r1 : List Cond := [Cond.classLink RX5 72 "java/lang/IllegalArgumentException", Cond.initialized "java/lang/IllegalArgumentException", Cond.fieldLink RX5 64 "Nestedfare" "earnedBefore" "J", Cond.fieldLink RX5 46 "Nestedfare" "bookingCount" "I", Cond.methodLink RX5 68 yX5_within, Cond.static yX5_within, Cond.initialized RX5, Cond.code yX5_within cX5_within 3 (some .boolean), Cond.methodLink RX5 181 yX5_deniedOn, Cond.instanceMethod yX5_deniedOn, Cond.selects RX5 yX5_deniedOn yX5_deniedOn, Cond.code yX5_deniedOn cX5_deniedOn 4 (some .int), Cond.methodLink RX5 231 Lib.Math.max.name, Cond.static Lib.Math.max.name, Cond.initialized "java/lang/Math", Cond.code Lib.Math.max.name Lib.Math.max.code 2 (some .int), Cond.methodLink RX5 191 yX5_bookedOn, Cond.instanceMethod yX5_bookedOn, Cond.selects RX5 yX5_bookedOn yX5_bookedOn, Cond.code yX5_bookedOn cX5_bookedOn 5 (some .int), Cond.methodLink RX5 165 yX5_bookingAt, Cond.instanceMethod yX5_bookingAt, Cond.selects RX5 yX5_bookingAt yX5_bookingAt, Cond.code yX5_bookingAt cX5_bookingAt 2 (some (.object "Nestedfare$Booking"))]
def wsX5_endDay_r2 : List Cond := [Cond.fieldLink RX5 24 "Nestedfare" "bookings" "[LNestedfare$Booking;", Cond.instanceMethod yX0_seatsOn, Cond.initialized RX0, Cond.selects RX0 yX0_seatsOn yX0_seatsOn, Cond.code yX0_seatsOn cX0_seatsOn 2 (some .int), Cond.fieldLink RX0 7 "Nestedfare$Booking" "cancelled" "Z", Cond.fieldLink RX0 13 "Nestedfare$Booking" "first" "I", Cond.fieldLink RX0 17 "Nestedfare$Booking" "last" "I", Cond.fieldLink RX0 20 "Nestedfare$Booking" "seats" "I", Cond.methodLink RX5 225 yX5_seatsOf, Cond.instanceMethod yX5_seatsOf, Cond.selects RX5 yX5_seatsOf yX5_seatsOf, Cond.code yX5_seatsOf cX5_seatsOf 2 (some .int), Cond.fieldLink RX5 9 "Nestedfare" "seats" "[I", Cond.methodLink RX5 184 yX5_faresOfToday, Cond.instanceMethod yX5_faresOfToday, Cond.selects RX5 yX5_faresOfToday yX5_faresOfToday, Cond.code yX5_faresOfToday cX5_faresOfToday 4 (some .int), Cond.methodLink RX5 188 yX5_learn, Cond.instanceMethod yX5_learn, Cond.selects RX5 yX5_learn yX5_learn, Cond.code yX5_learn cX5_learn 5 none, Cond.fieldLink RX5 49 "Nestedfare" "pastDays" "I", Cond.fieldLink RX5 15 "Nestedfare" "offered" "[LNestedfare$Product;"]
def wsX5_endDay_r3 : List Cond := [Cond.instanceMethod yX2_learn, Cond.initialized RX2, Cond.selects RX2 yX2_learn yX2_learn, Cond.code yX2_learn cX2_learn 3 none, Cond.fieldLink RX2 19 "Nestedfare$Product" "askedToday" "I", Cond.methodLink RX2 40 Lib.Math.min.name, Cond.static Lib.Math.min.name, Cond.code Lib.Math.min.name Lib.Math.min.code 2 (some .int), Cond.fieldLink RX2 9 "Nestedfare$Product" "daysByAsked" "[I", Cond.fieldLink RX2 22 "Nestedfare$Product" "askedBefore" "I", Cond.fieldLink RX2 15 "Nestedfare$Product" "expectedToday" "I"]
def wsX5_endDay : List Cond := .code yX5_endDay cX5_endDay 4 (some .int) :: ((wsX5_endDay_r1 ++ (wsX5_endDay_r2 ++ wsX5_endDay_r3)) ++ wsX50 ++ wsX00 ++ wsX20 ++ (vx_atS RX5 76 "java/lang/IllegalArgumentException" ["java/lang/RuntimeException", "java/lang/Exception"]).filter goodWord)
def wsX5_products : List Cond := .code yX5_products cX5_products 1 (some .int) :: ([.fieldLink RX5 42 "Nestedfare" "offeredCount" "I"] ++ wsX50)
def wsX5_days : List Cond := .code yX5_days cX5_days 1 (some .int) :: ([.fieldLink RX5 49 "Nestedfare" "pastDays" "I"] ++ wsX50)
def wsX5_booked_r1 : List Cond := [Cond.classLink RX5 87 "java/lang/IndexOutOfBoundsException", Cond.initialized "java/lang/IndexOutOfBoundsException", Cond.methodLink RX5 83 yX5_isLeg, Cond.static yX5_isLeg, Cond.initialized RX5, Cond.code yX5_isLeg cX5_isLeg 1 (some .boolean), Cond.methodLink RX5 68 yX5_within, Cond.static yX5_within, Cond.code yX5_within cX5_within 3 (some .boolean), Cond.methodLink RX5 191 yX5_bookedOn, Cond.instanceMethod yX5_bookedOn, Cond.selects RX5 yX5_bookedOn yX5_bookedOn, Cond.code yX5_bookedOn cX5_bookedOn 5 (some .int), Cond.fieldLink RX5 46 "Nestedfare" "bookingCount" "I", Cond.methodLink RX5 165 yX5_bookingAt, Cond.instanceMethod yX5_bookingAt, Cond.selects RX5 yX5_bookingAt yX5_bookingAt, Cond.code yX5_bookingAt cX5_bookingAt 2 (some (.object "Nestedfare$Booking")), Cond.fieldLink RX5 24 "Nestedfare" "bookings" "[LNestedfare$Booking;", Cond.instanceMethod yX0_seatsOn, Cond.initialized RX0, Cond.selects RX0 yX0_seatsOn yX0_seatsOn, Cond.code yX0_seatsOn cX0_seatsOn 2 (some .int), Cond.fieldLink RX0 7 "Nestedfare$Booking" "cancelled" "Z"]
def wsX5_booked_r2 : List Cond := [Cond.fieldLink RX0 13 "Nestedfare$Booking" "first" "I", Cond.fieldLink RX0 17 "Nestedfare$Booking" "last" "I", Cond.fieldLink RX0 20 "Nestedfare$Booking" "seats" "I"]
def wsX5_booked : List Cond := .code yX5_booked cX5_booked 2 (some .int) :: ((wsX5_booked_r1 ++ wsX5_booked_r2) ++ wsX50 ++ wsX00 ++ (vx_atS RX5 91 "java/lang/IndexOutOfBoundsException" ["java/lang/RuntimeException", "java/lang/Exception"]).filter goodWord)
def wsX5_authorised : List Cond := .code yX5_authorised cX5_authorised 2 (some .int) :: ([.classLink RX5 87 "java/lang/IndexOutOfBoundsException", .initialized "java/lang/IndexOutOfBoundsException", .methodLink RX5 83 yX5_isLeg, .static yX5_isLeg, .initialized RX5, .code yX5_isLeg cX5_isLeg 1 (some .boolean), .methodLink RX5 68 yX5_within, .static yX5_within, .code yX5_within cX5_within 3 (some .boolean), .methodLink RX5 194 yX5_authorisedOn, .instanceMethod yX5_authorisedOn, .selects RX5 yX5_authorisedOn yX5_authorisedOn, .code yX5_authorisedOn cX5_authorisedOn 3 (some .int), .fieldLink RX5 52 "Nestedfare" "showRate" "I", .methodLink RX5 225 yX5_seatsOf, .instanceMethod yX5_seatsOf, .selects RX5 yX5_seatsOf yX5_seatsOf, .code yX5_seatsOf cX5_seatsOf 2 (some .int), .fieldLink RX5 9 "Nestedfare" "seats" "[I"] ++ wsX50 ++ (vx_atS RX5 91 "java/lang/IndexOutOfBoundsException" ["java/lang/RuntimeException", "java/lang/Exception"]).filter goodWord)
def wsX5_protectedSeats_r1 : List Cond := [Cond.classLink RX5 87 "java/lang/IndexOutOfBoundsException", Cond.initialized "java/lang/IndexOutOfBoundsException", Cond.classLink RX5 72 "java/lang/IllegalArgumentException", Cond.initialized "java/lang/IllegalArgumentException", Cond.methodLink RX5 83 yX5_isLeg, Cond.static yX5_isLeg, Cond.initialized RX5, Cond.code yX5_isLeg cX5_isLeg 1 (some .boolean), Cond.methodLink RX5 68 yX5_within, Cond.static yX5_within, Cond.code yX5_within cX5_within 3 (some .boolean), Cond.methodLink RX5 199 yX5_protectedOn, Cond.instanceMethod yX5_protectedOn, Cond.selects RX5 yX5_protectedOn yX5_protectedOn, Cond.code yX5_protectedOn cX5_protectedOn 8 (some .int), Cond.fieldLink RX5 15 "Nestedfare" "offered" "[LNestedfare$Product;", Cond.fieldLink RX5 49 "Nestedfare" "pastDays" "I", Cond.instanceMethod yX2_covers, Cond.initialized RX2, Cond.selects RX2 yX2_covers yX2_covers, Cond.code yX2_covers cX2_covers 2 (some .boolean), Cond.fieldLink RX2 25 "Nestedfare$Product" "first" "I", Cond.fieldLink RX2 28 "Nestedfare$Product" "last" "I", Cond.instanceMethod yX2_protectedAgainst]
def wsX5_protectedSeats_r2 : List Cond := [Cond.selects RX2 yX2_protectedAgainst yX2_protectedAgainst, Cond.code yX2_protectedAgainst cX2_protectedAgainst 8 (some .int), Cond.fieldLink RX2 9 "Nestedfare$Product" "daysByAsked" "[I", Cond.fieldLink RX2 31 "Nestedfare$Product" "fare" "I"]
def wsX5_protectedSeats : List Cond := .code yX5_protectedSeats cX5_protectedSeats 3 (some .int) :: ((wsX5_protectedSeats_r1 ++ wsX5_protectedSeats_r2) ++ wsX50 ++ wsX20 ++ (vx_atS RX5 91 "java/lang/IndexOutOfBoundsException" ["java/lang/RuntimeException", "java/lang/Exception"]).filter goodWord ++ (vx_atS RX5 76 "java/lang/IllegalArgumentException" ["java/lang/RuntimeException", "java/lang/Exception"]).filter goodWord)
def wsX5_worth_r1 : List Cond := [Cond.methodLink RX5 202 yX5_worthWithMore, Cond.instanceMethod yX5_worthWithMore, Cond.selects RX5 yX5_worthWithMore yX5_worthWithMore, Cond.initialized RX5, Cond.code yX5_worthWithMore cX5_worthWithMore 8 (some .int), Cond.fieldLink RX5 31 "Nestedfare" "demand" "LNestedfare$Demand;", Cond.fieldLink RX5 19 "Nestedfare" "dearestFirst" "[LNestedfare$Product;", Cond.instanceMethod yX1_clear, Cond.initialized RX1, Cond.selects RX1 yX1_clear yX1_clear, Cond.code yX1_clear cX1_clear 1 none, Cond.fieldLink RX1 10 "Nestedfare$Demand" "leg0" "LNestedfare$Queue;", Cond.fieldLink RX1 16 "Nestedfare$Demand" "leg1" "LNestedfare$Queue;", Cond.fieldLink RX1 19 "Nestedfare$Demand" "leg2" "LNestedfare$Queue;", Cond.fieldLink RX1 22 "Nestedfare$Demand" "legs01" "LNestedfare$Queue;", Cond.fieldLink RX1 25 "Nestedfare$Demand" "legs12" "LNestedfare$Queue;", Cond.fieldLink RX1 28 "Nestedfare$Demand" "legs012" "LNestedfare$Queue;", Cond.instanceMethod yX1_add, Cond.selects RX1 yX1_add yX1_add, Cond.code yX1_add cX1_add 2 none, Cond.methodLink RX1 43 yX1_queueOf, Cond.instanceMethod yX1_queueOf, Cond.selects RX1 yX1_queueOf yX1_queueOf, Cond.code yX1_queueOf cX1_queueOf 3 (some (.object "Nestedfare$Queue"))]
def wsX5_worth_r2 : List Cond := [Cond.instanceMethod yX2_toCome, Cond.initialized RX2, Cond.selects RX2 yX2_toCome yX2_toCome, Cond.code yX2_toCome cX2_toCome 1 (some .int), Cond.fieldLink RX2 15 "Nestedfare$Product" "expectedToday" "I", Cond.fieldLink RX2 19 "Nestedfare$Product" "askedToday" "I", Cond.methodLink RX2 34 Lib.Math.max.name, Cond.static Lib.Math.max.name, Cond.initialized "java/lang/Math", Cond.code Lib.Math.max.name Lib.Math.max.code 2 (some .int), Cond.instanceMethod yX3_add, Cond.initialized RX3, Cond.selects RX3 yX3_add yX3_add, Cond.code yX3_add cX3_add 4 none, Cond.fieldLink RX3 15 "Nestedfare$Queue" "length" "I", Cond.fieldLink RX3 9 "Nestedfare$Queue" "sums" "[I", Cond.methodLink RX5 205 yX5_leftOn, Cond.instanceMethod yX5_leftOn, Cond.selects RX5 yX5_leftOn yX5_leftOn, Cond.code yX5_leftOn cX5_leftOn 2 (some .int), Cond.methodLink RX5 231 Lib.Math.max.name, Cond.methodLink RX5 225 yX5_seatsOf, Cond.instanceMethod yX5_seatsOf, Cond.selects RX5 yX5_seatsOf yX5_seatsOf]
def wsX5_worth_r3 : List Cond := [Cond.code yX5_seatsOf cX5_seatsOf 2 (some .int), Cond.fieldLink RX5 9 "Nestedfare" "seats" "[I", Cond.methodLink RX5 191 yX5_bookedOn, Cond.instanceMethod yX5_bookedOn, Cond.selects RX5 yX5_bookedOn yX5_bookedOn, Cond.code yX5_bookedOn cX5_bookedOn 5 (some .int), Cond.fieldLink RX5 46 "Nestedfare" "bookingCount" "I", Cond.methodLink RX5 165 yX5_bookingAt, Cond.instanceMethod yX5_bookingAt, Cond.selects RX5 yX5_bookingAt yX5_bookingAt, Cond.code yX5_bookingAt cX5_bookingAt 2 (some (.object "Nestedfare$Booking")), Cond.fieldLink RX5 24 "Nestedfare" "bookings" "[LNestedfare$Booking;", Cond.instanceMethod yX0_seatsOn, Cond.initialized RX0, Cond.selects RX0 yX0_seatsOn yX0_seatsOn, Cond.code yX0_seatsOn cX0_seatsOn 2 (some .int), Cond.fieldLink RX0 7 "Nestedfare$Booking" "cancelled" "Z", Cond.fieldLink RX0 13 "Nestedfare$Booking" "first" "I", Cond.fieldLink RX0 17 "Nestedfare$Booking" "last" "I", Cond.fieldLink RX0 20 "Nestedfare$Booking" "seats" "I", Cond.methodLink RX5 68 yX5_within, Cond.static yX5_within, Cond.code yX5_within cX5_within 3 (some .boolean), Cond.instanceMethod yX1_mostFor]
def wsX5_worth_r4 : List Cond := [Cond.selects RX1 yX1_mostFor yX1_mostFor, Cond.code yX1_mostFor cX1_mostFor 7 (some .int), Cond.methodLink RX1 58 Lib.Math.min.name, Cond.static Lib.Math.min.name, Cond.code Lib.Math.min.name Lib.Math.min.code 2 (some .int), Cond.methodLink RX1 72 Lib.Math.max.name, Cond.instanceMethod yX3_mostFor, Cond.selects RX3 yX3_mostFor yX3_mostFor, Cond.code yX3_mostFor cX3_mostFor 3 (some .int), Cond.methodLink RX1 68 yX1_mostOfShorter, Cond.instanceMethod yX1_mostOfShorter, Cond.selects RX1 yX1_mostOfShorter yX1_mostOfShorter, Cond.code yX1_mostOfShorter cX1_mostOfShorter 8 (some .int), Cond.methodLink RX1 75 yX1_mostBehind, Cond.instanceMethod yX1_mostBehind, Cond.selects RX1 yX1_mostBehind yX1_mostBehind, Cond.code yX1_mostBehind cX1_mostBehind 6 (some .int)]
def wsX5_worth : List Cond := .code yX5_worth cX5_worth 1 (some .int) :: ((wsX5_worth_r1 ++ (wsX5_worth_r2 ++ (wsX5_worth_r3 ++ wsX5_worth_r4))) ++ wsX50 ++ wsX10 ++ wsX30 ++ wsX20 ++ wsX00)
def wsX5_worthByTable_r1 : List Cond := [Cond.fieldLink RX5 38 "Nestedfare" "table" "LNestedfare$SeatTable;", Cond.fieldLink RX5 15 "Nestedfare" "offered" "[LNestedfare$Product;", Cond.methodLink RX5 205 yX5_leftOn, Cond.instanceMethod yX5_leftOn, Cond.selects RX5 yX5_leftOn yX5_leftOn, Cond.initialized RX5, Cond.code yX5_leftOn cX5_leftOn 2 (some .int), Cond.methodLink RX5 231 Lib.Math.max.name, Cond.static Lib.Math.max.name, Cond.initialized "java/lang/Math", Cond.code Lib.Math.max.name Lib.Math.max.code 2 (some .int), Cond.methodLink RX5 225 yX5_seatsOf, Cond.instanceMethod yX5_seatsOf, Cond.selects RX5 yX5_seatsOf yX5_seatsOf, Cond.code yX5_seatsOf cX5_seatsOf 2 (some .int), Cond.fieldLink RX5 9 "Nestedfare" "seats" "[I", Cond.methodLink RX5 191 yX5_bookedOn, Cond.instanceMethod yX5_bookedOn, Cond.selects RX5 yX5_bookedOn yX5_bookedOn, Cond.code yX5_bookedOn cX5_bookedOn 5 (some .int), Cond.fieldLink RX5 46 "Nestedfare" "bookingCount" "I", Cond.methodLink RX5 165 yX5_bookingAt, Cond.instanceMethod yX5_bookingAt, Cond.selects RX5 yX5_bookingAt yX5_bookingAt]
def wsX5_worthByTable_r2 : List Cond := [Cond.code yX5_bookingAt cX5_bookingAt 2 (some (.object "Nestedfare$Booking")), Cond.fieldLink RX5 24 "Nestedfare" "bookings" "[LNestedfare$Booking;", Cond.instanceMethod yX0_seatsOn, Cond.initialized RX0, Cond.selects RX0 yX0_seatsOn yX0_seatsOn, Cond.code yX0_seatsOn cX0_seatsOn 2 (some .int), Cond.fieldLink RX0 7 "Nestedfare$Booking" "cancelled" "Z", Cond.fieldLink RX0 13 "Nestedfare$Booking" "first" "I", Cond.fieldLink RX0 17 "Nestedfare$Booking" "last" "I", Cond.fieldLink RX0 20 "Nestedfare$Booking" "seats" "I", Cond.instanceMethod yX4_clear, Cond.initialized RX4, Cond.selects RX4 yX4_clear yX4_clear, Cond.code yX4_clear cX4_clear 1 none, Cond.fieldLink RX4 11 "Nestedfare$SeatTable" "values" "[I", Cond.methodLink RX4 15 yJ7_fill_53178, Cond.static yJ7_fill_53178, Cond.initialized RJ7, Cond.code yJ7_fill_53178 cJ7_fill_53178 4 none, Cond.instanceMethod yX4_admit, Cond.selects RX4 yX4_admit yX4_admit, Cond.code yX4_admit cX4_admit 7 none, Cond.methodLink RX4 27 Lib.Math.min.name, Cond.static Lib.Math.min.name]
def wsX5_worthByTable_r3 : List Cond := [Cond.code Lib.Math.min.name Lib.Math.min.code 2 (some .int), Cond.instanceMethod yX2_toCome, Cond.initialized RX2, Cond.selects RX2 yX2_toCome yX2_toCome, Cond.code yX2_toCome cX2_toCome 1 (some .int), Cond.fieldLink RX2 15 "Nestedfare$Product" "expectedToday" "I", Cond.fieldLink RX2 19 "Nestedfare$Product" "askedToday" "I", Cond.methodLink RX2 34 Lib.Math.max.name, Cond.methodLink RX4 33 yX4_admitOne, Cond.instanceMethod yX4_admitOne, Cond.selects RX4 yX4_admitOne yX4_admitOne, Cond.code yX4_admitOne cX4_admitOne 11 none, Cond.instanceMethod yX2_covers, Cond.selects RX2 yX2_covers yX2_covers, Cond.code yX2_covers cX2_covers 2 (some .boolean), Cond.fieldLink RX2 25 "Nestedfare$Product" "first" "I", Cond.fieldLink RX2 28 "Nestedfare$Product" "last" "I", Cond.methodLink RX4 41 yX4_cellOf, Cond.static yX4_cellOf, Cond.code yX4_cellOf cX4_cellOf 3 (some .int), Cond.methodLink RX4 49 yX4_raiseRow, Cond.instanceMethod yX4_raiseRow, Cond.selects RX4 yX4_raiseRow yX4_raiseRow, Cond.code yX4_raiseRow cX4_raiseRow 7 none]
def wsX5_worthByTable_r4 : List Cond := [Cond.instanceMethod yX4_valueOf, Cond.selects RX4 yX4_valueOf yX4_valueOf, Cond.code yX4_valueOf cX4_valueOf 5 (some .int)]
def wsX5_worthByTable : List Cond := .code yX5_worthByTable cX5_worthByTable 8 (some .int) :: ((wsX5_worthByTable_r1 ++ (wsX5_worthByTable_r2 ++ (wsX5_worthByTable_r3 ++ wsX5_worthByTable_r4))) ++ wsX50 ++ wsX00 ++ wsX40 ++ wsX20)
def wsX5_bid_r1 : List Cond := [Cond.classLink RX5 87 "java/lang/IndexOutOfBoundsException", Cond.initialized "java/lang/IndexOutOfBoundsException", Cond.methodLink RX5 83 yX5_isLeg, Cond.static yX5_isLeg, Cond.initialized RX5, Cond.code yX5_isLeg cX5_isLeg 1 (some .boolean), Cond.methodLink RX5 68 yX5_within, Cond.static yX5_within, Cond.code yX5_within cX5_within 3 (some .boolean), Cond.methodLink RX5 147 yX5_bidsOver, Cond.instanceMethod yX5_bidsOver, Cond.selects RX5 yX5_bidsOver yX5_bidsOver, Cond.code yX5_bidsOver cX5_bidsOver 6 (some .int), Cond.methodLink RX5 202 yX5_worthWithMore, Cond.instanceMethod yX5_worthWithMore, Cond.selects RX5 yX5_worthWithMore yX5_worthWithMore, Cond.code yX5_worthWithMore cX5_worthWithMore 8 (some .int), Cond.fieldLink RX5 31 "Nestedfare" "demand" "LNestedfare$Demand;", Cond.fieldLink RX5 19 "Nestedfare" "dearestFirst" "[LNestedfare$Product;", Cond.instanceMethod yX1_clear, Cond.initialized RX1, Cond.selects RX1 yX1_clear yX1_clear, Cond.code yX1_clear cX1_clear 1 none, Cond.fieldLink RX1 10 "Nestedfare$Demand" "leg0" "LNestedfare$Queue;"]
def wsX5_bid_r2 : List Cond := [Cond.fieldLink RX1 16 "Nestedfare$Demand" "leg1" "LNestedfare$Queue;", Cond.fieldLink RX1 19 "Nestedfare$Demand" "leg2" "LNestedfare$Queue;", Cond.fieldLink RX1 22 "Nestedfare$Demand" "legs01" "LNestedfare$Queue;", Cond.fieldLink RX1 25 "Nestedfare$Demand" "legs12" "LNestedfare$Queue;", Cond.fieldLink RX1 28 "Nestedfare$Demand" "legs012" "LNestedfare$Queue;", Cond.instanceMethod yX1_add, Cond.selects RX1 yX1_add yX1_add, Cond.code yX1_add cX1_add 2 none, Cond.methodLink RX1 43 yX1_queueOf, Cond.instanceMethod yX1_queueOf, Cond.selects RX1 yX1_queueOf yX1_queueOf, Cond.code yX1_queueOf cX1_queueOf 3 (some (.object "Nestedfare$Queue")), Cond.instanceMethod yX2_toCome, Cond.initialized RX2, Cond.selects RX2 yX2_toCome yX2_toCome, Cond.code yX2_toCome cX2_toCome 1 (some .int), Cond.fieldLink RX2 15 "Nestedfare$Product" "expectedToday" "I", Cond.fieldLink RX2 19 "Nestedfare$Product" "askedToday" "I", Cond.methodLink RX2 34 Lib.Math.max.name, Cond.static Lib.Math.max.name, Cond.initialized "java/lang/Math", Cond.code Lib.Math.max.name Lib.Math.max.code 2 (some .int), Cond.instanceMethod yX3_add, Cond.initialized RX3]
def wsX5_bid_r3 : List Cond := [Cond.selects RX3 yX3_add yX3_add, Cond.code yX3_add cX3_add 4 none, Cond.fieldLink RX3 15 "Nestedfare$Queue" "length" "I", Cond.fieldLink RX3 9 "Nestedfare$Queue" "sums" "[I", Cond.methodLink RX5 205 yX5_leftOn, Cond.instanceMethod yX5_leftOn, Cond.selects RX5 yX5_leftOn yX5_leftOn, Cond.code yX5_leftOn cX5_leftOn 2 (some .int), Cond.methodLink RX5 231 Lib.Math.max.name, Cond.methodLink RX5 225 yX5_seatsOf, Cond.instanceMethod yX5_seatsOf, Cond.selects RX5 yX5_seatsOf yX5_seatsOf, Cond.code yX5_seatsOf cX5_seatsOf 2 (some .int), Cond.fieldLink RX5 9 "Nestedfare" "seats" "[I", Cond.methodLink RX5 191 yX5_bookedOn, Cond.instanceMethod yX5_bookedOn, Cond.selects RX5 yX5_bookedOn yX5_bookedOn, Cond.code yX5_bookedOn cX5_bookedOn 5 (some .int), Cond.fieldLink RX5 46 "Nestedfare" "bookingCount" "I", Cond.methodLink RX5 165 yX5_bookingAt, Cond.instanceMethod yX5_bookingAt, Cond.selects RX5 yX5_bookingAt yX5_bookingAt, Cond.code yX5_bookingAt cX5_bookingAt 2 (some (.object "Nestedfare$Booking")), Cond.fieldLink RX5 24 "Nestedfare" "bookings" "[LNestedfare$Booking;"]
def wsX5_bid_r4 : List Cond := [Cond.instanceMethod yX0_seatsOn, Cond.initialized RX0, Cond.selects RX0 yX0_seatsOn yX0_seatsOn, Cond.code yX0_seatsOn cX0_seatsOn 2 (some .int), Cond.fieldLink RX0 7 "Nestedfare$Booking" "cancelled" "Z", Cond.fieldLink RX0 13 "Nestedfare$Booking" "first" "I", Cond.fieldLink RX0 17 "Nestedfare$Booking" "last" "I", Cond.fieldLink RX0 20 "Nestedfare$Booking" "seats" "I", Cond.instanceMethod yX1_mostFor, Cond.selects RX1 yX1_mostFor yX1_mostFor, Cond.code yX1_mostFor cX1_mostFor 7 (some .int), Cond.methodLink RX1 58 Lib.Math.min.name, Cond.static Lib.Math.min.name, Cond.code Lib.Math.min.name Lib.Math.min.code 2 (some .int), Cond.methodLink RX1 72 Lib.Math.max.name, Cond.instanceMethod yX3_mostFor, Cond.selects RX3 yX3_mostFor yX3_mostFor, Cond.code yX3_mostFor cX3_mostFor 3 (some .int), Cond.methodLink RX1 68 yX1_mostOfShorter, Cond.instanceMethod yX1_mostOfShorter, Cond.selects RX1 yX1_mostOfShorter yX1_mostOfShorter, Cond.code yX1_mostOfShorter cX1_mostOfShorter 8 (some .int), Cond.methodLink RX1 75 yX1_mostBehind, Cond.instanceMethod yX1_mostBehind]
def wsX5_bid_r5 : List Cond := [Cond.selects RX1 yX1_mostBehind yX1_mostBehind, Cond.code yX1_mostBehind cX1_mostBehind 6 (some .int)]
def wsX5_bid : List Cond := .code yX5_bid cX5_bid 2 (some .int) :: ((wsX5_bid_r1 ++ (wsX5_bid_r2 ++ (wsX5_bid_r3 ++ (wsX5_bid_r4 ++ wsX5_bid_r5)))) ++ wsX50 ++ wsX10 ++ wsX30 ++ wsX20 ++ wsX00 ++ (vx_atS RX5 91 "java/lang/IndexOutOfBoundsException" ["java/lang/RuntimeException", "java/lang/Exception"]).filter goodWord)
def wsX5_displaced_r1 : List Cond := [Cond.classLink RX5 87 "java/lang/IndexOutOfBoundsException", Cond.initialized "java/lang/IndexOutOfBoundsException", Cond.classLink RX5 72 "java/lang/IllegalArgumentException", Cond.initialized "java/lang/IllegalArgumentException", Cond.methodLink RX5 83 yX5_isLeg, Cond.static yX5_isLeg, Cond.initialized RX5, Cond.code yX5_isLeg cX5_isLeg 1 (some .boolean), Cond.methodLink RX5 68 yX5_within, Cond.static yX5_within, Cond.code yX5_within cX5_within 3 (some .boolean), Cond.methodLink RX5 158 yX5_hasLeft, Cond.instanceMethod yX5_hasLeft, Cond.selects RX5 yX5_hasLeft yX5_hasLeft, Cond.code yX5_hasLeft cX5_hasLeft 5 (some .boolean), Cond.methodLink RX5 205 yX5_leftOn, Cond.instanceMethod yX5_leftOn, Cond.selects RX5 yX5_leftOn yX5_leftOn, Cond.code yX5_leftOn cX5_leftOn 2 (some .int), Cond.methodLink RX5 231 Lib.Math.max.name, Cond.static Lib.Math.max.name, Cond.initialized "java/lang/Math", Cond.code Lib.Math.max.name Lib.Math.max.code 2 (some .int), Cond.methodLink RX5 225 yX5_seatsOf]
def wsX5_displaced_r2 : List Cond := [Cond.instanceMethod yX5_seatsOf, Cond.selects RX5 yX5_seatsOf yX5_seatsOf, Cond.code yX5_seatsOf cX5_seatsOf 2 (some .int), Cond.fieldLink RX5 9 "Nestedfare" "seats" "[I", Cond.methodLink RX5 191 yX5_bookedOn, Cond.instanceMethod yX5_bookedOn, Cond.selects RX5 yX5_bookedOn yX5_bookedOn, Cond.code yX5_bookedOn cX5_bookedOn 5 (some .int), Cond.fieldLink RX5 46 "Nestedfare" "bookingCount" "I", Cond.methodLink RX5 165 yX5_bookingAt, Cond.instanceMethod yX5_bookingAt, Cond.selects RX5 yX5_bookingAt yX5_bookingAt, Cond.code yX5_bookingAt cX5_bookingAt 2 (some (.object "Nestedfare$Booking")), Cond.fieldLink RX5 24 "Nestedfare" "bookings" "[LNestedfare$Booking;", Cond.instanceMethod yX0_seatsOn, Cond.initialized RX0, Cond.selects RX0 yX0_seatsOn yX0_seatsOn, Cond.code yX0_seatsOn cX0_seatsOn 2 (some .int), Cond.fieldLink RX0 7 "Nestedfare$Booking" "cancelled" "Z", Cond.fieldLink RX0 13 "Nestedfare$Booking" "first" "I", Cond.fieldLink RX0 17 "Nestedfare$Booking" "last" "I", Cond.fieldLink RX0 20 "Nestedfare$Booking" "seats" "I", Cond.methodLink RX5 161 yX5_displacement, Cond.instanceMethod yX5_displacement]
def wsX5_displaced_r3 : List Cond := [Cond.selects RX5 yX5_displacement yX5_displacement, Cond.code yX5_displacement cX5_displacement 4 (some .int), Cond.methodLink RX5 202 yX5_worthWithMore, Cond.instanceMethod yX5_worthWithMore, Cond.selects RX5 yX5_worthWithMore yX5_worthWithMore, Cond.code yX5_worthWithMore cX5_worthWithMore 8 (some .int), Cond.fieldLink RX5 31 "Nestedfare" "demand" "LNestedfare$Demand;", Cond.fieldLink RX5 19 "Nestedfare" "dearestFirst" "[LNestedfare$Product;", Cond.instanceMethod yX1_clear, Cond.initialized RX1, Cond.selects RX1 yX1_clear yX1_clear, Cond.code yX1_clear cX1_clear 1 none, Cond.fieldLink RX1 10 "Nestedfare$Demand" "leg0" "LNestedfare$Queue;", Cond.fieldLink RX1 16 "Nestedfare$Demand" "leg1" "LNestedfare$Queue;", Cond.fieldLink RX1 19 "Nestedfare$Demand" "leg2" "LNestedfare$Queue;", Cond.fieldLink RX1 22 "Nestedfare$Demand" "legs01" "LNestedfare$Queue;", Cond.fieldLink RX1 25 "Nestedfare$Demand" "legs12" "LNestedfare$Queue;", Cond.fieldLink RX1 28 "Nestedfare$Demand" "legs012" "LNestedfare$Queue;", Cond.instanceMethod yX1_add, Cond.selects RX1 yX1_add yX1_add, Cond.code yX1_add cX1_add 2 none, Cond.methodLink RX1 43 yX1_queueOf, Cond.instanceMethod yX1_queueOf, Cond.selects RX1 yX1_queueOf yX1_queueOf]
def wsX5_displaced_r4 : List Cond := [Cond.code yX1_queueOf cX1_queueOf 3 (some (.object "Nestedfare$Queue")), Cond.instanceMethod yX2_toCome, Cond.initialized RX2, Cond.selects RX2 yX2_toCome yX2_toCome, Cond.code yX2_toCome cX2_toCome 1 (some .int), Cond.fieldLink RX2 15 "Nestedfare$Product" "expectedToday" "I", Cond.fieldLink RX2 19 "Nestedfare$Product" "askedToday" "I", Cond.methodLink RX2 34 Lib.Math.max.name, Cond.instanceMethod yX3_add, Cond.initialized RX3, Cond.selects RX3 yX3_add yX3_add, Cond.code yX3_add cX3_add 4 none, Cond.fieldLink RX3 15 "Nestedfare$Queue" "length" "I", Cond.fieldLink RX3 9 "Nestedfare$Queue" "sums" "[I", Cond.instanceMethod yX1_mostFor, Cond.selects RX1 yX1_mostFor yX1_mostFor, Cond.code yX1_mostFor cX1_mostFor 7 (some .int), Cond.methodLink RX1 58 Lib.Math.min.name, Cond.static Lib.Math.min.name, Cond.code Lib.Math.min.name Lib.Math.min.code 2 (some .int), Cond.methodLink RX1 72 Lib.Math.max.name, Cond.instanceMethod yX3_mostFor, Cond.selects RX3 yX3_mostFor yX3_mostFor, Cond.code yX3_mostFor cX3_mostFor 3 (some .int)]
def wsX5_displaced_r5 : List Cond := [Cond.methodLink RX1 68 yX1_mostOfShorter, Cond.instanceMethod yX1_mostOfShorter, Cond.selects RX1 yX1_mostOfShorter yX1_mostOfShorter, Cond.code yX1_mostOfShorter cX1_mostOfShorter 8 (some .int), Cond.methodLink RX1 75 yX1_mostBehind, Cond.instanceMethod yX1_mostBehind, Cond.selects RX1 yX1_mostBehind yX1_mostBehind, Cond.code yX1_mostBehind cX1_mostBehind 6 (some .int)]
def wsX5_displaced : List Cond := .code yX5_displaced cX5_displaced 4 (some .int) :: ((wsX5_displaced_r1 ++ (wsX5_displaced_r2 ++ (wsX5_displaced_r3 ++ (wsX5_displaced_r4 ++ wsX5_displaced_r5)))) ++ wsX50 ++ wsX00 ++ wsX10 ++ wsX30 ++ wsX20 ++ (vx_atS RX5 91 "java/lang/IndexOutOfBoundsException" ["java/lang/RuntimeException", "java/lang/Exception"]).filter goodWord ++ (vx_atS RX5 76 "java/lang/IllegalArgumentException" ["java/lang/RuntimeException", "java/lang/Exception"]).filter goodWord)
def wsX5_expected : List Cond := .code yX5_expected cX5_expected 3 (some .int) :: ([.classLink RX5 87 "java/lang/IndexOutOfBoundsException", .initialized "java/lang/IndexOutOfBoundsException", .methodLink RX5 109 yX5_productAt, .instanceMethod yX5_productAt, .selects RX5 yX5_productAt yX5_productAt, .initialized RX5, .code yX5_productAt cX5_productAt 2 (some (.object "Nestedfare$Product")), .fieldLink RX5 15 "Nestedfare" "offered" "[LNestedfare$Product;"] ++ wsX20 ++ wsX50 ++ (vx_atS RX5 91 "java/lang/IndexOutOfBoundsException" ["java/lang/RuntimeException", "java/lang/Exception"]).filter goodWord)
def wsX5_average : List Cond := .code yX5_average cX5_average 3 (some .float) :: ([.classLink RX5 87 "java/lang/IndexOutOfBoundsException", .initialized "java/lang/IndexOutOfBoundsException", .fieldLink RX5 49 "Nestedfare" "pastDays" "I", .methodLink RX5 109 yX5_productAt, .instanceMethod yX5_productAt, .selects RX5 yX5_productAt yX5_productAt, .initialized RX5, .code yX5_productAt cX5_productAt 2 (some (.object "Nestedfare$Product")), .fieldLink RX5 15 "Nestedfare" "offered" "[LNestedfare$Product;"] ++ wsX50 ++ wsX20 ++ (vx_atS RX5 91 "java/lang/IndexOutOfBoundsException" ["java/lang/RuntimeException", "java/lang/Exception"]).filter goodWord)
def wsX5_asked : List Cond := .code yX5_asked cX5_asked 3 (some .int) :: ([.classLink RX5 87 "java/lang/IndexOutOfBoundsException", .initialized "java/lang/IndexOutOfBoundsException", .methodLink RX5 109 yX5_productAt, .instanceMethod yX5_productAt, .selects RX5 yX5_productAt yX5_productAt, .initialized RX5, .code yX5_productAt cX5_productAt 2 (some (.object "Nestedfare$Product")), .fieldLink RX5 15 "Nestedfare" "offered" "[LNestedfare$Product;"] ++ wsX20 ++ wsX50 ++ (vx_atS RX5 91 "java/lang/IndexOutOfBoundsException" ["java/lang/RuntimeException", "java/lang/Exception"]).filter goodWord)
def wsX5_refused : List Cond := .code yX5_refused cX5_refused 2 (some .int) :: ([.classLink RX5 72 "java/lang/IllegalArgumentException", .initialized "java/lang/IllegalArgumentException", .fieldLink RX5 55 "Nestedfare" "refusedFull" "I", .fieldLink RX5 58 "Nestedfare" "refusedProtected" "I", .fieldLink RX5 61 "Nestedfare" "refusedBelow" "I"] ++ wsX50 ++ (vx_atS RX5 76 "java/lang/IllegalArgumentException" ["java/lang/RuntimeException", "java/lang/Exception"]).filter goodWord)
def wsX5_revenue : List Cond := .code yX5_revenue cX5_revenue 1 (some .int) :: ([.methodLink RX5 184 yX5_faresOfToday, .instanceMethod yX5_faresOfToday, .selects RX5 yX5_faresOfToday yX5_faresOfToday, .initialized RX5, .code yX5_faresOfToday cX5_faresOfToday 4 (some .int), .fieldLink RX5 46 "Nestedfare" "bookingCount" "I", .methodLink RX5 165 yX5_bookingAt, .instanceMethod yX5_bookingAt, .selects RX5 yX5_bookingAt yX5_bookingAt, .code yX5_bookingAt cX5_bookingAt 2 (some (.object "Nestedfare$Booking")), .fieldLink RX5 24 "Nestedfare" "bookings" "[LNestedfare$Booking;"] ++ wsX50 ++ wsX00)
def wsX5_earned : List Cond := .code yX5_earned cX5_earned 1 (some .long) :: ([.fieldLink RX5 64 "Nestedfare" "earnedBefore" "J"] ++ wsX50)
def wsX6_init : List Cond := .code yX6_init cX6_init 1 none :: ([.methodLink RX6 1 objectInit, .instanceMethod objectInit, .code objectInit ⟨#[0xb1]⟩ 1 none, .arrayClass .int, .fieldLink RX6 7 "NestedfareModel" "seats" "[I", .fieldLink RX6 13 "NestedfareModel" "booked" "[I", .fieldLink RX6 16 "NestedfareModel" "first" "[I", .fieldLink RX6 19 "NestedfareModel" "last" "[I", .fieldLink RX6 22 "NestedfareModel" "fare" "[I", .fieldLink RX6 25 "NestedfareModel" "expected" "[I", .fieldLink RX6 28 "NestedfareModel" "asked" "[I", .arrayClass .long, .fieldLink RX6 31 "NestedfareModel" "total" "[J", .fieldLink RX6 35 "NestedfareModel" "table" "[I", .fieldLink RX6 38 "NestedfareModel" "rate" "I", .fieldLink RX6 42 "NestedfareModel" "from" "[I", .fieldLink RX6 45 "NestedfareModel" "to" "[I", .fieldLink RX6 48 "NestedfareModel" "size" "[I", .fieldLink RX6 51 "NestedfareModel" "price" "[I", .arrayClass .boolean, .fieldLink RX6 54 "NestedfareModel" "isGone" "[Z", .fieldLink RX6 58 "NestedfareModel" "refused" "[I", .fieldLink RX6 61 "NestedfareModel" "worth" "[I"] ++ wsX60)
def wsX6_thrown : List Cond := .code yX6_thrown cX6_thrown 1 (some .int) :: ([.fieldLink RX6 64 "NestedfareModel" "thrown" "I"] ++ wsX60)
def wsX6_fails : List Cond := .code yX6_fails cX6_fails 2 (some .boolean) :: ([.fieldLink RX6 64 "NestedfareModel" "thrown" "I"] ++ wsX60)
def wsX6_tells : List Cond := .code yX6_tells cX6_tells 2 (some .int) :: ([.fieldLink RX6 64 "NestedfareModel" "thrown" "I"] ++ wsX60)
def wsX6_isIn : List Cond := .code yX6_isIn cX6_isIn 3 (some .boolean) :: ([])
def wsX6_isLeg : List Cond := .code yX6_isLeg cX6_isLeg 1 (some .boolean) :: ([.methodLink RX6 67 yX6_isIn, .static yX6_isIn, .initialized RX6, .code yX6_isIn cX6_isIn 3 (some .boolean)])
def wsX6_isProduct : List Cond := .code yX6_isProduct cX6_isProduct 2 (some .boolean) :: ([.fieldLink RX6 71 "NestedfareModel" "products" "I", .methodLink RX6 67 yX6_isIn, .static yX6_isIn, .initialized RX6, .code yX6_isIn cX6_isIn 3 (some .boolean)] ++ wsX60)
def wsX6_left : List Cond := .code yX6_left cX6_left 2 (some .int) :: ([.fieldLink RX6 7 "NestedfareModel" "seats" "[I", .fieldLink RX6 13 "NestedfareModel" "booked" "[I"] ++ wsX60)
def wsX6_place : List Cond := .code yX6_place cX6_place 3 (some .int) :: ([])
def wsX6_adds : List Cond := .code yX6_adds cX6_adds 9 none :: ([.fieldLink RX6 16 "NestedfareModel" "first" "[I", .fieldLink RX6 19 "NestedfareModel" "last" "[I", .fieldLink RX6 61 "NestedfareModel" "worth" "[I", .fieldLink RX6 22 "NestedfareModel" "fare" "[I", .methodLink RX6 67 yX6_isIn, .static yX6_isIn, .initialized RX6, .code yX6_isIn cX6_isIn 3 (some .boolean), .methodLink RX6 74 yX6_place, .static yX6_place, .code yX6_place cX6_place 3 (some .int)] ++ wsX60)
def wsX6_finds : List Cond := .code yX6_finds cX6_finds 4 none :: ([.fieldLink RX6 61 "NestedfareModel" "worth" "[I", .fieldLink RX6 71 "NestedfareModel" "products" "I", .fieldLink RX6 25 "NestedfareModel" "expected" "[I", .fieldLink RX6 28 "NestedfareModel" "asked" "[I", .methodLink RX6 78 yX6_adds, .instanceMethod yX6_adds, .selects RX6 yX6_adds yX6_adds, .initialized RX6, .code yX6_adds cX6_adds 9 none, .fieldLink RX6 16 "NestedfareModel" "first" "[I", .fieldLink RX6 19 "NestedfareModel" "last" "[I", .fieldLink RX6 22 "NestedfareModel" "fare" "[I", .methodLink RX6 67 yX6_isIn, .static yX6_isIn, .code yX6_isIn cX6_isIn 3 (some .boolean), .methodLink RX6 74 yX6_place, .static yX6_place, .code yX6_place cX6_place 3 (some .int)] ++ wsX60)
def wsX6_worthOf : List Cond := .code yX6_worthOf cX6_worthOf 4 (some .int) :: ([.fieldLink RX6 61 "NestedfareModel" "worth" "[I", .methodLink RX6 82 yX6_left, .instanceMethod yX6_left, .selects RX6 yX6_left yX6_left, .initialized RX6, .code yX6_left cX6_left 2 (some .int), .fieldLink RX6 7 "NestedfareModel" "seats" "[I", .fieldLink RX6 13 "NestedfareModel" "booked" "[I", .methodLink RX6 74 yX6_place, .static yX6_place, .code yX6_place cX6_place 3 (some .int)] ++ wsX60)
def wsX6_bidOf : List Cond := .code yX6_bidOf cX6_bidOf 2 (some .int) :: ([.methodLink RX6 86 yX6_worthOf, .instanceMethod yX6_worthOf, .selects RX6 yX6_worthOf yX6_worthOf, .initialized RX6, .code yX6_worthOf cX6_worthOf 4 (some .int), .fieldLink RX6 61 "NestedfareModel" "worth" "[I", .methodLink RX6 82 yX6_left, .instanceMethod yX6_left, .selects RX6 yX6_left yX6_left, .code yX6_left cX6_left 2 (some .int), .fieldLink RX6 7 "NestedfareModel" "seats" "[I", .fieldLink RX6 13 "NestedfareModel" "booked" "[I", .methodLink RX6 74 yX6_place, .static yX6_place, .code yX6_place cX6_place 3 (some .int)] ++ wsX60)
def wsX6_displaces : List Cond := .code yX6_displaces cX6_displaces 4 (some .int) :: ([.methodLink RX6 86 yX6_worthOf, .instanceMethod yX6_worthOf, .selects RX6 yX6_worthOf yX6_worthOf, .initialized RX6, .code yX6_worthOf cX6_worthOf 4 (some .int), .fieldLink RX6 61 "NestedfareModel" "worth" "[I", .methodLink RX6 82 yX6_left, .instanceMethod yX6_left, .selects RX6 yX6_left yX6_left, .code yX6_left cX6_left 2 (some .int), .fieldLink RX6 7 "NestedfareModel" "seats" "[I", .fieldLink RX6 13 "NestedfareModel" "booked" "[I", .methodLink RX6 74 yX6_place, .static yX6_place, .code yX6_place cX6_place 3 (some .int), .methodLink RX6 67 yX6_isIn, .static yX6_isIn, .code yX6_isIn cX6_isIn 3 (some .boolean)] ++ wsX60)
def wsX6_isTooFull : List Cond := .code yX6_isTooFull cX6_isTooFull 6 (some .boolean) :: ([.methodLink RX6 82 yX6_left, .instanceMethod yX6_left, .selects RX6 yX6_left yX6_left, .initialized RX6, .code yX6_left cX6_left 2 (some .int), .fieldLink RX6 7 "NestedfareModel" "seats" "[I", .fieldLink RX6 13 "NestedfareModel" "booked" "[I"] ++ wsX60)
def wsX6_isSeats : List Cond := .code yX6_isSeats cX6_isSeats 1 (some .boolean) :: ([.methodLink RX6 67 yX6_isIn, .static yX6_isIn, .initialized RX6, .code yX6_isIn cX6_isIn 3 (some .boolean)])
def wsX6_setSeats : List Cond := .code yX6_setSeats cX6_setSeats 4 none :: ([.fieldLink RX6 7 "NestedfareModel" "seats" "[I", .methodLink RX6 89 yX6_isSeats, .static yX6_isSeats, .initialized RX6, .code yX6_isSeats cX6_isSeats 1 (some .boolean), .methodLink RX6 67 yX6_isIn, .static yX6_isIn, .code yX6_isIn cX6_isIn 3 (some .boolean), .methodLink RX6 93 yX6_fails, .instanceMethod yX6_fails, .selects RX6 yX6_fails yX6_fails, .code yX6_fails cX6_fails 2 (some .boolean), .fieldLink RX6 64 "NestedfareModel" "thrown" "I"] ++ wsX60)
def wsX6_addProduct : List Cond := .code yX6_addProduct cX6_addProduct 8 (some .int) :: ([.fieldLink RX6 71 "NestedfareModel" "products" "I", .fieldLink RX6 16 "NestedfareModel" "first" "[I", .fieldLink RX6 19 "NestedfareModel" "last" "[I", .fieldLink RX6 22 "NestedfareModel" "fare" "[I", .fieldLink RX6 35 "NestedfareModel" "table" "[I", .fieldLink RX6 99 "NestedfareModel" "days" "I", .methodLink RX6 96 yX6_isLeg, .static yX6_isLeg, .initialized RX6, .code yX6_isLeg cX6_isLeg 1 (some .boolean), .methodLink RX6 67 yX6_isIn, .static yX6_isIn, .code yX6_isIn cX6_isIn 3 (some .boolean), .methodLink RX6 93 yX6_fails, .instanceMethod yX6_fails, .selects RX6 yX6_fails yX6_fails, .code yX6_fails cX6_fails 2 (some .boolean), .fieldLink RX6 64 "NestedfareModel" "thrown" "I"] ++ wsX60)
def wsX6_setExpected : List Cond := .code yX6_setExpected cX6_setExpected 4 (some .int) :: ([.fieldLink RX6 25 "NestedfareModel" "expected" "[I", .methodLink RX6 102 yX6_isProduct, .instanceMethod yX6_isProduct, .selects RX6 yX6_isProduct yX6_isProduct, .initialized RX6, .code yX6_isProduct cX6_isProduct 2 (some .boolean), .fieldLink RX6 71 "NestedfareModel" "products" "I", .methodLink RX6 67 yX6_isIn, .static yX6_isIn, .code yX6_isIn cX6_isIn 3 (some .boolean), .methodLink RX6 93 yX6_fails, .instanceMethod yX6_fails, .selects RX6 yX6_fails yX6_fails, .code yX6_fails cX6_fails 2 (some .boolean), .fieldLink RX6 64 "NestedfareModel" "thrown" "I"] ++ wsX60)
def wsX6_setRate : List Cond := .code yX6_setRate cX6_setRate 3 (some .int) :: ([.fieldLink RX6 38 "NestedfareModel" "rate" "I", .methodLink RX6 67 yX6_isIn, .static yX6_isIn, .initialized RX6, .code yX6_isIn cX6_isIn 3 (some .boolean), .methodLink RX6 93 yX6_fails, .instanceMethod yX6_fails, .selects RX6 yX6_fails yX6_fails, .code yX6_fails cX6_fails 2 (some .boolean), .fieldLink RX6 64 "NestedfareModel" "thrown" "I"] ++ wsX60)
def wsX6_authorisedOf : List Cond := .code yX6_authorisedOf cX6_authorisedOf 2 (some .int) :: ([.fieldLink RX6 7 "NestedfareModel" "seats" "[I", .fieldLink RX6 38 "NestedfareModel" "rate" "I"] ++ wsX60)
def wsX6_protectedOf : List Cond := .code yX6_protectedOf cX6_protectedOf 9 (some .int) :: ([.fieldLink RX6 71 "NestedfareModel" "products" "I", .fieldLink RX6 16 "NestedfareModel" "first" "[I", .fieldLink RX6 19 "NestedfareModel" "last" "[I", .fieldLink RX6 22 "NestedfareModel" "fare" "[I", .fieldLink RX6 99 "NestedfareModel" "days" "I", .fieldLink RX6 35 "NestedfareModel" "table" "[I", .methodLink RX6 67 yX6_isIn, .static yX6_isIn, .initialized RX6, .code yX6_isIn cX6_isIn 3 (some .boolean)] ++ wsX60)
def wsX6_books : List Cond := .code yX6_books cX6_books 6 (some .int) :: ([.fieldLink RX6 42 "NestedfareModel" "from" "[I", .fieldLink RX6 105 "NestedfareModel" "bookings" "I", .fieldLink RX6 45 "NestedfareModel" "to" "[I", .fieldLink RX6 48 "NestedfareModel" "size" "[I", .fieldLink RX6 51 "NestedfareModel" "price" "[I", .fieldLink RX6 54 "NestedfareModel" "isGone" "[Z", .fieldLink RX6 13 "NestedfareModel" "booked" "[I"] ++ wsX60)
def wsX6_refuses : List Cond := .code yX6_refuses cX6_refuses 2 (some .int) :: ([.fieldLink RX6 58 "NestedfareModel" "refused" "[I"] ++ wsX60)
def wsX6_ask_r1 : List Cond := [Cond.fieldLink RX6 105 "NestedfareModel" "bookings" "I", Cond.fieldLink RX6 28 "NestedfareModel" "asked" "[I", Cond.fieldLink RX6 16 "NestedfareModel" "first" "[I", Cond.fieldLink RX6 19 "NestedfareModel" "last" "[I", Cond.fieldLink RX6 13 "NestedfareModel" "booked" "[I", Cond.fieldLink RX6 22 "NestedfareModel" "fare" "[I", Cond.methodLink RX6 102 yX6_isProduct, Cond.instanceMethod yX6_isProduct, Cond.selects RX6 yX6_isProduct yX6_isProduct, Cond.initialized RX6, Cond.code yX6_isProduct cX6_isProduct 2 (some .boolean), Cond.fieldLink RX6 71 "NestedfareModel" "products" "I", Cond.methodLink RX6 67 yX6_isIn, Cond.static yX6_isIn, Cond.code yX6_isIn cX6_isIn 3 (some .boolean), Cond.methodLink RX6 93 yX6_fails, Cond.instanceMethod yX6_fails, Cond.selects RX6 yX6_fails yX6_fails, Cond.code yX6_fails cX6_fails 2 (some .boolean), Cond.fieldLink RX6 64 "NestedfareModel" "thrown" "I", Cond.methodLink RX6 108 yX6_finds, Cond.instanceMethod yX6_finds, Cond.selects RX6 yX6_finds yX6_finds, Cond.code yX6_finds cX6_finds 4 none]
def wsX6_ask_r2 : List Cond := [Cond.fieldLink RX6 61 "NestedfareModel" "worth" "[I", Cond.fieldLink RX6 25 "NestedfareModel" "expected" "[I", Cond.methodLink RX6 78 yX6_adds, Cond.instanceMethod yX6_adds, Cond.selects RX6 yX6_adds yX6_adds, Cond.code yX6_adds cX6_adds 9 none, Cond.methodLink RX6 74 yX6_place, Cond.static yX6_place, Cond.code yX6_place cX6_place 3 (some .int), Cond.methodLink RX6 111 yX6_authorisedOf, Cond.instanceMethod yX6_authorisedOf, Cond.selects RX6 yX6_authorisedOf yX6_authorisedOf, Cond.code yX6_authorisedOf cX6_authorisedOf 2 (some .int), Cond.fieldLink RX6 7 "NestedfareModel" "seats" "[I", Cond.fieldLink RX6 38 "NestedfareModel" "rate" "I", Cond.methodLink RX6 114 yX6_protectedOf, Cond.instanceMethod yX6_protectedOf, Cond.selects RX6 yX6_protectedOf yX6_protectedOf, Cond.code yX6_protectedOf cX6_protectedOf 9 (some .int), Cond.fieldLink RX6 99 "NestedfareModel" "days" "I", Cond.fieldLink RX6 35 "NestedfareModel" "table" "[I", Cond.methodLink RX6 118 yX6_bidOf, Cond.instanceMethod yX6_bidOf, Cond.selects RX6 yX6_bidOf yX6_bidOf]
def wsX6_ask_r3 : List Cond := [Cond.code yX6_bidOf cX6_bidOf 2 (some .int), Cond.methodLink RX6 86 yX6_worthOf, Cond.instanceMethod yX6_worthOf, Cond.selects RX6 yX6_worthOf yX6_worthOf, Cond.code yX6_worthOf cX6_worthOf 4 (some .int), Cond.methodLink RX6 82 yX6_left, Cond.instanceMethod yX6_left, Cond.selects RX6 yX6_left yX6_left, Cond.code yX6_left cX6_left 2 (some .int), Cond.methodLink RX6 121 yX6_refuses, Cond.instanceMethod yX6_refuses, Cond.selects RX6 yX6_refuses yX6_refuses, Cond.code yX6_refuses cX6_refuses 2 (some .int), Cond.fieldLink RX6 58 "NestedfareModel" "refused" "[I", Cond.methodLink RX6 124 yX6_books, Cond.instanceMethod yX6_books, Cond.selects RX6 yX6_books yX6_books, Cond.code yX6_books cX6_books 6 (some .int), Cond.fieldLink RX6 42 "NestedfareModel" "from" "[I", Cond.fieldLink RX6 45 "NestedfareModel" "to" "[I", Cond.fieldLink RX6 48 "NestedfareModel" "size" "[I", Cond.fieldLink RX6 51 "NestedfareModel" "price" "[I", Cond.fieldLink RX6 54 "NestedfareModel" "isGone" "[Z"]
def wsX6_ask : List Cond := .code yX6_ask cX6_ask 6 (some .int) :: ((wsX6_ask_r1 ++ (wsX6_ask_r2 ++ wsX6_ask_r3)) ++ wsX60)
def wsX6_group_r1 : List Cond := [Cond.fieldLink RX6 105 "NestedfareModel" "bookings" "I", Cond.methodLink RX6 96 yX6_isLeg, Cond.static yX6_isLeg, Cond.initialized RX6, Cond.code yX6_isLeg cX6_isLeg 1 (some .boolean), Cond.methodLink RX6 67 yX6_isIn, Cond.static yX6_isIn, Cond.code yX6_isIn cX6_isIn 3 (some .boolean), Cond.methodLink RX6 93 yX6_fails, Cond.instanceMethod yX6_fails, Cond.selects RX6 yX6_fails yX6_fails, Cond.code yX6_fails cX6_fails 2 (some .boolean), Cond.fieldLink RX6 64 "NestedfareModel" "thrown" "I", Cond.methodLink RX6 128 yX6_isTooFull, Cond.instanceMethod yX6_isTooFull, Cond.selects RX6 yX6_isTooFull yX6_isTooFull, Cond.code yX6_isTooFull cX6_isTooFull 6 (some .boolean), Cond.methodLink RX6 82 yX6_left, Cond.instanceMethod yX6_left, Cond.selects RX6 yX6_left yX6_left, Cond.code yX6_left cX6_left 2 (some .int), Cond.fieldLink RX6 7 "NestedfareModel" "seats" "[I", Cond.fieldLink RX6 13 "NestedfareModel" "booked" "[I", Cond.methodLink RX6 121 yX6_refuses]
def wsX6_group_r2 : List Cond := [Cond.instanceMethod yX6_refuses, Cond.selects RX6 yX6_refuses yX6_refuses, Cond.code yX6_refuses cX6_refuses 2 (some .int), Cond.fieldLink RX6 58 "NestedfareModel" "refused" "[I", Cond.methodLink RX6 108 yX6_finds, Cond.instanceMethod yX6_finds, Cond.selects RX6 yX6_finds yX6_finds, Cond.code yX6_finds cX6_finds 4 none, Cond.fieldLink RX6 61 "NestedfareModel" "worth" "[I", Cond.fieldLink RX6 71 "NestedfareModel" "products" "I", Cond.fieldLink RX6 25 "NestedfareModel" "expected" "[I", Cond.fieldLink RX6 28 "NestedfareModel" "asked" "[I", Cond.methodLink RX6 78 yX6_adds, Cond.instanceMethod yX6_adds, Cond.selects RX6 yX6_adds yX6_adds, Cond.code yX6_adds cX6_adds 9 none, Cond.fieldLink RX6 16 "NestedfareModel" "first" "[I", Cond.fieldLink RX6 19 "NestedfareModel" "last" "[I", Cond.fieldLink RX6 22 "NestedfareModel" "fare" "[I", Cond.methodLink RX6 74 yX6_place, Cond.static yX6_place, Cond.code yX6_place cX6_place 3 (some .int), Cond.methodLink RX6 131 yX6_displaces, Cond.instanceMethod yX6_displaces]
def wsX6_group_r3 : List Cond := [Cond.selects RX6 yX6_displaces yX6_displaces, Cond.code yX6_displaces cX6_displaces 4 (some .int), Cond.methodLink RX6 86 yX6_worthOf, Cond.instanceMethod yX6_worthOf, Cond.selects RX6 yX6_worthOf yX6_worthOf, Cond.code yX6_worthOf cX6_worthOf 4 (some .int), Cond.methodLink RX6 124 yX6_books, Cond.instanceMethod yX6_books, Cond.selects RX6 yX6_books yX6_books, Cond.code yX6_books cX6_books 6 (some .int), Cond.fieldLink RX6 42 "NestedfareModel" "from" "[I", Cond.fieldLink RX6 45 "NestedfareModel" "to" "[I", Cond.fieldLink RX6 48 "NestedfareModel" "size" "[I", Cond.fieldLink RX6 51 "NestedfareModel" "price" "[I", Cond.fieldLink RX6 54 "NestedfareModel" "isGone" "[Z"]
def wsX6_group : List Cond := .code yX6_group cX6_group 7 (some .int) :: ((wsX6_group_r1 ++ (wsX6_group_r2 ++ wsX6_group_r3)) ++ wsX60)
def wsX6_cancel : List Cond := .code yX6_cancel cX6_cancel 4 (some .int) :: ([.fieldLink RX6 105 "NestedfareModel" "bookings" "I", .fieldLink RX6 54 "NestedfareModel" "isGone" "[Z", .fieldLink RX6 42 "NestedfareModel" "from" "[I", .fieldLink RX6 45 "NestedfareModel" "to" "[I", .fieldLink RX6 13 "NestedfareModel" "booked" "[I", .fieldLink RX6 48 "NestedfareModel" "size" "[I", .methodLink RX6 67 yX6_isIn, .static yX6_isIn, .initialized RX6, .code yX6_isIn cX6_isIn 3 (some .boolean), .methodLink RX6 93 yX6_fails, .instanceMethod yX6_fails, .selects RX6 yX6_fails yX6_fails, .code yX6_fails cX6_fails 2 (some .boolean), .fieldLink RX6 64 "NestedfareModel" "thrown" "I"] ++ wsX60)
def wsX6_sold : List Cond := .code yX6_sold cX6_sold 3 (some .int) :: ([.fieldLink RX6 105 "NestedfareModel" "bookings" "I", .fieldLink RX6 54 "NestedfareModel" "isGone" "[Z", .fieldLink RX6 51 "NestedfareModel" "price" "[I"] ++ wsX60)
def wsX6_endDay_r1 : List Cond := [Cond.fieldLink RX6 13 "NestedfareModel" "booked" "[I", Cond.fieldLink RX6 7 "NestedfareModel" "seats" "[I", Cond.fieldLink RX6 134 "NestedfareModel" "earned" "J", Cond.fieldLink RX6 105 "NestedfareModel" "bookings" "I", Cond.fieldLink RX6 99 "NestedfareModel" "days" "I", Cond.fieldLink RX6 71 "NestedfareModel" "products" "I", Cond.fieldLink RX6 35 "NestedfareModel" "table" "[I", Cond.fieldLink RX6 28 "NestedfareModel" "asked" "[I", Cond.fieldLink RX6 31 "NestedfareModel" "total" "[J", Cond.fieldLink RX6 25 "NestedfareModel" "expected" "[I", Cond.methodLink RX6 67 yX6_isIn, Cond.static yX6_isIn, Cond.initialized RX6, Cond.code yX6_isIn cX6_isIn 3 (some .boolean), Cond.methodLink RX6 93 yX6_fails, Cond.instanceMethod yX6_fails, Cond.selects RX6 yX6_fails yX6_fails, Cond.code yX6_fails cX6_fails 2 (some .boolean), Cond.fieldLink RX6 64 "NestedfareModel" "thrown" "I", Cond.methodLink RX6 138 yX6_sold, Cond.instanceMethod yX6_sold, Cond.selects RX6 yX6_sold yX6_sold, Cond.code yX6_sold cX6_sold 3 (some .int), Cond.fieldLink RX6 54 "NestedfareModel" "isGone" "[Z"]
def wsX6_endDay_r2 : List Cond := [Cond.fieldLink RX6 51 "NestedfareModel" "price" "[I"]
def wsX6_endDay : List Cond := .code yX6_endDay cX6_endDay 5 (some .int) :: ((wsX6_endDay_r1 ++ wsX6_endDay_r2) ++ wsX60)
def wsX6_products : List Cond := .code yX6_products cX6_products 1 (some .int) :: ([.fieldLink RX6 71 "NestedfareModel" "products" "I", .methodLink RX6 142 yX6_tells, .instanceMethod yX6_tells, .selects RX6 yX6_tells yX6_tells, .initialized RX6, .code yX6_tells cX6_tells 2 (some .int), .fieldLink RX6 64 "NestedfareModel" "thrown" "I"] ++ wsX60)
def wsX6_days : List Cond := .code yX6_days cX6_days 1 (some .int) :: ([.fieldLink RX6 99 "NestedfareModel" "days" "I", .methodLink RX6 142 yX6_tells, .instanceMethod yX6_tells, .selects RX6 yX6_tells yX6_tells, .initialized RX6, .code yX6_tells cX6_tells 2 (some .int), .fieldLink RX6 64 "NestedfareModel" "thrown" "I"] ++ wsX60)
def wsX6_booked : List Cond := .code yX6_booked cX6_booked 2 (some .int) :: ([.fieldLink RX6 13 "NestedfareModel" "booked" "[I", .methodLink RX6 96 yX6_isLeg, .static yX6_isLeg, .initialized RX6, .code yX6_isLeg cX6_isLeg 1 (some .boolean), .methodLink RX6 67 yX6_isIn, .static yX6_isIn, .code yX6_isIn cX6_isIn 3 (some .boolean), .methodLink RX6 93 yX6_fails, .instanceMethod yX6_fails, .selects RX6 yX6_fails yX6_fails, .code yX6_fails cX6_fails 2 (some .boolean), .fieldLink RX6 64 "NestedfareModel" "thrown" "I"] ++ wsX60)
def wsX6_authorised : List Cond := .code yX6_authorised cX6_authorised 2 (some .int) :: ([.methodLink RX6 96 yX6_isLeg, .static yX6_isLeg, .initialized RX6, .code yX6_isLeg cX6_isLeg 1 (some .boolean), .methodLink RX6 67 yX6_isIn, .static yX6_isIn, .code yX6_isIn cX6_isIn 3 (some .boolean), .methodLink RX6 93 yX6_fails, .instanceMethod yX6_fails, .selects RX6 yX6_fails yX6_fails, .code yX6_fails cX6_fails 2 (some .boolean), .fieldLink RX6 64 "NestedfareModel" "thrown" "I", .methodLink RX6 111 yX6_authorisedOf, .instanceMethod yX6_authorisedOf, .selects RX6 yX6_authorisedOf yX6_authorisedOf, .code yX6_authorisedOf cX6_authorisedOf 2 (some .int), .fieldLink RX6 7 "NestedfareModel" "seats" "[I", .fieldLink RX6 38 "NestedfareModel" "rate" "I"] ++ wsX60)
def wsX6_protectedSeats : List Cond := .code yX6_protectedSeats cX6_protectedSeats 3 (some .int) :: ([.methodLink RX6 96 yX6_isLeg, .static yX6_isLeg, .initialized RX6, .code yX6_isLeg cX6_isLeg 1 (some .boolean), .methodLink RX6 67 yX6_isIn, .static yX6_isIn, .code yX6_isIn cX6_isIn 3 (some .boolean), .methodLink RX6 93 yX6_fails, .instanceMethod yX6_fails, .selects RX6 yX6_fails yX6_fails, .code yX6_fails cX6_fails 2 (some .boolean), .fieldLink RX6 64 "NestedfareModel" "thrown" "I", .methodLink RX6 114 yX6_protectedOf, .instanceMethod yX6_protectedOf, .selects RX6 yX6_protectedOf yX6_protectedOf, .code yX6_protectedOf cX6_protectedOf 9 (some .int), .fieldLink RX6 71 "NestedfareModel" "products" "I", .fieldLink RX6 16 "NestedfareModel" "first" "[I", .fieldLink RX6 19 "NestedfareModel" "last" "[I", .fieldLink RX6 22 "NestedfareModel" "fare" "[I", .fieldLink RX6 99 "NestedfareModel" "days" "I", .fieldLink RX6 35 "NestedfareModel" "table" "[I"] ++ wsX60)
def wsX6_worth_r1 : List Cond := [Cond.fieldLink RX6 64 "NestedfareModel" "thrown" "I", Cond.methodLink RX6 108 yX6_finds, Cond.instanceMethod yX6_finds, Cond.selects RX6 yX6_finds yX6_finds, Cond.initialized RX6, Cond.code yX6_finds cX6_finds 4 none, Cond.fieldLink RX6 61 "NestedfareModel" "worth" "[I", Cond.fieldLink RX6 71 "NestedfareModel" "products" "I", Cond.fieldLink RX6 25 "NestedfareModel" "expected" "[I", Cond.fieldLink RX6 28 "NestedfareModel" "asked" "[I", Cond.methodLink RX6 78 yX6_adds, Cond.instanceMethod yX6_adds, Cond.selects RX6 yX6_adds yX6_adds, Cond.code yX6_adds cX6_adds 9 none, Cond.fieldLink RX6 16 "NestedfareModel" "first" "[I", Cond.fieldLink RX6 19 "NestedfareModel" "last" "[I", Cond.fieldLink RX6 22 "NestedfareModel" "fare" "[I", Cond.methodLink RX6 67 yX6_isIn, Cond.static yX6_isIn, Cond.code yX6_isIn cX6_isIn 3 (some .boolean), Cond.methodLink RX6 74 yX6_place, Cond.static yX6_place, Cond.code yX6_place cX6_place 3 (some .int), Cond.methodLink RX6 86 yX6_worthOf]
def wsX6_worth_r2 : List Cond := [Cond.instanceMethod yX6_worthOf, Cond.selects RX6 yX6_worthOf yX6_worthOf, Cond.code yX6_worthOf cX6_worthOf 4 (some .int), Cond.methodLink RX6 82 yX6_left, Cond.instanceMethod yX6_left, Cond.selects RX6 yX6_left yX6_left, Cond.code yX6_left cX6_left 2 (some .int), Cond.fieldLink RX6 7 "NestedfareModel" "seats" "[I", Cond.fieldLink RX6 13 "NestedfareModel" "booked" "[I"]
def wsX6_worth : List Cond := .code yX6_worth cX6_worth 1 (some .int) :: ((wsX6_worth_r1 ++ wsX6_worth_r2) ++ wsX60)
def wsX6_worthByTable_r1 : List Cond := [Cond.fieldLink RX6 64 "NestedfareModel" "thrown" "I", Cond.methodLink RX6 108 yX6_finds, Cond.instanceMethod yX6_finds, Cond.selects RX6 yX6_finds yX6_finds, Cond.initialized RX6, Cond.code yX6_finds cX6_finds 4 none, Cond.fieldLink RX6 61 "NestedfareModel" "worth" "[I", Cond.fieldLink RX6 71 "NestedfareModel" "products" "I", Cond.fieldLink RX6 25 "NestedfareModel" "expected" "[I", Cond.fieldLink RX6 28 "NestedfareModel" "asked" "[I", Cond.methodLink RX6 78 yX6_adds, Cond.instanceMethod yX6_adds, Cond.selects RX6 yX6_adds yX6_adds, Cond.code yX6_adds cX6_adds 9 none, Cond.fieldLink RX6 16 "NestedfareModel" "first" "[I", Cond.fieldLink RX6 19 "NestedfareModel" "last" "[I", Cond.fieldLink RX6 22 "NestedfareModel" "fare" "[I", Cond.methodLink RX6 67 yX6_isIn, Cond.static yX6_isIn, Cond.code yX6_isIn cX6_isIn 3 (some .boolean), Cond.methodLink RX6 74 yX6_place, Cond.static yX6_place, Cond.code yX6_place cX6_place 3 (some .int), Cond.methodLink RX6 86 yX6_worthOf]
def wsX6_worthByTable_r2 : List Cond := [Cond.instanceMethod yX6_worthOf, Cond.selects RX6 yX6_worthOf yX6_worthOf, Cond.code yX6_worthOf cX6_worthOf 4 (some .int), Cond.methodLink RX6 82 yX6_left, Cond.instanceMethod yX6_left, Cond.selects RX6 yX6_left yX6_left, Cond.code yX6_left cX6_left 2 (some .int), Cond.fieldLink RX6 7 "NestedfareModel" "seats" "[I", Cond.fieldLink RX6 13 "NestedfareModel" "booked" "[I"]
def wsX6_worthByTable : List Cond := .code yX6_worthByTable cX6_worthByTable 1 (some .int) :: ((wsX6_worthByTable_r1 ++ wsX6_worthByTable_r2) ++ wsX60)
def wsX6_bid_r1 : List Cond := [Cond.methodLink RX6 96 yX6_isLeg, Cond.static yX6_isLeg, Cond.initialized RX6, Cond.code yX6_isLeg cX6_isLeg 1 (some .boolean), Cond.methodLink RX6 67 yX6_isIn, Cond.static yX6_isIn, Cond.code yX6_isIn cX6_isIn 3 (some .boolean), Cond.methodLink RX6 93 yX6_fails, Cond.instanceMethod yX6_fails, Cond.selects RX6 yX6_fails yX6_fails, Cond.code yX6_fails cX6_fails 2 (some .boolean), Cond.fieldLink RX6 64 "NestedfareModel" "thrown" "I", Cond.methodLink RX6 108 yX6_finds, Cond.instanceMethod yX6_finds, Cond.selects RX6 yX6_finds yX6_finds, Cond.code yX6_finds cX6_finds 4 none, Cond.fieldLink RX6 61 "NestedfareModel" "worth" "[I", Cond.fieldLink RX6 71 "NestedfareModel" "products" "I", Cond.fieldLink RX6 25 "NestedfareModel" "expected" "[I", Cond.fieldLink RX6 28 "NestedfareModel" "asked" "[I", Cond.methodLink RX6 78 yX6_adds, Cond.instanceMethod yX6_adds, Cond.selects RX6 yX6_adds yX6_adds, Cond.code yX6_adds cX6_adds 9 none]
def wsX6_bid_r2 : List Cond := [Cond.fieldLink RX6 16 "NestedfareModel" "first" "[I", Cond.fieldLink RX6 19 "NestedfareModel" "last" "[I", Cond.fieldLink RX6 22 "NestedfareModel" "fare" "[I", Cond.methodLink RX6 74 yX6_place, Cond.static yX6_place, Cond.code yX6_place cX6_place 3 (some .int), Cond.methodLink RX6 118 yX6_bidOf, Cond.instanceMethod yX6_bidOf, Cond.selects RX6 yX6_bidOf yX6_bidOf, Cond.code yX6_bidOf cX6_bidOf 2 (some .int), Cond.methodLink RX6 86 yX6_worthOf, Cond.instanceMethod yX6_worthOf, Cond.selects RX6 yX6_worthOf yX6_worthOf, Cond.code yX6_worthOf cX6_worthOf 4 (some .int), Cond.methodLink RX6 82 yX6_left, Cond.instanceMethod yX6_left, Cond.selects RX6 yX6_left yX6_left, Cond.code yX6_left cX6_left 2 (some .int), Cond.fieldLink RX6 7 "NestedfareModel" "seats" "[I", Cond.fieldLink RX6 13 "NestedfareModel" "booked" "[I"]
def wsX6_bid : List Cond := .code yX6_bid cX6_bid 2 (some .int) :: ((wsX6_bid_r1 ++ wsX6_bid_r2) ++ wsX60)
def wsX6_displaced_r1 : List Cond := [Cond.methodLink RX6 96 yX6_isLeg, Cond.static yX6_isLeg, Cond.initialized RX6, Cond.code yX6_isLeg cX6_isLeg 1 (some .boolean), Cond.methodLink RX6 67 yX6_isIn, Cond.static yX6_isIn, Cond.code yX6_isIn cX6_isIn 3 (some .boolean), Cond.methodLink RX6 93 yX6_fails, Cond.instanceMethod yX6_fails, Cond.selects RX6 yX6_fails yX6_fails, Cond.code yX6_fails cX6_fails 2 (some .boolean), Cond.fieldLink RX6 64 "NestedfareModel" "thrown" "I", Cond.methodLink RX6 128 yX6_isTooFull, Cond.instanceMethod yX6_isTooFull, Cond.selects RX6 yX6_isTooFull yX6_isTooFull, Cond.code yX6_isTooFull cX6_isTooFull 6 (some .boolean), Cond.methodLink RX6 82 yX6_left, Cond.instanceMethod yX6_left, Cond.selects RX6 yX6_left yX6_left, Cond.code yX6_left cX6_left 2 (some .int), Cond.fieldLink RX6 7 "NestedfareModel" "seats" "[I", Cond.fieldLink RX6 13 "NestedfareModel" "booked" "[I", Cond.methodLink RX6 108 yX6_finds, Cond.instanceMethod yX6_finds]
def wsX6_displaced_r2 : List Cond := [Cond.selects RX6 yX6_finds yX6_finds, Cond.code yX6_finds cX6_finds 4 none, Cond.fieldLink RX6 61 "NestedfareModel" "worth" "[I", Cond.fieldLink RX6 71 "NestedfareModel" "products" "I", Cond.fieldLink RX6 25 "NestedfareModel" "expected" "[I", Cond.fieldLink RX6 28 "NestedfareModel" "asked" "[I", Cond.methodLink RX6 78 yX6_adds, Cond.instanceMethod yX6_adds, Cond.selects RX6 yX6_adds yX6_adds, Cond.code yX6_adds cX6_adds 9 none, Cond.fieldLink RX6 16 "NestedfareModel" "first" "[I", Cond.fieldLink RX6 19 "NestedfareModel" "last" "[I", Cond.fieldLink RX6 22 "NestedfareModel" "fare" "[I", Cond.methodLink RX6 74 yX6_place, Cond.static yX6_place, Cond.code yX6_place cX6_place 3 (some .int), Cond.methodLink RX6 131 yX6_displaces, Cond.instanceMethod yX6_displaces, Cond.selects RX6 yX6_displaces yX6_displaces, Cond.code yX6_displaces cX6_displaces 4 (some .int), Cond.methodLink RX6 86 yX6_worthOf, Cond.instanceMethod yX6_worthOf, Cond.selects RX6 yX6_worthOf yX6_worthOf, Cond.code yX6_worthOf cX6_worthOf 4 (some .int)]
def wsX6_displaced : List Cond := .code yX6_displaced cX6_displaced 6 (some .int) :: ((wsX6_displaced_r1 ++ wsX6_displaced_r2) ++ wsX60)
def wsX6_of : List Cond := .code yX6_of cX6_of 3 (some .int) :: ([.methodLink RX6 102 yX6_isProduct, .instanceMethod yX6_isProduct, .selects RX6 yX6_isProduct yX6_isProduct, .initialized RX6, .code yX6_isProduct cX6_isProduct 2 (some .boolean), .fieldLink RX6 71 "NestedfareModel" "products" "I", .methodLink RX6 67 yX6_isIn, .static yX6_isIn, .code yX6_isIn cX6_isIn 3 (some .boolean), .methodLink RX6 93 yX6_fails, .instanceMethod yX6_fails, .selects RX6 yX6_fails yX6_fails, .code yX6_fails cX6_fails 2 (some .boolean), .fieldLink RX6 64 "NestedfareModel" "thrown" "I"] ++ wsX60)
def wsX6_expected : List Cond := .code yX6_expected cX6_expected 2 (some .int) :: ([.fieldLink RX6 25 "NestedfareModel" "expected" "[I", .methodLink RX6 145 yX6_of, .instanceMethod yX6_of, .selects RX6 yX6_of yX6_of, .initialized RX6, .code yX6_of cX6_of 3 (some .int), .methodLink RX6 102 yX6_isProduct, .instanceMethod yX6_isProduct, .selects RX6 yX6_isProduct yX6_isProduct, .code yX6_isProduct cX6_isProduct 2 (some .boolean), .fieldLink RX6 71 "NestedfareModel" "products" "I", .methodLink RX6 67 yX6_isIn, .static yX6_isIn, .code yX6_isIn cX6_isIn 3 (some .boolean), .methodLink RX6 93 yX6_fails, .instanceMethod yX6_fails, .selects RX6 yX6_fails yX6_fails, .code yX6_fails cX6_fails 2 (some .boolean), .fieldLink RX6 64 "NestedfareModel" "thrown" "I"] ++ wsX60)
def wsX6_average : List Cond := .code yX6_average cX6_average 2 (some .float) :: ([.fieldLink RX6 99 "NestedfareModel" "days" "I", .fieldLink RX6 31 "NestedfareModel" "total" "[J", .methodLink RX6 102 yX6_isProduct, .instanceMethod yX6_isProduct, .selects RX6 yX6_isProduct yX6_isProduct, .initialized RX6, .code yX6_isProduct cX6_isProduct 2 (some .boolean), .fieldLink RX6 71 "NestedfareModel" "products" "I", .methodLink RX6 67 yX6_isIn, .static yX6_isIn, .code yX6_isIn cX6_isIn 3 (some .boolean), .methodLink RX6 93 yX6_fails, .instanceMethod yX6_fails, .selects RX6 yX6_fails yX6_fails, .code yX6_fails cX6_fails 2 (some .boolean), .fieldLink RX6 64 "NestedfareModel" "thrown" "I"] ++ wsX60)
def wsX6_asked : List Cond := .code yX6_asked cX6_asked 2 (some .int) :: ([.fieldLink RX6 28 "NestedfareModel" "asked" "[I", .methodLink RX6 145 yX6_of, .instanceMethod yX6_of, .selects RX6 yX6_of yX6_of, .initialized RX6, .code yX6_of cX6_of 3 (some .int), .methodLink RX6 102 yX6_isProduct, .instanceMethod yX6_isProduct, .selects RX6 yX6_isProduct yX6_isProduct, .code yX6_isProduct cX6_isProduct 2 (some .boolean), .fieldLink RX6 71 "NestedfareModel" "products" "I", .methodLink RX6 67 yX6_isIn, .static yX6_isIn, .code yX6_isIn cX6_isIn 3 (some .boolean), .methodLink RX6 93 yX6_fails, .instanceMethod yX6_fails, .selects RX6 yX6_fails yX6_fails, .code yX6_fails cX6_fails 2 (some .boolean), .fieldLink RX6 64 "NestedfareModel" "thrown" "I"] ++ wsX60)
def wsX6_refused : List Cond := .code yX6_refused cX6_refused 2 (some .int) :: ([.fieldLink RX6 58 "NestedfareModel" "refused" "[I", .methodLink RX6 67 yX6_isIn, .static yX6_isIn, .initialized RX6, .code yX6_isIn cX6_isIn 3 (some .boolean), .methodLink RX6 93 yX6_fails, .instanceMethod yX6_fails, .selects RX6 yX6_fails yX6_fails, .code yX6_fails cX6_fails 2 (some .boolean), .fieldLink RX6 64 "NestedfareModel" "thrown" "I"] ++ wsX60)
def wsX6_revenue : List Cond := .code yX6_revenue cX6_revenue 1 (some .int) :: ([.methodLink RX6 138 yX6_sold, .instanceMethod yX6_sold, .selects RX6 yX6_sold yX6_sold, .initialized RX6, .code yX6_sold cX6_sold 3 (some .int), .fieldLink RX6 105 "NestedfareModel" "bookings" "I", .fieldLink RX6 54 "NestedfareModel" "isGone" "[Z", .fieldLink RX6 51 "NestedfareModel" "price" "[I", .methodLink RX6 142 yX6_tells, .instanceMethod yX6_tells, .selects RX6 yX6_tells yX6_tells, .code yX6_tells cX6_tells 2 (some .int), .fieldLink RX6 64 "NestedfareModel" "thrown" "I"] ++ wsX60)
def wsX6_earned : List Cond := .code yX6_earned cX6_earned 1 (some .long) :: ([.fieldLink RX6 64 "NestedfareModel" "thrown" "I", .fieldLink RX6 134 "NestedfareModel" "earned" "J"] ++ wsX60)
def wsJ9_max_7cf53 : List Cond := .code yJ9_max_7cf53 cJ9_max_7cf53 2 (some .int) :: ([])
def wsJ9_min_7cf53 : List Cond := .code yJ9_min_7cf53 cJ9_min_7cf53 2 (some .int) :: ([])
def wsL_setSeats : List Cond := .codeWith yL_setSeats cL_setSeats 5 (some .int) [(0, 7, 10, 13)] :: ([.classLink RL 13 "java/lang/IllegalArgumentException", .methodLink RL 7 yX5_setSeats, .instanceMethod yX5_setSeats, .selects RX5 yX5_setSeats yX5_setSeats, .initialized RX5, .code yX5_setSeats cX5_setSeats 4 none, .classLink RX5 72 "java/lang/IllegalArgumentException", .initialized "java/lang/IllegalArgumentException", .methodLink RX5 68 yX5_within, .static yX5_within, .code yX5_within cX5_within 3 (some .boolean), .methodLink RX5 79 yX5_putSeats, .instanceMethod yX5_putSeats, .selects RX5 yX5_putSeats yX5_putSeats, .code yX5_putSeats cX5_putSeats 3 none, .fieldLink RX5 9 "Nestedfare" "seats" "[I"] ++ wsX50 ++ (vx_atS RX5 76 "java/lang/IllegalArgumentException" ["java/lang/RuntimeException", "java/lang/Exception"]).filter goodWord)
def wsL_addProduct_r1 : List Cond := [Cond.classLink RL 19 "java/lang/IndexOutOfBoundsException", Cond.classLink RL 13 "java/lang/IllegalArgumentException", Cond.classLink RL 21 "java/lang/IllegalStateException", Cond.methodLink RL 15 yX5_addProduct, Cond.instanceMethod yX5_addProduct, Cond.selects RX5 yX5_addProduct yX5_addProduct, Cond.initialized RX5, Cond.code yX5_addProduct cX5_addProduct 5 (some .int), Cond.classLink RX5 87 "java/lang/IndexOutOfBoundsException", Cond.initialized "java/lang/IndexOutOfBoundsException", Cond.classLink RX5 72 "java/lang/IllegalArgumentException", Cond.initialized "java/lang/IllegalArgumentException", Cond.classLink RX5 97 "java/lang/IllegalStateException", Cond.initialized "java/lang/IllegalStateException", Cond.fieldLink RX5 42 "Nestedfare" "offeredCount" "I", Cond.classLink RX5 13 RX2, Cond.instantiable RX2 7, Cond.initialized RX2, Cond.fieldLink RX5 49 "Nestedfare" "pastDays" "I", Cond.methodLink RX5 83 yX5_isLeg, Cond.static yX5_isLeg, Cond.code yX5_isLeg cX5_isLeg 1 (some .boolean), Cond.methodLink RX5 68 yX5_within, Cond.static yX5_within]
def wsL_addProduct_r2 : List Cond := [Cond.code yX5_within cX5_within 3 (some .boolean), Cond.methodLink RX5 94 yX5_isOffered, Cond.instanceMethod yX5_isOffered, Cond.selects RX5 yX5_isOffered yX5_isOffered, Cond.code yX5_isOffered cX5_isOffered 8 (some .boolean), Cond.fieldLink RX5 15 "Nestedfare" "offered" "[LNestedfare$Product;", Cond.instanceMethod yX2_init, Cond.code yX2_init cX2_init 5 none, Cond.methodLink RX2 3 objectInit, Cond.instanceMethod objectInit, Cond.code objectInit ⟨#[0xb1]⟩ 1 none, Cond.arrayClass .int, Cond.fieldLink RX2 9 "Nestedfare$Product" "daysByAsked" "[I", Cond.fieldLink RX2 15 "Nestedfare$Product" "expectedToday" "I", Cond.fieldLink RX2 19 "Nestedfare$Product" "askedToday" "I", Cond.fieldLink RX2 22 "Nestedfare$Product" "askedBefore" "I", Cond.fieldLink RX2 25 "Nestedfare$Product" "first" "I", Cond.fieldLink RX2 28 "Nestedfare$Product" "last" "I", Cond.fieldLink RX2 31 "Nestedfare$Product" "fare" "I", Cond.methodLink RX5 105 yX5_offer, Cond.instanceMethod yX5_offer, Cond.selects RX5 yX5_offer yX5_offer, Cond.code yX5_offer cX5_offer 3 none, Cond.fieldLink RX5 19 "Nestedfare" "dearestFirst" "[LNestedfare$Product;"]
def wsL_addProduct : List Cond := .codeWith yL_addProduct cL_addProduct 6 (some .int) [(0, 12, 15, 19), (0, 12, 19, 13), (0, 12, 23, 21)] :: ((wsL_addProduct_r1 ++ wsL_addProduct_r2) ++ wsX50 ++ wsX20 ++ (vx_atS RX5 91 "java/lang/IndexOutOfBoundsException" ["java/lang/RuntimeException", "java/lang/Exception"]).filter goodWord ++ (vx_atS RX5 76 "java/lang/IllegalArgumentException" ["java/lang/RuntimeException", "java/lang/Exception"]).filter goodWord ++ (vx_atS RX5 101 "java/lang/IllegalStateException" ["java/lang/RuntimeException", "java/lang/Exception"]).filter goodWord)
def wsL_setExpected : List Cond := .codeWith yL_setExpected cL_setExpected 5 (some .int) [(0, 10, 13, 19), (0, 10, 17, 13)] :: ([.classLink RL 19 "java/lang/IndexOutOfBoundsException", .classLink RL 13 "java/lang/IllegalArgumentException", .methodLink RL 23 yX5_setExpected, .instanceMethod yX5_setExpected, .selects RX5 yX5_setExpected yX5_setExpected, .initialized RX5, .code yX5_setExpected cX5_setExpected 5 (some .int), .classLink RX5 87 "java/lang/IndexOutOfBoundsException", .initialized "java/lang/IndexOutOfBoundsException", .classLink RX5 72 "java/lang/IllegalArgumentException", .initialized "java/lang/IllegalArgumentException", .methodLink RX5 109 yX5_productAt, .instanceMethod yX5_productAt, .selects RX5 yX5_productAt yX5_productAt, .code yX5_productAt cX5_productAt 2 (some (.object "Nestedfare$Product")), .fieldLink RX5 15 "Nestedfare" "offered" "[LNestedfare$Product;", .methodLink RX5 68 yX5_within, .static yX5_within, .code yX5_within cX5_within 3 (some .boolean)] ++ wsX20 ++ wsX50 ++ (vx_atS RX5 91 "java/lang/IndexOutOfBoundsException" ["java/lang/RuntimeException", "java/lang/Exception"]).filter goodWord ++ (vx_atS RX5 76 "java/lang/IllegalArgumentException" ["java/lang/RuntimeException", "java/lang/Exception"]).filter goodWord)
def wsL_setRate : List Cond := .codeWith yL_setRate cL_setRate 4 (some .int) [(0, 9, 12, 13)] :: ([.classLink RL 13 "java/lang/IllegalArgumentException", .methodLink RL 27 yX5_setRate, .instanceMethod yX5_setRate, .selects RX5 yX5_setRate yX5_setRate, .initialized RX5, .code yX5_setRate cX5_setRate 3 (some .int), .classLink RX5 72 "java/lang/IllegalArgumentException", .initialized "java/lang/IllegalArgumentException", .fieldLink RX5 52 "Nestedfare" "showRate" "I", .methodLink RX5 68 yX5_within, .static yX5_within, .code yX5_within cX5_within 3 (some .boolean)] ++ wsX50 ++ (vx_atS RX5 76 "java/lang/IllegalArgumentException" ["java/lang/RuntimeException", "java/lang/Exception"]).filter goodWord)
def wsL_ask_r1 : List Cond := [Cond.classLink RL 19 "java/lang/IndexOutOfBoundsException", Cond.classLink RL 21 "java/lang/IllegalStateException", Cond.methodLink RL 31 yX5_ask, Cond.instanceMethod yX5_ask, Cond.selects RX5 yX5_ask yX5_ask, Cond.initialized RX5, Cond.code yX5_ask cX5_ask 3 (some .int), Cond.classLink RX5 87 "java/lang/IndexOutOfBoundsException", Cond.initialized "java/lang/IndexOutOfBoundsException", Cond.classLink RX5 97 "java/lang/IllegalStateException", Cond.initialized "java/lang/IllegalStateException", Cond.fieldLink RX5 46 "Nestedfare" "bookingCount" "I", Cond.classLink RX5 22 RX0, Cond.instantiable RX0 5, Cond.initialized RX0, Cond.methodLink RX5 109 yX5_productAt, Cond.instanceMethod yX5_productAt, Cond.selects RX5 yX5_productAt yX5_productAt, Cond.code yX5_productAt cX5_productAt 2 (some (.object "Nestedfare$Product")), Cond.fieldLink RX5 15 "Nestedfare" "offered" "[LNestedfare$Product;", Cond.methodLink RX5 127 yX5_isFull, Cond.instanceMethod yX5_isFull, Cond.selects RX5 yX5_isFull yX5_isFull, Cond.code yX5_isFull cX5_isFull 3 (some .boolean)]
def wsL_ask_r2 : List Cond := [Cond.methodLink RX5 191 yX5_bookedOn, Cond.instanceMethod yX5_bookedOn, Cond.selects RX5 yX5_bookedOn yX5_bookedOn, Cond.code yX5_bookedOn cX5_bookedOn 5 (some .int), Cond.methodLink RX5 165 yX5_bookingAt, Cond.instanceMethod yX5_bookingAt, Cond.selects RX5 yX5_bookingAt yX5_bookingAt, Cond.code yX5_bookingAt cX5_bookingAt 2 (some (.object "Nestedfare$Booking")), Cond.fieldLink RX5 24 "Nestedfare" "bookings" "[LNestedfare$Booking;", Cond.instanceMethod yX0_seatsOn, Cond.selects RX0 yX0_seatsOn yX0_seatsOn, Cond.code yX0_seatsOn cX0_seatsOn 2 (some .int), Cond.fieldLink RX0 7 "Nestedfare$Booking" "cancelled" "Z", Cond.fieldLink RX0 13 "Nestedfare$Booking" "first" "I", Cond.fieldLink RX0 17 "Nestedfare$Booking" "last" "I", Cond.fieldLink RX0 20 "Nestedfare$Booking" "seats" "I", Cond.methodLink RX5 194 yX5_authorisedOn, Cond.instanceMethod yX5_authorisedOn, Cond.selects RX5 yX5_authorisedOn yX5_authorisedOn, Cond.code yX5_authorisedOn cX5_authorisedOn 3 (some .int), Cond.fieldLink RX5 52 "Nestedfare" "showRate" "I", Cond.methodLink RX5 225 yX5_seatsOf, Cond.instanceMethod yX5_seatsOf, Cond.selects RX5 yX5_seatsOf yX5_seatsOf]
def wsL_ask_r3 : List Cond := [Cond.code yX5_seatsOf cX5_seatsOf 2 (some .int), Cond.fieldLink RX5 9 "Nestedfare" "seats" "[I", Cond.methodLink RX5 131 yX5_refuse, Cond.instanceMethod yX5_refuse, Cond.selects RX5 yX5_refuse yX5_refuse, Cond.code yX5_refuse cX5_refuse 2 (some .int), Cond.fieldLink RX5 55 "Nestedfare" "refusedFull" "I", Cond.fieldLink RX5 58 "Nestedfare" "refusedProtected" "I", Cond.fieldLink RX5 61 "Nestedfare" "refusedBelow" "I", Cond.methodLink RX5 135 yX5_isProtected, Cond.instanceMethod yX5_isProtected, Cond.selects RX5 yX5_isProtected yX5_isProtected, Cond.code yX5_isProtected cX5_isProtected 3 (some .boolean), Cond.methodLink RX5 199 yX5_protectedOn, Cond.instanceMethod yX5_protectedOn, Cond.selects RX5 yX5_protectedOn yX5_protectedOn, Cond.code yX5_protectedOn cX5_protectedOn 8 (some .int), Cond.fieldLink RX5 49 "Nestedfare" "pastDays" "I", Cond.instanceMethod yX2_covers, Cond.initialized RX2, Cond.selects RX2 yX2_covers yX2_covers, Cond.code yX2_covers cX2_covers 2 (some .boolean), Cond.fieldLink RX2 25 "Nestedfare$Product" "first" "I", Cond.fieldLink RX2 28 "Nestedfare$Product" "last" "I"]
def wsL_ask_r4 : List Cond := [Cond.instanceMethod yX2_protectedAgainst, Cond.selects RX2 yX2_protectedAgainst yX2_protectedAgainst, Cond.code yX2_protectedAgainst cX2_protectedAgainst 8 (some .int), Cond.fieldLink RX2 9 "Nestedfare$Product" "daysByAsked" "[I", Cond.fieldLink RX2 31 "Nestedfare$Product" "fare" "I", Cond.methodLink RX5 147 yX5_bidsOver, Cond.instanceMethod yX5_bidsOver, Cond.selects RX5 yX5_bidsOver yX5_bidsOver, Cond.code yX5_bidsOver cX5_bidsOver 6 (some .int), Cond.methodLink RX5 202 yX5_worthWithMore, Cond.instanceMethod yX5_worthWithMore, Cond.selects RX5 yX5_worthWithMore yX5_worthWithMore, Cond.code yX5_worthWithMore cX5_worthWithMore 8 (some .int), Cond.fieldLink RX5 31 "Nestedfare" "demand" "LNestedfare$Demand;", Cond.fieldLink RX5 19 "Nestedfare" "dearestFirst" "[LNestedfare$Product;", Cond.instanceMethod yX1_clear, Cond.initialized RX1, Cond.selects RX1 yX1_clear yX1_clear, Cond.code yX1_clear cX1_clear 1 none, Cond.fieldLink RX1 10 "Nestedfare$Demand" "leg0" "LNestedfare$Queue;", Cond.fieldLink RX1 16 "Nestedfare$Demand" "leg1" "LNestedfare$Queue;", Cond.fieldLink RX1 19 "Nestedfare$Demand" "leg2" "LNestedfare$Queue;", Cond.fieldLink RX1 22 "Nestedfare$Demand" "legs01" "LNestedfare$Queue;", Cond.fieldLink RX1 25 "Nestedfare$Demand" "legs12" "LNestedfare$Queue;"]
def wsL_ask_r5 : List Cond := [Cond.fieldLink RX1 28 "Nestedfare$Demand" "legs012" "LNestedfare$Queue;", Cond.instanceMethod yX1_add, Cond.selects RX1 yX1_add yX1_add, Cond.code yX1_add cX1_add 2 none, Cond.methodLink RX1 43 yX1_queueOf, Cond.instanceMethod yX1_queueOf, Cond.selects RX1 yX1_queueOf yX1_queueOf, Cond.code yX1_queueOf cX1_queueOf 3 (some (.object "Nestedfare$Queue")), Cond.instanceMethod yX2_toCome, Cond.selects RX2 yX2_toCome yX2_toCome, Cond.code yX2_toCome cX2_toCome 1 (some .int), Cond.fieldLink RX2 15 "Nestedfare$Product" "expectedToday" "I", Cond.fieldLink RX2 19 "Nestedfare$Product" "askedToday" "I", Cond.methodLink RX2 34 Lib.Math.max.name, Cond.static Lib.Math.max.name, Cond.initialized "java/lang/Math", Cond.code Lib.Math.max.name Lib.Math.max.code 2 (some .int), Cond.instanceMethod yX3_add, Cond.initialized RX3, Cond.selects RX3 yX3_add yX3_add, Cond.code yX3_add cX3_add 4 none, Cond.fieldLink RX3 15 "Nestedfare$Queue" "length" "I", Cond.fieldLink RX3 9 "Nestedfare$Queue" "sums" "[I", Cond.methodLink RX5 205 yX5_leftOn]
def wsL_ask_r6 : List Cond := [Cond.instanceMethod yX5_leftOn, Cond.selects RX5 yX5_leftOn yX5_leftOn, Cond.code yX5_leftOn cX5_leftOn 2 (some .int), Cond.methodLink RX5 231 Lib.Math.max.name, Cond.methodLink RX5 68 yX5_within, Cond.static yX5_within, Cond.code yX5_within cX5_within 3 (some .boolean), Cond.instanceMethod yX1_mostFor, Cond.selects RX1 yX1_mostFor yX1_mostFor, Cond.code yX1_mostFor cX1_mostFor 7 (some .int), Cond.methodLink RX1 58 Lib.Math.min.name, Cond.static Lib.Math.min.name, Cond.code Lib.Math.min.name Lib.Math.min.code 2 (some .int), Cond.methodLink RX1 72 Lib.Math.max.name, Cond.instanceMethod yX3_mostFor, Cond.selects RX3 yX3_mostFor yX3_mostFor, Cond.code yX3_mostFor cX3_mostFor 3 (some .int), Cond.methodLink RX1 68 yX1_mostOfShorter, Cond.instanceMethod yX1_mostOfShorter, Cond.selects RX1 yX1_mostOfShorter yX1_mostOfShorter, Cond.code yX1_mostOfShorter cX1_mostOfShorter 8 (some .int), Cond.methodLink RX1 75 yX1_mostBehind, Cond.instanceMethod yX1_mostBehind, Cond.selects RX1 yX1_mostBehind yX1_mostBehind]
def wsL_ask_r7 : List Cond := [Cond.code yX1_mostBehind cX1_mostBehind 6 (some .int), Cond.instanceMethod yX0_init, Cond.code yX0_init cX0_init 5 none, Cond.methodLink RX0 1 objectInit, Cond.instanceMethod objectInit, Cond.code objectInit ⟨#[0xb1]⟩ 1 none, Cond.fieldLink RX0 23 "Nestedfare$Booking" "price" "I", Cond.methodLink RX5 152 yX5_enter, Cond.instanceMethod yX5_enter, Cond.selects RX5 yX5_enter yX5_enter, Cond.code yX5_enter cX5_enter 3 (some .int)]
def wsL_ask : List Cond := .codeWith yL_ask cL_ask 4 (some .int) [(0, 9, 12, 19), (0, 9, 15, 21)] :: ((wsL_ask_r1 ++ (wsL_ask_r2 ++ (wsL_ask_r3 ++ (wsL_ask_r4 ++ (wsL_ask_r5 ++ (wsL_ask_r6 ++ wsL_ask_r7)))))) ++ wsX50 ++ wsX20 ++ wsX00 ++ wsX10 ++ wsX30 ++ (vx_atS RX5 91 "java/lang/IndexOutOfBoundsException" ["java/lang/RuntimeException", "java/lang/Exception"]).filter goodWord ++ (vx_atS RX5 101 "java/lang/IllegalStateException" ["java/lang/RuntimeException", "java/lang/Exception"]).filter goodWord)
def wsL_group_r1 : List Cond := [Cond.classLink RL 19 "java/lang/IndexOutOfBoundsException", Cond.classLink RL 13 "java/lang/IllegalArgumentException", Cond.classLink RL 21 "java/lang/IllegalStateException", Cond.methodLink RL 34 yX5_group, Cond.instanceMethod yX5_group, Cond.selects RX5 yX5_group yX5_group, Cond.initialized RX5, Cond.code yX5_group cX5_group 6 (some .int), Cond.classLink RX5 87 "java/lang/IndexOutOfBoundsException", Cond.initialized "java/lang/IndexOutOfBoundsException", Cond.classLink RX5 72 "java/lang/IllegalArgumentException", Cond.initialized "java/lang/IllegalArgumentException", Cond.classLink RX5 97 "java/lang/IllegalStateException", Cond.initialized "java/lang/IllegalStateException", Cond.fieldLink RX5 46 "Nestedfare" "bookingCount" "I", Cond.classLink RX5 22 RX0, Cond.instantiable RX0 5, Cond.initialized RX0, Cond.methodLink RX5 83 yX5_isLeg, Cond.static yX5_isLeg, Cond.code yX5_isLeg cX5_isLeg 1 (some .boolean), Cond.methodLink RX5 68 yX5_within, Cond.static yX5_within, Cond.code yX5_within cX5_within 3 (some .boolean)]
def wsL_group_r2 : List Cond := [Cond.methodLink RX5 158 yX5_hasLeft, Cond.instanceMethod yX5_hasLeft, Cond.selects RX5 yX5_hasLeft yX5_hasLeft, Cond.code yX5_hasLeft cX5_hasLeft 5 (some .boolean), Cond.methodLink RX5 205 yX5_leftOn, Cond.instanceMethod yX5_leftOn, Cond.selects RX5 yX5_leftOn yX5_leftOn, Cond.code yX5_leftOn cX5_leftOn 2 (some .int), Cond.methodLink RX5 231 Lib.Math.max.name, Cond.static Lib.Math.max.name, Cond.initialized "java/lang/Math", Cond.code Lib.Math.max.name Lib.Math.max.code 2 (some .int), Cond.methodLink RX5 225 yX5_seatsOf, Cond.instanceMethod yX5_seatsOf, Cond.selects RX5 yX5_seatsOf yX5_seatsOf, Cond.code yX5_seatsOf cX5_seatsOf 2 (some .int), Cond.fieldLink RX5 9 "Nestedfare" "seats" "[I", Cond.methodLink RX5 191 yX5_bookedOn, Cond.instanceMethod yX5_bookedOn, Cond.selects RX5 yX5_bookedOn yX5_bookedOn, Cond.code yX5_bookedOn cX5_bookedOn 5 (some .int), Cond.methodLink RX5 165 yX5_bookingAt, Cond.instanceMethod yX5_bookingAt, Cond.selects RX5 yX5_bookingAt yX5_bookingAt]
def wsL_group_r3 : List Cond := [Cond.code yX5_bookingAt cX5_bookingAt 2 (some (.object "Nestedfare$Booking")), Cond.fieldLink RX5 24 "Nestedfare" "bookings" "[LNestedfare$Booking;", Cond.instanceMethod yX0_seatsOn, Cond.selects RX0 yX0_seatsOn yX0_seatsOn, Cond.code yX0_seatsOn cX0_seatsOn 2 (some .int), Cond.fieldLink RX0 7 "Nestedfare$Booking" "cancelled" "Z", Cond.fieldLink RX0 13 "Nestedfare$Booking" "first" "I", Cond.fieldLink RX0 17 "Nestedfare$Booking" "last" "I", Cond.fieldLink RX0 20 "Nestedfare$Booking" "seats" "I", Cond.methodLink RX5 131 yX5_refuse, Cond.instanceMethod yX5_refuse, Cond.selects RX5 yX5_refuse yX5_refuse, Cond.code yX5_refuse cX5_refuse 2 (some .int), Cond.fieldLink RX5 55 "Nestedfare" "refusedFull" "I", Cond.fieldLink RX5 58 "Nestedfare" "refusedProtected" "I", Cond.fieldLink RX5 61 "Nestedfare" "refusedBelow" "I", Cond.methodLink RX5 161 yX5_displacement, Cond.instanceMethod yX5_displacement, Cond.selects RX5 yX5_displacement yX5_displacement, Cond.code yX5_displacement cX5_displacement 4 (some .int), Cond.methodLink RX5 202 yX5_worthWithMore, Cond.instanceMethod yX5_worthWithMore, Cond.selects RX5 yX5_worthWithMore yX5_worthWithMore, Cond.code yX5_worthWithMore cX5_worthWithMore 8 (some .int)]
def wsL_group_r4 : List Cond := [Cond.fieldLink RX5 31 "Nestedfare" "demand" "LNestedfare$Demand;", Cond.fieldLink RX5 19 "Nestedfare" "dearestFirst" "[LNestedfare$Product;", Cond.instanceMethod yX1_clear, Cond.initialized RX1, Cond.selects RX1 yX1_clear yX1_clear, Cond.code yX1_clear cX1_clear 1 none, Cond.fieldLink RX1 10 "Nestedfare$Demand" "leg0" "LNestedfare$Queue;", Cond.fieldLink RX1 16 "Nestedfare$Demand" "leg1" "LNestedfare$Queue;", Cond.fieldLink RX1 19 "Nestedfare$Demand" "leg2" "LNestedfare$Queue;", Cond.fieldLink RX1 22 "Nestedfare$Demand" "legs01" "LNestedfare$Queue;", Cond.fieldLink RX1 25 "Nestedfare$Demand" "legs12" "LNestedfare$Queue;", Cond.fieldLink RX1 28 "Nestedfare$Demand" "legs012" "LNestedfare$Queue;", Cond.instanceMethod yX1_add, Cond.selects RX1 yX1_add yX1_add, Cond.code yX1_add cX1_add 2 none, Cond.methodLink RX1 43 yX1_queueOf, Cond.instanceMethod yX1_queueOf, Cond.selects RX1 yX1_queueOf yX1_queueOf, Cond.code yX1_queueOf cX1_queueOf 3 (some (.object "Nestedfare$Queue")), Cond.instanceMethod yX2_toCome, Cond.initialized RX2, Cond.selects RX2 yX2_toCome yX2_toCome, Cond.code yX2_toCome cX2_toCome 1 (some .int), Cond.fieldLink RX2 15 "Nestedfare$Product" "expectedToday" "I"]
def wsL_group_r5 : List Cond := [Cond.fieldLink RX2 19 "Nestedfare$Product" "askedToday" "I", Cond.methodLink RX2 34 Lib.Math.max.name, Cond.instanceMethod yX3_add, Cond.initialized RX3, Cond.selects RX3 yX3_add yX3_add, Cond.code yX3_add cX3_add 4 none, Cond.fieldLink RX3 15 "Nestedfare$Queue" "length" "I", Cond.fieldLink RX3 9 "Nestedfare$Queue" "sums" "[I", Cond.instanceMethod yX1_mostFor, Cond.selects RX1 yX1_mostFor yX1_mostFor, Cond.code yX1_mostFor cX1_mostFor 7 (some .int), Cond.methodLink RX1 58 Lib.Math.min.name, Cond.static Lib.Math.min.name, Cond.code Lib.Math.min.name Lib.Math.min.code 2 (some .int), Cond.methodLink RX1 72 Lib.Math.max.name, Cond.instanceMethod yX3_mostFor, Cond.selects RX3 yX3_mostFor yX3_mostFor, Cond.code yX3_mostFor cX3_mostFor 3 (some .int), Cond.methodLink RX1 68 yX1_mostOfShorter, Cond.instanceMethod yX1_mostOfShorter, Cond.selects RX1 yX1_mostOfShorter yX1_mostOfShorter, Cond.code yX1_mostOfShorter cX1_mostOfShorter 8 (some .int), Cond.methodLink RX1 75 yX1_mostBehind, Cond.instanceMethod yX1_mostBehind]
def wsL_group_r6 : List Cond := [Cond.selects RX1 yX1_mostBehind yX1_mostBehind, Cond.code yX1_mostBehind cX1_mostBehind 6 (some .int), Cond.instanceMethod yX0_init, Cond.code yX0_init cX0_init 5 none, Cond.methodLink RX0 1 objectInit, Cond.instanceMethod objectInit, Cond.code objectInit ⟨#[0xb1]⟩ 1 none, Cond.fieldLink RX0 23 "Nestedfare$Booking" "price" "I", Cond.methodLink RX5 152 yX5_enter, Cond.instanceMethod yX5_enter, Cond.selects RX5 yX5_enter yX5_enter, Cond.code yX5_enter cX5_enter 3 (some .int)]
def wsL_group : List Cond := .codeWith yL_group cL_group 7 (some .int) [(0, 14, 17, 19), (0, 14, 21, 13), (0, 14, 25, 21)] :: ((wsL_group_r1 ++ (wsL_group_r2 ++ (wsL_group_r3 ++ (wsL_group_r4 ++ (wsL_group_r5 ++ wsL_group_r6))))) ++ wsX50 ++ wsX00 ++ wsX10 ++ wsX30 ++ wsX20 ++ (vx_atS RX5 91 "java/lang/IndexOutOfBoundsException" ["java/lang/RuntimeException", "java/lang/Exception"]).filter goodWord ++ (vx_atS RX5 76 "java/lang/IllegalArgumentException" ["java/lang/RuntimeException", "java/lang/Exception"]).filter goodWord ++ (vx_atS RX5 101 "java/lang/IllegalStateException" ["java/lang/RuntimeException", "java/lang/Exception"]).filter goodWord)
def wsL_cancel : List Cond := .codeWith yL_cancel cL_cancel 4 (some .int) [(0, 9, 12, 19), (0, 9, 15, 21)] :: ([.classLink RL 19 "java/lang/IndexOutOfBoundsException", .classLink RL 21 "java/lang/IllegalStateException", .methodLink RL 38 yX5_cancel, .instanceMethod yX5_cancel, .selects RX5 yX5_cancel yX5_cancel, .initialized RX5, .code yX5_cancel cX5_cancel 3 (some .int), .classLink RX5 87 "java/lang/IndexOutOfBoundsException", .initialized "java/lang/IndexOutOfBoundsException", .classLink RX5 97 "java/lang/IllegalStateException", .initialized "java/lang/IllegalStateException", .methodLink RX5 165 yX5_bookingAt, .instanceMethod yX5_bookingAt, .selects RX5 yX5_bookingAt yX5_bookingAt, .code yX5_bookingAt cX5_bookingAt 2 (some (.object "Nestedfare$Booking")), .fieldLink RX5 46 "Nestedfare" "bookingCount" "I", .fieldLink RX5 24 "Nestedfare" "bookings" "[LNestedfare$Booking;"] ++ wsX00 ++ wsX50 ++ (vx_atS RX5 91 "java/lang/IndexOutOfBoundsException" ["java/lang/RuntimeException", "java/lang/Exception"]).filter goodWord ++ (vx_atS RX5 101 "java/lang/IllegalStateException" ["java/lang/RuntimeException", "java/lang/Exception"]).filter goodWord)
def wsL_endDay_r1 : List Cond := [Cond.classLink RL 13 "java/lang/IllegalArgumentException", Cond.methodLink RL 41 yX5_endDay, Cond.instanceMethod yX5_endDay, Cond.selects RX5 yX5_endDay yX5_endDay, Cond.initialized RX5, Cond.code yX5_endDay cX5_endDay 4 (some .int), Cond.classLink RX5 72 "java/lang/IllegalArgumentException", Cond.initialized "java/lang/IllegalArgumentException", Cond.fieldLink RX5 64 "Nestedfare" "earnedBefore" "J", Cond.fieldLink RX5 46 "Nestedfare" "bookingCount" "I", Cond.methodLink RX5 68 yX5_within, Cond.static yX5_within, Cond.code yX5_within cX5_within 3 (some .boolean), Cond.methodLink RX5 181 yX5_deniedOn, Cond.instanceMethod yX5_deniedOn, Cond.selects RX5 yX5_deniedOn yX5_deniedOn, Cond.code yX5_deniedOn cX5_deniedOn 4 (some .int), Cond.methodLink RX5 231 Lib.Math.max.name, Cond.static Lib.Math.max.name, Cond.initialized "java/lang/Math", Cond.code Lib.Math.max.name Lib.Math.max.code 2 (some .int), Cond.methodLink RX5 191 yX5_bookedOn, Cond.instanceMethod yX5_bookedOn, Cond.selects RX5 yX5_bookedOn yX5_bookedOn]
def wsL_endDay_r2 : List Cond := [Cond.code yX5_bookedOn cX5_bookedOn 5 (some .int), Cond.methodLink RX5 165 yX5_bookingAt, Cond.instanceMethod yX5_bookingAt, Cond.selects RX5 yX5_bookingAt yX5_bookingAt, Cond.code yX5_bookingAt cX5_bookingAt 2 (some (.object "Nestedfare$Booking")), Cond.fieldLink RX5 24 "Nestedfare" "bookings" "[LNestedfare$Booking;", Cond.instanceMethod yX0_seatsOn, Cond.initialized RX0, Cond.selects RX0 yX0_seatsOn yX0_seatsOn, Cond.code yX0_seatsOn cX0_seatsOn 2 (some .int), Cond.fieldLink RX0 7 "Nestedfare$Booking" "cancelled" "Z", Cond.fieldLink RX0 13 "Nestedfare$Booking" "first" "I", Cond.fieldLink RX0 17 "Nestedfare$Booking" "last" "I", Cond.fieldLink RX0 20 "Nestedfare$Booking" "seats" "I", Cond.methodLink RX5 225 yX5_seatsOf, Cond.instanceMethod yX5_seatsOf, Cond.selects RX5 yX5_seatsOf yX5_seatsOf, Cond.code yX5_seatsOf cX5_seatsOf 2 (some .int), Cond.fieldLink RX5 9 "Nestedfare" "seats" "[I", Cond.methodLink RX5 184 yX5_faresOfToday, Cond.instanceMethod yX5_faresOfToday, Cond.selects RX5 yX5_faresOfToday yX5_faresOfToday, Cond.code yX5_faresOfToday cX5_faresOfToday 4 (some .int), Cond.methodLink RX5 188 yX5_learn]
def wsL_endDay_r3 : List Cond := [Cond.instanceMethod yX5_learn, Cond.selects RX5 yX5_learn yX5_learn, Cond.code yX5_learn cX5_learn 5 none, Cond.fieldLink RX5 49 "Nestedfare" "pastDays" "I", Cond.fieldLink RX5 15 "Nestedfare" "offered" "[LNestedfare$Product;", Cond.instanceMethod yX2_learn, Cond.initialized RX2, Cond.selects RX2 yX2_learn yX2_learn, Cond.code yX2_learn cX2_learn 3 none, Cond.fieldLink RX2 19 "Nestedfare$Product" "askedToday" "I", Cond.methodLink RX2 40 Lib.Math.min.name, Cond.static Lib.Math.min.name, Cond.code Lib.Math.min.name Lib.Math.min.code 2 (some .int), Cond.fieldLink RX2 9 "Nestedfare$Product" "daysByAsked" "[I", Cond.fieldLink RX2 22 "Nestedfare$Product" "askedBefore" "I", Cond.fieldLink RX2 15 "Nestedfare$Product" "expectedToday" "I"]
def wsL_endDay : List Cond := .codeWith yL_endDay cL_endDay 4 (some .int) [(0, 9, 12, 13)] :: ((wsL_endDay_r1 ++ (wsL_endDay_r2 ++ wsL_endDay_r3)) ++ wsX50 ++ wsX00 ++ wsX20 ++ (vx_atS RX5 76 "java/lang/IllegalArgumentException" ["java/lang/RuntimeException", "java/lang/Exception"]).filter goodWord)
def wsL_booked_r1 : List Cond := [Cond.classLink RL 19 "java/lang/IndexOutOfBoundsException", Cond.methodLink RL 44 yX5_booked, Cond.instanceMethod yX5_booked, Cond.selects RX5 yX5_booked yX5_booked, Cond.initialized RX5, Cond.code yX5_booked cX5_booked 2 (some .int), Cond.classLink RX5 87 "java/lang/IndexOutOfBoundsException", Cond.initialized "java/lang/IndexOutOfBoundsException", Cond.methodLink RX5 83 yX5_isLeg, Cond.static yX5_isLeg, Cond.code yX5_isLeg cX5_isLeg 1 (some .boolean), Cond.methodLink RX5 68 yX5_within, Cond.static yX5_within, Cond.code yX5_within cX5_within 3 (some .boolean), Cond.methodLink RX5 191 yX5_bookedOn, Cond.instanceMethod yX5_bookedOn, Cond.selects RX5 yX5_bookedOn yX5_bookedOn, Cond.code yX5_bookedOn cX5_bookedOn 5 (some .int), Cond.fieldLink RX5 46 "Nestedfare" "bookingCount" "I", Cond.methodLink RX5 165 yX5_bookingAt, Cond.instanceMethod yX5_bookingAt, Cond.selects RX5 yX5_bookingAt yX5_bookingAt, Cond.code yX5_bookingAt cX5_bookingAt 2 (some (.object "Nestedfare$Booking")), Cond.fieldLink RX5 24 "Nestedfare" "bookings" "[LNestedfare$Booking;"]
def wsL_booked_r2 : List Cond := [Cond.instanceMethod yX0_seatsOn, Cond.initialized RX0, Cond.selects RX0 yX0_seatsOn yX0_seatsOn, Cond.code yX0_seatsOn cX0_seatsOn 2 (some .int), Cond.fieldLink RX0 7 "Nestedfare$Booking" "cancelled" "Z", Cond.fieldLink RX0 13 "Nestedfare$Booking" "first" "I", Cond.fieldLink RX0 17 "Nestedfare$Booking" "last" "I", Cond.fieldLink RX0 20 "Nestedfare$Booking" "seats" "I"]
def wsL_booked : List Cond := .codeWith yL_booked cL_booked 4 (some .int) [(0, 9, 12, 19)] :: ((wsL_booked_r1 ++ wsL_booked_r2) ++ wsX50 ++ wsX00 ++ (vx_atS RX5 91 "java/lang/IndexOutOfBoundsException" ["java/lang/RuntimeException", "java/lang/Exception"]).filter goodWord)
def wsL_authorised : List Cond := .codeWith yL_authorised cL_authorised 4 (some .int) [(0, 9, 12, 19)] :: ([.classLink RL 19 "java/lang/IndexOutOfBoundsException", .methodLink RL 47 yX5_authorised, .instanceMethod yX5_authorised, .selects RX5 yX5_authorised yX5_authorised, .initialized RX5, .code yX5_authorised cX5_authorised 2 (some .int), .classLink RX5 87 "java/lang/IndexOutOfBoundsException", .initialized "java/lang/IndexOutOfBoundsException", .methodLink RX5 83 yX5_isLeg, .static yX5_isLeg, .code yX5_isLeg cX5_isLeg 1 (some .boolean), .methodLink RX5 68 yX5_within, .static yX5_within, .code yX5_within cX5_within 3 (some .boolean), .methodLink RX5 194 yX5_authorisedOn, .instanceMethod yX5_authorisedOn, .selects RX5 yX5_authorisedOn yX5_authorisedOn, .code yX5_authorisedOn cX5_authorisedOn 3 (some .int), .fieldLink RX5 52 "Nestedfare" "showRate" "I", .methodLink RX5 225 yX5_seatsOf, .instanceMethod yX5_seatsOf, .selects RX5 yX5_seatsOf yX5_seatsOf, .code yX5_seatsOf cX5_seatsOf 2 (some .int), .fieldLink RX5 9 "Nestedfare" "seats" "[I"] ++ wsX50 ++ (vx_atS RX5 91 "java/lang/IndexOutOfBoundsException" ["java/lang/RuntimeException", "java/lang/Exception"]).filter goodWord)
def wsL_protectedSeats_r1 : List Cond := [Cond.classLink RL 19 "java/lang/IndexOutOfBoundsException", Cond.classLink RL 13 "java/lang/IllegalArgumentException", Cond.methodLink RL 50 yX5_protectedSeats, Cond.instanceMethod yX5_protectedSeats, Cond.selects RX5 yX5_protectedSeats yX5_protectedSeats, Cond.initialized RX5, Cond.code yX5_protectedSeats cX5_protectedSeats 3 (some .int), Cond.classLink RX5 87 "java/lang/IndexOutOfBoundsException", Cond.initialized "java/lang/IndexOutOfBoundsException", Cond.classLink RX5 72 "java/lang/IllegalArgumentException", Cond.initialized "java/lang/IllegalArgumentException", Cond.methodLink RX5 83 yX5_isLeg, Cond.static yX5_isLeg, Cond.code yX5_isLeg cX5_isLeg 1 (some .boolean), Cond.methodLink RX5 68 yX5_within, Cond.static yX5_within, Cond.code yX5_within cX5_within 3 (some .boolean), Cond.methodLink RX5 199 yX5_protectedOn, Cond.instanceMethod yX5_protectedOn, Cond.selects RX5 yX5_protectedOn yX5_protectedOn, Cond.code yX5_protectedOn cX5_protectedOn 8 (some .int), Cond.fieldLink RX5 15 "Nestedfare" "offered" "[LNestedfare$Product;", Cond.fieldLink RX5 49 "Nestedfare" "pastDays" "I", Cond.instanceMethod yX2_covers]
def wsL_protectedSeats_r2 : List Cond := [Cond.initialized RX2, Cond.selects RX2 yX2_covers yX2_covers, Cond.code yX2_covers cX2_covers 2 (some .boolean), Cond.fieldLink RX2 25 "Nestedfare$Product" "first" "I", Cond.fieldLink RX2 28 "Nestedfare$Product" "last" "I", Cond.instanceMethod yX2_protectedAgainst, Cond.selects RX2 yX2_protectedAgainst yX2_protectedAgainst, Cond.code yX2_protectedAgainst cX2_protectedAgainst 8 (some .int), Cond.fieldLink RX2 9 "Nestedfare$Product" "daysByAsked" "[I", Cond.fieldLink RX2 31 "Nestedfare$Product" "fare" "I"]
def wsL_protectedSeats : List Cond := .codeWith yL_protectedSeats cL_protectedSeats 5 (some .int) [(0, 10, 13, 19), (0, 10, 17, 13)] :: ((wsL_protectedSeats_r1 ++ wsL_protectedSeats_r2) ++ wsX50 ++ wsX20 ++ (vx_atS RX5 91 "java/lang/IndexOutOfBoundsException" ["java/lang/RuntimeException", "java/lang/Exception"]).filter goodWord ++ (vx_atS RX5 76 "java/lang/IllegalArgumentException" ["java/lang/RuntimeException", "java/lang/Exception"]).filter goodWord)
def wsL_bid_r1 : List Cond := [Cond.classLink RL 19 "java/lang/IndexOutOfBoundsException", Cond.methodLink RL 53 yX5_bid, Cond.instanceMethod yX5_bid, Cond.selects RX5 yX5_bid yX5_bid, Cond.initialized RX5, Cond.code yX5_bid cX5_bid 2 (some .int), Cond.classLink RX5 87 "java/lang/IndexOutOfBoundsException", Cond.initialized "java/lang/IndexOutOfBoundsException", Cond.methodLink RX5 83 yX5_isLeg, Cond.static yX5_isLeg, Cond.code yX5_isLeg cX5_isLeg 1 (some .boolean), Cond.methodLink RX5 68 yX5_within, Cond.static yX5_within, Cond.code yX5_within cX5_within 3 (some .boolean), Cond.methodLink RX5 147 yX5_bidsOver, Cond.instanceMethod yX5_bidsOver, Cond.selects RX5 yX5_bidsOver yX5_bidsOver, Cond.code yX5_bidsOver cX5_bidsOver 6 (some .int), Cond.methodLink RX5 202 yX5_worthWithMore, Cond.instanceMethod yX5_worthWithMore, Cond.selects RX5 yX5_worthWithMore yX5_worthWithMore, Cond.code yX5_worthWithMore cX5_worthWithMore 8 (some .int), Cond.fieldLink RX5 31 "Nestedfare" "demand" "LNestedfare$Demand;", Cond.fieldLink RX5 19 "Nestedfare" "dearestFirst" "[LNestedfare$Product;"]
def wsL_bid_r2 : List Cond := [Cond.instanceMethod yX1_clear, Cond.initialized RX1, Cond.selects RX1 yX1_clear yX1_clear, Cond.code yX1_clear cX1_clear 1 none, Cond.fieldLink RX1 10 "Nestedfare$Demand" "leg0" "LNestedfare$Queue;", Cond.fieldLink RX1 16 "Nestedfare$Demand" "leg1" "LNestedfare$Queue;", Cond.fieldLink RX1 19 "Nestedfare$Demand" "leg2" "LNestedfare$Queue;", Cond.fieldLink RX1 22 "Nestedfare$Demand" "legs01" "LNestedfare$Queue;", Cond.fieldLink RX1 25 "Nestedfare$Demand" "legs12" "LNestedfare$Queue;", Cond.fieldLink RX1 28 "Nestedfare$Demand" "legs012" "LNestedfare$Queue;", Cond.instanceMethod yX1_add, Cond.selects RX1 yX1_add yX1_add, Cond.code yX1_add cX1_add 2 none, Cond.methodLink RX1 43 yX1_queueOf, Cond.instanceMethod yX1_queueOf, Cond.selects RX1 yX1_queueOf yX1_queueOf, Cond.code yX1_queueOf cX1_queueOf 3 (some (.object "Nestedfare$Queue")), Cond.instanceMethod yX2_toCome, Cond.initialized RX2, Cond.selects RX2 yX2_toCome yX2_toCome, Cond.code yX2_toCome cX2_toCome 1 (some .int), Cond.fieldLink RX2 15 "Nestedfare$Product" "expectedToday" "I", Cond.fieldLink RX2 19 "Nestedfare$Product" "askedToday" "I", Cond.methodLink RX2 34 Lib.Math.max.name]
def wsL_bid_r3 : List Cond := [Cond.static Lib.Math.max.name, Cond.initialized "java/lang/Math", Cond.code Lib.Math.max.name Lib.Math.max.code 2 (some .int), Cond.instanceMethod yX3_add, Cond.initialized RX3, Cond.selects RX3 yX3_add yX3_add, Cond.code yX3_add cX3_add 4 none, Cond.fieldLink RX3 15 "Nestedfare$Queue" "length" "I", Cond.fieldLink RX3 9 "Nestedfare$Queue" "sums" "[I", Cond.methodLink RX5 205 yX5_leftOn, Cond.instanceMethod yX5_leftOn, Cond.selects RX5 yX5_leftOn yX5_leftOn, Cond.code yX5_leftOn cX5_leftOn 2 (some .int), Cond.methodLink RX5 231 Lib.Math.max.name, Cond.methodLink RX5 225 yX5_seatsOf, Cond.instanceMethod yX5_seatsOf, Cond.selects RX5 yX5_seatsOf yX5_seatsOf, Cond.code yX5_seatsOf cX5_seatsOf 2 (some .int), Cond.fieldLink RX5 9 "Nestedfare" "seats" "[I", Cond.methodLink RX5 191 yX5_bookedOn, Cond.instanceMethod yX5_bookedOn, Cond.selects RX5 yX5_bookedOn yX5_bookedOn, Cond.code yX5_bookedOn cX5_bookedOn 5 (some .int), Cond.fieldLink RX5 46 "Nestedfare" "bookingCount" "I"]
def wsL_bid_r4 : List Cond := [Cond.methodLink RX5 165 yX5_bookingAt, Cond.instanceMethod yX5_bookingAt, Cond.selects RX5 yX5_bookingAt yX5_bookingAt, Cond.code yX5_bookingAt cX5_bookingAt 2 (some (.object "Nestedfare$Booking")), Cond.fieldLink RX5 24 "Nestedfare" "bookings" "[LNestedfare$Booking;", Cond.instanceMethod yX0_seatsOn, Cond.initialized RX0, Cond.selects RX0 yX0_seatsOn yX0_seatsOn, Cond.code yX0_seatsOn cX0_seatsOn 2 (some .int), Cond.fieldLink RX0 7 "Nestedfare$Booking" "cancelled" "Z", Cond.fieldLink RX0 13 "Nestedfare$Booking" "first" "I", Cond.fieldLink RX0 17 "Nestedfare$Booking" "last" "I", Cond.fieldLink RX0 20 "Nestedfare$Booking" "seats" "I", Cond.instanceMethod yX1_mostFor, Cond.selects RX1 yX1_mostFor yX1_mostFor, Cond.code yX1_mostFor cX1_mostFor 7 (some .int), Cond.methodLink RX1 58 Lib.Math.min.name, Cond.static Lib.Math.min.name, Cond.code Lib.Math.min.name Lib.Math.min.code 2 (some .int), Cond.methodLink RX1 72 Lib.Math.max.name, Cond.instanceMethod yX3_mostFor, Cond.selects RX3 yX3_mostFor yX3_mostFor, Cond.code yX3_mostFor cX3_mostFor 3 (some .int), Cond.methodLink RX1 68 yX1_mostOfShorter]
def wsL_bid_r5 : List Cond := [Cond.instanceMethod yX1_mostOfShorter, Cond.selects RX1 yX1_mostOfShorter yX1_mostOfShorter, Cond.code yX1_mostOfShorter cX1_mostOfShorter 8 (some .int), Cond.methodLink RX1 75 yX1_mostBehind, Cond.instanceMethod yX1_mostBehind, Cond.selects RX1 yX1_mostBehind yX1_mostBehind, Cond.code yX1_mostBehind cX1_mostBehind 6 (some .int)]
def wsL_bid : List Cond := .codeWith yL_bid cL_bid 4 (some .int) [(0, 9, 12, 19)] :: ((wsL_bid_r1 ++ (wsL_bid_r2 ++ (wsL_bid_r3 ++ (wsL_bid_r4 ++ wsL_bid_r5)))) ++ wsX50 ++ wsX10 ++ wsX30 ++ wsX20 ++ wsX00 ++ (vx_atS RX5 91 "java/lang/IndexOutOfBoundsException" ["java/lang/RuntimeException", "java/lang/Exception"]).filter goodWord)
def wsL_displaced_r1 : List Cond := [Cond.classLink RL 19 "java/lang/IndexOutOfBoundsException", Cond.classLink RL 13 "java/lang/IllegalArgumentException", Cond.methodLink RL 56 yX5_displaced, Cond.instanceMethod yX5_displaced, Cond.selects RX5 yX5_displaced yX5_displaced, Cond.initialized RX5, Cond.code yX5_displaced cX5_displaced 4 (some .int), Cond.classLink RX5 87 "java/lang/IndexOutOfBoundsException", Cond.initialized "java/lang/IndexOutOfBoundsException", Cond.classLink RX5 72 "java/lang/IllegalArgumentException", Cond.initialized "java/lang/IllegalArgumentException", Cond.methodLink RX5 83 yX5_isLeg, Cond.static yX5_isLeg, Cond.code yX5_isLeg cX5_isLeg 1 (some .boolean), Cond.methodLink RX5 68 yX5_within, Cond.static yX5_within, Cond.code yX5_within cX5_within 3 (some .boolean), Cond.methodLink RX5 158 yX5_hasLeft, Cond.instanceMethod yX5_hasLeft, Cond.selects RX5 yX5_hasLeft yX5_hasLeft, Cond.code yX5_hasLeft cX5_hasLeft 5 (some .boolean), Cond.methodLink RX5 205 yX5_leftOn, Cond.instanceMethod yX5_leftOn, Cond.selects RX5 yX5_leftOn yX5_leftOn]
def wsL_displaced_r2 : List Cond := [Cond.code yX5_leftOn cX5_leftOn 2 (some .int), Cond.methodLink RX5 231 Lib.Math.max.name, Cond.static Lib.Math.max.name, Cond.initialized "java/lang/Math", Cond.code Lib.Math.max.name Lib.Math.max.code 2 (some .int), Cond.methodLink RX5 225 yX5_seatsOf, Cond.instanceMethod yX5_seatsOf, Cond.selects RX5 yX5_seatsOf yX5_seatsOf, Cond.code yX5_seatsOf cX5_seatsOf 2 (some .int), Cond.fieldLink RX5 9 "Nestedfare" "seats" "[I", Cond.methodLink RX5 191 yX5_bookedOn, Cond.instanceMethod yX5_bookedOn, Cond.selects RX5 yX5_bookedOn yX5_bookedOn, Cond.code yX5_bookedOn cX5_bookedOn 5 (some .int), Cond.fieldLink RX5 46 "Nestedfare" "bookingCount" "I", Cond.methodLink RX5 165 yX5_bookingAt, Cond.instanceMethod yX5_bookingAt, Cond.selects RX5 yX5_bookingAt yX5_bookingAt, Cond.code yX5_bookingAt cX5_bookingAt 2 (some (.object "Nestedfare$Booking")), Cond.fieldLink RX5 24 "Nestedfare" "bookings" "[LNestedfare$Booking;", Cond.instanceMethod yX0_seatsOn, Cond.initialized RX0, Cond.selects RX0 yX0_seatsOn yX0_seatsOn, Cond.code yX0_seatsOn cX0_seatsOn 2 (some .int)]
def wsL_displaced_r3 : List Cond := [Cond.fieldLink RX0 7 "Nestedfare$Booking" "cancelled" "Z", Cond.fieldLink RX0 13 "Nestedfare$Booking" "first" "I", Cond.fieldLink RX0 17 "Nestedfare$Booking" "last" "I", Cond.fieldLink RX0 20 "Nestedfare$Booking" "seats" "I", Cond.methodLink RX5 161 yX5_displacement, Cond.instanceMethod yX5_displacement, Cond.selects RX5 yX5_displacement yX5_displacement, Cond.code yX5_displacement cX5_displacement 4 (some .int), Cond.methodLink RX5 202 yX5_worthWithMore, Cond.instanceMethod yX5_worthWithMore, Cond.selects RX5 yX5_worthWithMore yX5_worthWithMore, Cond.code yX5_worthWithMore cX5_worthWithMore 8 (some .int), Cond.fieldLink RX5 31 "Nestedfare" "demand" "LNestedfare$Demand;", Cond.fieldLink RX5 19 "Nestedfare" "dearestFirst" "[LNestedfare$Product;", Cond.instanceMethod yX1_clear, Cond.initialized RX1, Cond.selects RX1 yX1_clear yX1_clear, Cond.code yX1_clear cX1_clear 1 none, Cond.fieldLink RX1 10 "Nestedfare$Demand" "leg0" "LNestedfare$Queue;", Cond.fieldLink RX1 16 "Nestedfare$Demand" "leg1" "LNestedfare$Queue;", Cond.fieldLink RX1 19 "Nestedfare$Demand" "leg2" "LNestedfare$Queue;", Cond.fieldLink RX1 22 "Nestedfare$Demand" "legs01" "LNestedfare$Queue;", Cond.fieldLink RX1 25 "Nestedfare$Demand" "legs12" "LNestedfare$Queue;", Cond.fieldLink RX1 28 "Nestedfare$Demand" "legs012" "LNestedfare$Queue;"]
def wsL_displaced_r4 : List Cond := [Cond.instanceMethod yX1_add, Cond.selects RX1 yX1_add yX1_add, Cond.code yX1_add cX1_add 2 none, Cond.methodLink RX1 43 yX1_queueOf, Cond.instanceMethod yX1_queueOf, Cond.selects RX1 yX1_queueOf yX1_queueOf, Cond.code yX1_queueOf cX1_queueOf 3 (some (.object "Nestedfare$Queue")), Cond.instanceMethod yX2_toCome, Cond.initialized RX2, Cond.selects RX2 yX2_toCome yX2_toCome, Cond.code yX2_toCome cX2_toCome 1 (some .int), Cond.fieldLink RX2 15 "Nestedfare$Product" "expectedToday" "I", Cond.fieldLink RX2 19 "Nestedfare$Product" "askedToday" "I", Cond.methodLink RX2 34 Lib.Math.max.name, Cond.instanceMethod yX3_add, Cond.initialized RX3, Cond.selects RX3 yX3_add yX3_add, Cond.code yX3_add cX3_add 4 none, Cond.fieldLink RX3 15 "Nestedfare$Queue" "length" "I", Cond.fieldLink RX3 9 "Nestedfare$Queue" "sums" "[I", Cond.instanceMethod yX1_mostFor, Cond.selects RX1 yX1_mostFor yX1_mostFor, Cond.code yX1_mostFor cX1_mostFor 7 (some .int), Cond.methodLink RX1 58 Lib.Math.min.name]
def wsL_displaced_r5 : List Cond := [Cond.static Lib.Math.min.name, Cond.code Lib.Math.min.name Lib.Math.min.code 2 (some .int), Cond.methodLink RX1 72 Lib.Math.max.name, Cond.instanceMethod yX3_mostFor, Cond.selects RX3 yX3_mostFor yX3_mostFor, Cond.code yX3_mostFor cX3_mostFor 3 (some .int), Cond.methodLink RX1 68 yX1_mostOfShorter, Cond.instanceMethod yX1_mostOfShorter, Cond.selects RX1 yX1_mostOfShorter yX1_mostOfShorter, Cond.code yX1_mostOfShorter cX1_mostOfShorter 8 (some .int), Cond.methodLink RX1 75 yX1_mostBehind, Cond.instanceMethod yX1_mostBehind, Cond.selects RX1 yX1_mostBehind yX1_mostBehind, Cond.code yX1_mostBehind cX1_mostBehind 6 (some .int)]
def wsL_displaced : List Cond := .codeWith yL_displaced cL_displaced 6 (some .int) [(0, 12, 15, 19), (0, 12, 19, 13)] :: ((wsL_displaced_r1 ++ (wsL_displaced_r2 ++ (wsL_displaced_r3 ++ (wsL_displaced_r4 ++ wsL_displaced_r5)))) ++ wsX50 ++ wsX00 ++ wsX10 ++ wsX30 ++ wsX20 ++ (vx_atS RX5 91 "java/lang/IndexOutOfBoundsException" ["java/lang/RuntimeException", "java/lang/Exception"]).filter goodWord ++ (vx_atS RX5 76 "java/lang/IllegalArgumentException" ["java/lang/RuntimeException", "java/lang/Exception"]).filter goodWord)
def wsL_expected : List Cond := .codeWith yL_expected cL_expected 4 (some .int) [(0, 9, 12, 19)] :: ([.classLink RL 19 "java/lang/IndexOutOfBoundsException", .methodLink RL 59 yX5_expected, .instanceMethod yX5_expected, .selects RX5 yX5_expected yX5_expected, .initialized RX5, .code yX5_expected cX5_expected 3 (some .int), .classLink RX5 87 "java/lang/IndexOutOfBoundsException", .initialized "java/lang/IndexOutOfBoundsException", .methodLink RX5 109 yX5_productAt, .instanceMethod yX5_productAt, .selects RX5 yX5_productAt yX5_productAt, .code yX5_productAt cX5_productAt 2 (some (.object "Nestedfare$Product")), .fieldLink RX5 15 "Nestedfare" "offered" "[LNestedfare$Product;"] ++ wsX20 ++ wsX50 ++ (vx_atS RX5 91 "java/lang/IndexOutOfBoundsException" ["java/lang/RuntimeException", "java/lang/Exception"]).filter goodWord)
def wsL_average : List Cond := .codeWith yL_average cL_average 4 (some .int) [(0, 9, 12, 19)] :: ([.classLink RL 19 "java/lang/IndexOutOfBoundsException", .methodLink RL 62 yX5_average, .instanceMethod yX5_average, .selects RX5 yX5_average yX5_average, .initialized RX5, .code yX5_average cX5_average 3 (some .float), .classLink RX5 87 "java/lang/IndexOutOfBoundsException", .initialized "java/lang/IndexOutOfBoundsException", .fieldLink RX5 49 "Nestedfare" "pastDays" "I", .methodLink RX5 109 yX5_productAt, .instanceMethod yX5_productAt, .selects RX5 yX5_productAt yX5_productAt, .code yX5_productAt cX5_productAt 2 (some (.object "Nestedfare$Product")), .fieldLink RX5 15 "Nestedfare" "offered" "[LNestedfare$Product;"] ++ wsX50 ++ wsX20 ++ (vx_atS RX5 91 "java/lang/IndexOutOfBoundsException" ["java/lang/RuntimeException", "java/lang/Exception"]).filter goodWord)
def wsL_asked : List Cond := .codeWith yL_asked cL_asked 4 (some .int) [(0, 9, 12, 19)] :: ([.classLink RL 19 "java/lang/IndexOutOfBoundsException", .methodLink RL 66 yX5_asked, .instanceMethod yX5_asked, .selects RX5 yX5_asked yX5_asked, .initialized RX5, .code yX5_asked cX5_asked 3 (some .int), .classLink RX5 87 "java/lang/IndexOutOfBoundsException", .initialized "java/lang/IndexOutOfBoundsException", .methodLink RX5 109 yX5_productAt, .instanceMethod yX5_productAt, .selects RX5 yX5_productAt yX5_productAt, .code yX5_productAt cX5_productAt 2 (some (.object "Nestedfare$Product")), .fieldLink RX5 15 "Nestedfare" "offered" "[LNestedfare$Product;"] ++ wsX20 ++ wsX50 ++ (vx_atS RX5 91 "java/lang/IndexOutOfBoundsException" ["java/lang/RuntimeException", "java/lang/Exception"]).filter goodWord)
def wsL_refused : List Cond := .codeWith yL_refused cL_refused 4 (some .int) [(0, 9, 12, 13)] :: ([.classLink RL 13 "java/lang/IllegalArgumentException", .methodLink RL 69 yX5_refused, .instanceMethod yX5_refused, .selects RX5 yX5_refused yX5_refused, .initialized RX5, .code yX5_refused cX5_refused 2 (some .int), .classLink RX5 72 "java/lang/IllegalArgumentException", .initialized "java/lang/IllegalArgumentException", .fieldLink RX5 55 "Nestedfare" "refusedFull" "I", .fieldLink RX5 58 "Nestedfare" "refusedProtected" "I", .fieldLink RX5 61 "Nestedfare" "refusedBelow" "I"] ++ wsX50 ++ (vx_atS RX5 76 "java/lang/IllegalArgumentException" ["java/lang/RuntimeException", "java/lang/Exception"]).filter goodWord)
def wsL_law0_r1 : List Cond := [Cond.classLink RL 8 RX5, Cond.instantiable RX5 14, Cond.initialized RX5, Cond.classLink RL 73 RX6, Cond.instantiable RX6 22, Cond.initialized RX6, Cond.arrayClass .long, Cond.arrayClass .double, Cond.methodLink RL 72 yX5_init, Cond.instanceMethod yX5_init, Cond.code yX5_init cX5_init 1 none, Cond.methodLink RX5 3 objectInit, Cond.instanceMethod objectInit, Cond.code objectInit ⟨#[0xb1]⟩ 1 none, Cond.arrayClass .int, Cond.fieldLink RX5 9 "Nestedfare" "seats" "[I", Cond.classLink RX5 13 RX2, Cond.fieldLink RX5 15 "Nestedfare" "offered" "[LNestedfare$Product;", Cond.fieldLink RX5 19 "Nestedfare" "dearestFirst" "[LNestedfare$Product;", Cond.classLink RX5 22 RX0, Cond.fieldLink RX5 24 "Nestedfare" "bookings" "[LNestedfare$Booking;", Cond.classLink RX5 28 RX1, Cond.instantiable RX1 6, Cond.initialized RX1]
def wsL_law0_r2 : List Cond := [Cond.fieldLink RX5 31 "Nestedfare" "demand" "LNestedfare$Demand;", Cond.classLink RX5 35 RX4, Cond.instantiable RX4 1, Cond.initialized RX4, Cond.fieldLink RX5 38 "Nestedfare" "table" "LNestedfare$SeatTable;", Cond.fieldLink RX5 42 "Nestedfare" "offeredCount" "I", Cond.fieldLink RX5 46 "Nestedfare" "bookingCount" "I", Cond.fieldLink RX5 49 "Nestedfare" "pastDays" "I", Cond.fieldLink RX5 52 "Nestedfare" "showRate" "I", Cond.fieldLink RX5 55 "Nestedfare" "refusedFull" "I", Cond.fieldLink RX5 58 "Nestedfare" "refusedProtected" "I", Cond.fieldLink RX5 61 "Nestedfare" "refusedBelow" "I", Cond.fieldLink RX5 64 "Nestedfare" "earnedBefore" "J", Cond.instanceMethod yX1_init, Cond.code yX1_init cX1_init 1 none, Cond.methodLink RX1 1 objectInit, Cond.classLink RX1 7 RX3, Cond.instantiable RX3 2, Cond.initialized RX3, Cond.fieldLink RX1 10 "Nestedfare$Demand" "leg0" "LNestedfare$Queue;", Cond.fieldLink RX1 16 "Nestedfare$Demand" "leg1" "LNestedfare$Queue;", Cond.fieldLink RX1 19 "Nestedfare$Demand" "leg2" "LNestedfare$Queue;", Cond.fieldLink RX1 22 "Nestedfare$Demand" "legs01" "LNestedfare$Queue;", Cond.fieldLink RX1 25 "Nestedfare$Demand" "legs12" "LNestedfare$Queue;"]
def wsL_law0_r3 : List Cond := [Cond.fieldLink RX1 28 "Nestedfare$Demand" "legs012" "LNestedfare$Queue;", Cond.instanceMethod yX3_init, Cond.code yX3_init cX3_init 1 none, Cond.methodLink RX3 3 objectInit, Cond.fieldLink RX3 9 "Nestedfare$Queue" "sums" "[I", Cond.fieldLink RX3 15 "Nestedfare$Queue" "length" "I", Cond.instanceMethod yX4_init, Cond.code yX4_init cX4_init 1 none, Cond.methodLink RX4 3 objectInit, Cond.fieldLink RX4 11 "Nestedfare$SeatTable" "values" "[I", Cond.methodLink RL 75 yX6_init, Cond.instanceMethod yX6_init, Cond.code yX6_init cX6_init 1 none, Cond.methodLink RX6 1 objectInit, Cond.fieldLink RX6 7 "NestedfareModel" "seats" "[I", Cond.fieldLink RX6 13 "NestedfareModel" "booked" "[I", Cond.fieldLink RX6 16 "NestedfareModel" "first" "[I", Cond.fieldLink RX6 19 "NestedfareModel" "last" "[I", Cond.fieldLink RX6 22 "NestedfareModel" "fare" "[I", Cond.fieldLink RX6 25 "NestedfareModel" "expected" "[I", Cond.fieldLink RX6 28 "NestedfareModel" "asked" "[I", Cond.fieldLink RX6 31 "NestedfareModel" "total" "[J", Cond.fieldLink RX6 35 "NestedfareModel" "table" "[I", Cond.fieldLink RX6 38 "NestedfareModel" "rate" "I"]
def wsL_law0_r4 : List Cond := [Cond.fieldLink RX6 42 "NestedfareModel" "from" "[I", Cond.fieldLink RX6 45 "NestedfareModel" "to" "[I", Cond.fieldLink RX6 48 "NestedfareModel" "size" "[I", Cond.fieldLink RX6 51 "NestedfareModel" "price" "[I", Cond.arrayClass .boolean, Cond.fieldLink RX6 54 "NestedfareModel" "isGone" "[Z", Cond.fieldLink RX6 58 "NestedfareModel" "refused" "[I", Cond.fieldLink RX6 61 "NestedfareModel" "worth" "[I", Cond.methodLink RL 76 yL_setSeats, Cond.static yL_setSeats, Cond.initialized RL, Cond.codeWith yL_setSeats cL_setSeats 5 (some .int) [(0, 7, 10, 13)], Cond.classLink RL 13 "java/lang/IllegalArgumentException", Cond.methodLink RL 7 yX5_setSeats, Cond.instanceMethod yX5_setSeats, Cond.selects RX5 yX5_setSeats yX5_setSeats, Cond.code yX5_setSeats cX5_setSeats 4 none, Cond.classLink RX5 72 "java/lang/IllegalArgumentException", Cond.initialized "java/lang/IllegalArgumentException", Cond.methodLink RX5 68 yX5_within, Cond.static yX5_within, Cond.code yX5_within cX5_within 3 (some .boolean), Cond.methodLink RX5 79 yX5_putSeats, Cond.instanceMethod yX5_putSeats]
def wsL_law0_r5 : List Cond := [Cond.selects RX5 yX5_putSeats yX5_putSeats, Cond.code yX5_putSeats cX5_putSeats 3 none, Cond.methodLink RL 81 yX6_setSeats, Cond.instanceMethod yX6_setSeats, Cond.selects RX6 yX6_setSeats yX6_setSeats, Cond.code yX6_setSeats cX6_setSeats 4 none, Cond.methodLink RX6 89 yX6_isSeats, Cond.static yX6_isSeats, Cond.code yX6_isSeats cX6_isSeats 1 (some .boolean), Cond.methodLink RX6 67 yX6_isIn, Cond.static yX6_isIn, Cond.code yX6_isIn cX6_isIn 3 (some .boolean), Cond.methodLink RX6 93 yX6_fails, Cond.instanceMethod yX6_fails, Cond.selects RX6 yX6_fails yX6_fails, Cond.code yX6_fails cX6_fails 2 (some .boolean), Cond.fieldLink RX6 64 "NestedfareModel" "thrown" "I", Cond.methodLink RL 82 yX6_thrown, Cond.instanceMethod yX6_thrown, Cond.selects RX6 yX6_thrown yX6_thrown, Cond.code yX6_thrown cX6_thrown 1 (some .int), Cond.methodLink RL 86 yL_addProduct, Cond.static yL_addProduct, Cond.codeWith yL_addProduct cL_addProduct 6 (some .int) [(0, 12, 15, 19), (0, 12, 19, 13), (0, 12, 23, 21)]]
def wsL_law0_r6 : List Cond := [Cond.classLink RL 19 "java/lang/IndexOutOfBoundsException", Cond.classLink RL 21 "java/lang/IllegalStateException", Cond.methodLink RL 15 yX5_addProduct, Cond.instanceMethod yX5_addProduct, Cond.selects RX5 yX5_addProduct yX5_addProduct, Cond.code yX5_addProduct cX5_addProduct 5 (some .int), Cond.classLink RX5 87 "java/lang/IndexOutOfBoundsException", Cond.initialized "java/lang/IndexOutOfBoundsException", Cond.classLink RX5 97 "java/lang/IllegalStateException", Cond.initialized "java/lang/IllegalStateException", Cond.instantiable RX2 7, Cond.initialized RX2, Cond.methodLink RX5 83 yX5_isLeg, Cond.static yX5_isLeg, Cond.code yX5_isLeg cX5_isLeg 1 (some .boolean), Cond.methodLink RX5 94 yX5_isOffered, Cond.instanceMethod yX5_isOffered, Cond.selects RX5 yX5_isOffered yX5_isOffered, Cond.code yX5_isOffered cX5_isOffered 8 (some .boolean), Cond.instanceMethod yX2_init, Cond.code yX2_init cX2_init 5 none, Cond.methodLink RX2 3 objectInit, Cond.fieldLink RX2 9 "Nestedfare$Product" "daysByAsked" "[I", Cond.fieldLink RX2 15 "Nestedfare$Product" "expectedToday" "I"]
def wsL_law0_r7 : List Cond := [Cond.fieldLink RX2 19 "Nestedfare$Product" "askedToday" "I", Cond.fieldLink RX2 22 "Nestedfare$Product" "askedBefore" "I", Cond.fieldLink RX2 25 "Nestedfare$Product" "first" "I", Cond.fieldLink RX2 28 "Nestedfare$Product" "last" "I", Cond.fieldLink RX2 31 "Nestedfare$Product" "fare" "I", Cond.methodLink RX5 105 yX5_offer, Cond.instanceMethod yX5_offer, Cond.selects RX5 yX5_offer yX5_offer, Cond.code yX5_offer cX5_offer 3 none, Cond.methodLink RL 89 yX6_addProduct, Cond.instanceMethod yX6_addProduct, Cond.selects RX6 yX6_addProduct yX6_addProduct, Cond.code yX6_addProduct cX6_addProduct 8 (some .int), Cond.fieldLink RX6 71 "NestedfareModel" "products" "I", Cond.fieldLink RX6 99 "NestedfareModel" "days" "I", Cond.methodLink RX6 96 yX6_isLeg, Cond.static yX6_isLeg, Cond.code yX6_isLeg cX6_isLeg 1 (some .boolean), Cond.methodLink RL 90 yL_setExpected, Cond.static yL_setExpected, Cond.codeWith yL_setExpected cL_setExpected 5 (some .int) [(0, 10, 13, 19), (0, 10, 17, 13)], Cond.methodLink RL 23 yX5_setExpected, Cond.instanceMethod yX5_setExpected, Cond.selects RX5 yX5_setExpected yX5_setExpected]
def wsL_law0_r8 : List Cond := [Cond.code yX5_setExpected cX5_setExpected 5 (some .int), Cond.methodLink RX5 109 yX5_productAt, Cond.instanceMethod yX5_productAt, Cond.selects RX5 yX5_productAt yX5_productAt, Cond.code yX5_productAt cX5_productAt 2 (some (.object "Nestedfare$Product")), Cond.methodLink RL 93 yX6_setExpected, Cond.instanceMethod yX6_setExpected, Cond.selects RX6 yX6_setExpected yX6_setExpected, Cond.code yX6_setExpected cX6_setExpected 4 (some .int), Cond.methodLink RX6 102 yX6_isProduct, Cond.instanceMethod yX6_isProduct, Cond.selects RX6 yX6_isProduct yX6_isProduct, Cond.code yX6_isProduct cX6_isProduct 2 (some .boolean), Cond.methodLink RL 94 yL_setRate, Cond.static yL_setRate, Cond.codeWith yL_setRate cL_setRate 4 (some .int) [(0, 9, 12, 13)], Cond.methodLink RL 27 yX5_setRate, Cond.instanceMethod yX5_setRate, Cond.selects RX5 yX5_setRate yX5_setRate, Cond.code yX5_setRate cX5_setRate 3 (some .int), Cond.methodLink RL 97 yX6_setRate, Cond.instanceMethod yX6_setRate, Cond.selects RX6 yX6_setRate yX6_setRate, Cond.code yX6_setRate cX6_setRate 3 (some .int)]
def wsL_law0_r9 : List Cond := [Cond.methodLink RL 98 yL_ask, Cond.static yL_ask, Cond.codeWith yL_ask cL_ask 4 (some .int) [(0, 9, 12, 19), (0, 9, 15, 21)], Cond.methodLink RL 31 yX5_ask, Cond.instanceMethod yX5_ask, Cond.selects RX5 yX5_ask yX5_ask, Cond.code yX5_ask cX5_ask 3 (some .int), Cond.instantiable RX0 5, Cond.initialized RX0, Cond.methodLink RX5 127 yX5_isFull, Cond.instanceMethod yX5_isFull, Cond.selects RX5 yX5_isFull yX5_isFull, Cond.code yX5_isFull cX5_isFull 3 (some .boolean), Cond.methodLink RX5 191 yX5_bookedOn, Cond.instanceMethod yX5_bookedOn, Cond.selects RX5 yX5_bookedOn yX5_bookedOn, Cond.code yX5_bookedOn cX5_bookedOn 5 (some .int), Cond.methodLink RX5 165 yX5_bookingAt, Cond.instanceMethod yX5_bookingAt, Cond.selects RX5 yX5_bookingAt yX5_bookingAt, Cond.code yX5_bookingAt cX5_bookingAt 2 (some (.object "Nestedfare$Booking")), Cond.instanceMethod yX0_seatsOn, Cond.selects RX0 yX0_seatsOn yX0_seatsOn, Cond.code yX0_seatsOn cX0_seatsOn 2 (some .int)]
def wsL_law0_r10 : List Cond := [Cond.fieldLink RX0 7 "Nestedfare$Booking" "cancelled" "Z", Cond.fieldLink RX0 13 "Nestedfare$Booking" "first" "I", Cond.fieldLink RX0 17 "Nestedfare$Booking" "last" "I", Cond.fieldLink RX0 20 "Nestedfare$Booking" "seats" "I", Cond.methodLink RX5 194 yX5_authorisedOn, Cond.instanceMethod yX5_authorisedOn, Cond.selects RX5 yX5_authorisedOn yX5_authorisedOn, Cond.code yX5_authorisedOn cX5_authorisedOn 3 (some .int), Cond.methodLink RX5 225 yX5_seatsOf, Cond.instanceMethod yX5_seatsOf, Cond.selects RX5 yX5_seatsOf yX5_seatsOf, Cond.code yX5_seatsOf cX5_seatsOf 2 (some .int), Cond.methodLink RX5 131 yX5_refuse, Cond.instanceMethod yX5_refuse, Cond.selects RX5 yX5_refuse yX5_refuse, Cond.code yX5_refuse cX5_refuse 2 (some .int), Cond.methodLink RX5 135 yX5_isProtected, Cond.instanceMethod yX5_isProtected, Cond.selects RX5 yX5_isProtected yX5_isProtected, Cond.code yX5_isProtected cX5_isProtected 3 (some .boolean), Cond.methodLink RX5 199 yX5_protectedOn, Cond.instanceMethod yX5_protectedOn, Cond.selects RX5 yX5_protectedOn yX5_protectedOn, Cond.code yX5_protectedOn cX5_protectedOn 8 (some .int)]
def wsL_law0_r11 : List Cond := [Cond.instanceMethod yX2_covers, Cond.selects RX2 yX2_covers yX2_covers, Cond.code yX2_covers cX2_covers 2 (some .boolean), Cond.instanceMethod yX2_protectedAgainst, Cond.selects RX2 yX2_protectedAgainst yX2_protectedAgainst, Cond.code yX2_protectedAgainst cX2_protectedAgainst 8 (some .int), Cond.methodLink RX5 147 yX5_bidsOver, Cond.instanceMethod yX5_bidsOver, Cond.selects RX5 yX5_bidsOver yX5_bidsOver, Cond.code yX5_bidsOver cX5_bidsOver 6 (some .int), Cond.methodLink RX5 202 yX5_worthWithMore, Cond.instanceMethod yX5_worthWithMore, Cond.selects RX5 yX5_worthWithMore yX5_worthWithMore, Cond.code yX5_worthWithMore cX5_worthWithMore 8 (some .int), Cond.instanceMethod yX1_clear, Cond.selects RX1 yX1_clear yX1_clear, Cond.code yX1_clear cX1_clear 1 none, Cond.instanceMethod yX1_add, Cond.selects RX1 yX1_add yX1_add, Cond.code yX1_add cX1_add 2 none, Cond.methodLink RX1 43 yX1_queueOf, Cond.instanceMethod yX1_queueOf, Cond.selects RX1 yX1_queueOf yX1_queueOf, Cond.code yX1_queueOf cX1_queueOf 3 (some (.object "Nestedfare$Queue"))]
def wsL_law0_r12 : List Cond := [Cond.instanceMethod yX2_toCome, Cond.selects RX2 yX2_toCome yX2_toCome, Cond.code yX2_toCome cX2_toCome 1 (some .int), Cond.methodLink RX2 34 Lib.Math.max.name, Cond.static Lib.Math.max.name, Cond.initialized "java/lang/Math", Cond.code Lib.Math.max.name Lib.Math.max.code 2 (some .int), Cond.instanceMethod yX3_add, Cond.selects RX3 yX3_add yX3_add, Cond.code yX3_add cX3_add 4 none, Cond.methodLink RX5 205 yX5_leftOn, Cond.instanceMethod yX5_leftOn, Cond.selects RX5 yX5_leftOn yX5_leftOn, Cond.code yX5_leftOn cX5_leftOn 2 (some .int), Cond.methodLink RX5 231 Lib.Math.max.name, Cond.instanceMethod yX1_mostFor, Cond.selects RX1 yX1_mostFor yX1_mostFor, Cond.code yX1_mostFor cX1_mostFor 7 (some .int), Cond.methodLink RX1 58 Lib.Math.min.name, Cond.static Lib.Math.min.name, Cond.code Lib.Math.min.name Lib.Math.min.code 2 (some .int), Cond.methodLink RX1 72 Lib.Math.max.name, Cond.instanceMethod yX3_mostFor, Cond.selects RX3 yX3_mostFor yX3_mostFor]
def wsL_law0_r13 : List Cond := [Cond.code yX3_mostFor cX3_mostFor 3 (some .int), Cond.methodLink RX1 68 yX1_mostOfShorter, Cond.instanceMethod yX1_mostOfShorter, Cond.selects RX1 yX1_mostOfShorter yX1_mostOfShorter, Cond.code yX1_mostOfShorter cX1_mostOfShorter 8 (some .int), Cond.methodLink RX1 75 yX1_mostBehind, Cond.instanceMethod yX1_mostBehind, Cond.selects RX1 yX1_mostBehind yX1_mostBehind, Cond.code yX1_mostBehind cX1_mostBehind 6 (some .int), Cond.instanceMethod yX0_init, Cond.code yX0_init cX0_init 5 none, Cond.methodLink RX0 1 objectInit, Cond.fieldLink RX0 23 "Nestedfare$Booking" "price" "I", Cond.methodLink RX5 152 yX5_enter, Cond.instanceMethod yX5_enter, Cond.selects RX5 yX5_enter yX5_enter, Cond.code yX5_enter cX5_enter 3 (some .int), Cond.methodLink RL 100 yX6_ask, Cond.instanceMethod yX6_ask, Cond.selects RX6 yX6_ask yX6_ask, Cond.code yX6_ask cX6_ask 6 (some .int), Cond.fieldLink RX6 105 "NestedfareModel" "bookings" "I", Cond.methodLink RX6 108 yX6_finds, Cond.instanceMethod yX6_finds]
def wsL_law0_r14 : List Cond := [Cond.selects RX6 yX6_finds yX6_finds, Cond.code yX6_finds cX6_finds 4 none, Cond.methodLink RX6 78 yX6_adds, Cond.instanceMethod yX6_adds, Cond.selects RX6 yX6_adds yX6_adds, Cond.code yX6_adds cX6_adds 9 none, Cond.methodLink RX6 74 yX6_place, Cond.static yX6_place, Cond.code yX6_place cX6_place 3 (some .int), Cond.methodLink RX6 111 yX6_authorisedOf, Cond.instanceMethod yX6_authorisedOf, Cond.selects RX6 yX6_authorisedOf yX6_authorisedOf, Cond.code yX6_authorisedOf cX6_authorisedOf 2 (some .int), Cond.methodLink RX6 114 yX6_protectedOf, Cond.instanceMethod yX6_protectedOf, Cond.selects RX6 yX6_protectedOf yX6_protectedOf, Cond.code yX6_protectedOf cX6_protectedOf 9 (some .int), Cond.methodLink RX6 118 yX6_bidOf, Cond.instanceMethod yX6_bidOf, Cond.selects RX6 yX6_bidOf yX6_bidOf, Cond.code yX6_bidOf cX6_bidOf 2 (some .int), Cond.methodLink RX6 86 yX6_worthOf, Cond.instanceMethod yX6_worthOf, Cond.selects RX6 yX6_worthOf yX6_worthOf]
def wsL_law0_r15 : List Cond := [Cond.code yX6_worthOf cX6_worthOf 4 (some .int), Cond.methodLink RX6 82 yX6_left, Cond.instanceMethod yX6_left, Cond.selects RX6 yX6_left yX6_left, Cond.code yX6_left cX6_left 2 (some .int), Cond.methodLink RX6 121 yX6_refuses, Cond.instanceMethod yX6_refuses, Cond.selects RX6 yX6_refuses yX6_refuses, Cond.code yX6_refuses cX6_refuses 2 (some .int), Cond.methodLink RX6 124 yX6_books, Cond.instanceMethod yX6_books, Cond.selects RX6 yX6_books yX6_books, Cond.code yX6_books cX6_books 6 (some .int), Cond.methodLink RL 101 yL_group, Cond.static yL_group, Cond.codeWith yL_group cL_group 7 (some .int) [(0, 14, 17, 19), (0, 14, 21, 13), (0, 14, 25, 21)], Cond.methodLink RL 34 yX5_group, Cond.instanceMethod yX5_group, Cond.selects RX5 yX5_group yX5_group, Cond.code yX5_group cX5_group 6 (some .int), Cond.methodLink RX5 158 yX5_hasLeft, Cond.instanceMethod yX5_hasLeft, Cond.selects RX5 yX5_hasLeft yX5_hasLeft, Cond.code yX5_hasLeft cX5_hasLeft 5 (some .boolean)]
def wsL_law0_r16 : List Cond := [Cond.methodLink RX5 161 yX5_displacement, Cond.instanceMethod yX5_displacement, Cond.selects RX5 yX5_displacement yX5_displacement, Cond.code yX5_displacement cX5_displacement 4 (some .int), Cond.methodLink RL 104 yX6_group, Cond.instanceMethod yX6_group, Cond.selects RX6 yX6_group yX6_group, Cond.code yX6_group cX6_group 7 (some .int), Cond.methodLink RX6 128 yX6_isTooFull, Cond.instanceMethod yX6_isTooFull, Cond.selects RX6 yX6_isTooFull yX6_isTooFull, Cond.code yX6_isTooFull cX6_isTooFull 6 (some .boolean), Cond.methodLink RX6 131 yX6_displaces, Cond.instanceMethod yX6_displaces, Cond.selects RX6 yX6_displaces yX6_displaces, Cond.code yX6_displaces cX6_displaces 4 (some .int), Cond.methodLink RL 105 yL_cancel, Cond.static yL_cancel, Cond.codeWith yL_cancel cL_cancel 4 (some .int) [(0, 9, 12, 19), (0, 9, 15, 21)], Cond.methodLink RL 38 yX5_cancel, Cond.instanceMethod yX5_cancel, Cond.selects RX5 yX5_cancel yX5_cancel, Cond.code yX5_cancel cX5_cancel 3 (some .int), Cond.methodLink RL 107 yX6_cancel]
def wsL_law0_r17 : List Cond := [Cond.instanceMethod yX6_cancel, Cond.selects RX6 yX6_cancel yX6_cancel, Cond.code yX6_cancel cX6_cancel 4 (some .int), Cond.methodLink RL 108 yL_endDay, Cond.static yL_endDay, Cond.codeWith yL_endDay cL_endDay 4 (some .int) [(0, 9, 12, 13)], Cond.methodLink RL 41 yX5_endDay, Cond.instanceMethod yX5_endDay, Cond.selects RX5 yX5_endDay yX5_endDay, Cond.code yX5_endDay cX5_endDay 4 (some .int), Cond.methodLink RX5 181 yX5_deniedOn, Cond.instanceMethod yX5_deniedOn, Cond.selects RX5 yX5_deniedOn yX5_deniedOn, Cond.code yX5_deniedOn cX5_deniedOn 4 (some .int), Cond.methodLink RX5 184 yX5_faresOfToday, Cond.instanceMethod yX5_faresOfToday, Cond.selects RX5 yX5_faresOfToday yX5_faresOfToday, Cond.code yX5_faresOfToday cX5_faresOfToday 4 (some .int), Cond.methodLink RX5 188 yX5_learn, Cond.instanceMethod yX5_learn, Cond.selects RX5 yX5_learn yX5_learn, Cond.code yX5_learn cX5_learn 5 none, Cond.instanceMethod yX2_learn, Cond.selects RX2 yX2_learn yX2_learn]
def wsL_law0_r18 : List Cond := [Cond.code yX2_learn cX2_learn 3 none, Cond.methodLink RX2 40 Lib.Math.min.name, Cond.methodLink RL 110 yX6_endDay, Cond.instanceMethod yX6_endDay, Cond.selects RX6 yX6_endDay yX6_endDay, Cond.code yX6_endDay cX6_endDay 5 (some .int), Cond.fieldLink RX6 134 "NestedfareModel" "earned" "J", Cond.methodLink RX6 138 yX6_sold, Cond.instanceMethod yX6_sold, Cond.selects RX6 yX6_sold yX6_sold, Cond.code yX6_sold cX6_sold 3 (some .int), Cond.methodLink RL 111 yX5_products, Cond.instanceMethod yX5_products, Cond.selects RX5 yX5_products yX5_products, Cond.code yX5_products cX5_products 1 (some .int), Cond.methodLink RL 114 yX6_products, Cond.instanceMethod yX6_products, Cond.selects RX6 yX6_products yX6_products, Cond.code yX6_products cX6_products 1 (some .int), Cond.methodLink RX6 142 yX6_tells, Cond.instanceMethod yX6_tells, Cond.selects RX6 yX6_tells yX6_tells, Cond.code yX6_tells cX6_tells 2 (some .int), Cond.methodLink RL 115 yX5_days]
def wsL_law0_r19 : List Cond := [Cond.instanceMethod yX5_days, Cond.selects RX5 yX5_days yX5_days, Cond.code yX5_days cX5_days 1 (some .int), Cond.methodLink RL 118 yX6_days, Cond.instanceMethod yX6_days, Cond.selects RX6 yX6_days yX6_days, Cond.code yX6_days cX6_days 1 (some .int), Cond.methodLink RL 119 yL_booked, Cond.static yL_booked, Cond.codeWith yL_booked cL_booked 4 (some .int) [(0, 9, 12, 19)], Cond.methodLink RL 44 yX5_booked, Cond.instanceMethod yX5_booked, Cond.selects RX5 yX5_booked yX5_booked, Cond.code yX5_booked cX5_booked 2 (some .int), Cond.methodLink RL 121 yX6_booked, Cond.instanceMethod yX6_booked, Cond.selects RX6 yX6_booked yX6_booked, Cond.code yX6_booked cX6_booked 2 (some .int), Cond.methodLink RL 122 yL_authorised, Cond.static yL_authorised, Cond.codeWith yL_authorised cL_authorised 4 (some .int) [(0, 9, 12, 19)], Cond.methodLink RL 47 yX5_authorised, Cond.instanceMethod yX5_authorised, Cond.selects RX5 yX5_authorised yX5_authorised]
def wsL_law0_r20 : List Cond := [Cond.code yX5_authorised cX5_authorised 2 (some .int), Cond.methodLink RL 124 yX6_authorised, Cond.instanceMethod yX6_authorised, Cond.selects RX6 yX6_authorised yX6_authorised, Cond.code yX6_authorised cX6_authorised 2 (some .int), Cond.methodLink RL 125 yL_protectedSeats, Cond.static yL_protectedSeats, Cond.codeWith yL_protectedSeats cL_protectedSeats 5 (some .int) [(0, 10, 13, 19), (0, 10, 17, 13)], Cond.methodLink RL 50 yX5_protectedSeats, Cond.instanceMethod yX5_protectedSeats, Cond.selects RX5 yX5_protectedSeats yX5_protectedSeats, Cond.code yX5_protectedSeats cX5_protectedSeats 3 (some .int), Cond.methodLink RL 127 yX6_protectedSeats, Cond.instanceMethod yX6_protectedSeats, Cond.selects RX6 yX6_protectedSeats yX6_protectedSeats, Cond.code yX6_protectedSeats cX6_protectedSeats 3 (some .int), Cond.methodLink RL 128 yX5_worth, Cond.instanceMethod yX5_worth, Cond.selects RX5 yX5_worth yX5_worth, Cond.code yX5_worth cX5_worth 1 (some .int), Cond.methodLink RL 131 yX6_worth, Cond.instanceMethod yX6_worth, Cond.selects RX6 yX6_worth yX6_worth, Cond.code yX6_worth cX6_worth 1 (some .int)]
def wsL_law0_r21 : List Cond := [Cond.methodLink RL 132 yX5_worthByTable, Cond.instanceMethod yX5_worthByTable, Cond.selects RX5 yX5_worthByTable yX5_worthByTable, Cond.code yX5_worthByTable cX5_worthByTable 8 (some .int), Cond.instanceMethod yX4_clear, Cond.selects RX4 yX4_clear yX4_clear, Cond.code yX4_clear cX4_clear 1 none, Cond.methodLink RX4 15 yJ7_fill_53178, Cond.static yJ7_fill_53178, Cond.initialized RJ7, Cond.code yJ7_fill_53178 cJ7_fill_53178 4 none, Cond.instanceMethod yX4_admit, Cond.selects RX4 yX4_admit yX4_admit, Cond.code yX4_admit cX4_admit 7 none, Cond.methodLink RX4 27 Lib.Math.min.name, Cond.methodLink RX4 33 yX4_admitOne, Cond.instanceMethod yX4_admitOne, Cond.selects RX4 yX4_admitOne yX4_admitOne, Cond.code yX4_admitOne cX4_admitOne 11 none, Cond.methodLink RX4 41 yX4_cellOf, Cond.static yX4_cellOf, Cond.code yX4_cellOf cX4_cellOf 3 (some .int), Cond.methodLink RX4 49 yX4_raiseRow, Cond.instanceMethod yX4_raiseRow]
def wsL_law0_r22 : List Cond := [Cond.selects RX4 yX4_raiseRow yX4_raiseRow, Cond.code yX4_raiseRow cX4_raiseRow 7 none, Cond.instanceMethod yX4_valueOf, Cond.selects RX4 yX4_valueOf yX4_valueOf, Cond.code yX4_valueOf cX4_valueOf 5 (some .int), Cond.methodLink RL 135 yX6_worthByTable, Cond.instanceMethod yX6_worthByTable, Cond.selects RX6 yX6_worthByTable yX6_worthByTable, Cond.code yX6_worthByTable cX6_worthByTable 1 (some .int), Cond.methodLink RL 136 yL_bid, Cond.static yL_bid, Cond.codeWith yL_bid cL_bid 4 (some .int) [(0, 9, 12, 19)], Cond.methodLink RL 53 yX5_bid, Cond.instanceMethod yX5_bid, Cond.selects RX5 yX5_bid yX5_bid, Cond.code yX5_bid cX5_bid 2 (some .int), Cond.methodLink RL 138 yX6_bid, Cond.instanceMethod yX6_bid, Cond.selects RX6 yX6_bid yX6_bid, Cond.code yX6_bid cX6_bid 2 (some .int), Cond.methodLink RL 139 yL_displaced, Cond.static yL_displaced, Cond.codeWith yL_displaced cL_displaced 6 (some .int) [(0, 12, 15, 19), (0, 12, 19, 13)], Cond.methodLink RL 56 yX5_displaced]
def wsL_law0_r23 : List Cond := [Cond.instanceMethod yX5_displaced, Cond.selects RX5 yX5_displaced yX5_displaced, Cond.code yX5_displaced cX5_displaced 4 (some .int), Cond.methodLink RL 141 yX6_displaced, Cond.instanceMethod yX6_displaced, Cond.selects RX6 yX6_displaced yX6_displaced, Cond.code yX6_displaced cX6_displaced 6 (some .int), Cond.methodLink RL 142 yL_expected, Cond.static yL_expected, Cond.codeWith yL_expected cL_expected 4 (some .int) [(0, 9, 12, 19)], Cond.methodLink RL 59 yX5_expected, Cond.instanceMethod yX5_expected, Cond.selects RX5 yX5_expected yX5_expected, Cond.code yX5_expected cX5_expected 3 (some .int), Cond.methodLink RL 144 yX6_expected, Cond.instanceMethod yX6_expected, Cond.selects RX6 yX6_expected yX6_expected, Cond.code yX6_expected cX6_expected 2 (some .int), Cond.methodLink RX6 145 yX6_of, Cond.instanceMethod yX6_of, Cond.selects RX6 yX6_of yX6_of, Cond.code yX6_of cX6_of 3 (some .int), Cond.methodLink RL 145 yL_average, Cond.static yL_average]
def wsL_law0_r24 : List Cond := [Cond.codeWith yL_average cL_average 4 (some .int) [(0, 9, 12, 19)], Cond.methodLink RL 62 yX5_average, Cond.instanceMethod yX5_average, Cond.selects RX5 yX5_average yX5_average, Cond.code yX5_average cX5_average 3 (some .float), Cond.methodLink RL 148 yX6_average, Cond.instanceMethod yX6_average, Cond.selects RX6 yX6_average yX6_average, Cond.code yX6_average cX6_average 2 (some .float), Cond.methodLink RL 149 yL_asked, Cond.static yL_asked, Cond.codeWith yL_asked cL_asked 4 (some .int) [(0, 9, 12, 19)], Cond.methodLink RL 66 yX5_asked, Cond.instanceMethod yX5_asked, Cond.selects RX5 yX5_asked yX5_asked, Cond.code yX5_asked cX5_asked 3 (some .int), Cond.methodLink RL 151 yX6_asked, Cond.instanceMethod yX6_asked, Cond.selects RX6 yX6_asked yX6_asked, Cond.code yX6_asked cX6_asked 2 (some .int), Cond.methodLink RL 152 yL_refused, Cond.static yL_refused, Cond.codeWith yL_refused cL_refused 4 (some .int) [(0, 9, 12, 13)], Cond.methodLink RL 69 yX5_refused]
def wsL_law0_r25 : List Cond := [Cond.instanceMethod yX5_refused, Cond.selects RX5 yX5_refused yX5_refused, Cond.code yX5_refused cX5_refused 2 (some .int), Cond.methodLink RL 154 yX6_refused, Cond.instanceMethod yX6_refused, Cond.selects RX6 yX6_refused yX6_refused, Cond.code yX6_refused cX6_refused 2 (some .int), Cond.methodLink RL 155 yX5_revenue, Cond.instanceMethod yX5_revenue, Cond.selects RX5 yX5_revenue yX5_revenue, Cond.code yX5_revenue cX5_revenue 1 (some .int), Cond.methodLink RL 158 yX6_revenue, Cond.instanceMethod yX6_revenue, Cond.selects RX6 yX6_revenue yX6_revenue, Cond.code yX6_revenue cX6_revenue 1 (some .int), Cond.methodLink RL 159 yX5_earned, Cond.instanceMethod yX5_earned, Cond.selects RX5 yX5_earned yX5_earned, Cond.code yX5_earned cX5_earned 1 (some .long), Cond.methodLink RL 163 yX6_earned, Cond.instanceMethod yX6_earned, Cond.selects RX6 yX6_earned yX6_earned, Cond.code yX6_earned cX6_earned 1 (some .long)]
def wsL_law0 : List Cond := (wsL_law0_r1 ++ (wsL_law0_r2 ++ (wsL_law0_r3 ++ (wsL_law0_r4 ++ (wsL_law0_r5 ++ (wsL_law0_r6 ++ (wsL_law0_r7 ++ (wsL_law0_r8 ++ (wsL_law0_r9 ++ (wsL_law0_r10 ++ (wsL_law0_r11 ++ (wsL_law0_r12 ++ (wsL_law0_r13 ++ (wsL_law0_r14 ++ (wsL_law0_r15 ++ (wsL_law0_r16 ++ (wsL_law0_r17 ++ (wsL_law0_r18 ++ (wsL_law0_r19 ++ (wsL_law0_r20 ++ (wsL_law0_r21 ++ (wsL_law0_r22 ++ (wsL_law0_r23 ++ (wsL_law0_r24 ++ wsL_law0_r25)))))))))))))))))))))))) ++ wsX50 ++ wsX60 ++ wsX10 ++ wsX40 ++ wsX30 ++ wsX20 ++ wsX00 ++ ([] : List Cond)
def wsL_law : List Cond := wsL_law0 ++ (vx_atS RX5 76 "java/lang/IllegalArgumentException" ["java/lang/RuntimeException", "java/lang/Exception"]).filter goodWord ++ (vx_atS RX5 91 "java/lang/IndexOutOfBoundsException" ["java/lang/RuntimeException", "java/lang/Exception"]).filter goodWord ++ (vx_atS RX5 101 "java/lang/IllegalStateException" ["java/lang/RuntimeException", "java/lang/Exception"]).filter goodWord
set_option maxRecDepth 20000 in
theorem wsL_law_in0 : ∀ w ∈ wsL_law0, w ∈ lw_tbl := fun w h => (goodIn_p wsL_law0 [76, 79, 88, 94, 128, 680, 317, 241, 389, 758, 761, 764, 768, 754, 398, 401, 422, 441, 478, 772, 775, 485, 489, 779, 783, 498, 787, 506, 511, 228, 232, 237, 515, 224, 519, 523, 527, 286, 532, 536, 192, 196, 200, 204, 209, 212, 216, 220, 245, 248, 252, 256, 260, 539, 563, 791, 795, 799, 802, 806, 810, 814, 818, 822, 826, 830, 570, 575, 579, 834, 838, 842, 586, 846, 595, 600, 305, 604, 608, 850, 854, 180, 858, 862, 184, 866, 616, 870, 623, 874, 630, 878, 188, 882, 265, 269, 272, 276, 282, 289, 293, 297, 886, 638, 890, 645, 894, 653, 898, 902, 660, 906, 667, 910, 674, 914, 301, 918, 309, 922] (by decide +kernel) (by decide +kernel) w h).1
theorem wsL_law_x0 : ∀ w ∈ (vx_atS RX5 76 "java/lang/IllegalArgumentException" ["java/lang/RuntimeException", "java/lang/Exception"]).filter goodWord, w ∈ lw_tbl := by decide +kernel
theorem wsL_law_x1 : ∀ w ∈ (vx_atS RX5 91 "java/lang/IndexOutOfBoundsException" ["java/lang/RuntimeException", "java/lang/Exception"]).filter goodWord, w ∈ lw_tbl := by decide +kernel
theorem wsL_law_x2 : ∀ w ∈ (vx_atS RX5 101 "java/lang/IllegalStateException" ["java/lang/RuntimeException", "java/lang/Exception"]).filter goodWord, w ∈ lw_tbl := by decide +kernel
theorem wsL_law_in : ∀ w ∈ wsL_law, w ∈ lw_tbl := fun w h => (List.mem_append.mp h).elim (fun h => (List.mem_append.mp h).elim (fun h => (List.mem_append.mp h).elim (fun h => wsL_law_in0 w h) (fun h => wsL_law_x0 w h)) (fun h => wsL_law_x1 w h)) (fun h => wsL_law_x2 w h)
theorem inlX0 : ∀ w ∈ wsX00, w ∈ wsL_law := fun _ h => List.mem_append_left _ (List.mem_append_left _ (List.mem_append_left _ (List.mem_append_left _ (List.mem_append_right _ h))))
theorem inX0 : ∀ w ∈ wsX00, w ∈ lw_tbl := fun w h => wsL_law_in w (inlX0 w h)
theorem inlX1 : ∀ w ∈ wsX10, w ∈ wsL_law := fun _ h => List.mem_append_left _ (List.mem_append_left _ (List.mem_append_left _ (List.mem_append_left _ (List.mem_append_left _ (List.mem_append_left _ (List.mem_append_left _ (List.mem_append_left _ (List.mem_append_right _ h))))))))
theorem inX1 : ∀ w ∈ wsX10, w ∈ lw_tbl := fun w h => wsL_law_in w (inlX1 w h)
theorem inlX2 : ∀ w ∈ wsX20, w ∈ wsL_law := fun _ h => List.mem_append_left _ (List.mem_append_left _ (List.mem_append_left _ (List.mem_append_left _ (List.mem_append_left _ (List.mem_append_right _ h)))))
theorem inX2 : ∀ w ∈ wsX20, w ∈ lw_tbl := fun w h => wsL_law_in w (inlX2 w h)
theorem inlX3 : ∀ w ∈ wsX30, w ∈ wsL_law := fun _ h => List.mem_append_left _ (List.mem_append_left _ (List.mem_append_left _ (List.mem_append_left _ (List.mem_append_left _ (List.mem_append_left _ (List.mem_append_right _ h))))))
theorem inX3 : ∀ w ∈ wsX30, w ∈ lw_tbl := fun w h => wsL_law_in w (inlX3 w h)
theorem inlX4 : ∀ w ∈ wsX40, w ∈ wsL_law := fun _ h => List.mem_append_left _ (List.mem_append_left _ (List.mem_append_left _ (List.mem_append_left _ (List.mem_append_left _ (List.mem_append_left _ (List.mem_append_left _ (List.mem_append_right _ h)))))))
theorem inX4 : ∀ w ∈ wsX40, w ∈ lw_tbl := fun w h => wsL_law_in w (inlX4 w h)
theorem inlX5 : ∀ w ∈ wsX50, w ∈ wsL_law := fun _ h => List.mem_append_left _ (List.mem_append_left _ (List.mem_append_left _ (List.mem_append_left _ (List.mem_append_left _ (List.mem_append_left _ (List.mem_append_left _ (List.mem_append_left _ (List.mem_append_left _ (List.mem_append_left _ (List.mem_append_right _ h))))))))))
theorem inX5 : ∀ w ∈ wsX50, w ∈ lw_tbl := fun w h => wsL_law_in w (inlX5 w h)
theorem inlX6 : ∀ w ∈ wsX60, w ∈ wsL_law := fun _ h => List.mem_append_left _ (List.mem_append_left _ (List.mem_append_left _ (List.mem_append_left _ (List.mem_append_left _ (List.mem_append_left _ (List.mem_append_left _ (List.mem_append_left _ (List.mem_append_left _ (List.mem_append_right _ h)))))))))
theorem inX6 : ∀ w ∈ wsX60, w ∈ lw_tbl := fun w h => wsL_law_in w (inlX6 w h)
theorem inJx145de : ∀ w ∈ wsJx145de0, w ∈ lw_tbl := by decide +kernel
theorem inJ9 : ∀ w ∈ wsJ90, w ∈ lw_tbl := by decide +kernel
theorem inJ0 : ∀ w ∈ wsJ00, w ∈ lw_tbl := by decide +kernel
theorem inJ7 : ∀ w ∈ wsJ70, w ∈ lw_tbl := by decide +kernel
theorem dX0_init_0 : decode cX0_init 0 = .ok (.aload_n 0, 1) := by decide +kernel
theorem dX0_init_1 : decode cX0_init 1 = .ok (.invokespecial 1, 3) := by decide +kernel
theorem dX0_init_4 : decode cX0_init 4 = .ok (.aload_n 0, 1) := by decide +kernel
theorem dX0_init_5 : decode cX0_init 5 = .ok (.iconst 0, 1) := by decide +kernel
theorem dX0_init_6 : decode cX0_init 6 = .ok (.putfield 7, 3) := by decide +kernel
theorem dX0_init_9 : decode cX0_init 9 = .ok (.aload_n 0, 1) := by decide +kernel
theorem dX0_init_10 : decode cX0_init 10 = .ok (.iload_n 1, 1) := by decide +kernel
theorem dX0_init_11 : decode cX0_init 11 = .ok (.putfield 13, 3) := by decide +kernel
theorem dX0_init_14 : decode cX0_init 14 = .ok (.aload_n 0, 1) := by decide +kernel
theorem dX0_init_15 : decode cX0_init 15 = .ok (.iload_n 2, 1) := by decide +kernel
theorem dX0_init_16 : decode cX0_init 16 = .ok (.putfield 17, 3) := by decide +kernel
theorem dX0_init_19 : decode cX0_init 19 = .ok (.aload_n 0, 1) := by decide +kernel
theorem dX0_init_20 : decode cX0_init 20 = .ok (.iload_n 3, 1) := by decide +kernel
theorem dX0_init_21 : decode cX0_init 21 = .ok (.putfield 20, 3) := by decide +kernel
theorem dX0_init_24 : decode cX0_init 24 = .ok (.aload_n 0, 1) := by decide +kernel
theorem dX0_init_25 : decode cX0_init 25 = .ok (.iload 4, 2) := by decide +kernel
theorem dX0_init_27 : decode cX0_init 27 = .ok (.putfield 23, 3) := by decide +kernel
theorem dX0_init_30 : decode cX0_init 30 = .ok (.return_, 1) := by decide +kernel
theorem dX0_seatsOn_0 : decode cX0_seatsOn 0 = .ok (.aload_n 0, 1) := by decide +kernel
theorem dX0_seatsOn_1 : decode cX0_seatsOn 1 = .ok (.getfield 7, 3) := by decide +kernel
theorem dX0_seatsOn_4 : decode cX0_seatsOn 4 = .ok (.ifCond .ne 26, 3) := by decide +kernel
theorem dX0_seatsOn_7 : decode cX0_seatsOn 7 = .ok (.iload_n 1, 1) := by decide +kernel
theorem dX0_seatsOn_8 : decode cX0_seatsOn 8 = .ok (.aload_n 0, 1) := by decide +kernel
theorem dX0_seatsOn_9 : decode cX0_seatsOn 9 = .ok (.getfield 13, 3) := by decide +kernel
theorem dX0_seatsOn_12 : decode cX0_seatsOn 12 = .ok (.if_icmp .lt 18, 3) := by decide +kernel
theorem dX0_seatsOn_15 : decode cX0_seatsOn 15 = .ok (.iload_n 1, 1) := by decide +kernel
theorem dX0_seatsOn_16 : decode cX0_seatsOn 16 = .ok (.aload_n 0, 1) := by decide +kernel
theorem dX0_seatsOn_17 : decode cX0_seatsOn 17 = .ok (.getfield 17, 3) := by decide +kernel
theorem dX0_seatsOn_20 : decode cX0_seatsOn 20 = .ok (.if_icmp .gt 10, 3) := by decide +kernel
theorem dX0_seatsOn_23 : decode cX0_seatsOn 23 = .ok (.aload_n 0, 1) := by decide +kernel
theorem dX0_seatsOn_24 : decode cX0_seatsOn 24 = .ok (.getfield 20, 3) := by decide +kernel
theorem dX0_seatsOn_27 : decode cX0_seatsOn 27 = .ok (.goto 4, 3) := by decide +kernel
theorem dX0_seatsOn_30 : decode cX0_seatsOn 30 = .ok (.iconst 0, 1) := by decide +kernel
theorem dX0_seatsOn_31 : decode cX0_seatsOn 31 = .ok (.ireturn, 1) := by decide +kernel
set_option maxRecDepth 20000 in
theorem ggX1_init_X3_init : GoodIn wsX1_init wsX3_init := goodIn_r _ [14, 15, 2, 3, 16, 17, 18, 19, 20] (by decide +kernel) (by decide +kernel)
set_option maxRecDepth 20000 in
theorem gX1_init_X3_init_n9 : GoodIn wsX1_init (wsX3_init) := ggX1_init_X3_init
theorem dX1_init_0 : decode cX1_init 0 = .ok (.aload_n 0, 1) := by decide +kernel
theorem dX1_init_1 : decode cX1_init 1 = .ok (.invokespecial 1, 3) := by decide +kernel
theorem dX1_init_4 : decode cX1_init 4 = .ok (.aload_n 0, 1) := by decide +kernel
theorem dX1_init_5 : decode cX1_init 5 = .ok (.new 7, 3) := by decide +kernel
theorem dX1_init_8 : decode cX1_init 8 = .ok (.dup, 1) := by decide +kernel
theorem dX1_init_9 : decode cX1_init 9 = .ok (.invokespecial 9, 3) := by decide +kernel
theorem dX1_init_12 : decode cX1_init 12 = .ok (.putfield 10, 3) := by decide +kernel
theorem dX1_init_15 : decode cX1_init 15 = .ok (.aload_n 0, 1) := by decide +kernel
theorem dX1_init_16 : decode cX1_init 16 = .ok (.new 7, 3) := by decide +kernel
theorem dX1_init_19 : decode cX1_init 19 = .ok (.dup, 1) := by decide +kernel
theorem dX1_init_20 : decode cX1_init 20 = .ok (.invokespecial 9, 3) := by decide +kernel
theorem dX1_init_23 : decode cX1_init 23 = .ok (.putfield 16, 3) := by decide +kernel
theorem dX1_init_26 : decode cX1_init 26 = .ok (.aload_n 0, 1) := by decide +kernel
theorem dX1_init_27 : decode cX1_init 27 = .ok (.new 7, 3) := by decide +kernel
theorem dX1_init_30 : decode cX1_init 30 = .ok (.dup, 1) := by decide +kernel
theorem dX1_init_31 : decode cX1_init 31 = .ok (.invokespecial 9, 3) := by decide +kernel
theorem dX1_init_34 : decode cX1_init 34 = .ok (.putfield 19, 3) := by decide +kernel
theorem dX1_init_37 : decode cX1_init 37 = .ok (.aload_n 0, 1) := by decide +kernel
theorem dX1_init_38 : decode cX1_init 38 = .ok (.new 7, 3) := by decide +kernel
theorem dX1_init_41 : decode cX1_init 41 = .ok (.dup, 1) := by decide +kernel
theorem dX1_init_42 : decode cX1_init 42 = .ok (.invokespecial 9, 3) := by decide +kernel
theorem dX1_init_45 : decode cX1_init 45 = .ok (.putfield 22, 3) := by decide +kernel
theorem dX1_init_48 : decode cX1_init 48 = .ok (.aload_n 0, 1) := by decide +kernel
theorem dX1_init_49 : decode cX1_init 49 = .ok (.new 7, 3) := by decide +kernel
theorem dX1_init_52 : decode cX1_init 52 = .ok (.dup, 1) := by decide +kernel
theorem dX1_init_53 : decode cX1_init 53 = .ok (.invokespecial 9, 3) := by decide +kernel
theorem dX1_init_56 : decode cX1_init 56 = .ok (.putfield 25, 3) := by decide +kernel
theorem dX1_init_59 : decode cX1_init 59 = .ok (.aload_n 0, 1) := by decide +kernel
theorem dX1_init_60 : decode cX1_init 60 = .ok (.new 7, 3) := by decide +kernel
theorem dX1_init_63 : decode cX1_init 63 = .ok (.dup, 1) := by decide +kernel
theorem dX1_init_64 : decode cX1_init 64 = .ok (.invokespecial 9, 3) := by decide +kernel
theorem dX1_init_67 : decode cX1_init 67 = .ok (.putfield 28, 3) := by decide +kernel
theorem dX1_init_70 : decode cX1_init 70 = .ok (.return_, 1) := by decide +kernel
theorem dX1_clear_0 : decode cX1_clear 0 = .ok (.aload_n 0, 1) := by decide +kernel
theorem dX1_clear_1 : decode cX1_clear 1 = .ok (.getfield 10, 3) := by decide +kernel
theorem dX1_clear_4 : decode cX1_clear 4 = .ok (.iconst 0, 1) := by decide +kernel
theorem dX1_clear_5 : decode cX1_clear 5 = .ok (.putfield 31, 3) := by decide +kernel
theorem dX1_clear_8 : decode cX1_clear 8 = .ok (.aload_n 0, 1) := by decide +kernel
theorem dX1_clear_9 : decode cX1_clear 9 = .ok (.getfield 16, 3) := by decide +kernel
theorem dX1_clear_12 : decode cX1_clear 12 = .ok (.iconst 0, 1) := by decide +kernel
theorem dX1_clear_13 : decode cX1_clear 13 = .ok (.putfield 31, 3) := by decide +kernel
theorem dX1_clear_16 : decode cX1_clear 16 = .ok (.aload_n 0, 1) := by decide +kernel
theorem dX1_clear_17 : decode cX1_clear 17 = .ok (.getfield 19, 3) := by decide +kernel
theorem dX1_clear_20 : decode cX1_clear 20 = .ok (.iconst 0, 1) := by decide +kernel
theorem dX1_clear_21 : decode cX1_clear 21 = .ok (.putfield 31, 3) := by decide +kernel
theorem dX1_clear_24 : decode cX1_clear 24 = .ok (.aload_n 0, 1) := by decide +kernel
theorem dX1_clear_25 : decode cX1_clear 25 = .ok (.getfield 22, 3) := by decide +kernel
theorem dX1_clear_28 : decode cX1_clear 28 = .ok (.iconst 0, 1) := by decide +kernel
theorem dX1_clear_29 : decode cX1_clear 29 = .ok (.putfield 31, 3) := by decide +kernel
theorem dX1_clear_32 : decode cX1_clear 32 = .ok (.aload_n 0, 1) := by decide +kernel
theorem dX1_clear_33 : decode cX1_clear 33 = .ok (.getfield 25, 3) := by decide +kernel
theorem dX1_clear_36 : decode cX1_clear 36 = .ok (.iconst 0, 1) := by decide +kernel
theorem dX1_clear_37 : decode cX1_clear 37 = .ok (.putfield 31, 3) := by decide +kernel
theorem dX1_clear_40 : decode cX1_clear 40 = .ok (.aload_n 0, 1) := by decide +kernel
theorem dX1_clear_41 : decode cX1_clear 41 = .ok (.getfield 28, 3) := by decide +kernel
theorem dX1_clear_44 : decode cX1_clear 44 = .ok (.iconst 0, 1) := by decide +kernel
theorem dX1_clear_45 : decode cX1_clear 45 = .ok (.putfield 31, 3) := by decide +kernel
theorem dX1_clear_48 : decode cX1_clear 48 = .ok (.return_, 1) := by decide +kernel
set_option maxRecDepth 20000 in
theorem ggX1_add_X1_queueOf : GoodIn wsX1_add wsX1_queueOf := goodIn_r _ [5, 6, 7, 8, 9, 10, 11, 35, 36, 37, 38, 39, 40] (by decide +kernel) (by decide +kernel)
set_option maxRecDepth 20000 in
theorem gX1_add_X1_queueOf : GoodIn wsX1_add (wsV RX1 43 RX1 yX1_queueOf wsX1_queueOf) := goodIn_app (goodIn_of _ (by decide +kernel)) ggX1_add_X1_queueOf
set_option maxRecDepth 20000 in
theorem ggX1_add_X2_toCome : GoodIn wsX1_add wsX2_toCome := goodIn_r _ [15, 16, 17, 18, 19, 20, 21, 28, 29, 30, 31, 32, 33, 34] (by decide +kernel) (by decide +kernel)
set_option maxRecDepth 20000 in
theorem gX1_add_X2_toCome_n50 : GoodIn wsX1_add (wsX2_toCome) := ggX1_add_X2_toCome
set_option maxRecDepth 20000 in
theorem ggX1_add_X3_add : GoodIn wsX1_add wsX3_add := goodIn_r _ [25, 26, 27, 41, 42] (by decide +kernel) (by decide +kernel)
set_option maxRecDepth 20000 in
theorem gX1_add_X3_add_n54 : GoodIn wsX1_add (wsX3_add) := ggX1_add_X3_add
theorem dX1_add_0 : decode cX1_add 0 = .ok (.aload_n 0, 1) := by decide +kernel
theorem dX1_add_1 : decode cX1_add 1 = .ok (.aload_n 1, 1) := by decide +kernel
theorem dX1_add_2 : decode cX1_add 2 = .ok (.getfield 35, 3) := by decide +kernel
theorem dX1_add_5 : decode cX1_add 5 = .ok (.aload_n 1, 1) := by decide +kernel
theorem dX1_add_6 : decode cX1_add 6 = .ok (.getfield 40, 3) := by decide +kernel
theorem dX1_add_9 : decode cX1_add 9 = .ok (.invokevirtual 43, 3) := by decide +kernel
theorem dX1_add_12 : decode cX1_add 12 = .ok (.aload_n 1, 1) := by decide +kernel
theorem dX1_add_13 : decode cX1_add 13 = .ok (.getfield 47, 3) := by decide +kernel
theorem dX1_add_16 : decode cX1_add 16 = .ok (.aload_n 1, 1) := by decide +kernel
theorem dX1_add_17 : decode cX1_add 17 = .ok (.invokevirtual 50, 3) := by decide +kernel
theorem dX1_add_20 : decode cX1_add 20 = .ok (.invokevirtual 54, 3) := by decide +kernel
theorem dX1_add_23 : decode cX1_add 23 = .ok (.return_, 1) := by decide +kernel
theorem dX1_queueOf_0 : decode cX1_queueOf 0 = .ok (.iload_n 1, 1) := by decide +kernel
theorem dX1_queueOf_1 : decode cX1_queueOf 1 = .ok (.ifCond .ne 31, 3) := by decide +kernel
theorem dX1_queueOf_4 : decode cX1_queueOf 4 = .ok (.iload_n 2, 1) := by decide +kernel
theorem dX1_queueOf_5 : decode cX1_queueOf 5 = .ok (.ifCond .ne 10, 3) := by decide +kernel
theorem dX1_queueOf_8 : decode cX1_queueOf 8 = .ok (.aload_n 0, 1) := by decide +kernel
theorem dX1_queueOf_9 : decode cX1_queueOf 9 = .ok (.getfield 10, 3) := by decide +kernel
theorem dX1_queueOf_12 : decode cX1_queueOf 12 = .ok (.goto 19, 3) := by decide +kernel
theorem dX1_queueOf_15 : decode cX1_queueOf 15 = .ok (.iload_n 2, 1) := by decide +kernel
theorem dX1_queueOf_16 : decode cX1_queueOf 16 = .ok (.iconst 1, 1) := by decide +kernel
theorem dX1_queueOf_17 : decode cX1_queueOf 17 = .ok (.if_icmp .ne 10, 3) := by decide +kernel
theorem dX1_queueOf_20 : decode cX1_queueOf 20 = .ok (.aload_n 0, 1) := by decide +kernel
theorem dX1_queueOf_21 : decode cX1_queueOf 21 = .ok (.getfield 22, 3) := by decide +kernel
theorem dX1_queueOf_24 : decode cX1_queueOf 24 = .ok (.goto 7, 3) := by decide +kernel
theorem dX1_queueOf_27 : decode cX1_queueOf 27 = .ok (.aload_n 0, 1) := by decide +kernel
theorem dX1_queueOf_28 : decode cX1_queueOf 28 = .ok (.getfield 28, 3) := by decide +kernel
theorem dX1_queueOf_31 : decode cX1_queueOf 31 = .ok (.areturn, 1) := by decide +kernel
theorem dX1_queueOf_32 : decode cX1_queueOf 32 = .ok (.iload_n 1, 1) := by decide +kernel
theorem dX1_queueOf_33 : decode cX1_queueOf 33 = .ok (.iconst 1, 1) := by decide +kernel
theorem dX1_queueOf_34 : decode cX1_queueOf 34 = .ok (.if_icmp .ne 20, 3) := by decide +kernel
theorem dX1_queueOf_37 : decode cX1_queueOf 37 = .ok (.iload_n 2, 1) := by decide +kernel
theorem dX1_queueOf_38 : decode cX1_queueOf 38 = .ok (.iconst 1, 1) := by decide +kernel
theorem dX1_queueOf_39 : decode cX1_queueOf 39 = .ok (.if_icmp .ne 10, 3) := by decide +kernel
theorem dX1_queueOf_42 : decode cX1_queueOf 42 = .ok (.aload_n 0, 1) := by decide +kernel
theorem dX1_queueOf_43 : decode cX1_queueOf 43 = .ok (.getfield 16, 3) := by decide +kernel
theorem dX1_queueOf_46 : decode cX1_queueOf 46 = .ok (.goto 7, 3) := by decide +kernel
theorem dX1_queueOf_49 : decode cX1_queueOf 49 = .ok (.aload_n 0, 1) := by decide +kernel
theorem dX1_queueOf_50 : decode cX1_queueOf 50 = .ok (.getfield 25, 3) := by decide +kernel
theorem dX1_queueOf_53 : decode cX1_queueOf 53 = .ok (.areturn, 1) := by decide +kernel
theorem dX1_queueOf_54 : decode cX1_queueOf 54 = .ok (.aload_n 0, 1) := by decide +kernel
theorem dX1_queueOf_55 : decode cX1_queueOf 55 = .ok (.getfield 19, 3) := by decide +kernel
theorem dX1_queueOf_58 : decode cX1_queueOf 58 = .ok (.areturn, 1) := by decide +kernel
set_option maxRecDepth 20000 in
theorem ggX1_mostFor_X3_mostFor : GoodIn wsX1_mostFor wsX3_mostFor := goodIn_r _ [12, 13, 14, 35, 36] (by decide +kernel) (by decide +kernel)
set_option maxRecDepth 20000 in
theorem gX1_mostFor_X3_mostFor_n64 : GoodIn wsX1_mostFor (wsX3_mostFor) := ggX1_mostFor_X3_mostFor
set_option maxRecDepth 20000 in
theorem ggX1_mostFor_X1_mostOfShorter : GoodIn wsX1_mostFor wsX1_mostOfShorter := goodIn_r _ [19, 20, 2, 3, 4, 5, 21, 6, 7, 8, 9, 10, 11, 12, 13, 14, 22, 23, 24, 18, 25, 26, 27, 28, 29, 30, 31, 32, 33, 34, 35, 36] (by decide +kernel) (by decide +kernel)
set_option maxRecDepth 20000 in
theorem gX1_mostFor_X1_mostOfShorter : GoodIn wsX1_mostFor (wsV RX1 68 RX1 yX1_mostOfShorter wsX1_mostOfShorter) := goodIn_app (goodIn_of _ (by decide +kernel)) ggX1_mostFor_X1_mostOfShorter
theorem dX1_mostFor_0 : decode cX1_mostFor 0 = .ok (.iconst 0, 1) := by decide +kernel
theorem dX1_mostFor_1 : decode cX1_mostFor 1 = .ok (.istore 4, 2) := by decide +kernel
theorem dX1_mostFor_3 : decode cX1_mostFor 3 = .ok (.aload_n 0, 1) := by decide +kernel
theorem dX1_mostFor_4 : decode cX1_mostFor 4 = .ok (.getfield 28, 3) := by decide +kernel
theorem dX1_mostFor_7 : decode cX1_mostFor 7 = .ok (.getfield 31, 3) := by decide +kernel
theorem dX1_mostFor_10 : decode cX1_mostFor 10 = .ok (.iload_n 1, 1) := by decide +kernel
theorem dX1_mostFor_11 : decode cX1_mostFor 11 = .ok (.iload_n 2, 1) := by decide +kernel
theorem dX1_mostFor_12 : decode cX1_mostFor 12 = .ok (.iload_n 3, 1) := by decide +kernel
theorem dX1_mostFor_13 : decode cX1_mostFor 13 = .ok (.invokestatic 58, 3) := by decide +kernel
theorem dX1_mostFor_16 : decode cX1_mostFor 16 = .ok (.invokestatic 58, 3) := by decide +kernel
theorem dX1_mostFor_19 : decode cX1_mostFor 19 = .ok (.invokestatic 58, 3) := by decide +kernel
theorem dX1_mostFor_22 : decode cX1_mostFor 22 = .ok (.istore 5, 2) := by decide +kernel
theorem dX1_mostFor_24 : decode cX1_mostFor 24 = .ok (.iconst 0, 1) := by decide +kernel
theorem dX1_mostFor_25 : decode cX1_mostFor 25 = .ok (.istore 6, 2) := by decide +kernel
theorem dX1_mostFor_27 : decode cX1_mostFor 27 = .ok (.iload 6, 2) := by decide +kernel
theorem dX1_mostFor_29 : decode cX1_mostFor 29 = .ok (.iload 5, 2) := by decide +kernel
theorem dX1_mostFor_31 : decode cX1_mostFor 31 = .ok (.if_icmp .gt 42, 3) := by decide +kernel
theorem dX1_mostFor_34 : decode cX1_mostFor 34 = .ok (.iload 4, 2) := by decide +kernel
theorem dX1_mostFor_36 : decode cX1_mostFor 36 = .ok (.aload_n 0, 1) := by decide +kernel
theorem dX1_mostFor_37 : decode cX1_mostFor 37 = .ok (.getfield 28, 3) := by decide +kernel
theorem dX1_mostFor_40 : decode cX1_mostFor 40 = .ok (.iload 6, 2) := by decide +kernel
theorem dX1_mostFor_42 : decode cX1_mostFor 42 = .ok (.invokevirtual 64, 3) := by decide +kernel
theorem dX1_mostFor_45 : decode cX1_mostFor 45 = .ok (.aload_n 0, 1) := by decide +kernel
theorem dX1_mostFor_46 : decode cX1_mostFor 46 = .ok (.iload_n 1, 1) := by decide +kernel
theorem dX1_mostFor_47 : decode cX1_mostFor 47 = .ok (.iload 6, 2) := by decide +kernel
theorem dX1_mostFor_49 : decode cX1_mostFor 49 = .ok (.isub, 1) := by decide +kernel
theorem dX1_mostFor_50 : decode cX1_mostFor 50 = .ok (.iload_n 2, 1) := by decide +kernel
theorem dX1_mostFor_51 : decode cX1_mostFor 51 = .ok (.iload 6, 2) := by decide +kernel
theorem dX1_mostFor_53 : decode cX1_mostFor 53 = .ok (.isub, 1) := by decide +kernel
theorem dX1_mostFor_54 : decode cX1_mostFor 54 = .ok (.iload_n 3, 1) := by decide +kernel
theorem dX1_mostFor_55 : decode cX1_mostFor 55 = .ok (.iload 6, 2) := by decide +kernel
theorem dX1_mostFor_57 : decode cX1_mostFor 57 = .ok (.isub, 1) := by decide +kernel
theorem dX1_mostFor_58 : decode cX1_mostFor 58 = .ok (.invokevirtual 68, 3) := by decide +kernel
theorem dX1_mostFor_61 : decode cX1_mostFor 61 = .ok (.iadd, 1) := by decide +kernel
theorem dX1_mostFor_62 : decode cX1_mostFor 62 = .ok (.invokestatic 72, 3) := by decide +kernel
theorem dX1_mostFor_65 : decode cX1_mostFor 65 = .ok (.istore 4, 2) := by decide +kernel
theorem dX1_mostFor_67 : decode cX1_mostFor 67 = .ok (.iinc 6 1, 3) := by decide +kernel
theorem dX1_mostFor_70 : decode cX1_mostFor 70 = .ok (.goto (-43), 3) := by decide +kernel
theorem dX1_mostFor_73 : decode cX1_mostFor 73 = .ok (.iload 4, 2) := by decide +kernel
theorem dX1_mostFor_75 : decode cX1_mostFor 75 = .ok (.ireturn, 1) := by decide +kernel
set_option maxRecDepth 20000 in
theorem ggX1_mostOfShorter_X3_mostFor : GoodIn wsX1_mostOfShorter wsX3_mostFor := goodIn_r _ [13, 14, 15, 30, 31] (by decide +kernel) (by decide +kernel)
set_option maxRecDepth 20000 in
theorem gX1_mostOfShorter_X3_mostFor_n64 : GoodIn wsX1_mostOfShorter (wsX3_mostFor) := ggX1_mostOfShorter_X3_mostFor
set_option maxRecDepth 20000 in
theorem ggX1_mostOfShorter_X1_mostBehind : GoodIn wsX1_mostOfShorter wsX1_mostBehind := goodIn_r _ [20, 21, 2, 3, 4, 5, 22, 23, 7, 8, 9, 10, 11, 12, 13, 14, 15, 24, 25, 26, 27, 28, 29, 30, 31] (by decide +kernel) (by decide +kernel)
set_option maxRecDepth 20000 in
theorem gX1_mostOfShorter_X1_mostBehind : GoodIn wsX1_mostOfShorter (wsV RX1 75 RX1 yX1_mostBehind wsX1_mostBehind) := goodIn_app (goodIn_of _ (by decide +kernel)) ggX1_mostOfShorter_X1_mostBehind
theorem dX1_mostOfShorter_0 : decode cX1_mostOfShorter 0 = .ok (.iconst 0, 1) := by decide +kernel
theorem dX1_mostOfShorter_1 : decode cX1_mostOfShorter 1 = .ok (.istore 4, 2) := by decide +kernel
theorem dX1_mostOfShorter_3 : decode cX1_mostOfShorter 3 = .ok (.aload_n 0, 1) := by decide +kernel
theorem dX1_mostOfShorter_4 : decode cX1_mostOfShorter 4 = .ok (.getfield 22, 3) := by decide +kernel
theorem dX1_mostOfShorter_7 : decode cX1_mostOfShorter 7 = .ok (.getfield 31, 3) := by decide +kernel
theorem dX1_mostOfShorter_10 : decode cX1_mostOfShorter 10 = .ok (.iload_n 1, 1) := by decide +kernel
theorem dX1_mostOfShorter_11 : decode cX1_mostOfShorter 11 = .ok (.iload_n 2, 1) := by decide +kernel
theorem dX1_mostOfShorter_12 : decode cX1_mostOfShorter 12 = .ok (.invokestatic 58, 3) := by decide +kernel
theorem dX1_mostOfShorter_15 : decode cX1_mostOfShorter 15 = .ok (.invokestatic 58, 3) := by decide +kernel
theorem dX1_mostOfShorter_18 : decode cX1_mostOfShorter 18 = .ok (.istore 5, 2) := by decide +kernel
theorem dX1_mostOfShorter_20 : decode cX1_mostOfShorter 20 = .ok (.iconst 0, 1) := by decide +kernel
theorem dX1_mostOfShorter_21 : decode cX1_mostOfShorter 21 = .ok (.istore 6, 2) := by decide +kernel
theorem dX1_mostOfShorter_23 : decode cX1_mostOfShorter 23 = .ok (.iload 6, 2) := by decide +kernel
theorem dX1_mostOfShorter_25 : decode cX1_mostOfShorter 25 = .ok (.iload 5, 2) := by decide +kernel
theorem dX1_mostOfShorter_27 : decode cX1_mostOfShorter 27 = .ok (.if_icmp .gt 51, 3) := by decide +kernel
theorem dX1_mostOfShorter_30 : decode cX1_mostOfShorter 30 = .ok (.aload_n 0, 1) := by decide +kernel
theorem dX1_mostOfShorter_31 : decode cX1_mostOfShorter 31 = .ok (.getfield 22, 3) := by decide +kernel
theorem dX1_mostOfShorter_34 : decode cX1_mostOfShorter 34 = .ok (.iload 6, 2) := by decide +kernel
theorem dX1_mostOfShorter_36 : decode cX1_mostOfShorter 36 = .ok (.invokevirtual 64, 3) := by decide +kernel
theorem dX1_mostOfShorter_39 : decode cX1_mostOfShorter 39 = .ok (.aload_n 0, 1) := by decide +kernel
theorem dX1_mostOfShorter_40 : decode cX1_mostOfShorter 40 = .ok (.getfield 10, 3) := by decide +kernel
theorem dX1_mostOfShorter_43 : decode cX1_mostOfShorter 43 = .ok (.iload_n 1, 1) := by decide +kernel
theorem dX1_mostOfShorter_44 : decode cX1_mostOfShorter 44 = .ok (.iload 6, 2) := by decide +kernel
theorem dX1_mostOfShorter_46 : decode cX1_mostOfShorter 46 = .ok (.isub, 1) := by decide +kernel
theorem dX1_mostOfShorter_47 : decode cX1_mostOfShorter 47 = .ok (.invokevirtual 64, 3) := by decide +kernel
theorem dX1_mostOfShorter_50 : decode cX1_mostOfShorter 50 = .ok (.iadd, 1) := by decide +kernel
theorem dX1_mostOfShorter_51 : decode cX1_mostOfShorter 51 = .ok (.istore 7, 2) := by decide +kernel
theorem dX1_mostOfShorter_53 : decode cX1_mostOfShorter 53 = .ok (.iload 4, 2) := by decide +kernel
theorem dX1_mostOfShorter_55 : decode cX1_mostOfShorter 55 = .ok (.iload 7, 2) := by decide +kernel
theorem dX1_mostOfShorter_57 : decode cX1_mostOfShorter 57 = .ok (.aload_n 0, 1) := by decide +kernel
theorem dX1_mostOfShorter_58 : decode cX1_mostOfShorter 58 = .ok (.iload_n 2, 1) := by decide +kernel
theorem dX1_mostOfShorter_59 : decode cX1_mostOfShorter 59 = .ok (.iload 6, 2) := by decide +kernel
theorem dX1_mostOfShorter_61 : decode cX1_mostOfShorter 61 = .ok (.isub, 1) := by decide +kernel
theorem dX1_mostOfShorter_62 : decode cX1_mostOfShorter 62 = .ok (.iload_n 3, 1) := by decide +kernel
theorem dX1_mostOfShorter_63 : decode cX1_mostOfShorter 63 = .ok (.invokevirtual 75, 3) := by decide +kernel
theorem dX1_mostOfShorter_66 : decode cX1_mostOfShorter 66 = .ok (.iadd, 1) := by decide +kernel
theorem dX1_mostOfShorter_67 : decode cX1_mostOfShorter 67 = .ok (.invokestatic 72, 3) := by decide +kernel
theorem dX1_mostOfShorter_70 : decode cX1_mostOfShorter 70 = .ok (.istore 4, 2) := by decide +kernel
theorem dX1_mostOfShorter_72 : decode cX1_mostOfShorter 72 = .ok (.iinc 6 1, 3) := by decide +kernel
theorem dX1_mostOfShorter_75 : decode cX1_mostOfShorter 75 = .ok (.goto (-52), 3) := by decide +kernel
theorem dX1_mostOfShorter_78 : decode cX1_mostOfShorter 78 = .ok (.iload 4, 2) := by decide +kernel
theorem dX1_mostOfShorter_80 : decode cX1_mostOfShorter 80 = .ok (.ireturn, 1) := by decide +kernel
set_option maxRecDepth 20000 in
theorem ggX1_mostBehind_X3_mostFor : GoodIn wsX1_mostBehind wsX3_mostFor := goodIn_r _ [14, 15, 16, 23, 24] (by decide +kernel) (by decide +kernel)
set_option maxRecDepth 20000 in
theorem gX1_mostBehind_X3_mostFor_n64 : GoodIn wsX1_mostBehind (wsX3_mostFor) := ggX1_mostBehind_X3_mostFor
theorem dX1_mostBehind_0 : decode cX1_mostBehind 0 = .ok (.iconst 0, 1) := by decide +kernel
theorem dX1_mostBehind_1 : decode cX1_mostBehind 1 = .ok (.istore_n 3, 1) := by decide +kernel
theorem dX1_mostBehind_2 : decode cX1_mostBehind 2 = .ok (.aload_n 0, 1) := by decide +kernel
theorem dX1_mostBehind_3 : decode cX1_mostBehind 3 = .ok (.getfield 25, 3) := by decide +kernel
theorem dX1_mostBehind_6 : decode cX1_mostBehind 6 = .ok (.getfield 31, 3) := by decide +kernel
theorem dX1_mostBehind_9 : decode cX1_mostBehind 9 = .ok (.iload_n 1, 1) := by decide +kernel
theorem dX1_mostBehind_10 : decode cX1_mostBehind 10 = .ok (.iload_n 2, 1) := by decide +kernel
theorem dX1_mostBehind_11 : decode cX1_mostBehind 11 = .ok (.invokestatic 58, 3) := by decide +kernel
theorem dX1_mostBehind_14 : decode cX1_mostBehind 14 = .ok (.invokestatic 58, 3) := by decide +kernel
theorem dX1_mostBehind_17 : decode cX1_mostBehind 17 = .ok (.istore 4, 2) := by decide +kernel
theorem dX1_mostBehind_19 : decode cX1_mostBehind 19 = .ok (.iconst 0, 1) := by decide +kernel
theorem dX1_mostBehind_20 : decode cX1_mostBehind 20 = .ok (.istore 5, 2) := by decide +kernel
theorem dX1_mostBehind_22 : decode cX1_mostBehind 22 = .ok (.iload 5, 2) := by decide +kernel
theorem dX1_mostBehind_24 : decode cX1_mostBehind 24 = .ok (.iload 4, 2) := by decide +kernel
theorem dX1_mostBehind_26 : decode cX1_mostBehind 26 = .ok (.if_icmp .gt 47, 3) := by decide +kernel
theorem dX1_mostBehind_29 : decode cX1_mostBehind 29 = .ok (.iload_n 3, 1) := by decide +kernel
theorem dX1_mostBehind_30 : decode cX1_mostBehind 30 = .ok (.aload_n 0, 1) := by decide +kernel
theorem dX1_mostBehind_31 : decode cX1_mostBehind 31 = .ok (.getfield 25, 3) := by decide +kernel
theorem dX1_mostBehind_34 : decode cX1_mostBehind 34 = .ok (.iload 5, 2) := by decide +kernel
theorem dX1_mostBehind_36 : decode cX1_mostBehind 36 = .ok (.invokevirtual 64, 3) := by decide +kernel
theorem dX1_mostBehind_39 : decode cX1_mostBehind 39 = .ok (.aload_n 0, 1) := by decide +kernel
theorem dX1_mostBehind_40 : decode cX1_mostBehind 40 = .ok (.getfield 16, 3) := by decide +kernel
theorem dX1_mostBehind_43 : decode cX1_mostBehind 43 = .ok (.iload_n 1, 1) := by decide +kernel
theorem dX1_mostBehind_44 : decode cX1_mostBehind 44 = .ok (.iload 5, 2) := by decide +kernel
theorem dX1_mostBehind_46 : decode cX1_mostBehind 46 = .ok (.isub, 1) := by decide +kernel
theorem dX1_mostBehind_47 : decode cX1_mostBehind 47 = .ok (.invokevirtual 64, 3) := by decide +kernel
theorem dX1_mostBehind_50 : decode cX1_mostBehind 50 = .ok (.iadd, 1) := by decide +kernel
theorem dX1_mostBehind_51 : decode cX1_mostBehind 51 = .ok (.aload_n 0, 1) := by decide +kernel
theorem dX1_mostBehind_52 : decode cX1_mostBehind 52 = .ok (.getfield 19, 3) := by decide +kernel
theorem dX1_mostBehind_55 : decode cX1_mostBehind 55 = .ok (.iload_n 2, 1) := by decide +kernel
theorem dX1_mostBehind_56 : decode cX1_mostBehind 56 = .ok (.iload 5, 2) := by decide +kernel
theorem dX1_mostBehind_58 : decode cX1_mostBehind 58 = .ok (.isub, 1) := by decide +kernel
theorem dX1_mostBehind_59 : decode cX1_mostBehind 59 = .ok (.invokevirtual 64, 3) := by decide +kernel
theorem dX1_mostBehind_62 : decode cX1_mostBehind 62 = .ok (.iadd, 1) := by decide +kernel
theorem dX1_mostBehind_63 : decode cX1_mostBehind 63 = .ok (.invokestatic 72, 3) := by decide +kernel
theorem dX1_mostBehind_66 : decode cX1_mostBehind 66 = .ok (.istore_n 3, 1) := by decide +kernel
theorem dX1_mostBehind_67 : decode cX1_mostBehind 67 = .ok (.iinc 5 1, 3) := by decide +kernel
theorem dX1_mostBehind_70 : decode cX1_mostBehind 70 = .ok (.goto (-48), 3) := by decide +kernel
theorem dX1_mostBehind_73 : decode cX1_mostBehind 73 = .ok (.iload_n 3, 1) := by decide +kernel
theorem dX1_mostBehind_74 : decode cX1_mostBehind 74 = .ok (.ireturn, 1) := by decide +kernel
theorem dX2_init_0 : decode cX2_init 0 = .ok (.aload_n 0, 1) := by decide +kernel
theorem dX2_init_1 : decode cX2_init 1 = .ok (.invokespecial 3, 3) := by decide +kernel
theorem dX2_init_4 : decode cX2_init 4 = .ok (.aload_n 0, 1) := by decide +kernel
theorem dX2_init_5 : decode cX2_init 5 = .ok (.bipush 21, 2) := by decide +kernel
theorem dX2_init_7 : decode cX2_init 7 = .ok (.newarray .int, 2) := by decide +kernel
theorem dX2_init_9 : decode cX2_init 9 = .ok (.putfield 9, 3) := by decide +kernel
theorem dX2_init_12 : decode cX2_init 12 = .ok (.aload_n 0, 1) := by decide +kernel
theorem dX2_init_13 : decode cX2_init 13 = .ok (.iconst 0, 1) := by decide +kernel
theorem dX2_init_14 : decode cX2_init 14 = .ok (.putfield 15, 3) := by decide +kernel
theorem dX2_init_17 : decode cX2_init 17 = .ok (.aload_n 0, 1) := by decide +kernel
theorem dX2_init_18 : decode cX2_init 18 = .ok (.iconst 0, 1) := by decide +kernel
theorem dX2_init_19 : decode cX2_init 19 = .ok (.putfield 19, 3) := by decide +kernel
theorem dX2_init_22 : decode cX2_init 22 = .ok (.aload_n 0, 1) := by decide +kernel
theorem dX2_init_23 : decode cX2_init 23 = .ok (.iconst 0, 1) := by decide +kernel
theorem dX2_init_24 : decode cX2_init 24 = .ok (.putfield 22, 3) := by decide +kernel
theorem dX2_init_27 : decode cX2_init 27 = .ok (.aload_n 0, 1) := by decide +kernel
theorem dX2_init_28 : decode cX2_init 28 = .ok (.iload_n 1, 1) := by decide +kernel
theorem dX2_init_29 : decode cX2_init 29 = .ok (.putfield 25, 3) := by decide +kernel
theorem dX2_init_32 : decode cX2_init 32 = .ok (.aload_n 0, 1) := by decide +kernel
theorem dX2_init_33 : decode cX2_init 33 = .ok (.iload_n 2, 1) := by decide +kernel
theorem dX2_init_34 : decode cX2_init 34 = .ok (.putfield 28, 3) := by decide +kernel
theorem dX2_init_37 : decode cX2_init 37 = .ok (.aload_n 0, 1) := by decide +kernel
theorem dX2_init_38 : decode cX2_init 38 = .ok (.iload_n 3, 1) := by decide +kernel
theorem dX2_init_39 : decode cX2_init 39 = .ok (.putfield 31, 3) := by decide +kernel
theorem dX2_init_42 : decode cX2_init 42 = .ok (.aload_n 0, 1) := by decide +kernel
theorem dX2_init_43 : decode cX2_init 43 = .ok (.getfield 9, 3) := by decide +kernel
theorem dX2_init_46 : decode cX2_init 46 = .ok (.iconst 0, 1) := by decide +kernel
theorem dX2_init_47 : decode cX2_init 47 = .ok (.iload 4, 2) := by decide +kernel
theorem dX2_init_49 : decode cX2_init 49 = .ok (.iastore, 1) := by decide +kernel
theorem dX2_init_50 : decode cX2_init 50 = .ok (.return_, 1) := by decide +kernel
theorem dX2_covers_0 : decode cX2_covers 0 = .ok (.iload_n 1, 1) := by decide +kernel
theorem dX2_covers_1 : decode cX2_covers 1 = .ok (.aload_n 0, 1) := by decide +kernel
theorem dX2_covers_2 : decode cX2_covers 2 = .ok (.getfield 25, 3) := by decide +kernel
theorem dX2_covers_5 : decode cX2_covers 5 = .ok (.if_icmp .lt 15, 3) := by decide +kernel
theorem dX2_covers_8 : decode cX2_covers 8 = .ok (.iload_n 1, 1) := by decide +kernel
theorem dX2_covers_9 : decode cX2_covers 9 = .ok (.aload_n 0, 1) := by decide +kernel
theorem dX2_covers_10 : decode cX2_covers 10 = .ok (.getfield 28, 3) := by decide +kernel
theorem dX2_covers_13 : decode cX2_covers 13 = .ok (.if_icmp .gt 7, 3) := by decide +kernel
theorem dX2_covers_16 : decode cX2_covers 16 = .ok (.iconst 1, 1) := by decide +kernel
theorem dX2_covers_17 : decode cX2_covers 17 = .ok (.goto 4, 3) := by decide +kernel
theorem dX2_covers_20 : decode cX2_covers 20 = .ok (.iconst 0, 1) := by decide +kernel
theorem dX2_covers_21 : decode cX2_covers 21 = .ok (.ireturn, 1) := by decide +kernel
theorem dX2_toCome_0 : decode cX2_toCome 0 = .ok (.iconst 0, 1) := by decide +kernel
theorem dX2_toCome_1 : decode cX2_toCome 1 = .ok (.aload_n 0, 1) := by decide +kernel
theorem dX2_toCome_2 : decode cX2_toCome 2 = .ok (.getfield 15, 3) := by decide +kernel
theorem dX2_toCome_5 : decode cX2_toCome 5 = .ok (.aload_n 0, 1) := by decide +kernel
theorem dX2_toCome_6 : decode cX2_toCome 6 = .ok (.getfield 19, 3) := by decide +kernel
theorem dX2_toCome_9 : decode cX2_toCome 9 = .ok (.isub, 1) := by decide +kernel
theorem dX2_toCome_10 : decode cX2_toCome 10 = .ok (.invokestatic 34, 3) := by decide +kernel
theorem dX2_toCome_13 : decode cX2_toCome 13 = .ok (.ireturn, 1) := by decide +kernel
theorem dX2_protectedAgainst_0 : decode cX2_protectedAgainst 0 = .ok (.iload_n 2, 1) := by decide +kernel
theorem dX2_protectedAgainst_1 : decode cX2_protectedAgainst 1 = .ok (.ifCond .gt 5, 3) := by decide +kernel
theorem dX2_protectedAgainst_4 : decode cX2_protectedAgainst 4 = .ok (.iconst 0, 1) := by decide +kernel
theorem dX2_protectedAgainst_5 : decode cX2_protectedAgainst 5 = .ok (.ireturn, 1) := by decide +kernel
theorem dX2_protectedAgainst_6 : decode cX2_protectedAgainst 6 = .ok (.iload_n 1, 1) := by decide +kernel
theorem dX2_protectedAgainst_7 : decode cX2_protectedAgainst 7 = .ok (.i2l, 1) := by decide +kernel
theorem dX2_protectedAgainst_8 : decode cX2_protectedAgainst 8 = .ok (.iload_n 2, 1) := by decide +kernel
theorem dX2_protectedAgainst_9 : decode cX2_protectedAgainst 9 = .ok (.i2l, 1) := by decide +kernel
theorem dX2_protectedAgainst_10 : decode cX2_protectedAgainst 10 = .ok (.lmul, 1) := by decide +kernel
theorem dX2_protectedAgainst_11 : decode cX2_protectedAgainst 11 = .ok (.lstore_n 3, 1) := by decide +kernel
theorem dX2_protectedAgainst_12 : decode cX2_protectedAgainst 12 = .ok (.lconst 0, 1) := by decide +kernel
theorem dX2_protectedAgainst_13 : decode cX2_protectedAgainst 13 = .ok (.lstore 5, 2) := by decide +kernel
theorem dX2_protectedAgainst_15 : decode cX2_protectedAgainst 15 = .ok (.aload_n 0, 1) := by decide +kernel
theorem dX2_protectedAgainst_16 : decode cX2_protectedAgainst 16 = .ok (.getfield 9, 3) := by decide +kernel
theorem dX2_protectedAgainst_19 : decode cX2_protectedAgainst 19 = .ok (.arraylength, 1) := by decide +kernel
theorem dX2_protectedAgainst_20 : decode cX2_protectedAgainst 20 = .ok (.iconst 1, 1) := by decide +kernel
theorem dX2_protectedAgainst_21 : decode cX2_protectedAgainst 21 = .ok (.isub, 1) := by decide +kernel
theorem dX2_protectedAgainst_22 : decode cX2_protectedAgainst 22 = .ok (.istore 7, 2) := by decide +kernel
theorem dX2_protectedAgainst_24 : decode cX2_protectedAgainst 24 = .ok (.iload 7, 2) := by decide +kernel
theorem dX2_protectedAgainst_26 : decode cX2_protectedAgainst 26 = .ok (.ifCond .le 38, 3) := by decide +kernel
theorem dX2_protectedAgainst_29 : decode cX2_protectedAgainst 29 = .ok (.lload 5, 2) := by decide +kernel
theorem dX2_protectedAgainst_31 : decode cX2_protectedAgainst 31 = .ok (.aload_n 0, 1) := by decide +kernel
theorem dX2_protectedAgainst_32 : decode cX2_protectedAgainst 32 = .ok (.getfield 9, 3) := by decide +kernel
theorem dX2_protectedAgainst_35 : decode cX2_protectedAgainst 35 = .ok (.iload 7, 2) := by decide +kernel
theorem dX2_protectedAgainst_37 : decode cX2_protectedAgainst 37 = .ok (.iaload, 1) := by decide +kernel
theorem dX2_protectedAgainst_38 : decode cX2_protectedAgainst 38 = .ok (.i2l, 1) := by decide +kernel
theorem dX2_protectedAgainst_39 : decode cX2_protectedAgainst 39 = .ok (.ladd, 1) := by decide +kernel
theorem dX2_protectedAgainst_40 : decode cX2_protectedAgainst 40 = .ok (.lstore 5, 2) := by decide +kernel
theorem dX2_protectedAgainst_42 : decode cX2_protectedAgainst 42 = .ok (.aload_n 0, 1) := by decide +kernel
theorem dX2_protectedAgainst_43 : decode cX2_protectedAgainst 43 = .ok (.getfield 31, 3) := by decide +kernel
theorem dX2_protectedAgainst_46 : decode cX2_protectedAgainst 46 = .ok (.i2l, 1) := by decide +kernel
theorem dX2_protectedAgainst_47 : decode cX2_protectedAgainst 47 = .ok (.lload 5, 2) := by decide +kernel
theorem dX2_protectedAgainst_49 : decode cX2_protectedAgainst 49 = .ok (.lmul, 1) := by decide +kernel
theorem dX2_protectedAgainst_50 : decode cX2_protectedAgainst 50 = .ok (.lload_n 3, 1) := by decide +kernel
theorem dX2_protectedAgainst_51 : decode cX2_protectedAgainst 51 = .ok (.lcmp, 1) := by decide +kernel
theorem dX2_protectedAgainst_52 : decode cX2_protectedAgainst 52 = .ok (.ifCond .lt 6, 3) := by decide +kernel
theorem dX2_protectedAgainst_55 : decode cX2_protectedAgainst 55 = .ok (.iload 7, 2) := by decide +kernel
theorem dX2_protectedAgainst_57 : decode cX2_protectedAgainst 57 = .ok (.ireturn, 1) := by decide +kernel
theorem dX2_protectedAgainst_58 : decode cX2_protectedAgainst 58 = .ok (.iinc 7 (-1), 3) := by decide +kernel
theorem dX2_protectedAgainst_61 : decode cX2_protectedAgainst 61 = .ok (.goto (-37), 3) := by decide +kernel
theorem dX2_protectedAgainst_64 : decode cX2_protectedAgainst 64 = .ok (.iconst 0, 1) := by decide +kernel
theorem dX2_protectedAgainst_65 : decode cX2_protectedAgainst 65 = .ok (.ireturn, 1) := by decide +kernel
theorem dX2_learn_0 : decode cX2_learn 0 = .ok (.aload_n 0, 1) := by decide +kernel
theorem dX2_learn_1 : decode cX2_learn 1 = .ok (.getfield 19, 3) := by decide +kernel
theorem dX2_learn_4 : decode cX2_learn 4 = .ok (.bipush 20, 2) := by decide +kernel
theorem dX2_learn_6 : decode cX2_learn 6 = .ok (.invokestatic 40, 3) := by decide +kernel
theorem dX2_learn_9 : decode cX2_learn 9 = .ok (.istore_n 2, 1) := by decide +kernel
theorem dX2_learn_10 : decode cX2_learn 10 = .ok (.iload_n 2, 1) := by decide +kernel
theorem dX2_learn_11 : decode cX2_learn 11 = .ok (.ifCond .lt 22, 3) := by decide +kernel
theorem dX2_learn_14 : decode cX2_learn 14 = .ok (.iload_n 2, 1) := by decide +kernel
theorem dX2_learn_15 : decode cX2_learn 15 = .ok (.aload_n 0, 1) := by decide +kernel
theorem dX2_learn_16 : decode cX2_learn 16 = .ok (.getfield 9, 3) := by decide +kernel
theorem dX2_learn_19 : decode cX2_learn 19 = .ok (.arraylength, 1) := by decide +kernel
theorem dX2_learn_20 : decode cX2_learn 20 = .ok (.if_icmp .ge 13, 3) := by decide +kernel
theorem dX2_learn_23 : decode cX2_learn 23 = .ok (.aload_n 0, 1) := by decide +kernel
theorem dX2_learn_24 : decode cX2_learn 24 = .ok (.getfield 9, 3) := by decide +kernel
theorem dX2_learn_27 : decode cX2_learn 27 = .ok (.iload_n 2, 1) := by decide +kernel
theorem dX2_learn_28 : decode cX2_learn 28 = .ok (.dup2, 1) := by decide +kernel
theorem dX2_learn_29 : decode cX2_learn 29 = .ok (.iaload, 1) := by decide +kernel
theorem dX2_learn_30 : decode cX2_learn 30 = .ok (.iconst 1, 1) := by decide +kernel
theorem dX2_learn_31 : decode cX2_learn 31 = .ok (.iadd, 1) := by decide +kernel
theorem dX2_learn_32 : decode cX2_learn 32 = .ok (.iastore, 1) := by decide +kernel
theorem dX2_learn_33 : decode cX2_learn 33 = .ok (.aload_n 0, 1) := by decide +kernel
theorem dX2_learn_34 : decode cX2_learn 34 = .ok (.dup, 1) := by decide +kernel
theorem dX2_learn_35 : decode cX2_learn 35 = .ok (.getfield 22, 3) := by decide +kernel
theorem dX2_learn_38 : decode cX2_learn 38 = .ok (.aload_n 0, 1) := by decide +kernel
theorem dX2_learn_39 : decode cX2_learn 39 = .ok (.getfield 19, 3) := by decide +kernel
theorem dX2_learn_42 : decode cX2_learn 42 = .ok (.iadd, 1) := by decide +kernel
theorem dX2_learn_43 : decode cX2_learn 43 = .ok (.putfield 22, 3) := by decide +kernel
theorem dX2_learn_46 : decode cX2_learn 46 = .ok (.aload_n 0, 1) := by decide +kernel
theorem dX2_learn_47 : decode cX2_learn 47 = .ok (.iconst 0, 1) := by decide +kernel
theorem dX2_learn_48 : decode cX2_learn 48 = .ok (.putfield 19, 3) := by decide +kernel
theorem dX2_learn_51 : decode cX2_learn 51 = .ok (.iload_n 1, 1) := by decide +kernel
theorem dX2_learn_52 : decode cX2_learn 52 = .ok (.ifCond .le 13, 3) := by decide +kernel
theorem dX2_learn_55 : decode cX2_learn 55 = .ok (.aload_n 0, 1) := by decide +kernel
theorem dX2_learn_56 : decode cX2_learn 56 = .ok (.aload_n 0, 1) := by decide +kernel
theorem dX2_learn_57 : decode cX2_learn 57 = .ok (.getfield 22, 3) := by decide +kernel
theorem dX2_learn_60 : decode cX2_learn 60 = .ok (.iload_n 1, 1) := by decide +kernel
theorem dX2_learn_61 : decode cX2_learn 61 = .ok (.idiv, 1) := by decide +kernel
theorem dX2_learn_62 : decode cX2_learn 62 = .ok (.putfield 15, 3) := by decide +kernel
theorem dX2_learn_65 : decode cX2_learn 65 = .ok (.return_, 1) := by decide +kernel
theorem dX3_init_0 : decode cX3_init 0 = .ok (.aload_n 0, 1) := by decide +kernel
theorem dX3_init_1 : decode cX3_init 1 = .ok (.invokespecial 3, 3) := by decide +kernel
theorem dX3_init_4 : decode cX3_init 4 = .ok (.aload_n 0, 1) := by decide +kernel
theorem dX3_init_5 : decode cX3_init 5 = .ok (.bipush 12, 2) := by decide +kernel
theorem dX3_init_7 : decode cX3_init 7 = .ok (.newarray .int, 2) := by decide +kernel
theorem dX3_init_9 : decode cX3_init 9 = .ok (.putfield 9, 3) := by decide +kernel
theorem dX3_init_12 : decode cX3_init 12 = .ok (.aload_n 0, 1) := by decide +kernel
theorem dX3_init_13 : decode cX3_init 13 = .ok (.iconst 0, 1) := by decide +kernel
theorem dX3_init_14 : decode cX3_init 14 = .ok (.putfield 15, 3) := by decide +kernel
theorem dX3_init_17 : decode cX3_init 17 = .ok (.return_, 1) := by decide +kernel
theorem dX3_add_0 : decode cX3_add 0 = .ok (.iconst 0, 1) := by decide +kernel
theorem dX3_add_1 : decode cX3_add 1 = .ok (.istore_n 3, 1) := by decide +kernel
theorem dX3_add_2 : decode cX3_add 2 = .ok (.iload_n 3, 1) := by decide +kernel
theorem dX3_add_3 : decode cX3_add 3 = .ok (.iload_n 2, 1) := by decide +kernel
theorem dX3_add_4 : decode cX3_add 4 = .ok (.if_icmp .ge 62, 3) := by decide +kernel
theorem dX3_add_7 : decode cX3_add 7 = .ok (.aload_n 0, 1) := by decide +kernel
theorem dX3_add_8 : decode cX3_add 8 = .ok (.getfield 15, 3) := by decide +kernel
theorem dX3_add_11 : decode cX3_add 11 = .ok (.ifCond .lt 55, 3) := by decide +kernel
theorem dX3_add_14 : decode cX3_add 14 = .ok (.aload_n 0, 1) := by decide +kernel
theorem dX3_add_15 : decode cX3_add 15 = .ok (.getfield 15, 3) := by decide +kernel
theorem dX3_add_18 : decode cX3_add 18 = .ok (.iconst 1, 1) := by decide +kernel
theorem dX3_add_19 : decode cX3_add 19 = .ok (.iadd, 1) := by decide +kernel
theorem dX3_add_20 : decode cX3_add 20 = .ok (.aload_n 0, 1) := by decide +kernel
theorem dX3_add_21 : decode cX3_add 21 = .ok (.getfield 9, 3) := by decide +kernel
theorem dX3_add_24 : decode cX3_add 24 = .ok (.arraylength, 1) := by decide +kernel
theorem dX3_add_25 : decode cX3_add 25 = .ok (.if_icmp .ge 41, 3) := by decide +kernel
theorem dX3_add_28 : decode cX3_add 28 = .ok (.aload_n 0, 1) := by decide +kernel
theorem dX3_add_29 : decode cX3_add 29 = .ok (.getfield 9, 3) := by decide +kernel
theorem dX3_add_32 : decode cX3_add 32 = .ok (.aload_n 0, 1) := by decide +kernel
theorem dX3_add_33 : decode cX3_add 33 = .ok (.getfield 15, 3) := by decide +kernel
theorem dX3_add_36 : decode cX3_add 36 = .ok (.iconst 1, 1) := by decide +kernel
theorem dX3_add_37 : decode cX3_add 37 = .ok (.iadd, 1) := by decide +kernel
theorem dX3_add_38 : decode cX3_add 38 = .ok (.aload_n 0, 1) := by decide +kernel
theorem dX3_add_39 : decode cX3_add 39 = .ok (.getfield 9, 3) := by decide +kernel
theorem dX3_add_42 : decode cX3_add 42 = .ok (.aload_n 0, 1) := by decide +kernel
theorem dX3_add_43 : decode cX3_add 43 = .ok (.getfield 15, 3) := by decide +kernel
theorem dX3_add_46 : decode cX3_add 46 = .ok (.iaload, 1) := by decide +kernel
theorem dX3_add_47 : decode cX3_add 47 = .ok (.iload_n 1, 1) := by decide +kernel
theorem dX3_add_48 : decode cX3_add 48 = .ok (.iadd, 1) := by decide +kernel
theorem dX3_add_49 : decode cX3_add 49 = .ok (.iastore, 1) := by decide +kernel
theorem dX3_add_50 : decode cX3_add 50 = .ok (.aload_n 0, 1) := by decide +kernel
theorem dX3_add_51 : decode cX3_add 51 = .ok (.dup, 1) := by decide +kernel
theorem dX3_add_52 : decode cX3_add 52 = .ok (.getfield 15, 3) := by decide +kernel
theorem dX3_add_55 : decode cX3_add 55 = .ok (.iconst 1, 1) := by decide +kernel
theorem dX3_add_56 : decode cX3_add 56 = .ok (.iadd, 1) := by decide +kernel
theorem dX3_add_57 : decode cX3_add 57 = .ok (.putfield 15, 3) := by decide +kernel
theorem dX3_add_60 : decode cX3_add 60 = .ok (.iinc 3 1, 3) := by decide +kernel
theorem dX3_add_63 : decode cX3_add 63 = .ok (.goto (-61), 3) := by decide +kernel
theorem dX3_add_66 : decode cX3_add 66 = .ok (.return_, 1) := by decide +kernel
theorem dX3_mostFor_0 : decode cX3_mostFor 0 = .ok (.iload_n 1, 1) := by decide +kernel
theorem dX3_mostFor_1 : decode cX3_mostFor 1 = .ok (.aload_n 0, 1) := by decide +kernel
theorem dX3_mostFor_2 : decode cX3_mostFor 2 = .ok (.getfield 15, 3) := by decide +kernel
theorem dX3_mostFor_5 : decode cX3_mostFor 5 = .ok (.if_icmp .ge 7, 3) := by decide +kernel
theorem dX3_mostFor_8 : decode cX3_mostFor 8 = .ok (.iload_n 1, 1) := by decide +kernel
theorem dX3_mostFor_9 : decode cX3_mostFor 9 = .ok (.goto 7, 3) := by decide +kernel
theorem dX3_mostFor_12 : decode cX3_mostFor 12 = .ok (.aload_n 0, 1) := by decide +kernel
theorem dX3_mostFor_13 : decode cX3_mostFor 13 = .ok (.getfield 15, 3) := by decide +kernel
theorem dX3_mostFor_16 : decode cX3_mostFor 16 = .ok (.istore_n 2, 1) := by decide +kernel
theorem dX3_mostFor_17 : decode cX3_mostFor 17 = .ok (.iload_n 2, 1) := by decide +kernel
theorem dX3_mostFor_18 : decode cX3_mostFor 18 = .ok (.ifCond .lt 21, 3) := by decide +kernel
theorem dX3_mostFor_21 : decode cX3_mostFor 21 = .ok (.iload_n 2, 1) := by decide +kernel
theorem dX3_mostFor_22 : decode cX3_mostFor 22 = .ok (.aload_n 0, 1) := by decide +kernel
theorem dX3_mostFor_23 : decode cX3_mostFor 23 = .ok (.getfield 9, 3) := by decide +kernel
theorem dX3_mostFor_26 : decode cX3_mostFor 26 = .ok (.arraylength, 1) := by decide +kernel
theorem dX3_mostFor_27 : decode cX3_mostFor 27 = .ok (.if_icmp .ge 12, 3) := by decide +kernel
theorem dX3_mostFor_30 : decode cX3_mostFor 30 = .ok (.aload_n 0, 1) := by decide +kernel
theorem dX3_mostFor_31 : decode cX3_mostFor 31 = .ok (.getfield 9, 3) := by decide +kernel
theorem dX3_mostFor_34 : decode cX3_mostFor 34 = .ok (.iload_n 2, 1) := by decide +kernel
theorem dX3_mostFor_35 : decode cX3_mostFor 35 = .ok (.iaload, 1) := by decide +kernel
theorem dX3_mostFor_36 : decode cX3_mostFor 36 = .ok (.goto 4, 3) := by decide +kernel
theorem dX3_mostFor_39 : decode cX3_mostFor 39 = .ok (.iconst 0, 1) := by decide +kernel
theorem dX3_mostFor_40 : decode cX3_mostFor 40 = .ok (.ireturn, 1) := by decide +kernel
theorem dX4_init_0 : decode cX4_init 0 = .ok (.aload_n 0, 1) := by decide +kernel
theorem dX4_init_1 : decode cX4_init 1 = .ok (.invokespecial 3, 3) := by decide +kernel
theorem dX4_init_4 : decode cX4_init 4 = .ok (.aload_n 0, 1) := by decide +kernel
theorem dX4_init_5 : decode cX4_init 5 = .ok (.sipush 1331, 3) := by decide +kernel
theorem dX4_init_8 : decode cX4_init 8 = .ok (.newarray .int, 2) := by decide +kernel
theorem dX4_init_10 : decode cX4_init 10 = .ok (.putfield 11, 3) := by decide +kernel
theorem dX4_init_13 : decode cX4_init 13 = .ok (.return_, 1) := by decide +kernel
theorem dX4_cellOf_0 : decode cX4_cellOf 0 = .ok (.iload_n 0, 1) := by decide +kernel
theorem dX4_cellOf_1 : decode cX4_cellOf 1 = .ok (.bipush 11, 2) := by decide +kernel
theorem dX4_cellOf_3 : decode cX4_cellOf 3 = .ok (.imul, 1) := by decide +kernel
theorem dX4_cellOf_4 : decode cX4_cellOf 4 = .ok (.iload_n 1, 1) := by decide +kernel
theorem dX4_cellOf_5 : decode cX4_cellOf 5 = .ok (.iadd, 1) := by decide +kernel
theorem dX4_cellOf_6 : decode cX4_cellOf 6 = .ok (.bipush 11, 2) := by decide +kernel
theorem dX4_cellOf_8 : decode cX4_cellOf 8 = .ok (.imul, 1) := by decide +kernel
theorem dX4_cellOf_9 : decode cX4_cellOf 9 = .ok (.iload_n 2, 1) := by decide +kernel
theorem dX4_cellOf_10 : decode cX4_cellOf 10 = .ok (.iadd, 1) := by decide +kernel
theorem dX4_cellOf_11 : decode cX4_cellOf 11 = .ok (.ireturn, 1) := by decide +kernel
set_option maxRecDepth 20000 in
theorem ggX4_clear_J7_fill_53178 : GoodIn wsX4_clear wsJ7_fill_53178 := goodIn_r _ [5] (by decide +kernel) (by decide +kernel)
set_option maxRecDepth 20000 in
theorem gX4_clear_J7_fill_53178 : GoodIn wsX4_clear (va_wsS RX4 15 yJ7_fill_53178 wsJ7_fill_53178) := goodIn_app (goodIn_of _ (by decide +kernel)) ggX4_clear_J7_fill_53178
theorem dX4_clear_0 : decode cX4_clear 0 = .ok (.aload_n 0, 1) := by decide +kernel
theorem dX4_clear_1 : decode cX4_clear 1 = .ok (.getfield 11, 3) := by decide +kernel
theorem dX4_clear_4 : decode cX4_clear 4 = .ok (.iconst 0, 1) := by decide +kernel
theorem dX4_clear_5 : decode cX4_clear 5 = .ok (.invokestatic 15, 3) := by decide +kernel
theorem dX4_clear_8 : decode cX4_clear 8 = .ok (.return_, 1) := by decide +kernel
set_option maxRecDepth 20000 in
theorem ggX4_admit_X2_toCome : GoodIn wsX4_admit wsX2_toCome := goodIn_r _ [8, 9, 10, 11, 12, 3, 13, 32, 33, 34, 35, 36, 37, 38] (by decide +kernel) (by decide +kernel)
set_option maxRecDepth 20000 in
theorem gX4_admit_X2_toCome_n21 : GoodIn wsX4_admit (wsX2_toCome) := ggX4_admit_X2_toCome
set_option maxRecDepth 20000 in
theorem ggX4_admit_X4_admitOne : GoodIn wsX4_admit wsX4_admitOne := goodIn_r _ [18, 19, 6, 20, 21, 22, 23, 24, 25, 17, 26, 27, 28, 29, 30, 31, 32, 33, 34, 35, 36, 37, 38, 39] (by decide +kernel) (by decide +kernel)
set_option maxRecDepth 20000 in
theorem gX4_admit_X4_admitOne : GoodIn wsX4_admit (wsV RX4 33 RX4 yX4_admitOne wsX4_admitOne) := goodIn_app (goodIn_of _ (by decide +kernel)) ggX4_admit_X4_admitOne
theorem dX4_admit_0 : decode cX4_admit 0 = .ok (.aload_n 1, 1) := by decide +kernel
theorem dX4_admit_1 : decode cX4_admit 1 = .ok (.invokevirtual 21, 3) := by decide +kernel
theorem dX4_admit_4 : decode cX4_admit 4 = .ok (.bipush 10, 2) := by decide +kernel
theorem dX4_admit_6 : decode cX4_admit 6 = .ok (.invokestatic 27, 3) := by decide +kernel
theorem dX4_admit_9 : decode cX4_admit 9 = .ok (.istore 5, 2) := by decide +kernel
theorem dX4_admit_11 : decode cX4_admit 11 = .ok (.iconst 0, 1) := by decide +kernel
theorem dX4_admit_12 : decode cX4_admit 12 = .ok (.istore 6, 2) := by decide +kernel
theorem dX4_admit_14 : decode cX4_admit 14 = .ok (.iload 6, 2) := by decide +kernel
theorem dX4_admit_16 : decode cX4_admit 16 = .ok (.iload 5, 2) := by decide +kernel
theorem dX4_admit_18 : decode cX4_admit 18 = .ok (.if_icmp .ge 18, 3) := by decide +kernel
theorem dX4_admit_21 : decode cX4_admit 21 = .ok (.aload_n 0, 1) := by decide +kernel
theorem dX4_admit_22 : decode cX4_admit 22 = .ok (.aload_n 1, 1) := by decide +kernel
theorem dX4_admit_23 : decode cX4_admit 23 = .ok (.iload_n 2, 1) := by decide +kernel
theorem dX4_admit_24 : decode cX4_admit 24 = .ok (.iload_n 3, 1) := by decide +kernel
theorem dX4_admit_25 : decode cX4_admit 25 = .ok (.iload 4, 2) := by decide +kernel
theorem dX4_admit_27 : decode cX4_admit 27 = .ok (.invokevirtual 33, 3) := by decide +kernel
theorem dX4_admit_30 : decode cX4_admit 30 = .ok (.iinc 6 1, 3) := by decide +kernel
theorem dX4_admit_33 : decode cX4_admit 33 = .ok (.goto (-19), 3) := by decide +kernel
theorem dX4_admit_36 : decode cX4_admit 36 = .ok (.return_, 1) := by decide +kernel
set_option maxRecDepth 20000 in
theorem ggX4_admitOne_X2_covers : GoodIn wsX4_admitOne wsX2_covers := goodIn_r _ [4, 5, 6, 16, 17, 18, 19, 20, 21, 22] (by decide +kernel) (by decide +kernel)
set_option maxRecDepth 20000 in
theorem gX4_admitOne_X2_covers_n37 : GoodIn wsX4_admitOne (wsX2_covers) := ggX4_admitOne_X2_covers
set_option maxRecDepth 20000 in
theorem ggX4_admitOne_X4_cellOf : GoodIn wsX4_admitOne wsX4_cellOf := goodIn_r _ [10] (by decide +kernel) (by decide +kernel)
set_option maxRecDepth 20000 in
theorem gX4_admitOne_X4_cellOf : GoodIn wsX4_admitOne (va_wsS RX4 41 yX4_cellOf wsX4_cellOf) := goodIn_app (goodIn_of _ (by decide +kernel)) ggX4_admitOne_X4_cellOf
set_option maxRecDepth 20000 in
theorem ggX4_admitOne_X4_raiseRow : GoodIn wsX4_admitOne wsX4_raiseRow := goodIn_r _ [14, 15, 23] (by decide +kernel) (by decide +kernel)
set_option maxRecDepth 20000 in
theorem gX4_admitOne_X4_raiseRow : GoodIn wsX4_admitOne (wsV RX4 49 RX4 yX4_raiseRow wsX4_raiseRow) := goodIn_app (goodIn_of _ (by decide +kernel)) ggX4_admitOne_X4_raiseRow
theorem dX4_admitOne_0 : decode cX4_admitOne 0 = .ok (.aload_n 1, 1) := by decide +kernel
theorem dX4_admitOne_1 : decode cX4_admitOne 1 = .ok (.iconst 0, 1) := by decide +kernel
theorem dX4_admitOne_2 : decode cX4_admitOne 2 = .ok (.invokevirtual 37, 3) := by decide +kernel
theorem dX4_admitOne_5 : decode cX4_admitOne 5 = .ok (.ifCond .eq 7, 3) := by decide +kernel
theorem dX4_admitOne_8 : decode cX4_admitOne 8 = .ok (.iconst 1, 1) := by decide +kernel
theorem dX4_admitOne_9 : decode cX4_admitOne 9 = .ok (.goto 4, 3) := by decide +kernel
theorem dX4_admitOne_12 : decode cX4_admitOne 12 = .ok (.iconst 0, 1) := by decide +kernel
theorem dX4_admitOne_13 : decode cX4_admitOne 13 = .ok (.istore 5, 2) := by decide +kernel
theorem dX4_admitOne_15 : decode cX4_admitOne 15 = .ok (.aload_n 1, 1) := by decide +kernel
theorem dX4_admitOne_16 : decode cX4_admitOne 16 = .ok (.iconst 1, 1) := by decide +kernel
theorem dX4_admitOne_17 : decode cX4_admitOne 17 = .ok (.invokevirtual 37, 3) := by decide +kernel
theorem dX4_admitOne_20 : decode cX4_admitOne 20 = .ok (.ifCond .eq 7, 3) := by decide +kernel
theorem dX4_admitOne_23 : decode cX4_admitOne 23 = .ok (.iconst 1, 1) := by decide +kernel
theorem dX4_admitOne_24 : decode cX4_admitOne 24 = .ok (.goto 4, 3) := by decide +kernel
theorem dX4_admitOne_27 : decode cX4_admitOne 27 = .ok (.iconst 0, 1) := by decide +kernel
theorem dX4_admitOne_28 : decode cX4_admitOne 28 = .ok (.istore 6, 2) := by decide +kernel
theorem dX4_admitOne_30 : decode cX4_admitOne 30 = .ok (.aload_n 1, 1) := by decide +kernel
theorem dX4_admitOne_31 : decode cX4_admitOne 31 = .ok (.iconst 2, 1) := by decide +kernel
theorem dX4_admitOne_32 : decode cX4_admitOne 32 = .ok (.invokevirtual 37, 3) := by decide +kernel
theorem dX4_admitOne_35 : decode cX4_admitOne 35 = .ok (.ifCond .eq 7, 3) := by decide +kernel
theorem dX4_admitOne_38 : decode cX4_admitOne 38 = .ok (.iconst 1, 1) := by decide +kernel
theorem dX4_admitOne_39 : decode cX4_admitOne 39 = .ok (.goto 4, 3) := by decide +kernel
theorem dX4_admitOne_42 : decode cX4_admitOne 42 = .ok (.iconst 0, 1) := by decide +kernel
theorem dX4_admitOne_43 : decode cX4_admitOne 43 = .ok (.istore 7, 2) := by decide +kernel
theorem dX4_admitOne_45 : decode cX4_admitOne 45 = .ok (.iload 5, 2) := by decide +kernel
theorem dX4_admitOne_47 : decode cX4_admitOne 47 = .ok (.iload 6, 2) := by decide +kernel
theorem dX4_admitOne_49 : decode cX4_admitOne 49 = .ok (.iload 7, 2) := by decide +kernel
theorem dX4_admitOne_51 : decode cX4_admitOne 51 = .ok (.invokestatic 41, 3) := by decide +kernel
theorem dX4_admitOne_54 : decode cX4_admitOne 54 = .ok (.istore 8, 2) := by decide +kernel
theorem dX4_admitOne_56 : decode cX4_admitOne 56 = .ok (.iload_n 2, 1) := by decide +kernel
theorem dX4_admitOne_57 : decode cX4_admitOne 57 = .ok (.istore 9, 2) := by decide +kernel
theorem dX4_admitOne_59 : decode cX4_admitOne 59 = .ok (.iload 9, 2) := by decide +kernel
theorem dX4_admitOne_61 : decode cX4_admitOne 61 = .ok (.iload 5, 2) := by decide +kernel
theorem dX4_admitOne_63 : decode cX4_admitOne 63 = .ok (.if_icmp .lt 53, 3) := by decide +kernel
theorem dX4_admitOne_66 : decode cX4_admitOne 66 = .ok (.iload_n 3, 1) := by decide +kernel
theorem dX4_admitOne_67 : decode cX4_admitOne 67 = .ok (.istore 10, 2) := by decide +kernel
theorem dX4_admitOne_69 : decode cX4_admitOne 69 = .ok (.iload 10, 2) := by decide +kernel
theorem dX4_admitOne_71 : decode cX4_admitOne 71 = .ok (.iload 6, 2) := by decide +kernel
theorem dX4_admitOne_73 : decode cX4_admitOne 73 = .ok (.if_icmp .lt 37, 3) := by decide +kernel
theorem dX4_admitOne_76 : decode cX4_admitOne 76 = .ok (.aload_n 0, 1) := by decide +kernel
theorem dX4_admitOne_77 : decode cX4_admitOne 77 = .ok (.iload 9, 2) := by decide +kernel
theorem dX4_admitOne_79 : decode cX4_admitOne 79 = .ok (.iload 10, 2) := by decide +kernel
theorem dX4_admitOne_81 : decode cX4_admitOne 81 = .ok (.iload 7, 2) := by decide +kernel
theorem dX4_admitOne_83 : decode cX4_admitOne 83 = .ok (.invokestatic 41, 3) := by decide +kernel
theorem dX4_admitOne_86 : decode cX4_admitOne 86 = .ok (.iload 9, 2) := by decide +kernel
theorem dX4_admitOne_88 : decode cX4_admitOne 88 = .ok (.iload 10, 2) := by decide +kernel
theorem dX4_admitOne_90 : decode cX4_admitOne 90 = .ok (.iload 4, 2) := by decide +kernel
theorem dX4_admitOne_92 : decode cX4_admitOne 92 = .ok (.invokestatic 41, 3) := by decide +kernel
theorem dX4_admitOne_95 : decode cX4_admitOne 95 = .ok (.iload 8, 2) := by decide +kernel
theorem dX4_admitOne_97 : decode cX4_admitOne 97 = .ok (.aload_n 1, 1) := by decide +kernel
theorem dX4_admitOne_98 : decode cX4_admitOne 98 = .ok (.getfield 45, 3) := by decide +kernel
theorem dX4_admitOne_101 : decode cX4_admitOne 101 = .ok (.invokevirtual 49, 3) := by decide +kernel
theorem dX4_admitOne_104 : decode cX4_admitOne 104 = .ok (.iinc 10 (-1), 3) := by decide +kernel
theorem dX4_admitOne_107 : decode cX4_admitOne 107 = .ok (.goto (-38), 3) := by decide +kernel
theorem dX4_admitOne_110 : decode cX4_admitOne 110 = .ok (.iinc 9 (-1), 3) := by decide +kernel
theorem dX4_admitOne_113 : decode cX4_admitOne 113 = .ok (.goto (-54), 3) := by decide +kernel
theorem dX4_admitOne_116 : decode cX4_admitOne 116 = .ok (.return_, 1) := by decide +kernel
theorem dX4_raiseRow_0 : decode cX4_raiseRow 0 = .ok (.iload_n 1, 1) := by decide +kernel
theorem dX4_raiseRow_1 : decode cX4_raiseRow 1 = .ok (.iload_n 3, 1) := by decide +kernel
theorem dX4_raiseRow_2 : decode cX4_raiseRow 2 = .ok (.isub, 1) := by decide +kernel
theorem dX4_raiseRow_3 : decode cX4_raiseRow 3 = .ok (.ifCond .lt 16, 3) := by decide +kernel
theorem dX4_raiseRow_6 : decode cX4_raiseRow 6 = .ok (.iload_n 3, 1) := by decide +kernel
theorem dX4_raiseRow_7 : decode cX4_raiseRow 7 = .ok (.ifCond .lt 12, 3) := by decide +kernel
theorem dX4_raiseRow_10 : decode cX4_raiseRow 10 = .ok (.iload_n 2, 1) := by decide +kernel
theorem dX4_raiseRow_11 : decode cX4_raiseRow 11 = .ok (.aload_n 0, 1) := by decide +kernel
theorem dX4_raiseRow_12 : decode cX4_raiseRow 12 = .ok (.getfield 11, 3) := by decide +kernel
theorem dX4_raiseRow_15 : decode cX4_raiseRow 15 = .ok (.arraylength, 1) := by decide +kernel
theorem dX4_raiseRow_16 : decode cX4_raiseRow 16 = .ok (.if_icmp .lt 4, 3) := by decide +kernel
theorem dX4_raiseRow_19 : decode cX4_raiseRow 19 = .ok (.return_, 1) := by decide +kernel
theorem dX4_raiseRow_20 : decode cX4_raiseRow 20 = .ok (.iload_n 2, 1) := by decide +kernel
theorem dX4_raiseRow_21 : decode cX4_raiseRow 21 = .ok (.istore 5, 2) := by decide +kernel
theorem dX4_raiseRow_23 : decode cX4_raiseRow 23 = .ok (.iload 5, 2) := by decide +kernel
theorem dX4_raiseRow_25 : decode cX4_raiseRow 25 = .ok (.iload_n 1, 1) := by decide +kernel
theorem dX4_raiseRow_26 : decode cX4_raiseRow 26 = .ok (.if_icmp .lt 44, 3) := by decide +kernel
theorem dX4_raiseRow_29 : decode cX4_raiseRow 29 = .ok (.aload_n 0, 1) := by decide +kernel
theorem dX4_raiseRow_30 : decode cX4_raiseRow 30 = .ok (.getfield 11, 3) := by decide +kernel
theorem dX4_raiseRow_33 : decode cX4_raiseRow 33 = .ok (.iload 5, 2) := by decide +kernel
theorem dX4_raiseRow_35 : decode cX4_raiseRow 35 = .ok (.iload_n 3, 1) := by decide +kernel
theorem dX4_raiseRow_36 : decode cX4_raiseRow 36 = .ok (.isub, 1) := by decide +kernel
theorem dX4_raiseRow_37 : decode cX4_raiseRow 37 = .ok (.iaload, 1) := by decide +kernel
theorem dX4_raiseRow_38 : decode cX4_raiseRow 38 = .ok (.iload 4, 2) := by decide +kernel
theorem dX4_raiseRow_40 : decode cX4_raiseRow 40 = .ok (.iadd, 1) := by decide +kernel
theorem dX4_raiseRow_41 : decode cX4_raiseRow 41 = .ok (.istore 6, 2) := by decide +kernel
theorem dX4_raiseRow_43 : decode cX4_raiseRow 43 = .ok (.iload 6, 2) := by decide +kernel
theorem dX4_raiseRow_45 : decode cX4_raiseRow 45 = .ok (.aload_n 0, 1) := by decide +kernel
theorem dX4_raiseRow_46 : decode cX4_raiseRow 46 = .ok (.getfield 11, 3) := by decide +kernel
theorem dX4_raiseRow_49 : decode cX4_raiseRow 49 = .ok (.iload 5, 2) := by decide +kernel
theorem dX4_raiseRow_51 : decode cX4_raiseRow 51 = .ok (.iaload, 1) := by decide +kernel
theorem dX4_raiseRow_52 : decode cX4_raiseRow 52 = .ok (.if_icmp .le 12, 3) := by decide +kernel
theorem dX4_raiseRow_55 : decode cX4_raiseRow 55 = .ok (.aload_n 0, 1) := by decide +kernel
theorem dX4_raiseRow_56 : decode cX4_raiseRow 56 = .ok (.getfield 11, 3) := by decide +kernel
theorem dX4_raiseRow_59 : decode cX4_raiseRow 59 = .ok (.iload 5, 2) := by decide +kernel
theorem dX4_raiseRow_61 : decode cX4_raiseRow 61 = .ok (.iload 6, 2) := by decide +kernel
theorem dX4_raiseRow_63 : decode cX4_raiseRow 63 = .ok (.iastore, 1) := by decide +kernel
theorem dX4_raiseRow_64 : decode cX4_raiseRow 64 = .ok (.iinc 5 (-1), 3) := by decide +kernel
theorem dX4_raiseRow_67 : decode cX4_raiseRow 67 = .ok (.goto (-44), 3) := by decide +kernel
theorem dX4_raiseRow_70 : decode cX4_raiseRow 70 = .ok (.return_, 1) := by decide +kernel
set_option maxRecDepth 20000 in
theorem ggX4_valueOf_X4_cellOf : GoodIn wsX4_valueOf wsX4_cellOf := goodIn_r _ [5] (by decide +kernel) (by decide +kernel)
set_option maxRecDepth 20000 in
theorem gX4_valueOf_X4_cellOf : GoodIn wsX4_valueOf (va_wsS RX4 41 yX4_cellOf wsX4_cellOf) := goodIn_app (goodIn_of _ (by decide +kernel)) ggX4_valueOf_X4_cellOf
theorem dX4_valueOf_0 : decode cX4_valueOf 0 = .ok (.iload_n 1, 1) := by decide +kernel
theorem dX4_valueOf_1 : decode cX4_valueOf 1 = .ok (.iload_n 2, 1) := by decide +kernel
theorem dX4_valueOf_2 : decode cX4_valueOf 2 = .ok (.iload_n 3, 1) := by decide +kernel
theorem dX4_valueOf_3 : decode cX4_valueOf 3 = .ok (.invokestatic 41, 3) := by decide +kernel
theorem dX4_valueOf_6 : decode cX4_valueOf 6 = .ok (.istore 4, 2) := by decide +kernel
theorem dX4_valueOf_8 : decode cX4_valueOf 8 = .ok (.iload 4, 2) := by decide +kernel
theorem dX4_valueOf_10 : decode cX4_valueOf 10 = .ok (.ifCond .lt 23, 3) := by decide +kernel
theorem dX4_valueOf_13 : decode cX4_valueOf 13 = .ok (.iload 4, 2) := by decide +kernel
theorem dX4_valueOf_15 : decode cX4_valueOf 15 = .ok (.aload_n 0, 1) := by decide +kernel
theorem dX4_valueOf_16 : decode cX4_valueOf 16 = .ok (.getfield 11, 3) := by decide +kernel
theorem dX4_valueOf_19 : decode cX4_valueOf 19 = .ok (.arraylength, 1) := by decide +kernel
theorem dX4_valueOf_20 : decode cX4_valueOf 20 = .ok (.if_icmp .ge 13, 3) := by decide +kernel
theorem dX4_valueOf_23 : decode cX4_valueOf 23 = .ok (.aload_n 0, 1) := by decide +kernel
theorem dX4_valueOf_24 : decode cX4_valueOf 24 = .ok (.getfield 11, 3) := by decide +kernel
theorem dX4_valueOf_27 : decode cX4_valueOf 27 = .ok (.iload 4, 2) := by decide +kernel
theorem dX4_valueOf_29 : decode cX4_valueOf 29 = .ok (.iaload, 1) := by decide +kernel
theorem dX4_valueOf_30 : decode cX4_valueOf 30 = .ok (.goto 4, 3) := by decide +kernel
theorem dX4_valueOf_33 : decode cX4_valueOf 33 = .ok (.iconst 0, 1) := by decide +kernel
theorem dX4_valueOf_34 : decode cX4_valueOf 34 = .ok (.ireturn, 1) := by decide +kernel
set_option maxRecDepth 20000 in
theorem ggX5_init_X1_init : GoodIn wsX5_init wsX1_init := goodIn_r _ [28, 29, 2, 3, 30, 31, 32, 33, 34, 35, 36, 37, 38, 39, 40, 41, 4, 42, 43, 69, 70, 62, 63, 64, 65, 66, 67] (by decide +kernel) (by decide +kernel)
set_option maxRecDepth 20000 in
theorem gX5_init_X1_init_n30 : GoodIn wsX5_init (wsX1_init) := ggX5_init_X1_init
set_option maxRecDepth 20000 in
theorem ggX5_init_X4_init : GoodIn wsX5_init wsX4_init := goodIn_r _ [45, 46, 2, 3, 4, 47, 68] (by decide +kernel) (by decide +kernel)
set_option maxRecDepth 20000 in
theorem gX5_init_X4_init_n37 : GoodIn wsX5_init (wsX4_init) := ggX5_init_X4_init
theorem dX5_init_0 : decode cX5_init 0 = .ok (.aload_n 0, 1) := by decide +kernel
theorem dX5_init_1 : decode cX5_init 1 = .ok (.invokespecial 3, 3) := by decide +kernel
theorem dX5_init_4 : decode cX5_init 4 = .ok (.aload_n 0, 1) := by decide +kernel
theorem dX5_init_5 : decode cX5_init 5 = .ok (.iconst 3, 1) := by decide +kernel
theorem dX5_init_6 : decode cX5_init 6 = .ok (.newarray .int, 2) := by decide +kernel
theorem dX5_init_8 : decode cX5_init 8 = .ok (.putfield 9, 3) := by decide +kernel
theorem dX5_init_11 : decode cX5_init 11 = .ok (.aload_n 0, 1) := by decide +kernel
theorem dX5_init_12 : decode cX5_init 12 = .ok (.bipush 8, 2) := by decide +kernel
theorem dX5_init_14 : decode cX5_init 14 = .ok (.anewarray 13, 3) := by decide +kernel
theorem dX5_init_17 : decode cX5_init 17 = .ok (.putfield 15, 3) := by decide +kernel
theorem dX5_init_20 : decode cX5_init 20 = .ok (.aload_n 0, 1) := by decide +kernel
theorem dX5_init_21 : decode cX5_init 21 = .ok (.bipush 8, 2) := by decide +kernel
theorem dX5_init_23 : decode cX5_init 23 = .ok (.anewarray 13, 3) := by decide +kernel
theorem dX5_init_26 : decode cX5_init 26 = .ok (.putfield 19, 3) := by decide +kernel
theorem dX5_init_29 : decode cX5_init 29 = .ok (.aload_n 0, 1) := by decide +kernel
theorem dX5_init_30 : decode cX5_init 30 = .ok (.bipush 60, 2) := by decide +kernel
theorem dX5_init_32 : decode cX5_init 32 = .ok (.anewarray 22, 3) := by decide +kernel
theorem dX5_init_35 : decode cX5_init 35 = .ok (.putfield 24, 3) := by decide +kernel
theorem dX5_init_38 : decode cX5_init 38 = .ok (.aload_n 0, 1) := by decide +kernel
theorem dX5_init_39 : decode cX5_init 39 = .ok (.new 28, 3) := by decide +kernel
theorem dX5_init_42 : decode cX5_init 42 = .ok (.dup, 1) := by decide +kernel
theorem dX5_init_43 : decode cX5_init 43 = .ok (.invokespecial 30, 3) := by decide +kernel
theorem dX5_init_46 : decode cX5_init 46 = .ok (.putfield 31, 3) := by decide +kernel
theorem dX5_init_49 : decode cX5_init 49 = .ok (.aload_n 0, 1) := by decide +kernel
theorem dX5_init_50 : decode cX5_init 50 = .ok (.new 35, 3) := by decide +kernel
theorem dX5_init_53 : decode cX5_init 53 = .ok (.dup, 1) := by decide +kernel
theorem dX5_init_54 : decode cX5_init 54 = .ok (.invokespecial 37, 3) := by decide +kernel
theorem dX5_init_57 : decode cX5_init 57 = .ok (.putfield 38, 3) := by decide +kernel
theorem dX5_init_60 : decode cX5_init 60 = .ok (.aload_n 0, 1) := by decide +kernel
theorem dX5_init_61 : decode cX5_init 61 = .ok (.iconst 0, 1) := by decide +kernel
theorem dX5_init_62 : decode cX5_init 62 = .ok (.putfield 42, 3) := by decide +kernel
theorem dX5_init_65 : decode cX5_init 65 = .ok (.aload_n 0, 1) := by decide +kernel
theorem dX5_init_66 : decode cX5_init 66 = .ok (.iconst 0, 1) := by decide +kernel
theorem dX5_init_67 : decode cX5_init 67 = .ok (.putfield 46, 3) := by decide +kernel
theorem dX5_init_70 : decode cX5_init 70 = .ok (.aload_n 0, 1) := by decide +kernel
theorem dX5_init_71 : decode cX5_init 71 = .ok (.iconst 0, 1) := by decide +kernel
theorem dX5_init_72 : decode cX5_init 72 = .ok (.putfield 49, 3) := by decide +kernel
theorem dX5_init_75 : decode cX5_init 75 = .ok (.aload_n 0, 1) := by decide +kernel
theorem dX5_init_76 : decode cX5_init 76 = .ok (.bipush 100, 2) := by decide +kernel
theorem dX5_init_78 : decode cX5_init 78 = .ok (.putfield 52, 3) := by decide +kernel
theorem dX5_init_81 : decode cX5_init 81 = .ok (.aload_n 0, 1) := by decide +kernel
theorem dX5_init_82 : decode cX5_init 82 = .ok (.iconst 0, 1) := by decide +kernel
theorem dX5_init_83 : decode cX5_init 83 = .ok (.putfield 55, 3) := by decide +kernel
theorem dX5_init_86 : decode cX5_init 86 = .ok (.aload_n 0, 1) := by decide +kernel
theorem dX5_init_87 : decode cX5_init 87 = .ok (.iconst 0, 1) := by decide +kernel
theorem dX5_init_88 : decode cX5_init 88 = .ok (.putfield 58, 3) := by decide +kernel
theorem dX5_init_91 : decode cX5_init 91 = .ok (.aload_n 0, 1) := by decide +kernel
theorem dX5_init_92 : decode cX5_init 92 = .ok (.iconst 0, 1) := by decide +kernel
theorem dX5_init_93 : decode cX5_init 93 = .ok (.putfield 61, 3) := by decide +kernel
theorem dX5_init_96 : decode cX5_init 96 = .ok (.aload_n 0, 1) := by decide +kernel
theorem dX5_init_97 : decode cX5_init 97 = .ok (.lconst 0, 1) := by decide +kernel
theorem dX5_init_98 : decode cX5_init 98 = .ok (.putfield 64, 3) := by decide +kernel
theorem dX5_init_101 : decode cX5_init 101 = .ok (.return_, 1) := by decide +kernel
set_option maxRecDepth 20000 in
theorem ggX5_setSeats_X5_within : GoodIn wsX5_setSeats wsX5_within := goodIn_r _ [6] (by decide +kernel) (by decide +kernel)
set_option maxRecDepth 20000 in
theorem gX5_setSeats_X5_within : GoodIn wsX5_setSeats (va_wsS RX5 68 yX5_within wsX5_within) := goodIn_app (goodIn_of _ (by decide +kernel)) ggX5_setSeats_X5_within
set_option maxRecDepth 20000 in
theorem ggX5_setSeats_X5_putSeats : GoodIn wsX5_setSeats wsX5_putSeats := goodIn_r _ [10, 11, 12, 13, 14, 15, 16, 17, 18, 19, 20, 21, 22, 23, 24, 25] (by decide +kernel) (by decide +kernel)
set_option maxRecDepth 20000 in
theorem gX5_setSeats_X5_putSeats : GoodIn wsX5_setSeats (wsV RX5 79 RX5 yX5_putSeats wsX5_putSeats) := goodIn_app (goodIn_of _ (by decide +kernel)) ggX5_setSeats_X5_putSeats
theorem dX5_setSeats_0 : decode cX5_setSeats 0 = .ok (.iload_n 1, 1) := by decide +kernel
theorem dX5_setSeats_1 : decode cX5_setSeats 1 = .ok (.iconst 0, 1) := by decide +kernel
theorem dX5_setSeats_2 : decode cX5_setSeats 2 = .ok (.bipush 10, 2) := by decide +kernel
theorem dX5_setSeats_4 : decode cX5_setSeats 4 = .ok (.invokestatic 68, 3) := by decide +kernel
theorem dX5_setSeats_7 : decode cX5_setSeats 7 = .ok (.ifCond .eq 23, 3) := by decide +kernel
theorem dX5_setSeats_10 : decode cX5_setSeats 10 = .ok (.iload_n 2, 1) := by decide +kernel
theorem dX5_setSeats_11 : decode cX5_setSeats 11 = .ok (.iconst 0, 1) := by decide +kernel
theorem dX5_setSeats_12 : decode cX5_setSeats 12 = .ok (.bipush 10, 2) := by decide +kernel
theorem dX5_setSeats_14 : decode cX5_setSeats 14 = .ok (.invokestatic 68, 3) := by decide +kernel
theorem dX5_setSeats_17 : decode cX5_setSeats 17 = .ok (.ifCond .eq 13, 3) := by decide +kernel
theorem dX5_setSeats_20 : decode cX5_setSeats 20 = .ok (.iload_n 3, 1) := by decide +kernel
theorem dX5_setSeats_21 : decode cX5_setSeats 21 = .ok (.iconst 0, 1) := by decide +kernel
theorem dX5_setSeats_22 : decode cX5_setSeats 22 = .ok (.bipush 10, 2) := by decide +kernel
theorem dX5_setSeats_24 : decode cX5_setSeats 24 = .ok (.invokestatic 68, 3) := by decide +kernel
theorem dX5_setSeats_27 : decode cX5_setSeats 27 = .ok (.ifCond .ne 13, 3) := by decide +kernel
theorem dX5_setSeats_30 : decode cX5_setSeats 30 = .ok (.new 72, 3) := by decide +kernel
theorem dX5_setSeats_33 : decode cX5_setSeats 33 = .ok (.dup, 1) := by decide +kernel
theorem dX5_setSeats_34 : decode cX5_setSeats 34 = .ok (.ldc 74, 2) := by decide +kernel
theorem dX5_setSeats_36 : decode cX5_setSeats 36 = .ok (.invokespecial 76, 3) := by decide +kernel
theorem dX5_setSeats_39 : decode cX5_setSeats 39 = .ok (.athrow, 1) := by decide +kernel
theorem dX5_setSeats_40 : decode cX5_setSeats 40 = .ok (.aload_n 0, 1) := by decide +kernel
theorem dX5_setSeats_41 : decode cX5_setSeats 41 = .ok (.iconst 0, 1) := by decide +kernel
theorem dX5_setSeats_42 : decode cX5_setSeats 42 = .ok (.iload_n 1, 1) := by decide +kernel
theorem dX5_setSeats_43 : decode cX5_setSeats 43 = .ok (.invokevirtual 79, 3) := by decide +kernel
theorem dX5_setSeats_46 : decode cX5_setSeats 46 = .ok (.aload_n 0, 1) := by decide +kernel
theorem dX5_setSeats_47 : decode cX5_setSeats 47 = .ok (.iconst 1, 1) := by decide +kernel
theorem dX5_setSeats_48 : decode cX5_setSeats 48 = .ok (.iload_n 2, 1) := by decide +kernel
theorem dX5_setSeats_49 : decode cX5_setSeats 49 = .ok (.invokevirtual 79, 3) := by decide +kernel
theorem dX5_setSeats_52 : decode cX5_setSeats 52 = .ok (.aload_n 0, 1) := by decide +kernel
theorem dX5_setSeats_53 : decode cX5_setSeats 53 = .ok (.iconst 2, 1) := by decide +kernel
theorem dX5_setSeats_54 : decode cX5_setSeats 54 = .ok (.iload_n 3, 1) := by decide +kernel
theorem dX5_setSeats_55 : decode cX5_setSeats 55 = .ok (.invokevirtual 79, 3) := by decide +kernel
theorem dX5_setSeats_58 : decode cX5_setSeats 58 = .ok (.return_, 1) := by decide +kernel
set_option maxRecDepth 20000 in
theorem ggX5_addProduct_X5_isLeg : GoodIn wsX5_addProduct wsX5_isLeg := goodIn_r _ [15, 16, 17, 14, 18] (by decide +kernel) (by decide +kernel)
set_option maxRecDepth 20000 in
theorem gX5_addProduct_X5_isLeg : GoodIn wsX5_addProduct (va_wsS RX5 83 yX5_isLeg wsX5_isLeg) := goodIn_app (goodIn_of _ (by decide +kernel)) ggX5_addProduct_X5_isLeg
set_option maxRecDepth 20000 in
theorem ggX5_addProduct_X5_within : GoodIn wsX5_addProduct wsX5_within := goodIn_r _ [18] (by decide +kernel) (by decide +kernel)
set_option maxRecDepth 20000 in
theorem gX5_addProduct_X5_within : GoodIn wsX5_addProduct (va_wsS RX5 68 yX5_within wsX5_within) := goodIn_app (goodIn_of _ (by decide +kernel)) ggX5_addProduct_X5_within
set_option maxRecDepth 20000 in
theorem ggX5_addProduct_X5_isOffered : GoodIn wsX5_addProduct wsX5_isOffered := goodIn_r _ [22, 23, 42, 43, 44, 45, 46, 47, 48, 49, 50, 51, 52, 53, 54, 55, 56, 57, 58, 59, 60, 61, 62] (by decide +kernel) (by decide +kernel)
set_option maxRecDepth 20000 in
theorem gX5_addProduct_X5_isOffered : GoodIn wsX5_addProduct (wsV RX5 94 RX5 yX5_isOffered wsX5_isOffered) := goodIn_app (goodIn_of _ (by decide +kernel)) ggX5_addProduct_X5_isOffered
set_option maxRecDepth 20000 in
theorem ggX5_addProduct_X2_init : GoodIn wsX5_addProduct wsX2_init := goodIn_r _ [25, 26, 27, 28, 29, 30, 31, 32, 33, 34, 35, 36, 56, 57, 58, 59, 60, 61, 62] (by decide +kernel) (by decide +kernel)
set_option maxRecDepth 20000 in
theorem gX5_addProduct_X2_init_n102 : GoodIn wsX5_addProduct (wsX2_init) := ggX5_addProduct_X2_init
set_option maxRecDepth 20000 in
theorem ggX5_addProduct_X5_offer : GoodIn wsX5_addProduct wsX5_offer := goodIn_r _ [40, 7, 23, 41, 42, 43, 44, 45, 46, 47, 48, 49, 50, 51, 52, 53, 54, 55, 56, 57, 58, 59, 60, 61, 62] (by decide +kernel) (by decide +kernel)
set_option maxRecDepth 20000 in
theorem gX5_addProduct_X5_offer : GoodIn wsX5_addProduct (wsV RX5 105 RX5 yX5_offer wsX5_offer) := goodIn_app (goodIn_of _ (by decide +kernel)) ggX5_addProduct_X5_offer
theorem dX5_addProduct_0 : decode cX5_addProduct 0 = .ok (.iload_n 1, 1) := by decide +kernel
theorem dX5_addProduct_1 : decode cX5_addProduct 1 = .ok (.invokestatic 83, 3) := by decide +kernel
theorem dX5_addProduct_4 : decode cX5_addProduct 4 = .ok (.ifCond .eq 10, 3) := by decide +kernel
theorem dX5_addProduct_7 : decode cX5_addProduct 7 = .ok (.iload_n 2, 1) := by decide +kernel
theorem dX5_addProduct_8 : decode cX5_addProduct 8 = .ok (.invokestatic 83, 3) := by decide +kernel
theorem dX5_addProduct_11 : decode cX5_addProduct 11 = .ok (.ifCond .ne 13, 3) := by decide +kernel
theorem dX5_addProduct_14 : decode cX5_addProduct 14 = .ok (.new 87, 3) := by decide +kernel
theorem dX5_addProduct_17 : decode cX5_addProduct 17 = .ok (.dup, 1) := by decide +kernel
theorem dX5_addProduct_18 : decode cX5_addProduct 18 = .ok (.ldc 89, 2) := by decide +kernel
theorem dX5_addProduct_20 : decode cX5_addProduct 20 = .ok (.invokespecial 91, 3) := by decide +kernel
theorem dX5_addProduct_23 : decode cX5_addProduct 23 = .ok (.athrow, 1) := by decide +kernel
theorem dX5_addProduct_24 : decode cX5_addProduct 24 = .ok (.iload_n 2, 1) := by decide +kernel
theorem dX5_addProduct_25 : decode cX5_addProduct 25 = .ok (.iload_n 1, 1) := by decide +kernel
theorem dX5_addProduct_26 : decode cX5_addProduct 26 = .ok (.if_icmp .lt 14, 3) := by decide +kernel
theorem dX5_addProduct_29 : decode cX5_addProduct 29 = .ok (.iload_n 3, 1) := by decide +kernel
theorem dX5_addProduct_30 : decode cX5_addProduct 30 = .ok (.iconst 1, 1) := by decide +kernel
theorem dX5_addProduct_31 : decode cX5_addProduct 31 = .ok (.sipush 1000, 3) := by decide +kernel
theorem dX5_addProduct_34 : decode cX5_addProduct 34 = .ok (.invokestatic 68, 3) := by decide +kernel
theorem dX5_addProduct_37 : decode cX5_addProduct 37 = .ok (.ifCond .ne 13, 3) := by decide +kernel
theorem dX5_addProduct_40 : decode cX5_addProduct 40 = .ok (.new 72, 3) := by decide +kernel
theorem dX5_addProduct_43 : decode cX5_addProduct 43 = .ok (.dup, 1) := by decide +kernel
theorem dX5_addProduct_44 : decode cX5_addProduct 44 = .ok (.ldc 92, 2) := by decide +kernel
theorem dX5_addProduct_46 : decode cX5_addProduct 46 = .ok (.invokespecial 76, 3) := by decide +kernel
theorem dX5_addProduct_49 : decode cX5_addProduct 49 = .ok (.athrow, 1) := by decide +kernel
theorem dX5_addProduct_50 : decode cX5_addProduct 50 = .ok (.aload_n 0, 1) := by decide +kernel
theorem dX5_addProduct_51 : decode cX5_addProduct 51 = .ok (.getfield 42, 3) := by decide +kernel
theorem dX5_addProduct_54 : decode cX5_addProduct 54 = .ok (.bipush 8, 2) := by decide +kernel
theorem dX5_addProduct_56 : decode cX5_addProduct 56 = .ok (.if_icmp .ge 13, 3) := by decide +kernel
theorem dX5_addProduct_59 : decode cX5_addProduct 59 = .ok (.aload_n 0, 1) := by decide +kernel
theorem dX5_addProduct_60 : decode cX5_addProduct 60 = .ok (.iload_n 1, 1) := by decide +kernel
theorem dX5_addProduct_61 : decode cX5_addProduct 61 = .ok (.iload_n 2, 1) := by decide +kernel
theorem dX5_addProduct_62 : decode cX5_addProduct 62 = .ok (.iload_n 3, 1) := by decide +kernel
theorem dX5_addProduct_63 : decode cX5_addProduct 63 = .ok (.invokevirtual 94, 3) := by decide +kernel
theorem dX5_addProduct_66 : decode cX5_addProduct 66 = .ok (.ifCond .eq 13, 3) := by decide +kernel
theorem dX5_addProduct_69 : decode cX5_addProduct 69 = .ok (.new 97, 3) := by decide +kernel
theorem dX5_addProduct_72 : decode cX5_addProduct 72 = .ok (.dup, 1) := by decide +kernel
theorem dX5_addProduct_73 : decode cX5_addProduct 73 = .ok (.ldc 99, 2) := by decide +kernel
theorem dX5_addProduct_75 : decode cX5_addProduct 75 = .ok (.invokespecial 101, 3) := by decide +kernel
theorem dX5_addProduct_78 : decode cX5_addProduct 78 = .ok (.athrow, 1) := by decide +kernel
theorem dX5_addProduct_79 : decode cX5_addProduct 79 = .ok (.aload_n 0, 1) := by decide +kernel
theorem dX5_addProduct_80 : decode cX5_addProduct 80 = .ok (.getfield 42, 3) := by decide +kernel
theorem dX5_addProduct_83 : decode cX5_addProduct 83 = .ok (.istore 4, 2) := by decide +kernel
theorem dX5_addProduct_85 : decode cX5_addProduct 85 = .ok (.aload_n 0, 1) := by decide +kernel
theorem dX5_addProduct_86 : decode cX5_addProduct 86 = .ok (.new 13, 3) := by decide +kernel
theorem dX5_addProduct_89 : decode cX5_addProduct 89 = .ok (.dup, 1) := by decide +kernel
theorem dX5_addProduct_90 : decode cX5_addProduct 90 = .ok (.iload_n 1, 1) := by decide +kernel
theorem dX5_addProduct_91 : decode cX5_addProduct 91 = .ok (.iload_n 2, 1) := by decide +kernel
theorem dX5_addProduct_92 : decode cX5_addProduct 92 = .ok (.iload_n 3, 1) := by decide +kernel
theorem dX5_addProduct_93 : decode cX5_addProduct 93 = .ok (.aload_n 0, 1) := by decide +kernel
theorem dX5_addProduct_94 : decode cX5_addProduct 94 = .ok (.getfield 49, 3) := by decide +kernel
theorem dX5_addProduct_97 : decode cX5_addProduct 97 = .ok (.invokespecial 102, 3) := by decide +kernel
theorem dX5_addProduct_100 : decode cX5_addProduct 100 = .ok (.invokevirtual 105, 3) := by decide +kernel
theorem dX5_addProduct_103 : decode cX5_addProduct 103 = .ok (.iload 4, 2) := by decide +kernel
theorem dX5_addProduct_105 : decode cX5_addProduct 105 = .ok (.ireturn, 1) := by decide +kernel
set_option maxRecDepth 20000 in
theorem ggX5_setExpected_X5_productAt : GoodIn wsX5_setExpected wsX5_productAt := goodIn_r _ [9, 10, 21, 22, 23, 24, 25, 26, 27, 28, 29, 30, 31, 32, 33, 34] (by decide +kernel) (by decide +kernel)
set_option maxRecDepth 20000 in
theorem gX5_setExpected_X5_productAt : GoodIn wsX5_setExpected (wsV RX5 109 RX5 yX5_productAt wsX5_productAt) := goodIn_app (goodIn_of _ (by decide +kernel)) ggX5_setExpected_X5_productAt
set_option maxRecDepth 20000 in
theorem ggX5_setExpected_X5_within : GoodIn wsX5_setExpected wsX5_within := goodIn_r _ [13] (by decide +kernel) (by decide +kernel)
set_option maxRecDepth 20000 in
theorem gX5_setExpected_X5_within : GoodIn wsX5_setExpected (va_wsS RX5 68 yX5_within wsX5_within) := goodIn_app (goodIn_of _ (by decide +kernel)) ggX5_setExpected_X5_within
theorem dX5_setExpected_0 : decode cX5_setExpected 0 = .ok (.aload_n 0, 1) := by decide +kernel
theorem dX5_setExpected_1 : decode cX5_setExpected 1 = .ok (.iload_n 1, 1) := by decide +kernel
theorem dX5_setExpected_2 : decode cX5_setExpected 2 = .ok (.invokevirtual 109, 3) := by decide +kernel
theorem dX5_setExpected_5 : decode cX5_setExpected 5 = .ok (.astore_n 3, 1) := by decide +kernel
theorem dX5_setExpected_6 : decode cX5_setExpected 6 = .ok (.aload_n 3, 1) := by decide +kernel
theorem dX5_setExpected_7 : decode cX5_setExpected 7 = .ok (.ifnonnull 13, 3) := by decide +kernel
theorem dX5_setExpected_10 : decode cX5_setExpected 10 = .ok (.new 87, 3) := by decide +kernel
theorem dX5_setExpected_13 : decode cX5_setExpected 13 = .ok (.dup, 1) := by decide +kernel
theorem dX5_setExpected_14 : decode cX5_setExpected 14 = .ok (.ldc 113, 2) := by decide +kernel
theorem dX5_setExpected_16 : decode cX5_setExpected 16 = .ok (.invokespecial 91, 3) := by decide +kernel
theorem dX5_setExpected_19 : decode cX5_setExpected 19 = .ok (.athrow, 1) := by decide +kernel
theorem dX5_setExpected_20 : decode cX5_setExpected 20 = .ok (.iload_n 2, 1) := by decide +kernel
theorem dX5_setExpected_21 : decode cX5_setExpected 21 = .ok (.iconst 0, 1) := by decide +kernel
theorem dX5_setExpected_22 : decode cX5_setExpected 22 = .ok (.bipush 20, 2) := by decide +kernel
theorem dX5_setExpected_24 : decode cX5_setExpected 24 = .ok (.invokestatic 68, 3) := by decide +kernel
theorem dX5_setExpected_27 : decode cX5_setExpected 27 = .ok (.ifCond .ne 13, 3) := by decide +kernel
theorem dX5_setExpected_30 : decode cX5_setExpected 30 = .ok (.new 72, 3) := by decide +kernel
theorem dX5_setExpected_33 : decode cX5_setExpected 33 = .ok (.dup, 1) := by decide +kernel
theorem dX5_setExpected_34 : decode cX5_setExpected 34 = .ok (.ldc 115, 2) := by decide +kernel
theorem dX5_setExpected_36 : decode cX5_setExpected 36 = .ok (.invokespecial 76, 3) := by decide +kernel
theorem dX5_setExpected_39 : decode cX5_setExpected 39 = .ok (.athrow, 1) := by decide +kernel
theorem dX5_setExpected_40 : decode cX5_setExpected 40 = .ok (.aload_n 3, 1) := by decide +kernel
theorem dX5_setExpected_41 : decode cX5_setExpected 41 = .ok (.getfield 117, 3) := by decide +kernel
theorem dX5_setExpected_44 : decode cX5_setExpected 44 = .ok (.istore 4, 2) := by decide +kernel
theorem dX5_setExpected_46 : decode cX5_setExpected 46 = .ok (.aload_n 3, 1) := by decide +kernel
theorem dX5_setExpected_47 : decode cX5_setExpected 47 = .ok (.iload_n 2, 1) := by decide +kernel
theorem dX5_setExpected_48 : decode cX5_setExpected 48 = .ok (.putfield 117, 3) := by decide +kernel
theorem dX5_setExpected_51 : decode cX5_setExpected 51 = .ok (.iload 4, 2) := by decide +kernel
theorem dX5_setExpected_53 : decode cX5_setExpected 53 = .ok (.ireturn, 1) := by decide +kernel
set_option maxRecDepth 20000 in
theorem ggX5_setRate_X5_within : GoodIn wsX5_setRate wsX5_within := goodIn_r _ [7] (by decide +kernel) (by decide +kernel)
set_option maxRecDepth 20000 in
theorem gX5_setRate_X5_within : GoodIn wsX5_setRate (va_wsS RX5 68 yX5_within wsX5_within) := goodIn_app (goodIn_of _ (by decide +kernel)) ggX5_setRate_X5_within
theorem dX5_setRate_0 : decode cX5_setRate 0 = .ok (.iload_n 1, 1) := by decide +kernel
theorem dX5_setRate_1 : decode cX5_setRate 1 = .ok (.bipush 50, 2) := by decide +kernel
theorem dX5_setRate_3 : decode cX5_setRate 3 = .ok (.bipush 100, 2) := by decide +kernel
theorem dX5_setRate_5 : decode cX5_setRate 5 = .ok (.invokestatic 68, 3) := by decide +kernel
theorem dX5_setRate_8 : decode cX5_setRate 8 = .ok (.ifCond .ne 13, 3) := by decide +kernel
theorem dX5_setRate_11 : decode cX5_setRate 11 = .ok (.new 72, 3) := by decide +kernel
theorem dX5_setRate_14 : decode cX5_setRate 14 = .ok (.dup, 1) := by decide +kernel
theorem dX5_setRate_15 : decode cX5_setRate 15 = .ok (.ldc 120, 2) := by decide +kernel
theorem dX5_setRate_17 : decode cX5_setRate 17 = .ok (.invokespecial 76, 3) := by decide +kernel
theorem dX5_setRate_20 : decode cX5_setRate 20 = .ok (.athrow, 1) := by decide +kernel
theorem dX5_setRate_21 : decode cX5_setRate 21 = .ok (.aload_n 0, 1) := by decide +kernel
theorem dX5_setRate_22 : decode cX5_setRate 22 = .ok (.getfield 52, 3) := by decide +kernel
theorem dX5_setRate_25 : decode cX5_setRate 25 = .ok (.istore_n 2, 1) := by decide +kernel
theorem dX5_setRate_26 : decode cX5_setRate 26 = .ok (.aload_n 0, 1) := by decide +kernel
theorem dX5_setRate_27 : decode cX5_setRate 27 = .ok (.iload_n 1, 1) := by decide +kernel
theorem dX5_setRate_28 : decode cX5_setRate 28 = .ok (.putfield 52, 3) := by decide +kernel
theorem dX5_setRate_31 : decode cX5_setRate 31 = .ok (.iload_n 2, 1) := by decide +kernel
theorem dX5_setRate_32 : decode cX5_setRate 32 = .ok (.ireturn, 1) := by decide +kernel
set_option maxRecDepth 20000 in
theorem ggX5_ask_X5_productAt : GoodIn wsX5_ask wsX5_productAt := goodIn_r _ [13, 14, 150, 151, 152, 153, 154, 155, 156, 157, 158, 159, 160, 161, 162, 163] (by decide +kernel) (by decide +kernel)
set_option maxRecDepth 20000 in
theorem gX5_ask_X5_productAt : GoodIn wsX5_ask (wsV RX5 109 RX5 yX5_productAt wsX5_productAt) := goodIn_app (goodIn_of _ (by decide +kernel)) ggX5_ask_X5_productAt
set_option maxRecDepth 20000 in
theorem ggX5_ask_X5_isFull : GoodIn wsX5_ask wsX5_isFull := goodIn_r _ [18, 19, 20, 21, 12, 22, 5, 23, 24, 25, 26, 27, 28, 8, 29, 30, 31, 32, 33, 34, 35, 36, 37, 38, 39, 40, 41, 42, 43, 44, 164, 165, 166, 167, 168, 169, 170, 150, 151, 152, 153, 154, 155, 156, 157, 158, 159, 160, 161, 162, 163, 171, 172, 173, 174, 175] (by decide +kernel) (by decide +kernel)
set_option maxRecDepth 20000 in
theorem gX5_ask_X5_isFull : GoodIn wsX5_ask (wsV RX5 127 RX5 yX5_isFull wsX5_isFull) := goodIn_app (goodIn_of _ (by decide +kernel)) ggX5_ask_X5_isFull
set_option maxRecDepth 20000 in
theorem ggX5_ask_X5_refuse : GoodIn wsX5_ask wsX5_refuse := goodIn_r _ [48, 49, 50, 51, 150, 151, 152, 153, 154, 155, 156, 157, 158, 159, 160, 161, 162, 163] (by decide +kernel) (by decide +kernel)
set_option maxRecDepth 20000 in
theorem gX5_ask_X5_refuse : GoodIn wsX5_ask (wsV RX5 131 RX5 yX5_refuse wsX5_refuse) := goodIn_app (goodIn_of _ (by decide +kernel)) ggX5_ask_X5_refuse
set_option maxRecDepth 20000 in
theorem ggX5_ask_X5_isProtected : GoodIn wsX5_ask wsX5_isProtected := goodIn_r _ [55, 35, 36, 37, 12, 38, 39, 40, 41, 42, 43, 44, 19, 20, 21, 22, 5, 23, 24, 25, 26, 27, 28, 8, 29, 30, 31, 32, 33, 34, 56, 57, 58, 59, 14, 60, 61, 62, 63, 64, 65, 66, 67, 68, 69, 70, 71, 164, 165, 166, 167, 168, 169, 170, 150, 151, 152, 153, 154, 155, 156, 157, 158, 159, 160, 161, 162, 163, 171, 172, 173, 174, 175] (by decide +kernel) (by decide +kernel)
set_option maxRecDepth 20000 in
theorem gX5_ask_X5_isProtected : GoodIn wsX5_ask (wsV RX5 135 RX5 yX5_isProtected wsX5_isProtected) := goodIn_app (goodIn_of _ (by decide +kernel)) ggX5_ask_X5_isProtected
set_option maxRecDepth 20000 in
theorem ggX5_ask_X5_bidsOver : GoodIn wsX5_ask wsX5_bidsOver := goodIn_r _ [75, 76, 77, 78, 12, 79, 80, 81, 82, 83, 84, 85, 86, 87, 88, 89, 90, 91, 92, 93, 94, 95, 96, 97, 98, 99, 62, 100, 101, 102, 103, 104, 105, 106, 107, 108, 109, 110, 111, 112, 113, 114, 115, 116, 117, 118, 40, 41, 42, 43, 44, 19, 20, 21, 22, 5, 23, 24, 25, 26, 27, 28, 8, 29, 30, 31, 32, 33, 34, 119, 120, 121, 122, 123, 124, 125, 126, 127, 128, 129, 130, 131, 132, 133, 134, 135, 136, 137, 138, 139, 150, 151, 152, 153, 154, 155, 156, 157, 158, 159, 160, 161, 162, 163, 176, 177, 178, 179, 180, 181, 182, 183, 164, 165, 166, 167, 168, 169, 170, 171, 172, 173, 174, 175] (by decide +kernel) (by decide +kernel)
set_option maxRecDepth 20000 in
theorem gX5_ask_X5_bidsOver : GoodIn wsX5_ask (wsV RX5 147 RX5 yX5_bidsOver wsX5_bidsOver) := goodIn_app (goodIn_of _ (by decide +kernel)) ggX5_ask_X5_bidsOver
set_option maxRecDepth 20000 in
theorem ggX5_ask_X0_init : GoodIn wsX5_ask wsX0_init := goodIn_r _ [141, 142, 143, 144, 31, 32, 33, 34, 145, 171, 172, 173, 174, 175] (by decide +kernel) (by decide +kernel)
set_option maxRecDepth 20000 in
theorem gX5_ask_X0_init_n151 : GoodIn wsX5_ask (wsX0_init) := ggX5_ask_X0_init
set_option maxRecDepth 20000 in
theorem ggX5_ask_X5_enter : GoodIn wsX5_ask wsX5_enter := goodIn_r _ [149, 5, 27, 150, 151, 152, 153, 154, 155, 156, 157, 158, 159, 160, 161, 162, 163] (by decide +kernel) (by decide +kernel)
set_option maxRecDepth 20000 in
theorem gX5_ask_X5_enter : GoodIn wsX5_ask (wsV RX5 152 RX5 yX5_enter wsX5_enter) := goodIn_app (goodIn_of _ (by decide +kernel)) ggX5_ask_X5_enter
theorem dX5_ask_0 : decode cX5_ask 0 = .ok (.aload_n 0, 1) := by decide +kernel
theorem dX5_ask_1 : decode cX5_ask 1 = .ok (.iload_n 1, 1) := by decide +kernel
theorem dX5_ask_2 : decode cX5_ask 2 = .ok (.invokevirtual 109, 3) := by decide +kernel
theorem dX5_ask_5 : decode cX5_ask 5 = .ok (.astore_n 2, 1) := by decide +kernel
theorem dX5_ask_6 : decode cX5_ask 6 = .ok (.aload_n 2, 1) := by decide +kernel
theorem dX5_ask_7 : decode cX5_ask 7 = .ok (.ifnonnull 13, 3) := by decide +kernel
theorem dX5_ask_10 : decode cX5_ask 10 = .ok (.new 87, 3) := by decide +kernel
theorem dX5_ask_13 : decode cX5_ask 13 = .ok (.dup, 1) := by decide +kernel
theorem dX5_ask_14 : decode cX5_ask 14 = .ok (.ldc 113, 2) := by decide +kernel
theorem dX5_ask_16 : decode cX5_ask 16 = .ok (.invokespecial 91, 3) := by decide +kernel
theorem dX5_ask_19 : decode cX5_ask 19 = .ok (.athrow, 1) := by decide +kernel
theorem dX5_ask_20 : decode cX5_ask 20 = .ok (.aload_n 0, 1) := by decide +kernel
theorem dX5_ask_21 : decode cX5_ask 21 = .ok (.getfield 46, 3) := by decide +kernel
theorem dX5_ask_24 : decode cX5_ask 24 = .ok (.bipush 60, 2) := by decide +kernel
theorem dX5_ask_26 : decode cX5_ask 26 = .ok (.if_icmp .lt 13, 3) := by decide +kernel
theorem dX5_ask_29 : decode cX5_ask 29 = .ok (.new 97, 3) := by decide +kernel
theorem dX5_ask_32 : decode cX5_ask 32 = .ok (.dup, 1) := by decide +kernel
theorem dX5_ask_33 : decode cX5_ask 33 = .ok (.ldc 122, 2) := by decide +kernel
theorem dX5_ask_35 : decode cX5_ask 35 = .ok (.invokespecial 101, 3) := by decide +kernel
theorem dX5_ask_38 : decode cX5_ask 38 = .ok (.athrow, 1) := by decide +kernel
theorem dX5_ask_39 : decode cX5_ask 39 = .ok (.aload_n 2, 1) := by decide +kernel
theorem dX5_ask_40 : decode cX5_ask 40 = .ok (.dup, 1) := by decide +kernel
theorem dX5_ask_41 : decode cX5_ask 41 = .ok (.getfield 124, 3) := by decide +kernel
theorem dX5_ask_44 : decode cX5_ask 44 = .ok (.iconst 1, 1) := by decide +kernel
theorem dX5_ask_45 : decode cX5_ask 45 = .ok (.iadd, 1) := by decide +kernel
theorem dX5_ask_46 : decode cX5_ask 46 = .ok (.putfield 124, 3) := by decide +kernel
theorem dX5_ask_49 : decode cX5_ask 49 = .ok (.aload_n 0, 1) := by decide +kernel
theorem dX5_ask_50 : decode cX5_ask 50 = .ok (.aload_n 2, 1) := by decide +kernel
theorem dX5_ask_51 : decode cX5_ask 51 = .ok (.invokevirtual 127, 3) := by decide +kernel
theorem dX5_ask_54 : decode cX5_ask 54 = .ok (.ifCond .eq 9, 3) := by decide +kernel
theorem dX5_ask_57 : decode cX5_ask 57 = .ok (.aload_n 0, 1) := by decide +kernel
theorem dX5_ask_58 : decode cX5_ask 58 = .ok (.iconst (-1), 1) := by decide +kernel
theorem dX5_ask_59 : decode cX5_ask 59 = .ok (.invokevirtual 131, 3) := by decide +kernel
theorem dX5_ask_62 : decode cX5_ask 62 = .ok (.ireturn, 1) := by decide +kernel
theorem dX5_ask_63 : decode cX5_ask 63 = .ok (.aload_n 0, 1) := by decide +kernel
theorem dX5_ask_64 : decode cX5_ask 64 = .ok (.aload_n 2, 1) := by decide +kernel
theorem dX5_ask_65 : decode cX5_ask 65 = .ok (.invokevirtual 135, 3) := by decide +kernel
theorem dX5_ask_68 : decode cX5_ask 68 = .ok (.ifCond .eq 10, 3) := by decide +kernel
theorem dX5_ask_71 : decode cX5_ask 71 = .ok (.aload_n 0, 1) := by decide +kernel
theorem dX5_ask_72 : decode cX5_ask 72 = .ok (.bipush (-2), 2) := by decide +kernel
theorem dX5_ask_74 : decode cX5_ask 74 = .ok (.invokevirtual 131, 3) := by decide +kernel
theorem dX5_ask_77 : decode cX5_ask 77 = .ok (.ireturn, 1) := by decide +kernel
theorem dX5_ask_78 : decode cX5_ask 78 = .ok (.aload_n 2, 1) := by decide +kernel
theorem dX5_ask_79 : decode cX5_ask 79 = .ok (.getfield 138, 3) := by decide +kernel
theorem dX5_ask_82 : decode cX5_ask 82 = .ok (.aload_n 0, 1) := by decide +kernel
theorem dX5_ask_83 : decode cX5_ask 83 = .ok (.aload_n 2, 1) := by decide +kernel
theorem dX5_ask_84 : decode cX5_ask 84 = .ok (.getfield 141, 3) := by decide +kernel
theorem dX5_ask_87 : decode cX5_ask 87 = .ok (.aload_n 2, 1) := by decide +kernel
theorem dX5_ask_88 : decode cX5_ask 88 = .ok (.getfield 144, 3) := by decide +kernel
theorem dX5_ask_91 : decode cX5_ask 91 = .ok (.invokevirtual 147, 3) := by decide +kernel
theorem dX5_ask_94 : decode cX5_ask 94 = .ok (.if_icmp .ge 10, 3) := by decide +kernel
theorem dX5_ask_97 : decode cX5_ask 97 = .ok (.aload_n 0, 1) := by decide +kernel
theorem dX5_ask_98 : decode cX5_ask 98 = .ok (.bipush (-3), 2) := by decide +kernel
theorem dX5_ask_100 : decode cX5_ask 100 = .ok (.invokevirtual 131, 3) := by decide +kernel
theorem dX5_ask_103 : decode cX5_ask 103 = .ok (.ireturn, 1) := by decide +kernel
theorem dX5_ask_104 : decode cX5_ask 104 = .ok (.aload_n 0, 1) := by decide +kernel
theorem dX5_ask_105 : decode cX5_ask 105 = .ok (.new 22, 3) := by decide +kernel
theorem dX5_ask_108 : decode cX5_ask 108 = .ok (.dup, 1) := by decide +kernel
theorem dX5_ask_109 : decode cX5_ask 109 = .ok (.aload_n 2, 1) := by decide +kernel
theorem dX5_ask_110 : decode cX5_ask 110 = .ok (.getfield 141, 3) := by decide +kernel
theorem dX5_ask_113 : decode cX5_ask 113 = .ok (.aload_n 2, 1) := by decide +kernel
theorem dX5_ask_114 : decode cX5_ask 114 = .ok (.getfield 144, 3) := by decide +kernel
theorem dX5_ask_117 : decode cX5_ask 117 = .ok (.iconst 1, 1) := by decide +kernel
theorem dX5_ask_118 : decode cX5_ask 118 = .ok (.aload_n 2, 1) := by decide +kernel
theorem dX5_ask_119 : decode cX5_ask 119 = .ok (.getfield 138, 3) := by decide +kernel
theorem dX5_ask_122 : decode cX5_ask 122 = .ok (.invokespecial 151, 3) := by decide +kernel
theorem dX5_ask_125 : decode cX5_ask 125 = .ok (.invokevirtual 152, 3) := by decide +kernel
theorem dX5_ask_128 : decode cX5_ask 128 = .ok (.ireturn, 1) := by decide +kernel
set_option maxRecDepth 20000 in
theorem ggX5_group_X5_isLeg : GoodIn wsX5_group wsX5_isLeg := goodIn_r _ [14, 15, 16, 13, 17] (by decide +kernel) (by decide +kernel)
set_option maxRecDepth 20000 in
theorem gX5_group_X5_isLeg : GoodIn wsX5_group (va_wsS RX5 83 yX5_isLeg wsX5_isLeg) := goodIn_app (goodIn_of _ (by decide +kernel)) ggX5_group_X5_isLeg
set_option maxRecDepth 20000 in
theorem ggX5_group_X5_within : GoodIn wsX5_group wsX5_within := goodIn_r _ [17] (by decide +kernel) (by decide +kernel)
set_option maxRecDepth 20000 in
theorem gX5_group_X5_within : GoodIn wsX5_group (va_wsS RX5 68 yX5_within wsX5_within) := goodIn_app (goodIn_of _ (by decide +kernel)) ggX5_group_X5_within
set_option maxRecDepth 20000 in
theorem ggX5_group_X5_hasLeft : GoodIn wsX5_group wsX5_hasLeft := goodIn_r _ [21, 22, 23, 24, 13, 25, 26, 27, 28, 29, 30, 31, 32, 33, 34, 35, 36, 37, 38, 7, 39, 40, 41, 42, 43, 44, 10, 45, 46, 47, 48, 49, 50, 126, 127, 128, 129, 130, 131, 132, 133, 134, 135, 136, 137, 138, 139, 140, 141, 142, 143, 144] (by decide +kernel) (by decide +kernel)
set_option maxRecDepth 20000 in
theorem gX5_group_X5_hasLeft : GoodIn wsX5_group (wsV RX5 158 RX5 yX5_hasLeft wsX5_hasLeft) := goodIn_app (goodIn_of _ (by decide +kernel)) ggX5_group_X5_hasLeft
set_option maxRecDepth 20000 in
theorem ggX5_group_X5_refuse : GoodIn wsX5_group wsX5_refuse := goodIn_r _ [54, 55, 56, 57, 126, 127, 128, 129, 130, 131, 132, 133, 134, 135, 136, 137, 138, 139] (by decide +kernel) (by decide +kernel)
set_option maxRecDepth 20000 in
theorem gX5_group_X5_refuse : GoodIn wsX5_group (wsV RX5 131 RX5 yX5_refuse wsX5_refuse) := goodIn_app (goodIn_of _ (by decide +kernel)) ggX5_group_X5_refuse
set_option maxRecDepth 20000 in
theorem ggX5_group_X5_displacement : GoodIn wsX5_group wsX5_displacement := goodIn_r _ [61, 62, 63, 64, 13, 65, 66, 67, 68, 69, 70, 71, 72, 73, 74, 75, 76, 77, 78, 79, 80, 81, 82, 83, 84, 85, 86, 87, 88, 89, 90, 91, 27, 28, 29, 92, 93, 94, 95, 96, 97, 22, 23, 24, 25, 26, 30, 31, 32, 33, 34, 35, 36, 37, 38, 7, 39, 40, 41, 42, 43, 44, 10, 45, 46, 47, 48, 49, 50, 15, 16, 17, 98, 99, 100, 101, 102, 103, 104, 105, 106, 107, 108, 109, 110, 111, 112, 113, 114, 115, 126, 127, 128, 129, 130, 131, 132, 133, 134, 135, 136, 137, 138, 139, 145, 146, 147, 148, 149, 150, 151, 152, 153, 154, 155, 156, 157, 158, 159, 140, 141, 142, 143, 144] (by decide +kernel) (by decide +kernel)
set_option maxRecDepth 20000 in
theorem gX5_group_X5_displacement : GoodIn wsX5_group (wsV RX5 161 RX5 yX5_displacement wsX5_displacement) := goodIn_app (goodIn_of _ (by decide +kernel)) ggX5_group_X5_displacement
set_option maxRecDepth 20000 in
theorem ggX5_group_X0_init : GoodIn wsX5_group wsX0_init := goodIn_r _ [117, 118, 119, 120, 47, 48, 49, 50, 121, 140, 141, 142, 143, 144] (by decide +kernel) (by decide +kernel)
set_option maxRecDepth 20000 in
theorem gX5_group_X0_init_n151 : GoodIn wsX5_group (wsX0_init) := ggX5_group_X0_init
set_option maxRecDepth 20000 in
theorem ggX5_group_X5_enter : GoodIn wsX5_group wsX5_enter := goodIn_r _ [125, 7, 43, 126, 127, 128, 129, 130, 131, 132, 133, 134, 135, 136, 137, 138, 139] (by decide +kernel) (by decide +kernel)
set_option maxRecDepth 20000 in
theorem gX5_group_X5_enter : GoodIn wsX5_group (wsV RX5 152 RX5 yX5_enter wsX5_enter) := goodIn_app (goodIn_of _ (by decide +kernel)) ggX5_group_X5_enter
theorem dX5_group_0 : decode cX5_group 0 = .ok (.iload_n 1, 1) := by decide +kernel
theorem dX5_group_1 : decode cX5_group 1 = .ok (.invokestatic 83, 3) := by decide +kernel
theorem dX5_group_4 : decode cX5_group 4 = .ok (.ifCond .eq 10, 3) := by decide +kernel
theorem dX5_group_7 : decode cX5_group 7 = .ok (.iload_n 2, 1) := by decide +kernel
theorem dX5_group_8 : decode cX5_group 8 = .ok (.invokestatic 83, 3) := by decide +kernel
theorem dX5_group_11 : decode cX5_group 11 = .ok (.ifCond .ne 13, 3) := by decide +kernel
theorem dX5_group_14 : decode cX5_group 14 = .ok (.new 87, 3) := by decide +kernel
theorem dX5_group_17 : decode cX5_group 17 = .ok (.dup, 1) := by decide +kernel
theorem dX5_group_18 : decode cX5_group 18 = .ok (.ldc 89, 2) := by decide +kernel
theorem dX5_group_20 : decode cX5_group 20 = .ok (.invokespecial 91, 3) := by decide +kernel
theorem dX5_group_23 : decode cX5_group 23 = .ok (.athrow, 1) := by decide +kernel
theorem dX5_group_24 : decode cX5_group 24 = .ok (.iload_n 2, 1) := by decide +kernel
theorem dX5_group_25 : decode cX5_group 25 = .ok (.iload_n 1, 1) := by decide +kernel
theorem dX5_group_26 : decode cX5_group 26 = .ok (.if_icmp .lt 25, 3) := by decide +kernel
theorem dX5_group_29 : decode cX5_group 29 = .ok (.iload_n 3, 1) := by decide +kernel
theorem dX5_group_30 : decode cX5_group 30 = .ok (.iconst 1, 1) := by decide +kernel
theorem dX5_group_31 : decode cX5_group 31 = .ok (.bipush 10, 2) := by decide +kernel
theorem dX5_group_33 : decode cX5_group 33 = .ok (.invokestatic 68, 3) := by decide +kernel
theorem dX5_group_36 : decode cX5_group 36 = .ok (.ifCond .eq 15, 3) := by decide +kernel
theorem dX5_group_39 : decode cX5_group 39 = .ok (.iload 4, 2) := by decide +kernel
theorem dX5_group_41 : decode cX5_group 41 = .ok (.iconst 1, 1) := by decide +kernel
theorem dX5_group_42 : decode cX5_group 42 = .ok (.sipush 3000, 3) := by decide +kernel
theorem dX5_group_45 : decode cX5_group 45 = .ok (.invokestatic 68, 3) := by decide +kernel
theorem dX5_group_48 : decode cX5_group 48 = .ok (.ifCond .ne 13, 3) := by decide +kernel
theorem dX5_group_51 : decode cX5_group 51 = .ok (.new 72, 3) := by decide +kernel
theorem dX5_group_54 : decode cX5_group 54 = .ok (.dup, 1) := by decide +kernel
theorem dX5_group_55 : decode cX5_group 55 = .ok (.ldc 156, 2) := by decide +kernel
theorem dX5_group_57 : decode cX5_group 57 = .ok (.invokespecial 76, 3) := by decide +kernel
theorem dX5_group_60 : decode cX5_group 60 = .ok (.athrow, 1) := by decide +kernel
theorem dX5_group_61 : decode cX5_group 61 = .ok (.aload_n 0, 1) := by decide +kernel
theorem dX5_group_62 : decode cX5_group 62 = .ok (.getfield 46, 3) := by decide +kernel
theorem dX5_group_65 : decode cX5_group 65 = .ok (.bipush 60, 2) := by decide +kernel
theorem dX5_group_67 : decode cX5_group 67 = .ok (.if_icmp .lt 13, 3) := by decide +kernel
theorem dX5_group_70 : decode cX5_group 70 = .ok (.new 97, 3) := by decide +kernel
theorem dX5_group_73 : decode cX5_group 73 = .ok (.dup, 1) := by decide +kernel
theorem dX5_group_74 : decode cX5_group 74 = .ok (.ldc 122, 2) := by decide +kernel
theorem dX5_group_76 : decode cX5_group 76 = .ok (.invokespecial 101, 3) := by decide +kernel
theorem dX5_group_79 : decode cX5_group 79 = .ok (.athrow, 1) := by decide +kernel
theorem dX5_group_80 : decode cX5_group 80 = .ok (.aload_n 0, 1) := by decide +kernel
theorem dX5_group_81 : decode cX5_group 81 = .ok (.iload_n 1, 1) := by decide +kernel
theorem dX5_group_82 : decode cX5_group 82 = .ok (.iload_n 2, 1) := by decide +kernel
theorem dX5_group_83 : decode cX5_group 83 = .ok (.iload_n 3, 1) := by decide +kernel
theorem dX5_group_84 : decode cX5_group 84 = .ok (.invokevirtual 158, 3) := by decide +kernel
theorem dX5_group_87 : decode cX5_group 87 = .ok (.ifCond .ne 9, 3) := by decide +kernel
theorem dX5_group_90 : decode cX5_group 90 = .ok (.aload_n 0, 1) := by decide +kernel
theorem dX5_group_91 : decode cX5_group 91 = .ok (.iconst (-1), 1) := by decide +kernel
theorem dX5_group_92 : decode cX5_group 92 = .ok (.invokevirtual 131, 3) := by decide +kernel
theorem dX5_group_95 : decode cX5_group 95 = .ok (.ireturn, 1) := by decide +kernel
theorem dX5_group_96 : decode cX5_group 96 = .ok (.iload 4, 2) := by decide +kernel
theorem dX5_group_98 : decode cX5_group 98 = .ok (.iload_n 3, 1) := by decide +kernel
theorem dX5_group_99 : decode cX5_group 99 = .ok (.imul, 1) := by decide +kernel
theorem dX5_group_100 : decode cX5_group 100 = .ok (.istore 5, 2) := by decide +kernel
theorem dX5_group_102 : decode cX5_group 102 = .ok (.iload 5, 2) := by decide +kernel
theorem dX5_group_104 : decode cX5_group 104 = .ok (.aload_n 0, 1) := by decide +kernel
theorem dX5_group_105 : decode cX5_group 105 = .ok (.iload_n 1, 1) := by decide +kernel
theorem dX5_group_106 : decode cX5_group 106 = .ok (.iload_n 2, 1) := by decide +kernel
theorem dX5_group_107 : decode cX5_group 107 = .ok (.iload_n 3, 1) := by decide +kernel
theorem dX5_group_108 : decode cX5_group 108 = .ok (.invokevirtual 161, 3) := by decide +kernel
theorem dX5_group_111 : decode cX5_group 111 = .ok (.if_icmp .ge 10, 3) := by decide +kernel
theorem dX5_group_114 : decode cX5_group 114 = .ok (.aload_n 0, 1) := by decide +kernel
theorem dX5_group_115 : decode cX5_group 115 = .ok (.bipush (-3), 2) := by decide +kernel
theorem dX5_group_117 : decode cX5_group 117 = .ok (.invokevirtual 131, 3) := by decide +kernel
theorem dX5_group_120 : decode cX5_group 120 = .ok (.ireturn, 1) := by decide +kernel
theorem dX5_group_121 : decode cX5_group 121 = .ok (.aload_n 0, 1) := by decide +kernel
theorem dX5_group_122 : decode cX5_group 122 = .ok (.new 22, 3) := by decide +kernel
theorem dX5_group_125 : decode cX5_group 125 = .ok (.dup, 1) := by decide +kernel
theorem dX5_group_126 : decode cX5_group 126 = .ok (.iload_n 1, 1) := by decide +kernel
theorem dX5_group_127 : decode cX5_group 127 = .ok (.iload_n 2, 1) := by decide +kernel
theorem dX5_group_128 : decode cX5_group 128 = .ok (.iload_n 3, 1) := by decide +kernel
theorem dX5_group_129 : decode cX5_group 129 = .ok (.iload 5, 2) := by decide +kernel
theorem dX5_group_131 : decode cX5_group 131 = .ok (.invokespecial 151, 3) := by decide +kernel
theorem dX5_group_134 : decode cX5_group 134 = .ok (.invokevirtual 152, 3) := by decide +kernel
theorem dX5_group_137 : decode cX5_group 137 = .ok (.ireturn, 1) := by decide +kernel
set_option maxRecDepth 20000 in
theorem ggX5_cancel_X5_bookingAt : GoodIn wsX5_cancel wsX5_bookingAt := goodIn_r _ [9, 10, 11, 17, 18, 19, 20, 21, 22, 23, 24, 25, 26, 27, 28, 29, 30] (by decide +kernel) (by decide +kernel)
set_option maxRecDepth 20000 in
theorem gX5_cancel_X5_bookingAt : GoodIn wsX5_cancel (wsV RX5 165 RX5 yX5_bookingAt wsX5_bookingAt) := goodIn_app (goodIn_of _ (by decide +kernel)) ggX5_cancel_X5_bookingAt
theorem dX5_cancel_0 : decode cX5_cancel 0 = .ok (.aload_n 0, 1) := by decide +kernel
theorem dX5_cancel_1 : decode cX5_cancel 1 = .ok (.iload_n 1, 1) := by decide +kernel
theorem dX5_cancel_2 : decode cX5_cancel 2 = .ok (.invokevirtual 165, 3) := by decide +kernel
theorem dX5_cancel_5 : decode cX5_cancel 5 = .ok (.astore_n 2, 1) := by decide +kernel
theorem dX5_cancel_6 : decode cX5_cancel 6 = .ok (.aload_n 2, 1) := by decide +kernel
theorem dX5_cancel_7 : decode cX5_cancel 7 = .ok (.ifnonnull 13, 3) := by decide +kernel
theorem dX5_cancel_10 : decode cX5_cancel 10 = .ok (.new 87, 3) := by decide +kernel
theorem dX5_cancel_13 : decode cX5_cancel 13 = .ok (.dup, 1) := by decide +kernel
theorem dX5_cancel_14 : decode cX5_cancel 14 = .ok (.ldc 169, 2) := by decide +kernel
theorem dX5_cancel_16 : decode cX5_cancel 16 = .ok (.invokespecial 91, 3) := by decide +kernel
theorem dX5_cancel_19 : decode cX5_cancel 19 = .ok (.athrow, 1) := by decide +kernel
theorem dX5_cancel_20 : decode cX5_cancel 20 = .ok (.aload_n 2, 1) := by decide +kernel
theorem dX5_cancel_21 : decode cX5_cancel 21 = .ok (.getfield 171, 3) := by decide +kernel
theorem dX5_cancel_24 : decode cX5_cancel 24 = .ok (.ifCond .eq 13, 3) := by decide +kernel
theorem dX5_cancel_27 : decode cX5_cancel 27 = .ok (.new 97, 3) := by decide +kernel
theorem dX5_cancel_30 : decode cX5_cancel 30 = .ok (.dup, 1) := by decide +kernel
theorem dX5_cancel_31 : decode cX5_cancel 31 = .ok (.ldc 175, 2) := by decide +kernel
theorem dX5_cancel_33 : decode cX5_cancel 33 = .ok (.invokespecial 101, 3) := by decide +kernel
theorem dX5_cancel_36 : decode cX5_cancel 36 = .ok (.athrow, 1) := by decide +kernel
theorem dX5_cancel_37 : decode cX5_cancel 37 = .ok (.aload_n 2, 1) := by decide +kernel
theorem dX5_cancel_38 : decode cX5_cancel 38 = .ok (.iconst 1, 1) := by decide +kernel
theorem dX5_cancel_39 : decode cX5_cancel 39 = .ok (.putfield 171, 3) := by decide +kernel
theorem dX5_cancel_42 : decode cX5_cancel 42 = .ok (.aload_n 2, 1) := by decide +kernel
theorem dX5_cancel_43 : decode cX5_cancel 43 = .ok (.getfield 177, 3) := by decide +kernel
theorem dX5_cancel_46 : decode cX5_cancel 46 = .ok (.ireturn, 1) := by decide +kernel
set_option maxRecDepth 20000 in
theorem ggX5_endDay_X5_within : GoodIn wsX5_endDay wsX5_within := goodIn_r _ [8] (by decide +kernel) (by decide +kernel)
set_option maxRecDepth 20000 in
theorem gX5_endDay_X5_within : GoodIn wsX5_endDay (va_wsS RX5 68 yX5_within wsX5_within) := goodIn_app (goodIn_of _ (by decide +kernel)) ggX5_endDay_X5_within
set_option maxRecDepth 20000 in
theorem ggX5_endDay_X5_deniedOn : GoodIn wsX5_endDay wsX5_deniedOn := goodIn_r _ [12, 13, 14, 15, 16, 17, 18, 19, 7, 20, 4, 21, 22, 23, 24, 25, 26, 27, 28, 29, 30, 31, 32, 33, 34, 35, 36, 37, 38, 60, 61, 62, 63, 64, 65, 66, 67, 68, 69, 70, 71, 72, 73, 74, 75, 76, 77, 78] (by decide +kernel) (by decide +kernel)
set_option maxRecDepth 20000 in
theorem gX5_endDay_X5_deniedOn : GoodIn wsX5_endDay (wsV RX5 181 RX5 yX5_deniedOn wsX5_deniedOn) := goodIn_app (goodIn_of _ (by decide +kernel)) ggX5_endDay_X5_deniedOn
set_option maxRecDepth 20000 in
theorem ggX5_endDay_X5_faresOfToday : GoodIn wsX5_endDay wsX5_faresOfToday := goodIn_r _ [42, 4, 21, 22, 23, 7, 24, 25, 60, 61, 62, 63, 64, 65, 66, 67, 68, 69, 70, 71, 72, 73, 74, 75, 76, 77, 78] (by decide +kernel) (by decide +kernel)
set_option maxRecDepth 20000 in
theorem gX5_endDay_X5_faresOfToday : GoodIn wsX5_endDay (wsV RX5 184 RX5 yX5_faresOfToday wsX5_faresOfToday) := goodIn_app (goodIn_of _ (by decide +kernel)) ggX5_endDay_X5_faresOfToday
set_option maxRecDepth 20000 in
theorem ggX5_endDay_X5_learn : GoodIn wsX5_endDay wsX5_learn := goodIn_r _ [46, 47, 48, 49, 50, 51, 52, 53, 54, 55, 15, 56, 57, 58, 59, 60, 61, 62, 63, 64, 65, 66, 67, 68, 69, 70, 71, 72, 73, 79, 80, 81, 82, 83, 84, 85] (by decide +kernel) (by decide +kernel)
set_option maxRecDepth 20000 in
theorem gX5_endDay_X5_learn : GoodIn wsX5_endDay (wsV RX5 188 RX5 yX5_learn wsX5_learn) := goodIn_app (goodIn_of _ (by decide +kernel)) ggX5_endDay_X5_learn
theorem dX5_endDay_0 : decode cX5_endDay 0 = .ok (.iload_n 1, 1) := by decide +kernel
theorem dX5_endDay_1 : decode cX5_endDay 1 = .ok (.iconst 0, 1) := by decide +kernel
theorem dX5_endDay_2 : decode cX5_endDay 2 = .ok (.bipush 100, 2) := by decide +kernel
theorem dX5_endDay_4 : decode cX5_endDay 4 = .ok (.invokestatic 68, 3) := by decide +kernel
theorem dX5_endDay_7 : decode cX5_endDay 7 = .ok (.ifCond .ne 13, 3) := by decide +kernel
theorem dX5_endDay_10 : decode cX5_endDay 10 = .ok (.new 72, 3) := by decide +kernel
theorem dX5_endDay_13 : decode cX5_endDay 13 = .ok (.dup, 1) := by decide +kernel
theorem dX5_endDay_14 : decode cX5_endDay 14 = .ok (.ldc 179, 2) := by decide +kernel
theorem dX5_endDay_16 : decode cX5_endDay 16 = .ok (.invokespecial 76, 3) := by decide +kernel
theorem dX5_endDay_19 : decode cX5_endDay 19 = .ok (.athrow, 1) := by decide +kernel
theorem dX5_endDay_20 : decode cX5_endDay 20 = .ok (.iconst 0, 1) := by decide +kernel
theorem dX5_endDay_21 : decode cX5_endDay 21 = .ok (.istore_n 2, 1) := by decide +kernel
theorem dX5_endDay_22 : decode cX5_endDay 22 = .ok (.iconst 0, 1) := by decide +kernel
theorem dX5_endDay_23 : decode cX5_endDay 23 = .ok (.istore_n 3, 1) := by decide +kernel
theorem dX5_endDay_24 : decode cX5_endDay 24 = .ok (.iload_n 3, 1) := by decide +kernel
theorem dX5_endDay_25 : decode cX5_endDay 25 = .ok (.iconst 3, 1) := by decide +kernel
theorem dX5_endDay_26 : decode cX5_endDay 26 = .ok (.if_icmp .ge 18, 3) := by decide +kernel
theorem dX5_endDay_29 : decode cX5_endDay 29 = .ok (.iload_n 2, 1) := by decide +kernel
theorem dX5_endDay_30 : decode cX5_endDay 30 = .ok (.aload_n 0, 1) := by decide +kernel
theorem dX5_endDay_31 : decode cX5_endDay 31 = .ok (.iload_n 3, 1) := by decide +kernel
theorem dX5_endDay_32 : decode cX5_endDay 32 = .ok (.iload_n 1, 1) := by decide +kernel
theorem dX5_endDay_33 : decode cX5_endDay 33 = .ok (.invokevirtual 181, 3) := by decide +kernel
theorem dX5_endDay_36 : decode cX5_endDay 36 = .ok (.iadd, 1) := by decide +kernel
theorem dX5_endDay_37 : decode cX5_endDay 37 = .ok (.istore_n 2, 1) := by decide +kernel
theorem dX5_endDay_38 : decode cX5_endDay 38 = .ok (.iinc 3 1, 3) := by decide +kernel
theorem dX5_endDay_41 : decode cX5_endDay 41 = .ok (.goto (-17), 3) := by decide +kernel
theorem dX5_endDay_44 : decode cX5_endDay 44 = .ok (.aload_n 0, 1) := by decide +kernel
theorem dX5_endDay_45 : decode cX5_endDay 45 = .ok (.dup, 1) := by decide +kernel
theorem dX5_endDay_46 : decode cX5_endDay 46 = .ok (.getfield 64, 3) := by decide +kernel
theorem dX5_endDay_49 : decode cX5_endDay 49 = .ok (.aload_n 0, 1) := by decide +kernel
theorem dX5_endDay_50 : decode cX5_endDay 50 = .ok (.invokevirtual 184, 3) := by decide +kernel
theorem dX5_endDay_53 : decode cX5_endDay 53 = .ok (.bipush 100, 2) := by decide +kernel
theorem dX5_endDay_55 : decode cX5_endDay 55 = .ok (.iload_n 2, 1) := by decide +kernel
theorem dX5_endDay_56 : decode cX5_endDay 56 = .ok (.imul, 1) := by decide +kernel
theorem dX5_endDay_57 : decode cX5_endDay 57 = .ok (.isub, 1) := by decide +kernel
theorem dX5_endDay_58 : decode cX5_endDay 58 = .ok (.i2l, 1) := by decide +kernel
theorem dX5_endDay_59 : decode cX5_endDay 59 = .ok (.ladd, 1) := by decide +kernel
theorem dX5_endDay_60 : decode cX5_endDay 60 = .ok (.putfield 64, 3) := by decide +kernel
theorem dX5_endDay_63 : decode cX5_endDay 63 = .ok (.aload_n 0, 1) := by decide +kernel
theorem dX5_endDay_64 : decode cX5_endDay 64 = .ok (.invokevirtual 188, 3) := by decide +kernel
theorem dX5_endDay_67 : decode cX5_endDay 67 = .ok (.aload_n 0, 1) := by decide +kernel
theorem dX5_endDay_68 : decode cX5_endDay 68 = .ok (.iconst 0, 1) := by decide +kernel
theorem dX5_endDay_69 : decode cX5_endDay 69 = .ok (.putfield 46, 3) := by decide +kernel
theorem dX5_endDay_72 : decode cX5_endDay 72 = .ok (.iload_n 2, 1) := by decide +kernel
theorem dX5_endDay_73 : decode cX5_endDay 73 = .ok (.ireturn, 1) := by decide +kernel
theorem dX5_products_0 : decode cX5_products 0 = .ok (.aload_n 0, 1) := by decide +kernel
theorem dX5_products_1 : decode cX5_products 1 = .ok (.getfield 42, 3) := by decide +kernel
theorem dX5_products_4 : decode cX5_products 4 = .ok (.ireturn, 1) := by decide +kernel
theorem dX5_days_0 : decode cX5_days 0 = .ok (.aload_n 0, 1) := by decide +kernel
theorem dX5_days_1 : decode cX5_days 1 = .ok (.getfield 49, 3) := by decide +kernel
theorem dX5_days_4 : decode cX5_days 4 = .ok (.ireturn, 1) := by decide +kernel
set_option maxRecDepth 20000 in
theorem ggX5_booked_X5_isLeg : GoodIn wsX5_booked wsX5_isLeg := goodIn_r _ [6, 7, 8, 5, 9] (by decide +kernel) (by decide +kernel)
set_option maxRecDepth 20000 in
theorem gX5_booked_X5_isLeg : GoodIn wsX5_booked (va_wsS RX5 83 yX5_isLeg wsX5_isLeg) := goodIn_app (goodIn_of _ (by decide +kernel)) ggX5_booked_X5_isLeg
set_option maxRecDepth 20000 in
theorem ggX5_booked_X5_bookedOn : GoodIn wsX5_booked wsX5_bookedOn := goodIn_r _ [13, 14, 15, 16, 17, 5, 18, 19, 20, 21, 22, 23, 24, 25, 26, 27, 28, 29, 30, 31, 32, 33, 34, 35, 36, 37, 38, 39, 40, 41, 42, 43, 44, 45, 46] (by decide +kernel) (by decide +kernel)
set_option maxRecDepth 20000 in
theorem gX5_booked_X5_bookedOn : GoodIn wsX5_booked (wsV RX5 191 RX5 yX5_bookedOn wsX5_bookedOn) := goodIn_app (goodIn_of _ (by decide +kernel)) ggX5_booked_X5_bookedOn
theorem dX5_booked_0 : decode cX5_booked 0 = .ok (.iload_n 1, 1) := by decide +kernel
theorem dX5_booked_1 : decode cX5_booked 1 = .ok (.invokestatic 83, 3) := by decide +kernel
theorem dX5_booked_4 : decode cX5_booked 4 = .ok (.ifCond .ne 13, 3) := by decide +kernel
theorem dX5_booked_7 : decode cX5_booked 7 = .ok (.new 87, 3) := by decide +kernel
theorem dX5_booked_10 : decode cX5_booked 10 = .ok (.dup, 1) := by decide +kernel
theorem dX5_booked_11 : decode cX5_booked 11 = .ok (.ldc 89, 2) := by decide +kernel
theorem dX5_booked_13 : decode cX5_booked 13 = .ok (.invokespecial 91, 3) := by decide +kernel
theorem dX5_booked_16 : decode cX5_booked 16 = .ok (.athrow, 1) := by decide +kernel
theorem dX5_booked_17 : decode cX5_booked 17 = .ok (.aload_n 0, 1) := by decide +kernel
theorem dX5_booked_18 : decode cX5_booked 18 = .ok (.iload_n 1, 1) := by decide +kernel
theorem dX5_booked_19 : decode cX5_booked 19 = .ok (.invokevirtual 191, 3) := by decide +kernel
theorem dX5_booked_22 : decode cX5_booked 22 = .ok (.ireturn, 1) := by decide +kernel
set_option maxRecDepth 20000 in
theorem ggX5_authorised_X5_isLeg : GoodIn wsX5_authorised wsX5_isLeg := goodIn_r _ [6, 7, 8, 5, 9] (by decide +kernel) (by decide +kernel)
set_option maxRecDepth 20000 in
theorem gX5_authorised_X5_isLeg : GoodIn wsX5_authorised (va_wsS RX5 83 yX5_isLeg wsX5_isLeg) := goodIn_app (goodIn_of _ (by decide +kernel)) ggX5_authorised_X5_isLeg
set_option maxRecDepth 20000 in
theorem ggX5_authorised_X5_authorisedOn : GoodIn wsX5_authorised wsX5_authorisedOn := goodIn_r _ [13, 14, 15, 16, 17, 5, 18, 19, 20, 21, 22, 23, 24, 25, 26, 27, 28, 29, 30, 31, 32, 33] (by decide +kernel) (by decide +kernel)
set_option maxRecDepth 20000 in
theorem gX5_authorised_X5_authorisedOn : GoodIn wsX5_authorised (wsV RX5 194 RX5 yX5_authorisedOn wsX5_authorisedOn) := goodIn_app (goodIn_of _ (by decide +kernel)) ggX5_authorised_X5_authorisedOn
theorem dX5_authorised_0 : decode cX5_authorised 0 = .ok (.iload_n 1, 1) := by decide +kernel
theorem dX5_authorised_1 : decode cX5_authorised 1 = .ok (.invokestatic 83, 3) := by decide +kernel
theorem dX5_authorised_4 : decode cX5_authorised 4 = .ok (.ifCond .ne 13, 3) := by decide +kernel
theorem dX5_authorised_7 : decode cX5_authorised 7 = .ok (.new 87, 3) := by decide +kernel
theorem dX5_authorised_10 : decode cX5_authorised 10 = .ok (.dup, 1) := by decide +kernel
theorem dX5_authorised_11 : decode cX5_authorised 11 = .ok (.ldc 89, 2) := by decide +kernel
theorem dX5_authorised_13 : decode cX5_authorised 13 = .ok (.invokespecial 91, 3) := by decide +kernel
theorem dX5_authorised_16 : decode cX5_authorised 16 = .ok (.athrow, 1) := by decide +kernel
theorem dX5_authorised_17 : decode cX5_authorised 17 = .ok (.aload_n 0, 1) := by decide +kernel
theorem dX5_authorised_18 : decode cX5_authorised 18 = .ok (.iload_n 1, 1) := by decide +kernel
theorem dX5_authorised_19 : decode cX5_authorised 19 = .ok (.invokevirtual 194, 3) := by decide +kernel
theorem dX5_authorised_22 : decode cX5_authorised 22 = .ok (.ireturn, 1) := by decide +kernel
set_option maxRecDepth 20000 in
theorem ggX5_protectedSeats_X5_isLeg : GoodIn wsX5_protectedSeats wsX5_isLeg := goodIn_r _ [8, 9, 10, 7, 11] (by decide +kernel) (by decide +kernel)
set_option maxRecDepth 20000 in
theorem gX5_protectedSeats_X5_isLeg : GoodIn wsX5_protectedSeats (va_wsS RX5 83 yX5_isLeg wsX5_isLeg) := goodIn_app (goodIn_of _ (by decide +kernel)) ggX5_protectedSeats_X5_isLeg
set_option maxRecDepth 20000 in
theorem ggX5_protectedSeats_X5_within : GoodIn wsX5_protectedSeats wsX5_within := goodIn_r _ [11] (by decide +kernel) (by decide +kernel)
set_option maxRecDepth 20000 in
theorem gX5_protectedSeats_X5_within : GoodIn wsX5_protectedSeats (va_wsS RX5 68 yX5_within wsX5_within) := goodIn_app (goodIn_of _ (by decide +kernel)) ggX5_protectedSeats_X5_within
set_option maxRecDepth 20000 in
theorem ggX5_protectedSeats_X5_protectedOn : GoodIn wsX5_protectedSeats wsX5_protectedOn := goodIn_r _ [15, 16, 17, 18, 19, 20, 21, 22, 23, 24, 25, 26, 27, 28, 29, 30, 31, 32, 33, 34, 35, 36, 37, 38, 39, 40, 41, 42, 43, 44, 45, 46, 47, 48, 49] (by decide +kernel) (by decide +kernel)
set_option maxRecDepth 20000 in
theorem gX5_protectedSeats_X5_protectedOn : GoodIn wsX5_protectedSeats (wsV RX5 199 RX5 yX5_protectedOn wsX5_protectedOn) := goodIn_app (goodIn_of _ (by decide +kernel)) ggX5_protectedSeats_X5_protectedOn
theorem dX5_protectedSeats_0 : decode cX5_protectedSeats 0 = .ok (.iload_n 1, 1) := by decide +kernel
theorem dX5_protectedSeats_1 : decode cX5_protectedSeats 1 = .ok (.invokestatic 83, 3) := by decide +kernel
theorem dX5_protectedSeats_4 : decode cX5_protectedSeats 4 = .ok (.ifCond .ne 13, 3) := by decide +kernel
theorem dX5_protectedSeats_7 : decode cX5_protectedSeats 7 = .ok (.new 87, 3) := by decide +kernel
theorem dX5_protectedSeats_10 : decode cX5_protectedSeats 10 = .ok (.dup, 1) := by decide +kernel
theorem dX5_protectedSeats_11 : decode cX5_protectedSeats 11 = .ok (.ldc 89, 2) := by decide +kernel
theorem dX5_protectedSeats_13 : decode cX5_protectedSeats 13 = .ok (.invokespecial 91, 3) := by decide +kernel
theorem dX5_protectedSeats_16 : decode cX5_protectedSeats 16 = .ok (.athrow, 1) := by decide +kernel
theorem dX5_protectedSeats_17 : decode cX5_protectedSeats 17 = .ok (.iload_n 2, 1) := by decide +kernel
theorem dX5_protectedSeats_18 : decode cX5_protectedSeats 18 = .ok (.iconst 1, 1) := by decide +kernel
theorem dX5_protectedSeats_19 : decode cX5_protectedSeats 19 = .ok (.sipush 1000, 3) := by decide +kernel
theorem dX5_protectedSeats_22 : decode cX5_protectedSeats 22 = .ok (.invokestatic 68, 3) := by decide +kernel
theorem dX5_protectedSeats_25 : decode cX5_protectedSeats 25 = .ok (.ifCond .ne 13, 3) := by decide +kernel
theorem dX5_protectedSeats_28 : decode cX5_protectedSeats 28 = .ok (.new 72, 3) := by decide +kernel
theorem dX5_protectedSeats_31 : decode cX5_protectedSeats 31 = .ok (.dup, 1) := by decide +kernel
theorem dX5_protectedSeats_32 : decode cX5_protectedSeats 32 = .ok (.ldc 197, 2) := by decide +kernel
theorem dX5_protectedSeats_34 : decode cX5_protectedSeats 34 = .ok (.invokespecial 76, 3) := by decide +kernel
theorem dX5_protectedSeats_37 : decode cX5_protectedSeats 37 = .ok (.athrow, 1) := by decide +kernel
theorem dX5_protectedSeats_38 : decode cX5_protectedSeats 38 = .ok (.aload_n 0, 1) := by decide +kernel
theorem dX5_protectedSeats_39 : decode cX5_protectedSeats 39 = .ok (.iload_n 1, 1) := by decide +kernel
theorem dX5_protectedSeats_40 : decode cX5_protectedSeats 40 = .ok (.iload_n 2, 1) := by decide +kernel
theorem dX5_protectedSeats_41 : decode cX5_protectedSeats 41 = .ok (.invokevirtual 199, 3) := by decide +kernel
theorem dX5_protectedSeats_44 : decode cX5_protectedSeats 44 = .ok (.ireturn, 1) := by decide +kernel
set_option maxRecDepth 20000 in
theorem ggX5_worth_X5_worthWithMore : GoodIn wsX5_worth wsX5_worthWithMore := goodIn_r _ [5, 6, 7, 8, 9, 10, 11, 12, 13, 14, 15, 16, 17, 18, 19, 20, 21, 22, 23, 24, 25, 26, 27, 28, 29, 30, 31, 32, 33, 34, 35, 36, 37, 38, 39, 40, 41, 42, 43, 4, 44, 45, 46, 47, 48, 49, 50, 51, 52, 53, 54, 55, 56, 57, 58, 59, 60, 61, 62, 63, 64, 65, 66, 67, 68, 69, 70, 71, 72, 73, 74, 75, 76, 77, 78, 79, 80, 81, 82, 83, 84, 85, 86, 87, 88, 89, 90, 91, 92, 93, 94, 95, 96, 97, 98, 99, 100, 101, 102, 103, 104, 105, 106, 107, 108, 109, 110, 111, 112, 113, 114, 115, 116, 117, 118, 119, 120, 121, 122, 123] (by decide +kernel) (by decide +kernel)
set_option maxRecDepth 20000 in
theorem gX5_worth_X5_worthWithMore : GoodIn wsX5_worth (wsV RX5 202 RX5 yX5_worthWithMore wsX5_worthWithMore) := goodIn_app (goodIn_of _ (by decide +kernel)) ggX5_worth_X5_worthWithMore
theorem dX5_worth_0 : decode cX5_worth 0 = .ok (.aload_n 0, 1) := by decide +kernel
theorem dX5_worth_1 : decode cX5_worth 1 = .ok (.iconst 0, 1) := by decide +kernel
theorem dX5_worth_2 : decode cX5_worth 2 = .ok (.iconst 0, 1) := by decide +kernel
theorem dX5_worth_3 : decode cX5_worth 3 = .ok (.iconst 0, 1) := by decide +kernel
theorem dX5_worth_4 : decode cX5_worth 4 = .ok (.invokevirtual 202, 3) := by decide +kernel
theorem dX5_worth_7 : decode cX5_worth 7 = .ok (.ireturn, 1) := by decide +kernel
set_option maxRecDepth 20000 in
theorem ggX5_worthByTable_X5_leftOn : GoodIn wsX5_worthByTable wsX5_leftOn := goodIn_r _ [7, 8, 9, 10, 11, 12, 13, 14, 6, 15, 16, 17, 18, 19, 20, 21, 22, 23, 24, 25, 26, 27, 28, 29, 30, 31, 32, 33, 34, 76, 77, 78, 79, 80, 81, 82, 83, 84, 85, 86, 87, 88, 89, 90, 91, 92, 93, 94] (by decide +kernel) (by decide +kernel)
set_option maxRecDepth 20000 in
theorem gX5_worthByTable_X5_leftOn : GoodIn wsX5_worthByTable (wsV RX5 205 RX5 yX5_leftOn wsX5_leftOn) := goodIn_app (goodIn_of _ (by decide +kernel)) ggX5_worthByTable_X5_leftOn
set_option maxRecDepth 20000 in
theorem ggX5_worthByTable_X4_clear : GoodIn wsX5_worthByTable wsX4_clear := goodIn_r _ [38, 39, 40, 41, 42, 43, 95] (by decide +kernel) (by decide +kernel)
set_option maxRecDepth 20000 in
theorem gX5_worthByTable_X4_clear_n208 : GoodIn wsX5_worthByTable (wsX4_clear) := ggX5_worthByTable_X4_clear
set_option maxRecDepth 20000 in
theorem ggX5_worthByTable_X4_admit : GoodIn wsX5_worthByTable wsX4_admit := goodIn_r _ [46, 47, 48, 10, 49, 50, 51, 52, 53, 54, 55, 56, 9, 11, 57, 58, 59, 36, 60, 61, 62, 63, 64, 65, 66, 67, 68, 69, 70, 71, 72, 39, 96, 97, 98, 99, 100, 101, 102, 95] (by decide +kernel) (by decide +kernel)
set_option maxRecDepth 20000 in
theorem gX5_worthByTable_X4_admit_n211 : GoodIn wsX5_worthByTable (wsX4_admit) := ggX5_worthByTable_X4_admit
set_option maxRecDepth 20000 in
theorem ggX5_worthByTable_X4_valueOf : GoodIn wsX5_worthByTable wsX4_valueOf := goodIn_r _ [75, 39, 66, 67, 36, 68, 95] (by decide +kernel) (by decide +kernel)
set_option maxRecDepth 20000 in
theorem gX5_worthByTable_X4_valueOf_n215 : GoodIn wsX5_worthByTable (wsX4_valueOf) := ggX5_worthByTable_X4_valueOf
theorem dX5_worthByTable_0 : decode cX5_worthByTable 0 = .ok (.aload_n 0, 1) := by decide +kernel
theorem dX5_worthByTable_1 : decode cX5_worthByTable 1 = .ok (.iconst 0, 1) := by decide +kernel
theorem dX5_worthByTable_2 : decode cX5_worthByTable 2 = .ok (.invokevirtual 205, 3) := by decide +kernel
theorem dX5_worthByTable_5 : decode cX5_worthByTable 5 = .ok (.istore_n 1, 1) := by decide +kernel
theorem dX5_worthByTable_6 : decode cX5_worthByTable 6 = .ok (.aload_n 0, 1) := by decide +kernel
theorem dX5_worthByTable_7 : decode cX5_worthByTable 7 = .ok (.iconst 1, 1) := by decide +kernel
theorem dX5_worthByTable_8 : decode cX5_worthByTable 8 = .ok (.invokevirtual 205, 3) := by decide +kernel
theorem dX5_worthByTable_11 : decode cX5_worthByTable 11 = .ok (.istore_n 2, 1) := by decide +kernel
theorem dX5_worthByTable_12 : decode cX5_worthByTable 12 = .ok (.aload_n 0, 1) := by decide +kernel
theorem dX5_worthByTable_13 : decode cX5_worthByTable 13 = .ok (.iconst 2, 1) := by decide +kernel
theorem dX5_worthByTable_14 : decode cX5_worthByTable 14 = .ok (.invokevirtual 205, 3) := by decide +kernel
theorem dX5_worthByTable_17 : decode cX5_worthByTable 17 = .ok (.istore_n 3, 1) := by decide +kernel
theorem dX5_worthByTable_18 : decode cX5_worthByTable 18 = .ok (.aload_n 0, 1) := by decide +kernel
theorem dX5_worthByTable_19 : decode cX5_worthByTable 19 = .ok (.getfield 38, 3) := by decide +kernel
theorem dX5_worthByTable_22 : decode cX5_worthByTable 22 = .ok (.invokevirtual 208, 3) := by decide +kernel
theorem dX5_worthByTable_25 : decode cX5_worthByTable 25 = .ok (.aload_n 0, 1) := by decide +kernel
theorem dX5_worthByTable_26 : decode cX5_worthByTable 26 = .ok (.getfield 15, 3) := by decide +kernel
theorem dX5_worthByTable_29 : decode cX5_worthByTable 29 = .ok (.astore 4, 2) := by decide +kernel
theorem dX5_worthByTable_31 : decode cX5_worthByTable 31 = .ok (.aload 4, 2) := by decide +kernel
theorem dX5_worthByTable_33 : decode cX5_worthByTable 33 = .ok (.arraylength, 1) := by decide +kernel
theorem dX5_worthByTable_34 : decode cX5_worthByTable 34 = .ok (.istore 5, 2) := by decide +kernel
theorem dX5_worthByTable_36 : decode cX5_worthByTable 36 = .ok (.iconst 0, 1) := by decide +kernel
theorem dX5_worthByTable_37 : decode cX5_worthByTable 37 = .ok (.istore 6, 2) := by decide +kernel
theorem dX5_worthByTable_39 : decode cX5_worthByTable 39 = .ok (.iload 6, 2) := by decide +kernel
theorem dX5_worthByTable_41 : decode cX5_worthByTable 41 = .ok (.iload 5, 2) := by decide +kernel
theorem dX5_worthByTable_43 : decode cX5_worthByTable 43 = .ok (.if_icmp .ge 33, 3) := by decide +kernel
theorem dX5_worthByTable_46 : decode cX5_worthByTable 46 = .ok (.aload 4, 2) := by decide +kernel
theorem dX5_worthByTable_48 : decode cX5_worthByTable 48 = .ok (.iload 6, 2) := by decide +kernel
theorem dX5_worthByTable_50 : decode cX5_worthByTable 50 = .ok (.aaload, 1) := by decide +kernel
theorem dX5_worthByTable_51 : decode cX5_worthByTable 51 = .ok (.astore 7, 2) := by decide +kernel
theorem dX5_worthByTable_53 : decode cX5_worthByTable 53 = .ok (.aload 7, 2) := by decide +kernel
theorem dX5_worthByTable_55 : decode cX5_worthByTable 55 = .ok (.ifnull 15, 3) := by decide +kernel
theorem dX5_worthByTable_58 : decode cX5_worthByTable 58 = .ok (.aload_n 0, 1) := by decide +kernel
theorem dX5_worthByTable_59 : decode cX5_worthByTable 59 = .ok (.getfield 38, 3) := by decide +kernel
theorem dX5_worthByTable_62 : decode cX5_worthByTable 62 = .ok (.aload 7, 2) := by decide +kernel
theorem dX5_worthByTable_64 : decode cX5_worthByTable 64 = .ok (.iload_n 1, 1) := by decide +kernel
theorem dX5_worthByTable_65 : decode cX5_worthByTable 65 = .ok (.iload_n 2, 1) := by decide +kernel
theorem dX5_worthByTable_66 : decode cX5_worthByTable 66 = .ok (.iload_n 3, 1) := by decide +kernel
theorem dX5_worthByTable_67 : decode cX5_worthByTable 67 = .ok (.invokevirtual 211, 3) := by decide +kernel
theorem dX5_worthByTable_70 : decode cX5_worthByTable 70 = .ok (.iinc 6 1, 3) := by decide +kernel
theorem dX5_worthByTable_73 : decode cX5_worthByTable 73 = .ok (.goto (-34), 3) := by decide +kernel
theorem dX5_worthByTable_76 : decode cX5_worthByTable 76 = .ok (.aload_n 0, 1) := by decide +kernel
theorem dX5_worthByTable_77 : decode cX5_worthByTable 77 = .ok (.getfield 38, 3) := by decide +kernel
theorem dX5_worthByTable_80 : decode cX5_worthByTable 80 = .ok (.iload_n 1, 1) := by decide +kernel
theorem dX5_worthByTable_81 : decode cX5_worthByTable 81 = .ok (.iload_n 2, 1) := by decide +kernel
theorem dX5_worthByTable_82 : decode cX5_worthByTable 82 = .ok (.iload_n 3, 1) := by decide +kernel
theorem dX5_worthByTable_83 : decode cX5_worthByTable 83 = .ok (.invokevirtual 215, 3) := by decide +kernel
theorem dX5_worthByTable_86 : decode cX5_worthByTable 86 = .ok (.ireturn, 1) := by decide +kernel
set_option maxRecDepth 20000 in
theorem ggX5_bid_X5_isLeg : GoodIn wsX5_bid wsX5_isLeg := goodIn_r _ [6, 7, 8, 5, 9] (by decide +kernel) (by decide +kernel)
set_option maxRecDepth 20000 in
theorem gX5_bid_X5_isLeg : GoodIn wsX5_bid (va_wsS RX5 83 yX5_isLeg wsX5_isLeg) := goodIn_app (goodIn_of _ (by decide +kernel)) ggX5_bid_X5_isLeg
set_option maxRecDepth 20000 in
theorem ggX5_bid_X5_bidsOver : GoodIn wsX5_bid wsX5_bidsOver := goodIn_r _ [13, 14, 15, 16, 5, 17, 18, 19, 20, 21, 22, 23, 24, 25, 26, 27, 28, 29, 30, 31, 32, 33, 34, 35, 36, 37, 38, 39, 40, 41, 42, 43, 44, 45, 46, 47, 48, 49, 50, 51, 52, 53, 54, 55, 56, 57, 58, 59, 60, 61, 62, 63, 64, 65, 66, 67, 68, 69, 70, 71, 72, 73, 74, 75, 76, 77, 78, 79, 80, 7, 8, 9, 81, 82, 83, 84, 85, 86, 87, 88, 89, 90, 91, 92, 93, 94, 95, 96, 97, 98, 99, 100, 101, 102, 103, 104, 105, 106, 107, 108, 109, 110, 111, 112, 113, 114, 115, 116, 117, 118, 119, 120, 121, 122, 123, 124, 125, 126, 127, 128, 129, 130, 131, 132] (by decide +kernel) (by decide +kernel)
set_option maxRecDepth 20000 in
theorem gX5_bid_X5_bidsOver : GoodIn wsX5_bid (wsV RX5 147 RX5 yX5_bidsOver wsX5_bidsOver) := goodIn_app (goodIn_of _ (by decide +kernel)) ggX5_bid_X5_bidsOver
theorem dX5_bid_0 : decode cX5_bid 0 = .ok (.iload_n 1, 1) := by decide +kernel
theorem dX5_bid_1 : decode cX5_bid 1 = .ok (.invokestatic 83, 3) := by decide +kernel
theorem dX5_bid_4 : decode cX5_bid 4 = .ok (.ifCond .ne 13, 3) := by decide +kernel
theorem dX5_bid_7 : decode cX5_bid 7 = .ok (.new 87, 3) := by decide +kernel
theorem dX5_bid_10 : decode cX5_bid 10 = .ok (.dup, 1) := by decide +kernel
theorem dX5_bid_11 : decode cX5_bid 11 = .ok (.ldc 89, 2) := by decide +kernel
theorem dX5_bid_13 : decode cX5_bid 13 = .ok (.invokespecial 91, 3) := by decide +kernel
theorem dX5_bid_16 : decode cX5_bid 16 = .ok (.athrow, 1) := by decide +kernel
theorem dX5_bid_17 : decode cX5_bid 17 = .ok (.aload_n 0, 1) := by decide +kernel
theorem dX5_bid_18 : decode cX5_bid 18 = .ok (.iload_n 1, 1) := by decide +kernel
theorem dX5_bid_19 : decode cX5_bid 19 = .ok (.iload_n 1, 1) := by decide +kernel
theorem dX5_bid_20 : decode cX5_bid 20 = .ok (.invokevirtual 147, 3) := by decide +kernel
theorem dX5_bid_23 : decode cX5_bid 23 = .ok (.ireturn, 1) := by decide +kernel
set_option maxRecDepth 20000 in
theorem ggX5_displaced_X5_isLeg : GoodIn wsX5_displaced wsX5_isLeg := goodIn_r _ [8, 9, 10, 7, 11] (by decide +kernel) (by decide +kernel)
set_option maxRecDepth 20000 in
theorem gX5_displaced_X5_isLeg : GoodIn wsX5_displaced (va_wsS RX5 83 yX5_isLeg wsX5_isLeg) := goodIn_app (goodIn_of _ (by decide +kernel)) ggX5_displaced_X5_isLeg
set_option maxRecDepth 20000 in
theorem ggX5_displaced_X5_within : GoodIn wsX5_displaced wsX5_within := goodIn_r _ [11] (by decide +kernel) (by decide +kernel)
set_option maxRecDepth 20000 in
theorem gX5_displaced_X5_within : GoodIn wsX5_displaced (va_wsS RX5 68 yX5_within wsX5_within) := goodIn_app (goodIn_of _ (by decide +kernel)) ggX5_displaced_X5_within
set_option maxRecDepth 20000 in
theorem ggX5_displaced_X5_hasLeft : GoodIn wsX5_displaced wsX5_hasLeft := goodIn_r _ [15, 16, 17, 18, 7, 19, 20, 21, 22, 23, 24, 25, 26, 27, 28, 29, 30, 31, 32, 33, 34, 35, 36, 37, 38, 39, 40, 41, 42, 43, 44, 45, 46, 105, 106, 107, 108, 109, 110, 111, 112, 113, 114, 115, 116, 117, 118, 119, 120, 121, 122, 123] (by decide +kernel) (by decide +kernel)
set_option maxRecDepth 20000 in
theorem gX5_displaced_X5_hasLeft : GoodIn wsX5_displaced (wsV RX5 158 RX5 yX5_hasLeft wsX5_hasLeft) := goodIn_app (goodIn_of _ (by decide +kernel)) ggX5_displaced_X5_hasLeft
set_option maxRecDepth 20000 in
theorem ggX5_displaced_X5_displacement : GoodIn wsX5_displaced wsX5_displacement := goodIn_r _ [50, 51, 52, 53, 7, 54, 55, 56, 57, 58, 59, 60, 61, 62, 63, 64, 65, 66, 67, 68, 69, 70, 71, 72, 73, 74, 75, 76, 77, 78, 79, 80, 21, 22, 23, 81, 82, 83, 84, 85, 86, 16, 17, 18, 19, 20, 24, 25, 26, 27, 28, 29, 30, 31, 32, 33, 34, 35, 36, 37, 38, 39, 40, 41, 42, 43, 44, 45, 46, 9, 10, 11, 87, 88, 89, 90, 91, 92, 93, 94, 95, 96, 97, 98, 99, 100, 101, 102, 103, 104, 105, 106, 107, 108, 109, 110, 111, 112, 113, 114, 115, 116, 117, 118, 124, 125, 126, 127, 128, 129, 130, 131, 132, 133, 134, 135, 136, 137, 138, 119, 120, 121, 122, 123] (by decide +kernel) (by decide +kernel)
set_option maxRecDepth 20000 in
theorem gX5_displaced_X5_displacement : GoodIn wsX5_displaced (wsV RX5 161 RX5 yX5_displacement wsX5_displacement) := goodIn_app (goodIn_of _ (by decide +kernel)) ggX5_displaced_X5_displacement
theorem dX5_displaced_0 : decode cX5_displaced 0 = .ok (.iload_n 1, 1) := by decide +kernel
theorem dX5_displaced_1 : decode cX5_displaced 1 = .ok (.invokestatic 83, 3) := by decide +kernel
theorem dX5_displaced_4 : decode cX5_displaced 4 = .ok (.ifCond .eq 10, 3) := by decide +kernel
theorem dX5_displaced_7 : decode cX5_displaced 7 = .ok (.iload_n 2, 1) := by decide +kernel
theorem dX5_displaced_8 : decode cX5_displaced 8 = .ok (.invokestatic 83, 3) := by decide +kernel
theorem dX5_displaced_11 : decode cX5_displaced 11 = .ok (.ifCond .ne 13, 3) := by decide +kernel
theorem dX5_displaced_14 : decode cX5_displaced 14 = .ok (.new 87, 3) := by decide +kernel
theorem dX5_displaced_17 : decode cX5_displaced 17 = .ok (.dup, 1) := by decide +kernel
theorem dX5_displaced_18 : decode cX5_displaced 18 = .ok (.ldc 89, 2) := by decide +kernel
theorem dX5_displaced_20 : decode cX5_displaced 20 = .ok (.invokespecial 91, 3) := by decide +kernel
theorem dX5_displaced_23 : decode cX5_displaced 23 = .ok (.athrow, 1) := by decide +kernel
theorem dX5_displaced_24 : decode cX5_displaced 24 = .ok (.iload_n 2, 1) := by decide +kernel
theorem dX5_displaced_25 : decode cX5_displaced 25 = .ok (.iload_n 1, 1) := by decide +kernel
theorem dX5_displaced_26 : decode cX5_displaced 26 = .ok (.if_icmp .lt 13, 3) := by decide +kernel
theorem dX5_displaced_29 : decode cX5_displaced 29 = .ok (.iload_n 3, 1) := by decide +kernel
theorem dX5_displaced_30 : decode cX5_displaced 30 = .ok (.iconst 1, 1) := by decide +kernel
theorem dX5_displaced_31 : decode cX5_displaced 31 = .ok (.bipush 10, 2) := by decide +kernel
theorem dX5_displaced_33 : decode cX5_displaced 33 = .ok (.invokestatic 68, 3) := by decide +kernel
theorem dX5_displaced_36 : decode cX5_displaced 36 = .ok (.ifCond .ne 13, 3) := by decide +kernel
theorem dX5_displaced_39 : decode cX5_displaced 39 = .ok (.new 72, 3) := by decide +kernel
theorem dX5_displaced_42 : decode cX5_displaced 42 = .ok (.dup, 1) := by decide +kernel
theorem dX5_displaced_43 : decode cX5_displaced 43 = .ok (.ldc 218, 2) := by decide +kernel
theorem dX5_displaced_45 : decode cX5_displaced 45 = .ok (.invokespecial 76, 3) := by decide +kernel
theorem dX5_displaced_48 : decode cX5_displaced 48 = .ok (.athrow, 1) := by decide +kernel
theorem dX5_displaced_49 : decode cX5_displaced 49 = .ok (.aload_n 0, 1) := by decide +kernel
theorem dX5_displaced_50 : decode cX5_displaced 50 = .ok (.iload_n 1, 1) := by decide +kernel
theorem dX5_displaced_51 : decode cX5_displaced 51 = .ok (.iload_n 2, 1) := by decide +kernel
theorem dX5_displaced_52 : decode cX5_displaced 52 = .ok (.iload_n 3, 1) := by decide +kernel
theorem dX5_displaced_53 : decode cX5_displaced 53 = .ok (.invokevirtual 158, 3) := by decide +kernel
theorem dX5_displaced_56 : decode cX5_displaced 56 = .ok (.ifCond .eq 13, 3) := by decide +kernel
theorem dX5_displaced_59 : decode cX5_displaced 59 = .ok (.aload_n 0, 1) := by decide +kernel
theorem dX5_displaced_60 : decode cX5_displaced 60 = .ok (.iload_n 1, 1) := by decide +kernel
theorem dX5_displaced_61 : decode cX5_displaced 61 = .ok (.iload_n 2, 1) := by decide +kernel
theorem dX5_displaced_62 : decode cX5_displaced 62 = .ok (.iload_n 3, 1) := by decide +kernel
theorem dX5_displaced_63 : decode cX5_displaced 63 = .ok (.invokevirtual 161, 3) := by decide +kernel
theorem dX5_displaced_66 : decode cX5_displaced 66 = .ok (.goto 4, 3) := by decide +kernel
theorem dX5_displaced_69 : decode cX5_displaced 69 = .ok (.iconst (-1), 1) := by decide +kernel
theorem dX5_displaced_70 : decode cX5_displaced 70 = .ok (.ireturn, 1) := by decide +kernel
set_option maxRecDepth 20000 in
theorem ggX5_expected_X5_productAt : GoodIn wsX5_expected wsX5_productAt := goodIn_r _ [7, 8, 16, 17, 18, 19, 20, 21, 22, 23, 24, 25, 26, 27, 28, 29] (by decide +kernel) (by decide +kernel)
set_option maxRecDepth 20000 in
theorem gX5_expected_X5_productAt : GoodIn wsX5_expected (wsV RX5 109 RX5 yX5_productAt wsX5_productAt) := goodIn_app (goodIn_of _ (by decide +kernel)) ggX5_expected_X5_productAt
theorem dX5_expected_0 : decode cX5_expected 0 = .ok (.aload_n 0, 1) := by decide +kernel
theorem dX5_expected_1 : decode cX5_expected 1 = .ok (.iload_n 1, 1) := by decide +kernel
theorem dX5_expected_2 : decode cX5_expected 2 = .ok (.invokevirtual 109, 3) := by decide +kernel
theorem dX5_expected_5 : decode cX5_expected 5 = .ok (.astore_n 2, 1) := by decide +kernel
theorem dX5_expected_6 : decode cX5_expected 6 = .ok (.aload_n 2, 1) := by decide +kernel
theorem dX5_expected_7 : decode cX5_expected 7 = .ok (.ifnonnull 13, 3) := by decide +kernel
theorem dX5_expected_10 : decode cX5_expected 10 = .ok (.new 87, 3) := by decide +kernel
theorem dX5_expected_13 : decode cX5_expected 13 = .ok (.dup, 1) := by decide +kernel
theorem dX5_expected_14 : decode cX5_expected 14 = .ok (.ldc 113, 2) := by decide +kernel
theorem dX5_expected_16 : decode cX5_expected 16 = .ok (.invokespecial 91, 3) := by decide +kernel
theorem dX5_expected_19 : decode cX5_expected 19 = .ok (.athrow, 1) := by decide +kernel
theorem dX5_expected_20 : decode cX5_expected 20 = .ok (.aload_n 2, 1) := by decide +kernel
theorem dX5_expected_21 : decode cX5_expected 21 = .ok (.getfield 117, 3) := by decide +kernel
theorem dX5_expected_24 : decode cX5_expected 24 = .ok (.ireturn, 1) := by decide +kernel
set_option maxRecDepth 20000 in
theorem ggX5_average_X5_productAt : GoodIn wsX5_average wsX5_productAt := goodIn_r _ [8, 9, 10, 11, 12, 13, 14, 15, 16, 17, 18, 19, 20, 21, 22, 23] (by decide +kernel) (by decide +kernel)
set_option maxRecDepth 20000 in
theorem gX5_average_X5_productAt : GoodIn wsX5_average (wsV RX5 109 RX5 yX5_productAt wsX5_productAt) := goodIn_app (goodIn_of _ (by decide +kernel)) ggX5_average_X5_productAt
theorem dX5_average_0 : decode cX5_average 0 = .ok (.aload_n 0, 1) := by decide +kernel
theorem dX5_average_1 : decode cX5_average 1 = .ok (.iload_n 1, 1) := by decide +kernel
theorem dX5_average_2 : decode cX5_average 2 = .ok (.invokevirtual 109, 3) := by decide +kernel
theorem dX5_average_5 : decode cX5_average 5 = .ok (.astore_n 2, 1) := by decide +kernel
theorem dX5_average_6 : decode cX5_average 6 = .ok (.aload_n 2, 1) := by decide +kernel
theorem dX5_average_7 : decode cX5_average 7 = .ok (.ifnonnull 13, 3) := by decide +kernel
theorem dX5_average_10 : decode cX5_average 10 = .ok (.new 87, 3) := by decide +kernel
theorem dX5_average_13 : decode cX5_average 13 = .ok (.dup, 1) := by decide +kernel
theorem dX5_average_14 : decode cX5_average 14 = .ok (.ldc 113, 2) := by decide +kernel
theorem dX5_average_16 : decode cX5_average 16 = .ok (.invokespecial 91, 3) := by decide +kernel
theorem dX5_average_19 : decode cX5_average 19 = .ok (.athrow, 1) := by decide +kernel
theorem dX5_average_20 : decode cX5_average 20 = .ok (.aload_n 0, 1) := by decide +kernel
theorem dX5_average_21 : decode cX5_average 21 = .ok (.getfield 49, 3) := by decide +kernel
theorem dX5_average_24 : decode cX5_average 24 = .ok (.ifCond .gt 5, 3) := by decide +kernel
theorem dX5_average_27 : decode cX5_average 27 = .ok (.fconst 0, 1) := by decide +kernel
theorem dX5_average_28 : decode cX5_average 28 = .ok (.freturn, 1) := by decide +kernel
theorem dX5_average_29 : decode cX5_average 29 = .ok (.aload_n 2, 1) := by decide +kernel
theorem dX5_average_30 : decode cX5_average 30 = .ok (.getfield 220, 3) := by decide +kernel
theorem dX5_average_33 : decode cX5_average 33 = .ok (.i2f, 1) := by decide +kernel
theorem dX5_average_34 : decode cX5_average 34 = .ok (.aload_n 0, 1) := by decide +kernel
theorem dX5_average_35 : decode cX5_average 35 = .ok (.getfield 49, 3) := by decide +kernel
theorem dX5_average_38 : decode cX5_average 38 = .ok (.i2f, 1) := by decide +kernel
theorem dX5_average_39 : decode cX5_average 39 = .ok (.fdiv, 1) := by decide +kernel
theorem dX5_average_40 : decode cX5_average 40 = .ok (.freturn, 1) := by decide +kernel
set_option maxRecDepth 20000 in
theorem ggX5_asked_X5_productAt : GoodIn wsX5_asked wsX5_productAt := goodIn_r _ [7, 8, 16, 17, 18, 19, 20, 21, 22, 23, 24, 25, 26, 27, 28, 29] (by decide +kernel) (by decide +kernel)
set_option maxRecDepth 20000 in
theorem gX5_asked_X5_productAt : GoodIn wsX5_asked (wsV RX5 109 RX5 yX5_productAt wsX5_productAt) := goodIn_app (goodIn_of _ (by decide +kernel)) ggX5_asked_X5_productAt
theorem dX5_asked_0 : decode cX5_asked 0 = .ok (.aload_n 0, 1) := by decide +kernel
theorem dX5_asked_1 : decode cX5_asked 1 = .ok (.iload_n 1, 1) := by decide +kernel
theorem dX5_asked_2 : decode cX5_asked 2 = .ok (.invokevirtual 109, 3) := by decide +kernel
theorem dX5_asked_5 : decode cX5_asked 5 = .ok (.astore_n 2, 1) := by decide +kernel
theorem dX5_asked_6 : decode cX5_asked 6 = .ok (.aload_n 2, 1) := by decide +kernel
theorem dX5_asked_7 : decode cX5_asked 7 = .ok (.ifnonnull 13, 3) := by decide +kernel
theorem dX5_asked_10 : decode cX5_asked 10 = .ok (.new 87, 3) := by decide +kernel
theorem dX5_asked_13 : decode cX5_asked 13 = .ok (.dup, 1) := by decide +kernel
theorem dX5_asked_14 : decode cX5_asked 14 = .ok (.ldc 113, 2) := by decide +kernel
theorem dX5_asked_16 : decode cX5_asked 16 = .ok (.invokespecial 91, 3) := by decide +kernel
theorem dX5_asked_19 : decode cX5_asked 19 = .ok (.athrow, 1) := by decide +kernel
theorem dX5_asked_20 : decode cX5_asked 20 = .ok (.aload_n 2, 1) := by decide +kernel
theorem dX5_asked_21 : decode cX5_asked 21 = .ok (.getfield 124, 3) := by decide +kernel
theorem dX5_asked_24 : decode cX5_asked 24 = .ok (.ireturn, 1) := by decide +kernel
theorem dX5_refused_0 : decode cX5_refused 0 = .ok (.iload_n 1, 1) := by decide +kernel
theorem dX5_refused_1 : decode cX5_refused 1 = .ok (.tableswitch 42 (-3) (-1) #[37, 32, 27], 27) := by decide +kernel
theorem dX5_refused_28 : decode cX5_refused 28 = .ok (.aload_n 0, 1) := by decide +kernel
theorem dX5_refused_29 : decode cX5_refused 29 = .ok (.getfield 55, 3) := by decide +kernel
theorem dX5_refused_32 : decode cX5_refused 32 = .ok (.ireturn, 1) := by decide +kernel
theorem dX5_refused_33 : decode cX5_refused 33 = .ok (.aload_n 0, 1) := by decide +kernel
theorem dX5_refused_34 : decode cX5_refused 34 = .ok (.getfield 58, 3) := by decide +kernel
theorem dX5_refused_37 : decode cX5_refused 37 = .ok (.ireturn, 1) := by decide +kernel
theorem dX5_refused_38 : decode cX5_refused 38 = .ok (.aload_n 0, 1) := by decide +kernel
theorem dX5_refused_39 : decode cX5_refused 39 = .ok (.getfield 61, 3) := by decide +kernel
theorem dX5_refused_42 : decode cX5_refused 42 = .ok (.ireturn, 1) := by decide +kernel
theorem dX5_refused_43 : decode cX5_refused 43 = .ok (.new 72, 3) := by decide +kernel
theorem dX5_refused_46 : decode cX5_refused 46 = .ok (.dup, 1) := by decide +kernel
theorem dX5_refused_47 : decode cX5_refused 47 = .ok (.ldc 223, 2) := by decide +kernel
theorem dX5_refused_49 : decode cX5_refused 49 = .ok (.invokespecial 76, 3) := by decide +kernel
theorem dX5_refused_52 : decode cX5_refused 52 = .ok (.athrow, 1) := by decide +kernel
set_option maxRecDepth 20000 in
theorem ggX5_revenue_X5_faresOfToday : GoodIn wsX5_revenue wsX5_faresOfToday := goodIn_r _ [5, 6, 7, 8, 9, 4, 10, 11, 12, 13, 14, 15, 16, 17, 18, 19, 20, 21, 22, 23, 24, 25, 26, 27, 28, 29, 30] (by decide +kernel) (by decide +kernel)
set_option maxRecDepth 20000 in
theorem gX5_revenue_X5_faresOfToday : GoodIn wsX5_revenue (wsV RX5 184 RX5 yX5_faresOfToday wsX5_faresOfToday) := goodIn_app (goodIn_of _ (by decide +kernel)) ggX5_revenue_X5_faresOfToday
theorem dX5_revenue_0 : decode cX5_revenue 0 = .ok (.aload_n 0, 1) := by decide +kernel
theorem dX5_revenue_1 : decode cX5_revenue 1 = .ok (.invokevirtual 184, 3) := by decide +kernel
theorem dX5_revenue_4 : decode cX5_revenue 4 = .ok (.ireturn, 1) := by decide +kernel
theorem dX5_earned_0 : decode cX5_earned 0 = .ok (.aload_n 0, 1) := by decide +kernel
theorem dX5_earned_1 : decode cX5_earned 1 = .ok (.getfield 64, 3) := by decide +kernel
theorem dX5_earned_4 : decode cX5_earned 4 = .ok (.lreturn, 1) := by decide +kernel
theorem dX5_within_0 : decode cX5_within 0 = .ok (.iload_n 0, 1) := by decide +kernel
theorem dX5_within_1 : decode cX5_within 1 = .ok (.iload_n 1, 1) := by decide +kernel
theorem dX5_within_2 : decode cX5_within 2 = .ok (.if_icmp .lt 12, 3) := by decide +kernel
theorem dX5_within_5 : decode cX5_within 5 = .ok (.iload_n 0, 1) := by decide +kernel
theorem dX5_within_6 : decode cX5_within 6 = .ok (.iload_n 2, 1) := by decide +kernel
theorem dX5_within_7 : decode cX5_within 7 = .ok (.if_icmp .gt 7, 3) := by decide +kernel
theorem dX5_within_10 : decode cX5_within 10 = .ok (.iconst 1, 1) := by decide +kernel
theorem dX5_within_11 : decode cX5_within 11 = .ok (.goto 4, 3) := by decide +kernel
theorem dX5_within_14 : decode cX5_within 14 = .ok (.iconst 0, 1) := by decide +kernel
theorem dX5_within_15 : decode cX5_within 15 = .ok (.ireturn, 1) := by decide +kernel
set_option maxRecDepth 20000 in
theorem ggX5_isLeg_X5_within : GoodIn wsX5_isLeg wsX5_within := goodIn_r _ [4] (by decide +kernel) (by decide +kernel)
set_option maxRecDepth 20000 in
theorem gX5_isLeg_X5_within : GoodIn wsX5_isLeg (va_wsS RX5 68 yX5_within wsX5_within) := goodIn_app (goodIn_of _ (by decide +kernel)) ggX5_isLeg_X5_within
theorem dX5_isLeg_0 : decode cX5_isLeg 0 = .ok (.iload_n 0, 1) := by decide +kernel
theorem dX5_isLeg_1 : decode cX5_isLeg 1 = .ok (.iconst 0, 1) := by decide +kernel
theorem dX5_isLeg_2 : decode cX5_isLeg 2 = .ok (.iconst 2, 1) := by decide +kernel
theorem dX5_isLeg_3 : decode cX5_isLeg 3 = .ok (.invokestatic 68, 3) := by decide +kernel
theorem dX5_isLeg_6 : decode cX5_isLeg 6 = .ok (.ireturn, 1) := by decide +kernel
theorem dX5_putSeats_0 : decode cX5_putSeats 0 = .ok (.iload_n 1, 1) := by decide +kernel
theorem dX5_putSeats_1 : decode cX5_putSeats 1 = .ok (.ifCond .lt 19, 3) := by decide +kernel
theorem dX5_putSeats_4 : decode cX5_putSeats 4 = .ok (.iload_n 1, 1) := by decide +kernel
theorem dX5_putSeats_5 : decode cX5_putSeats 5 = .ok (.aload_n 0, 1) := by decide +kernel
theorem dX5_putSeats_6 : decode cX5_putSeats 6 = .ok (.getfield 9, 3) := by decide +kernel
theorem dX5_putSeats_9 : decode cX5_putSeats 9 = .ok (.arraylength, 1) := by decide +kernel
theorem dX5_putSeats_10 : decode cX5_putSeats 10 = .ok (.if_icmp .ge 10, 3) := by decide +kernel
theorem dX5_putSeats_13 : decode cX5_putSeats 13 = .ok (.aload_n 0, 1) := by decide +kernel
theorem dX5_putSeats_14 : decode cX5_putSeats 14 = .ok (.getfield 9, 3) := by decide +kernel
theorem dX5_putSeats_17 : decode cX5_putSeats 17 = .ok (.iload_n 1, 1) := by decide +kernel
theorem dX5_putSeats_18 : decode cX5_putSeats 18 = .ok (.iload_n 2, 1) := by decide +kernel
theorem dX5_putSeats_19 : decode cX5_putSeats 19 = .ok (.iastore, 1) := by decide +kernel
theorem dX5_putSeats_20 : decode cX5_putSeats 20 = .ok (.return_, 1) := by decide +kernel
theorem dX5_seatsOf_0 : decode cX5_seatsOf 0 = .ok (.iload_n 1, 1) := by decide +kernel
theorem dX5_seatsOf_1 : decode cX5_seatsOf 1 = .ok (.ifCond .lt 21, 3) := by decide +kernel
theorem dX5_seatsOf_4 : decode cX5_seatsOf 4 = .ok (.iload_n 1, 1) := by decide +kernel
theorem dX5_seatsOf_5 : decode cX5_seatsOf 5 = .ok (.aload_n 0, 1) := by decide +kernel
theorem dX5_seatsOf_6 : decode cX5_seatsOf 6 = .ok (.getfield 9, 3) := by decide +kernel
theorem dX5_seatsOf_9 : decode cX5_seatsOf 9 = .ok (.arraylength, 1) := by decide +kernel
theorem dX5_seatsOf_10 : decode cX5_seatsOf 10 = .ok (.if_icmp .ge 12, 3) := by decide +kernel
theorem dX5_seatsOf_13 : decode cX5_seatsOf 13 = .ok (.aload_n 0, 1) := by decide +kernel
theorem dX5_seatsOf_14 : decode cX5_seatsOf 14 = .ok (.getfield 9, 3) := by decide +kernel
theorem dX5_seatsOf_17 : decode cX5_seatsOf 17 = .ok (.iload_n 1, 1) := by decide +kernel
theorem dX5_seatsOf_18 : decode cX5_seatsOf 18 = .ok (.iaload, 1) := by decide +kernel
theorem dX5_seatsOf_19 : decode cX5_seatsOf 19 = .ok (.goto 4, 3) := by decide +kernel
theorem dX5_seatsOf_22 : decode cX5_seatsOf 22 = .ok (.iconst 0, 1) := by decide +kernel
theorem dX5_seatsOf_23 : decode cX5_seatsOf 23 = .ok (.ireturn, 1) := by decide +kernel
set_option maxRecDepth 20000 in
theorem ggX5_authorisedOn_X5_seatsOf : GoodIn wsX5_authorisedOn wsX5_seatsOf := goodIn_r _ [6, 7, 8, 9, 10, 11, 12, 13, 14, 15, 16, 17, 18, 19, 20, 21] (by decide +kernel) (by decide +kernel)
set_option maxRecDepth 20000 in
theorem gX5_authorisedOn_X5_seatsOf : GoodIn wsX5_authorisedOn (wsV RX5 225 RX5 yX5_seatsOf wsX5_seatsOf) := goodIn_app (goodIn_of _ (by decide +kernel)) ggX5_authorisedOn_X5_seatsOf
theorem dX5_authorisedOn_0 : decode cX5_authorisedOn 0 = .ok (.aload_n 0, 1) := by decide +kernel
theorem dX5_authorisedOn_1 : decode cX5_authorisedOn 1 = .ok (.iload_n 1, 1) := by decide +kernel
theorem dX5_authorisedOn_2 : decode cX5_authorisedOn 2 = .ok (.invokevirtual 225, 3) := by decide +kernel
theorem dX5_authorisedOn_5 : decode cX5_authorisedOn 5 = .ok (.istore_n 2, 1) := by decide +kernel
theorem dX5_authorisedOn_6 : decode cX5_authorisedOn 6 = .ok (.iload_n 2, 1) := by decide +kernel
theorem dX5_authorisedOn_7 : decode cX5_authorisedOn 7 = .ok (.iload_n 2, 1) := by decide +kernel
theorem dX5_authorisedOn_8 : decode cX5_authorisedOn 8 = .ok (.bipush 100, 2) := by decide +kernel
theorem dX5_authorisedOn_10 : decode cX5_authorisedOn 10 = .ok (.aload_n 0, 1) := by decide +kernel
theorem dX5_authorisedOn_11 : decode cX5_authorisedOn 11 = .ok (.getfield 52, 3) := by decide +kernel
theorem dX5_authorisedOn_14 : decode cX5_authorisedOn 14 = .ok (.isub, 1) := by decide +kernel
theorem dX5_authorisedOn_15 : decode cX5_authorisedOn 15 = .ok (.imul, 1) := by decide +kernel
theorem dX5_authorisedOn_16 : decode cX5_authorisedOn 16 = .ok (.bipush 100, 2) := by decide +kernel
theorem dX5_authorisedOn_18 : decode cX5_authorisedOn 18 = .ok (.idiv, 1) := by decide +kernel
theorem dX5_authorisedOn_19 : decode cX5_authorisedOn 19 = .ok (.iadd, 1) := by decide +kernel
theorem dX5_authorisedOn_20 : decode cX5_authorisedOn 20 = .ok (.ireturn, 1) := by decide +kernel
set_option maxRecDepth 20000 in
theorem ggX5_bookedOn_X5_bookingAt : GoodIn wsX5_bookedOn wsX5_bookingAt := goodIn_r _ [6, 1, 7, 16, 17, 18, 19, 20, 21, 22, 23, 24, 25, 26, 27, 28, 29] (by decide +kernel) (by decide +kernel)
set_option maxRecDepth 20000 in
theorem gX5_bookedOn_X5_bookingAt : GoodIn wsX5_bookedOn (wsV RX5 165 RX5 yX5_bookingAt wsX5_bookingAt) := goodIn_app (goodIn_of _ (by decide +kernel)) ggX5_bookedOn_X5_bookingAt
set_option maxRecDepth 20000 in
theorem ggX5_bookedOn_X0_seatsOn : GoodIn wsX5_bookedOn wsX0_seatsOn := goodIn_r _ [11, 12, 13, 14, 15, 30, 31, 32, 33, 34] (by decide +kernel) (by decide +kernel)
set_option maxRecDepth 20000 in
theorem gX5_bookedOn_X0_seatsOn_n228 : GoodIn wsX5_bookedOn (wsX0_seatsOn) := ggX5_bookedOn_X0_seatsOn
theorem dX5_bookedOn_0 : decode cX5_bookedOn 0 = .ok (.iconst 0, 1) := by decide +kernel
theorem dX5_bookedOn_1 : decode cX5_bookedOn 1 = .ok (.istore_n 2, 1) := by decide +kernel
theorem dX5_bookedOn_2 : decode cX5_bookedOn 2 = .ok (.iconst 0, 1) := by decide +kernel
theorem dX5_bookedOn_3 : decode cX5_bookedOn 3 = .ok (.istore_n 3, 1) := by decide +kernel
theorem dX5_bookedOn_4 : decode cX5_bookedOn 4 = .ok (.iload_n 3, 1) := by decide +kernel
theorem dX5_bookedOn_5 : decode cX5_bookedOn 5 = .ok (.aload_n 0, 1) := by decide +kernel
theorem dX5_bookedOn_6 : decode cX5_bookedOn 6 = .ok (.getfield 46, 3) := by decide +kernel
theorem dX5_bookedOn_9 : decode cX5_bookedOn 9 = .ok (.if_icmp .ge 30, 3) := by decide +kernel
theorem dX5_bookedOn_12 : decode cX5_bookedOn 12 = .ok (.aload_n 0, 1) := by decide +kernel
theorem dX5_bookedOn_13 : decode cX5_bookedOn 13 = .ok (.iload_n 3, 1) := by decide +kernel
theorem dX5_bookedOn_14 : decode cX5_bookedOn 14 = .ok (.invokevirtual 165, 3) := by decide +kernel
theorem dX5_bookedOn_17 : decode cX5_bookedOn 17 = .ok (.astore 4, 2) := by decide +kernel
theorem dX5_bookedOn_19 : decode cX5_bookedOn 19 = .ok (.aload 4, 2) := by decide +kernel
theorem dX5_bookedOn_21 : decode cX5_bookedOn 21 = .ok (.ifnull 12, 3) := by decide +kernel
theorem dX5_bookedOn_24 : decode cX5_bookedOn 24 = .ok (.iload_n 2, 1) := by decide +kernel
theorem dX5_bookedOn_25 : decode cX5_bookedOn 25 = .ok (.aload 4, 2) := by decide +kernel
theorem dX5_bookedOn_27 : decode cX5_bookedOn 27 = .ok (.iload_n 1, 1) := by decide +kernel
theorem dX5_bookedOn_28 : decode cX5_bookedOn 28 = .ok (.invokevirtual 228, 3) := by decide +kernel
theorem dX5_bookedOn_31 : decode cX5_bookedOn 31 = .ok (.iadd, 1) := by decide +kernel
theorem dX5_bookedOn_32 : decode cX5_bookedOn 32 = .ok (.istore_n 2, 1) := by decide +kernel
theorem dX5_bookedOn_33 : decode cX5_bookedOn 33 = .ok (.iinc 3 1, 3) := by decide +kernel
theorem dX5_bookedOn_36 : decode cX5_bookedOn 36 = .ok (.goto (-32), 3) := by decide +kernel
theorem dX5_bookedOn_39 : decode cX5_bookedOn 39 = .ok (.iload_n 2, 1) := by decide +kernel
theorem dX5_bookedOn_40 : decode cX5_bookedOn 40 = .ok (.ireturn, 1) := by decide +kernel
set_option maxRecDepth 20000 in
theorem ggX5_leftOn_X5_seatsOf : GoodIn wsX5_leftOn wsX5_seatsOf := goodIn_r _ [9, 10, 29, 30, 31, 32, 33, 34, 35, 36, 37, 38, 39, 40, 41, 42] (by decide +kernel) (by decide +kernel)
set_option maxRecDepth 20000 in
theorem gX5_leftOn_X5_seatsOf : GoodIn wsX5_leftOn (wsV RX5 225 RX5 yX5_seatsOf wsX5_seatsOf) := goodIn_app (goodIn_of _ (by decide +kernel)) ggX5_leftOn_X5_seatsOf
set_option maxRecDepth 20000 in
theorem ggX5_leftOn_X5_bookedOn : GoodIn wsX5_leftOn wsX5_bookedOn := goodIn_r _ [14, 15, 16, 17, 18, 8, 19, 20, 21, 22, 23, 24, 25, 26, 27, 28, 29, 30, 31, 32, 33, 34, 35, 36, 37, 38, 39, 40, 41, 42, 43, 44, 45, 46, 47] (by decide +kernel) (by decide +kernel)
set_option maxRecDepth 20000 in
theorem gX5_leftOn_X5_bookedOn : GoodIn wsX5_leftOn (wsV RX5 191 RX5 yX5_bookedOn wsX5_bookedOn) := goodIn_app (goodIn_of _ (by decide +kernel)) ggX5_leftOn_X5_bookedOn
theorem dX5_leftOn_0 : decode cX5_leftOn 0 = .ok (.iconst 0, 1) := by decide +kernel
theorem dX5_leftOn_1 : decode cX5_leftOn 1 = .ok (.aload_n 0, 1) := by decide +kernel
theorem dX5_leftOn_2 : decode cX5_leftOn 2 = .ok (.iload_n 1, 1) := by decide +kernel
theorem dX5_leftOn_3 : decode cX5_leftOn 3 = .ok (.invokevirtual 225, 3) := by decide +kernel
theorem dX5_leftOn_6 : decode cX5_leftOn 6 = .ok (.aload_n 0, 1) := by decide +kernel
theorem dX5_leftOn_7 : decode cX5_leftOn 7 = .ok (.iload_n 1, 1) := by decide +kernel
theorem dX5_leftOn_8 : decode cX5_leftOn 8 = .ok (.invokevirtual 191, 3) := by decide +kernel
theorem dX5_leftOn_11 : decode cX5_leftOn 11 = .ok (.isub, 1) := by decide +kernel
theorem dX5_leftOn_12 : decode cX5_leftOn 12 = .ok (.invokestatic 231, 3) := by decide +kernel
theorem dX5_leftOn_15 : decode cX5_leftOn 15 = .ok (.ireturn, 1) := by decide +kernel
set_option maxRecDepth 20000 in
theorem ggX5_hasLeft_X5_leftOn : GoodIn wsX5_hasLeft wsX5_leftOn := goodIn_r _ [5, 6, 7, 8, 9, 10, 11, 12, 4, 13, 14, 15, 16, 17, 18, 19, 20, 21, 22, 23, 24, 25, 26, 27, 28, 29, 30, 31, 32, 33, 34, 35, 36, 37, 38, 39, 40, 41, 42, 43, 44, 45, 46, 47, 48, 49, 50, 51] (by decide +kernel) (by decide +kernel)
set_option maxRecDepth 20000 in
theorem gX5_hasLeft_X5_leftOn : GoodIn wsX5_hasLeft (wsV RX5 205 RX5 yX5_leftOn wsX5_leftOn) := goodIn_app (goodIn_of _ (by decide +kernel)) ggX5_hasLeft_X5_leftOn
theorem dX5_hasLeft_0 : decode cX5_hasLeft 0 = .ok (.iload_n 1, 1) := by decide +kernel
theorem dX5_hasLeft_1 : decode cX5_hasLeft 1 = .ok (.istore 4, 2) := by decide +kernel
theorem dX5_hasLeft_3 : decode cX5_hasLeft 3 = .ok (.iload 4, 2) := by decide +kernel
theorem dX5_hasLeft_5 : decode cX5_hasLeft 5 = .ok (.iload_n 2, 1) := by decide +kernel
theorem dX5_hasLeft_6 : decode cX5_hasLeft 6 = .ok (.if_icmp .gt 21, 3) := by decide +kernel
theorem dX5_hasLeft_9 : decode cX5_hasLeft 9 = .ok (.aload_n 0, 1) := by decide +kernel
theorem dX5_hasLeft_10 : decode cX5_hasLeft 10 = .ok (.iload 4, 2) := by decide +kernel
theorem dX5_hasLeft_12 : decode cX5_hasLeft 12 = .ok (.invokevirtual 205, 3) := by decide +kernel
theorem dX5_hasLeft_15 : decode cX5_hasLeft 15 = .ok (.iload_n 3, 1) := by decide +kernel
theorem dX5_hasLeft_16 : decode cX5_hasLeft 16 = .ok (.if_icmp .ge 5, 3) := by decide +kernel
theorem dX5_hasLeft_19 : decode cX5_hasLeft 19 = .ok (.iconst 0, 1) := by decide +kernel
theorem dX5_hasLeft_20 : decode cX5_hasLeft 20 = .ok (.ireturn, 1) := by decide +kernel
theorem dX5_hasLeft_21 : decode cX5_hasLeft 21 = .ok (.iinc 4 1, 3) := by decide +kernel
theorem dX5_hasLeft_24 : decode cX5_hasLeft 24 = .ok (.goto (-21), 3) := by decide +kernel
theorem dX5_hasLeft_27 : decode cX5_hasLeft 27 = .ok (.iconst 1, 1) := by decide +kernel
theorem dX5_hasLeft_28 : decode cX5_hasLeft 28 = .ok (.ireturn, 1) := by decide +kernel
set_option maxRecDepth 20000 in
theorem ggX5_deniedOn_X5_bookedOn : GoodIn wsX5_deniedOn wsX5_bookedOn := goodIn_r _ [9, 10, 11, 12, 13, 8, 14, 15, 16, 17, 18, 19, 20, 21, 22, 23, 29, 30, 31, 32, 33, 34, 35, 36, 37, 38, 39, 40, 41, 42, 43, 44, 45, 46, 47] (by decide +kernel) (by decide +kernel)
set_option maxRecDepth 20000 in
theorem gX5_deniedOn_X5_bookedOn : GoodIn wsX5_deniedOn (wsV RX5 191 RX5 yX5_bookedOn wsX5_bookedOn) := goodIn_app (goodIn_of _ (by decide +kernel)) ggX5_deniedOn_X5_bookedOn
set_option maxRecDepth 20000 in
theorem ggX5_deniedOn_X5_seatsOf : GoodIn wsX5_deniedOn wsX5_seatsOf := goodIn_r _ [27, 28, 29, 30, 31, 32, 33, 34, 35, 36, 37, 38, 39, 40, 41, 42] (by decide +kernel) (by decide +kernel)
set_option maxRecDepth 20000 in
theorem gX5_deniedOn_X5_seatsOf : GoodIn wsX5_deniedOn (wsV RX5 225 RX5 yX5_seatsOf wsX5_seatsOf) := goodIn_app (goodIn_of _ (by decide +kernel)) ggX5_deniedOn_X5_seatsOf
theorem dX5_deniedOn_0 : decode cX5_deniedOn 0 = .ok (.aload_n 0, 1) := by decide +kernel
theorem dX5_deniedOn_1 : decode cX5_deniedOn 1 = .ok (.iload_n 1, 1) := by decide +kernel
theorem dX5_deniedOn_2 : decode cX5_deniedOn 2 = .ok (.invokevirtual 191, 3) := by decide +kernel
theorem dX5_deniedOn_5 : decode cX5_deniedOn 5 = .ok (.iload_n 2, 1) := by decide +kernel
theorem dX5_deniedOn_6 : decode cX5_deniedOn 6 = .ok (.imul, 1) := by decide +kernel
theorem dX5_deniedOn_7 : decode cX5_deniedOn 7 = .ok (.bipush 100, 2) := by decide +kernel
theorem dX5_deniedOn_9 : decode cX5_deniedOn 9 = .ok (.iadd, 1) := by decide +kernel
theorem dX5_deniedOn_10 : decode cX5_deniedOn 10 = .ok (.iconst 1, 1) := by decide +kernel
theorem dX5_deniedOn_11 : decode cX5_deniedOn 11 = .ok (.isub, 1) := by decide +kernel
theorem dX5_deniedOn_12 : decode cX5_deniedOn 12 = .ok (.bipush 100, 2) := by decide +kernel
theorem dX5_deniedOn_14 : decode cX5_deniedOn 14 = .ok (.idiv, 1) := by decide +kernel
theorem dX5_deniedOn_15 : decode cX5_deniedOn 15 = .ok (.istore_n 3, 1) := by decide +kernel
theorem dX5_deniedOn_16 : decode cX5_deniedOn 16 = .ok (.iconst 0, 1) := by decide +kernel
theorem dX5_deniedOn_17 : decode cX5_deniedOn 17 = .ok (.iload_n 3, 1) := by decide +kernel
theorem dX5_deniedOn_18 : decode cX5_deniedOn 18 = .ok (.aload_n 0, 1) := by decide +kernel
theorem dX5_deniedOn_19 : decode cX5_deniedOn 19 = .ok (.iload_n 1, 1) := by decide +kernel
theorem dX5_deniedOn_20 : decode cX5_deniedOn 20 = .ok (.invokevirtual 225, 3) := by decide +kernel
theorem dX5_deniedOn_23 : decode cX5_deniedOn 23 = .ok (.isub, 1) := by decide +kernel
theorem dX5_deniedOn_24 : decode cX5_deniedOn 24 = .ok (.invokestatic 231, 3) := by decide +kernel
theorem dX5_deniedOn_27 : decode cX5_deniedOn 27 = .ok (.ireturn, 1) := by decide +kernel
theorem dX5_productAt_0 : decode cX5_productAt 0 = .ok (.iload_n 1, 1) := by decide +kernel
theorem dX5_productAt_1 : decode cX5_productAt 1 = .ok (.ifCond .lt 21, 3) := by decide +kernel
theorem dX5_productAt_4 : decode cX5_productAt 4 = .ok (.iload_n 1, 1) := by decide +kernel
theorem dX5_productAt_5 : decode cX5_productAt 5 = .ok (.aload_n 0, 1) := by decide +kernel
theorem dX5_productAt_6 : decode cX5_productAt 6 = .ok (.getfield 15, 3) := by decide +kernel
theorem dX5_productAt_9 : decode cX5_productAt 9 = .ok (.arraylength, 1) := by decide +kernel
theorem dX5_productAt_10 : decode cX5_productAt 10 = .ok (.if_icmp .ge 12, 3) := by decide +kernel
theorem dX5_productAt_13 : decode cX5_productAt 13 = .ok (.aload_n 0, 1) := by decide +kernel
theorem dX5_productAt_14 : decode cX5_productAt 14 = .ok (.getfield 15, 3) := by decide +kernel
theorem dX5_productAt_17 : decode cX5_productAt 17 = .ok (.iload_n 1, 1) := by decide +kernel
theorem dX5_productAt_18 : decode cX5_productAt 18 = .ok (.aaload, 1) := by decide +kernel
theorem dX5_productAt_19 : decode cX5_productAt 19 = .ok (.goto 4, 3) := by decide +kernel
theorem dX5_productAt_22 : decode cX5_productAt 22 = .ok (.aconst_null, 1) := by decide +kernel
theorem dX5_productAt_23 : decode cX5_productAt 23 = .ok (.areturn, 1) := by decide +kernel
theorem dX5_isOffered_0 : decode cX5_isOffered 0 = .ok (.aload_n 0, 1) := by decide +kernel
theorem dX5_isOffered_1 : decode cX5_isOffered 1 = .ok (.getfield 15, 3) := by decide +kernel
theorem dX5_isOffered_4 : decode cX5_isOffered 4 = .ok (.astore 4, 2) := by decide +kernel
theorem dX5_isOffered_6 : decode cX5_isOffered 6 = .ok (.aload 4, 2) := by decide +kernel
theorem dX5_isOffered_8 : decode cX5_isOffered 8 = .ok (.arraylength, 1) := by decide +kernel
theorem dX5_isOffered_9 : decode cX5_isOffered 9 = .ok (.istore 5, 2) := by decide +kernel
theorem dX5_isOffered_11 : decode cX5_isOffered 11 = .ok (.iconst 0, 1) := by decide +kernel
theorem dX5_isOffered_12 : decode cX5_isOffered 12 = .ok (.istore 6, 2) := by decide +kernel
theorem dX5_isOffered_14 : decode cX5_isOffered 14 = .ok (.iload 6, 2) := by decide +kernel
theorem dX5_isOffered_16 : decode cX5_isOffered 16 = .ok (.iload 5, 2) := by decide +kernel
theorem dX5_isOffered_18 : decode cX5_isOffered 18 = .ok (.if_icmp .ge 50, 3) := by decide +kernel
theorem dX5_isOffered_21 : decode cX5_isOffered 21 = .ok (.aload 4, 2) := by decide +kernel
theorem dX5_isOffered_23 : decode cX5_isOffered 23 = .ok (.iload 6, 2) := by decide +kernel
theorem dX5_isOffered_25 : decode cX5_isOffered 25 = .ok (.aaload, 1) := by decide +kernel
theorem dX5_isOffered_26 : decode cX5_isOffered 26 = .ok (.astore 7, 2) := by decide +kernel
theorem dX5_isOffered_28 : decode cX5_isOffered 28 = .ok (.aload 7, 2) := by decide +kernel
theorem dX5_isOffered_30 : decode cX5_isOffered 30 = .ok (.ifnull 32, 3) := by decide +kernel
theorem dX5_isOffered_33 : decode cX5_isOffered 33 = .ok (.aload 7, 2) := by decide +kernel
theorem dX5_isOffered_35 : decode cX5_isOffered 35 = .ok (.getfield 141, 3) := by decide +kernel
theorem dX5_isOffered_38 : decode cX5_isOffered 38 = .ok (.iload_n 1, 1) := by decide +kernel
theorem dX5_isOffered_39 : decode cX5_isOffered 39 = .ok (.if_icmp .ne 23, 3) := by decide +kernel
theorem dX5_isOffered_42 : decode cX5_isOffered 42 = .ok (.aload 7, 2) := by decide +kernel
theorem dX5_isOffered_44 : decode cX5_isOffered 44 = .ok (.getfield 144, 3) := by decide +kernel
theorem dX5_isOffered_47 : decode cX5_isOffered 47 = .ok (.iload_n 2, 1) := by decide +kernel
theorem dX5_isOffered_48 : decode cX5_isOffered 48 = .ok (.if_icmp .ne 14, 3) := by decide +kernel
theorem dX5_isOffered_51 : decode cX5_isOffered 51 = .ok (.aload 7, 2) := by decide +kernel
theorem dX5_isOffered_53 : decode cX5_isOffered 53 = .ok (.getfield 138, 3) := by decide +kernel
theorem dX5_isOffered_56 : decode cX5_isOffered 56 = .ok (.iload_n 3, 1) := by decide +kernel
theorem dX5_isOffered_57 : decode cX5_isOffered 57 = .ok (.if_icmp .ne 5, 3) := by decide +kernel
theorem dX5_isOffered_60 : decode cX5_isOffered 60 = .ok (.iconst 1, 1) := by decide +kernel
theorem dX5_isOffered_61 : decode cX5_isOffered 61 = .ok (.ireturn, 1) := by decide +kernel
theorem dX5_isOffered_62 : decode cX5_isOffered 62 = .ok (.iinc 6 1, 3) := by decide +kernel
theorem dX5_isOffered_65 : decode cX5_isOffered 65 = .ok (.goto (-51), 3) := by decide +kernel
theorem dX5_isOffered_68 : decode cX5_isOffered 68 = .ok (.iconst 0, 1) := by decide +kernel
theorem dX5_isOffered_69 : decode cX5_isOffered 69 = .ok (.ireturn, 1) := by decide +kernel
theorem dX5_offer_0 : decode cX5_offer 0 = .ok (.aload_n 0, 1) := by decide +kernel
theorem dX5_offer_1 : decode cX5_offer 1 = .ok (.getfield 42, 3) := by decide +kernel
theorem dX5_offer_4 : decode cX5_offer 4 = .ok (.istore_n 2, 1) := by decide +kernel
theorem dX5_offer_5 : decode cX5_offer 5 = .ok (.iload_n 2, 1) := by decide +kernel
theorem dX5_offer_6 : decode cX5_offer 6 = .ok (.ifCond .lt 21, 3) := by decide +kernel
theorem dX5_offer_9 : decode cX5_offer 9 = .ok (.iload_n 2, 1) := by decide +kernel
theorem dX5_offer_10 : decode cX5_offer 10 = .ok (.aload_n 0, 1) := by decide +kernel
theorem dX5_offer_11 : decode cX5_offer 11 = .ok (.getfield 15, 3) := by decide +kernel
theorem dX5_offer_14 : decode cX5_offer 14 = .ok (.arraylength, 1) := by decide +kernel
theorem dX5_offer_15 : decode cX5_offer 15 = .ok (.if_icmp .ge 12, 3) := by decide +kernel
theorem dX5_offer_18 : decode cX5_offer 18 = .ok (.iload_n 2, 1) := by decide +kernel
theorem dX5_offer_19 : decode cX5_offer 19 = .ok (.aload_n 0, 1) := by decide +kernel
theorem dX5_offer_20 : decode cX5_offer 20 = .ok (.getfield 19, 3) := by decide +kernel
theorem dX5_offer_23 : decode cX5_offer 23 = .ok (.arraylength, 1) := by decide +kernel
theorem dX5_offer_24 : decode cX5_offer 24 = .ok (.if_icmp .lt 4, 3) := by decide +kernel
theorem dX5_offer_27 : decode cX5_offer 27 = .ok (.return_, 1) := by decide +kernel
theorem dX5_offer_28 : decode cX5_offer 28 = .ok (.aload_n 0, 1) := by decide +kernel
theorem dX5_offer_29 : decode cX5_offer 29 = .ok (.getfield 15, 3) := by decide +kernel
theorem dX5_offer_32 : decode cX5_offer 32 = .ok (.iload_n 2, 1) := by decide +kernel
theorem dX5_offer_33 : decode cX5_offer 33 = .ok (.aload_n 1, 1) := by decide +kernel
theorem dX5_offer_34 : decode cX5_offer 34 = .ok (.aastore, 1) := by decide +kernel
theorem dX5_offer_35 : decode cX5_offer 35 = .ok (.aload_n 0, 1) := by decide +kernel
theorem dX5_offer_36 : decode cX5_offer 36 = .ok (.dup, 1) := by decide +kernel
theorem dX5_offer_37 : decode cX5_offer 37 = .ok (.getfield 42, 3) := by decide +kernel
theorem dX5_offer_40 : decode cX5_offer 40 = .ok (.iconst 1, 1) := by decide +kernel
theorem dX5_offer_41 : decode cX5_offer 41 = .ok (.iadd, 1) := by decide +kernel
theorem dX5_offer_42 : decode cX5_offer 42 = .ok (.putfield 42, 3) := by decide +kernel
theorem dX5_offer_45 : decode cX5_offer 45 = .ok (.iload_n 2, 1) := by decide +kernel
theorem dX5_offer_46 : decode cX5_offer 46 = .ok (.ifCond .le 52, 3) := by decide +kernel
theorem dX5_offer_49 : decode cX5_offer 49 = .ok (.aload_n 0, 1) := by decide +kernel
theorem dX5_offer_50 : decode cX5_offer 50 = .ok (.getfield 19, 3) := by decide +kernel
theorem dX5_offer_53 : decode cX5_offer 53 = .ok (.iload_n 2, 1) := by decide +kernel
theorem dX5_offer_54 : decode cX5_offer 54 = .ok (.iconst 1, 1) := by decide +kernel
theorem dX5_offer_55 : decode cX5_offer 55 = .ok (.isub, 1) := by decide +kernel
theorem dX5_offer_56 : decode cX5_offer 56 = .ok (.aaload, 1) := by decide +kernel
theorem dX5_offer_57 : decode cX5_offer 57 = .ok (.ifnull 41, 3) := by decide +kernel
theorem dX5_offer_60 : decode cX5_offer 60 = .ok (.aload_n 0, 1) := by decide +kernel
theorem dX5_offer_61 : decode cX5_offer 61 = .ok (.getfield 19, 3) := by decide +kernel
theorem dX5_offer_64 : decode cX5_offer 64 = .ok (.iload_n 2, 1) := by decide +kernel
theorem dX5_offer_65 : decode cX5_offer 65 = .ok (.iconst 1, 1) := by decide +kernel
theorem dX5_offer_66 : decode cX5_offer 66 = .ok (.isub, 1) := by decide +kernel
theorem dX5_offer_67 : decode cX5_offer 67 = .ok (.aaload, 1) := by decide +kernel
theorem dX5_offer_68 : decode cX5_offer 68 = .ok (.getfield 138, 3) := by decide +kernel
theorem dX5_offer_71 : decode cX5_offer 71 = .ok (.aload_n 1, 1) := by decide +kernel
theorem dX5_offer_72 : decode cX5_offer 72 = .ok (.getfield 138, 3) := by decide +kernel
theorem dX5_offer_75 : decode cX5_offer 75 = .ok (.if_icmp .ge 23, 3) := by decide +kernel
theorem dX5_offer_78 : decode cX5_offer 78 = .ok (.aload_n 0, 1) := by decide +kernel
theorem dX5_offer_79 : decode cX5_offer 79 = .ok (.getfield 19, 3) := by decide +kernel
theorem dX5_offer_82 : decode cX5_offer 82 = .ok (.iload_n 2, 1) := by decide +kernel
theorem dX5_offer_83 : decode cX5_offer 83 = .ok (.aload_n 0, 1) := by decide +kernel
theorem dX5_offer_84 : decode cX5_offer 84 = .ok (.getfield 19, 3) := by decide +kernel
theorem dX5_offer_87 : decode cX5_offer 87 = .ok (.iload_n 2, 1) := by decide +kernel
theorem dX5_offer_88 : decode cX5_offer 88 = .ok (.iconst 1, 1) := by decide +kernel
theorem dX5_offer_89 : decode cX5_offer 89 = .ok (.isub, 1) := by decide +kernel
theorem dX5_offer_90 : decode cX5_offer 90 = .ok (.aaload, 1) := by decide +kernel
theorem dX5_offer_91 : decode cX5_offer 91 = .ok (.aastore, 1) := by decide +kernel
theorem dX5_offer_92 : decode cX5_offer 92 = .ok (.iinc 2 (-1), 3) := by decide +kernel
theorem dX5_offer_95 : decode cX5_offer 95 = .ok (.goto (-50), 3) := by decide +kernel
theorem dX5_offer_98 : decode cX5_offer 98 = .ok (.aload_n 0, 1) := by decide +kernel
theorem dX5_offer_99 : decode cX5_offer 99 = .ok (.getfield 19, 3) := by decide +kernel
theorem dX5_offer_102 : decode cX5_offer 102 = .ok (.iload_n 2, 1) := by decide +kernel
theorem dX5_offer_103 : decode cX5_offer 103 = .ok (.aload_n 1, 1) := by decide +kernel
theorem dX5_offer_104 : decode cX5_offer 104 = .ok (.aastore, 1) := by decide +kernel
theorem dX5_offer_105 : decode cX5_offer 105 = .ok (.return_, 1) := by decide +kernel
set_option maxRecDepth 20000 in
theorem ggX5_protectedOn_X2_covers : GoodIn wsX5_protectedOn wsX2_covers := goodIn_r _ [6, 7, 8, 28, 29, 30, 31, 32, 33, 34] (by decide +kernel) (by decide +kernel)
set_option maxRecDepth 20000 in
theorem gX5_protectedOn_X2_covers_n236 : GoodIn wsX5_protectedOn (wsX2_covers) := ggX5_protectedOn_X2_covers
set_option maxRecDepth 20000 in
theorem ggX5_protectedOn_X2_protectedAgainst : GoodIn wsX5_protectedOn wsX2_protectedAgainst := goodIn_r _ [11, 12, 13, 28, 29, 30, 31, 32, 33, 34] (by decide +kernel) (by decide +kernel)
set_option maxRecDepth 20000 in
theorem gX5_protectedOn_X2_protectedAgainst_n239 : GoodIn wsX5_protectedOn (wsX2_protectedAgainst) := ggX5_protectedOn_X2_protectedAgainst
theorem dX5_protectedOn_0 : decode cX5_protectedOn 0 = .ok (.iconst 0, 1) := by decide +kernel
theorem dX5_protectedOn_1 : decode cX5_protectedOn 1 = .ok (.istore_n 3, 1) := by decide +kernel
theorem dX5_protectedOn_2 : decode cX5_protectedOn 2 = .ok (.aload_n 0, 1) := by decide +kernel
theorem dX5_protectedOn_3 : decode cX5_protectedOn 3 = .ok (.getfield 15, 3) := by decide +kernel
theorem dX5_protectedOn_6 : decode cX5_protectedOn 6 = .ok (.astore 4, 2) := by decide +kernel
theorem dX5_protectedOn_8 : decode cX5_protectedOn 8 = .ok (.aload 4, 2) := by decide +kernel
theorem dX5_protectedOn_10 : decode cX5_protectedOn 10 = .ok (.arraylength, 1) := by decide +kernel
theorem dX5_protectedOn_11 : decode cX5_protectedOn 11 = .ok (.istore 5, 2) := by decide +kernel
theorem dX5_protectedOn_13 : decode cX5_protectedOn 13 = .ok (.iconst 0, 1) := by decide +kernel
theorem dX5_protectedOn_14 : decode cX5_protectedOn 14 = .ok (.istore 6, 2) := by decide +kernel
theorem dX5_protectedOn_16 : decode cX5_protectedOn 16 = .ok (.iload 6, 2) := by decide +kernel
theorem dX5_protectedOn_18 : decode cX5_protectedOn 18 = .ok (.iload 5, 2) := by decide +kernel
theorem dX5_protectedOn_20 : decode cX5_protectedOn 20 = .ok (.if_icmp .ge 52, 3) := by decide +kernel
theorem dX5_protectedOn_23 : decode cX5_protectedOn 23 = .ok (.aload 4, 2) := by decide +kernel
theorem dX5_protectedOn_25 : decode cX5_protectedOn 25 = .ok (.iload 6, 2) := by decide +kernel
theorem dX5_protectedOn_27 : decode cX5_protectedOn 27 = .ok (.aaload, 1) := by decide +kernel
theorem dX5_protectedOn_28 : decode cX5_protectedOn 28 = .ok (.astore 7, 2) := by decide +kernel
theorem dX5_protectedOn_30 : decode cX5_protectedOn 30 = .ok (.aload 7, 2) := by decide +kernel
theorem dX5_protectedOn_32 : decode cX5_protectedOn 32 = .ok (.ifnull 34, 3) := by decide +kernel
theorem dX5_protectedOn_35 : decode cX5_protectedOn 35 = .ok (.aload 7, 2) := by decide +kernel
theorem dX5_protectedOn_37 : decode cX5_protectedOn 37 = .ok (.iload_n 1, 1) := by decide +kernel
theorem dX5_protectedOn_38 : decode cX5_protectedOn 38 = .ok (.invokevirtual 236, 3) := by decide +kernel
theorem dX5_protectedOn_41 : decode cX5_protectedOn 41 = .ok (.ifCond .eq 25, 3) := by decide +kernel
theorem dX5_protectedOn_44 : decode cX5_protectedOn 44 = .ok (.aload 7, 2) := by decide +kernel
theorem dX5_protectedOn_46 : decode cX5_protectedOn 46 = .ok (.getfield 138, 3) := by decide +kernel
theorem dX5_protectedOn_49 : decode cX5_protectedOn 49 = .ok (.iload_n 2, 1) := by decide +kernel
theorem dX5_protectedOn_50 : decode cX5_protectedOn 50 = .ok (.if_icmp .le 16, 3) := by decide +kernel
theorem dX5_protectedOn_53 : decode cX5_protectedOn 53 = .ok (.iload_n 3, 1) := by decide +kernel
theorem dX5_protectedOn_54 : decode cX5_protectedOn 54 = .ok (.aload 7, 2) := by decide +kernel
theorem dX5_protectedOn_56 : decode cX5_protectedOn 56 = .ok (.iload_n 2, 1) := by decide +kernel
theorem dX5_protectedOn_57 : decode cX5_protectedOn 57 = .ok (.aload_n 0, 1) := by decide +kernel
theorem dX5_protectedOn_58 : decode cX5_protectedOn 58 = .ok (.getfield 49, 3) := by decide +kernel
theorem dX5_protectedOn_61 : decode cX5_protectedOn 61 = .ok (.invokevirtual 239, 3) := by decide +kernel
theorem dX5_protectedOn_64 : decode cX5_protectedOn 64 = .ok (.iadd, 1) := by decide +kernel
theorem dX5_protectedOn_65 : decode cX5_protectedOn 65 = .ok (.istore_n 3, 1) := by decide +kernel
theorem dX5_protectedOn_66 : decode cX5_protectedOn 66 = .ok (.iinc 6 1, 3) := by decide +kernel
theorem dX5_protectedOn_69 : decode cX5_protectedOn 69 = .ok (.goto (-53), 3) := by decide +kernel
theorem dX5_protectedOn_72 : decode cX5_protectedOn 72 = .ok (.iload_n 3, 1) := by decide +kernel
theorem dX5_protectedOn_73 : decode cX5_protectedOn 73 = .ok (.ireturn, 1) := by decide +kernel
set_option maxRecDepth 20000 in
theorem ggX5_learn_X2_learn : GoodIn wsX5_learn wsX2_learn := goodIn_r _ [6, 7, 8, 9, 10, 11, 12, 13, 14, 29, 30, 31, 32, 33, 34, 35] (by decide +kernel) (by decide +kernel)
set_option maxRecDepth 20000 in
theorem gX5_learn_X2_learn_n242 : GoodIn wsX5_learn (wsX2_learn) := ggX5_learn_X2_learn
theorem dX5_learn_0 : decode cX5_learn 0 = .ok (.aload_n 0, 1) := by decide +kernel
theorem dX5_learn_1 : decode cX5_learn 1 = .ok (.dup, 1) := by decide +kernel
theorem dX5_learn_2 : decode cX5_learn 2 = .ok (.getfield 49, 3) := by decide +kernel
theorem dX5_learn_5 : decode cX5_learn 5 = .ok (.iconst 1, 1) := by decide +kernel
theorem dX5_learn_6 : decode cX5_learn 6 = .ok (.iadd, 1) := by decide +kernel
theorem dX5_learn_7 : decode cX5_learn 7 = .ok (.putfield 49, 3) := by decide +kernel
theorem dX5_learn_10 : decode cX5_learn 10 = .ok (.aload_n 0, 1) := by decide +kernel
theorem dX5_learn_11 : decode cX5_learn 11 = .ok (.getfield 15, 3) := by decide +kernel
theorem dX5_learn_14 : decode cX5_learn 14 = .ok (.astore_n 1, 1) := by decide +kernel
theorem dX5_learn_15 : decode cX5_learn 15 = .ok (.aload_n 1, 1) := by decide +kernel
theorem dX5_learn_16 : decode cX5_learn 16 = .ok (.arraylength, 1) := by decide +kernel
theorem dX5_learn_17 : decode cX5_learn 17 = .ok (.istore_n 2, 1) := by decide +kernel
theorem dX5_learn_18 : decode cX5_learn 18 = .ok (.iconst 0, 1) := by decide +kernel
theorem dX5_learn_19 : decode cX5_learn 19 = .ok (.istore_n 3, 1) := by decide +kernel
theorem dX5_learn_20 : decode cX5_learn 20 = .ok (.iload_n 3, 1) := by decide +kernel
theorem dX5_learn_21 : decode cX5_learn 21 = .ok (.iload_n 2, 1) := by decide +kernel
theorem dX5_learn_22 : decode cX5_learn 22 = .ok (.if_icmp .ge 28, 3) := by decide +kernel
theorem dX5_learn_25 : decode cX5_learn 25 = .ok (.aload_n 1, 1) := by decide +kernel
theorem dX5_learn_26 : decode cX5_learn 26 = .ok (.iload_n 3, 1) := by decide +kernel
theorem dX5_learn_27 : decode cX5_learn 27 = .ok (.aaload, 1) := by decide +kernel
theorem dX5_learn_28 : decode cX5_learn 28 = .ok (.astore 4, 2) := by decide +kernel
theorem dX5_learn_30 : decode cX5_learn 30 = .ok (.aload 4, 2) := by decide +kernel
theorem dX5_learn_32 : decode cX5_learn 32 = .ok (.ifnull 12, 3) := by decide +kernel
theorem dX5_learn_35 : decode cX5_learn 35 = .ok (.aload 4, 2) := by decide +kernel
theorem dX5_learn_37 : decode cX5_learn 37 = .ok (.aload_n 0, 1) := by decide +kernel
theorem dX5_learn_38 : decode cX5_learn 38 = .ok (.getfield 49, 3) := by decide +kernel
theorem dX5_learn_41 : decode cX5_learn 41 = .ok (.invokevirtual 242, 3) := by decide +kernel
theorem dX5_learn_44 : decode cX5_learn 44 = .ok (.iinc 3 1, 3) := by decide +kernel
theorem dX5_learn_47 : decode cX5_learn 47 = .ok (.goto (-27), 3) := by decide +kernel
theorem dX5_learn_50 : decode cX5_learn 50 = .ok (.return_, 1) := by decide +kernel
set_option maxRecDepth 20000 in
theorem ggX5_isFull_X5_bookedOn : GoodIn wsX5_isFull wsX5_bookedOn := goodIn_r _ [5, 6, 7, 8, 9, 4, 10, 11, 12, 13, 14, 15, 16, 17, 18, 19, 37, 38, 39, 40, 41, 42, 43, 44, 45, 46, 47, 48, 49, 50, 51, 52, 53, 54, 55] (by decide +kernel) (by decide +kernel)
set_option maxRecDepth 20000 in
theorem gX5_isFull_X5_bookedOn : GoodIn wsX5_isFull (wsV RX5 191 RX5 yX5_bookedOn wsX5_bookedOn) := goodIn_app (goodIn_of _ (by decide +kernel)) ggX5_isFull_X5_bookedOn
set_option maxRecDepth 20000 in
theorem ggX5_isFull_X5_authorisedOn : GoodIn wsX5_isFull wsX5_authorisedOn := goodIn_r _ [23, 24, 25, 26, 27, 4, 28, 29, 37, 38, 39, 40, 41, 42, 43, 44, 45, 46, 47, 48, 49, 50] (by decide +kernel) (by decide +kernel)
set_option maxRecDepth 20000 in
theorem gX5_isFull_X5_authorisedOn : GoodIn wsX5_isFull (wsV RX5 194 RX5 yX5_authorisedOn wsX5_authorisedOn) := goodIn_app (goodIn_of _ (by decide +kernel)) ggX5_isFull_X5_authorisedOn
theorem dX5_isFull_0 : decode cX5_isFull 0 = .ok (.aload_n 1, 1) := by decide +kernel
theorem dX5_isFull_1 : decode cX5_isFull 1 = .ok (.getfield 141, 3) := by decide +kernel
theorem dX5_isFull_4 : decode cX5_isFull 4 = .ok (.istore_n 2, 1) := by decide +kernel
theorem dX5_isFull_5 : decode cX5_isFull 5 = .ok (.iload_n 2, 1) := by decide +kernel
theorem dX5_isFull_6 : decode cX5_isFull 6 = .ok (.aload_n 1, 1) := by decide +kernel
theorem dX5_isFull_7 : decode cX5_isFull 7 = .ok (.getfield 144, 3) := by decide +kernel
theorem dX5_isFull_10 : decode cX5_isFull 10 = .ok (.if_icmp .gt 24, 3) := by decide +kernel
theorem dX5_isFull_13 : decode cX5_isFull 13 = .ok (.aload_n 0, 1) := by decide +kernel
theorem dX5_isFull_14 : decode cX5_isFull 14 = .ok (.iload_n 2, 1) := by decide +kernel
theorem dX5_isFull_15 : decode cX5_isFull 15 = .ok (.invokevirtual 191, 3) := by decide +kernel
theorem dX5_isFull_18 : decode cX5_isFull 18 = .ok (.aload_n 0, 1) := by decide +kernel
theorem dX5_isFull_19 : decode cX5_isFull 19 = .ok (.iload_n 2, 1) := by decide +kernel
theorem dX5_isFull_20 : decode cX5_isFull 20 = .ok (.invokevirtual 194, 3) := by decide +kernel
theorem dX5_isFull_23 : decode cX5_isFull 23 = .ok (.if_icmp .lt 5, 3) := by decide +kernel
theorem dX5_isFull_26 : decode cX5_isFull 26 = .ok (.iconst 1, 1) := by decide +kernel
theorem dX5_isFull_27 : decode cX5_isFull 27 = .ok (.ireturn, 1) := by decide +kernel
theorem dX5_isFull_28 : decode cX5_isFull 28 = .ok (.iinc 2 1, 3) := by decide +kernel
theorem dX5_isFull_31 : decode cX5_isFull 31 = .ok (.goto (-26), 3) := by decide +kernel
theorem dX5_isFull_34 : decode cX5_isFull 34 = .ok (.iconst 0, 1) := by decide +kernel
theorem dX5_isFull_35 : decode cX5_isFull 35 = .ok (.ireturn, 1) := by decide +kernel
set_option maxRecDepth 20000 in
theorem ggX5_isProtected_X5_authorisedOn : GoodIn wsX5_isProtected wsX5_authorisedOn := goodIn_r _ [5, 6, 7, 8, 9, 4, 10, 11, 54, 55, 56, 57, 58, 59, 60, 61, 62, 63, 64, 65, 66, 67] (by decide +kernel) (by decide +kernel)
set_option maxRecDepth 20000 in
theorem gX5_isProtected_X5_authorisedOn : GoodIn wsX5_isProtected (wsV RX5 194 RX5 yX5_authorisedOn wsX5_authorisedOn) := goodIn_app (goodIn_of _ (by decide +kernel)) ggX5_isProtected_X5_authorisedOn
set_option maxRecDepth 20000 in
theorem ggX5_isProtected_X5_bookedOn : GoodIn wsX5_isProtected wsX5_bookedOn := goodIn_r _ [15, 16, 17, 18, 19, 4, 20, 21, 22, 23, 24, 25, 26, 27, 28, 29, 54, 55, 56, 57, 58, 59, 60, 61, 62, 63, 64, 65, 66, 67, 68, 69, 70, 71, 72] (by decide +kernel) (by decide +kernel)
set_option maxRecDepth 20000 in
theorem gX5_isProtected_X5_bookedOn : GoodIn wsX5_isProtected (wsV RX5 191 RX5 yX5_bookedOn wsX5_bookedOn) := goodIn_app (goodIn_of _ (by decide +kernel)) ggX5_isProtected_X5_bookedOn
set_option maxRecDepth 20000 in
theorem ggX5_isProtected_X5_protectedOn : GoodIn wsX5_isProtected wsX5_protectedOn := goodIn_r _ [33, 34, 35, 36, 37, 38, 39, 40, 41, 42, 43, 44, 45, 46, 54, 55, 56, 57, 58, 59, 60, 61, 62, 63, 64, 65, 66, 67, 47, 48, 49, 50, 51, 52, 53] (by decide +kernel) (by decide +kernel)
set_option maxRecDepth 20000 in
theorem gX5_isProtected_X5_protectedOn : GoodIn wsX5_isProtected (wsV RX5 199 RX5 yX5_protectedOn wsX5_protectedOn) := goodIn_app (goodIn_of _ (by decide +kernel)) ggX5_isProtected_X5_protectedOn
theorem dX5_isProtected_0 : decode cX5_isProtected 0 = .ok (.aload_n 1, 1) := by decide +kernel
theorem dX5_isProtected_1 : decode cX5_isProtected 1 = .ok (.getfield 141, 3) := by decide +kernel
theorem dX5_isProtected_4 : decode cX5_isProtected 4 = .ok (.istore_n 2, 1) := by decide +kernel
theorem dX5_isProtected_5 : decode cX5_isProtected 5 = .ok (.iload_n 2, 1) := by decide +kernel
theorem dX5_isProtected_6 : decode cX5_isProtected 6 = .ok (.aload_n 1, 1) := by decide +kernel
theorem dX5_isProtected_7 : decode cX5_isProtected 7 = .ok (.getfield 144, 3) := by decide +kernel
theorem dX5_isProtected_10 : decode cX5_isProtected 10 = .ok (.if_icmp .gt 35, 3) := by decide +kernel
theorem dX5_isProtected_13 : decode cX5_isProtected 13 = .ok (.aload_n 0, 1) := by decide +kernel
theorem dX5_isProtected_14 : decode cX5_isProtected 14 = .ok (.iload_n 2, 1) := by decide +kernel
theorem dX5_isProtected_15 : decode cX5_isProtected 15 = .ok (.invokevirtual 194, 3) := by decide +kernel
theorem dX5_isProtected_18 : decode cX5_isProtected 18 = .ok (.aload_n 0, 1) := by decide +kernel
theorem dX5_isProtected_19 : decode cX5_isProtected 19 = .ok (.iload_n 2, 1) := by decide +kernel
theorem dX5_isProtected_20 : decode cX5_isProtected 20 = .ok (.invokevirtual 191, 3) := by decide +kernel
theorem dX5_isProtected_23 : decode cX5_isProtected 23 = .ok (.isub, 1) := by decide +kernel
theorem dX5_isProtected_24 : decode cX5_isProtected 24 = .ok (.aload_n 0, 1) := by decide +kernel
theorem dX5_isProtected_25 : decode cX5_isProtected 25 = .ok (.iload_n 2, 1) := by decide +kernel
theorem dX5_isProtected_26 : decode cX5_isProtected 26 = .ok (.aload_n 1, 1) := by decide +kernel
theorem dX5_isProtected_27 : decode cX5_isProtected 27 = .ok (.getfield 138, 3) := by decide +kernel
theorem dX5_isProtected_30 : decode cX5_isProtected 30 = .ok (.invokevirtual 199, 3) := by decide +kernel
theorem dX5_isProtected_33 : decode cX5_isProtected 33 = .ok (.isub, 1) := by decide +kernel
theorem dX5_isProtected_34 : decode cX5_isProtected 34 = .ok (.ifCond .gt 5, 3) := by decide +kernel
theorem dX5_isProtected_37 : decode cX5_isProtected 37 = .ok (.iconst 1, 1) := by decide +kernel
theorem dX5_isProtected_38 : decode cX5_isProtected 38 = .ok (.ireturn, 1) := by decide +kernel
theorem dX5_isProtected_39 : decode cX5_isProtected 39 = .ok (.iinc 2 1, 3) := by decide +kernel
theorem dX5_isProtected_42 : decode cX5_isProtected 42 = .ok (.goto (-37), 3) := by decide +kernel
theorem dX5_isProtected_45 : decode cX5_isProtected 45 = .ok (.iconst 0, 1) := by decide +kernel
theorem dX5_isProtected_46 : decode cX5_isProtected 46 = .ok (.ireturn, 1) := by decide +kernel
theorem dX5_refuse_0 : decode cX5_refuse 0 = .ok (.iload_n 1, 1) := by decide +kernel
theorem dX5_refuse_1 : decode cX5_refuse 1 = .ok (.iconst (-1), 1) := by decide +kernel
theorem dX5_refuse_2 : decode cX5_refuse 2 = .ok (.if_icmp .ne 16, 3) := by decide +kernel
theorem dX5_refuse_5 : decode cX5_refuse 5 = .ok (.aload_n 0, 1) := by decide +kernel
theorem dX5_refuse_6 : decode cX5_refuse 6 = .ok (.dup, 1) := by decide +kernel
theorem dX5_refuse_7 : decode cX5_refuse 7 = .ok (.getfield 55, 3) := by decide +kernel
theorem dX5_refuse_10 : decode cX5_refuse 10 = .ok (.iconst 1, 1) := by decide +kernel
theorem dX5_refuse_11 : decode cX5_refuse 11 = .ok (.iadd, 1) := by decide +kernel
theorem dX5_refuse_12 : decode cX5_refuse 12 = .ok (.putfield 55, 3) := by decide +kernel
theorem dX5_refuse_15 : decode cX5_refuse 15 = .ok (.goto 32, 3) := by decide +kernel
theorem dX5_refuse_18 : decode cX5_refuse 18 = .ok (.iload_n 1, 1) := by decide +kernel
theorem dX5_refuse_19 : decode cX5_refuse 19 = .ok (.bipush (-2), 2) := by decide +kernel
theorem dX5_refuse_21 : decode cX5_refuse 21 = .ok (.if_icmp .ne 16, 3) := by decide +kernel
theorem dX5_refuse_24 : decode cX5_refuse 24 = .ok (.aload_n 0, 1) := by decide +kernel
theorem dX5_refuse_25 : decode cX5_refuse 25 = .ok (.dup, 1) := by decide +kernel
theorem dX5_refuse_26 : decode cX5_refuse 26 = .ok (.getfield 58, 3) := by decide +kernel
theorem dX5_refuse_29 : decode cX5_refuse 29 = .ok (.iconst 1, 1) := by decide +kernel
theorem dX5_refuse_30 : decode cX5_refuse 30 = .ok (.iadd, 1) := by decide +kernel
theorem dX5_refuse_31 : decode cX5_refuse 31 = .ok (.putfield 58, 3) := by decide +kernel
theorem dX5_refuse_34 : decode cX5_refuse 34 = .ok (.goto 13, 3) := by decide +kernel
theorem dX5_refuse_37 : decode cX5_refuse 37 = .ok (.aload_n 0, 1) := by decide +kernel
theorem dX5_refuse_38 : decode cX5_refuse 38 = .ok (.dup, 1) := by decide +kernel
theorem dX5_refuse_39 : decode cX5_refuse 39 = .ok (.getfield 61, 3) := by decide +kernel
theorem dX5_refuse_42 : decode cX5_refuse 42 = .ok (.iconst 1, 1) := by decide +kernel
theorem dX5_refuse_43 : decode cX5_refuse 43 = .ok (.iadd, 1) := by decide +kernel
theorem dX5_refuse_44 : decode cX5_refuse 44 = .ok (.putfield 61, 3) := by decide +kernel
theorem dX5_refuse_47 : decode cX5_refuse 47 = .ok (.iload_n 1, 1) := by decide +kernel
theorem dX5_refuse_48 : decode cX5_refuse 48 = .ok (.ireturn, 1) := by decide +kernel
theorem dX5_bookingAt_0 : decode cX5_bookingAt 0 = .ok (.iload_n 1, 1) := by decide +kernel
theorem dX5_bookingAt_1 : decode cX5_bookingAt 1 = .ok (.ifCond .lt 29, 3) := by decide +kernel
theorem dX5_bookingAt_4 : decode cX5_bookingAt 4 = .ok (.iload_n 1, 1) := by decide +kernel
theorem dX5_bookingAt_5 : decode cX5_bookingAt 5 = .ok (.aload_n 0, 1) := by decide +kernel
theorem dX5_bookingAt_6 : decode cX5_bookingAt 6 = .ok (.getfield 46, 3) := by decide +kernel
theorem dX5_bookingAt_9 : decode cX5_bookingAt 9 = .ok (.if_icmp .ge 21, 3) := by decide +kernel
theorem dX5_bookingAt_12 : decode cX5_bookingAt 12 = .ok (.iload_n 1, 1) := by decide +kernel
theorem dX5_bookingAt_13 : decode cX5_bookingAt 13 = .ok (.aload_n 0, 1) := by decide +kernel
theorem dX5_bookingAt_14 : decode cX5_bookingAt 14 = .ok (.getfield 24, 3) := by decide +kernel
theorem dX5_bookingAt_17 : decode cX5_bookingAt 17 = .ok (.arraylength, 1) := by decide +kernel
theorem dX5_bookingAt_18 : decode cX5_bookingAt 18 = .ok (.if_icmp .ge 12, 3) := by decide +kernel
theorem dX5_bookingAt_21 : decode cX5_bookingAt 21 = .ok (.aload_n 0, 1) := by decide +kernel
theorem dX5_bookingAt_22 : decode cX5_bookingAt 22 = .ok (.getfield 24, 3) := by decide +kernel
theorem dX5_bookingAt_25 : decode cX5_bookingAt 25 = .ok (.iload_n 1, 1) := by decide +kernel
theorem dX5_bookingAt_26 : decode cX5_bookingAt 26 = .ok (.aaload, 1) := by decide +kernel
theorem dX5_bookingAt_27 : decode cX5_bookingAt 27 = .ok (.goto 4, 3) := by decide +kernel
theorem dX5_bookingAt_30 : decode cX5_bookingAt 30 = .ok (.aconst_null, 1) := by decide +kernel
theorem dX5_bookingAt_31 : decode cX5_bookingAt 31 = .ok (.areturn, 1) := by decide +kernel
theorem dX5_enter_0 : decode cX5_enter 0 = .ok (.aload_n 0, 1) := by decide +kernel
theorem dX5_enter_1 : decode cX5_enter 1 = .ok (.getfield 46, 3) := by decide +kernel
theorem dX5_enter_4 : decode cX5_enter 4 = .ok (.istore_n 2, 1) := by decide +kernel
theorem dX5_enter_5 : decode cX5_enter 5 = .ok (.iload_n 2, 1) := by decide +kernel
theorem dX5_enter_6 : decode cX5_enter 6 = .ok (.ifCond .lt 29, 3) := by decide +kernel
theorem dX5_enter_9 : decode cX5_enter 9 = .ok (.iload_n 2, 1) := by decide +kernel
theorem dX5_enter_10 : decode cX5_enter 10 = .ok (.aload_n 0, 1) := by decide +kernel
theorem dX5_enter_11 : decode cX5_enter 11 = .ok (.getfield 24, 3) := by decide +kernel
theorem dX5_enter_14 : decode cX5_enter 14 = .ok (.arraylength, 1) := by decide +kernel
theorem dX5_enter_15 : decode cX5_enter 15 = .ok (.if_icmp .ge 20, 3) := by decide +kernel
theorem dX5_enter_18 : decode cX5_enter 18 = .ok (.aload_n 0, 1) := by decide +kernel
theorem dX5_enter_19 : decode cX5_enter 19 = .ok (.getfield 24, 3) := by decide +kernel
theorem dX5_enter_22 : decode cX5_enter 22 = .ok (.iload_n 2, 1) := by decide +kernel
theorem dX5_enter_23 : decode cX5_enter 23 = .ok (.aload_n 1, 1) := by decide +kernel
theorem dX5_enter_24 : decode cX5_enter 24 = .ok (.aastore, 1) := by decide +kernel
theorem dX5_enter_25 : decode cX5_enter 25 = .ok (.aload_n 0, 1) := by decide +kernel
theorem dX5_enter_26 : decode cX5_enter 26 = .ok (.dup, 1) := by decide +kernel
theorem dX5_enter_27 : decode cX5_enter 27 = .ok (.getfield 46, 3) := by decide +kernel
theorem dX5_enter_30 : decode cX5_enter 30 = .ok (.iconst 1, 1) := by decide +kernel
theorem dX5_enter_31 : decode cX5_enter 31 = .ok (.iadd, 1) := by decide +kernel
theorem dX5_enter_32 : decode cX5_enter 32 = .ok (.putfield 46, 3) := by decide +kernel
theorem dX5_enter_35 : decode cX5_enter 35 = .ok (.iload_n 2, 1) := by decide +kernel
theorem dX5_enter_36 : decode cX5_enter 36 = .ok (.ireturn, 1) := by decide +kernel
set_option maxRecDepth 20000 in
theorem ggX5_faresOfToday_X5_bookingAt : GoodIn wsX5_faresOfToday wsX5_bookingAt := goodIn_r _ [6, 1, 7, 8, 9, 10, 11, 12, 13, 14, 15, 16, 17, 18, 19, 20, 21] (by decide +kernel) (by decide +kernel)
set_option maxRecDepth 20000 in
theorem gX5_faresOfToday_X5_bookingAt : GoodIn wsX5_faresOfToday (wsV RX5 165 RX5 yX5_bookingAt wsX5_bookingAt) := goodIn_app (goodIn_of _ (by decide +kernel)) ggX5_faresOfToday_X5_bookingAt
theorem dX5_faresOfToday_0 : decode cX5_faresOfToday 0 = .ok (.iconst 0, 1) := by decide +kernel
theorem dX5_faresOfToday_1 : decode cX5_faresOfToday 1 = .ok (.istore_n 1, 1) := by decide +kernel
theorem dX5_faresOfToday_2 : decode cX5_faresOfToday 2 = .ok (.iconst 0, 1) := by decide +kernel
theorem dX5_faresOfToday_3 : decode cX5_faresOfToday 3 = .ok (.istore_n 2, 1) := by decide +kernel
theorem dX5_faresOfToday_4 : decode cX5_faresOfToday 4 = .ok (.iload_n 2, 1) := by decide +kernel
theorem dX5_faresOfToday_5 : decode cX5_faresOfToday 5 = .ok (.aload_n 0, 1) := by decide +kernel
theorem dX5_faresOfToday_6 : decode cX5_faresOfToday 6 = .ok (.getfield 46, 3) := by decide +kernel
theorem dX5_faresOfToday_9 : decode cX5_faresOfToday 9 = .ok (.if_icmp .ge 33, 3) := by decide +kernel
theorem dX5_faresOfToday_12 : decode cX5_faresOfToday 12 = .ok (.aload_n 0, 1) := by decide +kernel
theorem dX5_faresOfToday_13 : decode cX5_faresOfToday 13 = .ok (.iload_n 2, 1) := by decide +kernel
theorem dX5_faresOfToday_14 : decode cX5_faresOfToday 14 = .ok (.invokevirtual 165, 3) := by decide +kernel
theorem dX5_faresOfToday_17 : decode cX5_faresOfToday 17 = .ok (.astore_n 3, 1) := by decide +kernel
theorem dX5_faresOfToday_18 : decode cX5_faresOfToday 18 = .ok (.aload_n 3, 1) := by decide +kernel
theorem dX5_faresOfToday_19 : decode cX5_faresOfToday 19 = .ok (.ifnull 17, 3) := by decide +kernel
theorem dX5_faresOfToday_22 : decode cX5_faresOfToday 22 = .ok (.aload_n 3, 1) := by decide +kernel
theorem dX5_faresOfToday_23 : decode cX5_faresOfToday 23 = .ok (.getfield 171, 3) := by decide +kernel
theorem dX5_faresOfToday_26 : decode cX5_faresOfToday 26 = .ok (.ifCond .ne 10, 3) := by decide +kernel
theorem dX5_faresOfToday_29 : decode cX5_faresOfToday 29 = .ok (.iload_n 1, 1) := by decide +kernel
theorem dX5_faresOfToday_30 : decode cX5_faresOfToday 30 = .ok (.aload_n 3, 1) := by decide +kernel
theorem dX5_faresOfToday_31 : decode cX5_faresOfToday 31 = .ok (.getfield 245, 3) := by decide +kernel
theorem dX5_faresOfToday_34 : decode cX5_faresOfToday 34 = .ok (.iadd, 1) := by decide +kernel
theorem dX5_faresOfToday_35 : decode cX5_faresOfToday 35 = .ok (.istore_n 1, 1) := by decide +kernel
theorem dX5_faresOfToday_36 : decode cX5_faresOfToday 36 = .ok (.iinc 2 1, 3) := by decide +kernel
theorem dX5_faresOfToday_39 : decode cX5_faresOfToday 39 = .ok (.goto (-35), 3) := by decide +kernel
theorem dX5_faresOfToday_42 : decode cX5_faresOfToday 42 = .ok (.iload_n 1, 1) := by decide +kernel
theorem dX5_faresOfToday_43 : decode cX5_faresOfToday 43 = .ok (.ireturn, 1) := by decide +kernel
set_option maxRecDepth 20000 in
theorem ggX5_worthWithMore_X1_clear : GoodIn wsX5_worthWithMore wsX1_clear := goodIn_r _ [6, 7, 8, 9, 10, 11, 12, 100, 101, 102, 103, 104, 105, 106, 107] (by decide +kernel) (by decide +kernel)
set_option maxRecDepth 20000 in
theorem gX5_worthWithMore_X1_clear_n248 : GoodIn wsX5_worthWithMore (wsX1_clear) := ggX5_worthWithMore_X1_clear
set_option maxRecDepth 20000 in
theorem ggX5_worthWithMore_X1_add : GoodIn wsX5_worthWithMore wsX1_add := goodIn_r _ [15, 16, 17, 18, 4, 19, 7, 10, 12, 8, 11, 9, 20, 21, 22, 23, 24, 25, 26, 27, 28, 29, 30, 31, 32, 33, 34, 35, 108, 109, 110, 111, 112, 113, 114, 100, 101, 102, 103, 104, 105, 106, 107] (by decide +kernel) (by decide +kernel)
set_option maxRecDepth 20000 in
theorem gX5_worthWithMore_X1_add_n249 : GoodIn wsX5_worthWithMore (wsX1_add) := ggX5_worthWithMore_X1_add
set_option maxRecDepth 20000 in
theorem ggX5_worthWithMore_X5_leftOn : GoodIn wsX5_worthWithMore wsX5_leftOn := goodIn_r _ [40, 41, 27, 28, 29, 42, 43, 44, 39, 45, 46, 47, 48, 49, 50, 51, 52, 53, 54, 55, 56, 57, 58, 59, 60, 61, 62, 63, 64, 86, 87, 88, 89, 90, 91, 92, 93, 94, 95, 96, 97, 98, 99, 115, 116, 117, 118, 119] (by decide +kernel) (by decide +kernel)
set_option maxRecDepth 20000 in
theorem gX5_worthWithMore_X5_leftOn : GoodIn wsX5_worthWithMore (wsV RX5 205 RX5 yX5_leftOn wsX5_leftOn) := goodIn_app (goodIn_of _ (by decide +kernel)) ggX5_worthWithMore_X5_leftOn
set_option maxRecDepth 20000 in
theorem ggX5_worthWithMore_X5_within : GoodIn wsX5_worthWithMore wsX5_within := goodIn_r _ [67] (by decide +kernel) (by decide +kernel)
set_option maxRecDepth 20000 in
theorem gX5_worthWithMore_X5_within : GoodIn wsX5_worthWithMore (va_wsS RX5 68 yX5_within wsX5_within) := goodIn_app (goodIn_of _ (by decide +kernel)) ggX5_worthWithMore_X5_within
set_option maxRecDepth 20000 in
theorem ggX5_worthWithMore_X1_mostFor : GoodIn wsX5_worthWithMore wsX1_mostFor := goodIn_r _ [70, 12, 71, 72, 28, 73, 74, 27, 29, 75, 31, 76, 77, 34, 35, 78, 79, 80, 4, 81, 10, 7, 82, 83, 84, 85, 11, 8, 9, 100, 101, 102, 103, 104, 105, 106, 107] (by decide +kernel) (by decide +kernel)
set_option maxRecDepth 20000 in
theorem gX5_worthWithMore_X1_mostFor_n252 : GoodIn wsX5_worthWithMore (wsX1_mostFor) := ggX5_worthWithMore_X1_mostFor
theorem dX5_worthWithMore_0 : decode cX5_worthWithMore 0 = .ok (.aload_n 0, 1) := by decide +kernel
theorem dX5_worthWithMore_1 : decode cX5_worthWithMore 1 = .ok (.getfield 31, 3) := by decide +kernel
theorem dX5_worthWithMore_4 : decode cX5_worthWithMore 4 = .ok (.invokevirtual 248, 3) := by decide +kernel
theorem dX5_worthWithMore_7 : decode cX5_worthWithMore 7 = .ok (.aload_n 0, 1) := by decide +kernel
theorem dX5_worthWithMore_8 : decode cX5_worthWithMore 8 = .ok (.getfield 19, 3) := by decide +kernel
theorem dX5_worthWithMore_11 : decode cX5_worthWithMore 11 = .ok (.astore 4, 2) := by decide +kernel
theorem dX5_worthWithMore_13 : decode cX5_worthWithMore 13 = .ok (.aload 4, 2) := by decide +kernel
theorem dX5_worthWithMore_15 : decode cX5_worthWithMore 15 = .ok (.arraylength, 1) := by decide +kernel
theorem dX5_worthWithMore_16 : decode cX5_worthWithMore 16 = .ok (.istore 5, 2) := by decide +kernel
theorem dX5_worthWithMore_18 : decode cX5_worthWithMore 18 = .ok (.iconst 0, 1) := by decide +kernel
theorem dX5_worthWithMore_19 : decode cX5_worthWithMore 19 = .ok (.istore 6, 2) := by decide +kernel
theorem dX5_worthWithMore_21 : decode cX5_worthWithMore 21 = .ok (.iload 6, 2) := by decide +kernel
theorem dX5_worthWithMore_23 : decode cX5_worthWithMore 23 = .ok (.iload 5, 2) := by decide +kernel
theorem dX5_worthWithMore_25 : decode cX5_worthWithMore 25 = .ok (.if_icmp .ge 30, 3) := by decide +kernel
theorem dX5_worthWithMore_28 : decode cX5_worthWithMore 28 = .ok (.aload 4, 2) := by decide +kernel
theorem dX5_worthWithMore_30 : decode cX5_worthWithMore 30 = .ok (.iload 6, 2) := by decide +kernel
theorem dX5_worthWithMore_32 : decode cX5_worthWithMore 32 = .ok (.aaload, 1) := by decide +kernel
theorem dX5_worthWithMore_33 : decode cX5_worthWithMore 33 = .ok (.astore 7, 2) := by decide +kernel
theorem dX5_worthWithMore_35 : decode cX5_worthWithMore 35 = .ok (.aload 7, 2) := by decide +kernel
theorem dX5_worthWithMore_37 : decode cX5_worthWithMore 37 = .ok (.ifnull 12, 3) := by decide +kernel
theorem dX5_worthWithMore_40 : decode cX5_worthWithMore 40 = .ok (.aload_n 0, 1) := by decide +kernel
theorem dX5_worthWithMore_41 : decode cX5_worthWithMore 41 = .ok (.getfield 31, 3) := by decide +kernel
theorem dX5_worthWithMore_44 : decode cX5_worthWithMore 44 = .ok (.aload 7, 2) := by decide +kernel
theorem dX5_worthWithMore_46 : decode cX5_worthWithMore 46 = .ok (.invokevirtual 249, 3) := by decide +kernel
theorem dX5_worthWithMore_49 : decode cX5_worthWithMore 49 = .ok (.iinc 6 1, 3) := by decide +kernel
theorem dX5_worthWithMore_52 : decode cX5_worthWithMore 52 = .ok (.goto (-31), 3) := by decide +kernel
theorem dX5_worthWithMore_55 : decode cX5_worthWithMore 55 = .ok (.aload_n 0, 1) := by decide +kernel
theorem dX5_worthWithMore_56 : decode cX5_worthWithMore 56 = .ok (.iconst 0, 1) := by decide +kernel
theorem dX5_worthWithMore_57 : decode cX5_worthWithMore 57 = .ok (.invokevirtual 205, 3) := by decide +kernel
theorem dX5_worthWithMore_60 : decode cX5_worthWithMore 60 = .ok (.iconst 0, 1) := by decide +kernel
theorem dX5_worthWithMore_61 : decode cX5_worthWithMore 61 = .ok (.iload_n 1, 1) := by decide +kernel
theorem dX5_worthWithMore_62 : decode cX5_worthWithMore 62 = .ok (.iload_n 2, 1) := by decide +kernel
theorem dX5_worthWithMore_63 : decode cX5_worthWithMore 63 = .ok (.invokestatic 68, 3) := by decide +kernel
theorem dX5_worthWithMore_66 : decode cX5_worthWithMore 66 = .ok (.ifCond .eq 7, 3) := by decide +kernel
theorem dX5_worthWithMore_69 : decode cX5_worthWithMore 69 = .ok (.iload_n 3, 1) := by decide +kernel
theorem dX5_worthWithMore_70 : decode cX5_worthWithMore 70 = .ok (.goto 4, 3) := by decide +kernel
theorem dX5_worthWithMore_73 : decode cX5_worthWithMore 73 = .ok (.iconst 0, 1) := by decide +kernel
theorem dX5_worthWithMore_74 : decode cX5_worthWithMore 74 = .ok (.iadd, 1) := by decide +kernel
theorem dX5_worthWithMore_75 : decode cX5_worthWithMore 75 = .ok (.istore 4, 2) := by decide +kernel
theorem dX5_worthWithMore_77 : decode cX5_worthWithMore 77 = .ok (.aload_n 0, 1) := by decide +kernel
theorem dX5_worthWithMore_78 : decode cX5_worthWithMore 78 = .ok (.iconst 1, 1) := by decide +kernel
theorem dX5_worthWithMore_79 : decode cX5_worthWithMore 79 = .ok (.invokevirtual 205, 3) := by decide +kernel
theorem dX5_worthWithMore_82 : decode cX5_worthWithMore 82 = .ok (.iconst 1, 1) := by decide +kernel
theorem dX5_worthWithMore_83 : decode cX5_worthWithMore 83 = .ok (.iload_n 1, 1) := by decide +kernel
theorem dX5_worthWithMore_84 : decode cX5_worthWithMore 84 = .ok (.iload_n 2, 1) := by decide +kernel
theorem dX5_worthWithMore_85 : decode cX5_worthWithMore 85 = .ok (.invokestatic 68, 3) := by decide +kernel
theorem dX5_worthWithMore_88 : decode cX5_worthWithMore 88 = .ok (.ifCond .eq 7, 3) := by decide +kernel
theorem dX5_worthWithMore_91 : decode cX5_worthWithMore 91 = .ok (.iload_n 3, 1) := by decide +kernel
theorem dX5_worthWithMore_92 : decode cX5_worthWithMore 92 = .ok (.goto 4, 3) := by decide +kernel
theorem dX5_worthWithMore_95 : decode cX5_worthWithMore 95 = .ok (.iconst 0, 1) := by decide +kernel
theorem dX5_worthWithMore_96 : decode cX5_worthWithMore 96 = .ok (.iadd, 1) := by decide +kernel
theorem dX5_worthWithMore_97 : decode cX5_worthWithMore 97 = .ok (.istore 5, 2) := by decide +kernel
theorem dX5_worthWithMore_99 : decode cX5_worthWithMore 99 = .ok (.aload_n 0, 1) := by decide +kernel
theorem dX5_worthWithMore_100 : decode cX5_worthWithMore 100 = .ok (.iconst 2, 1) := by decide +kernel
theorem dX5_worthWithMore_101 : decode cX5_worthWithMore 101 = .ok (.invokevirtual 205, 3) := by decide +kernel
theorem dX5_worthWithMore_104 : decode cX5_worthWithMore 104 = .ok (.iconst 2, 1) := by decide +kernel
theorem dX5_worthWithMore_105 : decode cX5_worthWithMore 105 = .ok (.iload_n 1, 1) := by decide +kernel
theorem dX5_worthWithMore_106 : decode cX5_worthWithMore 106 = .ok (.iload_n 2, 1) := by decide +kernel
theorem dX5_worthWithMore_107 : decode cX5_worthWithMore 107 = .ok (.invokestatic 68, 3) := by decide +kernel
theorem dX5_worthWithMore_110 : decode cX5_worthWithMore 110 = .ok (.ifCond .eq 7, 3) := by decide +kernel
theorem dX5_worthWithMore_113 : decode cX5_worthWithMore 113 = .ok (.iload_n 3, 1) := by decide +kernel
theorem dX5_worthWithMore_114 : decode cX5_worthWithMore 114 = .ok (.goto 4, 3) := by decide +kernel
theorem dX5_worthWithMore_117 : decode cX5_worthWithMore 117 = .ok (.iconst 0, 1) := by decide +kernel
theorem dX5_worthWithMore_118 : decode cX5_worthWithMore 118 = .ok (.iadd, 1) := by decide +kernel
theorem dX5_worthWithMore_119 : decode cX5_worthWithMore 119 = .ok (.istore 6, 2) := by decide +kernel
theorem dX5_worthWithMore_121 : decode cX5_worthWithMore 121 = .ok (.aload_n 0, 1) := by decide +kernel
theorem dX5_worthWithMore_122 : decode cX5_worthWithMore 122 = .ok (.getfield 31, 3) := by decide +kernel
theorem dX5_worthWithMore_125 : decode cX5_worthWithMore 125 = .ok (.iload 4, 2) := by decide +kernel
theorem dX5_worthWithMore_127 : decode cX5_worthWithMore 127 = .ok (.iload 5, 2) := by decide +kernel
theorem dX5_worthWithMore_129 : decode cX5_worthWithMore 129 = .ok (.iload 6, 2) := by decide +kernel
theorem dX5_worthWithMore_131 : decode cX5_worthWithMore 131 = .ok (.invokevirtual 252, 3) := by decide +kernel
theorem dX5_worthWithMore_134 : decode cX5_worthWithMore 134 = .ok (.ireturn, 1) := by decide +kernel
set_option maxRecDepth 20000 in
theorem ggX5_bidsOver_X5_worthWithMore : GoodIn wsX5_bidsOver wsX5_worthWithMore := goodIn_r _ [5, 6, 7, 8, 9, 10, 11, 12, 13, 14, 15, 16, 17, 18, 19, 20, 21, 22, 23, 24, 25, 26, 27, 28, 29, 30, 31, 32, 33, 34, 35, 36, 37, 38, 39, 40, 41, 42, 43, 4, 44, 45, 46, 47, 48, 49, 50, 51, 52, 53, 54, 55, 56, 57, 58, 59, 60, 61, 62, 63, 64, 65, 66, 67, 68, 69, 70, 71, 72, 73, 74, 75, 76, 77, 78, 79, 80, 81, 82, 83, 84, 85, 86, 87, 88, 89, 90, 91, 92, 93, 94, 95, 96, 97, 98, 99, 100, 101, 102, 103, 104, 105, 106, 107, 108, 109, 110, 111, 112, 113, 114, 115, 116, 117, 118, 119, 120, 121, 122, 123] (by decide +kernel) (by decide +kernel)
set_option maxRecDepth 20000 in
theorem gX5_bidsOver_X5_worthWithMore : GoodIn wsX5_bidsOver (wsV RX5 202 RX5 yX5_worthWithMore wsX5_worthWithMore) := goodIn_app (goodIn_of _ (by decide +kernel)) ggX5_bidsOver_X5_worthWithMore
theorem dX5_bidsOver_0 : decode cX5_bidsOver 0 = .ok (.aload_n 0, 1) := by decide +kernel
theorem dX5_bidsOver_1 : decode cX5_bidsOver 1 = .ok (.iconst 0, 1) := by decide +kernel
theorem dX5_bidsOver_2 : decode cX5_bidsOver 2 = .ok (.iconst 0, 1) := by decide +kernel
theorem dX5_bidsOver_3 : decode cX5_bidsOver 3 = .ok (.iconst 0, 1) := by decide +kernel
theorem dX5_bidsOver_4 : decode cX5_bidsOver 4 = .ok (.invokevirtual 202, 3) := by decide +kernel
theorem dX5_bidsOver_7 : decode cX5_bidsOver 7 = .ok (.istore_n 3, 1) := by decide +kernel
theorem dX5_bidsOver_8 : decode cX5_bidsOver 8 = .ok (.iconst 0, 1) := by decide +kernel
theorem dX5_bidsOver_9 : decode cX5_bidsOver 9 = .ok (.istore 4, 2) := by decide +kernel
theorem dX5_bidsOver_11 : decode cX5_bidsOver 11 = .ok (.iload_n 1, 1) := by decide +kernel
theorem dX5_bidsOver_12 : decode cX5_bidsOver 12 = .ok (.istore 5, 2) := by decide +kernel
theorem dX5_bidsOver_14 : decode cX5_bidsOver 14 = .ok (.iload 5, 2) := by decide +kernel
theorem dX5_bidsOver_16 : decode cX5_bidsOver 16 = .ok (.iload_n 2, 1) := by decide +kernel
theorem dX5_bidsOver_17 : decode cX5_bidsOver 17 = .ok (.if_icmp .gt 25, 3) := by decide +kernel
theorem dX5_bidsOver_20 : decode cX5_bidsOver 20 = .ok (.iload 4, 2) := by decide +kernel
theorem dX5_bidsOver_22 : decode cX5_bidsOver 22 = .ok (.aload_n 0, 1) := by decide +kernel
theorem dX5_bidsOver_23 : decode cX5_bidsOver 23 = .ok (.iload 5, 2) := by decide +kernel
theorem dX5_bidsOver_25 : decode cX5_bidsOver 25 = .ok (.iload 5, 2) := by decide +kernel
theorem dX5_bidsOver_27 : decode cX5_bidsOver 27 = .ok (.iconst 1, 1) := by decide +kernel
theorem dX5_bidsOver_28 : decode cX5_bidsOver 28 = .ok (.invokevirtual 202, 3) := by decide +kernel
theorem dX5_bidsOver_31 : decode cX5_bidsOver 31 = .ok (.iload_n 3, 1) := by decide +kernel
theorem dX5_bidsOver_32 : decode cX5_bidsOver 32 = .ok (.isub, 1) := by decide +kernel
theorem dX5_bidsOver_33 : decode cX5_bidsOver 33 = .ok (.iadd, 1) := by decide +kernel
theorem dX5_bidsOver_34 : decode cX5_bidsOver 34 = .ok (.istore 4, 2) := by decide +kernel
theorem dX5_bidsOver_36 : decode cX5_bidsOver 36 = .ok (.iinc 5 1, 3) := by decide +kernel
theorem dX5_bidsOver_39 : decode cX5_bidsOver 39 = .ok (.goto (-25), 3) := by decide +kernel
theorem dX5_bidsOver_42 : decode cX5_bidsOver 42 = .ok (.iload 4, 2) := by decide +kernel
theorem dX5_bidsOver_44 : decode cX5_bidsOver 44 = .ok (.ireturn, 1) := by decide +kernel
set_option maxRecDepth 20000 in
theorem ggX5_displacement_X5_worthWithMore : GoodIn wsX5_displacement wsX5_worthWithMore := goodIn_r _ [5, 6, 7, 8, 9, 10, 11, 12, 13, 14, 15, 16, 17, 18, 19, 20, 21, 22, 23, 24, 25, 26, 27, 28, 29, 30, 31, 32, 33, 34, 35, 36, 37, 38, 39, 40, 41, 42, 43, 4, 44, 45, 46, 47, 48, 49, 50, 51, 52, 53, 54, 55, 56, 57, 58, 59, 60, 61, 62, 63, 64, 65, 66, 67, 68, 69, 70, 71, 72, 73, 74, 75, 76, 77, 78, 79, 80, 81, 82, 83, 84, 85, 86, 87, 88, 89, 90, 91, 92, 93, 94, 95, 96, 97, 98, 99, 100, 101, 102, 103, 104, 105, 106, 107, 108, 109, 110, 111, 112, 113, 114, 115, 116, 117, 118, 119, 120, 121, 122, 123] (by decide +kernel) (by decide +kernel)
set_option maxRecDepth 20000 in
theorem gX5_displacement_X5_worthWithMore : GoodIn wsX5_displacement (wsV RX5 202 RX5 yX5_worthWithMore wsX5_worthWithMore) := goodIn_app (goodIn_of _ (by decide +kernel)) ggX5_displacement_X5_worthWithMore
theorem dX5_displacement_0 : decode cX5_displacement 0 = .ok (.aload_n 0, 1) := by decide +kernel
theorem dX5_displacement_1 : decode cX5_displacement 1 = .ok (.iconst 0, 1) := by decide +kernel
theorem dX5_displacement_2 : decode cX5_displacement 2 = .ok (.iconst 0, 1) := by decide +kernel
theorem dX5_displacement_3 : decode cX5_displacement 3 = .ok (.iconst 0, 1) := by decide +kernel
theorem dX5_displacement_4 : decode cX5_displacement 4 = .ok (.invokevirtual 202, 3) := by decide +kernel
theorem dX5_displacement_7 : decode cX5_displacement 7 = .ok (.aload_n 0, 1) := by decide +kernel
theorem dX5_displacement_8 : decode cX5_displacement 8 = .ok (.iload_n 1, 1) := by decide +kernel
theorem dX5_displacement_9 : decode cX5_displacement 9 = .ok (.iload_n 2, 1) := by decide +kernel
theorem dX5_displacement_10 : decode cX5_displacement 10 = .ok (.iload_n 3, 1) := by decide +kernel
theorem dX5_displacement_11 : decode cX5_displacement 11 = .ok (.ineg, 1) := by decide +kernel
theorem dX5_displacement_12 : decode cX5_displacement 12 = .ok (.invokevirtual 202, 3) := by decide +kernel
theorem dX5_displacement_15 : decode cX5_displacement 15 = .ok (.isub, 1) := by decide +kernel
theorem dX5_displacement_16 : decode cX5_displacement 16 = .ok (.ireturn, 1) := by decide +kernel
theorem dX6_init_0 : decode cX6_init 0 = .ok (.aload_n 0, 1) := by decide +kernel
theorem dX6_init_1 : decode cX6_init 1 = .ok (.invokespecial 1, 3) := by decide +kernel
theorem dX6_init_4 : decode cX6_init 4 = .ok (.aload_n 0, 1) := by decide +kernel
theorem dX6_init_5 : decode cX6_init 5 = .ok (.iconst 3, 1) := by decide +kernel
theorem dX6_init_6 : decode cX6_init 6 = .ok (.newarray .int, 2) := by decide +kernel
theorem dX6_init_8 : decode cX6_init 8 = .ok (.putfield 7, 3) := by decide +kernel
theorem dX6_init_11 : decode cX6_init 11 = .ok (.aload_n 0, 1) := by decide +kernel
theorem dX6_init_12 : decode cX6_init 12 = .ok (.iconst 3, 1) := by decide +kernel
theorem dX6_init_13 : decode cX6_init 13 = .ok (.newarray .int, 2) := by decide +kernel
theorem dX6_init_15 : decode cX6_init 15 = .ok (.putfield 13, 3) := by decide +kernel
theorem dX6_init_18 : decode cX6_init 18 = .ok (.aload_n 0, 1) := by decide +kernel
theorem dX6_init_19 : decode cX6_init 19 = .ok (.bipush 8, 2) := by decide +kernel
theorem dX6_init_21 : decode cX6_init 21 = .ok (.newarray .int, 2) := by decide +kernel
theorem dX6_init_23 : decode cX6_init 23 = .ok (.putfield 16, 3) := by decide +kernel
theorem dX6_init_26 : decode cX6_init 26 = .ok (.aload_n 0, 1) := by decide +kernel
theorem dX6_init_27 : decode cX6_init 27 = .ok (.bipush 8, 2) := by decide +kernel
theorem dX6_init_29 : decode cX6_init 29 = .ok (.newarray .int, 2) := by decide +kernel
theorem dX6_init_31 : decode cX6_init 31 = .ok (.putfield 19, 3) := by decide +kernel
theorem dX6_init_34 : decode cX6_init 34 = .ok (.aload_n 0, 1) := by decide +kernel
theorem dX6_init_35 : decode cX6_init 35 = .ok (.bipush 8, 2) := by decide +kernel
theorem dX6_init_37 : decode cX6_init 37 = .ok (.newarray .int, 2) := by decide +kernel
theorem dX6_init_39 : decode cX6_init 39 = .ok (.putfield 22, 3) := by decide +kernel
theorem dX6_init_42 : decode cX6_init 42 = .ok (.aload_n 0, 1) := by decide +kernel
theorem dX6_init_43 : decode cX6_init 43 = .ok (.bipush 8, 2) := by decide +kernel
theorem dX6_init_45 : decode cX6_init 45 = .ok (.newarray .int, 2) := by decide +kernel
theorem dX6_init_47 : decode cX6_init 47 = .ok (.putfield 25, 3) := by decide +kernel
theorem dX6_init_50 : decode cX6_init 50 = .ok (.aload_n 0, 1) := by decide +kernel
theorem dX6_init_51 : decode cX6_init 51 = .ok (.bipush 8, 2) := by decide +kernel
theorem dX6_init_53 : decode cX6_init 53 = .ok (.newarray .int, 2) := by decide +kernel
theorem dX6_init_55 : decode cX6_init 55 = .ok (.putfield 28, 3) := by decide +kernel
theorem dX6_init_58 : decode cX6_init 58 = .ok (.aload_n 0, 1) := by decide +kernel
theorem dX6_init_59 : decode cX6_init 59 = .ok (.bipush 8, 2) := by decide +kernel
theorem dX6_init_61 : decode cX6_init 61 = .ok (.newarray .long, 2) := by decide +kernel
theorem dX6_init_63 : decode cX6_init 63 = .ok (.putfield 31, 3) := by decide +kernel
theorem dX6_init_66 : decode cX6_init 66 = .ok (.aload_n 0, 1) := by decide +kernel
theorem dX6_init_67 : decode cX6_init 67 = .ok (.sipush 168, 3) := by decide +kernel
theorem dX6_init_70 : decode cX6_init 70 = .ok (.newarray .int, 2) := by decide +kernel
theorem dX6_init_72 : decode cX6_init 72 = .ok (.putfield 35, 3) := by decide +kernel
theorem dX6_init_75 : decode cX6_init 75 = .ok (.aload_n 0, 1) := by decide +kernel
theorem dX6_init_76 : decode cX6_init 76 = .ok (.bipush 100, 2) := by decide +kernel
theorem dX6_init_78 : decode cX6_init 78 = .ok (.putfield 38, 3) := by decide +kernel
theorem dX6_init_81 : decode cX6_init 81 = .ok (.aload_n 0, 1) := by decide +kernel
theorem dX6_init_82 : decode cX6_init 82 = .ok (.bipush 60, 2) := by decide +kernel
theorem dX6_init_84 : decode cX6_init 84 = .ok (.newarray .int, 2) := by decide +kernel
theorem dX6_init_86 : decode cX6_init 86 = .ok (.putfield 42, 3) := by decide +kernel
theorem dX6_init_89 : decode cX6_init 89 = .ok (.aload_n 0, 1) := by decide +kernel
theorem dX6_init_90 : decode cX6_init 90 = .ok (.bipush 60, 2) := by decide +kernel
theorem dX6_init_92 : decode cX6_init 92 = .ok (.newarray .int, 2) := by decide +kernel
theorem dX6_init_94 : decode cX6_init 94 = .ok (.putfield 45, 3) := by decide +kernel
theorem dX6_init_97 : decode cX6_init 97 = .ok (.aload_n 0, 1) := by decide +kernel
theorem dX6_init_98 : decode cX6_init 98 = .ok (.bipush 60, 2) := by decide +kernel
theorem dX6_init_100 : decode cX6_init 100 = .ok (.newarray .int, 2) := by decide +kernel
theorem dX6_init_102 : decode cX6_init 102 = .ok (.putfield 48, 3) := by decide +kernel
theorem dX6_init_105 : decode cX6_init 105 = .ok (.aload_n 0, 1) := by decide +kernel
theorem dX6_init_106 : decode cX6_init 106 = .ok (.bipush 60, 2) := by decide +kernel
theorem dX6_init_108 : decode cX6_init 108 = .ok (.newarray .int, 2) := by decide +kernel
theorem dX6_init_110 : decode cX6_init 110 = .ok (.putfield 51, 3) := by decide +kernel
theorem dX6_init_113 : decode cX6_init 113 = .ok (.aload_n 0, 1) := by decide +kernel
theorem dX6_init_114 : decode cX6_init 114 = .ok (.bipush 60, 2) := by decide +kernel
theorem dX6_init_116 : decode cX6_init 116 = .ok (.newarray .boolean, 2) := by decide +kernel
theorem dX6_init_118 : decode cX6_init 118 = .ok (.putfield 54, 3) := by decide +kernel
theorem dX6_init_121 : decode cX6_init 121 = .ok (.aload_n 0, 1) := by decide +kernel
theorem dX6_init_122 : decode cX6_init 122 = .ok (.iconst 4, 1) := by decide +kernel
theorem dX6_init_123 : decode cX6_init 123 = .ok (.newarray .int, 2) := by decide +kernel
theorem dX6_init_125 : decode cX6_init 125 = .ok (.putfield 58, 3) := by decide +kernel
theorem dX6_init_128 : decode cX6_init 128 = .ok (.aload_n 0, 1) := by decide +kernel
theorem dX6_init_129 : decode cX6_init 129 = .ok (.sipush 1728, 3) := by decide +kernel
theorem dX6_init_132 : decode cX6_init 132 = .ok (.newarray .int, 2) := by decide +kernel
theorem dX6_init_134 : decode cX6_init 134 = .ok (.putfield 61, 3) := by decide +kernel
theorem dX6_init_137 : decode cX6_init 137 = .ok (.return_, 1) := by decide +kernel
theorem dX6_thrown_0 : decode cX6_thrown 0 = .ok (.aload_n 0, 1) := by decide +kernel
theorem dX6_thrown_1 : decode cX6_thrown 1 = .ok (.getfield 64, 3) := by decide +kernel
theorem dX6_thrown_4 : decode cX6_thrown 4 = .ok (.ireturn, 1) := by decide +kernel
theorem dX6_fails_0 : decode cX6_fails 0 = .ok (.aload_n 0, 1) := by decide +kernel
theorem dX6_fails_1 : decode cX6_fails 1 = .ok (.iload_n 1, 1) := by decide +kernel
theorem dX6_fails_2 : decode cX6_fails 2 = .ok (.putfield 64, 3) := by decide +kernel
theorem dX6_fails_5 : decode cX6_fails 5 = .ok (.iload_n 1, 1) := by decide +kernel
theorem dX6_fails_6 : decode cX6_fails 6 = .ok (.ifCond .le 7, 3) := by decide +kernel
theorem dX6_fails_9 : decode cX6_fails 9 = .ok (.iconst 1, 1) := by decide +kernel
theorem dX6_fails_10 : decode cX6_fails 10 = .ok (.goto 4, 3) := by decide +kernel
theorem dX6_fails_13 : decode cX6_fails 13 = .ok (.iconst 0, 1) := by decide +kernel
theorem dX6_fails_14 : decode cX6_fails 14 = .ok (.ireturn, 1) := by decide +kernel
theorem dX6_tells_0 : decode cX6_tells 0 = .ok (.aload_n 0, 1) := by decide +kernel
theorem dX6_tells_1 : decode cX6_tells 1 = .ok (.iconst 0, 1) := by decide +kernel
theorem dX6_tells_2 : decode cX6_tells 2 = .ok (.putfield 64, 3) := by decide +kernel
theorem dX6_tells_5 : decode cX6_tells 5 = .ok (.iload_n 1, 1) := by decide +kernel
theorem dX6_tells_6 : decode cX6_tells 6 = .ok (.ireturn, 1) := by decide +kernel
theorem dX6_isIn_0 : decode cX6_isIn 0 = .ok (.iload_n 0, 1) := by decide +kernel
theorem dX6_isIn_1 : decode cX6_isIn 1 = .ok (.iload_n 1, 1) := by decide +kernel
theorem dX6_isIn_2 : decode cX6_isIn 2 = .ok (.if_icmp .lt 12, 3) := by decide +kernel
theorem dX6_isIn_5 : decode cX6_isIn 5 = .ok (.iload_n 0, 1) := by decide +kernel
theorem dX6_isIn_6 : decode cX6_isIn 6 = .ok (.iload_n 2, 1) := by decide +kernel
theorem dX6_isIn_7 : decode cX6_isIn 7 = .ok (.if_icmp .gt 7, 3) := by decide +kernel
theorem dX6_isIn_10 : decode cX6_isIn 10 = .ok (.iconst 1, 1) := by decide +kernel
theorem dX6_isIn_11 : decode cX6_isIn 11 = .ok (.goto 4, 3) := by decide +kernel
theorem dX6_isIn_14 : decode cX6_isIn 14 = .ok (.iconst 0, 1) := by decide +kernel
theorem dX6_isIn_15 : decode cX6_isIn 15 = .ok (.ireturn, 1) := by decide +kernel
set_option maxRecDepth 20000 in
theorem ggX6_isLeg_X6_isIn : GoodIn wsX6_isLeg wsX6_isIn := goodIn_r _ [4] (by decide +kernel) (by decide +kernel)
set_option maxRecDepth 20000 in
theorem gX6_isLeg_X6_isIn : GoodIn wsX6_isLeg (va_wsS RX6 67 yX6_isIn wsX6_isIn) := goodIn_app (goodIn_of _ (by decide +kernel)) ggX6_isLeg_X6_isIn
theorem dX6_isLeg_0 : decode cX6_isLeg 0 = .ok (.iload_n 0, 1) := by decide +kernel
theorem dX6_isLeg_1 : decode cX6_isLeg 1 = .ok (.iconst 0, 1) := by decide +kernel
theorem dX6_isLeg_2 : decode cX6_isLeg 2 = .ok (.iconst 2, 1) := by decide +kernel
theorem dX6_isLeg_3 : decode cX6_isLeg 3 = .ok (.invokestatic 67, 3) := by decide +kernel
theorem dX6_isLeg_6 : decode cX6_isLeg 6 = .ok (.ireturn, 1) := by decide +kernel
set_option maxRecDepth 20000 in
theorem ggX6_isProduct_X6_isIn : GoodIn wsX6_isProduct wsX6_isIn := goodIn_r _ [5] (by decide +kernel) (by decide +kernel)
set_option maxRecDepth 20000 in
theorem gX6_isProduct_X6_isIn : GoodIn wsX6_isProduct (va_wsS RX6 67 yX6_isIn wsX6_isIn) := goodIn_app (goodIn_of _ (by decide +kernel)) ggX6_isProduct_X6_isIn
theorem dX6_isProduct_0 : decode cX6_isProduct 0 = .ok (.iload_n 1, 1) := by decide +kernel
theorem dX6_isProduct_1 : decode cX6_isProduct 1 = .ok (.iconst 0, 1) := by decide +kernel
theorem dX6_isProduct_2 : decode cX6_isProduct 2 = .ok (.aload_n 0, 1) := by decide +kernel
theorem dX6_isProduct_3 : decode cX6_isProduct 3 = .ok (.getfield 71, 3) := by decide +kernel
theorem dX6_isProduct_6 : decode cX6_isProduct 6 = .ok (.iconst 1, 1) := by decide +kernel
theorem dX6_isProduct_7 : decode cX6_isProduct 7 = .ok (.isub, 1) := by decide +kernel
theorem dX6_isProduct_8 : decode cX6_isProduct 8 = .ok (.invokestatic 67, 3) := by decide +kernel
theorem dX6_isProduct_11 : decode cX6_isProduct 11 = .ok (.ireturn, 1) := by decide +kernel
theorem dX6_left_0 : decode cX6_left 0 = .ok (.aload_n 0, 1) := by decide +kernel
theorem dX6_left_1 : decode cX6_left 1 = .ok (.getfield 7, 3) := by decide +kernel
theorem dX6_left_4 : decode cX6_left 4 = .ok (.iload_n 1, 1) := by decide +kernel
theorem dX6_left_5 : decode cX6_left 5 = .ok (.iaload, 1) := by decide +kernel
theorem dX6_left_6 : decode cX6_left 6 = .ok (.aload_n 0, 1) := by decide +kernel
theorem dX6_left_7 : decode cX6_left 7 = .ok (.getfield 13, 3) := by decide +kernel
theorem dX6_left_10 : decode cX6_left 10 = .ok (.iload_n 1, 1) := by decide +kernel
theorem dX6_left_11 : decode cX6_left 11 = .ok (.iaload, 1) := by decide +kernel
theorem dX6_left_12 : decode cX6_left 12 = .ok (.if_icmp .le 19, 3) := by decide +kernel
theorem dX6_left_15 : decode cX6_left 15 = .ok (.aload_n 0, 1) := by decide +kernel
theorem dX6_left_16 : decode cX6_left 16 = .ok (.getfield 7, 3) := by decide +kernel
theorem dX6_left_19 : decode cX6_left 19 = .ok (.iload_n 1, 1) := by decide +kernel
theorem dX6_left_20 : decode cX6_left 20 = .ok (.iaload, 1) := by decide +kernel
theorem dX6_left_21 : decode cX6_left 21 = .ok (.aload_n 0, 1) := by decide +kernel
theorem dX6_left_22 : decode cX6_left 22 = .ok (.getfield 13, 3) := by decide +kernel
theorem dX6_left_25 : decode cX6_left 25 = .ok (.iload_n 1, 1) := by decide +kernel
theorem dX6_left_26 : decode cX6_left 26 = .ok (.iaload, 1) := by decide +kernel
theorem dX6_left_27 : decode cX6_left 27 = .ok (.isub, 1) := by decide +kernel
theorem dX6_left_28 : decode cX6_left 28 = .ok (.goto 4, 3) := by decide +kernel
theorem dX6_left_31 : decode cX6_left 31 = .ok (.iconst 0, 1) := by decide +kernel
theorem dX6_left_32 : decode cX6_left 32 = .ok (.ireturn, 1) := by decide +kernel
theorem dX6_place_0 : decode cX6_place 0 = .ok (.bipush 12, 2) := by decide +kernel
theorem dX6_place_2 : decode cX6_place 2 = .ok (.bipush 12, 2) := by decide +kernel
theorem dX6_place_4 : decode cX6_place 4 = .ok (.iload_n 0, 1) := by decide +kernel
theorem dX6_place_5 : decode cX6_place 5 = .ok (.imul, 1) := by decide +kernel
theorem dX6_place_6 : decode cX6_place 6 = .ok (.iload_n 1, 1) := by decide +kernel
theorem dX6_place_7 : decode cX6_place 7 = .ok (.iadd, 1) := by decide +kernel
theorem dX6_place_8 : decode cX6_place 8 = .ok (.imul, 1) := by decide +kernel
theorem dX6_place_9 : decode cX6_place 9 = .ok (.iload_n 2, 1) := by decide +kernel
theorem dX6_place_10 : decode cX6_place 10 = .ok (.iadd, 1) := by decide +kernel
theorem dX6_place_11 : decode cX6_place 11 = .ok (.ireturn, 1) := by decide +kernel
set_option maxRecDepth 20000 in
theorem ggX6_adds_X6_isIn : GoodIn wsX6_adds wsX6_isIn := goodIn_r _ [8] (by decide +kernel) (by decide +kernel)
set_option maxRecDepth 20000 in
theorem gX6_adds_X6_isIn : GoodIn wsX6_adds (va_wsS RX6 67 yX6_isIn wsX6_isIn) := goodIn_app (goodIn_of _ (by decide +kernel)) ggX6_adds_X6_isIn
set_option maxRecDepth 20000 in
theorem ggX6_adds_X6_place : GoodIn wsX6_adds wsX6_place := goodIn_r _ [11] (by decide +kernel) (by decide +kernel)
set_option maxRecDepth 20000 in
theorem gX6_adds_X6_place : GoodIn wsX6_adds (va_wsS RX6 74 yX6_place wsX6_place) := goodIn_app (goodIn_of _ (by decide +kernel)) ggX6_adds_X6_place
theorem dX6_adds_0 : decode cX6_adds 0 = .ok (.iconst 0, 1) := by decide +kernel
theorem dX6_adds_1 : decode cX6_adds 1 = .ok (.aload_n 0, 1) := by decide +kernel
theorem dX6_adds_2 : decode cX6_adds 2 = .ok (.getfield 16, 3) := by decide +kernel
theorem dX6_adds_5 : decode cX6_adds 5 = .ok (.iload_n 1, 1) := by decide +kernel
theorem dX6_adds_6 : decode cX6_adds 6 = .ok (.iaload, 1) := by decide +kernel
theorem dX6_adds_7 : decode cX6_adds 7 = .ok (.aload_n 0, 1) := by decide +kernel
theorem dX6_adds_8 : decode cX6_adds 8 = .ok (.getfield 19, 3) := by decide +kernel
theorem dX6_adds_11 : decode cX6_adds 11 = .ok (.iload_n 1, 1) := by decide +kernel
theorem dX6_adds_12 : decode cX6_adds 12 = .ok (.iaload, 1) := by decide +kernel
theorem dX6_adds_13 : decode cX6_adds 13 = .ok (.invokestatic 67, 3) := by decide +kernel
theorem dX6_adds_16 : decode cX6_adds 16 = .ok (.ifCond .eq 7, 3) := by decide +kernel
theorem dX6_adds_19 : decode cX6_adds 19 = .ok (.iconst 1, 1) := by decide +kernel
theorem dX6_adds_20 : decode cX6_adds 20 = .ok (.goto 4, 3) := by decide +kernel
theorem dX6_adds_23 : decode cX6_adds 23 = .ok (.iconst 0, 1) := by decide +kernel
theorem dX6_adds_24 : decode cX6_adds 24 = .ok (.istore_n 2, 1) := by decide +kernel
theorem dX6_adds_25 : decode cX6_adds 25 = .ok (.iconst 1, 1) := by decide +kernel
theorem dX6_adds_26 : decode cX6_adds 26 = .ok (.aload_n 0, 1) := by decide +kernel
theorem dX6_adds_27 : decode cX6_adds 27 = .ok (.getfield 16, 3) := by decide +kernel
theorem dX6_adds_30 : decode cX6_adds 30 = .ok (.iload_n 1, 1) := by decide +kernel
theorem dX6_adds_31 : decode cX6_adds 31 = .ok (.iaload, 1) := by decide +kernel
theorem dX6_adds_32 : decode cX6_adds 32 = .ok (.aload_n 0, 1) := by decide +kernel
theorem dX6_adds_33 : decode cX6_adds 33 = .ok (.getfield 19, 3) := by decide +kernel
theorem dX6_adds_36 : decode cX6_adds 36 = .ok (.iload_n 1, 1) := by decide +kernel
theorem dX6_adds_37 : decode cX6_adds 37 = .ok (.iaload, 1) := by decide +kernel
theorem dX6_adds_38 : decode cX6_adds 38 = .ok (.invokestatic 67, 3) := by decide +kernel
theorem dX6_adds_41 : decode cX6_adds 41 = .ok (.ifCond .eq 7, 3) := by decide +kernel
theorem dX6_adds_44 : decode cX6_adds 44 = .ok (.iconst 1, 1) := by decide +kernel
theorem dX6_adds_45 : decode cX6_adds 45 = .ok (.goto 4, 3) := by decide +kernel
theorem dX6_adds_48 : decode cX6_adds 48 = .ok (.iconst 0, 1) := by decide +kernel
theorem dX6_adds_49 : decode cX6_adds 49 = .ok (.istore_n 3, 1) := by decide +kernel
theorem dX6_adds_50 : decode cX6_adds 50 = .ok (.iconst 2, 1) := by decide +kernel
theorem dX6_adds_51 : decode cX6_adds 51 = .ok (.aload_n 0, 1) := by decide +kernel
theorem dX6_adds_52 : decode cX6_adds 52 = .ok (.getfield 16, 3) := by decide +kernel
theorem dX6_adds_55 : decode cX6_adds 55 = .ok (.iload_n 1, 1) := by decide +kernel
theorem dX6_adds_56 : decode cX6_adds 56 = .ok (.iaload, 1) := by decide +kernel
theorem dX6_adds_57 : decode cX6_adds 57 = .ok (.aload_n 0, 1) := by decide +kernel
theorem dX6_adds_58 : decode cX6_adds 58 = .ok (.getfield 19, 3) := by decide +kernel
theorem dX6_adds_61 : decode cX6_adds 61 = .ok (.iload_n 1, 1) := by decide +kernel
theorem dX6_adds_62 : decode cX6_adds 62 = .ok (.iaload, 1) := by decide +kernel
theorem dX6_adds_63 : decode cX6_adds 63 = .ok (.invokestatic 67, 3) := by decide +kernel
theorem dX6_adds_66 : decode cX6_adds 66 = .ok (.ifCond .eq 7, 3) := by decide +kernel
theorem dX6_adds_69 : decode cX6_adds 69 = .ok (.iconst 1, 1) := by decide +kernel
theorem dX6_adds_70 : decode cX6_adds 70 = .ok (.goto 4, 3) := by decide +kernel
theorem dX6_adds_73 : decode cX6_adds 73 = .ok (.iconst 0, 1) := by decide +kernel
theorem dX6_adds_74 : decode cX6_adds 74 = .ok (.istore 4, 2) := by decide +kernel
theorem dX6_adds_76 : decode cX6_adds 76 = .ok (.iload_n 2, 1) := by decide +kernel
theorem dX6_adds_77 : decode cX6_adds 77 = .ok (.iload_n 3, 1) := by decide +kernel
theorem dX6_adds_78 : decode cX6_adds 78 = .ok (.iload 4, 2) := by decide +kernel
theorem dX6_adds_80 : decode cX6_adds 80 = .ok (.invokestatic 74, 3) := by decide +kernel
theorem dX6_adds_83 : decode cX6_adds 83 = .ok (.istore 5, 2) := by decide +kernel
theorem dX6_adds_85 : decode cX6_adds 85 = .ok (.sipush 1727, 3) := by decide +kernel
theorem dX6_adds_88 : decode cX6_adds 88 = .ok (.istore 6, 2) := by decide +kernel
theorem dX6_adds_90 : decode cX6_adds 90 = .ok (.iload 6, 2) := by decide +kernel
theorem dX6_adds_92 : decode cX6_adds 92 = .ok (.ifCond .lt 107, 3) := by decide +kernel
theorem dX6_adds_95 : decode cX6_adds 95 = .ok (.iload 6, 2) := by decide +kernel
theorem dX6_adds_97 : decode cX6_adds 97 = .ok (.sipush 144, 3) := by decide +kernel
theorem dX6_adds_100 : decode cX6_adds 100 = .ok (.idiv, 1) := by decide +kernel
theorem dX6_adds_101 : decode cX6_adds 101 = .ok (.iload_n 2, 1) := by decide +kernel
theorem dX6_adds_102 : decode cX6_adds 102 = .ok (.if_icmp .lt 29, 3) := by decide +kernel
theorem dX6_adds_105 : decode cX6_adds 105 = .ok (.iload 6, 2) := by decide +kernel
theorem dX6_adds_107 : decode cX6_adds 107 = .ok (.bipush 12, 2) := by decide +kernel
theorem dX6_adds_109 : decode cX6_adds 109 = .ok (.idiv, 1) := by decide +kernel
theorem dX6_adds_110 : decode cX6_adds 110 = .ok (.bipush 12, 2) := by decide +kernel
theorem dX6_adds_112 : decode cX6_adds 112 = .ok (.irem, 1) := by decide +kernel
theorem dX6_adds_113 : decode cX6_adds 113 = .ok (.iload_n 3, 1) := by decide +kernel
theorem dX6_adds_114 : decode cX6_adds 114 = .ok (.if_icmp .lt 17, 3) := by decide +kernel
theorem dX6_adds_117 : decode cX6_adds 117 = .ok (.iload 6, 2) := by decide +kernel
theorem dX6_adds_119 : decode cX6_adds 119 = .ok (.bipush 12, 2) := by decide +kernel
theorem dX6_adds_121 : decode cX6_adds 121 = .ok (.irem, 1) := by decide +kernel
theorem dX6_adds_122 : decode cX6_adds 122 = .ok (.iload 4, 2) := by decide +kernel
theorem dX6_adds_124 : decode cX6_adds 124 = .ok (.if_icmp .lt 7, 3) := by decide +kernel
theorem dX6_adds_127 : decode cX6_adds 127 = .ok (.iconst 1, 1) := by decide +kernel
theorem dX6_adds_128 : decode cX6_adds 128 = .ok (.goto 4, 3) := by decide +kernel
theorem dX6_adds_131 : decode cX6_adds 131 = .ok (.iconst 0, 1) := by decide +kernel
theorem dX6_adds_132 : decode cX6_adds 132 = .ok (.istore 7, 2) := by decide +kernel
theorem dX6_adds_134 : decode cX6_adds 134 = .ok (.iload 7, 2) := by decide +kernel
theorem dX6_adds_136 : decode cX6_adds 136 = .ok (.ifCond .eq 23, 3) := by decide +kernel
theorem dX6_adds_139 : decode cX6_adds 139 = .ok (.aload_n 0, 1) := by decide +kernel
theorem dX6_adds_140 : decode cX6_adds 140 = .ok (.getfield 61, 3) := by decide +kernel
theorem dX6_adds_143 : decode cX6_adds 143 = .ok (.iload 6, 2) := by decide +kernel
theorem dX6_adds_145 : decode cX6_adds 145 = .ok (.iload 5, 2) := by decide +kernel
theorem dX6_adds_147 : decode cX6_adds 147 = .ok (.isub, 1) := by decide +kernel
theorem dX6_adds_148 : decode cX6_adds 148 = .ok (.iaload, 1) := by decide +kernel
theorem dX6_adds_149 : decode cX6_adds 149 = .ok (.aload_n 0, 1) := by decide +kernel
theorem dX6_adds_150 : decode cX6_adds 150 = .ok (.getfield 22, 3) := by decide +kernel
theorem dX6_adds_153 : decode cX6_adds 153 = .ok (.iload_n 1, 1) := by decide +kernel
theorem dX6_adds_154 : decode cX6_adds 154 = .ok (.iaload, 1) := by decide +kernel
theorem dX6_adds_155 : decode cX6_adds 155 = .ok (.iadd, 1) := by decide +kernel
theorem dX6_adds_156 : decode cX6_adds 156 = .ok (.goto 4, 3) := by decide +kernel
theorem dX6_adds_159 : decode cX6_adds 159 = .ok (.iconst 0, 1) := by decide +kernel
theorem dX6_adds_160 : decode cX6_adds 160 = .ok (.istore 8, 2) := by decide +kernel
theorem dX6_adds_162 : decode cX6_adds 162 = .ok (.aload_n 0, 1) := by decide +kernel
theorem dX6_adds_163 : decode cX6_adds 163 = .ok (.getfield 61, 3) := by decide +kernel
theorem dX6_adds_166 : decode cX6_adds 166 = .ok (.iload 6, 2) := by decide +kernel
theorem dX6_adds_168 : decode cX6_adds 168 = .ok (.iload 8, 2) := by decide +kernel
theorem dX6_adds_170 : decode cX6_adds 170 = .ok (.aload_n 0, 1) := by decide +kernel
theorem dX6_adds_171 : decode cX6_adds 171 = .ok (.getfield 61, 3) := by decide +kernel
theorem dX6_adds_174 : decode cX6_adds 174 = .ok (.iload 6, 2) := by decide +kernel
theorem dX6_adds_176 : decode cX6_adds 176 = .ok (.iaload, 1) := by decide +kernel
theorem dX6_adds_177 : decode cX6_adds 177 = .ok (.if_icmp .le 8, 3) := by decide +kernel
theorem dX6_adds_180 : decode cX6_adds 180 = .ok (.iload 8, 2) := by decide +kernel
theorem dX6_adds_182 : decode cX6_adds 182 = .ok (.goto 10, 3) := by decide +kernel
theorem dX6_adds_185 : decode cX6_adds 185 = .ok (.aload_n 0, 1) := by decide +kernel
theorem dX6_adds_186 : decode cX6_adds 186 = .ok (.getfield 61, 3) := by decide +kernel
theorem dX6_adds_189 : decode cX6_adds 189 = .ok (.iload 6, 2) := by decide +kernel
theorem dX6_adds_191 : decode cX6_adds 191 = .ok (.iaload, 1) := by decide +kernel
theorem dX6_adds_192 : decode cX6_adds 192 = .ok (.iastore, 1) := by decide +kernel
theorem dX6_adds_193 : decode cX6_adds 193 = .ok (.iinc 6 (-1), 3) := by decide +kernel
theorem dX6_adds_196 : decode cX6_adds 196 = .ok (.goto (-106), 3) := by decide +kernel
theorem dX6_adds_199 : decode cX6_adds 199 = .ok (.return_, 1) := by decide +kernel
set_option maxRecDepth 20000 in
theorem ggX6_finds_X6_adds : GoodIn wsX6_finds wsX6_adds := goodIn_r _ [9, 10, 11, 1, 12, 13, 14, 8, 15, 16, 17, 18, 19, 20, 21, 22, 23, 24, 25, 26, 27, 28, 29, 30, 31, 32, 33, 34, 35, 36, 37, 38, 39, 40] (by decide +kernel) (by decide +kernel)
set_option maxRecDepth 20000 in
theorem gX6_finds_X6_adds : GoodIn wsX6_finds (wsV RX6 78 RX6 yX6_adds wsX6_adds) := goodIn_app (goodIn_of _ (by decide +kernel)) ggX6_finds_X6_adds
theorem dX6_finds_0 : decode cX6_finds 0 = .ok (.iconst 0, 1) := by decide +kernel
theorem dX6_finds_1 : decode cX6_finds 1 = .ok (.istore_n 1, 1) := by decide +kernel
theorem dX6_finds_2 : decode cX6_finds 2 = .ok (.iload_n 1, 1) := by decide +kernel
theorem dX6_finds_3 : decode cX6_finds 3 = .ok (.sipush 1728, 3) := by decide +kernel
theorem dX6_finds_6 : decode cX6_finds 6 = .ok (.if_icmp .ge 16, 3) := by decide +kernel
theorem dX6_finds_9 : decode cX6_finds 9 = .ok (.aload_n 0, 1) := by decide +kernel
theorem dX6_finds_10 : decode cX6_finds 10 = .ok (.getfield 61, 3) := by decide +kernel
theorem dX6_finds_13 : decode cX6_finds 13 = .ok (.iload_n 1, 1) := by decide +kernel
theorem dX6_finds_14 : decode cX6_finds 14 = .ok (.iconst 0, 1) := by decide +kernel
theorem dX6_finds_15 : decode cX6_finds 15 = .ok (.iastore, 1) := by decide +kernel
theorem dX6_finds_16 : decode cX6_finds 16 = .ok (.iinc 1 1, 3) := by decide +kernel
theorem dX6_finds_19 : decode cX6_finds 19 = .ok (.goto (-17), 3) := by decide +kernel
theorem dX6_finds_22 : decode cX6_finds 22 = .ok (.iconst 0, 1) := by decide +kernel
theorem dX6_finds_23 : decode cX6_finds 23 = .ok (.istore_n 1, 1) := by decide +kernel
theorem dX6_finds_24 : decode cX6_finds 24 = .ok (.iload_n 1, 1) := by decide +kernel
theorem dX6_finds_25 : decode cX6_finds 25 = .ok (.aload_n 0, 1) := by decide +kernel
theorem dX6_finds_26 : decode cX6_finds 26 = .ok (.getfield 71, 3) := by decide +kernel
theorem dX6_finds_29 : decode cX6_finds 29 = .ok (.if_icmp .ge 47, 3) := by decide +kernel
theorem dX6_finds_32 : decode cX6_finds 32 = .ok (.aload_n 0, 1) := by decide +kernel
theorem dX6_finds_33 : decode cX6_finds 33 = .ok (.getfield 25, 3) := by decide +kernel
theorem dX6_finds_36 : decode cX6_finds 36 = .ok (.iload_n 1, 1) := by decide +kernel
theorem dX6_finds_37 : decode cX6_finds 37 = .ok (.iaload, 1) := by decide +kernel
theorem dX6_finds_38 : decode cX6_finds 38 = .ok (.aload_n 0, 1) := by decide +kernel
theorem dX6_finds_39 : decode cX6_finds 39 = .ok (.getfield 28, 3) := by decide +kernel
theorem dX6_finds_42 : decode cX6_finds 42 = .ok (.iload_n 1, 1) := by decide +kernel
theorem dX6_finds_43 : decode cX6_finds 43 = .ok (.iaload, 1) := by decide +kernel
theorem dX6_finds_44 : decode cX6_finds 44 = .ok (.isub, 1) := by decide +kernel
theorem dX6_finds_45 : decode cX6_finds 45 = .ok (.istore_n 2, 1) := by decide +kernel
theorem dX6_finds_46 : decode cX6_finds 46 = .ok (.iconst 0, 1) := by decide +kernel
theorem dX6_finds_47 : decode cX6_finds 47 = .ok (.istore_n 3, 1) := by decide +kernel
theorem dX6_finds_48 : decode cX6_finds 48 = .ok (.iload_n 3, 1) := by decide +kernel
theorem dX6_finds_49 : decode cX6_finds 49 = .ok (.iload_n 2, 1) := by decide +kernel
theorem dX6_finds_50 : decode cX6_finds 50 = .ok (.if_icmp .ge 20, 3) := by decide +kernel
theorem dX6_finds_53 : decode cX6_finds 53 = .ok (.iload_n 3, 1) := by decide +kernel
theorem dX6_finds_54 : decode cX6_finds 54 = .ok (.bipush 12, 2) := by decide +kernel
theorem dX6_finds_56 : decode cX6_finds 56 = .ok (.if_icmp .ge 14, 3) := by decide +kernel
theorem dX6_finds_59 : decode cX6_finds 59 = .ok (.aload_n 0, 1) := by decide +kernel
theorem dX6_finds_60 : decode cX6_finds 60 = .ok (.iload_n 1, 1) := by decide +kernel
theorem dX6_finds_61 : decode cX6_finds 61 = .ok (.invokevirtual 78, 3) := by decide +kernel
theorem dX6_finds_64 : decode cX6_finds 64 = .ok (.iinc 3 1, 3) := by decide +kernel
theorem dX6_finds_67 : decode cX6_finds 67 = .ok (.goto (-19), 3) := by decide +kernel
theorem dX6_finds_70 : decode cX6_finds 70 = .ok (.iinc 1 1, 3) := by decide +kernel
theorem dX6_finds_73 : decode cX6_finds 73 = .ok (.goto (-49), 3) := by decide +kernel
theorem dX6_finds_76 : decode cX6_finds 76 = .ok (.return_, 1) := by decide +kernel
set_option maxRecDepth 20000 in
theorem ggX6_worthOf_X6_left : GoodIn wsX6_worthOf wsX6_left := goodIn_r _ [6, 7, 8, 12, 13, 14, 15, 16, 17, 18, 19, 20, 21, 22, 23, 24, 25, 26, 27, 28, 29, 30, 31, 32, 33] (by decide +kernel) (by decide +kernel)
set_option maxRecDepth 20000 in
theorem gX6_worthOf_X6_left : GoodIn wsX6_worthOf (wsV RX6 82 RX6 yX6_left wsX6_left) := goodIn_app (goodIn_of _ (by decide +kernel)) ggX6_worthOf_X6_left
set_option maxRecDepth 20000 in
theorem ggX6_worthOf_X6_place : GoodIn wsX6_worthOf wsX6_place := goodIn_r _ [11] (by decide +kernel) (by decide +kernel)
set_option maxRecDepth 20000 in
theorem gX6_worthOf_X6_place : GoodIn wsX6_worthOf (va_wsS RX6 74 yX6_place wsX6_place) := goodIn_app (goodIn_of _ (by decide +kernel)) ggX6_worthOf_X6_place
theorem dX6_worthOf_0 : decode cX6_worthOf 0 = .ok (.aload_n 0, 1) := by decide +kernel
theorem dX6_worthOf_1 : decode cX6_worthOf 1 = .ok (.getfield 61, 3) := by decide +kernel
theorem dX6_worthOf_4 : decode cX6_worthOf 4 = .ok (.aload_n 0, 1) := by decide +kernel
theorem dX6_worthOf_5 : decode cX6_worthOf 5 = .ok (.iconst 0, 1) := by decide +kernel
theorem dX6_worthOf_6 : decode cX6_worthOf 6 = .ok (.invokevirtual 82, 3) := by decide +kernel
theorem dX6_worthOf_9 : decode cX6_worthOf 9 = .ok (.iload_n 1, 1) := by decide +kernel
theorem dX6_worthOf_10 : decode cX6_worthOf 10 = .ok (.iadd, 1) := by decide +kernel
theorem dX6_worthOf_11 : decode cX6_worthOf 11 = .ok (.aload_n 0, 1) := by decide +kernel
theorem dX6_worthOf_12 : decode cX6_worthOf 12 = .ok (.iconst 1, 1) := by decide +kernel
theorem dX6_worthOf_13 : decode cX6_worthOf 13 = .ok (.invokevirtual 82, 3) := by decide +kernel
theorem dX6_worthOf_16 : decode cX6_worthOf 16 = .ok (.iload_n 2, 1) := by decide +kernel
theorem dX6_worthOf_17 : decode cX6_worthOf 17 = .ok (.iadd, 1) := by decide +kernel
theorem dX6_worthOf_18 : decode cX6_worthOf 18 = .ok (.aload_n 0, 1) := by decide +kernel
theorem dX6_worthOf_19 : decode cX6_worthOf 19 = .ok (.iconst 2, 1) := by decide +kernel
theorem dX6_worthOf_20 : decode cX6_worthOf 20 = .ok (.invokevirtual 82, 3) := by decide +kernel
theorem dX6_worthOf_23 : decode cX6_worthOf 23 = .ok (.iload_n 3, 1) := by decide +kernel
theorem dX6_worthOf_24 : decode cX6_worthOf 24 = .ok (.iadd, 1) := by decide +kernel
theorem dX6_worthOf_25 : decode cX6_worthOf 25 = .ok (.invokestatic 74, 3) := by decide +kernel
theorem dX6_worthOf_28 : decode cX6_worthOf 28 = .ok (.iaload, 1) := by decide +kernel
theorem dX6_worthOf_29 : decode cX6_worthOf 29 = .ok (.ireturn, 1) := by decide +kernel
set_option maxRecDepth 20000 in
theorem ggX6_bidOf_X6_worthOf : GoodIn wsX6_bidOf wsX6_worthOf := goodIn_r _ [5, 6, 7, 8, 9, 4, 10, 11, 12, 13, 14, 15, 16, 17, 18, 19, 20, 21, 22, 23, 24, 25, 26, 27, 28, 29, 30, 31, 32, 33, 34, 35, 36, 37] (by decide +kernel) (by decide +kernel)
set_option maxRecDepth 20000 in
theorem gX6_bidOf_X6_worthOf : GoodIn wsX6_bidOf (wsV RX6 86 RX6 yX6_worthOf wsX6_worthOf) := goodIn_app (goodIn_of _ (by decide +kernel)) ggX6_bidOf_X6_worthOf
theorem dX6_bidOf_0 : decode cX6_bidOf 0 = .ok (.aload_n 0, 1) := by decide +kernel
theorem dX6_bidOf_1 : decode cX6_bidOf 1 = .ok (.iload_n 1, 1) := by decide +kernel
theorem dX6_bidOf_2 : decode cX6_bidOf 2 = .ok (.ifCond .ne 7, 3) := by decide +kernel
theorem dX6_bidOf_5 : decode cX6_bidOf 5 = .ok (.iconst 1, 1) := by decide +kernel
theorem dX6_bidOf_6 : decode cX6_bidOf 6 = .ok (.goto 4, 3) := by decide +kernel
theorem dX6_bidOf_9 : decode cX6_bidOf 9 = .ok (.iconst 0, 1) := by decide +kernel
theorem dX6_bidOf_10 : decode cX6_bidOf 10 = .ok (.iload_n 1, 1) := by decide +kernel
theorem dX6_bidOf_11 : decode cX6_bidOf 11 = .ok (.iconst 1, 1) := by decide +kernel
theorem dX6_bidOf_12 : decode cX6_bidOf 12 = .ok (.if_icmp .ne 7, 3) := by decide +kernel
theorem dX6_bidOf_15 : decode cX6_bidOf 15 = .ok (.iconst 1, 1) := by decide +kernel
theorem dX6_bidOf_16 : decode cX6_bidOf 16 = .ok (.goto 4, 3) := by decide +kernel
theorem dX6_bidOf_19 : decode cX6_bidOf 19 = .ok (.iconst 0, 1) := by decide +kernel
theorem dX6_bidOf_20 : decode cX6_bidOf 20 = .ok (.iload_n 1, 1) := by decide +kernel
theorem dX6_bidOf_21 : decode cX6_bidOf 21 = .ok (.iconst 2, 1) := by decide +kernel
theorem dX6_bidOf_22 : decode cX6_bidOf 22 = .ok (.if_icmp .ne 7, 3) := by decide +kernel
theorem dX6_bidOf_25 : decode cX6_bidOf 25 = .ok (.iconst 1, 1) := by decide +kernel
theorem dX6_bidOf_26 : decode cX6_bidOf 26 = .ok (.goto 4, 3) := by decide +kernel
theorem dX6_bidOf_29 : decode cX6_bidOf 29 = .ok (.iconst 0, 1) := by decide +kernel
theorem dX6_bidOf_30 : decode cX6_bidOf 30 = .ok (.invokevirtual 86, 3) := by decide +kernel
theorem dX6_bidOf_33 : decode cX6_bidOf 33 = .ok (.aload_n 0, 1) := by decide +kernel
theorem dX6_bidOf_34 : decode cX6_bidOf 34 = .ok (.iconst 0, 1) := by decide +kernel
theorem dX6_bidOf_35 : decode cX6_bidOf 35 = .ok (.iconst 0, 1) := by decide +kernel
theorem dX6_bidOf_36 : decode cX6_bidOf 36 = .ok (.iconst 0, 1) := by decide +kernel
theorem dX6_bidOf_37 : decode cX6_bidOf 37 = .ok (.invokevirtual 86, 3) := by decide +kernel
theorem dX6_bidOf_40 : decode cX6_bidOf 40 = .ok (.isub, 1) := by decide +kernel
theorem dX6_bidOf_41 : decode cX6_bidOf 41 = .ok (.ireturn, 1) := by decide +kernel
set_option maxRecDepth 20000 in
theorem ggX6_displaces_X6_worthOf : GoodIn wsX6_displaces wsX6_worthOf := goodIn_r _ [5, 6, 7, 8, 9, 4, 10, 11, 12, 13, 14, 15, 19, 20, 21, 22, 23, 24, 25, 26, 27, 28, 29, 30, 31, 32, 33, 34, 35, 36, 37, 38, 39, 40] (by decide +kernel) (by decide +kernel)
set_option maxRecDepth 20000 in
theorem gX6_displaces_X6_worthOf : GoodIn wsX6_displaces (wsV RX6 86 RX6 yX6_worthOf wsX6_worthOf) := goodIn_app (goodIn_of _ (by decide +kernel)) ggX6_displaces_X6_worthOf
set_option maxRecDepth 20000 in
theorem ggX6_displaces_X6_isIn : GoodIn wsX6_displaces wsX6_isIn := goodIn_r _ [18] (by decide +kernel) (by decide +kernel)
set_option maxRecDepth 20000 in
theorem gX6_displaces_X6_isIn : GoodIn wsX6_displaces (va_wsS RX6 67 yX6_isIn wsX6_isIn) := goodIn_app (goodIn_of _ (by decide +kernel)) ggX6_displaces_X6_isIn
theorem dX6_displaces_0 : decode cX6_displaces 0 = .ok (.aload_n 0, 1) := by decide +kernel
theorem dX6_displaces_1 : decode cX6_displaces 1 = .ok (.iconst 0, 1) := by decide +kernel
theorem dX6_displaces_2 : decode cX6_displaces 2 = .ok (.iconst 0, 1) := by decide +kernel
theorem dX6_displaces_3 : decode cX6_displaces 3 = .ok (.iconst 0, 1) := by decide +kernel
theorem dX6_displaces_4 : decode cX6_displaces 4 = .ok (.invokevirtual 86, 3) := by decide +kernel
theorem dX6_displaces_7 : decode cX6_displaces 7 = .ok (.aload_n 0, 1) := by decide +kernel
theorem dX6_displaces_8 : decode cX6_displaces 8 = .ok (.iconst 0, 1) := by decide +kernel
theorem dX6_displaces_9 : decode cX6_displaces 9 = .ok (.iload_n 1, 1) := by decide +kernel
theorem dX6_displaces_10 : decode cX6_displaces 10 = .ok (.iload_n 2, 1) := by decide +kernel
theorem dX6_displaces_11 : decode cX6_displaces 11 = .ok (.invokestatic 67, 3) := by decide +kernel
theorem dX6_displaces_14 : decode cX6_displaces 14 = .ok (.ifCond .eq 8, 3) := by decide +kernel
theorem dX6_displaces_17 : decode cX6_displaces 17 = .ok (.iload_n 3, 1) := by decide +kernel
theorem dX6_displaces_18 : decode cX6_displaces 18 = .ok (.ineg, 1) := by decide +kernel
theorem dX6_displaces_19 : decode cX6_displaces 19 = .ok (.goto 4, 3) := by decide +kernel
theorem dX6_displaces_22 : decode cX6_displaces 22 = .ok (.iconst 0, 1) := by decide +kernel
theorem dX6_displaces_23 : decode cX6_displaces 23 = .ok (.iconst 1, 1) := by decide +kernel
theorem dX6_displaces_24 : decode cX6_displaces 24 = .ok (.iload_n 1, 1) := by decide +kernel
theorem dX6_displaces_25 : decode cX6_displaces 25 = .ok (.iload_n 2, 1) := by decide +kernel
theorem dX6_displaces_26 : decode cX6_displaces 26 = .ok (.invokestatic 67, 3) := by decide +kernel
theorem dX6_displaces_29 : decode cX6_displaces 29 = .ok (.ifCond .eq 8, 3) := by decide +kernel
theorem dX6_displaces_32 : decode cX6_displaces 32 = .ok (.iload_n 3, 1) := by decide +kernel
theorem dX6_displaces_33 : decode cX6_displaces 33 = .ok (.ineg, 1) := by decide +kernel
theorem dX6_displaces_34 : decode cX6_displaces 34 = .ok (.goto 4, 3) := by decide +kernel
theorem dX6_displaces_37 : decode cX6_displaces 37 = .ok (.iconst 0, 1) := by decide +kernel
theorem dX6_displaces_38 : decode cX6_displaces 38 = .ok (.iconst 2, 1) := by decide +kernel
theorem dX6_displaces_39 : decode cX6_displaces 39 = .ok (.iload_n 1, 1) := by decide +kernel
theorem dX6_displaces_40 : decode cX6_displaces 40 = .ok (.iload_n 2, 1) := by decide +kernel
theorem dX6_displaces_41 : decode cX6_displaces 41 = .ok (.invokestatic 67, 3) := by decide +kernel
theorem dX6_displaces_44 : decode cX6_displaces 44 = .ok (.ifCond .eq 8, 3) := by decide +kernel
theorem dX6_displaces_47 : decode cX6_displaces 47 = .ok (.iload_n 3, 1) := by decide +kernel
theorem dX6_displaces_48 : decode cX6_displaces 48 = .ok (.ineg, 1) := by decide +kernel
theorem dX6_displaces_49 : decode cX6_displaces 49 = .ok (.goto 4, 3) := by decide +kernel
theorem dX6_displaces_52 : decode cX6_displaces 52 = .ok (.iconst 0, 1) := by decide +kernel
theorem dX6_displaces_53 : decode cX6_displaces 53 = .ok (.invokevirtual 86, 3) := by decide +kernel
theorem dX6_displaces_56 : decode cX6_displaces 56 = .ok (.isub, 1) := by decide +kernel
theorem dX6_displaces_57 : decode cX6_displaces 57 = .ok (.ireturn, 1) := by decide +kernel
set_option maxRecDepth 20000 in
theorem ggX6_isTooFull_X6_left : GoodIn wsX6_isTooFull wsX6_left := goodIn_r _ [5, 6, 7, 8, 9, 10, 11, 12, 13, 14, 15, 16, 17, 18, 19, 20, 21, 22, 23, 24, 25, 26, 27, 28, 29] (by decide +kernel) (by decide +kernel)
set_option maxRecDepth 20000 in
theorem gX6_isTooFull_X6_left : GoodIn wsX6_isTooFull (wsV RX6 82 RX6 yX6_left wsX6_left) := goodIn_app (goodIn_of _ (by decide +kernel)) ggX6_isTooFull_X6_left
theorem dX6_isTooFull_0 : decode cX6_isTooFull 0 = .ok (.iconst 0, 1) := by decide +kernel
theorem dX6_isTooFull_1 : decode cX6_isTooFull 1 = .ok (.istore 4, 2) := by decide +kernel
theorem dX6_isTooFull_3 : decode cX6_isTooFull 3 = .ok (.iload_n 1, 1) := by decide +kernel
theorem dX6_isTooFull_4 : decode cX6_isTooFull 4 = .ok (.istore 5, 2) := by decide +kernel
theorem dX6_isTooFull_6 : decode cX6_isTooFull 6 = .ok (.iload 5, 2) := by decide +kernel
theorem dX6_isTooFull_8 : decode cX6_isTooFull 8 = .ok (.iload_n 2, 1) := by decide +kernel
theorem dX6_isTooFull_9 : decode cX6_isTooFull 9 = .ok (.if_icmp .gt 31, 3) := by decide +kernel
theorem dX6_isTooFull_12 : decode cX6_isTooFull 12 = .ok (.iload 4, 2) := by decide +kernel
theorem dX6_isTooFull_14 : decode cX6_isTooFull 14 = .ok (.ifCond .ne 13, 3) := by decide +kernel
theorem dX6_isTooFull_17 : decode cX6_isTooFull 17 = .ok (.aload_n 0, 1) := by decide +kernel
theorem dX6_isTooFull_18 : decode cX6_isTooFull 18 = .ok (.iload 5, 2) := by decide +kernel
theorem dX6_isTooFull_20 : decode cX6_isTooFull 20 = .ok (.invokevirtual 82, 3) := by decide +kernel
theorem dX6_isTooFull_23 : decode cX6_isTooFull 23 = .ok (.iload_n 3, 1) := by decide +kernel
theorem dX6_isTooFull_24 : decode cX6_isTooFull 24 = .ok (.if_icmp .ge 7, 3) := by decide +kernel
theorem dX6_isTooFull_27 : decode cX6_isTooFull 27 = .ok (.iconst 1, 1) := by decide +kernel
theorem dX6_isTooFull_28 : decode cX6_isTooFull 28 = .ok (.goto 4, 3) := by decide +kernel
theorem dX6_isTooFull_31 : decode cX6_isTooFull 31 = .ok (.iconst 0, 1) := by decide +kernel
theorem dX6_isTooFull_32 : decode cX6_isTooFull 32 = .ok (.istore 4, 2) := by decide +kernel
theorem dX6_isTooFull_34 : decode cX6_isTooFull 34 = .ok (.iinc 5 1, 3) := by decide +kernel
theorem dX6_isTooFull_37 : decode cX6_isTooFull 37 = .ok (.goto (-31), 3) := by decide +kernel
theorem dX6_isTooFull_40 : decode cX6_isTooFull 40 = .ok (.iload 4, 2) := by decide +kernel
theorem dX6_isTooFull_42 : decode cX6_isTooFull 42 = .ok (.ireturn, 1) := by decide +kernel
set_option maxRecDepth 20000 in
theorem ggX6_isSeats_X6_isIn : GoodIn wsX6_isSeats wsX6_isIn := goodIn_r _ [4] (by decide +kernel) (by decide +kernel)
set_option maxRecDepth 20000 in
theorem gX6_isSeats_X6_isIn : GoodIn wsX6_isSeats (va_wsS RX6 67 yX6_isIn wsX6_isIn) := goodIn_app (goodIn_of _ (by decide +kernel)) ggX6_isSeats_X6_isIn
theorem dX6_isSeats_0 : decode cX6_isSeats 0 = .ok (.iload_n 0, 1) := by decide +kernel
theorem dX6_isSeats_1 : decode cX6_isSeats 1 = .ok (.iconst 0, 1) := by decide +kernel
theorem dX6_isSeats_2 : decode cX6_isSeats 2 = .ok (.bipush 10, 2) := by decide +kernel
theorem dX6_isSeats_4 : decode cX6_isSeats 4 = .ok (.invokestatic 67, 3) := by decide +kernel
theorem dX6_isSeats_7 : decode cX6_isSeats 7 = .ok (.ireturn, 1) := by decide +kernel
set_option maxRecDepth 20000 in
theorem ggX6_setSeats_X6_isSeats : GoodIn wsX6_setSeats wsX6_isSeats := goodIn_r _ [5, 6, 7, 4, 8] (by decide +kernel) (by decide +kernel)
set_option maxRecDepth 20000 in
theorem gX6_setSeats_X6_isSeats : GoodIn wsX6_setSeats (va_wsS RX6 89 yX6_isSeats wsX6_isSeats) := goodIn_app (goodIn_of _ (by decide +kernel)) ggX6_setSeats_X6_isSeats
set_option maxRecDepth 20000 in
theorem ggX6_setSeats_X6_fails : GoodIn wsX6_setSeats wsX6_fails := goodIn_r _ [12, 13, 14, 15, 16, 17, 18, 19, 20, 21, 22, 23, 24, 25, 26, 27, 28, 29, 30, 31, 32, 33, 34, 35] (by decide +kernel) (by decide +kernel)
set_option maxRecDepth 20000 in
theorem gX6_setSeats_X6_fails : GoodIn wsX6_setSeats (wsV RX6 93 RX6 yX6_fails wsX6_fails) := goodIn_app (goodIn_of _ (by decide +kernel)) ggX6_setSeats_X6_fails
theorem dX6_setSeats_0 : decode cX6_setSeats 0 = .ok (.aload_n 0, 1) := by decide +kernel
theorem dX6_setSeats_1 : decode cX6_setSeats 1 = .ok (.iload_n 1, 1) := by decide +kernel
theorem dX6_setSeats_2 : decode cX6_setSeats 2 = .ok (.invokestatic 89, 3) := by decide +kernel
theorem dX6_setSeats_5 : decode cX6_setSeats 5 = .ok (.ifCond .eq 21, 3) := by decide +kernel
theorem dX6_setSeats_8 : decode cX6_setSeats 8 = .ok (.iload_n 2, 1) := by decide +kernel
theorem dX6_setSeats_9 : decode cX6_setSeats 9 = .ok (.invokestatic 89, 3) := by decide +kernel
theorem dX6_setSeats_12 : decode cX6_setSeats 12 = .ok (.ifCond .eq 14, 3) := by decide +kernel
theorem dX6_setSeats_15 : decode cX6_setSeats 15 = .ok (.iload_n 3, 1) := by decide +kernel
theorem dX6_setSeats_16 : decode cX6_setSeats 16 = .ok (.invokestatic 89, 3) := by decide +kernel
theorem dX6_setSeats_19 : decode cX6_setSeats 19 = .ok (.ifCond .eq 7, 3) := by decide +kernel
theorem dX6_setSeats_22 : decode cX6_setSeats 22 = .ok (.iconst 0, 1) := by decide +kernel
theorem dX6_setSeats_23 : decode cX6_setSeats 23 = .ok (.goto 4, 3) := by decide +kernel
theorem dX6_setSeats_26 : decode cX6_setSeats 26 = .ok (.iconst 1, 1) := by decide +kernel
theorem dX6_setSeats_27 : decode cX6_setSeats 27 = .ok (.invokevirtual 93, 3) := by decide +kernel
theorem dX6_setSeats_30 : decode cX6_setSeats 30 = .ok (.ifCond .ne 24, 3) := by decide +kernel
theorem dX6_setSeats_33 : decode cX6_setSeats 33 = .ok (.aload_n 0, 1) := by decide +kernel
theorem dX6_setSeats_34 : decode cX6_setSeats 34 = .ok (.getfield 7, 3) := by decide +kernel
theorem dX6_setSeats_37 : decode cX6_setSeats 37 = .ok (.iconst 0, 1) := by decide +kernel
theorem dX6_setSeats_38 : decode cX6_setSeats 38 = .ok (.iload_n 1, 1) := by decide +kernel
theorem dX6_setSeats_39 : decode cX6_setSeats 39 = .ok (.iastore, 1) := by decide +kernel
theorem dX6_setSeats_40 : decode cX6_setSeats 40 = .ok (.aload_n 0, 1) := by decide +kernel
theorem dX6_setSeats_41 : decode cX6_setSeats 41 = .ok (.getfield 7, 3) := by decide +kernel
theorem dX6_setSeats_44 : decode cX6_setSeats 44 = .ok (.iconst 1, 1) := by decide +kernel
theorem dX6_setSeats_45 : decode cX6_setSeats 45 = .ok (.iload_n 2, 1) := by decide +kernel
theorem dX6_setSeats_46 : decode cX6_setSeats 46 = .ok (.iastore, 1) := by decide +kernel
theorem dX6_setSeats_47 : decode cX6_setSeats 47 = .ok (.aload_n 0, 1) := by decide +kernel
theorem dX6_setSeats_48 : decode cX6_setSeats 48 = .ok (.getfield 7, 3) := by decide +kernel
theorem dX6_setSeats_51 : decode cX6_setSeats 51 = .ok (.iconst 2, 1) := by decide +kernel
theorem dX6_setSeats_52 : decode cX6_setSeats 52 = .ok (.iload_n 3, 1) := by decide +kernel
theorem dX6_setSeats_53 : decode cX6_setSeats 53 = .ok (.iastore, 1) := by decide +kernel
theorem dX6_setSeats_54 : decode cX6_setSeats 54 = .ok (.return_, 1) := by decide +kernel
set_option maxRecDepth 20000 in
theorem ggX6_addProduct_X6_isLeg : GoodIn wsX6_addProduct wsX6_isLeg := goodIn_r _ [10, 11, 12, 9, 13] (by decide +kernel) (by decide +kernel)
set_option maxRecDepth 20000 in
theorem gX6_addProduct_X6_isLeg : GoodIn wsX6_addProduct (va_wsS RX6 96 yX6_isLeg wsX6_isLeg) := goodIn_app (goodIn_of _ (by decide +kernel)) ggX6_addProduct_X6_isLeg
set_option maxRecDepth 20000 in
theorem ggX6_addProduct_X6_isIn : GoodIn wsX6_addProduct wsX6_isIn := goodIn_r _ [13] (by decide +kernel) (by decide +kernel)
set_option maxRecDepth 20000 in
theorem gX6_addProduct_X6_isIn : GoodIn wsX6_addProduct (va_wsS RX6 67 yX6_isIn wsX6_isIn) := goodIn_app (goodIn_of _ (by decide +kernel)) ggX6_addProduct_X6_isIn
set_option maxRecDepth 20000 in
theorem ggX6_addProduct_X6_fails : GoodIn wsX6_addProduct wsX6_fails := goodIn_r _ [17, 18, 19, 20, 21, 22, 23, 24, 25, 26, 27, 28, 29, 30, 31, 32, 33, 34, 35, 36, 37, 38, 39, 40] (by decide +kernel) (by decide +kernel)
set_option maxRecDepth 20000 in
theorem gX6_addProduct_X6_fails : GoodIn wsX6_addProduct (wsV RX6 93 RX6 yX6_fails wsX6_fails) := goodIn_app (goodIn_of _ (by decide +kernel)) ggX6_addProduct_X6_fails
theorem dX6_addProduct_0 : decode cX6_addProduct 0 = .ok (.iload_n 1, 1) := by decide +kernel
theorem dX6_addProduct_1 : decode cX6_addProduct 1 = .ok (.invokestatic 96, 3) := by decide +kernel
theorem dX6_addProduct_4 : decode cX6_addProduct 4 = .ok (.ifCond .eq 14, 3) := by decide +kernel
theorem dX6_addProduct_7 : decode cX6_addProduct 7 = .ok (.iload_n 2, 1) := by decide +kernel
theorem dX6_addProduct_8 : decode cX6_addProduct 8 = .ok (.invokestatic 96, 3) := by decide +kernel
theorem dX6_addProduct_11 : decode cX6_addProduct 11 = .ok (.ifCond .eq 7, 3) := by decide +kernel
theorem dX6_addProduct_14 : decode cX6_addProduct 14 = .ok (.iconst 1, 1) := by decide +kernel
theorem dX6_addProduct_15 : decode cX6_addProduct 15 = .ok (.goto 4, 3) := by decide +kernel
theorem dX6_addProduct_18 : decode cX6_addProduct 18 = .ok (.iconst 0, 1) := by decide +kernel
theorem dX6_addProduct_19 : decode cX6_addProduct 19 = .ok (.istore 4, 2) := by decide +kernel
theorem dX6_addProduct_21 : decode cX6_addProduct 21 = .ok (.iload_n 2, 1) := by decide +kernel
theorem dX6_addProduct_22 : decode cX6_addProduct 22 = .ok (.iload_n 1, 1) := by decide +kernel
theorem dX6_addProduct_23 : decode cX6_addProduct 23 = .ok (.if_icmp .lt 18, 3) := by decide +kernel
theorem dX6_addProduct_26 : decode cX6_addProduct 26 = .ok (.iload_n 3, 1) := by decide +kernel
theorem dX6_addProduct_27 : decode cX6_addProduct 27 = .ok (.iconst 1, 1) := by decide +kernel
theorem dX6_addProduct_28 : decode cX6_addProduct 28 = .ok (.sipush 1000, 3) := by decide +kernel
theorem dX6_addProduct_31 : decode cX6_addProduct 31 = .ok (.invokestatic 67, 3) := by decide +kernel
theorem dX6_addProduct_34 : decode cX6_addProduct 34 = .ok (.ifCond .eq 7, 3) := by decide +kernel
theorem dX6_addProduct_37 : decode cX6_addProduct 37 = .ok (.iconst 1, 1) := by decide +kernel
theorem dX6_addProduct_38 : decode cX6_addProduct 38 = .ok (.goto 4, 3) := by decide +kernel
theorem dX6_addProduct_41 : decode cX6_addProduct 41 = .ok (.iconst 0, 1) := by decide +kernel
theorem dX6_addProduct_42 : decode cX6_addProduct 42 = .ok (.istore 5, 2) := by decide +kernel
theorem dX6_addProduct_44 : decode cX6_addProduct 44 = .ok (.iconst 0, 1) := by decide +kernel
theorem dX6_addProduct_45 : decode cX6_addProduct 45 = .ok (.istore 6, 2) := by decide +kernel
theorem dX6_addProduct_47 : decode cX6_addProduct 47 = .ok (.iconst 0, 1) := by decide +kernel
theorem dX6_addProduct_48 : decode cX6_addProduct 48 = .ok (.istore 7, 2) := by decide +kernel
theorem dX6_addProduct_50 : decode cX6_addProduct 50 = .ok (.iload 7, 2) := by decide +kernel
theorem dX6_addProduct_52 : decode cX6_addProduct 52 = .ok (.aload_n 0, 1) := by decide +kernel
theorem dX6_addProduct_53 : decode cX6_addProduct 53 = .ok (.getfield 71, 3) := by decide +kernel
theorem dX6_addProduct_56 : decode cX6_addProduct 56 = .ok (.if_icmp .ge 54, 3) := by decide +kernel
theorem dX6_addProduct_59 : decode cX6_addProduct 59 = .ok (.iload 6, 2) := by decide +kernel
theorem dX6_addProduct_61 : decode cX6_addProduct 61 = .ok (.ifCond .ne 36, 3) := by decide +kernel
theorem dX6_addProduct_64 : decode cX6_addProduct 64 = .ok (.aload_n 0, 1) := by decide +kernel
theorem dX6_addProduct_65 : decode cX6_addProduct 65 = .ok (.getfield 16, 3) := by decide +kernel
theorem dX6_addProduct_68 : decode cX6_addProduct 68 = .ok (.iload 7, 2) := by decide +kernel
theorem dX6_addProduct_70 : decode cX6_addProduct 70 = .ok (.iaload, 1) := by decide +kernel
theorem dX6_addProduct_71 : decode cX6_addProduct 71 = .ok (.iload_n 1, 1) := by decide +kernel
theorem dX6_addProduct_72 : decode cX6_addProduct 72 = .ok (.if_icmp .ne 29, 3) := by decide +kernel
theorem dX6_addProduct_75 : decode cX6_addProduct 75 = .ok (.aload_n 0, 1) := by decide +kernel
theorem dX6_addProduct_76 : decode cX6_addProduct 76 = .ok (.getfield 19, 3) := by decide +kernel
theorem dX6_addProduct_79 : decode cX6_addProduct 79 = .ok (.iload 7, 2) := by decide +kernel
theorem dX6_addProduct_81 : decode cX6_addProduct 81 = .ok (.iaload, 1) := by decide +kernel
theorem dX6_addProduct_82 : decode cX6_addProduct 82 = .ok (.iload_n 2, 1) := by decide +kernel
theorem dX6_addProduct_83 : decode cX6_addProduct 83 = .ok (.if_icmp .ne 18, 3) := by decide +kernel
theorem dX6_addProduct_86 : decode cX6_addProduct 86 = .ok (.aload_n 0, 1) := by decide +kernel
theorem dX6_addProduct_87 : decode cX6_addProduct 87 = .ok (.getfield 22, 3) := by decide +kernel
theorem dX6_addProduct_90 : decode cX6_addProduct 90 = .ok (.iload 7, 2) := by decide +kernel
theorem dX6_addProduct_92 : decode cX6_addProduct 92 = .ok (.iaload, 1) := by decide +kernel
theorem dX6_addProduct_93 : decode cX6_addProduct 93 = .ok (.iload_n 3, 1) := by decide +kernel
theorem dX6_addProduct_94 : decode cX6_addProduct 94 = .ok (.if_icmp .ne 7, 3) := by decide +kernel
theorem dX6_addProduct_97 : decode cX6_addProduct 97 = .ok (.iconst 1, 1) := by decide +kernel
theorem dX6_addProduct_98 : decode cX6_addProduct 98 = .ok (.goto 4, 3) := by decide +kernel
theorem dX6_addProduct_101 : decode cX6_addProduct 101 = .ok (.iconst 0, 1) := by decide +kernel
theorem dX6_addProduct_102 : decode cX6_addProduct 102 = .ok (.istore 6, 2) := by decide +kernel
theorem dX6_addProduct_104 : decode cX6_addProduct 104 = .ok (.iinc 7 1, 3) := by decide +kernel
theorem dX6_addProduct_107 : decode cX6_addProduct 107 = .ok (.goto (-57), 3) := by decide +kernel
theorem dX6_addProduct_110 : decode cX6_addProduct 110 = .ok (.aload_n 0, 1) := by decide +kernel
theorem dX6_addProduct_111 : decode cX6_addProduct 111 = .ok (.iload 4, 2) := by decide +kernel
theorem dX6_addProduct_113 : decode cX6_addProduct 113 = .ok (.ifCond .ne 7, 3) := by decide +kernel
theorem dX6_addProduct_116 : decode cX6_addProduct 116 = .ok (.iconst 1, 1) := by decide +kernel
theorem dX6_addProduct_117 : decode cX6_addProduct 117 = .ok (.goto 31, 3) := by decide +kernel
theorem dX6_addProduct_120 : decode cX6_addProduct 120 = .ok (.iload 5, 2) := by decide +kernel
theorem dX6_addProduct_122 : decode cX6_addProduct 122 = .ok (.ifCond .ne 7, 3) := by decide +kernel
theorem dX6_addProduct_125 : decode cX6_addProduct 125 = .ok (.iconst 2, 1) := by decide +kernel
theorem dX6_addProduct_126 : decode cX6_addProduct 126 = .ok (.goto 22, 3) := by decide +kernel
theorem dX6_addProduct_129 : decode cX6_addProduct 129 = .ok (.aload_n 0, 1) := by decide +kernel
theorem dX6_addProduct_130 : decode cX6_addProduct 130 = .ok (.getfield 71, 3) := by decide +kernel
theorem dX6_addProduct_133 : decode cX6_addProduct 133 = .ok (.bipush 8, 2) := by decide +kernel
theorem dX6_addProduct_135 : decode cX6_addProduct 135 = .ok (.if_icmp .eq 8, 3) := by decide +kernel
theorem dX6_addProduct_138 : decode cX6_addProduct 138 = .ok (.iload 6, 2) := by decide +kernel
theorem dX6_addProduct_140 : decode cX6_addProduct 140 = .ok (.ifCond .eq 7, 3) := by decide +kernel
theorem dX6_addProduct_143 : decode cX6_addProduct 143 = .ok (.iconst 3, 1) := by decide +kernel
theorem dX6_addProduct_144 : decode cX6_addProduct 144 = .ok (.goto 4, 3) := by decide +kernel
theorem dX6_addProduct_147 : decode cX6_addProduct 147 = .ok (.iconst 0, 1) := by decide +kernel
theorem dX6_addProduct_148 : decode cX6_addProduct 148 = .ok (.invokevirtual 93, 3) := by decide +kernel
theorem dX6_addProduct_151 : decode cX6_addProduct 151 = .ok (.ifCond .eq 5, 3) := by decide +kernel
theorem dX6_addProduct_154 : decode cX6_addProduct 154 = .ok (.iconst 0, 1) := by decide +kernel
theorem dX6_addProduct_155 : decode cX6_addProduct 155 = .ok (.ireturn, 1) := by decide +kernel
theorem dX6_addProduct_156 : decode cX6_addProduct 156 = .ok (.aload_n 0, 1) := by decide +kernel
theorem dX6_addProduct_157 : decode cX6_addProduct 157 = .ok (.getfield 16, 3) := by decide +kernel
theorem dX6_addProduct_160 : decode cX6_addProduct 160 = .ok (.aload_n 0, 1) := by decide +kernel
theorem dX6_addProduct_161 : decode cX6_addProduct 161 = .ok (.getfield 71, 3) := by decide +kernel
theorem dX6_addProduct_164 : decode cX6_addProduct 164 = .ok (.iload_n 1, 1) := by decide +kernel
theorem dX6_addProduct_165 : decode cX6_addProduct 165 = .ok (.iastore, 1) := by decide +kernel
theorem dX6_addProduct_166 : decode cX6_addProduct 166 = .ok (.aload_n 0, 1) := by decide +kernel
theorem dX6_addProduct_167 : decode cX6_addProduct 167 = .ok (.getfield 19, 3) := by decide +kernel
theorem dX6_addProduct_170 : decode cX6_addProduct 170 = .ok (.aload_n 0, 1) := by decide +kernel
theorem dX6_addProduct_171 : decode cX6_addProduct 171 = .ok (.getfield 71, 3) := by decide +kernel
theorem dX6_addProduct_174 : decode cX6_addProduct 174 = .ok (.iload_n 2, 1) := by decide +kernel
theorem dX6_addProduct_175 : decode cX6_addProduct 175 = .ok (.iastore, 1) := by decide +kernel
theorem dX6_addProduct_176 : decode cX6_addProduct 176 = .ok (.aload_n 0, 1) := by decide +kernel
theorem dX6_addProduct_177 : decode cX6_addProduct 177 = .ok (.getfield 22, 3) := by decide +kernel
theorem dX6_addProduct_180 : decode cX6_addProduct 180 = .ok (.aload_n 0, 1) := by decide +kernel
theorem dX6_addProduct_181 : decode cX6_addProduct 181 = .ok (.getfield 71, 3) := by decide +kernel
theorem dX6_addProduct_184 : decode cX6_addProduct 184 = .ok (.iload_n 3, 1) := by decide +kernel
theorem dX6_addProduct_185 : decode cX6_addProduct 185 = .ok (.iastore, 1) := by decide +kernel
theorem dX6_addProduct_186 : decode cX6_addProduct 186 = .ok (.aload_n 0, 1) := by decide +kernel
theorem dX6_addProduct_187 : decode cX6_addProduct 187 = .ok (.getfield 35, 3) := by decide +kernel
theorem dX6_addProduct_190 : decode cX6_addProduct 190 = .ok (.bipush 21, 2) := by decide +kernel
theorem dX6_addProduct_192 : decode cX6_addProduct 192 = .ok (.aload_n 0, 1) := by decide +kernel
theorem dX6_addProduct_193 : decode cX6_addProduct 193 = .ok (.getfield 71, 3) := by decide +kernel
theorem dX6_addProduct_196 : decode cX6_addProduct 196 = .ok (.imul, 1) := by decide +kernel
theorem dX6_addProduct_197 : decode cX6_addProduct 197 = .ok (.aload_n 0, 1) := by decide +kernel
theorem dX6_addProduct_198 : decode cX6_addProduct 198 = .ok (.getfield 99, 3) := by decide +kernel
theorem dX6_addProduct_201 : decode cX6_addProduct 201 = .ok (.iastore, 1) := by decide +kernel
theorem dX6_addProduct_202 : decode cX6_addProduct 202 = .ok (.aload_n 0, 1) := by decide +kernel
theorem dX6_addProduct_203 : decode cX6_addProduct 203 = .ok (.dup, 1) := by decide +kernel
theorem dX6_addProduct_204 : decode cX6_addProduct 204 = .ok (.getfield 71, 3) := by decide +kernel
theorem dX6_addProduct_207 : decode cX6_addProduct 207 = .ok (.iconst 1, 1) := by decide +kernel
theorem dX6_addProduct_208 : decode cX6_addProduct 208 = .ok (.iadd, 1) := by decide +kernel
theorem dX6_addProduct_209 : decode cX6_addProduct 209 = .ok (.putfield 71, 3) := by decide +kernel
theorem dX6_addProduct_212 : decode cX6_addProduct 212 = .ok (.aload_n 0, 1) := by decide +kernel
theorem dX6_addProduct_213 : decode cX6_addProduct 213 = .ok (.getfield 71, 3) := by decide +kernel
theorem dX6_addProduct_216 : decode cX6_addProduct 216 = .ok (.iconst 1, 1) := by decide +kernel
theorem dX6_addProduct_217 : decode cX6_addProduct 217 = .ok (.isub, 1) := by decide +kernel
theorem dX6_addProduct_218 : decode cX6_addProduct 218 = .ok (.ireturn, 1) := by decide +kernel
set_option maxRecDepth 20000 in
theorem ggX6_setExpected_X6_isProduct : GoodIn wsX6_setExpected wsX6_isProduct := goodIn_r _ [6, 7, 8, 9, 5, 10, 16, 17, 18, 19, 20, 21, 22, 23, 24, 25, 26, 27, 28, 29, 30, 31, 32, 33, 34, 35, 36, 37] (by decide +kernel) (by decide +kernel)
set_option maxRecDepth 20000 in
theorem gX6_setExpected_X6_isProduct : GoodIn wsX6_setExpected (wsV RX6 102 RX6 yX6_isProduct wsX6_isProduct) := goodIn_app (goodIn_of _ (by decide +kernel)) ggX6_setExpected_X6_isProduct
set_option maxRecDepth 20000 in
theorem ggX6_setExpected_X6_isIn : GoodIn wsX6_setExpected wsX6_isIn := goodIn_r _ [10] (by decide +kernel) (by decide +kernel)
set_option maxRecDepth 20000 in
theorem gX6_setExpected_X6_isIn : GoodIn wsX6_setExpected (va_wsS RX6 67 yX6_isIn wsX6_isIn) := goodIn_app (goodIn_of _ (by decide +kernel)) ggX6_setExpected_X6_isIn
set_option maxRecDepth 20000 in
theorem ggX6_setExpected_X6_fails : GoodIn wsX6_setExpected wsX6_fails := goodIn_r _ [14, 15, 16, 17, 18, 19, 20, 21, 22, 23, 24, 25, 26, 27, 28, 29, 30, 31, 32, 33, 34, 35, 36, 37] (by decide +kernel) (by decide +kernel)
set_option maxRecDepth 20000 in
theorem gX6_setExpected_X6_fails : GoodIn wsX6_setExpected (wsV RX6 93 RX6 yX6_fails wsX6_fails) := goodIn_app (goodIn_of _ (by decide +kernel)) ggX6_setExpected_X6_fails
theorem dX6_setExpected_0 : decode cX6_setExpected 0 = .ok (.aload_n 0, 1) := by decide +kernel
theorem dX6_setExpected_1 : decode cX6_setExpected 1 = .ok (.aload_n 0, 1) := by decide +kernel
theorem dX6_setExpected_2 : decode cX6_setExpected 2 = .ok (.iload_n 1, 1) := by decide +kernel
theorem dX6_setExpected_3 : decode cX6_setExpected 3 = .ok (.invokevirtual 102, 3) := by decide +kernel
theorem dX6_setExpected_6 : decode cX6_setExpected 6 = .ok (.ifCond .ne 7, 3) := by decide +kernel
theorem dX6_setExpected_9 : decode cX6_setExpected 9 = .ok (.iconst 1, 1) := by decide +kernel
theorem dX6_setExpected_10 : decode cX6_setExpected 10 = .ok (.goto 18, 3) := by decide +kernel
theorem dX6_setExpected_13 : decode cX6_setExpected 13 = .ok (.iload_n 2, 1) := by decide +kernel
theorem dX6_setExpected_14 : decode cX6_setExpected 14 = .ok (.iconst 0, 1) := by decide +kernel
theorem dX6_setExpected_15 : decode cX6_setExpected 15 = .ok (.bipush 20, 2) := by decide +kernel
theorem dX6_setExpected_17 : decode cX6_setExpected 17 = .ok (.invokestatic 67, 3) := by decide +kernel
theorem dX6_setExpected_20 : decode cX6_setExpected 20 = .ok (.ifCond .eq 7, 3) := by decide +kernel
theorem dX6_setExpected_23 : decode cX6_setExpected 23 = .ok (.iconst 0, 1) := by decide +kernel
theorem dX6_setExpected_24 : decode cX6_setExpected 24 = .ok (.goto 4, 3) := by decide +kernel
theorem dX6_setExpected_27 : decode cX6_setExpected 27 = .ok (.iconst 2, 1) := by decide +kernel
theorem dX6_setExpected_28 : decode cX6_setExpected 28 = .ok (.invokevirtual 93, 3) := by decide +kernel
theorem dX6_setExpected_31 : decode cX6_setExpected 31 = .ok (.ifCond .eq 5, 3) := by decide +kernel
theorem dX6_setExpected_34 : decode cX6_setExpected 34 = .ok (.iconst 0, 1) := by decide +kernel
theorem dX6_setExpected_35 : decode cX6_setExpected 35 = .ok (.ireturn, 1) := by decide +kernel
theorem dX6_setExpected_36 : decode cX6_setExpected 36 = .ok (.aload_n 0, 1) := by decide +kernel
theorem dX6_setExpected_37 : decode cX6_setExpected 37 = .ok (.getfield 25, 3) := by decide +kernel
theorem dX6_setExpected_40 : decode cX6_setExpected 40 = .ok (.iload_n 1, 1) := by decide +kernel
theorem dX6_setExpected_41 : decode cX6_setExpected 41 = .ok (.iaload, 1) := by decide +kernel
theorem dX6_setExpected_42 : decode cX6_setExpected 42 = .ok (.istore_n 3, 1) := by decide +kernel
theorem dX6_setExpected_43 : decode cX6_setExpected 43 = .ok (.aload_n 0, 1) := by decide +kernel
theorem dX6_setExpected_44 : decode cX6_setExpected 44 = .ok (.getfield 25, 3) := by decide +kernel
theorem dX6_setExpected_47 : decode cX6_setExpected 47 = .ok (.iload_n 1, 1) := by decide +kernel
theorem dX6_setExpected_48 : decode cX6_setExpected 48 = .ok (.iload_n 2, 1) := by decide +kernel
theorem dX6_setExpected_49 : decode cX6_setExpected 49 = .ok (.iastore, 1) := by decide +kernel
theorem dX6_setExpected_50 : decode cX6_setExpected 50 = .ok (.iload_n 3, 1) := by decide +kernel
theorem dX6_setExpected_51 : decode cX6_setExpected 51 = .ok (.ireturn, 1) := by decide +kernel
set_option maxRecDepth 20000 in
theorem ggX6_setRate_X6_isIn : GoodIn wsX6_setRate wsX6_isIn := goodIn_r _ [5] (by decide +kernel) (by decide +kernel)
set_option maxRecDepth 20000 in
theorem gX6_setRate_X6_isIn : GoodIn wsX6_setRate (va_wsS RX6 67 yX6_isIn wsX6_isIn) := goodIn_app (goodIn_of _ (by decide +kernel)) ggX6_setRate_X6_isIn
set_option maxRecDepth 20000 in
theorem ggX6_setRate_X6_fails : GoodIn wsX6_setRate wsX6_fails := goodIn_r _ [9, 10, 11, 12, 13, 14, 15, 16, 17, 18, 19, 20, 21, 22, 23, 24, 25, 26, 27, 28, 29, 30, 31, 32] (by decide +kernel) (by decide +kernel)
set_option maxRecDepth 20000 in
theorem gX6_setRate_X6_fails : GoodIn wsX6_setRate (wsV RX6 93 RX6 yX6_fails wsX6_fails) := goodIn_app (goodIn_of _ (by decide +kernel)) ggX6_setRate_X6_fails
theorem dX6_setRate_0 : decode cX6_setRate 0 = .ok (.aload_n 0, 1) := by decide +kernel
theorem dX6_setRate_1 : decode cX6_setRate 1 = .ok (.iload_n 1, 1) := by decide +kernel
theorem dX6_setRate_2 : decode cX6_setRate 2 = .ok (.bipush 50, 2) := by decide +kernel
theorem dX6_setRate_4 : decode cX6_setRate 4 = .ok (.bipush 100, 2) := by decide +kernel
theorem dX6_setRate_6 : decode cX6_setRate 6 = .ok (.invokestatic 67, 3) := by decide +kernel
theorem dX6_setRate_9 : decode cX6_setRate 9 = .ok (.ifCond .eq 7, 3) := by decide +kernel
theorem dX6_setRate_12 : decode cX6_setRate 12 = .ok (.iconst 0, 1) := by decide +kernel
theorem dX6_setRate_13 : decode cX6_setRate 13 = .ok (.goto 4, 3) := by decide +kernel
theorem dX6_setRate_16 : decode cX6_setRate 16 = .ok (.iconst 1, 1) := by decide +kernel
theorem dX6_setRate_17 : decode cX6_setRate 17 = .ok (.invokevirtual 93, 3) := by decide +kernel
theorem dX6_setRate_20 : decode cX6_setRate 20 = .ok (.ifCond .eq 5, 3) := by decide +kernel
theorem dX6_setRate_23 : decode cX6_setRate 23 = .ok (.iconst 0, 1) := by decide +kernel
theorem dX6_setRate_24 : decode cX6_setRate 24 = .ok (.ireturn, 1) := by decide +kernel
theorem dX6_setRate_25 : decode cX6_setRate 25 = .ok (.aload_n 0, 1) := by decide +kernel
theorem dX6_setRate_26 : decode cX6_setRate 26 = .ok (.getfield 38, 3) := by decide +kernel
theorem dX6_setRate_29 : decode cX6_setRate 29 = .ok (.istore_n 2, 1) := by decide +kernel
theorem dX6_setRate_30 : decode cX6_setRate 30 = .ok (.aload_n 0, 1) := by decide +kernel
theorem dX6_setRate_31 : decode cX6_setRate 31 = .ok (.iload_n 1, 1) := by decide +kernel
theorem dX6_setRate_32 : decode cX6_setRate 32 = .ok (.putfield 38, 3) := by decide +kernel
theorem dX6_setRate_35 : decode cX6_setRate 35 = .ok (.iload_n 2, 1) := by decide +kernel
theorem dX6_setRate_36 : decode cX6_setRate 36 = .ok (.ireturn, 1) := by decide +kernel
theorem dX6_authorisedOf_0 : decode cX6_authorisedOf 0 = .ok (.aload_n 0, 1) := by decide +kernel
theorem dX6_authorisedOf_1 : decode cX6_authorisedOf 1 = .ok (.getfield 7, 3) := by decide +kernel
theorem dX6_authorisedOf_4 : decode cX6_authorisedOf 4 = .ok (.iload_n 1, 1) := by decide +kernel
theorem dX6_authorisedOf_5 : decode cX6_authorisedOf 5 = .ok (.iaload, 1) := by decide +kernel
theorem dX6_authorisedOf_6 : decode cX6_authorisedOf 6 = .ok (.aload_n 0, 1) := by decide +kernel
theorem dX6_authorisedOf_7 : decode cX6_authorisedOf 7 = .ok (.getfield 7, 3) := by decide +kernel
theorem dX6_authorisedOf_10 : decode cX6_authorisedOf 10 = .ok (.iload_n 1, 1) := by decide +kernel
theorem dX6_authorisedOf_11 : decode cX6_authorisedOf 11 = .ok (.iaload, 1) := by decide +kernel
theorem dX6_authorisedOf_12 : decode cX6_authorisedOf 12 = .ok (.bipush 100, 2) := by decide +kernel
theorem dX6_authorisedOf_14 : decode cX6_authorisedOf 14 = .ok (.aload_n 0, 1) := by decide +kernel
theorem dX6_authorisedOf_15 : decode cX6_authorisedOf 15 = .ok (.getfield 38, 3) := by decide +kernel
theorem dX6_authorisedOf_18 : decode cX6_authorisedOf 18 = .ok (.isub, 1) := by decide +kernel
theorem dX6_authorisedOf_19 : decode cX6_authorisedOf 19 = .ok (.imul, 1) := by decide +kernel
theorem dX6_authorisedOf_20 : decode cX6_authorisedOf 20 = .ok (.bipush 100, 2) := by decide +kernel
theorem dX6_authorisedOf_22 : decode cX6_authorisedOf 22 = .ok (.idiv, 1) := by decide +kernel
theorem dX6_authorisedOf_23 : decode cX6_authorisedOf 23 = .ok (.iadd, 1) := by decide +kernel
theorem dX6_authorisedOf_24 : decode cX6_authorisedOf 24 = .ok (.ireturn, 1) := by decide +kernel
set_option maxRecDepth 20000 in
theorem ggX6_protectedOf_X6_isIn : GoodIn wsX6_protectedOf wsX6_isIn := goodIn_r _ [10] (by decide +kernel) (by decide +kernel)
set_option maxRecDepth 20000 in
theorem gX6_protectedOf_X6_isIn : GoodIn wsX6_protectedOf (va_wsS RX6 67 yX6_isIn wsX6_isIn) := goodIn_app (goodIn_of _ (by decide +kernel)) ggX6_protectedOf_X6_isIn
theorem dX6_protectedOf_0 : decode cX6_protectedOf 0 = .ok (.iconst 0, 1) := by decide +kernel
theorem dX6_protectedOf_1 : decode cX6_protectedOf 1 = .ok (.istore_n 3, 1) := by decide +kernel
theorem dX6_protectedOf_2 : decode cX6_protectedOf 2 = .ok (.iconst 0, 1) := by decide +kernel
theorem dX6_protectedOf_3 : decode cX6_protectedOf 3 = .ok (.istore 4, 2) := by decide +kernel
theorem dX6_protectedOf_5 : decode cX6_protectedOf 5 = .ok (.iload 4, 2) := by decide +kernel
theorem dX6_protectedOf_7 : decode cX6_protectedOf 7 = .ok (.aload_n 0, 1) := by decide +kernel
theorem dX6_protectedOf_8 : decode cX6_protectedOf 8 = .ok (.getfield 71, 3) := by decide +kernel
theorem dX6_protectedOf_11 : decode cX6_protectedOf 11 = .ok (.if_icmp .ge 144, 3) := by decide +kernel
theorem dX6_protectedOf_14 : decode cX6_protectedOf 14 = .ok (.iload_n 1, 1) := by decide +kernel
theorem dX6_protectedOf_15 : decode cX6_protectedOf 15 = .ok (.aload_n 0, 1) := by decide +kernel
theorem dX6_protectedOf_16 : decode cX6_protectedOf 16 = .ok (.getfield 16, 3) := by decide +kernel
theorem dX6_protectedOf_19 : decode cX6_protectedOf 19 = .ok (.iload 4, 2) := by decide +kernel
theorem dX6_protectedOf_21 : decode cX6_protectedOf 21 = .ok (.iaload, 1) := by decide +kernel
theorem dX6_protectedOf_22 : decode cX6_protectedOf 22 = .ok (.aload_n 0, 1) := by decide +kernel
theorem dX6_protectedOf_23 : decode cX6_protectedOf 23 = .ok (.getfield 19, 3) := by decide +kernel
theorem dX6_protectedOf_26 : decode cX6_protectedOf 26 = .ok (.iload 4, 2) := by decide +kernel
theorem dX6_protectedOf_28 : decode cX6_protectedOf 28 = .ok (.iaload, 1) := by decide +kernel
theorem dX6_protectedOf_29 : decode cX6_protectedOf 29 = .ok (.invokestatic 67, 3) := by decide +kernel
theorem dX6_protectedOf_32 : decode cX6_protectedOf 32 = .ok (.ifCond .eq 117, 3) := by decide +kernel
theorem dX6_protectedOf_35 : decode cX6_protectedOf 35 = .ok (.aload_n 0, 1) := by decide +kernel
theorem dX6_protectedOf_36 : decode cX6_protectedOf 36 = .ok (.getfield 22, 3) := by decide +kernel
theorem dX6_protectedOf_39 : decode cX6_protectedOf 39 = .ok (.iload 4, 2) := by decide +kernel
theorem dX6_protectedOf_41 : decode cX6_protectedOf 41 = .ok (.iaload, 1) := by decide +kernel
theorem dX6_protectedOf_42 : decode cX6_protectedOf 42 = .ok (.iload_n 2, 1) := by decide +kernel
theorem dX6_protectedOf_43 : decode cX6_protectedOf 43 = .ok (.if_icmp .le 106, 3) := by decide +kernel
theorem dX6_protectedOf_46 : decode cX6_protectedOf 46 = .ok (.aload_n 0, 1) := by decide +kernel
theorem dX6_protectedOf_47 : decode cX6_protectedOf 47 = .ok (.getfield 99, 3) := by decide +kernel
theorem dX6_protectedOf_50 : decode cX6_protectedOf 50 = .ok (.ifCond .le 99, 3) := by decide +kernel
theorem dX6_protectedOf_53 : decode cX6_protectedOf 53 = .ok (.iconst 0, 1) := by decide +kernel
theorem dX6_protectedOf_54 : decode cX6_protectedOf 54 = .ok (.istore 5, 2) := by decide +kernel
theorem dX6_protectedOf_56 : decode cX6_protectedOf 56 = .ok (.iconst 0, 1) := by decide +kernel
theorem dX6_protectedOf_57 : decode cX6_protectedOf 57 = .ok (.istore 6, 2) := by decide +kernel
theorem dX6_protectedOf_59 : decode cX6_protectedOf 59 = .ok (.bipush 20, 2) := by decide +kernel
theorem dX6_protectedOf_61 : decode cX6_protectedOf 61 = .ok (.istore 7, 2) := by decide +kernel
theorem dX6_protectedOf_63 : decode cX6_protectedOf 63 = .ok (.iload 7, 2) := by decide +kernel
theorem dX6_protectedOf_65 : decode cX6_protectedOf 65 = .ok (.ifCond .lt 79, 3) := by decide +kernel
theorem dX6_protectedOf_68 : decode cX6_protectedOf 68 = .ok (.iload 5, 2) := by decide +kernel
theorem dX6_protectedOf_70 : decode cX6_protectedOf 70 = .ok (.aload_n 0, 1) := by decide +kernel
theorem dX6_protectedOf_71 : decode cX6_protectedOf 71 = .ok (.getfield 35, 3) := by decide +kernel
theorem dX6_protectedOf_74 : decode cX6_protectedOf 74 = .ok (.bipush 21, 2) := by decide +kernel
theorem dX6_protectedOf_76 : decode cX6_protectedOf 76 = .ok (.iload 4, 2) := by decide +kernel
theorem dX6_protectedOf_78 : decode cX6_protectedOf 78 = .ok (.imul, 1) := by decide +kernel
theorem dX6_protectedOf_79 : decode cX6_protectedOf 79 = .ok (.iload 7, 2) := by decide +kernel
theorem dX6_protectedOf_81 : decode cX6_protectedOf 81 = .ok (.iadd, 1) := by decide +kernel
theorem dX6_protectedOf_82 : decode cX6_protectedOf 82 = .ok (.iaload, 1) := by decide +kernel
theorem dX6_protectedOf_83 : decode cX6_protectedOf 83 = .ok (.iadd, 1) := by decide +kernel
theorem dX6_protectedOf_84 : decode cX6_protectedOf 84 = .ok (.istore 5, 2) := by decide +kernel
theorem dX6_protectedOf_86 : decode cX6_protectedOf 86 = .ok (.aload_n 0, 1) := by decide +kernel
theorem dX6_protectedOf_87 : decode cX6_protectedOf 87 = .ok (.getfield 22, 3) := by decide +kernel
theorem dX6_protectedOf_90 : decode cX6_protectedOf 90 = .ok (.iload 4, 2) := by decide +kernel
theorem dX6_protectedOf_92 : decode cX6_protectedOf 92 = .ok (.iaload, 1) := by decide +kernel
theorem dX6_protectedOf_93 : decode cX6_protectedOf 93 = .ok (.i2l, 1) := by decide +kernel
theorem dX6_protectedOf_94 : decode cX6_protectedOf 94 = .ok (.iload 5, 2) := by decide +kernel
theorem dX6_protectedOf_96 : decode cX6_protectedOf 96 = .ok (.i2l, 1) := by decide +kernel
theorem dX6_protectedOf_97 : decode cX6_protectedOf 97 = .ok (.lmul, 1) := by decide +kernel
theorem dX6_protectedOf_98 : decode cX6_protectedOf 98 = .ok (.iload_n 2, 1) := by decide +kernel
theorem dX6_protectedOf_99 : decode cX6_protectedOf 99 = .ok (.i2l, 1) := by decide +kernel
theorem dX6_protectedOf_100 : decode cX6_protectedOf 100 = .ok (.aload_n 0, 1) := by decide +kernel
theorem dX6_protectedOf_101 : decode cX6_protectedOf 101 = .ok (.getfield 99, 3) := by decide +kernel
theorem dX6_protectedOf_104 : decode cX6_protectedOf 104 = .ok (.i2l, 1) := by decide +kernel
theorem dX6_protectedOf_105 : decode cX6_protectedOf 105 = .ok (.lmul, 1) := by decide +kernel
theorem dX6_protectedOf_106 : decode cX6_protectedOf 106 = .ok (.lcmp, 1) := by decide +kernel
theorem dX6_protectedOf_107 : decode cX6_protectedOf 107 = .ok (.ifCond .lt 7, 3) := by decide +kernel
theorem dX6_protectedOf_110 : decode cX6_protectedOf 110 = .ok (.iconst 1, 1) := by decide +kernel
theorem dX6_protectedOf_111 : decode cX6_protectedOf 111 = .ok (.goto 4, 3) := by decide +kernel
theorem dX6_protectedOf_114 : decode cX6_protectedOf 114 = .ok (.iconst 0, 1) := by decide +kernel
theorem dX6_protectedOf_115 : decode cX6_protectedOf 115 = .ok (.istore 8, 2) := by decide +kernel
theorem dX6_protectedOf_117 : decode cX6_protectedOf 117 = .ok (.iload 8, 2) := by decide +kernel
theorem dX6_protectedOf_119 : decode cX6_protectedOf 119 = .ok (.ifCond .eq 15, 3) := by decide +kernel
theorem dX6_protectedOf_122 : decode cX6_protectedOf 122 = .ok (.iload 7, 2) := by decide +kernel
theorem dX6_protectedOf_124 : decode cX6_protectedOf 124 = .ok (.iload 6, 2) := by decide +kernel
theorem dX6_protectedOf_126 : decode cX6_protectedOf 126 = .ok (.if_icmp .le 8, 3) := by decide +kernel
theorem dX6_protectedOf_129 : decode cX6_protectedOf 129 = .ok (.iload 7, 2) := by decide +kernel
theorem dX6_protectedOf_131 : decode cX6_protectedOf 131 = .ok (.goto 5, 3) := by decide +kernel
theorem dX6_protectedOf_134 : decode cX6_protectedOf 134 = .ok (.iload 6, 2) := by decide +kernel
theorem dX6_protectedOf_136 : decode cX6_protectedOf 136 = .ok (.istore 6, 2) := by decide +kernel
theorem dX6_protectedOf_138 : decode cX6_protectedOf 138 = .ok (.iinc 7 (-1), 3) := by decide +kernel
theorem dX6_protectedOf_141 : decode cX6_protectedOf 141 = .ok (.goto (-78), 3) := by decide +kernel
theorem dX6_protectedOf_144 : decode cX6_protectedOf 144 = .ok (.iload_n 3, 1) := by decide +kernel
theorem dX6_protectedOf_145 : decode cX6_protectedOf 145 = .ok (.iload 6, 2) := by decide +kernel
theorem dX6_protectedOf_147 : decode cX6_protectedOf 147 = .ok (.iadd, 1) := by decide +kernel
theorem dX6_protectedOf_148 : decode cX6_protectedOf 148 = .ok (.istore_n 3, 1) := by decide +kernel
theorem dX6_protectedOf_149 : decode cX6_protectedOf 149 = .ok (.iinc 4 1, 3) := by decide +kernel
theorem dX6_protectedOf_152 : decode cX6_protectedOf 152 = .ok (.goto (-147), 3) := by decide +kernel
theorem dX6_protectedOf_155 : decode cX6_protectedOf 155 = .ok (.iload_n 3, 1) := by decide +kernel
theorem dX6_protectedOf_156 : decode cX6_protectedOf 156 = .ok (.ireturn, 1) := by decide +kernel
theorem dX6_books_0 : decode cX6_books 0 = .ok (.aload_n 0, 1) := by decide +kernel
theorem dX6_books_1 : decode cX6_books 1 = .ok (.getfield 42, 3) := by decide +kernel
theorem dX6_books_4 : decode cX6_books 4 = .ok (.aload_n 0, 1) := by decide +kernel
theorem dX6_books_5 : decode cX6_books 5 = .ok (.getfield 105, 3) := by decide +kernel
theorem dX6_books_8 : decode cX6_books 8 = .ok (.iload_n 1, 1) := by decide +kernel
theorem dX6_books_9 : decode cX6_books 9 = .ok (.iastore, 1) := by decide +kernel
theorem dX6_books_10 : decode cX6_books 10 = .ok (.aload_n 0, 1) := by decide +kernel
theorem dX6_books_11 : decode cX6_books 11 = .ok (.getfield 45, 3) := by decide +kernel
theorem dX6_books_14 : decode cX6_books 14 = .ok (.aload_n 0, 1) := by decide +kernel
theorem dX6_books_15 : decode cX6_books 15 = .ok (.getfield 105, 3) := by decide +kernel
theorem dX6_books_18 : decode cX6_books 18 = .ok (.iload_n 2, 1) := by decide +kernel
theorem dX6_books_19 : decode cX6_books 19 = .ok (.iastore, 1) := by decide +kernel
theorem dX6_books_20 : decode cX6_books 20 = .ok (.aload_n 0, 1) := by decide +kernel
theorem dX6_books_21 : decode cX6_books 21 = .ok (.getfield 48, 3) := by decide +kernel
theorem dX6_books_24 : decode cX6_books 24 = .ok (.aload_n 0, 1) := by decide +kernel
theorem dX6_books_25 : decode cX6_books 25 = .ok (.getfield 105, 3) := by decide +kernel
theorem dX6_books_28 : decode cX6_books 28 = .ok (.iload_n 3, 1) := by decide +kernel
theorem dX6_books_29 : decode cX6_books 29 = .ok (.iastore, 1) := by decide +kernel
theorem dX6_books_30 : decode cX6_books 30 = .ok (.aload_n 0, 1) := by decide +kernel
theorem dX6_books_31 : decode cX6_books 31 = .ok (.getfield 51, 3) := by decide +kernel
theorem dX6_books_34 : decode cX6_books 34 = .ok (.aload_n 0, 1) := by decide +kernel
theorem dX6_books_35 : decode cX6_books 35 = .ok (.getfield 105, 3) := by decide +kernel
theorem dX6_books_38 : decode cX6_books 38 = .ok (.iload 4, 2) := by decide +kernel
theorem dX6_books_40 : decode cX6_books 40 = .ok (.iastore, 1) := by decide +kernel
theorem dX6_books_41 : decode cX6_books 41 = .ok (.aload_n 0, 1) := by decide +kernel
theorem dX6_books_42 : decode cX6_books 42 = .ok (.getfield 54, 3) := by decide +kernel
theorem dX6_books_45 : decode cX6_books 45 = .ok (.aload_n 0, 1) := by decide +kernel
theorem dX6_books_46 : decode cX6_books 46 = .ok (.getfield 105, 3) := by decide +kernel
theorem dX6_books_49 : decode cX6_books 49 = .ok (.iconst 0, 1) := by decide +kernel
theorem dX6_books_50 : decode cX6_books 50 = .ok (.bastore, 1) := by decide +kernel
theorem dX6_books_51 : decode cX6_books 51 = .ok (.iload_n 1, 1) := by decide +kernel
theorem dX6_books_52 : decode cX6_books 52 = .ok (.istore 5, 2) := by decide +kernel
theorem dX6_books_54 : decode cX6_books 54 = .ok (.iload 5, 2) := by decide +kernel
theorem dX6_books_56 : decode cX6_books 56 = .ok (.iload_n 2, 1) := by decide +kernel
theorem dX6_books_57 : decode cX6_books 57 = .ok (.if_icmp .gt 20, 3) := by decide +kernel
theorem dX6_books_60 : decode cX6_books 60 = .ok (.aload_n 0, 1) := by decide +kernel
theorem dX6_books_61 : decode cX6_books 61 = .ok (.getfield 13, 3) := by decide +kernel
theorem dX6_books_64 : decode cX6_books 64 = .ok (.iload 5, 2) := by decide +kernel
theorem dX6_books_66 : decode cX6_books 66 = .ok (.dup2, 1) := by decide +kernel
theorem dX6_books_67 : decode cX6_books 67 = .ok (.iaload, 1) := by decide +kernel
theorem dX6_books_68 : decode cX6_books 68 = .ok (.iload_n 3, 1) := by decide +kernel
theorem dX6_books_69 : decode cX6_books 69 = .ok (.iadd, 1) := by decide +kernel
theorem dX6_books_70 : decode cX6_books 70 = .ok (.iastore, 1) := by decide +kernel
theorem dX6_books_71 : decode cX6_books 71 = .ok (.iinc 5 1, 3) := by decide +kernel
theorem dX6_books_74 : decode cX6_books 74 = .ok (.goto (-20), 3) := by decide +kernel
theorem dX6_books_77 : decode cX6_books 77 = .ok (.aload_n 0, 1) := by decide +kernel
theorem dX6_books_78 : decode cX6_books 78 = .ok (.dup, 1) := by decide +kernel
theorem dX6_books_79 : decode cX6_books 79 = .ok (.getfield 105, 3) := by decide +kernel
theorem dX6_books_82 : decode cX6_books 82 = .ok (.iconst 1, 1) := by decide +kernel
theorem dX6_books_83 : decode cX6_books 83 = .ok (.iadd, 1) := by decide +kernel
theorem dX6_books_84 : decode cX6_books 84 = .ok (.putfield 105, 3) := by decide +kernel
theorem dX6_books_87 : decode cX6_books 87 = .ok (.aload_n 0, 1) := by decide +kernel
theorem dX6_books_88 : decode cX6_books 88 = .ok (.getfield 105, 3) := by decide +kernel
theorem dX6_books_91 : decode cX6_books 91 = .ok (.iconst 1, 1) := by decide +kernel
theorem dX6_books_92 : decode cX6_books 92 = .ok (.isub, 1) := by decide +kernel
theorem dX6_books_93 : decode cX6_books 93 = .ok (.ireturn, 1) := by decide +kernel
theorem dX6_refuses_0 : decode cX6_refuses 0 = .ok (.aload_n 0, 1) := by decide +kernel
theorem dX6_refuses_1 : decode cX6_refuses 1 = .ok (.getfield 58, 3) := by decide +kernel
theorem dX6_refuses_4 : decode cX6_refuses 4 = .ok (.iload_n 1, 1) := by decide +kernel
theorem dX6_refuses_5 : decode cX6_refuses 5 = .ok (.ineg, 1) := by decide +kernel
theorem dX6_refuses_6 : decode cX6_refuses 6 = .ok (.dup2, 1) := by decide +kernel
theorem dX6_refuses_7 : decode cX6_refuses 7 = .ok (.iaload, 1) := by decide +kernel
theorem dX6_refuses_8 : decode cX6_refuses 8 = .ok (.iconst 1, 1) := by decide +kernel
theorem dX6_refuses_9 : decode cX6_refuses 9 = .ok (.iadd, 1) := by decide +kernel
theorem dX6_refuses_10 : decode cX6_refuses 10 = .ok (.iastore, 1) := by decide +kernel
theorem dX6_refuses_11 : decode cX6_refuses 11 = .ok (.iload_n 1, 1) := by decide +kernel
theorem dX6_refuses_12 : decode cX6_refuses 12 = .ok (.ireturn, 1) := by decide +kernel
set_option maxRecDepth 20000 in
theorem ggX6_ask_X6_isProduct : GoodIn wsX6_ask wsX6_isProduct := goodIn_r _ [11, 12, 13, 14, 10, 15, 72, 73, 74, 75, 76, 77, 78, 79, 80, 81, 82, 83, 84, 85, 86, 87, 88, 89, 90, 91, 92, 93] (by decide +kernel) (by decide +kernel)
set_option maxRecDepth 20000 in
theorem gX6_ask_X6_isProduct : GoodIn wsX6_ask (wsV RX6 102 RX6 yX6_isProduct wsX6_isProduct) := goodIn_app (goodIn_of _ (by decide +kernel)) ggX6_ask_X6_isProduct
set_option maxRecDepth 20000 in
theorem ggX6_ask_X6_fails : GoodIn wsX6_ask wsX6_fails := goodIn_r _ [19, 20, 72, 73, 74, 75, 76, 77, 78, 79, 80, 81, 82, 83, 84, 85, 86, 87, 88, 89, 90, 91, 92, 93] (by decide +kernel) (by decide +kernel)
set_option maxRecDepth 20000 in
theorem gX6_ask_X6_fails : GoodIn wsX6_ask (wsV RX6 93 RX6 yX6_fails wsX6_fails) := goodIn_app (goodIn_of _ (by decide +kernel)) ggX6_ask_X6_fails
set_option maxRecDepth 20000 in
theorem ggX6_ask_X6_finds : GoodIn wsX6_ask wsX6_finds := goodIn_r _ [24, 25, 12, 26, 2, 27, 28, 29, 10, 30, 3, 4, 6, 13, 14, 15, 31, 32, 33, 72, 73, 74, 75, 76, 77, 78, 79, 80, 81, 82, 83, 84, 85, 86, 87, 88, 89, 90, 91, 92, 93] (by decide +kernel) (by decide +kernel)
set_option maxRecDepth 20000 in
theorem gX6_ask_X6_finds : GoodIn wsX6_ask (wsV RX6 108 RX6 yX6_finds wsX6_finds) := goodIn_app (goodIn_of _ (by decide +kernel)) ggX6_ask_X6_finds
set_option maxRecDepth 20000 in
theorem ggX6_ask_X6_authorisedOf : GoodIn wsX6_ask wsX6_authorisedOf := goodIn_r _ [37, 38, 39, 72, 73, 74, 75, 76, 77, 78, 79, 80, 81, 82, 83, 84, 85, 86, 87, 88, 89, 90, 91, 92, 93] (by decide +kernel) (by decide +kernel)
set_option maxRecDepth 20000 in
theorem gX6_ask_X6_authorisedOf : GoodIn wsX6_ask (wsV RX6 111 RX6 yX6_authorisedOf wsX6_authorisedOf) := goodIn_app (goodIn_of _ (by decide +kernel)) ggX6_ask_X6_authorisedOf
set_option maxRecDepth 20000 in
theorem ggX6_ask_X6_protectedOf : GoodIn wsX6_ask wsX6_protectedOf := goodIn_r _ [43, 12, 3, 4, 6, 44, 45, 13, 14, 10, 15, 72, 73, 74, 75, 76, 77, 78, 79, 80, 81, 82, 83, 84, 85, 86, 87, 88, 89, 90, 91, 92, 93] (by decide +kernel) (by decide +kernel)
set_option maxRecDepth 20000 in
theorem gX6_ask_X6_protectedOf : GoodIn wsX6_ask (wsV RX6 114 RX6 yX6_protectedOf wsX6_protectedOf) := goodIn_app (goodIn_of _ (by decide +kernel)) ggX6_ask_X6_protectedOf
set_option maxRecDepth 20000 in
theorem ggX6_ask_X6_bidOf : GoodIn wsX6_ask wsX6_bidOf := goodIn_r _ [49, 50, 51, 52, 10, 53, 25, 54, 55, 56, 57, 38, 5, 31, 32, 33, 72, 73, 74, 75, 76, 77, 78, 79, 80, 81, 82, 83, 84, 85, 86, 87, 88, 89, 90, 91, 92, 93] (by decide +kernel) (by decide +kernel)
set_option maxRecDepth 20000 in
theorem gX6_ask_X6_bidOf : GoodIn wsX6_ask (wsV RX6 118 RX6 yX6_bidOf wsX6_bidOf) := goodIn_app (goodIn_of _ (by decide +kernel)) ggX6_ask_X6_bidOf
set_option maxRecDepth 20000 in
theorem ggX6_ask_X6_refuses : GoodIn wsX6_ask wsX6_refuses := goodIn_r _ [61, 62, 72, 73, 74, 75, 76, 77, 78, 79, 80, 81, 82, 83, 84, 85, 86, 87, 88, 89, 90, 91, 92, 93] (by decide +kernel) (by decide +kernel)
set_option maxRecDepth 20000 in
theorem gX6_ask_X6_refuses : GoodIn wsX6_ask (wsV RX6 121 RX6 yX6_refuses wsX6_refuses) := goodIn_app (goodIn_of _ (by decide +kernel)) ggX6_ask_X6_refuses
set_option maxRecDepth 20000 in
theorem ggX6_ask_X6_books : GoodIn wsX6_ask wsX6_books := goodIn_r _ [66, 67, 1, 68, 69, 70, 71, 5, 72, 73, 74, 75, 76, 77, 78, 79, 80, 81, 82, 83, 84, 85, 86, 87, 88, 89, 90, 91, 92, 93] (by decide +kernel) (by decide +kernel)
set_option maxRecDepth 20000 in
theorem gX6_ask_X6_books : GoodIn wsX6_ask (wsV RX6 124 RX6 yX6_books wsX6_books) := goodIn_app (goodIn_of _ (by decide +kernel)) ggX6_ask_X6_books
theorem dX6_ask_0 : decode cX6_ask 0 = .ok (.aload_n 0, 1) := by decide +kernel
theorem dX6_ask_1 : decode cX6_ask 1 = .ok (.aload_n 0, 1) := by decide +kernel
theorem dX6_ask_2 : decode cX6_ask 2 = .ok (.iload_n 1, 1) := by decide +kernel
theorem dX6_ask_3 : decode cX6_ask 3 = .ok (.invokevirtual 102, 3) := by decide +kernel
theorem dX6_ask_6 : decode cX6_ask 6 = .ok (.ifCond .ne 7, 3) := by decide +kernel
theorem dX6_ask_9 : decode cX6_ask 9 = .ok (.iconst 1, 1) := by decide +kernel
theorem dX6_ask_10 : decode cX6_ask 10 = .ok (.goto 17, 3) := by decide +kernel
theorem dX6_ask_13 : decode cX6_ask 13 = .ok (.aload_n 0, 1) := by decide +kernel
theorem dX6_ask_14 : decode cX6_ask 14 = .ok (.getfield 105, 3) := by decide +kernel
theorem dX6_ask_17 : decode cX6_ask 17 = .ok (.bipush 60, 2) := by decide +kernel
theorem dX6_ask_19 : decode cX6_ask 19 = .ok (.if_icmp .ne 7, 3) := by decide +kernel
theorem dX6_ask_22 : decode cX6_ask 22 = .ok (.iconst 2, 1) := by decide +kernel
theorem dX6_ask_23 : decode cX6_ask 23 = .ok (.goto 4, 3) := by decide +kernel
theorem dX6_ask_26 : decode cX6_ask 26 = .ok (.iconst 0, 1) := by decide +kernel
theorem dX6_ask_27 : decode cX6_ask 27 = .ok (.invokevirtual 93, 3) := by decide +kernel
theorem dX6_ask_30 : decode cX6_ask 30 = .ok (.ifCond .eq 5, 3) := by decide +kernel
theorem dX6_ask_33 : decode cX6_ask 33 = .ok (.iconst 0, 1) := by decide +kernel
theorem dX6_ask_34 : decode cX6_ask 34 = .ok (.ireturn, 1) := by decide +kernel
theorem dX6_ask_35 : decode cX6_ask 35 = .ok (.aload_n 0, 1) := by decide +kernel
theorem dX6_ask_36 : decode cX6_ask 36 = .ok (.getfield 28, 3) := by decide +kernel
theorem dX6_ask_39 : decode cX6_ask 39 = .ok (.iload_n 1, 1) := by decide +kernel
theorem dX6_ask_40 : decode cX6_ask 40 = .ok (.dup2, 1) := by decide +kernel
theorem dX6_ask_41 : decode cX6_ask 41 = .ok (.iaload, 1) := by decide +kernel
theorem dX6_ask_42 : decode cX6_ask 42 = .ok (.iconst 1, 1) := by decide +kernel
theorem dX6_ask_43 : decode cX6_ask 43 = .ok (.iadd, 1) := by decide +kernel
theorem dX6_ask_44 : decode cX6_ask 44 = .ok (.iastore, 1) := by decide +kernel
theorem dX6_ask_45 : decode cX6_ask 45 = .ok (.aload_n 0, 1) := by decide +kernel
theorem dX6_ask_46 : decode cX6_ask 46 = .ok (.invokevirtual 108, 3) := by decide +kernel
theorem dX6_ask_49 : decode cX6_ask 49 = .ok (.iconst 0, 1) := by decide +kernel
theorem dX6_ask_50 : decode cX6_ask 50 = .ok (.istore_n 2, 1) := by decide +kernel
theorem dX6_ask_51 : decode cX6_ask 51 = .ok (.iconst 0, 1) := by decide +kernel
theorem dX6_ask_52 : decode cX6_ask 52 = .ok (.istore_n 3, 1) := by decide +kernel
theorem dX6_ask_53 : decode cX6_ask 53 = .ok (.iconst 0, 1) := by decide +kernel
theorem dX6_ask_54 : decode cX6_ask 54 = .ok (.istore 4, 2) := by decide +kernel
theorem dX6_ask_56 : decode cX6_ask 56 = .ok (.aload_n 0, 1) := by decide +kernel
theorem dX6_ask_57 : decode cX6_ask 57 = .ok (.getfield 16, 3) := by decide +kernel
theorem dX6_ask_60 : decode cX6_ask 60 = .ok (.iload_n 1, 1) := by decide +kernel
theorem dX6_ask_61 : decode cX6_ask 61 = .ok (.iaload, 1) := by decide +kernel
theorem dX6_ask_62 : decode cX6_ask 62 = .ok (.istore 5, 2) := by decide +kernel
theorem dX6_ask_64 : decode cX6_ask 64 = .ok (.iload 5, 2) := by decide +kernel
theorem dX6_ask_66 : decode cX6_ask 66 = .ok (.aload_n 0, 1) := by decide +kernel
theorem dX6_ask_67 : decode cX6_ask 67 = .ok (.getfield 19, 3) := by decide +kernel
theorem dX6_ask_70 : decode cX6_ask 70 = .ok (.iload_n 1, 1) := by decide +kernel
theorem dX6_ask_71 : decode cX6_ask 71 = .ok (.iaload, 1) := by decide +kernel
theorem dX6_ask_72 : decode cX6_ask 72 = .ok (.if_icmp .gt 86, 3) := by decide +kernel
theorem dX6_ask_75 : decode cX6_ask 75 = .ok (.iload_n 2, 1) := by decide +kernel
theorem dX6_ask_76 : decode cX6_ask 76 = .ok (.ifCond .ne 19, 3) := by decide +kernel
theorem dX6_ask_79 : decode cX6_ask 79 = .ok (.aload_n 0, 1) := by decide +kernel
theorem dX6_ask_80 : decode cX6_ask 80 = .ok (.getfield 13, 3) := by decide +kernel
theorem dX6_ask_83 : decode cX6_ask 83 = .ok (.iload 5, 2) := by decide +kernel
theorem dX6_ask_85 : decode cX6_ask 85 = .ok (.iaload, 1) := by decide +kernel
theorem dX6_ask_86 : decode cX6_ask 86 = .ok (.aload_n 0, 1) := by decide +kernel
theorem dX6_ask_87 : decode cX6_ask 87 = .ok (.iload 5, 2) := by decide +kernel
theorem dX6_ask_89 : decode cX6_ask 89 = .ok (.invokevirtual 111, 3) := by decide +kernel
theorem dX6_ask_92 : decode cX6_ask 92 = .ok (.if_icmp .lt 7, 3) := by decide +kernel
theorem dX6_ask_95 : decode cX6_ask 95 = .ok (.iconst 1, 1) := by decide +kernel
theorem dX6_ask_96 : decode cX6_ask 96 = .ok (.goto 4, 3) := by decide +kernel
theorem dX6_ask_99 : decode cX6_ask 99 = .ok (.iconst 0, 1) := by decide +kernel
theorem dX6_ask_100 : decode cX6_ask 100 = .ok (.istore_n 2, 1) := by decide +kernel
theorem dX6_ask_101 : decode cX6_ask 101 = .ok (.iload_n 3, 1) := by decide +kernel
theorem dX6_ask_102 : decode cX6_ask 102 = .ok (.ifCond .ne 33, 3) := by decide +kernel
theorem dX6_ask_105 : decode cX6_ask 105 = .ok (.aload_n 0, 1) := by decide +kernel
theorem dX6_ask_106 : decode cX6_ask 106 = .ok (.iload 5, 2) := by decide +kernel
theorem dX6_ask_108 : decode cX6_ask 108 = .ok (.invokevirtual 111, 3) := by decide +kernel
theorem dX6_ask_111 : decode cX6_ask 111 = .ok (.aload_n 0, 1) := by decide +kernel
theorem dX6_ask_112 : decode cX6_ask 112 = .ok (.getfield 13, 3) := by decide +kernel
theorem dX6_ask_115 : decode cX6_ask 115 = .ok (.iload 5, 2) := by decide +kernel
theorem dX6_ask_117 : decode cX6_ask 117 = .ok (.iaload, 1) := by decide +kernel
theorem dX6_ask_118 : decode cX6_ask 118 = .ok (.isub, 1) := by decide +kernel
theorem dX6_ask_119 : decode cX6_ask 119 = .ok (.aload_n 0, 1) := by decide +kernel
theorem dX6_ask_120 : decode cX6_ask 120 = .ok (.iload 5, 2) := by decide +kernel
theorem dX6_ask_122 : decode cX6_ask 122 = .ok (.aload_n 0, 1) := by decide +kernel
theorem dX6_ask_123 : decode cX6_ask 123 = .ok (.getfield 22, 3) := by decide +kernel
theorem dX6_ask_126 : decode cX6_ask 126 = .ok (.iload_n 1, 1) := by decide +kernel
theorem dX6_ask_127 : decode cX6_ask 127 = .ok (.iaload, 1) := by decide +kernel
theorem dX6_ask_128 : decode cX6_ask 128 = .ok (.invokevirtual 114, 3) := by decide +kernel
theorem dX6_ask_131 : decode cX6_ask 131 = .ok (.isub, 1) := by decide +kernel
theorem dX6_ask_132 : decode cX6_ask 132 = .ok (.ifCond .gt 7, 3) := by decide +kernel
theorem dX6_ask_135 : decode cX6_ask 135 = .ok (.iconst 1, 1) := by decide +kernel
theorem dX6_ask_136 : decode cX6_ask 136 = .ok (.goto 4, 3) := by decide +kernel
theorem dX6_ask_139 : decode cX6_ask 139 = .ok (.iconst 0, 1) := by decide +kernel
theorem dX6_ask_140 : decode cX6_ask 140 = .ok (.istore_n 3, 1) := by decide +kernel
theorem dX6_ask_141 : decode cX6_ask 141 = .ok (.iload 4, 2) := by decide +kernel
theorem dX6_ask_143 : decode cX6_ask 143 = .ok (.aload_n 0, 1) := by decide +kernel
theorem dX6_ask_144 : decode cX6_ask 144 = .ok (.iload 5, 2) := by decide +kernel
theorem dX6_ask_146 : decode cX6_ask 146 = .ok (.invokevirtual 118, 3) := by decide +kernel
theorem dX6_ask_149 : decode cX6_ask 149 = .ok (.iadd, 1) := by decide +kernel
theorem dX6_ask_150 : decode cX6_ask 150 = .ok (.istore 4, 2) := by decide +kernel
theorem dX6_ask_152 : decode cX6_ask 152 = .ok (.iinc 5 1, 3) := by decide +kernel
theorem dX6_ask_155 : decode cX6_ask 155 = .ok (.goto (-91), 3) := by decide +kernel
theorem dX6_ask_158 : decode cX6_ask 158 = .ok (.iload_n 2, 1) := by decide +kernel
theorem dX6_ask_159 : decode cX6_ask 159 = .ok (.ifCond .eq 7, 3) := by decide +kernel
theorem dX6_ask_162 : decode cX6_ask 162 = .ok (.iconst (-1), 1) := by decide +kernel
theorem dX6_ask_163 : decode cX6_ask 163 = .ok (.goto 29, 3) := by decide +kernel
theorem dX6_ask_166 : decode cX6_ask 166 = .ok (.iload_n 3, 1) := by decide +kernel
theorem dX6_ask_167 : decode cX6_ask 167 = .ok (.ifCond .eq 8, 3) := by decide +kernel
theorem dX6_ask_170 : decode cX6_ask 170 = .ok (.bipush (-2), 2) := by decide +kernel
theorem dX6_ask_172 : decode cX6_ask 172 = .ok (.goto 20, 3) := by decide +kernel
theorem dX6_ask_175 : decode cX6_ask 175 = .ok (.aload_n 0, 1) := by decide +kernel
theorem dX6_ask_176 : decode cX6_ask 176 = .ok (.getfield 22, 3) := by decide +kernel
theorem dX6_ask_179 : decode cX6_ask 179 = .ok (.iload_n 1, 1) := by decide +kernel
theorem dX6_ask_180 : decode cX6_ask 180 = .ok (.iaload, 1) := by decide +kernel
theorem dX6_ask_181 : decode cX6_ask 181 = .ok (.iload 4, 2) := by decide +kernel
theorem dX6_ask_183 : decode cX6_ask 183 = .ok (.if_icmp .ge 8, 3) := by decide +kernel
theorem dX6_ask_186 : decode cX6_ask 186 = .ok (.bipush (-3), 2) := by decide +kernel
theorem dX6_ask_188 : decode cX6_ask 188 = .ok (.goto 4, 3) := by decide +kernel
theorem dX6_ask_191 : decode cX6_ask 191 = .ok (.iconst 0, 1) := by decide +kernel
theorem dX6_ask_192 : decode cX6_ask 192 = .ok (.istore 5, 2) := by decide +kernel
theorem dX6_ask_194 : decode cX6_ask 194 = .ok (.iload 5, 2) := by decide +kernel
theorem dX6_ask_196 : decode cX6_ask 196 = .ok (.ifCond .ge 12, 3) := by decide +kernel
theorem dX6_ask_199 : decode cX6_ask 199 = .ok (.aload_n 0, 1) := by decide +kernel
theorem dX6_ask_200 : decode cX6_ask 200 = .ok (.iload 5, 2) := by decide +kernel
theorem dX6_ask_202 : decode cX6_ask 202 = .ok (.invokevirtual 121, 3) := by decide +kernel
theorem dX6_ask_205 : decode cX6_ask 205 = .ok (.goto 26, 3) := by decide +kernel
theorem dX6_ask_208 : decode cX6_ask 208 = .ok (.aload_n 0, 1) := by decide +kernel
theorem dX6_ask_209 : decode cX6_ask 209 = .ok (.aload_n 0, 1) := by decide +kernel
theorem dX6_ask_210 : decode cX6_ask 210 = .ok (.getfield 16, 3) := by decide +kernel
theorem dX6_ask_213 : decode cX6_ask 213 = .ok (.iload_n 1, 1) := by decide +kernel
theorem dX6_ask_214 : decode cX6_ask 214 = .ok (.iaload, 1) := by decide +kernel
theorem dX6_ask_215 : decode cX6_ask 215 = .ok (.aload_n 0, 1) := by decide +kernel
theorem dX6_ask_216 : decode cX6_ask 216 = .ok (.getfield 19, 3) := by decide +kernel
theorem dX6_ask_219 : decode cX6_ask 219 = .ok (.iload_n 1, 1) := by decide +kernel
theorem dX6_ask_220 : decode cX6_ask 220 = .ok (.iaload, 1) := by decide +kernel
theorem dX6_ask_221 : decode cX6_ask 221 = .ok (.iconst 1, 1) := by decide +kernel
theorem dX6_ask_222 : decode cX6_ask 222 = .ok (.aload_n 0, 1) := by decide +kernel
theorem dX6_ask_223 : decode cX6_ask 223 = .ok (.getfield 22, 3) := by decide +kernel
theorem dX6_ask_226 : decode cX6_ask 226 = .ok (.iload_n 1, 1) := by decide +kernel
theorem dX6_ask_227 : decode cX6_ask 227 = .ok (.iaload, 1) := by decide +kernel
theorem dX6_ask_228 : decode cX6_ask 228 = .ok (.invokevirtual 124, 3) := by decide +kernel
theorem dX6_ask_231 : decode cX6_ask 231 = .ok (.ireturn, 1) := by decide +kernel
set_option maxRecDepth 20000 in
theorem ggX6_group_X6_isLeg : GoodIn wsX6_group wsX6_isLeg := goodIn_r _ [5, 6, 7, 4, 8] (by decide +kernel) (by decide +kernel)
set_option maxRecDepth 20000 in
theorem gX6_group_X6_isLeg : GoodIn wsX6_group (va_wsS RX6 96 yX6_isLeg wsX6_isLeg) := goodIn_app (goodIn_of _ (by decide +kernel)) ggX6_group_X6_isLeg
set_option maxRecDepth 20000 in
theorem ggX6_group_X6_isIn : GoodIn wsX6_group wsX6_isIn := goodIn_r _ [8] (by decide +kernel) (by decide +kernel)
set_option maxRecDepth 20000 in
theorem gX6_group_X6_isIn : GoodIn wsX6_group (va_wsS RX6 67 yX6_isIn wsX6_isIn) := goodIn_app (goodIn_of _ (by decide +kernel)) ggX6_group_X6_isIn
set_option maxRecDepth 20000 in
theorem ggX6_group_X6_fails : GoodIn wsX6_group wsX6_fails := goodIn_r _ [12, 13, 64, 65, 66, 67, 68, 69, 70, 71, 72, 73, 74, 75, 76, 77, 78, 79, 80, 81, 82, 83, 84, 85] (by decide +kernel) (by decide +kernel)
set_option maxRecDepth 20000 in
theorem gX6_group_X6_fails : GoodIn wsX6_group (wsV RX6 93 RX6 yX6_fails wsX6_fails) := goodIn_app (goodIn_of _ (by decide +kernel)) ggX6_group_X6_fails
set_option maxRecDepth 20000 in
theorem ggX6_group_X6_isTooFull : GoodIn wsX6_group wsX6_isTooFull := goodIn_r _ [17, 18, 19, 20, 4, 21, 22, 23, 64, 65, 66, 67, 68, 69, 70, 71, 72, 73, 74, 75, 76, 77, 78, 79, 80, 81, 82, 83, 84, 85] (by decide +kernel) (by decide +kernel)
set_option maxRecDepth 20000 in
theorem gX6_group_X6_isTooFull : GoodIn wsX6_group (wsV RX6 128 RX6 yX6_isTooFull wsX6_isTooFull) := goodIn_app (goodIn_of _ (by decide +kernel)) ggX6_group_X6_isTooFull
set_option maxRecDepth 20000 in
theorem ggX6_group_X6_refuses : GoodIn wsX6_group wsX6_refuses := goodIn_r _ [27, 28, 64, 65, 66, 67, 68, 69, 70, 71, 72, 73, 74, 75, 76, 77, 78, 79, 80, 81, 82, 83, 84, 85] (by decide +kernel) (by decide +kernel)
set_option maxRecDepth 20000 in
theorem gX6_group_X6_refuses : GoodIn wsX6_group (wsV RX6 121 RX6 yX6_refuses wsX6_refuses) := goodIn_app (goodIn_of _ (by decide +kernel)) ggX6_group_X6_refuses
set_option maxRecDepth 20000 in
theorem ggX6_group_X6_finds : GoodIn wsX6_group wsX6_finds := goodIn_r _ [32, 33, 34, 35, 36, 37, 38, 39, 4, 40, 41, 42, 43, 6, 7, 8, 44, 45, 46, 64, 65, 66, 67, 68, 69, 70, 71, 72, 73, 74, 75, 76, 77, 78, 79, 80, 81, 82, 83, 84, 85] (by decide +kernel) (by decide +kernel)
set_option maxRecDepth 20000 in
theorem gX6_group_X6_finds : GoodIn wsX6_group (wsV RX6 108 RX6 yX6_finds wsX6_finds) := goodIn_app (goodIn_of _ (by decide +kernel)) ggX6_group_X6_finds
set_option maxRecDepth 20000 in
theorem ggX6_group_X6_displaces : GoodIn wsX6_group wsX6_displaces := goodIn_r _ [50, 51, 52, 53, 4, 54, 33, 18, 19, 20, 21, 22, 23, 44, 45, 46, 6, 7, 8, 64, 65, 66, 67, 68, 69, 70, 71, 72, 73, 74, 75, 76, 77, 78, 79, 80, 81, 82, 83, 84, 85] (by decide +kernel) (by decide +kernel)
set_option maxRecDepth 20000 in
theorem gX6_group_X6_displaces : GoodIn wsX6_group (wsV RX6 131 RX6 yX6_displaces wsX6_displaces) := goodIn_app (goodIn_of _ (by decide +kernel)) ggX6_group_X6_displaces
set_option maxRecDepth 20000 in
theorem ggX6_group_X6_books : GoodIn wsX6_group wsX6_books := goodIn_r _ [58, 59, 1, 60, 61, 62, 63, 23, 64, 65, 66, 67, 68, 69, 70, 71, 72, 73, 74, 75, 76, 77, 78, 79, 80, 81, 82, 83, 84, 85] (by decide +kernel) (by decide +kernel)
set_option maxRecDepth 20000 in
theorem gX6_group_X6_books : GoodIn wsX6_group (wsV RX6 124 RX6 yX6_books wsX6_books) := goodIn_app (goodIn_of _ (by decide +kernel)) ggX6_group_X6_books
theorem dX6_group_0 : decode cX6_group 0 = .ok (.iload_n 1, 1) := by decide +kernel
theorem dX6_group_1 : decode cX6_group 1 = .ok (.invokestatic 96, 3) := by decide +kernel
theorem dX6_group_4 : decode cX6_group 4 = .ok (.ifCond .eq 14, 3) := by decide +kernel
theorem dX6_group_7 : decode cX6_group 7 = .ok (.iload_n 2, 1) := by decide +kernel
theorem dX6_group_8 : decode cX6_group 8 = .ok (.invokestatic 96, 3) := by decide +kernel
theorem dX6_group_11 : decode cX6_group 11 = .ok (.ifCond .eq 7, 3) := by decide +kernel
theorem dX6_group_14 : decode cX6_group 14 = .ok (.iconst 1, 1) := by decide +kernel
theorem dX6_group_15 : decode cX6_group 15 = .ok (.goto 4, 3) := by decide +kernel
theorem dX6_group_18 : decode cX6_group 18 = .ok (.iconst 0, 1) := by decide +kernel
theorem dX6_group_19 : decode cX6_group 19 = .ok (.istore 5, 2) := by decide +kernel
theorem dX6_group_21 : decode cX6_group 21 = .ok (.iload_n 2, 1) := by decide +kernel
theorem dX6_group_22 : decode cX6_group 22 = .ok (.iload_n 1, 1) := by decide +kernel
theorem dX6_group_23 : decode cX6_group 23 = .ok (.if_icmp .lt 29, 3) := by decide +kernel
theorem dX6_group_26 : decode cX6_group 26 = .ok (.iload_n 3, 1) := by decide +kernel
theorem dX6_group_27 : decode cX6_group 27 = .ok (.iconst 1, 1) := by decide +kernel
theorem dX6_group_28 : decode cX6_group 28 = .ok (.bipush 10, 2) := by decide +kernel
theorem dX6_group_30 : decode cX6_group 30 = .ok (.invokestatic 67, 3) := by decide +kernel
theorem dX6_group_33 : decode cX6_group 33 = .ok (.ifCond .eq 19, 3) := by decide +kernel
theorem dX6_group_36 : decode cX6_group 36 = .ok (.iload 4, 2) := by decide +kernel
theorem dX6_group_38 : decode cX6_group 38 = .ok (.iconst 1, 1) := by decide +kernel
theorem dX6_group_39 : decode cX6_group 39 = .ok (.sipush 3000, 3) := by decide +kernel
theorem dX6_group_42 : decode cX6_group 42 = .ok (.invokestatic 67, 3) := by decide +kernel
theorem dX6_group_45 : decode cX6_group 45 = .ok (.ifCond .eq 7, 3) := by decide +kernel
theorem dX6_group_48 : decode cX6_group 48 = .ok (.iconst 1, 1) := by decide +kernel
theorem dX6_group_49 : decode cX6_group 49 = .ok (.goto 4, 3) := by decide +kernel
theorem dX6_group_52 : decode cX6_group 52 = .ok (.iconst 0, 1) := by decide +kernel
theorem dX6_group_53 : decode cX6_group 53 = .ok (.istore 6, 2) := by decide +kernel
theorem dX6_group_55 : decode cX6_group 55 = .ok (.aload_n 0, 1) := by decide +kernel
theorem dX6_group_56 : decode cX6_group 56 = .ok (.iload 5, 2) := by decide +kernel
theorem dX6_group_58 : decode cX6_group 58 = .ok (.ifCond .ne 7, 3) := by decide +kernel
theorem dX6_group_61 : decode cX6_group 61 = .ok (.iconst 1, 1) := by decide +kernel
theorem dX6_group_62 : decode cX6_group 62 = .ok (.goto 26, 3) := by decide +kernel
theorem dX6_group_65 : decode cX6_group 65 = .ok (.iload 6, 2) := by decide +kernel
theorem dX6_group_67 : decode cX6_group 67 = .ok (.ifCond .ne 7, 3) := by decide +kernel
theorem dX6_group_70 : decode cX6_group 70 = .ok (.iconst 2, 1) := by decide +kernel
theorem dX6_group_71 : decode cX6_group 71 = .ok (.goto 17, 3) := by decide +kernel
theorem dX6_group_74 : decode cX6_group 74 = .ok (.aload_n 0, 1) := by decide +kernel
theorem dX6_group_75 : decode cX6_group 75 = .ok (.getfield 105, 3) := by decide +kernel
theorem dX6_group_78 : decode cX6_group 78 = .ok (.bipush 60, 2) := by decide +kernel
theorem dX6_group_80 : decode cX6_group 80 = .ok (.if_icmp .ne 7, 3) := by decide +kernel
theorem dX6_group_83 : decode cX6_group 83 = .ok (.iconst 3, 1) := by decide +kernel
theorem dX6_group_84 : decode cX6_group 84 = .ok (.goto 4, 3) := by decide +kernel
theorem dX6_group_87 : decode cX6_group 87 = .ok (.iconst 0, 1) := by decide +kernel
theorem dX6_group_88 : decode cX6_group 88 = .ok (.invokevirtual 93, 3) := by decide +kernel
theorem dX6_group_91 : decode cX6_group 91 = .ok (.ifCond .eq 5, 3) := by decide +kernel
theorem dX6_group_94 : decode cX6_group 94 = .ok (.iconst 0, 1) := by decide +kernel
theorem dX6_group_95 : decode cX6_group 95 = .ok (.ireturn, 1) := by decide +kernel
theorem dX6_group_96 : decode cX6_group 96 = .ok (.aload_n 0, 1) := by decide +kernel
theorem dX6_group_97 : decode cX6_group 97 = .ok (.iload_n 1, 1) := by decide +kernel
theorem dX6_group_98 : decode cX6_group 98 = .ok (.iload_n 2, 1) := by decide +kernel
theorem dX6_group_99 : decode cX6_group 99 = .ok (.iload_n 3, 1) := by decide +kernel
theorem dX6_group_100 : decode cX6_group 100 = .ok (.invokevirtual 128, 3) := by decide +kernel
theorem dX6_group_103 : decode cX6_group 103 = .ok (.ifCond .eq 9, 3) := by decide +kernel
theorem dX6_group_106 : decode cX6_group 106 = .ok (.aload_n 0, 1) := by decide +kernel
theorem dX6_group_107 : decode cX6_group 107 = .ok (.iconst (-1), 1) := by decide +kernel
theorem dX6_group_108 : decode cX6_group 108 = .ok (.invokevirtual 121, 3) := by decide +kernel
theorem dX6_group_111 : decode cX6_group 111 = .ok (.ireturn, 1) := by decide +kernel
theorem dX6_group_112 : decode cX6_group 112 = .ok (.aload_n 0, 1) := by decide +kernel
theorem dX6_group_113 : decode cX6_group 113 = .ok (.invokevirtual 108, 3) := by decide +kernel
theorem dX6_group_116 : decode cX6_group 116 = .ok (.iload 4, 2) := by decide +kernel
theorem dX6_group_118 : decode cX6_group 118 = .ok (.iload_n 3, 1) := by decide +kernel
theorem dX6_group_119 : decode cX6_group 119 = .ok (.imul, 1) := by decide +kernel
theorem dX6_group_120 : decode cX6_group 120 = .ok (.aload_n 0, 1) := by decide +kernel
theorem dX6_group_121 : decode cX6_group 121 = .ok (.iload_n 1, 1) := by decide +kernel
theorem dX6_group_122 : decode cX6_group 122 = .ok (.iload_n 2, 1) := by decide +kernel
theorem dX6_group_123 : decode cX6_group 123 = .ok (.iload_n 3, 1) := by decide +kernel
theorem dX6_group_124 : decode cX6_group 124 = .ok (.invokevirtual 131, 3) := by decide +kernel
theorem dX6_group_127 : decode cX6_group 127 = .ok (.if_icmp .ge 12, 3) := by decide +kernel
theorem dX6_group_130 : decode cX6_group 130 = .ok (.aload_n 0, 1) := by decide +kernel
theorem dX6_group_131 : decode cX6_group 131 = .ok (.bipush (-3), 2) := by decide +kernel
theorem dX6_group_133 : decode cX6_group 133 = .ok (.invokevirtual 121, 3) := by decide +kernel
theorem dX6_group_136 : decode cX6_group 136 = .ok (.goto 14, 3) := by decide +kernel
theorem dX6_group_139 : decode cX6_group 139 = .ok (.aload_n 0, 1) := by decide +kernel
theorem dX6_group_140 : decode cX6_group 140 = .ok (.iload_n 1, 1) := by decide +kernel
theorem dX6_group_141 : decode cX6_group 141 = .ok (.iload_n 2, 1) := by decide +kernel
theorem dX6_group_142 : decode cX6_group 142 = .ok (.iload_n 3, 1) := by decide +kernel
theorem dX6_group_143 : decode cX6_group 143 = .ok (.iload 4, 2) := by decide +kernel
theorem dX6_group_145 : decode cX6_group 145 = .ok (.iload_n 3, 1) := by decide +kernel
theorem dX6_group_146 : decode cX6_group 146 = .ok (.imul, 1) := by decide +kernel
theorem dX6_group_147 : decode cX6_group 147 = .ok (.invokevirtual 124, 3) := by decide +kernel
theorem dX6_group_150 : decode cX6_group 150 = .ok (.ireturn, 1) := by decide +kernel
set_option maxRecDepth 20000 in
theorem ggX6_cancel_X6_isIn : GoodIn wsX6_cancel wsX6_isIn := goodIn_r _ [10] (by decide +kernel) (by decide +kernel)
set_option maxRecDepth 20000 in
theorem gX6_cancel_X6_isIn : GoodIn wsX6_cancel (va_wsS RX6 67 yX6_isIn wsX6_isIn) := goodIn_app (goodIn_of _ (by decide +kernel)) ggX6_cancel_X6_isIn
set_option maxRecDepth 20000 in
theorem ggX6_cancel_X6_fails : GoodIn wsX6_cancel wsX6_fails := goodIn_r _ [14, 15, 16, 17, 18, 19, 20, 21, 22, 23, 24, 25, 26, 27, 28, 29, 30, 31, 32, 33, 34, 35, 36, 37] (by decide +kernel) (by decide +kernel)
set_option maxRecDepth 20000 in
theorem gX6_cancel_X6_fails : GoodIn wsX6_cancel (wsV RX6 93 RX6 yX6_fails wsX6_fails) := goodIn_app (goodIn_of _ (by decide +kernel)) ggX6_cancel_X6_fails
theorem dX6_cancel_0 : decode cX6_cancel 0 = .ok (.iload_n 1, 1) := by decide +kernel
theorem dX6_cancel_1 : decode cX6_cancel 1 = .ok (.iconst 0, 1) := by decide +kernel
theorem dX6_cancel_2 : decode cX6_cancel 2 = .ok (.aload_n 0, 1) := by decide +kernel
theorem dX6_cancel_3 : decode cX6_cancel 3 = .ok (.getfield 105, 3) := by decide +kernel
theorem dX6_cancel_6 : decode cX6_cancel 6 = .ok (.iconst 1, 1) := by decide +kernel
theorem dX6_cancel_7 : decode cX6_cancel 7 = .ok (.isub, 1) := by decide +kernel
theorem dX6_cancel_8 : decode cX6_cancel 8 = .ok (.invokestatic 67, 3) := by decide +kernel
theorem dX6_cancel_11 : decode cX6_cancel 11 = .ok (.istore_n 2, 1) := by decide +kernel
theorem dX6_cancel_12 : decode cX6_cancel 12 = .ok (.aload_n 0, 1) := by decide +kernel
theorem dX6_cancel_13 : decode cX6_cancel 13 = .ok (.iload_n 2, 1) := by decide +kernel
theorem dX6_cancel_14 : decode cX6_cancel 14 = .ok (.ifCond .ne 7, 3) := by decide +kernel
theorem dX6_cancel_17 : decode cX6_cancel 17 = .ok (.iconst 1, 1) := by decide +kernel
theorem dX6_cancel_18 : decode cX6_cancel 18 = .ok (.goto 17, 3) := by decide +kernel
theorem dX6_cancel_21 : decode cX6_cancel 21 = .ok (.aload_n 0, 1) := by decide +kernel
theorem dX6_cancel_22 : decode cX6_cancel 22 = .ok (.getfield 54, 3) := by decide +kernel
theorem dX6_cancel_25 : decode cX6_cancel 25 = .ok (.iload_n 1, 1) := by decide +kernel
theorem dX6_cancel_26 : decode cX6_cancel 26 = .ok (.baload, 1) := by decide +kernel
theorem dX6_cancel_27 : decode cX6_cancel 27 = .ok (.ifCond .eq 7, 3) := by decide +kernel
theorem dX6_cancel_30 : decode cX6_cancel 30 = .ok (.iconst 2, 1) := by decide +kernel
theorem dX6_cancel_31 : decode cX6_cancel 31 = .ok (.goto 4, 3) := by decide +kernel
theorem dX6_cancel_34 : decode cX6_cancel 34 = .ok (.iconst 0, 1) := by decide +kernel
theorem dX6_cancel_35 : decode cX6_cancel 35 = .ok (.invokevirtual 93, 3) := by decide +kernel
theorem dX6_cancel_38 : decode cX6_cancel 38 = .ok (.ifCond .eq 5, 3) := by decide +kernel
theorem dX6_cancel_41 : decode cX6_cancel 41 = .ok (.iconst 0, 1) := by decide +kernel
theorem dX6_cancel_42 : decode cX6_cancel 42 = .ok (.ireturn, 1) := by decide +kernel
theorem dX6_cancel_43 : decode cX6_cancel 43 = .ok (.aload_n 0, 1) := by decide +kernel
theorem dX6_cancel_44 : decode cX6_cancel 44 = .ok (.getfield 54, 3) := by decide +kernel
theorem dX6_cancel_47 : decode cX6_cancel 47 = .ok (.iload_n 1, 1) := by decide +kernel
theorem dX6_cancel_48 : decode cX6_cancel 48 = .ok (.iconst 1, 1) := by decide +kernel
theorem dX6_cancel_49 : decode cX6_cancel 49 = .ok (.bastore, 1) := by decide +kernel
theorem dX6_cancel_50 : decode cX6_cancel 50 = .ok (.aload_n 0, 1) := by decide +kernel
theorem dX6_cancel_51 : decode cX6_cancel 51 = .ok (.getfield 42, 3) := by decide +kernel
theorem dX6_cancel_54 : decode cX6_cancel 54 = .ok (.iload_n 1, 1) := by decide +kernel
theorem dX6_cancel_55 : decode cX6_cancel 55 = .ok (.iaload, 1) := by decide +kernel
theorem dX6_cancel_56 : decode cX6_cancel 56 = .ok (.istore_n 3, 1) := by decide +kernel
theorem dX6_cancel_57 : decode cX6_cancel 57 = .ok (.iload_n 3, 1) := by decide +kernel
theorem dX6_cancel_58 : decode cX6_cancel 58 = .ok (.aload_n 0, 1) := by decide +kernel
theorem dX6_cancel_59 : decode cX6_cancel 59 = .ok (.getfield 45, 3) := by decide +kernel
theorem dX6_cancel_62 : decode cX6_cancel 62 = .ok (.iload_n 1, 1) := by decide +kernel
theorem dX6_cancel_63 : decode cX6_cancel 63 = .ok (.iaload, 1) := by decide +kernel
theorem dX6_cancel_64 : decode cX6_cancel 64 = .ok (.if_icmp .gt 24, 3) := by decide +kernel
theorem dX6_cancel_67 : decode cX6_cancel 67 = .ok (.aload_n 0, 1) := by decide +kernel
theorem dX6_cancel_68 : decode cX6_cancel 68 = .ok (.getfield 13, 3) := by decide +kernel
theorem dX6_cancel_71 : decode cX6_cancel 71 = .ok (.iload_n 3, 1) := by decide +kernel
theorem dX6_cancel_72 : decode cX6_cancel 72 = .ok (.dup2, 1) := by decide +kernel
theorem dX6_cancel_73 : decode cX6_cancel 73 = .ok (.iaload, 1) := by decide +kernel
theorem dX6_cancel_74 : decode cX6_cancel 74 = .ok (.aload_n 0, 1) := by decide +kernel
theorem dX6_cancel_75 : decode cX6_cancel 75 = .ok (.getfield 48, 3) := by decide +kernel
theorem dX6_cancel_78 : decode cX6_cancel 78 = .ok (.iload_n 1, 1) := by decide +kernel
theorem dX6_cancel_79 : decode cX6_cancel 79 = .ok (.iaload, 1) := by decide +kernel
theorem dX6_cancel_80 : decode cX6_cancel 80 = .ok (.isub, 1) := by decide +kernel
theorem dX6_cancel_81 : decode cX6_cancel 81 = .ok (.iastore, 1) := by decide +kernel
theorem dX6_cancel_82 : decode cX6_cancel 82 = .ok (.iinc 3 1, 3) := by decide +kernel
theorem dX6_cancel_85 : decode cX6_cancel 85 = .ok (.goto (-28), 3) := by decide +kernel
theorem dX6_cancel_88 : decode cX6_cancel 88 = .ok (.aload_n 0, 1) := by decide +kernel
theorem dX6_cancel_89 : decode cX6_cancel 89 = .ok (.getfield 48, 3) := by decide +kernel
theorem dX6_cancel_92 : decode cX6_cancel 92 = .ok (.iload_n 1, 1) := by decide +kernel
theorem dX6_cancel_93 : decode cX6_cancel 93 = .ok (.iaload, 1) := by decide +kernel
theorem dX6_cancel_94 : decode cX6_cancel 94 = .ok (.ireturn, 1) := by decide +kernel
theorem dX6_sold_0 : decode cX6_sold 0 = .ok (.iconst 0, 1) := by decide +kernel
theorem dX6_sold_1 : decode cX6_sold 1 = .ok (.istore_n 1, 1) := by decide +kernel
theorem dX6_sold_2 : decode cX6_sold 2 = .ok (.iconst 0, 1) := by decide +kernel
theorem dX6_sold_3 : decode cX6_sold 3 = .ok (.istore_n 2, 1) := by decide +kernel
theorem dX6_sold_4 : decode cX6_sold 4 = .ok (.iload_n 2, 1) := by decide +kernel
theorem dX6_sold_5 : decode cX6_sold 5 = .ok (.aload_n 0, 1) := by decide +kernel
theorem dX6_sold_6 : decode cX6_sold 6 = .ok (.getfield 105, 3) := by decide +kernel
theorem dX6_sold_9 : decode cX6_sold 9 = .ok (.if_icmp .ge 31, 3) := by decide +kernel
theorem dX6_sold_12 : decode cX6_sold 12 = .ok (.iload_n 1, 1) := by decide +kernel
theorem dX6_sold_13 : decode cX6_sold 13 = .ok (.aload_n 0, 1) := by decide +kernel
theorem dX6_sold_14 : decode cX6_sold 14 = .ok (.getfield 54, 3) := by decide +kernel
theorem dX6_sold_17 : decode cX6_sold 17 = .ok (.iload_n 2, 1) := by decide +kernel
theorem dX6_sold_18 : decode cX6_sold 18 = .ok (.baload, 1) := by decide +kernel
theorem dX6_sold_19 : decode cX6_sold 19 = .ok (.ifCond .eq 7, 3) := by decide +kernel
theorem dX6_sold_22 : decode cX6_sold 22 = .ok (.iconst 0, 1) := by decide +kernel
theorem dX6_sold_23 : decode cX6_sold 23 = .ok (.goto 9, 3) := by decide +kernel
theorem dX6_sold_26 : decode cX6_sold 26 = .ok (.aload_n 0, 1) := by decide +kernel
theorem dX6_sold_27 : decode cX6_sold 27 = .ok (.getfield 51, 3) := by decide +kernel
theorem dX6_sold_30 : decode cX6_sold 30 = .ok (.iload_n 2, 1) := by decide +kernel
theorem dX6_sold_31 : decode cX6_sold 31 = .ok (.iaload, 1) := by decide +kernel
theorem dX6_sold_32 : decode cX6_sold 32 = .ok (.iadd, 1) := by decide +kernel
theorem dX6_sold_33 : decode cX6_sold 33 = .ok (.istore_n 1, 1) := by decide +kernel
theorem dX6_sold_34 : decode cX6_sold 34 = .ok (.iinc 2 1, 3) := by decide +kernel
theorem dX6_sold_37 : decode cX6_sold 37 = .ok (.goto (-33), 3) := by decide +kernel
theorem dX6_sold_40 : decode cX6_sold 40 = .ok (.iload_n 1, 1) := by decide +kernel
theorem dX6_sold_41 : decode cX6_sold 41 = .ok (.ireturn, 1) := by decide +kernel
set_option maxRecDepth 20000 in
theorem ggX6_endDay_X6_isIn : GoodIn wsX6_endDay wsX6_isIn := goodIn_r _ [14] (by decide +kernel) (by decide +kernel)
set_option maxRecDepth 20000 in
theorem gX6_endDay_X6_isIn : GoodIn wsX6_endDay (va_wsS RX6 67 yX6_isIn wsX6_isIn) := goodIn_app (goodIn_of _ (by decide +kernel)) ggX6_endDay_X6_isIn
set_option maxRecDepth 20000 in
theorem ggX6_endDay_X6_fails : GoodIn wsX6_endDay wsX6_fails := goodIn_r _ [18, 19, 26, 27, 28, 29, 30, 31, 32, 33, 34, 35, 36, 37, 38, 39, 40, 41, 42, 43, 44, 45, 46, 47] (by decide +kernel) (by decide +kernel)
set_option maxRecDepth 20000 in
theorem gX6_endDay_X6_fails : GoodIn wsX6_endDay (wsV RX6 93 RX6 yX6_fails wsX6_fails) := goodIn_app (goodIn_of _ (by decide +kernel)) ggX6_endDay_X6_fails
set_option maxRecDepth 20000 in
theorem ggX6_endDay_X6_sold : GoodIn wsX6_endDay wsX6_sold := goodIn_r _ [23, 4, 24, 25, 26, 27, 28, 29, 30, 31, 32, 33, 34, 35, 36, 37, 38, 39, 40, 41, 42, 43, 44, 45, 46, 47] (by decide +kernel) (by decide +kernel)
set_option maxRecDepth 20000 in
theorem gX6_endDay_X6_sold : GoodIn wsX6_endDay (wsV RX6 138 RX6 yX6_sold wsX6_sold) := goodIn_app (goodIn_of _ (by decide +kernel)) ggX6_endDay_X6_sold
theorem dX6_endDay_0 : decode cX6_endDay 0 = .ok (.aload_n 0, 1) := by decide +kernel
theorem dX6_endDay_1 : decode cX6_endDay 1 = .ok (.iload_n 1, 1) := by decide +kernel
theorem dX6_endDay_2 : decode cX6_endDay 2 = .ok (.iconst 0, 1) := by decide +kernel
theorem dX6_endDay_3 : decode cX6_endDay 3 = .ok (.bipush 100, 2) := by decide +kernel
theorem dX6_endDay_5 : decode cX6_endDay 5 = .ok (.invokestatic 67, 3) := by decide +kernel
theorem dX6_endDay_8 : decode cX6_endDay 8 = .ok (.ifCond .eq 7, 3) := by decide +kernel
theorem dX6_endDay_11 : decode cX6_endDay 11 = .ok (.iconst 0, 1) := by decide +kernel
theorem dX6_endDay_12 : decode cX6_endDay 12 = .ok (.goto 4, 3) := by decide +kernel
theorem dX6_endDay_15 : decode cX6_endDay 15 = .ok (.iconst 1, 1) := by decide +kernel
theorem dX6_endDay_16 : decode cX6_endDay 16 = .ok (.invokevirtual 93, 3) := by decide +kernel
theorem dX6_endDay_19 : decode cX6_endDay 19 = .ok (.ifCond .eq 5, 3) := by decide +kernel
theorem dX6_endDay_22 : decode cX6_endDay 22 = .ok (.iconst 0, 1) := by decide +kernel
theorem dX6_endDay_23 : decode cX6_endDay 23 = .ok (.ireturn, 1) := by decide +kernel
theorem dX6_endDay_24 : decode cX6_endDay 24 = .ok (.iconst 0, 1) := by decide +kernel
theorem dX6_endDay_25 : decode cX6_endDay 25 = .ok (.istore_n 2, 1) := by decide +kernel
theorem dX6_endDay_26 : decode cX6_endDay 26 = .ok (.iconst 0, 1) := by decide +kernel
theorem dX6_endDay_27 : decode cX6_endDay 27 = .ok (.istore_n 3, 1) := by decide +kernel
theorem dX6_endDay_28 : decode cX6_endDay 28 = .ok (.iload_n 3, 1) := by decide +kernel
theorem dX6_endDay_29 : decode cX6_endDay 29 = .ok (.iconst 3, 1) := by decide +kernel
theorem dX6_endDay_30 : decode cX6_endDay 30 = .ok (.if_icmp .ge 59, 3) := by decide +kernel
theorem dX6_endDay_33 : decode cX6_endDay 33 = .ok (.aload_n 0, 1) := by decide +kernel
theorem dX6_endDay_34 : decode cX6_endDay 34 = .ok (.getfield 13, 3) := by decide +kernel
theorem dX6_endDay_37 : decode cX6_endDay 37 = .ok (.iload_n 3, 1) := by decide +kernel
theorem dX6_endDay_38 : decode cX6_endDay 38 = .ok (.iaload, 1) := by decide +kernel
theorem dX6_endDay_39 : decode cX6_endDay 39 = .ok (.iload_n 1, 1) := by decide +kernel
theorem dX6_endDay_40 : decode cX6_endDay 40 = .ok (.imul, 1) := by decide +kernel
theorem dX6_endDay_41 : decode cX6_endDay 41 = .ok (.bipush 99, 2) := by decide +kernel
theorem dX6_endDay_43 : decode cX6_endDay 43 = .ok (.iadd, 1) := by decide +kernel
theorem dX6_endDay_44 : decode cX6_endDay 44 = .ok (.bipush 100, 2) := by decide +kernel
theorem dX6_endDay_46 : decode cX6_endDay 46 = .ok (.idiv, 1) := by decide +kernel
theorem dX6_endDay_47 : decode cX6_endDay 47 = .ok (.istore 4, 2) := by decide +kernel
theorem dX6_endDay_49 : decode cX6_endDay 49 = .ok (.iload_n 2, 1) := by decide +kernel
theorem dX6_endDay_50 : decode cX6_endDay 50 = .ok (.iload 4, 2) := by decide +kernel
theorem dX6_endDay_52 : decode cX6_endDay 52 = .ok (.aload_n 0, 1) := by decide +kernel
theorem dX6_endDay_53 : decode cX6_endDay 53 = .ok (.getfield 7, 3) := by decide +kernel
theorem dX6_endDay_56 : decode cX6_endDay 56 = .ok (.iload_n 3, 1) := by decide +kernel
theorem dX6_endDay_57 : decode cX6_endDay 57 = .ok (.iaload, 1) := by decide +kernel
theorem dX6_endDay_58 : decode cX6_endDay 58 = .ok (.if_icmp .le 15, 3) := by decide +kernel
theorem dX6_endDay_61 : decode cX6_endDay 61 = .ok (.iload 4, 2) := by decide +kernel
theorem dX6_endDay_63 : decode cX6_endDay 63 = .ok (.aload_n 0, 1) := by decide +kernel
theorem dX6_endDay_64 : decode cX6_endDay 64 = .ok (.getfield 7, 3) := by decide +kernel
theorem dX6_endDay_67 : decode cX6_endDay 67 = .ok (.iload_n 3, 1) := by decide +kernel
theorem dX6_endDay_68 : decode cX6_endDay 68 = .ok (.iaload, 1) := by decide +kernel
theorem dX6_endDay_69 : decode cX6_endDay 69 = .ok (.isub, 1) := by decide +kernel
theorem dX6_endDay_70 : decode cX6_endDay 70 = .ok (.goto 4, 3) := by decide +kernel
theorem dX6_endDay_73 : decode cX6_endDay 73 = .ok (.iconst 0, 1) := by decide +kernel
theorem dX6_endDay_74 : decode cX6_endDay 74 = .ok (.iadd, 1) := by decide +kernel
theorem dX6_endDay_75 : decode cX6_endDay 75 = .ok (.istore_n 2, 1) := by decide +kernel
theorem dX6_endDay_76 : decode cX6_endDay 76 = .ok (.aload_n 0, 1) := by decide +kernel
theorem dX6_endDay_77 : decode cX6_endDay 77 = .ok (.getfield 13, 3) := by decide +kernel
theorem dX6_endDay_80 : decode cX6_endDay 80 = .ok (.iload_n 3, 1) := by decide +kernel
theorem dX6_endDay_81 : decode cX6_endDay 81 = .ok (.iconst 0, 1) := by decide +kernel
theorem dX6_endDay_82 : decode cX6_endDay 82 = .ok (.iastore, 1) := by decide +kernel
theorem dX6_endDay_83 : decode cX6_endDay 83 = .ok (.iinc 3 1, 3) := by decide +kernel
theorem dX6_endDay_86 : decode cX6_endDay 86 = .ok (.goto (-58), 3) := by decide +kernel
theorem dX6_endDay_89 : decode cX6_endDay 89 = .ok (.aload_n 0, 1) := by decide +kernel
theorem dX6_endDay_90 : decode cX6_endDay 90 = .ok (.dup, 1) := by decide +kernel
theorem dX6_endDay_91 : decode cX6_endDay 91 = .ok (.getfield 134, 3) := by decide +kernel
theorem dX6_endDay_94 : decode cX6_endDay 94 = .ok (.aload_n 0, 1) := by decide +kernel
theorem dX6_endDay_95 : decode cX6_endDay 95 = .ok (.invokevirtual 138, 3) := by decide +kernel
theorem dX6_endDay_98 : decode cX6_endDay 98 = .ok (.bipush 100, 2) := by decide +kernel
theorem dX6_endDay_100 : decode cX6_endDay 100 = .ok (.iload_n 2, 1) := by decide +kernel
theorem dX6_endDay_101 : decode cX6_endDay 101 = .ok (.imul, 1) := by decide +kernel
theorem dX6_endDay_102 : decode cX6_endDay 102 = .ok (.isub, 1) := by decide +kernel
theorem dX6_endDay_103 : decode cX6_endDay 103 = .ok (.i2l, 1) := by decide +kernel
theorem dX6_endDay_104 : decode cX6_endDay 104 = .ok (.ladd, 1) := by decide +kernel
theorem dX6_endDay_105 : decode cX6_endDay 105 = .ok (.putfield 134, 3) := by decide +kernel
theorem dX6_endDay_108 : decode cX6_endDay 108 = .ok (.aload_n 0, 1) := by decide +kernel
theorem dX6_endDay_109 : decode cX6_endDay 109 = .ok (.iconst 0, 1) := by decide +kernel
theorem dX6_endDay_110 : decode cX6_endDay 110 = .ok (.putfield 105, 3) := by decide +kernel
theorem dX6_endDay_113 : decode cX6_endDay 113 = .ok (.aload_n 0, 1) := by decide +kernel
theorem dX6_endDay_114 : decode cX6_endDay 114 = .ok (.dup, 1) := by decide +kernel
theorem dX6_endDay_115 : decode cX6_endDay 115 = .ok (.getfield 99, 3) := by decide +kernel
theorem dX6_endDay_118 : decode cX6_endDay 118 = .ok (.iconst 1, 1) := by decide +kernel
theorem dX6_endDay_119 : decode cX6_endDay 119 = .ok (.iadd, 1) := by decide +kernel
theorem dX6_endDay_120 : decode cX6_endDay 120 = .ok (.putfield 99, 3) := by decide +kernel
theorem dX6_endDay_123 : decode cX6_endDay 123 = .ok (.iconst 0, 1) := by decide +kernel
theorem dX6_endDay_124 : decode cX6_endDay 124 = .ok (.istore_n 3, 1) := by decide +kernel
theorem dX6_endDay_125 : decode cX6_endDay 125 = .ok (.iload_n 3, 1) := by decide +kernel
theorem dX6_endDay_126 : decode cX6_endDay 126 = .ok (.aload_n 0, 1) := by decide +kernel
theorem dX6_endDay_127 : decode cX6_endDay 127 = .ok (.getfield 71, 3) := by decide +kernel
theorem dX6_endDay_130 : decode cX6_endDay 130 = .ok (.if_icmp .ge 87, 3) := by decide +kernel
theorem dX6_endDay_133 : decode cX6_endDay 133 = .ok (.aload_n 0, 1) := by decide +kernel
theorem dX6_endDay_134 : decode cX6_endDay 134 = .ok (.getfield 35, 3) := by decide +kernel
theorem dX6_endDay_137 : decode cX6_endDay 137 = .ok (.bipush 21, 2) := by decide +kernel
theorem dX6_endDay_139 : decode cX6_endDay 139 = .ok (.iload_n 3, 1) := by decide +kernel
theorem dX6_endDay_140 : decode cX6_endDay 140 = .ok (.imul, 1) := by decide +kernel
theorem dX6_endDay_141 : decode cX6_endDay 141 = .ok (.aload_n 0, 1) := by decide +kernel
theorem dX6_endDay_142 : decode cX6_endDay 142 = .ok (.getfield 28, 3) := by decide +kernel
theorem dX6_endDay_145 : decode cX6_endDay 145 = .ok (.iload_n 3, 1) := by decide +kernel
theorem dX6_endDay_146 : decode cX6_endDay 146 = .ok (.iaload, 1) := by decide +kernel
theorem dX6_endDay_147 : decode cX6_endDay 147 = .ok (.bipush 20, 2) := by decide +kernel
theorem dX6_endDay_149 : decode cX6_endDay 149 = .ok (.if_icmp .le 8, 3) := by decide +kernel
theorem dX6_endDay_152 : decode cX6_endDay 152 = .ok (.bipush 20, 2) := by decide +kernel
theorem dX6_endDay_154 : decode cX6_endDay 154 = .ok (.goto 9, 3) := by decide +kernel
theorem dX6_endDay_157 : decode cX6_endDay 157 = .ok (.aload_n 0, 1) := by decide +kernel
theorem dX6_endDay_158 : decode cX6_endDay 158 = .ok (.getfield 28, 3) := by decide +kernel
theorem dX6_endDay_161 : decode cX6_endDay 161 = .ok (.iload_n 3, 1) := by decide +kernel
theorem dX6_endDay_162 : decode cX6_endDay 162 = .ok (.iaload, 1) := by decide +kernel
theorem dX6_endDay_163 : decode cX6_endDay 163 = .ok (.iadd, 1) := by decide +kernel
theorem dX6_endDay_164 : decode cX6_endDay 164 = .ok (.dup2, 1) := by decide +kernel
theorem dX6_endDay_165 : decode cX6_endDay 165 = .ok (.iaload, 1) := by decide +kernel
theorem dX6_endDay_166 : decode cX6_endDay 166 = .ok (.iconst 1, 1) := by decide +kernel
theorem dX6_endDay_167 : decode cX6_endDay 167 = .ok (.iadd, 1) := by decide +kernel
theorem dX6_endDay_168 : decode cX6_endDay 168 = .ok (.iastore, 1) := by decide +kernel
theorem dX6_endDay_169 : decode cX6_endDay 169 = .ok (.aload_n 0, 1) := by decide +kernel
theorem dX6_endDay_170 : decode cX6_endDay 170 = .ok (.getfield 31, 3) := by decide +kernel
theorem dX6_endDay_173 : decode cX6_endDay 173 = .ok (.iload_n 3, 1) := by decide +kernel
theorem dX6_endDay_174 : decode cX6_endDay 174 = .ok (.dup2, 1) := by decide +kernel
theorem dX6_endDay_175 : decode cX6_endDay 175 = .ok (.laload, 1) := by decide +kernel
theorem dX6_endDay_176 : decode cX6_endDay 176 = .ok (.aload_n 0, 1) := by decide +kernel
theorem dX6_endDay_177 : decode cX6_endDay 177 = .ok (.getfield 28, 3) := by decide +kernel
theorem dX6_endDay_180 : decode cX6_endDay 180 = .ok (.iload_n 3, 1) := by decide +kernel
theorem dX6_endDay_181 : decode cX6_endDay 181 = .ok (.iaload, 1) := by decide +kernel
theorem dX6_endDay_182 : decode cX6_endDay 182 = .ok (.i2l, 1) := by decide +kernel
theorem dX6_endDay_183 : decode cX6_endDay 183 = .ok (.ladd, 1) := by decide +kernel
theorem dX6_endDay_184 : decode cX6_endDay 184 = .ok (.lastore, 1) := by decide +kernel
theorem dX6_endDay_185 : decode cX6_endDay 185 = .ok (.aload_n 0, 1) := by decide +kernel
theorem dX6_endDay_186 : decode cX6_endDay 186 = .ok (.getfield 25, 3) := by decide +kernel
theorem dX6_endDay_189 : decode cX6_endDay 189 = .ok (.iload_n 3, 1) := by decide +kernel
theorem dX6_endDay_190 : decode cX6_endDay 190 = .ok (.aload_n 0, 1) := by decide +kernel
theorem dX6_endDay_191 : decode cX6_endDay 191 = .ok (.getfield 31, 3) := by decide +kernel
theorem dX6_endDay_194 : decode cX6_endDay 194 = .ok (.iload_n 3, 1) := by decide +kernel
theorem dX6_endDay_195 : decode cX6_endDay 195 = .ok (.laload, 1) := by decide +kernel
theorem dX6_endDay_196 : decode cX6_endDay 196 = .ok (.aload_n 0, 1) := by decide +kernel
theorem dX6_endDay_197 : decode cX6_endDay 197 = .ok (.getfield 99, 3) := by decide +kernel
theorem dX6_endDay_200 : decode cX6_endDay 200 = .ok (.i2l, 1) := by decide +kernel
theorem dX6_endDay_201 : decode cX6_endDay 201 = .ok (.ldiv, 1) := by decide +kernel
theorem dX6_endDay_202 : decode cX6_endDay 202 = .ok (.l2i, 1) := by decide +kernel
theorem dX6_endDay_203 : decode cX6_endDay 203 = .ok (.iastore, 1) := by decide +kernel
theorem dX6_endDay_204 : decode cX6_endDay 204 = .ok (.aload_n 0, 1) := by decide +kernel
theorem dX6_endDay_205 : decode cX6_endDay 205 = .ok (.getfield 28, 3) := by decide +kernel
theorem dX6_endDay_208 : decode cX6_endDay 208 = .ok (.iload_n 3, 1) := by decide +kernel
theorem dX6_endDay_209 : decode cX6_endDay 209 = .ok (.iconst 0, 1) := by decide +kernel
theorem dX6_endDay_210 : decode cX6_endDay 210 = .ok (.iastore, 1) := by decide +kernel
theorem dX6_endDay_211 : decode cX6_endDay 211 = .ok (.iinc 3 1, 3) := by decide +kernel
theorem dX6_endDay_214 : decode cX6_endDay 214 = .ok (.goto (-89), 3) := by decide +kernel
theorem dX6_endDay_217 : decode cX6_endDay 217 = .ok (.iload_n 2, 1) := by decide +kernel
theorem dX6_endDay_218 : decode cX6_endDay 218 = .ok (.ireturn, 1) := by decide +kernel
set_option maxRecDepth 20000 in
theorem ggX6_products_X6_tells : GoodIn wsX6_products wsX6_tells := goodIn_r _ [6, 7, 8, 9, 10, 11, 12, 13, 14, 15, 16, 17, 18, 19, 20, 21, 22, 23, 24, 25, 26, 27, 28, 29] (by decide +kernel) (by decide +kernel)
set_option maxRecDepth 20000 in
theorem gX6_products_X6_tells : GoodIn wsX6_products (wsV RX6 142 RX6 yX6_tells wsX6_tells) := goodIn_app (goodIn_of _ (by decide +kernel)) ggX6_products_X6_tells
theorem dX6_products_0 : decode cX6_products 0 = .ok (.aload_n 0, 1) := by decide +kernel
theorem dX6_products_1 : decode cX6_products 1 = .ok (.aload_n 0, 1) := by decide +kernel
theorem dX6_products_2 : decode cX6_products 2 = .ok (.getfield 71, 3) := by decide +kernel
theorem dX6_products_5 : decode cX6_products 5 = .ok (.invokevirtual 142, 3) := by decide +kernel
theorem dX6_products_8 : decode cX6_products 8 = .ok (.ireturn, 1) := by decide +kernel
set_option maxRecDepth 20000 in
theorem ggX6_days_X6_tells : GoodIn wsX6_days wsX6_tells := goodIn_r _ [6, 7, 8, 9, 10, 11, 12, 13, 14, 15, 16, 17, 18, 19, 20, 21, 22, 23, 24, 25, 26, 27, 28, 29] (by decide +kernel) (by decide +kernel)
set_option maxRecDepth 20000 in
theorem gX6_days_X6_tells : GoodIn wsX6_days (wsV RX6 142 RX6 yX6_tells wsX6_tells) := goodIn_app (goodIn_of _ (by decide +kernel)) ggX6_days_X6_tells
theorem dX6_days_0 : decode cX6_days 0 = .ok (.aload_n 0, 1) := by decide +kernel
theorem dX6_days_1 : decode cX6_days 1 = .ok (.aload_n 0, 1) := by decide +kernel
theorem dX6_days_2 : decode cX6_days 2 = .ok (.getfield 99, 3) := by decide +kernel
theorem dX6_days_5 : decode cX6_days 5 = .ok (.invokevirtual 142, 3) := by decide +kernel
theorem dX6_days_8 : decode cX6_days 8 = .ok (.ireturn, 1) := by decide +kernel
set_option maxRecDepth 20000 in
theorem ggX6_booked_X6_isLeg : GoodIn wsX6_booked wsX6_isLeg := goodIn_r _ [5, 6, 7, 4, 8] (by decide +kernel) (by decide +kernel)
set_option maxRecDepth 20000 in
theorem gX6_booked_X6_isLeg : GoodIn wsX6_booked (va_wsS RX6 96 yX6_isLeg wsX6_isLeg) := goodIn_app (goodIn_of _ (by decide +kernel)) ggX6_booked_X6_isLeg
set_option maxRecDepth 20000 in
theorem ggX6_booked_X6_fails : GoodIn wsX6_booked wsX6_fails := goodIn_r _ [12, 13, 14, 15, 16, 17, 18, 19, 20, 21, 22, 23, 24, 25, 26, 27, 28, 29, 30, 31, 32, 33, 34, 35] (by decide +kernel) (by decide +kernel)
set_option maxRecDepth 20000 in
theorem gX6_booked_X6_fails : GoodIn wsX6_booked (wsV RX6 93 RX6 yX6_fails wsX6_fails) := goodIn_app (goodIn_of _ (by decide +kernel)) ggX6_booked_X6_fails
theorem dX6_booked_0 : decode cX6_booked 0 = .ok (.aload_n 0, 1) := by decide +kernel
theorem dX6_booked_1 : decode cX6_booked 1 = .ok (.iload_n 1, 1) := by decide +kernel
theorem dX6_booked_2 : decode cX6_booked 2 = .ok (.invokestatic 96, 3) := by decide +kernel
theorem dX6_booked_5 : decode cX6_booked 5 = .ok (.ifCond .eq 7, 3) := by decide +kernel
theorem dX6_booked_8 : decode cX6_booked 8 = .ok (.iconst 0, 1) := by decide +kernel
theorem dX6_booked_9 : decode cX6_booked 9 = .ok (.goto 4, 3) := by decide +kernel
theorem dX6_booked_12 : decode cX6_booked 12 = .ok (.iconst 1, 1) := by decide +kernel
theorem dX6_booked_13 : decode cX6_booked 13 = .ok (.invokevirtual 93, 3) := by decide +kernel
theorem dX6_booked_16 : decode cX6_booked 16 = .ok (.ifCond .eq 7, 3) := by decide +kernel
theorem dX6_booked_19 : decode cX6_booked 19 = .ok (.iconst 0, 1) := by decide +kernel
theorem dX6_booked_20 : decode cX6_booked 20 = .ok (.goto 9, 3) := by decide +kernel
theorem dX6_booked_23 : decode cX6_booked 23 = .ok (.aload_n 0, 1) := by decide +kernel
theorem dX6_booked_24 : decode cX6_booked 24 = .ok (.getfield 13, 3) := by decide +kernel
theorem dX6_booked_27 : decode cX6_booked 27 = .ok (.iload_n 1, 1) := by decide +kernel
theorem dX6_booked_28 : decode cX6_booked 28 = .ok (.iaload, 1) := by decide +kernel
theorem dX6_booked_29 : decode cX6_booked 29 = .ok (.ireturn, 1) := by decide +kernel
set_option maxRecDepth 20000 in
theorem ggX6_authorised_X6_isLeg : GoodIn wsX6_authorised wsX6_isLeg := goodIn_r _ [4, 5, 6, 3, 7] (by decide +kernel) (by decide +kernel)
set_option maxRecDepth 20000 in
theorem gX6_authorised_X6_isLeg : GoodIn wsX6_authorised (va_wsS RX6 96 yX6_isLeg wsX6_isLeg) := goodIn_app (goodIn_of _ (by decide +kernel)) ggX6_authorised_X6_isLeg
set_option maxRecDepth 20000 in
theorem ggX6_authorised_X6_fails : GoodIn wsX6_authorised wsX6_fails := goodIn_r _ [11, 12, 19, 20, 21, 22, 23, 24, 25, 26, 27, 28, 29, 30, 31, 32, 33, 34, 35, 36, 37, 38, 39, 40] (by decide +kernel) (by decide +kernel)
set_option maxRecDepth 20000 in
theorem gX6_authorised_X6_fails : GoodIn wsX6_authorised (wsV RX6 93 RX6 yX6_fails wsX6_fails) := goodIn_app (goodIn_of _ (by decide +kernel)) ggX6_authorised_X6_fails
set_option maxRecDepth 20000 in
theorem ggX6_authorised_X6_authorisedOf : GoodIn wsX6_authorised wsX6_authorisedOf := goodIn_r _ [16, 17, 18, 19, 20, 21, 22, 23, 24, 25, 26, 27, 28, 29, 30, 31, 32, 33, 34, 35, 36, 37, 38, 39, 40] (by decide +kernel) (by decide +kernel)
set_option maxRecDepth 20000 in
theorem gX6_authorised_X6_authorisedOf : GoodIn wsX6_authorised (wsV RX6 111 RX6 yX6_authorisedOf wsX6_authorisedOf) := goodIn_app (goodIn_of _ (by decide +kernel)) ggX6_authorised_X6_authorisedOf
theorem dX6_authorised_0 : decode cX6_authorised 0 = .ok (.aload_n 0, 1) := by decide +kernel
theorem dX6_authorised_1 : decode cX6_authorised 1 = .ok (.iload_n 1, 1) := by decide +kernel
theorem dX6_authorised_2 : decode cX6_authorised 2 = .ok (.invokestatic 96, 3) := by decide +kernel
theorem dX6_authorised_5 : decode cX6_authorised 5 = .ok (.ifCond .eq 7, 3) := by decide +kernel
theorem dX6_authorised_8 : decode cX6_authorised 8 = .ok (.iconst 0, 1) := by decide +kernel
theorem dX6_authorised_9 : decode cX6_authorised 9 = .ok (.goto 4, 3) := by decide +kernel
theorem dX6_authorised_12 : decode cX6_authorised 12 = .ok (.iconst 1, 1) := by decide +kernel
theorem dX6_authorised_13 : decode cX6_authorised 13 = .ok (.invokevirtual 93, 3) := by decide +kernel
theorem dX6_authorised_16 : decode cX6_authorised 16 = .ok (.ifCond .eq 7, 3) := by decide +kernel
theorem dX6_authorised_19 : decode cX6_authorised 19 = .ok (.iconst 0, 1) := by decide +kernel
theorem dX6_authorised_20 : decode cX6_authorised 20 = .ok (.goto 8, 3) := by decide +kernel
theorem dX6_authorised_23 : decode cX6_authorised 23 = .ok (.aload_n 0, 1) := by decide +kernel
theorem dX6_authorised_24 : decode cX6_authorised 24 = .ok (.iload_n 1, 1) := by decide +kernel
theorem dX6_authorised_25 : decode cX6_authorised 25 = .ok (.invokevirtual 111, 3) := by decide +kernel
theorem dX6_authorised_28 : decode cX6_authorised 28 = .ok (.ireturn, 1) := by decide +kernel
set_option maxRecDepth 20000 in
theorem ggX6_protectedSeats_X6_isLeg : GoodIn wsX6_protectedSeats wsX6_isLeg := goodIn_r _ [4, 5, 6, 3, 7] (by decide +kernel) (by decide +kernel)
set_option maxRecDepth 20000 in
theorem gX6_protectedSeats_X6_isLeg : GoodIn wsX6_protectedSeats (va_wsS RX6 96 yX6_isLeg wsX6_isLeg) := goodIn_app (goodIn_of _ (by decide +kernel)) ggX6_protectedSeats_X6_isLeg
set_option maxRecDepth 20000 in
theorem ggX6_protectedSeats_X6_isIn : GoodIn wsX6_protectedSeats wsX6_isIn := goodIn_r _ [7] (by decide +kernel) (by decide +kernel)
set_option maxRecDepth 20000 in
theorem gX6_protectedSeats_X6_isIn : GoodIn wsX6_protectedSeats (va_wsS RX6 67 yX6_isIn wsX6_isIn) := goodIn_app (goodIn_of _ (by decide +kernel)) ggX6_protectedSeats_X6_isIn
set_option maxRecDepth 20000 in
theorem ggX6_protectedSeats_X6_fails : GoodIn wsX6_protectedSeats wsX6_fails := goodIn_r _ [11, 12, 23, 24, 25, 26, 27, 28, 29, 30, 31, 32, 33, 34, 35, 36, 37, 38, 39, 40, 41, 42, 43, 44] (by decide +kernel) (by decide +kernel)
set_option maxRecDepth 20000 in
theorem gX6_protectedSeats_X6_fails : GoodIn wsX6_protectedSeats (wsV RX6 93 RX6 yX6_fails wsX6_fails) := goodIn_app (goodIn_of _ (by decide +kernel)) ggX6_protectedSeats_X6_fails
set_option maxRecDepth 20000 in
theorem ggX6_protectedSeats_X6_protectedOf : GoodIn wsX6_protectedSeats wsX6_protectedOf := goodIn_r _ [16, 17, 18, 19, 20, 21, 22, 5, 6, 3, 7, 23, 24, 25, 26, 27, 28, 29, 30, 31, 32, 33, 34, 35, 36, 37, 38, 39, 40, 41, 42, 43, 44] (by decide +kernel) (by decide +kernel)
set_option maxRecDepth 20000 in
theorem gX6_protectedSeats_X6_protectedOf : GoodIn wsX6_protectedSeats (wsV RX6 114 RX6 yX6_protectedOf wsX6_protectedOf) := goodIn_app (goodIn_of _ (by decide +kernel)) ggX6_protectedSeats_X6_protectedOf
theorem dX6_protectedSeats_0 : decode cX6_protectedSeats 0 = .ok (.aload_n 0, 1) := by decide +kernel
theorem dX6_protectedSeats_1 : decode cX6_protectedSeats 1 = .ok (.iload_n 1, 1) := by decide +kernel
theorem dX6_protectedSeats_2 : decode cX6_protectedSeats 2 = .ok (.invokestatic 96, 3) := by decide +kernel
theorem dX6_protectedSeats_5 : decode cX6_protectedSeats 5 = .ok (.ifCond .ne 7, 3) := by decide +kernel
theorem dX6_protectedSeats_8 : decode cX6_protectedSeats 8 = .ok (.iconst 1, 1) := by decide +kernel
theorem dX6_protectedSeats_9 : decode cX6_protectedSeats 9 = .ok (.goto 19, 3) := by decide +kernel
theorem dX6_protectedSeats_12 : decode cX6_protectedSeats 12 = .ok (.iload_n 2, 1) := by decide +kernel
theorem dX6_protectedSeats_13 : decode cX6_protectedSeats 13 = .ok (.iconst 1, 1) := by decide +kernel
theorem dX6_protectedSeats_14 : decode cX6_protectedSeats 14 = .ok (.sipush 1000, 3) := by decide +kernel
theorem dX6_protectedSeats_17 : decode cX6_protectedSeats 17 = .ok (.invokestatic 67, 3) := by decide +kernel
theorem dX6_protectedSeats_20 : decode cX6_protectedSeats 20 = .ok (.ifCond .eq 7, 3) := by decide +kernel
theorem dX6_protectedSeats_23 : decode cX6_protectedSeats 23 = .ok (.iconst 0, 1) := by decide +kernel
theorem dX6_protectedSeats_24 : decode cX6_protectedSeats 24 = .ok (.goto 4, 3) := by decide +kernel
theorem dX6_protectedSeats_27 : decode cX6_protectedSeats 27 = .ok (.iconst 2, 1) := by decide +kernel
theorem dX6_protectedSeats_28 : decode cX6_protectedSeats 28 = .ok (.invokevirtual 93, 3) := by decide +kernel
theorem dX6_protectedSeats_31 : decode cX6_protectedSeats 31 = .ok (.ifCond .eq 7, 3) := by decide +kernel
theorem dX6_protectedSeats_34 : decode cX6_protectedSeats 34 = .ok (.iconst 0, 1) := by decide +kernel
theorem dX6_protectedSeats_35 : decode cX6_protectedSeats 35 = .ok (.goto 9, 3) := by decide +kernel
theorem dX6_protectedSeats_38 : decode cX6_protectedSeats 38 = .ok (.aload_n 0, 1) := by decide +kernel
theorem dX6_protectedSeats_39 : decode cX6_protectedSeats 39 = .ok (.iload_n 1, 1) := by decide +kernel
theorem dX6_protectedSeats_40 : decode cX6_protectedSeats 40 = .ok (.iload_n 2, 1) := by decide +kernel
theorem dX6_protectedSeats_41 : decode cX6_protectedSeats 41 = .ok (.invokevirtual 114, 3) := by decide +kernel
theorem dX6_protectedSeats_44 : decode cX6_protectedSeats 44 = .ok (.ireturn, 1) := by decide +kernel
set_option maxRecDepth 20000 in
theorem ggX6_worth_X6_finds : GoodIn wsX6_worth wsX6_finds := goodIn_r _ [6, 7, 8, 9, 10, 11, 12, 13, 5, 14, 15, 16, 17, 18, 19, 20, 21, 22, 23, 34, 35, 36, 37, 38, 39, 40, 41, 42, 43, 44, 45, 46, 47, 48, 49, 50, 51, 52, 53, 54, 55] (by decide +kernel) (by decide +kernel)
set_option maxRecDepth 20000 in
theorem gX6_worth_X6_finds : GoodIn wsX6_worth (wsV RX6 108 RX6 yX6_finds wsX6_finds) := goodIn_app (goodIn_of _ (by decide +kernel)) ggX6_worth_X6_finds
set_option maxRecDepth 20000 in
theorem ggX6_worth_X6_worthOf : GoodIn wsX6_worth wsX6_worthOf := goodIn_r _ [27, 7, 28, 29, 30, 5, 31, 32, 33, 21, 22, 23, 34, 35, 36, 37, 38, 39, 40, 41, 42, 43, 44, 45, 46, 47, 48, 49, 50, 51, 52, 53, 54, 55] (by decide +kernel) (by decide +kernel)
set_option maxRecDepth 20000 in
theorem gX6_worth_X6_worthOf : GoodIn wsX6_worth (wsV RX6 86 RX6 yX6_worthOf wsX6_worthOf) := goodIn_app (goodIn_of _ (by decide +kernel)) ggX6_worth_X6_worthOf
theorem dX6_worth_0 : decode cX6_worth 0 = .ok (.aload_n 0, 1) := by decide +kernel
theorem dX6_worth_1 : decode cX6_worth 1 = .ok (.iconst 0, 1) := by decide +kernel
theorem dX6_worth_2 : decode cX6_worth 2 = .ok (.putfield 64, 3) := by decide +kernel
theorem dX6_worth_5 : decode cX6_worth 5 = .ok (.aload_n 0, 1) := by decide +kernel
theorem dX6_worth_6 : decode cX6_worth 6 = .ok (.invokevirtual 108, 3) := by decide +kernel
theorem dX6_worth_9 : decode cX6_worth 9 = .ok (.aload_n 0, 1) := by decide +kernel
theorem dX6_worth_10 : decode cX6_worth 10 = .ok (.iconst 0, 1) := by decide +kernel
theorem dX6_worth_11 : decode cX6_worth 11 = .ok (.iconst 0, 1) := by decide +kernel
theorem dX6_worth_12 : decode cX6_worth 12 = .ok (.iconst 0, 1) := by decide +kernel
theorem dX6_worth_13 : decode cX6_worth 13 = .ok (.invokevirtual 86, 3) := by decide +kernel
theorem dX6_worth_16 : decode cX6_worth 16 = .ok (.ireturn, 1) := by decide +kernel
set_option maxRecDepth 20000 in
theorem ggX6_worthByTable_X6_finds : GoodIn wsX6_worthByTable wsX6_finds := goodIn_r _ [6, 7, 8, 9, 10, 11, 12, 13, 5, 14, 15, 16, 17, 18, 19, 20, 21, 22, 23, 34, 35, 36, 37, 38, 39, 40, 41, 42, 43, 44, 45, 46, 47, 48, 49, 50, 51, 52, 53, 54, 55] (by decide +kernel) (by decide +kernel)
set_option maxRecDepth 20000 in
theorem gX6_worthByTable_X6_finds : GoodIn wsX6_worthByTable (wsV RX6 108 RX6 yX6_finds wsX6_finds) := goodIn_app (goodIn_of _ (by decide +kernel)) ggX6_worthByTable_X6_finds
set_option maxRecDepth 20000 in
theorem ggX6_worthByTable_X6_worthOf : GoodIn wsX6_worthByTable wsX6_worthOf := goodIn_r _ [27, 7, 28, 29, 30, 5, 31, 32, 33, 21, 22, 23, 34, 35, 36, 37, 38, 39, 40, 41, 42, 43, 44, 45, 46, 47, 48, 49, 50, 51, 52, 53, 54, 55] (by decide +kernel) (by decide +kernel)
set_option maxRecDepth 20000 in
theorem gX6_worthByTable_X6_worthOf : GoodIn wsX6_worthByTable (wsV RX6 86 RX6 yX6_worthOf wsX6_worthOf) := goodIn_app (goodIn_of _ (by decide +kernel)) ggX6_worthByTable_X6_worthOf
theorem dX6_worthByTable_0 : decode cX6_worthByTable 0 = .ok (.aload_n 0, 1) := by decide +kernel
theorem dX6_worthByTable_1 : decode cX6_worthByTable 1 = .ok (.iconst 0, 1) := by decide +kernel
theorem dX6_worthByTable_2 : decode cX6_worthByTable 2 = .ok (.putfield 64, 3) := by decide +kernel
theorem dX6_worthByTable_5 : decode cX6_worthByTable 5 = .ok (.aload_n 0, 1) := by decide +kernel
theorem dX6_worthByTable_6 : decode cX6_worthByTable 6 = .ok (.invokevirtual 108, 3) := by decide +kernel
theorem dX6_worthByTable_9 : decode cX6_worthByTable 9 = .ok (.aload_n 0, 1) := by decide +kernel
theorem dX6_worthByTable_10 : decode cX6_worthByTable 10 = .ok (.iconst 0, 1) := by decide +kernel
theorem dX6_worthByTable_11 : decode cX6_worthByTable 11 = .ok (.iconst 0, 1) := by decide +kernel
theorem dX6_worthByTable_12 : decode cX6_worthByTable 12 = .ok (.iconst 0, 1) := by decide +kernel
theorem dX6_worthByTable_13 : decode cX6_worthByTable 13 = .ok (.invokevirtual 86, 3) := by decide +kernel
theorem dX6_worthByTable_16 : decode cX6_worthByTable 16 = .ok (.ireturn, 1) := by decide +kernel
set_option maxRecDepth 20000 in
theorem ggX6_bid_X6_isLeg : GoodIn wsX6_bid wsX6_isLeg := goodIn_r _ [4, 5, 6, 3, 7] (by decide +kernel) (by decide +kernel)
set_option maxRecDepth 20000 in
theorem gX6_bid_X6_isLeg : GoodIn wsX6_bid (va_wsS RX6 96 yX6_isLeg wsX6_isLeg) := goodIn_app (goodIn_of _ (by decide +kernel)) ggX6_bid_X6_isLeg
set_option maxRecDepth 20000 in
theorem ggX6_bid_X6_fails : GoodIn wsX6_bid wsX6_fails := goodIn_r _ [11, 12, 45, 46, 47, 48, 49, 50, 51, 52, 53, 54, 55, 56, 57, 58, 59, 60, 61, 62, 63, 64, 65, 66] (by decide +kernel) (by decide +kernel)
set_option maxRecDepth 20000 in
theorem gX6_bid_X6_fails : GoodIn wsX6_bid (wsV RX6 93 RX6 yX6_fails wsX6_fails) := goodIn_app (goodIn_of _ (by decide +kernel)) ggX6_bid_X6_fails
set_option maxRecDepth 20000 in
theorem ggX6_bid_X6_finds : GoodIn wsX6_bid wsX6_finds := goodIn_r _ [16, 17, 18, 19, 20, 21, 22, 23, 3, 24, 25, 26, 27, 5, 6, 7, 28, 29, 30, 45, 46, 47, 48, 49, 50, 51, 52, 53, 54, 55, 56, 57, 58, 59, 60, 61, 62, 63, 64, 65, 66] (by decide +kernel) (by decide +kernel)
set_option maxRecDepth 20000 in
theorem gX6_bid_X6_finds : GoodIn wsX6_bid (wsV RX6 108 RX6 yX6_finds wsX6_finds) := goodIn_app (goodIn_of _ (by decide +kernel)) ggX6_bid_X6_finds
set_option maxRecDepth 20000 in
theorem ggX6_bid_X6_bidOf : GoodIn wsX6_bid wsX6_bidOf := goodIn_r _ [34, 35, 36, 37, 3, 38, 17, 39, 40, 41, 42, 43, 44, 28, 29, 30, 45, 46, 47, 48, 49, 50, 51, 52, 53, 54, 55, 56, 57, 58, 59, 60, 61, 62, 63, 64, 65, 66] (by decide +kernel) (by decide +kernel)
set_option maxRecDepth 20000 in
theorem gX6_bid_X6_bidOf : GoodIn wsX6_bid (wsV RX6 118 RX6 yX6_bidOf wsX6_bidOf) := goodIn_app (goodIn_of _ (by decide +kernel)) ggX6_bid_X6_bidOf
theorem dX6_bid_0 : decode cX6_bid 0 = .ok (.aload_n 0, 1) := by decide +kernel
theorem dX6_bid_1 : decode cX6_bid 1 = .ok (.iload_n 1, 1) := by decide +kernel
theorem dX6_bid_2 : decode cX6_bid 2 = .ok (.invokestatic 96, 3) := by decide +kernel
theorem dX6_bid_5 : decode cX6_bid 5 = .ok (.ifCond .eq 7, 3) := by decide +kernel
theorem dX6_bid_8 : decode cX6_bid 8 = .ok (.iconst 0, 1) := by decide +kernel
theorem dX6_bid_9 : decode cX6_bid 9 = .ok (.goto 4, 3) := by decide +kernel
theorem dX6_bid_12 : decode cX6_bid 12 = .ok (.iconst 1, 1) := by decide +kernel
theorem dX6_bid_13 : decode cX6_bid 13 = .ok (.invokevirtual 93, 3) := by decide +kernel
theorem dX6_bid_16 : decode cX6_bid 16 = .ok (.ifCond .eq 5, 3) := by decide +kernel
theorem dX6_bid_19 : decode cX6_bid 19 = .ok (.iconst 0, 1) := by decide +kernel
theorem dX6_bid_20 : decode cX6_bid 20 = .ok (.ireturn, 1) := by decide +kernel
theorem dX6_bid_21 : decode cX6_bid 21 = .ok (.aload_n 0, 1) := by decide +kernel
theorem dX6_bid_22 : decode cX6_bid 22 = .ok (.invokevirtual 108, 3) := by decide +kernel
theorem dX6_bid_25 : decode cX6_bid 25 = .ok (.aload_n 0, 1) := by decide +kernel
theorem dX6_bid_26 : decode cX6_bid 26 = .ok (.iload_n 1, 1) := by decide +kernel
theorem dX6_bid_27 : decode cX6_bid 27 = .ok (.invokevirtual 118, 3) := by decide +kernel
theorem dX6_bid_30 : decode cX6_bid 30 = .ok (.ireturn, 1) := by decide +kernel
set_option maxRecDepth 20000 in
theorem ggX6_displaced_X6_isLeg : GoodIn wsX6_displaced wsX6_isLeg := goodIn_r _ [4, 5, 6, 3, 7] (by decide +kernel) (by decide +kernel)
set_option maxRecDepth 20000 in
theorem gX6_displaced_X6_isLeg : GoodIn wsX6_displaced (va_wsS RX6 96 yX6_isLeg wsX6_isLeg) := goodIn_app (goodIn_of _ (by decide +kernel)) ggX6_displaced_X6_isLeg
set_option maxRecDepth 20000 in
theorem ggX6_displaced_X6_isIn : GoodIn wsX6_displaced wsX6_isIn := goodIn_r _ [7] (by decide +kernel) (by decide +kernel)
set_option maxRecDepth 20000 in
theorem gX6_displaced_X6_isIn : GoodIn wsX6_displaced (va_wsS RX6 67 yX6_isIn wsX6_isIn) := goodIn_app (goodIn_of _ (by decide +kernel)) ggX6_displaced_X6_isIn
set_option maxRecDepth 20000 in
theorem ggX6_displaced_X6_fails : GoodIn wsX6_displaced wsX6_fails := goodIn_r _ [11, 12, 49, 50, 51, 52, 53, 54, 55, 56, 57, 58, 59, 60, 61, 62, 63, 64, 65, 66, 67, 68, 69, 70] (by decide +kernel) (by decide +kernel)
set_option maxRecDepth 20000 in
theorem gX6_displaced_X6_fails : GoodIn wsX6_displaced (wsV RX6 93 RX6 yX6_fails wsX6_fails) := goodIn_app (goodIn_of _ (by decide +kernel)) ggX6_displaced_X6_fails
set_option maxRecDepth 20000 in
theorem ggX6_displaced_X6_isTooFull : GoodIn wsX6_displaced wsX6_isTooFull := goodIn_r _ [16, 17, 18, 19, 3, 20, 21, 22, 49, 50, 51, 52, 53, 54, 55, 56, 57, 58, 59, 60, 61, 62, 63, 64, 65, 66, 67, 68, 69, 70] (by decide +kernel) (by decide +kernel)
set_option maxRecDepth 20000 in
theorem gX6_displaced_X6_isTooFull : GoodIn wsX6_displaced (wsV RX6 128 RX6 yX6_isTooFull wsX6_isTooFull) := goodIn_app (goodIn_of _ (by decide +kernel)) ggX6_displaced_X6_isTooFull
set_option maxRecDepth 20000 in
theorem ggX6_displaced_X6_finds : GoodIn wsX6_displaced wsX6_finds := goodIn_r _ [26, 27, 28, 29, 30, 31, 32, 33, 3, 34, 35, 36, 37, 5, 6, 7, 38, 39, 40, 49, 50, 51, 52, 53, 54, 55, 56, 57, 58, 59, 60, 61, 62, 63, 64, 65, 66, 67, 68, 69, 70] (by decide +kernel) (by decide +kernel)
set_option maxRecDepth 20000 in
theorem gX6_displaced_X6_finds : GoodIn wsX6_displaced (wsV RX6 108 RX6 yX6_finds wsX6_finds) := goodIn_app (goodIn_of _ (by decide +kernel)) ggX6_displaced_X6_finds
set_option maxRecDepth 20000 in
theorem ggX6_displaced_X6_displaces : GoodIn wsX6_displaced wsX6_displaces := goodIn_r _ [44, 45, 46, 47, 3, 48, 27, 17, 18, 19, 20, 21, 22, 38, 39, 40, 5, 6, 7, 49, 50, 51, 52, 53, 54, 55, 56, 57, 58, 59, 60, 61, 62, 63, 64, 65, 66, 67, 68, 69, 70] (by decide +kernel) (by decide +kernel)
set_option maxRecDepth 20000 in
theorem gX6_displaced_X6_displaces : GoodIn wsX6_displaced (wsV RX6 131 RX6 yX6_displaces wsX6_displaces) := goodIn_app (goodIn_of _ (by decide +kernel)) ggX6_displaced_X6_displaces
theorem dX6_displaced_0 : decode cX6_displaced 0 = .ok (.iload_n 1, 1) := by decide +kernel
theorem dX6_displaced_1 : decode cX6_displaced 1 = .ok (.invokestatic 96, 3) := by decide +kernel
theorem dX6_displaced_4 : decode cX6_displaced 4 = .ok (.ifCond .eq 14, 3) := by decide +kernel
theorem dX6_displaced_7 : decode cX6_displaced 7 = .ok (.iload_n 2, 1) := by decide +kernel
theorem dX6_displaced_8 : decode cX6_displaced 8 = .ok (.invokestatic 96, 3) := by decide +kernel
theorem dX6_displaced_11 : decode cX6_displaced 11 = .ok (.ifCond .eq 7, 3) := by decide +kernel
theorem dX6_displaced_14 : decode cX6_displaced 14 = .ok (.iconst 1, 1) := by decide +kernel
theorem dX6_displaced_15 : decode cX6_displaced 15 = .ok (.goto 4, 3) := by decide +kernel
theorem dX6_displaced_18 : decode cX6_displaced 18 = .ok (.iconst 0, 1) := by decide +kernel
theorem dX6_displaced_19 : decode cX6_displaced 19 = .ok (.istore 4, 2) := by decide +kernel
theorem dX6_displaced_21 : decode cX6_displaced 21 = .ok (.iload_n 2, 1) := by decide +kernel
theorem dX6_displaced_22 : decode cX6_displaced 22 = .ok (.iload_n 1, 1) := by decide +kernel
theorem dX6_displaced_23 : decode cX6_displaced 23 = .ok (.if_icmp .lt 17, 3) := by decide +kernel
theorem dX6_displaced_26 : decode cX6_displaced 26 = .ok (.iload_n 3, 1) := by decide +kernel
theorem dX6_displaced_27 : decode cX6_displaced 27 = .ok (.iconst 1, 1) := by decide +kernel
theorem dX6_displaced_28 : decode cX6_displaced 28 = .ok (.bipush 10, 2) := by decide +kernel
theorem dX6_displaced_30 : decode cX6_displaced 30 = .ok (.invokestatic 67, 3) := by decide +kernel
theorem dX6_displaced_33 : decode cX6_displaced 33 = .ok (.ifCond .eq 7, 3) := by decide +kernel
theorem dX6_displaced_36 : decode cX6_displaced 36 = .ok (.iconst 1, 1) := by decide +kernel
theorem dX6_displaced_37 : decode cX6_displaced 37 = .ok (.goto 4, 3) := by decide +kernel
theorem dX6_displaced_40 : decode cX6_displaced 40 = .ok (.iconst 0, 1) := by decide +kernel
theorem dX6_displaced_41 : decode cX6_displaced 41 = .ok (.istore 5, 2) := by decide +kernel
theorem dX6_displaced_43 : decode cX6_displaced 43 = .ok (.aload_n 0, 1) := by decide +kernel
theorem dX6_displaced_44 : decode cX6_displaced 44 = .ok (.iload 4, 2) := by decide +kernel
theorem dX6_displaced_46 : decode cX6_displaced 46 = .ok (.ifCond .ne 7, 3) := by decide +kernel
theorem dX6_displaced_49 : decode cX6_displaced 49 = .ok (.iconst 1, 1) := by decide +kernel
theorem dX6_displaced_50 : decode cX6_displaced 50 = .ok (.goto 13, 3) := by decide +kernel
theorem dX6_displaced_53 : decode cX6_displaced 53 = .ok (.iload 5, 2) := by decide +kernel
theorem dX6_displaced_55 : decode cX6_displaced 55 = .ok (.ifCond .eq 7, 3) := by decide +kernel
theorem dX6_displaced_58 : decode cX6_displaced 58 = .ok (.iconst 0, 1) := by decide +kernel
theorem dX6_displaced_59 : decode cX6_displaced 59 = .ok (.goto 4, 3) := by decide +kernel
theorem dX6_displaced_62 : decode cX6_displaced 62 = .ok (.iconst 2, 1) := by decide +kernel
theorem dX6_displaced_63 : decode cX6_displaced 63 = .ok (.invokevirtual 93, 3) := by decide +kernel
theorem dX6_displaced_66 : decode cX6_displaced 66 = .ok (.ifCond .eq 5, 3) := by decide +kernel
theorem dX6_displaced_69 : decode cX6_displaced 69 = .ok (.iconst 0, 1) := by decide +kernel
theorem dX6_displaced_70 : decode cX6_displaced 70 = .ok (.ireturn, 1) := by decide +kernel
theorem dX6_displaced_71 : decode cX6_displaced 71 = .ok (.aload_n 0, 1) := by decide +kernel
theorem dX6_displaced_72 : decode cX6_displaced 72 = .ok (.iload_n 1, 1) := by decide +kernel
theorem dX6_displaced_73 : decode cX6_displaced 73 = .ok (.iload_n 2, 1) := by decide +kernel
theorem dX6_displaced_74 : decode cX6_displaced 74 = .ok (.iload_n 3, 1) := by decide +kernel
theorem dX6_displaced_75 : decode cX6_displaced 75 = .ok (.invokevirtual 128, 3) := by decide +kernel
theorem dX6_displaced_78 : decode cX6_displaced 78 = .ok (.ifCond .eq 5, 3) := by decide +kernel
theorem dX6_displaced_81 : decode cX6_displaced 81 = .ok (.iconst (-1), 1) := by decide +kernel
theorem dX6_displaced_82 : decode cX6_displaced 82 = .ok (.ireturn, 1) := by decide +kernel
theorem dX6_displaced_83 : decode cX6_displaced 83 = .ok (.aload_n 0, 1) := by decide +kernel
theorem dX6_displaced_84 : decode cX6_displaced 84 = .ok (.invokevirtual 108, 3) := by decide +kernel
theorem dX6_displaced_87 : decode cX6_displaced 87 = .ok (.aload_n 0, 1) := by decide +kernel
theorem dX6_displaced_88 : decode cX6_displaced 88 = .ok (.iload_n 1, 1) := by decide +kernel
theorem dX6_displaced_89 : decode cX6_displaced 89 = .ok (.iload_n 2, 1) := by decide +kernel
theorem dX6_displaced_90 : decode cX6_displaced 90 = .ok (.iload_n 3, 1) := by decide +kernel
theorem dX6_displaced_91 : decode cX6_displaced 91 = .ok (.invokevirtual 131, 3) := by decide +kernel
theorem dX6_displaced_94 : decode cX6_displaced 94 = .ok (.ireturn, 1) := by decide +kernel
set_option maxRecDepth 20000 in
theorem ggX6_of_X6_isProduct : GoodIn wsX6_of wsX6_isProduct := goodIn_r _ [5, 6, 7, 8, 4, 9, 15, 16, 17, 18, 19, 20, 21, 22, 23, 24, 25, 26, 27, 28, 29, 30, 31, 32, 33, 34, 35, 36] (by decide +kernel) (by decide +kernel)
set_option maxRecDepth 20000 in
theorem gX6_of_X6_isProduct : GoodIn wsX6_of (wsV RX6 102 RX6 yX6_isProduct wsX6_isProduct) := goodIn_app (goodIn_of _ (by decide +kernel)) ggX6_of_X6_isProduct
set_option maxRecDepth 20000 in
theorem ggX6_of_X6_fails : GoodIn wsX6_of wsX6_fails := goodIn_r _ [13, 14, 15, 16, 17, 18, 19, 20, 21, 22, 23, 24, 25, 26, 27, 28, 29, 30, 31, 32, 33, 34, 35, 36] (by decide +kernel) (by decide +kernel)
set_option maxRecDepth 20000 in
theorem gX6_of_X6_fails : GoodIn wsX6_of (wsV RX6 93 RX6 yX6_fails wsX6_fails) := goodIn_app (goodIn_of _ (by decide +kernel)) ggX6_of_X6_fails
theorem dX6_of_0 : decode cX6_of 0 = .ok (.aload_n 0, 1) := by decide +kernel
theorem dX6_of_1 : decode cX6_of 1 = .ok (.aload_n 0, 1) := by decide +kernel
theorem dX6_of_2 : decode cX6_of 2 = .ok (.iload_n 2, 1) := by decide +kernel
theorem dX6_of_3 : decode cX6_of 3 = .ok (.invokevirtual 102, 3) := by decide +kernel
theorem dX6_of_6 : decode cX6_of 6 = .ok (.ifCond .eq 7, 3) := by decide +kernel
theorem dX6_of_9 : decode cX6_of 9 = .ok (.iconst 0, 1) := by decide +kernel
theorem dX6_of_10 : decode cX6_of 10 = .ok (.goto 4, 3) := by decide +kernel
theorem dX6_of_13 : decode cX6_of 13 = .ok (.iconst 1, 1) := by decide +kernel
theorem dX6_of_14 : decode cX6_of 14 = .ok (.invokevirtual 93, 3) := by decide +kernel
theorem dX6_of_17 : decode cX6_of 17 = .ok (.ifCond .eq 7, 3) := by decide +kernel
theorem dX6_of_20 : decode cX6_of 20 = .ok (.iconst 0, 1) := by decide +kernel
theorem dX6_of_21 : decode cX6_of 21 = .ok (.goto 6, 3) := by decide +kernel
theorem dX6_of_24 : decode cX6_of 24 = .ok (.aload_n 1, 1) := by decide +kernel
theorem dX6_of_25 : decode cX6_of 25 = .ok (.iload_n 2, 1) := by decide +kernel
theorem dX6_of_26 : decode cX6_of 26 = .ok (.iaload, 1) := by decide +kernel
theorem dX6_of_27 : decode cX6_of 27 = .ok (.ireturn, 1) := by decide +kernel
set_option maxRecDepth 20000 in
theorem ggX6_expected_X6_of : GoodIn wsX6_expected wsX6_of := goodIn_r _ [6, 7, 8, 9, 5, 10, 11, 12, 13, 14, 15, 16, 17, 18, 19, 20, 21, 22, 23, 24, 25, 26, 27, 28, 29, 30, 31, 32, 33, 34, 35, 36, 37, 38, 39, 40, 41] (by decide +kernel) (by decide +kernel)
set_option maxRecDepth 20000 in
theorem gX6_expected_X6_of : GoodIn wsX6_expected (wsV RX6 145 RX6 yX6_of wsX6_of) := goodIn_app (goodIn_of _ (by decide +kernel)) ggX6_expected_X6_of
theorem dX6_expected_0 : decode cX6_expected 0 = .ok (.aload_n 0, 1) := by decide +kernel
theorem dX6_expected_1 : decode cX6_expected 1 = .ok (.aload_n 0, 1) := by decide +kernel
theorem dX6_expected_2 : decode cX6_expected 2 = .ok (.getfield 25, 3) := by decide +kernel
theorem dX6_expected_5 : decode cX6_expected 5 = .ok (.iload_n 1, 1) := by decide +kernel
theorem dX6_expected_6 : decode cX6_expected 6 = .ok (.invokevirtual 145, 3) := by decide +kernel
theorem dX6_expected_9 : decode cX6_expected 9 = .ok (.ireturn, 1) := by decide +kernel
set_option maxRecDepth 20000 in
theorem ggX6_average_X6_isProduct : GoodIn wsX6_average wsX6_isProduct := goodIn_r _ [7, 8, 9, 10, 6, 11, 17, 18, 19, 20, 21, 22, 23, 24, 25, 26, 27, 28, 29, 30, 31, 32, 33, 34, 35, 36, 37, 38] (by decide +kernel) (by decide +kernel)
set_option maxRecDepth 20000 in
theorem gX6_average_X6_isProduct : GoodIn wsX6_average (wsV RX6 102 RX6 yX6_isProduct wsX6_isProduct) := goodIn_app (goodIn_of _ (by decide +kernel)) ggX6_average_X6_isProduct
set_option maxRecDepth 20000 in
theorem ggX6_average_X6_fails : GoodIn wsX6_average wsX6_fails := goodIn_r _ [15, 16, 17, 18, 19, 20, 21, 22, 23, 24, 25, 26, 27, 28, 29, 30, 31, 32, 33, 34, 35, 36, 37, 38] (by decide +kernel) (by decide +kernel)
set_option maxRecDepth 20000 in
theorem gX6_average_X6_fails : GoodIn wsX6_average (wsV RX6 93 RX6 yX6_fails wsX6_fails) := goodIn_app (goodIn_of _ (by decide +kernel)) ggX6_average_X6_fails
theorem dX6_average_0 : decode cX6_average 0 = .ok (.aload_n 0, 1) := by decide +kernel
theorem dX6_average_1 : decode cX6_average 1 = .ok (.aload_n 0, 1) := by decide +kernel
theorem dX6_average_2 : decode cX6_average 2 = .ok (.iload_n 1, 1) := by decide +kernel
theorem dX6_average_3 : decode cX6_average 3 = .ok (.invokevirtual 102, 3) := by decide +kernel
theorem dX6_average_6 : decode cX6_average 6 = .ok (.ifCond .eq 7, 3) := by decide +kernel
theorem dX6_average_9 : decode cX6_average 9 = .ok (.iconst 0, 1) := by decide +kernel
theorem dX6_average_10 : decode cX6_average 10 = .ok (.goto 4, 3) := by decide +kernel
theorem dX6_average_13 : decode cX6_average 13 = .ok (.iconst 1, 1) := by decide +kernel
theorem dX6_average_14 : decode cX6_average 14 = .ok (.invokevirtual 93, 3) := by decide +kernel
theorem dX6_average_17 : decode cX6_average 17 = .ok (.ifCond .ne 10, 3) := by decide +kernel
theorem dX6_average_20 : decode cX6_average 20 = .ok (.aload_n 0, 1) := by decide +kernel
theorem dX6_average_21 : decode cX6_average 21 = .ok (.getfield 99, 3) := by decide +kernel
theorem dX6_average_24 : decode cX6_average 24 = .ok (.ifCond .ne 7, 3) := by decide +kernel
theorem dX6_average_27 : decode cX6_average 27 = .ok (.fconst 0, 1) := by decide +kernel
theorem dX6_average_28 : decode cX6_average 28 = .ok (.goto 16, 3) := by decide +kernel
theorem dX6_average_31 : decode cX6_average 31 = .ok (.aload_n 0, 1) := by decide +kernel
theorem dX6_average_32 : decode cX6_average 32 = .ok (.getfield 31, 3) := by decide +kernel
theorem dX6_average_35 : decode cX6_average 35 = .ok (.iload_n 1, 1) := by decide +kernel
theorem dX6_average_36 : decode cX6_average 36 = .ok (.laload, 1) := by decide +kernel
theorem dX6_average_37 : decode cX6_average 37 = .ok (.l2f, 1) := by decide +kernel
theorem dX6_average_38 : decode cX6_average 38 = .ok (.aload_n 0, 1) := by decide +kernel
theorem dX6_average_39 : decode cX6_average 39 = .ok (.getfield 99, 3) := by decide +kernel
theorem dX6_average_42 : decode cX6_average 42 = .ok (.i2f, 1) := by decide +kernel
theorem dX6_average_43 : decode cX6_average 43 = .ok (.fdiv, 1) := by decide +kernel
theorem dX6_average_44 : decode cX6_average 44 = .ok (.freturn, 1) := by decide +kernel
set_option maxRecDepth 20000 in
theorem ggX6_asked_X6_of : GoodIn wsX6_asked wsX6_of := goodIn_r _ [6, 7, 8, 9, 5, 10, 11, 12, 13, 14, 15, 16, 17, 18, 19, 20, 21, 22, 23, 24, 25, 26, 27, 28, 29, 30, 31, 32, 33, 34, 35, 36, 37, 38, 39, 40, 41] (by decide +kernel) (by decide +kernel)
set_option maxRecDepth 20000 in
theorem gX6_asked_X6_of : GoodIn wsX6_asked (wsV RX6 145 RX6 yX6_of wsX6_of) := goodIn_app (goodIn_of _ (by decide +kernel)) ggX6_asked_X6_of
theorem dX6_asked_0 : decode cX6_asked 0 = .ok (.aload_n 0, 1) := by decide +kernel
theorem dX6_asked_1 : decode cX6_asked 1 = .ok (.aload_n 0, 1) := by decide +kernel
theorem dX6_asked_2 : decode cX6_asked 2 = .ok (.getfield 28, 3) := by decide +kernel
theorem dX6_asked_5 : decode cX6_asked 5 = .ok (.iload_n 1, 1) := by decide +kernel
theorem dX6_asked_6 : decode cX6_asked 6 = .ok (.invokevirtual 145, 3) := by decide +kernel
theorem dX6_asked_9 : decode cX6_asked 9 = .ok (.ireturn, 1) := by decide +kernel
set_option maxRecDepth 20000 in
theorem ggX6_refused_X6_isIn : GoodIn wsX6_refused wsX6_isIn := goodIn_r _ [5] (by decide +kernel) (by decide +kernel)
set_option maxRecDepth 20000 in
theorem gX6_refused_X6_isIn : GoodIn wsX6_refused (va_wsS RX6 67 yX6_isIn wsX6_isIn) := goodIn_app (goodIn_of _ (by decide +kernel)) ggX6_refused_X6_isIn
set_option maxRecDepth 20000 in
theorem ggX6_refused_X6_fails : GoodIn wsX6_refused wsX6_fails := goodIn_r _ [9, 10, 11, 12, 13, 14, 15, 16, 17, 18, 19, 20, 21, 22, 23, 24, 25, 26, 27, 28, 29, 30, 31, 32] (by decide +kernel) (by decide +kernel)
set_option maxRecDepth 20000 in
theorem gX6_refused_X6_fails : GoodIn wsX6_refused (wsV RX6 93 RX6 yX6_fails wsX6_fails) := goodIn_app (goodIn_of _ (by decide +kernel)) ggX6_refused_X6_fails
theorem dX6_refused_0 : decode cX6_refused 0 = .ok (.aload_n 0, 1) := by decide +kernel
theorem dX6_refused_1 : decode cX6_refused 1 = .ok (.iload_n 1, 1) := by decide +kernel
theorem dX6_refused_2 : decode cX6_refused 2 = .ok (.bipush (-3), 2) := by decide +kernel
theorem dX6_refused_4 : decode cX6_refused 4 = .ok (.iconst (-1), 1) := by decide +kernel
theorem dX6_refused_5 : decode cX6_refused 5 = .ok (.invokestatic 67, 3) := by decide +kernel
theorem dX6_refused_8 : decode cX6_refused 8 = .ok (.ifCond .eq 7, 3) := by decide +kernel
theorem dX6_refused_11 : decode cX6_refused 11 = .ok (.iconst 0, 1) := by decide +kernel
theorem dX6_refused_12 : decode cX6_refused 12 = .ok (.goto 4, 3) := by decide +kernel
theorem dX6_refused_15 : decode cX6_refused 15 = .ok (.iconst 1, 1) := by decide +kernel
theorem dX6_refused_16 : decode cX6_refused 16 = .ok (.invokevirtual 93, 3) := by decide +kernel
theorem dX6_refused_19 : decode cX6_refused 19 = .ok (.ifCond .eq 7, 3) := by decide +kernel
theorem dX6_refused_22 : decode cX6_refused 22 = .ok (.iconst 0, 1) := by decide +kernel
theorem dX6_refused_23 : decode cX6_refused 23 = .ok (.goto 10, 3) := by decide +kernel
theorem dX6_refused_26 : decode cX6_refused 26 = .ok (.aload_n 0, 1) := by decide +kernel
theorem dX6_refused_27 : decode cX6_refused 27 = .ok (.getfield 58, 3) := by decide +kernel
theorem dX6_refused_30 : decode cX6_refused 30 = .ok (.iload_n 1, 1) := by decide +kernel
theorem dX6_refused_31 : decode cX6_refused 31 = .ok (.ineg, 1) := by decide +kernel
theorem dX6_refused_32 : decode cX6_refused 32 = .ok (.iaload, 1) := by decide +kernel
theorem dX6_refused_33 : decode cX6_refused 33 = .ok (.ireturn, 1) := by decide +kernel
set_option maxRecDepth 20000 in
theorem ggX6_revenue_X6_sold : GoodIn wsX6_revenue wsX6_sold := goodIn_r _ [5, 6, 7, 8, 14, 15, 16, 17, 18, 19, 20, 21, 22, 23, 24, 25, 26, 27, 28, 29, 30, 31, 32, 33, 34, 35] (by decide +kernel) (by decide +kernel)
set_option maxRecDepth 20000 in
theorem gX6_revenue_X6_sold : GoodIn wsX6_revenue (wsV RX6 138 RX6 yX6_sold wsX6_sold) := goodIn_app (goodIn_of _ (by decide +kernel)) ggX6_revenue_X6_sold
set_option maxRecDepth 20000 in
theorem ggX6_revenue_X6_tells : GoodIn wsX6_revenue wsX6_tells := goodIn_r _ [12, 13, 14, 15, 16, 17, 18, 19, 20, 21, 22, 23, 24, 25, 26, 27, 28, 29, 30, 31, 32, 33, 34, 35] (by decide +kernel) (by decide +kernel)
set_option maxRecDepth 20000 in
theorem gX6_revenue_X6_tells : GoodIn wsX6_revenue (wsV RX6 142 RX6 yX6_tells wsX6_tells) := goodIn_app (goodIn_of _ (by decide +kernel)) ggX6_revenue_X6_tells
theorem dX6_revenue_0 : decode cX6_revenue 0 = .ok (.aload_n 0, 1) := by decide +kernel
theorem dX6_revenue_1 : decode cX6_revenue 1 = .ok (.aload_n 0, 1) := by decide +kernel
theorem dX6_revenue_2 : decode cX6_revenue 2 = .ok (.invokevirtual 138, 3) := by decide +kernel
theorem dX6_revenue_5 : decode cX6_revenue 5 = .ok (.invokevirtual 142, 3) := by decide +kernel
theorem dX6_revenue_8 : decode cX6_revenue 8 = .ok (.ireturn, 1) := by decide +kernel
theorem dX6_earned_0 : decode cX6_earned 0 = .ok (.aload_n 0, 1) := by decide +kernel
theorem dX6_earned_1 : decode cX6_earned 1 = .ok (.iconst 0, 1) := by decide +kernel
theorem dX6_earned_2 : decode cX6_earned 2 = .ok (.putfield 64, 3) := by decide +kernel
theorem dX6_earned_5 : decode cX6_earned 5 = .ok (.aload_n 0, 1) := by decide +kernel
theorem dX6_earned_6 : decode cX6_earned 6 = .ok (.getfield 134, 3) := by decide +kernel
theorem dX6_earned_9 : decode cX6_earned 9 = .ok (.lreturn, 1) := by decide +kernel
theorem dJ9_max_7cf53_0 : decode cJ9_max_7cf53 0 = .ok (.iload_n 0, 1) := by decide +kernel
theorem dJ9_max_7cf53_1 : decode cJ9_max_7cf53 1 = .ok (.iload_n 1, 1) := by decide +kernel
theorem dJ9_max_7cf53_2 : decode cJ9_max_7cf53 2 = .ok (.if_icmp .lt 7, 3) := by decide +kernel
theorem dJ9_max_7cf53_5 : decode cJ9_max_7cf53 5 = .ok (.iload_n 0, 1) := by decide +kernel
theorem dJ9_max_7cf53_6 : decode cJ9_max_7cf53 6 = .ok (.goto 4, 3) := by decide +kernel
theorem dJ9_max_7cf53_9 : decode cJ9_max_7cf53 9 = .ok (.iload_n 1, 1) := by decide +kernel
theorem dJ9_max_7cf53_10 : decode cJ9_max_7cf53 10 = .ok (.ireturn, 1) := by decide +kernel
theorem dJ9_min_7cf53_0 : decode cJ9_min_7cf53 0 = .ok (.iload_n 0, 1) := by decide +kernel
theorem dJ9_min_7cf53_1 : decode cJ9_min_7cf53 1 = .ok (.iload_n 1, 1) := by decide +kernel
theorem dJ9_min_7cf53_2 : decode cJ9_min_7cf53 2 = .ok (.if_icmp .gt 7, 3) := by decide +kernel
theorem dJ9_min_7cf53_5 : decode cJ9_min_7cf53 5 = .ok (.iload_n 0, 1) := by decide +kernel
theorem dJ9_min_7cf53_6 : decode cJ9_min_7cf53 6 = .ok (.goto 4, 3) := by decide +kernel
theorem dJ9_min_7cf53_9 : decode cJ9_min_7cf53 9 = .ok (.iload_n 1, 1) := by decide +kernel
theorem dJ9_min_7cf53_10 : decode cJ9_min_7cf53 10 = .ok (.ireturn, 1) := by decide +kernel
theorem dJ7_fill_53178_0 : decode cJ7_fill_53178 0 = .ok (.iconst 0, 1) := by decide +kernel
theorem dJ7_fill_53178_1 : decode cJ7_fill_53178 1 = .ok (.istore_n 2, 1) := by decide +kernel
theorem dJ7_fill_53178_2 : decode cJ7_fill_53178 2 = .ok (.aload_n 0, 1) := by decide +kernel
theorem dJ7_fill_53178_3 : decode cJ7_fill_53178 3 = .ok (.arraylength, 1) := by decide +kernel
theorem dJ7_fill_53178_4 : decode cJ7_fill_53178 4 = .ok (.istore_n 3, 1) := by decide +kernel
theorem dJ7_fill_53178_5 : decode cJ7_fill_53178 5 = .ok (.iload_n 2, 1) := by decide +kernel
theorem dJ7_fill_53178_6 : decode cJ7_fill_53178 6 = .ok (.iload_n 3, 1) := by decide +kernel
theorem dJ7_fill_53178_7 : decode cJ7_fill_53178 7 = .ok (.if_icmp .ge 13, 3) := by decide +kernel
theorem dJ7_fill_53178_10 : decode cJ7_fill_53178 10 = .ok (.aload_n 0, 1) := by decide +kernel
theorem dJ7_fill_53178_11 : decode cJ7_fill_53178 11 = .ok (.iload_n 2, 1) := by decide +kernel
theorem dJ7_fill_53178_12 : decode cJ7_fill_53178 12 = .ok (.iload_n 1, 1) := by decide +kernel
theorem dJ7_fill_53178_13 : decode cJ7_fill_53178 13 = .ok (.iastore, 1) := by decide +kernel
theorem dJ7_fill_53178_14 : decode cJ7_fill_53178 14 = .ok (.iinc 2 1, 3) := by decide +kernel
theorem dJ7_fill_53178_17 : decode cJ7_fill_53178 17 = .ok (.goto (-12), 3) := by decide +kernel
theorem dJ7_fill_53178_20 : decode cJ7_fill_53178 20 = .ok (.return_, 1) := by decide +kernel
set_option maxRecDepth 20000 in
theorem ggL_setSeats_X5_setSeats : GoodIn wsL_setSeats wsX5_setSeats := goodIn_ca (goodIn_r _ [6, 7, 8, 9, 10, 5, 11, 12, 13, 14, 15, 16, 17, 18, 19, 20, 21, 22, 23, 24, 25, 26, 27, 28, 29, 30] (by decide +kernel) (by decide +kernel)) (goodIn_sub (fun _ h => List.mem_cons_of_mem _ (List.mem_append_right _ h)) (by decide +kernel))
set_option maxRecDepth 20000 in
theorem gL_setSeats_X5_setSeats : GoodIn wsL_setSeats (wsV RL 7 RX5 yX5_setSeats wsX5_setSeats) := goodIn_app (goodIn_of _ (by decide +kernel)) ggL_setSeats_X5_setSeats
theorem dL_setSeats_0 : decode cL_setSeats 0 = .ok (.aload_n 0, 1) := by decide +kernel
theorem dL_setSeats_1 : decode cL_setSeats 1 = .ok (.iload_n 1, 1) := by decide +kernel
theorem dL_setSeats_2 : decode cL_setSeats 2 = .ok (.iload_n 2, 1) := by decide +kernel
theorem dL_setSeats_3 : decode cL_setSeats 3 = .ok (.iload_n 3, 1) := by decide +kernel
theorem dL_setSeats_4 : decode cL_setSeats 4 = .ok (.invokevirtual 7, 3) := by decide +kernel
theorem dL_setSeats_7 : decode cL_setSeats 7 = .ok (.goto 7, 3) := by decide +kernel
theorem dL_setSeats_10 : decode cL_setSeats 10 = .ok (.astore 4, 2) := by decide +kernel
theorem dL_setSeats_12 : decode cL_setSeats 12 = .ok (.iconst 1, 1) := by decide +kernel
theorem dL_setSeats_13 : decode cL_setSeats 13 = .ok (.ireturn, 1) := by decide +kernel
theorem dL_setSeats_14 : decode cL_setSeats 14 = .ok (.iconst 0, 1) := by decide +kernel
theorem dL_setSeats_15 : decode cL_setSeats 15 = .ok (.ireturn, 1) := by decide +kernel
set_option maxRecDepth 20000 in
theorem ggL_addProduct_X5_addProduct : GoodIn wsL_addProduct wsX5_addProduct := goodIn_ca (goodIn_ca (goodIn_ca (goodIn_r _ [8, 9, 10, 11, 12, 13, 14, 15, 16, 17, 18, 19, 20, 21, 7, 22, 23, 24, 25, 26, 27, 28, 29, 30, 31, 32, 33, 34, 35, 36, 37, 38, 39, 40, 41, 42, 43, 44, 45, 46, 47, 48, 49, 50, 51, 52, 53, 54, 55, 56, 57, 58, 59, 60, 61, 62, 63, 64, 65, 66, 67, 68, 69] (by decide +kernel) (by decide +kernel)) (goodIn_sub (fun _ h => List.mem_cons_of_mem _ (List.mem_append_left _ (List.mem_append_left _ (List.mem_append_right _ h)))) (by decide +kernel))) (goodIn_sub (fun _ h => List.mem_cons_of_mem _ (List.mem_append_left _ (List.mem_append_right _ h))) (by decide +kernel))) (goodIn_sub (fun _ h => List.mem_cons_of_mem _ (List.mem_append_right _ h)) (by decide +kernel))
set_option maxRecDepth 20000 in
theorem gL_addProduct_X5_addProduct : GoodIn wsL_addProduct (wsV RL 15 RX5 yX5_addProduct wsX5_addProduct) := goodIn_app (goodIn_of _ (by decide +kernel)) ggL_addProduct_X5_addProduct
theorem dL_addProduct_0 : decode cL_addProduct 0 = .ok (.aload 4, 2) := by decide +kernel
theorem dL_addProduct_2 : decode cL_addProduct 2 = .ok (.iconst 0, 1) := by decide +kernel
theorem dL_addProduct_3 : decode cL_addProduct 3 = .ok (.aload_n 0, 1) := by decide +kernel
theorem dL_addProduct_4 : decode cL_addProduct 4 = .ok (.iload_n 1, 1) := by decide +kernel
theorem dL_addProduct_5 : decode cL_addProduct 5 = .ok (.iload_n 2, 1) := by decide +kernel
theorem dL_addProduct_6 : decode cL_addProduct 6 = .ok (.iload_n 3, 1) := by decide +kernel
theorem dL_addProduct_7 : decode cL_addProduct 7 = .ok (.invokevirtual 15, 3) := by decide +kernel
theorem dL_addProduct_10 : decode cL_addProduct 10 = .ok (.i2l, 1) := by decide +kernel
theorem dL_addProduct_11 : decode cL_addProduct 11 = .ok (.lastore, 1) := by decide +kernel
theorem dL_addProduct_12 : decode cL_addProduct 12 = .ok (.goto 15, 3) := by decide +kernel
theorem dL_addProduct_15 : decode cL_addProduct 15 = .ok (.astore 5, 2) := by decide +kernel
theorem dL_addProduct_17 : decode cL_addProduct 17 = .ok (.iconst 1, 1) := by decide +kernel
theorem dL_addProduct_18 : decode cL_addProduct 18 = .ok (.ireturn, 1) := by decide +kernel
theorem dL_addProduct_19 : decode cL_addProduct 19 = .ok (.astore 5, 2) := by decide +kernel
theorem dL_addProduct_21 : decode cL_addProduct 21 = .ok (.iconst 2, 1) := by decide +kernel
theorem dL_addProduct_22 : decode cL_addProduct 22 = .ok (.ireturn, 1) := by decide +kernel
theorem dL_addProduct_23 : decode cL_addProduct 23 = .ok (.astore 5, 2) := by decide +kernel
theorem dL_addProduct_25 : decode cL_addProduct 25 = .ok (.iconst 3, 1) := by decide +kernel
theorem dL_addProduct_26 : decode cL_addProduct 26 = .ok (.ireturn, 1) := by decide +kernel
theorem dL_addProduct_27 : decode cL_addProduct 27 = .ok (.iconst 0, 1) := by decide +kernel
theorem dL_addProduct_28 : decode cL_addProduct 28 = .ok (.ireturn, 1) := by decide +kernel
set_option maxRecDepth 20000 in
theorem ggL_setExpected_X5_setExpected : GoodIn wsL_setExpected wsX5_setExpected := goodIn_ca (goodIn_ca (goodIn_r _ [7, 8, 9, 10, 11, 12, 13, 14, 6, 15, 16, 17, 18, 19, 20, 21, 22, 23, 24, 25, 26, 27, 28, 29, 30, 31, 32, 33, 34, 35, 36, 37, 38, 39, 40] (by decide +kernel) (by decide +kernel)) (goodIn_sub (fun _ h => List.mem_cons_of_mem _ (List.mem_append_left _ (List.mem_append_right _ h))) (by decide +kernel))) (goodIn_sub (fun _ h => List.mem_cons_of_mem _ (List.mem_append_right _ h)) (by decide +kernel))
set_option maxRecDepth 20000 in
theorem gL_setExpected_X5_setExpected : GoodIn wsL_setExpected (wsV RL 23 RX5 yX5_setExpected wsX5_setExpected) := goodIn_app (goodIn_of _ (by decide +kernel)) ggL_setExpected_X5_setExpected
theorem dL_setExpected_0 : decode cL_setExpected 0 = .ok (.aload_n 3, 1) := by decide +kernel
theorem dL_setExpected_1 : decode cL_setExpected 1 = .ok (.iconst 0, 1) := by decide +kernel
theorem dL_setExpected_2 : decode cL_setExpected 2 = .ok (.aload_n 0, 1) := by decide +kernel
theorem dL_setExpected_3 : decode cL_setExpected 3 = .ok (.iload_n 1, 1) := by decide +kernel
theorem dL_setExpected_4 : decode cL_setExpected 4 = .ok (.iload_n 2, 1) := by decide +kernel
theorem dL_setExpected_5 : decode cL_setExpected 5 = .ok (.invokevirtual 23, 3) := by decide +kernel
theorem dL_setExpected_8 : decode cL_setExpected 8 = .ok (.i2l, 1) := by decide +kernel
theorem dL_setExpected_9 : decode cL_setExpected 9 = .ok (.lastore, 1) := by decide +kernel
theorem dL_setExpected_10 : decode cL_setExpected 10 = .ok (.goto 11, 3) := by decide +kernel
theorem dL_setExpected_13 : decode cL_setExpected 13 = .ok (.astore 4, 2) := by decide +kernel
theorem dL_setExpected_15 : decode cL_setExpected 15 = .ok (.iconst 1, 1) := by decide +kernel
theorem dL_setExpected_16 : decode cL_setExpected 16 = .ok (.ireturn, 1) := by decide +kernel
theorem dL_setExpected_17 : decode cL_setExpected 17 = .ok (.astore 4, 2) := by decide +kernel
theorem dL_setExpected_19 : decode cL_setExpected 19 = .ok (.iconst 2, 1) := by decide +kernel
theorem dL_setExpected_20 : decode cL_setExpected 20 = .ok (.ireturn, 1) := by decide +kernel
theorem dL_setExpected_21 : decode cL_setExpected 21 = .ok (.iconst 0, 1) := by decide +kernel
theorem dL_setExpected_22 : decode cL_setExpected 22 = .ok (.ireturn, 1) := by decide +kernel
set_option maxRecDepth 20000 in
theorem ggL_setRate_X5_setRate : GoodIn wsL_setRate wsX5_setRate := goodIn_ca (goodIn_r _ [6, 7, 8, 9, 10, 11, 5, 12, 13, 14, 15, 16, 17, 18, 19, 20, 21, 22, 23, 24, 25, 26] (by decide +kernel) (by decide +kernel)) (goodIn_sub (fun _ h => List.mem_cons_of_mem _ (List.mem_append_right _ h)) (by decide +kernel))
set_option maxRecDepth 20000 in
theorem gL_setRate_X5_setRate : GoodIn wsL_setRate (wsV RL 27 RX5 yX5_setRate wsX5_setRate) := goodIn_app (goodIn_of _ (by decide +kernel)) ggL_setRate_X5_setRate
theorem dL_setRate_0 : decode cL_setRate 0 = .ok (.aload_n 2, 1) := by decide +kernel
theorem dL_setRate_1 : decode cL_setRate 1 = .ok (.iconst 0, 1) := by decide +kernel
theorem dL_setRate_2 : decode cL_setRate 2 = .ok (.aload_n 0, 1) := by decide +kernel
theorem dL_setRate_3 : decode cL_setRate 3 = .ok (.iload_n 1, 1) := by decide +kernel
theorem dL_setRate_4 : decode cL_setRate 4 = .ok (.invokevirtual 27, 3) := by decide +kernel
theorem dL_setRate_7 : decode cL_setRate 7 = .ok (.i2l, 1) := by decide +kernel
theorem dL_setRate_8 : decode cL_setRate 8 = .ok (.lastore, 1) := by decide +kernel
theorem dL_setRate_9 : decode cL_setRate 9 = .ok (.goto 6, 3) := by decide +kernel
theorem dL_setRate_12 : decode cL_setRate 12 = .ok (.astore_n 3, 1) := by decide +kernel
theorem dL_setRate_13 : decode cL_setRate 13 = .ok (.iconst 1, 1) := by decide +kernel
theorem dL_setRate_14 : decode cL_setRate 14 = .ok (.ireturn, 1) := by decide +kernel
theorem dL_setRate_15 : decode cL_setRate 15 = .ok (.iconst 0, 1) := by decide +kernel
theorem dL_setRate_16 : decode cL_setRate 16 = .ok (.ireturn, 1) := by decide +kernel
set_option maxRecDepth 20000 in
theorem ggL_ask_X5_ask : GoodIn wsL_ask wsX5_ask := goodIn_ca (goodIn_ca (goodIn_r _ [7, 8, 9, 10, 11, 12, 13, 14, 15, 16, 17, 18, 6, 19, 20, 21, 22, 23, 24, 25, 26, 27, 28, 29, 30, 31, 32, 33, 34, 35, 36, 37, 38, 39, 40, 41, 42, 43, 44, 45, 46, 47, 48, 49, 50, 51, 52, 53, 54, 55, 56, 57, 58, 59, 60, 61, 62, 63, 64, 65, 66, 67, 68, 69, 70, 71, 72, 73, 74, 75, 76, 77, 78, 79, 80, 81, 82, 83, 84, 85, 86, 87, 88, 89, 90, 91, 92, 93, 94, 95, 96, 97, 98, 99, 100, 101, 102, 103, 104, 105, 106, 107, 108, 109, 110, 111, 112, 113, 114, 115, 116, 117, 118, 119, 120, 121, 122, 123, 124, 125, 126, 127, 128, 129, 130, 131, 132, 133, 134, 135, 136, 137, 138, 139, 140, 141, 142, 143, 144, 145, 146, 147, 148, 149, 150, 151, 152, 153, 154, 155, 156, 157, 158, 159, 160, 161, 162, 163, 164, 165, 166, 167, 168, 169, 170, 171, 172, 173, 174, 175, 176, 177, 178, 179, 180, 181, 182, 183, 184, 185, 186, 187, 188, 189] (by decide +kernel) (by decide +kernel)) (goodIn_sub (fun _ h => List.mem_cons_of_mem _ (List.mem_append_left _ (List.mem_append_right _ h))) (by decide +kernel))) (goodIn_sub (fun _ h => List.mem_cons_of_mem _ (List.mem_append_right _ h)) (by decide +kernel))
set_option maxRecDepth 20000 in
theorem gL_ask_X5_ask : GoodIn wsL_ask (wsV RL 31 RX5 yX5_ask wsX5_ask) := goodIn_app (goodIn_of _ (by decide +kernel)) ggL_ask_X5_ask
theorem dL_ask_0 : decode cL_ask 0 = .ok (.aload_n 2, 1) := by decide +kernel
theorem dL_ask_1 : decode cL_ask 1 = .ok (.iconst 0, 1) := by decide +kernel
theorem dL_ask_2 : decode cL_ask 2 = .ok (.aload_n 0, 1) := by decide +kernel
theorem dL_ask_3 : decode cL_ask 3 = .ok (.iload_n 1, 1) := by decide +kernel
theorem dL_ask_4 : decode cL_ask 4 = .ok (.invokevirtual 31, 3) := by decide +kernel
theorem dL_ask_7 : decode cL_ask 7 = .ok (.i2l, 1) := by decide +kernel
theorem dL_ask_8 : decode cL_ask 8 = .ok (.lastore, 1) := by decide +kernel
theorem dL_ask_9 : decode cL_ask 9 = .ok (.goto 9, 3) := by decide +kernel
theorem dL_ask_12 : decode cL_ask 12 = .ok (.astore_n 3, 1) := by decide +kernel
theorem dL_ask_13 : decode cL_ask 13 = .ok (.iconst 1, 1) := by decide +kernel
theorem dL_ask_14 : decode cL_ask 14 = .ok (.ireturn, 1) := by decide +kernel
theorem dL_ask_15 : decode cL_ask 15 = .ok (.astore_n 3, 1) := by decide +kernel
theorem dL_ask_16 : decode cL_ask 16 = .ok (.iconst 2, 1) := by decide +kernel
theorem dL_ask_17 : decode cL_ask 17 = .ok (.ireturn, 1) := by decide +kernel
theorem dL_ask_18 : decode cL_ask 18 = .ok (.iconst 0, 1) := by decide +kernel
theorem dL_ask_19 : decode cL_ask 19 = .ok (.ireturn, 1) := by decide +kernel
set_option maxRecDepth 20000 in
theorem ggL_group_X5_group : GoodIn wsL_group wsX5_group := goodIn_ca (goodIn_ca (goodIn_ca (goodIn_r _ [8, 9, 10, 11, 12, 13, 14, 15, 16, 17, 18, 19, 20, 7, 21, 22, 23, 24, 25, 26, 27, 28, 29, 30, 31, 32, 33, 34, 35, 36, 37, 38, 39, 40, 41, 42, 43, 44, 45, 46, 47, 48, 49, 50, 51, 52, 53, 54, 55, 56, 57, 58, 59, 60, 61, 62, 63, 64, 65, 66, 67, 68, 69, 70, 71, 72, 73, 74, 75, 76, 77, 78, 79, 80, 81, 82, 83, 84, 85, 86, 87, 88, 89, 90, 91, 92, 93, 94, 95, 96, 97, 98, 99, 100, 101, 102, 103, 104, 105, 106, 107, 108, 109, 110, 111, 112, 113, 114, 115, 116, 117, 118, 119, 120, 121, 122, 123, 124, 125, 126, 127, 128, 129, 130, 131, 132, 133, 134, 135, 136, 137, 138, 139, 140, 141, 142, 143, 144, 145, 146, 147, 148, 149, 150, 151, 152, 153, 154, 155, 156, 157, 158, 159, 160, 161, 162, 163, 164, 165, 166] (by decide +kernel) (by decide +kernel)) (goodIn_sub (fun _ h => List.mem_cons_of_mem _ (List.mem_append_left _ (List.mem_append_left _ (List.mem_append_right _ h)))) (by decide +kernel))) (goodIn_sub (fun _ h => List.mem_cons_of_mem _ (List.mem_append_left _ (List.mem_append_right _ h))) (by decide +kernel))) (goodIn_sub (fun _ h => List.mem_cons_of_mem _ (List.mem_append_right _ h)) (by decide +kernel))
set_option maxRecDepth 20000 in
theorem gL_group_X5_group : GoodIn wsL_group (wsV RL 34 RX5 yX5_group wsX5_group) := goodIn_app (goodIn_of _ (by decide +kernel)) ggL_group_X5_group
theorem dL_group_0 : decode cL_group 0 = .ok (.aload 5, 2) := by decide +kernel
theorem dL_group_2 : decode cL_group 2 = .ok (.iconst 0, 1) := by decide +kernel
theorem dL_group_3 : decode cL_group 3 = .ok (.aload_n 0, 1) := by decide +kernel
theorem dL_group_4 : decode cL_group 4 = .ok (.iload_n 1, 1) := by decide +kernel
theorem dL_group_5 : decode cL_group 5 = .ok (.iload_n 2, 1) := by decide +kernel
theorem dL_group_6 : decode cL_group 6 = .ok (.iload_n 3, 1) := by decide +kernel
theorem dL_group_7 : decode cL_group 7 = .ok (.iload 4, 2) := by decide +kernel
theorem dL_group_9 : decode cL_group 9 = .ok (.invokevirtual 34, 3) := by decide +kernel
theorem dL_group_12 : decode cL_group 12 = .ok (.i2l, 1) := by decide +kernel
theorem dL_group_13 : decode cL_group 13 = .ok (.lastore, 1) := by decide +kernel
theorem dL_group_14 : decode cL_group 14 = .ok (.goto 15, 3) := by decide +kernel
theorem dL_group_17 : decode cL_group 17 = .ok (.astore 6, 2) := by decide +kernel
theorem dL_group_19 : decode cL_group 19 = .ok (.iconst 1, 1) := by decide +kernel
theorem dL_group_20 : decode cL_group 20 = .ok (.ireturn, 1) := by decide +kernel
theorem dL_group_21 : decode cL_group 21 = .ok (.astore 6, 2) := by decide +kernel
theorem dL_group_23 : decode cL_group 23 = .ok (.iconst 2, 1) := by decide +kernel
theorem dL_group_24 : decode cL_group 24 = .ok (.ireturn, 1) := by decide +kernel
theorem dL_group_25 : decode cL_group 25 = .ok (.astore 6, 2) := by decide +kernel
theorem dL_group_27 : decode cL_group 27 = .ok (.iconst 3, 1) := by decide +kernel
theorem dL_group_28 : decode cL_group 28 = .ok (.ireturn, 1) := by decide +kernel
theorem dL_group_29 : decode cL_group 29 = .ok (.iconst 0, 1) := by decide +kernel
theorem dL_group_30 : decode cL_group 30 = .ok (.ireturn, 1) := by decide +kernel
set_option maxRecDepth 20000 in
theorem ggL_cancel_X5_cancel : GoodIn wsL_cancel wsX5_cancel := goodIn_ca (goodIn_ca (goodIn_r _ [7, 8, 9, 10, 11, 12, 13, 14, 6, 15, 16, 17, 18, 19, 20, 21, 22, 23, 24, 25, 26, 27, 28, 29, 30, 31, 32, 33, 34, 35, 36] (by decide +kernel) (by decide +kernel)) (goodIn_sub (fun _ h => List.mem_cons_of_mem _ (List.mem_append_left _ (List.mem_append_right _ h))) (by decide +kernel))) (goodIn_sub (fun _ h => List.mem_cons_of_mem _ (List.mem_append_right _ h)) (by decide +kernel))
set_option maxRecDepth 20000 in
theorem gL_cancel_X5_cancel : GoodIn wsL_cancel (wsV RL 38 RX5 yX5_cancel wsX5_cancel) := goodIn_app (goodIn_of _ (by decide +kernel)) ggL_cancel_X5_cancel
theorem dL_cancel_0 : decode cL_cancel 0 = .ok (.aload_n 2, 1) := by decide +kernel
theorem dL_cancel_1 : decode cL_cancel 1 = .ok (.iconst 0, 1) := by decide +kernel
theorem dL_cancel_2 : decode cL_cancel 2 = .ok (.aload_n 0, 1) := by decide +kernel
theorem dL_cancel_3 : decode cL_cancel 3 = .ok (.iload_n 1, 1) := by decide +kernel
theorem dL_cancel_4 : decode cL_cancel 4 = .ok (.invokevirtual 38, 3) := by decide +kernel
theorem dL_cancel_7 : decode cL_cancel 7 = .ok (.i2l, 1) := by decide +kernel
theorem dL_cancel_8 : decode cL_cancel 8 = .ok (.lastore, 1) := by decide +kernel
theorem dL_cancel_9 : decode cL_cancel 9 = .ok (.goto 9, 3) := by decide +kernel
theorem dL_cancel_12 : decode cL_cancel 12 = .ok (.astore_n 3, 1) := by decide +kernel
theorem dL_cancel_13 : decode cL_cancel 13 = .ok (.iconst 1, 1) := by decide +kernel
theorem dL_cancel_14 : decode cL_cancel 14 = .ok (.ireturn, 1) := by decide +kernel
theorem dL_cancel_15 : decode cL_cancel 15 = .ok (.astore_n 3, 1) := by decide +kernel
theorem dL_cancel_16 : decode cL_cancel 16 = .ok (.iconst 2, 1) := by decide +kernel
theorem dL_cancel_17 : decode cL_cancel 17 = .ok (.ireturn, 1) := by decide +kernel
theorem dL_cancel_18 : decode cL_cancel 18 = .ok (.iconst 0, 1) := by decide +kernel
theorem dL_cancel_19 : decode cL_cancel 19 = .ok (.ireturn, 1) := by decide +kernel
set_option maxRecDepth 20000 in
theorem ggL_endDay_X5_endDay : GoodIn wsL_endDay wsX5_endDay := goodIn_ca (goodIn_r _ [6, 7, 8, 9, 10, 11, 12, 5, 13, 14, 15, 16, 17, 18, 19, 20, 21, 22, 23, 24, 25, 26, 27, 28, 29, 30, 31, 32, 33, 34, 35, 36, 37, 38, 39, 40, 41, 42, 43, 44, 45, 46, 47, 48, 49, 50, 51, 52, 53, 54, 55, 56, 57, 58, 59, 60, 61, 62, 63, 64, 65, 66, 67, 68, 69, 70, 71, 72, 73, 74, 75, 76, 77, 78, 79, 80, 81, 82, 83, 84, 85, 86, 87, 88, 89, 90] (by decide +kernel) (by decide +kernel)) (goodIn_sub (fun _ h => List.mem_cons_of_mem _ (List.mem_append_right _ h)) (by decide +kernel))
set_option maxRecDepth 20000 in
theorem gL_endDay_X5_endDay : GoodIn wsL_endDay (wsV RL 41 RX5 yX5_endDay wsX5_endDay) := goodIn_app (goodIn_of _ (by decide +kernel)) ggL_endDay_X5_endDay
theorem dL_endDay_0 : decode cL_endDay 0 = .ok (.aload_n 2, 1) := by decide +kernel
theorem dL_endDay_1 : decode cL_endDay 1 = .ok (.iconst 0, 1) := by decide +kernel
theorem dL_endDay_2 : decode cL_endDay 2 = .ok (.aload_n 0, 1) := by decide +kernel
theorem dL_endDay_3 : decode cL_endDay 3 = .ok (.iload_n 1, 1) := by decide +kernel
theorem dL_endDay_4 : decode cL_endDay 4 = .ok (.invokevirtual 41, 3) := by decide +kernel
theorem dL_endDay_7 : decode cL_endDay 7 = .ok (.i2l, 1) := by decide +kernel
theorem dL_endDay_8 : decode cL_endDay 8 = .ok (.lastore, 1) := by decide +kernel
theorem dL_endDay_9 : decode cL_endDay 9 = .ok (.goto 6, 3) := by decide +kernel
theorem dL_endDay_12 : decode cL_endDay 12 = .ok (.astore_n 3, 1) := by decide +kernel
theorem dL_endDay_13 : decode cL_endDay 13 = .ok (.iconst 1, 1) := by decide +kernel
theorem dL_endDay_14 : decode cL_endDay 14 = .ok (.ireturn, 1) := by decide +kernel
theorem dL_endDay_15 : decode cL_endDay 15 = .ok (.iconst 0, 1) := by decide +kernel
theorem dL_endDay_16 : decode cL_endDay 16 = .ok (.ireturn, 1) := by decide +kernel
set_option maxRecDepth 20000 in
theorem ggL_booked_X5_booked : GoodIn wsL_booked wsX5_booked := goodIn_ca (goodIn_r _ [6, 7, 8, 9, 10, 5, 11, 12, 13, 14, 15, 16, 17, 18, 19, 20, 21, 22, 23, 24, 25, 26, 27, 28, 29, 30, 31, 32, 33, 34, 35, 36, 37, 38, 39, 40, 41, 42, 43, 44, 45, 46, 47, 48, 49, 50, 51] (by decide +kernel) (by decide +kernel)) (goodIn_sub (fun _ h => List.mem_cons_of_mem _ (List.mem_append_right _ h)) (by decide +kernel))
set_option maxRecDepth 20000 in
theorem gL_booked_X5_booked : GoodIn wsL_booked (wsV RL 44 RX5 yX5_booked wsX5_booked) := goodIn_app (goodIn_of _ (by decide +kernel)) ggL_booked_X5_booked
theorem dL_booked_0 : decode cL_booked 0 = .ok (.aload_n 2, 1) := by decide +kernel
theorem dL_booked_1 : decode cL_booked 1 = .ok (.iconst 0, 1) := by decide +kernel
theorem dL_booked_2 : decode cL_booked 2 = .ok (.aload_n 0, 1) := by decide +kernel
theorem dL_booked_3 : decode cL_booked 3 = .ok (.iload_n 1, 1) := by decide +kernel
theorem dL_booked_4 : decode cL_booked 4 = .ok (.invokevirtual 44, 3) := by decide +kernel
theorem dL_booked_7 : decode cL_booked 7 = .ok (.i2l, 1) := by decide +kernel
theorem dL_booked_8 : decode cL_booked 8 = .ok (.lastore, 1) := by decide +kernel
theorem dL_booked_9 : decode cL_booked 9 = .ok (.goto 6, 3) := by decide +kernel
theorem dL_booked_12 : decode cL_booked 12 = .ok (.astore_n 3, 1) := by decide +kernel
theorem dL_booked_13 : decode cL_booked 13 = .ok (.iconst 1, 1) := by decide +kernel
theorem dL_booked_14 : decode cL_booked 14 = .ok (.ireturn, 1) := by decide +kernel
theorem dL_booked_15 : decode cL_booked 15 = .ok (.iconst 0, 1) := by decide +kernel
theorem dL_booked_16 : decode cL_booked 16 = .ok (.ireturn, 1) := by decide +kernel
set_option maxRecDepth 20000 in
theorem ggL_authorised_X5_authorised : GoodIn wsL_authorised wsX5_authorised := goodIn_ca (goodIn_r _ [6, 7, 8, 9, 10, 5, 11, 12, 13, 14, 15, 16, 17, 18, 19, 20, 21, 22, 23, 24, 25, 26, 27, 28, 29, 30, 31, 32, 33, 34, 35, 36, 37, 38] (by decide +kernel) (by decide +kernel)) (goodIn_sub (fun _ h => List.mem_cons_of_mem _ (List.mem_append_right _ h)) (by decide +kernel))
set_option maxRecDepth 20000 in
theorem gL_authorised_X5_authorised : GoodIn wsL_authorised (wsV RL 47 RX5 yX5_authorised wsX5_authorised) := goodIn_app (goodIn_of _ (by decide +kernel)) ggL_authorised_X5_authorised
theorem dL_authorised_0 : decode cL_authorised 0 = .ok (.aload_n 2, 1) := by decide +kernel
theorem dL_authorised_1 : decode cL_authorised 1 = .ok (.iconst 0, 1) := by decide +kernel
theorem dL_authorised_2 : decode cL_authorised 2 = .ok (.aload_n 0, 1) := by decide +kernel
theorem dL_authorised_3 : decode cL_authorised 3 = .ok (.iload_n 1, 1) := by decide +kernel
theorem dL_authorised_4 : decode cL_authorised 4 = .ok (.invokevirtual 47, 3) := by decide +kernel
theorem dL_authorised_7 : decode cL_authorised 7 = .ok (.i2l, 1) := by decide +kernel
theorem dL_authorised_8 : decode cL_authorised 8 = .ok (.lastore, 1) := by decide +kernel
theorem dL_authorised_9 : decode cL_authorised 9 = .ok (.goto 6, 3) := by decide +kernel
theorem dL_authorised_12 : decode cL_authorised 12 = .ok (.astore_n 3, 1) := by decide +kernel
theorem dL_authorised_13 : decode cL_authorised 13 = .ok (.iconst 1, 1) := by decide +kernel
theorem dL_authorised_14 : decode cL_authorised 14 = .ok (.ireturn, 1) := by decide +kernel
theorem dL_authorised_15 : decode cL_authorised 15 = .ok (.iconst 0, 1) := by decide +kernel
theorem dL_authorised_16 : decode cL_authorised 16 = .ok (.ireturn, 1) := by decide +kernel
set_option maxRecDepth 20000 in
theorem ggL_protectedSeats_X5_protectedSeats : GoodIn wsL_protectedSeats wsX5_protectedSeats := goodIn_ca (goodIn_ca (goodIn_r _ [7, 8, 9, 10, 11, 12, 13, 6, 14, 15, 16, 17, 18, 19, 20, 21, 22, 23, 24, 25, 26, 27, 28, 29, 30, 31, 32, 33, 34, 35, 36, 37, 38, 39, 40, 41, 42, 43, 44, 45, 46, 47, 48, 49, 50, 51, 52, 53, 54, 55] (by decide +kernel) (by decide +kernel)) (goodIn_sub (fun _ h => List.mem_cons_of_mem _ (List.mem_append_left _ (List.mem_append_right _ h))) (by decide +kernel))) (goodIn_sub (fun _ h => List.mem_cons_of_mem _ (List.mem_append_right _ h)) (by decide +kernel))
set_option maxRecDepth 20000 in
theorem gL_protectedSeats_X5_protectedSeats : GoodIn wsL_protectedSeats (wsV RL 50 RX5 yX5_protectedSeats wsX5_protectedSeats) := goodIn_app (goodIn_of _ (by decide +kernel)) ggL_protectedSeats_X5_protectedSeats
theorem dL_protectedSeats_0 : decode cL_protectedSeats 0 = .ok (.aload_n 3, 1) := by decide +kernel
theorem dL_protectedSeats_1 : decode cL_protectedSeats 1 = .ok (.iconst 0, 1) := by decide +kernel
theorem dL_protectedSeats_2 : decode cL_protectedSeats 2 = .ok (.aload_n 0, 1) := by decide +kernel
theorem dL_protectedSeats_3 : decode cL_protectedSeats 3 = .ok (.iload_n 1, 1) := by decide +kernel
theorem dL_protectedSeats_4 : decode cL_protectedSeats 4 = .ok (.iload_n 2, 1) := by decide +kernel
theorem dL_protectedSeats_5 : decode cL_protectedSeats 5 = .ok (.invokevirtual 50, 3) := by decide +kernel
theorem dL_protectedSeats_8 : decode cL_protectedSeats 8 = .ok (.i2l, 1) := by decide +kernel
theorem dL_protectedSeats_9 : decode cL_protectedSeats 9 = .ok (.lastore, 1) := by decide +kernel
theorem dL_protectedSeats_10 : decode cL_protectedSeats 10 = .ok (.goto 11, 3) := by decide +kernel
theorem dL_protectedSeats_13 : decode cL_protectedSeats 13 = .ok (.astore 4, 2) := by decide +kernel
theorem dL_protectedSeats_15 : decode cL_protectedSeats 15 = .ok (.iconst 1, 1) := by decide +kernel
theorem dL_protectedSeats_16 : decode cL_protectedSeats 16 = .ok (.ireturn, 1) := by decide +kernel
theorem dL_protectedSeats_17 : decode cL_protectedSeats 17 = .ok (.astore 4, 2) := by decide +kernel
theorem dL_protectedSeats_19 : decode cL_protectedSeats 19 = .ok (.iconst 2, 1) := by decide +kernel
theorem dL_protectedSeats_20 : decode cL_protectedSeats 20 = .ok (.ireturn, 1) := by decide +kernel
theorem dL_protectedSeats_21 : decode cL_protectedSeats 21 = .ok (.iconst 0, 1) := by decide +kernel
theorem dL_protectedSeats_22 : decode cL_protectedSeats 22 = .ok (.ireturn, 1) := by decide +kernel
set_option maxRecDepth 20000 in
theorem ggL_bid_X5_bid : GoodIn wsL_bid wsX5_bid := goodIn_ca (goodIn_r _ [6, 7, 8, 9, 10, 5, 11, 12, 13, 14, 15, 16, 17, 18, 19, 20, 21, 22, 23, 24, 25, 26, 27, 28, 29, 30, 31, 32, 33, 34, 35, 36, 37, 38, 39, 40, 41, 42, 43, 44, 45, 46, 47, 48, 49, 50, 51, 52, 53, 54, 55, 56, 57, 58, 59, 60, 61, 62, 63, 64, 65, 66, 67, 68, 69, 70, 71, 72, 73, 74, 75, 76, 77, 78, 79, 80, 81, 82, 83, 84, 85, 86, 87, 88, 89, 90, 91, 92, 93, 94, 95, 96, 97, 98, 99, 100, 101, 102, 103, 104, 105, 106, 107, 108, 109, 110, 111, 112, 113, 114, 115, 116, 117, 118, 119, 120, 121, 122, 123, 124, 125, 126, 127, 128, 129, 130, 131, 132, 133, 134, 135, 136, 137] (by decide +kernel) (by decide +kernel)) (goodIn_sub (fun _ h => List.mem_cons_of_mem _ (List.mem_append_right _ h)) (by decide +kernel))
set_option maxRecDepth 20000 in
theorem gL_bid_X5_bid : GoodIn wsL_bid (wsV RL 53 RX5 yX5_bid wsX5_bid) := goodIn_app (goodIn_of _ (by decide +kernel)) ggL_bid_X5_bid
theorem dL_bid_0 : decode cL_bid 0 = .ok (.aload_n 2, 1) := by decide +kernel
theorem dL_bid_1 : decode cL_bid 1 = .ok (.iconst 0, 1) := by decide +kernel
theorem dL_bid_2 : decode cL_bid 2 = .ok (.aload_n 0, 1) := by decide +kernel
theorem dL_bid_3 : decode cL_bid 3 = .ok (.iload_n 1, 1) := by decide +kernel
theorem dL_bid_4 : decode cL_bid 4 = .ok (.invokevirtual 53, 3) := by decide +kernel
theorem dL_bid_7 : decode cL_bid 7 = .ok (.i2l, 1) := by decide +kernel
theorem dL_bid_8 : decode cL_bid 8 = .ok (.lastore, 1) := by decide +kernel
theorem dL_bid_9 : decode cL_bid 9 = .ok (.goto 6, 3) := by decide +kernel
theorem dL_bid_12 : decode cL_bid 12 = .ok (.astore_n 3, 1) := by decide +kernel
theorem dL_bid_13 : decode cL_bid 13 = .ok (.iconst 1, 1) := by decide +kernel
theorem dL_bid_14 : decode cL_bid 14 = .ok (.ireturn, 1) := by decide +kernel
theorem dL_bid_15 : decode cL_bid 15 = .ok (.iconst 0, 1) := by decide +kernel
theorem dL_bid_16 : decode cL_bid 16 = .ok (.ireturn, 1) := by decide +kernel
set_option maxRecDepth 20000 in
theorem ggL_displaced_X5_displaced : GoodIn wsL_displaced wsX5_displaced := goodIn_ca (goodIn_ca (goodIn_r _ [7, 8, 9, 10, 11, 12, 13, 6, 14, 15, 16, 17, 18, 19, 20, 21, 22, 23, 24, 25, 26, 27, 28, 29, 30, 31, 32, 33, 34, 35, 36, 37, 38, 39, 40, 41, 42, 43, 44, 45, 46, 47, 48, 49, 50, 51, 52, 53, 54, 55, 56, 57, 58, 59, 60, 61, 62, 63, 64, 65, 66, 67, 68, 69, 70, 71, 72, 73, 74, 75, 76, 77, 78, 79, 80, 81, 82, 83, 84, 85, 86, 87, 88, 89, 90, 91, 92, 93, 94, 95, 96, 97, 98, 99, 100, 101, 102, 103, 104, 105, 106, 107, 108, 109, 110, 111, 112, 113, 114, 115, 116, 117, 118, 119, 120, 121, 122, 123, 124, 125, 126, 127, 128, 129, 130, 131, 132, 133, 134, 135, 136, 137, 138, 139, 140, 141, 142, 143, 144] (by decide +kernel) (by decide +kernel)) (goodIn_sub (fun _ h => List.mem_cons_of_mem _ (List.mem_append_left _ (List.mem_append_right _ h))) (by decide +kernel))) (goodIn_sub (fun _ h => List.mem_cons_of_mem _ (List.mem_append_right _ h)) (by decide +kernel))
set_option maxRecDepth 20000 in
theorem gL_displaced_X5_displaced : GoodIn wsL_displaced (wsV RL 56 RX5 yX5_displaced wsX5_displaced) := goodIn_app (goodIn_of _ (by decide +kernel)) ggL_displaced_X5_displaced
theorem dL_displaced_0 : decode cL_displaced 0 = .ok (.aload 4, 2) := by decide +kernel
theorem dL_displaced_2 : decode cL_displaced 2 = .ok (.iconst 0, 1) := by decide +kernel
theorem dL_displaced_3 : decode cL_displaced 3 = .ok (.aload_n 0, 1) := by decide +kernel
theorem dL_displaced_4 : decode cL_displaced 4 = .ok (.iload_n 1, 1) := by decide +kernel
theorem dL_displaced_5 : decode cL_displaced 5 = .ok (.iload_n 2, 1) := by decide +kernel
theorem dL_displaced_6 : decode cL_displaced 6 = .ok (.iload_n 3, 1) := by decide +kernel
theorem dL_displaced_7 : decode cL_displaced 7 = .ok (.invokevirtual 56, 3) := by decide +kernel
theorem dL_displaced_10 : decode cL_displaced 10 = .ok (.i2l, 1) := by decide +kernel
theorem dL_displaced_11 : decode cL_displaced 11 = .ok (.lastore, 1) := by decide +kernel
theorem dL_displaced_12 : decode cL_displaced 12 = .ok (.goto 11, 3) := by decide +kernel
theorem dL_displaced_15 : decode cL_displaced 15 = .ok (.astore 5, 2) := by decide +kernel
theorem dL_displaced_17 : decode cL_displaced 17 = .ok (.iconst 1, 1) := by decide +kernel
theorem dL_displaced_18 : decode cL_displaced 18 = .ok (.ireturn, 1) := by decide +kernel
theorem dL_displaced_19 : decode cL_displaced 19 = .ok (.astore 5, 2) := by decide +kernel
theorem dL_displaced_21 : decode cL_displaced 21 = .ok (.iconst 2, 1) := by decide +kernel
theorem dL_displaced_22 : decode cL_displaced 22 = .ok (.ireturn, 1) := by decide +kernel
theorem dL_displaced_23 : decode cL_displaced 23 = .ok (.iconst 0, 1) := by decide +kernel
theorem dL_displaced_24 : decode cL_displaced 24 = .ok (.ireturn, 1) := by decide +kernel
set_option maxRecDepth 20000 in
theorem ggL_expected_X5_expected : GoodIn wsL_expected wsX5_expected := goodIn_ca (goodIn_r _ [6, 7, 8, 9, 10, 11, 5, 12, 13, 14, 15, 16, 17, 18, 19, 20, 21, 22, 23, 24, 25, 26, 27, 28, 29, 30, 31, 32, 33, 34] (by decide +kernel) (by decide +kernel)) (goodIn_sub (fun _ h => List.mem_cons_of_mem _ (List.mem_append_right _ h)) (by decide +kernel))
set_option maxRecDepth 20000 in
theorem gL_expected_X5_expected : GoodIn wsL_expected (wsV RL 59 RX5 yX5_expected wsX5_expected) := goodIn_app (goodIn_of _ (by decide +kernel)) ggL_expected_X5_expected
theorem dL_expected_0 : decode cL_expected 0 = .ok (.aload_n 2, 1) := by decide +kernel
theorem dL_expected_1 : decode cL_expected 1 = .ok (.iconst 0, 1) := by decide +kernel
theorem dL_expected_2 : decode cL_expected 2 = .ok (.aload_n 0, 1) := by decide +kernel
theorem dL_expected_3 : decode cL_expected 3 = .ok (.iload_n 1, 1) := by decide +kernel
theorem dL_expected_4 : decode cL_expected 4 = .ok (.invokevirtual 59, 3) := by decide +kernel
theorem dL_expected_7 : decode cL_expected 7 = .ok (.i2l, 1) := by decide +kernel
theorem dL_expected_8 : decode cL_expected 8 = .ok (.lastore, 1) := by decide +kernel
theorem dL_expected_9 : decode cL_expected 9 = .ok (.goto 6, 3) := by decide +kernel
theorem dL_expected_12 : decode cL_expected 12 = .ok (.astore_n 3, 1) := by decide +kernel
theorem dL_expected_13 : decode cL_expected 13 = .ok (.iconst 1, 1) := by decide +kernel
theorem dL_expected_14 : decode cL_expected 14 = .ok (.ireturn, 1) := by decide +kernel
theorem dL_expected_15 : decode cL_expected 15 = .ok (.iconst 0, 1) := by decide +kernel
theorem dL_expected_16 : decode cL_expected 16 = .ok (.ireturn, 1) := by decide +kernel
set_option maxRecDepth 20000 in
theorem ggL_average_X5_average : GoodIn wsL_average wsX5_average := goodIn_ca (goodIn_r _ [6, 7, 8, 9, 10, 11, 12, 5, 13, 14, 15, 16, 17, 18, 19, 20, 21, 22, 23, 24, 25, 26, 27, 28, 29, 30, 31, 32, 33, 34, 35] (by decide +kernel) (by decide +kernel)) (goodIn_sub (fun _ h => List.mem_cons_of_mem _ (List.mem_append_right _ h)) (by decide +kernel))
set_option maxRecDepth 20000 in
theorem gL_average_X5_average : GoodIn wsL_average (wsV RL 62 RX5 yX5_average wsX5_average) := goodIn_app (goodIn_of _ (by decide +kernel)) ggL_average_X5_average
theorem dL_average_0 : decode cL_average 0 = .ok (.aload_n 2, 1) := by decide +kernel
theorem dL_average_1 : decode cL_average 1 = .ok (.iconst 0, 1) := by decide +kernel
theorem dL_average_2 : decode cL_average 2 = .ok (.aload_n 0, 1) := by decide +kernel
theorem dL_average_3 : decode cL_average 3 = .ok (.iload_n 1, 1) := by decide +kernel
theorem dL_average_4 : decode cL_average 4 = .ok (.invokevirtual 62, 3) := by decide +kernel
theorem dL_average_7 : decode cL_average 7 = .ok (.f2d, 1) := by decide +kernel
theorem dL_average_8 : decode cL_average 8 = .ok (.dastore, 1) := by decide +kernel
theorem dL_average_9 : decode cL_average 9 = .ok (.goto 6, 3) := by decide +kernel
theorem dL_average_12 : decode cL_average 12 = .ok (.astore_n 3, 1) := by decide +kernel
theorem dL_average_13 : decode cL_average 13 = .ok (.iconst 1, 1) := by decide +kernel
theorem dL_average_14 : decode cL_average 14 = .ok (.ireturn, 1) := by decide +kernel
theorem dL_average_15 : decode cL_average 15 = .ok (.iconst 0, 1) := by decide +kernel
theorem dL_average_16 : decode cL_average 16 = .ok (.ireturn, 1) := by decide +kernel
set_option maxRecDepth 20000 in
theorem ggL_asked_X5_asked : GoodIn wsL_asked wsX5_asked := goodIn_ca (goodIn_r _ [6, 7, 8, 9, 10, 11, 5, 12, 13, 14, 15, 16, 17, 18, 19, 20, 21, 22, 23, 24, 25, 26, 27, 28, 29, 30, 31, 32, 33, 34] (by decide +kernel) (by decide +kernel)) (goodIn_sub (fun _ h => List.mem_cons_of_mem _ (List.mem_append_right _ h)) (by decide +kernel))
set_option maxRecDepth 20000 in
theorem gL_asked_X5_asked : GoodIn wsL_asked (wsV RL 66 RX5 yX5_asked wsX5_asked) := goodIn_app (goodIn_of _ (by decide +kernel)) ggL_asked_X5_asked
theorem dL_asked_0 : decode cL_asked 0 = .ok (.aload_n 2, 1) := by decide +kernel
theorem dL_asked_1 : decode cL_asked 1 = .ok (.iconst 0, 1) := by decide +kernel
theorem dL_asked_2 : decode cL_asked 2 = .ok (.aload_n 0, 1) := by decide +kernel
theorem dL_asked_3 : decode cL_asked 3 = .ok (.iload_n 1, 1) := by decide +kernel
theorem dL_asked_4 : decode cL_asked 4 = .ok (.invokevirtual 66, 3) := by decide +kernel
theorem dL_asked_7 : decode cL_asked 7 = .ok (.i2l, 1) := by decide +kernel
theorem dL_asked_8 : decode cL_asked 8 = .ok (.lastore, 1) := by decide +kernel
theorem dL_asked_9 : decode cL_asked 9 = .ok (.goto 6, 3) := by decide +kernel
theorem dL_asked_12 : decode cL_asked 12 = .ok (.astore_n 3, 1) := by decide +kernel
theorem dL_asked_13 : decode cL_asked 13 = .ok (.iconst 1, 1) := by decide +kernel
theorem dL_asked_14 : decode cL_asked 14 = .ok (.ireturn, 1) := by decide +kernel
theorem dL_asked_15 : decode cL_asked 15 = .ok (.iconst 0, 1) := by decide +kernel
theorem dL_asked_16 : decode cL_asked 16 = .ok (.ireturn, 1) := by decide +kernel
set_option maxRecDepth 20000 in
theorem ggL_refused_X5_refused : GoodIn wsL_refused wsX5_refused := goodIn_ca (goodIn_r _ [6, 7, 8, 9, 10, 11, 12, 13, 14, 15, 16, 17, 18, 19, 20, 21, 22, 23, 24, 25] (by decide +kernel) (by decide +kernel)) (goodIn_sub (fun _ h => List.mem_cons_of_mem _ (List.mem_append_right _ h)) (by decide +kernel))
set_option maxRecDepth 20000 in
theorem gL_refused_X5_refused : GoodIn wsL_refused (wsV RL 69 RX5 yX5_refused wsX5_refused) := goodIn_app (goodIn_of _ (by decide +kernel)) ggL_refused_X5_refused
theorem dL_refused_0 : decode cL_refused 0 = .ok (.aload_n 2, 1) := by decide +kernel
theorem dL_refused_1 : decode cL_refused 1 = .ok (.iconst 0, 1) := by decide +kernel
theorem dL_refused_2 : decode cL_refused 2 = .ok (.aload_n 0, 1) := by decide +kernel
theorem dL_refused_3 : decode cL_refused 3 = .ok (.iload_n 1, 1) := by decide +kernel
theorem dL_refused_4 : decode cL_refused 4 = .ok (.invokevirtual 69, 3) := by decide +kernel
theorem dL_refused_7 : decode cL_refused 7 = .ok (.i2l, 1) := by decide +kernel
theorem dL_refused_8 : decode cL_refused 8 = .ok (.lastore, 1) := by decide +kernel
theorem dL_refused_9 : decode cL_refused 9 = .ok (.goto 6, 3) := by decide +kernel
theorem dL_refused_12 : decode cL_refused 12 = .ok (.astore_n 3, 1) := by decide +kernel
theorem dL_refused_13 : decode cL_refused 13 = .ok (.iconst 1, 1) := by decide +kernel
theorem dL_refused_14 : decode cL_refused 14 = .ok (.ireturn, 1) := by decide +kernel
theorem dL_refused_15 : decode cL_refused 15 = .ok (.iconst 0, 1) := by decide +kernel
theorem dL_refused_16 : decode cL_refused 16 = .ok (.ireturn, 1) := by decide +kernel
set_option maxRecDepth 20000 in
theorem ggL_law_X5_init : GoodIn wsL_law wsX5_init := goodIn_r _ [10, 11, 12, 13, 14, 15, 16, 17, 18, 19, 20, 21, 22, 23, 24, 25, 26, 27, 28, 29, 30, 31, 32, 33, 34, 35, 36, 37, 38, 39, 40, 41, 42, 43, 44, 45, 46, 47, 48, 49, 50, 51, 52, 53, 54, 55, 56, 57, 599, 600, 601, 602, 603, 604, 605, 606, 607, 608, 609, 610, 611, 612, 635, 636, 637, 638, 639, 640, 641, 642, 643] (by decide +kernel) (by decide +kernel)
set_option maxRecDepth 20000 in
theorem gL_law_X5_init : GoodIn wsL_law (wsX5_init) := ggL_law_X5_init
set_option maxRecDepth 20000 in
theorem ggL_law_X6_init : GoodIn wsL_law wsX6_init := goodIn_r _ [60, 61, 12, 13, 14, 62, 63, 64, 65, 66, 67, 68, 6, 69, 70, 71, 72, 73, 74, 75, 76, 77, 78, 79, 613, 614, 615, 616, 617, 618, 619, 620, 621, 622, 623, 624, 625, 626, 627, 628, 629, 630, 631, 632, 633, 634] (by decide +kernel) (by decide +kernel)
set_option maxRecDepth 20000 in
theorem gL_law_X6_init : GoodIn wsL_law (wsX6_init) := ggL_law_X6_init
set_option maxRecDepth 20000 in
theorem ggL_law_L_setSeats : GoodIn wsL_law wsL_setSeats := goodIn_ca (goodIn_r _ [83, 84, 85, 86, 87, 2, 88, 89, 90, 91, 92, 93, 94, 95, 96, 97, 15, 599, 600, 601, 602, 603, 604, 605, 606, 607, 608, 609, 610, 611, 612] (by decide +kernel) (by decide +kernel)) (goodIn_sub (fun _ h => List.mem_append_left _ (List.mem_append_left _ (List.mem_append_right _ h))) (by decide +kernel))
set_option maxRecDepth 20000 in
theorem gL_law_L_setSeats : GoodIn wsL_law (va_wsS RL 76 yL_setSeats wsL_setSeats) := goodIn_app (goodIn_of _ (by decide +kernel)) ggL_law_L_setSeats
set_option maxRecDepth 20000 in
theorem ggL_law_X6_setSeats : GoodIn wsL_law wsX6_setSeats := goodIn_r _ [101, 62, 102, 103, 5, 104, 105, 106, 107, 108, 109, 110, 111, 112, 613, 614, 615, 616, 617, 618, 619, 620, 621, 622, 623, 624, 625, 626, 627, 628, 629, 630, 631, 632, 633, 634] (by decide +kernel) (by decide +kernel)
set_option maxRecDepth 20000 in
theorem gL_law_X6_setSeats : GoodIn wsL_law (wsV RL 81 RX6 yX6_setSeats wsX6_setSeats) := goodIn_app (goodIn_of _ (by decide +kernel)) ggL_law_X6_setSeats
set_option maxRecDepth 20000 in
theorem ggL_law_X6_thrown : GoodIn wsL_law wsX6_thrown := goodIn_r _ [116, 112, 613, 614, 615, 616, 617, 618, 619, 620, 621, 622, 623, 624, 625, 626, 627, 628, 629, 630, 631, 632, 633, 634] (by decide +kernel) (by decide +kernel)
set_option maxRecDepth 20000 in
theorem gL_law_X6_thrown : GoodIn wsL_law (wsV RL 82 RX6 yX6_thrown wsX6_thrown) := goodIn_app (goodIn_of _ (by decide +kernel)) ggL_law_X6_thrown
set_option maxRecDepth 20000 in
theorem ggL_law_L_addProduct : GoodIn wsL_law wsL_addProduct := goodIn_ca (goodIn_ca (goodIn_ca (goodIn_r _ [119, 120, 84, 121, 122, 123, 124, 2, 125, 126, 127, 89, 90, 128, 129, 29, 16, 130, 131, 31, 132, 133, 134, 91, 92, 93, 135, 136, 137, 138, 17, 139, 140, 141, 12, 13, 14, 142, 143, 144, 145, 146, 147, 148, 149, 150, 151, 152, 18, 599, 600, 601, 602, 603, 604, 605, 606, 607, 608, 609, 610, 611, 612, 644, 645, 646, 647, 648, 649, 650] (by decide +kernel) (by decide +kernel)) (goodIn_sub (fun _ h => List.mem_append_left _ (List.mem_append_right _ h)) (by decide +kernel))) (goodIn_sub (fun _ h => List.mem_append_left _ (List.mem_append_left _ (List.mem_append_right _ h))) (by decide +kernel))) (goodIn_sub (fun _ h => List.mem_append_right _ h) (by decide +kernel))
set_option maxRecDepth 20000 in
theorem gL_law_L_addProduct : GoodIn wsL_law (va_wsS RL 86 yL_addProduct wsL_addProduct) := goodIn_app (goodIn_of _ (by decide +kernel)) ggL_law_L_addProduct
set_option maxRecDepth 20000 in
theorem ggL_law_X6_addProduct : GoodIn wsL_law wsX6_addProduct := goodIn_r _ [156, 157, 64, 65, 66, 70, 158, 159, 160, 5, 161, 105, 106, 107, 108, 109, 110, 111, 112, 613, 614, 615, 616, 617, 618, 619, 620, 621, 622, 623, 624, 625, 626, 627, 628, 629, 630, 631, 632, 633, 634] (by decide +kernel) (by decide +kernel)
set_option maxRecDepth 20000 in
theorem gL_law_X6_addProduct : GoodIn wsL_law (wsV RL 89 RX6 yX6_addProduct wsX6_addProduct) := goodIn_app (goodIn_of _ (by decide +kernel)) ggL_law_X6_addProduct
set_option maxRecDepth 20000 in
theorem ggL_law_L_setExpected : GoodIn wsL_law wsL_setExpected := goodIn_ca (goodIn_ca (goodIn_r _ [164, 120, 84, 165, 166, 167, 2, 168, 126, 127, 89, 90, 169, 170, 171, 172, 17, 91, 92, 93, 644, 645, 646, 647, 648, 649, 650, 599, 600, 601, 602, 603, 604, 605, 606, 607, 608, 609, 610, 611, 612] (by decide +kernel) (by decide +kernel)) (goodIn_sub (fun _ h => List.mem_append_left _ (List.mem_append_right _ h)) (by decide +kernel))) (goodIn_sub (fun _ h => List.mem_append_left _ (List.mem_append_left _ (List.mem_append_right _ h))) (by decide +kernel))
set_option maxRecDepth 20000 in
theorem gL_law_L_setExpected : GoodIn wsL_law (va_wsS RL 90 yL_setExpected wsL_setExpected) := goodIn_app (goodIn_of _ (by decide +kernel)) ggL_law_L_setExpected
set_option maxRecDepth 20000 in
theorem ggL_law_X6_setExpected : GoodIn wsL_law wsX6_setExpected := goodIn_r _ [176, 67, 177, 178, 179, 5, 180, 157, 105, 106, 107, 108, 109, 110, 111, 112, 613, 614, 615, 616, 617, 618, 619, 620, 621, 622, 623, 624, 625, 626, 627, 628, 629, 630, 631, 632, 633, 634] (by decide +kernel) (by decide +kernel)
set_option maxRecDepth 20000 in
theorem gL_law_X6_setExpected : GoodIn wsL_law (wsV RL 93 RX6 yX6_setExpected wsX6_setExpected) := goodIn_app (goodIn_of _ (by decide +kernel)) ggL_law_X6_setExpected
set_option maxRecDepth 20000 in
theorem ggL_law_L_setRate : GoodIn wsL_law wsL_setRate := goodIn_ca (goodIn_r _ [183, 84, 184, 185, 186, 2, 187, 89, 90, 32, 91, 92, 93, 599, 600, 601, 602, 603, 604, 605, 606, 607, 608, 609, 610, 611, 612] (by decide +kernel) (by decide +kernel)) (goodIn_sub (fun _ h => List.mem_append_left _ (List.mem_append_left _ (List.mem_append_right _ h))) (by decide +kernel))
set_option maxRecDepth 20000 in
theorem gL_law_L_setRate : GoodIn wsL_law (va_wsS RL 94 yL_setRate wsL_setRate) := goodIn_app (goodIn_of _ (by decide +kernel)) ggL_law_L_setRate
set_option maxRecDepth 20000 in
theorem ggL_law_X6_setRate : GoodIn wsL_law wsX6_setRate := goodIn_r _ [191, 71, 105, 106, 5, 107, 108, 109, 110, 111, 112, 613, 614, 615, 616, 617, 618, 619, 620, 621, 622, 623, 624, 625, 626, 627, 628, 629, 630, 631, 632, 633, 634] (by decide +kernel) (by decide +kernel)
set_option maxRecDepth 20000 in
theorem gL_law_X6_setRate : GoodIn wsL_law (wsV RL 97 RX6 yX6_setRate wsX6_setRate) := goodIn_app (goodIn_of _ (by decide +kernel)) ggL_law_X6_setRate
set_option maxRecDepth 20000 in
theorem ggL_law_L_ask : GoodIn wsL_law wsL_ask := goodIn_ca (goodIn_ca (goodIn_r _ [194, 120, 121, 195, 196, 197, 2, 198, 126, 127, 128, 129, 30, 19, 199, 200, 169, 170, 171, 172, 17, 201, 202, 203, 204, 205, 206, 207, 208, 209, 210, 211, 212, 20, 213, 214, 215, 216, 217, 218, 219, 220, 221, 222, 223, 32, 224, 225, 226, 227, 15, 228, 229, 230, 231, 33, 34, 35, 232, 233, 234, 235, 236, 237, 238, 239, 31, 240, 131, 241, 242, 146, 147, 243, 244, 245, 142, 148, 246, 247, 248, 249, 250, 251, 252, 253, 24, 18, 254, 23, 255, 256, 43, 44, 45, 46, 47, 48, 257, 258, 259, 260, 261, 262, 263, 264, 265, 266, 143, 144, 267, 268, 269, 270, 271, 42, 272, 273, 53, 52, 274, 275, 276, 277, 278, 91, 92, 93, 279, 280, 281, 282, 283, 284, 285, 286, 287, 288, 289, 290, 291, 292, 293, 294, 295, 296, 297, 298, 299, 12, 13, 300, 301, 302, 303, 304, 599, 600, 601, 602, 603, 604, 605, 606, 607, 608, 609, 610, 611, 612, 644, 645, 646, 647, 648, 649, 650, 651, 652, 653, 654, 655, 635, 636, 637, 638, 639, 640, 642, 643] (by decide +kernel) (by decide +kernel)) (goodIn_sub (fun _ h => List.mem_append_left _ (List.mem_append_right _ h)) (by decide +kernel))) (goodIn_sub (fun _ h => List.mem_append_right _ h) (by decide +kernel))
set_option maxRecDepth 20000 in
theorem gL_law_L_ask : GoodIn wsL_law (va_wsS RL 98 yL_ask wsL_ask) := goodIn_app (goodIn_of _ (by decide +kernel)) ggL_law_L_ask
set_option maxRecDepth 20000 in
theorem ggL_law_X6_ask : GoodIn wsL_law wsX6_ask := goodIn_r _ [308, 309, 68, 64, 65, 63, 66, 177, 178, 179, 5, 180, 157, 105, 106, 107, 108, 109, 110, 111, 112, 310, 311, 312, 313, 79, 67, 314, 315, 316, 317, 318, 319, 320, 321, 322, 323, 324, 62, 71, 325, 326, 327, 328, 158, 70, 329, 330, 331, 332, 333, 334, 335, 336, 337, 338, 339, 340, 341, 342, 343, 344, 78, 345, 346, 347, 348, 72, 73, 74, 75, 77, 613, 614, 615, 616, 617, 618, 619, 620, 621, 622, 623, 624, 625, 626, 627, 628, 629, 630, 631, 632, 633, 634] (by decide +kernel) (by decide +kernel)
set_option maxRecDepth 20000 in
theorem gL_law_X6_ask : GoodIn wsL_law (wsV RL 100 RX6 yX6_ask wsX6_ask) := goodIn_app (goodIn_of _ (by decide +kernel)) ggL_law_X6_ask
set_option maxRecDepth 20000 in
theorem ggL_law_L_group : GoodIn wsL_law wsL_group := goodIn_ca (goodIn_ca (goodIn_ca (goodIn_r _ [351, 120, 84, 121, 352, 353, 354, 2, 355, 126, 127, 89, 90, 128, 129, 30, 19, 199, 200, 132, 133, 134, 91, 92, 93, 356, 357, 358, 359, 274, 275, 276, 277, 278, 268, 269, 270, 224, 225, 226, 227, 15, 205, 206, 207, 208, 209, 210, 211, 212, 20, 213, 214, 215, 216, 217, 218, 219, 228, 229, 230, 231, 33, 34, 35, 360, 361, 362, 363, 250, 251, 252, 253, 24, 18, 254, 23, 255, 256, 43, 44, 45, 46, 47, 48, 257, 258, 259, 260, 261, 262, 263, 264, 131, 265, 266, 143, 144, 267, 271, 42, 272, 273, 53, 52, 279, 280, 281, 282, 283, 284, 285, 286, 287, 288, 289, 290, 291, 292, 293, 294, 295, 296, 297, 298, 299, 12, 13, 300, 301, 302, 303, 304, 599, 600, 601, 602, 603, 604, 605, 606, 607, 608, 609, 610, 611, 612, 651, 652, 653, 654, 655, 635, 636, 637, 638, 639, 640, 642, 643, 644, 645, 646, 647, 648, 649, 650] (by decide +kernel) (by decide +kernel)) (goodIn_sub (fun _ h => List.mem_append_left _ (List.mem_append_right _ h)) (by decide +kernel))) (goodIn_sub (fun _ h => List.mem_append_left _ (List.mem_append_left _ (List.mem_append_right _ h))) (by decide +kernel))) (goodIn_sub (fun _ h => List.mem_append_right _ h) (by decide +kernel))
set_option maxRecDepth 20000 in
theorem gL_law_L_group : GoodIn wsL_law (va_wsS RL 101 yL_group wsL_group) := goodIn_app (goodIn_of _ (by decide +kernel)) ggL_law_L_group
set_option maxRecDepth 20000 in
theorem ggL_law_X6_group : GoodIn wsL_law wsX6_group := goodIn_r _ [367, 309, 159, 160, 5, 161, 105, 106, 107, 108, 109, 110, 111, 112, 368, 369, 370, 371, 337, 338, 339, 340, 62, 63, 341, 342, 343, 344, 78, 310, 311, 312, 313, 79, 157, 67, 68, 314, 315, 316, 317, 64, 65, 66, 318, 319, 320, 372, 373, 374, 375, 333, 334, 335, 336, 345, 346, 347, 348, 72, 73, 74, 75, 77, 613, 614, 615, 616, 617, 618, 619, 620, 621, 622, 623, 624, 625, 626, 627, 628, 629, 630, 631, 632, 633, 634] (by decide +kernel) (by decide +kernel)
set_option maxRecDepth 20000 in
theorem gL_law_X6_group : GoodIn wsL_law (wsV RL 104 RX6 yX6_group wsX6_group) := goodIn_app (goodIn_of _ (by decide +kernel)) ggL_law_X6_group
set_option maxRecDepth 20000 in
theorem ggL_law_L_cancel : GoodIn wsL_law wsL_cancel := goodIn_ca (goodIn_ca (goodIn_r _ [378, 120, 121, 379, 380, 381, 2, 382, 126, 127, 128, 129, 209, 210, 211, 212, 30, 20, 651, 652, 653, 654, 655, 599, 600, 601, 602, 603, 604, 605, 606, 607, 608, 609, 610, 611, 612] (by decide +kernel) (by decide +kernel)) (goodIn_sub (fun _ h => List.mem_append_left _ (List.mem_append_right _ h)) (by decide +kernel))) (goodIn_sub (fun _ h => List.mem_append_right _ h) (by decide +kernel))
set_option maxRecDepth 20000 in
theorem gL_law_L_cancel : GoodIn wsL_law (va_wsS RL 105 yL_cancel wsL_cancel) := goodIn_app (goodIn_of _ (by decide +kernel)) ggL_law_L_cancel
set_option maxRecDepth 20000 in
theorem ggL_law_X6_cancel : GoodIn wsL_law wsX6_cancel := goodIn_r _ [386, 309, 77, 72, 73, 63, 74, 105, 106, 5, 107, 108, 109, 110, 111, 112, 613, 614, 615, 616, 617, 618, 619, 620, 621, 622, 623, 624, 625, 626, 627, 628, 629, 630, 631, 632, 633, 634] (by decide +kernel) (by decide +kernel)
set_option maxRecDepth 20000 in
theorem gL_law_X6_cancel : GoodIn wsL_law (wsV RL 107 RX6 yX6_cancel wsX6_cancel) := goodIn_app (goodIn_of _ (by decide +kernel)) ggL_law_X6_cancel
set_option maxRecDepth 20000 in
theorem ggL_law_L_endDay : GoodIn wsL_law wsL_endDay := goodIn_ca (goodIn_r _ [389, 84, 390, 391, 392, 2, 393, 89, 90, 36, 30, 91, 92, 93, 394, 395, 396, 397, 278, 268, 269, 270, 205, 206, 207, 208, 209, 210, 211, 212, 20, 213, 200, 214, 215, 216, 217, 218, 219, 224, 225, 226, 227, 15, 398, 399, 400, 401, 402, 403, 404, 405, 31, 17, 406, 131, 407, 408, 144, 409, 283, 284, 142, 145, 143, 599, 600, 601, 602, 603, 604, 605, 606, 607, 608, 609, 610, 611, 612, 651, 652, 653, 654, 655, 644, 645, 646, 647, 648, 649, 650] (by decide +kernel) (by decide +kernel)) (goodIn_sub (fun _ h => List.mem_append_left _ (List.mem_append_left _ (List.mem_append_right _ h))) (by decide +kernel))
set_option maxRecDepth 20000 in
theorem gL_law_L_endDay : GoodIn wsL_law (va_wsS RL 108 yL_endDay wsL_endDay) := goodIn_app (goodIn_of _ (by decide +kernel)) ggL_law_L_endDay
set_option maxRecDepth 20000 in
theorem ggL_law_X6_endDay : GoodIn wsL_law wsX6_endDay := goodIn_r _ [413, 63, 62, 414, 309, 158, 157, 70, 68, 69, 67, 105, 106, 5, 107, 108, 109, 110, 111, 112, 415, 416, 417, 418, 77, 75, 613, 614, 615, 616, 617, 618, 619, 620, 621, 622, 623, 624, 625, 626, 627, 628, 629, 630, 631, 632, 633, 634] (by decide +kernel) (by decide +kernel)
set_option maxRecDepth 20000 in
theorem gL_law_X6_endDay : GoodIn wsL_law (wsV RL 110 RX6 yX6_endDay wsX6_endDay) := goodIn_app (goodIn_of _ (by decide +kernel)) ggL_law_X6_endDay
set_option maxRecDepth 20000 in
theorem ggL_law_X5_products : GoodIn wsL_law wsX5_products := goodIn_r _ [422, 29, 599, 600, 601, 602, 603, 604, 605, 606, 607, 608, 609, 610, 611, 612] (by decide +kernel) (by decide +kernel)
set_option maxRecDepth 20000 in
theorem gL_law_X5_products : GoodIn wsL_law (wsV RL 111 RX5 yX5_products wsX5_products) := goodIn_app (goodIn_of _ (by decide +kernel)) ggL_law_X5_products
set_option maxRecDepth 20000 in
theorem ggL_law_X6_products : GoodIn wsL_law wsX6_products := goodIn_r _ [426, 157, 427, 428, 429, 5, 430, 112, 613, 614, 615, 616, 617, 618, 619, 620, 621, 622, 623, 624, 625, 626, 627, 628, 629, 630, 631, 632, 633, 634] (by decide +kernel) (by decide +kernel)
set_option maxRecDepth 20000 in
theorem gL_law_X6_products : GoodIn wsL_law (wsV RL 114 RX6 yX6_products wsX6_products) := goodIn_app (goodIn_of _ (by decide +kernel)) ggL_law_X6_products
set_option maxRecDepth 20000 in
theorem ggL_law_X5_days : GoodIn wsL_law wsX5_days := goodIn_r _ [434, 31, 599, 600, 601, 602, 603, 604, 605, 606, 607, 608, 609, 610, 611, 612] (by decide +kernel) (by decide +kernel)
set_option maxRecDepth 20000 in
theorem gL_law_X5_days : GoodIn wsL_law (wsV RL 115 RX5 yX5_days wsX5_days) := goodIn_app (goodIn_of _ (by decide +kernel)) ggL_law_X5_days
set_option maxRecDepth 20000 in
theorem ggL_law_X6_days : GoodIn wsL_law wsX6_days := goodIn_r _ [438, 158, 427, 428, 429, 5, 430, 112, 613, 614, 615, 616, 617, 618, 619, 620, 621, 622, 623, 624, 625, 626, 627, 628, 629, 630, 631, 632, 633, 634] (by decide +kernel) (by decide +kernel)
set_option maxRecDepth 20000 in
theorem gL_law_X6_days : GoodIn wsL_law (wsV RL 118 RX6 yX6_days wsX6_days) := goodIn_app (goodIn_of _ (by decide +kernel)) ggL_law_X6_days
set_option maxRecDepth 20000 in
theorem ggL_law_L_booked : GoodIn wsL_law wsL_booked := goodIn_ca (goodIn_r _ [441, 120, 442, 443, 444, 2, 445, 126, 127, 132, 133, 134, 91, 92, 93, 205, 206, 207, 208, 30, 209, 210, 211, 212, 20, 213, 200, 214, 215, 216, 217, 218, 219, 599, 600, 601, 602, 603, 604, 605, 606, 607, 608, 609, 610, 611, 612, 651, 652, 653, 654, 655] (by decide +kernel) (by decide +kernel)) (goodIn_sub (fun _ h => List.mem_append_left _ (List.mem_append_right _ h)) (by decide +kernel))
set_option maxRecDepth 20000 in
theorem gL_law_L_booked : GoodIn wsL_law (va_wsS RL 119 yL_booked wsL_booked) := goodIn_app (goodIn_of _ (by decide +kernel)) ggL_law_L_booked
set_option maxRecDepth 20000 in
theorem ggL_law_X6_booked : GoodIn wsL_law wsX6_booked := goodIn_r _ [449, 63, 159, 160, 5, 161, 105, 106, 107, 108, 109, 110, 111, 112, 613, 614, 615, 616, 617, 618, 619, 620, 621, 622, 623, 624, 625, 626, 627, 628, 629, 630, 631, 632, 633, 634] (by decide +kernel) (by decide +kernel)
set_option maxRecDepth 20000 in
theorem gL_law_X6_booked : GoodIn wsL_law (wsV RL 121 RX6 yX6_booked wsX6_booked) := goodIn_app (goodIn_of _ (by decide +kernel)) ggL_law_X6_booked
set_option maxRecDepth 20000 in
theorem ggL_law_L_authorised : GoodIn wsL_law wsL_authorised := goodIn_ca (goodIn_r _ [452, 120, 453, 454, 455, 2, 456, 126, 127, 132, 133, 134, 91, 92, 93, 220, 221, 222, 223, 32, 224, 225, 226, 227, 15, 599, 600, 601, 602, 603, 604, 605, 606, 607, 608, 609, 610, 611, 612] (by decide +kernel) (by decide +kernel)) (goodIn_sub (fun _ h => List.mem_append_left _ (List.mem_append_right _ h)) (by decide +kernel))
set_option maxRecDepth 20000 in
theorem gL_law_L_authorised : GoodIn wsL_law (va_wsS RL 122 yL_authorised wsL_authorised) := goodIn_app (goodIn_of _ (by decide +kernel)) ggL_law_L_authorised
set_option maxRecDepth 20000 in
theorem ggL_law_X6_authorised : GoodIn wsL_law wsX6_authorised := goodIn_r _ [460, 159, 160, 5, 161, 105, 106, 107, 108, 109, 110, 111, 112, 321, 322, 323, 324, 62, 71, 613, 614, 615, 616, 617, 618, 619, 620, 621, 622, 623, 624, 625, 626, 627, 628, 629, 630, 631, 632, 633, 634] (by decide +kernel) (by decide +kernel)
set_option maxRecDepth 20000 in
theorem gL_law_X6_authorised : GoodIn wsL_law (wsV RL 124 RX6 yX6_authorised wsX6_authorised) := goodIn_app (goodIn_of _ (by decide +kernel)) ggL_law_X6_authorised
set_option maxRecDepth 20000 in
theorem ggL_law_L_protectedSeats : GoodIn wsL_law wsL_protectedSeats := goodIn_ca (goodIn_ca (goodIn_r _ [463, 120, 84, 464, 465, 466, 2, 467, 126, 127, 89, 90, 132, 133, 134, 91, 92, 93, 236, 237, 238, 239, 17, 31, 240, 131, 241, 242, 146, 147, 243, 244, 245, 142, 148, 599, 600, 601, 602, 603, 604, 605, 606, 607, 608, 609, 610, 611, 612, 644, 645, 646, 647, 648, 649, 650] (by decide +kernel) (by decide +kernel)) (goodIn_sub (fun _ h => List.mem_append_left _ (List.mem_append_right _ h)) (by decide +kernel))) (goodIn_sub (fun _ h => List.mem_append_left _ (List.mem_append_left _ (List.mem_append_right _ h))) (by decide +kernel))
set_option maxRecDepth 20000 in
theorem gL_law_L_protectedSeats : GoodIn wsL_law (va_wsS RL 125 yL_protectedSeats wsL_protectedSeats) := goodIn_app (goodIn_of _ (by decide +kernel)) ggL_law_L_protectedSeats
set_option maxRecDepth 20000 in
theorem ggL_law_X6_protectedSeats : GoodIn wsL_law wsX6_protectedSeats := goodIn_r _ [471, 159, 160, 5, 161, 105, 106, 107, 108, 109, 110, 111, 112, 325, 326, 327, 328, 157, 64, 65, 66, 158, 70, 613, 614, 615, 616, 617, 618, 619, 620, 621, 622, 623, 624, 625, 626, 627, 628, 629, 630, 631, 632, 633, 634] (by decide +kernel) (by decide +kernel)
set_option maxRecDepth 20000 in
theorem gL_law_X6_protectedSeats : GoodIn wsL_law (wsV RL 127 RX6 yX6_protectedSeats wsX6_protectedSeats) := goodIn_app (goodIn_of _ (by decide +kernel)) ggL_law_X6_protectedSeats
set_option maxRecDepth 20000 in
theorem ggL_law_X5_worth : GoodIn wsL_law wsX5_worth := goodIn_r _ [475, 250, 251, 252, 2, 253, 24, 18, 254, 23, 255, 256, 43, 44, 45, 46, 47, 48, 257, 258, 259, 260, 261, 262, 263, 264, 131, 265, 266, 143, 144, 267, 268, 269, 270, 271, 42, 272, 273, 53, 52, 274, 275, 276, 277, 278, 224, 225, 226, 227, 15, 205, 206, 207, 208, 30, 209, 210, 211, 212, 20, 213, 200, 214, 215, 216, 217, 218, 219, 91, 92, 93, 279, 280, 281, 282, 283, 284, 285, 286, 287, 288, 289, 290, 291, 292, 293, 294, 295, 296, 599, 600, 601, 602, 603, 604, 605, 606, 607, 608, 609, 610, 611, 612, 635, 636, 637, 638, 639, 640, 642, 643, 644, 645, 646, 647, 648, 649, 650, 651, 652, 653, 654, 655] (by decide +kernel) (by decide +kernel)
set_option maxRecDepth 20000 in
theorem gL_law_X5_worth : GoodIn wsL_law (wsV RL 128 RX5 yX5_worth wsX5_worth) := goodIn_app (goodIn_of _ (by decide +kernel)) ggL_law_X5_worth
set_option maxRecDepth 20000 in
theorem ggL_law_X6_worth : GoodIn wsL_law wsX6_worth := goodIn_r _ [479, 112, 310, 311, 312, 5, 313, 79, 157, 67, 68, 314, 315, 316, 317, 64, 65, 66, 105, 106, 107, 318, 319, 320, 333, 334, 335, 336, 337, 338, 339, 340, 62, 63, 613, 614, 615, 616, 617, 618, 619, 620, 621, 622, 623, 624, 625, 626, 627, 628, 629, 630, 631, 632, 633, 634] (by decide +kernel) (by decide +kernel)
set_option maxRecDepth 20000 in
theorem gL_law_X6_worth : GoodIn wsL_law (wsV RL 131 RX6 yX6_worth wsX6_worth) := goodIn_app (goodIn_of _ (by decide +kernel)) ggL_law_X6_worth
set_option maxRecDepth 20000 in
theorem ggL_law_X5_worthByTable : GoodIn wsL_law wsX5_worthByTable := goodIn_r _ [483, 28, 17, 274, 275, 276, 2, 277, 278, 268, 269, 270, 224, 225, 226, 227, 15, 205, 206, 207, 208, 30, 209, 210, 211, 212, 20, 213, 200, 214, 215, 216, 217, 218, 219, 484, 27, 485, 486, 57, 487, 488, 489, 490, 491, 492, 493, 494, 283, 284, 264, 131, 265, 266, 143, 144, 267, 495, 496, 497, 498, 240, 241, 242, 146, 147, 499, 500, 501, 502, 503, 504, 505, 506, 507, 508, 599, 600, 601, 602, 603, 604, 605, 606, 607, 608, 609, 610, 611, 612, 651, 652, 653, 654, 655, 641, 644, 645, 646, 647, 648, 649, 650] (by decide +kernel) (by decide +kernel)
set_option maxRecDepth 20000 in
theorem gL_law_X5_worthByTable : GoodIn wsL_law (wsV RL 132 RX5 yX5_worthByTable wsX5_worthByTable) := goodIn_app (goodIn_of _ (by decide +kernel)) ggL_law_X5_worthByTable
set_option maxRecDepth 20000 in
theorem ggL_law_X6_worthByTable : GoodIn wsL_law wsX6_worthByTable := goodIn_r _ [512, 112, 310, 311, 312, 5, 313, 79, 157, 67, 68, 314, 315, 316, 317, 64, 65, 66, 105, 106, 107, 318, 319, 320, 333, 334, 335, 336, 337, 338, 339, 340, 62, 63, 613, 614, 615, 616, 617, 618, 619, 620, 621, 622, 623, 624, 625, 626, 627, 628, 629, 630, 631, 632, 633, 634] (by decide +kernel) (by decide +kernel)
set_option maxRecDepth 20000 in
theorem gL_law_X6_worthByTable : GoodIn wsL_law (wsV RL 135 RX6 yX6_worthByTable wsX6_worthByTable) := goodIn_app (goodIn_of _ (by decide +kernel)) ggL_law_X6_worthByTable
set_option maxRecDepth 20000 in
theorem ggL_law_L_bid : GoodIn wsL_law wsL_bid := goodIn_ca (goodIn_r _ [515, 120, 516, 517, 518, 2, 519, 126, 127, 132, 133, 134, 91, 92, 93, 246, 247, 248, 249, 250, 251, 252, 253, 24, 18, 254, 23, 255, 256, 43, 44, 45, 46, 47, 48, 257, 258, 259, 260, 261, 262, 263, 264, 131, 265, 266, 143, 144, 267, 268, 269, 270, 271, 42, 272, 273, 53, 52, 274, 275, 276, 277, 278, 224, 225, 226, 227, 15, 205, 206, 207, 208, 30, 209, 210, 211, 212, 20, 213, 200, 214, 215, 216, 217, 218, 219, 279, 280, 281, 282, 283, 284, 285, 286, 287, 288, 289, 290, 291, 292, 293, 294, 295, 296, 599, 600, 601, 602, 603, 604, 605, 606, 607, 608, 609, 610, 611, 612, 635, 636, 637, 638, 639, 640, 642, 643, 644, 645, 646, 647, 648, 649, 650, 651, 652, 653, 654, 655] (by decide +kernel) (by decide +kernel)) (goodIn_sub (fun _ h => List.mem_append_left _ (List.mem_append_right _ h)) (by decide +kernel))
set_option maxRecDepth 20000 in
theorem gL_law_L_bid : GoodIn wsL_law (va_wsS RL 136 yL_bid wsL_bid) := goodIn_app (goodIn_of _ (by decide +kernel)) ggL_law_L_bid
set_option maxRecDepth 20000 in
theorem ggL_law_X6_bid : GoodIn wsL_law wsX6_bid := goodIn_r _ [523, 159, 160, 5, 161, 105, 106, 107, 108, 109, 110, 111, 112, 310, 311, 312, 313, 79, 157, 67, 68, 314, 315, 316, 317, 64, 65, 66, 318, 319, 320, 329, 330, 331, 332, 333, 334, 335, 336, 337, 338, 339, 340, 62, 63, 613, 614, 615, 616, 617, 618, 619, 620, 621, 622, 623, 624, 625, 626, 627, 628, 629, 630, 631, 632, 633, 634] (by decide +kernel) (by decide +kernel)
set_option maxRecDepth 20000 in
theorem gL_law_X6_bid : GoodIn wsL_law (wsV RL 138 RX6 yX6_bid wsX6_bid) := goodIn_app (goodIn_of _ (by decide +kernel)) ggL_law_X6_bid
set_option maxRecDepth 20000 in
theorem ggL_law_L_displaced : GoodIn wsL_law wsL_displaced := goodIn_ca (goodIn_ca (goodIn_r _ [526, 120, 84, 527, 528, 529, 2, 530, 126, 127, 89, 90, 132, 133, 134, 91, 92, 93, 356, 357, 358, 359, 274, 275, 276, 277, 278, 268, 269, 270, 224, 225, 226, 227, 15, 205, 206, 207, 208, 30, 209, 210, 211, 212, 20, 213, 200, 214, 215, 216, 217, 218, 219, 360, 361, 362, 363, 250, 251, 252, 253, 24, 18, 254, 23, 255, 256, 43, 44, 45, 46, 47, 48, 257, 258, 259, 260, 261, 262, 263, 264, 131, 265, 266, 143, 144, 267, 271, 42, 272, 273, 53, 52, 279, 280, 281, 282, 283, 284, 285, 286, 287, 288, 289, 290, 291, 292, 293, 294, 295, 296, 599, 600, 601, 602, 603, 604, 605, 606, 607, 608, 609, 610, 611, 612, 651, 652, 653, 654, 655, 635, 636, 637, 638, 639, 640, 642, 643, 644, 645, 646, 647, 648, 649, 650] (by decide +kernel) (by decide +kernel)) (goodIn_sub (fun _ h => List.mem_append_left _ (List.mem_append_right _ h)) (by decide +kernel))) (goodIn_sub (fun _ h => List.mem_append_left _ (List.mem_append_left _ (List.mem_append_right _ h))) (by decide +kernel))
set_option maxRecDepth 20000 in
theorem gL_law_L_displaced : GoodIn wsL_law (va_wsS RL 139 yL_displaced wsL_displaced) := goodIn_app (goodIn_of _ (by decide +kernel)) ggL_law_L_displaced
set_option maxRecDepth 20000 in
theorem ggL_law_X6_displaced : GoodIn wsL_law wsX6_displaced := goodIn_r _ [534, 159, 160, 5, 161, 105, 106, 107, 108, 109, 110, 111, 112, 368, 369, 370, 371, 337, 338, 339, 340, 62, 63, 310, 311, 312, 313, 79, 157, 67, 68, 314, 315, 316, 317, 64, 65, 66, 318, 319, 320, 372, 373, 374, 375, 333, 334, 335, 336, 613, 614, 615, 616, 617, 618, 619, 620, 621, 622, 623, 624, 625, 626, 627, 628, 629, 630, 631, 632, 633, 634] (by decide +kernel) (by decide +kernel)
set_option maxRecDepth 20000 in
theorem gL_law_X6_displaced : GoodIn wsL_law (wsV RL 141 RX6 yX6_displaced wsX6_displaced) := goodIn_app (goodIn_of _ (by decide +kernel)) ggL_law_X6_displaced
set_option maxRecDepth 20000 in
theorem ggL_law_L_expected : GoodIn wsL_law wsL_expected := goodIn_ca (goodIn_r _ [537, 120, 538, 539, 540, 2, 541, 126, 127, 169, 170, 171, 172, 17, 644, 645, 646, 647, 648, 649, 650, 599, 600, 601, 602, 603, 604, 605, 606, 607, 608, 609, 610, 611, 612] (by decide +kernel) (by decide +kernel)) (goodIn_sub (fun _ h => List.mem_append_left _ (List.mem_append_right _ h)) (by decide +kernel))
set_option maxRecDepth 20000 in
theorem gL_law_L_expected : GoodIn wsL_law (va_wsS RL 142 yL_expected wsL_expected) := goodIn_app (goodIn_of _ (by decide +kernel)) ggL_law_L_expected
set_option maxRecDepth 20000 in
theorem ggL_law_X6_expected : GoodIn wsL_law wsX6_expected := goodIn_r _ [545, 67, 546, 547, 548, 5, 549, 177, 178, 179, 180, 157, 105, 106, 107, 108, 109, 110, 111, 112, 613, 614, 615, 616, 617, 618, 619, 620, 621, 622, 623, 624, 625, 626, 627, 628, 629, 630, 631, 632, 633, 634] (by decide +kernel) (by decide +kernel)
set_option maxRecDepth 20000 in
theorem gL_law_X6_expected : GoodIn wsL_law (wsV RL 144 RX6 yX6_expected wsX6_expected) := goodIn_app (goodIn_of _ (by decide +kernel)) ggL_law_X6_expected
set_option maxRecDepth 20000 in
theorem ggL_law_L_average : GoodIn wsL_law wsL_average := goodIn_ca (goodIn_r _ [552, 120, 553, 554, 555, 2, 556, 126, 127, 31, 169, 170, 171, 172, 17, 599, 600, 601, 602, 603, 604, 605, 606, 607, 608, 609, 610, 611, 612, 644, 645, 646, 647, 648, 649, 650] (by decide +kernel) (by decide +kernel)) (goodIn_sub (fun _ h => List.mem_append_left _ (List.mem_append_right _ h)) (by decide +kernel))
set_option maxRecDepth 20000 in
theorem gL_law_L_average : GoodIn wsL_law (va_wsS RL 145 yL_average wsL_average) := goodIn_app (goodIn_of _ (by decide +kernel)) ggL_law_L_average
set_option maxRecDepth 20000 in
theorem ggL_law_X6_average : GoodIn wsL_law wsX6_average := goodIn_r _ [560, 158, 69, 177, 178, 179, 5, 180, 157, 105, 106, 107, 108, 109, 110, 111, 112, 613, 614, 615, 616, 617, 618, 619, 620, 621, 622, 623, 624, 625, 626, 627, 628, 629, 630, 631, 632, 633, 634] (by decide +kernel) (by decide +kernel)
set_option maxRecDepth 20000 in
theorem gL_law_X6_average : GoodIn wsL_law (wsV RL 148 RX6 yX6_average wsX6_average) := goodIn_app (goodIn_of _ (by decide +kernel)) ggL_law_X6_average
set_option maxRecDepth 20000 in
theorem ggL_law_L_asked : GoodIn wsL_law wsL_asked := goodIn_ca (goodIn_r _ [563, 120, 564, 565, 566, 2, 567, 126, 127, 169, 170, 171, 172, 17, 644, 645, 646, 647, 648, 649, 650, 599, 600, 601, 602, 603, 604, 605, 606, 607, 608, 609, 610, 611, 612] (by decide +kernel) (by decide +kernel)) (goodIn_sub (fun _ h => List.mem_append_left _ (List.mem_append_right _ h)) (by decide +kernel))
set_option maxRecDepth 20000 in
theorem gL_law_L_asked : GoodIn wsL_law (va_wsS RL 149 yL_asked wsL_asked) := goodIn_app (goodIn_of _ (by decide +kernel)) ggL_law_L_asked
set_option maxRecDepth 20000 in
theorem ggL_law_X6_asked : GoodIn wsL_law wsX6_asked := goodIn_r _ [571, 68, 546, 547, 548, 5, 549, 177, 178, 179, 180, 157, 105, 106, 107, 108, 109, 110, 111, 112, 613, 614, 615, 616, 617, 618, 619, 620, 621, 622, 623, 624, 625, 626, 627, 628, 629, 630, 631, 632, 633, 634] (by decide +kernel) (by decide +kernel)
set_option maxRecDepth 20000 in
theorem gL_law_X6_asked : GoodIn wsL_law (wsV RL 151 RX6 yX6_asked wsX6_asked) := goodIn_app (goodIn_of _ (by decide +kernel)) ggL_law_X6_asked
set_option maxRecDepth 20000 in
theorem ggL_law_L_refused : GoodIn wsL_law wsL_refused := goodIn_ca (goodIn_r _ [574, 84, 575, 576, 577, 2, 578, 89, 90, 33, 34, 35, 599, 600, 601, 602, 603, 604, 605, 606, 607, 608, 609, 610, 611, 612] (by decide +kernel) (by decide +kernel)) (goodIn_sub (fun _ h => List.mem_append_left _ (List.mem_append_left _ (List.mem_append_right _ h))) (by decide +kernel))
set_option maxRecDepth 20000 in
theorem gL_law_L_refused : GoodIn wsL_law (va_wsS RL 152 yL_refused wsL_refused) := goodIn_app (goodIn_of _ (by decide +kernel)) ggL_law_L_refused
set_option maxRecDepth 20000 in
theorem ggL_law_X6_refused : GoodIn wsL_law wsX6_refused := goodIn_r _ [582, 78, 105, 106, 5, 107, 108, 109, 110, 111, 112, 613, 614, 615, 616, 617, 618, 619, 620, 621, 622, 623, 624, 625, 626, 627, 628, 629, 630, 631, 632, 633, 634] (by decide +kernel) (by decide +kernel)
set_option maxRecDepth 20000 in
theorem gL_law_X6_refused : GoodIn wsL_law (wsV RL 154 RX6 yX6_refused wsX6_refused) := goodIn_app (goodIn_of _ (by decide +kernel)) ggL_law_X6_refused
set_option maxRecDepth 20000 in
theorem ggL_law_X5_revenue : GoodIn wsL_law wsX5_revenue := goodIn_r _ [586, 398, 399, 400, 2, 401, 30, 209, 210, 211, 212, 20, 599, 600, 601, 602, 603, 604, 605, 606, 607, 608, 609, 610, 611, 612, 651, 652, 653, 654, 655] (by decide +kernel) (by decide +kernel)
set_option maxRecDepth 20000 in
theorem gL_law_X5_revenue : GoodIn wsL_law (wsV RL 155 RX5 yX5_revenue wsX5_revenue) := goodIn_app (goodIn_of _ (by decide +kernel)) ggL_law_X5_revenue
set_option maxRecDepth 20000 in
theorem ggL_law_X6_revenue : GoodIn wsL_law wsX6_revenue := goodIn_r _ [590, 415, 416, 417, 5, 418, 309, 77, 75, 427, 428, 429, 430, 112, 613, 614, 615, 616, 617, 618, 619, 620, 621, 622, 623, 624, 625, 626, 627, 628, 629, 630, 631, 632, 633, 634] (by decide +kernel) (by decide +kernel)
set_option maxRecDepth 20000 in
theorem gL_law_X6_revenue : GoodIn wsL_law (wsV RL 158 RX6 yX6_revenue wsX6_revenue) := goodIn_app (goodIn_of _ (by decide +kernel)) ggL_law_X6_revenue
set_option maxRecDepth 20000 in
theorem ggL_law_X5_earned : GoodIn wsL_law wsX5_earned := goodIn_r _ [594, 36, 599, 600, 601, 602, 603, 604, 605, 606, 607, 608, 609, 610, 611, 612] (by decide +kernel) (by decide +kernel)
set_option maxRecDepth 20000 in
theorem gL_law_X5_earned : GoodIn wsL_law (wsV RL 159 RX5 yX5_earned wsX5_earned) := goodIn_app (goodIn_of _ (by decide +kernel)) ggL_law_X5_earned
set_option maxRecDepth 20000 in
theorem ggL_law_X6_earned : GoodIn wsL_law wsX6_earned := goodIn_r _ [598, 112, 414, 613, 614, 615, 616, 617, 618, 619, 620, 621, 622, 623, 624, 625, 626, 627, 628, 629, 630, 631, 632, 633, 634] (by decide +kernel) (by decide +kernel)
set_option maxRecDepth 20000 in
theorem gL_law_X6_earned : GoodIn wsL_law (wsV RL 163 RX6 yX6_earned wsX6_earned) := goodIn_app (goodIn_of _ (by decide +kernel)) ggL_law_X6_earned
theorem dL_law_0 : decode cL_law 0 = .ok (.new 8, 3) := by decide +kernel
theorem dL_law_3 : decode cL_law 3 = .ok (.dup, 1) := by decide +kernel
theorem dL_law_4 : decode cL_law 4 = .ok (.invokespecial 72, 3) := by decide +kernel
theorem dL_law_7 : decode cL_law 7 = .ok (.astore_n 1, 1) := by decide +kernel
theorem dL_law_8 : decode cL_law 8 = .ok (.new 73, 3) := by decide +kernel
theorem dL_law_11 : decode cL_law 11 = .ok (.dup, 1) := by decide +kernel
theorem dL_law_12 : decode cL_law 12 = .ok (.invokespecial 75, 3) := by decide +kernel
theorem dL_law_15 : decode cL_law 15 = .ok (.astore_n 2, 1) := by decide +kernel
theorem dL_law_16 : decode cL_law 16 = .ok (.iconst 1, 1) := by decide +kernel
theorem dL_law_17 : decode cL_law 17 = .ok (.newarray .long, 2) := by decide +kernel
theorem dL_law_19 : decode cL_law 19 = .ok (.astore_n 3, 1) := by decide +kernel
theorem dL_law_20 : decode cL_law 20 = .ok (.iconst 1, 1) := by decide +kernel
theorem dL_law_21 : decode cL_law 21 = .ok (.newarray .double, 2) := by decide +kernel
theorem dL_law_23 : decode cL_law 23 = .ok (.astore 4, 2) := by decide +kernel
theorem dL_law_25 : decode cL_law 25 = .ok (.iconst 0, 1) := by decide +kernel
theorem dL_law_26 : decode cL_law 26 = .ok (.istore 5, 2) := by decide +kernel
theorem dL_law_28 : decode cL_law 28 = .ok (.iload 5, 2) := by decide +kernel
theorem dL_law_30 : decode cL_law 30 = .ok (.aload_n 0, 1) := by decide +kernel
theorem dL_law_31 : decode cL_law 31 = .ok (.arraylength, 1) := by decide +kernel
theorem dL_law_32 : decode cL_law 32 = .ok (.iconst 5, 1) := by decide +kernel
theorem dL_law_33 : decode cL_law 33 = .ok (.isub, 1) := by decide +kernel
theorem dL_law_34 : decode cL_law 34 = .ok (.if_icmp .gt 1289, 3) := by decide +kernel
theorem dL_law_37 : decode cL_law 37 = .ok (.aload_n 0, 1) := by decide +kernel
theorem dL_law_38 : decode cL_law 38 = .ok (.iload 5, 2) := by decide +kernel
theorem dL_law_40 : decode cL_law 40 = .ok (.iaload, 1) := by decide +kernel
theorem dL_law_41 : decode cL_law 41 = .ok (.bipush 31, 2) := by decide +kernel
theorem dL_law_43 : decode cL_law 43 = .ok (.iand, 1) := by decide +kernel
theorem dL_law_44 : decode cL_law 44 = .ok (.tableswitch 1273 0 22 #[108, 168, 248, 316, 372, 428, 520, 576, 632, 645, 658, 714, 770, 838, 851, 864, 920, 1000, 1056, 1134, 1190, 1246, 1259], 108) := by decide +kernel
theorem dL_law_152 : decode cL_law 152 = .ok (.aload_n 1, 1) := by decide +kernel
theorem dL_law_153 : decode cL_law 153 = .ok (.aload_n 0, 1) := by decide +kernel
theorem dL_law_154 : decode cL_law 154 = .ok (.iload 5, 2) := by decide +kernel
theorem dL_law_156 : decode cL_law 156 = .ok (.iconst 1, 1) := by decide +kernel
theorem dL_law_157 : decode cL_law 157 = .ok (.iadd, 1) := by decide +kernel
theorem dL_law_158 : decode cL_law 158 = .ok (.iaload, 1) := by decide +kernel
theorem dL_law_159 : decode cL_law 159 = .ok (.aload_n 0, 1) := by decide +kernel
theorem dL_law_160 : decode cL_law 160 = .ok (.iload 5, 2) := by decide +kernel
theorem dL_law_162 : decode cL_law 162 = .ok (.iconst 2, 1) := by decide +kernel
theorem dL_law_163 : decode cL_law 163 = .ok (.iadd, 1) := by decide +kernel
theorem dL_law_164 : decode cL_law 164 = .ok (.iaload, 1) := by decide +kernel
theorem dL_law_165 : decode cL_law 165 = .ok (.aload_n 0, 1) := by decide +kernel
theorem dL_law_166 : decode cL_law 166 = .ok (.iload 5, 2) := by decide +kernel
theorem dL_law_168 : decode cL_law 168 = .ok (.iconst 3, 1) := by decide +kernel
theorem dL_law_169 : decode cL_law 169 = .ok (.iadd, 1) := by decide +kernel
theorem dL_law_170 : decode cL_law 170 = .ok (.iaload, 1) := by decide +kernel
theorem dL_law_171 : decode cL_law 171 = .ok (.invokestatic 76, 3) := by decide +kernel
theorem dL_law_174 : decode cL_law 174 = .ok (.istore 6, 2) := by decide +kernel
theorem dL_law_176 : decode cL_law 176 = .ok (.aload_n 2, 1) := by decide +kernel
theorem dL_law_177 : decode cL_law 177 = .ok (.aload_n 0, 1) := by decide +kernel
theorem dL_law_178 : decode cL_law 178 = .ok (.iload 5, 2) := by decide +kernel
theorem dL_law_180 : decode cL_law 180 = .ok (.iconst 1, 1) := by decide +kernel
theorem dL_law_181 : decode cL_law 181 = .ok (.iadd, 1) := by decide +kernel
theorem dL_law_182 : decode cL_law 182 = .ok (.iaload, 1) := by decide +kernel
theorem dL_law_183 : decode cL_law 183 = .ok (.aload_n 0, 1) := by decide +kernel
theorem dL_law_184 : decode cL_law 184 = .ok (.iload 5, 2) := by decide +kernel
theorem dL_law_186 : decode cL_law 186 = .ok (.iconst 2, 1) := by decide +kernel
theorem dL_law_187 : decode cL_law 187 = .ok (.iadd, 1) := by decide +kernel
theorem dL_law_188 : decode cL_law 188 = .ok (.iaload, 1) := by decide +kernel
theorem dL_law_189 : decode cL_law 189 = .ok (.aload_n 0, 1) := by decide +kernel
theorem dL_law_190 : decode cL_law 190 = .ok (.iload 5, 2) := by decide +kernel
theorem dL_law_192 : decode cL_law 192 = .ok (.iconst 3, 1) := by decide +kernel
theorem dL_law_193 : decode cL_law 193 = .ok (.iadd, 1) := by decide +kernel
theorem dL_law_194 : decode cL_law 194 = .ok (.iaload, 1) := by decide +kernel
theorem dL_law_195 : decode cL_law 195 = .ok (.invokevirtual 81, 3) := by decide +kernel
theorem dL_law_198 : decode cL_law 198 = .ok (.aload_n 2, 1) := by decide +kernel
theorem dL_law_199 : decode cL_law 199 = .ok (.invokevirtual 82, 3) := by decide +kernel
theorem dL_law_202 : decode cL_law 202 = .ok (.iload 6, 2) := by decide +kernel
theorem dL_law_204 : decode cL_law 204 = .ok (.if_icmp .eq 5, 3) := by decide +kernel
theorem dL_law_207 : decode cL_law 207 = .ok (.iconst 0, 1) := by decide +kernel
theorem dL_law_208 : decode cL_law 208 = .ok (.ireturn, 1) := by decide +kernel
theorem dL_law_209 : decode cL_law 209 = .ok (.goto 1108, 3) := by decide +kernel
theorem dL_law_212 : decode cL_law 212 = .ok (.aload_n 1, 1) := by decide +kernel
theorem dL_law_213 : decode cL_law 213 = .ok (.aload_n 0, 1) := by decide +kernel
theorem dL_law_214 : decode cL_law 214 = .ok (.iload 5, 2) := by decide +kernel
theorem dL_law_216 : decode cL_law 216 = .ok (.iconst 1, 1) := by decide +kernel
theorem dL_law_217 : decode cL_law 217 = .ok (.iadd, 1) := by decide +kernel
theorem dL_law_218 : decode cL_law 218 = .ok (.iaload, 1) := by decide +kernel
theorem dL_law_219 : decode cL_law 219 = .ok (.aload_n 0, 1) := by decide +kernel
theorem dL_law_220 : decode cL_law 220 = .ok (.iload 5, 2) := by decide +kernel
theorem dL_law_222 : decode cL_law 222 = .ok (.iconst 2, 1) := by decide +kernel
theorem dL_law_223 : decode cL_law 223 = .ok (.iadd, 1) := by decide +kernel
theorem dL_law_224 : decode cL_law 224 = .ok (.iaload, 1) := by decide +kernel
theorem dL_law_225 : decode cL_law 225 = .ok (.aload_n 0, 1) := by decide +kernel
theorem dL_law_226 : decode cL_law 226 = .ok (.iload 5, 2) := by decide +kernel
theorem dL_law_228 : decode cL_law 228 = .ok (.iconst 3, 1) := by decide +kernel
theorem dL_law_229 : decode cL_law 229 = .ok (.iadd, 1) := by decide +kernel
theorem dL_law_230 : decode cL_law 230 = .ok (.iaload, 1) := by decide +kernel
theorem dL_law_231 : decode cL_law 231 = .ok (.aload_n 3, 1) := by decide +kernel
theorem dL_law_232 : decode cL_law 232 = .ok (.invokestatic 86, 3) := by decide +kernel
theorem dL_law_235 : decode cL_law 235 = .ok (.istore 6, 2) := by decide +kernel
theorem dL_law_237 : decode cL_law 237 = .ok (.aload_n 2, 1) := by decide +kernel
theorem dL_law_238 : decode cL_law 238 = .ok (.aload_n 0, 1) := by decide +kernel
theorem dL_law_239 : decode cL_law 239 = .ok (.iload 5, 2) := by decide +kernel
theorem dL_law_241 : decode cL_law 241 = .ok (.iconst 1, 1) := by decide +kernel
theorem dL_law_242 : decode cL_law 242 = .ok (.iadd, 1) := by decide +kernel
theorem dL_law_243 : decode cL_law 243 = .ok (.iaload, 1) := by decide +kernel
theorem dL_law_244 : decode cL_law 244 = .ok (.aload_n 0, 1) := by decide +kernel
theorem dL_law_245 : decode cL_law 245 = .ok (.iload 5, 2) := by decide +kernel
theorem dL_law_247 : decode cL_law 247 = .ok (.iconst 2, 1) := by decide +kernel
theorem dL_law_248 : decode cL_law 248 = .ok (.iadd, 1) := by decide +kernel
theorem dL_law_249 : decode cL_law 249 = .ok (.iaload, 1) := by decide +kernel
theorem dL_law_250 : decode cL_law 250 = .ok (.aload_n 0, 1) := by decide +kernel
theorem dL_law_251 : decode cL_law 251 = .ok (.iload 5, 2) := by decide +kernel
theorem dL_law_253 : decode cL_law 253 = .ok (.iconst 3, 1) := by decide +kernel
theorem dL_law_254 : decode cL_law 254 = .ok (.iadd, 1) := by decide +kernel
theorem dL_law_255 : decode cL_law 255 = .ok (.iaload, 1) := by decide +kernel
theorem dL_law_256 : decode cL_law 256 = .ok (.invokevirtual 89, 3) := by decide +kernel
theorem dL_law_259 : decode cL_law 259 = .ok (.istore 7, 2) := by decide +kernel
theorem dL_law_261 : decode cL_law 261 = .ok (.aload_n 2, 1) := by decide +kernel
theorem dL_law_262 : decode cL_law 262 = .ok (.invokevirtual 82, 3) := by decide +kernel
theorem dL_law_265 : decode cL_law 265 = .ok (.iload 6, 2) := by decide +kernel
theorem dL_law_267 : decode cL_law 267 = .ok (.if_icmp .eq 5, 3) := by decide +kernel
theorem dL_law_270 : decode cL_law 270 = .ok (.iconst 0, 1) := by decide +kernel
theorem dL_law_271 : decode cL_law 271 = .ok (.ireturn, 1) := by decide +kernel
theorem dL_law_272 : decode cL_law 272 = .ok (.iload 6, 2) := by decide +kernel
theorem dL_law_274 : decode cL_law 274 = .ok (.ifCond .ne 15, 3) := by decide +kernel
theorem dL_law_277 : decode cL_law 277 = .ok (.aload_n 3, 1) := by decide +kernel
theorem dL_law_278 : decode cL_law 278 = .ok (.iconst 0, 1) := by decide +kernel
theorem dL_law_279 : decode cL_law 279 = .ok (.laload, 1) := by decide +kernel
theorem dL_law_280 : decode cL_law 280 = .ok (.iload 7, 2) := by decide +kernel
theorem dL_law_282 : decode cL_law 282 = .ok (.i2l, 1) := by decide +kernel
theorem dL_law_283 : decode cL_law 283 = .ok (.lcmp, 1) := by decide +kernel
theorem dL_law_284 : decode cL_law 284 = .ok (.ifCond .eq 5, 3) := by decide +kernel
theorem dL_law_287 : decode cL_law 287 = .ok (.iconst 0, 1) := by decide +kernel
theorem dL_law_288 : decode cL_law 288 = .ok (.ireturn, 1) := by decide +kernel
theorem dL_law_289 : decode cL_law 289 = .ok (.goto 1028, 3) := by decide +kernel
theorem dL_law_292 : decode cL_law 292 = .ok (.aload_n 1, 1) := by decide +kernel
theorem dL_law_293 : decode cL_law 293 = .ok (.aload_n 0, 1) := by decide +kernel
theorem dL_law_294 : decode cL_law 294 = .ok (.iload 5, 2) := by decide +kernel
theorem dL_law_296 : decode cL_law 296 = .ok (.iconst 1, 1) := by decide +kernel
theorem dL_law_297 : decode cL_law 297 = .ok (.iadd, 1) := by decide +kernel
theorem dL_law_298 : decode cL_law 298 = .ok (.iaload, 1) := by decide +kernel
theorem dL_law_299 : decode cL_law 299 = .ok (.aload_n 0, 1) := by decide +kernel
theorem dL_law_300 : decode cL_law 300 = .ok (.iload 5, 2) := by decide +kernel
theorem dL_law_302 : decode cL_law 302 = .ok (.iconst 2, 1) := by decide +kernel
theorem dL_law_303 : decode cL_law 303 = .ok (.iadd, 1) := by decide +kernel
theorem dL_law_304 : decode cL_law 304 = .ok (.iaload, 1) := by decide +kernel
theorem dL_law_305 : decode cL_law 305 = .ok (.aload_n 3, 1) := by decide +kernel
theorem dL_law_306 : decode cL_law 306 = .ok (.invokestatic 90, 3) := by decide +kernel
theorem dL_law_309 : decode cL_law 309 = .ok (.istore 6, 2) := by decide +kernel
theorem dL_law_311 : decode cL_law 311 = .ok (.aload_n 2, 1) := by decide +kernel
theorem dL_law_312 : decode cL_law 312 = .ok (.aload_n 0, 1) := by decide +kernel
theorem dL_law_313 : decode cL_law 313 = .ok (.iload 5, 2) := by decide +kernel
theorem dL_law_315 : decode cL_law 315 = .ok (.iconst 1, 1) := by decide +kernel
theorem dL_law_316 : decode cL_law 316 = .ok (.iadd, 1) := by decide +kernel
theorem dL_law_317 : decode cL_law 317 = .ok (.iaload, 1) := by decide +kernel
theorem dL_law_318 : decode cL_law 318 = .ok (.aload_n 0, 1) := by decide +kernel
theorem dL_law_319 : decode cL_law 319 = .ok (.iload 5, 2) := by decide +kernel
theorem dL_law_321 : decode cL_law 321 = .ok (.iconst 2, 1) := by decide +kernel
theorem dL_law_322 : decode cL_law 322 = .ok (.iadd, 1) := by decide +kernel
theorem dL_law_323 : decode cL_law 323 = .ok (.iaload, 1) := by decide +kernel
theorem dL_law_324 : decode cL_law 324 = .ok (.invokevirtual 93, 3) := by decide +kernel
theorem dL_law_327 : decode cL_law 327 = .ok (.istore 7, 2) := by decide +kernel
theorem dL_law_329 : decode cL_law 329 = .ok (.aload_n 2, 1) := by decide +kernel
theorem dL_law_330 : decode cL_law 330 = .ok (.invokevirtual 82, 3) := by decide +kernel
theorem dL_law_333 : decode cL_law 333 = .ok (.iload 6, 2) := by decide +kernel
theorem dL_law_335 : decode cL_law 335 = .ok (.if_icmp .eq 5, 3) := by decide +kernel
theorem dL_law_338 : decode cL_law 338 = .ok (.iconst 0, 1) := by decide +kernel
theorem dL_law_339 : decode cL_law 339 = .ok (.ireturn, 1) := by decide +kernel
theorem dL_law_340 : decode cL_law 340 = .ok (.iload 6, 2) := by decide +kernel
theorem dL_law_342 : decode cL_law 342 = .ok (.ifCond .ne 15, 3) := by decide +kernel
theorem dL_law_345 : decode cL_law 345 = .ok (.aload_n 3, 1) := by decide +kernel
theorem dL_law_346 : decode cL_law 346 = .ok (.iconst 0, 1) := by decide +kernel
theorem dL_law_347 : decode cL_law 347 = .ok (.laload, 1) := by decide +kernel
theorem dL_law_348 : decode cL_law 348 = .ok (.iload 7, 2) := by decide +kernel
theorem dL_law_350 : decode cL_law 350 = .ok (.i2l, 1) := by decide +kernel
theorem dL_law_351 : decode cL_law 351 = .ok (.lcmp, 1) := by decide +kernel
theorem dL_law_352 : decode cL_law 352 = .ok (.ifCond .eq 5, 3) := by decide +kernel
theorem dL_law_355 : decode cL_law 355 = .ok (.iconst 0, 1) := by decide +kernel
theorem dL_law_356 : decode cL_law 356 = .ok (.ireturn, 1) := by decide +kernel
theorem dL_law_357 : decode cL_law 357 = .ok (.goto 960, 3) := by decide +kernel
theorem dL_law_360 : decode cL_law 360 = .ok (.aload_n 1, 1) := by decide +kernel
theorem dL_law_361 : decode cL_law 361 = .ok (.aload_n 0, 1) := by decide +kernel
theorem dL_law_362 : decode cL_law 362 = .ok (.iload 5, 2) := by decide +kernel
theorem dL_law_364 : decode cL_law 364 = .ok (.iconst 1, 1) := by decide +kernel
theorem dL_law_365 : decode cL_law 365 = .ok (.iadd, 1) := by decide +kernel
theorem dL_law_366 : decode cL_law 366 = .ok (.iaload, 1) := by decide +kernel
theorem dL_law_367 : decode cL_law 367 = .ok (.aload_n 3, 1) := by decide +kernel
theorem dL_law_368 : decode cL_law 368 = .ok (.invokestatic 94, 3) := by decide +kernel
theorem dL_law_371 : decode cL_law 371 = .ok (.istore 6, 2) := by decide +kernel
theorem dL_law_373 : decode cL_law 373 = .ok (.aload_n 2, 1) := by decide +kernel
theorem dL_law_374 : decode cL_law 374 = .ok (.aload_n 0, 1) := by decide +kernel
theorem dL_law_375 : decode cL_law 375 = .ok (.iload 5, 2) := by decide +kernel
theorem dL_law_377 : decode cL_law 377 = .ok (.iconst 1, 1) := by decide +kernel
theorem dL_law_378 : decode cL_law 378 = .ok (.iadd, 1) := by decide +kernel
theorem dL_law_379 : decode cL_law 379 = .ok (.iaload, 1) := by decide +kernel
theorem dL_law_380 : decode cL_law 380 = .ok (.invokevirtual 97, 3) := by decide +kernel
theorem dL_law_383 : decode cL_law 383 = .ok (.istore 7, 2) := by decide +kernel
theorem dL_law_385 : decode cL_law 385 = .ok (.aload_n 2, 1) := by decide +kernel
theorem dL_law_386 : decode cL_law 386 = .ok (.invokevirtual 82, 3) := by decide +kernel
theorem dL_law_389 : decode cL_law 389 = .ok (.iload 6, 2) := by decide +kernel
theorem dL_law_391 : decode cL_law 391 = .ok (.if_icmp .eq 5, 3) := by decide +kernel
theorem dL_law_394 : decode cL_law 394 = .ok (.iconst 0, 1) := by decide +kernel
theorem dL_law_395 : decode cL_law 395 = .ok (.ireturn, 1) := by decide +kernel
theorem dL_law_396 : decode cL_law 396 = .ok (.iload 6, 2) := by decide +kernel
theorem dL_law_398 : decode cL_law 398 = .ok (.ifCond .ne 15, 3) := by decide +kernel
theorem dL_law_401 : decode cL_law 401 = .ok (.aload_n 3, 1) := by decide +kernel
theorem dL_law_402 : decode cL_law 402 = .ok (.iconst 0, 1) := by decide +kernel
theorem dL_law_403 : decode cL_law 403 = .ok (.laload, 1) := by decide +kernel
theorem dL_law_404 : decode cL_law 404 = .ok (.iload 7, 2) := by decide +kernel
theorem dL_law_406 : decode cL_law 406 = .ok (.i2l, 1) := by decide +kernel
theorem dL_law_407 : decode cL_law 407 = .ok (.lcmp, 1) := by decide +kernel
theorem dL_law_408 : decode cL_law 408 = .ok (.ifCond .eq 5, 3) := by decide +kernel
theorem dL_law_411 : decode cL_law 411 = .ok (.iconst 0, 1) := by decide +kernel
theorem dL_law_412 : decode cL_law 412 = .ok (.ireturn, 1) := by decide +kernel
theorem dL_law_413 : decode cL_law 413 = .ok (.goto 904, 3) := by decide +kernel
theorem dL_law_416 : decode cL_law 416 = .ok (.aload_n 1, 1) := by decide +kernel
theorem dL_law_417 : decode cL_law 417 = .ok (.aload_n 0, 1) := by decide +kernel
theorem dL_law_418 : decode cL_law 418 = .ok (.iload 5, 2) := by decide +kernel
theorem dL_law_420 : decode cL_law 420 = .ok (.iconst 1, 1) := by decide +kernel
theorem dL_law_421 : decode cL_law 421 = .ok (.iadd, 1) := by decide +kernel
theorem dL_law_422 : decode cL_law 422 = .ok (.iaload, 1) := by decide +kernel
theorem dL_law_423 : decode cL_law 423 = .ok (.aload_n 3, 1) := by decide +kernel
theorem dL_law_424 : decode cL_law 424 = .ok (.invokestatic 98, 3) := by decide +kernel
theorem dL_law_427 : decode cL_law 427 = .ok (.istore 6, 2) := by decide +kernel
theorem dL_law_429 : decode cL_law 429 = .ok (.aload_n 2, 1) := by decide +kernel
theorem dL_law_430 : decode cL_law 430 = .ok (.aload_n 0, 1) := by decide +kernel
theorem dL_law_431 : decode cL_law 431 = .ok (.iload 5, 2) := by decide +kernel
theorem dL_law_433 : decode cL_law 433 = .ok (.iconst 1, 1) := by decide +kernel
theorem dL_law_434 : decode cL_law 434 = .ok (.iadd, 1) := by decide +kernel
theorem dL_law_435 : decode cL_law 435 = .ok (.iaload, 1) := by decide +kernel
theorem dL_law_436 : decode cL_law 436 = .ok (.invokevirtual 100, 3) := by decide +kernel
theorem dL_law_439 : decode cL_law 439 = .ok (.istore 7, 2) := by decide +kernel
theorem dL_law_441 : decode cL_law 441 = .ok (.aload_n 2, 1) := by decide +kernel
theorem dL_law_442 : decode cL_law 442 = .ok (.invokevirtual 82, 3) := by decide +kernel
theorem dL_law_445 : decode cL_law 445 = .ok (.iload 6, 2) := by decide +kernel
theorem dL_law_447 : decode cL_law 447 = .ok (.if_icmp .eq 5, 3) := by decide +kernel
theorem dL_law_450 : decode cL_law 450 = .ok (.iconst 0, 1) := by decide +kernel
theorem dL_law_451 : decode cL_law 451 = .ok (.ireturn, 1) := by decide +kernel
theorem dL_law_452 : decode cL_law 452 = .ok (.iload 6, 2) := by decide +kernel
theorem dL_law_454 : decode cL_law 454 = .ok (.ifCond .ne 15, 3) := by decide +kernel
theorem dL_law_457 : decode cL_law 457 = .ok (.aload_n 3, 1) := by decide +kernel
theorem dL_law_458 : decode cL_law 458 = .ok (.iconst 0, 1) := by decide +kernel
theorem dL_law_459 : decode cL_law 459 = .ok (.laload, 1) := by decide +kernel
theorem dL_law_460 : decode cL_law 460 = .ok (.iload 7, 2) := by decide +kernel
theorem dL_law_462 : decode cL_law 462 = .ok (.i2l, 1) := by decide +kernel
theorem dL_law_463 : decode cL_law 463 = .ok (.lcmp, 1) := by decide +kernel
theorem dL_law_464 : decode cL_law 464 = .ok (.ifCond .eq 5, 3) := by decide +kernel
theorem dL_law_467 : decode cL_law 467 = .ok (.iconst 0, 1) := by decide +kernel
theorem dL_law_468 : decode cL_law 468 = .ok (.ireturn, 1) := by decide +kernel
theorem dL_law_469 : decode cL_law 469 = .ok (.goto 848, 3) := by decide +kernel
theorem dL_law_472 : decode cL_law 472 = .ok (.aload_n 1, 1) := by decide +kernel
theorem dL_law_473 : decode cL_law 473 = .ok (.aload_n 0, 1) := by decide +kernel
theorem dL_law_474 : decode cL_law 474 = .ok (.iload 5, 2) := by decide +kernel
theorem dL_law_476 : decode cL_law 476 = .ok (.iconst 1, 1) := by decide +kernel
theorem dL_law_477 : decode cL_law 477 = .ok (.iadd, 1) := by decide +kernel
theorem dL_law_478 : decode cL_law 478 = .ok (.iaload, 1) := by decide +kernel
theorem dL_law_479 : decode cL_law 479 = .ok (.aload_n 0, 1) := by decide +kernel
theorem dL_law_480 : decode cL_law 480 = .ok (.iload 5, 2) := by decide +kernel
theorem dL_law_482 : decode cL_law 482 = .ok (.iconst 2, 1) := by decide +kernel
theorem dL_law_483 : decode cL_law 483 = .ok (.iadd, 1) := by decide +kernel
theorem dL_law_484 : decode cL_law 484 = .ok (.iaload, 1) := by decide +kernel
theorem dL_law_485 : decode cL_law 485 = .ok (.aload_n 0, 1) := by decide +kernel
theorem dL_law_486 : decode cL_law 486 = .ok (.iload 5, 2) := by decide +kernel
theorem dL_law_488 : decode cL_law 488 = .ok (.iconst 3, 1) := by decide +kernel
theorem dL_law_489 : decode cL_law 489 = .ok (.iadd, 1) := by decide +kernel
theorem dL_law_490 : decode cL_law 490 = .ok (.iaload, 1) := by decide +kernel
theorem dL_law_491 : decode cL_law 491 = .ok (.aload_n 0, 1) := by decide +kernel
theorem dL_law_492 : decode cL_law 492 = .ok (.iload 5, 2) := by decide +kernel
theorem dL_law_494 : decode cL_law 494 = .ok (.iconst 4, 1) := by decide +kernel
theorem dL_law_495 : decode cL_law 495 = .ok (.iadd, 1) := by decide +kernel
theorem dL_law_496 : decode cL_law 496 = .ok (.iaload, 1) := by decide +kernel
theorem dL_law_497 : decode cL_law 497 = .ok (.aload_n 3, 1) := by decide +kernel
theorem dL_law_498 : decode cL_law 498 = .ok (.invokestatic 101, 3) := by decide +kernel
theorem dL_law_501 : decode cL_law 501 = .ok (.istore 6, 2) := by decide +kernel
theorem dL_law_503 : decode cL_law 503 = .ok (.aload_n 2, 1) := by decide +kernel
theorem dL_law_504 : decode cL_law 504 = .ok (.aload_n 0, 1) := by decide +kernel
theorem dL_law_505 : decode cL_law 505 = .ok (.iload 5, 2) := by decide +kernel
theorem dL_law_507 : decode cL_law 507 = .ok (.iconst 1, 1) := by decide +kernel
theorem dL_law_508 : decode cL_law 508 = .ok (.iadd, 1) := by decide +kernel
theorem dL_law_509 : decode cL_law 509 = .ok (.iaload, 1) := by decide +kernel
theorem dL_law_510 : decode cL_law 510 = .ok (.aload_n 0, 1) := by decide +kernel
theorem dL_law_511 : decode cL_law 511 = .ok (.iload 5, 2) := by decide +kernel
theorem dL_law_513 : decode cL_law 513 = .ok (.iconst 2, 1) := by decide +kernel
theorem dL_law_514 : decode cL_law 514 = .ok (.iadd, 1) := by decide +kernel
theorem dL_law_515 : decode cL_law 515 = .ok (.iaload, 1) := by decide +kernel
theorem dL_law_516 : decode cL_law 516 = .ok (.aload_n 0, 1) := by decide +kernel
theorem dL_law_517 : decode cL_law 517 = .ok (.iload 5, 2) := by decide +kernel
theorem dL_law_519 : decode cL_law 519 = .ok (.iconst 3, 1) := by decide +kernel
theorem dL_law_520 : decode cL_law 520 = .ok (.iadd, 1) := by decide +kernel
theorem dL_law_521 : decode cL_law 521 = .ok (.iaload, 1) := by decide +kernel
theorem dL_law_522 : decode cL_law 522 = .ok (.aload_n 0, 1) := by decide +kernel
theorem dL_law_523 : decode cL_law 523 = .ok (.iload 5, 2) := by decide +kernel
theorem dL_law_525 : decode cL_law 525 = .ok (.iconst 4, 1) := by decide +kernel
theorem dL_law_526 : decode cL_law 526 = .ok (.iadd, 1) := by decide +kernel
theorem dL_law_527 : decode cL_law 527 = .ok (.iaload, 1) := by decide +kernel
theorem dL_law_528 : decode cL_law 528 = .ok (.invokevirtual 104, 3) := by decide +kernel
theorem dL_law_531 : decode cL_law 531 = .ok (.istore 7, 2) := by decide +kernel
theorem dL_law_533 : decode cL_law 533 = .ok (.aload_n 2, 1) := by decide +kernel
theorem dL_law_534 : decode cL_law 534 = .ok (.invokevirtual 82, 3) := by decide +kernel
theorem dL_law_537 : decode cL_law 537 = .ok (.iload 6, 2) := by decide +kernel
theorem dL_law_539 : decode cL_law 539 = .ok (.if_icmp .eq 5, 3) := by decide +kernel
theorem dL_law_542 : decode cL_law 542 = .ok (.iconst 0, 1) := by decide +kernel
theorem dL_law_543 : decode cL_law 543 = .ok (.ireturn, 1) := by decide +kernel
theorem dL_law_544 : decode cL_law 544 = .ok (.iload 6, 2) := by decide +kernel
theorem dL_law_546 : decode cL_law 546 = .ok (.ifCond .ne 15, 3) := by decide +kernel
theorem dL_law_549 : decode cL_law 549 = .ok (.aload_n 3, 1) := by decide +kernel
theorem dL_law_550 : decode cL_law 550 = .ok (.iconst 0, 1) := by decide +kernel
theorem dL_law_551 : decode cL_law 551 = .ok (.laload, 1) := by decide +kernel
theorem dL_law_552 : decode cL_law 552 = .ok (.iload 7, 2) := by decide +kernel
theorem dL_law_554 : decode cL_law 554 = .ok (.i2l, 1) := by decide +kernel
theorem dL_law_555 : decode cL_law 555 = .ok (.lcmp, 1) := by decide +kernel
theorem dL_law_556 : decode cL_law 556 = .ok (.ifCond .eq 5, 3) := by decide +kernel
theorem dL_law_559 : decode cL_law 559 = .ok (.iconst 0, 1) := by decide +kernel
theorem dL_law_560 : decode cL_law 560 = .ok (.ireturn, 1) := by decide +kernel
theorem dL_law_561 : decode cL_law 561 = .ok (.goto 756, 3) := by decide +kernel
theorem dL_law_564 : decode cL_law 564 = .ok (.aload_n 1, 1) := by decide +kernel
theorem dL_law_565 : decode cL_law 565 = .ok (.aload_n 0, 1) := by decide +kernel
theorem dL_law_566 : decode cL_law 566 = .ok (.iload 5, 2) := by decide +kernel
theorem dL_law_568 : decode cL_law 568 = .ok (.iconst 1, 1) := by decide +kernel
theorem dL_law_569 : decode cL_law 569 = .ok (.iadd, 1) := by decide +kernel
theorem dL_law_570 : decode cL_law 570 = .ok (.iaload, 1) := by decide +kernel
theorem dL_law_571 : decode cL_law 571 = .ok (.aload_n 3, 1) := by decide +kernel
theorem dL_law_572 : decode cL_law 572 = .ok (.invokestatic 105, 3) := by decide +kernel
theorem dL_law_575 : decode cL_law 575 = .ok (.istore 6, 2) := by decide +kernel
theorem dL_law_577 : decode cL_law 577 = .ok (.aload_n 2, 1) := by decide +kernel
theorem dL_law_578 : decode cL_law 578 = .ok (.aload_n 0, 1) := by decide +kernel
theorem dL_law_579 : decode cL_law 579 = .ok (.iload 5, 2) := by decide +kernel
theorem dL_law_581 : decode cL_law 581 = .ok (.iconst 1, 1) := by decide +kernel
theorem dL_law_582 : decode cL_law 582 = .ok (.iadd, 1) := by decide +kernel
theorem dL_law_583 : decode cL_law 583 = .ok (.iaload, 1) := by decide +kernel
theorem dL_law_584 : decode cL_law 584 = .ok (.invokevirtual 107, 3) := by decide +kernel
theorem dL_law_587 : decode cL_law 587 = .ok (.istore 7, 2) := by decide +kernel
theorem dL_law_589 : decode cL_law 589 = .ok (.aload_n 2, 1) := by decide +kernel
theorem dL_law_590 : decode cL_law 590 = .ok (.invokevirtual 82, 3) := by decide +kernel
theorem dL_law_593 : decode cL_law 593 = .ok (.iload 6, 2) := by decide +kernel
theorem dL_law_595 : decode cL_law 595 = .ok (.if_icmp .eq 5, 3) := by decide +kernel
theorem dL_law_598 : decode cL_law 598 = .ok (.iconst 0, 1) := by decide +kernel
theorem dL_law_599 : decode cL_law 599 = .ok (.ireturn, 1) := by decide +kernel
theorem dL_law_600 : decode cL_law 600 = .ok (.iload 6, 2) := by decide +kernel
theorem dL_law_602 : decode cL_law 602 = .ok (.ifCond .ne 15, 3) := by decide +kernel
theorem dL_law_605 : decode cL_law 605 = .ok (.aload_n 3, 1) := by decide +kernel
theorem dL_law_606 : decode cL_law 606 = .ok (.iconst 0, 1) := by decide +kernel
theorem dL_law_607 : decode cL_law 607 = .ok (.laload, 1) := by decide +kernel
theorem dL_law_608 : decode cL_law 608 = .ok (.iload 7, 2) := by decide +kernel
theorem dL_law_610 : decode cL_law 610 = .ok (.i2l, 1) := by decide +kernel
theorem dL_law_611 : decode cL_law 611 = .ok (.lcmp, 1) := by decide +kernel
theorem dL_law_612 : decode cL_law 612 = .ok (.ifCond .eq 5, 3) := by decide +kernel
theorem dL_law_615 : decode cL_law 615 = .ok (.iconst 0, 1) := by decide +kernel
theorem dL_law_616 : decode cL_law 616 = .ok (.ireturn, 1) := by decide +kernel
theorem dL_law_617 : decode cL_law 617 = .ok (.goto 700, 3) := by decide +kernel
theorem dL_law_620 : decode cL_law 620 = .ok (.aload_n 1, 1) := by decide +kernel
theorem dL_law_621 : decode cL_law 621 = .ok (.aload_n 0, 1) := by decide +kernel
theorem dL_law_622 : decode cL_law 622 = .ok (.iload 5, 2) := by decide +kernel
theorem dL_law_624 : decode cL_law 624 = .ok (.iconst 1, 1) := by decide +kernel
theorem dL_law_625 : decode cL_law 625 = .ok (.iadd, 1) := by decide +kernel
theorem dL_law_626 : decode cL_law 626 = .ok (.iaload, 1) := by decide +kernel
theorem dL_law_627 : decode cL_law 627 = .ok (.aload_n 3, 1) := by decide +kernel
theorem dL_law_628 : decode cL_law 628 = .ok (.invokestatic 108, 3) := by decide +kernel
theorem dL_law_631 : decode cL_law 631 = .ok (.istore 6, 2) := by decide +kernel
theorem dL_law_633 : decode cL_law 633 = .ok (.aload_n 2, 1) := by decide +kernel
theorem dL_law_634 : decode cL_law 634 = .ok (.aload_n 0, 1) := by decide +kernel
theorem dL_law_635 : decode cL_law 635 = .ok (.iload 5, 2) := by decide +kernel
theorem dL_law_637 : decode cL_law 637 = .ok (.iconst 1, 1) := by decide +kernel
theorem dL_law_638 : decode cL_law 638 = .ok (.iadd, 1) := by decide +kernel
theorem dL_law_639 : decode cL_law 639 = .ok (.iaload, 1) := by decide +kernel
theorem dL_law_640 : decode cL_law 640 = .ok (.invokevirtual 110, 3) := by decide +kernel
theorem dL_law_643 : decode cL_law 643 = .ok (.istore 7, 2) := by decide +kernel
theorem dL_law_645 : decode cL_law 645 = .ok (.aload_n 2, 1) := by decide +kernel
theorem dL_law_646 : decode cL_law 646 = .ok (.invokevirtual 82, 3) := by decide +kernel
theorem dL_law_649 : decode cL_law 649 = .ok (.iload 6, 2) := by decide +kernel
theorem dL_law_651 : decode cL_law 651 = .ok (.if_icmp .eq 5, 3) := by decide +kernel
theorem dL_law_654 : decode cL_law 654 = .ok (.iconst 0, 1) := by decide +kernel
theorem dL_law_655 : decode cL_law 655 = .ok (.ireturn, 1) := by decide +kernel
theorem dL_law_656 : decode cL_law 656 = .ok (.iload 6, 2) := by decide +kernel
theorem dL_law_658 : decode cL_law 658 = .ok (.ifCond .ne 15, 3) := by decide +kernel
theorem dL_law_661 : decode cL_law 661 = .ok (.aload_n 3, 1) := by decide +kernel
theorem dL_law_662 : decode cL_law 662 = .ok (.iconst 0, 1) := by decide +kernel
theorem dL_law_663 : decode cL_law 663 = .ok (.laload, 1) := by decide +kernel
theorem dL_law_664 : decode cL_law 664 = .ok (.iload 7, 2) := by decide +kernel
theorem dL_law_666 : decode cL_law 666 = .ok (.i2l, 1) := by decide +kernel
theorem dL_law_667 : decode cL_law 667 = .ok (.lcmp, 1) := by decide +kernel
theorem dL_law_668 : decode cL_law 668 = .ok (.ifCond .eq 5, 3) := by decide +kernel
theorem dL_law_671 : decode cL_law 671 = .ok (.iconst 0, 1) := by decide +kernel
theorem dL_law_672 : decode cL_law 672 = .ok (.ireturn, 1) := by decide +kernel
theorem dL_law_673 : decode cL_law 673 = .ok (.goto 644, 3) := by decide +kernel
theorem dL_law_676 : decode cL_law 676 = .ok (.aload_n 1, 1) := by decide +kernel
theorem dL_law_677 : decode cL_law 677 = .ok (.invokevirtual 111, 3) := by decide +kernel
theorem dL_law_680 : decode cL_law 680 = .ok (.aload_n 2, 1) := by decide +kernel
theorem dL_law_681 : decode cL_law 681 = .ok (.invokevirtual 114, 3) := by decide +kernel
theorem dL_law_684 : decode cL_law 684 = .ok (.if_icmp .eq 633, 3) := by decide +kernel
theorem dL_law_687 : decode cL_law 687 = .ok (.iconst 0, 1) := by decide +kernel
theorem dL_law_688 : decode cL_law 688 = .ok (.ireturn, 1) := by decide +kernel
theorem dL_law_689 : decode cL_law 689 = .ok (.aload_n 1, 1) := by decide +kernel
theorem dL_law_690 : decode cL_law 690 = .ok (.invokevirtual 115, 3) := by decide +kernel
theorem dL_law_693 : decode cL_law 693 = .ok (.aload_n 2, 1) := by decide +kernel
theorem dL_law_694 : decode cL_law 694 = .ok (.invokevirtual 118, 3) := by decide +kernel
theorem dL_law_697 : decode cL_law 697 = .ok (.if_icmp .eq 620, 3) := by decide +kernel
theorem dL_law_700 : decode cL_law 700 = .ok (.iconst 0, 1) := by decide +kernel
theorem dL_law_701 : decode cL_law 701 = .ok (.ireturn, 1) := by decide +kernel
theorem dL_law_702 : decode cL_law 702 = .ok (.aload_n 1, 1) := by decide +kernel
theorem dL_law_703 : decode cL_law 703 = .ok (.aload_n 0, 1) := by decide +kernel
theorem dL_law_704 : decode cL_law 704 = .ok (.iload 5, 2) := by decide +kernel
theorem dL_law_706 : decode cL_law 706 = .ok (.iconst 1, 1) := by decide +kernel
theorem dL_law_707 : decode cL_law 707 = .ok (.iadd, 1) := by decide +kernel
theorem dL_law_708 : decode cL_law 708 = .ok (.iaload, 1) := by decide +kernel
theorem dL_law_709 : decode cL_law 709 = .ok (.aload_n 3, 1) := by decide +kernel
theorem dL_law_710 : decode cL_law 710 = .ok (.invokestatic 119, 3) := by decide +kernel
theorem dL_law_713 : decode cL_law 713 = .ok (.istore 6, 2) := by decide +kernel
theorem dL_law_715 : decode cL_law 715 = .ok (.aload_n 2, 1) := by decide +kernel
theorem dL_law_716 : decode cL_law 716 = .ok (.aload_n 0, 1) := by decide +kernel
theorem dL_law_717 : decode cL_law 717 = .ok (.iload 5, 2) := by decide +kernel
theorem dL_law_719 : decode cL_law 719 = .ok (.iconst 1, 1) := by decide +kernel
theorem dL_law_720 : decode cL_law 720 = .ok (.iadd, 1) := by decide +kernel
theorem dL_law_721 : decode cL_law 721 = .ok (.iaload, 1) := by decide +kernel
theorem dL_law_722 : decode cL_law 722 = .ok (.invokevirtual 121, 3) := by decide +kernel
theorem dL_law_725 : decode cL_law 725 = .ok (.istore 7, 2) := by decide +kernel
theorem dL_law_727 : decode cL_law 727 = .ok (.aload_n 2, 1) := by decide +kernel
theorem dL_law_728 : decode cL_law 728 = .ok (.invokevirtual 82, 3) := by decide +kernel
theorem dL_law_731 : decode cL_law 731 = .ok (.iload 6, 2) := by decide +kernel
theorem dL_law_733 : decode cL_law 733 = .ok (.if_icmp .eq 5, 3) := by decide +kernel
theorem dL_law_736 : decode cL_law 736 = .ok (.iconst 0, 1) := by decide +kernel
theorem dL_law_737 : decode cL_law 737 = .ok (.ireturn, 1) := by decide +kernel
theorem dL_law_738 : decode cL_law 738 = .ok (.iload 6, 2) := by decide +kernel
theorem dL_law_740 : decode cL_law 740 = .ok (.ifCond .ne 15, 3) := by decide +kernel
theorem dL_law_743 : decode cL_law 743 = .ok (.aload_n 3, 1) := by decide +kernel
theorem dL_law_744 : decode cL_law 744 = .ok (.iconst 0, 1) := by decide +kernel
theorem dL_law_745 : decode cL_law 745 = .ok (.laload, 1) := by decide +kernel
theorem dL_law_746 : decode cL_law 746 = .ok (.iload 7, 2) := by decide +kernel
theorem dL_law_748 : decode cL_law 748 = .ok (.i2l, 1) := by decide +kernel
theorem dL_law_749 : decode cL_law 749 = .ok (.lcmp, 1) := by decide +kernel
theorem dL_law_750 : decode cL_law 750 = .ok (.ifCond .eq 5, 3) := by decide +kernel
theorem dL_law_753 : decode cL_law 753 = .ok (.iconst 0, 1) := by decide +kernel
theorem dL_law_754 : decode cL_law 754 = .ok (.ireturn, 1) := by decide +kernel
theorem dL_law_755 : decode cL_law 755 = .ok (.goto 562, 3) := by decide +kernel
theorem dL_law_758 : decode cL_law 758 = .ok (.aload_n 1, 1) := by decide +kernel
theorem dL_law_759 : decode cL_law 759 = .ok (.aload_n 0, 1) := by decide +kernel
theorem dL_law_760 : decode cL_law 760 = .ok (.iload 5, 2) := by decide +kernel
theorem dL_law_762 : decode cL_law 762 = .ok (.iconst 1, 1) := by decide +kernel
theorem dL_law_763 : decode cL_law 763 = .ok (.iadd, 1) := by decide +kernel
theorem dL_law_764 : decode cL_law 764 = .ok (.iaload, 1) := by decide +kernel
theorem dL_law_765 : decode cL_law 765 = .ok (.aload_n 3, 1) := by decide +kernel
theorem dL_law_766 : decode cL_law 766 = .ok (.invokestatic 122, 3) := by decide +kernel
theorem dL_law_769 : decode cL_law 769 = .ok (.istore 6, 2) := by decide +kernel
theorem dL_law_771 : decode cL_law 771 = .ok (.aload_n 2, 1) := by decide +kernel
theorem dL_law_772 : decode cL_law 772 = .ok (.aload_n 0, 1) := by decide +kernel
theorem dL_law_773 : decode cL_law 773 = .ok (.iload 5, 2) := by decide +kernel
theorem dL_law_775 : decode cL_law 775 = .ok (.iconst 1, 1) := by decide +kernel
theorem dL_law_776 : decode cL_law 776 = .ok (.iadd, 1) := by decide +kernel
theorem dL_law_777 : decode cL_law 777 = .ok (.iaload, 1) := by decide +kernel
theorem dL_law_778 : decode cL_law 778 = .ok (.invokevirtual 124, 3) := by decide +kernel
theorem dL_law_781 : decode cL_law 781 = .ok (.istore 7, 2) := by decide +kernel
theorem dL_law_783 : decode cL_law 783 = .ok (.aload_n 2, 1) := by decide +kernel
theorem dL_law_784 : decode cL_law 784 = .ok (.invokevirtual 82, 3) := by decide +kernel
theorem dL_law_787 : decode cL_law 787 = .ok (.iload 6, 2) := by decide +kernel
theorem dL_law_789 : decode cL_law 789 = .ok (.if_icmp .eq 5, 3) := by decide +kernel
theorem dL_law_792 : decode cL_law 792 = .ok (.iconst 0, 1) := by decide +kernel
theorem dL_law_793 : decode cL_law 793 = .ok (.ireturn, 1) := by decide +kernel
theorem dL_law_794 : decode cL_law 794 = .ok (.iload 6, 2) := by decide +kernel
theorem dL_law_796 : decode cL_law 796 = .ok (.ifCond .ne 15, 3) := by decide +kernel
theorem dL_law_799 : decode cL_law 799 = .ok (.aload_n 3, 1) := by decide +kernel
theorem dL_law_800 : decode cL_law 800 = .ok (.iconst 0, 1) := by decide +kernel
theorem dL_law_801 : decode cL_law 801 = .ok (.laload, 1) := by decide +kernel
theorem dL_law_802 : decode cL_law 802 = .ok (.iload 7, 2) := by decide +kernel
theorem dL_law_804 : decode cL_law 804 = .ok (.i2l, 1) := by decide +kernel
theorem dL_law_805 : decode cL_law 805 = .ok (.lcmp, 1) := by decide +kernel
theorem dL_law_806 : decode cL_law 806 = .ok (.ifCond .eq 5, 3) := by decide +kernel
theorem dL_law_809 : decode cL_law 809 = .ok (.iconst 0, 1) := by decide +kernel
theorem dL_law_810 : decode cL_law 810 = .ok (.ireturn, 1) := by decide +kernel
theorem dL_law_811 : decode cL_law 811 = .ok (.goto 506, 3) := by decide +kernel
theorem dL_law_814 : decode cL_law 814 = .ok (.aload_n 1, 1) := by decide +kernel
theorem dL_law_815 : decode cL_law 815 = .ok (.aload_n 0, 1) := by decide +kernel
theorem dL_law_816 : decode cL_law 816 = .ok (.iload 5, 2) := by decide +kernel
theorem dL_law_818 : decode cL_law 818 = .ok (.iconst 1, 1) := by decide +kernel
theorem dL_law_819 : decode cL_law 819 = .ok (.iadd, 1) := by decide +kernel
theorem dL_law_820 : decode cL_law 820 = .ok (.iaload, 1) := by decide +kernel
theorem dL_law_821 : decode cL_law 821 = .ok (.aload_n 0, 1) := by decide +kernel
theorem dL_law_822 : decode cL_law 822 = .ok (.iload 5, 2) := by decide +kernel
theorem dL_law_824 : decode cL_law 824 = .ok (.iconst 2, 1) := by decide +kernel
theorem dL_law_825 : decode cL_law 825 = .ok (.iadd, 1) := by decide +kernel
theorem dL_law_826 : decode cL_law 826 = .ok (.iaload, 1) := by decide +kernel
theorem dL_law_827 : decode cL_law 827 = .ok (.aload_n 3, 1) := by decide +kernel
theorem dL_law_828 : decode cL_law 828 = .ok (.invokestatic 125, 3) := by decide +kernel
theorem dL_law_831 : decode cL_law 831 = .ok (.istore 6, 2) := by decide +kernel
theorem dL_law_833 : decode cL_law 833 = .ok (.aload_n 2, 1) := by decide +kernel
theorem dL_law_834 : decode cL_law 834 = .ok (.aload_n 0, 1) := by decide +kernel
theorem dL_law_835 : decode cL_law 835 = .ok (.iload 5, 2) := by decide +kernel
theorem dL_law_837 : decode cL_law 837 = .ok (.iconst 1, 1) := by decide +kernel
theorem dL_law_838 : decode cL_law 838 = .ok (.iadd, 1) := by decide +kernel
theorem dL_law_839 : decode cL_law 839 = .ok (.iaload, 1) := by decide +kernel
theorem dL_law_840 : decode cL_law 840 = .ok (.aload_n 0, 1) := by decide +kernel
theorem dL_law_841 : decode cL_law 841 = .ok (.iload 5, 2) := by decide +kernel
theorem dL_law_843 : decode cL_law 843 = .ok (.iconst 2, 1) := by decide +kernel
theorem dL_law_844 : decode cL_law 844 = .ok (.iadd, 1) := by decide +kernel
theorem dL_law_845 : decode cL_law 845 = .ok (.iaload, 1) := by decide +kernel
theorem dL_law_846 : decode cL_law 846 = .ok (.invokevirtual 127, 3) := by decide +kernel
theorem dL_law_849 : decode cL_law 849 = .ok (.istore 7, 2) := by decide +kernel
theorem dL_law_851 : decode cL_law 851 = .ok (.aload_n 2, 1) := by decide +kernel
theorem dL_law_852 : decode cL_law 852 = .ok (.invokevirtual 82, 3) := by decide +kernel
theorem dL_law_855 : decode cL_law 855 = .ok (.iload 6, 2) := by decide +kernel
theorem dL_law_857 : decode cL_law 857 = .ok (.if_icmp .eq 5, 3) := by decide +kernel
theorem dL_law_860 : decode cL_law 860 = .ok (.iconst 0, 1) := by decide +kernel
theorem dL_law_861 : decode cL_law 861 = .ok (.ireturn, 1) := by decide +kernel
theorem dL_law_862 : decode cL_law 862 = .ok (.iload 6, 2) := by decide +kernel
theorem dL_law_864 : decode cL_law 864 = .ok (.ifCond .ne 15, 3) := by decide +kernel
theorem dL_law_867 : decode cL_law 867 = .ok (.aload_n 3, 1) := by decide +kernel
theorem dL_law_868 : decode cL_law 868 = .ok (.iconst 0, 1) := by decide +kernel
theorem dL_law_869 : decode cL_law 869 = .ok (.laload, 1) := by decide +kernel
theorem dL_law_870 : decode cL_law 870 = .ok (.iload 7, 2) := by decide +kernel
theorem dL_law_872 : decode cL_law 872 = .ok (.i2l, 1) := by decide +kernel
theorem dL_law_873 : decode cL_law 873 = .ok (.lcmp, 1) := by decide +kernel
theorem dL_law_874 : decode cL_law 874 = .ok (.ifCond .eq 5, 3) := by decide +kernel
theorem dL_law_877 : decode cL_law 877 = .ok (.iconst 0, 1) := by decide +kernel
theorem dL_law_878 : decode cL_law 878 = .ok (.ireturn, 1) := by decide +kernel
theorem dL_law_879 : decode cL_law 879 = .ok (.goto 438, 3) := by decide +kernel
theorem dL_law_882 : decode cL_law 882 = .ok (.aload_n 1, 1) := by decide +kernel
theorem dL_law_883 : decode cL_law 883 = .ok (.invokevirtual 128, 3) := by decide +kernel
theorem dL_law_886 : decode cL_law 886 = .ok (.aload_n 2, 1) := by decide +kernel
theorem dL_law_887 : decode cL_law 887 = .ok (.invokevirtual 131, 3) := by decide +kernel
theorem dL_law_890 : decode cL_law 890 = .ok (.if_icmp .eq 427, 3) := by decide +kernel
theorem dL_law_893 : decode cL_law 893 = .ok (.iconst 0, 1) := by decide +kernel
theorem dL_law_894 : decode cL_law 894 = .ok (.ireturn, 1) := by decide +kernel
theorem dL_law_895 : decode cL_law 895 = .ok (.aload_n 1, 1) := by decide +kernel
theorem dL_law_896 : decode cL_law 896 = .ok (.invokevirtual 132, 3) := by decide +kernel
theorem dL_law_899 : decode cL_law 899 = .ok (.aload_n 2, 1) := by decide +kernel
theorem dL_law_900 : decode cL_law 900 = .ok (.invokevirtual 135, 3) := by decide +kernel
theorem dL_law_903 : decode cL_law 903 = .ok (.if_icmp .eq 414, 3) := by decide +kernel
theorem dL_law_906 : decode cL_law 906 = .ok (.iconst 0, 1) := by decide +kernel
theorem dL_law_907 : decode cL_law 907 = .ok (.ireturn, 1) := by decide +kernel
theorem dL_law_908 : decode cL_law 908 = .ok (.aload_n 1, 1) := by decide +kernel
theorem dL_law_909 : decode cL_law 909 = .ok (.aload_n 0, 1) := by decide +kernel
theorem dL_law_910 : decode cL_law 910 = .ok (.iload 5, 2) := by decide +kernel
theorem dL_law_912 : decode cL_law 912 = .ok (.iconst 1, 1) := by decide +kernel
theorem dL_law_913 : decode cL_law 913 = .ok (.iadd, 1) := by decide +kernel
theorem dL_law_914 : decode cL_law 914 = .ok (.iaload, 1) := by decide +kernel
theorem dL_law_915 : decode cL_law 915 = .ok (.aload_n 3, 1) := by decide +kernel
theorem dL_law_916 : decode cL_law 916 = .ok (.invokestatic 136, 3) := by decide +kernel
theorem dL_law_919 : decode cL_law 919 = .ok (.istore 6, 2) := by decide +kernel
theorem dL_law_921 : decode cL_law 921 = .ok (.aload_n 2, 1) := by decide +kernel
theorem dL_law_922 : decode cL_law 922 = .ok (.aload_n 0, 1) := by decide +kernel
theorem dL_law_923 : decode cL_law 923 = .ok (.iload 5, 2) := by decide +kernel
theorem dL_law_925 : decode cL_law 925 = .ok (.iconst 1, 1) := by decide +kernel
theorem dL_law_926 : decode cL_law 926 = .ok (.iadd, 1) := by decide +kernel
theorem dL_law_927 : decode cL_law 927 = .ok (.iaload, 1) := by decide +kernel
theorem dL_law_928 : decode cL_law 928 = .ok (.invokevirtual 138, 3) := by decide +kernel
theorem dL_law_931 : decode cL_law 931 = .ok (.istore 7, 2) := by decide +kernel
theorem dL_law_933 : decode cL_law 933 = .ok (.aload_n 2, 1) := by decide +kernel
theorem dL_law_934 : decode cL_law 934 = .ok (.invokevirtual 82, 3) := by decide +kernel
theorem dL_law_937 : decode cL_law 937 = .ok (.iload 6, 2) := by decide +kernel
theorem dL_law_939 : decode cL_law 939 = .ok (.if_icmp .eq 5, 3) := by decide +kernel
theorem dL_law_942 : decode cL_law 942 = .ok (.iconst 0, 1) := by decide +kernel
theorem dL_law_943 : decode cL_law 943 = .ok (.ireturn, 1) := by decide +kernel
theorem dL_law_944 : decode cL_law 944 = .ok (.iload 6, 2) := by decide +kernel
theorem dL_law_946 : decode cL_law 946 = .ok (.ifCond .ne 15, 3) := by decide +kernel
theorem dL_law_949 : decode cL_law 949 = .ok (.aload_n 3, 1) := by decide +kernel
theorem dL_law_950 : decode cL_law 950 = .ok (.iconst 0, 1) := by decide +kernel
theorem dL_law_951 : decode cL_law 951 = .ok (.laload, 1) := by decide +kernel
theorem dL_law_952 : decode cL_law 952 = .ok (.iload 7, 2) := by decide +kernel
theorem dL_law_954 : decode cL_law 954 = .ok (.i2l, 1) := by decide +kernel
theorem dL_law_955 : decode cL_law 955 = .ok (.lcmp, 1) := by decide +kernel
theorem dL_law_956 : decode cL_law 956 = .ok (.ifCond .eq 5, 3) := by decide +kernel
theorem dL_law_959 : decode cL_law 959 = .ok (.iconst 0, 1) := by decide +kernel
theorem dL_law_960 : decode cL_law 960 = .ok (.ireturn, 1) := by decide +kernel
theorem dL_law_961 : decode cL_law 961 = .ok (.goto 356, 3) := by decide +kernel
theorem dL_law_964 : decode cL_law 964 = .ok (.aload_n 1, 1) := by decide +kernel
theorem dL_law_965 : decode cL_law 965 = .ok (.aload_n 0, 1) := by decide +kernel
theorem dL_law_966 : decode cL_law 966 = .ok (.iload 5, 2) := by decide +kernel
theorem dL_law_968 : decode cL_law 968 = .ok (.iconst 1, 1) := by decide +kernel
theorem dL_law_969 : decode cL_law 969 = .ok (.iadd, 1) := by decide +kernel
theorem dL_law_970 : decode cL_law 970 = .ok (.iaload, 1) := by decide +kernel
theorem dL_law_971 : decode cL_law 971 = .ok (.aload_n 0, 1) := by decide +kernel
theorem dL_law_972 : decode cL_law 972 = .ok (.iload 5, 2) := by decide +kernel
theorem dL_law_974 : decode cL_law 974 = .ok (.iconst 2, 1) := by decide +kernel
theorem dL_law_975 : decode cL_law 975 = .ok (.iadd, 1) := by decide +kernel
theorem dL_law_976 : decode cL_law 976 = .ok (.iaload, 1) := by decide +kernel
theorem dL_law_977 : decode cL_law 977 = .ok (.aload_n 0, 1) := by decide +kernel
theorem dL_law_978 : decode cL_law 978 = .ok (.iload 5, 2) := by decide +kernel
theorem dL_law_980 : decode cL_law 980 = .ok (.iconst 3, 1) := by decide +kernel
theorem dL_law_981 : decode cL_law 981 = .ok (.iadd, 1) := by decide +kernel
theorem dL_law_982 : decode cL_law 982 = .ok (.iaload, 1) := by decide +kernel
theorem dL_law_983 : decode cL_law 983 = .ok (.aload_n 3, 1) := by decide +kernel
theorem dL_law_984 : decode cL_law 984 = .ok (.invokestatic 139, 3) := by decide +kernel
theorem dL_law_987 : decode cL_law 987 = .ok (.istore 6, 2) := by decide +kernel
theorem dL_law_989 : decode cL_law 989 = .ok (.aload_n 2, 1) := by decide +kernel
theorem dL_law_990 : decode cL_law 990 = .ok (.aload_n 0, 1) := by decide +kernel
theorem dL_law_991 : decode cL_law 991 = .ok (.iload 5, 2) := by decide +kernel
theorem dL_law_993 : decode cL_law 993 = .ok (.iconst 1, 1) := by decide +kernel
theorem dL_law_994 : decode cL_law 994 = .ok (.iadd, 1) := by decide +kernel
theorem dL_law_995 : decode cL_law 995 = .ok (.iaload, 1) := by decide +kernel
theorem dL_law_996 : decode cL_law 996 = .ok (.aload_n 0, 1) := by decide +kernel
theorem dL_law_997 : decode cL_law 997 = .ok (.iload 5, 2) := by decide +kernel
theorem dL_law_999 : decode cL_law 999 = .ok (.iconst 2, 1) := by decide +kernel
theorem dL_law_1000 : decode cL_law 1000 = .ok (.iadd, 1) := by decide +kernel
theorem dL_law_1001 : decode cL_law 1001 = .ok (.iaload, 1) := by decide +kernel
theorem dL_law_1002 : decode cL_law 1002 = .ok (.aload_n 0, 1) := by decide +kernel
theorem dL_law_1003 : decode cL_law 1003 = .ok (.iload 5, 2) := by decide +kernel
theorem dL_law_1005 : decode cL_law 1005 = .ok (.iconst 3, 1) := by decide +kernel
theorem dL_law_1006 : decode cL_law 1006 = .ok (.iadd, 1) := by decide +kernel
theorem dL_law_1007 : decode cL_law 1007 = .ok (.iaload, 1) := by decide +kernel
theorem dL_law_1008 : decode cL_law 1008 = .ok (.invokevirtual 141, 3) := by decide +kernel
theorem dL_law_1011 : decode cL_law 1011 = .ok (.istore 7, 2) := by decide +kernel
theorem dL_law_1013 : decode cL_law 1013 = .ok (.aload_n 2, 1) := by decide +kernel
theorem dL_law_1014 : decode cL_law 1014 = .ok (.invokevirtual 82, 3) := by decide +kernel
theorem dL_law_1017 : decode cL_law 1017 = .ok (.iload 6, 2) := by decide +kernel
theorem dL_law_1019 : decode cL_law 1019 = .ok (.if_icmp .eq 5, 3) := by decide +kernel
theorem dL_law_1022 : decode cL_law 1022 = .ok (.iconst 0, 1) := by decide +kernel
theorem dL_law_1023 : decode cL_law 1023 = .ok (.ireturn, 1) := by decide +kernel
theorem dL_law_1024 : decode cL_law 1024 = .ok (.iload 6, 2) := by decide +kernel
theorem dL_law_1026 : decode cL_law 1026 = .ok (.ifCond .ne 15, 3) := by decide +kernel
theorem dL_law_1029 : decode cL_law 1029 = .ok (.aload_n 3, 1) := by decide +kernel
theorem dL_law_1030 : decode cL_law 1030 = .ok (.iconst 0, 1) := by decide +kernel
theorem dL_law_1031 : decode cL_law 1031 = .ok (.laload, 1) := by decide +kernel
theorem dL_law_1032 : decode cL_law 1032 = .ok (.iload 7, 2) := by decide +kernel
theorem dL_law_1034 : decode cL_law 1034 = .ok (.i2l, 1) := by decide +kernel
theorem dL_law_1035 : decode cL_law 1035 = .ok (.lcmp, 1) := by decide +kernel
theorem dL_law_1036 : decode cL_law 1036 = .ok (.ifCond .eq 5, 3) := by decide +kernel
theorem dL_law_1039 : decode cL_law 1039 = .ok (.iconst 0, 1) := by decide +kernel
theorem dL_law_1040 : decode cL_law 1040 = .ok (.ireturn, 1) := by decide +kernel
theorem dL_law_1041 : decode cL_law 1041 = .ok (.goto 276, 3) := by decide +kernel
theorem dL_law_1044 : decode cL_law 1044 = .ok (.aload_n 1, 1) := by decide +kernel
theorem dL_law_1045 : decode cL_law 1045 = .ok (.aload_n 0, 1) := by decide +kernel
theorem dL_law_1046 : decode cL_law 1046 = .ok (.iload 5, 2) := by decide +kernel
theorem dL_law_1048 : decode cL_law 1048 = .ok (.iconst 1, 1) := by decide +kernel
theorem dL_law_1049 : decode cL_law 1049 = .ok (.iadd, 1) := by decide +kernel
theorem dL_law_1050 : decode cL_law 1050 = .ok (.iaload, 1) := by decide +kernel
theorem dL_law_1051 : decode cL_law 1051 = .ok (.aload_n 3, 1) := by decide +kernel
theorem dL_law_1052 : decode cL_law 1052 = .ok (.invokestatic 142, 3) := by decide +kernel
theorem dL_law_1055 : decode cL_law 1055 = .ok (.istore 6, 2) := by decide +kernel
theorem dL_law_1057 : decode cL_law 1057 = .ok (.aload_n 2, 1) := by decide +kernel
theorem dL_law_1058 : decode cL_law 1058 = .ok (.aload_n 0, 1) := by decide +kernel
theorem dL_law_1059 : decode cL_law 1059 = .ok (.iload 5, 2) := by decide +kernel
theorem dL_law_1061 : decode cL_law 1061 = .ok (.iconst 1, 1) := by decide +kernel
theorem dL_law_1062 : decode cL_law 1062 = .ok (.iadd, 1) := by decide +kernel
theorem dL_law_1063 : decode cL_law 1063 = .ok (.iaload, 1) := by decide +kernel
theorem dL_law_1064 : decode cL_law 1064 = .ok (.invokevirtual 144, 3) := by decide +kernel
theorem dL_law_1067 : decode cL_law 1067 = .ok (.istore 7, 2) := by decide +kernel
theorem dL_law_1069 : decode cL_law 1069 = .ok (.aload_n 2, 1) := by decide +kernel
theorem dL_law_1070 : decode cL_law 1070 = .ok (.invokevirtual 82, 3) := by decide +kernel
theorem dL_law_1073 : decode cL_law 1073 = .ok (.iload 6, 2) := by decide +kernel
theorem dL_law_1075 : decode cL_law 1075 = .ok (.if_icmp .eq 5, 3) := by decide +kernel
theorem dL_law_1078 : decode cL_law 1078 = .ok (.iconst 0, 1) := by decide +kernel
theorem dL_law_1079 : decode cL_law 1079 = .ok (.ireturn, 1) := by decide +kernel
theorem dL_law_1080 : decode cL_law 1080 = .ok (.iload 6, 2) := by decide +kernel
theorem dL_law_1082 : decode cL_law 1082 = .ok (.ifCond .ne 15, 3) := by decide +kernel
theorem dL_law_1085 : decode cL_law 1085 = .ok (.aload_n 3, 1) := by decide +kernel
theorem dL_law_1086 : decode cL_law 1086 = .ok (.iconst 0, 1) := by decide +kernel
theorem dL_law_1087 : decode cL_law 1087 = .ok (.laload, 1) := by decide +kernel
theorem dL_law_1088 : decode cL_law 1088 = .ok (.iload 7, 2) := by decide +kernel
theorem dL_law_1090 : decode cL_law 1090 = .ok (.i2l, 1) := by decide +kernel
theorem dL_law_1091 : decode cL_law 1091 = .ok (.lcmp, 1) := by decide +kernel
theorem dL_law_1092 : decode cL_law 1092 = .ok (.ifCond .eq 5, 3) := by decide +kernel
theorem dL_law_1095 : decode cL_law 1095 = .ok (.iconst 0, 1) := by decide +kernel
theorem dL_law_1096 : decode cL_law 1096 = .ok (.ireturn, 1) := by decide +kernel
theorem dL_law_1097 : decode cL_law 1097 = .ok (.goto 220, 3) := by decide +kernel
theorem dL_law_1100 : decode cL_law 1100 = .ok (.aload_n 1, 1) := by decide +kernel
theorem dL_law_1101 : decode cL_law 1101 = .ok (.aload_n 0, 1) := by decide +kernel
theorem dL_law_1102 : decode cL_law 1102 = .ok (.iload 5, 2) := by decide +kernel
theorem dL_law_1104 : decode cL_law 1104 = .ok (.iconst 1, 1) := by decide +kernel
theorem dL_law_1105 : decode cL_law 1105 = .ok (.iadd, 1) := by decide +kernel
theorem dL_law_1106 : decode cL_law 1106 = .ok (.iaload, 1) := by decide +kernel
theorem dL_law_1107 : decode cL_law 1107 = .ok (.aload 4, 2) := by decide +kernel
theorem dL_law_1109 : decode cL_law 1109 = .ok (.invokestatic 145, 3) := by decide +kernel
theorem dL_law_1112 : decode cL_law 1112 = .ok (.istore 6, 2) := by decide +kernel
theorem dL_law_1114 : decode cL_law 1114 = .ok (.aload_n 2, 1) := by decide +kernel
theorem dL_law_1115 : decode cL_law 1115 = .ok (.aload_n 0, 1) := by decide +kernel
theorem dL_law_1116 : decode cL_law 1116 = .ok (.iload 5, 2) := by decide +kernel
theorem dL_law_1118 : decode cL_law 1118 = .ok (.iconst 1, 1) := by decide +kernel
theorem dL_law_1119 : decode cL_law 1119 = .ok (.iadd, 1) := by decide +kernel
theorem dL_law_1120 : decode cL_law 1120 = .ok (.iaload, 1) := by decide +kernel
theorem dL_law_1121 : decode cL_law 1121 = .ok (.invokevirtual 148, 3) := by decide +kernel
theorem dL_law_1124 : decode cL_law 1124 = .ok (.fstore 7, 2) := by decide +kernel
theorem dL_law_1126 : decode cL_law 1126 = .ok (.aload_n 2, 1) := by decide +kernel
theorem dL_law_1127 : decode cL_law 1127 = .ok (.invokevirtual 82, 3) := by decide +kernel
theorem dL_law_1130 : decode cL_law 1130 = .ok (.iload 6, 2) := by decide +kernel
theorem dL_law_1132 : decode cL_law 1132 = .ok (.if_icmp .eq 5, 3) := by decide +kernel
theorem dL_law_1135 : decode cL_law 1135 = .ok (.iconst 0, 1) := by decide +kernel
theorem dL_law_1136 : decode cL_law 1136 = .ok (.ireturn, 1) := by decide +kernel
theorem dL_law_1137 : decode cL_law 1137 = .ok (.iload 6, 2) := by decide +kernel
theorem dL_law_1139 : decode cL_law 1139 = .ok (.ifCond .ne 36, 3) := by decide +kernel
theorem dL_law_1142 : decode cL_law 1142 = .ok (.aload 4, 2) := by decide +kernel
theorem dL_law_1144 : decode cL_law 1144 = .ok (.iconst 0, 1) := by decide +kernel
theorem dL_law_1145 : decode cL_law 1145 = .ok (.daload, 1) := by decide +kernel
theorem dL_law_1146 : decode cL_law 1146 = .ok (.fload 7, 2) := by decide +kernel
theorem dL_law_1148 : decode cL_law 1148 = .ok (.f2d, 1) := by decide +kernel
theorem dL_law_1149 : decode cL_law 1149 = .ok (.dcmp .l, 1) := by decide +kernel
theorem dL_law_1150 : decode cL_law 1150 = .ok (.ifCond .eq 25, 3) := by decide +kernel
theorem dL_law_1153 : decode cL_law 1153 = .ok (.aload 4, 2) := by decide +kernel
theorem dL_law_1155 : decode cL_law 1155 = .ok (.iconst 0, 1) := by decide +kernel
theorem dL_law_1156 : decode cL_law 1156 = .ok (.daload, 1) := by decide +kernel
theorem dL_law_1157 : decode cL_law 1157 = .ok (.aload 4, 2) := by decide +kernel
theorem dL_law_1159 : decode cL_law 1159 = .ok (.iconst 0, 1) := by decide +kernel
theorem dL_law_1160 : decode cL_law 1160 = .ok (.daload, 1) := by decide +kernel
theorem dL_law_1161 : decode cL_law 1161 = .ok (.dcmp .l, 1) := by decide +kernel
theorem dL_law_1162 : decode cL_law 1162 = .ok (.ifCond .eq 11, 3) := by decide +kernel
theorem dL_law_1165 : decode cL_law 1165 = .ok (.fload 7, 2) := by decide +kernel
theorem dL_law_1167 : decode cL_law 1167 = .ok (.fload 7, 2) := by decide +kernel
theorem dL_law_1169 : decode cL_law 1169 = .ok (.fcmp .l, 1) := by decide +kernel
theorem dL_law_1170 : decode cL_law 1170 = .ok (.ifCond .ne 5, 3) := by decide +kernel
theorem dL_law_1173 : decode cL_law 1173 = .ok (.iconst 0, 1) := by decide +kernel
theorem dL_law_1174 : decode cL_law 1174 = .ok (.ireturn, 1) := by decide +kernel
theorem dL_law_1175 : decode cL_law 1175 = .ok (.goto 142, 3) := by decide +kernel
theorem dL_law_1178 : decode cL_law 1178 = .ok (.aload_n 1, 1) := by decide +kernel
theorem dL_law_1179 : decode cL_law 1179 = .ok (.aload_n 0, 1) := by decide +kernel
theorem dL_law_1180 : decode cL_law 1180 = .ok (.iload 5, 2) := by decide +kernel
theorem dL_law_1182 : decode cL_law 1182 = .ok (.iconst 1, 1) := by decide +kernel
theorem dL_law_1183 : decode cL_law 1183 = .ok (.iadd, 1) := by decide +kernel
theorem dL_law_1184 : decode cL_law 1184 = .ok (.iaload, 1) := by decide +kernel
theorem dL_law_1185 : decode cL_law 1185 = .ok (.aload_n 3, 1) := by decide +kernel
theorem dL_law_1186 : decode cL_law 1186 = .ok (.invokestatic 149, 3) := by decide +kernel
theorem dL_law_1189 : decode cL_law 1189 = .ok (.istore 6, 2) := by decide +kernel
theorem dL_law_1191 : decode cL_law 1191 = .ok (.aload_n 2, 1) := by decide +kernel
theorem dL_law_1192 : decode cL_law 1192 = .ok (.aload_n 0, 1) := by decide +kernel
theorem dL_law_1193 : decode cL_law 1193 = .ok (.iload 5, 2) := by decide +kernel
theorem dL_law_1195 : decode cL_law 1195 = .ok (.iconst 1, 1) := by decide +kernel
theorem dL_law_1196 : decode cL_law 1196 = .ok (.iadd, 1) := by decide +kernel
theorem dL_law_1197 : decode cL_law 1197 = .ok (.iaload, 1) := by decide +kernel
theorem dL_law_1198 : decode cL_law 1198 = .ok (.invokevirtual 151, 3) := by decide +kernel
theorem dL_law_1201 : decode cL_law 1201 = .ok (.istore 7, 2) := by decide +kernel
theorem dL_law_1203 : decode cL_law 1203 = .ok (.aload_n 2, 1) := by decide +kernel
theorem dL_law_1204 : decode cL_law 1204 = .ok (.invokevirtual 82, 3) := by decide +kernel
theorem dL_law_1207 : decode cL_law 1207 = .ok (.iload 6, 2) := by decide +kernel
theorem dL_law_1209 : decode cL_law 1209 = .ok (.if_icmp .eq 5, 3) := by decide +kernel
theorem dL_law_1212 : decode cL_law 1212 = .ok (.iconst 0, 1) := by decide +kernel
theorem dL_law_1213 : decode cL_law 1213 = .ok (.ireturn, 1) := by decide +kernel
theorem dL_law_1214 : decode cL_law 1214 = .ok (.iload 6, 2) := by decide +kernel
theorem dL_law_1216 : decode cL_law 1216 = .ok (.ifCond .ne 15, 3) := by decide +kernel
theorem dL_law_1219 : decode cL_law 1219 = .ok (.aload_n 3, 1) := by decide +kernel
theorem dL_law_1220 : decode cL_law 1220 = .ok (.iconst 0, 1) := by decide +kernel
theorem dL_law_1221 : decode cL_law 1221 = .ok (.laload, 1) := by decide +kernel
theorem dL_law_1222 : decode cL_law 1222 = .ok (.iload 7, 2) := by decide +kernel
theorem dL_law_1224 : decode cL_law 1224 = .ok (.i2l, 1) := by decide +kernel
theorem dL_law_1225 : decode cL_law 1225 = .ok (.lcmp, 1) := by decide +kernel
theorem dL_law_1226 : decode cL_law 1226 = .ok (.ifCond .eq 5, 3) := by decide +kernel
theorem dL_law_1229 : decode cL_law 1229 = .ok (.iconst 0, 1) := by decide +kernel
theorem dL_law_1230 : decode cL_law 1230 = .ok (.ireturn, 1) := by decide +kernel
theorem dL_law_1231 : decode cL_law 1231 = .ok (.goto 86, 3) := by decide +kernel
theorem dL_law_1234 : decode cL_law 1234 = .ok (.aload_n 1, 1) := by decide +kernel
theorem dL_law_1235 : decode cL_law 1235 = .ok (.aload_n 0, 1) := by decide +kernel
theorem dL_law_1236 : decode cL_law 1236 = .ok (.iload 5, 2) := by decide +kernel
theorem dL_law_1238 : decode cL_law 1238 = .ok (.iconst 1, 1) := by decide +kernel
theorem dL_law_1239 : decode cL_law 1239 = .ok (.iadd, 1) := by decide +kernel
theorem dL_law_1240 : decode cL_law 1240 = .ok (.iaload, 1) := by decide +kernel
theorem dL_law_1241 : decode cL_law 1241 = .ok (.aload_n 3, 1) := by decide +kernel
theorem dL_law_1242 : decode cL_law 1242 = .ok (.invokestatic 152, 3) := by decide +kernel
theorem dL_law_1245 : decode cL_law 1245 = .ok (.istore 6, 2) := by decide +kernel
theorem dL_law_1247 : decode cL_law 1247 = .ok (.aload_n 2, 1) := by decide +kernel
theorem dL_law_1248 : decode cL_law 1248 = .ok (.aload_n 0, 1) := by decide +kernel
theorem dL_law_1249 : decode cL_law 1249 = .ok (.iload 5, 2) := by decide +kernel
theorem dL_law_1251 : decode cL_law 1251 = .ok (.iconst 1, 1) := by decide +kernel
theorem dL_law_1252 : decode cL_law 1252 = .ok (.iadd, 1) := by decide +kernel
theorem dL_law_1253 : decode cL_law 1253 = .ok (.iaload, 1) := by decide +kernel
theorem dL_law_1254 : decode cL_law 1254 = .ok (.invokevirtual 154, 3) := by decide +kernel
theorem dL_law_1257 : decode cL_law 1257 = .ok (.istore 7, 2) := by decide +kernel
theorem dL_law_1259 : decode cL_law 1259 = .ok (.aload_n 2, 1) := by decide +kernel
theorem dL_law_1260 : decode cL_law 1260 = .ok (.invokevirtual 82, 3) := by decide +kernel
theorem dL_law_1263 : decode cL_law 1263 = .ok (.iload 6, 2) := by decide +kernel
theorem dL_law_1265 : decode cL_law 1265 = .ok (.if_icmp .eq 5, 3) := by decide +kernel
theorem dL_law_1268 : decode cL_law 1268 = .ok (.iconst 0, 1) := by decide +kernel
theorem dL_law_1269 : decode cL_law 1269 = .ok (.ireturn, 1) := by decide +kernel
theorem dL_law_1270 : decode cL_law 1270 = .ok (.iload 6, 2) := by decide +kernel
theorem dL_law_1272 : decode cL_law 1272 = .ok (.ifCond .ne 15, 3) := by decide +kernel
theorem dL_law_1275 : decode cL_law 1275 = .ok (.aload_n 3, 1) := by decide +kernel
theorem dL_law_1276 : decode cL_law 1276 = .ok (.iconst 0, 1) := by decide +kernel
theorem dL_law_1277 : decode cL_law 1277 = .ok (.laload, 1) := by decide +kernel
theorem dL_law_1278 : decode cL_law 1278 = .ok (.iload 7, 2) := by decide +kernel
theorem dL_law_1280 : decode cL_law 1280 = .ok (.i2l, 1) := by decide +kernel
theorem dL_law_1281 : decode cL_law 1281 = .ok (.lcmp, 1) := by decide +kernel
theorem dL_law_1282 : decode cL_law 1282 = .ok (.ifCond .eq 5, 3) := by decide +kernel
theorem dL_law_1285 : decode cL_law 1285 = .ok (.iconst 0, 1) := by decide +kernel
theorem dL_law_1286 : decode cL_law 1286 = .ok (.ireturn, 1) := by decide +kernel
theorem dL_law_1287 : decode cL_law 1287 = .ok (.goto 30, 3) := by decide +kernel
theorem dL_law_1290 : decode cL_law 1290 = .ok (.aload_n 1, 1) := by decide +kernel
theorem dL_law_1291 : decode cL_law 1291 = .ok (.invokevirtual 155, 3) := by decide +kernel
theorem dL_law_1294 : decode cL_law 1294 = .ok (.aload_n 2, 1) := by decide +kernel
theorem dL_law_1295 : decode cL_law 1295 = .ok (.invokevirtual 158, 3) := by decide +kernel
theorem dL_law_1298 : decode cL_law 1298 = .ok (.if_icmp .eq 19, 3) := by decide +kernel
theorem dL_law_1301 : decode cL_law 1301 = .ok (.iconst 0, 1) := by decide +kernel
theorem dL_law_1302 : decode cL_law 1302 = .ok (.ireturn, 1) := by decide +kernel
theorem dL_law_1303 : decode cL_law 1303 = .ok (.aload_n 1, 1) := by decide +kernel
theorem dL_law_1304 : decode cL_law 1304 = .ok (.invokevirtual 159, 3) := by decide +kernel
theorem dL_law_1307 : decode cL_law 1307 = .ok (.aload_n 2, 1) := by decide +kernel
theorem dL_law_1308 : decode cL_law 1308 = .ok (.invokevirtual 163, 3) := by decide +kernel
theorem dL_law_1311 : decode cL_law 1311 = .ok (.lcmp, 1) := by decide +kernel
theorem dL_law_1312 : decode cL_law 1312 = .ok (.ifCond .eq 5, 3) := by decide +kernel
theorem dL_law_1315 : decode cL_law 1315 = .ok (.iconst 0, 1) := by decide +kernel
theorem dL_law_1316 : decode cL_law 1316 = .ok (.ireturn, 1) := by decide +kernel
theorem dL_law_1317 : decode cL_law 1317 = .ok (.iinc 5 5, 3) := by decide +kernel
theorem dL_law_1320 : decode cL_law 1320 = .ok (.goto (-1292), 3) := by decide +kernel
theorem dL_law_1323 : decode cL_law 1323 = .ok (.iconst 1, 1) := by decide +kernel
theorem dL_law_1324 : decode cL_law 1324 = .ok (.ireturn, 1) := by decide +kernel
abbrev vwCl : List vw_C := [(RX0, TX0, 5), (RX1, TX1, 6), (RX2, TX2, 7), (RX3, TX3, 2), (RX4, TX4, 1), (RX5, TX5, 14), (RX6, TX6, 22)]
