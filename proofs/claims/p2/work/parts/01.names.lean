-- ===== PART A: goes FIRST, ahead of the names: the tables' words, and 'selects' of the private methods out of them =====
/-- a private method of a class that the tables say can be made, by its rows of tables_1 -/
def lw_okq (q : MethodName × Nat) : Prop := (q.1.cls ≠ "java/lang/invoke/MethodHandle" ∧ q.1.cls ≠ "java/lang/invoke/VarHandle") ∧ Cond.instantiable q.1.cls q.2 ∈ tables_1 ∧ Cond.privateMethod q.1 ∈ tables_1 ∧ Cond.instanceMethod q.1 ∈ tables_1
theorem lw_p0 : lw_okq (⟨"ReadAloud$Told", "putBytes", "(I)V"⟩, 8) := ⟨⟨by decide +kernel, by decide +kernel⟩, List.mem_of_getElem? (i := 31) (by decide +kernel), List.mem_of_getElem? (i := 176) (by decide +kernel), List.mem_of_getElem? (i := 177) (by decide +kernel)⟩
theorem lw_p1 : lw_okq (⟨"ReadAloud", "tellInto", "(III)Z"⟩, 8) := ⟨⟨by decide +kernel, by decide +kernel⟩, List.mem_of_getElem? (i := 23) (by decide +kernel), List.mem_of_getElem? (i := 188) (by decide +kernel), List.mem_of_getElem? (i := 189) (by decide +kernel)⟩
theorem lw_p2 : lw_okq (⟨"ReadAloud$Teller", "tell", "([BILReadAloud$Lines;)Z"⟩, 8) := ⟨⟨by decide +kernel, by decide +kernel⟩, List.mem_of_getElem? (i := 79) (by decide +kernel), List.mem_of_getElem? (i := 231) (by decide +kernel), List.mem_of_getElem? (i := 232) (by decide +kernel)⟩
theorem lw_p3 : lw_okq (⟨"ReadAloud$Teller", "advance", "()V"⟩, 8) := ⟨⟨by decide +kernel, by decide +kernel⟩, List.mem_of_getElem? (i := 79) (by decide +kernel), List.mem_of_getElem? (i := 235) (by decide +kernel), List.mem_of_getElem? (i := 236) (by decide +kernel)⟩
theorem lw_p4 : lw_okq (⟨"ReadAloud$Teller", "isLetter", "(I)Z"⟩, 8) := ⟨⟨by decide +kernel, by decide +kernel⟩, List.mem_of_getElem? (i := 79) (by decide +kernel), List.mem_of_getElem? (i := 239) (by decide +kernel), List.mem_of_getElem? (i := 240) (by decide +kernel)⟩
theorem lw_p5 : lw_okq (⟨"ReadAloud$Teller", "isDigit", "(I)Z"⟩, 8) := ⟨⟨by decide +kernel, by decide +kernel⟩, List.mem_of_getElem? (i := 79) (by decide +kernel), List.mem_of_getElem? (i := 243) (by decide +kernel), List.mem_of_getElem? (i := 244) (by decide +kernel)⟩
theorem lw_p6 : lw_okq (⟨"ReadAloud$Teller", "advanceDigits", "()V"⟩, 8) := ⟨⟨by decide +kernel, by decide +kernel⟩, List.mem_of_getElem? (i := 79) (by decide +kernel), List.mem_of_getElem? (i := 247) (by decide +kernel), List.mem_of_getElem? (i := 248) (by decide +kernel)⟩
theorem lw_p7 : lw_okq (⟨"ReadAloud$Teller", "tellLine", "(LReadAloud$Lines;)Z"⟩, 8) := ⟨⟨by decide +kernel, by decide +kernel⟩, List.mem_of_getElem? (i := 79) (by decide +kernel), List.mem_of_getElem? (i := 251) (by decide +kernel), List.mem_of_getElem? (i := 252) (by decide +kernel)⟩
theorem lw_p8 : lw_okq (⟨"ReadAloud$Teller", "isAtHand", "(Ljava/lang/String;)Z"⟩, 8) := ⟨⟨by decide +kernel, by decide +kernel⟩, List.mem_of_getElem? (i := 79) (by decide +kernel), List.mem_of_getElem? (i := 262) (by decide +kernel), List.mem_of_getElem? (i := 263) (by decide +kernel)⟩
theorem lw_p9 : lw_okq (⟨"ReadAloud$Teller", "faultHere", "(I)V"⟩, 8) := ⟨⟨by decide +kernel, by decide +kernel⟩, List.mem_of_getElem? (i := 79) (by decide +kernel), List.mem_of_getElem? (i := 342) (by decide +kernel), List.mem_of_getElem? (i := 343) (by decide +kernel)⟩
theorem lw_p10 : lw_okq (⟨"ReadAloud$Book", "beginStep", "(ILReadAloud$Teller;)V"⟩, 7) := ⟨⟨by decide +kernel, by decide +kernel⟩, List.mem_of_getElem? (i := 192) (by decide +kernel), List.mem_of_getElem? (i := 346) (by decide +kernel), List.mem_of_getElem? (i := 347) (by decide +kernel)⟩
theorem lw_p11 : lw_okq (⟨"ReadAloud$Teller", "isWithin", "(II)Z"⟩, 8) := ⟨⟨by decide +kernel, by decide +kernel⟩, List.mem_of_getElem? (i := 79) (by decide +kernel), List.mem_of_getElem? (i := 376) (by decide +kernel), List.mem_of_getElem? (i := 377) (by decide +kernel)⟩
theorem lw_p12 : lw_okq (⟨"ReadAloud$Book", "keepNumber", "(III)V"⟩, 7) := ⟨⟨by decide +kernel, by decide +kernel⟩, List.mem_of_getElem? (i := 192) (by decide +kernel), List.mem_of_getElem? (i := 381) (by decide +kernel), List.mem_of_getElem? (i := 382) (by decide +kernel)⟩
theorem lw_p13 : lw_okq (⟨"ReadAloud", "bookAt", "(I)LReadAloud$Book;"⟩, 8) := ⟨⟨by decide +kernel, by decide +kernel⟩, List.mem_of_getElem? (i := 23) (by decide +kernel), List.mem_of_getElem? (i := 468) (by decide +kernel), List.mem_of_getElem? (i := 469) (by decide +kernel)⟩
theorem lw_p14 : lw_okq (⟨"ReadAloud$Book", "tells", "(I)I"⟩, 7) := ⟨⟨by decide +kernel, by decide +kernel⟩, List.mem_of_getElem? (i := 192) (by decide +kernel), List.mem_of_getElem? (i := 472) (by decide +kernel), List.mem_of_getElem? (i := 473) (by decide +kernel)⟩
theorem lw_p15 : lw_okq (⟨"ReadAloud$Book", "tellsStep", "(II)I"⟩, 7) := ⟨⟨by decide +kernel, by decide +kernel⟩, List.mem_of_getElem? (i := 192) (by decide +kernel), List.mem_of_getElem? (i := 476) (by decide +kernel), List.mem_of_getElem? (i := 477) (by decide +kernel)⟩
def lw_privs_1 : List (MethodName × Nat) := [(⟨"ReadAloud$Told", "putBytes", "(I)V"⟩, 8), (⟨"ReadAloud", "tellInto", "(III)Z"⟩, 8), (⟨"ReadAloud$Teller", "tell", "([BILReadAloud$Lines;)Z"⟩, 8), (⟨"ReadAloud$Teller", "advance", "()V"⟩, 8), (⟨"ReadAloud$Teller", "isLetter", "(I)Z"⟩, 8), (⟨"ReadAloud$Teller", "isDigit", "(I)Z"⟩, 8), (⟨"ReadAloud$Teller", "advanceDigits", "()V"⟩, 8), (⟨"ReadAloud$Teller", "tellLine", "(LReadAloud$Lines;)Z"⟩, 8), (⟨"ReadAloud$Teller", "isAtHand", "(Ljava/lang/String;)Z"⟩, 8), (⟨"ReadAloud$Teller", "faultHere", "(I)V"⟩, 8), (⟨"ReadAloud$Book", "beginStep", "(ILReadAloud$Teller;)V"⟩, 7), (⟨"ReadAloud$Teller", "isWithin", "(II)Z"⟩, 8), (⟨"ReadAloud$Book", "keepNumber", "(III)V"⟩, 7), (⟨"ReadAloud", "bookAt", "(I)LReadAloud$Book;"⟩, 8), (⟨"ReadAloud$Book", "tells", "(I)I"⟩, 7), (⟨"ReadAloud$Book", "tellsStep", "(II)I"⟩, 7)]
theorem lw_r1 : ∀ q ∈ lw_privs_1, lw_okq q := List.forall_mem_cons.mpr ⟨lw_p0, List.forall_mem_cons.mpr ⟨lw_p1, List.forall_mem_cons.mpr ⟨lw_p2, List.forall_mem_cons.mpr ⟨lw_p3, List.forall_mem_cons.mpr ⟨lw_p4, List.forall_mem_cons.mpr ⟨lw_p5, List.forall_mem_cons.mpr ⟨lw_p6, List.forall_mem_cons.mpr ⟨lw_p7, List.forall_mem_cons.mpr ⟨lw_p8, List.forall_mem_cons.mpr ⟨lw_p9, List.forall_mem_cons.mpr ⟨lw_p10, List.forall_mem_cons.mpr ⟨lw_p11, List.forall_mem_cons.mpr ⟨lw_p12, List.forall_mem_cons.mpr ⟨lw_p13, List.forall_mem_cons.mpr ⟨lw_p14, List.forall_mem_cons.mpr ⟨lw_p15, fun _ h => absurd h List.not_mem_nil⟩⟩⟩⟩⟩⟩⟩⟩⟩⟩⟩⟩⟩⟩⟩⟩
theorem lw_p16 : lw_okq (⟨"ReadAloud$Book", "hasReader", "(I)Z"⟩, 7) := ⟨⟨by decide +kernel, by decide +kernel⟩, List.mem_of_getElem? (i := 192) (by decide +kernel), List.mem_of_getElem? (i := 480) (by decide +kernel), List.mem_of_getElem? (i := 481) (by decide +kernel)⟩
theorem lw_p17 : lw_okq (⟨"ReadAloud$Book", "readBy", "(II)I"⟩, 7) := ⟨⟨by decide +kernel, by decide +kernel⟩, List.mem_of_getElem? (i := 192) (by decide +kernel), List.mem_of_getElem? (i := 518) (by decide +kernel), List.mem_of_getElem? (i := 519) (by decide +kernel)⟩
theorem lw_p18 : lw_okq (⟨"ReadAloud$Book", "stepOn", "(III)I"⟩, 7) := ⟨⟨by decide +kernel, by decide +kernel⟩, List.mem_of_getElem? (i := 192) (by decide +kernel), List.mem_of_getElem? (i := 523) (by decide +kernel), List.mem_of_getElem? (i := 524) (by decide +kernel)⟩
theorem lw_p19 : lw_okq (⟨"ReadAloud$Book", "shifted", "(III)I"⟩, 7) := ⟨⟨by decide +kernel, by decide +kernel⟩, List.mem_of_getElem? (i := 192) (by decide +kernel), List.mem_of_getElem? (i := 530) (by decide +kernel), List.mem_of_getElem? (i := 531) (by decide +kernel)⟩
theorem lw_p20 : lw_okq (⟨"ReadAloud", "yearAt", "(I)LReadAloud$Year;"⟩, 8) := ⟨⟨by decide +kernel, by decide +kernel⟩, List.mem_of_getElem? (i := 23) (by decide +kernel), List.mem_of_getElem? (i := 554) (by decide +kernel), List.mem_of_getElem? (i := 555) (by decide +kernel)⟩
theorem lw_p21 : lw_okq (⟨"ReadAloud$Year", "tells", "(II)I"⟩, 4) := ⟨⟨by decide +kernel, by decide +kernel⟩, List.mem_of_getElem? (i := 414) (by decide +kernel), List.mem_of_getElem? (i := 558) (by decide +kernel), List.mem_of_getElem? (i := 559) (by decide +kernel)⟩
theorem lw_p22 : lw_okq (⟨"ReadAloud$Course", "begin", "(LReadAloud$Book;)V"⟩, 7) := ⟨⟨by decide +kernel, by decide +kernel⟩, List.mem_of_getElem? (i := 115) (by decide +kernel), List.mem_of_getElem? (i := 566) (by decide +kernel), List.mem_of_getElem? (i := 567) (by decide +kernel)⟩
theorem lw_p23 : lw_okq (⟨"ReadAloud$Course", "doFirst", "(LReadAloud$Year;I)I"⟩, 7) := ⟨⟨by decide +kernel, by decide +kernel⟩, List.mem_of_getElem? (i := 115) (by decide +kernel), List.mem_of_getElem? (i := 573) (by decide +kernel), List.mem_of_getElem? (i := 574) (by decide +kernel)⟩
theorem lw_p24 : lw_okq (⟨"ReadAloud$Course", "doDeed", "(III)Z"⟩, 7) := ⟨⟨by decide +kernel, by decide +kernel⟩, List.mem_of_getElem? (i := 115) (by decide +kernel), List.mem_of_getElem? (i := 577) (by decide +kernel), List.mem_of_getElem? (i := 578) (by decide +kernel)⟩
theorem lw_p25 : lw_okq (⟨"ReadAloud$Course", "doRead", "(II)Z"⟩, 7) := ⟨⟨by decide +kernel, by decide +kernel⟩, List.mem_of_getElem? (i := 115) (by decide +kernel), List.mem_of_getElem? (i := 581) (by decide +kernel), List.mem_of_getElem? (i := 582) (by decide +kernel)⟩
theorem lw_p26 : lw_okq (⟨"ReadAloud$Course", "doCopy", "(II)Z"⟩, 7) := ⟨⟨by decide +kernel, by decide +kernel⟩, List.mem_of_getElem? (i := 115) (by decide +kernel), List.mem_of_getElem? (i := 590) (by decide +kernel), List.mem_of_getElem? (i := 591) (by decide +kernel)⟩
theorem lw_p27 : lw_okq (⟨"ReadAloud$Course", "tells", "(I)I"⟩, 7) := ⟨⟨by decide +kernel, by decide +kernel⟩, List.mem_of_getElem? (i := 115) (by decide +kernel), List.mem_of_getElem? (i := 598) (by decide +kernel), List.mem_of_getElem? (i := 599) (by decide +kernel)⟩
theorem lw_p28 : lw_okq (⟨"ReadAloud$Course", "suits", "()I"⟩, 7) := ⟨⟨by decide +kernel, by decide +kernel⟩, List.mem_of_getElem? (i := 115) (by decide +kernel), List.mem_of_getElem? (i := 602) (by decide +kernel), List.mem_of_getElem? (i := 603) (by decide +kernel)⟩
theorem lw_p29 : lw_okq (⟨"ReadAloud$Course", "against", "()I"⟩, 7) := ⟨⟨by decide +kernel, by decide +kernel⟩, List.mem_of_getElem? (i := 115) (by decide +kernel), List.mem_of_getElem? (i := 606) (by decide +kernel), List.mem_of_getElem? (i := 607) (by decide +kernel)⟩
theorem lw_p30 : lw_okq (⟨"ReadAloud$Course", "driftOfCopy", "(I)I"⟩, 7) := ⟨⟨by decide +kernel, by decide +kernel⟩, List.mem_of_getElem? (i := 115) (by decide +kernel), List.mem_of_getElem? (i := 610) (by decide +kernel), List.mem_of_getElem? (i := 611) (by decide +kernel)⟩
theorem lw_p31 : lw_okq (⟨"ReadAloud", "readingsAt", "(I)LReadAloud$Readings;"⟩, 8) := ⟨⟨by decide +kernel, by decide +kernel⟩, List.mem_of_getElem? (i := 23) (by decide +kernel), List.mem_of_getElem? (i := 619) (by decide +kernel), List.mem_of_getElem? (i := 620) (by decide +kernel)⟩
def lw_privs_2 : List (MethodName × Nat) := [(⟨"ReadAloud$Book", "hasReader", "(I)Z"⟩, 7), (⟨"ReadAloud$Book", "readBy", "(II)I"⟩, 7), (⟨"ReadAloud$Book", "stepOn", "(III)I"⟩, 7), (⟨"ReadAloud$Book", "shifted", "(III)I"⟩, 7), (⟨"ReadAloud", "yearAt", "(I)LReadAloud$Year;"⟩, 8), (⟨"ReadAloud$Year", "tells", "(II)I"⟩, 4), (⟨"ReadAloud$Course", "begin", "(LReadAloud$Book;)V"⟩, 7), (⟨"ReadAloud$Course", "doFirst", "(LReadAloud$Year;I)I"⟩, 7), (⟨"ReadAloud$Course", "doDeed", "(III)Z"⟩, 7), (⟨"ReadAloud$Course", "doRead", "(II)Z"⟩, 7), (⟨"ReadAloud$Course", "doCopy", "(II)Z"⟩, 7), (⟨"ReadAloud$Course", "tells", "(I)I"⟩, 7), (⟨"ReadAloud$Course", "suits", "()I"⟩, 7), (⟨"ReadAloud$Course", "against", "()I"⟩, 7), (⟨"ReadAloud$Course", "driftOfCopy", "(I)I"⟩, 7), (⟨"ReadAloud", "readingsAt", "(I)LReadAloud$Readings;"⟩, 8)]
theorem lw_r2 : ∀ q ∈ lw_privs_2, lw_okq q := List.forall_mem_cons.mpr ⟨lw_p16, List.forall_mem_cons.mpr ⟨lw_p17, List.forall_mem_cons.mpr ⟨lw_p18, List.forall_mem_cons.mpr ⟨lw_p19, List.forall_mem_cons.mpr ⟨lw_p20, List.forall_mem_cons.mpr ⟨lw_p21, List.forall_mem_cons.mpr ⟨lw_p22, List.forall_mem_cons.mpr ⟨lw_p23, List.forall_mem_cons.mpr ⟨lw_p24, List.forall_mem_cons.mpr ⟨lw_p25, List.forall_mem_cons.mpr ⟨lw_p26, List.forall_mem_cons.mpr ⟨lw_p27, List.forall_mem_cons.mpr ⟨lw_p28, List.forall_mem_cons.mpr ⟨lw_p29, List.forall_mem_cons.mpr ⟨lw_p30, List.forall_mem_cons.mpr ⟨lw_p31, fun _ h => absurd h List.not_mem_nil⟩⟩⟩⟩⟩⟩⟩⟩⟩⟩⟩⟩⟩⟩⟩⟩
theorem lw_p32 : lw_okq (⟨"ReadAloud$Readings", "takeUp", "(LReadAloud$Book;)V"⟩, 4) := ⟨⟨by decide +kernel, by decide +kernel⟩, List.mem_of_getElem? (i := 622) (by decide +kernel), List.mem_of_getElem? (i := 645) (by decide +kernel), List.mem_of_getElem? (i := 646) (by decide +kernel)⟩
theorem lw_p33 : lw_okq (⟨"ReadAloud", "walkAt", "(I)LReadAloud$Walk;"⟩, 8) := ⟨⟨by decide +kernel, by decide +kernel⟩, List.mem_of_getElem? (i := 23) (by decide +kernel), List.mem_of_getElem? (i := 650) (by decide +kernel), List.mem_of_getElem? (i := 651) (by decide +kernel)⟩
theorem lw_p34 : lw_okq (⟨"ReadAloud$Readings", "all", "()I"⟩, 4) := ⟨⟨by decide +kernel, by decide +kernel⟩, List.mem_of_getElem? (i := 622) (by decide +kernel), List.mem_of_getElem? (i := 678) (by decide +kernel), List.mem_of_getElem? (i := 679) (by decide +kernel)⟩
theorem lw_p35 : lw_okq (⟨"ReadAloud$Walk", "go", "(LReadAloud$Readings;III)V"⟩, 5) := ⟨⟨by decide +kernel, by decide +kernel⟩, List.mem_of_getElem? (i := 653) (by decide +kernel), List.mem_of_getElem? (i := 682) (by decide +kernel), List.mem_of_getElem? (i := 683) (by decide +kernel)⟩
theorem lw_p36 : lw_okq (⟨"ReadAloud$Walk", "comeTo", "(IIII)V"⟩, 5) := ⟨⟨by decide +kernel, by decide +kernel⟩, List.mem_of_getElem? (i := 653) (by decide +kernel), List.mem_of_getElem? (i := 686) (by decide +kernel), List.mem_of_getElem? (i := 687) (by decide +kernel)⟩
theorem lw_p37 : lw_okq (⟨"ReadAloud$Readings", "after", "(II)I"⟩, 4) := ⟨⟨by decide +kernel, by decide +kernel⟩, List.mem_of_getElem? (i := 622) (by decide +kernel), List.mem_of_getElem? (i := 691) (by decide +kernel), List.mem_of_getElem? (i := 692) (by decide +kernel)⟩
theorem lw_p38 : lw_okq (⟨"ReadAloud$Walk", "readerOnWay", "(II)I"⟩, 5) := ⟨⟨by decide +kernel, by decide +kernel⟩, List.mem_of_getElem? (i := 653) (by decide +kernel), List.mem_of_getElem? (i := 696) (by decide +kernel), List.mem_of_getElem? (i := 697) (by decide +kernel)⟩
theorem lw_p39 : lw_okq (⟨"ReadAloud$Walk", "wayBack", "(LReadAloud$Readings;I)I"⟩, 5) := ⟨⟨by decide +kernel, by decide +kernel⟩, List.mem_of_getElem? (i := 653) (by decide +kernel), List.mem_of_getElem? (i := 704) (by decide +kernel), List.mem_of_getElem? (i := 705) (by decide +kernel)⟩
theorem lw_p40 : lw_okq (⟨"ReadAloud$Walk", "farthest", "()I"⟩, 5) := ⟨⟨by decide +kernel, by decide +kernel⟩, List.mem_of_getElem? (i := 653) (by decide +kernel), List.mem_of_getElem? (i := 712) (by decide +kernel), List.mem_of_getElem? (i := 713) (by decide +kernel)⟩
theorem lw_p41 : lw_okq (⟨"ReadAloud$Book", "hasReaders", "(I)Z"⟩, 7) := ⟨⟨by decide +kernel, by decide +kernel⟩, List.mem_of_getElem? (i := 192) (by decide +kernel), List.mem_of_getElem? (i := 720) (by decide +kernel), List.mem_of_getElem? (i := 721) (by decide +kernel)⟩
theorem lw_p42 : lw_okq (⟨"ReadAloud$Readings", "unchangedBy", "(I)I"⟩, 4) := ⟨⟨by decide +kernel, by decide +kernel⟩, List.mem_of_getElem? (i := 622) (by decide +kernel), List.mem_of_getElem? (i := 724) (by decide +kernel), List.mem_of_getElem? (i := 725) (by decide +kernel)⟩
theorem lw_p43 : lw_okq (⟨"ReadAloud$Readings", "isChanged", "(II)Z"⟩, 4) := ⟨⟨by decide +kernel, by decide +kernel⟩, List.mem_of_getElem? (i := 622) (by decide +kernel), List.mem_of_getElem? (i := 728) (by decide +kernel), List.mem_of_getElem? (i := 729) (by decide +kernel)⟩
theorem lw_p44 : lw_okq (⟨"ReadAloud$Readings", "alikeEitherWay", "(II)I"⟩, 4) := ⟨⟨by decide +kernel, by decide +kernel⟩, List.mem_of_getElem? (i := 622) (by decide +kernel), List.mem_of_getElem? (i := 738) (by decide +kernel), List.mem_of_getElem? (i := 739) (by decide +kernel)⟩
theorem lw_p45 : lw_okq (⟨"ReadAloud", "ringsThere", "()LReadAloud$Rings;"⟩, 8) := ⟨⟨by decide +kernel, by decide +kernel⟩, List.mem_of_getElem? (i := 23) (by decide +kernel), List.mem_of_getElem? (i := 746) (by decide +kernel), List.mem_of_getElem? (i := 747) (by decide +kernel)⟩
theorem lw_p46 : lw_okq (⟨"ReadAloud$Rings", "findOrbits", "(LReadAloud$Readings;I)V"⟩, 15) := ⟨⟨by decide +kernel, by decide +kernel⟩, List.mem_of_getElem? (i := 750) (by decide +kernel), List.mem_of_getElem? (i := 806) (by decide +kernel), List.mem_of_getElem? (i := 807) (by decide +kernel)⟩
theorem lw_p47 : lw_okq (⟨"ReadAloud$Rings", "putThoseOfNone", "()I"⟩, 15) := ⟨⟨by decide +kernel, by decide +kernel⟩, List.mem_of_getElem? (i := 750) (by decide +kernel), List.mem_of_getElem? (i := 812) (by decide +kernel), List.mem_of_getElem? (i := 813) (by decide +kernel)⟩
def lw_privs_3 : List (MethodName × Nat) := [(⟨"ReadAloud$Readings", "takeUp", "(LReadAloud$Book;)V"⟩, 4), (⟨"ReadAloud", "walkAt", "(I)LReadAloud$Walk;"⟩, 8), (⟨"ReadAloud$Readings", "all", "()I"⟩, 4), (⟨"ReadAloud$Walk", "go", "(LReadAloud$Readings;III)V"⟩, 5), (⟨"ReadAloud$Walk", "comeTo", "(IIII)V"⟩, 5), (⟨"ReadAloud$Readings", "after", "(II)I"⟩, 4), (⟨"ReadAloud$Walk", "readerOnWay", "(II)I"⟩, 5), (⟨"ReadAloud$Walk", "wayBack", "(LReadAloud$Readings;I)I"⟩, 5), (⟨"ReadAloud$Walk", "farthest", "()I"⟩, 5), (⟨"ReadAloud$Book", "hasReaders", "(I)Z"⟩, 7), (⟨"ReadAloud$Readings", "unchangedBy", "(I)I"⟩, 4), (⟨"ReadAloud$Readings", "isChanged", "(II)Z"⟩, 4), (⟨"ReadAloud$Readings", "alikeEitherWay", "(II)I"⟩, 4), (⟨"ReadAloud", "ringsThere", "()LReadAloud$Rings;"⟩, 8), (⟨"ReadAloud$Rings", "findOrbits", "(LReadAloud$Readings;I)V"⟩, 15), (⟨"ReadAloud$Rings", "putThoseOfNone", "()I"⟩, 15)]
theorem lw_r3 : ∀ q ∈ lw_privs_3, lw_okq q := List.forall_mem_cons.mpr ⟨lw_p32, List.forall_mem_cons.mpr ⟨lw_p33, List.forall_mem_cons.mpr ⟨lw_p34, List.forall_mem_cons.mpr ⟨lw_p35, List.forall_mem_cons.mpr ⟨lw_p36, List.forall_mem_cons.mpr ⟨lw_p37, List.forall_mem_cons.mpr ⟨lw_p38, List.forall_mem_cons.mpr ⟨lw_p39, List.forall_mem_cons.mpr ⟨lw_p40, List.forall_mem_cons.mpr ⟨lw_p41, List.forall_mem_cons.mpr ⟨lw_p42, List.forall_mem_cons.mpr ⟨lw_p43, List.forall_mem_cons.mpr ⟨lw_p44, List.forall_mem_cons.mpr ⟨lw_p45, List.forall_mem_cons.mpr ⟨lw_p46, List.forall_mem_cons.mpr ⟨lw_p47, fun _ h => absurd h List.not_mem_nil⟩⟩⟩⟩⟩⟩⟩⟩⟩⟩⟩⟩⟩⟩⟩⟩
theorem lw_p48 : lw_okq (⟨"ReadAloud$Rings", "takeOutside", "(LReadAloud$Readings;II)I"⟩, 15) := ⟨⟨by decide +kernel, by decide +kernel⟩, List.mem_of_getElem? (i := 750) (by decide +kernel), List.mem_of_getElem? (i := 816) (by decide +kernel), List.mem_of_getElem? (i := 817) (by decide +kernel)⟩
theorem lw_p49 : lw_okq (⟨"ReadAloud$Rings", "goRound", "(LReadAloud$Readings;II)I"⟩, 15) := ⟨⟨by decide +kernel, by decide +kernel⟩, List.mem_of_getElem? (i := 750) (by decide +kernel), List.mem_of_getElem? (i := 821) (by decide +kernel), List.mem_of_getElem? (i := 822) (by decide +kernel)⟩
theorem lw_p50 : lw_okq (⟨"ReadAloud", "levelsThere", "()LReadAloud$Levels;"⟩, 8) := ⟨⟨by decide +kernel, by decide +kernel⟩, List.mem_of_getElem? (i := 23) (by decide +kernel), List.mem_of_getElem? (i := 832) (by decide +kernel), List.mem_of_getElem? (i := 833) (by decide +kernel)⟩
theorem lw_p51 : lw_okq (⟨"ReadAloud$Levels", "wantNothing", "()V"⟩, 10) := ⟨⟨by decide +kernel, by decide +kernel⟩, List.mem_of_getElem? (i := 836) (by decide +kernel), List.mem_of_getElem? (i := 874) (by decide +kernel), List.mem_of_getElem? (i := 875) (by decide +kernel)⟩
theorem lw_p52 : lw_okq (⟨"ReadAloud$Levels", "spread", "(LReadAloud$Readings;III)V"⟩, 10) := ⟨⟨by decide +kernel, by decide +kernel⟩, List.mem_of_getElem? (i := 836) (by decide +kernel), List.mem_of_getElem? (i := 878) (by decide +kernel), List.mem_of_getElem? (i := 879) (by decide +kernel)⟩
theorem lw_p53 : lw_okq (⟨"ReadAloud$Levels", "isWanted", "(II)Z"⟩, 10) := ⟨⟨by decide +kernel, by decide +kernel⟩, List.mem_of_getElem? (i := 836) (by decide +kernel), List.mem_of_getElem? (i := 882) (by decide +kernel), List.mem_of_getElem? (i := 883) (by decide +kernel)⟩
theorem lw_p54 : lw_okq (⟨"ReadAloud$Levels", "fillBehind", "(I)I"⟩, 10) := ⟨⟨by decide +kernel, by decide +kernel⟩, List.mem_of_getElem? (i := 836) (by decide +kernel), List.mem_of_getElem? (i := 886) (by decide +kernel), List.mem_of_getElem? (i := 887) (by decide +kernel)⟩
theorem lw_p55 : lw_okq (⟨"ReadAloud$Levels", "onesAt", "(I)I"⟩, 10) := ⟨⟨by decide +kernel, by decide +kernel⟩, List.mem_of_getElem? (i := 836) (by decide +kernel), List.mem_of_getElem? (i := 890) (by decide +kernel), List.mem_of_getElem? (i := 891) (by decide +kernel)⟩
theorem lw_p56 : lw_okq (⟨"ReadAloud$Levels", "forget", "(I)V"⟩, 10) := ⟨⟨by decide +kernel, by decide +kernel⟩, List.mem_of_getElem? (i := 836) (by decide +kernel), List.mem_of_getElem? (i := 896) (by decide +kernel), List.mem_of_getElem? (i := 897) (by decide +kernel)⟩
theorem lw_p57 : lw_okq (⟨"ReadAloud$Levels", "endByDrift", "()V"⟩, 10) := ⟨⟨by decide +kernel, by decide +kernel⟩, List.mem_of_getElem? (i := 836) (by decide +kernel), List.mem_of_getElem? (i := 900) (by decide +kernel), List.mem_of_getElem? (i := 901) (by decide +kernel)⟩
theorem lw_p58 : lw_okq (⟨"ReadAloud$Levels", "bestEnd", "(Z)I"⟩, 10) := ⟨⟨by decide +kernel, by decide +kernel⟩, List.mem_of_getElem? (i := 836) (by decide +kernel), List.mem_of_getElem? (i := 905) (by decide +kernel), List.mem_of_getElem? (i := 906) (by decide +kernel)⟩
theorem lw_p59 : lw_okq (⟨"ReadAloud$Levels", "foldBack", "(II)V"⟩, 10) := ⟨⟨by decide +kernel, by decide +kernel⟩, List.mem_of_getElem? (i := 836) (by decide +kernel), List.mem_of_getElem? (i := 911) (by decide +kernel), List.mem_of_getElem? (i := 912) (by decide +kernel)⟩
theorem lw_p60 : lw_okq (⟨"ReadAloud$Levels", "recall", "(I)V"⟩, 10) := ⟨⟨by decide +kernel, by decide +kernel⟩, List.mem_of_getElem? (i := 836) (by decide +kernel), List.mem_of_getElem? (i := 915) (by decide +kernel), List.mem_of_getElem? (i := 916) (by decide +kernel)⟩
theorem lw_p61 : lw_okq (⟨"ReadAloud$Levels", "folded", "(III)I"⟩, 10) := ⟨⟨by decide +kernel, by decide +kernel⟩, List.mem_of_getElem? (i := 836) (by decide +kernel), List.mem_of_getElem? (i := 919) (by decide +kernel), List.mem_of_getElem? (i := 920) (by decide +kernel)⟩
theorem lw_p62 : lw_okq (⟨"ReadAloud$Levels", "chosenAt", "(I)I"⟩, 10) := ⟨⟨by decide +kernel, by decide +kernel⟩, List.mem_of_getElem? (i := 836) (by decide +kernel), List.mem_of_getElem? (i := 923) (by decide +kernel), List.mem_of_getElem? (i := 924) (by decide +kernel)⟩
theorem lw_p63 : lw_okq (⟨"ReadAloud$Levels", "firstAsGood", "(II)I"⟩, 10) := ⟨⟨by decide +kernel, by decide +kernel⟩, List.mem_of_getElem? (i := 836) (by decide +kernel), List.mem_of_getElem? (i := 927) (by decide +kernel), List.mem_of_getElem? (i := 928) (by decide +kernel)⟩
def lw_privs_4 : List (MethodName × Nat) := [(⟨"ReadAloud$Rings", "takeOutside", "(LReadAloud$Readings;II)I"⟩, 15), (⟨"ReadAloud$Rings", "goRound", "(LReadAloud$Readings;II)I"⟩, 15), (⟨"ReadAloud", "levelsThere", "()LReadAloud$Levels;"⟩, 8), (⟨"ReadAloud$Levels", "wantNothing", "()V"⟩, 10), (⟨"ReadAloud$Levels", "spread", "(LReadAloud$Readings;III)V"⟩, 10), (⟨"ReadAloud$Levels", "isWanted", "(II)Z"⟩, 10), (⟨"ReadAloud$Levels", "fillBehind", "(I)I"⟩, 10), (⟨"ReadAloud$Levels", "onesAt", "(I)I"⟩, 10), (⟨"ReadAloud$Levels", "forget", "(I)V"⟩, 10), (⟨"ReadAloud$Levels", "endByDrift", "()V"⟩, 10), (⟨"ReadAloud$Levels", "bestEnd", "(Z)I"⟩, 10), (⟨"ReadAloud$Levels", "foldBack", "(II)V"⟩, 10), (⟨"ReadAloud$Levels", "recall", "(I)V"⟩, 10), (⟨"ReadAloud$Levels", "folded", "(III)I"⟩, 10), (⟨"ReadAloud$Levels", "chosenAt", "(I)I"⟩, 10), (⟨"ReadAloud$Levels", "firstAsGood", "(II)I"⟩, 10)]
theorem lw_r4 : ∀ q ∈ lw_privs_4, lw_okq q := List.forall_mem_cons.mpr ⟨lw_p48, List.forall_mem_cons.mpr ⟨lw_p49, List.forall_mem_cons.mpr ⟨lw_p50, List.forall_mem_cons.mpr ⟨lw_p51, List.forall_mem_cons.mpr ⟨lw_p52, List.forall_mem_cons.mpr ⟨lw_p53, List.forall_mem_cons.mpr ⟨lw_p54, List.forall_mem_cons.mpr ⟨lw_p55, List.forall_mem_cons.mpr ⟨lw_p56, List.forall_mem_cons.mpr ⟨lw_p57, List.forall_mem_cons.mpr ⟨lw_p58, List.forall_mem_cons.mpr ⟨lw_p59, List.forall_mem_cons.mpr ⟨lw_p60, List.forall_mem_cons.mpr ⟨lw_p61, List.forall_mem_cons.mpr ⟨lw_p62, List.forall_mem_cons.mpr ⟨lw_p63, fun _ h => absurd h List.not_mem_nil⟩⟩⟩⟩⟩⟩⟩⟩⟩⟩⟩⟩⟩⟩⟩⟩
theorem lw_p64 : lw_okq (⟨"ReadAloud$Levels", "sumOfEnds", "()J"⟩, 10) := ⟨⟨by decide +kernel, by decide +kernel⟩, List.mem_of_getElem? (i := 836) (by decide +kernel), List.mem_of_getElem? (i := 936) (by decide +kernel), List.mem_of_getElem? (i := 937) (by decide +kernel)⟩
theorem lw_p65 : lw_okq (⟨"ReadAloud$Levels", "rows", "()I"⟩, 10) := ⟨⟨by decide +kernel, by decide +kernel⟩, List.mem_of_getElem? (i := 836) (by decide +kernel), List.mem_of_getElem? (i := 940) (by decide +kernel), List.mem_of_getElem? (i := 941) (by decide +kernel)⟩
theorem lw_p66 : lw_okq (⟨"ReadAloud$Readings", "goBack", "(II)V"⟩, 4) := ⟨⟨by decide +kernel, by decide +kernel⟩, List.mem_of_getElem? (i := 622) (by decide +kernel), List.mem_of_getElem? (i := 951) (by decide +kernel), List.mem_of_getElem? (i := 952) (by decide +kernel)⟩
theorem lw_p67 : lw_okq (⟨"ReadAloud$Readings", "comesToMarked", "(I)Z"⟩, 4) := ⟨⟨by decide +kernel, by decide +kernel⟩, List.mem_of_getElem? (i := 622) (by decide +kernel), List.mem_of_getElem? (i := 958) (by decide +kernel), List.mem_of_getElem? (i := 959) (by decide +kernel)⟩
theorem lw_p68 : lw_okq (⟨"ReadAloud$Readings", "leastMarked", "()I"⟩, 4) := ⟨⟨by decide +kernel, by decide +kernel⟩, List.mem_of_getElem? (i := 622) (by decide +kernel), List.mem_of_getElem? (i := 962) (by decide +kernel), List.mem_of_getElem? (i := 963) (by decide +kernel)⟩
theorem lw_p69 : lw_okq (⟨"ReadAloud$Readings", "marked", "()I"⟩, 4) := ⟨⟨by decide +kernel, by decide +kernel⟩, List.mem_of_getElem? (i := 622) (by decide +kernel), List.mem_of_getElem? (i := 966) (by decide +kernel), List.mem_of_getElem? (i := 967) (by decide +kernel)⟩
theorem lw_p70 : lw_okq (⟨"ReadAloud$Levels", "endByWord", "(I)V"⟩, 10) := ⟨⟨by decide +kernel, by decide +kernel⟩, List.mem_of_getElem? (i := 836) (by decide +kernel), List.mem_of_getElem? (i := 975) (by decide +kernel), List.mem_of_getElem? (i := 976) (by decide +kernel)⟩
theorem lw_p71 : lw_okq (⟨"ReadAloud$Levels", "bestStart", "()I"⟩, 10) := ⟨⟨by decide +kernel, by decide +kernel⟩, List.mem_of_getElem? (i := 836) (by decide +kernel), List.mem_of_getElem? (i := 982) (by decide +kernel), List.mem_of_getElem? (i := 983) (by decide +kernel)⟩
theorem lw_p72 : lw_okq (⟨"ReadAloud", "sightAt", "(I)LReadAloud$Sight;"⟩, 8) := ⟨⟨by decide +kernel, by decide +kernel⟩, List.mem_of_getElem? (i := 23) (by decide +kernel), List.mem_of_getElem? (i := 990) (by decide +kernel), List.mem_of_getElem? (i := 991) (by decide +kernel)⟩
theorem lw_p73 : lw_okq (⟨"ReadAloud$Sight", "tells", "(II)I"⟩, 3) := ⟨⟨by decide +kernel, by decide +kernel⟩, List.mem_of_getElem? (i := 438) (by decide +kernel), List.mem_of_getElem? (i := 994) (by decide +kernel), List.mem_of_getElem? (i := 995) (by decide +kernel)⟩
theorem lw_p74 : lw_okq (⟨"ReadAloud$Levels", "want", "(LReadAloud$Sight;)V"⟩, 10) := ⟨⟨by decide +kernel, by decide +kernel⟩, List.mem_of_getElem? (i := 836) (by decide +kernel), List.mem_of_getElem? (i := 1002) (by decide +kernel), List.mem_of_getElem? (i := 1003) (by decide +kernel)⟩
theorem lw_p75 : lw_okq (⟨"ReadAloud$Levels", "rowsTo", "(I)I"⟩, 10) := ⟨⟨by decide +kernel, by decide +kernel⟩, List.mem_of_getElem? (i := 836) (by decide +kernel), List.mem_of_getElem? (i := 1007) (by decide +kernel), List.mem_of_getElem? (i := 1008) (by decide +kernel)⟩
theorem lw_p76 : lw_okq (⟨"ReadAloud$Levels", "endByOne", "()V"⟩, 10) := ⟨⟨by decide +kernel, by decide +kernel⟩, List.mem_of_getElem? (i := 836) (by decide +kernel), List.mem_of_getElem? (i := 1015) (by decide +kernel), List.mem_of_getElem? (i := 1016) (by decide +kernel)⟩
theorem lw_p77 : lw_okq (⟨"ReadAloud$Levels", "look", "()I"⟩, 10) := ⟨⟨by decide +kernel, by decide +kernel⟩, List.mem_of_getElem? (i := 836) (by decide +kernel), List.mem_of_getElem? (i := 1019) (by decide +kernel), List.mem_of_getElem? (i := 1020) (by decide +kernel)⟩
theorem lw_p78 : lw_okq (⟨"ReadAloud$Levels", "onlyReaderAt", "(I)I"⟩, 10) := ⟨⟨by decide +kernel, by decide +kernel⟩, List.mem_of_getElem? (i := 836) (by decide +kernel), List.mem_of_getElem? (i := 1023) (by decide +kernel), List.mem_of_getElem? (i := 1024) (by decide +kernel)⟩
theorem lw_p79 : lw_okq (⟨"ReadAloud$Levels", "isReaderAt", "(II)Z"⟩, 10) := ⟨⟨by decide +kernel, by decide +kernel⟩, List.mem_of_getElem? (i := 836) (by decide +kernel), List.mem_of_getElem? (i := 1027) (by decide +kernel), List.mem_of_getElem? (i := 1028) (by decide +kernel)⟩
def lw_privs_5 : List (MethodName × Nat) := [(⟨"ReadAloud$Levels", "sumOfEnds", "()J"⟩, 10), (⟨"ReadAloud$Levels", "rows", "()I"⟩, 10), (⟨"ReadAloud$Readings", "goBack", "(II)V"⟩, 4), (⟨"ReadAloud$Readings", "comesToMarked", "(I)Z"⟩, 4), (⟨"ReadAloud$Readings", "leastMarked", "()I"⟩, 4), (⟨"ReadAloud$Readings", "marked", "()I"⟩, 4), (⟨"ReadAloud$Levels", "endByWord", "(I)V"⟩, 10), (⟨"ReadAloud$Levels", "bestStart", "()I"⟩, 10), (⟨"ReadAloud", "sightAt", "(I)LReadAloud$Sight;"⟩, 8), (⟨"ReadAloud$Sight", "tells", "(II)I"⟩, 3), (⟨"ReadAloud$Levels", "want", "(LReadAloud$Sight;)V"⟩, 10), (⟨"ReadAloud$Levels", "rowsTo", "(I)I"⟩, 10), (⟨"ReadAloud$Levels", "endByOne", "()V"⟩, 10), (⟨"ReadAloud$Levels", "look", "()I"⟩, 10), (⟨"ReadAloud$Levels", "onlyReaderAt", "(I)I"⟩, 10), (⟨"ReadAloud$Levels", "isReaderAt", "(II)Z"⟩, 10)]
theorem lw_r5 : ∀ q ∈ lw_privs_5, lw_okq q := List.forall_mem_cons.mpr ⟨lw_p64, List.forall_mem_cons.mpr ⟨lw_p65, List.forall_mem_cons.mpr ⟨lw_p66, List.forall_mem_cons.mpr ⟨lw_p67, List.forall_mem_cons.mpr ⟨lw_p68, List.forall_mem_cons.mpr ⟨lw_p69, List.forall_mem_cons.mpr ⟨lw_p70, List.forall_mem_cons.mpr ⟨lw_p71, List.forall_mem_cons.mpr ⟨lw_p72, List.forall_mem_cons.mpr ⟨lw_p73, List.forall_mem_cons.mpr ⟨lw_p74, List.forall_mem_cons.mpr ⟨lw_p75, List.forall_mem_cons.mpr ⟨lw_p76, List.forall_mem_cons.mpr ⟨lw_p77, List.forall_mem_cons.mpr ⟨lw_p78, List.forall_mem_cons.mpr ⟨lw_p79, fun _ h => absurd h List.not_mem_nil⟩⟩⟩⟩⟩⟩⟩⟩⟩⟩⟩⟩⟩⟩⟩⟩
theorem lw_p80 : lw_okq (⟨"ReadAloud$Course", "draw", "(II)V"⟩, 7) := ⟨⟨by decide +kernel, by decide +kernel⟩, List.mem_of_getElem? (i := 115) (by decide +kernel), List.mem_of_getElem? (i := 1035) (by decide +kernel), List.mem_of_getElem? (i := 1036) (by decide +kernel)⟩
theorem lw_p81 : lw_okq (⟨"ReadAloud$Course", "drawBelow", "(I)I"⟩, 7) := ⟨⟨by decide +kernel, by decide +kernel⟩, List.mem_of_getElem? (i := 115) (by decide +kernel), List.mem_of_getElem? (i := 1039) (by decide +kernel), List.mem_of_getElem? (i := 1040) (by decide +kernel)⟩
theorem lw_p82 : lw_okq (⟨"ReadAloud$Book", "kinRing", "(I)I"⟩, 7) := ⟨⟨by decide +kernel, by decide +kernel⟩, List.mem_of_getElem? (i := 192) (by decide +kernel), List.mem_of_getElem? (i := 1048) (by decide +kernel), List.mem_of_getElem? (i := 1049) (by decide +kernel)⟩
theorem lw_p83 : lw_okq (⟨"ReadAloud$Book", "kinUntilRing", "(I)I"⟩, 7) := ⟨⟨by decide +kernel, by decide +kernel⟩, List.mem_of_getElem? (i := 192) (by decide +kernel), List.mem_of_getElem? (i := 1052) (by decide +kernel), List.mem_of_getElem? (i := 1053) (by decide +kernel)⟩
theorem lw_p84 : lw_okq (⟨"ReadAloud$Book", "isInKinRing", "(I)Z"⟩, 7) := ⟨⟨by decide +kernel, by decide +kernel⟩, List.mem_of_getElem? (i := 192) (by decide +kernel), List.mem_of_getElem? (i := 1056) (by decide +kernel), List.mem_of_getElem? (i := 1057) (by decide +kernel)⟩
theorem lw_p85 : lw_okq (⟨"ReadAloud$Walk", "meeting", "(LReadAloud$Walk;)I"⟩, 5) := ⟨⟨by decide +kernel, by decide +kernel⟩, List.mem_of_getElem? (i := 653) (by decide +kernel), List.mem_of_getElem? (i := 1076) (by decide +kernel), List.mem_of_getElem? (i := 1077) (by decide +kernel)⟩
theorem lw_p86 : lw_okq (⟨"ReadAloud$Walk", "nearestTo", "(I)I"⟩, 5) := ⟨⟨by decide +kernel, by decide +kernel⟩, List.mem_of_getElem? (i := 653) (by decide +kernel), List.mem_of_getElem? (i := 1084) (by decide +kernel), List.mem_of_getElem? (i := 1085) (by decide +kernel)⟩
theorem lw_p87 : lw_okq (⟨"ReadAloud$Walk", "firstSettled", "(LReadAloud$Readings;)I"⟩, 5) := ⟨⟨by decide +kernel, by decide +kernel⟩, List.mem_of_getElem? (i := 653) (by decide +kernel), List.mem_of_getElem? (i := 1093) (by decide +kernel), List.mem_of_getElem? (i := 1094) (by decide +kernel)⟩
theorem lw_p88 : lw_okq (⟨"ReadAloud$Readings", "markUnmade", "()V"⟩, 4) := ⟨⟨by decide +kernel, by decide +kernel⟩, List.mem_of_getElem? (i := 622) (by decide +kernel), List.mem_of_getElem? (i := 1103) (by decide +kernel), List.mem_of_getElem? (i := 1104) (by decide +kernel)⟩
theorem lw_p89 : lw_okq (⟨"ReadAloud$Rings", "findCircles", "(LReadAloud$Readings;)V"⟩, 15) := ⟨⟨by decide +kernel, by decide +kernel⟩, List.mem_of_getElem? (i := 750) (by decide +kernel), List.mem_of_getElem? (i := 1121) (by decide +kernel), List.mem_of_getElem? (i := 1122) (by decide +kernel)⟩
theorem lw_p90 : lw_okq (⟨"ReadAloud$Rings", "findFrom", "(LReadAloud$Readings;I)V"⟩, 15) := ⟨⟨by decide +kernel, by decide +kernel⟩, List.mem_of_getElem? (i := 750) (by decide +kernel), List.mem_of_getElem? (i := 1125) (by decide +kernel), List.mem_of_getElem? (i := 1126) (by decide +kernel)⟩
theorem lw_p91 : lw_okq (⟨"ReadAloud$Rings", "enter", "(I)V"⟩, 15) := ⟨⟨by decide +kernel, by decide +kernel⟩, List.mem_of_getElem? (i := 750) (by decide +kernel), List.mem_of_getElem? (i := 1129) (by decide +kernel), List.mem_of_getElem? (i := 1130) (by decide +kernel)⟩
theorem lw_p92 : lw_okq (⟨"ReadAloud$Rings", "tryNext", "(LReadAloud$Readings;I)V"⟩, 15) := ⟨⟨by decide +kernel, by decide +kernel⟩, List.mem_of_getElem? (i := 750) (by decide +kernel), List.mem_of_getElem? (i := 1134) (by decide +kernel), List.mem_of_getElem? (i := 1135) (by decide +kernel)⟩
theorem lw_p93 : lw_okq (⟨"ReadAloud$Rings", "leave", "(I)V"⟩, 15) := ⟨⟨by decide +kernel, by decide +kernel⟩, List.mem_of_getElem? (i := 750) (by decide +kernel), List.mem_of_getElem? (i := 1139) (by decide +kernel), List.mem_of_getElem? (i := 1140) (by decide +kernel)⟩
theorem lw_p94 : lw_okq (⟨"ReadAloud$Rings", "closeCircle", "(I)V"⟩, 15) := ⟨⟨by decide +kernel, by decide +kernel⟩, List.mem_of_getElem? (i := 750) (by decide +kernel), List.mem_of_getElem? (i := 1143) (by decide +kernel), List.mem_of_getElem? (i := 1144) (by decide +kernel)⟩
theorem lw_p95 : lw_okq (⟨"ReadAloud$Told", "becomes", "(LReadAloud$Told;)V"⟩, 8) := ⟨⟨by decide +kernel, by decide +kernel⟩, List.mem_of_getElem? (i := 31) (by decide +kernel), List.mem_of_getElem? (i := 1155) (by decide +kernel), List.mem_of_getElem? (i := 1156) (by decide +kernel)⟩
def lw_privs_6 : List (MethodName × Nat) := [(⟨"ReadAloud$Course", "draw", "(II)V"⟩, 7), (⟨"ReadAloud$Course", "drawBelow", "(I)I"⟩, 7), (⟨"ReadAloud$Book", "kinRing", "(I)I"⟩, 7), (⟨"ReadAloud$Book", "kinUntilRing", "(I)I"⟩, 7), (⟨"ReadAloud$Book", "isInKinRing", "(I)Z"⟩, 7), (⟨"ReadAloud$Walk", "meeting", "(LReadAloud$Walk;)I"⟩, 5), (⟨"ReadAloud$Walk", "nearestTo", "(I)I"⟩, 5), (⟨"ReadAloud$Walk", "firstSettled", "(LReadAloud$Readings;)I"⟩, 5), (⟨"ReadAloud$Readings", "markUnmade", "()V"⟩, 4), (⟨"ReadAloud$Rings", "findCircles", "(LReadAloud$Readings;)V"⟩, 15), (⟨"ReadAloud$Rings", "findFrom", "(LReadAloud$Readings;I)V"⟩, 15), (⟨"ReadAloud$Rings", "enter", "(I)V"⟩, 15), (⟨"ReadAloud$Rings", "tryNext", "(LReadAloud$Readings;I)V"⟩, 15), (⟨"ReadAloud$Rings", "leave", "(I)V"⟩, 15), (⟨"ReadAloud$Rings", "closeCircle", "(I)V"⟩, 15), (⟨"ReadAloud$Told", "becomes", "(LReadAloud$Told;)V"⟩, 8)]
theorem lw_r6 : ∀ q ∈ lw_privs_6, lw_okq q := List.forall_mem_cons.mpr ⟨lw_p80, List.forall_mem_cons.mpr ⟨lw_p81, List.forall_mem_cons.mpr ⟨lw_p82, List.forall_mem_cons.mpr ⟨lw_p83, List.forall_mem_cons.mpr ⟨lw_p84, List.forall_mem_cons.mpr ⟨lw_p85, List.forall_mem_cons.mpr ⟨lw_p86, List.forall_mem_cons.mpr ⟨lw_p87, List.forall_mem_cons.mpr ⟨lw_p88, List.forall_mem_cons.mpr ⟨lw_p89, List.forall_mem_cons.mpr ⟨lw_p90, List.forall_mem_cons.mpr ⟨lw_p91, List.forall_mem_cons.mpr ⟨lw_p92, List.forall_mem_cons.mpr ⟨lw_p93, List.forall_mem_cons.mpr ⟨lw_p94, List.forall_mem_cons.mpr ⟨lw_p95, fun _ h => absurd h List.not_mem_nil⟩⟩⟩⟩⟩⟩⟩⟩⟩⟩⟩⟩⟩⟩⟩⟩
theorem lw_p96 : lw_okq (⟨"ReadAloudModel", "four", "(I)V"⟩, 52) := ⟨⟨by decide +kernel, by decide +kernel⟩, List.mem_of_getElem? (i := 1166) (by decide +kernel), List.mem_of_getElem? (i := 1335) (by decide +kernel), List.mem_of_getElem? (i := 1336) (by decide +kernel)⟩
theorem lw_p97 : lw_okq (⟨"ReadAloudModel", "is", "(II)Z"⟩, 52) := ⟨⟨by decide +kernel, by decide +kernel⟩, List.mem_of_getElem? (i := 1166) (by decide +kernel), List.mem_of_getElem? (i := 1350) (by decide +kernel), List.mem_of_getElem? (i := 1351) (by decide +kernel)⟩
theorem lw_p98 : lw_okq (⟨"ReadAloudModel", "readText", "(I)Z"⟩, 52) := ⟨⟨by decide +kernel, by decide +kernel⟩, List.mem_of_getElem? (i := 1166) (by decide +kernel), List.mem_of_getElem? (i := 1354) (by decide +kernel), List.mem_of_getElem? (i := 1355) (by decide +kernel)⟩
theorem lw_p99 : lw_okq (⟨"ReadAloudModel", "token", "()V"⟩, 52) := ⟨⟨by decide +kernel, by decide +kernel⟩, List.mem_of_getElem? (i := 1166) (by decide +kernel), List.mem_of_getElem? (i := 1358) (by decide +kernel), List.mem_of_getElem? (i := 1359) (by decide +kernel)⟩
theorem lw_p100 : lw_okq (⟨"ReadAloudModel", "see", "()I"⟩, 52) := ⟨⟨by decide +kernel, by decide +kernel⟩, List.mem_of_getElem? (i := 1166) (by decide +kernel), List.mem_of_getElem? (i := 1362) (by decide +kernel), List.mem_of_getElem? (i := 1363) (by decide +kernel)⟩
theorem lw_p101 : lw_okq (⟨"ReadAloudModel", "lines", "(I)Z"⟩, 52) := ⟨⟨by decide +kernel, by decide +kernel⟩, List.mem_of_getElem? (i := 1166) (by decide +kernel), List.mem_of_getElem? (i := 1366) (by decide +kernel), List.mem_of_getElem? (i := 1367) (by decide +kernel)⟩
theorem lw_p102 : lw_okq (⟨"ReadAloudModel", "lineOf", "(IJI)Z"⟩, 52) := ⟨⟨by decide +kernel, by decide +kernel⟩, List.mem_of_getElem? (i := 1166) (by decide +kernel), List.mem_of_getElem? (i := 1370) (by decide +kernel), List.mem_of_getElem? (i := 1371) (by decide +kernel)⟩
theorem lw_p103 : lw_okq (⟨"ReadAloudModel", "bookLine", "(JI)Z"⟩, 52) := ⟨⟨by decide +kernel, by decide +kernel⟩, List.mem_of_getElem? (i := 1166) (by decide +kernel), List.mem_of_getElem? (i := 1374) (by decide +kernel), List.mem_of_getElem? (i := 1375) (by decide +kernel)⟩
theorem lw_p104 : lw_okq (⟨"ReadAloudModel", "stepLine", "(II)Z"⟩, 52) := ⟨⟨by decide +kernel, by decide +kernel⟩, List.mem_of_getElem? (i := 1166) (by decide +kernel), List.mem_of_getElem? (i := 1386) (by decide +kernel), List.mem_of_getElem? (i := 1387) (by decide +kernel)⟩
theorem lw_p105 : lw_okq (⟨"ReadAloudModel", "later", "(II)V"⟩, 52) := ⟨⟨by decide +kernel, by decide +kernel⟩, List.mem_of_getElem? (i := 1166) (by decide +kernel), List.mem_of_getElem? (i := 1390) (by decide +kernel), List.mem_of_getElem? (i := 1391) (by decide +kernel)⟩
theorem lw_p106 : lw_okq (⟨"ReadAloudModel", "take", "(III)Z"⟩, 52) := ⟨⟨by decide +kernel, by decide +kernel⟩, List.mem_of_getElem? (i := 1166) (by decide +kernel), List.mem_of_getElem? (i := 1394) (by decide +kernel), List.mem_of_getElem? (i := 1395) (by decide +kernel)⟩
theorem lw_p107 : lw_okq (⟨"ReadAloudModel", "takeBut", "(IIII)Z"⟩, 52) := ⟨⟨by decide +kernel, by decide +kernel⟩, List.mem_of_getElem? (i := 1166) (by decide +kernel), List.mem_of_getElem? (i := 1398) (by decide +kernel), List.mem_of_getElem? (i := 1399) (by decide +kernel)⟩
theorem lw_p108 : lw_okq (⟨"ReadAloudModel", "fails", "()Z"⟩, 52) := ⟨⟨by decide +kernel, by decide +kernel⟩, List.mem_of_getElem? (i := 1166) (by decide +kernel), List.mem_of_getElem? (i := 1402) (by decide +kernel), List.mem_of_getElem? (i := 1403) (by decide +kernel)⟩
theorem lw_p109 : lw_okq (⟨"ReadAloudModel", "full", "(III)V"⟩, 52) := ⟨⟨by decide +kernel, by decide +kernel⟩, List.mem_of_getElem? (i := 1166) (by decide +kernel), List.mem_of_getElem? (i := 1409) (by decide +kernel), List.mem_of_getElem? (i := 1410) (by decide +kernel)⟩
theorem lw_p110 : lw_okq (⟨"ReadAloudModel", "takeText", "(I)V"⟩, 52) := ⟨⟨by decide +kernel, by decide +kernel⟩, List.mem_of_getElem? (i := 1166) (by decide +kernel), List.mem_of_getElem? (i := 1416) (by decide +kernel), List.mem_of_getElem? (i := 1417) (by decide +kernel)⟩
theorem lw_p111 : lw_okq (⟨"ReadAloudModel", "yearLine", "(JI)Z"⟩, 52) := ⟨⟨by decide +kernel, by decide +kernel⟩, List.mem_of_getElem? (i := 1166) (by decide +kernel), List.mem_of_getElem? (i := 1423) (by decide +kernel), List.mem_of_getElem? (i := 1424) (by decide +kernel)⟩
def lw_privs_7 : List (MethodName × Nat) := [(⟨"ReadAloudModel", "four", "(I)V"⟩, 52), (⟨"ReadAloudModel", "is", "(II)Z"⟩, 52), (⟨"ReadAloudModel", "readText", "(I)Z"⟩, 52), (⟨"ReadAloudModel", "token", "()V"⟩, 52), (⟨"ReadAloudModel", "see", "()I"⟩, 52), (⟨"ReadAloudModel", "lines", "(I)Z"⟩, 52), (⟨"ReadAloudModel", "lineOf", "(IJI)Z"⟩, 52), (⟨"ReadAloudModel", "bookLine", "(JI)Z"⟩, 52), (⟨"ReadAloudModel", "stepLine", "(II)Z"⟩, 52), (⟨"ReadAloudModel", "later", "(II)V"⟩, 52), (⟨"ReadAloudModel", "take", "(III)Z"⟩, 52), (⟨"ReadAloudModel", "takeBut", "(IIII)Z"⟩, 52), (⟨"ReadAloudModel", "fails", "()Z"⟩, 52), (⟨"ReadAloudModel", "full", "(III)V"⟩, 52), (⟨"ReadAloudModel", "takeText", "(I)V"⟩, 52), (⟨"ReadAloudModel", "yearLine", "(JI)Z"⟩, 52)]
theorem lw_r7 : ∀ q ∈ lw_privs_7, lw_okq q := List.forall_mem_cons.mpr ⟨lw_p96, List.forall_mem_cons.mpr ⟨lw_p97, List.forall_mem_cons.mpr ⟨lw_p98, List.forall_mem_cons.mpr ⟨lw_p99, List.forall_mem_cons.mpr ⟨lw_p100, List.forall_mem_cons.mpr ⟨lw_p101, List.forall_mem_cons.mpr ⟨lw_p102, List.forall_mem_cons.mpr ⟨lw_p103, List.forall_mem_cons.mpr ⟨lw_p104, List.forall_mem_cons.mpr ⟨lw_p105, List.forall_mem_cons.mpr ⟨lw_p106, List.forall_mem_cons.mpr ⟨lw_p107, List.forall_mem_cons.mpr ⟨lw_p108, List.forall_mem_cons.mpr ⟨lw_p109, List.forall_mem_cons.mpr ⟨lw_p110, List.forall_mem_cons.mpr ⟨lw_p111, fun _ h => absurd h List.not_mem_nil⟩⟩⟩⟩⟩⟩⟩⟩⟩⟩⟩⟩⟩⟩⟩⟩
theorem lw_p112 : lw_okq (⟨"ReadAloudModel", "keep", "(II)V"⟩, 52) := ⟨⟨by decide +kernel, by decide +kernel⟩, List.mem_of_getElem? (i := 1166) (by decide +kernel), List.mem_of_getElem? (i := 1436) (by decide +kernel), List.mem_of_getElem? (i := 1437) (by decide +kernel)⟩
theorem lw_p113 : lw_okq (⟨"ReadAloudModel", "sightLine", "(JI)Z"⟩, 52) := ⟨⟨by decide +kernel, by decide +kernel⟩, List.mem_of_getElem? (i := 1166) (by decide +kernel), List.mem_of_getElem? (i := 1440) (by decide +kernel), List.mem_of_getElem? (i := 1441) (by decide +kernel)⟩
theorem lw_p114 : lw_okq (⟨"ReadAloudModel", "store", "([III)V"⟩, 52) := ⟨⟨by decide +kernel, by decide +kernel⟩, List.mem_of_getElem? (i := 1166) (by decide +kernel), List.mem_of_getElem? (i := 1445) (by decide +kernel), List.mem_of_getElem? (i := 1446) (by decide +kernel)⟩
theorem lw_p115 : lw_okq (⟨"ReadAloudModel", "hand", "(I)Z"⟩, 52) := ⟨⟨by decide +kernel, by decide +kernel⟩, List.mem_of_getElem? (i := 1166) (by decide +kernel), List.mem_of_getElem? (i := 1457) (by decide +kernel), List.mem_of_getElem? (i := 1458) (by decide +kernel)⟩
theorem lw_p116 : lw_okq (⟨"ReadAloudModel", "of", "(I)I"⟩, 52) := ⟨⟨by decide +kernel, by decide +kernel⟩, List.mem_of_getElem? (i := 1166) (by decide +kernel), List.mem_of_getElem? (i := 1461) (by decide +kernel), List.mem_of_getElem? (i := 1462) (by decide +kernel)⟩
theorem lw_p117 : lw_okq (⟨"ReadAloudModel", "apart", "(II)I"⟩, 52) := ⟨⟨by decide +kernel, by decide +kernel⟩, List.mem_of_getElem? (i := 1166) (by decide +kernel), List.mem_of_getElem? (i := 1482) (by decide +kernel), List.mem_of_getElem? (i := 1483) (by decide +kernel)⟩
theorem lw_p118 : lw_okq (⟨"ReadAloudModel", "isReader", "(I)Z"⟩, 52) := ⟨⟨by decide +kernel, by decide +kernel⟩, List.mem_of_getElem? (i := 1166) (by decide +kernel), List.mem_of_getElem? (i := 1490) (by decide +kernel), List.mem_of_getElem? (i := 1491) (by decide +kernel)⟩
theorem lw_p119 : lw_okq (⟨"ReadAloudModel", "readBy", "(II)I"⟩, 52) := ⟨⟨by decide +kernel, by decide +kernel⟩, List.mem_of_getElem? (i := 1166) (by decide +kernel), List.mem_of_getElem? (i := 1494) (by decide +kernel), List.mem_of_getElem? (i := 1495) (by decide +kernel)⟩
theorem lw_p120 : lw_okq (⟨"ReadAloudModel", "step", "(II)V"⟩, 52) := ⟨⟨by decide +kernel, by decide +kernel⟩, List.mem_of_getElem? (i := 1166) (by decide +kernel), List.mem_of_getElem? (i := 1498) (by decide +kernel), List.mem_of_getElem? (i := 1499) (by decide +kernel)⟩
theorem lw_p121 : lw_okq (⟨"ReadAloudModel", "shift", "(I)V"⟩, 52) := ⟨⟨by decide +kernel, by decide +kernel⟩, List.mem_of_getElem? (i := 1166) (by decide +kernel), List.mem_of_getElem? (i := 1502) (by decide +kernel), List.mem_of_getElem? (i := 1503) (by decide +kernel)⟩
theorem lw_p122 : lw_okq (⟨"ReadAloudModel", "drop", "(I)V"⟩, 52) := ⟨⟨by decide +kernel, by decide +kernel⟩, List.mem_of_getElem? (i := 1166) (by decide +kernel), List.mem_of_getElem? (i := 1506) (by decide +kernel), List.mem_of_getElem? (i := 1507) (by decide +kernel)⟩
theorem lw_p123 : lw_okq (⟨"ReadAloudModel", "twice", "(I)V"⟩, 52) := ⟨⟨by decide +kernel, by decide +kernel⟩, List.mem_of_getElem? (i := 1166) (by decide +kernel), List.mem_of_getElem? (i := 1510) (by decide +kernel), List.mem_of_getElem? (i := 1511) (by decide +kernel)⟩
theorem lw_p124 : lw_okq (⟨"ReadAloudModel", "swap", "(II)V"⟩, 52) := ⟨⟨by decide +kernel, by decide +kernel⟩, List.mem_of_getElem? (i := 1166) (by decide +kernel), List.mem_of_getElem? (i := 1514) (by decide +kernel), List.mem_of_getElem? (i := 1515) (by decide +kernel)⟩
theorem lw_p125 : lw_okq (⟨"ReadAloudModel", "numberOf", "(I)I"⟩, 52) := ⟨⟨by decide +kernel, by decide +kernel⟩, List.mem_of_getElem? (i := 1166) (by decide +kernel), List.mem_of_getElem? (i := 1518) (by decide +kernel), List.mem_of_getElem? (i := 1519) (by decide +kernel)⟩
theorem lw_p126 : lw_okq (⟨"ReadAloudModel", "hasYear", "(I)Z"⟩, 52) := ⟨⟨by decide +kernel, by decide +kernel⟩, List.mem_of_getElem? (i := 1166) (by decide +kernel), List.mem_of_getElem? (i := 1526) (by decide +kernel), List.mem_of_getElem? (i := 1527) (by decide +kernel)⟩
theorem lw_p127 : lw_okq (⟨"ReadAloudModel", "deeds", "()I"⟩, 52) := ⟨⟨by decide +kernel, by decide +kernel⟩, List.mem_of_getElem? (i := 1166) (by decide +kernel), List.mem_of_getElem? (i := 1530) (by decide +kernel), List.mem_of_getElem? (i := 1531) (by decide +kernel)⟩
def lw_privs_8 : List (MethodName × Nat) := [(⟨"ReadAloudModel", "keep", "(II)V"⟩, 52), (⟨"ReadAloudModel", "sightLine", "(JI)Z"⟩, 52), (⟨"ReadAloudModel", "store", "([III)V"⟩, 52), (⟨"ReadAloudModel", "hand", "(I)Z"⟩, 52), (⟨"ReadAloudModel", "of", "(I)I"⟩, 52), (⟨"ReadAloudModel", "apart", "(II)I"⟩, 52), (⟨"ReadAloudModel", "isReader", "(I)Z"⟩, 52), (⟨"ReadAloudModel", "readBy", "(II)I"⟩, 52), (⟨"ReadAloudModel", "step", "(II)V"⟩, 52), (⟨"ReadAloudModel", "shift", "(I)V"⟩, 52), (⟨"ReadAloudModel", "drop", "(I)V"⟩, 52), (⟨"ReadAloudModel", "twice", "(I)V"⟩, 52), (⟨"ReadAloudModel", "swap", "(II)V"⟩, 52), (⟨"ReadAloudModel", "numberOf", "(I)I"⟩, 52), (⟨"ReadAloudModel", "hasYear", "(I)Z"⟩, 52), (⟨"ReadAloudModel", "deeds", "()I"⟩, 52)]
theorem lw_r8 : ∀ q ∈ lw_privs_8, lw_okq q := List.forall_mem_cons.mpr ⟨lw_p112, List.forall_mem_cons.mpr ⟨lw_p113, List.forall_mem_cons.mpr ⟨lw_p114, List.forall_mem_cons.mpr ⟨lw_p115, List.forall_mem_cons.mpr ⟨lw_p116, List.forall_mem_cons.mpr ⟨lw_p117, List.forall_mem_cons.mpr ⟨lw_p118, List.forall_mem_cons.mpr ⟨lw_p119, List.forall_mem_cons.mpr ⟨lw_p120, List.forall_mem_cons.mpr ⟨lw_p121, List.forall_mem_cons.mpr ⟨lw_p122, List.forall_mem_cons.mpr ⟨lw_p123, List.forall_mem_cons.mpr ⟨lw_p124, List.forall_mem_cons.mpr ⟨lw_p125, List.forall_mem_cons.mpr ⟨lw_p126, List.forall_mem_cons.mpr ⟨lw_p127, fun _ h => absurd h List.not_mem_nil⟩⟩⟩⟩⟩⟩⟩⟩⟩⟩⟩⟩⟩⟩⟩⟩
theorem lw_p128 : lw_okq (⟨"ReadAloudModel", "deedOf", "(II)I"⟩, 52) := ⟨⟨by decide +kernel, by decide +kernel⟩, List.mem_of_getElem? (i := 1166) (by decide +kernel), List.mem_of_getElem? (i := 1534) (by decide +kernel), List.mem_of_getElem? (i := 1535) (by decide +kernel)⟩
theorem lw_p129 : lw_okq (⟨"ReadAloudModel", "layAll", "(II)Z"⟩, 52) := ⟨⟨by decide +kernel, by decide +kernel⟩, List.mem_of_getElem? (i := 1166) (by decide +kernel), List.mem_of_getElem? (i := 1542) (by decide +kernel), List.mem_of_getElem? (i := 1543) (by decide +kernel)⟩
theorem lw_p130 : lw_okq (⟨"ReadAloudModel", "play", "(I)I"⟩, 52) := ⟨⟨by decide +kernel, by decide +kernel⟩, List.mem_of_getElem? (i := 1166) (by decide +kernel), List.mem_of_getElem? (i := 1546) (by decide +kernel), List.mem_of_getElem? (i := 1547) (by decide +kernel)⟩
theorem lw_p131 : lw_okq (⟨"ReadAloudModel", "begin", "()V"⟩, 52) := ⟨⟨by decide +kernel, by decide +kernel⟩, List.mem_of_getElem? (i := 1166) (by decide +kernel), List.mem_of_getElem? (i := 1550) (by decide +kernel), List.mem_of_getElem? (i := 1551) (by decide +kernel)⟩
theorem lw_p132 : lw_okq (⟨"ReadAloudModel", "does", "(I)Z"⟩, 52) := ⟨⟨by decide +kernel, by decide +kernel⟩, List.mem_of_getElem? (i := 1166) (by decide +kernel), List.mem_of_getElem? (i := 1554) (by decide +kernel), List.mem_of_getElem? (i := 1555) (by decide +kernel)⟩
theorem lw_p133 : lw_okq (⟨"ReadAloudModel", "reads", "(II)Z"⟩, 52) := ⟨⟨by decide +kernel, by decide +kernel⟩, List.mem_of_getElem? (i := 1166) (by decide +kernel), List.mem_of_getElem? (i := 1558) (by decide +kernel), List.mem_of_getElem? (i := 1559) (by decide +kernel)⟩
theorem lw_p134 : lw_okq (⟨"ReadAloudModel", "hushes", "(I)Z"⟩, 52) := ⟨⟨by decide +kernel, by decide +kernel⟩, List.mem_of_getElem? (i := 1166) (by decide +kernel), List.mem_of_getElem? (i := 1565) (by decide +kernel), List.mem_of_getElem? (i := 1566) (by decide +kernel)⟩
theorem lw_p135 : lw_okq (⟨"ReadAloudModel", "goesOn", "()Z"⟩, 52) := ⟨⟨by decide +kernel, by decide +kernel⟩, List.mem_of_getElem? (i := 1166) (by decide +kernel), List.mem_of_getElem? (i := 1569) (by decide +kernel), List.mem_of_getElem? (i := 1570) (by decide +kernel)⟩
theorem lw_p136 : lw_okq (⟨"ReadAloudModel", "ofState", "(I)I"⟩, 52) := ⟨⟨by decide +kernel, by decide +kernel⟩, List.mem_of_getElem? (i := 1166) (by decide +kernel), List.mem_of_getElem? (i := 1577) (by decide +kernel), List.mem_of_getElem? (i := 1578) (by decide +kernel)⟩
theorem lw_p137 : lw_okq (⟨"ReadAloudModel", "handAll", "(I)Z"⟩, 52) := ⟨⟨by decide +kernel, by decide +kernel⟩, List.mem_of_getElem? (i := 1166) (by decide +kernel), List.mem_of_getElem? (i := 1585) (by decide +kernel), List.mem_of_getElem? (i := 1586) (by decide +kernel)⟩
theorem lw_p138 : lw_okq (⟨"ReadAloudModel", "layMade", "()V"⟩, 52) := ⟨⟨by decide +kernel, by decide +kernel⟩, List.mem_of_getElem? (i := 1166) (by decide +kernel), List.mem_of_getElem? (i := 1589) (by decide +kernel), List.mem_of_getElem? (i := 1590) (by decide +kernel)⟩
theorem lw_p139 : lw_okq (⟨"ReadAloudModel", "findBack", "(I)V"⟩, 52) := ⟨⟨by decide +kernel, by decide +kernel⟩, List.mem_of_getElem? (i := 1166) (by decide +kernel), List.mem_of_getElem? (i := 1593) (by decide +kernel), List.mem_of_getElem? (i := 1594) (by decide +kernel)⟩
theorem lw_p140 : lw_okq (⟨"ReadAloudModel", "findFar", "(II[I)V"⟩, 52) := ⟨⟨by decide +kernel, by decide +kernel⟩, List.mem_of_getElem? (i := 1166) (by decide +kernel), List.mem_of_getElem? (i := 1602) (by decide +kernel), List.mem_of_getElem? (i := 1603) (by decide +kernel)⟩
theorem lw_p141 : lw_okq (⟨"ReadAloudModel", "isKept", "(II)Z"⟩, 52) := ⟨⟨by decide +kernel, by decide +kernel⟩, List.mem_of_getElem? (i := 1166) (by decide +kernel), List.mem_of_getElem? (i := 1614) (by decide +kernel), List.mem_of_getElem? (i := 1615) (by decide +kernel)⟩
theorem lw_p142 : lw_okq (⟨"ReadAloudModel", "unread", "(I)I"⟩, 52) := ⟨⟨by decide +kernel, by decide +kernel⟩, List.mem_of_getElem? (i := 1166) (by decide +kernel), List.mem_of_getElem? (i := 1626) (by decide +kernel), List.mem_of_getElem? (i := 1627) (by decide +kernel)⟩
theorem lw_p143 : lw_okq (⟨"ReadAloudModel", "findComes", "(I)V"⟩, 52) := ⟨⟨by decide +kernel, by decide +kernel⟩, List.mem_of_getElem? (i := 1166) (by decide +kernel), List.mem_of_getElem? (i := 1630) (by decide +kernel), List.mem_of_getElem? (i := 1631) (by decide +kernel)⟩
def lw_privs_9 : List (MethodName × Nat) := [(⟨"ReadAloudModel", "deedOf", "(II)I"⟩, 52), (⟨"ReadAloudModel", "layAll", "(II)Z"⟩, 52), (⟨"ReadAloudModel", "play", "(I)I"⟩, 52), (⟨"ReadAloudModel", "begin", "()V"⟩, 52), (⟨"ReadAloudModel", "does", "(I)Z"⟩, 52), (⟨"ReadAloudModel", "reads", "(II)Z"⟩, 52), (⟨"ReadAloudModel", "hushes", "(I)Z"⟩, 52), (⟨"ReadAloudModel", "goesOn", "()Z"⟩, 52), (⟨"ReadAloudModel", "ofState", "(I)I"⟩, 52), (⟨"ReadAloudModel", "handAll", "(I)Z"⟩, 52), (⟨"ReadAloudModel", "layMade", "()V"⟩, 52), (⟨"ReadAloudModel", "findBack", "(I)V"⟩, 52), (⟨"ReadAloudModel", "findFar", "(II[I)V"⟩, 52), (⟨"ReadAloudModel", "isKept", "(II)Z"⟩, 52), (⟨"ReadAloudModel", "unread", "(I)I"⟩, 52), (⟨"ReadAloudModel", "findComes", "(I)V"⟩, 52)]
theorem lw_r9 : ∀ q ∈ lw_privs_9, lw_okq q := List.forall_mem_cons.mpr ⟨lw_p128, List.forall_mem_cons.mpr ⟨lw_p129, List.forall_mem_cons.mpr ⟨lw_p130, List.forall_mem_cons.mpr ⟨lw_p131, List.forall_mem_cons.mpr ⟨lw_p132, List.forall_mem_cons.mpr ⟨lw_p133, List.forall_mem_cons.mpr ⟨lw_p134, List.forall_mem_cons.mpr ⟨lw_p135, List.forall_mem_cons.mpr ⟨lw_p136, List.forall_mem_cons.mpr ⟨lw_p137, List.forall_mem_cons.mpr ⟨lw_p138, List.forall_mem_cons.mpr ⟨lw_p139, List.forall_mem_cons.mpr ⟨lw_p140, List.forall_mem_cons.mpr ⟨lw_p141, List.forall_mem_cons.mpr ⟨lw_p142, List.forall_mem_cons.mpr ⟨lw_p143, fun _ h => absurd h List.not_mem_nil⟩⟩⟩⟩⟩⟩⟩⟩⟩⟩⟩⟩⟩⟩⟩⟩
theorem lw_p144 : lw_okq (⟨"ReadAloudModel", "stays", "(I)I"⟩, 52) := ⟨⟨by decide +kernel, by decide +kernel⟩, List.mem_of_getElem? (i := 1166) (by decide +kernel), List.mem_of_getElem? (i := 1634) (by decide +kernel), List.mem_of_getElem? (i := 1635) (by decide +kernel)⟩
theorem lw_p145 : lw_okq (⟨"ReadAloudModel", "fallAway", "(I)I"⟩, 52) := ⟨⟨by decide +kernel, by decide +kernel⟩, List.mem_of_getElem? (i := 1166) (by decide +kernel), List.mem_of_getElem? (i := 1638) (by decide +kernel), List.mem_of_getElem? (i := 1639) (by decide +kernel)⟩
theorem lw_p146 : lw_okq (⟨"ReadAloudModel", "tail", "(II)I"⟩, 52) := ⟨⟨by decide +kernel, by decide +kernel⟩, List.mem_of_getElem? (i := 1166) (by decide +kernel), List.mem_of_getElem? (i := 1642) (by decide +kernel), List.mem_of_getElem? (i := 1643) (by decide +kernel)⟩
theorem lw_p147 : lw_okq (⟨"ReadAloudModel", "longest", "(IZ)I"⟩, 52) := ⟨⟨by decide +kernel, by decide +kernel⟩, List.mem_of_getElem? (i := 1166) (by decide +kernel), List.mem_of_getElem? (i := 1649) (by decide +kernel), List.mem_of_getElem? (i := 1650) (by decide +kernel)⟩
theorem lw_p148 : lw_okq (⟨"ReadAloudModel", "layDrifts", "()V"⟩, 52) := ⟨⟨by decide +kernel, by decide +kernel⟩, List.mem_of_getElem? (i := 1166) (by decide +kernel), List.mem_of_getElem? (i := 1657) (by decide +kernel), List.mem_of_getElem? (i := 1658) (by decide +kernel)⟩
theorem lw_p149 : lw_okq (⟨"ReadAloudModel", "everybody", "()I"⟩, 52) := ⟨⟨by decide +kernel, by decide +kernel⟩, List.mem_of_getElem? (i := 1166) (by decide +kernel), List.mem_of_getElem? (i := 1661) (by decide +kernel), List.mem_of_getElem? (i := 1662) (by decide +kernel)⟩
theorem lw_p150 : lw_okq (⟨"ReadAloudModel", "best", "(IIZ)V"⟩, 52) := ⟨⟨by decide +kernel, by decide +kernel⟩, List.mem_of_getElem? (i := 1166) (by decide +kernel), List.mem_of_getElem? (i := 1665) (by decide +kernel), List.mem_of_getElem? (i := 1666) (by decide +kernel)⟩
theorem lw_p151 : lw_okq (⟨"ReadAloudModel", "rotaAt", "(II)I"⟩, 52) := ⟨⟨by decide +kernel, by decide +kernel⟩, List.mem_of_getElem? (i := 1166) (by decide +kernel), List.mem_of_getElem? (i := 1669) (by decide +kernel), List.mem_of_getElem? (i := 1670) (by decide +kernel)⟩
theorem lw_p152 : lw_okq (⟨"ReadAloudModel", "wordsIn", "(II)I"⟩, 52) := ⟨⟨by decide +kernel, by decide +kernel⟩, List.mem_of_getElem? (i := 1166) (by decide +kernel), List.mem_of_getElem? (i := 1689) (by decide +kernel), List.mem_of_getElem? (i := 1690) (by decide +kernel)⟩
theorem lw_p153 : lw_okq (⟨"ReadAloudModel", "hasSight", "(I)Z"⟩, 52) := ⟨⟨by decide +kernel, by decide +kernel⟩, List.mem_of_getElem? (i := 1166) (by decide +kernel), List.mem_of_getElem? (i := 1697) (by decide +kernel), List.mem_of_getElem? (i := 1698) (by decide +kernel)⟩
theorem lw_p154 : lw_okq (⟨"ReadAloudModel", "facts", "()I"⟩, 52) := ⟨⟨by decide +kernel, by decide +kernel⟩, List.mem_of_getElem? (i := 1166) (by decide +kernel), List.mem_of_getElem? (i := 1701) (by decide +kernel), List.mem_of_getElem? (i := 1702) (by decide +kernel)⟩
theorem lw_p155 : lw_okq (⟨"ReadAloudModel", "factOf", "(II)I"⟩, 52) := ⟨⟨by decide +kernel, by decide +kernel⟩, List.mem_of_getElem? (i := 1166) (by decide +kernel), List.mem_of_getElem? (i := 1705) (by decide +kernel), List.mem_of_getElem? (i := 1706) (by decide +kernel)⟩
theorem lw_p156 : lw_okq (⟨"ReadAloudModel", "findRows", "(I)V"⟩, 52) := ⟨⟨by decide +kernel, by decide +kernel⟩, List.mem_of_getElem? (i := 1166) (by decide +kernel), List.mem_of_getElem? (i := 1713) (by decide +kernel), List.mem_of_getElem? (i := 1714) (by decide +kernel)⟩
theorem lw_p157 : lw_okq (⟨"ReadAloudModel", "mayBe", "(II)Z"⟩, 52) := ⟨⟨by decide +kernel, by decide +kernel⟩, List.mem_of_getElem? (i := 1166) (by decide +kernel), List.mem_of_getElem? (i := 1717) (by decide +kernel), List.mem_of_getElem? (i := 1718) (by decide +kernel)⟩
theorem lw_p158 : lw_okq (⟨"ReadAloudModel", "allRows", "()I"⟩, 52) := ⟨⟨by decide +kernel, by decide +kernel⟩, List.mem_of_getElem? (i := 1166) (by decide +kernel), List.mem_of_getElem? (i := 1721) (by decide +kernel), List.mem_of_getElem? (i := 1722) (by decide +kernel)⟩
theorem lw_p159 : lw_okq (⟨"ReadAloudModel", "look", "(I)I"⟩, 52) := ⟨⟨by decide +kernel, by decide +kernel⟩, List.mem_of_getElem? (i := 1166) (by decide +kernel), List.mem_of_getElem? (i := 1729) (by decide +kernel), List.mem_of_getElem? (i := 1730) (by decide +kernel)⟩
def lw_privs_10 : List (MethodName × Nat) := [(⟨"ReadAloudModel", "stays", "(I)I"⟩, 52), (⟨"ReadAloudModel", "fallAway", "(I)I"⟩, 52), (⟨"ReadAloudModel", "tail", "(II)I"⟩, 52), (⟨"ReadAloudModel", "longest", "(IZ)I"⟩, 52), (⟨"ReadAloudModel", "layDrifts", "()V"⟩, 52), (⟨"ReadAloudModel", "everybody", "()I"⟩, 52), (⟨"ReadAloudModel", "best", "(IIZ)V"⟩, 52), (⟨"ReadAloudModel", "rotaAt", "(II)I"⟩, 52), (⟨"ReadAloudModel", "wordsIn", "(II)I"⟩, 52), (⟨"ReadAloudModel", "hasSight", "(I)Z"⟩, 52), (⟨"ReadAloudModel", "facts", "()I"⟩, 52), (⟨"ReadAloudModel", "factOf", "(II)I"⟩, 52), (⟨"ReadAloudModel", "findRows", "(I)V"⟩, 52), (⟨"ReadAloudModel", "mayBe", "(II)Z"⟩, 52), (⟨"ReadAloudModel", "allRows", "()I"⟩, 52), (⟨"ReadAloudModel", "look", "(I)I"⟩, 52)]
theorem lw_r10 : ∀ q ∈ lw_privs_10, lw_okq q := List.forall_mem_cons.mpr ⟨lw_p144, List.forall_mem_cons.mpr ⟨lw_p145, List.forall_mem_cons.mpr ⟨lw_p146, List.forall_mem_cons.mpr ⟨lw_p147, List.forall_mem_cons.mpr ⟨lw_p148, List.forall_mem_cons.mpr ⟨lw_p149, List.forall_mem_cons.mpr ⟨lw_p150, List.forall_mem_cons.mpr ⟨lw_p151, List.forall_mem_cons.mpr ⟨lw_p152, List.forall_mem_cons.mpr ⟨lw_p153, List.forall_mem_cons.mpr ⟨lw_p154, List.forall_mem_cons.mpr ⟨lw_p155, List.forall_mem_cons.mpr ⟨lw_p156, List.forall_mem_cons.mpr ⟨lw_p157, List.forall_mem_cons.mpr ⟨lw_p158, List.forall_mem_cons.mpr ⟨lw_p159, fun _ h => absurd h List.not_mem_nil⟩⟩⟩⟩⟩⟩⟩⟩⟩⟩⟩⟩⟩⟩⟩⟩
theorem lw_p160 : lw_okq (⟨"ReadAloudModel", "rowsOf", "(II)I"⟩, 52) := ⟨⟨by decide +kernel, by decide +kernel⟩, List.mem_of_getElem? (i := 1166) (by decide +kernel), List.mem_of_getElem? (i := 1733) (by decide +kernel), List.mem_of_getElem? (i := 1734) (by decide +kernel)⟩
theorem lw_p161 : lw_okq (⟨"ReadAloudModel", "drawDeed", "()V"⟩, 52) := ⟨⟨by decide +kernel, by decide +kernel⟩, List.mem_of_getElem? (i := 1166) (by decide +kernel), List.mem_of_getElem? (i := 1741) (by decide +kernel), List.mem_of_getElem? (i := 1742) (by decide +kernel)⟩
theorem lw_p162 : lw_okq (⟨"ReadAloudModel", "draw", "(I)I"⟩, 52) := ⟨⟨by decide +kernel, by decide +kernel⟩, List.mem_of_getElem? (i := 1166) (by decide +kernel), List.mem_of_getElem? (i := 1745) (by decide +kernel), List.mem_of_getElem? (i := 1746) (by decide +kernel)⟩
theorem lw_p163 : lw_okq (⟨"ReadAloudModel", "kinRing", "(I)I"⟩, 52) := ⟨⟨by decide +kernel, by decide +kernel⟩, List.mem_of_getElem? (i := 1166) (by decide +kernel), List.mem_of_getElem? (i := 1754) (by decide +kernel), List.mem_of_getElem? (i := 1755) (by decide +kernel)⟩
theorem lw_p164 : lw_okq (⟨"ReadAloudModel", "someOf", "(II)I"⟩, 52) := ⟨⟨by decide +kernel, by decide +kernel⟩, List.mem_of_getElem? (i := 1166) (by decide +kernel), List.mem_of_getElem? (i := 1762) (by decide +kernel), List.mem_of_getElem? (i := 1763) (by decide +kernel)⟩
theorem lw_p165 : lw_okq (⟨"ReadAloudModel", "isLeft", "(II)Z"⟩, 52) := ⟨⟨by decide +kernel, by decide +kernel⟩, List.mem_of_getElem? (i := 1166) (by decide +kernel), List.mem_of_getElem? (i := 1766) (by decide +kernel), List.mem_of_getElem? (i := 1767) (by decide +kernel)⟩
theorem lw_p166 : lw_okq (⟨"ReadAloudModel", "findCircles", "()I"⟩, 52) := ⟨⟨by decide +kernel, by decide +kernel⟩, List.mem_of_getElem? (i := 1166) (by decide +kernel), List.mem_of_getElem? (i := 1794) (by decide +kernel), List.mem_of_getElem? (i := 1795) (by decide +kernel)⟩
theorem lw_p167 : lw_okq (⟨"ReadAloudModel", "layBack", "()V"⟩, 52) := ⟨⟨by decide +kernel, by decide +kernel⟩, List.mem_of_getElem? (i := 1166) (by decide +kernel), List.mem_of_getElem? (i := 1798) (by decide +kernel), List.mem_of_getElem? (i := 1799) (by decide +kernel)⟩
theorem lw_p168 : lw_okq (⟨"ReadAloudModel", "goDeep", "(II)I"⟩, 52) := ⟨⟨by decide +kernel, by decide +kernel⟩, List.mem_of_getElem? (i := 1166) (by decide +kernel), List.mem_of_getElem? (i := 1802) (by decide +kernel), List.mem_of_getElem? (i := 1803) (by decide +kernel)⟩
theorem lw_p169 : lw_okq (⟨"ReadAloudModel", "goBack", "(II)V"⟩, 52) := ⟨⟨by decide +kernel, by decide +kernel⟩, List.mem_of_getElem? (i := 1166) (by decide +kernel), List.mem_of_getElem? (i := 1806) (by decide +kernel), List.mem_of_getElem? (i := 1807) (by decide +kernel)⟩
theorem lw_p170 : lw_okq (⟨"ReadAloudModel", "copyAll", "(II)V"⟩, 52) := ⟨⟨by decide +kernel, by decide +kernel⟩, List.mem_of_getElem? (i := 1166) (by decide +kernel), List.mem_of_getElem? (i := 1818) (by decide +kernel), List.mem_of_getElem? (i := 1819) (by decide +kernel)⟩
def lw_privs_11 : List (MethodName × Nat) := [(⟨"ReadAloudModel", "rowsOf", "(II)I"⟩, 52), (⟨"ReadAloudModel", "drawDeed", "()V"⟩, 52), (⟨"ReadAloudModel", "draw", "(I)I"⟩, 52), (⟨"ReadAloudModel", "kinRing", "(I)I"⟩, 52), (⟨"ReadAloudModel", "someOf", "(II)I"⟩, 52), (⟨"ReadAloudModel", "isLeft", "(II)Z"⟩, 52), (⟨"ReadAloudModel", "findCircles", "()I"⟩, 52), (⟨"ReadAloudModel", "layBack", "()V"⟩, 52), (⟨"ReadAloudModel", "goDeep", "(II)I"⟩, 52), (⟨"ReadAloudModel", "goBack", "(II)V"⟩, 52), (⟨"ReadAloudModel", "copyAll", "(II)V"⟩, 52)]
theorem lw_r11 : ∀ q ∈ lw_privs_11, lw_okq q := List.forall_mem_cons.mpr ⟨lw_p160, List.forall_mem_cons.mpr ⟨lw_p161, List.forall_mem_cons.mpr ⟨lw_p162, List.forall_mem_cons.mpr ⟨lw_p163, List.forall_mem_cons.mpr ⟨lw_p164, List.forall_mem_cons.mpr ⟨lw_p165, List.forall_mem_cons.mpr ⟨lw_p166, List.forall_mem_cons.mpr ⟨lw_p167, List.forall_mem_cons.mpr ⟨lw_p168, List.forall_mem_cons.mpr ⟨lw_p169, List.forall_mem_cons.mpr ⟨lw_p170, fun _ h => absurd h List.not_mem_nil⟩⟩⟩⟩⟩⟩⟩⟩⟩⟩⟩
def lw_privs : List (MethodName × Nat) := lw_privs_1 ++ (lw_privs_2 ++ (lw_privs_3 ++ (lw_privs_4 ++ (lw_privs_5 ++ (lw_privs_6 ++ (lw_privs_7 ++ (lw_privs_8 ++ (lw_privs_9 ++ (lw_privs_10 ++ (lw_privs_11))))))))))
def lw_tbl : List Cond := k2_sels lw_privs ++ tables_1
theorem lw_privs_ok : ∀ q ∈ lw_privs, lw_okq q := by
  show ∀ q ∈ lw_privs_1 ++ (lw_privs_2 ++ (lw_privs_3 ++ (lw_privs_4 ++ (lw_privs_5 ++ (lw_privs_6 ++ (lw_privs_7 ++ (lw_privs_8 ++ (lw_privs_9 ++ (lw_privs_10 ++ (lw_privs_11)))))))))), lw_okq q
  exact List.forall_mem_append.mpr ⟨lw_r1, List.forall_mem_append.mpr ⟨lw_r2, List.forall_mem_append.mpr ⟨lw_r3, List.forall_mem_append.mpr ⟨lw_r4, List.forall_mem_append.mpr ⟨lw_r5, List.forall_mem_append.mpr ⟨lw_r6, List.forall_mem_append.mpr ⟨lw_r7, List.forall_mem_append.mpr ⟨lw_r8, List.forall_mem_append.mpr ⟨lw_r9, List.forall_mem_append.mpr ⟨lw_r10, lw_r11⟩⟩⟩⟩⟩⟩⟩⟩⟩⟩
def RX0 : String := "ReadAloud$Book"
def TX0 : u_T := fun k => match k with
  | 0 => ("ReadAloud$Book", "number", "I", false)
  | 1 => ("ReadAloud$Book", "readers", "I", false)
  | 2 => ("ReadAloud$Book", "kinOf", "I", false)
  | 3 => ("ReadAloud$Book", "kin", "[I", true)
  | 4 => ("ReadAloud$Book", "steps", "[I", true)
  | 5 => ("ReadAloud$Book", "stepKinds", "[I", true)
  | _ => ("ReadAloud$Book", "stepNumbers", "[I", true)
def tyX0 : Nat → FieldType := fun k => match k with
  | 0 => .int
  | 1 => .int
  | 2 => .int
  | 3 => .array .int
  | 4 => .array .int
  | 5 => .array .int
  | _ => .array .int
theorem nmX0 : ∀ a, a < 7 → ∀ b, b < 7 → a ≠ b → (TX0 a).2.1 ≠ (TX0 b).2.1 := by decide +kernel
theorem tyX0_ok : ∀ k, k < 7 → parseFieldDescriptor (TX0 k).2.2.1 = some (tyX0 k) := by decide +kernel
def RX1 : String := "ReadAloud$Course"
def TX1 : u_T := fun k => match k with
  | 0 => ("ReadAloud$Course", "book", "LReadAloud$Book;", false)
  | 1 => ("ReadAloud$Course", "day", "I", false)
  | 2 => ("ReadAloud$Course", "sealed", "I", false)
  | 3 => ("ReadAloud$Course", "hushed", "I", false)
  | 4 => ("ReadAloud$Course", "seed", "I", false)
  | 5 => ("ReadAloud$Course", "copies", "[I", true)
  | _ => ("ReadAloud$Course", "timesRead", "[I", true)
def tyX1 : Nat → FieldType := fun k => match k with
  | 0 => .object "ReadAloud$Book"
  | 1 => .int
  | 2 => .int
  | 3 => .int
  | 4 => .int
  | 5 => .array .int
  | _ => .array .int
theorem nmX1 : ∀ a, a < 7 → ∀ b, b < 7 → a ≠ b → (TX1 a).2.1 ≠ (TX1 b).2.1 := by decide +kernel
theorem tyX1_ok : ∀ k, k < 7 → parseFieldDescriptor (TX1 k).2.2.1 = some (tyX1 k) := by decide +kernel
def RX2 : String := "ReadAloud$Levels"
def TX2 : u_T := fun k => match k with
  | 0 => ("ReadAloud$Levels", "readings", "LReadAloud$Readings;", false)
  | 1 => ("ReadAloud$Levels", "n", "I", false)
  | 2 => ("ReadAloud$Levels", "first", "I", false)
  | 3 => ("ReadAloud$Levels", "second", "I", false)
  | 4 => ("ReadAloud$Levels", "start", "[I", true)
  | 5 => ("ReadAloud$Levels", "wanted", "[I", true)
  | 6 => ("ReadAloud$Levels", "texts", "[I", true)
  | 7 => ("ReadAloud$Levels", "ways", "[I", true)
  | 8 => ("ReadAloud$Levels", "worth", "[I", true)
  | _ => ("ReadAloud$Levels", "nodeOf", "[I", true)
def tyX2 : Nat → FieldType := fun k => match k with
  | 0 => .object "ReadAloud$Readings"
  | 1 => .int
  | 2 => .int
  | 3 => .int
  | 4 => .array .int
  | 5 => .array .int
  | 6 => .array .int
  | 7 => .array .int
  | 8 => .array .int
  | _ => .array .int
theorem nmX2 : ∀ a, a < 10 → ∀ b, b < 10 → a ≠ b → (TX2 a).2.1 ≠ (TX2 b).2.1 := by decide +kernel
theorem tyX2_ok : ∀ k, k < 10 → parseFieldDescriptor (TX2 k).2.2.1 = some (tyX2 k) := by decide +kernel
def RX3 : String := "ReadAloud$Lines"
def TX3 : u_T := fun k => match k with
  | _ => ("", "", "", false)
def tyX3 : Nat → FieldType := fun k => match k with
  | _ => .int
theorem nmX3 : ∀ a, a < 0 → ∀ b, b < 0 → a ≠ b → (TX3 a).2.1 ≠ (TX3 b).2.1 := by decide +kernel
theorem tyX3_ok : ∀ k, k < 0 → parseFieldDescriptor (TX3 k).2.2.1 = some (tyX3 k) := by decide +kernel
def RX4 : String := "ReadAloud$Readings"
def TX4 : u_T := fun k => match k with
  | 0 => ("ReadAloud$Readings", "book", "LReadAloud$Book;", false)
  | 1 => ("ReadAloud$Readings", "known", "[I", true)
  | 2 => ("ReadAloud$Readings", "marks", "[B", false)
  | _ => ("ReadAloud$Readings", "spare", "[B", false)
def tyX4 : Nat → FieldType := fun k => match k with
  | 0 => .object "ReadAloud$Book"
  | 1 => .array .int
  | 2 => .array .byte
  | _ => .array .byte
theorem nmX4 : ∀ a, a < 4 → ∀ b, b < 4 → a ≠ b → (TX4 a).2.1 ≠ (TX4 b).2.1 := by decide +kernel
theorem tyX4_ok : ∀ k, k < 4 → parseFieldDescriptor (TX4 k).2.2.1 = some (tyX4 k) := by decide +kernel
def RX5 : String := "ReadAloud$Rings"
def TX5 : u_T := fun k => match k with
  | 0 => ("ReadAloud$Rings", "answers", "[I", true)
  | 1 => ("ReadAloud$Rings", "circles", "I", false)
  | 2 => ("ReadAloud$Rings", "largest", "I", false)
  | 3 => ("ReadAloud$Rings", "found", "I", false)
  | 4 => ("ReadAloud$Rings", "open", "I", false)
  | 5 => ("ReadAloud$Rings", "depth", "I", false)
  | 6 => ("ReadAloud$Rings", "leading", "[I", true)
  | 7 => ("ReadAloud$Rings", "outside", "[I", true)
  | 8 => ("ReadAloud$Rings", "readBefore", "[I", true)
  | 9 => ("ReadAloud$Rings", "way", "[I", true)
  | 10 => ("ReadAloud$Rings", "opened", "[I", true)
  | 11 => ("ReadAloud$Rings", "order", "[I", true)
  | 12 => ("ReadAloud$Rings", "earliest", "[I", true)
  | 13 => ("ReadAloud$Rings", "tried", "[I", true)
  | _ => ("ReadAloud$Rings", "sizeOf", "[I", true)
def tyX5 : Nat → FieldType := fun k => match k with
  | 0 => .array .int
  | 1 => .int
  | 2 => .int
  | 3 => .int
  | 4 => .int
  | 5 => .int
  | 6 => .array .int
  | 7 => .array .int
  | 8 => .array .int
  | 9 => .array .int
  | 10 => .array .int
  | 11 => .array .int
  | 12 => .array .int
  | 13 => .array .int
  | _ => .array .int
theorem nmX5 : ∀ a, a < 15 → ∀ b, b < 15 → a ≠ b → (TX5 a).2.1 ≠ (TX5 b).2.1 := by decide +kernel
theorem tyX5_ok : ∀ k, k < 15 → parseFieldDescriptor (TX5 k).2.2.1 = some (tyX5 k) := by decide +kernel
def RX6 : String := "ReadAloud$Sight"
def TX6 : u_T := fun k => match k with
  | 0 => ("ReadAloud$Sight", "facts", "I", false)
  | 1 => ("ReadAloud$Sight", "behind", "[I", true)
  | _ => ("ReadAloud$Sight", "numbers", "[I", true)
def tyX6 : Nat → FieldType := fun k => match k with
  | 0 => .int
  | 1 => .array .int
  | _ => .array .int
theorem nmX6 : ∀ a, a < 3 → ∀ b, b < 3 → a ≠ b → (TX6 a).2.1 ≠ (TX6 b).2.1 := by decide +kernel
theorem tyX6_ok : ∀ k, k < 3 → parseFieldDescriptor (TX6 k).2.2.1 = some (tyX6 k) := by decide +kernel
def RX7 : String := "ReadAloud$Teller"
def TX7 : u_T := fun k => match k with
  | 0 => ("ReadAloud$Teller", "tape", "[B", false)
  | 1 => ("ReadAloud$Teller", "length", "I", false)
  | 2 => ("ReadAloud$Teller", "at", "I", false)
  | 3 => ("ReadAloud$Teller", "kind", "I", false)
  | 4 => ("ReadAloud$Teller", "start", "I", false)
  | 5 => ("ReadAloud$Teller", "value", "I", false)
  | 6 => ("ReadAloud$Teller", "fault", "I", false)
  | _ => ("ReadAloud$Teller", "place", "I", false)
def tyX7 : Nat → FieldType := fun k => match k with
  | 0 => .array .byte
  | 1 => .int
  | 2 => .int
  | 3 => .int
  | 4 => .int
  | 5 => .int
  | 6 => .int
  | _ => .int
theorem nmX7 : ∀ a, a < 8 → ∀ b, b < 8 → a ≠ b → (TX7 a).2.1 ≠ (TX7 b).2.1 := by decide +kernel
theorem tyX7_ok : ∀ k, k < 8 → parseFieldDescriptor (TX7 k).2.2.1 = some (tyX7 k) := by decide +kernel
def RX8 : String := "ReadAloud$Told"
def TX8 : u_T := fun k => match k with
  | 0 => ("ReadAloud$Told", "tape", "[B", true)
  | 1 => ("ReadAloud$Told", "length", "I", false)
  | 2 => ("ReadAloud$Told", "fault", "I", false)
  | 3 => ("ReadAloud$Told", "place", "I", false)
  | 4 => ("ReadAloud$Told", "counts", "[I", true)
  | 5 => ("ReadAloud$Told", "books", "[LReadAloud$Book;", true)
  | 6 => ("ReadAloud$Told", "years", "[LReadAloud$Year;", true)
  | _ => ("ReadAloud$Told", "sights", "[LReadAloud$Sight;", true)
def tyX8 : Nat → FieldType := fun k => match k with
  | 0 => .array .byte
  | 1 => .int
  | 2 => .int
  | 3 => .int
  | 4 => .array .int
  | 5 => .array (.object "ReadAloud$Book")
  | 6 => .array (.object "ReadAloud$Year")
  | _ => .array (.object "ReadAloud$Sight")
theorem nmX8 : ∀ a, a < 8 → ∀ b, b < 8 → a ≠ b → (TX8 a).2.1 ≠ (TX8 b).2.1 := by decide +kernel
theorem tyX8_ok : ∀ k, k < 8 → parseFieldDescriptor (TX8 k).2.2.1 = some (tyX8 k) := by decide +kernel
def RX9 : String := "ReadAloud$Walk"
def TX9 : u_T := fun k => match k with
  | 0 => ("ReadAloud$Walk", "size", "I", false)
  | 1 => ("ReadAloud$Walk", "queue", "[I", true)
  | 2 => ("ReadAloud$Walk", "needed", "[I", true)
  | 3 => ("ReadAloud$Walk", "back", "[I", true)
  | _ => ("ReadAloud$Walk", "reader", "[I", true)
def tyX9 : Nat → FieldType := fun k => match k with
  | 0 => .int
  | 1 => .array .int
  | 2 => .array .int
  | 3 => .array .int
  | _ => .array .int
theorem nmX9 : ∀ a, a < 5 → ∀ b, b < 5 → a ≠ b → (TX9 a).2.1 ≠ (TX9 b).2.1 := by decide +kernel
theorem tyX9_ok : ∀ k, k < 5 → parseFieldDescriptor (TX9 k).2.2.1 = some (tyX9 k) := by decide +kernel
def RX10 : String := "ReadAloud$Year"
def TX10 : u_T := fun k => match k with
  | 0 => ("ReadAloud$Year", "deeds", "I", false)
  | 1 => ("ReadAloud$Year", "kinds", "[I", true)
  | 2 => ("ReadAloud$Year", "ones", "[I", true)
  | _ => ("ReadAloud$Year", "others", "[I", true)
def tyX10 : Nat → FieldType := fun k => match k with
  | 0 => .int
  | 1 => .array .int
  | 2 => .array .int
  | _ => .array .int
theorem nmX10 : ∀ a, a < 4 → ∀ b, b < 4 → a ≠ b → (TX10 a).2.1 ≠ (TX10 b).2.1 := by decide +kernel
theorem tyX10_ok : ∀ k, k < 4 → parseFieldDescriptor (TX10 k).2.2.1 = some (tyX10 k) := by decide +kernel
def RX11 : String := "ReadAloud"
def TX11 : u_T := fun k => match k with
  | 0 => ("ReadAloud", "told", "LReadAloud$Told;", true)
  | 1 => ("ReadAloud", "images", "[LReadAloud$Told;", true)
  | 2 => ("ReadAloud", "teller", "LReadAloud$Teller;", true)
  | 3 => ("ReadAloud", "course", "LReadAloud$Course;", true)
  | 4 => ("ReadAloud", "readings", "[LReadAloud$Readings;", true)
  | 5 => ("ReadAloud", "walks", "[LReadAloud$Walk;", true)
  | 6 => ("ReadAloud", "levels", "LReadAloud$Levels;", false)
  | _ => ("ReadAloud", "rings", "LReadAloud$Rings;", false)
def tyX11 : Nat → FieldType := fun k => match k with
  | 0 => .object "ReadAloud$Told"
  | 1 => .array (.object "ReadAloud$Told")
  | 2 => .object "ReadAloud$Teller"
  | 3 => .object "ReadAloud$Course"
  | 4 => .array (.object "ReadAloud$Readings")
  | 5 => .array (.object "ReadAloud$Walk")
  | 6 => .object "ReadAloud$Levels"
  | _ => .object "ReadAloud$Rings"
theorem nmX11 : ∀ a, a < 8 → ∀ b, b < 8 → a ≠ b → (TX11 a).2.1 ≠ (TX11 b).2.1 := by decide +kernel
theorem tyX11_ok : ∀ k, k < 8 → parseFieldDescriptor (TX11 k).2.2.1 = some (tyX11 k) := by decide +kernel
def RX12 : String := "ReadAloudModel"
def TX12 : u_T := fun k => match k with
  | 0 => ("ReadAloudModel", "code", "I", false)
  | 1 => ("ReadAloudModel", "tape", "[B", true)
  | 2 => ("ReadAloudModel", "size", "[I", true)
  | 3 => ("ReadAloudModel", "fault", "[I", true)
  | 4 => ("ReadAloudModel", "faultPlace", "[I", true)
  | 5 => ("ReadAloudModel", "many", "[I", true)
  | 6 => ("ReadAloudModel", "books", "[I", true)
  | 7 => ("ReadAloudModel", "years", "[I", true)
  | 8 => ("ReadAloudModel", "sights", "[I", true)
  | 9 => ("ReadAloudModel", "reached", "I", false)
  | 10 => ("ReadAloudModel", "length", "I", false)
  | 11 => ("ReadAloudModel", "begins", "I", false)
  | 12 => ("ReadAloudModel", "sort", "I", false)
  | 13 => ("ReadAloudModel", "value", "I", false)
  | 14 => ("ReadAloudModel", "word", "J", false)
  | 15 => ("ReadAloudModel", "wrongAt", "I", false)
  | 16 => ("ReadAloudModel", "laterFault", "I", false)
  | 17 => ("ReadAloudModel", "laterPlace", "I", false)
  | 18 => ("ReadAloudModel", "told", "[I", true)
  | 19 => ("ReadAloudModel", "read", "[I", true)
  | 20 => ("ReadAloudModel", "book", "I", false)
  | 21 => ("ReadAloudModel", "madeOf", "I", false)
  | 22 => ("ReadAloudModel", "base", "I", false)
  | 23 => ("ReadAloudModel", "readers", "I", false)
  | 24 => ("ReadAloudModel", "words", "[I", true)
  | 25 => ("ReadAloudModel", "others", "[I", true)
  | 26 => ("ReadAloudModel", "lasts", "I", false)
  | 27 => ("ReadAloudModel", "drifts", "[I", true)
  | 28 => ("ReadAloudModel", "year", "I", false)
  | 29 => ("ReadAloudModel", "copies", "[I", true)
  | 30 => ("ReadAloudModel", "often", "[I", true)
  | 31 => ("ReadAloudModel", "day", "I", false)
  | 32 => ("ReadAloudModel", "sealed", "I", false)
  | 33 => ("ReadAloudModel", "hushed", "I", false)
  | 34 => ("ReadAloudModel", "made", "[I", true)
  | 35 => ("ReadAloudModel", "far", "[I", true)
  | 36 => ("ReadAloudModel", "far2", "[I", true)
  | 37 => ("ReadAloudModel", "order", "[I", true)
  | 38 => ("ReadAloudModel", "come", "I", false)
  | 39 => ("ReadAloudModel", "comes", "[I", true)
  | 40 => ("ReadAloudModel", "least", "[I", true)
  | 41 => ("ReadAloudModel", "sight", "I", false)
  | 42 => ("ReadAloudModel", "ways", "[I", true)
  | 43 => ("ReadAloudModel", "onward", "[I", true)
  | 44 => ("ReadAloudModel", "seed", "I", false)
  | 45 => ("ReadAloudModel", "under", "[I", true)
  | 46 => ("ReadAloudModel", "tried", "[I", true)
  | 47 => ("ReadAloudModel", "circle", "[I", true)
  | 48 => ("ReadAloudModel", "sizes", "[I", true)
  | 49 => ("ReadAloudModel", "firstTo", "[I", true)
  | 50 => ("ReadAloudModel", "nextTo", "[I", true)
  | _ => ("ReadAloudModel", "kept", "[Z", true)
def tyX12 : Nat → FieldType := fun k => match k with
  | 0 => .int
  | 1 => .array .byte
  | 2 => .array .int
  | 3 => .array .int
  | 4 => .array .int
  | 5 => .array .int
  | 6 => .array .int
  | 7 => .array .int
  | 8 => .array .int
  | 9 => .int
  | 10 => .int
  | 11 => .int
  | 12 => .int
  | 13 => .int
  | 14 => .long
  | 15 => .int
  | 16 => .int
  | 17 => .int
  | 18 => .array .int
  | 19 => .array .int
  | 20 => .int
  | 21 => .int
  | 22 => .int
  | 23 => .int
  | 24 => .array .int
  | 25 => .array .int
  | 26 => .int
  | 27 => .array .int
  | 28 => .int
  | 29 => .array .int
  | 30 => .array .int
  | 31 => .int
  | 32 => .int
  | 33 => .int
  | 34 => .array .int
  | 35 => .array .int
  | 36 => .array .int
  | 37 => .array .int
  | 38 => .int
  | 39 => .array .int
  | 40 => .array .int
  | 41 => .int
  | 42 => .array .int
  | 43 => .array .int
  | 44 => .int
  | 45 => .array .int
  | 46 => .array .int
  | 47 => .array .int
  | 48 => .array .int
  | 49 => .array .int
  | 50 => .array .int
  | _ => .array .boolean
theorem nmX12 : ∀ a, a < 52 → ∀ b, b < 52 → a ≠ b → (TX12 a).2.1 ≠ (TX12 b).2.1 := by decide +kernel
theorem tyX12_ok : ∀ k, k < 52 → parseFieldDescriptor (TX12 k).2.2.1 = some (tyX12 k) := by decide +kernel
def RL : String := "ReadAloudLaw"
