section
-- ===== PART A: goes FIRST, ahead of the names: the tables' words, and 'selects' of the private methods out of them =====
/-- a private method of a class that the tables say can be made, by its rows of tables_1 -/
def lw_okq (q : MethodName × Nat) : Prop := (q.1.cls ≠ "java/lang/invoke/MethodHandle" ∧ q.1.cls ≠ "java/lang/invoke/VarHandle") ∧ Cond.instantiable q.1.cls q.2 ∈ tables_1 ∧ Cond.privateMethod q.1 ∈ tables_1 ∧ Cond.instanceMethod q.1 ∈ tables_1
theorem lw_p0 : lw_okq (⟨"ReadAloud$Told", "putBytes", "(I)V"⟩, 8) := ⟨⟨by decide +kernel, by decide +kernel⟩, List.mem_of_getElem? (i := 31) (by decide +kernel), List.mem_of_getElem? (i := 176) (by decide +kernel), List.mem_of_getElem? (i := 177) (by decide +kernel)⟩
theorem lw_p1 : lw_okq (⟨"ReadAloud", "tellInto", "(III)Z"⟩, 8) := ⟨⟨by decide +kernel, by decide +kernel⟩, List.mem_of_getElem? (i := 23) (by decide +kernel), List.mem_of_getElem? (i := 188) (by decide +kernel), List.mem_of_getElem? (i := 189) (by decide +kernel)⟩
theorem lw_p2 : lw_okq (⟨"ReadAloud$Teller", "tell", "([BILReadAloud$Lines;)Z"⟩, 8) := ⟨⟨by decide +kernel, by decide +kernel⟩, List.mem_of_getElem? (i := 79) (by decide +kernel), List.mem_of_getElem? (i := 231) (by decide +kernel), List.mem_of_getElem? (i := 232) (by decide +kernel)⟩
theorem lw_p3 : lw_okq (⟨"ReadAloud$Teller", "advance", "()V"⟩, 8) := ⟨⟨by decide +kernel, by decide +kernel⟩, List.mem_of_getElem? (i := 79) (by decide +kernel), List.mem_of_getElem? (i := 235) (by decide +kernel), List.mem_of_getElem? (i := 236) (by decide +kernel)⟩
theorem lw_p4 : lw_okq (⟨"ReadAloud$Teller", "isLetter", "(I)Z"⟩, 8) := ⟨⟨by decide +kernel, by decide +kernel⟩, List.mem_of_getElem? (i := 79) (by decide +kernel), List.mem_of_getElem? (i := 239) (by decide +kernel), List.mem_of_getElem? (i := 240) (by decide +kernel)⟩
theorem lw_p5 : lw_okq (⟨"ReadAloud$Teller", "isDigit", "(I)Z"⟩, 8) := ⟨⟨by decide +kernel, by decide +kernel⟩, List.mem_of_getElem? (i := 79) (by decide +kernel), List.mem_of_getElem? (i := 243) (by decide +kernel), List.mem_of_getElem? (i := 244) (by decide +kernel)⟩
theorem lw_p6 : lw_okq (⟨"ReadAloud$Teller", "advanceDigits", "()V"⟩, 8) := ⟨⟨by decide +kernel, by decide +kernel⟩, List.mem_of_getElem? (i := 79) (by decide +kernel), List.mem_of_getElem? (i := 247) (by decide +kernel), List.mem_of_getElem? (i := 248) (by decide +kernel)⟩
theorem lw_p7 : lw_okq (⟨"ReadAloud$Teller", "tellLine", "(LReadAloud$Lines;)Z"⟩, 8) := ⟨⟨by decide +kernel, by decide +kernel⟩, List.mem_of_getElem? (i := 79) (by decide +kernel), List.mem_of_getElem? (i := 251) (by decide +kernel), List.mem_of_getElem? (i := 252) (by decide +kernel)⟩
theorem lw_p8 : lw_okq (⟨"ReadAloud$Teller", "isAtHand", "(Ljava/lang/String;)Z"⟩, 8) := ⟨⟨by decide +kernel, by decide +kernel⟩, List.mem_of_getElem? (i := 79) (by decide +kernel), List.mem_of_getElem? (i := 262) (by decide +kernel), List.mem_of_getElem? (i := 263) (by decide +kernel)⟩
theorem lw_p9 : lw_okq (⟨"ReadAloud$Teller", "faultHere", "(I)V"⟩, 8) := ⟨⟨by decide +kernel, by decide +kernel⟩, List.mem_of_getElem? (i := 79) (by decide +kernel), List.mem_of_getElem? (i := 342) (by decide +kernel), List.mem_of_getElem? (i := 343) (by decide +kernel)⟩
theorem lw_p10 : lw_okq (⟨"ReadAloud$Book", "beginStep", "(ILReadAloud$Teller;)V"⟩, 7) := ⟨⟨by decide +kernel, by decide +kernel⟩, List.mem_of_getElem? (i := 192) (by decide +kernel), List.mem_of_getElem? (i := 346) (by decide +kernel), List.mem_of_getElem? (i := 347) (by decide +kernel)⟩
theorem lw_p11 : lw_okq (⟨"ReadAloud$Teller", "isWithin", "(II)Z"⟩, 8) := ⟨⟨by decide +kernel, by decide +kernel⟩, List.mem_of_getElem? (i := 79) (by decide +kernel), List.mem_of_getElem? (i := 376) (by decide +kernel), List.mem_of_getElem? (i := 377) (by decide +kernel)⟩
theorem lw_p12 : lw_okq (⟨"ReadAloud$Book", "keepNumber", "(III)V"⟩, 7) := ⟨⟨by decide +kernel, by decide +kernel⟩, List.mem_of_getElem? (i := 192) (by decide +kernel), List.mem_of_getElem? (i := 381) (by decide +kernel), List.mem_of_getElem? (i := 382) (by decide +kernel)⟩
theorem lw_p13 : lw_okq (⟨"ReadAloud", "bookAt", "(I)LReadAloud$Book;"⟩, 8) := ⟨⟨by decide +kernel, by decide +kernel⟩, List.mem_of_getElem? (i := 23) (by decide +kernel), List.mem_of_getElem? (i := 468) (by decide +kernel), List.mem_of_getElem? (i := 469) (by decide +kernel)⟩
theorem lw_p14 : lw_okq (⟨"ReadAloud$Book", "tells", "(I)I"⟩, 7) := ⟨⟨by decide +kernel, by decide +kernel⟩, List.mem_of_getElem? (i := 192) (by decide +kernel), List.mem_of_getElem? (i := 472) (by decide +kernel), List.mem_of_getElem? (i := 473) (by decide +kernel)⟩
theorem lw_p15 : lw_okq (⟨"ReadAloud$Book", "tellsStep", "(II)I"⟩, 7) := ⟨⟨by decide +kernel, by decide +kernel⟩, List.mem_of_getElem? (i := 192) (by decide +kernel), List.mem_of_getElem? (i := 476) (by decide +kernel), List.mem_of_getElem? (i := 477) (by decide +kernel)⟩
def lw_privs_1 : List (MethodName × Nat) := [(⟨"ReadAloud$Told", "putBytes", "(I)V"⟩, 8), (⟨"ReadAloud", "tellInto", "(III)Z"⟩, 8), (⟨"ReadAloud$Teller", "tell", "([BILReadAloud$Lines;)Z"⟩, 8), (⟨"ReadAloud$Teller", "advance", "()V"⟩, 8), (⟨"ReadAloud$Teller", "isLetter", "(I)Z"⟩, 8), (⟨"ReadAloud$Teller", "isDigit", "(I)Z"⟩, 8), (⟨"ReadAloud$Teller", "advanceDigits", "()V"⟩, 8), (⟨"ReadAloud$Teller", "tellLine", "(LReadAloud$Lines;)Z"⟩, 8), (⟨"ReadAloud$Teller", "isAtHand", "(Ljava/lang/String;)Z"⟩, 8), (⟨"ReadAloud$Teller", "faultHere", "(I)V"⟩, 8), (⟨"ReadAloud$Book", "beginStep", "(ILReadAloud$Teller;)V"⟩, 7), (⟨"ReadAloud$Teller", "isWithin", "(II)Z"⟩, 8), (⟨"ReadAloud$Book", "keepNumber", "(III)V"⟩, 7), (⟨"ReadAloud", "bookAt", "(I)LReadAloud$Book;"⟩, 8), (⟨"ReadAloud$Book", "tells", "(I)I"⟩, 7), (⟨"ReadAloud$Book", "tellsStep", "(II)I"⟩, 7)]
theorem lw_r1 : ∀ q ∈ lw_privs_1, lw_okq q := List.forall_mem_cons.mpr ⟨lw_p0, List.forall_mem_cons.mpr ⟨lw_p1, List.forall_mem_cons.mpr ⟨lw_p2, List.forall_mem_cons.mpr ⟨lw_p3, List.forall_mem_cons.mpr ⟨lw_p4, List.forall_mem_cons.mpr ⟨lw_p5, List.forall_mem_cons.mpr ⟨lw_p6, List.forall_mem_cons.mpr ⟨lw_p7, List.forall_mem_cons.mpr ⟨lw_p8, List.forall_mem_cons.mpr ⟨lw_p9, List.forall_mem_cons.mpr ⟨lw_p10, List.forall_mem_cons.mpr ⟨lw_p11, List.forall_mem_cons.mpr ⟨lw_p12, List.forall_mem_cons.mpr ⟨lw_p13, List.forall_mem_cons.mpr ⟨lw_p14, List.forall_mem_cons.mpr ⟨lw_p15, fun _ h => absurd h List.not_mem_nil⟩⟩⟩⟩⟩⟩⟩⟩⟩⟩⟩⟩⟩⟩⟩⟩
theorem lw_p16 : lw_okq (⟨"ReadAloud$Book", "hasReader", "(I)Z"⟩, 7) := ⟨⟨by decide +kernel, by decide +kernel⟩, List.mem_of_getElem? (i := 192) (by decide +kernel), List.mem_of_getElem? (i := 480) (by decide +kernel), List.mem_of_getElem? (i := 481) (by decide +kernel)⟩
theorem lw_p17 : lw_okq (⟨"ReadAloud$Book", "readBy", "(II)I"⟩, 7) := ⟨⟨by decide +kernel, by decide +kernel⟩, List.mem_of_getElem? (i := 192) (by decide +kernel), List.mem_of_getElem? (i := 518) (by decide +kernel), List.mem_of_getElem? (i := 519) (by decide +kernel)⟩
theorem lw_p18 : lw_okq (⟨"ReadAloud$Book", "stepOn", "(III)I"⟩, 7) := ⟨⟨by decide +kernel, by decide +kernel⟩, List.mem_of_getElem? (i := 192) (by decide +kernel), List.mem_of_getElem? (i := 523) (by decide +kernel), List.mem_of_getElem? (i := 524) (by decide +kernel)⟩
theorem lw_p19 : lw_okq (⟨"ReadAloud$Book", "shifted", "(III)I"⟩, 7) := ⟨⟨by decide +kernel, by decide +kernel⟩, List.mem_of_getElem? (i := 192) (by decide +kernel), List.mem_of_getElem? (i := 530) (by decide +kernel), List.mem_of_getElem? (i := 531) (by decide +kernel)⟩
theorem lw_p20 : lw_okq (⟨"ReadAloud", "yearAt", "(I)LReadAloud$Year;"⟩, 8) := ⟨⟨by decide +kernel, by decide +kernel⟩, List.mem_of_getElem? (i := 23) (by decide +kernel), List.mem_of_getElem? (i := 554) (by decide +kernel), List.mem_of_getElem? (i := 555) (by decide +kernel)⟩
theorem lw_p21 : lw_okq (⟨"ReadAloud$Year", "tells", "(II)I"⟩, 4) := ⟨⟨by decide +kernel, by decide +kernel⟩, List.mem_of_getElem? (i := 414) (by decide +kernel), List.mem_of_getElem? (i := 558) (by decide +kernel), List.mem_of_getElem? (i := 559) (by decide +kernel)⟩
theorem lw_p22 : lw_okq (⟨"ReadAloud$Course", "begin", "(LReadAloud$Book;)V"⟩, 7) := ⟨⟨by decide +kernel, by decide +kernel⟩, List.mem_of_getElem? (i := 115) (by decide +kernel), List.mem_of_getElem? (i := 566) (by decide +kernel), List.mem_of_getElem? (i := 567) (by decide +kernel)⟩
theorem lw_p23 : lw_okq (⟨"ReadAloud$Course", "doFirst", "(LReadAloud$Year;I)I"⟩, 7) := ⟨⟨by decide +kernel, by decide +kernel⟩, List.mem_of_getElem? (i := 115) (by decide +kernel), List.mem_of_getElem? (i := 573) (by decide +kernel), List.mem_of_getElem? (i := 574) (by decide +kernel)⟩
theorem lw_p24 : lw_okq (⟨"ReadAloud$Course", "doDeed", "(III)Z"⟩, 7) := ⟨⟨by decide +kernel, by decide +kernel⟩, List.mem_of_getElem? (i := 115) (by decide +kernel), List.mem_of_getElem? (i := 577) (by decide +kernel), List.mem_of_getElem? (i := 578) (by decide +kernel)⟩
theorem lw_p25 : lw_okq (⟨"ReadAloud$Course", "doRead", "(II)Z"⟩, 7) := ⟨⟨by decide +kernel, by decide +kernel⟩, List.mem_of_getElem? (i := 115) (by decide +kernel), List.mem_of_getElem? (i := 581) (by decide +kernel), List.mem_of_getElem? (i := 582) (by decide +kernel)⟩
theorem lw_p26 : lw_okq (⟨"ReadAloud$Course", "doCopy", "(II)Z"⟩, 7) := ⟨⟨by decide +kernel, by decide +kernel⟩, List.mem_of_getElem? (i := 115) (by decide +kernel), List.mem_of_getElem? (i := 590) (by decide +kernel), List.mem_of_getElem? (i := 591) (by decide +kernel)⟩
theorem lw_p27 : lw_okq (⟨"ReadAloud$Course", "tells", "(I)I"⟩, 7) := ⟨⟨by decide +kernel, by decide +kernel⟩, List.mem_of_getElem? (i := 115) (by decide +kernel), List.mem_of_getElem? (i := 598) (by decide +kernel), List.mem_of_getElem? (i := 599) (by decide +kernel)⟩
theorem lw_p28 : lw_okq (⟨"ReadAloud$Course", "suits", "()I"⟩, 7) := ⟨⟨by decide +kernel, by decide +kernel⟩, List.mem_of_getElem? (i := 115) (by decide +kernel), List.mem_of_getElem? (i := 602) (by decide +kernel), List.mem_of_getElem? (i := 603) (by decide +kernel)⟩
theorem lw_p29 : lw_okq (⟨"ReadAloud$Course", "against", "()I"⟩, 7) := ⟨⟨by decide +kernel, by decide +kernel⟩, List.mem_of_getElem? (i := 115) (by decide +kernel), List.mem_of_getElem? (i := 606) (by decide +kernel), List.mem_of_getElem? (i := 607) (by decide +kernel)⟩
theorem lw_p30 : lw_okq (⟨"ReadAloud$Course", "driftOfCopy", "(I)I"⟩, 7) := ⟨⟨by decide +kernel, by decide +kernel⟩, List.mem_of_getElem? (i := 115) (by decide +kernel), List.mem_of_getElem? (i := 610) (by decide +kernel), List.mem_of_getElem? (i := 611) (by decide +kernel)⟩
theorem lw_p31 : lw_okq (⟨"ReadAloud", "readingsAt", "(I)LReadAloud$Readings;"⟩, 8) := ⟨⟨by decide +kernel, by decide +kernel⟩, List.mem_of_getElem? (i := 23) (by decide +kernel), List.mem_of_getElem? (i := 619) (by decide +kernel), List.mem_of_getElem? (i := 620) (by decide +kernel)⟩
def lw_privs_2 : List (MethodName × Nat) := [(⟨"ReadAloud$Book", "hasReader", "(I)Z"⟩, 7), (⟨"ReadAloud$Book", "readBy", "(II)I"⟩, 7), (⟨"ReadAloud$Book", "stepOn", "(III)I"⟩, 7), (⟨"ReadAloud$Book", "shifted", "(III)I"⟩, 7), (⟨"ReadAloud", "yearAt", "(I)LReadAloud$Year;"⟩, 8), (⟨"ReadAloud$Year", "tells", "(II)I"⟩, 4), (⟨"ReadAloud$Course", "begin", "(LReadAloud$Book;)V"⟩, 7), (⟨"ReadAloud$Course", "doFirst", "(LReadAloud$Year;I)I"⟩, 7), (⟨"ReadAloud$Course", "doDeed", "(III)Z"⟩, 7), (⟨"ReadAloud$Course", "doRead", "(II)Z"⟩, 7), (⟨"ReadAloud$Course", "doCopy", "(II)Z"⟩, 7), (⟨"ReadAloud$Course", "tells", "(I)I"⟩, 7), (⟨"ReadAloud$Course", "suits", "()I"⟩, 7), (⟨"ReadAloud$Course", "against", "()I"⟩, 7), (⟨"ReadAloud$Course", "driftOfCopy", "(I)I"⟩, 7), (⟨"ReadAloud", "readingsAt", "(I)LReadAloud$Readings;"⟩, 8)]
theorem lw_r2 : ∀ q ∈ lw_privs_2, lw_okq q := List.forall_mem_cons.mpr ⟨lw_p16, List.forall_mem_cons.mpr ⟨lw_p17, List.forall_mem_cons.mpr ⟨lw_p18, List.forall_mem_cons.mpr ⟨lw_p19, List.forall_mem_cons.mpr ⟨lw_p20, List.forall_mem_cons.mpr ⟨lw_p21, List.forall_mem_cons.mpr ⟨lw_p22, List.forall_mem_cons.mpr ⟨lw_p23, List.forall_mem_cons.mpr ⟨lw_p24, List.forall_mem_cons.mpr ⟨lw_p25, List.forall_mem_cons.mpr ⟨lw_p26, List.forall_mem_cons.mpr ⟨lw_p27, List.forall_mem_cons.mpr ⟨lw_p28, List.forall_mem_cons.mpr ⟨lw_p29, List.forall_mem_cons.mpr ⟨lw_p30, List.forall_mem_cons.mpr ⟨lw_p31, fun _ h => absurd h List.not_mem_nil⟩⟩⟩⟩⟩⟩⟩⟩⟩⟩⟩⟩⟩⟩⟩⟩
theorem lw_p32 : lw_okq (⟨"ReadAloud$Readings", "takeUp", "(LReadAloud$Book;)V"⟩, 4) := ⟨⟨by decide +kernel, by decide +kernel⟩, List.mem_of_getElem? (i := 622) (by decide +kernel), List.mem_of_getElem? (i := 645) (by decide +kernel), List.mem_of_getElem? (i := 646) (by decide +kernel)⟩
theorem lw_p33 : lw_okq (⟨"ReadAloud", "walkAt", "(I)LReadAloud$Walk;"⟩, 8) := ⟨⟨by decide +kernel, by decide +kernel⟩, List.mem_of_getElem? (i := 23) (by decide +kernel), List.mem_of_getElem? (i := 650) (by decide +kernel), List.mem_of_getElem? (i := 651) (by decide +kernel)⟩
theorem lw_p34 : lw_okq (⟨"ReadAloud$Readings", "all", "()I"⟩, 4) := ⟨⟨by decide +kernel, by decide +kernel⟩, List.mem_of_getElem? (i := 622) (by decide +kernel), List.mem_of_getElem? (i := 678) (by decide +kernel), List.mem_of_getElem? (i := 679) (by decide +kernel)⟩
theorem lw_p35 : lw_okq (⟨"ReadAloud$Walk", "go", "(LReadAloud$Readings;III)V"⟩, 5) := ⟨⟨by decide +kernel, by decide +kernel⟩, List.mem_of_getElem? (i := 653) (by decide +kernel), List.mem_of_getElem? (i := 682) (by decide +kernel), List.mem_of_getElem? (i := 683) (by decide +kernel)⟩
theorem lw_p36 : lw_okq (⟨"ReadAloud$Walk", "comeTo", "(IIII)V"⟩, 5) := ⟨⟨by decide +kernel, by decide +kernel⟩, List.mem_of_getElem? (i := 653) (by decide +kernel), List.mem_of_getElem? (i := 686) (by decide +kernel), List.mem_of_getElem? (i := 687) (by decide +kernel)⟩
theorem lw_p37 : lw_okq (⟨"ReadAloud$Readings", "after", "(II)I"⟩, 4) := ⟨⟨by decide +kernel, by decide +kernel⟩, List.mem_of_getElem? (i := 622) (by decide +kernel), List.mem_of_getElem? (i := 691) (by decide +kernel), List.mem_of_getElem? (i := 692) (by decide +kernel)⟩
theorem lw_p38 : lw_okq (⟨"ReadAloud$Walk", "readerOnWay", "(II)I"⟩, 5) := ⟨⟨by decide +kernel, by decide +kernel⟩, List.mem_of_getElem? (i := 653) (by decide +kernel), List.mem_of_getElem? (i := 696) (by decide +kernel), List.mem_of_getElem? (i := 697) (by decide +kernel)⟩
theorem lw_p39 : lw_okq (⟨"ReadAloud$Walk", "wayBack", "(LReadAloud$Readings;I)I"⟩, 5) := ⟨⟨by decide +kernel, by decide +kernel⟩, List.mem_of_getElem? (i := 653) (by decide +kernel), List.mem_of_getElem? (i := 704) (by decide +kernel), List.mem_of_getElem? (i := 705) (by decide +kernel)⟩
theorem lw_p40 : lw_okq (⟨"ReadAloud$Walk", "farthest", "()I"⟩, 5) := ⟨⟨by decide +kernel, by decide +kernel⟩, List.mem_of_getElem? (i := 653) (by decide +kernel), List.mem_of_getElem? (i := 712) (by decide +kernel), List.mem_of_getElem? (i := 713) (by decide +kernel)⟩
theorem lw_p41 : lw_okq (⟨"ReadAloud$Book", "hasReaders", "(I)Z"⟩, 7) := ⟨⟨by decide +kernel, by decide +kernel⟩, List.mem_of_getElem? (i := 192) (by decide +kernel), List.mem_of_getElem? (i := 720) (by decide +kernel), List.mem_of_getElem? (i := 721) (by decide +kernel)⟩
theorem lw_p42 : lw_okq (⟨"ReadAloud$Readings", "unchangedBy", "(I)I"⟩, 4) := ⟨⟨by decide +kernel, by decide +kernel⟩, List.mem_of_getElem? (i := 622) (by decide +kernel), List.mem_of_getElem? (i := 724) (by decide +kernel), List.mem_of_getElem? (i := 725) (by decide +kernel)⟩
theorem lw_p43 : lw_okq (⟨"ReadAloud$Readings", "isChanged", "(II)Z"⟩, 4) := ⟨⟨by decide +kernel, by decide +kernel⟩, List.mem_of_getElem? (i := 622) (by decide +kernel), List.mem_of_getElem? (i := 728) (by decide +kernel), List.mem_of_getElem? (i := 729) (by decide +kernel)⟩
theorem lw_p44 : lw_okq (⟨"ReadAloud$Readings", "alikeEitherWay", "(II)I"⟩, 4) := ⟨⟨by decide +kernel, by decide +kernel⟩, List.mem_of_getElem? (i := 622) (by decide +kernel), List.mem_of_getElem? (i := 738) (by decide +kernel), List.mem_of_getElem? (i := 739) (by decide +kernel)⟩
theorem lw_p45 : lw_okq (⟨"ReadAloud", "ringsThere", "()LReadAloud$Rings;"⟩, 8) := ⟨⟨by decide +kernel, by decide +kernel⟩, List.mem_of_getElem? (i := 23) (by decide +kernel), List.mem_of_getElem? (i := 746) (by decide +kernel), List.mem_of_getElem? (i := 747) (by decide +kernel)⟩
theorem lw_p46 : lw_okq (⟨"ReadAloud$Rings", "findOrbits", "(LReadAloud$Readings;I)V"⟩, 15) := ⟨⟨by decide +kernel, by decide +kernel⟩, List.mem_of_getElem? (i := 750) (by decide +kernel), List.mem_of_getElem? (i := 806) (by decide +kernel), List.mem_of_getElem? (i := 807) (by decide +kernel)⟩
theorem lw_p47 : lw_okq (⟨"ReadAloud$Rings", "putThoseOfNone", "()I"⟩, 15) := ⟨⟨by decide +kernel, by decide +kernel⟩, List.mem_of_getElem? (i := 750) (by decide +kernel), List.mem_of_getElem? (i := 812) (by decide +kernel), List.mem_of_getElem? (i := 813) (by decide +kernel)⟩
def lw_privs_3 : List (MethodName × Nat) := [(⟨"ReadAloud$Readings", "takeUp", "(LReadAloud$Book;)V"⟩, 4), (⟨"ReadAloud", "walkAt", "(I)LReadAloud$Walk;"⟩, 8), (⟨"ReadAloud$Readings", "all", "()I"⟩, 4), (⟨"ReadAloud$Walk", "go", "(LReadAloud$Readings;III)V"⟩, 5), (⟨"ReadAloud$Walk", "comeTo", "(IIII)V"⟩, 5), (⟨"ReadAloud$Readings", "after", "(II)I"⟩, 4), (⟨"ReadAloud$Walk", "readerOnWay", "(II)I"⟩, 5), (⟨"ReadAloud$Walk", "wayBack", "(LReadAloud$Readings;I)I"⟩, 5), (⟨"ReadAloud$Walk", "farthest", "()I"⟩, 5), (⟨"ReadAloud$Book", "hasReaders", "(I)Z"⟩, 7), (⟨"ReadAloud$Readings", "unchangedBy", "(I)I"⟩, 4), (⟨"ReadAloud$Readings", "isChanged", "(II)Z"⟩, 4), (⟨"ReadAloud$Readings", "alikeEitherWay", "(II)I"⟩, 4), (⟨"ReadAloud", "ringsThere", "()LReadAloud$Rings;"⟩, 8), (⟨"ReadAloud$Rings", "findOrbits", "(LReadAloud$Readings;I)V"⟩, 15), (⟨"ReadAloud$Rings", "putThoseOfNone", "()I"⟩, 15)]
theorem lw_r3 : ∀ q ∈ lw_privs_3, lw_okq q := List.forall_mem_cons.mpr ⟨lw_p32, List.forall_mem_cons.mpr ⟨lw_p33, List.forall_mem_cons.mpr ⟨lw_p34, List.forall_mem_cons.mpr ⟨lw_p35, List.forall_mem_cons.mpr ⟨lw_p36, List.forall_mem_cons.mpr ⟨lw_p37, List.forall_mem_cons.mpr ⟨lw_p38, List.forall_mem_cons.mpr ⟨lw_p39, List.forall_mem_cons.mpr ⟨lw_p40, List.forall_mem_cons.mpr ⟨lw_p41, List.forall_mem_cons.mpr ⟨lw_p42, List.forall_mem_cons.mpr ⟨lw_p43, List.forall_mem_cons.mpr ⟨lw_p44, List.forall_mem_cons.mpr ⟨lw_p45, List.forall_mem_cons.mpr ⟨lw_p46, List.forall_mem_cons.mpr ⟨lw_p47, fun _ h => absurd h List.not_mem_nil⟩⟩⟩⟩⟩⟩⟩⟩⟩⟩⟩⟩⟩⟩⟩⟩
theorem lw_p48 : lw_okq (⟨"ReadAloud$Rings", "takeOutside", "(LReadAloud$Readings;II)I"⟩, 15) := ⟨⟨by decide +kernel, by decide +kernel⟩, List.mem_of_getElem? (i := 750) (by decide +kernel), List.mem_of_getElem? (i := 816) (by decide +kernel), List.mem_of_getElem? (i := 817) (by decide +kernel)⟩
theorem lw_p49 : lw_okq (⟨"ReadAloud$Rings", "goRound", "(LReadAloud$Readings;II)I"⟩, 15) := ⟨⟨by decide +kernel, by decide +kernel⟩, List.mem_of_getElem? (i := 750) (by decide +kernel), List.mem_of_getElem? (i := 821) (by decide +kernel), List.mem_of_getElem? (i := 822) (by decide +kernel)⟩
theorem lw_p50 : lw_okq (⟨"ReadAloud", "levelsThere", "()LReadAloud$Levels;"⟩, 8) := ⟨⟨by decide +kernel, by decide +kernel⟩, List.mem_of_getElem? (i := 23) (by decide +kernel), List.mem_of_getElem? (i := 832) (by decide +kernel), List.mem_of_getElem? (i := 833) (by decide +kernel)⟩
theorem lw_p51 : lw_okq (⟨"ReadAloud$Levels", "wantNothing", "()V"⟩, 10) := ⟨⟨by decide +kernel, by decide +kernel⟩, List.mem_of_getElem? (i := 836) (by decide +kernel), List.mem_of_getElem? (i := 874) (by decide +kernel), List.mem_of_getElem? (i := 875) (by decide +kernel)⟩
theorem lw_p52 : lw_okq (⟨"ReadAloud$Levels", "spread", "(LReadAloud$Readings;III)V"⟩, 10) := ⟨⟨by decide +kernel, by decide +kernel⟩, List.mem_of_getElem? (i := 836) (by decide +kernel), List.mem_of_getElem? (i := 878) (by decide +kernel), List.mem_of_getElem? (i := 879) (by decide +kernel)⟩
theorem lw_p53 : lw_okq (⟨"ReadAloud$Levels", "isWanted", "(II)Z"⟩, 10) := ⟨⟨by decide +kernel, by decide +kernel⟩, List.mem_of_getElem? (i := 836) (by decide +kernel), List.mem_of_getElem? (i := 882) (by decide +kernel), List.mem_of_getElem? (i := 883) (by decide +kernel)⟩
theorem lw_p54 : lw_okq (⟨"ReadAloud$Levels", "fillBehind", "(I)I"⟩, 10) := ⟨⟨by decide +kernel, by decide +kernel⟩, List.mem_of_getElem? (i := 836) (by decide +kernel), List.mem_of_getElem? (i := 886) (by decide +kernel), List.mem_of_getElem? (i := 887) (by decide +kernel)⟩
theorem lw_p55 : lw_okq (⟨"ReadAloud$Levels", "onesAt", "(I)I"⟩, 10) := ⟨⟨by decide +kernel, by decide +kernel⟩, List.mem_of_getElem? (i := 836) (by decide +kernel), List.mem_of_getElem? (i := 890) (by decide +kernel), List.mem_of_getElem? (i := 891) (by decide +kernel)⟩
theorem lw_p56 : lw_okq (⟨"ReadAloud$Levels", "forget", "(I)V"⟩, 10) := ⟨⟨by decide +kernel, by decide +kernel⟩, List.mem_of_getElem? (i := 836) (by decide +kernel), List.mem_of_getElem? (i := 896) (by decide +kernel), List.mem_of_getElem? (i := 897) (by decide +kernel)⟩
theorem lw_p57 : lw_okq (⟨"ReadAloud$Levels", "endByDrift", "()V"⟩, 10) := ⟨⟨by decide +kernel, by decide +kernel⟩, List.mem_of_getElem? (i := 836) (by decide +kernel), List.mem_of_getElem? (i := 900) (by decide +kernel), List.mem_of_getElem? (i := 901) (by decide +kernel)⟩
theorem lw_p58 : lw_okq (⟨"ReadAloud$Levels", "bestEnd", "(Z)I"⟩, 10) := ⟨⟨by decide +kernel, by decide +kernel⟩, List.mem_of_getElem? (i := 836) (by decide +kernel), List.mem_of_getElem? (i := 905) (by decide +kernel), List.mem_of_getElem? (i := 906) (by decide +kernel)⟩
theorem lw_p59 : lw_okq (⟨"ReadAloud$Levels", "foldBack", "(II)V"⟩, 10) := ⟨⟨by decide +kernel, by decide +kernel⟩, List.mem_of_getElem? (i := 836) (by decide +kernel), List.mem_of_getElem? (i := 911) (by decide +kernel), List.mem_of_getElem? (i := 912) (by decide +kernel)⟩
theorem lw_p60 : lw_okq (⟨"ReadAloud$Levels", "recall", "(I)V"⟩, 10) := ⟨⟨by decide +kernel, by decide +kernel⟩, List.mem_of_getElem? (i := 836) (by decide +kernel), List.mem_of_getElem? (i := 915) (by decide +kernel), List.mem_of_getElem? (i := 916) (by decide +kernel)⟩
theorem lw_p61 : lw_okq (⟨"ReadAloud$Levels", "folded", "(III)I"⟩, 10) := ⟨⟨by decide +kernel, by decide +kernel⟩, List.mem_of_getElem? (i := 836) (by decide +kernel), List.mem_of_getElem? (i := 919) (by decide +kernel), List.mem_of_getElem? (i := 920) (by decide +kernel)⟩
theorem lw_p62 : lw_okq (⟨"ReadAloud$Levels", "chosenAt", "(I)I"⟩, 10) := ⟨⟨by decide +kernel, by decide +kernel⟩, List.mem_of_getElem? (i := 836) (by decide +kernel), List.mem_of_getElem? (i := 923) (by decide +kernel), List.mem_of_getElem? (i := 924) (by decide +kernel)⟩
theorem lw_p63 : lw_okq (⟨"ReadAloud$Levels", "firstAsGood", "(II)I"⟩, 10) := ⟨⟨by decide +kernel, by decide +kernel⟩, List.mem_of_getElem? (i := 836) (by decide +kernel), List.mem_of_getElem? (i := 927) (by decide +kernel), List.mem_of_getElem? (i := 928) (by decide +kernel)⟩
def lw_privs_4 : List (MethodName × Nat) := [(⟨"ReadAloud$Rings", "takeOutside", "(LReadAloud$Readings;II)I"⟩, 15), (⟨"ReadAloud$Rings", "goRound", "(LReadAloud$Readings;II)I"⟩, 15), (⟨"ReadAloud", "levelsThere", "()LReadAloud$Levels;"⟩, 8), (⟨"ReadAloud$Levels", "wantNothing", "()V"⟩, 10), (⟨"ReadAloud$Levels", "spread", "(LReadAloud$Readings;III)V"⟩, 10), (⟨"ReadAloud$Levels", "isWanted", "(II)Z"⟩, 10), (⟨"ReadAloud$Levels", "fillBehind", "(I)I"⟩, 10), (⟨"ReadAloud$Levels", "onesAt", "(I)I"⟩, 10), (⟨"ReadAloud$Levels", "forget", "(I)V"⟩, 10), (⟨"ReadAloud$Levels", "endByDrift", "()V"⟩, 10), (⟨"ReadAloud$Levels", "bestEnd", "(Z)I"⟩, 10), (⟨"ReadAloud$Levels", "foldBack", "(II)V"⟩, 10), (⟨"ReadAloud$Levels", "recall", "(I)V"⟩, 10), (⟨"ReadAloud$Levels", "folded", "(III)I"⟩, 10), (⟨"ReadAloud$Levels", "chosenAt", "(I)I"⟩, 10), (⟨"ReadAloud$Levels", "firstAsGood", "(II)I"⟩, 10)]
theorem lw_r4 : ∀ q ∈ lw_privs_4, lw_okq q := List.forall_mem_cons.mpr ⟨lw_p48, List.forall_mem_cons.mpr ⟨lw_p49, List.forall_mem_cons.mpr ⟨lw_p50, List.forall_mem_cons.mpr ⟨lw_p51, List.forall_mem_cons.mpr ⟨lw_p52, List.forall_mem_cons.mpr ⟨lw_p53, List.forall_mem_cons.mpr ⟨lw_p54, List.forall_mem_cons.mpr ⟨lw_p55, List.forall_mem_cons.mpr ⟨lw_p56, List.forall_mem_cons.mpr ⟨lw_p57, List.forall_mem_cons.mpr ⟨lw_p58, List.forall_mem_cons.mpr ⟨lw_p59, List.forall_mem_cons.mpr ⟨lw_p60, List.forall_mem_cons.mpr ⟨lw_p61, List.forall_mem_cons.mpr ⟨lw_p62, List.forall_mem_cons.mpr ⟨lw_p63, fun _ h => absurd h List.not_mem_nil⟩⟩⟩⟩⟩⟩⟩⟩⟩⟩⟩⟩⟩⟩⟩⟩
theorem lw_p64 : lw_okq (⟨"ReadAloud$Levels", "sumOfEnds", "()J"⟩, 10) := ⟨⟨by decide +kernel, by decide +kernel⟩, List.mem_of_getElem? (i := 836) (by decide +kernel), List.mem_of_getElem? (i := 936) (by decide +kernel), List.mem_of_getElem? (i := 937) (by decide +kernel)⟩
theorem lw_p65 : lw_okq (⟨"ReadAloud$Levels", "rows", "()I"⟩, 10) := ⟨⟨by decide +kernel, by decide +kernel⟩, List.mem_of_getElem? (i := 836) (by decide +kernel), List.mem_of_getElem? (i := 940) (by decide +kernel), List.mem_of_getElem? (i := 941) (by decide +kernel)⟩
theorem lw_p66 : lw_okq (⟨"ReadAloud$Readings", "goBack", "(II)V"⟩, 4) := ⟨⟨by decide +kernel, by decide +kernel⟩, List.mem_of_getElem? (i := 622) (by decide +kernel), List.mem_of_getElem? (i := 951) (by decide +kernel), List.mem_of_getElem? (i := 952) (by decide +kernel)⟩
theorem lw_p67 : lw_okq (⟨"ReadAloud$Readings", "comesToMarked", "(I)Z"⟩, 4) := ⟨⟨by decide +kernel, by decide +kernel⟩, List.mem_of_getElem? (i := 622) (by decide +kernel), List.mem_of_getElem? (i := 958) (by decide +kernel), List.mem_of_getElem? (i := 959) (by decide +kernel)⟩
theorem lw_p68 : lw_okq (⟨"ReadAloud$Readings", "leastMarked", "()I"⟩, 4) := ⟨⟨by decide +kernel, by decide +kernel⟩, List.mem_of_getElem? (i := 622) (by decide +kernel), List.mem_of_getElem? (i := 962) (by decide +kernel), List.mem_of_getElem? (i := 963) (by decide +kernel)⟩
theorem lw_p69 : lw_okq (⟨"ReadAloud$Readings", "marked", "()I"⟩, 4) := ⟨⟨by decide +kernel, by decide +kernel⟩, List.mem_of_getElem? (i := 622) (by decide +kernel), List.mem_of_getElem? (i := 966) (by decide +kernel), List.mem_of_getElem? (i := 967) (by decide +kernel)⟩
theorem lw_p70 : lw_okq (⟨"ReadAloud$Levels", "endByWord", "(I)V"⟩, 10) := ⟨⟨by decide +kernel, by decide +kernel⟩, List.mem_of_getElem? (i := 836) (by decide +kernel), List.mem_of_getElem? (i := 975) (by decide +kernel), List.mem_of_getElem? (i := 976) (by decide +kernel)⟩
theorem lw_p71 : lw_okq (⟨"ReadAloud$Levels", "bestStart", "()I"⟩, 10) := ⟨⟨by decide +kernel, by decide +kernel⟩, List.mem_of_getElem? (i := 836) (by decide +kernel), List.mem_of_getElem? (i := 982) (by decide +kernel), List.mem_of_getElem? (i := 983) (by decide +kernel)⟩
theorem lw_p72 : lw_okq (⟨"ReadAloud", "sightAt", "(I)LReadAloud$Sight;"⟩, 8) := ⟨⟨by decide +kernel, by decide +kernel⟩, List.mem_of_getElem? (i := 23) (by decide +kernel), List.mem_of_getElem? (i := 990) (by decide +kernel), List.mem_of_getElem? (i := 991) (by decide +kernel)⟩
theorem lw_p73 : lw_okq (⟨"ReadAloud$Sight", "tells", "(II)I"⟩, 3) := ⟨⟨by decide +kernel, by decide +kernel⟩, List.mem_of_getElem? (i := 438) (by decide +kernel), List.mem_of_getElem? (i := 994) (by decide +kernel), List.mem_of_getElem? (i := 995) (by decide +kernel)⟩
theorem lw_p74 : lw_okq (⟨"ReadAloud$Levels", "want", "(LReadAloud$Sight;)V"⟩, 10) := ⟨⟨by decide +kernel, by decide +kernel⟩, List.mem_of_getElem? (i := 836) (by decide +kernel), List.mem_of_getElem? (i := 1002) (by decide +kernel), List.mem_of_getElem? (i := 1003) (by decide +kernel)⟩
theorem lw_p75 : lw_okq (⟨"ReadAloud$Levels", "rowsTo", "(I)I"⟩, 10) := ⟨⟨by decide +kernel, by decide +kernel⟩, List.mem_of_getElem? (i := 836) (by decide +kernel), List.mem_of_getElem? (i := 1007) (by decide +kernel), List.mem_of_getElem? (i := 1008) (by decide +kernel)⟩
theorem lw_p76 : lw_okq (⟨"ReadAloud$Levels", "endByOne", "()V"⟩, 10) := ⟨⟨by decide +kernel, by decide +kernel⟩, List.mem_of_getElem? (i := 836) (by decide +kernel), List.mem_of_getElem? (i := 1015) (by decide +kernel), List.mem_of_getElem? (i := 1016) (by decide +kernel)⟩
theorem lw_p77 : lw_okq (⟨"ReadAloud$Levels", "look", "()I"⟩, 10) := ⟨⟨by decide +kernel, by decide +kernel⟩, List.mem_of_getElem? (i := 836) (by decide +kernel), List.mem_of_getElem? (i := 1019) (by decide +kernel), List.mem_of_getElem? (i := 1020) (by decide +kernel)⟩
theorem lw_p78 : lw_okq (⟨"ReadAloud$Levels", "onlyReaderAt", "(I)I"⟩, 10) := ⟨⟨by decide +kernel, by decide +kernel⟩, List.mem_of_getElem? (i := 836) (by decide +kernel), List.mem_of_getElem? (i := 1023) (by decide +kernel), List.mem_of_getElem? (i := 1024) (by decide +kernel)⟩
theorem lw_p79 : lw_okq (⟨"ReadAloud$Levels", "isReaderAt", "(II)Z"⟩, 10) := ⟨⟨by decide +kernel, by decide +kernel⟩, List.mem_of_getElem? (i := 836) (by decide +kernel), List.mem_of_getElem? (i := 1027) (by decide +kernel), List.mem_of_getElem? (i := 1028) (by decide +kernel)⟩
def lw_privs_5 : List (MethodName × Nat) := [(⟨"ReadAloud$Levels", "sumOfEnds", "()J"⟩, 10), (⟨"ReadAloud$Levels", "rows", "()I"⟩, 10), (⟨"ReadAloud$Readings", "goBack", "(II)V"⟩, 4), (⟨"ReadAloud$Readings", "comesToMarked", "(I)Z"⟩, 4), (⟨"ReadAloud$Readings", "leastMarked", "()I"⟩, 4), (⟨"ReadAloud$Readings", "marked", "()I"⟩, 4), (⟨"ReadAloud$Levels", "endByWord", "(I)V"⟩, 10), (⟨"ReadAloud$Levels", "bestStart", "()I"⟩, 10), (⟨"ReadAloud", "sightAt", "(I)LReadAloud$Sight;"⟩, 8), (⟨"ReadAloud$Sight", "tells", "(II)I"⟩, 3), (⟨"ReadAloud$Levels", "want", "(LReadAloud$Sight;)V"⟩, 10), (⟨"ReadAloud$Levels", "rowsTo", "(I)I"⟩, 10), (⟨"ReadAloud$Levels", "endByOne", "()V"⟩, 10), (⟨"ReadAloud$Levels", "look", "()I"⟩, 10), (⟨"ReadAloud$Levels", "onlyReaderAt", "(I)I"⟩, 10), (⟨"ReadAloud$Levels", "isReaderAt", "(II)Z"⟩, 10)]
theorem lw_r5 : ∀ q ∈ lw_privs_5, lw_okq q := List.forall_mem_cons.mpr ⟨lw_p64, List.forall_mem_cons.mpr ⟨lw_p65, List.forall_mem_cons.mpr ⟨lw_p66, List.forall_mem_cons.mpr ⟨lw_p67, List.forall_mem_cons.mpr ⟨lw_p68, List.forall_mem_cons.mpr ⟨lw_p69, List.forall_mem_cons.mpr ⟨lw_p70, List.forall_mem_cons.mpr ⟨lw_p71, List.forall_mem_cons.mpr ⟨lw_p72, List.forall_mem_cons.mpr ⟨lw_p73, List.forall_mem_cons.mpr ⟨lw_p74, List.forall_mem_cons.mpr ⟨lw_p75, List.forall_mem_cons.mpr ⟨lw_p76, List.forall_mem_cons.mpr ⟨lw_p77, List.forall_mem_cons.mpr ⟨lw_p78, List.forall_mem_cons.mpr ⟨lw_p79, fun _ h => absurd h List.not_mem_nil⟩⟩⟩⟩⟩⟩⟩⟩⟩⟩⟩⟩⟩⟩⟩⟩
theorem lw_p80 : lw_okq (⟨"ReadAloud$Course", "draw", "(II)V"⟩, 7) := ⟨⟨by decide +kernel, by decide +kernel⟩, List.mem_of_getElem? (i := 115) (by decide +kernel), List.mem_of_getElem? (i := 1035) (by decide +kernel), List.mem_of_getElem? (i := 1036) (by decide +kernel)⟩
theorem lw_p81 : lw_okq (⟨"ReadAloud$Course", "drawBelow", "(I)I"⟩, 7) := ⟨⟨by decide +kernel, by decide +kernel⟩, List.mem_of_getElem? (i := 115) (by decide +kernel), List.mem_of_getElem? (i := 1039) (by decide +kernel), List.mem_of_getElem? (i := 1040) (by decide +kernel)⟩
theorem lw_p82 : lw_okq (⟨"ReadAloud$Book", "kinRing", "(I)I"⟩, 7) := ⟨⟨by decide +kernel, by decide +kernel⟩, List.mem_of_getElem? (i := 192) (by decide +kernel), List.mem_of_getElem? (i := 1048) (by decide +kernel), List.mem_of_getElem? (i := 1049) (by decide +kernel)⟩
theorem lw_p83 : lw_okq (⟨"ReadAloud$Book", "kinUntilRing", "(I)I"⟩, 7) := ⟨⟨by decide +kernel, by decide +kernel⟩, List.mem_of_getElem? (i := 192) (by decide +kernel), List.mem_of_getElem? (i := 1052) (by decide +kernel), List.mem_of_getElem? (i := 1053) (by decide +kernel)⟩
theorem lw_p84 : lw_okq (⟨"ReadAloud$Book", "isInKinRing", "(I)Z"⟩, 7) := ⟨⟨by decide +kernel, by decide +kernel⟩, List.mem_of_getElem? (i := 192) (by decide +kernel), List.mem_of_getElem? (i := 1056) (by decide +kernel), List.mem_of_getElem? (i := 1057) (by decide +kernel)⟩
theorem lw_p85 : lw_okq (⟨"ReadAloud$Walk", "meeting", "(LReadAloud$Walk;)I"⟩, 5) := ⟨⟨by decide +kernel, by decide +kernel⟩, List.mem_of_getElem? (i := 653) (by decide +kernel), List.mem_of_getElem? (i := 1076) (by decide +kernel), List.mem_of_getElem? (i := 1077) (by decide +kernel)⟩
theorem lw_p86 : lw_okq (⟨"ReadAloud$Walk", "nearestTo", "(I)I"⟩, 5) := ⟨⟨by decide +kernel, by decide +kernel⟩, List.mem_of_getElem? (i := 653) (by decide +kernel), List.mem_of_getElem? (i := 1084) (by decide +kernel), List.mem_of_getElem? (i := 1085) (by decide +kernel)⟩
theorem lw_p87 : lw_okq (⟨"ReadAloud$Walk", "firstSettled", "(LReadAloud$Readings;)I"⟩, 5) := ⟨⟨by decide +kernel, by decide +kernel⟩, List.mem_of_getElem? (i := 653) (by decide +kernel), List.mem_of_getElem? (i := 1093) (by decide +kernel), List.mem_of_getElem? (i := 1094) (by decide +kernel)⟩
theorem lw_p88 : lw_okq (⟨"ReadAloud$Readings", "markUnmade", "()V"⟩, 4) := ⟨⟨by decide +kernel, by decide +kernel⟩, List.mem_of_getElem? (i := 622) (by decide +kernel), List.mem_of_getElem? (i := 1103) (by decide +kernel), List.mem_of_getElem? (i := 1104) (by decide +kernel)⟩
theorem lw_p89 : lw_okq (⟨"ReadAloud$Rings", "findCircles", "(LReadAloud$Readings;)V"⟩, 15) := ⟨⟨by decide +kernel, by decide +kernel⟩, List.mem_of_getElem? (i := 750) (by decide +kernel), List.mem_of_getElem? (i := 1121) (by decide +kernel), List.mem_of_getElem? (i := 1122) (by decide +kernel)⟩
theorem lw_p90 : lw_okq (⟨"ReadAloud$Rings", "findFrom", "(LReadAloud$Readings;I)V"⟩, 15) := ⟨⟨by decide +kernel, by decide +kernel⟩, List.mem_of_getElem? (i := 750) (by decide +kernel), List.mem_of_getElem? (i := 1125) (by decide +kernel), List.mem_of_getElem? (i := 1126) (by decide +kernel)⟩
theorem lw_p91 : lw_okq (⟨"ReadAloud$Rings", "enter", "(I)V"⟩, 15) := ⟨⟨by decide +kernel, by decide +kernel⟩, List.mem_of_getElem? (i := 750) (by decide +kernel), List.mem_of_getElem? (i := 1129) (by decide +kernel), List.mem_of_getElem? (i := 1130) (by decide +kernel)⟩
theorem lw_p92 : lw_okq (⟨"ReadAloud$Rings", "tryNext", "(LReadAloud$Readings;I)V"⟩, 15) := ⟨⟨by decide +kernel, by decide +kernel⟩, List.mem_of_getElem? (i := 750) (by decide +kernel), List.mem_of_getElem? (i := 1134) (by decide +kernel), List.mem_of_getElem? (i := 1135) (by decide +kernel)⟩
theorem lw_p93 : lw_okq (⟨"ReadAloud$Rings", "leave", "(I)V"⟩, 15) := ⟨⟨by decide +kernel, by decide +kernel⟩, List.mem_of_getElem? (i := 750) (by decide +kernel), List.mem_of_getElem? (i := 1139) (by decide +kernel), List.mem_of_getElem? (i := 1140) (by decide +kernel)⟩
theorem lw_p94 : lw_okq (⟨"ReadAloud$Rings", "closeCircle", "(I)V"⟩, 15) := ⟨⟨by decide +kernel, by decide +kernel⟩, List.mem_of_getElem? (i := 750) (by decide +kernel), List.mem_of_getElem? (i := 1143) (by decide +kernel), List.mem_of_getElem? (i := 1144) (by decide +kernel)⟩
theorem lw_p95 : lw_okq (⟨"ReadAloud$Told", "becomes", "(LReadAloud$Told;)V"⟩, 8) := ⟨⟨by decide +kernel, by decide +kernel⟩, List.mem_of_getElem? (i := 31) (by decide +kernel), List.mem_of_getElem? (i := 1155) (by decide +kernel), List.mem_of_getElem? (i := 1156) (by decide +kernel)⟩
def lw_privs_6 : List (MethodName × Nat) := [(⟨"ReadAloud$Course", "draw", "(II)V"⟩, 7), (⟨"ReadAloud$Course", "drawBelow", "(I)I"⟩, 7), (⟨"ReadAloud$Book", "kinRing", "(I)I"⟩, 7), (⟨"ReadAloud$Book", "kinUntilRing", "(I)I"⟩, 7), (⟨"ReadAloud$Book", "isInKinRing", "(I)Z"⟩, 7), (⟨"ReadAloud$Walk", "meeting", "(LReadAloud$Walk;)I"⟩, 5), (⟨"ReadAloud$Walk", "nearestTo", "(I)I"⟩, 5), (⟨"ReadAloud$Walk", "firstSettled", "(LReadAloud$Readings;)I"⟩, 5), (⟨"ReadAloud$Readings", "markUnmade", "()V"⟩, 4), (⟨"ReadAloud$Rings", "findCircles", "(LReadAloud$Readings;)V"⟩, 15), (⟨"ReadAloud$Rings", "findFrom", "(LReadAloud$Readings;I)V"⟩, 15), (⟨"ReadAloud$Rings", "enter", "(I)V"⟩, 15), (⟨"ReadAloud$Rings", "tryNext", "(LReadAloud$Readings;I)V"⟩, 15), (⟨"ReadAloud$Rings", "leave", "(I)V"⟩, 15), (⟨"ReadAloud$Rings", "closeCircle", "(I)V"⟩, 15), (⟨"ReadAloud$Told", "becomes", "(LReadAloud$Told;)V"⟩, 8)]
theorem lw_r6 : ∀ q ∈ lw_privs_6, lw_okq q := List.forall_mem_cons.mpr ⟨lw_p80, List.forall_mem_cons.mpr ⟨lw_p81, List.forall_mem_cons.mpr ⟨lw_p82, List.forall_mem_cons.mpr ⟨lw_p83, List.forall_mem_cons.mpr ⟨lw_p84, List.forall_mem_cons.mpr ⟨lw_p85, List.forall_mem_cons.mpr ⟨lw_p86, List.forall_mem_cons.mpr ⟨lw_p87, List.forall_mem_cons.mpr ⟨lw_p88, List.forall_mem_cons.mpr ⟨lw_p89, List.forall_mem_cons.mpr ⟨lw_p90, List.forall_mem_cons.mpr ⟨lw_p91, List.forall_mem_cons.mpr ⟨lw_p92, List.forall_mem_cons.mpr ⟨lw_p93, List.forall_mem_cons.mpr ⟨lw_p94, List.forall_mem_cons.mpr ⟨lw_p95, fun _ h => absurd h List.not_mem_nil⟩⟩⟩⟩⟩⟩⟩⟩⟩⟩⟩⟩⟩⟩⟩⟩
theorem lw_p96 : lw_okq (⟨"ReadAloudModel", "four", "(I)V"⟩, 52) := ⟨⟨by decide +kernel, by decide +kernel⟩, List.mem_of_getElem? (i := 1166) (by decide +kernel), List.mem_of_getElem? (i := 1335) (by decide +kernel), List.mem_of_getElem? (i := 1336) (by decide +kernel)⟩
theorem lw_p97 : lw_okq (⟨"ReadAloudModel", "is", "(II)Z"⟩, 52) := ⟨⟨by decide +kernel, by decide +kernel⟩, List.mem_of_getElem? (i := 1166) (by decide +kernel), List.mem_of_getElem? (i := 1350) (by decide +kernel), List.mem_of_getElem? (i := 1351) (by decide +kernel)⟩
theorem lw_p98 : lw_okq (⟨"ReadAloudModel", "readText", "(I)Z"⟩, 52) := ⟨⟨by decide +kernel, by decide +kernel⟩, List.mem_of_getElem? (i := 1166) (by decide +kernel), List.mem_of_getElem? (i := 1354) (by decide +kernel), List.mem_of_getElem? (i := 1355) (by decide +kernel)⟩
theorem lw_p99 : lw_okq (⟨"ReadAloudModel", "token", "()V"⟩, 52) := ⟨⟨by decide +kernel, by decide +kernel⟩, List.mem_of_getElem? (i := 1166) (by decide +kernel), List.mem_of_getElem? (i := 1358) (by decide +kernel), List.mem_of_getElem? (i := 1359) (by decide +kernel)⟩
theorem lw_p100 : lw_okq (⟨"ReadAloudModel", "see", "()I"⟩, 52) := ⟨⟨by decide +kernel, by decide +kernel⟩, List.mem_of_getElem? (i := 1166) (by decide +kernel), List.mem_of_getElem? (i := 1362) (by decide +kernel), List.mem_of_getElem? (i := 1363) (by decide +kernel)⟩
theorem lw_p101 : lw_okq (⟨"ReadAloudModel", "lines", "(I)Z"⟩, 52) := ⟨⟨by decide +kernel, by decide +kernel⟩, List.mem_of_getElem? (i := 1166) (by decide +kernel), List.mem_of_getElem? (i := 1366) (by decide +kernel), List.mem_of_getElem? (i := 1367) (by decide +kernel)⟩
theorem lw_p102 : lw_okq (⟨"ReadAloudModel", "lineOf", "(IJI)Z"⟩, 52) := ⟨⟨by decide +kernel, by decide +kernel⟩, List.mem_of_getElem? (i := 1166) (by decide +kernel), List.mem_of_getElem? (i := 1370) (by decide +kernel), List.mem_of_getElem? (i := 1371) (by decide +kernel)⟩
theorem lw_p103 : lw_okq (⟨"ReadAloudModel", "bookLine", "(JI)Z"⟩, 52) := ⟨⟨by decide +kernel, by decide +kernel⟩, List.mem_of_getElem? (i := 1166) (by decide +kernel), List.mem_of_getElem? (i := 1374) (by decide +kernel), List.mem_of_getElem? (i := 1375) (by decide +kernel)⟩
theorem lw_p104 : lw_okq (⟨"ReadAloudModel", "stepLine", "(II)Z"⟩, 52) := ⟨⟨by decide +kernel, by decide +kernel⟩, List.mem_of_getElem? (i := 1166) (by decide +kernel), List.mem_of_getElem? (i := 1386) (by decide +kernel), List.mem_of_getElem? (i := 1387) (by decide +kernel)⟩
theorem lw_p105 : lw_okq (⟨"ReadAloudModel", "later", "(II)V"⟩, 52) := ⟨⟨by decide +kernel, by decide +kernel⟩, List.mem_of_getElem? (i := 1166) (by decide +kernel), List.mem_of_getElem? (i := 1390) (by decide +kernel), List.mem_of_getElem? (i := 1391) (by decide +kernel)⟩
theorem lw_p106 : lw_okq (⟨"ReadAloudModel", "take", "(III)Z"⟩, 52) := ⟨⟨by decide +kernel, by decide +kernel⟩, List.mem_of_getElem? (i := 1166) (by decide +kernel), List.mem_of_getElem? (i := 1394) (by decide +kernel), List.mem_of_getElem? (i := 1395) (by decide +kernel)⟩
theorem lw_p107 : lw_okq (⟨"ReadAloudModel", "takeBut", "(IIII)Z"⟩, 52) := ⟨⟨by decide +kernel, by decide +kernel⟩, List.mem_of_getElem? (i := 1166) (by decide +kernel), List.mem_of_getElem? (i := 1398) (by decide +kernel), List.mem_of_getElem? (i := 1399) (by decide +kernel)⟩
theorem lw_p108 : lw_okq (⟨"ReadAloudModel", "fails", "()Z"⟩, 52) := ⟨⟨by decide +kernel, by decide +kernel⟩, List.mem_of_getElem? (i := 1166) (by decide +kernel), List.mem_of_getElem? (i := 1402) (by decide +kernel), List.mem_of_getElem? (i := 1403) (by decide +kernel)⟩
theorem lw_p109 : lw_okq (⟨"ReadAloudModel", "full", "(III)V"⟩, 52) := ⟨⟨by decide +kernel, by decide +kernel⟩, List.mem_of_getElem? (i := 1166) (by decide +kernel), List.mem_of_getElem? (i := 1409) (by decide +kernel), List.mem_of_getElem? (i := 1410) (by decide +kernel)⟩
theorem lw_p110 : lw_okq (⟨"ReadAloudModel", "takeText", "(I)V"⟩, 52) := ⟨⟨by decide +kernel, by decide +kernel⟩, List.mem_of_getElem? (i := 1166) (by decide +kernel), List.mem_of_getElem? (i := 1416) (by decide +kernel), List.mem_of_getElem? (i := 1417) (by decide +kernel)⟩
theorem lw_p111 : lw_okq (⟨"ReadAloudModel", "yearLine", "(JI)Z"⟩, 52) := ⟨⟨by decide +kernel, by decide +kernel⟩, List.mem_of_getElem? (i := 1166) (by decide +kernel), List.mem_of_getElem? (i := 1423) (by decide +kernel), List.mem_of_getElem? (i := 1424) (by decide +kernel)⟩
def lw_privs_7 : List (MethodName × Nat) := [(⟨"ReadAloudModel", "four", "(I)V"⟩, 52), (⟨"ReadAloudModel", "is", "(II)Z"⟩, 52), (⟨"ReadAloudModel", "readText", "(I)Z"⟩, 52), (⟨"ReadAloudModel", "token", "()V"⟩, 52), (⟨"ReadAloudModel", "see", "()I"⟩, 52), (⟨"ReadAloudModel", "lines", "(I)Z"⟩, 52), (⟨"ReadAloudModel", "lineOf", "(IJI)Z"⟩, 52), (⟨"ReadAloudModel", "bookLine", "(JI)Z"⟩, 52), (⟨"ReadAloudModel", "stepLine", "(II)Z"⟩, 52), (⟨"ReadAloudModel", "later", "(II)V"⟩, 52), (⟨"ReadAloudModel", "take", "(III)Z"⟩, 52), (⟨"ReadAloudModel", "takeBut", "(IIII)Z"⟩, 52), (⟨"ReadAloudModel", "fails", "()Z"⟩, 52), (⟨"ReadAloudModel", "full", "(III)V"⟩, 52), (⟨"ReadAloudModel", "takeText", "(I)V"⟩, 52), (⟨"ReadAloudModel", "yearLine", "(JI)Z"⟩, 52)]
theorem lw_r7 : ∀ q ∈ lw_privs_7, lw_okq q := List.forall_mem_cons.mpr ⟨lw_p96, List.forall_mem_cons.mpr ⟨lw_p97, List.forall_mem_cons.mpr ⟨lw_p98, List.forall_mem_cons.mpr ⟨lw_p99, List.forall_mem_cons.mpr ⟨lw_p100, List.forall_mem_cons.mpr ⟨lw_p101, List.forall_mem_cons.mpr ⟨lw_p102, List.forall_mem_cons.mpr ⟨lw_p103, List.forall_mem_cons.mpr ⟨lw_p104, List.forall_mem_cons.mpr ⟨lw_p105, List.forall_mem_cons.mpr ⟨lw_p106, List.forall_mem_cons.mpr ⟨lw_p107, List.forall_mem_cons.mpr ⟨lw_p108, List.forall_mem_cons.mpr ⟨lw_p109, List.forall_mem_cons.mpr ⟨lw_p110, List.forall_mem_cons.mpr ⟨lw_p111, fun _ h => absurd h List.not_mem_nil⟩⟩⟩⟩⟩⟩⟩⟩⟩⟩⟩⟩⟩⟩⟩⟩
theorem lw_p112 : lw_okq (⟨"ReadAloudModel", "keep", "(II)V"⟩, 52) := ⟨⟨by decide +kernel, by decide +kernel⟩, List.mem_of_getElem? (i := 1166) (by decide +kernel), List.mem_of_getElem? (i := 1436) (by decide +kernel), List.mem_of_getElem? (i := 1437) (by decide +kernel)⟩
theorem lw_p113 : lw_okq (⟨"ReadAloudModel", "sightLine", "(JI)Z"⟩, 52) := ⟨⟨by decide +kernel, by decide +kernel⟩, List.mem_of_getElem? (i := 1166) (by decide +kernel), List.mem_of_getElem? (i := 1440) (by decide +kernel), List.mem_of_getElem? (i := 1441) (by decide +kernel)⟩
theorem lw_p114 : lw_okq (⟨"ReadAloudModel", "store", "([III)V"⟩, 52) := ⟨⟨by decide +kernel, by decide +kernel⟩, List.mem_of_getElem? (i := 1166) (by decide +kernel), List.mem_of_getElem? (i := 1445) (by decide +kernel), List.mem_of_getElem? (i := 1446) (by decide +kernel)⟩
theorem lw_p115 : lw_okq (⟨"ReadAloudModel", "hand", "(I)Z"⟩, 52) := ⟨⟨by decide +kernel, by decide +kernel⟩, List.mem_of_getElem? (i := 1166) (by decide +kernel), List.mem_of_getElem? (i := 1457) (by decide +kernel), List.mem_of_getElem? (i := 1458) (by decide +kernel)⟩
theorem lw_p116 : lw_okq (⟨"ReadAloudModel", "of", "(I)I"⟩, 52) := ⟨⟨by decide +kernel, by decide +kernel⟩, List.mem_of_getElem? (i := 1166) (by decide +kernel), List.mem_of_getElem? (i := 1461) (by decide +kernel), List.mem_of_getElem? (i := 1462) (by decide +kernel)⟩
theorem lw_p117 : lw_okq (⟨"ReadAloudModel", "apart", "(II)I"⟩, 52) := ⟨⟨by decide +kernel, by decide +kernel⟩, List.mem_of_getElem? (i := 1166) (by decide +kernel), List.mem_of_getElem? (i := 1482) (by decide +kernel), List.mem_of_getElem? (i := 1483) (by decide +kernel)⟩
theorem lw_p118 : lw_okq (⟨"ReadAloudModel", "isReader", "(I)Z"⟩, 52) := ⟨⟨by decide +kernel, by decide +kernel⟩, List.mem_of_getElem? (i := 1166) (by decide +kernel), List.mem_of_getElem? (i := 1490) (by decide +kernel), List.mem_of_getElem? (i := 1491) (by decide +kernel)⟩
theorem lw_p119 : lw_okq (⟨"ReadAloudModel", "readBy", "(II)I"⟩, 52) := ⟨⟨by decide +kernel, by decide +kernel⟩, List.mem_of_getElem? (i := 1166) (by decide +kernel), List.mem_of_getElem? (i := 1494) (by decide +kernel), List.mem_of_getElem? (i := 1495) (by decide +kernel)⟩
theorem lw_p120 : lw_okq (⟨"ReadAloudModel", "step", "(II)V"⟩, 52) := ⟨⟨by decide +kernel, by decide +kernel⟩, List.mem_of_getElem? (i := 1166) (by decide +kernel), List.mem_of_getElem? (i := 1498) (by decide +kernel), List.mem_of_getElem? (i := 1499) (by decide +kernel)⟩
theorem lw_p121 : lw_okq (⟨"ReadAloudModel", "shift", "(I)V"⟩, 52) := ⟨⟨by decide +kernel, by decide +kernel⟩, List.mem_of_getElem? (i := 1166) (by decide +kernel), List.mem_of_getElem? (i := 1502) (by decide +kernel), List.mem_of_getElem? (i := 1503) (by decide +kernel)⟩
theorem lw_p122 : lw_okq (⟨"ReadAloudModel", "drop", "(I)V"⟩, 52) := ⟨⟨by decide +kernel, by decide +kernel⟩, List.mem_of_getElem? (i := 1166) (by decide +kernel), List.mem_of_getElem? (i := 1506) (by decide +kernel), List.mem_of_getElem? (i := 1507) (by decide +kernel)⟩
theorem lw_p123 : lw_okq (⟨"ReadAloudModel", "twice", "(I)V"⟩, 52) := ⟨⟨by decide +kernel, by decide +kernel⟩, List.mem_of_getElem? (i := 1166) (by decide +kernel), List.mem_of_getElem? (i := 1510) (by decide +kernel), List.mem_of_getElem? (i := 1511) (by decide +kernel)⟩
theorem lw_p124 : lw_okq (⟨"ReadAloudModel", "swap", "(II)V"⟩, 52) := ⟨⟨by decide +kernel, by decide +kernel⟩, List.mem_of_getElem? (i := 1166) (by decide +kernel), List.mem_of_getElem? (i := 1514) (by decide +kernel), List.mem_of_getElem? (i := 1515) (by decide +kernel)⟩
theorem lw_p125 : lw_okq (⟨"ReadAloudModel", "numberOf", "(I)I"⟩, 52) := ⟨⟨by decide +kernel, by decide +kernel⟩, List.mem_of_getElem? (i := 1166) (by decide +kernel), List.mem_of_getElem? (i := 1518) (by decide +kernel), List.mem_of_getElem? (i := 1519) (by decide +kernel)⟩
theorem lw_p126 : lw_okq (⟨"ReadAloudModel", "hasYear", "(I)Z"⟩, 52) := ⟨⟨by decide +kernel, by decide +kernel⟩, List.mem_of_getElem? (i := 1166) (by decide +kernel), List.mem_of_getElem? (i := 1526) (by decide +kernel), List.mem_of_getElem? (i := 1527) (by decide +kernel)⟩
theorem lw_p127 : lw_okq (⟨"ReadAloudModel", "deeds", "()I"⟩, 52) := ⟨⟨by decide +kernel, by decide +kernel⟩, List.mem_of_getElem? (i := 1166) (by decide +kernel), List.mem_of_getElem? (i := 1530) (by decide +kernel), List.mem_of_getElem? (i := 1531) (by decide +kernel)⟩
def lw_privs_8 : List (MethodName × Nat) := [(⟨"ReadAloudModel", "keep", "(II)V"⟩, 52), (⟨"ReadAloudModel", "sightLine", "(JI)Z"⟩, 52), (⟨"ReadAloudModel", "store", "([III)V"⟩, 52), (⟨"ReadAloudModel", "hand", "(I)Z"⟩, 52), (⟨"ReadAloudModel", "of", "(I)I"⟩, 52), (⟨"ReadAloudModel", "apart", "(II)I"⟩, 52), (⟨"ReadAloudModel", "isReader", "(I)Z"⟩, 52), (⟨"ReadAloudModel", "readBy", "(II)I"⟩, 52), (⟨"ReadAloudModel", "step", "(II)V"⟩, 52), (⟨"ReadAloudModel", "shift", "(I)V"⟩, 52), (⟨"ReadAloudModel", "drop", "(I)V"⟩, 52), (⟨"ReadAloudModel", "twice", "(I)V"⟩, 52), (⟨"ReadAloudModel", "swap", "(II)V"⟩, 52), (⟨"ReadAloudModel", "numberOf", "(I)I"⟩, 52), (⟨"ReadAloudModel", "hasYear", "(I)Z"⟩, 52), (⟨"ReadAloudModel", "deeds", "()I"⟩, 52)]
theorem lw_r8 : ∀ q ∈ lw_privs_8, lw_okq q := List.forall_mem_cons.mpr ⟨lw_p112, List.forall_mem_cons.mpr ⟨lw_p113, List.forall_mem_cons.mpr ⟨lw_p114, List.forall_mem_cons.mpr ⟨lw_p115, List.forall_mem_cons.mpr ⟨lw_p116, List.forall_mem_cons.mpr ⟨lw_p117, List.forall_mem_cons.mpr ⟨lw_p118, List.forall_mem_cons.mpr ⟨lw_p119, List.forall_mem_cons.mpr ⟨lw_p120, List.forall_mem_cons.mpr ⟨lw_p121, List.forall_mem_cons.mpr ⟨lw_p122, List.forall_mem_cons.mpr ⟨lw_p123, List.forall_mem_cons.mpr ⟨lw_p124, List.forall_mem_cons.mpr ⟨lw_p125, List.forall_mem_cons.mpr ⟨lw_p126, List.forall_mem_cons.mpr ⟨lw_p127, fun _ h => absurd h List.not_mem_nil⟩⟩⟩⟩⟩⟩⟩⟩⟩⟩⟩⟩⟩⟩⟩⟩
theorem lw_p128 : lw_okq (⟨"ReadAloudModel", "deedOf", "(II)I"⟩, 52) := ⟨⟨by decide +kernel, by decide +kernel⟩, List.mem_of_getElem? (i := 1166) (by decide +kernel), List.mem_of_getElem? (i := 1534) (by decide +kernel), List.mem_of_getElem? (i := 1535) (by decide +kernel)⟩
theorem lw_p129 : lw_okq (⟨"ReadAloudModel", "layAll", "(II)Z"⟩, 52) := ⟨⟨by decide +kernel, by decide +kernel⟩, List.mem_of_getElem? (i := 1166) (by decide +kernel), List.mem_of_getElem? (i := 1542) (by decide +kernel), List.mem_of_getElem? (i := 1543) (by decide +kernel)⟩
theorem lw_p130 : lw_okq (⟨"ReadAloudModel", "play", "(I)I"⟩, 52) := ⟨⟨by decide +kernel, by decide +kernel⟩, List.mem_of_getElem? (i := 1166) (by decide +kernel), List.mem_of_getElem? (i := 1546) (by decide +kernel), List.mem_of_getElem? (i := 1547) (by decide +kernel)⟩
theorem lw_p131 : lw_okq (⟨"ReadAloudModel", "begin", "()V"⟩, 52) := ⟨⟨by decide +kernel, by decide +kernel⟩, List.mem_of_getElem? (i := 1166) (by decide +kernel), List.mem_of_getElem? (i := 1550) (by decide +kernel), List.mem_of_getElem? (i := 1551) (by decide +kernel)⟩
theorem lw_p132 : lw_okq (⟨"ReadAloudModel", "does", "(I)Z"⟩, 52) := ⟨⟨by decide +kernel, by decide +kernel⟩, List.mem_of_getElem? (i := 1166) (by decide +kernel), List.mem_of_getElem? (i := 1554) (by decide +kernel), List.mem_of_getElem? (i := 1555) (by decide +kernel)⟩
theorem lw_p133 : lw_okq (⟨"ReadAloudModel", "reads", "(II)Z"⟩, 52) := ⟨⟨by decide +kernel, by decide +kernel⟩, List.mem_of_getElem? (i := 1166) (by decide +kernel), List.mem_of_getElem? (i := 1558) (by decide +kernel), List.mem_of_getElem? (i := 1559) (by decide +kernel)⟩
theorem lw_p134 : lw_okq (⟨"ReadAloudModel", "hushes", "(I)Z"⟩, 52) := ⟨⟨by decide +kernel, by decide +kernel⟩, List.mem_of_getElem? (i := 1166) (by decide +kernel), List.mem_of_getElem? (i := 1565) (by decide +kernel), List.mem_of_getElem? (i := 1566) (by decide +kernel)⟩
theorem lw_p135 : lw_okq (⟨"ReadAloudModel", "goesOn", "()Z"⟩, 52) := ⟨⟨by decide +kernel, by decide +kernel⟩, List.mem_of_getElem? (i := 1166) (by decide +kernel), List.mem_of_getElem? (i := 1569) (by decide +kernel), List.mem_of_getElem? (i := 1570) (by decide +kernel)⟩
theorem lw_p136 : lw_okq (⟨"ReadAloudModel", "ofState", "(I)I"⟩, 52) := ⟨⟨by decide +kernel, by decide +kernel⟩, List.mem_of_getElem? (i := 1166) (by decide +kernel), List.mem_of_getElem? (i := 1577) (by decide +kernel), List.mem_of_getElem? (i := 1578) (by decide +kernel)⟩
theorem lw_p137 : lw_okq (⟨"ReadAloudModel", "handAll", "(I)Z"⟩, 52) := ⟨⟨by decide +kernel, by decide +kernel⟩, List.mem_of_getElem? (i := 1166) (by decide +kernel), List.mem_of_getElem? (i := 1585) (by decide +kernel), List.mem_of_getElem? (i := 1586) (by decide +kernel)⟩
theorem lw_p138 : lw_okq (⟨"ReadAloudModel", "layMade", "()V"⟩, 52) := ⟨⟨by decide +kernel, by decide +kernel⟩, List.mem_of_getElem? (i := 1166) (by decide +kernel), List.mem_of_getElem? (i := 1589) (by decide +kernel), List.mem_of_getElem? (i := 1590) (by decide +kernel)⟩
theorem lw_p139 : lw_okq (⟨"ReadAloudModel", "findBack", "(I)V"⟩, 52) := ⟨⟨by decide +kernel, by decide +kernel⟩, List.mem_of_getElem? (i := 1166) (by decide +kernel), List.mem_of_getElem? (i := 1593) (by decide +kernel), List.mem_of_getElem? (i := 1594) (by decide +kernel)⟩
theorem lw_p140 : lw_okq (⟨"ReadAloudModel", "findFar", "(II[I)V"⟩, 52) := ⟨⟨by decide +kernel, by decide +kernel⟩, List.mem_of_getElem? (i := 1166) (by decide +kernel), List.mem_of_getElem? (i := 1602) (by decide +kernel), List.mem_of_getElem? (i := 1603) (by decide +kernel)⟩
theorem lw_p141 : lw_okq (⟨"ReadAloudModel", "isKept", "(II)Z"⟩, 52) := ⟨⟨by decide +kernel, by decide +kernel⟩, List.mem_of_getElem? (i := 1166) (by decide +kernel), List.mem_of_getElem? (i := 1614) (by decide +kernel), List.mem_of_getElem? (i := 1615) (by decide +kernel)⟩
theorem lw_p142 : lw_okq (⟨"ReadAloudModel", "unread", "(I)I"⟩, 52) := ⟨⟨by decide +kernel, by decide +kernel⟩, List.mem_of_getElem? (i := 1166) (by decide +kernel), List.mem_of_getElem? (i := 1626) (by decide +kernel), List.mem_of_getElem? (i := 1627) (by decide +kernel)⟩
theorem lw_p143 : lw_okq (⟨"ReadAloudModel", "findComes", "(I)V"⟩, 52) := ⟨⟨by decide +kernel, by decide +kernel⟩, List.mem_of_getElem? (i := 1166) (by decide +kernel), List.mem_of_getElem? (i := 1630) (by decide +kernel), List.mem_of_getElem? (i := 1631) (by decide +kernel)⟩
def lw_privs_9 : List (MethodName × Nat) := [(⟨"ReadAloudModel", "deedOf", "(II)I"⟩, 52), (⟨"ReadAloudModel", "layAll", "(II)Z"⟩, 52), (⟨"ReadAloudModel", "play", "(I)I"⟩, 52), (⟨"ReadAloudModel", "begin", "()V"⟩, 52), (⟨"ReadAloudModel", "does", "(I)Z"⟩, 52), (⟨"ReadAloudModel", "reads", "(II)Z"⟩, 52), (⟨"ReadAloudModel", "hushes", "(I)Z"⟩, 52), (⟨"ReadAloudModel", "goesOn", "()Z"⟩, 52), (⟨"ReadAloudModel", "ofState", "(I)I"⟩, 52), (⟨"ReadAloudModel", "handAll", "(I)Z"⟩, 52), (⟨"ReadAloudModel", "layMade", "()V"⟩, 52), (⟨"ReadAloudModel", "findBack", "(I)V"⟩, 52), (⟨"ReadAloudModel", "findFar", "(II[I)V"⟩, 52), (⟨"ReadAloudModel", "isKept", "(II)Z"⟩, 52), (⟨"ReadAloudModel", "unread", "(I)I"⟩, 52), (⟨"ReadAloudModel", "findComes", "(I)V"⟩, 52)]
theorem lw_r9 : ∀ q ∈ lw_privs_9, lw_okq q := List.forall_mem_cons.mpr ⟨lw_p128, List.forall_mem_cons.mpr ⟨lw_p129, List.forall_mem_cons.mpr ⟨lw_p130, List.forall_mem_cons.mpr ⟨lw_p131, List.forall_mem_cons.mpr ⟨lw_p132, List.forall_mem_cons.mpr ⟨lw_p133, List.forall_mem_cons.mpr ⟨lw_p134, List.forall_mem_cons.mpr ⟨lw_p135, List.forall_mem_cons.mpr ⟨lw_p136, List.forall_mem_cons.mpr ⟨lw_p137, List.forall_mem_cons.mpr ⟨lw_p138, List.forall_mem_cons.mpr ⟨lw_p139, List.forall_mem_cons.mpr ⟨lw_p140, List.forall_mem_cons.mpr ⟨lw_p141, List.forall_mem_cons.mpr ⟨lw_p142, List.forall_mem_cons.mpr ⟨lw_p143, fun _ h => absurd h List.not_mem_nil⟩⟩⟩⟩⟩⟩⟩⟩⟩⟩⟩⟩⟩⟩⟩⟩
theorem lw_p144 : lw_okq (⟨"ReadAloudModel", "stays", "(I)I"⟩, 52) := ⟨⟨by decide +kernel, by decide +kernel⟩, List.mem_of_getElem? (i := 1166) (by decide +kernel), List.mem_of_getElem? (i := 1634) (by decide +kernel), List.mem_of_getElem? (i := 1635) (by decide +kernel)⟩
theorem lw_p145 : lw_okq (⟨"ReadAloudModel", "fallAway", "(I)I"⟩, 52) := ⟨⟨by decide +kernel, by decide +kernel⟩, List.mem_of_getElem? (i := 1166) (by decide +kernel), List.mem_of_getElem? (i := 1638) (by decide +kernel), List.mem_of_getElem? (i := 1639) (by decide +kernel)⟩
theorem lw_p146 : lw_okq (⟨"ReadAloudModel", "tail", "(II)I"⟩, 52) := ⟨⟨by decide +kernel, by decide +kernel⟩, List.mem_of_getElem? (i := 1166) (by decide +kernel), List.mem_of_getElem? (i := 1642) (by decide +kernel), List.mem_of_getElem? (i := 1643) (by decide +kernel)⟩
theorem lw_p147 : lw_okq (⟨"ReadAloudModel", "longest", "(IZ)I"⟩, 52) := ⟨⟨by decide +kernel, by decide +kernel⟩, List.mem_of_getElem? (i := 1166) (by decide +kernel), List.mem_of_getElem? (i := 1649) (by decide +kernel), List.mem_of_getElem? (i := 1650) (by decide +kernel)⟩
theorem lw_p148 : lw_okq (⟨"ReadAloudModel", "layDrifts", "()V"⟩, 52) := ⟨⟨by decide +kernel, by decide +kernel⟩, List.mem_of_getElem? (i := 1166) (by decide +kernel), List.mem_of_getElem? (i := 1657) (by decide +kernel), List.mem_of_getElem? (i := 1658) (by decide +kernel)⟩
theorem lw_p149 : lw_okq (⟨"ReadAloudModel", "everybody", "()I"⟩, 52) := ⟨⟨by decide +kernel, by decide +kernel⟩, List.mem_of_getElem? (i := 1166) (by decide +kernel), List.mem_of_getElem? (i := 1661) (by decide +kernel), List.mem_of_getElem? (i := 1662) (by decide +kernel)⟩
theorem lw_p150 : lw_okq (⟨"ReadAloudModel", "best", "(IIZ)V"⟩, 52) := ⟨⟨by decide +kernel, by decide +kernel⟩, List.mem_of_getElem? (i := 1166) (by decide +kernel), List.mem_of_getElem? (i := 1665) (by decide +kernel), List.mem_of_getElem? (i := 1666) (by decide +kernel)⟩
theorem lw_p151 : lw_okq (⟨"ReadAloudModel", "rotaAt", "(II)I"⟩, 52) := ⟨⟨by decide +kernel, by decide +kernel⟩, List.mem_of_getElem? (i := 1166) (by decide +kernel), List.mem_of_getElem? (i := 1669) (by decide +kernel), List.mem_of_getElem? (i := 1670) (by decide +kernel)⟩
theorem lw_p152 : lw_okq (⟨"ReadAloudModel", "wordsIn", "(II)I"⟩, 52) := ⟨⟨by decide +kernel, by decide +kernel⟩, List.mem_of_getElem? (i := 1166) (by decide +kernel), List.mem_of_getElem? (i := 1689) (by decide +kernel), List.mem_of_getElem? (i := 1690) (by decide +kernel)⟩
theorem lw_p153 : lw_okq (⟨"ReadAloudModel", "hasSight", "(I)Z"⟩, 52) := ⟨⟨by decide +kernel, by decide +kernel⟩, List.mem_of_getElem? (i := 1166) (by decide +kernel), List.mem_of_getElem? (i := 1697) (by decide +kernel), List.mem_of_getElem? (i := 1698) (by decide +kernel)⟩
theorem lw_p154 : lw_okq (⟨"ReadAloudModel", "facts", "()I"⟩, 52) := ⟨⟨by decide +kernel, by decide +kernel⟩, List.mem_of_getElem? (i := 1166) (by decide +kernel), List.mem_of_getElem? (i := 1701) (by decide +kernel), List.mem_of_getElem? (i := 1702) (by decide +kernel)⟩
theorem lw_p155 : lw_okq (⟨"ReadAloudModel", "factOf", "(II)I"⟩, 52) := ⟨⟨by decide +kernel, by decide +kernel⟩, List.mem_of_getElem? (i := 1166) (by decide +kernel), List.mem_of_getElem? (i := 1705) (by decide +kernel), List.mem_of_getElem? (i := 1706) (by decide +kernel)⟩
theorem lw_p156 : lw_okq (⟨"ReadAloudModel", "findRows", "(I)V"⟩, 52) := ⟨⟨by decide +kernel, by decide +kernel⟩, List.mem_of_getElem? (i := 1166) (by decide +kernel), List.mem_of_getElem? (i := 1713) (by decide +kernel), List.mem_of_getElem? (i := 1714) (by decide +kernel)⟩
theorem lw_p157 : lw_okq (⟨"ReadAloudModel", "mayBe", "(II)Z"⟩, 52) := ⟨⟨by decide +kernel, by decide +kernel⟩, List.mem_of_getElem? (i := 1166) (by decide +kernel), List.mem_of_getElem? (i := 1717) (by decide +kernel), List.mem_of_getElem? (i := 1718) (by decide +kernel)⟩
theorem lw_p158 : lw_okq (⟨"ReadAloudModel", "allRows", "()I"⟩, 52) := ⟨⟨by decide +kernel, by decide +kernel⟩, List.mem_of_getElem? (i := 1166) (by decide +kernel), List.mem_of_getElem? (i := 1721) (by decide +kernel), List.mem_of_getElem? (i := 1722) (by decide +kernel)⟩
theorem lw_p159 : lw_okq (⟨"ReadAloudModel", "look", "(I)I"⟩, 52) := ⟨⟨by decide +kernel, by decide +kernel⟩, List.mem_of_getElem? (i := 1166) (by decide +kernel), List.mem_of_getElem? (i := 1729) (by decide +kernel), List.mem_of_getElem? (i := 1730) (by decide +kernel)⟩
def lw_privs_10 : List (MethodName × Nat) := [(⟨"ReadAloudModel", "stays", "(I)I"⟩, 52), (⟨"ReadAloudModel", "fallAway", "(I)I"⟩, 52), (⟨"ReadAloudModel", "tail", "(II)I"⟩, 52), (⟨"ReadAloudModel", "longest", "(IZ)I"⟩, 52), (⟨"ReadAloudModel", "layDrifts", "()V"⟩, 52), (⟨"ReadAloudModel", "everybody", "()I"⟩, 52), (⟨"ReadAloudModel", "best", "(IIZ)V"⟩, 52), (⟨"ReadAloudModel", "rotaAt", "(II)I"⟩, 52), (⟨"ReadAloudModel", "wordsIn", "(II)I"⟩, 52), (⟨"ReadAloudModel", "hasSight", "(I)Z"⟩, 52), (⟨"ReadAloudModel", "facts", "()I"⟩, 52), (⟨"ReadAloudModel", "factOf", "(II)I"⟩, 52), (⟨"ReadAloudModel", "findRows", "(I)V"⟩, 52), (⟨"ReadAloudModel", "mayBe", "(II)Z"⟩, 52), (⟨"ReadAloudModel", "allRows", "()I"⟩, 52), (⟨"ReadAloudModel", "look", "(I)I"⟩, 52)]
theorem lw_r10 : ∀ q ∈ lw_privs_10, lw_okq q := List.forall_mem_cons.mpr ⟨lw_p144, List.forall_mem_cons.mpr ⟨lw_p145, List.forall_mem_cons.mpr ⟨lw_p146, List.forall_mem_cons.mpr ⟨lw_p147, List.forall_mem_cons.mpr ⟨lw_p148, List.forall_mem_cons.mpr ⟨lw_p149, List.forall_mem_cons.mpr ⟨lw_p150, List.forall_mem_cons.mpr ⟨lw_p151, List.forall_mem_cons.mpr ⟨lw_p152, List.forall_mem_cons.mpr ⟨lw_p153, List.forall_mem_cons.mpr ⟨lw_p154, List.forall_mem_cons.mpr ⟨lw_p155, List.forall_mem_cons.mpr ⟨lw_p156, List.forall_mem_cons.mpr ⟨lw_p157, List.forall_mem_cons.mpr ⟨lw_p158, List.forall_mem_cons.mpr ⟨lw_p159, fun _ h => absurd h List.not_mem_nil⟩⟩⟩⟩⟩⟩⟩⟩⟩⟩⟩⟩⟩⟩⟩⟩
theorem lw_p160 : lw_okq (⟨"ReadAloudModel", "rowsOf", "(II)I"⟩, 52) := ⟨⟨by decide +kernel, by decide +kernel⟩, List.mem_of_getElem? (i := 1166) (by decide +kernel), List.mem_of_getElem? (i := 1733) (by decide +kernel), List.mem_of_getElem? (i := 1734) (by decide +kernel)⟩
theorem lw_p161 : lw_okq (⟨"ReadAloudModel", "drawDeed", "()V"⟩, 52) := ⟨⟨by decide +kernel, by decide +kernel⟩, List.mem_of_getElem? (i := 1166) (by decide +kernel), List.mem_of_getElem? (i := 1741) (by decide +kernel), List.mem_of_getElem? (i := 1742) (by decide +kernel)⟩
theorem lw_p162 : lw_okq (⟨"ReadAloudModel", "draw", "(I)I"⟩, 52) := ⟨⟨by decide +kernel, by decide +kernel⟩, List.mem_of_getElem? (i := 1166) (by decide +kernel), List.mem_of_getElem? (i := 1745) (by decide +kernel), List.mem_of_getElem? (i := 1746) (by decide +kernel)⟩
theorem lw_p163 : lw_okq (⟨"ReadAloudModel", "kinRing", "(I)I"⟩, 52) := ⟨⟨by decide +kernel, by decide +kernel⟩, List.mem_of_getElem? (i := 1166) (by decide +kernel), List.mem_of_getElem? (i := 1754) (by decide +kernel), List.mem_of_getElem? (i := 1755) (by decide +kernel)⟩
theorem lw_p164 : lw_okq (⟨"ReadAloudModel", "someOf", "(II)I"⟩, 52) := ⟨⟨by decide +kernel, by decide +kernel⟩, List.mem_of_getElem? (i := 1166) (by decide +kernel), List.mem_of_getElem? (i := 1762) (by decide +kernel), List.mem_of_getElem? (i := 1763) (by decide +kernel)⟩
theorem lw_p165 : lw_okq (⟨"ReadAloudModel", "isLeft", "(II)Z"⟩, 52) := ⟨⟨by decide +kernel, by decide +kernel⟩, List.mem_of_getElem? (i := 1166) (by decide +kernel), List.mem_of_getElem? (i := 1766) (by decide +kernel), List.mem_of_getElem? (i := 1767) (by decide +kernel)⟩
theorem lw_p166 : lw_okq (⟨"ReadAloudModel", "findCircles", "()I"⟩, 52) := ⟨⟨by decide +kernel, by decide +kernel⟩, List.mem_of_getElem? (i := 1166) (by decide +kernel), List.mem_of_getElem? (i := 1794) (by decide +kernel), List.mem_of_getElem? (i := 1795) (by decide +kernel)⟩
theorem lw_p167 : lw_okq (⟨"ReadAloudModel", "layBack", "()V"⟩, 52) := ⟨⟨by decide +kernel, by decide +kernel⟩, List.mem_of_getElem? (i := 1166) (by decide +kernel), List.mem_of_getElem? (i := 1798) (by decide +kernel), List.mem_of_getElem? (i := 1799) (by decide +kernel)⟩
theorem lw_p168 : lw_okq (⟨"ReadAloudModel", "goDeep", "(II)I"⟩, 52) := ⟨⟨by decide +kernel, by decide +kernel⟩, List.mem_of_getElem? (i := 1166) (by decide +kernel), List.mem_of_getElem? (i := 1802) (by decide +kernel), List.mem_of_getElem? (i := 1803) (by decide +kernel)⟩
theorem lw_p169 : lw_okq (⟨"ReadAloudModel", "goBack", "(II)V"⟩, 52) := ⟨⟨by decide +kernel, by decide +kernel⟩, List.mem_of_getElem? (i := 1166) (by decide +kernel), List.mem_of_getElem? (i := 1806) (by decide +kernel), List.mem_of_getElem? (i := 1807) (by decide +kernel)⟩
theorem lw_p170 : lw_okq (⟨"ReadAloudModel", "copyAll", "(II)V"⟩, 52) := ⟨⟨by decide +kernel, by decide +kernel⟩, List.mem_of_getElem? (i := 1166) (by decide +kernel), List.mem_of_getElem? (i := 1818) (by decide +kernel), List.mem_of_getElem? (i := 1819) (by decide +kernel)⟩
def lw_privs_11 : List (MethodName × Nat) := [(⟨"ReadAloudModel", "rowsOf", "(II)I"⟩, 52), (⟨"ReadAloudModel", "drawDeed", "()V"⟩, 52), (⟨"ReadAloudModel", "draw", "(I)I"⟩, 52), (⟨"ReadAloudModel", "kinRing", "(I)I"⟩, 52), (⟨"ReadAloudModel", "someOf", "(II)I"⟩, 52), (⟨"ReadAloudModel", "isLeft", "(II)Z"⟩, 52), (⟨"ReadAloudModel", "findCircles", "()I"⟩, 52), (⟨"ReadAloudModel", "layBack", "()V"⟩, 52), (⟨"ReadAloudModel", "goDeep", "(II)I"⟩, 52), (⟨"ReadAloudModel", "goBack", "(II)V"⟩, 52), (⟨"ReadAloudModel", "copyAll", "(II)V"⟩, 52)]
theorem lw_r11 : ∀ q ∈ lw_privs_11, lw_okq q := List.forall_mem_cons.mpr ⟨lw_p160, List.forall_mem_cons.mpr ⟨lw_p161, List.forall_mem_cons.mpr ⟨lw_p162, List.forall_mem_cons.mpr ⟨lw_p163, List.forall_mem_cons.mpr ⟨lw_p164, List.forall_mem_cons.mpr ⟨lw_p165, List.forall_mem_cons.mpr ⟨lw_p166, List.forall_mem_cons.mpr ⟨lw_p167, List.forall_mem_cons.mpr ⟨lw_p168, List.forall_mem_cons.mpr ⟨lw_p169, List.forall_mem_cons.mpr ⟨lw_p170, fun _ h => absurd h List.not_mem_nil⟩⟩⟩⟩⟩⟩⟩⟩⟩⟩⟩
def lw_privs : List (MethodName × Nat) := lw_privs_1 ++ (lw_privs_2 ++ (lw_privs_3 ++ (lw_privs_4 ++ (lw_privs_5 ++ (lw_privs_6 ++ (lw_privs_7 ++ (lw_privs_8 ++ (lw_privs_9 ++ (lw_privs_10 ++ (lw_privs_11))))))))))
def lw_tbl : List Cond := k2_sels lw_privs ++ tables_1
theorem lw_privs_ok : ∀ q ∈ lw_privs, lw_okq q := by
  show ∀ q ∈ lw_privs_1 ++ (lw_privs_2 ++ (lw_privs_3 ++ (lw_privs_4 ++ (lw_privs_5 ++ (lw_privs_6 ++ (lw_privs_7 ++ (lw_privs_8 ++ (lw_privs_9 ++ (lw_privs_10 ++ (lw_privs_11)))))))))), lw_okq q
  exact List.forall_mem_append.mpr ⟨lw_r1, List.forall_mem_append.mpr ⟨lw_r2, List.forall_mem_append.mpr ⟨lw_r3, List.forall_mem_append.mpr ⟨lw_r4, List.forall_mem_append.mpr ⟨lw_r5, List.forall_mem_append.mpr ⟨lw_r6, List.forall_mem_append.mpr ⟨lw_r7, List.forall_mem_append.mpr ⟨lw_r8, List.forall_mem_append.mpr ⟨lw_r9, List.forall_mem_append.mpr ⟨lw_r10, lw_r11⟩⟩⟩⟩⟩⟩⟩⟩⟩⟩
def RX0 : String := "ReadAloud$Book"
def TX0 : u_T := fun k => match k with
  | 0 => ("ReadAloud$Book", "number", "I", false)
  | 1 => ("ReadAloud$Book", "readers", "I", false)
  | 2 => ("ReadAloud$Book", "kinOf", "I", false)
  | 3 => ("ReadAloud$Book", "kin", "[I", true)
  | 4 => ("ReadAloud$Book", "steps", "[I", true)
  | 5 => ("ReadAloud$Book", "stepKinds", "[I", true)
  | _ => ("ReadAloud$Book", "stepNumbers", "[I", true)
def tyX0 : Nat → FieldType := fun k => match k with
  | 0 => .int
  | 1 => .int
  | 2 => .int
  | 3 => .array .int
  | 4 => .array .int
  | 5 => .array .int
  | _ => .array .int
theorem nmX0 : ∀ a, a < 7 → ∀ b, b < 7 → a ≠ b → (TX0 a).2.1 ≠ (TX0 b).2.1 := by decide +kernel
theorem tyX0_ok : ∀ k, k < 7 → parseFieldDescriptor (TX0 k).2.2.1 = some (tyX0 k) := by decide +kernel
def RX1 : String := "ReadAloud$Course"
def TX1 : u_T := fun k => match k with
  | 0 => ("ReadAloud$Course", "book", "LReadAloud$Book;", false)
  | 1 => ("ReadAloud$Course", "day", "I", false)
  | 2 => ("ReadAloud$Course", "sealed", "I", false)
  | 3 => ("ReadAloud$Course", "hushed", "I", false)
  | 4 => ("ReadAloud$Course", "seed", "I", false)
  | 5 => ("ReadAloud$Course", "copies", "[I", true)
  | _ => ("ReadAloud$Course", "timesRead", "[I", true)
def tyX1 : Nat → FieldType := fun k => match k with
  | 0 => .object "ReadAloud$Book"
  | 1 => .int
  | 2 => .int
  | 3 => .int
  | 4 => .int
  | 5 => .array .int
  | _ => .array .int
theorem nmX1 : ∀ a, a < 7 → ∀ b, b < 7 → a ≠ b → (TX1 a).2.1 ≠ (TX1 b).2.1 := by decide +kernel
theorem tyX1_ok : ∀ k, k < 7 → parseFieldDescriptor (TX1 k).2.2.1 = some (tyX1 k) := by decide +kernel
def RX2 : String := "ReadAloud$Levels"
def TX2 : u_T := fun k => match k with
  | 0 => ("ReadAloud$Levels", "readings", "LReadAloud$Readings;", false)
  | 1 => ("ReadAloud$Levels", "n", "I", false)
  | 2 => ("ReadAloud$Levels", "first", "I", false)
  | 3 => ("ReadAloud$Levels", "second", "I", false)
  | 4 => ("ReadAloud$Levels", "start", "[I", true)
  | 5 => ("ReadAloud$Levels", "wanted", "[I", true)
  | 6 => ("ReadAloud$Levels", "texts", "[I", true)
  | 7 => ("ReadAloud$Levels", "ways", "[I", true)
  | 8 => ("ReadAloud$Levels", "worth", "[I", true)
  | _ => ("ReadAloud$Levels", "nodeOf", "[I", true)
def tyX2 : Nat → FieldType := fun k => match k with
  | 0 => .object "ReadAloud$Readings"
  | 1 => .int
  | 2 => .int
  | 3 => .int
  | 4 => .array .int
  | 5 => .array .int
  | 6 => .array .int
  | 7 => .array .int
  | 8 => .array .int
  | _ => .array .int
theorem nmX2 : ∀ a, a < 10 → ∀ b, b < 10 → a ≠ b → (TX2 a).2.1 ≠ (TX2 b).2.1 := by decide +kernel
theorem tyX2_ok : ∀ k, k < 10 → parseFieldDescriptor (TX2 k).2.2.1 = some (tyX2 k) := by decide +kernel
def RX3 : String := "ReadAloud$Lines"
def TX3 : u_T := fun k => match k with
  | _ => ("", "", "", false)
def tyX3 : Nat → FieldType := fun k => match k with
  | _ => .int
theorem nmX3 : ∀ a, a < 0 → ∀ b, b < 0 → a ≠ b → (TX3 a).2.1 ≠ (TX3 b).2.1 := by decide +kernel
theorem tyX3_ok : ∀ k, k < 0 → parseFieldDescriptor (TX3 k).2.2.1 = some (tyX3 k) := by decide +kernel
def RX4 : String := "ReadAloud$Readings"
def TX4 : u_T := fun k => match k with
  | 0 => ("ReadAloud$Readings", "book", "LReadAloud$Book;", false)
  | 1 => ("ReadAloud$Readings", "known", "[I", true)
  | 2 => ("ReadAloud$Readings", "marks", "[B", false)
  | _ => ("ReadAloud$Readings", "spare", "[B", false)
def tyX4 : Nat → FieldType := fun k => match k with
  | 0 => .object "ReadAloud$Book"
  | 1 => .array .int
  | 2 => .array .byte
  | _ => .array .byte
theorem nmX4 : ∀ a, a < 4 → ∀ b, b < 4 → a ≠ b → (TX4 a).2.1 ≠ (TX4 b).2.1 := by decide +kernel
theorem tyX4_ok : ∀ k, k < 4 → parseFieldDescriptor (TX4 k).2.2.1 = some (tyX4 k) := by decide +kernel
def RX5 : String := "ReadAloud$Rings"
def TX5 : u_T := fun k => match k with
  | 0 => ("ReadAloud$Rings", "answers", "[I", true)
  | 1 => ("ReadAloud$Rings", "circles", "I", false)
  | 2 => ("ReadAloud$Rings", "largest", "I", false)
  | 3 => ("ReadAloud$Rings", "found", "I", false)
  | 4 => ("ReadAloud$Rings", "open", "I", false)
  | 5 => ("ReadAloud$Rings", "depth", "I", false)
  | 6 => ("ReadAloud$Rings", "leading", "[I", true)
  | 7 => ("ReadAloud$Rings", "outside", "[I", true)
  | 8 => ("ReadAloud$Rings", "readBefore", "[I", true)
  | 9 => ("ReadAloud$Rings", "way", "[I", true)
  | 10 => ("ReadAloud$Rings", "opened", "[I", true)
  | 11 => ("ReadAloud$Rings", "order", "[I", true)
  | 12 => ("ReadAloud$Rings", "earliest", "[I", true)
  | 13 => ("ReadAloud$Rings", "tried", "[I", true)
  | _ => ("ReadAloud$Rings", "sizeOf", "[I", true)
def tyX5 : Nat → FieldType := fun k => match k with
  | 0 => .array .int
  | 1 => .int
  | 2 => .int
  | 3 => .int
  | 4 => .int
  | 5 => .int
  | 6 => .array .int
  | 7 => .array .int
  | 8 => .array .int
  | 9 => .array .int
  | 10 => .array .int
  | 11 => .array .int
  | 12 => .array .int
  | 13 => .array .int
  | _ => .array .int
theorem nmX5 : ∀ a, a < 15 → ∀ b, b < 15 → a ≠ b → (TX5 a).2.1 ≠ (TX5 b).2.1 := by decide +kernel
theorem tyX5_ok : ∀ k, k < 15 → parseFieldDescriptor (TX5 k).2.2.1 = some (tyX5 k) := by decide +kernel
def RX6 : String := "ReadAloud$Sight"
def TX6 : u_T := fun k => match k with
  | 0 => ("ReadAloud$Sight", "facts", "I", false)
  | 1 => ("ReadAloud$Sight", "behind", "[I", true)
  | _ => ("ReadAloud$Sight", "numbers", "[I", true)
def tyX6 : Nat → FieldType := fun k => match k with
  | 0 => .int
  | 1 => .array .int
  | _ => .array .int
theorem nmX6 : ∀ a, a < 3 → ∀ b, b < 3 → a ≠ b → (TX6 a).2.1 ≠ (TX6 b).2.1 := by decide +kernel
theorem tyX6_ok : ∀ k, k < 3 → parseFieldDescriptor (TX6 k).2.2.1 = some (tyX6 k) := by decide +kernel
def RX7 : String := "ReadAloud$Teller"
def TX7 : u_T := fun k => match k with
  | 0 => ("ReadAloud$Teller", "tape", "[B", false)
  | 1 => ("ReadAloud$Teller", "length", "I", false)
  | 2 => ("ReadAloud$Teller", "at", "I", false)
  | 3 => ("ReadAloud$Teller", "kind", "I", false)
  | 4 => ("ReadAloud$Teller", "start", "I", false)
  | 5 => ("ReadAloud$Teller", "value", "I", false)
  | 6 => ("ReadAloud$Teller", "fault", "I", false)
  | _ => ("ReadAloud$Teller", "place", "I", false)
def tyX7 : Nat → FieldType := fun k => match k with
  | 0 => .array .byte
  | 1 => .int
  | 2 => .int
  | 3 => .int
  | 4 => .int
  | 5 => .int
  | 6 => .int
  | _ => .int
theorem nmX7 : ∀ a, a < 8 → ∀ b, b < 8 → a ≠ b → (TX7 a).2.1 ≠ (TX7 b).2.1 := by decide +kernel
theorem tyX7_ok : ∀ k, k < 8 → parseFieldDescriptor (TX7 k).2.2.1 = some (tyX7 k) := by decide +kernel
def RX8 : String := "ReadAloud$Told"
def TX8 : u_T := fun k => match k with
  | 0 => ("ReadAloud$Told", "tape", "[B", true)
  | 1 => ("ReadAloud$Told", "length", "I", false)
  | 2 => ("ReadAloud$Told", "fault", "I", false)
  | 3 => ("ReadAloud$Told", "place", "I", false)
  | 4 => ("ReadAloud$Told", "counts", "[I", true)
  | 5 => ("ReadAloud$Told", "books", "[LReadAloud$Book;", true)
  | 6 => ("ReadAloud$Told", "years", "[LReadAloud$Year;", true)
  | _ => ("ReadAloud$Told", "sights", "[LReadAloud$Sight;", true)
def tyX8 : Nat → FieldType := fun k => match k with
  | 0 => .array .byte
  | 1 => .int
  | 2 => .int
  | 3 => .int
  | 4 => .array .int
  | 5 => .array (.object "ReadAloud$Book")
  | 6 => .array (.object "ReadAloud$Year")
  | _ => .array (.object "ReadAloud$Sight")
theorem nmX8 : ∀ a, a < 8 → ∀ b, b < 8 → a ≠ b → (TX8 a).2.1 ≠ (TX8 b).2.1 := by decide +kernel
theorem tyX8_ok : ∀ k, k < 8 → parseFieldDescriptor (TX8 k).2.2.1 = some (tyX8 k) := by decide +kernel
def RX9 : String := "ReadAloud$Walk"
def TX9 : u_T := fun k => match k with
  | 0 => ("ReadAloud$Walk", "size", "I", false)
  | 1 => ("ReadAloud$Walk", "queue", "[I", true)
  | 2 => ("ReadAloud$Walk", "needed", "[I", true)
  | 3 => ("ReadAloud$Walk", "back", "[I", true)
  | _ => ("ReadAloud$Walk", "reader", "[I", true)
def tyX9 : Nat → FieldType := fun k => match k with
  | 0 => .int
  | 1 => .array .int
  | 2 => .array .int
  | 3 => .array .int
  | _ => .array .int
theorem nmX9 : ∀ a, a < 5 → ∀ b, b < 5 → a ≠ b → (TX9 a).2.1 ≠ (TX9 b).2.1 := by decide +kernel
theorem tyX9_ok : ∀ k, k < 5 → parseFieldDescriptor (TX9 k).2.2.1 = some (tyX9 k) := by decide +kernel
def RX10 : String := "ReadAloud$Year"
def TX10 : u_T := fun k => match k with
  | 0 => ("ReadAloud$Year", "deeds", "I", false)
  | 1 => ("ReadAloud$Year", "kinds", "[I", true)
  | 2 => ("ReadAloud$Year", "ones", "[I", true)
  | _ => ("ReadAloud$Year", "others", "[I", true)
def tyX10 : Nat → FieldType := fun k => match k with
  | 0 => .int
  | 1 => .array .int
  | 2 => .array .int
  | _ => .array .int
theorem nmX10 : ∀ a, a < 4 → ∀ b, b < 4 → a ≠ b → (TX10 a).2.1 ≠ (TX10 b).2.1 := by decide +kernel
theorem tyX10_ok : ∀ k, k < 4 → parseFieldDescriptor (TX10 k).2.2.1 = some (tyX10 k) := by decide +kernel
def RX11 : String := "ReadAloud"
def TX11 : u_T := fun k => match k with
  | 0 => ("ReadAloud", "told", "LReadAloud$Told;", true)
  | 1 => ("ReadAloud", "images", "[LReadAloud$Told;", true)
  | 2 => ("ReadAloud", "teller", "LReadAloud$Teller;", true)
  | 3 => ("ReadAloud", "course", "LReadAloud$Course;", true)
  | 4 => ("ReadAloud", "readings", "[LReadAloud$Readings;", true)
  | 5 => ("ReadAloud", "walks", "[LReadAloud$Walk;", true)
  | 6 => ("ReadAloud", "levels", "LReadAloud$Levels;", false)
  | _ => ("ReadAloud", "rings", "LReadAloud$Rings;", false)
def tyX11 : Nat → FieldType := fun k => match k with
  | 0 => .object "ReadAloud$Told"
  | 1 => .array (.object "ReadAloud$Told")
  | 2 => .object "ReadAloud$Teller"
  | 3 => .object "ReadAloud$Course"
  | 4 => .array (.object "ReadAloud$Readings")
  | 5 => .array (.object "ReadAloud$Walk")
  | 6 => .object "ReadAloud$Levels"
  | _ => .object "ReadAloud$Rings"
theorem nmX11 : ∀ a, a < 8 → ∀ b, b < 8 → a ≠ b → (TX11 a).2.1 ≠ (TX11 b).2.1 := by decide +kernel
theorem tyX11_ok : ∀ k, k < 8 → parseFieldDescriptor (TX11 k).2.2.1 = some (tyX11 k) := by decide +kernel
def RX12 : String := "ReadAloudModel"
def TX12 : u_T := fun k => match k with
  | 0 => ("ReadAloudModel", "code", "I", false)
  | 1 => ("ReadAloudModel", "tape", "[B", true)
  | 2 => ("ReadAloudModel", "size", "[I", true)
  | 3 => ("ReadAloudModel", "fault", "[I", true)
  | 4 => ("ReadAloudModel", "faultPlace", "[I", true)
  | 5 => ("ReadAloudModel", "many", "[I", true)
  | 6 => ("ReadAloudModel", "books", "[I", true)
  | 7 => ("ReadAloudModel", "years", "[I", true)
  | 8 => ("ReadAloudModel", "sights", "[I", true)
  | 9 => ("ReadAloudModel", "reached", "I", false)
  | 10 => ("ReadAloudModel", "length", "I", false)
  | 11 => ("ReadAloudModel", "begins", "I", false)
  | 12 => ("ReadAloudModel", "sort", "I", false)
  | 13 => ("ReadAloudModel", "value", "I", false)
  | 14 => ("ReadAloudModel", "word", "J", false)
  | 15 => ("ReadAloudModel", "wrongAt", "I", false)
  | 16 => ("ReadAloudModel", "laterFault", "I", false)
  | 17 => ("ReadAloudModel", "laterPlace", "I", false)
  | 18 => ("ReadAloudModel", "told", "[I", true)
  | 19 => ("ReadAloudModel", "read", "[I", true)
  | 20 => ("ReadAloudModel", "book", "I", false)
  | 21 => ("ReadAloudModel", "madeOf", "I", false)
  | 22 => ("ReadAloudModel", "base", "I", false)
  | 23 => ("ReadAloudModel", "readers", "I", false)
  | 24 => ("ReadAloudModel", "words", "[I", true)
  | 25 => ("ReadAloudModel", "others", "[I", true)
  | 26 => ("ReadAloudModel", "lasts", "I", false)
  | 27 => ("ReadAloudModel", "drifts", "[I", true)
  | 28 => ("ReadAloudModel", "year", "I", false)
  | 29 => ("ReadAloudModel", "copies", "[I", true)
  | 30 => ("ReadAloudModel", "often", "[I", true)
  | 31 => ("ReadAloudModel", "day", "I", false)
  | 32 => ("ReadAloudModel", "sealed", "I", false)
  | 33 => ("ReadAloudModel", "hushed", "I", false)
  | 34 => ("ReadAloudModel", "made", "[I", true)
  | 35 => ("ReadAloudModel", "far", "[I", true)
  | 36 => ("ReadAloudModel", "far2", "[I", true)
  | 37 => ("ReadAloudModel", "order", "[I", true)
  | 38 => ("ReadAloudModel", "come", "I", false)
  | 39 => ("ReadAloudModel", "comes", "[I", true)
  | 40 => ("ReadAloudModel", "least", "[I", true)
  | 41 => ("ReadAloudModel", "sight", "I", false)
  | 42 => ("ReadAloudModel", "ways", "[I", true)
  | 43 => ("ReadAloudModel", "onward", "[I", true)
  | 44 => ("ReadAloudModel", "seed", "I", false)
  | 45 => ("ReadAloudModel", "under", "[I", true)
  | 46 => ("ReadAloudModel", "tried", "[I", true)
  | 47 => ("ReadAloudModel", "circle", "[I", true)
  | 48 => ("ReadAloudModel", "sizes", "[I", true)
  | 49 => ("ReadAloudModel", "firstTo", "[I", true)
  | 50 => ("ReadAloudModel", "nextTo", "[I", true)
  | _ => ("ReadAloudModel", "kept", "[Z", true)
def tyX12 : Nat → FieldType := fun k => match k with
  | 0 => .int
  | 1 => .array .byte
  | 2 => .array .int
  | 3 => .array .int
  | 4 => .array .int
  | 5 => .array .int
  | 6 => .array .int
  | 7 => .array .int
  | 8 => .array .int
  | 9 => .int
  | 10 => .int
  | 11 => .int
  | 12 => .int
  | 13 => .int
  | 14 => .long
  | 15 => .int
  | 16 => .int
  | 17 => .int
  | 18 => .array .int
  | 19 => .array .int
  | 20 => .int
  | 21 => .int
  | 22 => .int
  | 23 => .int
  | 24 => .array .int
  | 25 => .array .int
  | 26 => .int
  | 27 => .array .int
  | 28 => .int
  | 29 => .array .int
  | 30 => .array .int
  | 31 => .int
  | 32 => .int
  | 33 => .int
  | 34 => .array .int
  | 35 => .array .int
  | 36 => .array .int
  | 37 => .array .int
  | 38 => .int
  | 39 => .array .int
  | 40 => .array .int
  | 41 => .int
  | 42 => .array .int
  | 43 => .array .int
  | 44 => .int
  | 45 => .array .int
  | 46 => .array .int
  | 47 => .array .int
  | 48 => .array .int
  | 49 => .array .int
  | 50 => .array .int
  | _ => .array .boolean
theorem nmX12 : ∀ a, a < 52 → ∀ b, b < 52 → a ≠ b → (TX12 a).2.1 ≠ (TX12 b).2.1 := by decide +kernel
theorem tyX12_ok : ∀ k, k < 52 → parseFieldDescriptor (TX12 k).2.2.1 = some (tyX12 k) := by decide +kernel
def RL : String := "ReadAloudLaw"
end
section
/-! THE PURE MACHINE: a world is a list of cells, an address its place in the list; a method's run as a least fixed point. -/
abbrev zL : Type := List (Option Value)
abbrev zW : Type := List va_E
abbrev zS : Type := Nat × zL × List Value × zW × Nat × Nat
abbrev zE : Type := Nat × Instr × Nat × Nat × Nat
/-- name, bytes, locals, what it returns, its class's number, its rows -/
abbrev zM : Type := MethodName × ByteArray × Nat × Option FieldType × Nat × List zE
abbrev zQ : Type := Option Value → zW → Prop
abbrev zX : Type := Option (Nat × (Nat → Int32))
abbrev zCT : Type := Nat → List Value → zW → Nat → Nat → zQ → Prop
def zcls : List vw_C := [(RX0, TX0, 7), (RX1, TX1, 7), (RX2, TX2, 10), (RX4, TX4, 4), (RX5, TX5, 15), (RX6, TX6, 3), (RX7, TX7, 8), (RX8, TX8, 8), (RX9, TX9, 5), (RX10, TX10, 4), (RX11, TX11, 8), (RX12, TX12, 52)]
def ztyf : Nat → Nat → FieldType := fun i => match i with
  | 0 => tyX0
  | 1 => tyX1
  | 2 => tyX2
  | 3 => tyX4
  | 4 => tyX5
  | 5 => tyX6
  | 6 => tyX7
  | 7 => tyX8
  | 8 => tyX9
  | 9 => tyX10
  | 10 => tyX11
  | _ => tyX12
def zix {α : Type} : List α → Nat → Option α
  | [], _ => none
  | x :: _, 0 => some x
  | _ :: t, n + 1 => zix t n
theorem zix_eq {α : Type} : ∀ (l : List α) (i : Nat), zix l i = l[i]?
  | [], _ => rfl
  | _ :: _, 0 => rfl
  | _ :: t, n + 1 => by rw [List.getElem?_cons_succ]; exact zix_eq t n
def zst {α : Type} : List α → Nat → α → List α
  | [], _, _ => []
  | _ :: t, 0, v => v :: t
  | x :: t, n + 1, v => x :: zst t n v
theorem zst_eq {α : Type} : ∀ (l : List α) (i : Nat) (v : α), zst l i v = l.set i v
  | [], _, _ => rfl
  | _ :: _, 0, _ => rfl
  | x :: t, n + 1, v => by rw [List.set_cons_succ]; exact congrArg (x :: ·) (zst_eq t n v)
def zcn (i : Nat) : String := match zix zcls i with
  | some q => q.1
  | none => ""
def zcN (i : Nat) : Nat := match zix zcls i with
  | some q => q.2.2
  | none => 0
def zcf (i k : Nat) : String × String × String × Bool := match zix zcls i with
  | some q => q.2.1 k
  | none => ("", "", "", false)
/-- the arrays' kinds -/
def zats : List FieldType := [.byte, .int, .boolean, .object "ReadAloud$Book", .object "ReadAloud$Year", .object "ReadAloud$Sight", .object "ReadAloud$Told", .object "ReadAloud$Readings", .object "ReadAloud$Walk"]
/-- the class of an array's elements -/
def zec : Nat → Nat := fun i => match i with
  | 3 => 0
  | 4 => 9
  | 5 => 5
  | 6 => 7
  | 7 => 3
  | 8 => 8
  | _ => 99
def zdv : FieldType → Value := defaultValue
def zdl : Nat → Nat → (Nat → FieldType) → List Value
  | 0, _, _ => []
  | n + 1, i, f => zdv (f i) :: zdl n (i + 1) f
def zdf (ci : Nat) : List Value := zdl (zcN ci) 0 (ztyf ci)
def zda (ti n : Nat) : vp_A := match Nat.ble ti 2 with
  | true => (n, .inl (fun _ => 0))
  | false => (n, .inr (.inr (.inr (.inr (fun _ => none)))))
def zfit (ty : FieldType) (v : Value) : Bool := match ty with
  | .int => match v with
    | .int _ => true
    | _ => false
  | .long => match v with
    | .long _ => true
    | _ => false
  | .object _ => match v with
    | .ref _ => true
    | .null => true
    | _ => false
  | .array _ => match v with
    | .ref _ => true
    | .null => true
    | _ => false
  | _ => false
def zat : List zE → Nat → Option (Instr × Nat × Nat × Nat)
  | [], _ => none
  | e :: t, pc => match Nat.beq e.1 pc with
    | true => some e.2
    | false => zat t pc
def zget : zL → Nat → Option Value
  | [], _ => none
  | x :: _, 0 => x
  | _ :: t, n + 1 => zget t n
def zput : zL → Nat → Option Value → zL
  | [], _, _ => []
  | _ :: t, 0, v => v :: t
  | x :: t, n + 1, v => x :: zput t n v
def zc2 (v : Option Value) : Bool := match v with
  | some (.long _) => true
  | some (.double _) => true
  | _ => false
def zfree (L : zL) (i : Nat) : Bool := match i with
  | 0 => true
  | j + 1 => match zc2 (zget L j) with
    | true => false
    | false => true
def zrm (S : List Value) : Bool := Nat.ble (S.map fun v => v.category).sum 8
def zbr (c : Jvm.ClassFile.Cond) (x y : Int32) (A B : Prop) : Prop := match c with
  | .eq => (x = y → A) ∧ (¬ x = y → B)
  | .ne => (¬ x = y → A) ∧ (x = y → B)
  | .lt => (x < y → A) ∧ (¬ x < y → B)
  | .ge => (y ≤ x → A) ∧ (¬ y ≤ x → B)
  | .gt => (y < x → A) ∧ (¬ y < x → B)
  | .le => (x ≤ y → A) ∧ (¬ x ≤ y → B)
def zbr0 (c : Jvm.ClassFile.Cond) (x : Int32) (A B : Prop) : Prop := match c with
  | .eq => (x = 0 → A) ∧ (¬ x = 0 → B)
  | .ne => (¬ x = 0 → A) ∧ (x = 0 → B)
  | .lt => (x < 0 → A) ∧ (¬ x < 0 → B)
  | .ge => (0 ≤ x → A) ∧ (¬ 0 ≤ x → B)
  | .gt => (0 < x → A) ∧ (¬ 0 < x → B)
  | .le => (x ≤ 0 → A) ∧ (¬ x ≤ 0 → B)
def z1i (S : List Value) (f : Int32 → List Value → Prop) : Prop := match S with
  | .int x :: t => f x t
  | _ => False
def z2i (S : List Value) (f : Int32 → Int32 → List Value → Prop) : Prop := match S with
  | .int y :: .int x :: t => f x y t
  | _ => False
def z1l (S : List Value) (f : Int64 → List Value → Prop) : Prop := match S with
  | .long x :: t => f x t
  | _ => False
def z2l (S : List Value) (f : Int64 → Int64 → List Value → Prop) : Prop := match S with
  | .long y :: .long x :: t => f x y t
  | _ => False
def z1r (S : List Value) (f : Nat → List Value → Prop) : Prop := match S with
  | .ref q :: t => f q t
  | _ => False
def z1v (S : List Value) (f : Value → List Value → Prop) : Prop := match S with
  | v :: t => f v t
  | _ => False
/-- a value above a reference -/
def zvr (S : List Value) (f : Value → Nat → List Value → Prop) : Prop := match S with
  | v :: .ref q :: t => f v q t
  | _ => False
/-- an index above an array -/
def zia (S : List Value) (f : Int32 → Nat → List Value → Prop) (g : Int32 → List Value → Prop) : Prop := match S with
  | .int i :: .ref q :: t => f i q t
  | .int i :: .retAddr _ :: t => g i t
  | _ => False
/-- a value above an index above an array -/
def zvia (S : List Value) (f : Value → Int32 → Nat → List Value → Prop) : Prop := match S with
  | v :: .int i :: .ref q :: t => f v i q t
  | _ => False
/-- a condition that is reckoned -/
def zif (b : Bool) (A : Prop) : Prop := match b with
  | true => A
  | false => False
def zli (L : zL) (j : Nat) (f : Int32 → Prop) : Prop := match zget L j with
  | some (.int x) => f x
  | _ => False
def zll (L : zL) (j : Nat) (f : Int64 → Prop) : Prop := match zget L j with
  | some (.long x) => f x
  | _ => False
def zla (L : zL) (j : Nat) (f : Value → Prop) : Prop := match zget L j with
  | some (.ref q) => f (.ref q)
  | some .null => f .null
  | some (.retAddr q) => f (.retAddr q)
  | _ => False
/-- an object of a class -/
def zob (w : zW) (q ci : Nat) (f : List Value → Prop) : Prop := match zix w q with
  | some (.inr (c, fs)) => zif (Nat.beq c ci) (f fs)
  | _ => False
def zai (w : zW) (q : Nat) (f : Nat → Nat → (Nat → Int32) → Prop) : Prop := match zix w q with
  | some (.inl (ti, len, .inl g)) => f ti len g
  | _ => False
def zaq (w : zW) (q : Nat) (f : Nat → Nat → (Nat → Option Nat) → Prop) : Prop := match zix w q with
  | some (.inl (ti, len, .inr (.inr (.inr (.inr g))))) => f ti len g
  | _ => False
def zin1 (S : List Value) (f : Value → Prop) : Prop := match S with
  | [v] => f v
  | _ => False
def zret (r : Option FieldType) (v : Value) : Prop := match v with
  | .int x => match r with
    | some .int => True
    | some .boolean => x = 0 ∨ x = 1
    | _ => False
  | .long _ => match r with
    | some .long => True
    | _ => False
  | .ref _ => match r with
    | some (.object _) => True
    | _ => False
  | .null => match r with
    | some (.object _) => True
    | _ => False
  | _ => False
/-- what a store of a reference takes -/
def zasv (S : List Value) (f : Value → List Value → Prop) : Prop := match S with
  | .ref q :: t => f (.ref q) t
  | .null :: t => f .null t
  | _ => False
def zvr2 (S : List Value) (f : Value → Value → List Value → Prop) : Prop := match S with
  | v :: u :: t => f v u t
  | _ => False
/-- a reference, or null -/
def zrn (S : List Value) (f g : List Value → Prop) : Prop := match S with
  | .ref _ :: t => f t
  | .null :: t => g t
  | _ => False
def zrn2 (v : Value) (f : Nat → Prop) (g : Prop) : Prop := match v with
  | .ref q => f q
  | .null => g
  | _ => False
def zfld (fs : List Value) (b : Nat) (f : Value → Prop) : Prop := match zix fs b with
  | some v => f v
  | none => False
def zext (E : zX) (f : Nat → (Nat → Int32) → Prop) : Prop := match E with
  | some q => f q.1 q.2
  | none => False
def zor (b : Bool) (A B : Prop) : Prop := match b with
  | true => A
  | false => B
def zlen1 (S : List Value) (f : List Value → Prop) : Prop := match S with
  | .retAddr _ :: t => f t
  | _ => False
def zcpy (S : List Value) (f : Nat → Int32 → Nat → Int32 → Int32 → List Value → Prop) : Prop := match S with
  | .int m :: .int dp :: .ref q1 :: .int sp :: .ref q0 :: t => f q0 sp q1 dp m t
  | _ => False
def zaty (i : Nat) : FieldType := match i with
  | 0 => .byte
  | _ => .int
def znil (S : List Value) (A : Prop) : Prop := match S with
  | [] => A
  | _ => False
def zmc (tab : List zM) (a : Nat) : Nat := match zix tab a with
  | some M => M.2.2.2.2.1
  | none => 99
/-- a method uses just its room, the law at most its room -/
def zfin (E : zX) (k n mc ms : Nat) : Prop := match E with
  | none => k = mc ∧ n ≤ ms
  | some _ => k ≤ mc ∧ n ≤ ms
/-- the call: at most so many new cells and slots, the operands below it, then on -/
def zcall (C : zCT) (a : Nat) (As : List Value) (S : List Value) (w : zW) (k n mc ms np : Nat) (L : zL) (K : zS → Prop) : Prop :=
  ∃ mc' ms' : Nat, (k + mc' ≤ mc ∧ n + ms' ≤ ms) ∧ C a As w mc' ms' (fun r w' => K (np, L, r.toList ++ S, w', k + mc', n + ms'))
def zins (C : zCT) (d : Nat) (M : zM) (E : zX) (tab : List zM) (mc ms : Nat) (Q : zQ) (pc : Nat) (L : zL) (S : List Value) (w : zW) (k n : Nat) (i : Instr) (np a b : Nat) (K : zS → Prop) : Prop := match i with
  | .iconst v => K (np, L, .int (Int32.ofInt v) :: S, w, k, n)
  | .bipush v => K (np, L, .int (Int8.ofInt v).toInt32 :: S, w, k, n)
  | .sipush v => K (np, L, .int (Int16.ofInt v).toInt32 :: S, w, k, n)
  | .ldc _ => K (np, L, .int (Int32.ofNat a) :: S, w, k, n)
  | .ldc2_w _ => K (np, L, .long (Int64.ofNat a) :: S, w, k, n)
  | .lconst v => K (np, L, .long (Int64.ofNat v.val) :: S, w, k, n)
  | .aconst_null => K (np, L, .null :: S, w, k, n)
  | .iload_n j => zli L j.val fun x => K (np, L, .int x :: S, w, k, n)
  | .iload j => zli L j fun x => K (np, L, .int x :: S, w, k, n)
  | .lload_n j => zll L j.val fun x => K (np, L, .long x :: S, w, k, n)
  | .lload j => zll L j fun x => K (np, L, .long x :: S, w, k, n)
  | .aload_n j => zla L j.val fun v => K (np, L, v :: S, w, k, n)
  | .aload j => zla L j fun v => K (np, L, v :: S, w, k, n)
  | .istore_n j => z1i S fun x t => zif (zfree L j.val) (K (np, zput L j.val (some (.int x)), t, w, k, n))
  | .istore j => z1i S fun x t => zif (zfree L j) (K (np, zput L j (some (.int x)), t, w, k, n))
  | .lstore_n j => z1l S fun x t => zif (zfree L j.val) (K (np, zput (zput L (j.val + 1) none) j.val (some (.long x)), t, w, k, n))
  | .lstore j => z1l S fun x t => zif (zfree L j) (K (np, zput (zput L (j + 1) none) j (some (.long x)), t, w, k, n))
  | .astore_n j => zasv S fun v t => zif (zfree L j.val) (K (np, zput L j.val (some v), t, w, k, n))
  | .astore j => zasv S fun v t => zif (zfree L j) (K (np, zput L j (some v), t, w, k, n))
  | .iinc j v => zli L j fun x => zif (zfree L j) (K (np, zput L j (some (.int (x + Int32.ofInt v))), S, w, k, n))
  | .iadd => z2i S fun x y t => K (np, L, .int (x + y) :: t, w, k, n)
  | .isub => z2i S fun x y t => K (np, L, .int (x - y) :: t, w, k, n)
  | .imul => z2i S fun x y t => K (np, L, .int (x * y) :: t, w, k, n)
  | .iand => z2i S fun x y t => K (np, L, .int (x &&& y) :: t, w, k, n)
  | .ior => z2i S fun x y t => K (np, L, .int (x ||| y) :: t, w, k, n)
  | .ixor => z2i S fun x y t => K (np, L, .int (x ^^^ y) :: t, w, k, n)
  | .idiv => z2i S fun x y t => ¬ y = 0 ∧ K (np, L, .int (x / y) :: t, w, k, n)
  | .irem => z2i S fun x y t => ¬ y = 0 ∧ K (np, L, .int (x - x / y * y) :: t, w, k, n)
  | .ishl => z2i S fun x y t => K (np, L, .int (x <<< (y &&& 31)) :: t, w, k, n)
  | .ishr => z2i S fun x y t => K (np, L, .int (x >>> (y &&& 31)) :: t, w, k, n)
  | .iushr => z2i S fun x y t => K (np, L, .int (x.toUInt32 >>> (y.toUInt32 &&& Int32.toUInt32 31)).toInt32 :: t, w, k, n)
  | .i2b => z1i S fun x t => K (np, L, .int x.toInt8.toInt32 :: t, w, k, n)
  | .i2l => z1i S fun x t => K (np, L, .long x.toInt64 :: t, w, k, n)
  | .lcmp => z2l S fun x y t => K (np, L, .int (lg_cmp x y) :: t, w, k, n)
  | .dup => z1v S fun v t => zif (Nat.beq v.category 1) (K (np, L, v :: v :: t, w, k, n))
  | .pop => z1v S fun v t => zif (Nat.beq v.category 1) (K (np, L, t, w, k, n))
  | .dup2 => zvr2 S fun v u t => zif (Nat.beq v.category 1) (zif (Nat.beq u.category 1) (K (np, L, v :: u :: v :: u :: t, w, k, n)))
  | .if_icmp c _ => z2i S fun x y t => zbr c x y (K (a, L, t, w, k, n)) (K (np, L, t, w, k, n))
  | .ifCond c _ => z1i S fun x t => zbr0 c x (K (a, L, t, w, k, n)) (K (np, L, t, w, k, n))
  | .goto _ => K (a, L, S, w, k, n)
  | .ifnull _ => zrn S (fun t => K (np, L, t, w, k, n)) (fun t => K (a, L, t, w, k, n))
  | .ifnonnull _ => zrn S (fun t => K (a, L, t, w, k, n)) (fun t => K (np, L, t, w, k, n))
  | .tableswitch df lo hi offs => z1i S fun x t => (x.toInt < lo ∨ hi < x.toInt → K (((pc : Int) + df).toNat, L, t, w, k, n)) ∧ (¬ (x.toInt < lo ∨ hi < x.toInt) → ∃ off, offs[(x.toInt - lo).toNat]? = some off ∧ K (((pc : Int) + off).toNat, L, t, w, k, n))
  | .lookupswitch df ps => z1i S fun x t => K (((pc : Int) + Op.lookupswitch.offset ps.toList df x.toInt).toNat, L, t, w, k, n)
  | .getfield _ => z1r S fun q t => zob w q a fun fs => zfld fs b fun v => K (np, L, v :: t, w, k, n)
  | .putfield _ => zvr S fun v q t => zob w q a fun fs => zif (zfit (ztyf a b) v) (zif (Nat.blt b fs.length) (K (np, L, t, zst w q (.inr (a, zst fs b v)), k, n)))
  | .new _ => zif (Nat.ble (k + 1) mc) (zif (Nat.ble (n + zcN a) ms) (K (np, L, .ref w.length :: S, w ++ [.inr (a, zdf a)], k + 1, n + zcN a)))
  | .newarray _ => z1i S fun x t => zif (decide (x = Int32.ofNat b)) (zif (Nat.ble (k + 1) mc) (zif (Nat.ble (n + b) ms) (K (np, L, .ref w.length :: t, w ++ [.inl (a, zda a b)], k + 1, n + b))))
  | .anewarray _ => z1i S fun x t => zif (decide (x = Int32.ofNat b)) (zif (Nat.ble (k + 1) mc) (zif (Nat.ble (n + b) ms) (K (np, L, .ref w.length :: t, w ++ [.inl (a, zda a b)], k + 1, n + b))))
  | .iaload => zia S (fun i q t => zai w q fun ti len g => zif (Nat.beq ti 1) (vp_in i len ∧ K (np, L, .int (g i.toNatClampNeg) :: t, w, k, n))) (fun i t => zext E fun len g => vp_in i len ∧ K (np, L, .int (g i.toNatClampNeg) :: t, w, k, n))
  | .baload => zia S (fun i q t => zai w q fun ti len g => zif (Nat.beq ti 0 || Nat.beq ti 2) (vp_in i len ∧ K (np, L, .int (g i.toNatClampNeg) :: t, w, k, n))) (fun _ _ => False)
  | .aaload => zia S (fun i q t => zaq w q fun ti len g => zif (Nat.ble 3 ti && Nat.ble ti 8) (vp_in i len ∧ K (np, L, va_rf (g i.toNatClampNeg) :: t, w, k, n))) (fun _ _ => False)
  | .iastore => zvia S fun v i q t => z1i [v] fun x _ => zai w q fun ti len g => zif (Nat.beq ti 1) (vp_in i len ∧ K (np, L, t, zst w q (.inl (ti, len, .inl (upd g i.toNatClampNeg x))), k, n))
  | .bastore => zvia S fun v i q t => z1i [v] fun x _ => zai w q fun ti len g => zor (Nat.beq ti 0) (vp_in i len ∧ K (np, L, t, zst w q (.inl (ti, len, .inl (upd g i.toNatClampNeg (vp_nar .byte x)))), k, n)) (zif (Nat.beq ti 2) (vp_in i len ∧ K (np, L, t, zst w q (.inl (ti, len, .inl (upd g i.toNatClampNeg (vp_nar .boolean x)))), k, n)))
  | .aastore => zvia S fun v i q t => zaq w q fun ti len g => zif (Nat.ble 3 ti && Nat.ble ti 8) (zrn2 v (fun q2 => zob w q2 (zec ti) fun _ => vp_in i len ∧ K (np, L, t, zst w q (.inl (ti, len, .inr (.inr (.inr (.inr (va_up g i.toNatClampNeg (some q2))))))), k, n)) (vp_in i len ∧ K (np, L, t, zst w q (.inl (ti, len, .inr (.inr (.inr (.inr (va_up g i.toNatClampNeg none)))))), k, n)))
  | .arraylength => zlen1 S fun t => zext E fun len _ => K (np, L, .int (Int32.ofNat len) :: t, w, k, n)
  | .invokestatic _ => zor (Nat.beq b 100) (z2i S fun x y t => zif (Nat.ble 1 d && zrm t && (Nat.ble k mc && Nat.ble n ms)) (K (np, L, .int (if x < y then y else x) :: t, w, k, n)))
      (zor (Nat.beq b 101) (z2i S fun x y t => zif (Nat.ble 1 d && zrm t && (Nat.ble k mc && Nat.ble n ms)) (K (np, L, .int (if y < x then y else x) :: t, w, k, n)))
      (zor (Nat.beq b 102) (zcpy S fun q0 sp q1 dp m t => zif (Nat.ble 1 d && zrm t) (zai w q0 fun t0 n0 f => zai w q1 fun t1 n1 g => zif (Nat.beq t0 t1 && Nat.ble t0 1) (((¬ sp < 0 ∧ ¬ dp < 0 ∧ ¬ m < 0) ∧ (sp.toNatClampNeg + m.toNatClampNeg ≤ n0 ∧ dp.toNatClampNeg + m.toNatClampNeg ≤ n1) ∧ ∀ j, j < m.toNatClampNeg → fits (zaty t0) (.int (f (sp.toNatClampNeg + j))) = true) ∧ K (np, L, t, zst w q1 (.inl (t1, n1, .inl (va_cpy f g sp.toNatClampNeg dp.toNatClampNeg m.toNatClampNeg))), k, n))))
      (zif (Nat.ble b S.length && zrm (S.drop b)) (zcall C a (S.take b).reverse (S.drop b) w k n mc ms np L K))))
  | .invokevirtual _ => zif (Nat.ble b S.length) (z1r (S.drop b) fun q t => zob w q (zmc tab a) fun _ => zif (zrm t) (zcall C a (.ref q :: (S.take b).reverse) t w k n mc ms np L K))
  | .invokespecial _ => zor (Nat.beq b 99) (z1r S fun _ t => zif (Nat.ble 1 d && zrm t) (K (np, L, t, w, k, n)))
      (zif (Nat.ble b S.length) (z1r (S.drop b) fun q t => zif (zrm t) (zcall C a (.ref q :: (S.take b).reverse) t w k n mc ms np L K)))
  | .ireturn => zin1 S fun v => z1i [v] fun _ _ => zfin E k n mc ms ∧ zret M.2.2.2.1 v ∧ Q (some v) w
  | .lreturn => zin1 S fun v => z1l [v] fun _ _ => zfin E k n mc ms ∧ zret M.2.2.2.1 v ∧ Q (some v) w
  | .areturn => zin1 S fun v => zrn2 v (fun _ => zfin E k n mc ms ∧ zret M.2.2.2.1 v ∧ Q (some v) w) (zfin E k n mc ms ∧ zret M.2.2.2.1 v ∧ Q (some v) w)
  | .return_ => znil S (zfin E k n mc ms ∧ M.2.2.2.1 = none ∧ Q none w)
  | _ => False
def zstep (C : zCT) (d : Nat) (M : zM) (E : zX) (tab : List zM) (mc ms : Nat) (Q : zQ) (x : zS) (K : zS → Prop) : Prop :=
  match zat M.2.2.2.2.2 x.1 with
  | none => False
  | some e => zins C d M E tab mc ms Q x.1 x.2.1 x.2.2.1 x.2.2.2.1 x.2.2.2.2.1 x.2.2.2.2.2 e.1 e.2.1 e.2.2.1 e.2.2.2 K
def zwp (C : zCT) (d : Nat) (M : zM) (E : zX) (tab : List zM) (mc ms : Nat) (Q : zQ) (x : zS) : Prop :=
  ∀ R : zS → Prop, (∀ y, (∃ P : zS → Prop, (∀ u, P u → R u) ∧ zstep C d M E tab mc ms Q y P) → R y) → R x
/-- the locals at the entry -/
def zent : Nat → List Value → zL
  | 0, _ => []
  | n + 1, [] => none :: zent n []
  | n + 1, v :: t => match zc2 (some v) with
    | false => some v :: zent n t
    | true => match n with
      | 0 => [some v]
      | j + 1 => some v :: none :: zent j t
def zCl (tab : List zM) : Nat → zCT
  | 0 => fun _ _ _ _ _ _ => False
  | d + 1 => fun a As w mc ms Q => match zix tab a with
    | none => False
    | some M => (lg_sl As).length ≤ M.2.2.1 ∧ zwp (zCl tab d) d M none tab mc ms Q (0, zent M.2.2.1 As, [], w, 0, 0)
theorem zR {C : zCT} {d : Nat} {M : zM} {E : zX} {tab : List zM} {mc ms : Nat} {Q : zQ} {R : zS → Prop} (h : ∀ y, (∃ P : zS → Prop, (∀ u, P u → R u) ∧ zstep C d M E tab mc ms Q y P) → R y) : ∀ y, zstep C d M E tab mc ms Q y R → R y :=
  fun y hy => h y ⟨R, fun _ q => q, hy⟩
end
section
/-! WHAT THE PURE MACHINE'S ROWS ASK OF THE TABLES, and how its worlds stand in a heap. -/
def zNF : List (String × Nat × String × String × String) := [("ReadAloud", 326, "ReadAloud$Told", "tape", "[B"), ("ReadAloud", 54, "ReadAloud$Told", "length", "I"), ("ReadAloud", 62, "ReadAloud$Told", "fault", "I"), ("ReadAloud", 65, "ReadAloud$Told", "place", "I"), ("ReadAloud", 68, "ReadAloud$Told", "counts", "[I"), ("ReadAloud", 334, "ReadAloud$Told", "books", "[LReadAloud$Book;"), ("ReadAloud", 339, "ReadAloud$Told", "years", "[LReadAloud$Year;"), ("ReadAloud", 344, "ReadAloud$Told", "sights", "[LReadAloud$Sight;"), ("ReadAloud$Year", 55, "ReadAloud$Teller", "value", "I"), ("ReadAloud$Sight", 38, "ReadAloud$Teller", "value", "I"), ("ReadAloud$Book", 71, "ReadAloud$Teller", "value", "I"), ("ReadAloud", 76, "ReadAloud$Teller", "fault", "I"), ("ReadAloud", 77, "ReadAloud$Teller", "place", "I"), ("ReadAloud$Course", 35, "ReadAloud$Book", "number", "I"), ("ReadAloud$Levels", 70, "ReadAloud$Book", "number", "I"), ("ReadAloud$Walk", 44, "ReadAloud$Book", "readers", "I"), ("ReadAloud$Readings", 32, "ReadAloud$Book", "readers", "I"), ("ReadAloud$Levels", 87, "ReadAloud$Book", "readers", "I"), ("ReadAloud$Course", 86, "ReadAloud$Book", "readers", "I"), ("ReadAloud$Rings", 99, "ReadAloud$Book", "readers", "I"), ("ReadAloud", 300, "ReadAloud$Book", "readers", "I"), ("ReadAloud$Course", 46, "ReadAloud$Year", "deeds", "I"), ("ReadAloud", 125, "ReadAloud$Year", "deeds", "I"), ("ReadAloud$Course", 51, "ReadAloud$Year", "kinds", "[I"), ("ReadAloud$Course", 54, "ReadAloud$Year", "ones", "[I"), ("ReadAloud$Course", 57, "ReadAloud$Year", "others", "[I"), ("ReadAloud$Levels", 53, "ReadAloud$Sight", "facts", "I"), ("ReadAloud$Levels", 58, "ReadAloud$Sight", "behind", "[I"), ("ReadAloud$Levels", 61, "ReadAloud$Sight", "numbers", "[I"), ("ReadAloud$Walk", 38, "ReadAloud$Readings", "book", "LReadAloud$Book;"), ("ReadAloud$Levels", 64, "ReadAloud$Readings", "book", "LReadAloud$Book;"), ("ReadAloud$Rings", 95, "ReadAloud$Readings", "book", "LReadAloud$Book;"), ("ReadAloud", 165, "ReadAloud$Readings", "book", "LReadAloud$Book;"), ("ReadAloud", 162, "ReadAloud$Walk", "size", "I"), ("ReadAloud", 149, "ReadAloud$Walk", "needed", "[I"), ("ReadAloud", 188, "ReadAloud$Rings", "answers", "[I"), ("ReadAloud", 312, "ReadAloud$Rings", "circles", "I"), ("ReadAloud", 315, "ReadAloud$Rings", "largest", "I"), ("ReadAloud", 318, "ReadAloud$Rings", "sizeOf", "[I")]
def zNM : List (String × Nat × MethodName) := [("ReadAloud", 9, ⟨"ReadAloud$Told", "<init>", "()V"⟩), ("ReadAloud", 22, ⟨"ReadAloud$Teller", "<init>", "()V"⟩), ("ReadAloud", 29, ⟨"ReadAloud$Course", "<init>", "()V"⟩), ("ReadAloud", 58, ⟨"ReadAloud$Told", "putBytes", "(I)V"⟩), ("ReadAloud", 325, ⟨"ReadAloud$Book", "<init>", "()V"⟩), ("ReadAloud$Book", 3, ⟨"ReadAloud$Lines", "<init>", "()V"⟩), ("ReadAloud", 330, ⟨"ReadAloud$Teller", "tell", "([BILReadAloud$Lines;)Z"⟩), ("ReadAloud$Book", 36, ⟨"ReadAloud$Teller", "isAtHand", "(Ljava/lang/String;)Z"⟩), ("ReadAloud$Sight", 24, ⟨"ReadAloud$Teller", "isAtHand", "(Ljava/lang/String;)Z"⟩), ("ReadAloud$Year", 27, ⟨"ReadAloud$Teller", "isAtHand", "(Ljava/lang/String;)Z"⟩), ("ReadAloud$Book", 59, ⟨"ReadAloud$Teller", "faultHere", "(I)V"⟩), ("ReadAloud$Sight", 30, ⟨"ReadAloud$Teller", "faultHere", "(I)V"⟩), ("ReadAloud$Year", 47, ⟨"ReadAloud$Teller", "faultHere", "(I)V"⟩), ("ReadAloud$Book", 67, ⟨"ReadAloud$Teller", "isWithin", "(II)Z"⟩), ("ReadAloud$Book", 78, ⟨"ReadAloud", "longer", "(II)I"⟩), ("ReadAloud$Book", 82, ⟨"ReadAloud", "isWord", "(I)Z"⟩), ("ReadAloud$Sight", 34, ⟨"ReadAloud$Teller", "isWithin", "(II)Z"⟩), ("ReadAloud$Sight", 41, ⟨"ReadAloud", "longer", "(II)I"⟩), ("ReadAloud$Year", 51, ⟨"ReadAloud$Teller", "isWithin", "(II)Z"⟩), ("ReadAloud", 338, ⟨"ReadAloud$Year", "<init>", "()V"⟩), ("ReadAloud$Year", 3, ⟨"ReadAloud$Lines", "<init>", "()V"⟩), ("ReadAloud", 343, ⟨"ReadAloud$Sight", "<init>", "()V"⟩), ("ReadAloud$Sight", 3, ⟨"ReadAloud$Lines", "<init>", "()V"⟩), ("ReadAloud", 88, ⟨"ReadAloud$Book", "tells", "(I)I"⟩), ("ReadAloud", 107, ⟨"ReadAloud$Book", "hasReader", "(I)Z"⟩), ("ReadAloud", 110, ⟨"ReadAloud$Book", "readBy", "(II)I"⟩), ("ReadAloud$Book", 92, ⟨"ReadAloud", "bitsOf", "(I)I"⟩), ("ReadAloud$Book", 102, ⟨"ReadAloud", "lengthOfBits", "(I)I"⟩), ("ReadAloud$Book", 99, ⟨"ReadAloud", "numberOfBits", "(I)I"⟩), ("ReadAloud", 117, ⟨"ReadAloud$Year", "tells", "(II)I"⟩), ("ReadAloud", 121, ⟨"ReadAloud$Course", "begin", "(LReadAloud$Book;)V"⟩), ("ReadAloud", 128, ⟨"ReadAloud$Course", "doFirst", "(LReadAloud$Year;I)I"⟩), ("ReadAloud$Course", 74, ⟨"ReadAloud$Book", "hasReader", "(I)Z"⟩), ("ReadAloud$Course", 71, ⟨"ReadAloud", "isIn", "(II)Z"⟩), ("ReadAloud$Course", 78, ⟨"ReadAloud$Book", "readBy", "(II)I"⟩), ("ReadAloud", 132, ⟨"ReadAloud$Course", "tells", "(I)I"⟩), ("ReadAloud$Course", 100, ⟨"ReadAloud", "driftOf", "(II)I"⟩), ("ReadAloud", 348, ⟨"ReadAloud$Readings", "<init>", "()V"⟩), ("ReadAloud", 349, ⟨"ReadAloud$Readings", "takeUp", "(LReadAloud$Book;)V"⟩), ("ReadAloud", 352, ⟨"ReadAloud$Walk", "<init>", "()V"⟩), ("ReadAloud", 141, ⟨"ReadAloud$Readings", "all", "()I"⟩), ("ReadAloud", 145, ⟨"ReadAloud$Walk", "go", "(LReadAloud$Readings;III)V"⟩), ("ReadAloud$Walk", 49, ⟨"ReadAloud", "isIn", "(II)Z"⟩), ("ReadAloud$Walk", 53, ⟨"ReadAloud$Readings", "after", "(II)I"⟩), ("ReadAloud$Readings", 38, ⟨"ReadAloud$Book", "readBy", "(II)I"⟩), ("ReadAloud", 152, ⟨"ReadAloud$Walk", "readerOnWay", "(II)I"⟩), ("ReadAloud", 155, ⟨"ReadAloud$Walk", "wayBack", "(LReadAloud$Readings;I)I"⟩), ("ReadAloud", 159, ⟨"ReadAloud$Walk", "farthest", "()I"⟩), ("ReadAloud", 169, ⟨"ReadAloud$Book", "hasReaders", "(I)Z"⟩), ("ReadAloud", 172, ⟨"ReadAloud$Readings", "unchangedBy", "(I)I"⟩), ("ReadAloud$Readings", 42, ⟨"ReadAloud", "isIn", "(II)Z"⟩), ("ReadAloud", 175, ⟨"ReadAloud$Readings", "alikeEitherWay", "(II)I"⟩), ("ReadAloud", 354, ⟨"ReadAloud$Rings", "<init>", "()V"⟩), ("ReadAloud", 184, ⟨"ReadAloud$Rings", "findOrbits", "(LReadAloud$Readings;I)V"⟩), ("ReadAloud$Rings", 64, ⟨"ReadAloud$Readings", "after", "(II)I"⟩), ("ReadAloud", 353, ⟨"ReadAloud$Levels", "<init>", "()V"⟩), ("ReadAloud", 198, ⟨"ReadAloud$Levels", "wantNothing", "()V"⟩), ("ReadAloud", 203, ⟨"ReadAloud$Levels", "spread", "(LReadAloud$Readings;III)V"⟩), ("ReadAloud$Levels", 93, ⟨"ReadAloud", "isIn", "(II)Z"⟩), ("ReadAloud$Levels", 96, ⟨"ReadAloud$Readings", "after", "(II)I"⟩), ("ReadAloud", 206, ⟨"ReadAloud$Levels", "endByDrift", "()V"⟩), ("ReadAloud$Levels", 100, ⟨"ReadAloud", "driftOf", "(II)I"⟩), ("ReadAloud", 209, ⟨"ReadAloud$Levels", "bestEnd", "(Z)I"⟩), ("ReadAloud", 213, ⟨"ReadAloud$Levels", "foldBack", "(II)V"⟩), ("ReadAloud", 217, ⟨"ReadAloud$Levels", "chosenAt", "(I)I"⟩), ("ReadAloud", 222, ⟨"ReadAloud$Levels", "sumOfEnds", "()J"⟩), ("ReadAloud", 226, ⟨"ReadAloud$Levels", "rows", "()I"⟩), ("ReadAloud", 233, ⟨"ReadAloud$Readings", "goBack", "(II)V"⟩), ("ReadAloud", 236, ⟨"ReadAloud$Readings", "leastMarked", "()I"⟩), ("ReadAloud", 239, ⟨"ReadAloud$Readings", "marked", "()I"⟩), ("ReadAloud", 245, ⟨"ReadAloud$Levels", "endByWord", "(I)V"⟩), ("ReadAloud$Levels", 103, ⟨"ReadAloud", "timesOf", "(II)I"⟩), ("ReadAloud", 248, ⟨"ReadAloud$Levels", "bestStart", "()I"⟩), ("ReadAloud", 255, ⟨"ReadAloud$Sight", "tells", "(II)I"⟩), ("ReadAloud", 258, ⟨"ReadAloud$Levels", "want", "(LReadAloud$Sight;)V"⟩), ("ReadAloud", 262, ⟨"ReadAloud$Levels", "rowsTo", "(I)I"⟩), ("ReadAloud", 265, ⟨"ReadAloud$Levels", "endByOne", "()V"⟩), ("ReadAloud", 268, ⟨"ReadAloud$Levels", "look", "()I"⟩), ("ReadAloud", 271, ⟨"ReadAloud$Levels", "onlyReaderAt", "(I)I"⟩), ("ReadAloud", 274, ⟨"ReadAloud$Course", "draw", "(II)V"⟩), ("ReadAloud", 277, ⟨"ReadAloud$Book", "kinRing", "(I)I"⟩), ("ReadAloud", 280, ⟨"ReadAloud$Book", "kinUntilRing", "(I)I"⟩), ("ReadAloud", 286, ⟨"ReadAloud$Walk", "meeting", "(LReadAloud$Walk;)I"⟩), ("ReadAloud", 290, ⟨"ReadAloud$Walk", "nearestTo", "(I)I"⟩), ("ReadAloud$Walk", 57, ⟨"ReadAloud", "driftOf", "(II)I"⟩), ("ReadAloud", 293, ⟨"ReadAloud$Walk", "firstSettled", "(LReadAloud$Readings;)I"⟩), ("ReadAloud$Walk", 60, ⟨"ReadAloud$Readings", "all", "()I"⟩), ("ReadAloud$Walk", 64, ⟨"ReadAloud$Readings", "isChanged", "(II)Z"⟩), ("ReadAloud", 297, ⟨"ReadAloud$Readings", "markUnmade", "()V"⟩), ("ReadAloud", 308, ⟨"ReadAloud$Rings", "findCircles", "(LReadAloud$Readings;)V"⟩), ("ReadAloud", 321, ⟨"ReadAloud$Told", "becomes", "(LReadAloud$Told;)V"⟩)]
def zAO : List String := ["ReadAloud$Book", "ReadAloud$Year", "ReadAloud$Sight", "ReadAloud$Told", "ReadAloud$Readings", "ReadAloud$Walk"]
/-- the words of private members of nest mates, and of arrays of objects: they hold along the run -/
def zN (U : State) : Prop := (∀ t ∈ zNF, va_Nw (.fieldLinkNest t.1 t.2.1 t.2.2.1 t.2.2.2.1 t.2.2.2.2 "ReadAloud") U) ∧ (∀ t ∈ zNM, va_Nw (.methodLinkNest t.1 t.2.1 t.2.2 "ReadAloud") U) ∧ ∀ C ∈ zAO, va_AO C U
theorem zN.warm {s U : State} (hW : s.WarmedH U.vm) (h : zN s) : zN U :=
  ⟨fun t ht => (h.1 t ht).warmF hW, fun t ht => (h.2.1 t ht).warmM hW, fun C hC => (h.2.2 C hC).moved hW.alike⟩
theorem zN.same {s U : State} (hv : s.vm = U.vm) (h : zN s) : zN U :=
  ⟨fun t ht => (h.1 t ht).same rfl hv, fun t ht => (h.2.1 t ht).same rfl hv, fun C hC => (h.2.2 C hC).moved (hv ▸ Vm.Alike.refl s.vm)⟩
def zlen (i : Instr) : Nat := match i with
  | .bipush _ => 2
  | .ldc _ => 2
  | .iload _ => 2
  | .lload _ => 2
  | .aload _ => 2
  | .istore _ => 2
  | .lstore _ => 2
  | .astore _ => 2
  | .newarray _ => 2
  | .sipush _ => 3
  | .ldc2_w _ => 3
  | .iinc _ _ => 3
  | .if_icmp _ _ => 3
  | .ifCond _ _ => 3
  | .goto _ => 3
  | .ifnull _ => 3
  | .ifnonnull _ => 3
  | .getfield _ => 3
  | .putfield _ => 3
  | .new _ => 3
  | .anewarray _ => 3
  | .invokestatic _ => 3
  | .invokevirtual _ => 3
  | .invokespecial _ => 3
  | .tableswitch _ _ _ _ => 0
  | .lookupswitch _ _ => 0
  | _ => 1
def zoff (i : Instr) : Option Int := match i with
  | .if_icmp _ o => some o
  | .ifCond _ o => some o
  | .goto o => some o
  | .ifnull o => some o
  | .ifnonnull o => some o
  | _ => none
def zslot (n : Nat) (i : Instr) : Bool := match i with
  | .istore_n j => Nat.blt j.val n
  | .istore j => Nat.blt j n
  | .astore_n j => Nat.blt j.val n
  | .astore j => Nat.blt j n
  | .iinc j _ => Nat.blt j n
  | .lstore_n j => Nat.blt (j.val + 1) n
  | .lstore j => Nat.blt (j + 1) n
  | _ => true
def zsw (pc : Nat) (i : Instr) : Bool := match i with
  | .tableswitch df _ _ offs => decide (0 ≤ (pc : Int) + df) && offs.toList.all fun o => decide (0 ≤ (pc : Int) + o)
  | .lookupswitch df ps => decide (0 ≤ (pc : Int) + df) && (ps.toList.all fun o => decide (0 ≤ (pc : Int) + o.2)) && (ps.toList.zip (ps.toList.drop 1)).all fun (a, next) => a.1 < next.1
  | _ => true
def zmat (tab : List zM) (a : Nat) : zM := match zix tab a with
  | some M => M
  | none => (⟨"", "", ""⟩, ⟨#[]⟩, 0, none, 99, [])
def zhas (tab : List zM) (a : Nat) : Bool := match zix tab a with
  | some _ => true
  | none => false
def zpub (own : String) (y : MethodName) : Bool := decide (own = y.cls) || decide (own = "ReadAloudLaw")
def zcode (M : zM) : Cond := .code M.1 M.2.1 M.2.2.1 M.2.2.2.1
def zlw (own : String) (ix : Nat) (y : MethodName) : List Cond := match zpub own y with
  | true => [.methodLink own ix y]
  | false => []
/-- the good words that a row asks for -/
def zrq (tab : List zM) (own : String) (e : zE) : List Cond := match e.2.1 with
  | .ldc ix => [.constant own ix (Int32.ofNat e.2.2.2.1)]
  | .ldc2_w ix => [.constantLong own ix (Int64.ofNat e.2.2.2.1)]
  | .getfield ix => if own = (zcf e.2.2.2.1 e.2.2.2.2).1 then [.fieldLink own ix (zcf e.2.2.2.1 e.2.2.2.2).1 (zcf e.2.2.2.1 e.2.2.2.2).2.1 (zcf e.2.2.2.1 e.2.2.2.2).2.2.1] else []
  | .putfield ix => if own = (zcf e.2.2.2.1 e.2.2.2.2).1 then [.fieldLink own ix (zcf e.2.2.2.1 e.2.2.2.2).1 (zcf e.2.2.2.1 e.2.2.2.2).2.1 (zcf e.2.2.2.1 e.2.2.2.2).2.2.1] else []
  | .new ix => [.classLink own ix (zcn e.2.2.2.1), .instantiable (zcn e.2.2.2.1) (zcN e.2.2.2.1), .initialized (zcn e.2.2.2.1)]
  | .newarray t => [.arrayClass (newarray.typeOf t)]
  | .anewarray ix => [.classLink own ix (zcn (zec e.2.2.2.1))]
  | .invokestatic ix => match Nat.beq e.2.2.2.2 100 with
    | true => [.methodLink own ix Lib.Math.max.name, .static Lib.Math.max.name, .initialized "java/lang/Math", .code Lib.Math.max.name Lib.Math.max.code 2 (some .int)]
    | false => match Nat.beq e.2.2.2.2 101 with
      | true => [.methodLink own ix Lib.Math.min.name, .static Lib.Math.min.name, .initialized "java/lang/Math", .code Lib.Math.min.name Lib.Math.min.code 2 (some .int)]
      | false => match Nat.beq e.2.2.2.2 102 with
        | true => [.methodLink own ix arraycopyName, .native arraycopyName, .static arraycopyName, .initialized "java/lang/System"]
        | false => [zcode (zmat tab e.2.2.2.1), .static (zmat tab e.2.2.2.1).1, .initialized (zmat tab e.2.2.2.1).1.cls] ++ zlw own ix (zmat tab e.2.2.2.1).1
  | .invokevirtual ix => [zcode (zmat tab e.2.2.2.1), .instanceMethod (zmat tab e.2.2.2.1).1, .selects (zmat tab e.2.2.2.1).1.cls (zmat tab e.2.2.2.1).1 (zmat tab e.2.2.2.1).1, .initialized (zmat tab e.2.2.2.1).1.cls] ++ zlw own ix (zmat tab e.2.2.2.1).1
  | .invokespecial ix => match Nat.beq e.2.2.2.2 99 with
    | true => [.methodLink own ix objectInit, .instanceMethod objectInit, .code objectInit ⟨#[0xb1]⟩ 1 none]
    | false => [zcode (zmat tab e.2.2.2.1), .instanceMethod (zmat tab e.2.2.2.1).1, .initialized (zmat tab e.2.2.2.1).1.cls] ++ zlw own ix (zmat tab e.2.2.2.1).1
  | _ => []
def zcallok (tab : List zM) (own : String) (ix : Nat) (a b : Nat) : Bool := zhas tab a && decide ((zmat tab a).1.cls ≠ "java/lang/invoke/MethodHandle") && decide ((zmat tab a).1.cls ≠ "java/lang/invoke/VarHandle") && decide ((parseMethodDescriptor (zmat tab a).1.desc).map (fun d => d.parameters.length) = some b) && (zpub own (zmat tab a).1 || decide ((own, ix, (zmat tab a).1) ∈ zNM))
def zlk (tab : List zM) (M : zM) (e : zE) : Bool := match e.2.1 with
  | .getfield ix => Nat.blt e.2.2.2.2 (zcN e.2.2.2.1) && (decide (M.1.cls = (zcf e.2.2.2.1 e.2.2.2.2).1) || decide ((M.1.cls, ix, (zcf e.2.2.2.1 e.2.2.2.2).1, (zcf e.2.2.2.1 e.2.2.2.2).2.1, (zcf e.2.2.2.1 e.2.2.2.2).2.2.1) ∈ zNF))
  | .putfield ix => Nat.blt e.2.2.2.2 (zcN e.2.2.2.1) && (decide (M.1.cls = (zcf e.2.2.2.1 e.2.2.2.2).1) || decide ((M.1.cls, ix, (zcf e.2.2.2.1 e.2.2.2.2).1, (zcf e.2.2.2.1 e.2.2.2.2).2.1, (zcf e.2.2.2.1 e.2.2.2.2).2.2.1) ∈ zNF)) && (decide ((zcf e.2.2.2.1 e.2.2.2.2).2.2.2 = false) || (decide (M.1.name = "<init>") && decide (M.1.cls = (zcf e.2.2.2.1 e.2.2.2.2).1)))
  | .new _ => Nat.ble e.2.2.2.1 11
  | .newarray t => Nat.ble e.2.2.2.1 2 && decide (zix zats e.2.2.2.1 = some (newarray.typeOf t)) && Nat.ble e.2.2.2.2 60000000
  | .anewarray _ => Nat.ble 3 e.2.2.2.1 && decide (zix zats e.2.2.2.1 = some (.object (zcn (zec e.2.2.2.1)))) && decide (zcn (zec e.2.2.2.1) ∈ zAO) && Nat.ble e.2.2.2.2 60000000
  | .invokestatic ix => Nat.beq e.2.2.2.2 100 || (Nat.beq e.2.2.2.2 101 || (Nat.beq e.2.2.2.2 102 || zcallok tab M.1.cls ix e.2.2.2.1 e.2.2.2.2))
  | .invokevirtual ix => zcallok tab M.1.cls ix e.2.2.2.1 e.2.2.2.2 && decide (zcn (zmat tab e.2.2.2.1).2.2.2.2.1 = (zmat tab e.2.2.2.1).1.cls) && Nat.ble (zmat tab e.2.2.2.1).2.2.2.2.1 11
  | .invokespecial ix => Nat.beq e.2.2.2.2 99 || (zcallok tab M.1.cls ix e.2.2.2.1 e.2.2.2.2 && decide ((zmat tab e.2.2.2.1).1.name = "<init>") && decide ((zmat tab e.2.2.2.1).2.2.2.1 = none))
  | _ => true
/-- a row is what the bytes say -/
def zde (M : zM) (e : zE) : Bool := decide (decode M.2.1 e.1 = .ok (e.2.1, e.2.2.1 - e.1)) && (Nat.beq (zlen e.2.1) 0 || Nat.beq e.2.2.1 (e.1 + zlen e.2.1))
def zrow (tab : List zM) (M : zM) (e : zE) : Bool := (match zoff e.2.1 with
    | some o => decide ((e.1 : Int) + o = (e.2.2.2.1 : Int))
    | none => true) && zslot M.2.2.1 e.2.1 && zsw e.1 e.2.1 && zlk tab M e
def zokM (tab : List zM) (M : zM) : Prop := M.2.2.2.2.2.all (zde M) = true ∧ M.2.2.2.2.2.all (zrow tab M) = true ∧ (Nat.ble M.2.2.1 16 && plainName M.1.cls) = true
def zuw : List Cond := zcls.flatMap fun q => u_ws q.1 q.2.1 q.2.2
def zt (tab : List zM) : List Cond := zuw ++ tab.flatMap fun M => M.2.2.2.2.2.flatMap (zrq tab M.1.cls)
def zws (tab : List zM) (M : zM) : List Cond := zcode M :: zt tab
theorem zt_uw {tab : List zM} {w : Cond} (h : w ∈ zuw) : w ∈ zt tab := List.mem_append_left _ h
theorem zt_rq {tab : List zM} {M : zM} {e : zE} (hM : M ∈ tab) (he : e ∈ M.2.2.2.2.2) {w : Cond} (h : w ∈ zrq tab M.1.cls e) : w ∈ zt tab :=
  List.mem_append_right _ (List.mem_flatMap.mpr ⟨M, hM, List.mem_flatMap.mpr ⟨e, he, h⟩⟩)
theorem zat_mem : ∀ {cd : List zE} {pc : Nat} {r : Instr × Nat × Nat × Nat}, zat cd pc = some r → (pc, r) ∈ cd
  | [], _, _, h => by cases h
  | e :: t, pc, r, h => by
    unfold zat at h
    split at h
    · next hb =>
      have h1 : e.1 = pc := Nat.eq_of_beq_eq_true hb
      cases h
      subst h1
      exact List.mem_cons_self
    · exact List.mem_cons_of_mem _ (zat_mem h)
/-! worlds in the heap -/
def zv (b sc : Nat) (v : Value) : Value := match v with
  | .ref q => .ref (b + q)
  | .retAddr _ => .ref sc
  | .int x => .int x
  | .long x => .long x
  | .float x => .float x
  | .double x => .double x
  | .null => .null
def zcc (b sc : Nat) (dA : Nat → Nat) (c : va_E) : va_E := match c with
  | .inl (ti, len, .inr (.inr (.inr (.inr g)))) => .inl (dA ti, len, .inr (.inr (.inr (.inr (fun j => (g j).map (b + ·))))))
  | .inl (ti, len, .inl g) => .inl (dA ti, len, .inl g)
  | .inl (ti, len, .inr (.inl g)) => .inl (dA ti, len, .inr (.inl g))
  | .inl (ti, len, .inr (.inr (.inl g))) => .inl (dA ti, len, .inr (.inr (.inl g)))
  | .inl (ti, len, .inr (.inr (.inr (.inl g)))) => .inl (dA ti, len, .inr (.inr (.inr (.inl g))))
  | .inr (ci, fs) => .inr (ci, fs.map (zv b sc))
def zco (b sc : Nat) (dA : Nat → Nat) : Nat → zW → va_W
  | _, [] => []
  | o, c :: t => (o, zcc b sc dA c) :: zco b sc dA (o + 1) t
theorem zco_get (b sc : Nat) (dA : Nat → Nat) : ∀ (w : zW) (o k : Nat), (zco b sc dA o w)[k]? = (w[k]?).map fun c => (o + k, zcc b sc dA c)
  | [], _, _ => by simp [zco]
  | c :: t, o, 0 => by simp [zco]
  | c :: t, o, k + 1 => by
    rw [zco, List.getElem?_cons_succ, List.getElem?_cons_succ, zco_get b sc dA t (o + 1) k, show o + 1 + k = o + (k + 1) by omega]
theorem zco_len (b sc : Nat) (dA : Nat → Nat) : ∀ (w : zW) (o : Nat), (zco b sc dA o w).length = w.length
  | [], _ => rfl
  | c :: t, o => by rw [zco, List.length_cons, List.length_cons, zco_len b sc dA t (o + 1)]
theorem zco_set (b sc : Nat) (dA : Nat → Nat) : ∀ (w : zW) (o k : Nat) (c : va_E), zco b sc dA o (w.set k c) = (zco b sc dA o w).set k (o + k, zcc b sc dA c)
  | [], _, _, _ => rfl
  | _ :: t, o, 0, c => rfl
  | x :: t, o, k + 1, c => by
    rw [List.set_cons_succ, zco, zco, List.set_cons_succ, zco_set b sc dA t (o + 1) k c, show o + 1 + k = o + (k + 1) by omega]
theorem zco_app (b sc : Nat) (dA : Nat → Nat) : ∀ (w : zW) (o : Nat) (c : va_E), zco b sc dA o (w ++ [c]) = zco b sc dA o w ++ [(o + w.length, zcc b sc dA c)]
  | [], o, c => rfl
  | x :: t, o, c => by
    rw [List.cons_append, zco, zco, List.cons_append, zco_app b sc dA t (o + 1) c, List.length_cons, show o + 1 + t.length = o + (t.length + 1) by omega]
theorem zco_at {b sc : Nat} {dA : Nat → Nat} {w : zW} {q : Nat} {c : va_E} (h : zix w q = some c) : (zco b sc dA b w)[q]? = some (b + q, zcc b sc dA c) := by
  rw [zco_get, ← zix_eq, h]; rfl
theorem zco_D (b sc : Nat) (dA : Nat → Nat) (w : zW) : va_D (fun q => b ≤ q) (zco b sc dA b w) := by
  have key : ∀ (k : Nat) (q : Nat × va_E), (zco b sc dA b w)[k]? = some q → q.1 = b + k := by
    intro k q h
    rw [zco_get] at h
    cases hw : w[k]? with
    | none => rw [hw] at h; cases h
    | some c => rw [hw] at h; cases h; rfl
  exact ⟨fun i j p q hi hj hpq => by have h1 := key i p hi; have h2 := key j q hj; omega, fun k q hk => by have h1 := key k q hk; show b ≤ q.1; omega⟩
def ztys (dA : Nat → Nat) : List (ClassId × FieldType) := [(dA 0, .byte), (dA 1, .int), (dA 2, .boolean), (dA 3, .object "ReadAloud$Book"), (dA 4, .object "ReadAloud$Year"), (dA 5, .object "ReadAloud$Sight"), (dA 6, .object "ReadAloud$Told"), (dA 7, .object "ReadAloud$Readings"), (dA 8, .object "ReadAloud$Walk")]
theorem ztys_at {dA : Nat → Nat} {a : Nat} {ty : FieldType} (h : zix zats a = some ty) : (ztys dA)[a]? = some (dA a, ty) := by
  match a, h with
  | 0, h => cases h; rfl
  | 1, h => cases h; rfl
  | 2, h => cases h; rfl
  | 3, h => cases h; rfl
  | 4, h => cases h; rfl
  | 5, h => cases h; rfl
  | 6, h => cases h; rfl
  | 7, h => cases h; rfl
  | 8, h => cases h; rfl
  | n + 9, h => cases n <;> cases h
theorem zcls_at {a : Nat} (h : 0 < zcN a ∨ a ≤ 11) : zcls[a]? = some (zcn a, zcf a, zcN a) := by
  match a, h with
  | 0, _ => rfl
  | 1, _ => rfl
  | 2, _ => rfl
  | 3, _ => rfl
  | 4, _ => rfl
  | 5, _ => rfl
  | 6, _ => rfl
  | 7, _ => rfl
  | 8, _ => rfl
  | 9, _ => rfl
  | 10, _ => rfl
  | 11, _ => rfl
  | n + 12, h =>
    have h0 : zcN (n + 12) = 0 := by cases n <;> rfl
    rw [h0] at h
    omega
theorem zcls_ty {a : Nat} (h : a ≤ 11) : (∀ k, k < zcN a → parseFieldDescriptor (zcf a k).2.2.1 = some (ztyf a k)) ∧ ∀ i, i < zcN a → ∀ j, j < zcN a → i ≠ j → (zcf a i).2.1 ≠ (zcf a j).2.1 := by
  match a, h with
  | 0, _ => exact ⟨tyX0_ok, nmX0⟩
  | 1, _ => exact ⟨tyX1_ok, nmX1⟩
  | 2, _ => exact ⟨tyX2_ok, nmX2⟩
  | 3, _ => exact ⟨tyX4_ok, nmX4⟩
  | 4, _ => exact ⟨tyX5_ok, nmX5⟩
  | 5, _ => exact ⟨tyX6_ok, nmX6⟩
  | 6, _ => exact ⟨tyX7_ok, nmX7⟩
  | 7, _ => exact ⟨tyX8_ok, nmX8⟩
  | 8, _ => exact ⟨tyX9_ok, nmX9⟩
  | 9, _ => exact ⟨tyX10_ok, nmX10⟩
  | 10, _ => exact ⟨tyX11_ok, nmX11⟩
  | 11, _ => exact ⟨tyX12_ok, nmX12⟩
  | n + 12, h => omega
theorem zcN_le {a : Nat} (h : 0 < zcN a) : a ≤ 11 := by
  rcases Nat.lt_or_ge a 12 with q | q
  · omega
  · have h0 : zcN a = 0 := by
      obtain ⟨n, rfl⟩ : ∃ n, a = n + 12 := ⟨a - 12, by omega⟩
      cases n <;> rfl
    omega
theorem zuw_at {a : Nat} (h : a ≤ 11) : ∀ w ∈ u_ws (zcn a) (zcf a) (zcN a), w ∈ zuw := fun w hw => List.mem_flatMap.mpr ⟨(zcn a, zcf a, zcN a), List.mem_of_getElem? (zcls_at (Or.inr h)), hw⟩
/-! the locals -/
def zpr (b sc : Nat) (L : zL) : List (Nat × Value) := (List.range L.length).filterMap fun j => (zget L j).map fun v => (j, zv b sc v)
theorem zget_lt : ∀ {L : zL} {j : Nat} {v : Value}, zget L j = some v → j < L.length
  | [], _, _, h => by cases h
  | _ :: _, 0, _, _ => Nat.zero_lt_succ _
  | _ :: t, j + 1, v, h => Nat.succ_lt_succ (zget_lt (L := t) h)
theorem zpr_mem {b sc : Nat} {L : zL} {q : Nat × Value} : q ∈ zpr b sc L ↔ ∃ v, zget L q.1 = some v ∧ q.2 = zv b sc v := by
  unfold zpr
  rw [List.mem_filterMap]
  constructor
  · rintro ⟨j, -, h⟩
    cases hz : zget L j with
    | none => rw [hz] at h; cases h
    | some v => rw [hz] at h; cases h; exact ⟨v, hz, rfl⟩
  · rintro ⟨v, h1, h2⟩
    exact ⟨q.1, List.mem_range.mpr (zget_lt h1), by rw [h1]; show some (q.1, zv b sc v) = some q; rw [← h2]⟩
theorem zpr_at {b sc nL : Nat} {L : zL} {ls : Array Slot} (h : lv_has ls nL (zpr b sc L)) {j : Nat} {v : Value} (hj : zget L j = some v) : ls[j]? = some (.val (zv b sc v)) := h.2.2 (j, zv b sc v) (zpr_mem.mpr ⟨v, hj, rfl⟩)
theorem zput_len : ∀ (L : zL) (i : Nat) (v : Option Value), (zput L i v).length = L.length
  | [], _, _ => rfl
  | _ :: _, 0, _ => rfl
  | _ :: t, i + 1, v => congrArg (· + 1) (zput_len t i v)
theorem zget_put_ne : ∀ (L : zL) (i j : Nat) (v : Option Value), j ≠ i → zget (zput L i v) j = zget L j
  | [], _, _, _, _ => rfl
  | _ :: _, 0, 0, _, h => absurd rfl h
  | _ :: _, 0, _ + 1, _, _ => rfl
  | _ :: _, _ + 1, 0, _, _ => rfl
  | _ :: t, i + 1, j + 1, v, h => zget_put_ne t i j v (fun q => h (q ▸ rfl))
theorem zget_put_self : ∀ (L : zL) (i : Nat) (v : Option Value) (u : Value), zget (zput L i v) i = some u → v = some u
  | [], _, _, _, h => by cases h
  | _ :: _, 0, _, _, h => h
  | _ :: t, i + 1, v, u, h => zget_put_self t i v u h
theorem zc2_cat {b sc : Nat} {v : Value} (h : zc2 (some v) = false) : ((zv b sc v).category == 2) = false := by
  cases v <;> first | rfl | cases h
theorem zfree_cat {b sc : Nat} {L : zL} {i j : Nat} {u : Value} (hf : zfree L i = true) (hj : zget L j = some u) : (j + 1 == i && (zv b sc u).category == 2) = false := by
  by_cases h : j + 1 = i
  · subst h
    have h1 : zc2 (zget L j) = false := by
      unfold zfree at hf
      simp only at hf
      split at hf
      · cases hf
      · assumption
    rw [hj] at h1
    rw [zc2_cat h1]
    simp
  · simp [h]
theorem zpr_store1 {b sc nL : Nat} {L : zL} {ls : Array Slot} {i : Nat} {v : Value} (hf : zfree L i = true) (h : lv_has ls nL ((i, zv b sc v) :: (zpr b sc L).filter (fun q => !(q.1 == i) && !(q.1 + 1 == i && q.2.category == 2)))) : lv_has ls nL (zpr b sc (zput L i (some v))) := by
  refine ⟨h.1, h.2.1, fun q hq => h.2.2 q ?_⟩
  obtain ⟨u, h1, h2⟩ := zpr_mem.mp hq
  by_cases hi : q.1 = i
  · rw [hi] at h1
    cases zget_put_self L i _ u h1
    refine List.mem_cons.mpr (Or.inl ?_)
    rw [← hi, ← h2]
  · rw [zget_put_ne L i q.1 _ hi] at h1
    refine List.mem_cons_of_mem _ (List.mem_filter.mpr ⟨zpr_mem.mpr ⟨u, h1, h2⟩, ?_⟩)
    rw [h2, zfree_cat hf h1]
    simp [hi]
theorem zpr_store2 {b sc nL : Nat} {L : zL} {ls : Array Slot} {i : Nat} {v : Value} (hf : zfree L i = true) (h : lv_has ls nL ((i, zv b sc v) :: (zpr b sc L).filter (fun q => !(q.1 == i) && (!(q.1 == i + 1) && !(q.1 + 1 == i && q.2.category == 2))))) : lv_has ls nL (zpr b sc (zput (zput L (i + 1) none) i (some v))) := by
  refine ⟨h.1, h.2.1, fun q hq => h.2.2 q ?_⟩
  obtain ⟨u, h1, h2⟩ := zpr_mem.mp hq
  by_cases hi : q.1 = i
  · rw [hi] at h1
    cases zget_put_self _ i _ u h1
    refine List.mem_cons.mpr (Or.inl ?_)
    rw [← hi, ← h2]
  · rw [zget_put_ne _ i q.1 _ hi] at h1
    by_cases hi2 : q.1 = i + 1
    · rw [hi2] at h1
      have := zget_put_self L (i + 1) none u h1
      cases this
    · rw [zget_put_ne L (i + 1) q.1 _ hi2] at h1
      refine List.mem_cons_of_mem _ (List.mem_filter.mpr ⟨zpr_mem.mpr ⟨u, h1, h2⟩, ?_⟩)
      rw [h2, zfree_cat hf h1]
      simp [hi, hi2]
theorem zent_mem (b sc : Nat) : ∀ (As : List Value) (n o j : Nat) (u : Value), zget (zent n As) j = some u → (o + j, zv b sc u) ∈ lv_args o (As.map (zv b sc))
  | [], n, o, j, u, h => by
    exfalso
    induction n generalizing j with
    | zero => cases h
    | succ n ih =>
      cases j with
      | zero => cases h
      | succ j => exact ih j h
  | v :: t, n, o, j, u, h => by
    cases n with
    | zero => cases h
    | succ n =>
      cases hc : zc2 (some v) with
      | false =>
        have hz : zent (n + 1) (v :: t) = some v :: zent n t := by rw [zent.eq_def]; simp only [hc]
        rw [hz] at h
        cases j with
        | zero => cases h; exact List.mem_cons_self
        | succ j =>
          have hd : ¬ (zv b sc v).category = 2 := by
            have := zc2_cat (b := b) (sc := sc) hc
            simpa using this
          rw [List.map_cons, lv_args, if_neg hd, show o + (j + 1) = o + 1 + j by omega]
          exact List.mem_cons_of_mem _ (zent_mem b sc t n (o + 1) j u h)
      | true =>
        have hd : (zv b sc v).category = 2 := by cases v <;> first | rfl | cases hc
        cases n with
        | zero =>
          have hz : zent (0 + 1) (v :: t) = [some v] := by rw [zent.eq_def]; simp only [hc]
          rw [hz] at h
          cases j with
          | zero => cases h; exact List.mem_cons_self
          | succ j => cases j <;> cases h
        | succ n =>
          have hz : zent (n + 1 + 1) (v :: t) = some v :: none :: zent n t := by rw [zent.eq_def]; simp only [hc]
          rw [hz] at h
          cases j with
          | zero => cases h; exact List.mem_cons_self
          | succ j =>
            cases j with
            | zero => cases h
            | succ j =>
              have h1 := zent_mem b sc t n (o + 2) j u h
              rw [List.map_cons, lv_args, if_pos hd, show o + (j + 1 + 1) = o + 2 + j by omega]
              exact List.mem_cons_of_mem _ h1
end
section
/-! THE PURE MACHINE IS SOUND, one instruction at a time. -/
theorem z1i_s {S : List Value} {f : Int32 → List Value → Prop} (h : z1i S f) : ∃ x t, S = .int x :: t ∧ f x t := by
  unfold z1i at h
  split at h
  · exact ⟨_, _, rfl, h⟩
  · exact h.elim
theorem z2i_s {S : List Value} {f : Int32 → Int32 → List Value → Prop} (h : z2i S f) : ∃ x y t, S = .int y :: .int x :: t ∧ f x y t := by
  unfold z2i at h
  split at h
  · exact ⟨_, _, _, rfl, h⟩
  · exact h.elim
theorem z1l_s {S : List Value} {f : Int64 → List Value → Prop} (h : z1l S f) : ∃ x t, S = .long x :: t ∧ f x t := by
  unfold z1l at h
  split at h
  · exact ⟨_, _, rfl, h⟩
  · exact h.elim
theorem z2l_s {S : List Value} {f : Int64 → Int64 → List Value → Prop} (h : z2l S f) : ∃ x y t, S = .long y :: .long x :: t ∧ f x y t := by
  unfold z2l at h
  split at h
  · exact ⟨_, _, _, rfl, h⟩
  · exact h.elim
theorem z1r_s {S : List Value} {f : Nat → List Value → Prop} (h : z1r S f) : ∃ q t, S = .ref q :: t ∧ f q t := by
  unfold z1r at h
  split at h
  · exact ⟨_, _, rfl, h⟩
  · exact h.elim
theorem z1v_s {S : List Value} {f : Value → List Value → Prop} (h : z1v S f) : ∃ v t, S = v :: t ∧ f v t := by
  unfold z1v at h
  split at h
  · exact ⟨_, _, rfl, h⟩
  · exact h.elim
theorem zvr2_s {S : List Value} {f : Value → Value → List Value → Prop} (h : zvr2 S f) : ∃ v u t, S = v :: u :: t ∧ f v u t := by
  unfold zvr2 at h
  split at h
  · exact ⟨_, _, _, rfl, h⟩
  · exact h.elim
theorem zvr_s {S : List Value} {f : Value → Nat → List Value → Prop} (h : zvr S f) : ∃ v q t, S = v :: .ref q :: t ∧ f v q t := by
  unfold zvr at h
  split at h
  · exact ⟨_, _, _, rfl, h⟩
  · exact h.elim
theorem zia_s {S : List Value} {f : Int32 → Nat → List Value → Prop} {g : Int32 → List Value → Prop} (h : zia S f g) : (∃ i q t, S = .int i :: .ref q :: t ∧ f i q t) ∨ ∃ i j t, S = .int i :: .retAddr j :: t ∧ g i t := by
  unfold zia at h
  split at h
  · exact Or.inl ⟨_, _, _, rfl, h⟩
  · exact Or.inr ⟨_, _, _, rfl, h⟩
  · exact h.elim
theorem zvia_s {S : List Value} {f : Value → Int32 → Nat → List Value → Prop} (h : zvia S f) : ∃ v i q t, S = v :: .int i :: .ref q :: t ∧ f v i q t := by
  unfold zvia at h
  split at h
  · exact ⟨_, _, _, _, rfl, h⟩
  · exact h.elim
theorem zasv_s {S : List Value} {f : Value → List Value → Prop} (h : zasv S f) : (∃ q t, S = .ref q :: t ∧ f (.ref q) t) ∨ ∃ t, S = .null :: t ∧ f .null t := by
  unfold zasv at h
  split at h
  · exact Or.inl ⟨_, _, rfl, h⟩
  · exact Or.inr ⟨_, rfl, h⟩
  · exact h.elim
theorem zrn_s {S : List Value} {f g : List Value → Prop} (h : zrn S f g) : (∃ q t, S = .ref q :: t ∧ f t) ∨ ∃ t, S = .null :: t ∧ g t := by
  unfold zrn at h
  split at h
  · exact Or.inl ⟨_, _, rfl, h⟩
  · exact Or.inr ⟨_, rfl, h⟩
  · exact h.elim
theorem zrn2_s {v : Value} {f : Nat → Prop} {g : Prop} (h : zrn2 v f g) : (∃ q, v = .ref q ∧ f q) ∨ (v = .null ∧ g) := by
  unfold zrn2 at h
  split at h
  · exact Or.inl ⟨_, rfl, h⟩
  · exact Or.inr ⟨rfl, h⟩
  · exact h.elim
theorem zif_s {b : Bool} {A : Prop} (h : zif b A) : b = true ∧ A := by
  cases b
  · exact h.elim
  · exact ⟨rfl, h⟩
theorem zor_s {b : Bool} {A B : Prop} (h : zor b A B) : (b = true ∧ A) ∨ (b = false ∧ B) := by
  cases b
  · exact Or.inr ⟨rfl, h⟩
  · exact Or.inl ⟨rfl, h⟩
theorem zli_s {L : zL} {j : Nat} {f : Int32 → Prop} (h : zli L j f) : ∃ x, zget L j = some (.int x) ∧ f x := by
  unfold zli at h
  split at h
  next hz => exact ⟨_, hz, h⟩
  · exact h.elim
theorem zll_s {L : zL} {j : Nat} {f : Int64 → Prop} (h : zll L j f) : ∃ x, zget L j = some (.long x) ∧ f x := by
  unfold zll at h
  split at h
  next hz => exact ⟨_, hz, h⟩
  · exact h.elim
theorem zla_s {L : zL} {j : Nat} {f : Value → Prop} (h : zla L j f) : ∃ v, zget L j = some v ∧ ((∃ q, v = .ref q) ∨ v = .null ∨ ∃ q, v = .retAddr q) ∧ f v := by
  unfold zla at h
  split at h
  next hz => exact ⟨_, hz, Or.inl ⟨_, rfl⟩, h⟩
  next hz => exact ⟨_, hz, Or.inr (Or.inl rfl), h⟩
  next hz => exact ⟨_, hz, Or.inr (Or.inr ⟨_, rfl⟩), h⟩
  · exact h.elim
theorem zob_s {w : zW} {q ci : Nat} {f : List Value → Prop} (h : zob w q ci f) : ∃ fs, zix w q = some (.inr (ci, fs)) ∧ f fs := by
  unfold zob at h
  split at h
  next hz =>
    obtain ⟨h1, h2⟩ := zif_s h
    have := Nat.eq_of_beq_eq_true h1
    subst this
    exact ⟨_, hz, h2⟩
  · exact h.elim
theorem zai_s {w : zW} {q : Nat} {f : Nat → Nat → (Nat → Int32) → Prop} (h : zai w q f) : ∃ ti len g, zix w q = some (.inl (ti, len, .inl g)) ∧ f ti len g := by
  unfold zai at h
  split at h
  next hz => exact ⟨_, _, _, hz, h⟩
  · exact h.elim
theorem zaq_s {w : zW} {q : Nat} {f : Nat → Nat → (Nat → Option Nat) → Prop} (h : zaq w q f) : ∃ ti len g, zix w q = some (.inl (ti, len, .inr (.inr (.inr (.inr g))))) ∧ f ti len g := by
  unfold zaq at h
  split at h
  next hz => exact ⟨_, _, _, hz, h⟩
  · exact h.elim
theorem zfld_s {fs : List Value} {b : Nat} {f : Value → Prop} (h : zfld fs b f) : ∃ v, zix fs b = some v ∧ f v := by
  unfold zfld at h
  split at h
  next hz => exact ⟨_, hz, h⟩
  · exact h.elim
theorem zext_s {E : zX} {f : Nat → (Nat → Int32) → Prop} (h : zext E f) : ∃ q, E = some q ∧ f q.1 q.2 := by
  unfold zext at h
  split at h
  · exact ⟨_, rfl, h⟩
  · exact h.elim
theorem zlen1_s {S : List Value} {f : List Value → Prop} (h : zlen1 S f) : ∃ j t, S = .retAddr j :: t ∧ f t := by
  unfold zlen1 at h
  split at h
  · exact ⟨_, _, rfl, h⟩
  · exact h.elim
theorem zcpy_s {S : List Value} {f : Nat → Int32 → Nat → Int32 → Int32 → List Value → Prop} (h : zcpy S f) : ∃ q0 sp q1 dp m t, S = .int m :: .int dp :: .ref q1 :: .int sp :: .ref q0 :: t ∧ f q0 sp q1 dp m t := by
  unfold zcpy at h
  split at h
  · exact ⟨_, _, _, _, _, _, rfl, h⟩
  · exact h.elim
theorem zin1_s {S : List Value} {f : Value → Prop} (h : zin1 S f) : ∃ v, S = [v] ∧ f v := by
  unfold zin1 at h
  split at h
  · exact ⟨_, rfl, h⟩
  · exact h.elim
theorem znil_s {S : List Value} {A : Prop} (h : znil S A) : S = [] ∧ A := by
  unfold znil at h
  split at h
  · exact ⟨rfl, h⟩
  · exact h.elim
theorem zv_cat (b sc : Nat) (v : Value) : (zv b sc v).category = v.category := by cases v <;> rfl
theorem zrm_s {b sc : Nat} {S : List Value} (h : zrm S = true) : ((S.map (zv b sc)).map fun v => v.category).sum ≤ 8 := by
  rw [List.map_map, show ((fun v : Value => v.category) ∘ zv b sc) = fun v => v.category from funext (zv_cat b sc)]
  exact Nat.le_of_ble_eq_true h
theorem zv_rf (b sc : Nat) (o : Option Nat) : va_rf (o.map (b + ·)) = zv b sc (va_rf o) := by cases o <;> rfl
theorem zv_dv (b sc : Nat) (ty : FieldType) : zv b sc (defaultValue ty) = defaultValue ty := by cases ty <;> rfl
theorem zdl_get : ∀ (n i j : Nat) (f : Nat → FieldType), j < n → (zdl n i f)[j]? = some (defaultValue (f (i + j)))
  | 0, _, _, _, h => absurd h (Nat.not_lt_zero _)
  | n + 1, i, 0, f, _ => rfl
  | n + 1, i, j + 1, f, h => by
    rw [zdl, List.getElem?_cons_succ, zdl_get n (i + 1) j f (by omega), show i + 1 + j = i + (j + 1) by omega]
theorem zfit_s {b sc : Nat} {ty : FieldType} {v : Value} (h : zfit ty v = true) : narrow ty (zv b sc v) = zv b sc v ∧ fits ty (zv b sc v) = true := by
  cases ty <;> cases v <;> first | exact ⟨rfl, rfl⟩ | cases h
theorem zde_s {M : zM} {pc np a b : Nat} {i : Instr} (h : zde M (pc, i, np, a, b) = true) (hz : ¬ zlen i = 0) : np = pc + zlen i ∧ decode M.2.1 pc = .ok (i, zlen i) := by
  unfold zde at h
  simp only [Bool.and_eq_true, Bool.or_eq_true, decide_eq_true_eq] at h
  obtain ⟨h1, h2⟩ := h
  have h3 : np = pc + zlen i := by
    rcases h2 with q | q
    · exact absurd (Nat.eq_of_beq_eq_true q) hz
    · exact Nat.eq_of_beq_eq_true q
  rw [h3, Nat.add_sub_cancel_left] at h1
  exact ⟨h3, h1⟩
theorem zrow_s {tab : List zM} {M : zM} {e : zE} (h : zrow tab M e = true) : (∀ o, zoff e.2.1 = some o → (e.1 : Int) + o = (e.2.2.2.1 : Int)) ∧ zslot M.2.2.1 e.2.1 = true ∧ zsw e.1 e.2.1 = true ∧ zlk tab M e = true := by
  unfold zrow at h
  simp only [Bool.and_eq_true] at h
  obtain ⟨⟨⟨h1, h2⟩, h3⟩, h4⟩ := h
  refine ⟨fun o ho => ?_, h2, h3, h4⟩
  rw [ho] at h1
  simpa using h1
def zroom (d mc ms : Nat) : Room := { frames := d, cells := mc, slots := ms, locals := 35 * d }
def zQc (b sc : Nat) (D : va_G) (dA : Nat → Nat) (z mc : Nat) (Q : zQ) : Array Value → State → Outcome → State → Prop := fun _ st oc t => (∃ (r : Option Value) (w : zW), Q r w ∧ w.length = z + mc ∧ oc = .returned (r.map (zv b sc)) ∧ va_P D zcls (zco b sc dA b w) t.heap) ∧ va_F (fun q => b ≤ q) st t
def zPc (b sc : Nat) (D : va_G) (dA : Nat → Nat) (As : List Value) (w : zW) : Array Value → State → Prop := va_Pc (As.map (zv b sc)) (fun U => U.heap.size = b + w.length ∧ va_P D zcls (zco b sc dA b w) U.heap ∧ va_K D zcls (ztys dA) U ∧ zN U)
def zSnd (tab : List zM) (l : Launch) (d : Nat) : Prop := ∀ (a : Nat) (As : List Value) (w : zW) (mc ms : Nat) (Q : zQ) (M : zM), zix tab a = some M → zCl tab d a As w mc ms Q → 1 ≤ d ∧ ∀ (b sc : Nat) (D : va_G) (dA : Nat → Nat), Met l M.1 (zws tab M) (zroom (d - 1) mc ms) (zPc b sc D dA As w) (zQc b sc D dA w.length mc Q) mc ms (fun q => b ≤ q)
def zrti (i : Instr) (r : Option FieldType) (v : Option Value) : Prop := match i with
  | .ireturn => ∃ x, v = some (.int x) ∧ zret r (.int x)
  | .lreturn => ∃ x, v = some (.long x) ∧ zret r (.long x)
  | .areturn => ((v = some .null ∧ zret r .null) ∨ ∃ q, v = some (.ref q) ∧ zret r (.ref q))
  | .return_ => v = none ∧ r = none
  | _ => False
theorem zPc_blind {b sc : Nat} {D : va_G} {dA : Nat → Nat} {As : List Value} {w : zW} : FrameBlind (zPc b sc D dA As w) := by
  intro a U g mk q
  obtain ⟨q0, q1, qP, qK, qN⟩ := q
  exact ⟨q0, q1, qP, va_K.moved (u := U) (U := U.calling g mk a) (Vm.Alike.refl U.vm) qK, zN.same (s := U) (U := U.calling g mk a) rfl qN⟩
section ZS
variable {p : Program} {l : Launch} {e : Env} {R : Room} {s : State} {m : MethodId} {args : Array Value} {below : List Frame} {meth : Method} {c : Code} {QW : State → Prop}
theorem zsz {H : Heap} {locs : List Loc} {k n : Nat} {g : JFrame} (h : H.size ≤ s.heap.size + k → W p l e R s m args below meth c H locs k n QW g) : W p l e R s m args below meth c H locs k n QW g :=
  fun T hT X => h (by rw [← hT]; exact X.heapSize) T hT X
theorem z_size {b sc z0 k : Nat} {D : va_G} {dA : Nat → Nat} {w : zW} {H : Heap} {locs : List Loc} (hsz : s.heap.size = b + z0) (hP : va_P D zcls (zco b sc dA b w) H) (hS : va_S (fun q => b ≤ q) s.heap H locs) (hlen : w.length = z0 + k) (hle : H.size ≤ s.heap.size + k) : H.size = b + w.length := by
  have h1 := hS.1
  by_cases hk : k = 0
  · omega
  · have hw : w.length - 1 < w.length := by omega
    have hg : zix w (w.length - 1) = some w[w.length - 1] := by rw [zix_eq]; exact List.getElem?_eq_getElem hw
    have h2 := (hP _ _ (zco_at (b := b) (sc := sc) (dA := dA) hg)).lt
    dsimp only at h2
    omega
theorem z_fresh {b sc z0 k q : Nat} {D : va_G} {dA : Nat → Nat} {w : zW} {H : Heap} {e0 : va_E} (hsz : s.heap.size = b + z0) (hlen : w.length = z0 + k) (hP : va_P D zcls (zco b sc dA b w ++ [(q, e0)]) H) (hD : va_D (fun q => b ≤ q) (zco b sc dA b w ++ [(q, e0)])) (hle : H.size ≤ s.heap.size + (k + 1)) : q = b + w.length := by
  have hl : (zco b sc dA b w ++ [(q, e0)])[w.length]? = some (q, e0) := by
    rw [List.getElem?_append_right (by rw [zco_len]; exact Nat.le_refl _), zco_len, Nat.sub_self]; rfl
  have h1 := (hP _ _ hl).lt
  have h2 := hD.2 _ _ hl
  dsimp only at h1 h2
  by_cases hq : q = b + w.length
  · exact hq
  · exfalso
    have hlt : q - b < w.length := by omega
    have hg : zix w (q - b) = some w[q - b] := by rw [zix_eq]; exact List.getElem?_eq_getElem hlt
    have h3 := zco_at (b := b) (sc := sc) (dA := dA) hg
    have h4 : (zco b sc dA b w ++ [(q, e0)])[q - b]? = some (b + (q - b), zcc b sc dA w[q - b]) := by
      rw [List.getElem?_append_left (by rw [zco_len]; exact hlt)]; exact h3
    have h5 := hD.1 _ _ _ _ h4 hl (by dsimp only; omega)
    omega
def zOK (p : Program) (l : Launch) (e : Env) (R : Room) (s : State) (m : MethodId) (args : Array Value) (below : List Frame) (meth : Method) (c : Code) (QW : State → Prop) (b sc : Nat) (D : va_G) (dA : Nat → Nat) (nL z0 : Nat) (x : zS) : Prop :=
  ∀ (H : Heap) (locs : List Loc) (ls : Array Slot), va_P D zcls (zco b sc dA b x.2.2.2.1) H → va_S (fun q => b ≤ q) s.heap H locs → lv_has ls nL (zpr b sc x.2.1) → x.2.2.2.1.length = z0 + x.2.2.2.2.1 → W p l e R s m args below meth c H locs x.2.2.2.2.1 x.2.2.2.2.2 QW (F0 m x.1 ls (x.2.2.1.map (zv b sc)))
theorem z_call {b sc z mc' ms' k n pc : Nat} {D : va_G} {dA : Nat → Nat} {Qf : zQ} {a0 : Array Value} {H : Heap} {locs : List Loc} {ls : Array Slot} {st0 rest : List Value}
    (hr : va_Run p l e R s m args below meth c H locs k n mc' ms' (F0 m pc ls st0) rest (zQc b sc D dA z mc' Qf a0) (fun q => b ≤ q)) (hS : va_S (fun q => b ≤ q) s.heap H locs)
    (kk : ∀ (r : Option Value) (w' : zW) (H1 : Heap) (locs1 : List Loc), Qf r w' → w'.length = z + mc' → va_P D zcls (zco b sc dA b w') H1 → va_S (fun q => b ≤ q) s.heap H1 locs1 → W p l e R s m args below meth c H1 locs1 (k + mc') (n + ms') QW (F0 m (pc + 3) ls ((r.map (zv b sc)).toList ++ rest))) : W p l e R s m args below meth c H locs k n QW (F0 m pc ls st0) := by
  intro T hT X
  obtain ⟨v, st₀, t, T', L, h0, X', hL, e1, e2, ⟨⟨r, w', hq, hz, hv, hP⟩, hF1, hF2⟩, st⟩ := hr T hT X
  cases hv
  rw [h0] at hF1 hF2
  obtain ⟨t2, a1, b1⟩ := kk r w' T'.heap (locs ++ L) hq hz (by rw [e1]; exact hP)
    ⟨Nat.le_trans hS.1 (by rw [e1]; exact hF1), fun q h1 h2 => by rw [e1, hF2 q (Nat.lt_of_lt_of_le h1 hS.1) h2]; exact hS.2.1 q h1 h2, fun q hq => by
      rcases List.mem_append.mp hq with h | h
      · exact hS.2.2 q h
      · exact hL q h⟩ T' rfl X'
  exact ⟨t2, st t2 a1, b1⟩
end ZS
end
section
section ZT
variable {p : Program} {l : Launch} {e : Env} {R : Room} {s : State} {m : MethodId} {args : Array Value} {below : List Frame} {meth : Method} {c : Code} {QW : State → Prop}
theorem zgood_in {tab : List zM} (hgood : ∀ w ∈ zt tab, goodWord w = true) {M : zM} (h : zcode M ∈ zt tab) : GoodIn (zt tab) (zws tab M) := by
  intro w hw
  rcases List.mem_cons.mp hw with rfl | hw
  · exact ⟨h, good_of_word (hgood _ h)⟩
  · exact ⟨hw, good_of_word (hgood _ hw)⟩
theorem zmat_s {tab : List zM} {a : Nat} (h : zhas tab a = true) : zix tab a = some (zmat tab a) := by
  unfold zhas at h
  unfold zmat
  split at h
  next hz => rw [hz]
  · cases h
theorem zpub_s {own : String} {y : MethodName} (h : zpub own y = false) {X : Prop} {A : Prop} [Decidable A] (h2 : (zpub own y || decide A) = true) : A := by
  rw [h, Bool.false_or] at h2
  exact of_decide_eq_true h2
/-- a call by what the callee's contract says, of whichever kind -/
theorem z_inv {tab : List zM} {d : Nat} {M : zM} {mc ms b sc z0 : Nat} {D : va_G} {dA : Nat → Nat} {P : zS → Prop}
    (hb : c.code = M.2.1) (hx : p.tables.exec = Jvm.exec) (hml : c.maxLocals = M.2.2.1) (hown : s.vm.findClass M.1.cls = some m.cls) (hts : ∀ w ∈ zt tab, w.before args s = true) (hgood : ∀ w ∈ zt tab, goodWord w = true) (htab : ∀ M' ∈ tab, zokM tab M') (hK : va_K D zcls (ztys dA) s) (hN : zN s) (hsz : s.heap.size = b + z0)
    (hR : d ≤ R.frames ∧ 35 * d ≤ R.locals ∧ mc ≤ R.cells ∧ ms ≤ R.slots) (hsnd : zSnd tab l d) (hP : ∀ y, P y → zOK p l e R s m args below meth c QW b sc D dA M.2.2.1 z0 y)
    {pc a np : Nat} {L : zL} {As St0 St : List Value} {w : zW} {k n : Nat} {H : Heap} {locs : List Loc} {ls : Array Slot} (hnp : np = pc + 3) (hcc : zcode (zmat tab a) ∈ zt tab)
    (hPw : va_P D zcls (zco b sc dA b w) H) (hS : va_S (fun q => b ≤ q) s.heap H locs) (hl : lv_has ls M.2.2.1 (zpr b sc L)) (hlen : w.length = z0 + k) (hhas : zhas tab a = true)
    (hcall : zcall (zCl tab d) a As St w k n mc ms np L P)
    (hrun : ∀ (mc' ms' : Nat) (Pc : Array Value → State → Prop) (Qc : Array Value → State → Outcome → State → Prop), (zmat tab a).2.2.1 ≤ 16 → 1 ≤ d → Met l (zmat tab a).1 (zws tab (zmat tab a)) (zroom (d - 1) mc' ms') Pc Qc mc' ms' (fun q => b ≤ q) → FrameBlind Pc → (∀ U : State, U.heap = H → s.WarmedH U.vm → Pc (As.map (zv b sc)).toArray U) → (k + mc' ≤ R.cells ∧ n + ms' ≤ R.slots) → va_Run p l e R s m args below meth c H locs k n mc' ms' (F0 m pc ls St0) (St.map (zv b sc)) (Qc (As.map (zv b sc)).toArray) (fun q => b ≤ q)) :
    W p l e R s m args below meth c H locs k n QW (F0 m pc ls St0) := by
  refine zsz fun hle => ?_
  have hHs := z_size hsz hPw hS hlen hle
  obtain ⟨mc', ms', ⟨h1, h2⟩, hC⟩ := hcall
  have hM' := zmat_s hhas
  obtain ⟨hd, hMet⟩ := hsnd a As w mc' ms' _ _ hM' hC
  have hmem : zmat tab a ∈ tab := by rw [zix_eq] at hM'; exact List.mem_of_getElem? hM'
  have h16 : (zmat tab a).2.2.1 ≤ 16 := by
    have h := (htab _ hmem).2.2
    simp only [Bool.and_eq_true] at h
    exact Nat.le_of_ble_eq_true h.1
  refine z_call (hrun mc' ms' _ _ h16 hd (hMet b sc D dA) zPc_blind (fun U hU hW => ⟨rfl, by rw [hU]; exact hHs, by rw [hU]; exact hPw, va_K.moved hW.alike hK, hN.warm hW⟩) ⟨Nat.le_trans h1 hR.2.2.1, Nat.le_trans h2 hR.2.2.2⟩) hS ?_
  intro r w' H1 locs1 hq hw' hP1 hS1
  have hz := hP _ hq H1 locs1 ls hP1 hS1 hl (by dsimp only; omega)
  subst hnp
  refine W.eq (g2 := F0 m (pc + 3) ls ((r.toList ++ St).map (zv b sc))) ?_ hz
  congr 1
  cases r <;> simp
end ZT
end
section
section ZU
variable {p : Program} {l : Launch} {e : Env} {R : Room} {s : State} {m : MethodId} {args : Array Value} {below : List Frame} {meth : Method} {c : Code} {QW : State → Prop}
theorem zlook_nn {pc : Nat} {df : Int} {x : Int} (h0 : 0 ≤ (pc : Int) + df) : ∀ (ps : List (Int × Int)), (ps.all fun o => decide (0 ≤ (pc : Int) + o.2)) = true → 0 ≤ (pc : Int) + Op.lookupswitch.offset ps df x
  | [], _ => by rw [show Op.lookupswitch.offset [] df x = df from rfl]; exact h0
  | (a, o) :: r, h => by
    simp only [List.all_cons, Bool.and_eq_true, decide_eq_true_eq] at h
    rw [Op.lookupswitch.offset_cons]
    split
    · exact h.1
    · exact zlook_nn h0 r h.2
set_option maxHeartbeats 8000000 in
theorem z_step {tab : List zM} {d : Nat} {M : zM} {E : zX} {mc ms b sc z0 : Nat} {D : va_G} {dA : Nat → Nat} {Q : zQ} {P : zS → Prop}
    (hb : c.code = M.2.1) (hx : p.tables.exec = Jvm.exec) (hml : c.maxLocals = M.2.2.1) (hown : s.vm.findClass M.1.cls = some m.cls) (hts : ∀ w ∈ zt tab, w.before args s = true) (hgood : ∀ w ∈ zt tab, goodWord w = true) (hM : M ∈ tab) (htab : ∀ M' ∈ tab, zokM tab M') (hK : va_K D zcls (ztys dA) s) (hN : zN s) (hsz : s.heap.size = b + z0)
    (hin : M.1.name = "<init>" → meth.name = "<init>") (hR : d ≤ R.frames ∧ 35 * d ≤ R.locals ∧ mc ≤ R.cells ∧ ms ≤ R.slots) (hsnd : zSnd tab l d) (hE : ∀ q, E = some q → sc < b ∧ sc < s.heap.size ∧ va_X sc q.1 q.2 s s.heap)
    (hret : ∀ (i : Instr) (pc : Nat) (v : Option Value) (w : zW) (H : Heap) (locs : List Loc) (ls : Array Slot) (k n : Nat), decode M.2.1 pc = .ok (i, 1) → zrti i M.2.2.2.1 v → Q v w → zfin E k n mc ms → va_P D zcls (zco b sc dA b w) H → va_S (fun q => b ≤ q) s.heap H locs → w.length = z0 + k → W p l e R s m args below meth c H locs k n QW (F0 m pc ls (v.toList.map (zv b sc))))
    (hP : ∀ y, P y → zOK p l e R s m args below meth c QW b sc D dA M.2.2.1 z0 y) {y0 : zS} (hs : zstep (zCl tab d) d M E tab mc ms Q y0 P) : zOK p l e R s m args below meth c QW b sc D dA M.2.2.1 z0 y0 := by
  obtain ⟨pc, L, S, w, k, n⟩ := y0
  unfold zstep at hs
  dsimp only at hs
  split at hs
  · exact hs.elim
  rename_i r hr
  obtain ⟨i, np, a, bb⟩ := r
  dsimp only at hs
  have hmem := zat_mem hr
  have hde := List.all_eq_true.mp (htab M hM).1 _ hmem
  obtain ⟨hoff, hslot, hsw, hlk⟩ := zrow_s (List.all_eq_true.mp (htab M hM).2.1 _ hmem)
  have hwd : ∀ w ∈ zrq tab M.1.cls (pc, i, np, a, bb), w.before args s = true := fun w hw => hts w (zt_rq hM hmem hw)
  have hwz : ∀ w ∈ zrq tab M.1.cls (pc, i, np, a, bb), w ∈ zt tab := fun w hw => zt_rq hM hmem hw
  have hD := zco_D b sc dA w
  have hA : ∀ q : Nat, s.heap.size ≤ q → (fun q => b ≤ q) q := fun q hq => by show b ≤ q; omega
  intro H locs ls hPw hS hl hlen
  dsimp only at hPw hl hlen hoff hslot hsw ⊢
  cases i with
  | iconst v =>
    obtain ⟨rfl, hd⟩ := zde_s hde (fun h => absurd h (Nat.succ_ne_zero _))
    exact lv_iconst hx hb hd rfl (hP _ hs H locs ls hPw hS hl hlen)
  | bipush v =>
    obtain ⟨rfl, hd⟩ := zde_s hde (fun h => absurd h (Nat.succ_ne_zero _))
    exact lv_bipush hx hb hd rfl (hP _ hs H locs ls hPw hS hl hlen)
  | sipush v =>
    obtain ⟨rfl, hd⟩ := zde_s hde (fun h => absurd h (Nat.succ_ne_zero _))
    exact lv_sipush hx hb hd rfl (hP _ hs H locs ls hPw hS hl hlen)
  | ldc ix =>
    obtain ⟨rfl, hd⟩ := zde_s hde (fun h => absurd h (Nat.succ_ne_zero _))
    exact lv_ldc hx hb hown (hwd _ List.mem_cons_self) hd (hP _ hs H locs ls hPw hS hl hlen)
  | ldc2_w ix =>
    obtain ⟨rfl, hd⟩ := zde_s hde (fun h => absurd h (Nat.succ_ne_zero _))
    exact lv_ldc2 hx hb hown (hwd _ List.mem_cons_self) hd (hP _ hs H locs ls hPw hS hl hlen)
  | lconst v =>
    obtain ⟨rfl, hd⟩ := zde_s hde (fun h => absurd h (Nat.succ_ne_zero _))
    exact lv_lconst hx hb hd rfl (hP _ hs H locs ls hPw hS hl hlen)
  | aconst_null =>
    obtain ⟨rfl, hd⟩ := zde_s hde (fun h => absurd h (Nat.succ_ne_zero _))
    exact lv_null hx hb hd (hP _ hs H locs ls hPw hS hl hlen)
  | iload_n j =>
    obtain ⟨rfl, hd⟩ := zde_s hde (fun h => absurd h (Nat.succ_ne_zero _))
    obtain ⟨x, hj, hs⟩ := zli_s hs
    exact lv_iload_n hx hb hd rfl (zpr_at hl hj) (hP _ hs H locs ls hPw hS hl hlen)
  | iload j =>
    obtain ⟨rfl, hd⟩ := zde_s hde (fun h => absurd h (Nat.succ_ne_zero _))
    obtain ⟨x, hj, hs⟩ := zli_s hs
    exact lv_iload hx hb hd (zpr_at hl hj) (hP _ hs H locs ls hPw hS hl hlen)
  | lload_n j =>
    obtain ⟨rfl, hd⟩ := zde_s hde (fun h => absurd h (Nat.succ_ne_zero _))
    obtain ⟨x, hj, hs⟩ := zll_s hs
    exact lv_lload_n hx hb hd rfl (zpr_at hl hj) (hP _ hs H locs ls hPw hS hl hlen)
  | lload j =>
    obtain ⟨rfl, hd⟩ := zde_s hde (fun h => absurd h (Nat.succ_ne_zero _))
    obtain ⟨x, hj, hs⟩ := zll_s hs
    exact lv_lload hx hb hd (zpr_at hl hj) (hP _ hs H locs ls hPw hS hl hlen)
  | aload_n j =>
    simp only [zins] at hs
    obtain ⟨rfl, hd⟩ := zde_s hde (fun h => absurd h (Nat.succ_ne_zero _))
    obtain ⟨v, hj, hv, hs⟩ := zla_s hs
    rcases hv with ⟨q, rfl⟩ | rfl | ⟨q, rfl⟩
    · exact lv_aload_n hx hb hd rfl (zpr_at hl hj) (hP _ hs H locs ls hPw hS hl hlen)
    · exact lv_aload_nN hx hb hd rfl (zpr_at hl hj) (hP _ hs H locs ls hPw hS hl hlen)
    · exact lv_aload_n hx hb hd rfl (zpr_at hl hj) (hP _ hs H locs ls hPw hS hl hlen)
  | aload j =>
    simp only [zins] at hs
    obtain ⟨rfl, hd⟩ := zde_s hde (fun h => absurd h (Nat.succ_ne_zero _))
    obtain ⟨v, hj, hv, hs⟩ := zla_s hs
    rcases hv with ⟨q, rfl⟩ | rfl | ⟨q, rfl⟩
    · exact lv_aload hx hb hd (zpr_at hl hj) (hP _ hs H locs ls hPw hS hl hlen)
    · exact lv_aloadN hx hb hd (zpr_at hl hj) (hP _ hs H locs ls hPw hS hl hlen)
    · exact lv_aload hx hb hd (zpr_at hl hj) (hP _ hs H locs ls hPw hS hl hlen)
  | istore_n j =>
    obtain ⟨rfl, hd⟩ := zde_s hde (fun h => absurd h (Nat.succ_ne_zero _))
    obtain ⟨x, t, rfl, hs⟩ := z1i_s hs
    obtain ⟨hf, hs⟩ := zif_s hs
    have hj : j.val < M.2.2.1 := Nat.le_of_ble_eq_true hslot
    exact lv_istore_n hx hb hd rfl hl hj rfl (fun ls1 hl1 => hP _ hs H locs ls1 hPw hS (zpr_store1 (v := .int x) hf hl1) hlen)
  | istore j =>
    obtain ⟨rfl, hd⟩ := zde_s hde (fun h => absurd h (Nat.succ_ne_zero _))
    obtain ⟨x, t, rfl, hs⟩ := z1i_s hs
    obtain ⟨hf, hs⟩ := zif_s hs
    have hj : j < M.2.2.1 := Nat.le_of_ble_eq_true hslot
    exact lv_istore hx hb hd hl hj rfl (fun ls1 hl1 => hP _ hs H locs ls1 hPw hS (zpr_store1 (v := .int x) hf hl1) hlen)
  | lstore_n j =>
    obtain ⟨rfl, hd⟩ := zde_s hde (fun h => absurd h (Nat.succ_ne_zero _))
    obtain ⟨x, t, rfl, hs⟩ := z1l_s hs
    obtain ⟨hf, hs⟩ := zif_s hs
    have hj : j.val + 1 < M.2.2.1 := Nat.le_of_ble_eq_true hslot
    exact lv_lstore_n hx hb hd rfl hl hj rfl (fun ls1 hl1 => hP _ hs H locs ls1 hPw hS (zpr_store2 (v := .long x) hf hl1) hlen)
  | lstore j =>
    obtain ⟨rfl, hd⟩ := zde_s hde (fun h => absurd h (Nat.succ_ne_zero _))
    obtain ⟨x, t, rfl, hs⟩ := z1l_s hs
    obtain ⟨hf, hs⟩ := zif_s hs
    have hj : j + 1 < M.2.2.1 := Nat.le_of_ble_eq_true hslot
    exact lv_lstore hx hb hd hl hj rfl (fun ls1 hl1 => hP _ hs H locs ls1 hPw hS (zpr_store2 (v := .long x) hf hl1) hlen)
  | astore_n j =>
    simp only [zins] at hs
    obtain ⟨rfl, hd⟩ := zde_s hde (fun h => absurd h (Nat.succ_ne_zero _))
    have hj : j.val < M.2.2.1 := Nat.le_of_ble_eq_true hslot
    rcases zasv_s hs with ⟨q, t, rfl, hs⟩ | ⟨t, rfl, hs⟩
    · obtain ⟨hf, hs⟩ := zif_s hs
      exact lv_astore_n hx hb hd rfl hl hj rfl (fun ls1 hl1 => hP _ hs H locs ls1 hPw hS (zpr_store1 (v := .ref q) hf hl1) hlen)
    · obtain ⟨hf, hs⟩ := zif_s hs
      exact lv_astore_nN hx hb hd rfl hl hj rfl (fun ls1 hl1 => hP _ hs H locs ls1 hPw hS (zpr_store1 (v := .null) hf hl1) hlen)
  | astore j =>
    simp only [zins] at hs
    obtain ⟨rfl, hd⟩ := zde_s hde (fun h => absurd h (Nat.succ_ne_zero _))
    have hj : j < M.2.2.1 := Nat.le_of_ble_eq_true hslot
    rcases zasv_s hs with ⟨q, t, rfl, hs⟩ | ⟨t, rfl, hs⟩
    · obtain ⟨hf, hs⟩ := zif_s hs
      exact lv_astore hx hb hd hl hj rfl (fun ls1 hl1 => hP _ hs H locs ls1 hPw hS (zpr_store1 (v := .ref q) hf hl1) hlen)
    · obtain ⟨hf, hs⟩ := zif_s hs
      exact lv_astoreN hx hb hd hl hj rfl (fun ls1 hl1 => hP _ hs H locs ls1 hPw hS (zpr_store1 (v := .null) hf hl1) hlen)
  | iinc j v =>
    obtain ⟨rfl, hd⟩ := zde_s hde (fun h => absurd h (Nat.succ_ne_zero _))
    obtain ⟨x, hg, hs⟩ := zli_s hs
    obtain ⟨hf, hs⟩ := zif_s hs
    have hj : j < M.2.2.1 := Nat.le_of_ble_eq_true hslot
    obtain ⟨kk, hkk⟩ := List.getElem?_of_mem (zpr_mem.mpr ⟨.int x, hg, rfl⟩ : ((j, .int x) : Nat × Value) ∈ zpr b sc L)
    exact lv_iinc hx hb hd hl hkk rfl hj rfl (fun ls1 hl1 => hP _ hs H locs ls1 hPw hS (zpr_store1 (v := .int (x + Int32.ofInt v)) hf hl1) hlen)
  | iadd =>
    obtain ⟨rfl, hd⟩ := zde_s hde (fun h => absurd h (Nat.succ_ne_zero _))
    obtain ⟨x, y, t, rfl, hs⟩ := z2i_s hs
    exact lv_iadd hx hb hd (hP _ hs H locs ls hPw hS hl hlen)
  | isub =>
    obtain ⟨rfl, hd⟩ := zde_s hde (fun h => absurd h (Nat.succ_ne_zero _))
    obtain ⟨x, y, t, rfl, hs⟩ := z2i_s hs
    exact lv_isub hx hb hd (hP _ hs H locs ls hPw hS hl hlen)
  | imul =>
    obtain ⟨rfl, hd⟩ := zde_s hde (fun h => absurd h (Nat.succ_ne_zero _))
    obtain ⟨x, y, t, rfl, hs⟩ := z2i_s hs
    exact lv_imul hx hb hd (hP _ hs H locs ls hPw hS hl hlen)
  | iand =>
    obtain ⟨rfl, hd⟩ := zde_s hde (fun h => absurd h (Nat.succ_ne_zero _))
    obtain ⟨x, y, t, rfl, hs⟩ := z2i_s hs
    exact lv_iand hx hb hd (hP _ hs H locs ls hPw hS hl hlen)
  | ior =>
    obtain ⟨rfl, hd⟩ := zde_s hde (fun h => absurd h (Nat.succ_ne_zero _))
    obtain ⟨x, y, t, rfl, hs⟩ := z2i_s hs
    exact lv_ior hx hb hd (hP _ hs H locs ls hPw hS hl hlen)
  | ixor =>
    obtain ⟨rfl, hd⟩ := zde_s hde (fun h => absurd h (Nat.succ_ne_zero _))
    obtain ⟨x, y, t, rfl, hs⟩ := z2i_s hs
    exact lv_ixor hx hb hd (hP _ hs H locs ls hPw hS hl hlen)
  | idiv =>
    obtain ⟨rfl, hd⟩ := zde_s hde (fun h => absurd h (Nat.succ_ne_zero _))
    obtain ⟨x, y, t, rfl, hne, hs⟩ := z2i_s hs
    exact lv_idiv hx hb hd hne (hP _ hs H locs ls hPw hS hl hlen)
  | irem =>
    obtain ⟨rfl, hd⟩ := zde_s hde (fun h => absurd h (Nat.succ_ne_zero _))
    obtain ⟨x, y, t, rfl, hne, hs⟩ := z2i_s hs
    exact lv_irem hx hb hd hne (hP _ hs H locs ls hPw hS hl hlen)
  | ishl =>
    obtain ⟨rfl, hd⟩ := zde_s hde (fun h => absurd h (Nat.succ_ne_zero _))
    obtain ⟨x, y, t, rfl, hs⟩ := z2i_s hs
    exact lv_ishl hx hb hd (hP _ hs H locs ls hPw hS hl hlen)
  | ishr =>
    obtain ⟨rfl, hd⟩ := zde_s hde (fun h => absurd h (Nat.succ_ne_zero _))
    obtain ⟨x, y, t, rfl, hs⟩ := z2i_s hs
    exact lv_ishr hx hb hd (hP _ hs H locs ls hPw hS hl hlen)
  | iushr =>
    obtain ⟨rfl, hd⟩ := zde_s hde (fun h => absurd h (Nat.succ_ne_zero _))
    obtain ⟨x, y, t, rfl, hs⟩ := z2i_s hs
    exact lv_iushr hx hb hd rfl (hP _ hs H locs ls hPw hS hl hlen)
  | i2b =>
    obtain ⟨rfl, hd⟩ := zde_s hde (fun h => absurd h (Nat.succ_ne_zero _))
    obtain ⟨x, t, rfl, hs⟩ := z1i_s hs
    exact lv_i2b hx hb hd rfl (hP _ hs H locs ls hPw hS hl hlen)
  | i2l =>
    obtain ⟨rfl, hd⟩ := zde_s hde (fun h => absurd h (Nat.succ_ne_zero _))
    obtain ⟨x, t, rfl, hs⟩ := z1i_s hs
    exact lv_i2l hx hb hd rfl (hP _ hs H locs ls hPw hS hl hlen)
  | lcmp =>
    obtain ⟨rfl, hd⟩ := zde_s hde (fun h => absurd h (Nat.succ_ne_zero _))
    obtain ⟨x, y, t, rfl, hs⟩ := z2l_s hs
    exact W.lcmp hx hb hd (hP _ hs H locs ls hPw hS hl hlen)
  | dup =>
    obtain ⟨rfl, hd⟩ := zde_s hde (fun h => absurd h (Nat.succ_ne_zero _))
    obtain ⟨v, t, rfl, hs⟩ := z1v_s hs
    obtain ⟨hc, hs⟩ := zif_s hs
    exact lv_dup hx hb hd ((zv_cat b sc v).trans (Nat.eq_of_beq_eq_true hc)) (hP _ hs H locs ls hPw hS hl hlen)
  | pop =>
    obtain ⟨rfl, hd⟩ := zde_s hde (fun h => absurd h (Nat.succ_ne_zero _))
    obtain ⟨v, t, rfl, hs⟩ := z1v_s hs
    obtain ⟨hc, hs⟩ := zif_s hs
    exact lv_pop hx hb hd ((zv_cat b sc v).trans (Nat.eq_of_beq_eq_true hc)) (hP _ hs H locs ls hPw hS hl hlen)
  | dup2 =>
    obtain ⟨rfl, hd⟩ := zde_s hde (fun h => absurd h (Nat.succ_ne_zero _))
    obtain ⟨v, u, t, rfl, hs⟩ := zvr2_s hs
    obtain ⟨hc, hs⟩ := zif_s hs
    obtain ⟨hc2, hs⟩ := zif_s hs
    exact lv_dup2_11 hx hb hd ((zv_cat b sc v).trans (Nat.eq_of_beq_eq_true hc)) ((zv_cat b sc u).trans (Nat.eq_of_beq_eq_true hc2)) (hP _ hs H locs ls hPw hS hl hlen)
  | if_icmp cd off =>
    obtain ⟨rfl, hd⟩ := zde_s hde (fun h => absurd h (Nat.succ_ne_zero _))
    obtain ⟨x, y, t, rfl, hs⟩ := z2i_s hs
    have ht := hoff off rfl
    cases cd
    · exact lv_icmp_eq hx hb hd ht (fun q => hP _ (hs.1 q) H locs ls hPw hS hl hlen) (fun q => hP _ (hs.2 q) H locs ls hPw hS hl hlen)
    · exact lv_icmp_ne hx hb hd ht (fun q => hP _ (hs.1 q) H locs ls hPw hS hl hlen) (fun q => hP _ (hs.2 q) H locs ls hPw hS hl hlen)
    · exact lv_icmp_lt hx hb hd ht (fun q => hP _ (hs.1 q) H locs ls hPw hS hl hlen) (fun q => hP _ (hs.2 q) H locs ls hPw hS hl hlen)
    · exact lv_icmp_ge hx hb hd ht (fun q => hP _ (hs.1 q) H locs ls hPw hS hl hlen) (fun q => hP _ (hs.2 q) H locs ls hPw hS hl hlen)
    · exact lv_icmp_gt hx hb hd ht (fun q => hP _ (hs.1 q) H locs ls hPw hS hl hlen) (fun q => hP _ (hs.2 q) H locs ls hPw hS hl hlen)
    · exact lv_icmp_le hx hb hd ht (fun q => hP _ (hs.1 q) H locs ls hPw hS hl hlen) (fun q => hP _ (hs.2 q) H locs ls hPw hS hl hlen)
  | ifCond cd off =>
    obtain ⟨rfl, hd⟩ := zde_s hde (fun h => absurd h (Nat.succ_ne_zero _))
    obtain ⟨x, t, rfl, hs⟩ := z1i_s hs
    have ht := hoff off rfl
    cases cd
    · exact lv_if_eq hx hb hd ht (fun q => hP _ (hs.1 q) H locs ls hPw hS hl hlen) (fun q => hP _ (hs.2 q) H locs ls hPw hS hl hlen)
    · exact lv_if_ne hx hb hd ht (fun q => hP _ (hs.1 q) H locs ls hPw hS hl hlen) (fun q => hP _ (hs.2 q) H locs ls hPw hS hl hlen)
    · exact lv_if_lt hx hb hd ht (fun q => hP _ (hs.1 q) H locs ls hPw hS hl hlen) (fun q => hP _ (hs.2 q) H locs ls hPw hS hl hlen)
    · exact lv_if_ge hx hb hd ht (fun q => hP _ (hs.1 q) H locs ls hPw hS hl hlen) (fun q => hP _ (hs.2 q) H locs ls hPw hS hl hlen)
    · exact lv_if_gt hx hb hd ht (fun q => hP _ (hs.1 q) H locs ls hPw hS hl hlen) (fun q => hP _ (hs.2 q) H locs ls hPw hS hl hlen)
    · exact lv_if_le hx hb hd ht (fun q => hP _ (hs.1 q) H locs ls hPw hS hl hlen) (fun q => hP _ (hs.2 q) H locs ls hPw hS hl hlen)
  | goto off =>
    obtain ⟨rfl, hd⟩ := zde_s hde (fun h => absurd h (Nat.succ_ne_zero _))
    exact lv_goto hx hb hd (hoff off rfl) (hP _ hs H locs ls hPw hS hl hlen)
  | ifnull off =>
    simp only [zins] at hs
    obtain ⟨rfl, hd⟩ := zde_s hde (fun h => absurd h (Nat.succ_ne_zero _))
    rcases zrn_s hs with ⟨q, t, rfl, hs⟩ | ⟨t, rfl, hs⟩
    · exact lv_ifnull hx hb hd (hP _ hs H locs ls hPw hS hl hlen)
    · exact lv_ifnullN hx hb hd (hoff off rfl) (hP _ hs H locs ls hPw hS hl hlen)
  | ifnonnull off =>
    simp only [zins] at hs
    obtain ⟨rfl, hd⟩ := zde_s hde (fun h => absurd h (Nat.succ_ne_zero _))
    rcases zrn_s hs with ⟨q, t, rfl, hs⟩ | ⟨t, rfl, hs⟩
    · exact lv_ifnonnull hx hb hd (hoff off rfl) (hP _ hs H locs ls hPw hS hl hlen)
    · exact lv_ifnonnullN hx hb hd (hP _ hs H locs ls hPw hS hl hlen)
  | tableswitch df lo hi offs =>
    unfold zde at hde
    simp only [Bool.and_eq_true, decide_eq_true_eq] at hde
    obtain ⟨hd, -⟩ := hde
    simp only [zsw, Bool.and_eq_true, decide_eq_true_eq] at hsw
    obtain ⟨x, t, rfl, hs⟩ := z1i_s hs
    by_cases hq : x.toInt < lo ∨ hi < x.toInt
    · exact lv_tableOut hx hb hd hq (by omega) (hP _ (hs.1 hq) H locs ls hPw hS hl hlen)
    · obtain ⟨off, ho, hs⟩ := hs.2 hq
      have hnn : 0 ≤ (pc : Int) + off := by
        have h1 : off ∈ offs.toList := by rw [← Array.getElem?_toList] at ho; exact List.mem_of_getElem? ho
        have h2 := List.all_eq_true.mp hsw.2 off h1
        simpa using h2
      exact lv_tableIn hx hb hd (fun z => hq (Or.inl z)) (fun z => hq (Or.inr z)) ho (by omega) (hP _ hs H locs ls hPw hS hl hlen)
  | lookupswitch df ps =>
    unfold zde at hde
    simp only [Bool.and_eq_true, decide_eq_true_eq] at hde
    obtain ⟨hd, -⟩ := hde
    simp only [zsw, Bool.and_eq_true, decide_eq_true_eq] at hsw
    obtain ⟨x, t, rfl, hs⟩ := z1i_s hs
    have hnn := zlook_nn (x := x.toInt) hsw.1.1 ps.toList hsw.1.2
    exact lv_lookup hx hb hd hsw.2 rfl (by omega) (hP _ hs H locs ls hPw hS hl hlen)
  | getfield ix =>
    obtain ⟨rfl, hd⟩ := zde_s hde (fun h => absurd h (Nat.succ_ne_zero _))
    obtain ⟨q, t, rfl, hs⟩ := z1r_s hs
    obtain ⟨fs, hq, hs⟩ := zob_s hs
    obtain ⟨v, hv, hs⟩ := zfld_s hs
    simp only [zlk, Bool.and_eq_true, Bool.or_eq_true, decide_eq_true_eq] at hlk
    have hbb : bb < zcN a := Nat.le_of_ble_eq_true hlk.1
    have ha11 := zcN_le (Nat.lt_of_le_of_lt (Nat.zero_le _) hbb)
    have hfv : (fs.map (zv b sc))[bb]? = some (zv b sc v) := by rw [List.getElem?_map, ← zix_eq, hv]; rfl
    by_cases ho : M.1.cls = (zcf a bb).1
    · exact va_get (ref := (zcf a bb).1) hx hb hts (fun w hw => zt_uw (zuw_at ha11 w hw)) hown hK hPw q (zco_at hq) (zcls_at (Or.inr ha11)) bb hbb (hwd _ (by simp only [zrq]; rw [if_pos ho]; exact List.mem_cons_self)) (fun _ h9 => h9) hfv hd (hP _ hs H locs ls hPw hS hl hlen)
    · have hn := hN.1 _ (hlk.2.resolve_left ho)
      exact va_getN (ref := (zcf a bb).1) hx hb hts (fun w hw => zt_uw (zuw_at ha11 w hw)) hown hK hPw q (zco_at hq) (zcls_at (Or.inr ha11)) bb hbb (hn.use rfl) (fun _ h9 => h9) hfv hd (hP _ hs H locs ls hPw hS hl hlen)
  | putfield ix =>
    obtain ⟨rfl, hd⟩ := zde_s hde (fun h => absurd h (Nat.succ_ne_zero _))
    obtain ⟨v, q, t, rfl, hs⟩ := zvr_s hs
    obtain ⟨fs, hq, hs⟩ := zob_s hs
    obtain ⟨hfit, hs⟩ := zif_s hs
    obtain ⟨hlt, hs⟩ := zif_s hs
    have hlt : bb < (fs.map (zv b sc)).length := by rw [List.length_map]; exact Nat.le_of_ble_eq_true hlt
    simp only [zlk, Bool.and_eq_true, Bool.or_eq_true, decide_eq_true_eq] at hlk
    have hbb : bb < zcN a := Nat.le_of_ble_eq_true hlk.1.1
    have ha11 := zcN_le (Nat.lt_of_le_of_lt (Nat.zero_le _) hbb)
    obtain ⟨hty, hnm⟩ := zcls_ty ha11
    obtain ⟨hnw, hft⟩ := zfit_s (b := b) (sc := sc) hfit
    have hkk : ∀ (H1 : Heap) (locs1 : List Loc), va_P D zcls ((zco b sc dA b w).set q (b + q, .inr (a, (fs.map (zv b sc)).set bb (zv b sc v)))) H1 → va_D (fun q => b ≤ q) ((zco b sc dA b w).set q (b + q, .inr (a, (fs.map (zv b sc)).set bb (zv b sc v)))) → va_S (fun q => b ≤ q) s.heap H1 locs1 → W p l e R s m args below meth c H1 locs1 k n QW (F0 m (pc + 3) ls (t.map (zv b sc))) := by
      intro H1 locs1 hP1 _ hS1
      refine hP _ hs H1 locs1 ls ?_ hS1 hl (by dsimp only; rw [zst_eq, List.length_set]; exact hlen)
      dsimp only
      rw [zst_eq, zco_set]
      have he : zcc b sc dA (.inr (a, zst fs bb v)) = .inr (a, (fs.map (zv b sc)).set bb (zv b sc v)) := by
        show (Sum.inr (a, (zst fs bb v).map (zv b sc)) : va_E) = _
        rw [zst_eq, List.map_set]
      rw [he]
      exact hP1
    by_cases ho : M.1.cls = (zcf a bb).1
    · by_cases hfn : (zcf a bb).2.2.2 = false
      · exact va_put (ref := (zcf a bb).1) hx hb hts (fun w hw => zt_uw (zuw_at ha11 w hw)) (ztyf a) hty hnm hown hK hPw hD hS q (zco_at hq) (zcls_at (Or.inr ha11)) bb hbb (hwd _ (by simp only [zrq]; rw [if_pos ho]; exact List.mem_cons_self)) (fun _ h9 => h9) hfn (hty bb hbb) hnw hft hlt hd hkk
      · exact va_putF (ref := (zcf a bb).1) hx hb hts (fun w hw => zt_uw (zuw_at ha11 w hw)) (ztyf a) hty hnm hown hK hPw hD hS q (zco_at hq) (zcls_at (Or.inr ha11)) bb hbb (hwd _ (by simp only [zrq]; rw [if_pos ho]; exact List.mem_cons_self)) (fun _ h9 => h9) (by simpa using hfn) (hin (hlk.2.resolve_left hfn).1) ho.symm (hty bb hbb) hnw hft hlt hd hkk
    · have hfn : (zcf a bb).2.2.2 = false := by
        rcases hlk.2 with z | z
        · exact z
        · exact absurd z.2 ho
      have hn := hN.1 _ (hlk.1.2.resolve_left ho)
      exact va_putN (ref := (zcf a bb).1) hx hb hts (fun w hw => zt_uw (zuw_at ha11 w hw)) (ztyf a) hty hnm hown hK hPw hD hS q (zco_at hq) (zcls_at (Or.inr ha11)) bb hbb (hn.use rfl) (fun _ h9 => h9) hfn (hty bb hbb) hnw hft hlt hd hkk
  | iaload =>
    simp only [zins] at hs
    obtain ⟨rfl, hd⟩ := zde_s hde (fun h => absurd h (Nat.succ_ne_zero _))
    rcases zia_s hs with ⟨i, q, t, hst, hs1⟩ | ⟨i, j, t, hst, hs1⟩
    · obtain ⟨ti, len, g, hq, hs2⟩ := zai_s hs1
      obtain ⟨hti, hi, hs3⟩ := zif_s hs2
      have hti := Nat.eq_of_beq_eq_true hti
      clear hs hs1 hs2
      subst hti hst
      exact va_iald hx hb hK hPw q 1 (zco_at hq) rfl hi hd (hP _ hs3 H locs ls hPw hS hl hlen)
    · obtain ⟨r, hr1, hi, hs3⟩ := zext_s hs1
      obtain ⟨e1, e2, e3⟩ := hE r hr1
      clear hs hs1
      subst hst
      exact va_sld hx hb e3 e2 (by show ¬ b ≤ sc; omega) hS hi hd (hP _ hs3 H locs ls hPw hS hl hlen)
  | baload =>
    simp only [zins] at hs
    obtain ⟨rfl, hd⟩ := zde_s hde (fun h => absurd h (Nat.succ_ne_zero _))
    rcases zia_s hs with ⟨i, q, t, hst, hs1⟩ | ⟨i, j, t, hst, hs1⟩
    · obtain ⟨ti, len, g, hq, hs2⟩ := zai_s hs1
      obtain ⟨hti, hi, hs3⟩ := zif_s hs2
      simp only [Bool.or_eq_true] at hti
      clear hs hs1 hs2
      subst hst
      rcases hti with z | z
      · have z := Nat.eq_of_beq_eq_true z
        subst z
        exact va_bald hx hb hK hPw q 0 (zco_at hq) rfl hi hd (hP _ hs3 H locs ls hPw hS hl hlen)
      · have z := Nat.eq_of_beq_eq_true z
        subst z
        exact va_zald hx hb hK hPw q 2 (zco_at hq) rfl hi hd (hP _ hs3 H locs ls hPw hS hl hlen)
    · exact hs1.elim
  | iastore =>
    obtain ⟨rfl, hd⟩ := zde_s hde (fun h => absurd h (Nat.succ_ne_zero _))
    obtain ⟨v, i, q, t, rfl, hs⟩ := zvia_s hs
    obtain ⟨x, t', he, hs⟩ := z1i_s hs
    cases he
    obtain ⟨ti, len, g, hq, hs⟩ := zai_s hs
    obtain ⟨hti, hi, hs⟩ := zif_s hs
    have := Nat.eq_of_beq_eq_true hti
    subst this
    exact va_iast hx hb hK hPw hD hS q 1 (zco_at hq) rfl hi hd (fun H1 locs1 hP1 _ hS1 => hP _ hs H1 locs1 ls (by dsimp only; rw [zst_eq, zco_set]; exact hP1) hS1 hl (by dsimp only; rw [zst_eq, List.length_set]; exact hlen))
  | bastore =>
    simp only [zins] at hs
    obtain ⟨rfl, hd⟩ := zde_s hde (fun h => absurd h (Nat.succ_ne_zero _))
    obtain ⟨v, i, q, t, rfl, hs⟩ := zvia_s hs
    obtain ⟨x, t', he, hs⟩ := z1i_s hs
    cases he
    obtain ⟨ti, len, g, hq, hs⟩ := zai_s hs
    rcases zor_s hs with ⟨hti, hi, hs⟩ | ⟨-, hs⟩
    · have := Nat.eq_of_beq_eq_true hti
      subst this
      exact va_bast hx hb hK hPw hD hS q 0 (zco_at hq) rfl hi hd (fun H1 locs1 hP1 _ hS1 => hP _ hs H1 locs1 ls (by dsimp only; rw [zst_eq, zco_set]; exact hP1) hS1 hl (by dsimp only; rw [zst_eq, List.length_set]; exact hlen))
    · obtain ⟨hti, hi, hs⟩ := zif_s hs
      have := Nat.eq_of_beq_eq_true hti
      subst this
      exact va_zast hx hb hK hPw hD hS q 2 (zco_at hq) rfl hi hd (fun H1 locs1 hP1 _ hS1 => hP _ hs H1 locs1 ls (by dsimp only; rw [zst_eq, zco_set]; exact hP1) hS1 hl (by dsimp only; rw [zst_eq, List.length_set]; exact hlen))
  | arraylength =>
    simp only [zins] at hs
    obtain ⟨rfl, hd⟩ := zde_s hde (fun h => absurd h (Nat.succ_ne_zero _))
    obtain ⟨j, t, hst, hs1⟩ := zlen1_s hs
    obtain ⟨r, hr1, hs3⟩ := zext_s hs1
    obtain ⟨e1, e2, e3⟩ := hE r hr1
    clear hs hs1
    subst hst
    exact va_slen hx hb e3 e2 (by show ¬ b ≤ sc; omega) hS hd (hP _ hs3 H locs ls hPw hS hl hlen)
  | ireturn =>
    obtain ⟨rfl, hd⟩ := zde_s hde (fun h => absurd h (Nat.succ_ne_zero _))
    obtain ⟨v, rfl, hs⟩ := zin1_s hs
    obtain ⟨x, t, he, hn, hr2, hq⟩ := z1i_s hs
    cases he
    exact hret .ireturn pc _ w H locs ls k n hd ⟨x, rfl, hr2⟩ hq hn hPw hS hlen
  | lreturn =>
    obtain ⟨rfl, hd⟩ := zde_s hde (fun h => absurd h (Nat.succ_ne_zero _))
    obtain ⟨v, rfl, hs⟩ := zin1_s hs
    obtain ⟨x, t, he, hn, hr2, hq⟩ := z1l_s hs
    cases he
    exact hret .lreturn pc _ w H locs ls k n hd ⟨x, rfl, hr2⟩ hq hn hPw hS hlen
  | areturn =>
    simp only [zins] at hs
    obtain ⟨rfl, hd⟩ := zde_s hde (fun h => absurd h (Nat.succ_ne_zero _))
    obtain ⟨v, rfl, hs⟩ := zin1_s hs
    rcases zrn2_s hs with ⟨q, rfl, hn, hr2, hq⟩ | ⟨rfl, hn, hr2, hq⟩
    · exact hret .areturn pc _ w H locs ls k n hd (Or.inr ⟨q, rfl, hr2⟩) hq hn hPw hS hlen
    · exact hret .areturn pc _ w H locs ls k n hd (Or.inl ⟨rfl, hr2⟩) hq hn hPw hS hlen
  | return_ =>
    simp only [zins] at hs
    obtain ⟨rfl, hd⟩ := zde_s hde (fun h => absurd h (Nat.succ_ne_zero _))
    obtain ⟨rfl, hn, hr2, hq⟩ := znil_s hs
    exact hret .return_ pc none w H locs ls k n hd ⟨rfl, hr2⟩ hq hn hPw hS hlen
  | new ix =>
    simp only [zins] at hs
    obtain ⟨rfl, hd⟩ := zde_s hde (fun h => absurd h (Nat.succ_ne_zero _))
    obtain ⟨h1, hs1⟩ := zif_s hs
    obtain ⟨h2, hs2⟩ := zif_s hs1
    have h1 := Nat.le_of_ble_eq_true h1
    have h2 := Nat.le_of_ble_eq_true h2
    have ha11 : a ≤ 11 := Nat.le_of_ble_eq_true hlk
    obtain ⟨hty, hnm⟩ := zcls_ty ha11
    refine va_new (fs := (zdf a).map (zv b sc)) hx hb hts (fun w hw => zt_uw (zuw_at ha11 w hw)) (ztyf a) hty hown (hwd _ List.mem_cons_self) (hwd _ (List.mem_cons_of_mem _ List.mem_cons_self)) (hwd _ (List.mem_cons_of_mem _ (List.mem_cons_of_mem _ List.mem_cons_self))) hK hPw hD hS hA (zcls_at (Or.inr ha11)) (fun j hj => ?_) (Nat.le_trans h1 hR.2.2.1) (Nat.le_trans h2 hR.2.2.2) hd (fun q H1 hP1 hD1 hS1 => ?_)
    · unfold vp_V zdf
      rw [List.getD_eq_getElem?_getD, List.getElem?_map, zdl_get _ _ _ _ hj]
      simp [zv_dv]
    · refine zsz fun hle => ?_
      have hq := z_fresh hsz hlen hP1 hD1 hle
      subst hq
      exact hP _ hs2 H1 locs ls (by dsimp only; rw [zco_app]; exact hP1) hS1 hl (by dsimp only; rw [List.length_append, List.length_singleton]; omega)
  | newarray t =>
    simp only [zins] at hs
    obtain ⟨rfl, hd⟩ := zde_s hde (fun h => absurd h (Nat.succ_ne_zero _))
    obtain ⟨x, t', hst, hs0⟩ := z1i_s hs
    obtain ⟨h0, hs1⟩ := zif_s hs0
    obtain ⟨h1, hs2⟩ := zif_s hs1
    obtain ⟨h2, hs3⟩ := zif_s hs2
    have h0 := of_decide_eq_true h0
    have h1 := Nat.le_of_ble_eq_true h1
    have h2 := Nat.le_of_ble_eq_true h2
    clear hs hs0 hs1 hs2
    subst hst
    simp only [zlk, Bool.and_eq_true, decide_eq_true_eq] at hlk
    obtain ⟨⟨ha2, hat⟩, hbig⟩ := hlk
    have hbig := Nat.le_of_ble_eq_true hbig
    have hxn : x.toNatClampNeg = bb := by
      rw [h0]
      show (Int32.ofNat bb).toInt.toNat = bb
      rw [Int32.toInt_ofNat_of_lt (by omega)]
      omega
    have hx0 : ¬ x < 0 := by
      rw [h0, Int32.not_lt, Int32.le_iff_toInt_le, Int32.toInt_ofNat_of_lt (by omega)]
      show (0 : Int) ≤ _
      omega
    have hzd : zda a bb = (bb, .inl (fun _ => 0)) := by unfold zda; rw [ha2]
    have hdv : ∀ cA : ClassId, vp_cell cA (bb, .inl (fun _ => 0)) = arrV cA bb (fun _ => defaultValue (newarray.typeOf t)) := by
      intro cA
      have ha2 := Nat.le_of_ble_eq_true ha2
      match a, hat, ha2 with
      | 0, hat, _ => rw [← Option.some.inj hat]; rfl
      | 1, hat, _ => rw [← Option.some.inj hat]; rfl
      | 2, hat, _ => rw [← Option.some.inj hat]; rfl
      | a + 3, _, h => omega
    refine va_newa (atype := t) hx hb (hwd _ List.mem_cons_self) rfl hK hPw hD hS hA hdv hx0 hxn ?_ (Nat.le_trans h1 hR.2.2.1) (Nat.le_trans h2 hR.2.2.2) hd (fun q cA H1 hK1 hP1 hD1 hS1 => ?_)
    · cases t <;> simp only [newarray.typeOf, componentBytes] <;> omega
    · refine zsz fun hle => ?_
      have hq := z_fresh hsz hlen hP1 hD1 hle
      subst hq
      have hcA : cA = dA a := by
        have r1 := (hK1.2 9 (cA, newarray.typeOf t) rfl).2
        have r2 := (hK.2 a _ (ztys_at hat)).2
        have ha2 := Nat.le_of_ble_eq_true ha2
        match a, hat, ha2 with
        | 0, hat, _ => dsimp only at r1 r2; rw [← Option.some.inj hat] at r1 r2; exact Option.some.inj (r1.symm.trans r2)
        | 1, hat, _ => dsimp only at r1 r2; rw [← Option.some.inj hat] at r1 r2; exact Option.some.inj (r1.symm.trans r2)
        | 2, hat, _ => dsimp only at r1 r2; rw [← Option.some.inj hat] at r1 r2; exact Option.some.inj (r1.symm.trans r2)
        | a + 3, _, h => omega
      subst hcA
      exact hP _ hs3 H1 locs ls (by dsimp only; rw [zco_app, hzd]; exact hP1) hS1 hl (by dsimp only; rw [List.length_append, List.length_singleton]; omega)
  | anewarray ix =>
    simp only [zins] at hs
    obtain ⟨rfl, hd⟩ := zde_s hde (fun h => absurd h (Nat.succ_ne_zero _))
    obtain ⟨x, t', hst, hs0⟩ := z1i_s hs
    obtain ⟨h0, hs1⟩ := zif_s hs0
    obtain ⟨h1, hs2⟩ := zif_s hs1
    obtain ⟨h2, hs3⟩ := zif_s hs2
    have h0 := of_decide_eq_true h0
    have h1 := Nat.le_of_ble_eq_true h1
    have h2 := Nat.le_of_ble_eq_true h2
    clear hs hs0 hs1 hs2
    subst hst
    simp only [zlk, Bool.and_eq_true, decide_eq_true_eq] at hlk
    obtain ⟨⟨⟨ha3, hat⟩, hao⟩, hbig⟩ := hlk
    have hbig := Nat.le_of_ble_eq_true hbig
    have ha3 := Nat.le_of_ble_eq_true ha3
    have hxn : x.toNatClampNeg = bb := by
      rw [h0]
      show (Int32.ofNat bb).toInt.toNat = bb
      rw [Int32.toInt_ofNat_of_lt (by omega)]
      omega
    have hx0 : ¬ x < 0 := by
      rw [h0, Int32.not_lt, Int32.le_iff_toInt_le, Int32.toInt_ofNat_of_lt (by omega)]
      show (0 : Int) ≤ _
      omega
    have hzd : zda a bb = (bb, .inr (.inr (.inr (.inr (fun _ => none))))) := by
      unfold zda
      rw [show Nat.ble a 2 = false from Bool.eq_false_iff.mpr (fun h => by have := Nat.le_of_ble_eq_true h; omega)]
    refine va_newq hx hb hown (hwd _ List.mem_cons_self) (hN.2.2 _ hao) hK hPw hD hS hA hx0 hxn (by omega) (Nat.le_trans h1 hR.2.2.1) (Nat.le_trans h2 hR.2.2.2) hd (fun q cA H1 hK1 hP1 hD1 hS1 => ?_)
    refine zsz fun hle => ?_
    have hq := z_fresh hsz hlen hP1 hD1 hle
    subst hq
    have hcA : cA = dA a := by
      obtain ⟨_, _, _, _, _, r1⟩ := (hK1.2 9 (cA, .object (zcn (zec a))) rfl).2
      obtain ⟨_, _, _, _, _, r2⟩ := (hK.2 a _ (ztys_at hat)).2
      exact Option.some.inj (r1.symm.trans r2)
    subst hcA
    exact hP _ hs3 H1 locs ls (by dsimp only; rw [zco_app, hzd]; exact hP1) hS1 hl (by dsimp only; rw [List.length_append, List.length_singleton]; omega)
  | aaload =>
    simp only [zins] at hs
    obtain ⟨rfl, hd⟩ := zde_s hde (fun h => absurd h (Nat.succ_ne_zero _))
    rcases zia_s hs with ⟨i, q, t, hst, hs1⟩ | ⟨i, j, t, hst, hs1⟩
    · obtain ⟨ti, len, g, hq, hs2⟩ := zaq_s hs1
      obtain ⟨hti, hi, hs3⟩ := zif_s hs2
      clear hs hs1 hs2
      subst hst
      simp only [Bool.and_eq_true] at hti
      obtain ⟨ht1, ht2⟩ := hti
      have ht1 := Nat.le_of_ble_eq_true ht1
      have ht2 := Nat.le_of_ble_eq_true ht2
      obtain ⟨C, hC⟩ : ∃ C, (ztys dA)[ti]? = some (dA ti, .object C) := by
        match ti, ht1, ht2 with
        | 3, _, _ => exact ⟨_, rfl⟩
        | 4, _, _ => exact ⟨_, rfl⟩
        | 5, _, _ => exact ⟨_, rfl⟩
        | 6, _, _ => exact ⟨_, rfl⟩
        | 7, _, _ => exact ⟨_, rfl⟩
        | 8, _, _ => exact ⟨_, rfl⟩
        | n + 9, _, h => omega
      refine va_aldq hx hb hK hPw q ti (zco_at hq) hC hi hd ?_
      rw [zv_rf b sc]
      exact hP _ hs3 H locs ls hPw hS hl hlen
    · exact hs1.elim
  | aastore =>
    simp only [zins] at hs
    obtain ⟨rfl, hd⟩ := zde_s hde (fun h => absurd h (Nat.succ_ne_zero _))
    obtain ⟨v, i, q, t, hst, hs1⟩ := zvia_s hs
    obtain ⟨ti, len, g, hq, hs2⟩ := zaq_s hs1
    obtain ⟨hti, hs3⟩ := zif_s hs2
    clear hs hs1 hs2
    subst hst
    simp only [Bool.and_eq_true] at hti
    obtain ⟨ht1, ht2⟩ := hti
    have ht1 := Nat.le_of_ble_eq_true ht1
    have ht2 := Nat.le_of_ble_eq_true ht2
    have hup : ∀ o : Option Nat, (fun j => (va_up g i.toNatClampNeg o j).map (b + ·)) = va_up (fun j => (g j).map (b + ·)) i.toNatClampNeg (o.map (b + ·)) := by
      intro o
      funext j
      unfold va_up
      split <;> rfl
    rcases zrn2_s hs3 with ⟨q2, hv, hs4⟩ | ⟨hv, hi, hs4⟩
    · obtain ⟨fs, hq2, hi, hs5⟩ := zob_s hs4
      clear hs3 hs4
      subst hv
      obtain ⟨r, hr1, hr2⟩ : ∃ r : vw_C, zcls[zec ti]? = some r ∧ (ztys dA)[ti]? = some (dA ti, .object r.1) := by
        match ti, ht1, ht2 with
        | 3, _, _ => exact ⟨_, rfl, rfl⟩
        | 4, _, _ => exact ⟨_, rfl, rfl⟩
        | 5, _, _ => exact ⟨_, rfl, rfl⟩
        | 6, _, _ => exact ⟨_, rfl, rfl⟩
        | 7, _, _ => exact ⟨_, rfl, rfl⟩
        | 8, _, _ => exact ⟨_, rfl, rfl⟩
        | n + 9, _, h => omega
      refine va_astq hx hb hK hPw hD hS q ti q2 (zec ti) (zco_at hq) hr2 (zco_at hq2) hr1 hi hd (fun H1 locs1 hP1 _ hS1 => hP _ hs5 H1 locs1 ls ?_ hS1 hl (by dsimp only; rw [zst_eq, List.length_set]; exact hlen))
      dsimp only
      rw [zst_eq, zco_set]
      have he : zcc b sc dA (.inl (ti, len, .inr (.inr (.inr (.inr (va_up g i.toNatClampNeg (some q2))))))) = .inl (dA ti, len, .inr (.inr (.inr (.inr (va_up (fun j => (g j).map (b + ·)) i.toNatClampNeg (some (b + q2))))))) := by
        have := hup (some q2)
        show (Sum.inl (dA ti, len, Sum.inr (Sum.inr (Sum.inr (Sum.inr (fun j => (va_up g i.toNatClampNeg (some q2) j).map (b + ·)))))) : va_E) = _
        rw [this]
        rfl
      rw [he]
      exact hP1
    · clear hs3
      subst hv
      obtain ⟨C, hC⟩ : ∃ C, (ztys dA)[ti]? = some (dA ti, .object C) := by
        match ti, ht1, ht2 with
        | 3, _, _ => exact ⟨_, rfl⟩
        | 4, _, _ => exact ⟨_, rfl⟩
        | 5, _, _ => exact ⟨_, rfl⟩
        | 6, _, _ => exact ⟨_, rfl⟩
        | 7, _, _ => exact ⟨_, rfl⟩
        | 8, _, _ => exact ⟨_, rfl⟩
        | n + 9, _, h => omega
      refine va_astqN hx hb hK hPw hD hS q ti (zco_at hq) hC hi hd (fun H1 locs1 hP1 _ hS1 => hP _ hs4 H1 locs1 ls ?_ hS1 hl (by dsimp only; rw [zst_eq, List.length_set]; exact hlen))
      dsimp only
      rw [zst_eq, zco_set]
      have he : zcc b sc dA (.inl (ti, len, .inr (.inr (.inr (.inr (va_up g i.toNatClampNeg none)))))) = .inl (dA ti, len, .inr (.inr (.inr (.inr (va_up (fun j => (g j).map (b + ·)) i.toNatClampNeg none))))) := by
        have := hup none
        show (Sum.inl (dA ti, len, Sum.inr (Sum.inr (Sum.inr (Sum.inr (fun j => (va_up g i.toNatClampNeg none j).map (b + ·)))))) : va_E) = _
        rw [this]
        rfl
      rw [he]
      exact hP1
  | invokestatic ix =>
    simp only [zins] at hs
    obtain ⟨rfl, hd⟩ := zde_s hde (fun h => absurd h (Nat.succ_ne_zero _))
    rcases zor_s hs with ⟨h100, hs1⟩ | ⟨h100, hs1⟩
    · obtain ⟨x, y, t, hst, hs2⟩ := z2i_s hs1
      obtain ⟨hc, hs3⟩ := zif_s hs2
      simp only [Bool.and_eq_true] at hc
      obtain ⟨⟨h1, h2⟩, h3, h4⟩ := hc
      have h1 := Nat.le_of_ble_eq_true h1
      have h2 := zrm_s (b := b) (sc := sc) h2
      have h3 := Nat.le_of_ble_eq_true h3
      have h4 := Nat.le_of_ble_eq_true h4
      have hwd : ∀ w ∈ [Cond.methodLink M.1.cls ix Lib.Math.max.name, .static Lib.Math.max.name, .initialized "java/lang/Math", .code Lib.Math.max.name Lib.Math.max.code 2 (some .int)], w.before args s = true := by
        simp only [zrq, h100] at hwd
        exact hwd
      clear hs hs1 hs2
      subst hst
      exact va_mmax hx hb (hml.trans hl.1.symm) hown (hwd _ List.mem_cons_self) (hwd _ (List.mem_cons_of_mem _ List.mem_cons_self)) (hwd _ (List.mem_cons_of_mem _ (List.mem_cons_of_mem _ List.mem_cons_self))) (hwd _ (List.mem_cons_of_mem _ (List.mem_cons_of_mem _ (List.mem_cons_of_mem _ List.mem_cons_self)))) (by omega) (by omega) (Nat.le_trans h3 hR.2.2.1) (Nat.le_trans h4 hR.2.2.2) hd (hP _ hs3 H locs ls hPw hS hl hlen)
    rcases zor_s hs1 with ⟨h101, hs1⟩ | ⟨h101, hs1⟩
    · obtain ⟨x, y, t, hst, hs2⟩ := z2i_s hs1
      obtain ⟨hc, hs3⟩ := zif_s hs2
      simp only [Bool.and_eq_true] at hc
      obtain ⟨⟨h1, h2⟩, h3, h4⟩ := hc
      have h1 := Nat.le_of_ble_eq_true h1
      have h2 := zrm_s (b := b) (sc := sc) h2
      have h3 := Nat.le_of_ble_eq_true h3
      have h4 := Nat.le_of_ble_eq_true h4
      have hwd : ∀ w ∈ [Cond.methodLink M.1.cls ix Lib.Math.min.name, .static Lib.Math.min.name, .initialized "java/lang/Math", .code Lib.Math.min.name Lib.Math.min.code 2 (some .int)], w.before args s = true := by
        simp only [zrq, h100, h101] at hwd
        exact hwd
      clear hs hs1 hs2
      subst hst
      exact va_mmin hx hb (hml.trans hl.1.symm) hown (hwd _ List.mem_cons_self) (hwd _ (List.mem_cons_of_mem _ List.mem_cons_self)) (hwd _ (List.mem_cons_of_mem _ (List.mem_cons_of_mem _ List.mem_cons_self))) (hwd _ (List.mem_cons_of_mem _ (List.mem_cons_of_mem _ (List.mem_cons_of_mem _ List.mem_cons_self)))) (by omega) (by omega) (Nat.le_trans h3 hR.2.2.1) (Nat.le_trans h4 hR.2.2.2) hd (hP _ hs3 H locs ls hPw hS hl hlen)
    rcases zor_s hs1 with ⟨h102, hs1⟩ | ⟨h102, hs1⟩
    · obtain ⟨q0, sp, q1, dp, mm, t, hst, hs2⟩ := zcpy_s hs1
      obtain ⟨hc, hs3⟩ := zif_s hs2
      obtain ⟨t0, n0, f, hq0, hs4⟩ := zai_s hs3
      obtain ⟨t1, n1, g, hq1, hs5⟩ := zai_s hs4
      obtain ⟨ht, ⟨⟨c1, c2, c3⟩, ⟨c4, c5⟩, c6⟩, hs6⟩ := zif_s hs5
      simp only [Bool.and_eq_true] at hc ht
      obtain ⟨h1, h2⟩ := hc
      have h1 := Nat.le_of_ble_eq_true h1
      have h2 := zrm_s (b := b) (sc := sc) h2
      obtain ⟨ht, ht0⟩ := ht
      have ht := Nat.eq_of_beq_eq_true ht
      have ht0 := Nat.le_of_ble_eq_true ht0
      have hwd : ∀ w ∈ [Cond.methodLink M.1.cls ix arraycopyName, .native arraycopyName, .static arraycopyName, .initialized "java/lang/System"], w.before args s = true := by
        simp only [zrq, h100, h101, h102] at hwd
        exact hwd
      clear hs hs1 hs2 hs3 hs4 hs5
      subst hst ht
      have hnw : nativeFrameWords "java/lang/System" "arraycopy" 5 = 7 := by decide +kernel
      have hty : (ztys dA)[t0]? = some (dA t0, zaty t0) ∧ refKind (zaty t0) = false := by
        match t0, ht0 with
        | 0, _ => exact ⟨rfl, rfl⟩
        | 1, _ => exact ⟨rfl, rfl⟩
        | n + 2, h => omega
      refine va_copyi hx hb (hml.trans hl.1.symm) hown (hwd _ List.mem_cons_self) (hwd _ (List.mem_cons_of_mem _ List.mem_cons_self)) (hwd _ (List.mem_cons_of_mem _ (List.mem_cons_of_mem _ List.mem_cons_self))) (hwd _ (List.mem_cons_of_mem _ (List.mem_cons_of_mem _ (List.mem_cons_of_mem _ List.mem_cons_self)))) hK hPw hD hS q0 q1 t0 t0 (zco_at hq0) (zco_at hq1) hty.1 hty.1 hty.2 c1 c2 c3 c4 c5 c6 (by omega) (by rw [hnw]; omega) hd (fun H1 locs1 hP1 _ hS1 => hP _ hs6 H1 locs1 ls ?_ hS1 hl (by dsimp only; rw [zst_eq, List.length_set]; exact hlen))
      dsimp only
      rw [zst_eq, zco_set]
      exact hP1
    obtain ⟨hc, hs2⟩ := zif_s hs1
    simp only [Bool.and_eq_true] at hc
    have hle := Nat.le_of_ble_eq_true hc.1
    have hrm := zrm_s (b := b) (sc := sc) hc.2
    simp only [zrq, h100, h101, h102] at hwd hwz
    simp only [zlk, h100, h101, h102, Bool.false_or] at hlk
    simp only [zcallok, Bool.and_eq_true, decide_eq_true_eq] at hlk
    obtain ⟨⟨⟨⟨hhas, hy1⟩, hy2⟩, hpd⟩, hnest⟩ := hlk
    have hcode : zcode (zmat tab a) ∈ zt tab := hwz _ (List.mem_append_left _ List.mem_cons_self)
    refine z_inv hb hx hml hown hts hgood htab hK hN hsz hR hsnd hP rfl hcode hPw hS hl hlen hhas hs2 ?_
    intro mc' ms' Pc Qc h16 hd1 hMet hbl hpre hf
    have hn : (((S.take bb).reverse).map (zv b sc)).length = bb := by simp [Nat.min_eq_left hle]
    have hstk : S.map (zv b sc) = (((S.take bb).reverse).map (zv b sc)).reverse ++ (S.drop bb).map (zv b sc) := by
      rw [List.map_reverse, List.reverse_reverse, ← List.map_append, List.take_append_drop]
    have hroom : (zroom (d - 1) mc' ms').frames + 1 ≤ R.frames ∧ 8 + ((zmat tab a).2.2.1 + 11) + (zroom (d - 1) mc' ms').locals ≤ R.locals := by
      simp only [zroom]
      constructor <;> omega
    cases hpb : zpub M.1.cls (zmat tab a).1 with
    | true =>
      simp only [zlw, hpb] at hwd
      exact va_runS ⟨hx, hb, hml, hown, hts⟩ hMet ⟨callB_of bb hts (zgood_in hgood hcode) rfl rfl rfl (hwd _ (List.mem_append_left _ (List.mem_cons_of_mem _ (List.mem_cons_of_mem _ List.mem_cons_self)))) (hwd _ (List.mem_append_right _ List.mem_cons_self)) ⟨hy1, hy2, hpd⟩ hroom, hwd _ (List.mem_append_left _ (List.mem_cons_of_mem _ List.mem_cons_self))⟩ ⟨hbl, hpre⟩ rfl hn hl.1 hstk (lv_room hrm) hd hf
    | false =>
      rw [hpb, Bool.false_or] at hnest
      have hnest := of_decide_eq_true hnest
      exact va_runSN ⟨hx, hb, hml, hown, hts⟩ hMet ⟨va_cnB bb hts (zgood_in hgood hcode) rfl rfl rfl (hN.2.1 _ hnest) (hwd _ (List.mem_append_left _ (List.mem_cons_of_mem _ (List.mem_cons_of_mem _ List.mem_cons_self)))) ⟨hy1, hy2, hpd⟩ hroom, hwd _ (List.mem_append_left _ (List.mem_cons_of_mem _ List.mem_cons_self)), trivial⟩ ⟨hbl, hpre⟩ rfl hn hl.1 hstk (lv_room hrm) hd hf
  | invokevirtual ix =>
    simp only [zins] at hs
    obtain ⟨rfl, hd⟩ := zde_s hde (fun h => absurd h (Nat.succ_ne_zero _))
    obtain ⟨hc, hs1⟩ := zif_s hs
    have hle := Nat.le_of_ble_eq_true hc
    obtain ⟨q, t, hst, hs2⟩ := z1r_s hs1
    obtain ⟨fs, hq, hs3⟩ := zob_s hs2
    obtain ⟨hrm, hs4⟩ := zif_s hs3
    have hrm := zrm_s (b := b) (sc := sc) hrm
    simp only [zrq] at hwd hwz
    simp only [zlk, zcallok, Bool.and_eq_true, decide_eq_true_eq] at hlk
    obtain ⟨⟨⟨⟨⟨⟨hhas, hy1⟩, hy2⟩, hpd⟩, hnest⟩, hcls⟩, h11⟩ := hlk
    have h11 := Nat.le_of_ble_eq_true h11
    have hcode : zcode (zmat tab a) ∈ zt tab := hwz _ (List.mem_append_left _ List.mem_cons_self)
    have hmc : zmc tab a = (zmat tab a).2.2.2.2.1 := by unfold zmc; rw [zmat_s hhas]
    rw [hmc] at hq
    refine z_inv hb hx hml hown hts hgood htab hK hN hsz hR hsnd hP rfl hcode hPw hS hl hlen hhas hs4 ?_
    intro mc' ms' Pc Qc h16 hd1 hMet hbl hpre hf
    have hn : (((S.take bb).reverse).map (zv b sc)).length = bb := by simp [Nat.min_eq_left hle]
    have hstk : S.map (zv b sc) = (((S.take bb).reverse).map (zv b sc)).reverse ++ .ref (b + q) :: t.map (zv b sc) := by
      have h0 : S.map (zv b sc) = (S.take bb).map (zv b sc) ++ (S.drop bb).map (zv b sc) := by rw [← List.map_append, List.take_append_drop]
      rw [List.map_reverse, List.reverse_reverse, h0, hst]
      rfl
    have hroom : (zroom (d - 1) mc' ms').frames + 1 ≤ R.frames ∧ 8 + ((zmat tab a).2.2.1 + 11) + (zroom (d - 1) mc' ms').locals ≤ R.locals := by
      simp only [zroom]
      constructor <;> omega
    have hrec : ∃ cell : Cell, H[b + q]? = some cell ∧ cell.vm.isStatics = false ∧ s.vm.findClass (zmat tab a).1.cls = some cell.cls := by
      have h := va_recv hK hPw (zcls_at (Or.inr h11)) (zco_at hq)
      rw [← hcls]
      exact h
    cases hpb : zpub M.1.cls (zmat tab a).1 with
    | true =>
      simp only [zlw, hpb] at hwd
      exact va_runV (C := (zmat tab a).1.cls) ⟨hx, hb, hml, hown, hts⟩ hMet ⟨callB_of bb hts (zgood_in hgood hcode) rfl rfl rfl (hwd _ (List.mem_append_left _ (List.mem_cons_of_mem _ (List.mem_cons_of_mem _ (List.mem_cons_of_mem _ List.mem_cons_self))))) (hwd _ (List.mem_append_right _ List.mem_cons_self)) ⟨hy1, hy2, hpd⟩ hroom, hwd _ (List.mem_append_left _ (List.mem_cons_of_mem _ List.mem_cons_self)), hwd _ (List.mem_append_left _ (List.mem_cons_of_mem _ (List.mem_cons_of_mem _ List.mem_cons_self)))⟩ ⟨hbl, hrec, hpre⟩ rfl hn hl.1 hstk (lv_room hrm) hd hf
    | false =>
      rw [hpb, Bool.false_or] at hnest
      have hnest := of_decide_eq_true hnest
      exact va_runVN (C := (zmat tab a).1.cls) ⟨hx, hb, hml, hown, hts⟩ hMet ⟨va_cnB bb hts (zgood_in hgood hcode) rfl rfl rfl (hN.2.1 _ hnest) (hwd _ (List.mem_append_left _ (List.mem_cons_of_mem _ (List.mem_cons_of_mem _ (List.mem_cons_of_mem _ List.mem_cons_self))))) ⟨hy1, hy2, hpd⟩ hroom, hwd _ (List.mem_append_left _ (List.mem_cons_of_mem _ List.mem_cons_self)), hwd _ (List.mem_append_left _ (List.mem_cons_of_mem _ (List.mem_cons_of_mem _ List.mem_cons_self)))⟩ ⟨hbl, hrec, hpre⟩ rfl hn hl.1 hstk (lv_room hrm) hd hf
  | invokespecial ix =>
    simp only [zins] at hs
    obtain ⟨rfl, hd⟩ := zde_s hde (fun h => absurd h (Nat.succ_ne_zero _))
    rcases zor_s hs with ⟨h99, hs1⟩ | ⟨h99, hs1⟩
    · obtain ⟨q, t, hst, hs2⟩ := z1r_s hs1
      obtain ⟨hc, hs3⟩ := zif_s hs2
      simp only [Bool.and_eq_true] at hc
      have h1 := Nat.le_of_ble_eq_true hc.1
      have h2 := zrm_s (b := b) (sc := sc) hc.2
      simp only [zrq, h99] at hwd
      clear hs hs1 hs2
      subst hst
      exact W.objInit (g := F0 m pc ls ((Value.ref q :: t).map (zv b sc))) (rest := t.map (zv b sc)) hx hb hown (hwd _ List.mem_cons_self) (hwd _ (List.mem_cons_of_mem _ List.mem_cons_self)) (hwd _ (List.mem_cons_of_mem _ (List.mem_cons_of_mem _ List.mem_cons_self))) rfl (hl.1.trans hml.symm) rfl hd (by omega) (by show 2 * 0 + _ + 12 ≤ _; omega) (hP _ hs3 H locs ls hPw hS hl hlen)
    obtain ⟨hc, hs1⟩ := zif_s hs1
    have hle := Nat.le_of_ble_eq_true hc
    obtain ⟨q, t, hst, hs2⟩ := z1r_s hs1
    obtain ⟨hrm, hs4⟩ := zif_s hs2
    have hrm := zrm_s (b := b) (sc := sc) hrm
    simp only [zrq, h99] at hwd hwz
    simp only [zlk, h99, Bool.false_or, zcallok, Bool.and_eq_true, decide_eq_true_eq] at hlk
    obtain ⟨⟨⟨⟨⟨⟨hhas, hy1⟩, hy2⟩, hpd⟩, hnest⟩, hini⟩, hrn⟩ := hlk
    have hcode : zcode (zmat tab a) ∈ zt tab := hwz _ (List.mem_append_left _ List.mem_cons_self)
    refine z_inv hb hx hml hown hts hgood htab hK hN hsz hR hsnd hP rfl hcode hPw hS hl hlen hhas hs4 ?_
    intro mc' ms' Pc Qc h16 hd1 hMet hbl hpre hf
    have hn : (((S.take bb).reverse).map (zv b sc)).length = bb := by simp [Nat.min_eq_left hle]
    have hstk : S.map (zv b sc) = (((S.take bb).reverse).map (zv b sc)).reverse ++ .ref (b + q) :: t.map (zv b sc) := by
      have h0 : S.map (zv b sc) = (S.take bb).map (zv b sc) ++ (S.drop bb).map (zv b sc) := by rw [← List.map_append, List.take_append_drop]
      rw [List.map_reverse, List.reverse_reverse, h0, hst]
      rfl
    have hroom : (zroom (d - 1) mc' ms').frames + 1 ≤ R.frames ∧ 8 + ((zmat tab a).2.2.1 + 11) + (zroom (d - 1) mc' ms').locals ≤ R.locals := by
      simp only [zroom]
      constructor <;> omega
    have hwr : zws tab (zmat tab a) = Cond.code (zmat tab a).1 (zmat tab a).2.1 (zmat tab a).2.2.1 none :: zt tab := by
      show zcode (zmat tab a) :: zt tab = _
      unfold zcode
      rw [hrn]
    cases hpb : zpub M.1.cls (zmat tab a).1 with
    | true =>
      simp only [zlw, hpb] at hwd
      exact va_runI ⟨hx, hb, hml, hown, hts⟩ hMet ⟨callB_of bb hts (zgood_in hgood hcode) hwr rfl rfl (hwd _ (List.mem_append_left _ (List.mem_cons_of_mem _ (List.mem_cons_of_mem _ List.mem_cons_self)))) (hwd _ (List.mem_append_right _ List.mem_cons_self)) ⟨hy1, hy2, hpd⟩ hroom, hini, hwd _ (List.mem_append_left _ (List.mem_cons_of_mem _ List.mem_cons_self))⟩ ⟨hbl, hpre⟩ rfl hn hl.1 hstk (lv_room hrm) hd hf
    | false =>
      rw [hpb, Bool.false_or] at hnest
      have hnest := of_decide_eq_true hnest
      exact va_runIN ⟨hx, hb, hml, hown, hts⟩ hMet ⟨va_cnB bb hts (zgood_in hgood hcode) hwr rfl rfl (hN.2.1 _ hnest) (hwd _ (List.mem_append_left _ (List.mem_cons_of_mem _ (List.mem_cons_of_mem _ List.mem_cons_self)))) ⟨hy1, hy2, hpd⟩ hroom, hini, hwd _ (List.mem_append_left _ (List.mem_cons_of_mem _ List.mem_cons_self))⟩ ⟨hbl, hpre⟩ rfl hn hl.1 hstk (lv_room hrm) hd hf
  | _ => exact hs.elim
end ZU
end
section
/-! THE PURE MACHINE'S CALLS ARE CONTRACTS OF THE MACHINE. -/
theorem zsl_len (b sc : Nat) : ∀ As : List Value, (lg_sl (As.map (zv b sc))).length = (lg_sl As).length
  | [] => rfl
  | v :: t => by
    have h1 := zsl_len b sc t
    unfold lg_sl at h1 ⊢
    rw [List.map_cons, List.flatMap_cons, List.flatMap_cons, List.length_append, List.length_append, h1, zv_cat]
    split <;> rfl
theorem zcall_mem {tab : List zM} {a : Nat} {M : zM} (h : zix tab a = some M) : M ∈ tab := by
  rw [zix_eq] at h
  exact List.mem_of_getElem? h
theorem zentry {b sc n : Nat} {As : List Value} {ls : Array Slot} (h : lv_has ls n (lv_args 0 (As.map (zv b sc)))) : lv_has ls n (zpr b sc (zent n As)) := by
  refine ⟨h.1, h.2.1, fun q hq => h.2.2 q ?_⟩
  obtain ⟨u, h1, h2⟩ := zpr_mem.mp hq
  have h3 := zent_mem b sc As n 0 q.1 u h1
  rw [Nat.zero_add, ← h2] at h3
  exact h3
set_option maxHeartbeats 2000000 in
theorem z_snd {tab : List zM} {l : Launch} (hgood : ∀ w ∈ zt tab, goodWord w = true) (htab : ∀ M' ∈ tab, zokM tab M') : ∀ d, zSnd tab l d := by
  intro d
  induction d with
  | zero => exact fun a As w mc ms Q M _ h => h.elim
  | succ d ih =>
    intro a As w mc ms Q M hM hC
    refine ⟨Nat.succ_le_succ (Nat.zero_le _), fun b sc D dA => ?_⟩
    have hMem := zcall_mem hM
    have hC : (lg_sl As).length ≤ M.2.2.1 ∧ zwp (zCl tab d) d M none tab mc ms Q (0, zent M.2.2.1 As, [], w, 0, 0) := by
      unfold zCl at hC
      rw [hM] at hC
      exact hC
    obtain ⟨hlen, hwp⟩ := hC
    have hpl : plainName M.1.cls = true := by
      have h := (htab _ hMem).2.2
      simp only [Bool.and_eq_true] at h
      exact h.2
    refine Met.ofW (cc := M.2.1) (maxL := M.2.2.1) (ret := M.2.2.2.1) hpl rfl ?_
    intro p e s m args below meth c s₁ B hml hv
    obtain ⟨rfl, hsz, hP, hK, hN⟩ := hv
    have hx := B.exec
    have hb := B.bytes
    have hr := B.returns
    have hts0 := atoms_spec (ws := zws tab M) B.pre
    have hts : ∀ w ∈ zt tab, w.before (As.map (zv b sc)).toArray s = true := fun w hw => hts0 w (List.mem_cons_of_mem _ hw)
    have hown : s.vm.findClass M.1.cls = some m.cls := findClass_of_methodNamed B.named
    have hlocks := B.notSynchronized
    have hnm : meth.name = M.1.name := (name_of_methodNamed B.named B.method).1
    have hl := zentry (lv_entry (As.map (zv b sc)) (n := M.2.2.1) (by rw [zsl_len]; exact hlen))
    rw [lg_entry_eq]
    have key := hwp (zOK p l e (zroom d mc ms) s m (As.map (zv b sc)).toArray below meth c (MQ below (zQc b sc D dA w.length mc Q) (As.map (zv b sc)).toArray s mc ms (fun q => b ≤ q)) b sc D dA M.2.2.1 w.length) ?_
    · exact key s.heap [] _ hP va_S.rf hl rfl
    · rintro y ⟨P, hPR, hstep⟩
      refine z_step (R := zroom d mc ms) hb hx hml hown hts hgood hMem htab hK hN hsz (fun h => hnm.trans h) ⟨Nat.le_refl _, Nat.le_refl _, Nat.le_refl _, Nat.le_refl _⟩ ih (fun q h => by cases h) ?_ hPR hstep
      intro i pc v w' H locs ls k n hd hzr hq hfin hP1 hS1 hlen1
      obtain ⟨rfl, hn⟩ := hfin
      refine W.widen (Nat.le_refl _) hn ?_
      have hF : ∀ t : State, t.heap = H → va_F (fun q => b ≤ q) s t := fun t ht => hS1.F ht
      cases i with
      | ireturn =>
        obtain ⟨x, rfl, hz⟩ := hzr
        have hq2 : ∀ t : State, t.heap = H → s.WarmedH t.vm → zQc b sc D dA w.length k Q (As.map (zv b sc)).toArray s (.returned (some (.int x))) t := fun t ht _ => ⟨⟨some (.int x), w', hq, hlen1, rfl, by rw [ht]; exact hP1⟩, hF t ht⟩
        unfold zret at hz
        simp only at hz
        split at hz
        · rename_i hret
          exact W.iret hx hb (by rw [hr]; exact hret) hq2 hS1.2.2 hd
        · rename_i hret
          refine W.zret (ty := .boolean) hx hb (by rw [hr]; exact hret) ?_ hq2 hS1.2.2 hd
          rcases hz with rfl | rfl <;> rfl
        · exact hz.elim
      | lreturn =>
        obtain ⟨x, rfl, hz⟩ := hzr
        have hq2 : ∀ t : State, t.heap = H → s.WarmedH t.vm → zQc b sc D dA w.length k Q (As.map (zv b sc)).toArray s (.returned (some (.long x))) t := fun t ht _ => ⟨⟨some (.long x), w', hq, hlen1, rfl, by rw [ht]; exact hP1⟩, hF t ht⟩
        unfold zret at hz
        simp only at hz
        split at hz
        · rename_i hret
          exact W.lret hx hb (by rw [hr]; exact hret) hq2 hS1.2.2 hd
        · exact hz.elim
      | areturn =>
        rcases hzr with ⟨rfl, hz⟩ | ⟨q, rfl, hz⟩
        · have hq2 : ∀ t : State, t.heap = H → s.WarmedH t.vm → zQc b sc D dA w.length k Q (As.map (zv b sc)).toArray s (.returned (some .null)) t := fun t ht _ => ⟨⟨some .null, w', hq, hlen1, rfl, by rw [ht]; exact hP1⟩, hF t ht⟩
          unfold zret at hz
          simp only at hz
          split at hz
          · rename_i hret
            exact W.aret hx hb (by rw [hr]; exact hret) (Or.inl ⟨_, rfl⟩) (Or.inl rfl) hq2 hS1.2.2 hd
          · exact hz.elim
        · have hq2 : ∀ t : State, t.heap = H → s.WarmedH t.vm → zQc b sc D dA w.length k Q (As.map (zv b sc)).toArray s (.returned (some (.ref (b + q)))) t := fun t ht _ => ⟨⟨some (.ref q), w', hq, hlen1, rfl, by rw [ht]; exact hP1⟩, hF t ht⟩
          unfold zret at hz
          simp only at hz
          split at hz
          · rename_i hret
            exact W.aret hx hb (by rw [hr]; exact hret) (Or.inl ⟨_, rfl⟩) (Or.inr ⟨_, rfl⟩) hq2 hS1.2.2 hd
          · exact hz.elim
      | return_ =>
        obtain ⟨rfl, hz⟩ := hzr
        exact W.vret hx hb (by rw [hr]; exact hz) (fun t ht _ => ⟨⟨none, w', hq, hlen1, rfl, by rw [ht]; exact hP1⟩, hF t ht⟩) hS1.2.2 hd
      | _ => exact hzr.elim
end
section
/-! THE METHODS OF THE CLASS, OF THE REFERENCE AND OF THE LAW as rows; printed by a program. -/
def qL_law_0 : List zE := [(0, .new 7, 3, 10, 0), (3, .dup, 4, 0, 0), (4, .invokespecial 9, 7, 1, 0), (7, .astore_n 1, 8, 0, 0), (8, .new 10, 11, 11, 0), (11, .dup, 12, 0, 0), (12, .invokespecial 12, 15, 66, 0), (15, .astore_n 2, 16, 0, 0), (16, .iconst 0, 17, 0, 0), (17, .istore_n 3, 18, 0, 0), (18, .iload_n 3, 19, 0, 0), (19, .aload_n 0, 20, 0, 0), (20, .arraylength, 21, 0, 0), (21, .bipush 7, 23, 0, 0), (23, .isub, 24, 0, 0), (24, .if_icmp .gt 1825, 27, 1849, 0), (27, .aload_n 0, 28, 0, 0), (28, .iload_n 3, 29, 0, 0), (29, .iaload, 30, 0, 0), (30, .bipush 63, 32, 0, 0), (32, .iand, 33, 0, 0), (33, .tableswitch 1810 0 35 #[159, 222, 245, 278, 301, 334, 367, 400, 443, 486, 519, 572, 625, 658, 717, 750, 793, 836, 879, 939, 1008, 1099, 1142, 1195, 1248, 1301, 1360, 1419, 1488, 1557, 1616, 1665, 1708, 1741, 1764, 1787], 192, 0, 0), (192, .aload_n 1, 193, 0, 0), (193, .aload_n 0, 194, 0, 0), (194, .iload_n 3, 195, 0, 0), (195, .iconst 1, 196, 0, 0), (196, .iadd, 197, 0, 0), (197, .iaload, 198, 0, 0), (198, .aload_n 0, 199, 0, 0), (199, .iload_n 3, 200, 0, 0), (200, .iconst 2, 201, 0, 0), (201, .iadd, 202, 0, 0), (202, .iaload, 203, 0, 0), (203, .aload_n 0, 204, 0, 0), (204, .iload_n 3, 205, 0, 0), (205, .iconst 3, 206, 0, 0), (206, .iadd, 207, 0, 0), (207, .iaload, 208, 0, 0), (208, .aload_n 0, 209, 0, 0), (209, .iload_n 3, 210, 0, 0), (210, .iconst 4, 211, 0, 0), (211, .iadd, 212, 0, 0), (212, .iaload, 213, 0, 0), (213, .aload_n 0, 214, 0, 0), (214, .iload_n 3, 215, 0, 0), (215, .iconst 5, 216, 0, 0), (216, .iadd, 217, 0, 0), (217, .iaload, 218, 0, 0), (218, .invokevirtual 13, 221, 2, 5), (221, .aload_n 2, 222, 0, 0)]
def qL_law_1 : List zE := [(222, .aload_n 0, 223, 0, 0), (223, .iload_n 3, 224, 0, 0), (224, .iconst 1, 225, 0, 0), (225, .iadd, 226, 0, 0), (226, .iaload, 227, 0, 0), (227, .aload_n 0, 228, 0, 0), (228, .iload_n 3, 229, 0, 0), (229, .iconst 2, 230, 0, 0), (230, .iadd, 231, 0, 0), (231, .iaload, 232, 0, 0), (232, .aload_n 0, 233, 0, 0), (233, .iload_n 3, 234, 0, 0), (234, .iconst 3, 235, 0, 0), (235, .iadd, 236, 0, 0), (236, .iaload, 237, 0, 0), (237, .aload_n 0, 238, 0, 0), (238, .iload_n 3, 239, 0, 0), (239, .iconst 4, 240, 0, 0), (240, .iadd, 241, 0, 0), (241, .iaload, 242, 0, 0), (242, .aload_n 0, 243, 0, 0), (243, .iload_n 3, 244, 0, 0), (244, .iconst 5, 245, 0, 0), (245, .iadd, 246, 0, 0), (246, .iaload, 247, 0, 0), (247, .invokevirtual 17, 250, 67, 5), (250, .if_icmp .eq 1593, 253, 1843, 0), (253, .iconst 0, 254, 0, 0), (254, .ireturn, 255, 0, 0), (255, .aload_n 1, 256, 0, 0), (256, .aload_n 0, 257, 0, 0), (257, .iload_n 3, 258, 0, 0), (258, .iconst 1, 259, 0, 0), (259, .iadd, 260, 0, 0), (260, .iaload, 261, 0, 0), (261, .invokevirtual 18, 264, 3, 1), (264, .aload_n 2, 265, 0, 0), (265, .aload_n 0, 266, 0, 0), (266, .iload_n 3, 267, 0, 0), (267, .iconst 1, 268, 0, 0), (268, .iadd, 269, 0, 0), (269, .iaload, 270, 0, 0), (270, .invokevirtual 22, 273, 68, 1), (273, .if_icmp .eq 1570, 276, 1843, 0), (276, .iconst 0, 277, 0, 0), (277, .ireturn, 278, 0, 0), (278, .aload_n 1, 279, 0, 0), (279, .aload_n 0, 280, 0, 0), (280, .iload_n 3, 281, 0, 0), (281, .iconst 1, 282, 0, 0)]
def qL_law_2 : List zE := [(282, .iadd, 283, 0, 0), (283, .iaload, 284, 0, 0), (284, .aload_n 0, 285, 0, 0), (285, .iload_n 3, 286, 0, 0), (286, .iconst 2, 287, 0, 0), (287, .iadd, 288, 0, 0), (288, .iaload, 289, 0, 0), (289, .invokevirtual 23, 292, 4, 2), (292, .aload_n 2, 293, 0, 0), (293, .aload_n 0, 294, 0, 0), (294, .iload_n 3, 295, 0, 0), (295, .iconst 1, 296, 0, 0), (296, .iadd, 297, 0, 0), (297, .iaload, 298, 0, 0), (298, .aload_n 0, 299, 0, 0), (299, .iload_n 3, 300, 0, 0), (300, .iconst 2, 301, 0, 0), (301, .iadd, 302, 0, 0), (302, .iaload, 303, 0, 0), (303, .invokevirtual 27, 306, 69, 2), (306, .if_icmp .eq 1537, 309, 1843, 0), (309, .iconst 0, 310, 0, 0), (310, .ireturn, 311, 0, 0), (311, .aload_n 1, 312, 0, 0), (312, .aload_n 0, 313, 0, 0), (313, .iload_n 3, 314, 0, 0), (314, .iconst 1, 315, 0, 0), (315, .iadd, 316, 0, 0), (316, .iaload, 317, 0, 0), (317, .invokevirtual 28, 320, 5, 1), (320, .aload_n 2, 321, 0, 0), (321, .aload_n 0, 322, 0, 0), (322, .iload_n 3, 323, 0, 0), (323, .iconst 1, 324, 0, 0), (324, .iadd, 325, 0, 0), (325, .iaload, 326, 0, 0), (326, .invokevirtual 31, 329, 70, 1), (329, .if_icmp .eq 1514, 332, 1843, 0), (332, .iconst 0, 333, 0, 0), (333, .ireturn, 334, 0, 0), (334, .aload_n 1, 335, 0, 0), (335, .aload_n 0, 336, 0, 0), (336, .iload_n 3, 337, 0, 0), (337, .iconst 1, 338, 0, 0), (338, .iadd, 339, 0, 0), (339, .iaload, 340, 0, 0), (340, .aload_n 0, 341, 0, 0), (341, .iload_n 3, 342, 0, 0), (342, .iconst 2, 343, 0, 0), (343, .iadd, 344, 0, 0)]
def qL_law_3 : List zE := [(344, .iaload, 345, 0, 0), (345, .invokevirtual 32, 348, 6, 2), (348, .aload_n 2, 349, 0, 0), (349, .aload_n 0, 350, 0, 0), (350, .iload_n 3, 351, 0, 0), (351, .iconst 1, 352, 0, 0), (352, .iadd, 353, 0, 0), (353, .iaload, 354, 0, 0), (354, .aload_n 0, 355, 0, 0), (355, .iload_n 3, 356, 0, 0), (356, .iconst 2, 357, 0, 0), (357, .iadd, 358, 0, 0), (358, .iaload, 359, 0, 0), (359, .invokevirtual 35, 362, 71, 2), (362, .if_icmp .eq 1481, 365, 1843, 0), (365, .iconst 0, 366, 0, 0), (366, .ireturn, 367, 0, 0), (367, .aload_n 1, 368, 0, 0), (368, .aload_n 0, 369, 0, 0), (369, .iload_n 3, 370, 0, 0), (370, .iconst 1, 371, 0, 0), (371, .iadd, 372, 0, 0), (372, .iaload, 373, 0, 0), (373, .aload_n 0, 374, 0, 0), (374, .iload_n 3, 375, 0, 0), (375, .iconst 2, 376, 0, 0), (376, .iadd, 377, 0, 0), (377, .iaload, 378, 0, 0), (378, .invokevirtual 36, 381, 7, 2), (381, .aload_n 2, 382, 0, 0), (382, .aload_n 0, 383, 0, 0), (383, .iload_n 3, 384, 0, 0), (384, .iconst 1, 385, 0, 0), (385, .iadd, 386, 0, 0), (386, .iaload, 387, 0, 0), (387, .aload_n 0, 388, 0, 0), (388, .iload_n 3, 389, 0, 0), (389, .iconst 2, 390, 0, 0), (390, .iadd, 391, 0, 0), (391, .iaload, 392, 0, 0), (392, .invokevirtual 39, 395, 72, 2), (395, .if_icmp .eq 1448, 398, 1843, 0), (398, .iconst 0, 399, 0, 0), (399, .ireturn, 400, 0, 0), (400, .aload_n 1, 401, 0, 0), (401, .aload_n 0, 402, 0, 0), (402, .iload_n 3, 403, 0, 0), (403, .iconst 1, 404, 0, 0), (404, .iadd, 405, 0, 0), (405, .iaload, 406, 0, 0)]
def qL_law_4 : List zE := [(406, .aload_n 0, 407, 0, 0), (407, .iload_n 3, 408, 0, 0), (408, .iconst 2, 409, 0, 0), (409, .iadd, 410, 0, 0), (410, .iaload, 411, 0, 0), (411, .invokevirtual 40, 414, 8, 2), (414, .aload_n 2, 415, 0, 0), (415, .aload_n 0, 416, 0, 0), (416, .iload_n 3, 417, 0, 0), (417, .iconst 1, 418, 0, 0), (418, .iadd, 419, 0, 0), (419, .iaload, 420, 0, 0), (420, .aload_n 0, 421, 0, 0), (421, .iload_n 3, 422, 0, 0), (422, .iconst 2, 423, 0, 0), (423, .iadd, 424, 0, 0), (424, .iaload, 425, 0, 0), (425, .invokevirtual 43, 428, 73, 2), (428, .if_icmp .eq 1415, 431, 1843, 0), (431, .iconst 0, 432, 0, 0), (432, .ireturn, 433, 0, 0), (433, .aload_n 1, 434, 0, 0), (434, .aload_n 0, 435, 0, 0), (435, .iload_n 3, 436, 0, 0), (436, .iconst 1, 437, 0, 0), (437, .iadd, 438, 0, 0), (438, .iaload, 439, 0, 0), (439, .aload_n 0, 440, 0, 0), (440, .iload_n 3, 441, 0, 0), (441, .iconst 2, 442, 0, 0), (442, .iadd, 443, 0, 0), (443, .iaload, 444, 0, 0), (444, .aload_n 0, 445, 0, 0), (445, .iload_n 3, 446, 0, 0), (446, .iconst 3, 447, 0, 0), (447, .iadd, 448, 0, 0), (448, .iaload, 449, 0, 0), (449, .invokevirtual 44, 452, 9, 3), (452, .aload_n 2, 453, 0, 0), (453, .aload_n 0, 454, 0, 0), (454, .iload_n 3, 455, 0, 0), (455, .iconst 1, 456, 0, 0), (456, .iadd, 457, 0, 0), (457, .iaload, 458, 0, 0), (458, .aload_n 0, 459, 0, 0), (459, .iload_n 3, 460, 0, 0), (460, .iconst 2, 461, 0, 0), (461, .iadd, 462, 0, 0), (462, .iaload, 463, 0, 0), (463, .aload_n 0, 464, 0, 0)]
def qL_law_5 : List zE := [(464, .iload_n 3, 465, 0, 0), (465, .iconst 3, 466, 0, 0), (466, .iadd, 467, 0, 0), (467, .iaload, 468, 0, 0), (468, .invokevirtual 48, 471, 74, 3), (471, .if_icmp .eq 1372, 474, 1843, 0), (474, .iconst 0, 475, 0, 0), (475, .ireturn, 476, 0, 0), (476, .aload_n 1, 477, 0, 0), (477, .aload_n 0, 478, 0, 0), (478, .iload_n 3, 479, 0, 0), (479, .iconst 1, 480, 0, 0), (480, .iadd, 481, 0, 0), (481, .iaload, 482, 0, 0), (482, .aload_n 0, 483, 0, 0), (483, .iload_n 3, 484, 0, 0), (484, .iconst 2, 485, 0, 0), (485, .iadd, 486, 0, 0), (486, .iaload, 487, 0, 0), (487, .aload_n 0, 488, 0, 0), (488, .iload_n 3, 489, 0, 0), (489, .iconst 3, 490, 0, 0), (490, .iadd, 491, 0, 0), (491, .iaload, 492, 0, 0), (492, .invokevirtual 49, 495, 10, 3), (495, .aload_n 2, 496, 0, 0), (496, .aload_n 0, 497, 0, 0), (497, .iload_n 3, 498, 0, 0), (498, .iconst 1, 499, 0, 0), (499, .iadd, 500, 0, 0), (500, .iaload, 501, 0, 0), (501, .aload_n 0, 502, 0, 0), (502, .iload_n 3, 503, 0, 0), (503, .iconst 2, 504, 0, 0), (504, .iadd, 505, 0, 0), (505, .iaload, 506, 0, 0), (506, .aload_n 0, 507, 0, 0), (507, .iload_n 3, 508, 0, 0), (508, .iconst 3, 509, 0, 0), (509, .iadd, 510, 0, 0), (510, .iaload, 511, 0, 0), (511, .invokevirtual 52, 514, 75, 3), (514, .if_icmp .eq 1329, 517, 1843, 0), (517, .iconst 0, 518, 0, 0), (518, .ireturn, 519, 0, 0), (519, .aload_n 1, 520, 0, 0), (520, .aload_n 0, 521, 0, 0), (521, .iload_n 3, 522, 0, 0), (522, .iconst 1, 523, 0, 0), (523, .iadd, 524, 0, 0)]
def qL_law_6 : List zE := [(524, .iaload, 525, 0, 0), (525, .aload_n 0, 526, 0, 0), (526, .iload_n 3, 527, 0, 0), (527, .iconst 2, 528, 0, 0), (528, .iadd, 529, 0, 0), (529, .iaload, 530, 0, 0), (530, .invokevirtual 53, 533, 11, 2), (533, .aload_n 2, 534, 0, 0), (534, .aload_n 0, 535, 0, 0), (535, .iload_n 3, 536, 0, 0), (536, .iconst 1, 537, 0, 0), (537, .iadd, 538, 0, 0), (538, .iaload, 539, 0, 0), (539, .aload_n 0, 540, 0, 0), (540, .iload_n 3, 541, 0, 0), (541, .iconst 2, 542, 0, 0), (542, .iadd, 543, 0, 0), (543, .iaload, 544, 0, 0), (544, .invokevirtual 56, 547, 76, 2), (547, .if_icmp .eq 1296, 550, 1843, 0), (550, .iconst 0, 551, 0, 0), (551, .ireturn, 552, 0, 0), (552, .aload_n 1, 553, 0, 0), (553, .aload_n 0, 554, 0, 0), (554, .iload_n 3, 555, 0, 0), (555, .iconst 1, 556, 0, 0), (556, .iadd, 557, 0, 0), (557, .iaload, 558, 0, 0), (558, .aload_n 0, 559, 0, 0), (559, .iload_n 3, 560, 0, 0), (560, .iconst 2, 561, 0, 0), (561, .iadd, 562, 0, 0), (562, .iaload, 563, 0, 0), (563, .aload_n 0, 564, 0, 0), (564, .iload_n 3, 565, 0, 0), (565, .iconst 3, 566, 0, 0), (566, .iadd, 567, 0, 0), (567, .iaload, 568, 0, 0), (568, .aload_n 0, 569, 0, 0), (569, .iload_n 3, 570, 0, 0), (570, .iconst 4, 571, 0, 0), (571, .iadd, 572, 0, 0), (572, .iaload, 573, 0, 0), (573, .invokevirtual 57, 576, 12, 4), (576, .aload_n 2, 577, 0, 0), (577, .aload_n 0, 578, 0, 0), (578, .iload_n 3, 579, 0, 0), (579, .iconst 1, 580, 0, 0), (580, .iadd, 581, 0, 0), (581, .iaload, 582, 0, 0)]
def qL_law_7 : List zE := [(582, .aload_n 0, 583, 0, 0), (583, .iload_n 3, 584, 0, 0), (584, .iconst 2, 585, 0, 0), (585, .iadd, 586, 0, 0), (586, .iaload, 587, 0, 0), (587, .aload_n 0, 588, 0, 0), (588, .iload_n 3, 589, 0, 0), (589, .iconst 3, 590, 0, 0), (590, .iadd, 591, 0, 0), (591, .iaload, 592, 0, 0), (592, .aload_n 0, 593, 0, 0), (593, .iload_n 3, 594, 0, 0), (594, .iconst 4, 595, 0, 0), (595, .iadd, 596, 0, 0), (596, .iaload, 597, 0, 0), (597, .invokevirtual 61, 600, 77, 4), (600, .if_icmp .eq 1243, 603, 1843, 0), (603, .iconst 0, 604, 0, 0), (604, .ireturn, 605, 0, 0), (605, .aload_n 1, 606, 0, 0), (606, .aload_n 0, 607, 0, 0), (607, .iload_n 3, 608, 0, 0), (608, .iconst 1, 609, 0, 0), (609, .iadd, 610, 0, 0), (610, .iaload, 611, 0, 0), (611, .aload_n 0, 612, 0, 0), (612, .iload_n 3, 613, 0, 0), (613, .iconst 2, 614, 0, 0), (614, .iadd, 615, 0, 0), (615, .iaload, 616, 0, 0), (616, .aload_n 0, 617, 0, 0), (617, .iload_n 3, 618, 0, 0), (618, .iconst 3, 619, 0, 0), (619, .iadd, 620, 0, 0), (620, .iaload, 621, 0, 0), (621, .aload_n 0, 622, 0, 0), (622, .iload_n 3, 623, 0, 0), (623, .iconst 4, 624, 0, 0), (624, .iadd, 625, 0, 0), (625, .iaload, 626, 0, 0), (626, .invokevirtual 62, 629, 13, 4), (629, .aload_n 2, 630, 0, 0), (630, .aload_n 0, 631, 0, 0), (631, .iload_n 3, 632, 0, 0), (632, .iconst 1, 633, 0, 0), (633, .iadd, 634, 0, 0), (634, .iaload, 635, 0, 0), (635, .aload_n 0, 636, 0, 0), (636, .iload_n 3, 637, 0, 0), (637, .iconst 2, 638, 0, 0)]
def qL_law_8 : List zE := [(638, .iadd, 639, 0, 0), (639, .iaload, 640, 0, 0), (640, .aload_n 0, 641, 0, 0), (641, .iload_n 3, 642, 0, 0), (642, .iconst 3, 643, 0, 0), (643, .iadd, 644, 0, 0), (644, .iaload, 645, 0, 0), (645, .aload_n 0, 646, 0, 0), (646, .iload_n 3, 647, 0, 0), (647, .iconst 4, 648, 0, 0), (648, .iadd, 649, 0, 0), (649, .iaload, 650, 0, 0), (650, .invokevirtual 65, 653, 78, 4), (653, .if_icmp .eq 1190, 656, 1843, 0), (656, .iconst 0, 657, 0, 0), (657, .ireturn, 658, 0, 0), (658, .aload_n 1, 659, 0, 0), (659, .aload_n 0, 660, 0, 0), (660, .iload_n 3, 661, 0, 0), (661, .iconst 1, 662, 0, 0), (662, .iadd, 663, 0, 0), (663, .iaload, 664, 0, 0), (664, .aload_n 0, 665, 0, 0), (665, .iload_n 3, 666, 0, 0), (666, .iconst 2, 667, 0, 0), (667, .iadd, 668, 0, 0), (668, .iaload, 669, 0, 0), (669, .invokevirtual 66, 672, 14, 2), (672, .aload_n 2, 673, 0, 0), (673, .aload_n 0, 674, 0, 0), (674, .iload_n 3, 675, 0, 0), (675, .iconst 1, 676, 0, 0), (676, .iadd, 677, 0, 0), (677, .iaload, 678, 0, 0), (678, .aload_n 0, 679, 0, 0), (679, .iload_n 3, 680, 0, 0), (680, .iconst 2, 681, 0, 0), (681, .iadd, 682, 0, 0), (682, .iaload, 683, 0, 0), (683, .invokevirtual 69, 686, 79, 2), (686, .if_icmp .eq 1157, 689, 1843, 0), (689, .iconst 0, 690, 0, 0), (690, .ireturn, 691, 0, 0), (691, .aload_n 1, 692, 0, 0), (692, .aload_n 0, 693, 0, 0), (693, .iload_n 3, 694, 0, 0), (694, .iconst 1, 695, 0, 0), (695, .iadd, 696, 0, 0), (696, .iaload, 697, 0, 0), (697, .aload_n 0, 698, 0, 0)]
def qL_law_9 : List zE := [(698, .iload_n 3, 699, 0, 0), (699, .iconst 2, 700, 0, 0), (700, .iadd, 701, 0, 0), (701, .iaload, 702, 0, 0), (702, .aload_n 0, 703, 0, 0), (703, .iload_n 3, 704, 0, 0), (704, .iconst 3, 705, 0, 0), (705, .iadd, 706, 0, 0), (706, .iaload, 707, 0, 0), (707, .ifCond .eq 7, 710, 714, 0), (710, .iconst 1, 711, 0, 0), (711, .goto 4, 714, 715, 0), (714, .iconst 0, 715, 0, 0), (715, .invokevirtual 70, 718, 15, 3), (718, .aload_n 2, 719, 0, 0), (719, .aload_n 0, 720, 0, 0), (720, .iload_n 3, 721, 0, 0), (721, .iconst 1, 722, 0, 0), (722, .iadd, 723, 0, 0), (723, .iaload, 724, 0, 0), (724, .aload_n 0, 725, 0, 0), (725, .iload_n 3, 726, 0, 0), (726, .iconst 2, 727, 0, 0), (727, .iadd, 728, 0, 0), (728, .iaload, 729, 0, 0), (729, .aload_n 0, 730, 0, 0), (730, .iload_n 3, 731, 0, 0), (731, .iconst 3, 732, 0, 0), (732, .iadd, 733, 0, 0), (733, .iaload, 734, 0, 0), (734, .ifCond .eq 7, 737, 741, 0), (737, .iconst 1, 738, 0, 0), (738, .goto 4, 741, 742, 0), (741, .iconst 0, 742, 0, 0), (742, .invokevirtual 74, 745, 80, 3), (745, .if_icmp .eq 1098, 748, 1843, 0), (748, .iconst 0, 749, 0, 0), (749, .ireturn, 750, 0, 0), (750, .aload_n 1, 751, 0, 0), (751, .aload_n 0, 752, 0, 0), (752, .iload_n 3, 753, 0, 0), (753, .iconst 1, 754, 0, 0), (754, .iadd, 755, 0, 0), (755, .iaload, 756, 0, 0), (756, .aload_n 0, 757, 0, 0), (757, .iload_n 3, 758, 0, 0), (758, .iconst 2, 759, 0, 0), (759, .iadd, 760, 0, 0), (760, .iaload, 761, 0, 0), (761, .invokevirtual 75, 764, 16, 2)]
def qL_law_10 : List zE := [(764, .aload_n 2, 765, 0, 0), (765, .aload_n 0, 766, 0, 0), (766, .iload_n 3, 767, 0, 0), (767, .iconst 1, 768, 0, 0), (768, .iadd, 769, 0, 0), (769, .iaload, 770, 0, 0), (770, .aload_n 0, 771, 0, 0), (771, .iload_n 3, 772, 0, 0), (772, .iconst 2, 773, 0, 0), (773, .iadd, 774, 0, 0), (774, .iaload, 775, 0, 0), (775, .invokevirtual 78, 778, 81, 2), (778, .if_icmp .eq 1065, 781, 1843, 0), (781, .iconst 0, 782, 0, 0), (782, .ireturn, 783, 0, 0), (783, .aload_n 1, 784, 0, 0), (784, .aload_n 0, 785, 0, 0), (785, .iload_n 3, 786, 0, 0), (786, .iconst 1, 787, 0, 0), (787, .iadd, 788, 0, 0), (788, .iaload, 789, 0, 0), (789, .aload_n 0, 790, 0, 0), (790, .iload_n 3, 791, 0, 0), (791, .iconst 2, 792, 0, 0), (792, .iadd, 793, 0, 0), (793, .iaload, 794, 0, 0), (794, .aload_n 0, 795, 0, 0), (795, .iload_n 3, 796, 0, 0), (796, .iconst 3, 797, 0, 0), (797, .iadd, 798, 0, 0), (798, .iaload, 799, 0, 0), (799, .invokevirtual 79, 802, 17, 3), (802, .aload_n 2, 803, 0, 0), (803, .aload_n 0, 804, 0, 0), (804, .iload_n 3, 805, 0, 0), (805, .iconst 1, 806, 0, 0), (806, .iadd, 807, 0, 0), (807, .iaload, 808, 0, 0), (808, .aload_n 0, 809, 0, 0), (809, .iload_n 3, 810, 0, 0), (810, .iconst 2, 811, 0, 0), (811, .iadd, 812, 0, 0), (812, .iaload, 813, 0, 0), (813, .aload_n 0, 814, 0, 0), (814, .iload_n 3, 815, 0, 0), (815, .iconst 3, 816, 0, 0), (816, .iadd, 817, 0, 0), (817, .iaload, 818, 0, 0), (818, .invokevirtual 82, 821, 82, 3), (821, .if_icmp .eq 1022, 824, 1843, 0)]
def qL_law_11 : List zE := [(824, .iconst 0, 825, 0, 0), (825, .ireturn, 826, 0, 0), (826, .aload_n 1, 827, 0, 0), (827, .aload_n 0, 828, 0, 0), (828, .iload_n 3, 829, 0, 0), (829, .iconst 1, 830, 0, 0), (830, .iadd, 831, 0, 0), (831, .iaload, 832, 0, 0), (832, .aload_n 0, 833, 0, 0), (833, .iload_n 3, 834, 0, 0), (834, .iconst 2, 835, 0, 0), (835, .iadd, 836, 0, 0), (836, .iaload, 837, 0, 0), (837, .aload_n 0, 838, 0, 0), (838, .iload_n 3, 839, 0, 0), (839, .iconst 3, 840, 0, 0), (840, .iadd, 841, 0, 0), (841, .iaload, 842, 0, 0), (842, .invokevirtual 83, 845, 18, 3), (845, .aload_n 2, 846, 0, 0), (846, .aload_n 0, 847, 0, 0), (847, .iload_n 3, 848, 0, 0), (848, .iconst 1, 849, 0, 0), (849, .iadd, 850, 0, 0), (850, .iaload, 851, 0, 0), (851, .aload_n 0, 852, 0, 0), (852, .iload_n 3, 853, 0, 0), (853, .iconst 2, 854, 0, 0), (854, .iadd, 855, 0, 0), (855, .iaload, 856, 0, 0), (856, .aload_n 0, 857, 0, 0), (857, .iload_n 3, 858, 0, 0), (858, .iconst 3, 859, 0, 0), (859, .iadd, 860, 0, 0), (860, .iaload, 861, 0, 0), (861, .invokevirtual 86, 864, 83, 3), (864, .if_icmp .eq 979, 867, 1843, 0), (867, .iconst 0, 868, 0, 0), (868, .ireturn, 869, 0, 0), (869, .aload_n 1, 870, 0, 0), (870, .aload_n 0, 871, 0, 0), (871, .iload_n 3, 872, 0, 0), (872, .iconst 1, 873, 0, 0), (873, .iadd, 874, 0, 0), (874, .iaload, 875, 0, 0), (875, .aload_n 0, 876, 0, 0), (876, .iload_n 3, 877, 0, 0), (877, .iconst 2, 878, 0, 0), (878, .iadd, 879, 0, 0), (879, .iaload, 880, 0, 0)]
def qL_law_12 : List zE := [(880, .aload_n 0, 881, 0, 0), (881, .iload_n 3, 882, 0, 0), (882, .iconst 3, 883, 0, 0), (883, .iadd, 884, 0, 0), (884, .iaload, 885, 0, 0), (885, .invokevirtual 87, 888, 19, 3), (888, .aload_n 2, 889, 0, 0), (889, .aload_n 0, 890, 0, 0), (890, .iload_n 3, 891, 0, 0), (891, .iconst 1, 892, 0, 0), (892, .iadd, 893, 0, 0), (893, .iaload, 894, 0, 0), (894, .aload_n 0, 895, 0, 0), (895, .iload_n 3, 896, 0, 0), (896, .iconst 2, 897, 0, 0), (897, .iadd, 898, 0, 0), (898, .iaload, 899, 0, 0), (899, .aload_n 0, 900, 0, 0), (900, .iload_n 3, 901, 0, 0), (901, .iconst 3, 902, 0, 0), (902, .iadd, 903, 0, 0), (903, .iaload, 904, 0, 0), (904, .invokevirtual 90, 907, 84, 3), (907, .if_icmp .eq 936, 910, 1843, 0), (910, .iconst 0, 911, 0, 0), (911, .ireturn, 912, 0, 0), (912, .aload_n 1, 913, 0, 0), (913, .aload_n 0, 914, 0, 0), (914, .iload_n 3, 915, 0, 0), (915, .iconst 1, 916, 0, 0), (916, .iadd, 917, 0, 0), (917, .iaload, 918, 0, 0), (918, .aload_n 0, 919, 0, 0), (919, .iload_n 3, 920, 0, 0), (920, .iconst 2, 921, 0, 0), (921, .iadd, 922, 0, 0), (922, .iaload, 923, 0, 0), (923, .aload_n 0, 924, 0, 0), (924, .iload_n 3, 925, 0, 0), (925, .iconst 3, 926, 0, 0), (926, .iadd, 927, 0, 0), (927, .iaload, 928, 0, 0), (928, .ifCond .eq 7, 931, 935, 0), (931, .iconst 1, 932, 0, 0), (932, .goto 4, 935, 936, 0), (935, .iconst 0, 936, 0, 0), (936, .invokevirtual 91, 939, 20, 3), (939, .aload_n 2, 940, 0, 0), (940, .aload_n 0, 941, 0, 0), (941, .iload_n 3, 942, 0, 0)]
def qL_law_13 : List zE := [(942, .iconst 1, 943, 0, 0), (943, .iadd, 944, 0, 0), (944, .iaload, 945, 0, 0), (945, .aload_n 0, 946, 0, 0), (946, .iload_n 3, 947, 0, 0), (947, .iconst 2, 948, 0, 0), (948, .iadd, 949, 0, 0), (949, .iaload, 950, 0, 0), (950, .aload_n 0, 951, 0, 0), (951, .iload_n 3, 952, 0, 0), (952, .iconst 3, 953, 0, 0), (953, .iadd, 954, 0, 0), (954, .iaload, 955, 0, 0), (955, .ifCond .eq 7, 958, 962, 0), (958, .iconst 1, 959, 0, 0), (959, .goto 4, 962, 963, 0), (962, .iconst 0, 963, 0, 0), (963, .invokevirtual 95, 966, 85, 3), (966, .lcmp, 967, 0, 0), (967, .ifCond .eq 876, 970, 1843, 0), (970, .iconst 0, 971, 0, 0), (971, .ireturn, 972, 0, 0), (972, .aload_n 1, 973, 0, 0), (973, .aload_n 0, 974, 0, 0), (974, .iload_n 3, 975, 0, 0), (975, .iconst 1, 976, 0, 0), (976, .iadd, 977, 0, 0), (977, .iaload, 978, 0, 0), (978, .aload_n 0, 979, 0, 0), (979, .iload_n 3, 980, 0, 0), (980, .iconst 2, 981, 0, 0), (981, .iadd, 982, 0, 0), (982, .iaload, 983, 0, 0), (983, .aload_n 0, 984, 0, 0), (984, .iload_n 3, 985, 0, 0), (985, .iconst 3, 986, 0, 0), (986, .iadd, 987, 0, 0), (987, .iaload, 988, 0, 0), (988, .aload_n 0, 989, 0, 0), (989, .iload_n 3, 990, 0, 0), (990, .iconst 4, 991, 0, 0), (991, .iadd, 992, 0, 0), (992, .iaload, 993, 0, 0), (993, .ifCond .eq 7, 996, 1000, 0), (996, .iconst 1, 997, 0, 0), (997, .goto 4, 1000, 1001, 0), (1000, .iconst 0, 1001, 0, 0), (1001, .invokevirtual 96, 1004, 21, 4), (1004, .aload_n 2, 1005, 0, 0), (1005, .aload_n 0, 1006, 0, 0)]
def qL_law_14 : List zE := [(1006, .iload_n 3, 1007, 0, 0), (1007, .iconst 1, 1008, 0, 0), (1008, .iadd, 1009, 0, 0), (1009, .iaload, 1010, 0, 0), (1010, .aload_n 0, 1011, 0, 0), (1011, .iload_n 3, 1012, 0, 0), (1012, .iconst 2, 1013, 0, 0), (1013, .iadd, 1014, 0, 0), (1014, .iaload, 1015, 0, 0), (1015, .aload_n 0, 1016, 0, 0), (1016, .iload_n 3, 1017, 0, 0), (1017, .iconst 3, 1018, 0, 0), (1018, .iadd, 1019, 0, 0), (1019, .iaload, 1020, 0, 0), (1020, .aload_n 0, 1021, 0, 0), (1021, .iload_n 3, 1022, 0, 0), (1022, .iconst 4, 1023, 0, 0), (1023, .iadd, 1024, 0, 0), (1024, .iaload, 1025, 0, 0), (1025, .ifCond .eq 7, 1028, 1032, 0), (1028, .iconst 1, 1029, 0, 0), (1029, .goto 4, 1032, 1033, 0), (1032, .iconst 0, 1033, 0, 0), (1033, .invokevirtual 100, 1036, 86, 4), (1036, .if_icmp .eq 807, 1039, 1843, 0), (1039, .iconst 0, 1040, 0, 0), (1040, .ireturn, 1041, 0, 0), (1041, .aload_n 1, 1042, 0, 0), (1042, .aload_n 0, 1043, 0, 0), (1043, .iload_n 3, 1044, 0, 0), (1044, .iconst 1, 1045, 0, 0), (1045, .iadd, 1046, 0, 0), (1046, .iaload, 1047, 0, 0), (1047, .aload_n 0, 1048, 0, 0), (1048, .iload_n 3, 1049, 0, 0), (1049, .iconst 2, 1050, 0, 0), (1050, .iadd, 1051, 0, 0), (1051, .iaload, 1052, 0, 0), (1052, .aload_n 0, 1053, 0, 0), (1053, .iload_n 3, 1054, 0, 0), (1054, .iconst 3, 1055, 0, 0), (1055, .iadd, 1056, 0, 0), (1056, .iaload, 1057, 0, 0), (1057, .aload_n 0, 1058, 0, 0), (1058, .iload_n 3, 1059, 0, 0), (1059, .iconst 4, 1060, 0, 0), (1060, .iadd, 1061, 0, 0), (1061, .iaload, 1062, 0, 0), (1062, .aload_n 0, 1063, 0, 0), (1063, .iload_n 3, 1064, 0, 0)]
def qL_law_15 : List zE := [(1064, .iconst 5, 1065, 0, 0), (1065, .iadd, 1066, 0, 0), (1066, .iaload, 1067, 0, 0), (1067, .aload_n 0, 1068, 0, 0), (1068, .iload_n 3, 1069, 0, 0), (1069, .bipush 6, 1071, 0, 0), (1071, .iadd, 1072, 0, 0), (1072, .iaload, 1073, 0, 0), (1073, .ifCond .eq 7, 1076, 1080, 0), (1076, .iconst 1, 1077, 0, 0), (1077, .goto 4, 1080, 1081, 0), (1080, .iconst 0, 1081, 0, 0), (1081, .invokevirtual 101, 1084, 22, 6), (1084, .aload_n 2, 1085, 0, 0), (1085, .aload_n 0, 1086, 0, 0), (1086, .iload_n 3, 1087, 0, 0), (1087, .iconst 1, 1088, 0, 0), (1088, .iadd, 1089, 0, 0), (1089, .iaload, 1090, 0, 0), (1090, .aload_n 0, 1091, 0, 0), (1091, .iload_n 3, 1092, 0, 0), (1092, .iconst 2, 1093, 0, 0), (1093, .iadd, 1094, 0, 0), (1094, .iaload, 1095, 0, 0), (1095, .aload_n 0, 1096, 0, 0), (1096, .iload_n 3, 1097, 0, 0), (1097, .iconst 3, 1098, 0, 0), (1098, .iadd, 1099, 0, 0), (1099, .iaload, 1100, 0, 0), (1100, .aload_n 0, 1101, 0, 0), (1101, .iload_n 3, 1102, 0, 0), (1102, .iconst 4, 1103, 0, 0), (1103, .iadd, 1104, 0, 0), (1104, .iaload, 1105, 0, 0), (1105, .aload_n 0, 1106, 0, 0), (1106, .iload_n 3, 1107, 0, 0), (1107, .iconst 5, 1108, 0, 0), (1108, .iadd, 1109, 0, 0), (1109, .iaload, 1110, 0, 0), (1110, .aload_n 0, 1111, 0, 0), (1111, .iload_n 3, 1112, 0, 0), (1112, .bipush 6, 1114, 0, 0), (1114, .iadd, 1115, 0, 0), (1115, .iaload, 1116, 0, 0), (1116, .ifCond .eq 7, 1119, 1123, 0), (1119, .iconst 1, 1120, 0, 0), (1120, .goto 4, 1123, 1124, 0), (1123, .iconst 0, 1124, 0, 0), (1124, .invokevirtual 105, 1127, 87, 6), (1127, .if_icmp .eq 716, 1130, 1843, 0)]
def qL_law_16 : List zE := [(1130, .iconst 0, 1131, 0, 0), (1131, .ireturn, 1132, 0, 0), (1132, .aload_n 1, 1133, 0, 0), (1133, .aload_n 0, 1134, 0, 0), (1134, .iload_n 3, 1135, 0, 0), (1135, .iconst 1, 1136, 0, 0), (1136, .iadd, 1137, 0, 0), (1137, .iaload, 1138, 0, 0), (1138, .aload_n 0, 1139, 0, 0), (1139, .iload_n 3, 1140, 0, 0), (1140, .iconst 2, 1141, 0, 0), (1141, .iadd, 1142, 0, 0), (1142, .iaload, 1143, 0, 0), (1143, .aload_n 0, 1144, 0, 0), (1144, .iload_n 3, 1145, 0, 0), (1145, .iconst 3, 1146, 0, 0), (1146, .iadd, 1147, 0, 0), (1147, .iaload, 1148, 0, 0), (1148, .invokevirtual 106, 1151, 23, 3), (1151, .aload_n 2, 1152, 0, 0), (1152, .aload_n 0, 1153, 0, 0), (1153, .iload_n 3, 1154, 0, 0), (1154, .iconst 1, 1155, 0, 0), (1155, .iadd, 1156, 0, 0), (1156, .iaload, 1157, 0, 0), (1157, .aload_n 0, 1158, 0, 0), (1158, .iload_n 3, 1159, 0, 0), (1159, .iconst 2, 1160, 0, 0), (1160, .iadd, 1161, 0, 0), (1161, .iaload, 1162, 0, 0), (1162, .aload_n 0, 1163, 0, 0), (1163, .iload_n 3, 1164, 0, 0), (1164, .iconst 3, 1165, 0, 0), (1165, .iadd, 1166, 0, 0), (1166, .iaload, 1167, 0, 0), (1167, .invokevirtual 109, 1170, 88, 3), (1170, .if_icmp .eq 673, 1173, 1843, 0), (1173, .iconst 0, 1174, 0, 0), (1174, .ireturn, 1175, 0, 0), (1175, .aload_n 1, 1176, 0, 0), (1176, .aload_n 0, 1177, 0, 0), (1177, .iload_n 3, 1178, 0, 0), (1178, .iconst 1, 1179, 0, 0), (1179, .iadd, 1180, 0, 0), (1180, .iaload, 1181, 0, 0), (1181, .aload_n 0, 1182, 0, 0), (1182, .iload_n 3, 1183, 0, 0), (1183, .iconst 2, 1184, 0, 0), (1184, .iadd, 1185, 0, 0), (1185, .iaload, 1186, 0, 0)]
def qL_law_17 : List zE := [(1186, .aload_n 0, 1187, 0, 0), (1187, .iload_n 3, 1188, 0, 0), (1188, .iconst 3, 1189, 0, 0), (1189, .iadd, 1190, 0, 0), (1190, .iaload, 1191, 0, 0), (1191, .aload_n 0, 1192, 0, 0), (1192, .iload_n 3, 1193, 0, 0), (1193, .iconst 4, 1194, 0, 0), (1194, .iadd, 1195, 0, 0), (1195, .iaload, 1196, 0, 0), (1196, .invokevirtual 110, 1199, 24, 4), (1199, .aload_n 2, 1200, 0, 0), (1200, .aload_n 0, 1201, 0, 0), (1201, .iload_n 3, 1202, 0, 0), (1202, .iconst 1, 1203, 0, 0), (1203, .iadd, 1204, 0, 0), (1204, .iaload, 1205, 0, 0), (1205, .aload_n 0, 1206, 0, 0), (1206, .iload_n 3, 1207, 0, 0), (1207, .iconst 2, 1208, 0, 0), (1208, .iadd, 1209, 0, 0), (1209, .iaload, 1210, 0, 0), (1210, .aload_n 0, 1211, 0, 0), (1211, .iload_n 3, 1212, 0, 0), (1212, .iconst 3, 1213, 0, 0), (1213, .iadd, 1214, 0, 0), (1214, .iaload, 1215, 0, 0), (1215, .aload_n 0, 1216, 0, 0), (1216, .iload_n 3, 1217, 0, 0), (1217, .iconst 4, 1218, 0, 0), (1218, .iadd, 1219, 0, 0), (1219, .iaload, 1220, 0, 0), (1220, .invokevirtual 113, 1223, 89, 4), (1223, .if_icmp .eq 620, 1226, 1843, 0), (1226, .iconst 0, 1227, 0, 0), (1227, .ireturn, 1228, 0, 0), (1228, .aload_n 1, 1229, 0, 0), (1229, .aload_n 0, 1230, 0, 0), (1230, .iload_n 3, 1231, 0, 0), (1231, .iconst 1, 1232, 0, 0), (1232, .iadd, 1233, 0, 0), (1233, .iaload, 1234, 0, 0), (1234, .aload_n 0, 1235, 0, 0), (1235, .iload_n 3, 1236, 0, 0), (1236, .iconst 2, 1237, 0, 0), (1237, .iadd, 1238, 0, 0), (1238, .iaload, 1239, 0, 0), (1239, .aload_n 0, 1240, 0, 0), (1240, .iload_n 3, 1241, 0, 0), (1241, .iconst 3, 1242, 0, 0)]
def qL_law_18 : List zE := [(1242, .iadd, 1243, 0, 0), (1243, .iaload, 1244, 0, 0), (1244, .aload_n 0, 1245, 0, 0), (1245, .iload_n 3, 1246, 0, 0), (1246, .iconst 4, 1247, 0, 0), (1247, .iadd, 1248, 0, 0), (1248, .iaload, 1249, 0, 0), (1249, .invokevirtual 114, 1252, 25, 4), (1252, .aload_n 2, 1253, 0, 0), (1253, .aload_n 0, 1254, 0, 0), (1254, .iload_n 3, 1255, 0, 0), (1255, .iconst 1, 1256, 0, 0), (1256, .iadd, 1257, 0, 0), (1257, .iaload, 1258, 0, 0), (1258, .aload_n 0, 1259, 0, 0), (1259, .iload_n 3, 1260, 0, 0), (1260, .iconst 2, 1261, 0, 0), (1261, .iadd, 1262, 0, 0), (1262, .iaload, 1263, 0, 0), (1263, .aload_n 0, 1264, 0, 0), (1264, .iload_n 3, 1265, 0, 0), (1265, .iconst 3, 1266, 0, 0), (1266, .iadd, 1267, 0, 0), (1267, .iaload, 1268, 0, 0), (1268, .aload_n 0, 1269, 0, 0), (1269, .iload_n 3, 1270, 0, 0), (1270, .iconst 4, 1271, 0, 0), (1271, .iadd, 1272, 0, 0), (1272, .iaload, 1273, 0, 0), (1273, .invokevirtual 117, 1276, 90, 4), (1276, .if_icmp .eq 567, 1279, 1843, 0), (1279, .iconst 0, 1280, 0, 0), (1280, .ireturn, 1281, 0, 0), (1281, .aload_n 1, 1282, 0, 0), (1282, .aload_n 0, 1283, 0, 0), (1283, .iload_n 3, 1284, 0, 0), (1284, .iconst 1, 1285, 0, 0), (1285, .iadd, 1286, 0, 0), (1286, .iaload, 1287, 0, 0), (1287, .aload_n 0, 1288, 0, 0), (1288, .iload_n 3, 1289, 0, 0), (1289, .iconst 2, 1290, 0, 0), (1290, .iadd, 1291, 0, 0), (1291, .iaload, 1292, 0, 0), (1292, .aload_n 0, 1293, 0, 0), (1293, .iload_n 3, 1294, 0, 0), (1294, .iconst 3, 1295, 0, 0), (1295, .iadd, 1296, 0, 0), (1296, .iaload, 1297, 0, 0), (1297, .aload_n 0, 1298, 0, 0)]
def qL_law_19 : List zE := [(1298, .iload_n 3, 1299, 0, 0), (1299, .iconst 4, 1300, 0, 0), (1300, .iadd, 1301, 0, 0), (1301, .iaload, 1302, 0, 0), (1302, .invokevirtual 118, 1305, 26, 4), (1305, .aload_n 2, 1306, 0, 0), (1306, .aload_n 0, 1307, 0, 0), (1307, .iload_n 3, 1308, 0, 0), (1308, .iconst 1, 1309, 0, 0), (1309, .iadd, 1310, 0, 0), (1310, .iaload, 1311, 0, 0), (1311, .aload_n 0, 1312, 0, 0), (1312, .iload_n 3, 1313, 0, 0), (1313, .iconst 2, 1314, 0, 0), (1314, .iadd, 1315, 0, 0), (1315, .iaload, 1316, 0, 0), (1316, .aload_n 0, 1317, 0, 0), (1317, .iload_n 3, 1318, 0, 0), (1318, .iconst 3, 1319, 0, 0), (1319, .iadd, 1320, 0, 0), (1320, .iaload, 1321, 0, 0), (1321, .aload_n 0, 1322, 0, 0), (1322, .iload_n 3, 1323, 0, 0), (1323, .iconst 4, 1324, 0, 0), (1324, .iadd, 1325, 0, 0), (1325, .iaload, 1326, 0, 0), (1326, .invokevirtual 121, 1329, 91, 4), (1329, .if_icmp .eq 514, 1332, 1843, 0), (1332, .iconst 0, 1333, 0, 0), (1333, .ireturn, 1334, 0, 0), (1334, .aload_n 1, 1335, 0, 0), (1335, .aload_n 0, 1336, 0, 0), (1336, .iload_n 3, 1337, 0, 0), (1337, .iconst 1, 1338, 0, 0), (1338, .iadd, 1339, 0, 0), (1339, .iaload, 1340, 0, 0), (1340, .aload_n 0, 1341, 0, 0), (1341, .iload_n 3, 1342, 0, 0), (1342, .iconst 2, 1343, 0, 0), (1343, .iadd, 1344, 0, 0), (1344, .iaload, 1345, 0, 0), (1345, .aload_n 0, 1346, 0, 0), (1346, .iload_n 3, 1347, 0, 0), (1347, .iconst 3, 1348, 0, 0), (1348, .iadd, 1349, 0, 0), (1349, .iaload, 1350, 0, 0), (1350, .ifCond .eq 7, 1353, 1357, 0), (1353, .iconst 1, 1354, 0, 0), (1354, .goto 4, 1357, 1358, 0), (1357, .iconst 0, 1358, 0, 0)]
def qL_law_20 : List zE := [(1358, .invokevirtual 122, 1361, 27, 3), (1361, .aload_n 2, 1362, 0, 0), (1362, .aload_n 0, 1363, 0, 0), (1363, .iload_n 3, 1364, 0, 0), (1364, .iconst 1, 1365, 0, 0), (1365, .iadd, 1366, 0, 0), (1366, .iaload, 1367, 0, 0), (1367, .aload_n 0, 1368, 0, 0), (1368, .iload_n 3, 1369, 0, 0), (1369, .iconst 2, 1370, 0, 0), (1370, .iadd, 1371, 0, 0), (1371, .iaload, 1372, 0, 0), (1372, .aload_n 0, 1373, 0, 0), (1373, .iload_n 3, 1374, 0, 0), (1374, .iconst 3, 1375, 0, 0), (1375, .iadd, 1376, 0, 0), (1376, .iaload, 1377, 0, 0), (1377, .ifCond .eq 7, 1380, 1384, 0), (1380, .iconst 1, 1381, 0, 0), (1381, .goto 4, 1384, 1385, 0), (1384, .iconst 0, 1385, 0, 0), (1385, .invokevirtual 125, 1388, 92, 3), (1388, .if_icmp .eq 455, 1391, 1843, 0), (1391, .iconst 0, 1392, 0, 0), (1392, .ireturn, 1393, 0, 0), (1393, .aload_n 1, 1394, 0, 0), (1394, .aload_n 0, 1395, 0, 0), (1395, .iload_n 3, 1396, 0, 0), (1396, .iconst 1, 1397, 0, 0), (1397, .iadd, 1398, 0, 0), (1398, .iaload, 1399, 0, 0), (1399, .aload_n 0, 1400, 0, 0), (1400, .iload_n 3, 1401, 0, 0), (1401, .iconst 2, 1402, 0, 0), (1402, .iadd, 1403, 0, 0), (1403, .iaload, 1404, 0, 0), (1404, .aload_n 0, 1405, 0, 0), (1405, .iload_n 3, 1406, 0, 0), (1406, .iconst 3, 1407, 0, 0), (1407, .iadd, 1408, 0, 0), (1408, .iaload, 1409, 0, 0), (1409, .ifCond .eq 7, 1412, 1416, 0), (1412, .iconst 1, 1413, 0, 0), (1413, .goto 4, 1416, 1417, 0), (1416, .iconst 0, 1417, 0, 0), (1417, .invokevirtual 126, 1420, 28, 3), (1420, .aload_n 2, 1421, 0, 0), (1421, .aload_n 0, 1422, 0, 0), (1422, .iload_n 3, 1423, 0, 0), (1423, .iconst 1, 1424, 0, 0)]
def qL_law_21 : List zE := [(1424, .iadd, 1425, 0, 0), (1425, .iaload, 1426, 0, 0), (1426, .aload_n 0, 1427, 0, 0), (1427, .iload_n 3, 1428, 0, 0), (1428, .iconst 2, 1429, 0, 0), (1429, .iadd, 1430, 0, 0), (1430, .iaload, 1431, 0, 0), (1431, .aload_n 0, 1432, 0, 0), (1432, .iload_n 3, 1433, 0, 0), (1433, .iconst 3, 1434, 0, 0), (1434, .iadd, 1435, 0, 0), (1435, .iaload, 1436, 0, 0), (1436, .ifCond .eq 7, 1439, 1443, 0), (1439, .iconst 1, 1440, 0, 0), (1440, .goto 4, 1443, 1444, 0), (1443, .iconst 0, 1444, 0, 0), (1444, .invokevirtual 129, 1447, 93, 3), (1447, .if_icmp .eq 396, 1450, 1843, 0), (1450, .iconst 0, 1451, 0, 0), (1451, .ireturn, 1452, 0, 0), (1452, .aload_n 1, 1453, 0, 0), (1453, .aload_n 0, 1454, 0, 0), (1454, .iload_n 3, 1455, 0, 0), (1455, .iconst 1, 1456, 0, 0), (1456, .iadd, 1457, 0, 0), (1457, .iaload, 1458, 0, 0), (1458, .aload_n 0, 1459, 0, 0), (1459, .iload_n 3, 1460, 0, 0), (1460, .iconst 2, 1461, 0, 0), (1461, .iadd, 1462, 0, 0), (1462, .iaload, 1463, 0, 0), (1463, .aload_n 0, 1464, 0, 0), (1464, .iload_n 3, 1465, 0, 0), (1465, .iconst 3, 1466, 0, 0), (1466, .iadd, 1467, 0, 0), (1467, .iaload, 1468, 0, 0), (1468, .aload_n 0, 1469, 0, 0), (1469, .iload_n 3, 1470, 0, 0), (1470, .iconst 4, 1471, 0, 0), (1471, .iadd, 1472, 0, 0), (1472, .iaload, 1473, 0, 0), (1473, .ifCond .eq 7, 1476, 1480, 0), (1476, .iconst 1, 1477, 0, 0), (1477, .goto 4, 1480, 1481, 0), (1480, .iconst 0, 1481, 0, 0), (1481, .invokevirtual 130, 1484, 29, 4), (1484, .aload_n 2, 1485, 0, 0), (1485, .aload_n 0, 1486, 0, 0), (1486, .iload_n 3, 1487, 0, 0), (1487, .iconst 1, 1488, 0, 0)]
def qL_law_22 : List zE := [(1488, .iadd, 1489, 0, 0), (1489, .iaload, 1490, 0, 0), (1490, .aload_n 0, 1491, 0, 0), (1491, .iload_n 3, 1492, 0, 0), (1492, .iconst 2, 1493, 0, 0), (1493, .iadd, 1494, 0, 0), (1494, .iaload, 1495, 0, 0), (1495, .aload_n 0, 1496, 0, 0), (1496, .iload_n 3, 1497, 0, 0), (1497, .iconst 3, 1498, 0, 0), (1498, .iadd, 1499, 0, 0), (1499, .iaload, 1500, 0, 0), (1500, .aload_n 0, 1501, 0, 0), (1501, .iload_n 3, 1502, 0, 0), (1502, .iconst 4, 1503, 0, 0), (1503, .iadd, 1504, 0, 0), (1504, .iaload, 1505, 0, 0), (1505, .ifCond .eq 7, 1508, 1512, 0), (1508, .iconst 1, 1509, 0, 0), (1509, .goto 4, 1512, 1513, 0), (1512, .iconst 0, 1513, 0, 0), (1513, .invokevirtual 133, 1516, 94, 4), (1516, .if_icmp .eq 327, 1519, 1843, 0), (1519, .iconst 0, 1520, 0, 0), (1520, .ireturn, 1521, 0, 0), (1521, .aload_n 1, 1522, 0, 0), (1522, .aload_n 0, 1523, 0, 0), (1523, .iload_n 3, 1524, 0, 0), (1524, .iconst 1, 1525, 0, 0), (1525, .iadd, 1526, 0, 0), (1526, .iaload, 1527, 0, 0), (1527, .aload_n 0, 1528, 0, 0), (1528, .iload_n 3, 1529, 0, 0), (1529, .iconst 2, 1530, 0, 0), (1530, .iadd, 1531, 0, 0), (1531, .iaload, 1532, 0, 0), (1532, .aload_n 0, 1533, 0, 0), (1533, .iload_n 3, 1534, 0, 0), (1534, .iconst 3, 1535, 0, 0), (1535, .iadd, 1536, 0, 0), (1536, .iaload, 1537, 0, 0), (1537, .aload_n 0, 1538, 0, 0), (1538, .iload_n 3, 1539, 0, 0), (1539, .iconst 4, 1540, 0, 0), (1540, .iadd, 1541, 0, 0), (1541, .iaload, 1542, 0, 0), (1542, .ifCond .eq 7, 1545, 1549, 0), (1545, .iconst 1, 1546, 0, 0), (1546, .goto 4, 1549, 1550, 0), (1549, .iconst 0, 1550, 0, 0)]
def qL_law_23 : List zE := [(1550, .invokevirtual 134, 1553, 30, 4), (1553, .aload_n 2, 1554, 0, 0), (1554, .aload_n 0, 1555, 0, 0), (1555, .iload_n 3, 1556, 0, 0), (1556, .iconst 1, 1557, 0, 0), (1557, .iadd, 1558, 0, 0), (1558, .iaload, 1559, 0, 0), (1559, .aload_n 0, 1560, 0, 0), (1560, .iload_n 3, 1561, 0, 0), (1561, .iconst 2, 1562, 0, 0), (1562, .iadd, 1563, 0, 0), (1563, .iaload, 1564, 0, 0), (1564, .aload_n 0, 1565, 0, 0), (1565, .iload_n 3, 1566, 0, 0), (1566, .iconst 3, 1567, 0, 0), (1567, .iadd, 1568, 0, 0), (1568, .iaload, 1569, 0, 0), (1569, .aload_n 0, 1570, 0, 0), (1570, .iload_n 3, 1571, 0, 0), (1571, .iconst 4, 1572, 0, 0), (1572, .iadd, 1573, 0, 0), (1573, .iaload, 1574, 0, 0), (1574, .ifCond .eq 7, 1577, 1581, 0), (1577, .iconst 1, 1578, 0, 0), (1578, .goto 4, 1581, 1582, 0), (1581, .iconst 0, 1582, 0, 0), (1582, .invokevirtual 137, 1585, 95, 4), (1585, .if_icmp .eq 258, 1588, 1843, 0), (1588, .iconst 0, 1589, 0, 0), (1589, .ireturn, 1590, 0, 0), (1590, .aload_n 1, 1591, 0, 0), (1591, .aload_n 0, 1592, 0, 0), (1592, .iload_n 3, 1593, 0, 0), (1593, .iconst 1, 1594, 0, 0), (1594, .iadd, 1595, 0, 0), (1595, .iaload, 1596, 0, 0), (1596, .aload_n 0, 1597, 0, 0), (1597, .iload_n 3, 1598, 0, 0), (1598, .iconst 2, 1599, 0, 0), (1599, .iadd, 1600, 0, 0), (1600, .iaload, 1601, 0, 0), (1601, .aload_n 0, 1602, 0, 0), (1602, .iload_n 3, 1603, 0, 0), (1603, .iconst 3, 1604, 0, 0), (1604, .iadd, 1605, 0, 0), (1605, .iaload, 1606, 0, 0), (1606, .ifCond .eq 7, 1609, 1613, 0), (1609, .iconst 1, 1610, 0, 0), (1610, .goto 4, 1613, 1614, 0), (1613, .iconst 0, 1614, 0, 0)]
def qL_law_24 : List zE := [(1614, .invokevirtual 138, 1617, 31, 3), (1617, .aload_n 2, 1618, 0, 0), (1618, .aload_n 0, 1619, 0, 0), (1619, .iload_n 3, 1620, 0, 0), (1620, .iconst 1, 1621, 0, 0), (1621, .iadd, 1622, 0, 0), (1622, .iaload, 1623, 0, 0), (1623, .aload_n 0, 1624, 0, 0), (1624, .iload_n 3, 1625, 0, 0), (1625, .iconst 2, 1626, 0, 0), (1626, .iadd, 1627, 0, 0), (1627, .iaload, 1628, 0, 0), (1628, .aload_n 0, 1629, 0, 0), (1629, .iload_n 3, 1630, 0, 0), (1630, .iconst 3, 1631, 0, 0), (1631, .iadd, 1632, 0, 0), (1632, .iaload, 1633, 0, 0), (1633, .ifCond .eq 7, 1636, 1640, 0), (1636, .iconst 1, 1637, 0, 0), (1637, .goto 4, 1640, 1641, 0), (1640, .iconst 0, 1641, 0, 0), (1641, .invokevirtual 141, 1644, 96, 3), (1644, .if_icmp .eq 199, 1647, 1843, 0), (1647, .iconst 0, 1648, 0, 0), (1648, .ireturn, 1649, 0, 0), (1649, .aload_n 1, 1650, 0, 0), (1650, .aload_n 0, 1651, 0, 0), (1651, .iload_n 3, 1652, 0, 0), (1652, .iconst 1, 1653, 0, 0), (1653, .iadd, 1654, 0, 0), (1654, .iaload, 1655, 0, 0), (1655, .aload_n 0, 1656, 0, 0), (1656, .iload_n 3, 1657, 0, 0), (1657, .iconst 2, 1658, 0, 0), (1658, .iadd, 1659, 0, 0), (1659, .iaload, 1660, 0, 0), (1660, .ifCond .eq 7, 1663, 1667, 0), (1663, .iconst 1, 1664, 0, 0), (1664, .goto 4, 1667, 1668, 0), (1667, .iconst 0, 1668, 0, 0), (1668, .invokevirtual 142, 1671, 32, 2), (1671, .aload_n 2, 1672, 0, 0), (1672, .aload_n 0, 1673, 0, 0), (1673, .iload_n 3, 1674, 0, 0), (1674, .iconst 1, 1675, 0, 0), (1675, .iadd, 1676, 0, 0), (1676, .iaload, 1677, 0, 0), (1677, .aload_n 0, 1678, 0, 0), (1678, .iload_n 3, 1679, 0, 0), (1679, .iconst 2, 1680, 0, 0)]
def qL_law_25 : List zE := [(1680, .iadd, 1681, 0, 0), (1681, .iaload, 1682, 0, 0), (1682, .ifCond .eq 7, 1685, 1689, 0), (1685, .iconst 1, 1686, 0, 0), (1686, .goto 4, 1689, 1690, 0), (1689, .iconst 0, 1690, 0, 0), (1690, .invokevirtual 146, 1693, 97, 2), (1693, .if_icmp .eq 150, 1696, 1843, 0), (1696, .iconst 0, 1697, 0, 0), (1697, .ireturn, 1698, 0, 0), (1698, .aload_n 1, 1699, 0, 0), (1699, .aload_n 0, 1700, 0, 0), (1700, .iload_n 3, 1701, 0, 0), (1701, .iconst 1, 1702, 0, 0), (1702, .iadd, 1703, 0, 0), (1703, .iaload, 1704, 0, 0), (1704, .aload_n 0, 1705, 0, 0), (1705, .iload_n 3, 1706, 0, 0), (1706, .iconst 2, 1707, 0, 0), (1707, .iadd, 1708, 0, 0), (1708, .iaload, 1709, 0, 0), (1709, .aload_n 0, 1710, 0, 0), (1710, .iload_n 3, 1711, 0, 0), (1711, .iconst 3, 1712, 0, 0), (1712, .iadd, 1713, 0, 0), (1713, .iaload, 1714, 0, 0), (1714, .invokevirtual 147, 1717, 33, 3), (1717, .aload_n 2, 1718, 0, 0), (1718, .aload_n 0, 1719, 0, 0), (1719, .iload_n 3, 1720, 0, 0), (1720, .iconst 1, 1721, 0, 0), (1721, .iadd, 1722, 0, 0), (1722, .iaload, 1723, 0, 0), (1723, .aload_n 0, 1724, 0, 0), (1724, .iload_n 3, 1725, 0, 0), (1725, .iconst 2, 1726, 0, 0), (1726, .iadd, 1727, 0, 0), (1727, .iaload, 1728, 0, 0), (1728, .aload_n 0, 1729, 0, 0), (1729, .iload_n 3, 1730, 0, 0), (1730, .iconst 3, 1731, 0, 0), (1731, .iadd, 1732, 0, 0), (1732, .iaload, 1733, 0, 0), (1733, .invokevirtual 150, 1736, 98, 3), (1736, .if_icmp .eq 107, 1739, 1843, 0), (1739, .iconst 0, 1740, 0, 0), (1740, .ireturn, 1741, 0, 0), (1741, .aload_n 1, 1742, 0, 0), (1742, .aload_n 0, 1743, 0, 0), (1743, .iload_n 3, 1744, 0, 0)]
def qL_law_26 : List zE := [(1744, .iconst 1, 1745, 0, 0), (1745, .iadd, 1746, 0, 0), (1746, .iaload, 1747, 0, 0), (1747, .aload_n 0, 1748, 0, 0), (1748, .iload_n 3, 1749, 0, 0), (1749, .iconst 2, 1750, 0, 0), (1750, .iadd, 1751, 0, 0), (1751, .iaload, 1752, 0, 0), (1752, .invokevirtual 151, 1755, 34, 2), (1755, .aload_n 2, 1756, 0, 0), (1756, .aload_n 0, 1757, 0, 0), (1757, .iload_n 3, 1758, 0, 0), (1758, .iconst 1, 1759, 0, 0), (1759, .iadd, 1760, 0, 0), (1760, .iaload, 1761, 0, 0), (1761, .aload_n 0, 1762, 0, 0), (1762, .iload_n 3, 1763, 0, 0), (1763, .iconst 2, 1764, 0, 0), (1764, .iadd, 1765, 0, 0), (1765, .iaload, 1766, 0, 0), (1766, .invokevirtual 154, 1769, 99, 2), (1769, .if_icmp .eq 74, 1772, 1843, 0), (1772, .iconst 0, 1773, 0, 0), (1773, .ireturn, 1774, 0, 0), (1774, .aload_n 1, 1775, 0, 0), (1775, .aload_n 0, 1776, 0, 0), (1776, .iload_n 3, 1777, 0, 0), (1777, .iconst 1, 1778, 0, 0), (1778, .iadd, 1779, 0, 0), (1779, .iaload, 1780, 0, 0), (1780, .invokevirtual 155, 1783, 35, 1), (1783, .aload_n 2, 1784, 0, 0), (1784, .aload_n 0, 1785, 0, 0), (1785, .iload_n 3, 1786, 0, 0), (1786, .iconst 1, 1787, 0, 0), (1787, .iadd, 1788, 0, 0), (1788, .iaload, 1789, 0, 0), (1789, .invokevirtual 158, 1792, 100, 1), (1792, .if_icmp .eq 51, 1795, 1843, 0), (1795, .iconst 0, 1796, 0, 0), (1796, .ireturn, 1797, 0, 0), (1797, .aload_n 1, 1798, 0, 0), (1798, .aload_n 0, 1799, 0, 0), (1799, .iload_n 3, 1800, 0, 0), (1800, .iconst 1, 1801, 0, 0), (1801, .iadd, 1802, 0, 0), (1802, .iaload, 1803, 0, 0), (1803, .invokevirtual 159, 1806, 36, 1), (1806, .aload_n 2, 1807, 0, 0), (1807, .aload_n 0, 1808, 0, 0)]
def qL_law_27 : List zE := [(1808, .iload_n 3, 1809, 0, 0), (1809, .iconst 1, 1810, 0, 0), (1810, .iadd, 1811, 0, 0), (1811, .iaload, 1812, 0, 0), (1812, .invokevirtual 163, 1815, 101, 1), (1815, .if_icmp .eq 28, 1818, 1843, 0), (1818, .iconst 0, 1819, 0, 0), (1819, .ireturn, 1820, 0, 0), (1820, .aload_n 1, 1821, 0, 0), (1821, .aload_n 0, 1822, 0, 0), (1822, .iload_n 3, 1823, 0, 0), (1823, .iconst 1, 1824, 0, 0), (1824, .iadd, 1825, 0, 0), (1825, .iaload, 1826, 0, 0), (1826, .invokevirtual 164, 1829, 37, 1), (1829, .aload_n 2, 1830, 0, 0), (1830, .aload_n 0, 1831, 0, 0), (1831, .iload_n 3, 1832, 0, 0), (1832, .iconst 1, 1833, 0, 0), (1833, .iadd, 1834, 0, 0), (1834, .iaload, 1835, 0, 0), (1835, .invokevirtual 167, 1838, 102, 1), (1838, .if_icmp .eq 5, 1841, 1843, 0), (1841, .iconst 0, 1842, 0, 0), (1842, .ireturn, 1843, 0, 0), (1843, .iinc 3 7, 1846, 0, 0), (1846, .goto (-1828), 1849, 18, 0), (1849, .iconst 1, 1850, 0, 0), (1850, .ireturn, 1851, 0, 0)]
def qL_law : List zE := qL_law_0 ++ (qL_law_1 ++ (qL_law_2 ++ (qL_law_3 ++ (qL_law_4 ++ (qL_law_5 ++ (qL_law_6 ++ (qL_law_7 ++ (qL_law_8 ++ (qL_law_9 ++ (qL_law_10 ++ (qL_law_11 ++ (qL_law_12 ++ (qL_law_13 ++ (qL_law_14 ++ (qL_law_15 ++ (qL_law_16 ++ (qL_law_17 ++ (qL_law_18 ++ (qL_law_19 ++ (qL_law_20 ++ (qL_law_21 ++ (qL_law_22 ++ (qL_law_23 ++ (qL_law_24 ++ (qL_law_25 ++ (qL_law_26 ++ (qL_law_27)))))))))))))))))))))))))))
def kL_law : zM := (x, code, 4, some .boolean, 98, qL_law)
def qX11_init : List zE := [(0, .aload_n 0, 1, 0, 0), (1, .invokespecial 1, 4, 0, 99), (4, .aload_n 0, 5, 0, 0), (5, .new 7, 8, 7, 0), (8, .dup, 9, 0, 0), (9, .invokespecial 9, 12, 55, 0), (12, .putfield 10, 15, 10, 0), (15, .aload_n 0, 16, 0, 0), (16, .iconst 3, 17, 0, 0), (17, .anewarray 7, 20, 6, 3), (20, .putfield 16, 23, 10, 1), (23, .aload_n 0, 24, 0, 0), (24, .new 20, 27, 6, 0), (27, .dup, 28, 0, 0), (28, .invokespecial 22, 31, 58, 0), (31, .putfield 23, 34, 10, 2), (34, .aload_n 0, 35, 0, 0), (35, .new 27, 38, 1, 0), (38, .dup, 39, 0, 0), (39, .invokespecial 29, 42, 61, 0), (42, .putfield 30, 45, 10, 3), (45, .aload_n 0, 46, 0, 0), (46, .iconst 2, 47, 0, 0), (47, .anewarray 34, 50, 7, 2), (50, .putfield 36, 53, 10, 4), (53, .aload_n 0, 54, 0, 0), (54, .iconst 2, 55, 0, 0), (55, .anewarray 40, 58, 8, 2), (58, .putfield 42, 61, 10, 5), (61, .aload_n 0, 62, 0, 0), (62, .aconst_null, 63, 0, 0), (63, .putfield 46, 66, 10, 6), (66, .aload_n 0, 67, 0, 0), (67, .aconst_null, 68, 0, 0), (68, .putfield 50, 71, 10, 7), (71, .return_, 72, 0, 0)]
def kX11_init : zM := (⟨"ReadAloud", "<init>", "()V"⟩, prog_1_method_1_code, 1, none, 10, qX11_init)
def qX11_feed : List zE := [(0, .aload_n 0, 1, 0, 0), (1, .getfield 10, 4, 10, 0), (4, .getfield 54, 7, 7, 1), (7, .sipush 580, 10, 0, 0), (10, .if_icmp .le 5, 13, 15, 0), (13, .iconst (-1), 14, 0, 0), (14, .ireturn, 15, 0, 0), (15, .aload_n 0, 16, 0, 0), (16, .getfield 10, 19, 10, 0), (19, .iload_n 1, 20, 0, 0), (20, .invokevirtual 58, 23, 56, 1), (23, .aload_n 0, 24, 0, 0), (24, .getfield 10, 27, 10, 0), (27, .iload_n 2, 28, 0, 0), (28, .invokevirtual 58, 31, 56, 1), (31, .aload_n 0, 32, 0, 0), (32, .getfield 10, 35, 10, 0), (35, .iload_n 3, 36, 0, 0), (36, .invokevirtual 58, 39, 56, 1), (39, .aload_n 0, 40, 0, 0), (40, .getfield 10, 43, 10, 0), (43, .iload 4, 45, 0, 0), (45, .invokevirtual 58, 48, 56, 1), (48, .aload_n 0, 49, 0, 0), (49, .getfield 10, 52, 10, 0), (52, .iload 5, 54, 0, 0), (54, .invokevirtual 58, 57, 56, 1), (57, .aload_n 0, 58, 0, 0), (58, .getfield 10, 61, 10, 0), (61, .getfield 54, 64, 7, 1), (64, .ireturn, 65, 0, 0)]
def kX11_feed : zM := (⟨"ReadAloud", "feed", "(IIIII)I"⟩, prog_1_method_2_code, 6, (some .int), 10, qX11_feed)
def qX11_end : List zE := [(0, .iload_n 1, 1, 0, 0), (1, .ifCond .lt 14, 4, 15, 0), (4, .iload_n 1, 5, 0, 0), (5, .aload_n 0, 6, 0, 0), (6, .getfield 10, 9, 10, 0), (9, .getfield 54, 12, 7, 1), (12, .if_icmp .le 5, 15, 17, 0), (15, .iconst (-1), 16, 0, 0), (16, .ireturn, 17, 0, 0), (17, .aload_n 0, 18, 0, 0), (18, .getfield 10, 21, 10, 0), (21, .iload_n 1, 22, 0, 0), (22, .putfield 54, 25, 7, 1), (25, .iload_n 1, 26, 0, 0), (26, .ireturn, 27, 0, 0)]
def kX11_end : zM := (⟨"ReadAloud", "end", "(I)I"⟩, prog_1_method_3_code, 2, (some .int), 10, qX11_end)
def qX11_text : List zE := [(0, .aload_n 0, 1, 0, 0), (1, .getfield 10, 4, 10, 0), (4, .getfield 54, 7, 7, 1), (7, .istore_n 3, 8, 0, 0), (8, .aload_n 0, 9, 0, 0), (9, .getfield 10, 12, 10, 0), (12, .iconst 0, 13, 0, 0), (13, .putfield 54, 16, 7, 1), (16, .aload_n 0, 17, 0, 0), (17, .getfield 10, 20, 10, 0), (20, .iconst 0, 21, 0, 0), (21, .putfield 62, 24, 7, 2), (24, .aload_n 0, 25, 0, 0), (25, .getfield 10, 28, 10, 0), (28, .iconst (-1), 29, 0, 0), (29, .putfield 65, 32, 7, 3), (32, .iload_n 1, 33, 0, 0), (33, .ifCond .lt 8, 36, 41, 0), (36, .iload_n 1, 37, 0, 0), (37, .iconst 3, 38, 0, 0), (38, .if_icmp .lt 6, 41, 44, 0), (41, .bipush (-2), 43, 0, 0), (43, .ireturn, 44, 0, 0), (44, .aload_n 0, 45, 0, 0), (45, .getfield 10, 48, 10, 0), (48, .getfield 68, 51, 7, 4), (51, .iload_n 1, 52, 0, 0), (52, .iaload, 53, 0, 0), (53, .istore 4, 55, 0, 0), (55, .iload_n 2, 56, 0, 0), (56, .iconst (-1), 57, 0, 0), (57, .if_icmp .ne 12, 60, 69, 0), (60, .iload 4, 62, 0, 0), (62, .iconst 2, 63, 0, 0), (63, .if_icmp .lt 19, 66, 82, 0), (66, .goto 13, 69, 79, 0), (69, .iload_n 2, 70, 0, 0), (70, .ifCond .lt 9, 73, 79, 0), (73, .iload_n 2, 74, 0, 0), (74, .iload 4, 76, 0, 0), (76, .if_icmp .lt 6, 79, 82, 0), (79, .bipush (-2), 81, 0, 0), (81, .ireturn, 82, 0, 0), (82, .iload_n 2, 83, 0, 0), (83, .iconst (-1), 84, 0, 0), (84, .if_icmp .ne 8, 87, 92, 0), (87, .iload 4, 89, 0, 0), (89, .goto 4, 92, 93, 0), (92, .iload_n 2, 93, 0, 0), (93, .istore 5, 95, 0, 0), (95, .aload_n 0, 96, 0, 0), (96, .iload_n 1, 97, 0, 0), (97, .iload 5, 99, 0, 0), (99, .iload_n 3, 100, 0, 0), (100, .invokevirtual 72, 103, 38, 3), (103, .ifCond .ne 33, 106, 136, 0), (106, .aload_n 0, 107, 0, 0), (107, .getfield 10, 110, 10, 0), (110, .aload_n 0, 111, 0, 0), (111, .getfield 23, 114, 10, 2), (114, .getfield 76, 117, 6, 6), (117, .putfield 62, 120, 7, 2), (120, .aload_n 0, 121, 0, 0), (121, .getfield 10, 124, 10, 0), (124, .aload_n 0, 125, 0, 0), (125, .getfield 23, 128, 10, 2), (128, .getfield 77, 131, 6, 7), (131, .putfield 65, 134, 7, 3), (134, .iconst (-1), 135, 0, 0), (135, .ireturn, 136, 0, 0), (136, .aload_n 0, 137, 0, 0), (137, .getfield 10, 140, 10, 0), (140, .getfield 68, 143, 7, 4), (143, .iload_n 1, 144, 0, 0), (144, .iload 4, 146, 0, 0), (146, .iload 5, 148, 0, 0), (148, .iconst 1, 149, 0, 0), (149, .iadd, 150, 0, 0), (150, .invokestatic 78, 153, 0, 100), (153, .iastore, 154, 0, 0), (154, .iload 5, 156, 0, 0), (156, .ireturn, 157, 0, 0)]
def kX11_text : zM := (⟨"ReadAloud", "text", "(II)I"⟩, prog_1_method_4_code, 6, (some .int), 10, qX11_text)
def qX11_fault : List zE := [(0, .iload_n 1, 1, 0, 0), (1, .lookupswitch 43 #[(0, 27), (1, 35)], 28, 0, 0), (28, .aload_n 0, 29, 0, 0), (29, .getfield 10, 32, 10, 0), (32, .getfield 62, 35, 7, 2), (35, .ireturn, 36, 0, 0), (36, .aload_n 0, 37, 0, 0), (37, .getfield 10, 40, 10, 0), (40, .getfield 65, 43, 7, 3), (43, .ireturn, 44, 0, 0), (44, .iconst (-1), 45, 0, 0), (45, .ireturn, 46, 0, 0)]
def kX11_fault : zM := (⟨"ReadAloud", "fault", "(I)I"⟩, prog_1_method_5_code, 2, (some .int), 10, qX11_fault)
def qX11_book : List zE := [(0, .aload_n 0, 1, 0, 0), (1, .iload_n 1, 2, 0, 0), (2, .invokevirtual 84, 5, 39, 1), (5, .astore_n 3, 6, 0, 0), (6, .aload_n 3, 7, 0, 0), (7, .ifnonnull 7, 10, 14, 0), (10, .iconst (-1), 11, 0, 0), (11, .goto 8, 14, 19, 0), (14, .aload_n 3, 15, 0, 0), (15, .iload_n 2, 16, 0, 0), (19, .ireturn, 20, 0, 0)]
def kX11_book : zM := (⟨"ReadAloud", "book", "(II)I"⟩, prog_1_method_6_code, 4, (some .int), 10, qX11_book)
def qX11_word : List zE := [(0, .iload_n 1, 1, 0, 0), (1, .invokestatic 94, 4, 43, 1), (4, .ifCond .ne 5, 7, 9, 0), (7, .iconst (-1), 8, 0, 0), (8, .ireturn, 9, 0, 0), (9, .iload_n 1, 10, 0, 0), (10, .invokestatic 98, 13, 48, 1), (13, .istore_n 3, 14, 0, 0), (14, .iload_n 2, 15, 0, 0), (15, .iconst (-1), 16, 0, 0), (16, .if_icmp .ne 5, 19, 21, 0), (19, .iload_n 3, 20, 0, 0), (20, .ireturn, 21, 0, 0), (21, .iload_n 2, 22, 0, 0), (22, .ifCond .lt 8, 25, 30, 0), (25, .iload_n 2, 26, 0, 0), (26, .iload_n 3, 27, 0, 0), (27, .if_icmp .lt 7, 30, 34, 0), (30, .iconst (-1), 31, 0, 0), (31, .goto 8, 34, 39, 0), (34, .iload_n 1, 35, 0, 0), (35, .iload_n 2, 36, 0, 0), (36, .invokestatic 101, 39, 50, 2), (39, .ireturn, 40, 0, 0)]
def kX11_word : zM := (⟨"ReadAloud", "word", "(II)I"⟩, prog_1_method_7_code, 4, (some .int), 10, qX11_word)
def qX11_drift : List zE := [(0, .iload_n 1, 1, 0, 0), (1, .invokestatic 94, 4, 43, 1), (4, .ifCond .eq 18, 7, 22, 0), (7, .iload_n 2, 8, 0, 0), (8, .invokestatic 94, 11, 43, 1), (11, .ifCond .eq 11, 14, 22, 0), (14, .iload_n 1, 15, 0, 0), (15, .iload_n 2, 16, 0, 0), (16, .invokestatic 104, 19, 52, 2), (19, .goto 4, 22, 23, 0), (22, .iconst (-1), 23, 0, 0), (23, .ireturn, 24, 0, 0)]
def kX11_drift : zM := (⟨"ReadAloud", "drift", "(II)I"⟩, prog_1_method_8_code, 3, (some .int), 10, qX11_drift)
def qX11_read : List zE := [(0, .aload_n 0, 1, 0, 0), (1, .iload_n 1, 2, 0, 0), (2, .invokevirtual 84, 5, 39, 1), (5, .astore 4, 7, 0, 0), (7, .aload 4, 9, 0, 0), (9, .ifnull 19, 12, 28, 0), (12, .iload_n 2, 13, 0, 0), (13, .invokestatic 94, 16, 43, 1), (16, .ifCond .eq 12, 19, 28, 0), (19, .aload 4, 21, 0, 0), (21, .iload_n 3, 22, 0, 0), (25, .ifCond .ne 5, 28, 30, 0), (28, .iconst (-1), 29, 0, 0), (29, .ireturn, 30, 0, 0), (30, .aload 4, 32, 0, 0), (32, .iload_n 3, 33, 0, 0), (33, .iload_n 2, 34, 0, 0), (37, .ireturn, 38, 0, 0)]
def kX11_read : zM := (⟨"ReadAloud", "read", "(III)I"⟩, prog_1_method_9_code, 5, (some .int), 10, qX11_read)
def qX11_deed : List zE := [(0, .aload_n 0, 1, 0, 0), (1, .iload_n 1, 2, 0, 0), (2, .invokevirtual 113, 5, 40, 1), (5, .astore 4, 7, 0, 0), (7, .aload 4, 9, 0, 0), (9, .ifnonnull 8, 12, 17, 0), (12, .bipush (-2), 14, 0, 0), (14, .goto 10, 17, 24, 0), (17, .aload 4, 19, 0, 0), (19, .iload_n 2, 20, 0, 0), (20, .iload_n 3, 21, 0, 0), (24, .ireturn, 25, 0, 0)]
def kX11_deed : zM := (⟨"ReadAloud", "deed", "(III)I"⟩, prog_1_method_10_code, 5, (some .int), 10, qX11_deed)
def qX11_stop : List zE := [(0, .aload_n 0, 1, 0, 0), (1, .iload_n 1, 2, 0, 0), (2, .invokevirtual 84, 5, 39, 1), (5, .astore_n 3, 6, 0, 0), (6, .aload_n 0, 7, 0, 0), (7, .iload_n 2, 8, 0, 0), (8, .invokevirtual 113, 11, 40, 1), (11, .astore 4, 13, 0, 0), (13, .aload_n 3, 14, 0, 0), (14, .ifnull 8, 17, 22, 0), (17, .aload 4, 19, 0, 0), (19, .ifnonnull 5, 22, 24, 0), (22, .iconst (-1), 23, 0, 0), (23, .ireturn, 24, 0, 0), (24, .aload_n 0, 25, 0, 0), (25, .getfield 30, 28, 10, 3), (28, .aload_n 3, 29, 0, 0), (32, .aload_n 0, 33, 0, 0), (33, .getfield 30, 36, 10, 3), (36, .aload 4, 38, 0, 0), (38, .aload 4, 40, 0, 0), (40, .getfield 125, 43, 9, 0), (46, .ireturn, 47, 0, 0)]
def kX11_stop : zM := (⟨"ReadAloud", "stop", "(II)I"⟩, prog_1_method_11_code, 5, (some .int), 10, qX11_stop)
def qX11_state : List zE := [(0, .aload_n 0, 1, 0, 0), (1, .iload_n 1, 2, 0, 0), (2, .invokevirtual 84, 5, 39, 1), (5, .astore 5, 7, 0, 0), (7, .aload_n 0, 8, 0, 0), (8, .iload_n 2, 9, 0, 0), (9, .invokevirtual 113, 12, 40, 1), (12, .astore 6, 14, 0, 0), (14, .aload 5, 16, 0, 0), (16, .ifnull 21, 19, 37, 0), (19, .aload 6, 21, 0, 0), (21, .ifnull 16, 24, 37, 0), (24, .iload_n 3, 25, 0, 0), (25, .ifCond .lt 12, 28, 37, 0), (28, .iload_n 3, 29, 0, 0), (29, .aload 6, 31, 0, 0), (31, .getfield 125, 34, 9, 0), (34, .if_icmp .le 6, 37, 40, 0), (37, .bipush (-2), 39, 0, 0), (39, .ireturn, 40, 0, 0), (40, .aload_n 0, 41, 0, 0), (41, .getfield 30, 44, 10, 3), (44, .aload 5, 46, 0, 0), (49, .aload_n 0, 50, 0, 0), (50, .getfield 30, 53, 10, 3), (53, .aload 6, 55, 0, 0), (55, .iload_n 3, 56, 0, 0), (59, .iload_n 3, 60, 0, 0), (60, .if_icmp .ge 8, 63, 68, 0), (63, .bipush (-2), 65, 0, 0), (65, .goto 12, 68, 77, 0), (68, .aload_n 0, 69, 0, 0), (69, .getfield 30, 72, 10, 3), (72, .iload 4, 74, 0, 0), (77, .ireturn, 78, 0, 0)]
def kX11_state : zM := (⟨"ReadAloud", "state", "(IIII)I"⟩, prog_1_method_12_code, 7, (some .int), 10, qX11_state)
def qX11_making : List zE := [(0, .aload_n 0, 1, 0, 0), (1, .iload_n 1, 2, 0, 0), (2, .invokevirtual 133, 5, 42, 1), (5, .astore 5, 7, 0, 0), (7, .aload 5, 9, 0, 0), (9, .ifnull 17, 12, 26, 0), (12, .iload_n 2, 13, 0, 0), (13, .invokestatic 94, 16, 43, 1), (16, .ifCond .eq 10, 19, 26, 0), (19, .iload_n 3, 20, 0, 0), (20, .invokestatic 94, 23, 43, 1), (23, .ifCond .ne 5, 26, 28, 0), (26, .iconst (-1), 27, 0, 0), (27, .ireturn, 28, 0, 0), (28, .aload_n 0, 29, 0, 0), (29, .iconst 0, 30, 0, 0), (33, .astore 6, 35, 0, 0), (35, .aload 6, 37, 0, 0), (37, .aload 5, 39, 0, 0), (39, .iload_n 2, 40, 0, 0), (40, .aload 5, 42, 0, 0), (45, .iload_n 3, 46, 0, 0), (49, .aload 6, 51, 0, 0), (51, .getfield 149, 54, 8, 2), (54, .iload_n 3, 55, 0, 0), (55, .iaload, 56, 0, 0), (56, .istore 7, 58, 0, 0), (58, .iload 4, 60, 0, 0), (60, .iconst (-1), 61, 0, 0), (61, .if_icmp .eq 9, 64, 70, 0), (64, .iload 7, 66, 0, 0), (66, .iconst (-1), 67, 0, 0), (67, .if_icmp .ne 6, 70, 73, 0), (70, .iload 7, 72, 0, 0), (72, .ireturn, 73, 0, 0), (73, .iload 4, 75, 0, 0), (75, .ifCond .lt 10, 78, 85, 0), (78, .iload 4, 80, 0, 0), (80, .iload 7, 82, 0, 0), (82, .if_icmp .lt 7, 85, 89, 0), (85, .iconst (-1), 86, 0, 0), (86, .goto 11, 89, 97, 0), (89, .aload 6, 91, 0, 0), (91, .iload_n 3, 92, 0, 0), (92, .iload 4, 94, 0, 0), (97, .ireturn, 98, 0, 0)]
def kX11_making : zM := (⟨"ReadAloud", "making", "(IIII)I"⟩, prog_1_method_13_code, 8, (some .int), 10, qX11_making)
def qX11_ring : List zE := [(0, .aload_n 0, 1, 0, 0), (1, .iload_n 1, 2, 0, 0), (2, .invokevirtual 133, 5, 42, 1), (5, .astore_n 3, 6, 0, 0), (6, .aload_n 3, 7, 0, 0), (7, .ifnull 10, 10, 17, 0), (10, .iload_n 2, 11, 0, 0), (11, .invokestatic 94, 14, 43, 1), (14, .ifCond .ne 5, 17, 19, 0), (17, .iconst (-1), 18, 0, 0), (18, .ireturn, 19, 0, 0), (19, .aload_n 0, 20, 0, 0), (20, .iconst 0, 21, 0, 0), (24, .astore 4, 26, 0, 0), (26, .aload 4, 28, 0, 0), (28, .aload_n 3, 29, 0, 0), (29, .iload_n 2, 30, 0, 0), (30, .aload_n 3, 31, 0, 0), (34, .iconst (-1), 35, 0, 0), (38, .aload 4, 40, 0, 0), (40, .aload_n 3, 41, 0, 0), (41, .iload_n 2, 42, 0, 0), (45, .ireturn, 46, 0, 0)]
def kX11_ring : zM := (⟨"ReadAloud", "ring", "(II)I"⟩, prog_1_method_14_code, 5, (some .int), 10, qX11_ring)
def qX11_reach : List zE := [(0, .aload_n 0, 1, 0, 0), (1, .iload_n 1, 2, 0, 0), (2, .invokevirtual 133, 5, 42, 1), (5, .astore 4, 7, 0, 0), (7, .aload 4, 9, 0, 0), (9, .ifnull 10, 12, 19, 0), (12, .iload_n 2, 13, 0, 0), (13, .invokestatic 94, 16, 43, 1), (16, .ifCond .ne 5, 19, 21, 0), (19, .iconst (-1), 20, 0, 0), (20, .ireturn, 21, 0, 0), (21, .aload_n 0, 22, 0, 0), (22, .iconst 0, 23, 0, 0), (26, .astore 5, 28, 0, 0), (28, .aload 5, 30, 0, 0), (30, .aload 4, 32, 0, 0), (32, .iload_n 2, 33, 0, 0), (33, .aload 4, 35, 0, 0), (38, .iconst (-1), 39, 0, 0), (42, .iload_n 3, 43, 0, 0), (43, .ifCond .eq 11, 46, 54, 0), (46, .aload 5, 48, 0, 0), (51, .goto 8, 54, 59, 0), (54, .aload 5, 56, 0, 0), (56, .getfield 162, 59, 8, 0), (59, .ireturn, 60, 0, 0)]
def kX11_reach : zM := (⟨"ReadAloud", "reach", "(IIZ)I"⟩, prog_1_method_15_code, 6, (some .int), 10, qX11_reach)
def qX11_sound : List zE := [(0, .aload_n 0, 1, 0, 0), (1, .iload_n 1, 2, 0, 0), (2, .invokevirtual 133, 5, 42, 1), (5, .astore_n 3, 6, 0, 0), (6, .aload_n 3, 7, 0, 0), (7, .ifnull 14, 10, 21, 0), (10, .aload_n 3, 11, 0, 0), (11, .getfield 165, 14, 3, 0), (14, .iload_n 2, 15, 0, 0), (18, .ifCond .ne 7, 21, 25, 0), (21, .iconst (-1), 22, 0, 0), (22, .goto 8, 25, 30, 0), (25, .aload_n 3, 26, 0, 0), (26, .iload_n 2, 27, 0, 0), (30, .ireturn, 31, 0, 0)]
def kX11_sound : zM := (⟨"ReadAloud", "sound", "(II)I"⟩, prog_1_method_16_code, 4, (some .int), 10, qX11_sound)
def qX11_like : List zE := [(0, .aload_n 0, 1, 0, 0), (1, .iload_n 1, 2, 0, 0), (2, .invokevirtual 133, 5, 42, 1), (5, .astore 4, 7, 0, 0), (7, .aload 4, 9, 0, 0), (9, .ifnull 27, 12, 36, 0), (12, .aload 4, 14, 0, 0), (14, .getfield 165, 17, 3, 0), (17, .iload_n 2, 18, 0, 0), (21, .ifCond .eq 15, 24, 36, 0), (24, .aload 4, 26, 0, 0), (26, .getfield 165, 29, 3, 0), (29, .iload_n 3, 30, 0, 0), (33, .ifCond .ne 5, 36, 38, 0), (36, .iconst (-1), 37, 0, 0), (37, .ireturn, 38, 0, 0), (38, .aload 4, 40, 0, 0), (40, .iload_n 2, 41, 0, 0), (41, .iload_n 3, 42, 0, 0), (45, .ireturn, 46, 0, 0)]
def kX11_like : zM := (⟨"ReadAloud", "like", "(III)I"⟩, prog_1_method_17_code, 5, (some .int), 10, qX11_like)
def qX11_orbits : List zE := [(0, .aload_n 0, 1, 0, 0), (1, .iload_n 1, 2, 0, 0), (2, .invokevirtual 133, 5, 42, 1), (5, .astore 4, 7, 0, 0), (7, .aload 4, 9, 0, 0), (9, .ifnull 25, 12, 34, 0), (12, .aload 4, 14, 0, 0), (14, .getfield 165, 17, 3, 0), (17, .iload_n 2, 18, 0, 0), (21, .ifCond .eq 13, 24, 34, 0), (24, .iload_n 3, 25, 0, 0), (25, .ifCond .lt 9, 28, 34, 0), (28, .iload_n 3, 29, 0, 0), (29, .bipush 6, 31, 0, 0), (31, .if_icmp .lt 5, 34, 36, 0), (34, .iconst (-1), 35, 0, 0), (35, .ireturn, 36, 0, 0), (36, .aload_n 0, 37, 0, 0), (40, .astore 5, 42, 0, 0), (42, .aload 5, 44, 0, 0), (44, .aload 4, 46, 0, 0), (46, .iload_n 2, 47, 0, 0), (50, .aload 5, 52, 0, 0), (52, .getfield 188, 55, 4, 0), (55, .iload_n 3, 56, 0, 0), (56, .iaload, 57, 0, 0), (57, .ireturn, 58, 0, 0)]
def kX11_orbits : zM := (⟨"ReadAloud", "orbits", "(III)I"⟩, prog_1_method_18_code, 6, (some .int), 10, qX11_orbits)
def qX11_rota : List zE := [(0, .aload_n 0, 1, 0, 0), (1, .iload_n 1, 2, 0, 0), (2, .invokevirtual 133, 5, 42, 1), (5, .astore 4, 7, 0, 0), (7, .aload 4, 9, 0, 0), (9, .ifnull 22, 12, 31, 0), (12, .iload_n 2, 13, 0, 0), (13, .invokestatic 191, 16, 45, 1), (16, .ifCond .eq 15, 19, 31, 0), (19, .iload_n 2, 20, 0, 0), (20, .ifCond .le 13, 23, 33, 0), (23, .aload 4, 25, 0, 0), (28, .ifCond .ne 5, 31, 33, 0), (31, .iconst (-1), 32, 0, 0), (32, .ireturn, 33, 0, 0), (33, .iload_n 3, 34, 0, 0), (34, .bipush 10, 36, 0, 0), (36, .if_icmp .lt 15, 39, 51, 0), (39, .iload_n 3, 40, 0, 0), (40, .bipush 10, 42, 0, 0), (42, .iload_n 2, 43, 0, 0), (43, .iadd, 44, 0, 0), (44, .if_icmp .ge 7, 47, 51, 0), (47, .iconst 1, 48, 0, 0), (48, .goto 4, 51, 52, 0), (51, .iconst 0, 52, 0, 0), (52, .istore 5, 54, 0, 0), (54, .iload_n 3, 55, 0, 0), (55, .ifCond .eq 15, 58, 70, 0), (58, .iload_n 3, 59, 0, 0), (59, .iconst 1, 60, 0, 0), (60, .if_icmp .eq 10, 63, 70, 0), (63, .iload 5, 65, 0, 0), (65, .ifCond .ne 5, 68, 70, 0), (68, .iconst (-1), 69, 0, 0), (69, .ireturn, 70, 0, 0), (70, .aload_n 0, 71, 0, 0), (74, .astore 6, 76, 0, 0), (76, .aload 6, 78, 0, 0), (81, .aload 6, 83, 0, 0), (83, .aload 4, 85, 0, 0), (85, .iload_n 2, 86, 0, 0), (86, .aload 4, 88, 0, 0), (91, .aload 4, 93, 0, 0), (99, .aload 6, 101, 0, 0), (104, .iload 5, 106, 0, 0), (106, .ifCond .ne 19, 109, 125, 0), (109, .aload 6, 111, 0, 0), (111, .iload_n 3, 112, 0, 0), (112, .iconst 1, 113, 0, 0), (113, .if_icmp .ne 7, 116, 120, 0), (116, .iconst 1, 117, 0, 0), (117, .goto 4, 120, 121, 0), (120, .iconst 0, 121, 0, 0), (124, .ireturn, 125, 0, 0), (125, .aload 6, 127, 0, 0), (127, .iconst 0, 128, 0, 0), (128, .iconst 0, 129, 0, 0), (132, .aload 6, 134, 0, 0), (134, .iload_n 3, 135, 0, 0), (135, .bipush 10, 137, 0, 0), (137, .isub, 138, 0, 0), (141, .ireturn, 142, 0, 0)]
def kX11_rota : zM := (⟨"ReadAloud", "rota", "(III)I"⟩, prog_1_method_19_code, 7, (some .int), 10, qX11_rota)
def qX11_mean : List zE := [(0, .aload_n 0, 1, 0, 0), (1, .iload_n 1, 2, 0, 0), (2, .invokevirtual 133, 5, 42, 1), (5, .astore 4, 7, 0, 0), (7, .aload 4, 9, 0, 0), (9, .ifnull 22, 12, 31, 0), (12, .iload_n 2, 13, 0, 0), (13, .invokestatic 191, 16, 45, 1), (16, .ifCond .eq 15, 19, 31, 0), (19, .iload_n 2, 20, 0, 0), (20, .ifCond .le 15, 23, 35, 0), (23, .aload 4, 25, 0, 0), (28, .ifCond .ne 7, 31, 35, 0), (31, .ldc2_w 220, 34, 18446744073709551615, 0), (34, .lreturn, 35, 0, 0), (35, .aload_n 0, 36, 0, 0), (39, .astore 5, 41, 0, 0), (41, .aload 5, 43, 0, 0), (46, .aload 5, 48, 0, 0), (48, .aload 4, 50, 0, 0), (50, .iload_n 2, 51, 0, 0), (51, .aload 4, 53, 0, 0), (56, .aload 4, 58, 0, 0), (64, .aload 5, 66, 0, 0), (69, .aload 5, 71, 0, 0), (74, .lstore 6, 76, 0, 0), (76, .aload 5, 78, 0, 0), (81, .i2l, 82, 0, 0), (82, .lstore 8, 84, 0, 0), (84, .lload 6, 86, 0, 0), (86, .lload 8, 88, 0, 0), (91, .lstore 10, 93, 0, 0), (93, .lload 10, 95, 0, 0), (95, .lconst 0, 96, 0, 0), (96, .lcmp, 97, 0, 0), (97, .ifCond .ne 7, 100, 104, 0), (100, .ldc2_w 220, 103, 18446744073709551615, 0), (103, .lreturn, 104, 0, 0), (104, .iload_n 3, 105, 0, 0), (105, .ifCond .eq 11, 108, 116, 0), (108, .lload 8, 110, 0, 0), (110, .lload 10, 112, 0, 0), (112, .ldiv, 113, 0, 0), (113, .goto 8, 116, 121, 0), (116, .lload 6, 118, 0, 0), (118, .lload 10, 120, 0, 0), (120, .ldiv, 121, 0, 0), (121, .lreturn, 122, 0, 0)]
def kX11_mean : zM := (⟨"ReadAloud", "mean", "(IIZ)J"⟩, prog_1_method_20_code, 12, (some .long), 10, qX11_mean)
def qX11_elders : List zE := [(0, .aload_n 0, 1, 0, 0), (1, .iload_n 1, 2, 0, 0), (2, .invokevirtual 133, 5, 42, 1), (5, .astore 5, 7, 0, 0), (7, .aload 5, 9, 0, 0), (9, .ifnull 17, 12, 26, 0), (12, .iload_n 2, 13, 0, 0), (13, .invokestatic 94, 16, 43, 1), (16, .ifCond .eq 10, 19, 26, 0), (19, .iload_n 3, 20, 0, 0), (20, .invokestatic 191, 23, 45, 1), (23, .ifCond .ne 6, 26, 29, 0), (26, .bipush (-2), 28, 0, 0), (28, .ireturn, 29, 0, 0), (29, .aload 5, 31, 0, 0), (31, .iload_n 2, 32, 0, 0), (32, .iload_n 3, 33, 0, 0), (36, .iload 4, 38, 0, 0), (38, .ifCond .eq 11, 41, 49, 0), (41, .aload 5, 43, 0, 0), (46, .goto 8, 49, 54, 0), (49, .aload 5, 51, 0, 0), (54, .ireturn, 55, 0, 0)]
def kX11_elders : zM := (⟨"ReadAloud", "elders", "(IIIZ)I"⟩, prog_1_method_21_code, 6, (some .int), 10, qX11_elders)
def qX11_play : List zE := [(0, .aload_n 0, 1, 0, 0), (1, .iload_n 1, 2, 0, 0), (2, .invokevirtual 133, 5, 42, 1), (5, .astore 7, 7, 0, 0), (7, .aload 7, 9, 0, 0), (9, .ifnull 17, 12, 26, 0), (12, .iload_n 2, 13, 0, 0), (13, .invokestatic 191, 16, 45, 1), (16, .ifCond .eq 10, 19, 26, 0), (19, .iload_n 3, 20, 0, 0), (20, .invokestatic 242, 23, 44, 1), (23, .ifCond .ne 5, 26, 28, 0), (26, .iconst (-1), 27, 0, 0), (27, .ireturn, 28, 0, 0), (28, .aload 7, 30, 0, 0), (30, .getfield 165, 33, 3, 0), (33, .iload 4, 35, 0, 0), (38, .ifCond .eq 16, 41, 54, 0), (41, .aload 7, 43, 0, 0), (43, .getfield 165, 46, 3, 0), (46, .iload 5, 48, 0, 0), (51, .ifCond .ne 5, 54, 56, 0), (54, .iconst (-1), 55, 0, 0), (55, .ireturn, 56, 0, 0), (56, .iload 4, 58, 0, 0), (58, .ifCond .eq 22, 61, 80, 0), (61, .iload 5, 63, 0, 0), (63, .ifCond .ne 8, 66, 71, 0), (66, .iload_n 2, 67, 0, 0), (67, .iconst 1, 68, 0, 0), (68, .if_icmp .ne 12, 71, 80, 0), (71, .iload 6, 73, 0, 0), (73, .ifCond .eq 9, 76, 82, 0), (76, .iload_n 2, 77, 0, 0), (77, .ifCond .ne 5, 80, 82, 0), (80, .iconst (-1), 81, 0, 0), (81, .ireturn, 82, 0, 0), (82, .aload_n 0, 83, 0, 0), (86, .astore 8, 88, 0, 0), (88, .aload 8, 90, 0, 0), (93, .aload 8, 95, 0, 0), (95, .aload 7, 97, 0, 0), (97, .iload_n 2, 98, 0, 0), (98, .iload 4, 100, 0, 0), (100, .iload 5, 102, 0, 0), (105, .aload 8, 107, 0, 0), (107, .iload_n 3, 108, 0, 0), (111, .aload 8, 113, 0, 0), (113, .iconst 1, 114, 0, 0), (114, .iconst 0, 115, 0, 0), (118, .iload 6, 120, 0, 0), (120, .ifCond .eq 12, 123, 132, 0), (123, .aload 8, 125, 0, 0), (125, .iconst 0, 126, 0, 0), (129, .goto 8, 132, 137, 0), (132, .aload 8, 134, 0, 0), (137, .ireturn, 138, 0, 0)]
def kX11_play : zM := (⟨"ReadAloud", "play", "(IIIIIZ)I"⟩, prog_1_method_22_code, 9, (some .int), 10, qX11_play)
def qX11_fact : List zE := [(0, .aload_n 0, 1, 0, 0), (1, .iload_n 1, 2, 0, 0), (2, .invokevirtual 251, 5, 41, 1), (5, .astore 4, 7, 0, 0), (7, .aload 4, 9, 0, 0), (9, .ifnonnull 8, 12, 17, 0), (12, .bipush (-2), 14, 0, 0), (14, .goto 10, 17, 24, 0), (17, .aload 4, 19, 0, 0), (19, .iload_n 2, 20, 0, 0), (20, .iload_n 3, 21, 0, 0), (24, .ireturn, 25, 0, 0)]
def kX11_fact : zM := (⟨"ReadAloud", "fact", "(III)I"⟩, prog_1_method_23_code, 5, (some .int), 10, qX11_fact)
def qX11_fits : List zE := [(0, .aload_n 0, 1, 0, 0), (1, .iload_n 1, 2, 0, 0), (2, .invokevirtual 133, 5, 42, 1), (5, .astore 5, 7, 0, 0), (7, .aload_n 0, 8, 0, 0), (8, .iload_n 2, 9, 0, 0), (9, .invokevirtual 251, 12, 41, 1), (12, .astore 6, 14, 0, 0), (14, .aload 5, 16, 0, 0), (16, .ifnull 29, 19, 45, 0), (19, .aload 6, 21, 0, 0), (21, .ifnull 24, 24, 45, 0), (24, .iload_n 3, 25, 0, 0), (25, .invokestatic 191, 28, 45, 1), (28, .ifCond .eq 17, 31, 45, 0), (31, .iload 4, 33, 0, 0), (33, .iconst (-1), 34, 0, 0), (34, .if_icmp .eq 13, 37, 47, 0), (37, .iload 4, 39, 0, 0), (39, .invokestatic 94, 42, 43, 1), (42, .ifCond .ne 5, 45, 47, 0), (45, .iconst (-1), 46, 0, 0), (46, .ireturn, 47, 0, 0), (47, .aload_n 0, 48, 0, 0), (51, .astore 7, 53, 0, 0), (53, .aload 7, 55, 0, 0), (55, .aload 6, 57, 0, 0), (60, .aload 7, 62, 0, 0), (62, .aload 5, 64, 0, 0), (64, .iload_n 3, 65, 0, 0), (65, .aload 5, 67, 0, 0), (70, .aload 5, 72, 0, 0), (78, .iload 4, 80, 0, 0), (80, .iconst (-1), 81, 0, 0), (81, .if_icmp .ne 11, 84, 92, 0), (84, .aload 7, 86, 0, 0), (89, .goto 10, 92, 99, 0), (92, .aload 7, 94, 0, 0), (94, .iload 4, 96, 0, 0), (99, .ireturn, 100, 0, 0)]
def kX11_fits : zM := (⟨"ReadAloud", "fits", "(IIII)I"⟩, prog_1_method_24_code, 8, (some .int), 10, qX11_fits)
def qX11_sure : List zE := [(0, .aload_n 0, 1, 0, 0), (1, .iload_n 1, 2, 0, 0), (2, .invokevirtual 133, 5, 42, 1), (5, .astore 5, 7, 0, 0), (7, .aload_n 0, 8, 0, 0), (8, .iload_n 2, 9, 0, 0), (9, .invokevirtual 251, 12, 41, 1), (12, .astore 6, 14, 0, 0), (14, .aload 5, 16, 0, 0), (16, .ifnull 33, 19, 49, 0), (19, .aload 6, 21, 0, 0), (21, .ifnull 28, 24, 49, 0), (24, .iload_n 3, 25, 0, 0), (25, .invokestatic 191, 28, 45, 1), (28, .ifCond .eq 21, 31, 49, 0), (31, .iload 4, 33, 0, 0), (33, .iconst (-1), 34, 0, 0), (34, .if_icmp .lt 15, 37, 49, 0), (37, .iload 4, 39, 0, 0), (39, .iload_n 3, 40, 0, 0), (40, .if_icmp .lt 11, 43, 51, 0), (43, .iload 4, 45, 0, 0), (45, .iconst (-1), 46, 0, 0), (46, .if_icmp .eq 5, 49, 51, 0), (49, .iconst (-1), 50, 0, 0), (50, .ireturn, 51, 0, 0), (51, .aload_n 0, 52, 0, 0), (55, .astore 7, 57, 0, 0), (57, .aload 7, 59, 0, 0), (59, .aload 6, 61, 0, 0), (64, .aload 7, 66, 0, 0), (66, .aload 5, 68, 0, 0), (68, .iload_n 3, 69, 0, 0), (69, .aload 5, 71, 0, 0), (74, .aload 5, 76, 0, 0), (82, .aload 7, 84, 0, 0), (87, .ifCond .ne 5, 90, 92, 0), (90, .iconst (-1), 91, 0, 0), (91, .ireturn, 92, 0, 0), (92, .aload 7, 94, 0, 0), (97, .aload 7, 99, 0, 0), (99, .iconst 2, 100, 0, 0), (100, .iconst 2, 101, 0, 0), (104, .iload 4, 106, 0, 0), (106, .iconst (-1), 107, 0, 0), (107, .if_icmp .ne 11, 110, 118, 0), (110, .aload 7, 112, 0, 0), (115, .goto 10, 118, 125, 0), (118, .aload 7, 120, 0, 0), (120, .iload 4, 122, 0, 0), (125, .ireturn, 126, 0, 0)]
def kX11_sure : zM := (⟨"ReadAloud", "sure", "(IIII)I"⟩, prog_1_method_25_code, 8, (some .int), 10, qX11_sure)
def qX11_drawn : List zE := [(0, .aload_n 0, 1, 0, 0), (1, .iload_n 1, 2, 0, 0), (2, .invokevirtual 84, 5, 39, 1), (5, .astore 5, 7, 0, 0), (7, .aload 5, 9, 0, 0), (9, .ifnull 13, 12, 22, 0), (12, .iload_n 3, 13, 0, 0), (13, .ifCond .lt 9, 16, 22, 0), (16, .iload_n 3, 17, 0, 0), (17, .bipush 60, 19, 0, 0), (19, .if_icmp .le 6, 22, 25, 0), (22, .bipush (-2), 24, 0, 0), (24, .ireturn, 25, 0, 0), (25, .aload_n 0, 26, 0, 0), (26, .getfield 30, 29, 10, 3), (29, .aload 5, 31, 0, 0), (34, .aload_n 0, 35, 0, 0), (35, .getfield 30, 38, 10, 3), (38, .iload_n 2, 39, 0, 0), (39, .iload_n 3, 40, 0, 0), (43, .aload_n 0, 44, 0, 0), (44, .getfield 30, 47, 10, 3), (47, .iload 4, 49, 0, 0), (52, .ireturn, 53, 0, 0)]
def kX11_drawn : zM := (⟨"ReadAloud", "drawn", "(IIII)I"⟩, prog_1_method_26_code, 6, (some .int), 10, qX11_drawn)
def qX11_kinship : List zE := [(0, .aload_n 0, 1, 0, 0), (1, .iload_n 1, 2, 0, 0), (2, .invokevirtual 84, 5, 39, 1), (5, .astore 4, 7, 0, 0), (7, .aload 4, 9, 0, 0), (9, .ifnull 10, 12, 19, 0), (12, .iload_n 2, 13, 0, 0), (13, .invokestatic 242, 16, 44, 1), (16, .ifCond .ne 5, 19, 21, 0), (19, .iconst (-1), 20, 0, 0), (20, .ireturn, 21, 0, 0), (21, .iload_n 3, 22, 0, 0), (22, .ifCond .eq 12, 25, 34, 0), (25, .aload 4, 27, 0, 0), (27, .iload_n 2, 28, 0, 0), (31, .goto 9, 34, 40, 0), (34, .aload 4, 36, 0, 0), (36, .iload_n 2, 37, 0, 0), (40, .ireturn, 41, 0, 0)]
def kX11_kinship : zM := (⟨"ReadAloud", "kinship", "(IIZ)I"⟩, prog_1_method_27_code, 5, (some .int), 10, qX11_kinship)
def qX11_shared : List zE := [(0, .iload_n 1, 1, 0, 0), (1, .invokestatic 94, 4, 43, 1), (4, .ifCond .eq 10, 7, 14, 0), (7, .iload_n 2, 8, 0, 0), (8, .invokestatic 94, 11, 43, 1), (11, .ifCond .ne 5, 14, 16, 0), (14, .iconst (-1), 15, 0, 0), (15, .ireturn, 16, 0, 0), (16, .iload_n 1, 17, 0, 0), (17, .iload_n 2, 18, 0, 0), (18, .invokestatic 283, 21, 53, 2), (21, .istore 4, 23, 0, 0), (23, .iload_n 3, 24, 0, 0), (24, .ifCond .eq 8, 27, 32, 0), (27, .iload 4, 29, 0, 0), (29, .goto 8, 32, 37, 0), (32, .iload 4, 34, 0, 0), (34, .invokestatic 98, 37, 48, 1), (37, .ireturn, 38, 0, 0)]
def kX11_shared : zM := (⟨"ReadAloud", "shared", "(IIZ)I"⟩, prog_1_method_28_code, 5, (some .int), 10, qX11_shared)
def qX11_joined : List zE := [(0, .aload_n 0, 1, 0, 0), (1, .iload_n 1, 2, 0, 0), (2, .invokevirtual 133, 5, 42, 1), (5, .astore 5, 7, 0, 0), (7, .aload 5, 9, 0, 0), (9, .ifnull 17, 12, 26, 0), (12, .iload_n 2, 13, 0, 0), (13, .invokestatic 94, 16, 43, 1), (16, .ifCond .eq 10, 19, 26, 0), (19, .iload_n 3, 20, 0, 0), (20, .invokestatic 94, 23, 43, 1), (23, .ifCond .ne 5, 26, 28, 0), (26, .iconst (-1), 27, 0, 0), (27, .ireturn, 28, 0, 0), (28, .aload_n 0, 29, 0, 0), (29, .iconst 0, 30, 0, 0), (33, .astore 6, 35, 0, 0), (35, .aload_n 0, 36, 0, 0), (36, .iconst 1, 37, 0, 0), (40, .astore 7, 42, 0, 0), (42, .aload 6, 44, 0, 0), (44, .aload 5, 46, 0, 0), (46, .iload_n 2, 47, 0, 0), (47, .aload 5, 49, 0, 0), (52, .iconst (-1), 53, 0, 0), (56, .aload 7, 58, 0, 0), (58, .aload 5, 60, 0, 0), (60, .iload_n 3, 61, 0, 0), (61, .aload 5, 63, 0, 0), (66, .iconst (-1), 67, 0, 0), (70, .aload 6, 72, 0, 0), (72, .aload 7, 74, 0, 0), (77, .istore 8, 79, 0, 0), (79, .iload 4, 81, 0, 0), (81, .ifCond .ne 9, 84, 90, 0), (84, .iload 8, 86, 0, 0), (86, .iconst (-1), 87, 0, 0), (87, .if_icmp .ne 6, 90, 93, 0), (90, .iload 8, 92, 0, 0), (92, .ireturn, 93, 0, 0), (93, .aload 6, 95, 0, 0), (95, .getfield 149, 98, 8, 2), (98, .iload 8, 100, 0, 0), (100, .iaload, 101, 0, 0), (101, .aload 7, 103, 0, 0), (103, .getfield 149, 106, 8, 2), (106, .iload 8, 108, 0, 0), (108, .iaload, 109, 0, 0), (109, .iadd, 110, 0, 0), (110, .ireturn, 111, 0, 0)]
def kX11_joined : zM := (⟨"ReadAloud", "joined", "(IIIZ)I"⟩, prog_1_method_29_code, 9, (some .int), 10, qX11_joined)
def qX11_nearest : List zE := [(0, .aload_n 0, 1, 0, 0), (1, .iload_n 1, 2, 0, 0), (2, .invokevirtual 133, 5, 42, 1), (5, .astore 5, 7, 0, 0), (7, .aload 5, 9, 0, 0), (9, .ifnull 17, 12, 26, 0), (12, .iload_n 2, 13, 0, 0), (13, .invokestatic 94, 16, 43, 1), (16, .ifCond .eq 10, 19, 26, 0), (19, .iload_n 3, 20, 0, 0), (20, .invokestatic 94, 23, 43, 1), (23, .ifCond .ne 5, 26, 28, 0), (26, .iconst (-1), 27, 0, 0), (27, .ireturn, 28, 0, 0), (28, .aload_n 0, 29, 0, 0), (29, .iconst 0, 30, 0, 0), (33, .astore 6, 35, 0, 0), (35, .aload 6, 37, 0, 0), (37, .aload 5, 39, 0, 0), (39, .iload_n 2, 40, 0, 0), (40, .aload 5, 42, 0, 0), (45, .iconst (-1), 46, 0, 0), (49, .aload 6, 51, 0, 0), (51, .iload_n 3, 52, 0, 0), (55, .istore 7, 57, 0, 0), (57, .iload 4, 59, 0, 0), (59, .ifCond .eq 8, 62, 67, 0), (62, .iload 7, 64, 0, 0), (64, .goto 9, 67, 73, 0), (67, .iload 7, 69, 0, 0), (69, .iload_n 3, 70, 0, 0), (70, .invokestatic 104, 73, 52, 2), (73, .ireturn, 74, 0, 0)]
def kX11_nearest : zM := (⟨"ReadAloud", "nearest", "(IIIZ)I"⟩, prog_1_method_30_code, 8, (some .int), 10, qX11_nearest)
def qX11_settles : List zE := [(0, .aload_n 0, 1, 0, 0), (1, .iload_n 1, 2, 0, 0), (2, .invokevirtual 133, 5, 42, 1), (5, .astore 4, 7, 0, 0), (7, .aload 4, 9, 0, 0), (9, .ifnull 10, 12, 19, 0), (12, .iload_n 2, 13, 0, 0), (13, .invokestatic 94, 16, 43, 1), (16, .ifCond .ne 5, 19, 21, 0), (19, .iconst (-1), 20, 0, 0), (20, .ireturn, 21, 0, 0), (21, .aload_n 0, 22, 0, 0), (22, .iconst 0, 23, 0, 0), (26, .astore 5, 28, 0, 0), (28, .aload 5, 30, 0, 0), (30, .aload 4, 32, 0, 0), (32, .iload_n 2, 33, 0, 0), (33, .aload 4, 35, 0, 0), (38, .iconst (-1), 39, 0, 0), (42, .aload 5, 44, 0, 0), (44, .aload 4, 46, 0, 0), (49, .istore 6, 51, 0, 0), (51, .iload_n 3, 52, 0, 0), (52, .ifCond .ne 9, 55, 61, 0), (55, .iload 6, 57, 0, 0), (57, .iconst (-1), 58, 0, 0), (58, .if_icmp .ne 8, 61, 66, 0), (61, .iload 6, 63, 0, 0), (63, .goto 11, 66, 74, 0), (66, .aload 5, 68, 0, 0), (68, .getfield 149, 71, 8, 2), (71, .iload 6, 73, 0, 0), (73, .iaload, 74, 0, 0), (74, .ireturn, 75, 0, 0)]
def kX11_settles : zM := (⟨"ReadAloud", "settles", "(IIZ)I"⟩, prog_1_method_31_code, 7, (some .int), 10, qX11_settles)
def qX11_unmade : List zE := [(0, .aload_n 0, 1, 0, 0), (1, .iload_n 1, 2, 0, 0), (2, .invokevirtual 133, 5, 42, 1), (5, .astore_n 3, 6, 0, 0), (6, .aload_n 3, 7, 0, 0), (7, .ifnonnull 6, 10, 13, 0), (10, .bipush (-2), 12, 0, 0), (12, .ireturn, 13, 0, 0), (13, .aload_n 3, 14, 0, 0), (17, .iload_n 2, 18, 0, 0), (18, .ifCond .eq 10, 21, 28, 0), (21, .aload_n 3, 22, 0, 0), (25, .goto 7, 28, 32, 0), (28, .aload_n 3, 29, 0, 0), (32, .ireturn, 33, 0, 0)]
def kX11_unmade : zM := (⟨"ReadAloud", "unmade", "(IZ)I"⟩, prog_1_method_32_code, 4, (some .int), 10, qX11_unmade)
def qX11_silenced : List zE := [(0, .aload_n 0, 1, 0, 0), (1, .iload_n 1, 2, 0, 0), (2, .invokevirtual 133, 5, 42, 1), (5, .astore 4, 7, 0, 0), (7, .aload 4, 9, 0, 0), (9, .ifnull 22, 12, 31, 0), (12, .iload_n 2, 13, 0, 0), (13, .invokestatic 94, 16, 43, 1), (16, .ifCond .eq 15, 19, 31, 0), (19, .iload_n 3, 20, 0, 0), (20, .invokestatic 94, 23, 43, 1), (23, .ifCond .eq 8, 26, 31, 0), (26, .iload_n 2, 27, 0, 0), (27, .iload_n 3, 28, 0, 0), (28, .if_icmp .ne 5, 31, 33, 0), (31, .iconst (-1), 32, 0, 0), (32, .ireturn, 33, 0, 0), (33, .aload_n 0, 34, 0, 0), (34, .iconst 0, 35, 0, 0), (38, .astore 5, 40, 0, 0), (40, .aload 4, 42, 0, 0), (42, .getfield 165, 45, 3, 0), (45, .getfield 300, 48, 0, 1), (48, .istore 6, 50, 0, 0), (50, .iconst 0, 51, 0, 0), (51, .istore 7, 53, 0, 0), (53, .iload 7, 55, 0, 0), (55, .iload 6, 57, 0, 0), (57, .if_icmp .gt 71, 60, 128, 0), (60, .iconst 0, 61, 0, 0), (61, .istore 8, 63, 0, 0), (63, .iload 8, 65, 0, 0), (65, .aload 4, 67, 0, 0), (70, .if_icmp .gt 52, 73, 122, 0), (73, .iload 8, 75, 0, 0), (78, .iload 7, 80, 0, 0), (80, .if_icmp .ne 36, 83, 116, 0), (83, .aload 5, 85, 0, 0), (85, .aload 4, 87, 0, 0), (87, .iload_n 2, 88, 0, 0), (88, .aload 4, 90, 0, 0), (93, .iload 8, 95, 0, 0), (95, .iconst (-1), 96, 0, 0), (96, .ixor, 97, 0, 0), (97, .iand, 98, 0, 0), (98, .iload_n 3, 99, 0, 0), (102, .aload 5, 104, 0, 0), (104, .getfield 149, 107, 8, 2), (107, .iload_n 3, 108, 0, 0), (108, .iaload, 109, 0, 0), (109, .iconst (-1), 110, 0, 0), (110, .if_icmp .ne 6, 113, 116, 0), (113, .iload 8, 115, 0, 0), (115, .ireturn, 116, 0, 0), (116, .iinc 8 1, 119, 0, 0), (119, .goto (-56), 122, 63, 0), (122, .iinc 7 1, 125, 0, 0), (125, .goto (-72), 128, 53, 0), (128, .iconst (-1), 129, 0, 0), (129, .ireturn, 130, 0, 0)]
def kX11_silenced : zM := (⟨"ReadAloud", "silenced", "(III)I"⟩, prog_1_method_33_code, 9, (some .int), 10, qX11_silenced)
def qX11_circles : List zE := [(0, .aload_n 0, 1, 0, 0), (1, .iload_n 1, 2, 0, 0), (2, .invokevirtual 133, 5, 42, 1), (5, .astore_n 3, 6, 0, 0), (6, .aload_n 3, 7, 0, 0), (7, .ifnull 21, 10, 28, 0), (10, .iload_n 2, 11, 0, 0), (11, .iconst (-1), 12, 0, 0), (12, .if_icmp .eq 18, 15, 30, 0), (15, .iload_n 2, 16, 0, 0), (16, .bipush (-2), 18, 0, 0), (18, .if_icmp .eq 12, 21, 30, 0), (21, .iload_n 2, 22, 0, 0), (22, .invokestatic 94, 25, 43, 1), (25, .ifCond .ne 5, 28, 30, 0), (28, .iconst (-1), 29, 0, 0), (29, .ireturn, 30, 0, 0), (30, .aload_n 0, 31, 0, 0), (34, .astore 4, 36, 0, 0), (36, .aload 4, 38, 0, 0), (38, .aload_n 3, 39, 0, 0), (42, .iload_n 2, 43, 0, 0), (43, .iconst (-1), 44, 0, 0), (44, .if_icmp .ne 9, 47, 53, 0), (47, .aload 4, 49, 0, 0), (49, .getfield 312, 52, 4, 1), (52, .ireturn, 53, 0, 0), (53, .iload_n 2, 54, 0, 0), (54, .bipush (-2), 56, 0, 0), (56, .if_icmp .ne 11, 59, 67, 0), (59, .aload 4, 61, 0, 0), (61, .getfield 315, 64, 4, 2), (64, .goto 10, 67, 74, 0), (67, .aload 4, 69, 0, 0), (69, .getfield 318, 72, 4, 14), (72, .iload_n 2, 73, 0, 0), (73, .iaload, 74, 0, 0), (74, .ireturn, 75, 0, 0)]
def kX11_circles : zM := (⟨"ReadAloud", "circles", "(II)I"⟩, prog_1_method_34_code, 5, (some .int), 10, qX11_circles)
def qX11_count : List zE := [(0, .iload_n 1, 1, 0, 0), (1, .ifCond .lt 8, 4, 9, 0), (4, .iload_n 1, 5, 0, 0), (5, .iconst 3, 6, 0, 0), (6, .if_icmp .lt 8, 9, 14, 0), (9, .bipush (-2), 11, 0, 0), (11, .goto 12, 14, 23, 0), (14, .aload_n 0, 15, 0, 0), (15, .getfield 10, 18, 10, 0), (18, .getfield 68, 21, 7, 4), (21, .iload_n 1, 22, 0, 0), (22, .iaload, 23, 0, 0), (23, .ireturn, 24, 0, 0)]
def kX11_count : zM := (⟨"ReadAloud", "count", "(I)I"⟩, prog_1_method_35_code, 2, (some .int), 10, qX11_count)
def qX11_image : List zE := [(0, .iload_n 1, 1, 0, 0), (1, .ifCond .lt 8, 4, 9, 0), (4, .iload_n 1, 5, 0, 0), (5, .iconst 3, 6, 0, 0), (6, .if_icmp .lt 5, 9, 11, 0), (9, .iconst 0, 10, 0, 0), (10, .ireturn, 11, 0, 0), (11, .aload_n 0, 12, 0, 0), (12, .getfield 16, 15, 10, 1), (15, .iload_n 1, 16, 0, 0), (16, .aaload, 17, 0, 0), (17, .ifnonnull 16, 20, 33, 0), (20, .aload_n 0, 21, 0, 0), (21, .getfield 16, 24, 10, 1), (24, .iload_n 1, 25, 0, 0), (25, .new 7, 28, 7, 0), (28, .dup, 29, 0, 0), (29, .invokespecial 9, 32, 55, 0), (32, .aastore, 33, 0, 0), (33, .aload_n 0, 34, 0, 0), (34, .getfield 16, 37, 10, 1), (37, .iload_n 1, 38, 0, 0), (38, .aaload, 39, 0, 0), (39, .aload_n 0, 40, 0, 0), (40, .getfield 10, 43, 10, 0), (43, .invokevirtual 321, 46, 57, 1), (46, .iconst 1, 47, 0, 0), (47, .ireturn, 48, 0, 0)]
def kX11_image : zM := (⟨"ReadAloud", "image", "(I)Z"⟩, prog_1_method_36_code, 2, (some .boolean), 10, qX11_image)
def qX11_again : List zE := [(0, .iload_n 1, 1, 0, 0), (1, .ifCond .lt 17, 4, 18, 0), (4, .iload_n 1, 5, 0, 0), (5, .iconst 3, 6, 0, 0), (6, .if_icmp .ge 12, 9, 18, 0), (9, .aload_n 0, 10, 0, 0), (10, .getfield 16, 13, 10, 1), (13, .iload_n 1, 14, 0, 0), (14, .aaload, 15, 0, 0), (15, .ifnonnull 5, 18, 20, 0), (18, .iconst 0, 19, 0, 0), (19, .ireturn, 20, 0, 0), (20, .aload_n 0, 21, 0, 0), (21, .getfield 10, 24, 10, 0), (24, .aload_n 0, 25, 0, 0), (25, .getfield 16, 28, 10, 1), (28, .iload_n 1, 29, 0, 0), (29, .aaload, 30, 0, 0), (30, .invokevirtual 321, 33, 57, 1), (33, .iconst 1, 34, 0, 0), (34, .ireturn, 35, 0, 0)]
def kX11_again : zM := (⟨"ReadAloud", "again", "(I)Z"⟩, prog_1_method_37_code, 2, (some .boolean), 10, qX11_again)
def qX11_tellInto : List zE := [(0, .iload_n 1, 1, 0, 0), (1, .lookupswitch 115 #[(0, 27), (1, 71)], 28, 0, 0), (28, .new 89, 31, 0, 0), (31, .dup, 32, 0, 0), (32, .invokespecial 325, 35, 63, 0), (35, .astore 4, 37, 0, 0), (37, .aload_n 0, 38, 0, 0), (38, .getfield 23, 41, 10, 2), (41, .aload_n 0, 42, 0, 0), (42, .getfield 10, 45, 10, 0), (45, .getfield 326, 48, 7, 0), (48, .iload_n 3, 49, 0, 0), (49, .aload 4, 51, 0, 0), (51, .invokevirtual 330, 54, 59, 3), (54, .ifCond .eq 16, 57, 70, 0), (57, .aload_n 0, 58, 0, 0), (58, .getfield 10, 61, 10, 0), (61, .getfield 334, 64, 7, 5), (64, .iload_n 2, 65, 0, 0), (65, .aload 4, 67, 0, 0), (67, .aastore, 68, 0, 0), (68, .iconst 1, 69, 0, 0), (69, .ireturn, 70, 0, 0), (70, .iconst 0, 71, 0, 0), (71, .ireturn, 72, 0, 0), (72, .new 118, 75, 9, 0), (75, .dup, 76, 0, 0), (76, .invokespecial 338, 79, 64, 0), (79, .astore 5, 81, 0, 0), (81, .aload_n 0, 82, 0, 0), (82, .getfield 23, 85, 10, 2), (85, .aload_n 0, 86, 0, 0), (86, .getfield 10, 89, 10, 0), (89, .getfield 326, 92, 7, 0), (92, .iload_n 3, 93, 0, 0), (93, .aload 5, 95, 0, 0), (95, .invokevirtual 330, 98, 59, 3), (98, .ifCond .eq 16, 101, 114, 0), (101, .aload_n 0, 102, 0, 0), (102, .getfield 10, 105, 10, 0), (105, .getfield 339, 108, 7, 6), (108, .iload_n 2, 109, 0, 0), (109, .aload 5, 111, 0, 0), (111, .aastore, 112, 0, 0), (112, .iconst 1, 113, 0, 0), (113, .ireturn, 114, 0, 0), (114, .iconst 0, 115, 0, 0), (115, .ireturn, 116, 0, 0), (116, .new 256, 119, 5, 0), (119, .dup, 120, 0, 0), (120, .invokespecial 343, 123, 65, 0), (123, .astore 6, 125, 0, 0), (125, .aload_n 0, 126, 0, 0), (126, .getfield 23, 129, 10, 2), (129, .aload_n 0, 130, 0, 0), (130, .getfield 10, 133, 10, 0), (133, .getfield 326, 136, 7, 0), (136, .iload_n 3, 137, 0, 0), (137, .aload 6, 139, 0, 0), (139, .invokevirtual 330, 142, 59, 3), (142, .ifCond .eq 16, 145, 158, 0), (145, .aload_n 0, 146, 0, 0), (146, .getfield 10, 149, 10, 0), (149, .getfield 344, 152, 7, 7), (152, .iload_n 2, 153, 0, 0), (153, .aload 6, 155, 0, 0), (155, .aastore, 156, 0, 0), (156, .iconst 1, 157, 0, 0), (157, .ireturn, 158, 0, 0), (158, .iconst 0, 159, 0, 0), (159, .ireturn, 160, 0, 0)]
def kX11_tellInto : zM := (⟨"ReadAloud", "tellInto", "(III)Z"⟩, prog_1_method_38_code, 7, (some .boolean), 10, qX11_tellInto)
def qX11_bookAt : List zE := [(0, .iload_n 1, 1, 0, 0), (1, .ifCond .lt 16, 4, 17, 0), (4, .iload_n 1, 5, 0, 0), (5, .aload_n 0, 6, 0, 0), (6, .getfield 10, 9, 10, 0), (9, .getfield 68, 12, 7, 4), (12, .iconst 0, 13, 0, 0), (13, .iaload, 14, 0, 0), (14, .if_icmp .lt 7, 17, 21, 0), (17, .aconst_null, 18, 0, 0), (18, .goto 12, 21, 30, 0), (21, .aload_n 0, 22, 0, 0), (22, .getfield 10, 25, 10, 0), (25, .getfield 334, 28, 7, 5), (28, .iload_n 1, 29, 0, 0), (29, .aaload, 30, 0, 0), (30, .areturn, 31, 0, 0)]
def kX11_bookAt : zM := (⟨"ReadAloud", "bookAt", "(I)LReadAloud$Book;"⟩, prog_1_method_39_code, 2, (some (.object "ReadAloud$Book")), 10, qX11_bookAt)
def qX11_yearAt : List zE := [(0, .iload_n 1, 1, 0, 0), (1, .ifCond .lt 16, 4, 17, 0), (4, .iload_n 1, 5, 0, 0), (5, .aload_n 0, 6, 0, 0), (6, .getfield 10, 9, 10, 0), (9, .getfield 68, 12, 7, 4), (12, .iconst 1, 13, 0, 0), (13, .iaload, 14, 0, 0), (14, .if_icmp .lt 7, 17, 21, 0), (17, .aconst_null, 18, 0, 0), (18, .goto 12, 21, 30, 0), (21, .aload_n 0, 22, 0, 0), (22, .getfield 10, 25, 10, 0), (25, .getfield 339, 28, 7, 6), (28, .iload_n 1, 29, 0, 0), (29, .aaload, 30, 0, 0), (30, .areturn, 31, 0, 0)]
def kX11_yearAt : zM := (⟨"ReadAloud", "yearAt", "(I)LReadAloud$Year;"⟩, prog_1_method_40_code, 2, (some (.object "ReadAloud$Year")), 10, qX11_yearAt)
def qX11_sightAt : List zE := [(0, .iload_n 1, 1, 0, 0), (1, .ifCond .lt 16, 4, 17, 0), (4, .iload_n 1, 5, 0, 0), (5, .aload_n 0, 6, 0, 0), (6, .getfield 10, 9, 10, 0), (9, .getfield 68, 12, 7, 4), (12, .iconst 2, 13, 0, 0), (13, .iaload, 14, 0, 0), (14, .if_icmp .lt 7, 17, 21, 0), (17, .aconst_null, 18, 0, 0), (18, .goto 12, 21, 30, 0), (21, .aload_n 0, 22, 0, 0), (22, .getfield 10, 25, 10, 0), (25, .getfield 344, 28, 7, 7), (28, .iload_n 1, 29, 0, 0), (29, .aaload, 30, 0, 0), (30, .areturn, 31, 0, 0)]
def kX11_sightAt : zM := (⟨"ReadAloud", "sightAt", "(I)LReadAloud$Sight;"⟩, prog_1_method_41_code, 2, (some (.object "ReadAloud$Sight")), 10, qX11_sightAt)
def qX11_readingsAt : List zE := [(0, .aload_n 0, 1, 0, 0), (1, .iload_n 1, 2, 0, 0), (2, .invokevirtual 84, 5, 39, 1), (5, .astore_n 2, 6, 0, 0), (6, .aload_n 2, 7, 0, 0), (7, .ifnonnull 5, 10, 12, 0), (10, .aconst_null, 11, 0, 0), (11, .areturn, 12, 0, 0), (12, .aload_n 0, 13, 0, 0), (13, .getfield 36, 16, 10, 4), (16, .iload_n 1, 17, 0, 0), (17, .aaload, 18, 0, 0), (18, .ifnonnull 16, 21, 34, 0), (21, .aload_n 0, 22, 0, 0), (22, .getfield 36, 25, 10, 4), (25, .iload_n 1, 26, 0, 0), (26, .new 34, 29, 3, 0), (29, .dup, 30, 0, 0), (33, .aastore, 34, 0, 0), (34, .aload_n 0, 35, 0, 0), (35, .getfield 36, 38, 10, 4), (38, .iload_n 1, 39, 0, 0), (39, .aaload, 40, 0, 0), (40, .aload_n 2, 41, 0, 0), (44, .aload_n 0, 45, 0, 0), (45, .getfield 36, 48, 10, 4), (48, .iload_n 1, 49, 0, 0), (49, .aaload, 50, 0, 0), (50, .areturn, 51, 0, 0)]
def kX11_readingsAt : zM := (⟨"ReadAloud", "readingsAt", "(I)LReadAloud$Readings;"⟩, prog_1_method_42_code, 3, (some (.object "ReadAloud$Readings")), 10, qX11_readingsAt)
def qX11_isText : List zE := [(0, .iload_n 0, 1, 0, 0), (1, .ifCond .lt 14, 4, 15, 0), (4, .iload_n 0, 5, 0, 0), (5, .sipush 5461, 8, 0, 0), (8, .if_icmp .ge 7, 11, 15, 0), (11, .iconst 1, 12, 0, 0), (12, .goto 4, 15, 16, 0), (15, .iconst 0, 16, 0, 0), (16, .ireturn, 17, 0, 0)]
def kX11_isText : zM := (⟨"ReadAloud", "isText", "(I)Z"⟩, prog_1_method_46_code, 1, (some .boolean), 10, qX11_isText)
def qX11_isWord : List zE := [(0, .iload_n 0, 1, 0, 0), (1, .ifCond .lt 12, 4, 13, 0), (4, .iload_n 0, 5, 0, 0), (5, .iconst 4, 6, 0, 0), (6, .if_icmp .ge 7, 9, 13, 0), (9, .iconst 1, 10, 0, 0), (10, .goto 4, 13, 14, 0), (13, .iconst 0, 14, 0, 0), (14, .ireturn, 15, 0, 0)]
def kX11_isWord : zM := (⟨"ReadAloud", "isWord", "(I)Z"⟩, prog_1_method_47_code, 1, (some .boolean), 10, qX11_isWord)
def qX11_isSpan : List zE := [(0, .iload_n 0, 1, 0, 0), (1, .ifCond .lt 13, 4, 14, 0), (4, .iload_n 0, 5, 0, 0), (5, .bipush 9, 7, 0, 0), (7, .if_icmp .gt 7, 10, 14, 0), (10, .iconst 1, 11, 0, 0), (11, .goto 4, 14, 15, 0), (14, .iconst 0, 15, 0, 0), (15, .ireturn, 16, 0, 0)]
def kX11_isSpan : zM := (⟨"ReadAloud", "isSpan", "(I)Z"⟩, prog_1_method_48_code, 1, (some .boolean), 10, qX11_isSpan)
def qX11_isIn : List zE := [(0, .iload_n 0, 1, 0, 0), (1, .iload_n 1, 2, 0, 0), (2, .ishr, 3, 0, 0), (3, .iconst 1, 4, 0, 0), (4, .iand, 5, 0, 0), (5, .ifCond .eq 7, 8, 12, 0), (8, .iconst 1, 9, 0, 0), (9, .goto 4, 12, 13, 0), (12, .iconst 0, 13, 0, 0), (13, .ireturn, 14, 0, 0)]
def kX11_isIn : zM := (⟨"ReadAloud", "isIn", "(II)Z"⟩, prog_1_method_49_code, 2, (some .boolean), 10, qX11_isIn)
def qX11_longer : List zE := [(0, .iconst 4, 1, 0, 0), (1, .iload_n 0, 2, 0, 0), (2, .imul, 3, 0, 0), (3, .iconst 1, 4, 0, 0), (4, .iadd, 5, 0, 0), (5, .iload_n 1, 6, 0, 0), (6, .iadd, 7, 0, 0), (7, .ireturn, 8, 0, 0)]
def kX11_longer : zM := (⟨"ReadAloud", "longer", "(II)I"⟩, prog_1_method_51_code, 2, (some .int), 10, qX11_longer)
def qX11_lengthOf : List zE := [(0, .iconst 0, 1, 0, 0), (1, .istore_n 1, 2, 0, 0), (2, .iload_n 0, 3, 0, 0), (3, .istore_n 2, 4, 0, 0), (4, .iconst 0, 5, 0, 0), (5, .istore_n 3, 6, 0, 0), (6, .iload_n 3, 7, 0, 0), (7, .bipush 6, 9, 0, 0), (9, .if_icmp .ge 22, 12, 31, 0), (12, .iload_n 2, 13, 0, 0), (13, .ifCond .le 18, 16, 31, 0), (16, .iload_n 2, 17, 0, 0), (17, .iconst 1, 18, 0, 0), (18, .isub, 19, 0, 0), (19, .iconst 4, 20, 0, 0), (20, .idiv, 21, 0, 0), (21, .istore_n 2, 22, 0, 0), (22, .iinc 1 1, 25, 0, 0), (25, .iinc 3 1, 28, 0, 0), (28, .goto (-22), 31, 6, 0), (31, .iload_n 1, 32, 0, 0), (32, .ireturn, 33, 0, 0)]
def kX11_lengthOf : zM := (⟨"ReadAloud", "lengthOf", "(I)I"⟩, prog_1_method_52_code, 4, (some .int), 10, qX11_lengthOf)
def qX11_bitsOf : List zE := [(0, .iload_n 0, 1, 0, 0), (1, .invokestatic 98, 4, 48, 1), (4, .istore_n 1, 5, 0, 0), (5, .iconst 1, 6, 0, 0), (6, .iconst 2, 7, 0, 0), (7, .iload_n 1, 8, 0, 0), (8, .imul, 9, 0, 0), (9, .ishl, 10, 0, 0), (10, .istore_n 2, 11, 0, 0), (11, .iload_n 0, 12, 0, 0), (12, .iload_n 2, 13, 0, 0), (13, .iconst 1, 14, 0, 0), (14, .isub, 15, 0, 0), (15, .iconst 3, 16, 0, 0), (16, .idiv, 17, 0, 0), (17, .isub, 18, 0, 0), (18, .iload_n 2, 19, 0, 0), (19, .iadd, 20, 0, 0), (20, .ireturn, 21, 0, 0)]
def kX11_bitsOf : zM := (⟨"ReadAloud", "bitsOf", "(I)I"⟩, prog_1_method_53_code, 3, (some .int), 10, qX11_bitsOf)
def qX11_wordAt : List zE := [(0, .iload_n 0, 1, 0, 0), (1, .invokestatic 358, 4, 49, 1), (4, .iload_n 0, 5, 0, 0), (5, .invokestatic 98, 8, 48, 1), (8, .iconst 1, 9, 0, 0), (9, .isub, 10, 0, 0), (10, .iload_n 1, 11, 0, 0), (11, .isub, 12, 0, 0), (12, .invokestatic 361, 15, 51, 2), (15, .ireturn, 16, 0, 0)]
def kX11_wordAt : zM := (⟨"ReadAloud", "wordAt", "(II)I"⟩, prog_1_method_56_code, 2, (some .int), 10, qX11_wordAt)
def qX11_wordOfBits : List zE := [(0, .iload_n 0, 1, 0, 0), (1, .iconst 2, 2, 0, 0), (2, .iload_n 1, 3, 0, 0), (3, .imul, 4, 0, 0), (4, .ishr, 5, 0, 0), (5, .iconst 3, 6, 0, 0), (6, .iand, 7, 0, 0), (7, .ireturn, 8, 0, 0)]
def kX11_wordOfBits : zM := (⟨"ReadAloud", "wordOfBits", "(II)I"⟩, prog_1_method_57_code, 2, (some .int), 10, qX11_wordOfBits)
set_option maxRecDepth 200000 in
def qX11_driftOf : List zE := [(0, .iload_n 0, 1, 0, 0), (1, .invokestatic 358, 4, 49, 1), (4, .istore_n 2, 5, 0, 0), (5, .iload_n 1, 6, 0, 0), (6, .invokestatic 358, 9, 49, 1), (9, .istore_n 3, 10, 0, 0), (10, .iload_n 0, 11, 0, 0), (11, .invokestatic 98, 14, 48, 1), (14, .istore 4, 16, 0, 0), (16, .iload_n 1, 17, 0, 0), (17, .invokestatic 98, 20, 48, 1), (20, .istore 5, 22, 0, 0), (22, .iconst 0, 23, 0, 0), (23, .istore 6, 25, 0, 0), (25, .iconst 0, 26, 0, 0), (26, .istore 7, 28, 0, 0), (28, .iload 7, 30, 0, 0), (30, .iload 5, 32, 0, 0), (32, .if_icmp .gt 21, 35, 53, 0), (35, .iload 6, 37, 0, 0), (37, .iload 7, 39, 0, 0), (39, .iconst 4, 40, 0, 0), (40, .iload 7, 42, 0, 0), (42, .imul, 43, 0, 0), (43, .ishl, 44, 0, 0), (44, .ior, 45, 0, 0), (45, .istore 6, 47, 0, 0), (47, .iinc 7 1, 50, 0, 0), (50, .goto (-22), 53, 28, 0), (53, .iconst 1, 54, 0, 0), (54, .istore 7, 56, 0, 0), (56, .iload 7, 58, 0, 0), (58, .iload 4, 60, 0, 0), (60, .if_icmp .gt 120, 63, 180, 0), (63, .iload_n 2, 64, 0, 0), (64, .iload 7, 66, 0, 0), (66, .iconst 1, 67, 0, 0), (67, .isub, 68, 0, 0), (68, .invokestatic 361, 71, 51, 2), (71, .istore 8, 73, 0, 0), (73, .iload 7, 75, 0, 0), (75, .istore 9, 77, 0, 0), (77, .iload 7, 79, 0, 0), (79, .istore 10, 81, 0, 0), (81, .iconst 1, 82, 0, 0), (82, .istore 11, 84, 0, 0), (84, .iload 11, 86, 0, 0), (86, .iload 5, 88, 0, 0), (88, .if_icmp .gt 82, 91, 170, 0), (91, .iload 8, 93, 0, 0), (93, .iload_n 3, 94, 0, 0), (94, .iload 11, 96, 0, 0), (96, .iconst 1, 97, 0, 0), (97, .isub, 98, 0, 0), (98, .invokestatic 361, 101, 51, 2), (101, .if_icmp .ne 7, 104, 108, 0), (104, .iconst 0, 105, 0, 0), (105, .goto 4, 108, 109, 0), (108, .iconst 1, 109, 0, 0), (109, .istore 12, 111, 0, 0), (111, .iload 9, 113, 0, 0), (113, .iload 6, 115, 0, 0), (115, .iconst 4, 116, 0, 0), (116, .iload 11, 118, 0, 0), (118, .imul, 119, 0, 0), (119, .ishr, 120, 0, 0), (120, .bipush 15, 122, 0, 0), (122, .iand, 123, 0, 0), (123, .invokestatic 364, 126, 0, 101), (126, .iconst 1, 127, 0, 0), (127, .iadd, 128, 0, 0), (128, .istore 13, 130, 0, 0), (130, .iload 6, 132, 0, 0), (132, .iconst 4, 133, 0, 0), (133, .iload 11, 135, 0, 0), (135, .iconst 1, 136, 0, 0), (136, .isub, 137, 0, 0), (137, .imul, 138, 0, 0), (138, .ishr, 139, 0, 0), (139, .bipush 15, 141, 0, 0), (141, .iand, 142, 0, 0), (142, .iload 12, 144, 0, 0), (144, .iadd, 145, 0, 0), (145, .iload 13, 147, 0, 0), (147, .invokestatic 364, 150, 0, 101), (150, .istore 9, 152, 0, 0), (152, .iload 10, 154, 0, 0), (154, .iload 9, 156, 0, 0), (156, .iconst 4, 157, 0, 0), (157, .iload 11, 159, 0, 0), (159, .imul, 160, 0, 0), (160, .ishl, 161, 0, 0), (161, .ior, 162, 0, 0), (162, .istore 10, 164, 0, 0), (164, .iinc 11 1, 167, 0, 0), (167, .goto (-83), 170, 84, 0), (170, .iload 10, 172, 0, 0), (172, .istore 6, 174, 0, 0), (174, .iinc 7 1, 177, 0, 0), (177, .goto (-121), 180, 56, 0), (180, .iload 6, 182, 0, 0), (182, .iconst 4, 183, 0, 0), (183, .iload 5, 185, 0, 0), (185, .imul, 186, 0, 0), (186, .ishr, 187, 0, 0), (187, .bipush 15, 189, 0, 0), (189, .iand, 190, 0, 0), (190, .ireturn, 191, 0, 0)]
def kX11_driftOf : zM := (⟨"ReadAloud", "driftOf", "(II)I"⟩, prog_1_method_59_code, 14, (some .int), 10, qX11_driftOf)
def qX11_mostShared : List zE := [(0, .iload_n 0, 1, 0, 0), (1, .invokestatic 98, 4, 48, 1), (4, .istore_n 2, 5, 0, 0), (5, .iconst 0, 6, 0, 0), (6, .istore_n 3, 7, 0, 0), (7, .iconst 0, 8, 0, 0), (8, .istore 4, 10, 0, 0), (10, .iload 4, 12, 0, 0), (12, .iconst 1, 13, 0, 0), (13, .iload_n 2, 14, 0, 0), (14, .ishl, 15, 0, 0), (15, .if_icmp .ge 90, 18, 105, 0), (18, .iconst 0, 19, 0, 0), (19, .istore 5, 21, 0, 0), (21, .iconst 0, 22, 0, 0), (22, .istore 6, 24, 0, 0), (24, .iload 6, 26, 0, 0), (26, .iload_n 2, 27, 0, 0), (27, .if_icmp .ge 32, 30, 59, 0), (30, .iload 4, 32, 0, 0), (32, .iload 6, 34, 0, 0), (34, .invokestatic 367, 37, 46, 2), (37, .ifCond .eq 16, 40, 53, 0), (40, .iload 5, 42, 0, 0), (42, .iload_n 0, 43, 0, 0), (43, .iload 6, 45, 0, 0), (45, .invokestatic 101, 48, 50, 2), (48, .invokestatic 371, 51, 47, 2), (51, .istore 5, 53, 0, 0), (53, .iinc 6 1, 56, 0, 0), (56, .goto (-32), 59, 24, 0), (59, .iload 5, 61, 0, 0), (61, .invokestatic 98, 64, 48, 1), (64, .iload_n 3, 65, 0, 0), (65, .invokestatic 98, 68, 48, 1), (68, .isub, 69, 0, 0), (69, .istore 6, 71, 0, 0), (71, .iload 6, 73, 0, 0), (73, .ifCond .gt 14, 76, 87, 0), (76, .iload 6, 78, 0, 0), (78, .ifCond .ne 21, 81, 99, 0), (81, .iload 5, 83, 0, 0), (83, .iload_n 3, 84, 0, 0), (84, .if_icmp .ge 15, 87, 99, 0), (87, .iload 5, 89, 0, 0), (89, .iload_n 1, 90, 0, 0), (90, .invokestatic 374, 93, 54, 2), (93, .ifCond .eq 6, 96, 99, 0), (96, .iload 5, 98, 0, 0), (98, .istore_n 3, 99, 0, 0), (99, .iinc 4 1, 102, 0, 0), (102, .goto (-92), 105, 10, 0), (105, .iload_n 3, 106, 0, 0), (106, .ireturn, 107, 0, 0)]
def kX11_mostShared : zM := (⟨"ReadAloud", "mostShared", "(II)I"⟩, prog_1_method_60_code, 7, (some .int), 10, qX11_mostShared)
def qX11_isLeftOf : List zE := [(0, .iload_n 0, 1, 0, 0), (1, .invokestatic 98, 4, 48, 1), (4, .istore_n 2, 5, 0, 0), (5, .iload_n 1, 6, 0, 0), (6, .invokestatic 98, 9, 48, 1), (9, .istore_n 3, 10, 0, 0), (10, .iconst 0, 11, 0, 0), (11, .istore 4, 13, 0, 0), (13, .iconst 0, 14, 0, 0), (14, .istore 5, 16, 0, 0), (16, .iload 5, 18, 0, 0), (18, .iload_n 3, 19, 0, 0), (19, .if_icmp .ge 33, 22, 52, 0), (22, .iload 4, 24, 0, 0), (24, .iload_n 2, 25, 0, 0), (25, .if_icmp .ge 27, 28, 52, 0), (28, .iload_n 1, 29, 0, 0), (29, .iload 5, 31, 0, 0), (31, .invokestatic 101, 34, 50, 2), (34, .iload_n 0, 35, 0, 0), (35, .iload 4, 37, 0, 0), (37, .invokestatic 101, 40, 50, 2), (40, .if_icmp .ne 6, 43, 46, 0), (43, .iinc 4 1, 46, 0, 0), (46, .iinc 5 1, 49, 0, 0), (49, .goto (-33), 52, 16, 0), (52, .iload 4, 54, 0, 0), (54, .iload_n 2, 55, 0, 0), (55, .if_icmp .ne 7, 58, 62, 0), (58, .iconst 1, 59, 0, 0), (59, .goto 4, 62, 63, 0), (62, .iconst 0, 63, 0, 0), (63, .ireturn, 64, 0, 0)]
def kX11_isLeftOf : zM := (⟨"ReadAloud", "isLeftOf", "(II)Z"⟩, prog_1_method_61_code, 6, (some .boolean), 10, qX11_isLeftOf)
def qX8_init : List zE := [(0, .aload_n 0, 1, 0, 0), (1, .invokespecial 3, 4, 0, 99), (4, .aload_n 0, 5, 0, 0), (5, .sipush 600, 8, 0, 0), (8, .newarray .byte, 10, 0, 600), (10, .putfield 9, 13, 7, 0), (13, .aload_n 0, 14, 0, 0), (14, .iconst 0, 15, 0, 0), (15, .putfield 15, 18, 7, 1), (18, .aload_n 0, 19, 0, 0), (19, .iconst 0, 20, 0, 0), (20, .putfield 19, 23, 7, 2), (23, .aload_n 0, 24, 0, 0), (24, .iconst (-1), 25, 0, 0), (25, .putfield 22, 28, 7, 3), (28, .aload_n 0, 29, 0, 0), (29, .iconst 3, 30, 0, 0), (30, .newarray .int, 32, 1, 3), (32, .putfield 25, 35, 7, 4), (35, .aload_n 0, 36, 0, 0), (36, .iconst 2, 37, 0, 0), (37, .anewarray 29, 40, 3, 2), (40, .putfield 31, 43, 7, 5), (43, .aload_n 0, 44, 0, 0), (44, .iconst 2, 45, 0, 0), (45, .anewarray 35, 48, 4, 2), (48, .putfield 37, 51, 7, 6), (51, .aload_n 0, 52, 0, 0), (52, .iconst 2, 53, 0, 0), (53, .anewarray 41, 56, 5, 2), (56, .putfield 43, 59, 7, 7), (59, .return_, 60, 0, 0)]
def kX8_init : zM := (⟨"ReadAloud$Told", "<init>", "()V"⟩, prog_10_method_1_code, 1, none, 7, qX8_init)
def qX8_putBytes : List zE := [(0, .bipush 24, 2, 0, 0), (2, .istore_n 2, 3, 0, 0), (3, .iload_n 2, 4, 0, 0), (4, .ifCond .lt 42, 7, 46, 0), (7, .aload_n 0, 8, 0, 0), (8, .getfield 15, 11, 7, 1), (11, .sipush 600, 14, 0, 0), (14, .if_icmp .ge 32, 17, 46, 0), (17, .aload_n 0, 18, 0, 0), (18, .getfield 9, 21, 7, 0), (21, .aload_n 0, 22, 0, 0), (22, .getfield 15, 25, 7, 1), (25, .iload_n 1, 26, 0, 0), (26, .iload_n 2, 27, 0, 0), (27, .iushr, 28, 0, 0), (28, .i2b, 29, 0, 0), (29, .bastore, 30, 0, 0), (30, .aload_n 0, 31, 0, 0), (31, .dup, 32, 0, 0), (32, .getfield 15, 35, 7, 1), (35, .iconst 1, 36, 0, 0), (36, .iadd, 37, 0, 0), (37, .putfield 15, 40, 7, 1), (40, .iinc 2 (-8), 43, 0, 0), (43, .goto (-40), 46, 3, 0), (46, .return_, 47, 0, 0)]
def kX8_putBytes : zM := (⟨"ReadAloud$Told", "putBytes", "(I)V"⟩, prog_10_method_2_code, 3, none, 7, qX8_putBytes)
def qX8_becomes : List zE := [(0, .aload_n 1, 1, 0, 0), (1, .getfield 9, 4, 7, 0), (4, .iconst 0, 5, 0, 0), (5, .aload_n 0, 6, 0, 0), (6, .getfield 9, 9, 7, 0), (9, .iconst 0, 10, 0, 0), (10, .sipush 600, 13, 0, 0), (13, .invokestatic 47, 16, 0, 102), (16, .aload_n 0, 17, 0, 0), (17, .aload_n 1, 18, 0, 0), (18, .getfield 15, 21, 7, 1), (21, .putfield 15, 24, 7, 1), (24, .aload_n 0, 25, 0, 0), (25, .aload_n 1, 26, 0, 0), (26, .getfield 19, 29, 7, 2), (29, .putfield 19, 32, 7, 2), (32, .aload_n 0, 33, 0, 0), (33, .aload_n 1, 34, 0, 0), (34, .getfield 22, 37, 7, 3), (37, .putfield 22, 40, 7, 3), (40, .aload_n 1, 41, 0, 0), (41, .getfield 25, 44, 7, 4), (44, .iconst 0, 45, 0, 0), (45, .aload_n 0, 46, 0, 0), (46, .getfield 25, 49, 7, 4), (49, .iconst 0, 50, 0, 0), (50, .iconst 3, 51, 0, 0), (51, .invokestatic 47, 54, 0, 102), (54, .iconst 0, 55, 0, 0), (55, .istore_n 2, 56, 0, 0), (56, .iload_n 2, 57, 0, 0), (57, .iconst 2, 58, 0, 0), (58, .if_icmp .ge 45, 61, 103, 0), (61, .aload_n 0, 62, 0, 0), (62, .getfield 31, 65, 7, 5), (65, .iload_n 2, 66, 0, 0), (66, .aload_n 1, 67, 0, 0), (67, .getfield 31, 70, 7, 5), (70, .iload_n 2, 71, 0, 0), (71, .aaload, 72, 0, 0), (72, .aastore, 73, 0, 0), (73, .aload_n 0, 74, 0, 0), (74, .getfield 37, 77, 7, 6), (77, .iload_n 2, 78, 0, 0), (78, .aload_n 1, 79, 0, 0), (79, .getfield 37, 82, 7, 6), (82, .iload_n 2, 83, 0, 0), (83, .aaload, 84, 0, 0), (84, .aastore, 85, 0, 0), (85, .aload_n 0, 86, 0, 0), (86, .getfield 43, 89, 7, 7), (89, .iload_n 2, 90, 0, 0), (90, .aload_n 1, 91, 0, 0), (91, .getfield 43, 94, 7, 7), (94, .iload_n 2, 95, 0, 0), (95, .aaload, 96, 0, 0), (96, .aastore, 97, 0, 0), (97, .iinc 2 1, 100, 0, 0), (100, .goto (-44), 103, 56, 0), (103, .return_, 104, 0, 0)]
def kX8_becomes : zM := (⟨"ReadAloud$Told", "becomes", "(LReadAloud$Told;)V"⟩, prog_10_method_3_code, 3, none, 7, qX8_becomes)
def qX7_init : List zE := [(0, .aload_n 0, 1, 0, 0), (1, .invokespecial 3, 4, 0, 99), (4, .aload_n 0, 5, 0, 0), (5, .aconst_null, 6, 0, 0), (6, .putfield 9, 9, 6, 0), (9, .aload_n 0, 10, 0, 0), (10, .iconst 0, 11, 0, 0), (11, .putfield 15, 14, 6, 1), (14, .aload_n 0, 15, 0, 0), (15, .iconst 0, 16, 0, 0), (16, .putfield 19, 19, 6, 2), (19, .aload_n 0, 20, 0, 0), (20, .iconst 0, 21, 0, 0), (21, .putfield 22, 24, 6, 3), (24, .aload_n 0, 25, 0, 0), (25, .iconst 0, 26, 0, 0), (26, .putfield 25, 29, 6, 4), (29, .aload_n 0, 30, 0, 0), (30, .iconst 0, 31, 0, 0), (31, .putfield 28, 34, 6, 5), (34, .aload_n 0, 35, 0, 0), (35, .iconst 0, 36, 0, 0), (36, .putfield 31, 39, 6, 6), (39, .aload_n 0, 40, 0, 0), (40, .iconst (-1), 41, 0, 0), (41, .putfield 34, 44, 6, 7), (44, .return_, 45, 0, 0)]
def kX7_init : zM := (⟨"ReadAloud$Teller", "<init>", "()V"⟩, prog_9_method_1_code, 1, none, 6, qX7_init)
def qX7_tell : List zE := [(0, .aload_n 0, 1, 0, 0), (1, .aload_n 1, 2, 0, 0), (2, .putfield 9, 5, 6, 0), (5, .aload_n 0, 6, 0, 0), (6, .iload_n 2, 7, 0, 0), (7, .putfield 15, 10, 6, 1), (10, .aload_n 0, 11, 0, 0), (11, .iconst 0, 12, 0, 0), (12, .putfield 19, 15, 6, 2), (15, .aload_n 0, 16, 0, 0), (16, .iconst 0, 17, 0, 0), (17, .putfield 31, 20, 6, 6), (20, .aload_n 0, 21, 0, 0), (21, .iconst (-1), 22, 0, 0), (22, .putfield 34, 25, 6, 7), (25, .aload_n 0, 26, 0, 0), (26, .invokevirtual 37, 29, 60, 0), (29, .iconst 0, 30, 0, 0), (30, .istore 4, 32, 0, 0), (32, .iload 4, 34, 0, 0), (34, .sipush 600, 37, 0, 0), (37, .if_icmp .gt 39, 40, 76, 0), (40, .aload_n 0, 41, 0, 0), (41, .getfield 22, 44, 6, 3), (44, .ifCond .eq 32, 47, 76, 0), (47, .aload_n 0, 48, 0, 0), (48, .aload_n 3, 49, 0, 0), (52, .ifCond .ne 18, 55, 70, 0), (55, .aload_n 0, 56, 0, 0), (56, .iconst 1, 57, 0, 0), (57, .putfield 31, 60, 6, 6), (60, .aload_n 0, 61, 0, 0), (61, .aload_n 0, 62, 0, 0), (62, .getfield 25, 65, 6, 4), (65, .putfield 34, 68, 6, 7), (68, .iconst 0, 69, 0, 0), (69, .ireturn, 70, 0, 0), (70, .iinc 4 1, 73, 0, 0), (73, .goto (-41), 76, 32, 0), (76, .aload_n 0, 77, 0, 0), (77, .getfield 31, 80, 6, 6), (80, .ifCond .ne 7, 83, 87, 0), (83, .iconst 1, 84, 0, 0), (84, .goto 4, 87, 88, 0), (87, .iconst 0, 88, 0, 0), (88, .ireturn, 89, 0, 0)]
def kX7_tell : zM := (⟨"ReadAloud$Teller", "tell", "([BILReadAloud$Lines;)Z"⟩, prog_9_method_2_code, 5, (some .boolean), 6, qX7_tell)
def qX7_advance : List zE := [(0, .aload_n 0, 1, 0, 0), (1, .getfield 19, 4, 6, 2), (4, .aload_n 0, 5, 0, 0), (5, .getfield 15, 8, 6, 1), (8, .if_icmp .ge 44, 11, 52, 0), (11, .aload_n 0, 12, 0, 0), (12, .getfield 9, 15, 6, 0), (15, .aload_n 0, 16, 0, 0), (16, .getfield 19, 19, 6, 2), (19, .baload, 20, 0, 0), (20, .bipush 10, 22, 0, 0), (22, .if_icmp .eq 17, 25, 39, 0), (25, .aload_n 0, 26, 0, 0), (26, .getfield 9, 29, 6, 0), (29, .aload_n 0, 30, 0, 0), (30, .getfield 19, 33, 6, 2), (33, .baload, 34, 0, 0), (34, .bipush 32, 36, 0, 0), (36, .if_icmp .ne 16, 39, 52, 0), (39, .aload_n 0, 40, 0, 0), (40, .dup, 41, 0, 0), (41, .getfield 19, 44, 6, 2), (44, .iconst 1, 45, 0, 0), (45, .iadd, 46, 0, 0), (46, .putfield 19, 49, 6, 2), (49, .goto (-49), 52, 0, 0), (52, .aload_n 0, 53, 0, 0), (53, .aload_n 0, 54, 0, 0), (54, .getfield 19, 57, 6, 2), (57, .putfield 25, 60, 6, 4), (60, .aload_n 0, 61, 0, 0), (61, .getfield 19, 64, 6, 2), (64, .aload_n 0, 65, 0, 0), (65, .getfield 15, 68, 6, 1), (68, .if_icmp .lt 11, 71, 79, 0), (71, .aload_n 0, 72, 0, 0), (72, .iconst 0, 73, 0, 0), (73, .putfield 22, 76, 6, 3), (76, .goto 105, 79, 181, 0), (79, .aload_n 0, 80, 0, 0), (80, .aload_n 0, 81, 0, 0), (81, .getfield 19, 84, 6, 2), (87, .ifCond .eq 43, 90, 130, 0), (90, .aload_n 0, 91, 0, 0), (91, .iconst 1, 92, 0, 0), (92, .putfield 22, 95, 6, 3), (95, .aload_n 0, 96, 0, 0), (96, .getfield 19, 99, 6, 2), (99, .aload_n 0, 100, 0, 0), (100, .getfield 15, 103, 6, 1), (103, .if_icmp .ge 78, 106, 181, 0), (106, .aload_n 0, 107, 0, 0), (107, .aload_n 0, 108, 0, 0), (108, .getfield 19, 111, 6, 2), (114, .ifCond .eq 67, 117, 181, 0), (117, .aload_n 0, 118, 0, 0), (118, .dup, 119, 0, 0), (119, .getfield 19, 122, 6, 2), (122, .iconst 1, 123, 0, 0), (123, .iadd, 124, 0, 0), (124, .putfield 19, 127, 6, 2), (127, .goto (-32), 130, 95, 0), (130, .aload_n 0, 131, 0, 0), (131, .aload_n 0, 132, 0, 0), (132, .getfield 19, 135, 6, 2), (138, .ifCond .eq 10, 141, 148, 0), (141, .aload_n 0, 142, 0, 0), (145, .goto 36, 148, 181, 0), (148, .aload_n 0, 149, 0, 0), (149, .aload_n 0, 150, 0, 0), (150, .getfield 9, 153, 6, 0), (153, .aload_n 0, 154, 0, 0), (154, .getfield 19, 157, 6, 2), (157, .baload, 158, 0, 0), (158, .bipush 59, 160, 0, 0), (160, .if_icmp .ne 7, 163, 167, 0), (163, .iconst 3, 164, 0, 0), (164, .goto 4, 167, 168, 0), (167, .iconst 4, 168, 0, 0), (168, .putfield 22, 171, 6, 3), (171, .aload_n 0, 172, 0, 0), (172, .dup, 173, 0, 0), (173, .getfield 19, 176, 6, 2), (176, .iconst 1, 177, 0, 0), (177, .iadd, 178, 0, 0), (178, .putfield 19, 181, 6, 2), (181, .return_, 182, 0, 0)]
def kX7_advance : zM := (⟨"ReadAloud$Teller", "advance", "()V"⟩, prog_9_method_4_code, 1, none, 6, qX7_advance)
def qX1_init : List zE := [(0, .aload_n 0, 1, 0, 0), (1, .invokespecial 3, 4, 0, 99), (4, .aload_n 0, 5, 0, 0), (5, .aconst_null, 6, 0, 0), (6, .putfield 9, 9, 1, 0), (9, .aload_n 0, 10, 0, 0), (10, .iconst 0, 11, 0, 0), (11, .putfield 15, 14, 1, 1), (14, .aload_n 0, 15, 0, 0), (15, .iconst 0, 16, 0, 0), (16, .putfield 19, 19, 1, 2), (19, .aload_n 0, 20, 0, 0), (20, .iconst 0, 21, 0, 0), (21, .putfield 22, 24, 1, 3), (24, .aload_n 0, 25, 0, 0), (25, .iconst 0, 26, 0, 0), (26, .putfield 25, 29, 1, 4), (29, .aload_n 0, 30, 0, 0), (30, .iconst 4, 31, 0, 0), (31, .newarray .int, 33, 1, 4), (33, .putfield 28, 36, 1, 5), (36, .aload_n 0, 37, 0, 0), (37, .iconst 5, 38, 0, 0), (38, .newarray .int, 40, 1, 5), (40, .putfield 32, 43, 1, 6), (43, .return_, 44, 0, 0)]
def kX1_init : zM := (⟨"ReadAloud$Course", "<init>", "()V"⟩, prog_3_method_1_code, 1, none, 1, qX1_init)
def qX3_init : List zE := [(0, .aload_n 0, 1, 0, 0), (1, .invokespecial 1, 4, 0, 99), (4, .return_, 5, 0, 0)]
def kX3_init : zM := (⟨"ReadAloud$Lines", "<init>", "()V"⟩, prog_5_method_1_code, 1, none, 98, qX3_init)
def qX0_init : List zE := [(0, .aload_n 0, 1, 0, 0), (1, .invokespecial 3, 4, 62, 0), (4, .aload_n 0, 5, 0, 0), (5, .iconst 0, 6, 0, 0), (6, .putfield 9, 9, 0, 0), (9, .aload_n 0, 10, 0, 0), (10, .iconst 0, 11, 0, 0), (11, .putfield 15, 14, 0, 1), (14, .aload_n 0, 15, 0, 0), (15, .iconst (-1), 16, 0, 0), (16, .putfield 18, 19, 0, 2), (19, .aload_n 0, 20, 0, 0), (20, .iconst 4, 21, 0, 0), (21, .newarray .int, 23, 1, 4), (23, .dup, 24, 0, 0), (24, .iconst 0, 25, 0, 0), (25, .iconst 0, 26, 0, 0), (26, .iastore, 27, 0, 0), (27, .dup, 28, 0, 0), (28, .iconst 1, 29, 0, 0), (29, .iconst 1, 30, 0, 0), (30, .iastore, 31, 0, 0), (31, .dup, 32, 0, 0), (32, .iconst 2, 33, 0, 0), (33, .iconst 2, 34, 0, 0), (34, .iastore, 35, 0, 0), (35, .dup, 36, 0, 0), (36, .iconst 3, 37, 0, 0), (37, .iconst 3, 38, 0, 0), (38, .iastore, 39, 0, 0), (39, .putfield 21, 42, 0, 3), (42, .aload_n 0, 43, 0, 0), (43, .iconst 5, 44, 0, 0), (44, .newarray .int, 46, 1, 5), (46, .putfield 25, 49, 0, 4), (49, .aload_n 0, 50, 0, 0), (50, .bipush 20, 52, 0, 0), (52, .newarray .int, 54, 1, 20), (54, .putfield 28, 57, 0, 5), (57, .aload_n 0, 58, 0, 0), (58, .bipush 20, 60, 0, 0), (60, .newarray .int, 62, 1, 20), (62, .putfield 31, 65, 0, 6), (65, .return_, 66, 0, 0)]
def kX0_init : zM := (⟨"ReadAloud$Book", "<init>", "()V"⟩, prog_2_method_1_code, 1, none, 0, qX0_init)
def qX10_init : List zE := [(0, .aload_n 0, 1, 0, 0), (1, .invokespecial 3, 4, 62, 0), (4, .aload_n 0, 5, 0, 0), (5, .iconst 0, 6, 0, 0), (6, .putfield 9, 9, 9, 0), (9, .aload_n 0, 10, 0, 0), (10, .bipush 40, 12, 0, 0), (12, .newarray .int, 14, 1, 40), (14, .putfield 15, 17, 9, 1), (17, .aload_n 0, 18, 0, 0), (18, .bipush 40, 20, 0, 0), (20, .newarray .int, 22, 1, 40), (22, .putfield 19, 25, 9, 2), (25, .aload_n 0, 26, 0, 0), (26, .bipush 40, 28, 0, 0), (28, .newarray .int, 30, 1, 40), (30, .putfield 22, 33, 9, 3), (33, .return_, 34, 0, 0)]
def kX10_init : zM := (⟨"ReadAloud$Year", "<init>", "()V"⟩, prog_12_method_1_code, 1, none, 9, qX10_init)
def qX6_init : List zE := [(0, .aload_n 0, 1, 0, 0), (1, .invokespecial 3, 4, 62, 0), (4, .aload_n 0, 5, 0, 0), (5, .iconst 0, 6, 0, 0), (6, .putfield 9, 9, 5, 0), (9, .aload_n 0, 10, 0, 0), (10, .bipush 6, 12, 0, 0), (12, .newarray .int, 14, 1, 6), (14, .putfield 15, 17, 5, 1), (17, .aload_n 0, 18, 0, 0), (18, .bipush 6, 20, 0, 0), (20, .newarray .int, 22, 1, 6), (22, .putfield 19, 25, 5, 2), (25, .return_, 26, 0, 0)]
def kX6_init : zM := (⟨"ReadAloud$Sight", "<init>", "()V"⟩, prog_8_method_1_code, 1, none, 5, qX6_init)
set_option maxRecDepth 200000 in
def qX12_init : List zE := [(0, .aload_n 0, 1, 0, 0), (1, .invokespecial 1, 4, 0, 99), (4, .aload_n 0, 5, 0, 0), (5, .sipush 2400, 8, 0, 0), (8, .newarray .byte, 10, 0, 2400), (10, .putfield 7, 13, 11, 1), (13, .aload_n 0, 14, 0, 0), (14, .iconst 4, 15, 0, 0), (15, .newarray .int, 17, 1, 4), (17, .putfield 13, 20, 11, 2), (20, .aload_n 0, 21, 0, 0), (21, .iconst 4, 22, 0, 0), (22, .newarray .int, 24, 1, 4), (24, .putfield 17, 27, 11, 3), (27, .aload_n 0, 28, 0, 0), (28, .iconst 4, 29, 0, 0), (29, .newarray .int, 31, 1, 4), (31, .putfield 20, 34, 11, 4), (34, .aload_n 0, 35, 0, 0), (35, .bipush 12, 37, 0, 0), (37, .newarray .int, 39, 1, 12), (39, .putfield 23, 42, 11, 5), (42, .aload_n 0, 43, 0, 0), (43, .sipush 408, 46, 0, 0), (46, .newarray .int, 48, 1, 408), (48, .putfield 26, 51, 11, 6), (51, .aload_n 0, 52, 0, 0), (52, .sipush 968, 55, 0, 0), (55, .newarray .int, 57, 1, 968), (57, .putfield 29, 60, 11, 7), (60, .aload_n 0, 61, 0, 0), (61, .bipush 104, 63, 0, 0), (63, .newarray .int, 65, 1, 104), (65, .putfield 32, 68, 11, 8), (68, .aload_n 0, 69, 0, 0), (69, .bipush 121, 71, 0, 0), (71, .newarray .int, 73, 1, 121), (73, .putfield 35, 76, 11, 18), (76, .aload_n 0, 77, 0, 0), (77, .iconst 3, 78, 0, 0), (78, .newarray .int, 80, 1, 3), (80, .putfield 38, 83, 11, 19), (83, .aload_n 0, 84, 0, 0), (84, .iconst (-1), 85, 0, 0), (85, .putfield 41, 88, 11, 21), (88, .aload_n 0, 89, 0, 0), (89, .bipush 7, 91, 0, 0), (91, .newarray .int, 93, 1, 7), (93, .putfield 45, 96, 11, 24), (96, .aload_n 0, 97, 0, 0), (97, .bipush 7, 99, 0, 0), (99, .newarray .int, 101, 1, 7), (101, .putfield 48, 104, 11, 25), (104, .aload_n 0, 105, 0, 0), (105, .bipush 49, 107, 0, 0), (107, .newarray .int, 109, 1, 49), (109, .putfield 51, 112, 11, 27), (112, .aload_n 0, 113, 0, 0), (113, .iconst 4, 114, 0, 0), (114, .newarray .int, 116, 1, 4), (116, .putfield 54, 119, 11, 29), (119, .aload_n 0, 120, 0, 0), (120, .iconst 5, 121, 0, 0), (121, .newarray .int, 123, 1, 5), (123, .putfield 57, 126, 11, 30), (126, .aload_n 0, 127, 0, 0), (127, .sipush 27305, 130, 0, 0), (130, .newarray .int, 132, 1, 27305), (132, .putfield 60, 135, 11, 34), (135, .aload_n 0, 136, 0, 0), (136, .sipush 5461, 139, 0, 0), (139, .newarray .int, 141, 1, 5461), (141, .putfield 63, 144, 11, 35), (144, .aload_n 0, 145, 0, 0), (145, .sipush 5461, 148, 0, 0), (148, .newarray .int, 150, 1, 5461), (150, .putfield 66, 153, 11, 36), (153, .aload_n 0, 154, 0, 0), (154, .sipush 5461, 157, 0, 0), (157, .newarray .int, 159, 1, 5461), (159, .putfield 69, 162, 11, 37), (162, .aload_n 0, 163, 0, 0), (163, .sipush 5461, 166, 0, 0), (166, .newarray .int, 168, 1, 5461), (168, .putfield 72, 171, 11, 39), (171, .aload_n 0, 172, 0, 0), (172, .ldc 75, 174, 54610, 0), (174, .newarray .int, 176, 1, 54610), (176, .putfield 76, 179, 11, 40), (179, .aload_n 0, 180, 0, 0), (180, .ldc 75, 182, 54610, 0), (182, .newarray .int, 184, 1, 54610), (184, .putfield 79, 187, 11, 42), (187, .aload_n 0, 188, 0, 0), (188, .ldc 75, 190, 54610, 0), (190, .newarray .int, 192, 1, 54610), (192, .putfield 82, 195, 11, 43), (195, .aload_n 0, 196, 0, 0), (196, .sipush 5461, 199, 0, 0), (199, .newarray .int, 201, 1, 5461), (201, .putfield 85, 204, 11, 45), (204, .aload_n 0, 205, 0, 0), (205, .sipush 5461, 208, 0, 0), (208, .newarray .int, 210, 1, 5461), (210, .putfield 88, 213, 11, 46), (213, .aload_n 0, 214, 0, 0), (214, .sipush 5461, 217, 0, 0), (217, .newarray .int, 219, 1, 5461), (219, .putfield 91, 222, 11, 47), (222, .aload_n 0, 223, 0, 0), (223, .sipush 5461, 226, 0, 0), (226, .newarray .int, 228, 1, 5461), (228, .putfield 94, 231, 11, 48), (231, .aload_n 0, 232, 0, 0), (232, .sipush 5461, 235, 0, 0), (235, .newarray .int, 237, 1, 5461), (237, .putfield 97, 240, 11, 49), (240, .aload_n 0, 241, 0, 0), (241, .sipush 27305, 244, 0, 0), (244, .newarray .int, 246, 1, 27305), (246, .putfield 100, 249, 11, 50), (249, .aload_n 0, 250, 0, 0), (250, .iconst 3, 251, 0, 0), (251, .newarray .boolean, 253, 2, 3), (253, .putfield 103, 256, 11, 51), (256, .aload_n 0, 257, 0, 0), (257, .getfield 20, 260, 11, 4), (260, .iconst 0, 261, 0, 0), (261, .iconst (-1), 262, 0, 0), (262, .iastore, 263, 0, 0), (263, .return_, 264, 0, 0)]
def kX12_init : zM := (⟨"ReadAloudModel", "<init>", "()V"⟩, prog_14_method_1_code, 1, none, 11, qX12_init)
def qX12_feed : List zE := [(0, .aload_n 0, 1, 0, 0), (1, .iconst 0, 2, 0, 0), (2, .putfield 107, 5, 11, 0), (5, .aload_n 0, 6, 0, 0), (6, .getfield 13, 9, 11, 2), (9, .iconst 0, 10, 0, 0), (10, .iaload, 11, 0, 0), (11, .bipush 20, 13, 0, 0), (13, .iadd, 14, 0, 0), (14, .sipush 600, 17, 0, 0), (17, .if_icmp .le 5, 20, 22, 0), (20, .iconst (-1), 21, 0, 0), (21, .ireturn, 22, 0, 0), (22, .aload_n 0, 23, 0, 0), (23, .iload_n 1, 24, 0, 0), (24, .invokevirtual 118, 27, 109, 1), (27, .aload_n 0, 28, 0, 0), (28, .iload_n 2, 29, 0, 0), (29, .invokevirtual 118, 32, 109, 1), (32, .aload_n 0, 33, 0, 0), (33, .iload_n 3, 34, 0, 0), (34, .invokevirtual 118, 37, 109, 1), (37, .aload_n 0, 38, 0, 0), (38, .iload 4, 40, 0, 0), (40, .invokevirtual 118, 43, 109, 1), (43, .aload_n 0, 44, 0, 0), (44, .iload 5, 46, 0, 0), (46, .invokevirtual 118, 49, 109, 1), (49, .aload_n 0, 50, 0, 0), (50, .getfield 13, 53, 11, 2), (53, .iconst 0, 54, 0, 0), (54, .iaload, 55, 0, 0), (55, .ireturn, 56, 0, 0)]
def kX12_feed : zM := (⟨"ReadAloudModel", "feed", "(IIIII)I"⟩, prog_14_method_10_code, 6, (some .int), 11, qX12_feed)
def qX12_end : List zE := [(0, .aload_n 0, 1, 0, 0), (1, .iconst 0, 2, 0, 0), (2, .putfield 107, 5, 11, 0), (5, .iload_n 1, 6, 0, 0), (6, .iconst 0, 7, 0, 0), (7, .aload_n 0, 8, 0, 0), (8, .getfield 13, 11, 11, 2), (11, .iconst 0, 12, 0, 0), (12, .iaload, 13, 0, 0), (13, .invokestatic 114, 16, 103, 3), (16, .ifCond .ne 5, 19, 21, 0), (19, .iconst (-1), 20, 0, 0), (20, .ireturn, 21, 0, 0), (21, .aload_n 0, 22, 0, 0), (22, .getfield 13, 25, 11, 2), (25, .iconst 0, 26, 0, 0), (26, .iload_n 1, 27, 0, 0), (27, .iastore, 28, 0, 0), (28, .iload_n 1, 29, 0, 0), (29, .ireturn, 30, 0, 0)]
def kX12_end : zM := (⟨"ReadAloudModel", "end", "(I)I"⟩, prog_14_method_12_code, 2, (some .int), 11, qX12_end)
set_option maxRecDepth 200000 in
def qX12_text : List zE := [(0, .aload_n 0, 1, 0, 0), (1, .iconst 0, 2, 0, 0), (2, .putfield 107, 5, 11, 0), (5, .aload_n 0, 6, 0, 0), (6, .aload_n 0, 7, 0, 0), (7, .getfield 13, 10, 11, 2), (10, .iconst 0, 11, 0, 0), (11, .iaload, 12, 0, 0), (12, .putfield 125, 15, 11, 10), (15, .aload_n 0, 16, 0, 0), (16, .getfield 13, 19, 11, 2), (19, .iconst 0, 20, 0, 0), (20, .iconst 0, 21, 0, 0), (21, .iastore, 22, 0, 0), (22, .aload_n 0, 23, 0, 0), (23, .getfield 17, 26, 11, 3), (26, .iconst 0, 27, 0, 0), (27, .iconst 0, 28, 0, 0), (28, .iastore, 29, 0, 0), (29, .aload_n 0, 30, 0, 0), (30, .getfield 20, 33, 11, 4), (33, .iconst 0, 34, 0, 0), (34, .iconst (-1), 35, 0, 0), (35, .iastore, 36, 0, 0), (36, .iload_n 1, 37, 0, 0), (37, .iconst 0, 38, 0, 0), (38, .iconst 2, 39, 0, 0), (39, .invokestatic 114, 42, 103, 3), (42, .ifCond .eq 30, 45, 72, 0), (45, .iload_n 2, 46, 0, 0), (46, .iconst (-1), 47, 0, 0), (47, .if_icmp .ne 16, 50, 63, 0), (50, .aload_n 0, 51, 0, 0), (51, .getfield 23, 54, 11, 5), (54, .iload_n 1, 55, 0, 0), (55, .iaload, 56, 0, 0), (56, .iconst 2, 57, 0, 0), (57, .if_icmp .ne 18, 60, 75, 0), (60, .goto 12, 63, 72, 0), (63, .aload_n 0, 64, 0, 0), (64, .iload_n 1, 65, 0, 0), (65, .iload_n 2, 66, 0, 0), (66, .invokevirtual 249, 69, 108, 2), (69, .ifCond .ne 6, 72, 75, 0), (72, .bipush (-2), 74, 0, 0), (74, .ireturn, 75, 0, 0), (75, .aload_n 0, 76, 0, 0), (76, .iload_n 1, 77, 0, 0), (77, .invokevirtual 252, 80, 113, 1), (80, .ifCond .ne 5, 83, 85, 0), (83, .iconst (-1), 84, 0, 0), (84, .ireturn, 85, 0, 0), (85, .iload_n 2, 86, 0, 0), (86, .iconst (-1), 87, 0, 0), (87, .if_icmp .ne 12, 90, 99, 0), (90, .aload_n 0, 91, 0, 0), (91, .getfield 23, 94, 11, 5), (94, .iload_n 1, 95, 0, 0), (95, .iaload, 96, 0, 0), (96, .goto 4, 99, 100, 0), (99, .iload_n 2, 100, 0, 0), (100, .istore_n 3, 101, 0, 0), (101, .aload_n 0, 102, 0, 0), (102, .getfield 23, 105, 11, 5), (105, .iload_n 1, 106, 0, 0), (106, .dup2, 107, 0, 0), (107, .iaload, 108, 0, 0), (108, .iload_n 2, 109, 0, 0), (109, .iconst (-1), 110, 0, 0), (110, .if_icmp .ne 7, 113, 117, 0), (113, .iconst 1, 114, 0, 0), (114, .goto 4, 117, 118, 0), (117, .iconst 0, 118, 0, 0), (118, .iadd, 119, 0, 0), (119, .iastore, 120, 0, 0), (120, .iload_n 1, 121, 0, 0), (121, .ifCond .ne 22, 124, 143, 0), (124, .aload_n 0, 125, 0, 0), (125, .aload_n 0, 126, 0, 0), (126, .getfield 26, 129, 11, 6), (129, .bipush 51, 131, 0, 0), (131, .iload_n 3, 132, 0, 0), (132, .invokevirtual 255, 135, 114, 3), (135, .aload_n 0, 136, 0, 0), (136, .iconst (-1), 137, 0, 0), (137, .putfield 41, 140, 11, 21), (140, .goto 33, 143, 173, 0), (143, .iload_n 1, 144, 0, 0), (144, .iconst 1, 145, 0, 0), (145, .if_icmp .ne 17, 148, 162, 0), (148, .aload_n 0, 149, 0, 0), (149, .aload_n 0, 150, 0, 0), (150, .getfield 29, 153, 11, 7), (153, .bipush 121, 155, 0, 0), (155, .iload_n 3, 156, 0, 0), (156, .invokevirtual 255, 159, 114, 3), (159, .goto 14, 162, 173, 0), (162, .aload_n 0, 163, 0, 0), (163, .aload_n 0, 164, 0, 0), (164, .getfield 32, 167, 11, 8), (167, .bipush 13, 169, 0, 0), (169, .iload_n 3, 170, 0, 0), (170, .invokevirtual 255, 173, 114, 3), (173, .iload_n 3, 174, 0, 0), (174, .ireturn, 175, 0, 0)]
def kX12_text : zM := (⟨"ReadAloudModel", "text", "(II)I"⟩, prog_14_method_33_code, 4, (some .int), 11, qX12_text)
def qX12_fault : List zE := [(0, .aload_n 0, 1, 0, 0), (1, .iconst 0, 2, 0, 0), (2, .putfield 107, 5, 11, 0), (5, .iload_n 1, 6, 0, 0), (6, .ifCond .ne 12, 9, 18, 0), (9, .aload_n 0, 10, 0, 0), (10, .getfield 17, 13, 11, 3), (13, .iconst 0, 14, 0, 0), (14, .iaload, 15, 0, 0), (15, .goto 18, 18, 33, 0), (18, .iload_n 1, 19, 0, 0), (19, .iconst 1, 20, 0, 0), (20, .if_icmp .ne 12, 23, 32, 0), (23, .aload_n 0, 24, 0, 0), (24, .getfield 20, 27, 11, 4), (27, .iconst 0, 28, 0, 0), (28, .iaload, 29, 0, 0), (29, .goto 4, 32, 33, 0), (32, .iconst (-1), 33, 0, 0), (33, .ireturn, 34, 0, 0)]
def kX12_fault : zM := (⟨"ReadAloudModel", "fault", "(I)I"⟩, prog_14_method_34_code, 2, (some .int), 11, qX12_fault)
def qX12_book : List zE := [(0, .aload_n 0, 1, 0, 0), (1, .iconst 0, 2, 0, 0), (2, .putfield 107, 5, 11, 0), (5, .aload_n 0, 6, 0, 0), (6, .iload_n 1, 7, 0, 0), (7, .invokevirtual 299, 10, 115, 1), (10, .ifCond .ne 5, 13, 15, 0), (13, .iconst (-1), 14, 0, 0), (14, .ireturn, 15, 0, 0), (15, .iload_n 2, 16, 0, 0), (16, .bipush 10, 18, 0, 0), (18, .bipush 13, 20, 0, 0), (20, .invokestatic 114, 23, 103, 3), (23, .ifCond .eq 14, 26, 37, 0), (26, .aload_n 0, 27, 0, 0), (27, .iconst 2, 28, 0, 0), (28, .iload_n 2, 29, 0, 0), (29, .iadd, 30, 0, 0), (30, .bipush 10, 32, 0, 0), (32, .isub, 33, 0, 0), (36, .ireturn, 37, 0, 0), (37, .iload_n 2, 38, 0, 0), (38, .bipush 20, 40, 0, 0), (40, .bipush 19, 42, 0, 0), (42, .aload_n 0, 43, 0, 0), (43, .getfield 268, 46, 11, 23), (46, .iadd, 47, 0, 0), (47, .invokestatic 114, 50, 103, 3), (50, .ifCond .eq 15, 53, 65, 0), (53, .aload_n 0, 54, 0, 0), (54, .bipush 6, 56, 0, 0), (56, .iload_n 2, 57, 0, 0), (57, .iadd, 58, 0, 0), (58, .bipush 20, 60, 0, 0), (60, .isub, 61, 0, 0), (64, .ireturn, 65, 0, 0), (65, .iload_n 2, 66, 0, 0), (66, .bipush 30, 68, 0, 0), (68, .bipush 29, 70, 0, 0), (70, .bipush 10, 72, 0, 0), (72, .aload_n 0, 73, 0, 0), (73, .getfield 268, 76, 11, 23), (76, .imul, 77, 0, 0), (77, .iadd, 78, 0, 0), (78, .invokestatic 114, 81, 103, 3), (81, .ifCond .eq 51, 84, 132, 0), (84, .iload_n 2, 85, 0, 0), (85, .bipush 30, 87, 0, 0), (87, .isub, 88, 0, 0), (88, .bipush 10, 90, 0, 0), (90, .idiv, 91, 0, 0), (91, .istore_n 3, 92, 0, 0), (92, .iload_n 2, 93, 0, 0), (93, .bipush 10, 95, 0, 0), (95, .irem, 96, 0, 0), (96, .istore 4, 98, 0, 0), (98, .iload 4, 100, 0, 0), (100, .iconst 2, 101, 0, 0), (101, .aload_n 0, 102, 0, 0), (102, .bipush 6, 104, 0, 0), (104, .iload_n 3, 105, 0, 0), (105, .iadd, 106, 0, 0), (109, .imul, 110, 0, 0), (110, .if_icmp .ge 20, 113, 130, 0), (113, .aload_n 0, 114, 0, 0), (114, .bipush 11, 116, 0, 0), (116, .bipush 8, 118, 0, 0), (118, .iload_n 3, 119, 0, 0), (119, .imul, 120, 0, 0), (120, .iadd, 121, 0, 0), (121, .iload 4, 123, 0, 0), (123, .iadd, 124, 0, 0), (127, .goto 4, 130, 131, 0), (130, .iconst (-1), 131, 0, 0), (131, .ireturn, 132, 0, 0), (132, .iload_n 2, 133, 0, 0), (133, .ifCond .ne 10, 136, 143, 0), (136, .aload_n 0, 137, 0, 0), (137, .getfield 265, 140, 11, 22), (140, .goto 16, 143, 156, 0), (143, .iload_n 2, 144, 0, 0), (144, .iconst 1, 145, 0, 0), (145, .if_icmp .ne 10, 148, 155, 0), (148, .aload_n 0, 149, 0, 0), (149, .getfield 268, 152, 11, 23), (152, .goto 4, 155, 156, 0), (155, .iconst (-1), 156, 0, 0), (156, .ireturn, 157, 0, 0)]
def kX12_book : zM := (⟨"ReadAloudModel", "book", "(II)I"⟩, prog_14_method_49_code, 5, (some .int), 11, qX12_book)
def qX12_word : List zE := [(0, .aload_n 0, 1, 0, 0), (1, .iconst 0, 2, 0, 0), (2, .putfield 107, 5, 11, 0), (5, .iload_n 1, 6, 0, 0), (6, .invokestatic 302, 9, 116, 1), (9, .ifCond .eq 17, 12, 26, 0), (12, .iload_n 2, 13, 0, 0), (13, .iconst (-1), 14, 0, 0), (14, .iload_n 1, 15, 0, 0), (15, .invokestatic 271, 18, 117, 1), (18, .iconst 1, 19, 0, 0), (19, .isub, 20, 0, 0), (20, .invokestatic 114, 23, 103, 3), (23, .ifCond .ne 5, 26, 28, 0), (26, .iconst (-1), 27, 0, 0), (27, .ireturn, 28, 0, 0), (28, .iload_n 1, 29, 0, 0), (29, .aload_n 0, 30, 0, 0), (30, .getfield 45, 33, 11, 24), (33, .invokestatic 289, 36, 118, 2), (36, .iload_n 2, 37, 0, 0), (37, .iconst (-1), 38, 0, 0), (38, .if_icmp .ne 10, 41, 48, 0), (41, .iload_n 1, 42, 0, 0), (42, .invokestatic 271, 45, 117, 1), (45, .goto 9, 48, 54, 0), (48, .aload_n 0, 49, 0, 0), (49, .getfield 45, 52, 11, 24), (52, .iload_n 2, 53, 0, 0), (53, .iaload, 54, 0, 0), (54, .ireturn, 55, 0, 0)]
def kX12_word : zM := (⟨"ReadAloudModel", "word", "(II)I"⟩, prog_14_method_50_code, 3, (some .int), 11, qX12_word)
def qX12_drift : List zE := [(0, .aload_n 0, 1, 0, 0), (1, .iconst 0, 2, 0, 0), (2, .putfield 107, 5, 11, 0), (5, .iload_n 1, 6, 0, 0), (6, .invokestatic 302, 9, 116, 1), (9, .ifCond .eq 19, 12, 28, 0), (12, .iload_n 2, 13, 0, 0), (13, .invokestatic 302, 16, 116, 1), (16, .ifCond .eq 12, 19, 28, 0), (19, .aload_n 0, 20, 0, 0), (20, .iload_n 1, 21, 0, 0), (21, .iload_n 2, 22, 0, 0), (22, .invokevirtual 305, 25, 121, 2), (25, .goto 4, 28, 29, 0), (28, .iconst (-1), 29, 0, 0), (29, .ireturn, 30, 0, 0)]
def kX12_drift : zM := (⟨"ReadAloudModel", "drift", "(II)I"⟩, prog_14_method_51_code, 3, (some .int), 11, qX12_drift)
def qX12_read : List zE := [(0, .aload_n 0, 1, 0, 0), (1, .iconst 0, 2, 0, 0), (2, .putfield 107, 5, 11, 0), (5, .aload_n 0, 6, 0, 0), (6, .iload_n 1, 7, 0, 0), (7, .invokevirtual 299, 10, 115, 1), (10, .ifCond .eq 27, 13, 37, 0), (13, .iload_n 2, 14, 0, 0), (14, .invokestatic 302, 17, 116, 1), (17, .ifCond .eq 20, 20, 37, 0), (20, .aload_n 0, 21, 0, 0), (21, .iload_n 3, 22, 0, 0), (25, .ifCond .eq 12, 28, 37, 0), (28, .aload_n 0, 29, 0, 0), (29, .iload_n 2, 30, 0, 0), (30, .iload_n 3, 31, 0, 0), (34, .goto 4, 37, 38, 0), (37, .iconst (-1), 38, 0, 0), (38, .ireturn, 39, 0, 0)]
def kX12_read : zM := (⟨"ReadAloudModel", "read", "(III)I"⟩, prog_14_method_52_code, 4, (some .int), 11, qX12_read)
def qX12_deed : List zE := [(0, .aload_n 0, 1, 0, 0), (1, .iconst 0, 2, 0, 0), (2, .putfield 107, 5, 11, 0), (5, .aload_n 0, 6, 0, 0), (6, .iload_n 1, 7, 0, 0), (7, .invokevirtual 317, 10, 123, 1), (10, .ifCond .ne 6, 13, 16, 0), (13, .bipush (-2), 15, 0, 0), (15, .ireturn, 16, 0, 0), (16, .iload_n 2, 17, 0, 0), (17, .iconst (-1), 18, 0, 0), (18, .if_icmp .ne 17, 21, 35, 0), (21, .iload_n 3, 22, 0, 0), (22, .ifCond .ne 10, 25, 32, 0), (25, .aload_n 0, 26, 0, 0), (29, .goto 5, 32, 34, 0), (32, .bipush (-2), 34, 0, 0), (34, .ireturn, 35, 0, 0), (35, .iload_n 2, 36, 0, 0), (36, .iconst 0, 37, 0, 0), (37, .aload_n 0, 38, 0, 0), (41, .iconst 1, 42, 0, 0), (42, .isub, 43, 0, 0), (43, .invokestatic 114, 46, 103, 3), (46, .ifCond .eq 21, 49, 67, 0), (49, .iload_n 3, 50, 0, 0), (50, .iconst 0, 51, 0, 0), (51, .iconst 2, 52, 0, 0), (52, .invokestatic 114, 55, 103, 3), (55, .ifCond .eq 12, 58, 67, 0), (58, .aload_n 0, 59, 0, 0), (59, .iload_n 2, 60, 0, 0), (60, .iload_n 3, 61, 0, 0), (64, .goto 5, 67, 69, 0), (67, .bipush (-2), 69, 0, 0), (69, .ireturn, 70, 0, 0)]
def kX12_deed : zM := (⟨"ReadAloudModel", "deed", "(III)I"⟩, prog_14_method_56_code, 4, (some .int), 11, qX12_deed)
def qX12_stop : List zE := [(0, .aload_n 0, 1, 0, 0), (1, .iconst 0, 2, 0, 0), (2, .putfield 107, 5, 11, 0), (5, .aload_n 0, 6, 0, 0), (6, .iload_n 1, 7, 0, 0), (7, .iload_n 2, 8, 0, 0), (8, .invokevirtual 353, 11, 122, 2), (11, .ifCond .eq 14, 14, 25, 0), (14, .aload_n 0, 15, 0, 0), (15, .aload_n 0, 16, 0, 0), (22, .goto 4, 25, 26, 0), (25, .iconst (-1), 26, 0, 0), (26, .ireturn, 27, 0, 0)]
def kX12_stop : zM := (⟨"ReadAloudModel", "stop", "(II)I"⟩, prog_14_method_64_code, 3, (some .int), 11, qX12_stop)
def qX12_state : List zE := [(0, .aload_n 0, 1, 0, 0), (1, .iconst 0, 2, 0, 0), (2, .putfield 107, 5, 11, 0), (5, .aload_n 0, 6, 0, 0), (6, .iload_n 1, 7, 0, 0), (7, .iload_n 2, 8, 0, 0), (8, .invokevirtual 353, 11, 122, 2), (11, .ifCond .eq 33, 14, 44, 0), (14, .iload_n 3, 15, 0, 0), (15, .iconst 0, 16, 0, 0), (16, .aload_n 0, 17, 0, 0), (20, .invokestatic 114, 23, 103, 3), (23, .ifCond .eq 21, 26, 44, 0), (26, .aload_n 0, 27, 0, 0), (27, .iload_n 3, 28, 0, 0), (31, .iload_n 3, 32, 0, 0), (32, .if_icmp .ne 12, 35, 44, 0), (35, .aload_n 0, 36, 0, 0), (36, .iload 4, 38, 0, 0), (41, .goto 5, 44, 46, 0), (44, .bipush (-2), 46, 0, 0), (46, .ireturn, 47, 0, 0)]
def kX12_state : zM := (⟨"ReadAloudModel", "state", "(IIII)I"⟩, prog_14_method_66_code, 5, (some .int), 11, qX12_state)
def qX12_making : List zE := [(0, .aload_n 0, 1, 0, 0), (1, .iconst 0, 2, 0, 0), (2, .putfield 107, 5, 11, 0), (5, .iload_n 2, 6, 0, 0), (6, .invokestatic 302, 9, 116, 1), (9, .ifCond .eq 18, 12, 27, 0), (12, .iload_n 3, 13, 0, 0), (13, .invokestatic 302, 16, 116, 1), (16, .ifCond .eq 11, 19, 27, 0), (19, .aload_n 0, 20, 0, 0), (20, .iload_n 1, 21, 0, 0), (21, .invokevirtual 369, 24, 125, 1), (24, .ifCond .ne 5, 27, 29, 0), (27, .iconst (-1), 28, 0, 0), (28, .ireturn, 29, 0, 0), (29, .aload_n 0, 30, 0, 0), (30, .iload_n 3, 31, 0, 0), (34, .aload_n 0, 35, 0, 0), (35, .getfield 66, 38, 11, 36), (38, .iload_n 2, 39, 0, 0), (39, .iaload, 40, 0, 0), (40, .istore 5, 42, 0, 0), (42, .iload 5, 44, 0, 0), (47, .if_icmp .ge 16, 50, 63, 0), (50, .iload 4, 52, 0, 0), (52, .iconst (-1), 53, 0, 0), (53, .iload 5, 55, 0, 0), (55, .iconst 1, 56, 0, 0), (56, .isub, 57, 0, 0), (57, .invokestatic 114, 60, 103, 3), (60, .ifCond .ne 5, 63, 65, 0), (63, .iconst (-1), 64, 0, 0), (64, .ireturn, 65, 0, 0), (65, .iload 4, 67, 0, 0), (67, .iconst (-1), 68, 0, 0), (68, .if_icmp .ne 6, 71, 74, 0), (71, .iload 5, 73, 0, 0), (73, .ireturn, 74, 0, 0), (74, .iload_n 2, 75, 0, 0), (75, .istore 6, 77, 0, 0), (77, .iconst (-1), 78, 0, 0), (78, .istore 7, 80, 0, 0), (80, .iconst 0, 81, 0, 0), (81, .istore 8, 83, 0, 0), (83, .iload 8, 85, 0, 0), (85, .iload 4, 87, 0, 0), (87, .if_icmp .gt 65, 90, 152, 0), (90, .iconst 0, 91, 0, 0), (91, .istore 7, 93, 0, 0), (93, .aload_n 0, 94, 0, 0), (94, .getfield 66, 97, 11, 36), (97, .aload_n 0, 98, 0, 0), (98, .getfield 60, 101, 11, 34), (101, .sipush 5461, 104, 0, 0), (104, .iload 7, 106, 0, 0), (106, .imul, 107, 0, 0), (107, .iload 6, 109, 0, 0), (109, .iadd, 110, 0, 0), (110, .iaload, 111, 0, 0), (111, .iaload, 112, 0, 0), (112, .aload_n 0, 113, 0, 0), (113, .getfield 66, 116, 11, 36), (116, .iload 6, 118, 0, 0), (118, .iaload, 119, 0, 0), (119, .iconst 1, 120, 0, 0), (120, .isub, 121, 0, 0), (121, .if_icmp .eq 9, 124, 130, 0), (124, .iinc 7 1, 127, 0, 0), (127, .goto (-34), 130, 93, 0), (130, .aload_n 0, 131, 0, 0), (131, .getfield 60, 134, 11, 34), (134, .sipush 5461, 137, 0, 0), (137, .iload 7, 139, 0, 0), (139, .imul, 140, 0, 0), (140, .iload 6, 142, 0, 0), (142, .iadd, 143, 0, 0), (143, .iaload, 144, 0, 0), (144, .istore 6, 146, 0, 0), (146, .iinc 8 1, 149, 0, 0), (149, .goto (-66), 152, 83, 0), (152, .iload 7, 154, 0, 0), (154, .ireturn, 155, 0, 0)]
def kX12_making : zM := (⟨"ReadAloudModel", "making", "(IIII)I"⟩, prog_14_method_71_code, 9, (some .int), 11, qX12_making)
def qX12_ring : List zE := [(0, .aload_n 0, 1, 0, 0), (1, .iconst 0, 2, 0, 0), (2, .putfield 107, 5, 11, 0), (5, .iload_n 2, 6, 0, 0), (6, .invokestatic 302, 9, 116, 1), (9, .ifCond .eq 11, 12, 20, 0), (12, .aload_n 0, 13, 0, 0), (13, .iload_n 1, 14, 0, 0), (14, .invokevirtual 369, 17, 125, 1), (17, .ifCond .ne 5, 20, 22, 0), (20, .iconst (-1), 21, 0, 0), (21, .ireturn, 22, 0, 0), (22, .aload_n 0, 23, 0, 0), (23, .iload_n 2, 24, 0, 0), (24, .iconst 0, 25, 0, 0), (25, .aload_n 0, 26, 0, 0), (26, .getfield 63, 29, 11, 35), (35, .istore_n 3, 36, 0, 0), (36, .iconst 0, 37, 0, 0), (37, .istore 4, 39, 0, 0), (39, .iload 4, 41, 0, 0), (41, .sipush 5461, 44, 0, 0), (44, .aload_n 0, 45, 0, 0), (45, .getfield 268, 48, 11, 23), (48, .imul, 49, 0, 0), (49, .if_icmp .ge 42, 52, 91, 0), (52, .aload_n 0, 53, 0, 0), (53, .getfield 60, 56, 11, 34), (56, .iload 4, 58, 0, 0), (58, .iaload, 59, 0, 0), (59, .iload_n 2, 60, 0, 0), (60, .if_icmp .ne 23, 63, 83, 0), (63, .iload_n 3, 64, 0, 0), (64, .aload_n 0, 65, 0, 0), (65, .getfield 63, 68, 11, 35), (68, .iload 4, 70, 0, 0), (70, .sipush 5461, 73, 0, 0), (73, .irem, 74, 0, 0), (74, .iaload, 75, 0, 0), (75, .iconst 1, 76, 0, 0), (76, .iadd, 77, 0, 0), (77, .invokestatic 204, 80, 105, 2), (80, .goto 4, 83, 84, 0), (83, .iload_n 3, 84, 0, 0), (84, .istore_n 3, 85, 0, 0), (85, .iinc 4 1, 88, 0, 0), (88, .goto (-49), 91, 39, 0), (91, .iload_n 3, 92, 0, 0), (95, .if_icmp .lt 7, 98, 102, 0), (98, .iconst (-1), 99, 0, 0), (99, .goto 4, 102, 103, 0), (102, .iload_n 3, 103, 0, 0), (103, .ireturn, 104, 0, 0)]
def kX12_ring : zM := (⟨"ReadAloudModel", "ring", "(II)I"⟩, prog_14_method_72_code, 5, (some .int), 11, qX12_ring)
def qX12_reach : List zE := [(0, .aload_n 0, 1, 0, 0), (1, .iconst 0, 2, 0, 0), (2, .putfield 107, 5, 11, 0), (5, .iload_n 2, 6, 0, 0), (6, .invokestatic 302, 9, 116, 1), (9, .ifCond .eq 11, 12, 20, 0), (12, .aload_n 0, 13, 0, 0), (13, .iload_n 1, 14, 0, 0), (14, .invokevirtual 369, 17, 125, 1), (17, .ifCond .ne 5, 20, 22, 0), (20, .iconst (-1), 21, 0, 0), (21, .ireturn, 22, 0, 0), (22, .aload_n 0, 23, 0, 0), (23, .iload_n 2, 24, 0, 0), (24, .iconst 0, 25, 0, 0), (25, .aload_n 0, 26, 0, 0), (26, .getfield 63, 29, 11, 35), (32, .iload_n 3, 33, 0, 0), (33, .ifCond .eq 22, 36, 55, 0), (36, .aload_n 0, 37, 0, 0), (37, .getfield 63, 40, 11, 35), (40, .aload_n 0, 41, 0, 0), (41, .getfield 69, 44, 11, 37), (44, .aload_n 0, 45, 0, 0), (45, .getfield 366, 48, 11, 38), (48, .iconst 1, 49, 0, 0), (49, .isub, 50, 0, 0), (50, .iaload, 51, 0, 0), (51, .iaload, 52, 0, 0), (52, .goto 7, 55, 59, 0), (55, .aload_n 0, 56, 0, 0), (56, .getfield 366, 59, 11, 38), (59, .ireturn, 60, 0, 0)]
def kX12_reach : zM := (⟨"ReadAloudModel", "reach", "(IIZ)I"⟩, prog_14_method_73_code, 4, (some .int), 11, qX12_reach)
def qX12_sound : List zE := [(0, .aload_n 0, 1, 0, 0), (1, .iconst 0, 2, 0, 0), (2, .putfield 107, 5, 11, 0), (5, .aload_n 0, 6, 0, 0), (6, .iload_n 1, 7, 0, 0), (7, .invokevirtual 299, 10, 115, 1), (10, .ifCond .eq 19, 13, 29, 0), (13, .iload_n 2, 14, 0, 0), (14, .iconst 0, 15, 0, 0), (15, .iconst 1, 16, 0, 0), (16, .aload_n 0, 17, 0, 0), (17, .getfield 268, 20, 11, 23), (20, .ishl, 21, 0, 0), (21, .iconst 1, 22, 0, 0), (22, .isub, 23, 0, 0), (23, .invokestatic 114, 26, 103, 3), (26, .ifCond .ne 5, 29, 31, 0), (29, .iconst (-1), 30, 0, 0), (30, .ireturn, 31, 0, 0), (31, .aload_n 0, 32, 0, 0), (35, .iconst 0, 36, 0, 0), (36, .istore_n 3, 37, 0, 0), (37, .iconst 0, 38, 0, 0), (38, .istore 4, 40, 0, 0), (40, .iload 4, 42, 0, 0), (42, .sipush 5461, 45, 0, 0), (45, .if_icmp .ge 27, 48, 72, 0), (48, .iload_n 3, 49, 0, 0), (49, .aload_n 0, 50, 0, 0), (50, .iload 4, 52, 0, 0), (52, .iload_n 2, 53, 0, 0), (56, .ifCond .eq 7, 59, 63, 0), (59, .iconst 1, 60, 0, 0), (60, .goto 4, 63, 64, 0), (63, .iconst 0, 64, 0, 0), (64, .iadd, 65, 0, 0), (65, .istore_n 3, 66, 0, 0), (66, .iinc 4 1, 69, 0, 0), (69, .goto (-29), 72, 40, 0), (72, .iload_n 3, 73, 0, 0), (73, .ireturn, 74, 0, 0)]
def kX12_sound : zM := (⟨"ReadAloudModel", "sound", "(II)I"⟩, prog_14_method_75_code, 5, (some .int), 11, qX12_sound)
def qX12_like : List zE := [(0, .aload_n 0, 1, 0, 0), (1, .iconst 0, 2, 0, 0), (2, .putfield 107, 5, 11, 0), (5, .aload_n 0, 6, 0, 0), (6, .iload_n 1, 7, 0, 0), (7, .invokevirtual 299, 10, 115, 1), (10, .ifCond .eq 19, 13, 29, 0), (13, .aload_n 0, 14, 0, 0), (14, .iload_n 2, 15, 0, 0), (18, .ifCond .eq 11, 21, 29, 0), (21, .aload_n 0, 22, 0, 0), (22, .iload_n 3, 23, 0, 0), (26, .ifCond .ne 5, 29, 31, 0), (29, .iconst (-1), 30, 0, 0), (30, .ireturn, 31, 0, 0), (31, .aload_n 0, 32, 0, 0), (35, .iconst 0, 36, 0, 0), (36, .istore 4, 38, 0, 0), (38, .iconst 0, 39, 0, 0), (39, .istore 5, 41, 0, 0), (41, .iload 5, 43, 0, 0), (43, .sipush 5461, 46, 0, 0), (46, .if_icmp .ge 70, 49, 116, 0), (49, .iload 4, 51, 0, 0), (51, .aload_n 0, 52, 0, 0), (52, .getfield 60, 55, 11, 34), (55, .sipush 5461, 58, 0, 0), (58, .iload_n 3, 59, 0, 0), (59, .imul, 60, 0, 0), (60, .aload_n 0, 61, 0, 0), (61, .getfield 60, 64, 11, 34), (64, .sipush 5461, 67, 0, 0), (67, .iload_n 2, 68, 0, 0), (68, .imul, 69, 0, 0), (69, .iload 5, 71, 0, 0), (71, .iadd, 72, 0, 0), (72, .iaload, 73, 0, 0), (73, .iadd, 74, 0, 0), (74, .iaload, 75, 0, 0), (75, .aload_n 0, 76, 0, 0), (76, .getfield 60, 79, 11, 34), (79, .sipush 5461, 82, 0, 0), (82, .iload_n 2, 83, 0, 0), (83, .imul, 84, 0, 0), (84, .aload_n 0, 85, 0, 0), (85, .getfield 60, 88, 11, 34), (88, .sipush 5461, 91, 0, 0), (91, .iload_n 3, 92, 0, 0), (92, .imul, 93, 0, 0), (93, .iload 5, 95, 0, 0), (95, .iadd, 96, 0, 0), (96, .iaload, 97, 0, 0), (97, .iadd, 98, 0, 0), (98, .iaload, 99, 0, 0), (99, .if_icmp .ne 7, 102, 106, 0), (102, .iconst 1, 103, 0, 0), (103, .goto 4, 106, 107, 0), (106, .iconst 0, 107, 0, 0), (107, .iadd, 108, 0, 0), (108, .istore 4, 110, 0, 0), (110, .iinc 5 1, 113, 0, 0), (113, .goto (-72), 116, 41, 0), (116, .iload 4, 118, 0, 0), (118, .ireturn, 119, 0, 0)]
def kX12_like : zM := (⟨"ReadAloudModel", "like", "(III)I"⟩, prog_14_method_76_code, 6, (some .int), 11, qX12_like)
def qX12_orbits : List zE := [(0, .aload_n 0, 1, 0, 0), (1, .iconst 0, 2, 0, 0), (2, .putfield 107, 5, 11, 0), (5, .aload_n 0, 6, 0, 0), (6, .iload_n 1, 7, 0, 0), (7, .invokevirtual 299, 10, 115, 1), (10, .ifCond .eq 20, 13, 30, 0), (13, .aload_n 0, 14, 0, 0), (14, .iload_n 2, 15, 0, 0), (18, .ifCond .eq 12, 21, 30, 0), (21, .iload_n 3, 22, 0, 0), (22, .iconst 0, 23, 0, 0), (23, .iconst 5, 24, 0, 0), (24, .invokestatic 114, 27, 103, 3), (27, .ifCond .ne 5, 30, 32, 0), (30, .iconst (-1), 31, 0, 0), (31, .ireturn, 32, 0, 0), (32, .aload_n 0, 33, 0, 0), (36, .iload_n 3, 37, 0, 0), (37, .iconst 3, 38, 0, 0), (38, .if_icmp .le 22, 41, 60, 0), (41, .iload_n 3, 42, 0, 0), (42, .iconst 4, 43, 0, 0), (43, .if_icmp .ne 11, 46, 54, 0), (46, .aload_n 0, 47, 0, 0), (47, .iload_n 2, 48, 0, 0), (51, .goto 8, 54, 59, 0), (54, .aload_n 0, 55, 0, 0), (55, .iload_n 2, 56, 0, 0), (59, .ireturn, 60, 0, 0), (60, .aload_n 0, 61, 0, 0), (61, .iload_n 2, 62, 0, 0), (65, .istore 4, 67, 0, 0), (67, .iload_n 3, 68, 0, 0), (68, .iconst 2, 69, 0, 0), (69, .if_icmp .ne 12, 72, 81, 0), (72, .sipush 5461, 75, 0, 0), (75, .iload 4, 77, 0, 0), (77, .isub, 78, 0, 0), (78, .goto 32, 81, 110, 0), (81, .iload_n 3, 82, 0, 0), (82, .iconst 3, 83, 0, 0), (83, .if_icmp .ne 13, 86, 96, 0), (86, .aload_n 0, 87, 0, 0), (87, .iload_n 2, 88, 0, 0), (88, .iload 4, 90, 0, 0), (93, .goto 17, 96, 110, 0), (96, .aload_n 0, 97, 0, 0), (97, .iload_n 2, 98, 0, 0), (98, .iload_n 3, 99, 0, 0), (99, .ifCond .ne 7, 102, 106, 0), (102, .iconst 1, 103, 0, 0), (103, .goto 4, 106, 107, 0), (106, .iconst 0, 107, 0, 0), (110, .ireturn, 111, 0, 0)]
def kX12_orbits : zM := (⟨"ReadAloudModel", "orbits", "(III)I"⟩, prog_14_method_83_code, 5, (some .int), 11, qX12_orbits)
def qX12_rota : List zE := [(0, .aload_n 0, 1, 0, 0), (1, .iconst 0, 2, 0, 0), (2, .putfield 107, 5, 11, 0), (5, .iload_n 2, 6, 0, 0), (6, .iconst 0, 7, 0, 0), (7, .bipush 9, 9, 0, 0), (9, .invokestatic 114, 12, 103, 3), (12, .ifCond .eq 44, 15, 56, 0), (15, .aload_n 0, 16, 0, 0), (16, .iload_n 1, 17, 0, 0), (17, .invokevirtual 299, 20, 115, 1), (20, .ifCond .eq 36, 23, 56, 0), (23, .aload_n 0, 24, 0, 0), (24, .getfield 268, 27, 11, 23), (27, .ifCond .ne 7, 30, 34, 0), (30, .iload_n 2, 31, 0, 0), (31, .ifCond .gt 25, 34, 56, 0), (34, .iload_n 3, 35, 0, 0), (35, .iconst 0, 36, 0, 0), (36, .iconst 1, 37, 0, 0), (37, .invokestatic 114, 40, 103, 3), (40, .ifCond .ne 18, 43, 58, 0), (43, .iload_n 3, 44, 0, 0), (44, .bipush 10, 46, 0, 0), (46, .bipush 9, 48, 0, 0), (48, .iload_n 2, 49, 0, 0), (49, .iadd, 50, 0, 0), (50, .invokestatic 114, 53, 103, 3), (53, .ifCond .ne 5, 56, 58, 0), (56, .iconst (-1), 57, 0, 0), (57, .ireturn, 58, 0, 0), (58, .aload_n 0, 59, 0, 0), (62, .aload_n 0, 63, 0, 0), (66, .iconst 1, 67, 0, 0), (67, .istore 4, 69, 0, 0), (69, .iload 4, 71, 0, 0), (71, .iload_n 2, 72, 0, 0), (72, .if_icmp .gt 29, 75, 101, 0), (75, .aload_n 0, 76, 0, 0), (76, .iload 4, 78, 0, 0), (78, .aload_n 0, 79, 0, 0), (82, .iload_n 3, 83, 0, 0), (83, .iconst 1, 84, 0, 0), (84, .if_icmp .ne 7, 87, 91, 0), (87, .iconst 1, 88, 0, 0), (88, .goto 4, 91, 92, 0), (91, .iconst 0, 92, 0, 0), (95, .iinc 4 1, 98, 0, 0), (98, .goto (-29), 101, 69, 0), (101, .iload_n 3, 102, 0, 0), (102, .iconst 2, 103, 0, 0), (103, .if_icmp .ge 21, 106, 124, 0), (106, .aload_n 0, 107, 0, 0), (107, .getfield 76, 110, 11, 40), (110, .sipush 5461, 113, 0, 0), (113, .iload_n 2, 114, 0, 0), (114, .imul, 115, 0, 0), (115, .aload_n 0, 116, 0, 0), (116, .getfield 265, 119, 11, 22), (119, .iadd, 120, 0, 0), (120, .iaload, 121, 0, 0), (121, .goto 12, 124, 133, 0), (124, .aload_n 0, 125, 0, 0), (125, .iload_n 2, 126, 0, 0), (126, .iload_n 3, 127, 0, 0), (127, .bipush 10, 129, 0, 0), (129, .isub, 130, 0, 0), (133, .ireturn, 134, 0, 0)]
def kX12_rota : zM := (⟨"ReadAloudModel", "rota", "(III)I"⟩, prog_14_method_88_code, 5, (some .int), 11, qX12_rota)
set_option maxRecDepth 200000 in
def qX12_mean : List zE := [(0, .aload_n 0, 1, 0, 0), (1, .iconst 0, 2, 0, 0), (2, .putfield 107, 5, 11, 0), (5, .iload_n 2, 6, 0, 0), (6, .iconst 0, 7, 0, 0), (7, .bipush 9, 9, 0, 0), (9, .invokestatic 114, 12, 103, 3), (12, .ifCond .eq 22, 15, 34, 0), (15, .aload_n 0, 16, 0, 0), (16, .iload_n 1, 17, 0, 0), (17, .invokevirtual 299, 20, 115, 1), (20, .ifCond .eq 14, 23, 34, 0), (23, .aload_n 0, 24, 0, 0), (24, .getfield 268, 27, 11, 23), (27, .ifCond .ne 11, 30, 38, 0), (30, .iload_n 2, 31, 0, 0), (31, .ifCond .le 7, 34, 38, 0), (34, .ldc2_w 417, 37, 18446744073709551615, 0), (37, .lreturn, 38, 0, 0), (38, .aload_n 0, 39, 0, 0), (42, .aload_n 0, 43, 0, 0), (46, .lconst 1, 47, 0, 0), (47, .lstore 4, 49, 0, 0), (49, .iconst 1, 50, 0, 0), (50, .istore 6, 52, 0, 0), (52, .iload 6, 54, 0, 0), (54, .iload_n 2, 55, 0, 0), (55, .if_icmp .gt 106, 58, 161, 0), (58, .lload 4, 60, 0, 0), (60, .aload_n 0, 61, 0, 0), (61, .getfield 268, 64, 11, 23), (64, .i2l, 65, 0, 0), (65, .lmul, 66, 0, 0), (66, .lstore 4, 68, 0, 0), (68, .iconst 0, 69, 0, 0), (69, .istore 7, 71, 0, 0), (71, .iload 7, 73, 0, 0), (73, .sipush 5461, 76, 0, 0), (76, .if_icmp .ge 79, 79, 155, 0), (79, .iconst 0, 80, 0, 0), (80, .istore 8, 82, 0, 0), (82, .iconst 0, 83, 0, 0), (83, .istore 9, 85, 0, 0), (85, .iload 9, 87, 0, 0), (87, .aload_n 0, 88, 0, 0), (88, .getfield 268, 91, 11, 23), (91, .if_icmp .ge 42, 94, 133, 0), (94, .iload 8, 96, 0, 0), (96, .aload_n 0, 97, 0, 0), (97, .getfield 76, 100, 11, 40), (100, .sipush 5461, 103, 0, 0), (103, .iload 6, 105, 0, 0), (105, .iconst 1, 106, 0, 0), (106, .isub, 107, 0, 0), (107, .imul, 108, 0, 0), (108, .aload_n 0, 109, 0, 0), (109, .getfield 60, 112, 11, 34), (112, .sipush 5461, 115, 0, 0), (115, .iload 9, 117, 0, 0), (117, .imul, 118, 0, 0), (118, .iload 7, 120, 0, 0), (120, .iadd, 121, 0, 0), (121, .iaload, 122, 0, 0), (122, .iadd, 123, 0, 0), (123, .iaload, 124, 0, 0), (124, .iadd, 125, 0, 0), (125, .istore 8, 127, 0, 0), (127, .iinc 9 1, 130, 0, 0), (130, .goto (-45), 133, 85, 0), (133, .aload_n 0, 134, 0, 0), (134, .getfield 76, 137, 11, 40), (137, .sipush 5461, 140, 0, 0), (140, .iload 6, 142, 0, 0), (142, .imul, 143, 0, 0), (143, .iload 7, 145, 0, 0), (145, .iadd, 146, 0, 0), (146, .iload 8, 148, 0, 0), (148, .iastore, 149, 0, 0), (149, .iinc 7 1, 152, 0, 0), (152, .goto (-81), 155, 71, 0), (155, .iinc 6 1, 158, 0, 0), (158, .goto (-106), 161, 52, 0), (161, .aload_n 0, 162, 0, 0), (162, .getfield 76, 165, 11, 40), (165, .sipush 5461, 168, 0, 0), (168, .iload_n 2, 169, 0, 0), (169, .imul, 170, 0, 0), (170, .aload_n 0, 171, 0, 0), (171, .getfield 265, 174, 11, 22), (174, .iadd, 175, 0, 0), (175, .iaload, 176, 0, 0), (176, .i2l, 177, 0, 0), (177, .lstore 6, 179, 0, 0), (179, .iload_n 3, 180, 0, 0), (180, .ifCond .eq 8, 183, 188, 0), (183, .lload 4, 185, 0, 0), (185, .goto 5, 188, 190, 0), (188, .lload 6, 190, 0, 0), (190, .lload 4, 192, 0, 0), (192, .lload 6, 194, 0, 0), (197, .ldiv, 198, 0, 0), (198, .lreturn, 199, 0, 0)]
def kX12_mean : zM := (⟨"ReadAloudModel", "mean", "(IIZ)J"⟩, prog_14_method_90_code, 10, (some .long), 11, qX12_mean)
set_option maxRecDepth 200000 in
def qX12_elders : List zE := [(0, .aload_n 0, 1, 0, 0), (1, .iconst 0, 2, 0, 0), (2, .putfield 107, 5, 11, 0), (5, .iload_n 3, 6, 0, 0), (6, .iconst 0, 7, 0, 0), (7, .bipush 9, 9, 0, 0), (9, .invokestatic 114, 12, 103, 3), (12, .ifCond .eq 18, 15, 30, 0), (15, .iload_n 2, 16, 0, 0), (16, .invokestatic 302, 19, 116, 1), (19, .ifCond .eq 11, 22, 30, 0), (22, .aload_n 0, 23, 0, 0), (23, .iload_n 1, 24, 0, 0), (24, .invokevirtual 369, 27, 125, 1), (27, .ifCond .ne 6, 30, 33, 0), (30, .bipush (-2), 32, 0, 0), (32, .ireturn, 33, 0, 0), (33, .iconst 0, 34, 0, 0), (34, .istore 5, 36, 0, 0), (36, .iload 5, 38, 0, 0), (38, .sipush 5461, 41, 0, 0), (41, .if_icmp .ge 27, 44, 68, 0), (44, .aload_n 0, 45, 0, 0), (45, .getfield 63, 48, 11, 35), (48, .iload 5, 50, 0, 0), (50, .iload 5, 52, 0, 0), (52, .iload_n 2, 53, 0, 0), (53, .if_icmp .ne 7, 56, 60, 0), (56, .iconst 1, 57, 0, 0), (57, .goto 4, 60, 61, 0), (60, .iconst 0, 61, 0, 0), (61, .iastore, 62, 0, 0), (62, .iinc 5 1, 65, 0, 0), (65, .goto (-29), 68, 36, 0), (68, .iconst 0, 69, 0, 0), (69, .istore 5, 71, 0, 0), (71, .iload 5, 73, 0, 0), (73, .iload_n 3, 74, 0, 0), (74, .if_icmp .ge 112, 77, 186, 0), (77, .iconst 0, 78, 0, 0), (78, .istore 6, 80, 0, 0), (80, .iload 6, 82, 0, 0), (82, .sipush 5461, 85, 0, 0), (85, .if_icmp .ge 64, 88, 149, 0), (88, .aload_n 0, 89, 0, 0), (89, .getfield 66, 92, 11, 36), (92, .iload 6, 94, 0, 0), (94, .iconst 0, 95, 0, 0), (95, .iastore, 96, 0, 0), (96, .iconst 0, 97, 0, 0), (97, .istore 7, 99, 0, 0), (99, .iload 7, 101, 0, 0), (101, .aload_n 0, 102, 0, 0), (102, .getfield 268, 105, 11, 23), (105, .if_icmp .ge 38, 108, 143, 0), (108, .aload_n 0, 109, 0, 0), (109, .getfield 66, 112, 11, 36), (112, .iload 6, 114, 0, 0), (114, .dup2, 115, 0, 0), (115, .iaload, 116, 0, 0), (116, .aload_n 0, 117, 0, 0), (117, .getfield 63, 120, 11, 35), (120, .aload_n 0, 121, 0, 0), (121, .getfield 60, 124, 11, 34), (124, .sipush 5461, 127, 0, 0), (127, .iload 7, 129, 0, 0), (129, .imul, 130, 0, 0), (130, .iload 6, 132, 0, 0), (132, .iadd, 133, 0, 0), (133, .iaload, 134, 0, 0), (134, .iaload, 135, 0, 0), (135, .ior, 136, 0, 0), (136, .iastore, 137, 0, 0), (137, .iinc 7 1, 140, 0, 0), (140, .goto (-41), 143, 99, 0), (143, .iinc 6 1, 146, 0, 0), (146, .goto (-66), 149, 80, 0), (149, .iconst 0, 150, 0, 0), (150, .istore 6, 152, 0, 0), (152, .iload 6, 154, 0, 0), (154, .sipush 5461, 157, 0, 0), (157, .if_icmp .ge 23, 160, 180, 0), (160, .aload_n 0, 161, 0, 0), (161, .getfield 63, 164, 11, 35), (164, .iload 6, 166, 0, 0), (166, .aload_n 0, 167, 0, 0), (167, .getfield 66, 170, 11, 36), (170, .iload 6, 172, 0, 0), (172, .iaload, 173, 0, 0), (173, .iastore, 174, 0, 0), (174, .iinc 6 1, 177, 0, 0), (177, .goto (-25), 180, 152, 0), (180, .iinc 5 1, 183, 0, 0), (183, .goto (-112), 186, 71, 0), (186, .iconst 0, 187, 0, 0), (187, .istore 5, 189, 0, 0), (189, .iconst (-1), 190, 0, 0), (190, .istore 6, 192, 0, 0), (192, .iconst 0, 193, 0, 0), (193, .istore 7, 195, 0, 0), (195, .iload 7, 197, 0, 0), (197, .sipush 5461, 200, 0, 0), (200, .if_icmp .ge 47, 203, 247, 0), (203, .iload 5, 205, 0, 0), (205, .aload_n 0, 206, 0, 0), (206, .getfield 63, 209, 11, 35), (209, .iload 7, 211, 0, 0), (211, .iaload, 212, 0, 0), (212, .iadd, 213, 0, 0), (213, .istore 5, 215, 0, 0), (215, .iload 6, 217, 0, 0), (217, .iconst (-1), 218, 0, 0), (218, .if_icmp .ne 19, 221, 237, 0), (221, .aload_n 0, 222, 0, 0), (222, .getfield 63, 225, 11, 35), (225, .iload 7, 227, 0, 0), (227, .iaload, 228, 0, 0), (228, .iconst 1, 229, 0, 0), (229, .if_icmp .ne 8, 232, 237, 0), (232, .iload 7, 234, 0, 0), (234, .goto 5, 237, 239, 0), (237, .iload 6, 239, 0, 0), (239, .istore 6, 241, 0, 0), (241, .iinc 7 1, 244, 0, 0), (244, .goto (-49), 247, 195, 0), (247, .iload 4, 249, 0, 0), (249, .ifCond .eq 8, 252, 257, 0), (252, .iload 6, 254, 0, 0), (254, .goto 5, 257, 259, 0), (257, .iload 5, 259, 0, 0), (259, .ireturn, 260, 0, 0)]
def kX12_elders : zM := (⟨"ReadAloudModel", "elders", "(IIIZ)I"⟩, prog_14_method_91_code, 8, (some .int), 11, qX12_elders)
set_option maxRecDepth 200000 in
def qX12_play_ : List zE := [(0, .aload_n 0, 1, 0, 0), (1, .iconst 0, 2, 0, 0), (2, .putfield 107, 5, 11, 0), (5, .iload_n 2, 6, 0, 0), (6, .iconst 0, 7, 0, 0), (7, .bipush 9, 9, 0, 0), (9, .invokestatic 114, 12, 103, 3), (12, .ifCond .eq 46, 15, 58, 0), (15, .iload_n 3, 16, 0, 0), (16, .iconst 0, 17, 0, 0), (17, .iconst 3, 18, 0, 0), (18, .invokestatic 114, 21, 103, 3), (21, .ifCond .eq 37, 24, 58, 0), (24, .aload_n 0, 25, 0, 0), (25, .iload_n 1, 26, 0, 0), (26, .invokevirtual 299, 29, 115, 1), (29, .ifCond .eq 29, 32, 58, 0), (32, .iload 4, 34, 0, 0), (34, .iconst 0, 35, 0, 0), (35, .aload_n 0, 36, 0, 0), (39, .invokestatic 114, 42, 103, 3), (42, .ifCond .eq 16, 45, 58, 0), (45, .iload 5, 47, 0, 0), (47, .iconst 0, 48, 0, 0), (48, .aload_n 0, 49, 0, 0), (52, .invokestatic 114, 55, 103, 3), (55, .ifCond .ne 5, 58, 60, 0), (58, .iconst (-1), 59, 0, 0), (59, .ireturn, 60, 0, 0), (60, .iload_n 2, 61, 0, 0), (61, .ifCond .le 8, 64, 69, 0), (64, .iload 4, 66, 0, 0), (66, .ifCond .eq 13, 69, 79, 0), (69, .iload_n 2, 70, 0, 0), (70, .iconst 1, 71, 0, 0), (71, .if_icmp .le 10, 74, 81, 0), (74, .iload 5, 76, 0, 0), (76, .ifCond .ne 5, 79, 81, 0), (79, .iconst (-1), 80, 0, 0), (80, .ireturn, 81, 0, 0), (81, .aload_n 0, 82, 0, 0), (85, .iconst 0, 86, 0, 0), (86, .istore 7, 88, 0, 0), (88, .iload 7, 90, 0, 0), (90, .sipush 5461, 93, 0, 0), (93, .if_icmp .ge 23, 96, 116, 0), (96, .aload_n 0, 97, 0, 0), (97, .getfield 76, 100, 11, 40), (100, .iload 7, 102, 0, 0), (102, .aload_n 0, 103, 0, 0), (103, .iload 7, 105, 0, 0), (105, .iload_n 3, 106, 0, 0), (109, .iastore, 110, 0, 0), (110, .iinc 7 1, 113, 0, 0), (113, .goto (-25), 116, 88, 0), (116, .iconst 1, 117, 0, 0), (117, .istore 7, 119, 0, 0), (119, .iload 7, 121, 0, 0), (121, .iload_n 2, 122, 0, 0), (122, .if_icmp .gt 45, 125, 167, 0), (125, .iload_n 2, 126, 0, 0), (126, .iload 7, 128, 0, 0), (128, .isub, 129, 0, 0), (129, .iconst 2, 130, 0, 0), (130, .irem, 131, 0, 0), (131, .ifCond .ne 7, 134, 138, 0), (134, .iconst 1, 135, 0, 0), (135, .goto 4, 138, 139, 0), (138, .iconst 0, 139, 0, 0), (139, .istore 8, 141, 0, 0), (141, .aload_n 0, 142, 0, 0), (142, .iload 7, 144, 0, 0), (144, .iload 8, 146, 0, 0), (146, .ifCond .eq 8, 149, 154, 0), (149, .iload 4, 151, 0, 0), (151, .goto 5, 154, 156, 0), (154, .iload 5, 156, 0, 0), (156, .iload 8, 158, 0, 0), (161, .iinc 7 1, 164, 0, 0), (164, .goto (-45), 167, 119, 0), (167, .iload 6, 169, 0, 0), (169, .ifCond .ne 19, 172, 188, 0), (172, .aload_n 0, 173, 0, 0), (173, .getfield 76, 176, 11, 40), (176, .sipush 5461, 179, 0, 0), (179, .iload_n 2, 180, 0, 0), (180, .imul, 181, 0, 0), (181, .aload_n 0, 182, 0, 0), (182, .getfield 265, 185, 11, 22), (185, .iadd, 186, 0, 0), (186, .iaload, 187, 0, 0), (187, .ireturn, 188, 0, 0), (188, .iconst 0, 189, 0, 0), (189, .istore 7, 191, 0, 0), (191, .iload 7, 193, 0, 0), (193, .aload_n 0, 194, 0, 0), (194, .getfield 268, 197, 11, 23), (197, .if_icmp .ge 73, 200, 270, 0), (200, .iload_n 2, 201, 0, 0), (201, .ifCond .le 69, 204, 270, 0), (204, .iload 4, 206, 0, 0), (206, .iload 7, 208, 0, 0), (208, .invokestatic 335, 211, 104, 2), (211, .ifCond .eq 53, 214, 264, 0), (214, .aload_n 0, 215, 0, 0), (215, .getfield 76, 218, 11, 40), (218, .sipush 5461, 221, 0, 0), (221, .iload_n 2, 222, 0, 0), (222, .iconst 1, 223, 0, 0), (223, .isub, 224, 0, 0), (224, .imul, 225, 0, 0), (225, .aload_n 0, 226, 0, 0), (226, .getfield 60, 229, 11, 34), (229, .sipush 5461, 232, 0, 0), (232, .iload 7, 234, 0, 0), (234, .imul, 235, 0, 0), (235, .aload_n 0, 236, 0, 0), (236, .getfield 265, 239, 11, 22), (239, .iadd, 240, 0, 0), (240, .iaload, 241, 0, 0), (241, .iadd, 242, 0, 0), (242, .iaload, 243, 0, 0), (243, .aload_n 0, 244, 0, 0), (244, .getfield 76, 247, 11, 40), (247, .sipush 5461, 250, 0, 0), (250, .iload_n 2, 251, 0, 0), (251, .imul, 252, 0, 0), (252, .aload_n 0, 253, 0, 0), (253, .getfield 265, 256, 11, 22), (256, .iadd, 257, 0, 0), (257, .iaload, 258, 0, 0), (258, .if_icmp .ne 6, 261, 264, 0), (261, .iload 7, 263, 0, 0), (263, .ireturn, 264, 0, 0), (264, .iinc 7 1, 267, 0, 0), (267, .goto (-76), 270, 191, 0), (270, .iconst (-1), 271, 0, 0), (271, .ireturn, 272, 0, 0)]
def kX12_play_ : zM := (⟨"ReadAloudModel", "play", "(IIIIIZ)I"⟩, prog_14_method_93_code, 9, (some .int), 11, qX12_play_)
def qX12_fact : List zE := [(0, .aload_n 0, 1, 0, 0), (1, .iconst 0, 2, 0, 0), (2, .putfield 107, 5, 11, 0), (5, .aload_n 0, 6, 0, 0), (6, .iload_n 1, 7, 0, 0), (7, .invokevirtual 429, 10, 124, 1), (10, .ifCond .ne 6, 13, 16, 0), (13, .bipush (-2), 15, 0, 0), (15, .ireturn, 16, 0, 0), (16, .iload_n 2, 17, 0, 0), (17, .iconst (-1), 18, 0, 0), (18, .if_icmp .ne 17, 21, 35, 0), (21, .iload_n 3, 22, 0, 0), (22, .ifCond .ne 10, 25, 32, 0), (25, .aload_n 0, 26, 0, 0), (29, .goto 5, 32, 34, 0), (32, .bipush (-2), 34, 0, 0), (34, .ireturn, 35, 0, 0), (35, .iload_n 2, 36, 0, 0), (36, .iconst 0, 37, 0, 0), (37, .aload_n 0, 38, 0, 0), (41, .iconst 1, 42, 0, 0), (42, .isub, 43, 0, 0), (43, .invokestatic 114, 46, 103, 3), (46, .ifCond .eq 21, 49, 67, 0), (49, .iload_n 3, 50, 0, 0), (50, .iconst 0, 51, 0, 0), (51, .iconst 1, 52, 0, 0), (52, .invokestatic 114, 55, 103, 3), (55, .ifCond .eq 12, 58, 67, 0), (58, .aload_n 0, 59, 0, 0), (59, .iload_n 2, 60, 0, 0), (60, .iload_n 3, 61, 0, 0), (64, .goto 5, 67, 69, 0), (67, .bipush (-2), 69, 0, 0), (69, .ireturn, 70, 0, 0)]
def kX12_fact : zM := (⟨"ReadAloudModel", "fact", "(III)I"⟩, prog_14_method_97_code, 4, (some .int), 11, qX12_fact)
def qX12_fits : List zE := [(0, .aload_n 0, 1, 0, 0), (1, .iconst 0, 2, 0, 0), (2, .putfield 107, 5, 11, 0), (5, .iload_n 3, 6, 0, 0), (6, .iconst 0, 7, 0, 0), (7, .bipush 9, 9, 0, 0), (9, .invokestatic 114, 12, 103, 3), (12, .ifCond .eq 33, 15, 45, 0), (15, .iload 4, 17, 0, 0), (17, .iconst (-1), 18, 0, 0), (18, .if_icmp .eq 11, 21, 29, 0), (21, .iload 4, 23, 0, 0), (23, .invokestatic 302, 26, 116, 1), (26, .ifCond .eq 19, 29, 45, 0), (29, .aload_n 0, 30, 0, 0), (30, .iload_n 2, 31, 0, 0), (31, .invokevirtual 429, 34, 124, 1), (34, .ifCond .eq 11, 37, 45, 0), (37, .aload_n 0, 38, 0, 0), (38, .iload_n 1, 39, 0, 0), (39, .invokevirtual 369, 42, 125, 1), (42, .ifCond .ne 5, 45, 47, 0), (45, .iconst (-1), 46, 0, 0), (46, .ireturn, 47, 0, 0), (47, .aload_n 0, 48, 0, 0), (48, .iload_n 3, 49, 0, 0), (52, .iload 4, 54, 0, 0), (54, .iconst (-1), 55, 0, 0), (55, .if_icmp .ne 10, 58, 65, 0), (58, .aload_n 0, 59, 0, 0), (62, .goto 16, 65, 78, 0), (65, .aload_n 0, 66, 0, 0), (66, .getfield 79, 69, 11, 42), (69, .sipush 5461, 72, 0, 0), (72, .iload_n 3, 73, 0, 0), (73, .imul, 74, 0, 0), (74, .iload 4, 76, 0, 0), (76, .iadd, 77, 0, 0), (77, .iaload, 78, 0, 0), (78, .ireturn, 79, 0, 0)]
def kX12_fits : zM := (⟨"ReadAloudModel", "fits", "(IIII)I"⟩, prog_14_method_101_code, 5, (some .int), 11, qX12_fits)
def qX12_sure : List zE := [(0, .aload_n 0, 1, 0, 0), (1, .iconst 0, 2, 0, 0), (2, .putfield 107, 5, 11, 0), (5, .iload_n 3, 6, 0, 0), (6, .iconst 0, 7, 0, 0), (7, .bipush 9, 9, 0, 0), (9, .invokestatic 114, 12, 103, 3), (12, .ifCond .eq 31, 15, 43, 0), (15, .iload 4, 17, 0, 0), (17, .iconst (-1), 18, 0, 0), (18, .iload_n 3, 19, 0, 0), (19, .iconst 1, 20, 0, 0), (20, .isub, 21, 0, 0), (21, .invokestatic 114, 24, 103, 3), (24, .ifCond .eq 19, 27, 43, 0), (27, .aload_n 0, 28, 0, 0), (28, .iload_n 2, 29, 0, 0), (29, .invokevirtual 429, 32, 124, 1), (32, .ifCond .eq 11, 35, 43, 0), (35, .aload_n 0, 36, 0, 0), (36, .iload_n 1, 37, 0, 0), (37, .invokevirtual 369, 40, 125, 1), (40, .ifCond .ne 5, 43, 45, 0), (43, .iconst (-1), 44, 0, 0), (44, .ireturn, 45, 0, 0), (45, .aload_n 0, 46, 0, 0), (46, .iload_n 3, 47, 0, 0), (50, .aload_n 0, 51, 0, 0), (54, .ifCond .ne 5, 57, 59, 0), (57, .iconst (-1), 58, 0, 0), (58, .ireturn, 59, 0, 0), (59, .iload 4, 61, 0, 0), (61, .iconst (-1), 62, 0, 0), (62, .if_icmp .ne 9, 65, 71, 0), (65, .aload_n 0, 66, 0, 0), (66, .iload_n 3, 67, 0, 0), (70, .ireturn, 71, 0, 0), (71, .iconst 0, 72, 0, 0), (72, .istore 5, 74, 0, 0), (74, .iload 5, 76, 0, 0), (76, .aload_n 0, 77, 0, 0), (77, .getfield 268, 80, 11, 23), (80, .if_icmp .ge 27, 83, 107, 0), (83, .aload_n 0, 84, 0, 0), (84, .iload 4, 86, 0, 0), (86, .iload 5, 88, 0, 0), (91, .aload_n 0, 92, 0, 0), (95, .if_icmp .ne 6, 98, 101, 0), (98, .iload 5, 100, 0, 0), (100, .ireturn, 101, 0, 0), (101, .iinc 5 1, 104, 0, 0), (104, .goto (-30), 107, 74, 0), (107, .iconst (-1), 108, 0, 0), (108, .ireturn, 109, 0, 0)]
def kX12_sure : zM := (⟨"ReadAloudModel", "sure", "(IIII)I"⟩, prog_14_method_104_code, 6, (some .int), 11, qX12_sure)
def qX12_drawn : List zE := [(0, .aload_n 0, 1, 0, 0), (1, .iconst 0, 2, 0, 0), (2, .putfield 107, 5, 11, 0), (5, .iload_n 3, 6, 0, 0), (6, .iconst 0, 7, 0, 0), (7, .bipush 60, 9, 0, 0), (9, .invokestatic 114, 12, 103, 3), (12, .ifCond .eq 11, 15, 23, 0), (15, .aload_n 0, 16, 0, 0), (16, .iload_n 1, 17, 0, 0), (17, .invokevirtual 299, 20, 115, 1), (20, .ifCond .ne 6, 23, 26, 0), (23, .bipush (-2), 25, 0, 0), (25, .ireturn, 26, 0, 0), (26, .aload_n 0, 27, 0, 0), (27, .iload_n 2, 28, 0, 0), (28, .putfield 453, 31, 11, 44), (31, .aload_n 0, 32, 0, 0), (35, .iconst 0, 36, 0, 0), (36, .istore 5, 38, 0, 0), (38, .iload 5, 40, 0, 0), (40, .iload_n 3, 41, 0, 0), (41, .if_icmp .ge 13, 44, 54, 0), (44, .aload_n 0, 45, 0, 0), (48, .iinc 5 1, 51, 0, 0), (51, .goto (-13), 54, 38, 0), (54, .aload_n 0, 55, 0, 0), (55, .iload 4, 57, 0, 0), (60, .ireturn, 61, 0, 0)]
def kX12_drawn : zM := (⟨"ReadAloudModel", "drawn", "(IIII)I"⟩, prog_14_method_107_code, 6, (some .int), 11, qX12_drawn)
def qX12_kinship : List zE := [(0, .aload_n 0, 1, 0, 0), (1, .iconst 0, 2, 0, 0), (2, .putfield 107, 5, 11, 0), (5, .aload_n 0, 6, 0, 0), (6, .iload_n 1, 7, 0, 0), (7, .invokevirtual 299, 10, 115, 1), (10, .ifCond .eq 12, 13, 22, 0), (13, .iload_n 2, 14, 0, 0), (14, .iconst 0, 15, 0, 0), (15, .iconst 3, 16, 0, 0), (16, .invokestatic 114, 19, 103, 3), (19, .ifCond .ne 5, 22, 24, 0), (22, .iconst (-1), 23, 0, 0), (23, .ireturn, 24, 0, 0), (24, .iconst 0, 25, 0, 0), (25, .istore 4, 27, 0, 0), (27, .iload_n 2, 28, 0, 0), (28, .istore 5, 30, 0, 0), (30, .aload_n 0, 31, 0, 0), (31, .iload 5, 33, 0, 0), (36, .ifCond .ne 19, 39, 55, 0), (39, .aload_n 0, 40, 0, 0), (40, .iconst 2, 41, 0, 0), (41, .iload 5, 43, 0, 0), (43, .iadd, 44, 0, 0), (47, .istore 5, 49, 0, 0), (49, .iinc 4 1, 52, 0, 0), (52, .goto (-22), 55, 30, 0), (55, .iload_n 3, 56, 0, 0), (56, .ifCond .eq 12, 59, 68, 0), (59, .aload_n 0, 60, 0, 0), (60, .iload 5, 62, 0, 0), (65, .goto 5, 68, 70, 0), (68, .iload 4, 70, 0, 0), (70, .ireturn, 71, 0, 0)]
def kX12_kinship : zM := (⟨"ReadAloudModel", "kinship", "(IIZ)I"⟩, prog_14_method_108_code, 6, (some .int), 11, qX12_kinship)
def qX12_shared : List zE := [(0, .aload_n 0, 1, 0, 0), (1, .iconst 0, 2, 0, 0), (2, .putfield 107, 5, 11, 0), (5, .iload_n 1, 6, 0, 0), (6, .invokestatic 302, 9, 116, 1), (9, .ifCond .eq 10, 12, 19, 0), (12, .iload_n 2, 13, 0, 0), (13, .invokestatic 302, 16, 116, 1), (16, .ifCond .ne 5, 19, 21, 0), (19, .iconst (-1), 20, 0, 0), (20, .ireturn, 21, 0, 0), (21, .iconst 0, 22, 0, 0), (22, .istore 4, 24, 0, 0), (24, .iconst 0, 25, 0, 0), (25, .istore 5, 27, 0, 0), (27, .iload 5, 29, 0, 0), (29, .iconst 1, 30, 0, 0), (30, .iload_n 1, 31, 0, 0), (31, .invokestatic 271, 34, 117, 1), (34, .ishl, 35, 0, 0), (35, .if_icmp .ge 82, 38, 117, 0), (38, .aload_n 0, 39, 0, 0), (39, .iload_n 1, 40, 0, 0), (40, .iload 5, 42, 0, 0), (42, .invokevirtual 466, 45, 126, 2), (45, .istore 6, 47, 0, 0), (47, .iload 6, 49, 0, 0), (49, .invokestatic 271, 52, 117, 1), (52, .iload 4, 54, 0, 0), (54, .invokestatic 271, 57, 117, 1), (57, .if_icmp .gt 23, 60, 80, 0), (60, .iload 6, 62, 0, 0), (62, .invokestatic 271, 65, 117, 1), (65, .iload 4, 67, 0, 0), (67, .invokestatic 271, 70, 117, 1), (70, .if_icmp .ne 14, 73, 84, 0), (73, .iload 6, 75, 0, 0), (75, .iload 4, 77, 0, 0), (77, .if_icmp .ge 7, 80, 84, 0), (80, .iconst 1, 81, 0, 0), (81, .goto 4, 84, 85, 0), (84, .iconst 0, 85, 0, 0), (85, .istore 7, 87, 0, 0), (87, .iload 7, 89, 0, 0), (89, .ifCond .eq 18, 92, 107, 0), (92, .aload_n 0, 93, 0, 0), (93, .iload_n 2, 94, 0, 0), (94, .iload 6, 96, 0, 0), (96, .invokevirtual 469, 99, 127, 2), (99, .ifCond .eq 8, 102, 107, 0), (102, .iload 6, 104, 0, 0), (104, .goto 5, 107, 109, 0), (107, .iload 4, 109, 0, 0), (109, .istore 4, 111, 0, 0), (111, .iinc 5 1, 114, 0, 0), (114, .goto (-87), 117, 27, 0), (117, .iload_n 3, 118, 0, 0), (118, .ifCond .eq 8, 121, 126, 0), (121, .iload 4, 123, 0, 0), (123, .goto 8, 126, 131, 0), (126, .iload 4, 128, 0, 0), (128, .invokestatic 271, 131, 117, 1), (131, .ireturn, 132, 0, 0)]
def kX12_shared : zM := (⟨"ReadAloudModel", "shared", "(IIZ)I"⟩, prog_14_method_112_code, 8, (some .int), 11, qX12_shared)
def qX12_joined : List zE := [(0, .aload_n 0, 1, 0, 0), (1, .iconst 0, 2, 0, 0), (2, .putfield 107, 5, 11, 0), (5, .iload_n 2, 6, 0, 0), (6, .invokestatic 302, 9, 116, 1), (9, .ifCond .eq 18, 12, 27, 0), (12, .iload_n 3, 13, 0, 0), (13, .invokestatic 302, 16, 116, 1), (16, .ifCond .eq 11, 19, 27, 0), (19, .aload_n 0, 20, 0, 0), (20, .iload_n 1, 21, 0, 0), (21, .invokevirtual 369, 24, 125, 1), (24, .ifCond .ne 5, 27, 29, 0), (27, .iconst (-1), 28, 0, 0), (28, .ireturn, 29, 0, 0), (29, .aload_n 0, 30, 0, 0), (30, .iload_n 2, 31, 0, 0), (31, .iconst 0, 32, 0, 0), (32, .aload_n 0, 33, 0, 0), (33, .getfield 63, 36, 11, 35), (39, .aload_n 0, 40, 0, 0), (40, .iload_n 3, 41, 0, 0), (41, .iconst 0, 42, 0, 0), (42, .aload_n 0, 43, 0, 0), (43, .getfield 66, 46, 11, 36), (49, .iconst (-1), 50, 0, 0), (50, .istore 5, 52, 0, 0), (55, .istore 6, 57, 0, 0), (57, .iconst 0, 58, 0, 0), (58, .istore 7, 60, 0, 0), (60, .iload 7, 62, 0, 0), (62, .sipush 5461, 65, 0, 0), (65, .if_icmp .ge 51, 68, 116, 0), (68, .aload_n 0, 69, 0, 0), (69, .getfield 63, 72, 11, 35), (72, .iload 7, 74, 0, 0), (74, .iaload, 75, 0, 0), (75, .aload_n 0, 76, 0, 0), (76, .getfield 66, 79, 11, 36), (79, .iload 7, 81, 0, 0), (81, .iaload, 82, 0, 0), (82, .iadd, 83, 0, 0), (83, .istore 8, 85, 0, 0), (85, .iload 8, 87, 0, 0), (87, .iload 6, 89, 0, 0), (89, .if_icmp .ge 8, 92, 97, 0), (92, .iload 7, 94, 0, 0), (94, .goto 5, 97, 99, 0), (97, .iload 5, 99, 0, 0), (99, .istore 5, 101, 0, 0), (101, .iload 6, 103, 0, 0), (103, .iload 8, 105, 0, 0), (105, .invokestatic 204, 108, 105, 2), (108, .istore 6, 110, 0, 0), (110, .iinc 7 1, 113, 0, 0), (113, .goto (-53), 116, 60, 0), (116, .iload 5, 118, 0, 0), (118, .iconst (-1), 119, 0, 0), (119, .if_icmp .eq 8, 122, 127, 0), (122, .iload 4, 124, 0, 0), (124, .ifCond .eq 8, 127, 132, 0), (127, .iload 5, 129, 0, 0), (129, .goto 5, 132, 134, 0), (132, .iload 6, 134, 0, 0), (134, .ireturn, 135, 0, 0)]
def kX12_joined : zM := (⟨"ReadAloudModel", "joined", "(IIIZ)I"⟩, prog_14_method_113_code, 9, (some .int), 11, qX12_joined)
def qX12_nearest : List zE := [(0, .aload_n 0, 1, 0, 0), (1, .iconst 0, 2, 0, 0), (2, .putfield 107, 5, 11, 0), (5, .iload_n 2, 6, 0, 0), (6, .invokestatic 302, 9, 116, 1), (9, .ifCond .eq 18, 12, 27, 0), (12, .iload_n 3, 13, 0, 0), (13, .invokestatic 302, 16, 116, 1), (16, .ifCond .eq 11, 19, 27, 0), (19, .aload_n 0, 20, 0, 0), (20, .iload_n 1, 21, 0, 0), (21, .invokevirtual 369, 24, 125, 1), (24, .ifCond .ne 5, 27, 29, 0), (27, .iconst (-1), 28, 0, 0), (28, .ireturn, 29, 0, 0), (29, .aload_n 0, 30, 0, 0), (30, .iload_n 2, 31, 0, 0), (31, .iconst 0, 32, 0, 0), (32, .aload_n 0, 33, 0, 0), (33, .getfield 63, 36, 11, 35), (39, .iconst (-1), 40, 0, 0), (40, .istore 5, 42, 0, 0), (45, .istore 6, 47, 0, 0), (47, .iconst 0, 48, 0, 0), (48, .istore 7, 50, 0, 0), (50, .iload 7, 52, 0, 0), (52, .sipush 5461, 55, 0, 0), (55, .if_icmp .ge 62, 58, 117, 0), (58, .aload_n 0, 59, 0, 0), (59, .getfield 63, 62, 11, 35), (62, .iload 7, 64, 0, 0), (64, .iaload, 65, 0, 0), (68, .if_icmp .ge 13, 71, 81, 0), (71, .aload_n 0, 72, 0, 0), (72, .iload 7, 74, 0, 0), (74, .iload_n 3, 75, 0, 0), (75, .invokevirtual 305, 78, 121, 2), (78, .goto 6, 81, 84, 0), (84, .istore 8, 86, 0, 0), (86, .iload 8, 88, 0, 0), (88, .iload 6, 90, 0, 0), (90, .if_icmp .ge 8, 93, 98, 0), (93, .iload 7, 95, 0, 0), (95, .goto 5, 98, 100, 0), (98, .iload 5, 100, 0, 0), (100, .istore 5, 102, 0, 0), (102, .iload 6, 104, 0, 0), (104, .iload 8, 106, 0, 0), (106, .invokestatic 204, 109, 105, 2), (109, .istore 6, 111, 0, 0), (111, .iinc 7 1, 114, 0, 0), (114, .goto (-64), 117, 50, 0), (117, .iload 4, 119, 0, 0), (119, .ifCond .eq 8, 122, 127, 0), (122, .iload 5, 124, 0, 0), (124, .goto 5, 127, 129, 0), (127, .iload 6, 129, 0, 0), (129, .ireturn, 130, 0, 0)]
def kX12_nearest : zM := (⟨"ReadAloudModel", "nearest", "(IIIZ)I"⟩, prog_14_method_114_code, 9, (some .int), 11, qX12_nearest)
def qX12_settles : List zE := [(0, .aload_n 0, 1, 0, 0), (1, .iconst 0, 2, 0, 0), (2, .putfield 107, 5, 11, 0), (5, .iload_n 2, 6, 0, 0), (6, .invokestatic 302, 9, 116, 1), (9, .ifCond .eq 11, 12, 20, 0), (12, .aload_n 0, 13, 0, 0), (13, .iload_n 1, 14, 0, 0), (14, .invokevirtual 369, 17, 125, 1), (17, .ifCond .ne 5, 20, 22, 0), (20, .iconst (-1), 21, 0, 0), (21, .ireturn, 22, 0, 0), (22, .aload_n 0, 23, 0, 0), (23, .iload_n 2, 24, 0, 0), (24, .iconst 0, 25, 0, 0), (25, .aload_n 0, 26, 0, 0), (26, .getfield 63, 29, 11, 35), (32, .iconst (-1), 33, 0, 0), (33, .istore 4, 35, 0, 0), (38, .istore 5, 40, 0, 0), (40, .iconst 0, 41, 0, 0), (41, .istore 6, 43, 0, 0), (43, .iload 6, 45, 0, 0), (45, .sipush 5461, 48, 0, 0), (48, .if_icmp .ge 74, 51, 122, 0), (51, .aload_n 0, 52, 0, 0), (52, .getfield 63, 55, 11, 35), (55, .iload 6, 57, 0, 0), (57, .iaload, 58, 0, 0), (58, .iload 5, 60, 0, 0), (60, .if_icmp .ge 20, 63, 80, 0), (63, .aload_n 0, 64, 0, 0), (64, .iload 6, 66, 0, 0), (66, .aload_n 0, 67, 0, 0), (73, .ifCond .eq 7, 76, 80, 0), (76, .iconst 1, 77, 0, 0), (77, .goto 4, 80, 81, 0), (80, .iconst 0, 81, 0, 0), (81, .istore 7, 83, 0, 0), (83, .iload 7, 85, 0, 0), (85, .ifCond .eq 8, 88, 93, 0), (88, .iload 6, 90, 0, 0), (90, .goto 5, 93, 95, 0), (93, .iload 4, 95, 0, 0), (95, .istore 4, 97, 0, 0), (97, .iload 7, 99, 0, 0), (99, .ifCond .eq 13, 102, 112, 0), (102, .aload_n 0, 103, 0, 0), (103, .getfield 63, 106, 11, 35), (106, .iload 6, 108, 0, 0), (108, .iaload, 109, 0, 0), (109, .goto 5, 112, 114, 0), (112, .iload 5, 114, 0, 0), (114, .istore 5, 116, 0, 0), (116, .iinc 6 1, 119, 0, 0), (119, .goto (-76), 122, 43, 0), (122, .iload 4, 124, 0, 0), (124, .iconst (-1), 125, 0, 0), (125, .if_icmp .eq 7, 128, 132, 0), (128, .iload_n 3, 129, 0, 0), (129, .ifCond .eq 8, 132, 137, 0), (132, .iload 4, 134, 0, 0), (134, .goto 5, 137, 139, 0), (137, .iload 5, 139, 0, 0), (139, .ireturn, 140, 0, 0)]
def kX12_settles : zM := (⟨"ReadAloudModel", "settles", "(IIZ)I"⟩, prog_14_method_115_code, 8, (some .int), 11, qX12_settles)
def qX12_unmade : List zE := [(0, .aload_n 0, 1, 0, 0), (1, .iconst 0, 2, 0, 0), (2, .putfield 107, 5, 11, 0), (5, .aload_n 0, 6, 0, 0), (6, .iload_n 1, 7, 0, 0), (7, .invokevirtual 369, 10, 125, 1), (10, .ifCond .ne 6, 13, 16, 0), (13, .bipush (-2), 15, 0, 0), (15, .ireturn, 16, 0, 0), (16, .iconst 0, 17, 0, 0), (17, .istore_n 3, 18, 0, 0), (18, .iload_n 3, 19, 0, 0), (19, .sipush 5461, 22, 0, 0), (22, .if_icmp .ge 16, 25, 38, 0), (25, .aload_n 0, 26, 0, 0), (26, .getfield 72, 29, 11, 39), (29, .iload_n 3, 30, 0, 0), (30, .iconst 0, 31, 0, 0), (31, .iastore, 32, 0, 0), (32, .iinc 3 1, 35, 0, 0), (35, .goto (-17), 38, 18, 0), (38, .iconst 0, 39, 0, 0), (39, .istore_n 3, 40, 0, 0), (40, .iload_n 3, 41, 0, 0), (41, .sipush 5461, 44, 0, 0), (44, .aload_n 0, 45, 0, 0), (45, .getfield 268, 48, 11, 23), (48, .imul, 49, 0, 0), (49, .if_icmp .ge 24, 52, 73, 0), (52, .aload_n 0, 53, 0, 0), (53, .getfield 72, 56, 11, 39), (56, .aload_n 0, 57, 0, 0), (57, .getfield 60, 60, 11, 34), (60, .iload_n 3, 61, 0, 0), (61, .iaload, 62, 0, 0), (62, .dup2, 63, 0, 0), (63, .iaload, 64, 0, 0), (64, .iconst 1, 65, 0, 0), (65, .iadd, 66, 0, 0), (66, .iastore, 67, 0, 0), (67, .iinc 3 1, 70, 0, 0), (70, .goto (-30), 73, 40, 0), (73, .iconst 0, 74, 0, 0), (74, .istore_n 3, 75, 0, 0), (75, .iconst (-1), 76, 0, 0), (76, .istore 4, 78, 0, 0), (78, .iconst 0, 79, 0, 0), (79, .istore 5, 81, 0, 0), (81, .iload 5, 83, 0, 0), (83, .sipush 5461, 86, 0, 0), (86, .if_icmp .ge 52, 89, 138, 0), (89, .iload_n 3, 90, 0, 0), (90, .aload_n 0, 91, 0, 0), (91, .getfield 72, 94, 11, 39), (94, .iload 5, 96, 0, 0), (96, .iaload, 97, 0, 0), (97, .ifCond .ne 7, 100, 104, 0), (100, .iconst 1, 101, 0, 0), (101, .goto 4, 104, 105, 0), (104, .iconst 0, 105, 0, 0), (105, .iadd, 106, 0, 0), (106, .istore_n 3, 107, 0, 0), (107, .aload_n 0, 108, 0, 0), (108, .getfield 72, 111, 11, 39), (111, .iload 5, 113, 0, 0), (113, .iaload, 114, 0, 0), (114, .ifCond .ne 14, 117, 128, 0), (117, .iload 4, 119, 0, 0), (119, .iconst (-1), 120, 0, 0), (120, .if_icmp .ne 8, 123, 128, 0), (123, .iload 5, 125, 0, 0), (125, .goto 5, 128, 130, 0), (128, .iload 4, 130, 0, 0), (130, .istore 4, 132, 0, 0), (132, .iinc 5 1, 135, 0, 0), (135, .goto (-54), 138, 81, 0), (138, .iload_n 2, 139, 0, 0), (139, .ifCond .eq 8, 142, 147, 0), (142, .iload 4, 144, 0, 0), (144, .goto 4, 147, 148, 0), (147, .iload_n 3, 148, 0, 0), (148, .ireturn, 149, 0, 0)]
def kX12_unmade : zM := (⟨"ReadAloudModel", "unmade", "(IZ)I"⟩, prog_14_method_116_code, 6, (some .int), 11, qX12_unmade)
def qX12_silenced : List zE := [(0, .aload_n 0, 1, 0, 0), (1, .iconst 0, 2, 0, 0), (2, .putfield 107, 5, 11, 0), (5, .iload_n 2, 6, 0, 0), (6, .invokestatic 302, 9, 116, 1), (9, .ifCond .eq 23, 12, 32, 0), (12, .iload_n 3, 13, 0, 0), (13, .invokestatic 302, 16, 116, 1), (16, .ifCond .eq 16, 19, 32, 0), (19, .iload_n 2, 20, 0, 0), (20, .iload_n 3, 21, 0, 0), (21, .if_icmp .eq 11, 24, 32, 0), (24, .aload_n 0, 25, 0, 0), (25, .iload_n 1, 26, 0, 0), (26, .invokevirtual 369, 29, 125, 1), (29, .ifCond .ne 5, 32, 34, 0), (32, .iconst (-1), 33, 0, 0), (33, .ireturn, 34, 0, 0), (34, .iconst (-1), 35, 0, 0), (35, .istore 4, 37, 0, 0), (40, .istore 5, 42, 0, 0), (42, .iconst 0, 43, 0, 0), (43, .istore 6, 45, 0, 0), (45, .iload 6, 47, 0, 0), (47, .aload_n 0, 48, 0, 0), (51, .if_icmp .gt 115, 54, 166, 0), (54, .iconst 0, 55, 0, 0), (55, .istore 7, 57, 0, 0), (57, .iconst 0, 58, 0, 0), (58, .istore 8, 60, 0, 0), (60, .iload 8, 62, 0, 0), (62, .aload_n 0, 63, 0, 0), (63, .getfield 268, 66, 11, 23), (66, .if_icmp .ge 29, 69, 95, 0), (69, .iload 7, 71, 0, 0), (71, .iload 6, 73, 0, 0), (73, .iload 8, 75, 0, 0), (75, .invokestatic 335, 78, 104, 2), (78, .ifCond .eq 7, 81, 85, 0), (81, .iconst 1, 82, 0, 0), (82, .goto 4, 85, 86, 0), (85, .iconst 0, 86, 0, 0), (86, .iadd, 87, 0, 0), (87, .istore 7, 89, 0, 0), (89, .iinc 8 1, 92, 0, 0), (92, .goto (-32), 95, 60, 0), (95, .iload 7, 97, 0, 0), (97, .iload 5, 99, 0, 0), (99, .if_icmp .ge 61, 102, 160, 0), (102, .aload_n 0, 103, 0, 0), (103, .iload_n 2, 104, 0, 0), (104, .iload 6, 106, 0, 0), (106, .aload_n 0, 107, 0, 0), (107, .getfield 63, 110, 11, 35), (113, .aload_n 0, 114, 0, 0), (114, .getfield 63, 117, 11, 35), (117, .iload_n 3, 118, 0, 0), (118, .iaload, 119, 0, 0), (122, .if_icmp .ne 7, 125, 129, 0), (125, .iconst 1, 126, 0, 0), (126, .goto 4, 129, 130, 0), (129, .iconst 0, 130, 0, 0), (130, .istore 8, 132, 0, 0), (132, .iload 8, 134, 0, 0), (134, .ifCond .eq 8, 137, 142, 0), (137, .iload 6, 139, 0, 0), (139, .goto 5, 142, 144, 0), (142, .iload 4, 144, 0, 0), (144, .istore 4, 146, 0, 0), (146, .iload 8, 148, 0, 0), (148, .ifCond .eq 8, 151, 156, 0), (151, .iload 7, 153, 0, 0), (153, .goto 5, 156, 158, 0), (156, .iload 5, 158, 0, 0), (158, .istore 5, 160, 0, 0), (160, .iinc 6 1, 163, 0, 0), (163, .goto (-118), 166, 45, 0), (166, .iload 4, 168, 0, 0), (168, .ireturn, 169, 0, 0)]
def kX12_silenced : zM := (⟨"ReadAloudModel", "silenced", "(III)I"⟩, prog_14_method_117_code, 9, (some .int), 11, qX12_silenced)
def qX12_circles : List zE := [(0, .aload_n 0, 1, 0, 0), (1, .iconst 0, 2, 0, 0), (2, .putfield 107, 5, 11, 0), (5, .iload_n 2, 6, 0, 0), (6, .bipush (-2), 8, 0, 0), (8, .sipush 5460, 11, 0, 0), (11, .invokestatic 114, 14, 103, 3), (14, .ifCond .eq 11, 17, 25, 0), (17, .aload_n 0, 18, 0, 0), (18, .iload_n 1, 19, 0, 0), (19, .invokevirtual 369, 22, 125, 1), (22, .ifCond .ne 5, 25, 27, 0), (25, .iconst (-1), 26, 0, 0), (26, .ireturn, 27, 0, 0), (27, .aload_n 0, 28, 0, 0), (31, .istore_n 3, 32, 0, 0), (32, .iload_n 2, 33, 0, 0), (33, .iconst (-1), 34, 0, 0), (34, .if_icmp .ne 5, 37, 39, 0), (37, .iload_n 3, 38, 0, 0), (38, .ireturn, 39, 0, 0), (39, .iconst 0, 40, 0, 0), (40, .istore 4, 42, 0, 0), (42, .iconst 0, 43, 0, 0), (43, .istore 5, 45, 0, 0), (45, .iload 5, 47, 0, 0), (47, .iload_n 3, 48, 0, 0), (48, .if_icmp .ge 23, 51, 71, 0), (51, .iload 4, 53, 0, 0), (53, .aload_n 0, 54, 0, 0), (54, .getfield 94, 57, 11, 48), (57, .iload 5, 59, 0, 0), (59, .iaload, 60, 0, 0), (63, .istore 4, 65, 0, 0), (65, .iinc 5 1, 68, 0, 0), (68, .goto (-23), 71, 45, 0), (71, .iload_n 2, 72, 0, 0), (72, .bipush (-2), 74, 0, 0), (74, .if_icmp .ne 8, 77, 82, 0), (77, .iload 4, 79, 0, 0), (79, .goto 14, 82, 93, 0), (82, .aload_n 0, 83, 0, 0), (83, .getfield 94, 86, 11, 48), (86, .aload_n 0, 87, 0, 0), (87, .getfield 91, 90, 11, 47), (90, .iload_n 2, 91, 0, 0), (91, .iaload, 92, 0, 0), (92, .iaload, 93, 0, 0), (93, .ireturn, 94, 0, 0)]
def kX12_circles : zM := (⟨"ReadAloudModel", "circles", "(II)I"⟩, prog_14_method_122_code, 6, (some .int), 11, qX12_circles)
def qX12_count : List zE := [(0, .aload_n 0, 1, 0, 0), (1, .iconst 0, 2, 0, 0), (2, .putfield 107, 5, 11, 0), (5, .iload_n 1, 6, 0, 0), (6, .iconst 0, 7, 0, 0), (7, .iconst 2, 8, 0, 0), (8, .invokestatic 114, 11, 103, 3), (11, .ifCond .eq 12, 14, 23, 0), (14, .aload_n 0, 15, 0, 0), (15, .getfield 23, 18, 11, 5), (18, .iload_n 1, 19, 0, 0), (19, .iaload, 20, 0, 0), (20, .goto 5, 23, 25, 0), (23, .bipush (-2), 25, 0, 0), (25, .ireturn, 26, 0, 0)]
def kX12_count : zM := (⟨"ReadAloudModel", "count", "(I)I"⟩, prog_14_method_123_code, 2, (some .int), 11, qX12_count)
def qX12_image : List zE := [(0, .aload_n 0, 1, 0, 0), (1, .iconst 0, 2, 0, 0), (2, .putfield 107, 5, 11, 0), (5, .iload_n 1, 6, 0, 0), (6, .iconst 0, 7, 0, 0), (7, .iconst 2, 8, 0, 0), (8, .invokestatic 114, 11, 103, 3), (11, .ifCond .ne 5, 14, 16, 0), (14, .iconst 0, 15, 0, 0), (15, .ireturn, 16, 0, 0), (16, .aload_n 0, 17, 0, 0), (17, .iconst 0, 18, 0, 0), (18, .iload_n 1, 19, 0, 0), (19, .iconst 1, 20, 0, 0), (20, .iadd, 21, 0, 0), (21, .invokevirtual 484, 24, 107, 2), (24, .aload_n 0, 25, 0, 0), (25, .getfield 103, 28, 11, 51), (28, .iload_n 1, 29, 0, 0), (29, .iconst 1, 30, 0, 0), (30, .bastore, 31, 0, 0), (31, .iconst 1, 32, 0, 0), (32, .ireturn, 33, 0, 0)]
def kX12_image : zM := (⟨"ReadAloudModel", "image", "(I)Z"⟩, prog_14_method_124_code, 2, (some .boolean), 11, qX12_image)
def qX12_again : List zE := [(0, .aload_n 0, 1, 0, 0), (1, .iconst 0, 2, 0, 0), (2, .putfield 107, 5, 11, 0), (5, .iload_n 1, 6, 0, 0), (6, .iconst 0, 7, 0, 0), (7, .iconst 2, 8, 0, 0), (8, .invokestatic 114, 11, 103, 3), (11, .ifCond .eq 12, 14, 23, 0), (14, .aload_n 0, 15, 0, 0), (15, .getfield 103, 18, 11, 51), (18, .iload_n 1, 19, 0, 0), (19, .baload, 20, 0, 0), (20, .ifCond .ne 5, 23, 25, 0), (23, .iconst 0, 24, 0, 0), (24, .ireturn, 25, 0, 0), (25, .aload_n 0, 26, 0, 0), (26, .iload_n 1, 27, 0, 0), (27, .iconst 1, 28, 0, 0), (28, .iadd, 29, 0, 0), (29, .iconst 0, 30, 0, 0), (30, .invokevirtual 484, 33, 107, 2), (33, .aload_n 0, 34, 0, 0), (34, .iconst (-1), 35, 0, 0), (35, .putfield 41, 38, 11, 21), (38, .iconst 1, 39, 0, 0), (39, .ireturn, 40, 0, 0)]
def kX12_again : zM := (⟨"ReadAloudModel", "again", "(I)Z"⟩, prog_14_method_125_code, 2, (some .boolean), 11, qX12_again)
def qX12_in : List zE := [(0, .iload_n 0, 1, 0, 0), (1, .iload_n 1, 2, 0, 0), (2, .if_icmp .lt 12, 5, 14, 0), (5, .iload_n 0, 6, 0, 0), (6, .iload_n 2, 7, 0, 0), (7, .if_icmp .gt 7, 10, 14, 0), (10, .iconst 1, 11, 0, 0), (11, .goto 4, 14, 15, 0), (14, .iconst 0, 15, 0, 0), (15, .ireturn, 16, 0, 0)]
def kX12_in : zM := (⟨"ReadAloudModel", "in", "(III)Z"⟩, prog_14_method_3_code, 3, (some .boolean), 11, qX12_in)
def qX12_has : List zE := [(0, .iload_n 0, 1, 0, 0), (1, .iload_n 1, 2, 0, 0), (2, .ishr, 3, 0, 0), (3, .iconst 1, 4, 0, 0), (4, .iand, 5, 0, 0), (5, .iconst 1, 6, 0, 0), (6, .if_icmp .ne 7, 9, 13, 0), (9, .iconst 1, 10, 0, 0), (10, .goto 4, 13, 14, 0), (13, .iconst 0, 14, 0, 0), (14, .ireturn, 15, 0, 0)]
def kX12_has : zM := (⟨"ReadAloudModel", "has", "(II)Z"⟩, prog_14_method_4_code, 2, (some .boolean), 11, qX12_has)
def qX12_lesser : List zE := [(0, .iload_n 0, 1, 0, 0), (1, .iload_n 1, 2, 0, 0), (2, .if_icmp .ge 7, 5, 9, 0), (5, .iload_n 0, 6, 0, 0), (6, .goto 4, 9, 10, 0), (9, .iload_n 1, 10, 0, 0), (10, .ireturn, 11, 0, 0)]
def kX12_lesser : zM := (⟨"ReadAloudModel", "lesser", "(II)I"⟩, prog_14_method_6_code, 2, (some .int), 11, qX12_lesser)
def qX12_copyRow : List zE := [(0, .iconst 0, 1, 0, 0), (1, .istore 4, 3, 0, 0), (3, .iload 4, 5, 0, 0), (5, .iload_n 1, 6, 0, 0), (6, .if_icmp .ge 25, 9, 31, 0), (9, .aload_n 0, 10, 0, 0), (10, .iload_n 1, 11, 0, 0), (11, .iload_n 3, 12, 0, 0), (12, .imul, 13, 0, 0), (13, .iload 4, 15, 0, 0), (15, .iadd, 16, 0, 0), (16, .aload_n 0, 17, 0, 0), (17, .iload_n 1, 18, 0, 0), (18, .iload_n 2, 19, 0, 0), (19, .imul, 20, 0, 0), (20, .iload 4, 22, 0, 0), (22, .iadd, 23, 0, 0), (23, .iaload, 24, 0, 0), (24, .iastore, 25, 0, 0), (25, .iinc 4 1, 28, 0, 0), (28, .goto (-25), 31, 3, 0), (31, .return_, 32, 0, 0)]
def kX12_copyRow : zM := (⟨"ReadAloudModel", "copyRow", "([IIII)V"⟩, prog_14_method_7_code, 5, none, 11, qX12_copyRow)
def qX12_copyAll : List zE := [(0, .iconst 0, 1, 0, 0), (1, .istore_n 3, 2, 0, 0), (2, .iload_n 3, 3, 0, 0), (3, .sipush 600, 6, 0, 0), (6, .if_icmp .ge 33, 9, 39, 0), (9, .aload_n 0, 10, 0, 0), (10, .getfield 7, 13, 11, 1), (13, .sipush 600, 16, 0, 0), (16, .iload_n 2, 17, 0, 0), (17, .imul, 18, 0, 0), (18, .iload_n 3, 19, 0, 0), (19, .iadd, 20, 0, 0), (20, .aload_n 0, 21, 0, 0), (21, .getfield 7, 24, 11, 1), (24, .sipush 600, 27, 0, 0), (27, .iload_n 1, 28, 0, 0), (28, .imul, 29, 0, 0), (29, .iload_n 3, 30, 0, 0), (30, .iadd, 31, 0, 0), (31, .baload, 32, 0, 0), (32, .bastore, 33, 0, 0), (33, .iinc 3 1, 36, 0, 0), (36, .goto (-34), 39, 2, 0), (39, .aload_n 0, 40, 0, 0), (40, .getfield 13, 43, 11, 2), (43, .iconst 1, 44, 0, 0), (44, .iload_n 1, 45, 0, 0), (45, .iload_n 2, 46, 0, 0), (46, .invokestatic 110, 49, 106, 4), (49, .aload_n 0, 50, 0, 0), (50, .getfield 17, 53, 11, 3), (53, .iconst 1, 54, 0, 0), (54, .iload_n 1, 55, 0, 0), (55, .iload_n 2, 56, 0, 0), (56, .invokestatic 110, 59, 106, 4), (59, .aload_n 0, 60, 0, 0), (60, .getfield 20, 63, 11, 4), (63, .iconst 1, 64, 0, 0), (64, .iload_n 1, 65, 0, 0), (65, .iload_n 2, 66, 0, 0), (66, .invokestatic 110, 69, 106, 4), (69, .aload_n 0, 70, 0, 0), (70, .getfield 23, 73, 11, 5), (73, .iconst 3, 74, 0, 0), (74, .iload_n 1, 75, 0, 0), (75, .iload_n 2, 76, 0, 0), (76, .invokestatic 110, 79, 106, 4), (79, .aload_n 0, 80, 0, 0), (80, .getfield 26, 83, 11, 6), (83, .bipush 102, 85, 0, 0), (85, .iload_n 1, 86, 0, 0), (86, .iload_n 2, 87, 0, 0), (87, .invokestatic 110, 90, 106, 4), (90, .aload_n 0, 91, 0, 0), (91, .getfield 29, 94, 11, 7), (94, .sipush 242, 97, 0, 0), (97, .iload_n 1, 98, 0, 0), (98, .iload_n 2, 99, 0, 0), (99, .invokestatic 110, 102, 106, 4), (102, .aload_n 0, 103, 0, 0), (103, .getfield 32, 106, 11, 8), (106, .bipush 26, 108, 0, 0), (108, .iload_n 1, 109, 0, 0), (109, .iload_n 2, 110, 0, 0), (110, .invokestatic 110, 113, 106, 4), (113, .return_, 114, 0, 0)]
def kX12_copyAll : zM := (⟨"ReadAloudModel", "copyAll", "(II)V"⟩, prog_14_method_8_code, 4, none, 11, qX12_copyAll)
def qX12_is : List zE := [(0, .iload_n 2, 1, 0, 0), (1, .iconst 0, 2, 0, 0), (2, .aload_n 0, 3, 0, 0), (3, .getfield 23, 6, 11, 5), (6, .iload_n 1, 7, 0, 0), (7, .iaload, 8, 0, 0), (8, .iconst 1, 9, 0, 0), (9, .isub, 10, 0, 0), (10, .invokestatic 114, 13, 103, 3), (13, .ireturn, 14, 0, 0)]
def kX12_is : zM := (⟨"ReadAloudModel", "is", "(II)Z"⟩, prog_14_method_9_code, 3, (some .boolean), 11, qX12_is)
def qX12_four : List zE := [(0, .bipush 24, 2, 0, 0), (2, .istore_n 2, 3, 0, 0), (3, .iload_n 2, 4, 0, 0), (4, .ifCond .lt 34, 7, 38, 0), (7, .aload_n 0, 8, 0, 0), (8, .getfield 7, 11, 11, 1), (11, .aload_n 0, 12, 0, 0), (12, .getfield 13, 15, 11, 2), (15, .iconst 0, 16, 0, 0), (16, .iaload, 17, 0, 0), (17, .iload_n 1, 18, 0, 0), (18, .iload_n 2, 19, 0, 0), (19, .ishr, 20, 0, 0), (20, .i2b, 21, 0, 0), (21, .bastore, 22, 0, 0), (22, .aload_n 0, 23, 0, 0), (23, .getfield 13, 26, 11, 2), (26, .iconst 0, 27, 0, 0), (27, .dup2, 28, 0, 0), (28, .iaload, 29, 0, 0), (29, .iconst 1, 30, 0, 0), (30, .iadd, 31, 0, 0), (31, .iastore, 32, 0, 0), (32, .iinc 2 (-8), 35, 0, 0), (35, .goto (-32), 38, 3, 0), (38, .return_, 39, 0, 0)]
def kX12_four : zM := (⟨"ReadAloudModel", "four", "(I)V"⟩, prog_14_method_11_code, 3, none, 11, qX12_four)
def qX12_see : List zE := [(0, .aload_n 0, 1, 0, 0), (1, .getfield 122, 4, 11, 9), (4, .aload_n 0, 5, 0, 0), (5, .getfield 125, 8, 11, 10), (8, .if_icmp .ge 19, 11, 27, 0), (11, .aload_n 0, 12, 0, 0), (12, .getfield 7, 15, 11, 1), (15, .aload_n 0, 16, 0, 0), (16, .getfield 122, 19, 11, 9), (19, .baload, 20, 0, 0), (20, .sipush 255, 23, 0, 0), (23, .iand, 24, 0, 0), (24, .goto 4, 27, 28, 0), (27, .iconst (-1), 28, 0, 0), (28, .ireturn, 29, 0, 0)]
def kX12_see : zM := (⟨"ReadAloudModel", "see", "()I"⟩, prog_14_method_13_code, 1, (some .int), 11, qX12_see)
set_option maxRecDepth 200000 in
def qX12_token : List zE := [(0, .aload_n 0, 1, 0, 0), (1, .invokevirtual 128, 4, 110, 0), (4, .bipush 10, 6, 0, 0), (6, .if_icmp .eq 12, 9, 18, 0), (9, .aload_n 0, 10, 0, 0), (10, .invokevirtual 128, 13, 110, 0), (13, .bipush 32, 15, 0, 0), (15, .if_icmp .ne 16, 18, 31, 0), (18, .aload_n 0, 19, 0, 0), (19, .dup, 20, 0, 0), (20, .getfield 122, 23, 11, 9), (23, .iconst 1, 24, 0, 0), (24, .iadd, 25, 0, 0), (25, .putfield 122, 28, 11, 9), (28, .goto (-28), 31, 0, 0), (31, .aload_n 0, 32, 0, 0), (32, .aload_n 0, 33, 0, 0), (33, .getfield 122, 36, 11, 9), (36, .putfield 132, 39, 11, 11), (39, .aload_n 0, 40, 0, 0), (40, .invokevirtual 128, 43, 110, 0), (43, .istore_n 1, 44, 0, 0), (44, .aload_n 0, 45, 0, 0), (45, .lconst 0, 46, 0, 0), (46, .putfield 135, 49, 11, 14), (49, .iconst 0, 50, 0, 0), (50, .istore_n 2, 51, 0, 0), (51, .iload_n 1, 52, 0, 0), (52, .ifCond .ge 11, 55, 63, 0), (55, .aload_n 0, 56, 0, 0), (56, .iconst 0, 57, 0, 0), (57, .putfield 139, 60, 11, 12), (60, .goto 206, 63, 266, 0), (63, .iload_n 1, 64, 0, 0), (64, .bipush 97, 66, 0, 0), (66, .bipush 122, 68, 0, 0), (68, .invokestatic 114, 71, 103, 3), (71, .ifCond .eq 76, 74, 147, 0), (74, .aload_n 0, 75, 0, 0), (75, .invokevirtual 128, 78, 110, 0), (78, .bipush 97, 80, 0, 0), (80, .bipush 122, 82, 0, 0), (82, .invokestatic 114, 85, 103, 3), (85, .ifCond .eq 36, 88, 121, 0), (88, .aload_n 0, 89, 0, 0), (89, .aload_n 0, 90, 0, 0), (90, .getfield 135, 93, 11, 14), (93, .bipush 8, 95, 0, 0), (95, .lshl, 96, 0, 0), (96, .aload_n 0, 97, 0, 0), (97, .invokevirtual 128, 100, 110, 0), (100, .i2l, 101, 0, 0), (101, .lor, 102, 0, 0), (102, .putfield 135, 105, 11, 14), (105, .aload_n 0, 106, 0, 0), (106, .dup, 107, 0, 0), (107, .getfield 122, 110, 11, 9), (110, .iconst 1, 111, 0, 0), (111, .iadd, 112, 0, 0), (112, .putfield 122, 115, 11, 9), (115, .iinc 2 1, 118, 0, 0), (118, .goto (-44), 121, 74, 0), (121, .aload_n 0, 122, 0, 0), (122, .iload_n 2, 123, 0, 0), (123, .bipush 8, 125, 0, 0), (125, .if_icmp .le 7, 128, 132, 0), (128, .lconst 0, 129, 0, 0), (129, .goto 7, 132, 136, 0), (132, .aload_n 0, 133, 0, 0), (133, .getfield 135, 136, 11, 14), (136, .putfield 135, 139, 11, 14), (139, .aload_n 0, 140, 0, 0), (140, .iconst 2, 141, 0, 0), (141, .putfield 139, 144, 11, 12), (144, .goto 122, 147, 266, 0), (147, .iload_n 1, 148, 0, 0), (148, .bipush 48, 150, 0, 0), (150, .bipush 57, 152, 0, 0), (152, .invokestatic 114, 155, 103, 3), (155, .ifCond .eq 86, 158, 241, 0), (158, .aload_n 0, 159, 0, 0), (159, .iconst 0, 160, 0, 0), (160, .putfield 142, 163, 11, 13), (163, .aload_n 0, 164, 0, 0), (164, .invokevirtual 128, 167, 110, 0), (167, .bipush 48, 169, 0, 0), (169, .bipush 57, 171, 0, 0), (171, .invokestatic 114, 174, 103, 3), (174, .ifCond .eq 50, 177, 224, 0), (177, .aload_n 0, 178, 0, 0), (178, .iload_n 2, 179, 0, 0), (179, .iconst 2, 180, 0, 0), (180, .if_icmp .ge 21, 183, 201, 0), (183, .bipush 10, 185, 0, 0), (185, .aload_n 0, 186, 0, 0), (186, .getfield 142, 189, 11, 13), (189, .imul, 190, 0, 0), (190, .aload_n 0, 191, 0, 0), (191, .invokevirtual 128, 194, 110, 0), (194, .iadd, 195, 0, 0), (195, .bipush 48, 197, 0, 0), (197, .isub, 198, 0, 0), (198, .goto 7, 201, 205, 0), (201, .aload_n 0, 202, 0, 0), (202, .getfield 142, 205, 11, 13), (205, .putfield 142, 208, 11, 13), (208, .aload_n 0, 209, 0, 0), (209, .dup, 210, 0, 0), (210, .getfield 122, 213, 11, 9), (213, .iconst 1, 214, 0, 0), (214, .iadd, 215, 0, 0), (215, .putfield 122, 218, 11, 9), (218, .iinc 2 1, 221, 0, 0), (221, .goto (-58), 224, 163, 0), (224, .aload_n 0, 225, 0, 0), (225, .iload_n 2, 226, 0, 0), (226, .iconst 2, 227, 0, 0), (227, .if_icmp .le 7, 230, 234, 0), (230, .iconst 1, 231, 0, 0), (231, .goto 4, 234, 235, 0), (234, .iconst 3, 235, 0, 0), (235, .putfield 139, 238, 11, 12), (238, .goto 28, 241, 266, 0), (241, .aload_n 0, 242, 0, 0), (242, .dup, 243, 0, 0), (243, .getfield 122, 246, 11, 9), (246, .iconst 1, 247, 0, 0), (247, .iadd, 248, 0, 0), (248, .putfield 122, 251, 11, 9), (251, .aload_n 0, 252, 0, 0), (252, .iload_n 1, 253, 0, 0), (253, .bipush 59, 255, 0, 0), (255, .if_icmp .ne 7, 258, 262, 0), (258, .iconst 4, 259, 0, 0), (259, .goto 4, 262, 263, 0), (262, .iconst 1, 263, 0, 0), (263, .putfield 139, 266, 11, 12), (266, .return_, 267, 0, 0)]
def kX12_token : zM := (⟨"ReadAloudModel", "token", "()V"⟩, prog_14_method_14_code, 3, none, 11, qX12_token)
def qX12_lines : List zE := [(0, .iconst 1, 1, 0, 0), (1, .istore_n 2, 2, 0, 0), (2, .iload_n 2, 3, 0, 0), (3, .ifCond .eq 64, 6, 67, 0), (6, .aload_n 0, 7, 0, 0), (7, .getfield 139, 10, 11, 12), (10, .ifCond .eq 57, 13, 67, 0), (13, .aload_n 0, 14, 0, 0), (14, .iload_n 1, 15, 0, 0), (15, .aload_n 0, 16, 0, 0), (16, .getfield 139, 19, 11, 12), (19, .iconst 2, 20, 0, 0), (20, .if_icmp .ne 10, 23, 30, 0), (23, .aload_n 0, 24, 0, 0), (24, .getfield 135, 27, 11, 14), (27, .goto 4, 30, 31, 0), (30, .lconst 0, 31, 0, 0), (31, .aload_n 0, 32, 0, 0), (32, .getfield 132, 35, 11, 11), (38, .istore_n 2, 39, 0, 0), (39, .iload_n 2, 40, 0, 0), (40, .ifCond .eq 16, 43, 56, 0), (43, .aload_n 0, 44, 0, 0), (44, .getfield 139, 47, 11, 12), (47, .iconst 4, 48, 0, 0), (48, .if_icmp .eq 8, 51, 56, 0), (51, .aload_n 0, 52, 0, 0), (55, .istore_n 2, 56, 0, 0), (56, .iload_n 2, 57, 0, 0), (57, .ifCond .eq (-55), 60, 2, 0), (60, .aload_n 0, 61, 0, 0), (61, .invokevirtual 162, 64, 111, 0), (64, .goto (-62), 67, 2, 0), (67, .iload_n 2, 68, 0, 0), (68, .ireturn, 69, 0, 0)]
def kX12_lines : zM := (⟨"ReadAloudModel", "lines", "(I)Z"⟩, prog_14_method_30_code, 3, (some .boolean), 11, qX12_lines)
def qX12_readText : List zE := [(0, .iconst 0, 1, 0, 0), (1, .istore_n 2, 2, 0, 0), (2, .iload_n 2, 3, 0, 0), (3, .bipush 121, 5, 0, 0), (5, .if_icmp .ge 35, 8, 40, 0), (8, .aload_n 0, 9, 0, 0), (9, .getfield 35, 12, 11, 18), (12, .iload_n 2, 13, 0, 0), (13, .iload_n 1, 14, 0, 0), (14, .ifCond .ne 18, 17, 32, 0), (17, .iload_n 2, 18, 0, 0), (18, .iconst 2, 19, 0, 0), (19, .iconst 5, 20, 0, 0), (20, .invokestatic 114, 23, 103, 3), (23, .ifCond .eq 9, 26, 32, 0), (26, .iload_n 2, 27, 0, 0), (27, .iconst 2, 28, 0, 0), (28, .isub, 29, 0, 0), (29, .goto 4, 32, 33, 0), (32, .iconst 0, 33, 0, 0), (33, .iastore, 34, 0, 0), (34, .iinc 2 1, 37, 0, 0), (37, .goto (-35), 40, 2, 0), (40, .aload_n 0, 41, 0, 0), (41, .iconst 0, 42, 0, 0), (42, .putfield 122, 45, 11, 9), (45, .aload_n 0, 46, 0, 0), (46, .iconst 0, 47, 0, 0), (47, .putfield 148, 50, 11, 16), (50, .aload_n 0, 51, 0, 0), (51, .invokevirtual 162, 54, 111, 0), (54, .aload_n 0, 55, 0, 0), (55, .iload_n 1, 56, 0, 0), (56, .invokevirtual 245, 59, 112, 1), (59, .istore_n 2, 60, 0, 0), (60, .aload_n 0, 61, 0, 0), (61, .getfield 17, 64, 11, 3), (64, .iconst 0, 65, 0, 0), (65, .iload_n 2, 66, 0, 0), (66, .ifCond .eq 10, 69, 76, 0), (69, .aload_n 0, 70, 0, 0), (70, .getfield 148, 73, 11, 16), (73, .goto 4, 76, 77, 0), (76, .iconst 1, 77, 0, 0), (77, .iastore, 78, 0, 0), (78, .aload_n 0, 79, 0, 0), (79, .getfield 20, 82, 11, 4), (82, .iconst 0, 83, 0, 0), (83, .iload_n 2, 84, 0, 0), (84, .ifCond .ne 10, 87, 94, 0), (87, .aload_n 0, 88, 0, 0), (88, .getfield 145, 91, 11, 15), (91, .goto 18, 94, 109, 0), (94, .aload_n 0, 95, 0, 0), (95, .getfield 148, 98, 11, 16), (98, .ifCond .le 10, 101, 108, 0), (101, .aload_n 0, 102, 0, 0), (102, .getfield 151, 105, 11, 17), (105, .goto 4, 108, 109, 0), (108, .iconst (-1), 109, 0, 0), (109, .iastore, 110, 0, 0), (110, .aload_n 0, 111, 0, 0), (111, .getfield 17, 114, 11, 3), (114, .iconst 0, 115, 0, 0), (115, .iaload, 116, 0, 0), (116, .ifCond .ne 7, 119, 123, 0), (119, .iconst 1, 120, 0, 0), (120, .goto 4, 123, 124, 0), (123, .iconst 0, 124, 0, 0), (124, .ireturn, 125, 0, 0)]
def kX12_readText : zM := (⟨"ReadAloudModel", "readText", "(I)Z"⟩, prog_14_method_31_code, 3, (some .boolean), 11, qX12_readText)
def qX12_store : List zE := [(0, .iconst 0, 1, 0, 0), (1, .istore 4, 3, 0, 0), (3, .iload 4, 5, 0, 0), (5, .iload_n 2, 6, 0, 0), (6, .if_icmp .ge 24, 9, 30, 0), (9, .aload_n 1, 10, 0, 0), (10, .iload_n 2, 11, 0, 0), (11, .iload_n 3, 12, 0, 0), (12, .imul, 13, 0, 0), (13, .iload 4, 15, 0, 0), (15, .iadd, 16, 0, 0), (16, .aload_n 0, 17, 0, 0), (17, .getfield 35, 20, 11, 18), (20, .iload 4, 22, 0, 0), (22, .iaload, 23, 0, 0), (23, .iastore, 24, 0, 0), (24, .iinc 4 1, 27, 0, 0), (27, .goto (-24), 30, 3, 0), (30, .return_, 31, 0, 0)]
def kX12_store : zM := (⟨"ReadAloudModel", "store", "([III)V"⟩, prog_14_method_32_code, 5, none, 11, qX12_store)
def qX12_hand : List zE := [(0, .aload_n 0, 1, 0, 0), (1, .iconst 0, 2, 0, 0), (2, .iload_n 1, 3, 0, 0), (3, .invokevirtual 249, 6, 108, 2), (6, .ifCond .ne 5, 9, 11, 0), (9, .iconst 0, 10, 0, 0), (10, .ireturn, 11, 0, 0), (11, .aload_n 0, 12, 0, 0), (12, .iload_n 1, 13, 0, 0), (13, .putfield 259, 16, 11, 20), (16, .aload_n 0, 17, 0, 0), (17, .aload_n 0, 18, 0, 0), (18, .iconst 0, 19, 0, 0), (22, .putfield 265, 25, 11, 22), (25, .aload_n 0, 26, 0, 0), (26, .aload_n 0, 27, 0, 0), (27, .iconst 1, 28, 0, 0), (31, .putfield 268, 34, 11, 23), (34, .iconst 1, 35, 0, 0), (35, .ireturn, 36, 0, 0)]
def kX12_hand : zM := (⟨"ReadAloudModel", "hand", "(I)Z"⟩, prog_14_method_36_code, 2, (some .boolean), 11, qX12_hand)
def qX12_isText : List zE := [(0, .iload_n 0, 1, 0, 0), (1, .iconst 0, 2, 0, 0), (2, .sipush 5460, 5, 0, 0), (5, .invokestatic 114, 8, 103, 3), (8, .ireturn, 9, 0, 0)]
def kX12_isText : zM := (⟨"ReadAloudModel", "isText", "(I)Z"⟩, prog_14_method_37_code, 1, (some .boolean), 11, qX12_isText)
def qX12_sizeOf : List zE := [(0, .iconst 0, 1, 0, 0), (1, .istore_n 1, 2, 0, 0), (2, .iload_n 1, 3, 0, 0), (3, .iconst 1, 4, 0, 0), (4, .iadd, 5, 0, 0), (5, .invokestatic 172, 8, 120, 1), (8, .iload_n 0, 9, 0, 0), (9, .if_icmp .gt 9, 12, 18, 0), (12, .iinc 1 1, 15, 0, 0), (15, .goto (-13), 18, 2, 0), (18, .iload_n 1, 19, 0, 0), (19, .ireturn, 20, 0, 0)]
def kX12_sizeOf : zM := (⟨"ReadAloudModel", "sizeOf", "(I)I"⟩, prog_14_method_39_code, 2, (some .int), 11, qX12_sizeOf)
def qX12_spell : List zE := [(0, .iload_n 0, 1, 0, 0), (1, .invokestatic 271, 4, 117, 1), (4, .istore_n 2, 5, 0, 0), (5, .iload_n 0, 6, 0, 0), (6, .iload_n 2, 7, 0, 0), (7, .invokestatic 172, 10, 120, 1), (10, .isub, 11, 0, 0), (11, .istore_n 3, 12, 0, 0), (12, .iload_n 2, 13, 0, 0), (13, .iconst 1, 14, 0, 0), (14, .isub, 15, 0, 0), (15, .istore 4, 17, 0, 0), (17, .iload 4, 19, 0, 0), (19, .ifCond .lt 20, 22, 39, 0), (22, .aload_n 1, 23, 0, 0), (23, .iload 4, 25, 0, 0), (25, .iload_n 3, 26, 0, 0), (26, .iconst 4, 27, 0, 0), (27, .irem, 28, 0, 0), (28, .iastore, 29, 0, 0), (29, .iload_n 3, 30, 0, 0), (30, .iconst 4, 31, 0, 0), (31, .idiv, 32, 0, 0), (32, .istore_n 3, 33, 0, 0), (33, .iinc 4 (-1), 36, 0, 0), (36, .goto (-19), 39, 17, 0), (39, .return_, 40, 0, 0)]
def kX12_spell : zM := (⟨"ReadAloudModel", "spell", "(I[I)V"⟩, prog_14_method_40_code, 5, none, 11, qX12_spell)
def qX12_numberOf : List zE := [(0, .iconst 0, 1, 0, 0), (1, .istore_n 2, 2, 0, 0), (2, .iconst 0, 3, 0, 0), (3, .istore_n 3, 4, 0, 0), (4, .iload_n 3, 5, 0, 0), (5, .iload_n 1, 6, 0, 0), (6, .if_icmp .ge 20, 9, 26, 0), (9, .iconst 4, 10, 0, 0), (10, .iload_n 2, 11, 0, 0), (11, .imul, 12, 0, 0), (12, .aload_n 0, 13, 0, 0), (13, .getfield 45, 16, 11, 24), (16, .iload_n 3, 17, 0, 0), (17, .iaload, 18, 0, 0), (18, .iadd, 19, 0, 0), (19, .istore_n 2, 20, 0, 0), (20, .iinc 3 1, 23, 0, 0), (23, .goto (-19), 26, 4, 0), (26, .iload_n 1, 27, 0, 0), (27, .invokestatic 172, 30, 120, 1), (30, .iload_n 2, 31, 0, 0), (31, .iadd, 32, 0, 0), (32, .ireturn, 33, 0, 0)]
def kX12_numberOf : zM := (⟨"ReadAloudModel", "numberOf", "(I)I"⟩, prog_14_method_41_code, 4, (some .int), 11, qX12_numberOf)
def qX12_shorter : List zE := [(0, .iconst 0, 1, 0, 0), (1, .istore_n 1, 2, 0, 0), (2, .iconst 1, 3, 0, 0), (3, .istore_n 2, 4, 0, 0), (4, .iconst 0, 5, 0, 0), (5, .istore_n 3, 6, 0, 0), (6, .iload_n 3, 7, 0, 0), (7, .iload_n 0, 8, 0, 0), (8, .if_icmp .ge 17, 11, 25, 0), (11, .iload_n 1, 12, 0, 0), (12, .iload_n 2, 13, 0, 0), (13, .iadd, 14, 0, 0), (14, .istore_n 1, 15, 0, 0), (15, .iload_n 2, 16, 0, 0), (16, .iconst 4, 17, 0, 0), (17, .imul, 18, 0, 0), (18, .istore_n 2, 19, 0, 0), (19, .iinc 3 1, 22, 0, 0), (22, .goto (-16), 25, 6, 0), (25, .iload_n 1, 26, 0, 0), (26, .ireturn, 27, 0, 0)]
def kX12_shorter : zM := (⟨"ReadAloudModel", "shorter", "(I)I"⟩, prog_14_method_20_code, 4, (some .int), 11, qX12_shorter)
set_option maxRecDepth 200000 in
def qX12_apart : List zE := [(0, .iload_n 1, 1, 0, 0), (1, .invokestatic 271, 4, 117, 1), (4, .istore_n 3, 5, 0, 0), (5, .iload_n 2, 6, 0, 0), (6, .invokestatic 271, 9, 117, 1), (9, .istore 4, 11, 0, 0), (11, .iload_n 1, 12, 0, 0), (12, .aload_n 0, 13, 0, 0), (13, .getfield 45, 16, 11, 24), (16, .invokestatic 289, 19, 118, 2), (19, .iload_n 2, 20, 0, 0), (20, .aload_n 0, 21, 0, 0), (21, .getfield 48, 24, 11, 25), (24, .invokestatic 289, 27, 118, 2), (27, .iconst 0, 28, 0, 0), (28, .istore 5, 30, 0, 0), (30, .iload 5, 32, 0, 0), (32, .iload_n 3, 33, 0, 0), (33, .if_icmp .gt 158, 36, 191, 0), (36, .iconst 0, 37, 0, 0), (37, .istore 6, 39, 0, 0), (39, .iload 6, 41, 0, 0), (41, .iload 4, 43, 0, 0), (43, .if_icmp .gt 142, 46, 185, 0), (46, .iload 5, 48, 0, 0), (48, .ifCond .ne 8, 51, 56, 0), (51, .iload 6, 53, 0, 0), (53, .goto 57, 56, 110, 0), (56, .iload 6, 58, 0, 0), (58, .ifCond .ne 8, 61, 66, 0), (61, .iload 5, 63, 0, 0), (63, .goto 47, 66, 110, 0), (66, .aload_n 0, 67, 0, 0), (67, .getfield 51, 70, 11, 27), (70, .bipush 7, 72, 0, 0), (72, .iload 5, 74, 0, 0), (74, .iconst 1, 75, 0, 0), (75, .isub, 76, 0, 0), (76, .imul, 77, 0, 0), (77, .iload 6, 79, 0, 0), (79, .iadd, 80, 0, 0), (80, .iconst 1, 81, 0, 0), (81, .isub, 82, 0, 0), (82, .iaload, 83, 0, 0), (83, .aload_n 0, 84, 0, 0), (84, .getfield 45, 87, 11, 24), (87, .iload 5, 89, 0, 0), (89, .iconst 1, 90, 0, 0), (90, .isub, 91, 0, 0), (91, .iaload, 92, 0, 0), (92, .aload_n 0, 93, 0, 0), (93, .getfield 48, 96, 11, 25), (96, .iload 6, 98, 0, 0), (98, .iconst 1, 99, 0, 0), (99, .isub, 100, 0, 0), (100, .iaload, 101, 0, 0), (101, .if_icmp .ne 7, 104, 108, 0), (104, .iconst 0, 105, 0, 0), (105, .goto 4, 108, 109, 0), (108, .iconst 1, 109, 0, 0), (109, .iadd, 110, 0, 0), (110, .istore 7, 112, 0, 0), (112, .iload 5, 114, 0, 0), (114, .ifCond .le 50, 117, 164, 0), (117, .iload 6, 119, 0, 0), (119, .ifCond .le 45, 122, 164, 0), (122, .iload 7, 124, 0, 0), (124, .iconst 1, 125, 0, 0), (125, .aload_n 0, 126, 0, 0), (126, .getfield 51, 129, 11, 27), (129, .bipush 7, 131, 0, 0), (131, .iload 5, 133, 0, 0), (133, .iconst 1, 134, 0, 0), (134, .isub, 135, 0, 0), (135, .imul, 136, 0, 0), (136, .iload 6, 138, 0, 0), (138, .iadd, 139, 0, 0), (139, .iaload, 140, 0, 0), (140, .aload_n 0, 141, 0, 0), (141, .getfield 51, 144, 11, 27), (144, .bipush 7, 146, 0, 0), (146, .iload 5, 148, 0, 0), (148, .imul, 149, 0, 0), (149, .iload 6, 151, 0, 0), (151, .iadd, 152, 0, 0), (152, .iconst 1, 153, 0, 0), (153, .isub, 154, 0, 0), (154, .iaload, 155, 0, 0), (155, .invokestatic 204, 158, 105, 2), (158, .iadd, 159, 0, 0), (159, .invokestatic 204, 162, 105, 2), (162, .istore 7, 164, 0, 0), (164, .aload_n 0, 165, 0, 0), (165, .getfield 51, 168, 11, 27), (168, .bipush 7, 170, 0, 0), (170, .iload 5, 172, 0, 0), (172, .imul, 173, 0, 0), (173, .iload 6, 175, 0, 0), (175, .iadd, 176, 0, 0), (176, .iload 7, 178, 0, 0), (178, .iastore, 179, 0, 0), (179, .iinc 6 1, 182, 0, 0), (182, .goto (-143), 185, 39, 0), (185, .iinc 5 1, 188, 0, 0), (188, .goto (-158), 191, 30, 0), (191, .aload_n 0, 192, 0, 0), (192, .getfield 51, 195, 11, 27), (195, .bipush 7, 197, 0, 0), (197, .iload_n 3, 198, 0, 0), (198, .imul, 199, 0, 0), (199, .iload 4, 201, 0, 0), (201, .iadd, 202, 0, 0), (202, .iaload, 203, 0, 0), (203, .ireturn, 204, 0, 0)]
def kX12_apart : zM := (⟨"ReadAloudModel", "apart", "(II)I"⟩, prog_14_method_48_code, 8, (some .int), 11, qX12_apart)
def qX12_layAll : List zE := [(0, .aload_n 0, 1, 0, 0), (1, .iload_n 2, 2, 0, 0), (2, .invokevirtual 317, 5, 123, 1), (5, .ifCond .eq 15, 8, 20, 0), (8, .aload_n 0, 9, 0, 0), (9, .iload_n 1, 10, 0, 0), (10, .invokevirtual 299, 13, 115, 1), (13, .ifCond .eq 7, 16, 20, 0), (16, .iconst 1, 17, 0, 0), (17, .goto 4, 20, 21, 0), (20, .iconst 0, 21, 0, 0), (21, .ireturn, 22, 0, 0)]
def kX12_layAll : zM := (⟨"ReadAloudModel", "layAll", "(II)Z"⟩, prog_14_method_63_code, 3, (some .boolean), 11, qX12_layAll)
def qX12_hasYear : List zE := [(0, .aload_n 0, 1, 0, 0), (1, .iload_n 1, 2, 0, 0), (2, .putfield 314, 5, 11, 28), (5, .aload_n 0, 6, 0, 0), (6, .iconst 1, 7, 0, 0), (7, .iload_n 1, 8, 0, 0), (8, .invokevirtual 249, 11, 108, 2), (11, .ireturn, 12, 0, 0)]
def kX12_hasYear : zM := (⟨"ReadAloudModel", "hasYear", "(I)Z"⟩, prog_14_method_55_code, 2, (some .boolean), 11, qX12_hasYear)
def qX12_hasSight : List zE := [(0, .aload_n 0, 1, 0, 0), (1, .iload_n 1, 2, 0, 0), (2, .putfield 426, 5, 11, 41), (5, .aload_n 0, 6, 0, 0), (6, .iconst 2, 7, 0, 0), (7, .iload_n 1, 8, 0, 0), (8, .invokevirtual 249, 11, 108, 2), (11, .ireturn, 12, 0, 0)]
def kX12_hasSight : zM := (⟨"ReadAloudModel", "hasSight", "(I)Z"⟩, prog_14_method_96_code, 2, (some .boolean), 11, qX12_hasSight)
def qX12_handAll : List zE := [(0, .aload_n 0, 1, 0, 0), (1, .iload_n 1, 2, 0, 0), (2, .invokevirtual 299, 5, 115, 1), (5, .ifCond .ne 5, 8, 10, 0), (8, .iconst 0, 9, 0, 0), (9, .ireturn, 10, 0, 0), (10, .aload_n 0, 11, 0, 0), (14, .iconst 1, 15, 0, 0), (15, .ireturn, 16, 0, 0)]
def kX12_handAll : zM := (⟨"ReadAloudModel", "handAll", "(I)Z"⟩, prog_14_method_68_code, 2, (some .boolean), 11, qX12_handAll)
def qX12_someOf : List zE := [(0, .iload_n 1, 1, 0, 0), (1, .aload_n 0, 2, 0, 0), (2, .getfield 45, 5, 11, 24), (5, .invokestatic 289, 8, 118, 2), (8, .iconst 0, 9, 0, 0), (9, .istore_n 3, 10, 0, 0), (10, .iconst 0, 11, 0, 0), (11, .istore 4, 13, 0, 0), (13, .iload 4, 15, 0, 0), (15, .iload_n 1, 16, 0, 0), (16, .invokestatic 271, 19, 117, 1), (19, .if_icmp .ge 34, 22, 53, 0), (22, .iload_n 2, 23, 0, 0), (23, .iload 4, 25, 0, 0), (25, .invokestatic 335, 28, 104, 2), (28, .ifCond .eq 19, 31, 47, 0), (31, .aload_n 0, 32, 0, 0), (32, .getfield 45, 35, 11, 24), (35, .iload_n 3, 36, 0, 0), (36, .aload_n 0, 37, 0, 0), (37, .getfield 45, 40, 11, 24), (40, .iload 4, 42, 0, 0), (42, .iaload, 43, 0, 0), (43, .iastore, 44, 0, 0), (44, .iinc 3 1, 47, 0, 0), (47, .iinc 4 1, 50, 0, 0), (50, .goto (-37), 53, 13, 0), (53, .aload_n 0, 54, 0, 0), (54, .iload_n 3, 55, 0, 0), (55, .invokevirtual 296, 58, 119, 1), (58, .ireturn, 59, 0, 0)]
def kX12_someOf : zM := (⟨"ReadAloudModel", "someOf", "(II)I"⟩, prog_14_method_110_code, 5, (some .int), 11, qX12_someOf)
def qX12_isLeft : List zE := [(0, .iconst 0, 1, 0, 0), (1, .istore_n 3, 2, 0, 0), (2, .iload_n 3, 3, 0, 0), (3, .iconst 1, 4, 0, 0), (4, .iload_n 1, 5, 0, 0), (5, .invokestatic 271, 8, 117, 1), (8, .ishl, 9, 0, 0), (9, .if_icmp .ge 21, 12, 30, 0), (12, .aload_n 0, 13, 0, 0), (13, .iload_n 1, 14, 0, 0), (14, .iload_n 3, 15, 0, 0), (15, .invokevirtual 466, 18, 126, 2), (18, .iload_n 2, 19, 0, 0), (19, .if_icmp .ne 5, 22, 24, 0), (22, .iconst 1, 23, 0, 0), (23, .ireturn, 24, 0, 0), (24, .iinc 3 1, 27, 0, 0), (27, .goto (-25), 30, 2, 0), (30, .iconst 0, 31, 0, 0), (31, .ireturn, 32, 0, 0)]
def kX12_isLeft : zM := (⟨"ReadAloudModel", "isLeft", "(II)Z"⟩, prog_14_method_111_code, 4, (some .boolean), 11, qX12_isLeft)
def zTab : List zM := [kL_law, kX11_init, kX11_feed, kX11_end, kX11_text, kX11_fault, kX11_book, kX11_word, kX11_drift, kX11_read, kX11_deed, kX11_stop, kX11_state, kX11_making, kX11_ring, kX11_reach, kX11_sound, kX11_like, kX11_orbits, kX11_rota, kX11_mean, kX11_elders, kX11_play, kX11_fact, kX11_fits, kX11_sure, kX11_drawn, kX11_kinship, kX11_shared, kX11_joined, kX11_nearest, kX11_settles, kX11_unmade, kX11_silenced, kX11_circles, kX11_count, kX11_image, kX11_again, kX11_tellInto, kX11_bookAt, kX11_yearAt, kX11_sightAt, kX11_readingsAt, kX11_isText, kX11_isWord, kX11_isSpan, kX11_isIn, kX11_longer, kX11_lengthOf, kX11_bitsOf, kX11_wordAt, kX11_wordOfBits, kX11_driftOf, kX11_mostShared, kX11_isLeftOf, kX8_init, kX8_putBytes, kX8_becomes, kX7_init, kX7_tell, kX7_advance, kX1_init, kX3_init, kX0_init, kX10_init, kX6_init, kX12_init, kX12_feed, kX12_end, kX12_text, kX12_fault, kX12_book, kX12_word, kX12_drift, kX12_read, kX12_deed, kX12_stop, kX12_state, kX12_making, kX12_ring, kX12_reach, kX12_sound, kX12_like, kX12_orbits, kX12_rota, kX12_mean, kX12_elders, kX12_play_, kX12_fact, kX12_fits, kX12_sure, kX12_drawn, kX12_kinship, kX12_shared, kX12_joined, kX12_nearest, kX12_settles, kX12_unmade, kX12_silenced, kX12_circles, kX12_count, kX12_image, kX12_again, kX12_in, kX12_has, kX12_lesser, kX12_copyRow, kX12_copyAll, kX12_is, kX12_four, kX12_see, kX12_token, kX12_lines, kX12_readText, kX12_store, kX12_hand, kX12_isText, kX12_sizeOf, kX12_spell, kX12_numberOf, kX12_shorter, kX12_apart, kX12_layAll, kX12_hasYear, kX12_hasSight, kX12_handAll, kX12_someOf, kX12_isLeft]
abbrev iL_law : Nat := 0
abbrev iX11_init : Nat := 1
abbrev iX11_feed : Nat := 2
abbrev iX11_end : Nat := 3
abbrev iX11_text : Nat := 4
abbrev iX11_fault : Nat := 5
abbrev iX11_book : Nat := 6
abbrev iX11_word : Nat := 7
abbrev iX11_drift : Nat := 8
abbrev iX11_read : Nat := 9
abbrev iX11_deed : Nat := 10
abbrev iX11_stop : Nat := 11
abbrev iX11_state : Nat := 12
abbrev iX11_making : Nat := 13
abbrev iX11_ring : Nat := 14
abbrev iX11_reach : Nat := 15
abbrev iX11_sound : Nat := 16
abbrev iX11_like : Nat := 17
abbrev iX11_orbits : Nat := 18
abbrev iX11_rota : Nat := 19
abbrev iX11_mean : Nat := 20
abbrev iX11_elders : Nat := 21
abbrev iX11_play : Nat := 22
abbrev iX11_fact : Nat := 23
abbrev iX11_fits : Nat := 24
abbrev iX11_sure : Nat := 25
abbrev iX11_drawn : Nat := 26
abbrev iX11_kinship : Nat := 27
abbrev iX11_shared : Nat := 28
abbrev iX11_joined : Nat := 29
abbrev iX11_nearest : Nat := 30
abbrev iX11_settles : Nat := 31
abbrev iX11_unmade : Nat := 32
abbrev iX11_silenced : Nat := 33
abbrev iX11_circles : Nat := 34
abbrev iX11_count : Nat := 35
abbrev iX11_image : Nat := 36
abbrev iX11_again : Nat := 37
abbrev iX11_tellInto : Nat := 38
abbrev iX11_bookAt : Nat := 39
abbrev iX11_yearAt : Nat := 40
abbrev iX11_sightAt : Nat := 41
abbrev iX11_readingsAt : Nat := 42
abbrev iX11_isText : Nat := 43
abbrev iX11_isWord : Nat := 44
abbrev iX11_isSpan : Nat := 45
abbrev iX11_isIn : Nat := 46
abbrev iX11_longer : Nat := 47
abbrev iX11_lengthOf : Nat := 48
abbrev iX11_bitsOf : Nat := 49
abbrev iX11_wordAt : Nat := 50
abbrev iX11_wordOfBits : Nat := 51
abbrev iX11_driftOf : Nat := 52
abbrev iX11_mostShared : Nat := 53
abbrev iX11_isLeftOf : Nat := 54
abbrev iX8_init : Nat := 55
abbrev iX8_putBytes : Nat := 56
abbrev iX8_becomes : Nat := 57
abbrev iX7_init : Nat := 58
abbrev iX7_tell : Nat := 59
abbrev iX7_advance : Nat := 60
abbrev iX1_init : Nat := 61
abbrev iX3_init : Nat := 62
abbrev iX0_init : Nat := 63
abbrev iX10_init : Nat := 64
abbrev iX6_init : Nat := 65
abbrev iX12_init : Nat := 66
abbrev iX12_feed : Nat := 67
abbrev iX12_end : Nat := 68
abbrev iX12_text : Nat := 69
abbrev iX12_fault : Nat := 70
abbrev iX12_book : Nat := 71
abbrev iX12_word : Nat := 72
abbrev iX12_drift : Nat := 73
abbrev iX12_read : Nat := 74
abbrev iX12_deed : Nat := 75
abbrev iX12_stop : Nat := 76
abbrev iX12_state : Nat := 77
abbrev iX12_making : Nat := 78
abbrev iX12_ring : Nat := 79
abbrev iX12_reach : Nat := 80
abbrev iX12_sound : Nat := 81
abbrev iX12_like : Nat := 82
abbrev iX12_orbits : Nat := 83
abbrev iX12_rota : Nat := 84
abbrev iX12_mean : Nat := 85
abbrev iX12_elders : Nat := 86
abbrev iX12_play_ : Nat := 87
abbrev iX12_fact : Nat := 88
abbrev iX12_fits : Nat := 89
abbrev iX12_sure : Nat := 90
abbrev iX12_drawn : Nat := 91
abbrev iX12_kinship : Nat := 92
abbrev iX12_shared : Nat := 93
abbrev iX12_joined : Nat := 94
abbrev iX12_nearest : Nat := 95
abbrev iX12_settles : Nat := 96
abbrev iX12_unmade : Nat := 97
abbrev iX12_silenced : Nat := 98
abbrev iX12_circles : Nat := 99
abbrev iX12_count : Nat := 100
abbrev iX12_image : Nat := 101
abbrev iX12_again : Nat := 102
abbrev iX12_in : Nat := 103
abbrev iX12_has : Nat := 104
abbrev iX12_lesser : Nat := 105
abbrev iX12_copyRow : Nat := 106
abbrev iX12_copyAll : Nat := 107
abbrev iX12_is : Nat := 108
abbrev iX12_four : Nat := 109
abbrev iX12_see : Nat := 110
abbrev iX12_token : Nat := 111
abbrev iX12_lines : Nat := 112
abbrev iX12_readText : Nat := 113
abbrev iX12_store : Nat := 114
abbrev iX12_hand : Nat := 115
abbrev iX12_isText : Nat := 116
abbrev iX12_sizeOf : Nat := 117
abbrev iX12_spell : Nat := 118
abbrev iX12_numberOf : Nat := 119
abbrev iX12_shorter : Nat := 120
abbrev iX12_apart : Nat := 121
abbrev iX12_layAll : Nat := 122
abbrev iX12_hasYear : Nat := 123
abbrev iX12_hasSight : Nat := 124
abbrev iX12_handAll : Nat := 125
abbrev iX12_someOf : Nat := 126
abbrev iX12_isLeft : Nat := 127
theorem zplaces {l : List Cond} (ps : List Nat) (h : l = ps.filterMap (fun i => lw_tbl[i]?)) : ∀ w ∈ l, w ∈ lw_tbl := by
  intro w hw
  rw [h] at hw
  obtain ⟨i, -, hi⟩ := List.mem_filterMap.mp hw
  exact List.mem_of_getElem? hi
theorem zall_app {α : Type} {f : α → Bool} {l1 l2 : List α} (h1 : l1.all f = true) (h2 : l2.all f = true) : (l1 ++ l2).all f = true := by rw [List.all_append, h1, h2]; rfl
theorem zfm_app {α : Type} {f : α → List Cond} {l1 l2 : List α} {T : List Cond} (h1 : ∀ w ∈ l1.flatMap f, w ∈ T) (h2 : ∀ w ∈ l2.flatMap f, w ∈ T) : ∀ w ∈ (l1 ++ l2).flatMap f, w ∈ T := by
  intro w hw
  rw [List.flatMap_append] at hw
  rcases List.mem_append.mp hw with h | h
  · exact h1 w h
  · exact h2 w h
theorem zfg_app {α : Type} {f : α → List Cond} {l1 l2 : List α} (h1 : (l1.flatMap f).all goodWord = true) (h2 : (l2.flatMap f).all goodWord = true) : ((l1 ++ l2).flatMap f).all goodWord = true := by rw [List.flatMap_append]; exact zall_app h1 h2
end
section
theorem zd_L_law_0 : qL_law_0.all (zde kL_law) = true := by decide +kernel
theorem zr_L_law_0 : qL_law_0.all (zrow zTab kL_law) = true := by decide +kernel
theorem gw_L_law_0 : (qL_law_0.flatMap (zrq zTab kL_law.1.cls)).all goodWord = true := by decide +kernel
theorem wd_L_law_0 : ∀ w ∈ qL_law_0.flatMap (zrq zTab kL_law.1.cls), w ∈ lw_tbl := zplaces [193, 194, 172, 197, 196, 172, 195, 1336, 1337, 176, 1340, 1339, 176, 1338, 345, 343, 344, 172, 342] (by decide +kernel)
theorem zd_L_law_1 : qL_law_1.all (zde kL_law) = true := by decide +kernel
theorem zr_L_law_1 : qL_law_1.all (zrow zTab kL_law) = true := by decide +kernel
theorem gw_L_law_1 : (qL_law_1.flatMap (zrq zTab kL_law.1.cls)).all goodWord = true := by decide +kernel
theorem wd_L_law_1 : ∀ w ∈ qL_law_1.flatMap (zrq zTab kL_law.1.cls), w ∈ lw_tbl := zplaces [1504, 1502, 1503, 176, 1501, 353, 351, 352, 172, 350, 1512, 1510, 1511, 176, 1509] (by decide +kernel)
theorem zd_L_law_2 : qL_law_2.all (zde kL_law) = true := by decide +kernel
theorem zr_L_law_2 : qL_law_2.all (zrow zTab kL_law) = true := by decide +kernel
theorem gw_L_law_2 : (qL_law_2.flatMap (zrq zTab kL_law.1.cls)).all goodWord = true := by decide +kernel
theorem wd_L_law_2 : ∀ w ∈ qL_law_2.flatMap (zrq zTab kL_law.1.cls), w ∈ lw_tbl := zplaces [357, 355, 356, 172, 354, 1519, 1517, 1518, 176, 1516, 633, 631, 632, 172, 630, 1622, 1620, 1621, 176, 1619] (by decide +kernel)
theorem zd_L_law_3 : qL_law_3.all (zde kL_law) = true := by decide +kernel
theorem zr_L_law_3 : qL_law_3.all (zrow zTab kL_law) = true := by decide +kernel
theorem gw_L_law_3 : (qL_law_3.flatMap (zrq zTab kL_law.1.cls)).all goodWord = true := by decide +kernel
theorem wd_L_law_3 : ∀ w ∈ qL_law_3.flatMap (zrq zTab kL_law.1.cls), w ∈ lw_tbl := zplaces [637, 635, 636, 172, 634, 1626, 1624, 1625, 176, 1623, 657, 655, 656, 172, 654, 1638, 1636, 1637, 176, 1635] (by decide +kernel)
end
section
theorem zd_L_law_4 : qL_law_4.all (zde kL_law) = true := by decide +kernel
theorem zr_L_law_4 : qL_law_4.all (zrow zTab kL_law) = true := by decide +kernel
theorem gw_L_law_4 : (qL_law_4.flatMap (zrq zTab kL_law.1.cls)).all goodWord = true := by decide +kernel
theorem wd_L_law_4 : ∀ w ∈ qL_law_4.flatMap (zrq zTab kL_law.1.cls), w ∈ lw_tbl := zplaces [676, 674, 675, 172, 673, 1651, 1649, 1650, 176, 1648, 686, 684, 685, 172, 683] (by decide +kernel)
theorem zd_L_law_5 : qL_law_5.all (zde kL_law) = true := by decide +kernel
theorem zr_L_law_5 : qL_law_5.all (zrow zTab kL_law) = true := by decide +kernel
theorem gw_L_law_5 : (qL_law_5.flatMap (zrq zTab kL_law.1.cls)).all goodWord = true := by decide +kernel
theorem wd_L_law_5 : ∀ w ∈ qL_law_5.flatMap (zrq zTab kL_law.1.cls), w ∈ lw_tbl := zplaces [1659, 1657, 1658, 176, 1656, 723, 721, 722, 172, 720, 1695, 1693, 1694, 176, 1692] (by decide +kernel)
theorem zd_L_law_6 : qL_law_6.all (zde kL_law) = true := by decide +kernel
theorem zr_L_law_6 : qL_law_6.all (zrow zTab kL_law) = true := by decide +kernel
theorem gw_L_law_6 : (qL_law_6.flatMap (zrq zTab kL_law.1.cls)).all goodWord = true := by decide +kernel
theorem wd_L_law_6 : ∀ w ∈ qL_law_6.flatMap (zrq zTab kL_law.1.cls), w ∈ lw_tbl := zplaces [735, 733, 734, 172, 732, 1711, 1709, 1710, 176, 1708, 767, 765, 766, 172, 764] (by decide +kernel)
theorem zd_L_law_7 : qL_law_7.all (zde kL_law) = true := by decide +kernel
theorem zr_L_law_7 : qL_law_7.all (zrow zTab kL_law) = true := by decide +kernel
theorem gw_L_law_7 : (qL_law_7.flatMap (zrq zTab kL_law.1.cls)).all goodWord = true := by decide +kernel
theorem wd_L_law_7 : ∀ w ∈ qL_law_7.flatMap (zrq zTab kL_law.1.cls), w ∈ lw_tbl := zplaces [1746, 1744, 1745, 176, 1743, 788, 786, 787, 172, 785] (by decide +kernel)
end
section
theorem zd_L_law_8 : qL_law_8.all (zde kL_law) = true := by decide +kernel
theorem zr_L_law_8 : qL_law_8.all (zrow zTab kL_law) = true := by decide +kernel
theorem gw_L_law_8 : (qL_law_8.flatMap (zrq zTab kL_law.1.cls)).all goodWord = true := by decide +kernel
theorem wd_L_law_8 : ∀ w ∈ qL_law_8.flatMap (zrq zTab kL_law.1.cls), w ∈ lw_tbl := zplaces [1754, 1752, 1753, 176, 1751, 873, 871, 872, 172, 870, 1771, 1769, 1770, 176, 1768] (by decide +kernel)
theorem zd_L_law_9 : qL_law_9.all (zde kL_law) = true := by decide +kernel
theorem zr_L_law_9 : qL_law_9.all (zrow zTab kL_law) = true := by decide +kernel
theorem gw_L_law_9 : (qL_law_9.flatMap (zrq zTab kL_law.1.cls)).all goodWord = true := by decide +kernel
theorem wd_L_law_9 : ∀ w ∈ qL_law_9.flatMap (zrq zTab kL_law.1.cls), w ∈ lw_tbl := zplaces [881, 879, 880, 172, 878, 1779, 1777, 1778, 176, 1776, 889, 887, 888, 172, 886] (by decide +kernel)
theorem zd_L_law_10 : qL_law_10.all (zde kL_law) = true := by decide +kernel
theorem zr_L_law_10 : qL_law_10.all (zrow zTab kL_law) = true := by decide +kernel
theorem gw_L_law_10 : (qL_law_10.flatMap (zrq zTab kL_law.1.cls)).all goodWord = true := by decide +kernel
theorem wd_L_law_10 : ∀ w ∈ qL_law_10.flatMap (zrq zTab kL_law.1.cls), w ∈ lw_tbl := zplaces [1783, 1781, 1782, 176, 1780, 907, 905, 906, 172, 904, 1791, 1789, 1790, 176, 1788] (by decide +kernel)
theorem zd_L_law_11 : qL_law_11.all (zde kL_law) = true := by decide +kernel
theorem zr_L_law_11 : qL_law_11.all (zrow zTab kL_law) = true := by decide +kernel
theorem gw_L_law_11 : (qL_law_11.flatMap (zrq zTab kL_law.1.cls)).all goodWord = true := by decide +kernel
theorem wd_L_law_11 : ∀ w ∈ qL_law_11.flatMap (zrq zTab kL_law.1.cls), w ∈ lw_tbl := zplaces [915, 913, 914, 172, 912, 1795, 1793, 1794, 176, 1792] (by decide +kernel)
end
section
theorem zd_L_law_12 : qL_law_12.all (zde kL_law) = true := by decide +kernel
theorem zr_L_law_12 : qL_law_12.all (zrow zTab kL_law) = true := by decide +kernel
theorem gw_L_law_12 : (qL_law_12.flatMap (zrq zTab kL_law.1.cls)).all goodWord = true := by decide +kernel
theorem wd_L_law_12 : ∀ w ∈ qL_law_12.flatMap (zrq zTab kL_law.1.cls), w ∈ lw_tbl := zplaces [998, 996, 997, 172, 995, 1826, 1824, 1825, 176, 1823, 1104, 1102, 1103, 172, 1101] (by decide +kernel)
theorem zd_L_law_13 : qL_law_13.all (zde kL_law) = true := by decide +kernel
theorem zr_L_law_13 : qL_law_13.all (zrow zTab kL_law) = true := by decide +kernel
theorem gw_L_law_13 : (qL_law_13.flatMap (zrq zTab kL_law.1.cls)).all goodWord = true := by decide +kernel
theorem wd_L_law_13 : ∀ w ∈ qL_law_13.flatMap (zrq zTab kL_law.1.cls), w ∈ lw_tbl := zplaces [1846, 1844, 1845, 176, 1843, 1120, 1118, 1119, 172, 1117] (by decide +kernel)
theorem zd_L_law_14 : qL_law_14.all (zde kL_law) = true := by decide +kernel
theorem zr_L_law_14 : qL_law_14.all (zrow zTab kL_law) = true := by decide +kernel
theorem gw_L_law_14 : (qL_law_14.flatMap (zrq zTab kL_law.1.cls)).all goodWord = true := by decide +kernel
theorem wd_L_law_14 : ∀ w ∈ qL_law_14.flatMap (zrq zTab kL_law.1.cls), w ∈ lw_tbl := zplaces [1854, 1852, 1853, 176, 1851] (by decide +kernel)
theorem zd_L_law_15 : qL_law_15.all (zde kL_law) = true := by decide +kernel
theorem zr_L_law_15 : qL_law_15.all (zrow zTab kL_law) = true := by decide +kernel
theorem gw_L_law_15 : (qL_law_15.flatMap (zrq zTab kL_law.1.cls)).all goodWord = true := by decide +kernel
theorem wd_L_law_15 : ∀ w ∈ qL_law_15.flatMap (zrq zTab kL_law.1.cls), w ∈ lw_tbl := zplaces [1143, 1141, 1142, 172, 1140, 1858, 1856, 1857, 176, 1855] (by decide +kernel)
end
section
theorem zd_L_law_16 : qL_law_16.all (zde kL_law) = true := by decide +kernel
theorem zr_L_law_16 : qL_law_16.all (zrow zTab kL_law) = true := by decide +kernel
theorem gw_L_law_16 : (qL_law_16.flatMap (zrq zTab kL_law.1.cls)).all goodWord = true := by decide +kernel
theorem wd_L_law_16 : ∀ w ∈ qL_law_16.flatMap (zrq zTab kL_law.1.cls), w ∈ lw_tbl := zplaces [1159, 1157, 1158, 172, 1156, 1866, 1864, 1865, 176, 1863] (by decide +kernel)
theorem zd_L_law_17 : qL_law_17.all (zde kL_law) = true := by decide +kernel
theorem zr_L_law_17 : qL_law_17.all (zrow zTab kL_law) = true := by decide +kernel
theorem gw_L_law_17 : (qL_law_17.flatMap (zrq zTab kL_law.1.cls)).all goodWord = true := by decide +kernel
theorem wd_L_law_17 : ∀ w ∈ qL_law_17.flatMap (zrq zTab kL_law.1.cls), w ∈ lw_tbl := zplaces [1171, 1169, 1170, 172, 1168, 1882, 1880, 1881, 176, 1879] (by decide +kernel)
theorem zd_L_law_18 : qL_law_18.all (zde kL_law) = true := by decide +kernel
theorem zr_L_law_18 : qL_law_18.all (zrow zTab kL_law) = true := by decide +kernel
theorem gw_L_law_18 : (qL_law_18.flatMap (zrq zTab kL_law.1.cls)).all goodWord = true := by decide +kernel
theorem wd_L_law_18 : ∀ w ∈ qL_law_18.flatMap (zrq zTab kL_law.1.cls), w ∈ lw_tbl := zplaces [1184, 1182, 1183, 172, 1181, 1898, 1896, 1897, 176, 1895] (by decide +kernel)
theorem zd_L_law_19 : qL_law_19.all (zde kL_law) = true := by decide +kernel
theorem zr_L_law_19 : qL_law_19.all (zrow zTab kL_law) = true := by decide +kernel
theorem gw_L_law_19 : (qL_law_19.flatMap (zrq zTab kL_law.1.cls)).all goodWord = true := by decide +kernel
theorem wd_L_law_19 : ∀ w ∈ qL_law_19.flatMap (zrq zTab kL_law.1.cls), w ∈ lw_tbl := zplaces [1204, 1202, 1203, 172, 1201, 1910, 1908, 1909, 176, 1907] (by decide +kernel)
end
section
theorem zd_L_law_20 : qL_law_20.all (zde kL_law) = true := by decide +kernel
theorem zr_L_law_20 : qL_law_20.all (zrow zTab kL_law) = true := by decide +kernel
theorem gw_L_law_20 : (qL_law_20.flatMap (zrq zTab kL_law.1.cls)).all goodWord = true := by decide +kernel
theorem wd_L_law_20 : ∀ w ∈ qL_law_20.flatMap (zrq zTab kL_law.1.cls), w ∈ lw_tbl := zplaces [1217, 1215, 1216, 172, 1214, 1923, 1921, 1922, 176, 1920, 1233, 1231, 1232, 172, 1230] (by decide +kernel)
theorem zd_L_law_21 : qL_law_21.all (zde kL_law) = true := by decide +kernel
theorem zr_L_law_21 : qL_law_21.all (zrow zTab kL_law) = true := by decide +kernel
theorem gw_L_law_21 : (qL_law_21.flatMap (zrq zTab kL_law.1.cls)).all goodWord = true := by decide +kernel
theorem wd_L_law_21 : ∀ w ∈ qL_law_21.flatMap (zrq zTab kL_law.1.cls), w ∈ lw_tbl := zplaces [1931, 1929, 1930, 176, 1928, 1245, 1243, 1244, 172, 1242] (by decide +kernel)
theorem zd_L_law_22 : qL_law_22.all (zde kL_law) = true := by decide +kernel
theorem zr_L_law_22 : qL_law_22.all (zrow zTab kL_law) = true := by decide +kernel
theorem gw_L_law_22 : (qL_law_22.flatMap (zrq zTab kL_law.1.cls)).all goodWord = true := by decide +kernel
theorem wd_L_law_22 : ∀ w ∈ qL_law_22.flatMap (zrq zTab kL_law.1.cls), w ∈ lw_tbl := zplaces [1943, 1941, 1942, 176, 1940] (by decide +kernel)
theorem zd_L_law_23 : qL_law_23.all (zde kL_law) = true := by decide +kernel
theorem zr_L_law_23 : qL_law_23.all (zrow zTab kL_law) = true := by decide +kernel
theorem gw_L_law_23 : (qL_law_23.flatMap (zrq zTab kL_law.1.cls)).all goodWord = true := by decide +kernel
theorem wd_L_law_23 : ∀ w ∈ qL_law_23.flatMap (zrq zTab kL_law.1.cls), w ∈ lw_tbl := zplaces [1253, 1251, 1252, 172, 1250, 1947, 1945, 1946, 176, 1944] (by decide +kernel)
end
section
theorem zd_L_law_24 : qL_law_24.all (zde kL_law) = true := by decide +kernel
theorem zr_L_law_24 : qL_law_24.all (zrow zTab kL_law) = true := by decide +kernel
theorem gw_L_law_24 : (qL_law_24.flatMap (zrq zTab kL_law.1.cls)).all goodWord = true := by decide +kernel
theorem wd_L_law_24 : ∀ w ∈ qL_law_24.flatMap (zrq zTab kL_law.1.cls), w ∈ lw_tbl := zplaces [1262, 1260, 1261, 172, 1259, 1951, 1949, 1950, 176, 1948, 1272, 1270, 1271, 172, 1269] (by decide +kernel)
theorem zd_L_law_25 : qL_law_25.all (zde kL_law) = true := by decide +kernel
theorem zr_L_law_25 : qL_law_25.all (zrow zTab kL_law) = true := by decide +kernel
theorem gw_L_law_25 : (qL_law_25.flatMap (zrq zTab kL_law.1.cls)).all goodWord = true := by decide +kernel
theorem wd_L_law_25 : ∀ w ∈ qL_law_25.flatMap (zrq zTab kL_law.1.cls), w ∈ lw_tbl := zplaces [1955, 1953, 1954, 176, 1952, 1280, 1278, 1279, 172, 1277, 1959, 1957, 1958, 176, 1956] (by decide +kernel)
theorem zd_L_law_26 : qL_law_26.all (zde kL_law) = true := by decide +kernel
theorem zr_L_law_26 : qL_law_26.all (zrow zTab kL_law) = true := by decide +kernel
theorem gw_L_law_26 : (qL_law_26.flatMap (zrq zTab kL_law.1.cls)).all goodWord = true := by decide +kernel
theorem wd_L_law_26 : ∀ w ∈ qL_law_26.flatMap (zrq zTab kL_law.1.cls), w ∈ lw_tbl := zplaces [1290, 1288, 1289, 172, 1287, 1963, 1961, 1962, 176, 1960, 1320, 1318, 1319, 172, 1317, 1983, 1981, 1982, 176, 1980, 1324, 1322, 1323, 172, 1321] (by decide +kernel)
theorem zd_L_law_27 : qL_law_27.all (zde kL_law) = true := by decide +kernel
theorem zr_L_law_27 : qL_law_27.all (zrow zTab kL_law) = true := by decide +kernel
theorem gw_L_law_27 : (qL_law_27.flatMap (zrq zTab kL_law.1.cls)).all goodWord = true := by decide +kernel
theorem wd_L_law_27 : ∀ w ∈ qL_law_27.flatMap (zrq zTab kL_law.1.cls), w ∈ lw_tbl := zplaces [1987, 1985, 1986, 176, 1984, 1335, 1333, 1334, 172, 1332, 1998, 1996, 1997, 176, 1995] (by decide +kernel)
end
section
theorem ok_L_law : zokM zTab kL_law := ⟨zall_app zd_L_law_0 (zall_app zd_L_law_1 (zall_app zd_L_law_2 (zall_app zd_L_law_3 (zall_app zd_L_law_4 (zall_app zd_L_law_5 (zall_app zd_L_law_6 (zall_app zd_L_law_7 (zall_app zd_L_law_8 (zall_app zd_L_law_9 (zall_app zd_L_law_10 (zall_app zd_L_law_11 (zall_app zd_L_law_12 (zall_app zd_L_law_13 (zall_app zd_L_law_14 (zall_app zd_L_law_15 (zall_app zd_L_law_16 (zall_app zd_L_law_17 (zall_app zd_L_law_18 (zall_app zd_L_law_19 (zall_app zd_L_law_20 (zall_app zd_L_law_21 (zall_app zd_L_law_22 (zall_app zd_L_law_23 (zall_app zd_L_law_24 (zall_app zd_L_law_25 (zall_app zd_L_law_26 (zd_L_law_27))))))))))))))))))))))))))), zall_app zr_L_law_0 (zall_app zr_L_law_1 (zall_app zr_L_law_2 (zall_app zr_L_law_3 (zall_app zr_L_law_4 (zall_app zr_L_law_5 (zall_app zr_L_law_6 (zall_app zr_L_law_7 (zall_app zr_L_law_8 (zall_app zr_L_law_9 (zall_app zr_L_law_10 (zall_app zr_L_law_11 (zall_app zr_L_law_12 (zall_app zr_L_law_13 (zall_app zr_L_law_14 (zall_app zr_L_law_15 (zall_app zr_L_law_16 (zall_app zr_L_law_17 (zall_app zr_L_law_18 (zall_app zr_L_law_19 (zall_app zr_L_law_20 (zall_app zr_L_law_21 (zall_app zr_L_law_22 (zall_app zr_L_law_23 (zall_app zr_L_law_24 (zall_app zr_L_law_25 (zall_app zr_L_law_26 (zr_L_law_27))))))))))))))))))))))))))), by decide +kernel⟩
theorem gw_L_law : (kL_law.2.2.2.2.2.flatMap (zrq zTab kL_law.1.cls)).all goodWord = true := zfg_app gw_L_law_0 (zfg_app gw_L_law_1 (zfg_app gw_L_law_2 (zfg_app gw_L_law_3 (zfg_app gw_L_law_4 (zfg_app gw_L_law_5 (zfg_app gw_L_law_6 (zfg_app gw_L_law_7 (zfg_app gw_L_law_8 (zfg_app gw_L_law_9 (zfg_app gw_L_law_10 (zfg_app gw_L_law_11 (zfg_app gw_L_law_12 (zfg_app gw_L_law_13 (zfg_app gw_L_law_14 (zfg_app gw_L_law_15 (zfg_app gw_L_law_16 (zfg_app gw_L_law_17 (zfg_app gw_L_law_18 (zfg_app gw_L_law_19 (zfg_app gw_L_law_20 (zfg_app gw_L_law_21 (zfg_app gw_L_law_22 (zfg_app gw_L_law_23 (zfg_app gw_L_law_24 (zfg_app gw_L_law_25 (zfg_app gw_L_law_26 (gw_L_law_27)))))))))))))))))))))))))))
theorem wd_L_law : ∀ w ∈ kL_law.2.2.2.2.2.flatMap (zrq zTab kL_law.1.cls), w ∈ lw_tbl := zfm_app wd_L_law_0 (zfm_app wd_L_law_1 (zfm_app wd_L_law_2 (zfm_app wd_L_law_3 (zfm_app wd_L_law_4 (zfm_app wd_L_law_5 (zfm_app wd_L_law_6 (zfm_app wd_L_law_7 (zfm_app wd_L_law_8 (zfm_app wd_L_law_9 (zfm_app wd_L_law_10 (zfm_app wd_L_law_11 (zfm_app wd_L_law_12 (zfm_app wd_L_law_13 (zfm_app wd_L_law_14 (zfm_app wd_L_law_15 (zfm_app wd_L_law_16 (zfm_app wd_L_law_17 (zfm_app wd_L_law_18 (zfm_app wd_L_law_19 (zfm_app wd_L_law_20 (zfm_app wd_L_law_21 (zfm_app wd_L_law_22 (zfm_app wd_L_law_23 (zfm_app wd_L_law_24 (zfm_app wd_L_law_25 (zfm_app wd_L_law_26 (wd_L_law_27)))))))))))))))))))))))))))
end
section
theorem ok_X11_init : zokM zTab kX11_init := ⟨by decide +kernel, by decide +kernel, by decide +kernel⟩
theorem gw_X11_init : (kX11_init.2.2.2.2.2.flatMap (zrq zTab kX11_init.1.cls)).all goodWord = true := by decide +kernel
theorem wd_X11_init : ∀ w ∈ kX11_init.2.2.2.2.2.flatMap (zrq zTab kX11_init.1.cls), w ∈ lw_tbl := zplaces [198, 199, 200, 201, 202, 173, 205, 204, 173, 317, 201, 318, 249, 250, 174, 253, 252, 174, 319, 285, 286, 175, 289, 288, 175, 320, 313, 321, 315, 322, 323, 324] (by decide +kernel)
theorem ok_X11_feed : zokM zTab kX11_feed := ⟨by decide +kernel, by decide +kernel, by decide +kernel⟩
theorem gw_X11_feed : (kX11_feed.2.2.2.2.2.flatMap (zrq zTab kX11_feed.1.cls)).all goodWord = true := by decide +kernel
theorem wd_X11_feed : ∀ w ∈ kX11_feed.2.2.2.2.2.flatMap (zrq zTab kX11_feed.1.cls), w ∈ lw_tbl := zplaces [317, 317, 349, 348, 0, 173, 317, 349, 348, 0, 173, 317, 349, 348, 0, 173, 317, 349, 348, 0, 173, 317, 349, 348, 0, 173, 317] (by decide +kernel)
theorem ok_X11_end : zokM zTab kX11_end := ⟨by decide +kernel, by decide +kernel, by decide +kernel⟩
theorem gw_X11_end : (kX11_end.2.2.2.2.2.flatMap (zrq zTab kX11_end.1.cls)).all goodWord = true := by decide +kernel
theorem wd_X11_end : ∀ w ∈ kX11_end.2.2.2.2.2.flatMap (zrq zTab kX11_end.1.cls), w ∈ lw_tbl := zplaces [317, 317] (by decide +kernel)
theorem ok_X11_text : zokM zTab kX11_text := ⟨by decide +kernel, by decide +kernel, by decide +kernel⟩
theorem gw_X11_text : (kX11_text.2.2.2.2.2.flatMap (zrq zTab kX11_text.1.cls)).all goodWord = true := by decide +kernel
theorem wd_X11_text : ∀ w ∈ kX11_text.2.2.2.2.2.flatMap (zrq zTab kX11_text.1.cls), w ∈ lw_tbl := zplaces [317, 317, 317, 317, 317, 361, 360, 1, 172, 358, 317, 319, 317, 319, 317, 627, 628, 185, 629] (by decide +kernel)
theorem ok_X11_fault : zokM zTab kX11_fault := ⟨by decide +kernel, by decide +kernel, by decide +kernel⟩
theorem gw_X11_fault : (kX11_fault.2.2.2.2.2.flatMap (zrq zTab kX11_fault.1.cls)).all goodWord = true := by decide +kernel
theorem wd_X11_fault : ∀ w ∈ kX11_fault.2.2.2.2.2.flatMap (zrq zTab kX11_fault.1.cls), w ∈ lw_tbl := zplaces [317, 317] (by decide +kernel)
theorem ok_X11_book : zokM zTab kX11_book := ⟨by decide +kernel, by decide +kernel, by decide +kernel⟩
theorem gw_X11_book : (kX11_book.2.2.2.2.2.flatMap (zrq zTab kX11_book.1.cls)).all goodWord = true := by decide +kernel
theorem wd_X11_book : ∀ w ∈ kX11_book.2.2.2.2.2.flatMap (zrq zTab kX11_book.1.cls), w ∈ lw_tbl := zplaces [641, 640, 13, 172, 638] (by decide +kernel)
theorem ok_X11_word : zokM zTab kX11_word := ⟨by decide +kernel, by decide +kernel, by decide +kernel⟩
theorem gw_X11_word : (kX11_word.2.2.2.2.2.flatMap (zrq zTab kX11_word.1.cls)).all goodWord = true := by decide +kernel
theorem wd_X11_word : ∀ w ∈ kX11_word.2.2.2.2.2.flatMap (zrq zTab kX11_word.1.cls), w ∈ lw_tbl := zplaces [660, 659, 172, 658, 663, 662, 172, 661, 666, 665, 172, 664] (by decide +kernel)
theorem ok_X11_drift : zokM zTab kX11_drift := ⟨by decide +kernel, by decide +kernel, by decide +kernel⟩
theorem gw_X11_drift : (kX11_drift.2.2.2.2.2.flatMap (zrq zTab kX11_drift.1.cls)).all goodWord = true := by decide +kernel
theorem wd_X11_drift : ∀ w ∈ kX11_drift.2.2.2.2.2.flatMap (zrq zTab kX11_drift.1.cls), w ∈ lw_tbl := zplaces [660, 659, 172, 658, 660, 659, 172, 658, 679, 678, 172, 677] (by decide +kernel)
theorem ok_X11_read : zokM zTab kX11_read := ⟨by decide +kernel, by decide +kernel, by decide +kernel⟩
theorem gw_X11_read : (kX11_read.2.2.2.2.2.flatMap (zrq zTab kX11_read.1.cls)).all goodWord = true := by decide +kernel
theorem wd_X11_read : ∀ w ∈ kX11_read.2.2.2.2.2.flatMap (zrq zTab kX11_read.1.cls), w ∈ lw_tbl := zplaces [641, 640, 13, 172, 638, 660, 659, 172, 658] (by decide +kernel)
theorem ok_X11_deed : zokM zTab kX11_deed := ⟨by decide +kernel, by decide +kernel, by decide +kernel⟩
theorem gw_X11_deed : (kX11_deed.2.2.2.2.2.flatMap (zrq zTab kX11_deed.1.cls)).all goodWord = true := by decide +kernel
theorem wd_X11_deed : ∀ w ∈ kX11_deed.2.2.2.2.2.flatMap (zrq zTab kX11_deed.1.cls), w ∈ lw_tbl := zplaces [727, 726, 20, 172, 724] (by decide +kernel)
theorem ok_X11_stop : zokM zTab kX11_stop := ⟨by decide +kernel, by decide +kernel, by decide +kernel⟩
theorem gw_X11_stop : (kX11_stop.2.2.2.2.2.flatMap (zrq zTab kX11_stop.1.cls)).all goodWord = true := by decide +kernel
theorem wd_X11_stop : ∀ w ∈ kX11_stop.2.2.2.2.2.flatMap (zrq zTab kX11_stop.1.cls), w ∈ lw_tbl := zplaces [641, 640, 13, 172, 638, 727, 726, 20, 172, 724, 320, 320] (by decide +kernel)
theorem ok_X11_state : zokM zTab kX11_state := ⟨by decide +kernel, by decide +kernel, by decide +kernel⟩
theorem gw_X11_state : (kX11_state.2.2.2.2.2.flatMap (zrq zTab kX11_state.1.cls)).all goodWord = true := by decide +kernel
theorem wd_X11_state : ∀ w ∈ kX11_state.2.2.2.2.2.flatMap (zrq zTab kX11_state.1.cls), w ∈ lw_tbl := zplaces [641, 640, 13, 172, 638, 727, 726, 20, 172, 724, 320, 320, 320] (by decide +kernel)
theorem ok_X11_making : zokM zTab kX11_making := ⟨by decide +kernel, by decide +kernel, by decide +kernel⟩
theorem gw_X11_making : (kX11_making.2.2.2.2.2.flatMap (zrq zTab kX11_making.1.cls)).all goodWord = true := by decide +kernel
theorem wd_X11_making : ∀ w ∈ kX11_making.2.2.2.2.2.flatMap (zrq zTab kX11_making.1.cls), w ∈ lw_tbl := zplaces [792, 791, 31, 172, 789, 660, 659, 172, 658, 660, 659, 172, 658] (by decide +kernel)
theorem ok_X11_ring : zokM zTab kX11_ring := ⟨by decide +kernel, by decide +kernel, by decide +kernel⟩
theorem gw_X11_ring : (kX11_ring.2.2.2.2.2.flatMap (zrq zTab kX11_ring.1.cls)).all goodWord = true := by decide +kernel
theorem wd_X11_ring : ∀ w ∈ kX11_ring.2.2.2.2.2.flatMap (zrq zTab kX11_ring.1.cls), w ∈ lw_tbl := zplaces [792, 791, 31, 172, 789, 660, 659, 172, 658] (by decide +kernel)
theorem ok_X11_reach : zokM zTab kX11_reach := ⟨by decide +kernel, by decide +kernel, by decide +kernel⟩
theorem gw_X11_reach : (kX11_reach.2.2.2.2.2.flatMap (zrq zTab kX11_reach.1.cls)).all goodWord = true := by decide +kernel
theorem wd_X11_reach : ∀ w ∈ kX11_reach.2.2.2.2.2.flatMap (zrq zTab kX11_reach.1.cls), w ∈ lw_tbl := zplaces [792, 791, 31, 172, 789, 660, 659, 172, 658] (by decide +kernel)
theorem ok_X11_sound : zokM zTab kX11_sound := ⟨by decide +kernel, by decide +kernel, by decide +kernel⟩
theorem gw_X11_sound : (kX11_sound.2.2.2.2.2.flatMap (zrq zTab kX11_sound.1.cls)).all goodWord = true := by decide +kernel
theorem wd_X11_sound : ∀ w ∈ kX11_sound.2.2.2.2.2.flatMap (zrq zTab kX11_sound.1.cls), w ∈ lw_tbl := zplaces [792, 791, 31, 172, 789] (by decide +kernel)
theorem ok_X11_like : zokM zTab kX11_like := ⟨by decide +kernel, by decide +kernel, by decide +kernel⟩
theorem gw_X11_like : (kX11_like.2.2.2.2.2.flatMap (zrq zTab kX11_like.1.cls)).all goodWord = true := by decide +kernel
theorem wd_X11_like : ∀ w ∈ kX11_like.2.2.2.2.2.flatMap (zrq zTab kX11_like.1.cls), w ∈ lw_tbl := zplaces [792, 791, 31, 172, 789] (by decide +kernel)
theorem ok_X11_orbits : zokM zTab kX11_orbits := ⟨by decide +kernel, by decide +kernel, by decide +kernel⟩
theorem gw_X11_orbits : (kX11_orbits.2.2.2.2.2.flatMap (zrq zTab kX11_orbits.1.cls)).all goodWord = true := by decide +kernel
theorem wd_X11_orbits : ∀ w ∈ kX11_orbits.2.2.2.2.2.flatMap (zrq zTab kX11_orbits.1.cls), w ∈ lw_tbl := zplaces [792, 791, 31, 172, 789] (by decide +kernel)
theorem ok_X11_rota : zokM zTab kX11_rota := ⟨by decide +kernel, by decide +kernel, by decide +kernel⟩
theorem gw_X11_rota : (kX11_rota.2.2.2.2.2.flatMap (zrq zTab kX11_rota.1.cls)).all goodWord = true := by decide +kernel
theorem wd_X11_rota : ∀ w ∈ kX11_rota.2.2.2.2.2.flatMap (zrq zTab kX11_rota.1.cls), w ∈ lw_tbl := zplaces [792, 791, 31, 172, 789, 1001, 1000, 172, 999] (by decide +kernel)
end
section
theorem ok_X11_mean : zokM zTab kX11_mean := ⟨by decide +kernel, by decide +kernel, by decide +kernel⟩
theorem gw_X11_mean : (kX11_mean.2.2.2.2.2.flatMap (zrq zTab kX11_mean.1.cls)).all goodWord = true := by decide +kernel
theorem wd_X11_mean : ∀ w ∈ kX11_mean.2.2.2.2.2.flatMap (zrq zTab kX11_mean.1.cls), w ∈ lw_tbl := zplaces [792, 791, 31, 172, 789, 1001, 1000, 172, 999, 1105, 1105] (by decide +kernel)
theorem ok_X11_elders : zokM zTab kX11_elders := ⟨by decide +kernel, by decide +kernel, by decide +kernel⟩
theorem gw_X11_elders : (kX11_elders.2.2.2.2.2.flatMap (zrq zTab kX11_elders.1.cls)).all goodWord = true := by decide +kernel
theorem wd_X11_elders : ∀ w ∈ kX11_elders.2.2.2.2.2.flatMap (zrq zTab kX11_elders.1.cls), w ∈ lw_tbl := zplaces [792, 791, 31, 172, 789, 660, 659, 172, 658, 1001, 1000, 172, 999] (by decide +kernel)
theorem ok_X11_play : zokM zTab kX11_play := ⟨by decide +kernel, by decide +kernel, by decide +kernel⟩
theorem gw_X11_play : (kX11_play.2.2.2.2.2.flatMap (zrq zTab kX11_play.1.cls)).all goodWord = true := by decide +kernel
theorem wd_X11_play : ∀ w ∈ kX11_play.2.2.2.2.2.flatMap (zrq zTab kX11_play.1.cls), w ∈ lw_tbl := zplaces [792, 791, 31, 172, 789, 1001, 1000, 172, 999, 560, 559, 172, 1144] (by decide +kernel)
theorem ok_X11_fact : zokM zTab kX11_fact := ⟨by decide +kernel, by decide +kernel, by decide +kernel⟩
theorem gw_X11_fact : (kX11_fact.2.2.2.2.2.flatMap (zrq zTab kX11_fact.1.cls)).all goodWord = true := by decide +kernel
theorem wd_X11_fact : ∀ w ∈ kX11_fact.2.2.2.2.2.flatMap (zrq zTab kX11_fact.1.cls), w ∈ lw_tbl := zplaces [1163, 1162, 72, 172, 1160] (by decide +kernel)
theorem ok_X11_fits : zokM zTab kX11_fits := ⟨by decide +kernel, by decide +kernel, by decide +kernel⟩
theorem gw_X11_fits : (kX11_fits.2.2.2.2.2.flatMap (zrq zTab kX11_fits.1.cls)).all goodWord = true := by decide +kernel
theorem wd_X11_fits : ∀ w ∈ kX11_fits.2.2.2.2.2.flatMap (zrq zTab kX11_fits.1.cls), w ∈ lw_tbl := zplaces [792, 791, 31, 172, 789, 1163, 1162, 72, 172, 1160, 1001, 1000, 172, 999, 660, 659, 172, 658] (by decide +kernel)
theorem ok_X11_sure : zokM zTab kX11_sure := ⟨by decide +kernel, by decide +kernel, by decide +kernel⟩
theorem gw_X11_sure : (kX11_sure.2.2.2.2.2.flatMap (zrq zTab kX11_sure.1.cls)).all goodWord = true := by decide +kernel
theorem wd_X11_sure : ∀ w ∈ kX11_sure.2.2.2.2.2.flatMap (zrq zTab kX11_sure.1.cls), w ∈ lw_tbl := zplaces [792, 791, 31, 172, 789, 1163, 1162, 72, 172, 1160, 1001, 1000, 172, 999] (by decide +kernel)
theorem ok_X11_drawn : zokM zTab kX11_drawn := ⟨by decide +kernel, by decide +kernel, by decide +kernel⟩
theorem gw_X11_drawn : (kX11_drawn.2.2.2.2.2.flatMap (zrq zTab kX11_drawn.1.cls)).all goodWord = true := by decide +kernel
theorem wd_X11_drawn : ∀ w ∈ kX11_drawn.2.2.2.2.2.flatMap (zrq zTab kX11_drawn.1.cls), w ∈ lw_tbl := zplaces [641, 640, 13, 172, 638, 320, 320, 320] (by decide +kernel)
theorem ok_X11_kinship : zokM zTab kX11_kinship := ⟨by decide +kernel, by decide +kernel, by decide +kernel⟩
theorem gw_X11_kinship : (kX11_kinship.2.2.2.2.2.flatMap (zrq zTab kX11_kinship.1.cls)).all goodWord = true := by decide +kernel
theorem wd_X11_kinship : ∀ w ∈ kX11_kinship.2.2.2.2.2.flatMap (zrq zTab kX11_kinship.1.cls), w ∈ lw_tbl := zplaces [641, 640, 13, 172, 638, 560, 559, 172, 1144] (by decide +kernel)
theorem ok_X11_shared : zokM zTab kX11_shared := ⟨by decide +kernel, by decide +kernel, by decide +kernel⟩
theorem gw_X11_shared : (kX11_shared.2.2.2.2.2.flatMap (zrq zTab kX11_shared.1.cls)).all goodWord = true := by decide +kernel
theorem wd_X11_shared : ∀ w ∈ kX11_shared.2.2.2.2.2.flatMap (zrq zTab kX11_shared.1.cls), w ∈ lw_tbl := zplaces [660, 659, 172, 658, 660, 659, 172, 658, 1236, 1235, 172, 1234, 663, 662, 172, 661] (by decide +kernel)
theorem ok_X11_joined : zokM zTab kX11_joined := ⟨by decide +kernel, by decide +kernel, by decide +kernel⟩
theorem gw_X11_joined : (kX11_joined.2.2.2.2.2.flatMap (zrq zTab kX11_joined.1.cls)).all goodWord = true := by decide +kernel
theorem wd_X11_joined : ∀ w ∈ kX11_joined.2.2.2.2.2.flatMap (zrq zTab kX11_joined.1.cls), w ∈ lw_tbl := zplaces [792, 791, 31, 172, 789, 660, 659, 172, 658, 660, 659, 172, 658] (by decide +kernel)
theorem ok_X11_nearest : zokM zTab kX11_nearest := ⟨by decide +kernel, by decide +kernel, by decide +kernel⟩
theorem gw_X11_nearest : (kX11_nearest.2.2.2.2.2.flatMap (zrq zTab kX11_nearest.1.cls)).all goodWord = true := by decide +kernel
theorem wd_X11_nearest : ∀ w ∈ kX11_nearest.2.2.2.2.2.flatMap (zrq zTab kX11_nearest.1.cls), w ∈ lw_tbl := zplaces [792, 791, 31, 172, 789, 660, 659, 172, 658, 660, 659, 172, 658, 679, 678, 172, 677] (by decide +kernel)
theorem ok_X11_settles : zokM zTab kX11_settles := ⟨by decide +kernel, by decide +kernel, by decide +kernel⟩
theorem gw_X11_settles : (kX11_settles.2.2.2.2.2.flatMap (zrq zTab kX11_settles.1.cls)).all goodWord = true := by decide +kernel
theorem wd_X11_settles : ∀ w ∈ kX11_settles.2.2.2.2.2.flatMap (zrq zTab kX11_settles.1.cls), w ∈ lw_tbl := zplaces [792, 791, 31, 172, 789, 660, 659, 172, 658] (by decide +kernel)
theorem ok_X11_unmade : zokM zTab kX11_unmade := ⟨by decide +kernel, by decide +kernel, by decide +kernel⟩
theorem gw_X11_unmade : (kX11_unmade.2.2.2.2.2.flatMap (zrq zTab kX11_unmade.1.cls)).all goodWord = true := by decide +kernel
theorem wd_X11_unmade : ∀ w ∈ kX11_unmade.2.2.2.2.2.flatMap (zrq zTab kX11_unmade.1.cls), w ∈ lw_tbl := zplaces [792, 791, 31, 172, 789] (by decide +kernel)
theorem ok_X11_silenced : zokM zTab kX11_silenced := ⟨by decide +kernel, by decide +kernel, by decide +kernel⟩
theorem gw_X11_silenced : (kX11_silenced.2.2.2.2.2.flatMap (zrq zTab kX11_silenced.1.cls)).all goodWord = true := by decide +kernel
theorem wd_X11_silenced : ∀ w ∈ kX11_silenced.2.2.2.2.2.flatMap (zrq zTab kX11_silenced.1.cls), w ∈ lw_tbl := zplaces [792, 791, 31, 172, 789, 660, 659, 172, 658, 660, 659, 172, 658] (by decide +kernel)
theorem ok_X11_circles : zokM zTab kX11_circles := ⟨by decide +kernel, by decide +kernel, by decide +kernel⟩
theorem gw_X11_circles : (kX11_circles.2.2.2.2.2.flatMap (zrq zTab kX11_circles.1.cls)).all goodWord = true := by decide +kernel
theorem wd_X11_circles : ∀ w ∈ kX11_circles.2.2.2.2.2.flatMap (zrq zTab kX11_circles.1.cls), w ∈ lw_tbl := zplaces [792, 791, 31, 172, 789, 660, 659, 172, 658] (by decide +kernel)
end
section
theorem ok_X11_count : zokM zTab kX11_count := ⟨by decide +kernel, by decide +kernel, by decide +kernel⟩
theorem gw_X11_count : (kX11_count.2.2.2.2.2.flatMap (zrq zTab kX11_count.1.cls)).all goodWord = true := by decide +kernel
theorem wd_X11_count : ∀ w ∈ kX11_count.2.2.2.2.2.flatMap (zrq zTab kX11_count.1.cls), w ∈ lw_tbl := zplaces [317] (by decide +kernel)
theorem ok_X11_image : zokM zTab kX11_image := ⟨by decide +kernel, by decide +kernel, by decide +kernel⟩
theorem gw_X11_image : (kX11_image.2.2.2.2.2.flatMap (zrq zTab kX11_image.1.cls)).all goodWord = true := by decide +kernel
theorem wd_X11_image : ∀ w ∈ kX11_image.2.2.2.2.2.flatMap (zrq zTab kX11_image.1.cls), w ∈ lw_tbl := zplaces [318, 318, 201, 202, 173, 205, 204, 173, 318, 317, 1328, 1327, 95, 173] (by decide +kernel)
theorem ok_X11_again : zokM zTab kX11_again := ⟨by decide +kernel, by decide +kernel, by decide +kernel⟩
theorem gw_X11_again : (kX11_again.2.2.2.2.2.flatMap (zrq zTab kX11_again.1.cls)).all goodWord = true := by decide +kernel
theorem wd_X11_again : ∀ w ∈ kX11_again.2.2.2.2.2.flatMap (zrq zTab kX11_again.1.cls), w ∈ lw_tbl := zplaces [318, 317, 318, 1328, 1327, 95, 173] (by decide +kernel)
theorem ok_X11_tellInto : zokM zTab kX11_tellInto := ⟨by decide +kernel, by decide +kernel, by decide +kernel⟩
theorem gw_X11_tellInto : (kX11_tellInto.2.2.2.2.2.flatMap (zrq zTab kX11_tellInto.1.cls)).all goodWord = true := by decide +kernel
theorem wd_X11_tellInto : ∀ w ∈ kX11_tellInto.2.2.2.2.2.flatMap (zrq zTab kX11_tellInto.1.cls), w ∈ lw_tbl := zplaces [362, 363, 178, 366, 365, 178, 319, 317, 404, 403, 2, 174, 317, 584, 585, 183, 588, 587, 183, 319, 317, 404, 403, 2, 174, 317, 608, 609, 184, 612, 611, 184, 319, 317, 404, 403, 2, 174, 317] (by decide +kernel)
theorem ok_X11_bookAt : zokM zTab kX11_bookAt := ⟨by decide +kernel, by decide +kernel, by decide +kernel⟩
theorem gw_X11_bookAt : (kX11_bookAt.2.2.2.2.2.flatMap (zrq zTab kX11_bookAt.1.cls)).all goodWord = true := by decide +kernel
theorem wd_X11_bookAt : ∀ w ∈ kX11_bookAt.2.2.2.2.2.flatMap (zrq zTab kX11_bookAt.1.cls), w ∈ lw_tbl := zplaces [317, 317] (by decide +kernel)
theorem ok_X11_yearAt : zokM zTab kX11_yearAt := ⟨by decide +kernel, by decide +kernel, by decide +kernel⟩
theorem gw_X11_yearAt : (kX11_yearAt.2.2.2.2.2.flatMap (zrq zTab kX11_yearAt.1.cls)).all goodWord = true := by decide +kernel
theorem wd_X11_yearAt : ∀ w ∈ kX11_yearAt.2.2.2.2.2.flatMap (zrq zTab kX11_yearAt.1.cls), w ∈ lw_tbl := zplaces [317, 317] (by decide +kernel)
theorem ok_X11_sightAt : zokM zTab kX11_sightAt := ⟨by decide +kernel, by decide +kernel, by decide +kernel⟩
theorem gw_X11_sightAt : (kX11_sightAt.2.2.2.2.2.flatMap (zrq zTab kX11_sightAt.1.cls)).all goodWord = true := by decide +kernel
theorem wd_X11_sightAt : ∀ w ∈ kX11_sightAt.2.2.2.2.2.flatMap (zrq zTab kX11_sightAt.1.cls), w ∈ lw_tbl := zplaces [317, 317] (by decide +kernel)
theorem ok_X11_readingsAt : zokM zTab kX11_readingsAt := ⟨by decide +kernel, by decide +kernel, by decide +kernel⟩
theorem gw_X11_readingsAt : (kX11_readingsAt.2.2.2.2.2.flatMap (zrq zTab kX11_readingsAt.1.cls)).all goodWord = true := by decide +kernel
theorem wd_X11_readingsAt : ∀ w ∈ kX11_readingsAt.2.2.2.2.2.flatMap (zrq zTab kX11_readingsAt.1.cls), w ∈ lw_tbl := zplaces [641, 640, 13, 172, 638, 321, 321, 313, 793, 187, 321, 321] (by decide +kernel)
theorem ok_X11_isText : zokM zTab kX11_isText := ⟨by decide +kernel, by decide +kernel, by decide +kernel⟩
theorem gw_X11_isText : (kX11_isText.2.2.2.2.2.flatMap (zrq zTab kX11_isText.1.cls)).all goodWord = true := by decide +kernel
theorem wd_X11_isText : ∀ w ∈ kX11_isText.2.2.2.2.2.flatMap (zrq zTab kX11_isText.1.cls), w ∈ lw_tbl := zplaces [] (by decide +kernel)
theorem ok_X11_isWord : zokM zTab kX11_isWord := ⟨by decide +kernel, by decide +kernel, by decide +kernel⟩
theorem gw_X11_isWord : (kX11_isWord.2.2.2.2.2.flatMap (zrq zTab kX11_isWord.1.cls)).all goodWord = true := by decide +kernel
theorem wd_X11_isWord : ∀ w ∈ kX11_isWord.2.2.2.2.2.flatMap (zrq zTab kX11_isWord.1.cls), w ∈ lw_tbl := zplaces [] (by decide +kernel)
theorem ok_X11_isSpan : zokM zTab kX11_isSpan := ⟨by decide +kernel, by decide +kernel, by decide +kernel⟩
theorem gw_X11_isSpan : (kX11_isSpan.2.2.2.2.2.flatMap (zrq zTab kX11_isSpan.1.cls)).all goodWord = true := by decide +kernel
theorem wd_X11_isSpan : ∀ w ∈ kX11_isSpan.2.2.2.2.2.flatMap (zrq zTab kX11_isSpan.1.cls), w ∈ lw_tbl := zplaces [] (by decide +kernel)
theorem ok_X11_isIn : zokM zTab kX11_isIn := ⟨by decide +kernel, by decide +kernel, by decide +kernel⟩
theorem gw_X11_isIn : (kX11_isIn.2.2.2.2.2.flatMap (zrq zTab kX11_isIn.1.cls)).all goodWord = true := by decide +kernel
theorem wd_X11_isIn : ∀ w ∈ kX11_isIn.2.2.2.2.2.flatMap (zrq zTab kX11_isIn.1.cls), w ∈ lw_tbl := zplaces [] (by decide +kernel)
theorem ok_X11_longer : zokM zTab kX11_longer := ⟨by decide +kernel, by decide +kernel, by decide +kernel⟩
theorem gw_X11_longer : (kX11_longer.2.2.2.2.2.flatMap (zrq zTab kX11_longer.1.cls)).all goodWord = true := by decide +kernel
theorem wd_X11_longer : ∀ w ∈ kX11_longer.2.2.2.2.2.flatMap (zrq zTab kX11_longer.1.cls), w ∈ lw_tbl := zplaces [] (by decide +kernel)
theorem ok_X11_lengthOf : zokM zTab kX11_lengthOf := ⟨by decide +kernel, by decide +kernel, by decide +kernel⟩
theorem gw_X11_lengthOf : (kX11_lengthOf.2.2.2.2.2.flatMap (zrq zTab kX11_lengthOf.1.cls)).all goodWord = true := by decide +kernel
theorem wd_X11_lengthOf : ∀ w ∈ kX11_lengthOf.2.2.2.2.2.flatMap (zrq zTab kX11_lengthOf.1.cls), w ∈ lw_tbl := zplaces [] (by decide +kernel)
theorem ok_X11_bitsOf : zokM zTab kX11_bitsOf := ⟨by decide +kernel, by decide +kernel, by decide +kernel⟩
theorem gw_X11_bitsOf : (kX11_bitsOf.2.2.2.2.2.flatMap (zrq zTab kX11_bitsOf.1.cls)).all goodWord = true := by decide +kernel
theorem wd_X11_bitsOf : ∀ w ∈ kX11_bitsOf.2.2.2.2.2.flatMap (zrq zTab kX11_bitsOf.1.cls), w ∈ lw_tbl := zplaces [663, 662, 172, 661] (by decide +kernel)
theorem ok_X11_wordAt : zokM zTab kX11_wordAt := ⟨by decide +kernel, by decide +kernel, by decide +kernel⟩
theorem gw_X11_wordAt : (kX11_wordAt.2.2.2.2.2.flatMap (zrq zTab kX11_wordAt.1.cls)).all goodWord = true := by decide +kernel
theorem wd_X11_wordAt : ∀ w ∈ kX11_wordAt.2.2.2.2.2.flatMap (zrq zTab kX11_wordAt.1.cls), w ∈ lw_tbl := zplaces [669, 668, 172, 667, 663, 662, 172, 661, 672, 671, 172, 670] (by decide +kernel)
theorem ok_X11_wordOfBits : zokM zTab kX11_wordOfBits := ⟨by decide +kernel, by decide +kernel, by decide +kernel⟩
theorem gw_X11_wordOfBits : (kX11_wordOfBits.2.2.2.2.2.flatMap (zrq zTab kX11_wordOfBits.1.cls)).all goodWord = true := by decide +kernel
theorem wd_X11_wordOfBits : ∀ w ∈ kX11_wordOfBits.2.2.2.2.2.flatMap (zrq zTab kX11_wordOfBits.1.cls), w ∈ lw_tbl := zplaces [] (by decide +kernel)
theorem ok_X11_driftOf : zokM zTab kX11_driftOf := ⟨by decide +kernel, by decide +kernel, by decide +kernel⟩
theorem gw_X11_driftOf : (kX11_driftOf.2.2.2.2.2.flatMap (zrq zTab kX11_driftOf.1.cls)).all goodWord = true := by decide +kernel
theorem wd_X11_driftOf : ∀ w ∈ kX11_driftOf.2.2.2.2.2.flatMap (zrq zTab kX11_driftOf.1.cls), w ∈ lw_tbl := zplaces [669, 668, 172, 667, 669, 668, 172, 667, 663, 662, 172, 661, 663, 662, 172, 661, 672, 671, 172, 670, 672, 671, 172, 670, 680, 681, 185, 682, 680, 681, 185, 682] (by decide +kernel)
theorem ok_X11_mostShared : zokM zTab kX11_mostShared := ⟨by decide +kernel, by decide +kernel, by decide +kernel⟩
theorem gw_X11_mostShared : (kX11_mostShared.2.2.2.2.2.flatMap (zrq zTab kX11_mostShared.1.cls)).all goodWord = true := by decide +kernel
theorem wd_X11_mostShared : ∀ w ∈ kX11_mostShared.2.2.2.2.2.flatMap (zrq zTab kX11_mostShared.1.cls), w ∈ lw_tbl := zplaces [663, 662, 172, 661, 758, 757, 172, 1237, 666, 665, 172, 664, 557, 556, 172, 1238, 663, 662, 172, 661, 663, 662, 172, 661, 1241, 1240, 172, 1239] (by decide +kernel)
theorem ok_X11_isLeftOf : zokM zTab kX11_isLeftOf := ⟨by decide +kernel, by decide +kernel, by decide +kernel⟩
theorem gw_X11_isLeftOf : (kX11_isLeftOf.2.2.2.2.2.flatMap (zrq zTab kX11_isLeftOf.1.cls)).all goodWord = true := by decide +kernel
theorem wd_X11_isLeftOf : ∀ w ∈ kX11_isLeftOf.2.2.2.2.2.flatMap (zrq zTab kX11_isLeftOf.1.cls), w ∈ lw_tbl := zplaces [663, 662, 172, 661, 663, 662, 172, 661, 666, 665, 172, 664, 666, 665, 172, 664] (by decide +kernel)
end
section
theorem ok_X8_init : zokM zTab kX8_init := ⟨by decide +kernel, by decide +kernel, by decide +kernel⟩
theorem gw_X8_init : (kX8_init.2.2.2.2.2.flatMap (zrq zTab kX8_init.1.cls)).all goodWord = true := by decide +kernel
theorem wd_X8_init : ∀ w ∈ kX8_init.2.2.2.2.2.flatMap (zrq zTab kX8_init.1.cls), w ∈ lw_tbl := zplaces [206, 199, 200, 246, 213, 215, 217, 219, 247, 221, 207, 223, 209, 225, 211, 227] (by decide +kernel)
theorem ok_X8_putBytes : zokM zTab kX8_putBytes := ⟨by decide +kernel, by decide +kernel, by decide +kernel⟩
theorem gw_X8_putBytes : (kX8_putBytes.2.2.2.2.2.flatMap (zrq zTab kX8_putBytes.1.cls)).all goodWord = true := by decide +kernel
theorem wd_X8_putBytes : ∀ w ∈ kX8_putBytes.2.2.2.2.2.flatMap (zrq zTab kX8_putBytes.1.cls), w ∈ lw_tbl := zplaces [215, 213, 215, 215, 215] (by decide +kernel)
theorem ok_X8_becomes : zokM zTab kX8_becomes := ⟨by decide +kernel, by decide +kernel, by decide +kernel⟩
theorem gw_X8_becomes : (kX8_becomes.2.2.2.2.2.flatMap (zrq zTab kX8_becomes.1.cls)).all goodWord = true := by decide +kernel
theorem wd_X8_becomes : ∀ w ∈ kX8_becomes.2.2.2.2.2.flatMap (zrq zTab kX8_becomes.1.cls), w ∈ lw_tbl := zplaces [213, 213, 1329, 1331, 1330, 192, 215, 215, 217, 217, 219, 219, 221, 221, 1329, 1331, 1330, 192, 223, 223, 225, 225, 227, 227] (by decide +kernel)
theorem ok_X7_init : zokM zTab kX7_init := ⟨by decide +kernel, by decide +kernel, by decide +kernel⟩
theorem gw_X7_init : (kX7_init.2.2.2.2.2.flatMap (zrq zTab kX7_init.1.cls)).all goodWord = true := by decide +kernel
theorem wd_X7_init : ∀ w ∈ kX7_init.2.2.2.2.2.flatMap (zrq zTab kX7_init.1.cls), w ∈ lw_tbl := zplaces [254, 199, 200, 255, 256, 257, 258, 259, 260, 264, 266] (by decide +kernel)
theorem ok_X7_tell : zokM zTab kX7_tell := ⟨by decide +kernel, by decide +kernel, by decide +kernel⟩
theorem gw_X7_tell : (kX7_tell.2.2.2.2.2.flatMap (zrq zTab kX7_tell.1.cls)).all goodWord = true := by decide +kernel
theorem wd_X7_tell : ∀ w ∈ kX7_tell.2.2.2.2.2.flatMap (zrq zTab kX7_tell.1.cls), w ∈ lw_tbl := zplaces [255, 256, 257, 264, 266, 408, 407, 3, 174, 405, 258, 264, 259, 266, 264] (by decide +kernel)
theorem ok_X7_advance : zokM zTab kX7_advance := ⟨by decide +kernel, by decide +kernel, by decide +kernel⟩
theorem gw_X7_advance : (kX7_advance.2.2.2.2.2.flatMap (zrq zTab kX7_advance.1.cls)).all goodWord = true := by decide +kernel
theorem wd_X7_advance : ∀ w ∈ kX7_advance.2.2.2.2.2.flatMap (zrq zTab kX7_advance.1.cls), w ∈ lw_tbl := zplaces [257, 256, 255, 257, 255, 257, 257, 257, 257, 259, 257, 256, 258, 257, 258, 257, 256, 257, 257, 257, 257, 255, 257, 258, 257, 257] (by decide +kernel)
theorem ok_X1_init : zokM zTab kX1_init := ⟨by decide +kernel, by decide +kernel, by decide +kernel⟩
theorem gw_X1_init : (kX1_init.2.2.2.2.2.flatMap (zrq zTab kX1_init.1.cls)).all goodWord = true := by decide +kernel
theorem wd_X1_init : ∀ w ∈ kX1_init.2.2.2.2.2.flatMap (zrq zTab kX1_init.1.cls), w ∈ lw_tbl := zplaces [290, 199, 200, 291, 292, 293, 294, 295, 247, 296, 247, 297] (by decide +kernel)
theorem ok_X3_init : zokM zTab kX3_init := ⟨by decide +kernel, by decide +kernel, by decide +kernel⟩
theorem gw_X3_init : (kX3_init.2.2.2.2.2.flatMap (zrq zTab kX3_init.1.cls)).all goodWord = true := by decide +kernel
theorem wd_X3_init : ∀ w ∈ kX3_init.2.2.2.2.2.flatMap (zrq zTab kX3_init.1.cls), w ∈ lw_tbl := zplaces [370, 199, 200] (by decide +kernel)
theorem ok_X0_init : zokM zTab kX0_init := ⟨by decide +kernel, by decide +kernel, by decide +kernel⟩
theorem gw_X0_init : (kX0_init.2.2.2.2.2.flatMap (zrq zTab kX0_init.1.cls)).all goodWord = true := by decide +kernel
theorem wd_X0_init : ∀ w ∈ kX0_init.2.2.2.2.2.flatMap (zrq zTab kX0_init.1.cls), w ∈ lw_tbl := zplaces [369, 368, 177, 371, 374, 381, 247, 382, 247, 383, 247, 384, 247, 385] (by decide +kernel)
theorem ok_X10_init : zokM zTab kX10_init := ⟨by decide +kernel, by decide +kernel, by decide +kernel⟩
theorem gw_X10_init : (kX10_init.2.2.2.2.2.flatMap (zrq zTab kX10_init.1.cls)).all goodWord = true := by decide +kernel
theorem wd_X10_init : ∀ w ∈ kX10_init.2.2.2.2.2.flatMap (zrq zTab kX10_init.1.cls), w ∈ lw_tbl := zplaces [369, 368, 177, 590, 247, 593, 247, 595, 247, 597] (by decide +kernel)
theorem ok_X6_init : zokM zTab kX6_init := ⟨by decide +kernel, by decide +kernel, by decide +kernel⟩
theorem gw_X6_init : (kX6_init.2.2.2.2.2.flatMap (zrq zTab kX6_init.1.cls)).all goodWord = true := by decide +kernel
theorem wd_X6_init : ∀ w ∈ kX6_init.2.2.2.2.2.flatMap (zrq zTab kX6_init.1.cls), w ∈ lw_tbl := zplaces [369, 368, 177, 614, 247, 616, 247, 618] (by decide +kernel)
theorem ok_X12_init : zokM zTab kX12_init := ⟨by decide +kernel, by decide +kernel, by decide +kernel⟩
theorem gw_X12_init : (kX12_init.2.2.2.2.2.flatMap (zrq zTab kX12_init.1.cls)).all goodWord = true := by decide +kernel
theorem wd_X12_init : ∀ w ∈ kX12_init.2.2.2.2.2.flatMap (zrq zTab kX12_init.1.cls), w ∈ lw_tbl := zplaces [1341, 199, 200, 246, 1344, 247, 1345, 247, 1346, 247, 1347, 247, 1348, 247, 1349, 247, 1350, 247, 1351, 247, 1361, 247, 1362, 1364, 247, 1367, 247, 1368, 247, 1370, 247, 1372, 247, 1373, 247, 1377, 247, 1378, 247, 1379, 247, 1380, 247, 1382, 1342, 247, 1383, 1342, 247, 1385, 1342, 247, 1386, 247, 1388, 247, 1389, 247, 1390, 247, 1391, 247, 1392, 247, 1393, 1500, 1394, 1347] (by decide +kernel)
end
section
theorem ok_X12_feed : zokM zTab kX12_feed := ⟨by decide +kernel, by decide +kernel, by decide +kernel⟩
theorem gw_X12_feed : (kX12_feed.2.2.2.2.2.flatMap (zrq zTab kX12_feed.1.cls)).all goodWord = true := by decide +kernel
theorem wd_X12_feed : ∀ w ∈ kX12_feed.2.2.2.2.2.flatMap (zrq zTab kX12_feed.1.cls), w ∈ lw_tbl := zplaces [1343, 1345, 1508, 1507, 96, 176, 1505, 1508, 1507, 96, 176, 1505, 1508, 1507, 96, 176, 1505, 1508, 1507, 96, 176, 1505, 1508, 1507, 96, 176, 1505, 1345] (by decide +kernel)
theorem ok_X12_end : zokM zTab kX12_end := ⟨by decide +kernel, by decide +kernel, by decide +kernel⟩
theorem gw_X12_end : (kX12_end.2.2.2.2.2.flatMap (zrq zTab kX12_end.1.cls)).all goodWord = true := by decide +kernel
theorem wd_X12_end : ∀ w ∈ kX12_end.2.2.2.2.2.flatMap (zrq zTab kX12_end.1.cls), w ∈ lw_tbl := zplaces [1343, 1345, 1515, 1514, 176, 1513, 1345] (by decide +kernel)
theorem ok_X12_text : zokM zTab kX12_text := ⟨by decide +kernel, by decide +kernel, by decide +kernel⟩
theorem gw_X12_text : (kX12_text.2.2.2.2.2.flatMap (zrq zTab kX12_text.1.cls)).all goodWord = true := by decide +kernel
theorem wd_X12_text : ∀ w ∈ kX12_text.2.2.2.2.2.flatMap (zrq zTab kX12_text.1.cls), w ∈ lw_tbl := zplaces [1343, 1345, 1353, 1345, 1346, 1347, 1515, 1514, 176, 1513, 1348, 1523, 1522, 97, 176, 1520, 1527, 1526, 98, 176, 1524, 1348, 1348, 1349, 1618, 1617, 114, 176, 1615, 1364, 1350, 1618, 1617, 114, 176, 1615, 1351, 1618, 1617, 114, 176, 1615] (by decide +kernel)
theorem ok_X12_fault : zokM zTab kX12_fault := ⟨by decide +kernel, by decide +kernel, by decide +kernel⟩
theorem gw_X12_fault : (kX12_fault.2.2.2.2.2.flatMap (zrq zTab kX12_fault.1.cls)).all goodWord = true := by decide +kernel
theorem wd_X12_fault : ∀ w ∈ kX12_fault.2.2.2.2.2.flatMap (zrq zTab kX12_fault.1.cls), w ∈ lw_tbl := zplaces [1343, 1346, 1347] (by decide +kernel)
theorem ok_X12_book : zokM zTab kX12_book := ⟨by decide +kernel, by decide +kernel, by decide +kernel⟩
theorem gw_X12_book : (kX12_book.2.2.2.2.2.flatMap (zrq zTab kX12_book.1.cls)).all goodWord = true := by decide +kernel
theorem wd_X12_book : ∀ w ∈ kX12_book.2.2.2.2.2.flatMap (zrq zTab kX12_book.1.cls), w ∈ lw_tbl := zplaces [1343, 1630, 1629, 115, 176, 1627, 1515, 1514, 176, 1513, 1366, 1515, 1514, 176, 1513, 1366, 1515, 1514, 176, 1513, 1365, 1366] (by decide +kernel)
theorem ok_X12_word : zokM zTab kX12_word := ⟨by decide +kernel, by decide +kernel, by decide +kernel⟩
theorem gw_X12_word : (kX12_word.2.2.2.2.2.flatMap (zrq zTab kX12_word.1.cls)).all goodWord = true := by decide +kernel
theorem wd_X12_word : ∀ w ∈ kX12_word.2.2.2.2.2.flatMap (zrq zTab kX12_word.1.cls), w ∈ lw_tbl := zplaces [1343, 1641, 1640, 176, 1639, 1644, 1643, 176, 1642, 1515, 1514, 176, 1513, 1367, 1647, 1646, 176, 1645, 1644, 1643, 176, 1642, 1367] (by decide +kernel)
theorem ok_X12_drift : zokM zTab kX12_drift := ⟨by decide +kernel, by decide +kernel, by decide +kernel⟩
theorem gw_X12_drift : (kX12_drift.2.2.2.2.2.flatMap (zrq zTab kX12_drift.1.cls)).all goodWord = true := by decide +kernel
theorem wd_X12_drift : ∀ w ∈ kX12_drift.2.2.2.2.2.flatMap (zrq zTab kX12_drift.1.cls), w ∈ lw_tbl := zplaces [1343, 1641, 1640, 176, 1639, 1641, 1640, 176, 1639, 1655, 1654, 117, 176, 1652] (by decide +kernel)
theorem ok_X12_read : zokM zTab kX12_read := ⟨by decide +kernel, by decide +kernel, by decide +kernel⟩
theorem gw_X12_read : (kX12_read.2.2.2.2.2.flatMap (zrq zTab kX12_read.1.cls)).all goodWord = true := by decide +kernel
theorem wd_X12_read : ∀ w ∈ kX12_read.2.2.2.2.2.flatMap (zrq zTab kX12_read.1.cls), w ∈ lw_tbl := zplaces [1343, 1630, 1629, 115, 176, 1627, 1641, 1640, 176, 1639] (by decide +kernel)
theorem ok_X12_deed : zokM zTab kX12_deed := ⟨by decide +kernel, by decide +kernel, by decide +kernel⟩
theorem gw_X12_deed : (kX12_deed.2.2.2.2.2.flatMap (zrq zTab kX12_deed.1.cls)).all goodWord = true := by decide +kernel
theorem wd_X12_deed : ∀ w ∈ kX12_deed.2.2.2.2.2.flatMap (zrq zTab kX12_deed.1.cls), w ∈ lw_tbl := zplaces [1343, 1699, 1698, 126, 176, 1696, 1515, 1514, 176, 1513, 1515, 1514, 176, 1513] (by decide +kernel)
theorem ok_X12_stop : zokM zTab kX12_stop := ⟨by decide +kernel, by decide +kernel, by decide +kernel⟩
theorem gw_X12_stop : (kX12_stop.2.2.2.2.2.flatMap (zrq zTab kX12_stop.1.cls)).all goodWord = true := by decide +kernel
theorem wd_X12_stop : ∀ w ∈ kX12_stop.2.2.2.2.2.flatMap (zrq zTab kX12_stop.1.cls), w ∈ lw_tbl := zplaces [1343, 1715, 1714, 129, 176, 1712] (by decide +kernel)
theorem ok_X12_state : zokM zTab kX12_state := ⟨by decide +kernel, by decide +kernel, by decide +kernel⟩
theorem gw_X12_state : (kX12_state.2.2.2.2.2.flatMap (zrq zTab kX12_state.1.cls)).all goodWord = true := by decide +kernel
theorem wd_X12_state : ∀ w ∈ kX12_state.2.2.2.2.2.flatMap (zrq zTab kX12_state.1.cls), w ∈ lw_tbl := zplaces [1343, 1715, 1714, 129, 176, 1712, 1515, 1514, 176, 1513] (by decide +kernel)
theorem ok_X12_making : zokM zTab kX12_making := ⟨by decide +kernel, by decide +kernel, by decide +kernel⟩
theorem gw_X12_making : (kX12_making.2.2.2.2.2.flatMap (zrq zTab kX12_making.1.cls)).all goodWord = true := by decide +kernel
theorem wd_X12_making : ∀ w ∈ kX12_making.2.2.2.2.2.flatMap (zrq zTab kX12_making.1.cls), w ∈ lw_tbl := zplaces [1343, 1641, 1640, 176, 1639, 1641, 1640, 176, 1639, 1758, 1757, 137, 176, 1755, 1379, 1515, 1514, 176, 1513, 1379, 1377, 1379, 1377] (by decide +kernel)
theorem ok_X12_ring : zokM zTab kX12_ring := ⟨by decide +kernel, by decide +kernel, by decide +kernel⟩
theorem gw_X12_ring : (kX12_ring.2.2.2.2.2.flatMap (zrq zTab kX12_ring.1.cls)).all goodWord = true := by decide +kernel
theorem wd_X12_ring : ∀ w ∈ kX12_ring.2.2.2.2.2.flatMap (zrq zTab kX12_ring.1.cls), w ∈ lw_tbl := zplaces [1343, 1641, 1640, 176, 1639, 1758, 1757, 137, 176, 1755, 1378, 1366, 1377, 1378, 1585, 1584, 176, 1583] (by decide +kernel)
end
section
theorem ok_X12_reach : zokM zTab kX12_reach := ⟨by decide +kernel, by decide +kernel, by decide +kernel⟩
theorem gw_X12_reach : (kX12_reach.2.2.2.2.2.flatMap (zrq zTab kX12_reach.1.cls)).all goodWord = true := by decide +kernel
theorem wd_X12_reach : ∀ w ∈ kX12_reach.2.2.2.2.2.flatMap (zrq zTab kX12_reach.1.cls), w ∈ lw_tbl := zplaces [1343, 1641, 1640, 176, 1639, 1758, 1757, 137, 176, 1755, 1378, 1378, 1380, 1381, 1381] (by decide +kernel)
theorem ok_X12_sound : zokM zTab kX12_sound := ⟨by decide +kernel, by decide +kernel, by decide +kernel⟩
theorem gw_X12_sound : (kX12_sound.2.2.2.2.2.flatMap (zrq zTab kX12_sound.1.cls)).all goodWord = true := by decide +kernel
theorem wd_X12_sound : ∀ w ∈ kX12_sound.2.2.2.2.2.flatMap (zrq zTab kX12_sound.1.cls), w ∈ lw_tbl := zplaces [1343, 1630, 1629, 115, 176, 1627, 1366, 1515, 1514, 176, 1513] (by decide +kernel)
theorem ok_X12_like : zokM zTab kX12_like := ⟨by decide +kernel, by decide +kernel, by decide +kernel⟩
theorem gw_X12_like : (kX12_like.2.2.2.2.2.flatMap (zrq zTab kX12_like.1.cls)).all goodWord = true := by decide +kernel
theorem wd_X12_like : ∀ w ∈ kX12_like.2.2.2.2.2.flatMap (zrq zTab kX12_like.1.cls), w ∈ lw_tbl := zplaces [1343, 1630, 1629, 115, 176, 1627, 1377, 1377, 1377, 1377] (by decide +kernel)
theorem ok_X12_orbits : zokM zTab kX12_orbits := ⟨by decide +kernel, by decide +kernel, by decide +kernel⟩
theorem gw_X12_orbits : (kX12_orbits.2.2.2.2.2.flatMap (zrq zTab kX12_orbits.1.cls)).all goodWord = true := by decide +kernel
theorem wd_X12_orbits : ∀ w ∈ kX12_orbits.2.2.2.2.2.flatMap (zrq zTab kX12_orbits.1.cls), w ∈ lw_tbl := zplaces [1343, 1630, 1629, 115, 176, 1627, 1515, 1514, 176, 1513] (by decide +kernel)
theorem ok_X12_rota : zokM zTab kX12_rota := ⟨by decide +kernel, by decide +kernel, by decide +kernel⟩
theorem gw_X12_rota : (kX12_rota.2.2.2.2.2.flatMap (zrq zTab kX12_rota.1.cls)).all goodWord = true := by decide +kernel
theorem wd_X12_rota : ∀ w ∈ kX12_rota.2.2.2.2.2.flatMap (zrq zTab kX12_rota.1.cls), w ∈ lw_tbl := zplaces [1343, 1515, 1514, 176, 1513, 1630, 1629, 115, 176, 1627, 1366, 1515, 1514, 176, 1513, 1515, 1514, 176, 1513, 1383, 1365] (by decide +kernel)
theorem ok_X12_mean : zokM zTab kX12_mean := ⟨by decide +kernel, by decide +kernel, by decide +kernel⟩
theorem gw_X12_mean : (kX12_mean.2.2.2.2.2.flatMap (zrq zTab kX12_mean.1.cls)).all goodWord = true := by decide +kernel
theorem wd_X12_mean : ∀ w ∈ kX12_mean.2.2.2.2.2.flatMap (zrq zTab kX12_mean.1.cls), w ∈ lw_tbl := zplaces [1343, 1515, 1514, 176, 1513, 1630, 1629, 115, 176, 1627, 1366, 1847, 1366, 1366, 1383, 1377, 1383, 1383, 1365] (by decide +kernel)
theorem ok_X12_elders : zokM zTab kX12_elders := ⟨by decide +kernel, by decide +kernel, by decide +kernel⟩
theorem gw_X12_elders : (kX12_elders.2.2.2.2.2.flatMap (zrq zTab kX12_elders.1.cls)).all goodWord = true := by decide +kernel
theorem wd_X12_elders : ∀ w ∈ kX12_elders.2.2.2.2.2.flatMap (zrq zTab kX12_elders.1.cls), w ∈ lw_tbl := zplaces [1343, 1515, 1514, 176, 1513, 1641, 1640, 176, 1639, 1758, 1757, 137, 176, 1755, 1378, 1379, 1366, 1379, 1378, 1377, 1378, 1379, 1378, 1378] (by decide +kernel)
theorem ok_X12_play_ : zokM zTab kX12_play_ := ⟨by decide +kernel, by decide +kernel, by decide +kernel⟩
theorem gw_X12_play_ : (kX12_play_.2.2.2.2.2.flatMap (zrq zTab kX12_play_.1.cls)).all goodWord = true := by decide +kernel
theorem wd_X12_play_ : ∀ w ∈ kX12_play_.2.2.2.2.2.flatMap (zrq zTab kX12_play_.1.cls), w ∈ lw_tbl := zplaces [1343, 1515, 1514, 176, 1513, 1515, 1514, 176, 1513, 1630, 1629, 115, 176, 1627, 1515, 1514, 176, 1513, 1515, 1514, 176, 1513, 1383, 1383, 1365, 1366, 1734, 1733, 176, 1732, 1383, 1377, 1365, 1383, 1365] (by decide +kernel)
end
section
theorem ok_X12_fact : zokM zTab kX12_fact := ⟨by decide +kernel, by decide +kernel, by decide +kernel⟩
theorem gw_X12_fact : (kX12_fact.2.2.2.2.2.flatMap (zrq zTab kX12_fact.1.cls)).all goodWord = true := by decide +kernel
theorem wd_X12_fact : ∀ w ∈ kX12_fact.2.2.2.2.2.flatMap (zrq zTab kX12_fact.1.cls), w ∈ lw_tbl := zplaces [1343, 1870, 1869, 153, 176, 1867, 1515, 1514, 176, 1513, 1515, 1514, 176, 1513] (by decide +kernel)
theorem ok_X12_fits : zokM zTab kX12_fits := ⟨by decide +kernel, by decide +kernel, by decide +kernel⟩
theorem gw_X12_fits : (kX12_fits.2.2.2.2.2.flatMap (zrq zTab kX12_fits.1.cls)).all goodWord = true := by decide +kernel
theorem wd_X12_fits : ∀ w ∈ kX12_fits.2.2.2.2.2.flatMap (zrq zTab kX12_fits.1.cls), w ∈ lw_tbl := zplaces [1343, 1515, 1514, 176, 1513, 1641, 1640, 176, 1639, 1870, 1869, 153, 176, 1867, 1758, 1757, 137, 176, 1755, 1385] (by decide +kernel)
theorem ok_X12_sure : zokM zTab kX12_sure := ⟨by decide +kernel, by decide +kernel, by decide +kernel⟩
theorem gw_X12_sure : (kX12_sure.2.2.2.2.2.flatMap (zrq zTab kX12_sure.1.cls)).all goodWord = true := by decide +kernel
theorem wd_X12_sure : ∀ w ∈ kX12_sure.2.2.2.2.2.flatMap (zrq zTab kX12_sure.1.cls), w ∈ lw_tbl := zplaces [1343, 1515, 1514, 176, 1513, 1515, 1514, 176, 1513, 1870, 1869, 153, 176, 1867, 1758, 1757, 137, 176, 1755, 1366] (by decide +kernel)
theorem ok_X12_drawn : zokM zTab kX12_drawn := ⟨by decide +kernel, by decide +kernel, by decide +kernel⟩
theorem gw_X12_drawn : (kX12_drawn.2.2.2.2.2.flatMap (zrq zTab kX12_drawn.1.cls)).all goodWord = true := by decide +kernel
theorem wd_X12_drawn : ∀ w ∈ kX12_drawn.2.2.2.2.2.flatMap (zrq zTab kX12_drawn.1.cls), w ∈ lw_tbl := zplaces [1343, 1515, 1514, 176, 1513, 1630, 1629, 115, 176, 1627, 1387] (by decide +kernel)
theorem ok_X12_kinship : zokM zTab kX12_kinship := ⟨by decide +kernel, by decide +kernel, by decide +kernel⟩
theorem gw_X12_kinship : (kX12_kinship.2.2.2.2.2.flatMap (zrq zTab kX12_kinship.1.cls)).all goodWord = true := by decide +kernel
theorem wd_X12_kinship : ∀ w ∈ kX12_kinship.2.2.2.2.2.flatMap (zrq zTab kX12_kinship.1.cls), w ∈ lw_tbl := zplaces [1343, 1630, 1629, 115, 176, 1627, 1515, 1514, 176, 1513] (by decide +kernel)
theorem ok_X12_shared : zokM zTab kX12_shared := ⟨by decide +kernel, by decide +kernel, by decide +kernel⟩
theorem gw_X12_shared : (kX12_shared.2.2.2.2.2.flatMap (zrq zTab kX12_shared.1.cls)).all goodWord = true := by decide +kernel
theorem wd_X12_shared : ∀ w ∈ kX12_shared.2.2.2.2.2.flatMap (zrq zTab kX12_shared.1.cls), w ∈ lw_tbl := zplaces [1343, 1641, 1640, 176, 1639, 1641, 1640, 176, 1639, 1644, 1643, 176, 1642, 1935, 1934, 164, 176, 1932, 1644, 1643, 176, 1642, 1644, 1643, 176, 1642, 1644, 1643, 176, 1642, 1644, 1643, 176, 1642, 1939, 1938, 165, 176, 1936, 1644, 1643, 176, 1642] (by decide +kernel)
theorem ok_X12_joined : zokM zTab kX12_joined := ⟨by decide +kernel, by decide +kernel, by decide +kernel⟩
theorem gw_X12_joined : (kX12_joined.2.2.2.2.2.flatMap (zrq zTab kX12_joined.1.cls)).all goodWord = true := by decide +kernel
theorem wd_X12_joined : ∀ w ∈ kX12_joined.2.2.2.2.2.flatMap (zrq zTab kX12_joined.1.cls), w ∈ lw_tbl := zplaces [1343, 1641, 1640, 176, 1639, 1641, 1640, 176, 1639, 1758, 1757, 137, 176, 1755, 1378, 1379, 1378, 1379, 1585, 1584, 176, 1583] (by decide +kernel)
theorem ok_X12_nearest : zokM zTab kX12_nearest := ⟨by decide +kernel, by decide +kernel, by decide +kernel⟩
theorem gw_X12_nearest : (kX12_nearest.2.2.2.2.2.flatMap (zrq zTab kX12_nearest.1.cls)).all goodWord = true := by decide +kernel
theorem wd_X12_nearest : ∀ w ∈ kX12_nearest.2.2.2.2.2.flatMap (zrq zTab kX12_nearest.1.cls), w ∈ lw_tbl := zplaces [1343, 1641, 1640, 176, 1639, 1641, 1640, 176, 1639, 1758, 1757, 137, 176, 1755, 1378, 1378, 1655, 1654, 117, 176, 1652, 1585, 1584, 176, 1583] (by decide +kernel)
theorem ok_X12_settles : zokM zTab kX12_settles := ⟨by decide +kernel, by decide +kernel, by decide +kernel⟩
theorem gw_X12_settles : (kX12_settles.2.2.2.2.2.flatMap (zrq zTab kX12_settles.1.cls)).all goodWord = true := by decide +kernel
theorem wd_X12_settles : ∀ w ∈ kX12_settles.2.2.2.2.2.flatMap (zrq zTab kX12_settles.1.cls), w ∈ lw_tbl := zplaces [1343, 1641, 1640, 176, 1639, 1758, 1757, 137, 176, 1755, 1378, 1378, 1378] (by decide +kernel)
theorem ok_X12_unmade : zokM zTab kX12_unmade := ⟨by decide +kernel, by decide +kernel, by decide +kernel⟩
theorem gw_X12_unmade : (kX12_unmade.2.2.2.2.2.flatMap (zrq zTab kX12_unmade.1.cls)).all goodWord = true := by decide +kernel
theorem wd_X12_unmade : ∀ w ∈ kX12_unmade.2.2.2.2.2.flatMap (zrq zTab kX12_unmade.1.cls), w ∈ lw_tbl := zplaces [1343, 1758, 1757, 137, 176, 1755, 1382, 1366, 1382, 1377, 1382, 1382] (by decide +kernel)
end
section
theorem ok_X12_silenced : zokM zTab kX12_silenced := ⟨by decide +kernel, by decide +kernel, by decide +kernel⟩
theorem gw_X12_silenced : (kX12_silenced.2.2.2.2.2.flatMap (zrq zTab kX12_silenced.1.cls)).all goodWord = true := by decide +kernel
theorem wd_X12_silenced : ∀ w ∈ kX12_silenced.2.2.2.2.2.flatMap (zrq zTab kX12_silenced.1.cls), w ∈ lw_tbl := zplaces [1343, 1641, 1640, 176, 1639, 1641, 1640, 176, 1639, 1758, 1757, 137, 176, 1755, 1366, 1734, 1733, 176, 1732, 1378, 1378] (by decide +kernel)
theorem ok_X12_circles : zokM zTab kX12_circles := ⟨by decide +kernel, by decide +kernel, by decide +kernel⟩
theorem gw_X12_circles : (kX12_circles.2.2.2.2.2.flatMap (zrq zTab kX12_circles.1.cls)).all goodWord = true := by decide +kernel
theorem wd_X12_circles : ∀ w ∈ kX12_circles.2.2.2.2.2.flatMap (zrq zTab kX12_circles.1.cls), w ∈ lw_tbl := zplaces [1343, 1515, 1514, 176, 1513, 1758, 1757, 137, 176, 1755, 1391, 1391, 1390] (by decide +kernel)
theorem ok_X12_count : zokM zTab kX12_count := ⟨by decide +kernel, by decide +kernel, by decide +kernel⟩
theorem gw_X12_count : (kX12_count.2.2.2.2.2.flatMap (zrq zTab kX12_count.1.cls)).all goodWord = true := by decide +kernel
theorem wd_X12_count : ∀ w ∈ kX12_count.2.2.2.2.2.flatMap (zrq zTab kX12_count.1.cls), w ∈ lw_tbl := zplaces [1343, 1515, 1514, 176, 1513, 1348] (by decide +kernel)
theorem ok_X12_image : zokM zTab kX12_image := ⟨by decide +kernel, by decide +kernel, by decide +kernel⟩
theorem gw_X12_image : (kX12_image.2.2.2.2.2.flatMap (zrq zTab kX12_image.1.cls)).all goodWord = true := by decide +kernel
theorem wd_X12_image : ∀ w ∈ kX12_image.2.2.2.2.2.flatMap (zrq zTab kX12_image.1.cls), w ∈ lw_tbl := zplaces [1343, 1515, 1514, 176, 1513, 1991, 1990, 170, 176, 1988, 1394] (by decide +kernel)
theorem ok_X12_again : zokM zTab kX12_again := ⟨by decide +kernel, by decide +kernel, by decide +kernel⟩
theorem gw_X12_again : (kX12_again.2.2.2.2.2.flatMap (zrq zTab kX12_again.1.cls)).all goodWord = true := by decide +kernel
theorem wd_X12_again : ∀ w ∈ kX12_again.2.2.2.2.2.flatMap (zrq zTab kX12_again.1.cls), w ∈ lw_tbl := zplaces [1343, 1515, 1514, 176, 1513, 1394, 1991, 1990, 170, 176, 1988, 1364] (by decide +kernel)
theorem ok_X12_in : zokM zTab kX12_in := ⟨by decide +kernel, by decide +kernel, by decide +kernel⟩
theorem gw_X12_in : (kX12_in.2.2.2.2.2.flatMap (zrq zTab kX12_in.1.cls)).all goodWord = true := by decide +kernel
theorem wd_X12_in : ∀ w ∈ kX12_in.2.2.2.2.2.flatMap (zrq zTab kX12_in.1.cls), w ∈ lw_tbl := zplaces [] (by decide +kernel)
theorem ok_X12_has : zokM zTab kX12_has := ⟨by decide +kernel, by decide +kernel, by decide +kernel⟩
theorem gw_X12_has : (kX12_has.2.2.2.2.2.flatMap (zrq zTab kX12_has.1.cls)).all goodWord = true := by decide +kernel
theorem wd_X12_has : ∀ w ∈ kX12_has.2.2.2.2.2.flatMap (zrq zTab kX12_has.1.cls), w ∈ lw_tbl := zplaces [] (by decide +kernel)
theorem ok_X12_lesser : zokM zTab kX12_lesser := ⟨by decide +kernel, by decide +kernel, by decide +kernel⟩
theorem gw_X12_lesser : (kX12_lesser.2.2.2.2.2.flatMap (zrq zTab kX12_lesser.1.cls)).all goodWord = true := by decide +kernel
theorem wd_X12_lesser : ∀ w ∈ kX12_lesser.2.2.2.2.2.flatMap (zrq zTab kX12_lesser.1.cls), w ∈ lw_tbl := zplaces [] (by decide +kernel)
theorem ok_X12_copyRow : zokM zTab kX12_copyRow := ⟨by decide +kernel, by decide +kernel, by decide +kernel⟩
theorem gw_X12_copyRow : (kX12_copyRow.2.2.2.2.2.flatMap (zrq zTab kX12_copyRow.1.cls)).all goodWord = true := by decide +kernel
theorem wd_X12_copyRow : ∀ w ∈ kX12_copyRow.2.2.2.2.2.flatMap (zrq zTab kX12_copyRow.1.cls), w ∈ lw_tbl := zplaces [] (by decide +kernel)
theorem ok_X12_copyAll : zokM zTab kX12_copyAll := ⟨by decide +kernel, by decide +kernel, by decide +kernel⟩
theorem gw_X12_copyAll : (kX12_copyAll.2.2.2.2.2.flatMap (zrq zTab kX12_copyAll.1.cls)).all goodWord = true := by decide +kernel
theorem wd_X12_copyAll : ∀ w ∈ kX12_copyAll.2.2.2.2.2.flatMap (zrq zTab kX12_copyAll.1.cls), w ∈ lw_tbl := zplaces [1344, 1344, 1345, 1994, 1993, 176, 1992, 1346, 1994, 1993, 176, 1992, 1347, 1994, 1993, 176, 1992, 1348, 1994, 1993, 176, 1992, 1349, 1994, 1993, 176, 1992, 1350, 1994, 1993, 176, 1992, 1351, 1994, 1993, 176, 1992] (by decide +kernel)
theorem ok_X12_is : zokM zTab kX12_is := ⟨by decide +kernel, by decide +kernel, by decide +kernel⟩
theorem gw_X12_is : (kX12_is.2.2.2.2.2.flatMap (zrq zTab kX12_is.1.cls)).all goodWord = true := by decide +kernel
theorem wd_X12_is : ∀ w ∈ kX12_is.2.2.2.2.2.flatMap (zrq zTab kX12_is.1.cls), w ∈ lw_tbl := zplaces [1348, 1515, 1514, 176, 1513] (by decide +kernel)
theorem ok_X12_four : zokM zTab kX12_four := ⟨by decide +kernel, by decide +kernel, by decide +kernel⟩
theorem gw_X12_four : (kX12_four.2.2.2.2.2.flatMap (zrq zTab kX12_four.1.cls)).all goodWord = true := by decide +kernel
theorem wd_X12_four : ∀ w ∈ kX12_four.2.2.2.2.2.flatMap (zrq zTab kX12_four.1.cls), w ∈ lw_tbl := zplaces [1344, 1345, 1345] (by decide +kernel)
theorem ok_X12_see : zokM zTab kX12_see := ⟨by decide +kernel, by decide +kernel, by decide +kernel⟩
theorem gw_X12_see : (kX12_see.2.2.2.2.2.flatMap (zrq zTab kX12_see.1.cls)).all goodWord = true := by decide +kernel
theorem wd_X12_see : ∀ w ∈ kX12_see.2.2.2.2.2.flatMap (zrq zTab kX12_see.1.cls), w ∈ lw_tbl := zplaces [1352, 1353, 1344, 1352] (by decide +kernel)
theorem ok_X12_token : zokM zTab kX12_token := ⟨by decide +kernel, by decide +kernel, by decide +kernel⟩
theorem gw_X12_token : (kX12_token.2.2.2.2.2.flatMap (zrq zTab kX12_token.1.cls)).all goodWord = true := by decide +kernel
theorem wd_X12_token : ∀ w ∈ kX12_token.2.2.2.2.2.flatMap (zrq zTab kX12_token.1.cls), w ∈ lw_tbl := zplaces [1535, 1534, 100, 176, 1532, 1535, 1534, 100, 176, 1532, 1352, 1352, 1352, 1354, 1535, 1534, 100, 176, 1532, 1357, 1355, 1515, 1514, 176, 1513, 1535, 1534, 100, 176, 1532, 1515, 1514, 176, 1513, 1357, 1535, 1534, 100, 176, 1532, 1357, 1352, 1352, 1357, 1357, 1355, 1515, 1514, 176, 1513, 1356, 1535, 1534, 100, 176, 1532, 1515, 1514, 176, 1513, 1356, 1535, 1534, 100, 176, 1532, 1356, 1356, 1352, 1352, 1355, 1352, 1352, 1355] (by decide +kernel)
theorem ok_X12_lines : zokM zTab kX12_lines := ⟨by decide +kernel, by decide +kernel, by decide +kernel⟩
theorem gw_X12_lines : (kX12_lines.2.2.2.2.2.flatMap (zrq zTab kX12_lines.1.cls)).all goodWord = true := by decide +kernel
theorem wd_X12_lines : ∀ w ∈ kX12_lines.2.2.2.2.2.flatMap (zrq zTab kX12_lines.1.cls), w ∈ lw_tbl := zplaces [1355, 1355, 1357, 1354, 1355, 1531, 1530, 99, 176, 1528] (by decide +kernel)
end
section
theorem ok_X12_readText : zokM zTab kX12_readText := ⟨by decide +kernel, by decide +kernel, by decide +kernel⟩
theorem gw_X12_readText : (kX12_readText.2.2.2.2.2.flatMap (zrq zTab kX12_readText.1.cls)).all goodWord = true := by decide +kernel
theorem wd_X12_readText : ∀ w ∈ kX12_readText.2.2.2.2.2.flatMap (zrq zTab kX12_readText.1.cls), w ∈ lw_tbl := zplaces [1361, 1515, 1514, 176, 1513, 1352, 1359, 1531, 1530, 99, 176, 1528, 1539, 1538, 101, 176, 1536, 1346, 1359, 1347, 1358, 1359, 1360, 1346] (by decide +kernel)
theorem ok_X12_store : zokM zTab kX12_store := ⟨by decide +kernel, by decide +kernel, by decide +kernel⟩
theorem gw_X12_store : (kX12_store.2.2.2.2.2.flatMap (zrq zTab kX12_store.1.cls)).all goodWord = true := by decide +kernel
theorem wd_X12_store : ∀ w ∈ kX12_store.2.2.2.2.2.flatMap (zrq zTab kX12_store.1.cls), w ∈ lw_tbl := zplaces [1361] (by decide +kernel)
theorem ok_X12_hand : zokM zTab kX12_hand := ⟨by decide +kernel, by decide +kernel, by decide +kernel⟩
theorem gw_X12_hand : (kX12_hand.2.2.2.2.2.flatMap (zrq zTab kX12_hand.1.cls)).all goodWord = true := by decide +kernel
theorem wd_X12_hand : ∀ w ∈ kX12_hand.2.2.2.2.2.flatMap (zrq zTab kX12_hand.1.cls), w ∈ lw_tbl := zplaces [1523, 1522, 97, 176, 1520, 1363, 1365, 1366] (by decide +kernel)
theorem ok_X12_isText : zokM zTab kX12_isText := ⟨by decide +kernel, by decide +kernel, by decide +kernel⟩
theorem gw_X12_isText : (kX12_isText.2.2.2.2.2.flatMap (zrq zTab kX12_isText.1.cls)).all goodWord = true := by decide +kernel
theorem wd_X12_isText : ∀ w ∈ kX12_isText.2.2.2.2.2.flatMap (zrq zTab kX12_isText.1.cls), w ∈ lw_tbl := zplaces [1515, 1514, 176, 1513] (by decide +kernel)
theorem ok_X12_sizeOf : zokM zTab kX12_sizeOf := ⟨by decide +kernel, by decide +kernel, by decide +kernel⟩
theorem gw_X12_sizeOf : (kX12_sizeOf.2.2.2.2.2.flatMap (zrq zTab kX12_sizeOf.1.cls)).all goodWord = true := by decide +kernel
theorem wd_X12_sizeOf : ∀ w ∈ kX12_sizeOf.2.2.2.2.2.flatMap (zrq zTab kX12_sizeOf.1.cls), w ∈ lw_tbl := zplaces [1592, 1591, 176, 1590] (by decide +kernel)
theorem ok_X12_spell : zokM zTab kX12_spell := ⟨by decide +kernel, by decide +kernel, by decide +kernel⟩
theorem gw_X12_spell : (kX12_spell.2.2.2.2.2.flatMap (zrq zTab kX12_spell.1.cls)).all goodWord = true := by decide +kernel
theorem wd_X12_spell : ∀ w ∈ kX12_spell.2.2.2.2.2.flatMap (zrq zTab kX12_spell.1.cls), w ∈ lw_tbl := zplaces [1644, 1643, 176, 1642, 1592, 1591, 176, 1590] (by decide +kernel)
theorem ok_X12_numberOf : zokM zTab kX12_numberOf := ⟨by decide +kernel, by decide +kernel, by decide +kernel⟩
theorem gw_X12_numberOf : (kX12_numberOf.2.2.2.2.2.flatMap (zrq zTab kX12_numberOf.1.cls)).all goodWord = true := by decide +kernel
theorem wd_X12_numberOf : ∀ w ∈ kX12_numberOf.2.2.2.2.2.flatMap (zrq zTab kX12_numberOf.1.cls), w ∈ lw_tbl := zplaces [1367, 1592, 1591, 176, 1590] (by decide +kernel)
theorem ok_X12_shorter : zokM zTab kX12_shorter := ⟨by decide +kernel, by decide +kernel, by decide +kernel⟩
theorem gw_X12_shorter : (kX12_shorter.2.2.2.2.2.flatMap (zrq zTab kX12_shorter.1.cls)).all goodWord = true := by decide +kernel
theorem wd_X12_shorter : ∀ w ∈ kX12_shorter.2.2.2.2.2.flatMap (zrq zTab kX12_shorter.1.cls), w ∈ lw_tbl := zplaces [] (by decide +kernel)
theorem ok_X12_apart : zokM zTab kX12_apart := ⟨by decide +kernel, by decide +kernel, by decide +kernel⟩
theorem gw_X12_apart : (kX12_apart.2.2.2.2.2.flatMap (zrq zTab kX12_apart.1.cls)).all goodWord = true := by decide +kernel
theorem wd_X12_apart : ∀ w ∈ kX12_apart.2.2.2.2.2.flatMap (zrq zTab kX12_apart.1.cls), w ∈ lw_tbl := zplaces [1644, 1643, 176, 1642, 1644, 1643, 176, 1642, 1367, 1647, 1646, 176, 1645, 1368, 1647, 1646, 176, 1645, 1370, 1367, 1368, 1370, 1370, 1585, 1584, 176, 1583, 1585, 1584, 176, 1583, 1370, 1370] (by decide +kernel)
theorem ok_X12_layAll : zokM zTab kX12_layAll := ⟨by decide +kernel, by decide +kernel, by decide +kernel⟩
theorem gw_X12_layAll : (kX12_layAll.2.2.2.2.2.flatMap (zrq zTab kX12_layAll.1.cls)).all goodWord = true := by decide +kernel
theorem wd_X12_layAll : ∀ w ∈ kX12_layAll.2.2.2.2.2.flatMap (zrq zTab kX12_layAll.1.cls), w ∈ lw_tbl := zplaces [1699, 1698, 126, 176, 1696, 1630, 1629, 115, 176, 1627] (by decide +kernel)
theorem ok_X12_hasYear : zokM zTab kX12_hasYear := ⟨by decide +kernel, by decide +kernel, by decide +kernel⟩
theorem gw_X12_hasYear : (kX12_hasYear.2.2.2.2.2.flatMap (zrq zTab kX12_hasYear.1.cls)).all goodWord = true := by decide +kernel
theorem wd_X12_hasYear : ∀ w ∈ kX12_hasYear.2.2.2.2.2.flatMap (zrq zTab kX12_hasYear.1.cls), w ∈ lw_tbl := zplaces [1371, 1523, 1522, 97, 176, 1520] (by decide +kernel)
theorem ok_X12_hasSight : zokM zTab kX12_hasSight := ⟨by decide +kernel, by decide +kernel, by decide +kernel⟩
theorem gw_X12_hasSight : (kX12_hasSight.2.2.2.2.2.flatMap (zrq zTab kX12_hasSight.1.cls)).all goodWord = true := by decide +kernel
theorem wd_X12_hasSight : ∀ w ∈ kX12_hasSight.2.2.2.2.2.flatMap (zrq zTab kX12_hasSight.1.cls), w ∈ lw_tbl := zplaces [1384, 1523, 1522, 97, 176, 1520] (by decide +kernel)
theorem ok_X12_handAll : zokM zTab kX12_handAll := ⟨by decide +kernel, by decide +kernel, by decide +kernel⟩
theorem gw_X12_handAll : (kX12_handAll.2.2.2.2.2.flatMap (zrq zTab kX12_handAll.1.cls)).all goodWord = true := by decide +kernel
theorem wd_X12_handAll : ∀ w ∈ kX12_handAll.2.2.2.2.2.flatMap (zrq zTab kX12_handAll.1.cls), w ∈ lw_tbl := zplaces [1630, 1629, 115, 176, 1627] (by decide +kernel)
theorem ok_X12_someOf : zokM zTab kX12_someOf := ⟨by decide +kernel, by decide +kernel, by decide +kernel⟩
theorem gw_X12_someOf : (kX12_someOf.2.2.2.2.2.flatMap (zrq zTab kX12_someOf.1.cls)).all goodWord = true := by decide +kernel
theorem wd_X12_someOf : ∀ w ∈ kX12_someOf.2.2.2.2.2.flatMap (zrq zTab kX12_someOf.1.cls), w ∈ lw_tbl := zplaces [1367, 1647, 1646, 176, 1645, 1644, 1643, 176, 1642, 1734, 1733, 176, 1732, 1367, 1367, 1691, 1690, 125, 176, 1688] (by decide +kernel)
theorem ok_X12_isLeft : zokM zTab kX12_isLeft := ⟨by decide +kernel, by decide +kernel, by decide +kernel⟩
theorem gw_X12_isLeft : (kX12_isLeft.2.2.2.2.2.flatMap (zrq zTab kX12_isLeft.1.cls)).all goodWord = true := by decide +kernel
theorem wd_X12_isLeft : ∀ w ∈ kX12_isLeft.2.2.2.2.2.flatMap (zrq zTab kX12_isLeft.1.cls), w ∈ lw_tbl := zplaces [1644, 1643, 176, 1642, 1935, 1934, 164, 176, 1932] (by decide +kernel)
end
section
theorem zTab_ok : ∀ M ∈ zTab, zokM zTab M := List.forall_mem_cons.mpr ⟨ok_L_law, List.forall_mem_cons.mpr ⟨ok_X11_init, List.forall_mem_cons.mpr ⟨ok_X11_feed, List.forall_mem_cons.mpr ⟨ok_X11_end, List.forall_mem_cons.mpr ⟨ok_X11_text, List.forall_mem_cons.mpr ⟨ok_X11_fault, List.forall_mem_cons.mpr ⟨ok_X11_book, List.forall_mem_cons.mpr ⟨ok_X11_word, List.forall_mem_cons.mpr ⟨ok_X11_drift, List.forall_mem_cons.mpr ⟨ok_X11_read, List.forall_mem_cons.mpr ⟨ok_X11_deed, List.forall_mem_cons.mpr ⟨ok_X11_stop, List.forall_mem_cons.mpr ⟨ok_X11_state, List.forall_mem_cons.mpr ⟨ok_X11_making, List.forall_mem_cons.mpr ⟨ok_X11_ring, List.forall_mem_cons.mpr ⟨ok_X11_reach, List.forall_mem_cons.mpr ⟨ok_X11_sound, List.forall_mem_cons.mpr ⟨ok_X11_like, List.forall_mem_cons.mpr ⟨ok_X11_orbits, List.forall_mem_cons.mpr ⟨ok_X11_rota, List.forall_mem_cons.mpr ⟨ok_X11_mean, List.forall_mem_cons.mpr ⟨ok_X11_elders, List.forall_mem_cons.mpr ⟨ok_X11_play, List.forall_mem_cons.mpr ⟨ok_X11_fact, List.forall_mem_cons.mpr ⟨ok_X11_fits, List.forall_mem_cons.mpr ⟨ok_X11_sure, List.forall_mem_cons.mpr ⟨ok_X11_drawn, List.forall_mem_cons.mpr ⟨ok_X11_kinship, List.forall_mem_cons.mpr ⟨ok_X11_shared, List.forall_mem_cons.mpr ⟨ok_X11_joined, List.forall_mem_cons.mpr ⟨ok_X11_nearest, List.forall_mem_cons.mpr ⟨ok_X11_settles, List.forall_mem_cons.mpr ⟨ok_X11_unmade, List.forall_mem_cons.mpr ⟨ok_X11_silenced, List.forall_mem_cons.mpr ⟨ok_X11_circles, List.forall_mem_cons.mpr ⟨ok_X11_count, List.forall_mem_cons.mpr ⟨ok_X11_image, List.forall_mem_cons.mpr ⟨ok_X11_again, List.forall_mem_cons.mpr ⟨ok_X11_tellInto, List.forall_mem_cons.mpr ⟨ok_X11_bookAt, List.forall_mem_cons.mpr ⟨ok_X11_yearAt, List.forall_mem_cons.mpr ⟨ok_X11_sightAt, List.forall_mem_cons.mpr ⟨ok_X11_readingsAt, List.forall_mem_cons.mpr ⟨ok_X11_isText, List.forall_mem_cons.mpr ⟨ok_X11_isWord, List.forall_mem_cons.mpr ⟨ok_X11_isSpan, List.forall_mem_cons.mpr ⟨ok_X11_isIn, List.forall_mem_cons.mpr ⟨ok_X11_longer, List.forall_mem_cons.mpr ⟨ok_X11_lengthOf, List.forall_mem_cons.mpr ⟨ok_X11_bitsOf, List.forall_mem_cons.mpr ⟨ok_X11_wordAt, List.forall_mem_cons.mpr ⟨ok_X11_wordOfBits, List.forall_mem_cons.mpr ⟨ok_X11_driftOf, List.forall_mem_cons.mpr ⟨ok_X11_mostShared, List.forall_mem_cons.mpr ⟨ok_X11_isLeftOf, List.forall_mem_cons.mpr ⟨ok_X8_init, List.forall_mem_cons.mpr ⟨ok_X8_putBytes, List.forall_mem_cons.mpr ⟨ok_X8_becomes, List.forall_mem_cons.mpr ⟨ok_X7_init, List.forall_mem_cons.mpr ⟨ok_X7_tell, List.forall_mem_cons.mpr ⟨ok_X7_advance, List.forall_mem_cons.mpr ⟨ok_X1_init, List.forall_mem_cons.mpr ⟨ok_X3_init, List.forall_mem_cons.mpr ⟨ok_X0_init, List.forall_mem_cons.mpr ⟨ok_X10_init, List.forall_mem_cons.mpr ⟨ok_X6_init, List.forall_mem_cons.mpr ⟨ok_X12_init, List.forall_mem_cons.mpr ⟨ok_X12_feed, List.forall_mem_cons.mpr ⟨ok_X12_end, List.forall_mem_cons.mpr ⟨ok_X12_text, List.forall_mem_cons.mpr ⟨ok_X12_fault, List.forall_mem_cons.mpr ⟨ok_X12_book, List.forall_mem_cons.mpr ⟨ok_X12_word, List.forall_mem_cons.mpr ⟨ok_X12_drift, List.forall_mem_cons.mpr ⟨ok_X12_read, List.forall_mem_cons.mpr ⟨ok_X12_deed, List.forall_mem_cons.mpr ⟨ok_X12_stop, List.forall_mem_cons.mpr ⟨ok_X12_state, List.forall_mem_cons.mpr ⟨ok_X12_making, List.forall_mem_cons.mpr ⟨ok_X12_ring, List.forall_mem_cons.mpr ⟨ok_X12_reach, List.forall_mem_cons.mpr ⟨ok_X12_sound, List.forall_mem_cons.mpr ⟨ok_X12_like, List.forall_mem_cons.mpr ⟨ok_X12_orbits, List.forall_mem_cons.mpr ⟨ok_X12_rota, List.forall_mem_cons.mpr ⟨ok_X12_mean, List.forall_mem_cons.mpr ⟨ok_X12_elders, List.forall_mem_cons.mpr ⟨ok_X12_play_, List.forall_mem_cons.mpr ⟨ok_X12_fact, List.forall_mem_cons.mpr ⟨ok_X12_fits, List.forall_mem_cons.mpr ⟨ok_X12_sure, List.forall_mem_cons.mpr ⟨ok_X12_drawn, List.forall_mem_cons.mpr ⟨ok_X12_kinship, List.forall_mem_cons.mpr ⟨ok_X12_shared, List.forall_mem_cons.mpr ⟨ok_X12_joined, List.forall_mem_cons.mpr ⟨ok_X12_nearest, List.forall_mem_cons.mpr ⟨ok_X12_settles, List.forall_mem_cons.mpr ⟨ok_X12_unmade, List.forall_mem_cons.mpr ⟨ok_X12_silenced, List.forall_mem_cons.mpr ⟨ok_X12_circles, List.forall_mem_cons.mpr ⟨ok_X12_count, List.forall_mem_cons.mpr ⟨ok_X12_image, List.forall_mem_cons.mpr ⟨ok_X12_again, List.forall_mem_cons.mpr ⟨ok_X12_in, List.forall_mem_cons.mpr ⟨ok_X12_has, List.forall_mem_cons.mpr ⟨ok_X12_lesser, List.forall_mem_cons.mpr ⟨ok_X12_copyRow, List.forall_mem_cons.mpr ⟨ok_X12_copyAll, List.forall_mem_cons.mpr ⟨ok_X12_is, List.forall_mem_cons.mpr ⟨ok_X12_four, List.forall_mem_cons.mpr ⟨ok_X12_see, List.forall_mem_cons.mpr ⟨ok_X12_token, List.forall_mem_cons.mpr ⟨ok_X12_lines, List.forall_mem_cons.mpr ⟨ok_X12_readText, List.forall_mem_cons.mpr ⟨ok_X12_store, List.forall_mem_cons.mpr ⟨ok_X12_hand, List.forall_mem_cons.mpr ⟨ok_X12_isText, List.forall_mem_cons.mpr ⟨ok_X12_sizeOf, List.forall_mem_cons.mpr ⟨ok_X12_spell, List.forall_mem_cons.mpr ⟨ok_X12_numberOf, List.forall_mem_cons.mpr ⟨ok_X12_shorter, List.forall_mem_cons.mpr ⟨ok_X12_apart, List.forall_mem_cons.mpr ⟨ok_X12_layAll, List.forall_mem_cons.mpr ⟨ok_X12_hasYear, List.forall_mem_cons.mpr ⟨ok_X12_hasSight, List.forall_mem_cons.mpr ⟨ok_X12_handAll, List.forall_mem_cons.mpr ⟨ok_X12_someOf, List.forall_mem_cons.mpr ⟨ok_X12_isLeft, fun _ h => absurd h List.not_mem_nil⟩⟩⟩⟩⟩⟩⟩⟩⟩⟩⟩⟩⟩⟩⟩⟩⟩⟩⟩⟩⟩⟩⟩⟩⟩⟩⟩⟩⟩⟩⟩⟩⟩⟩⟩⟩⟩⟩⟩⟩⟩⟩⟩⟩⟩⟩⟩⟩⟩⟩⟩⟩⟩⟩⟩⟩⟩⟩⟩⟩⟩⟩⟩⟩⟩⟩⟩⟩⟩⟩⟩⟩⟩⟩⟩⟩⟩⟩⟩⟩⟩⟩⟩⟩⟩⟩⟩⟩⟩⟩⟩⟩⟩⟩⟩⟩⟩⟩⟩⟩⟩⟩⟩⟩⟩⟩⟩⟩⟩⟩⟩⟩⟩⟩⟩⟩⟩⟩⟩⟩⟩⟩⟩⟩⟩⟩⟩⟩
theorem zTab_gw : ∀ M ∈ zTab, (M.2.2.2.2.2.flatMap (zrq zTab M.1.cls)).all goodWord = true := List.forall_mem_cons.mpr ⟨gw_L_law, List.forall_mem_cons.mpr ⟨gw_X11_init, List.forall_mem_cons.mpr ⟨gw_X11_feed, List.forall_mem_cons.mpr ⟨gw_X11_end, List.forall_mem_cons.mpr ⟨gw_X11_text, List.forall_mem_cons.mpr ⟨gw_X11_fault, List.forall_mem_cons.mpr ⟨gw_X11_book, List.forall_mem_cons.mpr ⟨gw_X11_word, List.forall_mem_cons.mpr ⟨gw_X11_drift, List.forall_mem_cons.mpr ⟨gw_X11_read, List.forall_mem_cons.mpr ⟨gw_X11_deed, List.forall_mem_cons.mpr ⟨gw_X11_stop, List.forall_mem_cons.mpr ⟨gw_X11_state, List.forall_mem_cons.mpr ⟨gw_X11_making, List.forall_mem_cons.mpr ⟨gw_X11_ring, List.forall_mem_cons.mpr ⟨gw_X11_reach, List.forall_mem_cons.mpr ⟨gw_X11_sound, List.forall_mem_cons.mpr ⟨gw_X11_like, List.forall_mem_cons.mpr ⟨gw_X11_orbits, List.forall_mem_cons.mpr ⟨gw_X11_rota, List.forall_mem_cons.mpr ⟨gw_X11_mean, List.forall_mem_cons.mpr ⟨gw_X11_elders, List.forall_mem_cons.mpr ⟨gw_X11_play, List.forall_mem_cons.mpr ⟨gw_X11_fact, List.forall_mem_cons.mpr ⟨gw_X11_fits, List.forall_mem_cons.mpr ⟨gw_X11_sure, List.forall_mem_cons.mpr ⟨gw_X11_drawn, List.forall_mem_cons.mpr ⟨gw_X11_kinship, List.forall_mem_cons.mpr ⟨gw_X11_shared, List.forall_mem_cons.mpr ⟨gw_X11_joined, List.forall_mem_cons.mpr ⟨gw_X11_nearest, List.forall_mem_cons.mpr ⟨gw_X11_settles, List.forall_mem_cons.mpr ⟨gw_X11_unmade, List.forall_mem_cons.mpr ⟨gw_X11_silenced, List.forall_mem_cons.mpr ⟨gw_X11_circles, List.forall_mem_cons.mpr ⟨gw_X11_count, List.forall_mem_cons.mpr ⟨gw_X11_image, List.forall_mem_cons.mpr ⟨gw_X11_again, List.forall_mem_cons.mpr ⟨gw_X11_tellInto, List.forall_mem_cons.mpr ⟨gw_X11_bookAt, List.forall_mem_cons.mpr ⟨gw_X11_yearAt, List.forall_mem_cons.mpr ⟨gw_X11_sightAt, List.forall_mem_cons.mpr ⟨gw_X11_readingsAt, List.forall_mem_cons.mpr ⟨gw_X11_isText, List.forall_mem_cons.mpr ⟨gw_X11_isWord, List.forall_mem_cons.mpr ⟨gw_X11_isSpan, List.forall_mem_cons.mpr ⟨gw_X11_isIn, List.forall_mem_cons.mpr ⟨gw_X11_longer, List.forall_mem_cons.mpr ⟨gw_X11_lengthOf, List.forall_mem_cons.mpr ⟨gw_X11_bitsOf, List.forall_mem_cons.mpr ⟨gw_X11_wordAt, List.forall_mem_cons.mpr ⟨gw_X11_wordOfBits, List.forall_mem_cons.mpr ⟨gw_X11_driftOf, List.forall_mem_cons.mpr ⟨gw_X11_mostShared, List.forall_mem_cons.mpr ⟨gw_X11_isLeftOf, List.forall_mem_cons.mpr ⟨gw_X8_init, List.forall_mem_cons.mpr ⟨gw_X8_putBytes, List.forall_mem_cons.mpr ⟨gw_X8_becomes, List.forall_mem_cons.mpr ⟨gw_X7_init, List.forall_mem_cons.mpr ⟨gw_X7_tell, List.forall_mem_cons.mpr ⟨gw_X7_advance, List.forall_mem_cons.mpr ⟨gw_X1_init, List.forall_mem_cons.mpr ⟨gw_X3_init, List.forall_mem_cons.mpr ⟨gw_X0_init, List.forall_mem_cons.mpr ⟨gw_X10_init, List.forall_mem_cons.mpr ⟨gw_X6_init, List.forall_mem_cons.mpr ⟨gw_X12_init, List.forall_mem_cons.mpr ⟨gw_X12_feed, List.forall_mem_cons.mpr ⟨gw_X12_end, List.forall_mem_cons.mpr ⟨gw_X12_text, List.forall_mem_cons.mpr ⟨gw_X12_fault, List.forall_mem_cons.mpr ⟨gw_X12_book, List.forall_mem_cons.mpr ⟨gw_X12_word, List.forall_mem_cons.mpr ⟨gw_X12_drift, List.forall_mem_cons.mpr ⟨gw_X12_read, List.forall_mem_cons.mpr ⟨gw_X12_deed, List.forall_mem_cons.mpr ⟨gw_X12_stop, List.forall_mem_cons.mpr ⟨gw_X12_state, List.forall_mem_cons.mpr ⟨gw_X12_making, List.forall_mem_cons.mpr ⟨gw_X12_ring, List.forall_mem_cons.mpr ⟨gw_X12_reach, List.forall_mem_cons.mpr ⟨gw_X12_sound, List.forall_mem_cons.mpr ⟨gw_X12_like, List.forall_mem_cons.mpr ⟨gw_X12_orbits, List.forall_mem_cons.mpr ⟨gw_X12_rota, List.forall_mem_cons.mpr ⟨gw_X12_mean, List.forall_mem_cons.mpr ⟨gw_X12_elders, List.forall_mem_cons.mpr ⟨gw_X12_play_, List.forall_mem_cons.mpr ⟨gw_X12_fact, List.forall_mem_cons.mpr ⟨gw_X12_fits, List.forall_mem_cons.mpr ⟨gw_X12_sure, List.forall_mem_cons.mpr ⟨gw_X12_drawn, List.forall_mem_cons.mpr ⟨gw_X12_kinship, List.forall_mem_cons.mpr ⟨gw_X12_shared, List.forall_mem_cons.mpr ⟨gw_X12_joined, List.forall_mem_cons.mpr ⟨gw_X12_nearest, List.forall_mem_cons.mpr ⟨gw_X12_settles, List.forall_mem_cons.mpr ⟨gw_X12_unmade, List.forall_mem_cons.mpr ⟨gw_X12_silenced, List.forall_mem_cons.mpr ⟨gw_X12_circles, List.forall_mem_cons.mpr ⟨gw_X12_count, List.forall_mem_cons.mpr ⟨gw_X12_image, List.forall_mem_cons.mpr ⟨gw_X12_again, List.forall_mem_cons.mpr ⟨gw_X12_in, List.forall_mem_cons.mpr ⟨gw_X12_has, List.forall_mem_cons.mpr ⟨gw_X12_lesser, List.forall_mem_cons.mpr ⟨gw_X12_copyRow, List.forall_mem_cons.mpr ⟨gw_X12_copyAll, List.forall_mem_cons.mpr ⟨gw_X12_is, List.forall_mem_cons.mpr ⟨gw_X12_four, List.forall_mem_cons.mpr ⟨gw_X12_see, List.forall_mem_cons.mpr ⟨gw_X12_token, List.forall_mem_cons.mpr ⟨gw_X12_lines, List.forall_mem_cons.mpr ⟨gw_X12_readText, List.forall_mem_cons.mpr ⟨gw_X12_store, List.forall_mem_cons.mpr ⟨gw_X12_hand, List.forall_mem_cons.mpr ⟨gw_X12_isText, List.forall_mem_cons.mpr ⟨gw_X12_sizeOf, List.forall_mem_cons.mpr ⟨gw_X12_spell, List.forall_mem_cons.mpr ⟨gw_X12_numberOf, List.forall_mem_cons.mpr ⟨gw_X12_shorter, List.forall_mem_cons.mpr ⟨gw_X12_apart, List.forall_mem_cons.mpr ⟨gw_X12_layAll, List.forall_mem_cons.mpr ⟨gw_X12_hasYear, List.forall_mem_cons.mpr ⟨gw_X12_hasSight, List.forall_mem_cons.mpr ⟨gw_X12_handAll, List.forall_mem_cons.mpr ⟨gw_X12_someOf, List.forall_mem_cons.mpr ⟨gw_X12_isLeft, fun _ h => absurd h List.not_mem_nil⟩⟩⟩⟩⟩⟩⟩⟩⟩⟩⟩⟩⟩⟩⟩⟩⟩⟩⟩⟩⟩⟩⟩⟩⟩⟩⟩⟩⟩⟩⟩⟩⟩⟩⟩⟩⟩⟩⟩⟩⟩⟩⟩⟩⟩⟩⟩⟩⟩⟩⟩⟩⟩⟩⟩⟩⟩⟩⟩⟩⟩⟩⟩⟩⟩⟩⟩⟩⟩⟩⟩⟩⟩⟩⟩⟩⟩⟩⟩⟩⟩⟩⟩⟩⟩⟩⟩⟩⟩⟩⟩⟩⟩⟩⟩⟩⟩⟩⟩⟩⟩⟩⟩⟩⟩⟩⟩⟩⟩⟩⟩⟩⟩⟩⟩⟩⟩⟩⟩⟩⟩⟩⟩⟩⟩⟩⟩⟩
theorem zTab_wd : ∀ M ∈ zTab, ∀ w ∈ M.2.2.2.2.2.flatMap (zrq zTab M.1.cls), w ∈ lw_tbl := List.forall_mem_cons.mpr ⟨wd_L_law, List.forall_mem_cons.mpr ⟨wd_X11_init, List.forall_mem_cons.mpr ⟨wd_X11_feed, List.forall_mem_cons.mpr ⟨wd_X11_end, List.forall_mem_cons.mpr ⟨wd_X11_text, List.forall_mem_cons.mpr ⟨wd_X11_fault, List.forall_mem_cons.mpr ⟨wd_X11_book, List.forall_mem_cons.mpr ⟨wd_X11_word, List.forall_mem_cons.mpr ⟨wd_X11_drift, List.forall_mem_cons.mpr ⟨wd_X11_read, List.forall_mem_cons.mpr ⟨wd_X11_deed, List.forall_mem_cons.mpr ⟨wd_X11_stop, List.forall_mem_cons.mpr ⟨wd_X11_state, List.forall_mem_cons.mpr ⟨wd_X11_making, List.forall_mem_cons.mpr ⟨wd_X11_ring, List.forall_mem_cons.mpr ⟨wd_X11_reach, List.forall_mem_cons.mpr ⟨wd_X11_sound, List.forall_mem_cons.mpr ⟨wd_X11_like, List.forall_mem_cons.mpr ⟨wd_X11_orbits, List.forall_mem_cons.mpr ⟨wd_X11_rota, List.forall_mem_cons.mpr ⟨wd_X11_mean, List.forall_mem_cons.mpr ⟨wd_X11_elders, List.forall_mem_cons.mpr ⟨wd_X11_play, List.forall_mem_cons.mpr ⟨wd_X11_fact, List.forall_mem_cons.mpr ⟨wd_X11_fits, List.forall_mem_cons.mpr ⟨wd_X11_sure, List.forall_mem_cons.mpr ⟨wd_X11_drawn, List.forall_mem_cons.mpr ⟨wd_X11_kinship, List.forall_mem_cons.mpr ⟨wd_X11_shared, List.forall_mem_cons.mpr ⟨wd_X11_joined, List.forall_mem_cons.mpr ⟨wd_X11_nearest, List.forall_mem_cons.mpr ⟨wd_X11_settles, List.forall_mem_cons.mpr ⟨wd_X11_unmade, List.forall_mem_cons.mpr ⟨wd_X11_silenced, List.forall_mem_cons.mpr ⟨wd_X11_circles, List.forall_mem_cons.mpr ⟨wd_X11_count, List.forall_mem_cons.mpr ⟨wd_X11_image, List.forall_mem_cons.mpr ⟨wd_X11_again, List.forall_mem_cons.mpr ⟨wd_X11_tellInto, List.forall_mem_cons.mpr ⟨wd_X11_bookAt, List.forall_mem_cons.mpr ⟨wd_X11_yearAt, List.forall_mem_cons.mpr ⟨wd_X11_sightAt, List.forall_mem_cons.mpr ⟨wd_X11_readingsAt, List.forall_mem_cons.mpr ⟨wd_X11_isText, List.forall_mem_cons.mpr ⟨wd_X11_isWord, List.forall_mem_cons.mpr ⟨wd_X11_isSpan, List.forall_mem_cons.mpr ⟨wd_X11_isIn, List.forall_mem_cons.mpr ⟨wd_X11_longer, List.forall_mem_cons.mpr ⟨wd_X11_lengthOf, List.forall_mem_cons.mpr ⟨wd_X11_bitsOf, List.forall_mem_cons.mpr ⟨wd_X11_wordAt, List.forall_mem_cons.mpr ⟨wd_X11_wordOfBits, List.forall_mem_cons.mpr ⟨wd_X11_driftOf, List.forall_mem_cons.mpr ⟨wd_X11_mostShared, List.forall_mem_cons.mpr ⟨wd_X11_isLeftOf, List.forall_mem_cons.mpr ⟨wd_X8_init, List.forall_mem_cons.mpr ⟨wd_X8_putBytes, List.forall_mem_cons.mpr ⟨wd_X8_becomes, List.forall_mem_cons.mpr ⟨wd_X7_init, List.forall_mem_cons.mpr ⟨wd_X7_tell, List.forall_mem_cons.mpr ⟨wd_X7_advance, List.forall_mem_cons.mpr ⟨wd_X1_init, List.forall_mem_cons.mpr ⟨wd_X3_init, List.forall_mem_cons.mpr ⟨wd_X0_init, List.forall_mem_cons.mpr ⟨wd_X10_init, List.forall_mem_cons.mpr ⟨wd_X6_init, List.forall_mem_cons.mpr ⟨wd_X12_init, List.forall_mem_cons.mpr ⟨wd_X12_feed, List.forall_mem_cons.mpr ⟨wd_X12_end, List.forall_mem_cons.mpr ⟨wd_X12_text, List.forall_mem_cons.mpr ⟨wd_X12_fault, List.forall_mem_cons.mpr ⟨wd_X12_book, List.forall_mem_cons.mpr ⟨wd_X12_word, List.forall_mem_cons.mpr ⟨wd_X12_drift, List.forall_mem_cons.mpr ⟨wd_X12_read, List.forall_mem_cons.mpr ⟨wd_X12_deed, List.forall_mem_cons.mpr ⟨wd_X12_stop, List.forall_mem_cons.mpr ⟨wd_X12_state, List.forall_mem_cons.mpr ⟨wd_X12_making, List.forall_mem_cons.mpr ⟨wd_X12_ring, List.forall_mem_cons.mpr ⟨wd_X12_reach, List.forall_mem_cons.mpr ⟨wd_X12_sound, List.forall_mem_cons.mpr ⟨wd_X12_like, List.forall_mem_cons.mpr ⟨wd_X12_orbits, List.forall_mem_cons.mpr ⟨wd_X12_rota, List.forall_mem_cons.mpr ⟨wd_X12_mean, List.forall_mem_cons.mpr ⟨wd_X12_elders, List.forall_mem_cons.mpr ⟨wd_X12_play_, List.forall_mem_cons.mpr ⟨wd_X12_fact, List.forall_mem_cons.mpr ⟨wd_X12_fits, List.forall_mem_cons.mpr ⟨wd_X12_sure, List.forall_mem_cons.mpr ⟨wd_X12_drawn, List.forall_mem_cons.mpr ⟨wd_X12_kinship, List.forall_mem_cons.mpr ⟨wd_X12_shared, List.forall_mem_cons.mpr ⟨wd_X12_joined, List.forall_mem_cons.mpr ⟨wd_X12_nearest, List.forall_mem_cons.mpr ⟨wd_X12_settles, List.forall_mem_cons.mpr ⟨wd_X12_unmade, List.forall_mem_cons.mpr ⟨wd_X12_silenced, List.forall_mem_cons.mpr ⟨wd_X12_circles, List.forall_mem_cons.mpr ⟨wd_X12_count, List.forall_mem_cons.mpr ⟨wd_X12_image, List.forall_mem_cons.mpr ⟨wd_X12_again, List.forall_mem_cons.mpr ⟨wd_X12_in, List.forall_mem_cons.mpr ⟨wd_X12_has, List.forall_mem_cons.mpr ⟨wd_X12_lesser, List.forall_mem_cons.mpr ⟨wd_X12_copyRow, List.forall_mem_cons.mpr ⟨wd_X12_copyAll, List.forall_mem_cons.mpr ⟨wd_X12_is, List.forall_mem_cons.mpr ⟨wd_X12_four, List.forall_mem_cons.mpr ⟨wd_X12_see, List.forall_mem_cons.mpr ⟨wd_X12_token, List.forall_mem_cons.mpr ⟨wd_X12_lines, List.forall_mem_cons.mpr ⟨wd_X12_readText, List.forall_mem_cons.mpr ⟨wd_X12_store, List.forall_mem_cons.mpr ⟨wd_X12_hand, List.forall_mem_cons.mpr ⟨wd_X12_isText, List.forall_mem_cons.mpr ⟨wd_X12_sizeOf, List.forall_mem_cons.mpr ⟨wd_X12_spell, List.forall_mem_cons.mpr ⟨wd_X12_numberOf, List.forall_mem_cons.mpr ⟨wd_X12_shorter, List.forall_mem_cons.mpr ⟨wd_X12_apart, List.forall_mem_cons.mpr ⟨wd_X12_layAll, List.forall_mem_cons.mpr ⟨wd_X12_hasYear, List.forall_mem_cons.mpr ⟨wd_X12_hasSight, List.forall_mem_cons.mpr ⟨wd_X12_handAll, List.forall_mem_cons.mpr ⟨wd_X12_someOf, List.forall_mem_cons.mpr ⟨wd_X12_isLeft, fun _ h => absurd h List.not_mem_nil⟩⟩⟩⟩⟩⟩⟩⟩⟩⟩⟩⟩⟩⟩⟩⟩⟩⟩⟩⟩⟩⟩⟩⟩⟩⟩⟩⟩⟩⟩⟩⟩⟩⟩⟩⟩⟩⟩⟩⟩⟩⟩⟩⟩⟩⟩⟩⟩⟩⟩⟩⟩⟩⟩⟩⟩⟩⟩⟩⟩⟩⟩⟩⟩⟩⟩⟩⟩⟩⟩⟩⟩⟩⟩⟩⟩⟩⟩⟩⟩⟩⟩⟩⟩⟩⟩⟩⟩⟩⟩⟩⟩⟩⟩⟩⟩⟩⟩⟩⟩⟩⟩⟩⟩⟩⟩⟩⟩⟩⟩⟩⟩⟩⟩⟩⟩⟩⟩⟩⟩⟩⟩⟩⟩⟩⟩⟩⟩
theorem zuw_gw : zuw.all goodWord = true := by decide +kernel
theorem zuw_wd : ∀ w ∈ zuw, w ∈ lw_tbl := zplaces [386, 388, 390, 392, 394, 396, 398, 298, 300, 302, 304, 306, 308, 310, 1023, 1025, 1027, 1029, 1031, 1033, 1035, 1037, 1039, 1041, 806, 808, 810, 812, 945, 947, 949, 951, 953, 955, 957, 959, 961, 963, 965, 967, 969, 971, 973, 620, 622, 624, 268, 270, 272, 274, 276, 278, 280, 282, 229, 231, 233, 235, 237, 239, 241, 243, 837, 839, 841, 843, 845, 599, 601, 603, 605, 325, 327, 329, 331, 333, 335, 337, 339, 1395, 1397, 1399, 1401, 1403, 1405, 1407, 1409, 1411, 1413, 1415, 1417, 1419, 1421, 1423, 1425, 1427, 1429, 1431, 1433, 1435, 1437, 1439, 1441, 1443, 1445, 1447, 1449, 1451, 1453, 1455, 1457, 1459, 1461, 1463, 1465, 1467, 1469, 1471, 1473, 1475, 1477, 1479, 1481, 1483, 1485, 1487, 1489, 1491, 1493, 1495, 1497] (by decide +kernel)
theorem zt_gw : ∀ w ∈ zt zTab, goodWord w = true := by
  intro w hw
  rcases List.mem_append.mp hw with h | h
  · exact List.all_eq_true.mp zuw_gw w h
  · obtain ⟨M, hM, h2⟩ := List.mem_flatMap.mp h
    exact List.all_eq_true.mp (zTab_gw M hM) w h2
theorem zt_wd : ∀ w ∈ zt zTab, w ∈ lw_tbl := by
  intro w hw
  rcases List.mem_append.mp hw with h | h
  · exact zuw_wd w h
  · obtain ⟨M, hM, h2⟩ := List.mem_flatMap.mp h
    exact zTab_wd M hM w h2
end
section
/-! TOOLS for walks in the pure machine. -/
/-- one step, its state by its parts -/
def zsc (C : zCT) (d : Nat) (M : zM) (E : zX) (tab : List zM) (mc ms : Nat) (Q : zQ) (pc : Nat) (L : zL) (S : List Value) (w : zW) (k n : Nat) (K : zS → Prop) : Prop :=
  match zat M.2.2.2.2.2 pc with
  | none => False
  | some e => zins C d M E tab mc ms Q pc L S w k n e.1 e.2.1 e.2.2.1 e.2.2.2 K
theorem zCl_i {tab : List zM} {d a mc ms : Nat} {As : List Value} {w : zW} {Q : zQ} {M : zM} (hM : zix tab a = some M) (hl : (lg_sl As).length ≤ M.2.2.1) (h : ∀ R : zS → Prop, (∀ {pc : Nat} {L : zL} {S : List Value} {w : zW} {k n : Nat}, zsc (zCl tab d) d M none tab mc ms Q pc L S w k n R → R (pc, L, S, w, k, n)) → R (0, zent M.2.2.1 As, [], w, 0, 0)) : zCl tab (d + 1) a As w mc ms Q := by
  unfold zCl
  rw [hM]
  exact ⟨hl, fun R hR => h R (fun {pc L S w k n} q => zR hR (pc, L, S, w, k, n) q)⟩
theorem zcall_i {C : zCT} {a : Nat} {As S : List Value} {w : zW} {k n mc ms np : Nat} {L : zL} {K : zS → Prop} (mc' ms' : Nat) (h1 : k + mc' ≤ mc) (h2 : n + ms' ≤ ms) (h : C a As w mc' ms' (fun r w' => K (np, L, r.toList ++ S, w', k + mc', n + ms'))) : zcall C a As S w k n mc ms np L K := ⟨mc', ms', ⟨h1, h2⟩, h⟩
theorem zret_i {k n mc ms : Nat} {A B : Prop} (h1 : k = mc) (h2 : n ≤ ms) (h3 : A) (h4 : B) : zfin none k n mc ms ∧ A ∧ B := ⟨⟨h1, h2⟩, h3, h4⟩
theorem r_isText (d : Nat) (n : Int32) (w : zW) (Q : zQ) (h1 : ¬ n < 0 → n < 5461 → Q (some (.int (Int32.ofInt 1))) w) (h0 : n < 0 ∨ 5461 ≤ n → Q (some (.int (Int32.ofInt 0))) w) : zCl zTab (d + 1) iX11_isText [.int n] w 0 0 Q := by
  refine zCl_i (M := kX11_isText) rfl (Nat.le_of_ble_eq_true rfl) fun R hR => ?_
  refine hR (?_ : R (_, _, _, _, _, _))
  refine hR (And.intro (fun hc1 => ?_) (fun hc1 => ?_))
  · refine hR (?_ : R (_, _, _, _, _, _))
    refine hR (zret_i rfl (Nat.le_refl _) ?_ ?_)
    · exact Or.inl rfl
    · exact h0 (Or.inl hc1)
  iterate 2 refine hR (?_ : R (_, _, _, _, _, _))
  refine hR (And.intro (fun hc2 => ?_) (fun hc2 => ?_))
  · refine hR (?_ : R (_, _, _, _, _, _))
    refine hR (zret_i rfl (Nat.le_refl _) ?_ ?_)
    · exact Or.inl rfl
    · exact h0 (Or.inr hc2)
  iterate 2 refine hR (?_ : R (_, _, _, _, _, _))
  refine hR (zret_i rfl (Nat.le_refl _) ?_ ?_)
  · exact Or.inr rfl
  · exact h1 hc1 (Int32.not_le.mp hc2)
end
section
/-! A FRESH OBJECT: the walks of the calls that end early; printed by a program, but for the first rows. -/
def zCw (t : zW) : zW := .inr (10, [.ref 1, .ref 7, .ref 8, .ref 9, .ref 12, .ref 13, .null, .null]) :: .inr (7, [.ref 2, .int 0, .int 0, .int (-1), .ref 3, .ref 4, .ref 5, .ref 6]) :: .inl (0, 600, .inl (fun _ => 0)) :: .inl (1, 3, .inl (fun _ => 0)) :: .inl (3, 2, .inr (.inr (.inr (.inr (fun _ => none))))) :: .inl (4, 2, .inr (.inr (.inr (.inr (fun _ => none))))) :: .inl (5, 2, .inr (.inr (.inr (.inr (fun _ => none))))) :: .inl (6, 3, .inr (.inr (.inr (.inr (fun _ => none))))) :: .inr (6, [.null, .int 0, .int 0, .int 0, .int 0, .int 0, .int 0, .int (-1)]) :: .inr (1, [.null, .int 0, .int 0, .int 0, .int 0, .ref 10, .ref 11]) :: .inl (1, 4, .inl (fun _ => 0)) :: .inl (1, 5, .inl (fun _ => 0)) :: .inl (7, 2, .inr (.inr (.inr (.inr (fun _ => none))))) :: .inl (8, 2, .inr (.inr (.inr (.inr (fun _ => none))))) :: t
def zMw (c0 c1 c2 c3 c4 c5 c6 c7 c8 c9 c10 c11 c12 c13 : va_E) (x0 x9 x10 x11 x12 x13 x15 x16 x17 x20 x21 x22 x23 x26 x28 x31 x32 x33 x38 x41 x44 : Int32) (x14 : Int64) (g15 g16 g17 g18 g20 g21 g22 g23 g24 g25 g26 g27 g28 g29 g30 g31 g32 g33 g34 g35 g36 g37 g38 g39 g40 g41 g42 g43 g44 : Nat → Int32) (t : zW) : zW := c0 :: c1 :: c2 :: c3 :: c4 :: c5 :: c6 :: c7 :: c8 :: c9 :: c10 :: c11 :: c12 :: c13 :: .inr (11, [.int x0, .ref 15, .ref 16, .ref 17, .ref 18, .ref 19, .ref 20, .ref 21, .ref 22, .int x9, .int x10, .int x11, .int x12, .int x13, .long x14, .int x15, .int x16, .int x17, .ref 23, .ref 24, .int x20, .int x21, .int x22, .int x23, .ref 25, .ref 26, .int x26, .ref 27, .int x28, .ref 28, .ref 29, .int x31, .int x32, .int x33, .ref 30, .ref 31, .ref 32, .ref 33, .int x38, .ref 34, .ref 35, .int x41, .ref 36, .ref 37, .int x44, .ref 38, .ref 39, .ref 40, .ref 41, .ref 42, .ref 43, .ref 44]) :: .inl (0, 2400, .inl g15) :: .inl (1, 4, .inl g16) :: .inl (1, 4, .inl g17) :: .inl (1, 4, .inl g18) :: .inl (1, 12, .inl (fun _ => 0)) :: .inl (1, 408, .inl g20) :: .inl (1, 968, .inl g21) :: .inl (1, 104, .inl g22) :: .inl (1, 121, .inl g23) :: .inl (1, 3, .inl g24) :: .inl (1, 7, .inl g25) :: .inl (1, 7, .inl g26) :: .inl (1, 49, .inl g27) :: .inl (1, 4, .inl g28) :: .inl (1, 5, .inl g29) :: .inl (1, 27305, .inl g30) :: .inl (1, 5461, .inl g31) :: .inl (1, 5461, .inl g32) :: .inl (1, 5461, .inl g33) :: .inl (1, 5461, .inl g34) :: .inl (1, 54610, .inl g35) :: .inl (1, 54610, .inl g36) :: .inl (1, 54610, .inl g37) :: .inl (1, 5461, .inl g38) :: .inl (1, 5461, .inl g39) :: .inl (1, 5461, .inl g40) :: .inl (1, 5461, .inl g41) :: .inl (1, 5461, .inl g42) :: .inl (1, 27305, .inl g43) :: .inl (2, 3, .inl g44) :: t
theorem zi_nn {k : Int32} (h0 : 0 ≤ k) (h1 : k ≤ 0 - 1) : False := by
  rw [Int32.le_iff_toInt_le] at h0 h1
  have e1 : (0 : Int32).toInt = 0 := rfl
  have e2 : ((0 : Int32) - 1).toInt = -1 := rfl
  omega
theorem r_bookAt (d : Nat) (a : Int32) (t : zW) (Q : zQ) (h : Q (some .null) (zCw t)) : zCl zTab (d + 1) iX11_bookAt [.ref 0, .int a] (zCw t) 0 0 Q := by
  refine zCl_i (M := kX11_bookAt) rfl (Nat.le_of_ble_eq_true rfl) fun R hR => ?_
  refine hR (?_ : R (_, _, _, _, _, _))
  refine hR (And.intro (fun hc1 => ?_) (fun hc1 => ?_))
  · iterate 2 refine hR (?_ : R (_, _, _, _, _, _))
    exact hR (zret_i rfl (Nat.le_refl _) trivial h)
  iterate 5 refine hR (?_ : R (_, _, _, _, _, _))
  refine hR (And.intro (by unfold vp_in; decide) ?_)
  refine hR (And.intro (fun hc2 => absurd hc2 hc1) (fun hc2 => ?_))
  iterate 2 refine hR (?_ : R (_, _, _, _, _, _))
  exact hR (zret_i rfl (Nat.le_refl _) trivial h)
theorem r_yearAt (d : Nat) (a : Int32) (t : zW) (Q : zQ) (h : Q (some .null) (zCw t)) : zCl zTab (d + 1) iX11_yearAt [.ref 0, .int a] (zCw t) 0 0 Q := by
  refine zCl_i (M := kX11_yearAt) rfl (Nat.le_of_ble_eq_true rfl) fun R hR => ?_
  refine hR (?_ : R (_, _, _, _, _, _))
  refine hR (And.intro (fun hc1 => ?_) (fun hc1 => ?_))
  · iterate 2 refine hR (?_ : R (_, _, _, _, _, _))
    exact hR (zret_i rfl (Nat.le_refl _) trivial h)
  iterate 5 refine hR (?_ : R (_, _, _, _, _, _))
  refine hR (And.intro (by unfold vp_in; decide) ?_)
  refine hR (And.intro (fun hc2 => absurd hc2 hc1) (fun hc2 => ?_))
  iterate 2 refine hR (?_ : R (_, _, _, _, _, _))
  exact hR (zret_i rfl (Nat.le_refl _) trivial h)
theorem r_sightAt (d : Nat) (a : Int32) (t : zW) (Q : zQ) (h : Q (some .null) (zCw t)) : zCl zTab (d + 1) iX11_sightAt [.ref 0, .int a] (zCw t) 0 0 Q := by
  refine zCl_i (M := kX11_sightAt) rfl (Nat.le_of_ble_eq_true rfl) fun R hR => ?_
  refine hR (?_ : R (_, _, _, _, _, _))
  refine hR (And.intro (fun hc1 => ?_) (fun hc1 => ?_))
  · iterate 2 refine hR (?_ : R (_, _, _, _, _, _))
    exact hR (zret_i rfl (Nat.le_refl _) trivial h)
  iterate 5 refine hR (?_ : R (_, _, _, _, _, _))
  refine hR (And.intro (by unfold vp_in; decide) ?_)
  refine hR (And.intro (fun hc2 => absurd hc2 hc1) (fun hc2 => ?_))
  iterate 2 refine hR (?_ : R (_, _, _, _, _, _))
  exact hR (zret_i rfl (Nat.le_refl _) trivial h)
theorem r_isWord (d : Nat) (n : Int32) (w : zW) (Q : zQ) (h1 : Q (some (.int (Int32.ofInt 1))) w) (h0 : Q (some (.int (Int32.ofInt 0))) w) : zCl zTab (d + 1) iX11_isWord [.int n] w 0 0 Q := by
  refine zCl_i (M := kX11_isWord) rfl (Nat.le_of_ble_eq_true rfl) fun R hR => ?_
  refine hR (?_ : R (_, _, _, _, _, _))
  refine hR (And.intro (fun hc1 => ?_) (fun hc1 => ?_))
  · refine hR (?_ : R (_, _, _, _, _, _))
    exact hR (zret_i rfl (Nat.le_refl _) (Or.inl rfl) h0)
  iterate 2 refine hR (?_ : R (_, _, _, _, _, _))
  refine hR (And.intro (fun hc2 => ?_) (fun hc2 => ?_))
  · refine hR (?_ : R (_, _, _, _, _, _))
    exact hR (zret_i rfl (Nat.le_refl _) (Or.inl rfl) h0)
  iterate 2 refine hR (?_ : R (_, _, _, _, _, _))
  exact hR (zret_i rfl (Nat.le_refl _) (Or.inr rfl) h1)
theorem r_isSpan (d : Nat) (n : Int32) (w : zW) (Q : zQ) (h1 : Q (some (.int (Int32.ofInt 1))) w) (h0 : Q (some (.int (Int32.ofInt 0))) w) : zCl zTab (d + 1) iX11_isSpan [.int n] w 0 0 Q := by
  refine zCl_i (M := kX11_isSpan) rfl (Nat.le_of_ble_eq_true rfl) fun R hR => ?_
  refine hR (?_ : R (_, _, _, _, _, _))
  refine hR (And.intro (fun hc1 => ?_) (fun hc1 => ?_))
  · skip
    refine hR (?_ : R (_, _, _, _, _, _))
    exact hR (zret_i rfl (Nat.le_refl _) (Or.inl rfl) (h0))
  · skip
    iterate 2 refine hR (?_ : R (_, _, _, _, _, _))
    refine hR (And.intro (fun hc2 => ?_) (fun hc2 => ?_))
    · skip
      refine hR (?_ : R (_, _, _, _, _, _))
      exact hR (zret_i rfl (Nat.le_refl _) (Or.inl rfl) (h0))
    · skip
      iterate 2 refine hR (?_ : R (_, _, _, _, _, _))
      exact hR (zret_i rfl (Nat.le_refl _) (Or.inr rfl) (h1))
theorem r_readingsAt (d : Nat) (a : Int32) (t : zW) (Q : zQ) (h : Q (some .null) (zCw t)) : zCl zTab (d + 2) iX11_readingsAt [.ref 0, .int a] (zCw t) 0 0 Q := by
  refine zCl_i (M := kX11_readingsAt) rfl (Nat.le_of_ble_eq_true rfl) fun R hR => ?_
  iterate 2 refine hR (?_ : R (_, _, _, _, _, _))
  refine hR (zcall_i 0 0 (Nat.le_of_ble_eq_true rfl) (Nat.le_of_ble_eq_true rfl) (r_bookAt _ _ _ _ ?_))
  iterate 4 refine hR (?_ : R (_, _, _, _, _, _))
  exact hR (zret_i rfl (Nat.le_refl _) (trivial) (h))
theorem r_book (d : Nat) (p0 p1 : Int32) (t : zW) (Q : zQ) (h : Q (some (.int (Int32.ofInt (-1)))) (zCw t)) : zCl zTab (d + 3) iX11_book [.ref 0, .int p0, .int p1] (zCw t) 0 0 Q := by
  refine zCl_i (M := kX11_book) rfl (Nat.le_of_ble_eq_true rfl) fun R hR => ?_
  iterate 2 refine hR (?_ : R (_, _, _, _, _, _))
  refine hR (zcall_i 0 0 (Nat.le_of_ble_eq_true rfl) (Nat.le_of_ble_eq_true rfl) (r_bookAt _ _ _ _ ?_))
  iterate 5 refine hR (?_ : R (_, _, _, _, _, _))
  exact hR (zret_i rfl (Nat.le_refl _) (trivial) (h))
theorem r_read (d : Nat) (p0 p1 p2 : Int32) (t : zW) (Q : zQ) (h : Q (some (.int (Int32.ofInt (-1)))) (zCw t)) : zCl zTab (d + 3) iX11_read [.ref 0, .int p0, .int p1, .int p2] (zCw t) 0 0 Q := by
  refine zCl_i (M := kX11_read) rfl (Nat.le_of_ble_eq_true rfl) fun R hR => ?_
  iterate 2 refine hR (?_ : R (_, _, _, _, _, _))
  refine hR (zcall_i 0 0 (Nat.le_of_ble_eq_true rfl) (Nat.le_of_ble_eq_true rfl) (r_bookAt _ _ _ _ ?_))
  iterate 4 refine hR (?_ : R (_, _, _, _, _, _))
  exact hR (zret_i rfl (Nat.le_refl _) (trivial) (h))
theorem r_deed (d : Nat) (p0 p1 p2 : Int32) (t : zW) (Q : zQ) (h : Q (some (.int (Int32.ofInt (-2)))) (zCw t)) : zCl zTab (d + 3) iX11_deed [.ref 0, .int p0, .int p1, .int p2] (zCw t) 0 0 Q := by
  refine zCl_i (M := kX11_deed) rfl (Nat.le_of_ble_eq_true rfl) fun R hR => ?_
  iterate 2 refine hR (?_ : R (_, _, _, _, _, _))
  refine hR (zcall_i 0 0 (Nat.le_of_ble_eq_true rfl) (Nat.le_of_ble_eq_true rfl) (r_yearAt _ _ _ _ ?_))
  iterate 5 refine hR (?_ : R (_, _, _, _, _, _))
  exact hR (zret_i rfl (Nat.le_refl _) (trivial) (h))
theorem r_stop (d : Nat) (p0 p1 : Int32) (t : zW) (Q : zQ) (h : Q (some (.int (Int32.ofInt (-1)))) (zCw t)) : zCl zTab (d + 3) iX11_stop [.ref 0, .int p0, .int p1] (zCw t) 0 0 Q := by
  refine zCl_i (M := kX11_stop) rfl (Nat.le_of_ble_eq_true rfl) fun R hR => ?_
  iterate 2 refine hR (?_ : R (_, _, _, _, _, _))
  refine hR (zcall_i 0 0 (Nat.le_of_ble_eq_true rfl) (Nat.le_of_ble_eq_true rfl) (r_bookAt _ _ _ _ ?_))
  iterate 3 refine hR (?_ : R (_, _, _, _, _, _))
  refine hR (zcall_i 0 0 (Nat.le_of_ble_eq_true rfl) (Nat.le_of_ble_eq_true rfl) (r_yearAt _ _ _ _ ?_))
  iterate 4 refine hR (?_ : R (_, _, _, _, _, _))
  exact hR (zret_i rfl (Nat.le_refl _) (trivial) (h))
theorem r_state (d : Nat) (p0 p1 p2 p3 : Int32) (t : zW) (Q : zQ) (h : Q (some (.int (Int32.ofInt (-2)))) (zCw t)) : zCl zTab (d + 3) iX11_state [.ref 0, .int p0, .int p1, .int p2, .int p3] (zCw t) 0 0 Q := by
  refine zCl_i (M := kX11_state) rfl (Nat.le_of_ble_eq_true rfl) fun R hR => ?_
  iterate 2 refine hR (?_ : R (_, _, _, _, _, _))
  refine hR (zcall_i 0 0 (Nat.le_of_ble_eq_true rfl) (Nat.le_of_ble_eq_true rfl) (r_bookAt _ _ _ _ ?_))
  iterate 3 refine hR (?_ : R (_, _, _, _, _, _))
  refine hR (zcall_i 0 0 (Nat.le_of_ble_eq_true rfl) (Nat.le_of_ble_eq_true rfl) (r_yearAt _ _ _ _ ?_))
  iterate 4 refine hR (?_ : R (_, _, _, _, _, _))
  exact hR (zret_i rfl (Nat.le_refl _) (trivial) (h))
theorem r_making (d : Nat) (p0 p1 p2 p3 : Int32) (t : zW) (Q : zQ) (h : Q (some (.int (Int32.ofInt (-1)))) (zCw t)) : zCl zTab (d + 3) iX11_making [.ref 0, .int p0, .int p1, .int p2, .int p3] (zCw t) 0 0 Q := by
  refine zCl_i (M := kX11_making) rfl (Nat.le_of_ble_eq_true rfl) fun R hR => ?_
  iterate 2 refine hR (?_ : R (_, _, _, _, _, _))
  refine hR (zcall_i 0 0 (Nat.le_of_ble_eq_true rfl) (Nat.le_of_ble_eq_true rfl) (r_readingsAt _ _ _ _ ?_))
  iterate 4 refine hR (?_ : R (_, _, _, _, _, _))
  exact hR (zret_i rfl (Nat.le_refl _) (trivial) (h))
theorem r_ring (d : Nat) (p0 p1 : Int32) (t : zW) (Q : zQ) (h : Q (some (.int (Int32.ofInt (-1)))) (zCw t)) : zCl zTab (d + 3) iX11_ring [.ref 0, .int p0, .int p1] (zCw t) 0 0 Q := by
  refine zCl_i (M := kX11_ring) rfl (Nat.le_of_ble_eq_true rfl) fun R hR => ?_
  iterate 2 refine hR (?_ : R (_, _, _, _, _, _))
  refine hR (zcall_i 0 0 (Nat.le_of_ble_eq_true rfl) (Nat.le_of_ble_eq_true rfl) (r_readingsAt _ _ _ _ ?_))
  iterate 4 refine hR (?_ : R (_, _, _, _, _, _))
  exact hR (zret_i rfl (Nat.le_refl _) (trivial) (h))
theorem r_reach (d : Nat) (p0 p1 p2 : Int32) (t : zW) (Q : zQ) (h : Q (some (.int (Int32.ofInt (-1)))) (zCw t)) : zCl zTab (d + 3) iX11_reach [.ref 0, .int p0, .int p1, .int p2] (zCw t) 0 0 Q := by
  refine zCl_i (M := kX11_reach) rfl (Nat.le_of_ble_eq_true rfl) fun R hR => ?_
  iterate 2 refine hR (?_ : R (_, _, _, _, _, _))
  refine hR (zcall_i 0 0 (Nat.le_of_ble_eq_true rfl) (Nat.le_of_ble_eq_true rfl) (r_readingsAt _ _ _ _ ?_))
  iterate 4 refine hR (?_ : R (_, _, _, _, _, _))
  exact hR (zret_i rfl (Nat.le_refl _) (trivial) (h))
theorem r_sound (d : Nat) (p0 p1 : Int32) (t : zW) (Q : zQ) (h : Q (some (.int (Int32.ofInt (-1)))) (zCw t)) : zCl zTab (d + 3) iX11_sound [.ref 0, .int p0, .int p1] (zCw t) 0 0 Q := by
  refine zCl_i (M := kX11_sound) rfl (Nat.le_of_ble_eq_true rfl) fun R hR => ?_
  iterate 2 refine hR (?_ : R (_, _, _, _, _, _))
  refine hR (zcall_i 0 0 (Nat.le_of_ble_eq_true rfl) (Nat.le_of_ble_eq_true rfl) (r_readingsAt _ _ _ _ ?_))
  iterate 5 refine hR (?_ : R (_, _, _, _, _, _))
  exact hR (zret_i rfl (Nat.le_refl _) (trivial) (h))
theorem r_like (d : Nat) (p0 p1 p2 : Int32) (t : zW) (Q : zQ) (h : Q (some (.int (Int32.ofInt (-1)))) (zCw t)) : zCl zTab (d + 3) iX11_like [.ref 0, .int p0, .int p1, .int p2] (zCw t) 0 0 Q := by
  refine zCl_i (M := kX11_like) rfl (Nat.le_of_ble_eq_true rfl) fun R hR => ?_
  iterate 2 refine hR (?_ : R (_, _, _, _, _, _))
  refine hR (zcall_i 0 0 (Nat.le_of_ble_eq_true rfl) (Nat.le_of_ble_eq_true rfl) (r_readingsAt _ _ _ _ ?_))
  iterate 4 refine hR (?_ : R (_, _, _, _, _, _))
  exact hR (zret_i rfl (Nat.le_refl _) (trivial) (h))
theorem r_orbits (d : Nat) (p0 p1 p2 : Int32) (t : zW) (Q : zQ) (h : Q (some (.int (Int32.ofInt (-1)))) (zCw t)) : zCl zTab (d + 3) iX11_orbits [.ref 0, .int p0, .int p1, .int p2] (zCw t) 0 0 Q := by
  refine zCl_i (M := kX11_orbits) rfl (Nat.le_of_ble_eq_true rfl) fun R hR => ?_
  iterate 2 refine hR (?_ : R (_, _, _, _, _, _))
  refine hR (zcall_i 0 0 (Nat.le_of_ble_eq_true rfl) (Nat.le_of_ble_eq_true rfl) (r_readingsAt _ _ _ _ ?_))
  iterate 4 refine hR (?_ : R (_, _, _, _, _, _))
  exact hR (zret_i rfl (Nat.le_refl _) (trivial) (h))
theorem r_rota (d : Nat) (p0 p1 p2 : Int32) (t : zW) (Q : zQ) (h : Q (some (.int (Int32.ofInt (-1)))) (zCw t)) : zCl zTab (d + 3) iX11_rota [.ref 0, .int p0, .int p1, .int p2] (zCw t) 0 0 Q := by
  refine zCl_i (M := kX11_rota) rfl (Nat.le_of_ble_eq_true rfl) fun R hR => ?_
  iterate 2 refine hR (?_ : R (_, _, _, _, _, _))
  refine hR (zcall_i 0 0 (Nat.le_of_ble_eq_true rfl) (Nat.le_of_ble_eq_true rfl) (r_readingsAt _ _ _ _ ?_))
  iterate 4 refine hR (?_ : R (_, _, _, _, _, _))
  exact hR (zret_i rfl (Nat.le_refl _) (trivial) (h))
theorem r_mean (d : Nat) (p0 p1 p2 : Int32) (t : zW) (Q : zQ) (h : Q (some (.long (Int64.ofNat 18446744073709551615))) (zCw t)) : zCl zTab (d + 3) iX11_mean [.ref 0, .int p0, .int p1, .int p2] (zCw t) 0 0 Q := by
  refine zCl_i (M := kX11_mean) rfl (Nat.le_of_ble_eq_true rfl) fun R hR => ?_
  iterate 2 refine hR (?_ : R (_, _, _, _, _, _))
  refine hR (zcall_i 0 0 (Nat.le_of_ble_eq_true rfl) (Nat.le_of_ble_eq_true rfl) (r_readingsAt _ _ _ _ ?_))
  iterate 4 refine hR (?_ : R (_, _, _, _, _, _))
  exact hR (zret_i rfl (Nat.le_refl _) (trivial) (h))
theorem r_elders (d : Nat) (p0 p1 p2 p3 : Int32) (t : zW) (Q : zQ) (h : Q (some (.int (Int32.ofInt (-2)))) (zCw t)) : zCl zTab (d + 3) iX11_elders [.ref 0, .int p0, .int p1, .int p2, .int p3] (zCw t) 0 0 Q := by
  refine zCl_i (M := kX11_elders) rfl (Nat.le_of_ble_eq_true rfl) fun R hR => ?_
  iterate 2 refine hR (?_ : R (_, _, _, _, _, _))
  refine hR (zcall_i 0 0 (Nat.le_of_ble_eq_true rfl) (Nat.le_of_ble_eq_true rfl) (r_readingsAt _ _ _ _ ?_))
  iterate 4 refine hR (?_ : R (_, _, _, _, _, _))
  exact hR (zret_i rfl (Nat.le_refl _) (trivial) (h))
theorem r_play (d : Nat) (p0 p1 p2 p3 p4 p5 : Int32) (t : zW) (Q : zQ) (h : Q (some (.int (Int32.ofInt (-1)))) (zCw t)) : zCl zTab (d + 3) iX11_play [.ref 0, .int p0, .int p1, .int p2, .int p3, .int p4, .int p5] (zCw t) 0 0 Q := by
  refine zCl_i (M := kX11_play) rfl (Nat.le_of_ble_eq_true rfl) fun R hR => ?_
  iterate 2 refine hR (?_ : R (_, _, _, _, _, _))
  refine hR (zcall_i 0 0 (Nat.le_of_ble_eq_true rfl) (Nat.le_of_ble_eq_true rfl) (r_readingsAt _ _ _ _ ?_))
  iterate 4 refine hR (?_ : R (_, _, _, _, _, _))
  exact hR (zret_i rfl (Nat.le_refl _) (trivial) (h))
theorem r_fact (d : Nat) (p0 p1 p2 : Int32) (t : zW) (Q : zQ) (h : Q (some (.int (Int32.ofInt (-2)))) (zCw t)) : zCl zTab (d + 3) iX11_fact [.ref 0, .int p0, .int p1, .int p2] (zCw t) 0 0 Q := by
  refine zCl_i (M := kX11_fact) rfl (Nat.le_of_ble_eq_true rfl) fun R hR => ?_
  iterate 2 refine hR (?_ : R (_, _, _, _, _, _))
  refine hR (zcall_i 0 0 (Nat.le_of_ble_eq_true rfl) (Nat.le_of_ble_eq_true rfl) (r_sightAt _ _ _ _ ?_))
  iterate 5 refine hR (?_ : R (_, _, _, _, _, _))
  exact hR (zret_i rfl (Nat.le_refl _) (trivial) (h))
theorem r_fits (d : Nat) (p0 p1 p2 p3 : Int32) (t : zW) (Q : zQ) (h : Q (some (.int (Int32.ofInt (-1)))) (zCw t)) : zCl zTab (d + 3) iX11_fits [.ref 0, .int p0, .int p1, .int p2, .int p3] (zCw t) 0 0 Q := by
  refine zCl_i (M := kX11_fits) rfl (Nat.le_of_ble_eq_true rfl) fun R hR => ?_
  iterate 2 refine hR (?_ : R (_, _, _, _, _, _))
  refine hR (zcall_i 0 0 (Nat.le_of_ble_eq_true rfl) (Nat.le_of_ble_eq_true rfl) (r_readingsAt _ _ _ _ ?_))
  iterate 3 refine hR (?_ : R (_, _, _, _, _, _))
  refine hR (zcall_i 0 0 (Nat.le_of_ble_eq_true rfl) (Nat.le_of_ble_eq_true rfl) (r_sightAt _ _ _ _ ?_))
  iterate 4 refine hR (?_ : R (_, _, _, _, _, _))
  exact hR (zret_i rfl (Nat.le_refl _) (trivial) (h))
theorem r_sure (d : Nat) (p0 p1 p2 p3 : Int32) (t : zW) (Q : zQ) (h : Q (some (.int (Int32.ofInt (-1)))) (zCw t)) : zCl zTab (d + 3) iX11_sure [.ref 0, .int p0, .int p1, .int p2, .int p3] (zCw t) 0 0 Q := by
  refine zCl_i (M := kX11_sure) rfl (Nat.le_of_ble_eq_true rfl) fun R hR => ?_
  iterate 2 refine hR (?_ : R (_, _, _, _, _, _))
  refine hR (zcall_i 0 0 (Nat.le_of_ble_eq_true rfl) (Nat.le_of_ble_eq_true rfl) (r_readingsAt _ _ _ _ ?_))
  iterate 3 refine hR (?_ : R (_, _, _, _, _, _))
  refine hR (zcall_i 0 0 (Nat.le_of_ble_eq_true rfl) (Nat.le_of_ble_eq_true rfl) (r_sightAt _ _ _ _ ?_))
  iterate 4 refine hR (?_ : R (_, _, _, _, _, _))
  exact hR (zret_i rfl (Nat.le_refl _) (trivial) (h))
theorem r_drawn (d : Nat) (p0 p1 p2 p3 : Int32) (t : zW) (Q : zQ) (h : Q (some (.int (Int32.ofInt (-2)))) (zCw t)) : zCl zTab (d + 3) iX11_drawn [.ref 0, .int p0, .int p1, .int p2, .int p3] (zCw t) 0 0 Q := by
  refine zCl_i (M := kX11_drawn) rfl (Nat.le_of_ble_eq_true rfl) fun R hR => ?_
  iterate 2 refine hR (?_ : R (_, _, _, _, _, _))
  refine hR (zcall_i 0 0 (Nat.le_of_ble_eq_true rfl) (Nat.le_of_ble_eq_true rfl) (r_bookAt _ _ _ _ ?_))
  iterate 4 refine hR (?_ : R (_, _, _, _, _, _))
  exact hR (zret_i rfl (Nat.le_refl _) (trivial) (h))
theorem r_kinship (d : Nat) (p0 p1 p2 : Int32) (t : zW) (Q : zQ) (h : Q (some (.int (Int32.ofInt (-1)))) (zCw t)) : zCl zTab (d + 3) iX11_kinship [.ref 0, .int p0, .int p1, .int p2] (zCw t) 0 0 Q := by
  refine zCl_i (M := kX11_kinship) rfl (Nat.le_of_ble_eq_true rfl) fun R hR => ?_
  iterate 2 refine hR (?_ : R (_, _, _, _, _, _))
  refine hR (zcall_i 0 0 (Nat.le_of_ble_eq_true rfl) (Nat.le_of_ble_eq_true rfl) (r_bookAt _ _ _ _ ?_))
  iterate 4 refine hR (?_ : R (_, _, _, _, _, _))
  exact hR (zret_i rfl (Nat.le_refl _) (trivial) (h))
theorem r_joined (d : Nat) (p0 p1 p2 p3 : Int32) (t : zW) (Q : zQ) (h : Q (some (.int (Int32.ofInt (-1)))) (zCw t)) : zCl zTab (d + 3) iX11_joined [.ref 0, .int p0, .int p1, .int p2, .int p3] (zCw t) 0 0 Q := by
  refine zCl_i (M := kX11_joined) rfl (Nat.le_of_ble_eq_true rfl) fun R hR => ?_
  iterate 2 refine hR (?_ : R (_, _, _, _, _, _))
  refine hR (zcall_i 0 0 (Nat.le_of_ble_eq_true rfl) (Nat.le_of_ble_eq_true rfl) (r_readingsAt _ _ _ _ ?_))
  iterate 4 refine hR (?_ : R (_, _, _, _, _, _))
  exact hR (zret_i rfl (Nat.le_refl _) (trivial) (h))
theorem r_nearest (d : Nat) (p0 p1 p2 p3 : Int32) (t : zW) (Q : zQ) (h : Q (some (.int (Int32.ofInt (-1)))) (zCw t)) : zCl zTab (d + 3) iX11_nearest [.ref 0, .int p0, .int p1, .int p2, .int p3] (zCw t) 0 0 Q := by
  refine zCl_i (M := kX11_nearest) rfl (Nat.le_of_ble_eq_true rfl) fun R hR => ?_
  iterate 2 refine hR (?_ : R (_, _, _, _, _, _))
  refine hR (zcall_i 0 0 (Nat.le_of_ble_eq_true rfl) (Nat.le_of_ble_eq_true rfl) (r_readingsAt _ _ _ _ ?_))
  iterate 4 refine hR (?_ : R (_, _, _, _, _, _))
  exact hR (zret_i rfl (Nat.le_refl _) (trivial) (h))
theorem r_settles (d : Nat) (p0 p1 p2 : Int32) (t : zW) (Q : zQ) (h : Q (some (.int (Int32.ofInt (-1)))) (zCw t)) : zCl zTab (d + 3) iX11_settles [.ref 0, .int p0, .int p1, .int p2] (zCw t) 0 0 Q := by
  refine zCl_i (M := kX11_settles) rfl (Nat.le_of_ble_eq_true rfl) fun R hR => ?_
  iterate 2 refine hR (?_ : R (_, _, _, _, _, _))
  refine hR (zcall_i 0 0 (Nat.le_of_ble_eq_true rfl) (Nat.le_of_ble_eq_true rfl) (r_readingsAt _ _ _ _ ?_))
  iterate 4 refine hR (?_ : R (_, _, _, _, _, _))
  exact hR (zret_i rfl (Nat.le_refl _) (trivial) (h))
theorem r_unmade (d : Nat) (p0 p1 : Int32) (t : zW) (Q : zQ) (h : Q (some (.int (Int32.ofInt (-2)))) (zCw t)) : zCl zTab (d + 3) iX11_unmade [.ref 0, .int p0, .int p1] (zCw t) 0 0 Q := by
  refine zCl_i (M := kX11_unmade) rfl (Nat.le_of_ble_eq_true rfl) fun R hR => ?_
  iterate 2 refine hR (?_ : R (_, _, _, _, _, _))
  refine hR (zcall_i 0 0 (Nat.le_of_ble_eq_true rfl) (Nat.le_of_ble_eq_true rfl) (r_readingsAt _ _ _ _ ?_))
  iterate 4 refine hR (?_ : R (_, _, _, _, _, _))
  exact hR (zret_i rfl (Nat.le_refl _) (trivial) (h))
theorem r_silenced (d : Nat) (p0 p1 p2 : Int32) (t : zW) (Q : zQ) (h : Q (some (.int (Int32.ofInt (-1)))) (zCw t)) : zCl zTab (d + 3) iX11_silenced [.ref 0, .int p0, .int p1, .int p2] (zCw t) 0 0 Q := by
  refine zCl_i (M := kX11_silenced) rfl (Nat.le_of_ble_eq_true rfl) fun R hR => ?_
  iterate 2 refine hR (?_ : R (_, _, _, _, _, _))
  refine hR (zcall_i 0 0 (Nat.le_of_ble_eq_true rfl) (Nat.le_of_ble_eq_true rfl) (r_readingsAt _ _ _ _ ?_))
  iterate 4 refine hR (?_ : R (_, _, _, _, _, _))
  exact hR (zret_i rfl (Nat.le_refl _) (trivial) (h))
theorem r_circles (d : Nat) (p0 p1 : Int32) (t : zW) (Q : zQ) (h : Q (some (.int (Int32.ofInt (-1)))) (zCw t)) : zCl zTab (d + 3) iX11_circles [.ref 0, .int p0, .int p1] (zCw t) 0 0 Q := by
  refine zCl_i (M := kX11_circles) rfl (Nat.le_of_ble_eq_true rfl) fun R hR => ?_
  iterate 2 refine hR (?_ : R (_, _, _, _, _, _))
  refine hR (zcall_i 0 0 (Nat.le_of_ble_eq_true rfl) (Nat.le_of_ble_eq_true rfl) (r_readingsAt _ _ _ _ ?_))
  iterate 4 refine hR (?_ : R (_, _, _, _, _, _))
  exact hR (zret_i rfl (Nat.le_refl _) (trivial) (h))
theorem m_in (d : Nat) (v a b : Int32) (w : zW) (Q : zQ) (h1 : ¬ v < a → v ≤ b → Q (some (.int (Int32.ofInt 1))) w) (h0 : v < a ∨ b < v → Q (some (.int (Int32.ofInt 0))) w) : zCl zTab (d + 1) iX12_in [.int v, .int a, .int b] w 0 0 Q := by
  refine zCl_i (M := kX12_in) rfl (Nat.le_of_ble_eq_true rfl) fun R hR => ?_
  iterate 2 refine hR (?_ : R (_, _, _, _, _, _))
  refine hR (And.intro (fun hc1 => ?_) (fun hc1 => ?_))
  · refine hR (?_ : R (_, _, _, _, _, _))
    exact hR (zret_i rfl (Nat.le_refl _) (Or.inl rfl) (h0 (Or.inl hc1)))
  iterate 2 refine hR (?_ : R (_, _, _, _, _, _))
  refine hR (And.intro (fun hc2 => ?_) (fun hc2 => ?_))
  · refine hR (?_ : R (_, _, _, _, _, _))
    exact hR (zret_i rfl (Nat.le_refl _) (Or.inl rfl) (h0 (Or.inr hc2)))
  iterate 2 refine hR (?_ : R (_, _, _, _, _, _))
  exact hR (zret_i rfl (Nat.le_refl _) (Or.inr rfl) (h1 hc1 (Int32.not_lt.mp hc2)))
theorem zi_5460 {n : Int32} (h : n ≤ (Int16.ofInt 5460).toInt32) : n < 5461 := by
  rw [Int32.le_iff_toInt_le] at h
  rw [Int32.lt_iff_toInt_lt]
  have e1 : (Int16.ofInt 5460).toInt32.toInt = 5460 := by decide
  have e2 : (5461 : Int32).toInt = 5461 := by decide
  omega
theorem zi_5461 {n : Int32} (h : (Int16.ofInt 5460).toInt32 < n) : 5461 ≤ n := by
  rw [Int32.lt_iff_toInt_lt] at h
  rw [Int32.le_iff_toInt_le]
  have e1 : (Int16.ofInt 5460).toInt32.toInt = 5460 := by decide
  have e2 : (5461 : Int32).toInt = 5461 := by decide
  omega
theorem zi_nn2 {k : Int32} (h0 : ¬ k < Int32.ofInt 0) (h1 : k ≤ (0 : Int32) - Int32.ofInt 1) : False := by
  rw [Int32.not_lt, Int32.le_iff_toInt_le] at h0
  rw [Int32.le_iff_toInt_le] at h1
  have e1 : (Int32.ofInt 0).toInt = 0 := by decide
  have e2 : ((0 : Int32) - Int32.ofInt 1).toInt = -1 := by decide
  omega
theorem m_isText (d : Nat) (n : Int32) (w : zW) (Q : zQ) (h1 : ¬ n < 0 → n < 5461 → Q (some (.int (Int32.ofInt 1))) w) (h0 : n < 0 ∨ 5461 ≤ n → Q (some (.int (Int32.ofInt 0))) w) : zCl zTab (d + 2) iX12_isText [.int n] w 0 0 Q := by
  refine zCl_i (M := kX12_isText) rfl (Nat.le_of_ble_eq_true rfl) fun R hR => ?_
  iterate 3 refine hR (?_ : R (_, _, _, _, _, _))
  refine hR (zcall_i 0 0 (Nat.le_of_ble_eq_true rfl) (Nat.le_of_ble_eq_true rfl) (m_in _ _ _ _ _ _ (fun q1 q2 => ?_) (fun q => ?_)))
  · exact hR (zret_i rfl (Nat.le_refl _) (Or.inr rfl) (h1 q1 (zi_5460 q2)))
  · exact hR (zret_i rfl (Nat.le_refl _) (Or.inl rfl) (h0 (q.imp id zi_5461)))
theorem m_is {c0 c1 c2 c3 c4 c5 c6 c7 c8 c9 c10 c11 c12 c13 : va_E} {x0 x9 x10 x11 x12 x13 x15 x16 x17 x20 x21 x22 x23 x26 x28 x31 x32 x33 x38 x41 x44 : Int32} {x14 : Int64} {g15 g16 g17 g18 g20 g21 g22 g23 g24 g25 g26 g27 g28 g29 g30 g31 g32 g33 g34 g35 g36 g37 g38 g39 g40 g41 g42 g43 g44 : Nat → Int32} {t : zW} (d : Nat) (a k : Int32) (Q : zQ) (ha : vp_in a 12) (h : Q (some (.int (Int32.ofInt 0))) (zMw c0 c1 c2 c3 c4 c5 c6 c7 c8 c9 c10 c11 c12 c13 x0 x9 x10 x11 x12 x13 x15 x16 x17 x20 x21 x22 x23 x26 x28 x31 x32 x33 x38 x41 x44 x14 g15 g16 g17 g18 g20 g21 g22 g23 g24 g25 g26 g27 g28 g29 g30 g31 g32 g33 g34 g35 g36 g37 g38 g39 g40 g41 g42 g43 g44 t)) : zCl zTab (d + 2) iX12_is [.ref 14, .int a, .int k] (zMw c0 c1 c2 c3 c4 c5 c6 c7 c8 c9 c10 c11 c12 c13 x0 x9 x10 x11 x12 x13 x15 x16 x17 x20 x21 x22 x23 x26 x28 x31 x32 x33 x38 x41 x44 x14 g15 g16 g17 g18 g20 g21 g22 g23 g24 g25 g26 g27 g28 g29 g30 g31 g32 g33 g34 g35 g36 g37 g38 g39 g40 g41 g42 g43 g44 t) 0 0 Q := by
  refine zCl_i (M := kX12_is) rfl (Nat.le_of_ble_eq_true rfl) fun R hR => ?_
  iterate 5 refine hR (?_ : R (_, _, _, _, _, _))
  refine hR (And.intro ha ?_)
  iterate 2 refine hR (?_ : R (_, _, _, _, _, _))
  refine hR (zcall_i 0 0 (Nat.le_of_ble_eq_true rfl) (Nat.le_of_ble_eq_true rfl) (m_in _ _ _ _ _ _ (fun q1 q2 => (zi_nn2 q1 q2).elim) (fun q => ?_)))
  exact hR (zret_i rfl (Nat.le_refl _) (Or.inl rfl) h)
theorem m_hand {c0 c1 c2 c3 c4 c5 c6 c7 c8 c9 c10 c11 c12 c13 : va_E} {x0 x9 x10 x11 x12 x13 x15 x16 x17 x20 x21 x22 x23 x26 x28 x31 x32 x33 x38 x41 x44 : Int32} {x14 : Int64} {g15 g16 g17 g18 g20 g21 g22 g23 g24 g25 g26 g27 g28 g29 g30 g31 g32 g33 g34 g35 g36 g37 g38 g39 g40 g41 g42 g43 g44 : Nat → Int32} {t : zW} (d : Nat) (k : Int32) (Q : zQ) (h : Q (some (.int (Int32.ofInt 0))) (zMw c0 c1 c2 c3 c4 c5 c6 c7 c8 c9 c10 c11 c12 c13 x0 x9 x10 x11 x12 x13 x15 x16 x17 x20 x21 x22 x23 x26 x28 x31 x32 x33 x38 x41 x44 x14 g15 g16 g17 g18 g20 g21 g22 g23 g24 g25 g26 g27 g28 g29 g30 g31 g32 g33 g34 g35 g36 g37 g38 g39 g40 g41 g42 g43 g44 t)) : zCl zTab (d + 3) iX12_hand [.ref 14, .int k] (zMw c0 c1 c2 c3 c4 c5 c6 c7 c8 c9 c10 c11 c12 c13 x0 x9 x10 x11 x12 x13 x15 x16 x17 x20 x21 x22 x23 x26 x28 x31 x32 x33 x38 x41 x44 x14 g15 g16 g17 g18 g20 g21 g22 g23 g24 g25 g26 g27 g28 g29 g30 g31 g32 g33 g34 g35 g36 g37 g38 g39 g40 g41 g42 g43 g44 t) 0 0 Q := by
  refine zCl_i (M := kX12_hand) rfl (Nat.le_of_ble_eq_true rfl) fun R hR => ?_
  iterate 3 refine hR (?_ : R (_, _, _, _, _, _))
  refine hR (zcall_i 0 0 (Nat.le_of_ble_eq_true rfl) (Nat.le_of_ble_eq_true rfl) (m_is _ _ _ _ (by unfold vp_in; decide) ?_))
  refine hR (And.intro (fun hc => absurd (by decide) hc) (fun _ => ?_))
  refine hR (?_ : R (_, _, _, _, _, _))
  exact hR (zret_i rfl (Nat.le_refl _) (Or.inl rfl) (h))
theorem m_hasYear {c0 c1 c2 c3 c4 c5 c6 c7 c8 c9 c10 c11 c12 c13 : va_E} {x0 x9 x10 x11 x12 x13 x15 x16 x17 x20 x21 x22 x23 x26 x28 x31 x32 x33 x38 x41 x44 : Int32} {x14 : Int64} {g15 g16 g17 g18 g20 g21 g22 g23 g24 g25 g26 g27 g28 g29 g30 g31 g32 g33 g34 g35 g36 g37 g38 g39 g40 g41 g42 g43 g44 : Nat → Int32} {t : zW} (d : Nat) (k : Int32) (Q : zQ) (h : Q (some (.int (Int32.ofInt 0))) (zMw c0 c1 c2 c3 c4 c5 c6 c7 c8 c9 c10 c11 c12 c13 x0 x9 x10 x11 x12 x13 x15 x16 x17 x20 x21 x22 x23 x26 k x31 x32 x33 x38 x41 x44 x14 g15 g16 g17 g18 g20 g21 g22 g23 g24 g25 g26 g27 g28 g29 g30 g31 g32 g33 g34 g35 g36 g37 g38 g39 g40 g41 g42 g43 g44 t)) : zCl zTab (d + 3) iX12_hasYear [.ref 14, .int k] (zMw c0 c1 c2 c3 c4 c5 c6 c7 c8 c9 c10 c11 c12 c13 x0 x9 x10 x11 x12 x13 x15 x16 x17 x20 x21 x22 x23 x26 x28 x31 x32 x33 x38 x41 x44 x14 g15 g16 g17 g18 g20 g21 g22 g23 g24 g25 g26 g27 g28 g29 g30 g31 g32 g33 g34 g35 g36 g37 g38 g39 g40 g41 g42 g43 g44 t) 0 0 Q := by
  refine zCl_i (M := kX12_hasYear) rfl (Nat.le_of_ble_eq_true rfl) fun R hR => ?_
  iterate 6 refine hR (?_ : R (_, _, _, _, _, _))
  refine hR (zcall_i 0 0 (Nat.le_of_ble_eq_true rfl) (Nat.le_of_ble_eq_true rfl) (m_is _ _ _ _ (by unfold vp_in; decide) ?_))
  exact hR (zret_i rfl (Nat.le_refl _) (Or.inl rfl) (h))
theorem m_hasSight {c0 c1 c2 c3 c4 c5 c6 c7 c8 c9 c10 c11 c12 c13 : va_E} {x0 x9 x10 x11 x12 x13 x15 x16 x17 x20 x21 x22 x23 x26 x28 x31 x32 x33 x38 x41 x44 : Int32} {x14 : Int64} {g15 g16 g17 g18 g20 g21 g22 g23 g24 g25 g26 g27 g28 g29 g30 g31 g32 g33 g34 g35 g36 g37 g38 g39 g40 g41 g42 g43 g44 : Nat → Int32} {t : zW} (d : Nat) (k : Int32) (Q : zQ) (h : Q (some (.int (Int32.ofInt 0))) (zMw c0 c1 c2 c3 c4 c5 c6 c7 c8 c9 c10 c11 c12 c13 x0 x9 x10 x11 x12 x13 x15 x16 x17 x20 x21 x22 x23 x26 x28 x31 x32 x33 x38 k x44 x14 g15 g16 g17 g18 g20 g21 g22 g23 g24 g25 g26 g27 g28 g29 g30 g31 g32 g33 g34 g35 g36 g37 g38 g39 g40 g41 g42 g43 g44 t)) : zCl zTab (d + 3) iX12_hasSight [.ref 14, .int k] (zMw c0 c1 c2 c3 c4 c5 c6 c7 c8 c9 c10 c11 c12 c13 x0 x9 x10 x11 x12 x13 x15 x16 x17 x20 x21 x22 x23 x26 x28 x31 x32 x33 x38 x41 x44 x14 g15 g16 g17 g18 g20 g21 g22 g23 g24 g25 g26 g27 g28 g29 g30 g31 g32 g33 g34 g35 g36 g37 g38 g39 g40 g41 g42 g43 g44 t) 0 0 Q := by
  refine zCl_i (M := kX12_hasSight) rfl (Nat.le_of_ble_eq_true rfl) fun R hR => ?_
  iterate 6 refine hR (?_ : R (_, _, _, _, _, _))
  refine hR (zcall_i 0 0 (Nat.le_of_ble_eq_true rfl) (Nat.le_of_ble_eq_true rfl) (m_is _ _ _ _ (by unfold vp_in; decide) ?_))
  exact hR (zret_i rfl (Nat.le_refl _) (Or.inl rfl) (h))
theorem m_handAll {c0 c1 c2 c3 c4 c5 c6 c7 c8 c9 c10 c11 c12 c13 : va_E} {x0 x9 x10 x11 x12 x13 x15 x16 x17 x20 x21 x22 x23 x26 x28 x31 x32 x33 x38 x41 x44 : Int32} {x14 : Int64} {g15 g16 g17 g18 g20 g21 g22 g23 g24 g25 g26 g27 g28 g29 g30 g31 g32 g33 g34 g35 g36 g37 g38 g39 g40 g41 g42 g43 g44 : Nat → Int32} {t : zW} (d : Nat) (k : Int32) (Q : zQ) (h : Q (some (.int (Int32.ofInt 0))) (zMw c0 c1 c2 c3 c4 c5 c6 c7 c8 c9 c10 c11 c12 c13 x0 x9 x10 x11 x12 x13 x15 x16 x17 x20 x21 x22 x23 x26 x28 x31 x32 x33 x38 x41 x44 x14 g15 g16 g17 g18 g20 g21 g22 g23 g24 g25 g26 g27 g28 g29 g30 g31 g32 g33 g34 g35 g36 g37 g38 g39 g40 g41 g42 g43 g44 t)) : zCl zTab (d + 4) iX12_handAll [.ref 14, .int k] (zMw c0 c1 c2 c3 c4 c5 c6 c7 c8 c9 c10 c11 c12 c13 x0 x9 x10 x11 x12 x13 x15 x16 x17 x20 x21 x22 x23 x26 x28 x31 x32 x33 x38 x41 x44 x14 g15 g16 g17 g18 g20 g21 g22 g23 g24 g25 g26 g27 g28 g29 g30 g31 g32 g33 g34 g35 g36 g37 g38 g39 g40 g41 g42 g43 g44 t) 0 0 Q := by
  refine zCl_i (M := kX12_handAll) rfl (Nat.le_of_ble_eq_true rfl) fun R hR => ?_
  iterate 2 refine hR (?_ : R (_, _, _, _, _, _))
  refine hR (zcall_i 0 0 (Nat.le_of_ble_eq_true rfl) (Nat.le_of_ble_eq_true rfl) (m_hand _ _ _ ?_))
  refine hR (And.intro (fun hc => absurd (by decide) hc) (fun _ => ?_))
  refine hR (?_ : R (_, _, _, _, _, _))
  exact hR (zret_i rfl (Nat.le_refl _) (Or.inl rfl) (h))
theorem m_layAll {c0 c1 c2 c3 c4 c5 c6 c7 c8 c9 c10 c11 c12 c13 : va_E} {x0 x9 x10 x11 x12 x13 x15 x16 x17 x20 x21 x22 x23 x26 x28 x31 x32 x33 x38 x41 x44 : Int32} {x14 : Int64} {g15 g16 g17 g18 g20 g21 g22 g23 g24 g25 g26 g27 g28 g29 g30 g31 g32 g33 g34 g35 g36 g37 g38 g39 g40 g41 g42 g43 g44 : Nat → Int32} {t : zW} (d : Nat) (k l : Int32) (Q : zQ) (h : ∀ w, Q (some (.int (Int32.ofInt 0))) w) : zCl zTab (d + 4) iX12_layAll [.ref 14, .int k, .int l] (zMw c0 c1 c2 c3 c4 c5 c6 c7 c8 c9 c10 c11 c12 c13 x0 x9 x10 x11 x12 x13 x15 x16 x17 x20 x21 x22 x23 x26 x28 x31 x32 x33 x38 x41 x44 x14 g15 g16 g17 g18 g20 g21 g22 g23 g24 g25 g26 g27 g28 g29 g30 g31 g32 g33 g34 g35 g36 g37 g38 g39 g40 g41 g42 g43 g44 t) 0 0 Q := by
  refine zCl_i (M := kX12_layAll) rfl (Nat.le_of_ble_eq_true rfl) fun R hR => ?_
  iterate 2 refine hR (?_ : R (_, _, _, _, _, _))
  refine hR (zcall_i 0 0 (Nat.le_of_ble_eq_true rfl) (Nat.le_of_ble_eq_true rfl) (m_hasYear _ _ _ ?_))
  refine hR (And.intro (fun _ => ?_) (fun hc => absurd (by decide) hc))
  refine hR (?_ : R (_, _, _, _, _, _))
  exact hR (zret_i rfl (Nat.le_refl _) (Or.inl rfl) (h _))
theorem m_book {c0 c1 c2 c3 c4 c5 c6 c7 c8 c9 c10 c11 c12 c13 : va_E} {x0 x9 x10 x11 x12 x13 x15 x16 x17 x20 x21 x22 x23 x26 x28 x31 x32 x33 x38 x41 x44 : Int32} {x14 : Int64} {g15 g16 g17 g18 g20 g21 g22 g23 g24 g25 g26 g27 g28 g29 g30 g31 g32 g33 g34 g35 g36 g37 g38 g39 g40 g41 g42 g43 g44 : Nat → Int32} {t : zW} (d : Nat) (p0 p1 : Int32) (Q : zQ) (h : ∀ w, Q (some (.int (Int32.ofInt (-1)))) w) : zCl zTab (d + 5) iX12_book [.ref 14, .int p0, .int p1] (zMw c0 c1 c2 c3 c4 c5 c6 c7 c8 c9 c10 c11 c12 c13 x0 x9 x10 x11 x12 x13 x15 x16 x17 x20 x21 x22 x23 x26 x28 x31 x32 x33 x38 x41 x44 x14 g15 g16 g17 g18 g20 g21 g22 g23 g24 g25 g26 g27 g28 g29 g30 g31 g32 g33 g34 g35 g36 g37 g38 g39 g40 g41 g42 g43 g44 t) 0 0 Q := by
  refine zCl_i (M := kX12_book) rfl (Nat.le_of_ble_eq_true rfl) fun R hR => ?_
  iterate 5 refine hR (?_ : R (_, _, _, _, _, _))
  refine hR (zcall_i 0 0 (Nat.le_of_ble_eq_true rfl) (Nat.le_of_ble_eq_true rfl) (m_hand _ _ _ ?_))
  refine hR (And.intro (fun hc => absurd (by decide) hc) (fun _ => ?_))
  refine hR (?_ : R (_, _, _, _, _, _))
  exact hR (zret_i rfl (Nat.le_refl _) (trivial) (h _))
theorem m_read {c0 c1 c2 c3 c4 c5 c6 c7 c8 c9 c10 c11 c12 c13 : va_E} {x0 x9 x10 x11 x12 x13 x15 x16 x17 x20 x21 x22 x23 x26 x28 x31 x32 x33 x38 x41 x44 : Int32} {x14 : Int64} {g15 g16 g17 g18 g20 g21 g22 g23 g24 g25 g26 g27 g28 g29 g30 g31 g32 g33 g34 g35 g36 g37 g38 g39 g40 g41 g42 g43 g44 : Nat → Int32} {t : zW} (d : Nat) (p0 p1 p2 : Int32) (Q : zQ) (h : ∀ w, Q (some (.int (Int32.ofInt (-1)))) w) : zCl zTab (d + 5) iX12_read [.ref 14, .int p0, .int p1, .int p2] (zMw c0 c1 c2 c3 c4 c5 c6 c7 c8 c9 c10 c11 c12 c13 x0 x9 x10 x11 x12 x13 x15 x16 x17 x20 x21 x22 x23 x26 x28 x31 x32 x33 x38 x41 x44 x14 g15 g16 g17 g18 g20 g21 g22 g23 g24 g25 g26 g27 g28 g29 g30 g31 g32 g33 g34 g35 g36 g37 g38 g39 g40 g41 g42 g43 g44 t) 0 0 Q := by
  refine zCl_i (M := kX12_read) rfl (Nat.le_of_ble_eq_true rfl) fun R hR => ?_
  iterate 5 refine hR (?_ : R (_, _, _, _, _, _))
  refine hR (zcall_i 0 0 (Nat.le_of_ble_eq_true rfl) (Nat.le_of_ble_eq_true rfl) (m_hand _ _ _ ?_))
  refine hR (And.intro (fun _ => ?_) (fun hc => absurd (by decide) hc))
  refine hR (?_ : R (_, _, _, _, _, _))
  exact hR (zret_i rfl (Nat.le_refl _) (trivial) (h _))
theorem m_deed {c0 c1 c2 c3 c4 c5 c6 c7 c8 c9 c10 c11 c12 c13 : va_E} {x0 x9 x10 x11 x12 x13 x15 x16 x17 x20 x21 x22 x23 x26 x28 x31 x32 x33 x38 x41 x44 : Int32} {x14 : Int64} {g15 g16 g17 g18 g20 g21 g22 g23 g24 g25 g26 g27 g28 g29 g30 g31 g32 g33 g34 g35 g36 g37 g38 g39 g40 g41 g42 g43 g44 : Nat → Int32} {t : zW} (d : Nat) (p0 p1 p2 : Int32) (Q : zQ) (h : ∀ w, Q (some (.int (Int32.ofInt (-2)))) w) : zCl zTab (d + 5) iX12_deed [.ref 14, .int p0, .int p1, .int p2] (zMw c0 c1 c2 c3 c4 c5 c6 c7 c8 c9 c10 c11 c12 c13 x0 x9 x10 x11 x12 x13 x15 x16 x17 x20 x21 x22 x23 x26 x28 x31 x32 x33 x38 x41 x44 x14 g15 g16 g17 g18 g20 g21 g22 g23 g24 g25 g26 g27 g28 g29 g30 g31 g32 g33 g34 g35 g36 g37 g38 g39 g40 g41 g42 g43 g44 t) 0 0 Q := by
  refine zCl_i (M := kX12_deed) rfl (Nat.le_of_ble_eq_true rfl) fun R hR => ?_
  iterate 5 refine hR (?_ : R (_, _, _, _, _, _))
  refine hR (zcall_i 0 0 (Nat.le_of_ble_eq_true rfl) (Nat.le_of_ble_eq_true rfl) (m_hasYear _ _ _ ?_))
  refine hR (And.intro (fun hc => absurd (by decide) hc) (fun _ => ?_))
  refine hR (?_ : R (_, _, _, _, _, _))
  exact hR (zret_i rfl (Nat.le_refl _) (trivial) (h _))
theorem m_stop {c0 c1 c2 c3 c4 c5 c6 c7 c8 c9 c10 c11 c12 c13 : va_E} {x0 x9 x10 x11 x12 x13 x15 x16 x17 x20 x21 x22 x23 x26 x28 x31 x32 x33 x38 x41 x44 : Int32} {x14 : Int64} {g15 g16 g17 g18 g20 g21 g22 g23 g24 g25 g26 g27 g28 g29 g30 g31 g32 g33 g34 g35 g36 g37 g38 g39 g40 g41 g42 g43 g44 : Nat → Int32} {t : zW} (d : Nat) (p0 p1 : Int32) (Q : zQ) (h : ∀ w, Q (some (.int (Int32.ofInt (-1)))) w) : zCl zTab (d + 5) iX12_stop [.ref 14, .int p0, .int p1] (zMw c0 c1 c2 c3 c4 c5 c6 c7 c8 c9 c10 c11 c12 c13 x0 x9 x10 x11 x12 x13 x15 x16 x17 x20 x21 x22 x23 x26 x28 x31 x32 x33 x38 x41 x44 x14 g15 g16 g17 g18 g20 g21 g22 g23 g24 g25 g26 g27 g28 g29 g30 g31 g32 g33 g34 g35 g36 g37 g38 g39 g40 g41 g42 g43 g44 t) 0 0 Q := by
  refine zCl_i (M := kX12_stop) rfl (Nat.le_of_ble_eq_true rfl) fun R hR => ?_
  iterate 6 refine hR (?_ : R (_, _, _, _, _, _))
  refine hR (zcall_i 0 0 (Nat.le_of_ble_eq_true rfl) (Nat.le_of_ble_eq_true rfl) (m_layAll _ _ _ _ (fun _ => ?_)))
  refine hR (And.intro (fun _ => ?_) (fun hc => absurd (by decide) hc))
  refine hR (?_ : R (_, _, _, _, _, _))
  exact hR (zret_i rfl (Nat.le_refl _) (trivial) (h _))
theorem m_state {c0 c1 c2 c3 c4 c5 c6 c7 c8 c9 c10 c11 c12 c13 : va_E} {x0 x9 x10 x11 x12 x13 x15 x16 x17 x20 x21 x22 x23 x26 x28 x31 x32 x33 x38 x41 x44 : Int32} {x14 : Int64} {g15 g16 g17 g18 g20 g21 g22 g23 g24 g25 g26 g27 g28 g29 g30 g31 g32 g33 g34 g35 g36 g37 g38 g39 g40 g41 g42 g43 g44 : Nat → Int32} {t : zW} (d : Nat) (p0 p1 p2 p3 : Int32) (Q : zQ) (h : ∀ w, Q (some (.int (Int32.ofInt (-2)))) w) : zCl zTab (d + 5) iX12_state [.ref 14, .int p0, .int p1, .int p2, .int p3] (zMw c0 c1 c2 c3 c4 c5 c6 c7 c8 c9 c10 c11 c12 c13 x0 x9 x10 x11 x12 x13 x15 x16 x17 x20 x21 x22 x23 x26 x28 x31 x32 x33 x38 x41 x44 x14 g15 g16 g17 g18 g20 g21 g22 g23 g24 g25 g26 g27 g28 g29 g30 g31 g32 g33 g34 g35 g36 g37 g38 g39 g40 g41 g42 g43 g44 t) 0 0 Q := by
  refine zCl_i (M := kX12_state) rfl (Nat.le_of_ble_eq_true rfl) fun R hR => ?_
  iterate 6 refine hR (?_ : R (_, _, _, _, _, _))
  refine hR (zcall_i 0 0 (Nat.le_of_ble_eq_true rfl) (Nat.le_of_ble_eq_true rfl) (m_layAll _ _ _ _ (fun _ => ?_)))
  refine hR (And.intro (fun _ => ?_) (fun hc => absurd (by decide) hc))
  refine hR (?_ : R (_, _, _, _, _, _))
  exact hR (zret_i rfl (Nat.le_refl _) (trivial) (h _))
theorem m_making {c0 c1 c2 c3 c4 c5 c6 c7 c8 c9 c10 c11 c12 c13 : va_E} {x0 x9 x10 x11 x12 x13 x15 x16 x17 x20 x21 x22 x23 x26 x28 x31 x32 x33 x38 x41 x44 : Int32} {x14 : Int64} {g15 g16 g17 g18 g20 g21 g22 g23 g24 g25 g26 g27 g28 g29 g30 g31 g32 g33 g34 g35 g36 g37 g38 g39 g40 g41 g42 g43 g44 : Nat → Int32} {t : zW} (d : Nat) (p0 p1 p2 p3 : Int32) (Q : zQ) (h : ∀ w, Q (some (.int (Int32.ofInt (-1)))) w) : zCl zTab (d + 5) iX12_making [.ref 14, .int p0, .int p1, .int p2, .int p3] (zMw c0 c1 c2 c3 c4 c5 c6 c7 c8 c9 c10 c11 c12 c13 x0 x9 x10 x11 x12 x13 x15 x16 x17 x20 x21 x22 x23 x26 x28 x31 x32 x33 x38 x41 x44 x14 g15 g16 g17 g18 g20 g21 g22 g23 g24 g25 g26 g27 g28 g29 g30 g31 g32 g33 g34 g35 g36 g37 g38 g39 g40 g41 g42 g43 g44 t) 0 0 Q := by
  refine zCl_i (M := kX12_making) rfl (Nat.le_of_ble_eq_true rfl) fun R hR => ?_
  iterate 4 refine hR (?_ : R (_, _, _, _, _, _))
  refine hR (zcall_i 0 0 (Nat.le_of_ble_eq_true rfl) (Nat.le_of_ble_eq_true rfl) (m_isText _ _ _ _ (fun _ _ => ?_) (fun _ => ?_)))
  · skip
    refine hR (And.intro (fun hc => absurd hc (by decide)) (fun _ => ?_))
    refine hR (?_ : R (_, _, _, _, _, _))
    refine hR (zcall_i 0 0 (Nat.le_of_ble_eq_true rfl) (Nat.le_of_ble_eq_true rfl) (m_isText _ _ _ _ (fun _ _ => ?_) (fun _ => ?_)))
    · skip
      refine hR (And.intro (fun hc => absurd hc (by decide)) (fun _ => ?_))
      iterate 2 refine hR (?_ : R (_, _, _, _, _, _))
      refine hR (zcall_i 0 0 (Nat.le_of_ble_eq_true rfl) (Nat.le_of_ble_eq_true rfl) (m_handAll _ _ _ ?_))
      refine hR (And.intro (fun hc => absurd (by decide) hc) (fun _ => ?_))
      refine hR (?_ : R (_, _, _, _, _, _))
      exact hR (zret_i rfl (Nat.le_refl _) (trivial) (h _))
    · skip
      refine hR (And.intro (fun _ => ?_) (fun hc => absurd (by decide) hc))
      refine hR (?_ : R (_, _, _, _, _, _))
      exact hR (zret_i rfl (Nat.le_refl _) (trivial) (h _))
  · skip
    refine hR (And.intro (fun _ => ?_) (fun hc => absurd (by decide) hc))
    refine hR (?_ : R (_, _, _, _, _, _))
    exact hR (zret_i rfl (Nat.le_refl _) (trivial) (h _))
theorem m_ring {c0 c1 c2 c3 c4 c5 c6 c7 c8 c9 c10 c11 c12 c13 : va_E} {x0 x9 x10 x11 x12 x13 x15 x16 x17 x20 x21 x22 x23 x26 x28 x31 x32 x33 x38 x41 x44 : Int32} {x14 : Int64} {g15 g16 g17 g18 g20 g21 g22 g23 g24 g25 g26 g27 g28 g29 g30 g31 g32 g33 g34 g35 g36 g37 g38 g39 g40 g41 g42 g43 g44 : Nat → Int32} {t : zW} (d : Nat) (p0 p1 : Int32) (Q : zQ) (h : ∀ w, Q (some (.int (Int32.ofInt (-1)))) w) : zCl zTab (d + 5) iX12_ring [.ref 14, .int p0, .int p1] (zMw c0 c1 c2 c3 c4 c5 c6 c7 c8 c9 c10 c11 c12 c13 x0 x9 x10 x11 x12 x13 x15 x16 x17 x20 x21 x22 x23 x26 x28 x31 x32 x33 x38 x41 x44 x14 g15 g16 g17 g18 g20 g21 g22 g23 g24 g25 g26 g27 g28 g29 g30 g31 g32 g33 g34 g35 g36 g37 g38 g39 g40 g41 g42 g43 g44 t) 0 0 Q := by
  refine zCl_i (M := kX12_ring) rfl (Nat.le_of_ble_eq_true rfl) fun R hR => ?_
  iterate 4 refine hR (?_ : R (_, _, _, _, _, _))
  refine hR (zcall_i 0 0 (Nat.le_of_ble_eq_true rfl) (Nat.le_of_ble_eq_true rfl) (m_isText _ _ _ _ (fun _ _ => ?_) (fun _ => ?_)))
  · skip
    refine hR (And.intro (fun hc => absurd hc (by decide)) (fun _ => ?_))
    iterate 2 refine hR (?_ : R (_, _, _, _, _, _))
    refine hR (zcall_i 0 0 (Nat.le_of_ble_eq_true rfl) (Nat.le_of_ble_eq_true rfl) (m_handAll _ _ _ ?_))
    refine hR (And.intro (fun hc => absurd (by decide) hc) (fun _ => ?_))
    refine hR (?_ : R (_, _, _, _, _, _))
    exact hR (zret_i rfl (Nat.le_refl _) (trivial) (h _))
  · skip
    refine hR (And.intro (fun _ => ?_) (fun hc => absurd (by decide) hc))
    refine hR (?_ : R (_, _, _, _, _, _))
    exact hR (zret_i rfl (Nat.le_refl _) (trivial) (h _))
theorem m_reach {c0 c1 c2 c3 c4 c5 c6 c7 c8 c9 c10 c11 c12 c13 : va_E} {x0 x9 x10 x11 x12 x13 x15 x16 x17 x20 x21 x22 x23 x26 x28 x31 x32 x33 x38 x41 x44 : Int32} {x14 : Int64} {g15 g16 g17 g18 g20 g21 g22 g23 g24 g25 g26 g27 g28 g29 g30 g31 g32 g33 g34 g35 g36 g37 g38 g39 g40 g41 g42 g43 g44 : Nat → Int32} {t : zW} (d : Nat) (p0 p1 p2 : Int32) (Q : zQ) (h : ∀ w, Q (some (.int (Int32.ofInt (-1)))) w) : zCl zTab (d + 5) iX12_reach [.ref 14, .int p0, .int p1, .int p2] (zMw c0 c1 c2 c3 c4 c5 c6 c7 c8 c9 c10 c11 c12 c13 x0 x9 x10 x11 x12 x13 x15 x16 x17 x20 x21 x22 x23 x26 x28 x31 x32 x33 x38 x41 x44 x14 g15 g16 g17 g18 g20 g21 g22 g23 g24 g25 g26 g27 g28 g29 g30 g31 g32 g33 g34 g35 g36 g37 g38 g39 g40 g41 g42 g43 g44 t) 0 0 Q := by
  refine zCl_i (M := kX12_reach) rfl (Nat.le_of_ble_eq_true rfl) fun R hR => ?_
  iterate 4 refine hR (?_ : R (_, _, _, _, _, _))
  refine hR (zcall_i 0 0 (Nat.le_of_ble_eq_true rfl) (Nat.le_of_ble_eq_true rfl) (m_isText _ _ _ _ (fun _ _ => ?_) (fun _ => ?_)))
  · skip
    refine hR (And.intro (fun hc => absurd hc (by decide)) (fun _ => ?_))
    iterate 2 refine hR (?_ : R (_, _, _, _, _, _))
    refine hR (zcall_i 0 0 (Nat.le_of_ble_eq_true rfl) (Nat.le_of_ble_eq_true rfl) (m_handAll _ _ _ ?_))
    refine hR (And.intro (fun hc => absurd (by decide) hc) (fun _ => ?_))
    refine hR (?_ : R (_, _, _, _, _, _))
    exact hR (zret_i rfl (Nat.le_refl _) (trivial) (h _))
  · skip
    refine hR (And.intro (fun _ => ?_) (fun hc => absurd (by decide) hc))
    refine hR (?_ : R (_, _, _, _, _, _))
    exact hR (zret_i rfl (Nat.le_refl _) (trivial) (h _))
theorem m_sound {c0 c1 c2 c3 c4 c5 c6 c7 c8 c9 c10 c11 c12 c13 : va_E} {x0 x9 x10 x11 x12 x13 x15 x16 x17 x20 x21 x22 x23 x26 x28 x31 x32 x33 x38 x41 x44 : Int32} {x14 : Int64} {g15 g16 g17 g18 g20 g21 g22 g23 g24 g25 g26 g27 g28 g29 g30 g31 g32 g33 g34 g35 g36 g37 g38 g39 g40 g41 g42 g43 g44 : Nat → Int32} {t : zW} (d : Nat) (p0 p1 : Int32) (Q : zQ) (h : ∀ w, Q (some (.int (Int32.ofInt (-1)))) w) : zCl zTab (d + 5) iX12_sound [.ref 14, .int p0, .int p1] (zMw c0 c1 c2 c3 c4 c5 c6 c7 c8 c9 c10 c11 c12 c13 x0 x9 x10 x11 x12 x13 x15 x16 x17 x20 x21 x22 x23 x26 x28 x31 x32 x33 x38 x41 x44 x14 g15 g16 g17 g18 g20 g21 g22 g23 g24 g25 g26 g27 g28 g29 g30 g31 g32 g33 g34 g35 g36 g37 g38 g39 g40 g41 g42 g43 g44 t) 0 0 Q := by
  refine zCl_i (M := kX12_sound) rfl (Nat.le_of_ble_eq_true rfl) fun R hR => ?_
  iterate 5 refine hR (?_ : R (_, _, _, _, _, _))
  refine hR (zcall_i 0 0 (Nat.le_of_ble_eq_true rfl) (Nat.le_of_ble_eq_true rfl) (m_hand _ _ _ ?_))
  refine hR (And.intro (fun _ => ?_) (fun hc => absurd (by decide) hc))
  refine hR (?_ : R (_, _, _, _, _, _))
  exact hR (zret_i rfl (Nat.le_refl _) (trivial) (h _))
theorem m_like {c0 c1 c2 c3 c4 c5 c6 c7 c8 c9 c10 c11 c12 c13 : va_E} {x0 x9 x10 x11 x12 x13 x15 x16 x17 x20 x21 x22 x23 x26 x28 x31 x32 x33 x38 x41 x44 : Int32} {x14 : Int64} {g15 g16 g17 g18 g20 g21 g22 g23 g24 g25 g26 g27 g28 g29 g30 g31 g32 g33 g34 g35 g36 g37 g38 g39 g40 g41 g42 g43 g44 : Nat → Int32} {t : zW} (d : Nat) (p0 p1 p2 : Int32) (Q : zQ) (h : ∀ w, Q (some (.int (Int32.ofInt (-1)))) w) : zCl zTab (d + 5) iX12_like [.ref 14, .int p0, .int p1, .int p2] (zMw c0 c1 c2 c3 c4 c5 c6 c7 c8 c9 c10 c11 c12 c13 x0 x9 x10 x11 x12 x13 x15 x16 x17 x20 x21 x22 x23 x26 x28 x31 x32 x33 x38 x41 x44 x14 g15 g16 g17 g18 g20 g21 g22 g23 g24 g25 g26 g27 g28 g29 g30 g31 g32 g33 g34 g35 g36 g37 g38 g39 g40 g41 g42 g43 g44 t) 0 0 Q := by
  refine zCl_i (M := kX12_like) rfl (Nat.le_of_ble_eq_true rfl) fun R hR => ?_
  iterate 5 refine hR (?_ : R (_, _, _, _, _, _))
  refine hR (zcall_i 0 0 (Nat.le_of_ble_eq_true rfl) (Nat.le_of_ble_eq_true rfl) (m_hand _ _ _ ?_))
  refine hR (And.intro (fun _ => ?_) (fun hc => absurd (by decide) hc))
  refine hR (?_ : R (_, _, _, _, _, _))
  exact hR (zret_i rfl (Nat.le_refl _) (trivial) (h _))
theorem m_orbits {c0 c1 c2 c3 c4 c5 c6 c7 c8 c9 c10 c11 c12 c13 : va_E} {x0 x9 x10 x11 x12 x13 x15 x16 x17 x20 x21 x22 x23 x26 x28 x31 x32 x33 x38 x41 x44 : Int32} {x14 : Int64} {g15 g16 g17 g18 g20 g21 g22 g23 g24 g25 g26 g27 g28 g29 g30 g31 g32 g33 g34 g35 g36 g37 g38 g39 g40 g41 g42 g43 g44 : Nat → Int32} {t : zW} (d : Nat) (p0 p1 p2 : Int32) (Q : zQ) (h : ∀ w, Q (some (.int (Int32.ofInt (-1)))) w) : zCl zTab (d + 5) iX12_orbits [.ref 14, .int p0, .int p1, .int p2] (zMw c0 c1 c2 c3 c4 c5 c6 c7 c8 c9 c10 c11 c12 c13 x0 x9 x10 x11 x12 x13 x15 x16 x17 x20 x21 x22 x23 x26 x28 x31 x32 x33 x38 x41 x44 x14 g15 g16 g17 g18 g20 g21 g22 g23 g24 g25 g26 g27 g28 g29 g30 g31 g32 g33 g34 g35 g36 g37 g38 g39 g40 g41 g42 g43 g44 t) 0 0 Q := by
  refine zCl_i (M := kX12_orbits) rfl (Nat.le_of_ble_eq_true rfl) fun R hR => ?_
  iterate 5 refine hR (?_ : R (_, _, _, _, _, _))
  refine hR (zcall_i 0 0 (Nat.le_of_ble_eq_true rfl) (Nat.le_of_ble_eq_true rfl) (m_hand _ _ _ ?_))
  refine hR (And.intro (fun _ => ?_) (fun hc => absurd (by decide) hc))
  refine hR (?_ : R (_, _, _, _, _, _))
  exact hR (zret_i rfl (Nat.le_refl _) (trivial) (h _))
theorem m_rota {c0 c1 c2 c3 c4 c5 c6 c7 c8 c9 c10 c11 c12 c13 : va_E} {x0 x9 x10 x11 x12 x13 x15 x16 x17 x20 x21 x22 x23 x26 x28 x31 x32 x33 x38 x41 x44 : Int32} {x14 : Int64} {g15 g16 g17 g18 g20 g21 g22 g23 g24 g25 g26 g27 g28 g29 g30 g31 g32 g33 g34 g35 g36 g37 g38 g39 g40 g41 g42 g43 g44 : Nat → Int32} {t : zW} (d : Nat) (p0 p1 p2 : Int32) (Q : zQ) (h : ∀ w, Q (some (.int (Int32.ofInt (-1)))) w) : zCl zTab (d + 5) iX12_rota [.ref 14, .int p0, .int p1, .int p2] (zMw c0 c1 c2 c3 c4 c5 c6 c7 c8 c9 c10 c11 c12 c13 x0 x9 x10 x11 x12 x13 x15 x16 x17 x20 x21 x22 x23 x26 x28 x31 x32 x33 x38 x41 x44 x14 g15 g16 g17 g18 g20 g21 g22 g23 g24 g25 g26 g27 g28 g29 g30 g31 g32 g33 g34 g35 g36 g37 g38 g39 g40 g41 g42 g43 g44 t) 0 0 Q := by
  refine zCl_i (M := kX12_rota) rfl (Nat.le_of_ble_eq_true rfl) fun R hR => ?_
  iterate 6 refine hR (?_ : R (_, _, _, _, _, _))
  refine hR (zcall_i 0 0 (Nat.le_of_ble_eq_true rfl) (Nat.le_of_ble_eq_true rfl) (m_in _ _ _ _ _ _ (fun _ _ => ?_) (fun _ => ?_)))
  · skip
    refine hR (And.intro (fun hc => absurd hc (by decide)) (fun _ => ?_))
    iterate 2 refine hR (?_ : R (_, _, _, _, _, _))
    refine hR (zcall_i 0 0 (Nat.le_of_ble_eq_true rfl) (Nat.le_of_ble_eq_true rfl) (m_hand _ _ _ ?_))
    refine hR (And.intro (fun _ => ?_) (fun hc => absurd (by decide) hc))
    refine hR (?_ : R (_, _, _, _, _, _))
    exact hR (zret_i rfl (Nat.le_refl _) (trivial) (h _))
  · skip
    refine hR (And.intro (fun _ => ?_) (fun hc => absurd (by decide) hc))
    refine hR (?_ : R (_, _, _, _, _, _))
    exact hR (zret_i rfl (Nat.le_refl _) (trivial) (h _))
theorem m_mean {c0 c1 c2 c3 c4 c5 c6 c7 c8 c9 c10 c11 c12 c13 : va_E} {x0 x9 x10 x11 x12 x13 x15 x16 x17 x20 x21 x22 x23 x26 x28 x31 x32 x33 x38 x41 x44 : Int32} {x14 : Int64} {g15 g16 g17 g18 g20 g21 g22 g23 g24 g25 g26 g27 g28 g29 g30 g31 g32 g33 g34 g35 g36 g37 g38 g39 g40 g41 g42 g43 g44 : Nat → Int32} {t : zW} (d : Nat) (p0 p1 p2 : Int32) (Q : zQ) (h : ∀ w, Q (some (.long (Int64.ofNat 18446744073709551615))) w) : zCl zTab (d + 5) iX12_mean [.ref 14, .int p0, .int p1, .int p2] (zMw c0 c1 c2 c3 c4 c5 c6 c7 c8 c9 c10 c11 c12 c13 x0 x9 x10 x11 x12 x13 x15 x16 x17 x20 x21 x22 x23 x26 x28 x31 x32 x33 x38 x41 x44 x14 g15 g16 g17 g18 g20 g21 g22 g23 g24 g25 g26 g27 g28 g29 g30 g31 g32 g33 g34 g35 g36 g37 g38 g39 g40 g41 g42 g43 g44 t) 0 0 Q := by
  refine zCl_i (M := kX12_mean) rfl (Nat.le_of_ble_eq_true rfl) fun R hR => ?_
  iterate 6 refine hR (?_ : R (_, _, _, _, _, _))
  refine hR (zcall_i 0 0 (Nat.le_of_ble_eq_true rfl) (Nat.le_of_ble_eq_true rfl) (m_in _ _ _ _ _ _ (fun _ _ => ?_) (fun _ => ?_)))
  · skip
    refine hR (And.intro (fun hc => absurd hc (by decide)) (fun _ => ?_))
    iterate 2 refine hR (?_ : R (_, _, _, _, _, _))
    refine hR (zcall_i 0 0 (Nat.le_of_ble_eq_true rfl) (Nat.le_of_ble_eq_true rfl) (m_hand _ _ _ ?_))
    refine hR (And.intro (fun _ => ?_) (fun hc => absurd (by decide) hc))
    refine hR (?_ : R (_, _, _, _, _, _))
    exact hR (zret_i rfl (Nat.le_refl _) (trivial) (h _))
  · skip
    refine hR (And.intro (fun _ => ?_) (fun hc => absurd (by decide) hc))
    refine hR (?_ : R (_, _, _, _, _, _))
    exact hR (zret_i rfl (Nat.le_refl _) (trivial) (h _))
theorem m_elders {c0 c1 c2 c3 c4 c5 c6 c7 c8 c9 c10 c11 c12 c13 : va_E} {x0 x9 x10 x11 x12 x13 x15 x16 x17 x20 x21 x22 x23 x26 x28 x31 x32 x33 x38 x41 x44 : Int32} {x14 : Int64} {g15 g16 g17 g18 g20 g21 g22 g23 g24 g25 g26 g27 g28 g29 g30 g31 g32 g33 g34 g35 g36 g37 g38 g39 g40 g41 g42 g43 g44 : Nat → Int32} {t : zW} (d : Nat) (p0 p1 p2 p3 : Int32) (Q : zQ) (h : ∀ w, Q (some (.int (Int32.ofInt (-2)))) w) : zCl zTab (d + 5) iX12_elders [.ref 14, .int p0, .int p1, .int p2, .int p3] (zMw c0 c1 c2 c3 c4 c5 c6 c7 c8 c9 c10 c11 c12 c13 x0 x9 x10 x11 x12 x13 x15 x16 x17 x20 x21 x22 x23 x26 x28 x31 x32 x33 x38 x41 x44 x14 g15 g16 g17 g18 g20 g21 g22 g23 g24 g25 g26 g27 g28 g29 g30 g31 g32 g33 g34 g35 g36 g37 g38 g39 g40 g41 g42 g43 g44 t) 0 0 Q := by
  refine zCl_i (M := kX12_elders) rfl (Nat.le_of_ble_eq_true rfl) fun R hR => ?_
  iterate 6 refine hR (?_ : R (_, _, _, _, _, _))
  refine hR (zcall_i 0 0 (Nat.le_of_ble_eq_true rfl) (Nat.le_of_ble_eq_true rfl) (m_in _ _ _ _ _ _ (fun _ _ => ?_) (fun _ => ?_)))
  · skip
    refine hR (And.intro (fun hc => absurd hc (by decide)) (fun _ => ?_))
    refine hR (?_ : R (_, _, _, _, _, _))
    refine hR (zcall_i 0 0 (Nat.le_of_ble_eq_true rfl) (Nat.le_of_ble_eq_true rfl) (m_isText _ _ _ _ (fun _ _ => ?_) (fun _ => ?_)))
    · skip
      refine hR (And.intro (fun hc => absurd hc (by decide)) (fun _ => ?_))
      iterate 2 refine hR (?_ : R (_, _, _, _, _, _))
      refine hR (zcall_i 0 0 (Nat.le_of_ble_eq_true rfl) (Nat.le_of_ble_eq_true rfl) (m_handAll _ _ _ ?_))
      refine hR (And.intro (fun hc => absurd (by decide) hc) (fun _ => ?_))
      refine hR (?_ : R (_, _, _, _, _, _))
      exact hR (zret_i rfl (Nat.le_refl _) (trivial) (h _))
    · skip
      refine hR (And.intro (fun _ => ?_) (fun hc => absurd (by decide) hc))
      refine hR (?_ : R (_, _, _, _, _, _))
      exact hR (zret_i rfl (Nat.le_refl _) (trivial) (h _))
  · skip
    refine hR (And.intro (fun _ => ?_) (fun hc => absurd (by decide) hc))
    refine hR (?_ : R (_, _, _, _, _, _))
    exact hR (zret_i rfl (Nat.le_refl _) (trivial) (h _))
theorem m_play {c0 c1 c2 c3 c4 c5 c6 c7 c8 c9 c10 c11 c12 c13 : va_E} {x0 x9 x10 x11 x12 x13 x15 x16 x17 x20 x21 x22 x23 x26 x28 x31 x32 x33 x38 x41 x44 : Int32} {x14 : Int64} {g15 g16 g17 g18 g20 g21 g22 g23 g24 g25 g26 g27 g28 g29 g30 g31 g32 g33 g34 g35 g36 g37 g38 g39 g40 g41 g42 g43 g44 : Nat → Int32} {t : zW} (d : Nat) (p0 p1 p2 p3 p4 p5 : Int32) (Q : zQ) (h : ∀ w, Q (some (.int (Int32.ofInt (-1)))) w) : zCl zTab (d + 5) iX12_play_ [.ref 14, .int p0, .int p1, .int p2, .int p3, .int p4, .int p5] (zMw c0 c1 c2 c3 c4 c5 c6 c7 c8 c9 c10 c11 c12 c13 x0 x9 x10 x11 x12 x13 x15 x16 x17 x20 x21 x22 x23 x26 x28 x31 x32 x33 x38 x41 x44 x14 g15 g16 g17 g18 g20 g21 g22 g23 g24 g25 g26 g27 g28 g29 g30 g31 g32 g33 g34 g35 g36 g37 g38 g39 g40 g41 g42 g43 g44 t) 0 0 Q := by
  refine zCl_i (M := kX12_play_) rfl (Nat.le_of_ble_eq_true rfl) fun R hR => ?_
  iterate 6 refine hR (?_ : R (_, _, _, _, _, _))
  refine hR (zcall_i 0 0 (Nat.le_of_ble_eq_true rfl) (Nat.le_of_ble_eq_true rfl) (m_in _ _ _ _ _ _ (fun _ _ => ?_) (fun _ => ?_)))
  · skip
    refine hR (And.intro (fun hc => absurd hc (by decide)) (fun _ => ?_))
    iterate 3 refine hR (?_ : R (_, _, _, _, _, _))
    refine hR (zcall_i 0 0 (Nat.le_of_ble_eq_true rfl) (Nat.le_of_ble_eq_true rfl) (m_in _ _ _ _ _ _ (fun _ _ => ?_) (fun _ => ?_)))
    · skip
      refine hR (And.intro (fun hc => absurd hc (by decide)) (fun _ => ?_))
      iterate 2 refine hR (?_ : R (_, _, _, _, _, _))
      refine hR (zcall_i 0 0 (Nat.le_of_ble_eq_true rfl) (Nat.le_of_ble_eq_true rfl) (m_hand _ _ _ ?_))
      refine hR (And.intro (fun _ => ?_) (fun hc => absurd (by decide) hc))
      refine hR (?_ : R (_, _, _, _, _, _))
      exact hR (zret_i rfl (Nat.le_refl _) (trivial) (h _))
    · skip
      refine hR (And.intro (fun _ => ?_) (fun hc => absurd (by decide) hc))
      refine hR (?_ : R (_, _, _, _, _, _))
      exact hR (zret_i rfl (Nat.le_refl _) (trivial) (h _))
  · skip
    refine hR (And.intro (fun _ => ?_) (fun hc => absurd (by decide) hc))
    refine hR (?_ : R (_, _, _, _, _, _))
    exact hR (zret_i rfl (Nat.le_refl _) (trivial) (h _))
theorem m_fact {c0 c1 c2 c3 c4 c5 c6 c7 c8 c9 c10 c11 c12 c13 : va_E} {x0 x9 x10 x11 x12 x13 x15 x16 x17 x20 x21 x22 x23 x26 x28 x31 x32 x33 x38 x41 x44 : Int32} {x14 : Int64} {g15 g16 g17 g18 g20 g21 g22 g23 g24 g25 g26 g27 g28 g29 g30 g31 g32 g33 g34 g35 g36 g37 g38 g39 g40 g41 g42 g43 g44 : Nat → Int32} {t : zW} (d : Nat) (p0 p1 p2 : Int32) (Q : zQ) (h : ∀ w, Q (some (.int (Int32.ofInt (-2)))) w) : zCl zTab (d + 5) iX12_fact [.ref 14, .int p0, .int p1, .int p2] (zMw c0 c1 c2 c3 c4 c5 c6 c7 c8 c9 c10 c11 c12 c13 x0 x9 x10 x11 x12 x13 x15 x16 x17 x20 x21 x22 x23 x26 x28 x31 x32 x33 x38 x41 x44 x14 g15 g16 g17 g18 g20 g21 g22 g23 g24 g25 g26 g27 g28 g29 g30 g31 g32 g33 g34 g35 g36 g37 g38 g39 g40 g41 g42 g43 g44 t) 0 0 Q := by
  refine zCl_i (M := kX12_fact) rfl (Nat.le_of_ble_eq_true rfl) fun R hR => ?_
  iterate 5 refine hR (?_ : R (_, _, _, _, _, _))
  refine hR (zcall_i 0 0 (Nat.le_of_ble_eq_true rfl) (Nat.le_of_ble_eq_true rfl) (m_hasSight _ _ _ ?_))
  refine hR (And.intro (fun hc => absurd (by decide) hc) (fun _ => ?_))
  refine hR (?_ : R (_, _, _, _, _, _))
  exact hR (zret_i rfl (Nat.le_refl _) (trivial) (h _))
theorem m_fits {c0 c1 c2 c3 c4 c5 c6 c7 c8 c9 c10 c11 c12 c13 : va_E} {x0 x9 x10 x11 x12 x13 x15 x16 x17 x20 x21 x22 x23 x26 x28 x31 x32 x33 x38 x41 x44 : Int32} {x14 : Int64} {g15 g16 g17 g18 g20 g21 g22 g23 g24 g25 g26 g27 g28 g29 g30 g31 g32 g33 g34 g35 g36 g37 g38 g39 g40 g41 g42 g43 g44 : Nat → Int32} {t : zW} (d : Nat) (p0 p1 p2 p3 : Int32) (Q : zQ) (h : ∀ w, Q (some (.int (Int32.ofInt (-1)))) w) : zCl zTab (d + 5) iX12_fits [.ref 14, .int p0, .int p1, .int p2, .int p3] (zMw c0 c1 c2 c3 c4 c5 c6 c7 c8 c9 c10 c11 c12 c13 x0 x9 x10 x11 x12 x13 x15 x16 x17 x20 x21 x22 x23 x26 x28 x31 x32 x33 x38 x41 x44 x14 g15 g16 g17 g18 g20 g21 g22 g23 g24 g25 g26 g27 g28 g29 g30 g31 g32 g33 g34 g35 g36 g37 g38 g39 g40 g41 g42 g43 g44 t) 0 0 Q := by
  refine zCl_i (M := kX12_fits) rfl (Nat.le_of_ble_eq_true rfl) fun R hR => ?_
  iterate 6 refine hR (?_ : R (_, _, _, _, _, _))
  refine hR (zcall_i 0 0 (Nat.le_of_ble_eq_true rfl) (Nat.le_of_ble_eq_true rfl) (m_in _ _ _ _ _ _ (fun _ _ => ?_) (fun _ => ?_)))
  · skip
    refine hR (And.intro (fun hc => absurd hc (by decide)) (fun _ => ?_))
    iterate 2 refine hR (?_ : R (_, _, _, _, _, _))
    refine hR (And.intro (fun hc1 => ?_) (fun hc1 => ?_))
    · skip
      iterate 2 refine hR (?_ : R (_, _, _, _, _, _))
      refine hR (zcall_i 0 0 (Nat.le_of_ble_eq_true rfl) (Nat.le_of_ble_eq_true rfl) (m_hasSight _ _ _ ?_))
      refine hR (And.intro (fun _ => ?_) (fun hc => absurd (by decide) hc))
      refine hR (?_ : R (_, _, _, _, _, _))
      exact hR (zret_i rfl (Nat.le_refl _) (trivial) (h _))
    · skip
      refine hR (?_ : R (_, _, _, _, _, _))
      refine hR (zcall_i 0 0 (Nat.le_of_ble_eq_true rfl) (Nat.le_of_ble_eq_true rfl) (m_isText _ _ _ _ (fun _ _ => ?_) (fun _ => ?_)))
      · skip
        refine hR (And.intro (fun hc => absurd hc (by decide)) (fun _ => ?_))
        iterate 2 refine hR (?_ : R (_, _, _, _, _, _))
        refine hR (zcall_i 0 0 (Nat.le_of_ble_eq_true rfl) (Nat.le_of_ble_eq_true rfl) (m_hasSight _ _ _ ?_))
        refine hR (And.intro (fun _ => ?_) (fun hc => absurd (by decide) hc))
        refine hR (?_ : R (_, _, _, _, _, _))
        exact hR (zret_i rfl (Nat.le_refl _) (trivial) (h _))
      · skip
        refine hR (And.intro (fun _ => ?_) (fun hc => absurd (by decide) hc))
        refine hR (?_ : R (_, _, _, _, _, _))
        exact hR (zret_i rfl (Nat.le_refl _) (trivial) (h _))
  · skip
    refine hR (And.intro (fun _ => ?_) (fun hc => absurd (by decide) hc))
    refine hR (?_ : R (_, _, _, _, _, _))
    exact hR (zret_i rfl (Nat.le_refl _) (trivial) (h _))
theorem m_sure {c0 c1 c2 c3 c4 c5 c6 c7 c8 c9 c10 c11 c12 c13 : va_E} {x0 x9 x10 x11 x12 x13 x15 x16 x17 x20 x21 x22 x23 x26 x28 x31 x32 x33 x38 x41 x44 : Int32} {x14 : Int64} {g15 g16 g17 g18 g20 g21 g22 g23 g24 g25 g26 g27 g28 g29 g30 g31 g32 g33 g34 g35 g36 g37 g38 g39 g40 g41 g42 g43 g44 : Nat → Int32} {t : zW} (d : Nat) (p0 p1 p2 p3 : Int32) (Q : zQ) (h : ∀ w, Q (some (.int (Int32.ofInt (-1)))) w) : zCl zTab (d + 5) iX12_sure [.ref 14, .int p0, .int p1, .int p2, .int p3] (zMw c0 c1 c2 c3 c4 c5 c6 c7 c8 c9 c10 c11 c12 c13 x0 x9 x10 x11 x12 x13 x15 x16 x17 x20 x21 x22 x23 x26 x28 x31 x32 x33 x38 x41 x44 x14 g15 g16 g17 g18 g20 g21 g22 g23 g24 g25 g26 g27 g28 g29 g30 g31 g32 g33 g34 g35 g36 g37 g38 g39 g40 g41 g42 g43 g44 t) 0 0 Q := by
  refine zCl_i (M := kX12_sure) rfl (Nat.le_of_ble_eq_true rfl) fun R hR => ?_
  iterate 6 refine hR (?_ : R (_, _, _, _, _, _))
  refine hR (zcall_i 0 0 (Nat.le_of_ble_eq_true rfl) (Nat.le_of_ble_eq_true rfl) (m_in _ _ _ _ _ _ (fun _ _ => ?_) (fun _ => ?_)))
  · skip
    refine hR (And.intro (fun hc => absurd hc (by decide)) (fun _ => ?_))
    iterate 5 refine hR (?_ : R (_, _, _, _, _, _))
    refine hR (zcall_i 0 0 (Nat.le_of_ble_eq_true rfl) (Nat.le_of_ble_eq_true rfl) (m_in _ _ _ _ _ _ (fun _ _ => ?_) (fun _ => ?_)))
    · skip
      refine hR (And.intro (fun hc => absurd hc (by decide)) (fun _ => ?_))
      iterate 2 refine hR (?_ : R (_, _, _, _, _, _))
      refine hR (zcall_i 0 0 (Nat.le_of_ble_eq_true rfl) (Nat.le_of_ble_eq_true rfl) (m_hasSight _ _ _ ?_))
      refine hR (And.intro (fun _ => ?_) (fun hc => absurd (by decide) hc))
      refine hR (?_ : R (_, _, _, _, _, _))
      exact hR (zret_i rfl (Nat.le_refl _) (trivial) (h _))
    · skip
      refine hR (And.intro (fun _ => ?_) (fun hc => absurd (by decide) hc))
      refine hR (?_ : R (_, _, _, _, _, _))
      exact hR (zret_i rfl (Nat.le_refl _) (trivial) (h _))
  · skip
    refine hR (And.intro (fun _ => ?_) (fun hc => absurd (by decide) hc))
    refine hR (?_ : R (_, _, _, _, _, _))
    exact hR (zret_i rfl (Nat.le_refl _) (trivial) (h _))
theorem m_drawn {c0 c1 c2 c3 c4 c5 c6 c7 c8 c9 c10 c11 c12 c13 : va_E} {x0 x9 x10 x11 x12 x13 x15 x16 x17 x20 x21 x22 x23 x26 x28 x31 x32 x33 x38 x41 x44 : Int32} {x14 : Int64} {g15 g16 g17 g18 g20 g21 g22 g23 g24 g25 g26 g27 g28 g29 g30 g31 g32 g33 g34 g35 g36 g37 g38 g39 g40 g41 g42 g43 g44 : Nat → Int32} {t : zW} (d : Nat) (p0 p1 p2 p3 : Int32) (Q : zQ) (h : ∀ w, Q (some (.int (Int32.ofInt (-2)))) w) : zCl zTab (d + 5) iX12_drawn [.ref 14, .int p0, .int p1, .int p2, .int p3] (zMw c0 c1 c2 c3 c4 c5 c6 c7 c8 c9 c10 c11 c12 c13 x0 x9 x10 x11 x12 x13 x15 x16 x17 x20 x21 x22 x23 x26 x28 x31 x32 x33 x38 x41 x44 x14 g15 g16 g17 g18 g20 g21 g22 g23 g24 g25 g26 g27 g28 g29 g30 g31 g32 g33 g34 g35 g36 g37 g38 g39 g40 g41 g42 g43 g44 t) 0 0 Q := by
  refine zCl_i (M := kX12_drawn) rfl (Nat.le_of_ble_eq_true rfl) fun R hR => ?_
  iterate 6 refine hR (?_ : R (_, _, _, _, _, _))
  refine hR (zcall_i 0 0 (Nat.le_of_ble_eq_true rfl) (Nat.le_of_ble_eq_true rfl) (m_in _ _ _ _ _ _ (fun _ _ => ?_) (fun _ => ?_)))
  · skip
    refine hR (And.intro (fun hc => absurd hc (by decide)) (fun _ => ?_))
    iterate 2 refine hR (?_ : R (_, _, _, _, _, _))
    refine hR (zcall_i 0 0 (Nat.le_of_ble_eq_true rfl) (Nat.le_of_ble_eq_true rfl) (m_hand _ _ _ ?_))
    refine hR (And.intro (fun hc => absurd (by decide) hc) (fun _ => ?_))
    refine hR (?_ : R (_, _, _, _, _, _))
    exact hR (zret_i rfl (Nat.le_refl _) (trivial) (h _))
  · skip
    refine hR (And.intro (fun _ => ?_) (fun hc => absurd (by decide) hc))
    refine hR (?_ : R (_, _, _, _, _, _))
    exact hR (zret_i rfl (Nat.le_refl _) (trivial) (h _))
theorem m_kinship {c0 c1 c2 c3 c4 c5 c6 c7 c8 c9 c10 c11 c12 c13 : va_E} {x0 x9 x10 x11 x12 x13 x15 x16 x17 x20 x21 x22 x23 x26 x28 x31 x32 x33 x38 x41 x44 : Int32} {x14 : Int64} {g15 g16 g17 g18 g20 g21 g22 g23 g24 g25 g26 g27 g28 g29 g30 g31 g32 g33 g34 g35 g36 g37 g38 g39 g40 g41 g42 g43 g44 : Nat → Int32} {t : zW} (d : Nat) (p0 p1 p2 : Int32) (Q : zQ) (h : ∀ w, Q (some (.int (Int32.ofInt (-1)))) w) : zCl zTab (d + 5) iX12_kinship [.ref 14, .int p0, .int p1, .int p2] (zMw c0 c1 c2 c3 c4 c5 c6 c7 c8 c9 c10 c11 c12 c13 x0 x9 x10 x11 x12 x13 x15 x16 x17 x20 x21 x22 x23 x26 x28 x31 x32 x33 x38 x41 x44 x14 g15 g16 g17 g18 g20 g21 g22 g23 g24 g25 g26 g27 g28 g29 g30 g31 g32 g33 g34 g35 g36 g37 g38 g39 g40 g41 g42 g43 g44 t) 0 0 Q := by
  refine zCl_i (M := kX12_kinship) rfl (Nat.le_of_ble_eq_true rfl) fun R hR => ?_
  iterate 5 refine hR (?_ : R (_, _, _, _, _, _))
  refine hR (zcall_i 0 0 (Nat.le_of_ble_eq_true rfl) (Nat.le_of_ble_eq_true rfl) (m_hand _ _ _ ?_))
  refine hR (And.intro (fun _ => ?_) (fun hc => absurd (by decide) hc))
  refine hR (?_ : R (_, _, _, _, _, _))
  exact hR (zret_i rfl (Nat.le_refl _) (trivial) (h _))
theorem m_joined {c0 c1 c2 c3 c4 c5 c6 c7 c8 c9 c10 c11 c12 c13 : va_E} {x0 x9 x10 x11 x12 x13 x15 x16 x17 x20 x21 x22 x23 x26 x28 x31 x32 x33 x38 x41 x44 : Int32} {x14 : Int64} {g15 g16 g17 g18 g20 g21 g22 g23 g24 g25 g26 g27 g28 g29 g30 g31 g32 g33 g34 g35 g36 g37 g38 g39 g40 g41 g42 g43 g44 : Nat → Int32} {t : zW} (d : Nat) (p0 p1 p2 p3 : Int32) (Q : zQ) (h : ∀ w, Q (some (.int (Int32.ofInt (-1)))) w) : zCl zTab (d + 5) iX12_joined [.ref 14, .int p0, .int p1, .int p2, .int p3] (zMw c0 c1 c2 c3 c4 c5 c6 c7 c8 c9 c10 c11 c12 c13 x0 x9 x10 x11 x12 x13 x15 x16 x17 x20 x21 x22 x23 x26 x28 x31 x32 x33 x38 x41 x44 x14 g15 g16 g17 g18 g20 g21 g22 g23 g24 g25 g26 g27 g28 g29 g30 g31 g32 g33 g34 g35 g36 g37 g38 g39 g40 g41 g42 g43 g44 t) 0 0 Q := by
  refine zCl_i (M := kX12_joined) rfl (Nat.le_of_ble_eq_true rfl) fun R hR => ?_
  iterate 4 refine hR (?_ : R (_, _, _, _, _, _))
  refine hR (zcall_i 0 0 (Nat.le_of_ble_eq_true rfl) (Nat.le_of_ble_eq_true rfl) (m_isText _ _ _ _ (fun _ _ => ?_) (fun _ => ?_)))
  · skip
    refine hR (And.intro (fun hc => absurd hc (by decide)) (fun _ => ?_))
    refine hR (?_ : R (_, _, _, _, _, _))
    refine hR (zcall_i 0 0 (Nat.le_of_ble_eq_true rfl) (Nat.le_of_ble_eq_true rfl) (m_isText _ _ _ _ (fun _ _ => ?_) (fun _ => ?_)))
    · skip
      refine hR (And.intro (fun hc => absurd hc (by decide)) (fun _ => ?_))
      iterate 2 refine hR (?_ : R (_, _, _, _, _, _))
      refine hR (zcall_i 0 0 (Nat.le_of_ble_eq_true rfl) (Nat.le_of_ble_eq_true rfl) (m_handAll _ _ _ ?_))
      refine hR (And.intro (fun hc => absurd (by decide) hc) (fun _ => ?_))
      refine hR (?_ : R (_, _, _, _, _, _))
      exact hR (zret_i rfl (Nat.le_refl _) (trivial) (h _))
    · skip
      refine hR (And.intro (fun _ => ?_) (fun hc => absurd (by decide) hc))
      refine hR (?_ : R (_, _, _, _, _, _))
      exact hR (zret_i rfl (Nat.le_refl _) (trivial) (h _))
  · skip
    refine hR (And.intro (fun _ => ?_) (fun hc => absurd (by decide) hc))
    refine hR (?_ : R (_, _, _, _, _, _))
    exact hR (zret_i rfl (Nat.le_refl _) (trivial) (h _))
theorem m_nearest {c0 c1 c2 c3 c4 c5 c6 c7 c8 c9 c10 c11 c12 c13 : va_E} {x0 x9 x10 x11 x12 x13 x15 x16 x17 x20 x21 x22 x23 x26 x28 x31 x32 x33 x38 x41 x44 : Int32} {x14 : Int64} {g15 g16 g17 g18 g20 g21 g22 g23 g24 g25 g26 g27 g28 g29 g30 g31 g32 g33 g34 g35 g36 g37 g38 g39 g40 g41 g42 g43 g44 : Nat → Int32} {t : zW} (d : Nat) (p0 p1 p2 p3 : Int32) (Q : zQ) (h : ∀ w, Q (some (.int (Int32.ofInt (-1)))) w) : zCl zTab (d + 5) iX12_nearest [.ref 14, .int p0, .int p1, .int p2, .int p3] (zMw c0 c1 c2 c3 c4 c5 c6 c7 c8 c9 c10 c11 c12 c13 x0 x9 x10 x11 x12 x13 x15 x16 x17 x20 x21 x22 x23 x26 x28 x31 x32 x33 x38 x41 x44 x14 g15 g16 g17 g18 g20 g21 g22 g23 g24 g25 g26 g27 g28 g29 g30 g31 g32 g33 g34 g35 g36 g37 g38 g39 g40 g41 g42 g43 g44 t) 0 0 Q := by
  refine zCl_i (M := kX12_nearest) rfl (Nat.le_of_ble_eq_true rfl) fun R hR => ?_
  iterate 4 refine hR (?_ : R (_, _, _, _, _, _))
  refine hR (zcall_i 0 0 (Nat.le_of_ble_eq_true rfl) (Nat.le_of_ble_eq_true rfl) (m_isText _ _ _ _ (fun _ _ => ?_) (fun _ => ?_)))
  · skip
    refine hR (And.intro (fun hc => absurd hc (by decide)) (fun _ => ?_))
    refine hR (?_ : R (_, _, _, _, _, _))
    refine hR (zcall_i 0 0 (Nat.le_of_ble_eq_true rfl) (Nat.le_of_ble_eq_true rfl) (m_isText _ _ _ _ (fun _ _ => ?_) (fun _ => ?_)))
    · skip
      refine hR (And.intro (fun hc => absurd hc (by decide)) (fun _ => ?_))
      iterate 2 refine hR (?_ : R (_, _, _, _, _, _))
      refine hR (zcall_i 0 0 (Nat.le_of_ble_eq_true rfl) (Nat.le_of_ble_eq_true rfl) (m_handAll _ _ _ ?_))
      refine hR (And.intro (fun hc => absurd (by decide) hc) (fun _ => ?_))
      refine hR (?_ : R (_, _, _, _, _, _))
      exact hR (zret_i rfl (Nat.le_refl _) (trivial) (h _))
    · skip
      refine hR (And.intro (fun _ => ?_) (fun hc => absurd (by decide) hc))
      refine hR (?_ : R (_, _, _, _, _, _))
      exact hR (zret_i rfl (Nat.le_refl _) (trivial) (h _))
  · skip
    refine hR (And.intro (fun _ => ?_) (fun hc => absurd (by decide) hc))
    refine hR (?_ : R (_, _, _, _, _, _))
    exact hR (zret_i rfl (Nat.le_refl _) (trivial) (h _))
theorem m_settles {c0 c1 c2 c3 c4 c5 c6 c7 c8 c9 c10 c11 c12 c13 : va_E} {x0 x9 x10 x11 x12 x13 x15 x16 x17 x20 x21 x22 x23 x26 x28 x31 x32 x33 x38 x41 x44 : Int32} {x14 : Int64} {g15 g16 g17 g18 g20 g21 g22 g23 g24 g25 g26 g27 g28 g29 g30 g31 g32 g33 g34 g35 g36 g37 g38 g39 g40 g41 g42 g43 g44 : Nat → Int32} {t : zW} (d : Nat) (p0 p1 p2 : Int32) (Q : zQ) (h : ∀ w, Q (some (.int (Int32.ofInt (-1)))) w) : zCl zTab (d + 5) iX12_settles [.ref 14, .int p0, .int p1, .int p2] (zMw c0 c1 c2 c3 c4 c5 c6 c7 c8 c9 c10 c11 c12 c13 x0 x9 x10 x11 x12 x13 x15 x16 x17 x20 x21 x22 x23 x26 x28 x31 x32 x33 x38 x41 x44 x14 g15 g16 g17 g18 g20 g21 g22 g23 g24 g25 g26 g27 g28 g29 g30 g31 g32 g33 g34 g35 g36 g37 g38 g39 g40 g41 g42 g43 g44 t) 0 0 Q := by
  refine zCl_i (M := kX12_settles) rfl (Nat.le_of_ble_eq_true rfl) fun R hR => ?_
  iterate 4 refine hR (?_ : R (_, _, _, _, _, _))
  refine hR (zcall_i 0 0 (Nat.le_of_ble_eq_true rfl) (Nat.le_of_ble_eq_true rfl) (m_isText _ _ _ _ (fun _ _ => ?_) (fun _ => ?_)))
  · skip
    refine hR (And.intro (fun hc => absurd hc (by decide)) (fun _ => ?_))
    iterate 2 refine hR (?_ : R (_, _, _, _, _, _))
    refine hR (zcall_i 0 0 (Nat.le_of_ble_eq_true rfl) (Nat.le_of_ble_eq_true rfl) (m_handAll _ _ _ ?_))
    refine hR (And.intro (fun hc => absurd (by decide) hc) (fun _ => ?_))
    refine hR (?_ : R (_, _, _, _, _, _))
    exact hR (zret_i rfl (Nat.le_refl _) (trivial) (h _))
  · skip
    refine hR (And.intro (fun _ => ?_) (fun hc => absurd (by decide) hc))
    refine hR (?_ : R (_, _, _, _, _, _))
    exact hR (zret_i rfl (Nat.le_refl _) (trivial) (h _))
theorem m_unmade {c0 c1 c2 c3 c4 c5 c6 c7 c8 c9 c10 c11 c12 c13 : va_E} {x0 x9 x10 x11 x12 x13 x15 x16 x17 x20 x21 x22 x23 x26 x28 x31 x32 x33 x38 x41 x44 : Int32} {x14 : Int64} {g15 g16 g17 g18 g20 g21 g22 g23 g24 g25 g26 g27 g28 g29 g30 g31 g32 g33 g34 g35 g36 g37 g38 g39 g40 g41 g42 g43 g44 : Nat → Int32} {t : zW} (d : Nat) (p0 p1 : Int32) (Q : zQ) (h : ∀ w, Q (some (.int (Int32.ofInt (-2)))) w) : zCl zTab (d + 5) iX12_unmade [.ref 14, .int p0, .int p1] (zMw c0 c1 c2 c3 c4 c5 c6 c7 c8 c9 c10 c11 c12 c13 x0 x9 x10 x11 x12 x13 x15 x16 x17 x20 x21 x22 x23 x26 x28 x31 x32 x33 x38 x41 x44 x14 g15 g16 g17 g18 g20 g21 g22 g23 g24 g25 g26 g27 g28 g29 g30 g31 g32 g33 g34 g35 g36 g37 g38 g39 g40 g41 g42 g43 g44 t) 0 0 Q := by
  refine zCl_i (M := kX12_unmade) rfl (Nat.le_of_ble_eq_true rfl) fun R hR => ?_
  iterate 5 refine hR (?_ : R (_, _, _, _, _, _))
  refine hR (zcall_i 0 0 (Nat.le_of_ble_eq_true rfl) (Nat.le_of_ble_eq_true rfl) (m_handAll _ _ _ ?_))
  refine hR (And.intro (fun hc => absurd (by decide) hc) (fun _ => ?_))
  refine hR (?_ : R (_, _, _, _, _, _))
  exact hR (zret_i rfl (Nat.le_refl _) (trivial) (h _))
theorem m_silenced {c0 c1 c2 c3 c4 c5 c6 c7 c8 c9 c10 c11 c12 c13 : va_E} {x0 x9 x10 x11 x12 x13 x15 x16 x17 x20 x21 x22 x23 x26 x28 x31 x32 x33 x38 x41 x44 : Int32} {x14 : Int64} {g15 g16 g17 g18 g20 g21 g22 g23 g24 g25 g26 g27 g28 g29 g30 g31 g32 g33 g34 g35 g36 g37 g38 g39 g40 g41 g42 g43 g44 : Nat → Int32} {t : zW} (d : Nat) (p0 p1 p2 : Int32) (Q : zQ) (h : ∀ w, Q (some (.int (Int32.ofInt (-1)))) w) : zCl zTab (d + 5) iX12_silenced [.ref 14, .int p0, .int p1, .int p2] (zMw c0 c1 c2 c3 c4 c5 c6 c7 c8 c9 c10 c11 c12 c13 x0 x9 x10 x11 x12 x13 x15 x16 x17 x20 x21 x22 x23 x26 x28 x31 x32 x33 x38 x41 x44 x14 g15 g16 g17 g18 g20 g21 g22 g23 g24 g25 g26 g27 g28 g29 g30 g31 g32 g33 g34 g35 g36 g37 g38 g39 g40 g41 g42 g43 g44 t) 0 0 Q := by
  refine zCl_i (M := kX12_silenced) rfl (Nat.le_of_ble_eq_true rfl) fun R hR => ?_
  iterate 4 refine hR (?_ : R (_, _, _, _, _, _))
  refine hR (zcall_i 0 0 (Nat.le_of_ble_eq_true rfl) (Nat.le_of_ble_eq_true rfl) (m_isText _ _ _ _ (fun _ _ => ?_) (fun _ => ?_)))
  · skip
    refine hR (And.intro (fun hc => absurd hc (by decide)) (fun _ => ?_))
    refine hR (?_ : R (_, _, _, _, _, _))
    refine hR (zcall_i 0 0 (Nat.le_of_ble_eq_true rfl) (Nat.le_of_ble_eq_true rfl) (m_isText _ _ _ _ (fun _ _ => ?_) (fun _ => ?_)))
    · skip
      refine hR (And.intro (fun hc => absurd hc (by decide)) (fun _ => ?_))
      iterate 2 refine hR (?_ : R (_, _, _, _, _, _))
      refine hR (And.intro (fun hc1 => ?_) (fun hc1 => ?_))
      · skip
        refine hR (?_ : R (_, _, _, _, _, _))
        exact hR (zret_i rfl (Nat.le_refl _) (trivial) (h _))
      · skip
        iterate 2 refine hR (?_ : R (_, _, _, _, _, _))
        refine hR (zcall_i 0 0 (Nat.le_of_ble_eq_true rfl) (Nat.le_of_ble_eq_true rfl) (m_handAll _ _ _ ?_))
        refine hR (And.intro (fun hc => absurd (by decide) hc) (fun _ => ?_))
        refine hR (?_ : R (_, _, _, _, _, _))
        exact hR (zret_i rfl (Nat.le_refl _) (trivial) (h _))
    · skip
      refine hR (And.intro (fun _ => ?_) (fun hc => absurd (by decide) hc))
      refine hR (?_ : R (_, _, _, _, _, _))
      exact hR (zret_i rfl (Nat.le_refl _) (trivial) (h _))
  · skip
    refine hR (And.intro (fun _ => ?_) (fun hc => absurd (by decide) hc))
    refine hR (?_ : R (_, _, _, _, _, _))
    exact hR (zret_i rfl (Nat.le_refl _) (trivial) (h _))
theorem m_circles {c0 c1 c2 c3 c4 c5 c6 c7 c8 c9 c10 c11 c12 c13 : va_E} {x0 x9 x10 x11 x12 x13 x15 x16 x17 x20 x21 x22 x23 x26 x28 x31 x32 x33 x38 x41 x44 : Int32} {x14 : Int64} {g15 g16 g17 g18 g20 g21 g22 g23 g24 g25 g26 g27 g28 g29 g30 g31 g32 g33 g34 g35 g36 g37 g38 g39 g40 g41 g42 g43 g44 : Nat → Int32} {t : zW} (d : Nat) (p0 p1 : Int32) (Q : zQ) (h : ∀ w, Q (some (.int (Int32.ofInt (-1)))) w) : zCl zTab (d + 5) iX12_circles [.ref 14, .int p0, .int p1] (zMw c0 c1 c2 c3 c4 c5 c6 c7 c8 c9 c10 c11 c12 c13 x0 x9 x10 x11 x12 x13 x15 x16 x17 x20 x21 x22 x23 x26 x28 x31 x32 x33 x38 x41 x44 x14 g15 g16 g17 g18 g20 g21 g22 g23 g24 g25 g26 g27 g28 g29 g30 g31 g32 g33 g34 g35 g36 g37 g38 g39 g40 g41 g42 g43 g44 t) 0 0 Q := by
  refine zCl_i (M := kX12_circles) rfl (Nat.le_of_ble_eq_true rfl) fun R hR => ?_
  iterate 6 refine hR (?_ : R (_, _, _, _, _, _))
  refine hR (zcall_i 0 0 (Nat.le_of_ble_eq_true rfl) (Nat.le_of_ble_eq_true rfl) (m_in _ _ _ _ _ _ (fun _ _ => ?_) (fun _ => ?_)))
  · skip
    refine hR (And.intro (fun hc => absurd hc (by decide)) (fun _ => ?_))
    iterate 2 refine hR (?_ : R (_, _, _, _, _, _))
    refine hR (zcall_i 0 0 (Nat.le_of_ble_eq_true rfl) (Nat.le_of_ble_eq_true rfl) (m_handAll _ _ _ ?_))
    refine hR (And.intro (fun hc => absurd (by decide) hc) (fun _ => ?_))
    refine hR (?_ : R (_, _, _, _, _, _))
    exact hR (zret_i rfl (Nat.le_refl _) (trivial) (h _))
  · skip
    refine hR (And.intro (fun _ => ?_) (fun hc => absurd (by decide) hc))
    refine hR (?_ : R (_, _, _, _, _, _))
    exact hR (zret_i rfl (Nat.le_refl _) (trivial) (h _))
end
section
/-! NUMBERS: 32 bits as integers. -/
theorem zbm {x : Int} (h1 : -2147483648 ≤ x) (h2 : x < 2147483648) : x.bmod (2 ^ 32) = x := by
  rw [show ((2 : Nat) ^ 32) = 4294967296 from rfl]
  unfold Int.bmod
  dsimp only
  split <;> omega
theorem zadd {a b : Int32} (h1 : -2147483648 ≤ a.toInt + b.toInt) (h2 : a.toInt + b.toInt < 2147483648) : (a + b).toInt = a.toInt + b.toInt := by
  rw [Int32.toInt_add]; exact zbm h1 h2
theorem zsub {a b : Int32} (h1 : -2147483648 ≤ a.toInt - b.toInt) (h2 : a.toInt - b.toInt < 2147483648) : (a - b).toInt = a.toInt - b.toInt := by
  rw [Int32.toInt_sub]; exact zbm h1 h2
theorem zmul {a b : Int32} (h1 : -2147483648 ≤ a.toInt * b.toInt) (h2 : a.toInt * b.toInt < 2147483648) : (a * b).toInt = a.toInt * b.toInt := by
  rw [Int32.toInt_mul]; exact zbm h1 h2
theorem zlt_i {a b : Int32} : a < b ↔ a.toInt < b.toInt := Int32.lt_iff_toInt_lt
theorem zle_i {a b : Int32} : a ≤ b ↔ a.toInt ≤ b.toInt := Int32.le_iff_toInt_le
theorem zeq_i {a b : Int32} : a = b ↔ a.toInt = b.toInt := Int32.toInt_inj.symm
theorem zin_of {i : Int32} {n : Nat} (h0 : 0 ≤ i.toInt) (h1 : i.toInt < n) : vp_in i n := by
  intro h
  rcases h with h | h
  · rw [zlt_i] at h
    have e : (0 : Int32).toInt = 0 := rfl
    omega
  · have e : (i.toNatClampNeg : Int) = i.toInt := by
      show ((i.toInt.toNat : Nat) : Int) = i.toInt
      omega
    omega
theorem zinc {i : Int32} (h0 : 0 ≤ i.toInt) (h1 : i.toInt < 1000000) : (i + Int32.ofInt 1).toInt = i.toInt + 1 := by
  have e : (Int32.ofInt 1).toInt = 1 := by decide
  rw [zadd (by omega) (by omega), e]
theorem zidx {n t i : Int32} {N : Int} (hn : n.toInt = N) (hN0 : 0 ≤ N) (hN : N ≤ 600) (ht0 : 0 ≤ t.toInt) (ht : t.toInt ≤ 3) (hi0 : 0 ≤ i.toInt) (hi : i.toInt < N) : 0 ≤ (n * t + i).toInt ∧ (n * t + i).toInt < 4 * N := by
  have hc : t.toInt = 0 ∨ t.toInt = 1 ∨ t.toInt = 2 ∨ t.toInt = 3 := by omega
  have hm : n.toInt * t.toInt = 0 ∨ n.toInt * t.toInt = N ∨ n.toInt * t.toInt = 2 * N ∨ n.toInt * t.toInt = 3 * N := by
    rcases hc with h | h | h | h <;> rw [h, hn] <;> omega
  have h1 : (n * t).toInt = n.toInt * t.toInt := zmul (by omega) (by omega)
  have h2 : (n * t + i).toInt = n.toInt * t.toInt + i.toInt := by rw [zadd (by rw [h1]; omega) (by rw [h1]; omega), h1]
  omega
theorem z012 {k : Int32} (h0 : ¬ k < 0) (h1 : k < 3) : k = 0 ∨ k = 1 ∨ k = 2 := by
  rw [zlt_i] at h0 h1
  have e0 : (0 : Int32).toInt = 0 := rfl
  have e1 : (1 : Int32).toInt = 1 := by decide
  have e2 : (2 : Int32).toInt = 2 := by decide
  have e3 : (3 : Int32).toInt = 3 := by decide
  rw [zeq_i, zeq_i, zeq_i, e0, e1, e2]
  omega
end
section
def zMf (t : zW) : zW := .inr (11, [.int 0, .ref 15, .ref 16, .ref 17, .ref 18, .ref 19, .ref 20, .ref 21, .ref 22, .int 0, .int 0, .int 0, .int 0, .int 0, .long 0, .int 0, .int 0, .int 0, .ref 23, .ref 24, .int 0, .int (-1), .int 0, .int 0, .ref 25, .ref 26, .int 0, .ref 27, .int 0, .ref 28, .ref 29, .int 0, .int 0, .int 0, .ref 30, .ref 31, .ref 32, .ref 33, .int 0, .ref 34, .ref 35, .int 0, .ref 36, .ref 37, .int 0, .ref 38, .ref 39, .ref 40, .ref 41, .ref 42, .ref 43, .ref 44]) :: .inl (0, 2400, .inl (fun _ => 0)) :: .inl (1, 4, .inl (fun _ => 0)) :: .inl (1, 4, .inl (fun _ => 0)) :: .inl (1, 4, .inl (upd (fun _ => 0) 0 (-1))) :: .inl (1, 12, .inl (fun _ => 0)) :: .inl (1, 408, .inl (fun _ => 0)) :: .inl (1, 968, .inl (fun _ => 0)) :: .inl (1, 104, .inl (fun _ => 0)) :: .inl (1, 121, .inl (fun _ => 0)) :: .inl (1, 3, .inl (fun _ => 0)) :: .inl (1, 7, .inl (fun _ => 0)) :: .inl (1, 7, .inl (fun _ => 0)) :: .inl (1, 49, .inl (fun _ => 0)) :: .inl (1, 4, .inl (fun _ => 0)) :: .inl (1, 5, .inl (fun _ => 0)) :: .inl (1, 27305, .inl (fun _ => 0)) :: .inl (1, 5461, .inl (fun _ => 0)) :: .inl (1, 5461, .inl (fun _ => 0)) :: .inl (1, 5461, .inl (fun _ => 0)) :: .inl (1, 5461, .inl (fun _ => 0)) :: .inl (1, 54610, .inl (fun _ => 0)) :: .inl (1, 54610, .inl (fun _ => 0)) :: .inl (1, 54610, .inl (fun _ => 0)) :: .inl (1, 5461, .inl (fun _ => 0)) :: .inl (1, 5461, .inl (fun _ => 0)) :: .inl (1, 5461, .inl (fun _ => 0)) :: .inl (1, 5461, .inl (fun _ => 0)) :: .inl (1, 5461, .inl (fun _ => 0)) :: .inl (1, 27305, .inl (fun _ => 0)) :: .inl (2, 3, .inl (fun _ => 0)) :: t
def zCi (c7 : va_E) (t : zW) : zW := .inr (10, [.ref 1, .ref 7, .ref 8, .ref 9, .ref 12, .ref 13, .null, .null]) :: .inr (7, [.ref 2, .int 0, .int 0, .int (-1), .ref 3, .ref 4, .ref 5, .ref 6]) :: .inl (0, 600, .inl (fun _ => 0)) :: .inl (1, 3, .inl (fun _ => 0)) :: .inl (3, 2, .inr (.inr (.inr (.inr (fun _ => none))))) :: .inl (4, 2, .inr (.inr (.inr (.inr (fun _ => none))))) :: .inl (5, 2, .inr (.inr (.inr (.inr (fun _ => none))))) :: c7 :: .inr (6, [.null, .int 0, .int 0, .int 0, .int 0, .int 0, .int 0, .int (-1)]) :: .inr (1, [.null, .int 0, .int 0, .int 0, .int 0, .ref 10, .ref 11]) :: .inl (1, 4, .inl (fun _ => 0)) :: .inl (1, 5, .inl (fun _ => 0)) :: .inl (7, 2, .inr (.inr (.inr (.inr (fun _ => none))))) :: .inl (8, 2, .inr (.inr (.inr (.inr (fun _ => none))))) :: t
def zCx (ln : Int32) (g2 : Nat → Int32) (t : zW) : zW := .inr (10, [.ref 1, .ref 7, .ref 8, .ref 9, .ref 12, .ref 13, .null, .null]) :: .inr (7, [.ref 2, .int ln, .int 0, .int (-1), .ref 3, .ref 4, .ref 5, .ref 6]) :: .inl (0, 600, .inl g2) :: .inl (1, 3, .inl (fun _ => 0)) :: .inl (3, 2, .inr (.inr (.inr (.inr (fun _ => none))))) :: .inl (4, 2, .inr (.inr (.inr (.inr (fun _ => none))))) :: .inl (5, 2, .inr (.inr (.inr (.inr (fun _ => none))))) :: .inl (6, 3, .inr (.inr (.inr (.inr (fun _ => none))))) :: .inr (6, [.null, .int 0, .int 0, .int 0, .int 0, .int 0, .int 0, .int (-1)]) :: .inr (1, [.null, .int 0, .int 0, .int 0, .int 0, .ref 10, .ref 11]) :: .inl (1, 4, .inl (fun _ => 0)) :: .inl (1, 5, .inl (fun _ => 0)) :: .inl (7, 2, .inr (.inr (.inr (.inr (fun _ => none))))) :: .inl (8, 2, .inr (.inr (.inr (.inr (fun _ => none))))) :: t
theorem z4 {n : Int32} (h0 : 0 ≤ n.toInt) (h1 : n.toInt ≤ 596) : ((n + Int32.ofInt 1).toInt = n.toInt + 1 ∧ (n + Int32.ofInt 1 + Int32.ofInt 1).toInt = n.toInt + 2) ∧ (n + Int32.ofInt 1 + Int32.ofInt 1 + Int32.ofInt 1).toInt = n.toInt + 3 ∧ (n + Int32.ofInt 1 + Int32.ofInt 1 + Int32.ofInt 1 + Int32.ofInt 1).toInt = n.toInt + 4 := by
  have a1 := zinc (i := n) (by omega) (by omega)
  have a2 := zinc (i := n + Int32.ofInt 1) (by omega) (by omega)
  have a3 := zinc (i := n + Int32.ofInt 1 + Int32.ofInt 1) (by omega) (by omega)
  have a4 := zinc (i := n + Int32.ofInt 1 + Int32.ofInt 1 + Int32.ofInt 1) (by omega) (by omega)
  omega
theorem zge600 {n : Int32} (h1 : n.toInt < 600) (h : (Int16.ofInt 600).toInt32 ≤ n) : False := by
  rw [zle_i] at h
  have e : (Int16.ofInt 600).toInt32.toInt = 600 := by decide
  omega
theorem r_putBytes (d : Nat) (n v : Int32) (g2 : Nat → Int32) (t : zW) (Q : zQ) (h0 : 0 ≤ n.toInt) (h1 : n.toInt ≤ 596) (h : ∀ g, Q none (zCx (n + Int32.ofInt 1 + Int32.ofInt 1 + Int32.ofInt 1 + Int32.ofInt 1) g t)) : zCl zTab (d + 1) iX8_putBytes [.ref 1, .int v] (zCx n g2 t) 0 0 Q := by
  obtain ⟨⟨a1, a2⟩, a3, a4⟩ := z4 h0 h1
  refine zCl_i (M := kX8_putBytes) rfl (Nat.le_of_ble_eq_true rfl) fun R hR => ?_
  iterate 2 refine hR (?_ : R (_, _, _, _, _, _))
  refine hR (?_ : R (_, _, _, _, _, _))
  refine hR (And.intro (fun hc => absurd hc (by decide)) (fun _ => ?_))
  iterate 3 refine hR (?_ : R (_, _, _, _, _, _))
  refine hR (And.intro (fun hc => (zge600 (by omega) hc).elim) (fun _ => ?_))
  iterate 8 refine hR (?_ : R (_, _, _, _, _, _))
  refine hR (And.intro (zin_of (by omega) (by omega)) ?_)
  iterate 8 refine hR (?_ : R (_, _, _, _, _, _))
  refine hR (?_ : R (_, _, _, _, _, _))
  refine hR (And.intro (fun hc => absurd hc (by decide)) (fun _ => ?_))
  iterate 3 refine hR (?_ : R (_, _, _, _, _, _))
  refine hR (And.intro (fun hc => (zge600 (by omega) hc).elim) (fun _ => ?_))
  iterate 8 refine hR (?_ : R (_, _, _, _, _, _))
  refine hR (And.intro (zin_of (by omega) (by omega)) ?_)
  iterate 8 refine hR (?_ : R (_, _, _, _, _, _))
  refine hR (?_ : R (_, _, _, _, _, _))
  refine hR (And.intro (fun hc => absurd hc (by decide)) (fun _ => ?_))
  iterate 3 refine hR (?_ : R (_, _, _, _, _, _))
  refine hR (And.intro (fun hc => (zge600 (by omega) hc).elim) (fun _ => ?_))
  iterate 8 refine hR (?_ : R (_, _, _, _, _, _))
  refine hR (And.intro (zin_of (by omega) (by omega)) ?_)
  iterate 8 refine hR (?_ : R (_, _, _, _, _, _))
  refine hR (?_ : R (_, _, _, _, _, _))
  refine hR (And.intro (fun hc => absurd hc (by decide)) (fun _ => ?_))
  iterate 3 refine hR (?_ : R (_, _, _, _, _, _))
  refine hR (And.intro (fun hc => (zge600 (by omega) hc).elim) (fun _ => ?_))
  iterate 8 refine hR (?_ : R (_, _, _, _, _, _))
  refine hR (And.intro (zin_of (by omega) (by omega)) ?_)
  iterate 8 refine hR (?_ : R (_, _, _, _, _, _))
  refine hR (?_ : R (_, _, _, _, _, _))
  refine hR (And.intro (fun _ => ?_) (fun hc => absurd (by decide) hc))
  exact hR (zret_i rfl (Nat.le_refl _) rfl (h _))
theorem r_feed (d : Nat) (a b c e f : Int32) (Q : zQ) (h : ∀ c0 c1 c2 c3 c4 c5 c6 c7 c8 c9 c10 c11 c12 c13 t, Q (some (.int 20)) (c0 :: c1 :: c2 :: c3 :: c4 :: c5 :: c6 :: c7 :: c8 :: c9 :: c10 :: c11 :: c12 :: c13 :: zMf t)) : zCl zTab (d + 2) iX11_feed [.ref 0, .int a, .int b, .int c, .int e, .int f] (zCw (zMf [])) 0 0 Q := by
  refine zCl_i (M := kX11_feed) rfl (Nat.le_of_ble_eq_true rfl) fun R hR => ?_
  iterate 4 refine hR (?_ : R (_, _, _, _, _, _))
  refine hR (And.intro (fun _ => ?_) (fun hc => absurd (by decide) hc))
  iterate 3 refine hR (?_ : R (_, _, _, _, _, _))
  refine hR (zcall_i 0 0 (Nat.le_of_ble_eq_true rfl) (Nat.le_of_ble_eq_true rfl) (r_putBytes _ (0) _ (fun _ => 0) _ _ (by decide) (by decide) (fun g0 => ?_)))
  iterate 3 refine hR (?_ : R (_, _, _, _, _, _))
  refine hR (zcall_i 0 0 (Nat.le_of_ble_eq_true rfl) (Nat.le_of_ble_eq_true rfl) (r_putBytes _ (0 + Int32.ofInt 1 + Int32.ofInt 1 + Int32.ofInt 1 + Int32.ofInt 1) _ g0 _ _ (by decide) (by decide) (fun g1 => ?_)))
  iterate 3 refine hR (?_ : R (_, _, _, _, _, _))
  refine hR (zcall_i 0 0 (Nat.le_of_ble_eq_true rfl) (Nat.le_of_ble_eq_true rfl) (r_putBytes _ (0 + Int32.ofInt 1 + Int32.ofInt 1 + Int32.ofInt 1 + Int32.ofInt 1 + Int32.ofInt 1 + Int32.ofInt 1 + Int32.ofInt 1 + Int32.ofInt 1) _ g1 _ _ (by decide) (by decide) (fun g2 => ?_)))
  iterate 3 refine hR (?_ : R (_, _, _, _, _, _))
  refine hR (zcall_i 0 0 (Nat.le_of_ble_eq_true rfl) (Nat.le_of_ble_eq_true rfl) (r_putBytes _ (0 + Int32.ofInt 1 + Int32.ofInt 1 + Int32.ofInt 1 + Int32.ofInt 1 + Int32.ofInt 1 + Int32.ofInt 1 + Int32.ofInt 1 + Int32.ofInt 1 + Int32.ofInt 1 + Int32.ofInt 1 + Int32.ofInt 1 + Int32.ofInt 1) _ g2 _ _ (by decide) (by decide) (fun g3 => ?_)))
  iterate 3 refine hR (?_ : R (_, _, _, _, _, _))
  refine hR (zcall_i 0 0 (Nat.le_of_ble_eq_true rfl) (Nat.le_of_ble_eq_true rfl) (r_putBytes _ (0 + Int32.ofInt 1 + Int32.ofInt 1 + Int32.ofInt 1 + Int32.ofInt 1 + Int32.ofInt 1 + Int32.ofInt 1 + Int32.ofInt 1 + Int32.ofInt 1 + Int32.ofInt 1 + Int32.ofInt 1 + Int32.ofInt 1 + Int32.ofInt 1 + Int32.ofInt 1 + Int32.ofInt 1 + Int32.ofInt 1 + Int32.ofInt 1) _ g3 _ _ (by decide) (by decide) (fun g4 => ?_)))
  iterate 3 refine hR (?_ : R (_, _, _, _, _, _))
  refine hR (zret_i rfl (Nat.le_refl _) trivial ?_)
  have e : (0 + Int32.ofInt 1 + Int32.ofInt 1 + Int32.ofInt 1 + Int32.ofInt 1 + Int32.ofInt 1 + Int32.ofInt 1 + Int32.ofInt 1 + Int32.ofInt 1 + Int32.ofInt 1 + Int32.ofInt 1 + Int32.ofInt 1 + Int32.ofInt 1 + Int32.ofInt 1 + Int32.ofInt 1 + Int32.ofInt 1 + Int32.ofInt 1 + Int32.ofInt 1 + Int32.ofInt 1 + Int32.ofInt 1 + Int32.ofInt 1 : Int32) = 20 := by decide
  have h2 : ∀ w, Q (some (.int 20)) w → Q (some (.int (0 + Int32.ofInt 1 + Int32.ofInt 1 + Int32.ofInt 1 + Int32.ofInt 1 + Int32.ofInt 1 + Int32.ofInt 1 + Int32.ofInt 1 + Int32.ofInt 1 + Int32.ofInt 1 + Int32.ofInt 1 + Int32.ofInt 1 + Int32.ofInt 1 + Int32.ofInt 1 + Int32.ofInt 1 + Int32.ofInt 1 + Int32.ofInt 1 + Int32.ofInt 1 + Int32.ofInt 1 + Int32.ofInt 1 + Int32.ofInt 1))) w := fun w hw => by rw [e]; exact hw
  exact h2 _ (h _ _ _ _ _ _ _ _ _ _ _ _ _ _ _)
def vEnd (n : Int32) : Int32 := if n < 0 ∨ 0 < n then Int32.ofInt (-1) else n
theorem r_end (d : Nat) (n : Int32) (Q : zQ) (h : ∀ c0 c1 c2 c3 c4 c5 c6 c7 c8 c9 c10 c11 c12 c13 t, Q (some (.int (vEnd n))) (c0 :: c1 :: c2 :: c3 :: c4 :: c5 :: c6 :: c7 :: c8 :: c9 :: c10 :: c11 :: c12 :: c13 :: zMf t)) : zCl zTab (d + 1) iX11_end [.ref 0, .int n] (zCw (zMf [])) 0 0 Q := by
  refine zCl_i (M := kX11_end) rfl (Nat.le_of_ble_eq_true rfl) fun R hR => ?_
  refine hR (?_ : R (_, _, _, _, _, _))
  refine hR (And.intro (fun hc1 => ?_) (fun hc1 => ?_))
  · refine hR (?_ : R (_, _, _, _, _, _))
    refine hR (zret_i rfl (Nat.le_refl _) trivial ?_)
    have e : vEnd n = Int32.ofInt (-1) := if_pos (Or.inl hc1)
    rw [e] at h
    exact h _ _ _ _ _ _ _ _ _ _ _ _ _ _ _
  iterate 4 refine hR (?_ : R (_, _, _, _, _, _))
  refine hR (And.intro (fun hc2 => ?_) (fun hc2 => ?_))
  · iterate 5 refine hR (?_ : R (_, _, _, _, _, _))
    refine hR (zret_i rfl (Nat.le_refl _) trivial ?_)
    have e : vEnd n = n := if_neg (fun q => q.elim hc1 (fun z => absurd hc2 (Int32.not_le.mpr z)))
    rw [e] at h
    exact h _ _ _ _ _ _ _ _ _ _ _ _ _ _ _
  · refine hR (?_ : R (_, _, _, _, _, _))
    refine hR (zret_i rfl (Nat.le_refl _) trivial ?_)
    have e : vEnd n = Int32.ofInt (-1) := if_pos (Or.inr (Int32.not_le.mp hc2))
    rw [e] at h
    exact h _ _ _ _ _ _ _ _ _ _ _ _ _ _ _
def vFault (n : Int32) : Int32 := if n = 0 then 0 else -1
theorem zlk0 {x : Int32} : Op.lookupswitch.offset [(0, 27), (1, 35)] 43 x.toInt = if x = 0 then 27 else if x = 1 then 35 else 43 := by
  have e1 : (1 : Int32).toInt = 1 := by decide
  have e0 : (0 : Int32).toInt = 0 := rfl
  rw [Op.lookupswitch.offset_cons, Op.lookupswitch.offset_cons]
  by_cases h0 : x = 0
  · subst h0; rfl
  · rw [if_neg h0, if_neg (fun q => h0 (Int32.toInt_inj.mp (by rw [e0]; exact q.symm)))]
    by_cases h1 : x = 1
    · subst h1; rfl
    · rw [if_neg h1, if_neg (fun q => h1 (Int32.toInt_inj.mp (by rw [e1]; exact q.symm)))]
      rfl
theorem r_fault (d : Nat) (n : Int32) (Q : zQ) (h : ∀ c0 c1 c2 c3 c4 c5 c6 c7 c8 c9 c10 c11 c12 c13 t, Q (some (.int (vFault n))) (c0 :: c1 :: c2 :: c3 :: c4 :: c5 :: c6 :: c7 :: c8 :: c9 :: c10 :: c11 :: c12 :: c13 :: zMf t)) : zCl zTab (d + 1) iX11_fault [.ref 0, .int n] (zCw (zMf [])) 0 0 Q := by
  refine zCl_i (M := kX11_fault) rfl (Nat.le_of_ble_eq_true rfl) fun R hR => ?_
  refine hR (?_ : R (_, _, _, _, _, _))
  refine hR (?_ : R (((1 : Nat) + Op.lookupswitch.offset [(0, 27), (1, 35)] 43 n.toInt : Int).toNat, _, _, _, _, _))
  rw [zlk0]
  by_cases h0 : n = 0
  · subst h0
    rw [if_pos rfl]
    refine (?_ : R (28, _, _, _, _, _))
    iterate 3 refine hR (?_ : R (_, _, _, _, _, _))
    exact hR (zret_i rfl (Nat.le_refl _) trivial (h _ _ _ _ _ _ _ _ _ _ _ _ _ _ _))
  rw [if_neg h0]
  by_cases h1 : n = 1
  · subst h1
    rw [if_pos rfl]
    refine (?_ : R (36, _, _, _, _, _))
    iterate 3 refine hR (?_ : R (_, _, _, _, _, _))
    exact hR (zret_i rfl (Nat.le_refl _) trivial (h _ _ _ _ _ _ _ _ _ _ _ _ _ _ _))
  rw [if_neg h1]
  refine (?_ : R (44, _, _, _, _, _))
  refine hR (?_ : R (_, _, _, _, _, _))
  refine hR (zret_i rfl (Nat.le_refl _) trivial ?_)
  have e : vFault n = Int32.ofInt (-1) := (if_neg h0).trans (by decide)
  rw [e] at h
  exact h _ _ _ _ _ _ _ _ _ _ _ _ _ _ _
def vCount (n : Int32) : Int32 := if n < 0 ∨ 3 ≤ n then -2 else 0
theorem r_count (d : Nat) (n : Int32) (Q : zQ) (h : ∀ c0 c1 c2 c3 c4 c5 c6 c7 c8 c9 c10 c11 c12 c13 t, Q (some (.int (vCount n))) (c0 :: c1 :: c2 :: c3 :: c4 :: c5 :: c6 :: c7 :: c8 :: c9 :: c10 :: c11 :: c12 :: c13 :: zMf t)) : zCl zTab (d + 1) iX11_count [.ref 0, .int n] (zCw (zMf [])) 0 0 Q := by
  refine zCl_i (M := kX11_count) rfl (Nat.le_of_ble_eq_true rfl) fun R hR => ?_
  refine hR (?_ : R (_, _, _, _, _, _))
  refine hR (And.intro (fun hc1 => ?_) (fun hc1 => ?_))
  · iterate 2 refine hR (?_ : R (_, _, _, _, _, _))
    refine hR (zret_i rfl (Nat.le_refl _) trivial ?_)
    have e : vCount n = (Int8.ofInt (-2)).toInt32 := (if_pos (Or.inl hc1)).trans (by decide)
    rw [e] at h
    exact h _ _ _ _ _ _ _ _ _ _ _ _ _ _ _
  iterate 2 refine hR (?_ : R (_, _, _, _, _, _))
  refine hR (And.intro (fun hc2 => ?_) (fun hc2 => ?_))
  · iterate 4 refine hR (?_ : R (_, _, _, _, _, _))
    refine hR (And.intro ?_ ?_)
    · rcases z012 hc1 hc2 with rfl | rfl | rfl <;> (unfold vp_in; decide)
    · refine hR (zret_i rfl (Nat.le_refl _) trivial ?_)
      have e : vCount n = 0 := if_neg (fun q => q.elim hc1 (fun z => absurd hc2 (Int32.not_lt.mpr z)))
      rw [e] at h
      exact h _ _ _ _ _ _ _ _ _ _ _ _ _ _ _
  · iterate 2 refine hR (?_ : R (_, _, _, _, _, _))
    refine hR (zret_i rfl (Nat.le_refl _) trivial ?_)
    have e : vCount n = (Int8.ofInt (-2)).toInt32 := (if_pos (Or.inr (Int32.not_lt.mp hc2))).trans (by decide)
    rw [e] at h
    exact h _ _ _ _ _ _ _ _ _ _ _ _ _ _ _
theorem r_again (d : Nat) (n : Int32) (Q : zQ) (h : ∀ c0 c1 c2 c3 c4 c5 c6 c7 c8 c9 c10 c11 c12 c13 t, Q (some (.int (Int32.ofInt 0))) (c0 :: c1 :: c2 :: c3 :: c4 :: c5 :: c6 :: c7 :: c8 :: c9 :: c10 :: c11 :: c12 :: c13 :: zMf t)) : zCl zTab (d + 1) iX11_again [.ref 0, .int n] (zCw (zMf [])) 0 0 Q := by
  refine zCl_i (M := kX11_again) rfl (Nat.le_of_ble_eq_true rfl) fun R hR => ?_
  refine hR (?_ : R (_, _, _, _, _, _))
  refine hR (And.intro (fun hc1 => ?_) (fun hc1 => ?_))
  · refine hR (?_ : R (_, _, _, _, _, _))
    exact hR (zret_i rfl (Nat.le_refl _) (Or.inl rfl) (h _ _ _ _ _ _ _ _ _ _ _ _ _ _ _))
  iterate 2 refine hR (?_ : R (_, _, _, _, _, _))
  refine hR (And.intro (fun hc2 => ?_) (fun hc2 => ?_))
  · refine hR (?_ : R (_, _, _, _, _, _))
    exact hR (zret_i rfl (Nat.le_refl _) (Or.inl rfl) (h _ _ _ _ _ _ _ _ _ _ _ _ _ _ _))
  iterate 3 refine hR (?_ : R (_, _, _, _, _, _))
  refine hR (And.intro ?_ ?_)
  · rcases z012 hc1 (Int32.not_le.mp hc2) with rfl | rfl | rfl <;> (unfold vp_in; decide)
  iterate 2 refine hR (?_ : R (_, _, _, _, _, _))
  exact hR (zret_i rfl (Nat.le_refl _) (Or.inl rfl) (h _ _ _ _ _ _ _ _ _ _ _ _ _ _ _))
theorem r_told45 (d : Nat) (Q : zQ) (h : Q none (zCw (zMf [.inr (7, [.ref 46, .int 0, .int 0, .int (-1), .ref 47, .ref 48, .ref 49, .ref 50]), .inl (0, 600, .inl (fun _ => 0)), .inl (1, 3, .inl (fun _ => 0)), .inl (3, 2, .inr (.inr (.inr (.inr (fun _ => none))))), .inl (4, 2, .inr (.inr (.inr (.inr (fun _ => none))))), .inl (5, 2, .inr (.inr (.inr (.inr (fun _ => none)))))]))) : zCl zTab (d + 2) iX8_init [.ref 45] (zCw (zMf [.inr (7, [.null, .int 0, .int 0, .int 0, .null, .null, .null, .null])])) 5 609 Q := by
  refine zCl_i (M := kX8_init) rfl (Nat.le_of_ble_eq_true rfl) fun R hR => ?_
  iterate 4 refine hR (?_ : R (_, _, _, _, _, _))
  refine hR (?_ : R (_, _, .ref 46 :: _, _, _, _))
  iterate 12 refine hR (?_ : R (_, _, _, _, _, _))
  refine hR (?_ : R (_, _, .ref 47 :: _, _, _, _))
  iterate 3 refine hR (?_ : R (_, _, _, _, _, _))
  refine hR (?_ : R (_, _, .ref 48 :: _, _, _, _))
  iterate 3 refine hR (?_ : R (_, _, _, _, _, _))
  refine hR (?_ : R (_, _, .ref 49 :: _, _, _, _))
  iterate 3 refine hR (?_ : R (_, _, _, _, _, _))
  refine hR (?_ : R (_, _, .ref 50 :: _, _, _, _))
  refine hR (?_ : R (_, _, _, _, _, _))
  exact hR (zret_i rfl (Nat.le_refl _) (rfl) (h))
theorem r_becomes45 (d : Nat) (c7 : va_E) (Q : zQ) (h : ∀ c0 c1 c2 c3 c4 c5 c6 c7 c8 c9 c10 c11 c12 c13 t, Q (none) (c0 :: c1 :: c2 :: c3 :: c4 :: c5 :: c6 :: c7 :: c8 :: c9 :: c10 :: c11 :: c12 :: c13 :: zMf t)) : zCl zTab (d + 2) iX8_becomes [.ref 45, .ref 1] (zCi c7 (zMf [.inr (7, [.ref 46, .int 0, .int 0, .int (-1), .ref 47, .ref 48, .ref 49, .ref 50]), .inl (0, 600, .inl (fun _ => 0)), .inl (1, 3, .inl (fun _ => 0)), .inl (3, 2, .inr (.inr (.inr (.inr (fun _ => none))))), .inl (4, 2, .inr (.inr (.inr (.inr (fun _ => none))))), .inl (5, 2, .inr (.inr (.inr (.inr (fun _ => none)))))])) 0 0 Q := by
  refine zCl_i (M := kX8_becomes) rfl (Nat.le_of_ble_eq_true rfl) fun R hR => ?_
  iterate 7 refine hR (?_ : R (_, _, _, _, _, _))
  refine hR (And.intro ⟨⟨by decide, by decide, by decide⟩, ⟨by decide, by decide⟩, fun _ _ => rfl⟩ ?_)
  iterate 19 refine hR (?_ : R (_, _, _, _, _, _))
  refine hR (And.intro ⟨⟨by decide, by decide, by decide⟩, ⟨by decide, by decide⟩, fun _ _ => rfl⟩ ?_)
  iterate 4 refine hR (?_ : R (_, _, _, _, _, _))
  refine hR (And.intro (fun hc => absurd hc (by decide)) (fun _ => ?_))
  iterate 6 refine hR (?_ : R (_, _, _, _, _, _))
  refine hR (And.intro (by unfold vp_in; decide) ?_)
  refine hR (And.intro (by unfold vp_in; decide) ?_)
  iterate 6 refine hR (?_ : R (_, _, _, _, _, _))
  refine hR (And.intro (by unfold vp_in; decide) ?_)
  refine hR (And.intro (by unfold vp_in; decide) ?_)
  iterate 6 refine hR (?_ : R (_, _, _, _, _, _))
  refine hR (And.intro (by unfold vp_in; decide) ?_)
  refine hR (And.intro (by unfold vp_in; decide) ?_)
  iterate 4 refine hR (?_ : R (_, _, _, _, _, _))
  refine hR (And.intro (fun hc => absurd hc (by decide)) (fun _ => ?_))
  iterate 6 refine hR (?_ : R (_, _, _, _, _, _))
  refine hR (And.intro (by unfold vp_in; decide) ?_)
  refine hR (And.intro (by unfold vp_in; decide) ?_)
  iterate 6 refine hR (?_ : R (_, _, _, _, _, _))
  refine hR (And.intro (by unfold vp_in; decide) ?_)
  refine hR (And.intro (by unfold vp_in; decide) ?_)
  iterate 6 refine hR (?_ : R (_, _, _, _, _, _))
  refine hR (And.intro (by unfold vp_in; decide) ?_)
  refine hR (And.intro (by unfold vp_in; decide) ?_)
  iterate 4 refine hR (?_ : R (_, _, _, _, _, _))
  refine hR (And.intro (fun _ => ?_) (fun hc => absurd (by decide) hc))
  exact hR (zret_i rfl (Nat.le_refl _) (rfl) (h _ _ _ _ _ _ _ _ _ _ _ _ _ _ _))
theorem r_image0 (d : Nat) (Q : zQ) (h : ∀ c0 c1 c2 c3 c4 c5 c6 c7 c8 c9 c10 c11 c12 c13 t, Q (some (.int (Int32.ofInt 1))) (c0 :: c1 :: c2 :: c3 :: c4 :: c5 :: c6 :: c7 :: c8 :: c9 :: c10 :: c11 :: c12 :: c13 :: zMf t)) : zCl zTab (d + 3) iX11_image [.ref 0, .int 0] (zCw (zMf [])) 6 617 Q := by
  refine zCl_i (M := kX11_image) rfl (Nat.le_of_ble_eq_true rfl) fun R hR => ?_
  refine hR (?_ : R (_, _, _, _, _, _))
  refine hR (And.intro (fun hc => absurd hc (by decide)) (fun _ => ?_))
  iterate 2 refine hR (?_ : R (_, _, _, _, _, _))
  refine hR (And.intro (fun _ => ?_) (fun hc => absurd (by decide) hc))
  iterate 3 refine hR (?_ : R (_, _, _, _, _, _))
  refine hR (And.intro (by unfold vp_in; decide) ?_)
  iterate 4 refine hR (?_ : R (_, _, _, _, _, _))
  refine hR (?_ : R (_, _, .ref 45 :: _, _, _, _))
  refine hR (?_ : R (_, _, _, _, _, _))
  refine hR (zcall_i 5 609 (Nat.le_of_ble_eq_true rfl) (Nat.le_of_ble_eq_true rfl) (r_told45 _ _ ?_))
  refine hR (And.intro (by unfold vp_in; decide) ?_)
  iterate 3 refine hR (?_ : R (_, _, _, _, _, _))
  refine hR (And.intro (by unfold vp_in; decide) ?_)
  iterate 2 refine hR (?_ : R (_, _, _, _, _, _))
  refine hR (zcall_i 0 0 (Nat.le_of_ble_eq_true rfl) (Nat.le_of_ble_eq_true rfl) (r_becomes45 _ _ _ (fun _ _ _ _ _ _ _ _ _ _ _ _ _ _ _ => ?_)))
  refine hR (?_ : R (_, _, _, _, _, _))
  exact hR (zret_i rfl (Nat.le_refl _) (Or.inr rfl) (h _ _ _ _ _ _ _ _ _ _ _ _ _ _ _))
theorem r_image1 (d : Nat) (Q : zQ) (h : ∀ c0 c1 c2 c3 c4 c5 c6 c7 c8 c9 c10 c11 c12 c13 t, Q (some (.int (Int32.ofInt 1))) (c0 :: c1 :: c2 :: c3 :: c4 :: c5 :: c6 :: c7 :: c8 :: c9 :: c10 :: c11 :: c12 :: c13 :: zMf t)) : zCl zTab (d + 3) iX11_image [.ref 0, .int 1] (zCw (zMf [])) 6 617 Q := by
  refine zCl_i (M := kX11_image) rfl (Nat.le_of_ble_eq_true rfl) fun R hR => ?_
  refine hR (?_ : R (_, _, _, _, _, _))
  refine hR (And.intro (fun hc => absurd hc (by decide)) (fun _ => ?_))
  iterate 2 refine hR (?_ : R (_, _, _, _, _, _))
  refine hR (And.intro (fun _ => ?_) (fun hc => absurd (by decide) hc))
  iterate 3 refine hR (?_ : R (_, _, _, _, _, _))
  refine hR (And.intro (by unfold vp_in; decide) ?_)
  iterate 4 refine hR (?_ : R (_, _, _, _, _, _))
  refine hR (?_ : R (_, _, .ref 45 :: _, _, _, _))
  refine hR (?_ : R (_, _, _, _, _, _))
  refine hR (zcall_i 5 609 (Nat.le_of_ble_eq_true rfl) (Nat.le_of_ble_eq_true rfl) (r_told45 _ _ ?_))
  refine hR (And.intro (by unfold vp_in; decide) ?_)
  iterate 3 refine hR (?_ : R (_, _, _, _, _, _))
  refine hR (And.intro (by unfold vp_in; decide) ?_)
  iterate 2 refine hR (?_ : R (_, _, _, _, _, _))
  refine hR (zcall_i 0 0 (Nat.le_of_ble_eq_true rfl) (Nat.le_of_ble_eq_true rfl) (r_becomes45 _ _ _ (fun _ _ _ _ _ _ _ _ _ _ _ _ _ _ _ => ?_)))
  refine hR (?_ : R (_, _, _, _, _, _))
  exact hR (zret_i rfl (Nat.le_refl _) (Or.inr rfl) (h _ _ _ _ _ _ _ _ _ _ _ _ _ _ _))
theorem r_image2 (d : Nat) (Q : zQ) (h : ∀ c0 c1 c2 c3 c4 c5 c6 c7 c8 c9 c10 c11 c12 c13 t, Q (some (.int (Int32.ofInt 1))) (c0 :: c1 :: c2 :: c3 :: c4 :: c5 :: c6 :: c7 :: c8 :: c9 :: c10 :: c11 :: c12 :: c13 :: zMf t)) : zCl zTab (d + 3) iX11_image [.ref 0, .int 2] (zCw (zMf [])) 6 617 Q := by
  refine zCl_i (M := kX11_image) rfl (Nat.le_of_ble_eq_true rfl) fun R hR => ?_
  refine hR (?_ : R (_, _, _, _, _, _))
  refine hR (And.intro (fun hc => absurd hc (by decide)) (fun _ => ?_))
  iterate 2 refine hR (?_ : R (_, _, _, _, _, _))
  refine hR (And.intro (fun _ => ?_) (fun hc => absurd (by decide) hc))
  iterate 3 refine hR (?_ : R (_, _, _, _, _, _))
  refine hR (And.intro (by unfold vp_in; decide) ?_)
  iterate 4 refine hR (?_ : R (_, _, _, _, _, _))
  refine hR (?_ : R (_, _, .ref 45 :: _, _, _, _))
  refine hR (?_ : R (_, _, _, _, _, _))
  refine hR (zcall_i 5 609 (Nat.le_of_ble_eq_true rfl) (Nat.le_of_ble_eq_true rfl) (r_told45 _ _ ?_))
  refine hR (And.intro (by unfold vp_in; decide) ?_)
  iterate 3 refine hR (?_ : R (_, _, _, _, _, _))
  refine hR (And.intro (by unfold vp_in; decide) ?_)
  iterate 2 refine hR (?_ : R (_, _, _, _, _, _))
  refine hR (zcall_i 0 0 (Nat.le_of_ble_eq_true rfl) (Nat.le_of_ble_eq_true rfl) (r_becomes45 _ _ _ (fun _ _ _ _ _ _ _ _ _ _ _ _ _ _ _ => ?_)))
  refine hR (?_ : R (_, _, _, _, _, _))
  exact hR (zret_i rfl (Nat.le_refl _) (Or.inr rfl) (h _ _ _ _ _ _ _ _ _ _ _ _ _ _ _))
theorem r_imageN (d : Nat) (n : Int32) (hn : n < 0 ∨ 3 ≤ n) (Q : zQ) (h : ∀ c0 c1 c2 c3 c4 c5 c6 c7 c8 c9 c10 c11 c12 c13 t, Q (some (.int (Int32.ofInt 0))) (c0 :: c1 :: c2 :: c3 :: c4 :: c5 :: c6 :: c7 :: c8 :: c9 :: c10 :: c11 :: c12 :: c13 :: zMf t)) : zCl zTab (d + 3) iX11_image [.ref 0, .int n] (zCw (zMf [])) 0 0 Q := by
  refine zCl_i (M := kX11_image) rfl (Nat.le_of_ble_eq_true rfl) fun R hR => ?_
  refine hR (?_ : R (_, _, _, _, _, _))
  refine hR (And.intro (fun hc1 => ?_) (fun hc1 => ?_))
  · refine hR (?_ : R (_, _, _, _, _, _))
    exact hR (zret_i rfl (Nat.le_refl _) (Or.inl rfl) (h _ _ _ _ _ _ _ _ _ _ _ _ _ _ _))
  iterate 2 refine hR (?_ : R (_, _, _, _, _, _))
  refine hR (And.intro (fun hc2 => ?_) (fun hc2 => ?_))
  · exact absurd hc2 (Int32.not_lt.mpr (hn.resolve_left hc1))
  · refine hR (?_ : R (_, _, _, _, _, _))
    exact hR (zret_i rfl (Nat.le_refl _) (Or.inl rfl) (h _ _ _ _ _ _ _ _ _ _ _ _ _ _ _))
end
section
def zMg (c0 c1 c2 c3 c4 c5 c6 c7 c8 c9 c10 c11 c12 c13 : va_E) (x0 x9 x10 x11 x12 x13 x15 x16 x17 x20 x21 x22 x23 x26 x28 x31 x32 x33 x38 x41 x44 : Int32) (x14 : Int64) (g15 g16 g17 g18 g19 g20 g21 g22 g23 g24 g25 g26 g27 g28 g29 g30 g31 g32 g33 g34 g35 g36 g37 g38 g39 g40 g41 g42 g43 g44 : Nat → Int32) (t : zW) : zW := c0 :: c1 :: c2 :: c3 :: c4 :: c5 :: c6 :: c7 :: c8 :: c9 :: c10 :: c11 :: c12 :: c13 :: .inr (11, [.int x0, .ref 15, .ref 16, .ref 17, .ref 18, .ref 19, .ref 20, .ref 21, .ref 22, .int x9, .int x10, .int x11, .int x12, .int x13, .long x14, .int x15, .int x16, .int x17, .ref 23, .ref 24, .int x20, .int x21, .int x22, .int x23, .ref 25, .ref 26, .int x26, .ref 27, .int x28, .ref 28, .ref 29, .int x31, .int x32, .int x33, .ref 30, .ref 31, .ref 32, .ref 33, .int x38, .ref 34, .ref 35, .int x41, .ref 36, .ref 37, .int x44, .ref 38, .ref 39, .ref 40, .ref 41, .ref 42, .ref 43, .ref 44]) :: .inl (0, 2400, .inl g15) :: .inl (1, 4, .inl g16) :: .inl (1, 4, .inl g17) :: .inl (1, 4, .inl g18) :: .inl (1, 12, .inl g19) :: .inl (1, 408, .inl g20) :: .inl (1, 968, .inl g21) :: .inl (1, 104, .inl g22) :: .inl (1, 121, .inl g23) :: .inl (1, 3, .inl g24) :: .inl (1, 7, .inl g25) :: .inl (1, 7, .inl g26) :: .inl (1, 49, .inl g27) :: .inl (1, 4, .inl g28) :: .inl (1, 5, .inl g29) :: .inl (1, 27305, .inl g30) :: .inl (1, 5461, .inl g31) :: .inl (1, 5461, .inl g32) :: .inl (1, 5461, .inl g33) :: .inl (1, 5461, .inl g34) :: .inl (1, 54610, .inl g35) :: .inl (1, 54610, .inl g36) :: .inl (1, 54610, .inl g37) :: .inl (1, 5461, .inl g38) :: .inl (1, 5461, .inl g39) :: .inl (1, 5461, .inl g40) :: .inl (1, 5461, .inl g41) :: .inl (1, 5461, .inl g42) :: .inl (1, 27305, .inl g43) :: .inl (2, 3, .inl g44) :: t
theorem m_copyRow16 {c0 c1 c2 c3 c4 c5 c6 c7 c8 c9 c10 c11 c12 c13 : va_E} {x0 x9 x10 x11 x12 x13 x15 x16 x17 x20 x21 x22 x23 x26 x28 x31 x32 x33 x38 x41 x44 : Int32} {x14 : Int64} {g15 g16 g17 g18 g19 g20 g21 g22 g23 g24 g25 g26 g27 g28 g29 g30 g31 g32 g33 g34 g35 g36 g37 g38 g39 g40 g41 g42 g43 g44 : Nat → Int32} {t : zW} (d : Nat) (n fr to : Int32) (Q : zQ) (hn : n.toInt = 1) (hf0 : 0 ≤ fr.toInt) (hf : fr.toInt ≤ 3) (ht0 : 0 ≤ to.toInt) (ht : to.toInt ≤ 3) (h : ∀ f, Q none (zMg c0 c1 c2 c3 c4 c5 c6 c7 c8 c9 c10 c11 c12 c13 x0 x9 x10 x11 x12 x13 x15 x16 x17 x20 x21 x22 x23 x26 x28 x31 x32 x33 x38 x41 x44 x14 g15 f g17 g18 g19 g20 g21 g22 g23 g24 g25 g26 g27 g28 g29 g30 g31 g32 g33 g34 g35 g36 g37 g38 g39 g40 g41 g42 g43 g44 t)) : zCl zTab (d + 1) iX12_copyRow [.ref 16, .int n, .int fr, .int to] (zMg c0 c1 c2 c3 c4 c5 c6 c7 c8 c9 c10 c11 c12 c13 x0 x9 x10 x11 x12 x13 x15 x16 x17 x20 x21 x22 x23 x26 x28 x31 x32 x33 x38 x41 x44 x14 g15 g16 g17 g18 g19 g20 g21 g22 g23 g24 g25 g26 g27 g28 g29 g30 g31 g32 g33 g34 g35 g36 g37 g38 g39 g40 g41 g42 g43 g44 t) 0 0 Q := by
  refine zCl_i (M := kX12_copyRow) rfl (Nat.le_of_ble_eq_true rfl) fun R hR => ?_
  have loop : ∀ (m : Nat) (i : Int32) (f : Nat → Int32), 0 ≤ i.toInt → i.toInt + m = 1 → R (3, [some (.ref 16), some (.int n), some (.int fr), some (.int to), some (.int i)], [], (zMg c0 c1 c2 c3 c4 c5 c6 c7 c8 c9 c10 c11 c12 c13 x0 x9 x10 x11 x12 x13 x15 x16 x17 x20 x21 x22 x23 x26 x28 x31 x32 x33 x38 x41 x44 x14 g15 f g17 g18 g19 g20 g21 g22 g23 g24 g25 g26 g27 g28 g29 g30 g31 g32 g33 g34 g35 g36 g37 g38 g39 g40 g41 g42 g43 g44 t), 0, 0) := by
    intro m
    induction m with
    | zero =>
      intro i f h0 h1
      iterate 2 refine hR (?_ : R (_, _, _, _, _, _))
      refine hR (And.intro (fun _ => ?_) (fun hc => absurd (zle_i.mpr (by omega)) hc))
      exact hR (zret_i rfl (Nat.le_refl _) rfl (h _))
    | succ m ih =>
      intro i f h0 h1
      have b1 := zidx (n := n) (t := to) (i := i) hn (by omega) (by omega) ht0 ht h0 (by omega)
      have b2 := zidx (n := n) (t := fr) (i := i) hn (by omega) (by omega) hf0 hf h0 (by omega)
      have b3 := zinc (i := i) h0 (by omega)
      iterate 2 refine hR (?_ : R (_, _, _, _, _, _))
      refine hR (And.intro (fun hc => absurd (zle_i.mp hc) (by omega)) (fun _ => ?_))
      iterate 12 refine hR (?_ : R (_, _, _, _, _, _))
      refine hR (And.intro (zin_of b2.1 (by omega)) ?_)
      refine hR (And.intro (zin_of b1.1 (by omega)) ?_)
      iterate 2 refine hR (?_ : R (_, _, _, _, _, _))
      exact ih (i + Int32.ofInt 1) _ (by omega) (by omega)
  iterate 2 refine hR (?_ : R (_, _, _, _, _, _))
  exact loop 1 (Int32.ofInt 0) g16 (by decide) (by decide)
theorem m_copyRow17 {c0 c1 c2 c3 c4 c5 c6 c7 c8 c9 c10 c11 c12 c13 : va_E} {x0 x9 x10 x11 x12 x13 x15 x16 x17 x20 x21 x22 x23 x26 x28 x31 x32 x33 x38 x41 x44 : Int32} {x14 : Int64} {g15 g16 g17 g18 g19 g20 g21 g22 g23 g24 g25 g26 g27 g28 g29 g30 g31 g32 g33 g34 g35 g36 g37 g38 g39 g40 g41 g42 g43 g44 : Nat → Int32} {t : zW} (d : Nat) (n fr to : Int32) (Q : zQ) (hn : n.toInt = 1) (hf0 : 0 ≤ fr.toInt) (hf : fr.toInt ≤ 3) (ht0 : 0 ≤ to.toInt) (ht : to.toInt ≤ 3) (h : ∀ f, Q none (zMg c0 c1 c2 c3 c4 c5 c6 c7 c8 c9 c10 c11 c12 c13 x0 x9 x10 x11 x12 x13 x15 x16 x17 x20 x21 x22 x23 x26 x28 x31 x32 x33 x38 x41 x44 x14 g15 g16 f g18 g19 g20 g21 g22 g23 g24 g25 g26 g27 g28 g29 g30 g31 g32 g33 g34 g35 g36 g37 g38 g39 g40 g41 g42 g43 g44 t)) : zCl zTab (d + 1) iX12_copyRow [.ref 17, .int n, .int fr, .int to] (zMg c0 c1 c2 c3 c4 c5 c6 c7 c8 c9 c10 c11 c12 c13 x0 x9 x10 x11 x12 x13 x15 x16 x17 x20 x21 x22 x23 x26 x28 x31 x32 x33 x38 x41 x44 x14 g15 g16 g17 g18 g19 g20 g21 g22 g23 g24 g25 g26 g27 g28 g29 g30 g31 g32 g33 g34 g35 g36 g37 g38 g39 g40 g41 g42 g43 g44 t) 0 0 Q := by
  refine zCl_i (M := kX12_copyRow) rfl (Nat.le_of_ble_eq_true rfl) fun R hR => ?_
  have loop : ∀ (m : Nat) (i : Int32) (f : Nat → Int32), 0 ≤ i.toInt → i.toInt + m = 1 → R (3, [some (.ref 17), some (.int n), some (.int fr), some (.int to), some (.int i)], [], (zMg c0 c1 c2 c3 c4 c5 c6 c7 c8 c9 c10 c11 c12 c13 x0 x9 x10 x11 x12 x13 x15 x16 x17 x20 x21 x22 x23 x26 x28 x31 x32 x33 x38 x41 x44 x14 g15 g16 f g18 g19 g20 g21 g22 g23 g24 g25 g26 g27 g28 g29 g30 g31 g32 g33 g34 g35 g36 g37 g38 g39 g40 g41 g42 g43 g44 t), 0, 0) := by
    intro m
    induction m with
    | zero =>
      intro i f h0 h1
      iterate 2 refine hR (?_ : R (_, _, _, _, _, _))
      refine hR (And.intro (fun _ => ?_) (fun hc => absurd (zle_i.mpr (by omega)) hc))
      exact hR (zret_i rfl (Nat.le_refl _) rfl (h _))
    | succ m ih =>
      intro i f h0 h1
      have b1 := zidx (n := n) (t := to) (i := i) hn (by omega) (by omega) ht0 ht h0 (by omega)
      have b2 := zidx (n := n) (t := fr) (i := i) hn (by omega) (by omega) hf0 hf h0 (by omega)
      have b3 := zinc (i := i) h0 (by omega)
      iterate 2 refine hR (?_ : R (_, _, _, _, _, _))
      refine hR (And.intro (fun hc => absurd (zle_i.mp hc) (by omega)) (fun _ => ?_))
      iterate 12 refine hR (?_ : R (_, _, _, _, _, _))
      refine hR (And.intro (zin_of b2.1 (by omega)) ?_)
      refine hR (And.intro (zin_of b1.1 (by omega)) ?_)
      iterate 2 refine hR (?_ : R (_, _, _, _, _, _))
      exact ih (i + Int32.ofInt 1) _ (by omega) (by omega)
  iterate 2 refine hR (?_ : R (_, _, _, _, _, _))
  exact loop 1 (Int32.ofInt 0) g17 (by decide) (by decide)
theorem m_copyRow18 {c0 c1 c2 c3 c4 c5 c6 c7 c8 c9 c10 c11 c12 c13 : va_E} {x0 x9 x10 x11 x12 x13 x15 x16 x17 x20 x21 x22 x23 x26 x28 x31 x32 x33 x38 x41 x44 : Int32} {x14 : Int64} {g15 g16 g17 g18 g19 g20 g21 g22 g23 g24 g25 g26 g27 g28 g29 g30 g31 g32 g33 g34 g35 g36 g37 g38 g39 g40 g41 g42 g43 g44 : Nat → Int32} {t : zW} (d : Nat) (n fr to : Int32) (Q : zQ) (hn : n.toInt = 1) (hf0 : 0 ≤ fr.toInt) (hf : fr.toInt ≤ 3) (ht0 : 0 ≤ to.toInt) (ht : to.toInt ≤ 3) (h : ∀ f, Q none (zMg c0 c1 c2 c3 c4 c5 c6 c7 c8 c9 c10 c11 c12 c13 x0 x9 x10 x11 x12 x13 x15 x16 x17 x20 x21 x22 x23 x26 x28 x31 x32 x33 x38 x41 x44 x14 g15 g16 g17 f g19 g20 g21 g22 g23 g24 g25 g26 g27 g28 g29 g30 g31 g32 g33 g34 g35 g36 g37 g38 g39 g40 g41 g42 g43 g44 t)) : zCl zTab (d + 1) iX12_copyRow [.ref 18, .int n, .int fr, .int to] (zMg c0 c1 c2 c3 c4 c5 c6 c7 c8 c9 c10 c11 c12 c13 x0 x9 x10 x11 x12 x13 x15 x16 x17 x20 x21 x22 x23 x26 x28 x31 x32 x33 x38 x41 x44 x14 g15 g16 g17 g18 g19 g20 g21 g22 g23 g24 g25 g26 g27 g28 g29 g30 g31 g32 g33 g34 g35 g36 g37 g38 g39 g40 g41 g42 g43 g44 t) 0 0 Q := by
  refine zCl_i (M := kX12_copyRow) rfl (Nat.le_of_ble_eq_true rfl) fun R hR => ?_
  have loop : ∀ (m : Nat) (i : Int32) (f : Nat → Int32), 0 ≤ i.toInt → i.toInt + m = 1 → R (3, [some (.ref 18), some (.int n), some (.int fr), some (.int to), some (.int i)], [], (zMg c0 c1 c2 c3 c4 c5 c6 c7 c8 c9 c10 c11 c12 c13 x0 x9 x10 x11 x12 x13 x15 x16 x17 x20 x21 x22 x23 x26 x28 x31 x32 x33 x38 x41 x44 x14 g15 g16 g17 f g19 g20 g21 g22 g23 g24 g25 g26 g27 g28 g29 g30 g31 g32 g33 g34 g35 g36 g37 g38 g39 g40 g41 g42 g43 g44 t), 0, 0) := by
    intro m
    induction m with
    | zero =>
      intro i f h0 h1
      iterate 2 refine hR (?_ : R (_, _, _, _, _, _))
      refine hR (And.intro (fun _ => ?_) (fun hc => absurd (zle_i.mpr (by omega)) hc))
      exact hR (zret_i rfl (Nat.le_refl _) rfl (h _))
    | succ m ih =>
      intro i f h0 h1
      have b1 := zidx (n := n) (t := to) (i := i) hn (by omega) (by omega) ht0 ht h0 (by omega)
      have b2 := zidx (n := n) (t := fr) (i := i) hn (by omega) (by omega) hf0 hf h0 (by omega)
      have b3 := zinc (i := i) h0 (by omega)
      iterate 2 refine hR (?_ : R (_, _, _, _, _, _))
      refine hR (And.intro (fun hc => absurd (zle_i.mp hc) (by omega)) (fun _ => ?_))
      iterate 12 refine hR (?_ : R (_, _, _, _, _, _))
      refine hR (And.intro (zin_of b2.1 (by omega)) ?_)
      refine hR (And.intro (zin_of b1.1 (by omega)) ?_)
      iterate 2 refine hR (?_ : R (_, _, _, _, _, _))
      exact ih (i + Int32.ofInt 1) _ (by omega) (by omega)
  iterate 2 refine hR (?_ : R (_, _, _, _, _, _))
  exact loop 1 (Int32.ofInt 0) g18 (by decide) (by decide)
theorem m_copyRow19 {c0 c1 c2 c3 c4 c5 c6 c7 c8 c9 c10 c11 c12 c13 : va_E} {x0 x9 x10 x11 x12 x13 x15 x16 x17 x20 x21 x22 x23 x26 x28 x31 x32 x33 x38 x41 x44 : Int32} {x14 : Int64} {g15 g16 g17 g18 g19 g20 g21 g22 g23 g24 g25 g26 g27 g28 g29 g30 g31 g32 g33 g34 g35 g36 g37 g38 g39 g40 g41 g42 g43 g44 : Nat → Int32} {t : zW} (d : Nat) (n fr to : Int32) (Q : zQ) (hn : n.toInt = 3) (hf0 : 0 ≤ fr.toInt) (hf : fr.toInt ≤ 3) (ht0 : 0 ≤ to.toInt) (ht : to.toInt ≤ 3) (h : ∀ f, Q none (zMg c0 c1 c2 c3 c4 c5 c6 c7 c8 c9 c10 c11 c12 c13 x0 x9 x10 x11 x12 x13 x15 x16 x17 x20 x21 x22 x23 x26 x28 x31 x32 x33 x38 x41 x44 x14 g15 g16 g17 g18 f g20 g21 g22 g23 g24 g25 g26 g27 g28 g29 g30 g31 g32 g33 g34 g35 g36 g37 g38 g39 g40 g41 g42 g43 g44 t)) : zCl zTab (d + 1) iX12_copyRow [.ref 19, .int n, .int fr, .int to] (zMg c0 c1 c2 c3 c4 c5 c6 c7 c8 c9 c10 c11 c12 c13 x0 x9 x10 x11 x12 x13 x15 x16 x17 x20 x21 x22 x23 x26 x28 x31 x32 x33 x38 x41 x44 x14 g15 g16 g17 g18 g19 g20 g21 g22 g23 g24 g25 g26 g27 g28 g29 g30 g31 g32 g33 g34 g35 g36 g37 g38 g39 g40 g41 g42 g43 g44 t) 0 0 Q := by
  refine zCl_i (M := kX12_copyRow) rfl (Nat.le_of_ble_eq_true rfl) fun R hR => ?_
  have loop : ∀ (m : Nat) (i : Int32) (f : Nat → Int32), 0 ≤ i.toInt → i.toInt + m = 3 → R (3, [some (.ref 19), some (.int n), some (.int fr), some (.int to), some (.int i)], [], (zMg c0 c1 c2 c3 c4 c5 c6 c7 c8 c9 c10 c11 c12 c13 x0 x9 x10 x11 x12 x13 x15 x16 x17 x20 x21 x22 x23 x26 x28 x31 x32 x33 x38 x41 x44 x14 g15 g16 g17 g18 f g20 g21 g22 g23 g24 g25 g26 g27 g28 g29 g30 g31 g32 g33 g34 g35 g36 g37 g38 g39 g40 g41 g42 g43 g44 t), 0, 0) := by
    intro m
    induction m with
    | zero =>
      intro i f h0 h1
      iterate 2 refine hR (?_ : R (_, _, _, _, _, _))
      refine hR (And.intro (fun _ => ?_) (fun hc => absurd (zle_i.mpr (by omega)) hc))
      exact hR (zret_i rfl (Nat.le_refl _) rfl (h _))
    | succ m ih =>
      intro i f h0 h1
      have b1 := zidx (n := n) (t := to) (i := i) hn (by omega) (by omega) ht0 ht h0 (by omega)
      have b2 := zidx (n := n) (t := fr) (i := i) hn (by omega) (by omega) hf0 hf h0 (by omega)
      have b3 := zinc (i := i) h0 (by omega)
      iterate 2 refine hR (?_ : R (_, _, _, _, _, _))
      refine hR (And.intro (fun hc => absurd (zle_i.mp hc) (by omega)) (fun _ => ?_))
      iterate 12 refine hR (?_ : R (_, _, _, _, _, _))
      refine hR (And.intro (zin_of b2.1 (by omega)) ?_)
      refine hR (And.intro (zin_of b1.1 (by omega)) ?_)
      iterate 2 refine hR (?_ : R (_, _, _, _, _, _))
      exact ih (i + Int32.ofInt 1) _ (by omega) (by omega)
  iterate 2 refine hR (?_ : R (_, _, _, _, _, _))
  exact loop 3 (Int32.ofInt 0) g19 (by decide) (by decide)
theorem m_copyRow20 {c0 c1 c2 c3 c4 c5 c6 c7 c8 c9 c10 c11 c12 c13 : va_E} {x0 x9 x10 x11 x12 x13 x15 x16 x17 x20 x21 x22 x23 x26 x28 x31 x32 x33 x38 x41 x44 : Int32} {x14 : Int64} {g15 g16 g17 g18 g19 g20 g21 g22 g23 g24 g25 g26 g27 g28 g29 g30 g31 g32 g33 g34 g35 g36 g37 g38 g39 g40 g41 g42 g43 g44 : Nat → Int32} {t : zW} (d : Nat) (n fr to : Int32) (Q : zQ) (hn : n.toInt = 102) (hf0 : 0 ≤ fr.toInt) (hf : fr.toInt ≤ 3) (ht0 : 0 ≤ to.toInt) (ht : to.toInt ≤ 3) (h : ∀ f, Q none (zMg c0 c1 c2 c3 c4 c5 c6 c7 c8 c9 c10 c11 c12 c13 x0 x9 x10 x11 x12 x13 x15 x16 x17 x20 x21 x22 x23 x26 x28 x31 x32 x33 x38 x41 x44 x14 g15 g16 g17 g18 g19 f g21 g22 g23 g24 g25 g26 g27 g28 g29 g30 g31 g32 g33 g34 g35 g36 g37 g38 g39 g40 g41 g42 g43 g44 t)) : zCl zTab (d + 1) iX12_copyRow [.ref 20, .int n, .int fr, .int to] (zMg c0 c1 c2 c3 c4 c5 c6 c7 c8 c9 c10 c11 c12 c13 x0 x9 x10 x11 x12 x13 x15 x16 x17 x20 x21 x22 x23 x26 x28 x31 x32 x33 x38 x41 x44 x14 g15 g16 g17 g18 g19 g20 g21 g22 g23 g24 g25 g26 g27 g28 g29 g30 g31 g32 g33 g34 g35 g36 g37 g38 g39 g40 g41 g42 g43 g44 t) 0 0 Q := by
  refine zCl_i (M := kX12_copyRow) rfl (Nat.le_of_ble_eq_true rfl) fun R hR => ?_
  have loop : ∀ (m : Nat) (i : Int32) (f : Nat → Int32), 0 ≤ i.toInt → i.toInt + m = 102 → R (3, [some (.ref 20), some (.int n), some (.int fr), some (.int to), some (.int i)], [], (zMg c0 c1 c2 c3 c4 c5 c6 c7 c8 c9 c10 c11 c12 c13 x0 x9 x10 x11 x12 x13 x15 x16 x17 x20 x21 x22 x23 x26 x28 x31 x32 x33 x38 x41 x44 x14 g15 g16 g17 g18 g19 f g21 g22 g23 g24 g25 g26 g27 g28 g29 g30 g31 g32 g33 g34 g35 g36 g37 g38 g39 g40 g41 g42 g43 g44 t), 0, 0) := by
    intro m
    induction m with
    | zero =>
      intro i f h0 h1
      iterate 2 refine hR (?_ : R (_, _, _, _, _, _))
      refine hR (And.intro (fun _ => ?_) (fun hc => absurd (zle_i.mpr (by omega)) hc))
      exact hR (zret_i rfl (Nat.le_refl _) rfl (h _))
    | succ m ih =>
      intro i f h0 h1
      have b1 := zidx (n := n) (t := to) (i := i) hn (by omega) (by omega) ht0 ht h0 (by omega)
      have b2 := zidx (n := n) (t := fr) (i := i) hn (by omega) (by omega) hf0 hf h0 (by omega)
      have b3 := zinc (i := i) h0 (by omega)
      iterate 2 refine hR (?_ : R (_, _, _, _, _, _))
      refine hR (And.intro (fun hc => absurd (zle_i.mp hc) (by omega)) (fun _ => ?_))
      iterate 12 refine hR (?_ : R (_, _, _, _, _, _))
      refine hR (And.intro (zin_of b2.1 (by omega)) ?_)
      refine hR (And.intro (zin_of b1.1 (by omega)) ?_)
      iterate 2 refine hR (?_ : R (_, _, _, _, _, _))
      exact ih (i + Int32.ofInt 1) _ (by omega) (by omega)
  iterate 2 refine hR (?_ : R (_, _, _, _, _, _))
  exact loop 102 (Int32.ofInt 0) g20 (by decide) (by decide)
theorem m_copyRow21 {c0 c1 c2 c3 c4 c5 c6 c7 c8 c9 c10 c11 c12 c13 : va_E} {x0 x9 x10 x11 x12 x13 x15 x16 x17 x20 x21 x22 x23 x26 x28 x31 x32 x33 x38 x41 x44 : Int32} {x14 : Int64} {g15 g16 g17 g18 g19 g20 g21 g22 g23 g24 g25 g26 g27 g28 g29 g30 g31 g32 g33 g34 g35 g36 g37 g38 g39 g40 g41 g42 g43 g44 : Nat → Int32} {t : zW} (d : Nat) (n fr to : Int32) (Q : zQ) (hn : n.toInt = 242) (hf0 : 0 ≤ fr.toInt) (hf : fr.toInt ≤ 3) (ht0 : 0 ≤ to.toInt) (ht : to.toInt ≤ 3) (h : ∀ f, Q none (zMg c0 c1 c2 c3 c4 c5 c6 c7 c8 c9 c10 c11 c12 c13 x0 x9 x10 x11 x12 x13 x15 x16 x17 x20 x21 x22 x23 x26 x28 x31 x32 x33 x38 x41 x44 x14 g15 g16 g17 g18 g19 g20 f g22 g23 g24 g25 g26 g27 g28 g29 g30 g31 g32 g33 g34 g35 g36 g37 g38 g39 g40 g41 g42 g43 g44 t)) : zCl zTab (d + 1) iX12_copyRow [.ref 21, .int n, .int fr, .int to] (zMg c0 c1 c2 c3 c4 c5 c6 c7 c8 c9 c10 c11 c12 c13 x0 x9 x10 x11 x12 x13 x15 x16 x17 x20 x21 x22 x23 x26 x28 x31 x32 x33 x38 x41 x44 x14 g15 g16 g17 g18 g19 g20 g21 g22 g23 g24 g25 g26 g27 g28 g29 g30 g31 g32 g33 g34 g35 g36 g37 g38 g39 g40 g41 g42 g43 g44 t) 0 0 Q := by
  refine zCl_i (M := kX12_copyRow) rfl (Nat.le_of_ble_eq_true rfl) fun R hR => ?_
  have loop : ∀ (m : Nat) (i : Int32) (f : Nat → Int32), 0 ≤ i.toInt → i.toInt + m = 242 → R (3, [some (.ref 21), some (.int n), some (.int fr), some (.int to), some (.int i)], [], (zMg c0 c1 c2 c3 c4 c5 c6 c7 c8 c9 c10 c11 c12 c13 x0 x9 x10 x11 x12 x13 x15 x16 x17 x20 x21 x22 x23 x26 x28 x31 x32 x33 x38 x41 x44 x14 g15 g16 g17 g18 g19 g20 f g22 g23 g24 g25 g26 g27 g28 g29 g30 g31 g32 g33 g34 g35 g36 g37 g38 g39 g40 g41 g42 g43 g44 t), 0, 0) := by
    intro m
    induction m with
    | zero =>
      intro i f h0 h1
      iterate 2 refine hR (?_ : R (_, _, _, _, _, _))
      refine hR (And.intro (fun _ => ?_) (fun hc => absurd (zle_i.mpr (by omega)) hc))
      exact hR (zret_i rfl (Nat.le_refl _) rfl (h _))
    | succ m ih =>
      intro i f h0 h1
      have b1 := zidx (n := n) (t := to) (i := i) hn (by omega) (by omega) ht0 ht h0 (by omega)
      have b2 := zidx (n := n) (t := fr) (i := i) hn (by omega) (by omega) hf0 hf h0 (by omega)
      have b3 := zinc (i := i) h0 (by omega)
      iterate 2 refine hR (?_ : R (_, _, _, _, _, _))
      refine hR (And.intro (fun hc => absurd (zle_i.mp hc) (by omega)) (fun _ => ?_))
      iterate 12 refine hR (?_ : R (_, _, _, _, _, _))
      refine hR (And.intro (zin_of b2.1 (by omega)) ?_)
      refine hR (And.intro (zin_of b1.1 (by omega)) ?_)
      iterate 2 refine hR (?_ : R (_, _, _, _, _, _))
      exact ih (i + Int32.ofInt 1) _ (by omega) (by omega)
  iterate 2 refine hR (?_ : R (_, _, _, _, _, _))
  exact loop 242 (Int32.ofInt 0) g21 (by decide) (by decide)
theorem m_copyRow22 {c0 c1 c2 c3 c4 c5 c6 c7 c8 c9 c10 c11 c12 c13 : va_E} {x0 x9 x10 x11 x12 x13 x15 x16 x17 x20 x21 x22 x23 x26 x28 x31 x32 x33 x38 x41 x44 : Int32} {x14 : Int64} {g15 g16 g17 g18 g19 g20 g21 g22 g23 g24 g25 g26 g27 g28 g29 g30 g31 g32 g33 g34 g35 g36 g37 g38 g39 g40 g41 g42 g43 g44 : Nat → Int32} {t : zW} (d : Nat) (n fr to : Int32) (Q : zQ) (hn : n.toInt = 26) (hf0 : 0 ≤ fr.toInt) (hf : fr.toInt ≤ 3) (ht0 : 0 ≤ to.toInt) (ht : to.toInt ≤ 3) (h : ∀ f, Q none (zMg c0 c1 c2 c3 c4 c5 c6 c7 c8 c9 c10 c11 c12 c13 x0 x9 x10 x11 x12 x13 x15 x16 x17 x20 x21 x22 x23 x26 x28 x31 x32 x33 x38 x41 x44 x14 g15 g16 g17 g18 g19 g20 g21 f g23 g24 g25 g26 g27 g28 g29 g30 g31 g32 g33 g34 g35 g36 g37 g38 g39 g40 g41 g42 g43 g44 t)) : zCl zTab (d + 1) iX12_copyRow [.ref 22, .int n, .int fr, .int to] (zMg c0 c1 c2 c3 c4 c5 c6 c7 c8 c9 c10 c11 c12 c13 x0 x9 x10 x11 x12 x13 x15 x16 x17 x20 x21 x22 x23 x26 x28 x31 x32 x33 x38 x41 x44 x14 g15 g16 g17 g18 g19 g20 g21 g22 g23 g24 g25 g26 g27 g28 g29 g30 g31 g32 g33 g34 g35 g36 g37 g38 g39 g40 g41 g42 g43 g44 t) 0 0 Q := by
  refine zCl_i (M := kX12_copyRow) rfl (Nat.le_of_ble_eq_true rfl) fun R hR => ?_
  have loop : ∀ (m : Nat) (i : Int32) (f : Nat → Int32), 0 ≤ i.toInt → i.toInt + m = 26 → R (3, [some (.ref 22), some (.int n), some (.int fr), some (.int to), some (.int i)], [], (zMg c0 c1 c2 c3 c4 c5 c6 c7 c8 c9 c10 c11 c12 c13 x0 x9 x10 x11 x12 x13 x15 x16 x17 x20 x21 x22 x23 x26 x28 x31 x32 x33 x38 x41 x44 x14 g15 g16 g17 g18 g19 g20 g21 f g23 g24 g25 g26 g27 g28 g29 g30 g31 g32 g33 g34 g35 g36 g37 g38 g39 g40 g41 g42 g43 g44 t), 0, 0) := by
    intro m
    induction m with
    | zero =>
      intro i f h0 h1
      iterate 2 refine hR (?_ : R (_, _, _, _, _, _))
      refine hR (And.intro (fun _ => ?_) (fun hc => absurd (zle_i.mpr (by omega)) hc))
      exact hR (zret_i rfl (Nat.le_refl _) rfl (h _))
    | succ m ih =>
      intro i f h0 h1
      have b1 := zidx (n := n) (t := to) (i := i) hn (by omega) (by omega) ht0 ht h0 (by omega)
      have b2 := zidx (n := n) (t := fr) (i := i) hn (by omega) (by omega) hf0 hf h0 (by omega)
      have b3 := zinc (i := i) h0 (by omega)
      iterate 2 refine hR (?_ : R (_, _, _, _, _, _))
      refine hR (And.intro (fun hc => absurd (zle_i.mp hc) (by omega)) (fun _ => ?_))
      iterate 12 refine hR (?_ : R (_, _, _, _, _, _))
      refine hR (And.intro (zin_of b2.1 (by omega)) ?_)
      refine hR (And.intro (zin_of b1.1 (by omega)) ?_)
      iterate 2 refine hR (?_ : R (_, _, _, _, _, _))
      exact ih (i + Int32.ofInt 1) _ (by omega) (by omega)
  iterate 2 refine hR (?_ : R (_, _, _, _, _, _))
  exact loop 26 (Int32.ofInt 0) g22 (by decide) (by decide)
end
section
theorem m_copyAll {c0 c1 c2 c3 c4 c5 c6 c7 c8 c9 c10 c11 c12 c13 : va_E} {x0 x9 x10 x11 x12 x13 x15 x16 x17 x20 x21 x22 x23 x26 x28 x31 x32 x33 x38 x41 x44 : Int32} {x14 : Int64} {g15 g16 g17 g18 g19 g20 g21 g22 g23 g24 g25 g26 g27 g28 g29 g30 g31 g32 g33 g34 g35 g36 g37 g38 g39 g40 g41 g42 g43 g44 : Nat → Int32} {t : zW} (d : Nat) (fr to : Int32) (Q : zQ) (hf0 : 0 ≤ fr.toInt) (hf : fr.toInt ≤ 3) (ht0 : 0 ≤ to.toInt) (ht : to.toInt ≤ 3) (h : ∀ f15 f16 f17 f18 f19 f20 f21 f22, Q none (zMg c0 c1 c2 c3 c4 c5 c6 c7 c8 c9 c10 c11 c12 c13 x0 x9 x10 x11 x12 x13 x15 x16 x17 x20 x21 x22 x23 x26 x28 x31 x32 x33 x38 x41 x44 x14 f15 f16 f17 f18 f19 f20 f21 f22 g23 g24 g25 g26 g27 g28 g29 g30 g31 g32 g33 g34 g35 g36 g37 g38 g39 g40 g41 g42 g43 g44 t)) : zCl zTab (d + 2) iX12_copyAll [.ref 14, .int fr, .int to] (zMg c0 c1 c2 c3 c4 c5 c6 c7 c8 c9 c10 c11 c12 c13 x0 x9 x10 x11 x12 x13 x15 x16 x17 x20 x21 x22 x23 x26 x28 x31 x32 x33 x38 x41 x44 x14 g15 g16 g17 g18 g19 g20 g21 g22 g23 g24 g25 g26 g27 g28 g29 g30 g31 g32 g33 g34 g35 g36 g37 g38 g39 g40 g41 g42 g43 g44 t) 0 0 Q := by
  refine zCl_i (M := kX12_copyAll) rfl (Nat.le_of_ble_eq_true rfl) fun R hR => ?_
  have e600 : (Int16.ofInt 600).toInt32.toInt = 600 := by decide
  have loop : ∀ (m : Nat) (i : Int32) (f : Nat → Int32), 0 ≤ i.toInt → i.toInt + m = 600 → R (2, [some (.ref 14), some (.int fr), some (.int to), some (.int i)], [], (zMg c0 c1 c2 c3 c4 c5 c6 c7 c8 c9 c10 c11 c12 c13 x0 x9 x10 x11 x12 x13 x15 x16 x17 x20 x21 x22 x23 x26 x28 x31 x32 x33 x38 x41 x44 x14 f g16 g17 g18 g19 g20 g21 g22 g23 g24 g25 g26 g27 g28 g29 g30 g31 g32 g33 g34 g35 g36 g37 g38 g39 g40 g41 g42 g43 g44 t), 0, 0) := by
    intro m
    induction m with
    | zero =>
      intro i f h0 h1
      iterate 2 refine hR (?_ : R (_, _, _, _, _, _))
      refine hR (And.intro (fun _ => ?_) (fun hc => absurd (zle_i.mpr (by omega)) hc))
      iterate 5 refine hR (?_ : R (_, _, _, _, _, _))
      refine hR (zcall_i 0 0 (Nat.le_of_ble_eq_true rfl) (Nat.le_of_ble_eq_true rfl) (m_copyRow16 _ _ _ _ _ (by decide) hf0 hf ht0 ht (fun f16 => ?_)))
      iterate 5 refine hR (?_ : R (_, _, _, _, _, _))
      refine hR (zcall_i 0 0 (Nat.le_of_ble_eq_true rfl) (Nat.le_of_ble_eq_true rfl) (m_copyRow17 _ _ _ _ _ (by decide) hf0 hf ht0 ht (fun f17 => ?_)))
      iterate 5 refine hR (?_ : R (_, _, _, _, _, _))
      refine hR (zcall_i 0 0 (Nat.le_of_ble_eq_true rfl) (Nat.le_of_ble_eq_true rfl) (m_copyRow18 _ _ _ _ _ (by decide) hf0 hf ht0 ht (fun f18 => ?_)))
      iterate 5 refine hR (?_ : R (_, _, _, _, _, _))
      refine hR (zcall_i 0 0 (Nat.le_of_ble_eq_true rfl) (Nat.le_of_ble_eq_true rfl) (m_copyRow19 _ _ _ _ _ (by decide) hf0 hf ht0 ht (fun f19 => ?_)))
      iterate 5 refine hR (?_ : R (_, _, _, _, _, _))
      refine hR (zcall_i 0 0 (Nat.le_of_ble_eq_true rfl) (Nat.le_of_ble_eq_true rfl) (m_copyRow20 _ _ _ _ _ (by decide) hf0 hf ht0 ht (fun f20 => ?_)))
      iterate 5 refine hR (?_ : R (_, _, _, _, _, _))
      refine hR (zcall_i 0 0 (Nat.le_of_ble_eq_true rfl) (Nat.le_of_ble_eq_true rfl) (m_copyRow21 _ _ _ _ _ (by decide) hf0 hf ht0 ht (fun f21 => ?_)))
      iterate 5 refine hR (?_ : R (_, _, _, _, _, _))
      refine hR (zcall_i 0 0 (Nat.le_of_ble_eq_true rfl) (Nat.le_of_ble_eq_true rfl) (m_copyRow22 _ _ _ _ _ (by decide) hf0 hf ht0 ht (fun f22 => ?_)))
      exact hR (zret_i rfl (Nat.le_refl _) rfl (h _ _ _ _ _ _ _ _))
    | succ m ih =>
      intro i f h0 h1
      have b1 := zidx (t := to) (i := i) e600 (by omega) (by omega) ht0 ht h0 (by omega)
      have b2 := zidx (t := fr) (i := i) e600 (by omega) (by omega) hf0 hf h0 (by omega)
      have b3 := zinc (i := i) h0 (by omega)
      iterate 2 refine hR (?_ : R (_, _, _, _, _, _))
      refine hR (And.intro (fun hc => absurd (zle_i.mp hc) (by omega)) (fun _ => ?_))
      iterate 14 refine hR (?_ : R (_, _, _, _, _, _))
      refine hR (And.intro (zin_of b2.1 (by omega)) ?_)
      refine hR (And.intro (zin_of b1.1 (by omega)) ?_)
      iterate 2 refine hR (?_ : R (_, _, _, _, _, _))
      exact ih (i + Int32.ofInt 1) _ (by omega) (by omega)
  iterate 2 refine hR (?_ : R (_, _, _, _, _, _))
  exact loop 600 (Int32.ofInt 0) g15 (by decide) (by decide)
end
section
theorem m_four {c0 c1 c2 c3 c4 c5 c6 c7 c8 c9 c10 c11 c12 c13 : va_E} {x0 x9 x10 x11 x12 x13 x15 x16 x17 x20 x21 x22 x23 x26 x28 x31 x32 x33 x38 x41 x44 : Int32} {x14 : Int64} {g15 g16 g17 g18 g19 g20 g21 g22 g23 g24 g25 g26 g27 g28 g29 g30 g31 g32 g33 g34 g35 g36 g37 g38 g39 g40 g41 g42 g43 g44 : Nat → Int32} {t : zW} (d : Nat) (n v : Int32) (Q : zQ) (hg : g16 0 = n) (h0 : 0 ≤ n.toInt) (h1 : n.toInt ≤ 596) (h : ∀ a b, b 0 = n + Int32.ofInt 1 + Int32.ofInt 1 + Int32.ofInt 1 + Int32.ofInt 1 → Q none (zMg c0 c1 c2 c3 c4 c5 c6 c7 c8 c9 c10 c11 c12 c13 x0 x9 x10 x11 x12 x13 x15 x16 x17 x20 x21 x22 x23 x26 x28 x31 x32 x33 x38 x41 x44 x14 a b g17 g18 g19 g20 g21 g22 g23 g24 g25 g26 g27 g28 g29 g30 g31 g32 g33 g34 g35 g36 g37 g38 g39 g40 g41 g42 g43 g44 t)) : zCl zTab (d + 1) iX12_four [.ref 14, .int v] (zMg c0 c1 c2 c3 c4 c5 c6 c7 c8 c9 c10 c11 c12 c13 x0 x9 x10 x11 x12 x13 x15 x16 x17 x20 x21 x22 x23 x26 x28 x31 x32 x33 x38 x41 x44 x14 g15 g16 g17 g18 g19 g20 g21 g22 g23 g24 g25 g26 g27 g28 g29 g30 g31 g32 g33 g34 g35 g36 g37 g38 g39 g40 g41 g42 g43 g44 t) 0 0 Q := by
  obtain ⟨⟨a1, a2⟩, a3, a4⟩ := z4 h0 h1
  refine zCl_i (M := kX12_four) rfl (Nat.le_of_ble_eq_true rfl) fun R hR => ?_
  have round : ∀ (a b : Nat → Int32) (n k : Int32), b 0 = n → 0 ≤ n.toInt → n.toInt < 2400 → ¬ k < 0 → (∀ a' b', b' 0 = n + Int32.ofInt 1 → R (3, [some (.ref 14), some (.int v), some (.int (k + Int32.ofInt (-8)))], [], (zMg c0 c1 c2 c3 c4 c5 c6 c7 c8 c9 c10 c11 c12 c13 x0 x9 x10 x11 x12 x13 x15 x16 x17 x20 x21 x22 x23 x26 x28 x31 x32 x33 x38 x41 x44 x14 a' b' g17 g18 g19 g20 g21 g22 g23 g24 g25 g26 g27 g28 g29 g30 g31 g32 g33 g34 g35 g36 g37 g38 g39 g40 g41 g42 g43 g44 t), 0, 0)) → R (3, [some (.ref 14), some (.int v), some (.int k)], [], (zMg c0 c1 c2 c3 c4 c5 c6 c7 c8 c9 c10 c11 c12 c13 x0 x9 x10 x11 x12 x13 x15 x16 x17 x20 x21 x22 x23 x26 x28 x31 x32 x33 x38 x41 x44 x14 a b g17 g18 g19 g20 g21 g22 g23 g24 g25 g26 g27 g28 g29 g30 g31 g32 g33 g34 g35 g36 g37 g38 g39 g40 g41 g42 g43 g44 t), 0, 0) := by
    intro a b n k hb h0 h1 hk hnext
    have hv : vp_in (b 0) 2400 := by rw [hb]; exact zin_of h0 (by omega)
    refine hR (?_ : R (_, _, _, _, _, _))
    refine hR (And.intro (fun hc => absurd hc hk) (fun _ => ?_))
    iterate 5 refine hR (?_ : R (_, _, _, _, _, _))
    refine hR (And.intro (by unfold vp_in; decide) ?_)
    iterate 4 refine hR (?_ : R (_, _, _, _, _, _))
    refine hR (And.intro hv ?_)
    iterate 4 refine hR (?_ : R (_, _, _, _, _, _))
    refine hR (And.intro (by unfold vp_in; decide) ?_)
    iterate 2 refine hR (?_ : R (_, _, _, _, _, _))
    refine hR (And.intro (by unfold vp_in; decide) ?_)
    iterate 2 refine hR (?_ : R (_, _, _, _, _, _))
    refine hnext _ _ ?_
    show upd b 0 (b 0 + Int32.ofInt 1) 0 = _
    rw [hb]
    simp [upd]
  iterate 2 refine hR (?_ : R (_, _, _, _, _, _))
  refine round g15 g16 (n) ((Int8.ofInt 24).toInt32) hg (by omega) (by omega) (by decide) (fun p1 s1 e1 => ?_)
  refine round p1 s1 (n + Int32.ofInt 1) ((Int8.ofInt 24).toInt32 + Int32.ofInt (-8)) e1 (by omega) (by omega) (by decide) (fun p2 s2 e2 => ?_)
  refine round p2 s2 (n + Int32.ofInt 1 + Int32.ofInt 1) ((Int8.ofInt 24).toInt32 + Int32.ofInt (-8) + Int32.ofInt (-8)) e2 (by omega) (by omega) (by decide) (fun p3 s3 e3 => ?_)
  refine round p3 s3 (n + Int32.ofInt 1 + Int32.ofInt 1 + Int32.ofInt 1) ((Int8.ofInt 24).toInt32 + Int32.ofInt (-8) + Int32.ofInt (-8) + Int32.ofInt (-8)) e3 (by omega) (by omega) (by decide) (fun p4 s4 e4 => ?_)
  refine hR (?_ : R (_, _, _, _, _, _))
  refine hR (And.intro (fun _ => ?_) (fun hc => absurd (by decide) hc))
  exact hR (zret_i rfl (Nat.le_refl _) rfl (h _ _ e4))
theorem m_feed {c0 c1 c2 c3 c4 c5 c6 c7 c8 c9 c10 c11 c12 c13 : va_E} {t : zW} (d : Nat) (a b c e f : Int32) (Q : zQ) (h : ∀ w, Q (some (.int 20)) w) : zCl zTab (d + 2) iX12_feed [.ref 14, .int a, .int b, .int c, .int e, .int f] (c0 :: c1 :: c2 :: c3 :: c4 :: c5 :: c6 :: c7 :: c8 :: c9 :: c10 :: c11 :: c12 :: c13 :: zMf t) 0 0 Q := by
  refine zCl_i (M := kX12_feed) rfl (Nat.le_of_ble_eq_true rfl) fun R hR => ?_
  iterate 6 refine hR (?_ : R (_, _, _, _, _, _))
  refine hR (And.intro (by unfold vp_in; decide) ?_)
  iterate 3 refine hR (?_ : R (_, _, _, _, _, _))
  refine hR (And.intro (fun _ => ?_) (fun hc => absurd (by decide) hc))
  iterate 2 refine hR (?_ : R (_, _, _, _, _, _))
  refine hR (zcall_i 0 0 (Nat.le_of_ble_eq_true rfl) (Nat.le_of_ble_eq_true rfl) (m_four (g15 := fun _ => 0) (g16 := fun _ => 0) _ (0) _ _ rfl (by decide) (by decide) (fun p0 s0 e0 => ?_)))
  iterate 2 refine hR (?_ : R (_, _, _, _, _, _))
  refine hR (zcall_i 0 0 (Nat.le_of_ble_eq_true rfl) (Nat.le_of_ble_eq_true rfl) (m_four (g15 := p0) (g16 := s0) _ (0 + Int32.ofInt 1 + Int32.ofInt 1 + Int32.ofInt 1 + Int32.ofInt 1) _ _ e0 (by decide) (by decide) (fun p1 s1 e1 => ?_)))
  iterate 2 refine hR (?_ : R (_, _, _, _, _, _))
  refine hR (zcall_i 0 0 (Nat.le_of_ble_eq_true rfl) (Nat.le_of_ble_eq_true rfl) (m_four (g15 := p1) (g16 := s1) _ (0 + Int32.ofInt 1 + Int32.ofInt 1 + Int32.ofInt 1 + Int32.ofInt 1 + Int32.ofInt 1 + Int32.ofInt 1 + Int32.ofInt 1 + Int32.ofInt 1) _ _ e1 (by decide) (by decide) (fun p2 s2 e2 => ?_)))
  iterate 2 refine hR (?_ : R (_, _, _, _, _, _))
  refine hR (zcall_i 0 0 (Nat.le_of_ble_eq_true rfl) (Nat.le_of_ble_eq_true rfl) (m_four (g15 := p2) (g16 := s2) _ (0 + Int32.ofInt 1 + Int32.ofInt 1 + Int32.ofInt 1 + Int32.ofInt 1 + Int32.ofInt 1 + Int32.ofInt 1 + Int32.ofInt 1 + Int32.ofInt 1 + Int32.ofInt 1 + Int32.ofInt 1 + Int32.ofInt 1 + Int32.ofInt 1) _ _ e2 (by decide) (by decide) (fun p3 s3 e3 => ?_)))
  iterate 2 refine hR (?_ : R (_, _, _, _, _, _))
  refine hR (zcall_i 0 0 (Nat.le_of_ble_eq_true rfl) (Nat.le_of_ble_eq_true rfl) (m_four (g15 := p3) (g16 := s3) _ (0 + Int32.ofInt 1 + Int32.ofInt 1 + Int32.ofInt 1 + Int32.ofInt 1 + Int32.ofInt 1 + Int32.ofInt 1 + Int32.ofInt 1 + Int32.ofInt 1 + Int32.ofInt 1 + Int32.ofInt 1 + Int32.ofInt 1 + Int32.ofInt 1 + Int32.ofInt 1 + Int32.ofInt 1 + Int32.ofInt 1 + Int32.ofInt 1) _ _ e3 (by decide) (by decide) (fun p4 s4 e4 => ?_)))
  iterate 3 refine hR (?_ : R (_, _, _, _, _, _))
  refine hR (And.intro (by unfold vp_in; decide) ?_)
  refine hR (zret_i rfl (Nat.le_refl _) trivial ?_)
  have e0 : (0 + Int32.ofInt 1 + Int32.ofInt 1 + Int32.ofInt 1 + Int32.ofInt 1 + Int32.ofInt 1 + Int32.ofInt 1 + Int32.ofInt 1 + Int32.ofInt 1 + Int32.ofInt 1 + Int32.ofInt 1 + Int32.ofInt 1 + Int32.ofInt 1 + Int32.ofInt 1 + Int32.ofInt 1 + Int32.ofInt 1 + Int32.ofInt 1 + Int32.ofInt 1 + Int32.ofInt 1 + Int32.ofInt 1 + Int32.ofInt 1 : Int32) = 20 := by decide
  have e5 : s4 0 = 20 := e4.trans e0
  have h2 : ∀ w, Q (some (.int (s4 0))) w := fun w => by rw [e5]; exact h w
  exact h2 _
end
section
theorem m_end {c0 c1 c2 c3 c4 c5 c6 c7 c8 c9 c10 c11 c12 c13 : va_E} {t : zW} (d : Nat) (n : Int32) (Q : zQ) (h : ∀ w, Q (some (.int (vEnd n))) w) : zCl zTab (d + 2) iX12_end [.ref 14, .int n] (c0 :: c1 :: c2 :: c3 :: c4 :: c5 :: c6 :: c7 :: c8 :: c9 :: c10 :: c11 :: c12 :: c13 :: zMf t) 0 0 Q := by
  refine zCl_i (M := kX12_end) rfl (Nat.le_of_ble_eq_true rfl) fun R hR => ?_
  iterate 8 refine hR (?_ : R (_, _, _, _, _, _))
  refine hR (And.intro (by unfold vp_in; decide) ?_)
  refine hR (zcall_i 0 0 (Nat.le_of_ble_eq_true rfl) (Nat.le_of_ble_eq_true rfl) (m_in _ _ _ _ _ _ (fun q1 q2 => ?_) (fun q => ?_)))
  · refine hR (And.intro (fun _ => ?_) (fun hc => absurd hc (by decide)))
    iterate 4 refine hR (?_ : R (_, _, _, _, _, _))
    refine hR (And.intro (by unfold vp_in; decide) ?_)
    refine hR (?_ : R (_, _, _, _, _, _))
    refine hR (zret_i rfl (Nat.le_refl _) trivial ?_)
    have e : vEnd n = n := if_neg (fun z => z.elim q1 (fun z => absurd q2 (Int32.not_le.mpr z)))
    rw [e] at h
    exact h _
  · refine hR (And.intro (fun hc => absurd (by decide) hc) (fun _ => ?_))
    refine hR (?_ : R (_, _, _, _, _, _))
    refine hR (zret_i rfl (Nat.le_refl _) trivial ?_)
    have e : vEnd n = Int32.ofInt (-1) := if_pos q
    rw [e] at h
    exact h _
theorem m_fault {c0 c1 c2 c3 c4 c5 c6 c7 c8 c9 c10 c11 c12 c13 : va_E} {t : zW} (d : Nat) (n : Int32) (Q : zQ) (h : ∀ w, Q (some (.int (vFault n))) w) : zCl zTab (d + 2) iX12_fault [.ref 14, .int n] (c0 :: c1 :: c2 :: c3 :: c4 :: c5 :: c6 :: c7 :: c8 :: c9 :: c10 :: c11 :: c12 :: c13 :: zMf t) 0 0 Q := by
  refine zCl_i (M := kX12_fault) rfl (Nat.le_of_ble_eq_true rfl) fun R hR => ?_
  iterate 4 refine hR (?_ : R (_, _, _, _, _, _))
  refine hR (And.intro (fun q0 => ?_) (fun q0 => ?_))
  · iterate 2 refine hR (?_ : R (_, _, _, _, _, _))
    refine hR (And.intro (fun q1 => ?_) (fun q1 => ?_))
    · refine hR (?_ : R (_, _, _, _, _, _))
      refine hR (zret_i rfl (Nat.le_refl _) trivial ?_)
      have e : vFault n = Int32.ofInt (-1) := (if_neg q0).trans (by decide)
      rw [e] at h
      exact h _
    · iterate 3 refine hR (?_ : R (_, _, _, _, _, _))
      refine hR (And.intro (by unfold vp_in; decide) ?_)
      refine hR (?_ : R (_, _, _, _, _, _))
      refine hR (zret_i rfl (Nat.le_refl _) trivial ?_)
      have e : vFault n = -1 := if_neg q0
      rw [e] at h
      exact h _
  · iterate 3 refine hR (?_ : R (_, _, _, _, _, _))
    refine hR (And.intro (by unfold vp_in; decide) ?_)
    refine hR (?_ : R (_, _, _, _, _, _))
    refine hR (zret_i rfl (Nat.le_refl _) trivial ?_)
    have e : vFault n = 0 := if_pos q0
    rw [e] at h
    exact h _
theorem z012' {k : Int32} (q1 : ¬ k < Int32.ofInt 0) (q2 : k ≤ Int32.ofInt 2) : k = 0 ∨ k = 1 ∨ k = 2 := z012 q1 (by
  rw [zle_i] at q2
  rw [zlt_i]
  have e1 : (Int32.ofInt 2).toInt = 2 := by decide
  have e2 : (3 : Int32).toInt = 3 := by decide
  omega)
theorem z3n {k : Int32} (q : k < Int32.ofInt 0 ∨ Int32.ofInt 2 < k) : k < 0 ∨ 3 ≤ k := q.imp id (fun q2 => by
  rw [zlt_i] at q2
  rw [zle_i]
  have e1 : (Int32.ofInt 2).toInt = 2 := by decide
  have e2 : (3 : Int32).toInt = 3 := by decide
  omega)
theorem m_count {c0 c1 c2 c3 c4 c5 c6 c7 c8 c9 c10 c11 c12 c13 : va_E} {t : zW} (d : Nat) (n : Int32) (Q : zQ) (h : ∀ w, Q (some (.int (vCount n))) w) : zCl zTab (d + 2) iX12_count [.ref 14, .int n] (c0 :: c1 :: c2 :: c3 :: c4 :: c5 :: c6 :: c7 :: c8 :: c9 :: c10 :: c11 :: c12 :: c13 :: zMf t) 0 0 Q := by
  refine zCl_i (M := kX12_count) rfl (Nat.le_of_ble_eq_true rfl) fun R hR => ?_
  iterate 6 refine hR (?_ : R (_, _, _, _, _, _))
  refine hR (zcall_i 0 0 (Nat.le_of_ble_eq_true rfl) (Nat.le_of_ble_eq_true rfl) (m_in _ _ _ _ _ _ (fun q1 q2 => ?_) (fun q => ?_)))
  · refine hR (And.intro (fun hc => absurd hc (by decide)) (fun _ => ?_))
    iterate 3 refine hR (?_ : R (_, _, _, _, _, _))
    refine hR (And.intro ?_ ?_)
    · rcases z012' q1 q2 with rfl | rfl | rfl <;> (unfold vp_in; decide)
    refine hR (?_ : R (_, _, _, _, _, _))
    refine hR (zret_i rfl (Nat.le_refl _) trivial ?_)
    have e : vCount n = 0 := by rcases z012' q1 q2 with rfl | rfl | rfl <;> decide
    rw [e] at h
    exact h _
  · refine hR (And.intro (fun _ => ?_) (fun hc => absurd (by decide) hc))
    refine hR (?_ : R (_, _, _, _, _, _))
    refine hR (zret_i rfl (Nat.le_refl _) trivial ?_)
    have e : vCount n = (Int8.ofInt (-2)).toInt32 := (if_pos (z3n q)).trans (by decide)
    rw [e] at h
    exact h _
theorem m_again {c0 c1 c2 c3 c4 c5 c6 c7 c8 c9 c10 c11 c12 c13 : va_E} {t : zW} (d : Nat) (n : Int32) (Q : zQ) (h : ∀ w, Q (some (.int (Int32.ofInt 0))) w) : zCl zTab (d + 2) iX12_again [.ref 14, .int n] (c0 :: c1 :: c2 :: c3 :: c4 :: c5 :: c6 :: c7 :: c8 :: c9 :: c10 :: c11 :: c12 :: c13 :: zMf t) 0 0 Q := by
  refine zCl_i (M := kX12_again) rfl (Nat.le_of_ble_eq_true rfl) fun R hR => ?_
  iterate 6 refine hR (?_ : R (_, _, _, _, _, _))
  refine hR (zcall_i 0 0 (Nat.le_of_ble_eq_true rfl) (Nat.le_of_ble_eq_true rfl) (m_in _ _ _ _ _ _ (fun q1 q2 => ?_) (fun q => ?_)))
  · refine hR (And.intro (fun hc => absurd hc (by decide)) (fun _ => ?_))
    iterate 3 refine hR (?_ : R (_, _, _, _, _, _))
    refine hR (And.intro ?_ ?_)
    · rcases z012' q1 q2 with rfl | rfl | rfl <;> (unfold vp_in; decide)
    refine hR (And.intro (fun hc => absurd rfl hc) (fun _ => ?_))
    refine hR (?_ : R (_, _, _, _, _, _))
    exact hR (zret_i rfl (Nat.le_refl _) (Or.inl rfl) (h _))
  · refine hR (And.intro (fun _ => ?_) (fun hc => absurd (by decide) hc))
    refine hR (?_ : R (_, _, _, _, _, _))
    exact hR (zret_i rfl (Nat.le_refl _) (Or.inl rfl) (h _))
theorem m_image {c0 c1 c2 c3 c4 c5 c6 c7 c8 c9 c10 c11 c12 c13 : va_E} {t : zW} (d : Nat) (n : Int32) (Q : zQ) (h1 : ¬ n < 0 → n < 3 → ∀ w, Q (some (.int (Int32.ofInt 1))) w) (h0 : n < 0 ∨ 3 ≤ n → ∀ w, Q (some (.int (Int32.ofInt 0))) w) : zCl zTab (d + 3) iX12_image [.ref 14, .int n] (c0 :: c1 :: c2 :: c3 :: c4 :: c5 :: c6 :: c7 :: c8 :: c9 :: c10 :: c11 :: c12 :: c13 :: zMf t) 0 0 Q := by
  refine zCl_i (M := kX12_image) rfl (Nat.le_of_ble_eq_true rfl) fun R hR => ?_
  iterate 6 refine hR (?_ : R (_, _, _, _, _, _))
  refine hR (zcall_i 0 0 (Nat.le_of_ble_eq_true rfl) (Nat.le_of_ble_eq_true rfl) (m_in _ _ _ _ _ _ (fun q1 q2 => ?_) (fun q => ?_)))
  · have h3 := z012' q1 q2
    have hb : 0 ≤ (n + Int32.ofInt 1).toInt ∧ (n + Int32.ofInt 1).toInt ≤ 3 := by rcases h3 with rfl | rfl | rfl <;> decide
    refine hR (And.intro (fun _ => ?_) (fun hc => absurd hc (by decide)))
    iterate 5 refine hR (?_ : R (_, _, _, _, _, _))
    refine hR (zcall_i 0 0 (Nat.le_of_ble_eq_true rfl) (Nat.le_of_ble_eq_true rfl) (m_copyAll _ _ _ _ (by decide) (by decide) hb.1 hb.2 (fun f15 f16 f17 f18 f19 f20 f21 f22 => ?_)))
    iterate 4 refine hR (?_ : R (_, _, _, _, _, _))
    refine hR (And.intro ?_ ?_)
    · rcases h3 with rfl | rfl | rfl <;> (unfold vp_in; decide)
    refine hR (?_ : R (_, _, _, _, _, _))
    refine hR (zret_i rfl (Nat.le_refl _) (Or.inr rfl) (h1 q1 ?_ _))
    rcases h3 with rfl | rfl | rfl <;> decide
  · refine hR (And.intro (fun hc => absurd (by decide) hc) (fun _ => ?_))
    refine hR (?_ : R (_, _, _, _, _, _))
    exact hR (zret_i rfl (Nat.le_refl _) (Or.inl rfl) (h0 (z3n q) _))
end
section
theorem r_linesInit (d : Nat) (q : Nat) (w : zW) (Q : zQ) (h : Q none w) : zCl zTab (d + 2) iX3_init [.ref q] w 0 0 Q := by
  refine zCl_i (M := kX3_init) rfl (Nat.le_of_ble_eq_true rfl) fun R hR => ?_
  iterate 2 refine hR (?_ : R (_, _, _, _, _, _))
  exact hR (zret_i rfl (Nat.le_refl _) rfl h)
theorem r_advance {c0 c1 c2 c3 c4 c5 c6 c7 : va_E} {v0 v3 v4 v5 v6 v7 : Value} {t : zW} (d : Nat) (Q : zQ) (h : Q none (c0 :: c1 :: c2 :: c3 :: c4 :: c5 :: c6 :: c7 :: .inr (6, [v0, .int 0, .int (Int32.ofInt 0), .int (Int32.ofInt 0), .int (Int32.ofInt 0), v5, v6, v7]) :: t)) : zCl zTab (d + 1) iX7_advance [.ref 8] (c0 :: c1 :: c2 :: c3 :: c4 :: c5 :: c6 :: c7 :: .inr (6, [v0, .int 0, .int (Int32.ofInt 0), v3, v4, v5, v6, v7]) :: t) 0 0 Q := by
  refine zCl_i (M := kX7_advance) rfl (Nat.le_of_ble_eq_true rfl) fun R hR => ?_
  iterate 4 refine hR (?_ : R (_, _, _, _, _, _))
  refine hR (And.intro (fun _ => ?_) (fun hc => absurd (by decide) hc))
  iterate 8 refine hR (?_ : R (_, _, _, _, _, _))
  refine hR (And.intro (fun hc => absurd hc (by decide)) (fun _ => ?_))
  iterate 4 refine hR (?_ : R (_, _, _, _, _, _))
  exact hR (zret_i rfl (Nat.le_refl _) (rfl) (h))
theorem r_tell {c0 c1 c2 c3 c4 c5 c6 c7 : va_E} {v0 v3 v4 v5 v6 v7 : Value} {t : zW} (d q : Nat) (v1 v2 : Value) (Q : zQ) (h : Q (some (.int (Int32.ofInt 1))) (c0 :: c1 :: c2 :: c3 :: c4 :: c5 :: c6 :: c7 :: .inr (6, [.ref 2, .int 0, .int (Int32.ofInt 0), .int (Int32.ofInt 0), .int (Int32.ofInt 0), v5, .int (Int32.ofInt 0), .int (Int32.ofInt (-1))]) :: t)) : zCl zTab (d + 2) iX7_tell [.ref 8, .ref 2, .int 0, .ref q] (c0 :: c1 :: c2 :: c3 :: c4 :: c5 :: c6 :: c7 :: .inr (6, [v0, v1, v2, v3, v4, v5, v6, v7]) :: t) 0 0 Q := by
  refine zCl_i (M := kX7_tell) rfl (Nat.le_of_ble_eq_true rfl) fun R hR => ?_
  iterate 16 refine hR (?_ : R (_, _, _, _, _, _))
  refine hR (zcall_i 0 0 (Nat.le_of_ble_eq_true rfl) (Nat.le_of_ble_eq_true rfl) (r_advance _ _ ?_))
  iterate 4 refine hR (?_ : R (_, _, _, _, _, _))
  refine hR (And.intro (fun hc => absurd hc (by decide)) (fun _ => ?_))
  iterate 2 refine hR (?_ : R (_, _, _, _, _, _))
  refine hR (And.intro (fun _ => ?_) (fun hc => absurd (by decide) hc))
  iterate 2 refine hR (?_ : R (_, _, _, _, _, _))
  refine hR (And.intro (fun hc => absurd (by decide) hc) (fun _ => ?_))
  iterate 2 refine hR (?_ : R (_, _, _, _, _, _))
  exact hR (zret_i rfl (Nat.le_refl _) (Or.inr rfl) (h))
theorem r_init0 {c0 c1 c2 c3 c4 c5 c6 c7 c8 c9 c10 c11 c12 c13 : va_E} (d : Nat) (Q : zQ) (h : ∀ fs t, Q none (c0 :: c1 :: c2 :: c3 :: c4 :: c5 :: c6 :: c7 :: c8 :: c9 :: c10 :: c11 :: c12 :: c13 :: zMf (.inr (0, fs) :: t))) : zCl zTab (d + 3) iX0_init [.ref 45] (c0 :: c1 :: c2 :: c3 :: c4 :: c5 :: c6 :: c7 :: c8 :: c9 :: c10 :: c11 :: c12 :: c13 :: zMf [.inr (0, [.int 0, .int 0, .int 0, .null, .null, .null, .null])]) 4 49 Q := by
  refine zCl_i (M := kX0_init) rfl (Nat.le_of_ble_eq_true rfl) fun R hR => ?_
  refine hR (?_ : R (_, _, _, _, _, _))
  refine hR (zcall_i 0 0 (Nat.le_of_ble_eq_true rfl) (Nat.le_of_ble_eq_true rfl) (r_linesInit _ _ _ _ ?_))
  iterate 11 refine hR (?_ : R (_, _, _, _, _, _))
  refine hR (?_ : R (_, _, .ref 46 :: _, _, _, _))
  iterate 3 refine hR (?_ : R (_, _, _, _, _, _))
  refine hR (And.intro (by unfold vp_in; decide) ?_)
  iterate 3 refine hR (?_ : R (_, _, _, _, _, _))
  refine hR (And.intro (by unfold vp_in; decide) ?_)
  iterate 3 refine hR (?_ : R (_, _, _, _, _, _))
  refine hR (And.intro (by unfold vp_in; decide) ?_)
  iterate 3 refine hR (?_ : R (_, _, _, _, _, _))
  refine hR (And.intro (by unfold vp_in; decide) ?_)
  refine hR (?_ : R (_, _, _, _, _, _))
  refine (?_ : R (_, _, _, c0 :: c1 :: c2 :: c3 :: c4 :: c5 :: c6 :: c7 :: c8 :: c9 :: c10 :: c11 :: c12 :: c13 :: zMf [.inr (0, [_, _, _, _, _, _, _]), .inl (1, 4, .inl _)], _, _))
  iterate 2 refine hR (?_ : R (_, _, _, _, _, _))
  refine hR (?_ : R (_, _, .ref 47 :: _, _, _, _))
  refine hR (?_ : R (_, _, _, _, _, _))
  refine (?_ : R (_, _, _, c0 :: c1 :: c2 :: c3 :: c4 :: c5 :: c6 :: c7 :: c8 :: c9 :: c10 :: c11 :: c12 :: c13 :: zMf [.inr (0, [_, _, _, _, _, _, _]), .inl (1, 4, .inl _), .inl (1, 5, .inl _)], _, _))
  iterate 2 refine hR (?_ : R (_, _, _, _, _, _))
  refine hR (?_ : R (_, _, .ref 48 :: _, _, _, _))
  refine hR (?_ : R (_, _, _, _, _, _))
  refine (?_ : R (_, _, _, c0 :: c1 :: c2 :: c3 :: c4 :: c5 :: c6 :: c7 :: c8 :: c9 :: c10 :: c11 :: c12 :: c13 :: zMf [.inr (0, [_, _, _, _, _, _, _]), .inl (1, 4, .inl _), .inl (1, 5, .inl _), .inl (1, 20, .inl _)], _, _))
  iterate 2 refine hR (?_ : R (_, _, _, _, _, _))
  refine hR (?_ : R (_, _, .ref 49 :: _, _, _, _))
  refine hR (?_ : R (_, _, _, _, _, _))
  refine (?_ : R (_, _, _, c0 :: c1 :: c2 :: c3 :: c4 :: c5 :: c6 :: c7 :: c8 :: c9 :: c10 :: c11 :: c12 :: c13 :: zMf [.inr (0, [_, _, _, _, _, _, _]), .inl (1, 4, .inl _), .inl (1, 5, .inl _), .inl (1, 20, .inl _), .inl (1, 20, .inl _)], _, _))
  exact hR (zret_i rfl (Nat.le_refl _) (rfl) (h _ _))
theorem r_tellInto0 (d : Nat) (Q : zQ) (h : ∀ c4 c5 c6 c8 t, Q (some (.int (Int32.ofInt 1))) (.inr (10, [.ref 1, .ref 7, .ref 8, .ref 9, .ref 12, .ref 13, .null, .null]) :: .inr (7, [.ref 2, .int 0, .int 0, .int (-1), .ref 3, .ref 4, .ref 5, .ref 6]) :: .inl (0, 600, .inl (fun _ => 0)) :: .inl (1, 3, .inl (fun _ => 0)) :: c4 :: c5 :: c6 :: .inl (6, 3, .inr (.inr (.inr (.inr (fun _ => none))))) :: c8 :: .inr (1, [.null, .int 0, .int 0, .int 0, .int 0, .ref 10, .ref 11]) :: .inl (1, 4, .inl (fun _ => 0)) :: .inl (1, 5, .inl (fun _ => 0)) :: .inl (7, 2, .inr (.inr (.inr (.inr (fun _ => none))))) :: .inl (8, 2, .inr (.inr (.inr (.inr (fun _ => none))))) :: zMf t)) : zCl zTab (d + 4) iX11_tellInto [.ref 0, .int 0, .int 0, .int 0] (zCw (zMf [])) 5 56 Q := by
  refine zCl_i (M := kX11_tellInto) rfl (Nat.le_of_ble_eq_true rfl) fun R hR => ?_
  iterate 2 refine hR (?_ : R (_, _, _, _, _, _))
  refine hR (?_ : R (_, _, .ref 45 :: _, _, _, _))
  refine hR (?_ : R (_, _, _, _, _, _))
  refine hR (zcall_i 4 49 (Nat.le_of_ble_eq_true rfl) (Nat.le_of_ble_eq_true rfl) (r_init0 _ _ (fun fs t => ?_)))
  iterate 8 refine hR (?_ : R (_, _, _, _, _, _))
  refine hR (zcall_i 0 0 (Nat.le_of_ble_eq_true rfl) (Nat.le_of_ble_eq_true rfl) (r_tell _ _ _ _ _ ?_))
  refine hR (And.intro (fun hc => absurd hc (by decide)) (fun _ => ?_))
  iterate 5 refine hR (?_ : R (_, _, _, _, _, _))
  refine hR (And.intro (by unfold vp_in; decide) ?_)
  refine hR (?_ : R (_, _, _, _, _, _))
  exact hR (zret_i rfl (Nat.le_refl _) (Or.inr rfl) (h _ _ _ _ _))
theorem r_init1 {c0 c1 c2 c3 c4 c5 c6 c7 c8 c9 c10 c11 c12 c13 : va_E} (d : Nat) (Q : zQ) (h : ∀ fs t, Q none (c0 :: c1 :: c2 :: c3 :: c4 :: c5 :: c6 :: c7 :: c8 :: c9 :: c10 :: c11 :: c12 :: c13 :: zMf (.inr (9, fs) :: t))) : zCl zTab (d + 3) iX10_init [.ref 45] (c0 :: c1 :: c2 :: c3 :: c4 :: c5 :: c6 :: c7 :: c8 :: c9 :: c10 :: c11 :: c12 :: c13 :: zMf [.inr (9, [.int 0, .null, .null, .null])]) 3 120 Q := by
  refine zCl_i (M := kX10_init) rfl (Nat.le_of_ble_eq_true rfl) fun R hR => ?_
  refine hR (?_ : R (_, _, _, _, _, _))
  refine hR (zcall_i 0 0 (Nat.le_of_ble_eq_true rfl) (Nat.le_of_ble_eq_true rfl) (r_linesInit _ _ _ _ ?_))
  iterate 5 refine hR (?_ : R (_, _, _, _, _, _))
  refine hR (?_ : R (_, _, .ref 46 :: _, _, _, _))
  refine hR (?_ : R (_, _, _, _, _, _))
  refine (?_ : R (_, _, _, c0 :: c1 :: c2 :: c3 :: c4 :: c5 :: c6 :: c7 :: c8 :: c9 :: c10 :: c11 :: c12 :: c13 :: zMf [.inr (9, [_, _, _, _]), .inl (1, 40, .inl _)], _, _))
  iterate 2 refine hR (?_ : R (_, _, _, _, _, _))
  refine hR (?_ : R (_, _, .ref 47 :: _, _, _, _))
  refine hR (?_ : R (_, _, _, _, _, _))
  refine (?_ : R (_, _, _, c0 :: c1 :: c2 :: c3 :: c4 :: c5 :: c6 :: c7 :: c8 :: c9 :: c10 :: c11 :: c12 :: c13 :: zMf [.inr (9, [_, _, _, _]), .inl (1, 40, .inl _), .inl (1, 40, .inl _)], _, _))
  iterate 2 refine hR (?_ : R (_, _, _, _, _, _))
  refine hR (?_ : R (_, _, .ref 48 :: _, _, _, _))
  refine hR (?_ : R (_, _, _, _, _, _))
  refine (?_ : R (_, _, _, c0 :: c1 :: c2 :: c3 :: c4 :: c5 :: c6 :: c7 :: c8 :: c9 :: c10 :: c11 :: c12 :: c13 :: zMf [.inr (9, [_, _, _, _]), .inl (1, 40, .inl _), .inl (1, 40, .inl _), .inl (1, 40, .inl _)], _, _))
  exact hR (zret_i rfl (Nat.le_refl _) (rfl) (h _ _))
theorem r_tellInto1 (d : Nat) (Q : zQ) (h : ∀ c4 c5 c6 c8 t, Q (some (.int (Int32.ofInt 1))) (.inr (10, [.ref 1, .ref 7, .ref 8, .ref 9, .ref 12, .ref 13, .null, .null]) :: .inr (7, [.ref 2, .int 0, .int 0, .int (-1), .ref 3, .ref 4, .ref 5, .ref 6]) :: .inl (0, 600, .inl (fun _ => 0)) :: .inl (1, 3, .inl (fun _ => 0)) :: c4 :: c5 :: c6 :: .inl (6, 3, .inr (.inr (.inr (.inr (fun _ => none))))) :: c8 :: .inr (1, [.null, .int 0, .int 0, .int 0, .int 0, .ref 10, .ref 11]) :: .inl (1, 4, .inl (fun _ => 0)) :: .inl (1, 5, .inl (fun _ => 0)) :: .inl (7, 2, .inr (.inr (.inr (.inr (fun _ => none))))) :: .inl (8, 2, .inr (.inr (.inr (.inr (fun _ => none))))) :: zMf t)) : zCl zTab (d + 4) iX11_tellInto [.ref 0, .int 1, .int 0, .int 0] (zCw (zMf [])) 4 124 Q := by
  refine zCl_i (M := kX11_tellInto) rfl (Nat.le_of_ble_eq_true rfl) fun R hR => ?_
  iterate 2 refine hR (?_ : R (_, _, _, _, _, _))
  refine hR (?_ : R (_, _, .ref 45 :: _, _, _, _))
  refine hR (?_ : R (_, _, _, _, _, _))
  refine hR (zcall_i 3 120 (Nat.le_of_ble_eq_true rfl) (Nat.le_of_ble_eq_true rfl) (r_init1 _ _ (fun fs t => ?_)))
  iterate 8 refine hR (?_ : R (_, _, _, _, _, _))
  refine hR (zcall_i 0 0 (Nat.le_of_ble_eq_true rfl) (Nat.le_of_ble_eq_true rfl) (r_tell _ _ _ _ _ ?_))
  refine hR (And.intro (fun hc => absurd hc (by decide)) (fun _ => ?_))
  iterate 5 refine hR (?_ : R (_, _, _, _, _, _))
  refine hR (And.intro (by unfold vp_in; decide) ?_)
  refine hR (?_ : R (_, _, _, _, _, _))
  exact hR (zret_i rfl (Nat.le_refl _) (Or.inr rfl) (h _ _ _ _ _))
theorem r_init2 {c0 c1 c2 c3 c4 c5 c6 c7 c8 c9 c10 c11 c12 c13 : va_E} (d : Nat) (Q : zQ) (h : ∀ fs t, Q none (c0 :: c1 :: c2 :: c3 :: c4 :: c5 :: c6 :: c7 :: c8 :: c9 :: c10 :: c11 :: c12 :: c13 :: zMf (.inr (5, fs) :: t))) : zCl zTab (d + 3) iX6_init [.ref 45] (c0 :: c1 :: c2 :: c3 :: c4 :: c5 :: c6 :: c7 :: c8 :: c9 :: c10 :: c11 :: c12 :: c13 :: zMf [.inr (5, [.int 0, .null, .null])]) 2 12 Q := by
  refine zCl_i (M := kX6_init) rfl (Nat.le_of_ble_eq_true rfl) fun R hR => ?_
  refine hR (?_ : R (_, _, _, _, _, _))
  refine hR (zcall_i 0 0 (Nat.le_of_ble_eq_true rfl) (Nat.le_of_ble_eq_true rfl) (r_linesInit _ _ _ _ ?_))
  iterate 5 refine hR (?_ : R (_, _, _, _, _, _))
  refine hR (?_ : R (_, _, .ref 46 :: _, _, _, _))
  refine hR (?_ : R (_, _, _, _, _, _))
  refine (?_ : R (_, _, _, c0 :: c1 :: c2 :: c3 :: c4 :: c5 :: c6 :: c7 :: c8 :: c9 :: c10 :: c11 :: c12 :: c13 :: zMf [.inr (5, [_, _, _]), .inl (1, 6, .inl _)], _, _))
  iterate 2 refine hR (?_ : R (_, _, _, _, _, _))
  refine hR (?_ : R (_, _, .ref 47 :: _, _, _, _))
  refine hR (?_ : R (_, _, _, _, _, _))
  refine (?_ : R (_, _, _, c0 :: c1 :: c2 :: c3 :: c4 :: c5 :: c6 :: c7 :: c8 :: c9 :: c10 :: c11 :: c12 :: c13 :: zMf [.inr (5, [_, _, _]), .inl (1, 6, .inl _), .inl (1, 6, .inl _)], _, _))
  exact hR (zret_i rfl (Nat.le_refl _) (rfl) (h _ _))
theorem r_tellInto2 (d : Nat) (Q : zQ) (h : ∀ c4 c5 c6 c8 t, Q (some (.int (Int32.ofInt 1))) (.inr (10, [.ref 1, .ref 7, .ref 8, .ref 9, .ref 12, .ref 13, .null, .null]) :: .inr (7, [.ref 2, .int 0, .int 0, .int (-1), .ref 3, .ref 4, .ref 5, .ref 6]) :: .inl (0, 600, .inl (fun _ => 0)) :: .inl (1, 3, .inl (fun _ => 0)) :: c4 :: c5 :: c6 :: .inl (6, 3, .inr (.inr (.inr (.inr (fun _ => none))))) :: c8 :: .inr (1, [.null, .int 0, .int 0, .int 0, .int 0, .ref 10, .ref 11]) :: .inl (1, 4, .inl (fun _ => 0)) :: .inl (1, 5, .inl (fun _ => 0)) :: .inl (7, 2, .inr (.inr (.inr (.inr (fun _ => none))))) :: .inl (8, 2, .inr (.inr (.inr (.inr (fun _ => none))))) :: zMf t)) : zCl zTab (d + 4) iX11_tellInto [.ref 0, .int 2, .int 0, .int 0] (zCw (zMf [])) 3 15 Q := by
  refine zCl_i (M := kX11_tellInto) rfl (Nat.le_of_ble_eq_true rfl) fun R hR => ?_
  iterate 2 refine hR (?_ : R (_, _, _, _, _, _))
  refine hR (?_ : R (_, _, .ref 45 :: _, _, _, _))
  refine hR (?_ : R (_, _, _, _, _, _))
  refine hR (zcall_i 2 12 (Nat.le_of_ble_eq_true rfl) (Nat.le_of_ble_eq_true rfl) (r_init2 _ _ (fun fs t => ?_)))
  iterate 8 refine hR (?_ : R (_, _, _, _, _, _))
  refine hR (zcall_i 0 0 (Nat.le_of_ble_eq_true rfl) (Nat.le_of_ble_eq_true rfl) (r_tell _ _ _ _ _ ?_))
  refine hR (And.intro (fun hc => absurd hc (by decide)) (fun _ => ?_))
  iterate 5 refine hR (?_ : R (_, _, _, _, _, _))
  refine hR (And.intro (by unfold vp_in; decide) ?_)
  refine hR (?_ : R (_, _, _, _, _, _))
  exact hR (zret_i rfl (Nat.le_refl _) (Or.inr rfl) (h _ _ _ _ _))
end
section
theorem r_text0 (d : Nat) (Q : zQ) (h : ∀ c0 c1 c2 c3 c4 c5 c6 c7 c8 c9 c10 c11 c12 c13 t, Q (some (.int 0)) (c0 :: c1 :: c2 :: c3 :: c4 :: c5 :: c6 :: c7 :: c8 :: c9 :: c10 :: c11 :: c12 :: c13 :: zMf t)) : zCl zTab (d + 5) iX11_text [.ref 0, .int 0, .int (-1)] (zCw (zMf [])) 5 56 Q := by
  refine zCl_i (M := kX11_text) rfl (Nat.le_of_ble_eq_true rfl) fun R hR => ?_
  iterate 17 refine hR (?_ : R (_, _, _, _, _, _))
  refine hR (And.intro (fun hc => absurd hc (by decide)) (fun _ => ?_))
  iterate 2 refine hR (?_ : R (_, _, _, _, _, _))
  refine hR (And.intro (fun _ => ?_) (fun hc => absurd (by decide) hc))
  iterate 4 refine hR (?_ : R (_, _, _, _, _, _))
  refine hR (And.intro (by unfold vp_in; decide) ?_)
  iterate 3 refine hR (?_ : R (_, _, _, _, _, _))
  refine hR (And.intro (fun hc => absurd (by decide) hc) (fun _ => ?_))
  iterate 2 refine hR (?_ : R (_, _, _, _, _, _))
  refine hR (And.intro (fun _ => ?_) (fun hc => absurd (by decide) hc))
  iterate 2 refine hR (?_ : R (_, _, _, _, _, _))
  refine hR (And.intro (fun hc => absurd (by decide) hc) (fun _ => ?_))
  iterate 7 refine hR (?_ : R (_, _, _, _, _, _))
  refine hR (zcall_i 5 56 (Nat.le_of_ble_eq_true rfl) (Nat.le_of_ble_eq_true rfl) (r_tellInto0 _ _ (fun _ _ _ _ _ => ?_)))
  refine hR (And.intro (fun _ => ?_) (fun hc => absurd hc (by decide)))
  iterate 9 refine hR (?_ : R (_, _, _, _, _, _))
  refine hR (And.intro (by unfold vp_in; decide) ?_)
  refine hR (?_ : R (_, _, _, _, _, _))
  exact hR (zret_i rfl (Nat.le_refl _) (trivial) (h _ _ _ _ _ _ _ _ _ _ _ _ _ _ _))
theorem r_text1 (d : Nat) (Q : zQ) (h : ∀ c0 c1 c2 c3 c4 c5 c6 c7 c8 c9 c10 c11 c12 c13 t, Q (some (.int 0)) (c0 :: c1 :: c2 :: c3 :: c4 :: c5 :: c6 :: c7 :: c8 :: c9 :: c10 :: c11 :: c12 :: c13 :: zMf t)) : zCl zTab (d + 5) iX11_text [.ref 0, .int 1, .int (-1)] (zCw (zMf [])) 4 124 Q := by
  refine zCl_i (M := kX11_text) rfl (Nat.le_of_ble_eq_true rfl) fun R hR => ?_
  iterate 17 refine hR (?_ : R (_, _, _, _, _, _))
  refine hR (And.intro (fun hc => absurd hc (by decide)) (fun _ => ?_))
  iterate 2 refine hR (?_ : R (_, _, _, _, _, _))
  refine hR (And.intro (fun _ => ?_) (fun hc => absurd (by decide) hc))
  iterate 4 refine hR (?_ : R (_, _, _, _, _, _))
  refine hR (And.intro (by unfold vp_in; decide) ?_)
  iterate 3 refine hR (?_ : R (_, _, _, _, _, _))
  refine hR (And.intro (fun hc => absurd (by decide) hc) (fun _ => ?_))
  iterate 2 refine hR (?_ : R (_, _, _, _, _, _))
  refine hR (And.intro (fun _ => ?_) (fun hc => absurd (by decide) hc))
  iterate 2 refine hR (?_ : R (_, _, _, _, _, _))
  refine hR (And.intro (fun hc => absurd (by decide) hc) (fun _ => ?_))
  iterate 7 refine hR (?_ : R (_, _, _, _, _, _))
  refine hR (zcall_i 4 124 (Nat.le_of_ble_eq_true rfl) (Nat.le_of_ble_eq_true rfl) (r_tellInto1 _ _ (fun _ _ _ _ _ => ?_)))
  refine hR (And.intro (fun _ => ?_) (fun hc => absurd hc (by decide)))
  iterate 9 refine hR (?_ : R (_, _, _, _, _, _))
  refine hR (And.intro (by unfold vp_in; decide) ?_)
  refine hR (?_ : R (_, _, _, _, _, _))
  exact hR (zret_i rfl (Nat.le_refl _) (trivial) (h _ _ _ _ _ _ _ _ _ _ _ _ _ _ _))
theorem r_text2 (d : Nat) (Q : zQ) (h : ∀ c0 c1 c2 c3 c4 c5 c6 c7 c8 c9 c10 c11 c12 c13 t, Q (some (.int 0)) (c0 :: c1 :: c2 :: c3 :: c4 :: c5 :: c6 :: c7 :: c8 :: c9 :: c10 :: c11 :: c12 :: c13 :: zMf t)) : zCl zTab (d + 5) iX11_text [.ref 0, .int 2, .int (-1)] (zCw (zMf [])) 3 15 Q := by
  refine zCl_i (M := kX11_text) rfl (Nat.le_of_ble_eq_true rfl) fun R hR => ?_
  iterate 17 refine hR (?_ : R (_, _, _, _, _, _))
  refine hR (And.intro (fun hc => absurd hc (by decide)) (fun _ => ?_))
  iterate 2 refine hR (?_ : R (_, _, _, _, _, _))
  refine hR (And.intro (fun _ => ?_) (fun hc => absurd (by decide) hc))
  iterate 4 refine hR (?_ : R (_, _, _, _, _, _))
  refine hR (And.intro (by unfold vp_in; decide) ?_)
  iterate 3 refine hR (?_ : R (_, _, _, _, _, _))
  refine hR (And.intro (fun hc => absurd (by decide) hc) (fun _ => ?_))
  iterate 2 refine hR (?_ : R (_, _, _, _, _, _))
  refine hR (And.intro (fun _ => ?_) (fun hc => absurd (by decide) hc))
  iterate 2 refine hR (?_ : R (_, _, _, _, _, _))
  refine hR (And.intro (fun hc => absurd (by decide) hc) (fun _ => ?_))
  iterate 7 refine hR (?_ : R (_, _, _, _, _, _))
  refine hR (zcall_i 3 15 (Nat.le_of_ble_eq_true rfl) (Nat.le_of_ble_eq_true rfl) (r_tellInto2 _ _ (fun _ _ _ _ _ => ?_)))
  refine hR (And.intro (fun _ => ?_) (fun hc => absurd hc (by decide)))
  iterate 9 refine hR (?_ : R (_, _, _, _, _, _))
  refine hR (And.intro (by unfold vp_in; decide) ?_)
  refine hR (?_ : R (_, _, _, _, _, _))
  exact hR (zret_i rfl (Nat.le_refl _) (trivial) (h _ _ _ _ _ _ _ _ _ _ _ _ _ _ _))
theorem r_textN (d : Nat) (n a : Int32) (hn : (n < 0 ∨ 3 ≤ n) ∨ ¬ a = -1) (Q : zQ) (h : ∀ c0 c1 c2 c3 c4 c5 c6 c7 c8 c9 c10 c11 c12 c13 t, Q (some (.int ((Int8.ofInt (-2)).toInt32))) (c0 :: c1 :: c2 :: c3 :: c4 :: c5 :: c6 :: c7 :: c8 :: c9 :: c10 :: c11 :: c12 :: c13 :: zMf t)) : zCl zTab (d + 5) iX11_text [.ref 0, .int n, .int a] (zCw (zMf [])) 0 0 Q := by
  refine zCl_i (M := kX11_text) rfl (Nat.le_of_ble_eq_true rfl) fun R hR => ?_
  iterate 17 refine hR (?_ : R (_, _, _, _, _, _))
  refine hR (And.intro (fun hc1 => ?_) (fun hc1 => ?_))
  · refine hR (?_ : R (_, _, _, _, _, _))
    exact hR (zret_i rfl (Nat.le_refl _) trivial (h _ _ _ _ _ _ _ _ _ _ _ _ _ _ _))
  iterate 2 refine hR (?_ : R (_, _, _, _, _, _))
  refine hR (And.intro (fun hc2 => ?_) (fun hc2 => ?_))
  · have ha : ¬ a = -1 := hn.resolve_left (fun z => z.elim hc1 (fun z => absurd hc2 (Int32.not_lt.mpr z)))
    iterate 4 refine hR (?_ : R (_, _, _, _, _, _))
    refine hR (And.intro ?_ ?_)
    · rcases z012 hc1 hc2 with rfl | rfl | rfl <;> (unfold vp_in; decide)
    iterate 3 refine hR (?_ : R (_, _, _, _, _, _))
    refine hR (And.intro (fun _ => ?_) (fun hc => absurd (hc.trans (by decide)) ha))
    refine hR (?_ : R (_, _, _, _, _, _))
    refine hR (And.intro (fun _ => ?_) (fun hc3 => ?_))
    · refine hR (?_ : R (_, _, _, _, _, _))
      exact hR (zret_i rfl (Nat.le_refl _) trivial (h _ _ _ _ _ _ _ _ _ _ _ _ _ _ _))
    iterate 2 refine hR (?_ : R (_, _, _, _, _, _))
    refine hR (And.intro (fun hc4 => absurd hc4 hc3) (fun _ => ?_))
    refine hR (?_ : R (_, _, _, _, _, _))
    exact hR (zret_i rfl (Nat.le_refl _) trivial (h _ _ _ _ _ _ _ _ _ _ _ _ _ _ _))
  · refine hR (?_ : R (_, _, _, _, _, _))
    exact hR (zret_i rfl (Nat.le_refl _) trivial (h _ _ _ _ _ _ _ _ _ _ _ _ _ _ _))
end
section
theorem z0i : Int32.ofInt 0 = 0 := by decide
theorem m_see {c0 c1 c2 c3 c4 c5 c6 c7 c8 c9 c10 c11 c12 c13 : va_E} {x0 x9 x10 x11 x12 x13 x15 x16 x17 x20 x21 x22 x23 x26 x28 x31 x32 x33 x38 x41 x44 : Int32} {x14 : Int64} {g15 g16 g17 g18 g19 g20 g21 g22 g23 g24 g25 g26 g27 g28 g29 g30 g31 g32 g33 g34 g35 g36 g37 g38 g39 g40 g41 g42 g43 g44 : Nat → Int32} {t : zW} (d : Nat) (Q : zQ) (hx : ¬ x9 < x10) (h : Q (some (.int (Int32.ofInt (-1)))) (zMg c0 c1 c2 c3 c4 c5 c6 c7 c8 c9 c10 c11 c12 c13 x0 x9 x10 x11 x12 x13 x15 x16 x17 x20 x21 x22 x23 x26 x28 x31 x32 x33 x38 x41 x44 x14 g15 g16 g17 g18 g19 g20 g21 g22 g23 g24 g25 g26 g27 g28 g29 g30 g31 g32 g33 g34 g35 g36 g37 g38 g39 g40 g41 g42 g43 g44 t)) : zCl zTab (d + 1) iX12_see [.ref 14] (zMg c0 c1 c2 c3 c4 c5 c6 c7 c8 c9 c10 c11 c12 c13 x0 x9 x10 x11 x12 x13 x15 x16 x17 x20 x21 x22 x23 x26 x28 x31 x32 x33 x38 x41 x44 x14 g15 g16 g17 g18 g19 g20 g21 g22 g23 g24 g25 g26 g27 g28 g29 g30 g31 g32 g33 g34 g35 g36 g37 g38 g39 g40 g41 g42 g43 g44 t) 0 0 Q := by
  refine zCl_i (M := kX12_see) rfl (Nat.le_of_ble_eq_true rfl) fun R hR => ?_
  iterate 4 refine hR (?_ : R (_, _, _, _, _, _))
  refine hR (And.intro (fun _ => ?_) (fun hc => absurd (Int32.not_lt.mp hx) hc))
  refine hR (?_ : R (_, _, _, _, _, _))
  exact hR (zret_i rfl (Nat.le_refl _) trivial h)
theorem m_token {c0 c1 c2 c3 c4 c5 c6 c7 c8 c9 c10 c11 c12 c13 : va_E} {x0 x9 x10 x11 x12 x13 x15 x16 x17 x20 x21 x22 x23 x26 x28 x31 x32 x33 x38 x41 x44 : Int32} {x14 : Int64} {g15 g16 g17 g18 g19 g20 g21 g22 g23 g24 g25 g26 g27 g28 g29 g30 g31 g32 g33 g34 g35 g36 g37 g38 g39 g40 g41 g42 g43 g44 : Nat → Int32} {t : zW} (d : Nat) (Q : zQ) (hx : ¬ x9 < x10) (h : ∀ y14, Q none (zMg c0 c1 c2 c3 c4 c5 c6 c7 c8 c9 c10 c11 c12 c13 x0 x9 x10 x9 (Int32.ofInt 0) x13 x15 x16 x17 x20 x21 x22 x23 x26 x28 x31 x32 x33 x38 x41 x44 y14 g15 g16 g17 g18 g19 g20 g21 g22 g23 g24 g25 g26 g27 g28 g29 g30 g31 g32 g33 g34 g35 g36 g37 g38 g39 g40 g41 g42 g43 g44 t)) : zCl zTab (d + 2) iX12_token [.ref 14] (zMg c0 c1 c2 c3 c4 c5 c6 c7 c8 c9 c10 c11 c12 c13 x0 x9 x10 x11 x12 x13 x15 x16 x17 x20 x21 x22 x23 x26 x28 x31 x32 x33 x38 x41 x44 x14 g15 g16 g17 g18 g19 g20 g21 g22 g23 g24 g25 g26 g27 g28 g29 g30 g31 g32 g33 g34 g35 g36 g37 g38 g39 g40 g41 g42 g43 g44 t) 0 0 Q := by
  refine zCl_i (M := kX12_token) rfl (Nat.le_of_ble_eq_true rfl) fun R hR => ?_
  refine hR (?_ : R (_, _, _, _, _, _))
  refine hR (zcall_i 0 0 (Nat.le_of_ble_eq_true rfl) (Nat.le_of_ble_eq_true rfl) (m_see _ _ hx ?_))
  refine hR (?_ : R (_, _, _, _, _, _))
  refine hR (And.intro (fun hc => absurd hc (by decide)) (fun _ => ?_))
  refine hR (?_ : R (_, _, _, _, _, _))
  refine hR (zcall_i 0 0 (Nat.le_of_ble_eq_true rfl) (Nat.le_of_ble_eq_true rfl) (m_see _ _ hx ?_))
  refine hR (?_ : R (_, _, _, _, _, _))
  refine hR (And.intro (fun _ => ?_) (fun hc => absurd hc (by decide)))
  iterate 5 refine hR (?_ : R (_, _, _, _, _, _))
  refine hR (zcall_i 0 0 (Nat.le_of_ble_eq_true rfl) (Nat.le_of_ble_eq_true rfl) (m_see _ _ hx ?_))
  iterate 7 refine hR (?_ : R (_, _, _, _, _, _))
  refine hR (And.intro (fun hc => absurd hc (by decide)) (fun _ => ?_))
  iterate 4 refine hR (?_ : R (_, _, _, _, _, _))
  exact hR (zret_i rfl (Nat.le_refl _) (rfl) (h _))
theorem m_lines {c0 c1 c2 c3 c4 c5 c6 c7 c8 c9 c10 c11 c12 c13 : va_E} {x0 x9 x10 x11 x13 x15 x16 x17 x20 x21 x22 x23 x26 x28 x31 x32 x33 x38 x41 x44 : Int32} {x14 : Int64} {g15 g16 g17 g18 g19 g20 g21 g22 g23 g24 g25 g26 g27 g28 g29 g30 g31 g32 g33 g34 g35 g36 g37 g38 g39 g40 g41 g42 g43 g44 : Nat → Int32} {t : zW} (d : Nat) (s : Int32) (Q : zQ) (h : Q (some (.int (Int32.ofInt 1))) (zMg c0 c1 c2 c3 c4 c5 c6 c7 c8 c9 c10 c11 c12 c13 x0 x9 x10 x11 (Int32.ofInt 0) x13 x15 x16 x17 x20 x21 x22 x23 x26 x28 x31 x32 x33 x38 x41 x44 x14 g15 g16 g17 g18 g19 g20 g21 g22 g23 g24 g25 g26 g27 g28 g29 g30 g31 g32 g33 g34 g35 g36 g37 g38 g39 g40 g41 g42 g43 g44 t)) : zCl zTab (d + 1) iX12_lines [.ref 14, .int s] (zMg c0 c1 c2 c3 c4 c5 c6 c7 c8 c9 c10 c11 c12 c13 x0 x9 x10 x11 (Int32.ofInt 0) x13 x15 x16 x17 x20 x21 x22 x23 x26 x28 x31 x32 x33 x38 x41 x44 x14 g15 g16 g17 g18 g19 g20 g21 g22 g23 g24 g25 g26 g27 g28 g29 g30 g31 g32 g33 g34 g35 g36 g37 g38 g39 g40 g41 g42 g43 g44 t) 0 0 Q := by
  refine zCl_i (M := kX12_lines) rfl (Nat.le_of_ble_eq_true rfl) fun R hR => ?_
  iterate 3 refine hR (?_ : R (_, _, _, _, _, _))
  refine hR (And.intro (fun hc => absurd hc (by decide)) (fun _ => ?_))
  iterate 2 refine hR (?_ : R (_, _, _, _, _, _))
  refine hR (And.intro (fun _ => ?_) (fun hc => absurd (by decide) hc))
  refine hR (?_ : R (_, _, _, _, _, _))
  exact hR (zret_i rfl (Nat.le_refl _) (Or.inr rfl) (h))
theorem m_readText {c0 c1 c2 c3 c4 c5 c6 c7 c8 c9 c10 c11 c12 c13 : va_E} {x0 x9 x10 x11 x12 x13 x15 x16 x17 x20 x21 x22 x23 x26 x28 x31 x32 x33 x38 x41 x44 : Int32} {x14 : Int64} {g15 g16 g17 g18 g19 g20 g21 g22 g23 g24 g25 g26 g27 g28 g29 g30 g31 g32 g33 g34 g35 g36 g37 g38 g39 g40 g41 g42 g43 g44 : Nat → Int32} {t : zW} (d : Nat) (s : Int32) (Q : zQ) (hx : ¬ Int32.ofInt 0 < x10) (h : ∀ f17 f18 f23 y9 y11 y12 y14 y16, Q (some (.int (Int32.ofInt 1))) (zMg c0 c1 c2 c3 c4 c5 c6 c7 c8 c9 c10 c11 c12 c13 x0 y9 x10 y11 y12 x13 x15 y16 x17 x20 x21 x22 x23 x26 x28 x31 x32 x33 x38 x41 x44 y14 g15 g16 f17 f18 g19 g20 g21 g22 f23 g24 g25 g26 g27 g28 g29 g30 g31 g32 g33 g34 g35 g36 g37 g38 g39 g40 g41 g42 g43 g44 t)) : zCl zTab (d + 3) iX12_readText [.ref 14, .int s] (zMg c0 c1 c2 c3 c4 c5 c6 c7 c8 c9 c10 c11 c12 c13 x0 x9 x10 x11 x12 x13 x15 x16 x17 x20 x21 x22 x23 x26 x28 x31 x32 x33 x38 x41 x44 x14 g15 g16 g17 g18 g19 g20 g21 g22 g23 g24 g25 g26 g27 g28 g29 g30 g31 g32 g33 g34 g35 g36 g37 g38 g39 g40 g41 g42 g43 g44 t) 0 0 Q := by
  refine zCl_i (M := kX12_readText) rfl (Nat.le_of_ble_eq_true rfl) fun R hR => ?_
  have e121 : (Int8.ofInt 121).toInt32.toInt = 121 := by decide
  have loop : ∀ (m : Nat) (i : Int32) (f : Nat → Int32), 0 ≤ i.toInt → i.toInt + m = 121 → R (2, [some (.ref 14), some (.int s), some (.int i)], [], (zMg c0 c1 c2 c3 c4 c5 c6 c7 c8 c9 c10 c11 c12 c13 x0 x9 x10 x11 x12 x13 x15 x16 x17 x20 x21 x22 x23 x26 x28 x31 x32 x33 x38 x41 x44 x14 g15 g16 g17 g18 g19 g20 g21 g22 f g24 g25 g26 g27 g28 g29 g30 g31 g32 g33 g34 g35 g36 g37 g38 g39 g40 g41 g42 g43 g44 t), 0, 0) := by
    intro m
    induction m with
    | zero =>
      intro i f h0 h1
      iterate 2 refine hR (?_ : R (_, _, _, _, _, _))
      refine hR (And.intro (fun _ => ?_) (fun hc => absurd (zle_i.mpr (by omega)) hc))
      iterate 7 refine hR (?_ : R (_, _, _, _, _, _))
      refine hR (zcall_i 0 0 (Nat.le_of_ble_eq_true rfl) (Nat.le_of_ble_eq_true rfl) (m_token _ _ hx (fun y14 => ?_)))
      iterate 2 refine hR (?_ : R (_, _, _, _, _, _))
      refine hR (zcall_i 0 0 (Nat.le_of_ble_eq_true rfl) (Nat.le_of_ble_eq_true rfl) (m_lines _ _ _ ?_))
      iterate 5 refine hR (?_ : R (_, _, _, _, _, _))
      refine hR (And.intro (fun hc => absurd hc (by decide)) (fun _ => ?_))
      iterate 3 refine hR (?_ : R (_, _, _, _, _, _))
      refine hR (And.intro (by unfold vp_in; decide) ?_)
      iterate 4 refine hR (?_ : R (_, _, _, _, _, _))
      refine hR (And.intro (fun _ => ?_) (fun hc => absurd hc (by decide)))
      iterate 2 refine hR (?_ : R (_, _, _, _, _, _))
      refine hR (And.intro (fun _ => ?_) (fun hc => absurd (by decide) hc))
      refine hR (?_ : R (_, _, _, _, _, _))
      refine hR (And.intro (by unfold vp_in; decide) ?_)
      iterate 3 refine hR (?_ : R (_, _, _, _, _, _))
      refine hR (And.intro (by unfold vp_in; decide) ?_)
      refine hR (And.intro (fun hc => absurd (show upd g17 (Int32.ofInt 0).toNatClampNeg (Int32.ofInt 0) (Int32.ofInt 0).toNatClampNeg = 0 from z0i) hc) (fun _ => ?_))
      iterate 2 refine hR (?_ : R (_, _, _, _, _, _))
      exact hR (zret_i rfl (Nat.le_refl _) (Or.inr rfl) (h _ _ _ _ _ _ _ _))
    | succ m ih =>
      intro i f h0 h1
      have b3 := zinc (i := i) h0 (by omega)
      have hv : vp_in i 121 := zin_of h0 (by omega)
      iterate 2 refine hR (?_ : R (_, _, _, _, _, _))
      refine hR (And.intro (fun hc => absurd (zle_i.mp hc) (by omega)) (fun _ => ?_))
      iterate 4 refine hR (?_ : R (_, _, _, _, _, _))
      refine hR (And.intro (fun _ => ?_) (fun _ => ?_))
      · refine hR (?_ : R (_, _, _, _, _, _))
        refine hR (And.intro hv ?_)
        iterate 2 refine hR (?_ : R (_, _, _, _, _, _))
        exact ih (i + Int32.ofInt 1) _ (by omega) (by omega)
      iterate 3 refine hR (?_ : R (_, _, _, _, _, _))
      refine hR (zcall_i 0 0 (Nat.le_of_ble_eq_true rfl) (Nat.le_of_ble_eq_true rfl) (m_in _ _ _ _ _ _ (fun _ _ => ?_) (fun _ => ?_)))
      · refine hR (And.intro (fun hc => absurd hc (by decide)) (fun _ => ?_))
        iterate 4 refine hR (?_ : R (_, _, _, _, _, _))
        refine hR (And.intro hv ?_)
        iterate 2 refine hR (?_ : R (_, _, _, _, _, _))
        exact ih (i + Int32.ofInt 1) _ (by omega) (by omega)
      · refine hR (And.intro (fun _ => ?_) (fun hc => absurd (by decide) hc))
        refine hR (?_ : R (_, _, _, _, _, _))
        refine hR (And.intro hv ?_)
        iterate 2 refine hR (?_ : R (_, _, _, _, _, _))
        exact ih (i + Int32.ofInt 1) _ (by omega) (by omega)
  iterate 2 refine hR (?_ : R (_, _, _, _, _, _))
  exact loop 121 (Int32.ofInt 0) g23 (by decide) (by decide)
theorem m_store20 {c0 c1 c2 c3 c4 c5 c6 c7 c8 c9 c10 c11 c12 c13 : va_E} {x0 x9 x10 x11 x12 x13 x15 x16 x17 x20 x21 x22 x23 x26 x28 x31 x32 x33 x38 x41 x44 : Int32} {x14 : Int64} {g15 g16 g17 g18 g19 g20 g21 g22 g23 g24 g25 g26 g27 g28 g29 g30 g31 g32 g33 g34 g35 g36 g37 g38 g39 g40 g41 g42 g43 g44 : Nat → Int32} {t : zW} (d : Nat) (n k : Int32) (Q : zQ) (hn : n.toInt = 51) (hk0 : 0 ≤ k.toInt) (hk : k.toInt ≤ 3) (h : ∀ f, Q none (zMg c0 c1 c2 c3 c4 c5 c6 c7 c8 c9 c10 c11 c12 c13 x0 x9 x10 x11 x12 x13 x15 x16 x17 x20 x21 x22 x23 x26 x28 x31 x32 x33 x38 x41 x44 x14 g15 g16 g17 g18 g19 f g21 g22 g23 g24 g25 g26 g27 g28 g29 g30 g31 g32 g33 g34 g35 g36 g37 g38 g39 g40 g41 g42 g43 g44 t)) : zCl zTab (d + 1) iX12_store [.ref 14, .ref 20, .int n, .int k] (zMg c0 c1 c2 c3 c4 c5 c6 c7 c8 c9 c10 c11 c12 c13 x0 x9 x10 x11 x12 x13 x15 x16 x17 x20 x21 x22 x23 x26 x28 x31 x32 x33 x38 x41 x44 x14 g15 g16 g17 g18 g19 g20 g21 g22 g23 g24 g25 g26 g27 g28 g29 g30 g31 g32 g33 g34 g35 g36 g37 g38 g39 g40 g41 g42 g43 g44 t) 0 0 Q := by
  refine zCl_i (M := kX12_store) rfl (Nat.le_of_ble_eq_true rfl) fun R hR => ?_
  have loop : ∀ (m : Nat) (i : Int32) (f : Nat → Int32), 0 ≤ i.toInt → i.toInt + m = 51 → R (3, [some (.ref 14), some (.ref 20), some (.int n), some (.int k), some (.int i)], [], (zMg c0 c1 c2 c3 c4 c5 c6 c7 c8 c9 c10 c11 c12 c13 x0 x9 x10 x11 x12 x13 x15 x16 x17 x20 x21 x22 x23 x26 x28 x31 x32 x33 x38 x41 x44 x14 g15 g16 g17 g18 g19 f g21 g22 g23 g24 g25 g26 g27 g28 g29 g30 g31 g32 g33 g34 g35 g36 g37 g38 g39 g40 g41 g42 g43 g44 t), 0, 0) := by
    intro m
    induction m with
    | zero =>
      intro i f h0 h1
      iterate 2 refine hR (?_ : R (_, _, _, _, _, _))
      refine hR (And.intro (fun _ => ?_) (fun hc => absurd (zle_i.mpr (by omega)) hc))
      exact hR (zret_i rfl (Nat.le_refl _) rfl (h _))
    | succ m ih =>
      intro i f h0 h1
      have b1 := zidx (n := n) (t := k) (i := i) hn (by omega) (by omega) hk0 hk h0 (by omega)
      have b3 := zinc (i := i) h0 (by omega)
      iterate 2 refine hR (?_ : R (_, _, _, _, _, _))
      refine hR (And.intro (fun hc => absurd (zle_i.mp hc) (by omega)) (fun _ => ?_))
      iterate 9 refine hR (?_ : R (_, _, _, _, _, _))
      refine hR (And.intro (zin_of h0 (by omega)) ?_)
      refine hR (And.intro (zin_of b1.1 (by omega)) ?_)
      iterate 2 refine hR (?_ : R (_, _, _, _, _, _))
      exact ih (i + Int32.ofInt 1) _ (by omega) (by omega)
  iterate 2 refine hR (?_ : R (_, _, _, _, _, _))
  exact loop 51 (Int32.ofInt 0) g20 (by decide) (by decide)
theorem m_store21 {c0 c1 c2 c3 c4 c5 c6 c7 c8 c9 c10 c11 c12 c13 : va_E} {x0 x9 x10 x11 x12 x13 x15 x16 x17 x20 x21 x22 x23 x26 x28 x31 x32 x33 x38 x41 x44 : Int32} {x14 : Int64} {g15 g16 g17 g18 g19 g20 g21 g22 g23 g24 g25 g26 g27 g28 g29 g30 g31 g32 g33 g34 g35 g36 g37 g38 g39 g40 g41 g42 g43 g44 : Nat → Int32} {t : zW} (d : Nat) (n k : Int32) (Q : zQ) (hn : n.toInt = 121) (hk0 : 0 ≤ k.toInt) (hk : k.toInt ≤ 3) (h : ∀ f, Q none (zMg c0 c1 c2 c3 c4 c5 c6 c7 c8 c9 c10 c11 c12 c13 x0 x9 x10 x11 x12 x13 x15 x16 x17 x20 x21 x22 x23 x26 x28 x31 x32 x33 x38 x41 x44 x14 g15 g16 g17 g18 g19 g20 f g22 g23 g24 g25 g26 g27 g28 g29 g30 g31 g32 g33 g34 g35 g36 g37 g38 g39 g40 g41 g42 g43 g44 t)) : zCl zTab (d + 1) iX12_store [.ref 14, .ref 21, .int n, .int k] (zMg c0 c1 c2 c3 c4 c5 c6 c7 c8 c9 c10 c11 c12 c13 x0 x9 x10 x11 x12 x13 x15 x16 x17 x20 x21 x22 x23 x26 x28 x31 x32 x33 x38 x41 x44 x14 g15 g16 g17 g18 g19 g20 g21 g22 g23 g24 g25 g26 g27 g28 g29 g30 g31 g32 g33 g34 g35 g36 g37 g38 g39 g40 g41 g42 g43 g44 t) 0 0 Q := by
  refine zCl_i (M := kX12_store) rfl (Nat.le_of_ble_eq_true rfl) fun R hR => ?_
  have loop : ∀ (m : Nat) (i : Int32) (f : Nat → Int32), 0 ≤ i.toInt → i.toInt + m = 121 → R (3, [some (.ref 14), some (.ref 21), some (.int n), some (.int k), some (.int i)], [], (zMg c0 c1 c2 c3 c4 c5 c6 c7 c8 c9 c10 c11 c12 c13 x0 x9 x10 x11 x12 x13 x15 x16 x17 x20 x21 x22 x23 x26 x28 x31 x32 x33 x38 x41 x44 x14 g15 g16 g17 g18 g19 g20 f g22 g23 g24 g25 g26 g27 g28 g29 g30 g31 g32 g33 g34 g35 g36 g37 g38 g39 g40 g41 g42 g43 g44 t), 0, 0) := by
    intro m
    induction m with
    | zero =>
      intro i f h0 h1
      iterate 2 refine hR (?_ : R (_, _, _, _, _, _))
      refine hR (And.intro (fun _ => ?_) (fun hc => absurd (zle_i.mpr (by omega)) hc))
      exact hR (zret_i rfl (Nat.le_refl _) rfl (h _))
    | succ m ih =>
      intro i f h0 h1
      have b1 := zidx (n := n) (t := k) (i := i) hn (by omega) (by omega) hk0 hk h0 (by omega)
      have b3 := zinc (i := i) h0 (by omega)
      iterate 2 refine hR (?_ : R (_, _, _, _, _, _))
      refine hR (And.intro (fun hc => absurd (zle_i.mp hc) (by omega)) (fun _ => ?_))
      iterate 9 refine hR (?_ : R (_, _, _, _, _, _))
      refine hR (And.intro (zin_of h0 (by omega)) ?_)
      refine hR (And.intro (zin_of b1.1 (by omega)) ?_)
      iterate 2 refine hR (?_ : R (_, _, _, _, _, _))
      exact ih (i + Int32.ofInt 1) _ (by omega) (by omega)
  iterate 2 refine hR (?_ : R (_, _, _, _, _, _))
  exact loop 121 (Int32.ofInt 0) g21 (by decide) (by decide)
theorem m_store22 {c0 c1 c2 c3 c4 c5 c6 c7 c8 c9 c10 c11 c12 c13 : va_E} {x0 x9 x10 x11 x12 x13 x15 x16 x17 x20 x21 x22 x23 x26 x28 x31 x32 x33 x38 x41 x44 : Int32} {x14 : Int64} {g15 g16 g17 g18 g19 g20 g21 g22 g23 g24 g25 g26 g27 g28 g29 g30 g31 g32 g33 g34 g35 g36 g37 g38 g39 g40 g41 g42 g43 g44 : Nat → Int32} {t : zW} (d : Nat) (n k : Int32) (Q : zQ) (hn : n.toInt = 13) (hk0 : 0 ≤ k.toInt) (hk : k.toInt ≤ 3) (h : ∀ f, Q none (zMg c0 c1 c2 c3 c4 c5 c6 c7 c8 c9 c10 c11 c12 c13 x0 x9 x10 x11 x12 x13 x15 x16 x17 x20 x21 x22 x23 x26 x28 x31 x32 x33 x38 x41 x44 x14 g15 g16 g17 g18 g19 g20 g21 f g23 g24 g25 g26 g27 g28 g29 g30 g31 g32 g33 g34 g35 g36 g37 g38 g39 g40 g41 g42 g43 g44 t)) : zCl zTab (d + 1) iX12_store [.ref 14, .ref 22, .int n, .int k] (zMg c0 c1 c2 c3 c4 c5 c6 c7 c8 c9 c10 c11 c12 c13 x0 x9 x10 x11 x12 x13 x15 x16 x17 x20 x21 x22 x23 x26 x28 x31 x32 x33 x38 x41 x44 x14 g15 g16 g17 g18 g19 g20 g21 g22 g23 g24 g25 g26 g27 g28 g29 g30 g31 g32 g33 g34 g35 g36 g37 g38 g39 g40 g41 g42 g43 g44 t) 0 0 Q := by
  refine zCl_i (M := kX12_store) rfl (Nat.le_of_ble_eq_true rfl) fun R hR => ?_
  have loop : ∀ (m : Nat) (i : Int32) (f : Nat → Int32), 0 ≤ i.toInt → i.toInt + m = 13 → R (3, [some (.ref 14), some (.ref 22), some (.int n), some (.int k), some (.int i)], [], (zMg c0 c1 c2 c3 c4 c5 c6 c7 c8 c9 c10 c11 c12 c13 x0 x9 x10 x11 x12 x13 x15 x16 x17 x20 x21 x22 x23 x26 x28 x31 x32 x33 x38 x41 x44 x14 g15 g16 g17 g18 g19 g20 g21 f g23 g24 g25 g26 g27 g28 g29 g30 g31 g32 g33 g34 g35 g36 g37 g38 g39 g40 g41 g42 g43 g44 t), 0, 0) := by
    intro m
    induction m with
    | zero =>
      intro i f h0 h1
      iterate 2 refine hR (?_ : R (_, _, _, _, _, _))
      refine hR (And.intro (fun _ => ?_) (fun hc => absurd (zle_i.mpr (by omega)) hc))
      exact hR (zret_i rfl (Nat.le_refl _) rfl (h _))
    | succ m ih =>
      intro i f h0 h1
      have b1 := zidx (n := n) (t := k) (i := i) hn (by omega) (by omega) hk0 hk h0 (by omega)
      have b3 := zinc (i := i) h0 (by omega)
      iterate 2 refine hR (?_ : R (_, _, _, _, _, _))
      refine hR (And.intro (fun hc => absurd (zle_i.mp hc) (by omega)) (fun _ => ?_))
      iterate 9 refine hR (?_ : R (_, _, _, _, _, _))
      refine hR (And.intro (zin_of h0 (by omega)) ?_)
      refine hR (And.intro (zin_of b1.1 (by omega)) ?_)
      iterate 2 refine hR (?_ : R (_, _, _, _, _, _))
      exact ih (i + Int32.ofInt 1) _ (by omega) (by omega)
  iterate 2 refine hR (?_ : R (_, _, _, _, _, _))
  exact loop 13 (Int32.ofInt 0) g22 (by decide) (by decide)
end
section
theorem m_text0 {c0 c1 c2 c3 c4 c5 c6 c7 c8 c9 c10 c11 c12 c13 : va_E} {t : zW} (d : Nat) (Q : zQ) (h : ∀ w, Q (some (.int 0)) w) : zCl zTab (d + 4) iX12_text [.ref 14, .int 0, .int (-1)] (c0 :: c1 :: c2 :: c3 :: c4 :: c5 :: c6 :: c7 :: c8 :: c9 :: c10 :: c11 :: c12 :: c13 :: zMf t) 0 0 Q := by
  refine zCl_i (M := kX12_text) rfl (Nat.le_of_ble_eq_true rfl) fun R hR => ?_
  iterate 7 refine hR (?_ : R (_, _, _, _, _, _))
  refine hR (And.intro (by unfold vp_in; decide) ?_)
  iterate 5 refine hR (?_ : R (_, _, _, _, _, _))
  refine hR (And.intro (by unfold vp_in; decide) ?_)
  iterate 4 refine hR (?_ : R (_, _, _, _, _, _))
  refine hR (And.intro (by unfold vp_in; decide) ?_)
  iterate 4 refine hR (?_ : R (_, _, _, _, _, _))
  refine hR (And.intro (by unfold vp_in; decide) ?_)
  iterate 3 refine hR (?_ : R (_, _, _, _, _, _))
  refine hR (zcall_i 0 0 (Nat.le_of_ble_eq_true rfl) (Nat.le_of_ble_eq_true rfl) (m_in _ _ _ _ _ _ (fun _ _ => ?_) (fun q => absurd q (by decide))))
  refine hR (And.intro (fun hc => absurd hc (by decide)) (fun _ => ?_))
  iterate 2 refine hR (?_ : R (_, _, _, _, _, _))
  refine hR (And.intro (fun hc => absurd (by decide) hc) (fun _ => ?_))
  iterate 3 refine hR (?_ : R (_, _, _, _, _, _))
  refine hR (And.intro (by unfold vp_in; decide) ?_)
  refine hR (?_ : R (_, _, _, _, _, _))
  refine hR (And.intro (fun _ => ?_) (fun hc => absurd hc (by decide)))
  iterate 2 refine hR (?_ : R (_, _, _, _, _, _))
  refine hR (zcall_i 0 0 (Nat.le_of_ble_eq_true rfl) (Nat.le_of_ble_eq_true rfl) (m_readText _ _ _ (by decide) (fun _ _ _ _ _ _ _ _ => ?_)))
  refine hR (And.intro (fun _ => ?_) (fun hc => absurd hc (by decide)))
  iterate 2 refine hR (?_ : R (_, _, _, _, _, _))
  refine hR (And.intro (fun hc => absurd (by decide) hc) (fun _ => ?_))
  iterate 3 refine hR (?_ : R (_, _, _, _, _, _))
  refine hR (And.intro (by unfold vp_in; decide) ?_)
  iterate 6 refine hR (?_ : R (_, _, _, _, _, _))
  refine hR (And.intro (by unfold vp_in; decide) ?_)
  iterate 2 refine hR (?_ : R (_, _, _, _, _, _))
  refine hR (And.intro (fun hc => absurd (by decide) hc) (fun _ => ?_))
  iterate 3 refine hR (?_ : R (_, _, _, _, _, _))
  refine hR (And.intro (by unfold vp_in; decide) ?_)
  refine hR (?_ : R (_, _, _, _, _, _))
  refine hR (And.intro (fun hc => absurd (by decide) hc) (fun _ => ?_))
  iterate 5 refine hR (?_ : R (_, _, _, _, _, _))
  refine hR (zcall_i 0 0 (Nat.le_of_ble_eq_true rfl) (Nat.le_of_ble_eq_true rfl) (m_store20 _ _ _ _ (by decide) (by decide) (by decide) (fun _ => ?_)))
  iterate 5 refine hR (?_ : R (_, _, _, _, _, _))
  exact hR (zret_i rfl (Nat.le_refl _) (trivial) (h _))
theorem m_text1 {c0 c1 c2 c3 c4 c5 c6 c7 c8 c9 c10 c11 c12 c13 : va_E} {t : zW} (d : Nat) (Q : zQ) (h : ∀ w, Q (some (.int 0)) w) : zCl zTab (d + 4) iX12_text [.ref 14, .int 1, .int (-1)] (c0 :: c1 :: c2 :: c3 :: c4 :: c5 :: c6 :: c7 :: c8 :: c9 :: c10 :: c11 :: c12 :: c13 :: zMf t) 0 0 Q := by
  refine zCl_i (M := kX12_text) rfl (Nat.le_of_ble_eq_true rfl) fun R hR => ?_
  iterate 7 refine hR (?_ : R (_, _, _, _, _, _))
  refine hR (And.intro (by unfold vp_in; decide) ?_)
  iterate 5 refine hR (?_ : R (_, _, _, _, _, _))
  refine hR (And.intro (by unfold vp_in; decide) ?_)
  iterate 4 refine hR (?_ : R (_, _, _, _, _, _))
  refine hR (And.intro (by unfold vp_in; decide) ?_)
  iterate 4 refine hR (?_ : R (_, _, _, _, _, _))
  refine hR (And.intro (by unfold vp_in; decide) ?_)
  iterate 3 refine hR (?_ : R (_, _, _, _, _, _))
  refine hR (zcall_i 0 0 (Nat.le_of_ble_eq_true rfl) (Nat.le_of_ble_eq_true rfl) (m_in _ _ _ _ _ _ (fun _ _ => ?_) (fun q => absurd q (by decide))))
  refine hR (And.intro (fun hc => absurd hc (by decide)) (fun _ => ?_))
  iterate 2 refine hR (?_ : R (_, _, _, _, _, _))
  refine hR (And.intro (fun hc => absurd (by decide) hc) (fun _ => ?_))
  iterate 3 refine hR (?_ : R (_, _, _, _, _, _))
  refine hR (And.intro (by unfold vp_in; decide) ?_)
  refine hR (?_ : R (_, _, _, _, _, _))
  refine hR (And.intro (fun _ => ?_) (fun hc => absurd hc (by decide)))
  iterate 2 refine hR (?_ : R (_, _, _, _, _, _))
  refine hR (zcall_i 0 0 (Nat.le_of_ble_eq_true rfl) (Nat.le_of_ble_eq_true rfl) (m_readText _ _ _ (by decide) (fun _ _ _ _ _ _ _ _ => ?_)))
  refine hR (And.intro (fun _ => ?_) (fun hc => absurd hc (by decide)))
  iterate 2 refine hR (?_ : R (_, _, _, _, _, _))
  refine hR (And.intro (fun hc => absurd (by decide) hc) (fun _ => ?_))
  iterate 3 refine hR (?_ : R (_, _, _, _, _, _))
  refine hR (And.intro (by unfold vp_in; decide) ?_)
  iterate 6 refine hR (?_ : R (_, _, _, _, _, _))
  refine hR (And.intro (by unfold vp_in; decide) ?_)
  iterate 2 refine hR (?_ : R (_, _, _, _, _, _))
  refine hR (And.intro (fun hc => absurd (by decide) hc) (fun _ => ?_))
  iterate 3 refine hR (?_ : R (_, _, _, _, _, _))
  refine hR (And.intro (by unfold vp_in; decide) ?_)
  refine hR (?_ : R (_, _, _, _, _, _))
  refine hR (And.intro (fun _ => ?_) (fun hc => absurd hc (by decide)))
  iterate 2 refine hR (?_ : R (_, _, _, _, _, _))
  refine hR (And.intro (fun hc => absurd (by decide) hc) (fun _ => ?_))
  iterate 5 refine hR (?_ : R (_, _, _, _, _, _))
  refine hR (zcall_i 0 0 (Nat.le_of_ble_eq_true rfl) (Nat.le_of_ble_eq_true rfl) (m_store21 _ _ _ _ (by decide) (by decide) (by decide) (fun _ => ?_)))
  iterate 2 refine hR (?_ : R (_, _, _, _, _, _))
  exact hR (zret_i rfl (Nat.le_refl _) (trivial) (h _))
theorem m_text2 {c0 c1 c2 c3 c4 c5 c6 c7 c8 c9 c10 c11 c12 c13 : va_E} {t : zW} (d : Nat) (Q : zQ) (h : ∀ w, Q (some (.int 0)) w) : zCl zTab (d + 4) iX12_text [.ref 14, .int 2, .int (-1)] (c0 :: c1 :: c2 :: c3 :: c4 :: c5 :: c6 :: c7 :: c8 :: c9 :: c10 :: c11 :: c12 :: c13 :: zMf t) 0 0 Q := by
  refine zCl_i (M := kX12_text) rfl (Nat.le_of_ble_eq_true rfl) fun R hR => ?_
  iterate 7 refine hR (?_ : R (_, _, _, _, _, _))
  refine hR (And.intro (by unfold vp_in; decide) ?_)
  iterate 5 refine hR (?_ : R (_, _, _, _, _, _))
  refine hR (And.intro (by unfold vp_in; decide) ?_)
  iterate 4 refine hR (?_ : R (_, _, _, _, _, _))
  refine hR (And.intro (by unfold vp_in; decide) ?_)
  iterate 4 refine hR (?_ : R (_, _, _, _, _, _))
  refine hR (And.intro (by unfold vp_in; decide) ?_)
  iterate 3 refine hR (?_ : R (_, _, _, _, _, _))
  refine hR (zcall_i 0 0 (Nat.le_of_ble_eq_true rfl) (Nat.le_of_ble_eq_true rfl) (m_in _ _ _ _ _ _ (fun _ _ => ?_) (fun q => absurd q (by decide))))
  refine hR (And.intro (fun hc => absurd hc (by decide)) (fun _ => ?_))
  iterate 2 refine hR (?_ : R (_, _, _, _, _, _))
  refine hR (And.intro (fun hc => absurd (by decide) hc) (fun _ => ?_))
  iterate 3 refine hR (?_ : R (_, _, _, _, _, _))
  refine hR (And.intro (by unfold vp_in; decide) ?_)
  refine hR (?_ : R (_, _, _, _, _, _))
  refine hR (And.intro (fun _ => ?_) (fun hc => absurd hc (by decide)))
  iterate 2 refine hR (?_ : R (_, _, _, _, _, _))
  refine hR (zcall_i 0 0 (Nat.le_of_ble_eq_true rfl) (Nat.le_of_ble_eq_true rfl) (m_readText _ _ _ (by decide) (fun _ _ _ _ _ _ _ _ => ?_)))
  refine hR (And.intro (fun _ => ?_) (fun hc => absurd hc (by decide)))
  iterate 2 refine hR (?_ : R (_, _, _, _, _, _))
  refine hR (And.intro (fun hc => absurd (by decide) hc) (fun _ => ?_))
  iterate 3 refine hR (?_ : R (_, _, _, _, _, _))
  refine hR (And.intro (by unfold vp_in; decide) ?_)
  iterate 6 refine hR (?_ : R (_, _, _, _, _, _))
  refine hR (And.intro (by unfold vp_in; decide) ?_)
  iterate 2 refine hR (?_ : R (_, _, _, _, _, _))
  refine hR (And.intro (fun hc => absurd (by decide) hc) (fun _ => ?_))
  iterate 3 refine hR (?_ : R (_, _, _, _, _, _))
  refine hR (And.intro (by unfold vp_in; decide) ?_)
  refine hR (?_ : R (_, _, _, _, _, _))
  refine hR (And.intro (fun _ => ?_) (fun hc => absurd hc (by decide)))
  iterate 2 refine hR (?_ : R (_, _, _, _, _, _))
  refine hR (And.intro (fun _ => ?_) (fun hc => absurd hc (by decide)))
  iterate 5 refine hR (?_ : R (_, _, _, _, _, _))
  refine hR (zcall_i 0 0 (Nat.le_of_ble_eq_true rfl) (Nat.le_of_ble_eq_true rfl) (m_store22 _ _ _ _ (by decide) (by decide) (by decide) (fun _ => ?_)))
  refine hR (?_ : R (_, _, _, _, _, _))
  exact hR (zret_i rfl (Nat.le_refl _) (trivial) (h _))
theorem m_textN {c0 c1 c2 c3 c4 c5 c6 c7 c8 c9 c10 c11 c12 c13 : va_E} {t : zW} (d : Nat) (n a : Int32) (hn : (n < 0 ∨ 3 ≤ n) ∨ ¬ a = -1) (Q : zQ) (h : ∀ w, Q (some (.int (Int8.ofInt (-2)).toInt32)) w) : zCl zTab (d + 4) iX12_text [.ref 14, .int n, .int a] (c0 :: c1 :: c2 :: c3 :: c4 :: c5 :: c6 :: c7 :: c8 :: c9 :: c10 :: c11 :: c12 :: c13 :: zMf t) 0 0 Q := by
  refine zCl_i (M := kX12_text) rfl (Nat.le_of_ble_eq_true rfl) fun R hR => ?_
  iterate 7 refine hR (?_ : R (_, _, _, _, _, _))
  refine hR (And.intro (by unfold vp_in; decide) ?_)
  iterate 5 refine hR (?_ : R (_, _, _, _, _, _))
  refine hR (And.intro (by unfold vp_in; decide) ?_)
  iterate 4 refine hR (?_ : R (_, _, _, _, _, _))
  refine hR (And.intro (by unfold vp_in; decide) ?_)
  iterate 4 refine hR (?_ : R (_, _, _, _, _, _))
  refine hR (And.intro (by unfold vp_in; decide) ?_)
  iterate 3 refine hR (?_ : R (_, _, _, _, _, _))
  refine hR (zcall_i 0 0 (Nat.le_of_ble_eq_true rfl) (Nat.le_of_ble_eq_true rfl) (m_in _ _ _ _ _ _ (fun q1 q2 => ?_) (fun q => ?_)))
  · have h3 := z012' q1 q2
    have ha : ¬ a = -1 := hn.resolve_left (fun z => by rcases h3 with rfl | rfl | rfl <;> revert z <;> decide)
    refine hR (And.intro (fun hc => absurd hc (by decide)) (fun _ => ?_))
    iterate 2 refine hR (?_ : R (_, _, _, _, _, _))
    refine hR (And.intro (fun _ => ?_) (fun hc => absurd (hc.trans (by decide)) ha))
    iterate 3 refine hR (?_ : R (_, _, _, _, _, _))
    refine hR (zcall_i 0 0 (Nat.le_of_ble_eq_true rfl) (Nat.le_of_ble_eq_true rfl) (m_is _ _ _ _ (by rcases h3 with rfl | rfl | rfl <;> (unfold vp_in; decide)) ?_))
    refine hR (And.intro (fun hc => absurd (by decide) hc) (fun _ => ?_))
    refine hR (?_ : R (_, _, _, _, _, _))
    exact hR (zret_i rfl (Nat.le_refl _) trivial (h _))
  · refine hR (And.intro (fun _ => ?_) (fun hc => absurd (by decide) hc))
    refine hR (?_ : R (_, _, _, _, _, _))
    exact hR (zret_i rfl (Nat.le_refl _) trivial (h _))
end
section
set_option maxHeartbeats 4000000 in
theorem i_told (d : Nat) (Q : zQ) (h : Q none ([.inr (10, [.null, .null, .null, .null, .null, .null, .null, .null]), .inr (7, [.ref 2, .int 0, .int 0, .int (-1), .ref 3, .ref 4, .ref 5, .ref 6]), .inl (0, 600, .inl (fun _ => 0)), .inl (1, 3, .inl (fun _ => 0)), .inl (3, 2, .inr (.inr (.inr (.inr (fun _ => none))))), .inl (4, 2, .inr (.inr (.inr (.inr (fun _ => none))))), .inl (5, 2, .inr (.inr (.inr (.inr (fun _ => none)))))])) : zCl zTab (d + 2) iX8_init [.ref 1] ([.inr (10, [.null, .null, .null, .null, .null, .null, .null, .null]), .inr (7, [.null, .int 0, .int 0, .int 0, .null, .null, .null, .null])]) 5 609 Q := by
  refine zCl_i (M := kX8_init) rfl (Nat.le_of_ble_eq_true rfl) fun R hR => ?_
  iterate 4 refine hR (?_ : R (_, _, _, _, _, _))
  refine hR (?_ : R (_, _, .ref 2 :: _, _, _, _))
  iterate 12 refine hR (?_ : R (_, _, _, _, _, _))
  refine hR (?_ : R (_, _, .ref 3 :: _, _, _, _))
  iterate 3 refine hR (?_ : R (_, _, _, _, _, _))
  refine hR (?_ : R (_, _, .ref 4 :: _, _, _, _))
  iterate 3 refine hR (?_ : R (_, _, _, _, _, _))
  refine hR (?_ : R (_, _, .ref 5 :: _, _, _, _))
  iterate 3 refine hR (?_ : R (_, _, _, _, _, _))
  refine hR (?_ : R (_, _, .ref 6 :: _, _, _, _))
  refine hR (?_ : R (_, _, _, _, _, _))
  exact hR (zret_i rfl (Nat.le_refl _) (rfl) (h))
set_option maxHeartbeats 4000000 in
theorem i_teller (d : Nat) (Q : zQ) (h : Q none ([.inr (10, [.ref 1, .ref 7, .null, .null, .null, .null, .null, .null]), .inr (7, [.ref 2, .int 0, .int 0, .int (-1), .ref 3, .ref 4, .ref 5, .ref 6]), .inl (0, 600, .inl (fun _ => 0)), .inl (1, 3, .inl (fun _ => 0)), .inl (3, 2, .inr (.inr (.inr (.inr (fun _ => none))))), .inl (4, 2, .inr (.inr (.inr (.inr (fun _ => none))))), .inl (5, 2, .inr (.inr (.inr (.inr (fun _ => none))))), .inl (6, 3, .inr (.inr (.inr (.inr (fun _ => none))))), .inr (6, [.null, .int 0, .int 0, .int 0, .int 0, .int 0, .int 0, .int (-1)])])) : zCl zTab (d + 2) iX7_init [.ref 8] ([.inr (10, [.ref 1, .ref 7, .null, .null, .null, .null, .null, .null]), .inr (7, [.ref 2, .int 0, .int 0, .int (-1), .ref 3, .ref 4, .ref 5, .ref 6]), .inl (0, 600, .inl (fun _ => 0)), .inl (1, 3, .inl (fun _ => 0)), .inl (3, 2, .inr (.inr (.inr (.inr (fun _ => none))))), .inl (4, 2, .inr (.inr (.inr (.inr (fun _ => none))))), .inl (5, 2, .inr (.inr (.inr (.inr (fun _ => none))))), .inl (6, 3, .inr (.inr (.inr (.inr (fun _ => none))))), .inr (6, [.null, .int 0, .int 0, .int 0, .int 0, .int 0, .int 0, .int 0])]) 0 0 Q := by
  refine zCl_i (M := kX7_init) rfl (Nat.le_of_ble_eq_true rfl) fun R hR => ?_
  iterate 26 refine hR (?_ : R (_, _, _, _, _, _))
  exact hR (zret_i rfl (Nat.le_refl _) (rfl) (h))
set_option maxHeartbeats 4000000 in
theorem i_course (d : Nat) (Q : zQ) (h : Q none ([.inr (10, [.ref 1, .ref 7, .ref 8, .null, .null, .null, .null, .null]), .inr (7, [.ref 2, .int 0, .int 0, .int (-1), .ref 3, .ref 4, .ref 5, .ref 6]), .inl (0, 600, .inl (fun _ => 0)), .inl (1, 3, .inl (fun _ => 0)), .inl (3, 2, .inr (.inr (.inr (.inr (fun _ => none))))), .inl (4, 2, .inr (.inr (.inr (.inr (fun _ => none))))), .inl (5, 2, .inr (.inr (.inr (.inr (fun _ => none))))), .inl (6, 3, .inr (.inr (.inr (.inr (fun _ => none))))), .inr (6, [.null, .int 0, .int 0, .int 0, .int 0, .int 0, .int 0, .int (-1)]), .inr (1, [.null, .int 0, .int 0, .int 0, .int 0, .ref 10, .ref 11]), .inl (1, 4, .inl (fun _ => 0)), .inl (1, 5, .inl (fun _ => 0))])) : zCl zTab (d + 2) iX1_init [.ref 9] ([.inr (10, [.ref 1, .ref 7, .ref 8, .null, .null, .null, .null, .null]), .inr (7, [.ref 2, .int 0, .int 0, .int (-1), .ref 3, .ref 4, .ref 5, .ref 6]), .inl (0, 600, .inl (fun _ => 0)), .inl (1, 3, .inl (fun _ => 0)), .inl (3, 2, .inr (.inr (.inr (.inr (fun _ => none))))), .inl (4, 2, .inr (.inr (.inr (.inr (fun _ => none))))), .inl (5, 2, .inr (.inr (.inr (.inr (fun _ => none))))), .inl (6, 3, .inr (.inr (.inr (.inr (fun _ => none))))), .inr (6, [.null, .int 0, .int 0, .int 0, .int 0, .int 0, .int 0, .int (-1)]), .inr (1, [.null, .int 0, .int 0, .int 0, .int 0, .null, .null])]) 2 9 Q := by
  refine zCl_i (M := kX1_init) rfl (Nat.le_of_ble_eq_true rfl) fun R hR => ?_
  iterate 19 refine hR (?_ : R (_, _, _, _, _, _))
  refine hR (?_ : R (_, _, .ref 10 :: _, _, _, _))
  iterate 3 refine hR (?_ : R (_, _, _, _, _, _))
  refine hR (?_ : R (_, _, .ref 11 :: _, _, _, _))
  refine hR (?_ : R (_, _, _, _, _, _))
  exact hR (zret_i rfl (Nat.le_refl _) (rfl) (h))
set_option maxHeartbeats 4000000 in
theorem i_class (d : Nat) (Q : zQ) (h : Q none (zCw [])) : zCl zTab (d + 3) iX11_init [.ref 0] ([.inr (10, [.null, .null, .null, .null, .null, .null, .null, .null])]) 13 648 Q := by
  refine zCl_i (M := kX11_init) rfl (Nat.le_of_ble_eq_true rfl) fun R hR => ?_
  iterate 3 refine hR (?_ : R (_, _, _, _, _, _))
  refine hR (?_ : R (_, _, .ref 1 :: _, _, _, _))
  refine hR (?_ : R (_, _, _, _, _, _))
  refine hR (zcall_i 5 609 (Nat.le_of_ble_eq_true rfl) (Nat.le_of_ble_eq_true rfl) (i_told _ _ ?_))
  iterate 3 refine hR (?_ : R (_, _, _, _, _, _))
  refine hR (?_ : R (_, _, .ref 7 :: _, _, _, _))
  iterate 2 refine hR (?_ : R (_, _, _, _, _, _))
  refine hR (?_ : R (_, _, .ref 8 :: _, _, _, _))
  refine hR (?_ : R (_, _, _, _, _, _))
  refine hR (zcall_i 0 0 (Nat.le_of_ble_eq_true rfl) (Nat.le_of_ble_eq_true rfl) (i_teller _ _ ?_))
  iterate 2 refine hR (?_ : R (_, _, _, _, _, _))
  refine hR (?_ : R (_, _, .ref 9 :: _, _, _, _))
  refine hR (?_ : R (_, _, _, _, _, _))
  refine hR (zcall_i 2 9 (Nat.le_of_ble_eq_true rfl) (Nat.le_of_ble_eq_true rfl) (i_course _ _ ?_))
  iterate 3 refine hR (?_ : R (_, _, _, _, _, _))
  refine hR (?_ : R (_, _, .ref 12 :: _, _, _, _))
  iterate 3 refine hR (?_ : R (_, _, _, _, _, _))
  refine hR (?_ : R (_, _, .ref 13 :: _, _, _, _))
  iterate 7 refine hR (?_ : R (_, _, _, _, _, _))
  exact hR (zret_i rfl (Nat.le_refl _) (rfl) (h))
set_option maxHeartbeats 4000000 in
theorem i_model (d : Nat) (Q : zQ) (h : Q none (zCw (zMf []))) : zCl zTab (d + 2) iX12_init [.ref 14] (zCw [.inr (11, [.int 0, .null, .null, .null, .null, .null, .null, .null, .null, .int 0, .int 0, .int 0, .int 0, .int 0, .long 0, .int 0, .int 0, .int 0, .null, .null, .int 0, .int 0, .int 0, .int 0, .null, .null, .int 0, .null, .int 0, .null, .null, .int 0, .int 0, .int 0, .null, .null, .null, .null, .int 0, .null, .null, .int 0, .null, .null, .int 0, .null, .null, .null, .null, .null, .null, .null])]) 30 271692 Q := by
  refine zCl_i (M := kX12_init) rfl (Nat.le_of_ble_eq_true rfl) fun R hR => ?_
  iterate 4 refine hR (?_ : R (_, _, _, _, _, _))
  refine hR (?_ : R (_, _, .ref 15 :: _, _, _, _))
  refine hR (?_ : R (_, _, _, _, _, _))
  refine (?_ : R (_, _, _, zCw (.inr (11, [_, _, _, _, _, _, _, _, _, _, _, _, _, _, _, _, _, _, _, _, _, _, _, _, _, _, _, _, _, _, _, _, _, _, _, _, _, _, _, _, _, _, _, _, _, _, _, _, _, _, _, _]) :: .inl (0, 2400, .inl _) :: []), _, _))
  iterate 2 refine hR (?_ : R (_, _, _, _, _, _))
  refine hR (?_ : R (_, _, .ref 16 :: _, _, _, _))
  refine hR (?_ : R (_, _, _, _, _, _))
  refine (?_ : R (_, _, _, zCw (.inr (11, [_, _, _, _, _, _, _, _, _, _, _, _, _, _, _, _, _, _, _, _, _, _, _, _, _, _, _, _, _, _, _, _, _, _, _, _, _, _, _, _, _, _, _, _, _, _, _, _, _, _, _, _]) :: .inl (0, 2400, .inl _) :: .inl (1, 4, .inl _) :: []), _, _))
  iterate 2 refine hR (?_ : R (_, _, _, _, _, _))
  refine hR (?_ : R (_, _, .ref 17 :: _, _, _, _))
  refine hR (?_ : R (_, _, _, _, _, _))
  refine (?_ : R (_, _, _, zCw (.inr (11, [_, _, _, _, _, _, _, _, _, _, _, _, _, _, _, _, _, _, _, _, _, _, _, _, _, _, _, _, _, _, _, _, _, _, _, _, _, _, _, _, _, _, _, _, _, _, _, _, _, _, _, _]) :: .inl (0, 2400, .inl _) :: .inl (1, 4, .inl _) :: .inl (1, 4, .inl _) :: []), _, _))
  iterate 2 refine hR (?_ : R (_, _, _, _, _, _))
  refine hR (?_ : R (_, _, .ref 18 :: _, _, _, _))
  refine hR (?_ : R (_, _, _, _, _, _))
  refine (?_ : R (_, _, _, zCw (.inr (11, [_, _, _, _, _, _, _, _, _, _, _, _, _, _, _, _, _, _, _, _, _, _, _, _, _, _, _, _, _, _, _, _, _, _, _, _, _, _, _, _, _, _, _, _, _, _, _, _, _, _, _, _]) :: .inl (0, 2400, .inl _) :: .inl (1, 4, .inl _) :: .inl (1, 4, .inl _) :: .inl (1, 4, .inl _) :: []), _, _))
  iterate 2 refine hR (?_ : R (_, _, _, _, _, _))
  refine hR (?_ : R (_, _, .ref 19 :: _, _, _, _))
  refine hR (?_ : R (_, _, _, _, _, _))
  refine (?_ : R (_, _, _, zCw (.inr (11, [_, _, _, _, _, _, _, _, _, _, _, _, _, _, _, _, _, _, _, _, _, _, _, _, _, _, _, _, _, _, _, _, _, _, _, _, _, _, _, _, _, _, _, _, _, _, _, _, _, _, _, _]) :: .inl (0, 2400, .inl _) :: .inl (1, 4, .inl _) :: .inl (1, 4, .inl _) :: .inl (1, 4, .inl _) :: .inl (1, 12, .inl _) :: []), _, _))
  iterate 2 refine hR (?_ : R (_, _, _, _, _, _))
  refine hR (?_ : R (_, _, .ref 20 :: _, _, _, _))
  refine hR (?_ : R (_, _, _, _, _, _))
  refine (?_ : R (_, _, _, zCw (.inr (11, [_, _, _, _, _, _, _, _, _, _, _, _, _, _, _, _, _, _, _, _, _, _, _, _, _, _, _, _, _, _, _, _, _, _, _, _, _, _, _, _, _, _, _, _, _, _, _, _, _, _, _, _]) :: .inl (0, 2400, .inl _) :: .inl (1, 4, .inl _) :: .inl (1, 4, .inl _) :: .inl (1, 4, .inl _) :: .inl (1, 12, .inl _) :: .inl (1, 408, .inl _) :: []), _, _))
  iterate 2 refine hR (?_ : R (_, _, _, _, _, _))
  refine hR (?_ : R (_, _, .ref 21 :: _, _, _, _))
  refine hR (?_ : R (_, _, _, _, _, _))
  refine (?_ : R (_, _, _, zCw (.inr (11, [_, _, _, _, _, _, _, _, _, _, _, _, _, _, _, _, _, _, _, _, _, _, _, _, _, _, _, _, _, _, _, _, _, _, _, _, _, _, _, _, _, _, _, _, _, _, _, _, _, _, _, _]) :: .inl (0, 2400, .inl _) :: .inl (1, 4, .inl _) :: .inl (1, 4, .inl _) :: .inl (1, 4, .inl _) :: .inl (1, 12, .inl _) :: .inl (1, 408, .inl _) :: .inl (1, 968, .inl _) :: []), _, _))
  iterate 2 refine hR (?_ : R (_, _, _, _, _, _))
  refine hR (?_ : R (_, _, .ref 22 :: _, _, _, _))
  refine hR (?_ : R (_, _, _, _, _, _))
  refine (?_ : R (_, _, _, zCw (.inr (11, [_, _, _, _, _, _, _, _, _, _, _, _, _, _, _, _, _, _, _, _, _, _, _, _, _, _, _, _, _, _, _, _, _, _, _, _, _, _, _, _, _, _, _, _, _, _, _, _, _, _, _, _]) :: .inl (0, 2400, .inl _) :: .inl (1, 4, .inl _) :: .inl (1, 4, .inl _) :: .inl (1, 4, .inl _) :: .inl (1, 12, .inl _) :: .inl (1, 408, .inl _) :: .inl (1, 968, .inl _) :: .inl (1, 104, .inl _) :: []), _, _))
  iterate 2 refine hR (?_ : R (_, _, _, _, _, _))
  refine hR (?_ : R (_, _, .ref 23 :: _, _, _, _))
  refine hR (?_ : R (_, _, _, _, _, _))
  refine (?_ : R (_, _, _, zCw (.inr (11, [_, _, _, _, _, _, _, _, _, _, _, _, _, _, _, _, _, _, _, _, _, _, _, _, _, _, _, _, _, _, _, _, _, _, _, _, _, _, _, _, _, _, _, _, _, _, _, _, _, _, _, _]) :: .inl (0, 2400, .inl _) :: .inl (1, 4, .inl _) :: .inl (1, 4, .inl _) :: .inl (1, 4, .inl _) :: .inl (1, 12, .inl _) :: .inl (1, 408, .inl _) :: .inl (1, 968, .inl _) :: .inl (1, 104, .inl _) :: .inl (1, 121, .inl _) :: []), _, _))
  iterate 2 refine hR (?_ : R (_, _, _, _, _, _))
  refine hR (?_ : R (_, _, .ref 24 :: _, _, _, _))
  refine hR (?_ : R (_, _, _, _, _, _))
  refine (?_ : R (_, _, _, zCw (.inr (11, [_, _, _, _, _, _, _, _, _, _, _, _, _, _, _, _, _, _, _, _, _, _, _, _, _, _, _, _, _, _, _, _, _, _, _, _, _, _, _, _, _, _, _, _, _, _, _, _, _, _, _, _]) :: .inl (0, 2400, .inl _) :: .inl (1, 4, .inl _) :: .inl (1, 4, .inl _) :: .inl (1, 4, .inl _) :: .inl (1, 12, .inl _) :: .inl (1, 408, .inl _) :: .inl (1, 968, .inl _) :: .inl (1, 104, .inl _) :: .inl (1, 121, .inl _) :: .inl (1, 3, .inl _) :: []), _, _))
  iterate 5 refine hR (?_ : R (_, _, _, _, _, _))
  refine hR (?_ : R (_, _, .ref 25 :: _, _, _, _))
  refine hR (?_ : R (_, _, _, _, _, _))
  refine (?_ : R (_, _, _, zCw (.inr (11, [_, _, _, _, _, _, _, _, _, _, _, _, _, _, _, _, _, _, _, _, _, _, _, _, _, _, _, _, _, _, _, _, _, _, _, _, _, _, _, _, _, _, _, _, _, _, _, _, _, _, _, _]) :: .inl (0, 2400, .inl _) :: .inl (1, 4, .inl _) :: .inl (1, 4, .inl _) :: .inl (1, 4, .inl _) :: .inl (1, 12, .inl _) :: .inl (1, 408, .inl _) :: .inl (1, 968, .inl _) :: .inl (1, 104, .inl _) :: .inl (1, 121, .inl _) :: .inl (1, 3, .inl _) :: .inl (1, 7, .inl _) :: []), _, _))
  iterate 2 refine hR (?_ : R (_, _, _, _, _, _))
  refine hR (?_ : R (_, _, .ref 26 :: _, _, _, _))
  refine hR (?_ : R (_, _, _, _, _, _))
  refine (?_ : R (_, _, _, zCw (.inr (11, [_, _, _, _, _, _, _, _, _, _, _, _, _, _, _, _, _, _, _, _, _, _, _, _, _, _, _, _, _, _, _, _, _, _, _, _, _, _, _, _, _, _, _, _, _, _, _, _, _, _, _, _]) :: .inl (0, 2400, .inl _) :: .inl (1, 4, .inl _) :: .inl (1, 4, .inl _) :: .inl (1, 4, .inl _) :: .inl (1, 12, .inl _) :: .inl (1, 408, .inl _) :: .inl (1, 968, .inl _) :: .inl (1, 104, .inl _) :: .inl (1, 121, .inl _) :: .inl (1, 3, .inl _) :: .inl (1, 7, .inl _) :: .inl (1, 7, .inl _) :: []), _, _))
  iterate 2 refine hR (?_ : R (_, _, _, _, _, _))
  refine hR (?_ : R (_, _, .ref 27 :: _, _, _, _))
  refine hR (?_ : R (_, _, _, _, _, _))
  refine (?_ : R (_, _, _, zCw (.inr (11, [_, _, _, _, _, _, _, _, _, _, _, _, _, _, _, _, _, _, _, _, _, _, _, _, _, _, _, _, _, _, _, _, _, _, _, _, _, _, _, _, _, _, _, _, _, _, _, _, _, _, _, _]) :: .inl (0, 2400, .inl _) :: .inl (1, 4, .inl _) :: .inl (1, 4, .inl _) :: .inl (1, 4, .inl _) :: .inl (1, 12, .inl _) :: .inl (1, 408, .inl _) :: .inl (1, 968, .inl _) :: .inl (1, 104, .inl _) :: .inl (1, 121, .inl _) :: .inl (1, 3, .inl _) :: .inl (1, 7, .inl _) :: .inl (1, 7, .inl _) :: .inl (1, 49, .inl _) :: []), _, _))
  iterate 2 refine hR (?_ : R (_, _, _, _, _, _))
  refine hR (?_ : R (_, _, .ref 28 :: _, _, _, _))
  refine hR (?_ : R (_, _, _, _, _, _))
  refine (?_ : R (_, _, _, zCw (.inr (11, [_, _, _, _, _, _, _, _, _, _, _, _, _, _, _, _, _, _, _, _, _, _, _, _, _, _, _, _, _, _, _, _, _, _, _, _, _, _, _, _, _, _, _, _, _, _, _, _, _, _, _, _]) :: .inl (0, 2400, .inl _) :: .inl (1, 4, .inl _) :: .inl (1, 4, .inl _) :: .inl (1, 4, .inl _) :: .inl (1, 12, .inl _) :: .inl (1, 408, .inl _) :: .inl (1, 968, .inl _) :: .inl (1, 104, .inl _) :: .inl (1, 121, .inl _) :: .inl (1, 3, .inl _) :: .inl (1, 7, .inl _) :: .inl (1, 7, .inl _) :: .inl (1, 49, .inl _) :: .inl (1, 4, .inl _) :: []), _, _))
  iterate 2 refine hR (?_ : R (_, _, _, _, _, _))
  refine hR (?_ : R (_, _, .ref 29 :: _, _, _, _))
  refine hR (?_ : R (_, _, _, _, _, _))
  refine (?_ : R (_, _, _, zCw (.inr (11, [_, _, _, _, _, _, _, _, _, _, _, _, _, _, _, _, _, _, _, _, _, _, _, _, _, _, _, _, _, _, _, _, _, _, _, _, _, _, _, _, _, _, _, _, _, _, _, _, _, _, _, _]) :: .inl (0, 2400, .inl _) :: .inl (1, 4, .inl _) :: .inl (1, 4, .inl _) :: .inl (1, 4, .inl _) :: .inl (1, 12, .inl _) :: .inl (1, 408, .inl _) :: .inl (1, 968, .inl _) :: .inl (1, 104, .inl _) :: .inl (1, 121, .inl _) :: .inl (1, 3, .inl _) :: .inl (1, 7, .inl _) :: .inl (1, 7, .inl _) :: .inl (1, 49, .inl _) :: .inl (1, 4, .inl _) :: .inl (1, 5, .inl _) :: []), _, _))
  iterate 2 refine hR (?_ : R (_, _, _, _, _, _))
  refine hR (?_ : R (_, _, .ref 30 :: _, _, _, _))
  refine hR (?_ : R (_, _, _, _, _, _))
  refine (?_ : R (_, _, _, zCw (.inr (11, [_, _, _, _, _, _, _, _, _, _, _, _, _, _, _, _, _, _, _, _, _, _, _, _, _, _, _, _, _, _, _, _, _, _, _, _, _, _, _, _, _, _, _, _, _, _, _, _, _, _, _, _]) :: .inl (0, 2400, .inl _) :: .inl (1, 4, .inl _) :: .inl (1, 4, .inl _) :: .inl (1, 4, .inl _) :: .inl (1, 12, .inl _) :: .inl (1, 408, .inl _) :: .inl (1, 968, .inl _) :: .inl (1, 104, .inl _) :: .inl (1, 121, .inl _) :: .inl (1, 3, .inl _) :: .inl (1, 7, .inl _) :: .inl (1, 7, .inl _) :: .inl (1, 49, .inl _) :: .inl (1, 4, .inl _) :: .inl (1, 5, .inl _) :: .inl (1, 27305, .inl _) :: []), _, _))
  iterate 2 refine hR (?_ : R (_, _, _, _, _, _))
  refine hR (?_ : R (_, _, .ref 31 :: _, _, _, _))
  refine hR (?_ : R (_, _, _, _, _, _))
  refine (?_ : R (_, _, _, zCw (.inr (11, [_, _, _, _, _, _, _, _, _, _, _, _, _, _, _, _, _, _, _, _, _, _, _, _, _, _, _, _, _, _, _, _, _, _, _, _, _, _, _, _, _, _, _, _, _, _, _, _, _, _, _, _]) :: .inl (0, 2400, .inl _) :: .inl (1, 4, .inl _) :: .inl (1, 4, .inl _) :: .inl (1, 4, .inl _) :: .inl (1, 12, .inl _) :: .inl (1, 408, .inl _) :: .inl (1, 968, .inl _) :: .inl (1, 104, .inl _) :: .inl (1, 121, .inl _) :: .inl (1, 3, .inl _) :: .inl (1, 7, .inl _) :: .inl (1, 7, .inl _) :: .inl (1, 49, .inl _) :: .inl (1, 4, .inl _) :: .inl (1, 5, .inl _) :: .inl (1, 27305, .inl _) :: .inl (1, 5461, .inl _) :: []), _, _))
  iterate 2 refine hR (?_ : R (_, _, _, _, _, _))
  refine hR (?_ : R (_, _, .ref 32 :: _, _, _, _))
  refine hR (?_ : R (_, _, _, _, _, _))
  refine (?_ : R (_, _, _, zCw (.inr (11, [_, _, _, _, _, _, _, _, _, _, _, _, _, _, _, _, _, _, _, _, _, _, _, _, _, _, _, _, _, _, _, _, _, _, _, _, _, _, _, _, _, _, _, _, _, _, _, _, _, _, _, _]) :: .inl (0, 2400, .inl _) :: .inl (1, 4, .inl _) :: .inl (1, 4, .inl _) :: .inl (1, 4, .inl _) :: .inl (1, 12, .inl _) :: .inl (1, 408, .inl _) :: .inl (1, 968, .inl _) :: .inl (1, 104, .inl _) :: .inl (1, 121, .inl _) :: .inl (1, 3, .inl _) :: .inl (1, 7, .inl _) :: .inl (1, 7, .inl _) :: .inl (1, 49, .inl _) :: .inl (1, 4, .inl _) :: .inl (1, 5, .inl _) :: .inl (1, 27305, .inl _) :: .inl (1, 5461, .inl _) :: .inl (1, 5461, .inl _) :: []), _, _))
  iterate 2 refine hR (?_ : R (_, _, _, _, _, _))
  refine hR (?_ : R (_, _, .ref 33 :: _, _, _, _))
  refine hR (?_ : R (_, _, _, _, _, _))
  refine (?_ : R (_, _, _, zCw (.inr (11, [_, _, _, _, _, _, _, _, _, _, _, _, _, _, _, _, _, _, _, _, _, _, _, _, _, _, _, _, _, _, _, _, _, _, _, _, _, _, _, _, _, _, _, _, _, _, _, _, _, _, _, _]) :: .inl (0, 2400, .inl _) :: .inl (1, 4, .inl _) :: .inl (1, 4, .inl _) :: .inl (1, 4, .inl _) :: .inl (1, 12, .inl _) :: .inl (1, 408, .inl _) :: .inl (1, 968, .inl _) :: .inl (1, 104, .inl _) :: .inl (1, 121, .inl _) :: .inl (1, 3, .inl _) :: .inl (1, 7, .inl _) :: .inl (1, 7, .inl _) :: .inl (1, 49, .inl _) :: .inl (1, 4, .inl _) :: .inl (1, 5, .inl _) :: .inl (1, 27305, .inl _) :: .inl (1, 5461, .inl _) :: .inl (1, 5461, .inl _) :: .inl (1, 5461, .inl _) :: []), _, _))
  iterate 2 refine hR (?_ : R (_, _, _, _, _, _))
  refine hR (?_ : R (_, _, .ref 34 :: _, _, _, _))
  refine hR (?_ : R (_, _, _, _, _, _))
  refine (?_ : R (_, _, _, zCw (.inr (11, [_, _, _, _, _, _, _, _, _, _, _, _, _, _, _, _, _, _, _, _, _, _, _, _, _, _, _, _, _, _, _, _, _, _, _, _, _, _, _, _, _, _, _, _, _, _, _, _, _, _, _, _]) :: .inl (0, 2400, .inl _) :: .inl (1, 4, .inl _) :: .inl (1, 4, .inl _) :: .inl (1, 4, .inl _) :: .inl (1, 12, .inl _) :: .inl (1, 408, .inl _) :: .inl (1, 968, .inl _) :: .inl (1, 104, .inl _) :: .inl (1, 121, .inl _) :: .inl (1, 3, .inl _) :: .inl (1, 7, .inl _) :: .inl (1, 7, .inl _) :: .inl (1, 49, .inl _) :: .inl (1, 4, .inl _) :: .inl (1, 5, .inl _) :: .inl (1, 27305, .inl _) :: .inl (1, 5461, .inl _) :: .inl (1, 5461, .inl _) :: .inl (1, 5461, .inl _) :: .inl (1, 5461, .inl _) :: []), _, _))
  iterate 2 refine hR (?_ : R (_, _, _, _, _, _))
  refine hR (?_ : R (_, _, .ref 35 :: _, _, _, _))
  refine hR (?_ : R (_, _, _, _, _, _))
  refine (?_ : R (_, _, _, zCw (.inr (11, [_, _, _, _, _, _, _, _, _, _, _, _, _, _, _, _, _, _, _, _, _, _, _, _, _, _, _, _, _, _, _, _, _, _, _, _, _, _, _, _, _, _, _, _, _, _, _, _, _, _, _, _]) :: .inl (0, 2400, .inl _) :: .inl (1, 4, .inl _) :: .inl (1, 4, .inl _) :: .inl (1, 4, .inl _) :: .inl (1, 12, .inl _) :: .inl (1, 408, .inl _) :: .inl (1, 968, .inl _) :: .inl (1, 104, .inl _) :: .inl (1, 121, .inl _) :: .inl (1, 3, .inl _) :: .inl (1, 7, .inl _) :: .inl (1, 7, .inl _) :: .inl (1, 49, .inl _) :: .inl (1, 4, .inl _) :: .inl (1, 5, .inl _) :: .inl (1, 27305, .inl _) :: .inl (1, 5461, .inl _) :: .inl (1, 5461, .inl _) :: .inl (1, 5461, .inl _) :: .inl (1, 5461, .inl _) :: .inl (1, 54610, .inl _) :: []), _, _))
  iterate 2 refine hR (?_ : R (_, _, _, _, _, _))
  refine hR (?_ : R (_, _, .ref 36 :: _, _, _, _))
  refine hR (?_ : R (_, _, _, _, _, _))
  refine (?_ : R (_, _, _, zCw (.inr (11, [_, _, _, _, _, _, _, _, _, _, _, _, _, _, _, _, _, _, _, _, _, _, _, _, _, _, _, _, _, _, _, _, _, _, _, _, _, _, _, _, _, _, _, _, _, _, _, _, _, _, _, _]) :: .inl (0, 2400, .inl _) :: .inl (1, 4, .inl _) :: .inl (1, 4, .inl _) :: .inl (1, 4, .inl _) :: .inl (1, 12, .inl _) :: .inl (1, 408, .inl _) :: .inl (1, 968, .inl _) :: .inl (1, 104, .inl _) :: .inl (1, 121, .inl _) :: .inl (1, 3, .inl _) :: .inl (1, 7, .inl _) :: .inl (1, 7, .inl _) :: .inl (1, 49, .inl _) :: .inl (1, 4, .inl _) :: .inl (1, 5, .inl _) :: .inl (1, 27305, .inl _) :: .inl (1, 5461, .inl _) :: .inl (1, 5461, .inl _) :: .inl (1, 5461, .inl _) :: .inl (1, 5461, .inl _) :: .inl (1, 54610, .inl _) :: .inl (1, 54610, .inl _) :: []), _, _))
  iterate 2 refine hR (?_ : R (_, _, _, _, _, _))
  refine hR (?_ : R (_, _, .ref 37 :: _, _, _, _))
  refine hR (?_ : R (_, _, _, _, _, _))
  refine (?_ : R (_, _, _, zCw (.inr (11, [_, _, _, _, _, _, _, _, _, _, _, _, _, _, _, _, _, _, _, _, _, _, _, _, _, _, _, _, _, _, _, _, _, _, _, _, _, _, _, _, _, _, _, _, _, _, _, _, _, _, _, _]) :: .inl (0, 2400, .inl _) :: .inl (1, 4, .inl _) :: .inl (1, 4, .inl _) :: .inl (1, 4, .inl _) :: .inl (1, 12, .inl _) :: .inl (1, 408, .inl _) :: .inl (1, 968, .inl _) :: .inl (1, 104, .inl _) :: .inl (1, 121, .inl _) :: .inl (1, 3, .inl _) :: .inl (1, 7, .inl _) :: .inl (1, 7, .inl _) :: .inl (1, 49, .inl _) :: .inl (1, 4, .inl _) :: .inl (1, 5, .inl _) :: .inl (1, 27305, .inl _) :: .inl (1, 5461, .inl _) :: .inl (1, 5461, .inl _) :: .inl (1, 5461, .inl _) :: .inl (1, 5461, .inl _) :: .inl (1, 54610, .inl _) :: .inl (1, 54610, .inl _) :: .inl (1, 54610, .inl _) :: []), _, _))
  iterate 2 refine hR (?_ : R (_, _, _, _, _, _))
  refine hR (?_ : R (_, _, .ref 38 :: _, _, _, _))
  refine hR (?_ : R (_, _, _, _, _, _))
  refine (?_ : R (_, _, _, zCw (.inr (11, [_, _, _, _, _, _, _, _, _, _, _, _, _, _, _, _, _, _, _, _, _, _, _, _, _, _, _, _, _, _, _, _, _, _, _, _, _, _, _, _, _, _, _, _, _, _, _, _, _, _, _, _]) :: .inl (0, 2400, .inl _) :: .inl (1, 4, .inl _) :: .inl (1, 4, .inl _) :: .inl (1, 4, .inl _) :: .inl (1, 12, .inl _) :: .inl (1, 408, .inl _) :: .inl (1, 968, .inl _) :: .inl (1, 104, .inl _) :: .inl (1, 121, .inl _) :: .inl (1, 3, .inl _) :: .inl (1, 7, .inl _) :: .inl (1, 7, .inl _) :: .inl (1, 49, .inl _) :: .inl (1, 4, .inl _) :: .inl (1, 5, .inl _) :: .inl (1, 27305, .inl _) :: .inl (1, 5461, .inl _) :: .inl (1, 5461, .inl _) :: .inl (1, 5461, .inl _) :: .inl (1, 5461, .inl _) :: .inl (1, 54610, .inl _) :: .inl (1, 54610, .inl _) :: .inl (1, 54610, .inl _) :: .inl (1, 5461, .inl _) :: []), _, _))
  iterate 2 refine hR (?_ : R (_, _, _, _, _, _))
  refine hR (?_ : R (_, _, .ref 39 :: _, _, _, _))
  refine hR (?_ : R (_, _, _, _, _, _))
  refine (?_ : R (_, _, _, zCw (.inr (11, [_, _, _, _, _, _, _, _, _, _, _, _, _, _, _, _, _, _, _, _, _, _, _, _, _, _, _, _, _, _, _, _, _, _, _, _, _, _, _, _, _, _, _, _, _, _, _, _, _, _, _, _]) :: .inl (0, 2400, .inl _) :: .inl (1, 4, .inl _) :: .inl (1, 4, .inl _) :: .inl (1, 4, .inl _) :: .inl (1, 12, .inl _) :: .inl (1, 408, .inl _) :: .inl (1, 968, .inl _) :: .inl (1, 104, .inl _) :: .inl (1, 121, .inl _) :: .inl (1, 3, .inl _) :: .inl (1, 7, .inl _) :: .inl (1, 7, .inl _) :: .inl (1, 49, .inl _) :: .inl (1, 4, .inl _) :: .inl (1, 5, .inl _) :: .inl (1, 27305, .inl _) :: .inl (1, 5461, .inl _) :: .inl (1, 5461, .inl _) :: .inl (1, 5461, .inl _) :: .inl (1, 5461, .inl _) :: .inl (1, 54610, .inl _) :: .inl (1, 54610, .inl _) :: .inl (1, 54610, .inl _) :: .inl (1, 5461, .inl _) :: .inl (1, 5461, .inl _) :: []), _, _))
  iterate 2 refine hR (?_ : R (_, _, _, _, _, _))
  refine hR (?_ : R (_, _, .ref 40 :: _, _, _, _))
  refine hR (?_ : R (_, _, _, _, _, _))
  refine (?_ : R (_, _, _, zCw (.inr (11, [_, _, _, _, _, _, _, _, _, _, _, _, _, _, _, _, _, _, _, _, _, _, _, _, _, _, _, _, _, _, _, _, _, _, _, _, _, _, _, _, _, _, _, _, _, _, _, _, _, _, _, _]) :: .inl (0, 2400, .inl _) :: .inl (1, 4, .inl _) :: .inl (1, 4, .inl _) :: .inl (1, 4, .inl _) :: .inl (1, 12, .inl _) :: .inl (1, 408, .inl _) :: .inl (1, 968, .inl _) :: .inl (1, 104, .inl _) :: .inl (1, 121, .inl _) :: .inl (1, 3, .inl _) :: .inl (1, 7, .inl _) :: .inl (1, 7, .inl _) :: .inl (1, 49, .inl _) :: .inl (1, 4, .inl _) :: .inl (1, 5, .inl _) :: .inl (1, 27305, .inl _) :: .inl (1, 5461, .inl _) :: .inl (1, 5461, .inl _) :: .inl (1, 5461, .inl _) :: .inl (1, 5461, .inl _) :: .inl (1, 54610, .inl _) :: .inl (1, 54610, .inl _) :: .inl (1, 54610, .inl _) :: .inl (1, 5461, .inl _) :: .inl (1, 5461, .inl _) :: .inl (1, 5461, .inl _) :: []), _, _))
  iterate 2 refine hR (?_ : R (_, _, _, _, _, _))
  refine hR (?_ : R (_, _, .ref 41 :: _, _, _, _))
  refine hR (?_ : R (_, _, _, _, _, _))
  refine (?_ : R (_, _, _, zCw (.inr (11, [_, _, _, _, _, _, _, _, _, _, _, _, _, _, _, _, _, _, _, _, _, _, _, _, _, _, _, _, _, _, _, _, _, _, _, _, _, _, _, _, _, _, _, _, _, _, _, _, _, _, _, _]) :: .inl (0, 2400, .inl _) :: .inl (1, 4, .inl _) :: .inl (1, 4, .inl _) :: .inl (1, 4, .inl _) :: .inl (1, 12, .inl _) :: .inl (1, 408, .inl _) :: .inl (1, 968, .inl _) :: .inl (1, 104, .inl _) :: .inl (1, 121, .inl _) :: .inl (1, 3, .inl _) :: .inl (1, 7, .inl _) :: .inl (1, 7, .inl _) :: .inl (1, 49, .inl _) :: .inl (1, 4, .inl _) :: .inl (1, 5, .inl _) :: .inl (1, 27305, .inl _) :: .inl (1, 5461, .inl _) :: .inl (1, 5461, .inl _) :: .inl (1, 5461, .inl _) :: .inl (1, 5461, .inl _) :: .inl (1, 54610, .inl _) :: .inl (1, 54610, .inl _) :: .inl (1, 54610, .inl _) :: .inl (1, 5461, .inl _) :: .inl (1, 5461, .inl _) :: .inl (1, 5461, .inl _) :: .inl (1, 5461, .inl _) :: []), _, _))
  iterate 2 refine hR (?_ : R (_, _, _, _, _, _))
  refine hR (?_ : R (_, _, .ref 42 :: _, _, _, _))
  refine hR (?_ : R (_, _, _, _, _, _))
  refine (?_ : R (_, _, _, zCw (.inr (11, [_, _, _, _, _, _, _, _, _, _, _, _, _, _, _, _, _, _, _, _, _, _, _, _, _, _, _, _, _, _, _, _, _, _, _, _, _, _, _, _, _, _, _, _, _, _, _, _, _, _, _, _]) :: .inl (0, 2400, .inl _) :: .inl (1, 4, .inl _) :: .inl (1, 4, .inl _) :: .inl (1, 4, .inl _) :: .inl (1, 12, .inl _) :: .inl (1, 408, .inl _) :: .inl (1, 968, .inl _) :: .inl (1, 104, .inl _) :: .inl (1, 121, .inl _) :: .inl (1, 3, .inl _) :: .inl (1, 7, .inl _) :: .inl (1, 7, .inl _) :: .inl (1, 49, .inl _) :: .inl (1, 4, .inl _) :: .inl (1, 5, .inl _) :: .inl (1, 27305, .inl _) :: .inl (1, 5461, .inl _) :: .inl (1, 5461, .inl _) :: .inl (1, 5461, .inl _) :: .inl (1, 5461, .inl _) :: .inl (1, 54610, .inl _) :: .inl (1, 54610, .inl _) :: .inl (1, 54610, .inl _) :: .inl (1, 5461, .inl _) :: .inl (1, 5461, .inl _) :: .inl (1, 5461, .inl _) :: .inl (1, 5461, .inl _) :: .inl (1, 5461, .inl _) :: []), _, _))
  iterate 2 refine hR (?_ : R (_, _, _, _, _, _))
  refine hR (?_ : R (_, _, .ref 43 :: _, _, _, _))
  refine hR (?_ : R (_, _, _, _, _, _))
  refine (?_ : R (_, _, _, zCw (.inr (11, [_, _, _, _, _, _, _, _, _, _, _, _, _, _, _, _, _, _, _, _, _, _, _, _, _, _, _, _, _, _, _, _, _, _, _, _, _, _, _, _, _, _, _, _, _, _, _, _, _, _, _, _]) :: .inl (0, 2400, .inl _) :: .inl (1, 4, .inl _) :: .inl (1, 4, .inl _) :: .inl (1, 4, .inl _) :: .inl (1, 12, .inl _) :: .inl (1, 408, .inl _) :: .inl (1, 968, .inl _) :: .inl (1, 104, .inl _) :: .inl (1, 121, .inl _) :: .inl (1, 3, .inl _) :: .inl (1, 7, .inl _) :: .inl (1, 7, .inl _) :: .inl (1, 49, .inl _) :: .inl (1, 4, .inl _) :: .inl (1, 5, .inl _) :: .inl (1, 27305, .inl _) :: .inl (1, 5461, .inl _) :: .inl (1, 5461, .inl _) :: .inl (1, 5461, .inl _) :: .inl (1, 5461, .inl _) :: .inl (1, 54610, .inl _) :: .inl (1, 54610, .inl _) :: .inl (1, 54610, .inl _) :: .inl (1, 5461, .inl _) :: .inl (1, 5461, .inl _) :: .inl (1, 5461, .inl _) :: .inl (1, 5461, .inl _) :: .inl (1, 5461, .inl _) :: .inl (1, 27305, .inl _) :: []), _, _))
  iterate 2 refine hR (?_ : R (_, _, _, _, _, _))
  refine hR (?_ : R (_, _, .ref 44 :: _, _, _, _))
  refine hR (?_ : R (_, _, _, _, _, _))
  refine (?_ : R (_, _, _, zCw (.inr (11, [_, _, _, _, _, _, _, _, _, _, _, _, _, _, _, _, _, _, _, _, _, _, _, _, _, _, _, _, _, _, _, _, _, _, _, _, _, _, _, _, _, _, _, _, _, _, _, _, _, _, _, _]) :: .inl (0, 2400, .inl _) :: .inl (1, 4, .inl _) :: .inl (1, 4, .inl _) :: .inl (1, 4, .inl _) :: .inl (1, 12, .inl _) :: .inl (1, 408, .inl _) :: .inl (1, 968, .inl _) :: .inl (1, 104, .inl _) :: .inl (1, 121, .inl _) :: .inl (1, 3, .inl _) :: .inl (1, 7, .inl _) :: .inl (1, 7, .inl _) :: .inl (1, 49, .inl _) :: .inl (1, 4, .inl _) :: .inl (1, 5, .inl _) :: .inl (1, 27305, .inl _) :: .inl (1, 5461, .inl _) :: .inl (1, 5461, .inl _) :: .inl (1, 5461, .inl _) :: .inl (1, 5461, .inl _) :: .inl (1, 54610, .inl _) :: .inl (1, 54610, .inl _) :: .inl (1, 54610, .inl _) :: .inl (1, 5461, .inl _) :: .inl (1, 5461, .inl _) :: .inl (1, 5461, .inl _) :: .inl (1, 5461, .inl _) :: .inl (1, 5461, .inl _) :: .inl (1, 27305, .inl _) :: .inl (2, 3, .inl _) :: []), _, _))
  iterate 4 refine hR (?_ : R (_, _, _, _, _, _))
  refine hR (And.intro (by unfold vp_in; decide) ?_)
  exact hR (zret_i rfl (Nat.le_refl _) (rfl) (h))
end
section
def zLQ : zQ := fun r _ => r = some (.int 1)
theorem zrsub {C : zCT} {d : Nat} {M : zM} {E : zX} {tab : List zM} {mc ms : Nat} {Q : zQ} {R : zS → Prop} (cd : List zE) (h : cd.all (fun e => decide (zat M.2.2.2.2.2 e.1 = some e.2)) = true) (hR : ∀ y, zstep C d M E tab mc ms Q y R → R y) : ∀ {pc : Nat} {L : zL} {S : List Value} {w : zW} {k n : Nat}, zsc C d (M.1, M.2.1, M.2.2.1, M.2.2.2.1, M.2.2.2.2.1, cd) E tab mc ms Q pc L S w k n R → R (pc, L, S, w, k, n) := by
  intro pc L S w k n hy
  refine hR (pc, L, S, w, k, n) ?_
  unfold zsc at hy
  unfold zstep
  dsimp only at hy ⊢
  split at hy
  · exact hy.elim
  · rename_i r hr
    have h1 := List.all_eq_true.mp h _ (zat_mem hr)
    rw [of_decide_eq_true h1]
    exact hy
theorem l_v1 : vp_in (Int32.ofInt 0 + Int32.ofInt 1) 7 := by unfold vp_in; decide
theorem l_v2 : vp_in (Int32.ofInt 0 + Int32.ofInt 2) 7 := by unfold vp_in; decide
theorem l_v3 : vp_in (Int32.ofInt 0 + Int32.ofInt 3) 7 := by unfold vp_in; decide
theorem l_v4 : vp_in (Int32.ofInt 0 + Int32.ofInt 4) 7 := by unfold vp_in; decide
theorem l_v5 : vp_in (Int32.ofInt 0 + Int32.ofInt 5) 7 := by unfold vp_in; decide
theorem l_v6 : vp_in (Int32.ofInt 0 + Int32.ofInt 6) 7 := by unfold vp_in; decide
theorem l_gt : Int32.ofNat 7 - (Int8.ofInt 7).toInt32 < Int32.ofInt 0 + Int32.ofInt 7 := by decide
def qLe : List zE := [(18, .iload_n 3, 19, 0, 0), (19, .aload_n 0, 20, 0, 0), (20, .arraylength, 21, 0, 0), (21, .bipush 7, 23, 0, 0), (23, .isub, 24, 0, 0), (24, .if_icmp .gt 1825, 27, 1849, 0), (1843, .iinc 3 7, 1846, 0, 0), (1846, .goto (-1828), 1849, 18, 0), (1849, .iconst 1, 1850, 0, 0), (1850, .ireturn, 1851, 0, 0)]
theorem sLe : qLe.all (fun e => decide (zat kL_law.2.2.2.2.2 e.1 = some e.2)) = true := by decide +kernel
theorem l_end {R : zS → Prop} {xs : Nat → Int32} (hR : ∀ y, zstep (zCl zTab 12) 12 kL_law (some (7, xs)) zTab 600000 7302250 zLQ y R → R y) (w : zW) (k n : Nat) (hk : k ≤ 600000) (hn : n ≤ 7302250) : R (1843, [some (.retAddr 0), some (.ref 0), some (.ref 14), some (.int (Int32.ofInt 0))], [], w, k, n) := by
  have hR := @zrsub _ _ _ _ _ _ _ _ _ qLe sLe hR
  iterate 7 refine hR (?_ : R (_, _, _, _, _, _))
  refine hR (And.intro (fun _ => ?_) (fun hc => absurd l_gt hc))
  refine hR (?_ : R (_, _, _, _, _, _))
  exact hR (⟨⟨hk, hn⟩, Or.inr rfl, rfl⟩ : (k ≤ 600000 ∧ n ≤ 7302250) ∧ (_ ∨ _) ∧ _)
def qL0 : List zE := [(192, .aload_n 1, 193, 0, 0), (193, .aload_n 0, 194, 0, 0), (194, .iload_n 3, 195, 0, 0), (195, .iconst 1, 196, 0, 0), (196, .iadd, 197, 0, 0), (197, .iaload, 198, 0, 0), (198, .aload_n 0, 199, 0, 0), (199, .iload_n 3, 200, 0, 0), (200, .iconst 2, 201, 0, 0), (201, .iadd, 202, 0, 0), (202, .iaload, 203, 0, 0), (203, .aload_n 0, 204, 0, 0), (204, .iload_n 3, 205, 0, 0), (205, .iconst 3, 206, 0, 0), (206, .iadd, 207, 0, 0), (207, .iaload, 208, 0, 0), (208, .aload_n 0, 209, 0, 0), (209, .iload_n 3, 210, 0, 0), (210, .iconst 4, 211, 0, 0), (211, .iadd, 212, 0, 0), (212, .iaload, 213, 0, 0), (213, .aload_n 0, 214, 0, 0), (214, .iload_n 3, 215, 0, 0), (215, .iconst 5, 216, 0, 0), (216, .iadd, 217, 0, 0), (217, .iaload, 218, 0, 0), (218, .invokevirtual 13, 221, 2, 5), (221, .aload_n 2, 222, 0, 0), (222, .aload_n 0, 223, 0, 0), (223, .iload_n 3, 224, 0, 0), (224, .iconst 1, 225, 0, 0), (225, .iadd, 226, 0, 0), (226, .iaload, 227, 0, 0), (227, .aload_n 0, 228, 0, 0), (228, .iload_n 3, 229, 0, 0), (229, .iconst 2, 230, 0, 0), (230, .iadd, 231, 0, 0), (231, .iaload, 232, 0, 0), (232, .aload_n 0, 233, 0, 0), (233, .iload_n 3, 234, 0, 0), (234, .iconst 3, 235, 0, 0), (235, .iadd, 236, 0, 0), (236, .iaload, 237, 0, 0), (237, .aload_n 0, 238, 0, 0), (238, .iload_n 3, 239, 0, 0), (239, .iconst 4, 240, 0, 0), (240, .iadd, 241, 0, 0), (241, .iaload, 242, 0, 0), (242, .aload_n 0, 243, 0, 0), (243, .iload_n 3, 244, 0, 0), (244, .iconst 5, 245, 0, 0), (245, .iadd, 246, 0, 0), (246, .iaload, 247, 0, 0), (247, .invokevirtual 17, 250, 67, 5), (250, .if_icmp .eq 1593, 253, 1843, 0), (253, .iconst 0, 254, 0, 0), (254, .ireturn, 255, 0, 0)]
theorem sL0 : qL0.all (fun e => decide (zat kL_law.2.2.2.2.2 e.1 = some e.2)) = true := by decide +kernel
theorem l_c0 {R : zS → Prop} {xs : Nat → Int32} (hR : ∀ y, zstep (zCl zTab 12) 12 kL_law (some (7, xs)) zTab 600000 7302250 zLQ y R → R y) : R (192, [some (.retAddr 0), some (.ref 0), some (.ref 14), some (.int (Int32.ofInt 0))], [], zCw (zMf []), 45, 272400) := by
  have hR0 := hR
  have hR := @zrsub _ _ _ _ _ _ _ _ _ qL0 sL0 hR
  iterate 5 refine hR (?_ : R (_, _, _, _, _, _))
  refine hR (And.intro l_v1 ?_)
  iterate 4 refine hR (?_ : R (_, _, _, _, _, _))
  refine hR (And.intro l_v2 ?_)
  iterate 4 refine hR (?_ : R (_, _, _, _, _, _))
  refine hR (And.intro l_v3 ?_)
  iterate 4 refine hR (?_ : R (_, _, _, _, _, _))
  refine hR (And.intro l_v4 ?_)
  iterate 4 refine hR (?_ : R (_, _, _, _, _, _))
  refine hR (And.intro l_v5 ?_)
  refine hR (zcall_i 0 0 (Nat.le_of_ble_eq_true rfl) (Nat.le_of_ble_eq_true rfl) (r_feed _ _ _ _ _ _ _ (fun _ _ _ _ _ _ _ _ _ _ _ _ _ _ _ => ?_)))
  iterate 5 refine hR (?_ : R (_, _, _, _, _, _))
  refine hR (And.intro l_v1 ?_)
  iterate 4 refine hR (?_ : R (_, _, _, _, _, _))
  refine hR (And.intro l_v2 ?_)
  iterate 4 refine hR (?_ : R (_, _, _, _, _, _))
  refine hR (And.intro l_v3 ?_)
  iterate 4 refine hR (?_ : R (_, _, _, _, _, _))
  refine hR (And.intro l_v4 ?_)
  iterate 4 refine hR (?_ : R (_, _, _, _, _, _))
  refine hR (And.intro l_v5 ?_)
  refine hR (zcall_i 0 0 (Nat.le_of_ble_eq_true rfl) (Nat.le_of_ble_eq_true rfl) (m_feed _ _ _ _ _ _ _ (fun _ => ?_)))
  refine hR (And.intro (fun _ => ?_) (fun hc => absurd rfl hc))
  exact l_end hR0 _ _ _ (Nat.le_of_ble_eq_true rfl) (Nat.le_of_ble_eq_true rfl)
def qL1 : List zE := [(255, .aload_n 1, 256, 0, 0), (256, .aload_n 0, 257, 0, 0), (257, .iload_n 3, 258, 0, 0), (258, .iconst 1, 259, 0, 0), (259, .iadd, 260, 0, 0), (260, .iaload, 261, 0, 0), (261, .invokevirtual 18, 264, 3, 1), (264, .aload_n 2, 265, 0, 0), (265, .aload_n 0, 266, 0, 0), (266, .iload_n 3, 267, 0, 0), (267, .iconst 1, 268, 0, 0), (268, .iadd, 269, 0, 0), (269, .iaload, 270, 0, 0), (270, .invokevirtual 22, 273, 68, 1), (273, .if_icmp .eq 1570, 276, 1843, 0), (276, .iconst 0, 277, 0, 0), (277, .ireturn, 278, 0, 0)]
theorem sL1 : qL1.all (fun e => decide (zat kL_law.2.2.2.2.2 e.1 = some e.2)) = true := by decide +kernel
theorem l_c1 {R : zS → Prop} {xs : Nat → Int32} (hR : ∀ y, zstep (zCl zTab 12) 12 kL_law (some (7, xs)) zTab 600000 7302250 zLQ y R → R y) : R (255, [some (.retAddr 0), some (.ref 0), some (.ref 14), some (.int (Int32.ofInt 0))], [], zCw (zMf []), 45, 272400) := by
  have hR0 := hR
  have hR := @zrsub _ _ _ _ _ _ _ _ _ qL1 sL1 hR
  iterate 5 refine hR (?_ : R (_, _, _, _, _, _))
  refine hR (And.intro l_v1 ?_)
  refine hR (zcall_i 0 0 (Nat.le_of_ble_eq_true rfl) (Nat.le_of_ble_eq_true rfl) (r_end _ _ _ (fun _ _ _ _ _ _ _ _ _ _ _ _ _ _ _ => ?_)))
  iterate 5 refine hR (?_ : R (_, _, _, _, _, _))
  refine hR (And.intro l_v1 ?_)
  refine hR (zcall_i 0 0 (Nat.le_of_ble_eq_true rfl) (Nat.le_of_ble_eq_true rfl) (m_end _ _ _ (fun _ => ?_)))
  refine hR (And.intro (fun _ => ?_) (fun hc => absurd rfl hc))
  exact l_end hR0 _ _ _ (Nat.le_of_ble_eq_true rfl) (Nat.le_of_ble_eq_true rfl)
theorem r_textY0 (d : Nat) (n a : Int32) (hn : n = 0) (ha : a = -1) (Q : zQ) (h : ∀ c0 c1 c2 c3 c4 c5 c6 c7 c8 c9 c10 c11 c12 c13 t, Q (some (.int 0)) (c0 :: c1 :: c2 :: c3 :: c4 :: c5 :: c6 :: c7 :: c8 :: c9 :: c10 :: c11 :: c12 :: c13 :: zMf t)) : zCl zTab (d + 5) iX11_text [.ref 0, .int n, .int a] (zCw (zMf [])) 5 56 Q := by
  subst hn ha
  exact r_text0 d Q h
theorem m_textY0 {c0 c1 c2 c3 c4 c5 c6 c7 c8 c9 c10 c11 c12 c13 : va_E} {t : zW} (d : Nat) (n a : Int32) (hn : n = 0) (ha : a = -1) (Q : zQ) (h : ∀ w, Q (some (.int 0)) w) : zCl zTab (d + 4) iX12_text [.ref 14, .int n, .int a] (c0 :: c1 :: c2 :: c3 :: c4 :: c5 :: c6 :: c7 :: c8 :: c9 :: c10 :: c11 :: c12 :: c13 :: zMf t) 0 0 Q := by
  subst hn ha
  exact m_text0 d Q h
def qL2 : List zE := [(278, .aload_n 1, 279, 0, 0), (279, .aload_n 0, 280, 0, 0), (280, .iload_n 3, 281, 0, 0), (281, .iconst 1, 282, 0, 0), (282, .iadd, 283, 0, 0), (283, .iaload, 284, 0, 0), (284, .aload_n 0, 285, 0, 0), (285, .iload_n 3, 286, 0, 0), (286, .iconst 2, 287, 0, 0), (287, .iadd, 288, 0, 0), (288, .iaload, 289, 0, 0), (289, .invokevirtual 23, 292, 4, 2), (292, .aload_n 2, 293, 0, 0), (293, .aload_n 0, 294, 0, 0), (294, .iload_n 3, 295, 0, 0), (295, .iconst 1, 296, 0, 0), (296, .iadd, 297, 0, 0), (297, .iaload, 298, 0, 0), (298, .aload_n 0, 299, 0, 0), (299, .iload_n 3, 300, 0, 0), (300, .iconst 2, 301, 0, 0), (301, .iadd, 302, 0, 0), (302, .iaload, 303, 0, 0), (303, .invokevirtual 27, 306, 69, 2), (306, .if_icmp .eq 1537, 309, 1843, 0), (309, .iconst 0, 310, 0, 0), (310, .ireturn, 311, 0, 0)]
theorem sL2 : qL2.all (fun e => decide (zat kL_law.2.2.2.2.2 e.1 = some e.2)) = true := by decide +kernel
theorem l_c2Y0 {R : zS → Prop} {xs : Nat → Int32} (hR : ∀ y, zstep (zCl zTab 12) 12 kL_law (some (7, xs)) zTab 600000 7302250 zLQ y R → R y) (hn : xs (Int32.ofInt 0 + Int32.ofInt 1).toNatClampNeg = 0) (ha : xs (Int32.ofInt 0 + Int32.ofInt 2).toNatClampNeg = -1) : R (278, [some (.retAddr 0), some (.ref 0), some (.ref 14), some (.int (Int32.ofInt 0))], [], zCw (zMf []), 45, 272400) := by
  have hR0 := hR
  have hR := @zrsub _ _ _ _ _ _ _ _ _ qL2 sL2 hR
  iterate 5 refine hR (?_ : R (_, _, _, _, _, _))
  refine hR (And.intro l_v1 ?_)
  iterate 4 refine hR (?_ : R (_, _, _, _, _, _))
  refine hR (And.intro l_v2 ?_)
  refine hR (zcall_i 5 56 (Nat.le_of_ble_eq_true rfl) (Nat.le_of_ble_eq_true rfl) (r_textY0 _ _ _ hn ha _ (fun _ _ _ _ _ _ _ _ _ _ _ _ _ _ _ => ?_)))
  iterate 5 refine hR (?_ : R (_, _, _, _, _, _))
  refine hR (And.intro l_v1 ?_)
  iterate 4 refine hR (?_ : R (_, _, _, _, _, _))
  refine hR (And.intro l_v2 ?_)
  refine hR (zcall_i 0 0 (Nat.le_of_ble_eq_true rfl) (Nat.le_of_ble_eq_true rfl) (m_textY0 _ _ _ hn ha _ (fun _ => ?_)))
  refine hR (And.intro (fun _ => ?_) (fun hc => absurd rfl hc))
  exact l_end hR0 _ _ _ (Nat.le_of_ble_eq_true rfl) (Nat.le_of_ble_eq_true rfl)
theorem r_textY1 (d : Nat) (n a : Int32) (hn : n = 1) (ha : a = -1) (Q : zQ) (h : ∀ c0 c1 c2 c3 c4 c5 c6 c7 c8 c9 c10 c11 c12 c13 t, Q (some (.int 0)) (c0 :: c1 :: c2 :: c3 :: c4 :: c5 :: c6 :: c7 :: c8 :: c9 :: c10 :: c11 :: c12 :: c13 :: zMf t)) : zCl zTab (d + 5) iX11_text [.ref 0, .int n, .int a] (zCw (zMf [])) 4 124 Q := by
  subst hn ha
  exact r_text1 d Q h
theorem m_textY1 {c0 c1 c2 c3 c4 c5 c6 c7 c8 c9 c10 c11 c12 c13 : va_E} {t : zW} (d : Nat) (n a : Int32) (hn : n = 1) (ha : a = -1) (Q : zQ) (h : ∀ w, Q (some (.int 0)) w) : zCl zTab (d + 4) iX12_text [.ref 14, .int n, .int a] (c0 :: c1 :: c2 :: c3 :: c4 :: c5 :: c6 :: c7 :: c8 :: c9 :: c10 :: c11 :: c12 :: c13 :: zMf t) 0 0 Q := by
  subst hn ha
  exact m_text1 d Q h
theorem l_c2Y1 {R : zS → Prop} {xs : Nat → Int32} (hR : ∀ y, zstep (zCl zTab 12) 12 kL_law (some (7, xs)) zTab 600000 7302250 zLQ y R → R y) (hn : xs (Int32.ofInt 0 + Int32.ofInt 1).toNatClampNeg = 1) (ha : xs (Int32.ofInt 0 + Int32.ofInt 2).toNatClampNeg = -1) : R (278, [some (.retAddr 0), some (.ref 0), some (.ref 14), some (.int (Int32.ofInt 0))], [], zCw (zMf []), 45, 272400) := by
  have hR0 := hR
  have hR := @zrsub _ _ _ _ _ _ _ _ _ qL2 sL2 hR
  iterate 5 refine hR (?_ : R (_, _, _, _, _, _))
  refine hR (And.intro l_v1 ?_)
  iterate 4 refine hR (?_ : R (_, _, _, _, _, _))
  refine hR (And.intro l_v2 ?_)
  refine hR (zcall_i 4 124 (Nat.le_of_ble_eq_true rfl) (Nat.le_of_ble_eq_true rfl) (r_textY1 _ _ _ hn ha _ (fun _ _ _ _ _ _ _ _ _ _ _ _ _ _ _ => ?_)))
  iterate 5 refine hR (?_ : R (_, _, _, _, _, _))
  refine hR (And.intro l_v1 ?_)
  iterate 4 refine hR (?_ : R (_, _, _, _, _, _))
  refine hR (And.intro l_v2 ?_)
  refine hR (zcall_i 0 0 (Nat.le_of_ble_eq_true rfl) (Nat.le_of_ble_eq_true rfl) (m_textY1 _ _ _ hn ha _ (fun _ => ?_)))
  refine hR (And.intro (fun _ => ?_) (fun hc => absurd rfl hc))
  exact l_end hR0 _ _ _ (Nat.le_of_ble_eq_true rfl) (Nat.le_of_ble_eq_true rfl)
theorem r_textY2 (d : Nat) (n a : Int32) (hn : n = 2) (ha : a = -1) (Q : zQ) (h : ∀ c0 c1 c2 c3 c4 c5 c6 c7 c8 c9 c10 c11 c12 c13 t, Q (some (.int 0)) (c0 :: c1 :: c2 :: c3 :: c4 :: c5 :: c6 :: c7 :: c8 :: c9 :: c10 :: c11 :: c12 :: c13 :: zMf t)) : zCl zTab (d + 5) iX11_text [.ref 0, .int n, .int a] (zCw (zMf [])) 3 15 Q := by
  subst hn ha
  exact r_text2 d Q h
theorem m_textY2 {c0 c1 c2 c3 c4 c5 c6 c7 c8 c9 c10 c11 c12 c13 : va_E} {t : zW} (d : Nat) (n a : Int32) (hn : n = 2) (ha : a = -1) (Q : zQ) (h : ∀ w, Q (some (.int 0)) w) : zCl zTab (d + 4) iX12_text [.ref 14, .int n, .int a] (c0 :: c1 :: c2 :: c3 :: c4 :: c5 :: c6 :: c7 :: c8 :: c9 :: c10 :: c11 :: c12 :: c13 :: zMf t) 0 0 Q := by
  subst hn ha
  exact m_text2 d Q h
theorem l_c2Y2 {R : zS → Prop} {xs : Nat → Int32} (hR : ∀ y, zstep (zCl zTab 12) 12 kL_law (some (7, xs)) zTab 600000 7302250 zLQ y R → R y) (hn : xs (Int32.ofInt 0 + Int32.ofInt 1).toNatClampNeg = 2) (ha : xs (Int32.ofInt 0 + Int32.ofInt 2).toNatClampNeg = -1) : R (278, [some (.retAddr 0), some (.ref 0), some (.ref 14), some (.int (Int32.ofInt 0))], [], zCw (zMf []), 45, 272400) := by
  have hR0 := hR
  have hR := @zrsub _ _ _ _ _ _ _ _ _ qL2 sL2 hR
  iterate 5 refine hR (?_ : R (_, _, _, _, _, _))
  refine hR (And.intro l_v1 ?_)
  iterate 4 refine hR (?_ : R (_, _, _, _, _, _))
  refine hR (And.intro l_v2 ?_)
  refine hR (zcall_i 3 15 (Nat.le_of_ble_eq_true rfl) (Nat.le_of_ble_eq_true rfl) (r_textY2 _ _ _ hn ha _ (fun _ _ _ _ _ _ _ _ _ _ _ _ _ _ _ => ?_)))
  iterate 5 refine hR (?_ : R (_, _, _, _, _, _))
  refine hR (And.intro l_v1 ?_)
  iterate 4 refine hR (?_ : R (_, _, _, _, _, _))
  refine hR (And.intro l_v2 ?_)
  refine hR (zcall_i 0 0 (Nat.le_of_ble_eq_true rfl) (Nat.le_of_ble_eq_true rfl) (m_textY2 _ _ _ hn ha _ (fun _ => ?_)))
  refine hR (And.intro (fun _ => ?_) (fun hc => absurd rfl hc))
  exact l_end hR0 _ _ _ (Nat.le_of_ble_eq_true rfl) (Nat.le_of_ble_eq_true rfl)
theorem l_c2N {R : zS → Prop} {xs : Nat → Int32} (hR : ∀ y, zstep (zCl zTab 12) 12 kL_law (some (7, xs)) zTab 600000 7302250 zLQ y R → R y) (hn : (xs (Int32.ofInt 0 + Int32.ofInt 1).toNatClampNeg < 0 ∨ 3 ≤ xs (Int32.ofInt 0 + Int32.ofInt 1).toNatClampNeg) ∨ ¬ xs (Int32.ofInt 0 + Int32.ofInt 2).toNatClampNeg = -1) : R (278, [some (.retAddr 0), some (.ref 0), some (.ref 14), some (.int (Int32.ofInt 0))], [], zCw (zMf []), 45, 272400) := by
  have hR0 := hR
  have hR := @zrsub _ _ _ _ _ _ _ _ _ qL2 sL2 hR
  iterate 5 refine hR (?_ : R (_, _, _, _, _, _))
  refine hR (And.intro l_v1 ?_)
  iterate 4 refine hR (?_ : R (_, _, _, _, _, _))
  refine hR (And.intro l_v2 ?_)
  refine hR (zcall_i 0 0 (Nat.le_of_ble_eq_true rfl) (Nat.le_of_ble_eq_true rfl) (r_textN _ _ _ hn _ (fun _ _ _ _ _ _ _ _ _ _ _ _ _ _ _ => ?_)))
  iterate 5 refine hR (?_ : R (_, _, _, _, _, _))
  refine hR (And.intro l_v1 ?_)
  iterate 4 refine hR (?_ : R (_, _, _, _, _, _))
  refine hR (And.intro l_v2 ?_)
  refine hR (zcall_i 0 0 (Nat.le_of_ble_eq_true rfl) (Nat.le_of_ble_eq_true rfl) (m_textN _ _ _ hn _ (fun _ => ?_)))
  refine hR (And.intro (fun _ => ?_) (fun hc => absurd rfl hc))
  exact l_end hR0 _ _ _ (Nat.le_of_ble_eq_true rfl) (Nat.le_of_ble_eq_true rfl)
theorem l_c2 {R : zS → Prop} {xs : Nat → Int32} (hR : ∀ y, zstep (zCl zTab 12) 12 kL_law (some (7, xs)) zTab 600000 7302250 zLQ y R → R y) : R (278, [some (.retAddr 0), some (.ref 0), some (.ref 14), some (.int (Int32.ofInt 0))], [], zCw (zMf []), 45, 272400) := by
  by_cases ha : xs (Int32.ofInt 0 + Int32.ofInt 2).toNatClampNeg = -1
  · by_cases h0 : xs (Int32.ofInt 0 + Int32.ofInt 1).toNatClampNeg < 0
    · exact l_c2N hR (Or.inl (Or.inl h0))
    by_cases h1 : xs (Int32.ofInt 0 + Int32.ofInt 1).toNatClampNeg < 3
    · rcases z012 h0 h1 with h | h | h
      · exact l_c2Y0 hR h ha
      · exact l_c2Y1 hR h ha
      · exact l_c2Y2 hR h ha
    · exact l_c2N hR (Or.inl (Or.inr (Int32.not_lt.mp h1)))
  · exact l_c2N hR (Or.inr ha)
def qL3 : List zE := [(311, .aload_n 1, 312, 0, 0), (312, .aload_n 0, 313, 0, 0), (313, .iload_n 3, 314, 0, 0), (314, .iconst 1, 315, 0, 0), (315, .iadd, 316, 0, 0), (316, .iaload, 317, 0, 0), (317, .invokevirtual 28, 320, 5, 1), (320, .aload_n 2, 321, 0, 0), (321, .aload_n 0, 322, 0, 0), (322, .iload_n 3, 323, 0, 0), (323, .iconst 1, 324, 0, 0), (324, .iadd, 325, 0, 0), (325, .iaload, 326, 0, 0), (326, .invokevirtual 31, 329, 70, 1), (329, .if_icmp .eq 1514, 332, 1843, 0), (332, .iconst 0, 333, 0, 0), (333, .ireturn, 334, 0, 0)]
theorem sL3 : qL3.all (fun e => decide (zat kL_law.2.2.2.2.2 e.1 = some e.2)) = true := by decide +kernel
theorem l_c3 {R : zS → Prop} {xs : Nat → Int32} (hR : ∀ y, zstep (zCl zTab 12) 12 kL_law (some (7, xs)) zTab 600000 7302250 zLQ y R → R y) : R (311, [some (.retAddr 0), some (.ref 0), some (.ref 14), some (.int (Int32.ofInt 0))], [], zCw (zMf []), 45, 272400) := by
  have hR0 := hR
  have hR := @zrsub _ _ _ _ _ _ _ _ _ qL3 sL3 hR
  iterate 5 refine hR (?_ : R (_, _, _, _, _, _))
  refine hR (And.intro l_v1 ?_)
  refine hR (zcall_i 0 0 (Nat.le_of_ble_eq_true rfl) (Nat.le_of_ble_eq_true rfl) (r_fault _ _ _ (fun _ _ _ _ _ _ _ _ _ _ _ _ _ _ _ => ?_)))
  iterate 5 refine hR (?_ : R (_, _, _, _, _, _))
  refine hR (And.intro l_v1 ?_)
  refine hR (zcall_i 0 0 (Nat.le_of_ble_eq_true rfl) (Nat.le_of_ble_eq_true rfl) (m_fault _ _ _ (fun _ => ?_)))
  refine hR (And.intro (fun _ => ?_) (fun hc => absurd rfl hc))
  exact l_end hR0 _ _ _ (Nat.le_of_ble_eq_true rfl) (Nat.le_of_ble_eq_true rfl)
end
section
def qL4 : List zE := [(334, .aload_n 1, 335, 0, 0), (335, .aload_n 0, 336, 0, 0), (336, .iload_n 3, 337, 0, 0), (337, .iconst 1, 338, 0, 0), (338, .iadd, 339, 0, 0), (339, .iaload, 340, 0, 0), (340, .aload_n 0, 341, 0, 0), (341, .iload_n 3, 342, 0, 0), (342, .iconst 2, 343, 0, 0), (343, .iadd, 344, 0, 0), (344, .iaload, 345, 0, 0), (345, .invokevirtual 32, 348, 6, 2), (348, .aload_n 2, 349, 0, 0), (349, .aload_n 0, 350, 0, 0), (350, .iload_n 3, 351, 0, 0), (351, .iconst 1, 352, 0, 0), (352, .iadd, 353, 0, 0), (353, .iaload, 354, 0, 0), (354, .aload_n 0, 355, 0, 0), (355, .iload_n 3, 356, 0, 0), (356, .iconst 2, 357, 0, 0), (357, .iadd, 358, 0, 0), (358, .iaload, 359, 0, 0), (359, .invokevirtual 35, 362, 71, 2), (362, .if_icmp .eq 1481, 365, 1843, 0), (365, .iconst 0, 366, 0, 0), (366, .ireturn, 367, 0, 0)]
theorem sL4 : qL4.all (fun e => decide (zat kL_law.2.2.2.2.2 e.1 = some e.2)) = true := by decide +kernel
theorem l_c4 {R : zS → Prop} {xs : Nat → Int32} (hR : ∀ y, zstep (zCl zTab 12) 12 kL_law (some (7, xs)) zTab 600000 7302250 zLQ y R → R y) : R (334, [some (.retAddr 0), some (.ref 0), some (.ref 14), some (.int (Int32.ofInt 0))], [], zCw (zMf []), 45, 272400) := by
  have hR0 := hR
  have hR := @zrsub _ _ _ _ _ _ _ _ _ qL4 sL4 hR
  iterate 5 refine hR (?_ : R (_, _, _, _, _, _))
  refine hR (And.intro l_v1 ?_)
  iterate 4 refine hR (?_ : R (_, _, _, _, _, _))
  refine hR (And.intro l_v2 ?_)
  refine hR (zcall_i 0 0 (Nat.le_of_ble_eq_true rfl) (Nat.le_of_ble_eq_true rfl) (r_book _ _ _ _ _ ?_))
  iterate 5 refine hR (?_ : R (_, _, _, _, _, _))
  refine hR (And.intro l_v1 ?_)
  iterate 4 refine hR (?_ : R (_, _, _, _, _, _))
  refine hR (And.intro l_v2 ?_)
  refine hR (zcall_i 0 0 (Nat.le_of_ble_eq_true rfl) (Nat.le_of_ble_eq_true rfl) (m_book _ _ _ _ (fun _ => ?_)))
  refine hR (And.intro (fun _ => ?_) (fun hc => absurd rfl hc))
  exact l_end hR0 _ _ _ (Nat.le_of_ble_eq_true rfl) (Nat.le_of_ble_eq_true rfl)
def qL7 : List zE := [(433, .aload_n 1, 434, 0, 0), (434, .aload_n 0, 435, 0, 0), (435, .iload_n 3, 436, 0, 0), (436, .iconst 1, 437, 0, 0), (437, .iadd, 438, 0, 0), (438, .iaload, 439, 0, 0), (439, .aload_n 0, 440, 0, 0), (440, .iload_n 3, 441, 0, 0), (441, .iconst 2, 442, 0, 0), (442, .iadd, 443, 0, 0), (443, .iaload, 444, 0, 0), (444, .aload_n 0, 445, 0, 0), (445, .iload_n 3, 446, 0, 0), (446, .iconst 3, 447, 0, 0), (447, .iadd, 448, 0, 0), (448, .iaload, 449, 0, 0), (449, .invokevirtual 44, 452, 9, 3), (452, .aload_n 2, 453, 0, 0), (453, .aload_n 0, 454, 0, 0), (454, .iload_n 3, 455, 0, 0), (455, .iconst 1, 456, 0, 0), (456, .iadd, 457, 0, 0), (457, .iaload, 458, 0, 0), (458, .aload_n 0, 459, 0, 0), (459, .iload_n 3, 460, 0, 0), (460, .iconst 2, 461, 0, 0), (461, .iadd, 462, 0, 0), (462, .iaload, 463, 0, 0), (463, .aload_n 0, 464, 0, 0), (464, .iload_n 3, 465, 0, 0), (465, .iconst 3, 466, 0, 0), (466, .iadd, 467, 0, 0), (467, .iaload, 468, 0, 0), (468, .invokevirtual 48, 471, 74, 3), (471, .if_icmp .eq 1372, 474, 1843, 0), (474, .iconst 0, 475, 0, 0), (475, .ireturn, 476, 0, 0)]
theorem sL7 : qL7.all (fun e => decide (zat kL_law.2.2.2.2.2 e.1 = some e.2)) = true := by decide +kernel
theorem l_c7 {R : zS → Prop} {xs : Nat → Int32} (hR : ∀ y, zstep (zCl zTab 12) 12 kL_law (some (7, xs)) zTab 600000 7302250 zLQ y R → R y) : R (433, [some (.retAddr 0), some (.ref 0), some (.ref 14), some (.int (Int32.ofInt 0))], [], zCw (zMf []), 45, 272400) := by
  have hR0 := hR
  have hR := @zrsub _ _ _ _ _ _ _ _ _ qL7 sL7 hR
  iterate 5 refine hR (?_ : R (_, _, _, _, _, _))
  refine hR (And.intro l_v1 ?_)
  iterate 4 refine hR (?_ : R (_, _, _, _, _, _))
  refine hR (And.intro l_v2 ?_)
  iterate 4 refine hR (?_ : R (_, _, _, _, _, _))
  refine hR (And.intro l_v3 ?_)
  refine hR (zcall_i 0 0 (Nat.le_of_ble_eq_true rfl) (Nat.le_of_ble_eq_true rfl) (r_read _ _ _ _ _ _ ?_))
  iterate 5 refine hR (?_ : R (_, _, _, _, _, _))
  refine hR (And.intro l_v1 ?_)
  iterate 4 refine hR (?_ : R (_, _, _, _, _, _))
  refine hR (And.intro l_v2 ?_)
  iterate 4 refine hR (?_ : R (_, _, _, _, _, _))
  refine hR (And.intro l_v3 ?_)
  refine hR (zcall_i 0 0 (Nat.le_of_ble_eq_true rfl) (Nat.le_of_ble_eq_true rfl) (m_read _ _ _ _ _ (fun _ => ?_)))
  refine hR (And.intro (fun _ => ?_) (fun hc => absurd rfl hc))
  exact l_end hR0 _ _ _ (Nat.le_of_ble_eq_true rfl) (Nat.le_of_ble_eq_true rfl)
def qL8 : List zE := [(476, .aload_n 1, 477, 0, 0), (477, .aload_n 0, 478, 0, 0), (478, .iload_n 3, 479, 0, 0), (479, .iconst 1, 480, 0, 0), (480, .iadd, 481, 0, 0), (481, .iaload, 482, 0, 0), (482, .aload_n 0, 483, 0, 0), (483, .iload_n 3, 484, 0, 0), (484, .iconst 2, 485, 0, 0), (485, .iadd, 486, 0, 0), (486, .iaload, 487, 0, 0), (487, .aload_n 0, 488, 0, 0), (488, .iload_n 3, 489, 0, 0), (489, .iconst 3, 490, 0, 0), (490, .iadd, 491, 0, 0), (491, .iaload, 492, 0, 0), (492, .invokevirtual 49, 495, 10, 3), (495, .aload_n 2, 496, 0, 0), (496, .aload_n 0, 497, 0, 0), (497, .iload_n 3, 498, 0, 0), (498, .iconst 1, 499, 0, 0), (499, .iadd, 500, 0, 0), (500, .iaload, 501, 0, 0), (501, .aload_n 0, 502, 0, 0), (502, .iload_n 3, 503, 0, 0), (503, .iconst 2, 504, 0, 0), (504, .iadd, 505, 0, 0), (505, .iaload, 506, 0, 0), (506, .aload_n 0, 507, 0, 0), (507, .iload_n 3, 508, 0, 0), (508, .iconst 3, 509, 0, 0), (509, .iadd, 510, 0, 0), (510, .iaload, 511, 0, 0), (511, .invokevirtual 52, 514, 75, 3), (514, .if_icmp .eq 1329, 517, 1843, 0), (517, .iconst 0, 518, 0, 0), (518, .ireturn, 519, 0, 0)]
theorem sL8 : qL8.all (fun e => decide (zat kL_law.2.2.2.2.2 e.1 = some e.2)) = true := by decide +kernel
theorem l_c8 {R : zS → Prop} {xs : Nat → Int32} (hR : ∀ y, zstep (zCl zTab 12) 12 kL_law (some (7, xs)) zTab 600000 7302250 zLQ y R → R y) : R (476, [some (.retAddr 0), some (.ref 0), some (.ref 14), some (.int (Int32.ofInt 0))], [], zCw (zMf []), 45, 272400) := by
  have hR0 := hR
  have hR := @zrsub _ _ _ _ _ _ _ _ _ qL8 sL8 hR
  iterate 5 refine hR (?_ : R (_, _, _, _, _, _))
  refine hR (And.intro l_v1 ?_)
  iterate 4 refine hR (?_ : R (_, _, _, _, _, _))
  refine hR (And.intro l_v2 ?_)
  iterate 4 refine hR (?_ : R (_, _, _, _, _, _))
  refine hR (And.intro l_v3 ?_)
  refine hR (zcall_i 0 0 (Nat.le_of_ble_eq_true rfl) (Nat.le_of_ble_eq_true rfl) (r_deed _ _ _ _ _ _ ?_))
  iterate 5 refine hR (?_ : R (_, _, _, _, _, _))
  refine hR (And.intro l_v1 ?_)
  iterate 4 refine hR (?_ : R (_, _, _, _, _, _))
  refine hR (And.intro l_v2 ?_)
  iterate 4 refine hR (?_ : R (_, _, _, _, _, _))
  refine hR (And.intro l_v3 ?_)
  refine hR (zcall_i 0 0 (Nat.le_of_ble_eq_true rfl) (Nat.le_of_ble_eq_true rfl) (m_deed _ _ _ _ _ (fun _ => ?_)))
  refine hR (And.intro (fun _ => ?_) (fun hc => absurd rfl hc))
  exact l_end hR0 _ _ _ (Nat.le_of_ble_eq_true rfl) (Nat.le_of_ble_eq_true rfl)
def qL9 : List zE := [(519, .aload_n 1, 520, 0, 0), (520, .aload_n 0, 521, 0, 0), (521, .iload_n 3, 522, 0, 0), (522, .iconst 1, 523, 0, 0), (523, .iadd, 524, 0, 0), (524, .iaload, 525, 0, 0), (525, .aload_n 0, 526, 0, 0), (526, .iload_n 3, 527, 0, 0), (527, .iconst 2, 528, 0, 0), (528, .iadd, 529, 0, 0), (529, .iaload, 530, 0, 0), (530, .invokevirtual 53, 533, 11, 2), (533, .aload_n 2, 534, 0, 0), (534, .aload_n 0, 535, 0, 0), (535, .iload_n 3, 536, 0, 0), (536, .iconst 1, 537, 0, 0), (537, .iadd, 538, 0, 0), (538, .iaload, 539, 0, 0), (539, .aload_n 0, 540, 0, 0), (540, .iload_n 3, 541, 0, 0), (541, .iconst 2, 542, 0, 0), (542, .iadd, 543, 0, 0), (543, .iaload, 544, 0, 0), (544, .invokevirtual 56, 547, 76, 2), (547, .if_icmp .eq 1296, 550, 1843, 0), (550, .iconst 0, 551, 0, 0), (551, .ireturn, 552, 0, 0)]
theorem sL9 : qL9.all (fun e => decide (zat kL_law.2.2.2.2.2 e.1 = some e.2)) = true := by decide +kernel
theorem l_c9 {R : zS → Prop} {xs : Nat → Int32} (hR : ∀ y, zstep (zCl zTab 12) 12 kL_law (some (7, xs)) zTab 600000 7302250 zLQ y R → R y) : R (519, [some (.retAddr 0), some (.ref 0), some (.ref 14), some (.int (Int32.ofInt 0))], [], zCw (zMf []), 45, 272400) := by
  have hR0 := hR
  have hR := @zrsub _ _ _ _ _ _ _ _ _ qL9 sL9 hR
  iterate 5 refine hR (?_ : R (_, _, _, _, _, _))
  refine hR (And.intro l_v1 ?_)
  iterate 4 refine hR (?_ : R (_, _, _, _, _, _))
  refine hR (And.intro l_v2 ?_)
  refine hR (zcall_i 0 0 (Nat.le_of_ble_eq_true rfl) (Nat.le_of_ble_eq_true rfl) (r_stop _ _ _ _ _ ?_))
  iterate 5 refine hR (?_ : R (_, _, _, _, _, _))
  refine hR (And.intro l_v1 ?_)
  iterate 4 refine hR (?_ : R (_, _, _, _, _, _))
  refine hR (And.intro l_v2 ?_)
  refine hR (zcall_i 0 0 (Nat.le_of_ble_eq_true rfl) (Nat.le_of_ble_eq_true rfl) (m_stop _ _ _ _ (fun _ => ?_)))
  refine hR (And.intro (fun _ => ?_) (fun hc => absurd rfl hc))
  exact l_end hR0 _ _ _ (Nat.le_of_ble_eq_true rfl) (Nat.le_of_ble_eq_true rfl)
def qL10 : List zE := [(552, .aload_n 1, 553, 0, 0), (553, .aload_n 0, 554, 0, 0), (554, .iload_n 3, 555, 0, 0), (555, .iconst 1, 556, 0, 0), (556, .iadd, 557, 0, 0), (557, .iaload, 558, 0, 0), (558, .aload_n 0, 559, 0, 0), (559, .iload_n 3, 560, 0, 0), (560, .iconst 2, 561, 0, 0), (561, .iadd, 562, 0, 0), (562, .iaload, 563, 0, 0), (563, .aload_n 0, 564, 0, 0), (564, .iload_n 3, 565, 0, 0), (565, .iconst 3, 566, 0, 0), (566, .iadd, 567, 0, 0), (567, .iaload, 568, 0, 0), (568, .aload_n 0, 569, 0, 0), (569, .iload_n 3, 570, 0, 0), (570, .iconst 4, 571, 0, 0), (571, .iadd, 572, 0, 0), (572, .iaload, 573, 0, 0), (573, .invokevirtual 57, 576, 12, 4), (576, .aload_n 2, 577, 0, 0), (577, .aload_n 0, 578, 0, 0), (578, .iload_n 3, 579, 0, 0), (579, .iconst 1, 580, 0, 0), (580, .iadd, 581, 0, 0), (581, .iaload, 582, 0, 0), (582, .aload_n 0, 583, 0, 0), (583, .iload_n 3, 584, 0, 0), (584, .iconst 2, 585, 0, 0), (585, .iadd, 586, 0, 0), (586, .iaload, 587, 0, 0), (587, .aload_n 0, 588, 0, 0), (588, .iload_n 3, 589, 0, 0), (589, .iconst 3, 590, 0, 0), (590, .iadd, 591, 0, 0), (591, .iaload, 592, 0, 0), (592, .aload_n 0, 593, 0, 0), (593, .iload_n 3, 594, 0, 0), (594, .iconst 4, 595, 0, 0), (595, .iadd, 596, 0, 0), (596, .iaload, 597, 0, 0), (597, .invokevirtual 61, 600, 77, 4), (600, .if_icmp .eq 1243, 603, 1843, 0), (603, .iconst 0, 604, 0, 0), (604, .ireturn, 605, 0, 0)]
theorem sL10 : qL10.all (fun e => decide (zat kL_law.2.2.2.2.2 e.1 = some e.2)) = true := by decide +kernel
theorem l_c10 {R : zS → Prop} {xs : Nat → Int32} (hR : ∀ y, zstep (zCl zTab 12) 12 kL_law (some (7, xs)) zTab 600000 7302250 zLQ y R → R y) : R (552, [some (.retAddr 0), some (.ref 0), some (.ref 14), some (.int (Int32.ofInt 0))], [], zCw (zMf []), 45, 272400) := by
  have hR0 := hR
  have hR := @zrsub _ _ _ _ _ _ _ _ _ qL10 sL10 hR
  iterate 5 refine hR (?_ : R (_, _, _, _, _, _))
  refine hR (And.intro l_v1 ?_)
  iterate 4 refine hR (?_ : R (_, _, _, _, _, _))
  refine hR (And.intro l_v2 ?_)
  iterate 4 refine hR (?_ : R (_, _, _, _, _, _))
  refine hR (And.intro l_v3 ?_)
  iterate 4 refine hR (?_ : R (_, _, _, _, _, _))
  refine hR (And.intro l_v4 ?_)
  refine hR (zcall_i 0 0 (Nat.le_of_ble_eq_true rfl) (Nat.le_of_ble_eq_true rfl) (r_state _ _ _ _ _ _ _ ?_))
  iterate 5 refine hR (?_ : R (_, _, _, _, _, _))
  refine hR (And.intro l_v1 ?_)
  iterate 4 refine hR (?_ : R (_, _, _, _, _, _))
  refine hR (And.intro l_v2 ?_)
  iterate 4 refine hR (?_ : R (_, _, _, _, _, _))
  refine hR (And.intro l_v3 ?_)
  iterate 4 refine hR (?_ : R (_, _, _, _, _, _))
  refine hR (And.intro l_v4 ?_)
  refine hR (zcall_i 0 0 (Nat.le_of_ble_eq_true rfl) (Nat.le_of_ble_eq_true rfl) (m_state _ _ _ _ _ _ (fun _ => ?_)))
  refine hR (And.intro (fun _ => ?_) (fun hc => absurd rfl hc))
  exact l_end hR0 _ _ _ (Nat.le_of_ble_eq_true rfl) (Nat.le_of_ble_eq_true rfl)
def qL11 : List zE := [(605, .aload_n 1, 606, 0, 0), (606, .aload_n 0, 607, 0, 0), (607, .iload_n 3, 608, 0, 0), (608, .iconst 1, 609, 0, 0), (609, .iadd, 610, 0, 0), (610, .iaload, 611, 0, 0), (611, .aload_n 0, 612, 0, 0), (612, .iload_n 3, 613, 0, 0), (613, .iconst 2, 614, 0, 0), (614, .iadd, 615, 0, 0), (615, .iaload, 616, 0, 0), (616, .aload_n 0, 617, 0, 0), (617, .iload_n 3, 618, 0, 0), (618, .iconst 3, 619, 0, 0), (619, .iadd, 620, 0, 0), (620, .iaload, 621, 0, 0), (621, .aload_n 0, 622, 0, 0), (622, .iload_n 3, 623, 0, 0), (623, .iconst 4, 624, 0, 0), (624, .iadd, 625, 0, 0), (625, .iaload, 626, 0, 0), (626, .invokevirtual 62, 629, 13, 4), (629, .aload_n 2, 630, 0, 0), (630, .aload_n 0, 631, 0, 0), (631, .iload_n 3, 632, 0, 0), (632, .iconst 1, 633, 0, 0), (633, .iadd, 634, 0, 0), (634, .iaload, 635, 0, 0), (635, .aload_n 0, 636, 0, 0), (636, .iload_n 3, 637, 0, 0), (637, .iconst 2, 638, 0, 0), (638, .iadd, 639, 0, 0), (639, .iaload, 640, 0, 0), (640, .aload_n 0, 641, 0, 0), (641, .iload_n 3, 642, 0, 0), (642, .iconst 3, 643, 0, 0), (643, .iadd, 644, 0, 0), (644, .iaload, 645, 0, 0), (645, .aload_n 0, 646, 0, 0), (646, .iload_n 3, 647, 0, 0), (647, .iconst 4, 648, 0, 0), (648, .iadd, 649, 0, 0), (649, .iaload, 650, 0, 0), (650, .invokevirtual 65, 653, 78, 4), (653, .if_icmp .eq 1190, 656, 1843, 0), (656, .iconst 0, 657, 0, 0), (657, .ireturn, 658, 0, 0)]
theorem sL11 : qL11.all (fun e => decide (zat kL_law.2.2.2.2.2 e.1 = some e.2)) = true := by decide +kernel
theorem l_c11 {R : zS → Prop} {xs : Nat → Int32} (hR : ∀ y, zstep (zCl zTab 12) 12 kL_law (some (7, xs)) zTab 600000 7302250 zLQ y R → R y) : R (605, [some (.retAddr 0), some (.ref 0), some (.ref 14), some (.int (Int32.ofInt 0))], [], zCw (zMf []), 45, 272400) := by
  have hR0 := hR
  have hR := @zrsub _ _ _ _ _ _ _ _ _ qL11 sL11 hR
  iterate 5 refine hR (?_ : R (_, _, _, _, _, _))
  refine hR (And.intro l_v1 ?_)
  iterate 4 refine hR (?_ : R (_, _, _, _, _, _))
  refine hR (And.intro l_v2 ?_)
  iterate 4 refine hR (?_ : R (_, _, _, _, _, _))
  refine hR (And.intro l_v3 ?_)
  iterate 4 refine hR (?_ : R (_, _, _, _, _, _))
  refine hR (And.intro l_v4 ?_)
  refine hR (zcall_i 0 0 (Nat.le_of_ble_eq_true rfl) (Nat.le_of_ble_eq_true rfl) (r_making _ _ _ _ _ _ _ ?_))
  iterate 5 refine hR (?_ : R (_, _, _, _, _, _))
  refine hR (And.intro l_v1 ?_)
  iterate 4 refine hR (?_ : R (_, _, _, _, _, _))
  refine hR (And.intro l_v2 ?_)
  iterate 4 refine hR (?_ : R (_, _, _, _, _, _))
  refine hR (And.intro l_v3 ?_)
  iterate 4 refine hR (?_ : R (_, _, _, _, _, _))
  refine hR (And.intro l_v4 ?_)
  refine hR (zcall_i 0 0 (Nat.le_of_ble_eq_true rfl) (Nat.le_of_ble_eq_true rfl) (m_making _ _ _ _ _ _ (fun _ => ?_)))
  refine hR (And.intro (fun _ => ?_) (fun hc => absurd rfl hc))
  exact l_end hR0 _ _ _ (Nat.le_of_ble_eq_true rfl) (Nat.le_of_ble_eq_true rfl)
def qL12 : List zE := [(658, .aload_n 1, 659, 0, 0), (659, .aload_n 0, 660, 0, 0), (660, .iload_n 3, 661, 0, 0), (661, .iconst 1, 662, 0, 0), (662, .iadd, 663, 0, 0), (663, .iaload, 664, 0, 0), (664, .aload_n 0, 665, 0, 0), (665, .iload_n 3, 666, 0, 0), (666, .iconst 2, 667, 0, 0), (667, .iadd, 668, 0, 0), (668, .iaload, 669, 0, 0), (669, .invokevirtual 66, 672, 14, 2), (672, .aload_n 2, 673, 0, 0), (673, .aload_n 0, 674, 0, 0), (674, .iload_n 3, 675, 0, 0), (675, .iconst 1, 676, 0, 0), (676, .iadd, 677, 0, 0), (677, .iaload, 678, 0, 0), (678, .aload_n 0, 679, 0, 0), (679, .iload_n 3, 680, 0, 0), (680, .iconst 2, 681, 0, 0), (681, .iadd, 682, 0, 0), (682, .iaload, 683, 0, 0), (683, .invokevirtual 69, 686, 79, 2), (686, .if_icmp .eq 1157, 689, 1843, 0), (689, .iconst 0, 690, 0, 0), (690, .ireturn, 691, 0, 0)]
theorem sL12 : qL12.all (fun e => decide (zat kL_law.2.2.2.2.2 e.1 = some e.2)) = true := by decide +kernel
theorem l_c12 {R : zS → Prop} {xs : Nat → Int32} (hR : ∀ y, zstep (zCl zTab 12) 12 kL_law (some (7, xs)) zTab 600000 7302250 zLQ y R → R y) : R (658, [some (.retAddr 0), some (.ref 0), some (.ref 14), some (.int (Int32.ofInt 0))], [], zCw (zMf []), 45, 272400) := by
  have hR0 := hR
  have hR := @zrsub _ _ _ _ _ _ _ _ _ qL12 sL12 hR
  iterate 5 refine hR (?_ : R (_, _, _, _, _, _))
  refine hR (And.intro l_v1 ?_)
  iterate 4 refine hR (?_ : R (_, _, _, _, _, _))
  refine hR (And.intro l_v2 ?_)
  refine hR (zcall_i 0 0 (Nat.le_of_ble_eq_true rfl) (Nat.le_of_ble_eq_true rfl) (r_ring _ _ _ _ _ ?_))
  iterate 5 refine hR (?_ : R (_, _, _, _, _, _))
  refine hR (And.intro l_v1 ?_)
  iterate 4 refine hR (?_ : R (_, _, _, _, _, _))
  refine hR (And.intro l_v2 ?_)
  refine hR (zcall_i 0 0 (Nat.le_of_ble_eq_true rfl) (Nat.le_of_ble_eq_true rfl) (m_ring _ _ _ _ (fun _ => ?_)))
  refine hR (And.intro (fun _ => ?_) (fun hc => absurd rfl hc))
  exact l_end hR0 _ _ _ (Nat.le_of_ble_eq_true rfl) (Nat.le_of_ble_eq_true rfl)
def qL13 : List zE := [(691, .aload_n 1, 692, 0, 0), (692, .aload_n 0, 693, 0, 0), (693, .iload_n 3, 694, 0, 0), (694, .iconst 1, 695, 0, 0), (695, .iadd, 696, 0, 0), (696, .iaload, 697, 0, 0), (697, .aload_n 0, 698, 0, 0), (698, .iload_n 3, 699, 0, 0), (699, .iconst 2, 700, 0, 0), (700, .iadd, 701, 0, 0), (701, .iaload, 702, 0, 0), (702, .aload_n 0, 703, 0, 0), (703, .iload_n 3, 704, 0, 0), (704, .iconst 3, 705, 0, 0), (705, .iadd, 706, 0, 0), (706, .iaload, 707, 0, 0), (707, .ifCond .eq 7, 710, 714, 0), (710, .iconst 1, 711, 0, 0), (711, .goto 4, 714, 715, 0), (714, .iconst 0, 715, 0, 0), (715, .invokevirtual 70, 718, 15, 3), (718, .aload_n 2, 719, 0, 0), (719, .aload_n 0, 720, 0, 0), (720, .iload_n 3, 721, 0, 0), (721, .iconst 1, 722, 0, 0), (722, .iadd, 723, 0, 0), (723, .iaload, 724, 0, 0), (724, .aload_n 0, 725, 0, 0), (725, .iload_n 3, 726, 0, 0), (726, .iconst 2, 727, 0, 0), (727, .iadd, 728, 0, 0), (728, .iaload, 729, 0, 0), (729, .aload_n 0, 730, 0, 0), (730, .iload_n 3, 731, 0, 0), (731, .iconst 3, 732, 0, 0), (732, .iadd, 733, 0, 0), (733, .iaload, 734, 0, 0), (734, .ifCond .eq 7, 737, 741, 0), (737, .iconst 1, 738, 0, 0), (738, .goto 4, 741, 742, 0), (741, .iconst 0, 742, 0, 0), (742, .invokevirtual 74, 745, 80, 3), (745, .if_icmp .eq 1098, 748, 1843, 0), (748, .iconst 0, 749, 0, 0), (749, .ireturn, 750, 0, 0)]
theorem sL13 : qL13.all (fun e => decide (zat kL_law.2.2.2.2.2 e.1 = some e.2)) = true := by decide +kernel
theorem l_c13 {R : zS → Prop} {xs : Nat → Int32} (hR : ∀ y, zstep (zCl zTab 12) 12 kL_law (some (7, xs)) zTab 600000 7302250 zLQ y R → R y) : R (691, [some (.retAddr 0), some (.ref 0), some (.ref 14), some (.int (Int32.ofInt 0))], [], zCw (zMf []), 45, 272400) := by
  have hR0 := hR
  have hR := @zrsub _ _ _ _ _ _ _ _ _ qL13 sL13 hR
  iterate 5 refine hR (?_ : R (_, _, _, _, _, _))
  refine hR (And.intro l_v1 ?_)
  iterate 4 refine hR (?_ : R (_, _, _, _, _, _))
  refine hR (And.intro l_v2 ?_)
  iterate 4 refine hR (?_ : R (_, _, _, _, _, _))
  refine hR (And.intro l_v3 ?_)
  refine hR (And.intro (fun hz1 => ?_) (fun hz1 => ?_))
  · skip
    refine hR (?_ : R (_, _, _, _, _, _))
    refine hR (zcall_i 0 0 (Nat.le_of_ble_eq_true rfl) (Nat.le_of_ble_eq_true rfl) (r_reach _ _ _ _ _ _ ?_))
    iterate 5 refine hR (?_ : R (_, _, _, _, _, _))
    refine hR (And.intro l_v1 ?_)
    iterate 4 refine hR (?_ : R (_, _, _, _, _, _))
    refine hR (And.intro l_v2 ?_)
    iterate 4 refine hR (?_ : R (_, _, _, _, _, _))
    refine hR (And.intro l_v3 ?_)
    refine hR (And.intro (fun _ => ?_) (fun hc => absurd hz1 hc))
    refine hR (?_ : R (_, _, _, _, _, _))
    refine hR (zcall_i 0 0 (Nat.le_of_ble_eq_true rfl) (Nat.le_of_ble_eq_true rfl) (m_reach _ _ _ _ _ (fun _ => ?_)))
    refine hR (And.intro (fun _ => ?_) (fun hc => absurd rfl hc))
    exact l_end hR0 _ _ _ (Nat.le_of_ble_eq_true rfl) (Nat.le_of_ble_eq_true rfl)
  · skip
    iterate 2 refine hR (?_ : R (_, _, _, _, _, _))
    refine hR (zcall_i 0 0 (Nat.le_of_ble_eq_true rfl) (Nat.le_of_ble_eq_true rfl) (r_reach _ _ _ _ _ _ ?_))
    iterate 5 refine hR (?_ : R (_, _, _, _, _, _))
    refine hR (And.intro l_v1 ?_)
    iterate 4 refine hR (?_ : R (_, _, _, _, _, _))
    refine hR (And.intro l_v2 ?_)
    iterate 4 refine hR (?_ : R (_, _, _, _, _, _))
    refine hR (And.intro l_v3 ?_)
    refine hR (And.intro (fun hc => absurd hc hz1) (fun _ => ?_))
    iterate 2 refine hR (?_ : R (_, _, _, _, _, _))
    refine hR (zcall_i 0 0 (Nat.le_of_ble_eq_true rfl) (Nat.le_of_ble_eq_true rfl) (m_reach _ _ _ _ _ (fun _ => ?_)))
    refine hR (And.intro (fun _ => ?_) (fun hc => absurd rfl hc))
    exact l_end hR0 _ _ _ (Nat.le_of_ble_eq_true rfl) (Nat.le_of_ble_eq_true rfl)
def qL14 : List zE := [(750, .aload_n 1, 751, 0, 0), (751, .aload_n 0, 752, 0, 0), (752, .iload_n 3, 753, 0, 0), (753, .iconst 1, 754, 0, 0), (754, .iadd, 755, 0, 0), (755, .iaload, 756, 0, 0), (756, .aload_n 0, 757, 0, 0), (757, .iload_n 3, 758, 0, 0), (758, .iconst 2, 759, 0, 0), (759, .iadd, 760, 0, 0), (760, .iaload, 761, 0, 0), (761, .invokevirtual 75, 764, 16, 2), (764, .aload_n 2, 765, 0, 0), (765, .aload_n 0, 766, 0, 0), (766, .iload_n 3, 767, 0, 0), (767, .iconst 1, 768, 0, 0), (768, .iadd, 769, 0, 0), (769, .iaload, 770, 0, 0), (770, .aload_n 0, 771, 0, 0), (771, .iload_n 3, 772, 0, 0), (772, .iconst 2, 773, 0, 0), (773, .iadd, 774, 0, 0), (774, .iaload, 775, 0, 0), (775, .invokevirtual 78, 778, 81, 2), (778, .if_icmp .eq 1065, 781, 1843, 0), (781, .iconst 0, 782, 0, 0), (782, .ireturn, 783, 0, 0)]
theorem sL14 : qL14.all (fun e => decide (zat kL_law.2.2.2.2.2 e.1 = some e.2)) = true := by decide +kernel
theorem l_c14 {R : zS → Prop} {xs : Nat → Int32} (hR : ∀ y, zstep (zCl zTab 12) 12 kL_law (some (7, xs)) zTab 600000 7302250 zLQ y R → R y) : R (750, [some (.retAddr 0), some (.ref 0), some (.ref 14), some (.int (Int32.ofInt 0))], [], zCw (zMf []), 45, 272400) := by
  have hR0 := hR
  have hR := @zrsub _ _ _ _ _ _ _ _ _ qL14 sL14 hR
  iterate 5 refine hR (?_ : R (_, _, _, _, _, _))
  refine hR (And.intro l_v1 ?_)
  iterate 4 refine hR (?_ : R (_, _, _, _, _, _))
  refine hR (And.intro l_v2 ?_)
  refine hR (zcall_i 0 0 (Nat.le_of_ble_eq_true rfl) (Nat.le_of_ble_eq_true rfl) (r_sound _ _ _ _ _ ?_))
  iterate 5 refine hR (?_ : R (_, _, _, _, _, _))
  refine hR (And.intro l_v1 ?_)
  iterate 4 refine hR (?_ : R (_, _, _, _, _, _))
  refine hR (And.intro l_v2 ?_)
  refine hR (zcall_i 0 0 (Nat.le_of_ble_eq_true rfl) (Nat.le_of_ble_eq_true rfl) (m_sound _ _ _ _ (fun _ => ?_)))
  refine hR (And.intro (fun _ => ?_) (fun hc => absurd rfl hc))
  exact l_end hR0 _ _ _ (Nat.le_of_ble_eq_true rfl) (Nat.le_of_ble_eq_true rfl)
def qL15 : List zE := [(783, .aload_n 1, 784, 0, 0), (784, .aload_n 0, 785, 0, 0), (785, .iload_n 3, 786, 0, 0), (786, .iconst 1, 787, 0, 0), (787, .iadd, 788, 0, 0), (788, .iaload, 789, 0, 0), (789, .aload_n 0, 790, 0, 0), (790, .iload_n 3, 791, 0, 0), (791, .iconst 2, 792, 0, 0), (792, .iadd, 793, 0, 0), (793, .iaload, 794, 0, 0), (794, .aload_n 0, 795, 0, 0), (795, .iload_n 3, 796, 0, 0), (796, .iconst 3, 797, 0, 0), (797, .iadd, 798, 0, 0), (798, .iaload, 799, 0, 0), (799, .invokevirtual 79, 802, 17, 3), (802, .aload_n 2, 803, 0, 0), (803, .aload_n 0, 804, 0, 0), (804, .iload_n 3, 805, 0, 0), (805, .iconst 1, 806, 0, 0), (806, .iadd, 807, 0, 0), (807, .iaload, 808, 0, 0), (808, .aload_n 0, 809, 0, 0), (809, .iload_n 3, 810, 0, 0), (810, .iconst 2, 811, 0, 0), (811, .iadd, 812, 0, 0), (812, .iaload, 813, 0, 0), (813, .aload_n 0, 814, 0, 0), (814, .iload_n 3, 815, 0, 0), (815, .iconst 3, 816, 0, 0), (816, .iadd, 817, 0, 0), (817, .iaload, 818, 0, 0), (818, .invokevirtual 82, 821, 82, 3), (821, .if_icmp .eq 1022, 824, 1843, 0), (824, .iconst 0, 825, 0, 0), (825, .ireturn, 826, 0, 0)]
theorem sL15 : qL15.all (fun e => decide (zat kL_law.2.2.2.2.2 e.1 = some e.2)) = true := by decide +kernel
theorem l_c15 {R : zS → Prop} {xs : Nat → Int32} (hR : ∀ y, zstep (zCl zTab 12) 12 kL_law (some (7, xs)) zTab 600000 7302250 zLQ y R → R y) : R (783, [some (.retAddr 0), some (.ref 0), some (.ref 14), some (.int (Int32.ofInt 0))], [], zCw (zMf []), 45, 272400) := by
  have hR0 := hR
  have hR := @zrsub _ _ _ _ _ _ _ _ _ qL15 sL15 hR
  iterate 5 refine hR (?_ : R (_, _, _, _, _, _))
  refine hR (And.intro l_v1 ?_)
  iterate 4 refine hR (?_ : R (_, _, _, _, _, _))
  refine hR (And.intro l_v2 ?_)
  iterate 4 refine hR (?_ : R (_, _, _, _, _, _))
  refine hR (And.intro l_v3 ?_)
  refine hR (zcall_i 0 0 (Nat.le_of_ble_eq_true rfl) (Nat.le_of_ble_eq_true rfl) (r_like _ _ _ _ _ _ ?_))
  iterate 5 refine hR (?_ : R (_, _, _, _, _, _))
  refine hR (And.intro l_v1 ?_)
  iterate 4 refine hR (?_ : R (_, _, _, _, _, _))
  refine hR (And.intro l_v2 ?_)
  iterate 4 refine hR (?_ : R (_, _, _, _, _, _))
  refine hR (And.intro l_v3 ?_)
  refine hR (zcall_i 0 0 (Nat.le_of_ble_eq_true rfl) (Nat.le_of_ble_eq_true rfl) (m_like _ _ _ _ _ (fun _ => ?_)))
  refine hR (And.intro (fun _ => ?_) (fun hc => absurd rfl hc))
  exact l_end hR0 _ _ _ (Nat.le_of_ble_eq_true rfl) (Nat.le_of_ble_eq_true rfl)
def qL16 : List zE := [(826, .aload_n 1, 827, 0, 0), (827, .aload_n 0, 828, 0, 0), (828, .iload_n 3, 829, 0, 0), (829, .iconst 1, 830, 0, 0), (830, .iadd, 831, 0, 0), (831, .iaload, 832, 0, 0), (832, .aload_n 0, 833, 0, 0), (833, .iload_n 3, 834, 0, 0), (834, .iconst 2, 835, 0, 0), (835, .iadd, 836, 0, 0), (836, .iaload, 837, 0, 0), (837, .aload_n 0, 838, 0, 0), (838, .iload_n 3, 839, 0, 0), (839, .iconst 3, 840, 0, 0), (840, .iadd, 841, 0, 0), (841, .iaload, 842, 0, 0), (842, .invokevirtual 83, 845, 18, 3), (845, .aload_n 2, 846, 0, 0), (846, .aload_n 0, 847, 0, 0), (847, .iload_n 3, 848, 0, 0), (848, .iconst 1, 849, 0, 0), (849, .iadd, 850, 0, 0), (850, .iaload, 851, 0, 0), (851, .aload_n 0, 852, 0, 0), (852, .iload_n 3, 853, 0, 0), (853, .iconst 2, 854, 0, 0), (854, .iadd, 855, 0, 0), (855, .iaload, 856, 0, 0), (856, .aload_n 0, 857, 0, 0), (857, .iload_n 3, 858, 0, 0), (858, .iconst 3, 859, 0, 0), (859, .iadd, 860, 0, 0), (860, .iaload, 861, 0, 0), (861, .invokevirtual 86, 864, 83, 3), (864, .if_icmp .eq 979, 867, 1843, 0), (867, .iconst 0, 868, 0, 0), (868, .ireturn, 869, 0, 0)]
theorem sL16 : qL16.all (fun e => decide (zat kL_law.2.2.2.2.2 e.1 = some e.2)) = true := by decide +kernel
theorem l_c16 {R : zS → Prop} {xs : Nat → Int32} (hR : ∀ y, zstep (zCl zTab 12) 12 kL_law (some (7, xs)) zTab 600000 7302250 zLQ y R → R y) : R (826, [some (.retAddr 0), some (.ref 0), some (.ref 14), some (.int (Int32.ofInt 0))], [], zCw (zMf []), 45, 272400) := by
  have hR0 := hR
  have hR := @zrsub _ _ _ _ _ _ _ _ _ qL16 sL16 hR
  iterate 5 refine hR (?_ : R (_, _, _, _, _, _))
  refine hR (And.intro l_v1 ?_)
  iterate 4 refine hR (?_ : R (_, _, _, _, _, _))
  refine hR (And.intro l_v2 ?_)
  iterate 4 refine hR (?_ : R (_, _, _, _, _, _))
  refine hR (And.intro l_v3 ?_)
  refine hR (zcall_i 0 0 (Nat.le_of_ble_eq_true rfl) (Nat.le_of_ble_eq_true rfl) (r_orbits _ _ _ _ _ _ ?_))
  iterate 5 refine hR (?_ : R (_, _, _, _, _, _))
  refine hR (And.intro l_v1 ?_)
  iterate 4 refine hR (?_ : R (_, _, _, _, _, _))
  refine hR (And.intro l_v2 ?_)
  iterate 4 refine hR (?_ : R (_, _, _, _, _, _))
  refine hR (And.intro l_v3 ?_)
  refine hR (zcall_i 0 0 (Nat.le_of_ble_eq_true rfl) (Nat.le_of_ble_eq_true rfl) (m_orbits _ _ _ _ _ (fun _ => ?_)))
  refine hR (And.intro (fun _ => ?_) (fun hc => absurd rfl hc))
  exact l_end hR0 _ _ _ (Nat.le_of_ble_eq_true rfl) (Nat.le_of_ble_eq_true rfl)
def qL17 : List zE := [(869, .aload_n 1, 870, 0, 0), (870, .aload_n 0, 871, 0, 0), (871, .iload_n 3, 872, 0, 0), (872, .iconst 1, 873, 0, 0), (873, .iadd, 874, 0, 0), (874, .iaload, 875, 0, 0), (875, .aload_n 0, 876, 0, 0), (876, .iload_n 3, 877, 0, 0), (877, .iconst 2, 878, 0, 0), (878, .iadd, 879, 0, 0), (879, .iaload, 880, 0, 0), (880, .aload_n 0, 881, 0, 0), (881, .iload_n 3, 882, 0, 0), (882, .iconst 3, 883, 0, 0), (883, .iadd, 884, 0, 0), (884, .iaload, 885, 0, 0), (885, .invokevirtual 87, 888, 19, 3), (888, .aload_n 2, 889, 0, 0), (889, .aload_n 0, 890, 0, 0), (890, .iload_n 3, 891, 0, 0), (891, .iconst 1, 892, 0, 0), (892, .iadd, 893, 0, 0), (893, .iaload, 894, 0, 0), (894, .aload_n 0, 895, 0, 0), (895, .iload_n 3, 896, 0, 0), (896, .iconst 2, 897, 0, 0), (897, .iadd, 898, 0, 0), (898, .iaload, 899, 0, 0), (899, .aload_n 0, 900, 0, 0), (900, .iload_n 3, 901, 0, 0), (901, .iconst 3, 902, 0, 0), (902, .iadd, 903, 0, 0), (903, .iaload, 904, 0, 0), (904, .invokevirtual 90, 907, 84, 3), (907, .if_icmp .eq 936, 910, 1843, 0), (910, .iconst 0, 911, 0, 0), (911, .ireturn, 912, 0, 0)]
theorem sL17 : qL17.all (fun e => decide (zat kL_law.2.2.2.2.2 e.1 = some e.2)) = true := by decide +kernel
theorem l_c17 {R : zS → Prop} {xs : Nat → Int32} (hR : ∀ y, zstep (zCl zTab 12) 12 kL_law (some (7, xs)) zTab 600000 7302250 zLQ y R → R y) : R (869, [some (.retAddr 0), some (.ref 0), some (.ref 14), some (.int (Int32.ofInt 0))], [], zCw (zMf []), 45, 272400) := by
  have hR0 := hR
  have hR := @zrsub _ _ _ _ _ _ _ _ _ qL17 sL17 hR
  iterate 5 refine hR (?_ : R (_, _, _, _, _, _))
  refine hR (And.intro l_v1 ?_)
  iterate 4 refine hR (?_ : R (_, _, _, _, _, _))
  refine hR (And.intro l_v2 ?_)
  iterate 4 refine hR (?_ : R (_, _, _, _, _, _))
  refine hR (And.intro l_v3 ?_)
  refine hR (zcall_i 0 0 (Nat.le_of_ble_eq_true rfl) (Nat.le_of_ble_eq_true rfl) (r_rota _ _ _ _ _ _ ?_))
  iterate 5 refine hR (?_ : R (_, _, _, _, _, _))
  refine hR (And.intro l_v1 ?_)
  iterate 4 refine hR (?_ : R (_, _, _, _, _, _))
  refine hR (And.intro l_v2 ?_)
  iterate 4 refine hR (?_ : R (_, _, _, _, _, _))
  refine hR (And.intro l_v3 ?_)
  refine hR (zcall_i 0 0 (Nat.le_of_ble_eq_true rfl) (Nat.le_of_ble_eq_true rfl) (m_rota _ _ _ _ _ (fun _ => ?_)))
  refine hR (And.intro (fun _ => ?_) (fun hc => absurd rfl hc))
  exact l_end hR0 _ _ _ (Nat.le_of_ble_eq_true rfl) (Nat.le_of_ble_eq_true rfl)
def qL18 : List zE := [(912, .aload_n 1, 913, 0, 0), (913, .aload_n 0, 914, 0, 0), (914, .iload_n 3, 915, 0, 0), (915, .iconst 1, 916, 0, 0), (916, .iadd, 917, 0, 0), (917, .iaload, 918, 0, 0), (918, .aload_n 0, 919, 0, 0), (919, .iload_n 3, 920, 0, 0), (920, .iconst 2, 921, 0, 0), (921, .iadd, 922, 0, 0), (922, .iaload, 923, 0, 0), (923, .aload_n 0, 924, 0, 0), (924, .iload_n 3, 925, 0, 0), (925, .iconst 3, 926, 0, 0), (926, .iadd, 927, 0, 0), (927, .iaload, 928, 0, 0), (928, .ifCond .eq 7, 931, 935, 0), (931, .iconst 1, 932, 0, 0), (932, .goto 4, 935, 936, 0), (935, .iconst 0, 936, 0, 0), (936, .invokevirtual 91, 939, 20, 3), (939, .aload_n 2, 940, 0, 0), (940, .aload_n 0, 941, 0, 0), (941, .iload_n 3, 942, 0, 0), (942, .iconst 1, 943, 0, 0), (943, .iadd, 944, 0, 0), (944, .iaload, 945, 0, 0), (945, .aload_n 0, 946, 0, 0), (946, .iload_n 3, 947, 0, 0), (947, .iconst 2, 948, 0, 0), (948, .iadd, 949, 0, 0), (949, .iaload, 950, 0, 0), (950, .aload_n 0, 951, 0, 0), (951, .iload_n 3, 952, 0, 0), (952, .iconst 3, 953, 0, 0), (953, .iadd, 954, 0, 0), (954, .iaload, 955, 0, 0), (955, .ifCond .eq 7, 958, 962, 0), (958, .iconst 1, 959, 0, 0), (959, .goto 4, 962, 963, 0), (962, .iconst 0, 963, 0, 0), (963, .invokevirtual 95, 966, 85, 3), (966, .lcmp, 967, 0, 0), (967, .ifCond .eq 876, 970, 1843, 0), (970, .iconst 0, 971, 0, 0), (971, .ireturn, 972, 0, 0)]
theorem sL18 : qL18.all (fun e => decide (zat kL_law.2.2.2.2.2 e.1 = some e.2)) = true := by decide +kernel
theorem l_c18 {R : zS → Prop} {xs : Nat → Int32} (hR : ∀ y, zstep (zCl zTab 12) 12 kL_law (some (7, xs)) zTab 600000 7302250 zLQ y R → R y) : R (912, [some (.retAddr 0), some (.ref 0), some (.ref 14), some (.int (Int32.ofInt 0))], [], zCw (zMf []), 45, 272400) := by
  have hR0 := hR
  have hR := @zrsub _ _ _ _ _ _ _ _ _ qL18 sL18 hR
  iterate 5 refine hR (?_ : R (_, _, _, _, _, _))
  refine hR (And.intro l_v1 ?_)
  iterate 4 refine hR (?_ : R (_, _, _, _, _, _))
  refine hR (And.intro l_v2 ?_)
  iterate 4 refine hR (?_ : R (_, _, _, _, _, _))
  refine hR (And.intro l_v3 ?_)
  refine hR (And.intro (fun hz1 => ?_) (fun hz1 => ?_))
  · skip
    refine hR (?_ : R (_, _, _, _, _, _))
    refine hR (zcall_i 0 0 (Nat.le_of_ble_eq_true rfl) (Nat.le_of_ble_eq_true rfl) (r_mean _ _ _ _ _ _ ?_))
    iterate 5 refine hR (?_ : R (_, _, _, _, _, _))
    refine hR (And.intro l_v1 ?_)
    iterate 4 refine hR (?_ : R (_, _, _, _, _, _))
    refine hR (And.intro l_v2 ?_)
    iterate 4 refine hR (?_ : R (_, _, _, _, _, _))
    refine hR (And.intro l_v3 ?_)
    refine hR (And.intro (fun _ => ?_) (fun hc => absurd hz1 hc))
    refine hR (?_ : R (_, _, _, _, _, _))
    refine hR (zcall_i 0 0 (Nat.le_of_ble_eq_true rfl) (Nat.le_of_ble_eq_true rfl) (m_mean _ _ _ _ _ (fun _ => ?_)))
    refine hR (?_ : R (_, _, _, _, _, _))
    refine hR (And.intro (fun _ => ?_) (fun hc => absurd (by decide) hc))
    exact l_end hR0 _ _ _ (Nat.le_of_ble_eq_true rfl) (Nat.le_of_ble_eq_true rfl)
  · skip
    iterate 2 refine hR (?_ : R (_, _, _, _, _, _))
    refine hR (zcall_i 0 0 (Nat.le_of_ble_eq_true rfl) (Nat.le_of_ble_eq_true rfl) (r_mean _ _ _ _ _ _ ?_))
    iterate 5 refine hR (?_ : R (_, _, _, _, _, _))
    refine hR (And.intro l_v1 ?_)
    iterate 4 refine hR (?_ : R (_, _, _, _, _, _))
    refine hR (And.intro l_v2 ?_)
    iterate 4 refine hR (?_ : R (_, _, _, _, _, _))
    refine hR (And.intro l_v3 ?_)
    refine hR (And.intro (fun hc => absurd hc hz1) (fun _ => ?_))
    iterate 2 refine hR (?_ : R (_, _, _, _, _, _))
    refine hR (zcall_i 0 0 (Nat.le_of_ble_eq_true rfl) (Nat.le_of_ble_eq_true rfl) (m_mean _ _ _ _ _ (fun _ => ?_)))
    refine hR (?_ : R (_, _, _, _, _, _))
    refine hR (And.intro (fun _ => ?_) (fun hc => absurd (by decide) hc))
    exact l_end hR0 _ _ _ (Nat.le_of_ble_eq_true rfl) (Nat.le_of_ble_eq_true rfl)
def qL19 : List zE := [(972, .aload_n 1, 973, 0, 0), (973, .aload_n 0, 974, 0, 0), (974, .iload_n 3, 975, 0, 0), (975, .iconst 1, 976, 0, 0), (976, .iadd, 977, 0, 0), (977, .iaload, 978, 0, 0), (978, .aload_n 0, 979, 0, 0), (979, .iload_n 3, 980, 0, 0), (980, .iconst 2, 981, 0, 0), (981, .iadd, 982, 0, 0), (982, .iaload, 983, 0, 0), (983, .aload_n 0, 984, 0, 0), (984, .iload_n 3, 985, 0, 0), (985, .iconst 3, 986, 0, 0), (986, .iadd, 987, 0, 0), (987, .iaload, 988, 0, 0), (988, .aload_n 0, 989, 0, 0), (989, .iload_n 3, 990, 0, 0), (990, .iconst 4, 991, 0, 0), (991, .iadd, 992, 0, 0), (992, .iaload, 993, 0, 0), (993, .ifCond .eq 7, 996, 1000, 0), (996, .iconst 1, 997, 0, 0), (997, .goto 4, 1000, 1001, 0), (1000, .iconst 0, 1001, 0, 0), (1001, .invokevirtual 96, 1004, 21, 4), (1004, .aload_n 2, 1005, 0, 0), (1005, .aload_n 0, 1006, 0, 0), (1006, .iload_n 3, 1007, 0, 0), (1007, .iconst 1, 1008, 0, 0), (1008, .iadd, 1009, 0, 0), (1009, .iaload, 1010, 0, 0), (1010, .aload_n 0, 1011, 0, 0), (1011, .iload_n 3, 1012, 0, 0), (1012, .iconst 2, 1013, 0, 0), (1013, .iadd, 1014, 0, 0), (1014, .iaload, 1015, 0, 0), (1015, .aload_n 0, 1016, 0, 0), (1016, .iload_n 3, 1017, 0, 0), (1017, .iconst 3, 1018, 0, 0), (1018, .iadd, 1019, 0, 0), (1019, .iaload, 1020, 0, 0), (1020, .aload_n 0, 1021, 0, 0), (1021, .iload_n 3, 1022, 0, 0), (1022, .iconst 4, 1023, 0, 0), (1023, .iadd, 1024, 0, 0), (1024, .iaload, 1025, 0, 0), (1025, .ifCond .eq 7, 1028, 1032, 0), (1028, .iconst 1, 1029, 0, 0), (1029, .goto 4, 1032, 1033, 0), (1032, .iconst 0, 1033, 0, 0), (1033, .invokevirtual 100, 1036, 86, 4), (1036, .if_icmp .eq 807, 1039, 1843, 0), (1039, .iconst 0, 1040, 0, 0), (1040, .ireturn, 1041, 0, 0)]
theorem sL19 : qL19.all (fun e => decide (zat kL_law.2.2.2.2.2 e.1 = some e.2)) = true := by decide +kernel
theorem l_c19 {R : zS → Prop} {xs : Nat → Int32} (hR : ∀ y, zstep (zCl zTab 12) 12 kL_law (some (7, xs)) zTab 600000 7302250 zLQ y R → R y) : R (972, [some (.retAddr 0), some (.ref 0), some (.ref 14), some (.int (Int32.ofInt 0))], [], zCw (zMf []), 45, 272400) := by
  have hR0 := hR
  have hR := @zrsub _ _ _ _ _ _ _ _ _ qL19 sL19 hR
  iterate 5 refine hR (?_ : R (_, _, _, _, _, _))
  refine hR (And.intro l_v1 ?_)
  iterate 4 refine hR (?_ : R (_, _, _, _, _, _))
  refine hR (And.intro l_v2 ?_)
  iterate 4 refine hR (?_ : R (_, _, _, _, _, _))
  refine hR (And.intro l_v3 ?_)
  iterate 4 refine hR (?_ : R (_, _, _, _, _, _))
  refine hR (And.intro l_v4 ?_)
  refine hR (And.intro (fun hz1 => ?_) (fun hz1 => ?_))
  · skip
    refine hR (?_ : R (_, _, _, _, _, _))
    refine hR (zcall_i 0 0 (Nat.le_of_ble_eq_true rfl) (Nat.le_of_ble_eq_true rfl) (r_elders _ _ _ _ _ _ _ ?_))
    iterate 5 refine hR (?_ : R (_, _, _, _, _, _))
    refine hR (And.intro l_v1 ?_)
    iterate 4 refine hR (?_ : R (_, _, _, _, _, _))
    refine hR (And.intro l_v2 ?_)
    iterate 4 refine hR (?_ : R (_, _, _, _, _, _))
    refine hR (And.intro l_v3 ?_)
    iterate 4 refine hR (?_ : R (_, _, _, _, _, _))
    refine hR (And.intro l_v4 ?_)
    refine hR (And.intro (fun _ => ?_) (fun hc => absurd hz1 hc))
    refine hR (?_ : R (_, _, _, _, _, _))
    refine hR (zcall_i 0 0 (Nat.le_of_ble_eq_true rfl) (Nat.le_of_ble_eq_true rfl) (m_elders _ _ _ _ _ _ (fun _ => ?_)))
    refine hR (And.intro (fun _ => ?_) (fun hc => absurd rfl hc))
    exact l_end hR0 _ _ _ (Nat.le_of_ble_eq_true rfl) (Nat.le_of_ble_eq_true rfl)
  · skip
    iterate 2 refine hR (?_ : R (_, _, _, _, _, _))
    refine hR (zcall_i 0 0 (Nat.le_of_ble_eq_true rfl) (Nat.le_of_ble_eq_true rfl) (r_elders _ _ _ _ _ _ _ ?_))
    iterate 5 refine hR (?_ : R (_, _, _, _, _, _))
    refine hR (And.intro l_v1 ?_)
    iterate 4 refine hR (?_ : R (_, _, _, _, _, _))
    refine hR (And.intro l_v2 ?_)
    iterate 4 refine hR (?_ : R (_, _, _, _, _, _))
    refine hR (And.intro l_v3 ?_)
    iterate 4 refine hR (?_ : R (_, _, _, _, _, _))
    refine hR (And.intro l_v4 ?_)
    refine hR (And.intro (fun hc => absurd hc hz1) (fun _ => ?_))
    iterate 2 refine hR (?_ : R (_, _, _, _, _, _))
    refine hR (zcall_i 0 0 (Nat.le_of_ble_eq_true rfl) (Nat.le_of_ble_eq_true rfl) (m_elders _ _ _ _ _ _ (fun _ => ?_)))
    refine hR (And.intro (fun _ => ?_) (fun hc => absurd rfl hc))
    exact l_end hR0 _ _ _ (Nat.le_of_ble_eq_true rfl) (Nat.le_of_ble_eq_true rfl)
def qL20 : List zE := [(1041, .aload_n 1, 1042, 0, 0), (1042, .aload_n 0, 1043, 0, 0), (1043, .iload_n 3, 1044, 0, 0), (1044, .iconst 1, 1045, 0, 0), (1045, .iadd, 1046, 0, 0), (1046, .iaload, 1047, 0, 0), (1047, .aload_n 0, 1048, 0, 0), (1048, .iload_n 3, 1049, 0, 0), (1049, .iconst 2, 1050, 0, 0), (1050, .iadd, 1051, 0, 0), (1051, .iaload, 1052, 0, 0), (1052, .aload_n 0, 1053, 0, 0), (1053, .iload_n 3, 1054, 0, 0), (1054, .iconst 3, 1055, 0, 0), (1055, .iadd, 1056, 0, 0), (1056, .iaload, 1057, 0, 0), (1057, .aload_n 0, 1058, 0, 0), (1058, .iload_n 3, 1059, 0, 0), (1059, .iconst 4, 1060, 0, 0), (1060, .iadd, 1061, 0, 0), (1061, .iaload, 1062, 0, 0), (1062, .aload_n 0, 1063, 0, 0), (1063, .iload_n 3, 1064, 0, 0), (1064, .iconst 5, 1065, 0, 0), (1065, .iadd, 1066, 0, 0), (1066, .iaload, 1067, 0, 0), (1067, .aload_n 0, 1068, 0, 0), (1068, .iload_n 3, 1069, 0, 0), (1069, .bipush 6, 1071, 0, 0), (1071, .iadd, 1072, 0, 0), (1072, .iaload, 1073, 0, 0), (1073, .ifCond .eq 7, 1076, 1080, 0), (1076, .iconst 1, 1077, 0, 0), (1077, .goto 4, 1080, 1081, 0), (1080, .iconst 0, 1081, 0, 0), (1081, .invokevirtual 101, 1084, 22, 6), (1084, .aload_n 2, 1085, 0, 0), (1085, .aload_n 0, 1086, 0, 0), (1086, .iload_n 3, 1087, 0, 0), (1087, .iconst 1, 1088, 0, 0), (1088, .iadd, 1089, 0, 0), (1089, .iaload, 1090, 0, 0), (1090, .aload_n 0, 1091, 0, 0), (1091, .iload_n 3, 1092, 0, 0), (1092, .iconst 2, 1093, 0, 0), (1093, .iadd, 1094, 0, 0), (1094, .iaload, 1095, 0, 0), (1095, .aload_n 0, 1096, 0, 0), (1096, .iload_n 3, 1097, 0, 0), (1097, .iconst 3, 1098, 0, 0), (1098, .iadd, 1099, 0, 0), (1099, .iaload, 1100, 0, 0), (1100, .aload_n 0, 1101, 0, 0), (1101, .iload_n 3, 1102, 0, 0), (1102, .iconst 4, 1103, 0, 0), (1103, .iadd, 1104, 0, 0), (1104, .iaload, 1105, 0, 0), (1105, .aload_n 0, 1106, 0, 0), (1106, .iload_n 3, 1107, 0, 0), (1107, .iconst 5, 1108, 0, 0), (1108, .iadd, 1109, 0, 0), (1109, .iaload, 1110, 0, 0), (1110, .aload_n 0, 1111, 0, 0), (1111, .iload_n 3, 1112, 0, 0), (1112, .bipush 6, 1114, 0, 0), (1114, .iadd, 1115, 0, 0), (1115, .iaload, 1116, 0, 0), (1116, .ifCond .eq 7, 1119, 1123, 0), (1119, .iconst 1, 1120, 0, 0), (1120, .goto 4, 1123, 1124, 0), (1123, .iconst 0, 1124, 0, 0), (1124, .invokevirtual 105, 1127, 87, 6), (1127, .if_icmp .eq 716, 1130, 1843, 0), (1130, .iconst 0, 1131, 0, 0), (1131, .ireturn, 1132, 0, 0)]
theorem sL20 : qL20.all (fun e => decide (zat kL_law.2.2.2.2.2 e.1 = some e.2)) = true := by decide +kernel
theorem l_c20 {R : zS → Prop} {xs : Nat → Int32} (hR : ∀ y, zstep (zCl zTab 12) 12 kL_law (some (7, xs)) zTab 600000 7302250 zLQ y R → R y) : R (1041, [some (.retAddr 0), some (.ref 0), some (.ref 14), some (.int (Int32.ofInt 0))], [], zCw (zMf []), 45, 272400) := by
  have hR0 := hR
  have hR := @zrsub _ _ _ _ _ _ _ _ _ qL20 sL20 hR
  iterate 5 refine hR (?_ : R (_, _, _, _, _, _))
  refine hR (And.intro l_v1 ?_)
  iterate 4 refine hR (?_ : R (_, _, _, _, _, _))
  refine hR (And.intro l_v2 ?_)
  iterate 4 refine hR (?_ : R (_, _, _, _, _, _))
  refine hR (And.intro l_v3 ?_)
  iterate 4 refine hR (?_ : R (_, _, _, _, _, _))
  refine hR (And.intro l_v4 ?_)
  iterate 4 refine hR (?_ : R (_, _, _, _, _, _))
  refine hR (And.intro l_v5 ?_)
  iterate 4 refine hR (?_ : R (_, _, _, _, _, _))
  refine hR (And.intro l_v6 ?_)
  refine hR (And.intro (fun hz1 => ?_) (fun hz1 => ?_))
  · skip
    refine hR (?_ : R (_, _, _, _, _, _))
    refine hR (zcall_i 0 0 (Nat.le_of_ble_eq_true rfl) (Nat.le_of_ble_eq_true rfl) (r_play _ _ _ _ _ _ _ _ _ ?_))
    iterate 5 refine hR (?_ : R (_, _, _, _, _, _))
    refine hR (And.intro l_v1 ?_)
    iterate 4 refine hR (?_ : R (_, _, _, _, _, _))
    refine hR (And.intro l_v2 ?_)
    iterate 4 refine hR (?_ : R (_, _, _, _, _, _))
    refine hR (And.intro l_v3 ?_)
    iterate 4 refine hR (?_ : R (_, _, _, _, _, _))
    refine hR (And.intro l_v4 ?_)
    iterate 4 refine hR (?_ : R (_, _, _, _, _, _))
    refine hR (And.intro l_v5 ?_)
    iterate 4 refine hR (?_ : R (_, _, _, _, _, _))
    refine hR (And.intro l_v6 ?_)
    refine hR (And.intro (fun _ => ?_) (fun hc => absurd hz1 hc))
    refine hR (?_ : R (_, _, _, _, _, _))
    refine hR (zcall_i 0 0 (Nat.le_of_ble_eq_true rfl) (Nat.le_of_ble_eq_true rfl) (m_play _ _ _ _ _ _ _ _ (fun _ => ?_)))
    refine hR (And.intro (fun _ => ?_) (fun hc => absurd rfl hc))
    exact l_end hR0 _ _ _ (Nat.le_of_ble_eq_true rfl) (Nat.le_of_ble_eq_true rfl)
  · skip
    iterate 2 refine hR (?_ : R (_, _, _, _, _, _))
    refine hR (zcall_i 0 0 (Nat.le_of_ble_eq_true rfl) (Nat.le_of_ble_eq_true rfl) (r_play _ _ _ _ _ _ _ _ _ ?_))
    iterate 5 refine hR (?_ : R (_, _, _, _, _, _))
    refine hR (And.intro l_v1 ?_)
    iterate 4 refine hR (?_ : R (_, _, _, _, _, _))
    refine hR (And.intro l_v2 ?_)
    iterate 4 refine hR (?_ : R (_, _, _, _, _, _))
    refine hR (And.intro l_v3 ?_)
    iterate 4 refine hR (?_ : R (_, _, _, _, _, _))
    refine hR (And.intro l_v4 ?_)
    iterate 4 refine hR (?_ : R (_, _, _, _, _, _))
    refine hR (And.intro l_v5 ?_)
    iterate 4 refine hR (?_ : R (_, _, _, _, _, _))
    refine hR (And.intro l_v6 ?_)
    refine hR (And.intro (fun hc => absurd hc hz1) (fun _ => ?_))
    iterate 2 refine hR (?_ : R (_, _, _, _, _, _))
    refine hR (zcall_i 0 0 (Nat.le_of_ble_eq_true rfl) (Nat.le_of_ble_eq_true rfl) (m_play _ _ _ _ _ _ _ _ (fun _ => ?_)))
    refine hR (And.intro (fun _ => ?_) (fun hc => absurd rfl hc))
    exact l_end hR0 _ _ _ (Nat.le_of_ble_eq_true rfl) (Nat.le_of_ble_eq_true rfl)
def qL21 : List zE := [(1132, .aload_n 1, 1133, 0, 0), (1133, .aload_n 0, 1134, 0, 0), (1134, .iload_n 3, 1135, 0, 0), (1135, .iconst 1, 1136, 0, 0), (1136, .iadd, 1137, 0, 0), (1137, .iaload, 1138, 0, 0), (1138, .aload_n 0, 1139, 0, 0), (1139, .iload_n 3, 1140, 0, 0), (1140, .iconst 2, 1141, 0, 0), (1141, .iadd, 1142, 0, 0), (1142, .iaload, 1143, 0, 0), (1143, .aload_n 0, 1144, 0, 0), (1144, .iload_n 3, 1145, 0, 0), (1145, .iconst 3, 1146, 0, 0), (1146, .iadd, 1147, 0, 0), (1147, .iaload, 1148, 0, 0), (1148, .invokevirtual 106, 1151, 23, 3), (1151, .aload_n 2, 1152, 0, 0), (1152, .aload_n 0, 1153, 0, 0), (1153, .iload_n 3, 1154, 0, 0), (1154, .iconst 1, 1155, 0, 0), (1155, .iadd, 1156, 0, 0), (1156, .iaload, 1157, 0, 0), (1157, .aload_n 0, 1158, 0, 0), (1158, .iload_n 3, 1159, 0, 0), (1159, .iconst 2, 1160, 0, 0), (1160, .iadd, 1161, 0, 0), (1161, .iaload, 1162, 0, 0), (1162, .aload_n 0, 1163, 0, 0), (1163, .iload_n 3, 1164, 0, 0), (1164, .iconst 3, 1165, 0, 0), (1165, .iadd, 1166, 0, 0), (1166, .iaload, 1167, 0, 0), (1167, .invokevirtual 109, 1170, 88, 3), (1170, .if_icmp .eq 673, 1173, 1843, 0), (1173, .iconst 0, 1174, 0, 0), (1174, .ireturn, 1175, 0, 0)]
theorem sL21 : qL21.all (fun e => decide (zat kL_law.2.2.2.2.2 e.1 = some e.2)) = true := by decide +kernel
theorem l_c21 {R : zS → Prop} {xs : Nat → Int32} (hR : ∀ y, zstep (zCl zTab 12) 12 kL_law (some (7, xs)) zTab 600000 7302250 zLQ y R → R y) : R (1132, [some (.retAddr 0), some (.ref 0), some (.ref 14), some (.int (Int32.ofInt 0))], [], zCw (zMf []), 45, 272400) := by
  have hR0 := hR
  have hR := @zrsub _ _ _ _ _ _ _ _ _ qL21 sL21 hR
  iterate 5 refine hR (?_ : R (_, _, _, _, _, _))
  refine hR (And.intro l_v1 ?_)
  iterate 4 refine hR (?_ : R (_, _, _, _, _, _))
  refine hR (And.intro l_v2 ?_)
  iterate 4 refine hR (?_ : R (_, _, _, _, _, _))
  refine hR (And.intro l_v3 ?_)
  refine hR (zcall_i 0 0 (Nat.le_of_ble_eq_true rfl) (Nat.le_of_ble_eq_true rfl) (r_fact _ _ _ _ _ _ ?_))
  iterate 5 refine hR (?_ : R (_, _, _, _, _, _))
  refine hR (And.intro l_v1 ?_)
  iterate 4 refine hR (?_ : R (_, _, _, _, _, _))
  refine hR (And.intro l_v2 ?_)
  iterate 4 refine hR (?_ : R (_, _, _, _, _, _))
  refine hR (And.intro l_v3 ?_)
  refine hR (zcall_i 0 0 (Nat.le_of_ble_eq_true rfl) (Nat.le_of_ble_eq_true rfl) (m_fact _ _ _ _ _ (fun _ => ?_)))
  refine hR (And.intro (fun _ => ?_) (fun hc => absurd rfl hc))
  exact l_end hR0 _ _ _ (Nat.le_of_ble_eq_true rfl) (Nat.le_of_ble_eq_true rfl)
def qL22 : List zE := [(1175, .aload_n 1, 1176, 0, 0), (1176, .aload_n 0, 1177, 0, 0), (1177, .iload_n 3, 1178, 0, 0), (1178, .iconst 1, 1179, 0, 0), (1179, .iadd, 1180, 0, 0), (1180, .iaload, 1181, 0, 0), (1181, .aload_n 0, 1182, 0, 0), (1182, .iload_n 3, 1183, 0, 0), (1183, .iconst 2, 1184, 0, 0), (1184, .iadd, 1185, 0, 0), (1185, .iaload, 1186, 0, 0), (1186, .aload_n 0, 1187, 0, 0), (1187, .iload_n 3, 1188, 0, 0), (1188, .iconst 3, 1189, 0, 0), (1189, .iadd, 1190, 0, 0), (1190, .iaload, 1191, 0, 0), (1191, .aload_n 0, 1192, 0, 0), (1192, .iload_n 3, 1193, 0, 0), (1193, .iconst 4, 1194, 0, 0), (1194, .iadd, 1195, 0, 0), (1195, .iaload, 1196, 0, 0), (1196, .invokevirtual 110, 1199, 24, 4), (1199, .aload_n 2, 1200, 0, 0), (1200, .aload_n 0, 1201, 0, 0), (1201, .iload_n 3, 1202, 0, 0), (1202, .iconst 1, 1203, 0, 0), (1203, .iadd, 1204, 0, 0), (1204, .iaload, 1205, 0, 0), (1205, .aload_n 0, 1206, 0, 0), (1206, .iload_n 3, 1207, 0, 0), (1207, .iconst 2, 1208, 0, 0), (1208, .iadd, 1209, 0, 0), (1209, .iaload, 1210, 0, 0), (1210, .aload_n 0, 1211, 0, 0), (1211, .iload_n 3, 1212, 0, 0), (1212, .iconst 3, 1213, 0, 0), (1213, .iadd, 1214, 0, 0), (1214, .iaload, 1215, 0, 0), (1215, .aload_n 0, 1216, 0, 0), (1216, .iload_n 3, 1217, 0, 0), (1217, .iconst 4, 1218, 0, 0), (1218, .iadd, 1219, 0, 0), (1219, .iaload, 1220, 0, 0), (1220, .invokevirtual 113, 1223, 89, 4), (1223, .if_icmp .eq 620, 1226, 1843, 0), (1226, .iconst 0, 1227, 0, 0), (1227, .ireturn, 1228, 0, 0)]
theorem sL22 : qL22.all (fun e => decide (zat kL_law.2.2.2.2.2 e.1 = some e.2)) = true := by decide +kernel
theorem l_c22 {R : zS → Prop} {xs : Nat → Int32} (hR : ∀ y, zstep (zCl zTab 12) 12 kL_law (some (7, xs)) zTab 600000 7302250 zLQ y R → R y) : R (1175, [some (.retAddr 0), some (.ref 0), some (.ref 14), some (.int (Int32.ofInt 0))], [], zCw (zMf []), 45, 272400) := by
  have hR0 := hR
  have hR := @zrsub _ _ _ _ _ _ _ _ _ qL22 sL22 hR
  iterate 5 refine hR (?_ : R (_, _, _, _, _, _))
  refine hR (And.intro l_v1 ?_)
  iterate 4 refine hR (?_ : R (_, _, _, _, _, _))
  refine hR (And.intro l_v2 ?_)
  iterate 4 refine hR (?_ : R (_, _, _, _, _, _))
  refine hR (And.intro l_v3 ?_)
  iterate 4 refine hR (?_ : R (_, _, _, _, _, _))
  refine hR (And.intro l_v4 ?_)
  refine hR (zcall_i 0 0 (Nat.le_of_ble_eq_true rfl) (Nat.le_of_ble_eq_true rfl) (r_fits _ _ _ _ _ _ _ ?_))
  iterate 5 refine hR (?_ : R (_, _, _, _, _, _))
  refine hR (And.intro l_v1 ?_)
  iterate 4 refine hR (?_ : R (_, _, _, _, _, _))
  refine hR (And.intro l_v2 ?_)
  iterate 4 refine hR (?_ : R (_, _, _, _, _, _))
  refine hR (And.intro l_v3 ?_)
  iterate 4 refine hR (?_ : R (_, _, _, _, _, _))
  refine hR (And.intro l_v4 ?_)
  refine hR (zcall_i 0 0 (Nat.le_of_ble_eq_true rfl) (Nat.le_of_ble_eq_true rfl) (m_fits _ _ _ _ _ _ (fun _ => ?_)))
  refine hR (And.intro (fun _ => ?_) (fun hc => absurd rfl hc))
  exact l_end hR0 _ _ _ (Nat.le_of_ble_eq_true rfl) (Nat.le_of_ble_eq_true rfl)
def qL23 : List zE := [(1228, .aload_n 1, 1229, 0, 0), (1229, .aload_n 0, 1230, 0, 0), (1230, .iload_n 3, 1231, 0, 0), (1231, .iconst 1, 1232, 0, 0), (1232, .iadd, 1233, 0, 0), (1233, .iaload, 1234, 0, 0), (1234, .aload_n 0, 1235, 0, 0), (1235, .iload_n 3, 1236, 0, 0), (1236, .iconst 2, 1237, 0, 0), (1237, .iadd, 1238, 0, 0), (1238, .iaload, 1239, 0, 0), (1239, .aload_n 0, 1240, 0, 0), (1240, .iload_n 3, 1241, 0, 0), (1241, .iconst 3, 1242, 0, 0), (1242, .iadd, 1243, 0, 0), (1243, .iaload, 1244, 0, 0), (1244, .aload_n 0, 1245, 0, 0), (1245, .iload_n 3, 1246, 0, 0), (1246, .iconst 4, 1247, 0, 0), (1247, .iadd, 1248, 0, 0), (1248, .iaload, 1249, 0, 0), (1249, .invokevirtual 114, 1252, 25, 4), (1252, .aload_n 2, 1253, 0, 0), (1253, .aload_n 0, 1254, 0, 0), (1254, .iload_n 3, 1255, 0, 0), (1255, .iconst 1, 1256, 0, 0), (1256, .iadd, 1257, 0, 0), (1257, .iaload, 1258, 0, 0), (1258, .aload_n 0, 1259, 0, 0), (1259, .iload_n 3, 1260, 0, 0), (1260, .iconst 2, 1261, 0, 0), (1261, .iadd, 1262, 0, 0), (1262, .iaload, 1263, 0, 0), (1263, .aload_n 0, 1264, 0, 0), (1264, .iload_n 3, 1265, 0, 0), (1265, .iconst 3, 1266, 0, 0), (1266, .iadd, 1267, 0, 0), (1267, .iaload, 1268, 0, 0), (1268, .aload_n 0, 1269, 0, 0), (1269, .iload_n 3, 1270, 0, 0), (1270, .iconst 4, 1271, 0, 0), (1271, .iadd, 1272, 0, 0), (1272, .iaload, 1273, 0, 0), (1273, .invokevirtual 117, 1276, 90, 4), (1276, .if_icmp .eq 567, 1279, 1843, 0), (1279, .iconst 0, 1280, 0, 0), (1280, .ireturn, 1281, 0, 0)]
theorem sL23 : qL23.all (fun e => decide (zat kL_law.2.2.2.2.2 e.1 = some e.2)) = true := by decide +kernel
theorem l_c23 {R : zS → Prop} {xs : Nat → Int32} (hR : ∀ y, zstep (zCl zTab 12) 12 kL_law (some (7, xs)) zTab 600000 7302250 zLQ y R → R y) : R (1228, [some (.retAddr 0), some (.ref 0), some (.ref 14), some (.int (Int32.ofInt 0))], [], zCw (zMf []), 45, 272400) := by
  have hR0 := hR
  have hR := @zrsub _ _ _ _ _ _ _ _ _ qL23 sL23 hR
  iterate 5 refine hR (?_ : R (_, _, _, _, _, _))
  refine hR (And.intro l_v1 ?_)
  iterate 4 refine hR (?_ : R (_, _, _, _, _, _))
  refine hR (And.intro l_v2 ?_)
  iterate 4 refine hR (?_ : R (_, _, _, _, _, _))
  refine hR (And.intro l_v3 ?_)
  iterate 4 refine hR (?_ : R (_, _, _, _, _, _))
  refine hR (And.intro l_v4 ?_)
  refine hR (zcall_i 0 0 (Nat.le_of_ble_eq_true rfl) (Nat.le_of_ble_eq_true rfl) (r_sure _ _ _ _ _ _ _ ?_))
  iterate 5 refine hR (?_ : R (_, _, _, _, _, _))
  refine hR (And.intro l_v1 ?_)
  iterate 4 refine hR (?_ : R (_, _, _, _, _, _))
  refine hR (And.intro l_v2 ?_)
  iterate 4 refine hR (?_ : R (_, _, _, _, _, _))
  refine hR (And.intro l_v3 ?_)
  iterate 4 refine hR (?_ : R (_, _, _, _, _, _))
  refine hR (And.intro l_v4 ?_)
  refine hR (zcall_i 0 0 (Nat.le_of_ble_eq_true rfl) (Nat.le_of_ble_eq_true rfl) (m_sure _ _ _ _ _ _ (fun _ => ?_)))
  refine hR (And.intro (fun _ => ?_) (fun hc => absurd rfl hc))
  exact l_end hR0 _ _ _ (Nat.le_of_ble_eq_true rfl) (Nat.le_of_ble_eq_true rfl)
def qL24 : List zE := [(1281, .aload_n 1, 1282, 0, 0), (1282, .aload_n 0, 1283, 0, 0), (1283, .iload_n 3, 1284, 0, 0), (1284, .iconst 1, 1285, 0, 0), (1285, .iadd, 1286, 0, 0), (1286, .iaload, 1287, 0, 0), (1287, .aload_n 0, 1288, 0, 0), (1288, .iload_n 3, 1289, 0, 0), (1289, .iconst 2, 1290, 0, 0), (1290, .iadd, 1291, 0, 0), (1291, .iaload, 1292, 0, 0), (1292, .aload_n 0, 1293, 0, 0), (1293, .iload_n 3, 1294, 0, 0), (1294, .iconst 3, 1295, 0, 0), (1295, .iadd, 1296, 0, 0), (1296, .iaload, 1297, 0, 0), (1297, .aload_n 0, 1298, 0, 0), (1298, .iload_n 3, 1299, 0, 0), (1299, .iconst 4, 1300, 0, 0), (1300, .iadd, 1301, 0, 0), (1301, .iaload, 1302, 0, 0), (1302, .invokevirtual 118, 1305, 26, 4), (1305, .aload_n 2, 1306, 0, 0), (1306, .aload_n 0, 1307, 0, 0), (1307, .iload_n 3, 1308, 0, 0), (1308, .iconst 1, 1309, 0, 0), (1309, .iadd, 1310, 0, 0), (1310, .iaload, 1311, 0, 0), (1311, .aload_n 0, 1312, 0, 0), (1312, .iload_n 3, 1313, 0, 0), (1313, .iconst 2, 1314, 0, 0), (1314, .iadd, 1315, 0, 0), (1315, .iaload, 1316, 0, 0), (1316, .aload_n 0, 1317, 0, 0), (1317, .iload_n 3, 1318, 0, 0), (1318, .iconst 3, 1319, 0, 0), (1319, .iadd, 1320, 0, 0), (1320, .iaload, 1321, 0, 0), (1321, .aload_n 0, 1322, 0, 0), (1322, .iload_n 3, 1323, 0, 0), (1323, .iconst 4, 1324, 0, 0), (1324, .iadd, 1325, 0, 0), (1325, .iaload, 1326, 0, 0), (1326, .invokevirtual 121, 1329, 91, 4), (1329, .if_icmp .eq 514, 1332, 1843, 0), (1332, .iconst 0, 1333, 0, 0), (1333, .ireturn, 1334, 0, 0)]
theorem sL24 : qL24.all (fun e => decide (zat kL_law.2.2.2.2.2 e.1 = some e.2)) = true := by decide +kernel
theorem l_c24 {R : zS → Prop} {xs : Nat → Int32} (hR : ∀ y, zstep (zCl zTab 12) 12 kL_law (some (7, xs)) zTab 600000 7302250 zLQ y R → R y) : R (1281, [some (.retAddr 0), some (.ref 0), some (.ref 14), some (.int (Int32.ofInt 0))], [], zCw (zMf []), 45, 272400) := by
  have hR0 := hR
  have hR := @zrsub _ _ _ _ _ _ _ _ _ qL24 sL24 hR
  iterate 5 refine hR (?_ : R (_, _, _, _, _, _))
  refine hR (And.intro l_v1 ?_)
  iterate 4 refine hR (?_ : R (_, _, _, _, _, _))
  refine hR (And.intro l_v2 ?_)
  iterate 4 refine hR (?_ : R (_, _, _, _, _, _))
  refine hR (And.intro l_v3 ?_)
  iterate 4 refine hR (?_ : R (_, _, _, _, _, _))
  refine hR (And.intro l_v4 ?_)
  refine hR (zcall_i 0 0 (Nat.le_of_ble_eq_true rfl) (Nat.le_of_ble_eq_true rfl) (r_drawn _ _ _ _ _ _ _ ?_))
  iterate 5 refine hR (?_ : R (_, _, _, _, _, _))
  refine hR (And.intro l_v1 ?_)
  iterate 4 refine hR (?_ : R (_, _, _, _, _, _))
  refine hR (And.intro l_v2 ?_)
  iterate 4 refine hR (?_ : R (_, _, _, _, _, _))
  refine hR (And.intro l_v3 ?_)
  iterate 4 refine hR (?_ : R (_, _, _, _, _, _))
  refine hR (And.intro l_v4 ?_)
  refine hR (zcall_i 0 0 (Nat.le_of_ble_eq_true rfl) (Nat.le_of_ble_eq_true rfl) (m_drawn _ _ _ _ _ _ (fun _ => ?_)))
  refine hR (And.intro (fun _ => ?_) (fun hc => absurd rfl hc))
  exact l_end hR0 _ _ _ (Nat.le_of_ble_eq_true rfl) (Nat.le_of_ble_eq_true rfl)
def qL25 : List zE := [(1334, .aload_n 1, 1335, 0, 0), (1335, .aload_n 0, 1336, 0, 0), (1336, .iload_n 3, 1337, 0, 0), (1337, .iconst 1, 1338, 0, 0), (1338, .iadd, 1339, 0, 0), (1339, .iaload, 1340, 0, 0), (1340, .aload_n 0, 1341, 0, 0), (1341, .iload_n 3, 1342, 0, 0), (1342, .iconst 2, 1343, 0, 0), (1343, .iadd, 1344, 0, 0), (1344, .iaload, 1345, 0, 0), (1345, .aload_n 0, 1346, 0, 0), (1346, .iload_n 3, 1347, 0, 0), (1347, .iconst 3, 1348, 0, 0), (1348, .iadd, 1349, 0, 0), (1349, .iaload, 1350, 0, 0), (1350, .ifCond .eq 7, 1353, 1357, 0), (1353, .iconst 1, 1354, 0, 0), (1354, .goto 4, 1357, 1358, 0), (1357, .iconst 0, 1358, 0, 0), (1358, .invokevirtual 122, 1361, 27, 3), (1361, .aload_n 2, 1362, 0, 0), (1362, .aload_n 0, 1363, 0, 0), (1363, .iload_n 3, 1364, 0, 0), (1364, .iconst 1, 1365, 0, 0), (1365, .iadd, 1366, 0, 0), (1366, .iaload, 1367, 0, 0), (1367, .aload_n 0, 1368, 0, 0), (1368, .iload_n 3, 1369, 0, 0), (1369, .iconst 2, 1370, 0, 0), (1370, .iadd, 1371, 0, 0), (1371, .iaload, 1372, 0, 0), (1372, .aload_n 0, 1373, 0, 0), (1373, .iload_n 3, 1374, 0, 0), (1374, .iconst 3, 1375, 0, 0), (1375, .iadd, 1376, 0, 0), (1376, .iaload, 1377, 0, 0), (1377, .ifCond .eq 7, 1380, 1384, 0), (1380, .iconst 1, 1381, 0, 0), (1381, .goto 4, 1384, 1385, 0), (1384, .iconst 0, 1385, 0, 0), (1385, .invokevirtual 125, 1388, 92, 3), (1388, .if_icmp .eq 455, 1391, 1843, 0), (1391, .iconst 0, 1392, 0, 0), (1392, .ireturn, 1393, 0, 0)]
theorem sL25 : qL25.all (fun e => decide (zat kL_law.2.2.2.2.2 e.1 = some e.2)) = true := by decide +kernel
theorem l_c25 {R : zS → Prop} {xs : Nat → Int32} (hR : ∀ y, zstep (zCl zTab 12) 12 kL_law (some (7, xs)) zTab 600000 7302250 zLQ y R → R y) : R (1334, [some (.retAddr 0), some (.ref 0), some (.ref 14), some (.int (Int32.ofInt 0))], [], zCw (zMf []), 45, 272400) := by
  have hR0 := hR
  have hR := @zrsub _ _ _ _ _ _ _ _ _ qL25 sL25 hR
  iterate 5 refine hR (?_ : R (_, _, _, _, _, _))
  refine hR (And.intro l_v1 ?_)
  iterate 4 refine hR (?_ : R (_, _, _, _, _, _))
  refine hR (And.intro l_v2 ?_)
  iterate 4 refine hR (?_ : R (_, _, _, _, _, _))
  refine hR (And.intro l_v3 ?_)
  refine hR (And.intro (fun hz1 => ?_) (fun hz1 => ?_))
  · skip
    refine hR (?_ : R (_, _, _, _, _, _))
    refine hR (zcall_i 0 0 (Nat.le_of_ble_eq_true rfl) (Nat.le_of_ble_eq_true rfl) (r_kinship _ _ _ _ _ _ ?_))
    iterate 5 refine hR (?_ : R (_, _, _, _, _, _))
    refine hR (And.intro l_v1 ?_)
    iterate 4 refine hR (?_ : R (_, _, _, _, _, _))
    refine hR (And.intro l_v2 ?_)
    iterate 4 refine hR (?_ : R (_, _, _, _, _, _))
    refine hR (And.intro l_v3 ?_)
    refine hR (And.intro (fun _ => ?_) (fun hc => absurd hz1 hc))
    refine hR (?_ : R (_, _, _, _, _, _))
    refine hR (zcall_i 0 0 (Nat.le_of_ble_eq_true rfl) (Nat.le_of_ble_eq_true rfl) (m_kinship _ _ _ _ _ (fun _ => ?_)))
    refine hR (And.intro (fun _ => ?_) (fun hc => absurd rfl hc))
    exact l_end hR0 _ _ _ (Nat.le_of_ble_eq_true rfl) (Nat.le_of_ble_eq_true rfl)
  · skip
    iterate 2 refine hR (?_ : R (_, _, _, _, _, _))
    refine hR (zcall_i 0 0 (Nat.le_of_ble_eq_true rfl) (Nat.le_of_ble_eq_true rfl) (r_kinship _ _ _ _ _ _ ?_))
    iterate 5 refine hR (?_ : R (_, _, _, _, _, _))
    refine hR (And.intro l_v1 ?_)
    iterate 4 refine hR (?_ : R (_, _, _, _, _, _))
    refine hR (And.intro l_v2 ?_)
    iterate 4 refine hR (?_ : R (_, _, _, _, _, _))
    refine hR (And.intro l_v3 ?_)
    refine hR (And.intro (fun hc => absurd hc hz1) (fun _ => ?_))
    iterate 2 refine hR (?_ : R (_, _, _, _, _, _))
    refine hR (zcall_i 0 0 (Nat.le_of_ble_eq_true rfl) (Nat.le_of_ble_eq_true rfl) (m_kinship _ _ _ _ _ (fun _ => ?_)))
    refine hR (And.intro (fun _ => ?_) (fun hc => absurd rfl hc))
    exact l_end hR0 _ _ _ (Nat.le_of_ble_eq_true rfl) (Nat.le_of_ble_eq_true rfl)
def qL27 : List zE := [(1452, .aload_n 1, 1453, 0, 0), (1453, .aload_n 0, 1454, 0, 0), (1454, .iload_n 3, 1455, 0, 0), (1455, .iconst 1, 1456, 0, 0), (1456, .iadd, 1457, 0, 0), (1457, .iaload, 1458, 0, 0), (1458, .aload_n 0, 1459, 0, 0), (1459, .iload_n 3, 1460, 0, 0), (1460, .iconst 2, 1461, 0, 0), (1461, .iadd, 1462, 0, 0), (1462, .iaload, 1463, 0, 0), (1463, .aload_n 0, 1464, 0, 0), (1464, .iload_n 3, 1465, 0, 0), (1465, .iconst 3, 1466, 0, 0), (1466, .iadd, 1467, 0, 0), (1467, .iaload, 1468, 0, 0), (1468, .aload_n 0, 1469, 0, 0), (1469, .iload_n 3, 1470, 0, 0), (1470, .iconst 4, 1471, 0, 0), (1471, .iadd, 1472, 0, 0), (1472, .iaload, 1473, 0, 0), (1473, .ifCond .eq 7, 1476, 1480, 0), (1476, .iconst 1, 1477, 0, 0), (1477, .goto 4, 1480, 1481, 0), (1480, .iconst 0, 1481, 0, 0), (1481, .invokevirtual 130, 1484, 29, 4), (1484, .aload_n 2, 1485, 0, 0), (1485, .aload_n 0, 1486, 0, 0), (1486, .iload_n 3, 1487, 0, 0), (1487, .iconst 1, 1488, 0, 0), (1488, .iadd, 1489, 0, 0), (1489, .iaload, 1490, 0, 0), (1490, .aload_n 0, 1491, 0, 0), (1491, .iload_n 3, 1492, 0, 0), (1492, .iconst 2, 1493, 0, 0), (1493, .iadd, 1494, 0, 0), (1494, .iaload, 1495, 0, 0), (1495, .aload_n 0, 1496, 0, 0), (1496, .iload_n 3, 1497, 0, 0), (1497, .iconst 3, 1498, 0, 0), (1498, .iadd, 1499, 0, 0), (1499, .iaload, 1500, 0, 0), (1500, .aload_n 0, 1501, 0, 0), (1501, .iload_n 3, 1502, 0, 0), (1502, .iconst 4, 1503, 0, 0), (1503, .iadd, 1504, 0, 0), (1504, .iaload, 1505, 0, 0), (1505, .ifCond .eq 7, 1508, 1512, 0), (1508, .iconst 1, 1509, 0, 0), (1509, .goto 4, 1512, 1513, 0), (1512, .iconst 0, 1513, 0, 0), (1513, .invokevirtual 133, 1516, 94, 4), (1516, .if_icmp .eq 327, 1519, 1843, 0), (1519, .iconst 0, 1520, 0, 0), (1520, .ireturn, 1521, 0, 0)]
theorem sL27 : qL27.all (fun e => decide (zat kL_law.2.2.2.2.2 e.1 = some e.2)) = true := by decide +kernel
theorem l_c27 {R : zS → Prop} {xs : Nat → Int32} (hR : ∀ y, zstep (zCl zTab 12) 12 kL_law (some (7, xs)) zTab 600000 7302250 zLQ y R → R y) : R (1452, [some (.retAddr 0), some (.ref 0), some (.ref 14), some (.int (Int32.ofInt 0))], [], zCw (zMf []), 45, 272400) := by
  have hR0 := hR
  have hR := @zrsub _ _ _ _ _ _ _ _ _ qL27 sL27 hR
  iterate 5 refine hR (?_ : R (_, _, _, _, _, _))
  refine hR (And.intro l_v1 ?_)
  iterate 4 refine hR (?_ : R (_, _, _, _, _, _))
  refine hR (And.intro l_v2 ?_)
  iterate 4 refine hR (?_ : R (_, _, _, _, _, _))
  refine hR (And.intro l_v3 ?_)
  iterate 4 refine hR (?_ : R (_, _, _, _, _, _))
  refine hR (And.intro l_v4 ?_)
  refine hR (And.intro (fun hz1 => ?_) (fun hz1 => ?_))
  · skip
    refine hR (?_ : R (_, _, _, _, _, _))
    refine hR (zcall_i 0 0 (Nat.le_of_ble_eq_true rfl) (Nat.le_of_ble_eq_true rfl) (r_joined _ _ _ _ _ _ _ ?_))
    iterate 5 refine hR (?_ : R (_, _, _, _, _, _))
    refine hR (And.intro l_v1 ?_)
    iterate 4 refine hR (?_ : R (_, _, _, _, _, _))
    refine hR (And.intro l_v2 ?_)
    iterate 4 refine hR (?_ : R (_, _, _, _, _, _))
    refine hR (And.intro l_v3 ?_)
    iterate 4 refine hR (?_ : R (_, _, _, _, _, _))
    refine hR (And.intro l_v4 ?_)
    refine hR (And.intro (fun _ => ?_) (fun hc => absurd hz1 hc))
    refine hR (?_ : R (_, _, _, _, _, _))
    refine hR (zcall_i 0 0 (Nat.le_of_ble_eq_true rfl) (Nat.le_of_ble_eq_true rfl) (m_joined _ _ _ _ _ _ (fun _ => ?_)))
    refine hR (And.intro (fun _ => ?_) (fun hc => absurd rfl hc))
    exact l_end hR0 _ _ _ (Nat.le_of_ble_eq_true rfl) (Nat.le_of_ble_eq_true rfl)
  · skip
    iterate 2 refine hR (?_ : R (_, _, _, _, _, _))
    refine hR (zcall_i 0 0 (Nat.le_of_ble_eq_true rfl) (Nat.le_of_ble_eq_true rfl) (r_joined _ _ _ _ _ _ _ ?_))
    iterate 5 refine hR (?_ : R (_, _, _, _, _, _))
    refine hR (And.intro l_v1 ?_)
    iterate 4 refine hR (?_ : R (_, _, _, _, _, _))
    refine hR (And.intro l_v2 ?_)
    iterate 4 refine hR (?_ : R (_, _, _, _, _, _))
    refine hR (And.intro l_v3 ?_)
    iterate 4 refine hR (?_ : R (_, _, _, _, _, _))
    refine hR (And.intro l_v4 ?_)
    refine hR (And.intro (fun hc => absurd hc hz1) (fun _ => ?_))
    iterate 2 refine hR (?_ : R (_, _, _, _, _, _))
    refine hR (zcall_i 0 0 (Nat.le_of_ble_eq_true rfl) (Nat.le_of_ble_eq_true rfl) (m_joined _ _ _ _ _ _ (fun _ => ?_)))
    refine hR (And.intro (fun _ => ?_) (fun hc => absurd rfl hc))
    exact l_end hR0 _ _ _ (Nat.le_of_ble_eq_true rfl) (Nat.le_of_ble_eq_true rfl)
def qL28 : List zE := [(1521, .aload_n 1, 1522, 0, 0), (1522, .aload_n 0, 1523, 0, 0), (1523, .iload_n 3, 1524, 0, 0), (1524, .iconst 1, 1525, 0, 0), (1525, .iadd, 1526, 0, 0), (1526, .iaload, 1527, 0, 0), (1527, .aload_n 0, 1528, 0, 0), (1528, .iload_n 3, 1529, 0, 0), (1529, .iconst 2, 1530, 0, 0), (1530, .iadd, 1531, 0, 0), (1531, .iaload, 1532, 0, 0), (1532, .aload_n 0, 1533, 0, 0), (1533, .iload_n 3, 1534, 0, 0), (1534, .iconst 3, 1535, 0, 0), (1535, .iadd, 1536, 0, 0), (1536, .iaload, 1537, 0, 0), (1537, .aload_n 0, 1538, 0, 0), (1538, .iload_n 3, 1539, 0, 0), (1539, .iconst 4, 1540, 0, 0), (1540, .iadd, 1541, 0, 0), (1541, .iaload, 1542, 0, 0), (1542, .ifCond .eq 7, 1545, 1549, 0), (1545, .iconst 1, 1546, 0, 0), (1546, .goto 4, 1549, 1550, 0), (1549, .iconst 0, 1550, 0, 0), (1550, .invokevirtual 134, 1553, 30, 4), (1553, .aload_n 2, 1554, 0, 0), (1554, .aload_n 0, 1555, 0, 0), (1555, .iload_n 3, 1556, 0, 0), (1556, .iconst 1, 1557, 0, 0), (1557, .iadd, 1558, 0, 0), (1558, .iaload, 1559, 0, 0), (1559, .aload_n 0, 1560, 0, 0), (1560, .iload_n 3, 1561, 0, 0), (1561, .iconst 2, 1562, 0, 0), (1562, .iadd, 1563, 0, 0), (1563, .iaload, 1564, 0, 0), (1564, .aload_n 0, 1565, 0, 0), (1565, .iload_n 3, 1566, 0, 0), (1566, .iconst 3, 1567, 0, 0), (1567, .iadd, 1568, 0, 0), (1568, .iaload, 1569, 0, 0), (1569, .aload_n 0, 1570, 0, 0), (1570, .iload_n 3, 1571, 0, 0), (1571, .iconst 4, 1572, 0, 0), (1572, .iadd, 1573, 0, 0), (1573, .iaload, 1574, 0, 0), (1574, .ifCond .eq 7, 1577, 1581, 0), (1577, .iconst 1, 1578, 0, 0), (1578, .goto 4, 1581, 1582, 0), (1581, .iconst 0, 1582, 0, 0), (1582, .invokevirtual 137, 1585, 95, 4), (1585, .if_icmp .eq 258, 1588, 1843, 0), (1588, .iconst 0, 1589, 0, 0), (1589, .ireturn, 1590, 0, 0)]
theorem sL28 : qL28.all (fun e => decide (zat kL_law.2.2.2.2.2 e.1 = some e.2)) = true := by decide +kernel
theorem l_c28 {R : zS → Prop} {xs : Nat → Int32} (hR : ∀ y, zstep (zCl zTab 12) 12 kL_law (some (7, xs)) zTab 600000 7302250 zLQ y R → R y) : R (1521, [some (.retAddr 0), some (.ref 0), some (.ref 14), some (.int (Int32.ofInt 0))], [], zCw (zMf []), 45, 272400) := by
  have hR0 := hR
  have hR := @zrsub _ _ _ _ _ _ _ _ _ qL28 sL28 hR
  iterate 5 refine hR (?_ : R (_, _, _, _, _, _))
  refine hR (And.intro l_v1 ?_)
  iterate 4 refine hR (?_ : R (_, _, _, _, _, _))
  refine hR (And.intro l_v2 ?_)
  iterate 4 refine hR (?_ : R (_, _, _, _, _, _))
  refine hR (And.intro l_v3 ?_)
  iterate 4 refine hR (?_ : R (_, _, _, _, _, _))
  refine hR (And.intro l_v4 ?_)
  refine hR (And.intro (fun hz1 => ?_) (fun hz1 => ?_))
  · skip
    refine hR (?_ : R (_, _, _, _, _, _))
    refine hR (zcall_i 0 0 (Nat.le_of_ble_eq_true rfl) (Nat.le_of_ble_eq_true rfl) (r_nearest _ _ _ _ _ _ _ ?_))
    iterate 5 refine hR (?_ : R (_, _, _, _, _, _))
    refine hR (And.intro l_v1 ?_)
    iterate 4 refine hR (?_ : R (_, _, _, _, _, _))
    refine hR (And.intro l_v2 ?_)
    iterate 4 refine hR (?_ : R (_, _, _, _, _, _))
    refine hR (And.intro l_v3 ?_)
    iterate 4 refine hR (?_ : R (_, _, _, _, _, _))
    refine hR (And.intro l_v4 ?_)
    refine hR (And.intro (fun _ => ?_) (fun hc => absurd hz1 hc))
    refine hR (?_ : R (_, _, _, _, _, _))
    refine hR (zcall_i 0 0 (Nat.le_of_ble_eq_true rfl) (Nat.le_of_ble_eq_true rfl) (m_nearest _ _ _ _ _ _ (fun _ => ?_)))
    refine hR (And.intro (fun _ => ?_) (fun hc => absurd rfl hc))
    exact l_end hR0 _ _ _ (Nat.le_of_ble_eq_true rfl) (Nat.le_of_ble_eq_true rfl)
  · skip
    iterate 2 refine hR (?_ : R (_, _, _, _, _, _))
    refine hR (zcall_i 0 0 (Nat.le_of_ble_eq_true rfl) (Nat.le_of_ble_eq_true rfl) (r_nearest _ _ _ _ _ _ _ ?_))
    iterate 5 refine hR (?_ : R (_, _, _, _, _, _))
    refine hR (And.intro l_v1 ?_)
    iterate 4 refine hR (?_ : R (_, _, _, _, _, _))
    refine hR (And.intro l_v2 ?_)
    iterate 4 refine hR (?_ : R (_, _, _, _, _, _))
    refine hR (And.intro l_v3 ?_)
    iterate 4 refine hR (?_ : R (_, _, _, _, _, _))
    refine hR (And.intro l_v4 ?_)
    refine hR (And.intro (fun hc => absurd hc hz1) (fun _ => ?_))
    iterate 2 refine hR (?_ : R (_, _, _, _, _, _))
    refine hR (zcall_i 0 0 (Nat.le_of_ble_eq_true rfl) (Nat.le_of_ble_eq_true rfl) (m_nearest _ _ _ _ _ _ (fun _ => ?_)))
    refine hR (And.intro (fun _ => ?_) (fun hc => absurd rfl hc))
    exact l_end hR0 _ _ _ (Nat.le_of_ble_eq_true rfl) (Nat.le_of_ble_eq_true rfl)
def qL29 : List zE := [(1590, .aload_n 1, 1591, 0, 0), (1591, .aload_n 0, 1592, 0, 0), (1592, .iload_n 3, 1593, 0, 0), (1593, .iconst 1, 1594, 0, 0), (1594, .iadd, 1595, 0, 0), (1595, .iaload, 1596, 0, 0), (1596, .aload_n 0, 1597, 0, 0), (1597, .iload_n 3, 1598, 0, 0), (1598, .iconst 2, 1599, 0, 0), (1599, .iadd, 1600, 0, 0), (1600, .iaload, 1601, 0, 0), (1601, .aload_n 0, 1602, 0, 0), (1602, .iload_n 3, 1603, 0, 0), (1603, .iconst 3, 1604, 0, 0), (1604, .iadd, 1605, 0, 0), (1605, .iaload, 1606, 0, 0), (1606, .ifCond .eq 7, 1609, 1613, 0), (1609, .iconst 1, 1610, 0, 0), (1610, .goto 4, 1613, 1614, 0), (1613, .iconst 0, 1614, 0, 0), (1614, .invokevirtual 138, 1617, 31, 3), (1617, .aload_n 2, 1618, 0, 0), (1618, .aload_n 0, 1619, 0, 0), (1619, .iload_n 3, 1620, 0, 0), (1620, .iconst 1, 1621, 0, 0), (1621, .iadd, 1622, 0, 0), (1622, .iaload, 1623, 0, 0), (1623, .aload_n 0, 1624, 0, 0), (1624, .iload_n 3, 1625, 0, 0), (1625, .iconst 2, 1626, 0, 0), (1626, .iadd, 1627, 0, 0), (1627, .iaload, 1628, 0, 0), (1628, .aload_n 0, 1629, 0, 0), (1629, .iload_n 3, 1630, 0, 0), (1630, .iconst 3, 1631, 0, 0), (1631, .iadd, 1632, 0, 0), (1632, .iaload, 1633, 0, 0), (1633, .ifCond .eq 7, 1636, 1640, 0), (1636, .iconst 1, 1637, 0, 0), (1637, .goto 4, 1640, 1641, 0), (1640, .iconst 0, 1641, 0, 0), (1641, .invokevirtual 141, 1644, 96, 3), (1644, .if_icmp .eq 199, 1647, 1843, 0), (1647, .iconst 0, 1648, 0, 0), (1648, .ireturn, 1649, 0, 0)]
theorem sL29 : qL29.all (fun e => decide (zat kL_law.2.2.2.2.2 e.1 = some e.2)) = true := by decide +kernel
theorem l_c29 {R : zS → Prop} {xs : Nat → Int32} (hR : ∀ y, zstep (zCl zTab 12) 12 kL_law (some (7, xs)) zTab 600000 7302250 zLQ y R → R y) : R (1590, [some (.retAddr 0), some (.ref 0), some (.ref 14), some (.int (Int32.ofInt 0))], [], zCw (zMf []), 45, 272400) := by
  have hR0 := hR
  have hR := @zrsub _ _ _ _ _ _ _ _ _ qL29 sL29 hR
  iterate 5 refine hR (?_ : R (_, _, _, _, _, _))
  refine hR (And.intro l_v1 ?_)
  iterate 4 refine hR (?_ : R (_, _, _, _, _, _))
  refine hR (And.intro l_v2 ?_)
  iterate 4 refine hR (?_ : R (_, _, _, _, _, _))
  refine hR (And.intro l_v3 ?_)
  refine hR (And.intro (fun hz1 => ?_) (fun hz1 => ?_))
  · skip
    refine hR (?_ : R (_, _, _, _, _, _))
    refine hR (zcall_i 0 0 (Nat.le_of_ble_eq_true rfl) (Nat.le_of_ble_eq_true rfl) (r_settles _ _ _ _ _ _ ?_))
    iterate 5 refine hR (?_ : R (_, _, _, _, _, _))
    refine hR (And.intro l_v1 ?_)
    iterate 4 refine hR (?_ : R (_, _, _, _, _, _))
    refine hR (And.intro l_v2 ?_)
    iterate 4 refine hR (?_ : R (_, _, _, _, _, _))
    refine hR (And.intro l_v3 ?_)
    refine hR (And.intro (fun _ => ?_) (fun hc => absurd hz1 hc))
    refine hR (?_ : R (_, _, _, _, _, _))
    refine hR (zcall_i 0 0 (Nat.le_of_ble_eq_true rfl) (Nat.le_of_ble_eq_true rfl) (m_settles _ _ _ _ _ (fun _ => ?_)))
    refine hR (And.intro (fun _ => ?_) (fun hc => absurd rfl hc))
    exact l_end hR0 _ _ _ (Nat.le_of_ble_eq_true rfl) (Nat.le_of_ble_eq_true rfl)
  · skip
    iterate 2 refine hR (?_ : R (_, _, _, _, _, _))
    refine hR (zcall_i 0 0 (Nat.le_of_ble_eq_true rfl) (Nat.le_of_ble_eq_true rfl) (r_settles _ _ _ _ _ _ ?_))
    iterate 5 refine hR (?_ : R (_, _, _, _, _, _))
    refine hR (And.intro l_v1 ?_)
    iterate 4 refine hR (?_ : R (_, _, _, _, _, _))
    refine hR (And.intro l_v2 ?_)
    iterate 4 refine hR (?_ : R (_, _, _, _, _, _))
    refine hR (And.intro l_v3 ?_)
    refine hR (And.intro (fun hc => absurd hc hz1) (fun _ => ?_))
    iterate 2 refine hR (?_ : R (_, _, _, _, _, _))
    refine hR (zcall_i 0 0 (Nat.le_of_ble_eq_true rfl) (Nat.le_of_ble_eq_true rfl) (m_settles _ _ _ _ _ (fun _ => ?_)))
    refine hR (And.intro (fun _ => ?_) (fun hc => absurd rfl hc))
    exact l_end hR0 _ _ _ (Nat.le_of_ble_eq_true rfl) (Nat.le_of_ble_eq_true rfl)
def qL30 : List zE := [(1649, .aload_n 1, 1650, 0, 0), (1650, .aload_n 0, 1651, 0, 0), (1651, .iload_n 3, 1652, 0, 0), (1652, .iconst 1, 1653, 0, 0), (1653, .iadd, 1654, 0, 0), (1654, .iaload, 1655, 0, 0), (1655, .aload_n 0, 1656, 0, 0), (1656, .iload_n 3, 1657, 0, 0), (1657, .iconst 2, 1658, 0, 0), (1658, .iadd, 1659, 0, 0), (1659, .iaload, 1660, 0, 0), (1660, .ifCond .eq 7, 1663, 1667, 0), (1663, .iconst 1, 1664, 0, 0), (1664, .goto 4, 1667, 1668, 0), (1667, .iconst 0, 1668, 0, 0), (1668, .invokevirtual 142, 1671, 32, 2), (1671, .aload_n 2, 1672, 0, 0), (1672, .aload_n 0, 1673, 0, 0), (1673, .iload_n 3, 1674, 0, 0), (1674, .iconst 1, 1675, 0, 0), (1675, .iadd, 1676, 0, 0), (1676, .iaload, 1677, 0, 0), (1677, .aload_n 0, 1678, 0, 0), (1678, .iload_n 3, 1679, 0, 0), (1679, .iconst 2, 1680, 0, 0), (1680, .iadd, 1681, 0, 0), (1681, .iaload, 1682, 0, 0), (1682, .ifCond .eq 7, 1685, 1689, 0), (1685, .iconst 1, 1686, 0, 0), (1686, .goto 4, 1689, 1690, 0), (1689, .iconst 0, 1690, 0, 0), (1690, .invokevirtual 146, 1693, 97, 2), (1693, .if_icmp .eq 150, 1696, 1843, 0), (1696, .iconst 0, 1697, 0, 0), (1697, .ireturn, 1698, 0, 0)]
theorem sL30 : qL30.all (fun e => decide (zat kL_law.2.2.2.2.2 e.1 = some e.2)) = true := by decide +kernel
theorem l_c30 {R : zS → Prop} {xs : Nat → Int32} (hR : ∀ y, zstep (zCl zTab 12) 12 kL_law (some (7, xs)) zTab 600000 7302250 zLQ y R → R y) : R (1649, [some (.retAddr 0), some (.ref 0), some (.ref 14), some (.int (Int32.ofInt 0))], [], zCw (zMf []), 45, 272400) := by
  have hR0 := hR
  have hR := @zrsub _ _ _ _ _ _ _ _ _ qL30 sL30 hR
  iterate 5 refine hR (?_ : R (_, _, _, _, _, _))
  refine hR (And.intro l_v1 ?_)
  iterate 4 refine hR (?_ : R (_, _, _, _, _, _))
  refine hR (And.intro l_v2 ?_)
  refine hR (And.intro (fun hz1 => ?_) (fun hz1 => ?_))
  · skip
    refine hR (?_ : R (_, _, _, _, _, _))
    refine hR (zcall_i 0 0 (Nat.le_of_ble_eq_true rfl) (Nat.le_of_ble_eq_true rfl) (r_unmade _ _ _ _ _ ?_))
    iterate 5 refine hR (?_ : R (_, _, _, _, _, _))
    refine hR (And.intro l_v1 ?_)
    iterate 4 refine hR (?_ : R (_, _, _, _, _, _))
    refine hR (And.intro l_v2 ?_)
    refine hR (And.intro (fun _ => ?_) (fun hc => absurd hz1 hc))
    refine hR (?_ : R (_, _, _, _, _, _))
    refine hR (zcall_i 0 0 (Nat.le_of_ble_eq_true rfl) (Nat.le_of_ble_eq_true rfl) (m_unmade _ _ _ _ (fun _ => ?_)))
    refine hR (And.intro (fun _ => ?_) (fun hc => absurd rfl hc))
    exact l_end hR0 _ _ _ (Nat.le_of_ble_eq_true rfl) (Nat.le_of_ble_eq_true rfl)
  · skip
    iterate 2 refine hR (?_ : R (_, _, _, _, _, _))
    refine hR (zcall_i 0 0 (Nat.le_of_ble_eq_true rfl) (Nat.le_of_ble_eq_true rfl) (r_unmade _ _ _ _ _ ?_))
    iterate 5 refine hR (?_ : R (_, _, _, _, _, _))
    refine hR (And.intro l_v1 ?_)
    iterate 4 refine hR (?_ : R (_, _, _, _, _, _))
    refine hR (And.intro l_v2 ?_)
    refine hR (And.intro (fun hc => absurd hc hz1) (fun _ => ?_))
    iterate 2 refine hR (?_ : R (_, _, _, _, _, _))
    refine hR (zcall_i 0 0 (Nat.le_of_ble_eq_true rfl) (Nat.le_of_ble_eq_true rfl) (m_unmade _ _ _ _ (fun _ => ?_)))
    refine hR (And.intro (fun _ => ?_) (fun hc => absurd rfl hc))
    exact l_end hR0 _ _ _ (Nat.le_of_ble_eq_true rfl) (Nat.le_of_ble_eq_true rfl)
def qL31 : List zE := [(1698, .aload_n 1, 1699, 0, 0), (1699, .aload_n 0, 1700, 0, 0), (1700, .iload_n 3, 1701, 0, 0), (1701, .iconst 1, 1702, 0, 0), (1702, .iadd, 1703, 0, 0), (1703, .iaload, 1704, 0, 0), (1704, .aload_n 0, 1705, 0, 0), (1705, .iload_n 3, 1706, 0, 0), (1706, .iconst 2, 1707, 0, 0), (1707, .iadd, 1708, 0, 0), (1708, .iaload, 1709, 0, 0), (1709, .aload_n 0, 1710, 0, 0), (1710, .iload_n 3, 1711, 0, 0), (1711, .iconst 3, 1712, 0, 0), (1712, .iadd, 1713, 0, 0), (1713, .iaload, 1714, 0, 0), (1714, .invokevirtual 147, 1717, 33, 3), (1717, .aload_n 2, 1718, 0, 0), (1718, .aload_n 0, 1719, 0, 0), (1719, .iload_n 3, 1720, 0, 0), (1720, .iconst 1, 1721, 0, 0), (1721, .iadd, 1722, 0, 0), (1722, .iaload, 1723, 0, 0), (1723, .aload_n 0, 1724, 0, 0), (1724, .iload_n 3, 1725, 0, 0), (1725, .iconst 2, 1726, 0, 0), (1726, .iadd, 1727, 0, 0), (1727, .iaload, 1728, 0, 0), (1728, .aload_n 0, 1729, 0, 0), (1729, .iload_n 3, 1730, 0, 0), (1730, .iconst 3, 1731, 0, 0), (1731, .iadd, 1732, 0, 0), (1732, .iaload, 1733, 0, 0), (1733, .invokevirtual 150, 1736, 98, 3), (1736, .if_icmp .eq 107, 1739, 1843, 0), (1739, .iconst 0, 1740, 0, 0), (1740, .ireturn, 1741, 0, 0)]
theorem sL31 : qL31.all (fun e => decide (zat kL_law.2.2.2.2.2 e.1 = some e.2)) = true := by decide +kernel
theorem l_c31 {R : zS → Prop} {xs : Nat → Int32} (hR : ∀ y, zstep (zCl zTab 12) 12 kL_law (some (7, xs)) zTab 600000 7302250 zLQ y R → R y) : R (1698, [some (.retAddr 0), some (.ref 0), some (.ref 14), some (.int (Int32.ofInt 0))], [], zCw (zMf []), 45, 272400) := by
  have hR0 := hR
  have hR := @zrsub _ _ _ _ _ _ _ _ _ qL31 sL31 hR
  iterate 5 refine hR (?_ : R (_, _, _, _, _, _))
  refine hR (And.intro l_v1 ?_)
  iterate 4 refine hR (?_ : R (_, _, _, _, _, _))
  refine hR (And.intro l_v2 ?_)
  iterate 4 refine hR (?_ : R (_, _, _, _, _, _))
  refine hR (And.intro l_v3 ?_)
  refine hR (zcall_i 0 0 (Nat.le_of_ble_eq_true rfl) (Nat.le_of_ble_eq_true rfl) (r_silenced _ _ _ _ _ _ ?_))
  iterate 5 refine hR (?_ : R (_, _, _, _, _, _))
  refine hR (And.intro l_v1 ?_)
  iterate 4 refine hR (?_ : R (_, _, _, _, _, _))
  refine hR (And.intro l_v2 ?_)
  iterate 4 refine hR (?_ : R (_, _, _, _, _, _))
  refine hR (And.intro l_v3 ?_)
  refine hR (zcall_i 0 0 (Nat.le_of_ble_eq_true rfl) (Nat.le_of_ble_eq_true rfl) (m_silenced _ _ _ _ _ (fun _ => ?_)))
  refine hR (And.intro (fun _ => ?_) (fun hc => absurd rfl hc))
  exact l_end hR0 _ _ _ (Nat.le_of_ble_eq_true rfl) (Nat.le_of_ble_eq_true rfl)
def qL32 : List zE := [(1741, .aload_n 1, 1742, 0, 0), (1742, .aload_n 0, 1743, 0, 0), (1743, .iload_n 3, 1744, 0, 0), (1744, .iconst 1, 1745, 0, 0), (1745, .iadd, 1746, 0, 0), (1746, .iaload, 1747, 0, 0), (1747, .aload_n 0, 1748, 0, 0), (1748, .iload_n 3, 1749, 0, 0), (1749, .iconst 2, 1750, 0, 0), (1750, .iadd, 1751, 0, 0), (1751, .iaload, 1752, 0, 0), (1752, .invokevirtual 151, 1755, 34, 2), (1755, .aload_n 2, 1756, 0, 0), (1756, .aload_n 0, 1757, 0, 0), (1757, .iload_n 3, 1758, 0, 0), (1758, .iconst 1, 1759, 0, 0), (1759, .iadd, 1760, 0, 0), (1760, .iaload, 1761, 0, 0), (1761, .aload_n 0, 1762, 0, 0), (1762, .iload_n 3, 1763, 0, 0), (1763, .iconst 2, 1764, 0, 0), (1764, .iadd, 1765, 0, 0), (1765, .iaload, 1766, 0, 0), (1766, .invokevirtual 154, 1769, 99, 2), (1769, .if_icmp .eq 74, 1772, 1843, 0), (1772, .iconst 0, 1773, 0, 0), (1773, .ireturn, 1774, 0, 0)]
theorem sL32 : qL32.all (fun e => decide (zat kL_law.2.2.2.2.2 e.1 = some e.2)) = true := by decide +kernel
theorem l_c32 {R : zS → Prop} {xs : Nat → Int32} (hR : ∀ y, zstep (zCl zTab 12) 12 kL_law (some (7, xs)) zTab 600000 7302250 zLQ y R → R y) : R (1741, [some (.retAddr 0), some (.ref 0), some (.ref 14), some (.int (Int32.ofInt 0))], [], zCw (zMf []), 45, 272400) := by
  have hR0 := hR
  have hR := @zrsub _ _ _ _ _ _ _ _ _ qL32 sL32 hR
  iterate 5 refine hR (?_ : R (_, _, _, _, _, _))
  refine hR (And.intro l_v1 ?_)
  iterate 4 refine hR (?_ : R (_, _, _, _, _, _))
  refine hR (And.intro l_v2 ?_)
  refine hR (zcall_i 0 0 (Nat.le_of_ble_eq_true rfl) (Nat.le_of_ble_eq_true rfl) (r_circles _ _ _ _ _ ?_))
  iterate 5 refine hR (?_ : R (_, _, _, _, _, _))
  refine hR (And.intro l_v1 ?_)
  iterate 4 refine hR (?_ : R (_, _, _, _, _, _))
  refine hR (And.intro l_v2 ?_)
  refine hR (zcall_i 0 0 (Nat.le_of_ble_eq_true rfl) (Nat.le_of_ble_eq_true rfl) (m_circles _ _ _ _ (fun _ => ?_)))
  refine hR (And.intro (fun _ => ?_) (fun hc => absurd rfl hc))
  exact l_end hR0 _ _ _ (Nat.le_of_ble_eq_true rfl) (Nat.le_of_ble_eq_true rfl)
def qL33 : List zE := [(1774, .aload_n 1, 1775, 0, 0), (1775, .aload_n 0, 1776, 0, 0), (1776, .iload_n 3, 1777, 0, 0), (1777, .iconst 1, 1778, 0, 0), (1778, .iadd, 1779, 0, 0), (1779, .iaload, 1780, 0, 0), (1780, .invokevirtual 155, 1783, 35, 1), (1783, .aload_n 2, 1784, 0, 0), (1784, .aload_n 0, 1785, 0, 0), (1785, .iload_n 3, 1786, 0, 0), (1786, .iconst 1, 1787, 0, 0), (1787, .iadd, 1788, 0, 0), (1788, .iaload, 1789, 0, 0), (1789, .invokevirtual 158, 1792, 100, 1), (1792, .if_icmp .eq 51, 1795, 1843, 0), (1795, .iconst 0, 1796, 0, 0), (1796, .ireturn, 1797, 0, 0)]
theorem sL33 : qL33.all (fun e => decide (zat kL_law.2.2.2.2.2 e.1 = some e.2)) = true := by decide +kernel
theorem l_c33 {R : zS → Prop} {xs : Nat → Int32} (hR : ∀ y, zstep (zCl zTab 12) 12 kL_law (some (7, xs)) zTab 600000 7302250 zLQ y R → R y) : R (1774, [some (.retAddr 0), some (.ref 0), some (.ref 14), some (.int (Int32.ofInt 0))], [], zCw (zMf []), 45, 272400) := by
  have hR0 := hR
  have hR := @zrsub _ _ _ _ _ _ _ _ _ qL33 sL33 hR
  iterate 5 refine hR (?_ : R (_, _, _, _, _, _))
  refine hR (And.intro l_v1 ?_)
  refine hR (zcall_i 0 0 (Nat.le_of_ble_eq_true rfl) (Nat.le_of_ble_eq_true rfl) (r_count _ _ _ (fun _ _ _ _ _ _ _ _ _ _ _ _ _ _ _ => ?_)))
  iterate 5 refine hR (?_ : R (_, _, _, _, _, _))
  refine hR (And.intro l_v1 ?_)
  refine hR (zcall_i 0 0 (Nat.le_of_ble_eq_true rfl) (Nat.le_of_ble_eq_true rfl) (m_count _ _ _ (fun _ => ?_)))
  refine hR (And.intro (fun _ => ?_) (fun hc => absurd rfl hc))
  exact l_end hR0 _ _ _ (Nat.le_of_ble_eq_true rfl) (Nat.le_of_ble_eq_true rfl)
theorem r_imageY (d : Nat) (n : Int32) (h0 : ¬ n < 0) (h1 : n < 3) (Q : zQ) (h : ∀ c0 c1 c2 c3 c4 c5 c6 c7 c8 c9 c10 c11 c12 c13 t, Q (some (.int (Int32.ofInt 1))) (c0 :: c1 :: c2 :: c3 :: c4 :: c5 :: c6 :: c7 :: c8 :: c9 :: c10 :: c11 :: c12 :: c13 :: zMf t)) : zCl zTab (d + 3) iX11_image [.ref 0, .int n] (zCw (zMf [])) 6 617 Q := by
  rcases z012 h0 h1 with rfl | rfl | rfl
  · exact r_image0 d Q h
  · exact r_image1 d Q h
  · exact r_image2 d Q h
def qL34 : List zE := [(1797, .aload_n 1, 1798, 0, 0), (1798, .aload_n 0, 1799, 0, 0), (1799, .iload_n 3, 1800, 0, 0), (1800, .iconst 1, 1801, 0, 0), (1801, .iadd, 1802, 0, 0), (1802, .iaload, 1803, 0, 0), (1803, .invokevirtual 159, 1806, 36, 1), (1806, .aload_n 2, 1807, 0, 0), (1807, .aload_n 0, 1808, 0, 0), (1808, .iload_n 3, 1809, 0, 0), (1809, .iconst 1, 1810, 0, 0), (1810, .iadd, 1811, 0, 0), (1811, .iaload, 1812, 0, 0), (1812, .invokevirtual 163, 1815, 101, 1), (1815, .if_icmp .eq 28, 1818, 1843, 0), (1818, .iconst 0, 1819, 0, 0), (1819, .ireturn, 1820, 0, 0)]
theorem sL34 : qL34.all (fun e => decide (zat kL_law.2.2.2.2.2 e.1 = some e.2)) = true := by decide +kernel
theorem l_c34Y {R : zS → Prop} {xs : Nat → Int32} (hR : ∀ y, zstep (zCl zTab 12) 12 kL_law (some (7, xs)) zTab 600000 7302250 zLQ y R → R y) (h0 : ¬ xs (Int32.ofInt 0 + Int32.ofInt 1).toNatClampNeg < 0) (h1 : xs (Int32.ofInt 0 + Int32.ofInt 1).toNatClampNeg < 3) : R (1797, [some (.retAddr 0), some (.ref 0), some (.ref 14), some (.int (Int32.ofInt 0))], [], zCw (zMf []), 45, 272400) := by
  have hR0 := hR
  have hR := @zrsub _ _ _ _ _ _ _ _ _ qL34 sL34 hR
  iterate 5 refine hR (?_ : R (_, _, _, _, _, _))
  refine hR (And.intro l_v1 ?_)
  refine hR (zcall_i 6 617 (Nat.le_of_ble_eq_true rfl) (Nat.le_of_ble_eq_true rfl) (r_imageY _ _ h0 h1 _ (fun _ _ _ _ _ _ _ _ _ _ _ _ _ _ _ => ?_)))
  iterate 5 refine hR (?_ : R (_, _, _, _, _, _))
  refine hR (And.intro l_v1 ?_)
  refine hR (zcall_i 0 0 (Nat.le_of_ble_eq_true rfl) (Nat.le_of_ble_eq_true rfl) (m_image _ _ _ (fun _ _ _ => ?_) (fun q => (q.elim h0 (fun z => absurd h1 (Int32.not_lt.mpr z))).elim)))
  refine hR (And.intro (fun _ => ?_) (fun hc => absurd rfl hc))
  exact l_end hR0 _ _ _ (Nat.le_of_ble_eq_true rfl) (Nat.le_of_ble_eq_true rfl)
theorem l_c34N {R : zS → Prop} {xs : Nat → Int32} (hR : ∀ y, zstep (zCl zTab 12) 12 kL_law (some (7, xs)) zTab 600000 7302250 zLQ y R → R y) (hn : xs (Int32.ofInt 0 + Int32.ofInt 1).toNatClampNeg < 0 ∨ 3 ≤ xs (Int32.ofInt 0 + Int32.ofInt 1).toNatClampNeg) : R (1797, [some (.retAddr 0), some (.ref 0), some (.ref 14), some (.int (Int32.ofInt 0))], [], zCw (zMf []), 45, 272400) := by
  have hR0 := hR
  have hR := @zrsub _ _ _ _ _ _ _ _ _ qL34 sL34 hR
  iterate 5 refine hR (?_ : R (_, _, _, _, _, _))
  refine hR (And.intro l_v1 ?_)
  refine hR (zcall_i 0 0 (Nat.le_of_ble_eq_true rfl) (Nat.le_of_ble_eq_true rfl) (r_imageN _ _ hn _ (fun _ _ _ _ _ _ _ _ _ _ _ _ _ _ _ => ?_)))
  iterate 5 refine hR (?_ : R (_, _, _, _, _, _))
  refine hR (And.intro l_v1 ?_)
  refine hR (zcall_i 0 0 (Nat.le_of_ble_eq_true rfl) (Nat.le_of_ble_eq_true rfl) (m_image _ _ _ (fun q1 q2 => (hn.elim q1 (fun z => absurd q2 (Int32.not_lt.mpr z))).elim) (fun _ _ => ?_)))
  refine hR (And.intro (fun _ => ?_) (fun hc => absurd rfl hc))
  exact l_end hR0 _ _ _ (Nat.le_of_ble_eq_true rfl) (Nat.le_of_ble_eq_true rfl)
theorem l_c34 {R : zS → Prop} {xs : Nat → Int32} (hR : ∀ y, zstep (zCl zTab 12) 12 kL_law (some (7, xs)) zTab 600000 7302250 zLQ y R → R y) : R (1797, [some (.retAddr 0), some (.ref 0), some (.ref 14), some (.int (Int32.ofInt 0))], [], zCw (zMf []), 45, 272400) := by
  by_cases h0 : xs (Int32.ofInt 0 + Int32.ofInt 1).toNatClampNeg < 0
  · exact l_c34N hR (Or.inl h0)
  by_cases h1 : xs (Int32.ofInt 0 + Int32.ofInt 1).toNatClampNeg < 3
  · exact l_c34Y hR h0 h1
  · exact l_c34N hR (Or.inr (Int32.not_lt.mp h1))
def qL35 : List zE := [(1820, .aload_n 1, 1821, 0, 0), (1821, .aload_n 0, 1822, 0, 0), (1822, .iload_n 3, 1823, 0, 0), (1823, .iconst 1, 1824, 0, 0), (1824, .iadd, 1825, 0, 0), (1825, .iaload, 1826, 0, 0), (1826, .invokevirtual 164, 1829, 37, 1), (1829, .aload_n 2, 1830, 0, 0), (1830, .aload_n 0, 1831, 0, 0), (1831, .iload_n 3, 1832, 0, 0), (1832, .iconst 1, 1833, 0, 0), (1833, .iadd, 1834, 0, 0), (1834, .iaload, 1835, 0, 0), (1835, .invokevirtual 167, 1838, 102, 1), (1838, .if_icmp .eq 5, 1841, 1843, 0), (1841, .iconst 0, 1842, 0, 0), (1842, .ireturn, 1843, 0, 0)]
theorem sL35 : qL35.all (fun e => decide (zat kL_law.2.2.2.2.2 e.1 = some e.2)) = true := by decide +kernel
theorem l_c35 {R : zS → Prop} {xs : Nat → Int32} (hR : ∀ y, zstep (zCl zTab 12) 12 kL_law (some (7, xs)) zTab 600000 7302250 zLQ y R → R y) : R (1820, [some (.retAddr 0), some (.ref 0), some (.ref 14), some (.int (Int32.ofInt 0))], [], zCw (zMf []), 45, 272400) := by
  have hR0 := hR
  have hR := @zrsub _ _ _ _ _ _ _ _ _ qL35 sL35 hR
  iterate 5 refine hR (?_ : R (_, _, _, _, _, _))
  refine hR (And.intro l_v1 ?_)
  refine hR (zcall_i 0 0 (Nat.le_of_ble_eq_true rfl) (Nat.le_of_ble_eq_true rfl) (r_again _ _ _ (fun _ _ _ _ _ _ _ _ _ _ _ _ _ _ _ => ?_)))
  iterate 5 refine hR (?_ : R (_, _, _, _, _, _))
  refine hR (And.intro l_v1 ?_)
  refine hR (zcall_i 0 0 (Nat.le_of_ble_eq_true rfl) (Nat.le_of_ble_eq_true rfl) (m_again _ _ _ (fun _ => ?_)))
  refine hR (And.intro (fun _ => ?_) (fun hc => absurd rfl hc))
  exact l_end hR0 _ _ _ (Nat.le_of_ble_eq_true rfl) (Nat.le_of_ble_eq_true rfl)
end
section
/-! TEXTS BY THEIR NUMBERS. -/
def tSh (n : Nat) : Nat := (4 ^ n - 1) / 3
def tLen (t : Nat) : Nat := if t < 1 then 0 else if t < 5 then 1 else if t < 21 then 2 else if t < 85 then 3 else if t < 341 then 4 else if t < 1365 then 5 else 6
def tF (t : Nat) : Nat := t - tSh (tLen t)
def tW (t k : Nat) : Nat := tF t / 4 ^ (tLen t - 1 - k) % 4
def tB (t : Nat) : Nat := t - tSh (tLen t) + 4 ^ tLen t
theorem tLen_le (t : Nat) : tLen t ≤ 6 := by
  unfold tLen
  repeat' split
  all_goals omega
def cL : Nat → Nat → Nat → Nat
  | 0, _, n => n
  | k + 1, l, n => if l = 0 then n else cL k ((l - 1) / 4) (n + 1)
theorem cL_eq (t : Nat) (ht : t < 5461) : cL 6 t 0 = tLen t := by
  simp only [cL, tLen]
  repeat' split
  all_goals omega
theorem tB_w (t : Nat) (k : Nat) (hk : k < tLen t) : tB t / 4 ^ (tLen t - 1 - k) % 4 = tW t k := by
  unfold tB tW tF
  generalize t - tSh (tLen t) = f
  have h6 := tLen_le t
  generalize tLen t = n at hk h6 ⊢
  have e : 4 ^ n = 4 ^ (n - 1 - k) * (4 * 4 ^ k) := by
    rw [← Nat.pow_succ', ← Nat.pow_add]
    congr 1
    omega
  rw [e, Nat.add_mul_div_left _ _ (Nat.pos_of_ne_zero (by simp)), Nat.add_mul_mod_self_left]
theorem tSh_v : tSh 0 = 0 ∧ tSh 1 = 1 ∧ tSh 2 = 5 ∧ tSh 3 = 21 ∧ tSh 4 = 85 ∧ tSh 5 = 341 ∧ tSh 6 = 1365 ∧ tSh 7 = 5461 := by decide
theorem tLen_v (t : Nat) (ht : t < 5461) : (t < 1 ∧ tLen t = 0) ∨ (1 ≤ t ∧ t < 5 ∧ tLen t = 1) ∨ (5 ≤ t ∧ t < 21 ∧ tLen t = 2) ∨ (21 ≤ t ∧ t < 85 ∧ tLen t = 3) ∨ (85 ≤ t ∧ t < 341 ∧ tLen t = 4) ∨ (341 ≤ t ∧ t < 1365 ∧ tLen t = 5) ∨ (1365 ≤ t ∧ tLen t = 6) := by
  unfold tLen
  repeat' split
  all_goals omega
theorem tSh_le (t : Nat) (ht : t < 5461) : tSh (tLen t) ≤ t ∧ t < tSh (tLen t + 1) ∧ tB t < 8192 ∧ tF t < 4096 := by
  obtain ⟨e0, e1, e2, e3, e4, e5, e6, e7⟩ := tSh_v
  unfold tB tF
  rcases tLen_v t ht with ⟨h1, h⟩ | ⟨h1, h2, h⟩ | ⟨h1, h2, h⟩ | ⟨h1, h2, h⟩ | ⟨h1, h2, h⟩ | ⟨h1, h2, h⟩ | ⟨h1, h⟩ <;> rw [h] <;> simp only [e0, e1, e2, e3, e4, e5, e6, e7] <;> omega
theorem nI1 : Int32.ofInt 1 = nI 1 := by decide
theorem nI0 : Int32.ofInt 0 = nI 0 := by decide
theorem nI2 : Int32.ofInt 2 = nI 2 := by decide
theorem nI3 : Int32.ofInt 3 = nI 3 := by decide
theorem nI4 : Int32.ofInt 4 = nI 4 := by decide
theorem nI6 : (Int8.ofInt 6).toInt32 = nI 6 := by decide
set_option maxHeartbeats 1000000 in
theorem r_lengthOf (d : Nat) (x : Int32) (t : Nat) (hx : x = nI t) (ht : t < 5461) (w : zW) (Q : zQ) (h : Q (some (.int (nI (tLen t)))) w) : zCl zTab (d + 1) iX11_lengthOf [.int x] w 0 0 Q := by
  refine zCl_i (M := kX11_lengthOf) rfl (Nat.le_of_ble_eq_true rfl) fun R hR => ?_
  have loop : ∀ (k : Nat) (n l i : Int32) (a b j : Nat), l = nI a → n = nI b → i = nI j → j + k = 6 → a < 5461 → cL k a b = tLen t → R (6, [some (.int x), some (.int n), some (.int l), some (.int i)], [], w, 0, 0) := by
    intro k
    induction k with
    | zero =>
      intro n l i a b j hl hn hi hj ha hc
      iterate 2 refine hR (?_ : R (_, _, _, _, _, _))
      refine hR (pk_le 6 j (fun _ => ?_) (fun z => by omega) nI6 hi)
      refine hR (?_ : R (_, _, _, _, _, _))
      have e : n = nI (tLen t) := by rw [hn, ← hc]; rfl
      subst e
      exact hR (zret_i rfl (Nat.le_refl _) trivial h)
    | succ k ih =>
      intro n l i a b j hl hn hi hj ha hc
      iterate 2 refine hR (?_ : R (_, _, _, _, _, _))
      refine hR (pk_le 6 j (fun z => by omega) (fun _ => ?_) nI6 hi)
      refine hR (?_ : R (_, _, _, _, _, _))
      refine hR (pk_le a 0 (fun z => ?_) (fun z => ?_) hl rfl)
      · refine hR (?_ : R (_, _, _, _, _, _))
        have e : n = nI (tLen t) := by
          rw [hn, ← hc]
          unfold cL
          rw [if_pos (by omega)]
        subst e
        exact hR (zret_i rfl (Nat.le_refl _) trivial h)
      · iterate 4 refine hR (?_ : R (_, _, _, _, _, _))
        refine hR (And.intro (by decide) ?_)
        iterate 4 refine hR (?_ : R (_, _, _, _, _, _))
        refine ih _ _ _ ((a - 1) / 4) (b + 1) (j + 1) ?_ ?_ ?_ (by omega) (by omega) ?_
        · rw [hl, nI1, nI4, pk_sub (by omega), pk_div (by omega) (by omega) (by omega)]
        · rw [hn, nI1, nI_add]
        · rw [hi, nI1, nI_add]
        · rw [← hc]
          conv => rhs; unfold cL
          rw [if_neg (by omega)]
  iterate 6 refine hR (?_ : R (_, _, _, _, _, _))
  exact loop 6 _ _ _ t 0 0 hx nI0 nI0 rfl ht (cL_eq t ht)
theorem t_shl : ∀ n, n < 7 → Int32.ofInt 1 <<< ((Int32.ofInt 2 * nI n) &&& 31) = nI (4 ^ n) := by decide +kernel
theorem t_dv : ∀ n, n < 7 → (nI (4 ^ n) - Int32.ofInt 1) / Int32.ofInt 3 = nI (tSh n) := by decide +kernel
theorem r_bitsOf (d : Nat) (x : Int32) (t : Nat) (hx : x = nI t) (ht : t < 5461) (w : zW) (Q : zQ) (h : Q (some (.int (nI (tB t)))) w) : zCl zTab (d + 2) iX11_bitsOf [.int x] w 0 0 Q := by
  have h6 := tLen_le t
  have hs := tSh_le t ht
  refine zCl_i (M := kX11_bitsOf) rfl (Nat.le_of_ble_eq_true rfl) fun R hR => ?_
  refine hR (?_ : R (_, _, _, _, _, _))
  refine hR (zcall_i 0 0 (Nat.le_of_ble_eq_true rfl) (Nat.le_of_ble_eq_true rfl) (r_lengthOf _ _ t hx ht _ _ ?_))
  iterate 12 refine hR (?_ : R (_, _, _, _, _, _))
  refine hR (And.intro (by decide) ?_)
  iterate 3 refine hR (?_ : R (_, _, _, _, _, _))
  have e : x - (Int32.ofInt 1 <<< ((Int32.ofInt 2 * nI (tLen t)) &&& 31) - Int32.ofInt 1) / Int32.ofInt 3 + Int32.ofInt 1 <<< ((Int32.ofInt 2 * nI (tLen t)) &&& 31) = nI (tB t) := by
    rw [t_shl _ (by omega), t_dv _ (by omega), hx, pk_sub hs.1, nI_add]
    rfl
  refine hR (zret_i rfl (Nat.le_refl _) trivial ?_)
  have h2 : ∀ y, y = nI (tB t) → Q (some (.int y)) w := fun y hy => by rw [hy]; exact h
  exact h2 _ e
theorem t_sm : ∀ j, j < 7 → ((nI (2 * j) &&& 31).toBitVec.smod 32).toNat = 2 * j := by decide +kernel
theorem t_4 (j : Nat) : 2 ^ (2 * j) = 4 ^ j := by rw [Nat.pow_mul]
theorem r_wordOfBits (d : Nat) (x y : Int32) (B j : Nat) (hx : x = nI B) (hB : B < 2 ^ 31) (hy : y = nI j) (hj : j < 7) (w : zW) (Q : zQ) (h : Q (some (.int (nI (B / 4 ^ j % 4)))) w) : zCl zTab (d + 1) iX11_wordOfBits [.int x, .int y] w 0 0 Q := by
  refine zCl_i (M := kX11_wordOfBits) rfl (Nat.le_of_ble_eq_true rfl) fun R hR => ?_
  iterate 7 refine hR (?_ : R (_, _, _, _, _, _))
  refine hR (zret_i rfl (Nat.le_refl _) trivial ?_)
  have h2 : ∀ z, z = nI (B / 4 ^ j % 4) → Q (some (.int z)) w := fun z hz => by rw [hz]; exact h
  refine h2 _ ?_
  show (x >>> (Int32.ofInt 2 * y &&& 31)) &&& Int32.ofInt 3 = _
  rw [hx, hy, nI2, pk_mul, pk_shrN hB _ (2 * j) (t_sm j hj), t_4, pk_andN (Nat.lt_of_le_of_lt (Nat.div_le_self _ _) (by omega)) 2 (by decide)]
theorem r_wordAt (d : Nat) (x y : Int32) (t k : Nat) (hx : x = nI t) (ht : t < 5461) (hy : y = nI k) (hk : k < tLen t) (w : zW) (Q : zQ) (h : Q (some (.int (nI (tW t k)))) w) : zCl zTab (d + 3) iX11_wordAt [.int x, .int y] w 0 0 Q := by
  have h6 := tLen_le t
  have hs := tSh_le t ht
  refine zCl_i (M := kX11_wordAt) rfl (Nat.le_of_ble_eq_true rfl) fun R hR => ?_
  refine hR (?_ : R (_, _, _, _, _, _))
  refine hR (zcall_i 0 0 (Nat.le_of_ble_eq_true rfl) (Nat.le_of_ble_eq_true rfl) (r_bitsOf _ _ t hx ht _ _ ?_))
  refine hR (?_ : R (_, _, _, _, _, _))
  refine hR (zcall_i 0 0 (Nat.le_of_ble_eq_true rfl) (Nat.le_of_ble_eq_true rfl) (r_lengthOf _ _ t hx ht _ _ ?_))
  iterate 4 refine hR (?_ : R (_, _, _, _, _, _))
  have hb : tB t < 2 ^ 31 := by omega
  have hj : tLen t - 1 - k < 7 := by omega
  have ey : nI (tLen t) - Int32.ofInt 1 - y = nI (tLen t - 1 - k) := by rw [nI1, hy, pk_sub (by omega), pk_sub (by omega)]
  refine hR (zcall_i 0 0 (Nat.le_of_ble_eq_true rfl) (Nat.le_of_ble_eq_true rfl) (r_wordOfBits _ (nI (tB t)) (nI (tLen t) - Int32.ofInt 1 - y) (tB t) (tLen t - 1 - k) rfl hb ey hj _ _ ?_))
  have h3 : ∀ z, z = nI (tW t k) → Q (some (.int z)) w := fun z hz => by rw [hz]; exact h
  exact hR (zret_i rfl (Nat.le_refl _) trivial (h3 _ (congrArg nI (tB_w t k hk))))
def vWord (x k : Int32) : Int32 := if x < 0 ∨ 5461 ≤ x then Int32.ofInt (-1) else if k = Int32.ofInt (-1) then nI (tLen x.toNatClampNeg) else if k < 0 ∨ nI (tLen x.toNatClampNeg) ≤ k then Int32.ofInt (-1) else nI (tW x.toNatClampNeg k.toNatClampNeg)
theorem t_of {x : Int32} (h0 : ¬ x < 0) (h1 : x < 5461) : ∃ t, t < 5461 ∧ x = nI t := by
  obtain ⟨j, hj, rfl⟩ := nI_of h0
  refine ⟨j, ?_, rfl⟩
  have h2 : (nI j).toInt < (5461 : Int32).toInt := zlt_i.mp h1
  rw [nI_toInt hj] at h2
  have e : (5461 : Int32).toInt = 5461 := by decide
  omega
theorem t_kj {k : Int32} {L : Nat} (h0 : ¬ k < 0) (h1 : k < nI L) (hL : L ≤ 6) : ∃ j, j < L ∧ k = nI j ∧ k.toNatClampNeg = j := by
  obtain ⟨j, hj, hkj⟩ := nI_of h0
  subst hkj
  refine ⟨j, ?_, rfl, nI_clamp hj⟩
  have z := zlt_i.mp h1
  have e1 := nI_toInt hj
  have e2 : (nI L).toInt = (L : Int) := nI_toInt (by omega)
  omega
theorem r_word (d : Nat) (x k : Int32) (t : zW) (Q : zQ) (h : Q (some (.int (vWord x k))) (zCw t)) : zCl zTab (d + 4) iX11_word [.ref 0, .int x, .int k] (zCw t) 0 0 Q := by
  refine zCl_i (M := kX11_word) rfl (Nat.le_of_ble_eq_true rfl) fun R hR => ?_
  refine hR (?_ : R (_, _, _, _, _, _))
  refine hR (zcall_i 0 0 (Nat.le_of_ble_eq_true rfl) (Nat.le_of_ble_eq_true rfl) (r_isText _ _ _ _ (fun q0 q1 => ?_) (fun q => ?_)))
  · obtain ⟨n, hn, hx⟩ := t_of q0 q1
    have hcl : x.toNatClampNeg = n := by rw [hx]; exact nI_clamp (by omega)
    have h6 := tLen_le n
    unfold vWord at h
    rw [if_neg (fun z => z.elim q0 (fun z => absurd q1 (Int32.not_lt.mpr z))), hcl] at h
    refine hR (And.intro (fun _ => ?_) (fun hc => absurd hc (by decide)))
    refine hR (?_ : R (_, _, _, _, _, _))
    refine hR (zcall_i 0 0 (Nat.le_of_ble_eq_true rfl) (Nat.le_of_ble_eq_true rfl) (r_lengthOf _ _ n hx hn _ _ ?_))
    iterate 3 refine hR (?_ : R (_, _, _, _, _, _))
    refine hR (And.intro (fun hk => ?_) (fun hk => ?_))
    · rw [if_neg hk] at h
      refine hR (?_ : R (_, _, _, _, _, _))
      refine hR (And.intro (fun hk1 => ?_) (fun hk1 => ?_))
      · rw [if_pos (Or.inl hk1)] at h
        iterate 2 refine hR (?_ : R (_, _, _, _, _, _))
        exact hR (zret_i rfl (Nat.le_refl _) trivial h)
      iterate 2 refine hR (?_ : R (_, _, _, _, _, _))
      refine hR (And.intro (fun hk2 => ?_) (fun hk2 => ?_))
      · rw [if_neg (fun z => z.elim hk1 (fun z => absurd hk2 (Int32.not_lt.mpr z)))] at h
        obtain ⟨j, hjl, hkj, hcj⟩ := t_kj hk1 hk2 h6
        rw [hcj] at h
        iterate 2 refine hR (?_ : R (_, _, _, _, _, _))
        refine hR (zcall_i 0 0 (Nat.le_of_ble_eq_true rfl) (Nat.le_of_ble_eq_true rfl) (r_wordAt _ _ _ n j hx hn hkj hjl _ _ ?_))
        exact hR (zret_i rfl (Nat.le_refl _) trivial h)
      · rw [if_pos (Or.inr (Int32.not_lt.mp hk2))] at h
        iterate 2 refine hR (?_ : R (_, _, _, _, _, _))
        exact hR (zret_i rfl (Nat.le_refl _) trivial h)
    · rw [if_pos hk] at h
      refine hR (?_ : R (_, _, _, _, _, _))
      exact hR (zret_i rfl (Nat.le_refl _) trivial h)
  · unfold vWord at h
    rw [if_pos q] at h
    refine hR (And.intro (fun hc => absurd (by decide) hc) (fun _ => ?_))
    refine hR (?_ : R (_, _, _, _, _, _))
    exact hR (zret_i rfl (Nat.le_refl _) trivial h)
end
section
theorem tSh_s : ∀ j, j < 7 → tSh j + 4 ^ j = tSh (j + 1) ∧ tSh j < 10000 ∧ 4 ^ j < 10000 := by decide +kernel
theorem tSz (t : Nat) (ht : t < 5461) (j : Nat) (hj : j < 7) : tSh (j + 1) ≤ t ↔ j < tLen t := by
  obtain ⟨e0, e1, e2, e3, e4, e5, e6, e7⟩ := tSh_v
  have hc : j = 0 ∨ j = 1 ∨ j = 2 ∨ j = 3 ∨ j = 4 ∨ j = 5 ∨ j = 6 := by omega
  rcases tLen_v t ht with ⟨h1, h⟩ | ⟨h1, h2, h⟩ | ⟨h1, h2, h⟩ | ⟨h1, h2, h⟩ | ⟨h1, h2, h⟩ | ⟨h1, h2, h⟩ | ⟨h1, h⟩ <;> rw [h] <;> rcases hc with rfl | rfl | rfl | rfl | rfl | rfl | rfl <;> simp only [e0, e1, e2, e3, e4, e5, e6, e7] <;> omega
theorem tSh7 : ∀ j, j < 8 → tSh j < 10000 := by decide +kernel
set_option maxHeartbeats 1000000 in
theorem m_shorter (d : Nat) (x : Int32) (n : Nat) (hx : x = nI n) (hn : n ≤ 7) (w : zW) (Q : zQ) (h : Q (some (.int (nI (tSh n)))) w) : zCl zTab (d + 1) iX12_shorter [.int x] w 0 0 Q := by
  refine zCl_i (M := kX12_shorter) rfl (Nat.le_of_ble_eq_true rfl) fun R hR => ?_
  have loop : ∀ (m : Nat) (s a k : Int32) (j : Nat), j + m = n → s = nI (tSh j) → a = nI (4 ^ j) → k = nI j → R (6, [some (.int x), some (.int s), some (.int a), some (.int k)], [], w, 0, 0) := by
    intro m
    induction m with
    | zero =>
      intro s a k j hj hs ha hk
      iterate 2 refine hR (?_ : R (_, _, _, _, _, _))
      refine hR (pk_le n j (fun _ => ?_) (fun z => by omega) hx hk)
      refine hR (?_ : R (_, _, _, _, _, _))
      have e : j = n := by omega
      subst e
      subst hs
      exact hR (zret_i rfl (Nat.le_refl _) trivial h)
    | succ m ih =>
      intro s a k j hj hs ha hk
      have h7 := tSh_s j (by omega)
      iterate 2 refine hR (?_ : R (_, _, _, _, _, _))
      refine hR (pk_le n j (fun z => by omega) (fun _ => ?_) hx hk)
      iterate 10 refine hR (?_ : R (_, _, _, _, _, _))
      refine ih _ _ _ (j + 1) (by omega) ?_ ?_ ?_
      · rw [hs, ha, nI_add, h7.1]
      · rw [ha, nI4, pk_mul, Nat.pow_succ]
      · rw [hk, nI1, nI_add]
  iterate 6 refine hR (?_ : R (_, _, _, _, _, _))
  exact loop n _ _ _ 0 (by omega) (by decide) (by decide) nI0
set_option maxHeartbeats 1000000 in
theorem m_sizeOf (d : Nat) (x : Int32) (t : Nat) (hx : x = nI t) (ht : t < 5461) (w : zW) (Q : zQ) (h : Q (some (.int (nI (tLen t)))) w) : zCl zTab (d + 2) iX12_sizeOf [.int x] w 0 0 Q := by
  have h6 := tLen_le t
  refine zCl_i (M := kX12_sizeOf) rfl (Nat.le_of_ble_eq_true rfl) fun R hR => ?_
  have loop : ∀ (m : Nat) (k : Int32) (j : Nat), j + m = tLen t → k = nI j → R (2, [some (.int x), some (.int k)], [], w, 0, 0) := by
    intro m
    induction m with
    | zero =>
      intro k j hj hk
      have hz := tSz t ht j (by omega)
      have h7 := tSh7 (j + 1) (by omega)
      iterate 3 refine hR (?_ : R (_, _, _, _, _, _))
      refine hR (zcall_i 0 0 (Nat.le_of_ble_eq_true rfl) (Nat.le_of_ble_eq_true rfl) (m_shorter _ _ (j + 1) (by rw [hk, nI1, nI_add]) (by omega) _ _ ?_))
      refine hR (?_ : R (_, _, _, _, _, _))
      refine hR (pk_lt t (tSh (j + 1)) (fun _ => ?_) (fun z => by omega) hx rfl)
      refine hR (?_ : R (_, _, _, _, _, _))
      have h3 : ∀ z, z = nI (tLen t) → Q (some (.int z)) w := fun z hz => by rw [hz]; exact h
      exact hR (zret_i rfl (Nat.le_refl _) trivial (h3 _ (by rw [hk]; exact congrArg nI (by omega))))
    | succ m ih =>
      intro k j hj hk
      have hz := tSz t ht j (by omega)
      have h7 := tSh7 (j + 1) (by omega)
      iterate 3 refine hR (?_ : R (_, _, _, _, _, _))
      refine hR (zcall_i 0 0 (Nat.le_of_ble_eq_true rfl) (Nat.le_of_ble_eq_true rfl) (m_shorter _ _ (j + 1) (by rw [hk, nI1, nI_add]) (by omega) _ _ ?_))
      refine hR (?_ : R (_, _, _, _, _, _))
      refine hR (pk_lt t (tSh (j + 1)) (fun z => by omega) (fun _ => ?_) hx rfl)
      iterate 2 refine hR (?_ : R (_, _, _, _, _, _))
      exact ih _ (j + 1) (by omega) (by rw [hk, nI1, nI_add])
  iterate 2 refine hR (?_ : R (_, _, _, _, _, _))
  exact loop (tLen t) _ 0 (by omega) nI0
set_option maxHeartbeats 1000000 in
theorem m_spell25 {c0 c1 c2 c3 c4 c5 c6 c7 c8 c9 c10 c11 c12 c13 : va_E} {x0 x9 x10 x11 x12 x13 x15 x16 x17 x20 x21 x22 x23 x26 x28 x31 x32 x33 x38 x41 x44 : Int32} {x14 : Int64} {g15 g16 g17 g18 g19 g20 g21 g22 g23 g24 g25 g26 g27 g28 g29 g30 g31 g32 g33 g34 g35 g36 g37 g38 g39 g40 g41 g42 g43 g44 : Nat → Int32} {t : zW} (d : Nat) (x : Int32) (t9 : Nat) (hx : x = nI t9) (ht : t9 < 5461) (Q : zQ) (h : ∀ f, (∀ i, i < tLen t9 → f i = nI (tW t9 i)) → Q none (zMg c0 c1 c2 c3 c4 c5 c6 c7 c8 c9 c10 c11 c12 c13 x0 x9 x10 x11 x12 x13 x15 x16 x17 x20 x21 x22 x23 x26 x28 x31 x32 x33 x38 x41 x44 x14 g15 g16 g17 g18 g19 g20 g21 g22 g23 g24 f g26 g27 g28 g29 g30 g31 g32 g33 g34 g35 g36 g37 g38 g39 g40 g41 g42 g43 g44 t)) : zCl zTab (d + 3) iX12_spell [.int x, .ref 25] (zMg c0 c1 c2 c3 c4 c5 c6 c7 c8 c9 c10 c11 c12 c13 x0 x9 x10 x11 x12 x13 x15 x16 x17 x20 x21 x22 x23 x26 x28 x31 x32 x33 x38 x41 x44 x14 g15 g16 g17 g18 g19 g20 g21 g22 g23 g24 g25 g26 g27 g28 g29 g30 g31 g32 g33 g34 g35 g36 g37 g38 g39 g40 g41 g42 g43 g44 t) 0 0 Q := by
  have h6 := tLen_le t9
  have hs := tSh_le t9 ht
  refine zCl_i (M := kX12_spell) rfl (Nat.le_of_ble_eq_true rfl) fun R hR => ?_
  have loop : ∀ (j : Nat) (l k : Int32) (f : Nat → Int32), j ≤ tLen t9 → l = nI (tF t9 / 4 ^ (tLen t9 - j)) → k.toInt = (j : Int) - 1 → (∀ i, j ≤ i → i < tLen t9 → f i = nI (tW t9 i)) → R (17, [some (.int x), some (.ref 25), some (.int (nI (tLen t9))), some (.int l), some (.int k)], [], (zMg c0 c1 c2 c3 c4 c5 c6 c7 c8 c9 c10 c11 c12 c13 x0 x9 x10 x11 x12 x13 x15 x16 x17 x20 x21 x22 x23 x26 x28 x31 x32 x33 x38 x41 x44 x14 g15 g16 g17 g18 g19 g20 g21 g22 g23 g24 f g26 g27 g28 g29 g30 g31 g32 g33 g34 g35 g36 g37 g38 g39 g40 g41 g42 g43 g44 t), 0, 0) := by
    intro j
    induction j with
    | zero =>
      intro l k f hj hl hk hf
      refine hR (?_ : R (_, _, _, _, _, _))
      refine hR (And.intro (fun _ => ?_) (fun hc => absurd (zlt_i.mpr (by rw [hk]; decide)) hc))
      exact hR (zret_i rfl (Nat.le_refl _) rfl (h _ (fun i hi => hf i (Nat.zero_le _) hi)))
    | succ j ih =>
      intro l k f hj hl hk hf
      have hkj : k = nI j := zeq_i.mpr (by rw [hk, nI_toInt (by omega)]; omega)
      have hlt : tF t9 / 4 ^ (tLen t9 - (j + 1)) < 4096 := Nat.lt_of_le_of_lt (Nat.div_le_self _ _) hs.2.2.2
      refine hR (?_ : R (_, _, _, _, _, _))
      refine hR (And.intro (fun hc => absurd (zlt_i.mp hc) (by rw [hk]; show ¬ ((_ : Int) < 0); omega)) (fun _ => ?_))
      iterate 4 refine hR (?_ : R (_, _, _, _, _, _))
      refine hR (And.intro (by decide) ?_)
      refine hR (And.intro (by rw [hkj]; exact nI_in (by omega) (by omega)) ?_)
      iterate 2 refine hR (?_ : R (_, _, _, _, _, _))
      refine hR (And.intro (by decide) ?_)
      iterate 3 refine hR (?_ : R (_, _, _, _, _, _))
      refine ih _ _ _ (by omega) ?_ ?_ ?_
      · rw [hl, nI4, pk_div (by omega) (by omega) (by omega), Nat.div_div_eq_div_mul, ← Nat.pow_succ, show (tLen t9 - (j + 1)).succ = tLen t9 - j by omega]
      · rw [zadd (by rw [hk]; show (-2147483648 : Int) ≤ _ + -1; omega) (by rw [hk]; show _ + (-1 : Int) < _; omega), hk]
        show _ + (-1 : Int) = _
        omega
      · intro i hi1 hi2
        rw [hkj, nI_clamp (by omega)]
        by_cases hij : i = j
        · subst hij
          rw [pk_us, hl, nI4, pk_rem (by omega) (by omega) (by omega)]
          unfold tW
          rw [show tLen t9 - 1 - i = tLen t9 - (i + 1) by omega]
        · rw [pk_un hij]
          exact hf i (by omega) hi2
  refine hR (?_ : R (_, _, _, _, _, _))
  refine hR (zcall_i 0 0 (Nat.le_of_ble_eq_true rfl) (Nat.le_of_ble_eq_true rfl) (m_sizeOf _ _ t9 hx ht _ _ ?_))
  iterate 3 refine hR (?_ : R (_, _, _, _, _, _))
  refine hR (zcall_i 0 0 (Nat.le_of_ble_eq_true rfl) (Nat.le_of_ble_eq_true rfl) (m_shorter _ _ (tLen t9) rfl (by omega) _ _ ?_))
  iterate 6 refine hR (?_ : R (_, _, _, _, _, _))
  refine loop (tLen t9) _ _ g25 (Nat.le_refl _) ?_ ?_ (fun i h1 h2 => by omega)
  · rw [hx, pk_sub hs.1, Nat.sub_self]
    show nI (tF t9) = _
    rw [Nat.pow_zero, Nat.div_one]
  · rw [nI1, pk_sub_toInt (by omega) (by omega)]
    omega
set_option maxHeartbeats 1000000 in
theorem m_spell26 {c0 c1 c2 c3 c4 c5 c6 c7 c8 c9 c10 c11 c12 c13 : va_E} {x0 x9 x10 x11 x12 x13 x15 x16 x17 x20 x21 x22 x23 x26 x28 x31 x32 x33 x38 x41 x44 : Int32} {x14 : Int64} {g15 g16 g17 g18 g19 g20 g21 g22 g23 g24 g25 g26 g27 g28 g29 g30 g31 g32 g33 g34 g35 g36 g37 g38 g39 g40 g41 g42 g43 g44 : Nat → Int32} {t : zW} (d : Nat) (x : Int32) (t9 : Nat) (hx : x = nI t9) (ht : t9 < 5461) (Q : zQ) (h : ∀ f, (∀ i, i < tLen t9 → f i = nI (tW t9 i)) → Q none (zMg c0 c1 c2 c3 c4 c5 c6 c7 c8 c9 c10 c11 c12 c13 x0 x9 x10 x11 x12 x13 x15 x16 x17 x20 x21 x22 x23 x26 x28 x31 x32 x33 x38 x41 x44 x14 g15 g16 g17 g18 g19 g20 g21 g22 g23 g24 g25 f g27 g28 g29 g30 g31 g32 g33 g34 g35 g36 g37 g38 g39 g40 g41 g42 g43 g44 t)) : zCl zTab (d + 3) iX12_spell [.int x, .ref 26] (zMg c0 c1 c2 c3 c4 c5 c6 c7 c8 c9 c10 c11 c12 c13 x0 x9 x10 x11 x12 x13 x15 x16 x17 x20 x21 x22 x23 x26 x28 x31 x32 x33 x38 x41 x44 x14 g15 g16 g17 g18 g19 g20 g21 g22 g23 g24 g25 g26 g27 g28 g29 g30 g31 g32 g33 g34 g35 g36 g37 g38 g39 g40 g41 g42 g43 g44 t) 0 0 Q := by
  have h6 := tLen_le t9
  have hs := tSh_le t9 ht
  refine zCl_i (M := kX12_spell) rfl (Nat.le_of_ble_eq_true rfl) fun R hR => ?_
  have loop : ∀ (j : Nat) (l k : Int32) (f : Nat → Int32), j ≤ tLen t9 → l = nI (tF t9 / 4 ^ (tLen t9 - j)) → k.toInt = (j : Int) - 1 → (∀ i, j ≤ i → i < tLen t9 → f i = nI (tW t9 i)) → R (17, [some (.int x), some (.ref 26), some (.int (nI (tLen t9))), some (.int l), some (.int k)], [], (zMg c0 c1 c2 c3 c4 c5 c6 c7 c8 c9 c10 c11 c12 c13 x0 x9 x10 x11 x12 x13 x15 x16 x17 x20 x21 x22 x23 x26 x28 x31 x32 x33 x38 x41 x44 x14 g15 g16 g17 g18 g19 g20 g21 g22 g23 g24 g25 f g27 g28 g29 g30 g31 g32 g33 g34 g35 g36 g37 g38 g39 g40 g41 g42 g43 g44 t), 0, 0) := by
    intro j
    induction j with
    | zero =>
      intro l k f hj hl hk hf
      refine hR (?_ : R (_, _, _, _, _, _))
      refine hR (And.intro (fun _ => ?_) (fun hc => absurd (zlt_i.mpr (by rw [hk]; decide)) hc))
      exact hR (zret_i rfl (Nat.le_refl _) rfl (h _ (fun i hi => hf i (Nat.zero_le _) hi)))
    | succ j ih =>
      intro l k f hj hl hk hf
      have hkj : k = nI j := zeq_i.mpr (by rw [hk, nI_toInt (by omega)]; omega)
      have hlt : tF t9 / 4 ^ (tLen t9 - (j + 1)) < 4096 := Nat.lt_of_le_of_lt (Nat.div_le_self _ _) hs.2.2.2
      refine hR (?_ : R (_, _, _, _, _, _))
      refine hR (And.intro (fun hc => absurd (zlt_i.mp hc) (by rw [hk]; show ¬ ((_ : Int) < 0); omega)) (fun _ => ?_))
      iterate 4 refine hR (?_ : R (_, _, _, _, _, _))
      refine hR (And.intro (by decide) ?_)
      refine hR (And.intro (by rw [hkj]; exact nI_in (by omega) (by omega)) ?_)
      iterate 2 refine hR (?_ : R (_, _, _, _, _, _))
      refine hR (And.intro (by decide) ?_)
      iterate 3 refine hR (?_ : R (_, _, _, _, _, _))
      refine ih _ _ _ (by omega) ?_ ?_ ?_
      · rw [hl, nI4, pk_div (by omega) (by omega) (by omega), Nat.div_div_eq_div_mul, ← Nat.pow_succ, show (tLen t9 - (j + 1)).succ = tLen t9 - j by omega]
      · rw [zadd (by rw [hk]; show (-2147483648 : Int) ≤ _ + -1; omega) (by rw [hk]; show _ + (-1 : Int) < _; omega), hk]
        show _ + (-1 : Int) = _
        omega
      · intro i hi1 hi2
        rw [hkj, nI_clamp (by omega)]
        by_cases hij : i = j
        · subst hij
          rw [pk_us, hl, nI4, pk_rem (by omega) (by omega) (by omega)]
          unfold tW
          rw [show tLen t9 - 1 - i = tLen t9 - (i + 1) by omega]
        · rw [pk_un hij]
          exact hf i (by omega) hi2
  refine hR (?_ : R (_, _, _, _, _, _))
  refine hR (zcall_i 0 0 (Nat.le_of_ble_eq_true rfl) (Nat.le_of_ble_eq_true rfl) (m_sizeOf _ _ t9 hx ht _ _ ?_))
  iterate 3 refine hR (?_ : R (_, _, _, _, _, _))
  refine hR (zcall_i 0 0 (Nat.le_of_ble_eq_true rfl) (Nat.le_of_ble_eq_true rfl) (m_shorter _ _ (tLen t9) rfl (by omega) _ _ ?_))
  iterate 6 refine hR (?_ : R (_, _, _, _, _, _))
  refine loop (tLen t9) _ _ g26 (Nat.le_refl _) ?_ ?_ (fun i h1 h2 => by omega)
  · rw [hx, pk_sub hs.1, Nat.sub_self]
    show nI (tF t9) = _
    rw [Nat.pow_zero, Nat.div_one]
  · rw [nI1, pk_sub_toInt (by omega) (by omega)]
    omega
theorem m_word {c0 c1 c2 c3 c4 c5 c6 c7 c8 c9 c10 c11 c12 c13 : va_E} {x0 x9 x10 x11 x12 x13 x15 x16 x17 x20 x21 x22 x23 x26 x28 x31 x32 x33 x38 x41 x44 : Int32} {x14 : Int64} {g15 g16 g17 g18 g19 g20 g21 g22 g23 g24 g25 g26 g27 g28 g29 g30 g31 g32 g33 g34 g35 g36 g37 g38 g39 g40 g41 g42 g43 g44 : Nat → Int32} {t : zW} (d : Nat) (x k : Int32) (Q : zQ) (h : ∀ w, Q (some (.int (vWord x k))) w) : zCl zTab (d + 4) iX12_word [.ref 14, .int x, .int k] (zMg c0 c1 c2 c3 c4 c5 c6 c7 c8 c9 c10 c11 c12 c13 x0 x9 x10 x11 x12 x13 x15 x16 x17 x20 x21 x22 x23 x26 x28 x31 x32 x33 x38 x41 x44 x14 g15 g16 g17 g18 g19 g20 g21 g22 g23 g24 g25 g26 g27 g28 g29 g30 g31 g32 g33 g34 g35 g36 g37 g38 g39 g40 g41 g42 g43 g44 t) 0 0 Q := by
  refine zCl_i (M := kX12_word) rfl (Nat.le_of_ble_eq_true rfl) fun R hR => ?_
  iterate 4 refine hR (?_ : R (_, _, _, _, _, _))
  refine hR (zcall_i 0 0 (Nat.le_of_ble_eq_true rfl) (Nat.le_of_ble_eq_true rfl) (m_isText _ _ _ _ (fun q0 q1 => ?_) (fun q => ?_)))
  · obtain ⟨n, hn, hx⟩ := t_of q0 q1
    have hcl : x.toNatClampNeg = n := by rw [hx]; exact nI_clamp (by omega)
    have h6 := tLen_le n
    unfold vWord at h
    rw [if_neg (fun z => z.elim q0 (fun z => absurd q1 (Int32.not_lt.mpr z))), hcl] at h
    refine hR (And.intro (fun hc => absurd hc (by decide)) (fun _ => ?_))
    iterate 3 refine hR (?_ : R (_, _, _, _, _, _))
    refine hR (zcall_i 0 0 (Nat.le_of_ble_eq_true rfl) (Nat.le_of_ble_eq_true rfl) (m_sizeOf _ _ n hx hn _ _ ?_))
    iterate 2 refine hR (?_ : R (_, _, _, _, _, _))
    have hm1 : (nI (tLen n) - Int32.ofInt 1).toInt = (tLen n : Int) - 1 := by rw [nI1, pk_sub_toInt (by omega) (by omega)]; rfl
    have em : (Int32.ofInt (-1)).toInt = -1 := by decide
    have e0 : (0 : Int32).toInt = 0 := rfl
    refine hR (zcall_i 0 0 (Nat.le_of_ble_eq_true rfl) (Nat.le_of_ble_eq_true rfl) (m_in _ _ _ _ _ _ (fun p1 p2 => ?_) (fun p => ?_)))
    · rw [zlt_i, em] at p1
      rw [zle_i, hm1] at p2
      refine hR (And.intro (fun _ => ?_) (fun hc => absurd hc (by decide)))
      iterate 3 refine hR (?_ : R (_, _, _, _, _, _))
      refine hR (zcall_i 0 0 (Nat.le_of_ble_eq_true rfl) (Nat.le_of_ble_eq_true rfl) (m_spell25 _ _ n hx hn _ (fun f hf => ?_)))
      iterate 2 refine hR (?_ : R (_, _, _, _, _, _))
      refine hR (And.intro (fun hk => ?_) (fun hk => ?_))
      · have hk0 : 0 ≤ k.toInt := by
          rw [zeq_i, em] at hk
          omega
        have hkn : ¬ k < 0 := by rw [zlt_i, e0]; omega
        obtain ⟨j, hj, hkj⟩ := nI_of hkn
        have hcj : k.toNatClampNeg = j := by rw [hkj]; exact nI_clamp hj
        have hjl : j < tLen n := by
          rw [hkj, nI_toInt hj] at p2
          omega
        have hnle : ¬ nI (tLen n) ≤ k := by rw [zle_i, hkj, nI_toInt hj, nI_toInt (by omega)]; omega
        rw [if_neg hk, if_neg (fun z => z.elim hkn hnle), hcj] at h
        iterate 3 refine hR (?_ : R (_, _, _, _, _, _))
        refine hR (And.intro (by rw [hkj]; exact nI_in (by omega) (by omega)) ?_)
        refine hR (zret_i rfl (Nat.le_refl _) trivial ?_)
        have h2 : ∀ y w, y = nI (tW n j) → Q (some (.int y)) w := fun y w hy => by rw [hy]; exact h w
        refine h2 _ _ ?_
        show f k.toNatClampNeg = _
        rw [hcj]
        exact hf j hjl
      · rw [if_pos hk] at h
        refine hR (?_ : R (_, _, _, _, _, _))
        refine hR (zcall_i 0 0 (Nat.le_of_ble_eq_true rfl) (Nat.le_of_ble_eq_true rfl) (m_sizeOf _ _ n hx hn _ _ ?_))
        refine hR (?_ : R (_, _, _, _, _, _))
        exact hR (zret_i rfl (Nat.le_refl _) trivial (h _))
    · rw [zlt_i, zlt_i, em, hm1] at p
      have hk1 : ¬ k = Int32.ofInt (-1) := by rw [zeq_i, em]; omega
      have hk2 : k < 0 ∨ nI (tLen n) ≤ k := by rw [zlt_i, zle_i, e0, nI_toInt (by omega)]; omega
      rw [if_neg hk1, if_pos hk2] at h
      refine hR (And.intro (fun hc => absurd (by decide) hc) (fun _ => ?_))
      refine hR (?_ : R (_, _, _, _, _, _))
      exact hR (zret_i rfl (Nat.le_refl _) trivial (h _))
  · unfold vWord at h
    rw [if_pos q] at h
    refine hR (And.intro (fun _ => ?_) (fun hc => absurd (by decide) hc))
    refine hR (?_ : R (_, _, _, _, _, _))
    exact hR (zret_i rfl (Nat.le_refl _) trivial (h _))
end
section
def qL5 : List zE := [(367, .aload_n 1, 368, 0, 0), (368, .aload_n 0, 369, 0, 0), (369, .iload_n 3, 370, 0, 0), (370, .iconst 1, 371, 0, 0), (371, .iadd, 372, 0, 0), (372, .iaload, 373, 0, 0), (373, .aload_n 0, 374, 0, 0), (374, .iload_n 3, 375, 0, 0), (375, .iconst 2, 376, 0, 0), (376, .iadd, 377, 0, 0), (377, .iaload, 378, 0, 0), (378, .invokevirtual 36, 381, 7, 2), (381, .aload_n 2, 382, 0, 0), (382, .aload_n 0, 383, 0, 0), (383, .iload_n 3, 384, 0, 0), (384, .iconst 1, 385, 0, 0), (385, .iadd, 386, 0, 0), (386, .iaload, 387, 0, 0), (387, .aload_n 0, 388, 0, 0), (388, .iload_n 3, 389, 0, 0), (389, .iconst 2, 390, 0, 0), (390, .iadd, 391, 0, 0), (391, .iaload, 392, 0, 0), (392, .invokevirtual 39, 395, 72, 2), (395, .if_icmp .eq 1448, 398, 1843, 0), (398, .iconst 0, 399, 0, 0), (399, .ireturn, 400, 0, 0)]
theorem sL5 : qL5.all (fun e => decide (zat kL_law.2.2.2.2.2 e.1 = some e.2)) = true := by decide +kernel
theorem l_c5 {R : zS → Prop} {xs : Nat → Int32} (hR : ∀ y, zstep (zCl zTab 12) 12 kL_law (some (7, xs)) zTab 600000 7302250 zLQ y R → R y) : R (367, [some (.retAddr 0), some (.ref 0), some (.ref 14), some (.int (Int32.ofInt 0))], [], zCw (zMf []), 45, 272400) := by
  have hR0 := hR
  have hR := @zrsub _ _ _ _ _ _ _ _ _ qL5 sL5 hR
  iterate 5 refine hR (?_ : R (_, _, _, _, _, _))
  refine hR (And.intro l_v1 ?_)
  iterate 4 refine hR (?_ : R (_, _, _, _, _, _))
  refine hR (And.intro l_v2 ?_)
  refine hR (zcall_i 0 0 (Nat.le_of_ble_eq_true rfl) (Nat.le_of_ble_eq_true rfl) (r_word _ _ _ _ _ ?_))
  iterate 5 refine hR (?_ : R (_, _, _, _, _, _))
  refine hR (And.intro l_v1 ?_)
  iterate 4 refine hR (?_ : R (_, _, _, _, _, _))
  refine hR (And.intro l_v2 ?_)
  refine hR (zcall_i 0 0 (Nat.le_of_ble_eq_true rfl) (Nat.le_of_ble_eq_true rfl) (m_word _ _ _ _ (fun _ => ?_)))
  refine hR (And.intro (fun _ => ?_) (fun hc => absurd rfl hc))
  exact l_end hR0 _ _ _ (Nat.le_of_ble_eq_true rfl) (Nat.le_of_ble_eq_true rfl)
end
section
/-! EDIT DISTANCE, and that it is the same from the ends. -/
def ed1 (x y : Nat) : Nat := if x = y then 0 else 1
def edr (f : List Nat → Nat) (x : Nat) : List Nat → Nat
  | [] => f [] + 1
  | y :: b => min (f b + ed1 x y) (1 + min (f (y :: b)) (edr f x b))
def ed : List Nat → List Nat → Nat
  | [], b => b.length
  | x :: a, b => edr (ed a) x b
theorem ed1_le (x y : Nat) : ed1 x y ≤ 1 := by unfold ed1; split <;> omega
theorem ed_nil (b : List Nat) : ed [] b = b.length := rfl
theorem ed_nl : ∀ a : List Nat, ed a [] = a.length
  | [] => rfl
  | x :: a => by show ed a [] + 1 = _; rw [ed_nl a]; rfl
theorem ed_cc (x y : Nat) (a b : List Nat) : ed (x :: a) (y :: b) = min (ed a b + ed1 x y) (1 + min (ed a (y :: b)) (ed (x :: a) b)) := rfl
theorem ed_le : ∀ a b : List Nat, ed a b ≤ a.length + b.length
  | [], b => by rw [ed_nil]; simp
  | x :: a, [] => by rw [ed_nl]; simp
  | x :: a, y :: b => by
    have h1 := ed_le a b
    have h2 := ed1_le x y
    rw [ed_cc]
    simp only [List.length_cons]
    omega
theorem edU2 (x : Nat) : ∀ a b : List Nat, ed (a ++ [x]) b ≤ ed a b + 1
  | [], [] => by show ed [x] [] ≤ _; rw [ed_nl, ed_nil]; simp
  | [], y :: b => by
    show ed [x] (y :: b) ≤ _
    rw [ed_cc, ed_nil, ed_nil]
    have := ed1_le x y
    simp only [List.length_cons]
    omega
  | p :: a, [] => by
    show ed (p :: (a ++ [x])) [] ≤ _
    rw [ed_nl, ed_nl]
    simp
  | p :: a, q :: b => by
    have h1 := edU2 x a b
    have h2 := edU2 x a (q :: b)
    have h3 := edU2 x (p :: a) b
    show ed (p :: (a ++ [x])) (q :: b) ≤ _
    rw [ed_cc, ed_cc]
    rw [List.cons_append] at h3
    omega
termination_by a b => a.length + b.length
theorem edU3 (y : Nat) : ∀ a b : List Nat, ed a (b ++ [y]) ≤ ed a b + 1
  | [], b => by rw [ed_nil, ed_nil]; simp
  | p :: a, [] => by
    show ed (p :: a) [y] ≤ _
    rw [ed_cc, ed_nl, ed_nl]
    have := ed1_le p y
    simp only [List.length_cons]
    omega
  | p :: a, q :: b => by
    have h1 := edU3 y a b
    have h2 := edU3 y a (q :: b)
    have h3 := edU3 y (p :: a) b
    show ed (p :: a) (q :: (b ++ [y])) ≤ _
    rw [ed_cc, ed_cc]
    rw [List.cons_append] at h2
    omega
termination_by a b => a.length + b.length
theorem edU1 (x y : Nat) : ∀ a b : List Nat, ed (a ++ [x]) (b ++ [y]) ≤ ed a b + ed1 x y
  | [], [] => by
    show ed [x] [y] ≤ _
    rw [ed_cc, ed_nil, ed_nil]
    omega
  | [], q :: b => by
    have h1 := edU1 x y [] b
    have e : ed [] (q :: b) = b.length + 1 := rfl
    have e2 : ed [] b = b.length := rfl
    rw [List.nil_append, e2] at h1
    show ed [x] (q :: (b ++ [y])) ≤ _
    rw [e, ed_cc]
    omega
  | p :: a, [] => by
    have h1 := edU1 x y a []
    show ed (p :: (a ++ [x])) [y] ≤ _
    rw [ed_cc]
    rw [List.nil_append, ed_nl] at h1
    rw [ed_nl (p :: a)]
    simp only [List.length_cons]
    omega
  | p :: a, q :: b => by
    have h1 := edU1 x y a b
    have h2 := edU1 x y a (q :: b)
    have h3 := edU1 x y (p :: a) b
    show ed (p :: (a ++ [x])) (q :: (b ++ [y])) ≤ _
    rw [ed_cc, ed_cc]
    rw [List.cons_append] at h2 h3
    omega
termination_by a b => a.length + b.length
theorem ed_rev_le : ∀ a b : List Nat, ed a.reverse b.reverse ≤ ed a b
  | [], b => by rw [List.reverse_nil, ed_nil, ed_nil]; simp
  | p :: a, [] => by rw [List.reverse_nil, ed_nl, ed_nl]; simp
  | p :: a, q :: b => by
    have h1 := ed_rev_le a b
    have h2 := ed_rev_le a (q :: b)
    have h3 := ed_rev_le (p :: a) b
    have u1 := edU1 p q a.reverse b.reverse
    have u2 := edU2 p a.reverse (b.reverse ++ [q])
    have u3 := edU3 q (a.reverse ++ [p]) b.reverse
    rw [List.reverse_cons] at h2 h3
    rw [List.reverse_cons, List.reverse_cons, ed_cc]
    omega
termination_by a b => a.length + b.length
theorem ed_rev (a b : List Nat) : ed a.reverse b.reverse = ed a b := by
  have h1 := ed_rev_le a b
  have h2 := ed_rev_le a.reverse b.reverse
  rw [List.reverse_reverse, List.reverse_reverse] at h2
  omega
/-- the first words, the last of them first -/
def rl (u : Nat → Nat) : Nat → List Nat
  | 0 => []
  | n + 1 => u n :: rl u n
theorem rl_len (u : Nat → Nat) : ∀ n, (rl u n).length = n
  | 0 => rfl
  | n + 1 => congrArg (· + 1) (rl_len u n)
def eD (u v : Nat → Nat) (i k : Nat) : Nat := ed (rl u i) (rl v k)
theorem eD_0 (u v : Nat → Nat) (k : Nat) : eD u v 0 k = k := rl_len v k
theorem eD_z (u v : Nat → Nat) (i : Nat) : eD u v i 0 = i := (ed_nl _).trans (rl_len u i)
theorem eD_s (u v : Nat → Nat) (i k : Nat) : eD u v (i + 1) (k + 1) = min (eD u v i k + ed1 (u i) (v k)) (1 + min (eD u v i (k + 1)) (eD u v (i + 1) k)) := rfl
theorem eD_le (u v : Nat → Nat) (i k : Nat) : eD u v i k ≤ i + k := by
  have h := ed_le (rl u i) (rl v k)
  rw [rl_len, rl_len] at h
  exact h
theorem rl_get (u : Nat → Nat) : ∀ (n j : Nat), j < n → (rl u n)[j]? = some (u (n - 1 - j))
  | 0, _, h => absurd h (Nat.not_lt_zero _)
  | n + 1, 0, _ => rfl
  | n + 1, j + 1, h => by
    show (rl u n)[j]? = _
    rw [rl_get u n j (by omega)]
    congr 2
    omega
theorem rl_rev (u : Nat → Nat) (n : Nat) : rl (fun i => u (n - 1 - i)) n = (rl u n).reverse := by
  apply List.ext_getElem?
  intro j
  by_cases h : j < n
  · rw [rl_get _ n j h, List.getElem?_reverse (by rw [rl_len]; exact h), rl_len, rl_get u n (n - 1 - j) (by omega)]
  · rw [List.getElem?_eq_none (by rw [rl_len]; omega), List.getElem?_eq_none (by rw [List.length_reverse, rl_len]; omega)]
theorem eD_rev (u v : Nat → Nat) (n m : Nat) : eD (fun i => u (n - 1 - i)) (fun j => v (m - 1 - j)) n m = eD u v n m := by
  unfold eD
  rw [rl_rev, rl_rev, ed_rev]
end
section
/-! THE CLASS'S DRIFT: rows of seven cells in one int. -/
theorem dz_or (a b : Nat) : nI a ||| nI b = nI (a ||| b) := by
  apply Int32.toBitVec_inj.mp
  rw [Int32.toBitVec_or]
  show BitVec.ofNat 32 a ||| BitVec.ofNat 32 b = BitVec.ofNat 32 (a ||| b)
  exact (BitVec.ofNat_or ..).symm
theorem dz_sum {a j v : Nat} (h : a < 16 ^ j) : nI a ||| nI (v * 16 ^ j) = nI (a + v * 16 ^ j) := by
  rw [dz_or, Nat.or_comm]
  have e : (16 : Nat) ^ j = 2 ^ (4 * j) := by rw [Nat.pow_mul]
  rw [e] at h ⊢
  rw [Nat.mul_comm v, ← Nat.two_pow_add_eq_or_of_lt h, Nat.add_comm]
def pkr (f : Nat → Nat) : Nat → Nat
  | 0 => 0
  | j + 1 => pkr f j + f j * 16 ^ j
theorem pkr_lt (f : Nat → Nat) (hf : ∀ j, j < 7 → f j < 16) : ∀ c, c ≤ 7 → pkr f c < 16 ^ c
  | 0, _ => by simp [pkr]
  | c + 1, h => by
    have h1 := pkr_lt f hf c (by omega)
    have h2 := hf c (by omega)
    have h3 : f c * 16 ^ c ≤ 15 * 16 ^ c := Nat.mul_le_mul_right _ (by omega)
    rw [pkr, Nat.pow_succ]
    omega
theorem pkr_get (f : Nat → Nat) (hf : ∀ j, j < 7 → f j < 16) (j : Nat) : ∀ c, c ≤ 7 → j < c → pkr f c / 16 ^ j % 16 = f j
  | 0, _, h => absurd h (Nat.not_lt_zero _)
  | c + 1, hc, hj => by
    have h1 := pkr_lt f hf c (by omega)
    have h2 := hf c (by omega)
    rw [pkr]
    by_cases h : j = c
    · subst h
      rw [Nat.mul_comm, Nat.add_mul_div_left _ _ (Nat.pos_of_ne_zero (by simp)), Nat.div_eq_of_lt h1, Nat.zero_add, Nat.mod_eq_of_lt h2]
    · have e : f c * 16 ^ c = 16 ^ j * (16 * (f c * 16 ^ (c - j - 1))) := by
        have e2 : 16 ^ c = 16 ^ j * (16 * 16 ^ (c - j - 1)) := by
          rw [← Nat.pow_succ', ← Nat.pow_add]
          congr 1
          omega
        rw [e2]
        simp only [Nat.mul_left_comm, Nat.mul_comm, Nat.mul_assoc]
      rw [e, Nat.add_mul_div_left _ _ (Nat.pos_of_ne_zero (by simp)), Nat.add_mul_mod_self_left]
      exact pkr_get f hf j c (by omega) (by omega)
theorem pkr_cong {f g : Nat → Nat} : ∀ c, (∀ j, j < c → f j = g j) → pkr f c = pkr g c
  | 0, _ => rfl
  | c + 1, h => by rw [pkr, pkr, pkr_cong c (fun j hj => h j (by omega)), h c (by omega)]
theorem dz_sm : ∀ j, j < 7 → ((nI (4 * j) &&& 31).toBitVec.smod 32).toNat = 4 * j := by decide +kernel
theorem dz_16 (j : Nat) : 2 ^ (4 * j) = 16 ^ j := by rw [Nat.pow_mul]
theorem dz_p7 : ∀ j, j < 8 → 16 ^ j ≤ 268435456 := by decide +kernel
theorem dz_shl {v j : Nat} (hv : v < 16) (hj : j < 7) : nI v <<< (Int32.ofInt 4 * nI j &&& 31) = nI (v * 16 ^ j) := by
  have h1 := dz_p7 j (by omega)
  rw [nI4, pk_mul, pk_shlN _ (4 * j) (dz_sm j hj), dz_16]
  rw [dz_16]
  calc v * 16 ^ j ≤ 15 * 16 ^ j := Nat.mul_le_mul_right _ (by omega)
    _ < 2 ^ 32 := by omega
theorem dz_cell {f : Nat → Nat} (hf : ∀ j, j < 7 → f j < 16) {c j : Nat} (hc : c ≤ 7) (hj : j < c) : (nI (pkr f c) >>> (Int32.ofInt 4 * nI j &&& 31)) &&& (Int8.ofInt 15).toInt32 = nI (f j) := by
  have h1 := pkr_lt f hf c hc
  have h2 := dz_p7 c (by omega)
  rw [nI4, pk_mul, pk_shrN (by omega) _ (4 * j) (dz_sm j (by omega)), dz_16, pk_andN (Nat.lt_of_le_of_lt (Nat.div_le_self _ _) (by omega)) 4 (by decide), show (2 : Nat) ^ 4 = 16 from rfl, pkr_get f hf j c hc hj]
theorem dz_min {a b : Nat} (ha : a < 1000) (hb : b < 1000) : (if nI b < nI a then nI b else nI a) = nI (min a b) := by
  by_cases h : b < a
  · rw [if_pos (nI_lt h (by omega)), Nat.min_eq_right (by omega)]
  · rw [if_neg (nI_nlt (by omega) (by omega)), Nat.min_eq_left (by omega)]
/-- the words from the end -/
def ue (t : Nat) : Nat → Nat := fun i => tB t / 4 ^ i % 4
end
section
set_option maxHeartbeats 4000000 in
theorem r_driftOf (d : Nat) (x y : Int32) (a b : Nat) (hx : x = nI a) (ha : a < 5461) (hy : y = nI b) (hb : b < 5461) (w : zW) (Q : zQ) (h : Q (some (.int (nI (eD (ue a) (ue b) (tLen a) (tLen b))))) w) : zCl zTab (d + 3) iX11_driftOf [.int x, .int y] w 0 0 Q := by
  have hn := tLen_le a
  have hm := tLen_le b
  have hsa := tSh_le a ha
  have hsb := tSh_le b hb
  have hE : ∀ i, i ≤ 6 → ∀ j, j < 7 → eD (ue a) (ue b) i j < 16 := fun i hi j hj => by
    have := eD_le (ue a) (ue b) i j
    omega
  refine zCl_i (M := kX11_driftOf) rfl (Nat.le_of_ble_eq_true rfl) fun R hR => ?_
  have loopC : ∀ (i9 : Nat), i9 < tLen a → ∀ (r i wd : Int32), r = nI (pkr (eD (ue a) (ue b) i9) (tLen b + 1)) → i = nI (i9 + 1) → wd = nI (ue a i9) → (∀ (nx j lf : Int32) (z8 z12 z13 : Option Value), nx = nI (pkr (eD (ue a) (ue b) (i9 + 1)) (tLen b + 1)) → R (170, [some (.int x), some (.int y), some (.int (nI (tB a))), some (.int (nI (tB b))), some (.int (nI (tLen a))), some (.int (nI (tLen b))), some (.int r), some (.int i), z8, some (.int lf), some (.int nx), some (.int j), z12, z13], [], w, 0, 0)) → ∀ (m9 j9 : Nat) (lf nx j : Int32) (z12 z13 : Option Value), j9 + m9 = tLen b → lf = nI (eD (ue a) (ue b) (i9 + 1) j9) → nx = nI (pkr (eD (ue a) (ue b) (i9 + 1)) (j9 + 1)) → j = nI (j9 + 1) → R (84, [some (.int x), some (.int y), some (.int (nI (tB a))), some (.int (nI (tB b))), some (.int (nI (tLen a))), some (.int (nI (tLen b))), some (.int r), some (.int i), some (.int wd), some (.int lf), some (.int nx), some (.int j), z12, z13], [], w, 0, 0) := by
    intro i9 hi9 r i wd hr hi hwd hexit m9
    have hf0 : ∀ j, j < 7 → eD (ue a) (ue b) i9 j < 16 := hE i9 (by omega)
    have hf1 : ∀ j, j < 7 → eD (ue a) (ue b) (i9 + 1) j < 16 := hE (i9 + 1) (by omega)
    induction m9 with
    | zero =>
      intro j9 lf nx j z12 z13 hj hlf hnx hjj
      iterate 2 refine hR (?_ : R (_, _, _, _, _, _))
      refine hR (pk_lt (tLen b) (j9 + 1) (fun _ => ?_) (fun z => by omega) rfl hjj)
      refine hexit nx j lf _ _ _ ?_
      rw [hnx]
      exact congrArg (fun c => nI (pkr (eD (ue a) (ue b) (i9 + 1)) (c + 1))) (by omega)
    | succ m9 ih =>
      intro j9 lf nx j z12 z13 hj hlf hnx hjj
      have c0 := hf0 j9 (by omega)
      have c1 := hf0 (j9 + 1) (by omega)
      have c2 := hf1 j9 (by omega)
      have c3 := hf1 (j9 + 1) (by omega)
      have cc := ed1_le (ue a i9) (ue b j9)
      have tail : ∀ (ch : Int32) (z13 : Option Value), ch = nI (ed1 (ue a i9) (ue b j9)) → R (111, [some (.int x), some (.int y), some (.int (nI (tB a))), some (.int (nI (tB b))), some (.int (nI (tLen a))), some (.int (nI (tLen b))), some (.int r), some (.int i), some (.int wd), some (.int lf), some (.int nx), some (.int j), some (.int ch), z13], [], w, 0, 0) := by
        intro ch z13 hch
        have e1 : (if (r >>> (Int32.ofInt 4 * j &&& 31) &&& (Int8.ofInt 15).toInt32) < lf then (r >>> (Int32.ofInt 4 * j &&& 31) &&& (Int8.ofInt 15).toInt32) else lf) + Int32.ofInt 1 = nI (min (eD (ue a) (ue b) (i9 + 1) j9) (eD (ue a) (ue b) i9 (j9 + 1)) + 1) := by
          rw [hr, hjj, dz_cell hf0 (by omega) (by omega), hlf, dz_min (by omega) (by omega), nI1, nI_add]
        have e2 : (r >>> (Int32.ofInt 4 * (j - Int32.ofInt 1) &&& 31) &&& (Int8.ofInt 15).toInt32) + ch = nI (eD (ue a) (ue b) i9 j9 + ed1 (ue a i9) (ue b j9)) := by
          rw [hr, hjj, nI1, pk_sub (by omega), Nat.add_sub_cancel, dz_cell hf0 (by omega) (by omega), hch, nI_add]
        have e3 : ∀ p q : Int32, p = nI (eD (ue a) (ue b) i9 j9 + ed1 (ue a i9) (ue b j9)) → q = nI (min (eD (ue a) (ue b) (i9 + 1) j9) (eD (ue a) (ue b) i9 (j9 + 1)) + 1) → (if q < p then q else p) = nI (eD (ue a) (ue b) (i9 + 1) (j9 + 1)) := by
          intro p q hp hq
          rw [hp, hq, dz_min (by omega) (by omega)]
          refine congrArg nI ?_
          rw [eD_s]
          omega
        iterate 8 refine hR (?_ : R (_, _, _, _, _, _))
        refine hR (?_ : R (_, _, _, _, _, _))
        iterate 3 refine hR (?_ : R (_, _, _, _, _, _))
        iterate 12 refine hR (?_ : R (_, _, _, _, _, _))
        refine hR (?_ : R (_, _, _, _, _, _))
        refine hR (?_ : R (_, _, _, _, _, _))
        iterate 8 refine hR (?_ : R (_, _, _, _, _, _))
        iterate 2 refine hR (?_ : R (_, _, _, _, _, _))
        refine ih (j9 + 1) _ _ _ _ _ (by omega) (e3 _ _ e2 e1) ?_ (by rw [hjj, nI1, nI_add])
        rw [e3 _ _ e2 e1, hnx, hjj, dz_shl (by omega) (by omega), dz_sum (pkr_lt _ hf1 _ (by omega))]
        rfl
      iterate 2 refine hR (?_ : R (_, _, _, _, _, _))
      refine hR (pk_lt (tLen b) (j9 + 1) (fun z => by omega) (fun _ => ?_) rfl hjj)
      iterate 5 refine hR (?_ : R (_, _, _, _, _, _))
      refine hR (zcall_i 0 0 (Nat.le_of_ble_eq_true rfl) (Nat.le_of_ble_eq_true rfl) (r_wordOfBits _ (nI (tB b)) (j - Int32.ofInt 1) (tB b) j9 rfl (by omega) (by rw [hjj, nI1, pk_sub (by omega), Nat.add_sub_cancel]) (by omega) _ _ ?_))
      have l1 : ue a i9 < 4 := Nat.mod_lt _ (by omega)
      have l2 : tB b / 4 ^ j9 % 4 < 4 := Nat.mod_lt _ (by omega)
      refine hR (pk_eq (ue a i9) (tB b / 4 ^ j9 % 4) (fun q => ?_) (fun q => ?_) hwd rfl).symm
      · iterate 3 refine hR (?_ : R (_, _, _, _, _, _))
        exact tail _ _ (by rw [nI0]; exact congrArg nI (if_pos q).symm)
      · iterate 2 refine hR (?_ : R (_, _, _, _, _, _))
        exact tail _ _ (by rw [nI1]; exact congrArg nI (if_neg q).symm)
  have loopB : ∀ (m9 i9 : Nat) (r i : Int32) (z8 z9 z10 z11 z12 z13 : Option Value), i9 + m9 = tLen a → r = nI (pkr (eD (ue a) (ue b) i9) (tLen b + 1)) → i = nI (i9 + 1) → R (56, [some (.int x), some (.int y), some (.int (nI (tB a))), some (.int (nI (tB b))), some (.int (nI (tLen a))), some (.int (nI (tLen b))), some (.int r), some (.int i), z8, z9, z10, z11, z12, z13], [], w, 0, 0) := by
    intro m9
    induction m9 with
    | zero =>
      intro i9 r i z8 z9 z10 z11 z12 z13 hj hr hi
      iterate 2 refine hR (?_ : R (_, _, _, _, _, _))
      refine hR (pk_lt (tLen a) (i9 + 1) (fun _ => ?_) (fun z => by omega) rfl hi)
      iterate 7 refine hR (?_ : R (_, _, _, _, _, _))
      have h3 : ∀ z, z = nI (eD (ue a) (ue b) (tLen a) (tLen b)) → Q (some (.int z)) w := fun z hz => by rw [hz]; exact h
      refine hR (zret_i rfl (Nat.le_refl _) trivial (h3 _ ?_))
      have e : i9 = tLen a := by omega
      rw [hr, dz_cell (hE i9 (by omega)) (by omega) (by omega), e]
    | succ m9 ih =>
      intro i9 r i z8 z9 z10 z11 z12 z13 hj hr hi
      iterate 2 refine hR (?_ : R (_, _, _, _, _, _))
      refine hR (pk_lt (tLen a) (i9 + 1) (fun z => by omega) (fun _ => ?_) rfl hi)
      iterate 4 refine hR (?_ : R (_, _, _, _, _, _))
      refine hR (zcall_i 0 0 (Nat.le_of_ble_eq_true rfl) (Nat.le_of_ble_eq_true rfl) (r_wordOfBits _ (nI (tB a)) (i - Int32.ofInt 1) (tB a) i9 rfl (by omega) (by rw [hi, nI1, pk_sub (by omega), Nat.add_sub_cancel]) (by omega) _ _ ?_))
      iterate 7 refine hR (?_ : R (_, _, _, _, _, _))
      refine loopC i9 (by omega) r i _ hr hi rfl ?_ (tLen b) 0 _ _ _ _ _ (by omega) (by rw [hi, eD_z]) ?_ nI1
      · intro nx j lf z8 z12 z13 hnx
        iterate 4 refine hR (?_ : R (_, _, _, _, _, _))
        exact ih (i9 + 1) _ _ _ _ _ _ _ _ (by omega) hnx (by rw [hi, nI1, nI_add])
      · rw [hi]
        refine congrArg nI ?_
        show i9 + 1 = 0 + eD (ue a) (ue b) (i9 + 1) 0 * 16 ^ 0
        rw [eD_z]
        omega
  have loopA : ∀ (m9 j9 : Nat) (r j : Int32), j9 + m9 = tLen b + 1 → r = nI (pkr (eD (ue a) (ue b) 0) j9) → j = nI j9 → R (28, [some (.int x), some (.int y), some (.int (nI (tB a))), some (.int (nI (tB b))), some (.int (nI (tLen a))), some (.int (nI (tLen b))), some (.int r), some (.int j), none, none, none, none, none, none], [], w, 0, 0) := by
    intro m9
    induction m9 with
    | zero =>
      intro j9 r j hj hr hjj
      iterate 2 refine hR (?_ : R (_, _, _, _, _, _))
      refine hR (pk_lt (tLen b) j9 (fun _ => ?_) (fun z => by omega) rfl hjj)
      iterate 2 refine hR (?_ : R (_, _, _, _, _, _))
      refine loopB (tLen a) 0 _ _ _ _ _ _ _ _ (by omega) ?_ nI1
      rw [hr]
      exact congrArg (fun c => nI (pkr (eD (ue a) (ue b) 0) c)) (by omega)
    | succ m9 ih =>
      intro j9 r j hj hr hjj
      iterate 2 refine hR (?_ : R (_, _, _, _, _, _))
      refine hR (pk_lt (tLen b) j9 (fun z => by omega) (fun _ => ?_) rfl hjj)
      iterate 10 refine hR (?_ : R (_, _, _, _, _, _))
      refine ih (j9 + 1) _ _ (by omega) ?_ (by rw [hjj, nI1, nI_add])
      rw [hr, hjj, dz_shl (by omega) (by omega), dz_sum (pkr_lt _ (hE 0 (by omega)) _ (by omega))]
      refine congrArg nI ?_
      show _ = pkr (eD (ue a) (ue b) 0) j9 + eD (ue a) (ue b) 0 j9 * 16 ^ j9
      rw [eD_0]
  refine hR (?_ : R (_, _, _, _, _, _))
  refine hR (zcall_i 0 0 (Nat.le_of_ble_eq_true rfl) (Nat.le_of_ble_eq_true rfl) (r_bitsOf _ _ a hx ha _ _ ?_))
  iterate 2 refine hR (?_ : R (_, _, _, _, _, _))
  refine hR (zcall_i 0 0 (Nat.le_of_ble_eq_true rfl) (Nat.le_of_ble_eq_true rfl) (r_bitsOf _ _ b hy hb _ _ ?_))
  iterate 2 refine hR (?_ : R (_, _, _, _, _, _))
  refine hR (zcall_i 0 0 (Nat.le_of_ble_eq_true rfl) (Nat.le_of_ble_eq_true rfl) (r_lengthOf _ _ a hx ha _ _ ?_))
  iterate 2 refine hR (?_ : R (_, _, _, _, _, _))
  refine hR (zcall_i 0 0 (Nat.le_of_ble_eq_true rfl) (Nat.le_of_ble_eq_true rfl) (r_lengthOf _ _ b hy hb _ _ ?_))
  iterate 5 refine hR (?_ : R (_, _, _, _, _, _))
  exact loopA (tLen b + 1) 0 _ _ (by omega) nI0 nI0
end
section
theorem m_lesser (d : Nat) (x y : Int32) (p q : Nat) (hx : x = nI p) (hy : y = nI q) (hp : p < 1000) (hq : q < 1000) (w : zW) (Q : zQ) (h : Q (some (.int (nI (min p q)))) w) : zCl zTab (d + 1) iX12_lesser [.int x, .int y] w 0 0 Q := by
  refine zCl_i (M := kX12_lesser) rfl (Nat.le_of_ble_eq_true rfl) fun R hR => ?_
  have h3 : ∀ z, z = nI (min p q) → Q (some (.int z)) w := fun z hz => by rw [hz]; exact h
  iterate 2 refine hR (?_ : R (_, _, _, _, _, _))
  refine hR (pk_le q p (fun c => ?_) (fun c => ?_) hy hx)
  · refine hR (?_ : R (_, _, _, _, _, _))
    exact hR (zret_i rfl (Nat.le_refl _) trivial (h3 _ (by rw [hy, Nat.min_eq_right c])))
  · iterate 2 refine hR (?_ : R (_, _, _, _, _, _))
    exact hR (zret_i rfl (Nat.le_refl _) trivial (h3 _ (by rw [hx, Nat.min_eq_left (by omega)])))
theorem nI7 : (Int8.ofInt 7).toInt32 = nI 7 := by decide
set_option maxHeartbeats 4000000 in
theorem m_apart {c0 c1 c2 c3 c4 c5 c6 c7 c8 c9 c10 c11 c12 c13 : va_E} {x0 x9 x10 x11 x12 x13 x15 x16 x17 x20 x21 x22 x23 x26 x28 x31 x32 x33 x38 x41 x44 : Int32} {x14 : Int64} {g15 g16 g17 g18 g19 g20 g21 g22 g23 g24 g25 g26 g27 g28 g29 g30 g31 g32 g33 g34 g35 g36 g37 g38 g39 g40 g41 g42 g43 g44 : Nat → Int32} {t : zW} (d : Nat) (x y : Int32) (a b : Nat) (hx : x = nI a) (ha : a < 5461) (hy : y = nI b) (hb : b < 5461) (Q : zQ) (h : ∀ w, Q (some (.int (nI (eD (tW a) (tW b) (tLen a) (tLen b))))) w) : zCl zTab (d + 4) iX12_apart [.ref 14, .int x, .int y] (zMg c0 c1 c2 c3 c4 c5 c6 c7 c8 c9 c10 c11 c12 c13 x0 x9 x10 x11 x12 x13 x15 x16 x17 x20 x21 x22 x23 x26 x28 x31 x32 x33 x38 x41 x44 x14 g15 g16 g17 g18 g19 g20 g21 g22 g23 g24 g25 g26 g27 g28 g29 g30 g31 g32 g33 g34 g35 g36 g37 g38 g39 g40 g41 g42 g43 g44 t) 0 0 Q := by
  have hn := tLen_le a
  have hm := tLen_le b
  refine zCl_i (M := kX12_apart) rfl (Nat.le_of_ble_eq_true rfl) fun R hR => ?_
  have main : ∀ (fa fb : Nat → Int32), (∀ i, i < tLen a → fa i = nI (tW a i)) → (∀ i, i < tLen b → fb i = nI (tW b i)) → ∀ (z6 z7 : Option Value), R (30, [some (.ref 14), some (.int x), some (.int y), some (.int (nI (tLen a))), some (.int (nI (tLen b))), some (.int (Int32.ofInt 0)), z6, z7], [], (zMg c0 c1 c2 c3 c4 c5 c6 c7 c8 c9 c10 c11 c12 c13 x0 x9 x10 x11 x12 x13 x15 x16 x17 x20 x21 x22 x23 x26 x28 x31 x32 x33 x38 x41 x44 x14 g15 g16 g17 g18 g19 g20 g21 g22 g23 g24 fa fb g27 g28 g29 g30 g31 g32 g33 g34 g35 g36 g37 g38 g39 g40 g41 g42 g43 g44 t), 0, 0) := by
    intro fa fb hfa hfb
    have inner : ∀ (i9 : Nat) (i : Int32), i = nI i9 → i9 ≤ tLen a → (∀ (T : Nat → Int32) (z6 z7 : Option Value), (∀ i', i' ≤ i9 → ∀ k', k' ≤ tLen b → T (7 * i' + k') = nI (eD (tW a) (tW b) i' k')) → R (185, [some (.ref 14), some (.int x), some (.int y), some (.int (nI (tLen a))), some (.int (nI (tLen b))), some (.int i), z6, z7], [], (zMg c0 c1 c2 c3 c4 c5 c6 c7 c8 c9 c10 c11 c12 c13 x0 x9 x10 x11 x12 x13 x15 x16 x17 x20 x21 x22 x23 x26 x28 x31 x32 x33 x38 x41 x44 x14 g15 g16 g17 g18 g19 g20 g21 g22 g23 g24 fa fb T g28 g29 g30 g31 g32 g33 g34 g35 g36 g37 g38 g39 g40 g41 g42 g43 g44 t), 0, 0)) → ∀ (m9 k9 : Nat) (k : Int32) (T : Nat → Int32) (z7 : Option Value), k9 + m9 = tLen b + 1 → k = nI k9 → (∀ i', i' < i9 → ∀ k', k' ≤ tLen b → T (7 * i' + k') = nI (eD (tW a) (tW b) i' k')) → (∀ k', k' < k9 → T (7 * i9 + k') = nI (eD (tW a) (tW b) i9 k')) → R (39, [some (.ref 14), some (.int x), some (.int y), some (.int (nI (tLen a))), some (.int (nI (tLen b))), some (.int i), some (.int k), z7], [], (zMg c0 c1 c2 c3 c4 c5 c6 c7 c8 c9 c10 c11 c12 c13 x0 x9 x10 x11 x12 x13 x15 x16 x17 x20 x21 x22 x23 x26 x28 x31 x32 x33 x38 x41 x44 x14 g15 g16 g17 g18 g19 g20 g21 g22 g23 g24 fa fb T g28 g29 g30 g31 g32 g33 g34 g35 g36 g37 g38 g39 g40 g41 g42 g43 g44 t), 0, 0) := by
      intro i9 i hi hi9 hexit m9
      induction m9 with
      | zero =>
        intro k9 k T z7 hk9 hk h1 h2
        iterate 2 refine hR (?_ : R (_, _, _, _, _, _))
        refine hR (pk_lt (tLen b) k9 (fun _ => ?_) (fun z => by omega) rfl hk)
        refine hexit T _ _ (fun i' hi' k' hk' => ?_)
        by_cases hq : i' = i9
        · subst hq
          exact h2 k' (by omega)
        · exact h1 i' (by omega) k' hk'
      | succ m9 ih =>
        intro k9 k T z7 hk9 hk h1 h2
        have fin : ∀ (bs : Int32), bs = nI (eD (tW a) (tW b) i9 k9) → R (164, [some (.ref 14), some (.int x), some (.int y), some (.int (nI (tLen a))), some (.int (nI (tLen b))), some (.int i), some (.int k), some (.int bs)], [], (zMg c0 c1 c2 c3 c4 c5 c6 c7 c8 c9 c10 c11 c12 c13 x0 x9 x10 x11 x12 x13 x15 x16 x17 x20 x21 x22 x23 x26 x28 x31 x32 x33 x38 x41 x44 x14 g15 g16 g17 g18 g19 g20 g21 g22 g23 g24 fa fb T g28 g29 g30 g31 g32 g33 g34 g35 g36 g37 g38 g39 g40 g41 g42 g43 g44 t), 0, 0) := by
          intro bs hbs
          have ei : (Int8.ofInt 7).toInt32 * i + k = nI (7 * i9 + k9) := by rw [nI7, hi, hk, pk_mul, nI_add]
          iterate 8 refine hR (?_ : R (_, _, _, _, _, _))
          refine hR (And.intro (by rw [ei]; exact nI_in (by omega) (by omega)) ?_)
          iterate 2 refine hR (?_ : R (_, _, _, _, _, _))
          have ec : ((Int8.ofInt 7).toInt32 * i + k).toNatClampNeg = 7 * i9 + k9 := by rw [ei]; exact nI_clamp (by omega)
          refine ih (k9 + 1) _ _ _ (by omega) (by rw [hk, nI1, nI_add]) (fun i' hi' k' hk' => ?_) (fun k' hk' => ?_)
          · rw [ec, pk_un (by omega)]
            exact h1 i' hi' k' hk'
          · rw [ec]
            by_cases hq : k' = k9
            · subst hq
              rw [pk_us, hbs]
            · rw [pk_un (by omega)]
              exact h2 k' (by omega)
        iterate 2 refine hR (?_ : R (_, _, _, _, _, _))
        refine hR (pk_lt (tLen b) k9 (fun z => by omega) (fun _ => ?_) rfl hk)
        refine hR (?_ : R (_, _, _, _, _, _))
        by_cases hi0 : i9 = 0
        · have hiz : i = 0 := by rw [hi, hi0]; rfl
          refine hR (And.intro (fun hc => absurd hiz hc) (fun _ => ?_))
          iterate 2 refine hR (?_ : R (_, _, _, _, _, _))
          iterate 2 refine hR (?_ : R (_, _, _, _, _, _))
          refine hR (And.intro (fun _ => ?_) (fun hc => absurd (by rw [hiz]; decide) hc))
          exact fin _ (by rw [hk, hi0, eD_0])
        have hin : ¬ i = 0 := by rw [hi]; exact nI_ne0 (by omega) (by omega)
        have hil : ¬ i ≤ 0 := by rw [hi]; exact nI_nle (by omega) (by omega)
        refine hR (And.intro (fun _ => ?_) (fun hc => absurd hc hin))
        refine hR (?_ : R (_, _, _, _, _, _))
        by_cases hk0 : k9 = 0
        · have hkz : k = 0 := by rw [hk, hk0]; rfl
          refine hR (And.intro (fun hc => absurd hkz hc) (fun _ => ?_))
          iterate 2 refine hR (?_ : R (_, _, _, _, _, _))
          iterate 2 refine hR (?_ : R (_, _, _, _, _, _))
          refine hR (And.intro (fun hc => absurd hc hil) (fun _ => ?_))
          refine hR (?_ : R (_, _, _, _, _, _))
          refine hR (And.intro (fun _ => ?_) (fun hc => absurd (by rw [hkz]; decide) hc))
          exact fin _ (by rw [hi, hk0, eD_z])
        have hkn : ¬ k = 0 := by rw [hk]; exact nI_ne0 (by omega) (by omega)
        have hkl : ¬ k ≤ 0 := by rw [hk]; exact nI_nle (by omega) (by omega)
        obtain ⟨i8, ei8⟩ : ∃ i8, i9 = i8 + 1 := ⟨i9 - 1, by omega⟩
        obtain ⟨k8, ek8⟩ : ∃ k8, k9 = k8 + 1 := ⟨k9 - 1, by omega⟩
        have d1 := eD_le (tW a) (tW b) i8 k8
        have d2 := eD_le (tW a) (tW b) i8 (k8 + 1)
        have d3 := eD_le (tW a) (tW b) (i8 + 1) k8
        have d4 := ed1_le (tW a i8) (tW b k8)
        have x1 : (Int8.ofInt 7).toInt32 * (i - Int32.ofInt 1) + k - Int32.ofInt 1 = nI (7 * i8 + k8) := by rw [nI7, hi, hk, ei8, ek8, nI1, pk_sub (by omega), Nat.add_sub_cancel, pk_mul, nI_add, pk_sub (by omega)]; exact congrArg nI (by omega)
        have x2 : i - Int32.ofInt 1 = nI i8 := by rw [hi, ei8, nI1, pk_sub (by omega), Nat.add_sub_cancel]
        have x3 : k - Int32.ofInt 1 = nI k8 := by rw [hk, ek8, nI1, pk_sub (by omega), Nat.add_sub_cancel]
        have x4 : (Int8.ofInt 7).toInt32 * (i - Int32.ofInt 1) + k = nI (7 * i8 + (k8 + 1)) := by rw [x2, nI7, hk, ek8, pk_mul, nI_add]
        have x5 : (Int8.ofInt 7).toInt32 * i + k - Int32.ofInt 1 = nI (7 * (i8 + 1) + k8) := by rw [nI7, hi, hk, ei8, ek8, pk_mul, nI_add, nI1, pk_sub (by omega)]; exact congrArg nI (by omega)
        have v1 : T ((Int8.ofInt 7).toInt32 * (i - Int32.ofInt 1) + k - Int32.ofInt 1).toNatClampNeg = nI (eD (tW a) (tW b) i8 k8) := by rw [x1, nI_clamp (by omega)]; exact h1 i8 (by omega) k8 (by omega)
        have v2 : fa (i - Int32.ofInt 1).toNatClampNeg = nI (tW a i8) := by rw [x2, nI_clamp (by omega)]; exact hfa i8 (by omega)
        have v3 : fb (k - Int32.ofInt 1).toNatClampNeg = nI (tW b k8) := by rw [x3, nI_clamp (by omega)]; exact hfb k8 (by omega)
        have v4 : T ((Int8.ofInt 7).toInt32 * (i - Int32.ofInt 1) + k).toNatClampNeg = nI (eD (tW a) (tW b) i8 (k8 + 1)) := by rw [x4, nI_clamp (by omega)]; exact h1 i8 (by omega) (k8 + 1) (by omega)
        have v5 : T ((Int8.ofInt 7).toInt32 * i + k - Int32.ofInt 1).toNatClampNeg = nI (eD (tW a) (tW b) (i8 + 1) k8) := by
          rw [x5, nI_clamp (by omega), ← ei8]
          exact h2 k8 (by omega)
        have rest : ∀ (bs : Int32), bs = nI (eD (tW a) (tW b) i8 k8 + ed1 (tW a i8) (tW b k8)) → R (112, [some (.ref 14), some (.int x), some (.int y), some (.int (nI (tLen a))), some (.int (nI (tLen b))), some (.int i), some (.int k), some (.int bs)], [], (zMg c0 c1 c2 c3 c4 c5 c6 c7 c8 c9 c10 c11 c12 c13 x0 x9 x10 x11 x12 x13 x15 x16 x17 x20 x21 x22 x23 x26 x28 x31 x32 x33 x38 x41 x44 x14 g15 g16 g17 g18 g19 g20 g21 g22 g23 g24 fa fb T g28 g29 g30 g31 g32 g33 g34 g35 g36 g37 g38 g39 g40 g41 g42 g43 g44 t), 0, 0) := by
          intro bs hbs
          refine hR (?_ : R (_, _, _, _, _, _))
          refine hR (And.intro (fun hc => absurd hc hil) (fun _ => ?_))
          refine hR (?_ : R (_, _, _, _, _, _))
          refine hR (And.intro (fun hc => absurd hc hkl) (fun _ => ?_))
          iterate 11 refine hR (?_ : R (_, _, _, _, _, _))
          refine hR (And.intro (by rw [x4]; exact nI_in (by omega) (by omega)) ?_)
          iterate 9 refine hR (?_ : R (_, _, _, _, _, _))
          refine hR (And.intro (by rw [x5]; exact nI_in (by omega) (by omega)) ?_)
          refine hR (zcall_i 0 0 (Nat.le_of_ble_eq_true rfl) (Nat.le_of_ble_eq_true rfl) (m_lesser _ _ _ (eD (tW a) (tW b) i8 (k8 + 1)) (eD (tW a) (tW b) (i8 + 1) k8) v4 v5 (by omega) (by omega) _ _ ?_))
          refine hR (?_ : R (_, _, _, _, _, _))
          refine hR (zcall_i 0 0 (Nat.le_of_ble_eq_true rfl) (Nat.le_of_ble_eq_true rfl) (m_lesser _ _ _ (eD (tW a) (tW b) i8 k8 + ed1 (tW a i8) (tW b k8)) (1 + min (eD (tW a) (tW b) i8 (k8 + 1)) (eD (tW a) (tW b) (i8 + 1) k8)) hbs (by rw [nI1, nI_add]) (by omega) (by omega) _ _ ?_))
          refine hR (?_ : R (_, _, _, _, _, _))
          exact fin _ (by rw [ei8, ek8, eD_s])
        refine hR (And.intro (fun _ => ?_) (fun hc => absurd hc hkn))
        iterate 11 refine hR (?_ : R (_, _, _, _, _, _))
        refine hR (And.intro (by rw [x1]; exact nI_in (by omega) (by omega)) ?_)
        iterate 5 refine hR (?_ : R (_, _, _, _, _, _))
        refine hR (And.intro (by rw [x2]; exact nI_in (by omega) (by omega)) ?_)
        iterate 5 refine hR (?_ : R (_, _, _, _, _, _))
        refine hR (And.intro (by rw [x3]; exact nI_in (by omega) (by omega)) ?_)
        have l1 : tW a i8 < 4 := Nat.mod_lt _ (by omega)
        have l2 : tW b k8 < 4 := Nat.mod_lt _ (by omega)
        refine hR (pk_eq (tW a i8) (tW b k8) (fun q => ?_) (fun q => ?_) v2 v3).symm
        · iterate 4 refine hR (?_ : R (_, _, _, _, _, _))
          exact rest _ (by rw [v1, nI0, nI_add, show ed1 (tW a i8) (tW b k8) = 0 from if_pos q])
        · iterate 3 refine hR (?_ : R (_, _, _, _, _, _))
          exact rest _ (by rw [v1, nI1, nI_add, show ed1 (tW a i8) (tW b k8) = 1 from if_neg q])
    have outer : ∀ (m9 i9 : Nat) (i : Int32) (T : Nat → Int32) (z6 z7 : Option Value), i9 + m9 = tLen a + 1 → i = nI i9 → (∀ i', i' < i9 → ∀ k', k' ≤ tLen b → T (7 * i' + k') = nI (eD (tW a) (tW b) i' k')) → R (30, [some (.ref 14), some (.int x), some (.int y), some (.int (nI (tLen a))), some (.int (nI (tLen b))), some (.int i), z6, z7], [], (zMg c0 c1 c2 c3 c4 c5 c6 c7 c8 c9 c10 c11 c12 c13 x0 x9 x10 x11 x12 x13 x15 x16 x17 x20 x21 x22 x23 x26 x28 x31 x32 x33 x38 x41 x44 x14 g15 g16 g17 g18 g19 g20 g21 g22 g23 g24 fa fb T g28 g29 g30 g31 g32 g33 g34 g35 g36 g37 g38 g39 g40 g41 g42 g43 g44 t), 0, 0) := by
      intro m9
      induction m9 with
      | zero =>
        intro i9 i T z6 z7 hi9 hi h1
        iterate 2 refine hR (?_ : R (_, _, _, _, _, _))
        refine hR (pk_lt (tLen a) i9 (fun _ => ?_) (fun z => by omega) rfl hi)
        have x1 : (Int8.ofInt 7).toInt32 * nI (tLen a) + nI (tLen b) = nI (7 * tLen a + tLen b) := by rw [nI7, pk_mul, nI_add]
        iterate 7 refine hR (?_ : R (_, _, _, _, _, _))
        refine hR (And.intro (by rw [x1]; exact nI_in (by omega) (by omega)) ?_)
        have h3 : ∀ z w, z = nI (eD (tW a) (tW b) (tLen a) (tLen b)) → Q (some (.int z)) w := fun z w hz => by rw [hz]; exact h w
        refine hR (zret_i rfl (Nat.le_refl _) trivial (h3 _ _ ?_))
        rw [x1, nI_clamp (by omega)]
        exact h1 (tLen a) (by omega) (tLen b) (by omega)
      | succ m9 ih =>
        intro i9 i T z6 z7 hi9 hi h1
        iterate 2 refine hR (?_ : R (_, _, _, _, _, _))
        refine hR (pk_lt (tLen a) i9 (fun z => by omega) (fun _ => ?_) rfl hi)
        iterate 2 refine hR (?_ : R (_, _, _, _, _, _))
        refine inner i9 i hi (by omega) ?_ (tLen b + 1) 0 _ T _ (by omega) nI0 h1 (fun k' hk' => by omega)
        intro T z6 z7 h5
        iterate 2 refine hR (?_ : R (_, _, _, _, _, _))
        exact ih (i9 + 1) _ T _ _ (by omega) (by rw [hi, nI1, nI_add]) (fun i' hi' k' hk' => h5 i' (by omega) k' hk')
    intro z6 z7
    exact outer (tLen a + 1) 0 _ g27 _ _ (by omega) nI0 (fun i' hi' => by omega)
  refine hR (?_ : R (_, _, _, _, _, _))
  refine hR (zcall_i 0 0 (Nat.le_of_ble_eq_true rfl) (Nat.le_of_ble_eq_true rfl) (m_sizeOf _ _ a hx ha _ _ ?_))
  iterate 2 refine hR (?_ : R (_, _, _, _, _, _))
  refine hR (zcall_i 0 0 (Nat.le_of_ble_eq_true rfl) (Nat.le_of_ble_eq_true rfl) (m_sizeOf _ _ b hy hb _ _ ?_))
  iterate 4 refine hR (?_ : R (_, _, _, _, _, _))
  refine hR (zcall_i 0 0 (Nat.le_of_ble_eq_true rfl) (Nat.le_of_ble_eq_true rfl) (m_spell25 _ _ a hx ha _ (fun fa hfa => ?_)))
  iterate 3 refine hR (?_ : R (_, _, _, _, _, _))
  refine hR (zcall_i 0 0 (Nat.le_of_ble_eq_true rfl) (Nat.le_of_ble_eq_true rfl) (m_spell26 _ _ b hy hb _ (fun fb hfb => ?_)))
  iterate 2 refine hR (?_ : R (_, _, _, _, _, _))
  exact main fa fb hfa hfb _ _
def vDrift (x y : Int32) : Int32 := if (x < 0 ∨ 5461 ≤ x) ∨ (y < 0 ∨ 5461 ≤ y) then Int32.ofInt (-1) else nI (eD (tW x.toNatClampNeg) (tW y.toNatClampNeg) (tLen x.toNatClampNeg) (tLen y.toNatClampNeg))
theorem ed_cong {u u' v v' : Nat → Nat} {n m : Nat} (hu : ∀ i, i < n → u i = u' i) (hv : ∀ i, i < m → v i = v' i) : eD u v n m = eD u' v' n m := by
  have key : ∀ (f g : Nat → Nat) (n : Nat), (∀ i, i < n → f i = g i) → rl f n = rl g n := by
    intro f g n
    induction n with
    | zero => intro _; rfl
    | succ n ih => intro hh; show f n :: rl f n = g n :: rl g n; rw [hh n (by omega), ih (fun i hi => hh i (by omega))]
  unfold eD
  rw [key u u' n hu, key v v' m hv]
theorem ue_eD (a b : Nat) : eD (ue a) (ue b) (tLen a) (tLen b) = eD (tW a) (tW b) (tLen a) (tLen b) := by
  rw [← eD_rev (tW a) (tW b) (tLen a) (tLen b)]
  refine ed_cong (fun i hi => ?_) (fun i hi => ?_)
  · have h := tB_w a (tLen a - 1 - i) (by omega)
    rw [show tLen a - 1 - (tLen a - 1 - i) = i by omega] at h
    exact h
  · have h := tB_w b (tLen b - 1 - i) (by omega)
    rw [show tLen b - 1 - (tLen b - 1 - i) = i by omega] at h
    exact h
theorem vDrift_in {x y : Int32} {a b : Nat} (hx : x = nI a) (ha : a < 5461) (hy : y = nI b) (hb : b < 5461) (p0 : ¬ x < 0) (p1 : x < 5461) (q0 : ¬ y < 0) (q1 : y < 5461) : vDrift x y = nI (eD (tW a) (tW b) (tLen a) (tLen b)) := by
  unfold vDrift
  rw [if_neg (fun z => z.elim (fun z => z.elim p0 (fun z => absurd p1 (Int32.not_lt.mpr z))) (fun z => z.elim q0 (fun z => absurd q1 (Int32.not_lt.mpr z)))), hx, hy, nI_clamp (by omega), nI_clamp (by omega)]
theorem r_drift (d : Nat) (x y : Int32) (t : zW) (Q : zQ) (h : Q (some (.int (vDrift x y))) (zCw t)) : zCl zTab (d + 4) iX11_drift [.ref 0, .int x, .int y] (zCw t) 0 0 Q := by
  have h3 : ∀ z, z = vDrift x y → Q (some (.int z)) (zCw t) := fun z hz => by rw [hz]; exact h
  refine zCl_i (M := kX11_drift) rfl (Nat.le_of_ble_eq_true rfl) fun R hR => ?_
  refine hR (?_ : R (_, _, _, _, _, _))
  refine hR (zcall_i 0 0 (Nat.le_of_ble_eq_true rfl) (Nat.le_of_ble_eq_true rfl) (r_isText _ _ _ _ (fun p0 p1 => ?_) (fun q => ?_)))
  · refine hR (And.intro (fun hc => absurd hc (by decide)) (fun _ => ?_))
    refine hR (?_ : R (_, _, _, _, _, _))
    refine hR (zcall_i 0 0 (Nat.le_of_ble_eq_true rfl) (Nat.le_of_ble_eq_true rfl) (r_isText _ _ _ _ (fun q0 q1 => ?_) (fun q => ?_)))
    · obtain ⟨a, ha, hx⟩ := t_of p0 p1
      obtain ⟨b, hb, hy⟩ := t_of q0 q1
      refine hR (And.intro (fun hc => absurd hc (by decide)) (fun _ => ?_))
      iterate 2 refine hR (?_ : R (_, _, _, _, _, _))
      refine hR (zcall_i 0 0 (Nat.le_of_ble_eq_true rfl) (Nat.le_of_ble_eq_true rfl) (r_driftOf _ _ _ a b hx ha hy hb _ _ ?_))
      refine hR (?_ : R (_, _, _, _, _, _))
      exact hR (zret_i rfl (Nat.le_refl _) trivial (h3 _ (by rw [vDrift_in hx ha hy hb p0 p1 q0 q1, ue_eD])))
    · refine hR (And.intro (fun _ => ?_) (fun hc => absurd (by decide) hc))
      refine hR (?_ : R (_, _, _, _, _, _))
      exact hR (zret_i rfl (Nat.le_refl _) trivial (h3 _ (by unfold vDrift; rw [if_pos (Or.inr q)])))
  · refine hR (And.intro (fun _ => ?_) (fun hc => absurd (by decide) hc))
    refine hR (?_ : R (_, _, _, _, _, _))
    exact hR (zret_i rfl (Nat.le_refl _) trivial (h3 _ (by unfold vDrift; rw [if_pos (Or.inl q)])))
theorem m_drift {c0 c1 c2 c3 c4 c5 c6 c7 c8 c9 c10 c11 c12 c13 : va_E} {x0 x9 x10 x11 x12 x13 x15 x16 x17 x20 x21 x22 x23 x26 x28 x31 x32 x33 x38 x41 x44 : Int32} {x14 : Int64} {g15 g16 g17 g18 g19 g20 g21 g22 g23 g24 g25 g26 g27 g28 g29 g30 g31 g32 g33 g34 g35 g36 g37 g38 g39 g40 g41 g42 g43 g44 : Nat → Int32} {t : zW} (d : Nat) (x y : Int32) (Q : zQ) (h : ∀ w, Q (some (.int (vDrift x y))) w) : zCl zTab (d + 5) iX12_drift [.ref 14, .int x, .int y] (zMg c0 c1 c2 c3 c4 c5 c6 c7 c8 c9 c10 c11 c12 c13 x0 x9 x10 x11 x12 x13 x15 x16 x17 x20 x21 x22 x23 x26 x28 x31 x32 x33 x38 x41 x44 x14 g15 g16 g17 g18 g19 g20 g21 g22 g23 g24 g25 g26 g27 g28 g29 g30 g31 g32 g33 g34 g35 g36 g37 g38 g39 g40 g41 g42 g43 g44 t) 0 0 Q := by
  have h3 : ∀ z w, z = vDrift x y → Q (some (.int z)) w := fun z w hz => by rw [hz]; exact h w
  refine zCl_i (M := kX12_drift) rfl (Nat.le_of_ble_eq_true rfl) fun R hR => ?_
  iterate 4 refine hR (?_ : R (_, _, _, _, _, _))
  refine hR (zcall_i 0 0 (Nat.le_of_ble_eq_true rfl) (Nat.le_of_ble_eq_true rfl) (m_isText _ _ _ _ (fun p0 p1 => ?_) (fun q => ?_)))
  · refine hR (And.intro (fun hc => absurd hc (by decide)) (fun _ => ?_))
    refine hR (?_ : R (_, _, _, _, _, _))
    refine hR (zcall_i 0 0 (Nat.le_of_ble_eq_true rfl) (Nat.le_of_ble_eq_true rfl) (m_isText _ _ _ _ (fun q0 q1 => ?_) (fun q => ?_)))
    · obtain ⟨a, ha, hx⟩ := t_of p0 p1
      obtain ⟨b, hb, hy⟩ := t_of q0 q1
      refine hR (And.intro (fun hc => absurd hc (by decide)) (fun _ => ?_))
      iterate 3 refine hR (?_ : R (_, _, _, _, _, _))
      refine hR (zcall_i 0 0 (Nat.le_of_ble_eq_true rfl) (Nat.le_of_ble_eq_true rfl) (m_apart _ _ _ a b hx ha hy hb _ (fun _ => ?_)))
      refine hR (?_ : R (_, _, _, _, _, _))
      exact hR (zret_i rfl (Nat.le_refl _) trivial (h3 _ _ (by rw [vDrift_in hx ha hy hb p0 p1 q0 q1])))
    · refine hR (And.intro (fun _ => ?_) (fun hc => absurd (by decide) hc))
      refine hR (?_ : R (_, _, _, _, _, _))
      exact hR (zret_i rfl (Nat.le_refl _) trivial (h3 _ _ (by unfold vDrift; rw [if_pos (Or.inr q)])))
  · refine hR (And.intro (fun _ => ?_) (fun hc => absurd (by decide) hc))
    refine hR (?_ : R (_, _, _, _, _, _))
    exact hR (zret_i rfl (Nat.le_refl _) trivial (h3 _ _ (by unfold vDrift; rw [if_pos (Or.inl q)])))
end
section
def qL6 : List zE := [(400, .aload_n 1, 401, 0, 0), (401, .aload_n 0, 402, 0, 0), (402, .iload_n 3, 403, 0, 0), (403, .iconst 1, 404, 0, 0), (404, .iadd, 405, 0, 0), (405, .iaload, 406, 0, 0), (406, .aload_n 0, 407, 0, 0), (407, .iload_n 3, 408, 0, 0), (408, .iconst 2, 409, 0, 0), (409, .iadd, 410, 0, 0), (410, .iaload, 411, 0, 0), (411, .invokevirtual 40, 414, 8, 2), (414, .aload_n 2, 415, 0, 0), (415, .aload_n 0, 416, 0, 0), (416, .iload_n 3, 417, 0, 0), (417, .iconst 1, 418, 0, 0), (418, .iadd, 419, 0, 0), (419, .iaload, 420, 0, 0), (420, .aload_n 0, 421, 0, 0), (421, .iload_n 3, 422, 0, 0), (422, .iconst 2, 423, 0, 0), (423, .iadd, 424, 0, 0), (424, .iaload, 425, 0, 0), (425, .invokevirtual 43, 428, 73, 2), (428, .if_icmp .eq 1415, 431, 1843, 0), (431, .iconst 0, 432, 0, 0), (432, .ireturn, 433, 0, 0)]
theorem sL6 : qL6.all (fun e => decide (zat kL_law.2.2.2.2.2 e.1 = some e.2)) = true := by decide +kernel
theorem l_c6 {R : zS → Prop} {xs : Nat → Int32} (hR : ∀ y, zstep (zCl zTab 12) 12 kL_law (some (7, xs)) zTab 600000 7302250 zLQ y R → R y) : R (400, [some (.retAddr 0), some (.ref 0), some (.ref 14), some (.int (Int32.ofInt 0))], [], zCw (zMf []), 45, 272400) := by
  have hR0 := hR
  have hR := @zrsub _ _ _ _ _ _ _ _ _ qL6 sL6 hR
  iterate 5 refine hR (?_ : R (_, _, _, _, _, _))
  refine hR (And.intro l_v1 ?_)
  iterate 4 refine hR (?_ : R (_, _, _, _, _, _))
  refine hR (And.intro l_v2 ?_)
  refine hR (zcall_i 0 0 (Nat.le_of_ble_eq_true rfl) (Nat.le_of_ble_eq_true rfl) (r_drift _ _ _ _ _ ?_))
  iterate 5 refine hR (?_ : R (_, _, _, _, _, _))
  refine hR (And.intro l_v1 ?_)
  iterate 4 refine hR (?_ : R (_, _, _, _, _, _))
  refine hR (And.intro l_v2 ?_)
  refine hR (zcall_i 0 0 (Nat.le_of_ble_eq_true rfl) (Nat.le_of_ble_eq_true rfl) (m_drift _ _ _ _ (fun _ => ?_)))
  refine hR (And.intro (fun _ => ?_) (fun hc => absurd rfl hc))
  exact l_end hR0 _ _ _ (Nat.le_of_ble_eq_true rfl) (Nat.le_of_ble_eq_true rfl)
end
section
/-! SHARED: rows of words by bits, their numbers, the greedy way. -/
def num (l : List Nat) : Nat := l.foldl (fun t w => 4 * t + 1 + w) 0
theorem num_snoc (l : List Nat) (w : Nat) : num (l ++ [w]) = 4 * num l + 1 + w := by unfold num; rw [List.foldl_append]; rfl
theorem tSh_4 : ∀ j, j < 8 → tSh (j + 1) = 4 * tSh j + 1 := by decide +kernel
theorem tLen_of {t n : Nat} (hn : n ≤ 6) (h1 : tSh n ≤ t) (h2 : t < tSh (n + 1)) : tLen t = n ∧ t < 5461 := by
  obtain ⟨e0, e1, e2, e3, e4, e5, e6, e7⟩ := tSh_v
  have hc : n = 0 ∨ n = 1 ∨ n = 2 ∨ n = 3 ∨ n = 4 ∨ n = 5 ∨ n = 6 := by omega
  have ht : t < 5461 := by
    rcases hc with rfl | rfl | rfl | rfl | rfl | rfl | rfl <;> simp only [e0, e1, e2, e3, e4, e5, e6, e7] at h1 h2 <;> omega
  refine ⟨?_, ht⟩
  rcases tLen_v t ht with ⟨h3, h⟩ | ⟨h3, h4, h⟩ | ⟨h3, h4, h⟩ | ⟨h3, h4, h⟩ | ⟨h3, h4, h⟩ | ⟨h3, h4, h⟩ | ⟨h3, h⟩ <;> rw [h] <;> rcases hc with rfl | rfl | rfl | rfl | rfl | rfl | rfl <;> simp only [e0, e1, e2, e3, e4, e5, e6, e7] at h1 h2 <;> omega
theorem numP : ∀ (n : Nat) (l : List Nat), l.length = n → n ≤ 6 → (∀ x ∈ l, x < 4) → (tSh n ≤ num l ∧ num l < tSh (n + 1)) ∧ ∀ k, k < n → (num l - tSh n) / 4 ^ (n - 1 - k) % 4 = l.getD k 0
  | 0, l, hl, _, _ => by
    have : l = [] := List.length_eq_zero_iff.mp hl
    subst this
    exact ⟨by decide, fun k hk => absurd hk (Nat.not_lt_zero _)⟩
  | n + 1, l, hl, hn, hx => by
    rcases List.eq_nil_or_concat l with rfl | ⟨L, w, rfl⟩
    · simp at hl
    · rw [List.concat_eq_append] at hl hx ⊢
      have hL : L.length = n := by rw [List.length_append] at hl; simpa using hl
      have hw : w < 4 := hx w (by simp)
      obtain ⟨⟨p1, p2⟩, p3⟩ := numP n L hL (by omega) (fun x h => hx x (by simp [h]))
      have e1 := tSh_4 n (by omega)
      have e2 := tSh_4 (n + 1) (by omega)
      rw [num_snoc]
      refine ⟨by omega, fun k hk => ?_⟩
      have e3 : 4 * num L + 1 + w - tSh (n + 1) = 4 * (num L - tSh n) + w := by omega
      rw [e3]
      by_cases hkn : k = n
      · subst hkn
        rw [show k + 1 - 1 - k = 0 by omega, Nat.pow_zero, Nat.div_one]
        have e4 : (L ++ [w]).getD k 0 = w := by
          rw [List.getD_eq_getElem?_getD, List.getElem?_append_right (by omega), hL, Nat.sub_self]
          rfl
        rw [e4]
        omega
      · have e4 : (L ++ [w]).getD k 0 = L.getD k 0 := by
          rw [List.getD_eq_getElem?_getD, List.getD_eq_getElem?_getD, List.getElem?_append_left (by omega)]
        rw [e4, ← p3 k (by omega), show n + 1 - 1 - k = (n - 1 - k) + 1 by omega, Nat.pow_succ', ← Nat.div_div_eq_div_mul, show (4 * (num L - tSh n) + w) / 4 = num L - tSh n by omega]
theorem num_t (l : List Nat) (hl : l.length ≤ 6) (hx : ∀ x ∈ l, x < 4) : tLen (num l) = l.length ∧ num l < 5461 ∧ ∀ k, k < l.length → tW (num l) k = l.getD k 0 := by
  obtain ⟨⟨p1, p2⟩, p3⟩ := numP l.length l rfl hl hx
  obtain ⟨q1, q2⟩ := tLen_of hl p1 p2
  refine ⟨q1, q2, fun k hk => ?_⟩
  rw [← p3 k hk]
  unfold tW tF
  rw [q1]
theorem num_inj {l l' : List Nat} (hl : l.length ≤ 6) (hx : ∀ x ∈ l, x < 4) (hl' : l'.length ≤ 6) (hx' : ∀ x ∈ l', x < 4) (h : num l = num l') : l = l' := by
  obtain ⟨a1, -, a3⟩ := num_t l hl hx
  obtain ⟨b1, -, b3⟩ := num_t l' hl' hx'
  have hlen : l.length = l'.length := by rw [← a1, ← b1, h]
  apply List.ext_getElem hlen
  intro k h1 h2
  have e1 := a3 k h1
  have e2 := b3 k h2
  rw [h] at e1
  rw [e1, List.getD_eq_getElem?_getD, List.getD_eq_getElem?_getD, List.getElem?_eq_getElem h1, List.getElem?_eq_getElem h2] at e2
  exact e2
def pick (u : Nat → Nat) (s : Nat) : Nat → List Nat
  | 0 => []
  | k + 1 => if s / 2 ^ k % 2 = 1 then pick u s k ++ [u k] else pick u s k
theorem pick_1 {u : Nat → Nat} {s k : Nat} (h : s / 2 ^ k % 2 = 1) : pick u s (k + 1) = pick u s k ++ [u k] := if_pos h
theorem pick_0 {u : Nat → Nat} {s k : Nat} (h : ¬ s / 2 ^ k % 2 = 1) : pick u s (k + 1) = pick u s k := if_neg h
theorem pick_len (u : Nat → Nat) (s : Nat) : ∀ k, (pick u s k).length ≤ k
  | 0 => Nat.le_refl _
  | k + 1 => by
    have h := pick_len u s k
    by_cases hb : s / 2 ^ k % 2 = 1
    · rw [pick_1 hb, List.length_append, List.length_singleton]; omega
    · rw [pick_0 hb]; omega
theorem pick_lt {u : Nat → Nat} (hu : ∀ i, u i < 4) (s : Nat) : ∀ k, ∀ x ∈ pick u s k, x < 4
  | 0, x, h => absurd h List.not_mem_nil
  | k + 1, x, h => by
    by_cases hb : s / 2 ^ k % 2 = 1
    · rw [pick_1 hb] at h
      rcases List.mem_append.mp h with h | h
      · exact pick_lt hu s k x h
      · rw [List.mem_singleton.mp h]; exact hu k
    · rw [pick_0 hb] at h
      exact pick_lt hu s k x h
theorem pick_cong {u : Nat → Nat} {s s' : Nat} : ∀ k, (∀ j, j < k → s / 2 ^ j % 2 = s' / 2 ^ j % 2) → pick u s k = pick u s' k
  | 0, _ => rfl
  | k + 1, h => by
    have h1 := pick_cong (u := u) k (fun j hj => h j (by omega))
    have h2 := h k (by omega)
    by_cases hb : s / 2 ^ k % 2 = 1
    · rw [pick_1 hb, pick_1 (by rw [← h2]; exact hb), h1]
    · rw [pick_0 hb, pick_0 (by rw [← h2]; exact hb), h1]
theorem pick_pre (u : Nat → Nat) (s : Nat) (j : Nat) : ∀ k, j ≤ k → ∃ l, pick u s k = pick u s j ++ l
  | 0, h => ⟨[], by rw [show j = 0 by omega]; rfl⟩
  | k + 1, h => by
    by_cases hj : j = k + 1
    · exact ⟨[], by rw [hj, List.append_nil]⟩
    · obtain ⟨l, hl⟩ := pick_pre u s j k (by omega)
      by_cases hb : s / 2 ^ k % 2 = 1
      · exact ⟨l ++ [u k], by rw [pick_1 hb, hl, List.append_assoc]⟩
      · exact ⟨l, by rw [pick_0 hb, hl]⟩
/-- how many of l's words the greedy way has found behind k words -/
def fnd (u : Nat → Nat) (l : List Nat) : Nat → Nat
  | 0 => 0
  | k + 1 => if fnd u l k < l.length ∧ u k = l.getD (fnd u l k) 0 then fnd u l k + 1 else fnd u l k
theorem fnd_le (u : Nat → Nat) (l : List Nat) : ∀ k, fnd u l k ≤ l.length
  | 0 => Nat.zero_le _
  | k + 1 => by
    have h := fnd_le u l k
    unfold fnd
    split <;> omega
theorem fnd_pick (u : Nat → Nat) (l : List Nat) : ∀ k, ∃ s, s < 2 ^ k ∧ pick u s k = l.take (fnd u l k)
  | 0 => ⟨0, by decide, by simp [pick, fnd]⟩
  | k + 1 => by
    obtain ⟨s, hs, hp⟩ := fnd_pick u l k
    have h2 : 2 ^ (k + 1) = 2 * 2 ^ k := Nat.pow_succ'
    by_cases hc : fnd u l k < l.length ∧ u k = l.getD (fnd u l k) 0
    · have e : fnd u l (k + 1) = fnd u l k + 1 := if_pos hc
      have hbit : (s + 2 ^ k) / 2 ^ k % 2 = 1 := by
        rw [Nat.add_div_right _ (Nat.two_pow_pos k), Nat.div_eq_of_lt hs]
      refine ⟨s + 2 ^ k, by omega, ?_⟩
      rw [pick_1 hbit, pick_cong (s' := s) k (fun j hj => ?_), hp, e, List.take_add_one, hc.2]
      · have hc1 := hc.1
        have e5 : l.getD (fnd u l k) 0 = l[fnd u l k] := by rw [List.getD_eq_getElem?_getD, List.getElem?_eq_getElem hc1]; rfl
        rw [List.getElem?_eq_getElem hc1]
        exact congrArg (fun z => List.take (fnd u l k) l ++ [z]) e5
      · have e3 : 2 ^ k = 2 ^ j * (2 * 2 ^ (k - j - 1)) := by
          rw [← Nat.pow_succ', ← Nat.pow_add]
          congr 1
          omega
        rw [e3, Nat.add_mul_div_left _ _ (Nat.two_pow_pos j), Nat.add_mul_mod_self_left]
    · have e : fnd u l (k + 1) = fnd u l k := if_neg hc
      have hbit : ¬ s / 2 ^ k % 2 = 1 := by rw [Nat.div_eq_of_lt hs]; decide
      exact ⟨s, by omega, by rw [pick_0 hbit, e]; exact hp⟩
theorem pick_fnd (u : Nat → Nat) (s m : Nat) : ∀ k, k ≤ m → (pick u s k).length ≤ fnd u (pick u s m) k
  | 0, _ => Nat.zero_le _
  | k + 1, hk => by
    have h := pick_fnd u s m k (by omega)
    have hmono : fnd u (pick u s m) k ≤ fnd u (pick u s m) (k + 1) := by
      conv => rhs; unfold fnd
      split
      · exact Nat.le_succ _
      · exact Nat.le_refl _
    by_cases hb : s / 2 ^ k % 2 = 1
    · obtain ⟨r, hr⟩ := pick_pre u s (k + 1) m hk
      rw [pick_1 hb] at hr ⊢
      rw [List.length_append, List.length_singleton]
      by_cases hq : (pick u s k).length < fnd u (pick u s m) k
      · omega
      · have he : fnd u (pick u s m) k = (pick u s k).length := by omega
        have hget : (pick u s m).getD (pick u s k).length 0 = u k := by
          rw [hr, List.getD_eq_getElem?_getD, List.append_assoc, List.getElem?_append_right (Nat.le_refl _), Nat.sub_self]
          rfl
        have hlt : (pick u s k).length < (pick u s m).length := by
          rw [hr]
          simp
        have : fnd u (pick u s m) (k + 1) = fnd u (pick u s m) k + 1 := if_pos ⟨by rw [he]; exact hlt, by rw [he, hget]⟩
        omega
    · rw [pick_0 hb]
      omega
/-- left of the other: some of its words make it -/
def isL (u : Nat → Nat) (m t : Nat) : Prop := ∃ s, s < 2 ^ m ∧ num (pick u s m) = t
theorem isL_fnd {u : Nat → Nat} (hu : ∀ i, u i < 4) {m : Nat} (hm : m ≤ 6) {l : List Nat} (hl : l.length ≤ 6) (hx : ∀ x ∈ l, x < 4) : isL u m (num l) ↔ fnd u l m = l.length := by
  constructor
  · rintro ⟨s, hs, hn⟩
    have e := num_inj (Nat.le_trans (pick_len u s m) hm) (pick_lt hu s m) hl hx hn
    have h1 := pick_fnd u s m m (Nat.le_refl _)
    rw [e] at h1
    have h2 := fnd_le u l m
    omega
  · intro h
    obtain ⟨s, hs, hp⟩ := fnd_pick u l m
    exact ⟨s, hs, by rw [hp, h, List.take_length]⟩
theorem tW_lt (t : Nat) : ∀ i, tW t i < 4 := fun i => Nat.mod_lt _ (by omega)
def btr (t b : Nat) : Prop := tLen b < tLen t ∨ (tLen t = tLen b ∧ t < b)
noncomputable def bst (u v : Nat → Nat) (n m : Nat) : Nat → Nat
  | 0 => 0
  | s + 1 => @ite Nat (btr (num (pick u s n)) (bst u v n m s) ∧ isL v m (num (pick u s n))) (Classical.propDecidable _) (num (pick u s n)) (bst u v n m s)
theorem bst_lt {u v : Nat → Nat} (hu : ∀ i, u i < 4) {n m : Nat} (hn : n ≤ 6) : ∀ s, bst u v n m s < 5461
  | 0 => by show 0 < 5461; omega
  | s + 1 => by
    have h := bst_lt (v := v) (m := m) hu hn s
    have h2 := (num_t (pick u s n) (Nat.le_trans (pick_len u s n) hn) (pick_lt hu s n)).2.1
    unfold bst
    split
    · exact h2
    · exact h
theorem bst_y {u v : Nat → Nat} {n m s : Nat} (h1 : btr (num (pick u s n)) (bst u v n m s)) (h2 : isL v m (num (pick u s n))) : bst u v n m (s + 1) = num (pick u s n) := if_pos ⟨h1, h2⟩
theorem bst_n {u v : Nat → Nat} {n m s : Nat} (h : ¬ (btr (num (pick u s n)) (bst u v n m s) ∧ isL v m (num (pick u s n)))) : bst u v n m (s + 1) = bst u v n m s := if_neg h
end
section
theorem s_sm : ∀ n, n < 32 → ((nI n &&& 31).toBitVec.smod 32).toNat = n := by decide +kernel
theorem s_2p : ∀ n, n < 7 → Int32.ofInt 1 <<< (nI n &&& 31) = nI (2 ^ n) ∧ 2 ^ n ≤ 64 := by decide +kernel
theorem r_longer (d : Nat) (x y : Int32) (t v : Nat) (hx : x = nI t) (hy : y = nI v) (w : zW) (Q : zQ) (h : Q (some (.int (nI (4 * t + 1 + v)))) w) : zCl zTab (d + 1) iX11_longer [.int x, .int y] w 0 0 Q := by
  have h3 : ∀ z, z = nI (4 * t + 1 + v) → Q (some (.int z)) w := fun z hz => by rw [hz]; exact h
  refine zCl_i (M := kX11_longer) rfl (Nat.le_of_ble_eq_true rfl) fun R hR => ?_
  iterate 7 refine hR (?_ : R (_, _, _, _, _, _))
  exact hR (zret_i rfl (Nat.le_refl _) trivial (h3 _ (by rw [nI4, nI1, hx, hy, pk_mul, nI_add, nI_add])))
theorem s_bit {s k : Nat} (hs : s < 2 ^ 31) (hk : k < 32) : (nI s >>> (nI k &&& 31)) &&& Int32.ofInt 1 = nI (s / 2 ^ k % 2) := by
  rw [pk_shrN hs _ k (s_sm k hk), pk_andN (Nat.lt_of_le_of_lt (Nat.div_le_self _ _) (by omega)) 1 (by decide)]
theorem r_isIn (d : Nat) (x y : Int32) (s k : Nat) (hx : x = nI s) (hs : s < 2 ^ 31) (hy : y = nI k) (hk : k < 32) (w : zW) (Q : zQ) (h1 : s / 2 ^ k % 2 = 1 → Q (some (.int (Int32.ofInt 1))) w) (h0 : ¬ s / 2 ^ k % 2 = 1 → Q (some (.int (Int32.ofInt 0))) w) : zCl zTab (d + 1) iX11_isIn [.int x, .int y] w 0 0 Q := by
  refine zCl_i (M := kX11_isIn) rfl (Nat.le_of_ble_eq_true rfl) fun R hR => ?_
  have e : (x >>> (y &&& 31)) &&& Int32.ofInt 1 = nI (s / 2 ^ k % 2) := by rw [hx, hy, s_bit hs hk]
  have hl : s / 2 ^ k % 2 < 2 := Nat.mod_lt _ (by omega)
  iterate 5 refine hR (?_ : R (_, _, _, _, _, _))
  refine hR (pk_eq (s / 2 ^ k % 2) 0 (fun q => ?_) (fun q => ?_) e rfl)
  · refine hR (?_ : R (_, _, _, _, _, _))
    exact hR (zret_i rfl (Nat.le_refl _) (Or.inl rfl) (h0 (by omega)))
  · iterate 2 refine hR (?_ : R (_, _, _, _, _, _))
    exact hR (zret_i rfl (Nat.le_refl _) (Or.inr rfl) (h1 (by omega)))
theorem fnd_full (u : Nat → Nat) (l : List Nat) (k : Nat) (h : fnd u l k = l.length) : ∀ m, k ≤ m → fnd u l m = l.length
  | 0, hm => by rw [show k = 0 by omega] at h; exact h
  | m + 1, hm => by
    by_cases hk : k = m + 1
    · rw [← hk]; exact h
    · have h2 := fnd_full u l k h m (by omega)
      have e : fnd u l (m + 1) = fnd u l m := if_neg (fun q => by omega)
      omega
set_option maxHeartbeats 2000000 in
theorem r_isLeftOf (d : Nat) (x y : Int32) (l : List Nat) (b : Nat) (hx : x = nI (num l)) (hl : l.length ≤ 6) (hd : ∀ z ∈ l, z < 4) (hy : y = nI b) (hb : b < 5461) (w : zW) (Q : zQ) (h1 : isL (tW b) (tLen b) (num l) → Q (some (.int (Int32.ofInt 1))) w) (h0 : ¬ isL (tW b) (tLen b) (num l) → Q (some (.int (Int32.ofInt 0))) w) : zCl zTab (d + 4) iX11_isLeftOf [.int x, .int y] w 0 0 Q := by
  obtain ⟨n1, n2, n3⟩ := num_t l hl hd
  have hm := tLen_le b
  have hiff := isL_fnd (tW_lt b) hm hl hd
  refine zCl_i (M := kX11_isLeftOf) rfl (Nat.le_of_ble_eq_true rfl) fun R hR => ?_
  have fin : ∀ (f k : Int32) (f9 : Nat), f = nI f9 → f9 ≤ l.length → (f9 = l.length ↔ fnd (tW b) l (tLen b) = l.length) → R (52, [some (.int x), some (.int y), some (.int (nI (tLen (num l)))), some (.int (nI (tLen b))), some (.int f), some (.int k)], [], w, 0, 0) := by
    intro f k f9 hf hf9 he
    iterate 2 refine hR (?_ : R (_, _, _, _, _, _))
    refine hR (pk_eq f9 (tLen (num l)) (fun q => ?_) (fun q => ?_) hf rfl).symm
    · iterate 2 refine hR (?_ : R (_, _, _, _, _, _))
      exact hR (zret_i rfl (Nat.le_refl _) (Or.inr rfl) (h1 (hiff.mpr (he.mp (by omega)))))
    · refine hR (?_ : R (_, _, _, _, _, _))
      exact hR (zret_i rfl (Nat.le_refl _) (Or.inl rfl) (h0 (fun z => q (by have := he.mpr (hiff.mp z); omega))))
  have loop : ∀ (m9 k9 : Nat) (f k : Int32), k9 + m9 = tLen b → f = nI (fnd (tW b) l k9) → k = nI k9 → R (16, [some (.int x), some (.int y), some (.int (nI (tLen (num l)))), some (.int (nI (tLen b))), some (.int f), some (.int k)], [], w, 0, 0) := by
    intro m9
    induction m9 with
    | zero =>
      intro k9 f k hk9 hf hk
      iterate 2 refine hR (?_ : R (_, _, _, _, _, _))
      refine hR (pk_le (tLen b) k9 (fun _ => ?_) (fun z => by omega) rfl hk)
      exact fin f k _ hf (fnd_le _ _ _) (by rw [show k9 = tLen b by omega])
    | succ m9 ih =>
      intro k9 f k hk9 hf hk
      have hfl := fnd_le (tW b) l k9
      iterate 2 refine hR (?_ : R (_, _, _, _, _, _))
      refine hR (pk_le (tLen b) k9 (fun z => by omega) (fun _ => ?_) rfl hk)
      iterate 2 refine hR (?_ : R (_, _, _, _, _, _))
      refine hR (pk_le (tLen (num l)) (fnd (tW b) l k9) (fun q => ?_) (fun q => ?_) rfl hf)
      · have he : fnd (tW b) l k9 = l.length := by omega
        exact fin f k _ hf hfl ⟨fun _ => fnd_full _ _ _ he _ (by omega), fun _ => he⟩
      · iterate 2 refine hR (?_ : R (_, _, _, _, _, _))
        refine hR (zcall_i 0 0 (Nat.le_of_ble_eq_true rfl) (Nat.le_of_ble_eq_true rfl) (r_wordAt _ _ _ b k9 hy hb hk (by omega) _ _ ?_))
        iterate 2 refine hR (?_ : R (_, _, _, _, _, _))
        refine hR (zcall_i 0 0 (Nat.le_of_ble_eq_true rfl) (Nat.le_of_ble_eq_true rfl) (r_wordAt _ _ _ (num l) (fnd (tW b) l k9) hx n2 hf (by omega) _ _ ?_))
        have g1 := tW_lt b k9
        have g2 := tW_lt (num l) (fnd (tW b) l k9)
        have g3 := n3 (fnd (tW b) l k9) (by omega)
        refine hR (pk_eq (tW b k9) (tW (num l) (fnd (tW b) l k9)) (fun q2 => ?_) (fun q2 => ?_) rfl rfl).symm
        · iterate 3 refine hR (?_ : R (_, _, _, _, _, _))
          have e : fnd (tW b) l (k9 + 1) = fnd (tW b) l k9 + 1 := if_pos ⟨by omega, by rw [q2, g3]⟩
          exact ih (k9 + 1) _ _ (by omega) (by rw [hf, nI1, nI_add, e]) (by rw [hk, nI1, nI_add])
        · iterate 2 refine hR (?_ : R (_, _, _, _, _, _))
          have e : fnd (tW b) l (k9 + 1) = fnd (tW b) l k9 := if_neg (fun z => q2 (by rw [z.2, g3]))
          exact ih (k9 + 1) _ _ (by omega) (by rw [hf, e]) (by rw [hk, nI1, nI_add])
  refine hR (?_ : R (_, _, _, _, _, _))
  refine hR (zcall_i 0 0 (Nat.le_of_ble_eq_true rfl) (Nat.le_of_ble_eq_true rfl) (r_lengthOf _ _ (num l) hx n2 _ _ ?_))
  iterate 2 refine hR (?_ : R (_, _, _, _, _, _))
  refine hR (zcall_i 0 0 (Nat.le_of_ble_eq_true rfl) (Nat.le_of_ble_eq_true rfl) (r_lengthOf _ _ b hy hb _ _ ?_))
  iterate 5 refine hR (?_ : R (_, _, _, _, _, _))
  exact loop (tLen b) 0 _ _ (by omega) nI0 nI0
set_option maxHeartbeats 4000000 in
theorem r_mostShared (d : Nat) (x y : Int32) (a b : Nat) (hx : x = nI a) (ha : a < 5461) (hy : y = nI b) (hb : b < 5461) (w : zW) (Q : zQ) (h : Q (some (.int (nI (bst (tW a) (tW b) (tLen a) (tLen b) (2 ^ tLen a))))) w) : zCl zTab (d + 5) iX11_mostShared [.int x, .int y] w 0 0 Q := by
  have hn := tLen_le a
  have h2p := s_2p (tLen a) (by omega)
  refine zCl_i (M := kX11_mostShared) rfl (Nat.le_of_ble_eq_true rfl) fun R hR => ?_
  have loop : ∀ (m9 s9 : Nat) (be ke : Int32) (z5 z6 : Option Value), s9 + m9 = 2 ^ tLen a → be = nI (bst (tW a) (tW b) (tLen a) (tLen b) s9) → ke = nI s9 → R (10, [some (.int x), some (.int y), some (.int (nI (tLen a))), some (.int be), some (.int ke), z5, z6], [], w, 0, 0) := by
    intro m9
    induction m9 with
    | zero =>
      intro s9 be ke z5 z6 hs hbe hke
      iterate 4 refine hR (?_ : R (_, _, _, _, _, _))
      refine hR (pk_le (2 ^ tLen a) s9 (fun _ => ?_) (fun z => by omega) h2p.1 hke)
      refine hR (?_ : R (_, _, _, _, _, _))
      have h3 : ∀ z, z = nI (bst (tW a) (tW b) (tLen a) (tLen b) (2 ^ tLen a)) → Q (some (.int z)) w := fun z hz => by rw [hz]; exact h
      exact hR (zret_i rfl (Nat.le_refl _) trivial (h3 _ (by rw [hbe, show s9 = 2 ^ tLen a by omega])))
    | succ m9 ih =>
      intro s9 be ke z5 z6 hs hbe hke
      have hpl := pick_len (tW a) s9 (tLen a)
      have hpx := pick_lt (tW_lt a) s9 (tLen a)
      obtain ⟨n1, n2, n3⟩ := num_t (pick (tW a) s9 (tLen a)) (by omega) hpx
      have hbl := bst_lt (v := tW b) (m := tLen b) (tW_lt a) hn s9
      have hb6 := tLen_le (bst (tW a) (tW b) (tLen a) (tLen b) s9)
      have ht6 := tLen_le (num (pick (tW a) s9 (tLen a)))
      have cont : ∀ (bs lf k : Int32), bs = nI (bst (tW a) (tW b) (tLen a) (tLen b) (s9 + 1)) → R (99, [some (.int x), some (.int y), some (.int (nI (tLen a))), some (.int bs), some (.int ke), some (.int lf), some (.int k)], [], w, 0, 0) := by
        intro bs lf k hbs
        iterate 2 refine hR (?_ : R (_, _, _, _, _, _))
        exact ih (s9 + 1) _ _ _ _ (by omega) hbs (by rw [hke, nI1, nI_add])
      have test : ∀ (lf k : Int32), lf = nI (num (pick (tW a) s9 (tLen a))) → btr (num (pick (tW a) s9 (tLen a))) (bst (tW a) (tW b) (tLen a) (tLen b) s9) → R (87, [some (.int x), some (.int y), some (.int (nI (tLen a))), some (.int be), some (.int ke), some (.int lf), some (.int k)], [], w, 0, 0) := by
        intro lf k hlf hbt
        iterate 2 refine hR (?_ : R (_, _, _, _, _, _))
        refine hR (zcall_i 0 0 (Nat.le_of_ble_eq_true rfl) (Nat.le_of_ble_eq_true rfl) (r_isLeftOf _ _ _ (pick (tW a) s9 (tLen a)) b hlf (by omega) hpx hy hb _ _ (fun q => ?_) (fun q => ?_)))
        · refine hR (And.intro (fun hc => absurd hc (by decide)) (fun _ => ?_))
          iterate 2 refine hR (?_ : R (_, _, _, _, _, _))
          exact cont _ _ _ (by rw [hlf, bst_y hbt q])
        · refine hR (And.intro (fun _ => ?_) (fun hc => absurd (by decide) hc))
          exact cont _ _ _ (by rw [hbe, bst_n (fun z => q z.2)])
      have after : ∀ (lf k : Int32), lf = nI (num (pick (tW a) s9 (tLen a))) → R (59, [some (.int x), some (.int y), some (.int (nI (tLen a))), some (.int be), some (.int ke), some (.int lf), some (.int k)], [], w, 0, 0) := by
        intro lf k hlf
        refine hR (?_ : R (_, _, _, _, _, _))
        refine hR (zcall_i 0 0 (Nat.le_of_ble_eq_true rfl) (Nat.le_of_ble_eq_true rfl) (r_lengthOf _ _ (num (pick (tW a) s9 (tLen a))) hlf n2 _ _ ?_))
        refine hR (?_ : R (_, _, _, _, _, _))
        refine hR (zcall_i 0 0 (Nat.le_of_ble_eq_true rfl) (Nat.le_of_ble_eq_true rfl) (r_lengthOf _ _ (bst (tW a) (tW b) (tLen a) (tLen b) s9) hbe hbl _ _ ?_))
        have ed9 : (nI (tLen (num (pick (tW a) s9 (tLen a)))) - nI (tLen (bst (tW a) (tW b) (tLen a) (tLen b) s9))).toInt = (tLen (num (pick (tW a) s9 (tLen a))) : Int) - (tLen (bst (tW a) (tW b) (tLen a) (tLen b) s9) : Int) := pk_sub_toInt (by omega) (by omega)
        have e0 : (0 : Int32).toInt = 0 := rfl
        iterate 3 refine hR (?_ : R (_, _, _, _, _, _))
        refine hR (And.intro (fun hc => ?_) (fun hc => ?_))
        · have z := zlt_i.mp hc
          rw [ed9, e0] at z
          exact test lf _ hlf (Or.inl (by omega))
        refine hR (?_ : R (_, _, _, _, _, _))
        refine hR (And.intro (fun hc2 => ?_) (fun hc2 => ?_))
        · have z1 : ¬ (0 : Int32).toInt < _ := fun q => hc (zlt_i.mpr q)
          rw [ed9, e0] at z1
          have z2 : ¬ _ = (0 : Int32).toInt := fun q => hc2 (zeq_i.mpr q)
          rw [ed9, e0] at z2
          exact cont be _ _ (by rw [hbe, bst_n (fun z => by rcases z.1 with q | q <;> omega)])
        · have z2 := zeq_i.mp hc2
          rw [ed9, e0] at z2
          iterate 2 refine hR (?_ : R (_, _, _, _, _, _))
          refine hR (pk_le (bst (tW a) (tW b) (tLen a) (tLen b) s9) (num (pick (tW a) s9 (tLen a))) (fun q => ?_) (fun q => ?_) hbe hlf)
          · exact cont be _ _ (by rw [hbe, bst_n (fun z => by rcases z.1 with q | q <;> omega)])
          · exact test lf _ hlf (Or.inr ⟨by omega, q⟩)
      have inner : ∀ (r9 k9 : Nat) (lf k : Int32), k9 + r9 = tLen a → lf = nI (num (pick (tW a) s9 k9)) → k = nI k9 → R (24, [some (.int x), some (.int y), some (.int (nI (tLen a))), some (.int be), some (.int ke), some (.int lf), some (.int k)], [], w, 0, 0) := by
        intro r9
        induction r9 with
        | zero =>
          intro k9 lf k hk9 hlf hk
          iterate 2 refine hR (?_ : R (_, _, _, _, _, _))
          refine hR (pk_le (tLen a) k9 (fun _ => ?_) (fun z => by omega) rfl hk)
          exact after lf k (by rw [hlf, show k9 = tLen a by omega])
        | succ r9 ih2 =>
          intro k9 lf k hk9 hlf hk
          iterate 2 refine hR (?_ : R (_, _, _, _, _, _))
          refine hR (pk_le (tLen a) k9 (fun z => by omega) (fun _ => ?_) rfl hk)
          iterate 2 refine hR (?_ : R (_, _, _, _, _, _))
          refine hR (zcall_i 0 0 (Nat.le_of_ble_eq_true rfl) (Nat.le_of_ble_eq_true rfl) (r_isIn _ _ _ s9 k9 hke (by omega) hk (by omega) _ _ (fun q => ?_) (fun q => ?_)))
          · refine hR (And.intro (fun hc => absurd hc (by decide)) (fun _ => ?_))
            iterate 3 refine hR (?_ : R (_, _, _, _, _, _))
            refine hR (zcall_i 0 0 (Nat.le_of_ble_eq_true rfl) (Nat.le_of_ble_eq_true rfl) (r_wordAt _ _ _ a k9 hx ha hk (by omega) _ _ ?_))
            refine hR (zcall_i 0 0 (Nat.le_of_ble_eq_true rfl) (Nat.le_of_ble_eq_true rfl) (r_longer _ _ _ (num (pick (tW a) s9 k9)) (tW a k9) hlf rfl _ _ ?_))
            iterate 3 refine hR (?_ : R (_, _, _, _, _, _))
            exact ih2 (k9 + 1) _ _ (by omega) (by rw [pick_1 q, num_snoc]) (by rw [hk, nI1, nI_add])
          · refine hR (And.intro (fun _ => ?_) (fun hc => absurd (by decide) hc))
            iterate 2 refine hR (?_ : R (_, _, _, _, _, _))
            exact ih2 (k9 + 1) _ _ (by omega) (by rw [hlf, pick_0 q]) (by rw [hk, nI1, nI_add])
      iterate 4 refine hR (?_ : R (_, _, _, _, _, _))
      refine hR (pk_le (2 ^ tLen a) s9 (fun z => by omega) (fun _ => ?_) h2p.1 hke)
      iterate 4 refine hR (?_ : R (_, _, _, _, _, _))
      exact inner (tLen a) 0 _ _ (by omega) nI0 nI0
  refine hR (?_ : R (_, _, _, _, _, _))
  refine hR (zcall_i 0 0 (Nat.le_of_ble_eq_true rfl) (Nat.le_of_ble_eq_true rfl) (r_lengthOf _ _ a hx ha _ _ ?_))
  iterate 5 refine hR (?_ : R (_, _, _, _, _, _))
  exact loop (2 ^ tLen a) 0 _ _ _ _ (by omega) nI0 nI0
noncomputable def vShared (x y p : Int32) : Int32 := if (x < 0 ∨ 5461 ≤ x) ∨ (y < 0 ∨ 5461 ≤ y) then Int32.ofInt (-1) else if p = 0 then nI (tLen (bst (tW x.toNatClampNeg) (tW y.toNatClampNeg) (tLen x.toNatClampNeg) (tLen y.toNatClampNeg) (2 ^ tLen x.toNatClampNeg))) else nI (bst (tW x.toNatClampNeg) (tW y.toNatClampNeg) (tLen x.toNatClampNeg) (tLen y.toNatClampNeg) (2 ^ tLen x.toNatClampNeg))
theorem vShared_in {x y p : Int32} {a b : Nat} (hx : x = nI a) (ha : a < 5461) (hy : y = nI b) (hb : b < 5461) (p0 : ¬ x < 0) (p1 : x < 5461) (q0 : ¬ y < 0) (q1 : y < 5461) : vShared x y p = if p = 0 then nI (tLen (bst (tW a) (tW b) (tLen a) (tLen b) (2 ^ tLen a))) else nI (bst (tW a) (tW b) (tLen a) (tLen b) (2 ^ tLen a)) := by
  unfold vShared
  rw [if_neg (fun z => z.elim (fun z => z.elim p0 (fun z => absurd p1 (Int32.not_lt.mpr z))) (fun z => z.elim q0 (fun z => absurd q1 (Int32.not_lt.mpr z)))), hx, hy, nI_clamp (by omega), nI_clamp (by omega)]
theorem r_shared (d : Nat) (x y p : Int32) (t : zW) (Q : zQ) (h : Q (some (.int (vShared x y p))) (zCw t)) : zCl zTab (d + 6) iX11_shared [.ref 0, .int x, .int y, .int p] (zCw t) 0 0 Q := by
  have h3 : ∀ z, z = vShared x y p → Q (some (.int z)) (zCw t) := fun z hz => by rw [hz]; exact h
  refine zCl_i (M := kX11_shared) rfl (Nat.le_of_ble_eq_true rfl) fun R hR => ?_
  refine hR (?_ : R (_, _, _, _, _, _))
  refine hR (zcall_i 0 0 (Nat.le_of_ble_eq_true rfl) (Nat.le_of_ble_eq_true rfl) (r_isText _ _ _ _ (fun p0 p1 => ?_) (fun q => ?_)))
  · refine hR (And.intro (fun hc => absurd hc (by decide)) (fun _ => ?_))
    refine hR (?_ : R (_, _, _, _, _, _))
    refine hR (zcall_i 0 0 (Nat.le_of_ble_eq_true rfl) (Nat.le_of_ble_eq_true rfl) (r_isText _ _ _ _ (fun q0 q1 => ?_) (fun q => ?_)))
    · obtain ⟨a, ha, hx⟩ := t_of p0 p1
      obtain ⟨b, hb, hy⟩ := t_of q0 q1
      have hbl := bst_lt (v := tW b) (m := tLen b) (tW_lt a) (tLen_le a) (2 ^ tLen a)
      refine hR (And.intro (fun _ => ?_) (fun hc => absurd hc (by decide)))
      iterate 2 refine hR (?_ : R (_, _, _, _, _, _))
      refine hR (zcall_i 0 0 (Nat.le_of_ble_eq_true rfl) (Nat.le_of_ble_eq_true rfl) (r_mostShared _ _ _ a b hx ha hy hb _ _ ?_))
      iterate 2 refine hR (?_ : R (_, _, _, _, _, _))
      refine hR (And.intro (fun hp => ?_) (fun hp => ?_))
      · refine hR (?_ : R (_, _, _, _, _, _))
        refine hR (zcall_i 0 0 (Nat.le_of_ble_eq_true rfl) (Nat.le_of_ble_eq_true rfl) (r_lengthOf _ _ (bst (tW a) (tW b) (tLen a) (tLen b) (2 ^ tLen a)) rfl hbl _ _ ?_))
        exact hR (zret_i rfl (Nat.le_refl _) trivial (h3 _ (by rw [vShared_in hx ha hy hb p0 p1 q0 q1, if_pos hp])))
      · iterate 2 refine hR (?_ : R (_, _, _, _, _, _))
        exact hR (zret_i rfl (Nat.le_refl _) trivial (h3 _ (by rw [vShared_in hx ha hy hb p0 p1 q0 q1, if_neg hp])))
    · refine hR (And.intro (fun hc => absurd (by decide) hc) (fun _ => ?_))
      refine hR (?_ : R (_, _, _, _, _, _))
      exact hR (zret_i rfl (Nat.le_refl _) trivial (h3 _ (by unfold vShared; rw [if_pos (Or.inr q)])))
  · refine hR (And.intro (fun _ => ?_) (fun hc => absurd (by decide) hc))
    refine hR (?_ : R (_, _, _, _, _, _))
    exact hR (zret_i rfl (Nat.le_refl _) trivial (h3 _ (by unfold vShared; rw [if_pos (Or.inl q)])))
end
section
theorem m_has (d : Nat) (x y : Int32) (s k : Nat) (hx : x = nI s) (hs : s < 2 ^ 31) (hy : y = nI k) (hk : k < 32) (w : zW) (Q : zQ) (h1 : s / 2 ^ k % 2 = 1 → Q (some (.int (Int32.ofInt 1))) w) (h0 : ¬ s / 2 ^ k % 2 = 1 → Q (some (.int (Int32.ofInt 0))) w) : zCl zTab (d + 1) iX12_has [.int x, .int y] w 0 0 Q := by
  refine zCl_i (M := kX12_has) rfl (Nat.le_of_ble_eq_true rfl) fun R hR => ?_
  have e : (x >>> (y &&& 31)) &&& Int32.ofInt 1 = nI (s / 2 ^ k % 2) := by rw [hx, hy, s_bit hs hk]
  have hl : s / 2 ^ k % 2 < 2 := Nat.mod_lt _ (by omega)
  iterate 6 refine hR (?_ : R (_, _, _, _, _, _))
  refine hR (pk_eq (s / 2 ^ k % 2) 1 (fun q => ?_) (fun q => ?_) e nI1).symm
  · iterate 2 refine hR (?_ : R (_, _, _, _, _, _))
    exact hR (zret_i rfl (Nat.le_refl _) (Or.inr rfl) (h1 q))
  · refine hR (?_ : R (_, _, _, _, _, _))
    exact hR (zret_i rfl (Nat.le_refl _) (Or.inl rfl) (h0 q))
theorem take_s {l : List Nat} {k : Nat} (h : k < l.length) : l.take (k + 1) = l.take k ++ [l.getD k 0] := by
  rw [List.take_add_one, List.getD_eq_getElem?_getD, List.getElem?_eq_getElem h]
  rfl
set_option maxHeartbeats 2000000 in
theorem m_numberOf {c0 c1 c2 c3 c4 c5 c6 c7 c8 c9 c10 c11 c12 c13 : va_E} {x0 x9 x10 x11 x12 x13 x15 x16 x17 x20 x21 x22 x23 x26 x28 x31 x32 x33 x38 x41 x44 : Int32} {x14 : Int64} {g15 g16 g17 g18 g19 g20 g21 g22 g23 g24 g25 g26 g27 g28 g29 g30 g31 g32 g33 g34 g35 g36 g37 g38 g39 g40 g41 g42 g43 g44 : Nat → Int32} {t : zW} (d : Nat) (y : Int32) (l : List Nat) (hy : y = nI l.length) (hl : l.length ≤ 6) (hd : ∀ z ∈ l, z < 4) (hf : ∀ i, i < l.length → g25 i = nI (l.getD i 0)) (Q : zQ) (h : Q (some (.int (nI (num l)))) (zMg c0 c1 c2 c3 c4 c5 c6 c7 c8 c9 c10 c11 c12 c13 x0 x9 x10 x11 x12 x13 x15 x16 x17 x20 x21 x22 x23 x26 x28 x31 x32 x33 x38 x41 x44 x14 g15 g16 g17 g18 g19 g20 g21 g22 g23 g24 g25 g26 g27 g28 g29 g30 g31 g32 g33 g34 g35 g36 g37 g38 g39 g40 g41 g42 g43 g44 t)) : zCl zTab (d + 2) iX12_numberOf [.ref 14, .int y] (zMg c0 c1 c2 c3 c4 c5 c6 c7 c8 c9 c10 c11 c12 c13 x0 x9 x10 x11 x12 x13 x15 x16 x17 x20 x21 x22 x23 x26 x28 x31 x32 x33 x38 x41 x44 x14 g15 g16 g17 g18 g19 g20 g21 g22 g23 g24 g25 g26 g27 g28 g29 g30 g31 g32 g33 g34 g35 g36 g37 g38 g39 g40 g41 g42 g43 g44 t) 0 0 Q := by
  have hP : ∀ k, k ≤ l.length → tSh k ≤ num (l.take k) ∧ num (l.take k) < tSh (k + 1) := fun k hk => (numP k (l.take k) (by rw [List.length_take]; omega) (by omega) (fun z hz => hd z (List.mem_of_mem_take hz))).1
  refine zCl_i (M := kX12_numberOf) rfl (Nat.le_of_ble_eq_true rfl) fun R hR => ?_
  have loop : ∀ (m9 k9 : Nat) (f k : Int32), k9 + m9 = l.length → f = nI (num (l.take k9) - tSh k9) → k = nI k9 → R (4, [some (.ref 14), some (.int y), some (.int f), some (.int k)], [], (zMg c0 c1 c2 c3 c4 c5 c6 c7 c8 c9 c10 c11 c12 c13 x0 x9 x10 x11 x12 x13 x15 x16 x17 x20 x21 x22 x23 x26 x28 x31 x32 x33 x38 x41 x44 x14 g15 g16 g17 g18 g19 g20 g21 g22 g23 g24 g25 g26 g27 g28 g29 g30 g31 g32 g33 g34 g35 g36 g37 g38 g39 g40 g41 g42 g43 g44 t), 0, 0) := by
    intro m9
    induction m9 with
    | zero =>
      intro k9 f k hk9 hff hk
      have p1 := hP k9 (by omega)
      have e9 : k9 = l.length := by omega
      iterate 2 refine hR (?_ : R (_, _, _, _, _, _))
      refine hR (pk_le l.length k9 (fun _ => ?_) (fun z => by omega) hy hk)
      refine hR (?_ : R (_, _, _, _, _, _))
      refine hR (zcall_i 0 0 (Nat.le_of_ble_eq_true rfl) (Nat.le_of_ble_eq_true rfl) (m_shorter _ _ l.length hy (by omega) _ _ ?_))
      iterate 2 refine hR (?_ : R (_, _, _, _, _, _))
      have h3 : ∀ z, z = nI (num l) → Q (some (.int z)) (zMg c0 c1 c2 c3 c4 c5 c6 c7 c8 c9 c10 c11 c12 c13 x0 x9 x10 x11 x12 x13 x15 x16 x17 x20 x21 x22 x23 x26 x28 x31 x32 x33 x38 x41 x44 x14 g15 g16 g17 g18 g19 g20 g21 g22 g23 g24 g25 g26 g27 g28 g29 g30 g31 g32 g33 g34 g35 g36 g37 g38 g39 g40 g41 g42 g43 g44 t) := fun z hz => by rw [hz]; exact h
      refine hR (zret_i rfl (Nat.le_refl _) trivial (h3 _ ?_))
      rw [e9, List.take_length] at hff p1
      rw [hff, nI_add]
      exact congrArg nI (by omega)
    | succ m9 ih =>
      intro k9 f k hk9 hff hk
      have p1 := hP k9 (by omega)
      have e4 := tSh_4 k9 (by omega)
      have ev : g25 k.toNatClampNeg = nI (l.getD k9 0) := by rw [hk, nI_clamp (by omega)]; exact hf k9 (by omega)
      iterate 2 refine hR (?_ : R (_, _, _, _, _, _))
      refine hR (pk_le l.length k9 (fun z => by omega) (fun _ => ?_) hy hk)
      iterate 6 refine hR (?_ : R (_, _, _, _, _, _))
      refine hR (And.intro (by rw [hk]; exact nI_in (by omega) (by omega)) ?_)
      iterate 4 refine hR (?_ : R (_, _, _, _, _, _))
      refine ih (k9 + 1) _ _ (by omega) ?_ (by rw [hk, nI1, nI_add])
      rw [ev, hff, nI4, pk_mul, nI_add, take_s (by omega), num_snoc]
      exact congrArg nI (by omega)
  iterate 4 refine hR (?_ : R (_, _, _, _, _, _))
  exact loop l.length 0 _ _ (by omega) nI0 nI0
set_option maxHeartbeats 4000000 in
theorem m_someOf {c0 c1 c2 c3 c4 c5 c6 c7 c8 c9 c10 c11 c12 c13 : va_E} {x0 x9 x10 x11 x12 x13 x15 x16 x17 x20 x21 x22 x23 x26 x28 x31 x32 x33 x38 x41 x44 : Int32} {x14 : Int64} {g15 g16 g17 g18 g19 g20 g21 g22 g23 g24 g25 g26 g27 g28 g29 g30 g31 g32 g33 g34 g35 g36 g37 g38 g39 g40 g41 g42 g43 g44 : Nat → Int32} {t : zW} (d : Nat) (x y : Int32) (a s9 : Nat) (hx : x = nI a) (ha : a < 5461) (hy : y = nI s9) (hs : s9 < 2 ^ 31) (Q : zQ) (h : ∀ f, Q (some (.int (nI (num (pick (tW a) s9 (tLen a)))))) (zMg c0 c1 c2 c3 c4 c5 c6 c7 c8 c9 c10 c11 c12 c13 x0 x9 x10 x11 x12 x13 x15 x16 x17 x20 x21 x22 x23 x26 x28 x31 x32 x33 x38 x41 x44 x14 g15 g16 g17 g18 g19 g20 g21 g22 g23 g24 f g26 g27 g28 g29 g30 g31 g32 g33 g34 g35 g36 g37 g38 g39 g40 g41 g42 g43 g44 t)) : zCl zTab (d + 4) iX12_someOf [.ref 14, .int x, .int y] (zMg c0 c1 c2 c3 c4 c5 c6 c7 c8 c9 c10 c11 c12 c13 x0 x9 x10 x11 x12 x13 x15 x16 x17 x20 x21 x22 x23 x26 x28 x31 x32 x33 x38 x41 x44 x14 g15 g16 g17 g18 g19 g20 g21 g22 g23 g24 g25 g26 g27 g28 g29 g30 g31 g32 g33 g34 g35 g36 g37 g38 g39 g40 g41 g42 g43 g44 t) 0 0 Q := by
  have hn := tLen_le a
  refine zCl_i (M := kX12_someOf) rfl (Nat.le_of_ble_eq_true rfl) fun R hR => ?_
  have loop : ∀ (m9 k9 : Nat) (n k : Int32) (f : Nat → Int32), k9 + m9 = tLen a → n = nI (pick (tW a) s9 k9).length → k = nI k9 → (∀ i, i < (pick (tW a) s9 k9).length → f i = nI ((pick (tW a) s9 k9).getD i 0)) → (∀ i, k9 ≤ i → i < tLen a → f i = nI (tW a i)) → R (13, [some (.ref 14), some (.int x), some (.int y), some (.int n), some (.int k)], [], (zMg c0 c1 c2 c3 c4 c5 c6 c7 c8 c9 c10 c11 c12 c13 x0 x9 x10 x11 x12 x13 x15 x16 x17 x20 x21 x22 x23 x26 x28 x31 x32 x33 x38 x41 x44 x14 g15 g16 g17 g18 g19 g20 g21 g22 g23 g24 f g26 g27 g28 g29 g30 g31 g32 g33 g34 g35 g36 g37 g38 g39 g40 g41 g42 g43 g44 t), 0, 0) := by
    intro m9
    induction m9 with
    | zero =>
      intro k9 n k f hk9 hnn hk h1 h2
      have e9 : k9 = tLen a := by omega
      have hpl := pick_len (tW a) s9 k9
      have hpx := pick_lt (tW_lt a) s9 k9
      iterate 2 refine hR (?_ : R (_, _, _, _, _, _))
      refine hR (zcall_i 0 0 (Nat.le_of_ble_eq_true rfl) (Nat.le_of_ble_eq_true rfl) (m_sizeOf _ _ a hx ha _ _ ?_))
      refine hR (pk_le (tLen a) k9 (fun _ => ?_) (fun z => by omega) rfl hk)
      iterate 2 refine hR (?_ : R (_, _, _, _, _, _))
      refine hR (zcall_i 0 0 (Nat.le_of_ble_eq_true rfl) (Nat.le_of_ble_eq_true rfl) (m_numberOf _ _ (pick (tW a) s9 k9) hnn (by omega) hpx h1 _ ?_))
      have h3 : ∀ z w, z = nI (num (pick (tW a) s9 (tLen a))) → (∀ z', Q (some (.int (nI (num (pick (tW a) s9 (tLen a)))))) w → z' = z → Q (some (.int z')) w) := fun z w hz z' hq hz' => by rw [hz', hz]; exact hq
      exact hR (zret_i rfl (Nat.le_refl _) trivial (h3 _ _ rfl _ (h f) (by rw [e9])))
    | succ m9 ih =>
      intro k9 n k f hk9 hnn hk h1 h2
      have hpl := pick_len (tW a) s9 k9
      iterate 2 refine hR (?_ : R (_, _, _, _, _, _))
      refine hR (zcall_i 0 0 (Nat.le_of_ble_eq_true rfl) (Nat.le_of_ble_eq_true rfl) (m_sizeOf _ _ a hx ha _ _ ?_))
      refine hR (pk_le (tLen a) k9 (fun z => by omega) (fun _ => ?_) rfl hk)
      iterate 2 refine hR (?_ : R (_, _, _, _, _, _))
      refine hR (zcall_i 0 0 (Nat.le_of_ble_eq_true rfl) (Nat.le_of_ble_eq_true rfl) (m_has _ _ _ s9 k9 hy hs hk (by omega) _ _ (fun q => ?_) (fun q => ?_)))
      · have ev : f k.toNatClampNeg = nI (tW a k9) := by rw [hk, nI_clamp (by omega)]; exact h2 k9 (Nat.le_refl _) (by omega)
        have ec : n.toNatClampNeg = (pick (tW a) s9 k9).length := by rw [hnn, nI_clamp (by omega)]
        refine hR (And.intro (fun hc => absurd hc (by decide)) (fun _ => ?_))
        iterate 6 refine hR (?_ : R (_, _, _, _, _, _))
        refine hR (And.intro (by rw [hk]; exact nI_in (by omega) (by omega)) ?_)
        refine hR (And.intro (by rw [hnn]; exact nI_in (by omega) (by omega)) ?_)
        iterate 3 refine hR (?_ : R (_, _, _, _, _, _))
        refine ih (k9 + 1) _ _ _ (by omega) (by rw [hnn, nI1, nI_add, pick_1 q, List.length_append, List.length_singleton]) (by rw [hk, nI1, nI_add]) (fun i hi => ?_) (fun i hi1 hi2 => ?_)
        · rw [ec, ev]
          rw [pick_1 q] at hi ⊢
          rw [List.length_append, List.length_singleton] at hi
          by_cases hq : i = (pick (tW a) s9 k9).length
          · subst hq
            rw [pk_us, List.getD_eq_getElem?_getD, List.getElem?_append_right (Nat.le_refl _), Nat.sub_self]
            rfl
          · rw [pk_un hq, h1 i (by omega), List.getD_eq_getElem?_getD, List.getD_eq_getElem?_getD, List.getElem?_append_left (by omega)]
        · rw [ec, pk_un (by omega)]
          exact h2 i (by omega) hi2
      · refine hR (And.intro (fun _ => ?_) (fun hc => absurd (by decide) hc))
        iterate 2 refine hR (?_ : R (_, _, _, _, _, _))
        refine ih (k9 + 1) _ _ f (by omega) (by rw [pick_0 q]; exact hnn) (by rw [hk, nI1, nI_add]) (fun i hi => ?_) (fun i hi1 hi2 => h2 i (by omega) hi2)
        rw [pick_0 q] at hi ⊢
        exact h1 i hi
  iterate 3 refine hR (?_ : R (_, _, _, _, _, _))
  refine hR (zcall_i 0 0 (Nat.le_of_ble_eq_true rfl) (Nat.le_of_ble_eq_true rfl) (m_spell25 _ _ a hx ha _ (fun f hf => ?_)))
  iterate 4 refine hR (?_ : R (_, _, _, _, _, _))
  exact loop (tLen a) 0 _ _ f (by omega) nI0 nI0 (fun i hi => absurd hi (Nat.not_lt_zero _)) (fun i _ hi2 => hf i hi2)
set_option maxHeartbeats 2000000 in
theorem m_isLeft {c0 c1 c2 c3 c4 c5 c6 c7 c8 c9 c10 c11 c12 c13 : va_E} {x0 x9 x10 x11 x12 x13 x15 x16 x17 x20 x21 x22 x23 x26 x28 x31 x32 x33 x38 x41 x44 : Int32} {x14 : Int64} {g15 g16 g17 g18 g19 g20 g21 g22 g23 g24 g25 g26 g27 g28 g29 g30 g31 g32 g33 g34 g35 g36 g37 g38 g39 g40 g41 g42 g43 g44 : Nat → Int32} {t : zW} (d : Nat) (x y : Int32) (b t9 : Nat) (hx : x = nI b) (hb : b < 5461) (hy : y = nI t9) (ht : t9 < 5461) (Q : zQ) (h1 : isL (tW b) (tLen b) t9 → ∀ f, Q (some (.int (Int32.ofInt 1))) (zMg c0 c1 c2 c3 c4 c5 c6 c7 c8 c9 c10 c11 c12 c13 x0 x9 x10 x11 x12 x13 x15 x16 x17 x20 x21 x22 x23 x26 x28 x31 x32 x33 x38 x41 x44 x14 g15 g16 g17 g18 g19 g20 g21 g22 g23 g24 f g26 g27 g28 g29 g30 g31 g32 g33 g34 g35 g36 g37 g38 g39 g40 g41 g42 g43 g44 t)) (h0 : ¬ isL (tW b) (tLen b) t9 → ∀ f, Q (some (.int (Int32.ofInt 0))) (zMg c0 c1 c2 c3 c4 c5 c6 c7 c8 c9 c10 c11 c12 c13 x0 x9 x10 x11 x12 x13 x15 x16 x17 x20 x21 x22 x23 x26 x28 x31 x32 x33 x38 x41 x44 x14 g15 g16 g17 g18 g19 g20 g21 g22 g23 g24 f g26 g27 g28 g29 g30 g31 g32 g33 g34 g35 g36 g37 g38 g39 g40 g41 g42 g43 g44 t)) : zCl zTab (d + 5) iX12_isLeft [.ref 14, .int x, .int y] (zMg c0 c1 c2 c3 c4 c5 c6 c7 c8 c9 c10 c11 c12 c13 x0 x9 x10 x11 x12 x13 x15 x16 x17 x20 x21 x22 x23 x26 x28 x31 x32 x33 x38 x41 x44 x14 g15 g16 g17 g18 g19 g20 g21 g22 g23 g24 g25 g26 g27 g28 g29 g30 g31 g32 g33 g34 g35 g36 g37 g38 g39 g40 g41 g42 g43 g44 t) 0 0 Q := by
  have hm := tLen_le b
  have h2p := s_2p (tLen b) (by omega)
  refine zCl_i (M := kX12_isLeft) rfl (Nat.le_of_ble_eq_true rfl) fun R hR => ?_
  have loop : ∀ (m9 s9 : Nat) (se : Int32) (f : Nat → Int32), s9 + m9 = 2 ^ tLen b → se = nI s9 → (∀ s', s' < s9 → num (pick (tW b) s' (tLen b)) ≠ t9) → R (2, [some (.ref 14), some (.int x), some (.int y), some (.int se)], [], (zMg c0 c1 c2 c3 c4 c5 c6 c7 c8 c9 c10 c11 c12 c13 x0 x9 x10 x11 x12 x13 x15 x16 x17 x20 x21 x22 x23 x26 x28 x31 x32 x33 x38 x41 x44 x14 g15 g16 g17 g18 g19 g20 g21 g22 g23 g24 f g26 g27 g28 g29 g30 g31 g32 g33 g34 g35 g36 g37 g38 g39 g40 g41 g42 g43 g44 t), 0, 0) := by
    intro m9
    induction m9 with
    | zero =>
      intro s9 se f hs hse hno
      iterate 3 refine hR (?_ : R (_, _, _, _, _, _))
      refine hR (zcall_i 0 0 (Nat.le_of_ble_eq_true rfl) (Nat.le_of_ble_eq_true rfl) (m_sizeOf _ _ b hx hb _ _ ?_))
      refine hR (?_ : R (_, _, _, _, _, _))
      refine hR (pk_le (2 ^ tLen b) s9 (fun _ => ?_) (fun z => by omega) h2p.1 hse)
      refine hR (?_ : R (_, _, _, _, _, _))
      exact hR (zret_i rfl (Nat.le_refl _) (Or.inl rfl) (h0 (fun ⟨s', q1, q2⟩ => hno s' (by omega) q2) f))
    | succ m9 ih =>
      intro s9 se f hs hse hno
      have n2 := (num_t (pick (tW b) s9 (tLen b)) (Nat.le_trans (pick_len _ _ _) hm) (pick_lt (tW_lt b) s9 (tLen b))).2.1
      iterate 3 refine hR (?_ : R (_, _, _, _, _, _))
      refine hR (zcall_i 0 0 (Nat.le_of_ble_eq_true rfl) (Nat.le_of_ble_eq_true rfl) (m_sizeOf _ _ b hx hb _ _ ?_))
      refine hR (?_ : R (_, _, _, _, _, _))
      refine hR (pk_le (2 ^ tLen b) s9 (fun z => by omega) (fun _ => ?_) h2p.1 hse)
      iterate 3 refine hR (?_ : R (_, _, _, _, _, _))
      refine hR (zcall_i 0 0 (Nat.le_of_ble_eq_true rfl) (Nat.le_of_ble_eq_true rfl) (m_someOf _ _ _ b s9 hx hb hse (by omega) _ (fun f2 => ?_)))
      refine hR (?_ : R (_, _, _, _, _, _))
      refine hR (pk_eq (num (pick (tW b) s9 (tLen b))) t9 (fun q => ?_) (fun q => ?_) rfl hy).symm
      · refine hR (?_ : R (_, _, _, _, _, _))
        exact hR (zret_i rfl (Nat.le_refl _) (Or.inr rfl) (h1 ⟨s9, by omega, q⟩ f2))
      · iterate 2 refine hR (?_ : R (_, _, _, _, _, _))
        refine ih (s9 + 1) _ f2 (by omega) (by rw [hse, nI1, nI_add]) (fun s' hs' => ?_)
        by_cases e : s' = s9
        · rw [e]; exact q
        · exact hno s' (by omega)
  iterate 2 refine hR (?_ : R (_, _, _, _, _, _))
  exact loop (2 ^ tLen b) 0 _ g25 (by omega) nI0 (fun s' hs' => absurd hs' (Nat.not_lt_zero _))
set_option maxHeartbeats 4000000 in
theorem m_shared {c0 c1 c2 c3 c4 c5 c6 c7 c8 c9 c10 c11 c12 c13 : va_E} {x0 x9 x10 x11 x12 x13 x15 x16 x17 x20 x21 x22 x23 x26 x28 x31 x32 x33 x38 x41 x44 : Int32} {x14 : Int64} {g15 g16 g17 g18 g19 g20 g21 g22 g23 g24 g25 g26 g27 g28 g29 g30 g31 g32 g33 g34 g35 g36 g37 g38 g39 g40 g41 g42 g43 g44 : Nat → Int32} {t : zW} (d : Nat) (x y p : Int32) (Q : zQ) (h : ∀ w, Q (some (.int (vShared x y p))) w) : zCl zTab (d + 6) iX12_shared [.ref 14, .int x, .int y, .int p] (zMg c0 c1 c2 c3 c4 c5 c6 c7 c8 c9 c10 c11 c12 c13 x0 x9 x10 x11 x12 x13 x15 x16 x17 x20 x21 x22 x23 x26 x28 x31 x32 x33 x38 x41 x44 x14 g15 g16 g17 g18 g19 g20 g21 g22 g23 g24 g25 g26 g27 g28 g29 g30 g31 g32 g33 g34 g35 g36 g37 g38 g39 g40 g41 g42 g43 g44 t) 0 0 Q := by
  have h3 : ∀ z w, z = vShared x y p → Q (some (.int z)) w := fun z w hz => by rw [hz]; exact h w
  refine zCl_i (M := kX12_shared) rfl (Nat.le_of_ble_eq_true rfl) fun R hR => ?_
  have main : ∀ (a b : Nat), x = nI a → a < 5461 → y = nI b → b < 5461 → (∀ (be se : Int32) (z6 z7 : Option Value) (f : Nat → Int32), be = nI (bst (tW a) (tW b) (tLen a) (tLen b) (2 ^ tLen a)) → R (117, [some (.ref 14), some (.int x), some (.int y), some (.int p), some (.int be), some (.int se), z6, z7], [], (zMg c0 c1 c2 c3 c4 c5 c6 c7 c8 c9 c10 c11 c12 c13 (Int32.ofInt 0) x9 x10 x11 x12 x13 x15 x16 x17 x20 x21 x22 x23 x26 x28 x31 x32 x33 x38 x41 x44 x14 g15 g16 g17 g18 g19 g20 g21 g22 g23 g24 f g26 g27 g28 g29 g30 g31 g32 g33 g34 g35 g36 g37 g38 g39 g40 g41 g42 g43 g44 t), 0, 0)) → ∀ (m9 s9 : Nat) (be se : Int32) (z6 z7 : Option Value) (f : Nat → Int32), s9 + m9 = 2 ^ tLen a → be = nI (bst (tW a) (tW b) (tLen a) (tLen b) s9) → se = nI s9 → R (27, [some (.ref 14), some (.int x), some (.int y), some (.int p), some (.int be), some (.int se), z6, z7], [], (zMg c0 c1 c2 c3 c4 c5 c6 c7 c8 c9 c10 c11 c12 c13 (Int32.ofInt 0) x9 x10 x11 x12 x13 x15 x16 x17 x20 x21 x22 x23 x26 x28 x31 x32 x33 x38 x41 x44 x14 g15 g16 g17 g18 g19 g20 g21 g22 g23 g24 f g26 g27 g28 g29 g30 g31 g32 g33 g34 g35 g36 g37 g38 g39 g40 g41 g42 g43 g44 t), 0, 0) := by
    intro a b hx ha hy hb hexit
    have hn := tLen_le a
    have h2p := s_2p (tLen a) (by omega)
    intro m9
    induction m9 with
    | zero =>
      intro s9 be se z6 z7 f hs hbe hse
      iterate 3 refine hR (?_ : R (_, _, _, _, _, _))
      refine hR (zcall_i 0 0 (Nat.le_of_ble_eq_true rfl) (Nat.le_of_ble_eq_true rfl) (m_sizeOf _ _ a hx ha _ _ ?_))
      refine hR (?_ : R (_, _, _, _, _, _))
      refine hR (pk_le (2 ^ tLen a) s9 (fun _ => ?_) (fun z => by omega) h2p.1 hse)
      exact hexit be se _ _ f (by rw [hbe, show s9 = 2 ^ tLen a by omega])
    | succ m9 ih =>
      intro s9 be se z6 z7 f hs hbe hse
      have hpl := pick_len (tW a) s9 (tLen a)
      have hpx := pick_lt (tW_lt a) s9 (tLen a)
      obtain ⟨n1, n2, n3⟩ := num_t (pick (tW a) s9 (tLen a)) (by omega) hpx
      have hbl := bst_lt (v := tW b) (m := tLen b) (tW_lt a) hn s9
      have hb6 := tLen_le (bst (tW a) (tW b) (tLen a) (tLen b) s9)
      have ht6 := tLen_le (num (pick (tW a) s9 (tLen a)))
      have cont : ∀ (bs tt mo : Int32) (f : Nat → Int32), bs = nI (bst (tW a) (tW b) (tLen a) (tLen b) (s9 + 1)) → R (109, [some (.ref 14), some (.int x), some (.int y), some (.int p), some (.int be), some (.int se), some (.int tt), some (.int mo)], [.int bs], (zMg c0 c1 c2 c3 c4 c5 c6 c7 c8 c9 c10 c11 c12 c13 (Int32.ofInt 0) x9 x10 x11 x12 x13 x15 x16 x17 x20 x21 x22 x23 x26 x28 x31 x32 x33 x38 x41 x44 x14 g15 g16 g17 g18 g19 g20 g21 g22 g23 g24 f g26 g27 g28 g29 g30 g31 g32 g33 g34 g35 g36 g37 g38 g39 g40 g41 g42 g43 g44 t), 0, 0) := by
        intro bs tt mo f hbs
        iterate 3 refine hR (?_ : R (_, _, _, _, _, _))
        exact ih (s9 + 1) _ _ _ _ f (by omega) hbs (by rw [hse, nI1, nI_add])
      have yes : ∀ (tt : Int32) (z7 : Option Value) (f : Nat → Int32), tt = nI (num (pick (tW a) s9 (tLen a))) → btr (num (pick (tW a) s9 (tLen a))) (bst (tW a) (tW b) (tLen a) (tLen b) s9) → R (80, [some (.ref 14), some (.int x), some (.int y), some (.int p), some (.int be), some (.int se), some (.int tt), z7], [], (zMg c0 c1 c2 c3 c4 c5 c6 c7 c8 c9 c10 c11 c12 c13 (Int32.ofInt 0) x9 x10 x11 x12 x13 x15 x16 x17 x20 x21 x22 x23 x26 x28 x31 x32 x33 x38 x41 x44 x14 g15 g16 g17 g18 g19 g20 g21 g22 g23 g24 f g26 g27 g28 g29 g30 g31 g32 g33 g34 g35 g36 g37 g38 g39 g40 g41 g42 g43 g44 t), 0, 0) := by
        intro tt z7 f htt hbt
        iterate 4 refine hR (?_ : R (_, _, _, _, _, _))
        refine hR (And.intro (fun hc => absurd hc (by decide)) (fun _ => ?_))
        iterate 3 refine hR (?_ : R (_, _, _, _, _, _))
        refine hR (zcall_i 0 0 (Nat.le_of_ble_eq_true rfl) (Nat.le_of_ble_eq_true rfl) (m_isLeft _ _ _ b (num (pick (tW a) s9 (tLen a))) hy hb htt n2 _ (fun q f2 => ?_) (fun q f2 => ?_)))
        · refine hR (And.intro (fun hc => absurd hc (by decide)) (fun _ => ?_))
          iterate 2 refine hR (?_ : R (_, _, _, _, _, _))
          exact cont _ _ _ f2 (by rw [htt, bst_y hbt q])
        · refine hR (And.intro (fun _ => ?_) (fun hc => absurd (by decide) hc))
          refine hR (?_ : R (_, _, _, _, _, _))
          exact cont _ _ _ f2 (by rw [hbe, bst_n (fun z => q z.2)])
      have no : ∀ (tt : Int32) (z7 : Option Value) (f : Nat → Int32), ¬ btr (num (pick (tW a) s9 (tLen a))) (bst (tW a) (tW b) (tLen a) (tLen b) s9) → R (84, [some (.ref 14), some (.int x), some (.int y), some (.int p), some (.int be), some (.int se), some (.int tt), z7], [], (zMg c0 c1 c2 c3 c4 c5 c6 c7 c8 c9 c10 c11 c12 c13 (Int32.ofInt 0) x9 x10 x11 x12 x13 x15 x16 x17 x20 x21 x22 x23 x26 x28 x31 x32 x33 x38 x41 x44 x14 g15 g16 g17 g18 g19 g20 g21 g22 g23 g24 f g26 g27 g28 g29 g30 g31 g32 g33 g34 g35 g36 g37 g38 g39 g40 g41 g42 g43 g44 t), 0, 0) := by
        intro tt z7 f hbt
        iterate 3 refine hR (?_ : R (_, _, _, _, _, _))
        refine hR (And.intro (fun _ => ?_) (fun hc => absurd (by decide) hc))
        refine hR (?_ : R (_, _, _, _, _, _))
        exact cont _ _ _ f (by rw [hbe, bst_n (fun z => hbt z.1)])
      iterate 3 refine hR (?_ : R (_, _, _, _, _, _))
      refine hR (zcall_i 0 0 (Nat.le_of_ble_eq_true rfl) (Nat.le_of_ble_eq_true rfl) (m_sizeOf _ _ a hx ha _ _ ?_))
      refine hR (?_ : R (_, _, _, _, _, _))
      refine hR (pk_le (2 ^ tLen a) s9 (fun z => by omega) (fun _ => ?_) h2p.1 hse)
      iterate 3 refine hR (?_ : R (_, _, _, _, _, _))
      refine hR (zcall_i 0 0 (Nat.le_of_ble_eq_true rfl) (Nat.le_of_ble_eq_true rfl) (m_someOf _ _ _ a s9 hx ha hse (by omega) _ (fun f2 => ?_)))
      iterate 2 refine hR (?_ : R (_, _, _, _, _, _))
      refine hR (zcall_i 0 0 (Nat.le_of_ble_eq_true rfl) (Nat.le_of_ble_eq_true rfl) (m_sizeOf _ _ (num (pick (tW a) s9 (tLen a))) rfl n2 _ _ ?_))
      refine hR (?_ : R (_, _, _, _, _, _))
      refine hR (zcall_i 0 0 (Nat.le_of_ble_eq_true rfl) (Nat.le_of_ble_eq_true rfl) (m_sizeOf _ _ (bst (tW a) (tW b) (tLen a) (tLen b) s9) hbe hbl _ _ ?_))
      refine hR (pk_lt (tLen (bst (tW a) (tW b) (tLen a) (tLen b) s9)) (tLen (num (pick (tW a) s9 (tLen a)))) (fun q => ?_) (fun q => ?_) rfl rfl)
      · exact yes _ _ f2 rfl (Or.inl q)
      refine hR (?_ : R (_, _, _, _, _, _))
      refine hR (zcall_i 0 0 (Nat.le_of_ble_eq_true rfl) (Nat.le_of_ble_eq_true rfl) (m_sizeOf _ _ (num (pick (tW a) s9 (tLen a))) rfl n2 _ _ ?_))
      refine hR (?_ : R (_, _, _, _, _, _))
      refine hR (zcall_i 0 0 (Nat.le_of_ble_eq_true rfl) (Nat.le_of_ble_eq_true rfl) (m_sizeOf _ _ (bst (tW a) (tW b) (tLen a) (tLen b) s9) hbe hbl _ _ ?_))
      refine hR (pk_eq (tLen (num (pick (tW a) s9 (tLen a)))) (tLen (bst (tW a) (tW b) (tLen a) (tLen b) s9)) (fun q2 => ?_) (fun q2 => ?_) rfl rfl).symm
      · iterate 2 refine hR (?_ : R (_, _, _, _, _, _))
        refine hR (pk_le (bst (tW a) (tW b) (tLen a) (tLen b) s9) (num (pick (tW a) s9 (tLen a))) (fun q3 => ?_) (fun q3 => ?_) hbe rfl)
        · exact no _ _ f2 (fun z => by rcases z with z | z <;> omega)
        · exact yes _ _ f2 rfl (Or.inr ⟨q2, q3⟩)
      · exact no _ _ f2 (fun z => by rcases z with z | z <;> omega)
  iterate 4 refine hR (?_ : R (_, _, _, _, _, _))
  refine hR (zcall_i 0 0 (Nat.le_of_ble_eq_true rfl) (Nat.le_of_ble_eq_true rfl) (m_isText _ _ _ _ (fun p0 p1 => ?_) (fun q => ?_)))
  · refine hR (And.intro (fun hc => absurd hc (by decide)) (fun _ => ?_))
    refine hR (?_ : R (_, _, _, _, _, _))
    refine hR (zcall_i 0 0 (Nat.le_of_ble_eq_true rfl) (Nat.le_of_ble_eq_true rfl) (m_isText _ _ _ _ (fun q0 q1 => ?_) (fun q => ?_)))
    · obtain ⟨a, ha, hx⟩ := t_of p0 p1
      obtain ⟨b, hb, hy⟩ := t_of q0 q1
      have hbl := bst_lt (v := tW b) (m := tLen b) (tW_lt a) (tLen_le a) (2 ^ tLen a)
      refine hR (And.intro (fun _ => ?_) (fun hc => absurd hc (by decide)))
      iterate 4 refine hR (?_ : R (_, _, _, _, _, _))
      refine main a b hx ha hy hb ?_ (2 ^ tLen a) 0 _ _ _ _ g25 (by omega) nI0 nI0
      intro be se z6 z7 f hbe
      refine hR (?_ : R (_, _, _, _, _, _))
      refine hR (And.intro (fun hp => ?_) (fun hp => ?_))
      · refine hR (?_ : R (_, _, _, _, _, _))
        refine hR (zcall_i 0 0 (Nat.le_of_ble_eq_true rfl) (Nat.le_of_ble_eq_true rfl) (m_sizeOf _ _ (bst (tW a) (tW b) (tLen a) (tLen b) (2 ^ tLen a)) hbe hbl _ _ ?_))
        exact hR (zret_i rfl (Nat.le_refl _) trivial (h3 _ _ (by rw [vShared_in hx ha hy hb p0 p1 q0 q1, if_pos hp])))
      · iterate 2 refine hR (?_ : R (_, _, _, _, _, _))
        exact hR (zret_i rfl (Nat.le_refl _) trivial (h3 _ _ (by rw [vShared_in hx ha hy hb p0 p1 q0 q1, if_neg hp, hbe])))
    · refine hR (And.intro (fun hc => absurd (by decide) hc) (fun _ => ?_))
      refine hR (?_ : R (_, _, _, _, _, _))
      exact hR (zret_i rfl (Nat.le_refl _) trivial (h3 _ _ (by unfold vShared; rw [if_pos (Or.inr q)])))
  · refine hR (And.intro (fun _ => ?_) (fun hc => absurd (by decide) hc))
    refine hR (?_ : R (_, _, _, _, _, _))
    exact hR (zret_i rfl (Nat.le_refl _) trivial (h3 _ _ (by unfold vShared; rw [if_pos (Or.inl q)])))
end
section
def qL26 : List zE := [(1393, .aload_n 1, 1394, 0, 0), (1394, .aload_n 0, 1395, 0, 0), (1395, .iload_n 3, 1396, 0, 0), (1396, .iconst 1, 1397, 0, 0), (1397, .iadd, 1398, 0, 0), (1398, .iaload, 1399, 0, 0), (1399, .aload_n 0, 1400, 0, 0), (1400, .iload_n 3, 1401, 0, 0), (1401, .iconst 2, 1402, 0, 0), (1402, .iadd, 1403, 0, 0), (1403, .iaload, 1404, 0, 0), (1404, .aload_n 0, 1405, 0, 0), (1405, .iload_n 3, 1406, 0, 0), (1406, .iconst 3, 1407, 0, 0), (1407, .iadd, 1408, 0, 0), (1408, .iaload, 1409, 0, 0), (1409, .ifCond .eq 7, 1412, 1416, 0), (1412, .iconst 1, 1413, 0, 0), (1413, .goto 4, 1416, 1417, 0), (1416, .iconst 0, 1417, 0, 0), (1417, .invokevirtual 126, 1420, 28, 3), (1420, .aload_n 2, 1421, 0, 0), (1421, .aload_n 0, 1422, 0, 0), (1422, .iload_n 3, 1423, 0, 0), (1423, .iconst 1, 1424, 0, 0), (1424, .iadd, 1425, 0, 0), (1425, .iaload, 1426, 0, 0), (1426, .aload_n 0, 1427, 0, 0), (1427, .iload_n 3, 1428, 0, 0), (1428, .iconst 2, 1429, 0, 0), (1429, .iadd, 1430, 0, 0), (1430, .iaload, 1431, 0, 0), (1431, .aload_n 0, 1432, 0, 0), (1432, .iload_n 3, 1433, 0, 0), (1433, .iconst 3, 1434, 0, 0), (1434, .iadd, 1435, 0, 0), (1435, .iaload, 1436, 0, 0), (1436, .ifCond .eq 7, 1439, 1443, 0), (1439, .iconst 1, 1440, 0, 0), (1440, .goto 4, 1443, 1444, 0), (1443, .iconst 0, 1444, 0, 0), (1444, .invokevirtual 129, 1447, 93, 3), (1447, .if_icmp .eq 396, 1450, 1843, 0), (1450, .iconst 0, 1451, 0, 0), (1451, .ireturn, 1452, 0, 0)]
theorem sL26 : qL26.all (fun e => decide (zat kL_law.2.2.2.2.2 e.1 = some e.2)) = true := by decide +kernel
theorem l_c26 {R : zS → Prop} {xs : Nat → Int32} (hR : ∀ y, zstep (zCl zTab 12) 12 kL_law (some (7, xs)) zTab 600000 7302250 zLQ y R → R y) : R (1393, [some (.retAddr 0), some (.ref 0), some (.ref 14), some (.int (Int32.ofInt 0))], [], zCw (zMf []), 45, 272400) := by
  have hR0 := hR
  have hR := @zrsub _ _ _ _ _ _ _ _ _ qL26 sL26 hR
  iterate 5 refine hR (?_ : R (_, _, _, _, _, _))
  refine hR (And.intro l_v1 ?_)
  iterate 4 refine hR (?_ : R (_, _, _, _, _, _))
  refine hR (And.intro l_v2 ?_)
  iterate 4 refine hR (?_ : R (_, _, _, _, _, _))
  refine hR (And.intro l_v3 ?_)
  refine hR (And.intro (fun hz1 => ?_) (fun hz1 => ?_))
  · skip
    refine hR (?_ : R (_, _, _, _, _, _))
    refine hR (zcall_i 0 0 (Nat.le_of_ble_eq_true rfl) (Nat.le_of_ble_eq_true rfl) (r_shared _ _ _ _ _ _ ?_))
    iterate 5 refine hR (?_ : R (_, _, _, _, _, _))
    refine hR (And.intro l_v1 ?_)
    iterate 4 refine hR (?_ : R (_, _, _, _, _, _))
    refine hR (And.intro l_v2 ?_)
    iterate 4 refine hR (?_ : R (_, _, _, _, _, _))
    refine hR (And.intro l_v3 ?_)
    refine hR (And.intro (fun _ => ?_) (fun hc => absurd hz1 hc))
    refine hR (?_ : R (_, _, _, _, _, _))
    refine hR (zcall_i 0 0 (Nat.le_of_ble_eq_true rfl) (Nat.le_of_ble_eq_true rfl) (m_shared _ _ _ _ _ (fun _ => ?_)))
    refine hR (And.intro (fun _ => ?_) (fun hc => absurd rfl hc))
    exact l_end hR0 _ _ _ (Nat.le_of_ble_eq_true rfl) (Nat.le_of_ble_eq_true rfl)
  · skip
    iterate 2 refine hR (?_ : R (_, _, _, _, _, _))
    refine hR (zcall_i 0 0 (Nat.le_of_ble_eq_true rfl) (Nat.le_of_ble_eq_true rfl) (r_shared _ _ _ _ _ _ ?_))
    iterate 5 refine hR (?_ : R (_, _, _, _, _, _))
    refine hR (And.intro l_v1 ?_)
    iterate 4 refine hR (?_ : R (_, _, _, _, _, _))
    refine hR (And.intro l_v2 ?_)
    iterate 4 refine hR (?_ : R (_, _, _, _, _, _))
    refine hR (And.intro l_v3 ?_)
    refine hR (And.intro (fun hc => absurd hc hz1) (fun _ => ?_))
    iterate 2 refine hR (?_ : R (_, _, _, _, _, _))
    refine hR (zcall_i 0 0 (Nat.le_of_ble_eq_true rfl) (Nat.le_of_ble_eq_true rfl) (m_shared _ _ _ _ _ (fun _ => ?_)))
    refine hR (And.intro (fun _ => ?_) (fun hc => absurd rfl hc))
    exact l_end hR0 _ _ _ (Nat.le_of_ble_eq_true rfl) (Nat.le_of_ble_eq_true rfl)
end
section
def qLh : List zE := [(0, .new 7, 3, 10, 0), (3, .dup, 4, 0, 0), (4, .invokespecial 9, 7, 1, 0), (7, .astore_n 1, 8, 0, 0), (8, .new 10, 11, 11, 0), (11, .dup, 12, 0, 0), (12, .invokespecial 12, 15, 66, 0), (15, .astore_n 2, 16, 0, 0), (16, .iconst 0, 17, 0, 0), (17, .istore_n 3, 18, 0, 0), (18, .iload_n 3, 19, 0, 0), (19, .aload_n 0, 20, 0, 0), (20, .arraylength, 21, 0, 0), (21, .bipush 7, 23, 0, 0), (23, .isub, 24, 0, 0), (24, .if_icmp .gt 1825, 27, 1849, 0), (27, .aload_n 0, 28, 0, 0), (28, .iload_n 3, 29, 0, 0), (29, .iaload, 30, 0, 0), (30, .bipush 63, 32, 0, 0), (32, .iand, 33, 0, 0), (33, .tableswitch 1810 0 35 #[159, 222, 245, 278, 301, 334, 367, 400, 443, 486, 519, 572, 625, 658, 717, 750, 793, 836, 879, 939, 1008, 1099, 1142, 1195, 1248, 1301, 1360, 1419, 1488, 1557, 1616, 1665, 1708, 1741, 1764, 1787], 192, 0, 0), (1849, .iconst 1, 1850, 0, 0), (1850, .ireturn, 1851, 0, 0)]
theorem sLh : qLh.all (fun e => decide (zat kL_law.2.2.2.2.2 e.1 = some e.2)) = true := by decide +kernel
theorem l_ngt : ¬ Int32.ofNat 7 - (Int8.ofInt 7).toInt32 < Int32.ofInt 0 := by decide
theorem l_v0 : vp_in (Int32.ofInt 0) 7 := by unfold vp_in; decide
theorem l_switch {R : zS → Prop} {xs : Nat → Int32} (hR : ∀ y, zstep (zCl zTab 12) 12 kL_law (some (7, xs)) zTab 600000 7302250 zLQ y R → R y) (v : Int) (hn : ¬ (v < 0 ∨ 35 < v)) : ∃ off, (#[159, 222, 245, 278, 301, 334, 367, 400, 443, 486, 519, 572, 625, 658, 717, 750, 793, 836, 879, 939, 1008, 1099, 1142, 1195, 1248, 1301, 1360, 1419, 1488, 1557, 1616, 1665, 1708, 1741, 1764, 1787] : Array Int)[(v - 0).toNat]? = some off ∧ R ((((33 : Nat) : Int) + off).toNat, [some (.retAddr 0), some (.ref 0), some (.ref 14), some (.int (Int32.ofInt 0))], [], zCw (zMf []), 45, 272400) := by
  have hv : v = 0 ∨ v = 1 ∨ v = 2 ∨ v = 3 ∨ v = 4 ∨ v = 5 ∨ v = 6 ∨ v = 7 ∨ v = 8 ∨ v = 9 ∨ v = 10 ∨ v = 11 ∨ v = 12 ∨ v = 13 ∨ v = 14 ∨ v = 15 ∨ v = 16 ∨ v = 17 ∨ v = 18 ∨ v = 19 ∨ v = 20 ∨ v = 21 ∨ v = 22 ∨ v = 23 ∨ v = 24 ∨ v = 25 ∨ v = 26 ∨ v = 27 ∨ v = 28 ∨ v = 29 ∨ v = 30 ∨ v = 31 ∨ v = 32 ∨ v = 33 ∨ v = 34 ∨ v = 35 := by omega
  rcases hv with h | h | h | h | h | h | h | h | h | h | h | h | h | h | h | h | h | h | h | h | h | h | h | h | h | h | h | h | h | h | h | h | h | h | h | h
  · exact ⟨159, by rw [h]; rfl, l_c0 hR⟩
  · exact ⟨222, by rw [h]; rfl, l_c1 hR⟩
  · exact ⟨245, by rw [h]; rfl, l_c2 hR⟩
  · exact ⟨278, by rw [h]; rfl, l_c3 hR⟩
  · exact ⟨301, by rw [h]; rfl, l_c4 hR⟩
  · exact ⟨334, by rw [h]; rfl, l_c5 hR⟩
  · exact ⟨367, by rw [h]; rfl, l_c6 hR⟩
  · exact ⟨400, by rw [h]; rfl, l_c7 hR⟩
  · exact ⟨443, by rw [h]; rfl, l_c8 hR⟩
  · exact ⟨486, by rw [h]; rfl, l_c9 hR⟩
  · exact ⟨519, by rw [h]; rfl, l_c10 hR⟩
  · exact ⟨572, by rw [h]; rfl, l_c11 hR⟩
  · exact ⟨625, by rw [h]; rfl, l_c12 hR⟩
  · exact ⟨658, by rw [h]; rfl, l_c13 hR⟩
  · exact ⟨717, by rw [h]; rfl, l_c14 hR⟩
  · exact ⟨750, by rw [h]; rfl, l_c15 hR⟩
  · exact ⟨793, by rw [h]; rfl, l_c16 hR⟩
  · exact ⟨836, by rw [h]; rfl, l_c17 hR⟩
  · exact ⟨879, by rw [h]; rfl, l_c18 hR⟩
  · exact ⟨939, by rw [h]; rfl, l_c19 hR⟩
  · exact ⟨1008, by rw [h]; rfl, l_c20 hR⟩
  · exact ⟨1099, by rw [h]; rfl, l_c21 hR⟩
  · exact ⟨1142, by rw [h]; rfl, l_c22 hR⟩
  · exact ⟨1195, by rw [h]; rfl, l_c23 hR⟩
  · exact ⟨1248, by rw [h]; rfl, l_c24 hR⟩
  · exact ⟨1301, by rw [h]; rfl, l_c25 hR⟩
  · exact ⟨1360, by rw [h]; rfl, l_c26 hR⟩
  · exact ⟨1419, by rw [h]; rfl, l_c27 hR⟩
  · exact ⟨1488, by rw [h]; rfl, l_c28 hR⟩
  · exact ⟨1557, by rw [h]; rfl, l_c29 hR⟩
  · exact ⟨1616, by rw [h]; rfl, l_c30 hR⟩
  · exact ⟨1665, by rw [h]; rfl, l_c31 hR⟩
  · exact ⟨1708, by rw [h]; rfl, l_c32 hR⟩
  · exact ⟨1741, by rw [h]; rfl, l_c33 hR⟩
  · exact ⟨1764, by rw [h]; rfl, l_c34 hR⟩
  · exact ⟨1787, by rw [h]; rfl, l_c35 hR⟩
theorem l_head7 {R : zS → Prop} {xs : Nat → Int32} (hR : ∀ y, zstep (zCl zTab 12) 12 kL_law (some (7, xs)) zTab 600000 7302250 zLQ y R → R y) : R (0, zent 4 [.retAddr 0], [], [], 0, 0) := by
  have hR0 := hR
  have hR := @zrsub _ _ _ _ _ _ _ _ _ qLh sLh hR
  refine hR (?_ : R (_, _, .ref 0 :: _, _, _, _))
  refine hR (?_ : R (_, _, _, _, _, _))
  refine hR (zcall_i 13 648 (Nat.le_of_ble_eq_true rfl) (Nat.le_of_ble_eq_true rfl) (i_class _ _ ?_))
  refine hR (?_ : R (_, _, _, _, _, _))
  refine hR (?_ : R (_, _, .ref 14 :: _, _, _, _))
  refine hR (?_ : R (_, _, _, _, _, _))
  refine hR (zcall_i 30 271692 (Nat.le_of_ble_eq_true rfl) (Nat.le_of_ble_eq_true rfl) (i_model _ _ ?_))
  iterate 3 refine hR (?_ : R (_, _, _, _, _, _))
  refine (?_ : R (18, [some (.retAddr 0), some (.ref 0), some (.ref 14), some (.int (Int32.ofInt 0))], [], zCw (zMf []), 45, 272400))
  iterate 5 refine hR (?_ : R (_, _, _, _, _, _))
  refine hR (And.intro (fun hc => absurd hc l_ngt) (fun _ => ?_))
  iterate 2 refine hR (?_ : R (_, _, _, _, _, _))
  refine hR (And.intro l_v0 ?_)
  iterate 2 refine hR (?_ : R (_, _, _, _, _, _))
  refine hR (And.intro (fun _ => ?_) (fun hn => ?_))
  · exact l_end hR0 _ _ _ (Nat.le_of_ble_eq_true rfl) (Nat.le_of_ble_eq_true rfl)
  · exact l_switch hR0 _ hn
theorem l_headS {L : Nat} (hL : L < 7) {R : zS → Prop} {xs : Nat → Int32} (hR : ∀ y, zstep (zCl zTab 12) 12 kL_law (some (L, xs)) zTab 600000 7302250 zLQ y R → R y) : R (0, zent 4 [.retAddr 0], [], [], 0, 0) := by
  have hg : Int32.ofNat L - (Int8.ofInt 7).toInt32 < Int32.ofInt 0 := by
    have hv : L = 0 ∨ L = 1 ∨ L = 2 ∨ L = 3 ∨ L = 4 ∨ L = 5 ∨ L = 6 := by omega
    rcases hv with rfl | rfl | rfl | rfl | rfl | rfl | rfl <;> decide
  have hR := @zrsub _ _ _ _ _ _ _ _ _ qLh sLh hR
  refine hR (?_ : R (_, _, .ref 0 :: _, _, _, _))
  refine hR (?_ : R (_, _, _, _, _, _))
  refine hR (zcall_i 13 648 (Nat.le_of_ble_eq_true rfl) (Nat.le_of_ble_eq_true rfl) (i_class _ _ ?_))
  refine hR (?_ : R (_, _, _, _, _, _))
  refine hR (?_ : R (_, _, .ref 14 :: _, _, _, _))
  refine hR (?_ : R (_, _, _, _, _, _))
  refine hR (zcall_i 30 271692 (Nat.le_of_ble_eq_true rfl) (Nat.le_of_ble_eq_true rfl) (i_model _ _ ?_))
  iterate 3 refine hR (?_ : R (_, _, _, _, _, _))
  refine (?_ : R (18, [some (.retAddr 0), some (.ref 0), some (.ref 14), some (.int (Int32.ofInt 0))], [], zCw (zMf []), 45, 272400))
  iterate 5 refine hR (?_ : R (_, _, _, _, _, _))
  refine hR (And.intro (fun _ => ?_) (fun hc => absurd hg hc))
  refine hR (?_ : R (_, _, _, _, _, _))
  exact hR (⟨⟨Nat.le_of_ble_eq_true rfl, Nat.le_of_ble_eq_true rfl⟩, Or.inr rfl, rfl⟩ : (_ ≤ 600000 ∧ _ ≤ 7302250) ∧ (_ ∨ _) ∧ _)
end
section
/-! THE CLAIM OUT OF ONE WALK OF THE LAW'S BODY. Your part is whole_start (and what it stands on); all else here is the same for every law, but numbers. -/
def R_law : String := "ReadAloudLaw"
def lw_P (b : Addr) (xs : List Int32) (args : Array Value) (s : State) : Prop := args = #[.ref b] ∧ s.IntsAt b xs ∧ xs.length ≤ 7 ∧ (Jvm.Cond.and given_1 narrow_1).before args s = true
def lw_Q (_ : Array Value) (s : State) (o : Outcome) (t : State) : Prop := o = .returned (some (.int 1)) ∧ Framed s o t [] 600000 7302250
def lw_Z (below : List Frame) (a : Array Value) (s : State) : State → Prop := fun t => ∃ o, t.status = .running ∧ Ended t below o ∧ lw_Q a s o t
/-- the law's own end, with 1 on the stack, nothing written that was there before, its room as the claim has it -/
theorem lw_ret {p : Program} {l : Launch} {e : Env} {s : State} {m : MethodId} {below : List Frame} {meth : Method} {c : Code} {b : Nat} (hx : p.tables.exec = Jvm.exec) (hb : c.code = code) (hr : meth.sig.returnType = ret) (hlocks : meth.locks = false) {pc : Nat} {H : Heap} {ls : Array Slot} (hdg : decode code pc = .ok (.ireturn, 1)) : W p l e room_1 s m #[Value.ref b] below meth c H [] 600000 7302250 (lw_Z below #[Value.ref b] s) (F0 m pc ls [.int 1]) := by
  intro T hT X
  obtain ⟨fs, hret, hrun, hended, hW, hframe⟩ := X.leave (v := some (.int 1)) (hlocks := hlocks) (fun h => by rw [hr] at h; cases h)
  have hmeth' : T.vm.method? m = some meth := X.method'
  refine ⟨T.setFrames fs, ?_, .returned (some (.int 1)), hrun, hended, rfl, ⟨_, rfl⟩, hW, hframe⟩
  jvm_step X.here [X.here.top, hx, hb, hdg, hmeth', hr, ret, narrow_b1]
  (try refine ⟨rfl, ?_⟩); (try refine ⟨rfl, ?_⟩)
  first | (intro acts; rw [hret _ acts rfl rfl rfl]) | rw [hret _ _ rfl rfl rfl]
  exact Steps.refl _
/-- what holds at the law's entry: the machine, the code, the tables' words (any of lw_tbl by 'hts w (by decide +kernel)'), the script of L ints xs at the cell b, what the Statement gives of the start (any of its parts by flat_of_before) -/
def lw_At (p : Program) (s : State) (m : MethodId) (meth : Method) (c : Code) (b L : Nat) (xs : Nat → Int32) : Prop :=
  p.tables.exec = Jvm.exec ∧ c.code = code ∧ meth.sig.returnType = ret ∧ c.maxLocals = 4 ∧ s.vm.findClass R_law = some m.cls ∧ (∀ w ∈ lw_tbl, w.before #[Value.ref b] s = true) ∧ va_X b L xs s s.heap ∧ b < s.heap.size ∧ meth.locks = false ∧ (Jvm.Cond.and given_1 narrow_1).before #[Value.ref b] s = true

theorem w_nf : ∀ w ∈ zNF.map (fun t => Cond.fieldLinkNest t.1 t.2.1 t.2.2.1 t.2.2.2.1 t.2.2.2.2 "ReadAloud"), w ∈ lw_tbl := zplaces [214, 216, 218, 220, 222, 224, 226, 228, 261, 262, 263, 265, 267, 372, 373, 375, 376, 377, 378, 379, 380, 591, 592, 594, 596, 598, 615, 617, 619, 799, 800, 801, 802, 831, 834, 927, 929, 931, 944] (by decide +kernel)
theorem w_nm : ∀ w ∈ zNM.map (fun t => Cond.methodLinkNest t.1 t.2.1 t.2.2 "ReadAloud"), w ∈ lw_tbl := zplaces [203, 251, 287, 346, 364, 367, 401, 432, 495, 500, 512, 523, 527, 546, 555, 558, 564, 565, 569, 586, 589, 610, 613, 642, 687, 688, 692, 697, 716, 728, 736, 743, 755, 756, 759, 768, 784, 794, 815, 825, 848, 852, 860, 861, 865, 866, 874, 882, 890, 894, 902, 908, 922, 976, 981, 1008, 1044, 1048, 1064, 1065, 1070, 1074, 1075, 1081, 1093, 1106, 1110, 1121, 1132, 1136, 1145, 1149, 1152, 1164, 1172, 1177, 1185, 1189, 1193, 1205, 1218, 1222, 1246, 1254, 1258, 1263, 1267, 1268, 1273, 1291, 1325] (by decide +kernel)
theorem w_ao : ∀ w ∈ zAO.map (fun C => Cond.arrayOver (.object C)), w ∈ lw_tbl := zplaces [208, 210, 212, 248, 314, 316] (by decide +kernel)
theorem w_pr : ∀ w ∈ [Cond.arrayClass .byte, .arrayClass .int, .arrayClass .boolean], w ∈ lw_tbl := zplaces [246, 247, 1500] (by decide +kernel)
theorem w_prim {s : State} {args : Array Value} {ty : FieldType} (hp : refKind ty = false) (h : (Cond.arrayClass ty).before args s = true) : ∃ cA : ClassId, ArrOfT s cA ty ∧ s.vm.findClass ("[" ++ ty.toString) = some cA := by
  obtain ⟨c, k, comp, h1, h2, h3⟩ := Cond.arrayClass_spec h
  exact ⟨c, fun n z => ⟨fun k h => (by cases h), k, h2, comp, h3⟩, h1⟩
theorem w_obj {s : State} {C : String} (h : va_AO C s) : ∃ cA : ClassId, ArrOfT s cA (.object C) ∧ va_RA s cA (.object C) := by
  obtain ⟨comp, c, k, h1, h2, h3, h4, h5⟩ := Cond.arrayOver_spec h
  exact ⟨c, fun n z => ⟨fun k h => (by cases h), k, h3, comp, h4⟩, k, comp, h3, h4, h1, h5⟩
theorem w_arr {s : State} {args : Array Value} (hts : ∀ w ∈ lw_tbl, w.before args s = true) (hao : ∀ C ∈ zAO, va_AO C s) : ∃ dA : Nat → Nat, ∀ (k : Nat) (q : ClassId × FieldType), (ztys dA)[k]? = some q → ArrOfT s q.1 q.2 ∧ va_RA s q.1 q.2 := by
  obtain ⟨a0, p0, q0⟩ := w_prim (ty := .byte) rfl (hts _ (w_pr _ List.mem_cons_self))
  obtain ⟨a1, p1, q1⟩ := w_prim (ty := .int) rfl (hts _ (w_pr _ (List.mem_cons_of_mem _ List.mem_cons_self)))
  obtain ⟨a2, p2, q2⟩ := w_prim (ty := .boolean) rfl (hts _ (w_pr _ (List.mem_cons_of_mem _ (List.mem_cons_of_mem _ List.mem_cons_self))))
  obtain ⟨a3, p3, q3⟩ := w_obj (hao "ReadAloud$Book" (by decide))
  obtain ⟨a4, p4, q4⟩ := w_obj (hao "ReadAloud$Year" (by decide))
  obtain ⟨a5, p5, q5⟩ := w_obj (hao "ReadAloud$Sight" (by decide))
  obtain ⟨a6, p6, q6⟩ := w_obj (hao "ReadAloud$Told" (by decide))
  obtain ⟨a7, p7, q7⟩ := w_obj (hao "ReadAloud$Readings" (by decide))
  obtain ⟨a8, p8, q8⟩ := w_obj (hao "ReadAloud$Walk" (by decide))
  refine ⟨fun k => match k with
    | 0 => a0
    | 1 => a1
    | 2 => a2
    | 3 => a3
    | 4 => a4
    | 5 => a5
    | 6 => a6
    | 7 => a7
    | _ => a8, ?_⟩
  intro k q hq
  match k, hq with
  | 0, hq => cases hq; exact ⟨p0, q0⟩
  | 1, hq => cases hq; exact ⟨p1, q1⟩
  | 2, hq => cases hq; exact ⟨p2, q2⟩
  | 3, hq => cases hq; exact ⟨p3, q3⟩
  | 4, hq => cases hq; exact ⟨p4, q4⟩
  | 5, hq => cases hq; exact ⟨p5, q5⟩
  | 6, hq => cases hq; exact ⟨p6, q6⟩
  | 7, hq => cases hq; exact ⟨p7, q7⟩
  | 8, hq => cases hq; exact ⟨p8, q8⟩
  | n + 9, hq => simp [ztys] at hq
theorem w_cls {s : State} {args : Array Value} (hts : ∀ w ∈ lw_tbl, w.before args s = true) : ∃ D : va_G, ∀ (k : Nat) (q : vw_C), zcls[k]? = some q → u_Kn s q.1 q.2.1 q.2.2 (D.1 k) (D.2 k) := by
  have h : ∀ k : Nat, ∃ ci : ClassId × (Nat → Nat), ∀ q : vw_C, zcls[k]? = some q → u_Kn s q.1 q.2.1 q.2.2 ci.1 ci.2 := by
    intro k
    have h2 : ∀ q : vw_C, zcls[k]? = some q → ∃ (cC : ClassId) (iS : Nat → Nat), u_Kn s q.1 q.2.1 q.2.2 cC iS := by
      intro q hq
      match k, hq with
      | 0, hq => cases hq; exact u_known (n := 7) hts (fun w hw => zuw_wd w (zuw_at (a := 0) (by decide) w hw)) (hts (.instantiable "ReadAloud$Book" 7) (List.mem_of_getElem? (i := 363) (by decide +kernel)))
      | 1, hq => cases hq; exact u_known (n := 7) hts (fun w hw => zuw_wd w (zuw_at (a := 1) (by decide) w hw)) (hts (.instantiable "ReadAloud$Course" 7) (List.mem_of_getElem? (i := 286) (by decide +kernel)))
      | 2, hq => cases hq; exact u_known (n := 10) hts (fun w hw => zuw_wd w (zuw_at (a := 2) (by decide) w hw)) (hts (.instantiable "ReadAloud$Levels" 10) (List.mem_of_getElem? (i := 1007) (by decide +kernel)))
      | 3, hq => cases hq; exact u_known (n := 4) hts (fun w hw => zuw_wd w (zuw_at (a := 3) (by decide) w hw)) (hts (.instantiable "ReadAloud$Readings" 4) (List.mem_of_getElem? (i := 793) (by decide +kernel)))
      | 4, hq => cases hq; exact u_known (n := 15) hts (fun w hw => zuw_wd w (zuw_at (a := 4) (by decide) w hw)) (hts (.instantiable "ReadAloud$Rings" 15) (List.mem_of_getElem? (i := 921) (by decide +kernel)))
      | 5, hq => cases hq; exact u_known (n := 3) hts (fun w hw => zuw_wd w (zuw_at (a := 5) (by decide) w hw)) (hts (.instantiable "ReadAloud$Sight" 3) (List.mem_of_getElem? (i := 609) (by decide +kernel)))
      | 6, hq => cases hq; exact u_known (n := 8) hts (fun w hw => zuw_wd w (zuw_at (a := 6) (by decide) w hw)) (hts (.instantiable "ReadAloud$Teller" 8) (List.mem_of_getElem? (i := 250) (by decide +kernel)))
      | 7, hq => cases hq; exact u_known (n := 8) hts (fun w hw => zuw_wd w (zuw_at (a := 7) (by decide) w hw)) (hts (.instantiable "ReadAloud$Told" 8) (List.mem_of_getElem? (i := 202) (by decide +kernel)))
      | 8, hq => cases hq; exact u_known (n := 5) hts (fun w hw => zuw_wd w (zuw_at (a := 8) (by decide) w hw)) (hts (.instantiable "ReadAloud$Walk" 5) (List.mem_of_getElem? (i := 824) (by decide +kernel)))
      | 9, hq => cases hq; exact u_known (n := 4) hts (fun w hw => zuw_wd w (zuw_at (a := 9) (by decide) w hw)) (hts (.instantiable "ReadAloud$Year" 4) (List.mem_of_getElem? (i := 585) (by decide +kernel)))
      | 10, hq => cases hq; exact u_known (n := 8) hts (fun w hw => zuw_wd w (zuw_at (a := 10) (by decide) w hw)) (hts (.instantiable "ReadAloud" 8) (List.mem_of_getElem? (i := 194) (by decide +kernel)))
      | 11, hq => cases hq; exact u_known (n := 52) hts (fun w hw => zuw_wd w (zuw_at (a := 11) (by decide) w hw)) (hts (.instantiable "ReadAloudModel" 52) (List.mem_of_getElem? (i := 1337) (by decide +kernel)))
      | n + 12, hq => simp [zcls] at hq
    cases hz : zcls[k]? with
    | none => exact ⟨(0, fun _ => 0), fun q hq => by cases hq⟩
    | some q =>
      obtain ⟨cC, iS, hu⟩ := h2 q hz
      exact ⟨(cC, iS), fun q' hq' => by cases hq'; exact hu⟩
  obtain ⟨f, hf⟩ := Classical.skolem.mp h
  exact ⟨(fun k => (f k).1, fun k => (f k).2), fun k q hq => hf k q hq⟩
set_option maxHeartbeats 4000000 in
theorem whole_start {p : Program} {e : Env} {s : State} {m : MethodId} {below : List Frame} {meth : Method} {c : Code} (l : Launch) (hflags : l.flags = flags0) {b L : Nat} {xs : Nat → Int32} (hL : L ≤ 7) (C0 : lw_At p s m meth c b L xs) : W p l e room_1 s m #[Value.ref b] below meth c s.heap [] 0 0 (lw_Z below #[Value.ref b] s) (entryFrame m ([Value.ref b] : List Value).toArray 4) := by
  obtain ⟨hx, hb, hr, hml, hown, hts, hX, hbl, hlocks, hgv⟩ := C0
  have hN : zN s := by
    refine ⟨fun t ht => va_Nw.of rfl (hts _ (w_nf _ (List.mem_map.mpr ⟨t, ht, rfl⟩))), fun t ht => va_Nw.of rfl (hts _ (w_nm _ (List.mem_map.mpr ⟨t, ht, rfl⟩))), fun C hC => va_AO.of (hts _ (w_ao _ (List.mem_map.mpr ⟨C, hC, rfl⟩)))⟩
  obtain ⟨D, hDk⟩ := w_cls hts
  obtain ⟨dA, hAk⟩ := w_arr hts hN.2.2
  have hK : va_K D zcls (ztys dA) s := ⟨hDk, hAk⟩
  have hwp : zwp (zCl zTab 12) 12 kL_law (some (L, xs)) zTab 600000 7302250 zLQ (0, zent 4 [.retAddr 0], [], [], 0, 0) := by
    intro R hR
    by_cases h7 : L = 7
    · subst h7
      exact l_head7 (zR hR)
    · exact l_headS (by omega) (zR hR)
  have hl := zentry (b := s.heap.size) (sc := b) (As := [.retAddr 0]) (lv_entry ([Value.ref b]) (n := 4) (Nat.le_of_ble_eq_true rfl))
  rw [lg_entry_eq]
  have key := hwp (zOK p l e room_1 s m #[Value.ref b] below meth c (lw_Z below #[Value.ref b] s) s.heap.size b D dA 4 0) ?_
  · exact key s.heap [] _ (fun k q h => by simp [zco] at h) va_S.rf hl rfl
  · rintro y ⟨P, hPR, hstep⟩
    have hM : kL_law ∈ zTab := List.mem_cons_self
    refine z_step (R := room_1) (M := kL_law) (tab := zTab) (d := 12) (mc := 600000) (ms := 7302250) (z0 := 0) hb hx hml hown (fun w hw => hts w (zt_wd w hw)) zt_gw hM zTab_ok hK hN (Nat.add_zero _).symm (fun h => absurd h (by decide)) ⟨Nat.le_of_ble_eq_true rfl, Nat.le_of_ble_eq_true rfl, Nat.le_refl _, Nat.le_refl _⟩ (z_snd zt_gw zTab_ok 12) (fun q h => ?_) ?_ hPR hstep
    · cases h
      exact ⟨hbl, hbl, hX⟩
    · intro i pc v w' H locs ls k n hd hzr hq hfin hP1 hS1 hlen1
      have hv : v = some (.int 1) := hq
      subst hv
      cases i with
      | ireturn =>
        refine va_forget (fun q hq => hS1.2.2 q hq) ?_
        refine W.widen hfin.1 hfin.2 ?_
        exact lw_ret hx hb hr hlocks hd
      | lreturn => obtain ⟨x, hx2, -⟩ := hzr; cases hx2
      | areturn => rcases hzr with ⟨hx2, -⟩ | ⟨q, hx2, -⟩ <;> cases hx2
      | return_ => cases hzr.1
      | _ => exact hzr.elim
-- ===== YOUR PART ENDS =====
set_option maxHeartbeats 4000000 in
theorem lw_walk (l : Launch) (hflags : l.flags = flags0) (b : Addr) (xs : List Int32) : MetFree l x (headSpec (Jvm.Cond.code x code maxLocals ret :: tables_1) room_1) (lw_P b xs) (fun _ _ _ _ _ => True) lw_Q := by
  refine MetFree.of_bodyS (code := code) (maxLocals := maxLocals) (ret := ret) (by decide) ?_ ?_
  · intro args s m h hn
    obtain ⟨meth, c, h1, h2, h3, h4, h5, h6, -, -⟩ := Cond.code_spec hn (atoms_spec (ws := Jvm.Cond.code x code maxLocals ret :: tables_1) h _ List.mem_cons_self)
    exact ⟨meth, c, h1, h2, h3, h4, h5, h6⟩
  · intro p e s m args below meth c s₁ B hml0 hP _
    obtain ⟨rfl, hx, hbd, hgv⟩ := hP
    obtain ⟨scr, harrAt, hlist, hof, hsmall⟩ := hx
    obtain ⟨hcb, hkn, -, -⟩ := State.arrayAt?_spec harrAt
    have hown : s.vm.findClass R_law = some m.cls := findClass_of_methodNamed B.named
    have hts0 : ∀ c ∈ (Jvm.Cond.code x code maxLocals ret :: tables_1), c.before #[Value.ref b] s = true := atoms_spec (ws := Jvm.Cond.code x code maxLocals ret :: tables_1) B.pre
    have hts : ∀ w ∈ lw_tbl, w.before #[Value.ref b] s = true := k2_hts_sels lw_privs (fun w hw => hts0 w (List.mem_cons_of_mem _ hw)) lw_privs_ok
    have hml : c.maxLocals = 4 := B.maxLocals_eq (hts0 _ List.mem_cons_self)
    have X₀ : Stand p l e room_1 s m #[Value.ref b] below meth c s₁ [] 0 0 := Stand.of_body B
    have hh0 : s₁.heap = s.heap := by rw [B.state]; rfl
    have hsz : scr.slots.size = xs.length := by rw [← Array.length_toList, hlist, List.length_map]
    have hval : ∀ j : Nat, j < xs.length → scr.slots[j]? = some (.int (xs.getD j 0)) := fun j hj => by
      rw [← Array.getElem?_toList, hlist]
      simp [hj]
    have hbl : b < s.heap.size := (Array.getElem?_eq_some_iff.mp hcb).1
    have hX : va_X b xs.length (fun j => xs.getD j 0) s s.heap := ⟨scr, hcb, hof, hkn, hsz, hval⟩
    have K : W p l e room_1 s m #[Value.ref b] below meth c s₁.heap [] 0 0 (lw_Z below #[Value.ref b] s) (entryFrame m ([Value.ref b] : List Value).toArray 4) := by
      rw [hh0]
      exact whole_start l hflags hbd ⟨B.exec, B.bytes, B.returns, hml, hown, hts, hX, hbl, B.notSynchronized, hgv⟩
    obtain ⟨t, a1, o, b1, b2, b3⟩ := K s₁ rfl X₀
    exact ⟨t, o, a1, b1, b2, b3⟩
theorem lw_pre_spec {args : Array Value} {s : State} (h : (Jvm.Cond.and given_1 narrow_1).before args s = true) (hr : rest_1_c.before args s = true) : ∃ (b : Addr) (xs : List Int32), lw_P b xs args s := by
  have hs := flat_of_before _ h
  have hq := flat_of_before _ hr
  have hc : (Cond.count 1).before args s = true := hs _ (by decide +kernel)
  have harr : (Cond.arrayOf (.arg 0) .int).before args s = true := hs _ (by decide +kernel)
  have hle : (Cond.le (.length (.arg 0)) (.int 7)).before args s = true := hs _ (by decide +kernel)
  have hlen : (Cond.isInt (.length (.arg 0))).before args s = true := hq _ (by decide +kernel)
  have hall : (Cond.all (.arg 0) (.isInt (.elem (.arg 0) (.index 0)))).before args s = true := hq _ (by decide +kernel)
  obtain ⟨b, xs, hb, hx⟩ := State.ints_of_pre rfl harr hlen hall
  have hsm : xs.length < 2 ^ 31 := hx.choose_spec.2.2.2
  have hev : (Term.length (.arg 0)).eval args s none [] s = some (.int xs.length.toInt32) := hx.length_eval hb
  have hv := Cond.le_ints hev (show (Term.int 7).eval args s none [] s = some (.int 7) from rfl)
  have hd : xs.length.toInt32 ≤ 7 := by
    simpa [Cond.before, Cond.holds, hv] using hle
  have hN : xs.length ≤ 7 := (Int32.ofNat_le_ofNat hsm (by decide)).mp (show Int32.ofNat xs.length ≤ Int32.ofNat 7 from hd)
  exact ⟨b, xs, Cond.one_arg hc (show args[0]? = some (.ref b) from hb), hx, hN, h⟩
theorem lw_comes (l : Launch) (hflags : l.flags = flags0) : Comes l x (Jvm.Cond.code x code maxLocals ret :: tables_1) room_1 (fun tb e args s => Calls_1 tb e args s ∧ rest_1 tb e args s ∧ Pre_1 tb e args s)
    (fun _ _ args s o t => lw_Q args s o t) := by
  intro p e ha hc hk s m args below hf hfit hheap happ hpre
  obtain ⟨b, xs, hP⟩ := lw_pre_spec hpre.2.2 hpre.2.1
  obtain ⟨k, o, h1, h2, h3, hQ⟩ := lw_walk l hflags b xs p e ha hc hk s m args below hf ((Spec.applies_iff_loose hf).mp happ).1 hP trivial
  exact ⟨k, o, h1, h2, h3, hQ⟩
theorem lw_frame {s t : State} {o : Outcome} {args : Array Value} (h : Framed s o t [] 600000 7302250) :
    Framed s o t (fieldLocs frame_1_writes args s ++ arrayLocs frame_1_arrays args s ++ staticLocs frame_1_statics s) 600000 7302250 := h
theorem lw_limb (L : Cond) (hL : ∀ (args : Array Value) (s t : State), L.after args s (.returned (some (.int 1))) t = true) :
    ArmFor flags0 classFile x code maxLocals ret World_1 tables_1 room_1 Calls_1 rest_1 Pre_1
      (fun tb e a s o t => postC L tb e a s o t ∧ Framed s o t (fieldLocs frame_1_writes a s ++ arrayLocs frame_1_arrays a s ++ staticLocs frame_1_statics s) 600000 7302250) := by
  intro l hflags _ _ p e ha hc hk s m args below hf hfit hheap happ hpre
  obtain ⟨k, o, h1, h2, h3, rfl, hF⟩ := lw_comes l hflags p e ha hc hk s m args below hf hfit hheap happ hpre
  exact ⟨k, _, h1, h2, h3, hL args s _, lw_frame hF⟩
theorem i_vc : Claimed_1_1 ∧ Claimed_1_2 := ⟨lw_limb limb_1_1 (fun args s t => by simp [limb_1_1, Cond.after, Cond.holds, Cond.value]), lw_limb limb_1_2 (fun args s t => Cond.after_iff.mpr (by
  first | (rw [show limb_1_2 = Cond.eq .result (.int 1) from rfl, Cond.eq_ints (x := 1) (y := 1) rfl rfl]; simp; done) | (simp [limb_1_2, Cond.value, Term.eval]; done)))⟩
end
