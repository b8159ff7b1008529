section
-- ===== PART A: goes FIRST, ahead of the names: the tables' words, and 'selects' of the private methods out of them =====
/-- a private method of a class that the tables say can be made, by its rows of tables_1 -/
def lw_okq (q : MethodName × Nat) : Prop := (q.1.cls ≠ "java/lang/invoke/MethodHandle" ∧ q.1.cls ≠ "java/lang/invoke/VarHandle") ∧ Cond.instantiable q.1.cls q.2 ∈ tables_1 ∧ Cond.privateMethod q.1 ∈ tables_1 ∧ Cond.instanceMethod q.1 ∈ tables_1
theorem lw_p0 : lw_okq (⟨"ReadAloud$Told", "putBytes", "(I)V"⟩, 8) := ⟨⟨by decide +kernel, by decide +kernel⟩, List.mem_of_getElem? (i := 31) (by decide +kernel), List.mem_of_getElem? (i := 176) (by decide +kernel), List.mem_of_getElem? (i := 177) (by decide +kernel)⟩
theorem lw_p1 : lw_okq (⟨"ReadAloud", "tellInto", "(III)Z"⟩, 8) := ⟨⟨by decide +kernel, by decide +kernel⟩, List.mem_of_getElem? (i := 23) (by decide +kernel), List.mem_of_getElem? (i := 188) (by decide +kernel), List.mem_of_getElem? (i := 189) (by decide +kernel)⟩
theorem lw_p2 : lw_okq (⟨"ReadAloud$Teller", "tell", "([BILReadAloud$Lines;)Z"⟩, 8) := ⟨⟨by decide +kernel, by decide +kernel⟩, List.mem_of_getElem? (i := 79) (by decide +kernel), List.mem_of_getElem? (i := 231) (by decide +kernel), List.mem_of_getElem? (i := 232) (by decide +kernel)⟩
theorem lw_p3 : lw_okq (⟨"ReadAloud$Teller", "advance", "()V"⟩, 8) := ⟨⟨by decide +kernel, by decide +kernel⟩, List.mem_of_getElem? (i := 79) (by decide +kernel), List.mem_of_getElem? (i := 235) (by decide +kernel), List.mem_of_getElem? (i := 236) (by decide +kernel)⟩
theorem lw_p4 : lw_okq (⟨"ReadAloud$Teller", "isLetter", "(I)Z"⟩, 8) := ⟨⟨by decide +kernel, by decide +kernel⟩, List.mem_of_getElem? (i := 79) (by decide +kernel), List.mem_of_getElem? (i := 239) (by decide +kernel), List.mem_of_getElem? (i := 240) (by decide +kernel)⟩
theorem lw_p5 : lw_okq (⟨"ReadAloud$Teller", "isDigit", "(I)Z"⟩, 8) := ⟨⟨by decide +kernel, by decide +kernel⟩, List.mem_of_getElem? (i := 79) (by decide +kernel), List.mem_of_getElem? (i := 243) (by decide +kernel), List.mem_of_getElem? (i := 244) (by decide +kernel)⟩
theorem lw_p6 : lw_okq (⟨"ReadAloud$Teller", "advanceDigits", "()V"⟩, 8) := ⟨⟨by decide +kernel, by decide +kernel⟩, List.mem_of_getElem? (i := 79) (by decide +kernel), List.mem_of_getElem? (i := 247) (by decide +kernel), List.mem_of_getElem? (i := 248) (by decide +kernel)⟩
theorem lw_p7 : lw_okq (⟨"ReadAloud$Teller", "tellLine", "(LReadAloud$Lines;)Z"⟩, 8) := ⟨⟨by decide +kernel, by decide +kernel⟩, List.mem_of_getElem? (i := 79) (by decide +kernel), List.mem_of_getElem? (i := 251) (by decide +kernel), List.mem_of_getElem? (i := 252) (by decide +kernel)⟩
theorem lw_p8 : lw_okq (⟨"ReadAloud$Teller", "isAtHand", "(Ljava/lang/String;)Z"⟩, 8) := ⟨⟨by decide +kernel, by decide +kernel⟩, List.mem_of_getElem? (i := 79) (by decide +kernel), List.mem_of_getElem? (i := 262) (by decide +kernel), List.mem_of_getElem? (i := 263) (by decide +kernel)⟩
theorem lw_p9 : lw_okq (⟨"ReadAloud$Teller", "faultHere", "(I)V"⟩, 8) := ⟨⟨by decide +kernel, by decide +kernel⟩, List.mem_of_getElem? (i := 79) (by decide +kernel), List.mem_of_getElem? (i := 342) (by decide +kernel), List.mem_of_getElem? (i := 343) (by decide +kernel)⟩
theorem lw_p10 : lw_okq (⟨"ReadAloud$Book", "beginStep", "(ILReadAloud$Teller;)V"⟩, 7) := ⟨⟨by decide +kernel, by decide +kernel⟩, List.mem_of_getElem? (i := 192) (by decide +kernel), List.mem_of_getElem? (i := 346) (by decide +kernel), List.mem_of_getElem? (i := 347) (by decide +kernel)⟩
theorem lw_p11 : lw_okq (⟨"ReadAloud$Teller", "isWithin", "(II)Z"⟩, 8) := ⟨⟨by decide +kernel, by decide +kernel⟩, List.mem_of_getElem? (i := 79) (by decide +kernel), List.mem_of_getElem? (i := 376) (by decide +kernel), List.mem_of_getElem? (i := 377) (by decide +kernel)⟩
theorem lw_p12 : lw_okq (⟨"ReadAloud$Book", "keepNumber", "(III)V"⟩, 7) := ⟨⟨by decide +kernel, by decide +kernel⟩, List.mem_of_getElem? (i := 192) (by decide +kernel), List.mem_of_getElem? (i := 381) (by decide +kernel), List.mem_of_getElem? (i := 382) (by decide +kernel)⟩
theorem lw_p13 : lw_okq (⟨"ReadAloud", "bookAt", "(I)LReadAloud$Book;"⟩, 8) := ⟨⟨by decide +kernel, by decide +kernel⟩, List.mem_of_getElem? (i := 23) (by decide +kernel), List.mem_of_getElem? (i := 468) (by decide +kernel), List.mem_of_getElem? (i := 469) (by decide +kernel)⟩
theorem lw_p14 : lw_okq (⟨"ReadAloud$Book", "tells", "(I)I"⟩, 7) := ⟨⟨by decide +kernel, by decide +kernel⟩, List.mem_of_getElem? (i := 192) (by decide +kernel), List.mem_of_getElem? (i := 472) (by decide +kernel), List.mem_of_getElem? (i := 473) (by decide +kernel)⟩
theorem lw_p15 : lw_okq (⟨"ReadAloud$Book", "tellsStep", "(II)I"⟩, 7) := ⟨⟨by decide +kernel, by decide +kernel⟩, List.mem_of_getElem? (i := 192) (by decide +kernel), List.mem_of_getElem? (i := 476) (by decide +kernel), List.mem_of_getElem? (i := 477) (by decide +kernel)⟩
def lw_privs_1 : List (MethodName × Nat) := [(⟨"ReadAloud$Told", "putBytes", "(I)V"⟩, 8), (⟨"ReadAloud", "tellInto", "(III)Z"⟩, 8), (⟨"ReadAloud$Teller", "tell", "([BILReadAloud$Lines;)Z"⟩, 8), (⟨"ReadAloud$Teller", "advance", "()V"⟩, 8), (⟨"ReadAloud$Teller", "isLetter", "(I)Z"⟩, 8), (⟨"ReadAloud$Teller", "isDigit", "(I)Z"⟩, 8), (⟨"ReadAloud$Teller", "advanceDigits", "()V"⟩, 8), (⟨"ReadAloud$Teller", "tellLine", "(LReadAloud$Lines;)Z"⟩, 8), (⟨"ReadAloud$Teller", "isAtHand", "(Ljava/lang/String;)Z"⟩, 8), (⟨"ReadAloud$Teller", "faultHere", "(I)V"⟩, 8), (⟨"ReadAloud$Book", "beginStep", "(ILReadAloud$Teller;)V"⟩, 7), (⟨"ReadAloud$Teller", "isWithin", "(II)Z"⟩, 8), (⟨"ReadAloud$Book", "keepNumber", "(III)V"⟩, 7), (⟨"ReadAloud", "bookAt", "(I)LReadAloud$Book;"⟩, 8), (⟨"ReadAloud$Book", "tells", "(I)I"⟩, 7), (⟨"ReadAloud$Book", "tellsStep", "(II)I"⟩, 7)]
theorem lw_r1 : ∀ q ∈ lw_privs_1, lw_okq q := List.forall_mem_cons.mpr ⟨lw_p0, List.forall_mem_cons.mpr ⟨lw_p1, List.forall_mem_cons.mpr ⟨lw_p2, List.forall_mem_cons.mpr ⟨lw_p3, List.forall_mem_cons.mpr ⟨lw_p4, List.forall_mem_cons.mpr ⟨lw_p5, List.forall_mem_cons.mpr ⟨lw_p6, List.forall_mem_cons.mpr ⟨lw_p7, List.forall_mem_cons.mpr ⟨lw_p8, List.forall_mem_cons.mpr ⟨lw_p9, List.forall_mem_cons.mpr ⟨lw_p10, List.forall_mem_cons.mpr ⟨lw_p11, List.forall_mem_cons.mpr ⟨lw_p12, List.forall_mem_cons.mpr ⟨lw_p13, List.forall_mem_cons.mpr ⟨lw_p14, List.forall_mem_cons.mpr ⟨lw_p15, fun _ h => absurd h List.not_mem_nil⟩⟩⟩⟩⟩⟩⟩⟩⟩⟩⟩⟩⟩⟩⟩⟩
theorem lw_p16 : lw_okq (⟨"ReadAloud$Book", "hasReader", "(I)Z"⟩, 7) := ⟨⟨by decide +kernel, by decide +kernel⟩, List.mem_of_getElem? (i := 192) (by decide +kernel), List.mem_of_getElem? (i := 480) (by decide +kernel), List.mem_of_getElem? (i := 481) (by decide +kernel)⟩
theorem lw_p17 : lw_okq (⟨"ReadAloud$Book", "readBy", "(II)I"⟩, 7) := ⟨⟨by decide +kernel, by decide +kernel⟩, List.mem_of_getElem? (i := 192) (by decide +kernel), List.mem_of_getElem? (i := 518) (by decide +kernel), List.mem_of_getElem? (i := 519) (by decide +kernel)⟩
theorem lw_p18 : lw_okq (⟨"ReadAloud$Book", "stepOn", "(III)I"⟩, 7) := ⟨⟨by decide +kernel, by decide +kernel⟩, List.mem_of_getElem? (i := 192) (by decide +kernel), List.mem_of_getElem? (i := 523) (by decide +kernel), List.mem_of_getElem? (i := 524) (by decide +kernel)⟩
theorem lw_p19 : lw_okq (⟨"ReadAloud$Book", "shifted", "(III)I"⟩, 7) := ⟨⟨by decide +kernel, by decide +kernel⟩, List.mem_of_getElem? (i := 192) (by decide +kernel), List.mem_of_getElem? (i := 530) (by decide +kernel), List.mem_of_getElem? (i := 531) (by decide +kernel)⟩
theorem lw_p20 : lw_okq (⟨"ReadAloud", "yearAt", "(I)LReadAloud$Year;"⟩, 8) := ⟨⟨by decide +kernel, by decide +kernel⟩, List.mem_of_getElem? (i := 23) (by decide +kernel), List.mem_of_getElem? (i := 554) (by decide +kernel), List.mem_of_getElem? (i := 555) (by decide +kernel)⟩
theorem lw_p21 : lw_okq (⟨"ReadAloud$Year", "tells", "(II)I"⟩, 4) := ⟨⟨by decide +kernel, by decide +kernel⟩, List.mem_of_getElem? (i := 414) (by decide +kernel), List.mem_of_getElem? (i := 558) (by decide +kernel), List.mem_of_getElem? (i := 559) (by decide +kernel)⟩
theorem lw_p22 : lw_okq (⟨"ReadAloud$Course", "begin", "(LReadAloud$Book;)V"⟩, 7) := ⟨⟨by decide +kernel, by decide +kernel⟩, List.mem_of_getElem? (i := 115) (by decide +kernel), List.mem_of_getElem? (i := 566) (by decide +kernel), List.mem_of_getElem? (i := 567) (by decide +kernel)⟩
theorem lw_p23 : lw_okq (⟨"ReadAloud$Course", "doFirst", "(LReadAloud$Year;I)I"⟩, 7) := ⟨⟨by decide +kernel, by decide +kernel⟩, List.mem_of_getElem? (i := 115) (by decide +kernel), List.mem_of_getElem? (i := 573) (by decide +kernel), List.mem_of_getElem? (i := 574) (by decide +kernel)⟩
theorem lw_p24 : lw_okq (⟨"ReadAloud$Course", "doDeed", "(III)Z"⟩, 7) := ⟨⟨by decide +kernel, by decide +kernel⟩, List.mem_of_getElem? (i := 115) (by decide +kernel), List.mem_of_getElem? (i := 577) (by decide +kernel), List.mem_of_getElem? (i := 578) (by decide +kernel)⟩
theorem lw_p25 : lw_okq (⟨"ReadAloud$Course", "doRead", "(II)Z"⟩, 7) := ⟨⟨by decide +kernel, by decide +kernel⟩, List.mem_of_getElem? (i := 115) (by decide +kernel), List.mem_of_getElem? (i := 581) (by decide +kernel), List.mem_of_getElem? (i := 582) (by decide +kernel)⟩
theorem lw_p26 : lw_okq (⟨"ReadAloud$Course", "doCopy", "(II)Z"⟩, 7) := ⟨⟨by decide +kernel, by decide +kernel⟩, List.mem_of_getElem? (i := 115) (by decide +kernel), List.mem_of_getElem? (i := 590) (by decide +kernel), List.mem_of_getElem? (i := 591) (by decide +kernel)⟩
theorem lw_p27 : lw_okq (⟨"ReadAloud$Course", "tells", "(I)I"⟩, 7) := ⟨⟨by decide +kernel, by decide +kernel⟩, List.mem_of_getElem? (i := 115) (by decide +kernel), List.mem_of_getElem? (i := 598) (by decide +kernel), List.mem_of_getElem? (i := 599) (by decide +kernel)⟩
theorem lw_p28 : lw_okq (⟨"ReadAloud$Course", "suits", "()I"⟩, 7) := ⟨⟨by decide +kernel, by decide +kernel⟩, List.mem_of_getElem? (i := 115) (by decide +kernel), List.mem_of_getElem? (i := 602) (by decide +kernel), List.mem_of_getElem? (i := 603) (by decide +kernel)⟩
theorem lw_p29 : lw_okq (⟨"ReadAloud$Course", "against", "()I"⟩, 7) := ⟨⟨by decide +kernel, by decide +kernel⟩, List.mem_of_getElem? (i := 115) (by decide +kernel), List.mem_of_getElem? (i := 606) (by decide +kernel), List.mem_of_getElem? (i := 607) (by decide +kernel)⟩
theorem lw_p30 : lw_okq (⟨"ReadAloud$Course", "driftOfCopy", "(I)I"⟩, 7) := ⟨⟨by decide +kernel, by decide +kernel⟩, List.mem_of_getElem? (i := 115) (by decide +kernel), List.mem_of_getElem? (i := 610) (by decide +kernel), List.mem_of_getElem? (i := 611) (by decide +kernel)⟩
theorem lw_p31 : lw_okq (⟨"ReadAloud", "readingsAt", "(I)LReadAloud$Readings;"⟩, 8) := ⟨⟨by decide +kernel, by decide +kernel⟩, List.mem_of_getElem? (i := 23) (by decide +kernel), List.mem_of_getElem? (i := 619) (by decide +kernel), List.mem_of_getElem? (i := 620) (by decide +kernel)⟩
def lw_privs_2 : List (MethodName × Nat) := [(⟨"ReadAloud$Book", "hasReader", "(I)Z"⟩, 7), (⟨"ReadAloud$Book", "readBy", "(II)I"⟩, 7), (⟨"ReadAloud$Book", "stepOn", "(III)I"⟩, 7), (⟨"ReadAloud$Book", "shifted", "(III)I"⟩, 7), (⟨"ReadAloud", "yearAt", "(I)LReadAloud$Year;"⟩, 8), (⟨"ReadAloud$Year", "tells", "(II)I"⟩, 4), (⟨"ReadAloud$Course", "begin", "(LReadAloud$Book;)V"⟩, 7), (⟨"ReadAloud$Course", "doFirst", "(LReadAloud$Year;I)I"⟩, 7), (⟨"ReadAloud$Course", "doDeed", "(III)Z"⟩, 7), (⟨"ReadAloud$Course", "doRead", "(II)Z"⟩, 7), (⟨"ReadAloud$Course", "doCopy", "(II)Z"⟩, 7), (⟨"ReadAloud$Course", "tells", "(I)I"⟩, 7), (⟨"ReadAloud$Course", "suits", "()I"⟩, 7), (⟨"ReadAloud$Course", "against", "()I"⟩, 7), (⟨"ReadAloud$Course", "driftOfCopy", "(I)I"⟩, 7), (⟨"ReadAloud", "readingsAt", "(I)LReadAloud$Readings;"⟩, 8)]
theorem lw_r2 : ∀ q ∈ lw_privs_2, lw_okq q := List.forall_mem_cons.mpr ⟨lw_p16, List.forall_mem_cons.mpr ⟨lw_p17, List.forall_mem_cons.mpr ⟨lw_p18, List.forall_mem_cons.mpr ⟨lw_p19, List.forall_mem_cons.mpr ⟨lw_p20, List.forall_mem_cons.mpr ⟨lw_p21, List.forall_mem_cons.mpr ⟨lw_p22, List.forall_mem_cons.mpr ⟨lw_p23, List.forall_mem_cons.mpr ⟨lw_p24, List.forall_mem_cons.mpr ⟨lw_p25, List.forall_mem_cons.mpr ⟨lw_p26, List.forall_mem_cons.mpr ⟨lw_p27, List.forall_mem_cons.mpr ⟨lw_p28, List.forall_mem_cons.mpr ⟨lw_p29, List.forall_mem_cons.mpr ⟨lw_p30, List.forall_mem_cons.mpr ⟨lw_p31, fun _ h => absurd h List.not_mem_nil⟩⟩⟩⟩⟩⟩⟩⟩⟩⟩⟩⟩⟩⟩⟩⟩
theorem lw_p32 : lw_okq (⟨"ReadAloud$Readings", "takeUp", "(LReadAloud$Book;)V"⟩, 4) := ⟨⟨by decide +kernel, by decide +kernel⟩, List.mem_of_getElem? (i := 622) (by decide +kernel), List.mem_of_getElem? (i := 645) (by decide +kernel), List.mem_of_getElem? (i := 646) (by decide +kernel)⟩
theorem lw_p33 : lw_okq (⟨"ReadAloud", "walkAt", "(I)LReadAloud$Walk;"⟩, 8) := ⟨⟨by decide +kernel, by decide +kernel⟩, List.mem_of_getElem? (i := 23) (by decide +kernel), List.mem_of_getElem? (i := 650) (by decide +kernel), List.mem_of_getElem? (i := 651) (by decide +kernel)⟩
theorem lw_p34 : lw_okq (⟨"ReadAloud$Readings", "all", "()I"⟩, 4) := ⟨⟨by decide +kernel, by decide +kernel⟩, List.mem_of_getElem? (i := 622) (by decide +kernel), List.mem_of_getElem? (i := 678) (by decide +kernel), List.mem_of_getElem? (i := 679) (by decide +kernel)⟩
theorem lw_p35 : lw_okq (⟨"ReadAloud$Walk", "go", "(LReadAloud$Readings;III)V"⟩, 5) := ⟨⟨by decide +kernel, by decide +kernel⟩, List.mem_of_getElem? (i := 653) (by decide +kernel), List.mem_of_getElem? (i := 682) (by decide +kernel), List.mem_of_getElem? (i := 683) (by decide +kernel)⟩
theorem lw_p36 : lw_okq (⟨"ReadAloud$Walk", "comeTo", "(IIII)V"⟩, 5) := ⟨⟨by decide +kernel, by decide +kernel⟩, List.mem_of_getElem? (i := 653) (by decide +kernel), List.mem_of_getElem? (i := 686) (by decide +kernel), List.mem_of_getElem? (i := 687) (by decide +kernel)⟩
theorem lw_p37 : lw_okq (⟨"ReadAloud$Readings", "after", "(II)I"⟩, 4) := ⟨⟨by decide +kernel, by decide +kernel⟩, List.mem_of_getElem? (i := 622) (by decide +kernel), List.mem_of_getElem? (i := 691) (by decide +kernel), List.mem_of_getElem? (i := 692) (by decide +kernel)⟩
theorem lw_p38 : lw_okq (⟨"ReadAloud$Walk", "readerOnWay", "(II)I"⟩, 5) := ⟨⟨by decide +kernel, by decide +kernel⟩, List.mem_of_getElem? (i := 653) (by decide +kernel), List.mem_of_getElem? (i := 696) (by decide +kernel), List.mem_of_getElem? (i := 697) (by decide +kernel)⟩
theorem lw_p39 : lw_okq (⟨"ReadAloud$Walk", "wayBack", "(LReadAloud$Readings;I)I"⟩, 5) := ⟨⟨by decide +kernel, by decide +kernel⟩, List.mem_of_getElem? (i := 653) (by decide +kernel), List.mem_of_getElem? (i := 704) (by decide +kernel), List.mem_of_getElem? (i := 705) (by decide +kernel)⟩
theorem lw_p40 : lw_okq (⟨"ReadAloud$Walk", "farthest", "()I"⟩, 5) := ⟨⟨by decide +kernel, by decide +kernel⟩, List.mem_of_getElem? (i := 653) (by decide +kernel), List.mem_of_getElem? (i := 712) (by decide +kernel), List.mem_of_getElem? (i := 713) (by decide +kernel)⟩
theorem lw_p41 : lw_okq (⟨"ReadAloud$Book", "hasReaders", "(I)Z"⟩, 7) := ⟨⟨by decide +kernel, by decide +kernel⟩, List.mem_of_getElem? (i := 192) (by decide +kernel), List.mem_of_getElem? (i := 720) (by decide +kernel), List.mem_of_getElem? (i := 721) (by decide +kernel)⟩
theorem lw_p42 : lw_okq (⟨"ReadAloud$Readings", "unchangedBy", "(I)I"⟩, 4) := ⟨⟨by decide +kernel, by decide +kernel⟩, List.mem_of_getElem? (i := 622) (by decide +kernel), List.mem_of_getElem? (i := 724) (by decide +kernel), List.mem_of_getElem? (i := 725) (by decide +kernel)⟩
theorem lw_p43 : lw_okq (⟨"ReadAloud$Readings", "isChanged", "(II)Z"⟩, 4) := ⟨⟨by decide +kernel, by decide +kernel⟩, List.mem_of_getElem? (i := 622) (by decide +kernel), List.mem_of_getElem? (i := 728) (by decide +kernel), List.mem_of_getElem? (i := 729) (by decide +kernel)⟩
theorem lw_p44 : lw_okq (⟨"ReadAloud$Readings", "alikeEitherWay", "(II)I"⟩, 4) := ⟨⟨by decide +kernel, by decide +kernel⟩, List.mem_of_getElem? (i := 622) (by decide +kernel), List.mem_of_getElem? (i := 738) (by decide +kernel), List.mem_of_getElem? (i := 739) (by decide +kernel)⟩
theorem lw_p45 : lw_okq (⟨"ReadAloud", "ringsThere", "()LReadAloud$Rings;"⟩, 8) := ⟨⟨by decide +kernel, by decide +kernel⟩, List.mem_of_getElem? (i := 23) (by decide +kernel), List.mem_of_getElem? (i := 746) (by decide +kernel), List.mem_of_getElem? (i := 747) (by decide +kernel)⟩
theorem lw_p46 : lw_okq (⟨"ReadAloud$Rings", "findOrbits", "(LReadAloud$Readings;I)V"⟩, 15) := ⟨⟨by decide +kernel, by decide +kernel⟩, List.mem_of_getElem? (i := 750) (by decide +kernel), List.mem_of_getElem? (i := 806) (by decide +kernel), List.mem_of_getElem? (i := 807) (by decide +kernel)⟩
theorem lw_p47 : lw_okq (⟨"ReadAloud$Rings", "putThoseOfNone", "()I"⟩, 15) := ⟨⟨by decide +kernel, by decide +kernel⟩, List.mem_of_getElem? (i := 750) (by decide +kernel), List.mem_of_getElem? (i := 812) (by decide +kernel), List.mem_of_getElem? (i := 813) (by decide +kernel)⟩
def lw_privs_3 : List (MethodName × Nat) := [(⟨"ReadAloud$Readings", "takeUp", "(LReadAloud$Book;)V"⟩, 4), (⟨"ReadAloud", "walkAt", "(I)LReadAloud$Walk;"⟩, 8), (⟨"ReadAloud$Readings", "all", "()I"⟩, 4), (⟨"ReadAloud$Walk", "go", "(LReadAloud$Readings;III)V"⟩, 5), (⟨"ReadAloud$Walk", "comeTo", "(IIII)V"⟩, 5), (⟨"ReadAloud$Readings", "after", "(II)I"⟩, 4), (⟨"ReadAloud$Walk", "readerOnWay", "(II)I"⟩, 5), (⟨"ReadAloud$Walk", "wayBack", "(LReadAloud$Readings;I)I"⟩, 5), (⟨"ReadAloud$Walk", "farthest", "()I"⟩, 5), (⟨"ReadAloud$Book", "hasReaders", "(I)Z"⟩, 7), (⟨"ReadAloud$Readings", "unchangedBy", "(I)I"⟩, 4), (⟨"ReadAloud$Readings", "isChanged", "(II)Z"⟩, 4), (⟨"ReadAloud$Readings", "alikeEitherWay", "(II)I"⟩, 4), (⟨"ReadAloud", "ringsThere", "()LReadAloud$Rings;"⟩, 8), (⟨"ReadAloud$Rings", "findOrbits", "(LReadAloud$Readings;I)V"⟩, 15), (⟨"ReadAloud$Rings", "putThoseOfNone", "()I"⟩, 15)]
theorem lw_r3 : ∀ q ∈ lw_privs_3, lw_okq q := List.forall_mem_cons.mpr ⟨lw_p32, List.forall_mem_cons.mpr ⟨lw_p33, List.forall_mem_cons.mpr ⟨lw_p34, List.forall_mem_cons.mpr ⟨lw_p35, List.forall_mem_cons.mpr ⟨lw_p36, List.forall_mem_cons.mpr ⟨lw_p37, List.forall_mem_cons.mpr ⟨lw_p38, List.forall_mem_cons.mpr ⟨lw_p39, List.forall_mem_cons.mpr ⟨lw_p40, List.forall_mem_cons.mpr ⟨lw_p41, List.forall_mem_cons.mpr ⟨lw_p42, List.forall_mem_cons.mpr ⟨lw_p43, List.forall_mem_cons.mpr ⟨lw_p44, List.forall_mem_cons.mpr ⟨lw_p45, List.forall_mem_cons.mpr ⟨lw_p46, List.forall_mem_cons.mpr ⟨lw_p47, fun _ h => absurd h List.not_mem_nil⟩⟩⟩⟩⟩⟩⟩⟩⟩⟩⟩⟩⟩⟩⟩⟩
theorem lw_p48 : lw_okq (⟨"ReadAloud$Rings", "takeOutside", "(LReadAloud$Readings;II)I"⟩, 15) := ⟨⟨by decide +kernel, by decide +kernel⟩, List.mem_of_getElem? (i := 750) (by decide +kernel), List.mem_of_getElem? (i := 816) (by decide +kernel), List.mem_of_getElem? (i := 817) (by decide +kernel)⟩
theorem lw_p49 : lw_okq (⟨"ReadAloud$Rings", "goRound", "(LReadAloud$Readings;II)I"⟩, 15) := ⟨⟨by decide +kernel, by decide +kernel⟩, List.mem_of_getElem? (i := 750) (by decide +kernel), List.mem_of_getElem? (i := 821) (by decide +kernel), List.mem_of_getElem? (i := 822) (by decide +kernel)⟩
theorem lw_p50 : lw_okq (⟨"ReadAloud", "levelsThere", "()LReadAloud$Levels;"⟩, 8) := ⟨⟨by decide +kernel, by decide +kernel⟩, List.mem_of_getElem? (i := 23) (by decide +kernel), List.mem_of_getElem? (i := 832) (by decide +kernel), List.mem_of_getElem? (i := 833) (by decide +kernel)⟩
theorem lw_p51 : lw_okq (⟨"ReadAloud$Levels", "wantNothing", "()V"⟩, 10) := ⟨⟨by decide +kernel, by decide +kernel⟩, List.mem_of_getElem? (i := 836) (by decide +kernel), List.mem_of_getElem? (i := 874) (by decide +kernel), List.mem_of_getElem? (i := 875) (by decide +kernel)⟩
theorem lw_p52 : lw_okq (⟨"ReadAloud$Levels", "spread", "(LReadAloud$Readings;III)V"⟩, 10) := ⟨⟨by decide +kernel, by decide +kernel⟩, List.mem_of_getElem? (i := 836) (by decide +kernel), List.mem_of_getElem? (i := 878) (by decide +kernel), List.mem_of_getElem? (i := 879) (by decide +kernel)⟩
theorem lw_p53 : lw_okq (⟨"ReadAloud$Levels", "isWanted", "(II)Z"⟩, 10) := ⟨⟨by decide +kernel, by decide +kernel⟩, List.mem_of_getElem? (i := 836) (by decide +kernel), List.mem_of_getElem? (i := 882) (by decide +kernel), List.mem_of_getElem? (i := 883) (by decide +kernel)⟩
theorem lw_p54 : lw_okq (⟨"ReadAloud$Levels", "fillBehind", "(I)I"⟩, 10) := ⟨⟨by decide +kernel, by decide +kernel⟩, List.mem_of_getElem? (i := 836) (by decide +kernel), List.mem_of_getElem? (i := 886) (by decide +kernel), List.mem_of_getElem? (i := 887) (by decide +kernel)⟩
theorem lw_p55 : lw_okq (⟨"ReadAloud$Levels", "onesAt", "(I)I"⟩, 10) := ⟨⟨by decide +kernel, by decide +kernel⟩, List.mem_of_getElem? (i := 836) (by decide +kernel), List.mem_of_getElem? (i := 890) (by decide +kernel), List.mem_of_getElem? (i := 891) (by decide +kernel)⟩
theorem lw_p56 : lw_okq (⟨"ReadAloud$Levels", "forget", "(I)V"⟩, 10) := ⟨⟨by decide +kernel, by decide +kernel⟩, List.mem_of_getElem? (i := 836) (by decide +kernel), List.mem_of_getElem? (i := 896) (by decide +kernel), List.mem_of_getElem? (i := 897) (by decide +kernel)⟩
theorem lw_p57 : lw_okq (⟨"ReadAloud$Levels", "endByDrift", "()V"⟩, 10) := ⟨⟨by decide +kernel, by decide +kernel⟩, List.mem_of_getElem? (i := 836) (by decide +kernel), List.mem_of_getElem? (i := 900) (by decide +kernel), List.mem_of_getElem? (i := 901) (by decide +kernel)⟩
theorem lw_p58 : lw_okq (⟨"ReadAloud$Levels", "bestEnd", "(Z)I"⟩, 10) := ⟨⟨by decide +kernel, by decide +kernel⟩, List.mem_of_getElem? (i := 836) (by decide +kernel), List.mem_of_getElem? (i := 905) (by decide +kernel), List.mem_of_getElem? (i := 906) (by decide +kernel)⟩
theorem lw_p59 : lw_okq (⟨"ReadAloud$Levels", "foldBack", "(II)V"⟩, 10) := ⟨⟨by decide +kernel, by decide +kernel⟩, List.mem_of_getElem? (i := 836) (by decide +kernel), List.mem_of_getElem? (i := 911) (by decide +kernel), List.mem_of_getElem? (i := 912) (by decide +kernel)⟩
theorem lw_p60 : lw_okq (⟨"ReadAloud$Levels", "recall", "(I)V"⟩, 10) := ⟨⟨by decide +kernel, by decide +kernel⟩, List.mem_of_getElem? (i := 836) (by decide +kernel), List.mem_of_getElem? (i := 915) (by decide +kernel), List.mem_of_getElem? (i := 916) (by decide +kernel)⟩
theorem lw_p61 : lw_okq (⟨"ReadAloud$Levels", "folded", "(III)I"⟩, 10) := ⟨⟨by decide +kernel, by decide +kernel⟩, List.mem_of_getElem? (i := 836) (by decide +kernel), List.mem_of_getElem? (i := 919) (by decide +kernel), List.mem_of_getElem? (i := 920) (by decide +kernel)⟩
theorem lw_p62 : lw_okq (⟨"ReadAloud$Levels", "chosenAt", "(I)I"⟩, 10) := ⟨⟨by decide +kernel, by decide +kernel⟩, List.mem_of_getElem? (i := 836) (by decide +kernel), List.mem_of_getElem? (i := 923) (by decide +kernel), List.mem_of_getElem? (i := 924) (by decide +kernel)⟩
theorem lw_p63 : lw_okq (⟨"ReadAloud$Levels", "firstAsGood", "(II)I"⟩, 10) := ⟨⟨by decide +kernel, by decide +kernel⟩, List.mem_of_getElem? (i := 836) (by decide +kernel), List.mem_of_getElem? (i := 927) (by decide +kernel), List.mem_of_getElem? (i := 928) (by decide +kernel)⟩
def lw_privs_4 : List (MethodName × Nat) := [(⟨"ReadAloud$Rings", "takeOutside", "(LReadAloud$Readings;II)I"⟩, 15), (⟨"ReadAloud$Rings", "goRound", "(LReadAloud$Readings;II)I"⟩, 15), (⟨"ReadAloud", "levelsThere", "()LReadAloud$Levels;"⟩, 8), (⟨"ReadAloud$Levels", "wantNothing", "()V"⟩, 10), (⟨"ReadAloud$Levels", "spread", "(LReadAloud$Readings;III)V"⟩, 10), (⟨"ReadAloud$Levels", "isWanted", "(II)Z"⟩, 10), (⟨"ReadAloud$Levels", "fillBehind", "(I)I"⟩, 10), (⟨"ReadAloud$Levels", "onesAt", "(I)I"⟩, 10), (⟨"ReadAloud$Levels", "forget", "(I)V"⟩, 10), (⟨"ReadAloud$Levels", "endByDrift", "()V"⟩, 10), (⟨"ReadAloud$Levels", "bestEnd", "(Z)I"⟩, 10), (⟨"ReadAloud$Levels", "foldBack", "(II)V"⟩, 10), (⟨"ReadAloud$Levels", "recall", "(I)V"⟩, 10), (⟨"ReadAloud$Levels", "folded", "(III)I"⟩, 10), (⟨"ReadAloud$Levels", "chosenAt", "(I)I"⟩, 10), (⟨"ReadAloud$Levels", "firstAsGood", "(II)I"⟩, 10)]
theorem lw_r4 : ∀ q ∈ lw_privs_4, lw_okq q := List.forall_mem_cons.mpr ⟨lw_p48, List.forall_mem_cons.mpr ⟨lw_p49, List.forall_mem_cons.mpr ⟨lw_p50, List.forall_mem_cons.mpr ⟨lw_p51, List.forall_mem_cons.mpr ⟨lw_p52, List.forall_mem_cons.mpr ⟨lw_p53, List.forall_mem_cons.mpr ⟨lw_p54, List.forall_mem_cons.mpr ⟨lw_p55, List.forall_mem_cons.mpr ⟨lw_p56, List.forall_mem_cons.mpr ⟨lw_p57, List.forall_mem_cons.mpr ⟨lw_p58, List.forall_mem_cons.mpr ⟨lw_p59, List.forall_mem_cons.mpr ⟨lw_p60, List.forall_mem_cons.mpr ⟨lw_p61, List.forall_mem_cons.mpr ⟨lw_p62, List.forall_mem_cons.mpr ⟨lw_p63, fun _ h => absurd h List.not_mem_nil⟩⟩⟩⟩⟩⟩⟩⟩⟩⟩⟩⟩⟩⟩⟩⟩
theorem lw_p64 : lw_okq (⟨"ReadAloud$Levels", "sumOfEnds", "()J"⟩, 10) := ⟨⟨by decide +kernel, by decide +kernel⟩, List.mem_of_getElem? (i := 836) (by decide +kernel), List.mem_of_getElem? (i := 936) (by decide +kernel), List.mem_of_getElem? (i := 937) (by decide +kernel)⟩
theorem lw_p65 : lw_okq (⟨"ReadAloud$Levels", "rows", "()I"⟩, 10) := ⟨⟨by decide +kernel, by decide +kernel⟩, List.mem_of_getElem? (i := 836) (by decide +kernel), List.mem_of_getElem? (i := 940) (by decide +kernel), List.mem_of_getElem? (i := 941) (by decide +kernel)⟩
theorem lw_p66 : lw_okq (⟨"ReadAloud$Readings", "goBack", "(II)V"⟩, 4) := ⟨⟨by decide +kernel, by decide +kernel⟩, List.mem_of_getElem? (i := 622) (by decide +kernel), List.mem_of_getElem? (i := 951) (by decide +kernel), List.mem_of_getElem? (i := 952) (by decide +kernel)⟩
theorem lw_p67 : lw_okq (⟨"ReadAloud$Readings", "comesToMarked", "(I)Z"⟩, 4) := ⟨⟨by decide +kernel, by decide +kernel⟩, List.mem_of_getElem? (i := 622) (by decide +kernel), List.mem_of_getElem? (i := 958) (by decide +kernel), List.mem_of_getElem? (i := 959) (by decide +kernel)⟩
theorem lw_p68 : lw_okq (⟨"ReadAloud$Readings", "leastMarked", "()I"⟩, 4) := ⟨⟨by decide +kernel, by decide +kernel⟩, List.mem_of_getElem? (i := 622) (by decide +kernel), List.mem_of_getElem? (i := 962) (by decide +kernel), List.mem_of_getElem? (i := 963) (by decide +kernel)⟩
theorem lw_p69 : lw_okq (⟨"ReadAloud$Readings", "marked", "()I"⟩, 4) := ⟨⟨by decide +kernel, by decide +kernel⟩, List.mem_of_getElem? (i := 622) (by decide +kernel), List.mem_of_getElem? (i := 966) (by decide +kernel), List.mem_of_getElem? (i := 967) (by decide +kernel)⟩
theorem lw_p70 : lw_okq (⟨"ReadAloud$Levels", "endByWord", "(I)V"⟩, 10) := ⟨⟨by decide +kernel, by decide +kernel⟩, List.mem_of_getElem? (i := 836) (by decide +kernel), List.mem_of_getElem? (i := 975) (by decide +kernel), List.mem_of_getElem? (i := 976) (by decide +kernel)⟩
theorem lw_p71 : lw_okq (⟨"ReadAloud$Levels", "bestStart", "()I"⟩, 10) := ⟨⟨by decide +kernel, by decide +kernel⟩, List.mem_of_getElem? (i := 836) (by decide +kernel), List.mem_of_getElem? (i := 982) (by decide +kernel), List.mem_of_getElem? (i := 983) (by decide +kernel)⟩
theorem lw_p72 : lw_okq (⟨"ReadAloud", "sightAt", "(I)LReadAloud$Sight;"⟩, 8) := ⟨⟨by decide +kernel, by decide +kernel⟩, List.mem_of_getElem? (i := 23) (by decide +kernel), List.mem_of_getElem? (i := 990) (by decide +kernel), List.mem_of_getElem? (i := 991) (by decide +kernel)⟩
theorem lw_p73 : lw_okq (⟨"ReadAloud$Sight", "tells", "(II)I"⟩, 3) := ⟨⟨by decide +kernel, by decide +kernel⟩, List.mem_of_getElem? (i := 438) (by decide +kernel), List.mem_of_getElem? (i := 994) (by decide +kernel), List.mem_of_getElem? (i := 995) (by decide +kernel)⟩
theorem lw_p74 : lw_okq (⟨"ReadAloud$Levels", "want", "(LReadAloud$Sight;)V"⟩, 10) := ⟨⟨by decide +kernel, by decide +kernel⟩, List.mem_of_getElem? (i := 836) (by decide +kernel), List.mem_of_getElem? (i := 1002) (by decide +kernel), List.mem_of_getElem? (i := 1003) (by decide +kernel)⟩
theorem lw_p75 : lw_okq (⟨"ReadAloud$Levels", "rowsTo", "(I)I"⟩, 10) := ⟨⟨by decide +kernel, by decide +kernel⟩, List.mem_of_getElem? (i := 836) (by decide +kernel), List.mem_of_getElem? (i := 1007) (by decide +kernel), List.mem_of_getElem? (i := 1008) (by decide +kernel)⟩
theorem lw_p76 : lw_okq (⟨"ReadAloud$Levels", "endByOne", "()V"⟩, 10) := ⟨⟨by decide +kernel, by decide +kernel⟩, List.mem_of_getElem? (i := 836) (by decide +kernel), List.mem_of_getElem? (i := 1015) (by decide +kernel), List.mem_of_getElem? (i := 1016) (by decide +kernel)⟩
theorem lw_p77 : lw_okq (⟨"ReadAloud$Levels", "look", "()I"⟩, 10) := ⟨⟨by decide +kernel, by decide +kernel⟩, List.mem_of_getElem? (i := 836) (by decide +kernel), List.mem_of_getElem? (i := 1019) (by decide +kernel), List.mem_of_getElem? (i := 1020) (by decide +kernel)⟩
theorem lw_p78 : lw_okq (⟨"ReadAloud$Levels", "onlyReaderAt", "(I)I"⟩, 10) := ⟨⟨by decide +kernel, by decide +kernel⟩, List.mem_of_getElem? (i := 836) (by decide +kernel), List.mem_of_getElem? (i := 1023) (by decide +kernel), List.mem_of_getElem? (i := 1024) (by decide +kernel)⟩
theorem lw_p79 : lw_okq (⟨"ReadAloud$Levels", "isReaderAt", "(II)Z"⟩, 10) := ⟨⟨by decide +kernel, by decide +kernel⟩, List.mem_of_getElem? (i := 836) (by decide +kernel), List.mem_of_getElem? (i := 1027) (by decide +kernel), List.mem_of_getElem? (i := 1028) (by decide +kernel)⟩
def lw_privs_5 : List (MethodName × Nat) := [(⟨"ReadAloud$Levels", "sumOfEnds", "()J"⟩, 10), (⟨"ReadAloud$Levels", "rows", "()I"⟩, 10), (⟨"ReadAloud$Readings", "goBack", "(II)V"⟩, 4), (⟨"ReadAloud$Readings", "comesToMarked", "(I)Z"⟩, 4), (⟨"ReadAloud$Readings", "leastMarked", "()I"⟩, 4), (⟨"ReadAloud$Readings", "marked", "()I"⟩, 4), (⟨"ReadAloud$Levels", "endByWord", "(I)V"⟩, 10), (⟨"ReadAloud$Levels", "bestStart", "()I"⟩, 10), (⟨"ReadAloud", "sightAt", "(I)LReadAloud$Sight;"⟩, 8), (⟨"ReadAloud$Sight", "tells", "(II)I"⟩, 3), (⟨"ReadAloud$Levels", "want", "(LReadAloud$Sight;)V"⟩, 10), (⟨"ReadAloud$Levels", "rowsTo", "(I)I"⟩, 10), (⟨"ReadAloud$Levels", "endByOne", "()V"⟩, 10), (⟨"ReadAloud$Levels", "look", "()I"⟩, 10), (⟨"ReadAloud$Levels", "onlyReaderAt", "(I)I"⟩, 10), (⟨"ReadAloud$Levels", "isReaderAt", "(II)Z"⟩, 10)]
theorem lw_r5 : ∀ q ∈ lw_privs_5, lw_okq q := List.forall_mem_cons.mpr ⟨lw_p64, List.forall_mem_cons.mpr ⟨lw_p65, List.forall_mem_cons.mpr ⟨lw_p66, List.forall_mem_cons.mpr ⟨lw_p67, List.forall_mem_cons.mpr ⟨lw_p68, List.forall_mem_cons.mpr ⟨lw_p69, List.forall_mem_cons.mpr ⟨lw_p70, List.forall_mem_cons.mpr ⟨lw_p71, List.forall_mem_cons.mpr ⟨lw_p72, List.forall_mem_cons.mpr ⟨lw_p73, List.forall_mem_cons.mpr ⟨lw_p74, List.forall_mem_cons.mpr ⟨lw_p75, List.forall_mem_cons.mpr ⟨lw_p76, List.forall_mem_cons.mpr ⟨lw_p77, List.forall_mem_cons.mpr ⟨lw_p78, List.forall_mem_cons.mpr ⟨lw_p79, fun _ h => absurd h List.not_mem_nil⟩⟩⟩⟩⟩⟩⟩⟩⟩⟩⟩⟩⟩⟩⟩⟩
theorem lw_p80 : lw_okq (⟨"ReadAloud$Course", "draw", "(II)V"⟩, 7) := ⟨⟨by decide +kernel, by decide +kernel⟩, List.mem_of_getElem? (i := 115) (by decide +kernel), List.mem_of_getElem? (i := 1035) (by decide +kernel), List.mem_of_getElem? (i := 1036) (by decide +kernel)⟩
theorem lw_p81 : lw_okq (⟨"ReadAloud$Course", "drawBelow", "(I)I"⟩, 7) := ⟨⟨by decide +kernel, by decide +kernel⟩, List.mem_of_getElem? (i := 115) (by decide +kernel), List.mem_of_getElem? (i := 1039) (by decide +kernel), List.mem_of_getElem? (i := 1040) (by decide +kernel)⟩
theorem lw_p82 : lw_okq (⟨"ReadAloud$Book", "kinRing", "(I)I"⟩, 7) := ⟨⟨by decide +kernel, by decide +kernel⟩, List.mem_of_getElem? (i := 192) (by decide +kernel), List.mem_of_getElem? (i := 1048) (by decide +kernel), List.mem_of_getElem? (i := 1049) (by decide +kernel)⟩
theorem lw_p83 : lw_okq (⟨"ReadAloud$Book", "kinUntilRing", "(I)I"⟩, 7) := ⟨⟨by decide +kernel, by decide +kernel⟩, List.mem_of_getElem? (i := 192) (by decide +kernel), List.mem_of_getElem? (i := 1052) (by decide +kernel), List.mem_of_getElem? (i := 1053) (by decide +kernel)⟩
theorem lw_p84 : lw_okq (⟨"ReadAloud$Book", "isInKinRing", "(I)Z"⟩, 7) := ⟨⟨by decide +kernel, by decide +kernel⟩, List.mem_of_getElem? (i := 192) (by decide +kernel), List.mem_of_getElem? (i := 1056) (by decide +kernel), List.mem_of_getElem? (i := 1057) (by decide +kernel)⟩
theorem lw_p85 : lw_okq (⟨"ReadAloud$Walk", "meeting", "(LReadAloud$Walk;)I"⟩, 5) := ⟨⟨by decide +kernel, by decide +kernel⟩, List.mem_of_getElem? (i := 653) (by decide +kernel), List.mem_of_getElem? (i := 1076) (by decide +kernel), List.mem_of_getElem? (i := 1077) (by decide +kernel)⟩
theorem lw_p86 : lw_okq (⟨"ReadAloud$Walk", "nearestTo", "(I)I"⟩, 5) := ⟨⟨by decide +kernel, by decide +kernel⟩, List.mem_of_getElem? (i := 653) (by decide +kernel), List.mem_of_getElem? (i := 1084) (by decide +kernel), List.mem_of_getElem? (i := 1085) (by decide +kernel)⟩
theorem lw_p87 : lw_okq (⟨"ReadAloud$Walk", "firstSettled", "(LReadAloud$Readings;)I"⟩, 5) := ⟨⟨by decide +kernel, by decide +kernel⟩, List.mem_of_getElem? (i := 653) (by decide +kernel), List.mem_of_getElem? (i := 1093) (by decide +kernel), List.mem_of_getElem? (i := 1094) (by decide +kernel)⟩
theorem lw_p88 : lw_okq (⟨"ReadAloud$Readings", "markUnmade", "()V"⟩, 4) := ⟨⟨by decide +kernel, by decide +kernel⟩, List.mem_of_getElem? (i := 622) (by decide +kernel), List.mem_of_getElem? (i := 1103) (by decide +kernel), List.mem_of_getElem? (i := 1104) (by decide +kernel)⟩
theorem lw_p89 : lw_okq (⟨"ReadAloud$Rings", "findCircles", "(LReadAloud$Readings;)V"⟩, 15) := ⟨⟨by decide +kernel, by decide +kernel⟩, List.mem_of_getElem? (i := 750) (by decide +kernel), List.mem_of_getElem? (i := 1121) (by decide +kernel), List.mem_of_getElem? (i := 1122) (by decide +kernel)⟩
theorem lw_p90 : lw_okq (⟨"ReadAloud$Rings", "findFrom", "(LReadAloud$Readings;I)V"⟩, 15) := ⟨⟨by decide +kernel, by decide +kernel⟩, List.mem_of_getElem? (i := 750) (by decide +kernel), List.mem_of_getElem? (i := 1125) (by decide +kernel), List.mem_of_getElem? (i := 1126) (by decide +kernel)⟩
theorem lw_p91 : lw_okq (⟨"ReadAloud$Rings", "enter", "(I)V"⟩, 15) := ⟨⟨by decide +kernel, by decide +kernel⟩, List.mem_of_getElem? (i := 750) (by decide +kernel), List.mem_of_getElem? (i := 1129) (by decide +kernel), List.mem_of_getElem? (i := 1130) (by decide +kernel)⟩
theorem lw_p92 : lw_okq (⟨"ReadAloud$Rings", "tryNext", "(LReadAloud$Readings;I)V"⟩, 15) := ⟨⟨by decide +kernel, by decide +kernel⟩, List.mem_of_getElem? (i := 750) (by decide +kernel), List.mem_of_getElem? (i := 1134) (by decide +kernel), List.mem_of_getElem? (i := 1135) (by decide +kernel)⟩
theorem lw_p93 : lw_okq (⟨"ReadAloud$Rings", "leave", "(I)V"⟩, 15) := ⟨⟨by decide +kernel, by decide +kernel⟩, List.mem_of_getElem? (i := 750) (by decide +kernel), List.mem_of_getElem? (i := 1139) (by decide +kernel), List.mem_of_getElem? (i := 1140) (by decide +kernel)⟩
theorem lw_p94 : lw_okq (⟨"ReadAloud$Rings", "closeCircle", "(I)V"⟩, 15) := ⟨⟨by decide +kernel, by decide +kernel⟩, List.mem_of_getElem? (i := 750) (by decide +kernel), List.mem_of_getElem? (i := 1143) (by decide +kernel), List.mem_of_getElem? (i := 1144) (by decide +kernel)⟩
theorem lw_p95 : lw_okq (⟨"ReadAloud$Told", "becomes", "(LReadAloud$Told;)V"⟩, 8) := ⟨⟨by decide +kernel, by decide +kernel⟩, List.mem_of_getElem? (i := 31) (by decide +kernel), List.mem_of_getElem? (i := 1155) (by decide +kernel), List.mem_of_getElem? (i := 1156) (by decide +kernel)⟩
def lw_privs_6 : List (MethodName × Nat) := [(⟨"ReadAloud$Course", "draw", "(II)V"⟩, 7), (⟨"ReadAloud$Course", "drawBelow", "(I)I"⟩, 7), (⟨"ReadAloud$Book", "kinRing", "(I)I"⟩, 7), (⟨"ReadAloud$Book", "kinUntilRing", "(I)I"⟩, 7), (⟨"ReadAloud$Book", "isInKinRing", "(I)Z"⟩, 7), (⟨"ReadAloud$Walk", "meeting", "(LReadAloud$Walk;)I"⟩, 5), (⟨"ReadAloud$Walk", "nearestTo", "(I)I"⟩, 5), (⟨"ReadAloud$Walk", "firstSettled", "(LReadAloud$Readings;)I"⟩, 5), (⟨"ReadAloud$Readings", "markUnmade", "()V"⟩, 4), (⟨"ReadAloud$Rings", "findCircles", "(LReadAloud$Readings;)V"⟩, 15), (⟨"ReadAloud$Rings", "findFrom", "(LReadAloud$Readings;I)V"⟩, 15), (⟨"ReadAloud$Rings", "enter", "(I)V"⟩, 15), (⟨"ReadAloud$Rings", "tryNext", "(LReadAloud$Readings;I)V"⟩, 15), (⟨"ReadAloud$Rings", "leave", "(I)V"⟩, 15), (⟨"ReadAloud$Rings", "closeCircle", "(I)V"⟩, 15), (⟨"ReadAloud$Told", "becomes", "(LReadAloud$Told;)V"⟩, 8)]
theorem lw_r6 : ∀ q ∈ lw_privs_6, lw_okq q := List.forall_mem_cons.mpr ⟨lw_p80, List.forall_mem_cons.mpr ⟨lw_p81, List.forall_mem_cons.mpr ⟨lw_p82, List.forall_mem_cons.mpr ⟨lw_p83, List.forall_mem_cons.mpr ⟨lw_p84, List.forall_mem_cons.mpr ⟨lw_p85, List.forall_mem_cons.mpr ⟨lw_p86, List.forall_mem_cons.mpr ⟨lw_p87, List.forall_mem_cons.mpr ⟨lw_p88, List.forall_mem_cons.mpr ⟨lw_p89, List.forall_mem_cons.mpr ⟨lw_p90, List.forall_mem_cons.mpr ⟨lw_p91, List.forall_mem_cons.mpr ⟨lw_p92, List.forall_mem_cons.mpr ⟨lw_p93, List.forall_mem_cons.mpr ⟨lw_p94, List.forall_mem_cons.mpr ⟨lw_p95, fun _ h => absurd h List.not_mem_nil⟩⟩⟩⟩⟩⟩⟩⟩⟩⟩⟩⟩⟩⟩⟩⟩
theorem lw_p96 : lw_okq (⟨"ReadAloudModel", "four", "(I)V"⟩, 52) := ⟨⟨by decide +kernel, by decide +kernel⟩, List.mem_of_getElem? (i := 1166) (by decide +kernel), List.mem_of_getElem? (i := 1335) (by decide +kernel), List.mem_of_getElem? (i := 1336) (by decide +kernel)⟩
theorem lw_p97 : lw_okq (⟨"ReadAloudModel", "is", "(II)Z"⟩, 52) := ⟨⟨by decide +kernel, by decide +kernel⟩, List.mem_of_getElem? (i := 1166) (by decide +kernel), List.mem_of_getElem? (i := 1350) (by decide +kernel), List.mem_of_getElem? (i := 1351) (by decide +kernel)⟩
theorem lw_p98 : lw_okq (⟨"ReadAloudModel", "readText", "(I)Z"⟩, 52) := ⟨⟨by decide +kernel, by decide +kernel⟩, List.mem_of_getElem? (i := 1166) (by decide +kernel), List.mem_of_getElem? (i := 1354) (by decide +kernel), List.mem_of_getElem? (i := 1355) (by decide +kernel)⟩
theorem lw_p99 : lw_okq (⟨"ReadAloudModel", "token", "()V"⟩, 52) := ⟨⟨by decide +kernel, by decide +kernel⟩, List.mem_of_getElem? (i := 1166) (by decide +kernel), List.mem_of_getElem? (i := 1358) (by decide +kernel), List.mem_of_getElem? (i := 1359) (by decide +kernel)⟩
theorem lw_p100 : lw_okq (⟨"ReadAloudModel", "see", "()I"⟩, 52) := ⟨⟨by decide +kernel, by decide +kernel⟩, List.mem_of_getElem? (i := 1166) (by decide +kernel), List.mem_of_getElem? (i := 1362) (by decide +kernel), List.mem_of_getElem? (i := 1363) (by decide +kernel)⟩
theorem lw_p101 : lw_okq (⟨"ReadAloudModel", "lines", "(I)Z"⟩, 52) := ⟨⟨by decide +kernel, by decide +kernel⟩, List.mem_of_getElem? (i := 1166) (by decide +kernel), List.mem_of_getElem? (i := 1366) (by decide +kernel), List.mem_of_getElem? (i := 1367) (by decide +kernel)⟩
theorem lw_p102 : lw_okq (⟨"ReadAloudModel", "lineOf", "(IJI)Z"⟩, 52) := ⟨⟨by decide +kernel, by decide +kernel⟩, List.mem_of_getElem? (i := 1166) (by decide +kernel), List.mem_of_getElem? (i := 1370) (by decide +kernel), List.mem_of_getElem? (i := 1371) (by decide +kernel)⟩
theorem lw_p103 : lw_okq (⟨"ReadAloudModel", "bookLine", "(JI)Z"⟩, 52) := ⟨⟨by decide +kernel, by decide +kernel⟩, List.mem_of_getElem? (i := 1166) (by decide +kernel), List.mem_of_getElem? (i := 1374) (by decide +kernel), List.mem_of_getElem? (i := 1375) (by decide +kernel)⟩
theorem lw_p104 : lw_okq (⟨"ReadAloudModel", "stepLine", "(II)Z"⟩, 52) := ⟨⟨by decide +kernel, by decide +kernel⟩, List.mem_of_getElem? (i := 1166) (by decide +kernel), List.mem_of_getElem? (i := 1386) (by decide +kernel), List.mem_of_getElem? (i := 1387) (by decide +kernel)⟩
theorem lw_p105 : lw_okq (⟨"ReadAloudModel", "later", "(II)V"⟩, 52) := ⟨⟨by decide +kernel, by decide +kernel⟩, List.mem_of_getElem? (i := 1166) (by decide +kernel), List.mem_of_getElem? (i := 1390) (by decide +kernel), List.mem_of_getElem? (i := 1391) (by decide +kernel)⟩
theorem lw_p106 : lw_okq (⟨"ReadAloudModel", "take", "(III)Z"⟩, 52) := ⟨⟨by decide +kernel, by decide +kernel⟩, List.mem_of_getElem? (i := 1166) (by decide +kernel), List.mem_of_getElem? (i := 1394) (by decide +kernel), List.mem_of_getElem? (i := 1395) (by decide +kernel)⟩
theorem lw_p107 : lw_okq (⟨"ReadAloudModel", "takeBut", "(IIII)Z"⟩, 52) := ⟨⟨by decide +kernel, by decide +kernel⟩, List.mem_of_getElem? (i := 1166) (by decide +kernel), List.mem_of_getElem? (i := 1398) (by decide +kernel), List.mem_of_getElem? (i := 1399) (by decide +kernel)⟩
theorem lw_p108 : lw_okq (⟨"ReadAloudModel", "fails", "()Z"⟩, 52) := ⟨⟨by decide +kernel, by decide +kernel⟩, List.mem_of_getElem? (i := 1166) (by decide +kernel), List.mem_of_getElem? (i := 1402) (by decide +kernel), List.mem_of_getElem? (i := 1403) (by decide +kernel)⟩
theorem lw_p109 : lw_okq (⟨"ReadAloudModel", "full", "(III)V"⟩, 52) := ⟨⟨by decide +kernel, by decide +kernel⟩, List.mem_of_getElem? (i := 1166) (by decide +kernel), List.mem_of_getElem? (i := 1409) (by decide +kernel), List.mem_of_getElem? (i := 1410) (by decide +kernel)⟩
theorem lw_p110 : lw_okq (⟨"ReadAloudModel", "takeText", "(I)V"⟩, 52) := ⟨⟨by decide +kernel, by decide +kernel⟩, List.mem_of_getElem? (i := 1166) (by decide +kernel), List.mem_of_getElem? (i := 1416) (by decide +kernel), List.mem_of_getElem? (i := 1417) (by decide +kernel)⟩
theorem lw_p111 : lw_okq (⟨"ReadAloudModel", "yearLine", "(JI)Z"⟩, 52) := ⟨⟨by decide +kernel, by decide +kernel⟩, List.mem_of_getElem? (i := 1166) (by decide +kernel), List.mem_of_getElem? (i := 1423) (by decide +kernel), List.mem_of_getElem? (i := 1424) (by decide +kernel)⟩
def lw_privs_7 : List (MethodName × Nat) := [(⟨"ReadAloudModel", "four", "(I)V"⟩, 52), (⟨"ReadAloudModel", "is", "(II)Z"⟩, 52), (⟨"ReadAloudModel", "readText", "(I)Z"⟩, 52), (⟨"ReadAloudModel", "token", "()V"⟩, 52), (⟨"ReadAloudModel", "see", "()I"⟩, 52), (⟨"ReadAloudModel", "lines", "(I)Z"⟩, 52), (⟨"ReadAloudModel", "lineOf", "(IJI)Z"⟩, 52), (⟨"ReadAloudModel", "bookLine", "(JI)Z"⟩, 52), (⟨"ReadAloudModel", "stepLine", "(II)Z"⟩, 52), (⟨"ReadAloudModel", "later", "(II)V"⟩, 52), (⟨"ReadAloudModel", "take", "(III)Z"⟩, 52), (⟨"ReadAloudModel", "takeBut", "(IIII)Z"⟩, 52), (⟨"ReadAloudModel", "fails", "()Z"⟩, 52), (⟨"ReadAloudModel", "full", "(III)V"⟩, 52), (⟨"ReadAloudModel", "takeText", "(I)V"⟩, 52), (⟨"ReadAloudModel", "yearLine", "(JI)Z"⟩, 52)]
theorem lw_r7 : ∀ q ∈ lw_privs_7, lw_okq q := List.forall_mem_cons.mpr ⟨lw_p96, List.forall_mem_cons.mpr ⟨lw_p97, List.forall_mem_cons.mpr ⟨lw_p98, List.forall_mem_cons.mpr ⟨lw_p99, List.forall_mem_cons.mpr ⟨lw_p100, List.forall_mem_cons.mpr ⟨lw_p101, List.forall_mem_cons.mpr ⟨lw_p102, List.forall_mem_cons.mpr ⟨lw_p103, List.forall_mem_cons.mpr ⟨lw_p104, List.forall_mem_cons.mpr ⟨lw_p105, List.forall_mem_cons.mpr ⟨lw_p106, List.forall_mem_cons.mpr ⟨lw_p107, List.forall_mem_cons.mpr ⟨lw_p108, List.forall_mem_cons.mpr ⟨lw_p109, List.forall_mem_cons.mpr ⟨lw_p110, List.forall_mem_cons.mpr ⟨lw_p111, fun _ h => absurd h List.not_mem_nil⟩⟩⟩⟩⟩⟩⟩⟩⟩⟩⟩⟩⟩⟩⟩⟩
theorem lw_p112 : lw_okq (⟨"ReadAloudModel", "keep", "(II)V"⟩, 52) := ⟨⟨by decide +kernel, by decide +kernel⟩, List.mem_of_getElem? (i := 1166) (by decide +kernel), List.mem_of_getElem? (i := 1436) (by decide +kernel), List.mem_of_getElem? (i := 1437) (by decide +kernel)⟩
theorem lw_p113 : lw_okq (⟨"ReadAloudModel", "sightLine", "(JI)Z"⟩, 52) := ⟨⟨by decide +kernel, by decide +kernel⟩, List.mem_of_getElem? (i := 1166) (by decide +kernel), List.mem_of_getElem? (i := 1440) (by decide +kernel), List.mem_of_getElem? (i := 1441) (by decide +kernel)⟩
theorem lw_p114 : lw_okq (⟨"ReadAloudModel", "store", "([III)V"⟩, 52) := ⟨⟨by decide +kernel, by decide +kernel⟩, List.mem_of_getElem? (i := 1166) (by decide +kernel), List.mem_of_getElem? (i := 1445) (by decide +kernel), List.mem_of_getElem? (i := 1446) (by decide +kernel)⟩
theorem lw_p115 : lw_okq (⟨"ReadAloudModel", "hand", "(I)Z"⟩, 52) := ⟨⟨by decide +kernel, by decide +kernel⟩, List.mem_of_getElem? (i := 1166) (by decide +kernel), List.mem_of_getElem? (i := 1457) (by decide +kernel), List.mem_of_getElem? (i := 1458) (by decide +kernel)⟩
theorem lw_p116 : lw_okq (⟨"ReadAloudModel", "of", "(I)I"⟩, 52) := ⟨⟨by decide +kernel, by decide +kernel⟩, List.mem_of_getElem? (i := 1166) (by decide +kernel), List.mem_of_getElem? (i := 1461) (by decide +kernel), List.mem_of_getElem? (i := 1462) (by decide +kernel)⟩
theorem lw_p117 : lw_okq (⟨"ReadAloudModel", "apart", "(II)I"⟩, 52) := ⟨⟨by decide +kernel, by decide +kernel⟩, List.mem_of_getElem? (i := 1166) (by decide +kernel), List.mem_of_getElem? (i := 1482) (by decide +kernel), List.mem_of_getElem? (i := 1483) (by decide +kernel)⟩
theorem lw_p118 : lw_okq (⟨"ReadAloudModel", "isReader", "(I)Z"⟩, 52) := ⟨⟨by decide +kernel, by decide +kernel⟩, List.mem_of_getElem? (i := 1166) (by decide +kernel), List.mem_of_getElem? (i := 1490) (by decide +kernel), List.mem_of_getElem? (i := 1491) (by decide +kernel)⟩
theorem lw_p119 : lw_okq (⟨"ReadAloudModel", "readBy", "(II)I"⟩, 52) := ⟨⟨by decide +kernel, by decide +kernel⟩, List.mem_of_getElem? (i := 1166) (by decide +kernel), List.mem_of_getElem? (i := 1494) (by decide +kernel), List.mem_of_getElem? (i := 1495) (by decide +kernel)⟩
theorem lw_p120 : lw_okq (⟨"ReadAloudModel", "step", "(II)V"⟩, 52) := ⟨⟨by decide +kernel, by decide +kernel⟩, List.mem_of_getElem? (i := 1166) (by decide +kernel), List.mem_of_getElem? (i := 1498) (by decide +kernel), List.mem_of_getElem? (i := 1499) (by decide +kernel)⟩
theorem lw_p121 : lw_okq (⟨"ReadAloudModel", "shift", "(I)V"⟩, 52) := ⟨⟨by decide +kernel, by decide +kernel⟩, List.mem_of_getElem? (i := 1166) (by decide +kernel), List.mem_of_getElem? (i := 1502) (by decide +kernel), List.mem_of_getElem? (i := 1503) (by decide +kernel)⟩
theorem lw_p122 : lw_okq (⟨"ReadAloudModel", "drop", "(I)V"⟩, 52) := ⟨⟨by decide +kernel, by decide +kernel⟩, List.mem_of_getElem? (i := 1166) (by decide +kernel), List.mem_of_getElem? (i := 1506) (by decide +kernel), List.mem_of_getElem? (i := 1507) (by decide +kernel)⟩
theorem lw_p123 : lw_okq (⟨"ReadAloudModel", "twice", "(I)V"⟩, 52) := ⟨⟨by decide +kernel, by decide +kernel⟩, List.mem_of_getElem? (i := 1166) (by decide +kernel), List.mem_of_getElem? (i := 1510) (by decide +kernel), List.mem_of_getElem? (i := 1511) (by decide +kernel)⟩
theorem lw_p124 : lw_okq (⟨"ReadAloudModel", "swap", "(II)V"⟩, 52) := ⟨⟨by decide +kernel, by decide +kernel⟩, List.mem_of_getElem? (i := 1166) (by decide +kernel), List.mem_of_getElem? (i := 1514) (by decide +kernel), List.mem_of_getElem? (i := 1515) (by decide +kernel)⟩
theorem lw_p125 : lw_okq (⟨"ReadAloudModel", "numberOf", "(I)I"⟩, 52) := ⟨⟨by decide +kernel, by decide +kernel⟩, List.mem_of_getElem? (i := 1166) (by decide +kernel), List.mem_of_getElem? (i := 1518) (by decide +kernel), List.mem_of_getElem? (i := 1519) (by decide +kernel)⟩
theorem lw_p126 : lw_okq (⟨"ReadAloudModel", "hasYear", "(I)Z"⟩, 52) := ⟨⟨by decide +kernel, by decide +kernel⟩, List.mem_of_getElem? (i := 1166) (by decide +kernel), List.mem_of_getElem? (i := 1526) (by decide +kernel), List.mem_of_getElem? (i := 1527) (by decide +kernel)⟩
theorem lw_p127 : lw_okq (⟨"ReadAloudModel", "deeds", "()I"⟩, 52) := ⟨⟨by decide +kernel, by decide +kernel⟩, List.mem_of_getElem? (i := 1166) (by decide +kernel), List.mem_of_getElem? (i := 1530) (by decide +kernel), List.mem_of_getElem? (i := 1531) (by decide +kernel)⟩
def lw_privs_8 : List (MethodName × Nat) := [(⟨"ReadAloudModel", "keep", "(II)V"⟩, 52), (⟨"ReadAloudModel", "sightLine", "(JI)Z"⟩, 52), (⟨"ReadAloudModel", "store", "([III)V"⟩, 52), (⟨"ReadAloudModel", "hand", "(I)Z"⟩, 52), (⟨"ReadAloudModel", "of", "(I)I"⟩, 52), (⟨"ReadAloudModel", "apart", "(II)I"⟩, 52), (⟨"ReadAloudModel", "isReader", "(I)Z"⟩, 52), (⟨"ReadAloudModel", "readBy", "(II)I"⟩, 52), (⟨"ReadAloudModel", "step", "(II)V"⟩, 52), (⟨"ReadAloudModel", "shift", "(I)V"⟩, 52), (⟨"ReadAloudModel", "drop", "(I)V"⟩, 52), (⟨"ReadAloudModel", "twice", "(I)V"⟩, 52), (⟨"ReadAloudModel", "swap", "(II)V"⟩, 52), (⟨"ReadAloudModel", "numberOf", "(I)I"⟩, 52), (⟨"ReadAloudModel", "hasYear", "(I)Z"⟩, 52), (⟨"ReadAloudModel", "deeds", "()I"⟩, 52)]
theorem lw_r8 : ∀ q ∈ lw_privs_8, lw_okq q := List.forall_mem_cons.mpr ⟨lw_p112, List.forall_mem_cons.mpr ⟨lw_p113, List.forall_mem_cons.mpr ⟨lw_p114, List.forall_mem_cons.mpr ⟨lw_p115, List.forall_mem_cons.mpr ⟨lw_p116, List.forall_mem_cons.mpr ⟨lw_p117, List.forall_mem_cons.mpr ⟨lw_p118, List.forall_mem_cons.mpr ⟨lw_p119, List.forall_mem_cons.mpr ⟨lw_p120, List.forall_mem_cons.mpr ⟨lw_p121, List.forall_mem_cons.mpr ⟨lw_p122, List.forall_mem_cons.mpr ⟨lw_p123, List.forall_mem_cons.mpr ⟨lw_p124, List.forall_mem_cons.mpr ⟨lw_p125, List.forall_mem_cons.mpr ⟨lw_p126, List.forall_mem_cons.mpr ⟨lw_p127, fun _ h => absurd h List.not_mem_nil⟩⟩⟩⟩⟩⟩⟩⟩⟩⟩⟩⟩⟩⟩⟩⟩
theorem lw_p128 : lw_okq (⟨"ReadAloudModel", "deedOf", "(II)I"⟩, 52) := ⟨⟨by decide +kernel, by decide +kernel⟩, List.mem_of_getElem? (i := 1166) (by decide +kernel), List.mem_of_getElem? (i := 1534) (by decide +kernel), List.mem_of_getElem? (i := 1535) (by decide +kernel)⟩
theorem lw_p129 : lw_okq (⟨"ReadAloudModel", "layAll", "(II)Z"⟩, 52) := ⟨⟨by decide +kernel, by decide +kernel⟩, List.mem_of_getElem? (i := 1166) (by decide +kernel), List.mem_of_getElem? (i := 1542) (by decide +kernel), List.mem_of_getElem? (i := 1543) (by decide +kernel)⟩
theorem lw_p130 : lw_okq (⟨"ReadAloudModel", "play", "(I)I"⟩, 52) := ⟨⟨by decide +kernel, by decide +kernel⟩, List.mem_of_getElem? (i := 1166) (by decide +kernel), List.mem_of_getElem? (i := 1546) (by decide +kernel), List.mem_of_getElem? (i := 1547) (by decide +kernel)⟩
theorem lw_p131 : lw_okq (⟨"ReadAloudModel", "begin", "()V"⟩, 52) := ⟨⟨by decide +kernel, by decide +kernel⟩, List.mem_of_getElem? (i := 1166) (by decide +kernel), List.mem_of_getElem? (i := 1550) (by decide +kernel), List.mem_of_getElem? (i := 1551) (by decide +kernel)⟩
theorem lw_p132 : lw_okq (⟨"ReadAloudModel", "does", "(I)Z"⟩, 52) := ⟨⟨by decide +kernel, by decide +kernel⟩, List.mem_of_getElem? (i := 1166) (by decide +kernel), List.mem_of_getElem? (i := 1554) (by decide +kernel), List.mem_of_getElem? (i := 1555) (by decide +kernel)⟩
theorem lw_p133 : lw_okq (⟨"ReadAloudModel", "reads", "(II)Z"⟩, 52) := ⟨⟨by decide +kernel, by decide +kernel⟩, List.mem_of_getElem? (i := 1166) (by decide +kernel), List.mem_of_getElem? (i := 1558) (by decide +kernel), List.mem_of_getElem? (i := 1559) (by decide +kernel)⟩
theorem lw_p134 : lw_okq (⟨"ReadAloudModel", "hushes", "(I)Z"⟩, 52) := ⟨⟨by decide +kernel, by decide +kernel⟩, List.mem_of_getElem? (i := 1166) (by decide +kernel), List.mem_of_getElem? (i := 1565) (by decide +kernel), List.mem_of_getElem? (i := 1566) (by decide +kernel)⟩
theorem lw_p135 : lw_okq (⟨"ReadAloudModel", "goesOn", "()Z"⟩, 52) := ⟨⟨by decide +kernel, by decide +kernel⟩, List.mem_of_getElem? (i := 1166) (by decide +kernel), List.mem_of_getElem? (i := 1569) (by decide +kernel), List.mem_of_getElem? (i := 1570) (by decide +kernel)⟩
theorem lw_p136 : lw_okq (⟨"ReadAloudModel", "ofState", "(I)I"⟩, 52) := ⟨⟨by decide +kernel, by decide +kernel⟩, List.mem_of_getElem? (i := 1166) (by decide +kernel), List.mem_of_getElem? (i := 1577) (by decide +kernel), List.mem_of_getElem? (i := 1578) (by decide +kernel)⟩
theorem lw_p137 : lw_okq (⟨"ReadAloudModel", "handAll", "(I)Z"⟩, 52) := ⟨⟨by decide +kernel, by decide +kernel⟩, List.mem_of_getElem? (i := 1166) (by decide +kernel), List.mem_of_getElem? (i := 1585) (by decide +kernel), List.mem_of_getElem? (i := 1586) (by decide +kernel)⟩
theorem lw_p138 : lw_okq (⟨"ReadAloudModel", "layMade", "()V"⟩, 52) := ⟨⟨by decide +kernel, by decide +kernel⟩, List.mem_of_getElem? (i := 1166) (by decide +kernel), List.mem_of_getElem? (i := 1589) (by decide +kernel), List.mem_of_getElem? (i := 1590) (by decide +kernel)⟩
theorem lw_p139 : lw_okq (⟨"ReadAloudModel", "findBack", "(I)V"⟩, 52) := ⟨⟨by decide +kernel, by decide +kernel⟩, List.mem_of_getElem? (i := 1166) (by decide +kernel), List.mem_of_getElem? (i := 1593) (by decide +kernel), List.mem_of_getElem? (i := 1594) (by decide +kernel)⟩
theorem lw_p140 : lw_okq (⟨"ReadAloudModel", "findFar", "(II[I)V"⟩, 52) := ⟨⟨by decide +kernel, by decide +kernel⟩, List.mem_of_getElem? (i := 1166) (by decide +kernel), List.mem_of_getElem? (i := 1602) (by decide +kernel), List.mem_of_getElem? (i := 1603) (by decide +kernel)⟩
theorem lw_p141 : lw_okq (⟨"ReadAloudModel", "isKept", "(II)Z"⟩, 52) := ⟨⟨by decide +kernel, by decide +kernel⟩, List.mem_of_getElem? (i := 1166) (by decide +kernel), List.mem_of_getElem? (i := 1614) (by decide +kernel), List.mem_of_getElem? (i := 1615) (by decide +kernel)⟩
theorem lw_p142 : lw_okq (⟨"ReadAloudModel", "unread", "(I)I"⟩, 52) := ⟨⟨by decide +kernel, by decide +kernel⟩, List.mem_of_getElem? (i := 1166) (by decide +kernel), List.mem_of_getElem? (i := 1626) (by decide +kernel), List.mem_of_getElem? (i := 1627) (by decide +kernel)⟩
theorem lw_p143 : lw_okq (⟨"ReadAloudModel", "findComes", "(I)V"⟩, 52) := ⟨⟨by decide +kernel, by decide +kernel⟩, List.mem_of_getElem? (i := 1166) (by decide +kernel), List.mem_of_getElem? (i := 1630) (by decide +kernel), List.mem_of_getElem? (i := 1631) (by decide +kernel)⟩
def lw_privs_9 : List (MethodName × Nat) := [(⟨"ReadAloudModel", "deedOf", "(II)I"⟩, 52), (⟨"ReadAloudModel", "layAll", "(II)Z"⟩, 52), (⟨"ReadAloudModel", "play", "(I)I"⟩, 52), (⟨"ReadAloudModel", "begin", "()V"⟩, 52), (⟨"ReadAloudModel", "does", "(I)Z"⟩, 52), (⟨"ReadAloudModel", "reads", "(II)Z"⟩, 52), (⟨"ReadAloudModel", "hushes", "(I)Z"⟩, 52), (⟨"ReadAloudModel", "goesOn", "()Z"⟩, 52), (⟨"ReadAloudModel", "ofState", "(I)I"⟩, 52), (⟨"ReadAloudModel", "handAll", "(I)Z"⟩, 52), (⟨"ReadAloudModel", "layMade", "()V"⟩, 52), (⟨"ReadAloudModel", "findBack", "(I)V"⟩, 52), (⟨"ReadAloudModel", "findFar", "(II[I)V"⟩, 52), (⟨"ReadAloudModel", "isKept", "(II)Z"⟩, 52), (⟨"ReadAloudModel", "unread", "(I)I"⟩, 52), (⟨"ReadAloudModel", "findComes", "(I)V"⟩, 52)]
theorem lw_r9 : ∀ q ∈ lw_privs_9, lw_okq q := List.forall_mem_cons.mpr ⟨lw_p128, List.forall_mem_cons.mpr ⟨lw_p129, List.forall_mem_cons.mpr ⟨lw_p130, List.forall_mem_cons.mpr ⟨lw_p131, List.forall_mem_cons.mpr ⟨lw_p132, List.forall_mem_cons.mpr ⟨lw_p133, List.forall_mem_cons.mpr ⟨lw_p134, List.forall_mem_cons.mpr ⟨lw_p135, List.forall_mem_cons.mpr ⟨lw_p136, List.forall_mem_cons.mpr ⟨lw_p137, List.forall_mem_cons.mpr ⟨lw_p138, List.forall_mem_cons.mpr ⟨lw_p139, List.forall_mem_cons.mpr ⟨lw_p140, List.forall_mem_cons.mpr ⟨lw_p141, List.forall_mem_cons.mpr ⟨lw_p142, List.forall_mem_cons.mpr ⟨lw_p143, fun _ h => absurd h List.not_mem_nil⟩⟩⟩⟩⟩⟩⟩⟩⟩⟩⟩⟩⟩⟩⟩⟩
theorem lw_p144 : lw_okq (⟨"ReadAloudModel", "stays", "(I)I"⟩, 52) := ⟨⟨by decide +kernel, by decide +kernel⟩, List.mem_of_getElem? (i := 1166) (by decide +kernel), List.mem_of_getElem? (i := 1634) (by decide +kernel), List.mem_of_getElem? (i := 1635) (by decide +kernel)⟩
theorem lw_p145 : lw_okq (⟨"ReadAloudModel", "fallAway", "(I)I"⟩, 52) := ⟨⟨by decide +kernel, by decide +kernel⟩, List.mem_of_getElem? (i := 1166) (by decide +kernel), List.mem_of_getElem? (i := 1638) (by decide +kernel), List.mem_of_getElem? (i := 1639) (by decide +kernel)⟩
theorem lw_p146 : lw_okq (⟨"ReadAloudModel", "tail", "(II)I"⟩, 52) := ⟨⟨by decide +kernel, by decide +kernel⟩, List.mem_of_getElem? (i := 1166) (by decide +kernel), List.mem_of_getElem? (i := 1642) (by decide +kernel), List.mem_of_getElem? (i := 1643) (by decide +kernel)⟩
theorem lw_p147 : lw_okq (⟨"ReadAloudModel", "longest", "(IZ)I"⟩, 52) := ⟨⟨by decide +kernel, by decide +kernel⟩, List.mem_of_getElem? (i := 1166) (by decide +kernel), List.mem_of_getElem? (i := 1649) (by decide +kernel), List.mem_of_getElem? (i := 1650) (by decide +kernel)⟩
theorem lw_p148 : lw_okq (⟨"ReadAloudModel", "layDrifts", "()V"⟩, 52) := ⟨⟨by decide +kernel, by decide +kernel⟩, List.mem_of_getElem? (i := 1166) (by decide +kernel), List.mem_of_getElem? (i := 1657) (by decide +kernel), List.mem_of_getElem? (i := 1658) (by decide +kernel)⟩
theorem lw_p149 : lw_okq (⟨"ReadAloudModel", "everybody", "()I"⟩, 52) := ⟨⟨by decide +kernel, by decide +kernel⟩, List.mem_of_getElem? (i := 1166) (by decide +kernel), List.mem_of_getElem? (i := 1661) (by decide +kernel), List.mem_of_getElem? (i := 1662) (by decide +kernel)⟩
theorem lw_p150 : lw_okq (⟨"ReadAloudModel", "best", "(IIZ)V"⟩, 52) := ⟨⟨by decide +kernel, by decide +kernel⟩, List.mem_of_getElem? (i := 1166) (by decide +kernel), List.mem_of_getElem? (i := 1665) (by decide +kernel), List.mem_of_getElem? (i := 1666) (by decide +kernel)⟩
theorem lw_p151 : lw_okq (⟨"ReadAloudModel", "rotaAt", "(II)I"⟩, 52) := ⟨⟨by decide +kernel, by decide +kernel⟩, List.mem_of_getElem? (i := 1166) (by decide +kernel), List.mem_of_getElem? (i := 1669) (by decide +kernel), List.mem_of_getElem? (i := 1670) (by decide +kernel)⟩
theorem lw_p152 : lw_okq (⟨"ReadAloudModel", "wordsIn", "(II)I"⟩, 52) := ⟨⟨by decide +kernel, by decide +kernel⟩, List.mem_of_getElem? (i := 1166) (by decide +kernel), List.mem_of_getElem? (i := 1689) (by decide +kernel), List.mem_of_getElem? (i := 1690) (by decide +kernel)⟩
theorem lw_p153 : lw_okq (⟨"ReadAloudModel", "hasSight", "(I)Z"⟩, 52) := ⟨⟨by decide +kernel, by decide +kernel⟩, List.mem_of_getElem? (i := 1166) (by decide +kernel), List.mem_of_getElem? (i := 1697) (by decide +kernel), List.mem_of_getElem? (i := 1698) (by decide +kernel)⟩
theorem lw_p154 : lw_okq (⟨"ReadAloudModel", "facts", "()I"⟩, 52) := ⟨⟨by decide +kernel, by decide +kernel⟩, List.mem_of_getElem? (i := 1166) (by decide +kernel), List.mem_of_getElem? (i := 1701) (by decide +kernel), List.mem_of_getElem? (i := 1702) (by decide +kernel)⟩
theorem lw_p155 : lw_okq (⟨"ReadAloudModel", "factOf", "(II)I"⟩, 52) := ⟨⟨by decide +kernel, by decide +kernel⟩, List.mem_of_getElem? (i := 1166) (by decide +kernel), List.mem_of_getElem? (i := 1705) (by decide +kernel), List.mem_of_getElem? (i := 1706) (by decide +kernel)⟩
theorem lw_p156 : lw_okq (⟨"ReadAloudModel", "findRows", "(I)V"⟩, 52) := ⟨⟨by decide +kernel, by decide +kernel⟩, List.mem_of_getElem? (i := 1166) (by decide +kernel), List.mem_of_getElem? (i := 1713) (by decide +kernel), List.mem_of_getElem? (i := 1714) (by decide +kernel)⟩
theorem lw_p157 : lw_okq (⟨"ReadAloudModel", "mayBe", "(II)Z"⟩, 52) := ⟨⟨by decide +kernel, by decide +kernel⟩, List.mem_of_getElem? (i := 1166) (by decide +kernel), List.mem_of_getElem? (i := 1717) (by decide +kernel), List.mem_of_getElem? (i := 1718) (by decide +kernel)⟩
theorem lw_p158 : lw_okq (⟨"ReadAloudModel", "allRows", "()I"⟩, 52) := ⟨⟨by decide +kernel, by decide +kernel⟩, List.mem_of_getElem? (i := 1166) (by decide +kernel), List.mem_of_getElem? (i := 1721) (by decide +kernel), List.mem_of_getElem? (i := 1722) (by decide +kernel)⟩
theorem lw_p159 : lw_okq (⟨"ReadAloudModel", "look", "(I)I"⟩, 52) := ⟨⟨by decide +kernel, by decide +kernel⟩, List.mem_of_getElem? (i := 1166) (by decide +kernel), List.mem_of_getElem? (i := 1729) (by decide +kernel), List.mem_of_getElem? (i := 1730) (by decide +kernel)⟩
def lw_privs_10 : List (MethodName × Nat) := [(⟨"ReadAloudModel", "stays", "(I)I"⟩, 52), (⟨"ReadAloudModel", "fallAway", "(I)I"⟩, 52), (⟨"ReadAloudModel", "tail", "(II)I"⟩, 52), (⟨"ReadAloudModel", "longest", "(IZ)I"⟩, 52), (⟨"ReadAloudModel", "layDrifts", "()V"⟩, 52), (⟨"ReadAloudModel", "everybody", "()I"⟩, 52), (⟨"ReadAloudModel", "best", "(IIZ)V"⟩, 52), (⟨"ReadAloudModel", "rotaAt", "(II)I"⟩, 52), (⟨"ReadAloudModel", "wordsIn", "(II)I"⟩, 52), (⟨"ReadAloudModel", "hasSight", "(I)Z"⟩, 52), (⟨"ReadAloudModel", "facts", "()I"⟩, 52), (⟨"ReadAloudModel", "factOf", "(II)I"⟩, 52), (⟨"ReadAloudModel", "findRows", "(I)V"⟩, 52), (⟨"ReadAloudModel", "mayBe", "(II)Z"⟩, 52), (⟨"ReadAloudModel", "allRows", "()I"⟩, 52), (⟨"ReadAloudModel", "look", "(I)I"⟩, 52)]
theorem lw_r10 : ∀ q ∈ lw_privs_10, lw_okq q := List.forall_mem_cons.mpr ⟨lw_p144, List.forall_mem_cons.mpr ⟨lw_p145, List.forall_mem_cons.mpr ⟨lw_p146, List.forall_mem_cons.mpr ⟨lw_p147, List.forall_mem_cons.mpr ⟨lw_p148, List.forall_mem_cons.mpr ⟨lw_p149, List.forall_mem_cons.mpr ⟨lw_p150, List.forall_mem_cons.mpr ⟨lw_p151, List.forall_mem_cons.mpr ⟨lw_p152, List.forall_mem_cons.mpr ⟨lw_p153, List.forall_mem_cons.mpr ⟨lw_p154, List.forall_mem_cons.mpr ⟨lw_p155, List.forall_mem_cons.mpr ⟨lw_p156, List.forall_mem_cons.mpr ⟨lw_p157, List.forall_mem_cons.mpr ⟨lw_p158, List.forall_mem_cons.mpr ⟨lw_p159, fun _ h => absurd h List.not_mem_nil⟩⟩⟩⟩⟩⟩⟩⟩⟩⟩⟩⟩⟩⟩⟩⟩
theorem lw_p160 : lw_okq (⟨"ReadAloudModel", "rowsOf", "(II)I"⟩, 52) := ⟨⟨by decide +kernel, by decide +kernel⟩, List.mem_of_getElem? (i := 1166) (by decide +kernel), List.mem_of_getElem? (i := 1733) (by decide +kernel), List.mem_of_getElem? (i := 1734) (by decide +kernel)⟩
theorem lw_p161 : lw_okq (⟨"ReadAloudModel", "drawDeed", "()V"⟩, 52) := ⟨⟨by decide +kernel, by decide +kernel⟩, List.mem_of_getElem? (i := 1166) (by decide +kernel), List.mem_of_getElem? (i := 1741) (by decide +kernel), List.mem_of_getElem? (i := 1742) (by decide +kernel)⟩
theorem lw_p162 : lw_okq (⟨"ReadAloudModel", "draw", "(I)I"⟩, 52) := ⟨⟨by decide +kernel, by decide +kernel⟩, List.mem_of_getElem? (i := 1166) (by decide +kernel), List.mem_of_getElem? (i := 1745) (by decide +kernel), List.mem_of_getElem? (i := 1746) (by decide +kernel)⟩
theorem lw_p163 : lw_okq (⟨"ReadAloudModel", "kinRing", "(I)I"⟩, 52) := ⟨⟨by decide +kernel, by decide +kernel⟩, List.mem_of_getElem? (i := 1166) (by decide +kernel), List.mem_of_getElem? (i := 1754) (by decide +kernel), List.mem_of_getElem? (i := 1755) (by decide +kernel)⟩
theorem lw_p164 : lw_okq (⟨"ReadAloudModel", "someOf", "(II)I"⟩, 52) := ⟨⟨by decide +kernel, by decide +kernel⟩, List.mem_of_getElem? (i := 1166) (by decide +kernel), List.mem_of_getElem? (i := 1762) (by decide +kernel), List.mem_of_getElem? (i := 1763) (by decide +kernel)⟩
theorem lw_p165 : lw_okq (⟨"ReadAloudModel", "isLeft", "(II)Z"⟩, 52) := ⟨⟨by decide +kernel, by decide +kernel⟩, List.mem_of_getElem? (i := 1166) (by decide +kernel), List.mem_of_getElem? (i := 1766) (by decide +kernel), List.mem_of_getElem? (i := 1767) (by decide +kernel)⟩
theorem lw_p166 : lw_okq (⟨"ReadAloudModel", "findCircles", "()I"⟩, 52) := ⟨⟨by decide +kernel, by decide +kernel⟩, List.mem_of_getElem? (i := 1166) (by decide +kernel), List.mem_of_getElem? (i := 1794) (by decide +kernel), List.mem_of_getElem? (i := 1795) (by decide +kernel)⟩
theorem lw_p167 : lw_okq (⟨"ReadAloudModel", "layBack", "()V"⟩, 52) := ⟨⟨by decide +kernel, by decide +kernel⟩, List.mem_of_getElem? (i := 1166) (by decide +kernel), List.mem_of_getElem? (i := 1798) (by decide +kernel), List.mem_of_getElem? (i := 1799) (by decide +kernel)⟩
theorem lw_p168 : lw_okq (⟨"ReadAloudModel", "goDeep", "(II)I"⟩, 52) := ⟨⟨by decide +kernel, by decide +kernel⟩, List.mem_of_getElem? (i := 1166) (by decide +kernel), List.mem_of_getElem? (i := 1802) (by decide +kernel), List.mem_of_getElem? (i := 1803) (by decide +kernel)⟩
theorem lw_p169 : lw_okq (⟨"ReadAloudModel", "goBack", "(II)V"⟩, 52) := ⟨⟨by decide +kernel, by decide +kernel⟩, List.mem_of_getElem? (i := 1166) (by decide +kernel), List.mem_of_getElem? (i := 1806) (by decide +kernel), List.mem_of_getElem? (i := 1807) (by decide +kernel)⟩
theorem lw_p170 : lw_okq (⟨"ReadAloudModel", "copyAll", "(II)V"⟩, 52) := ⟨⟨by decide +kernel, by decide +kernel⟩, List.mem_of_getElem? (i := 1166) (by decide +kernel), List.mem_of_getElem? (i := 1818) (by decide +kernel), List.mem_of_getElem? (i := 1819) (by decide +kernel)⟩
def lw_privs_11 : List (MethodName × Nat) := [(⟨"ReadAloudModel", "rowsOf", "(II)I"⟩, 52), (⟨"ReadAloudModel", "drawDeed", "()V"⟩, 52), (⟨"ReadAloudModel", "draw", "(I)I"⟩, 52), (⟨"ReadAloudModel", "kinRing", "(I)I"⟩, 52), (⟨"ReadAloudModel", "someOf", "(II)I"⟩, 52), (⟨"ReadAloudModel", "isLeft", "(II)Z"⟩, 52), (⟨"ReadAloudModel", "findCircles", "()I"⟩, 52), (⟨"ReadAloudModel", "layBack", "()V"⟩, 52), (⟨"ReadAloudModel", "goDeep", "(II)I"⟩, 52), (⟨"ReadAloudModel", "goBack", "(II)V"⟩, 52), (⟨"ReadAloudModel", "copyAll", "(II)V"⟩, 52)]
theorem lw_r11 : ∀ q ∈ lw_privs_11, lw_okq q := List.forall_mem_cons.mpr ⟨lw_p160, List.forall_mem_cons.mpr ⟨lw_p161, List.forall_mem_cons.mpr ⟨lw_p162, List.forall_mem_cons.mpr ⟨lw_p163, List.forall_mem_cons.mpr ⟨lw_p164, List.forall_mem_cons.mpr ⟨lw_p165, List.forall_mem_cons.mpr ⟨lw_p166, List.forall_mem_cons.mpr ⟨lw_p167, List.forall_mem_cons.mpr ⟨lw_p168, List.forall_mem_cons.mpr ⟨lw_p169, List.forall_mem_cons.mpr ⟨lw_p170, fun _ h => absurd h List.not_mem_nil⟩⟩⟩⟩⟩⟩⟩⟩⟩⟩⟩
def lw_privs : List (MethodName × Nat) := lw_privs_1 ++ (lw_privs_2 ++ (lw_privs_3 ++ (lw_privs_4 ++ (lw_privs_5 ++ (lw_privs_6 ++ (lw_privs_7 ++ (lw_privs_8 ++ (lw_privs_9 ++ (lw_privs_10 ++ (lw_privs_11))))))))))
def lw_tbl : List Cond := k2_sels lw_privs ++ tables_1
theorem lw_privs_ok : ∀ q ∈ lw_privs, lw_okq q := by
  show ∀ q ∈ lw_privs_1 ++ (lw_privs_2 ++ (lw_privs_3 ++ (lw_privs_4 ++ (lw_privs_5 ++ (lw_privs_6 ++ (lw_privs_7 ++ (lw_privs_8 ++ (lw_privs_9 ++ (lw_privs_10 ++ (lw_privs_11)))))))))), lw_okq q
  exact List.forall_mem_append.mpr ⟨lw_r1, List.forall_mem_append.mpr ⟨lw_r2, List.forall_mem_append.mpr ⟨lw_r3, List.forall_mem_append.mpr ⟨lw_r4, List.forall_mem_append.mpr ⟨lw_r5, List.forall_mem_append.mpr ⟨lw_r6, List.forall_mem_append.mpr ⟨lw_r7, List.forall_mem_append.mpr ⟨lw_r8, List.forall_mem_append.mpr ⟨lw_r9, List.forall_mem_append.mpr ⟨lw_r10, lw_r11⟩⟩⟩⟩⟩⟩⟩⟩⟩⟩
def RX0 : String := "ReadAloud$Book"
def TX0 : u_T := fun k => match k with
  | 0 => ("ReadAloud$Book", "number", "I", false)
  | 1 => ("ReadAloud$Book", "readers", "I", false)
  | 2 => ("ReadAloud$Book", "kinOf", "I", false)
  | 3 => ("ReadAloud$Book", "kin", "[I", true)
  | 4 => ("ReadAloud$Book", "steps", "[I", true)
  | 5 => ("ReadAloud$Book", "stepKinds", "[I", true)
  | _ => ("ReadAloud$Book", "stepNumbers", "[I", true)
def tyX0 : Nat → FieldType := fun k => match k with
  | 0 => .int
  | 1 => .int
  | 2 => .int
  | 3 => .array .int
  | 4 => .array .int
  | 5 => .array .int
  | _ => .array .int
theorem nmX0 : ∀ a, a < 7 → ∀ b, b < 7 → a ≠ b → (TX0 a).2.1 ≠ (TX0 b).2.1 := by decide +kernel
theorem tyX0_ok : ∀ k, k < 7 → parseFieldDescriptor (TX0 k).2.2.1 = some (tyX0 k) := by decide +kernel
def RX1 : String := "ReadAloud$Course"
def TX1 : u_T := fun k => match k with
  | 0 => ("ReadAloud$Course", "book", "LReadAloud$Book;", false)
  | 1 => ("ReadAloud$Course", "day", "I", false)
  | 2 => ("ReadAloud$Course", "sealed", "I", false)
  | 3 => ("ReadAloud$Course", "hushed", "I", false)
  | 4 => ("ReadAloud$Course", "seed", "I", false)
  | 5 => ("ReadAloud$Course", "copies", "[I", true)
  | _ => ("ReadAloud$Course", "timesRead", "[I", true)
def tyX1 : Nat → FieldType := fun k => match k with
  | 0 => .object "ReadAloud$Book"
  | 1 => .int
  | 2 => .int
  | 3 => .int
  | 4 => .int
  | 5 => .array .int
  | _ => .array .int
theorem nmX1 : ∀ a, a < 7 → ∀ b, b < 7 → a ≠ b → (TX1 a).2.1 ≠ (TX1 b).2.1 := by decide +kernel
theorem tyX1_ok : ∀ k, k < 7 → parseFieldDescriptor (TX1 k).2.2.1 = some (tyX1 k) := by decide +kernel
def RX2 : String := "ReadAloud$Levels"
def TX2 : u_T := fun k => match k with
  | 0 => ("ReadAloud$Levels", "readings", "LReadAloud$Readings;", false)
  | 1 => ("ReadAloud$Levels", "n", "I", false)
  | 2 => ("ReadAloud$Levels", "first", "I", false)
  | 3 => ("ReadAloud$Levels", "second", "I", false)
  | 4 => ("ReadAloud$Levels", "start", "[I", true)
  | 5 => ("ReadAloud$Levels", "wanted", "[I", true)
  | 6 => ("ReadAloud$Levels", "texts", "[I", true)
  | 7 => ("ReadAloud$Levels", "ways", "[I", true)
  | 8 => ("ReadAloud$Levels", "worth", "[I", true)
  | _ => ("ReadAloud$Levels", "nodeOf", "[I", true)
def tyX2 : Nat → FieldType := fun k => match k with
  | 0 => .object "ReadAloud$Readings"
  | 1 => .int
  | 2 => .int
  | 3 => .int
  | 4 => .array .int
  | 5 => .array .int
  | 6 => .array .int
  | 7 => .array .int
  | 8 => .array .int
  | _ => .array .int
theorem nmX2 : ∀ a, a < 10 → ∀ b, b < 10 → a ≠ b → (TX2 a).2.1 ≠ (TX2 b).2.1 := by decide +kernel
theorem tyX2_ok : ∀ k, k < 10 → parseFieldDescriptor (TX2 k).2.2.1 = some (tyX2 k) := by decide +kernel
def RX3 : String := "ReadAloud$Lines"
def TX3 : u_T := fun k => match k with
  | _ => ("", "", "", false)
def tyX3 : Nat → FieldType := fun k => match k with
  | _ => .int
theorem nmX3 : ∀ a, a < 0 → ∀ b, b < 0 → a ≠ b → (TX3 a).2.1 ≠ (TX3 b).2.1 := by decide +kernel
theorem tyX3_ok : ∀ k, k < 0 → parseFieldDescriptor (TX3 k).2.2.1 = some (tyX3 k) := by decide +kernel
def RX4 : String := "ReadAloud$Readings"
def TX4 : u_T := fun k => match k with
  | 0 => ("ReadAloud$Readings", "book", "LReadAloud$Book;", false)
  | 1 => ("ReadAloud$Readings", "known", "[I", true)
  | 2 => ("ReadAloud$Readings", "marks", "[B", false)
  | _ => ("ReadAloud$Readings", "spare", "[B", false)
def tyX4 : Nat → FieldType := fun k => match k with
  | 0 => .object "ReadAloud$Book"
  | 1 => .array .int
  | 2 => .array .byte
  | _ => .array .byte
theorem nmX4 : ∀ a, a < 4 → ∀ b, b < 4 → a ≠ b → (TX4 a).2.1 ≠ (TX4 b).2.1 := by decide +kernel
theorem tyX4_ok : ∀ k, k < 4 → parseFieldDescriptor (TX4 k).2.2.1 = some (tyX4 k) := by decide +kernel
def RX5 : String := "ReadAloud$Rings"
def TX5 : u_T := fun k => match k with
  | 0 => ("ReadAloud$Rings", "answers", "[I", true)
  | 1 => ("ReadAloud$Rings", "circles", "I", false)
  | 2 => ("ReadAloud$Rings", "largest", "I", false)
  | 3 => ("ReadAloud$Rings", "found", "I", false)
  | 4 => ("ReadAloud$Rings", "open", "I", false)
  | 5 => ("ReadAloud$Rings", "depth", "I", false)
  | 6 => ("ReadAloud$Rings", "leading", "[I", true)
  | 7 => ("ReadAloud$Rings", "outside", "[I", true)
  | 8 => ("ReadAloud$Rings", "readBefore", "[I", true)
  | 9 => ("ReadAloud$Rings", "way", "[I", true)
  | 10 => ("ReadAloud$Rings", "opened", "[I", true)
  | 11 => ("ReadAloud$Rings", "order", "[I", true)
  | 12 => ("ReadAloud$Rings", "earliest", "[I", true)
  | 13 => ("ReadAloud$Rings", "tried", "[I", true)
  | _ => ("ReadAloud$Rings", "sizeOf", "[I", true)
def tyX5 : Nat → FieldType := fun k => match k with
  | 0 => .array .int
  | 1 => .int
  | 2 => .int
  | 3 => .int
  | 4 => .int
  | 5 => .int
  | 6 => .array .int
  | 7 => .array .int
  | 8 => .array .int
  | 9 => .array .int
  | 10 => .array .int
  | 11 => .array .int
  | 12 => .array .int
  | 13 => .array .int
  | _ => .array .int
theorem nmX5 : ∀ a, a < 15 → ∀ b, b < 15 → a ≠ b → (TX5 a).2.1 ≠ (TX5 b).2.1 := by decide +kernel
theorem tyX5_ok : ∀ k, k < 15 → parseFieldDescriptor (TX5 k).2.2.1 = some (tyX5 k) := by decide +kernel
def RX6 : String := "ReadAloud$Sight"
def TX6 : u_T := fun k => match k with
  | 0 => ("ReadAloud$Sight", "facts", "I", false)
  | 1 => ("ReadAloud$Sight", "behind", "[I", true)
  | _ => ("ReadAloud$Sight", "numbers", "[I", true)
def tyX6 : Nat → FieldType := fun k => match k with
  | 0 => .int
  | 1 => .array .int
  | _ => .array .int
theorem nmX6 : ∀ a, a < 3 → ∀ b, b < 3 → a ≠ b → (TX6 a).2.1 ≠ (TX6 b).2.1 := by decide +kernel
theorem tyX6_ok : ∀ k, k < 3 → parseFieldDescriptor (TX6 k).2.2.1 = some (tyX6 k) := by decide +kernel
def RX7 : String := "ReadAloud$Teller"
def TX7 : u_T := fun k => match k with
  | 0 => ("ReadAloud$Teller", "tape", "[B", false)
  | 1 => ("ReadAloud$Teller", "length", "I", false)
  | 2 => ("ReadAloud$Teller", "at", "I", false)
  | 3 => ("ReadAloud$Teller", "kind", "I", false)
  | 4 => ("ReadAloud$Teller", "start", "I", false)
  | 5 => ("ReadAloud$Teller", "value", "I", false)
  | 6 => ("ReadAloud$Teller", "fault", "I", false)
  | _ => ("ReadAloud$Teller", "place", "I", false)
def tyX7 : Nat → FieldType := fun k => match k with
  | 0 => .array .byte
  | 1 => .int
  | 2 => .int
  | 3 => .int
  | 4 => .int
  | 5 => .int
  | 6 => .int
  | _ => .int
theorem nmX7 : ∀ a, a < 8 → ∀ b, b < 8 → a ≠ b → (TX7 a).2.1 ≠ (TX7 b).2.1 := by decide +kernel
theorem tyX7_ok : ∀ k, k < 8 → parseFieldDescriptor (TX7 k).2.2.1 = some (tyX7 k) := by decide +kernel
def RX8 : String := "ReadAloud$Told"
def TX8 : u_T := fun k => match k with
  | 0 => ("ReadAloud$Told", "tape", "[B", true)
  | 1 => ("ReadAloud$Told", "length", "I", false)
  | 2 => ("ReadAloud$Told", "fault", "I", false)
  | 3 => ("ReadAloud$Told", "place", "I", false)
  | 4 => ("ReadAloud$Told", "counts", "[I", true)
  | 5 => ("ReadAloud$Told", "books", "[LReadAloud$Book;", true)
  | 6 => ("ReadAloud$Told", "years", "[LReadAloud$Year;", true)
  | _ => ("ReadAloud$Told", "sights", "[LReadAloud$Sight;", true)
def tyX8 : Nat → FieldType := fun k => match k with
  | 0 => .array .byte
  | 1 => .int
  | 2 => .int
  | 3 => .int
  | 4 => .array .int
  | 5 => .array (.object "ReadAloud$Book")
  | 6 => .array (.object "ReadAloud$Year")
  | _ => .array (.object "ReadAloud$Sight")
theorem nmX8 : ∀ a, a < 8 → ∀ b, b < 8 → a ≠ b → (TX8 a).2.1 ≠ (TX8 b).2.1 := by decide +kernel
theorem tyX8_ok : ∀ k, k < 8 → parseFieldDescriptor (TX8 k).2.2.1 = some (tyX8 k) := by decide +kernel
def RX9 : String := "ReadAloud$Walk"
def TX9 : u_T := fun k => match k with
  | 0 => ("ReadAloud$Walk", "size", "I", false)
  | 1 => ("ReadAloud$Walk", "queue", "[I", true)
  | 2 => ("ReadAloud$Walk", "needed", "[I", true)
  | 3 => ("ReadAloud$Walk", "back", "[I", true)
  | _ => ("ReadAloud$Walk", "reader", "[I", true)
def tyX9 : Nat → FieldType := fun k => match k with
  | 0 => .int
  | 1 => .array .int
  | 2 => .array .int
  | 3 => .array .int
  | _ => .array .int
theorem nmX9 : ∀ a, a < 5 → ∀ b, b < 5 → a ≠ b → (TX9 a).2.1 ≠ (TX9 b).2.1 := by decide +kernel
theorem tyX9_ok : ∀ k, k < 5 → parseFieldDescriptor (TX9 k).2.2.1 = some (tyX9 k) := by decide +kernel
def RX10 : String := "ReadAloud$Year"
def TX10 : u_T := fun k => match k with
  | 0 => ("ReadAloud$Year", "deeds", "I", false)
  | 1 => ("ReadAloud$Year", "kinds", "[I", true)
  | 2 => ("ReadAloud$Year", "ones", "[I", true)
  | _ => ("ReadAloud$Year", "others", "[I", true)
def tyX10 : Nat → FieldType := fun k => match k with
  | 0 => .int
  | 1 => .array .int
  | 2 => .array .int
  | _ => .array .int
theorem nmX10 : ∀ a, a < 4 → ∀ b, b < 4 → a ≠ b → (TX10 a).2.1 ≠ (TX10 b).2.1 := by decide +kernel
theorem tyX10_ok : ∀ k, k < 4 → parseFieldDescriptor (TX10 k).2.2.1 = some (tyX10 k) := by decide +kernel
def RX11 : String := "ReadAloud"
def TX11 : u_T := fun k => match k with
  | 0 => ("ReadAloud", "told", "LReadAloud$Told;", true)
  | 1 => ("ReadAloud", "images", "[LReadAloud$Told;", true)
  | 2 => ("ReadAloud", "teller", "LReadAloud$Teller;", true)
  | 3 => ("ReadAloud", "course", "LReadAloud$Course;", true)
  | 4 => ("ReadAloud", "readings", "[LReadAloud$Readings;", true)
  | 5 => ("ReadAloud", "walks", "[LReadAloud$Walk;", true)
  | 6 => ("ReadAloud", "levels", "LReadAloud$Levels;", false)
  | _ => ("ReadAloud", "rings", "LReadAloud$Rings;", false)
def tyX11 : Nat → FieldType := fun k => match k with
  | 0 => .object "ReadAloud$Told"
  | 1 => .array (.object "ReadAloud$Told")
  | 2 => .object "ReadAloud$Teller"
  | 3 => .object "ReadAloud$Course"
  | 4 => .array (.object "ReadAloud$Readings")
  | 5 => .array (.object "ReadAloud$Walk")
  | 6 => .object "ReadAloud$Levels"
  | _ => .object "ReadAloud$Rings"
theorem nmX11 : ∀ a, a < 8 → ∀ b, b < 8 → a ≠ b → (TX11 a).2.1 ≠ (TX11 b).2.1 := by decide +kernel
theorem tyX11_ok : ∀ k, k < 8 → parseFieldDescriptor (TX11 k).2.2.1 = some (tyX11 k) := by decide +kernel
def RX12 : String := "ReadAloudModel"
def TX12 : u_T := fun k => match k with
  | 0 => ("ReadAloudModel", "code", "I", false)
  | 1 => ("ReadAloudModel", "tape", "[B", true)
  | 2 => ("ReadAloudModel", "size", "[I", true)
  | 3 => ("ReadAloudModel", "fault", "[I", true)
  | 4 => ("ReadAloudModel", "faultPlace", "[I", true)
  | 5 => ("ReadAloudModel", "many", "[I", true)
  | 6 => ("ReadAloudModel", "books", "[I", true)
  | 7 => ("ReadAloudModel", "years", "[I", true)
  | 8 => ("ReadAloudModel", "sights", "[I", true)
  | 9 => ("ReadAloudModel", "reached", "I", false)
  | 10 => ("ReadAloudModel", "length", "I", false)
  | 11 => ("ReadAloudModel", "begins", "I", false)
  | 12 => ("ReadAloudModel", "sort", "I", false)
  | 13 => ("ReadAloudModel", "value", "I", false)
  | 14 => ("ReadAloudModel", "word", "J", false)
  | 15 => ("ReadAloudModel", "wrongAt", "I", false)
  | 16 => ("ReadAloudModel", "laterFault", "I", false)
  | 17 => ("ReadAloudModel", "laterPlace", "I", false)
  | 18 => ("ReadAloudModel", "told", "[I", true)
  | 19 => ("ReadAloudModel", "read", "[I", true)
  | 20 => ("ReadAloudModel", "book", "I", false)
  | 21 => ("ReadAloudModel", "madeOf", "I", false)
  | 22 => ("ReadAloudModel", "base", "I", false)
  | 23 => ("ReadAloudModel", "readers", "I", false)
  | 24 => ("ReadAloudModel", "words", "[I", true)
  | 25 => ("ReadAloudModel", "others", "[I", true)
  | 26 => ("ReadAloudModel", "lasts", "I", false)
  | 27 => ("ReadAloudModel", "drifts", "[I", true)
  | 28 => ("ReadAloudModel", "year", "I", false)
  | 29 => ("ReadAloudModel", "copies", "[I", true)
  | 30 => ("ReadAloudModel", "often", "[I", true)
  | 31 => ("ReadAloudModel", "day", "I", false)
  | 32 => ("ReadAloudModel", "sealed", "I", false)
  | 33 => ("ReadAloudModel", "hushed", "I", false)
  | 34 => ("ReadAloudModel", "made", "[I", true)
  | 35 => ("ReadAloudModel", "far", "[I", true)
  | 36 => ("ReadAloudModel", "far2", "[I", true)
  | 37 => ("ReadAloudModel", "order", "[I", true)
  | 38 => ("ReadAloudModel", "come", "I", false)
  | 39 => ("ReadAloudModel", "comes", "[I", true)
  | 40 => ("ReadAloudModel", "least", "[I", true)
  | 41 => ("ReadAloudModel", "sight", "I", false)
  | 42 => ("ReadAloudModel", "ways", "[I", true)
  | 43 => ("ReadAloudModel", "onward", "[I", true)
  | 44 => ("ReadAloudModel", "seed", "I", false)
  | 45 => ("ReadAloudModel", "under", "[I", true)
  | 46 => ("ReadAloudModel", "tried", "[I", true)
  | 47 => ("ReadAloudModel", "circle", "[I", true)
  | 48 => ("ReadAloudModel", "sizes", "[I", true)
  | 49 => ("ReadAloudModel", "firstTo", "[I", true)
  | 50 => ("ReadAloudModel", "nextTo", "[I", true)
  | _ => ("ReadAloudModel", "kept", "[Z", true)
def tyX12 : Nat → FieldType := fun k => match k with
  | 0 => .int
  | 1 => .array .byte
  | 2 => .array .int
  | 3 => .array .int
  | 4 => .array .int
  | 5 => .array .int
  | 6 => .array .int
  | 7 => .array .int
  | 8 => .array .int
  | 9 => .int
  | 10 => .int
  | 11 => .int
  | 12 => .int
  | 13 => .int
  | 14 => .long
  | 15 => .int
  | 16 => .int
  | 17 => .int
  | 18 => .array .int
  | 19 => .array .int
  | 20 => .int
  | 21 => .int
  | 22 => .int
  | 23 => .int
  | 24 => .array .int
  | 25 => .array .int
  | 26 => .int
  | 27 => .array .int
  | 28 => .int
  | 29 => .array .int
  | 30 => .array .int
  | 31 => .int
  | 32 => .int
  | 33 => .int
  | 34 => .array .int
  | 35 => .array .int
  | 36 => .array .int
  | 37 => .array .int
  | 38 => .int
  | 39 => .array .int
  | 40 => .array .int
  | 41 => .int
  | 42 => .array .int
  | 43 => .array .int
  | 44 => .int
  | 45 => .array .int
  | 46 => .array .int
  | 47 => .array .int
  | 48 => .array .int
  | 49 => .array .int
  | 50 => .array .int
  | _ => .array .boolean
theorem nmX12 : ∀ a, a < 52 → ∀ b, b < 52 → a ≠ b → (TX12 a).2.1 ≠ (TX12 b).2.1 := by decide +kernel
theorem tyX12_ok : ∀ k, k < 52 → parseFieldDescriptor (TX12 k).2.2.1 = some (tyX12 k) := by decide +kernel
def RL : String := "ReadAloudLaw"
end
section
/-! THE PURE MACHINE: a world is a list of cells, an address its place in the list; a method's run as a least fixed point. -/
abbrev zL : Type := List (Option Value)
abbrev zW : Type := List va_E
abbrev zS : Type := Nat × zL × List Value × zW × Nat × Nat
abbrev zE : Type := Nat × Instr × Nat × Nat × Nat
/-- name, bytes, locals, what it returns, its class's number, its rows -/
abbrev zM : Type := MethodName × ByteArray × Nat × Option FieldType × Nat × List zE
abbrev zQ : Type := Option Value → zW → Prop
abbrev zX : Type := Option (Nat × (Nat → Int32))
abbrev zCT : Type := Nat → List Value → zW → Nat → Nat → zQ → Prop
def zcls : List vw_C := [(RX0, TX0, 7), (RX1, TX1, 7), (RX2, TX2, 10), (RX4, TX4, 4), (RX5, TX5, 15), (RX6, TX6, 3), (RX7, TX7, 8), (RX8, TX8, 8), (RX9, TX9, 5), (RX10, TX10, 4), (RX11, TX11, 8), (RX12, TX12, 52)]
def ztyf : Nat → Nat → FieldType := fun i => match i with
  | 0 => tyX0
  | 1 => tyX1
  | 2 => tyX2
  | 3 => tyX4
  | 4 => tyX5
  | 5 => tyX6
  | 6 => tyX7
  | 7 => tyX8
  | 8 => tyX9
  | 9 => tyX10
  | 10 => tyX11
  | _ => tyX12
def zix {α : Type} : List α → Nat → Option α
  | [], _ => none
  | x :: _, 0 => some x
  | _ :: t, n + 1 => zix t n
theorem zix_eq {α : Type} : ∀ (l : List α) (i : Nat), zix l i = l[i]?
  | [], _ => rfl
  | _ :: _, 0 => rfl
  | _ :: t, n + 1 => by rw [List.getElem?_cons_succ]; exact zix_eq t n
def zst {α : Type} : List α → Nat → α → List α
  | [], _, _ => []
  | _ :: t, 0, v => v :: t
  | x :: t, n + 1, v => x :: zst t n v
theorem zst_eq {α : Type} : ∀ (l : List α) (i : Nat) (v : α), zst l i v = l.set i v
  | [], _, _ => rfl
  | _ :: _, 0, _ => rfl
  | x :: t, n + 1, v => by rw [List.set_cons_succ]; exact congrArg (x :: ·) (zst_eq t n v)
def zcn (i : Nat) : String := match zix zcls i with
  | some q => q.1
  | none => ""
def zcN (i : Nat) : Nat := match zix zcls i with
  | some q => q.2.2
  | none => 0
def zcf (i k : Nat) : String × String × String × Bool := match zix zcls i with
  | some q => q.2.1 k
  | none => ("", "", "", false)
/-- the arrays' kinds -/
def zats : List FieldType := [.byte, .int, .boolean, .object "ReadAloud$Book", .object "ReadAloud$Year", .object "ReadAloud$Sight", .object "ReadAloud$Told", .object "ReadAloud$Readings", .object "ReadAloud$Walk"]
/-- the class of an array's elements -/
def zec : Nat → Nat := fun i => match i with
  | 3 => 0
  | 4 => 9
  | 5 => 5
  | 6 => 7
  | 7 => 3
  | 8 => 8
  | _ => 99
def zdv : FieldType → Value := defaultValue
def zdl : Nat → Nat → (Nat → FieldType) → List Value
  | 0, _, _ => []
  | n + 1, i, f => zdv (f i) :: zdl n (i + 1) f
def zdf (ci : Nat) : List Value := zdl (zcN ci) 0 (ztyf ci)
def zda (ti n : Nat) : vp_A := match Nat.ble ti 2 with
  | true => (n, .inl (fun _ => 0))
  | false => (n, .inr (.inr (.inr (.inr (fun _ => none)))))
def zfit (ty : FieldType) (v : Value) : Bool := match ty with
  | .int => match v with
    | .int _ => true
    | _ => false
  | .long => match v with
    | .long _ => true
    | _ => false
  | .object _ => match v with
    | .ref _ => true
    | .null => true
    | _ => false
  | .array _ => match v with
    | .ref _ => true
    | .null => true
    | _ => false
  | _ => false
def zat : List zE → Nat → Option (Instr × Nat × Nat × Nat)
  | [], _ => none
  | e :: t, pc => match Nat.beq e.1 pc with
    | true => some e.2
    | false => zat t pc
def zget : zL → Nat → Option Value
  | [], _ => none
  | x :: _, 0 => x
  | _ :: t, n + 1 => zget t n
def zput : zL → Nat → Option Value → zL
  | [], _, _ => []
  | _ :: t, 0, v => v :: t
  | x :: t, n + 1, v => x :: zput t n v
def zc2 (v : Option Value) : Bool := match v with
  | some (.long _) => true
  | some (.double _) => true
  | _ => false
def zfree (L : zL) (i : Nat) : Bool := match i with
  | 0 => true
  | j + 1 => match zc2 (zget L j) with
    | true => false
    | false => true
def zrm (S : List Value) : Bool := Nat.ble (S.map fun v => v.category).sum 8
def zbr (c : Jvm.ClassFile.Cond) (x y : Int32) (A B : Prop) : Prop := match c with
  | .eq => (x = y → A) ∧ (¬ x = y → B)
  | .ne => (¬ x = y → A) ∧ (x = y → B)
  | .lt => (x < y → A) ∧ (¬ x < y → B)
  | .ge => (y ≤ x → A) ∧ (¬ y ≤ x → B)
  | .gt => (y < x → A) ∧ (¬ y < x → B)
  | .le => (x ≤ y → A) ∧ (¬ x ≤ y → B)
def zbr0 (c : Jvm.ClassFile.Cond) (x : Int32) (A B : Prop) : Prop := match c with
  | .eq => (x = 0 → A) ∧ (¬ x = 0 → B)
  | .ne => (¬ x = 0 → A) ∧ (x = 0 → B)
  | .lt => (x < 0 → A) ∧ (¬ x < 0 → B)
  | .ge => (0 ≤ x → A) ∧ (¬ 0 ≤ x → B)
  | .gt => (0 < x → A) ∧ (¬ 0 < x → B)
  | .le => (x ≤ 0 → A) ∧ (¬ x ≤ 0 → B)
def z1i (S : List Value) (f : Int32 → List Value → Prop) : Prop := match S with
  | .int x :: t => f x t
  | _ => False
def z2i (S : List Value) (f : Int32 → Int32 → List Value → Prop) : Prop := match S with
  | .int y :: .int x :: t => f x y t
  | _ => False
def z1l (S : List Value) (f : Int64 → List Value → Prop) : Prop := match S with
  | .long x :: t => f x t
  | _ => False
def z2l (S : List Value) (f : Int64 → Int64 → List Value → Prop) : Prop := match S with
  | .long y :: .long x :: t => f x y t
  | _ => False
def z1r (S : List Value) (f : Nat → List Value → Prop) : Prop := match S with
  | .ref q :: t => f q t
  | _ => False
def z1v (S : List Value) (f : Value → List Value → Prop) : Prop := match S with
  | v :: t => f v t
  | _ => False
/-- a value above a reference -/
def zvr (S : List Value) (f : Value → Nat → List Value → Prop) : Prop := match S with
  | v :: .ref q :: t => f v q t
  | _ => False
/-- an index above an array -/
def zia (S : List Value) (f : Int32 → Nat → List Value → Prop) (g : Int32 → List Value → Prop) : Prop := match S with
  | .int i :: .ref q :: t => f i q t
  | .int i :: .retAddr _ :: t => g i t
  | _ => False
/-- a value above an index above an array -/
def zvia (S : List Value) (f : Value → Int32 → Nat → List Value → Prop) : Prop := match S with
  | v :: .int i :: .ref q :: t => f v i q t
  | _ => False
/-- a condition that is reckoned -/
def zif (b : Bool) (A : Prop) : Prop := match b with
  | true => A
  | false => False
def zli (L : zL) (j : Nat) (f : Int32 → Prop) : Prop := match zget L j with
  | some (.int x) => f x
  | _ => False
def zll (L : zL) (j : Nat) (f : Int64 → Prop) : Prop := match zget L j with
  | some (.long x) => f x
  | _ => False
def zla (L : zL) (j : Nat) (f : Value → Prop) : Prop := match zget L j with
  | some (.ref q) => f (.ref q)
  | some .null => f .null
  | some (.retAddr q) => f (.retAddr q)
  | _ => False
/-- an object of a class -/
def zob (w : zW) (q ci : Nat) (f : List Value → Prop) : Prop := match zix w q with
  | some (.inr (c, fs)) => zif (Nat.beq c ci) (f fs)
  | _ => False
def zai (w : zW) (q : Nat) (f : Nat → Nat → (Nat → Int32) → Prop) : Prop := match zix w q with
  | some (.inl (ti, len, .inl g)) => f ti len g
  | _ => False
def zaq (w : zW) (q : Nat) (f : Nat → Nat → (Nat → Option Nat) → Prop) : Prop := match zix w q with
  | some (.inl (ti, len, .inr (.inr (.inr (.inr g))))) => f ti len g
  | _ => False
def zin1 (S : List Value) (f : Value → Prop) : Prop := match S with
  | [v] => f v
  | _ => False
def zret (r : Option FieldType) (v : Value) : Prop := match v with
  | .int x => match r with
    | some .int => True
    | some .boolean => x = 0 ∨ x = 1
    | _ => False
  | .long _ => match r with
    | some .long => True
    | _ => False
  | .ref _ => match r with
    | some (.object _) => True
    | _ => False
  | .null => match r with
    | some (.object _) => True
    | _ => False
  | _ => False
/-- an int above a long -/
def zil (S : List Value) (f : Int64 → Int32 → List Value → Prop) : Prop := match S with
  | .int y :: .long x :: t => f x y t
  | _ => False
def zro (v : Value) : Option (Option Nat) := match v with
  | .ref q => some (some q)
  | .null => some none
  | _ => none
/-- two references, or null -/
def z2r (S : List Value) (f : Option Nat → Option Nat → List Value → Prop) : Prop := match S with
  | y :: x :: t => match zro x with
    | some rx => match zro y with
      | some ry => f rx ry t
      | none => False
    | none => False
  | _ => False
def zbra (c : Jvm.ClassFile.ACond) (x y : Option Nat) (A B : Prop) : Prop := match c with
  | .eq => (x = y → A) ∧ (¬ x = y → B)
  | .ne => (¬ x = y → A) ∧ (x = y → B)
/-- what a store of a reference takes -/
def zasv (S : List Value) (f : Value → List Value → Prop) : Prop := match S with
  | .ref q :: t => f (.ref q) t
  | .null :: t => f .null t
  | _ => False
def zvr2 (S : List Value) (f : Value → Value → List Value → Prop) : Prop := match S with
  | v :: u :: t => f v u t
  | _ => False
/-- a reference, or null -/
def zrn (S : List Value) (f g : List Value → Prop) : Prop := match S with
  | .ref _ :: t => f t
  | .null :: t => g t
  | _ => False
def zrn2 (v : Value) (f : Nat → Prop) (g : Prop) : Prop := match v with
  | .ref q => f q
  | .null => g
  | _ => False
def zfld (fs : List Value) (b : Nat) (f : Value → Prop) : Prop := match zix fs b with
  | some v => f v
  | none => False
def zext (E : zX) (f : Nat → (Nat → Int32) → Prop) : Prop := match E with
  | some q => f q.1 q.2
  | none => False
def zor (b : Bool) (A B : Prop) : Prop := match b with
  | true => A
  | false => B
def zlen1 (S : List Value) (f : List Value → Prop) : Prop := match S with
  | .retAddr _ :: t => f t
  | _ => False
def zcpy (S : List Value) (f : Nat → Int32 → Nat → Int32 → Int32 → List Value → Prop) : Prop := match S with
  | .int m :: .int dp :: .ref q1 :: .int sp :: .ref q0 :: t => f q0 sp q1 dp m t
  | _ => False
def zaty (i : Nat) : FieldType := match i with
  | 0 => .byte
  | _ => .int
def znil (S : List Value) (A : Prop) : Prop := match S with
  | [] => A
  | _ => False
def zmc (tab : List zM) (a : Nat) : Nat := match zix tab a with
  | some M => M.2.2.2.2.1
  | none => 99
/-- a method uses just its room, the law at most its room -/
def zfin (E : zX) (k n mc ms : Nat) : Prop := match E with
  | none => k = mc ∧ n ≤ ms
  | some _ => k ≤ mc ∧ n ≤ ms
/-- the call: at most so many new cells and slots, the operands below it, then on -/
def zcall (C : zCT) (a : Nat) (As : List Value) (S : List Value) (w : zW) (k n mc ms np : Nat) (L : zL) (K : zS → Prop) : Prop :=
  ∃ mc' ms' : Nat, (k + mc' ≤ mc ∧ n + ms' ≤ ms) ∧ C a As w mc' ms' (fun r w' => K (np, L, r.toList ++ S, w', k + mc', n + ms'))
def zins (C : zCT) (d : Nat) (M : zM) (E : zX) (tab : List zM) (mc ms : Nat) (Q : zQ) (pc : Nat) (L : zL) (S : List Value) (w : zW) (k n : Nat) (i : Instr) (np a b : Nat) (K : zS → Prop) : Prop := match i with
  | .iconst v => K (np, L, .int (Int32.ofInt v) :: S, w, k, n)
  | .bipush v => K (np, L, .int (Int8.ofInt v).toInt32 :: S, w, k, n)
  | .sipush v => K (np, L, .int (Int16.ofInt v).toInt32 :: S, w, k, n)
  | .ldc _ => K (np, L, .int (Int32.ofNat a) :: S, w, k, n)
  | .ldc2_w _ => K (np, L, .long (Int64.ofNat a) :: S, w, k, n)
  | .lconst v => K (np, L, .long (Int64.ofNat v.val) :: S, w, k, n)
  | .aconst_null => K (np, L, .null :: S, w, k, n)
  | .iload_n j => zli L j.val fun x => K (np, L, .int x :: S, w, k, n)
  | .iload j => zli L j fun x => K (np, L, .int x :: S, w, k, n)
  | .lload_n j => zll L j.val fun x => K (np, L, .long x :: S, w, k, n)
  | .lload j => zll L j fun x => K (np, L, .long x :: S, w, k, n)
  | .aload_n j => zla L j.val fun v => K (np, L, v :: S, w, k, n)
  | .aload j => zla L j fun v => K (np, L, v :: S, w, k, n)
  | .istore_n j => z1i S fun x t => zif (zfree L j.val) (K (np, zput L j.val (some (.int x)), t, w, k, n))
  | .istore j => z1i S fun x t => zif (zfree L j) (K (np, zput L j (some (.int x)), t, w, k, n))
  | .lstore_n j => z1l S fun x t => zif (zfree L j.val) (K (np, zput (zput L (j.val + 1) none) j.val (some (.long x)), t, w, k, n))
  | .lstore j => z1l S fun x t => zif (zfree L j) (K (np, zput (zput L (j + 1) none) j (some (.long x)), t, w, k, n))
  | .astore_n j => zasv S fun v t => zif (zfree L j.val) (K (np, zput L j.val (some v), t, w, k, n))
  | .astore j => zasv S fun v t => zif (zfree L j) (K (np, zput L j (some v), t, w, k, n))
  | .iinc j v => zli L j fun x => zif (zfree L j) (K (np, zput L j (some (.int (x + Int32.ofInt v))), S, w, k, n))
  | .iadd => z2i S fun x y t => K (np, L, .int (x + y) :: t, w, k, n)
  | .isub => z2i S fun x y t => K (np, L, .int (x - y) :: t, w, k, n)
  | .imul => z2i S fun x y t => K (np, L, .int (x * y) :: t, w, k, n)
  | .iand => z2i S fun x y t => K (np, L, .int (x &&& y) :: t, w, k, n)
  | .ior => z2i S fun x y t => K (np, L, .int (x ||| y) :: t, w, k, n)
  | .ixor => z2i S fun x y t => K (np, L, .int (x ^^^ y) :: t, w, k, n)
  | .idiv => z2i S fun x y t => ¬ y = 0 ∧ K (np, L, .int (x / y) :: t, w, k, n)
  | .irem => z2i S fun x y t => ¬ y = 0 ∧ K (np, L, .int (x - x / y * y) :: t, w, k, n)
  | .ishl => z2i S fun x y t => K (np, L, .int (x <<< (y &&& 31)) :: t, w, k, n)
  | .ishr => z2i S fun x y t => K (np, L, .int (x >>> (y &&& 31)) :: t, w, k, n)
  | .iushr => z2i S fun x y t => K (np, L, .int (x.toUInt32 >>> (y.toUInt32 &&& Int32.toUInt32 31)).toInt32 :: t, w, k, n)
  | .i2b => z1i S fun x t => K (np, L, .int x.toInt8.toInt32 :: t, w, k, n)
  | .i2l => z1i S fun x t => K (np, L, .long x.toInt64 :: t, w, k, n)
  | .ladd => z2l S fun x y t => K (np, L, .long (x + y) :: t, w, k, n)
  | .lsub => z2l S fun x y t => K (np, L, .long (x - y) :: t, w, k, n)
  | .lmul => z2l S fun x y t => K (np, L, .long (x * y) :: t, w, k, n)
  | .lor => z2l S fun x y t => K (np, L, .long (x ||| y) :: t, w, k, n)
  | .ldiv => z2l S fun x y t => ¬ y = 0 ∧ K (np, L, .long (x / y) :: t, w, k, n)
  | .lrem => z2l S fun x y t => ¬ y = 0 ∧ K (np, L, .long (x - x / y * y) :: t, w, k, n)
  | .lshl => zil S fun x y t => K (np, L, .long (x <<< (y.toInt64 &&& 63)) :: t, w, k, n)
  | .ldc_w _ => K (np, L, .int (Int32.ofNat a) :: S, w, k, n)
  | .if_acmp c _ => z2r S fun x y t => zbra c x y (K (a, L, t, w, k, n)) (K (np, L, t, w, k, n))
  | .lcmp => z2l S fun x y t => K (np, L, .int (lg_cmp x y) :: t, w, k, n)
  | .dup => z1v S fun v t => zif (Nat.beq v.category 1) (K (np, L, v :: v :: t, w, k, n))
  | .pop => z1v S fun v t => zif (Nat.beq v.category 1) (K (np, L, t, w, k, n))
  | .dup2 => zvr2 S fun v u t => zif (Nat.beq v.category 1) (zif (Nat.beq u.category 1) (K (np, L, v :: u :: v :: u :: t, w, k, n)))
  | .if_icmp c _ => z2i S fun x y t => zbr c x y (K (a, L, t, w, k, n)) (K (np, L, t, w, k, n))
  | .ifCond c _ => z1i S fun x t => zbr0 c x (K (a, L, t, w, k, n)) (K (np, L, t, w, k, n))
  | .goto _ => K (a, L, S, w, k, n)
  | .ifnull _ => zrn S (fun t => K (np, L, t, w, k, n)) (fun t => K (a, L, t, w, k, n))
  | .ifnonnull _ => zrn S (fun t => K (a, L, t, w, k, n)) (fun t => K (np, L, t, w, k, n))
  | .tableswitch df lo hi offs => z1i S fun x t => (x.toInt < lo ∨ hi < x.toInt → K (((pc : Int) + df).toNat, L, t, w, k, n)) ∧ (¬ (x.toInt < lo ∨ hi < x.toInt) → ∃ off, offs[(x.toInt - lo).toNat]? = some off ∧ K (((pc : Int) + off).toNat, L, t, w, k, n))
  | .lookupswitch df ps => z1i S fun x t => K (((pc : Int) + Op.lookupswitch.offset ps.toList df x.toInt).toNat, L, t, w, k, n)
  | .getfield _ => z1r S fun q t => zob w q a fun fs => zfld fs b fun v => K (np, L, v :: t, w, k, n)
  | .putfield _ => zvr S fun v q t => zob w q a fun fs => zif (zfit (ztyf a b) v) (zif (Nat.blt b fs.length) (K (np, L, t, zst w q (.inr (a, zst fs b v)), k, n)))
  | .new _ => zif (Nat.ble (k + 1) mc) (zif (Nat.ble (n + zcN a) ms) (K (np, L, .ref w.length :: S, w ++ [.inr (a, zdf a)], k + 1, n + zcN a)))
  | .newarray _ => z1i S fun x t => zif (decide (x = Int32.ofNat b)) (zif (Nat.ble (k + 1) mc) (zif (Nat.ble (n + b) ms) (K (np, L, .ref w.length :: t, w ++ [.inl (a, zda a b)], k + 1, n + b))))
  | .anewarray _ => z1i S fun x t => zif (decide (x = Int32.ofNat b)) (zif (Nat.ble (k + 1) mc) (zif (Nat.ble (n + b) ms) (K (np, L, .ref w.length :: t, w ++ [.inl (a, zda a b)], k + 1, n + b))))
  | .iaload => zia S (fun i q t => zai w q fun ti len g => zif (Nat.beq ti 1) (vp_in i len ∧ K (np, L, .int (g i.toNatClampNeg) :: t, w, k, n))) (fun i t => zext E fun len g => vp_in i len ∧ K (np, L, .int (g i.toNatClampNeg) :: t, w, k, n))
  | .baload => zia S (fun i q t => zai w q fun ti len g => zif (Nat.beq ti 0 || Nat.beq ti 2) (vp_in i len ∧ K (np, L, .int (g i.toNatClampNeg) :: t, w, k, n))) (fun _ _ => False)
  | .aaload => zia S (fun i q t => zaq w q fun ti len g => zif (Nat.ble 3 ti && Nat.ble ti 8) (vp_in i len ∧ K (np, L, va_rf (g i.toNatClampNeg) :: t, w, k, n))) (fun _ _ => False)
  | .iastore => zvia S fun v i q t => z1i [v] fun x _ => zai w q fun ti len g => zif (Nat.beq ti 1) (vp_in i len ∧ K (np, L, t, zst w q (.inl (ti, len, .inl (upd g i.toNatClampNeg x))), k, n))
  | .bastore => zvia S fun v i q t => z1i [v] fun x _ => zai w q fun ti len g => zor (Nat.beq ti 0) (vp_in i len ∧ K (np, L, t, zst w q (.inl (ti, len, .inl (upd g i.toNatClampNeg (vp_nar .byte x)))), k, n)) (zif (Nat.beq ti 2) (vp_in i len ∧ K (np, L, t, zst w q (.inl (ti, len, .inl (upd g i.toNatClampNeg (vp_nar .boolean x)))), k, n)))
  | .aastore => zvia S fun v i q t => zaq w q fun ti len g => zif (Nat.ble 3 ti && Nat.ble ti 8) (zrn2 v (fun q2 => zob w q2 (zec ti) fun _ => vp_in i len ∧ K (np, L, t, zst w q (.inl (ti, len, .inr (.inr (.inr (.inr (va_up g i.toNatClampNeg (some q2))))))), k, n)) (vp_in i len ∧ K (np, L, t, zst w q (.inl (ti, len, .inr (.inr (.inr (.inr (va_up g i.toNatClampNeg none)))))), k, n)))
  | .arraylength => zlen1 S fun t => zext E fun len _ => K (np, L, .int (Int32.ofNat len) :: t, w, k, n)
  | .invokestatic _ => zor (Nat.beq b 100) (z2i S fun x y t => zif (Nat.ble 1 d && zrm t && (Nat.ble k mc && Nat.ble n ms)) (K (np, L, .int (if x < y then y else x) :: t, w, k, n)))
      (zor (Nat.beq b 101) (z2i S fun x y t => zif (Nat.ble 1 d && zrm t && (Nat.ble k mc && Nat.ble n ms)) (K (np, L, .int (if y < x then y else x) :: t, w, k, n)))
      (zor (Nat.beq b 102) (zcpy S fun q0 sp q1 dp m t => zif (Nat.ble 1 d && zrm t) (zai w q0 fun t0 n0 f => zai w q1 fun t1 n1 g => zif (Nat.beq t0 t1 && Nat.ble t0 1) (((¬ sp < 0 ∧ ¬ dp < 0 ∧ ¬ m < 0) ∧ (sp.toNatClampNeg + m.toNatClampNeg ≤ n0 ∧ dp.toNatClampNeg + m.toNatClampNeg ≤ n1) ∧ ∀ j, j < m.toNatClampNeg → fits (zaty t0) (.int (f (sp.toNatClampNeg + j))) = true) ∧ K (np, L, t, zst w q1 (.inl (t1, n1, .inl (va_cpy f g sp.toNatClampNeg dp.toNatClampNeg m.toNatClampNeg))), k, n))))
      (zif (Nat.ble b S.length && zrm (S.drop b)) (zcall C a (S.take b).reverse (S.drop b) w k n mc ms np L K))))
  | .invokevirtual _ => zif (Nat.ble b S.length) (z1r (S.drop b) fun q t => zob w q (zmc tab a) fun _ => zif (zrm t) (zcall C a (.ref q :: (S.take b).reverse) t w k n mc ms np L K))
  | .invokespecial _ => zor (Nat.beq b 99) (z1r S fun _ t => zif (Nat.ble 1 d && zrm t) (K (np, L, t, w, k, n)))
      (zif (Nat.ble b S.length) (z1r (S.drop b) fun q t => zif (zrm t) (zcall C a (.ref q :: (S.take b).reverse) t w k n mc ms np L K)))
  | .ireturn => zin1 S fun v => z1i [v] fun _ _ => zfin E k n mc ms ∧ zret M.2.2.2.1 v ∧ Q (some v) w
  | .lreturn => zin1 S fun v => z1l [v] fun _ _ => zfin E k n mc ms ∧ zret M.2.2.2.1 v ∧ Q (some v) w
  | .areturn => zin1 S fun v => zrn2 v (fun _ => zfin E k n mc ms ∧ zret M.2.2.2.1 v ∧ Q (some v) w) (zfin E k n mc ms ∧ zret M.2.2.2.1 v ∧ Q (some v) w)
  | .return_ => znil S (zfin E k n mc ms ∧ M.2.2.2.1 = none ∧ Q none w)
  | _ => False
/-- one step, its state by its parts -/
def zsc (C : zCT) (d : Nat) (M : zM) (E : zX) (tab : List zM) (mc ms : Nat) (Q : zQ) (pc : Nat) (L : zL) (S : List Value) (w : zW) (k n : Nat) (K : zS → Prop) : Prop :=
  match zat M.2.2.2.2.2 pc with
  | none => False
  | some e => zins C d M E tab mc ms Q pc L S w k n e.1 e.2.1 e.2.2.1 e.2.2.2 K
def zstep (C : zCT) (d : Nat) (M : zM) (E : zX) (tab : List zM) (mc ms : Nat) (Q : zQ) (x : zS) (K : zS → Prop) : Prop :=
  zsc C d M E tab mc ms Q x.1 x.2.1 x.2.2.1 x.2.2.2.1 x.2.2.2.2.1 x.2.2.2.2.2 K
def zwp (C : zCT) (d : Nat) (M : zM) (E : zX) (tab : List zM) (mc ms : Nat) (Q : zQ) (x : zS) : Prop :=
  ∀ R : zS → Prop, (∀ y, (∃ P : zS → Prop, (∀ u, P u → R u) ∧ zstep C d M E tab mc ms Q y P) → R y) → R x
/-- the locals at the entry -/
def zent : Nat → List Value → zL
  | 0, _ => []
  | n + 1, [] => none :: zent n []
  | n + 1, v :: t => match zc2 (some v) with
    | false => some v :: zent n t
    | true => match n with
      | 0 => [some v]
      | j + 1 => some v :: none :: zent j t
def zCl (tab : List zM) : Nat → zCT
  | 0 => fun _ _ _ _ _ _ => False
  | d + 1 => fun a As w mc ms Q => match zix tab a with
    | none => False
    | some M => (lg_sl As).length ≤ M.2.2.1 ∧ zwp (zCl tab d) d M none tab mc ms Q (0, zent M.2.2.1 As, [], w, 0, 0)
theorem zR {C : zCT} {d : Nat} {M : zM} {E : zX} {tab : List zM} {mc ms : Nat} {Q : zQ} {R : zS → Prop} (h : ∀ y, (∃ P : zS → Prop, (∀ u, P u → R u) ∧ zstep C d M E tab mc ms Q y P) → R y) : ∀ y, zstep C d M E tab mc ms Q y R → R y :=
  fun y hy => h y ⟨R, fun _ q => q, hy⟩
end
section
/-! WHAT THE PURE MACHINE'S ROWS ASK OF THE TABLES, and how its worlds stand in a heap. -/
def zNF : List (String × Nat × String × String × String) := [("ReadAloud", 326, "ReadAloud$Told", "tape", "[B"), ("ReadAloud", 54, "ReadAloud$Told", "length", "I"), ("ReadAloud", 62, "ReadAloud$Told", "fault", "I"), ("ReadAloud", 65, "ReadAloud$Told", "place", "I"), ("ReadAloud", 68, "ReadAloud$Told", "counts", "[I"), ("ReadAloud", 334, "ReadAloud$Told", "books", "[LReadAloud$Book;"), ("ReadAloud", 339, "ReadAloud$Told", "years", "[LReadAloud$Year;"), ("ReadAloud", 344, "ReadAloud$Told", "sights", "[LReadAloud$Sight;"), ("ReadAloud$Year", 55, "ReadAloud$Teller", "value", "I"), ("ReadAloud$Sight", 38, "ReadAloud$Teller", "value", "I"), ("ReadAloud$Book", 71, "ReadAloud$Teller", "value", "I"), ("ReadAloud", 76, "ReadAloud$Teller", "fault", "I"), ("ReadAloud", 77, "ReadAloud$Teller", "place", "I"), ("ReadAloud$Course", 35, "ReadAloud$Book", "number", "I"), ("ReadAloud$Levels", 70, "ReadAloud$Book", "number", "I"), ("ReadAloud$Walk", 44, "ReadAloud$Book", "readers", "I"), ("ReadAloud$Readings", 32, "ReadAloud$Book", "readers", "I"), ("ReadAloud$Levels", 87, "ReadAloud$Book", "readers", "I"), ("ReadAloud$Course", 86, "ReadAloud$Book", "readers", "I"), ("ReadAloud$Rings", 99, "ReadAloud$Book", "readers", "I"), ("ReadAloud", 300, "ReadAloud$Book", "readers", "I"), ("ReadAloud$Course", 46, "ReadAloud$Year", "deeds", "I"), ("ReadAloud", 125, "ReadAloud$Year", "deeds", "I"), ("ReadAloud$Course", 51, "ReadAloud$Year", "kinds", "[I"), ("ReadAloud$Course", 54, "ReadAloud$Year", "ones", "[I"), ("ReadAloud$Course", 57, "ReadAloud$Year", "others", "[I"), ("ReadAloud$Levels", 53, "ReadAloud$Sight", "facts", "I"), ("ReadAloud$Levels", 58, "ReadAloud$Sight", "behind", "[I"), ("ReadAloud$Levels", 61, "ReadAloud$Sight", "numbers", "[I"), ("ReadAloud$Walk", 38, "ReadAloud$Readings", "book", "LReadAloud$Book;"), ("ReadAloud$Levels", 64, "ReadAloud$Readings", "book", "LReadAloud$Book;"), ("ReadAloud$Rings", 95, "ReadAloud$Readings", "book", "LReadAloud$Book;"), ("ReadAloud", 165, "ReadAloud$Readings", "book", "LReadAloud$Book;"), ("ReadAloud", 162, "ReadAloud$Walk", "size", "I"), ("ReadAloud", 149, "ReadAloud$Walk", "needed", "[I"), ("ReadAloud", 188, "ReadAloud$Rings", "answers", "[I"), ("ReadAloud", 312, "ReadAloud$Rings", "circles", "I"), ("ReadAloud", 315, "ReadAloud$Rings", "largest", "I"), ("ReadAloud", 318, "ReadAloud$Rings", "sizeOf", "[I")]
def zNM : List (String × Nat × MethodName) := [("ReadAloud", 9, ⟨"ReadAloud$Told", "<init>", "()V"⟩), ("ReadAloud", 22, ⟨"ReadAloud$Teller", "<init>", "()V"⟩), ("ReadAloud", 29, ⟨"ReadAloud$Course", "<init>", "()V"⟩), ("ReadAloud", 58, ⟨"ReadAloud$Told", "putBytes", "(I)V"⟩), ("ReadAloud", 325, ⟨"ReadAloud$Book", "<init>", "()V"⟩), ("ReadAloud$Book", 3, ⟨"ReadAloud$Lines", "<init>", "()V"⟩), ("ReadAloud", 330, ⟨"ReadAloud$Teller", "tell", "([BILReadAloud$Lines;)Z"⟩), ("ReadAloud$Book", 36, ⟨"ReadAloud$Teller", "isAtHand", "(Ljava/lang/String;)Z"⟩), ("ReadAloud$Sight", 24, ⟨"ReadAloud$Teller", "isAtHand", "(Ljava/lang/String;)Z"⟩), ("ReadAloud$Year", 27, ⟨"ReadAloud$Teller", "isAtHand", "(Ljava/lang/String;)Z"⟩), ("ReadAloud$Book", 59, ⟨"ReadAloud$Teller", "faultHere", "(I)V"⟩), ("ReadAloud$Sight", 30, ⟨"ReadAloud$Teller", "faultHere", "(I)V"⟩), ("ReadAloud$Year", 47, ⟨"ReadAloud$Teller", "faultHere", "(I)V"⟩), ("ReadAloud$Book", 67, ⟨"ReadAloud$Teller", "isWithin", "(II)Z"⟩), ("ReadAloud$Book", 78, ⟨"ReadAloud", "longer", "(II)I"⟩), ("ReadAloud$Book", 82, ⟨"ReadAloud", "isWord", "(I)Z"⟩), ("ReadAloud$Sight", 34, ⟨"ReadAloud$Teller", "isWithin", "(II)Z"⟩), ("ReadAloud$Sight", 41, ⟨"ReadAloud", "longer", "(II)I"⟩), ("ReadAloud$Year", 51, ⟨"ReadAloud$Teller", "isWithin", "(II)Z"⟩), ("ReadAloud", 338, ⟨"ReadAloud$Year", "<init>", "()V"⟩), ("ReadAloud$Year", 3, ⟨"ReadAloud$Lines", "<init>", "()V"⟩), ("ReadAloud", 343, ⟨"ReadAloud$Sight", "<init>", "()V"⟩), ("ReadAloud$Sight", 3, ⟨"ReadAloud$Lines", "<init>", "()V"⟩), ("ReadAloud", 88, ⟨"ReadAloud$Book", "tells", "(I)I"⟩), ("ReadAloud", 107, ⟨"ReadAloud$Book", "hasReader", "(I)Z"⟩), ("ReadAloud", 110, ⟨"ReadAloud$Book", "readBy", "(II)I"⟩), ("ReadAloud$Book", 92, ⟨"ReadAloud", "bitsOf", "(I)I"⟩), ("ReadAloud$Book", 102, ⟨"ReadAloud", "lengthOfBits", "(I)I"⟩), ("ReadAloud$Book", 99, ⟨"ReadAloud", "numberOfBits", "(I)I"⟩), ("ReadAloud", 117, ⟨"ReadAloud$Year", "tells", "(II)I"⟩), ("ReadAloud", 121, ⟨"ReadAloud$Course", "begin", "(LReadAloud$Book;)V"⟩), ("ReadAloud", 128, ⟨"ReadAloud$Course", "doFirst", "(LReadAloud$Year;I)I"⟩), ("ReadAloud$Course", 74, ⟨"ReadAloud$Book", "hasReader", "(I)Z"⟩), ("ReadAloud$Course", 71, ⟨"ReadAloud", "isIn", "(II)Z"⟩), ("ReadAloud$Course", 78, ⟨"ReadAloud$Book", "readBy", "(II)I"⟩), ("ReadAloud", 132, ⟨"ReadAloud$Course", "tells", "(I)I"⟩), ("ReadAloud$Course", 100, ⟨"ReadAloud", "driftOf", "(II)I"⟩), ("ReadAloud", 348, ⟨"ReadAloud$Readings", "<init>", "()V"⟩), ("ReadAloud", 349, ⟨"ReadAloud$Readings", "takeUp", "(LReadAloud$Book;)V"⟩), ("ReadAloud", 352, ⟨"ReadAloud$Walk", "<init>", "()V"⟩), ("ReadAloud", 141, ⟨"ReadAloud$Readings", "all", "()I"⟩), ("ReadAloud", 145, ⟨"ReadAloud$Walk", "go", "(LReadAloud$Readings;III)V"⟩), ("ReadAloud$Walk", 49, ⟨"ReadAloud", "isIn", "(II)Z"⟩), ("ReadAloud$Walk", 53, ⟨"ReadAloud$Readings", "after", "(II)I"⟩), ("ReadAloud$Readings", 38, ⟨"ReadAloud$Book", "readBy", "(II)I"⟩), ("ReadAloud", 152, ⟨"ReadAloud$Walk", "readerOnWay", "(II)I"⟩), ("ReadAloud", 155, ⟨"ReadAloud$Walk", "wayBack", "(LReadAloud$Readings;I)I"⟩), ("ReadAloud", 159, ⟨"ReadAloud$Walk", "farthest", "()I"⟩), ("ReadAloud", 169, ⟨"ReadAloud$Book", "hasReaders", "(I)Z"⟩), ("ReadAloud", 172, ⟨"ReadAloud$Readings", "unchangedBy", "(I)I"⟩), ("ReadAloud$Readings", 42, ⟨"ReadAloud", "isIn", "(II)Z"⟩), ("ReadAloud", 175, ⟨"ReadAloud$Readings", "alikeEitherWay", "(II)I"⟩), ("ReadAloud", 354, ⟨"ReadAloud$Rings", "<init>", "()V"⟩), ("ReadAloud", 184, ⟨"ReadAloud$Rings", "findOrbits", "(LReadAloud$Readings;I)V"⟩), ("ReadAloud$Rings", 64, ⟨"ReadAloud$Readings", "after", "(II)I"⟩), ("ReadAloud", 353, ⟨"ReadAloud$Levels", "<init>", "()V"⟩), ("ReadAloud", 198, ⟨"ReadAloud$Levels", "wantNothing", "()V"⟩), ("ReadAloud", 203, ⟨"ReadAloud$Levels", "spread", "(LReadAloud$Readings;III)V"⟩), ("ReadAloud$Levels", 93, ⟨"ReadAloud", "isIn", "(II)Z"⟩), ("ReadAloud$Levels", 96, ⟨"ReadAloud$Readings", "after", "(II)I"⟩), ("ReadAloud", 206, ⟨"ReadAloud$Levels", "endByDrift", "()V"⟩), ("ReadAloud$Levels", 100, ⟨"ReadAloud", "driftOf", "(II)I"⟩), ("ReadAloud", 209, ⟨"ReadAloud$Levels", "bestEnd", "(Z)I"⟩), ("ReadAloud", 213, ⟨"ReadAloud$Levels", "foldBack", "(II)V"⟩), ("ReadAloud", 217, ⟨"ReadAloud$Levels", "chosenAt", "(I)I"⟩), ("ReadAloud", 222, ⟨"ReadAloud$Levels", "sumOfEnds", "()J"⟩), ("ReadAloud", 226, ⟨"ReadAloud$Levels", "rows", "()I"⟩), ("ReadAloud", 233, ⟨"ReadAloud$Readings", "goBack", "(II)V"⟩), ("ReadAloud", 236, ⟨"ReadAloud$Readings", "leastMarked", "()I"⟩), ("ReadAloud", 239, ⟨"ReadAloud$Readings", "marked", "()I"⟩), ("ReadAloud", 245, ⟨"ReadAloud$Levels", "endByWord", "(I)V"⟩), ("ReadAloud$Levels", 103, ⟨"ReadAloud", "timesOf", "(II)I"⟩), ("ReadAloud", 248, ⟨"ReadAloud$Levels", "bestStart", "()I"⟩), ("ReadAloud", 255, ⟨"ReadAloud$Sight", "tells", "(II)I"⟩), ("ReadAloud", 258, ⟨"ReadAloud$Levels", "want", "(LReadAloud$Sight;)V"⟩), ("ReadAloud", 262, ⟨"ReadAloud$Levels", "rowsTo", "(I)I"⟩), ("ReadAloud", 265, ⟨"ReadAloud$Levels", "endByOne", "()V"⟩), ("ReadAloud", 268, ⟨"ReadAloud$Levels", "look", "()I"⟩), ("ReadAloud", 271, ⟨"ReadAloud$Levels", "onlyReaderAt", "(I)I"⟩), ("ReadAloud", 274, ⟨"ReadAloud$Course", "draw", "(II)V"⟩), ("ReadAloud", 277, ⟨"ReadAloud$Book", "kinRing", "(I)I"⟩), ("ReadAloud", 280, ⟨"ReadAloud$Book", "kinUntilRing", "(I)I"⟩), ("ReadAloud", 286, ⟨"ReadAloud$Walk", "meeting", "(LReadAloud$Walk;)I"⟩), ("ReadAloud", 290, ⟨"ReadAloud$Walk", "nearestTo", "(I)I"⟩), ("ReadAloud$Walk", 57, ⟨"ReadAloud", "driftOf", "(II)I"⟩), ("ReadAloud", 293, ⟨"ReadAloud$Walk", "firstSettled", "(LReadAloud$Readings;)I"⟩), ("ReadAloud$Walk", 60, ⟨"ReadAloud$Readings", "all", "()I"⟩), ("ReadAloud$Walk", 64, ⟨"ReadAloud$Readings", "isChanged", "(II)Z"⟩), ("ReadAloud", 297, ⟨"ReadAloud$Readings", "markUnmade", "()V"⟩), ("ReadAloud", 308, ⟨"ReadAloud$Rings", "findCircles", "(LReadAloud$Readings;)V"⟩), ("ReadAloud", 321, ⟨"ReadAloud$Told", "becomes", "(LReadAloud$Told;)V"⟩)]
def zAO : List String := ["ReadAloud$Book", "ReadAloud$Year", "ReadAloud$Sight", "ReadAloud$Told", "ReadAloud$Readings", "ReadAloud$Walk"]
/-- the words of private members of nest mates, and of arrays of objects: they hold along the run -/
def zN (U : State) : Prop := (∀ t ∈ zNF, va_Nw (.fieldLinkNest t.1 t.2.1 t.2.2.1 t.2.2.2.1 t.2.2.2.2 "ReadAloud") U) ∧ (∀ t ∈ zNM, va_Nw (.methodLinkNest t.1 t.2.1 t.2.2 "ReadAloud") U) ∧ ∀ C ∈ zAO, va_AO C U
theorem zN.warm {s U : State} (hW : s.WarmedH U.vm) (h : zN s) : zN U :=
  ⟨fun t ht => (h.1 t ht).warmF hW, fun t ht => (h.2.1 t ht).warmM hW, fun C hC => (h.2.2 C hC).moved hW.alike⟩
theorem zN.same {s U : State} (hv : s.vm = U.vm) (h : zN s) : zN U :=
  ⟨fun t ht => (h.1 t ht).same rfl hv, fun t ht => (h.2.1 t ht).same rfl hv, fun C hC => (h.2.2 C hC).moved (hv ▸ Vm.Alike.refl s.vm)⟩
def zlen (i : Instr) : Nat := match i with
  | .bipush _ => 2
  | .ldc _ => 2
  | .iload _ => 2
  | .lload _ => 2
  | .aload _ => 2
  | .istore _ => 2
  | .lstore _ => 2
  | .astore _ => 2
  | .newarray _ => 2
  | .sipush _ => 3
  | .ldc2_w _ => 3
  | .ldc_w _ => 3
  | .if_acmp _ _ => 3
  | .iinc _ _ => 3
  | .if_icmp _ _ => 3
  | .ifCond _ _ => 3
  | .goto _ => 3
  | .ifnull _ => 3
  | .ifnonnull _ => 3
  | .getfield _ => 3
  | .putfield _ => 3
  | .new _ => 3
  | .anewarray _ => 3
  | .invokestatic _ => 3
  | .invokevirtual _ => 3
  | .invokespecial _ => 3
  | .tableswitch _ _ _ _ => 0
  | .lookupswitch _ _ => 0
  | _ => 1
def zoff (i : Instr) : Option Int := match i with
  | .if_icmp _ o => some o
  | .if_acmp _ o => some o
  | .ifCond _ o => some o
  | .goto o => some o
  | .ifnull o => some o
  | .ifnonnull o => some o
  | _ => none
def zslot (n : Nat) (i : Instr) : Bool := match i with
  | .istore_n j => Nat.blt j.val n
  | .istore j => Nat.blt j n
  | .astore_n j => Nat.blt j.val n
  | .astore j => Nat.blt j n
  | .iinc j _ => Nat.blt j n
  | .lstore_n j => Nat.blt (j.val + 1) n
  | .lstore j => Nat.blt (j + 1) n
  | _ => true
def zsw (pc : Nat) (i : Instr) : Bool := match i with
  | .tableswitch df _ _ offs => decide (0 ≤ (pc : Int) + df) && offs.toList.all fun o => decide (0 ≤ (pc : Int) + o)
  | .lookupswitch df ps => decide (0 ≤ (pc : Int) + df) && (ps.toList.all fun o => decide (0 ≤ (pc : Int) + o.2)) && (ps.toList.zip (ps.toList.drop 1)).all fun (a, next) => a.1 < next.1
  | _ => true
def zmat (tab : List zM) (a : Nat) : zM := match zix tab a with
  | some M => M
  | none => (⟨"", "", ""⟩, ⟨#[]⟩, 0, none, 99, [])
def zhas (tab : List zM) (a : Nat) : Bool := match zix tab a with
  | some _ => true
  | none => false
def zpub (own : String) (y : MethodName) : Bool := decide (own = y.cls) || decide (own = "ReadAloudLaw")
def zcode (M : zM) : Cond := .code M.1 M.2.1 M.2.2.1 M.2.2.2.1
def zlw (own : String) (ix : Nat) (y : MethodName) : List Cond := match zpub own y with
  | true => [.methodLink own ix y]
  | false => []
/-- the good words that a row asks for -/
def zrq (tab : List zM) (own : String) (e : zE) : List Cond := match e.2.1 with
  | .ldc ix => [.constant own ix (Int32.ofNat e.2.2.2.1)]
  | .ldc_w ix => [.constant own ix (Int32.ofNat e.2.2.2.1)]
  | .ldc2_w ix => [.constantLong own ix (Int64.ofNat e.2.2.2.1)]
  | .getfield ix => if own = (zcf e.2.2.2.1 e.2.2.2.2).1 then [.fieldLink own ix (zcf e.2.2.2.1 e.2.2.2.2).1 (zcf e.2.2.2.1 e.2.2.2.2).2.1 (zcf e.2.2.2.1 e.2.2.2.2).2.2.1] else []
  | .putfield ix => if own = (zcf e.2.2.2.1 e.2.2.2.2).1 then [.fieldLink own ix (zcf e.2.2.2.1 e.2.2.2.2).1 (zcf e.2.2.2.1 e.2.2.2.2).2.1 (zcf e.2.2.2.1 e.2.2.2.2).2.2.1] else []
  | .new ix => [.classLink own ix (zcn e.2.2.2.1), .instantiable (zcn e.2.2.2.1) (zcN e.2.2.2.1), .initialized (zcn e.2.2.2.1)]
  | .newarray t => [.arrayClass (newarray.typeOf t)]
  | .anewarray ix => [.classLink own ix (zcn (zec e.2.2.2.1))]
  | .invokestatic ix => match Nat.beq e.2.2.2.2 100 with
    | true => [.methodLink own ix Lib.Math.max.name, .static Lib.Math.max.name, .initialized "java/lang/Math", .code Lib.Math.max.name Lib.Math.max.code 2 (some .int)]
    | false => match Nat.beq e.2.2.2.2 101 with
      | true => [.methodLink own ix Lib.Math.min.name, .static Lib.Math.min.name, .initialized "java/lang/Math", .code Lib.Math.min.name Lib.Math.min.code 2 (some .int)]
      | false => match Nat.beq e.2.2.2.2 102 with
        | true => [.methodLink own ix arraycopyName, .native arraycopyName, .static arraycopyName, .initialized "java/lang/System"]
        | false => [zcode (zmat tab e.2.2.2.1), .static (zmat tab e.2.2.2.1).1, .initialized (zmat tab e.2.2.2.1).1.cls] ++ zlw own ix (zmat tab e.2.2.2.1).1
  | .invokevirtual ix => [zcode (zmat tab e.2.2.2.1), .instanceMethod (zmat tab e.2.2.2.1).1, .selects (zmat tab e.2.2.2.1).1.cls (zmat tab e.2.2.2.1).1 (zmat tab e.2.2.2.1).1, .initialized (zmat tab e.2.2.2.1).1.cls] ++ zlw own ix (zmat tab e.2.2.2.1).1
  | .invokespecial ix => match Nat.beq e.2.2.2.2 99 with
    | true => [.methodLink own ix objectInit, .instanceMethod objectInit, .code objectInit ⟨#[0xb1]⟩ 1 none]
    | false => [zcode (zmat tab e.2.2.2.1), .instanceMethod (zmat tab e.2.2.2.1).1, .initialized (zmat tab e.2.2.2.1).1.cls] ++ zlw own ix (zmat tab e.2.2.2.1).1
  | _ => []
def zcallok (tab : List zM) (own : String) (ix : Nat) (a b : Nat) : Bool := zhas tab a && decide ((zmat tab a).1.cls ≠ "java/lang/invoke/MethodHandle") && decide ((zmat tab a).1.cls ≠ "java/lang/invoke/VarHandle") && decide ((parseMethodDescriptor (zmat tab a).1.desc).map (fun d => d.parameters.length) = some b) && (zpub own (zmat tab a).1 || decide ((own, ix, (zmat tab a).1) ∈ zNM))
def zlk (tab : List zM) (M : zM) (e : zE) : Bool := match e.2.1 with
  | .getfield ix => Nat.blt e.2.2.2.2 (zcN e.2.2.2.1) && (decide (M.1.cls = (zcf e.2.2.2.1 e.2.2.2.2).1) || decide ((M.1.cls, ix, (zcf e.2.2.2.1 e.2.2.2.2).1, (zcf e.2.2.2.1 e.2.2.2.2).2.1, (zcf e.2.2.2.1 e.2.2.2.2).2.2.1) ∈ zNF))
  | .putfield ix => Nat.blt e.2.2.2.2 (zcN e.2.2.2.1) && (decide (M.1.cls = (zcf e.2.2.2.1 e.2.2.2.2).1) || decide ((M.1.cls, ix, (zcf e.2.2.2.1 e.2.2.2.2).1, (zcf e.2.2.2.1 e.2.2.2.2).2.1, (zcf e.2.2.2.1 e.2.2.2.2).2.2.1) ∈ zNF)) && (decide ((zcf e.2.2.2.1 e.2.2.2.2).2.2.2 = false) || (decide (M.1.name = "<init>") && decide (M.1.cls = (zcf e.2.2.2.1 e.2.2.2.2).1)))
  | .new _ => Nat.ble e.2.2.2.1 11
  | .newarray t => Nat.ble e.2.2.2.1 2 && decide (zix zats e.2.2.2.1 = some (newarray.typeOf t)) && Nat.ble e.2.2.2.2 60000000
  | .anewarray _ => Nat.ble 3 e.2.2.2.1 && decide (zix zats e.2.2.2.1 = some (.object (zcn (zec e.2.2.2.1)))) && decide (zcn (zec e.2.2.2.1) ∈ zAO) && Nat.ble e.2.2.2.2 60000000
  | .invokestatic ix => Nat.beq e.2.2.2.2 100 || (Nat.beq e.2.2.2.2 101 || (Nat.beq e.2.2.2.2 102 || zcallok tab M.1.cls ix e.2.2.2.1 e.2.2.2.2))
  | .invokevirtual ix => zcallok tab M.1.cls ix e.2.2.2.1 e.2.2.2.2 && decide (zcn (zmat tab e.2.2.2.1).2.2.2.2.1 = (zmat tab e.2.2.2.1).1.cls) && Nat.ble (zmat tab e.2.2.2.1).2.2.2.2.1 11
  | .invokespecial ix => Nat.beq e.2.2.2.2 99 || (zcallok tab M.1.cls ix e.2.2.2.1 e.2.2.2.2 && decide ((zmat tab e.2.2.2.1).1.name = "<init>") && decide ((zmat tab e.2.2.2.1).2.2.2.1 = none))
  | _ => true
/-- a row is what the bytes say -/
def zde (M : zM) (e : zE) : Bool := decide (decode M.2.1 e.1 = .ok (e.2.1, e.2.2.1 - e.1)) && (Nat.beq (zlen e.2.1) 0 || Nat.beq e.2.2.1 (e.1 + zlen e.2.1))
def zrow (tab : List zM) (M : zM) (e : zE) : Bool := (match zoff e.2.1 with
    | some o => decide ((e.1 : Int) + o = (e.2.2.2.1 : Int))
    | none => true) && zslot M.2.2.1 e.2.1 && zsw e.1 e.2.1 && zlk tab M e
def zokM (tab : List zM) (M : zM) : Prop := M.2.2.2.2.2.all (zde M) = true ∧ M.2.2.2.2.2.all (zrow tab M) = true ∧ (Nat.ble M.2.2.1 16 && plainName M.1.cls) = true
def zuw : List Cond := zcls.flatMap fun q => u_ws q.1 q.2.1 q.2.2
def zt (tab : List zM) : List Cond := zuw ++ tab.flatMap fun M => M.2.2.2.2.2.flatMap (zrq tab M.1.cls)
def zws (tab : List zM) (M : zM) : List Cond := zcode M :: zt tab
theorem zt_uw {tab : List zM} {w : Cond} (h : w ∈ zuw) : w ∈ zt tab := List.mem_append_left _ h
theorem zt_rq {tab : List zM} {M : zM} {e : zE} (hM : M ∈ tab) (he : e ∈ M.2.2.2.2.2) {w : Cond} (h : w ∈ zrq tab M.1.cls e) : w ∈ zt tab :=
  List.mem_append_right _ (List.mem_flatMap.mpr ⟨M, hM, List.mem_flatMap.mpr ⟨e, he, h⟩⟩)
theorem zat_mem : ∀ {cd : List zE} {pc : Nat} {r : Instr × Nat × Nat × Nat}, zat cd pc = some r → (pc, r) ∈ cd
  | [], _, _, h => by cases h
  | e :: t, pc, r, h => by
    unfold zat at h
    split at h
    · next hb =>
      have h1 : e.1 = pc := Nat.eq_of_beq_eq_true hb
      cases h
      subst h1
      exact List.mem_cons_self
    · exact List.mem_cons_of_mem _ (zat_mem h)
/-! worlds in the heap -/
def zv (b sc : Nat) (v : Value) : Value := match v with
  | .ref q => .ref (b + q)
  | .retAddr _ => .ref sc
  | .int x => .int x
  | .long x => .long x
  | .float x => .float x
  | .double x => .double x
  | .null => .null
def zcc (b sc : Nat) (dA : Nat → Nat) (c : va_E) : va_E := match c with
  | .inl (ti, len, .inr (.inr (.inr (.inr g)))) => .inl (dA ti, len, .inr (.inr (.inr (.inr (fun j => (g j).map (b + ·))))))
  | .inl (ti, len, .inl g) => .inl (dA ti, len, .inl g)
  | .inl (ti, len, .inr (.inl g)) => .inl (dA ti, len, .inr (.inl g))
  | .inl (ti, len, .inr (.inr (.inl g))) => .inl (dA ti, len, .inr (.inr (.inl g)))
  | .inl (ti, len, .inr (.inr (.inr (.inl g)))) => .inl (dA ti, len, .inr (.inr (.inr (.inl g))))
  | .inr (ci, fs) => .inr (ci, fs.map (zv b sc))
def zco (b sc : Nat) (dA : Nat → Nat) : Nat → zW → va_W
  | _, [] => []
  | o, c :: t => (o, zcc b sc dA c) :: zco b sc dA (o + 1) t
theorem zco_get (b sc : Nat) (dA : Nat → Nat) : ∀ (w : zW) (o k : Nat), (zco b sc dA o w)[k]? = (w[k]?).map fun c => (o + k, zcc b sc dA c)
  | [], _, _ => by simp [zco]
  | c :: t, o, 0 => by simp [zco]
  | c :: t, o, k + 1 => by
    rw [zco, List.getElem?_cons_succ, List.getElem?_cons_succ, zco_get b sc dA t (o + 1) k, show o + 1 + k = o + (k + 1) by omega]
theorem zco_len (b sc : Nat) (dA : Nat → Nat) : ∀ (w : zW) (o : Nat), (zco b sc dA o w).length = w.length
  | [], _ => rfl
  | c :: t, o => by rw [zco, List.length_cons, List.length_cons, zco_len b sc dA t (o + 1)]
theorem zco_set (b sc : Nat) (dA : Nat → Nat) : ∀ (w : zW) (o k : Nat) (c : va_E), zco b sc dA o (w.set k c) = (zco b sc dA o w).set k (o + k, zcc b sc dA c)
  | [], _, _, _ => rfl
  | _ :: t, o, 0, c => rfl
  | x :: t, o, k + 1, c => by
    rw [List.set_cons_succ, zco, zco, List.set_cons_succ, zco_set b sc dA t (o + 1) k c, show o + 1 + k = o + (k + 1) by omega]
theorem zco_app (b sc : Nat) (dA : Nat → Nat) : ∀ (w : zW) (o : Nat) (c : va_E), zco b sc dA o (w ++ [c]) = zco b sc dA o w ++ [(o + w.length, zcc b sc dA c)]
  | [], o, c => rfl
  | x :: t, o, c => by
    rw [List.cons_append, zco, zco, List.cons_append, zco_app b sc dA t (o + 1) c, List.length_cons, show o + 1 + t.length = o + (t.length + 1) by omega]
theorem zco_at {b sc : Nat} {dA : Nat → Nat} {w : zW} {q : Nat} {c : va_E} (h : zix w q = some c) : (zco b sc dA b w)[q]? = some (b + q, zcc b sc dA c) := by
  rw [zco_get, ← zix_eq, h]; rfl
theorem zco_D (b sc : Nat) (dA : Nat → Nat) (w : zW) : va_D (fun q => b ≤ q) (zco b sc dA b w) := by
  have key : ∀ (k : Nat) (q : Nat × va_E), (zco b sc dA b w)[k]? = some q → q.1 = b + k := by
    intro k q h
    rw [zco_get] at h
    cases hw : w[k]? with
    | none => rw [hw] at h; cases h
    | some c => rw [hw] at h; cases h; rfl
  exact ⟨fun i j p q hi hj hpq => by have h1 := key i p hi; have h2 := key j q hj; omega, fun k q hk => by have h1 := key k q hk; show b ≤ q.1; omega⟩
def ztys (dA : Nat → Nat) : List (ClassId × FieldType) := [(dA 0, .byte), (dA 1, .int), (dA 2, .boolean), (dA 3, .object "ReadAloud$Book"), (dA 4, .object "ReadAloud$Year"), (dA 5, .object "ReadAloud$Sight"), (dA 6, .object "ReadAloud$Told"), (dA 7, .object "ReadAloud$Readings"), (dA 8, .object "ReadAloud$Walk")]
theorem ztys_at {dA : Nat → Nat} {a : Nat} {ty : FieldType} (h : zix zats a = some ty) : (ztys dA)[a]? = some (dA a, ty) := by
  match a, h with
  | 0, h => cases h; rfl
  | 1, h => cases h; rfl
  | 2, h => cases h; rfl
  | 3, h => cases h; rfl
  | 4, h => cases h; rfl
  | 5, h => cases h; rfl
  | 6, h => cases h; rfl
  | 7, h => cases h; rfl
  | 8, h => cases h; rfl
  | n + 9, h => cases n <;> cases h
theorem zcls_at {a : Nat} (h : 0 < zcN a ∨ a ≤ 11) : zcls[a]? = some (zcn a, zcf a, zcN a) := by
  match a, h with
  | 0, _ => rfl
  | 1, _ => rfl
  | 2, _ => rfl
  | 3, _ => rfl
  | 4, _ => rfl
  | 5, _ => rfl
  | 6, _ => rfl
  | 7, _ => rfl
  | 8, _ => rfl
  | 9, _ => rfl
  | 10, _ => rfl
  | 11, _ => rfl
  | n + 12, h =>
    have h0 : zcN (n + 12) = 0 := by cases n <;> rfl
    rw [h0] at h
    omega
theorem zcls_ty {a : Nat} (h : a ≤ 11) : (∀ k, k < zcN a → parseFieldDescriptor (zcf a k).2.2.1 = some (ztyf a k)) ∧ ∀ i, i < zcN a → ∀ j, j < zcN a → i ≠ j → (zcf a i).2.1 ≠ (zcf a j).2.1 := by
  match a, h with
  | 0, _ => exact ⟨tyX0_ok, nmX0⟩
  | 1, _ => exact ⟨tyX1_ok, nmX1⟩
  | 2, _ => exact ⟨tyX2_ok, nmX2⟩
  | 3, _ => exact ⟨tyX4_ok, nmX4⟩
  | 4, _ => exact ⟨tyX5_ok, nmX5⟩
  | 5, _ => exact ⟨tyX6_ok, nmX6⟩
  | 6, _ => exact ⟨tyX7_ok, nmX7⟩
  | 7, _ => exact ⟨tyX8_ok, nmX8⟩
  | 8, _ => exact ⟨tyX9_ok, nmX9⟩
  | 9, _ => exact ⟨tyX10_ok, nmX10⟩
  | 10, _ => exact ⟨tyX11_ok, nmX11⟩
  | 11, _ => exact ⟨tyX12_ok, nmX12⟩
  | n + 12, h => omega
theorem zcN_le {a : Nat} (h : 0 < zcN a) : a ≤ 11 := by
  rcases Nat.lt_or_ge a 12 with q | q
  · omega
  · have h0 : zcN a = 0 := by
      obtain ⟨n, rfl⟩ : ∃ n, a = n + 12 := ⟨a - 12, by omega⟩
      cases n <;> rfl
    omega
theorem zuw_at {a : Nat} (h : a ≤ 11) : ∀ w ∈ u_ws (zcn a) (zcf a) (zcN a), w ∈ zuw := fun w hw => List.mem_flatMap.mpr ⟨(zcn a, zcf a, zcN a), List.mem_of_getElem? (zcls_at (Or.inr h)), hw⟩
/-! the locals -/
def zpr (b sc : Nat) (L : zL) : List (Nat × Value) := (List.range L.length).filterMap fun j => (zget L j).map fun v => (j, zv b sc v)
theorem zget_lt : ∀ {L : zL} {j : Nat} {v : Value}, zget L j = some v → j < L.length
  | [], _, _, h => by cases h
  | _ :: _, 0, _, _ => Nat.zero_lt_succ _
  | _ :: t, j + 1, v, h => Nat.succ_lt_succ (zget_lt (L := t) h)
theorem zpr_mem {b sc : Nat} {L : zL} {q : Nat × Value} : q ∈ zpr b sc L ↔ ∃ v, zget L q.1 = some v ∧ q.2 = zv b sc v := by
  unfold zpr
  rw [List.mem_filterMap]
  constructor
  · rintro ⟨j, -, h⟩
    cases hz : zget L j with
    | none => rw [hz] at h; cases h
    | some v => rw [hz] at h; cases h; exact ⟨v, hz, rfl⟩
  · rintro ⟨v, h1, h2⟩
    exact ⟨q.1, List.mem_range.mpr (zget_lt h1), by rw [h1]; show some (q.1, zv b sc v) = some q; rw [← h2]⟩
theorem zpr_at {b sc nL : Nat} {L : zL} {ls : Array Slot} (h : lv_has ls nL (zpr b sc L)) {j : Nat} {v : Value} (hj : zget L j = some v) : ls[j]? = some (.val (zv b sc v)) := h.2.2 (j, zv b sc v) (zpr_mem.mpr ⟨v, hj, rfl⟩)
theorem zput_len : ∀ (L : zL) (i : Nat) (v : Option Value), (zput L i v).length = L.length
  | [], _, _ => rfl
  | _ :: _, 0, _ => rfl
  | _ :: t, i + 1, v => congrArg (· + 1) (zput_len t i v)
theorem zget_put_ne : ∀ (L : zL) (i j : Nat) (v : Option Value), j ≠ i → zget (zput L i v) j = zget L j
  | [], _, _, _, _ => rfl
  | _ :: _, 0, 0, _, h => absurd rfl h
  | _ :: _, 0, _ + 1, _, _ => rfl
  | _ :: _, _ + 1, 0, _, _ => rfl
  | _ :: t, i + 1, j + 1, v, h => zget_put_ne t i j v (fun q => h (q ▸ rfl))
theorem zget_put_self : ∀ (L : zL) (i : Nat) (v : Option Value) (u : Value), zget (zput L i v) i = some u → v = some u
  | [], _, _, _, h => by cases h
  | _ :: _, 0, _, _, h => h
  | _ :: t, i + 1, v, u, h => zget_put_self t i v u h
theorem zc2_cat {b sc : Nat} {v : Value} (h : zc2 (some v) = false) : ((zv b sc v).category == 2) = false := by
  cases v <;> first | rfl | cases h
theorem zfree_cat {b sc : Nat} {L : zL} {i j : Nat} {u : Value} (hf : zfree L i = true) (hj : zget L j = some u) : (j + 1 == i && (zv b sc u).category == 2) = false := by
  by_cases h : j + 1 = i
  · subst h
    have h1 : zc2 (zget L j) = false := by
      unfold zfree at hf
      simp only at hf
      split at hf
      · cases hf
      · assumption
    rw [hj] at h1
    rw [zc2_cat h1]
    simp
  · simp [h]
theorem zpr_store1 {b sc nL : Nat} {L : zL} {ls : Array Slot} {i : Nat} {v : Value} (hf : zfree L i = true) (h : lv_has ls nL ((i, zv b sc v) :: (zpr b sc L).filter (fun q => !(q.1 == i) && !(q.1 + 1 == i && q.2.category == 2)))) : lv_has ls nL (zpr b sc (zput L i (some v))) := by
  refine ⟨h.1, h.2.1, fun q hq => h.2.2 q ?_⟩
  obtain ⟨u, h1, h2⟩ := zpr_mem.mp hq
  by_cases hi : q.1 = i
  · rw [hi] at h1
    cases zget_put_self L i _ u h1
    refine List.mem_cons.mpr (Or.inl ?_)
    rw [← hi, ← h2]
  · rw [zget_put_ne L i q.1 _ hi] at h1
    refine List.mem_cons_of_mem _ (List.mem_filter.mpr ⟨zpr_mem.mpr ⟨u, h1, h2⟩, ?_⟩)
    rw [h2, zfree_cat hf h1]
    simp [hi]
theorem zpr_store2 {b sc nL : Nat} {L : zL} {ls : Array Slot} {i : Nat} {v : Value} (hf : zfree L i = true) (h : lv_has ls nL ((i, zv b sc v) :: (zpr b sc L).filter (fun q => !(q.1 == i) && (!(q.1 == i + 1) && !(q.1 + 1 == i && q.2.category == 2))))) : lv_has ls nL (zpr b sc (zput (zput L (i + 1) none) i (some v))) := by
  refine ⟨h.1, h.2.1, fun q hq => h.2.2 q ?_⟩
  obtain ⟨u, h1, h2⟩ := zpr_mem.mp hq
  by_cases hi : q.1 = i
  · rw [hi] at h1
    cases zget_put_self _ i _ u h1
    refine List.mem_cons.mpr (Or.inl ?_)
    rw [← hi, ← h2]
  · rw [zget_put_ne _ i q.1 _ hi] at h1
    by_cases hi2 : q.1 = i + 1
    · rw [hi2] at h1
      have := zget_put_self L (i + 1) none u h1
      cases this
    · rw [zget_put_ne L (i + 1) q.1 _ hi2] at h1
      refine List.mem_cons_of_mem _ (List.mem_filter.mpr ⟨zpr_mem.mpr ⟨u, h1, h2⟩, ?_⟩)
      rw [h2, zfree_cat hf h1]
      simp [hi, hi2]
theorem zent_mem (b sc : Nat) : ∀ (As : List Value) (n o j : Nat) (u : Value), zget (zent n As) j = some u → (o + j, zv b sc u) ∈ lv_args o (As.map (zv b sc))
  | [], n, o, j, u, h => by
    exfalso
    induction n generalizing j with
    | zero => cases h
    | succ n ih =>
      cases j with
      | zero => cases h
      | succ j => exact ih j h
  | v :: t, n, o, j, u, h => by
    cases n with
    | zero => cases h
    | succ n =>
      cases hc : zc2 (some v) with
      | false =>
        have hz : zent (n + 1) (v :: t) = some v :: zent n t := by rw [zent.eq_def]; simp only [hc]
        rw [hz] at h
        cases j with
        | zero => cases h; exact List.mem_cons_self
        | succ j =>
          have hd : ¬ (zv b sc v).category = 2 := by
            have := zc2_cat (b := b) (sc := sc) hc
            simpa using this
          rw [List.map_cons, lv_args, if_neg hd, show o + (j + 1) = o + 1 + j by omega]
          exact List.mem_cons_of_mem _ (zent_mem b sc t n (o + 1) j u h)
      | true =>
        have hd : (zv b sc v).category = 2 := by cases v <;> first | rfl | cases hc
        cases n with
        | zero =>
          have hz : zent (0 + 1) (v :: t) = [some v] := by rw [zent.eq_def]; simp only [hc]
          rw [hz] at h
          cases j with
          | zero => cases h; exact List.mem_cons_self
          | succ j => cases j <;> cases h
        | succ n =>
          have hz : zent (n + 1 + 1) (v :: t) = some v :: none :: zent n t := by rw [zent.eq_def]; simp only [hc]
          rw [hz] at h
          cases j with
          | zero => cases h; exact List.mem_cons_self
          | succ j =>
            cases j with
            | zero => cases h
            | succ j =>
              have h1 := zent_mem b sc t n (o + 2) j u h
              rw [List.map_cons, lv_args, if_pos hd, show o + (j + 1 + 1) = o + 2 + j by omega]
              exact List.mem_cons_of_mem _ h1
end
section
/-! THE PURE MACHINE IS SOUND, one instruction at a time. -/
theorem z1i_s {S : List Value} {f : Int32 → List Value → Prop} (h : z1i S f) : ∃ x t, S = .int x :: t ∧ f x t := by
  unfold z1i at h
  split at h
  · exact ⟨_, _, rfl, h⟩
  · exact h.elim
theorem z2i_s {S : List Value} {f : Int32 → Int32 → List Value → Prop} (h : z2i S f) : ∃ x y t, S = .int y :: .int x :: t ∧ f x y t := by
  unfold z2i at h
  split at h
  · exact ⟨_, _, _, rfl, h⟩
  · exact h.elim
theorem z1l_s {S : List Value} {f : Int64 → List Value → Prop} (h : z1l S f) : ∃ x t, S = .long x :: t ∧ f x t := by
  unfold z1l at h
  split at h
  · exact ⟨_, _, rfl, h⟩
  · exact h.elim
theorem z2l_s {S : List Value} {f : Int64 → Int64 → List Value → Prop} (h : z2l S f) : ∃ x y t, S = .long y :: .long x :: t ∧ f x y t := by
  unfold z2l at h
  split at h
  · exact ⟨_, _, _, rfl, h⟩
  · exact h.elim
theorem zil_s {S : List Value} {f : Int64 → Int32 → List Value → Prop} (h : zil S f) : ∃ x y t, S = .int y :: .long x :: t ∧ f x y t := by
  unfold zil at h
  split at h
  · exact ⟨_, _, _, rfl, h⟩
  · exact h.elim
theorem zro_s {v : Value} {r : Option Nat} (h : zro v = some r) : v = va_rf r := by
  unfold zro at h
  split at h <;> cases h <;> rfl
theorem z2r_s {S : List Value} {f : Option Nat → Option Nat → List Value → Prop} (h : z2r S f) : ∃ rx ry t, S = va_rf ry :: va_rf rx :: t ∧ f rx ry t := by
  unfold z2r at h
  split at h
  · split at h
    · rename_i rx hx
      split at h
      · rename_i ry hy
        exact ⟨rx, ry, _, by rw [zro_s hx, zro_s hy], h⟩
      · exact h.elim
    · exact h.elim
  · exact h.elim
theorem z1r_s {S : List Value} {f : Nat → List Value → Prop} (h : z1r S f) : ∃ q t, S = .ref q :: t ∧ f q t := by
  unfold z1r at h
  split at h
  · exact ⟨_, _, rfl, h⟩
  · exact h.elim
theorem z1v_s {S : List Value} {f : Value → List Value → Prop} (h : z1v S f) : ∃ v t, S = v :: t ∧ f v t := by
  unfold z1v at h
  split at h
  · exact ⟨_, _, rfl, h⟩
  · exact h.elim
theorem zvr2_s {S : List Value} {f : Value → Value → List Value → Prop} (h : zvr2 S f) : ∃ v u t, S = v :: u :: t ∧ f v u t := by
  unfold zvr2 at h
  split at h
  · exact ⟨_, _, _, rfl, h⟩
  · exact h.elim
theorem zvr_s {S : List Value} {f : Value → Nat → List Value → Prop} (h : zvr S f) : ∃ v q t, S = v :: .ref q :: t ∧ f v q t := by
  unfold zvr at h
  split at h
  · exact ⟨_, _, _, rfl, h⟩
  · exact h.elim
theorem zia_s {S : List Value} {f : Int32 → Nat → List Value → Prop} {g : Int32 → List Value → Prop} (h : zia S f g) : (∃ i q t, S = .int i :: .ref q :: t ∧ f i q t) ∨ ∃ i j t, S = .int i :: .retAddr j :: t ∧ g i t := by
  unfold zia at h
  split at h
  · exact Or.inl ⟨_, _, _, rfl, h⟩
  · exact Or.inr ⟨_, _, _, rfl, h⟩
  · exact h.elim
theorem zvia_s {S : List Value} {f : Value → Int32 → Nat → List Value → Prop} (h : zvia S f) : ∃ v i q t, S = v :: .int i :: .ref q :: t ∧ f v i q t := by
  unfold zvia at h
  split at h
  · exact ⟨_, _, _, _, rfl, h⟩
  · exact h.elim
theorem zasv_s {S : List Value} {f : Value → List Value → Prop} (h : zasv S f) : (∃ q t, S = .ref q :: t ∧ f (.ref q) t) ∨ ∃ t, S = .null :: t ∧ f .null t := by
  unfold zasv at h
  split at h
  · exact Or.inl ⟨_, _, rfl, h⟩
  · exact Or.inr ⟨_, rfl, h⟩
  · exact h.elim
theorem zrn_s {S : List Value} {f g : List Value → Prop} (h : zrn S f g) : (∃ q t, S = .ref q :: t ∧ f t) ∨ ∃ t, S = .null :: t ∧ g t := by
  unfold zrn at h
  split at h
  · exact Or.inl ⟨_, _, rfl, h⟩
  · exact Or.inr ⟨_, rfl, h⟩
  · exact h.elim
theorem zrn2_s {v : Value} {f : Nat → Prop} {g : Prop} (h : zrn2 v f g) : (∃ q, v = .ref q ∧ f q) ∨ (v = .null ∧ g) := by
  unfold zrn2 at h
  split at h
  · exact Or.inl ⟨_, rfl, h⟩
  · exact Or.inr ⟨rfl, h⟩
  · exact h.elim
theorem zif_s {b : Bool} {A : Prop} (h : zif b A) : b = true ∧ A := by
  cases b
  · exact h.elim
  · exact ⟨rfl, h⟩
theorem zor_s {b : Bool} {A B : Prop} (h : zor b A B) : (b = true ∧ A) ∨ (b = false ∧ B) := by
  cases b
  · exact Or.inr ⟨rfl, h⟩
  · exact Or.inl ⟨rfl, h⟩
theorem zli_s {L : zL} {j : Nat} {f : Int32 → Prop} (h : zli L j f) : ∃ x, zget L j = some (.int x) ∧ f x := by
  unfold zli at h
  split at h
  next hz => exact ⟨_, hz, h⟩
  · exact h.elim
theorem zll_s {L : zL} {j : Nat} {f : Int64 → Prop} (h : zll L j f) : ∃ x, zget L j = some (.long x) ∧ f x := by
  unfold zll at h
  split at h
  next hz => exact ⟨_, hz, h⟩
  · exact h.elim
theorem zla_s {L : zL} {j : Nat} {f : Value → Prop} (h : zla L j f) : ∃ v, zget L j = some v ∧ ((∃ q, v = .ref q) ∨ v = .null ∨ ∃ q, v = .retAddr q) ∧ f v := by
  unfold zla at h
  split at h
  next hz => exact ⟨_, hz, Or.inl ⟨_, rfl⟩, h⟩
  next hz => exact ⟨_, hz, Or.inr (Or.inl rfl), h⟩
  next hz => exact ⟨_, hz, Or.inr (Or.inr ⟨_, rfl⟩), h⟩
  · exact h.elim
theorem zob_s {w : zW} {q ci : Nat} {f : List Value → Prop} (h : zob w q ci f) : ∃ fs, zix w q = some (.inr (ci, fs)) ∧ f fs := by
  unfold zob at h
  split at h
  next hz =>
    obtain ⟨h1, h2⟩ := zif_s h
    have := Nat.eq_of_beq_eq_true h1
    subst this
    exact ⟨_, hz, h2⟩
  · exact h.elim
theorem zai_s {w : zW} {q : Nat} {f : Nat → Nat → (Nat → Int32) → Prop} (h : zai w q f) : ∃ ti len g, zix w q = some (.inl (ti, len, .inl g)) ∧ f ti len g := by
  unfold zai at h
  split at h
  next hz => exact ⟨_, _, _, hz, h⟩
  · exact h.elim
theorem zaq_s {w : zW} {q : Nat} {f : Nat → Nat → (Nat → Option Nat) → Prop} (h : zaq w q f) : ∃ ti len g, zix w q = some (.inl (ti, len, .inr (.inr (.inr (.inr g))))) ∧ f ti len g := by
  unfold zaq at h
  split at h
  next hz => exact ⟨_, _, _, hz, h⟩
  · exact h.elim
theorem zfld_s {fs : List Value} {b : Nat} {f : Value → Prop} (h : zfld fs b f) : ∃ v, zix fs b = some v ∧ f v := by
  unfold zfld at h
  split at h
  next hz => exact ⟨_, hz, h⟩
  · exact h.elim
theorem zext_s {E : zX} {f : Nat → (Nat → Int32) → Prop} (h : zext E f) : ∃ q, E = some q ∧ f q.1 q.2 := by
  unfold zext at h
  split at h
  · exact ⟨_, rfl, h⟩
  · exact h.elim
theorem zlen1_s {S : List Value} {f : List Value → Prop} (h : zlen1 S f) : ∃ j t, S = .retAddr j :: t ∧ f t := by
  unfold zlen1 at h
  split at h
  · exact ⟨_, _, rfl, h⟩
  · exact h.elim
theorem zcpy_s {S : List Value} {f : Nat → Int32 → Nat → Int32 → Int32 → List Value → Prop} (h : zcpy S f) : ∃ q0 sp q1 dp m t, S = .int m :: .int dp :: .ref q1 :: .int sp :: .ref q0 :: t ∧ f q0 sp q1 dp m t := by
  unfold zcpy at h
  split at h
  · exact ⟨_, _, _, _, _, _, rfl, h⟩
  · exact h.elim
theorem zin1_s {S : List Value} {f : Value → Prop} (h : zin1 S f) : ∃ v, S = [v] ∧ f v := by
  unfold zin1 at h
  split at h
  · exact ⟨_, rfl, h⟩
  · exact h.elim
theorem znil_s {S : List Value} {A : Prop} (h : znil S A) : S = [] ∧ A := by
  unfold znil at h
  split at h
  · exact ⟨rfl, h⟩
  · exact h.elim
theorem zv_cat (b sc : Nat) (v : Value) : (zv b sc v).category = v.category := by cases v <;> rfl
theorem zrm_s {b sc : Nat} {S : List Value} (h : zrm S = true) : ((S.map (zv b sc)).map fun v => v.category).sum ≤ 8 := by
  rw [List.map_map, show ((fun v : Value => v.category) ∘ zv b sc) = fun v => v.category from funext (zv_cat b sc)]
  exact Nat.le_of_ble_eq_true h
theorem zv_rf (b sc : Nat) (o : Option Nat) : va_rf (o.map (b + ·)) = zv b sc (va_rf o) := by cases o <;> rfl
theorem zv_map (b sc : Nat) (o : Option Nat) : zv b sc (va_rf o) = va_rf (o.map (b + ·)) := (zv_rf b sc o).symm
theorem zmap_inj {b : Nat} {x y : Option Nat} : x.map (b + ·) = y.map (b + ·) ↔ x = y := by
  cases x <;> cases y <;> simp
theorem zv_dv (b sc : Nat) (ty : FieldType) : zv b sc (defaultValue ty) = defaultValue ty := by cases ty <;> rfl
theorem zdl_get : ∀ (n i j : Nat) (f : Nat → FieldType), j < n → (zdl n i f)[j]? = some (defaultValue (f (i + j)))
  | 0, _, _, _, h => absurd h (Nat.not_lt_zero _)
  | n + 1, i, 0, f, _ => rfl
  | n + 1, i, j + 1, f, h => by
    rw [zdl, List.getElem?_cons_succ, zdl_get n (i + 1) j f (by omega), show i + 1 + j = i + (j + 1) by omega]
theorem zfit_s {b sc : Nat} {ty : FieldType} {v : Value} (h : zfit ty v = true) : narrow ty (zv b sc v) = zv b sc v ∧ fits ty (zv b sc v) = true := by
  cases ty <;> cases v <;> first | exact ⟨rfl, rfl⟩ | cases h
theorem zde_s {M : zM} {pc np a b : Nat} {i : Instr} (h : zde M (pc, i, np, a, b) = true) (hz : ¬ zlen i = 0) : np = pc + zlen i ∧ decode M.2.1 pc = .ok (i, zlen i) := by
  unfold zde at h
  simp only [Bool.and_eq_true, Bool.or_eq_true, decide_eq_true_eq] at h
  obtain ⟨h1, h2⟩ := h
  have h3 : np = pc + zlen i := by
    rcases h2 with q | q
    · exact absurd (Nat.eq_of_beq_eq_true q) hz
    · exact Nat.eq_of_beq_eq_true q
  rw [h3, Nat.add_sub_cancel_left] at h1
  exact ⟨h3, h1⟩
theorem zrow_s {tab : List zM} {M : zM} {e : zE} (h : zrow tab M e = true) : (∀ o, zoff e.2.1 = some o → (e.1 : Int) + o = (e.2.2.2.1 : Int)) ∧ zslot M.2.2.1 e.2.1 = true ∧ zsw e.1 e.2.1 = true ∧ zlk tab M e = true := by
  unfold zrow at h
  simp only [Bool.and_eq_true] at h
  obtain ⟨⟨⟨h1, h2⟩, h3⟩, h4⟩ := h
  refine ⟨fun o ho => ?_, h2, h3, h4⟩
  rw [ho] at h1
  simpa using h1
def zroom (d mc ms : Nat) : Room := { frames := d, cells := mc, slots := ms, locals := 35 * d }
def zQc (b sc : Nat) (D : va_G) (dA : Nat → Nat) (z mc : Nat) (Q : zQ) : Array Value → State → Outcome → State → Prop := fun _ st oc t => (∃ (r : Option Value) (w : zW), Q r w ∧ w.length = z + mc ∧ oc = .returned (r.map (zv b sc)) ∧ va_P D zcls (zco b sc dA b w) t.heap) ∧ va_F (fun q => b ≤ q) st t
def zPc (b sc : Nat) (D : va_G) (dA : Nat → Nat) (As : List Value) (w : zW) : Array Value → State → Prop := va_Pc (As.map (zv b sc)) (fun U => U.heap.size = b + w.length ∧ va_P D zcls (zco b sc dA b w) U.heap ∧ va_K D zcls (ztys dA) U ∧ zN U)
def zSnd (tab : List zM) (l : Launch) (d : Nat) : Prop := ∀ (a : Nat) (As : List Value) (w : zW) (mc ms : Nat) (Q : zQ) (M : zM), zix tab a = some M → zCl tab d a As w mc ms Q → 1 ≤ d ∧ ∀ (b sc : Nat) (D : va_G) (dA : Nat → Nat), Met l M.1 (zws tab M) (zroom (d - 1) mc ms) (zPc b sc D dA As w) (zQc b sc D dA w.length mc Q) mc ms (fun q => b ≤ q)
def zrti (i : Instr) (r : Option FieldType) (v : Option Value) : Prop := match i with
  | .ireturn => ∃ x, v = some (.int x) ∧ zret r (.int x)
  | .lreturn => ∃ x, v = some (.long x) ∧ zret r (.long x)
  | .areturn => ((v = some .null ∧ zret r .null) ∨ ∃ q, v = some (.ref q) ∧ zret r (.ref q))
  | .return_ => v = none ∧ r = none
  | _ => False
theorem zPc_blind {b sc : Nat} {D : va_G} {dA : Nat → Nat} {As : List Value} {w : zW} : FrameBlind (zPc b sc D dA As w) := by
  intro a U g mk q
  obtain ⟨q0, q1, qP, qK, qN⟩ := q
  exact ⟨q0, q1, qP, va_K.moved (u := U) (U := U.calling g mk a) (Vm.Alike.refl U.vm) qK, zN.same (s := U) (U := U.calling g mk a) rfl qN⟩
section ZS
variable {p : Program} {l : Launch} {e : Env} {R : Room} {s : State} {m : MethodId} {args : Array Value} {below : List Frame} {meth : Method} {c : Code} {QW : State → Prop}
theorem zsz {H : Heap} {locs : List Loc} {k n : Nat} {g : JFrame} (h : H.size ≤ s.heap.size + k → W p l e R s m args below meth c H locs k n QW g) : W p l e R s m args below meth c H locs k n QW g :=
  fun T hT X => h (by rw [← hT]; exact X.heapSize) T hT X
theorem z_size {b sc z0 k : Nat} {D : va_G} {dA : Nat → Nat} {w : zW} {H : Heap} {locs : List Loc} (hsz : s.heap.size = b + z0) (hP : va_P D zcls (zco b sc dA b w) H) (hS : va_S (fun q => b ≤ q) s.heap H locs) (hlen : w.length = z0 + k) (hle : H.size ≤ s.heap.size + k) : H.size = b + w.length := by
  have h1 := hS.1
  by_cases hk : k = 0
  · omega
  · have hw : w.length - 1 < w.length := by omega
    have hg : zix w (w.length - 1) = some w[w.length - 1] := by rw [zix_eq]; exact List.getElem?_eq_getElem hw
    have h2 := (hP _ _ (zco_at (b := b) (sc := sc) (dA := dA) hg)).lt
    dsimp only at h2
    omega
theorem z_fresh {b sc z0 k q : Nat} {D : va_G} {dA : Nat → Nat} {w : zW} {H : Heap} {e0 : va_E} (hsz : s.heap.size = b + z0) (hlen : w.length = z0 + k) (hP : va_P D zcls (zco b sc dA b w ++ [(q, e0)]) H) (hD : va_D (fun q => b ≤ q) (zco b sc dA b w ++ [(q, e0)])) (hle : H.size ≤ s.heap.size + (k + 1)) : q = b + w.length := by
  have hl : (zco b sc dA b w ++ [(q, e0)])[w.length]? = some (q, e0) := by
    rw [List.getElem?_append_right (by rw [zco_len]; exact Nat.le_refl _), zco_len, Nat.sub_self]; rfl
  have h1 := (hP _ _ hl).lt
  have h2 := hD.2 _ _ hl
  dsimp only at h1 h2
  by_cases hq : q = b + w.length
  · exact hq
  · exfalso
    have hlt : q - b < w.length := by omega
    have hg : zix w (q - b) = some w[q - b] := by rw [zix_eq]; exact List.getElem?_eq_getElem hlt
    have h3 := zco_at (b := b) (sc := sc) (dA := dA) hg
    have h4 : (zco b sc dA b w ++ [(q, e0)])[q - b]? = some (b + (q - b), zcc b sc dA w[q - b]) := by
      rw [List.getElem?_append_left (by rw [zco_len]; exact hlt)]; exact h3
    have h5 := hD.1 _ _ _ _ h4 hl (by dsimp only; omega)
    omega
def zOK (p : Program) (l : Launch) (e : Env) (R : Room) (s : State) (m : MethodId) (args : Array Value) (below : List Frame) (meth : Method) (c : Code) (QW : State → Prop) (b sc : Nat) (D : va_G) (dA : Nat → Nat) (nL z0 : Nat) (x : zS) : Prop :=
  ∀ (H : Heap) (locs : List Loc) (ls : Array Slot), va_P D zcls (zco b sc dA b x.2.2.2.1) H → va_S (fun q => b ≤ q) s.heap H locs → lv_has ls nL (zpr b sc x.2.1) → x.2.2.2.1.length = z0 + x.2.2.2.2.1 → W p l e R s m args below meth c H locs x.2.2.2.2.1 x.2.2.2.2.2 QW (F0 m x.1 ls (x.2.2.1.map (zv b sc)))
theorem z_call {b sc z mc' ms' k n pc : Nat} {D : va_G} {dA : Nat → Nat} {Qf : zQ} {a0 : Array Value} {H : Heap} {locs : List Loc} {ls : Array Slot} {st0 rest : List Value}
    (hr : va_Run p l e R s m args below meth c H locs k n mc' ms' (F0 m pc ls st0) rest (zQc b sc D dA z mc' Qf a0) (fun q => b ≤ q)) (hS : va_S (fun q => b ≤ q) s.heap H locs)
    (kk : ∀ (r : Option Value) (w' : zW) (H1 : Heap) (locs1 : List Loc), Qf r w' → w'.length = z + mc' → va_P D zcls (zco b sc dA b w') H1 → va_S (fun q => b ≤ q) s.heap H1 locs1 → W p l e R s m args below meth c H1 locs1 (k + mc') (n + ms') QW (F0 m (pc + 3) ls ((r.map (zv b sc)).toList ++ rest))) : W p l e R s m args below meth c H locs k n QW (F0 m pc ls st0) := by
  intro T hT X
  obtain ⟨v, st₀, t, T', L, h0, X', hL, e1, e2, ⟨⟨r, w', hq, hz, hv, hP⟩, hF1, hF2⟩, st⟩ := hr T hT X
  cases hv
  rw [h0] at hF1 hF2
  obtain ⟨t2, a1, b1⟩ := kk r w' T'.heap (locs ++ L) hq hz (by rw [e1]; exact hP)
    ⟨Nat.le_trans hS.1 (by rw [e1]; exact hF1), fun q h1 h2 => by rw [e1, hF2 q (Nat.lt_of_lt_of_le h1 hS.1) h2]; exact hS.2.1 q h1 h2, fun q hq => by
      rcases List.mem_append.mp hq with h | h
      · exact hS.2.2 q h
      · exact hL q h⟩ T' rfl X'
  exact ⟨t2, st t2 a1, b1⟩
end ZS
end
section
section ZT
variable {p : Program} {l : Launch} {e : Env} {R : Room} {s : State} {m : MethodId} {args : Array Value} {below : List Frame} {meth : Method} {c : Code} {QW : State → Prop}
theorem zgood_in {tab : List zM} (hgood : ∀ w ∈ zt tab, goodWord w = true) {M : zM} (h : zcode M ∈ zt tab) : GoodIn (zt tab) (zws tab M) := by
  intro w hw
  rcases List.mem_cons.mp hw with rfl | hw
  · exact ⟨h, good_of_word (hgood _ h)⟩
  · exact ⟨hw, good_of_word (hgood _ hw)⟩
theorem zmat_s {tab : List zM} {a : Nat} (h : zhas tab a = true) : zix tab a = some (zmat tab a) := by
  unfold zhas at h
  unfold zmat
  split at h
  next hz => rw [hz]
  · cases h
theorem zpub_s {own : String} {y : MethodName} (h : zpub own y = false) {X : Prop} {A : Prop} [Decidable A] (h2 : (zpub own y || decide A) = true) : A := by
  rw [h, Bool.false_or] at h2
  exact of_decide_eq_true h2
/-- a call by what the callee's contract says, of whichever kind -/
theorem z_inv {tab : List zM} {d : Nat} {M : zM} {mc ms b sc z0 : Nat} {D : va_G} {dA : Nat → Nat} {P : zS → Prop}
    (hb : c.code = M.2.1) (hx : p.tables.exec = Jvm.exec) (hml : c.maxLocals = M.2.2.1) (hown : s.vm.findClass M.1.cls = some m.cls) (hts : ∀ w ∈ zt tab, w.before args s = true) (hgood : ∀ w ∈ zt tab, goodWord w = true) (htab : ∀ M' ∈ tab, zokM tab M') (hK : va_K D zcls (ztys dA) s) (hN : zN s) (hsz : s.heap.size = b + z0)
    (hR : d ≤ R.frames ∧ 35 * d ≤ R.locals ∧ mc ≤ R.cells ∧ ms ≤ R.slots) (hsnd : zSnd tab l d) (hP : ∀ y, P y → zOK p l e R s m args below meth c QW b sc D dA M.2.2.1 z0 y)
    {pc a np : Nat} {L : zL} {As St0 St : List Value} {w : zW} {k n : Nat} {H : Heap} {locs : List Loc} {ls : Array Slot} (hnp : np = pc + 3) (hcc : zcode (zmat tab a) ∈ zt tab)
    (hPw : va_P D zcls (zco b sc dA b w) H) (hS : va_S (fun q => b ≤ q) s.heap H locs) (hl : lv_has ls M.2.2.1 (zpr b sc L)) (hlen : w.length = z0 + k) (hhas : zhas tab a = true)
    (hcall : zcall (zCl tab d) a As St w k n mc ms np L P)
    (hrun : ∀ (mc' ms' : Nat) (Pc : Array Value → State → Prop) (Qc : Array Value → State → Outcome → State → Prop), (zmat tab a).2.2.1 ≤ 16 → 1 ≤ d → Met l (zmat tab a).1 (zws tab (zmat tab a)) (zroom (d - 1) mc' ms') Pc Qc mc' ms' (fun q => b ≤ q) → FrameBlind Pc → (∀ U : State, U.heap = H → s.WarmedH U.vm → Pc (As.map (zv b sc)).toArray U) → (k + mc' ≤ R.cells ∧ n + ms' ≤ R.slots) → va_Run p l e R s m args below meth c H locs k n mc' ms' (F0 m pc ls St0) (St.map (zv b sc)) (Qc (As.map (zv b sc)).toArray) (fun q => b ≤ q)) :
    W p l e R s m args below meth c H locs k n QW (F0 m pc ls St0) := by
  refine zsz fun hle => ?_
  have hHs := z_size hsz hPw hS hlen hle
  obtain ⟨mc', ms', ⟨h1, h2⟩, hC⟩ := hcall
  have hM' := zmat_s hhas
  obtain ⟨hd, hMet⟩ := hsnd a As w mc' ms' _ _ hM' hC
  have hmem : zmat tab a ∈ tab := by rw [zix_eq] at hM'; exact List.mem_of_getElem? hM'
  have h16 : (zmat tab a).2.2.1 ≤ 16 := by
    have h := (htab _ hmem).2.2
    simp only [Bool.and_eq_true] at h
    exact Nat.le_of_ble_eq_true h.1
  refine z_call (hrun mc' ms' _ _ h16 hd (hMet b sc D dA) zPc_blind (fun U hU hW => ⟨rfl, by rw [hU]; exact hHs, by rw [hU]; exact hPw, va_K.moved hW.alike hK, hN.warm hW⟩) ⟨Nat.le_trans h1 hR.2.2.1, Nat.le_trans h2 hR.2.2.2⟩) hS ?_
  intro r w' H1 locs1 hq hw' hP1 hS1
  have hz := hP _ hq H1 locs1 ls hP1 hS1 hl (by dsimp only; omega)
  subst hnp
  refine W.eq (g2 := F0 m (pc + 3) ls ((r.toList ++ St).map (zv b sc))) ?_ hz
  congr 1
  cases r <;> simp
end ZT
end
section
section ZU
variable {p : Program} {l : Launch} {e : Env} {R : Room} {s : State} {m : MethodId} {args : Array Value} {below : List Frame} {meth : Method} {c : Code} {QW : State → Prop}
theorem zlook_nn {pc : Nat} {df : Int} {x : Int} (h0 : 0 ≤ (pc : Int) + df) : ∀ (ps : List (Int × Int)), (ps.all fun o => decide (0 ≤ (pc : Int) + o.2)) = true → 0 ≤ (pc : Int) + Op.lookupswitch.offset ps df x
  | [], _ => by rw [show Op.lookupswitch.offset [] df x = df from rfl]; exact h0
  | (a, o) :: r, h => by
    simp only [List.all_cons, Bool.and_eq_true, decide_eq_true_eq] at h
    rw [Op.lookupswitch.offset_cons]
    split
    · exact h.1
    · exact zlook_nn h0 r h.2
set_option maxHeartbeats 8000000 in
theorem z_step {tab : List zM} {d : Nat} {M : zM} {E : zX} {mc ms b sc z0 : Nat} {D : va_G} {dA : Nat → Nat} {Q : zQ} {P : zS → Prop}
    (hb : c.code = M.2.1) (hx : p.tables.exec = Jvm.exec) (hml : c.maxLocals = M.2.2.1) (hown : s.vm.findClass M.1.cls = some m.cls) (hts : ∀ w ∈ zt tab, w.before args s = true) (hgood : ∀ w ∈ zt tab, goodWord w = true) (hM : M ∈ tab) (htab : ∀ M' ∈ tab, zokM tab M') (hK : va_K D zcls (ztys dA) s) (hN : zN s) (hsz : s.heap.size = b + z0)
    (hin : M.1.name = "<init>" → meth.name = "<init>") (hR : d ≤ R.frames ∧ 35 * d ≤ R.locals ∧ mc ≤ R.cells ∧ ms ≤ R.slots) (hsnd : zSnd tab l d) (hE : ∀ q, E = some q → sc < b ∧ sc < s.heap.size ∧ va_X sc q.1 q.2 s s.heap)
    (hret : ∀ (i : Instr) (pc : Nat) (v : Option Value) (w : zW) (H : Heap) (locs : List Loc) (ls : Array Slot) (k n : Nat), decode M.2.1 pc = .ok (i, 1) → zrti i M.2.2.2.1 v → Q v w → zfin E k n mc ms → va_P D zcls (zco b sc dA b w) H → va_S (fun q => b ≤ q) s.heap H locs → w.length = z0 + k → W p l e R s m args below meth c H locs k n QW (F0 m pc ls (v.toList.map (zv b sc))))
    (hP : ∀ y, P y → zOK p l e R s m args below meth c QW b sc D dA M.2.2.1 z0 y) {y0 : zS} (hs : zstep (zCl tab d) d M E tab mc ms Q y0 P) : zOK p l e R s m args below meth c QW b sc D dA M.2.2.1 z0 y0 := by
  obtain ⟨pc, L, S, w, k, n⟩ := y0
  unfold zstep zsc at hs
  dsimp only at hs
  split at hs
  · exact hs.elim
  rename_i r hr
  obtain ⟨i, np, a, bb⟩ := r
  dsimp only at hs
  have hmem := zat_mem hr
  have hde := List.all_eq_true.mp (htab M hM).1 _ hmem
  obtain ⟨hoff, hslot, hsw, hlk⟩ := zrow_s (List.all_eq_true.mp (htab M hM).2.1 _ hmem)
  have hwd : ∀ w ∈ zrq tab M.1.cls (pc, i, np, a, bb), w.before args s = true := fun w hw => hts w (zt_rq hM hmem hw)
  have hwz : ∀ w ∈ zrq tab M.1.cls (pc, i, np, a, bb), w ∈ zt tab := fun w hw => zt_rq hM hmem hw
  have hD := zco_D b sc dA w
  have hA : ∀ q : Nat, s.heap.size ≤ q → (fun q => b ≤ q) q := fun q hq => by show b ≤ q; omega
  intro H locs ls hPw hS hl hlen
  dsimp only at hPw hl hlen hoff hslot hsw ⊢
  cases i with
  | iconst v =>
    obtain ⟨rfl, hd⟩ := zde_s hde (fun h => absurd h (Nat.succ_ne_zero _))
    exact lv_iconst hx hb hd rfl (hP _ hs H locs ls hPw hS hl hlen)
  | bipush v =>
    obtain ⟨rfl, hd⟩ := zde_s hde (fun h => absurd h (Nat.succ_ne_zero _))
    exact lv_bipush hx hb hd rfl (hP _ hs H locs ls hPw hS hl hlen)
  | sipush v =>
    obtain ⟨rfl, hd⟩ := zde_s hde (fun h => absurd h (Nat.succ_ne_zero _))
    exact lv_sipush hx hb hd rfl (hP _ hs H locs ls hPw hS hl hlen)
  | ldc ix =>
    obtain ⟨rfl, hd⟩ := zde_s hde (fun h => absurd h (Nat.succ_ne_zero _))
    exact lv_ldc hx hb hown (hwd _ List.mem_cons_self) hd (hP _ hs H locs ls hPw hS hl hlen)
  | ldc2_w ix =>
    obtain ⟨rfl, hd⟩ := zde_s hde (fun h => absurd h (Nat.succ_ne_zero _))
    exact lv_ldc2 hx hb hown (hwd _ List.mem_cons_self) hd (hP _ hs H locs ls hPw hS hl hlen)
  | lconst v =>
    obtain ⟨rfl, hd⟩ := zde_s hde (fun h => absurd h (Nat.succ_ne_zero _))
    exact lv_lconst hx hb hd rfl (hP _ hs H locs ls hPw hS hl hlen)
  | aconst_null =>
    obtain ⟨rfl, hd⟩ := zde_s hde (fun h => absurd h (Nat.succ_ne_zero _))
    exact lv_null hx hb hd (hP _ hs H locs ls hPw hS hl hlen)
  | iload_n j =>
    obtain ⟨rfl, hd⟩ := zde_s hde (fun h => absurd h (Nat.succ_ne_zero _))
    obtain ⟨x, hj, hs⟩ := zli_s hs
    exact lv_iload_n hx hb hd rfl (zpr_at hl hj) (hP _ hs H locs ls hPw hS hl hlen)
  | iload j =>
    obtain ⟨rfl, hd⟩ := zde_s hde (fun h => absurd h (Nat.succ_ne_zero _))
    obtain ⟨x, hj, hs⟩ := zli_s hs
    exact lv_iload hx hb hd (zpr_at hl hj) (hP _ hs H locs ls hPw hS hl hlen)
  | lload_n j =>
    obtain ⟨rfl, hd⟩ := zde_s hde (fun h => absurd h (Nat.succ_ne_zero _))
    obtain ⟨x, hj, hs⟩ := zll_s hs
    exact lv_lload_n hx hb hd rfl (zpr_at hl hj) (hP _ hs H locs ls hPw hS hl hlen)
  | lload j =>
    obtain ⟨rfl, hd⟩ := zde_s hde (fun h => absurd h (Nat.succ_ne_zero _))
    obtain ⟨x, hj, hs⟩ := zll_s hs
    exact lv_lload hx hb hd (zpr_at hl hj) (hP _ hs H locs ls hPw hS hl hlen)
  | aload_n j =>
    simp only [zins] at hs
    obtain ⟨rfl, hd⟩ := zde_s hde (fun h => absurd h (Nat.succ_ne_zero _))
    obtain ⟨v, hj, hv, hs⟩ := zla_s hs
    rcases hv with ⟨q, rfl⟩ | rfl | ⟨q, rfl⟩
    · exact lv_aload_n hx hb hd rfl (zpr_at hl hj) (hP _ hs H locs ls hPw hS hl hlen)
    · exact lv_aload_nN hx hb hd rfl (zpr_at hl hj) (hP _ hs H locs ls hPw hS hl hlen)
    · exact lv_aload_n hx hb hd rfl (zpr_at hl hj) (hP _ hs H locs ls hPw hS hl hlen)
  | aload j =>
    simp only [zins] at hs
    obtain ⟨rfl, hd⟩ := zde_s hde (fun h => absurd h (Nat.succ_ne_zero _))
    obtain ⟨v, hj, hv, hs⟩ := zla_s hs
    rcases hv with ⟨q, rfl⟩ | rfl | ⟨q, rfl⟩
    · exact lv_aload hx hb hd (zpr_at hl hj) (hP _ hs H locs ls hPw hS hl hlen)
    · exact lv_aloadN hx hb hd (zpr_at hl hj) (hP _ hs H locs ls hPw hS hl hlen)
    · exact lv_aload hx hb hd (zpr_at hl hj) (hP _ hs H locs ls hPw hS hl hlen)
  | istore_n j =>
    obtain ⟨rfl, hd⟩ := zde_s hde (fun h => absurd h (Nat.succ_ne_zero _))
    obtain ⟨x, t, rfl, hs⟩ := z1i_s hs
    obtain ⟨hf, hs⟩ := zif_s hs
    have hj : j.val < M.2.2.1 := Nat.le_of_ble_eq_true hslot
    exact lv_istore_n hx hb hd rfl hl hj rfl (fun ls1 hl1 => hP _ hs H locs ls1 hPw hS (zpr_store1 (v := .int x) hf hl1) hlen)
  | istore j =>
    obtain ⟨rfl, hd⟩ := zde_s hde (fun h => absurd h (Nat.succ_ne_zero _))
    obtain ⟨x, t, rfl, hs⟩ := z1i_s hs
    obtain ⟨hf, hs⟩ := zif_s hs
    have hj : j < M.2.2.1 := Nat.le_of_ble_eq_true hslot
    exact lv_istore hx hb hd hl hj rfl (fun ls1 hl1 => hP _ hs H locs ls1 hPw hS (zpr_store1 (v := .int x) hf hl1) hlen)
  | lstore_n j =>
    obtain ⟨rfl, hd⟩ := zde_s hde (fun h => absurd h (Nat.succ_ne_zero _))
    obtain ⟨x, t, rfl, hs⟩ := z1l_s hs
    obtain ⟨hf, hs⟩ := zif_s hs
    have hj : j.val + 1 < M.2.2.1 := Nat.le_of_ble_eq_true hslot
    exact lv_lstore_n hx hb hd rfl hl hj rfl (fun ls1 hl1 => hP _ hs H locs ls1 hPw hS (zpr_store2 (v := .long x) hf hl1) hlen)
  | lstore j =>
    obtain ⟨rfl, hd⟩ := zde_s hde (fun h => absurd h (Nat.succ_ne_zero _))
    obtain ⟨x, t, rfl, hs⟩ := z1l_s hs
    obtain ⟨hf, hs⟩ := zif_s hs
    have hj : j + 1 < M.2.2.1 := Nat.le_of_ble_eq_true hslot
    exact lv_lstore hx hb hd hl hj rfl (fun ls1 hl1 => hP _ hs H locs ls1 hPw hS (zpr_store2 (v := .long x) hf hl1) hlen)
  | astore_n j =>
    simp only [zins] at hs
    obtain ⟨rfl, hd⟩ := zde_s hde (fun h => absurd h (Nat.succ_ne_zero _))
    have hj : j.val < M.2.2.1 := Nat.le_of_ble_eq_true hslot
    rcases zasv_s hs with ⟨q, t, rfl, hs⟩ | ⟨t, rfl, hs⟩
    · obtain ⟨hf, hs⟩ := zif_s hs
      exact lv_astore_n hx hb hd rfl hl hj rfl (fun ls1 hl1 => hP _ hs H locs ls1 hPw hS (zpr_store1 (v := .ref q) hf hl1) hlen)
    · obtain ⟨hf, hs⟩ := zif_s hs
      exact lv_astore_nN hx hb hd rfl hl hj rfl (fun ls1 hl1 => hP _ hs H locs ls1 hPw hS (zpr_store1 (v := .null) hf hl1) hlen)
  | astore j =>
    simp only [zins] at hs
    obtain ⟨rfl, hd⟩ := zde_s hde (fun h => absurd h (Nat.succ_ne_zero _))
    have hj : j < M.2.2.1 := Nat.le_of_ble_eq_true hslot
    rcases zasv_s hs with ⟨q, t, rfl, hs⟩ | ⟨t, rfl, hs⟩
    · obtain ⟨hf, hs⟩ := zif_s hs
      exact lv_astore hx hb hd hl hj rfl (fun ls1 hl1 => hP _ hs H locs ls1 hPw hS (zpr_store1 (v := .ref q) hf hl1) hlen)
    · obtain ⟨hf, hs⟩ := zif_s hs
      exact lv_astoreN hx hb hd hl hj rfl (fun ls1 hl1 => hP _ hs H locs ls1 hPw hS (zpr_store1 (v := .null) hf hl1) hlen)
  | iinc j v =>
    obtain ⟨rfl, hd⟩ := zde_s hde (fun h => absurd h (Nat.succ_ne_zero _))
    obtain ⟨x, hg, hs⟩ := zli_s hs
    obtain ⟨hf, hs⟩ := zif_s hs
    have hj : j < M.2.2.1 := Nat.le_of_ble_eq_true hslot
    obtain ⟨kk, hkk⟩ := List.getElem?_of_mem (zpr_mem.mpr ⟨.int x, hg, rfl⟩ : ((j, .int x) : Nat × Value) ∈ zpr b sc L)
    exact lv_iinc hx hb hd hl hkk rfl hj rfl (fun ls1 hl1 => hP _ hs H locs ls1 hPw hS (zpr_store1 (v := .int (x + Int32.ofInt v)) hf hl1) hlen)
  | iadd =>
    obtain ⟨rfl, hd⟩ := zde_s hde (fun h => absurd h (Nat.succ_ne_zero _))
    obtain ⟨x, y, t, rfl, hs⟩ := z2i_s hs
    exact lv_iadd hx hb hd (hP _ hs H locs ls hPw hS hl hlen)
  | isub =>
    obtain ⟨rfl, hd⟩ := zde_s hde (fun h => absurd h (Nat.succ_ne_zero _))
    obtain ⟨x, y, t, rfl, hs⟩ := z2i_s hs
    exact lv_isub hx hb hd (hP _ hs H locs ls hPw hS hl hlen)
  | imul =>
    obtain ⟨rfl, hd⟩ := zde_s hde (fun h => absurd h (Nat.succ_ne_zero _))
    obtain ⟨x, y, t, rfl, hs⟩ := z2i_s hs
    exact lv_imul hx hb hd (hP _ hs H locs ls hPw hS hl hlen)
  | iand =>
    obtain ⟨rfl, hd⟩ := zde_s hde (fun h => absurd h (Nat.succ_ne_zero _))
    obtain ⟨x, y, t, rfl, hs⟩ := z2i_s hs
    exact lv_iand hx hb hd (hP _ hs H locs ls hPw hS hl hlen)
  | ior =>
    obtain ⟨rfl, hd⟩ := zde_s hde (fun h => absurd h (Nat.succ_ne_zero _))
    obtain ⟨x, y, t, rfl, hs⟩ := z2i_s hs
    exact lv_ior hx hb hd (hP _ hs H locs ls hPw hS hl hlen)
  | ixor =>
    obtain ⟨rfl, hd⟩ := zde_s hde (fun h => absurd h (Nat.succ_ne_zero _))
    obtain ⟨x, y, t, rfl, hs⟩ := z2i_s hs
    exact lv_ixor hx hb hd (hP _ hs H locs ls hPw hS hl hlen)
  | idiv =>
    obtain ⟨rfl, hd⟩ := zde_s hde (fun h => absurd h (Nat.succ_ne_zero _))
    obtain ⟨x, y, t, rfl, hne, hs⟩ := z2i_s hs
    exact lv_idiv hx hb hd hne (hP _ hs H locs ls hPw hS hl hlen)
  | irem =>
    obtain ⟨rfl, hd⟩ := zde_s hde (fun h => absurd h (Nat.succ_ne_zero _))
    obtain ⟨x, y, t, rfl, hne, hs⟩ := z2i_s hs
    exact lv_irem hx hb hd hne (hP _ hs H locs ls hPw hS hl hlen)
  | ishl =>
    obtain ⟨rfl, hd⟩ := zde_s hde (fun h => absurd h (Nat.succ_ne_zero _))
    obtain ⟨x, y, t, rfl, hs⟩ := z2i_s hs
    exact lv_ishl hx hb hd (hP _ hs H locs ls hPw hS hl hlen)
  | ishr =>
    obtain ⟨rfl, hd⟩ := zde_s hde (fun h => absurd h (Nat.succ_ne_zero _))
    obtain ⟨x, y, t, rfl, hs⟩ := z2i_s hs
    exact lv_ishr hx hb hd (hP _ hs H locs ls hPw hS hl hlen)
  | iushr =>
    obtain ⟨rfl, hd⟩ := zde_s hde (fun h => absurd h (Nat.succ_ne_zero _))
    obtain ⟨x, y, t, rfl, hs⟩ := z2i_s hs
    exact lv_iushr hx hb hd rfl (hP _ hs H locs ls hPw hS hl hlen)
  | i2b =>
    obtain ⟨rfl, hd⟩ := zde_s hde (fun h => absurd h (Nat.succ_ne_zero _))
    obtain ⟨x, t, rfl, hs⟩ := z1i_s hs
    exact lv_i2b hx hb hd rfl (hP _ hs H locs ls hPw hS hl hlen)
  | i2l =>
    obtain ⟨rfl, hd⟩ := zde_s hde (fun h => absurd h (Nat.succ_ne_zero _))
    obtain ⟨x, t, rfl, hs⟩ := z1i_s hs
    exact lv_i2l hx hb hd rfl (hP _ hs H locs ls hPw hS hl hlen)
  | ladd =>
    obtain ⟨rfl, hd⟩ := zde_s hde (fun h => absurd h (Nat.succ_ne_zero _))
    obtain ⟨x, y, t, rfl, hs⟩ := z2l_s hs
    exact lv_ladd hx hb hd (hP _ hs H locs ls hPw hS hl hlen)
  | lsub =>
    obtain ⟨rfl, hd⟩ := zde_s hde (fun h => absurd h (Nat.succ_ne_zero _))
    obtain ⟨x, y, t, rfl, hs⟩ := z2l_s hs
    exact lv_lsub hx hb hd (hP _ hs H locs ls hPw hS hl hlen)
  | lmul =>
    obtain ⟨rfl, hd⟩ := zde_s hde (fun h => absurd h (Nat.succ_ne_zero _))
    obtain ⟨x, y, t, rfl, hs⟩ := z2l_s hs
    exact lv_lmul hx hb hd (hP _ hs H locs ls hPw hS hl hlen)
  | lor =>
    obtain ⟨rfl, hd⟩ := zde_s hde (fun h => absurd h (Nat.succ_ne_zero _))
    obtain ⟨x, y, t, rfl, hs⟩ := z2l_s hs
    exact lv_lor hx hb hd (hP _ hs H locs ls hPw hS hl hlen)
  | ldiv =>
    obtain ⟨rfl, hd⟩ := zde_s hde (fun h => absurd h (Nat.succ_ne_zero _))
    obtain ⟨x, y, t, rfl, hne, hs⟩ := z2l_s hs
    exact lv_ldiv hx hb hd hne (hP _ hs H locs ls hPw hS hl hlen)
  | lrem =>
    obtain ⟨rfl, hd⟩ := zde_s hde (fun h => absurd h (Nat.succ_ne_zero _))
    obtain ⟨x, y, t, rfl, hne, hs⟩ := z2l_s hs
    exact lv_lrem hx hb hd hne (hP _ hs H locs ls hPw hS hl hlen)
  | lshl =>
    simp only [zins] at hs
    obtain ⟨rfl, hd⟩ := zde_s hde (fun h => absurd h (Nat.succ_ne_zero _))
    obtain ⟨x, y, t, rfl, hs⟩ := zil_s hs
    exact lv_lshl hx hb hd rfl (hP _ hs H locs ls hPw hS hl hlen)
  | ldc_w ix =>
    obtain ⟨rfl, hd⟩ := zde_s hde (fun h => absurd h (Nat.succ_ne_zero _))
    exact lv_ldcw hx hb hown (hwd _ List.mem_cons_self) hd (hP _ hs H locs ls hPw hS hl hlen)
  | if_acmp cd off =>
    simp only [zins] at hs
    obtain ⟨rfl, hd⟩ := zde_s hde (fun h => absurd h (Nat.succ_ne_zero _))
    obtain ⟨rx, ry, t, hst, hs1⟩ := z2r_s hs
    clear hs
    subst hst
    have ht := hoff off rfl
    rw [List.map_cons, List.map_cons, zv_map, zv_map]
    cases cd
    · exact lv_acmp_eq hx hb hd ht (fun q => hP _ (hs1.1 (zmap_inj.mp q)) H locs ls hPw hS hl hlen) (fun q => hP _ (hs1.2 (fun z => q (zmap_inj.mpr z))) H locs ls hPw hS hl hlen)
    · exact lv_acmp_ne hx hb hd ht (fun q => hP _ (hs1.1 (fun z => q (zmap_inj.mpr z))) H locs ls hPw hS hl hlen) (fun q => hP _ (hs1.2 (zmap_inj.mp q)) H locs ls hPw hS hl hlen)
  | lcmp =>
    obtain ⟨rfl, hd⟩ := zde_s hde (fun h => absurd h (Nat.succ_ne_zero _))
    obtain ⟨x, y, t, rfl, hs⟩ := z2l_s hs
    exact W.lcmp hx hb hd (hP _ hs H locs ls hPw hS hl hlen)
  | dup =>
    obtain ⟨rfl, hd⟩ := zde_s hde (fun h => absurd h (Nat.succ_ne_zero _))
    obtain ⟨v, t, rfl, hs⟩ := z1v_s hs
    obtain ⟨hc, hs⟩ := zif_s hs
    exact lv_dup hx hb hd ((zv_cat b sc v).trans (Nat.eq_of_beq_eq_true hc)) (hP _ hs H locs ls hPw hS hl hlen)
  | pop =>
    obtain ⟨rfl, hd⟩ := zde_s hde (fun h => absurd h (Nat.succ_ne_zero _))
    obtain ⟨v, t, rfl, hs⟩ := z1v_s hs
    obtain ⟨hc, hs⟩ := zif_s hs
    exact lv_pop hx hb hd ((zv_cat b sc v).trans (Nat.eq_of_beq_eq_true hc)) (hP _ hs H locs ls hPw hS hl hlen)
  | dup2 =>
    obtain ⟨rfl, hd⟩ := zde_s hde (fun h => absurd h (Nat.succ_ne_zero _))
    obtain ⟨v, u, t, rfl, hs⟩ := zvr2_s hs
    obtain ⟨hc, hs⟩ := zif_s hs
    obtain ⟨hc2, hs⟩ := zif_s hs
    exact lv_dup2_11 hx hb hd ((zv_cat b sc v).trans (Nat.eq_of_beq_eq_true hc)) ((zv_cat b sc u).trans (Nat.eq_of_beq_eq_true hc2)) (hP _ hs H locs ls hPw hS hl hlen)
  | if_icmp cd off =>
    obtain ⟨rfl, hd⟩ := zde_s hde (fun h => absurd h (Nat.succ_ne_zero _))
    obtain ⟨x, y, t, rfl, hs⟩ := z2i_s hs
    have ht := hoff off rfl
    cases cd
    · exact lv_icmp_eq hx hb hd ht (fun q => hP _ (hs.1 q) H locs ls hPw hS hl hlen) (fun q => hP _ (hs.2 q) H locs ls hPw hS hl hlen)
    · exact lv_icmp_ne hx hb hd ht (fun q => hP _ (hs.1 q) H locs ls hPw hS hl hlen) (fun q => hP _ (hs.2 q) H locs ls hPw hS hl hlen)
    · exact lv_icmp_lt hx hb hd ht (fun q => hP _ (hs.1 q) H locs ls hPw hS hl hlen) (fun q => hP _ (hs.2 q) H locs ls hPw hS hl hlen)
    · exact lv_icmp_ge hx hb hd ht (fun q => hP _ (hs.1 q) H locs ls hPw hS hl hlen) (fun q => hP _ (hs.2 q) H locs ls hPw hS hl hlen)
    · exact lv_icmp_gt hx hb hd ht (fun q => hP _ (hs.1 q) H locs ls hPw hS hl hlen) (fun q => hP _ (hs.2 q) H locs ls hPw hS hl hlen)
    · exact lv_icmp_le hx hb hd ht (fun q => hP _ (hs.1 q) H locs ls hPw hS hl hlen) (fun q => hP _ (hs.2 q) H locs ls hPw hS hl hlen)
  | ifCond cd off =>
    obtain ⟨rfl, hd⟩ := zde_s hde (fun h => absurd h (Nat.succ_ne_zero _))
    obtain ⟨x, t, rfl, hs⟩ := z1i_s hs
    have ht := hoff off rfl
    cases cd
    · exact lv_if_eq hx hb hd ht (fun q => hP _ (hs.1 q) H locs ls hPw hS hl hlen) (fun q => hP _ (hs.2 q) H locs ls hPw hS hl hlen)
    · exact lv_if_ne hx hb hd ht (fun q => hP _ (hs.1 q) H locs ls hPw hS hl hlen) (fun q => hP _ (hs.2 q) H locs ls hPw hS hl hlen)
    · exact lv_if_lt hx hb hd ht (fun q => hP _ (hs.1 q) H locs ls hPw hS hl hlen) (fun q => hP _ (hs.2 q) H locs ls hPw hS hl hlen)
    · exact lv_if_ge hx hb hd ht (fun q => hP _ (hs.1 q) H locs ls hPw hS hl hlen) (fun q => hP _ (hs.2 q) H locs ls hPw hS hl hlen)
    · exact lv_if_gt hx hb hd ht (fun q => hP _ (hs.1 q) H locs ls hPw hS hl hlen) (fun q => hP _ (hs.2 q) H locs ls hPw hS hl hlen)
    · exact lv_if_le hx hb hd ht (fun q => hP _ (hs.1 q) H locs ls hPw hS hl hlen) (fun q => hP _ (hs.2 q) H locs ls hPw hS hl hlen)
  | goto off =>
    obtain ⟨rfl, hd⟩ := zde_s hde (fun h => absurd h (Nat.succ_ne_zero _))
    exact lv_goto hx hb hd (hoff off rfl) (hP _ hs H locs ls hPw hS hl hlen)
  | ifnull off =>
    simp only [zins] at hs
    obtain ⟨rfl, hd⟩ := zde_s hde (fun h => absurd h (Nat.succ_ne_zero _))
    rcases zrn_s hs with ⟨q, t, rfl, hs⟩ | ⟨t, rfl, hs⟩
    · exact lv_ifnull hx hb hd (hP _ hs H locs ls hPw hS hl hlen)
    · exact lv_ifnullN hx hb hd (hoff off rfl) (hP _ hs H locs ls hPw hS hl hlen)
  | ifnonnull off =>
    simp only [zins] at hs
    obtain ⟨rfl, hd⟩ := zde_s hde (fun h => absurd h (Nat.succ_ne_zero _))
    rcases zrn_s hs with ⟨q, t, rfl, hs⟩ | ⟨t, rfl, hs⟩
    · exact lv_ifnonnull hx hb hd (hoff off rfl) (hP _ hs H locs ls hPw hS hl hlen)
    · exact lv_ifnonnullN hx hb hd (hP _ hs H locs ls hPw hS hl hlen)
  | tableswitch df lo hi offs =>
    unfold zde at hde
    simp only [Bool.and_eq_true, decide_eq_true_eq] at hde
    obtain ⟨hd, -⟩ := hde
    simp only [zsw, Bool.and_eq_true, decide_eq_true_eq] at hsw
    obtain ⟨x, t, rfl, hs⟩ := z1i_s hs
    by_cases hq : x.toInt < lo ∨ hi < x.toInt
    · exact lv_tableOut hx hb hd hq (by omega) (hP _ (hs.1 hq) H locs ls hPw hS hl hlen)
    · obtain ⟨off, ho, hs⟩ := hs.2 hq
      have hnn : 0 ≤ (pc : Int) + off := by
        have h1 : off ∈ offs.toList := by rw [← Array.getElem?_toList] at ho; exact List.mem_of_getElem? ho
        have h2 := List.all_eq_true.mp hsw.2 off h1
        simpa using h2
      exact lv_tableIn hx hb hd (fun z => hq (Or.inl z)) (fun z => hq (Or.inr z)) ho (by omega) (hP _ hs H locs ls hPw hS hl hlen)
  | lookupswitch df ps =>
    unfold zde at hde
    simp only [Bool.and_eq_true, decide_eq_true_eq] at hde
    obtain ⟨hd, -⟩ := hde
    simp only [zsw, Bool.and_eq_true, decide_eq_true_eq] at hsw
    obtain ⟨x, t, rfl, hs⟩ := z1i_s hs
    have hnn := zlook_nn (x := x.toInt) hsw.1.1 ps.toList hsw.1.2
    exact lv_lookup hx hb hd hsw.2 rfl (by omega) (hP _ hs H locs ls hPw hS hl hlen)
  | getfield ix =>
    obtain ⟨rfl, hd⟩ := zde_s hde (fun h => absurd h (Nat.succ_ne_zero _))
    obtain ⟨q, t, rfl, hs⟩ := z1r_s hs
    obtain ⟨fs, hq, hs⟩ := zob_s hs
    obtain ⟨v, hv, hs⟩ := zfld_s hs
    simp only [zlk, Bool.and_eq_true, Bool.or_eq_true, decide_eq_true_eq] at hlk
    have hbb : bb < zcN a := Nat.le_of_ble_eq_true hlk.1
    have ha11 := zcN_le (Nat.lt_of_le_of_lt (Nat.zero_le _) hbb)
    have hfv : (fs.map (zv b sc))[bb]? = some (zv b sc v) := by rw [List.getElem?_map, ← zix_eq, hv]; rfl
    by_cases ho : M.1.cls = (zcf a bb).1
    · exact va_get (ref := (zcf a bb).1) hx hb hts (fun w hw => zt_uw (zuw_at ha11 w hw)) hown hK hPw q (zco_at hq) (zcls_at (Or.inr ha11)) bb hbb (hwd _ (by simp only [zrq]; rw [if_pos ho]; exact List.mem_cons_self)) (fun _ h9 => h9) hfv hd (hP _ hs H locs ls hPw hS hl hlen)
    · have hn := hN.1 _ (hlk.2.resolve_left ho)
      exact va_getN (ref := (zcf a bb).1) hx hb hts (fun w hw => zt_uw (zuw_at ha11 w hw)) hown hK hPw q (zco_at hq) (zcls_at (Or.inr ha11)) bb hbb (hn.use rfl) (fun _ h9 => h9) hfv hd (hP _ hs H locs ls hPw hS hl hlen)
  | putfield ix =>
    obtain ⟨rfl, hd⟩ := zde_s hde (fun h => absurd h (Nat.succ_ne_zero _))
    obtain ⟨v, q, t, rfl, hs⟩ := zvr_s hs
    obtain ⟨fs, hq, hs⟩ := zob_s hs
    obtain ⟨hfit, hs⟩ := zif_s hs
    obtain ⟨hlt, hs⟩ := zif_s hs
    have hlt : bb < (fs.map (zv b sc)).length := by rw [List.length_map]; exact Nat.le_of_ble_eq_true hlt
    simp only [zlk, Bool.and_eq_true, Bool.or_eq_true, decide_eq_true_eq] at hlk
    have hbb : bb < zcN a := Nat.le_of_ble_eq_true hlk.1.1
    have ha11 := zcN_le (Nat.lt_of_le_of_lt (Nat.zero_le _) hbb)
    obtain ⟨hty, hnm⟩ := zcls_ty ha11
    obtain ⟨hnw, hft⟩ := zfit_s (b := b) (sc := sc) hfit
    have hkk : ∀ (H1 : Heap) (locs1 : List Loc), va_P D zcls ((zco b sc dA b w).set q (b + q, .inr (a, (fs.map (zv b sc)).set bb (zv b sc v)))) H1 → va_D (fun q => b ≤ q) ((zco b sc dA b w).set q (b + q, .inr (a, (fs.map (zv b sc)).set bb (zv b sc v)))) → va_S (fun q => b ≤ q) s.heap H1 locs1 → W p l e R s m args below meth c H1 locs1 k n QW (F0 m (pc + 3) ls (t.map (zv b sc))) := by
      intro H1 locs1 hP1 _ hS1
      refine hP _ hs H1 locs1 ls ?_ hS1 hl (by dsimp only; rw [zst_eq, List.length_set]; exact hlen)
      dsimp only
      rw [zst_eq, zco_set]
      have he : zcc b sc dA (.inr (a, zst fs bb v)) = .inr (a, (fs.map (zv b sc)).set bb (zv b sc v)) := by
        show (Sum.inr (a, (zst fs bb v).map (zv b sc)) : va_E) = _
        rw [zst_eq, List.map_set]
      rw [he]
      exact hP1
    by_cases ho : M.1.cls = (zcf a bb).1
    · by_cases hfn : (zcf a bb).2.2.2 = false
      · exact va_put (ref := (zcf a bb).1) hx hb hts (fun w hw => zt_uw (zuw_at ha11 w hw)) (ztyf a) hty hnm hown hK hPw hD hS q (zco_at hq) (zcls_at (Or.inr ha11)) bb hbb (hwd _ (by simp only [zrq]; rw [if_pos ho]; exact List.mem_cons_self)) (fun _ h9 => h9) hfn (hty bb hbb) hnw hft hlt hd hkk
      · exact va_putF (ref := (zcf a bb).1) hx hb hts (fun w hw => zt_uw (zuw_at ha11 w hw)) (ztyf a) hty hnm hown hK hPw hD hS q (zco_at hq) (zcls_at (Or.inr ha11)) bb hbb (hwd _ (by simp only [zrq]; rw [if_pos ho]; exact List.mem_cons_self)) (fun _ h9 => h9) (by simpa using hfn) (hin (hlk.2.resolve_left hfn).1) ho.symm (hty bb hbb) hnw hft hlt hd hkk
    · have hfn : (zcf a bb).2.2.2 = false := by
        rcases hlk.2 with z | z
        · exact z
        · exact absurd z.2 ho
      have hn := hN.1 _ (hlk.1.2.resolve_left ho)
      exact va_putN (ref := (zcf a bb).1) hx hb hts (fun w hw => zt_uw (zuw_at ha11 w hw)) (ztyf a) hty hnm hown hK hPw hD hS q (zco_at hq) (zcls_at (Or.inr ha11)) bb hbb (hn.use rfl) (fun _ h9 => h9) hfn (hty bb hbb) hnw hft hlt hd hkk
  | iaload =>
    simp only [zins] at hs
    obtain ⟨rfl, hd⟩ := zde_s hde (fun h => absurd h (Nat.succ_ne_zero _))
    rcases zia_s hs with ⟨i, q, t, hst, hs1⟩ | ⟨i, j, t, hst, hs1⟩
    · obtain ⟨ti, len, g, hq, hs2⟩ := zai_s hs1
      obtain ⟨hti, hi, hs3⟩ := zif_s hs2
      have hti := Nat.eq_of_beq_eq_true hti
      clear hs hs1 hs2
      subst hti hst
      exact va_iald hx hb hK hPw q 1 (zco_at hq) rfl hi hd (hP _ hs3 H locs ls hPw hS hl hlen)
    · obtain ⟨r, hr1, hi, hs3⟩ := zext_s hs1
      obtain ⟨e1, e2, e3⟩ := hE r hr1
      clear hs hs1
      subst hst
      exact va_sld hx hb e3 e2 (by show ¬ b ≤ sc; omega) hS hi hd (hP _ hs3 H locs ls hPw hS hl hlen)
  | baload =>
    simp only [zins] at hs
    obtain ⟨rfl, hd⟩ := zde_s hde (fun h => absurd h (Nat.succ_ne_zero _))
    rcases zia_s hs with ⟨i, q, t, hst, hs1⟩ | ⟨i, j, t, hst, hs1⟩
    · obtain ⟨ti, len, g, hq, hs2⟩ := zai_s hs1
      obtain ⟨hti, hi, hs3⟩ := zif_s hs2
      simp only [Bool.or_eq_true] at hti
      clear hs hs1 hs2
      subst hst
      rcases hti with z | z
      · have z := Nat.eq_of_beq_eq_true z
        subst z
        exact va_bald hx hb hK hPw q 0 (zco_at hq) rfl hi hd (hP _ hs3 H locs ls hPw hS hl hlen)
      · have z := Nat.eq_of_beq_eq_true z
        subst z
        exact va_zald hx hb hK hPw q 2 (zco_at hq) rfl hi hd (hP _ hs3 H locs ls hPw hS hl hlen)
    · exact hs1.elim
  | iastore =>
    obtain ⟨rfl, hd⟩ := zde_s hde (fun h => absurd h (Nat.succ_ne_zero _))
    obtain ⟨v, i, q, t, rfl, hs⟩ := zvia_s hs
    obtain ⟨x, t', he, hs⟩ := z1i_s hs
    cases he
    obtain ⟨ti, len, g, hq, hs⟩ := zai_s hs
    obtain ⟨hti, hi, hs⟩ := zif_s hs
    have := Nat.eq_of_beq_eq_true hti
    subst this
    exact va_iast hx hb hK hPw hD hS q 1 (zco_at hq) rfl hi hd (fun H1 locs1 hP1 _ hS1 => hP _ hs H1 locs1 ls (by dsimp only; rw [zst_eq, zco_set]; exact hP1) hS1 hl (by dsimp only; rw [zst_eq, List.length_set]; exact hlen))
  | bastore =>
    simp only [zins] at hs
    obtain ⟨rfl, hd⟩ := zde_s hde (fun h => absurd h (Nat.succ_ne_zero _))
    obtain ⟨v, i, q, t, rfl, hs⟩ := zvia_s hs
    obtain ⟨x, t', he, hs⟩ := z1i_s hs
    cases he
    obtain ⟨ti, len, g, hq, hs⟩ := zai_s hs
    rcases zor_s hs with ⟨hti, hi, hs⟩ | ⟨-, hs⟩
    · have := Nat.eq_of_beq_eq_true hti
      subst this
      exact va_bast hx hb hK hPw hD hS q 0 (zco_at hq) rfl hi hd (fun H1 locs1 hP1 _ hS1 => hP _ hs H1 locs1 ls (by dsimp only; rw [zst_eq, zco_set]; exact hP1) hS1 hl (by dsimp only; rw [zst_eq, List.length_set]; exact hlen))
    · obtain ⟨hti, hi, hs⟩ := zif_s hs
      have := Nat.eq_of_beq_eq_true hti
      subst this
      exact va_zast hx hb hK hPw hD hS q 2 (zco_at hq) rfl hi hd (fun H1 locs1 hP1 _ hS1 => hP _ hs H1 locs1 ls (by dsimp only; rw [zst_eq, zco_set]; exact hP1) hS1 hl (by dsimp only; rw [zst_eq, List.length_set]; exact hlen))
  | arraylength =>
    simp only [zins] at hs
    obtain ⟨rfl, hd⟩ := zde_s hde (fun h => absurd h (Nat.succ_ne_zero _))
    obtain ⟨j, t, hst, hs1⟩ := zlen1_s hs
    obtain ⟨r, hr1, hs3⟩ := zext_s hs1
    obtain ⟨e1, e2, e3⟩ := hE r hr1
    clear hs hs1
    subst hst
    exact va_slen hx hb e3 e2 (by show ¬ b ≤ sc; omega) hS hd (hP _ hs3 H locs ls hPw hS hl hlen)
  | ireturn =>
    obtain ⟨rfl, hd⟩ := zde_s hde (fun h => absurd h (Nat.succ_ne_zero _))
    obtain ⟨v, rfl, hs⟩ := zin1_s hs
    obtain ⟨x, t, he, hn, hr2, hq⟩ := z1i_s hs
    cases he
    exact hret .ireturn pc _ w H locs ls k n hd ⟨x, rfl, hr2⟩ hq hn hPw hS hlen
  | lreturn =>
    obtain ⟨rfl, hd⟩ := zde_s hde (fun h => absurd h (Nat.succ_ne_zero _))
    obtain ⟨v, rfl, hs⟩ := zin1_s hs
    obtain ⟨x, t, he, hn, hr2, hq⟩ := z1l_s hs
    cases he
    exact hret .lreturn pc _ w H locs ls k n hd ⟨x, rfl, hr2⟩ hq hn hPw hS hlen
  | areturn =>
    simp only [zins] at hs
    obtain ⟨rfl, hd⟩ := zde_s hde (fun h => absurd h (Nat.succ_ne_zero _))
    obtain ⟨v, rfl, hs⟩ := zin1_s hs
    rcases zrn2_s hs with ⟨q, rfl, hn, hr2, hq⟩ | ⟨rfl, hn, hr2, hq⟩
    · exact hret .areturn pc _ w H locs ls k n hd (Or.inr ⟨q, rfl, hr2⟩) hq hn hPw hS hlen
    · exact hret .areturn pc _ w H locs ls k n hd (Or.inl ⟨rfl, hr2⟩) hq hn hPw hS hlen
  | return_ =>
    simp only [zins] at hs
    obtain ⟨rfl, hd⟩ := zde_s hde (fun h => absurd h (Nat.succ_ne_zero _))
    obtain ⟨rfl, hn, hr2, hq⟩ := znil_s hs
    exact hret .return_ pc none w H locs ls k n hd ⟨rfl, hr2⟩ hq hn hPw hS hlen
  | new ix =>
    simp only [zins] at hs
    obtain ⟨rfl, hd⟩ := zde_s hde (fun h => absurd h (Nat.succ_ne_zero _))
    obtain ⟨h1, hs1⟩ := zif_s hs
    obtain ⟨h2, hs2⟩ := zif_s hs1
    have h1 := Nat.le_of_ble_eq_true h1
    have h2 := Nat.le_of_ble_eq_true h2
    have ha11 : a ≤ 11 := Nat.le_of_ble_eq_true hlk
    obtain ⟨hty, hnm⟩ := zcls_ty ha11
    refine va_new (fs := (zdf a).map (zv b sc)) hx hb hts (fun w hw => zt_uw (zuw_at ha11 w hw)) (ztyf a) hty hown (hwd _ List.mem_cons_self) (hwd _ (List.mem_cons_of_mem _ List.mem_cons_self)) (hwd _ (List.mem_cons_of_mem _ (List.mem_cons_of_mem _ List.mem_cons_self))) hK hPw hD hS hA (zcls_at (Or.inr ha11)) (fun j hj => ?_) (Nat.le_trans h1 hR.2.2.1) (Nat.le_trans h2 hR.2.2.2) hd (fun q H1 hP1 hD1 hS1 => ?_)
    · unfold vp_V zdf
      rw [List.getD_eq_getElem?_getD, List.getElem?_map, zdl_get _ _ _ _ hj]
      simp [zv_dv]
    · refine zsz fun hle => ?_
      have hq := z_fresh hsz hlen hP1 hD1 hle
      subst hq
      exact hP _ hs2 H1 locs ls (by dsimp only; rw [zco_app]; exact hP1) hS1 hl (by dsimp only; rw [List.length_append, List.length_singleton]; omega)
  | newarray t =>
    simp only [zins] at hs
    obtain ⟨rfl, hd⟩ := zde_s hde (fun h => absurd h (Nat.succ_ne_zero _))
    obtain ⟨x, t', hst, hs0⟩ := z1i_s hs
    obtain ⟨h0, hs1⟩ := zif_s hs0
    obtain ⟨h1, hs2⟩ := zif_s hs1
    obtain ⟨h2, hs3⟩ := zif_s hs2
    have h0 := of_decide_eq_true h0
    have h1 := Nat.le_of_ble_eq_true h1
    have h2 := Nat.le_of_ble_eq_true h2
    clear hs hs0 hs1 hs2
    subst hst
    simp only [zlk, Bool.and_eq_true, decide_eq_true_eq] at hlk
    obtain ⟨⟨ha2, hat⟩, hbig⟩ := hlk
    have hbig := Nat.le_of_ble_eq_true hbig
    have hxn : x.toNatClampNeg = bb := by
      rw [h0]
      show (Int32.ofNat bb).toInt.toNat = bb
      rw [Int32.toInt_ofNat_of_lt (by omega)]
      omega
    have hx0 : ¬ x < 0 := by
      rw [h0, Int32.not_lt, Int32.le_iff_toInt_le, Int32.toInt_ofNat_of_lt (by omega)]
      show (0 : Int) ≤ _
      omega
    have hzd : zda a bb = (bb, .inl (fun _ => 0)) := by unfold zda; rw [ha2]
    have hdv : ∀ cA : ClassId, vp_cell cA (bb, .inl (fun _ => 0)) = arrV cA bb (fun _ => defaultValue (newarray.typeOf t)) := by
      intro cA
      have ha2 := Nat.le_of_ble_eq_true ha2
      match a, hat, ha2 with
      | 0, hat, _ => rw [← Option.some.inj hat]; rfl
      | 1, hat, _ => rw [← Option.some.inj hat]; rfl
      | 2, hat, _ => rw [← Option.some.inj hat]; rfl
      | a + 3, _, h => omega
    refine va_newa (atype := t) hx hb (hwd _ List.mem_cons_self) rfl hK hPw hD hS hA hdv hx0 hxn ?_ (Nat.le_trans h1 hR.2.2.1) (Nat.le_trans h2 hR.2.2.2) hd (fun q cA H1 hK1 hP1 hD1 hS1 => ?_)
    · cases t <;> simp only [newarray.typeOf, componentBytes] <;> omega
    · refine zsz fun hle => ?_
      have hq := z_fresh hsz hlen hP1 hD1 hle
      subst hq
      have hcA : cA = dA a := by
        have r1 := (hK1.2 9 (cA, newarray.typeOf t) rfl).2
        have r2 := (hK.2 a _ (ztys_at hat)).2
        have ha2 := Nat.le_of_ble_eq_true ha2
        match a, hat, ha2 with
        | 0, hat, _ => dsimp only at r1 r2; rw [← Option.some.inj hat] at r1 r2; exact Option.some.inj (r1.symm.trans r2)
        | 1, hat, _ => dsimp only at r1 r2; rw [← Option.some.inj hat] at r1 r2; exact Option.some.inj (r1.symm.trans r2)
        | 2, hat, _ => dsimp only at r1 r2; rw [← Option.some.inj hat] at r1 r2; exact Option.some.inj (r1.symm.trans r2)
        | a + 3, _, h => omega
      subst hcA
      exact hP _ hs3 H1 locs ls (by dsimp only; rw [zco_app, hzd]; exact hP1) hS1 hl (by dsimp only; rw [List.length_append, List.length_singleton]; omega)
  | anewarray ix =>
    simp only [zins] at hs
    obtain ⟨rfl, hd⟩ := zde_s hde (fun h => absurd h (Nat.succ_ne_zero _))
    obtain ⟨x, t', hst, hs0⟩ := z1i_s hs
    obtain ⟨h0, hs1⟩ := zif_s hs0
    obtain ⟨h1, hs2⟩ := zif_s hs1
    obtain ⟨h2, hs3⟩ := zif_s hs2
    have h0 := of_decide_eq_true h0
    have h1 := Nat.le_of_ble_eq_true h1
    have h2 := Nat.le_of_ble_eq_true h2
    clear hs hs0 hs1 hs2
    subst hst
    simp only [zlk, Bool.and_eq_true, decide_eq_true_eq] at hlk
    obtain ⟨⟨⟨ha3, hat⟩, hao⟩, hbig⟩ := hlk
    have hbig := Nat.le_of_ble_eq_true hbig
    have ha3 := Nat.le_of_ble_eq_true ha3
    have hxn : x.toNatClampNeg = bb := by
      rw [h0]
      show (Int32.ofNat bb).toInt.toNat = bb
      rw [Int32.toInt_ofNat_of_lt (by omega)]
      omega
    have hx0 : ¬ x < 0 := by
      rw [h0, Int32.not_lt, Int32.le_iff_toInt_le, Int32.toInt_ofNat_of_lt (by omega)]
      show (0 : Int) ≤ _
      omega
    have hzd : zda a bb = (bb, .inr (.inr (.inr (.inr (fun _ => none))))) := by
      unfold zda
      rw [show Nat.ble a 2 = false from Bool.eq_false_iff.mpr (fun h => by have := Nat.le_of_ble_eq_true h; omega)]
    refine va_newq hx hb hown (hwd _ List.mem_cons_self) (hN.2.2 _ hao) hK hPw hD hS hA hx0 hxn (by omega) (Nat.le_trans h1 hR.2.2.1) (Nat.le_trans h2 hR.2.2.2) hd (fun q cA H1 hK1 hP1 hD1 hS1 => ?_)
    refine zsz fun hle => ?_
    have hq := z_fresh hsz hlen hP1 hD1 hle
    subst hq
    have hcA : cA = dA a := by
      obtain ⟨_, _, _, _, _, r1⟩ := (hK1.2 9 (cA, .object (zcn (zec a))) rfl).2
      obtain ⟨_, _, _, _, _, r2⟩ := (hK.2 a _ (ztys_at hat)).2
      exact Option.some.inj (r1.symm.trans r2)
    subst hcA
    exact hP _ hs3 H1 locs ls (by dsimp only; rw [zco_app, hzd]; exact hP1) hS1 hl (by dsimp only; rw [List.length_append, List.length_singleton]; omega)
  | aaload =>
    simp only [zins] at hs
    obtain ⟨rfl, hd⟩ := zde_s hde (fun h => absurd h (Nat.succ_ne_zero _))
    rcases zia_s hs with ⟨i, q, t, hst, hs1⟩ | ⟨i, j, t, hst, hs1⟩
    · obtain ⟨ti, len, g, hq, hs2⟩ := zaq_s hs1
      obtain ⟨hti, hi, hs3⟩ := zif_s hs2
      clear hs hs1 hs2
      subst hst
      simp only [Bool.and_eq_true] at hti
      obtain ⟨ht1, ht2⟩ := hti
      have ht1 := Nat.le_of_ble_eq_true ht1
      have ht2 := Nat.le_of_ble_eq_true ht2
      obtain ⟨C, hC⟩ : ∃ C, (ztys dA)[ti]? = some (dA ti, .object C) := by
        match ti, ht1, ht2 with
        | 3, _, _ => exact ⟨_, rfl⟩
        | 4, _, _ => exact ⟨_, rfl⟩
        | 5, _, _ => exact ⟨_, rfl⟩
        | 6, _, _ => exact ⟨_, rfl⟩
        | 7, _, _ => exact ⟨_, rfl⟩
        | 8, _, _ => exact ⟨_, rfl⟩
        | n + 9, _, h => omega
      refine va_aldq hx hb hK hPw q ti (zco_at hq) hC hi hd ?_
      rw [zv_rf b sc]
      exact hP _ hs3 H locs ls hPw hS hl hlen
    · exact hs1.elim
  | aastore =>
    simp only [zins] at hs
    obtain ⟨rfl, hd⟩ := zde_s hde (fun h => absurd h (Nat.succ_ne_zero _))
    obtain ⟨v, i, q, t, hst, hs1⟩ := zvia_s hs
    obtain ⟨ti, len, g, hq, hs2⟩ := zaq_s hs1
    obtain ⟨hti, hs3⟩ := zif_s hs2
    clear hs hs1 hs2
    subst hst
    simp only [Bool.and_eq_true] at hti
    obtain ⟨ht1, ht2⟩ := hti
    have ht1 := Nat.le_of_ble_eq_true ht1
    have ht2 := Nat.le_of_ble_eq_true ht2
    have hup : ∀ o : Option Nat, (fun j => (va_up g i.toNatClampNeg o j).map (b + ·)) = va_up (fun j => (g j).map (b + ·)) i.toNatClampNeg (o.map (b + ·)) := by
      intro o
      funext j
      unfold va_up
      split <;> rfl
    rcases zrn2_s hs3 with ⟨q2, hv, hs4⟩ | ⟨hv, hi, hs4⟩
    · obtain ⟨fs, hq2, hi, hs5⟩ := zob_s hs4
      clear hs3 hs4
      subst hv
      obtain ⟨r, hr1, hr2⟩ : ∃ r : vw_C, zcls[zec ti]? = some r ∧ (ztys dA)[ti]? = some (dA ti, .object r.1) := by
        match ti, ht1, ht2 with
        | 3, _, _ => exact ⟨_, rfl, rfl⟩
        | 4, _, _ => exact ⟨_, rfl, rfl⟩
        | 5, _, _ => exact ⟨_, rfl, rfl⟩
        | 6, _, _ => exact ⟨_, rfl, rfl⟩
        | 7, _, _ => exact ⟨_, rfl, rfl⟩
        | 8, _, _ => exact ⟨_, rfl, rfl⟩
        | n + 9, _, h => omega
      refine va_astq hx hb hK hPw hD hS q ti q2 (zec ti) (zco_at hq) hr2 (zco_at hq2) hr1 hi hd (fun H1 locs1 hP1 _ hS1 => hP _ hs5 H1 locs1 ls ?_ hS1 hl (by dsimp only; rw [zst_eq, List.length_set]; exact hlen))
      dsimp only
      rw [zst_eq, zco_set]
      have he : zcc b sc dA (.inl (ti, len, .inr (.inr (.inr (.inr (va_up g i.toNatClampNeg (some q2))))))) = .inl (dA ti, len, .inr (.inr (.inr (.inr (va_up (fun j => (g j).map (b + ·)) i.toNatClampNeg (some (b + q2))))))) := by
        have := hup (some q2)
        show (Sum.inl (dA ti, len, Sum.inr (Sum.inr (Sum.inr (Sum.inr (fun j => (va_up g i.toNatClampNeg (some q2) j).map (b + ·)))))) : va_E) = _
        rw [this]
        rfl
      rw [he]
      exact hP1
    · clear hs3
      subst hv
      obtain ⟨C, hC⟩ : ∃ C, (ztys dA)[ti]? = some (dA ti, .object C) := by
        match ti, ht1, ht2 with
        | 3, _, _ => exact ⟨_, rfl⟩
        | 4, _, _ => exact ⟨_, rfl⟩
        | 5, _, _ => exact ⟨_, rfl⟩
        | 6, _, _ => exact ⟨_, rfl⟩
        | 7, _, _ => exact ⟨_, rfl⟩
        | 8, _, _ => exact ⟨_, rfl⟩
        | n + 9, _, h => omega
      refine va_astqN hx hb hK hPw hD hS q ti (zco_at hq) hC hi hd (fun H1 locs1 hP1 _ hS1 => hP _ hs4 H1 locs1 ls ?_ hS1 hl (by dsimp only; rw [zst_eq, List.length_set]; exact hlen))
      dsimp only
      rw [zst_eq, zco_set]
      have he : zcc b sc dA (.inl (ti, len, .inr (.inr (.inr (.inr (va_up g i.toNatClampNeg none)))))) = .inl (dA ti, len, .inr (.inr (.inr (.inr (va_up (fun j => (g j).map (b + ·)) i.toNatClampNeg none))))) := by
        have := hup none
        show (Sum.inl (dA ti, len, Sum.inr (Sum.inr (Sum.inr (Sum.inr (fun j => (va_up g i.toNatClampNeg none j).map (b + ·)))))) : va_E) = _
        rw [this]
        rfl
      rw [he]
      exact hP1
  | invokestatic ix =>
    simp only [zins] at hs
    obtain ⟨rfl, hd⟩ := zde_s hde (fun h => absurd h (Nat.succ_ne_zero _))
    rcases zor_s hs with ⟨h100, hs1⟩ | ⟨h100, hs1⟩
    · obtain ⟨x, y, t, hst, hs2⟩ := z2i_s hs1
      obtain ⟨hc, hs3⟩ := zif_s hs2
      simp only [Bool.and_eq_true] at hc
      obtain ⟨⟨h1, h2⟩, h3, h4⟩ := hc
      have h1 := Nat.le_of_ble_eq_true h1
      have h2 := zrm_s (b := b) (sc := sc) h2
      have h3 := Nat.le_of_ble_eq_true h3
      have h4 := Nat.le_of_ble_eq_true h4
      have hwd : ∀ w ∈ [Cond.methodLink M.1.cls ix Lib.Math.max.name, .static Lib.Math.max.name, .initialized "java/lang/Math", .code Lib.Math.max.name Lib.Math.max.code 2 (some .int)], w.before args s = true := by
        simp only [zrq, h100] at hwd
        exact hwd
      clear hs hs1 hs2
      subst hst
      exact va_mmax hx hb (hml.trans hl.1.symm) hown (hwd _ List.mem_cons_self) (hwd _ (List.mem_cons_of_mem _ List.mem_cons_self)) (hwd _ (List.mem_cons_of_mem _ (List.mem_cons_of_mem _ List.mem_cons_self))) (hwd _ (List.mem_cons_of_mem _ (List.mem_cons_of_mem _ (List.mem_cons_of_mem _ List.mem_cons_self)))) (by omega) (by omega) (Nat.le_trans h3 hR.2.2.1) (Nat.le_trans h4 hR.2.2.2) hd (hP _ hs3 H locs ls hPw hS hl hlen)
    rcases zor_s hs1 with ⟨h101, hs1⟩ | ⟨h101, hs1⟩
    · obtain ⟨x, y, t, hst, hs2⟩ := z2i_s hs1
      obtain ⟨hc, hs3⟩ := zif_s hs2
      simp only [Bool.and_eq_true] at hc
      obtain ⟨⟨h1, h2⟩, h3, h4⟩ := hc
      have h1 := Nat.le_of_ble_eq_true h1
      have h2 := zrm_s (b := b) (sc := sc) h2
      have h3 := Nat.le_of_ble_eq_true h3
      have h4 := Nat.le_of_ble_eq_true h4
      have hwd : ∀ w ∈ [Cond.methodLink M.1.cls ix Lib.Math.min.name, .static Lib.Math.min.name, .initialized "java/lang/Math", .code Lib.Math.min.name Lib.Math.min.code 2 (some .int)], w.before args s = true := by
        simp only [zrq, h100, h101] at hwd
        exact hwd
      clear hs hs1 hs2
      subst hst
      exact va_mmin hx hb (hml.trans hl.1.symm) hown (hwd _ List.mem_cons_self) (hwd _ (List.mem_cons_of_mem _ List.mem_cons_self)) (hwd _ (List.mem_cons_of_mem _ (List.mem_cons_of_mem _ List.mem_cons_self))) (hwd _ (List.mem_cons_of_mem _ (List.mem_cons_of_mem _ (List.mem_cons_of_mem _ List.mem_cons_self)))) (by omega) (by omega) (Nat.le_trans h3 hR.2.2.1) (Nat.le_trans h4 hR.2.2.2) hd (hP _ hs3 H locs ls hPw hS hl hlen)
    rcases zor_s hs1 with ⟨h102, hs1⟩ | ⟨h102, hs1⟩
    · obtain ⟨q0, sp, q1, dp, mm, t, hst, hs2⟩ := zcpy_s hs1
      obtain ⟨hc, hs3⟩ := zif_s hs2
      obtain ⟨t0, n0, f, hq0, hs4⟩ := zai_s hs3
      obtain ⟨t1, n1, g, hq1, hs5⟩ := zai_s hs4
      obtain ⟨ht, ⟨⟨c1, c2, c3⟩, ⟨c4, c5⟩, c6⟩, hs6⟩ := zif_s hs5
      simp only [Bool.and_eq_true] at hc ht
      obtain ⟨h1, h2⟩ := hc
      have h1 := Nat.le_of_ble_eq_true h1
      have h2 := zrm_s (b := b) (sc := sc) h2
      obtain ⟨ht, ht0⟩ := ht
      have ht := Nat.eq_of_beq_eq_true ht
      have ht0 := Nat.le_of_ble_eq_true ht0
      have hwd : ∀ w ∈ [Cond.methodLink M.1.cls ix arraycopyName, .native arraycopyName, .static arraycopyName, .initialized "java/lang/System"], w.before args s = true := by
        simp only [zrq, h100, h101, h102] at hwd
        exact hwd
      clear hs hs1 hs2 hs3 hs4 hs5
      subst hst ht
      have hnw : nativeFrameWords "java/lang/System" "arraycopy" 5 = 7 := by decide +kernel
      have hty : (ztys dA)[t0]? = some (dA t0, zaty t0) ∧ refKind (zaty t0) = false := by
        match t0, ht0 with
        | 0, _ => exact ⟨rfl, rfl⟩
        | 1, _ => exact ⟨rfl, rfl⟩
        | n + 2, h => omega
      refine va_copyi hx hb (hml.trans hl.1.symm) hown (hwd _ List.mem_cons_self) (hwd _ (List.mem_cons_of_mem _ List.mem_cons_self)) (hwd _ (List.mem_cons_of_mem _ (List.mem_cons_of_mem _ List.mem_cons_self))) (hwd _ (List.mem_cons_of_mem _ (List.mem_cons_of_mem _ (List.mem_cons_of_mem _ List.mem_cons_self)))) hK hPw hD hS q0 q1 t0 t0 (zco_at hq0) (zco_at hq1) hty.1 hty.1 hty.2 c1 c2 c3 c4 c5 c6 (by omega) (by rw [hnw]; omega) hd (fun H1 locs1 hP1 _ hS1 => hP _ hs6 H1 locs1 ls ?_ hS1 hl (by dsimp only; rw [zst_eq, List.length_set]; exact hlen))
      dsimp only
      rw [zst_eq, zco_set]
      exact hP1
    obtain ⟨hc, hs2⟩ := zif_s hs1
    simp only [Bool.and_eq_true] at hc
    have hle := Nat.le_of_ble_eq_true hc.1
    have hrm := zrm_s (b := b) (sc := sc) hc.2
    simp only [zrq, h100, h101, h102] at hwd hwz
    simp only [zlk, h100, h101, h102, Bool.false_or] at hlk
    simp only [zcallok, Bool.and_eq_true, decide_eq_true_eq] at hlk
    obtain ⟨⟨⟨⟨hhas, hy1⟩, hy2⟩, hpd⟩, hnest⟩ := hlk
    have hcode : zcode (zmat tab a) ∈ zt tab := hwz _ (List.mem_append_left _ List.mem_cons_self)
    refine z_inv hb hx hml hown hts hgood htab hK hN hsz hR hsnd hP rfl hcode hPw hS hl hlen hhas hs2 ?_
    intro mc' ms' Pc Qc h16 hd1 hMet hbl hpre hf
    have hn : (((S.take bb).reverse).map (zv b sc)).length = bb := by simp [Nat.min_eq_left hle]
    have hstk : S.map (zv b sc) = (((S.take bb).reverse).map (zv b sc)).reverse ++ (S.drop bb).map (zv b sc) := by
      rw [List.map_reverse, List.reverse_reverse, ← List.map_append, List.take_append_drop]
    have hroom : (zroom (d - 1) mc' ms').frames + 1 ≤ R.frames ∧ 8 + ((zmat tab a).2.2.1 + 11) + (zroom (d - 1) mc' ms').locals ≤ R.locals := by
      simp only [zroom]
      constructor <;> omega
    cases hpb : zpub M.1.cls (zmat tab a).1 with
    | true =>
      simp only [zlw, hpb] at hwd
      exact va_runS ⟨hx, hb, hml, hown, hts⟩ hMet ⟨callB_of bb hts (zgood_in hgood hcode) rfl rfl rfl (hwd _ (List.mem_append_left _ (List.mem_cons_of_mem _ (List.mem_cons_of_mem _ List.mem_cons_self)))) (hwd _ (List.mem_append_right _ List.mem_cons_self)) ⟨hy1, hy2, hpd⟩ hroom, hwd _ (List.mem_append_left _ (List.mem_cons_of_mem _ List.mem_cons_self))⟩ ⟨hbl, hpre⟩ rfl hn hl.1 hstk (lv_room hrm) hd hf
    | false =>
      rw [hpb, Bool.false_or] at hnest
      have hnest := of_decide_eq_true hnest
      exact va_runSN ⟨hx, hb, hml, hown, hts⟩ hMet ⟨va_cnB bb hts (zgood_in hgood hcode) rfl rfl rfl (hN.2.1 _ hnest) (hwd _ (List.mem_append_left _ (List.mem_cons_of_mem _ (List.mem_cons_of_mem _ List.mem_cons_self)))) ⟨hy1, hy2, hpd⟩ hroom, hwd _ (List.mem_append_left _ (List.mem_cons_of_mem _ List.mem_cons_self)), trivial⟩ ⟨hbl, hpre⟩ rfl hn hl.1 hstk (lv_room hrm) hd hf
  | invokevirtual ix =>
    simp only [zins] at hs
    obtain ⟨rfl, hd⟩ := zde_s hde (fun h => absurd h (Nat.succ_ne_zero _))
    obtain ⟨hc, hs1⟩ := zif_s hs
    have hle := Nat.le_of_ble_eq_true hc
    obtain ⟨q, t, hst, hs2⟩ := z1r_s hs1
    obtain ⟨fs, hq, hs3⟩ := zob_s hs2
    obtain ⟨hrm, hs4⟩ := zif_s hs3
    have hrm := zrm_s (b := b) (sc := sc) hrm
    simp only [zrq] at hwd hwz
    simp only [zlk, zcallok, Bool.and_eq_true, decide_eq_true_eq] at hlk
    obtain ⟨⟨⟨⟨⟨⟨hhas, hy1⟩, hy2⟩, hpd⟩, hnest⟩, hcls⟩, h11⟩ := hlk
    have h11 := Nat.le_of_ble_eq_true h11
    have hcode : zcode (zmat tab a) ∈ zt tab := hwz _ (List.mem_append_left _ List.mem_cons_self)
    have hmc : zmc tab a = (zmat tab a).2.2.2.2.1 := by unfold zmc; rw [zmat_s hhas]
    rw [hmc] at hq
    refine z_inv hb hx hml hown hts hgood htab hK hN hsz hR hsnd hP rfl hcode hPw hS hl hlen hhas hs4 ?_
    intro mc' ms' Pc Qc h16 hd1 hMet hbl hpre hf
    have hn : (((S.take bb).reverse).map (zv b sc)).length = bb := by simp [Nat.min_eq_left hle]
    have hstk : S.map (zv b sc) = (((S.take bb).reverse).map (zv b sc)).reverse ++ .ref (b + q) :: t.map (zv b sc) := by
      have h0 : S.map (zv b sc) = (S.take bb).map (zv b sc) ++ (S.drop bb).map (zv b sc) := by rw [← List.map_append, List.take_append_drop]
      rw [List.map_reverse, List.reverse_reverse, h0, hst]
      rfl
    have hroom : (zroom (d - 1) mc' ms').frames + 1 ≤ R.frames ∧ 8 + ((zmat tab a).2.2.1 + 11) + (zroom (d - 1) mc' ms').locals ≤ R.locals := by
      simp only [zroom]
      constructor <;> omega
    have hrec : ∃ cell : Cell, H[b + q]? = some cell ∧ cell.vm.isStatics = false ∧ s.vm.findClass (zmat tab a).1.cls = some cell.cls := by
      have h := va_recv hK hPw (zcls_at (Or.inr h11)) (zco_at hq)
      rw [← hcls]
      exact h
    cases hpb : zpub M.1.cls (zmat tab a).1 with
    | true =>
      simp only [zlw, hpb] at hwd
      exact va_runV (C := (zmat tab a).1.cls) ⟨hx, hb, hml, hown, hts⟩ hMet ⟨callB_of bb hts (zgood_in hgood hcode) rfl rfl rfl (hwd _ (List.mem_append_left _ (List.mem_cons_of_mem _ (List.mem_cons_of_mem _ (List.mem_cons_of_mem _ List.mem_cons_self))))) (hwd _ (List.mem_append_right _ List.mem_cons_self)) ⟨hy1, hy2, hpd⟩ hroom, hwd _ (List.mem_append_left _ (List.mem_cons_of_mem _ List.mem_cons_self)), hwd _ (List.mem_append_left _ (List.mem_cons_of_mem _ (List.mem_cons_of_mem _ List.mem_cons_self)))⟩ ⟨hbl, hrec, hpre⟩ rfl hn hl.1 hstk (lv_room hrm) hd hf
    | false =>
      rw [hpb, Bool.false_or] at hnest
      have hnest := of_decide_eq_true hnest
      exact va_runVN (C := (zmat tab a).1.cls) ⟨hx, hb, hml, hown, hts⟩ hMet ⟨va_cnB bb hts (zgood_in hgood hcode) rfl rfl rfl (hN.2.1 _ hnest) (hwd _ (List.mem_append_left _ (List.mem_cons_of_mem _ (List.mem_cons_of_mem _ (List.mem_cons_of_mem _ List.mem_cons_self))))) ⟨hy1, hy2, hpd⟩ hroom, hwd _ (List.mem_append_left _ (List.mem_cons_of_mem _ List.mem_cons_self)), hwd _ (List.mem_append_left _ (List.mem_cons_of_mem _ (List.mem_cons_of_mem _ List.mem_cons_self)))⟩ ⟨hbl, hrec, hpre⟩ rfl hn hl.1 hstk (lv_room hrm) hd hf
  | invokespecial ix =>
    simp only [zins] at hs
    obtain ⟨rfl, hd⟩ := zde_s hde (fun h => absurd h (Nat.succ_ne_zero _))
    rcases zor_s hs with ⟨h99, hs1⟩ | ⟨h99, hs1⟩
    · obtain ⟨q, t, hst, hs2⟩ := z1r_s hs1
      obtain ⟨hc, hs3⟩ := zif_s hs2
      simp only [Bool.and_eq_true] at hc
      have h1 := Nat.le_of_ble_eq_true hc.1
      have h2 := zrm_s (b := b) (sc := sc) hc.2
      simp only [zrq, h99] at hwd
      clear hs hs1 hs2
      subst hst
      exact W.objInit (g := F0 m pc ls ((Value.ref q :: t).map (zv b sc))) (rest := t.map (zv b sc)) hx hb hown (hwd _ List.mem_cons_self) (hwd _ (List.mem_cons_of_mem _ List.mem_cons_self)) (hwd _ (List.mem_cons_of_mem _ (List.mem_cons_of_mem _ List.mem_cons_self))) rfl (hl.1.trans hml.symm) rfl hd (by omega) (by show 2 * 0 + _ + 12 ≤ _; omega) (hP _ hs3 H locs ls hPw hS hl hlen)
    obtain ⟨hc, hs1⟩ := zif_s hs1
    have hle := Nat.le_of_ble_eq_true hc
    obtain ⟨q, t, hst, hs2⟩ := z1r_s hs1
    obtain ⟨hrm, hs4⟩ := zif_s hs2
    have hrm := zrm_s (b := b) (sc := sc) hrm
    simp only [zrq, h99] at hwd hwz
    simp only [zlk, h99, Bool.false_or, zcallok, Bool.and_eq_true, decide_eq_true_eq] at hlk
    obtain ⟨⟨⟨⟨⟨⟨hhas, hy1⟩, hy2⟩, hpd⟩, hnest⟩, hini⟩, hrn⟩ := hlk
    have hcode : zcode (zmat tab a) ∈ zt tab := hwz _ (List.mem_append_left _ List.mem_cons_self)
    refine z_inv hb hx hml hown hts hgood htab hK hN hsz hR hsnd hP rfl hcode hPw hS hl hlen hhas hs4 ?_
    intro mc' ms' Pc Qc h16 hd1 hMet hbl hpre hf
    have hn : (((S.take bb).reverse).map (zv b sc)).length = bb := by simp [Nat.min_eq_left hle]
    have hstk : S.map (zv b sc) = (((S.take bb).reverse).map (zv b sc)).reverse ++ .ref (b + q) :: t.map (zv b sc) := by
      have h0 : S.map (zv b sc) = (S.take bb).map (zv b sc) ++ (S.drop bb).map (zv b sc) := by rw [← List.map_append, List.take_append_drop]
      rw [List.map_reverse, List.reverse_reverse, h0, hst]
      rfl
    have hroom : (zroom (d - 1) mc' ms').frames + 1 ≤ R.frames ∧ 8 + ((zmat tab a).2.2.1 + 11) + (zroom (d - 1) mc' ms').locals ≤ R.locals := by
      simp only [zroom]
      constructor <;> omega
    have hwr : zws tab (zmat tab a) = Cond.code (zmat tab a).1 (zmat tab a).2.1 (zmat tab a).2.2.1 none :: zt tab := by
      show zcode (zmat tab a) :: zt tab = _
      unfold zcode
      rw [hrn]
    cases hpb : zpub M.1.cls (zmat tab a).1 with
    | true =>
      simp only [zlw, hpb] at hwd
      exact va_runI ⟨hx, hb, hml, hown, hts⟩ hMet ⟨callB_of bb hts (zgood_in hgood hcode) hwr rfl rfl (hwd _ (List.mem_append_left _ (List.mem_cons_of_mem _ (List.mem_cons_of_mem _ List.mem_cons_self)))) (hwd _ (List.mem_append_right _ List.mem_cons_self)) ⟨hy1, hy2, hpd⟩ hroom, hini, hwd _ (List.mem_append_left _ (List.mem_cons_of_mem _ List.mem_cons_self))⟩ ⟨hbl, hpre⟩ rfl hn hl.1 hstk (lv_room hrm) hd hf
    | false =>
      rw [hpb, Bool.false_or] at hnest
      have hnest := of_decide_eq_true hnest
      exact va_runIN ⟨hx, hb, hml, hown, hts⟩ hMet ⟨va_cnB bb hts (zgood_in hgood hcode) hwr rfl rfl (hN.2.1 _ hnest) (hwd _ (List.mem_append_left _ (List.mem_cons_of_mem _ (List.mem_cons_of_mem _ List.mem_cons_self)))) ⟨hy1, hy2, hpd⟩ hroom, hini, hwd _ (List.mem_append_left _ (List.mem_cons_of_mem _ List.mem_cons_self))⟩ ⟨hbl, hpre⟩ rfl hn hl.1 hstk (lv_room hrm) hd hf
  | _ => exact hs.elim
end ZU
end
section
/-! THE PURE MACHINE'S CALLS ARE CONTRACTS OF THE MACHINE. -/
theorem zsl_len (b sc : Nat) : ∀ As : List Value, (lg_sl (As.map (zv b sc))).length = (lg_sl As).length
  | [] => rfl
  | v :: t => by
    have h1 := zsl_len b sc t
    unfold lg_sl at h1 ⊢
    rw [List.map_cons, List.flatMap_cons, List.flatMap_cons, List.length_append, List.length_append, h1, zv_cat]
    split <;> rfl
theorem zcall_mem {tab : List zM} {a : Nat} {M : zM} (h : zix tab a = some M) : M ∈ tab := by
  rw [zix_eq] at h
  exact List.mem_of_getElem? h
theorem zentry {b sc n : Nat} {As : List Value} {ls : Array Slot} (h : lv_has ls n (lv_args 0 (As.map (zv b sc)))) : lv_has ls n (zpr b sc (zent n As)) := by
  refine ⟨h.1, h.2.1, fun q hq => h.2.2 q ?_⟩
  obtain ⟨u, h1, h2⟩ := zpr_mem.mp hq
  have h3 := zent_mem b sc As n 0 q.1 u h1
  rw [Nat.zero_add, ← h2] at h3
  exact h3
set_option maxHeartbeats 2000000 in
theorem z_snd {tab : List zM} {l : Launch} (hgood : ∀ w ∈ zt tab, goodWord w = true) (htab : ∀ M' ∈ tab, zokM tab M') : ∀ d, zSnd tab l d := by
  intro d
  induction d with
  | zero => exact fun a As w mc ms Q M _ h => h.elim
  | succ d ih =>
    intro a As w mc ms Q M hM hC
    refine ⟨Nat.succ_le_succ (Nat.zero_le _), fun b sc D dA => ?_⟩
    have hMem := zcall_mem hM
    have hC : (lg_sl As).length ≤ M.2.2.1 ∧ zwp (zCl tab d) d M none tab mc ms Q (0, zent M.2.2.1 As, [], w, 0, 0) := by
      unfold zCl at hC
      rw [hM] at hC
      exact hC
    obtain ⟨hlen, hwp⟩ := hC
    have hpl : plainName M.1.cls = true := by
      have h := (htab _ hMem).2.2
      simp only [Bool.and_eq_true] at h
      exact h.2
    refine Met.ofW (cc := M.2.1) (maxL := M.2.2.1) (ret := M.2.2.2.1) hpl rfl ?_
    intro p e s m args below meth c s₁ B hml hv
    obtain ⟨rfl, hsz, hP, hK, hN⟩ := hv
    have hx := B.exec
    have hb := B.bytes
    have hr := B.returns
    have hts0 := atoms_spec (ws := zws tab M) B.pre
    have hts : ∀ w ∈ zt tab, w.before (As.map (zv b sc)).toArray s = true := fun w hw => hts0 w (List.mem_cons_of_mem _ hw)
    have hown : s.vm.findClass M.1.cls = some m.cls := findClass_of_methodNamed B.named
    have hlocks := B.notSynchronized
    have hnm : meth.name = M.1.name := (name_of_methodNamed B.named B.method).1
    have hl := zentry (lv_entry (As.map (zv b sc)) (n := M.2.2.1) (by rw [zsl_len]; exact hlen))
    rw [lg_entry_eq]
    have key := hwp (zOK p l e (zroom d mc ms) s m (As.map (zv b sc)).toArray below meth c (MQ below (zQc b sc D dA w.length mc Q) (As.map (zv b sc)).toArray s mc ms (fun q => b ≤ q)) b sc D dA M.2.2.1 w.length) ?_
    · exact key s.heap [] _ hP va_S.rf hl rfl
    · rintro y ⟨P, hPR, hstep⟩
      refine z_step (R := zroom d mc ms) hb hx hml hown hts hgood hMem htab hK hN hsz (fun h => hnm.trans h) ⟨Nat.le_refl _, Nat.le_refl _, Nat.le_refl _, Nat.le_refl _⟩ ih (fun q h => by cases h) ?_ hPR hstep
      intro i pc v w' H locs ls k n hd hzr hq hfin hP1 hS1 hlen1
      obtain ⟨rfl, hn⟩ := hfin
      refine W.widen (Nat.le_refl _) hn ?_
      have hF : ∀ t : State, t.heap = H → va_F (fun q => b ≤ q) s t := fun t ht => hS1.F ht
      cases i with
      | ireturn =>
        obtain ⟨x, rfl, hz⟩ := hzr
        have hq2 : ∀ t : State, t.heap = H → s.WarmedH t.vm → zQc b sc D dA w.length k Q (As.map (zv b sc)).toArray s (.returned (some (.int x))) t := fun t ht _ => ⟨⟨some (.int x), w', hq, hlen1, rfl, by rw [ht]; exact hP1⟩, hF t ht⟩
        unfold zret at hz
        simp only at hz
        split at hz
        · rename_i hret
          exact W.iret hx hb (by rw [hr]; exact hret) hq2 hS1.2.2 hd
        · rename_i hret
          refine W.zret (ty := .boolean) hx hb (by rw [hr]; exact hret) ?_ hq2 hS1.2.2 hd
          rcases hz with rfl | rfl <;> rfl
        · exact hz.elim
      | lreturn =>
        obtain ⟨x, rfl, hz⟩ := hzr
        have hq2 : ∀ t : State, t.heap = H → s.WarmedH t.vm → zQc b sc D dA w.length k Q (As.map (zv b sc)).toArray s (.returned (some (.long x))) t := fun t ht _ => ⟨⟨some (.long x), w', hq, hlen1, rfl, by rw [ht]; exact hP1⟩, hF t ht⟩
        unfold zret at hz
        simp only at hz
        split at hz
        · rename_i hret
          exact W.lret hx hb (by rw [hr]; exact hret) hq2 hS1.2.2 hd
        · exact hz.elim
      | areturn =>
        rcases hzr with ⟨rfl, hz⟩ | ⟨q, rfl, hz⟩
        · have hq2 : ∀ t : State, t.heap = H → s.WarmedH t.vm → zQc b sc D dA w.length k Q (As.map (zv b sc)).toArray s (.returned (some .null)) t := fun t ht _ => ⟨⟨some .null, w', hq, hlen1, rfl, by rw [ht]; exact hP1⟩, hF t ht⟩
          unfold zret at hz
          simp only at hz
          split at hz
          · rename_i hret
            exact W.aret hx hb (by rw [hr]; exact hret) (Or.inl ⟨_, rfl⟩) (Or.inl rfl) hq2 hS1.2.2 hd
          · exact hz.elim
        · have hq2 : ∀ t : State, t.heap = H → s.WarmedH t.vm → zQc b sc D dA w.length k Q (As.map (zv b sc)).toArray s (.returned (some (.ref (b + q)))) t := fun t ht _ => ⟨⟨some (.ref q), w', hq, hlen1, rfl, by rw [ht]; exact hP1⟩, hF t ht⟩
          unfold zret at hz
          simp only at hz
          split at hz
          · rename_i hret
            exact W.aret hx hb (by rw [hr]; exact hret) (Or.inl ⟨_, rfl⟩) (Or.inr ⟨_, rfl⟩) hq2 hS1.2.2 hd
          · exact hz.elim
      | return_ =>
        obtain ⟨rfl, hz⟩ := hzr
        exact W.vret hx hb (by rw [hr]; exact hz) (fun t ht _ => ⟨⟨none, w', hq, hlen1, rfl, by rw [ht]; exact hP1⟩, hF t ht⟩) hS1.2.2 hd
      | _ => exact hzr.elim
end
section
/-! THE METHODS OF THE CLASS, OF THE REFERENCE AND OF THE LAW as rows; printed by a program. -/
def qL_law_0 : List zE := [(0, .new 7, 3, 10, 0), (3, .dup, 4, 0, 0), (4, .invokespecial 9, 7, 1, 0), (7, .astore_n 1, 8, 0, 0), (8, .new 10, 11, 11, 0), (11, .dup, 12, 0, 0), (12, .invokespecial 12, 15, 180, 0), (15, .astore_n 2, 16, 0, 0), (16, .iconst 0, 17, 0, 0), (17, .istore_n 3, 18, 0, 0), (18, .iload_n 3, 19, 0, 0), (19, .aload_n 0, 20, 0, 0), (20, .arraylength, 21, 0, 0), (21, .bipush 7, 23, 0, 0), (23, .isub, 24, 0, 0), (24, .if_icmp .gt 1824, 27, 1848, 0), (27, .aload_n 0, 28, 0, 0), (28, .iload_n 3, 29, 0, 0), (29, .iaload, 30, 0, 0), (30, .bipush 63, 32, 0, 0), (32, .iand, 33, 0, 0), (33, .tableswitch 1809 0 35 #[159, 222, 245, 278, 301, 334, 367, 400, 443, 486, 519, 572, 625, 658, 717, 750, 793, 836, 879, 938, 1007, 1098, 1141, 1194, 1247, 1300, 1359, 1418, 1487, 1556, 1615, 1664, 1707, 1740, 1763, 1786], 192, 0, 0), (192, .aload_n 1, 193, 0, 0), (193, .aload_n 0, 194, 0, 0), (194, .iload_n 3, 195, 0, 0), (195, .iconst 1, 196, 0, 0), (196, .iadd, 197, 0, 0), (197, .iaload, 198, 0, 0), (198, .aload_n 0, 199, 0, 0), (199, .iload_n 3, 200, 0, 0), (200, .iconst 2, 201, 0, 0), (201, .iadd, 202, 0, 0), (202, .iaload, 203, 0, 0), (203, .aload_n 0, 204, 0, 0), (204, .iload_n 3, 205, 0, 0), (205, .iconst 3, 206, 0, 0), (206, .iadd, 207, 0, 0), (207, .iaload, 208, 0, 0), (208, .aload_n 0, 209, 0, 0), (209, .iload_n 3, 210, 0, 0), (210, .iconst 4, 211, 0, 0), (211, .iadd, 212, 0, 0), (212, .iaload, 213, 0, 0), (213, .aload_n 0, 214, 0, 0), (214, .iload_n 3, 215, 0, 0), (215, .iconst 5, 216, 0, 0), (216, .iadd, 217, 0, 0), (217, .iaload, 218, 0, 0), (218, .invokevirtual 13, 221, 2, 5), (221, .aload_n 2, 222, 0, 0)]
def qL_law_1 : List zE := [(222, .aload_n 0, 223, 0, 0), (223, .iload_n 3, 224, 0, 0), (224, .iconst 1, 225, 0, 0), (225, .iadd, 226, 0, 0), (226, .iaload, 227, 0, 0), (227, .aload_n 0, 228, 0, 0), (228, .iload_n 3, 229, 0, 0), (229, .iconst 2, 230, 0, 0), (230, .iadd, 231, 0, 0), (231, .iaload, 232, 0, 0), (232, .aload_n 0, 233, 0, 0), (233, .iload_n 3, 234, 0, 0), (234, .iconst 3, 235, 0, 0), (235, .iadd, 236, 0, 0), (236, .iaload, 237, 0, 0), (237, .aload_n 0, 238, 0, 0), (238, .iload_n 3, 239, 0, 0), (239, .iconst 4, 240, 0, 0), (240, .iadd, 241, 0, 0), (241, .iaload, 242, 0, 0), (242, .aload_n 0, 243, 0, 0), (243, .iload_n 3, 244, 0, 0), (244, .iconst 5, 245, 0, 0), (245, .iadd, 246, 0, 0), (246, .iaload, 247, 0, 0), (247, .invokevirtual 17, 250, 188, 5), (250, .if_icmp .eq 1592, 253, 1842, 0), (253, .iconst 0, 254, 0, 0), (254, .ireturn, 255, 0, 0), (255, .aload_n 1, 256, 0, 0), (256, .aload_n 0, 257, 0, 0), (257, .iload_n 3, 258, 0, 0), (258, .iconst 1, 259, 0, 0), (259, .iadd, 260, 0, 0), (260, .iaload, 261, 0, 0), (261, .invokevirtual 18, 264, 3, 1), (264, .pop, 265, 0, 0), (265, .aload_n 2, 266, 0, 0), (266, .aload_n 0, 267, 0, 0), (267, .iload_n 3, 268, 0, 0), (268, .iconst 1, 269, 0, 0), (269, .iadd, 270, 0, 0), (270, .iaload, 271, 0, 0), (271, .invokevirtual 22, 274, 190, 1), (274, .pop, 275, 0, 0), (275, .goto 1567, 278, 1842, 0), (278, .aload_n 1, 279, 0, 0), (279, .aload_n 0, 280, 0, 0), (280, .iload_n 3, 281, 0, 0), (281, .iconst 1, 282, 0, 0)]
def qL_law_2 : List zE := [(282, .iadd, 283, 0, 0), (283, .iaload, 284, 0, 0), (284, .aload_n 0, 285, 0, 0), (285, .iload_n 3, 286, 0, 0), (286, .iconst 2, 287, 0, 0), (287, .iadd, 288, 0, 0), (288, .iaload, 289, 0, 0), (289, .invokevirtual 23, 292, 4, 2), (292, .pop, 293, 0, 0), (293, .aload_n 2, 294, 0, 0), (294, .aload_n 0, 295, 0, 0), (295, .iload_n 3, 296, 0, 0), (296, .iconst 1, 297, 0, 0), (297, .iadd, 298, 0, 0), (298, .iaload, 299, 0, 0), (299, .aload_n 0, 300, 0, 0), (300, .iload_n 3, 301, 0, 0), (301, .iconst 2, 302, 0, 0), (302, .iadd, 303, 0, 0), (303, .iaload, 304, 0, 0), (304, .invokevirtual 27, 307, 211, 2), (307, .pop, 308, 0, 0), (308, .goto 1534, 311, 1842, 0), (311, .aload_n 1, 312, 0, 0), (312, .aload_n 0, 313, 0, 0), (313, .iload_n 3, 314, 0, 0), (314, .iconst 1, 315, 0, 0), (315, .iadd, 316, 0, 0), (316, .iaload, 317, 0, 0), (317, .invokevirtual 28, 320, 5, 1), (320, .pop, 321, 0, 0), (321, .aload_n 2, 322, 0, 0), (322, .aload_n 0, 323, 0, 0), (323, .iload_n 3, 324, 0, 0), (324, .iconst 1, 325, 0, 0), (325, .iadd, 326, 0, 0), (326, .iaload, 327, 0, 0), (327, .invokevirtual 31, 330, 212, 1), (330, .pop, 331, 0, 0), (331, .goto 1511, 334, 1842, 0), (334, .aload_n 1, 335, 0, 0), (335, .aload_n 0, 336, 0, 0), (336, .iload_n 3, 337, 0, 0), (337, .iconst 1, 338, 0, 0), (338, .iadd, 339, 0, 0), (339, .iaload, 340, 0, 0), (340, .aload_n 0, 341, 0, 0), (341, .iload_n 3, 342, 0, 0), (342, .iconst 2, 343, 0, 0), (343, .iadd, 344, 0, 0)]
def qL_law_3 : List zE := [(344, .iaload, 345, 0, 0), (345, .invokevirtual 32, 348, 6, 2), (348, .pop, 349, 0, 0), (349, .aload_n 2, 350, 0, 0), (350, .aload_n 0, 351, 0, 0), (351, .iload_n 3, 352, 0, 0), (352, .iconst 1, 353, 0, 0), (353, .iadd, 354, 0, 0), (354, .iaload, 355, 0, 0), (355, .aload_n 0, 356, 0, 0), (356, .iload_n 3, 357, 0, 0), (357, .iconst 2, 358, 0, 0), (358, .iadd, 359, 0, 0), (359, .iaload, 360, 0, 0), (360, .invokevirtual 35, 363, 227, 2), (363, .pop, 364, 0, 0), (364, .goto 1478, 367, 1842, 0), (367, .aload_n 1, 368, 0, 0), (368, .aload_n 0, 369, 0, 0), (369, .iload_n 3, 370, 0, 0), (370, .iconst 1, 371, 0, 0), (371, .iadd, 372, 0, 0), (372, .iaload, 373, 0, 0), (373, .aload_n 0, 374, 0, 0), (374, .iload_n 3, 375, 0, 0), (375, .iconst 2, 376, 0, 0), (376, .iadd, 377, 0, 0), (377, .iaload, 378, 0, 0), (378, .invokevirtual 36, 381, 7, 2), (381, .pop, 382, 0, 0), (382, .aload_n 2, 383, 0, 0), (383, .aload_n 0, 384, 0, 0), (384, .iload_n 3, 385, 0, 0), (385, .iconst 1, 386, 0, 0), (386, .iadd, 387, 0, 0), (387, .iaload, 388, 0, 0), (388, .aload_n 0, 389, 0, 0), (389, .iload_n 3, 390, 0, 0), (390, .iconst 2, 391, 0, 0), (391, .iadd, 392, 0, 0), (392, .iaload, 393, 0, 0), (393, .invokevirtual 39, 396, 228, 2), (396, .pop, 397, 0, 0), (397, .goto 1445, 400, 1842, 0), (400, .aload_n 1, 401, 0, 0), (401, .aload_n 0, 402, 0, 0), (402, .iload_n 3, 403, 0, 0), (403, .iconst 1, 404, 0, 0), (404, .iadd, 405, 0, 0), (405, .iaload, 406, 0, 0)]
def qL_law_4 : List zE := [(406, .aload_n 0, 407, 0, 0), (407, .iload_n 3, 408, 0, 0), (408, .iconst 2, 409, 0, 0), (409, .iadd, 410, 0, 0), (410, .iaload, 411, 0, 0), (411, .invokevirtual 40, 414, 8, 2), (414, .pop, 415, 0, 0), (415, .aload_n 2, 416, 0, 0), (416, .aload_n 0, 417, 0, 0), (417, .iload_n 3, 418, 0, 0), (418, .iconst 1, 419, 0, 0), (419, .iadd, 420, 0, 0), (420, .iaload, 421, 0, 0), (421, .aload_n 0, 422, 0, 0), (422, .iload_n 3, 423, 0, 0), (423, .iconst 2, 424, 0, 0), (424, .iadd, 425, 0, 0), (425, .iaload, 426, 0, 0), (426, .invokevirtual 43, 429, 229, 2), (429, .pop, 430, 0, 0), (430, .goto 1412, 433, 1842, 0), (433, .aload_n 1, 434, 0, 0), (434, .aload_n 0, 435, 0, 0), (435, .iload_n 3, 436, 0, 0), (436, .iconst 1, 437, 0, 0), (437, .iadd, 438, 0, 0), (438, .iaload, 439, 0, 0), (439, .aload_n 0, 440, 0, 0), (440, .iload_n 3, 441, 0, 0), (441, .iconst 2, 442, 0, 0), (442, .iadd, 443, 0, 0), (443, .iaload, 444, 0, 0), (444, .aload_n 0, 445, 0, 0), (445, .iload_n 3, 446, 0, 0), (446, .iconst 3, 447, 0, 0), (447, .iadd, 448, 0, 0), (448, .iaload, 449, 0, 0), (449, .invokevirtual 44, 452, 9, 3), (452, .pop, 453, 0, 0), (453, .aload_n 2, 454, 0, 0), (454, .aload_n 0, 455, 0, 0), (455, .iload_n 3, 456, 0, 0), (456, .iconst 1, 457, 0, 0), (457, .iadd, 458, 0, 0), (458, .iaload, 459, 0, 0), (459, .aload_n 0, 460, 0, 0), (460, .iload_n 3, 461, 0, 0), (461, .iconst 2, 462, 0, 0), (462, .iadd, 463, 0, 0), (463, .iaload, 464, 0, 0)]
def qL_law_5 : List zE := [(464, .aload_n 0, 465, 0, 0), (465, .iload_n 3, 466, 0, 0), (466, .iconst 3, 467, 0, 0), (467, .iadd, 468, 0, 0), (468, .iaload, 469, 0, 0), (469, .invokevirtual 48, 472, 230, 3), (472, .pop, 473, 0, 0), (473, .goto 1369, 476, 1842, 0), (476, .aload_n 1, 477, 0, 0), (477, .aload_n 0, 478, 0, 0), (478, .iload_n 3, 479, 0, 0), (479, .iconst 1, 480, 0, 0), (480, .iadd, 481, 0, 0), (481, .iaload, 482, 0, 0), (482, .aload_n 0, 483, 0, 0), (483, .iload_n 3, 484, 0, 0), (484, .iconst 2, 485, 0, 0), (485, .iadd, 486, 0, 0), (486, .iaload, 487, 0, 0), (487, .aload_n 0, 488, 0, 0), (488, .iload_n 3, 489, 0, 0), (489, .iconst 3, 490, 0, 0), (490, .iadd, 491, 0, 0), (491, .iaload, 492, 0, 0), (492, .invokevirtual 49, 495, 10, 3), (495, .pop, 496, 0, 0), (496, .aload_n 2, 497, 0, 0), (497, .aload_n 0, 498, 0, 0), (498, .iload_n 3, 499, 0, 0), (499, .iconst 1, 500, 0, 0), (500, .iadd, 501, 0, 0), (501, .iaload, 502, 0, 0), (502, .aload_n 0, 503, 0, 0), (503, .iload_n 3, 504, 0, 0), (504, .iconst 2, 505, 0, 0), (505, .iadd, 506, 0, 0), (506, .iaload, 507, 0, 0), (507, .aload_n 0, 508, 0, 0), (508, .iload_n 3, 509, 0, 0), (509, .iconst 3, 510, 0, 0), (510, .iadd, 511, 0, 0), (511, .iaload, 512, 0, 0), (512, .invokevirtual 52, 515, 234, 3), (515, .pop, 516, 0, 0), (516, .goto 1326, 519, 1842, 0), (519, .aload_n 1, 520, 0, 0), (520, .aload_n 0, 521, 0, 0), (521, .iload_n 3, 522, 0, 0), (522, .iconst 1, 523, 0, 0), (523, .iadd, 524, 0, 0)]
def qL_law_6 : List zE := [(524, .iaload, 525, 0, 0), (525, .aload_n 0, 526, 0, 0), (526, .iload_n 3, 527, 0, 0), (527, .iconst 2, 528, 0, 0), (528, .iadd, 529, 0, 0), (529, .iaload, 530, 0, 0), (530, .invokevirtual 53, 533, 11, 2), (533, .pop, 534, 0, 0), (534, .aload_n 2, 535, 0, 0), (535, .aload_n 0, 536, 0, 0), (536, .iload_n 3, 537, 0, 0), (537, .iconst 1, 538, 0, 0), (538, .iadd, 539, 0, 0), (539, .iaload, 540, 0, 0), (540, .aload_n 0, 541, 0, 0), (541, .iload_n 3, 542, 0, 0), (542, .iconst 2, 543, 0, 0), (543, .iadd, 544, 0, 0), (544, .iaload, 545, 0, 0), (545, .invokevirtual 56, 548, 242, 2), (548, .pop, 549, 0, 0), (549, .goto 1293, 552, 1842, 0), (552, .aload_n 1, 553, 0, 0), (553, .aload_n 0, 554, 0, 0), (554, .iload_n 3, 555, 0, 0), (555, .iconst 1, 556, 0, 0), (556, .iadd, 557, 0, 0), (557, .iaload, 558, 0, 0), (558, .aload_n 0, 559, 0, 0), (559, .iload_n 3, 560, 0, 0), (560, .iconst 2, 561, 0, 0), (561, .iadd, 562, 0, 0), (562, .iaload, 563, 0, 0), (563, .aload_n 0, 564, 0, 0), (564, .iload_n 3, 565, 0, 0), (565, .iconst 3, 566, 0, 0), (566, .iadd, 567, 0, 0), (567, .iaload, 568, 0, 0), (568, .aload_n 0, 569, 0, 0), (569, .iload_n 3, 570, 0, 0), (570, .iconst 4, 571, 0, 0), (571, .iadd, 572, 0, 0), (572, .iaload, 573, 0, 0), (573, .invokevirtual 57, 576, 12, 4), (576, .pop, 577, 0, 0), (577, .aload_n 2, 578, 0, 0), (578, .aload_n 0, 579, 0, 0), (579, .iload_n 3, 580, 0, 0), (580, .iconst 1, 581, 0, 0), (581, .iadd, 582, 0, 0)]
def qL_law_7 : List zE := [(582, .iaload, 583, 0, 0), (583, .aload_n 0, 584, 0, 0), (584, .iload_n 3, 585, 0, 0), (585, .iconst 2, 586, 0, 0), (586, .iadd, 587, 0, 0), (587, .iaload, 588, 0, 0), (588, .aload_n 0, 589, 0, 0), (589, .iload_n 3, 590, 0, 0), (590, .iconst 3, 591, 0, 0), (591, .iadd, 592, 0, 0), (592, .iaload, 593, 0, 0), (593, .aload_n 0, 594, 0, 0), (594, .iload_n 3, 595, 0, 0), (595, .iconst 4, 596, 0, 0), (596, .iadd, 597, 0, 0), (597, .iaload, 598, 0, 0), (598, .invokevirtual 61, 601, 244, 4), (601, .pop, 602, 0, 0), (602, .goto 1240, 605, 1842, 0), (605, .aload_n 1, 606, 0, 0), (606, .aload_n 0, 607, 0, 0), (607, .iload_n 3, 608, 0, 0), (608, .iconst 1, 609, 0, 0), (609, .iadd, 610, 0, 0), (610, .iaload, 611, 0, 0), (611, .aload_n 0, 612, 0, 0), (612, .iload_n 3, 613, 0, 0), (613, .iconst 2, 614, 0, 0), (614, .iadd, 615, 0, 0), (615, .iaload, 616, 0, 0), (616, .aload_n 0, 617, 0, 0), (617, .iload_n 3, 618, 0, 0), (618, .iconst 3, 619, 0, 0), (619, .iadd, 620, 0, 0), (620, .iaload, 621, 0, 0), (621, .aload_n 0, 622, 0, 0), (622, .iload_n 3, 623, 0, 0), (623, .iconst 4, 624, 0, 0), (624, .iadd, 625, 0, 0), (625, .iaload, 626, 0, 0), (626, .invokevirtual 62, 629, 13, 4), (629, .pop, 630, 0, 0), (630, .aload_n 2, 631, 0, 0), (631, .aload_n 0, 632, 0, 0), (632, .iload_n 3, 633, 0, 0), (633, .iconst 1, 634, 0, 0), (634, .iadd, 635, 0, 0), (635, .iaload, 636, 0, 0), (636, .aload_n 0, 637, 0, 0), (637, .iload_n 3, 638, 0, 0)]
def qL_law_8 : List zE := [(638, .iconst 2, 639, 0, 0), (639, .iadd, 640, 0, 0), (640, .iaload, 641, 0, 0), (641, .aload_n 0, 642, 0, 0), (642, .iload_n 3, 643, 0, 0), (643, .iconst 3, 644, 0, 0), (644, .iadd, 645, 0, 0), (645, .iaload, 646, 0, 0), (646, .aload_n 0, 647, 0, 0), (647, .iload_n 3, 648, 0, 0), (648, .iconst 4, 649, 0, 0), (649, .iadd, 650, 0, 0), (650, .iaload, 651, 0, 0), (651, .invokevirtual 65, 654, 249, 4), (654, .pop, 655, 0, 0), (655, .goto 1187, 658, 1842, 0), (658, .aload_n 1, 659, 0, 0), (659, .aload_n 0, 660, 0, 0), (660, .iload_n 3, 661, 0, 0), (661, .iconst 1, 662, 0, 0), (662, .iadd, 663, 0, 0), (663, .iaload, 664, 0, 0), (664, .aload_n 0, 665, 0, 0), (665, .iload_n 3, 666, 0, 0), (666, .iconst 2, 667, 0, 0), (667, .iadd, 668, 0, 0), (668, .iaload, 669, 0, 0), (669, .invokevirtual 66, 672, 14, 2), (672, .pop, 673, 0, 0), (673, .aload_n 2, 674, 0, 0), (674, .aload_n 0, 675, 0, 0), (675, .iload_n 3, 676, 0, 0), (676, .iconst 1, 677, 0, 0), (677, .iadd, 678, 0, 0), (678, .iaload, 679, 0, 0), (679, .aload_n 0, 680, 0, 0), (680, .iload_n 3, 681, 0, 0), (681, .iconst 2, 682, 0, 0), (682, .iadd, 683, 0, 0), (683, .iaload, 684, 0, 0), (684, .invokevirtual 69, 687, 250, 2), (687, .pop, 688, 0, 0), (688, .goto 1154, 691, 1842, 0), (691, .aload_n 1, 692, 0, 0), (692, .aload_n 0, 693, 0, 0), (693, .iload_n 3, 694, 0, 0), (694, .iconst 1, 695, 0, 0), (695, .iadd, 696, 0, 0), (696, .iaload, 697, 0, 0), (697, .aload_n 0, 698, 0, 0)]
def qL_law_9 : List zE := [(698, .iload_n 3, 699, 0, 0), (699, .iconst 2, 700, 0, 0), (700, .iadd, 701, 0, 0), (701, .iaload, 702, 0, 0), (702, .aload_n 0, 703, 0, 0), (703, .iload_n 3, 704, 0, 0), (704, .iconst 3, 705, 0, 0), (705, .iadd, 706, 0, 0), (706, .iaload, 707, 0, 0), (707, .ifCond .eq 7, 710, 714, 0), (710, .iconst 1, 711, 0, 0), (711, .goto 4, 714, 715, 0), (714, .iconst 0, 715, 0, 0), (715, .invokevirtual 70, 718, 15, 3), (718, .pop, 719, 0, 0), (719, .aload_n 2, 720, 0, 0), (720, .aload_n 0, 721, 0, 0), (721, .iload_n 3, 722, 0, 0), (722, .iconst 1, 723, 0, 0), (723, .iadd, 724, 0, 0), (724, .iaload, 725, 0, 0), (725, .aload_n 0, 726, 0, 0), (726, .iload_n 3, 727, 0, 0), (727, .iconst 2, 728, 0, 0), (728, .iadd, 729, 0, 0), (729, .iaload, 730, 0, 0), (730, .aload_n 0, 731, 0, 0), (731, .iload_n 3, 732, 0, 0), (732, .iconst 3, 733, 0, 0), (733, .iadd, 734, 0, 0), (734, .iaload, 735, 0, 0), (735, .ifCond .eq 7, 738, 742, 0), (738, .iconst 1, 739, 0, 0), (739, .goto 4, 742, 743, 0), (742, .iconst 0, 743, 0, 0), (743, .invokevirtual 74, 746, 251, 3), (746, .pop, 747, 0, 0), (747, .goto 1095, 750, 1842, 0), (750, .aload_n 1, 751, 0, 0), (751, .aload_n 0, 752, 0, 0), (752, .iload_n 3, 753, 0, 0), (753, .iconst 1, 754, 0, 0), (754, .iadd, 755, 0, 0), (755, .iaload, 756, 0, 0), (756, .aload_n 0, 757, 0, 0), (757, .iload_n 3, 758, 0, 0), (758, .iconst 2, 759, 0, 0), (759, .iadd, 760, 0, 0), (760, .iaload, 761, 0, 0), (761, .invokevirtual 75, 764, 16, 2)]
def qL_law_10 : List zE := [(764, .pop, 765, 0, 0), (765, .aload_n 2, 766, 0, 0), (766, .aload_n 0, 767, 0, 0), (767, .iload_n 3, 768, 0, 0), (768, .iconst 1, 769, 0, 0), (769, .iadd, 770, 0, 0), (770, .iaload, 771, 0, 0), (771, .aload_n 0, 772, 0, 0), (772, .iload_n 3, 773, 0, 0), (773, .iconst 2, 774, 0, 0), (774, .iadd, 775, 0, 0), (775, .iaload, 776, 0, 0), (776, .invokevirtual 78, 779, 253, 2), (779, .pop, 780, 0, 0), (780, .goto 1062, 783, 1842, 0), (783, .aload_n 1, 784, 0, 0), (784, .aload_n 0, 785, 0, 0), (785, .iload_n 3, 786, 0, 0), (786, .iconst 1, 787, 0, 0), (787, .iadd, 788, 0, 0), (788, .iaload, 789, 0, 0), (789, .aload_n 0, 790, 0, 0), (790, .iload_n 3, 791, 0, 0), (791, .iconst 2, 792, 0, 0), (792, .iadd, 793, 0, 0), (793, .iaload, 794, 0, 0), (794, .aload_n 0, 795, 0, 0), (795, .iload_n 3, 796, 0, 0), (796, .iconst 3, 797, 0, 0), (797, .iadd, 798, 0, 0), (798, .iaload, 799, 0, 0), (799, .invokevirtual 79, 802, 17, 3), (802, .pop, 803, 0, 0), (803, .aload_n 2, 804, 0, 0), (804, .aload_n 0, 805, 0, 0), (805, .iload_n 3, 806, 0, 0), (806, .iconst 1, 807, 0, 0), (807, .iadd, 808, 0, 0), (808, .iaload, 809, 0, 0), (809, .aload_n 0, 810, 0, 0), (810, .iload_n 3, 811, 0, 0), (811, .iconst 2, 812, 0, 0), (812, .iadd, 813, 0, 0), (813, .iaload, 814, 0, 0), (814, .aload_n 0, 815, 0, 0), (815, .iload_n 3, 816, 0, 0), (816, .iconst 3, 817, 0, 0), (817, .iadd, 818, 0, 0), (818, .iaload, 819, 0, 0), (819, .invokevirtual 82, 822, 254, 3)]
def qL_law_11 : List zE := [(822, .pop, 823, 0, 0), (823, .goto 1019, 826, 1842, 0), (826, .aload_n 1, 827, 0, 0), (827, .aload_n 0, 828, 0, 0), (828, .iload_n 3, 829, 0, 0), (829, .iconst 1, 830, 0, 0), (830, .iadd, 831, 0, 0), (831, .iaload, 832, 0, 0), (832, .aload_n 0, 833, 0, 0), (833, .iload_n 3, 834, 0, 0), (834, .iconst 2, 835, 0, 0), (835, .iadd, 836, 0, 0), (836, .iaload, 837, 0, 0), (837, .aload_n 0, 838, 0, 0), (838, .iload_n 3, 839, 0, 0), (839, .iconst 3, 840, 0, 0), (840, .iadd, 841, 0, 0), (841, .iaload, 842, 0, 0), (842, .invokevirtual 83, 845, 18, 3), (845, .pop, 846, 0, 0), (846, .aload_n 2, 847, 0, 0), (847, .aload_n 0, 848, 0, 0), (848, .iload_n 3, 849, 0, 0), (849, .iconst 1, 850, 0, 0), (850, .iadd, 851, 0, 0), (851, .iaload, 852, 0, 0), (852, .aload_n 0, 853, 0, 0), (853, .iload_n 3, 854, 0, 0), (854, .iconst 2, 855, 0, 0), (855, .iadd, 856, 0, 0), (856, .iaload, 857, 0, 0), (857, .aload_n 0, 858, 0, 0), (858, .iload_n 3, 859, 0, 0), (859, .iconst 3, 860, 0, 0), (860, .iadd, 861, 0, 0), (861, .iaload, 862, 0, 0), (862, .invokevirtual 86, 865, 261, 3), (865, .pop, 866, 0, 0), (866, .goto 976, 869, 1842, 0), (869, .aload_n 1, 870, 0, 0), (870, .aload_n 0, 871, 0, 0), (871, .iload_n 3, 872, 0, 0), (872, .iconst 1, 873, 0, 0), (873, .iadd, 874, 0, 0), (874, .iaload, 875, 0, 0), (875, .aload_n 0, 876, 0, 0), (876, .iload_n 3, 877, 0, 0), (877, .iconst 2, 878, 0, 0), (878, .iadd, 879, 0, 0), (879, .iaload, 880, 0, 0)]
def qL_law_12 : List zE := [(880, .aload_n 0, 881, 0, 0), (881, .iload_n 3, 882, 0, 0), (882, .iconst 3, 883, 0, 0), (883, .iadd, 884, 0, 0), (884, .iaload, 885, 0, 0), (885, .invokevirtual 87, 888, 19, 3), (888, .pop, 889, 0, 0), (889, .aload_n 2, 890, 0, 0), (890, .aload_n 0, 891, 0, 0), (891, .iload_n 3, 892, 0, 0), (892, .iconst 1, 893, 0, 0), (893, .iadd, 894, 0, 0), (894, .iaload, 895, 0, 0), (895, .aload_n 0, 896, 0, 0), (896, .iload_n 3, 897, 0, 0), (897, .iconst 2, 898, 0, 0), (898, .iadd, 899, 0, 0), (899, .iaload, 900, 0, 0), (900, .aload_n 0, 901, 0, 0), (901, .iload_n 3, 902, 0, 0), (902, .iconst 3, 903, 0, 0), (903, .iadd, 904, 0, 0), (904, .iaload, 905, 0, 0), (905, .invokevirtual 90, 908, 266, 3), (908, .pop, 909, 0, 0), (909, .goto 933, 912, 1842, 0), (912, .aload_n 1, 913, 0, 0), (913, .aload_n 0, 914, 0, 0), (914, .iload_n 3, 915, 0, 0), (915, .iconst 1, 916, 0, 0), (916, .iadd, 917, 0, 0), (917, .iaload, 918, 0, 0), (918, .aload_n 0, 919, 0, 0), (919, .iload_n 3, 920, 0, 0), (920, .iconst 2, 921, 0, 0), (921, .iadd, 922, 0, 0), (922, .iaload, 923, 0, 0), (923, .aload_n 0, 924, 0, 0), (924, .iload_n 3, 925, 0, 0), (925, .iconst 3, 926, 0, 0), (926, .iadd, 927, 0, 0), (927, .iaload, 928, 0, 0), (928, .ifCond .eq 7, 931, 935, 0), (931, .iconst 1, 932, 0, 0), (932, .goto 4, 935, 936, 0), (935, .iconst 0, 936, 0, 0), (936, .invokevirtual 91, 939, 20, 3), (940, .aload_n 2, 941, 0, 0), (941, .aload_n 0, 942, 0, 0), (942, .iload_n 3, 943, 0, 0)]
def qL_law_13 : List zE := [(943, .iconst 1, 944, 0, 0), (944, .iadd, 945, 0, 0), (945, .iaload, 946, 0, 0), (946, .aload_n 0, 947, 0, 0), (947, .iload_n 3, 948, 0, 0), (948, .iconst 2, 949, 0, 0), (949, .iadd, 950, 0, 0), (950, .iaload, 951, 0, 0), (951, .aload_n 0, 952, 0, 0), (952, .iload_n 3, 953, 0, 0), (953, .iconst 3, 954, 0, 0), (954, .iadd, 955, 0, 0), (955, .iaload, 956, 0, 0), (956, .ifCond .eq 7, 959, 963, 0), (959, .iconst 1, 960, 0, 0), (960, .goto 4, 963, 964, 0), (963, .iconst 0, 964, 0, 0), (964, .invokevirtual 95, 967, 268, 3), (968, .goto 874, 971, 1842, 0), (971, .aload_n 1, 972, 0, 0), (972, .aload_n 0, 973, 0, 0), (973, .iload_n 3, 974, 0, 0), (974, .iconst 1, 975, 0, 0), (975, .iadd, 976, 0, 0), (976, .iaload, 977, 0, 0), (977, .aload_n 0, 978, 0, 0), (978, .iload_n 3, 979, 0, 0), (979, .iconst 2, 980, 0, 0), (980, .iadd, 981, 0, 0), (981, .iaload, 982, 0, 0), (982, .aload_n 0, 983, 0, 0), (983, .iload_n 3, 984, 0, 0), (984, .iconst 3, 985, 0, 0), (985, .iadd, 986, 0, 0), (986, .iaload, 987, 0, 0), (987, .aload_n 0, 988, 0, 0), (988, .iload_n 3, 989, 0, 0), (989, .iconst 4, 990, 0, 0), (990, .iadd, 991, 0, 0), (991, .iaload, 992, 0, 0), (992, .ifCond .eq 7, 995, 999, 0), (995, .iconst 1, 996, 0, 0), (996, .goto 4, 999, 1000, 0), (999, .iconst 0, 1000, 0, 0), (1000, .invokevirtual 96, 1003, 21, 4), (1003, .pop, 1004, 0, 0), (1004, .aload_n 2, 1005, 0, 0), (1005, .aload_n 0, 1006, 0, 0), (1006, .iload_n 3, 1007, 0, 0), (1007, .iconst 1, 1008, 0, 0)]
def qL_law_14 : List zE := [(1008, .iadd, 1009, 0, 0), (1009, .iaload, 1010, 0, 0), (1010, .aload_n 0, 1011, 0, 0), (1011, .iload_n 3, 1012, 0, 0), (1012, .iconst 2, 1013, 0, 0), (1013, .iadd, 1014, 0, 0), (1014, .iaload, 1015, 0, 0), (1015, .aload_n 0, 1016, 0, 0), (1016, .iload_n 3, 1017, 0, 0), (1017, .iconst 3, 1018, 0, 0), (1018, .iadd, 1019, 0, 0), (1019, .iaload, 1020, 0, 0), (1020, .aload_n 0, 1021, 0, 0), (1021, .iload_n 3, 1022, 0, 0), (1022, .iconst 4, 1023, 0, 0), (1023, .iadd, 1024, 0, 0), (1024, .iaload, 1025, 0, 0), (1025, .ifCond .eq 7, 1028, 1032, 0), (1028, .iconst 1, 1029, 0, 0), (1029, .goto 4, 1032, 1033, 0), (1032, .iconst 0, 1033, 0, 0), (1033, .invokevirtual 100, 1036, 269, 4), (1036, .pop, 1037, 0, 0), (1037, .goto 805, 1040, 1842, 0), (1040, .aload_n 1, 1041, 0, 0), (1041, .aload_n 0, 1042, 0, 0), (1042, .iload_n 3, 1043, 0, 0), (1043, .iconst 1, 1044, 0, 0), (1044, .iadd, 1045, 0, 0), (1045, .iaload, 1046, 0, 0), (1046, .aload_n 0, 1047, 0, 0), (1047, .iload_n 3, 1048, 0, 0), (1048, .iconst 2, 1049, 0, 0), (1049, .iadd, 1050, 0, 0), (1050, .iaload, 1051, 0, 0), (1051, .aload_n 0, 1052, 0, 0), (1052, .iload_n 3, 1053, 0, 0), (1053, .iconst 3, 1054, 0, 0), (1054, .iadd, 1055, 0, 0), (1055, .iaload, 1056, 0, 0), (1056, .aload_n 0, 1057, 0, 0), (1057, .iload_n 3, 1058, 0, 0), (1058, .iconst 4, 1059, 0, 0), (1059, .iadd, 1060, 0, 0), (1060, .iaload, 1061, 0, 0), (1061, .aload_n 0, 1062, 0, 0), (1062, .iload_n 3, 1063, 0, 0), (1063, .iconst 5, 1064, 0, 0), (1064, .iadd, 1065, 0, 0), (1065, .iaload, 1066, 0, 0)]
def qL_law_15 : List zE := [(1066, .aload_n 0, 1067, 0, 0), (1067, .iload_n 3, 1068, 0, 0), (1068, .bipush 6, 1070, 0, 0), (1070, .iadd, 1071, 0, 0), (1071, .iaload, 1072, 0, 0), (1072, .ifCond .eq 7, 1075, 1079, 0), (1075, .iconst 1, 1076, 0, 0), (1076, .goto 4, 1079, 1080, 0), (1079, .iconst 0, 1080, 0, 0), (1080, .invokevirtual 101, 1083, 22, 6), (1083, .pop, 1084, 0, 0), (1084, .aload_n 2, 1085, 0, 0), (1085, .aload_n 0, 1086, 0, 0), (1086, .iload_n 3, 1087, 0, 0), (1087, .iconst 1, 1088, 0, 0), (1088, .iadd, 1089, 0, 0), (1089, .iaload, 1090, 0, 0), (1090, .aload_n 0, 1091, 0, 0), (1091, .iload_n 3, 1092, 0, 0), (1092, .iconst 2, 1093, 0, 0), (1093, .iadd, 1094, 0, 0), (1094, .iaload, 1095, 0, 0), (1095, .aload_n 0, 1096, 0, 0), (1096, .iload_n 3, 1097, 0, 0), (1097, .iconst 3, 1098, 0, 0), (1098, .iadd, 1099, 0, 0), (1099, .iaload, 1100, 0, 0), (1100, .aload_n 0, 1101, 0, 0), (1101, .iload_n 3, 1102, 0, 0), (1102, .iconst 4, 1103, 0, 0), (1103, .iadd, 1104, 0, 0), (1104, .iaload, 1105, 0, 0), (1105, .aload_n 0, 1106, 0, 0), (1106, .iload_n 3, 1107, 0, 0), (1107, .iconst 5, 1108, 0, 0), (1108, .iadd, 1109, 0, 0), (1109, .iaload, 1110, 0, 0), (1110, .aload_n 0, 1111, 0, 0), (1111, .iload_n 3, 1112, 0, 0), (1112, .bipush 6, 1114, 0, 0), (1114, .iadd, 1115, 0, 0), (1115, .iaload, 1116, 0, 0), (1116, .ifCond .eq 7, 1119, 1123, 0), (1119, .iconst 1, 1120, 0, 0), (1120, .goto 4, 1123, 1124, 0), (1123, .iconst 0, 1124, 0, 0), (1124, .invokevirtual 105, 1127, 271, 6), (1127, .pop, 1128, 0, 0), (1128, .goto 714, 1131, 1842, 0), (1131, .aload_n 1, 1132, 0, 0)]
def qL_law_16 : List zE := [(1132, .aload_n 0, 1133, 0, 0), (1133, .iload_n 3, 1134, 0, 0), (1134, .iconst 1, 1135, 0, 0), (1135, .iadd, 1136, 0, 0), (1136, .iaload, 1137, 0, 0), (1137, .aload_n 0, 1138, 0, 0), (1138, .iload_n 3, 1139, 0, 0), (1139, .iconst 2, 1140, 0, 0), (1140, .iadd, 1141, 0, 0), (1141, .iaload, 1142, 0, 0), (1142, .aload_n 0, 1143, 0, 0), (1143, .iload_n 3, 1144, 0, 0), (1144, .iconst 3, 1145, 0, 0), (1145, .iadd, 1146, 0, 0), (1146, .iaload, 1147, 0, 0), (1147, .invokevirtual 106, 1150, 23, 3), (1150, .pop, 1151, 0, 0), (1151, .aload_n 2, 1152, 0, 0), (1152, .aload_n 0, 1153, 0, 0), (1153, .iload_n 3, 1154, 0, 0), (1154, .iconst 1, 1155, 0, 0), (1155, .iadd, 1156, 0, 0), (1156, .iaload, 1157, 0, 0), (1157, .aload_n 0, 1158, 0, 0), (1158, .iload_n 3, 1159, 0, 0), (1159, .iconst 2, 1160, 0, 0), (1160, .iadd, 1161, 0, 0), (1161, .iaload, 1162, 0, 0), (1162, .aload_n 0, 1163, 0, 0), (1163, .iload_n 3, 1164, 0, 0), (1164, .iconst 3, 1165, 0, 0), (1165, .iadd, 1166, 0, 0), (1166, .iaload, 1167, 0, 0), (1167, .invokevirtual 109, 1170, 275, 3), (1170, .pop, 1171, 0, 0), (1171, .goto 671, 1174, 1842, 0), (1174, .aload_n 1, 1175, 0, 0), (1175, .aload_n 0, 1176, 0, 0), (1176, .iload_n 3, 1177, 0, 0), (1177, .iconst 1, 1178, 0, 0), (1178, .iadd, 1179, 0, 0), (1179, .iaload, 1180, 0, 0), (1180, .aload_n 0, 1181, 0, 0), (1181, .iload_n 3, 1182, 0, 0), (1182, .iconst 2, 1183, 0, 0), (1183, .iadd, 1184, 0, 0), (1184, .iaload, 1185, 0, 0), (1185, .aload_n 0, 1186, 0, 0), (1186, .iload_n 3, 1187, 0, 0), (1187, .iconst 3, 1188, 0, 0)]
def qL_law_17 : List zE := [(1188, .iadd, 1189, 0, 0), (1189, .iaload, 1190, 0, 0), (1190, .aload_n 0, 1191, 0, 0), (1191, .iload_n 3, 1192, 0, 0), (1192, .iconst 4, 1193, 0, 0), (1193, .iadd, 1194, 0, 0), (1194, .iaload, 1195, 0, 0), (1195, .invokevirtual 110, 1198, 24, 4), (1198, .pop, 1199, 0, 0), (1199, .aload_n 2, 1200, 0, 0), (1200, .aload_n 0, 1201, 0, 0), (1201, .iload_n 3, 1202, 0, 0), (1202, .iconst 1, 1203, 0, 0), (1203, .iadd, 1204, 0, 0), (1204, .iaload, 1205, 0, 0), (1205, .aload_n 0, 1206, 0, 0), (1206, .iload_n 3, 1207, 0, 0), (1207, .iconst 2, 1208, 0, 0), (1208, .iadd, 1209, 0, 0), (1209, .iaload, 1210, 0, 0), (1210, .aload_n 0, 1211, 0, 0), (1211, .iload_n 3, 1212, 0, 0), (1212, .iconst 3, 1213, 0, 0), (1213, .iadd, 1214, 0, 0), (1214, .iaload, 1215, 0, 0), (1215, .aload_n 0, 1216, 0, 0), (1216, .iload_n 3, 1217, 0, 0), (1217, .iconst 4, 1218, 0, 0), (1218, .iadd, 1219, 0, 0), (1219, .iaload, 1220, 0, 0), (1220, .invokevirtual 113, 1223, 279, 4), (1223, .pop, 1224, 0, 0), (1224, .goto 618, 1227, 1842, 0), (1227, .aload_n 1, 1228, 0, 0), (1228, .aload_n 0, 1229, 0, 0), (1229, .iload_n 3, 1230, 0, 0), (1230, .iconst 1, 1231, 0, 0), (1231, .iadd, 1232, 0, 0), (1232, .iaload, 1233, 0, 0), (1233, .aload_n 0, 1234, 0, 0), (1234, .iload_n 3, 1235, 0, 0), (1235, .iconst 2, 1236, 0, 0), (1236, .iadd, 1237, 0, 0), (1237, .iaload, 1238, 0, 0), (1238, .aload_n 0, 1239, 0, 0), (1239, .iload_n 3, 1240, 0, 0), (1240, .iconst 3, 1241, 0, 0), (1241, .iadd, 1242, 0, 0), (1242, .iaload, 1243, 0, 0), (1243, .aload_n 0, 1244, 0, 0)]
def qL_law_18 : List zE := [(1244, .iload_n 3, 1245, 0, 0), (1245, .iconst 4, 1246, 0, 0), (1246, .iadd, 1247, 0, 0), (1247, .iaload, 1248, 0, 0), (1248, .invokevirtual 114, 1251, 25, 4), (1251, .pop, 1252, 0, 0), (1252, .aload_n 2, 1253, 0, 0), (1253, .aload_n 0, 1254, 0, 0), (1254, .iload_n 3, 1255, 0, 0), (1255, .iconst 1, 1256, 0, 0), (1256, .iadd, 1257, 0, 0), (1257, .iaload, 1258, 0, 0), (1258, .aload_n 0, 1259, 0, 0), (1259, .iload_n 3, 1260, 0, 0), (1260, .iconst 2, 1261, 0, 0), (1261, .iadd, 1262, 0, 0), (1262, .iaload, 1263, 0, 0), (1263, .aload_n 0, 1264, 0, 0), (1264, .iload_n 3, 1265, 0, 0), (1265, .iconst 3, 1266, 0, 0), (1266, .iadd, 1267, 0, 0), (1267, .iaload, 1268, 0, 0), (1268, .aload_n 0, 1269, 0, 0), (1269, .iload_n 3, 1270, 0, 0), (1270, .iconst 4, 1271, 0, 0), (1271, .iadd, 1272, 0, 0), (1272, .iaload, 1273, 0, 0), (1273, .invokevirtual 117, 1276, 282, 4), (1276, .pop, 1277, 0, 0), (1277, .goto 565, 1280, 1842, 0), (1280, .aload_n 1, 1281, 0, 0), (1281, .aload_n 0, 1282, 0, 0), (1282, .iload_n 3, 1283, 0, 0), (1283, .iconst 1, 1284, 0, 0), (1284, .iadd, 1285, 0, 0), (1285, .iaload, 1286, 0, 0), (1286, .aload_n 0, 1287, 0, 0), (1287, .iload_n 3, 1288, 0, 0), (1288, .iconst 2, 1289, 0, 0), (1289, .iadd, 1290, 0, 0), (1290, .iaload, 1291, 0, 0), (1291, .aload_n 0, 1292, 0, 0), (1292, .iload_n 3, 1293, 0, 0), (1293, .iconst 3, 1294, 0, 0), (1294, .iadd, 1295, 0, 0), (1295, .iaload, 1296, 0, 0), (1296, .aload_n 0, 1297, 0, 0), (1297, .iload_n 3, 1298, 0, 0), (1298, .iconst 4, 1299, 0, 0), (1299, .iadd, 1300, 0, 0)]
def qL_law_19 : List zE := [(1300, .iaload, 1301, 0, 0), (1301, .invokevirtual 118, 1304, 26, 4), (1304, .pop, 1305, 0, 0), (1305, .aload_n 2, 1306, 0, 0), (1306, .aload_n 0, 1307, 0, 0), (1307, .iload_n 3, 1308, 0, 0), (1308, .iconst 1, 1309, 0, 0), (1309, .iadd, 1310, 0, 0), (1310, .iaload, 1311, 0, 0), (1311, .aload_n 0, 1312, 0, 0), (1312, .iload_n 3, 1313, 0, 0), (1313, .iconst 2, 1314, 0, 0), (1314, .iadd, 1315, 0, 0), (1315, .iaload, 1316, 0, 0), (1316, .aload_n 0, 1317, 0, 0), (1317, .iload_n 3, 1318, 0, 0), (1318, .iconst 3, 1319, 0, 0), (1319, .iadd, 1320, 0, 0), (1320, .iaload, 1321, 0, 0), (1321, .aload_n 0, 1322, 0, 0), (1322, .iload_n 3, 1323, 0, 0), (1323, .iconst 4, 1324, 0, 0), (1324, .iadd, 1325, 0, 0), (1325, .iaload, 1326, 0, 0), (1326, .invokevirtual 121, 1329, 285, 4), (1329, .pop, 1330, 0, 0), (1330, .goto 512, 1333, 1842, 0), (1333, .aload_n 1, 1334, 0, 0), (1334, .aload_n 0, 1335, 0, 0), (1335, .iload_n 3, 1336, 0, 0), (1336, .iconst 1, 1337, 0, 0), (1337, .iadd, 1338, 0, 0), (1338, .iaload, 1339, 0, 0), (1339, .aload_n 0, 1340, 0, 0), (1340, .iload_n 3, 1341, 0, 0), (1341, .iconst 2, 1342, 0, 0), (1342, .iadd, 1343, 0, 0), (1343, .iaload, 1344, 0, 0), (1344, .aload_n 0, 1345, 0, 0), (1345, .iload_n 3, 1346, 0, 0), (1346, .iconst 3, 1347, 0, 0), (1347, .iadd, 1348, 0, 0), (1348, .iaload, 1349, 0, 0), (1349, .ifCond .eq 7, 1352, 1356, 0), (1352, .iconst 1, 1353, 0, 0), (1353, .goto 4, 1356, 1357, 0), (1356, .iconst 0, 1357, 0, 0), (1357, .invokevirtual 122, 1360, 27, 3), (1360, .pop, 1361, 0, 0), (1361, .aload_n 2, 1362, 0, 0)]
def qL_law_20 : List zE := [(1362, .aload_n 0, 1363, 0, 0), (1363, .iload_n 3, 1364, 0, 0), (1364, .iconst 1, 1365, 0, 0), (1365, .iadd, 1366, 0, 0), (1366, .iaload, 1367, 0, 0), (1367, .aload_n 0, 1368, 0, 0), (1368, .iload_n 3, 1369, 0, 0), (1369, .iconst 2, 1370, 0, 0), (1370, .iadd, 1371, 0, 0), (1371, .iaload, 1372, 0, 0), (1372, .aload_n 0, 1373, 0, 0), (1373, .iload_n 3, 1374, 0, 0), (1374, .iconst 3, 1375, 0, 0), (1375, .iadd, 1376, 0, 0), (1376, .iaload, 1377, 0, 0), (1377, .ifCond .eq 7, 1380, 1384, 0), (1380, .iconst 1, 1381, 0, 0), (1381, .goto 4, 1384, 1385, 0), (1384, .iconst 0, 1385, 0, 0), (1385, .invokevirtual 125, 1388, 286, 3), (1388, .pop, 1389, 0, 0), (1389, .goto 453, 1392, 1842, 0), (1392, .aload_n 1, 1393, 0, 0), (1393, .aload_n 0, 1394, 0, 0), (1394, .iload_n 3, 1395, 0, 0), (1395, .iconst 1, 1396, 0, 0), (1396, .iadd, 1397, 0, 0), (1397, .iaload, 1398, 0, 0), (1398, .aload_n 0, 1399, 0, 0), (1399, .iload_n 3, 1400, 0, 0), (1400, .iconst 2, 1401, 0, 0), (1401, .iadd, 1402, 0, 0), (1402, .iaload, 1403, 0, 0), (1403, .aload_n 0, 1404, 0, 0), (1404, .iload_n 3, 1405, 0, 0), (1405, .iconst 3, 1406, 0, 0), (1406, .iadd, 1407, 0, 0), (1407, .iaload, 1408, 0, 0), (1408, .ifCond .eq 7, 1411, 1415, 0), (1411, .iconst 1, 1412, 0, 0), (1412, .goto 4, 1415, 1416, 0), (1415, .iconst 0, 1416, 0, 0), (1416, .invokevirtual 126, 1419, 28, 3), (1419, .pop, 1420, 0, 0), (1420, .aload_n 2, 1421, 0, 0), (1421, .aload_n 0, 1422, 0, 0), (1422, .iload_n 3, 1423, 0, 0), (1423, .iconst 1, 1424, 0, 0), (1424, .iadd, 1425, 0, 0), (1425, .iaload, 1426, 0, 0)]
def qL_law_21 : List zE := [(1426, .aload_n 0, 1427, 0, 0), (1427, .iload_n 3, 1428, 0, 0), (1428, .iconst 2, 1429, 0, 0), (1429, .iadd, 1430, 0, 0), (1430, .iaload, 1431, 0, 0), (1431, .aload_n 0, 1432, 0, 0), (1432, .iload_n 3, 1433, 0, 0), (1433, .iconst 3, 1434, 0, 0), (1434, .iadd, 1435, 0, 0), (1435, .iaload, 1436, 0, 0), (1436, .ifCond .eq 7, 1439, 1443, 0), (1439, .iconst 1, 1440, 0, 0), (1440, .goto 4, 1443, 1444, 0), (1443, .iconst 0, 1444, 0, 0), (1444, .invokevirtual 129, 1447, 290, 3), (1447, .pop, 1448, 0, 0), (1448, .goto 394, 1451, 1842, 0), (1451, .aload_n 1, 1452, 0, 0), (1452, .aload_n 0, 1453, 0, 0), (1453, .iload_n 3, 1454, 0, 0), (1454, .iconst 1, 1455, 0, 0), (1455, .iadd, 1456, 0, 0), (1456, .iaload, 1457, 0, 0), (1457, .aload_n 0, 1458, 0, 0), (1458, .iload_n 3, 1459, 0, 0), (1459, .iconst 2, 1460, 0, 0), (1460, .iadd, 1461, 0, 0), (1461, .iaload, 1462, 0, 0), (1462, .aload_n 0, 1463, 0, 0), (1463, .iload_n 3, 1464, 0, 0), (1464, .iconst 3, 1465, 0, 0), (1465, .iadd, 1466, 0, 0), (1466, .iaload, 1467, 0, 0), (1467, .aload_n 0, 1468, 0, 0), (1468, .iload_n 3, 1469, 0, 0), (1469, .iconst 4, 1470, 0, 0), (1470, .iadd, 1471, 0, 0), (1471, .iaload, 1472, 0, 0), (1472, .ifCond .eq 7, 1475, 1479, 0), (1475, .iconst 1, 1476, 0, 0), (1476, .goto 4, 1479, 1480, 0), (1479, .iconst 0, 1480, 0, 0), (1480, .invokevirtual 130, 1483, 29, 4), (1483, .pop, 1484, 0, 0), (1484, .aload_n 2, 1485, 0, 0), (1485, .aload_n 0, 1486, 0, 0), (1486, .iload_n 3, 1487, 0, 0), (1487, .iconst 1, 1488, 0, 0), (1488, .iadd, 1489, 0, 0), (1489, .iaload, 1490, 0, 0)]
def qL_law_22 : List zE := [(1490, .aload_n 0, 1491, 0, 0), (1491, .iload_n 3, 1492, 0, 0), (1492, .iconst 2, 1493, 0, 0), (1493, .iadd, 1494, 0, 0), (1494, .iaload, 1495, 0, 0), (1495, .aload_n 0, 1496, 0, 0), (1496, .iload_n 3, 1497, 0, 0), (1497, .iconst 3, 1498, 0, 0), (1498, .iadd, 1499, 0, 0), (1499, .iaload, 1500, 0, 0), (1500, .aload_n 0, 1501, 0, 0), (1501, .iload_n 3, 1502, 0, 0), (1502, .iconst 4, 1503, 0, 0), (1503, .iadd, 1504, 0, 0), (1504, .iaload, 1505, 0, 0), (1505, .ifCond .eq 7, 1508, 1512, 0), (1508, .iconst 1, 1509, 0, 0), (1509, .goto 4, 1512, 1513, 0), (1512, .iconst 0, 1513, 0, 0), (1513, .invokevirtual 133, 1516, 291, 4), (1516, .pop, 1517, 0, 0), (1517, .goto 325, 1520, 1842, 0), (1520, .aload_n 1, 1521, 0, 0), (1521, .aload_n 0, 1522, 0, 0), (1522, .iload_n 3, 1523, 0, 0), (1523, .iconst 1, 1524, 0, 0), (1524, .iadd, 1525, 0, 0), (1525, .iaload, 1526, 0, 0), (1526, .aload_n 0, 1527, 0, 0), (1527, .iload_n 3, 1528, 0, 0), (1528, .iconst 2, 1529, 0, 0), (1529, .iadd, 1530, 0, 0), (1530, .iaload, 1531, 0, 0), (1531, .aload_n 0, 1532, 0, 0), (1532, .iload_n 3, 1533, 0, 0), (1533, .iconst 3, 1534, 0, 0), (1534, .iadd, 1535, 0, 0), (1535, .iaload, 1536, 0, 0), (1536, .aload_n 0, 1537, 0, 0), (1537, .iload_n 3, 1538, 0, 0), (1538, .iconst 4, 1539, 0, 0), (1539, .iadd, 1540, 0, 0), (1540, .iaload, 1541, 0, 0), (1541, .ifCond .eq 7, 1544, 1548, 0), (1544, .iconst 1, 1545, 0, 0), (1545, .goto 4, 1548, 1549, 0), (1548, .iconst 0, 1549, 0, 0), (1549, .invokevirtual 134, 1552, 30, 4), (1552, .pop, 1553, 0, 0), (1553, .aload_n 2, 1554, 0, 0)]
def qL_law_23 : List zE := [(1554, .aload_n 0, 1555, 0, 0), (1555, .iload_n 3, 1556, 0, 0), (1556, .iconst 1, 1557, 0, 0), (1557, .iadd, 1558, 0, 0), (1558, .iaload, 1559, 0, 0), (1559, .aload_n 0, 1560, 0, 0), (1560, .iload_n 3, 1561, 0, 0), (1561, .iconst 2, 1562, 0, 0), (1562, .iadd, 1563, 0, 0), (1563, .iaload, 1564, 0, 0), (1564, .aload_n 0, 1565, 0, 0), (1565, .iload_n 3, 1566, 0, 0), (1566, .iconst 3, 1567, 0, 0), (1567, .iadd, 1568, 0, 0), (1568, .iaload, 1569, 0, 0), (1569, .aload_n 0, 1570, 0, 0), (1570, .iload_n 3, 1571, 0, 0), (1571, .iconst 4, 1572, 0, 0), (1572, .iadd, 1573, 0, 0), (1573, .iaload, 1574, 0, 0), (1574, .ifCond .eq 7, 1577, 1581, 0), (1577, .iconst 1, 1578, 0, 0), (1578, .goto 4, 1581, 1582, 0), (1581, .iconst 0, 1582, 0, 0), (1582, .invokevirtual 137, 1585, 292, 4), (1585, .pop, 1586, 0, 0), (1586, .goto 256, 1589, 1842, 0), (1589, .aload_n 1, 1590, 0, 0), (1590, .aload_n 0, 1591, 0, 0), (1591, .iload_n 3, 1592, 0, 0), (1592, .iconst 1, 1593, 0, 0), (1593, .iadd, 1594, 0, 0), (1594, .iaload, 1595, 0, 0), (1595, .aload_n 0, 1596, 0, 0), (1596, .iload_n 3, 1597, 0, 0), (1597, .iconst 2, 1598, 0, 0), (1598, .iadd, 1599, 0, 0), (1599, .iaload, 1600, 0, 0), (1600, .aload_n 0, 1601, 0, 0), (1601, .iload_n 3, 1602, 0, 0), (1602, .iconst 3, 1603, 0, 0), (1603, .iadd, 1604, 0, 0), (1604, .iaload, 1605, 0, 0), (1605, .ifCond .eq 7, 1608, 1612, 0), (1608, .iconst 1, 1609, 0, 0), (1609, .goto 4, 1612, 1613, 0), (1612, .iconst 0, 1613, 0, 0), (1613, .invokevirtual 138, 1616, 31, 3), (1616, .pop, 1617, 0, 0), (1617, .aload_n 2, 1618, 0, 0)]
def qL_law_24 : List zE := [(1618, .aload_n 0, 1619, 0, 0), (1619, .iload_n 3, 1620, 0, 0), (1620, .iconst 1, 1621, 0, 0), (1621, .iadd, 1622, 0, 0), (1622, .iaload, 1623, 0, 0), (1623, .aload_n 0, 1624, 0, 0), (1624, .iload_n 3, 1625, 0, 0), (1625, .iconst 2, 1626, 0, 0), (1626, .iadd, 1627, 0, 0), (1627, .iaload, 1628, 0, 0), (1628, .aload_n 0, 1629, 0, 0), (1629, .iload_n 3, 1630, 0, 0), (1630, .iconst 3, 1631, 0, 0), (1631, .iadd, 1632, 0, 0), (1632, .iaload, 1633, 0, 0), (1633, .ifCond .eq 7, 1636, 1640, 0), (1636, .iconst 1, 1637, 0, 0), (1637, .goto 4, 1640, 1641, 0), (1640, .iconst 0, 1641, 0, 0), (1641, .invokevirtual 141, 1644, 293, 3), (1644, .pop, 1645, 0, 0), (1645, .goto 197, 1648, 1842, 0), (1648, .aload_n 1, 1649, 0, 0), (1649, .aload_n 0, 1650, 0, 0), (1650, .iload_n 3, 1651, 0, 0), (1651, .iconst 1, 1652, 0, 0), (1652, .iadd, 1653, 0, 0), (1653, .iaload, 1654, 0, 0), (1654, .aload_n 0, 1655, 0, 0), (1655, .iload_n 3, 1656, 0, 0), (1656, .iconst 2, 1657, 0, 0), (1657, .iadd, 1658, 0, 0), (1658, .iaload, 1659, 0, 0), (1659, .ifCond .eq 7, 1662, 1666, 0), (1662, .iconst 1, 1663, 0, 0), (1663, .goto 4, 1666, 1667, 0), (1666, .iconst 0, 1667, 0, 0), (1667, .invokevirtual 142, 1670, 32, 2), (1670, .pop, 1671, 0, 0), (1671, .aload_n 2, 1672, 0, 0), (1672, .aload_n 0, 1673, 0, 0), (1673, .iload_n 3, 1674, 0, 0), (1674, .iconst 1, 1675, 0, 0), (1675, .iadd, 1676, 0, 0), (1676, .iaload, 1677, 0, 0), (1677, .aload_n 0, 1678, 0, 0), (1678, .iload_n 3, 1679, 0, 0), (1679, .iconst 2, 1680, 0, 0), (1680, .iadd, 1681, 0, 0), (1681, .iaload, 1682, 0, 0)]
def qL_law_25 : List zE := [(1682, .ifCond .eq 7, 1685, 1689, 0), (1685, .iconst 1, 1686, 0, 0), (1686, .goto 4, 1689, 1690, 0), (1689, .iconst 0, 1690, 0, 0), (1690, .invokevirtual 146, 1693, 294, 2), (1693, .pop, 1694, 0, 0), (1694, .goto 148, 1697, 1842, 0), (1697, .aload_n 1, 1698, 0, 0), (1698, .aload_n 0, 1699, 0, 0), (1699, .iload_n 3, 1700, 0, 0), (1700, .iconst 1, 1701, 0, 0), (1701, .iadd, 1702, 0, 0), (1702, .iaload, 1703, 0, 0), (1703, .aload_n 0, 1704, 0, 0), (1704, .iload_n 3, 1705, 0, 0), (1705, .iconst 2, 1706, 0, 0), (1706, .iadd, 1707, 0, 0), (1707, .iaload, 1708, 0, 0), (1708, .aload_n 0, 1709, 0, 0), (1709, .iload_n 3, 1710, 0, 0), (1710, .iconst 3, 1711, 0, 0), (1711, .iadd, 1712, 0, 0), (1712, .iaload, 1713, 0, 0), (1713, .invokevirtual 147, 1716, 33, 3), (1716, .pop, 1717, 0, 0), (1717, .aload_n 2, 1718, 0, 0), (1718, .aload_n 0, 1719, 0, 0), (1719, .iload_n 3, 1720, 0, 0), (1720, .iconst 1, 1721, 0, 0), (1721, .iadd, 1722, 0, 0), (1722, .iaload, 1723, 0, 0), (1723, .aload_n 0, 1724, 0, 0), (1724, .iload_n 3, 1725, 0, 0), (1725, .iconst 2, 1726, 0, 0), (1726, .iadd, 1727, 0, 0), (1727, .iaload, 1728, 0, 0), (1728, .aload_n 0, 1729, 0, 0), (1729, .iload_n 3, 1730, 0, 0), (1730, .iconst 3, 1731, 0, 0), (1731, .iadd, 1732, 0, 0), (1732, .iaload, 1733, 0, 0), (1733, .invokevirtual 150, 1736, 295, 3), (1736, .pop, 1737, 0, 0), (1737, .goto 105, 1740, 1842, 0), (1740, .aload_n 1, 1741, 0, 0), (1741, .aload_n 0, 1742, 0, 0), (1742, .iload_n 3, 1743, 0, 0), (1743, .iconst 1, 1744, 0, 0), (1744, .iadd, 1745, 0, 0), (1745, .iaload, 1746, 0, 0)]
def qL_law_26 : List zE := [(1746, .aload_n 0, 1747, 0, 0), (1747, .iload_n 3, 1748, 0, 0), (1748, .iconst 2, 1749, 0, 0), (1749, .iadd, 1750, 0, 0), (1750, .iaload, 1751, 0, 0), (1751, .invokevirtual 151, 1754, 34, 2), (1754, .pop, 1755, 0, 0), (1755, .aload_n 2, 1756, 0, 0), (1756, .aload_n 0, 1757, 0, 0), (1757, .iload_n 3, 1758, 0, 0), (1758, .iconst 1, 1759, 0, 0), (1759, .iadd, 1760, 0, 0), (1760, .iaload, 1761, 0, 0), (1761, .aload_n 0, 1762, 0, 0), (1762, .iload_n 3, 1763, 0, 0), (1763, .iconst 2, 1764, 0, 0), (1764, .iadd, 1765, 0, 0), (1765, .iaload, 1766, 0, 0), (1766, .invokevirtual 154, 1769, 300, 2), (1769, .pop, 1770, 0, 0), (1770, .goto 72, 1773, 1842, 0), (1773, .aload_n 1, 1774, 0, 0), (1774, .aload_n 0, 1775, 0, 0), (1775, .iload_n 3, 1776, 0, 0), (1776, .iconst 1, 1777, 0, 0), (1777, .iadd, 1778, 0, 0), (1778, .iaload, 1779, 0, 0), (1779, .invokevirtual 155, 1782, 35, 1), (1782, .pop, 1783, 0, 0), (1783, .aload_n 2, 1784, 0, 0), (1784, .aload_n 0, 1785, 0, 0), (1785, .iload_n 3, 1786, 0, 0), (1786, .iconst 1, 1787, 0, 0), (1787, .iadd, 1788, 0, 0), (1788, .iaload, 1789, 0, 0), (1789, .invokevirtual 158, 1792, 301, 1), (1792, .pop, 1793, 0, 0), (1793, .goto 49, 1796, 1842, 0), (1796, .aload_n 1, 1797, 0, 0), (1797, .aload_n 0, 1798, 0, 0), (1798, .iload_n 3, 1799, 0, 0), (1799, .iconst 1, 1800, 0, 0), (1800, .iadd, 1801, 0, 0), (1801, .iaload, 1802, 0, 0), (1802, .invokevirtual 159, 1805, 36, 1), (1805, .pop, 1806, 0, 0), (1806, .aload_n 2, 1807, 0, 0), (1807, .aload_n 0, 1808, 0, 0), (1808, .iload_n 3, 1809, 0, 0), (1809, .iconst 1, 1810, 0, 0)]
def qL_law_27 : List zE := [(1810, .iadd, 1811, 0, 0), (1811, .iaload, 1812, 0, 0), (1812, .invokevirtual 163, 1815, 302, 1), (1815, .pop, 1816, 0, 0), (1816, .goto 26, 1819, 1842, 0), (1819, .aload_n 1, 1820, 0, 0), (1820, .aload_n 0, 1821, 0, 0), (1821, .iload_n 3, 1822, 0, 0), (1822, .iconst 1, 1823, 0, 0), (1823, .iadd, 1824, 0, 0), (1824, .iaload, 1825, 0, 0), (1825, .invokevirtual 164, 1828, 37, 1), (1828, .pop, 1829, 0, 0), (1829, .aload_n 2, 1830, 0, 0), (1830, .aload_n 0, 1831, 0, 0), (1831, .iload_n 3, 1832, 0, 0), (1832, .iconst 1, 1833, 0, 0), (1833, .iadd, 1834, 0, 0), (1834, .iaload, 1835, 0, 0), (1835, .invokevirtual 167, 1838, 303, 1), (1838, .pop, 1839, 0, 0), (1839, .goto 3, 1842, 1842, 0), (1842, .iinc 3 7, 1845, 0, 0), (1845, .goto (-1827), 1848, 18, 0), (1848, .iconst 1, 1849, 0, 0), (1849, .ireturn, 1850, 0, 0)]
def qL_law : List zE := qL_law_0 ++ (qL_law_1 ++ (qL_law_2 ++ (qL_law_3 ++ (qL_law_4 ++ (qL_law_5 ++ (qL_law_6 ++ (qL_law_7 ++ (qL_law_8 ++ (qL_law_9 ++ (qL_law_10 ++ (qL_law_11 ++ (qL_law_12 ++ (qL_law_13 ++ (qL_law_14 ++ (qL_law_15 ++ (qL_law_16 ++ (qL_law_17 ++ (qL_law_18 ++ (qL_law_19 ++ (qL_law_20 ++ (qL_law_21 ++ (qL_law_22 ++ (qL_law_23 ++ (qL_law_24 ++ (qL_law_25 ++ (qL_law_26 ++ (qL_law_27)))))))))))))))))))))))))))
def kL_law : zM := (x, code, 4, some .boolean, 98, qL_law)
def qX11_init : List zE := [(0, .aload_n 0, 1, 0, 0), (1, .invokespecial 1, 4, 0, 99), (4, .aload_n 0, 5, 0, 0), (5, .new 7, 8, 7, 0), (8, .dup, 9, 0, 0), (9, .invokespecial 9, 12, 62, 0), (12, .putfield 10, 15, 10, 0), (15, .aload_n 0, 16, 0, 0), (16, .iconst 3, 17, 0, 0), (17, .anewarray 7, 20, 6, 3), (20, .putfield 16, 23, 10, 1), (23, .aload_n 0, 24, 0, 0), (24, .new 20, 27, 6, 0), (27, .dup, 28, 0, 0), (28, .invokespecial 22, 31, 65, 0), (31, .putfield 23, 34, 10, 2), (34, .aload_n 0, 35, 0, 0), (35, .new 27, 38, 1, 0), (38, .dup, 39, 0, 0), (39, .invokespecial 29, 42, 75, 0), (42, .putfield 30, 45, 10, 3), (45, .aload_n 0, 46, 0, 0), (46, .iconst 2, 47, 0, 0), (47, .anewarray 34, 50, 7, 2), (50, .putfield 36, 53, 10, 4), (53, .aload_n 0, 54, 0, 0), (54, .iconst 2, 55, 0, 0), (55, .anewarray 40, 58, 8, 2), (58, .putfield 42, 61, 10, 5), (61, .aload_n 0, 62, 0, 0), (62, .aconst_null, 63, 0, 0), (63, .putfield 46, 66, 10, 6), (66, .aload_n 0, 67, 0, 0), (67, .aconst_null, 68, 0, 0), (68, .putfield 50, 71, 10, 7), (71, .return_, 72, 0, 0)]
def kX11_init : zM := (⟨"ReadAloud", "<init>", "()V"⟩, prog_1_method_1_code, 1, none, 10, qX11_init)
def qX11_feed : List zE := [(0, .aload_n 0, 1, 0, 0), (1, .getfield 10, 4, 10, 0), (4, .getfield 54, 7, 7, 1), (7, .sipush 580, 10, 0, 0), (10, .if_icmp .le 5, 13, 15, 0), (13, .iconst (-1), 14, 0, 0), (14, .ireturn, 15, 0, 0), (15, .aload_n 0, 16, 0, 0), (16, .getfield 10, 19, 10, 0), (19, .iload_n 1, 20, 0, 0), (20, .invokevirtual 58, 23, 63, 1), (23, .aload_n 0, 24, 0, 0), (24, .getfield 10, 27, 10, 0), (27, .iload_n 2, 28, 0, 0), (28, .invokevirtual 58, 31, 63, 1), (31, .aload_n 0, 32, 0, 0), (32, .getfield 10, 35, 10, 0), (35, .iload_n 3, 36, 0, 0), (36, .invokevirtual 58, 39, 63, 1), (39, .aload_n 0, 40, 0, 0), (40, .getfield 10, 43, 10, 0), (43, .iload 4, 45, 0, 0), (45, .invokevirtual 58, 48, 63, 1), (48, .aload_n 0, 49, 0, 0), (49, .getfield 10, 52, 10, 0), (52, .iload 5, 54, 0, 0), (54, .invokevirtual 58, 57, 63, 1), (57, .aload_n 0, 58, 0, 0), (58, .getfield 10, 61, 10, 0), (61, .getfield 54, 64, 7, 1), (64, .ireturn, 65, 0, 0)]
def kX11_feed : zM := (⟨"ReadAloud", "feed", "(IIIII)I"⟩, prog_1_method_2_code, 6, (some .int), 10, qX11_feed)
def qX11_end : List zE := [(0, .iload_n 1, 1, 0, 0), (1, .ifCond .lt 14, 4, 15, 0), (4, .iload_n 1, 5, 0, 0), (5, .aload_n 0, 6, 0, 0), (6, .getfield 10, 9, 10, 0), (9, .getfield 54, 12, 7, 1), (12, .if_icmp .le 5, 15, 17, 0), (15, .iconst (-1), 16, 0, 0), (16, .ireturn, 17, 0, 0), (17, .aload_n 0, 18, 0, 0), (18, .getfield 10, 21, 10, 0), (21, .iload_n 1, 22, 0, 0), (22, .putfield 54, 25, 7, 1), (25, .iload_n 1, 26, 0, 0), (26, .ireturn, 27, 0, 0)]
def kX11_end : zM := (⟨"ReadAloud", "end", "(I)I"⟩, prog_1_method_3_code, 2, (some .int), 10, qX11_end)
def qX11_text : List zE := [(0, .aload_n 0, 1, 0, 0), (1, .getfield 10, 4, 10, 0), (4, .getfield 54, 7, 7, 1), (7, .istore_n 3, 8, 0, 0), (8, .aload_n 0, 9, 0, 0), (9, .getfield 10, 12, 10, 0), (12, .iconst 0, 13, 0, 0), (13, .putfield 54, 16, 7, 1), (16, .aload_n 0, 17, 0, 0), (17, .getfield 10, 20, 10, 0), (20, .iconst 0, 21, 0, 0), (21, .putfield 62, 24, 7, 2), (24, .aload_n 0, 25, 0, 0), (25, .getfield 10, 28, 10, 0), (28, .iconst (-1), 29, 0, 0), (29, .putfield 65, 32, 7, 3), (32, .iload_n 1, 33, 0, 0), (33, .ifCond .lt 8, 36, 41, 0), (36, .iload_n 1, 37, 0, 0), (37, .iconst 3, 38, 0, 0), (38, .if_icmp .lt 6, 41, 44, 0), (41, .bipush (-2), 43, 0, 0), (43, .ireturn, 44, 0, 0), (44, .aload_n 0, 45, 0, 0), (45, .getfield 10, 48, 10, 0), (48, .getfield 68, 51, 7, 4), (51, .iload_n 1, 52, 0, 0), (52, .iaload, 53, 0, 0), (53, .istore 4, 55, 0, 0), (55, .iload_n 2, 56, 0, 0), (56, .iconst (-1), 57, 0, 0), (57, .if_icmp .ne 12, 60, 69, 0), (60, .iload 4, 62, 0, 0), (62, .iconst 2, 63, 0, 0), (63, .if_icmp .lt 19, 66, 82, 0), (66, .goto 13, 69, 79, 0), (69, .iload_n 2, 70, 0, 0), (70, .ifCond .lt 9, 73, 79, 0), (73, .iload_n 2, 74, 0, 0), (74, .iload 4, 76, 0, 0), (76, .if_icmp .lt 6, 79, 82, 0), (79, .bipush (-2), 81, 0, 0), (81, .ireturn, 82, 0, 0), (82, .iload_n 2, 83, 0, 0), (83, .iconst (-1), 84, 0, 0), (84, .if_icmp .ne 8, 87, 92, 0), (87, .iload 4, 89, 0, 0), (89, .goto 4, 92, 93, 0), (92, .iload_n 2, 93, 0, 0), (93, .istore 5, 95, 0, 0), (95, .aload_n 0, 96, 0, 0), (96, .iload_n 1, 97, 0, 0), (97, .iload 5, 99, 0, 0), (99, .iload_n 3, 100, 0, 0), (100, .invokevirtual 72, 103, 38, 3), (103, .ifCond .ne 33, 106, 136, 0), (106, .aload_n 0, 107, 0, 0), (107, .getfield 10, 110, 10, 0), (110, .aload_n 0, 111, 0, 0), (111, .getfield 23, 114, 10, 2), (114, .getfield 76, 117, 6, 6), (117, .putfield 62, 120, 7, 2), (120, .aload_n 0, 121, 0, 0), (121, .getfield 10, 124, 10, 0), (124, .aload_n 0, 125, 0, 0), (125, .getfield 23, 128, 10, 2), (128, .getfield 77, 131, 6, 7), (131, .putfield 65, 134, 7, 3), (134, .iconst (-1), 135, 0, 0), (135, .ireturn, 136, 0, 0), (136, .aload_n 0, 137, 0, 0), (137, .getfield 10, 140, 10, 0), (140, .getfield 68, 143, 7, 4), (143, .iload_n 1, 144, 0, 0), (144, .iload 4, 146, 0, 0), (146, .iload 5, 148, 0, 0), (148, .iconst 1, 149, 0, 0), (149, .iadd, 150, 0, 0), (150, .invokestatic 78, 153, 0, 100), (153, .iastore, 154, 0, 0), (154, .iload 5, 156, 0, 0), (156, .ireturn, 157, 0, 0)]
def kX11_text : zM := (⟨"ReadAloud", "text", "(II)I"⟩, prog_1_method_4_code, 6, (some .int), 10, qX11_text)
def qX11_fault : List zE := [(0, .iload_n 1, 1, 0, 0), (1, .lookupswitch 43 #[(0, 27), (1, 35)], 28, 0, 0), (28, .aload_n 0, 29, 0, 0), (29, .getfield 10, 32, 10, 0), (32, .getfield 62, 35, 7, 2), (35, .ireturn, 36, 0, 0), (36, .aload_n 0, 37, 0, 0), (37, .getfield 10, 40, 10, 0), (40, .getfield 65, 43, 7, 3), (43, .ireturn, 44, 0, 0), (44, .iconst (-1), 45, 0, 0), (45, .ireturn, 46, 0, 0)]
def kX11_fault : zM := (⟨"ReadAloud", "fault", "(I)I"⟩, prog_1_method_5_code, 2, (some .int), 10, qX11_fault)
def qX11_book : List zE := [(0, .aload_n 0, 1, 0, 0), (1, .iload_n 1, 2, 0, 0), (2, .invokevirtual 84, 5, 39, 1), (5, .astore_n 3, 6, 0, 0), (6, .aload_n 3, 7, 0, 0), (7, .ifnonnull 7, 10, 14, 0), (10, .iconst (-1), 11, 0, 0), (11, .goto 8, 14, 19, 0), (14, .aload_n 3, 15, 0, 0), (15, .iload_n 2, 16, 0, 0), (16, .invokevirtual 88, 19, 98, 1), (19, .ireturn, 20, 0, 0)]
def kX11_book : zM := (⟨"ReadAloud", "book", "(II)I"⟩, prog_1_method_6_code, 4, (some .int), 10, qX11_book)
def qX11_word : List zE := [(0, .iload_n 1, 1, 0, 0), (1, .invokestatic 94, 4, 46, 1), (4, .ifCond .ne 5, 7, 9, 0), (7, .iconst (-1), 8, 0, 0), (8, .ireturn, 9, 0, 0), (9, .iload_n 1, 10, 0, 0), (10, .invokestatic 98, 13, 52, 1), (13, .istore_n 3, 14, 0, 0), (14, .iload_n 2, 15, 0, 0), (15, .iconst (-1), 16, 0, 0), (16, .if_icmp .ne 5, 19, 21, 0), (19, .iload_n 3, 20, 0, 0), (20, .ireturn, 21, 0, 0), (21, .iload_n 2, 22, 0, 0), (22, .ifCond .lt 8, 25, 30, 0), (25, .iload_n 2, 26, 0, 0), (26, .iload_n 3, 27, 0, 0), (27, .if_icmp .lt 7, 30, 34, 0), (30, .iconst (-1), 31, 0, 0), (31, .goto 8, 34, 39, 0), (34, .iload_n 1, 35, 0, 0), (35, .iload_n 2, 36, 0, 0), (36, .invokestatic 101, 39, 56, 2), (39, .ireturn, 40, 0, 0)]
def kX11_word : zM := (⟨"ReadAloud", "word", "(II)I"⟩, prog_1_method_7_code, 4, (some .int), 10, qX11_word)
def qX11_drift : List zE := [(0, .iload_n 1, 1, 0, 0), (1, .invokestatic 94, 4, 46, 1), (4, .ifCond .eq 18, 7, 22, 0), (7, .iload_n 2, 8, 0, 0), (8, .invokestatic 94, 11, 46, 1), (11, .ifCond .eq 11, 14, 22, 0), (14, .iload_n 1, 15, 0, 0), (15, .iload_n 2, 16, 0, 0), (16, .invokestatic 104, 19, 59, 2), (19, .goto 4, 22, 23, 0), (22, .iconst (-1), 23, 0, 0), (23, .ireturn, 24, 0, 0)]
def kX11_drift : zM := (⟨"ReadAloud", "drift", "(II)I"⟩, prog_1_method_8_code, 3, (some .int), 10, qX11_drift)
def qX11_read : List zE := [(0, .aload_n 0, 1, 0, 0), (1, .iload_n 1, 2, 0, 0), (2, .invokevirtual 84, 5, 39, 1), (5, .astore 4, 7, 0, 0), (7, .aload 4, 9, 0, 0), (9, .ifnull 19, 12, 28, 0), (12, .iload_n 2, 13, 0, 0), (13, .invokestatic 94, 16, 46, 1), (16, .ifCond .eq 12, 19, 28, 0), (19, .aload 4, 21, 0, 0), (21, .iload_n 3, 22, 0, 0), (22, .invokevirtual 107, 25, 96, 1), (25, .ifCond .ne 5, 28, 30, 0), (28, .iconst (-1), 29, 0, 0), (29, .ireturn, 30, 0, 0), (30, .aload 4, 32, 0, 0), (32, .iload_n 3, 33, 0, 0), (33, .iload_n 2, 34, 0, 0), (34, .invokevirtual 110, 37, 100, 2), (37, .ireturn, 38, 0, 0)]
def kX11_read : zM := (⟨"ReadAloud", "read", "(III)I"⟩, prog_1_method_9_code, 5, (some .int), 10, qX11_read)
def qX11_deed : List zE := [(0, .aload_n 0, 1, 0, 0), (1, .iload_n 1, 2, 0, 0), (2, .invokevirtual 113, 5, 40, 1), (5, .astore 4, 7, 0, 0), (7, .aload 4, 9, 0, 0), (9, .ifnonnull 8, 12, 17, 0), (12, .bipush (-2), 14, 0, 0), (14, .goto 10, 17, 24, 0), (17, .aload 4, 19, 0, 0), (19, .iload_n 2, 20, 0, 0), (20, .iload_n 3, 21, 0, 0), (21, .invokevirtual 117, 24, 116, 2), (24, .ireturn, 25, 0, 0)]
def kX11_deed : zM := (⟨"ReadAloud", "deed", "(III)I"⟩, prog_1_method_10_code, 5, (some .int), 10, qX11_deed)
def qX11_stop : List zE := [(0, .aload_n 0, 1, 0, 0), (1, .iload_n 1, 2, 0, 0), (2, .invokevirtual 84, 5, 39, 1), (5, .astore_n 3, 6, 0, 0), (6, .aload_n 0, 7, 0, 0), (7, .iload_n 2, 8, 0, 0), (8, .invokevirtual 113, 11, 40, 1), (11, .astore 4, 13, 0, 0), (13, .aload_n 3, 14, 0, 0), (14, .ifnull 8, 17, 22, 0), (17, .aload 4, 19, 0, 0), (19, .ifnonnull 5, 22, 24, 0), (22, .iconst (-1), 23, 0, 0), (23, .ireturn, 24, 0, 0), (24, .aload_n 0, 25, 0, 0), (25, .getfield 30, 28, 10, 3), (28, .aload_n 3, 29, 0, 0), (29, .invokevirtual 121, 32, 76, 1), (32, .aload_n 0, 33, 0, 0), (33, .getfield 30, 36, 10, 3), (36, .aload 4, 38, 0, 0), (38, .aload 4, 40, 0, 0), (40, .getfield 125, 43, 9, 0), (43, .invokevirtual 128, 46, 77, 2), (46, .ireturn, 47, 0, 0)]
def kX11_stop : zM := (⟨"ReadAloud", "stop", "(II)I"⟩, prog_1_method_11_code, 5, (some .int), 10, qX11_stop)
def qX11_state : List zE := [(0, .aload_n 0, 1, 0, 0), (1, .iload_n 1, 2, 0, 0), (2, .invokevirtual 84, 5, 39, 1), (5, .astore 5, 7, 0, 0), (7, .aload_n 0, 8, 0, 0), (8, .iload_n 2, 9, 0, 0), (9, .invokevirtual 113, 12, 40, 1), (12, .astore 6, 14, 0, 0), (14, .aload 5, 16, 0, 0), (16, .ifnull 21, 19, 37, 0), (19, .aload 6, 21, 0, 0), (21, .ifnull 16, 24, 37, 0), (24, .iload_n 3, 25, 0, 0), (25, .ifCond .lt 12, 28, 37, 0), (28, .iload_n 3, 29, 0, 0), (29, .aload 6, 31, 0, 0), (31, .getfield 125, 34, 9, 0), (34, .if_icmp .le 6, 37, 40, 0), (37, .bipush (-2), 39, 0, 0), (39, .ireturn, 40, 0, 0), (40, .aload_n 0, 41, 0, 0), (41, .getfield 30, 44, 10, 3), (44, .aload 5, 46, 0, 0), (46, .invokevirtual 121, 49, 76, 1), (49, .aload_n 0, 50, 0, 0), (50, .getfield 30, 53, 10, 3), (53, .aload 6, 55, 0, 0), (55, .iload_n 3, 56, 0, 0), (56, .invokevirtual 128, 59, 77, 2), (59, .iload_n 3, 60, 0, 0), (60, .if_icmp .ge 8, 63, 68, 0), (63, .bipush (-2), 65, 0, 0), (65, .goto 12, 68, 77, 0), (68, .aload_n 0, 69, 0, 0), (69, .getfield 30, 72, 10, 3), (72, .iload 4, 74, 0, 0), (74, .invokevirtual 132, 77, 83, 1), (77, .ireturn, 78, 0, 0)]
def kX11_state : zM := (⟨"ReadAloud", "state", "(IIII)I"⟩, prog_1_method_12_code, 7, (some .int), 10, qX11_state)
def qX11_making : List zE := [(0, .aload_n 0, 1, 0, 0), (1, .iload_n 1, 2, 0, 0), (2, .invokevirtual 133, 5, 42, 1), (5, .astore 5, 7, 0, 0), (7, .aload 5, 9, 0, 0), (9, .ifnull 17, 12, 26, 0), (12, .iload_n 2, 13, 0, 0), (13, .invokestatic 94, 16, 46, 1), (16, .ifCond .eq 10, 19, 26, 0), (19, .iload_n 3, 20, 0, 0), (20, .invokestatic 94, 23, 46, 1), (23, .ifCond .ne 5, 26, 28, 0), (26, .iconst (-1), 27, 0, 0), (27, .ireturn, 28, 0, 0), (28, .aload_n 0, 29, 0, 0), (29, .iconst 0, 30, 0, 0), (30, .invokevirtual 137, 33, 43, 1), (33, .astore 6, 35, 0, 0), (35, .aload 6, 37, 0, 0), (37, .aload 5, 39, 0, 0), (39, .iload_n 2, 40, 0, 0), (40, .aload 5, 42, 0, 0), (42, .invokevirtual 141, 45, 126, 0), (45, .iload_n 3, 46, 0, 0), (46, .invokevirtual 145, 49, 137, 4), (49, .aload 6, 51, 0, 0), (51, .getfield 149, 54, 8, 2), (54, .iload_n 3, 55, 0, 0), (55, .iaload, 56, 0, 0), (56, .istore 7, 58, 0, 0), (58, .iload 4, 60, 0, 0), (60, .iconst (-1), 61, 0, 0), (61, .if_icmp .eq 9, 64, 70, 0), (64, .iload 7, 66, 0, 0), (66, .iconst (-1), 67, 0, 0), (67, .if_icmp .ne 6, 70, 73, 0), (70, .iload 7, 72, 0, 0), (72, .ireturn, 73, 0, 0), (73, .iload 4, 75, 0, 0), (75, .ifCond .lt 10, 78, 85, 0), (78, .iload 4, 80, 0, 0), (80, .iload 7, 82, 0, 0), (82, .if_icmp .lt 7, 85, 89, 0), (85, .iconst (-1), 86, 0, 0), (86, .goto 11, 89, 97, 0), (89, .aload 6, 91, 0, 0), (91, .iload_n 3, 92, 0, 0), (92, .iload 4, 94, 0, 0), (94, .invokevirtual 152, 97, 139, 2), (97, .ireturn, 98, 0, 0)]
def kX11_making : zM := (⟨"ReadAloud", "making", "(IIII)I"⟩, prog_1_method_13_code, 8, (some .int), 10, qX11_making)
def qX11_ring : List zE := [(0, .aload_n 0, 1, 0, 0), (1, .iload_n 1, 2, 0, 0), (2, .invokevirtual 133, 5, 42, 1), (5, .astore_n 3, 6, 0, 0), (6, .aload_n 3, 7, 0, 0), (7, .ifnull 10, 10, 17, 0), (10, .iload_n 2, 11, 0, 0), (11, .invokestatic 94, 14, 46, 1), (14, .ifCond .ne 5, 17, 19, 0), (17, .iconst (-1), 18, 0, 0), (18, .ireturn, 19, 0, 0), (19, .aload_n 0, 20, 0, 0), (20, .iconst 0, 21, 0, 0), (21, .invokevirtual 137, 24, 43, 1), (24, .astore 4, 26, 0, 0), (26, .aload 4, 28, 0, 0), (28, .aload_n 3, 29, 0, 0), (29, .iload_n 2, 30, 0, 0), (30, .aload_n 3, 31, 0, 0), (31, .invokevirtual 141, 34, 126, 0), (34, .iconst (-1), 35, 0, 0), (35, .invokevirtual 145, 38, 137, 4), (38, .aload 4, 40, 0, 0), (40, .aload_n 3, 41, 0, 0), (41, .iload_n 2, 42, 0, 0), (42, .invokevirtual 155, 45, 140, 2), (45, .ireturn, 46, 0, 0)]
def kX11_ring : zM := (⟨"ReadAloud", "ring", "(II)I"⟩, prog_1_method_14_code, 5, (some .int), 10, qX11_ring)
def qX11_reach : List zE := [(0, .aload_n 0, 1, 0, 0), (1, .iload_n 1, 2, 0, 0), (2, .invokevirtual 133, 5, 42, 1), (5, .astore 4, 7, 0, 0), (7, .aload 4, 9, 0, 0), (9, .ifnull 10, 12, 19, 0), (12, .iload_n 2, 13, 0, 0), (13, .invokestatic 94, 16, 46, 1), (16, .ifCond .ne 5, 19, 21, 0), (19, .iconst (-1), 20, 0, 0), (20, .ireturn, 21, 0, 0), (21, .aload_n 0, 22, 0, 0), (22, .iconst 0, 23, 0, 0), (23, .invokevirtual 137, 26, 43, 1), (26, .astore 5, 28, 0, 0), (28, .aload 5, 30, 0, 0), (30, .aload 4, 32, 0, 0), (32, .iload_n 2, 33, 0, 0), (33, .aload 4, 35, 0, 0), (35, .invokevirtual 141, 38, 126, 0), (38, .iconst (-1), 39, 0, 0), (39, .invokevirtual 145, 42, 137, 4), (42, .iload_n 3, 43, 0, 0), (43, .ifCond .eq 11, 46, 54, 0), (46, .aload 5, 48, 0, 0), (48, .invokevirtual 159, 51, 141, 0), (51, .goto 8, 54, 59, 0), (54, .aload 5, 56, 0, 0), (56, .getfield 162, 59, 8, 0), (59, .ireturn, 60, 0, 0)]
def kX11_reach : zM := (⟨"ReadAloud", "reach", "(IIZ)I"⟩, prog_1_method_15_code, 6, (some .int), 10, qX11_reach)
def qX11_sound : List zE := [(0, .aload_n 0, 1, 0, 0), (1, .iload_n 1, 2, 0, 0), (2, .invokevirtual 133, 5, 42, 1), (5, .astore_n 3, 6, 0, 0), (6, .aload_n 3, 7, 0, 0), (7, .ifnull 14, 10, 21, 0), (10, .aload_n 3, 11, 0, 0), (11, .getfield 165, 14, 3, 0), (14, .iload_n 2, 15, 0, 0), (15, .invokevirtual 169, 18, 97, 1), (18, .ifCond .ne 7, 21, 25, 0), (21, .iconst (-1), 22, 0, 0), (22, .goto 8, 25, 30, 0), (25, .aload_n 3, 26, 0, 0), (26, .iload_n 2, 27, 0, 0), (27, .invokevirtual 172, 30, 129, 1), (30, .ireturn, 31, 0, 0)]
def kX11_sound : zM := (⟨"ReadAloud", "sound", "(II)I"⟩, prog_1_method_16_code, 4, (some .int), 10, qX11_sound)
def qX11_like : List zE := [(0, .aload_n 0, 1, 0, 0), (1, .iload_n 1, 2, 0, 0), (2, .invokevirtual 133, 5, 42, 1), (5, .astore 4, 7, 0, 0), (7, .aload 4, 9, 0, 0), (9, .ifnull 27, 12, 36, 0), (12, .aload 4, 14, 0, 0), (14, .getfield 165, 17, 3, 0), (17, .iload_n 2, 18, 0, 0), (18, .invokevirtual 107, 21, 96, 1), (21, .ifCond .eq 15, 24, 36, 0), (24, .aload 4, 26, 0, 0), (26, .getfield 165, 29, 3, 0), (29, .iload_n 3, 30, 0, 0), (30, .invokevirtual 107, 33, 96, 1), (33, .ifCond .ne 5, 36, 38, 0), (36, .iconst (-1), 37, 0, 0), (37, .ireturn, 38, 0, 0), (38, .aload 4, 40, 0, 0), (40, .iload_n 2, 41, 0, 0), (41, .iload_n 3, 42, 0, 0), (42, .invokevirtual 175, 45, 130, 2), (45, .ireturn, 46, 0, 0)]
def kX11_like : zM := (⟨"ReadAloud", "like", "(III)I"⟩, prog_1_method_17_code, 5, (some .int), 10, qX11_like)
def qX11_orbits : List zE := [(0, .aload_n 0, 1, 0, 0), (1, .iload_n 1, 2, 0, 0), (2, .invokevirtual 133, 5, 42, 1), (5, .astore 4, 7, 0, 0), (7, .aload 4, 9, 0, 0), (9, .ifnull 25, 12, 34, 0), (12, .aload 4, 14, 0, 0), (14, .getfield 165, 17, 3, 0), (17, .iload_n 2, 18, 0, 0), (18, .invokevirtual 107, 21, 96, 1), (21, .ifCond .eq 13, 24, 34, 0), (24, .iload_n 3, 25, 0, 0), (25, .ifCond .lt 9, 28, 34, 0), (28, .iload_n 3, 29, 0, 0), (29, .bipush 6, 31, 0, 0), (31, .if_icmp .lt 5, 34, 36, 0), (34, .iconst (-1), 35, 0, 0), (35, .ireturn, 36, 0, 0), (36, .aload_n 0, 37, 0, 0), (37, .invokevirtual 180, 40, 45, 0), (40, .astore 5, 42, 0, 0), (42, .aload 5, 44, 0, 0), (44, .aload 4, 46, 0, 0), (46, .iload_n 2, 47, 0, 0), (47, .invokevirtual 184, 50, 170, 2), (50, .aload 5, 52, 0, 0), (52, .getfield 188, 55, 4, 0), (55, .iload_n 3, 56, 0, 0), (56, .iaload, 57, 0, 0), (57, .ireturn, 58, 0, 0)]
def kX11_orbits : zM := (⟨"ReadAloud", "orbits", "(III)I"⟩, prog_1_method_18_code, 6, (some .int), 10, qX11_orbits)
def qX11_rota : List zE := [(0, .aload_n 0, 1, 0, 0), (1, .iload_n 1, 2, 0, 0), (2, .invokevirtual 133, 5, 42, 1), (5, .astore 4, 7, 0, 0), (7, .aload 4, 9, 0, 0), (9, .ifnull 22, 12, 31, 0), (12, .iload_n 2, 13, 0, 0), (13, .invokestatic 191, 16, 48, 1), (16, .ifCond .eq 15, 19, 31, 0), (19, .iload_n 2, 20, 0, 0), (20, .ifCond .le 13, 23, 33, 0), (23, .aload 4, 25, 0, 0), (25, .invokevirtual 141, 28, 126, 0), (28, .ifCond .ne 5, 31, 33, 0), (31, .iconst (-1), 32, 0, 0), (32, .ireturn, 33, 0, 0), (33, .iload_n 3, 34, 0, 0), (34, .bipush 10, 36, 0, 0), (36, .if_icmp .lt 15, 39, 51, 0), (39, .iload_n 3, 40, 0, 0), (40, .bipush 10, 42, 0, 0), (42, .iload_n 2, 43, 0, 0), (43, .iadd, 44, 0, 0), (44, .if_icmp .ge 7, 47, 51, 0), (47, .iconst 1, 48, 0, 0), (48, .goto 4, 51, 52, 0), (51, .iconst 0, 52, 0, 0), (52, .istore 5, 54, 0, 0), (54, .iload_n 3, 55, 0, 0), (55, .ifCond .eq 15, 58, 70, 0), (58, .iload_n 3, 59, 0, 0), (59, .iconst 1, 60, 0, 0), (60, .if_icmp .eq 10, 63, 70, 0), (63, .iload 5, 65, 0, 0), (65, .ifCond .ne 5, 68, 70, 0), (68, .iconst (-1), 69, 0, 0), (69, .ireturn, 70, 0, 0), (70, .aload_n 0, 71, 0, 0), (71, .invokevirtual 194, 74, 44, 0), (74, .astore 6, 76, 0, 0), (76, .aload 6, 78, 0, 0), (78, .invokevirtual 198, 81, 146, 0), (81, .aload 6, 83, 0, 0), (83, .aload 4, 85, 0, 0), (85, .iload_n 2, 86, 0, 0), (86, .aload 4, 88, 0, 0), (88, .invokevirtual 141, 91, 126, 0), (91, .aload 4, 93, 0, 0), (93, .invokevirtual 141, 96, 126, 0), (96, .invokevirtual 203, 99, 149, 4), (99, .aload 6, 101, 0, 0), (101, .invokevirtual 206, 104, 154, 0), (104, .iload 5, 106, 0, 0), (106, .ifCond .ne 19, 109, 125, 0), (109, .aload 6, 111, 0, 0), (111, .iload_n 3, 112, 0, 0), (112, .iconst 1, 113, 0, 0), (113, .if_icmp .ne 7, 116, 120, 0), (116, .iconst 1, 117, 0, 0), (117, .goto 4, 120, 121, 0), (120, .iconst 0, 121, 0, 0), (121, .invokevirtual 209, 124, 162, 1), (124, .ireturn, 125, 0, 0), (125, .aload 6, 127, 0, 0), (127, .iconst 0, 128, 0, 0), (128, .iconst 0, 129, 0, 0), (129, .invokevirtual 213, 132, 157, 2), (132, .aload 6, 134, 0, 0), (134, .iload_n 3, 135, 0, 0), (135, .bipush 10, 137, 0, 0), (137, .isub, 138, 0, 0), (138, .invokevirtual 217, 141, 159, 1), (141, .ireturn, 142, 0, 0)]
def kX11_rota : zM := (⟨"ReadAloud", "rota", "(III)I"⟩, prog_1_method_19_code, 7, (some .int), 10, qX11_rota)
def qX11_mean : List zE := [(0, .aload_n 0, 1, 0, 0), (1, .iload_n 1, 2, 0, 0), (2, .invokevirtual 133, 5, 42, 1), (5, .astore 4, 7, 0, 0), (7, .aload 4, 9, 0, 0), (9, .ifnull 22, 12, 31, 0), (12, .iload_n 2, 13, 0, 0), (13, .invokestatic 191, 16, 48, 1), (16, .ifCond .eq 15, 19, 31, 0), (19, .iload_n 2, 20, 0, 0), (20, .ifCond .le 15, 23, 35, 0), (23, .aload 4, 25, 0, 0), (25, .invokevirtual 141, 28, 126, 0), (28, .ifCond .ne 7, 31, 35, 0), (31, .ldc2_w 220, 34, 18446744073709551615, 0), (34, .lreturn, 35, 0, 0), (35, .aload_n 0, 36, 0, 0), (36, .invokevirtual 194, 39, 44, 0), (39, .astore 5, 41, 0, 0), (41, .aload 5, 43, 0, 0), (43, .invokevirtual 198, 46, 146, 0), (46, .aload 5, 48, 0, 0), (48, .aload 4, 50, 0, 0), (50, .iload_n 2, 51, 0, 0), (51, .aload 4, 53, 0, 0), (53, .invokevirtual 141, 56, 126, 0), (56, .aload 4, 58, 0, 0), (58, .invokevirtual 141, 61, 126, 0), (61, .invokevirtual 203, 64, 149, 4), (64, .aload 5, 66, 0, 0), (66, .invokevirtual 206, 69, 154, 0), (69, .aload 5, 71, 0, 0), (71, .invokevirtual 222, 74, 163, 0), (74, .lstore 6, 76, 0, 0), (76, .aload 5, 78, 0, 0), (78, .invokevirtual 226, 81, 164, 0), (81, .i2l, 82, 0, 0), (82, .lstore 8, 84, 0, 0), (84, .lload 6, 86, 0, 0), (86, .lload 8, 88, 0, 0), (88, .invokestatic 229, 91, 50, 2), (91, .lstore 10, 93, 0, 0), (93, .lload 10, 95, 0, 0), (95, .lconst 0, 96, 0, 0), (96, .lcmp, 97, 0, 0), (97, .ifCond .ne 7, 100, 104, 0), (100, .ldc2_w 220, 103, 18446744073709551615, 0), (103, .lreturn, 104, 0, 0), (104, .iload_n 3, 105, 0, 0), (105, .ifCond .eq 11, 108, 116, 0), (108, .lload 8, 110, 0, 0), (110, .lload 10, 112, 0, 0), (112, .ldiv, 113, 0, 0), (113, .goto 8, 116, 121, 0), (116, .lload 6, 118, 0, 0), (118, .lload 10, 120, 0, 0), (120, .ldiv, 121, 0, 0), (121, .lreturn, 122, 0, 0)]
def kX11_mean : zM := (⟨"ReadAloud", "mean", "(IIZ)J"⟩, prog_1_method_20_code, 12, (some .long), 10, qX11_mean)
def qX11_elders : List zE := [(0, .aload_n 0, 1, 0, 0), (1, .iload_n 1, 2, 0, 0), (2, .invokevirtual 133, 5, 42, 1), (5, .astore 5, 7, 0, 0), (7, .aload 5, 9, 0, 0), (9, .ifnull 17, 12, 26, 0), (12, .iload_n 2, 13, 0, 0), (13, .invokestatic 94, 16, 46, 1), (16, .ifCond .eq 10, 19, 26, 0), (19, .iload_n 3, 20, 0, 0), (20, .invokestatic 191, 23, 48, 1), (23, .ifCond .ne 6, 26, 29, 0), (26, .bipush (-2), 28, 0, 0), (28, .ireturn, 29, 0, 0), (29, .aload 5, 31, 0, 0), (31, .iload_n 2, 32, 0, 0), (32, .iload_n 3, 33, 0, 0), (33, .invokevirtual 233, 36, 131, 2), (36, .iload 4, 38, 0, 0), (38, .ifCond .eq 11, 41, 49, 0), (41, .aload 5, 43, 0, 0), (43, .invokevirtual 236, 46, 135, 0), (46, .goto 8, 49, 54, 0), (49, .aload 5, 51, 0, 0), (51, .invokevirtual 239, 54, 134, 0), (54, .ireturn, 55, 0, 0)]
def kX11_elders : zM := (⟨"ReadAloud", "elders", "(IIIZ)I"⟩, prog_1_method_21_code, 6, (some .int), 10, qX11_elders)
def qX11_play : List zE := [(0, .aload_n 0, 1, 0, 0), (1, .iload_n 1, 2, 0, 0), (2, .invokevirtual 133, 5, 42, 1), (5, .astore 7, 7, 0, 0), (7, .aload 7, 9, 0, 0), (9, .ifnull 17, 12, 26, 0), (12, .iload_n 2, 13, 0, 0), (13, .invokestatic 191, 16, 48, 1), (16, .ifCond .eq 10, 19, 26, 0), (19, .iload_n 3, 20, 0, 0), (20, .invokestatic 242, 23, 47, 1), (23, .ifCond .ne 5, 26, 28, 0), (26, .iconst (-1), 27, 0, 0), (27, .ireturn, 28, 0, 0), (28, .aload 7, 30, 0, 0), (30, .getfield 165, 33, 3, 0), (33, .iload 4, 35, 0, 0), (35, .invokevirtual 169, 38, 97, 1), (38, .ifCond .eq 16, 41, 54, 0), (41, .aload 7, 43, 0, 0), (43, .getfield 165, 46, 3, 0), (46, .iload 5, 48, 0, 0), (48, .invokevirtual 169, 51, 97, 1), (51, .ifCond .ne 5, 54, 56, 0), (54, .iconst (-1), 55, 0, 0), (55, .ireturn, 56, 0, 0), (56, .iload 4, 58, 0, 0), (58, .ifCond .eq 22, 61, 80, 0), (61, .iload 5, 63, 0, 0), (63, .ifCond .ne 8, 66, 71, 0), (66, .iload_n 2, 67, 0, 0), (67, .iconst 1, 68, 0, 0), (68, .if_icmp .ne 12, 71, 80, 0), (71, .iload 6, 73, 0, 0), (73, .ifCond .eq 9, 76, 82, 0), (76, .iload_n 2, 77, 0, 0), (77, .ifCond .ne 5, 80, 82, 0), (80, .iconst (-1), 81, 0, 0), (81, .ireturn, 82, 0, 0), (82, .aload_n 0, 83, 0, 0), (83, .invokevirtual 194, 86, 44, 0), (86, .astore 8, 88, 0, 0), (88, .aload 8, 90, 0, 0), (90, .invokevirtual 198, 93, 146, 0), (93, .aload 8, 95, 0, 0), (95, .aload 7, 97, 0, 0), (97, .iload_n 2, 98, 0, 0), (98, .iload 4, 100, 0, 0), (100, .iload 5, 102, 0, 0), (102, .invokevirtual 203, 105, 149, 4), (105, .aload 8, 107, 0, 0), (107, .iload_n 3, 108, 0, 0), (108, .invokevirtual 245, 111, 155, 1), (111, .aload 8, 113, 0, 0), (113, .iconst 1, 114, 0, 0), (114, .iconst 0, 115, 0, 0), (115, .invokevirtual 213, 118, 157, 2), (118, .iload 6, 120, 0, 0), (120, .ifCond .eq 12, 123, 132, 0), (123, .aload 8, 125, 0, 0), (125, .iconst 0, 126, 0, 0), (126, .invokevirtual 217, 129, 159, 1), (129, .goto 8, 132, 137, 0), (132, .aload 8, 134, 0, 0), (134, .invokevirtual 248, 137, 161, 0), (137, .ireturn, 138, 0, 0)]
def kX11_play : zM := (⟨"ReadAloud", "play", "(IIIIIZ)I"⟩, prog_1_method_22_code, 9, (some .int), 10, qX11_play)
def qX11_fact : List zE := [(0, .aload_n 0, 1, 0, 0), (1, .iload_n 1, 2, 0, 0), (2, .invokevirtual 251, 5, 41, 1), (5, .astore 4, 7, 0, 0), (7, .aload 4, 9, 0, 0), (9, .ifnonnull 8, 12, 17, 0), (12, .bipush (-2), 14, 0, 0), (14, .goto 10, 17, 24, 0), (17, .aload 4, 19, 0, 0), (19, .iload_n 2, 20, 0, 0), (20, .iload_n 3, 21, 0, 0), (21, .invokevirtual 255, 24, 123, 2), (24, .ireturn, 25, 0, 0)]
def kX11_fact : zM := (⟨"ReadAloud", "fact", "(III)I"⟩, prog_1_method_23_code, 5, (some .int), 10, qX11_fact)
def qX11_fits : List zE := [(0, .aload_n 0, 1, 0, 0), (1, .iload_n 1, 2, 0, 0), (2, .invokevirtual 133, 5, 42, 1), (5, .astore 5, 7, 0, 0), (7, .aload_n 0, 8, 0, 0), (8, .iload_n 2, 9, 0, 0), (9, .invokevirtual 251, 12, 41, 1), (12, .astore 6, 14, 0, 0), (14, .aload 5, 16, 0, 0), (16, .ifnull 29, 19, 45, 0), (19, .aload 6, 21, 0, 0), (21, .ifnull 24, 24, 45, 0), (24, .iload_n 3, 25, 0, 0), (25, .invokestatic 191, 28, 48, 1), (28, .ifCond .eq 17, 31, 45, 0), (31, .iload 4, 33, 0, 0), (33, .iconst (-1), 34, 0, 0), (34, .if_icmp .eq 13, 37, 47, 0), (37, .iload 4, 39, 0, 0), (39, .invokestatic 94, 42, 46, 1), (42, .ifCond .ne 5, 45, 47, 0), (45, .iconst (-1), 46, 0, 0), (46, .ireturn, 47, 0, 0), (47, .aload_n 0, 48, 0, 0), (48, .invokevirtual 194, 51, 44, 0), (51, .astore 7, 53, 0, 0), (53, .aload 7, 55, 0, 0), (55, .aload 6, 57, 0, 0), (57, .invokevirtual 258, 60, 147, 1), (60, .aload 7, 62, 0, 0), (62, .aload 5, 64, 0, 0), (64, .iload_n 3, 65, 0, 0), (65, .aload 5, 67, 0, 0), (67, .invokevirtual 141, 70, 126, 0), (70, .aload 5, 72, 0, 0), (72, .invokevirtual 141, 75, 126, 0), (75, .invokevirtual 203, 78, 149, 4), (78, .iload 4, 80, 0, 0), (80, .iconst (-1), 81, 0, 0), (81, .if_icmp .ne 11, 84, 92, 0), (84, .aload 7, 86, 0, 0), (86, .invokevirtual 226, 89, 164, 0), (89, .goto 10, 92, 99, 0), (92, .aload 7, 94, 0, 0), (94, .iload 4, 96, 0, 0), (96, .invokevirtual 262, 99, 165, 1), (99, .ireturn, 100, 0, 0)]
def kX11_fits : zM := (⟨"ReadAloud", "fits", "(IIII)I"⟩, prog_1_method_24_code, 8, (some .int), 10, qX11_fits)
def qX11_sure : List zE := [(0, .aload_n 0, 1, 0, 0), (1, .iload_n 1, 2, 0, 0), (2, .invokevirtual 133, 5, 42, 1), (5, .astore 5, 7, 0, 0), (7, .aload_n 0, 8, 0, 0), (8, .iload_n 2, 9, 0, 0), (9, .invokevirtual 251, 12, 41, 1), (12, .astore 6, 14, 0, 0), (14, .aload 5, 16, 0, 0), (16, .ifnull 33, 19, 49, 0), (19, .aload 6, 21, 0, 0), (21, .ifnull 28, 24, 49, 0), (24, .iload_n 3, 25, 0, 0), (25, .invokestatic 191, 28, 48, 1), (28, .ifCond .eq 21, 31, 49, 0), (31, .iload 4, 33, 0, 0), (33, .iconst (-1), 34, 0, 0), (34, .if_icmp .lt 15, 37, 49, 0), (37, .iload 4, 39, 0, 0), (39, .iload_n 3, 40, 0, 0), (40, .if_icmp .lt 11, 43, 51, 0), (43, .iload 4, 45, 0, 0), (45, .iconst (-1), 46, 0, 0), (46, .if_icmp .eq 5, 49, 51, 0), (49, .iconst (-1), 50, 0, 0), (50, .ireturn, 51, 0, 0), (51, .aload_n 0, 52, 0, 0), (52, .invokevirtual 194, 55, 44, 0), (55, .astore 7, 57, 0, 0), (57, .aload 7, 59, 0, 0), (59, .aload 6, 61, 0, 0), (61, .invokevirtual 258, 64, 147, 1), (64, .aload 7, 66, 0, 0), (66, .aload 5, 68, 0, 0), (68, .iload_n 3, 69, 0, 0), (69, .aload 5, 71, 0, 0), (71, .invokevirtual 141, 74, 126, 0), (74, .aload 5, 76, 0, 0), (76, .invokevirtual 141, 79, 126, 0), (79, .invokevirtual 203, 82, 149, 4), (82, .aload 7, 84, 0, 0), (84, .invokevirtual 226, 87, 164, 0), (87, .ifCond .ne 5, 90, 92, 0), (90, .iconst (-1), 91, 0, 0), (91, .ireturn, 92, 0, 0), (92, .aload 7, 94, 0, 0), (94, .invokevirtual 265, 97, 156, 0), (97, .aload 7, 99, 0, 0), (99, .iconst 2, 100, 0, 0), (100, .iconst 2, 101, 0, 0), (101, .invokevirtual 213, 104, 157, 2), (104, .iload 4, 106, 0, 0), (106, .iconst (-1), 107, 0, 0), (107, .if_icmp .ne 11, 110, 118, 0), (110, .aload 7, 112, 0, 0), (112, .invokevirtual 268, 115, 166, 0), (115, .goto 10, 118, 125, 0), (118, .aload 7, 120, 0, 0), (120, .iload 4, 122, 0, 0), (122, .invokevirtual 271, 125, 167, 1), (125, .ireturn, 126, 0, 0)]
def kX11_sure : zM := (⟨"ReadAloud", "sure", "(IIII)I"⟩, prog_1_method_25_code, 8, (some .int), 10, qX11_sure)
def qX11_drawn : List zE := [(0, .aload_n 0, 1, 0, 0), (1, .iload_n 1, 2, 0, 0), (2, .invokevirtual 84, 5, 39, 1), (5, .astore 5, 7, 0, 0), (7, .aload 5, 9, 0, 0), (9, .ifnull 13, 12, 22, 0), (12, .iload_n 3, 13, 0, 0), (13, .ifCond .lt 9, 16, 22, 0), (16, .iload_n 3, 17, 0, 0), (17, .bipush 60, 19, 0, 0), (19, .if_icmp .le 6, 22, 25, 0), (22, .bipush (-2), 24, 0, 0), (24, .ireturn, 25, 0, 0), (25, .aload_n 0, 26, 0, 0), (26, .getfield 30, 29, 10, 3), (29, .aload 5, 31, 0, 0), (31, .invokevirtual 121, 34, 76, 1), (34, .aload_n 0, 35, 0, 0), (35, .getfield 30, 38, 10, 3), (38, .iload_n 2, 39, 0, 0), (39, .iload_n 3, 40, 0, 0), (40, .invokevirtual 274, 43, 81, 2), (43, .aload_n 0, 44, 0, 0), (44, .getfield 30, 47, 10, 3), (47, .iload 4, 49, 0, 0), (49, .invokevirtual 132, 52, 83, 1), (52, .ireturn, 53, 0, 0)]
def kX11_drawn : zM := (⟨"ReadAloud", "drawn", "(IIII)I"⟩, prog_1_method_26_code, 6, (some .int), 10, qX11_drawn)
def qX11_kinship : List zE := [(0, .aload_n 0, 1, 0, 0), (1, .iload_n 1, 2, 0, 0), (2, .invokevirtual 84, 5, 39, 1), (5, .astore 4, 7, 0, 0), (7, .aload 4, 9, 0, 0), (9, .ifnull 10, 12, 19, 0), (12, .iload_n 2, 13, 0, 0), (13, .invokestatic 242, 16, 47, 1), (16, .ifCond .ne 5, 19, 21, 0), (19, .iconst (-1), 20, 0, 0), (20, .ireturn, 21, 0, 0), (21, .iload_n 3, 22, 0, 0), (22, .ifCond .eq 12, 25, 34, 0), (25, .aload 4, 27, 0, 0), (27, .iload_n 2, 28, 0, 0), (28, .invokevirtual 277, 31, 107, 1), (31, .goto 9, 34, 40, 0), (34, .aload 4, 36, 0, 0), (36, .iload_n 2, 37, 0, 0), (37, .invokevirtual 280, 40, 108, 1), (40, .ireturn, 41, 0, 0)]
def kX11_kinship : zM := (⟨"ReadAloud", "kinship", "(IIZ)I"⟩, prog_1_method_27_code, 5, (some .int), 10, qX11_kinship)
def qX11_shared : List zE := [(0, .iload_n 1, 1, 0, 0), (1, .invokestatic 94, 4, 46, 1), (4, .ifCond .eq 10, 7, 14, 0), (7, .iload_n 2, 8, 0, 0), (8, .invokestatic 94, 11, 46, 1), (11, .ifCond .ne 5, 14, 16, 0), (14, .iconst (-1), 15, 0, 0), (15, .ireturn, 16, 0, 0), (16, .iload_n 1, 17, 0, 0), (17, .iload_n 2, 18, 0, 0), (18, .invokestatic 283, 21, 60, 2), (21, .istore 4, 23, 0, 0), (23, .iload_n 3, 24, 0, 0), (24, .ifCond .eq 8, 27, 32, 0), (27, .iload 4, 29, 0, 0), (29, .goto 8, 32, 37, 0), (32, .iload 4, 34, 0, 0), (34, .invokestatic 98, 37, 52, 1), (37, .ireturn, 38, 0, 0)]
def kX11_shared : zM := (⟨"ReadAloud", "shared", "(IIZ)I"⟩, prog_1_method_28_code, 5, (some .int), 10, qX11_shared)
def qX11_joined : List zE := [(0, .aload_n 0, 1, 0, 0), (1, .iload_n 1, 2, 0, 0), (2, .invokevirtual 133, 5, 42, 1), (5, .astore 5, 7, 0, 0), (7, .aload 5, 9, 0, 0), (9, .ifnull 17, 12, 26, 0), (12, .iload_n 2, 13, 0, 0), (13, .invokestatic 94, 16, 46, 1), (16, .ifCond .eq 10, 19, 26, 0), (19, .iload_n 3, 20, 0, 0), (20, .invokestatic 94, 23, 46, 1), (23, .ifCond .ne 5, 26, 28, 0), (26, .iconst (-1), 27, 0, 0), (27, .ireturn, 28, 0, 0), (28, .aload_n 0, 29, 0, 0), (29, .iconst 0, 30, 0, 0), (30, .invokevirtual 137, 33, 43, 1), (33, .astore 6, 35, 0, 0), (35, .aload_n 0, 36, 0, 0), (36, .iconst 1, 37, 0, 0), (37, .invokevirtual 137, 40, 43, 1), (40, .astore 7, 42, 0, 0), (42, .aload 6, 44, 0, 0), (44, .aload 5, 46, 0, 0), (46, .iload_n 2, 47, 0, 0), (47, .aload 5, 49, 0, 0), (49, .invokevirtual 141, 52, 126, 0), (52, .iconst (-1), 53, 0, 0), (53, .invokevirtual 145, 56, 137, 4), (56, .aload 7, 58, 0, 0), (58, .aload 5, 60, 0, 0), (60, .iload_n 3, 61, 0, 0), (61, .aload 5, 63, 0, 0), (63, .invokevirtual 141, 66, 126, 0), (66, .iconst (-1), 67, 0, 0), (67, .invokevirtual 145, 70, 137, 4), (70, .aload 6, 72, 0, 0), (72, .aload 7, 74, 0, 0), (74, .invokevirtual 286, 77, 142, 1), (77, .istore 8, 79, 0, 0), (79, .iload 4, 81, 0, 0), (81, .ifCond .ne 9, 84, 90, 0), (84, .iload 8, 86, 0, 0), (86, .iconst (-1), 87, 0, 0), (87, .if_icmp .ne 6, 90, 93, 0), (90, .iload 8, 92, 0, 0), (92, .ireturn, 93, 0, 0), (93, .aload 6, 95, 0, 0), (95, .getfield 149, 98, 8, 2), (98, .iload 8, 100, 0, 0), (100, .iaload, 101, 0, 0), (101, .aload 7, 103, 0, 0), (103, .getfield 149, 106, 8, 2), (106, .iload 8, 108, 0, 0), (108, .iaload, 109, 0, 0), (109, .iadd, 110, 0, 0), (110, .ireturn, 111, 0, 0)]
def kX11_joined : zM := (⟨"ReadAloud", "joined", "(IIIZ)I"⟩, prog_1_method_29_code, 9, (some .int), 10, qX11_joined)
def qX11_nearest : List zE := [(0, .aload_n 0, 1, 0, 0), (1, .iload_n 1, 2, 0, 0), (2, .invokevirtual 133, 5, 42, 1), (5, .astore 5, 7, 0, 0), (7, .aload 5, 9, 0, 0), (9, .ifnull 17, 12, 26, 0), (12, .iload_n 2, 13, 0, 0), (13, .invokestatic 94, 16, 46, 1), (16, .ifCond .eq 10, 19, 26, 0), (19, .iload_n 3, 20, 0, 0), (20, .invokestatic 94, 23, 46, 1), (23, .ifCond .ne 5, 26, 28, 0), (26, .iconst (-1), 27, 0, 0), (27, .ireturn, 28, 0, 0), (28, .aload_n 0, 29, 0, 0), (29, .iconst 0, 30, 0, 0), (30, .invokevirtual 137, 33, 43, 1), (33, .astore 6, 35, 0, 0), (35, .aload 6, 37, 0, 0), (37, .aload 5, 39, 0, 0), (39, .iload_n 2, 40, 0, 0), (40, .aload 5, 42, 0, 0), (42, .invokevirtual 141, 45, 126, 0), (45, .iconst (-1), 46, 0, 0), (46, .invokevirtual 145, 49, 137, 4), (49, .aload 6, 51, 0, 0), (51, .iload_n 3, 52, 0, 0), (52, .invokevirtual 290, 55, 143, 1), (55, .istore 7, 57, 0, 0), (57, .iload 4, 59, 0, 0), (59, .ifCond .eq 8, 62, 67, 0), (62, .iload 7, 64, 0, 0), (64, .goto 9, 67, 73, 0), (67, .iload 7, 69, 0, 0), (69, .iload_n 3, 70, 0, 0), (70, .invokestatic 104, 73, 59, 2), (73, .ireturn, 74, 0, 0)]
def kX11_nearest : zM := (⟨"ReadAloud", "nearest", "(IIIZ)I"⟩, prog_1_method_30_code, 8, (some .int), 10, qX11_nearest)
def qX11_settles : List zE := [(0, .aload_n 0, 1, 0, 0), (1, .iload_n 1, 2, 0, 0), (2, .invokevirtual 133, 5, 42, 1), (5, .astore 4, 7, 0, 0), (7, .aload 4, 9, 0, 0), (9, .ifnull 10, 12, 19, 0), (12, .iload_n 2, 13, 0, 0), (13, .invokestatic 94, 16, 46, 1), (16, .ifCond .ne 5, 19, 21, 0), (19, .iconst (-1), 20, 0, 0), (20, .ireturn, 21, 0, 0), (21, .aload_n 0, 22, 0, 0), (22, .iconst 0, 23, 0, 0), (23, .invokevirtual 137, 26, 43, 1), (26, .astore 5, 28, 0, 0), (28, .aload 5, 30, 0, 0), (30, .aload 4, 32, 0, 0), (32, .iload_n 2, 33, 0, 0), (33, .aload 4, 35, 0, 0), (35, .invokevirtual 141, 38, 126, 0), (38, .iconst (-1), 39, 0, 0), (39, .invokevirtual 145, 42, 137, 4), (42, .aload 5, 44, 0, 0), (44, .aload 4, 46, 0, 0), (46, .invokevirtual 293, 49, 144, 1), (49, .istore 6, 51, 0, 0), (51, .iload_n 3, 52, 0, 0), (52, .ifCond .ne 9, 55, 61, 0), (55, .iload 6, 57, 0, 0), (57, .iconst (-1), 58, 0, 0), (58, .if_icmp .ne 8, 61, 66, 0), (61, .iload 6, 63, 0, 0), (63, .goto 11, 66, 74, 0), (66, .aload 5, 68, 0, 0), (68, .getfield 149, 71, 8, 2), (71, .iload 6, 73, 0, 0), (73, .iaload, 74, 0, 0), (74, .ireturn, 75, 0, 0)]
def kX11_settles : zM := (⟨"ReadAloud", "settles", "(IIZ)I"⟩, prog_1_method_31_code, 7, (some .int), 10, qX11_settles)
def qX11_unmade : List zE := [(0, .aload_n 0, 1, 0, 0), (1, .iload_n 1, 2, 0, 0), (2, .invokevirtual 133, 5, 42, 1), (5, .astore_n 3, 6, 0, 0), (6, .aload_n 3, 7, 0, 0), (7, .ifnonnull 6, 10, 13, 0), (10, .bipush (-2), 12, 0, 0), (12, .ireturn, 13, 0, 0), (13, .aload_n 3, 14, 0, 0), (14, .invokevirtual 297, 17, 133, 0), (17, .iload_n 2, 18, 0, 0), (18, .ifCond .eq 10, 21, 28, 0), (21, .aload_n 3, 22, 0, 0), (22, .invokevirtual 236, 25, 135, 0), (25, .goto 7, 28, 32, 0), (28, .aload_n 3, 29, 0, 0), (29, .invokevirtual 239, 32, 134, 0), (32, .ireturn, 33, 0, 0)]
def kX11_unmade : zM := (⟨"ReadAloud", "unmade", "(IZ)I"⟩, prog_1_method_32_code, 4, (some .int), 10, qX11_unmade)
def qX11_silenced : List zE := [(0, .aload_n 0, 1, 0, 0), (1, .iload_n 1, 2, 0, 0), (2, .invokevirtual 133, 5, 42, 1), (5, .astore 4, 7, 0, 0), (7, .aload 4, 9, 0, 0), (9, .ifnull 22, 12, 31, 0), (12, .iload_n 2, 13, 0, 0), (13, .invokestatic 94, 16, 46, 1), (16, .ifCond .eq 15, 19, 31, 0), (19, .iload_n 3, 20, 0, 0), (20, .invokestatic 94, 23, 46, 1), (23, .ifCond .eq 8, 26, 31, 0), (26, .iload_n 2, 27, 0, 0), (27, .iload_n 3, 28, 0, 0), (28, .if_icmp .ne 5, 31, 33, 0), (31, .iconst (-1), 32, 0, 0), (32, .ireturn, 33, 0, 0), (33, .aload_n 0, 34, 0, 0), (34, .iconst 0, 35, 0, 0), (35, .invokevirtual 137, 38, 43, 1), (38, .astore 5, 40, 0, 0), (40, .aload 4, 42, 0, 0), (42, .getfield 165, 45, 3, 0), (45, .getfield 300, 48, 0, 1), (48, .istore 6, 50, 0, 0), (50, .iconst 0, 51, 0, 0), (51, .istore 7, 53, 0, 0), (53, .iload 7, 55, 0, 0), (55, .iload 6, 57, 0, 0), (57, .if_icmp .gt 71, 60, 128, 0), (60, .iconst 0, 61, 0, 0), (61, .istore 8, 63, 0, 0), (63, .iload 8, 65, 0, 0), (65, .aload 4, 67, 0, 0), (67, .invokevirtual 141, 70, 126, 0), (70, .if_icmp .gt 52, 73, 122, 0), (73, .iload 8, 75, 0, 0), (78, .iload 7, 80, 0, 0), (80, .if_icmp .ne 36, 83, 116, 0), (83, .aload 5, 85, 0, 0), (85, .aload 4, 87, 0, 0), (87, .iload_n 2, 88, 0, 0), (88, .aload 4, 90, 0, 0), (90, .invokevirtual 141, 93, 126, 0), (93, .iload 8, 95, 0, 0), (95, .iconst (-1), 96, 0, 0), (96, .ixor, 97, 0, 0), (97, .iand, 98, 0, 0), (98, .iload_n 3, 99, 0, 0), (99, .invokevirtual 145, 102, 137, 4), (102, .aload 5, 104, 0, 0), (104, .getfield 149, 107, 8, 2), (107, .iload_n 3, 108, 0, 0), (108, .iaload, 109, 0, 0), (109, .iconst (-1), 110, 0, 0), (110, .if_icmp .ne 6, 113, 116, 0), (113, .iload 8, 115, 0, 0), (115, .ireturn, 116, 0, 0), (116, .iinc 8 1, 119, 0, 0), (119, .goto (-56), 122, 63, 0), (122, .iinc 7 1, 125, 0, 0), (125, .goto (-72), 128, 53, 0), (128, .iconst (-1), 129, 0, 0), (129, .ireturn, 130, 0, 0)]
def kX11_silenced : zM := (⟨"ReadAloud", "silenced", "(III)I"⟩, prog_1_method_33_code, 9, (some .int), 10, qX11_silenced)
def qX11_circles : List zE := [(0, .aload_n 0, 1, 0, 0), (1, .iload_n 1, 2, 0, 0), (2, .invokevirtual 133, 5, 42, 1), (5, .astore_n 3, 6, 0, 0), (6, .aload_n 3, 7, 0, 0), (7, .ifnull 21, 10, 28, 0), (10, .iload_n 2, 11, 0, 0), (11, .iconst (-1), 12, 0, 0), (12, .if_icmp .eq 18, 15, 30, 0), (15, .iload_n 2, 16, 0, 0), (16, .bipush (-2), 18, 0, 0), (18, .if_icmp .eq 12, 21, 30, 0), (21, .iload_n 2, 22, 0, 0), (22, .invokestatic 94, 25, 46, 1), (25, .ifCond .ne 5, 28, 30, 0), (28, .iconst (-1), 29, 0, 0), (29, .ireturn, 30, 0, 0), (30, .aload_n 0, 31, 0, 0), (31, .invokevirtual 180, 34, 45, 0), (34, .astore 4, 36, 0, 0), (36, .aload 4, 38, 0, 0), (38, .aload_n 3, 39, 0, 0), (39, .invokevirtual 308, 42, 174, 1), (42, .iload_n 2, 43, 0, 0), (43, .iconst (-1), 44, 0, 0), (44, .if_icmp .ne 9, 47, 53, 0), (47, .aload 4, 49, 0, 0), (49, .getfield 312, 52, 4, 1), (52, .ireturn, 53, 0, 0), (53, .iload_n 2, 54, 0, 0), (54, .bipush (-2), 56, 0, 0), (56, .if_icmp .ne 11, 59, 67, 0), (59, .aload 4, 61, 0, 0), (61, .getfield 315, 64, 4, 2), (64, .goto 10, 67, 74, 0), (67, .aload 4, 69, 0, 0), (69, .getfield 318, 72, 4, 14), (72, .iload_n 2, 73, 0, 0), (73, .iaload, 74, 0, 0), (74, .ireturn, 75, 0, 0)]
def kX11_circles : zM := (⟨"ReadAloud", "circles", "(II)I"⟩, prog_1_method_34_code, 5, (some .int), 10, qX11_circles)
def qX11_count : List zE := [(0, .iload_n 1, 1, 0, 0), (1, .ifCond .lt 8, 4, 9, 0), (4, .iload_n 1, 5, 0, 0), (5, .iconst 3, 6, 0, 0), (6, .if_icmp .lt 8, 9, 14, 0), (9, .bipush (-2), 11, 0, 0), (11, .goto 12, 14, 23, 0), (14, .aload_n 0, 15, 0, 0), (15, .getfield 10, 18, 10, 0), (18, .getfield 68, 21, 7, 4), (21, .iload_n 1, 22, 0, 0), (22, .iaload, 23, 0, 0), (23, .ireturn, 24, 0, 0)]
def kX11_count : zM := (⟨"ReadAloud", "count", "(I)I"⟩, prog_1_method_35_code, 2, (some .int), 10, qX11_count)
def qX11_image : List zE := [(0, .iload_n 1, 1, 0, 0), (1, .ifCond .lt 8, 4, 9, 0), (4, .iload_n 1, 5, 0, 0), (5, .iconst 3, 6, 0, 0), (6, .if_icmp .lt 5, 9, 11, 0), (9, .iconst 0, 10, 0, 0), (10, .ireturn, 11, 0, 0), (11, .aload_n 0, 12, 0, 0), (12, .getfield 16, 15, 10, 1), (15, .iload_n 1, 16, 0, 0), (16, .aaload, 17, 0, 0), (17, .ifnonnull 16, 20, 33, 0), (20, .aload_n 0, 21, 0, 0), (21, .getfield 16, 24, 10, 1), (24, .iload_n 1, 25, 0, 0), (25, .new 7, 28, 7, 0), (28, .dup, 29, 0, 0), (29, .invokespecial 9, 32, 62, 0), (32, .aastore, 33, 0, 0), (33, .aload_n 0, 34, 0, 0), (34, .getfield 16, 37, 10, 1), (37, .iload_n 1, 38, 0, 0), (38, .aaload, 39, 0, 0), (39, .aload_n 0, 40, 0, 0), (40, .getfield 10, 43, 10, 0), (43, .invokevirtual 321, 46, 64, 1), (46, .iconst 1, 47, 0, 0), (47, .ireturn, 48, 0, 0)]
def kX11_image : zM := (⟨"ReadAloud", "image", "(I)Z"⟩, prog_1_method_36_code, 2, (some .boolean), 10, qX11_image)
def qX11_again : List zE := [(0, .iload_n 1, 1, 0, 0), (1, .ifCond .lt 17, 4, 18, 0), (4, .iload_n 1, 5, 0, 0), (5, .iconst 3, 6, 0, 0), (6, .if_icmp .ge 12, 9, 18, 0), (9, .aload_n 0, 10, 0, 0), (10, .getfield 16, 13, 10, 1), (13, .iload_n 1, 14, 0, 0), (14, .aaload, 15, 0, 0), (15, .ifnonnull 5, 18, 20, 0), (18, .iconst 0, 19, 0, 0), (19, .ireturn, 20, 0, 0), (20, .aload_n 0, 21, 0, 0), (21, .getfield 10, 24, 10, 0), (24, .aload_n 0, 25, 0, 0), (25, .getfield 16, 28, 10, 1), (28, .iload_n 1, 29, 0, 0), (29, .aaload, 30, 0, 0), (30, .invokevirtual 321, 33, 64, 1), (33, .iconst 1, 34, 0, 0), (34, .ireturn, 35, 0, 0)]
def kX11_again : zM := (⟨"ReadAloud", "again", "(I)Z"⟩, prog_1_method_37_code, 2, (some .boolean), 10, qX11_again)
def qX11_tellInto : List zE := [(0, .iload_n 1, 1, 0, 0), (1, .lookupswitch 115 #[(0, 27), (1, 71)], 28, 0, 0), (28, .new 89, 31, 0, 0), (31, .dup, 32, 0, 0), (32, .invokespecial 325, 35, 88, 0), (35, .astore 4, 37, 0, 0), (37, .aload_n 0, 38, 0, 0), (38, .getfield 23, 41, 10, 2), (41, .aload_n 0, 42, 0, 0), (42, .getfield 10, 45, 10, 0), (45, .getfield 326, 48, 7, 0), (48, .iload_n 3, 49, 0, 0), (49, .aload 4, 51, 0, 0), (51, .invokevirtual 330, 54, 66, 3), (54, .ifCond .eq 16, 57, 70, 0), (57, .aload_n 0, 58, 0, 0), (58, .getfield 10, 61, 10, 0), (61, .getfield 334, 64, 7, 5), (64, .iload_n 2, 65, 0, 0), (65, .aload 4, 67, 0, 0), (67, .aastore, 68, 0, 0), (68, .iconst 1, 69, 0, 0), (69, .ireturn, 70, 0, 0), (70, .iconst 0, 71, 0, 0), (71, .ireturn, 72, 0, 0), (72, .new 118, 75, 9, 0), (75, .dup, 76, 0, 0), (76, .invokespecial 338, 79, 110, 0), (79, .astore 5, 81, 0, 0), (81, .aload_n 0, 82, 0, 0), (82, .getfield 23, 85, 10, 2), (85, .aload_n 0, 86, 0, 0), (86, .getfield 10, 89, 10, 0), (89, .getfield 326, 92, 7, 0), (92, .iload_n 3, 93, 0, 0), (93, .aload 5, 95, 0, 0), (95, .invokevirtual 330, 98, 66, 3), (98, .ifCond .eq 16, 101, 114, 0), (101, .aload_n 0, 102, 0, 0), (102, .getfield 10, 105, 10, 0), (105, .getfield 339, 108, 7, 6), (108, .iload_n 2, 109, 0, 0), (109, .aload 5, 111, 0, 0), (111, .aastore, 112, 0, 0), (112, .iconst 1, 113, 0, 0), (113, .ireturn, 114, 0, 0), (114, .iconst 0, 115, 0, 0), (115, .ireturn, 116, 0, 0), (116, .new 256, 119, 5, 0), (119, .dup, 120, 0, 0), (120, .invokespecial 343, 123, 117, 0), (123, .astore 6, 125, 0, 0), (125, .aload_n 0, 126, 0, 0), (126, .getfield 23, 129, 10, 2), (129, .aload_n 0, 130, 0, 0), (130, .getfield 10, 133, 10, 0), (133, .getfield 326, 136, 7, 0), (136, .iload_n 3, 137, 0, 0), (137, .aload 6, 139, 0, 0), (139, .invokevirtual 330, 142, 66, 3), (142, .ifCond .eq 16, 145, 158, 0), (145, .aload_n 0, 146, 0, 0), (146, .getfield 10, 149, 10, 0), (149, .getfield 344, 152, 7, 7), (152, .iload_n 2, 153, 0, 0), (153, .aload 6, 155, 0, 0), (155, .aastore, 156, 0, 0), (156, .iconst 1, 157, 0, 0), (157, .ireturn, 158, 0, 0), (158, .iconst 0, 159, 0, 0), (159, .ireturn, 160, 0, 0)]
def kX11_tellInto : zM := (⟨"ReadAloud", "tellInto", "(III)Z"⟩, prog_1_method_38_code, 7, (some .boolean), 10, qX11_tellInto)
def qX11_bookAt : List zE := [(0, .iload_n 1, 1, 0, 0), (1, .ifCond .lt 16, 4, 17, 0), (4, .iload_n 1, 5, 0, 0), (5, .aload_n 0, 6, 0, 0), (6, .getfield 10, 9, 10, 0), (9, .getfield 68, 12, 7, 4), (12, .iconst 0, 13, 0, 0), (13, .iaload, 14, 0, 0), (14, .if_icmp .lt 7, 17, 21, 0), (17, .aconst_null, 18, 0, 0), (18, .goto 12, 21, 30, 0), (21, .aload_n 0, 22, 0, 0), (22, .getfield 10, 25, 10, 0), (25, .getfield 334, 28, 7, 5), (28, .iload_n 1, 29, 0, 0), (29, .aaload, 30, 0, 0), (30, .areturn, 31, 0, 0)]
def kX11_bookAt : zM := (⟨"ReadAloud", "bookAt", "(I)LReadAloud$Book;"⟩, prog_1_method_39_code, 2, (some (.object "ReadAloud$Book")), 10, qX11_bookAt)
def qX11_yearAt : List zE := [(0, .iload_n 1, 1, 0, 0), (1, .ifCond .lt 16, 4, 17, 0), (4, .iload_n 1, 5, 0, 0), (5, .aload_n 0, 6, 0, 0), (6, .getfield 10, 9, 10, 0), (9, .getfield 68, 12, 7, 4), (12, .iconst 1, 13, 0, 0), (13, .iaload, 14, 0, 0), (14, .if_icmp .lt 7, 17, 21, 0), (17, .aconst_null, 18, 0, 0), (18, .goto 12, 21, 30, 0), (21, .aload_n 0, 22, 0, 0), (22, .getfield 10, 25, 10, 0), (25, .getfield 339, 28, 7, 6), (28, .iload_n 1, 29, 0, 0), (29, .aaload, 30, 0, 0), (30, .areturn, 31, 0, 0)]
def kX11_yearAt : zM := (⟨"ReadAloud", "yearAt", "(I)LReadAloud$Year;"⟩, prog_1_method_40_code, 2, (some (.object "ReadAloud$Year")), 10, qX11_yearAt)
def qX11_sightAt : List zE := [(0, .iload_n 1, 1, 0, 0), (1, .ifCond .lt 16, 4, 17, 0), (4, .iload_n 1, 5, 0, 0), (5, .aload_n 0, 6, 0, 0), (6, .getfield 10, 9, 10, 0), (9, .getfield 68, 12, 7, 4), (12, .iconst 2, 13, 0, 0), (13, .iaload, 14, 0, 0), (14, .if_icmp .lt 7, 17, 21, 0), (17, .aconst_null, 18, 0, 0), (18, .goto 12, 21, 30, 0), (21, .aload_n 0, 22, 0, 0), (22, .getfield 10, 25, 10, 0), (25, .getfield 344, 28, 7, 7), (28, .iload_n 1, 29, 0, 0), (29, .aaload, 30, 0, 0), (30, .areturn, 31, 0, 0)]
def kX11_sightAt : zM := (⟨"ReadAloud", "sightAt", "(I)LReadAloud$Sight;"⟩, prog_1_method_41_code, 2, (some (.object "ReadAloud$Sight")), 10, qX11_sightAt)
def qX11_readingsAt : List zE := [(0, .aload_n 0, 1, 0, 0), (1, .iload_n 1, 2, 0, 0), (2, .invokevirtual 84, 5, 39, 1), (5, .astore_n 2, 6, 0, 0), (6, .aload_n 2, 7, 0, 0), (7, .ifnonnull 5, 10, 12, 0), (10, .aconst_null, 11, 0, 0), (11, .areturn, 12, 0, 0), (12, .aload_n 0, 13, 0, 0), (13, .getfield 36, 16, 10, 4), (16, .iload_n 1, 17, 0, 0), (17, .aaload, 18, 0, 0), (18, .ifnonnull 16, 21, 34, 0), (21, .aload_n 0, 22, 0, 0), (22, .getfield 36, 25, 10, 4), (25, .iload_n 1, 26, 0, 0), (26, .new 34, 29, 3, 0), (29, .dup, 30, 0, 0), (30, .invokespecial 348, 33, 124, 0), (33, .aastore, 34, 0, 0), (34, .aload_n 0, 35, 0, 0), (35, .getfield 36, 38, 10, 4), (38, .iload_n 1, 39, 0, 0), (39, .aaload, 40, 0, 0), (40, .aload_n 2, 41, 0, 0), (41, .invokevirtual 349, 44, 125, 1), (44, .aload_n 0, 45, 0, 0), (45, .getfield 36, 48, 10, 4), (48, .iload_n 1, 49, 0, 0), (49, .aaload, 50, 0, 0), (50, .areturn, 51, 0, 0)]
def kX11_readingsAt : zM := (⟨"ReadAloud", "readingsAt", "(I)LReadAloud$Readings;"⟩, prog_1_method_42_code, 3, (some (.object "ReadAloud$Readings")), 10, qX11_readingsAt)
def qX11_walkAt : List zE := [(0, .aload_n 0, 1, 0, 0), (1, .getfield 42, 4, 10, 5), (4, .iload_n 1, 5, 0, 0), (5, .aaload, 6, 0, 0), (6, .ifnonnull 16, 9, 22, 0), (9, .aload_n 0, 10, 0, 0), (10, .getfield 42, 13, 10, 5), (13, .iload_n 1, 14, 0, 0), (14, .new 40, 17, 8, 0), (17, .dup, 18, 0, 0), (18, .invokespecial 352, 21, 136, 0), (21, .aastore, 22, 0, 0), (22, .aload_n 0, 23, 0, 0), (23, .getfield 42, 26, 10, 5), (26, .iload_n 1, 27, 0, 0), (27, .aaload, 28, 0, 0), (28, .areturn, 29, 0, 0)]
def kX11_walkAt : zM := (⟨"ReadAloud", "walkAt", "(I)LReadAloud$Walk;"⟩, prog_1_method_43_code, 2, (some (.object "ReadAloud$Walk")), 10, qX11_walkAt)
def qX11_levelsThere : List zE := [(0, .aload_n 0, 1, 0, 0), (1, .getfield 46, 4, 10, 6), (4, .ifnonnull 14, 7, 18, 0), (7, .aload_n 0, 8, 0, 0), (8, .new 199, 11, 2, 0), (11, .dup, 12, 0, 0), (12, .invokespecial 353, 15, 145, 0), (15, .putfield 46, 18, 10, 6), (18, .aload_n 0, 19, 0, 0), (19, .getfield 46, 22, 10, 6), (22, .areturn, 23, 0, 0)]
def kX11_levelsThere : zM := (⟨"ReadAloud", "levelsThere", "()LReadAloud$Levels;"⟩, prog_1_method_44_code, 1, (some (.object "ReadAloud$Levels")), 10, qX11_levelsThere)
def qX11_ringsThere : List zE := [(0, .aload_n 0, 1, 0, 0), (1, .getfield 50, 4, 10, 7), (4, .ifnonnull 14, 7, 18, 0), (7, .aload_n 0, 8, 0, 0), (8, .new 178, 11, 4, 0), (11, .dup, 12, 0, 0), (12, .invokespecial 354, 15, 169, 0), (15, .putfield 50, 18, 10, 7), (18, .aload_n 0, 19, 0, 0), (19, .getfield 50, 22, 10, 7), (22, .areturn, 23, 0, 0)]
def kX11_ringsThere : zM := (⟨"ReadAloud", "ringsThere", "()LReadAloud$Rings;"⟩, prog_1_method_45_code, 1, (some (.object "ReadAloud$Rings")), 10, qX11_ringsThere)
def qX11_isText : List zE := [(0, .iload_n 0, 1, 0, 0), (1, .ifCond .lt 14, 4, 15, 0), (4, .iload_n 0, 5, 0, 0), (5, .sipush 5461, 8, 0, 0), (8, .if_icmp .ge 7, 11, 15, 0), (11, .iconst 1, 12, 0, 0), (12, .goto 4, 15, 16, 0), (15, .iconst 0, 16, 0, 0), (16, .ireturn, 17, 0, 0)]
def kX11_isText : zM := (⟨"ReadAloud", "isText", "(I)Z"⟩, prog_1_method_46_code, 1, (some .boolean), 10, qX11_isText)
def qX11_isWord : List zE := [(0, .iload_n 0, 1, 0, 0), (1, .ifCond .lt 12, 4, 13, 0), (4, .iload_n 0, 5, 0, 0), (5, .iconst 4, 6, 0, 0), (6, .if_icmp .ge 7, 9, 13, 0), (9, .iconst 1, 10, 0, 0), (10, .goto 4, 13, 14, 0), (13, .iconst 0, 14, 0, 0), (14, .ireturn, 15, 0, 0)]
def kX11_isWord : zM := (⟨"ReadAloud", "isWord", "(I)Z"⟩, prog_1_method_47_code, 1, (some .boolean), 10, qX11_isWord)
def qX11_isSpan : List zE := [(0, .iload_n 0, 1, 0, 0), (1, .ifCond .lt 13, 4, 14, 0), (4, .iload_n 0, 5, 0, 0), (5, .bipush 9, 7, 0, 0), (7, .if_icmp .gt 7, 10, 14, 0), (10, .iconst 1, 11, 0, 0), (11, .goto 4, 14, 15, 0), (14, .iconst 0, 15, 0, 0), (15, .ireturn, 16, 0, 0)]
def kX11_isSpan : zM := (⟨"ReadAloud", "isSpan", "(I)Z"⟩, prog_1_method_48_code, 1, (some .boolean), 10, qX11_isSpan)
def qX11_isIn : List zE := [(0, .iload_n 0, 1, 0, 0), (1, .iload_n 1, 2, 0, 0), (2, .ishr, 3, 0, 0), (3, .iconst 1, 4, 0, 0), (4, .iand, 5, 0, 0), (5, .ifCond .eq 7, 8, 12, 0), (8, .iconst 1, 9, 0, 0), (9, .goto 4, 12, 13, 0), (12, .iconst 0, 13, 0, 0), (13, .ireturn, 14, 0, 0)]
def kX11_isIn : zM := (⟨"ReadAloud", "isIn", "(II)Z"⟩, prog_1_method_49_code, 2, (some .boolean), 10, qX11_isIn)
def qX11_common : List zE := [(0, .lload_n 0, 1, 0, 0), (1, .lstore 4, 3, 0, 0), (3, .lload_n 2, 4, 0, 0), (4, .lstore 6, 6, 0, 0), (6, .iconst 0, 7, 0, 0), (7, .istore 8, 9, 0, 0), (9, .iload 8, 11, 0, 0), (11, .bipush 100, 13, 0, 0), (13, .if_icmp .ge 31, 16, 44, 0), (16, .lload 6, 18, 0, 0), (18, .lconst 0, 19, 0, 0), (19, .lcmp, 20, 0, 0), (20, .ifCond .eq 24, 23, 44, 0), (23, .lload 4, 25, 0, 0), (25, .lload 6, 27, 0, 0), (27, .lrem, 28, 0, 0), (28, .lstore 9, 30, 0, 0), (30, .lload 6, 32, 0, 0), (32, .lstore 4, 34, 0, 0), (34, .lload 9, 36, 0, 0), (36, .lstore 6, 38, 0, 0), (38, .iinc 8 1, 41, 0, 0), (41, .goto (-32), 44, 9, 0), (44, .lload 4, 46, 0, 0), (46, .lreturn, 47, 0, 0)]
def kX11_common : zM := (⟨"ReadAloud", "common", "(JJ)J"⟩, prog_1_method_50_code, 11, (some .long), 10, qX11_common)
def qX11_longer : List zE := [(0, .iconst 4, 1, 0, 0), (1, .iload_n 0, 2, 0, 0), (2, .imul, 3, 0, 0), (3, .iconst 1, 4, 0, 0), (4, .iadd, 5, 0, 0), (5, .iload_n 1, 6, 0, 0), (6, .iadd, 7, 0, 0), (7, .ireturn, 8, 0, 0)]
def kX11_longer : zM := (⟨"ReadAloud", "longer", "(II)I"⟩, prog_1_method_51_code, 2, (some .int), 10, qX11_longer)
def qX11_lengthOf : List zE := [(0, .iconst 0, 1, 0, 0), (1, .istore_n 1, 2, 0, 0), (2, .iload_n 0, 3, 0, 0), (3, .istore_n 2, 4, 0, 0), (4, .iconst 0, 5, 0, 0), (5, .istore_n 3, 6, 0, 0), (6, .iload_n 3, 7, 0, 0), (7, .bipush 6, 9, 0, 0), (9, .if_icmp .ge 22, 12, 31, 0), (12, .iload_n 2, 13, 0, 0), (13, .ifCond .le 18, 16, 31, 0), (16, .iload_n 2, 17, 0, 0), (17, .iconst 1, 18, 0, 0), (18, .isub, 19, 0, 0), (19, .iconst 4, 20, 0, 0), (20, .idiv, 21, 0, 0), (21, .istore_n 2, 22, 0, 0), (22, .iinc 1 1, 25, 0, 0), (25, .iinc 3 1, 28, 0, 0), (28, .goto (-22), 31, 6, 0), (31, .iload_n 1, 32, 0, 0), (32, .ireturn, 33, 0, 0)]
def kX11_lengthOf : zM := (⟨"ReadAloud", "lengthOf", "(I)I"⟩, prog_1_method_52_code, 4, (some .int), 10, qX11_lengthOf)
def qX11_bitsOf : List zE := [(0, .iload_n 0, 1, 0, 0), (1, .invokestatic 98, 4, 52, 1), (4, .istore_n 1, 5, 0, 0), (5, .iconst 1, 6, 0, 0), (6, .iconst 2, 7, 0, 0), (7, .iload_n 1, 8, 0, 0), (8, .imul, 9, 0, 0), (9, .ishl, 10, 0, 0), (10, .istore_n 2, 11, 0, 0), (11, .iload_n 0, 12, 0, 0), (12, .iload_n 2, 13, 0, 0), (13, .iconst 1, 14, 0, 0), (14, .isub, 15, 0, 0), (15, .iconst 3, 16, 0, 0), (16, .idiv, 17, 0, 0), (17, .isub, 18, 0, 0), (18, .iload_n 2, 19, 0, 0), (19, .iadd, 20, 0, 0), (20, .ireturn, 21, 0, 0)]
def kX11_bitsOf : zM := (⟨"ReadAloud", "bitsOf", "(I)I"⟩, prog_1_method_53_code, 3, (some .int), 10, qX11_bitsOf)
def qX11_lengthOfBits : List zE := [(0, .iconst 0, 1, 0, 0), (1, .istore_n 1, 2, 0, 0), (2, .iload_n 1, 3, 0, 0), (3, .bipush 6, 5, 0, 0), (5, .if_icmp .ge 19, 8, 24, 0), (8, .iload_n 0, 9, 0, 0), (9, .iconst 2, 10, 0, 0), (10, .iload_n 1, 11, 0, 0), (11, .imul, 12, 0, 0), (12, .iconst 2, 13, 0, 0), (13, .iadd, 14, 0, 0), (14, .ishr, 15, 0, 0), (15, .ifCond .eq 9, 18, 24, 0), (18, .iinc 1 1, 21, 0, 0), (21, .goto (-19), 24, 2, 0), (24, .iload_n 1, 25, 0, 0), (25, .ireturn, 26, 0, 0)]
def kX11_lengthOfBits : zM := (⟨"ReadAloud", "lengthOfBits", "(I)I"⟩, prog_1_method_54_code, 2, (some .int), 10, qX11_lengthOfBits)
def qX11_numberOfBits : List zE := [(0, .iconst 1, 1, 0, 0), (1, .iconst 2, 2, 0, 0), (2, .iload_n 0, 3, 0, 0), (3, .invokestatic 355, 6, 54, 1), (6, .imul, 7, 0, 0), (7, .ishl, 8, 0, 0), (8, .istore_n 1, 9, 0, 0), (9, .iload_n 0, 10, 0, 0), (10, .iload_n 1, 11, 0, 0), (11, .isub, 12, 0, 0), (12, .iload_n 1, 13, 0, 0), (13, .iconst 1, 14, 0, 0), (14, .isub, 15, 0, 0), (15, .iconst 3, 16, 0, 0), (16, .idiv, 17, 0, 0), (17, .iadd, 18, 0, 0), (18, .ireturn, 19, 0, 0)]
def kX11_numberOfBits : zM := (⟨"ReadAloud", "numberOfBits", "(I)I"⟩, prog_1_method_55_code, 2, (some .int), 10, qX11_numberOfBits)
def qX11_wordAt : List zE := [(0, .iload_n 0, 1, 0, 0), (1, .invokestatic 358, 4, 53, 1), (4, .iload_n 0, 5, 0, 0), (5, .invokestatic 98, 8, 52, 1), (8, .iconst 1, 9, 0, 0), (9, .isub, 10, 0, 0), (10, .iload_n 1, 11, 0, 0), (11, .isub, 12, 0, 0), (12, .invokestatic 361, 15, 57, 2), (15, .ireturn, 16, 0, 0)]
def kX11_wordAt : zM := (⟨"ReadAloud", "wordAt", "(II)I"⟩, prog_1_method_56_code, 2, (some .int), 10, qX11_wordAt)
def qX11_wordOfBits : List zE := [(0, .iload_n 0, 1, 0, 0), (1, .iconst 2, 2, 0, 0), (2, .iload_n 1, 3, 0, 0), (3, .imul, 4, 0, 0), (4, .ishr, 5, 0, 0), (5, .iconst 3, 6, 0, 0), (6, .iand, 7, 0, 0), (7, .ireturn, 8, 0, 0)]
def kX11_wordOfBits : zM := (⟨"ReadAloud", "wordOfBits", "(II)I"⟩, prog_1_method_57_code, 2, (some .int), 10, qX11_wordOfBits)
def qX11_timesOf : List zE := [(0, .iload_n 1, 1, 0, 0), (1, .invokestatic 358, 4, 53, 1), (4, .istore_n 2, 5, 0, 0), (5, .iload_n 1, 6, 0, 0), (6, .invokestatic 98, 9, 52, 1), (9, .istore_n 3, 10, 0, 0), (10, .iconst 0, 11, 0, 0), (11, .istore 4, 13, 0, 0), (13, .iconst 0, 14, 0, 0), (14, .istore 5, 16, 0, 0), (16, .iload 5, 18, 0, 0), (18, .iload_n 3, 19, 0, 0), (19, .if_icmp .ge 22, 22, 41, 0), (22, .iload_n 2, 23, 0, 0), (23, .iload 5, 25, 0, 0), (25, .invokestatic 361, 28, 57, 2), (28, .iload_n 0, 29, 0, 0), (29, .if_icmp .ne 6, 32, 35, 0), (32, .iinc 4 1, 35, 0, 0), (35, .iinc 5 1, 38, 0, 0), (38, .goto (-22), 41, 16, 0), (41, .iload 4, 43, 0, 0), (43, .ireturn, 44, 0, 0)]
def kX11_timesOf : zM := (⟨"ReadAloud", "timesOf", "(II)I"⟩, prog_1_method_58_code, 6, (some .int), 10, qX11_timesOf)
set_option maxRecDepth 200000 in
def qX11_driftOf : List zE := [(0, .iload_n 0, 1, 0, 0), (1, .invokestatic 358, 4, 53, 1), (4, .istore_n 2, 5, 0, 0), (5, .iload_n 1, 6, 0, 0), (6, .invokestatic 358, 9, 53, 1), (9, .istore_n 3, 10, 0, 0), (10, .iload_n 0, 11, 0, 0), (11, .invokestatic 98, 14, 52, 1), (14, .istore 4, 16, 0, 0), (16, .iload_n 1, 17, 0, 0), (17, .invokestatic 98, 20, 52, 1), (20, .istore 5, 22, 0, 0), (22, .iconst 0, 23, 0, 0), (23, .istore 6, 25, 0, 0), (25, .iconst 0, 26, 0, 0), (26, .istore 7, 28, 0, 0), (28, .iload 7, 30, 0, 0), (30, .iload 5, 32, 0, 0), (32, .if_icmp .gt 21, 35, 53, 0), (35, .iload 6, 37, 0, 0), (37, .iload 7, 39, 0, 0), (39, .iconst 4, 40, 0, 0), (40, .iload 7, 42, 0, 0), (42, .imul, 43, 0, 0), (43, .ishl, 44, 0, 0), (44, .ior, 45, 0, 0), (45, .istore 6, 47, 0, 0), (47, .iinc 7 1, 50, 0, 0), (50, .goto (-22), 53, 28, 0), (53, .iconst 1, 54, 0, 0), (54, .istore 7, 56, 0, 0), (56, .iload 7, 58, 0, 0), (58, .iload 4, 60, 0, 0), (60, .if_icmp .gt 120, 63, 180, 0), (63, .iload_n 2, 64, 0, 0), (64, .iload 7, 66, 0, 0), (66, .iconst 1, 67, 0, 0), (67, .isub, 68, 0, 0), (68, .invokestatic 361, 71, 57, 2), (71, .istore 8, 73, 0, 0), (73, .iload 7, 75, 0, 0), (75, .istore 9, 77, 0, 0), (77, .iload 7, 79, 0, 0), (79, .istore 10, 81, 0, 0), (81, .iconst 1, 82, 0, 0), (82, .istore 11, 84, 0, 0), (84, .iload 11, 86, 0, 0), (86, .iload 5, 88, 0, 0), (88, .if_icmp .gt 82, 91, 170, 0), (91, .iload 8, 93, 0, 0), (93, .iload_n 3, 94, 0, 0), (94, .iload 11, 96, 0, 0), (96, .iconst 1, 97, 0, 0), (97, .isub, 98, 0, 0), (98, .invokestatic 361, 101, 57, 2), (101, .if_icmp .ne 7, 104, 108, 0), (104, .iconst 0, 105, 0, 0), (105, .goto 4, 108, 109, 0), (108, .iconst 1, 109, 0, 0), (109, .istore 12, 111, 0, 0), (111, .iload 9, 113, 0, 0), (113, .iload 6, 115, 0, 0), (115, .iconst 4, 116, 0, 0), (116, .iload 11, 118, 0, 0), (118, .imul, 119, 0, 0), (119, .ishr, 120, 0, 0), (120, .bipush 15, 122, 0, 0), (122, .iand, 123, 0, 0), (123, .invokestatic 364, 126, 0, 101), (126, .iconst 1, 127, 0, 0), (127, .iadd, 128, 0, 0), (128, .istore 13, 130, 0, 0), (130, .iload 6, 132, 0, 0), (132, .iconst 4, 133, 0, 0), (133, .iload 11, 135, 0, 0), (135, .iconst 1, 136, 0, 0), (136, .isub, 137, 0, 0), (137, .imul, 138, 0, 0), (138, .ishr, 139, 0, 0), (139, .bipush 15, 141, 0, 0), (141, .iand, 142, 0, 0), (142, .iload 12, 144, 0, 0), (144, .iadd, 145, 0, 0), (145, .iload 13, 147, 0, 0), (147, .invokestatic 364, 150, 0, 101), (150, .istore 9, 152, 0, 0), (152, .iload 10, 154, 0, 0), (154, .iload 9, 156, 0, 0), (156, .iconst 4, 157, 0, 0), (157, .iload 11, 159, 0, 0), (159, .imul, 160, 0, 0), (160, .ishl, 161, 0, 0), (161, .ior, 162, 0, 0), (162, .istore 10, 164, 0, 0), (164, .iinc 11 1, 167, 0, 0), (167, .goto (-83), 170, 84, 0), (170, .iload 10, 172, 0, 0), (172, .istore 6, 174, 0, 0), (174, .iinc 7 1, 177, 0, 0), (177, .goto (-121), 180, 56, 0), (180, .iload 6, 182, 0, 0), (182, .iconst 4, 183, 0, 0), (183, .iload 5, 185, 0, 0), (185, .imul, 186, 0, 0), (186, .ishr, 187, 0, 0), (187, .bipush 15, 189, 0, 0), (189, .iand, 190, 0, 0), (190, .ireturn, 191, 0, 0)]
def kX11_driftOf : zM := (⟨"ReadAloud", "driftOf", "(II)I"⟩, prog_1_method_59_code, 14, (some .int), 10, qX11_driftOf)
def qX11_mostShared : List zE := [(0, .iload_n 0, 1, 0, 0), (1, .invokestatic 98, 4, 52, 1), (4, .istore_n 2, 5, 0, 0), (5, .iconst 0, 6, 0, 0), (6, .istore_n 3, 7, 0, 0), (7, .iconst 0, 8, 0, 0), (8, .istore 4, 10, 0, 0), (10, .iload 4, 12, 0, 0), (12, .iconst 1, 13, 0, 0), (13, .iload_n 2, 14, 0, 0), (14, .ishl, 15, 0, 0), (15, .if_icmp .ge 90, 18, 105, 0), (18, .iconst 0, 19, 0, 0), (19, .istore 5, 21, 0, 0), (21, .iconst 0, 22, 0, 0), (22, .istore 6, 24, 0, 0), (24, .iload 6, 26, 0, 0), (26, .iload_n 2, 27, 0, 0), (27, .if_icmp .ge 32, 30, 59, 0), (30, .iload 4, 32, 0, 0), (32, .iload 6, 34, 0, 0), (34, .invokestatic 367, 37, 49, 2), (37, .ifCond .eq 16, 40, 53, 0), (40, .iload 5, 42, 0, 0), (42, .iload_n 0, 43, 0, 0), (43, .iload 6, 45, 0, 0), (45, .invokestatic 101, 48, 56, 2), (48, .invokestatic 371, 51, 51, 2), (51, .istore 5, 53, 0, 0), (53, .iinc 6 1, 56, 0, 0), (56, .goto (-32), 59, 24, 0), (59, .iload 5, 61, 0, 0), (61, .invokestatic 98, 64, 52, 1), (64, .iload_n 3, 65, 0, 0), (65, .invokestatic 98, 68, 52, 1), (68, .isub, 69, 0, 0), (69, .istore 6, 71, 0, 0), (71, .iload 6, 73, 0, 0), (73, .ifCond .gt 14, 76, 87, 0), (76, .iload 6, 78, 0, 0), (78, .ifCond .ne 21, 81, 99, 0), (81, .iload 5, 83, 0, 0), (83, .iload_n 3, 84, 0, 0), (84, .if_icmp .ge 15, 87, 99, 0), (87, .iload 5, 89, 0, 0), (89, .iload_n 1, 90, 0, 0), (90, .invokestatic 374, 93, 61, 2), (93, .ifCond .eq 6, 96, 99, 0), (96, .iload 5, 98, 0, 0), (98, .istore_n 3, 99, 0, 0), (99, .iinc 4 1, 102, 0, 0), (102, .goto (-92), 105, 10, 0), (105, .iload_n 3, 106, 0, 0), (106, .ireturn, 107, 0, 0)]
def kX11_mostShared : zM := (⟨"ReadAloud", "mostShared", "(II)I"⟩, prog_1_method_60_code, 7, (some .int), 10, qX11_mostShared)
def qX11_isLeftOf : List zE := [(0, .iload_n 0, 1, 0, 0), (1, .invokestatic 98, 4, 52, 1), (4, .istore_n 2, 5, 0, 0), (5, .iload_n 1, 6, 0, 0), (6, .invokestatic 98, 9, 52, 1), (9, .istore_n 3, 10, 0, 0), (10, .iconst 0, 11, 0, 0), (11, .istore 4, 13, 0, 0), (13, .iconst 0, 14, 0, 0), (14, .istore 5, 16, 0, 0), (16, .iload 5, 18, 0, 0), (18, .iload_n 3, 19, 0, 0), (19, .if_icmp .ge 33, 22, 52, 0), (22, .iload 4, 24, 0, 0), (24, .iload_n 2, 25, 0, 0), (25, .if_icmp .ge 27, 28, 52, 0), (28, .iload_n 1, 29, 0, 0), (29, .iload 5, 31, 0, 0), (31, .invokestatic 101, 34, 56, 2), (34, .iload_n 0, 35, 0, 0), (35, .iload 4, 37, 0, 0), (37, .invokestatic 101, 40, 56, 2), (40, .if_icmp .ne 6, 43, 46, 0), (43, .iinc 4 1, 46, 0, 0), (46, .iinc 5 1, 49, 0, 0), (49, .goto (-33), 52, 16, 0), (52, .iload 4, 54, 0, 0), (54, .iload_n 2, 55, 0, 0), (55, .if_icmp .ne 7, 58, 62, 0), (58, .iconst 1, 59, 0, 0), (59, .goto 4, 62, 63, 0), (62, .iconst 0, 63, 0, 0), (63, .ireturn, 64, 0, 0)]
def kX11_isLeftOf : zM := (⟨"ReadAloud", "isLeftOf", "(II)Z"⟩, prog_1_method_61_code, 6, (some .boolean), 10, qX11_isLeftOf)
def qX8_init : List zE := [(0, .aload_n 0, 1, 0, 0), (1, .invokespecial 3, 4, 0, 99), (4, .aload_n 0, 5, 0, 0), (5, .sipush 600, 8, 0, 0), (8, .newarray .byte, 10, 0, 600), (10, .putfield 9, 13, 7, 0), (13, .aload_n 0, 14, 0, 0), (14, .iconst 0, 15, 0, 0), (15, .putfield 15, 18, 7, 1), (18, .aload_n 0, 19, 0, 0), (19, .iconst 0, 20, 0, 0), (20, .putfield 19, 23, 7, 2), (23, .aload_n 0, 24, 0, 0), (24, .iconst (-1), 25, 0, 0), (25, .putfield 22, 28, 7, 3), (28, .aload_n 0, 29, 0, 0), (29, .iconst 3, 30, 0, 0), (30, .newarray .int, 32, 1, 3), (32, .putfield 25, 35, 7, 4), (35, .aload_n 0, 36, 0, 0), (36, .iconst 2, 37, 0, 0), (37, .anewarray 29, 40, 3, 2), (40, .putfield 31, 43, 7, 5), (43, .aload_n 0, 44, 0, 0), (44, .iconst 2, 45, 0, 0), (45, .anewarray 35, 48, 4, 2), (48, .putfield 37, 51, 7, 6), (51, .aload_n 0, 52, 0, 0), (52, .iconst 2, 53, 0, 0), (53, .anewarray 41, 56, 5, 2), (56, .putfield 43, 59, 7, 7), (59, .return_, 60, 0, 0)]
def kX8_init : zM := (⟨"ReadAloud$Told", "<init>", "()V"⟩, prog_10_method_1_code, 1, none, 7, qX8_init)
def qX8_putBytes : List zE := [(0, .bipush 24, 2, 0, 0), (2, .istore_n 2, 3, 0, 0), (3, .iload_n 2, 4, 0, 0), (4, .ifCond .lt 42, 7, 46, 0), (7, .aload_n 0, 8, 0, 0), (8, .getfield 15, 11, 7, 1), (11, .sipush 600, 14, 0, 0), (14, .if_icmp .ge 32, 17, 46, 0), (17, .aload_n 0, 18, 0, 0), (18, .getfield 9, 21, 7, 0), (21, .aload_n 0, 22, 0, 0), (22, .getfield 15, 25, 7, 1), (25, .iload_n 1, 26, 0, 0), (26, .iload_n 2, 27, 0, 0), (27, .iushr, 28, 0, 0), (28, .i2b, 29, 0, 0), (29, .bastore, 30, 0, 0), (30, .aload_n 0, 31, 0, 0), (31, .dup, 32, 0, 0), (32, .getfield 15, 35, 7, 1), (35, .iconst 1, 36, 0, 0), (36, .iadd, 37, 0, 0), (37, .putfield 15, 40, 7, 1), (40, .iinc 2 (-8), 43, 0, 0), (43, .goto (-40), 46, 3, 0), (46, .return_, 47, 0, 0)]
def kX8_putBytes : zM := (⟨"ReadAloud$Told", "putBytes", "(I)V"⟩, prog_10_method_2_code, 3, none, 7, qX8_putBytes)
def qX8_becomes : List zE := [(0, .aload_n 1, 1, 0, 0), (1, .getfield 9, 4, 7, 0), (4, .iconst 0, 5, 0, 0), (5, .aload_n 0, 6, 0, 0), (6, .getfield 9, 9, 7, 0), (9, .iconst 0, 10, 0, 0), (10, .sipush 600, 13, 0, 0), (13, .invokestatic 47, 16, 0, 102), (16, .aload_n 0, 17, 0, 0), (17, .aload_n 1, 18, 0, 0), (18, .getfield 15, 21, 7, 1), (21, .putfield 15, 24, 7, 1), (24, .aload_n 0, 25, 0, 0), (25, .aload_n 1, 26, 0, 0), (26, .getfield 19, 29, 7, 2), (29, .putfield 19, 32, 7, 2), (32, .aload_n 0, 33, 0, 0), (33, .aload_n 1, 34, 0, 0), (34, .getfield 22, 37, 7, 3), (37, .putfield 22, 40, 7, 3), (40, .aload_n 1, 41, 0, 0), (41, .getfield 25, 44, 7, 4), (44, .iconst 0, 45, 0, 0), (45, .aload_n 0, 46, 0, 0), (46, .getfield 25, 49, 7, 4), (49, .iconst 0, 50, 0, 0), (50, .iconst 3, 51, 0, 0), (51, .invokestatic 47, 54, 0, 102), (54, .iconst 0, 55, 0, 0), (55, .istore_n 2, 56, 0, 0), (56, .iload_n 2, 57, 0, 0), (57, .iconst 2, 58, 0, 0), (58, .if_icmp .ge 45, 61, 103, 0), (61, .aload_n 0, 62, 0, 0), (62, .getfield 31, 65, 7, 5), (65, .iload_n 2, 66, 0, 0), (66, .aload_n 1, 67, 0, 0), (67, .getfield 31, 70, 7, 5), (70, .iload_n 2, 71, 0, 0), (71, .aaload, 72, 0, 0), (72, .aastore, 73, 0, 0), (73, .aload_n 0, 74, 0, 0), (74, .getfield 37, 77, 7, 6), (77, .iload_n 2, 78, 0, 0), (78, .aload_n 1, 79, 0, 0), (79, .getfield 37, 82, 7, 6), (82, .iload_n 2, 83, 0, 0), (83, .aaload, 84, 0, 0), (84, .aastore, 85, 0, 0), (85, .aload_n 0, 86, 0, 0), (86, .getfield 43, 89, 7, 7), (89, .iload_n 2, 90, 0, 0), (90, .aload_n 1, 91, 0, 0), (91, .getfield 43, 94, 7, 7), (94, .iload_n 2, 95, 0, 0), (95, .aaload, 96, 0, 0), (96, .aastore, 97, 0, 0), (97, .iinc 2 1, 100, 0, 0), (100, .goto (-44), 103, 56, 0), (103, .return_, 104, 0, 0)]
def kX8_becomes : zM := (⟨"ReadAloud$Told", "becomes", "(LReadAloud$Told;)V"⟩, prog_10_method_3_code, 3, none, 7, qX8_becomes)
def qX7_init : List zE := [(0, .aload_n 0, 1, 0, 0), (1, .invokespecial 3, 4, 0, 99), (4, .aload_n 0, 5, 0, 0), (5, .aconst_null, 6, 0, 0), (6, .putfield 9, 9, 6, 0), (9, .aload_n 0, 10, 0, 0), (10, .iconst 0, 11, 0, 0), (11, .putfield 15, 14, 6, 1), (14, .aload_n 0, 15, 0, 0), (15, .iconst 0, 16, 0, 0), (16, .putfield 19, 19, 6, 2), (19, .aload_n 0, 20, 0, 0), (20, .iconst 0, 21, 0, 0), (21, .putfield 22, 24, 6, 3), (24, .aload_n 0, 25, 0, 0), (25, .iconst 0, 26, 0, 0), (26, .putfield 25, 29, 6, 4), (29, .aload_n 0, 30, 0, 0), (30, .iconst 0, 31, 0, 0), (31, .putfield 28, 34, 6, 5), (34, .aload_n 0, 35, 0, 0), (35, .iconst 0, 36, 0, 0), (36, .putfield 31, 39, 6, 6), (39, .aload_n 0, 40, 0, 0), (40, .iconst (-1), 41, 0, 0), (41, .putfield 34, 44, 6, 7), (44, .return_, 45, 0, 0)]
def kX7_init : zM := (⟨"ReadAloud$Teller", "<init>", "()V"⟩, prog_9_method_1_code, 1, none, 6, qX7_init)
def qX7_tell : List zE := [(0, .aload_n 0, 1, 0, 0), (1, .aload_n 1, 2, 0, 0), (2, .putfield 9, 5, 6, 0), (5, .aload_n 0, 6, 0, 0), (6, .iload_n 2, 7, 0, 0), (7, .putfield 15, 10, 6, 1), (10, .aload_n 0, 11, 0, 0), (11, .iconst 0, 12, 0, 0), (12, .putfield 19, 15, 6, 2), (15, .aload_n 0, 16, 0, 0), (16, .iconst 0, 17, 0, 0), (17, .putfield 31, 20, 6, 6), (20, .aload_n 0, 21, 0, 0), (21, .iconst (-1), 22, 0, 0), (22, .putfield 34, 25, 6, 7), (25, .aload_n 0, 26, 0, 0), (26, .invokevirtual 37, 29, 68, 0), (29, .iconst 0, 30, 0, 0), (30, .istore 4, 32, 0, 0), (32, .iload 4, 34, 0, 0), (34, .sipush 600, 37, 0, 0), (37, .if_icmp .gt 39, 40, 76, 0), (40, .aload_n 0, 41, 0, 0), (41, .getfield 22, 44, 6, 3), (44, .ifCond .eq 32, 47, 76, 0), (47, .aload_n 0, 48, 0, 0), (48, .aload_n 3, 49, 0, 0), (49, .invokevirtual 40, 52, 67, 1), (52, .ifCond .ne 18, 55, 70, 0), (55, .aload_n 0, 56, 0, 0), (56, .iconst 1, 57, 0, 0), (57, .putfield 31, 60, 6, 6), (60, .aload_n 0, 61, 0, 0), (61, .aload_n 0, 62, 0, 0), (62, .getfield 25, 65, 6, 4), (65, .putfield 34, 68, 6, 7), (68, .iconst 0, 69, 0, 0), (69, .ireturn, 70, 0, 0), (70, .iinc 4 1, 73, 0, 0), (73, .goto (-41), 76, 32, 0), (76, .aload_n 0, 77, 0, 0), (77, .getfield 31, 80, 6, 6), (80, .ifCond .ne 7, 83, 87, 0), (83, .iconst 1, 84, 0, 0), (84, .goto 4, 87, 88, 0), (87, .iconst 0, 88, 0, 0), (88, .ireturn, 89, 0, 0)]
def kX7_tell : zM := (⟨"ReadAloud$Teller", "tell", "([BILReadAloud$Lines;)Z"⟩, prog_9_method_2_code, 5, (some .boolean), 6, qX7_tell)
def qX7_tellLine : List zE := [(0, .aload_n 0, 1, 0, 0), (1, .getfield 22, 4, 6, 3), (4, .iconst 1, 5, 0, 0), (5, .if_icmp .ne 11, 8, 16, 0), (8, .aload_n 1, 9, 0, 0), (9, .aload_n 0, 10, 0, 0), (13, .goto 4, 16, 17, 0), (16, .iconst (-1), 17, 0, 0), (17, .istore_n 2, 18, 0, 0), (18, .iload_n 2, 19, 0, 0), (19, .iconst (-1), 20, 0, 0), (20, .if_icmp .ne 5, 23, 25, 0), (23, .iconst 0, 24, 0, 0), (24, .ireturn, 25, 0, 0), (25, .aload_n 1, 26, 0, 0), (26, .iload_n 2, 27, 0, 0), (27, .aload_n 0, 28, 0, 0), (31, .aload_n 0, 32, 0, 0), (32, .invokevirtual 37, 35, 68, 0), (35, .aload_n 1, 36, 0, 0), (36, .iload_n 2, 37, 0, 0), (40, .istore_n 3, 41, 0, 0), (41, .iconst 0, 42, 0, 0), (42, .istore 4, 44, 0, 0), (44, .iload 4, 46, 0, 0), (46, .iload_n 3, 47, 0, 0), (47, .if_icmp .ge 29, 50, 76, 0), (50, .aload_n 0, 51, 0, 0), (51, .getfield 22, 54, 6, 3), (54, .iconst 2, 55, 0, 0), (55, .if_icmp .ne 21, 58, 76, 0), (58, .aload_n 1, 59, 0, 0), (59, .iload_n 2, 60, 0, 0), (60, .iload 4, 62, 0, 0), (62, .aload_n 0, 63, 0, 0), (66, .iinc 4 1, 69, 0, 0), (69, .aload_n 0, 70, 0, 0), (70, .invokevirtual 37, 73, 68, 0), (73, .goto (-29), 76, 44, 0), (76, .iload 4, 78, 0, 0), (78, .aload_n 1, 79, 0, 0), (79, .iload_n 2, 80, 0, 0), (83, .if_icmp .lt 11, 86, 94, 0), (86, .aload_n 0, 87, 0, 0), (87, .getfield 22, 90, 6, 3), (90, .iconst 3, 91, 0, 0), (91, .if_icmp .eq 5, 94, 96, 0), (94, .iconst 0, 95, 0, 0), (95, .ireturn, 96, 0, 0), (96, .aload_n 0, 97, 0, 0), (97, .invokevirtual 37, 100, 68, 0), (100, .iconst 1, 101, 0, 0), (101, .ireturn, 102, 0, 0)]
def kX7_tellLine : zM := (⟨"ReadAloud$Teller", "tellLine", "(LReadAloud$Lines;)Z"⟩, prog_9_method_3_code, 5, (some .boolean), 6, qX7_tellLine)
def qX7_advance : List zE := [(0, .aload_n 0, 1, 0, 0), (1, .getfield 19, 4, 6, 2), (4, .aload_n 0, 5, 0, 0), (5, .getfield 15, 8, 6, 1), (8, .if_icmp .ge 44, 11, 52, 0), (11, .aload_n 0, 12, 0, 0), (12, .getfield 9, 15, 6, 0), (15, .aload_n 0, 16, 0, 0), (16, .getfield 19, 19, 6, 2), (19, .baload, 20, 0, 0), (20, .bipush 10, 22, 0, 0), (22, .if_icmp .eq 17, 25, 39, 0), (25, .aload_n 0, 26, 0, 0), (26, .getfield 9, 29, 6, 0), (29, .aload_n 0, 30, 0, 0), (30, .getfield 19, 33, 6, 2), (33, .baload, 34, 0, 0), (34, .bipush 32, 36, 0, 0), (36, .if_icmp .ne 16, 39, 52, 0), (39, .aload_n 0, 40, 0, 0), (40, .dup, 41, 0, 0), (41, .getfield 19, 44, 6, 2), (44, .iconst 1, 45, 0, 0), (45, .iadd, 46, 0, 0), (46, .putfield 19, 49, 6, 2), (49, .goto (-49), 52, 0, 0), (52, .aload_n 0, 53, 0, 0), (53, .aload_n 0, 54, 0, 0), (54, .getfield 19, 57, 6, 2), (57, .putfield 25, 60, 6, 4), (60, .aload_n 0, 61, 0, 0), (61, .getfield 19, 64, 6, 2), (64, .aload_n 0, 65, 0, 0), (65, .getfield 15, 68, 6, 1), (68, .if_icmp .lt 11, 71, 79, 0), (71, .aload_n 0, 72, 0, 0), (72, .iconst 0, 73, 0, 0), (73, .putfield 22, 76, 6, 3), (76, .goto 105, 79, 181, 0), (79, .aload_n 0, 80, 0, 0), (80, .aload_n 0, 81, 0, 0), (81, .getfield 19, 84, 6, 2), (84, .invokevirtual 65, 87, 70, 1), (87, .ifCond .eq 43, 90, 130, 0), (90, .aload_n 0, 91, 0, 0), (91, .iconst 1, 92, 0, 0), (92, .putfield 22, 95, 6, 3), (95, .aload_n 0, 96, 0, 0), (96, .getfield 19, 99, 6, 2), (99, .aload_n 0, 100, 0, 0), (100, .getfield 15, 103, 6, 1), (103, .if_icmp .ge 78, 106, 181, 0), (106, .aload_n 0, 107, 0, 0), (107, .aload_n 0, 108, 0, 0), (108, .getfield 19, 111, 6, 2), (111, .invokevirtual 65, 114, 70, 1), (114, .ifCond .eq 67, 117, 181, 0), (117, .aload_n 0, 118, 0, 0), (118, .dup, 119, 0, 0), (119, .getfield 19, 122, 6, 2), (122, .iconst 1, 123, 0, 0), (123, .iadd, 124, 0, 0), (124, .putfield 19, 127, 6, 2), (127, .goto (-32), 130, 95, 0), (130, .aload_n 0, 131, 0, 0), (131, .aload_n 0, 132, 0, 0), (132, .getfield 19, 135, 6, 2), (135, .invokevirtual 69, 138, 71, 1), (138, .ifCond .eq 10, 141, 148, 0), (141, .aload_n 0, 142, 0, 0), (142, .invokevirtual 72, 145, 69, 0), (145, .goto 36, 148, 181, 0), (148, .aload_n 0, 149, 0, 0), (149, .aload_n 0, 150, 0, 0), (150, .getfield 9, 153, 6, 0), (153, .aload_n 0, 154, 0, 0), (154, .getfield 19, 157, 6, 2), (157, .baload, 158, 0, 0), (158, .bipush 59, 160, 0, 0), (160, .if_icmp .ne 7, 163, 167, 0), (163, .iconst 3, 164, 0, 0), (164, .goto 4, 167, 168, 0), (167, .iconst 4, 168, 0, 0), (168, .putfield 22, 171, 6, 3), (171, .aload_n 0, 172, 0, 0), (172, .dup, 173, 0, 0), (173, .getfield 19, 176, 6, 2), (176, .iconst 1, 177, 0, 0), (177, .iadd, 178, 0, 0), (178, .putfield 19, 181, 6, 2), (181, .return_, 182, 0, 0)]
def kX7_advance : zM := (⟨"ReadAloud$Teller", "advance", "()V"⟩, prog_9_method_4_code, 1, none, 6, qX7_advance)
def qX7_advanceDigits : List zE := [(0, .aload_n 0, 1, 0, 0), (1, .iconst 0, 2, 0, 0), (2, .putfield 28, 5, 6, 5), (5, .aload_n 0, 6, 0, 0), (6, .getfield 19, 9, 6, 2), (9, .aload_n 0, 10, 0, 0), (10, .getfield 15, 13, 6, 1), (13, .if_icmp .ge 64, 16, 77, 0), (16, .aload_n 0, 17, 0, 0), (17, .aload_n 0, 18, 0, 0), (18, .getfield 19, 21, 6, 2), (21, .invokevirtual 69, 24, 71, 1), (24, .ifCond .eq 53, 27, 77, 0), (27, .aload_n 0, 28, 0, 0), (28, .getfield 19, 31, 6, 2), (31, .aload_n 0, 32, 0, 0), (32, .getfield 25, 35, 6, 4), (35, .isub, 36, 0, 0), (36, .iconst 2, 37, 0, 0), (37, .if_icmp .ge 27, 40, 64, 0), (40, .aload_n 0, 41, 0, 0), (41, .aload_n 0, 42, 0, 0), (42, .getfield 28, 45, 6, 5), (45, .bipush 10, 47, 0, 0), (47, .imul, 48, 0, 0), (48, .aload_n 0, 49, 0, 0), (49, .getfield 9, 52, 6, 0), (52, .aload_n 0, 53, 0, 0), (53, .getfield 19, 56, 6, 2), (56, .baload, 57, 0, 0), (57, .bipush 48, 59, 0, 0), (59, .isub, 60, 0, 0), (60, .iadd, 61, 0, 0), (61, .putfield 28, 64, 6, 5), (64, .aload_n 0, 65, 0, 0), (65, .dup, 66, 0, 0), (66, .getfield 19, 69, 6, 2), (69, .iconst 1, 70, 0, 0), (70, .iadd, 71, 0, 0), (71, .putfield 19, 74, 6, 2), (74, .goto (-69), 77, 5, 0), (77, .aload_n 0, 78, 0, 0), (78, .aload_n 0, 79, 0, 0), (79, .getfield 19, 82, 6, 2), (82, .aload_n 0, 83, 0, 0), (83, .getfield 25, 86, 6, 4), (86, .isub, 87, 0, 0), (87, .iconst 2, 88, 0, 0), (88, .if_icmp .gt 7, 91, 95, 0), (91, .iconst 2, 92, 0, 0), (92, .goto 4, 95, 96, 0), (95, .iconst 4, 96, 0, 0), (96, .putfield 22, 99, 6, 3), (99, .return_, 100, 0, 0)]
def kX7_advanceDigits : zM := (⟨"ReadAloud$Teller", "advanceDigits", "()V"⟩, prog_9_method_5_code, 1, none, 6, qX7_advanceDigits)
def qX7_isLetter : List zE := [(0, .aload_n 0, 1, 0, 0), (1, .getfield 9, 4, 6, 0), (4, .iload_n 1, 5, 0, 0), (5, .baload, 6, 0, 0), (6, .bipush 97, 8, 0, 0), (8, .if_icmp .lt 18, 11, 26, 0), (11, .aload_n 0, 12, 0, 0), (12, .getfield 9, 15, 6, 0), (15, .iload_n 1, 16, 0, 0), (16, .baload, 17, 0, 0), (17, .bipush 122, 19, 0, 0), (19, .if_icmp .gt 7, 22, 26, 0), (22, .iconst 1, 23, 0, 0), (23, .goto 4, 26, 27, 0), (26, .iconst 0, 27, 0, 0), (27, .ireturn, 28, 0, 0)]
def kX7_isLetter : zM := (⟨"ReadAloud$Teller", "isLetter", "(I)Z"⟩, prog_9_method_6_code, 2, (some .boolean), 6, qX7_isLetter)
def qX7_isDigit : List zE := [(0, .aload_n 0, 1, 0, 0), (1, .getfield 9, 4, 6, 0), (4, .iload_n 1, 5, 0, 0), (5, .baload, 6, 0, 0), (6, .bipush 48, 8, 0, 0), (8, .if_icmp .lt 18, 11, 26, 0), (11, .aload_n 0, 12, 0, 0), (12, .getfield 9, 15, 6, 0), (15, .iload_n 1, 16, 0, 0), (16, .baload, 17, 0, 0), (17, .bipush 57, 19, 0, 0), (19, .if_icmp .gt 7, 22, 26, 0), (22, .iconst 1, 23, 0, 0), (23, .goto 4, 26, 27, 0), (26, .iconst 0, 27, 0, 0), (27, .ireturn, 28, 0, 0)]
def kX7_isDigit : zM := (⟨"ReadAloud$Teller", "isDigit", "(I)Z"⟩, prog_9_method_7_code, 2, (some .boolean), 6, qX7_isDigit)
def qX7_isAtHand : List zE := [(0, .aload_n 0, 1, 0, 0), (1, .getfield 19, 4, 6, 2), (4, .aload_n 0, 5, 0, 0), (5, .getfield 25, 8, 6, 4), (8, .isub, 9, 0, 0), (9, .aload_n 1, 10, 0, 0), (13, .if_icmp .eq 5, 16, 18, 0), (16, .iconst 0, 17, 0, 0), (17, .ireturn, 18, 0, 0), (18, .iconst 0, 19, 0, 0), (19, .istore_n 2, 20, 0, 0), (20, .iload_n 2, 21, 0, 0), (21, .aload_n 1, 22, 0, 0), (25, .if_icmp .ge 30, 28, 55, 0), (28, .aload_n 0, 29, 0, 0), (29, .getfield 9, 32, 6, 0), (32, .aload_n 0, 33, 0, 0), (33, .getfield 25, 36, 6, 4), (36, .iload_n 2, 37, 0, 0), (37, .iadd, 38, 0, 0), (38, .baload, 39, 0, 0), (39, .aload_n 1, 40, 0, 0), (40, .iload_n 2, 41, 0, 0), (44, .if_icmp .eq 5, 47, 49, 0), (47, .iconst 0, 48, 0, 0), (48, .ireturn, 49, 0, 0), (49, .iinc 2 1, 52, 0, 0), (52, .goto (-32), 55, 20, 0), (55, .iconst 1, 56, 0, 0), (56, .ireturn, 57, 0, 0)]
def kX7_isAtHand : zM := (⟨"ReadAloud$Teller", "isAtHand", "(Ljava/lang/String;)Z"⟩, prog_9_method_8_code, 3, (some .boolean), 6, qX7_isAtHand)
def qX7_isWithin : List zE := [(0, .aload_n 0, 1, 0, 0), (1, .getfield 28, 4, 6, 5), (4, .iload_n 1, 5, 0, 0), (5, .if_icmp .lt 11, 8, 16, 0), (8, .aload_n 0, 9, 0, 0), (9, .getfield 28, 12, 6, 5), (12, .iload_n 2, 13, 0, 0), (13, .if_icmp .le 10, 16, 23, 0), (16, .aload_n 0, 17, 0, 0), (17, .iconst 2, 18, 0, 0), (18, .invokevirtual 84, 21, 74, 1), (21, .iconst 0, 22, 0, 0), (22, .ireturn, 23, 0, 0), (23, .iconst 1, 24, 0, 0), (24, .ireturn, 25, 0, 0)]
def kX7_isWithin : zM := (⟨"ReadAloud$Teller", "isWithin", "(II)Z"⟩, prog_9_method_9_code, 3, (some .boolean), 6, qX7_isWithin)
def qX7_faultHere : List zE := [(0, .aload_n 0, 1, 0, 0), (1, .getfield 31, 4, 6, 6), (4, .ifCond .eq 33, 7, 37, 0), (7, .aload_n 0, 8, 0, 0), (8, .getfield 25, 11, 6, 4), (11, .aload_n 0, 12, 0, 0), (12, .getfield 34, 15, 6, 7), (15, .if_icmp .lt 22, 18, 37, 0), (18, .aload_n 0, 19, 0, 0), (19, .getfield 25, 22, 6, 4), (22, .aload_n 0, 23, 0, 0), (23, .getfield 34, 26, 6, 7), (26, .if_icmp .ne 24, 29, 50, 0), (29, .iload_n 1, 30, 0, 0), (30, .aload_n 0, 31, 0, 0), (31, .getfield 31, 34, 6, 6), (34, .if_icmp .ge 16, 37, 50, 0), (37, .aload_n 0, 38, 0, 0), (38, .iload_n 1, 39, 0, 0), (39, .putfield 31, 42, 6, 6), (42, .aload_n 0, 43, 0, 0), (43, .aload_n 0, 44, 0, 0), (44, .getfield 25, 47, 6, 4), (47, .putfield 34, 50, 6, 7), (50, .return_, 51, 0, 0)]
def kX7_faultHere : zM := (⟨"ReadAloud$Teller", "faultHere", "(I)V"⟩, prog_9_method_10_code, 2, none, 6, qX7_faultHere)
def qX1_init : List zE := [(0, .aload_n 0, 1, 0, 0), (1, .invokespecial 3, 4, 0, 99), (4, .aload_n 0, 5, 0, 0), (5, .aconst_null, 6, 0, 0), (6, .putfield 9, 9, 1, 0), (9, .aload_n 0, 10, 0, 0), (10, .iconst 0, 11, 0, 0), (11, .putfield 15, 14, 1, 1), (14, .aload_n 0, 15, 0, 0), (15, .iconst 0, 16, 0, 0), (16, .putfield 19, 19, 1, 2), (19, .aload_n 0, 20, 0, 0), (20, .iconst 0, 21, 0, 0), (21, .putfield 22, 24, 1, 3), (24, .aload_n 0, 25, 0, 0), (25, .iconst 0, 26, 0, 0), (26, .putfield 25, 29, 1, 4), (29, .aload_n 0, 30, 0, 0), (30, .iconst 4, 31, 0, 0), (31, .newarray .int, 33, 1, 4), (33, .putfield 28, 36, 1, 5), (36, .aload_n 0, 37, 0, 0), (37, .iconst 5, 38, 0, 0), (38, .newarray .int, 40, 1, 5), (40, .putfield 32, 43, 1, 6), (43, .return_, 44, 0, 0)]
def kX1_init : zM := (⟨"ReadAloud$Course", "<init>", "()V"⟩, prog_3_method_1_code, 1, none, 1, qX1_init)
def qX1_begin : List zE := [(0, .aload_n 0, 1, 0, 0), (1, .aload_n 1, 2, 0, 0), (2, .putfield 9, 5, 1, 0), (5, .aload_n 0, 6, 0, 0), (6, .iconst 0, 7, 0, 0), (7, .putfield 15, 10, 1, 1), (10, .aload_n 0, 11, 0, 0), (11, .iconst 0, 12, 0, 0), (12, .putfield 19, 15, 1, 2), (15, .aload_n 0, 16, 0, 0), (16, .iconst 0, 17, 0, 0), (17, .putfield 22, 20, 1, 3), (20, .aload_n 0, 21, 0, 0), (21, .getfield 28, 24, 1, 5), (24, .aload_n 1, 25, 0, 0), (25, .getfield 35, 28, 0, 0), (31, .aload_n 0, 32, 0, 0), (32, .getfield 32, 35, 1, 6), (35, .iconst 0, 36, 0, 0), (39, .return_, 40, 0, 0)]
def kX1_begin : zM := (⟨"ReadAloud$Course", "begin", "(LReadAloud$Book;)V"⟩, prog_3_method_2_code, 2, none, 1, qX1_begin)
def qX1_doFirst : List zE := [(0, .iconst 0, 1, 0, 0), (1, .istore_n 3, 2, 0, 0), (2, .iload_n 3, 3, 0, 0), (3, .iload_n 2, 4, 0, 0), (4, .if_icmp .ge 44, 7, 48, 0), (7, .iload_n 3, 8, 0, 0), (8, .aload_n 1, 9, 0, 0), (9, .getfield 46, 12, 9, 0), (12, .if_icmp .ge 36, 15, 48, 0), (15, .aload_n 0, 16, 0, 0), (16, .aload_n 1, 17, 0, 0), (17, .getfield 51, 20, 9, 1), (20, .iload_n 3, 21, 0, 0), (21, .iaload, 22, 0, 0), (22, .aload_n 1, 23, 0, 0), (23, .getfield 54, 26, 9, 2), (26, .iload_n 3, 27, 0, 0), (27, .iaload, 28, 0, 0), (28, .aload_n 1, 29, 0, 0), (29, .getfield 57, 32, 9, 3), (32, .iload_n 3, 33, 0, 0), (33, .iaload, 34, 0, 0), (34, .invokevirtual 60, 37, 78, 3), (37, .ifCond .ne 5, 40, 42, 0), (40, .iload_n 3, 41, 0, 0), (41, .ireturn, 42, 0, 0), (42, .iinc 3 1, 45, 0, 0), (45, .goto (-43), 48, 2, 0), (48, .iload_n 2, 49, 0, 0), (49, .ireturn, 50, 0, 0)]
def kX1_doFirst : zM := (⟨"ReadAloud$Course", "doFirst", "(LReadAloud$Year;I)I"⟩, prog_3_method_3_code, 4, (some .int), 1, qX1_doFirst)
def qX1_doDeed : List zE := [(0, .iload_n 1, 1, 0, 0), (1, .iconst 5, 2, 0, 0), (2, .if_icmp .eq 14, 5, 16, 0), (5, .iload_n 2, 6, 0, 0), (6, .ifCond .lt 8, 9, 14, 0), (9, .iload_n 2, 10, 0, 0), (10, .iconst 4, 11, 0, 0), (11, .if_icmp .lt 5, 14, 16, 0), (14, .iconst 0, 15, 0, 0), (15, .ireturn, 16, 0, 0), (16, .iload_n 1, 17, 0, 0), (17, .tableswitch 108 0 4 #[35, 42, 49, 56, 81], 52, 0, 0), (52, .aload_n 0, 53, 0, 0), (53, .iload_n 2, 54, 0, 0), (54, .iload_n 3, 55, 0, 0), (55, .invokevirtual 64, 58, 79, 2), (58, .ireturn, 59, 0, 0), (59, .aload_n 0, 60, 0, 0), (60, .iload_n 2, 61, 0, 0), (61, .iload_n 3, 62, 0, 0), (62, .invokevirtual 68, 65, 80, 2), (65, .ireturn, 66, 0, 0), (66, .aload_n 0, 67, 0, 0), (67, .iload_n 2, 68, 0, 0), (68, .putfield 19, 71, 1, 2), (71, .iconst 1, 72, 0, 0), (72, .ireturn, 73, 0, 0), (73, .iload_n 2, 74, 0, 0), (74, .aload_n 0, 75, 0, 0), (75, .getfield 19, 78, 1, 2), (78, .if_icmp .ne 5, 81, 83, 0), (81, .iconst 0, 82, 0, 0), (82, .ireturn, 83, 0, 0), (83, .aload_n 0, 84, 0, 0), (84, .getfield 28, 87, 1, 5), (87, .iload_n 2, 88, 0, 0), (88, .aload_n 0, 89, 0, 0), (89, .getfield 9, 92, 1, 0), (92, .getfield 35, 95, 0, 0), (95, .iastore, 96, 0, 0), (96, .iconst 1, 97, 0, 0), (97, .ireturn, 98, 0, 0), (98, .aload_n 0, 99, 0, 0), (99, .getfield 22, 102, 1, 3), (102, .iload_n 2, 103, 0, 0), (103, .invokestatic 71, 106, 49, 2), (106, .ifCond .eq 5, 109, 111, 0), (109, .iconst 0, 110, 0, 0), (110, .ireturn, 111, 0, 0), (111, .aload_n 0, 112, 0, 0), (112, .dup, 113, 0, 0), (113, .getfield 22, 116, 1, 3), (116, .iconst 1, 117, 0, 0), (117, .iload_n 2, 118, 0, 0), (118, .ishl, 119, 0, 0), (119, .ior, 120, 0, 0), (120, .putfield 22, 123, 1, 3), (123, .iconst 1, 124, 0, 0), (124, .ireturn, 125, 0, 0), (125, .aload_n 0, 126, 0, 0), (126, .getfield 15, 129, 1, 1), (129, .bipush 99, 131, 0, 0), (131, .if_icmp .lt 5, 134, 136, 0), (134, .iconst 0, 135, 0, 0), (135, .ireturn, 136, 0, 0), (136, .aload_n 0, 137, 0, 0), (137, .dup, 138, 0, 0), (138, .getfield 15, 141, 1, 1), (141, .iconst 1, 142, 0, 0), (142, .iadd, 143, 0, 0), (143, .putfield 15, 146, 1, 1), (146, .iconst 1, 147, 0, 0), (147, .ireturn, 148, 0, 0)]
def kX1_doDeed : zM := (⟨"ReadAloud$Course", "doDeed", "(III)Z"⟩, prog_3_method_4_code, 4, (some .boolean), 1, qX1_doDeed)
def qX1_doRead : List zE := [(0, .aload_n 0, 1, 0, 0), (1, .getfield 9, 4, 1, 0), (4, .iload_n 2, 5, 0, 0), (5, .invokevirtual 74, 8, 96, 1), (8, .ifCond .ne 5, 11, 13, 0), (11, .iconst 0, 12, 0, 0), (12, .ireturn, 13, 0, 0), (13, .aload_n 0, 14, 0, 0), (14, .getfield 32, 17, 1, 6), (17, .iload_n 2, 18, 0, 0), (18, .dup2, 19, 0, 0), (19, .iaload, 20, 0, 0), (20, .iconst 1, 21, 0, 0), (21, .iadd, 22, 0, 0), (22, .iastore, 23, 0, 0), (23, .aload_n 0, 24, 0, 0), (24, .getfield 22, 27, 1, 3), (27, .iload_n 1, 28, 0, 0), (28, .invokestatic 71, 31, 49, 2), (31, .ifCond .eq 20, 34, 51, 0), (34, .aload_n 0, 35, 0, 0), (35, .dup, 36, 0, 0), (36, .getfield 22, 39, 1, 3), (39, .iconst 1, 40, 0, 0), (40, .iload_n 1, 41, 0, 0), (41, .ishl, 42, 0, 0), (42, .iconst (-1), 43, 0, 0), (43, .ixor, 44, 0, 0), (44, .iand, 45, 0, 0), (45, .putfield 22, 48, 1, 3), (48, .goto 23, 51, 71, 0), (51, .aload_n 0, 52, 0, 0), (52, .getfield 28, 55, 1, 5), (55, .iload_n 1, 56, 0, 0), (56, .aload_n 0, 57, 0, 0), (57, .getfield 9, 60, 1, 0), (60, .iload_n 2, 61, 0, 0), (61, .aload_n 0, 62, 0, 0), (62, .getfield 28, 65, 1, 5), (65, .iload_n 1, 66, 0, 0), (66, .iaload, 67, 0, 0), (67, .invokevirtual 78, 70, 100, 2), (70, .iastore, 71, 0, 0), (71, .iconst 1, 72, 0, 0), (72, .ireturn, 73, 0, 0)]
def kX1_doRead : zM := (⟨"ReadAloud$Course", "doRead", "(II)Z"⟩, prog_3_method_5_code, 3, (some .boolean), 1, qX1_doRead)
def qX1_doCopy : List zE := [(0, .iload_n 2, 1, 0, 0), (1, .ifCond .lt 13, 4, 14, 0), (4, .iload_n 2, 5, 0, 0), (5, .iconst 4, 6, 0, 0), (6, .if_icmp .ge 8, 9, 14, 0), (9, .iload_n 1, 10, 0, 0), (10, .iload_n 2, 11, 0, 0), (11, .if_icmp .ne 5, 14, 16, 0), (14, .iconst 0, 15, 0, 0), (15, .ireturn, 16, 0, 0), (16, .aload_n 0, 17, 0, 0), (17, .getfield 28, 20, 1, 5), (20, .iload_n 2, 21, 0, 0), (21, .aload_n 0, 22, 0, 0), (22, .getfield 28, 25, 1, 5), (25, .iload_n 1, 26, 0, 0), (26, .iaload, 27, 0, 0), (27, .iastore, 28, 0, 0), (28, .iconst 1, 29, 0, 0), (29, .ireturn, 30, 0, 0)]
def kX1_doCopy : zM := (⟨"ReadAloud$Course", "doCopy", "(II)Z"⟩, prog_3_method_6_code, 3, (some .boolean), 1, qX1_doCopy)
def qX1_draw : List zE := [(0, .aload_n 0, 1, 0, 0), (1, .iload_n 1, 2, 0, 0), (2, .putfield 25, 5, 1, 4), (5, .iconst 0, 6, 0, 0), (6, .istore_n 3, 7, 0, 0), (7, .iload_n 3, 8, 0, 0), (8, .iload_n 2, 9, 0, 0), (9, .if_icmp .ge 104, 12, 113, 0), (12, .aload_n 0, 13, 0, 0), (13, .iconst 4, 14, 0, 0), (14, .invokevirtual 82, 17, 82, 1), (17, .istore 4, 19, 0, 0), (19, .aload_n 0, 20, 0, 0), (20, .bipush 8, 22, 0, 0), (22, .invokevirtual 82, 25, 82, 1), (25, .istore 5, 27, 0, 0), (27, .iload 5, 29, 0, 0), (29, .iconst 4, 30, 0, 0), (30, .if_icmp .gt 35, 33, 65, 0), (33, .aload_n 0, 34, 0, 0), (34, .getfield 9, 37, 1, 0), (37, .getfield 86, 40, 0, 1), (40, .ifCond .le 67, 43, 107, 0), (43, .aload_n 0, 44, 0, 0), (44, .iconst 0, 45, 0, 0), (45, .iload 4, 47, 0, 0), (47, .aload_n 0, 48, 0, 0), (48, .aload_n 0, 49, 0, 0), (49, .getfield 9, 52, 1, 0), (52, .getfield 86, 55, 0, 1), (55, .invokevirtual 82, 58, 82, 1), (58, .invokevirtual 60, 61, 78, 3), (61, .pop, 62, 0, 0), (62, .goto 45, 65, 107, 0), (65, .iload 5, 67, 0, 0), (67, .iconst 5, 68, 0, 0), (68, .if_icmp .ne 19, 71, 87, 0), (71, .aload_n 0, 72, 0, 0), (72, .iconst 1, 73, 0, 0), (73, .iload 4, 75, 0, 0), (75, .aload_n 0, 76, 0, 0), (76, .iconst 4, 77, 0, 0), (77, .invokevirtual 82, 80, 82, 1), (80, .invokevirtual 60, 83, 78, 3), (83, .pop, 84, 0, 0), (84, .goto 23, 87, 107, 0), (87, .aload_n 0, 88, 0, 0), (88, .iload 5, 90, 0, 0), (90, .bipush 6, 92, 0, 0), (92, .if_icmp .ne 7, 95, 99, 0), (95, .iconst 4, 96, 0, 0), (96, .goto 4, 99, 100, 0), (99, .iconst 5, 100, 0, 0), (100, .iload 4, 102, 0, 0), (102, .iconst (-1), 103, 0, 0), (103, .invokevirtual 60, 106, 78, 3), (106, .pop, 107, 0, 0), (107, .iinc 3 1, 110, 0, 0), (110, .goto (-103), 113, 7, 0), (113, .return_, 114, 0, 0)]
def kX1_draw : zM := (⟨"ReadAloud$Course", "draw", "(II)V"⟩, prog_3_method_7_code, 6, none, 1, qX1_draw)
def qX1_drawBelow : List zE := [(0, .aload_n 0, 1, 0, 0), (1, .aload_n 0, 2, 0, 0), (2, .getfield 25, 5, 1, 4), (5, .ldc 89, 7, 1103515245, 0), (7, .imul, 8, 0, 0), (8, .sipush 12345, 11, 0, 0), (11, .iadd, 12, 0, 0), (12, .putfield 25, 15, 1, 4), (15, .iload_n 1, 16, 0, 0), (16, .ifCond .gt 7, 19, 23, 0), (19, .iconst 0, 20, 0, 0), (20, .goto 12, 23, 32, 0), (23, .aload_n 0, 24, 0, 0), (24, .getfield 25, 27, 1, 4), (27, .bipush 16, 29, 0, 0), (29, .iushr, 30, 0, 0), (30, .iload_n 1, 31, 0, 0), (31, .irem, 32, 0, 0), (32, .ireturn, 33, 0, 0)]
def kX1_drawBelow : zM := (⟨"ReadAloud$Course", "drawBelow", "(I)I"⟩, prog_3_method_8_code, 2, (some .int), 1, qX1_drawBelow)
def qX1_tells : List zE := [(0, .iload_n 1, 1, 0, 0), (1, .tableswitch 73 0 5 #[39, 44, 49, 54, 59, 68], 40, 0, 0), (40, .aload_n 0, 41, 0, 0), (41, .getfield 15, 44, 1, 1), (44, .ireturn, 45, 0, 0), (45, .aload_n 0, 46, 0, 0), (46, .getfield 19, 49, 1, 2), (49, .ireturn, 50, 0, 0), (50, .aload_n 0, 51, 0, 0), (51, .invokevirtual 90, 54, 84, 0), (54, .ireturn, 55, 0, 0), (55, .aload_n 0, 56, 0, 0), (56, .invokevirtual 94, 59, 85, 0), (59, .ireturn, 60, 0, 0), (60, .aload_n 0, 61, 0, 0), (61, .aload_n 0, 62, 0, 0), (62, .invokevirtual 94, 65, 85, 0), (65, .invokevirtual 97, 68, 86, 1), (68, .ireturn, 69, 0, 0), (69, .aload_n 0, 70, 0, 0), (70, .getfield 22, 73, 1, 3), (73, .ireturn, 74, 0, 0), (74, .iload_n 1, 75, 0, 0), (75, .bipush 10, 77, 0, 0), (77, .if_icmp .lt 19, 80, 96, 0), (80, .iload_n 1, 81, 0, 0), (81, .bipush 14, 83, 0, 0), (83, .if_icmp .ge 13, 86, 96, 0), (86, .aload_n 0, 87, 0, 0), (87, .getfield 28, 90, 1, 5), (90, .iload_n 1, 91, 0, 0), (91, .bipush 10, 93, 0, 0), (93, .isub, 94, 0, 0), (94, .iaload, 95, 0, 0), (95, .ireturn, 96, 0, 0), (96, .iload_n 1, 97, 0, 0), (97, .bipush 20, 99, 0, 0), (99, .if_icmp .lt 29, 102, 128, 0), (102, .iload_n 1, 103, 0, 0), (103, .bipush 20, 105, 0, 0), (105, .aload_n 0, 106, 0, 0), (106, .getfield 9, 109, 1, 0), (109, .getfield 86, 112, 0, 1), (112, .iadd, 113, 0, 0), (113, .if_icmp .ge 15, 116, 128, 0), (116, .aload_n 0, 117, 0, 0), (117, .getfield 32, 120, 1, 6), (120, .iload_n 1, 121, 0, 0), (121, .bipush 20, 123, 0, 0), (123, .isub, 124, 0, 0), (124, .iaload, 125, 0, 0), (125, .goto 5, 128, 130, 0), (128, .bipush (-2), 130, 0, 0), (130, .ireturn, 131, 0, 0)]
def kX1_tells : zM := (⟨"ReadAloud$Course", "tells", "(I)I"⟩, prog_3_method_9_code, 2, (some .int), 1, qX1_tells)
def qX1_suits : List zE := [(0, .iconst 0, 1, 0, 0), (1, .istore_n 1, 2, 0, 0), (2, .iconst 0, 3, 0, 0), (3, .istore_n 2, 4, 0, 0), (4, .iload_n 2, 5, 0, 0), (5, .iconst 4, 6, 0, 0), (6, .if_icmp .ge 30, 9, 36, 0), (9, .aload_n 0, 10, 0, 0), (10, .getfield 28, 13, 1, 5), (13, .iload_n 2, 14, 0, 0), (14, .iaload, 15, 0, 0), (15, .aload_n 0, 16, 0, 0), (16, .getfield 28, 19, 1, 5), (19, .aload_n 0, 20, 0, 0), (20, .getfield 19, 23, 1, 2), (23, .iaload, 24, 0, 0), (24, .if_icmp .eq 6, 27, 30, 0), (27, .iinc 1 1, 30, 0, 0), (30, .iinc 2 1, 33, 0, 0), (33, .goto (-29), 36, 4, 0), (36, .iload_n 1, 37, 0, 0), (37, .ireturn, 38, 0, 0)]
def kX1_suits : zM := (⟨"ReadAloud$Course", "suits", "()I"⟩, prog_3_method_10_code, 3, (some .int), 1, qX1_suits)
def qX1_against : List zE := [(0, .iconst 0, 1, 0, 0), (1, .istore_n 1, 2, 0, 0), (2, .iconst 1, 3, 0, 0), (3, .istore_n 2, 4, 0, 0), (4, .iload_n 2, 5, 0, 0), (5, .iconst 4, 6, 0, 0), (6, .if_icmp .ge 24, 9, 30, 0), (9, .aload_n 0, 10, 0, 0), (10, .iload_n 2, 11, 0, 0), (11, .invokevirtual 97, 14, 86, 1), (14, .aload_n 0, 15, 0, 0), (15, .iload_n 1, 16, 0, 0), (16, .invokevirtual 97, 19, 86, 1), (19, .if_icmp .le 5, 22, 24, 0), (22, .iload_n 2, 23, 0, 0), (23, .istore_n 1, 24, 0, 0), (24, .iinc 2 1, 27, 0, 0), (27, .goto (-23), 30, 4, 0), (30, .iload_n 1, 31, 0, 0), (31, .ireturn, 32, 0, 0)]
def kX1_against : zM := (⟨"ReadAloud$Course", "against", "()I"⟩, prog_3_method_11_code, 3, (some .int), 1, qX1_against)
def qX1_driftOfCopy : List zE := [(0, .aload_n 0, 1, 0, 0), (1, .getfield 28, 4, 1, 5), (4, .iload_n 1, 5, 0, 0), (5, .iaload, 6, 0, 0), (6, .aload_n 0, 7, 0, 0), (7, .getfield 9, 10, 1, 0), (10, .getfield 35, 13, 0, 0), (13, .invokestatic 100, 16, 59, 2), (16, .ireturn, 17, 0, 0)]
def kX1_driftOfCopy : zM := (⟨"ReadAloud$Course", "driftOfCopy", "(I)I"⟩, prog_3_method_12_code, 2, (some .int), 1, qX1_driftOfCopy)
def qX3_init : List zE := [(0, .aload_n 0, 1, 0, 0), (1, .invokespecial 1, 4, 0, 99), (4, .return_, 5, 0, 0)]
def kX3_init : zM := (⟨"ReadAloud$Lines", "<init>", "()V"⟩, prog_5_method_1_code, 1, none, 98, qX3_init)
def qX0_init : List zE := [(0, .aload_n 0, 1, 0, 0), (1, .invokespecial 3, 4, 87, 0), (4, .aload_n 0, 5, 0, 0), (5, .iconst 0, 6, 0, 0), (6, .putfield 9, 9, 0, 0), (9, .aload_n 0, 10, 0, 0), (10, .iconst 0, 11, 0, 0), (11, .putfield 15, 14, 0, 1), (14, .aload_n 0, 15, 0, 0), (15, .iconst (-1), 16, 0, 0), (16, .putfield 18, 19, 0, 2), (19, .aload_n 0, 20, 0, 0), (20, .iconst 4, 21, 0, 0), (21, .newarray .int, 23, 1, 4), (23, .dup, 24, 0, 0), (24, .iconst 0, 25, 0, 0), (25, .iconst 0, 26, 0, 0), (26, .iastore, 27, 0, 0), (27, .dup, 28, 0, 0), (28, .iconst 1, 29, 0, 0), (29, .iconst 1, 30, 0, 0), (30, .iastore, 31, 0, 0), (31, .dup, 32, 0, 0), (32, .iconst 2, 33, 0, 0), (33, .iconst 2, 34, 0, 0), (34, .iastore, 35, 0, 0), (35, .dup, 36, 0, 0), (36, .iconst 3, 37, 0, 0), (37, .iconst 3, 38, 0, 0), (38, .iastore, 39, 0, 0), (39, .putfield 21, 42, 0, 3), (42, .aload_n 0, 43, 0, 0), (43, .iconst 5, 44, 0, 0), (44, .newarray .int, 46, 1, 5), (46, .putfield 25, 49, 0, 4), (49, .aload_n 0, 50, 0, 0), (50, .bipush 20, 52, 0, 0), (52, .newarray .int, 54, 1, 20), (54, .putfield 28, 57, 0, 5), (57, .aload_n 0, 58, 0, 0), (58, .bipush 20, 60, 0, 0), (60, .newarray .int, 62, 1, 20), (62, .putfield 31, 65, 0, 6), (65, .return_, 66, 0, 0)]
def kX0_init : zM := (⟨"ReadAloud$Book", "<init>", "()V"⟩, prog_2_method_1_code, 1, none, 0, qX0_init)
def qX0_lineOf : List zE := [(0, .aload_n 1, 1, 0, 0), (3, .invokevirtual 36, 6, 72, 1), (6, .ifCond .eq 5, 9, 11, 0), (9, .iconst 0, 10, 0, 0), (10, .ireturn, 11, 0, 0), (11, .aload_n 1, 12, 0, 0), (14, .invokevirtual 36, 17, 72, 1), (17, .ifCond .eq 5, 20, 22, 0), (20, .iconst 1, 21, 0, 0), (21, .ireturn, 22, 0, 0), (22, .aload_n 1, 23, 0, 0), (25, .invokevirtual 36, 28, 72, 1), (28, .ifCond .eq 5, 31, 33, 0), (31, .iconst 2, 32, 0, 0), (32, .ireturn, 33, 0, 0), (33, .aload_n 1, 34, 0, 0), (36, .invokevirtual 36, 39, 72, 1), (39, .ifCond .eq 5, 42, 44, 0), (42, .iconst 3, 43, 0, 0), (43, .ireturn, 44, 0, 0), (44, .aload_n 1, 45, 0, 0), (47, .invokevirtual 36, 50, 72, 1), (50, .ifCond .eq 5, 53, 55, 0), (53, .iconst 4, 54, 0, 0), (54, .ireturn, 55, 0, 0), (55, .aload_n 1, 56, 0, 0), (58, .invokevirtual 36, 61, 72, 1), (61, .ifCond .eq 5, 64, 66, 0), (64, .iconst 5, 65, 0, 0), (65, .ireturn, 66, 0, 0), (66, .aload_n 1, 67, 0, 0), (69, .invokevirtual 36, 72, 72, 1), (72, .ifCond .eq 6, 75, 78, 0), (75, .bipush 6, 77, 0, 0), (77, .ireturn, 78, 0, 0), (78, .aload_n 1, 79, 0, 0), (81, .invokevirtual 36, 84, 72, 1), (84, .ifCond .eq 8, 87, 92, 0), (87, .bipush 7, 89, 0, 0), (89, .goto 4, 92, 93, 0), (92, .iconst (-1), 93, 0, 0), (93, .ireturn, 94, 0, 0)]
def kX0_lineOf : zM := (⟨"ReadAloud$Book", "lineOf", "(LReadAloud$Teller;)I"⟩, prog_2_method_2_code, 2, (some .int), 0, qX0_lineOf)
def qX0_fewestNumbers : List zE := [(0, .iload_n 1, 1, 0, 0), (1, .iconst 5, 2, 0, 0), (2, .if_icmp .ne 7, 5, 9, 0), (5, .iconst 0, 6, 0, 0), (6, .goto 8, 9, 14, 0), (9, .aload_n 0, 10, 0, 0), (10, .iload_n 1, 11, 0, 0), (11, .invokevirtual 55, 14, 91, 1), (14, .ireturn, 15, 0, 0)]
def kX0_fewestNumbers : zM := (⟨"ReadAloud$Book", "fewestNumbers", "(I)I"⟩, prog_2_method_3_code, 2, (some .int), 0, qX0_fewestNumbers)
def qX0_mostNumbers : List zE := [(0, .iload_n 1, 1, 0, 0), (1, .tableswitch 41 4 7 #[39, 31, 35, 37], 32, 0, 0), (32, .sipush 600, 35, 0, 0), (35, .ireturn, 36, 0, 0), (36, .iconst 2, 37, 0, 0), (37, .ireturn, 38, 0, 0), (38, .iconst 0, 39, 0, 0), (39, .ireturn, 40, 0, 0), (40, .iconst 0, 41, 0, 0), (41, .ireturn, 42, 0, 0), (42, .iconst 1, 43, 0, 0), (43, .ireturn, 44, 0, 0)]
def kX0_mostNumbers : zM := (⟨"ReadAloud$Book", "mostNumbers", "(I)I"⟩, prog_2_method_4_code, 2, (some .int), 0, qX0_mostNumbers)
def qX0_beginLine : List zE := [(0, .iload_n 1, 1, 0, 0), (1, .iconst 5, 2, 0, 0), (2, .if_icmp .ne 11, 5, 13, 0), (5, .aload_n 0, 6, 0, 0), (6, .iconst 0, 7, 0, 0), (7, .putfield 9, 10, 0, 0), (10, .goto 49, 13, 59, 0), (13, .iload_n 1, 14, 0, 0), (14, .bipush 7, 16, 0, 0), (16, .if_icmp .ne 32, 19, 48, 0), (19, .aload_n 0, 20, 0, 0), (20, .getfield 15, 23, 0, 1), (23, .iconst 5, 24, 0, 0), (24, .if_icmp .ge 16, 27, 40, 0), (27, .aload_n 0, 28, 0, 0), (28, .dup, 29, 0, 0), (29, .getfield 15, 32, 0, 1), (32, .iconst 1, 33, 0, 0), (33, .iadd, 34, 0, 0), (34, .putfield 15, 37, 0, 1), (37, .goto 22, 40, 59, 0), (40, .aload_n 2, 41, 0, 0), (41, .iconst 3, 42, 0, 0), (42, .invokevirtual 59, 45, 74, 1), (45, .goto 14, 48, 59, 0), (48, .iload_n 1, 49, 0, 0), (49, .iconst 4, 50, 0, 0), (50, .if_icmp .gt 9, 53, 59, 0), (53, .aload_n 0, 54, 0, 0), (54, .iload_n 1, 55, 0, 0), (55, .aload_n 2, 56, 0, 0), (56, .invokevirtual 63, 59, 93, 2), (59, .return_, 60, 0, 0)]
def kX0_beginLine : zM := (⟨"ReadAloud$Book", "beginLine", "(ILReadAloud$Teller;)V"⟩, prog_2_method_5_code, 3, none, 0, qX0_beginLine)
def qX0_beginStep : List zE := [(0, .aload_n 0, 1, 0, 0), (1, .getfield 15, 4, 0, 1), (4, .iconst 1, 5, 0, 0), (5, .isub, 6, 0, 0), (6, .istore_n 3, 7, 0, 0), (7, .iload_n 3, 8, 0, 0), (8, .ifCond .ge 11, 11, 19, 0), (11, .aload_n 2, 12, 0, 0), (12, .iconst 4, 13, 0, 0), (13, .invokevirtual 59, 16, 74, 1), (16, .goto 47, 19, 63, 0), (19, .aload_n 0, 20, 0, 0), (20, .getfield 25, 23, 0, 4), (23, .iload_n 3, 24, 0, 0), (24, .iaload, 25, 0, 0), (25, .iconst 4, 26, 0, 0), (26, .if_icmp .lt 11, 29, 37, 0), (29, .aload_n 2, 30, 0, 0), (30, .iconst 3, 31, 0, 0), (31, .invokevirtual 59, 34, 74, 1), (34, .goto 29, 37, 63, 0), (37, .aload_n 0, 38, 0, 0), (38, .getfield 28, 41, 0, 5), (41, .iload_n 3, 42, 0, 0), (42, .iconst 4, 43, 0, 0), (43, .imul, 44, 0, 0), (44, .aload_n 0, 45, 0, 0), (45, .getfield 25, 48, 0, 4), (48, .iload_n 3, 49, 0, 0), (49, .iaload, 50, 0, 0), (50, .iadd, 51, 0, 0), (51, .iload_n 1, 52, 0, 0), (52, .iastore, 53, 0, 0), (53, .aload_n 0, 54, 0, 0), (54, .getfield 25, 57, 0, 4), (57, .iload_n 3, 58, 0, 0), (58, .dup2, 59, 0, 0), (59, .iaload, 60, 0, 0), (60, .iconst 1, 61, 0, 0), (61, .iadd, 62, 0, 0), (62, .iastore, 63, 0, 0), (63, .return_, 64, 0, 0)]
def kX0_beginStep : zM := (⟨"ReadAloud$Book", "beginStep", "(ILReadAloud$Teller;)V"⟩, prog_2_method_6_code, 4, none, 0, qX0_beginStep)
def qX0_takeNumber : List zE := [(0, .iload_n 1, 1, 0, 0), (1, .iconst 1, 2, 0, 0), (2, .if_icmp .eq 13, 5, 15, 0), (5, .iload_n 1, 6, 0, 0), (6, .iconst 2, 7, 0, 0), (7, .if_icmp .eq 8, 10, 15, 0), (10, .iload_n 1, 11, 0, 0), (11, .iconst 3, 12, 0, 0), (12, .if_icmp .ne 7, 15, 19, 0), (15, .iconst 1, 16, 0, 0), (16, .goto 4, 19, 20, 0), (19, .iconst 0, 20, 0, 0), (20, .istore 4, 22, 0, 0), (22, .aload_n 3, 23, 0, 0), (23, .iload 4, 25, 0, 0), (25, .ifCond .eq 7, 28, 32, 0), (28, .iconst 1, 29, 0, 0), (29, .goto 4, 32, 33, 0), (32, .iconst 0, 33, 0, 0), (33, .iload 4, 35, 0, 0), (35, .ifCond .eq 8, 38, 43, 0), (38, .bipush 6, 40, 0, 0), (40, .goto 4, 43, 44, 0), (43, .iconst 3, 44, 0, 0), (44, .invokevirtual 67, 47, 73, 2), (47, .istore 5, 49, 0, 0), (49, .iload_n 1, 50, 0, 0), (50, .iconst 5, 51, 0, 0), (51, .if_icmp .ne 17, 54, 68, 0), (54, .iload_n 2, 55, 0, 0), (55, .bipush 6, 57, 0, 0), (57, .if_icmp .lt 11, 60, 68, 0), (60, .aload_n 3, 61, 0, 0), (61, .iconst 3, 62, 0, 0), (62, .invokevirtual 59, 65, 74, 1), (65, .goto 18, 68, 83, 0), (68, .iload 5, 70, 0, 0), (70, .ifCond .eq 13, 73, 83, 0), (73, .aload_n 0, 74, 0, 0), (74, .iload_n 1, 75, 0, 0), (75, .iload_n 2, 76, 0, 0), (76, .aload_n 3, 77, 0, 0), (77, .getfield 71, 80, 6, 5), (80, .invokevirtual 74, 83, 95, 3), (83, .return_, 84, 0, 0)]
def kX0_takeNumber : zM := (⟨"ReadAloud$Book", "takeNumber", "(IILReadAloud$Teller;)V"⟩, prog_2_method_7_code, 6, none, 0, qX0_takeNumber)
def qX0_keepNumber : List zE := [(0, .aload_n 0, 1, 0, 0), (1, .getfield 15, 4, 0, 1), (4, .iconst 1, 5, 0, 0), (5, .isub, 6, 0, 0), (6, .istore 4, 8, 0, 0), (8, .iload_n 1, 9, 0, 0), (9, .iconst 5, 10, 0, 0), (10, .if_icmp .ne 18, 13, 28, 0), (13, .aload_n 0, 14, 0, 0), (14, .aload_n 0, 15, 0, 0), (15, .getfield 9, 18, 0, 0), (18, .iload_n 3, 19, 0, 0), (19, .invokestatic 78, 22, 51, 2), (22, .putfield 9, 25, 0, 0), (25, .goto 85, 28, 110, 0), (28, .iload_n 1, 29, 0, 0), (29, .bipush 6, 31, 0, 0), (31, .if_icmp .ne 15, 34, 46, 0), (34, .iload_n 2, 35, 0, 0), (35, .ifCond .ne 11, 38, 46, 0), (38, .aload_n 0, 39, 0, 0), (39, .iload_n 3, 40, 0, 0), (40, .putfield 18, 43, 0, 2), (43, .goto 67, 46, 110, 0), (46, .iload_n 1, 47, 0, 0), (47, .bipush 6, 49, 0, 0), (49, .if_icmp .ne 26, 52, 75, 0), (52, .aload_n 0, 53, 0, 0), (53, .getfield 18, 56, 0, 2), (56, .invokestatic 82, 59, 47, 1), (59, .ifCond .eq 51, 62, 110, 0), (62, .aload_n 0, 63, 0, 0), (63, .getfield 21, 66, 0, 3), (66, .aload_n 0, 67, 0, 0), (67, .getfield 18, 70, 0, 2), (70, .iload_n 3, 71, 0, 0), (71, .iastore, 72, 0, 0), (72, .goto 38, 75, 110, 0), (75, .iload 4, 77, 0, 0), (77, .ifCond .lt 33, 80, 110, 0), (80, .aload_n 0, 81, 0, 0), (81, .getfield 25, 84, 0, 4), (84, .iload 4, 86, 0, 0), (86, .iaload, 87, 0, 0), (87, .ifCond .le 23, 90, 110, 0), (90, .aload_n 0, 91, 0, 0), (91, .getfield 31, 94, 0, 6), (94, .iload 4, 96, 0, 0), (96, .iconst 4, 97, 0, 0), (97, .imul, 98, 0, 0), (98, .aload_n 0, 99, 0, 0), (99, .getfield 25, 102, 0, 4), (102, .iload 4, 104, 0, 0), (104, .iaload, 105, 0, 0), (105, .iadd, 106, 0, 0), (106, .iconst 1, 107, 0, 0), (107, .isub, 108, 0, 0), (108, .iload_n 3, 109, 0, 0), (109, .iastore, 110, 0, 0), (110, .return_, 111, 0, 0)]
def kX0_keepNumber : zM := (⟨"ReadAloud$Book", "keepNumber", "(III)V"⟩, prog_2_method_8_code, 5, none, 0, qX0_keepNumber)
def qX0_hasReader : List zE := [(0, .iload_n 1, 1, 0, 0), (1, .ifCond .lt 15, 4, 16, 0), (4, .iload_n 1, 5, 0, 0), (5, .aload_n 0, 6, 0, 0), (6, .getfield 15, 9, 0, 1), (9, .if_icmp .ge 7, 12, 16, 0), (12, .iconst 1, 13, 0, 0), (13, .goto 4, 16, 17, 0), (16, .iconst 0, 17, 0, 0), (17, .ireturn, 18, 0, 0)]
def kX0_hasReader : zM := (⟨"ReadAloud$Book", "hasReader", "(I)Z"⟩, prog_2_method_9_code, 2, (some .boolean), 0, qX0_hasReader)
def qX0_hasReaders : List zE := [(0, .iload_n 1, 1, 0, 0), (1, .ifCond .lt 17, 4, 18, 0), (4, .iload_n 1, 5, 0, 0), (5, .iconst 1, 6, 0, 0), (6, .aload_n 0, 7, 0, 0), (7, .getfield 15, 10, 0, 1), (10, .ishl, 11, 0, 0), (11, .if_icmp .ge 7, 14, 18, 0), (14, .iconst 1, 15, 0, 0), (15, .goto 4, 18, 19, 0), (18, .iconst 0, 19, 0, 0), (19, .ireturn, 20, 0, 0)]
def kX0_hasReaders : zM := (⟨"ReadAloud$Book", "hasReaders", "(I)Z"⟩, prog_2_method_10_code, 2, (some .boolean), 0, qX0_hasReaders)
def qX0_tells : List zE := [(0, .iload_n 1, 1, 0, 0), (1, .ifCond .ne 8, 4, 9, 0), (4, .aload_n 0, 5, 0, 0), (5, .getfield 9, 8, 0, 0), (8, .ireturn, 9, 0, 0), (9, .iload_n 1, 10, 0, 0), (10, .iconst 1, 11, 0, 0), (11, .if_icmp .ne 8, 14, 19, 0), (14, .aload_n 0, 15, 0, 0), (15, .getfield 15, 18, 0, 1), (18, .ireturn, 19, 0, 0), (19, .iload_n 1, 20, 0, 0), (20, .bipush 10, 22, 0, 0), (22, .if_icmp .lt 19, 25, 41, 0), (25, .iload_n 1, 26, 0, 0), (26, .bipush 14, 28, 0, 0), (28, .if_icmp .ge 13, 31, 41, 0), (31, .aload_n 0, 32, 0, 0), (32, .getfield 21, 35, 0, 3), (35, .iload_n 1, 36, 0, 0), (36, .bipush 10, 38, 0, 0), (38, .isub, 39, 0, 0), (39, .iaload, 40, 0, 0), (40, .ireturn, 41, 0, 0), (41, .iload_n 1, 42, 0, 0), (42, .bipush 20, 44, 0, 0), (44, .if_icmp .lt 24, 47, 68, 0), (47, .iload_n 1, 48, 0, 0), (48, .bipush 20, 50, 0, 0), (50, .aload_n 0, 51, 0, 0), (51, .getfield 15, 54, 0, 1), (54, .iadd, 55, 0, 0), (55, .if_icmp .ge 13, 58, 68, 0), (58, .aload_n 0, 59, 0, 0), (59, .getfield 25, 62, 0, 4), (62, .iload_n 1, 63, 0, 0), (63, .bipush 20, 65, 0, 0), (65, .isub, 66, 0, 0), (66, .iaload, 67, 0, 0), (67, .ireturn, 68, 0, 0), (68, .iload_n 1, 69, 0, 0), (69, .bipush 30, 71, 0, 0), (71, .if_icmp .ge 7, 74, 78, 0), (74, .iconst (-1), 75, 0, 0), (75, .goto 21, 78, 96, 0), (78, .aload_n 0, 79, 0, 0), (79, .iload_n 1, 80, 0, 0), (80, .bipush 30, 82, 0, 0), (82, .isub, 83, 0, 0), (83, .bipush 10, 85, 0, 0), (85, .idiv, 86, 0, 0), (86, .iload_n 1, 87, 0, 0), (87, .bipush 30, 89, 0, 0), (89, .isub, 90, 0, 0), (90, .bipush 10, 92, 0, 0), (92, .irem, 93, 0, 0), (93, .invokevirtual 86, 96, 99, 2), (96, .ireturn, 97, 0, 0)]
def kX0_tells : zM := (⟨"ReadAloud$Book", "tells", "(I)I"⟩, prog_2_method_11_code, 2, (some .int), 0, qX0_tells)
def qX0_tellsStep : List zE := [(0, .aload_n 0, 1, 0, 0), (1, .iload_n 1, 2, 0, 0), (2, .invokevirtual 89, 5, 96, 1), (5, .ifCond .eq 15, 8, 20, 0), (8, .iload_n 2, 9, 0, 0), (9, .iconst 2, 10, 0, 0), (10, .idiv, 11, 0, 0), (11, .aload_n 0, 12, 0, 0), (12, .getfield 25, 15, 0, 4), (15, .iload_n 1, 16, 0, 0), (16, .iaload, 17, 0, 0), (17, .if_icmp .lt 5, 20, 22, 0), (20, .iconst (-1), 21, 0, 0), (21, .ireturn, 22, 0, 0), (22, .iload_n 1, 23, 0, 0), (23, .iconst 4, 24, 0, 0), (24, .imul, 25, 0, 0), (25, .iload_n 2, 26, 0, 0), (26, .iconst 2, 27, 0, 0), (27, .idiv, 28, 0, 0), (28, .iadd, 29, 0, 0), (29, .istore_n 3, 30, 0, 0), (30, .iload_n 2, 31, 0, 0), (31, .iconst 2, 32, 0, 0), (32, .irem, 33, 0, 0), (33, .ifCond .ne 12, 36, 45, 0), (36, .aload_n 0, 37, 0, 0), (37, .getfield 28, 40, 0, 5), (40, .iload_n 3, 41, 0, 0), (41, .iaload, 42, 0, 0), (42, .goto 9, 45, 51, 0), (45, .aload_n 0, 46, 0, 0), (46, .getfield 31, 49, 0, 6), (49, .iload_n 3, 50, 0, 0), (50, .iaload, 51, 0, 0), (51, .ireturn, 52, 0, 0)]
def kX0_tellsStep : zM := (⟨"ReadAloud$Book", "tellsStep", "(II)I"⟩, prog_2_method_12_code, 4, (some .int), 0, qX0_tellsStep)
def qX0_readBy : List zE := [(0, .iload_n 2, 1, 0, 0), (1, .invokestatic 92, 4, 53, 1), (4, .istore_n 3, 5, 0, 0), (5, .iconst 0, 6, 0, 0), (6, .istore 4, 8, 0, 0), (8, .iload 4, 10, 0, 0), (10, .aload_n 0, 11, 0, 0), (11, .getfield 25, 14, 0, 4), (14, .iload_n 1, 15, 0, 0), (15, .iaload, 16, 0, 0), (16, .if_icmp .ge 37, 19, 53, 0), (19, .iload_n 1, 20, 0, 0), (20, .iconst 4, 21, 0, 0), (21, .imul, 22, 0, 0), (22, .iload 4, 24, 0, 0), (24, .iadd, 25, 0, 0), (25, .istore 5, 27, 0, 0), (27, .aload_n 0, 28, 0, 0), (28, .iload_n 3, 29, 0, 0), (29, .aload_n 0, 30, 0, 0), (30, .getfield 28, 33, 0, 5), (33, .iload 5, 35, 0, 0), (35, .iaload, 36, 0, 0), (36, .aload_n 0, 37, 0, 0), (37, .getfield 31, 40, 0, 6), (40, .iload 5, 42, 0, 0), (42, .iaload, 43, 0, 0), (43, .invokevirtual 95, 46, 101, 3), (46, .istore_n 3, 47, 0, 0), (47, .iinc 4 1, 50, 0, 0), (50, .goto (-42), 53, 8, 0), (53, .iload_n 3, 54, 0, 0), (54, .invokestatic 99, 57, 55, 1), (57, .ireturn, 58, 0, 0)]
def kX0_readBy : zM := (⟨"ReadAloud$Book", "readBy", "(II)I"⟩, prog_2_method_13_code, 6, (some .int), 0, qX0_readBy)
def qX0_stepOn : List zE := [(0, .iload_n 1, 1, 0, 0), (1, .invokestatic 102, 4, 54, 1), (4, .istore 4, 6, 0, 0), (6, .iload_n 2, 7, 0, 0), (7, .tableswitch 104 0 3 #[29, 38, 57, 83], 36, 0, 0), (36, .aload_n 0, 37, 0, 0), (37, .iload_n 1, 38, 0, 0), (38, .iload 4, 40, 0, 0), (40, .iload_n 3, 41, 0, 0), (41, .invokevirtual 105, 44, 102, 3), (44, .ireturn, 45, 0, 0), (45, .iload_n 3, 46, 0, 0), (46, .iload 4, 48, 0, 0), (48, .if_icmp .le 7, 51, 55, 0), (51, .iload_n 1, 52, 0, 0), (52, .goto 11, 55, 63, 0), (55, .iload_n 1, 56, 0, 0), (56, .iload 4, 58, 0, 0), (58, .iload_n 3, 59, 0, 0), (59, .isub, 60, 0, 0), (60, .invokestatic 108, 63, 103, 2), (63, .ireturn, 64, 0, 0), (64, .iload_n 3, 65, 0, 0), (65, .iload 4, 67, 0, 0), (67, .if_icmp .gt 10, 70, 77, 0), (70, .iload 4, 72, 0, 0), (72, .bipush 6, 74, 0, 0), (74, .if_icmp .lt 7, 77, 81, 0), (77, .iload_n 1, 78, 0, 0), (78, .goto 11, 81, 89, 0), (81, .iload_n 1, 82, 0, 0), (82, .iload 4, 84, 0, 0), (84, .iload_n 3, 85, 0, 0), (85, .isub, 86, 0, 0), (86, .invokestatic 111, 89, 104, 2), (89, .ireturn, 90, 0, 0), (90, .iload_n 3, 91, 0, 0), (91, .iload 4, 93, 0, 0), (93, .if_icmp .lt 7, 96, 100, 0), (96, .iload_n 1, 97, 0, 0), (97, .goto 13, 100, 110, 0), (100, .iload_n 1, 101, 0, 0), (101, .iload 4, 103, 0, 0), (103, .iload_n 3, 104, 0, 0), (104, .isub, 105, 0, 0), (105, .iconst 1, 106, 0, 0), (106, .isub, 107, 0, 0), (107, .invokestatic 114, 110, 105, 2), (110, .ireturn, 111, 0, 0), (111, .iload_n 1, 112, 0, 0), (112, .iload 4, 114, 0, 0), (114, .invokestatic 117, 117, 106, 2), (117, .ireturn, 118, 0, 0)]
def kX0_stepOn : zM := (⟨"ReadAloud$Book", "stepOn", "(III)I"⟩, prog_2_method_14_code, 5, (some .int), 0, qX0_stepOn)
def qX0_shifted : List zE := [(0, .iload_n 3, 1, 0, 0), (1, .aload_n 0, 2, 0, 0), (2, .getfield 21, 5, 0, 3), (5, .iload_n 3, 6, 0, 0), (6, .iaload, 7, 0, 0), (7, .ixor, 8, 0, 0), (8, .istore 4, 10, 0, 0), (10, .iload_n 1, 11, 0, 0), (11, .istore 5, 13, 0, 0), (13, .iconst 0, 14, 0, 0), (14, .istore 6, 16, 0, 0), (16, .iload 6, 18, 0, 0), (18, .iload_n 2, 19, 0, 0), (19, .if_icmp .ge 33, 22, 52, 0), (22, .iload_n 1, 23, 0, 0), (23, .iconst 2, 24, 0, 0), (24, .iload 6, 26, 0, 0), (26, .imul, 27, 0, 0), (27, .ishr, 28, 0, 0), (28, .iconst 3, 29, 0, 0), (29, .iand, 30, 0, 0), (30, .iload_n 3, 31, 0, 0), (31, .if_icmp .ne 15, 34, 46, 0), (34, .iload 5, 36, 0, 0), (36, .iload 4, 38, 0, 0), (38, .iconst 2, 39, 0, 0), (39, .iload 6, 41, 0, 0), (41, .imul, 42, 0, 0), (42, .ishl, 43, 0, 0), (43, .ixor, 44, 0, 0), (44, .istore 5, 46, 0, 0), (46, .iinc 6 1, 49, 0, 0), (49, .goto (-33), 52, 16, 0), (52, .iload 5, 54, 0, 0), (54, .ireturn, 55, 0, 0)]
def kX0_shifted : zM := (⟨"ReadAloud$Book", "shifted", "(III)I"⟩, prog_2_method_15_code, 7, (some .int), 0, qX0_shifted)
def qX0_dropped : List zE := [(0, .iload_n 0, 1, 0, 0), (1, .iconst 1, 2, 0, 0), (2, .iconst 2, 3, 0, 0), (3, .iload_n 1, 4, 0, 0), (4, .imul, 5, 0, 0), (5, .ishl, 6, 0, 0), (6, .iconst 1, 7, 0, 0), (7, .isub, 8, 0, 0), (8, .iand, 9, 0, 0), (9, .istore_n 2, 10, 0, 0), (10, .iload_n 0, 11, 0, 0), (11, .iconst 2, 12, 0, 0), (12, .iload_n 1, 13, 0, 0), (13, .imul, 14, 0, 0), (14, .iconst 2, 15, 0, 0), (15, .iadd, 16, 0, 0), (16, .ishr, 17, 0, 0), (17, .iconst 2, 18, 0, 0), (18, .iload_n 1, 19, 0, 0), (19, .imul, 20, 0, 0), (20, .ishl, 21, 0, 0), (21, .iload_n 2, 22, 0, 0), (22, .ior, 23, 0, 0), (23, .ireturn, 24, 0, 0)]
def kX0_dropped : zM := (⟨"ReadAloud$Book", "dropped", "(II)I"⟩, prog_2_method_16_code, 3, (some .int), 0, qX0_dropped)
def qX0_doubled : List zE := [(0, .iload_n 0, 1, 0, 0), (1, .iconst 1, 2, 0, 0), (2, .iconst 2, 3, 0, 0), (3, .iload_n 1, 4, 0, 0), (4, .imul, 5, 0, 0), (5, .ishl, 6, 0, 0), (6, .iconst 1, 7, 0, 0), (7, .isub, 8, 0, 0), (8, .iand, 9, 0, 0), (9, .istore_n 2, 10, 0, 0), (10, .iload_n 0, 11, 0, 0), (11, .iconst 2, 12, 0, 0), (12, .iload_n 1, 13, 0, 0), (13, .imul, 14, 0, 0), (14, .ishr, 15, 0, 0), (15, .istore_n 3, 16, 0, 0), (16, .iload_n 3, 17, 0, 0), (17, .iconst 2, 18, 0, 0), (18, .ishl, 19, 0, 0), (19, .iload_n 3, 20, 0, 0), (20, .iconst 3, 21, 0, 0), (21, .iand, 22, 0, 0), (22, .ior, 23, 0, 0), (23, .iconst 2, 24, 0, 0), (24, .iload_n 1, 25, 0, 0), (25, .imul, 26, 0, 0), (26, .ishl, 27, 0, 0), (27, .iload_n 2, 28, 0, 0), (28, .ior, 29, 0, 0), (29, .ireturn, 30, 0, 0)]
def kX0_doubled : zM := (⟨"ReadAloud$Book", "doubled", "(II)I"⟩, prog_2_method_17_code, 4, (some .int), 0, qX0_doubled)
def qX0_swapped : List zE := [(0, .iload_n 0, 1, 0, 0), (1, .iconst 2, 2, 0, 0), (2, .iload_n 1, 3, 0, 0), (3, .imul, 4, 0, 0), (4, .ishr, 5, 0, 0), (5, .iload_n 0, 6, 0, 0), (6, .iconst 2, 7, 0, 0), (7, .iload_n 1, 8, 0, 0), (8, .imul, 9, 0, 0), (9, .iconst 2, 10, 0, 0), (10, .iadd, 11, 0, 0), (11, .ishr, 12, 0, 0), (12, .ixor, 13, 0, 0), (13, .iconst 3, 14, 0, 0), (14, .iand, 15, 0, 0), (15, .istore_n 2, 16, 0, 0), (16, .iload_n 0, 17, 0, 0), (17, .iload_n 2, 18, 0, 0), (18, .iconst 2, 19, 0, 0), (19, .iload_n 1, 20, 0, 0), (20, .imul, 21, 0, 0), (21, .ishl, 22, 0, 0), (22, .ixor, 23, 0, 0), (23, .iload_n 2, 24, 0, 0), (24, .iconst 2, 25, 0, 0), (25, .iload_n 1, 26, 0, 0), (26, .imul, 27, 0, 0), (27, .iconst 2, 28, 0, 0), (28, .iadd, 29, 0, 0), (29, .ishl, 30, 0, 0), (30, .ixor, 31, 0, 0), (31, .ireturn, 32, 0, 0)]
def kX0_swapped : zM := (⟨"ReadAloud$Book", "swapped", "(II)I"⟩, prog_2_method_18_code, 3, (some .int), 0, qX0_swapped)
def qX0_turned : List zE := [(0, .iconst 1, 1, 0, 0), (1, .istore_n 2, 2, 0, 0), (2, .iconst 0, 3, 0, 0), (3, .istore_n 3, 4, 0, 0), (4, .iload_n 3, 5, 0, 0), (5, .iload_n 1, 6, 0, 0), (6, .if_icmp .ge 21, 9, 27, 0), (9, .iload_n 2, 10, 0, 0), (10, .iconst 2, 11, 0, 0), (11, .ishl, 12, 0, 0), (12, .iload_n 0, 13, 0, 0), (13, .iconst 2, 14, 0, 0), (14, .iload_n 3, 15, 0, 0), (15, .imul, 16, 0, 0), (16, .ishr, 17, 0, 0), (17, .iconst 3, 18, 0, 0), (18, .iand, 19, 0, 0), (19, .ior, 20, 0, 0), (20, .istore_n 2, 21, 0, 0), (21, .iinc 3 1, 24, 0, 0), (24, .goto (-20), 27, 4, 0), (27, .iload_n 2, 28, 0, 0), (28, .ireturn, 29, 0, 0)]
def kX0_turned : zM := (⟨"ReadAloud$Book", "turned", "(II)I"⟩, prog_2_method_19_code, 4, (some .int), 0, qX0_turned)
def qX0_kinRing : List zE := [(0, .iload_n 1, 1, 0, 0), (1, .istore_n 2, 2, 0, 0), (2, .iconst 0, 3, 0, 0), (3, .istore_n 3, 4, 0, 0), (4, .iload_n 3, 5, 0, 0), (5, .iconst 4, 6, 0, 0), (6, .if_icmp .ge 16, 9, 22, 0), (9, .aload_n 0, 10, 0, 0), (10, .getfield 21, 13, 0, 3), (13, .iload_n 2, 14, 0, 0), (14, .iaload, 15, 0, 0), (15, .istore_n 2, 16, 0, 0), (16, .iinc 3 1, 19, 0, 0), (19, .goto (-15), 22, 4, 0), (22, .iload_n 2, 23, 0, 0), (23, .istore_n 3, 24, 0, 0), (24, .iconst 0, 25, 0, 0), (25, .istore 4, 27, 0, 0), (27, .aload_n 0, 28, 0, 0), (28, .getfield 21, 31, 0, 3), (31, .iload_n 2, 32, 0, 0), (32, .iaload, 33, 0, 0), (33, .istore_n 2, 34, 0, 0), (34, .iinc 4 1, 37, 0, 0), (37, .iload_n 2, 38, 0, 0), (38, .iload_n 3, 39, 0, 0), (39, .if_icmp .eq 9, 42, 48, 0), (42, .iload 4, 44, 0, 0), (44, .iconst 4, 45, 0, 0), (45, .if_icmp .lt (-18), 48, 27, 0), (48, .iload 4, 50, 0, 0), (50, .ireturn, 51, 0, 0)]
def kX0_kinRing : zM := (⟨"ReadAloud$Book", "kinRing", "(I)I"⟩, prog_2_method_20_code, 5, (some .int), 0, qX0_kinRing)
def qX0_kinUntilRing : List zE := [(0, .iload_n 1, 1, 0, 0), (1, .istore_n 2, 2, 0, 0), (2, .iconst 0, 3, 0, 0), (3, .istore_n 3, 4, 0, 0), (4, .iload_n 3, 5, 0, 0), (5, .iconst 4, 6, 0, 0), (6, .if_icmp .ge 26, 9, 32, 0), (9, .aload_n 0, 10, 0, 0), (10, .iload_n 2, 11, 0, 0), (11, .invokevirtual 120, 14, 109, 1), (14, .ifCond .eq 5, 17, 19, 0), (17, .iload_n 3, 18, 0, 0), (18, .ireturn, 19, 0, 0), (19, .aload_n 0, 20, 0, 0), (20, .getfield 21, 23, 0, 3), (23, .iload_n 2, 24, 0, 0), (24, .iaload, 25, 0, 0), (25, .istore_n 2, 26, 0, 0), (26, .iinc 3 1, 29, 0, 0), (29, .goto (-25), 32, 4, 0), (32, .iconst 4, 33, 0, 0), (33, .ireturn, 34, 0, 0)]
def kX0_kinUntilRing : zM := (⟨"ReadAloud$Book", "kinUntilRing", "(I)I"⟩, prog_2_method_21_code, 4, (some .int), 0, qX0_kinUntilRing)
def qX0_isInKinRing : List zE := [(0, .iload_n 1, 1, 0, 0), (1, .istore_n 2, 2, 0, 0), (2, .iconst 0, 3, 0, 0), (3, .istore_n 3, 4, 0, 0), (4, .iload_n 3, 5, 0, 0), (5, .iconst 4, 6, 0, 0), (6, .if_icmp .ge 23, 9, 29, 0), (9, .aload_n 0, 10, 0, 0), (10, .getfield 21, 13, 0, 3), (13, .iload_n 2, 14, 0, 0), (14, .iaload, 15, 0, 0), (15, .istore_n 2, 16, 0, 0), (16, .iload_n 2, 17, 0, 0), (17, .iload_n 1, 18, 0, 0), (18, .if_icmp .ne 5, 21, 23, 0), (21, .iconst 1, 22, 0, 0), (22, .ireturn, 23, 0, 0), (23, .iinc 3 1, 26, 0, 0), (26, .goto (-22), 29, 4, 0), (29, .iconst 0, 30, 0, 0), (30, .ireturn, 31, 0, 0)]
def kX0_isInKinRing : zM := (⟨"ReadAloud$Book", "isInKinRing", "(I)Z"⟩, prog_2_method_22_code, 4, (some .boolean), 0, qX0_isInKinRing)
def qX10_init : List zE := [(0, .aload_n 0, 1, 0, 0), (1, .invokespecial 3, 4, 87, 0), (4, .aload_n 0, 5, 0, 0), (5, .iconst 0, 6, 0, 0), (6, .putfield 9, 9, 9, 0), (9, .aload_n 0, 10, 0, 0), (10, .bipush 40, 12, 0, 0), (12, .newarray .int, 14, 1, 40), (14, .putfield 15, 17, 9, 1), (17, .aload_n 0, 18, 0, 0), (18, .bipush 40, 20, 0, 0), (20, .newarray .int, 22, 1, 40), (22, .putfield 19, 25, 9, 2), (25, .aload_n 0, 26, 0, 0), (26, .bipush 40, 28, 0, 0), (28, .newarray .int, 30, 1, 40), (30, .putfield 22, 33, 9, 3), (33, .return_, 34, 0, 0)]
def kX10_init : zM := (⟨"ReadAloud$Year", "<init>", "()V"⟩, prog_12_method_1_code, 1, none, 9, qX10_init)
def qX10_lineOf : List zE := [(0, .aload_n 1, 1, 0, 0), (3, .invokevirtual 27, 6, 72, 1), (6, .ifCond .eq 5, 9, 11, 0), (9, .iconst 0, 10, 0, 0), (10, .ireturn, 11, 0, 0), (11, .aload_n 1, 12, 0, 0), (14, .invokevirtual 27, 17, 72, 1), (17, .ifCond .eq 5, 20, 22, 0), (20, .iconst 1, 21, 0, 0), (21, .ireturn, 22, 0, 0), (22, .aload_n 1, 23, 0, 0), (25, .invokevirtual 27, 28, 72, 1), (28, .ifCond .eq 5, 31, 33, 0), (31, .iconst 2, 32, 0, 0), (32, .ireturn, 33, 0, 0), (33, .aload_n 1, 34, 0, 0), (36, .invokevirtual 27, 39, 72, 1), (39, .ifCond .eq 5, 42, 44, 0), (42, .iconst 3, 43, 0, 0), (43, .ireturn, 44, 0, 0), (44, .aload_n 1, 45, 0, 0), (47, .invokevirtual 27, 50, 72, 1), (50, .ifCond .eq 5, 53, 55, 0), (53, .iconst 4, 54, 0, 0), (54, .ireturn, 55, 0, 0), (55, .aload_n 1, 56, 0, 0), (58, .invokevirtual 27, 61, 72, 1), (61, .ifCond .eq 7, 64, 68, 0), (64, .iconst 5, 65, 0, 0), (65, .goto 4, 68, 69, 0), (68, .iconst (-1), 69, 0, 0), (69, .ireturn, 70, 0, 0)]
def kX10_lineOf : zM := (⟨"ReadAloud$Year", "lineOf", "(LReadAloud$Teller;)I"⟩, prog_12_method_2_code, 2, (some .int), 9, qX10_lineOf)
def qX10_fewestNumbers : List zE := [(0, .aload_n 0, 1, 0, 0), (1, .iload_n 1, 2, 0, 0), (2, .invokevirtual 43, 5, 113, 1), (5, .ireturn, 6, 0, 0)]
def kX10_fewestNumbers : zM := (⟨"ReadAloud$Year", "fewestNumbers", "(I)I"⟩, prog_12_method_3_code, 2, (some .int), 9, qX10_fewestNumbers)
def qX10_mostNumbers : List zE := [(0, .iload_n 1, 1, 0, 0), (1, .lookupswitch 41 #[(0, 35), (1, 37), (5, 39)], 36, 0, 0), (36, .iconst 2, 37, 0, 0), (37, .ireturn, 38, 0, 0), (38, .iconst 2, 39, 0, 0), (39, .ireturn, 40, 0, 0), (40, .iconst 0, 41, 0, 0), (41, .ireturn, 42, 0, 0), (42, .iconst 1, 43, 0, 0), (43, .ireturn, 44, 0, 0)]
def kX10_mostNumbers : zM := (⟨"ReadAloud$Year", "mostNumbers", "(I)I"⟩, prog_12_method_4_code, 2, (some .int), 9, qX10_mostNumbers)
def qX10_beginLine : List zE := [(0, .aload_n 0, 1, 0, 0), (1, .getfield 9, 4, 9, 0), (4, .bipush 40, 6, 0, 0), (6, .if_icmp .lt 9, 9, 15, 0), (9, .aload_n 2, 10, 0, 0), (10, .iconst 3, 11, 0, 0), (11, .invokevirtual 47, 14, 74, 1), (14, .return_, 15, 0, 0), (15, .aload_n 0, 16, 0, 0), (16, .getfield 15, 19, 9, 1), (19, .aload_n 0, 20, 0, 0), (20, .getfield 9, 23, 9, 0), (23, .iload_n 1, 24, 0, 0), (24, .iastore, 25, 0, 0), (25, .aload_n 0, 26, 0, 0), (26, .getfield 19, 29, 9, 2), (29, .aload_n 0, 30, 0, 0), (30, .getfield 9, 33, 9, 0), (33, .iconst (-1), 34, 0, 0), (34, .iastore, 35, 0, 0), (35, .aload_n 0, 36, 0, 0), (36, .getfield 22, 39, 9, 3), (39, .aload_n 0, 40, 0, 0), (40, .getfield 9, 43, 9, 0), (43, .iconst (-1), 44, 0, 0), (44, .iastore, 45, 0, 0), (45, .aload_n 0, 46, 0, 0), (46, .dup, 47, 0, 0), (47, .getfield 9, 50, 9, 0), (50, .iconst 1, 51, 0, 0), (51, .iadd, 52, 0, 0), (52, .putfield 9, 55, 9, 0), (55, .return_, 56, 0, 0)]
def kX10_beginLine : zM := (⟨"ReadAloud$Year", "beginLine", "(ILReadAloud$Teller;)V"⟩, prog_12_method_5_code, 3, none, 9, qX10_beginLine)
def qX10_takeNumber : List zE := [(0, .aload_n 0, 1, 0, 0), (1, .getfield 9, 4, 9, 0), (4, .iconst 1, 5, 0, 0), (5, .isub, 6, 0, 0), (6, .istore 4, 8, 0, 0), (8, .iload_n 1, 9, 0, 0), (9, .ifCond .ne 12, 12, 21, 0), (12, .iload_n 2, 13, 0, 0), (13, .iconst 1, 14, 0, 0), (14, .if_icmp .ne 7, 17, 21, 0), (17, .iconst 1, 18, 0, 0), (18, .goto 4, 21, 22, 0), (21, .iconst 0, 22, 0, 0), (22, .istore 5, 24, 0, 0), (24, .aload_n 3, 25, 0, 0), (25, .iconst 0, 26, 0, 0), (26, .iload 5, 28, 0, 0), (28, .ifCond .eq 7, 31, 35, 0), (31, .iconst 4, 32, 0, 0), (32, .goto 4, 35, 36, 0), (35, .iconst 3, 36, 0, 0), (36, .invokevirtual 51, 39, 73, 2), (39, .ifCond .eq 8, 42, 47, 0), (42, .iload 4, 44, 0, 0), (44, .ifCond .ge 4, 47, 48, 0), (47, .return_, 48, 0, 0), (48, .iload_n 2, 49, 0, 0), (49, .ifCond .ne 15, 52, 64, 0), (52, .aload_n 0, 53, 0, 0), (53, .getfield 19, 56, 9, 2), (56, .iload 4, 58, 0, 0), (58, .aload_n 3, 59, 0, 0), (59, .getfield 55, 62, 6, 5), (62, .iastore, 63, 0, 0), (63, .return_, 64, 0, 0), (64, .iload_n 1, 65, 0, 0), (65, .iconst 1, 66, 0, 0), (66, .if_icmp .ne 22, 69, 88, 0), (69, .aload_n 0, 70, 0, 0), (70, .getfield 19, 73, 9, 2), (73, .iload 4, 75, 0, 0), (75, .iaload, 76, 0, 0), (76, .aload_n 3, 77, 0, 0), (77, .getfield 55, 80, 6, 5), (80, .if_icmp .ne 8, 83, 88, 0), (83, .aload_n 3, 84, 0, 0), (84, .iconst 2, 85, 0, 0), (85, .invokevirtual 47, 88, 74, 1), (88, .aload_n 0, 89, 0, 0), (89, .getfield 22, 92, 9, 3), (92, .iload 4, 94, 0, 0), (94, .aload_n 3, 95, 0, 0), (95, .getfield 55, 98, 6, 5), (98, .iastore, 99, 0, 0), (99, .return_, 100, 0, 0)]
def kX10_takeNumber : zM := (⟨"ReadAloud$Year", "takeNumber", "(IILReadAloud$Teller;)V"⟩, prog_12_method_6_code, 6, none, 9, qX10_takeNumber)
def qX10_tells : List zE := [(0, .iload_n 1, 1, 0, 0), (1, .iconst (-1), 2, 0, 0), (2, .if_icmp .ne 12, 5, 14, 0), (5, .iload_n 2, 6, 0, 0), (6, .ifCond .ne 8, 9, 14, 0), (9, .aload_n 0, 10, 0, 0), (10, .getfield 9, 13, 9, 0), (13, .ireturn, 14, 0, 0), (14, .iload_n 1, 15, 0, 0), (15, .ifCond .lt 11, 18, 26, 0), (18, .iload_n 1, 19, 0, 0), (19, .aload_n 0, 20, 0, 0), (20, .getfield 9, 23, 9, 0), (23, .if_icmp .lt 6, 26, 29, 0), (26, .bipush (-2), 28, 0, 0), (28, .ireturn, 29, 0, 0), (29, .iload_n 2, 30, 0, 0), (30, .tableswitch 47 0 2 #[26, 33, 40], 56, 0, 0), (56, .aload_n 0, 57, 0, 0), (57, .getfield 15, 60, 9, 1), (60, .iload_n 1, 61, 0, 0), (61, .iaload, 62, 0, 0), (62, .ireturn, 63, 0, 0), (63, .aload_n 0, 64, 0, 0), (64, .getfield 19, 67, 9, 2), (67, .iload_n 1, 68, 0, 0), (68, .iaload, 69, 0, 0), (69, .ireturn, 70, 0, 0), (70, .aload_n 0, 71, 0, 0), (71, .getfield 22, 74, 9, 3), (74, .iload_n 1, 75, 0, 0), (75, .iaload, 76, 0, 0), (76, .ireturn, 77, 0, 0), (77, .bipush (-2), 79, 0, 0), (79, .ireturn, 80, 0, 0)]
def kX10_tells : zM := (⟨"ReadAloud$Year", "tells", "(II)I"⟩, prog_12_method_7_code, 3, (some .int), 9, qX10_tells)
def qX6_init : List zE := [(0, .aload_n 0, 1, 0, 0), (1, .invokespecial 3, 4, 87, 0), (4, .aload_n 0, 5, 0, 0), (5, .iconst 0, 6, 0, 0), (6, .putfield 9, 9, 5, 0), (9, .aload_n 0, 10, 0, 0), (10, .bipush 6, 12, 0, 0), (12, .newarray .int, 14, 1, 6), (14, .putfield 15, 17, 5, 1), (17, .aload_n 0, 18, 0, 0), (18, .bipush 6, 20, 0, 0), (20, .newarray .int, 22, 1, 6), (22, .putfield 19, 25, 5, 2), (25, .return_, 26, 0, 0)]
def kX6_init : zM := (⟨"ReadAloud$Sight", "<init>", "()V"⟩, prog_8_method_1_code, 1, none, 5, qX6_init)
def qX6_lineOf : List zE := [(0, .aload_n 1, 1, 0, 0), (3, .invokevirtual 24, 6, 72, 1), (6, .ifCond .eq 7, 9, 13, 0), (9, .iconst 0, 10, 0, 0), (10, .goto 4, 13, 14, 0), (13, .iconst (-1), 14, 0, 0), (14, .ireturn, 15, 0, 0)]
def kX6_lineOf : zM := (⟨"ReadAloud$Sight", "lineOf", "(LReadAloud$Teller;)I"⟩, prog_8_method_2_code, 2, (some .int), 5, qX6_lineOf)
def qX6_fewestNumbers : List zE := [(0, .iconst 1, 1, 0, 0), (1, .ireturn, 2, 0, 0)]
def kX6_fewestNumbers : zM := (⟨"ReadAloud$Sight", "fewestNumbers", "(I)I"⟩, prog_8_method_3_code, 2, (some .int), 5, qX6_fewestNumbers)
def qX6_mostNumbers : List zE := [(0, .sipush 600, 3, 0, 0), (3, .ireturn, 4, 0, 0)]
def kX6_mostNumbers : zM := (⟨"ReadAloud$Sight", "mostNumbers", "(I)I"⟩, prog_8_method_4_code, 2, (some .int), 5, qX6_mostNumbers)
def qX6_beginLine : List zE := [(0, .aload_n 0, 1, 0, 0), (1, .getfield 9, 4, 5, 0), (4, .bipush 6, 6, 0, 0), (6, .if_icmp .lt 9, 9, 15, 0), (9, .aload_n 2, 10, 0, 0), (10, .iconst 3, 11, 0, 0), (11, .invokevirtual 30, 14, 74, 1), (14, .return_, 15, 0, 0), (15, .aload_n 0, 16, 0, 0), (16, .getfield 19, 19, 5, 2), (19, .aload_n 0, 20, 0, 0), (20, .getfield 9, 23, 5, 0), (23, .iconst 0, 24, 0, 0), (24, .iastore, 25, 0, 0), (25, .aload_n 0, 26, 0, 0), (26, .dup, 27, 0, 0), (27, .getfield 9, 30, 5, 0), (30, .iconst 1, 31, 0, 0), (31, .iadd, 32, 0, 0), (32, .putfield 9, 35, 5, 0), (35, .return_, 36, 0, 0)]
def kX6_beginLine : zM := (⟨"ReadAloud$Sight", "beginLine", "(ILReadAloud$Teller;)V"⟩, prog_8_method_5_code, 3, none, 5, qX6_beginLine)
def qX6_takeNumber : List zE := [(0, .aload_n 3, 1, 0, 0), (1, .iconst 0, 2, 0, 0), (2, .iload_n 2, 3, 0, 0), (3, .ifCond .ne 8, 6, 11, 0), (6, .bipush 9, 8, 0, 0), (8, .goto 4, 11, 12, 0), (11, .iconst 3, 12, 0, 0), (12, .invokevirtual 34, 15, 73, 2), (15, .istore 4, 17, 0, 0), (17, .aload_n 0, 18, 0, 0), (18, .getfield 9, 21, 5, 0), (21, .iconst 1, 22, 0, 0), (22, .isub, 23, 0, 0), (23, .istore 5, 25, 0, 0), (25, .iload_n 2, 26, 0, 0), (26, .bipush 6, 28, 0, 0), (28, .if_icmp .le 11, 31, 39, 0), (31, .aload_n 3, 32, 0, 0), (32, .iconst 3, 33, 0, 0), (33, .invokevirtual 30, 36, 74, 1), (36, .goto 52, 39, 88, 0), (39, .iload 4, 41, 0, 0), (41, .ifCond .eq 47, 44, 88, 0), (44, .iload 5, 46, 0, 0), (46, .ifCond .lt 42, 49, 88, 0), (49, .iload_n 2, 50, 0, 0), (50, .ifCond .ne 17, 53, 67, 0), (53, .aload_n 0, 54, 0, 0), (54, .getfield 15, 57, 5, 1), (57, .iload 5, 59, 0, 0), (59, .aload_n 3, 60, 0, 0), (60, .getfield 38, 63, 6, 5), (63, .iastore, 64, 0, 0), (64, .goto 24, 67, 88, 0), (67, .aload_n 0, 68, 0, 0), (68, .getfield 19, 71, 5, 2), (71, .iload 5, 73, 0, 0), (73, .aload_n 0, 74, 0, 0), (74, .getfield 19, 77, 5, 2), (77, .iload 5, 79, 0, 0), (79, .iaload, 80, 0, 0), (80, .aload_n 3, 81, 0, 0), (81, .getfield 38, 84, 6, 5), (84, .invokestatic 41, 87, 51, 2), (87, .iastore, 88, 0, 0), (88, .return_, 89, 0, 0)]
def kX6_takeNumber : zM := (⟨"ReadAloud$Sight", "takeNumber", "(IILReadAloud$Teller;)V"⟩, prog_8_method_6_code, 6, none, 5, qX6_takeNumber)
def qX6_tells : List zE := [(0, .iload_n 1, 1, 0, 0), (1, .iconst (-1), 2, 0, 0), (2, .if_icmp .ne 12, 5, 14, 0), (5, .iload_n 2, 6, 0, 0), (6, .ifCond .ne 8, 9, 14, 0), (9, .aload_n 0, 10, 0, 0), (10, .getfield 9, 13, 5, 0), (13, .ireturn, 14, 0, 0), (14, .iload_n 1, 15, 0, 0), (15, .ifCond .lt 11, 18, 26, 0), (18, .iload_n 1, 19, 0, 0), (19, .aload_n 0, 20, 0, 0), (20, .getfield 9, 23, 5, 0), (23, .if_icmp .lt 6, 26, 29, 0), (26, .bipush (-2), 28, 0, 0), (28, .ireturn, 29, 0, 0), (29, .iload_n 2, 30, 0, 0), (30, .lookupswitch 40 #[(0, 26), (1, 33)], 56, 0, 0), (56, .aload_n 0, 57, 0, 0), (57, .getfield 15, 60, 5, 1), (60, .iload_n 1, 61, 0, 0), (61, .iaload, 62, 0, 0), (62, .ireturn, 63, 0, 0), (63, .aload_n 0, 64, 0, 0), (64, .getfield 19, 67, 5, 2), (67, .iload_n 1, 68, 0, 0), (68, .iaload, 69, 0, 0), (69, .ireturn, 70, 0, 0), (70, .bipush (-2), 72, 0, 0), (72, .ireturn, 73, 0, 0)]
def kX6_tells : zM := (⟨"ReadAloud$Sight", "tells", "(II)I"⟩, prog_8_method_7_code, 3, (some .int), 5, qX6_tells)
def qX4_init : List zE := [(0, .aload_n 0, 1, 0, 0), (1, .invokespecial 3, 4, 0, 99), (4, .aload_n 0, 5, 0, 0), (5, .aconst_null, 6, 0, 0), (6, .putfield 9, 9, 3, 0), (9, .aload_n 0, 10, 0, 0), (10, .sipush 27305, 13, 0, 0), (13, .newarray .int, 15, 1, 27305), (15, .putfield 15, 18, 3, 1), (18, .aload_n 0, 19, 0, 0), (19, .sipush 5461, 22, 0, 0), (22, .newarray .byte, 24, 0, 5461), (24, .putfield 19, 27, 3, 2), (27, .aload_n 0, 28, 0, 0), (28, .sipush 5461, 31, 0, 0), (31, .newarray .byte, 33, 0, 5461), (33, .putfield 23, 36, 3, 3), (36, .return_, 37, 0, 0)]
def kX4_init : zM := (⟨"ReadAloud$Readings", "<init>", "()V"⟩, prog_6_method_1_code, 1, none, 3, qX4_init)
def qX4_takeUp : List zE := [(0, .aload_n 0, 1, 0, 0), (1, .getfield 9, 4, 3, 0), (4, .aload_n 1, 5, 0, 0), (5, .if_acmp .eq 16, 8, 21, 0), (8, .aload_n 0, 9, 0, 0), (9, .aload_n 1, 10, 0, 0), (10, .putfield 9, 13, 3, 0), (13, .aload_n 0, 14, 0, 0), (14, .getfield 15, 17, 3, 1), (17, .iconst (-1), 18, 0, 0), (21, .return_, 22, 0, 0)]
def kX4_takeUp : zM := (⟨"ReadAloud$Readings", "takeUp", "(LReadAloud$Book;)V"⟩, prog_6_method_2_code, 2, none, 3, qX4_takeUp)
def qX4_all : List zE := [(0, .iconst 1, 1, 0, 0), (1, .aload_n 0, 2, 0, 0), (2, .getfield 9, 5, 3, 0), (5, .getfield 32, 8, 0, 1), (8, .ishl, 9, 0, 0), (9, .iconst 1, 10, 0, 0), (10, .isub, 11, 0, 0), (11, .ireturn, 12, 0, 0)]
def kX4_all : zM := (⟨"ReadAloud$Readings", "all", "()I"⟩, prog_6_method_3_code, 1, (some .int), 3, qX4_all)
def qX4_after : List zE := [(0, .iload_n 1, 1, 0, 0), (1, .sipush 5461, 4, 0, 0), (4, .imul, 5, 0, 0), (5, .iload_n 2, 6, 0, 0), (6, .iadd, 7, 0, 0), (7, .istore_n 3, 8, 0, 0), (8, .aload_n 0, 9, 0, 0), (9, .getfield 15, 12, 3, 1), (12, .iload_n 3, 13, 0, 0), (13, .iaload, 14, 0, 0), (14, .iconst (-1), 15, 0, 0), (15, .if_icmp .ne 18, 18, 33, 0), (18, .aload_n 0, 19, 0, 0), (19, .getfield 15, 22, 3, 1), (22, .iload_n 3, 23, 0, 0), (23, .aload_n 0, 24, 0, 0), (24, .getfield 9, 27, 3, 0), (27, .iload_n 1, 28, 0, 0), (28, .iload_n 2, 29, 0, 0), (29, .invokevirtual 38, 32, 100, 2), (32, .iastore, 33, 0, 0), (33, .aload_n 0, 34, 0, 0), (34, .getfield 15, 37, 3, 1), (37, .iload_n 3, 38, 0, 0), (38, .iaload, 39, 0, 0), (39, .ireturn, 40, 0, 0)]
def kX4_after : zM := (⟨"ReadAloud$Readings", "after", "(II)I"⟩, prog_6_method_4_code, 4, (some .int), 3, qX4_after)
def qX4_isChanged : List zE := [(0, .iconst 0, 1, 0, 0), (1, .istore_n 3, 2, 0, 0), (2, .iload_n 3, 3, 0, 0), (3, .aload_n 0, 4, 0, 0), (4, .getfield 9, 7, 3, 0), (7, .getfield 32, 10, 0, 1), (10, .if_icmp .ge 29, 13, 39, 0), (13, .iload_n 2, 14, 0, 0), (14, .iload_n 3, 15, 0, 0), (15, .invokestatic 42, 18, 49, 2), (18, .ifCond .eq 15, 21, 33, 0), (21, .aload_n 0, 22, 0, 0), (22, .iload_n 3, 23, 0, 0), (23, .iload_n 1, 24, 0, 0), (24, .invokevirtual 46, 27, 127, 2), (27, .iload_n 1, 28, 0, 0), (28, .if_icmp .eq 5, 31, 33, 0), (31, .iconst 1, 32, 0, 0), (32, .ireturn, 33, 0, 0), (33, .iinc 3 1, 36, 0, 0), (36, .goto (-34), 39, 2, 0), (39, .iconst 0, 40, 0, 0), (40, .ireturn, 41, 0, 0)]
def kX4_isChanged : zM := (⟨"ReadAloud$Readings", "isChanged", "(II)Z"⟩, prog_6_method_5_code, 4, (some .boolean), 3, qX4_isChanged)
def qX4_unchangedBy : List zE := [(0, .iconst 0, 1, 0, 0), (1, .istore_n 2, 2, 0, 0), (2, .iconst 0, 3, 0, 0), (3, .istore_n 3, 4, 0, 0), (4, .iload_n 3, 5, 0, 0), (5, .sipush 5461, 8, 0, 0), (8, .if_icmp .ge 21, 11, 29, 0), (11, .aload_n 0, 12, 0, 0), (12, .iload_n 3, 13, 0, 0), (13, .iload_n 1, 14, 0, 0), (14, .invokevirtual 49, 17, 128, 2), (17, .ifCond .ne 6, 20, 23, 0), (20, .iinc 2 1, 23, 0, 0), (23, .iinc 3 1, 26, 0, 0), (26, .goto (-22), 29, 4, 0), (29, .iload_n 2, 30, 0, 0), (30, .ireturn, 31, 0, 0)]
def kX4_unchangedBy : zM := (⟨"ReadAloud$Readings", "unchangedBy", "(I)I"⟩, prog_6_method_6_code, 4, (some .int), 3, qX4_unchangedBy)
def qX4_alikeEitherWay : List zE := [(0, .iconst 0, 1, 0, 0), (1, .istore_n 3, 2, 0, 0), (2, .iconst 0, 3, 0, 0), (3, .istore 4, 5, 0, 0), (5, .iload 4, 7, 0, 0), (7, .sipush 5461, 10, 0, 0), (10, .if_icmp .ge 39, 13, 49, 0), (13, .aload_n 0, 14, 0, 0), (14, .iload_n 2, 15, 0, 0), (15, .aload_n 0, 16, 0, 0), (16, .iload_n 1, 17, 0, 0), (17, .iload 4, 19, 0, 0), (19, .invokevirtual 46, 22, 127, 2), (22, .invokevirtual 46, 25, 127, 2), (25, .aload_n 0, 26, 0, 0), (26, .iload_n 1, 27, 0, 0), (27, .aload_n 0, 28, 0, 0), (28, .iload_n 2, 29, 0, 0), (29, .iload 4, 31, 0, 0), (31, .invokevirtual 46, 34, 127, 2), (34, .invokevirtual 46, 37, 127, 2), (37, .if_icmp .ne 6, 40, 43, 0), (40, .iinc 3 1, 43, 0, 0), (43, .iinc 4 1, 46, 0, 0), (46, .goto (-41), 49, 5, 0), (49, .iload_n 3, 50, 0, 0), (50, .ireturn, 51, 0, 0)]
def kX4_alikeEitherWay : zM := (⟨"ReadAloud$Readings", "alikeEitherWay", "(II)I"⟩, prog_6_method_7_code, 5, (some .int), 3, qX4_alikeEitherWay)
def qX4_goBack : List zE := [(0, .aload_n 0, 1, 0, 0), (1, .getfield 19, 4, 3, 2), (4, .iconst 0, 5, 0, 0), (8, .aload_n 0, 9, 0, 0), (9, .getfield 19, 12, 3, 2), (12, .iload_n 1, 13, 0, 0), (13, .iconst 1, 14, 0, 0), (14, .bastore, 15, 0, 0), (15, .iconst 0, 16, 0, 0), (16, .istore_n 3, 17, 0, 0), (17, .iload_n 3, 18, 0, 0), (18, .iload_n 2, 19, 0, 0), (19, .if_icmp .ge 67, 22, 86, 0), (22, .iconst 0, 23, 0, 0), (23, .istore 4, 25, 0, 0), (25, .iload 4, 27, 0, 0), (27, .sipush 5461, 30, 0, 0), (30, .if_icmp .ge 30, 33, 60, 0), (33, .aload_n 0, 34, 0, 0), (34, .getfield 23, 37, 3, 3), (37, .iload 4, 39, 0, 0), (39, .aload_n 0, 40, 0, 0), (40, .iload 4, 42, 0, 0), (42, .invokevirtual 55, 45, 132, 1), (45, .ifCond .eq 7, 48, 52, 0), (48, .iconst 1, 49, 0, 0), (49, .goto 4, 52, 53, 0), (52, .iconst 0, 53, 0, 0), (53, .bastore, 54, 0, 0), (54, .iinc 4 1, 57, 0, 0), (57, .goto (-32), 60, 25, 0), (60, .aload_n 0, 61, 0, 0), (61, .getfield 19, 64, 3, 2), (64, .astore 4, 66, 0, 0), (66, .aload_n 0, 67, 0, 0), (67, .aload_n 0, 68, 0, 0), (68, .getfield 23, 71, 3, 3), (71, .putfield 19, 74, 3, 2), (74, .aload_n 0, 75, 0, 0), (75, .aload 4, 77, 0, 0), (77, .putfield 23, 80, 3, 3), (80, .iinc 3 1, 83, 0, 0), (83, .goto (-66), 86, 17, 0), (86, .return_, 87, 0, 0)]
def kX4_goBack : zM := (⟨"ReadAloud$Readings", "goBack", "(II)V"⟩, prog_6_method_8_code, 5, none, 3, qX4_goBack)
def qX4_comesToMarked : List zE := [(0, .iconst 0, 1, 0, 0), (1, .istore_n 2, 2, 0, 0), (2, .iload_n 2, 3, 0, 0), (3, .aload_n 0, 4, 0, 0), (4, .getfield 9, 7, 3, 0), (7, .getfield 32, 10, 0, 1), (10, .if_icmp .ge 25, 13, 35, 0), (13, .aload_n 0, 14, 0, 0), (14, .getfield 19, 17, 3, 2), (17, .aload_n 0, 18, 0, 0), (18, .iload_n 2, 19, 0, 0), (19, .iload_n 1, 20, 0, 0), (20, .invokevirtual 46, 23, 127, 2), (23, .baload, 24, 0, 0), (24, .ifCond .eq 5, 27, 29, 0), (27, .iconst 1, 28, 0, 0), (28, .ireturn, 29, 0, 0), (29, .iinc 2 1, 32, 0, 0), (32, .goto (-30), 35, 2, 0), (35, .iconst 0, 36, 0, 0), (36, .ireturn, 37, 0, 0)]
def kX4_comesToMarked : zM := (⟨"ReadAloud$Readings", "comesToMarked", "(I)Z"⟩, prog_6_method_9_code, 3, (some .boolean), 3, qX4_comesToMarked)
def qX4_markUnmade : List zE := [(0, .aload_n 0, 1, 0, 0), (1, .getfield 19, 4, 3, 2), (4, .iconst 1, 5, 0, 0), (8, .iconst 0, 9, 0, 0), (9, .istore_n 1, 10, 0, 0), (10, .iload_n 1, 11, 0, 0), (11, .aload_n 0, 12, 0, 0), (12, .getfield 9, 15, 3, 0), (15, .getfield 32, 18, 0, 1), (18, .if_icmp .ge 36, 21, 54, 0), (21, .iconst 0, 22, 0, 0), (22, .istore_n 2, 23, 0, 0), (23, .iload_n 2, 24, 0, 0), (24, .sipush 5461, 27, 0, 0), (27, .if_icmp .ge 21, 30, 48, 0), (30, .aload_n 0, 31, 0, 0), (31, .getfield 19, 34, 3, 2), (34, .aload_n 0, 35, 0, 0), (35, .iload_n 1, 36, 0, 0), (36, .iload_n 2, 37, 0, 0), (37, .invokevirtual 46, 40, 127, 2), (40, .iconst 0, 41, 0, 0), (41, .bastore, 42, 0, 0), (42, .iinc 2 1, 45, 0, 0), (45, .goto (-22), 48, 23, 0), (48, .iinc 1 1, 51, 0, 0), (51, .goto (-41), 54, 10, 0), (54, .return_, 55, 0, 0)]
def kX4_markUnmade : zM := (⟨"ReadAloud$Readings", "markUnmade", "()V"⟩, prog_6_method_10_code, 3, none, 3, qX4_markUnmade)
def qX4_marked : List zE := [(0, .iconst 0, 1, 0, 0), (1, .istore_n 1, 2, 0, 0), (2, .iconst 0, 3, 0, 0), (3, .istore_n 2, 4, 0, 0), (4, .iload_n 2, 5, 0, 0), (5, .sipush 5461, 8, 0, 0), (8, .if_icmp .ge 18, 11, 26, 0), (11, .iload_n 1, 12, 0, 0), (12, .aload_n 0, 13, 0, 0), (13, .getfield 19, 16, 3, 2), (16, .iload_n 2, 17, 0, 0), (17, .baload, 18, 0, 0), (18, .iadd, 19, 0, 0), (19, .istore_n 1, 20, 0, 0), (20, .iinc 2 1, 23, 0, 0), (23, .goto (-19), 26, 4, 0), (26, .iload_n 1, 27, 0, 0), (27, .ireturn, 28, 0, 0)]
def kX4_marked : zM := (⟨"ReadAloud$Readings", "marked", "()I"⟩, prog_6_method_11_code, 3, (some .int), 3, qX4_marked)
def qX4_leastMarked : List zE := [(0, .iconst 0, 1, 0, 0), (1, .istore_n 1, 2, 0, 0), (2, .iload_n 1, 3, 0, 0), (3, .sipush 5461, 6, 0, 0), (6, .if_icmp .ge 20, 9, 26, 0), (9, .aload_n 0, 10, 0, 0), (10, .getfield 19, 13, 3, 2), (13, .iload_n 1, 14, 0, 0), (14, .baload, 15, 0, 0), (15, .ifCond .eq 5, 18, 20, 0), (18, .iload_n 1, 19, 0, 0), (19, .ireturn, 20, 0, 0), (20, .iinc 1 1, 23, 0, 0), (23, .goto (-21), 26, 2, 0), (26, .iconst (-1), 27, 0, 0), (27, .ireturn, 28, 0, 0)]
def kX4_leastMarked : zM := (⟨"ReadAloud$Readings", "leastMarked", "()I"⟩, prog_6_method_12_code, 2, (some .int), 3, qX4_leastMarked)
def qX9_init : List zE := [(0, .aload_n 0, 1, 0, 0), (1, .invokespecial 3, 4, 0, 99), (4, .aload_n 0, 5, 0, 0), (5, .iconst 0, 6, 0, 0), (6, .putfield 9, 9, 8, 0), (9, .aload_n 0, 10, 0, 0), (10, .sipush 5461, 13, 0, 0), (13, .newarray .int, 15, 1, 5461), (15, .putfield 15, 18, 8, 1), (18, .aload_n 0, 19, 0, 0), (19, .sipush 5461, 22, 0, 0), (22, .newarray .int, 24, 1, 5461), (24, .putfield 19, 27, 8, 2), (27, .aload_n 0, 28, 0, 0), (28, .sipush 5461, 31, 0, 0), (31, .newarray .int, 33, 1, 5461), (33, .putfield 22, 36, 8, 3), (36, .aload_n 0, 37, 0, 0), (37, .sipush 5461, 40, 0, 0), (40, .newarray .int, 42, 1, 5461), (42, .putfield 25, 45, 8, 4), (45, .aload_n 0, 46, 0, 0), (46, .getfield 19, 49, 8, 2), (49, .iconst (-1), 50, 0, 0), (53, .return_, 54, 0, 0)]
def kX9_init : zM := (⟨"ReadAloud$Walk", "<init>", "()V"⟩, prog_11_method_1_code, 1, none, 8, qX9_init)
def qX9_go : List zE := [(0, .iconst 0, 1, 0, 0), (1, .istore 5, 3, 0, 0), (3, .iload 5, 5, 0, 0), (5, .aload_n 0, 6, 0, 0), (6, .getfield 9, 9, 8, 0), (9, .if_icmp .ge 22, 12, 31, 0), (12, .aload_n 0, 13, 0, 0), (13, .getfield 19, 16, 8, 2), (16, .aload_n 0, 17, 0, 0), (17, .getfield 15, 20, 8, 1), (20, .iload 5, 22, 0, 0), (22, .iaload, 23, 0, 0), (23, .iconst (-1), 24, 0, 0), (24, .iastore, 25, 0, 0), (25, .iinc 5 1, 28, 0, 0), (28, .goto (-25), 31, 3, 0), (31, .aload_n 0, 32, 0, 0), (32, .iconst 0, 33, 0, 0), (33, .putfield 9, 36, 8, 0), (36, .aload_n 0, 37, 0, 0), (37, .iload_n 2, 38, 0, 0), (38, .iconst 0, 39, 0, 0), (39, .iconst (-1), 40, 0, 0), (40, .iconst (-1), 41, 0, 0), (41, .invokevirtual 34, 44, 138, 4), (44, .iconst 0, 45, 0, 0), (45, .istore 5, 47, 0, 0), (47, .iload 5, 49, 0, 0), (49, .aload_n 0, 50, 0, 0), (50, .getfield 9, 53, 8, 0), (53, .if_icmp .ge 89, 56, 142, 0), (56, .iload 5, 58, 0, 0), (58, .sipush 5461, 61, 0, 0), (61, .if_icmp .ge 81, 64, 142, 0), (64, .aload_n 0, 65, 0, 0), (65, .getfield 15, 68, 8, 1), (68, .iload 5, 70, 0, 0), (70, .iaload, 71, 0, 0), (71, .istore 6, 73, 0, 0), (73, .iload 6, 75, 0, 0), (75, .iload 4, 77, 0, 0), (77, .if_icmp .ne 4, 80, 81, 0), (80, .return_, 81, 0, 0), (81, .iconst 0, 82, 0, 0), (82, .istore 7, 84, 0, 0), (84, .iload 7, 86, 0, 0), (86, .aload_n 1, 87, 0, 0), (87, .getfield 38, 90, 3, 0), (90, .getfield 44, 93, 0, 1), (93, .if_icmp .ge 43, 96, 136, 0), (96, .iload_n 3, 97, 0, 0), (97, .iload 7, 99, 0, 0), (99, .invokestatic 49, 102, 49, 2), (102, .ifCond .eq 28, 105, 130, 0), (105, .aload_n 0, 106, 0, 0), (106, .aload_n 1, 107, 0, 0), (107, .iload 7, 109, 0, 0), (109, .iload 6, 111, 0, 0), (111, .invokevirtual 53, 114, 127, 2), (114, .aload_n 0, 115, 0, 0), (115, .getfield 19, 118, 8, 2), (118, .iload 6, 120, 0, 0), (120, .iaload, 121, 0, 0), (121, .iconst 1, 122, 0, 0), (122, .iadd, 123, 0, 0), (123, .iload 6, 125, 0, 0), (125, .iload 7, 127, 0, 0), (127, .invokevirtual 34, 130, 138, 4), (130, .iinc 7 1, 133, 0, 0), (133, .goto (-49), 136, 84, 0), (136, .iinc 5 1, 139, 0, 0), (139, .goto (-92), 142, 47, 0), (142, .return_, 143, 0, 0)]
def kX9_go : zM := (⟨"ReadAloud$Walk", "go", "(LReadAloud$Readings;III)V"⟩, prog_11_method_2_code, 8, none, 8, qX9_go)
def qX9_comeTo : List zE := [(0, .aload_n 0, 1, 0, 0), (1, .getfield 19, 4, 8, 2), (4, .iload_n 1, 5, 0, 0), (5, .iaload, 6, 0, 0), (6, .iconst (-1), 7, 0, 0), (7, .if_icmp .ne 55, 10, 62, 0), (10, .aload_n 0, 11, 0, 0), (11, .getfield 9, 14, 8, 0), (14, .sipush 5461, 17, 0, 0), (17, .if_icmp .ge 45, 20, 62, 0), (20, .aload_n 0, 21, 0, 0), (21, .getfield 19, 24, 8, 2), (24, .iload_n 1, 25, 0, 0), (25, .iload_n 2, 26, 0, 0), (26, .iastore, 27, 0, 0), (27, .aload_n 0, 28, 0, 0), (28, .getfield 22, 31, 8, 3), (31, .iload_n 1, 32, 0, 0), (32, .iload_n 3, 33, 0, 0), (33, .iastore, 34, 0, 0), (34, .aload_n 0, 35, 0, 0), (35, .getfield 25, 38, 8, 4), (38, .iload_n 1, 39, 0, 0), (39, .iload 4, 41, 0, 0), (41, .iastore, 42, 0, 0), (42, .aload_n 0, 43, 0, 0), (43, .getfield 15, 46, 8, 1), (46, .aload_n 0, 47, 0, 0), (47, .getfield 9, 50, 8, 0), (50, .iload_n 1, 51, 0, 0), (51, .iastore, 52, 0, 0), (52, .aload_n 0, 53, 0, 0), (53, .dup, 54, 0, 0), (54, .getfield 9, 57, 8, 0), (57, .iconst 1, 58, 0, 0), (58, .iadd, 59, 0, 0), (59, .putfield 9, 62, 8, 0), (62, .return_, 63, 0, 0)]
def kX9_comeTo : zM := (⟨"ReadAloud$Walk", "comeTo", "(IIII)V"⟩, prog_11_method_3_code, 5, none, 8, qX9_comeTo)
def qX9_readerOnWay : List zE := [(0, .iload_n 1, 1, 0, 0), (1, .istore_n 3, 2, 0, 0), (2, .aload_n 0, 3, 0, 0), (3, .getfield 19, 6, 8, 2), (6, .iload_n 1, 7, 0, 0), (7, .iaload, 8, 0, 0), (8, .iconst 1, 9, 0, 0), (9, .isub, 10, 0, 0), (10, .istore 4, 12, 0, 0), (12, .iload 4, 14, 0, 0), (14, .iload_n 2, 15, 0, 0), (15, .if_icmp .le 16, 18, 31, 0), (18, .aload_n 0, 19, 0, 0), (19, .getfield 22, 22, 8, 3), (22, .iload_n 3, 23, 0, 0), (23, .iaload, 24, 0, 0), (24, .istore_n 3, 25, 0, 0), (25, .iinc 4 (-1), 28, 0, 0), (28, .goto (-16), 31, 12, 0), (31, .aload_n 0, 32, 0, 0), (32, .getfield 25, 35, 8, 4), (35, .iload_n 3, 36, 0, 0), (36, .iaload, 37, 0, 0), (37, .ireturn, 38, 0, 0)]
def kX9_readerOnWay : zM := (⟨"ReadAloud$Walk", "readerOnWay", "(II)I"⟩, prog_11_method_4_code, 5, (some .int), 8, qX9_readerOnWay)
def qX9_wayBack : List zE := [(0, .iconst 0, 1, 0, 0), (1, .istore_n 3, 2, 0, 0), (2, .iload_n 3, 3, 0, 0), (3, .aload_n 0, 4, 0, 0), (4, .getfield 9, 7, 8, 0), (7, .if_icmp .ge 60, 10, 67, 0), (10, .iconst 0, 11, 0, 0), (11, .istore 4, 13, 0, 0), (13, .iload 4, 15, 0, 0), (15, .aload_n 1, 16, 0, 0), (16, .getfield 38, 19, 3, 0), (19, .getfield 44, 22, 0, 1), (22, .if_icmp .ge 39, 25, 61, 0), (25, .aload_n 1, 26, 0, 0), (26, .iload 4, 28, 0, 0), (28, .aload_n 0, 29, 0, 0), (29, .getfield 15, 32, 8, 1), (32, .iload_n 3, 33, 0, 0), (33, .iaload, 34, 0, 0), (34, .invokevirtual 53, 37, 127, 2), (37, .iload_n 2, 38, 0, 0), (38, .if_icmp .ne 17, 41, 55, 0), (41, .aload_n 0, 42, 0, 0), (42, .getfield 19, 45, 8, 2), (45, .aload_n 0, 46, 0, 0), (46, .getfield 15, 49, 8, 1), (49, .iload_n 3, 50, 0, 0), (50, .iaload, 51, 0, 0), (51, .iaload, 52, 0, 0), (52, .iconst 1, 53, 0, 0), (53, .iadd, 54, 0, 0), (54, .ireturn, 55, 0, 0), (55, .iinc 4 1, 58, 0, 0), (58, .goto (-45), 61, 13, 0), (61, .iinc 3 1, 64, 0, 0), (64, .goto (-62), 67, 2, 0), (67, .iconst (-1), 68, 0, 0), (68, .ireturn, 69, 0, 0)]
def kX9_wayBack : zM := (⟨"ReadAloud$Walk", "wayBack", "(LReadAloud$Readings;I)I"⟩, prog_11_method_5_code, 5, (some .int), 8, qX9_wayBack)
def qX9_farthest : List zE := [(0, .aload_n 0, 1, 0, 0), (1, .getfield 9, 4, 8, 0), (4, .ifCond .ne 7, 7, 11, 0), (7, .iconst 0, 8, 0, 0), (8, .goto 19, 11, 27, 0), (11, .aload_n 0, 12, 0, 0), (12, .getfield 19, 15, 8, 2), (15, .aload_n 0, 16, 0, 0), (16, .getfield 15, 19, 8, 1), (19, .aload_n 0, 20, 0, 0), (20, .getfield 9, 23, 8, 0), (23, .iconst 1, 24, 0, 0), (24, .isub, 25, 0, 0), (25, .iaload, 26, 0, 0), (26, .iaload, 27, 0, 0), (27, .ireturn, 28, 0, 0)]
def kX9_farthest : zM := (⟨"ReadAloud$Walk", "farthest", "()I"⟩, prog_11_method_6_code, 1, (some .int), 8, qX9_farthest)
def qX9_meeting : List zE := [(0, .iconst (-1), 1, 0, 0), (1, .istore_n 2, 2, 0, 0), (2, .iconst 0, 3, 0, 0), (3, .istore_n 3, 4, 0, 0), (4, .iconst 0, 5, 0, 0), (5, .istore 4, 7, 0, 0), (7, .iload 4, 9, 0, 0), (9, .aload_n 0, 10, 0, 0), (10, .getfield 9, 13, 8, 0), (13, .if_icmp .ge 75, 16, 88, 0), (16, .aload_n 0, 17, 0, 0), (17, .getfield 15, 20, 8, 1), (20, .iload 4, 22, 0, 0), (22, .iaload, 23, 0, 0), (23, .istore 5, 25, 0, 0), (25, .aload_n 1, 26, 0, 0), (26, .getfield 19, 29, 8, 2), (29, .iload 5, 31, 0, 0), (31, .iaload, 32, 0, 0), (32, .iconst (-1), 33, 0, 0), (33, .if_icmp .eq 49, 36, 82, 0), (36, .aload_n 0, 37, 0, 0), (37, .getfield 19, 40, 8, 2), (40, .iload 5, 42, 0, 0), (42, .iaload, 43, 0, 0), (43, .aload_n 1, 44, 0, 0), (44, .getfield 19, 47, 8, 2), (47, .iload 5, 49, 0, 0), (49, .iaload, 50, 0, 0), (50, .iadd, 51, 0, 0), (51, .istore 6, 53, 0, 0), (53, .iload_n 2, 54, 0, 0), (54, .iconst (-1), 55, 0, 0), (55, .if_icmp .eq 21, 58, 76, 0), (58, .iload 6, 60, 0, 0), (60, .iload_n 3, 61, 0, 0), (61, .if_icmp .lt 15, 64, 76, 0), (64, .iload 6, 66, 0, 0), (66, .iload_n 3, 67, 0, 0), (67, .if_icmp .ne 15, 70, 82, 0), (70, .iload 5, 72, 0, 0), (72, .iload_n 2, 73, 0, 0), (73, .if_icmp .ge 9, 76, 82, 0), (76, .iload 5, 78, 0, 0), (78, .istore_n 2, 79, 0, 0), (79, .iload 6, 81, 0, 0), (81, .istore_n 3, 82, 0, 0), (82, .iinc 4 1, 85, 0, 0), (85, .goto (-78), 88, 7, 0), (88, .iload_n 2, 89, 0, 0), (89, .ireturn, 90, 0, 0)]
def kX9_meeting : zM := (⟨"ReadAloud$Walk", "meeting", "(LReadAloud$Walk;)I"⟩, prog_11_method_7_code, 7, (some .int), 8, qX9_meeting)
def qX9_nearestTo : List zE := [(0, .aload_n 0, 1, 0, 0), (1, .getfield 15, 4, 8, 1), (4, .iconst 0, 5, 0, 0), (5, .iaload, 6, 0, 0), (6, .istore_n 2, 7, 0, 0), (7, .iload_n 2, 8, 0, 0), (8, .iload_n 1, 9, 0, 0), (9, .invokestatic 57, 12, 59, 2), (12, .istore_n 3, 13, 0, 0), (13, .iconst 1, 14, 0, 0), (14, .istore 4, 16, 0, 0), (16, .iload 4, 18, 0, 0), (18, .aload_n 0, 19, 0, 0), (19, .getfield 9, 22, 8, 0), (22, .if_icmp .ge 56, 25, 78, 0), (25, .aload_n 0, 26, 0, 0), (26, .getfield 15, 29, 8, 1), (29, .iload 4, 31, 0, 0), (31, .iaload, 32, 0, 0), (32, .iload_n 1, 33, 0, 0), (33, .invokestatic 57, 36, 59, 2), (36, .istore 5, 38, 0, 0), (38, .iload 5, 40, 0, 0), (40, .iload_n 3, 41, 0, 0), (41, .if_icmp .lt 20, 44, 61, 0), (44, .iload 5, 46, 0, 0), (46, .iload_n 3, 47, 0, 0), (47, .if_icmp .ne 25, 50, 72, 0), (50, .aload_n 0, 51, 0, 0), (51, .getfield 15, 54, 8, 1), (54, .iload 4, 56, 0, 0), (56, .iaload, 57, 0, 0), (57, .iload_n 2, 58, 0, 0), (58, .if_icmp .ge 14, 61, 72, 0), (61, .aload_n 0, 62, 0, 0), (62, .getfield 15, 65, 8, 1), (65, .iload 4, 67, 0, 0), (67, .iaload, 68, 0, 0), (68, .istore_n 2, 69, 0, 0), (69, .iload 5, 71, 0, 0), (71, .istore_n 3, 72, 0, 0), (72, .iinc 4 1, 75, 0, 0), (75, .goto (-59), 78, 16, 0), (78, .iload_n 2, 79, 0, 0), (79, .ireturn, 80, 0, 0)]
def kX9_nearestTo : zM := (⟨"ReadAloud$Walk", "nearestTo", "(I)I"⟩, prog_11_method_8_code, 6, (some .int), 8, qX9_nearestTo)
def qX9_firstSettled : List zE := [(0, .iconst (-1), 1, 0, 0), (1, .istore_n 2, 2, 0, 0), (2, .iconst 0, 3, 0, 0), (3, .istore_n 3, 4, 0, 0), (4, .iload_n 3, 5, 0, 0), (5, .aload_n 0, 6, 0, 0), (6, .getfield 9, 9, 8, 0), (9, .if_icmp .ge 67, 12, 76, 0), (12, .aload_n 0, 13, 0, 0), (13, .getfield 15, 16, 8, 1), (16, .iload_n 3, 17, 0, 0), (17, .iaload, 18, 0, 0), (18, .istore 4, 20, 0, 0), (20, .iload_n 2, 21, 0, 0), (21, .iconst (-1), 22, 0, 0), (22, .if_icmp .eq 21, 25, 43, 0), (25, .aload_n 0, 26, 0, 0), (26, .getfield 19, 29, 8, 2), (29, .iload 4, 31, 0, 0), (31, .iaload, 32, 0, 0), (32, .aload_n 0, 33, 0, 0), (33, .getfield 19, 36, 8, 2), (36, .iload_n 2, 37, 0, 0), (37, .iaload, 38, 0, 0), (38, .if_icmp .le 5, 41, 43, 0), (41, .iload_n 2, 42, 0, 0), (42, .ireturn, 43, 0, 0), (43, .iload_n 2, 44, 0, 0), (44, .iconst (-1), 45, 0, 0), (45, .if_icmp .eq 9, 48, 54, 0), (48, .iload 4, 50, 0, 0), (50, .iload_n 2, 51, 0, 0), (51, .if_icmp .ge 19, 54, 70, 0), (54, .aload_n 1, 55, 0, 0), (55, .iload 4, 57, 0, 0), (57, .aload_n 1, 58, 0, 0), (58, .invokevirtual 60, 61, 126, 0), (61, .invokevirtual 64, 64, 128, 2), (64, .ifCond .ne 6, 67, 70, 0), (67, .iload 4, 69, 0, 0), (69, .istore_n 2, 70, 0, 0), (70, .iinc 3 1, 73, 0, 0), (73, .goto (-69), 76, 4, 0), (76, .iload_n 2, 77, 0, 0), (77, .ireturn, 78, 0, 0)]
def kX9_firstSettled : zM := (⟨"ReadAloud$Walk", "firstSettled", "(LReadAloud$Readings;)I"⟩, prog_11_method_9_code, 5, (some .int), 8, qX9_firstSettled)
def qX2_init : List zE := [(0, .aload_n 0, 1, 0, 0), (1, .invokespecial 3, 4, 0, 99), (4, .aload_n 0, 5, 0, 0), (5, .aconst_null, 6, 0, 0), (6, .putfield 9, 9, 2, 0), (9, .aload_n 0, 10, 0, 0), (10, .iconst 0, 11, 0, 0), (11, .putfield 15, 14, 2, 1), (14, .aload_n 0, 15, 0, 0), (15, .iconst 0, 16, 0, 0), (16, .putfield 19, 19, 2, 2), (19, .aload_n 0, 20, 0, 0), (20, .iconst 0, 21, 0, 0), (21, .putfield 22, 24, 2, 3), (24, .aload_n 0, 25, 0, 0), (25, .bipush 11, 27, 0, 0), (27, .newarray .int, 29, 1, 11), (29, .putfield 25, 32, 2, 4), (32, .aload_n 0, 33, 0, 0), (33, .bipush 10, 35, 0, 0), (35, .newarray .int, 37, 1, 10), (37, .putfield 29, 40, 2, 5), (40, .aload_n 0, 41, 0, 0), (41, .sipush 25750, 44, 0, 0), (44, .newarray .int, 46, 1, 25750), (46, .putfield 32, 49, 2, 6), (49, .aload_n 0, 50, 0, 0), (50, .sipush 25750, 53, 0, 0), (53, .newarray .int, 55, 1, 25750), (55, .putfield 35, 58, 2, 7), (58, .aload_n 0, 59, 0, 0), (59, .sipush 25750, 62, 0, 0), (62, .newarray .int, 64, 1, 25750), (64, .putfield 38, 67, 2, 8), (67, .aload_n 0, 68, 0, 0), (68, .sipush 5461, 71, 0, 0), (71, .newarray .int, 73, 1, 5461), (73, .putfield 41, 76, 2, 9), (76, .aload_n 0, 77, 0, 0), (77, .getfield 41, 80, 2, 9), (80, .iconst (-1), 81, 0, 0), (84, .return_, 85, 0, 0)]
def kX2_init : zM := (⟨"ReadAloud$Levels", "<init>", "()V"⟩, prog_4_method_1_code, 1, none, 2, qX2_init)
def qX2_wantNothing : List zE := [(0, .aload_n 0, 1, 0, 0), (1, .getfield 29, 4, 2, 5), (4, .iconst (-1), 5, 0, 0), (8, .return_, 9, 0, 0)]
def kX2_wantNothing : zM := (⟨"ReadAloud$Levels", "wantNothing", "()V"⟩, prog_4_method_2_code, 1, none, 2, qX2_wantNothing)
def qX2_want : List zE := [(0, .aload_n 0, 1, 0, 0), (1, .invokevirtual 50, 4, 146, 0), (4, .iconst 0, 5, 0, 0), (5, .istore_n 2, 6, 0, 0), (6, .iload_n 2, 7, 0, 0), (7, .aload_n 1, 8, 0, 0), (8, .getfield 53, 11, 5, 0), (11, .if_icmp .ge 64, 14, 75, 0), (14, .aload_n 1, 15, 0, 0), (15, .getfield 58, 18, 5, 1), (18, .iload_n 2, 19, 0, 0), (19, .iaload, 20, 0, 0), (20, .istore_n 3, 21, 0, 0), (21, .aload_n 0, 22, 0, 0), (22, .getfield 29, 25, 2, 5), (25, .iload_n 3, 26, 0, 0), (26, .iaload, 27, 0, 0), (27, .iconst (-1), 28, 0, 0), (28, .if_icmp .eq 18, 31, 46, 0), (31, .aload_n 0, 32, 0, 0), (32, .getfield 29, 35, 2, 5), (35, .iload_n 3, 36, 0, 0), (36, .iaload, 37, 0, 0), (37, .aload_n 1, 38, 0, 0), (38, .getfield 61, 41, 5, 2), (41, .iload_n 2, 42, 0, 0), (42, .iaload, 43, 0, 0), (43, .if_icmp .ne 18, 46, 61, 0), (46, .aload_n 0, 47, 0, 0), (47, .getfield 29, 50, 2, 5), (50, .iload_n 3, 51, 0, 0), (51, .aload_n 1, 52, 0, 0), (52, .getfield 61, 55, 5, 2), (55, .iload_n 2, 56, 0, 0), (56, .iaload, 57, 0, 0), (57, .iastore, 58, 0, 0), (58, .goto 11, 61, 69, 0), (61, .aload_n 0, 62, 0, 0), (62, .getfield 29, 65, 2, 5), (65, .iload_n 3, 66, 0, 0), (66, .bipush (-2), 68, 0, 0), (68, .iastore, 69, 0, 0), (69, .iinc 2 1, 72, 0, 0), (72, .goto (-66), 75, 6, 0), (75, .return_, 76, 0, 0)]
def kX2_want : zM := (⟨"ReadAloud$Levels", "want", "(LReadAloud$Sight;)V"⟩, prog_4_method_3_code, 4, none, 2, qX2_want)
def qX2_isWanted : List zE := [(0, .aload_n 0, 1, 0, 0), (1, .getfield 29, 4, 2, 5), (4, .iload_n 1, 5, 0, 0), (5, .iaload, 6, 0, 0), (6, .iconst (-1), 7, 0, 0), (7, .if_icmp .eq 13, 10, 20, 0), (10, .aload_n 0, 11, 0, 0), (11, .getfield 29, 14, 2, 5), (14, .iload_n 1, 15, 0, 0), (15, .iaload, 16, 0, 0), (16, .iload_n 2, 17, 0, 0), (17, .if_icmp .ne 7, 20, 24, 0), (20, .iconst 1, 21, 0, 0), (21, .goto 4, 24, 25, 0), (24, .iconst 0, 25, 0, 0), (25, .ireturn, 26, 0, 0)]
def kX2_isWanted : zM := (⟨"ReadAloud$Levels", "isWanted", "(II)Z"⟩, prog_4_method_4_code, 3, (some .boolean), 2, qX2_isWanted)
def qX2_spread : List zE := [(0, .aload_n 0, 1, 0, 0), (1, .aload_n 1, 2, 0, 0), (2, .putfield 9, 5, 2, 0), (5, .aload_n 0, 6, 0, 0), (6, .iload_n 2, 7, 0, 0), (7, .putfield 15, 10, 2, 1), (10, .aload_n 0, 11, 0, 0), (11, .iload_n 3, 12, 0, 0), (12, .putfield 19, 15, 2, 2), (15, .aload_n 0, 16, 0, 0), (16, .iload 4, 18, 0, 0), (18, .putfield 22, 21, 2, 3), (21, .aload_n 0, 22, 0, 0), (22, .getfield 25, 25, 2, 4), (25, .iconst 0, 26, 0, 0), (26, .iconst 0, 27, 0, 0), (27, .iastore, 28, 0, 0), (28, .aload_n 0, 29, 0, 0), (29, .getfield 25, 32, 2, 4), (32, .iconst 1, 33, 0, 0), (33, .iconst 0, 34, 0, 0), (34, .iastore, 35, 0, 0), (35, .aload_n 0, 36, 0, 0), (36, .iconst 0, 37, 0, 0), (37, .aload_n 1, 38, 0, 0), (38, .getfield 64, 41, 3, 0), (41, .getfield 70, 44, 0, 0), (44, .invokevirtual 75, 47, 148, 2), (47, .ifCond .eq 30, 50, 77, 0), (50, .aload_n 0, 51, 0, 0), (51, .getfield 32, 54, 2, 6), (54, .iconst 0, 55, 0, 0), (55, .aload_n 1, 56, 0, 0), (56, .getfield 64, 59, 3, 0), (59, .getfield 70, 62, 0, 0), (62, .iastore, 63, 0, 0), (63, .aload_n 0, 64, 0, 0), (64, .getfield 35, 67, 2, 7), (67, .iconst 0, 68, 0, 0), (68, .iconst 1, 69, 0, 0), (69, .iastore, 70, 0, 0), (70, .aload_n 0, 71, 0, 0), (71, .getfield 25, 74, 2, 4), (74, .iconst 1, 75, 0, 0), (75, .iconst 1, 76, 0, 0), (76, .iastore, 77, 0, 0), (77, .iconst 0, 78, 0, 0), (78, .istore 5, 80, 0, 0), (80, .iload 5, 82, 0, 0), (82, .aload_n 0, 83, 0, 0), (83, .getfield 15, 86, 2, 1), (86, .if_icmp .ge 32, 89, 118, 0), (89, .aload_n 0, 90, 0, 0), (90, .getfield 25, 93, 2, 4), (93, .iload 5, 95, 0, 0), (95, .iconst 2, 96, 0, 0), (96, .iadd, 97, 0, 0), (97, .aload_n 0, 98, 0, 0), (98, .iload 5, 100, 0, 0), (100, .invokevirtual 79, 103, 150, 1), (103, .iastore, 104, 0, 0), (104, .aload_n 0, 105, 0, 0), (105, .iload 5, 107, 0, 0), (107, .iconst 1, 108, 0, 0), (108, .iadd, 109, 0, 0), (109, .invokevirtual 83, 112, 153, 1), (112, .iinc 5 1, 115, 0, 0), (115, .goto (-35), 118, 80, 0), (118, .return_, 119, 0, 0)]
def kX2_spread : zM := (⟨"ReadAloud$Levels", "spread", "(LReadAloud$Readings;III)V"⟩, prog_4_method_5_code, 6, none, 2, qX2_spread)
set_option maxRecDepth 200000 in
def qX2_fillBehind : List zE := [(0, .aload_n 0, 1, 0, 0), (1, .getfield 25, 4, 2, 4), (4, .iload_n 1, 5, 0, 0), (5, .iconst 1, 6, 0, 0), (6, .iadd, 7, 0, 0), (7, .iaload, 8, 0, 0), (8, .istore_n 2, 9, 0, 0), (9, .aload_n 0, 10, 0, 0), (10, .getfield 25, 13, 2, 4), (13, .iload_n 1, 14, 0, 0), (14, .iaload, 15, 0, 0), (15, .istore_n 3, 16, 0, 0), (16, .iload_n 3, 17, 0, 0), (17, .aload_n 0, 18, 0, 0), (18, .getfield 25, 21, 2, 4), (21, .iload_n 1, 22, 0, 0), (22, .iconst 1, 23, 0, 0), (23, .iadd, 24, 0, 0), (24, .iaload, 25, 0, 0), (25, .if_icmp .ge 154, 28, 179, 0), (28, .iconst 0, 29, 0, 0), (29, .istore 4, 31, 0, 0), (31, .iload 4, 33, 0, 0), (33, .aload_n 0, 34, 0, 0), (34, .getfield 9, 37, 2, 0), (37, .getfield 64, 40, 3, 0), (40, .getfield 87, 43, 0, 1), (43, .if_icmp .ge 130, 46, 173, 0), (46, .aload_n 0, 47, 0, 0), (47, .iload_n 1, 48, 0, 0), (48, .invokevirtual 90, 51, 151, 1), (51, .iload 4, 53, 0, 0), (53, .invokestatic 93, 56, 49, 2), (56, .ifCond .ne 6, 59, 62, 0), (59, .goto 108, 62, 167, 0), (62, .aload_n 0, 63, 0, 0), (63, .getfield 9, 66, 2, 0), (66, .iload 4, 68, 0, 0), (68, .aload_n 0, 69, 0, 0), (69, .getfield 32, 72, 2, 6), (72, .iload_n 3, 73, 0, 0), (73, .iaload, 74, 0, 0), (74, .invokevirtual 96, 77, 127, 2), (77, .istore 5, 79, 0, 0), (79, .aload_n 0, 80, 0, 0), (80, .getfield 41, 83, 2, 9), (83, .iload 5, 85, 0, 0), (85, .iaload, 86, 0, 0), (86, .iconst (-1), 87, 0, 0), (87, .if_icmp .ne 48, 90, 135, 0), (90, .aload_n 0, 91, 0, 0), (91, .iload_n 1, 92, 0, 0), (92, .iconst 1, 93, 0, 0), (93, .iadd, 94, 0, 0), (94, .iload 5, 96, 0, 0), (96, .invokevirtual 75, 99, 148, 2), (99, .ifCond .eq 36, 102, 135, 0), (102, .iload_n 2, 103, 0, 0), (103, .sipush 25750, 106, 0, 0), (106, .if_icmp .ge 29, 109, 135, 0), (109, .aload_n 0, 110, 0, 0), (110, .getfield 41, 113, 2, 9), (113, .iload 5, 115, 0, 0), (115, .iload_n 2, 116, 0, 0), (116, .iastore, 117, 0, 0), (117, .aload_n 0, 118, 0, 0), (118, .getfield 32, 121, 2, 6), (121, .iload_n 2, 122, 0, 0), (122, .iload 5, 124, 0, 0), (124, .iastore, 125, 0, 0), (125, .aload_n 0, 126, 0, 0), (126, .getfield 35, 129, 2, 7), (129, .iload_n 2, 130, 0, 0), (130, .iconst 0, 131, 0, 0), (131, .iastore, 132, 0, 0), (132, .iinc 2 1, 135, 0, 0), (135, .aload_n 0, 136, 0, 0), (136, .getfield 41, 139, 2, 9), (139, .iload 5, 141, 0, 0), (141, .iaload, 142, 0, 0), (142, .iconst (-1), 143, 0, 0), (143, .if_icmp .eq 24, 146, 167, 0), (146, .aload_n 0, 147, 0, 0), (147, .getfield 35, 150, 2, 7), (150, .aload_n 0, 151, 0, 0), (151, .getfield 41, 154, 2, 9), (154, .iload 5, 156, 0, 0), (156, .iaload, 157, 0, 0), (157, .dup2, 158, 0, 0), (158, .iaload, 159, 0, 0), (159, .aload_n 0, 160, 0, 0), (160, .getfield 35, 163, 2, 7), (163, .iload_n 3, 164, 0, 0), (164, .iaload, 165, 0, 0), (165, .iadd, 166, 0, 0), (166, .iastore, 167, 0, 0), (167, .iinc 4 1, 170, 0, 0), (170, .goto (-139), 173, 31, 0), (173, .iinc 3 1, 176, 0, 0), (176, .goto (-160), 179, 16, 0), (179, .iload_n 2, 180, 0, 0), (180, .ireturn, 181, 0, 0)]
def kX2_fillBehind : zM := (⟨"ReadAloud$Levels", "fillBehind", "(I)I"⟩, prog_4_method_6_code, 6, (some .int), 2, qX2_fillBehind)
def qX2_onesAt : List zE := [(0, .iload_n 1, 1, 0, 0), (1, .iconst 2, 2, 0, 0), (2, .irem, 3, 0, 0), (3, .ifCond .ne 10, 6, 13, 0), (6, .aload_n 0, 7, 0, 0), (7, .getfield 19, 10, 2, 2), (10, .goto 7, 13, 17, 0), (13, .aload_n 0, 14, 0, 0), (14, .getfield 22, 17, 2, 3), (17, .ireturn, 18, 0, 0)]
def kX2_onesAt : zM := (⟨"ReadAloud$Levels", "onesAt", "(I)I"⟩, prog_4_method_7_code, 2, (some .int), 2, qX2_onesAt)
def qX2_recall : List zE := [(0, .aload_n 0, 1, 0, 0), (1, .getfield 25, 4, 2, 4), (4, .iload_n 1, 5, 0, 0), (5, .iaload, 6, 0, 0), (6, .istore_n 2, 7, 0, 0), (7, .iload_n 2, 8, 0, 0), (8, .aload_n 0, 9, 0, 0), (9, .getfield 25, 12, 2, 4), (12, .iload_n 1, 13, 0, 0), (13, .iconst 1, 14, 0, 0), (14, .iadd, 15, 0, 0), (15, .iaload, 16, 0, 0), (16, .if_icmp .ge 21, 19, 37, 0), (19, .aload_n 0, 20, 0, 0), (20, .getfield 41, 23, 2, 9), (23, .aload_n 0, 24, 0, 0), (24, .getfield 32, 27, 2, 6), (27, .iload_n 2, 28, 0, 0), (28, .iaload, 29, 0, 0), (29, .iload_n 2, 30, 0, 0), (30, .iastore, 31, 0, 0), (31, .iinc 2 1, 34, 0, 0), (34, .goto (-27), 37, 7, 0), (37, .return_, 38, 0, 0)]
def kX2_recall : zM := (⟨"ReadAloud$Levels", "recall", "(I)V"⟩, prog_4_method_8_code, 3, none, 2, qX2_recall)
def qX2_forget : List zE := [(0, .aload_n 0, 1, 0, 0), (1, .getfield 25, 4, 2, 4), (4, .iload_n 1, 5, 0, 0), (5, .iaload, 6, 0, 0), (6, .istore_n 2, 7, 0, 0), (7, .iload_n 2, 8, 0, 0), (8, .aload_n 0, 9, 0, 0), (9, .getfield 25, 12, 2, 4), (12, .iload_n 1, 13, 0, 0), (13, .iconst 1, 14, 0, 0), (14, .iadd, 15, 0, 0), (15, .iaload, 16, 0, 0), (16, .if_icmp .ge 21, 19, 37, 0), (19, .aload_n 0, 20, 0, 0), (20, .getfield 41, 23, 2, 9), (23, .aload_n 0, 24, 0, 0), (24, .getfield 32, 27, 2, 6), (27, .iload_n 2, 28, 0, 0), (28, .iaload, 29, 0, 0), (29, .iconst (-1), 30, 0, 0), (30, .iastore, 31, 0, 0), (31, .iinc 2 1, 34, 0, 0), (34, .goto (-27), 37, 7, 0), (37, .return_, 38, 0, 0)]
def kX2_forget : zM := (⟨"ReadAloud$Levels", "forget", "(I)V"⟩, prog_4_method_9_code, 3, none, 2, qX2_forget)
def qX2_endByDrift : List zE := [(0, .aload_n 0, 1, 0, 0), (1, .getfield 25, 4, 2, 4), (4, .aload_n 0, 5, 0, 0), (5, .getfield 15, 8, 2, 1), (8, .iaload, 9, 0, 0), (9, .istore_n 1, 10, 0, 0), (10, .iload_n 1, 11, 0, 0), (11, .aload_n 0, 12, 0, 0), (12, .getfield 25, 15, 2, 4), (15, .aload_n 0, 16, 0, 0), (16, .getfield 15, 19, 2, 1), (19, .iconst 1, 20, 0, 0), (20, .iadd, 21, 0, 0), (21, .iaload, 22, 0, 0), (22, .if_icmp .ge 34, 25, 56, 0), (25, .aload_n 0, 26, 0, 0), (26, .getfield 38, 29, 2, 8), (29, .iload_n 1, 30, 0, 0), (30, .aload_n 0, 31, 0, 0), (31, .getfield 32, 34, 2, 6), (34, .iload_n 1, 35, 0, 0), (35, .iaload, 36, 0, 0), (36, .aload_n 0, 37, 0, 0), (37, .getfield 9, 40, 2, 0), (40, .getfield 64, 43, 3, 0), (43, .getfield 70, 46, 0, 0), (46, .invokestatic 100, 49, 59, 2), (49, .iastore, 50, 0, 0), (50, .iinc 1 1, 53, 0, 0), (53, .goto (-43), 56, 10, 0), (56, .return_, 57, 0, 0)]
def kX2_endByDrift : zM := (⟨"ReadAloud$Levels", "endByDrift", "()V"⟩, prog_4_method_10_code, 2, none, 2, qX2_endByDrift)
def qX2_endByWord : List zE := [(0, .aload_n 0, 1, 0, 0), (1, .getfield 25, 4, 2, 4), (4, .aload_n 0, 5, 0, 0), (5, .getfield 15, 8, 2, 1), (8, .iaload, 9, 0, 0), (9, .istore_n 2, 10, 0, 0), (10, .iload_n 2, 11, 0, 0), (11, .aload_n 0, 12, 0, 0), (12, .getfield 25, 15, 2, 4), (15, .aload_n 0, 16, 0, 0), (16, .getfield 15, 19, 2, 1), (19, .iconst 1, 20, 0, 0), (20, .iadd, 21, 0, 0), (21, .iaload, 22, 0, 0), (22, .if_icmp .ge 25, 25, 47, 0), (25, .aload_n 0, 26, 0, 0), (26, .getfield 38, 29, 2, 8), (29, .iload_n 2, 30, 0, 0), (30, .iload_n 1, 31, 0, 0), (31, .aload_n 0, 32, 0, 0), (32, .getfield 32, 35, 2, 6), (35, .iload_n 2, 36, 0, 0), (36, .iaload, 37, 0, 0), (37, .invokestatic 103, 40, 58, 2), (40, .iastore, 41, 0, 0), (41, .iinc 2 1, 44, 0, 0), (44, .goto (-34), 47, 10, 0), (47, .return_, 48, 0, 0)]
def kX2_endByWord : zM := (⟨"ReadAloud$Levels", "endByWord", "(I)V"⟩, prog_4_method_11_code, 3, none, 2, qX2_endByWord)
def qX2_endByOne : List zE := [(0, .aload_n 0, 1, 0, 0), (1, .getfield 25, 4, 2, 4), (4, .aload_n 0, 5, 0, 0), (5, .getfield 15, 8, 2, 1), (8, .iaload, 9, 0, 0), (9, .istore_n 1, 10, 0, 0), (10, .iload_n 1, 11, 0, 0), (11, .aload_n 0, 12, 0, 0), (12, .getfield 25, 15, 2, 4), (15, .aload_n 0, 16, 0, 0), (16, .getfield 15, 19, 2, 1), (19, .iconst 1, 20, 0, 0), (20, .iadd, 21, 0, 0), (21, .iaload, 22, 0, 0), (22, .if_icmp .ge 16, 25, 38, 0), (25, .aload_n 0, 26, 0, 0), (26, .getfield 38, 29, 2, 8), (29, .iload_n 1, 30, 0, 0), (30, .iconst 1, 31, 0, 0), (31, .iastore, 32, 0, 0), (32, .iinc 1 1, 35, 0, 0), (35, .goto (-25), 38, 10, 0), (38, .return_, 39, 0, 0)]
def kX2_endByOne : zM := (⟨"ReadAloud$Levels", "endByOne", "()V"⟩, prog_4_method_12_code, 2, none, 2, qX2_endByOne)
def qX2_foldBack : List zE := [(0, .aload_n 0, 1, 0, 0), (1, .getfield 15, 4, 2, 1), (4, .iconst 1, 5, 0, 0), (5, .isub, 6, 0, 0), (6, .istore_n 3, 7, 0, 0), (7, .iload_n 3, 8, 0, 0), (8, .ifCond .lt 79, 11, 87, 0), (11, .iload_n 3, 12, 0, 0), (12, .iconst 2, 13, 0, 0), (13, .irem, 14, 0, 0), (14, .ifCond .ne 7, 17, 21, 0), (17, .iload_n 1, 18, 0, 0), (18, .goto 4, 21, 22, 0), (21, .iload_n 2, 22, 0, 0), (22, .istore 4, 24, 0, 0), (24, .aload_n 0, 25, 0, 0), (25, .iload_n 3, 26, 0, 0), (26, .iconst 1, 27, 0, 0), (27, .iadd, 28, 0, 0), (28, .invokevirtual 106, 31, 152, 1), (31, .aload_n 0, 32, 0, 0), (32, .getfield 25, 35, 2, 4), (35, .iload_n 3, 36, 0, 0), (36, .iaload, 37, 0, 0), (37, .istore 5, 39, 0, 0), (39, .iload 5, 41, 0, 0), (41, .aload_n 0, 42, 0, 0), (42, .getfield 25, 45, 2, 4), (45, .iload_n 3, 46, 0, 0), (46, .iconst 1, 47, 0, 0), (47, .iadd, 48, 0, 0), (48, .iaload, 49, 0, 0), (49, .if_icmp .ge 25, 52, 74, 0), (52, .aload_n 0, 53, 0, 0), (53, .getfield 38, 56, 2, 8), (56, .iload 5, 58, 0, 0), (58, .aload_n 0, 59, 0, 0), (59, .iload_n 3, 60, 0, 0), (60, .iload 5, 62, 0, 0), (62, .iload 4, 64, 0, 0), (64, .invokevirtual 109, 67, 158, 3), (67, .iastore, 68, 0, 0), (68, .iinc 5 1, 71, 0, 0), (71, .goto (-32), 74, 39, 0), (74, .aload_n 0, 75, 0, 0), (75, .iload_n 3, 76, 0, 0), (76, .iconst 1, 77, 0, 0), (77, .iadd, 78, 0, 0), (78, .invokevirtual 83, 81, 153, 1), (81, .iinc 3 (-1), 84, 0, 0), (84, .goto (-77), 87, 7, 0), (87, .return_, 88, 0, 0)]
def kX2_foldBack : zM := (⟨"ReadAloud$Levels", "foldBack", "(II)V"⟩, prog_4_method_13_code, 6, none, 2, qX2_foldBack)
def qX2_folded : List zE := [(0, .iconst (-1), 1, 0, 0), (1, .istore 4, 3, 0, 0), (3, .iconst 0, 4, 0, 0), (4, .istore 5, 6, 0, 0), (6, .iload 5, 8, 0, 0), (8, .aload_n 0, 9, 0, 0), (9, .getfield 9, 12, 2, 0), (12, .getfield 64, 15, 3, 0), (15, .getfield 87, 18, 0, 1), (18, .if_icmp .ge 128, 21, 146, 0), (21, .aload_n 0, 22, 0, 0), (22, .iload_n 1, 23, 0, 0), (23, .invokevirtual 90, 26, 151, 1), (26, .iload 5, 28, 0, 0), (28, .invokestatic 93, 31, 49, 2), (31, .ifCond .eq 26, 34, 57, 0), (34, .aload_n 0, 35, 0, 0), (35, .getfield 41, 38, 2, 9), (38, .aload_n 0, 39, 0, 0), (39, .getfield 9, 42, 2, 0), (42, .iload 5, 44, 0, 0), (44, .aload_n 0, 45, 0, 0), (45, .getfield 32, 48, 2, 6), (48, .iload_n 2, 49, 0, 0), (49, .iaload, 50, 0, 0), (50, .invokevirtual 96, 53, 127, 2), (53, .iaload, 54, 0, 0), (54, .goto 4, 57, 58, 0), (57, .iconst (-1), 58, 0, 0), (58, .istore 6, 60, 0, 0), (60, .iload 6, 62, 0, 0), (62, .iconst (-1), 63, 0, 0), (63, .if_icmp .ne 6, 66, 69, 0), (66, .goto 74, 69, 140, 0), (69, .iload 4, 71, 0, 0), (71, .iconst (-1), 72, 0, 0), (72, .if_icmp .ne 15, 75, 87, 0), (75, .aload_n 0, 76, 0, 0), (76, .getfield 38, 79, 2, 8), (79, .iload 6, 81, 0, 0), (81, .iaload, 82, 0, 0), (82, .istore 4, 84, 0, 0), (84, .goto 56, 87, 140, 0), (87, .iload_n 3, 88, 0, 0), (88, .iconst 2, 89, 0, 0), (89, .if_icmp .ne 18, 92, 107, 0), (92, .iload 4, 94, 0, 0), (94, .aload_n 0, 95, 0, 0), (95, .getfield 38, 98, 2, 8), (98, .iload 6, 100, 0, 0), (100, .iaload, 101, 0, 0), (101, .iadd, 102, 0, 0), (102, .istore 4, 104, 0, 0), (104, .goto 36, 107, 140, 0), (107, .iload_n 3, 108, 0, 0), (108, .ifCond .ne 18, 111, 126, 0), (111, .iload 4, 113, 0, 0), (113, .aload_n 0, 114, 0, 0), (114, .getfield 38, 117, 2, 8), (117, .iload 6, 119, 0, 0), (119, .iaload, 120, 0, 0), (120, .invokestatic 113, 123, 0, 101), (123, .goto 15, 126, 138, 0), (126, .iload 4, 128, 0, 0), (128, .aload_n 0, 129, 0, 0), (129, .getfield 38, 132, 2, 8), (132, .iload 6, 134, 0, 0), (134, .iaload, 135, 0, 0), (135, .invokestatic 118, 138, 0, 100), (138, .istore 4, 140, 0, 0), (140, .iinc 5 1, 143, 0, 0), (143, .goto (-137), 146, 6, 0), (146, .iload 4, 148, 0, 0), (148, .iconst (-1), 149, 0, 0), (149, .if_icmp .ne 7, 152, 156, 0), (152, .iconst 0, 153, 0, 0), (153, .goto 5, 156, 158, 0), (156, .iload 4, 158, 0, 0), (158, .ireturn, 159, 0, 0)]
def kX2_folded : zM := (⟨"ReadAloud$Levels", "folded", "(III)I"⟩, prog_4_method_14_code, 7, (some .int), 2, qX2_folded)
def qX2_chosenAt : List zE := [(0, .iconst 0, 1, 0, 0), (1, .istore_n 2, 2, 0, 0), (2, .iconst (-1), 3, 0, 0), (3, .istore_n 3, 4, 0, 0), (4, .iconst 0, 5, 0, 0), (5, .istore 4, 7, 0, 0), (7, .iload 4, 9, 0, 0), (9, .iload_n 1, 10, 0, 0), (10, .if_icmp .gt 74, 13, 84, 0), (13, .iload 4, 15, 0, 0), (15, .aload_n 0, 16, 0, 0), (16, .getfield 15, 19, 2, 1), (19, .if_icmp .ge 65, 22, 84, 0), (22, .aload_n 0, 23, 0, 0), (23, .iload 4, 25, 0, 0), (25, .iconst 1, 26, 0, 0), (26, .iadd, 27, 0, 0), (27, .invokevirtual 106, 30, 152, 1), (30, .aload_n 0, 31, 0, 0), (31, .iload 4, 33, 0, 0), (33, .iload_n 2, 34, 0, 0), (34, .invokevirtual 121, 37, 160, 2), (37, .istore_n 3, 38, 0, 0), (38, .iload_n 3, 39, 0, 0), (39, .iconst (-1), 40, 0, 0), (40, .if_icmp .eq 23, 43, 63, 0), (43, .aload_n 0, 44, 0, 0), (44, .getfield 41, 47, 2, 9), (47, .aload_n 0, 48, 0, 0), (48, .getfield 9, 51, 2, 0), (51, .iload_n 3, 52, 0, 0), (52, .aload_n 0, 53, 0, 0), (53, .getfield 32, 56, 2, 6), (56, .iload_n 2, 57, 0, 0), (57, .iaload, 58, 0, 0), (58, .invokevirtual 96, 61, 127, 2), (61, .iaload, 62, 0, 0), (62, .istore_n 2, 63, 0, 0), (63, .aload_n 0, 64, 0, 0), (64, .iload 4, 66, 0, 0), (66, .iconst 1, 67, 0, 0), (67, .iadd, 68, 0, 0), (68, .invokevirtual 83, 71, 153, 1), (71, .iload_n 3, 72, 0, 0), (72, .iconst (-1), 73, 0, 0), (73, .if_icmp .ne 5, 76, 78, 0), (76, .iconst (-1), 77, 0, 0), (77, .ireturn, 78, 0, 0), (78, .iinc 4 1, 81, 0, 0), (81, .goto (-74), 84, 7, 0), (84, .iload_n 3, 85, 0, 0), (85, .ireturn, 86, 0, 0)]
def kX2_chosenAt : zM := (⟨"ReadAloud$Levels", "chosenAt", "(I)I"⟩, prog_4_method_15_code, 5, (some .int), 2, qX2_chosenAt)
def qX2_firstAsGood : List zE := [(0, .iconst 0, 1, 0, 0), (1, .istore_n 3, 2, 0, 0), (2, .iload_n 3, 3, 0, 0), (3, .aload_n 0, 4, 0, 0), (4, .getfield 9, 7, 2, 0), (7, .getfield 64, 10, 3, 0), (10, .getfield 87, 13, 0, 1), (13, .if_icmp .ge 70, 16, 83, 0), (16, .aload_n 0, 17, 0, 0), (17, .iload_n 1, 18, 0, 0), (18, .invokevirtual 90, 21, 151, 1), (21, .iload_n 3, 22, 0, 0), (22, .invokestatic 93, 25, 49, 2), (25, .ifCond .eq 25, 28, 50, 0), (28, .aload_n 0, 29, 0, 0), (29, .getfield 41, 32, 2, 9), (32, .aload_n 0, 33, 0, 0), (33, .getfield 9, 36, 2, 0), (36, .iload_n 3, 37, 0, 0), (37, .aload_n 0, 38, 0, 0), (38, .getfield 32, 41, 2, 6), (41, .iload_n 2, 42, 0, 0), (42, .iaload, 43, 0, 0), (43, .invokevirtual 96, 46, 127, 2), (46, .iaload, 47, 0, 0), (47, .goto 4, 50, 51, 0), (50, .iconst (-1), 51, 0, 0), (51, .istore 4, 53, 0, 0), (53, .iload 4, 55, 0, 0), (55, .iconst (-1), 56, 0, 0), (56, .if_icmp .eq 21, 59, 77, 0), (59, .aload_n 0, 60, 0, 0), (60, .getfield 38, 63, 2, 8), (63, .iload 4, 65, 0, 0), (65, .iaload, 66, 0, 0), (66, .aload_n 0, 67, 0, 0), (67, .getfield 38, 70, 2, 8), (70, .iload_n 2, 71, 0, 0), (71, .iaload, 72, 0, 0), (72, .if_icmp .ne 5, 75, 77, 0), (75, .iload_n 3, 76, 0, 0), (76, .ireturn, 77, 0, 0), (77, .iinc 3 1, 80, 0, 0), (80, .goto (-78), 83, 2, 0), (83, .iconst (-1), 84, 0, 0), (84, .ireturn, 85, 0, 0)]
def kX2_firstAsGood : zM := (⟨"ReadAloud$Levels", "firstAsGood", "(II)I"⟩, prog_4_method_16_code, 5, (some .int), 2, qX2_firstAsGood)
def qX2_bestStart : List zE := [(0, .aload_n 0, 1, 0, 0), (1, .getfield 38, 4, 2, 8), (4, .iconst 0, 5, 0, 0), (5, .iaload, 6, 0, 0), (6, .ireturn, 7, 0, 0)]
def kX2_bestStart : zM := (⟨"ReadAloud$Levels", "bestStart", "()I"⟩, prog_4_method_17_code, 1, (some .int), 2, qX2_bestStart)
def qX2_bestEnd : List zE := [(0, .aload_n 0, 1, 0, 0), (1, .getfield 38, 4, 2, 8), (4, .aload_n 0, 5, 0, 0), (5, .getfield 25, 8, 2, 4), (8, .aload_n 0, 9, 0, 0), (9, .getfield 15, 12, 2, 1), (12, .iaload, 13, 0, 0), (13, .iaload, 14, 0, 0), (14, .istore_n 2, 15, 0, 0), (15, .aload_n 0, 16, 0, 0), (16, .getfield 25, 19, 2, 4), (19, .aload_n 0, 20, 0, 0), (20, .getfield 15, 23, 2, 1), (23, .iaload, 24, 0, 0), (24, .iconst 1, 25, 0, 0), (25, .iadd, 26, 0, 0), (26, .istore_n 3, 27, 0, 0), (27, .iload_n 3, 28, 0, 0), (28, .aload_n 0, 29, 0, 0), (29, .getfield 25, 32, 2, 4), (32, .aload_n 0, 33, 0, 0), (33, .getfield 15, 36, 2, 1), (36, .iconst 1, 37, 0, 0), (37, .iadd, 38, 0, 0), (38, .iaload, 39, 0, 0), (39, .if_icmp .ge 37, 42, 76, 0), (42, .iload_n 1, 43, 0, 0), (43, .ifCond .eq 16, 46, 59, 0), (46, .iload_n 2, 47, 0, 0), (47, .aload_n 0, 48, 0, 0), (48, .getfield 38, 51, 2, 8), (51, .iload_n 3, 52, 0, 0), (52, .iaload, 53, 0, 0), (53, .invokestatic 118, 56, 0, 100), (56, .goto 13, 59, 69, 0), (59, .iload_n 2, 60, 0, 0), (60, .aload_n 0, 61, 0, 0), (61, .getfield 38, 64, 2, 8), (64, .iload_n 3, 65, 0, 0), (65, .iaload, 66, 0, 0), (66, .invokestatic 113, 69, 0, 101), (69, .istore_n 2, 70, 0, 0), (70, .iinc 3 1, 73, 0, 0), (73, .goto (-46), 76, 27, 0), (76, .iload_n 2, 77, 0, 0), (77, .ireturn, 78, 0, 0)]
def kX2_bestEnd : zM := (⟨"ReadAloud$Levels", "bestEnd", "(Z)I"⟩, prog_4_method_18_code, 4, (some .int), 2, qX2_bestEnd)
def qX2_sumOfEnds : List zE := [(0, .lconst 0, 1, 0, 0), (1, .lstore_n 1, 2, 0, 0), (2, .aload_n 0, 3, 0, 0), (3, .getfield 25, 6, 2, 4), (6, .aload_n 0, 7, 0, 0), (7, .getfield 15, 10, 2, 1), (10, .iaload, 11, 0, 0), (11, .istore_n 3, 12, 0, 0), (12, .iload_n 3, 13, 0, 0), (13, .aload_n 0, 14, 0, 0), (14, .getfield 25, 17, 2, 4), (17, .aload_n 0, 18, 0, 0), (18, .getfield 15, 21, 2, 1), (21, .iconst 1, 22, 0, 0), (22, .iadd, 23, 0, 0), (23, .iaload, 24, 0, 0), (24, .if_icmp .ge 27, 27, 51, 0), (27, .lload_n 1, 28, 0, 0), (28, .aload_n 0, 29, 0, 0), (29, .getfield 35, 32, 2, 7), (32, .iload_n 3, 33, 0, 0), (33, .iaload, 34, 0, 0), (34, .i2l, 35, 0, 0), (35, .aload_n 0, 36, 0, 0), (36, .getfield 38, 39, 2, 8), (39, .iload_n 3, 40, 0, 0), (40, .iaload, 41, 0, 0), (41, .i2l, 42, 0, 0), (42, .lmul, 43, 0, 0), (43, .ladd, 44, 0, 0), (44, .lstore_n 1, 45, 0, 0), (45, .iinc 3 1, 48, 0, 0), (48, .goto (-36), 51, 12, 0), (51, .lload_n 1, 52, 0, 0), (52, .lreturn, 53, 0, 0)]
def kX2_sumOfEnds : zM := (⟨"ReadAloud$Levels", "sumOfEnds", "()J"⟩, prog_4_method_19_code, 4, (some .long), 2, qX2_sumOfEnds)
def qX2_rows : List zE := [(0, .iconst 0, 1, 0, 0), (1, .istore_n 1, 2, 0, 0), (2, .aload_n 0, 3, 0, 0), (3, .getfield 25, 6, 2, 4), (6, .aload_n 0, 7, 0, 0), (7, .getfield 15, 10, 2, 1), (10, .iaload, 11, 0, 0), (11, .istore_n 2, 12, 0, 0), (12, .iload_n 2, 13, 0, 0), (13, .aload_n 0, 14, 0, 0), (14, .getfield 25, 17, 2, 4), (17, .aload_n 0, 18, 0, 0), (18, .getfield 15, 21, 2, 1), (21, .iconst 1, 22, 0, 0), (22, .iadd, 23, 0, 0), (23, .iaload, 24, 0, 0), (24, .if_icmp .ge 18, 27, 42, 0), (27, .iload_n 1, 28, 0, 0), (28, .aload_n 0, 29, 0, 0), (29, .getfield 35, 32, 2, 7), (32, .iload_n 2, 33, 0, 0), (33, .iaload, 34, 0, 0), (34, .iadd, 35, 0, 0), (35, .istore_n 1, 36, 0, 0), (36, .iinc 2 1, 39, 0, 0), (39, .goto (-27), 42, 12, 0), (42, .iload_n 1, 43, 0, 0), (43, .ireturn, 44, 0, 0)]
def kX2_rows : zM := (⟨"ReadAloud$Levels", "rows", "()I"⟩, prog_4_method_20_code, 3, (some .int), 2, qX2_rows)
def qX2_rowsTo : List zE := [(0, .aload_n 0, 1, 0, 0), (1, .getfield 25, 4, 2, 4), (4, .aload_n 0, 5, 0, 0), (5, .getfield 15, 8, 2, 1), (8, .iaload, 9, 0, 0), (9, .istore_n 2, 10, 0, 0), (10, .iload_n 2, 11, 0, 0), (11, .aload_n 0, 12, 0, 0), (12, .getfield 25, 15, 2, 4), (15, .aload_n 0, 16, 0, 0), (16, .getfield 15, 19, 2, 1), (19, .iconst 1, 20, 0, 0), (20, .iadd, 21, 0, 0), (21, .iaload, 22, 0, 0), (22, .if_icmp .ge 26, 25, 48, 0), (25, .aload_n 0, 26, 0, 0), (26, .getfield 32, 29, 2, 6), (29, .iload_n 2, 30, 0, 0), (30, .iaload, 31, 0, 0), (31, .iload_n 1, 32, 0, 0), (32, .if_icmp .ne 10, 35, 42, 0), (35, .aload_n 0, 36, 0, 0), (36, .getfield 35, 39, 2, 7), (39, .iload_n 2, 40, 0, 0), (40, .iaload, 41, 0, 0), (41, .ireturn, 42, 0, 0), (42, .iinc 2 1, 45, 0, 0), (45, .goto (-35), 48, 10, 0), (48, .iconst 0, 49, 0, 0), (49, .ireturn, 50, 0, 0)]
def kX2_rowsTo : zM := (⟨"ReadAloud$Levels", "rowsTo", "(I)I"⟩, prog_4_method_21_code, 3, (some .int), 2, qX2_rowsTo)
def qX2_look : List zE := [(0, .iconst (-1), 1, 0, 0), (1, .istore_n 1, 2, 0, 0), (2, .iconst 0, 3, 0, 0), (3, .istore_n 2, 4, 0, 0), (4, .iconst 0, 5, 0, 0), (5, .istore_n 3, 6, 0, 0), (6, .iload_n 3, 7, 0, 0), (7, .aload_n 0, 8, 0, 0), (8, .getfield 15, 11, 2, 1), (11, .if_icmp .gt 77, 14, 88, 0), (14, .iconst 0, 15, 0, 0), (15, .istore 4, 17, 0, 0), (17, .aload_n 0, 18, 0, 0), (18, .getfield 25, 21, 2, 4), (21, .iload_n 3, 22, 0, 0), (22, .iaload, 23, 0, 0), (23, .istore 5, 25, 0, 0), (25, .iload 5, 27, 0, 0), (27, .aload_n 0, 28, 0, 0), (28, .getfield 25, 31, 2, 4), (31, .iload_n 3, 32, 0, 0), (32, .iconst 1, 33, 0, 0), (33, .iadd, 34, 0, 0), (34, .iaload, 35, 0, 0), (35, .if_icmp .ge 31, 38, 66, 0), (38, .iload 4, 40, 0, 0), (40, .aload_n 0, 41, 0, 0), (41, .getfield 35, 44, 2, 7), (44, .iload 5, 46, 0, 0), (46, .iaload, 47, 0, 0), (47, .aload_n 0, 48, 0, 0), (48, .getfield 38, 51, 2, 8), (51, .iload 5, 53, 0, 0), (53, .iaload, 54, 0, 0), (54, .imul, 55, 0, 0), (55, .invokestatic 118, 58, 0, 100), (58, .istore 4, 60, 0, 0), (60, .iinc 5 1, 63, 0, 0), (63, .goto (-38), 66, 25, 0), (66, .iload_n 1, 67, 0, 0), (67, .iconst (-1), 68, 0, 0), (68, .if_icmp .eq 9, 71, 77, 0), (71, .iload 4, 73, 0, 0), (73, .iload_n 2, 74, 0, 0), (74, .if_icmp .ge 8, 77, 82, 0), (77, .iload_n 3, 78, 0, 0), (78, .istore_n 1, 79, 0, 0), (79, .iload 4, 81, 0, 0), (81, .istore_n 2, 82, 0, 0), (82, .iinc 3 1, 85, 0, 0), (85, .goto (-79), 88, 6, 0), (88, .iload_n 1, 89, 0, 0), (89, .ireturn, 90, 0, 0)]
def kX2_look : zM := (⟨"ReadAloud$Levels", "look", "()I"⟩, prog_4_method_22_code, 6, (some .int), 2, qX2_look)
def qX2_onlyReaderAt : List zE := [(0, .iconst (-1), 1, 0, 0), (1, .istore_n 2, 2, 0, 0), (2, .aload_n 0, 3, 0, 0), (3, .iload_n 1, 4, 0, 0), (4, .iconst 1, 5, 0, 0), (5, .iadd, 6, 0, 0), (6, .invokevirtual 106, 9, 152, 1), (9, .iconst 0, 10, 0, 0), (10, .istore_n 3, 11, 0, 0), (11, .iload_n 3, 12, 0, 0), (12, .aload_n 0, 13, 0, 0), (13, .getfield 9, 16, 2, 0), (16, .getfield 64, 19, 3, 0), (19, .getfield 87, 22, 0, 1), (22, .if_icmp .ge 34, 25, 56, 0), (25, .aload_n 0, 26, 0, 0), (26, .iload_n 1, 27, 0, 0), (27, .iload_n 3, 28, 0, 0), (28, .invokevirtual 124, 31, 168, 2), (31, .ifCond .eq 19, 34, 50, 0), (34, .iload_n 2, 35, 0, 0), (35, .iconst (-1), 36, 0, 0), (36, .if_icmp .eq 12, 39, 48, 0), (39, .aload_n 0, 40, 0, 0), (40, .iload_n 1, 41, 0, 0), (41, .iconst 1, 42, 0, 0), (42, .iadd, 43, 0, 0), (43, .invokevirtual 83, 46, 153, 1), (46, .iconst (-1), 47, 0, 0), (47, .ireturn, 48, 0, 0), (48, .iload_n 3, 49, 0, 0), (49, .istore_n 2, 50, 0, 0), (50, .iinc 3 1, 53, 0, 0), (53, .goto (-42), 56, 11, 0), (56, .aload_n 0, 57, 0, 0), (57, .iload_n 1, 58, 0, 0), (58, .iconst 1, 59, 0, 0), (59, .iadd, 60, 0, 0), (60, .invokevirtual 83, 63, 153, 1), (63, .iload_n 2, 64, 0, 0), (64, .ireturn, 65, 0, 0)]
def kX2_onlyReaderAt : zM := (⟨"ReadAloud$Levels", "onlyReaderAt", "(I)I"⟩, prog_4_method_23_code, 4, (some .int), 2, qX2_onlyReaderAt)
def qX2_isReaderAt : List zE := [(0, .aload_n 0, 1, 0, 0), (1, .getfield 25, 4, 2, 4), (4, .iload_n 1, 5, 0, 0), (5, .iaload, 6, 0, 0), (6, .istore_n 3, 7, 0, 0), (7, .iload_n 3, 8, 0, 0), (8, .aload_n 0, 9, 0, 0), (9, .getfield 25, 12, 2, 4), (12, .iload_n 1, 13, 0, 0), (13, .iconst 1, 14, 0, 0), (14, .iadd, 15, 0, 0), (15, .iaload, 16, 0, 0), (16, .if_icmp .ge 48, 19, 64, 0), (19, .aload_n 0, 20, 0, 0), (20, .getfield 41, 23, 2, 9), (23, .aload_n 0, 24, 0, 0), (24, .getfield 9, 27, 2, 0), (27, .iload_n 2, 28, 0, 0), (28, .aload_n 0, 29, 0, 0), (29, .getfield 32, 32, 2, 6), (32, .iload_n 3, 33, 0, 0), (33, .iaload, 34, 0, 0), (34, .invokevirtual 96, 37, 127, 2), (37, .iaload, 38, 0, 0), (38, .istore 4, 40, 0, 0), (40, .iload 4, 42, 0, 0), (42, .iconst (-1), 43, 0, 0), (43, .if_icmp .eq 15, 46, 58, 0), (46, .aload_n 0, 47, 0, 0), (47, .getfield 38, 50, 2, 8), (50, .iload 4, 52, 0, 0), (52, .iaload, 53, 0, 0), (53, .ifCond .le 5, 56, 58, 0), (56, .iconst 1, 57, 0, 0), (57, .ireturn, 58, 0, 0), (58, .iinc 3 1, 61, 0, 0), (61, .goto (-54), 64, 7, 0), (64, .iconst 0, 65, 0, 0), (65, .ireturn, 66, 0, 0)]
def kX2_isReaderAt : zM := (⟨"ReadAloud$Levels", "isReaderAt", "(II)Z"⟩, prog_4_method_24_code, 5, (some .boolean), 2, qX2_isReaderAt)
def qX5_init : List zE := [(0, .aload_n 0, 1, 0, 0), (1, .invokespecial 3, 4, 0, 99), (4, .aload_n 0, 5, 0, 0), (5, .bipush 6, 7, 0, 0), (7, .newarray .int, 9, 1, 6), (9, .putfield 11, 12, 4, 0), (12, .aload_n 0, 13, 0, 0), (13, .iconst 0, 14, 0, 0), (14, .putfield 15, 17, 4, 1), (17, .aload_n 0, 18, 0, 0), (18, .iconst 0, 19, 0, 0), (19, .putfield 19, 22, 4, 2), (22, .aload_n 0, 23, 0, 0), (23, .iconst 0, 24, 0, 0), (24, .putfield 22, 27, 4, 3), (27, .aload_n 0, 28, 0, 0), (28, .iconst 0, 29, 0, 0), (29, .putfield 25, 32, 4, 4), (32, .aload_n 0, 33, 0, 0), (33, .iconst 0, 34, 0, 0), (34, .putfield 28, 37, 4, 5), (37, .aload_n 0, 38, 0, 0), (38, .sipush 5461, 41, 0, 0), (41, .newarray .int, 43, 1, 5461), (43, .putfield 31, 46, 4, 6), (46, .aload_n 0, 47, 0, 0), (47, .sipush 5461, 50, 0, 0), (50, .newarray .int, 52, 1, 5461), (52, .putfield 34, 55, 4, 7), (55, .aload_n 0, 56, 0, 0), (56, .sipush 5461, 59, 0, 0), (59, .newarray .int, 61, 1, 5461), (61, .putfield 37, 64, 4, 8), (64, .aload_n 0, 65, 0, 0), (65, .sipush 5461, 68, 0, 0), (68, .newarray .int, 70, 1, 5461), (70, .putfield 40, 73, 4, 9), (73, .aload_n 0, 74, 0, 0), (74, .sipush 5461, 77, 0, 0), (77, .newarray .int, 79, 1, 5461), (79, .putfield 43, 82, 4, 10), (82, .aload_n 0, 83, 0, 0), (83, .sipush 5461, 86, 0, 0), (86, .newarray .int, 88, 1, 5461), (88, .putfield 46, 91, 4, 11), (91, .aload_n 0, 92, 0, 0), (92, .sipush 5461, 95, 0, 0), (95, .newarray .int, 97, 1, 5461), (97, .putfield 49, 100, 4, 12), (100, .aload_n 0, 101, 0, 0), (101, .sipush 5461, 104, 0, 0), (104, .newarray .int, 106, 1, 5461), (106, .putfield 52, 109, 4, 13), (109, .aload_n 0, 110, 0, 0), (110, .sipush 5461, 113, 0, 0), (113, .newarray .int, 115, 1, 5461), (115, .putfield 55, 118, 4, 14), (118, .return_, 119, 0, 0)]
def kX5_init : zM := (⟨"ReadAloud$Rings", "<init>", "()V"⟩, prog_7_method_1_code, 1, none, 4, qX5_init)
set_option maxRecDepth 200000 in
def qX5_findOrbits : List zE := [(0, .aload_n 0, 1, 0, 0), (1, .getfield 11, 4, 4, 0), (4, .iconst 0, 5, 0, 0), (8, .aload_n 0, 9, 0, 0), (9, .getfield 31, 12, 4, 6), (12, .iconst 0, 13, 0, 0), (16, .aload_n 0, 17, 0, 0), (17, .getfield 37, 20, 4, 8), (20, .iconst 0, 21, 0, 0), (24, .iconst 0, 25, 0, 0), (25, .istore_n 3, 26, 0, 0), (26, .iload_n 3, 27, 0, 0), (27, .sipush 5461, 30, 0, 0), (30, .if_icmp .ge 44, 33, 74, 0), (33, .aload_n 1, 34, 0, 0), (34, .iload_n 2, 35, 0, 0), (35, .iload_n 3, 36, 0, 0), (36, .invokevirtual 64, 39, 127, 2), (39, .istore 4, 41, 0, 0), (41, .aload_n 0, 42, 0, 0), (42, .getfield 31, 45, 4, 6), (45, .iload 4, 47, 0, 0), (47, .dup2, 48, 0, 0), (48, .iaload, 49, 0, 0), (49, .iconst 1, 50, 0, 0), (50, .iadd, 51, 0, 0), (51, .iastore, 52, 0, 0), (52, .iload 4, 54, 0, 0), (54, .iload_n 3, 55, 0, 0), (55, .if_icmp .ne 13, 58, 68, 0), (58, .aload_n 0, 59, 0, 0), (59, .getfield 11, 62, 4, 0), (62, .iconst 5, 63, 0, 0), (63, .dup2, 64, 0, 0), (64, .iaload, 65, 0, 0), (65, .iconst 1, 66, 0, 0), (66, .iadd, 67, 0, 0), (67, .iastore, 68, 0, 0), (68, .iinc 3 1, 71, 0, 0), (71, .goto (-45), 74, 26, 0), (74, .aload_n 0, 75, 0, 0), (75, .getfield 11, 78, 4, 0), (78, .iconst 4, 79, 0, 0), (79, .aload_n 0, 80, 0, 0), (80, .invokevirtual 70, 83, 171, 0), (83, .iastore, 84, 0, 0), (84, .aload_n 0, 85, 0, 0), (85, .getfield 11, 88, 4, 0), (88, .iconst 2, 89, 0, 0), (89, .sipush 5461, 92, 0, 0), (92, .aload_n 0, 93, 0, 0), (93, .aload_n 1, 94, 0, 0), (94, .iload_n 2, 95, 0, 0), (95, .aload_n 0, 96, 0, 0), (96, .getfield 11, 99, 4, 0), (99, .iconst 4, 100, 0, 0), (100, .iaload, 101, 0, 0), (101, .invokevirtual 74, 104, 172, 3), (104, .isub, 105, 0, 0), (105, .iastore, 106, 0, 0), (106, .iconst 0, 107, 0, 0), (107, .istore_n 3, 108, 0, 0), (108, .iload_n 3, 109, 0, 0), (109, .sipush 5461, 112, 0, 0), (112, .if_icmp .ge 39, 115, 151, 0), (115, .aload_n 0, 116, 0, 0), (116, .getfield 31, 119, 4, 6), (119, .iload_n 3, 120, 0, 0), (120, .iaload, 121, 0, 0), (121, .ifCond .le 24, 124, 145, 0), (124, .aload_n 0, 125, 0, 0), (125, .getfield 11, 128, 4, 0), (128, .iconst 3, 129, 0, 0), (129, .aload_n 0, 130, 0, 0), (130, .getfield 11, 133, 4, 0), (133, .iconst 3, 134, 0, 0), (134, .iaload, 135, 0, 0), (135, .aload_n 0, 136, 0, 0), (136, .getfield 37, 139, 4, 8), (139, .iload_n 3, 140, 0, 0), (140, .iaload, 141, 0, 0), (141, .invokestatic 78, 144, 0, 100), (144, .iastore, 145, 0, 0), (145, .iinc 3 1, 148, 0, 0), (148, .goto (-40), 151, 108, 0), (151, .iconst 0, 152, 0, 0), (152, .istore_n 3, 153, 0, 0), (153, .iload_n 3, 154, 0, 0), (154, .sipush 5461, 157, 0, 0), (157, .if_icmp .ge 50, 160, 207, 0), (160, .aload_n 0, 161, 0, 0), (161, .getfield 31, 164, 4, 6), (164, .iload_n 3, 165, 0, 0), (165, .iaload, 166, 0, 0), (166, .ifCond .le 35, 169, 201, 0), (169, .aload_n 0, 170, 0, 0), (170, .getfield 11, 173, 4, 0), (173, .iconst 0, 174, 0, 0), (174, .dup2, 175, 0, 0), (175, .iaload, 176, 0, 0), (176, .iconst 1, 177, 0, 0), (177, .iadd, 178, 0, 0), (178, .iastore, 179, 0, 0), (179, .aload_n 0, 180, 0, 0), (180, .getfield 11, 183, 4, 0), (183, .iconst 1, 184, 0, 0), (184, .aload_n 0, 185, 0, 0), (185, .getfield 11, 188, 4, 0), (188, .iconst 1, 189, 0, 0), (189, .iaload, 190, 0, 0), (190, .aload_n 0, 191, 0, 0), (191, .aload_n 1, 192, 0, 0), (192, .iload_n 2, 193, 0, 0), (193, .iload_n 3, 194, 0, 0), (194, .invokevirtual 83, 197, 173, 3), (197, .invokestatic 78, 200, 0, 100), (200, .iastore, 201, 0, 0), (201, .iinc 3 1, 204, 0, 0), (204, .goto (-51), 207, 153, 0), (207, .return_, 208, 0, 0)]
def kX5_findOrbits : zM := (⟨"ReadAloud$Rings", "findOrbits", "(LReadAloud$Readings;I)V"⟩, prog_7_method_2_code, 5, none, 4, qX5_findOrbits)
def qX5_putThoseOfNone : List zE := [(0, .iconst 0, 1, 0, 0), (1, .istore_n 1, 2, 0, 0), (2, .iconst 0, 3, 0, 0), (3, .istore_n 2, 4, 0, 0), (4, .iload_n 2, 5, 0, 0), (5, .sipush 5461, 8, 0, 0), (8, .if_icmp .ge 28, 11, 36, 0), (11, .aload_n 0, 12, 0, 0), (12, .getfield 31, 15, 4, 6), (15, .iload_n 2, 16, 0, 0), (16, .iaload, 17, 0, 0), (17, .ifCond .ne 13, 20, 30, 0), (20, .aload_n 0, 21, 0, 0), (21, .getfield 34, 24, 4, 7), (24, .iload_n 1, 25, 0, 0), (25, .iload_n 2, 26, 0, 0), (26, .iastore, 27, 0, 0), (27, .iinc 1 1, 30, 0, 0), (30, .iinc 2 1, 33, 0, 0), (33, .goto (-29), 36, 4, 0), (36, .iload_n 1, 37, 0, 0), (37, .ireturn, 38, 0, 0)]
def kX5_putThoseOfNone : zM := (⟨"ReadAloud$Rings", "putThoseOfNone", "()I"⟩, prog_7_method_3_code, 3, (some .int), 4, qX5_putThoseOfNone)
def qX5_takeOutside : List zE := [(0, .iload_n 3, 1, 0, 0), (1, .istore 4, 3, 0, 0), (3, .iconst 0, 4, 0, 0), (4, .istore 5, 6, 0, 0), (6, .iload 5, 8, 0, 0), (8, .iload 4, 10, 0, 0), (10, .if_icmp .ge 102, 13, 112, 0), (13, .iload 5, 15, 0, 0), (15, .sipush 5461, 18, 0, 0), (18, .if_icmp .ge 94, 21, 112, 0), (21, .aload_n 0, 22, 0, 0), (22, .getfield 34, 25, 4, 7), (25, .iload 5, 27, 0, 0), (27, .iaload, 28, 0, 0), (28, .istore 6, 30, 0, 0), (30, .aload_n 1, 31, 0, 0), (31, .iload_n 2, 32, 0, 0), (32, .iload 6, 34, 0, 0), (34, .invokevirtual 64, 37, 127, 2), (37, .istore 7, 39, 0, 0), (39, .aload_n 0, 40, 0, 0), (40, .getfield 37, 43, 4, 8), (43, .iload 7, 45, 0, 0), (45, .aload_n 0, 46, 0, 0), (46, .getfield 37, 49, 4, 8), (49, .iload 7, 51, 0, 0), (51, .iaload, 52, 0, 0), (52, .aload_n 0, 53, 0, 0), (53, .getfield 37, 56, 4, 8), (56, .iload 6, 58, 0, 0), (58, .iaload, 59, 0, 0), (59, .iconst 1, 60, 0, 0), (60, .iadd, 61, 0, 0), (61, .invokestatic 78, 64, 0, 100), (64, .iastore, 65, 0, 0), (65, .aload_n 0, 66, 0, 0), (66, .getfield 31, 69, 4, 6), (69, .iload 7, 71, 0, 0), (71, .dup2, 72, 0, 0), (72, .iaload, 73, 0, 0), (73, .iconst 1, 74, 0, 0), (74, .isub, 75, 0, 0), (75, .iastore, 76, 0, 0), (76, .aload_n 0, 77, 0, 0), (77, .getfield 31, 80, 4, 6), (80, .iload 7, 82, 0, 0), (82, .iaload, 83, 0, 0), (83, .ifCond .ne 23, 86, 106, 0), (86, .iload 4, 88, 0, 0), (88, .sipush 5461, 91, 0, 0), (91, .if_icmp .ge 15, 94, 106, 0), (94, .aload_n 0, 95, 0, 0), (95, .getfield 34, 98, 4, 7), (98, .iload 4, 100, 0, 0), (100, .iload 7, 102, 0, 0), (102, .iastore, 103, 0, 0), (103, .iinc 4 1, 106, 0, 0), (106, .iinc 5 1, 109, 0, 0), (109, .goto (-103), 112, 6, 0), (112, .iload 4, 114, 0, 0), (114, .ireturn, 115, 0, 0)]
def kX5_takeOutside : zM := (⟨"ReadAloud$Rings", "takeOutside", "(LReadAloud$Readings;II)I"⟩, prog_7_method_4_code, 8, (some .int), 4, qX5_takeOutside)
def qX5_goRound : List zE := [(0, .iload_n 3, 1, 0, 0), (1, .istore 4, 3, 0, 0), (3, .iconst 0, 4, 0, 0), (4, .istore 5, 6, 0, 0), (6, .iload 5, 8, 0, 0), (8, .sipush 5461, 11, 0, 0), (11, .if_icmp .ge 36, 14, 47, 0), (14, .aload_n 0, 15, 0, 0), (15, .getfield 31, 18, 4, 6), (18, .iload 4, 20, 0, 0), (20, .iaload, 21, 0, 0), (21, .ifCond .le 26, 24, 47, 0), (24, .aload_n 0, 25, 0, 0), (25, .getfield 31, 28, 4, 6), (28, .iload 4, 30, 0, 0), (30, .iconst 0, 31, 0, 0), (31, .iastore, 32, 0, 0), (32, .aload_n 1, 33, 0, 0), (33, .iload_n 2, 34, 0, 0), (34, .iload 4, 36, 0, 0), (36, .invokevirtual 64, 39, 127, 2), (39, .istore 4, 41, 0, 0), (41, .iinc 5 1, 44, 0, 0), (44, .goto (-38), 47, 6, 0), (47, .iload 5, 49, 0, 0), (49, .ireturn, 50, 0, 0)]
def kX5_goRound : zM := (⟨"ReadAloud$Rings", "goRound", "(LReadAloud$Readings;II)I"⟩, prog_7_method_5_code, 6, (some .int), 4, qX5_goRound)
def qX5_findCircles : List zE := [(0, .aload_n 0, 1, 0, 0), (1, .iconst 0, 2, 0, 0), (2, .putfield 15, 5, 4, 1), (5, .aload_n 0, 6, 0, 0), (6, .iconst 0, 7, 0, 0), (7, .putfield 19, 10, 4, 2), (10, .aload_n 0, 11, 0, 0), (11, .iconst 0, 12, 0, 0), (12, .putfield 22, 15, 4, 3), (15, .aload_n 0, 16, 0, 0), (16, .iconst 0, 17, 0, 0), (17, .putfield 25, 20, 4, 4), (20, .aload_n 0, 21, 0, 0), (21, .getfield 46, 24, 4, 11), (24, .iconst (-1), 25, 0, 0), (28, .aload_n 0, 29, 0, 0), (29, .getfield 55, 32, 4, 14), (32, .iconst 0, 33, 0, 0), (36, .iconst 0, 37, 0, 0), (37, .istore_n 2, 38, 0, 0), (38, .iload_n 2, 39, 0, 0), (39, .sipush 5461, 42, 0, 0), (42, .if_icmp .ge 25, 45, 67, 0), (45, .aload_n 0, 46, 0, 0), (46, .getfield 46, 49, 4, 11), (49, .iload_n 2, 50, 0, 0), (50, .iaload, 51, 0, 0), (51, .iconst (-1), 52, 0, 0), (52, .if_icmp .ne 9, 55, 61, 0), (55, .aload_n 0, 56, 0, 0), (56, .aload_n 1, 57, 0, 0), (57, .iload_n 2, 58, 0, 0), (58, .invokevirtual 86, 61, 175, 2), (61, .iinc 2 1, 64, 0, 0), (64, .goto (-26), 67, 38, 0), (67, .return_, 68, 0, 0)]
def kX5_findCircles : zM := (⟨"ReadAloud$Rings", "findCircles", "(LReadAloud$Readings;)V"⟩, prog_7_method_6_code, 3, none, 4, qX5_findCircles)
def qX5_findFrom : List zE := [(0, .aload_n 0, 1, 0, 0), (1, .iconst 0, 2, 0, 0), (2, .putfield 28, 5, 4, 5), (5, .aload_n 0, 6, 0, 0), (6, .iload_n 2, 7, 0, 0), (7, .invokevirtual 90, 10, 176, 1), (10, .iconst 0, 11, 0, 0), (11, .istore_n 3, 12, 0, 0), (12, .iload_n 3, 13, 0, 0), (13, .ldc 94, 15, 38227, 0), (15, .if_icmp .ge 62, 18, 77, 0), (18, .aload_n 0, 19, 0, 0), (19, .getfield 28, 22, 4, 5), (22, .ifCond .le 55, 25, 77, 0), (25, .aload_n 0, 26, 0, 0), (26, .getfield 40, 29, 4, 9), (29, .aload_n 0, 30, 0, 0), (30, .getfield 28, 33, 4, 5), (33, .iconst 1, 34, 0, 0), (34, .isub, 35, 0, 0), (35, .iaload, 36, 0, 0), (36, .istore 4, 38, 0, 0), (38, .aload_n 0, 39, 0, 0), (39, .getfield 52, 42, 4, 13), (42, .iload 4, 44, 0, 0), (44, .iaload, 45, 0, 0), (45, .aload_n 1, 46, 0, 0), (46, .getfield 95, 49, 3, 0), (49, .getfield 99, 52, 0, 1), (52, .if_icmp .ge 13, 55, 65, 0), (55, .aload_n 0, 56, 0, 0), (56, .aload_n 1, 57, 0, 0), (57, .iload 4, 59, 0, 0), (59, .invokevirtual 104, 62, 177, 2), (62, .goto 9, 65, 71, 0), (65, .aload_n 0, 66, 0, 0), (66, .iload 4, 68, 0, 0), (68, .invokevirtual 107, 71, 178, 1), (71, .iinc 3 1, 74, 0, 0), (74, .goto (-62), 77, 12, 0), (77, .return_, 78, 0, 0)]
def kX5_findFrom : zM := (⟨"ReadAloud$Rings", "findFrom", "(LReadAloud$Readings;I)V"⟩, prog_7_method_7_code, 5, none, 4, qX5_findFrom)
def qX5_enter : List zE := [(0, .aload_n 0, 1, 0, 0), (1, .getfield 46, 4, 4, 11), (4, .iload_n 1, 5, 0, 0), (5, .aload_n 0, 6, 0, 0), (6, .getfield 22, 9, 4, 3), (9, .iastore, 10, 0, 0), (10, .aload_n 0, 11, 0, 0), (11, .getfield 49, 14, 4, 12), (14, .iload_n 1, 15, 0, 0), (15, .aload_n 0, 16, 0, 0), (16, .getfield 22, 19, 4, 3), (19, .iastore, 20, 0, 0), (20, .aload_n 0, 21, 0, 0), (21, .getfield 52, 24, 4, 13), (24, .iload_n 1, 25, 0, 0), (25, .iconst 0, 26, 0, 0), (26, .iastore, 27, 0, 0), (27, .aload_n 0, 28, 0, 0), (28, .dup, 29, 0, 0), (29, .getfield 22, 32, 4, 3), (32, .iconst 1, 33, 0, 0), (33, .iadd, 34, 0, 0), (34, .putfield 22, 37, 4, 3), (37, .aload_n 0, 38, 0, 0), (38, .getfield 43, 41, 4, 10), (41, .aload_n 0, 42, 0, 0), (42, .getfield 25, 45, 4, 4), (45, .iload_n 1, 46, 0, 0), (46, .iastore, 47, 0, 0), (47, .aload_n 0, 48, 0, 0), (48, .dup, 49, 0, 0), (49, .getfield 25, 52, 4, 4), (52, .iconst 1, 53, 0, 0), (53, .iadd, 54, 0, 0), (54, .putfield 25, 57, 4, 4), (57, .aload_n 0, 58, 0, 0), (58, .getfield 40, 61, 4, 9), (61, .aload_n 0, 62, 0, 0), (62, .getfield 28, 65, 4, 5), (65, .iload_n 1, 66, 0, 0), (66, .iastore, 67, 0, 0), (67, .aload_n 0, 68, 0, 0), (68, .dup, 69, 0, 0), (69, .getfield 28, 72, 4, 5), (72, .iconst 1, 73, 0, 0), (73, .iadd, 74, 0, 0), (74, .putfield 28, 77, 4, 5), (77, .return_, 78, 0, 0)]
def kX5_enter : zM := (⟨"ReadAloud$Rings", "enter", "(I)V"⟩, prog_7_method_8_code, 2, none, 4, qX5_enter)
def qX5_tryNext : List zE := [(0, .aload_n 1, 1, 0, 0), (1, .aload_n 0, 2, 0, 0), (2, .getfield 52, 5, 4, 13), (5, .iload_n 2, 6, 0, 0), (6, .iaload, 7, 0, 0), (7, .iload_n 2, 8, 0, 0), (8, .invokevirtual 64, 11, 127, 2), (11, .istore_n 3, 12, 0, 0), (12, .aload_n 0, 13, 0, 0), (13, .getfield 52, 16, 4, 13), (16, .iload_n 2, 17, 0, 0), (17, .dup2, 18, 0, 0), (18, .iaload, 19, 0, 0), (19, .iconst 1, 20, 0, 0), (20, .iadd, 21, 0, 0), (21, .iastore, 22, 0, 0), (22, .aload_n 0, 23, 0, 0), (23, .getfield 46, 26, 4, 11), (26, .iload_n 3, 27, 0, 0), (27, .iaload, 28, 0, 0), (28, .iconst (-1), 29, 0, 0), (29, .if_icmp .ne 11, 32, 40, 0), (32, .aload_n 0, 33, 0, 0), (33, .iload_n 3, 34, 0, 0), (34, .invokevirtual 90, 37, 176, 1), (37, .goto 33, 40, 70, 0), (40, .aload_n 0, 41, 0, 0), (41, .getfield 55, 44, 4, 14), (44, .iload_n 3, 45, 0, 0), (45, .iaload, 46, 0, 0), (46, .ifCond .ne 24, 49, 70, 0), (49, .aload_n 0, 50, 0, 0), (50, .getfield 49, 53, 4, 12), (53, .iload_n 2, 54, 0, 0), (54, .aload_n 0, 55, 0, 0), (55, .getfield 49, 58, 4, 12), (58, .iload_n 2, 59, 0, 0), (59, .iaload, 60, 0, 0), (60, .aload_n 0, 61, 0, 0), (61, .getfield 46, 64, 4, 11), (64, .iload_n 3, 65, 0, 0), (65, .iaload, 66, 0, 0), (66, .invokestatic 110, 69, 0, 101), (69, .iastore, 70, 0, 0), (70, .return_, 71, 0, 0)]
def kX5_tryNext : zM := (⟨"ReadAloud$Rings", "tryNext", "(LReadAloud$Readings;I)V"⟩, prog_7_method_9_code, 4, none, 4, qX5_tryNext)
def qX5_leave : List zE := [(0, .aload_n 0, 1, 0, 0), (1, .dup, 2, 0, 0), (2, .getfield 28, 5, 4, 5), (5, .iconst 1, 6, 0, 0), (6, .isub, 7, 0, 0), (7, .putfield 28, 10, 4, 5), (10, .aload_n 0, 11, 0, 0), (11, .getfield 28, 14, 4, 5), (14, .ifCond .le 36, 17, 50, 0), (17, .aload_n 0, 18, 0, 0), (18, .getfield 40, 21, 4, 9), (21, .aload_n 0, 22, 0, 0), (22, .getfield 28, 25, 4, 5), (25, .iconst 1, 26, 0, 0), (26, .isub, 27, 0, 0), (27, .iaload, 28, 0, 0), (28, .istore_n 2, 29, 0, 0), (29, .aload_n 0, 30, 0, 0), (30, .getfield 49, 33, 4, 12), (33, .iload_n 2, 34, 0, 0), (34, .aload_n 0, 35, 0, 0), (35, .getfield 49, 38, 4, 12), (38, .iload_n 2, 39, 0, 0), (39, .iaload, 40, 0, 0), (40, .aload_n 0, 41, 0, 0), (41, .getfield 49, 44, 4, 12), (44, .iload_n 1, 45, 0, 0), (45, .iaload, 46, 0, 0), (46, .invokestatic 110, 49, 0, 101), (49, .iastore, 50, 0, 0), (50, .aload_n 0, 51, 0, 0), (51, .getfield 49, 54, 4, 12), (54, .iload_n 1, 55, 0, 0), (55, .iaload, 56, 0, 0), (56, .aload_n 0, 57, 0, 0), (57, .getfield 46, 60, 4, 11), (60, .iload_n 1, 61, 0, 0), (61, .iaload, 62, 0, 0), (62, .if_icmp .ne 8, 65, 70, 0), (65, .aload_n 0, 66, 0, 0), (66, .iload_n 1, 67, 0, 0), (67, .invokevirtual 113, 70, 179, 1), (70, .return_, 71, 0, 0)]
def kX5_leave : zM := (⟨"ReadAloud$Rings", "leave", "(I)V"⟩, prog_7_method_10_code, 3, none, 4, qX5_leave)
def qX5_closeCircle : List zE := [(0, .aload_n 0, 1, 0, 0), (1, .getfield 25, 4, 4, 4), (4, .iconst 1, 5, 0, 0), (5, .isub, 6, 0, 0), (6, .istore_n 2, 7, 0, 0), (7, .iload_n 2, 8, 0, 0), (8, .ifCond .le 19, 11, 27, 0), (11, .aload_n 0, 12, 0, 0), (12, .getfield 43, 15, 4, 10), (15, .iload_n 2, 16, 0, 0), (16, .iaload, 17, 0, 0), (17, .iload_n 1, 18, 0, 0), (18, .if_icmp .eq 9, 21, 27, 0), (21, .iinc 2 (-1), 24, 0, 0), (24, .goto (-17), 27, 7, 0), (27, .aload_n 0, 28, 0, 0), (28, .getfield 25, 31, 4, 4), (31, .iload_n 2, 32, 0, 0), (32, .isub, 33, 0, 0), (33, .istore_n 3, 34, 0, 0), (34, .iload_n 2, 35, 0, 0), (35, .istore 4, 37, 0, 0), (37, .iload 4, 39, 0, 0), (39, .aload_n 0, 40, 0, 0), (40, .getfield 25, 43, 4, 4), (43, .if_icmp .ge 22, 46, 65, 0), (46, .aload_n 0, 47, 0, 0), (47, .getfield 55, 50, 4, 14), (50, .aload_n 0, 51, 0, 0), (51, .getfield 43, 54, 4, 10), (54, .iload 4, 56, 0, 0), (56, .iaload, 57, 0, 0), (57, .iload_n 3, 58, 0, 0), (58, .iastore, 59, 0, 0), (59, .iinc 4 1, 62, 0, 0), (62, .goto (-25), 65, 37, 0), (65, .aload_n 0, 66, 0, 0), (66, .iload_n 2, 67, 0, 0), (67, .putfield 25, 70, 4, 4), (70, .aload_n 0, 71, 0, 0), (71, .dup, 72, 0, 0), (72, .getfield 15, 75, 4, 1), (75, .iconst 1, 76, 0, 0), (76, .iadd, 77, 0, 0), (77, .putfield 15, 80, 4, 1), (80, .aload_n 0, 81, 0, 0), (81, .aload_n 0, 82, 0, 0), (82, .getfield 19, 85, 4, 2), (85, .iload_n 3, 86, 0, 0), (86, .invokestatic 78, 89, 0, 100), (89, .putfield 19, 92, 4, 2), (92, .return_, 93, 0, 0)]
def kX5_closeCircle : zM := (⟨"ReadAloud$Rings", "closeCircle", "(I)V"⟩, prog_7_method_11_code, 5, none, 4, qX5_closeCircle)
set_option maxRecDepth 200000 in
def qX12_init : List zE := [(0, .aload_n 0, 1, 0, 0), (1, .invokespecial 1, 4, 0, 99), (4, .aload_n 0, 5, 0, 0), (5, .sipush 2400, 8, 0, 0), (8, .newarray .byte, 10, 0, 2400), (10, .putfield 7, 13, 11, 1), (13, .aload_n 0, 14, 0, 0), (14, .iconst 4, 15, 0, 0), (15, .newarray .int, 17, 1, 4), (17, .putfield 13, 20, 11, 2), (20, .aload_n 0, 21, 0, 0), (21, .iconst 4, 22, 0, 0), (22, .newarray .int, 24, 1, 4), (24, .putfield 17, 27, 11, 3), (27, .aload_n 0, 28, 0, 0), (28, .iconst 4, 29, 0, 0), (29, .newarray .int, 31, 1, 4), (31, .putfield 20, 34, 11, 4), (34, .aload_n 0, 35, 0, 0), (35, .bipush 12, 37, 0, 0), (37, .newarray .int, 39, 1, 12), (39, .putfield 23, 42, 11, 5), (42, .aload_n 0, 43, 0, 0), (43, .sipush 408, 46, 0, 0), (46, .newarray .int, 48, 1, 408), (48, .putfield 26, 51, 11, 6), (51, .aload_n 0, 52, 0, 0), (52, .sipush 968, 55, 0, 0), (55, .newarray .int, 57, 1, 968), (57, .putfield 29, 60, 11, 7), (60, .aload_n 0, 61, 0, 0), (61, .bipush 104, 63, 0, 0), (63, .newarray .int, 65, 1, 104), (65, .putfield 32, 68, 11, 8), (68, .aload_n 0, 69, 0, 0), (69, .bipush 121, 71, 0, 0), (71, .newarray .int, 73, 1, 121), (73, .putfield 35, 76, 11, 18), (76, .aload_n 0, 77, 0, 0), (77, .iconst 3, 78, 0, 0), (78, .newarray .int, 80, 1, 3), (80, .putfield 38, 83, 11, 19), (83, .aload_n 0, 84, 0, 0), (84, .iconst (-1), 85, 0, 0), (85, .putfield 41, 88, 11, 21), (88, .aload_n 0, 89, 0, 0), (89, .bipush 7, 91, 0, 0), (91, .newarray .int, 93, 1, 7), (93, .putfield 45, 96, 11, 24), (96, .aload_n 0, 97, 0, 0), (97, .bipush 7, 99, 0, 0), (99, .newarray .int, 101, 1, 7), (101, .putfield 48, 104, 11, 25), (104, .aload_n 0, 105, 0, 0), (105, .bipush 49, 107, 0, 0), (107, .newarray .int, 109, 1, 49), (109, .putfield 51, 112, 11, 27), (112, .aload_n 0, 113, 0, 0), (113, .iconst 4, 114, 0, 0), (114, .newarray .int, 116, 1, 4), (116, .putfield 54, 119, 11, 29), (119, .aload_n 0, 120, 0, 0), (120, .iconst 5, 121, 0, 0), (121, .newarray .int, 123, 1, 5), (123, .putfield 57, 126, 11, 30), (126, .aload_n 0, 127, 0, 0), (127, .sipush 27305, 130, 0, 0), (130, .newarray .int, 132, 1, 27305), (132, .putfield 60, 135, 11, 34), (135, .aload_n 0, 136, 0, 0), (136, .sipush 5461, 139, 0, 0), (139, .newarray .int, 141, 1, 5461), (141, .putfield 63, 144, 11, 35), (144, .aload_n 0, 145, 0, 0), (145, .sipush 5461, 148, 0, 0), (148, .newarray .int, 150, 1, 5461), (150, .putfield 66, 153, 11, 36), (153, .aload_n 0, 154, 0, 0), (154, .sipush 5461, 157, 0, 0), (157, .newarray .int, 159, 1, 5461), (159, .putfield 69, 162, 11, 37), (162, .aload_n 0, 163, 0, 0), (163, .sipush 5461, 166, 0, 0), (166, .newarray .int, 168, 1, 5461), (168, .putfield 72, 171, 11, 39), (171, .aload_n 0, 172, 0, 0), (172, .ldc 75, 174, 54610, 0), (174, .newarray .int, 176, 1, 54610), (176, .putfield 76, 179, 11, 40), (179, .aload_n 0, 180, 0, 0), (180, .ldc 75, 182, 54610, 0), (182, .newarray .int, 184, 1, 54610), (184, .putfield 79, 187, 11, 42), (187, .aload_n 0, 188, 0, 0), (188, .ldc 75, 190, 54610, 0), (190, .newarray .int, 192, 1, 54610), (192, .putfield 82, 195, 11, 43), (195, .aload_n 0, 196, 0, 0), (196, .sipush 5461, 199, 0, 0), (199, .newarray .int, 201, 1, 5461), (201, .putfield 85, 204, 11, 45), (204, .aload_n 0, 205, 0, 0), (205, .sipush 5461, 208, 0, 0), (208, .newarray .int, 210, 1, 5461), (210, .putfield 88, 213, 11, 46), (213, .aload_n 0, 214, 0, 0), (214, .sipush 5461, 217, 0, 0), (217, .newarray .int, 219, 1, 5461), (219, .putfield 91, 222, 11, 47), (222, .aload_n 0, 223, 0, 0), (223, .sipush 5461, 226, 0, 0), (226, .newarray .int, 228, 1, 5461), (228, .putfield 94, 231, 11, 48), (231, .aload_n 0, 232, 0, 0), (232, .sipush 5461, 235, 0, 0), (235, .newarray .int, 237, 1, 5461), (237, .putfield 97, 240, 11, 49), (240, .aload_n 0, 241, 0, 0), (241, .sipush 27305, 244, 0, 0), (244, .newarray .int, 246, 1, 27305), (246, .putfield 100, 249, 11, 50), (249, .aload_n 0, 250, 0, 0), (250, .iconst 3, 251, 0, 0), (251, .newarray .boolean, 253, 2, 3), (253, .putfield 103, 256, 11, 51), (256, .aload_n 0, 257, 0, 0), (257, .getfield 20, 260, 11, 4), (260, .iconst 0, 261, 0, 0), (261, .iconst (-1), 262, 0, 0), (262, .iastore, 263, 0, 0), (263, .return_, 264, 0, 0)]
def kX12_init : zM := (⟨"ReadAloudModel", "<init>", "()V"⟩, prog_14_method_1_code, 1, none, 11, qX12_init)
def qX12_in : List zE := [(0, .iload_n 0, 1, 0, 0), (1, .iload_n 1, 2, 0, 0), (2, .if_icmp .lt 12, 5, 14, 0), (5, .iload_n 0, 6, 0, 0), (6, .iload_n 2, 7, 0, 0), (7, .if_icmp .gt 7, 10, 14, 0), (10, .iconst 1, 11, 0, 0), (11, .goto 4, 14, 15, 0), (14, .iconst 0, 15, 0, 0), (15, .ireturn, 16, 0, 0)]
def kX12_in : zM := (⟨"ReadAloudModel", "in", "(III)Z"⟩, prog_14_method_3_code, 3, (some .boolean), 11, qX12_in)
def qX12_has : List zE := [(0, .iload_n 0, 1, 0, 0), (1, .iload_n 1, 2, 0, 0), (2, .ishr, 3, 0, 0), (3, .iconst 1, 4, 0, 0), (4, .iand, 5, 0, 0), (5, .iconst 1, 6, 0, 0), (6, .if_icmp .ne 7, 9, 13, 0), (9, .iconst 1, 10, 0, 0), (10, .goto 4, 13, 14, 0), (13, .iconst 0, 14, 0, 0), (14, .ireturn, 15, 0, 0)]
def kX12_has : zM := (⟨"ReadAloudModel", "has", "(II)Z"⟩, prog_14_method_4_code, 2, (some .boolean), 11, qX12_has)
def qX12_greater : List zE := [(0, .iload_n 0, 1, 0, 0), (1, .iload_n 1, 2, 0, 0), (2, .if_icmp .le 7, 5, 9, 0), (5, .iload_n 0, 6, 0, 0), (6, .goto 4, 9, 10, 0), (9, .iload_n 1, 10, 0, 0), (10, .ireturn, 11, 0, 0)]
def kX12_greater : zM := (⟨"ReadAloudModel", "greater", "(II)I"⟩, prog_14_method_5_code, 2, (some .int), 11, qX12_greater)
def qX12_lesser : List zE := [(0, .iload_n 0, 1, 0, 0), (1, .iload_n 1, 2, 0, 0), (2, .if_icmp .ge 7, 5, 9, 0), (5, .iload_n 0, 6, 0, 0), (6, .goto 4, 9, 10, 0), (9, .iload_n 1, 10, 0, 0), (10, .ireturn, 11, 0, 0)]
def kX12_lesser : zM := (⟨"ReadAloudModel", "lesser", "(II)I"⟩, prog_14_method_6_code, 2, (some .int), 11, qX12_lesser)
def qX12_copyRow : List zE := [(0, .iconst 0, 1, 0, 0), (1, .istore 4, 3, 0, 0), (3, .iload 4, 5, 0, 0), (5, .iload_n 1, 6, 0, 0), (6, .if_icmp .ge 25, 9, 31, 0), (9, .aload_n 0, 10, 0, 0), (10, .iload_n 1, 11, 0, 0), (11, .iload_n 3, 12, 0, 0), (12, .imul, 13, 0, 0), (13, .iload 4, 15, 0, 0), (15, .iadd, 16, 0, 0), (16, .aload_n 0, 17, 0, 0), (17, .iload_n 1, 18, 0, 0), (18, .iload_n 2, 19, 0, 0), (19, .imul, 20, 0, 0), (20, .iload 4, 22, 0, 0), (22, .iadd, 23, 0, 0), (23, .iaload, 24, 0, 0), (24, .iastore, 25, 0, 0), (25, .iinc 4 1, 28, 0, 0), (28, .goto (-25), 31, 3, 0), (31, .return_, 32, 0, 0)]
def kX12_copyRow : zM := (⟨"ReadAloudModel", "copyRow", "([IIII)V"⟩, prog_14_method_7_code, 5, none, 11, qX12_copyRow)
def qX12_copyAll : List zE := [(0, .iconst 0, 1, 0, 0), (1, .istore_n 3, 2, 0, 0), (2, .iload_n 3, 3, 0, 0), (3, .sipush 600, 6, 0, 0), (6, .if_icmp .ge 33, 9, 39, 0), (9, .aload_n 0, 10, 0, 0), (10, .getfield 7, 13, 11, 1), (13, .sipush 600, 16, 0, 0), (16, .iload_n 2, 17, 0, 0), (17, .imul, 18, 0, 0), (18, .iload_n 3, 19, 0, 0), (19, .iadd, 20, 0, 0), (20, .aload_n 0, 21, 0, 0), (21, .getfield 7, 24, 11, 1), (24, .sipush 600, 27, 0, 0), (27, .iload_n 1, 28, 0, 0), (28, .imul, 29, 0, 0), (29, .iload_n 3, 30, 0, 0), (30, .iadd, 31, 0, 0), (31, .baload, 32, 0, 0), (32, .bastore, 33, 0, 0), (33, .iinc 3 1, 36, 0, 0), (36, .goto (-34), 39, 2, 0), (39, .aload_n 0, 40, 0, 0), (40, .getfield 13, 43, 11, 2), (43, .iconst 1, 44, 0, 0), (44, .iload_n 1, 45, 0, 0), (45, .iload_n 2, 46, 0, 0), (46, .invokestatic 110, 49, 185, 4), (49, .aload_n 0, 50, 0, 0), (50, .getfield 17, 53, 11, 3), (53, .iconst 1, 54, 0, 0), (54, .iload_n 1, 55, 0, 0), (55, .iload_n 2, 56, 0, 0), (56, .invokestatic 110, 59, 185, 4), (59, .aload_n 0, 60, 0, 0), (60, .getfield 20, 63, 11, 4), (63, .iconst 1, 64, 0, 0), (64, .iload_n 1, 65, 0, 0), (65, .iload_n 2, 66, 0, 0), (66, .invokestatic 110, 69, 185, 4), (69, .aload_n 0, 70, 0, 0), (70, .getfield 23, 73, 11, 5), (73, .iconst 3, 74, 0, 0), (74, .iload_n 1, 75, 0, 0), (75, .iload_n 2, 76, 0, 0), (76, .invokestatic 110, 79, 185, 4), (79, .aload_n 0, 80, 0, 0), (80, .getfield 26, 83, 11, 6), (83, .bipush 102, 85, 0, 0), (85, .iload_n 1, 86, 0, 0), (86, .iload_n 2, 87, 0, 0), (87, .invokestatic 110, 90, 185, 4), (90, .aload_n 0, 91, 0, 0), (91, .getfield 29, 94, 11, 7), (94, .sipush 242, 97, 0, 0), (97, .iload_n 1, 98, 0, 0), (98, .iload_n 2, 99, 0, 0), (99, .invokestatic 110, 102, 185, 4), (102, .aload_n 0, 103, 0, 0), (103, .getfield 32, 106, 11, 8), (106, .bipush 26, 108, 0, 0), (108, .iload_n 1, 109, 0, 0), (109, .iload_n 2, 110, 0, 0), (110, .invokestatic 110, 113, 185, 4), (113, .return_, 114, 0, 0)]
def kX12_copyAll : zM := (⟨"ReadAloudModel", "copyAll", "(II)V"⟩, prog_14_method_8_code, 4, none, 11, qX12_copyAll)
def qX12_is : List zE := [(0, .iload_n 2, 1, 0, 0), (1, .iconst 0, 2, 0, 0), (2, .aload_n 0, 3, 0, 0), (3, .getfield 23, 6, 11, 5), (6, .iload_n 1, 7, 0, 0), (7, .iaload, 8, 0, 0), (8, .iconst 1, 9, 0, 0), (9, .isub, 10, 0, 0), (10, .invokestatic 114, 13, 181, 3), (13, .ireturn, 14, 0, 0)]
def kX12_is : zM := (⟨"ReadAloudModel", "is", "(II)Z"⟩, prog_14_method_9_code, 3, (some .boolean), 11, qX12_is)
def qX12_feed : List zE := [(0, .aload_n 0, 1, 0, 0), (1, .iconst 0, 2, 0, 0), (2, .putfield 107, 5, 11, 0), (5, .aload_n 0, 6, 0, 0), (6, .getfield 13, 9, 11, 2), (9, .iconst 0, 10, 0, 0), (10, .iaload, 11, 0, 0), (11, .bipush 20, 13, 0, 0), (13, .iadd, 14, 0, 0), (14, .sipush 600, 17, 0, 0), (17, .if_icmp .le 5, 20, 22, 0), (20, .iconst (-1), 21, 0, 0), (21, .ireturn, 22, 0, 0), (22, .aload_n 0, 23, 0, 0), (23, .iload_n 1, 24, 0, 0), (24, .invokevirtual 118, 27, 189, 1), (27, .aload_n 0, 28, 0, 0), (28, .iload_n 2, 29, 0, 0), (29, .invokevirtual 118, 32, 189, 1), (32, .aload_n 0, 33, 0, 0), (33, .iload_n 3, 34, 0, 0), (34, .invokevirtual 118, 37, 189, 1), (37, .aload_n 0, 38, 0, 0), (38, .iload 4, 40, 0, 0), (40, .invokevirtual 118, 43, 189, 1), (43, .aload_n 0, 44, 0, 0), (44, .iload 5, 46, 0, 0), (46, .invokevirtual 118, 49, 189, 1), (49, .aload_n 0, 50, 0, 0), (50, .getfield 13, 53, 11, 2), (53, .iconst 0, 54, 0, 0), (54, .iaload, 55, 0, 0), (55, .ireturn, 56, 0, 0)]
def kX12_feed : zM := (⟨"ReadAloudModel", "feed", "(IIIII)I"⟩, prog_14_method_10_code, 6, (some .int), 11, qX12_feed)
def qX12_four : List zE := [(0, .bipush 24, 2, 0, 0), (2, .istore_n 2, 3, 0, 0), (3, .iload_n 2, 4, 0, 0), (4, .ifCond .lt 34, 7, 38, 0), (7, .aload_n 0, 8, 0, 0), (8, .getfield 7, 11, 11, 1), (11, .aload_n 0, 12, 0, 0), (12, .getfield 13, 15, 11, 2), (15, .iconst 0, 16, 0, 0), (16, .iaload, 17, 0, 0), (17, .iload_n 1, 18, 0, 0), (18, .iload_n 2, 19, 0, 0), (19, .ishr, 20, 0, 0), (20, .i2b, 21, 0, 0), (21, .bastore, 22, 0, 0), (22, .aload_n 0, 23, 0, 0), (23, .getfield 13, 26, 11, 2), (26, .iconst 0, 27, 0, 0), (27, .dup2, 28, 0, 0), (28, .iaload, 29, 0, 0), (29, .iconst 1, 30, 0, 0), (30, .iadd, 31, 0, 0), (31, .iastore, 32, 0, 0), (32, .iinc 2 (-8), 35, 0, 0), (35, .goto (-32), 38, 3, 0), (38, .return_, 39, 0, 0)]
def kX12_four : zM := (⟨"ReadAloudModel", "four", "(I)V"⟩, prog_14_method_11_code, 3, none, 11, qX12_four)
def qX12_end : List zE := [(0, .aload_n 0, 1, 0, 0), (1, .iconst 0, 2, 0, 0), (2, .putfield 107, 5, 11, 0), (5, .iload_n 1, 6, 0, 0), (6, .iconst 0, 7, 0, 0), (7, .aload_n 0, 8, 0, 0), (8, .getfield 13, 11, 11, 2), (11, .iconst 0, 12, 0, 0), (12, .iaload, 13, 0, 0), (13, .invokestatic 114, 16, 181, 3), (16, .ifCond .ne 5, 19, 21, 0), (19, .iconst (-1), 20, 0, 0), (20, .ireturn, 21, 0, 0), (21, .aload_n 0, 22, 0, 0), (22, .getfield 13, 25, 11, 2), (25, .iconst 0, 26, 0, 0), (26, .iload_n 1, 27, 0, 0), (27, .iastore, 28, 0, 0), (28, .iload_n 1, 29, 0, 0), (29, .ireturn, 30, 0, 0)]
def kX12_end : zM := (⟨"ReadAloudModel", "end", "(I)I"⟩, prog_14_method_12_code, 2, (some .int), 11, qX12_end)
def qX12_see : List zE := [(0, .aload_n 0, 1, 0, 0), (1, .getfield 122, 4, 11, 9), (4, .aload_n 0, 5, 0, 0), (5, .getfield 125, 8, 11, 10), (8, .if_icmp .ge 19, 11, 27, 0), (11, .aload_n 0, 12, 0, 0), (12, .getfield 7, 15, 11, 1), (15, .aload_n 0, 16, 0, 0), (16, .getfield 122, 19, 11, 9), (19, .baload, 20, 0, 0), (20, .sipush 255, 23, 0, 0), (23, .iand, 24, 0, 0), (24, .goto 4, 27, 28, 0), (27, .iconst (-1), 28, 0, 0), (28, .ireturn, 29, 0, 0)]
def kX12_see : zM := (⟨"ReadAloudModel", "see", "()I"⟩, prog_14_method_13_code, 1, (some .int), 11, qX12_see)
set_option maxRecDepth 200000 in
def qX12_token : List zE := [(0, .aload_n 0, 1, 0, 0), (1, .invokevirtual 128, 4, 191, 0), (4, .bipush 10, 6, 0, 0), (6, .if_icmp .eq 12, 9, 18, 0), (9, .aload_n 0, 10, 0, 0), (10, .invokevirtual 128, 13, 191, 0), (13, .bipush 32, 15, 0, 0), (15, .if_icmp .ne 16, 18, 31, 0), (18, .aload_n 0, 19, 0, 0), (19, .dup, 20, 0, 0), (20, .getfield 122, 23, 11, 9), (23, .iconst 1, 24, 0, 0), (24, .iadd, 25, 0, 0), (25, .putfield 122, 28, 11, 9), (28, .goto (-28), 31, 0, 0), (31, .aload_n 0, 32, 0, 0), (32, .aload_n 0, 33, 0, 0), (33, .getfield 122, 36, 11, 9), (36, .putfield 132, 39, 11, 11), (39, .aload_n 0, 40, 0, 0), (40, .invokevirtual 128, 43, 191, 0), (43, .istore_n 1, 44, 0, 0), (44, .aload_n 0, 45, 0, 0), (45, .lconst 0, 46, 0, 0), (46, .putfield 135, 49, 11, 14), (49, .iconst 0, 50, 0, 0), (50, .istore_n 2, 51, 0, 0), (51, .iload_n 1, 52, 0, 0), (52, .ifCond .ge 11, 55, 63, 0), (55, .aload_n 0, 56, 0, 0), (56, .iconst 0, 57, 0, 0), (57, .putfield 139, 60, 11, 12), (60, .goto 206, 63, 266, 0), (63, .iload_n 1, 64, 0, 0), (64, .bipush 97, 66, 0, 0), (66, .bipush 122, 68, 0, 0), (68, .invokestatic 114, 71, 181, 3), (71, .ifCond .eq 76, 74, 147, 0), (74, .aload_n 0, 75, 0, 0), (75, .invokevirtual 128, 78, 191, 0), (78, .bipush 97, 80, 0, 0), (80, .bipush 122, 82, 0, 0), (82, .invokestatic 114, 85, 181, 3), (85, .ifCond .eq 36, 88, 121, 0), (88, .aload_n 0, 89, 0, 0), (89, .aload_n 0, 90, 0, 0), (90, .getfield 135, 93, 11, 14), (93, .bipush 8, 95, 0, 0), (95, .lshl, 96, 0, 0), (96, .aload_n 0, 97, 0, 0), (97, .invokevirtual 128, 100, 191, 0), (100, .i2l, 101, 0, 0), (101, .lor, 102, 0, 0), (102, .putfield 135, 105, 11, 14), (105, .aload_n 0, 106, 0, 0), (106, .dup, 107, 0, 0), (107, .getfield 122, 110, 11, 9), (110, .iconst 1, 111, 0, 0), (111, .iadd, 112, 0, 0), (112, .putfield 122, 115, 11, 9), (115, .iinc 2 1, 118, 0, 0), (118, .goto (-44), 121, 74, 0), (121, .aload_n 0, 122, 0, 0), (122, .iload_n 2, 123, 0, 0), (123, .bipush 8, 125, 0, 0), (125, .if_icmp .le 7, 128, 132, 0), (128, .lconst 0, 129, 0, 0), (129, .goto 7, 132, 136, 0), (132, .aload_n 0, 133, 0, 0), (133, .getfield 135, 136, 11, 14), (136, .putfield 135, 139, 11, 14), (139, .aload_n 0, 140, 0, 0), (140, .iconst 2, 141, 0, 0), (141, .putfield 139, 144, 11, 12), (144, .goto 122, 147, 266, 0), (147, .iload_n 1, 148, 0, 0), (148, .bipush 48, 150, 0, 0), (150, .bipush 57, 152, 0, 0), (152, .invokestatic 114, 155, 181, 3), (155, .ifCond .eq 86, 158, 241, 0), (158, .aload_n 0, 159, 0, 0), (159, .iconst 0, 160, 0, 0), (160, .putfield 142, 163, 11, 13), (163, .aload_n 0, 164, 0, 0), (164, .invokevirtual 128, 167, 191, 0), (167, .bipush 48, 169, 0, 0), (169, .bipush 57, 171, 0, 0), (171, .invokestatic 114, 174, 181, 3), (174, .ifCond .eq 50, 177, 224, 0), (177, .aload_n 0, 178, 0, 0), (178, .iload_n 2, 179, 0, 0), (179, .iconst 2, 180, 0, 0), (180, .if_icmp .ge 21, 183, 201, 0), (183, .bipush 10, 185, 0, 0), (185, .aload_n 0, 186, 0, 0), (186, .getfield 142, 189, 11, 13), (189, .imul, 190, 0, 0), (190, .aload_n 0, 191, 0, 0), (191, .invokevirtual 128, 194, 191, 0), (194, .iadd, 195, 0, 0), (195, .bipush 48, 197, 0, 0), (197, .isub, 198, 0, 0), (198, .goto 7, 201, 205, 0), (201, .aload_n 0, 202, 0, 0), (202, .getfield 142, 205, 11, 13), (205, .putfield 142, 208, 11, 13), (208, .aload_n 0, 209, 0, 0), (209, .dup, 210, 0, 0), (210, .getfield 122, 213, 11, 9), (213, .iconst 1, 214, 0, 0), (214, .iadd, 215, 0, 0), (215, .putfield 122, 218, 11, 9), (218, .iinc 2 1, 221, 0, 0), (221, .goto (-58), 224, 163, 0), (224, .aload_n 0, 225, 0, 0), (225, .iload_n 2, 226, 0, 0), (226, .iconst 2, 227, 0, 0), (227, .if_icmp .le 7, 230, 234, 0), (230, .iconst 1, 231, 0, 0), (231, .goto 4, 234, 235, 0), (234, .iconst 3, 235, 0, 0), (235, .putfield 139, 238, 11, 12), (238, .goto 28, 241, 266, 0), (241, .aload_n 0, 242, 0, 0), (242, .dup, 243, 0, 0), (243, .getfield 122, 246, 11, 9), (246, .iconst 1, 247, 0, 0), (247, .iadd, 248, 0, 0), (248, .putfield 122, 251, 11, 9), (251, .aload_n 0, 252, 0, 0), (252, .iload_n 1, 253, 0, 0), (253, .bipush 59, 255, 0, 0), (255, .if_icmp .ne 7, 258, 262, 0), (258, .iconst 4, 259, 0, 0), (259, .goto 4, 262, 263, 0), (262, .iconst 1, 263, 0, 0), (263, .putfield 139, 266, 11, 12), (266, .return_, 267, 0, 0)]
def kX12_token : zM := (⟨"ReadAloudModel", "token", "()V"⟩, prog_14_method_14_code, 3, none, 11, qX12_token)
def qX12_fails : List zE := [(0, .aload_n 0, 1, 0, 0), (1, .aload_n 0, 2, 0, 0), (2, .getfield 132, 5, 11, 11), (5, .putfield 145, 8, 11, 15), (8, .iconst 0, 9, 0, 0), (9, .ireturn, 10, 0, 0)]
def kX12_fails : zM := (⟨"ReadAloudModel", "fails", "()Z"⟩, prog_14_method_15_code, 1, (some .boolean), 11, qX12_fails)
def qX12_later : List zE := [(0, .aload_n 0, 1, 0, 0), (1, .getfield 148, 4, 11, 16), (4, .ifCond .eq 27, 7, 31, 0), (7, .iload_n 2, 8, 0, 0), (8, .aload_n 0, 9, 0, 0), (9, .getfield 151, 12, 11, 17), (12, .if_icmp .lt 19, 15, 31, 0), (15, .iload_n 2, 16, 0, 0), (16, .aload_n 0, 17, 0, 0), (17, .getfield 151, 20, 11, 17), (20, .if_icmp .ne 21, 23, 41, 0), (23, .iload_n 1, 24, 0, 0), (24, .aload_n 0, 25, 0, 0), (25, .getfield 148, 28, 11, 16), (28, .if_icmp .ge 13, 31, 41, 0), (31, .aload_n 0, 32, 0, 0), (32, .iload_n 1, 33, 0, 0), (33, .putfield 148, 36, 11, 16), (36, .aload_n 0, 37, 0, 0), (37, .iload_n 2, 38, 0, 0), (38, .putfield 151, 41, 11, 17), (41, .return_, 42, 0, 0)]
def kX12_later : zM := (⟨"ReadAloudModel", "later", "(II)V"⟩, prog_14_method_16_code, 3, none, 11, qX12_later)
def qX12_takeBut : List zE := [(0, .aload_n 0, 1, 0, 0), (1, .getfield 139, 4, 11, 12), (4, .iconst 3, 5, 0, 0), (5, .if_icmp .eq 8, 8, 13, 0), (8, .aload_n 0, 9, 0, 0), (9, .invokevirtual 154, 12, 193, 0), (12, .ireturn, 13, 0, 0), (13, .aload_n 0, 14, 0, 0), (14, .getfield 38, 17, 11, 19), (17, .iload_n 1, 18, 0, 0), (18, .aload_n 0, 19, 0, 0), (19, .getfield 142, 22, 11, 13), (22, .iastore, 23, 0, 0), (23, .aload_n 0, 24, 0, 0), (24, .getfield 142, 27, 11, 13), (27, .iload_n 2, 28, 0, 0), (28, .iload_n 3, 29, 0, 0), (29, .invokestatic 114, 32, 181, 3), (32, .ifCond .eq 12, 35, 44, 0), (35, .aload_n 0, 36, 0, 0), (36, .getfield 142, 39, 11, 13), (39, .iload 4, 41, 0, 0), (41, .if_icmp .ne 12, 44, 53, 0), (44, .aload_n 0, 45, 0, 0), (45, .iconst 2, 46, 0, 0), (46, .aload_n 0, 47, 0, 0), (47, .getfield 132, 50, 11, 11), (50, .invokevirtual 158, 53, 194, 2), (53, .aload_n 0, 54, 0, 0), (54, .invokevirtual 162, 57, 192, 0), (57, .iconst 1, 58, 0, 0), (58, .ireturn, 59, 0, 0)]
def kX12_takeBut : zM := (⟨"ReadAloudModel", "takeBut", "(IIII)Z"⟩, prog_14_method_17_code, 5, (some .boolean), 11, qX12_takeBut)
def qX12_take : List zE := [(0, .aload_n 0, 1, 0, 0), (1, .iload_n 1, 2, 0, 0), (2, .iload_n 2, 3, 0, 0), (3, .iload_n 3, 4, 0, 0), (4, .iconst (-1), 5, 0, 0), (5, .invokevirtual 165, 8, 195, 4), (8, .ireturn, 9, 0, 0)]
def kX12_take : zM := (⟨"ReadAloudModel", "take", "(III)Z"⟩, prog_14_method_18_code, 4, (some .boolean), 11, qX12_take)
def qX12_full : List zE := [(0, .aload_n 0, 1, 0, 0), (1, .getfield 35, 4, 11, 18), (4, .iload_n 1, 5, 0, 0), (5, .iaload, 6, 0, 0), (6, .iload_n 2, 7, 0, 0), (7, .if_icmp .ne 9, 10, 16, 0), (10, .aload_n 0, 11, 0, 0), (11, .iconst 3, 12, 0, 0), (12, .iload_n 3, 13, 0, 0), (13, .invokevirtual 158, 16, 194, 2), (16, .return_, 17, 0, 0)]
def kX12_full : zM := (⟨"ReadAloudModel", "full", "(III)V"⟩, prog_14_method_19_code, 4, none, 11, qX12_full)
def qX12_shorter : List zE := [(0, .iconst 0, 1, 0, 0), (1, .istore_n 1, 2, 0, 0), (2, .iconst 1, 3, 0, 0), (3, .istore_n 2, 4, 0, 0), (4, .iconst 0, 5, 0, 0), (5, .istore_n 3, 6, 0, 0), (6, .iload_n 3, 7, 0, 0), (7, .iload_n 0, 8, 0, 0), (8, .if_icmp .ge 17, 11, 25, 0), (11, .iload_n 1, 12, 0, 0), (12, .iload_n 2, 13, 0, 0), (13, .iadd, 14, 0, 0), (14, .istore_n 1, 15, 0, 0), (15, .iload_n 2, 16, 0, 0), (16, .iconst 4, 17, 0, 0), (17, .imul, 18, 0, 0), (18, .istore_n 2, 19, 0, 0), (19, .iinc 3 1, 22, 0, 0), (22, .goto (-16), 25, 6, 0), (25, .iload_n 1, 26, 0, 0), (26, .ireturn, 27, 0, 0)]
def kX12_shorter : zM := (⟨"ReadAloudModel", "shorter", "(I)I"⟩, prog_14_method_20_code, 4, (some .int), 11, qX12_shorter)
def qX12_takeText : List zE := [(0, .iconst 0, 1, 0, 0), (1, .istore_n 2, 2, 0, 0), (2, .iconst 0, 3, 0, 0), (3, .istore_n 3, 4, 0, 0), (4, .aload_n 0, 5, 0, 0), (5, .getfield 139, 8, 11, 12), (8, .iconst 3, 9, 0, 0), (9, .if_icmp .ne 49, 12, 58, 0), (12, .iload_n 2, 13, 0, 0), (13, .bipush 6, 15, 0, 0), (15, .if_icmp .ne 12, 18, 27, 0), (18, .aload_n 0, 19, 0, 0), (19, .iconst 3, 20, 0, 0), (20, .aload_n 0, 21, 0, 0), (21, .getfield 132, 24, 11, 11), (24, .invokevirtual 158, 27, 194, 2), (27, .aload_n 0, 28, 0, 0), (28, .iconst 2, 29, 0, 0), (29, .iconst 0, 30, 0, 0), (30, .iconst 3, 31, 0, 0), (31, .invokevirtual 169, 34, 196, 3), (34, .pop, 35, 0, 0), (35, .iload_n 2, 36, 0, 0), (36, .bipush 6, 38, 0, 0), (38, .if_icmp .ge (-34), 41, 4, 0), (41, .iconst 4, 42, 0, 0), (42, .iload_n 3, 43, 0, 0), (43, .imul, 44, 0, 0), (44, .aload_n 0, 45, 0, 0), (45, .getfield 38, 48, 11, 19), (48, .iconst 2, 49, 0, 0), (49, .iaload, 50, 0, 0), (50, .iadd, 51, 0, 0), (51, .istore_n 3, 52, 0, 0), (52, .iinc 2 1, 55, 0, 0), (55, .goto (-51), 58, 4, 0), (58, .aload_n 0, 59, 0, 0), (59, .getfield 38, 62, 11, 19), (62, .iload_n 1, 63, 0, 0), (63, .iload_n 2, 64, 0, 0), (64, .invokestatic 172, 67, 198, 1), (67, .iload_n 3, 68, 0, 0), (68, .iadd, 69, 0, 0), (69, .iastore, 70, 0, 0), (70, .return_, 71, 0, 0)]
def kX12_takeText : zM := (⟨"ReadAloudModel", "takeText", "(I)V"⟩, prog_14_method_21_code, 4, none, 11, qX12_takeText)
def qX12_stepBy : List zE := [(0, .lload_n 0, 1, 0, 0), (1, .ldc2_w 176, 4, 495672977012, 0), (4, .lcmp, 5, 0, 0), (5, .ifCond .ne 7, 8, 12, 0), (8, .iconst 0, 9, 0, 0), (9, .goto 52, 12, 61, 0), (12, .lload_n 0, 13, 0, 0), (13, .ldc2_w 178, 16, 1685221232, 0), (16, .lcmp, 17, 0, 0), (17, .ifCond .ne 7, 20, 24, 0), (20, .iconst 1, 21, 0, 0), (21, .goto 40, 24, 61, 0), (24, .lload_n 0, 25, 0, 0), (25, .ldc2_w 180, 28, 110429873532005, 0), (28, .lcmp, 29, 0, 0), (29, .ifCond .ne 7, 32, 36, 0), (32, .iconst 2, 33, 0, 0), (33, .goto 28, 36, 61, 0), (36, .lload_n 0, 37, 0, 0), (37, .ldc2_w 182, 40, 1937203568, 0), (40, .lcmp, 41, 0, 0), (41, .ifCond .ne 7, 44, 48, 0), (44, .iconst 3, 45, 0, 0), (45, .goto 16, 48, 61, 0), (48, .lload_n 0, 49, 0, 0), (49, .ldc2_w 184, 52, 1953854062, 0), (52, .lcmp, 53, 0, 0), (53, .ifCond .ne 7, 56, 60, 0), (56, .iconst 4, 57, 0, 0), (57, .goto 4, 60, 61, 0), (60, .iconst (-1), 61, 0, 0), (61, .ireturn, 62, 0, 0)]
def kX12_stepBy : zM := (⟨"ReadAloudModel", "stepBy", "(J)I"⟩, prog_14_method_22_code, 2, (some .int), 11, qX12_stepBy)
set_option maxRecDepth 200000 in
def qX12_stepLine : List zE := [(0, .aload_n 0, 1, 0, 0), (1, .getfield 35, 4, 11, 18), (4, .iconst 1, 5, 0, 0), (5, .iaload, 6, 0, 0), (6, .iconst 1, 7, 0, 0), (7, .isub, 8, 0, 0), (8, .istore_n 3, 9, 0, 0), (9, .iload_n 3, 10, 0, 0), (10, .ifCond .ge 9, 13, 19, 0), (13, .aload_n 0, 14, 0, 0), (14, .iconst 4, 15, 0, 0), (15, .iload_n 2, 16, 0, 0), (16, .invokevirtual 158, 19, 194, 2), (19, .iload_n 3, 20, 0, 0), (20, .ifCond .lt 22, 23, 42, 0), (23, .aload_n 0, 24, 0, 0), (24, .getfield 35, 27, 11, 18), (27, .bipush 6, 29, 0, 0), (29, .iload_n 3, 30, 0, 0), (30, .iadd, 31, 0, 0), (31, .iaload, 32, 0, 0), (32, .iconst 4, 33, 0, 0), (33, .if_icmp .ne 9, 36, 42, 0), (36, .aload_n 0, 37, 0, 0), (37, .iconst 3, 38, 0, 0), (38, .iload_n 2, 39, 0, 0), (39, .invokevirtual 158, 42, 194, 2), (42, .aload_n 0, 43, 0, 0), (43, .invokevirtual 162, 46, 192, 0), (46, .aload_n 0, 47, 0, 0), (47, .getfield 38, 50, 11, 19), (50, .iconst 0, 51, 0, 0), (51, .iconst 0, 52, 0, 0), (52, .iastore, 53, 0, 0), (53, .iload_n 1, 54, 0, 0), (54, .iconst 4, 55, 0, 0), (55, .if_icmp .eq 32, 58, 87, 0), (58, .aload_n 0, 59, 0, 0), (59, .iconst 0, 60, 0, 0), (60, .iload_n 1, 61, 0, 0), (61, .ifCond .ne 7, 64, 68, 0), (64, .iconst 0, 65, 0, 0), (65, .goto 4, 68, 69, 0), (68, .iconst 1, 69, 0, 0), (69, .iload_n 1, 70, 0, 0), (70, .ifCond .ne 7, 73, 77, 0), (73, .iconst 3, 74, 0, 0), (74, .goto 5, 77, 79, 0), (77, .bipush 6, 79, 0, 0), (79, .invokevirtual 169, 82, 196, 3), (82, .ifCond .ne 5, 85, 87, 0), (85, .iconst 0, 86, 0, 0), (86, .ireturn, 87, 0, 0), (87, .iload_n 3, 88, 0, 0), (88, .ifCond .lt 73, 91, 161, 0), (91, .aload_n 0, 92, 0, 0), (92, .getfield 35, 95, 11, 18), (95, .bipush 6, 97, 0, 0), (97, .iload_n 3, 98, 0, 0), (98, .iadd, 99, 0, 0), (99, .iaload, 100, 0, 0), (100, .iconst 4, 101, 0, 0), (101, .if_icmp .ge 60, 104, 161, 0), (104, .bipush 11, 106, 0, 0), (106, .bipush 8, 108, 0, 0), (108, .iload_n 3, 109, 0, 0), (109, .imul, 110, 0, 0), (110, .iadd, 111, 0, 0), (111, .iconst 2, 112, 0, 0), (112, .aload_n 0, 113, 0, 0), (113, .getfield 35, 116, 11, 18), (116, .bipush 6, 118, 0, 0), (118, .iload_n 3, 119, 0, 0), (119, .iadd, 120, 0, 0), (120, .iaload, 121, 0, 0), (121, .imul, 122, 0, 0), (122, .iadd, 123, 0, 0), (123, .istore 4, 125, 0, 0), (125, .aload_n 0, 126, 0, 0), (126, .getfield 35, 129, 11, 18), (129, .iload 4, 131, 0, 0), (131, .iload_n 1, 132, 0, 0), (132, .iastore, 133, 0, 0), (133, .aload_n 0, 134, 0, 0), (134, .getfield 35, 137, 11, 18), (137, .iload 4, 139, 0, 0), (139, .iconst 1, 140, 0, 0), (140, .iadd, 141, 0, 0), (141, .aload_n 0, 142, 0, 0), (142, .getfield 38, 145, 11, 19), (145, .iconst 0, 146, 0, 0), (146, .iaload, 147, 0, 0), (147, .iastore, 148, 0, 0), (148, .aload_n 0, 149, 0, 0), (149, .getfield 35, 152, 11, 18), (152, .bipush 6, 154, 0, 0), (154, .iload_n 3, 155, 0, 0), (155, .iadd, 156, 0, 0), (156, .dup2, 157, 0, 0), (157, .iaload, 158, 0, 0), (158, .iconst 1, 159, 0, 0), (159, .iadd, 160, 0, 0), (160, .iastore, 161, 0, 0), (161, .iconst 1, 162, 0, 0), (162, .ireturn, 163, 0, 0)]
def kX12_stepLine : zM := (⟨"ReadAloudModel", "stepLine", "(II)Z"⟩, prog_14_method_23_code, 5, (some .boolean), 11, qX12_stepLine)
set_option maxRecDepth 200000 in
def qX12_bookLine : List zE := [(0, .lload_n 1, 1, 0, 0), (1, .invokestatic 186, 4, 200, 1), (4, .istore 4, 6, 0, 0), (6, .iload 4, 8, 0, 0), (8, .iconst (-1), 9, 0, 0), (9, .if_icmp .eq 11, 12, 20, 0), (12, .aload_n 0, 13, 0, 0), (13, .iload 4, 15, 0, 0), (15, .iload_n 3, 16, 0, 0), (16, .invokevirtual 190, 19, 201, 2), (19, .ireturn, 20, 0, 0), (20, .lload_n 1, 21, 0, 0), (21, .ldc2_w 194, 24, 1952807028, 0), (24, .lcmp, 25, 0, 0), (25, .ifCond .eq 24, 28, 49, 0), (28, .lload_n 1, 29, 0, 0), (29, .ldc2_w 196, 32, 7039342, 0), (32, .lcmp, 33, 0, 0), (33, .ifCond .eq 16, 36, 49, 0), (36, .lload_n 1, 37, 0, 0), (37, .ldc2_w 198, 40, 125779751232882, 0), (40, .lcmp, 41, 0, 0), (41, .ifCond .eq 8, 44, 49, 0), (44, .aload_n 0, 45, 0, 0), (45, .invokevirtual 154, 48, 193, 0), (48, .ireturn, 49, 0, 0), (49, .lload_n 1, 50, 0, 0), (50, .ldc2_w 198, 53, 125779751232882, 0), (53, .lcmp, 54, 0, 0), (54, .ifCond .ne 28, 57, 82, 0), (57, .aload_n 0, 58, 0, 0), (58, .iconst 1, 59, 0, 0), (59, .iconst 5, 60, 0, 0), (60, .iload_n 3, 61, 0, 0), (61, .invokevirtual 200, 64, 197, 3), (64, .aload_n 0, 65, 0, 0), (65, .getfield 35, 68, 11, 18), (68, .iconst 1, 69, 0, 0), (69, .iconst 5, 70, 0, 0), (70, .aload_n 0, 71, 0, 0), (71, .getfield 35, 74, 11, 18), (74, .iconst 1, 75, 0, 0), (75, .iaload, 76, 0, 0), (76, .iconst 1, 77, 0, 0), (77, .iadd, 78, 0, 0), (78, .invokestatic 204, 81, 184, 2), (81, .iastore, 82, 0, 0), (82, .aload_n 0, 83, 0, 0), (83, .invokevirtual 162, 86, 192, 0), (86, .lload_n 1, 87, 0, 0), (87, .ldc2_w 194, 90, 1952807028, 0), (90, .lcmp, 91, 0, 0), (91, .ifCond .ne 20, 94, 111, 0), (94, .aload_n 0, 95, 0, 0), (95, .iconst 0, 96, 0, 0), (96, .invokevirtual 208, 99, 199, 1), (99, .aload_n 0, 100, 0, 0), (100, .getfield 35, 103, 11, 18), (103, .iconst 0, 104, 0, 0), (104, .aload_n 0, 105, 0, 0), (105, .getfield 38, 108, 11, 19), (108, .iconst 0, 109, 0, 0), (109, .iaload, 110, 0, 0), (110, .iastore, 111, 0, 0), (111, .lload_n 1, 112, 0, 0), (112, .ldc2_w 196, 115, 7039342, 0), (115, .lcmp, 116, 0, 0), (116, .ifCond .eq 5, 119, 121, 0), (119, .iconst 1, 120, 0, 0), (120, .ireturn, 121, 0, 0), (121, .aload_n 0, 122, 0, 0), (122, .iconst 0, 123, 0, 0), (123, .iconst 0, 124, 0, 0), (124, .iconst 3, 125, 0, 0), (125, .invokevirtual 169, 128, 196, 3), (128, .ifCond .eq 13, 131, 141, 0), (131, .aload_n 0, 132, 0, 0), (132, .iconst 1, 133, 0, 0), (133, .iconst 0, 134, 0, 0), (134, .iconst 3, 135, 0, 0), (135, .invokevirtual 169, 138, 196, 3), (138, .ifCond .ne 5, 141, 143, 0), (141, .iconst 0, 142, 0, 0), (142, .ireturn, 143, 0, 0), (143, .aload_n 0, 144, 0, 0), (144, .getfield 38, 147, 11, 19), (147, .iconst 0, 148, 0, 0), (148, .iaload, 149, 0, 0), (149, .iconst 0, 150, 0, 0), (150, .iconst 3, 151, 0, 0), (151, .invokestatic 114, 154, 181, 3), (154, .ifCond .eq 22, 157, 176, 0), (157, .aload_n 0, 158, 0, 0), (158, .getfield 35, 161, 11, 18), (161, .iconst 2, 162, 0, 0), (162, .aload_n 0, 163, 0, 0), (163, .getfield 38, 166, 11, 19), (166, .iconst 0, 167, 0, 0), (167, .iaload, 168, 0, 0), (168, .iadd, 169, 0, 0), (169, .aload_n 0, 170, 0, 0), (170, .getfield 38, 173, 11, 19), (173, .iconst 1, 174, 0, 0), (174, .iaload, 175, 0, 0), (175, .iastore, 176, 0, 0), (176, .iconst 1, 177, 0, 0), (177, .ireturn, 178, 0, 0)]
def kX12_bookLine : zM := (⟨"ReadAloudModel", "bookLine", "(JI)Z"⟩, prog_14_method_24_code, 5, (some .boolean), 11, qX12_bookLine)
def qX12_deedBy : List zE := [(0, .lload_n 0, 1, 0, 0), (1, .ldc2_w 211, 4, 1919246692, 0), (4, .lcmp, 5, 0, 0), (5, .ifCond .ne 7, 8, 12, 0), (8, .iconst 0, 9, 0, 0), (9, .goto 64, 12, 73, 0), (12, .lload_n 0, 13, 0, 0), (13, .ldc2_w 213, 16, 1668247673, 0), (16, .lcmp, 17, 0, 0), (17, .ifCond .ne 7, 20, 24, 0), (20, .iconst 1, 21, 0, 0), (21, .goto 52, 24, 73, 0), (24, .lload_n 0, 25, 0, 0), (25, .ldc2_w 215, 28, 1936023916, 0), (28, .lcmp, 29, 0, 0), (29, .ifCond .ne 7, 32, 36, 0), (32, .iconst 2, 33, 0, 0), (33, .goto 40, 36, 73, 0), (36, .lload_n 0, 37, 0, 0), (37, .ldc2_w 217, 40, 32199693894120037, 0), (40, .lcmp, 41, 0, 0), (41, .ifCond .ne 7, 44, 48, 0), (44, .iconst 3, 45, 0, 0), (45, .goto 28, 48, 73, 0), (48, .lload_n 0, 49, 0, 0), (49, .ldc2_w 219, 52, 1752527720, 0), (52, .lcmp, 53, 0, 0), (53, .ifCond .ne 7, 56, 60, 0), (56, .iconst 4, 57, 0, 0), (57, .goto 16, 60, 73, 0), (60, .lload_n 0, 61, 0, 0), (61, .ldc2_w 221, 64, 6578553, 0), (64, .lcmp, 65, 0, 0), (65, .ifCond .ne 7, 68, 72, 0), (68, .iconst 5, 69, 0, 0), (69, .goto 4, 72, 73, 0), (72, .iconst (-1), 73, 0, 0), (73, .ireturn, 74, 0, 0)]
def kX12_deedBy : zM := (⟨"ReadAloudModel", "deedBy", "(J)I"⟩, prog_14_method_25_code, 2, (some .int), 11, qX12_deedBy)
def qX12_keep : List zE := [(0, .aload_n 0, 1, 0, 0), (1, .getfield 35, 4, 11, 18), (4, .iconst 0, 5, 0, 0), (5, .iaload, 6, 0, 0), (6, .istore_n 3, 7, 0, 0), (7, .iload_n 3, 8, 0, 0), (8, .iload_n 2, 9, 0, 0), (9, .if_icmp .ne 4, 12, 13, 0), (12, .return_, 13, 0, 0), (13, .iconst 0, 14, 0, 0), (14, .istore 4, 16, 0, 0), (16, .iload 4, 18, 0, 0), (18, .iload_n 1, 19, 0, 0), (19, .if_icmp .ge 29, 22, 48, 0), (22, .aload_n 0, 23, 0, 0), (23, .getfield 35, 26, 11, 18), (26, .iconst 1, 27, 0, 0), (27, .iload_n 1, 28, 0, 0), (28, .iload_n 3, 29, 0, 0), (29, .imul, 30, 0, 0), (30, .iadd, 31, 0, 0), (31, .iload 4, 33, 0, 0), (33, .iadd, 34, 0, 0), (34, .aload_n 0, 35, 0, 0), (35, .getfield 38, 38, 11, 19), (38, .iload 4, 40, 0, 0), (40, .iaload, 41, 0, 0), (41, .iastore, 42, 0, 0), (42, .iinc 4 1, 45, 0, 0), (45, .goto (-29), 48, 16, 0), (48, .aload_n 0, 49, 0, 0), (49, .getfield 35, 52, 11, 18), (52, .iconst 0, 53, 0, 0), (53, .dup2, 54, 0, 0), (54, .iaload, 55, 0, 0), (55, .iconst 1, 56, 0, 0), (56, .iadd, 57, 0, 0), (57, .iastore, 58, 0, 0), (58, .return_, 59, 0, 0)]
def kX12_keep : zM := (⟨"ReadAloudModel", "keep", "(II)V"⟩, prog_14_method_26_code, 5, none, 11, qX12_keep)
def qX12_yearLine : List zE := [(0, .lload_n 1, 1, 0, 0), (1, .invokestatic 223, 4, 203, 1), (4, .istore 4, 6, 0, 0), (6, .iload 4, 8, 0, 0), (8, .iconst (-1), 9, 0, 0), (9, .if_icmp .ne 8, 12, 17, 0), (12, .aload_n 0, 13, 0, 0), (13, .invokevirtual 154, 16, 193, 0), (16, .ireturn, 17, 0, 0), (17, .aload_n 0, 18, 0, 0), (18, .iconst 0, 19, 0, 0), (19, .bipush 40, 21, 0, 0), (21, .iload_n 3, 22, 0, 0), (22, .invokevirtual 200, 25, 197, 3), (25, .aload_n 0, 26, 0, 0), (26, .invokevirtual 162, 29, 192, 0), (29, .aload_n 0, 30, 0, 0), (30, .getfield 38, 33, 11, 19), (33, .iconst 1, 34, 0, 0), (34, .iconst (-1), 35, 0, 0), (35, .iastore, 36, 0, 0), (36, .aload_n 0, 37, 0, 0), (37, .getfield 38, 40, 11, 19), (40, .iconst 2, 41, 0, 0), (41, .iconst (-1), 42, 0, 0), (42, .iastore, 43, 0, 0), (43, .iload 4, 45, 0, 0), (45, .iconst 5, 46, 0, 0), (46, .if_icmp .eq 13, 49, 59, 0), (49, .aload_n 0, 50, 0, 0), (50, .iconst 1, 51, 0, 0), (51, .iconst 0, 52, 0, 0), (52, .iconst 3, 53, 0, 0), (53, .invokevirtual 169, 56, 196, 3), (56, .ifCond .eq 40, 59, 96, 0), (59, .iload 4, 61, 0, 0), (61, .ifCond .ne 13, 64, 74, 0), (64, .aload_n 0, 65, 0, 0), (65, .iconst 2, 66, 0, 0), (66, .iconst 0, 67, 0, 0), (67, .iconst 4, 68, 0, 0), (68, .invokevirtual 169, 71, 196, 3), (71, .ifCond .eq 25, 74, 96, 0), (74, .iload 4, 76, 0, 0), (76, .iconst 1, 77, 0, 0), (77, .if_icmp .ne 21, 80, 98, 0), (80, .aload_n 0, 81, 0, 0), (81, .iconst 2, 82, 0, 0), (82, .iconst 0, 83, 0, 0), (83, .iconst 3, 84, 0, 0), (84, .aload_n 0, 85, 0, 0), (85, .getfield 38, 88, 11, 19), (88, .iconst 1, 89, 0, 0), (89, .iaload, 90, 0, 0), (90, .invokevirtual 165, 93, 195, 4), (93, .ifCond .ne 5, 96, 98, 0), (96, .iconst 0, 97, 0, 0), (97, .ireturn, 98, 0, 0), (98, .aload_n 0, 99, 0, 0), (99, .getfield 38, 102, 11, 19), (102, .iconst 0, 103, 0, 0), (103, .iload 4, 105, 0, 0), (105, .iastore, 106, 0, 0), (106, .aload_n 0, 107, 0, 0), (107, .iconst 3, 108, 0, 0), (108, .bipush 40, 110, 0, 0), (110, .invokevirtual 226, 113, 204, 2), (113, .iconst 1, 114, 0, 0), (114, .ireturn, 115, 0, 0)]
def kX12_yearLine : zM := (⟨"ReadAloudModel", "yearLine", "(JI)Z"⟩, prog_14_method_27_code, 5, (some .boolean), 11, qX12_yearLine)
def qX12_sightLine : List zE := [(0, .lload_n 1, 1, 0, 0), (1, .ldc2_w 229, 4, 1936024942, 0), (4, .lcmp, 5, 0, 0), (5, .ifCond .eq 8, 8, 13, 0), (8, .aload_n 0, 9, 0, 0), (9, .invokevirtual 154, 12, 193, 0), (12, .ireturn, 13, 0, 0), (13, .aload_n 0, 14, 0, 0), (14, .iconst 0, 15, 0, 0), (15, .bipush 6, 17, 0, 0), (17, .iload_n 3, 18, 0, 0), (18, .invokevirtual 200, 21, 197, 3), (21, .aload_n 0, 22, 0, 0), (22, .invokevirtual 162, 25, 192, 0), (25, .aload_n 0, 26, 0, 0), (26, .iconst 0, 27, 0, 0), (27, .iconst 0, 28, 0, 0), (28, .bipush 9, 30, 0, 0), (30, .invokevirtual 169, 33, 196, 3), (33, .ifCond .ne 5, 36, 38, 0), (36, .iconst 0, 37, 0, 0), (37, .ireturn, 38, 0, 0), (38, .aload_n 0, 39, 0, 0), (39, .iconst 1, 40, 0, 0), (40, .invokevirtual 208, 43, 199, 1), (43, .aload_n 0, 44, 0, 0), (44, .iconst 2, 45, 0, 0), (45, .bipush 6, 47, 0, 0), (47, .invokevirtual 226, 50, 204, 2), (50, .iconst 1, 51, 0, 0), (51, .ireturn, 52, 0, 0)]
def kX12_sightLine : zM := (⟨"ReadAloudModel", "sightLine", "(JI)Z"⟩, prog_14_method_28_code, 4, (some .boolean), 11, qX12_sightLine)
def qX12_lineOf : List zE := [(0, .iload_n 1, 1, 0, 0), (1, .ifCond .ne 13, 4, 14, 0), (4, .aload_n 0, 5, 0, 0), (5, .lload_n 2, 6, 0, 0), (6, .iload 4, 8, 0, 0), (8, .invokevirtual 231, 11, 202, 2), (11, .goto 25, 14, 36, 0), (14, .iload_n 1, 15, 0, 0), (15, .iconst 1, 16, 0, 0), (16, .if_icmp .ne 13, 19, 29, 0), (19, .aload_n 0, 20, 0, 0), (20, .lload_n 2, 21, 0, 0), (21, .iload 4, 23, 0, 0), (23, .invokevirtual 235, 26, 205, 2), (26, .goto 10, 29, 36, 0), (29, .aload_n 0, 30, 0, 0), (30, .lload_n 2, 31, 0, 0), (31, .iload 4, 33, 0, 0), (33, .invokevirtual 238, 36, 206, 2), (36, .ireturn, 37, 0, 0)]
def kX12_lineOf : zM := (⟨"ReadAloudModel", "lineOf", "(IJI)Z"⟩, prog_14_method_29_code, 5, (some .boolean), 11, qX12_lineOf)
def qX12_lines : List zE := [(0, .iconst 1, 1, 0, 0), (1, .istore_n 2, 2, 0, 0), (2, .iload_n 2, 3, 0, 0), (3, .ifCond .eq 64, 6, 67, 0), (6, .aload_n 0, 7, 0, 0), (7, .getfield 139, 10, 11, 12), (10, .ifCond .eq 57, 13, 67, 0), (13, .aload_n 0, 14, 0, 0), (14, .iload_n 1, 15, 0, 0), (15, .aload_n 0, 16, 0, 0), (16, .getfield 139, 19, 11, 12), (19, .iconst 2, 20, 0, 0), (20, .if_icmp .ne 10, 23, 30, 0), (23, .aload_n 0, 24, 0, 0), (24, .getfield 135, 27, 11, 14), (27, .goto 4, 30, 31, 0), (30, .lconst 0, 31, 0, 0), (31, .aload_n 0, 32, 0, 0), (32, .getfield 132, 35, 11, 11), (35, .invokevirtual 241, 38, 207, 3), (38, .istore_n 2, 39, 0, 0), (39, .iload_n 2, 40, 0, 0), (40, .ifCond .eq 16, 43, 56, 0), (43, .aload_n 0, 44, 0, 0), (44, .getfield 139, 47, 11, 12), (47, .iconst 4, 48, 0, 0), (48, .if_icmp .eq 8, 51, 56, 0), (51, .aload_n 0, 52, 0, 0), (52, .invokevirtual 154, 55, 193, 0), (55, .istore_n 2, 56, 0, 0), (56, .iload_n 2, 57, 0, 0), (57, .ifCond .eq (-55), 60, 2, 0), (60, .aload_n 0, 61, 0, 0), (61, .invokevirtual 162, 64, 192, 0), (64, .goto (-62), 67, 2, 0), (67, .iload_n 2, 68, 0, 0), (68, .ireturn, 69, 0, 0)]
def kX12_lines : zM := (⟨"ReadAloudModel", "lines", "(I)Z"⟩, prog_14_method_30_code, 3, (some .boolean), 11, qX12_lines)
def qX12_readText : List zE := [(0, .iconst 0, 1, 0, 0), (1, .istore_n 2, 2, 0, 0), (2, .iload_n 2, 3, 0, 0), (3, .bipush 121, 5, 0, 0), (5, .if_icmp .ge 35, 8, 40, 0), (8, .aload_n 0, 9, 0, 0), (9, .getfield 35, 12, 11, 18), (12, .iload_n 2, 13, 0, 0), (13, .iload_n 1, 14, 0, 0), (14, .ifCond .ne 18, 17, 32, 0), (17, .iload_n 2, 18, 0, 0), (18, .iconst 2, 19, 0, 0), (19, .iconst 5, 20, 0, 0), (20, .invokestatic 114, 23, 181, 3), (23, .ifCond .eq 9, 26, 32, 0), (26, .iload_n 2, 27, 0, 0), (27, .iconst 2, 28, 0, 0), (28, .isub, 29, 0, 0), (29, .goto 4, 32, 33, 0), (32, .iconst 0, 33, 0, 0), (33, .iastore, 34, 0, 0), (34, .iinc 2 1, 37, 0, 0), (37, .goto (-35), 40, 2, 0), (40, .aload_n 0, 41, 0, 0), (41, .iconst 0, 42, 0, 0), (42, .putfield 122, 45, 11, 9), (45, .aload_n 0, 46, 0, 0), (46, .iconst 0, 47, 0, 0), (47, .putfield 148, 50, 11, 16), (50, .aload_n 0, 51, 0, 0), (51, .invokevirtual 162, 54, 192, 0), (54, .aload_n 0, 55, 0, 0), (55, .iload_n 1, 56, 0, 0), (56, .invokevirtual 245, 59, 208, 1), (59, .istore_n 2, 60, 0, 0), (60, .aload_n 0, 61, 0, 0), (61, .getfield 17, 64, 11, 3), (64, .iconst 0, 65, 0, 0), (65, .iload_n 2, 66, 0, 0), (66, .ifCond .eq 10, 69, 76, 0), (69, .aload_n 0, 70, 0, 0), (70, .getfield 148, 73, 11, 16), (73, .goto 4, 76, 77, 0), (76, .iconst 1, 77, 0, 0), (77, .iastore, 78, 0, 0), (78, .aload_n 0, 79, 0, 0), (79, .getfield 20, 82, 11, 4), (82, .iconst 0, 83, 0, 0), (83, .iload_n 2, 84, 0, 0), (84, .ifCond .ne 10, 87, 94, 0), (87, .aload_n 0, 88, 0, 0), (88, .getfield 145, 91, 11, 15), (91, .goto 18, 94, 109, 0), (94, .aload_n 0, 95, 0, 0), (95, .getfield 148, 98, 11, 16), (98, .ifCond .le 10, 101, 108, 0), (101, .aload_n 0, 102, 0, 0), (102, .getfield 151, 105, 11, 17), (105, .goto 4, 108, 109, 0), (108, .iconst (-1), 109, 0, 0), (109, .iastore, 110, 0, 0), (110, .aload_n 0, 111, 0, 0), (111, .getfield 17, 114, 11, 3), (114, .iconst 0, 115, 0, 0), (115, .iaload, 116, 0, 0), (116, .ifCond .ne 7, 119, 123, 0), (119, .iconst 1, 120, 0, 0), (120, .goto 4, 123, 124, 0), (123, .iconst 0, 124, 0, 0), (124, .ireturn, 125, 0, 0)]
def kX12_readText : zM := (⟨"ReadAloudModel", "readText", "(I)Z"⟩, prog_14_method_31_code, 3, (some .boolean), 11, qX12_readText)
def qX12_store : List zE := [(0, .iconst 0, 1, 0, 0), (1, .istore 4, 3, 0, 0), (3, .iload 4, 5, 0, 0), (5, .iload_n 2, 6, 0, 0), (6, .if_icmp .ge 24, 9, 30, 0), (9, .aload_n 1, 10, 0, 0), (10, .iload_n 2, 11, 0, 0), (11, .iload_n 3, 12, 0, 0), (12, .imul, 13, 0, 0), (13, .iload 4, 15, 0, 0), (15, .iadd, 16, 0, 0), (16, .aload_n 0, 17, 0, 0), (17, .getfield 35, 20, 11, 18), (20, .iload 4, 22, 0, 0), (22, .iaload, 23, 0, 0), (23, .iastore, 24, 0, 0), (24, .iinc 4 1, 27, 0, 0), (27, .goto (-24), 30, 3, 0), (30, .return_, 31, 0, 0)]
def kX12_store : zM := (⟨"ReadAloudModel", "store", "([III)V"⟩, prog_14_method_32_code, 5, none, 11, qX12_store)
set_option maxRecDepth 200000 in
def qX12_text : List zE := [(0, .aload_n 0, 1, 0, 0), (1, .iconst 0, 2, 0, 0), (2, .putfield 107, 5, 11, 0), (5, .aload_n 0, 6, 0, 0), (6, .aload_n 0, 7, 0, 0), (7, .getfield 13, 10, 11, 2), (10, .iconst 0, 11, 0, 0), (11, .iaload, 12, 0, 0), (12, .putfield 125, 15, 11, 10), (15, .aload_n 0, 16, 0, 0), (16, .getfield 13, 19, 11, 2), (19, .iconst 0, 20, 0, 0), (20, .iconst 0, 21, 0, 0), (21, .iastore, 22, 0, 0), (22, .aload_n 0, 23, 0, 0), (23, .getfield 17, 26, 11, 3), (26, .iconst 0, 27, 0, 0), (27, .iconst 0, 28, 0, 0), (28, .iastore, 29, 0, 0), (29, .aload_n 0, 30, 0, 0), (30, .getfield 20, 33, 11, 4), (33, .iconst 0, 34, 0, 0), (34, .iconst (-1), 35, 0, 0), (35, .iastore, 36, 0, 0), (36, .iload_n 1, 37, 0, 0), (37, .iconst 0, 38, 0, 0), (38, .iconst 2, 39, 0, 0), (39, .invokestatic 114, 42, 181, 3), (42, .ifCond .eq 30, 45, 72, 0), (45, .iload_n 2, 46, 0, 0), (46, .iconst (-1), 47, 0, 0), (47, .if_icmp .ne 16, 50, 63, 0), (50, .aload_n 0, 51, 0, 0), (51, .getfield 23, 54, 11, 5), (54, .iload_n 1, 55, 0, 0), (55, .iaload, 56, 0, 0), (56, .iconst 2, 57, 0, 0), (57, .if_icmp .ne 18, 60, 75, 0), (60, .goto 12, 63, 72, 0), (63, .aload_n 0, 64, 0, 0), (64, .iload_n 1, 65, 0, 0), (65, .iload_n 2, 66, 0, 0), (66, .invokevirtual 249, 69, 187, 2), (69, .ifCond .ne 6, 72, 75, 0), (72, .bipush (-2), 74, 0, 0), (74, .ireturn, 75, 0, 0), (75, .aload_n 0, 76, 0, 0), (76, .iload_n 1, 77, 0, 0), (77, .invokevirtual 252, 80, 209, 1), (80, .ifCond .ne 5, 83, 85, 0), (83, .iconst (-1), 84, 0, 0), (84, .ireturn, 85, 0, 0), (85, .iload_n 2, 86, 0, 0), (86, .iconst (-1), 87, 0, 0), (87, .if_icmp .ne 12, 90, 99, 0), (90, .aload_n 0, 91, 0, 0), (91, .getfield 23, 94, 11, 5), (94, .iload_n 1, 95, 0, 0), (95, .iaload, 96, 0, 0), (96, .goto 4, 99, 100, 0), (99, .iload_n 2, 100, 0, 0), (100, .istore_n 3, 101, 0, 0), (101, .aload_n 0, 102, 0, 0), (102, .getfield 23, 105, 11, 5), (105, .iload_n 1, 106, 0, 0), (106, .dup2, 107, 0, 0), (107, .iaload, 108, 0, 0), (108, .iload_n 2, 109, 0, 0), (109, .iconst (-1), 110, 0, 0), (110, .if_icmp .ne 7, 113, 117, 0), (113, .iconst 1, 114, 0, 0), (114, .goto 4, 117, 118, 0), (117, .iconst 0, 118, 0, 0), (118, .iadd, 119, 0, 0), (119, .iastore, 120, 0, 0), (120, .iload_n 1, 121, 0, 0), (121, .ifCond .ne 22, 124, 143, 0), (124, .aload_n 0, 125, 0, 0), (125, .aload_n 0, 126, 0, 0), (126, .getfield 26, 129, 11, 6), (129, .bipush 51, 131, 0, 0), (131, .iload_n 3, 132, 0, 0), (132, .invokevirtual 255, 135, 210, 3), (135, .aload_n 0, 136, 0, 0), (136, .iconst (-1), 137, 0, 0), (137, .putfield 41, 140, 11, 21), (140, .goto 33, 143, 173, 0), (143, .iload_n 1, 144, 0, 0), (144, .iconst 1, 145, 0, 0), (145, .if_icmp .ne 17, 148, 162, 0), (148, .aload_n 0, 149, 0, 0), (149, .aload_n 0, 150, 0, 0), (150, .getfield 29, 153, 11, 7), (153, .bipush 121, 155, 0, 0), (155, .iload_n 3, 156, 0, 0), (156, .invokevirtual 255, 159, 210, 3), (159, .goto 14, 162, 173, 0), (162, .aload_n 0, 163, 0, 0), (163, .aload_n 0, 164, 0, 0), (164, .getfield 32, 167, 11, 8), (167, .bipush 13, 169, 0, 0), (169, .iload_n 3, 170, 0, 0), (170, .invokevirtual 255, 173, 210, 3), (173, .iload_n 3, 174, 0, 0), (174, .ireturn, 175, 0, 0)]
def kX12_text : zM := (⟨"ReadAloudModel", "text", "(II)I"⟩, prog_14_method_33_code, 4, (some .int), 11, qX12_text)
def qX12_fault : List zE := [(0, .aload_n 0, 1, 0, 0), (1, .iconst 0, 2, 0, 0), (2, .putfield 107, 5, 11, 0), (5, .iload_n 1, 6, 0, 0), (6, .ifCond .ne 12, 9, 18, 0), (9, .aload_n 0, 10, 0, 0), (10, .getfield 17, 13, 11, 3), (13, .iconst 0, 14, 0, 0), (14, .iaload, 15, 0, 0), (15, .goto 18, 18, 33, 0), (18, .iload_n 1, 19, 0, 0), (19, .iconst 1, 20, 0, 0), (20, .if_icmp .ne 12, 23, 32, 0), (23, .aload_n 0, 24, 0, 0), (24, .getfield 20, 27, 11, 4), (27, .iconst 0, 28, 0, 0), (28, .iaload, 29, 0, 0), (29, .goto 4, 32, 33, 0), (32, .iconst (-1), 33, 0, 0), (33, .ireturn, 34, 0, 0)]
def kX12_fault : zM := (⟨"ReadAloudModel", "fault", "(I)I"⟩, prog_14_method_34_code, 2, (some .int), 11, qX12_fault)
def qX12_of : List zE := [(0, .aload_n 0, 1, 0, 0), (1, .getfield 26, 4, 11, 6), (4, .bipush 51, 6, 0, 0), (6, .aload_n 0, 7, 0, 0), (7, .getfield 259, 10, 11, 20), (10, .imul, 11, 0, 0), (11, .iload_n 1, 12, 0, 0), (12, .iadd, 13, 0, 0), (13, .iaload, 14, 0, 0), (14, .ireturn, 15, 0, 0)]
def kX12_of : zM := (⟨"ReadAloudModel", "of", "(I)I"⟩, prog_14_method_35_code, 2, (some .int), 11, qX12_of)
def qX12_hand : List zE := [(0, .aload_n 0, 1, 0, 0), (1, .iconst 0, 2, 0, 0), (2, .iload_n 1, 3, 0, 0), (3, .invokevirtual 249, 6, 187, 2), (6, .ifCond .ne 5, 9, 11, 0), (9, .iconst 0, 10, 0, 0), (10, .ireturn, 11, 0, 0), (11, .aload_n 0, 12, 0, 0), (12, .iload_n 1, 13, 0, 0), (13, .putfield 259, 16, 11, 20), (16, .aload_n 0, 17, 0, 0), (17, .aload_n 0, 18, 0, 0), (18, .iconst 0, 19, 0, 0), (19, .invokevirtual 262, 22, 213, 1), (22, .putfield 265, 25, 11, 22), (25, .aload_n 0, 26, 0, 0), (26, .aload_n 0, 27, 0, 0), (27, .iconst 1, 28, 0, 0), (28, .invokevirtual 262, 31, 213, 1), (31, .putfield 268, 34, 11, 23), (34, .iconst 1, 35, 0, 0), (35, .ireturn, 36, 0, 0)]
def kX12_hand : zM := (⟨"ReadAloudModel", "hand", "(I)Z"⟩, prog_14_method_36_code, 2, (some .boolean), 11, qX12_hand)
def qX12_isText : List zE := [(0, .iload_n 0, 1, 0, 0), (1, .iconst 0, 2, 0, 0), (2, .sipush 5460, 5, 0, 0), (5, .invokestatic 114, 8, 181, 3), (8, .ireturn, 9, 0, 0)]
def kX12_isText : zM := (⟨"ReadAloudModel", "isText", "(I)Z"⟩, prog_14_method_37_code, 1, (some .boolean), 11, qX12_isText)
def qX12_isReader : List zE := [(0, .iload_n 1, 1, 0, 0), (1, .iconst 0, 2, 0, 0), (2, .aload_n 0, 3, 0, 0), (3, .getfield 268, 6, 11, 23), (6, .iconst 1, 7, 0, 0), (7, .isub, 8, 0, 0), (8, .invokestatic 114, 11, 181, 3), (11, .ireturn, 12, 0, 0)]
def kX12_isReader : zM := (⟨"ReadAloudModel", "isReader", "(I)Z"⟩, prog_14_method_38_code, 2, (some .boolean), 11, qX12_isReader)
def qX12_sizeOf : List zE := [(0, .iconst 0, 1, 0, 0), (1, .istore_n 1, 2, 0, 0), (2, .iload_n 1, 3, 0, 0), (3, .iconst 1, 4, 0, 0), (4, .iadd, 5, 0, 0), (5, .invokestatic 172, 8, 198, 1), (8, .iload_n 0, 9, 0, 0), (9, .if_icmp .gt 9, 12, 18, 0), (12, .iinc 1 1, 15, 0, 0), (15, .goto (-13), 18, 2, 0), (18, .iload_n 1, 19, 0, 0), (19, .ireturn, 20, 0, 0)]
def kX12_sizeOf : zM := (⟨"ReadAloudModel", "sizeOf", "(I)I"⟩, prog_14_method_39_code, 2, (some .int), 11, qX12_sizeOf)
def qX12_spell : List zE := [(0, .iload_n 0, 1, 0, 0), (1, .invokestatic 271, 4, 217, 1), (4, .istore_n 2, 5, 0, 0), (5, .iload_n 0, 6, 0, 0), (6, .iload_n 2, 7, 0, 0), (7, .invokestatic 172, 10, 198, 1), (10, .isub, 11, 0, 0), (11, .istore_n 3, 12, 0, 0), (12, .iload_n 2, 13, 0, 0), (13, .iconst 1, 14, 0, 0), (14, .isub, 15, 0, 0), (15, .istore 4, 17, 0, 0), (17, .iload 4, 19, 0, 0), (19, .ifCond .lt 20, 22, 39, 0), (22, .aload_n 1, 23, 0, 0), (23, .iload 4, 25, 0, 0), (25, .iload_n 3, 26, 0, 0), (26, .iconst 4, 27, 0, 0), (27, .irem, 28, 0, 0), (28, .iastore, 29, 0, 0), (29, .iload_n 3, 30, 0, 0), (30, .iconst 4, 31, 0, 0), (31, .idiv, 32, 0, 0), (32, .istore_n 3, 33, 0, 0), (33, .iinc 4 (-1), 36, 0, 0), (36, .goto (-19), 39, 17, 0), (39, .return_, 40, 0, 0)]
def kX12_spell : zM := (⟨"ReadAloudModel", "spell", "(I[I)V"⟩, prog_14_method_40_code, 5, none, 11, qX12_spell)
def qX12_numberOf : List zE := [(0, .iconst 0, 1, 0, 0), (1, .istore_n 2, 2, 0, 0), (2, .iconst 0, 3, 0, 0), (3, .istore_n 3, 4, 0, 0), (4, .iload_n 3, 5, 0, 0), (5, .iload_n 1, 6, 0, 0), (6, .if_icmp .ge 20, 9, 26, 0), (9, .iconst 4, 10, 0, 0), (10, .iload_n 2, 11, 0, 0), (11, .imul, 12, 0, 0), (12, .aload_n 0, 13, 0, 0), (13, .getfield 45, 16, 11, 24), (16, .iload_n 3, 17, 0, 0), (17, .iaload, 18, 0, 0), (18, .iadd, 19, 0, 0), (19, .istore_n 2, 20, 0, 0), (20, .iinc 3 1, 23, 0, 0), (23, .goto (-19), 26, 4, 0), (26, .iload_n 1, 27, 0, 0), (27, .invokestatic 172, 30, 198, 1), (30, .iload_n 2, 31, 0, 0), (31, .iadd, 32, 0, 0), (32, .ireturn, 33, 0, 0)]
def kX12_numberOf : zM := (⟨"ReadAloudModel", "numberOf", "(I)I"⟩, prog_14_method_41_code, 4, (some .int), 11, qX12_numberOf)
def qX12_shift : List zE := [(0, .iconst 0, 1, 0, 0), (1, .istore_n 2, 2, 0, 0), (2, .iload_n 2, 3, 0, 0), (3, .aload_n 0, 4, 0, 0), (4, .getfield 274, 7, 11, 26), (7, .if_icmp .ge 41, 10, 48, 0), (10, .aload_n 0, 11, 0, 0), (11, .getfield 45, 14, 11, 24), (14, .iload_n 2, 15, 0, 0), (15, .aload_n 0, 16, 0, 0), (16, .getfield 45, 19, 11, 24), (19, .iload_n 2, 20, 0, 0), (20, .iaload, 21, 0, 0), (21, .iload_n 1, 22, 0, 0), (22, .if_icmp .ne 13, 25, 35, 0), (25, .aload_n 0, 26, 0, 0), (26, .iconst 2, 27, 0, 0), (27, .iload_n 1, 28, 0, 0), (28, .iadd, 29, 0, 0), (29, .invokevirtual 262, 32, 213, 1), (32, .goto 9, 35, 41, 0), (35, .aload_n 0, 36, 0, 0), (36, .getfield 45, 39, 11, 24), (39, .iload_n 2, 40, 0, 0), (40, .iaload, 41, 0, 0), (41, .iastore, 42, 0, 0), (42, .iinc 2 1, 45, 0, 0), (45, .goto (-43), 48, 2, 0), (48, .return_, 49, 0, 0)]
def kX12_shift : zM := (⟨"ReadAloudModel", "shift", "(I)V"⟩, prog_14_method_42_code, 3, none, 11, qX12_shift)
def qX12_drop : List zE := [(0, .iload_n 1, 1, 0, 0), (1, .aload_n 0, 2, 0, 0), (2, .getfield 274, 5, 11, 26), (5, .if_icmp .gt 43, 8, 48, 0), (8, .iload_n 1, 9, 0, 0), (9, .istore_n 2, 10, 0, 0), (10, .iload_n 2, 11, 0, 0), (11, .aload_n 0, 12, 0, 0), (12, .getfield 274, 15, 11, 26), (15, .if_icmp .ge 23, 18, 38, 0), (18, .aload_n 0, 19, 0, 0), (19, .getfield 45, 22, 11, 24), (22, .iload_n 2, 23, 0, 0), (23, .iconst 1, 24, 0, 0), (24, .isub, 25, 0, 0), (25, .aload_n 0, 26, 0, 0), (26, .getfield 45, 29, 11, 24), (29, .iload_n 2, 30, 0, 0), (30, .iaload, 31, 0, 0), (31, .iastore, 32, 0, 0), (32, .iinc 2 1, 35, 0, 0), (35, .goto (-25), 38, 10, 0), (38, .aload_n 0, 39, 0, 0), (39, .dup, 40, 0, 0), (40, .getfield 274, 43, 11, 26), (43, .iconst 1, 44, 0, 0), (44, .isub, 45, 0, 0), (45, .putfield 274, 48, 11, 26), (48, .return_, 49, 0, 0)]
def kX12_drop : zM := (⟨"ReadAloudModel", "drop", "(I)V"⟩, prog_14_method_43_code, 3, none, 11, qX12_drop)
def qX12_twice : List zE := [(0, .iload_n 1, 1, 0, 0), (1, .aload_n 0, 2, 0, 0), (2, .getfield 274, 5, 11, 26), (5, .if_icmp .gt 52, 8, 57, 0), (8, .aload_n 0, 9, 0, 0), (9, .getfield 274, 12, 11, 26), (12, .bipush 6, 14, 0, 0), (14, .if_icmp .ge 43, 17, 57, 0), (17, .aload_n 0, 18, 0, 0), (18, .getfield 274, 21, 11, 26), (21, .istore_n 2, 22, 0, 0), (22, .iload_n 2, 23, 0, 0), (23, .iload_n 1, 24, 0, 0), (24, .if_icmp .lt 23, 27, 47, 0), (27, .aload_n 0, 28, 0, 0), (28, .getfield 45, 31, 11, 24), (31, .iload_n 2, 32, 0, 0), (32, .aload_n 0, 33, 0, 0), (33, .getfield 45, 36, 11, 24), (36, .iload_n 2, 37, 0, 0), (37, .iconst 1, 38, 0, 0), (38, .isub, 39, 0, 0), (39, .iaload, 40, 0, 0), (40, .iastore, 41, 0, 0), (41, .iinc 2 (-1), 44, 0, 0), (44, .goto (-22), 47, 22, 0), (47, .aload_n 0, 48, 0, 0), (48, .dup, 49, 0, 0), (49, .getfield 274, 52, 11, 26), (52, .iconst 1, 53, 0, 0), (53, .iadd, 54, 0, 0), (54, .putfield 274, 57, 11, 26), (57, .return_, 58, 0, 0)]
def kX12_twice : zM := (⟨"ReadAloudModel", "twice", "(I)V"⟩, prog_14_method_44_code, 3, none, 11, qX12_twice)
def qX12_swap : List zE := [(0, .aload_n 0, 1, 0, 0), (1, .getfield 45, 4, 11, 24), (4, .iload_n 1, 5, 0, 0), (5, .iaload, 6, 0, 0), (6, .istore_n 3, 7, 0, 0), (7, .aload_n 0, 8, 0, 0), (8, .getfield 45, 11, 11, 24), (11, .iload_n 1, 12, 0, 0), (12, .aload_n 0, 13, 0, 0), (13, .getfield 45, 16, 11, 24), (16, .iload_n 2, 17, 0, 0), (17, .iaload, 18, 0, 0), (18, .iastore, 19, 0, 0), (19, .aload_n 0, 20, 0, 0), (20, .getfield 45, 23, 11, 24), (23, .iload_n 2, 24, 0, 0), (24, .iload_n 3, 25, 0, 0), (25, .iastore, 26, 0, 0), (26, .return_, 27, 0, 0)]
def kX12_swap : zM := (⟨"ReadAloudModel", "swap", "(II)V"⟩, prog_14_method_45_code, 4, none, 11, qX12_swap)
def qX12_step : List zE := [(0, .iload_n 1, 1, 0, 0), (1, .tableswitch 66 0 3 #[31, 37, 43, 49], 32, 0, 0), (32, .aload_n 0, 33, 0, 0), (33, .iload_n 2, 34, 0, 0), (34, .invokevirtual 277, 37, 220, 1), (37, .return_, 38, 0, 0), (38, .aload_n 0, 39, 0, 0), (39, .iload_n 2, 40, 0, 0), (40, .invokevirtual 280, 43, 221, 1), (43, .return_, 44, 0, 0), (44, .aload_n 0, 45, 0, 0), (45, .iload_n 2, 46, 0, 0), (46, .invokevirtual 283, 49, 222, 1), (49, .return_, 50, 0, 0), (50, .iload_n 2, 51, 0, 0), (51, .aload_n 0, 52, 0, 0), (52, .getfield 274, 55, 11, 26), (55, .if_icmp .ge 11, 58, 66, 0), (58, .aload_n 0, 59, 0, 0), (59, .iload_n 2, 60, 0, 0), (60, .iconst 1, 61, 0, 0), (61, .isub, 62, 0, 0), (62, .iload_n 2, 63, 0, 0), (63, .invokevirtual 286, 66, 223, 2), (66, .return_, 67, 0, 0), (67, .iconst 0, 68, 0, 0), (68, .istore_n 3, 69, 0, 0), (69, .aload_n 0, 70, 0, 0), (70, .getfield 274, 73, 11, 26), (73, .iconst 1, 74, 0, 0), (74, .isub, 75, 0, 0), (75, .istore 4, 77, 0, 0), (77, .iload_n 3, 78, 0, 0), (78, .iload 4, 80, 0, 0), (80, .if_icmp .ge 19, 83, 99, 0), (83, .aload_n 0, 84, 0, 0), (84, .iload_n 3, 85, 0, 0), (85, .iload 4, 87, 0, 0), (87, .invokevirtual 286, 90, 223, 2), (90, .iinc 3 1, 93, 0, 0), (93, .iinc 4 (-1), 96, 0, 0), (96, .goto (-19), 99, 77, 0), (99, .return_, 100, 0, 0)]
def kX12_step : zM := (⟨"ReadAloudModel", "step", "(II)V"⟩, prog_14_method_46_code, 5, none, 11, qX12_step)
def qX12_readBy : List zE := [(0, .iload_n 1, 1, 0, 0), (1, .aload_n 0, 2, 0, 0), (2, .getfield 45, 5, 11, 24), (5, .invokestatic 289, 8, 218, 2), (8, .aload_n 0, 9, 0, 0), (9, .iload_n 1, 10, 0, 0), (10, .invokestatic 271, 13, 217, 1), (13, .putfield 274, 16, 11, 26), (16, .iconst 0, 17, 0, 0), (17, .istore_n 3, 18, 0, 0), (18, .iload_n 3, 19, 0, 0), (19, .aload_n 0, 20, 0, 0), (20, .bipush 6, 22, 0, 0), (22, .iload_n 2, 23, 0, 0), (23, .iadd, 24, 0, 0), (24, .invokevirtual 262, 27, 213, 1), (27, .if_icmp .ge 40, 30, 67, 0), (30, .bipush 11, 32, 0, 0), (32, .bipush 8, 34, 0, 0), (34, .iload_n 2, 35, 0, 0), (35, .imul, 36, 0, 0), (36, .iadd, 37, 0, 0), (37, .iconst 2, 38, 0, 0), (38, .iload_n 3, 39, 0, 0), (39, .imul, 40, 0, 0), (40, .iadd, 41, 0, 0), (41, .istore 4, 43, 0, 0), (43, .aload_n 0, 44, 0, 0), (44, .aload_n 0, 45, 0, 0), (45, .iload 4, 47, 0, 0), (47, .invokevirtual 262, 50, 213, 1), (50, .aload_n 0, 51, 0, 0), (51, .iload 4, 53, 0, 0), (53, .iconst 1, 54, 0, 0), (54, .iadd, 55, 0, 0), (55, .invokevirtual 262, 58, 213, 1), (58, .invokevirtual 293, 61, 224, 2), (61, .iinc 3 1, 64, 0, 0), (64, .goto (-46), 67, 18, 0), (67, .aload_n 0, 68, 0, 0), (68, .aload_n 0, 69, 0, 0), (69, .getfield 274, 72, 11, 26), (72, .invokevirtual 296, 75, 219, 1), (75, .ireturn, 76, 0, 0)]
def kX12_readBy : zM := (⟨"ReadAloudModel", "readBy", "(II)I"⟩, prog_14_method_47_code, 5, (some .int), 11, qX12_readBy)
set_option maxRecDepth 200000 in
def qX12_apart : List zE := [(0, .iload_n 1, 1, 0, 0), (1, .invokestatic 271, 4, 217, 1), (4, .istore_n 3, 5, 0, 0), (5, .iload_n 2, 6, 0, 0), (6, .invokestatic 271, 9, 217, 1), (9, .istore 4, 11, 0, 0), (11, .iload_n 1, 12, 0, 0), (12, .aload_n 0, 13, 0, 0), (13, .getfield 45, 16, 11, 24), (16, .invokestatic 289, 19, 218, 2), (19, .iload_n 2, 20, 0, 0), (20, .aload_n 0, 21, 0, 0), (21, .getfield 48, 24, 11, 25), (24, .invokestatic 289, 27, 218, 2), (27, .iconst 0, 28, 0, 0), (28, .istore 5, 30, 0, 0), (30, .iload 5, 32, 0, 0), (32, .iload_n 3, 33, 0, 0), (33, .if_icmp .gt 158, 36, 191, 0), (36, .iconst 0, 37, 0, 0), (37, .istore 6, 39, 0, 0), (39, .iload 6, 41, 0, 0), (41, .iload 4, 43, 0, 0), (43, .if_icmp .gt 142, 46, 185, 0), (46, .iload 5, 48, 0, 0), (48, .ifCond .ne 8, 51, 56, 0), (51, .iload 6, 53, 0, 0), (53, .goto 57, 56, 110, 0), (56, .iload 6, 58, 0, 0), (58, .ifCond .ne 8, 61, 66, 0), (61, .iload 5, 63, 0, 0), (63, .goto 47, 66, 110, 0), (66, .aload_n 0, 67, 0, 0), (67, .getfield 51, 70, 11, 27), (70, .bipush 7, 72, 0, 0), (72, .iload 5, 74, 0, 0), (74, .iconst 1, 75, 0, 0), (75, .isub, 76, 0, 0), (76, .imul, 77, 0, 0), (77, .iload 6, 79, 0, 0), (79, .iadd, 80, 0, 0), (80, .iconst 1, 81, 0, 0), (81, .isub, 82, 0, 0), (82, .iaload, 83, 0, 0), (83, .aload_n 0, 84, 0, 0), (84, .getfield 45, 87, 11, 24), (87, .iload 5, 89, 0, 0), (89, .iconst 1, 90, 0, 0), (90, .isub, 91, 0, 0), (91, .iaload, 92, 0, 0), (92, .aload_n 0, 93, 0, 0), (93, .getfield 48, 96, 11, 25), (96, .iload 6, 98, 0, 0), (98, .iconst 1, 99, 0, 0), (99, .isub, 100, 0, 0), (100, .iaload, 101, 0, 0), (101, .if_icmp .ne 7, 104, 108, 0), (104, .iconst 0, 105, 0, 0), (105, .goto 4, 108, 109, 0), (108, .iconst 1, 109, 0, 0), (109, .iadd, 110, 0, 0), (110, .istore 7, 112, 0, 0), (112, .iload 5, 114, 0, 0), (114, .ifCond .le 50, 117, 164, 0), (117, .iload 6, 119, 0, 0), (119, .ifCond .le 45, 122, 164, 0), (122, .iload 7, 124, 0, 0), (124, .iconst 1, 125, 0, 0), (125, .aload_n 0, 126, 0, 0), (126, .getfield 51, 129, 11, 27), (129, .bipush 7, 131, 0, 0), (131, .iload 5, 133, 0, 0), (133, .iconst 1, 134, 0, 0), (134, .isub, 135, 0, 0), (135, .imul, 136, 0, 0), (136, .iload 6, 138, 0, 0), (138, .iadd, 139, 0, 0), (139, .iaload, 140, 0, 0), (140, .aload_n 0, 141, 0, 0), (141, .getfield 51, 144, 11, 27), (144, .bipush 7, 146, 0, 0), (146, .iload 5, 148, 0, 0), (148, .imul, 149, 0, 0), (149, .iload 6, 151, 0, 0), (151, .iadd, 152, 0, 0), (152, .iconst 1, 153, 0, 0), (153, .isub, 154, 0, 0), (154, .iaload, 155, 0, 0), (155, .invokestatic 204, 158, 184, 2), (158, .iadd, 159, 0, 0), (159, .invokestatic 204, 162, 184, 2), (162, .istore 7, 164, 0, 0), (164, .aload_n 0, 165, 0, 0), (165, .getfield 51, 168, 11, 27), (168, .bipush 7, 170, 0, 0), (170, .iload 5, 172, 0, 0), (172, .imul, 173, 0, 0), (173, .iload 6, 175, 0, 0), (175, .iadd, 176, 0, 0), (176, .iload 7, 178, 0, 0), (178, .iastore, 179, 0, 0), (179, .iinc 6 1, 182, 0, 0), (182, .goto (-143), 185, 39, 0), (185, .iinc 5 1, 188, 0, 0), (188, .goto (-158), 191, 30, 0), (191, .aload_n 0, 192, 0, 0), (192, .getfield 51, 195, 11, 27), (195, .bipush 7, 197, 0, 0), (197, .iload_n 3, 198, 0, 0), (198, .imul, 199, 0, 0), (199, .iload 4, 201, 0, 0), (201, .iadd, 202, 0, 0), (202, .iaload, 203, 0, 0), (203, .ireturn, 204, 0, 0)]
def kX12_apart : zM := (⟨"ReadAloudModel", "apart", "(II)I"⟩, prog_14_method_48_code, 8, (some .int), 11, qX12_apart)
def qX12_book : List zE := [(0, .aload_n 0, 1, 0, 0), (1, .iconst 0, 2, 0, 0), (2, .putfield 107, 5, 11, 0), (5, .aload_n 0, 6, 0, 0), (6, .iload_n 1, 7, 0, 0), (7, .invokevirtual 299, 10, 214, 1), (10, .ifCond .ne 5, 13, 15, 0), (13, .iconst (-1), 14, 0, 0), (14, .ireturn, 15, 0, 0), (15, .iload_n 2, 16, 0, 0), (16, .bipush 10, 18, 0, 0), (18, .bipush 13, 20, 0, 0), (20, .invokestatic 114, 23, 181, 3), (23, .ifCond .eq 14, 26, 37, 0), (26, .aload_n 0, 27, 0, 0), (27, .iconst 2, 28, 0, 0), (28, .iload_n 2, 29, 0, 0), (29, .iadd, 30, 0, 0), (30, .bipush 10, 32, 0, 0), (32, .isub, 33, 0, 0), (33, .invokevirtual 262, 36, 213, 1), (36, .ireturn, 37, 0, 0), (37, .iload_n 2, 38, 0, 0), (38, .bipush 20, 40, 0, 0), (40, .bipush 19, 42, 0, 0), (42, .aload_n 0, 43, 0, 0), (43, .getfield 268, 46, 11, 23), (46, .iadd, 47, 0, 0), (47, .invokestatic 114, 50, 181, 3), (50, .ifCond .eq 15, 53, 65, 0), (53, .aload_n 0, 54, 0, 0), (54, .bipush 6, 56, 0, 0), (56, .iload_n 2, 57, 0, 0), (57, .iadd, 58, 0, 0), (58, .bipush 20, 60, 0, 0), (60, .isub, 61, 0, 0), (61, .invokevirtual 262, 64, 213, 1), (64, .ireturn, 65, 0, 0), (65, .iload_n 2, 66, 0, 0), (66, .bipush 30, 68, 0, 0), (68, .bipush 29, 70, 0, 0), (70, .bipush 10, 72, 0, 0), (72, .aload_n 0, 73, 0, 0), (73, .getfield 268, 76, 11, 23), (76, .imul, 77, 0, 0), (77, .iadd, 78, 0, 0), (78, .invokestatic 114, 81, 181, 3), (81, .ifCond .eq 51, 84, 132, 0), (84, .iload_n 2, 85, 0, 0), (85, .bipush 30, 87, 0, 0), (87, .isub, 88, 0, 0), (88, .bipush 10, 90, 0, 0), (90, .idiv, 91, 0, 0), (91, .istore_n 3, 92, 0, 0), (92, .iload_n 2, 93, 0, 0), (93, .bipush 10, 95, 0, 0), (95, .irem, 96, 0, 0), (96, .istore 4, 98, 0, 0), (98, .iload 4, 100, 0, 0), (100, .iconst 2, 101, 0, 0), (101, .aload_n 0, 102, 0, 0), (102, .bipush 6, 104, 0, 0), (104, .iload_n 3, 105, 0, 0), (105, .iadd, 106, 0, 0), (106, .invokevirtual 262, 109, 213, 1), (109, .imul, 110, 0, 0), (110, .if_icmp .ge 20, 113, 130, 0), (113, .aload_n 0, 114, 0, 0), (114, .bipush 11, 116, 0, 0), (116, .bipush 8, 118, 0, 0), (118, .iload_n 3, 119, 0, 0), (119, .imul, 120, 0, 0), (120, .iadd, 121, 0, 0), (121, .iload 4, 123, 0, 0), (123, .iadd, 124, 0, 0), (124, .invokevirtual 262, 127, 213, 1), (127, .goto 4, 130, 131, 0), (130, .iconst (-1), 131, 0, 0), (131, .ireturn, 132, 0, 0), (132, .iload_n 2, 133, 0, 0), (133, .ifCond .ne 10, 136, 143, 0), (136, .aload_n 0, 137, 0, 0), (137, .getfield 265, 140, 11, 22), (140, .goto 16, 143, 156, 0), (143, .iload_n 2, 144, 0, 0), (144, .iconst 1, 145, 0, 0), (145, .if_icmp .ne 10, 148, 155, 0), (148, .aload_n 0, 149, 0, 0), (149, .getfield 268, 152, 11, 23), (152, .goto 4, 155, 156, 0), (155, .iconst (-1), 156, 0, 0), (156, .ireturn, 157, 0, 0)]
def kX12_book : zM := (⟨"ReadAloudModel", "book", "(II)I"⟩, prog_14_method_49_code, 5, (some .int), 11, qX12_book)
def qX12_word : List zE := [(0, .aload_n 0, 1, 0, 0), (1, .iconst 0, 2, 0, 0), (2, .putfield 107, 5, 11, 0), (5, .iload_n 1, 6, 0, 0), (6, .invokestatic 302, 9, 215, 1), (9, .ifCond .eq 17, 12, 26, 0), (12, .iload_n 2, 13, 0, 0), (13, .iconst (-1), 14, 0, 0), (14, .iload_n 1, 15, 0, 0), (15, .invokestatic 271, 18, 217, 1), (18, .iconst 1, 19, 0, 0), (19, .isub, 20, 0, 0), (20, .invokestatic 114, 23, 181, 3), (23, .ifCond .ne 5, 26, 28, 0), (26, .iconst (-1), 27, 0, 0), (27, .ireturn, 28, 0, 0), (28, .iload_n 1, 29, 0, 0), (29, .aload_n 0, 30, 0, 0), (30, .getfield 45, 33, 11, 24), (33, .invokestatic 289, 36, 218, 2), (36, .iload_n 2, 37, 0, 0), (37, .iconst (-1), 38, 0, 0), (38, .if_icmp .ne 10, 41, 48, 0), (41, .iload_n 1, 42, 0, 0), (42, .invokestatic 271, 45, 217, 1), (45, .goto 9, 48, 54, 0), (48, .aload_n 0, 49, 0, 0), (49, .getfield 45, 52, 11, 24), (52, .iload_n 2, 53, 0, 0), (53, .iaload, 54, 0, 0), (54, .ireturn, 55, 0, 0)]
def kX12_word : zM := (⟨"ReadAloudModel", "word", "(II)I"⟩, prog_14_method_50_code, 3, (some .int), 11, qX12_word)
def qX12_drift : List zE := [(0, .aload_n 0, 1, 0, 0), (1, .iconst 0, 2, 0, 0), (2, .putfield 107, 5, 11, 0), (5, .iload_n 1, 6, 0, 0), (6, .invokestatic 302, 9, 215, 1), (9, .ifCond .eq 19, 12, 28, 0), (12, .iload_n 2, 13, 0, 0), (13, .invokestatic 302, 16, 215, 1), (16, .ifCond .eq 12, 19, 28, 0), (19, .aload_n 0, 20, 0, 0), (20, .iload_n 1, 21, 0, 0), (21, .iload_n 2, 22, 0, 0), (22, .invokevirtual 305, 25, 226, 2), (25, .goto 4, 28, 29, 0), (28, .iconst (-1), 29, 0, 0), (29, .ireturn, 30, 0, 0)]
def kX12_drift : zM := (⟨"ReadAloudModel", "drift", "(II)I"⟩, prog_14_method_51_code, 3, (some .int), 11, qX12_drift)
def qX12_read : List zE := [(0, .aload_n 0, 1, 0, 0), (1, .iconst 0, 2, 0, 0), (2, .putfield 107, 5, 11, 0), (5, .aload_n 0, 6, 0, 0), (6, .iload_n 1, 7, 0, 0), (7, .invokevirtual 299, 10, 214, 1), (10, .ifCond .eq 27, 13, 37, 0), (13, .iload_n 2, 14, 0, 0), (14, .invokestatic 302, 17, 215, 1), (17, .ifCond .eq 20, 20, 37, 0), (20, .aload_n 0, 21, 0, 0), (21, .iload_n 3, 22, 0, 0), (22, .invokevirtual 308, 25, 216, 1), (25, .ifCond .eq 12, 28, 37, 0), (28, .aload_n 0, 29, 0, 0), (29, .iload_n 2, 30, 0, 0), (30, .iload_n 3, 31, 0, 0), (31, .invokevirtual 311, 34, 225, 2), (34, .goto 4, 37, 38, 0), (37, .iconst (-1), 38, 0, 0), (38, .ireturn, 39, 0, 0)]
def kX12_read : zM := (⟨"ReadAloudModel", "read", "(III)I"⟩, prog_14_method_52_code, 4, (some .int), 11, qX12_read)
def qX12_deeds : List zE := [(0, .aload_n 0, 1, 0, 0), (1, .getfield 29, 4, 11, 7), (4, .bipush 121, 6, 0, 0), (6, .aload_n 0, 7, 0, 0), (7, .getfield 314, 10, 11, 28), (10, .imul, 11, 0, 0), (11, .iaload, 12, 0, 0), (12, .ireturn, 13, 0, 0)]
def kX12_deeds : zM := (⟨"ReadAloudModel", "deeds", "()I"⟩, prog_14_method_53_code, 1, (some .int), 11, qX12_deeds)
def qX12_deedOf : List zE := [(0, .aload_n 0, 1, 0, 0), (1, .getfield 29, 4, 11, 7), (4, .bipush 121, 6, 0, 0), (6, .aload_n 0, 7, 0, 0), (7, .getfield 314, 10, 11, 28), (10, .imul, 11, 0, 0), (11, .iconst 1, 12, 0, 0), (12, .iadd, 13, 0, 0), (13, .iconst 3, 14, 0, 0), (14, .iload_n 1, 15, 0, 0), (15, .imul, 16, 0, 0), (16, .iadd, 17, 0, 0), (17, .iload_n 2, 18, 0, 0), (18, .iadd, 19, 0, 0), (19, .iaload, 20, 0, 0), (20, .ireturn, 21, 0, 0)]
def kX12_deedOf : zM := (⟨"ReadAloudModel", "deedOf", "(II)I"⟩, prog_14_method_54_code, 3, (some .int), 11, qX12_deedOf)
def qX12_hasYear : List zE := [(0, .aload_n 0, 1, 0, 0), (1, .iload_n 1, 2, 0, 0), (2, .putfield 314, 5, 11, 28), (5, .aload_n 0, 6, 0, 0), (6, .iconst 1, 7, 0, 0), (7, .iload_n 1, 8, 0, 0), (8, .invokevirtual 249, 11, 187, 2), (11, .ireturn, 12, 0, 0)]
def kX12_hasYear : zM := (⟨"ReadAloudModel", "hasYear", "(I)Z"⟩, prog_14_method_55_code, 2, (some .boolean), 11, qX12_hasYear)
def qX12_deed : List zE := [(0, .aload_n 0, 1, 0, 0), (1, .iconst 0, 2, 0, 0), (2, .putfield 107, 5, 11, 0), (5, .aload_n 0, 6, 0, 0), (6, .iload_n 1, 7, 0, 0), (7, .invokevirtual 317, 10, 233, 1), (10, .ifCond .ne 6, 13, 16, 0), (13, .bipush (-2), 15, 0, 0), (15, .ireturn, 16, 0, 0), (16, .iload_n 2, 17, 0, 0), (17, .iconst (-1), 18, 0, 0), (18, .if_icmp .ne 17, 21, 35, 0), (21, .iload_n 3, 22, 0, 0), (22, .ifCond .ne 10, 25, 32, 0), (25, .aload_n 0, 26, 0, 0), (26, .invokevirtual 320, 29, 231, 0), (29, .goto 5, 32, 34, 0), (32, .bipush (-2), 34, 0, 0), (34, .ireturn, 35, 0, 0), (35, .iload_n 2, 36, 0, 0), (36, .iconst 0, 37, 0, 0), (37, .aload_n 0, 38, 0, 0), (38, .invokevirtual 320, 41, 231, 0), (41, .iconst 1, 42, 0, 0), (42, .isub, 43, 0, 0), (43, .invokestatic 114, 46, 181, 3), (46, .ifCond .eq 21, 49, 67, 0), (49, .iload_n 3, 50, 0, 0), (50, .iconst 0, 51, 0, 0), (51, .iconst 2, 52, 0, 0), (52, .invokestatic 114, 55, 181, 3), (55, .ifCond .eq 12, 58, 67, 0), (58, .aload_n 0, 59, 0, 0), (59, .iload_n 2, 60, 0, 0), (60, .iload_n 3, 61, 0, 0), (61, .invokevirtual 323, 64, 232, 2), (64, .goto 5, 67, 69, 0), (67, .bipush (-2), 69, 0, 0), (69, .ireturn, 70, 0, 0)]
def kX12_deed : zM := (⟨"ReadAloudModel", "deed", "(III)I"⟩, prog_14_method_56_code, 4, (some .int), 11, qX12_deed)
def qX12_begin : List zE := [(0, .iconst 0, 1, 0, 0), (1, .istore_n 1, 2, 0, 0), (2, .iload_n 1, 3, 0, 0), (3, .iconst 4, 4, 0, 0), (4, .if_icmp .ge 19, 7, 23, 0), (7, .aload_n 0, 8, 0, 0), (8, .getfield 54, 11, 11, 29), (11, .iload_n 1, 12, 0, 0), (12, .aload_n 0, 13, 0, 0), (13, .getfield 265, 16, 11, 22), (16, .iastore, 17, 0, 0), (17, .iinc 1 1, 20, 0, 0), (20, .goto (-18), 23, 2, 0), (23, .iconst 0, 24, 0, 0), (24, .istore_n 1, 25, 0, 0), (25, .iload_n 1, 26, 0, 0), (26, .iconst 5, 27, 0, 0), (27, .if_icmp .ge 16, 30, 43, 0), (30, .aload_n 0, 31, 0, 0), (31, .getfield 57, 34, 11, 30), (34, .iload_n 1, 35, 0, 0), (35, .iconst 0, 36, 0, 0), (36, .iastore, 37, 0, 0), (37, .iinc 1 1, 40, 0, 0), (40, .goto (-15), 43, 25, 0), (43, .aload_n 0, 44, 0, 0), (44, .iconst 0, 45, 0, 0), (45, .putfield 326, 48, 11, 31), (48, .aload_n 0, 49, 0, 0), (49, .iconst 0, 50, 0, 0), (50, .putfield 329, 53, 11, 32), (53, .aload_n 0, 54, 0, 0), (54, .iconst 0, 55, 0, 0), (55, .putfield 332, 58, 11, 33), (58, .return_, 59, 0, 0)]
def kX12_begin : zM := (⟨"ReadAloudModel", "begin", "()V"⟩, prog_14_method_57_code, 2, none, 11, qX12_begin)
def qX12_reads : List zE := [(0, .aload_n 0, 1, 0, 0), (1, .iload_n 2, 2, 0, 0), (2, .invokevirtual 308, 5, 216, 1), (5, .ifCond .ne 5, 8, 10, 0), (8, .iconst 0, 9, 0, 0), (9, .ireturn, 10, 0, 0), (10, .aload_n 0, 11, 0, 0), (11, .getfield 54, 14, 11, 29), (14, .iload_n 1, 15, 0, 0), (15, .aload_n 0, 16, 0, 0), (16, .getfield 332, 19, 11, 33), (19, .iload_n 1, 20, 0, 0), (20, .invokestatic 335, 23, 182, 2), (23, .ifCond .eq 12, 26, 35, 0), (26, .aload_n 0, 27, 0, 0), (27, .getfield 54, 30, 11, 29), (30, .iload_n 1, 31, 0, 0), (31, .iaload, 32, 0, 0), (32, .goto 14, 35, 46, 0), (35, .aload_n 0, 36, 0, 0), (36, .aload_n 0, 37, 0, 0), (37, .getfield 54, 40, 11, 29), (40, .iload_n 1, 41, 0, 0), (41, .iaload, 42, 0, 0), (42, .iload_n 2, 43, 0, 0), (43, .invokevirtual 311, 46, 225, 2), (46, .iastore, 47, 0, 0), (47, .aload_n 0, 48, 0, 0), (48, .dup, 49, 0, 0), (49, .getfield 332, 52, 11, 33), (52, .iconst 1, 53, 0, 0), (53, .iload_n 1, 54, 0, 0), (54, .ishl, 55, 0, 0), (55, .iconst (-1), 56, 0, 0), (56, .ixor, 57, 0, 0), (57, .iand, 58, 0, 0), (58, .putfield 332, 61, 11, 33), (61, .aload_n 0, 62, 0, 0), (62, .getfield 57, 65, 11, 30), (65, .iload_n 2, 66, 0, 0), (66, .dup2, 67, 0, 0), (67, .iaload, 68, 0, 0), (68, .iconst 1, 69, 0, 0), (69, .iadd, 70, 0, 0), (70, .iastore, 71, 0, 0), (71, .iconst 1, 72, 0, 0), (72, .ireturn, 73, 0, 0)]
def kX12_reads : zM := (⟨"ReadAloudModel", "reads", "(II)Z"⟩, prog_14_method_58_code, 3, (some .boolean), 11, qX12_reads)
def qX12_hushes : List zE := [(0, .aload_n 0, 1, 0, 0), (1, .getfield 332, 4, 11, 33), (4, .iload_n 1, 5, 0, 0), (5, .invokestatic 335, 8, 182, 2), (8, .ifCond .ne 7, 11, 15, 0), (11, .iconst 1, 12, 0, 0), (12, .goto 4, 15, 16, 0), (15, .iconst 0, 16, 0, 0), (16, .istore_n 2, 17, 0, 0), (17, .aload_n 0, 18, 0, 0), (18, .dup, 19, 0, 0), (19, .getfield 332, 22, 11, 33), (22, .iconst 1, 23, 0, 0), (23, .iload_n 1, 24, 0, 0), (24, .ishl, 25, 0, 0), (25, .ior, 26, 0, 0), (26, .putfield 332, 29, 11, 33), (29, .iload_n 2, 30, 0, 0), (30, .ireturn, 31, 0, 0)]
def kX12_hushes : zM := (⟨"ReadAloudModel", "hushes", "(I)Z"⟩, prog_14_method_59_code, 3, (some .boolean), 11, qX12_hushes)
def qX12_goesOn : List zE := [(0, .aload_n 0, 1, 0, 0), (1, .getfield 326, 4, 11, 31), (4, .bipush 99, 6, 0, 0), (6, .if_icmp .ge 7, 9, 13, 0), (9, .iconst 1, 10, 0, 0), (10, .goto 4, 13, 14, 0), (13, .iconst 0, 14, 0, 0), (14, .istore_n 1, 15, 0, 0), (15, .aload_n 0, 16, 0, 0), (16, .dup, 17, 0, 0), (17, .getfield 326, 20, 11, 31), (20, .iload_n 1, 21, 0, 0), (21, .ifCond .eq 7, 24, 28, 0), (24, .iconst 1, 25, 0, 0), (25, .goto 4, 28, 29, 0), (28, .iconst 0, 29, 0, 0), (29, .iadd, 30, 0, 0), (30, .putfield 326, 33, 11, 31), (33, .iload_n 1, 34, 0, 0), (34, .ireturn, 35, 0, 0)]
def kX12_goesOn : zM := (⟨"ReadAloudModel", "goesOn", "()Z"⟩, prog_14_method_60_code, 2, (some .boolean), 11, qX12_goesOn)
def qX12_does : List zE := [(0, .aload_n 0, 1, 0, 0), (1, .iload_n 1, 2, 0, 0), (2, .iconst 1, 3, 0, 0), (3, .invokevirtual 323, 6, 232, 2), (6, .istore_n 2, 7, 0, 0), (7, .aload_n 0, 8, 0, 0), (8, .iload_n 1, 9, 0, 0), (9, .iconst 0, 10, 0, 0), (10, .invokevirtual 323, 13, 232, 2), (13, .tableswitch 120 0 4 #[35, 47, 66, 73, 114], 48, 0, 0), (48, .aload_n 0, 49, 0, 0), (49, .iload_n 2, 50, 0, 0), (50, .aload_n 0, 51, 0, 0), (51, .iload_n 1, 52, 0, 0), (52, .iconst 2, 53, 0, 0), (53, .invokevirtual 323, 56, 232, 2), (56, .invokevirtual 338, 59, 236, 2), (59, .ireturn, 60, 0, 0), (60, .aload_n 0, 61, 0, 0), (61, .getfield 54, 64, 11, 29), (64, .aload_n 0, 65, 0, 0), (65, .iload_n 1, 66, 0, 0), (66, .iconst 2, 67, 0, 0), (67, .invokevirtual 323, 70, 232, 2), (70, .aload_n 0, 71, 0, 0), (71, .getfield 54, 74, 11, 29), (74, .iload_n 2, 75, 0, 0), (75, .iaload, 76, 0, 0), (76, .iastore, 77, 0, 0), (77, .iconst 1, 78, 0, 0), (78, .ireturn, 79, 0, 0), (79, .aload_n 0, 80, 0, 0), (80, .iload_n 2, 81, 0, 0), (81, .putfield 329, 84, 11, 32), (84, .iconst 1, 85, 0, 0), (85, .ireturn, 86, 0, 0), (86, .aload_n 0, 87, 0, 0), (87, .getfield 54, 90, 11, 29), (90, .iload_n 2, 91, 0, 0), (91, .iload_n 2, 92, 0, 0), (92, .aload_n 0, 93, 0, 0), (93, .getfield 329, 96, 11, 32), (96, .if_icmp .ne 12, 99, 108, 0), (99, .aload_n 0, 100, 0, 0), (100, .getfield 54, 103, 11, 29), (103, .iload_n 2, 104, 0, 0), (104, .iaload, 105, 0, 0), (105, .goto 7, 108, 112, 0), (108, .aload_n 0, 109, 0, 0), (109, .getfield 265, 112, 11, 22), (112, .iastore, 113, 0, 0), (113, .iload_n 2, 114, 0, 0), (114, .aload_n 0, 115, 0, 0), (115, .getfield 329, 118, 11, 32), (118, .if_icmp .eq 7, 121, 125, 0), (121, .iconst 1, 122, 0, 0), (122, .goto 4, 125, 126, 0), (125, .iconst 0, 126, 0, 0), (126, .ireturn, 127, 0, 0), (127, .aload_n 0, 128, 0, 0), (128, .iload_n 2, 129, 0, 0), (129, .invokevirtual 341, 132, 237, 1), (132, .ireturn, 133, 0, 0), (133, .aload_n 0, 134, 0, 0), (134, .invokevirtual 344, 137, 238, 0), (137, .ireturn, 138, 0, 0)]
def kX12_does : zM := (⟨"ReadAloudModel", "does", "(I)Z"⟩, prog_14_method_61_code, 3, (some .boolean), 11, qX12_does)
def qX12_play : List zE := [(0, .aload_n 0, 1, 0, 0), (1, .invokevirtual 347, 4, 235, 0), (4, .iconst 0, 5, 0, 0), (5, .istore_n 2, 6, 0, 0), (6, .iload_n 2, 7, 0, 0), (7, .iload_n 1, 8, 0, 0), (8, .if_icmp .ge 17, 11, 25, 0), (11, .aload_n 0, 12, 0, 0), (12, .iload_n 2, 13, 0, 0), (13, .invokevirtual 350, 16, 239, 1), (16, .ifCond .eq 9, 19, 25, 0), (19, .iinc 2 1, 22, 0, 0), (22, .goto (-16), 25, 6, 0), (25, .iload_n 2, 26, 0, 0), (26, .ireturn, 27, 0, 0)]
def kX12_play : zM := (⟨"ReadAloudModel", "play", "(I)I"⟩, prog_14_method_62_code, 3, (some .int), 11, qX12_play)
def qX12_layAll : List zE := [(0, .aload_n 0, 1, 0, 0), (1, .iload_n 2, 2, 0, 0), (2, .invokevirtual 317, 5, 233, 1), (5, .ifCond .eq 15, 8, 20, 0), (8, .aload_n 0, 9, 0, 0), (9, .iload_n 1, 10, 0, 0), (10, .invokevirtual 299, 13, 214, 1), (13, .ifCond .eq 7, 16, 20, 0), (16, .iconst 1, 17, 0, 0), (17, .goto 4, 20, 21, 0), (20, .iconst 0, 21, 0, 0), (21, .ireturn, 22, 0, 0)]
def kX12_layAll : zM := (⟨"ReadAloudModel", "layAll", "(II)Z"⟩, prog_14_method_63_code, 3, (some .boolean), 11, qX12_layAll)
def qX12_stop : List zE := [(0, .aload_n 0, 1, 0, 0), (1, .iconst 0, 2, 0, 0), (2, .putfield 107, 5, 11, 0), (5, .aload_n 0, 6, 0, 0), (6, .iload_n 1, 7, 0, 0), (7, .iload_n 2, 8, 0, 0), (8, .invokevirtual 353, 11, 241, 2), (11, .ifCond .eq 14, 14, 25, 0), (14, .aload_n 0, 15, 0, 0), (15, .aload_n 0, 16, 0, 0), (16, .invokevirtual 320, 19, 231, 0), (19, .invokevirtual 356, 22, 240, 1), (22, .goto 4, 25, 26, 0), (25, .iconst (-1), 26, 0, 0), (26, .ireturn, 27, 0, 0)]
def kX12_stop : zM := (⟨"ReadAloudModel", "stop", "(II)I"⟩, prog_14_method_64_code, 3, (some .int), 11, qX12_stop)
set_option maxRecDepth 200000 in
def qX12_ofState : List zE := [(0, .iload_n 1, 1, 0, 0), (1, .bipush 10, 3, 0, 0), (3, .bipush 13, 5, 0, 0), (5, .invokestatic 114, 8, 181, 3), (8, .ifCond .eq 13, 11, 21, 0), (11, .aload_n 0, 12, 0, 0), (12, .getfield 54, 15, 11, 29), (15, .iload_n 1, 16, 0, 0), (16, .bipush 10, 18, 0, 0), (18, .isub, 19, 0, 0), (19, .iaload, 20, 0, 0), (20, .ireturn, 21, 0, 0), (21, .iload_n 1, 22, 0, 0), (22, .bipush 20, 24, 0, 0), (24, .bipush 19, 26, 0, 0), (26, .aload_n 0, 27, 0, 0), (27, .getfield 268, 30, 11, 23), (30, .iadd, 31, 0, 0), (31, .invokestatic 114, 34, 181, 3), (34, .ifCond .eq 13, 37, 47, 0), (37, .aload_n 0, 38, 0, 0), (38, .getfield 57, 41, 11, 30), (41, .iload_n 1, 42, 0, 0), (42, .bipush 20, 44, 0, 0), (44, .isub, 45, 0, 0), (45, .iaload, 46, 0, 0), (46, .ireturn, 47, 0, 0), (47, .iconst 0, 48, 0, 0), (48, .istore_n 2, 49, 0, 0), (49, .iconst 0, 50, 0, 0), (50, .istore_n 3, 51, 0, 0), (51, .iconst 0, 52, 0, 0), (52, .istore 4, 54, 0, 0), (54, .iload 4, 56, 0, 0), (56, .iconst 4, 57, 0, 0), (57, .if_icmp .ge 75, 60, 132, 0), (60, .iload_n 2, 61, 0, 0), (61, .aload_n 0, 62, 0, 0), (62, .getfield 54, 65, 11, 29), (65, .iload 4, 67, 0, 0), (67, .iaload, 68, 0, 0), (68, .aload_n 0, 69, 0, 0), (69, .getfield 54, 72, 11, 29), (72, .aload_n 0, 73, 0, 0), (73, .getfield 329, 76, 11, 32), (76, .iaload, 77, 0, 0), (77, .if_icmp .eq 7, 80, 84, 0), (80, .iconst 1, 81, 0, 0), (81, .goto 4, 84, 85, 0), (84, .iconst 0, 85, 0, 0), (85, .iadd, 86, 0, 0), (86, .istore_n 2, 87, 0, 0), (87, .aload_n 0, 88, 0, 0), (88, .aload_n 0, 89, 0, 0), (89, .getfield 54, 92, 11, 29), (92, .iload 4, 94, 0, 0), (94, .iaload, 95, 0, 0), (95, .aload_n 0, 96, 0, 0), (96, .getfield 265, 99, 11, 22), (99, .invokevirtual 305, 102, 226, 2), (102, .aload_n 0, 103, 0, 0), (103, .aload_n 0, 104, 0, 0), (104, .getfield 54, 107, 11, 29), (107, .iload_n 3, 108, 0, 0), (108, .iaload, 109, 0, 0), (109, .aload_n 0, 110, 0, 0), (110, .getfield 265, 113, 11, 22), (113, .invokevirtual 305, 116, 226, 2), (116, .if_icmp .le 8, 119, 124, 0), (119, .iload 4, 121, 0, 0), (121, .goto 4, 124, 125, 0), (124, .iload_n 3, 125, 0, 0), (125, .istore_n 3, 126, 0, 0), (126, .iinc 4 1, 129, 0, 0), (129, .goto (-75), 132, 54, 0), (132, .iload_n 1, 133, 0, 0), (133, .tableswitch 73 0 5 #[39, 44, 49, 51, 53, 68], 172, 0, 0), (172, .aload_n 0, 173, 0, 0), (173, .getfield 326, 176, 11, 31), (176, .ireturn, 177, 0, 0), (177, .aload_n 0, 178, 0, 0), (178, .getfield 329, 181, 11, 32), (181, .ireturn, 182, 0, 0), (182, .iload_n 2, 183, 0, 0), (183, .ireturn, 184, 0, 0), (184, .iload_n 3, 185, 0, 0), (185, .ireturn, 186, 0, 0), (186, .aload_n 0, 187, 0, 0), (187, .aload_n 0, 188, 0, 0), (188, .getfield 54, 191, 11, 29), (191, .iload_n 3, 192, 0, 0), (192, .iaload, 193, 0, 0), (193, .aload_n 0, 194, 0, 0), (194, .getfield 265, 197, 11, 22), (197, .invokevirtual 305, 200, 226, 2), (200, .ireturn, 201, 0, 0), (201, .aload_n 0, 202, 0, 0), (202, .getfield 332, 205, 11, 33), (205, .ireturn, 206, 0, 0), (206, .bipush (-2), 208, 0, 0), (208, .ireturn, 209, 0, 0)]
def kX12_ofState : zM := (⟨"ReadAloudModel", "ofState", "(I)I"⟩, prog_14_method_65_code, 5, (some .int), 11, qX12_ofState)
def qX12_state : List zE := [(0, .aload_n 0, 1, 0, 0), (1, .iconst 0, 2, 0, 0), (2, .putfield 107, 5, 11, 0), (5, .aload_n 0, 6, 0, 0), (6, .iload_n 1, 7, 0, 0), (7, .iload_n 2, 8, 0, 0), (8, .invokevirtual 353, 11, 241, 2), (11, .ifCond .eq 33, 14, 44, 0), (14, .iload_n 3, 15, 0, 0), (15, .iconst 0, 16, 0, 0), (16, .aload_n 0, 17, 0, 0), (17, .invokevirtual 320, 20, 231, 0), (20, .invokestatic 114, 23, 181, 3), (23, .ifCond .eq 21, 26, 44, 0), (26, .aload_n 0, 27, 0, 0), (27, .iload_n 3, 28, 0, 0), (28, .invokevirtual 356, 31, 240, 1), (31, .iload_n 3, 32, 0, 0), (32, .if_icmp .ne 12, 35, 44, 0), (35, .aload_n 0, 36, 0, 0), (36, .iload 4, 38, 0, 0), (38, .invokevirtual 359, 41, 243, 1), (41, .goto 5, 44, 46, 0), (44, .bipush (-2), 46, 0, 0), (46, .ireturn, 47, 0, 0)]
def kX12_state : zM := (⟨"ReadAloudModel", "state", "(IIII)I"⟩, prog_14_method_66_code, 5, (some .int), 11, qX12_state)
def qX12_layMade : List zE := [(0, .iconst 0, 1, 0, 0), (1, .istore_n 1, 2, 0, 0), (2, .iload_n 1, 3, 0, 0), (3, .aload_n 0, 4, 0, 0), (4, .getfield 268, 7, 11, 23), (7, .if_icmp .ge 53, 10, 60, 0), (10, .aload_n 0, 11, 0, 0), (11, .getfield 41, 14, 11, 21), (14, .aload_n 0, 15, 0, 0), (15, .getfield 259, 18, 11, 20), (18, .if_icmp .eq 42, 21, 60, 0), (21, .iconst 0, 22, 0, 0), (22, .istore_n 2, 23, 0, 0), (23, .iload_n 2, 24, 0, 0), (24, .sipush 5461, 27, 0, 0), (27, .if_icmp .ge 27, 30, 54, 0), (30, .aload_n 0, 31, 0, 0), (31, .getfield 60, 34, 11, 34), (34, .sipush 5461, 37, 0, 0), (37, .iload_n 1, 38, 0, 0), (38, .imul, 39, 0, 0), (39, .iload_n 2, 40, 0, 0), (40, .iadd, 41, 0, 0), (41, .aload_n 0, 42, 0, 0), (42, .iload_n 2, 43, 0, 0), (43, .iload_n 1, 44, 0, 0), (44, .invokevirtual 311, 47, 225, 2), (47, .iastore, 48, 0, 0), (48, .iinc 2 1, 51, 0, 0), (51, .goto (-28), 54, 23, 0), (54, .iinc 1 1, 57, 0, 0), (57, .goto (-55), 60, 2, 0), (60, .aload_n 0, 61, 0, 0), (61, .aload_n 0, 62, 0, 0), (62, .getfield 259, 65, 11, 20), (65, .putfield 41, 68, 11, 21), (68, .return_, 69, 0, 0)]
def kX12_layMade : zM := (⟨"ReadAloudModel", "layMade", "()V"⟩, prog_14_method_67_code, 3, none, 11, qX12_layMade)
def qX12_handAll : List zE := [(0, .aload_n 0, 1, 0, 0), (1, .iload_n 1, 2, 0, 0), (2, .invokevirtual 299, 5, 214, 1), (5, .ifCond .ne 5, 8, 10, 0), (8, .iconst 0, 9, 0, 0), (9, .ireturn, 10, 0, 0), (10, .aload_n 0, 11, 0, 0), (11, .invokevirtual 362, 14, 245, 0), (14, .iconst 1, 15, 0, 0), (15, .ireturn, 16, 0, 0)]
def kX12_handAll : zM := (⟨"ReadAloudModel", "handAll", "(I)Z"⟩, prog_14_method_68_code, 2, (some .boolean), 11, qX12_handAll)
def qX12_findFar : List zE := [(0, .iconst 0, 1, 0, 0), (1, .istore 4, 3, 0, 0), (3, .iload 4, 5, 0, 0), (5, .sipush 5461, 8, 0, 0), (8, .if_icmp .ge 16, 11, 24, 0), (11, .aload_n 3, 12, 0, 0), (12, .iload 4, 14, 0, 0), (14, .ldc_w 365, 17, 1000000, 0), (17, .iastore, 18, 0, 0), (18, .iinc 4 1, 21, 0, 0), (21, .goto (-18), 24, 3, 0), (24, .aload_n 3, 25, 0, 0), (25, .iload_n 1, 26, 0, 0), (26, .iconst 0, 27, 0, 0), (27, .iastore, 28, 0, 0), (28, .aload_n 0, 29, 0, 0), (29, .getfield 69, 32, 11, 37), (32, .iconst 0, 33, 0, 0), (33, .iload_n 1, 34, 0, 0), (34, .iastore, 35, 0, 0), (35, .aload_n 0, 36, 0, 0), (36, .iconst 1, 37, 0, 0), (37, .putfield 366, 40, 11, 38), (40, .iconst 0, 41, 0, 0), (41, .istore 4, 43, 0, 0), (43, .iload 4, 45, 0, 0), (45, .aload_n 0, 46, 0, 0), (46, .getfield 366, 49, 11, 38), (49, .if_icmp .ge 103, 52, 152, 0), (52, .iconst 0, 53, 0, 0), (53, .istore 5, 55, 0, 0), (55, .iload 5, 57, 0, 0), (57, .aload_n 0, 58, 0, 0), (58, .getfield 268, 61, 11, 23), (61, .if_icmp .ge 85, 64, 146, 0), (64, .aload_n 0, 65, 0, 0), (65, .getfield 60, 68, 11, 34), (68, .sipush 5461, 71, 0, 0), (71, .iload 5, 73, 0, 0), (73, .imul, 74, 0, 0), (74, .aload_n 0, 75, 0, 0), (75, .getfield 69, 78, 11, 37), (78, .iload 4, 80, 0, 0), (80, .iaload, 81, 0, 0), (81, .iadd, 82, 0, 0), (82, .iaload, 83, 0, 0), (83, .istore 6, 85, 0, 0), (85, .iload_n 2, 86, 0, 0), (86, .iload 5, 88, 0, 0), (88, .invokestatic 335, 91, 182, 2), (91, .ifCond .ne 49, 94, 140, 0), (94, .aload_n 3, 95, 0, 0), (95, .iload 6, 97, 0, 0), (97, .iaload, 98, 0, 0), (98, .ldc_w 365, 101, 1000000, 0), (101, .if_icmp .ne 39, 104, 140, 0), (104, .aload_n 3, 105, 0, 0), (105, .iload 6, 107, 0, 0), (107, .aload_n 3, 108, 0, 0), (108, .aload_n 0, 109, 0, 0), (109, .getfield 69, 112, 11, 37), (112, .iload 4, 114, 0, 0), (114, .iaload, 115, 0, 0), (115, .iaload, 116, 0, 0), (116, .iconst 1, 117, 0, 0), (117, .iadd, 118, 0, 0), (118, .iastore, 119, 0, 0), (119, .aload_n 0, 120, 0, 0), (120, .getfield 69, 123, 11, 37), (123, .aload_n 0, 124, 0, 0), (124, .getfield 366, 127, 11, 38), (127, .iload 6, 129, 0, 0), (129, .iastore, 130, 0, 0), (130, .aload_n 0, 131, 0, 0), (131, .dup, 132, 0, 0), (132, .getfield 366, 135, 11, 38), (135, .iconst 1, 136, 0, 0), (136, .iadd, 137, 0, 0), (137, .putfield 366, 140, 11, 38), (140, .iinc 5 1, 143, 0, 0), (143, .goto (-88), 146, 55, 0), (146, .iinc 4 1, 149, 0, 0), (149, .goto (-106), 152, 43, 0), (152, .return_, 153, 0, 0)]
def kX12_findFar : zM := (⟨"ReadAloudModel", "findFar", "(II[I)V"⟩, prog_14_method_69_code, 7, none, 11, qX12_findFar)
def qX12_findBack : List zE := [(0, .iconst 0, 1, 0, 0), (1, .istore_n 2, 2, 0, 0), (2, .iload_n 2, 3, 0, 0), (3, .sipush 5461, 6, 0, 0), (6, .if_icmp .ge 27, 9, 33, 0), (9, .aload_n 0, 10, 0, 0), (10, .getfield 66, 13, 11, 36), (13, .iload_n 2, 14, 0, 0), (14, .iload_n 2, 15, 0, 0), (15, .iload_n 1, 16, 0, 0), (16, .if_icmp .ne 7, 19, 23, 0), (19, .iconst 0, 20, 0, 0), (20, .goto 6, 23, 26, 0), (23, .ldc_w 365, 26, 1000000, 0), (26, .iastore, 27, 0, 0), (27, .iinc 2 1, 30, 0, 0), (30, .goto (-28), 33, 2, 0), (33, .iconst 1, 34, 0, 0), (34, .istore_n 2, 35, 0, 0), (35, .iload_n 2, 36, 0, 0), (36, .ifCond .eq 72, 39, 108, 0), (39, .iconst 0, 40, 0, 0), (40, .istore_n 2, 41, 0, 0), (41, .iconst 0, 42, 0, 0), (42, .istore_n 3, 43, 0, 0), (43, .iload_n 3, 44, 0, 0), (44, .sipush 5461, 47, 0, 0), (47, .aload_n 0, 48, 0, 0), (48, .getfield 268, 51, 11, 23), (51, .imul, 52, 0, 0), (52, .if_icmp .ge 53, 55, 105, 0), (55, .aload_n 0, 56, 0, 0), (56, .getfield 66, 59, 11, 36), (59, .aload_n 0, 60, 0, 0), (60, .getfield 60, 63, 11, 34), (63, .iload_n 3, 64, 0, 0), (64, .iaload, 65, 0, 0), (65, .iaload, 66, 0, 0), (66, .iconst 1, 67, 0, 0), (67, .iadd, 68, 0, 0), (68, .istore 4, 70, 0, 0), (70, .iload 4, 72, 0, 0), (72, .aload_n 0, 73, 0, 0), (73, .getfield 66, 76, 11, 36), (76, .iload_n 3, 77, 0, 0), (77, .sipush 5461, 80, 0, 0), (80, .irem, 81, 0, 0), (81, .iaload, 82, 0, 0), (82, .if_icmp .ge 17, 85, 99, 0), (85, .aload_n 0, 86, 0, 0), (86, .getfield 66, 89, 11, 36), (89, .iload_n 3, 90, 0, 0), (90, .sipush 5461, 93, 0, 0), (93, .irem, 94, 0, 0), (94, .iload 4, 96, 0, 0), (96, .iastore, 97, 0, 0), (97, .iconst 1, 98, 0, 0), (98, .istore_n 2, 99, 0, 0), (99, .iinc 3 1, 102, 0, 0), (102, .goto (-59), 105, 43, 0), (105, .goto (-70), 108, 35, 0), (108, .return_, 109, 0, 0)]
def kX12_findBack : zM := (⟨"ReadAloudModel", "findBack", "(I)V"⟩, prog_14_method_70_code, 5, none, 11, qX12_findBack)
def qX12_making : List zE := [(0, .aload_n 0, 1, 0, 0), (1, .iconst 0, 2, 0, 0), (2, .putfield 107, 5, 11, 0), (5, .iload_n 2, 6, 0, 0), (6, .invokestatic 302, 9, 215, 1), (9, .ifCond .eq 18, 12, 27, 0), (12, .iload_n 3, 13, 0, 0), (13, .invokestatic 302, 16, 215, 1), (16, .ifCond .eq 11, 19, 27, 0), (19, .aload_n 0, 20, 0, 0), (20, .iload_n 1, 21, 0, 0), (21, .invokevirtual 369, 24, 246, 1), (24, .ifCond .ne 5, 27, 29, 0), (27, .iconst (-1), 28, 0, 0), (28, .ireturn, 29, 0, 0), (29, .aload_n 0, 30, 0, 0), (30, .iload_n 3, 31, 0, 0), (31, .invokevirtual 372, 34, 248, 1), (34, .aload_n 0, 35, 0, 0), (35, .getfield 66, 38, 11, 36), (38, .iload_n 2, 39, 0, 0), (39, .iaload, 40, 0, 0), (40, .istore 5, 42, 0, 0), (42, .iload 5, 44, 0, 0), (44, .ldc_w 365, 47, 1000000, 0), (47, .if_icmp .ge 16, 50, 63, 0), (50, .iload 4, 52, 0, 0), (52, .iconst (-1), 53, 0, 0), (53, .iload 5, 55, 0, 0), (55, .iconst 1, 56, 0, 0), (56, .isub, 57, 0, 0), (57, .invokestatic 114, 60, 181, 3), (60, .ifCond .ne 5, 63, 65, 0), (63, .iconst (-1), 64, 0, 0), (64, .ireturn, 65, 0, 0), (65, .iload 4, 67, 0, 0), (67, .iconst (-1), 68, 0, 0), (68, .if_icmp .ne 6, 71, 74, 0), (71, .iload 5, 73, 0, 0), (73, .ireturn, 74, 0, 0), (74, .iload_n 2, 75, 0, 0), (75, .istore 6, 77, 0, 0), (77, .iconst (-1), 78, 0, 0), (78, .istore 7, 80, 0, 0), (80, .iconst 0, 81, 0, 0), (81, .istore 8, 83, 0, 0), (83, .iload 8, 85, 0, 0), (85, .iload 4, 87, 0, 0), (87, .if_icmp .gt 65, 90, 152, 0), (90, .iconst 0, 91, 0, 0), (91, .istore 7, 93, 0, 0), (93, .aload_n 0, 94, 0, 0), (94, .getfield 66, 97, 11, 36), (97, .aload_n 0, 98, 0, 0), (98, .getfield 60, 101, 11, 34), (101, .sipush 5461, 104, 0, 0), (104, .iload 7, 106, 0, 0), (106, .imul, 107, 0, 0), (107, .iload 6, 109, 0, 0), (109, .iadd, 110, 0, 0), (110, .iaload, 111, 0, 0), (111, .iaload, 112, 0, 0), (112, .aload_n 0, 113, 0, 0), (113, .getfield 66, 116, 11, 36), (116, .iload 6, 118, 0, 0), (118, .iaload, 119, 0, 0), (119, .iconst 1, 120, 0, 0), (120, .isub, 121, 0, 0), (121, .if_icmp .eq 9, 124, 130, 0), (124, .iinc 7 1, 127, 0, 0), (127, .goto (-34), 130, 93, 0), (130, .aload_n 0, 131, 0, 0), (131, .getfield 60, 134, 11, 34), (134, .sipush 5461, 137, 0, 0), (137, .iload 7, 139, 0, 0), (139, .imul, 140, 0, 0), (140, .iload 6, 142, 0, 0), (142, .iadd, 143, 0, 0), (143, .iaload, 144, 0, 0), (144, .istore 6, 146, 0, 0), (146, .iinc 8 1, 149, 0, 0), (149, .goto (-66), 152, 83, 0), (152, .iload 7, 154, 0, 0), (154, .ireturn, 155, 0, 0)]
def kX12_making : zM := (⟨"ReadAloudModel", "making", "(IIII)I"⟩, prog_14_method_71_code, 9, (some .int), 11, qX12_making)
def qX12_ring : List zE := [(0, .aload_n 0, 1, 0, 0), (1, .iconst 0, 2, 0, 0), (2, .putfield 107, 5, 11, 0), (5, .iload_n 2, 6, 0, 0), (6, .invokestatic 302, 9, 215, 1), (9, .ifCond .eq 11, 12, 20, 0), (12, .aload_n 0, 13, 0, 0), (13, .iload_n 1, 14, 0, 0), (14, .invokevirtual 369, 17, 246, 1), (17, .ifCond .ne 5, 20, 22, 0), (20, .iconst (-1), 21, 0, 0), (21, .ireturn, 22, 0, 0), (22, .aload_n 0, 23, 0, 0), (23, .iload_n 2, 24, 0, 0), (24, .iconst 0, 25, 0, 0), (25, .aload_n 0, 26, 0, 0), (26, .getfield 63, 29, 11, 35), (29, .invokevirtual 375, 32, 247, 3), (32, .ldc_w 365, 35, 1000000, 0), (35, .istore_n 3, 36, 0, 0), (36, .iconst 0, 37, 0, 0), (37, .istore 4, 39, 0, 0), (39, .iload 4, 41, 0, 0), (41, .sipush 5461, 44, 0, 0), (44, .aload_n 0, 45, 0, 0), (45, .getfield 268, 48, 11, 23), (48, .imul, 49, 0, 0), (49, .if_icmp .ge 42, 52, 91, 0), (52, .aload_n 0, 53, 0, 0), (53, .getfield 60, 56, 11, 34), (56, .iload 4, 58, 0, 0), (58, .iaload, 59, 0, 0), (59, .iload_n 2, 60, 0, 0), (60, .if_icmp .ne 23, 63, 83, 0), (63, .iload_n 3, 64, 0, 0), (64, .aload_n 0, 65, 0, 0), (65, .getfield 63, 68, 11, 35), (68, .iload 4, 70, 0, 0), (70, .sipush 5461, 73, 0, 0), (73, .irem, 74, 0, 0), (74, .iaload, 75, 0, 0), (75, .iconst 1, 76, 0, 0), (76, .iadd, 77, 0, 0), (77, .invokestatic 204, 80, 184, 2), (80, .goto 4, 83, 84, 0), (83, .iload_n 3, 84, 0, 0), (84, .istore_n 3, 85, 0, 0), (85, .iinc 4 1, 88, 0, 0), (88, .goto (-49), 91, 39, 0), (91, .iload_n 3, 92, 0, 0), (92, .ldc_w 365, 95, 1000000, 0), (95, .if_icmp .lt 7, 98, 102, 0), (98, .iconst (-1), 99, 0, 0), (99, .goto 4, 102, 103, 0), (102, .iload_n 3, 103, 0, 0), (103, .ireturn, 104, 0, 0)]
def kX12_ring : zM := (⟨"ReadAloudModel", "ring", "(II)I"⟩, prog_14_method_72_code, 5, (some .int), 11, qX12_ring)
def qX12_reach : List zE := [(0, .aload_n 0, 1, 0, 0), (1, .iconst 0, 2, 0, 0), (2, .putfield 107, 5, 11, 0), (5, .iload_n 2, 6, 0, 0), (6, .invokestatic 302, 9, 215, 1), (9, .ifCond .eq 11, 12, 20, 0), (12, .aload_n 0, 13, 0, 0), (13, .iload_n 1, 14, 0, 0), (14, .invokevirtual 369, 17, 246, 1), (17, .ifCond .ne 5, 20, 22, 0), (20, .iconst (-1), 21, 0, 0), (21, .ireturn, 22, 0, 0), (22, .aload_n 0, 23, 0, 0), (23, .iload_n 2, 24, 0, 0), (24, .iconst 0, 25, 0, 0), (25, .aload_n 0, 26, 0, 0), (26, .getfield 63, 29, 11, 35), (29, .invokevirtual 375, 32, 247, 3), (32, .iload_n 3, 33, 0, 0), (33, .ifCond .eq 22, 36, 55, 0), (36, .aload_n 0, 37, 0, 0), (37, .getfield 63, 40, 11, 35), (40, .aload_n 0, 41, 0, 0), (41, .getfield 69, 44, 11, 37), (44, .aload_n 0, 45, 0, 0), (45, .getfield 366, 48, 11, 38), (48, .iconst 1, 49, 0, 0), (49, .isub, 50, 0, 0), (50, .iaload, 51, 0, 0), (51, .iaload, 52, 0, 0), (52, .goto 7, 55, 59, 0), (55, .aload_n 0, 56, 0, 0), (56, .getfield 366, 59, 11, 38), (59, .ireturn, 60, 0, 0)]
def kX12_reach : zM := (⟨"ReadAloudModel", "reach", "(IIZ)I"⟩, prog_14_method_73_code, 4, (some .int), 11, qX12_reach)
def qX12_isKept : List zE := [(0, .iconst 0, 1, 0, 0), (1, .istore_n 3, 2, 0, 0), (2, .iload_n 3, 3, 0, 0), (3, .aload_n 0, 4, 0, 0), (4, .getfield 268, 7, 11, 23), (7, .if_icmp .ge 35, 10, 42, 0), (10, .iload_n 2, 11, 0, 0), (11, .iload_n 3, 12, 0, 0), (12, .invokestatic 335, 15, 182, 2), (15, .ifCond .eq 21, 18, 36, 0), (18, .aload_n 0, 19, 0, 0), (19, .getfield 60, 22, 11, 34), (22, .sipush 5461, 25, 0, 0), (25, .iload_n 3, 26, 0, 0), (26, .imul, 27, 0, 0), (27, .iload_n 1, 28, 0, 0), (28, .iadd, 29, 0, 0), (29, .iaload, 30, 0, 0), (30, .iload_n 1, 31, 0, 0), (31, .if_icmp .eq 5, 34, 36, 0), (34, .iconst 0, 35, 0, 0), (35, .ireturn, 36, 0, 0), (36, .iinc 3 1, 39, 0, 0), (39, .goto (-37), 42, 2, 0), (42, .iconst 1, 43, 0, 0), (43, .ireturn, 44, 0, 0)]
def kX12_isKept : zM := (⟨"ReadAloudModel", "isKept", "(II)Z"⟩, prog_14_method_74_code, 4, (some .boolean), 11, qX12_isKept)
def qX12_sound : List zE := [(0, .aload_n 0, 1, 0, 0), (1, .iconst 0, 2, 0, 0), (2, .putfield 107, 5, 11, 0), (5, .aload_n 0, 6, 0, 0), (6, .iload_n 1, 7, 0, 0), (7, .invokevirtual 299, 10, 214, 1), (10, .ifCond .eq 19, 13, 29, 0), (13, .iload_n 2, 14, 0, 0), (14, .iconst 0, 15, 0, 0), (15, .iconst 1, 16, 0, 0), (16, .aload_n 0, 17, 0, 0), (17, .getfield 268, 20, 11, 23), (20, .ishl, 21, 0, 0), (21, .iconst 1, 22, 0, 0), (22, .isub, 23, 0, 0), (23, .invokestatic 114, 26, 181, 3), (26, .ifCond .ne 5, 29, 31, 0), (29, .iconst (-1), 30, 0, 0), (30, .ireturn, 31, 0, 0), (31, .aload_n 0, 32, 0, 0), (32, .invokevirtual 362, 35, 245, 0), (35, .iconst 0, 36, 0, 0), (36, .istore_n 3, 37, 0, 0), (37, .iconst 0, 38, 0, 0), (38, .istore 4, 40, 0, 0), (40, .iload 4, 42, 0, 0), (42, .sipush 5461, 45, 0, 0), (45, .if_icmp .ge 27, 48, 72, 0), (48, .iload_n 3, 49, 0, 0), (49, .aload_n 0, 50, 0, 0), (50, .iload 4, 52, 0, 0), (52, .iload_n 2, 53, 0, 0), (53, .invokevirtual 379, 56, 252, 2), (56, .ifCond .eq 7, 59, 63, 0), (59, .iconst 1, 60, 0, 0), (60, .goto 4, 63, 64, 0), (63, .iconst 0, 64, 0, 0), (64, .iadd, 65, 0, 0), (65, .istore_n 3, 66, 0, 0), (66, .iinc 4 1, 69, 0, 0), (69, .goto (-29), 72, 40, 0), (72, .iload_n 3, 73, 0, 0), (73, .ireturn, 74, 0, 0)]
def kX12_sound : zM := (⟨"ReadAloudModel", "sound", "(II)I"⟩, prog_14_method_75_code, 5, (some .int), 11, qX12_sound)
def qX12_like : List zE := [(0, .aload_n 0, 1, 0, 0), (1, .iconst 0, 2, 0, 0), (2, .putfield 107, 5, 11, 0), (5, .aload_n 0, 6, 0, 0), (6, .iload_n 1, 7, 0, 0), (7, .invokevirtual 299, 10, 214, 1), (10, .ifCond .eq 19, 13, 29, 0), (13, .aload_n 0, 14, 0, 0), (14, .iload_n 2, 15, 0, 0), (15, .invokevirtual 308, 18, 216, 1), (18, .ifCond .eq 11, 21, 29, 0), (21, .aload_n 0, 22, 0, 0), (22, .iload_n 3, 23, 0, 0), (23, .invokevirtual 308, 26, 216, 1), (26, .ifCond .ne 5, 29, 31, 0), (29, .iconst (-1), 30, 0, 0), (30, .ireturn, 31, 0, 0), (31, .aload_n 0, 32, 0, 0), (32, .invokevirtual 362, 35, 245, 0), (35, .iconst 0, 36, 0, 0), (36, .istore 4, 38, 0, 0), (38, .iconst 0, 39, 0, 0), (39, .istore 5, 41, 0, 0), (41, .iload 5, 43, 0, 0), (43, .sipush 5461, 46, 0, 0), (46, .if_icmp .ge 70, 49, 116, 0), (49, .iload 4, 51, 0, 0), (51, .aload_n 0, 52, 0, 0), (52, .getfield 60, 55, 11, 34), (55, .sipush 5461, 58, 0, 0), (58, .iload_n 3, 59, 0, 0), (59, .imul, 60, 0, 0), (60, .aload_n 0, 61, 0, 0), (61, .getfield 60, 64, 11, 34), (64, .sipush 5461, 67, 0, 0), (67, .iload_n 2, 68, 0, 0), (68, .imul, 69, 0, 0), (69, .iload 5, 71, 0, 0), (71, .iadd, 72, 0, 0), (72, .iaload, 73, 0, 0), (73, .iadd, 74, 0, 0), (74, .iaload, 75, 0, 0), (75, .aload_n 0, 76, 0, 0), (76, .getfield 60, 79, 11, 34), (79, .sipush 5461, 82, 0, 0), (82, .iload_n 2, 83, 0, 0), (83, .imul, 84, 0, 0), (84, .aload_n 0, 85, 0, 0), (85, .getfield 60, 88, 11, 34), (88, .sipush 5461, 91, 0, 0), (91, .iload_n 3, 92, 0, 0), (92, .imul, 93, 0, 0), (93, .iload 5, 95, 0, 0), (95, .iadd, 96, 0, 0), (96, .iaload, 97, 0, 0), (97, .iadd, 98, 0, 0), (98, .iaload, 99, 0, 0), (99, .if_icmp .ne 7, 102, 106, 0), (102, .iconst 1, 103, 0, 0), (103, .goto 4, 106, 107, 0), (106, .iconst 0, 107, 0, 0), (107, .iadd, 108, 0, 0), (108, .istore 4, 110, 0, 0), (110, .iinc 5 1, 113, 0, 0), (113, .goto (-72), 116, 41, 0), (116, .iload 4, 118, 0, 0), (118, .ireturn, 119, 0, 0)]
def kX12_like : zM := (⟨"ReadAloudModel", "like", "(III)I"⟩, prog_14_method_76_code, 6, (some .int), 11, qX12_like)
def qX12_findComes : List zE := [(0, .iconst 0, 1, 0, 0), (1, .istore_n 2, 2, 0, 0), (2, .iload_n 2, 3, 0, 0), (3, .sipush 5461, 6, 0, 0), (6, .if_icmp .ge 16, 9, 22, 0), (9, .aload_n 0, 10, 0, 0), (10, .getfield 72, 13, 11, 39), (13, .iload_n 2, 14, 0, 0), (14, .iconst 0, 15, 0, 0), (15, .iastore, 16, 0, 0), (16, .iinc 2 1, 19, 0, 0), (19, .goto (-17), 22, 2, 0), (22, .iconst 0, 23, 0, 0), (23, .istore_n 2, 24, 0, 0), (24, .iload_n 2, 25, 0, 0), (25, .sipush 5461, 28, 0, 0), (28, .if_icmp .ge 30, 31, 58, 0), (31, .aload_n 0, 32, 0, 0), (32, .getfield 72, 35, 11, 39), (35, .aload_n 0, 36, 0, 0), (36, .getfield 60, 39, 11, 34), (39, .sipush 5461, 42, 0, 0), (42, .iload_n 1, 43, 0, 0), (43, .imul, 44, 0, 0), (44, .iload_n 2, 45, 0, 0), (45, .iadd, 46, 0, 0), (46, .iaload, 47, 0, 0), (47, .dup2, 48, 0, 0), (48, .iaload, 49, 0, 0), (49, .iconst 1, 50, 0, 0), (50, .iadd, 51, 0, 0), (51, .iastore, 52, 0, 0), (52, .iinc 2 1, 55, 0, 0), (55, .goto (-31), 58, 24, 0), (58, .return_, 59, 0, 0)]
def kX12_findComes : zM := (⟨"ReadAloudModel", "findComes", "(I)V"⟩, prog_14_method_77_code, 3, none, 11, qX12_findComes)
def qX12_unread : List zE := [(0, .aload_n 0, 1, 0, 0), (1, .iload_n 1, 2, 0, 0), (2, .invokevirtual 382, 5, 255, 1), (5, .iconst 0, 6, 0, 0), (6, .istore_n 2, 7, 0, 0), (7, .iconst 0, 8, 0, 0), (8, .istore_n 3, 9, 0, 0), (9, .iload_n 3, 10, 0, 0), (10, .sipush 5461, 13, 0, 0), (13, .if_icmp .ge 26, 16, 39, 0), (16, .iload_n 2, 17, 0, 0), (17, .aload_n 0, 18, 0, 0), (18, .getfield 72, 21, 11, 39), (21, .iload_n 3, 22, 0, 0), (22, .iaload, 23, 0, 0), (23, .ifCond .ne 7, 26, 30, 0), (26, .iconst 1, 27, 0, 0), (27, .goto 4, 30, 31, 0), (30, .iconst 0, 31, 0, 0), (31, .iadd, 32, 0, 0), (32, .istore_n 2, 33, 0, 0), (33, .iinc 3 1, 36, 0, 0), (36, .goto (-27), 39, 9, 0), (39, .iload_n 2, 40, 0, 0), (40, .ireturn, 41, 0, 0)]
def kX12_unread : zM := (⟨"ReadAloudModel", "unread", "(I)I"⟩, prog_14_method_78_code, 4, (some .int), 11, qX12_unread)
def qX12_fallAway : List zE := [(0, .aload_n 0, 1, 0, 0), (1, .iload_n 1, 2, 0, 0), (2, .invokevirtual 382, 5, 255, 1), (5, .iconst 0, 6, 0, 0), (6, .istore_n 2, 7, 0, 0), (7, .iconst 0, 8, 0, 0), (8, .istore_n 3, 9, 0, 0), (9, .iload_n 3, 10, 0, 0), (10, .sipush 5461, 13, 0, 0), (13, .if_icmp .ge 28, 16, 41, 0), (16, .aload_n 0, 17, 0, 0), (17, .getfield 72, 20, 11, 39), (20, .iload_n 3, 21, 0, 0), (21, .iaload, 22, 0, 0), (22, .ifCond .ne 13, 25, 35, 0), (25, .aload_n 0, 26, 0, 0), (26, .getfield 69, 29, 11, 37), (29, .iload_n 2, 30, 0, 0), (30, .iload_n 3, 31, 0, 0), (31, .iastore, 32, 0, 0), (32, .iinc 2 1, 35, 0, 0), (35, .iinc 3 1, 38, 0, 0), (38, .goto (-29), 41, 9, 0), (41, .iconst 0, 42, 0, 0), (42, .istore_n 3, 43, 0, 0), (43, .iload_n 3, 44, 0, 0), (44, .iload_n 2, 45, 0, 0), (45, .if_icmp .ge 60, 48, 105, 0), (48, .aload_n 0, 49, 0, 0), (49, .getfield 60, 52, 11, 34), (52, .sipush 5461, 55, 0, 0), (55, .iload_n 1, 56, 0, 0), (56, .imul, 57, 0, 0), (57, .aload_n 0, 58, 0, 0), (58, .getfield 69, 61, 11, 37), (61, .iload_n 3, 62, 0, 0), (62, .iaload, 63, 0, 0), (63, .iadd, 64, 0, 0), (64, .iaload, 65, 0, 0), (65, .istore 4, 67, 0, 0), (67, .aload_n 0, 68, 0, 0), (68, .getfield 72, 71, 11, 39), (71, .iload 4, 73, 0, 0), (73, .dup2, 74, 0, 0), (74, .iaload, 75, 0, 0), (75, .iconst 1, 76, 0, 0), (76, .isub, 77, 0, 0), (77, .iastore, 78, 0, 0), (78, .aload_n 0, 79, 0, 0), (79, .getfield 72, 82, 11, 39), (82, .iload 4, 84, 0, 0), (84, .iaload, 85, 0, 0), (85, .ifCond .ne 14, 88, 99, 0), (88, .aload_n 0, 89, 0, 0), (89, .getfield 69, 92, 11, 37), (92, .iload_n 2, 93, 0, 0), (93, .iload 4, 95, 0, 0), (95, .iastore, 96, 0, 0), (96, .iinc 2 1, 99, 0, 0), (99, .iinc 3 1, 102, 0, 0), (102, .goto (-59), 105, 43, 0), (105, .iload_n 2, 106, 0, 0), (106, .ireturn, 107, 0, 0)]
def kX12_fallAway : zM := (⟨"ReadAloudModel", "fallAway", "(I)I"⟩, prog_14_method_79_code, 5, (some .int), 11, qX12_fallAway)
def qX12_tail : List zE := [(0, .iconst 0, 1, 0, 0), (1, .istore_n 3, 2, 0, 0), (2, .iconst 0, 3, 0, 0), (3, .istore 4, 5, 0, 0), (5, .iload 4, 7, 0, 0), (7, .sipush 5461, 10, 0, 0), (10, .if_icmp .ge 17, 13, 27, 0), (13, .aload_n 0, 14, 0, 0), (14, .getfield 63, 17, 11, 35), (17, .iload 4, 19, 0, 0), (19, .iconst 0, 20, 0, 0), (20, .iastore, 21, 0, 0), (21, .iinc 4 1, 24, 0, 0), (24, .goto (-19), 27, 5, 0), (27, .iload_n 2, 28, 0, 0), (28, .iconst 1, 29, 0, 0), (29, .isub, 30, 0, 0), (30, .istore 4, 32, 0, 0), (32, .iload 4, 34, 0, 0), (34, .ifCond .lt 63, 37, 97, 0), (37, .aload_n 0, 38, 0, 0), (38, .getfield 63, 41, 11, 35), (41, .aload_n 0, 42, 0, 0), (42, .getfield 69, 45, 11, 37), (45, .iload 4, 47, 0, 0), (47, .iaload, 48, 0, 0), (48, .aload_n 0, 49, 0, 0), (49, .getfield 63, 52, 11, 35), (52, .aload_n 0, 53, 0, 0), (53, .getfield 60, 56, 11, 34), (56, .sipush 5461, 59, 0, 0), (59, .iload_n 1, 60, 0, 0), (60, .imul, 61, 0, 0), (61, .aload_n 0, 62, 0, 0), (62, .getfield 69, 65, 11, 37), (65, .iload 4, 67, 0, 0), (67, .iaload, 68, 0, 0), (68, .iadd, 69, 0, 0), (69, .iaload, 70, 0, 0), (70, .iaload, 71, 0, 0), (71, .iconst 1, 72, 0, 0), (72, .iadd, 73, 0, 0), (73, .iastore, 74, 0, 0), (74, .iload_n 3, 75, 0, 0), (75, .aload_n 0, 76, 0, 0), (76, .getfield 63, 79, 11, 35), (79, .aload_n 0, 80, 0, 0), (80, .getfield 69, 83, 11, 37), (83, .iload 4, 85, 0, 0), (85, .iaload, 86, 0, 0), (86, .iaload, 87, 0, 0), (87, .invokestatic 385, 90, 183, 2), (90, .istore_n 3, 91, 0, 0), (91, .iinc 4 (-1), 94, 0, 0), (94, .goto (-62), 97, 32, 0), (97, .iload_n 3, 98, 0, 0), (98, .ireturn, 99, 0, 0)]
def kX12_tail : zM := (⟨"ReadAloudModel", "tail", "(II)I"⟩, prog_14_method_80_code, 5, (some .int), 11, qX12_tail)
def qX12_longest : List zE := [(0, .iconst 0, 1, 0, 0), (1, .istore_n 3, 2, 0, 0), (2, .iconst 0, 3, 0, 0), (3, .istore 4, 5, 0, 0), (5, .iconst 0, 6, 0, 0), (6, .istore 5, 8, 0, 0), (8, .iload 5, 10, 0, 0), (10, .sipush 5461, 13, 0, 0), (13, .if_icmp .ge 77, 16, 90, 0), (16, .iconst 0, 17, 0, 0), (17, .istore 6, 19, 0, 0), (19, .iload 5, 21, 0, 0), (21, .istore 7, 23, 0, 0), (23, .aload_n 0, 24, 0, 0), (24, .getfield 72, 27, 11, 39), (27, .iload 7, 29, 0, 0), (29, .iaload, 30, 0, 0), (30, .ifCond .le 32, 33, 62, 0), (33, .aload_n 0, 34, 0, 0), (34, .getfield 72, 37, 11, 39), (37, .iload 7, 39, 0, 0), (39, .iconst 0, 40, 0, 0), (40, .iastore, 41, 0, 0), (41, .iinc 6 1, 44, 0, 0), (44, .aload_n 0, 45, 0, 0), (45, .getfield 60, 48, 11, 34), (48, .sipush 5461, 51, 0, 0), (51, .iload_n 1, 52, 0, 0), (52, .imul, 53, 0, 0), (53, .iload 7, 55, 0, 0), (55, .iadd, 56, 0, 0), (56, .iaload, 57, 0, 0), (57, .istore 7, 59, 0, 0), (59, .goto (-36), 62, 23, 0), (62, .iload_n 3, 63, 0, 0), (63, .iload 6, 65, 0, 0), (65, .ifCond .le 7, 68, 72, 0), (68, .iconst 1, 69, 0, 0), (69, .goto 4, 72, 73, 0), (72, .iconst 0, 73, 0, 0), (73, .iadd, 74, 0, 0), (74, .istore_n 3, 75, 0, 0), (75, .iload 4, 77, 0, 0), (77, .iload 6, 79, 0, 0), (79, .invokestatic 385, 82, 183, 2), (82, .istore 4, 84, 0, 0), (84, .iinc 5 1, 87, 0, 0), (87, .goto (-79), 90, 8, 0), (90, .iload_n 2, 91, 0, 0), (91, .ifCond .eq 7, 94, 98, 0), (94, .iload_n 3, 95, 0, 0), (95, .goto 5, 98, 100, 0), (98, .iload 4, 100, 0, 0), (100, .ireturn, 101, 0, 0)]
def kX12_longest : zM := (⟨"ReadAloudModel", "longest", "(IZ)I"⟩, prog_14_method_81_code, 8, (some .int), 11, qX12_longest)
def qX12_stays : List zE := [(0, .iconst 0, 1, 0, 0), (1, .istore_n 2, 2, 0, 0), (2, .iconst 0, 3, 0, 0), (3, .istore_n 3, 4, 0, 0), (4, .iload_n 3, 5, 0, 0), (5, .sipush 5461, 8, 0, 0), (8, .if_icmp .ge 33, 11, 41, 0), (11, .iload_n 2, 12, 0, 0), (12, .aload_n 0, 13, 0, 0), (13, .getfield 60, 16, 11, 34), (16, .sipush 5461, 19, 0, 0), (19, .iload_n 1, 20, 0, 0), (20, .imul, 21, 0, 0), (21, .iload_n 3, 22, 0, 0), (22, .iadd, 23, 0, 0), (23, .iaload, 24, 0, 0), (24, .iload_n 3, 25, 0, 0), (25, .if_icmp .ne 7, 28, 32, 0), (28, .iconst 1, 29, 0, 0), (29, .goto 4, 32, 33, 0), (32, .iconst 0, 33, 0, 0), (33, .iadd, 34, 0, 0), (34, .istore_n 2, 35, 0, 0), (35, .iinc 3 1, 38, 0, 0), (38, .goto (-34), 41, 4, 0), (41, .iload_n 2, 42, 0, 0), (42, .ireturn, 43, 0, 0)]
def kX12_stays : zM := (⟨"ReadAloudModel", "stays", "(I)I"⟩, prog_14_method_82_code, 4, (some .int), 11, qX12_stays)
def qX12_orbits : List zE := [(0, .aload_n 0, 1, 0, 0), (1, .iconst 0, 2, 0, 0), (2, .putfield 107, 5, 11, 0), (5, .aload_n 0, 6, 0, 0), (6, .iload_n 1, 7, 0, 0), (7, .invokevirtual 299, 10, 214, 1), (10, .ifCond .eq 20, 13, 30, 0), (13, .aload_n 0, 14, 0, 0), (14, .iload_n 2, 15, 0, 0), (15, .invokevirtual 308, 18, 216, 1), (18, .ifCond .eq 12, 21, 30, 0), (21, .iload_n 3, 22, 0, 0), (22, .iconst 0, 23, 0, 0), (23, .iconst 5, 24, 0, 0), (24, .invokestatic 114, 27, 181, 3), (27, .ifCond .ne 5, 30, 32, 0), (30, .iconst (-1), 31, 0, 0), (31, .ireturn, 32, 0, 0), (32, .aload_n 0, 33, 0, 0), (33, .invokevirtual 362, 36, 245, 0), (36, .iload_n 3, 37, 0, 0), (37, .iconst 3, 38, 0, 0), (38, .if_icmp .le 22, 41, 60, 0), (41, .iload_n 3, 42, 0, 0), (42, .iconst 4, 43, 0, 0), (43, .if_icmp .ne 11, 46, 54, 0), (46, .aload_n 0, 47, 0, 0), (47, .iload_n 2, 48, 0, 0), (48, .invokevirtual 388, 51, 256, 1), (51, .goto 8, 54, 59, 0), (54, .aload_n 0, 55, 0, 0), (55, .iload_n 2, 56, 0, 0), (56, .invokevirtual 391, 59, 260, 1), (59, .ireturn, 60, 0, 0), (60, .aload_n 0, 61, 0, 0), (61, .iload_n 2, 62, 0, 0), (62, .invokevirtual 394, 65, 257, 1), (65, .istore 4, 67, 0, 0), (67, .iload_n 3, 68, 0, 0), (68, .iconst 2, 69, 0, 0), (69, .if_icmp .ne 12, 72, 81, 0), (72, .sipush 5461, 75, 0, 0), (75, .iload 4, 77, 0, 0), (77, .isub, 78, 0, 0), (78, .goto 32, 81, 110, 0), (81, .iload_n 3, 82, 0, 0), (82, .iconst 3, 83, 0, 0), (83, .if_icmp .ne 13, 86, 96, 0), (86, .aload_n 0, 87, 0, 0), (87, .iload_n 2, 88, 0, 0), (88, .iload 4, 90, 0, 0), (90, .invokevirtual 397, 93, 258, 2), (93, .goto 17, 96, 110, 0), (96, .aload_n 0, 97, 0, 0), (97, .iload_n 2, 98, 0, 0), (98, .iload_n 3, 99, 0, 0), (99, .ifCond .ne 7, 102, 106, 0), (102, .iconst 1, 103, 0, 0), (103, .goto 4, 106, 107, 0), (106, .iconst 0, 107, 0, 0), (107, .invokevirtual 400, 110, 259, 2), (110, .ireturn, 111, 0, 0)]
def kX12_orbits : zM := (⟨"ReadAloudModel", "orbits", "(III)I"⟩, prog_14_method_83_code, 5, (some .int), 11, qX12_orbits)
def qX12_layDrifts : List zE := [(0, .iconst 0, 1, 0, 0), (1, .istore_n 1, 2, 0, 0), (2, .iload_n 1, 3, 0, 0), (3, .sipush 5461, 6, 0, 0), (6, .if_icmp .ge 24, 9, 30, 0), (9, .aload_n 0, 10, 0, 0), (10, .getfield 76, 13, 11, 40), (13, .iload_n 1, 14, 0, 0), (14, .aload_n 0, 15, 0, 0), (15, .iload_n 1, 16, 0, 0), (16, .aload_n 0, 17, 0, 0), (17, .getfield 265, 20, 11, 22), (20, .invokevirtual 305, 23, 226, 2), (23, .iastore, 24, 0, 0), (24, .iinc 1 1, 27, 0, 0), (27, .goto (-25), 30, 2, 0), (30, .return_, 31, 0, 0)]
def kX12_layDrifts : zM := (⟨"ReadAloudModel", "layDrifts", "()V"⟩, prog_14_method_84_code, 2, none, 11, qX12_layDrifts)
def qX12_best : List zE := [(0, .iconst 0, 1, 0, 0), (1, .istore 4, 3, 0, 0), (3, .iload 4, 5, 0, 0), (5, .sipush 5461, 8, 0, 0), (8, .if_icmp .ge 121, 11, 129, 0), (11, .iload_n 3, 12, 0, 0), (12, .ifCond .eq 7, 15, 19, 0), (15, .iconst (-1), 16, 0, 0), (16, .goto 6, 19, 22, 0), (19, .ldc_w 365, 22, 1000000, 0), (22, .istore 5, 24, 0, 0), (24, .iconst 0, 25, 0, 0), (25, .istore 6, 27, 0, 0), (27, .iload 6, 29, 0, 0), (29, .aload_n 0, 30, 0, 0), (30, .getfield 268, 33, 11, 23), (33, .if_icmp .ge 75, 36, 108, 0), (36, .aload_n 0, 37, 0, 0), (37, .getfield 76, 40, 11, 40), (40, .sipush 5461, 43, 0, 0), (43, .iload_n 1, 44, 0, 0), (44, .iconst 1, 45, 0, 0), (45, .isub, 46, 0, 0), (46, .imul, 47, 0, 0), (47, .aload_n 0, 48, 0, 0), (48, .getfield 60, 51, 11, 34), (51, .sipush 5461, 54, 0, 0), (54, .iload 6, 56, 0, 0), (56, .imul, 57, 0, 0), (57, .iload 4, 59, 0, 0), (59, .iadd, 60, 0, 0), (60, .iaload, 61, 0, 0), (61, .iadd, 62, 0, 0), (62, .iaload, 63, 0, 0), (63, .istore 7, 65, 0, 0), (65, .iload_n 2, 66, 0, 0), (66, .iload 6, 68, 0, 0), (68, .invokestatic 335, 71, 182, 2), (71, .ifCond .ne 8, 74, 79, 0), (74, .iload 5, 76, 0, 0), (76, .goto 24, 79, 100, 0), (79, .iload_n 3, 80, 0, 0), (80, .ifCond .eq 13, 83, 93, 0), (83, .iload 5, 85, 0, 0), (85, .iload 7, 87, 0, 0), (87, .invokestatic 385, 90, 183, 2), (90, .goto 10, 93, 100, 0), (93, .iload 5, 95, 0, 0), (95, .iload 7, 97, 0, 0), (97, .invokestatic 204, 100, 184, 2), (100, .istore 5, 102, 0, 0), (102, .iinc 6 1, 105, 0, 0), (105, .goto (-78), 108, 27, 0), (108, .aload_n 0, 109, 0, 0), (109, .getfield 76, 112, 11, 40), (112, .sipush 5461, 115, 0, 0), (115, .iload_n 1, 116, 0, 0), (116, .imul, 117, 0, 0), (117, .iload 4, 119, 0, 0), (119, .iadd, 120, 0, 0), (120, .iload 5, 122, 0, 0), (122, .iastore, 123, 0, 0), (123, .iinc 4 1, 126, 0, 0), (126, .goto (-123), 129, 3, 0), (129, .return_, 130, 0, 0)]
def kX12_best : zM := (⟨"ReadAloudModel", "best", "(IIZ)V"⟩, prog_14_method_85_code, 8, none, 11, qX12_best)
def qX12_everybody : List zE := [(0, .iconst 1, 1, 0, 0), (1, .aload_n 0, 2, 0, 0), (2, .getfield 268, 5, 11, 23), (5, .ishl, 6, 0, 0), (6, .iconst 1, 7, 0, 0), (7, .isub, 8, 0, 0), (8, .ireturn, 9, 0, 0)]
def kX12_everybody : zM := (⟨"ReadAloudModel", "everybody", "()I"⟩, prog_14_method_86_code, 1, (some .int), 11, qX12_everybody)
def qX12_rotaAt : List zE := [(0, .aload_n 0, 1, 0, 0), (1, .getfield 265, 4, 11, 22), (4, .istore_n 3, 5, 0, 0), (5, .iconst (-1), 6, 0, 0), (6, .istore 4, 8, 0, 0), (8, .iconst 0, 9, 0, 0), (9, .istore 5, 11, 0, 0), (11, .iload 5, 13, 0, 0), (13, .iload_n 2, 14, 0, 0), (14, .if_icmp .gt 79, 17, 93, 0), (17, .iconst 0, 18, 0, 0), (18, .istore 4, 20, 0, 0), (20, .aload_n 0, 21, 0, 0), (21, .getfield 76, 24, 11, 40), (24, .sipush 5461, 27, 0, 0), (27, .iload_n 1, 28, 0, 0), (28, .iload 5, 30, 0, 0), (30, .isub, 31, 0, 0), (31, .iconst 1, 32, 0, 0), (32, .isub, 33, 0, 0), (33, .imul, 34, 0, 0), (34, .aload_n 0, 35, 0, 0), (35, .getfield 60, 38, 11, 34), (38, .sipush 5461, 41, 0, 0), (41, .iload 4, 43, 0, 0), (43, .imul, 44, 0, 0), (44, .iload_n 3, 45, 0, 0), (45, .iadd, 46, 0, 0), (46, .iaload, 47, 0, 0), (47, .iadd, 48, 0, 0), (48, .iaload, 49, 0, 0), (49, .aload_n 0, 50, 0, 0), (50, .getfield 76, 53, 11, 40), (53, .sipush 5461, 56, 0, 0), (56, .iload_n 1, 57, 0, 0), (57, .iload 5, 59, 0, 0), (59, .isub, 60, 0, 0), (60, .imul, 61, 0, 0), (61, .iload_n 3, 62, 0, 0), (62, .iadd, 63, 0, 0), (63, .iaload, 64, 0, 0), (64, .if_icmp .eq 9, 67, 73, 0), (67, .iinc 4 1, 70, 0, 0), (70, .goto (-50), 73, 20, 0), (73, .aload_n 0, 74, 0, 0), (74, .getfield 60, 77, 11, 34), (77, .sipush 5461, 80, 0, 0), (80, .iload 4, 82, 0, 0), (82, .imul, 83, 0, 0), (83, .iload_n 3, 84, 0, 0), (84, .iadd, 85, 0, 0), (85, .iaload, 86, 0, 0), (86, .istore_n 3, 87, 0, 0), (87, .iinc 5 1, 90, 0, 0), (90, .goto (-79), 93, 11, 0), (93, .iload 4, 95, 0, 0), (95, .ireturn, 96, 0, 0)]
def kX12_rotaAt : zM := (⟨"ReadAloudModel", "rotaAt", "(II)I"⟩, prog_14_method_87_code, 6, (some .int), 11, qX12_rotaAt)
def qX12_rota : List zE := [(0, .aload_n 0, 1, 0, 0), (1, .iconst 0, 2, 0, 0), (2, .putfield 107, 5, 11, 0), (5, .iload_n 2, 6, 0, 0), (6, .iconst 0, 7, 0, 0), (7, .bipush 9, 9, 0, 0), (9, .invokestatic 114, 12, 181, 3), (12, .ifCond .eq 44, 15, 56, 0), (15, .aload_n 0, 16, 0, 0), (16, .iload_n 1, 17, 0, 0), (17, .invokevirtual 299, 20, 214, 1), (20, .ifCond .eq 36, 23, 56, 0), (23, .aload_n 0, 24, 0, 0), (24, .getfield 268, 27, 11, 23), (27, .ifCond .ne 7, 30, 34, 0), (30, .iload_n 2, 31, 0, 0), (31, .ifCond .gt 25, 34, 56, 0), (34, .iload_n 3, 35, 0, 0), (35, .iconst 0, 36, 0, 0), (36, .iconst 1, 37, 0, 0), (37, .invokestatic 114, 40, 181, 3), (40, .ifCond .ne 18, 43, 58, 0), (43, .iload_n 3, 44, 0, 0), (44, .bipush 10, 46, 0, 0), (46, .bipush 9, 48, 0, 0), (48, .iload_n 2, 49, 0, 0), (49, .iadd, 50, 0, 0), (50, .invokestatic 114, 53, 181, 3), (53, .ifCond .ne 5, 56, 58, 0), (56, .iconst (-1), 57, 0, 0), (57, .ireturn, 58, 0, 0), (58, .aload_n 0, 59, 0, 0), (59, .invokevirtual 362, 62, 245, 0), (62, .aload_n 0, 63, 0, 0), (63, .invokevirtual 404, 66, 262, 0), (66, .iconst 1, 67, 0, 0), (67, .istore 4, 69, 0, 0), (69, .iload 4, 71, 0, 0), (71, .iload_n 2, 72, 0, 0), (72, .if_icmp .gt 29, 75, 101, 0), (75, .aload_n 0, 76, 0, 0), (76, .iload 4, 78, 0, 0), (78, .aload_n 0, 79, 0, 0), (79, .invokevirtual 407, 82, 264, 0), (82, .iload_n 3, 83, 0, 0), (83, .iconst 1, 84, 0, 0), (84, .if_icmp .ne 7, 87, 91, 0), (87, .iconst 1, 88, 0, 0), (88, .goto 4, 91, 92, 0), (91, .iconst 0, 92, 0, 0), (92, .invokevirtual 410, 95, 263, 3), (95, .iinc 4 1, 98, 0, 0), (98, .goto (-29), 101, 69, 0), (101, .iload_n 3, 102, 0, 0), (102, .iconst 2, 103, 0, 0), (103, .if_icmp .ge 21, 106, 124, 0), (106, .aload_n 0, 107, 0, 0), (107, .getfield 76, 110, 11, 40), (110, .sipush 5461, 113, 0, 0), (113, .iload_n 2, 114, 0, 0), (114, .imul, 115, 0, 0), (115, .aload_n 0, 116, 0, 0), (116, .getfield 265, 119, 11, 22), (119, .iadd, 120, 0, 0), (120, .iaload, 121, 0, 0), (121, .goto 12, 124, 133, 0), (124, .aload_n 0, 125, 0, 0), (125, .iload_n 2, 126, 0, 0), (126, .iload_n 3, 127, 0, 0), (127, .bipush 10, 129, 0, 0), (129, .isub, 130, 0, 0), (130, .invokevirtual 414, 133, 265, 2), (133, .ireturn, 134, 0, 0)]
def kX12_rota : zM := (⟨"ReadAloudModel", "rota", "(III)I"⟩, prog_14_method_88_code, 5, (some .int), 11, qX12_rota)
def qX12_common : List zE := [(0, .lload_n 0, 1, 0, 0), (1, .lstore 4, 3, 0, 0), (3, .lload_n 2, 4, 0, 0), (4, .lstore 6, 6, 0, 0), (6, .lload 6, 8, 0, 0), (8, .lconst 0, 9, 0, 0), (9, .lcmp, 10, 0, 0), (10, .ifCond .eq 21, 13, 31, 0), (13, .lload 4, 15, 0, 0), (15, .lload 6, 17, 0, 0), (17, .lrem, 18, 0, 0), (18, .lstore 8, 20, 0, 0), (20, .lload 6, 22, 0, 0), (22, .lstore 4, 24, 0, 0), (24, .lload 8, 26, 0, 0), (26, .lstore 6, 28, 0, 0), (28, .goto (-22), 31, 6, 0), (31, .lload 4, 33, 0, 0), (33, .lreturn, 34, 0, 0)]
def kX12_common : zM := (⟨"ReadAloudModel", "common", "(JJ)J"⟩, prog_14_method_89_code, 10, (some .long), 11, qX12_common)
set_option maxRecDepth 200000 in
def qX12_mean : List zE := [(0, .aload_n 0, 1, 0, 0), (1, .iconst 0, 2, 0, 0), (2, .putfield 107, 5, 11, 0), (5, .iload_n 2, 6, 0, 0), (6, .iconst 0, 7, 0, 0), (7, .bipush 9, 9, 0, 0), (9, .invokestatic 114, 12, 181, 3), (12, .ifCond .eq 22, 15, 34, 0), (15, .aload_n 0, 16, 0, 0), (16, .iload_n 1, 17, 0, 0), (17, .invokevirtual 299, 20, 214, 1), (20, .ifCond .eq 14, 23, 34, 0), (23, .aload_n 0, 24, 0, 0), (24, .getfield 268, 27, 11, 23), (27, .ifCond .ne 11, 30, 38, 0), (30, .iload_n 2, 31, 0, 0), (31, .ifCond .le 7, 34, 38, 0), (34, .ldc2_w 417, 37, 18446744073709551615, 0), (37, .lreturn, 38, 0, 0), (38, .aload_n 0, 39, 0, 0), (39, .invokevirtual 362, 42, 245, 0), (42, .aload_n 0, 43, 0, 0), (43, .invokevirtual 404, 46, 262, 0), (46, .lconst 1, 47, 0, 0), (47, .lstore 4, 49, 0, 0), (49, .iconst 1, 50, 0, 0), (50, .istore 6, 52, 0, 0), (52, .iload 6, 54, 0, 0), (54, .iload_n 2, 55, 0, 0), (55, .if_icmp .gt 106, 58, 161, 0), (58, .lload 4, 60, 0, 0), (60, .aload_n 0, 61, 0, 0), (61, .getfield 268, 64, 11, 23), (64, .i2l, 65, 0, 0), (65, .lmul, 66, 0, 0), (66, .lstore 4, 68, 0, 0), (68, .iconst 0, 69, 0, 0), (69, .istore 7, 71, 0, 0), (71, .iload 7, 73, 0, 0), (73, .sipush 5461, 76, 0, 0), (76, .if_icmp .ge 79, 79, 155, 0), (79, .iconst 0, 80, 0, 0), (80, .istore 8, 82, 0, 0), (82, .iconst 0, 83, 0, 0), (83, .istore 9, 85, 0, 0), (85, .iload 9, 87, 0, 0), (87, .aload_n 0, 88, 0, 0), (88, .getfield 268, 91, 11, 23), (91, .if_icmp .ge 42, 94, 133, 0), (94, .iload 8, 96, 0, 0), (96, .aload_n 0, 97, 0, 0), (97, .getfield 76, 100, 11, 40), (100, .sipush 5461, 103, 0, 0), (103, .iload 6, 105, 0, 0), (105, .iconst 1, 106, 0, 0), (106, .isub, 107, 0, 0), (107, .imul, 108, 0, 0), (108, .aload_n 0, 109, 0, 0), (109, .getfield 60, 112, 11, 34), (112, .sipush 5461, 115, 0, 0), (115, .iload 9, 117, 0, 0), (117, .imul, 118, 0, 0), (118, .iload 7, 120, 0, 0), (120, .iadd, 121, 0, 0), (121, .iaload, 122, 0, 0), (122, .iadd, 123, 0, 0), (123, .iaload, 124, 0, 0), (124, .iadd, 125, 0, 0), (125, .istore 8, 127, 0, 0), (127, .iinc 9 1, 130, 0, 0), (130, .goto (-45), 133, 85, 0), (133, .aload_n 0, 134, 0, 0), (134, .getfield 76, 137, 11, 40), (137, .sipush 5461, 140, 0, 0), (140, .iload 6, 142, 0, 0), (142, .imul, 143, 0, 0), (143, .iload 7, 145, 0, 0), (145, .iadd, 146, 0, 0), (146, .iload 8, 148, 0, 0), (148, .iastore, 149, 0, 0), (149, .iinc 7 1, 152, 0, 0), (152, .goto (-81), 155, 71, 0), (155, .iinc 6 1, 158, 0, 0), (158, .goto (-106), 161, 52, 0), (161, .aload_n 0, 162, 0, 0), (162, .getfield 76, 165, 11, 40), (165, .sipush 5461, 168, 0, 0), (168, .iload_n 2, 169, 0, 0), (169, .imul, 170, 0, 0), (170, .aload_n 0, 171, 0, 0), (171, .getfield 265, 174, 11, 22), (174, .iadd, 175, 0, 0), (175, .iaload, 176, 0, 0), (176, .i2l, 177, 0, 0), (177, .lstore 6, 179, 0, 0), (179, .iload_n 3, 180, 0, 0), (180, .ifCond .eq 8, 183, 188, 0), (183, .lload 4, 185, 0, 0), (185, .goto 5, 188, 190, 0), (188, .lload 6, 190, 0, 0), (190, .lload 4, 192, 0, 0), (192, .lload 6, 194, 0, 0), (194, .invokestatic 419, 197, 267, 2), (197, .ldiv, 198, 0, 0), (198, .lreturn, 199, 0, 0)]
def kX12_mean : zM := (⟨"ReadAloudModel", "mean", "(IIZ)J"⟩, prog_14_method_90_code, 10, (some .long), 11, qX12_mean)
set_option maxRecDepth 200000 in
def qX12_elders : List zE := [(0, .aload_n 0, 1, 0, 0), (1, .iconst 0, 2, 0, 0), (2, .putfield 107, 5, 11, 0), (5, .iload_n 3, 6, 0, 0), (6, .iconst 0, 7, 0, 0), (7, .bipush 9, 9, 0, 0), (9, .invokestatic 114, 12, 181, 3), (12, .ifCond .eq 18, 15, 30, 0), (15, .iload_n 2, 16, 0, 0), (16, .invokestatic 302, 19, 215, 1), (19, .ifCond .eq 11, 22, 30, 0), (22, .aload_n 0, 23, 0, 0), (23, .iload_n 1, 24, 0, 0), (24, .invokevirtual 369, 27, 246, 1), (27, .ifCond .ne 6, 30, 33, 0), (30, .bipush (-2), 32, 0, 0), (32, .ireturn, 33, 0, 0), (33, .iconst 0, 34, 0, 0), (34, .istore 5, 36, 0, 0), (36, .iload 5, 38, 0, 0), (38, .sipush 5461, 41, 0, 0), (41, .if_icmp .ge 27, 44, 68, 0), (44, .aload_n 0, 45, 0, 0), (45, .getfield 63, 48, 11, 35), (48, .iload 5, 50, 0, 0), (50, .iload 5, 52, 0, 0), (52, .iload_n 2, 53, 0, 0), (53, .if_icmp .ne 7, 56, 60, 0), (56, .iconst 1, 57, 0, 0), (57, .goto 4, 60, 61, 0), (60, .iconst 0, 61, 0, 0), (61, .iastore, 62, 0, 0), (62, .iinc 5 1, 65, 0, 0), (65, .goto (-29), 68, 36, 0), (68, .iconst 0, 69, 0, 0), (69, .istore 5, 71, 0, 0), (71, .iload 5, 73, 0, 0), (73, .iload_n 3, 74, 0, 0), (74, .if_icmp .ge 112, 77, 186, 0), (77, .iconst 0, 78, 0, 0), (78, .istore 6, 80, 0, 0), (80, .iload 6, 82, 0, 0), (82, .sipush 5461, 85, 0, 0), (85, .if_icmp .ge 64, 88, 149, 0), (88, .aload_n 0, 89, 0, 0), (89, .getfield 66, 92, 11, 36), (92, .iload 6, 94, 0, 0), (94, .iconst 0, 95, 0, 0), (95, .iastore, 96, 0, 0), (96, .iconst 0, 97, 0, 0), (97, .istore 7, 99, 0, 0), (99, .iload 7, 101, 0, 0), (101, .aload_n 0, 102, 0, 0), (102, .getfield 268, 105, 11, 23), (105, .if_icmp .ge 38, 108, 143, 0), (108, .aload_n 0, 109, 0, 0), (109, .getfield 66, 112, 11, 36), (112, .iload 6, 114, 0, 0), (114, .dup2, 115, 0, 0), (115, .iaload, 116, 0, 0), (116, .aload_n 0, 117, 0, 0), (117, .getfield 63, 120, 11, 35), (120, .aload_n 0, 121, 0, 0), (121, .getfield 60, 124, 11, 34), (124, .sipush 5461, 127, 0, 0), (127, .iload 7, 129, 0, 0), (129, .imul, 130, 0, 0), (130, .iload 6, 132, 0, 0), (132, .iadd, 133, 0, 0), (133, .iaload, 134, 0, 0), (134, .iaload, 135, 0, 0), (135, .ior, 136, 0, 0), (136, .iastore, 137, 0, 0), (137, .iinc 7 1, 140, 0, 0), (140, .goto (-41), 143, 99, 0), (143, .iinc 6 1, 146, 0, 0), (146, .goto (-66), 149, 80, 0), (149, .iconst 0, 150, 0, 0), (150, .istore 6, 152, 0, 0), (152, .iload 6, 154, 0, 0), (154, .sipush 5461, 157, 0, 0), (157, .if_icmp .ge 23, 160, 180, 0), (160, .aload_n 0, 161, 0, 0), (161, .getfield 63, 164, 11, 35), (164, .iload 6, 166, 0, 0), (166, .aload_n 0, 167, 0, 0), (167, .getfield 66, 170, 11, 36), (170, .iload 6, 172, 0, 0), (172, .iaload, 173, 0, 0), (173, .iastore, 174, 0, 0), (174, .iinc 6 1, 177, 0, 0), (177, .goto (-25), 180, 152, 0), (180, .iinc 5 1, 183, 0, 0), (183, .goto (-112), 186, 71, 0), (186, .iconst 0, 187, 0, 0), (187, .istore 5, 189, 0, 0), (189, .iconst (-1), 190, 0, 0), (190, .istore 6, 192, 0, 0), (192, .iconst 0, 193, 0, 0), (193, .istore 7, 195, 0, 0), (195, .iload 7, 197, 0, 0), (197, .sipush 5461, 200, 0, 0), (200, .if_icmp .ge 47, 203, 247, 0), (203, .iload 5, 205, 0, 0), (205, .aload_n 0, 206, 0, 0), (206, .getfield 63, 209, 11, 35), (209, .iload 7, 211, 0, 0), (211, .iaload, 212, 0, 0), (212, .iadd, 213, 0, 0), (213, .istore 5, 215, 0, 0), (215, .iload 6, 217, 0, 0), (217, .iconst (-1), 218, 0, 0), (218, .if_icmp .ne 19, 221, 237, 0), (221, .aload_n 0, 222, 0, 0), (222, .getfield 63, 225, 11, 35), (225, .iload 7, 227, 0, 0), (227, .iaload, 228, 0, 0), (228, .iconst 1, 229, 0, 0), (229, .if_icmp .ne 8, 232, 237, 0), (232, .iload 7, 234, 0, 0), (234, .goto 5, 237, 239, 0), (237, .iload 6, 239, 0, 0), (239, .istore 6, 241, 0, 0), (241, .iinc 7 1, 244, 0, 0), (244, .goto (-49), 247, 195, 0), (247, .iload 4, 249, 0, 0), (249, .ifCond .eq 8, 252, 257, 0), (252, .iload 6, 254, 0, 0), (254, .goto 5, 257, 259, 0), (257, .iload 5, 259, 0, 0), (259, .ireturn, 260, 0, 0)]
def kX12_elders : zM := (⟨"ReadAloudModel", "elders", "(IIIZ)I"⟩, prog_14_method_91_code, 8, (some .int), 11, qX12_elders)
def qX12_wordsIn : List zE := [(0, .iload_n 1, 1, 0, 0), (1, .aload_n 0, 2, 0, 0), (2, .getfield 45, 5, 11, 24), (5, .invokestatic 289, 8, 218, 2), (8, .iconst 0, 9, 0, 0), (9, .istore_n 3, 10, 0, 0), (10, .iconst 0, 11, 0, 0), (11, .istore 4, 13, 0, 0), (13, .iload 4, 15, 0, 0), (15, .iload_n 1, 16, 0, 0), (16, .invokestatic 271, 19, 217, 1), (19, .if_icmp .ge 28, 22, 47, 0), (22, .iload_n 3, 23, 0, 0), (23, .aload_n 0, 24, 0, 0), (24, .getfield 45, 27, 11, 24), (27, .iload 4, 29, 0, 0), (29, .iaload, 30, 0, 0), (30, .iload_n 2, 31, 0, 0), (31, .if_icmp .ne 7, 34, 38, 0), (34, .iconst 1, 35, 0, 0), (35, .goto 4, 38, 39, 0), (38, .iconst 0, 39, 0, 0), (39, .iadd, 40, 0, 0), (40, .istore_n 3, 41, 0, 0), (41, .iinc 4 1, 44, 0, 0), (44, .goto (-31), 47, 13, 0), (47, .iload_n 3, 48, 0, 0), (48, .ireturn, 49, 0, 0)]
def kX12_wordsIn : zM := (⟨"ReadAloudModel", "wordsIn", "(II)I"⟩, prog_14_method_92_code, 5, (some .int), 11, qX12_wordsIn)
set_option maxRecDepth 200000 in
def qX12_play_ : List zE := [(0, .aload_n 0, 1, 0, 0), (1, .iconst 0, 2, 0, 0), (2, .putfield 107, 5, 11, 0), (5, .iload_n 2, 6, 0, 0), (6, .iconst 0, 7, 0, 0), (7, .bipush 9, 9, 0, 0), (9, .invokestatic 114, 12, 181, 3), (12, .ifCond .eq 46, 15, 58, 0), (15, .iload_n 3, 16, 0, 0), (16, .iconst 0, 17, 0, 0), (17, .iconst 3, 18, 0, 0), (18, .invokestatic 114, 21, 181, 3), (21, .ifCond .eq 37, 24, 58, 0), (24, .aload_n 0, 25, 0, 0), (25, .iload_n 1, 26, 0, 0), (26, .invokevirtual 299, 29, 214, 1), (29, .ifCond .eq 29, 32, 58, 0), (32, .iload 4, 34, 0, 0), (34, .iconst 0, 35, 0, 0), (35, .aload_n 0, 36, 0, 0), (36, .invokevirtual 407, 39, 264, 0), (39, .invokestatic 114, 42, 181, 3), (42, .ifCond .eq 16, 45, 58, 0), (45, .iload 5, 47, 0, 0), (47, .iconst 0, 48, 0, 0), (48, .aload_n 0, 49, 0, 0), (49, .invokevirtual 407, 52, 264, 0), (52, .invokestatic 114, 55, 181, 3), (55, .ifCond .ne 5, 58, 60, 0), (58, .iconst (-1), 59, 0, 0), (59, .ireturn, 60, 0, 0), (60, .iload_n 2, 61, 0, 0), (61, .ifCond .le 8, 64, 69, 0), (64, .iload 4, 66, 0, 0), (66, .ifCond .eq 13, 69, 79, 0), (69, .iload_n 2, 70, 0, 0), (70, .iconst 1, 71, 0, 0), (71, .if_icmp .le 10, 74, 81, 0), (74, .iload 5, 76, 0, 0), (76, .ifCond .ne 5, 79, 81, 0), (79, .iconst (-1), 80, 0, 0), (80, .ireturn, 81, 0, 0), (81, .aload_n 0, 82, 0, 0), (82, .invokevirtual 362, 85, 245, 0), (85, .iconst 0, 86, 0, 0), (86, .istore 7, 88, 0, 0), (88, .iload 7, 90, 0, 0), (90, .sipush 5461, 93, 0, 0), (93, .if_icmp .ge 23, 96, 116, 0), (96, .aload_n 0, 97, 0, 0), (97, .getfield 76, 100, 11, 40), (100, .iload 7, 102, 0, 0), (102, .aload_n 0, 103, 0, 0), (103, .iload 7, 105, 0, 0), (105, .iload_n 3, 106, 0, 0), (106, .invokevirtual 423, 109, 270, 2), (109, .iastore, 110, 0, 0), (110, .iinc 7 1, 113, 0, 0), (113, .goto (-25), 116, 88, 0), (116, .iconst 1, 117, 0, 0), (117, .istore 7, 119, 0, 0), (119, .iload 7, 121, 0, 0), (121, .iload_n 2, 122, 0, 0), (122, .if_icmp .gt 45, 125, 167, 0), (125, .iload_n 2, 126, 0, 0), (126, .iload 7, 128, 0, 0), (128, .isub, 129, 0, 0), (129, .iconst 2, 130, 0, 0), (130, .irem, 131, 0, 0), (131, .ifCond .ne 7, 134, 138, 0), (134, .iconst 1, 135, 0, 0), (135, .goto 4, 138, 139, 0), (138, .iconst 0, 139, 0, 0), (139, .istore 8, 141, 0, 0), (141, .aload_n 0, 142, 0, 0), (142, .iload 7, 144, 0, 0), (144, .iload 8, 146, 0, 0), (146, .ifCond .eq 8, 149, 154, 0), (149, .iload 4, 151, 0, 0), (151, .goto 5, 154, 156, 0), (154, .iload 5, 156, 0, 0), (156, .iload 8, 158, 0, 0), (158, .invokevirtual 410, 161, 263, 3), (161, .iinc 7 1, 164, 0, 0), (164, .goto (-45), 167, 119, 0), (167, .iload 6, 169, 0, 0), (169, .ifCond .ne 19, 172, 188, 0), (172, .aload_n 0, 173, 0, 0), (173, .getfield 76, 176, 11, 40), (176, .sipush 5461, 179, 0, 0), (179, .iload_n 2, 180, 0, 0), (180, .imul, 181, 0, 0), (181, .aload_n 0, 182, 0, 0), (182, .getfield 265, 185, 11, 22), (185, .iadd, 186, 0, 0), (186, .iaload, 187, 0, 0), (187, .ireturn, 188, 0, 0), (188, .iconst 0, 189, 0, 0), (189, .istore 7, 191, 0, 0), (191, .iload 7, 193, 0, 0), (193, .aload_n 0, 194, 0, 0), (194, .getfield 268, 197, 11, 23), (197, .if_icmp .ge 73, 200, 270, 0), (200, .iload_n 2, 201, 0, 0), (201, .ifCond .le 69, 204, 270, 0), (204, .iload 4, 206, 0, 0), (206, .iload 7, 208, 0, 0), (208, .invokestatic 335, 211, 182, 2), (211, .ifCond .eq 53, 214, 264, 0), (214, .aload_n 0, 215, 0, 0), (215, .getfield 76, 218, 11, 40), (218, .sipush 5461, 221, 0, 0), (221, .iload_n 2, 222, 0, 0), (222, .iconst 1, 223, 0, 0), (223, .isub, 224, 0, 0), (224, .imul, 225, 0, 0), (225, .aload_n 0, 226, 0, 0), (226, .getfield 60, 229, 11, 34), (229, .sipush 5461, 232, 0, 0), (232, .iload 7, 234, 0, 0), (234, .imul, 235, 0, 0), (235, .aload_n 0, 236, 0, 0), (236, .getfield 265, 239, 11, 22), (239, .iadd, 240, 0, 0), (240, .iaload, 241, 0, 0), (241, .iadd, 242, 0, 0), (242, .iaload, 243, 0, 0), (243, .aload_n 0, 244, 0, 0), (244, .getfield 76, 247, 11, 40), (247, .sipush 5461, 250, 0, 0), (250, .iload_n 2, 251, 0, 0), (251, .imul, 252, 0, 0), (252, .aload_n 0, 253, 0, 0), (253, .getfield 265, 256, 11, 22), (256, .iadd, 257, 0, 0), (257, .iaload, 258, 0, 0), (258, .if_icmp .ne 6, 261, 264, 0), (261, .iload 7, 263, 0, 0), (263, .ireturn, 264, 0, 0), (264, .iinc 7 1, 267, 0, 0), (267, .goto (-76), 270, 191, 0), (270, .iconst (-1), 271, 0, 0), (271, .ireturn, 272, 0, 0)]
def kX12_play_ : zM := (⟨"ReadAloudModel", "play", "(IIIIIZ)I"⟩, prog_14_method_93_code, 9, (some .int), 11, qX12_play_)
def qX12_facts : List zE := [(0, .aload_n 0, 1, 0, 0), (1, .getfield 32, 4, 11, 8), (4, .bipush 13, 6, 0, 0), (6, .aload_n 0, 7, 0, 0), (7, .getfield 426, 10, 11, 41), (10, .imul, 11, 0, 0), (11, .iaload, 12, 0, 0), (12, .ireturn, 13, 0, 0)]
def kX12_facts : zM := (⟨"ReadAloudModel", "facts", "()I"⟩, prog_14_method_94_code, 1, (some .int), 11, qX12_facts)
def qX12_factOf : List zE := [(0, .aload_n 0, 1, 0, 0), (1, .getfield 32, 4, 11, 8), (4, .bipush 13, 6, 0, 0), (6, .aload_n 0, 7, 0, 0), (7, .getfield 426, 10, 11, 41), (10, .imul, 11, 0, 0), (11, .iconst 1, 12, 0, 0), (12, .iadd, 13, 0, 0), (13, .iconst 2, 14, 0, 0), (14, .iload_n 1, 15, 0, 0), (15, .imul, 16, 0, 0), (16, .iadd, 17, 0, 0), (17, .iload_n 2, 18, 0, 0), (18, .iadd, 19, 0, 0), (19, .iaload, 20, 0, 0), (20, .ireturn, 21, 0, 0)]
def kX12_factOf : zM := (⟨"ReadAloudModel", "factOf", "(II)I"⟩, prog_14_method_95_code, 3, (some .int), 11, qX12_factOf)
def qX12_hasSight : List zE := [(0, .aload_n 0, 1, 0, 0), (1, .iload_n 1, 2, 0, 0), (2, .putfield 426, 5, 11, 41), (5, .aload_n 0, 6, 0, 0), (6, .iconst 2, 7, 0, 0), (7, .iload_n 1, 8, 0, 0), (8, .invokevirtual 249, 11, 187, 2), (11, .ireturn, 12, 0, 0)]
def kX12_hasSight : zM := (⟨"ReadAloudModel", "hasSight", "(I)Z"⟩, prog_14_method_96_code, 2, (some .boolean), 11, qX12_hasSight)
def qX12_fact : List zE := [(0, .aload_n 0, 1, 0, 0), (1, .iconst 0, 2, 0, 0), (2, .putfield 107, 5, 11, 0), (5, .aload_n 0, 6, 0, 0), (6, .iload_n 1, 7, 0, 0), (7, .invokevirtual 429, 10, 274, 1), (10, .ifCond .ne 6, 13, 16, 0), (13, .bipush (-2), 15, 0, 0), (15, .ireturn, 16, 0, 0), (16, .iload_n 2, 17, 0, 0), (17, .iconst (-1), 18, 0, 0), (18, .if_icmp .ne 17, 21, 35, 0), (21, .iload_n 3, 22, 0, 0), (22, .ifCond .ne 10, 25, 32, 0), (25, .aload_n 0, 26, 0, 0), (26, .invokevirtual 432, 29, 272, 0), (29, .goto 5, 32, 34, 0), (32, .bipush (-2), 34, 0, 0), (34, .ireturn, 35, 0, 0), (35, .iload_n 2, 36, 0, 0), (36, .iconst 0, 37, 0, 0), (37, .aload_n 0, 38, 0, 0), (38, .invokevirtual 432, 41, 272, 0), (41, .iconst 1, 42, 0, 0), (42, .isub, 43, 0, 0), (43, .invokestatic 114, 46, 181, 3), (46, .ifCond .eq 21, 49, 67, 0), (49, .iload_n 3, 50, 0, 0), (50, .iconst 0, 51, 0, 0), (51, .iconst 1, 52, 0, 0), (52, .invokestatic 114, 55, 181, 3), (55, .ifCond .eq 12, 58, 67, 0), (58, .aload_n 0, 59, 0, 0), (59, .iload_n 2, 60, 0, 0), (60, .iload_n 3, 61, 0, 0), (61, .invokevirtual 435, 64, 273, 2), (64, .goto 5, 67, 69, 0), (67, .bipush (-2), 69, 0, 0), (69, .ireturn, 70, 0, 0)]
def kX12_fact : zM := (⟨"ReadAloudModel", "fact", "(III)I"⟩, prog_14_method_97_code, 4, (some .int), 11, qX12_fact)
def qX12_mayBe : List zE := [(0, .iconst 0, 1, 0, 0), (1, .istore_n 3, 2, 0, 0), (2, .iload_n 3, 3, 0, 0), (3, .aload_n 0, 4, 0, 0), (4, .invokevirtual 432, 7, 272, 0), (7, .if_icmp .ge 31, 10, 38, 0), (10, .aload_n 0, 11, 0, 0), (11, .iload_n 3, 12, 0, 0), (12, .iconst 0, 13, 0, 0), (13, .invokevirtual 435, 16, 273, 2), (16, .iload_n 2, 17, 0, 0), (17, .if_icmp .ne 15, 20, 32, 0), (20, .aload_n 0, 21, 0, 0), (21, .iload_n 3, 22, 0, 0), (22, .iconst 1, 23, 0, 0), (23, .invokevirtual 435, 26, 273, 2), (26, .iload_n 1, 27, 0, 0), (27, .if_icmp .eq 5, 30, 32, 0), (30, .iconst 0, 31, 0, 0), (31, .ireturn, 32, 0, 0), (32, .iinc 3 1, 35, 0, 0), (35, .goto (-33), 38, 2, 0), (38, .iconst 1, 39, 0, 0), (39, .ireturn, 40, 0, 0)]
def kX12_mayBe : zM := (⟨"ReadAloudModel", "mayBe", "(II)Z"⟩, prog_14_method_98_code, 4, (some .boolean), 11, qX12_mayBe)
def qX12_findRows_0 : List zE := [(0, .iconst 0, 1, 0, 0), (1, .istore_n 2, 2, 0, 0), (2, .iload_n 2, 3, 0, 0), (3, .iload_n 1, 4, 0, 0), (4, .if_icmp .gt 62, 7, 66, 0), (7, .iconst 0, 8, 0, 0), (8, .istore_n 3, 9, 0, 0), (9, .iload_n 3, 10, 0, 0), (10, .sipush 5461, 13, 0, 0), (13, .if_icmp .ge 47, 16, 60, 0), (16, .aload_n 0, 17, 0, 0), (17, .getfield 79, 20, 11, 42), (20, .sipush 5461, 23, 0, 0), (23, .iload_n 2, 24, 0, 0), (24, .imul, 25, 0, 0), (25, .iload_n 3, 26, 0, 0), (26, .iadd, 27, 0, 0), (27, .iload_n 2, 28, 0, 0), (28, .ifCond .ne 24, 31, 52, 0), (31, .iload_n 3, 32, 0, 0), (32, .aload_n 0, 33, 0, 0), (33, .getfield 265, 36, 11, 22), (36, .if_icmp .ne 16, 39, 52, 0), (39, .aload_n 0, 40, 0, 0), (40, .iload_n 3, 41, 0, 0), (41, .iconst 0, 42, 0, 0), (42, .invokevirtual 438, 45, 276, 2), (45, .ifCond .eq 7, 48, 52, 0), (48, .iconst 1, 49, 0, 0), (49, .goto 4, 52, 53, 0), (52, .iconst 0, 53, 0, 0), (53, .iastore, 54, 0, 0), (54, .iinc 3 1, 57, 0, 0), (57, .goto (-48), 60, 9, 0), (60, .iinc 2 1, 63, 0, 0), (63, .goto (-61), 66, 2, 0), (66, .iconst 0, 67, 0, 0), (67, .istore_n 2, 68, 0, 0), (68, .iload_n 2, 69, 0, 0), (69, .iload_n 1, 70, 0, 0), (70, .if_icmp .ge 96, 73, 166, 0), (73, .iconst 0, 74, 0, 0), (74, .istore_n 3, 75, 0, 0), (75, .iload_n 3, 76, 0, 0), (76, .sipush 5461, 79, 0, 0), (79, .aload_n 0, 80, 0, 0), (80, .getfield 268, 83, 11, 23), (83, .imul, 84, 0, 0), (84, .if_icmp .ge 76, 87, 160, 0), (87, .aload_n 0, 88, 0, 0)]
def qX12_findRows_1 : List zE := [(88, .getfield 79, 91, 11, 42), (91, .sipush 5461, 94, 0, 0), (94, .iload_n 2, 95, 0, 0), (95, .imul, 96, 0, 0), (96, .iload_n 3, 97, 0, 0), (97, .sipush 5461, 100, 0, 0), (100, .irem, 101, 0, 0), (101, .iadd, 102, 0, 0), (102, .iaload, 103, 0, 0), (103, .istore 4, 105, 0, 0), (105, .aload_n 0, 106, 0, 0), (106, .getfield 79, 109, 11, 42), (109, .sipush 5461, 112, 0, 0), (112, .iload_n 2, 113, 0, 0), (113, .iconst 1, 114, 0, 0), (114, .iadd, 115, 0, 0), (115, .imul, 116, 0, 0), (116, .aload_n 0, 117, 0, 0), (117, .getfield 60, 120, 11, 34), (120, .iload_n 3, 121, 0, 0), (121, .iaload, 122, 0, 0), (122, .iadd, 123, 0, 0), (123, .dup2, 124, 0, 0), (124, .iaload, 125, 0, 0), (125, .iload 4, 127, 0, 0), (127, .ifCond .le 24, 130, 151, 0), (130, .aload_n 0, 131, 0, 0), (131, .aload_n 0, 132, 0, 0), (132, .getfield 60, 135, 11, 34), (135, .iload_n 3, 136, 0, 0), (136, .iaload, 137, 0, 0), (137, .iload_n 2, 138, 0, 0), (138, .iconst 1, 139, 0, 0), (139, .iadd, 140, 0, 0), (140, .invokevirtual 438, 143, 276, 2), (143, .ifCond .eq 8, 146, 151, 0), (146, .iload 4, 148, 0, 0), (148, .goto 4, 151, 152, 0), (151, .iconst 0, 152, 0, 0), (152, .iadd, 153, 0, 0), (153, .iastore, 154, 0, 0), (154, .iinc 3 1, 157, 0, 0), (157, .goto (-82), 160, 75, 0), (160, .iinc 2 1, 163, 0, 0), (163, .goto (-95), 166, 68, 0), (166, .iload_n 1, 167, 0, 0), (167, .istore_n 2, 168, 0, 0), (168, .iload_n 2, 169, 0, 0), (169, .ifCond .lt 117, 172, 286, 0), (172, .iconst 0, 173, 0, 0)]
def qX12_findRows_2 : List zE := [(173, .istore_n 3, 174, 0, 0), (174, .iload_n 3, 175, 0, 0), (175, .sipush 5461, 178, 0, 0), (178, .if_icmp .ge 102, 181, 280, 0), (181, .iload_n 2, 182, 0, 0), (182, .iload_n 1, 183, 0, 0), (183, .if_icmp .ne 7, 186, 190, 0), (186, .iconst 1, 187, 0, 0), (187, .goto 4, 190, 191, 0), (190, .iconst 0, 191, 0, 0), (191, .istore 4, 193, 0, 0), (193, .iconst 0, 194, 0, 0), (194, .istore 5, 196, 0, 0), (196, .iload 5, 198, 0, 0), (198, .aload_n 0, 199, 0, 0), (199, .getfield 268, 202, 11, 23), (202, .if_icmp .ge 45, 205, 247, 0), (205, .iload_n 2, 206, 0, 0), (206, .iload_n 1, 207, 0, 0), (207, .if_icmp .ge 40, 210, 247, 0), (210, .iload 4, 212, 0, 0), (212, .aload_n 0, 213, 0, 0), (213, .getfield 82, 216, 11, 43), (216, .sipush 5461, 219, 0, 0), (219, .iload_n 2, 220, 0, 0), (220, .iconst 1, 221, 0, 0), (221, .iadd, 222, 0, 0), (222, .imul, 223, 0, 0), (223, .aload_n 0, 224, 0, 0), (224, .getfield 60, 227, 11, 34), (227, .sipush 5461, 230, 0, 0), (230, .iload 5, 232, 0, 0), (232, .imul, 233, 0, 0), (233, .iload_n 3, 234, 0, 0), (234, .iadd, 235, 0, 0), (235, .iaload, 236, 0, 0), (236, .iadd, 237, 0, 0), (237, .iaload, 238, 0, 0), (238, .iadd, 239, 0, 0), (239, .istore 4, 241, 0, 0), (241, .iinc 5 1, 244, 0, 0), (244, .goto (-48), 247, 196, 0), (247, .aload_n 0, 248, 0, 0), (248, .getfield 82, 251, 11, 43), (251, .sipush 5461, 254, 0, 0), (254, .iload_n 2, 255, 0, 0), (255, .imul, 256, 0, 0), (256, .iload_n 3, 257, 0, 0), (257, .iadd, 258, 0, 0), (258, .aload_n 0, 259, 0, 0)]
def qX12_findRows_3 : List zE := [(259, .iload_n 3, 260, 0, 0), (260, .iload_n 2, 261, 0, 0), (261, .invokevirtual 438, 264, 276, 2), (264, .ifCond .eq 8, 267, 272, 0), (267, .iload 4, 269, 0, 0), (269, .goto 4, 272, 273, 0), (272, .iconst 0, 273, 0, 0), (273, .iastore, 274, 0, 0), (274, .iinc 3 1, 277, 0, 0), (277, .goto (-103), 280, 174, 0), (280, .iinc 2 (-1), 283, 0, 0), (283, .goto (-115), 286, 168, 0), (286, .return_, 287, 0, 0)]
def qX12_findRows : List zE := qX12_findRows_0 ++ (qX12_findRows_1 ++ (qX12_findRows_2 ++ (qX12_findRows_3)))
def kX12_findRows : zM := (⟨"ReadAloudModel", "findRows", "(I)V"⟩, prog_14_method_99_code, 6, none, 11, qX12_findRows)
def qX12_allRows : List zE := [(0, .aload_n 0, 1, 0, 0), (1, .getfield 82, 4, 11, 43), (4, .aload_n 0, 5, 0, 0), (5, .getfield 265, 8, 11, 22), (8, .iaload, 9, 0, 0), (9, .ireturn, 10, 0, 0)]
def kX12_allRows : zM := (⟨"ReadAloudModel", "allRows", "()I"⟩, prog_14_method_100_code, 1, (some .int), 11, qX12_allRows)
def qX12_fits : List zE := [(0, .aload_n 0, 1, 0, 0), (1, .iconst 0, 2, 0, 0), (2, .putfield 107, 5, 11, 0), (5, .iload_n 3, 6, 0, 0), (6, .iconst 0, 7, 0, 0), (7, .bipush 9, 9, 0, 0), (9, .invokestatic 114, 12, 181, 3), (12, .ifCond .eq 33, 15, 45, 0), (15, .iload 4, 17, 0, 0), (17, .iconst (-1), 18, 0, 0), (18, .if_icmp .eq 11, 21, 29, 0), (21, .iload 4, 23, 0, 0), (23, .invokestatic 302, 26, 215, 1), (26, .ifCond .eq 19, 29, 45, 0), (29, .aload_n 0, 30, 0, 0), (30, .iload_n 2, 31, 0, 0), (31, .invokevirtual 429, 34, 274, 1), (34, .ifCond .eq 11, 37, 45, 0), (37, .aload_n 0, 38, 0, 0), (38, .iload_n 1, 39, 0, 0), (39, .invokevirtual 369, 42, 246, 1), (42, .ifCond .ne 5, 45, 47, 0), (45, .iconst (-1), 46, 0, 0), (46, .ireturn, 47, 0, 0), (47, .aload_n 0, 48, 0, 0), (48, .iload_n 3, 49, 0, 0), (49, .invokevirtual 441, 52, 277, 1), (52, .iload 4, 54, 0, 0), (54, .iconst (-1), 55, 0, 0), (55, .if_icmp .ne 10, 58, 65, 0), (58, .aload_n 0, 59, 0, 0), (59, .invokevirtual 444, 62, 278, 0), (62, .goto 16, 65, 78, 0), (65, .aload_n 0, 66, 0, 0), (66, .getfield 79, 69, 11, 42), (69, .sipush 5461, 72, 0, 0), (72, .iload_n 3, 73, 0, 0), (73, .imul, 74, 0, 0), (74, .iload 4, 76, 0, 0), (76, .iadd, 77, 0, 0), (77, .iaload, 78, 0, 0), (78, .ireturn, 79, 0, 0)]
def kX12_fits : zM := (⟨"ReadAloudModel", "fits", "(IIII)I"⟩, prog_14_method_101_code, 5, (some .int), 11, qX12_fits)
def qX12_look : List zE := [(0, .iconst (-1), 1, 0, 0), (1, .istore_n 2, 2, 0, 0), (2, .iconst 0, 3, 0, 0), (3, .istore_n 3, 4, 0, 0), (4, .iconst 0, 5, 0, 0), (5, .istore 4, 7, 0, 0), (7, .iload 4, 9, 0, 0), (9, .iload_n 1, 10, 0, 0), (10, .if_icmp .gt 129, 13, 139, 0), (13, .iconst 0, 14, 0, 0), (14, .istore 5, 16, 0, 0), (16, .iconst 0, 17, 0, 0), (17, .istore 6, 19, 0, 0), (19, .iload 6, 21, 0, 0), (21, .sipush 5461, 24, 0, 0), (24, .if_icmp .ge 67, 27, 91, 0), (27, .aload_n 0, 28, 0, 0), (28, .getfield 79, 31, 11, 42), (31, .sipush 5461, 34, 0, 0), (34, .iload 4, 36, 0, 0), (36, .imul, 37, 0, 0), (37, .iload 6, 39, 0, 0), (39, .iadd, 40, 0, 0), (40, .iaload, 41, 0, 0), (41, .ifCond .ne 8, 44, 49, 0), (44, .iload 5, 46, 0, 0), (46, .goto 37, 49, 83, 0), (49, .iload 5, 51, 0, 0), (51, .aload_n 0, 52, 0, 0), (52, .getfield 79, 55, 11, 42), (55, .sipush 5461, 58, 0, 0), (58, .iload 4, 60, 0, 0), (60, .imul, 61, 0, 0), (61, .iload 6, 63, 0, 0), (63, .iadd, 64, 0, 0), (64, .iaload, 65, 0, 0), (65, .aload_n 0, 66, 0, 0), (66, .getfield 82, 69, 11, 43), (69, .sipush 5461, 72, 0, 0), (72, .iload 4, 74, 0, 0), (74, .imul, 75, 0, 0), (75, .iload 6, 77, 0, 0), (77, .iadd, 78, 0, 0), (78, .iaload, 79, 0, 0), (79, .imul, 80, 0, 0), (80, .invokestatic 385, 83, 183, 2), (83, .istore 5, 85, 0, 0), (85, .iinc 6 1, 88, 0, 0), (88, .goto (-69), 91, 19, 0), (91, .iload_n 2, 92, 0, 0), (92, .iconst (-1), 93, 0, 0), (93, .if_icmp .eq 9, 96, 102, 0), (96, .iload 5, 98, 0, 0), (98, .iload_n 3, 99, 0, 0), (99, .if_icmp .ge 7, 102, 106, 0), (102, .iconst 1, 103, 0, 0), (103, .goto 4, 106, 107, 0), (106, .iconst 0, 107, 0, 0), (107, .istore 6, 109, 0, 0), (109, .iload 6, 111, 0, 0), (111, .ifCond .eq 8, 114, 119, 0), (114, .iload 4, 116, 0, 0), (116, .goto 4, 119, 120, 0), (119, .iload_n 2, 120, 0, 0), (120, .istore_n 2, 121, 0, 0), (121, .iload 6, 123, 0, 0), (123, .ifCond .eq 8, 126, 131, 0), (126, .iload 5, 128, 0, 0), (128, .goto 4, 131, 132, 0), (131, .iload_n 3, 132, 0, 0), (132, .istore_n 3, 133, 0, 0), (133, .iinc 4 1, 136, 0, 0), (136, .goto (-129), 139, 7, 0), (139, .iload_n 2, 140, 0, 0), (140, .ireturn, 141, 0, 0)]
def kX12_look : zM := (⟨"ReadAloudModel", "look", "(I)I"⟩, prog_14_method_102_code, 7, (some .int), 11, qX12_look)
def qX12_rowsOf : List zE := [(0, .iconst 0, 1, 0, 0), (1, .istore_n 3, 2, 0, 0), (2, .iconst 0, 3, 0, 0), (3, .istore 4, 5, 0, 0), (5, .iload 4, 7, 0, 0), (7, .sipush 5461, 10, 0, 0), (10, .if_icmp .ge 72, 13, 82, 0), (13, .iload_n 3, 14, 0, 0), (14, .aload_n 0, 15, 0, 0), (15, .getfield 79, 18, 11, 42), (18, .sipush 5461, 21, 0, 0), (21, .iload_n 1, 22, 0, 0), (22, .imul, 23, 0, 0), (23, .iload 4, 25, 0, 0), (25, .iadd, 26, 0, 0), (26, .iaload, 27, 0, 0), (27, .ifCond .ne 7, 30, 34, 0), (30, .iconst 0, 31, 0, 0), (31, .goto 43, 34, 74, 0), (34, .aload_n 0, 35, 0, 0), (35, .getfield 79, 38, 11, 42), (38, .sipush 5461, 41, 0, 0), (41, .iload_n 1, 42, 0, 0), (42, .imul, 43, 0, 0), (43, .iload 4, 45, 0, 0), (45, .iadd, 46, 0, 0), (46, .iaload, 47, 0, 0), (47, .aload_n 0, 48, 0, 0), (48, .getfield 82, 51, 11, 43), (51, .sipush 5461, 54, 0, 0), (54, .iload_n 1, 55, 0, 0), (55, .iconst 1, 56, 0, 0), (56, .iadd, 57, 0, 0), (57, .imul, 58, 0, 0), (58, .aload_n 0, 59, 0, 0), (59, .getfield 60, 62, 11, 34), (62, .sipush 5461, 65, 0, 0), (65, .iload_n 2, 66, 0, 0), (66, .imul, 67, 0, 0), (67, .iload 4, 69, 0, 0), (69, .iadd, 70, 0, 0), (70, .iaload, 71, 0, 0), (71, .iadd, 72, 0, 0), (72, .iaload, 73, 0, 0), (73, .imul, 74, 0, 0), (74, .iadd, 75, 0, 0), (75, .istore_n 3, 76, 0, 0), (76, .iinc 4 1, 79, 0, 0), (79, .goto (-74), 82, 5, 0), (82, .iload_n 3, 83, 0, 0), (83, .ireturn, 84, 0, 0)]
def kX12_rowsOf : zM := (⟨"ReadAloudModel", "rowsOf", "(II)I"⟩, prog_14_method_103_code, 5, (some .int), 11, qX12_rowsOf)
def qX12_sure : List zE := [(0, .aload_n 0, 1, 0, 0), (1, .iconst 0, 2, 0, 0), (2, .putfield 107, 5, 11, 0), (5, .iload_n 3, 6, 0, 0), (6, .iconst 0, 7, 0, 0), (7, .bipush 9, 9, 0, 0), (9, .invokestatic 114, 12, 181, 3), (12, .ifCond .eq 31, 15, 43, 0), (15, .iload 4, 17, 0, 0), (17, .iconst (-1), 18, 0, 0), (18, .iload_n 3, 19, 0, 0), (19, .iconst 1, 20, 0, 0), (20, .isub, 21, 0, 0), (21, .invokestatic 114, 24, 181, 3), (24, .ifCond .eq 19, 27, 43, 0), (27, .aload_n 0, 28, 0, 0), (28, .iload_n 2, 29, 0, 0), (29, .invokevirtual 429, 32, 274, 1), (32, .ifCond .eq 11, 35, 43, 0), (35, .aload_n 0, 36, 0, 0), (36, .iload_n 1, 37, 0, 0), (37, .invokevirtual 369, 40, 246, 1), (40, .ifCond .ne 5, 43, 45, 0), (43, .iconst (-1), 44, 0, 0), (44, .ireturn, 45, 0, 0), (45, .aload_n 0, 46, 0, 0), (46, .iload_n 3, 47, 0, 0), (47, .invokevirtual 441, 50, 277, 1), (50, .aload_n 0, 51, 0, 0), (51, .invokevirtual 444, 54, 278, 0), (54, .ifCond .ne 5, 57, 59, 0), (57, .iconst (-1), 58, 0, 0), (58, .ireturn, 59, 0, 0), (59, .iload 4, 61, 0, 0), (61, .iconst (-1), 62, 0, 0), (62, .if_icmp .ne 9, 65, 71, 0), (65, .aload_n 0, 66, 0, 0), (66, .iload_n 3, 67, 0, 0), (67, .invokevirtual 447, 70, 280, 1), (70, .ireturn, 71, 0, 0), (71, .iconst 0, 72, 0, 0), (72, .istore 5, 74, 0, 0), (74, .iload 5, 76, 0, 0), (76, .aload_n 0, 77, 0, 0), (77, .getfield 268, 80, 11, 23), (80, .if_icmp .ge 27, 83, 107, 0), (83, .aload_n 0, 84, 0, 0), (84, .iload 4, 86, 0, 0), (86, .iload 5, 88, 0, 0), (88, .invokevirtual 450, 91, 281, 2), (91, .aload_n 0, 92, 0, 0), (92, .invokevirtual 444, 95, 278, 0), (95, .if_icmp .ne 6, 98, 101, 0), (98, .iload 5, 100, 0, 0), (100, .ireturn, 101, 0, 0), (101, .iinc 5 1, 104, 0, 0), (104, .goto (-30), 107, 74, 0), (107, .iconst (-1), 108, 0, 0), (108, .ireturn, 109, 0, 0)]
def kX12_sure : zM := (⟨"ReadAloudModel", "sure", "(IIII)I"⟩, prog_14_method_104_code, 6, (some .int), 11, qX12_sure)
def qX12_draw : List zE := [(0, .aload_n 0, 1, 0, 0), (1, .aload_n 0, 2, 0, 0), (2, .getfield 453, 5, 11, 44), (5, .ldc_w 456, 8, 1103515245, 0), (8, .imul, 9, 0, 0), (9, .sipush 12345, 12, 0, 0), (12, .iadd, 13, 0, 0), (13, .putfield 453, 16, 11, 44), (16, .aload_n 0, 17, 0, 0), (17, .getfield 453, 20, 11, 44), (20, .bipush 16, 22, 0, 0), (22, .iushr, 23, 0, 0), (23, .iload_n 1, 24, 0, 0), (24, .irem, 25, 0, 0), (25, .ireturn, 26, 0, 0)]
def kX12_draw : zM := (⟨"ReadAloudModel", "draw", "(I)I"⟩, prog_14_method_105_code, 2, (some .int), 11, qX12_draw)
def qX12_drawDeed : List zE := [(0, .aload_n 0, 1, 0, 0), (1, .iconst 4, 2, 0, 0), (2, .invokevirtual 457, 5, 283, 1), (5, .istore_n 1, 6, 0, 0), (6, .aload_n 0, 7, 0, 0), (7, .bipush 8, 9, 0, 0), (9, .invokevirtual 457, 12, 283, 1), (12, .istore_n 2, 13, 0, 0), (13, .iload_n 2, 14, 0, 0), (14, .iconst 5, 15, 0, 0), (15, .if_icmp .ge 27, 18, 42, 0), (18, .aload_n 0, 19, 0, 0), (19, .getfield 268, 22, 11, 23), (22, .ifCond .le 20, 25, 42, 0), (25, .aload_n 0, 26, 0, 0), (26, .iload_n 1, 27, 0, 0), (27, .aload_n 0, 28, 0, 0), (28, .aload_n 0, 29, 0, 0), (29, .getfield 268, 32, 11, 23), (32, .invokevirtual 457, 35, 283, 1), (35, .invokevirtual 338, 38, 236, 2), (38, .pop, 39, 0, 0), (39, .goto 53, 42, 92, 0), (42, .iload_n 2, 43, 0, 0), (43, .iconst 5, 44, 0, 0), (44, .if_icmp .ne 22, 47, 66, 0), (47, .aload_n 0, 48, 0, 0), (48, .getfield 54, 51, 11, 29), (51, .aload_n 0, 52, 0, 0), (52, .iconst 4, 53, 0, 0), (53, .invokevirtual 457, 56, 283, 1), (56, .aload_n 0, 57, 0, 0), (57, .getfield 54, 60, 11, 29), (60, .iload_n 1, 61, 0, 0), (61, .iaload, 62, 0, 0), (62, .iastore, 63, 0, 0), (63, .goto 29, 66, 92, 0), (66, .iload_n 2, 67, 0, 0), (67, .bipush 6, 69, 0, 0), (69, .if_icmp .ne 12, 72, 81, 0), (72, .aload_n 0, 73, 0, 0), (73, .iload_n 1, 74, 0, 0), (74, .invokevirtual 341, 77, 237, 1), (77, .pop, 78, 0, 0), (78, .goto 14, 81, 92, 0), (81, .iload_n 2, 82, 0, 0), (82, .bipush 7, 84, 0, 0), (84, .if_icmp .ne 8, 87, 92, 0), (87, .aload_n 0, 88, 0, 0), (88, .invokevirtual 344, 91, 238, 0), (91, .pop, 92, 0, 0), (92, .return_, 93, 0, 0)]
def kX12_drawDeed : zM := (⟨"ReadAloudModel", "drawDeed", "()V"⟩, prog_14_method_106_code, 3, none, 11, qX12_drawDeed)
def qX12_drawn : List zE := [(0, .aload_n 0, 1, 0, 0), (1, .iconst 0, 2, 0, 0), (2, .putfield 107, 5, 11, 0), (5, .iload_n 3, 6, 0, 0), (6, .iconst 0, 7, 0, 0), (7, .bipush 60, 9, 0, 0), (9, .invokestatic 114, 12, 181, 3), (12, .ifCond .eq 11, 15, 23, 0), (15, .aload_n 0, 16, 0, 0), (16, .iload_n 1, 17, 0, 0), (17, .invokevirtual 299, 20, 214, 1), (20, .ifCond .ne 6, 23, 26, 0), (23, .bipush (-2), 25, 0, 0), (25, .ireturn, 26, 0, 0), (26, .aload_n 0, 27, 0, 0), (27, .iload_n 2, 28, 0, 0), (28, .putfield 453, 31, 11, 44), (31, .aload_n 0, 32, 0, 0), (32, .invokevirtual 347, 35, 235, 0), (35, .iconst 0, 36, 0, 0), (36, .istore 5, 38, 0, 0), (38, .iload 5, 40, 0, 0), (40, .iload_n 3, 41, 0, 0), (41, .if_icmp .ge 13, 44, 54, 0), (44, .aload_n 0, 45, 0, 0), (45, .invokevirtual 460, 48, 284, 0), (48, .iinc 5 1, 51, 0, 0), (51, .goto (-13), 54, 38, 0), (54, .aload_n 0, 55, 0, 0), (55, .iload 4, 57, 0, 0), (57, .invokevirtual 359, 60, 243, 1), (60, .ireturn, 61, 0, 0)]
def kX12_drawn : zM := (⟨"ReadAloudModel", "drawn", "(IIII)I"⟩, prog_14_method_107_code, 6, (some .int), 11, qX12_drawn)
def qX12_kinship : List zE := [(0, .aload_n 0, 1, 0, 0), (1, .iconst 0, 2, 0, 0), (2, .putfield 107, 5, 11, 0), (5, .aload_n 0, 6, 0, 0), (6, .iload_n 1, 7, 0, 0), (7, .invokevirtual 299, 10, 214, 1), (10, .ifCond .eq 12, 13, 22, 0), (13, .iload_n 2, 14, 0, 0), (14, .iconst 0, 15, 0, 0), (15, .iconst 3, 16, 0, 0), (16, .invokestatic 114, 19, 181, 3), (19, .ifCond .ne 5, 22, 24, 0), (22, .iconst (-1), 23, 0, 0), (23, .ireturn, 24, 0, 0), (24, .iconst 0, 25, 0, 0), (25, .istore 4, 27, 0, 0), (27, .iload_n 2, 28, 0, 0), (28, .istore 5, 30, 0, 0), (30, .aload_n 0, 31, 0, 0), (31, .iload 5, 33, 0, 0), (33, .invokevirtual 463, 36, 287, 1), (36, .ifCond .ne 19, 39, 55, 0), (39, .aload_n 0, 40, 0, 0), (40, .iconst 2, 41, 0, 0), (41, .iload 5, 43, 0, 0), (43, .iadd, 44, 0, 0), (44, .invokevirtual 262, 47, 213, 1), (47, .istore 5, 49, 0, 0), (49, .iinc 4 1, 52, 0, 0), (52, .goto (-22), 55, 30, 0), (55, .iload_n 3, 56, 0, 0), (56, .ifCond .eq 12, 59, 68, 0), (59, .aload_n 0, 60, 0, 0), (60, .iload 5, 62, 0, 0), (62, .invokevirtual 463, 65, 287, 1), (65, .goto 5, 68, 70, 0), (68, .iload 4, 70, 0, 0), (70, .ireturn, 71, 0, 0)]
def kX12_kinship : zM := (⟨"ReadAloudModel", "kinship", "(IIZ)I"⟩, prog_14_method_108_code, 6, (some .int), 11, qX12_kinship)
def qX12_kinRing : List zE := [(0, .aload_n 0, 1, 0, 0), (1, .iconst 2, 2, 0, 0), (2, .iload_n 1, 3, 0, 0), (3, .iadd, 4, 0, 0), (4, .invokevirtual 262, 7, 213, 1), (7, .istore_n 2, 8, 0, 0), (8, .iconst 1, 9, 0, 0), (9, .istore_n 3, 10, 0, 0), (10, .iload_n 2, 11, 0, 0), (11, .iload_n 1, 12, 0, 0), (12, .if_icmp .eq 22, 15, 34, 0), (15, .iload_n 3, 16, 0, 0), (16, .iconst 4, 17, 0, 0), (17, .if_icmp .gt 17, 20, 34, 0), (20, .aload_n 0, 21, 0, 0), (21, .iconst 2, 22, 0, 0), (22, .iload_n 2, 23, 0, 0), (23, .iadd, 24, 0, 0), (24, .invokevirtual 262, 27, 213, 1), (27, .istore_n 2, 28, 0, 0), (28, .iinc 3 1, 31, 0, 0), (31, .goto (-21), 34, 10, 0), (34, .iload_n 2, 35, 0, 0), (35, .iload_n 1, 36, 0, 0), (36, .if_icmp .ne 7, 39, 43, 0), (39, .iload_n 3, 40, 0, 0), (40, .goto 4, 43, 44, 0), (43, .iconst 0, 44, 0, 0), (44, .ireturn, 45, 0, 0)]
def kX12_kinRing : zM := (⟨"ReadAloudModel", "kinRing", "(I)I"⟩, prog_14_method_109_code, 4, (some .int), 11, qX12_kinRing)
def qX12_someOf : List zE := [(0, .iload_n 1, 1, 0, 0), (1, .aload_n 0, 2, 0, 0), (2, .getfield 45, 5, 11, 24), (5, .invokestatic 289, 8, 218, 2), (8, .iconst 0, 9, 0, 0), (9, .istore_n 3, 10, 0, 0), (10, .iconst 0, 11, 0, 0), (11, .istore 4, 13, 0, 0), (13, .iload 4, 15, 0, 0), (15, .iload_n 1, 16, 0, 0), (16, .invokestatic 271, 19, 217, 1), (19, .if_icmp .ge 34, 22, 53, 0), (22, .iload_n 2, 23, 0, 0), (23, .iload 4, 25, 0, 0), (25, .invokestatic 335, 28, 182, 2), (28, .ifCond .eq 19, 31, 47, 0), (31, .aload_n 0, 32, 0, 0), (32, .getfield 45, 35, 11, 24), (35, .iload_n 3, 36, 0, 0), (36, .aload_n 0, 37, 0, 0), (37, .getfield 45, 40, 11, 24), (40, .iload 4, 42, 0, 0), (42, .iaload, 43, 0, 0), (43, .iastore, 44, 0, 0), (44, .iinc 3 1, 47, 0, 0), (47, .iinc 4 1, 50, 0, 0), (50, .goto (-37), 53, 13, 0), (53, .aload_n 0, 54, 0, 0), (54, .iload_n 3, 55, 0, 0), (55, .invokevirtual 296, 58, 219, 1), (58, .ireturn, 59, 0, 0)]
def kX12_someOf : zM := (⟨"ReadAloudModel", "someOf", "(II)I"⟩, prog_14_method_110_code, 5, (some .int), 11, qX12_someOf)
def qX12_isLeft : List zE := [(0, .iconst 0, 1, 0, 0), (1, .istore_n 3, 2, 0, 0), (2, .iload_n 3, 3, 0, 0), (3, .iconst 1, 4, 0, 0), (4, .iload_n 1, 5, 0, 0), (5, .invokestatic 271, 8, 217, 1), (8, .ishl, 9, 0, 0), (9, .if_icmp .ge 21, 12, 30, 0), (12, .aload_n 0, 13, 0, 0), (13, .iload_n 1, 14, 0, 0), (14, .iload_n 3, 15, 0, 0), (15, .invokevirtual 466, 18, 288, 2), (18, .iload_n 2, 19, 0, 0), (19, .if_icmp .ne 5, 22, 24, 0), (22, .iconst 1, 23, 0, 0), (23, .ireturn, 24, 0, 0), (24, .iinc 3 1, 27, 0, 0), (27, .goto (-25), 30, 2, 0), (30, .iconst 0, 31, 0, 0), (31, .ireturn, 32, 0, 0)]
def kX12_isLeft : zM := (⟨"ReadAloudModel", "isLeft", "(II)Z"⟩, prog_14_method_111_code, 4, (some .boolean), 11, qX12_isLeft)
def qX12_shared : List zE := [(0, .aload_n 0, 1, 0, 0), (1, .iconst 0, 2, 0, 0), (2, .putfield 107, 5, 11, 0), (5, .iload_n 1, 6, 0, 0), (6, .invokestatic 302, 9, 215, 1), (9, .ifCond .eq 10, 12, 19, 0), (12, .iload_n 2, 13, 0, 0), (13, .invokestatic 302, 16, 215, 1), (16, .ifCond .ne 5, 19, 21, 0), (19, .iconst (-1), 20, 0, 0), (20, .ireturn, 21, 0, 0), (21, .iconst 0, 22, 0, 0), (22, .istore 4, 24, 0, 0), (24, .iconst 0, 25, 0, 0), (25, .istore 5, 27, 0, 0), (27, .iload 5, 29, 0, 0), (29, .iconst 1, 30, 0, 0), (30, .iload_n 1, 31, 0, 0), (31, .invokestatic 271, 34, 217, 1), (34, .ishl, 35, 0, 0), (35, .if_icmp .ge 82, 38, 117, 0), (38, .aload_n 0, 39, 0, 0), (39, .iload_n 1, 40, 0, 0), (40, .iload 5, 42, 0, 0), (42, .invokevirtual 466, 45, 288, 2), (45, .istore 6, 47, 0, 0), (47, .iload 6, 49, 0, 0), (49, .invokestatic 271, 52, 217, 1), (52, .iload 4, 54, 0, 0), (54, .invokestatic 271, 57, 217, 1), (57, .if_icmp .gt 23, 60, 80, 0), (60, .iload 6, 62, 0, 0), (62, .invokestatic 271, 65, 217, 1), (65, .iload 4, 67, 0, 0), (67, .invokestatic 271, 70, 217, 1), (70, .if_icmp .ne 14, 73, 84, 0), (73, .iload 6, 75, 0, 0), (75, .iload 4, 77, 0, 0), (77, .if_icmp .ge 7, 80, 84, 0), (80, .iconst 1, 81, 0, 0), (81, .goto 4, 84, 85, 0), (84, .iconst 0, 85, 0, 0), (85, .istore 7, 87, 0, 0), (87, .iload 7, 89, 0, 0), (89, .ifCond .eq 18, 92, 107, 0), (92, .aload_n 0, 93, 0, 0), (93, .iload_n 2, 94, 0, 0), (94, .iload 6, 96, 0, 0), (96, .invokevirtual 469, 99, 289, 2), (99, .ifCond .eq 8, 102, 107, 0), (102, .iload 6, 104, 0, 0), (104, .goto 5, 107, 109, 0), (107, .iload 4, 109, 0, 0), (109, .istore 4, 111, 0, 0), (111, .iinc 5 1, 114, 0, 0), (114, .goto (-87), 117, 27, 0), (117, .iload_n 3, 118, 0, 0), (118, .ifCond .eq 8, 121, 126, 0), (121, .iload 4, 123, 0, 0), (123, .goto 8, 126, 131, 0), (126, .iload 4, 128, 0, 0), (128, .invokestatic 271, 131, 217, 1), (131, .ireturn, 132, 0, 0)]
def kX12_shared : zM := (⟨"ReadAloudModel", "shared", "(IIZ)I"⟩, prog_14_method_112_code, 8, (some .int), 11, qX12_shared)
def qX12_joined : List zE := [(0, .aload_n 0, 1, 0, 0), (1, .iconst 0, 2, 0, 0), (2, .putfield 107, 5, 11, 0), (5, .iload_n 2, 6, 0, 0), (6, .invokestatic 302, 9, 215, 1), (9, .ifCond .eq 18, 12, 27, 0), (12, .iload_n 3, 13, 0, 0), (13, .invokestatic 302, 16, 215, 1), (16, .ifCond .eq 11, 19, 27, 0), (19, .aload_n 0, 20, 0, 0), (20, .iload_n 1, 21, 0, 0), (21, .invokevirtual 369, 24, 246, 1), (24, .ifCond .ne 5, 27, 29, 0), (27, .iconst (-1), 28, 0, 0), (28, .ireturn, 29, 0, 0), (29, .aload_n 0, 30, 0, 0), (30, .iload_n 2, 31, 0, 0), (31, .iconst 0, 32, 0, 0), (32, .aload_n 0, 33, 0, 0), (33, .getfield 63, 36, 11, 35), (36, .invokevirtual 375, 39, 247, 3), (39, .aload_n 0, 40, 0, 0), (40, .iload_n 3, 41, 0, 0), (41, .iconst 0, 42, 0, 0), (42, .aload_n 0, 43, 0, 0), (43, .getfield 66, 46, 11, 36), (46, .invokevirtual 375, 49, 247, 3), (49, .iconst (-1), 50, 0, 0), (50, .istore 5, 52, 0, 0), (52, .ldc_w 365, 55, 1000000, 0), (55, .istore 6, 57, 0, 0), (57, .iconst 0, 58, 0, 0), (58, .istore 7, 60, 0, 0), (60, .iload 7, 62, 0, 0), (62, .sipush 5461, 65, 0, 0), (65, .if_icmp .ge 51, 68, 116, 0), (68, .aload_n 0, 69, 0, 0), (69, .getfield 63, 72, 11, 35), (72, .iload 7, 74, 0, 0), (74, .iaload, 75, 0, 0), (75, .aload_n 0, 76, 0, 0), (76, .getfield 66, 79, 11, 36), (79, .iload 7, 81, 0, 0), (81, .iaload, 82, 0, 0), (82, .iadd, 83, 0, 0), (83, .istore 8, 85, 0, 0), (85, .iload 8, 87, 0, 0), (87, .iload 6, 89, 0, 0), (89, .if_icmp .ge 8, 92, 97, 0), (92, .iload 7, 94, 0, 0), (94, .goto 5, 97, 99, 0), (97, .iload 5, 99, 0, 0), (99, .istore 5, 101, 0, 0), (101, .iload 6, 103, 0, 0), (103, .iload 8, 105, 0, 0), (105, .invokestatic 204, 108, 184, 2), (108, .istore 6, 110, 0, 0), (110, .iinc 7 1, 113, 0, 0), (113, .goto (-53), 116, 60, 0), (116, .iload 5, 118, 0, 0), (118, .iconst (-1), 119, 0, 0), (119, .if_icmp .eq 8, 122, 127, 0), (122, .iload 4, 124, 0, 0), (124, .ifCond .eq 8, 127, 132, 0), (127, .iload 5, 129, 0, 0), (129, .goto 5, 132, 134, 0), (132, .iload 6, 134, 0, 0), (134, .ireturn, 135, 0, 0)]
def kX12_joined : zM := (⟨"ReadAloudModel", "joined", "(IIIZ)I"⟩, prog_14_method_113_code, 9, (some .int), 11, qX12_joined)
def qX12_nearest : List zE := [(0, .aload_n 0, 1, 0, 0), (1, .iconst 0, 2, 0, 0), (2, .putfield 107, 5, 11, 0), (5, .iload_n 2, 6, 0, 0), (6, .invokestatic 302, 9, 215, 1), (9, .ifCond .eq 18, 12, 27, 0), (12, .iload_n 3, 13, 0, 0), (13, .invokestatic 302, 16, 215, 1), (16, .ifCond .eq 11, 19, 27, 0), (19, .aload_n 0, 20, 0, 0), (20, .iload_n 1, 21, 0, 0), (21, .invokevirtual 369, 24, 246, 1), (24, .ifCond .ne 5, 27, 29, 0), (27, .iconst (-1), 28, 0, 0), (28, .ireturn, 29, 0, 0), (29, .aload_n 0, 30, 0, 0), (30, .iload_n 2, 31, 0, 0), (31, .iconst 0, 32, 0, 0), (32, .aload_n 0, 33, 0, 0), (33, .getfield 63, 36, 11, 35), (36, .invokevirtual 375, 39, 247, 3), (39, .iconst (-1), 40, 0, 0), (40, .istore 5, 42, 0, 0), (42, .ldc_w 365, 45, 1000000, 0), (45, .istore 6, 47, 0, 0), (47, .iconst 0, 48, 0, 0), (48, .istore 7, 50, 0, 0), (50, .iload 7, 52, 0, 0), (52, .sipush 5461, 55, 0, 0), (55, .if_icmp .ge 62, 58, 117, 0), (58, .aload_n 0, 59, 0, 0), (59, .getfield 63, 62, 11, 35), (62, .iload 7, 64, 0, 0), (64, .iaload, 65, 0, 0), (65, .ldc_w 365, 68, 1000000, 0), (68, .if_icmp .ge 13, 71, 81, 0), (71, .aload_n 0, 72, 0, 0), (72, .iload 7, 74, 0, 0), (74, .iload_n 3, 75, 0, 0), (75, .invokevirtual 305, 78, 226, 2), (78, .goto 6, 81, 84, 0), (81, .ldc_w 365, 84, 1000000, 0), (84, .istore 8, 86, 0, 0), (86, .iload 8, 88, 0, 0), (88, .iload 6, 90, 0, 0), (90, .if_icmp .ge 8, 93, 98, 0), (93, .iload 7, 95, 0, 0), (95, .goto 5, 98, 100, 0), (98, .iload 5, 100, 0, 0), (100, .istore 5, 102, 0, 0), (102, .iload 6, 104, 0, 0), (104, .iload 8, 106, 0, 0), (106, .invokestatic 204, 109, 184, 2), (109, .istore 6, 111, 0, 0), (111, .iinc 7 1, 114, 0, 0), (114, .goto (-64), 117, 50, 0), (117, .iload 4, 119, 0, 0), (119, .ifCond .eq 8, 122, 127, 0), (122, .iload 5, 124, 0, 0), (124, .goto 5, 127, 129, 0), (127, .iload 6, 129, 0, 0), (129, .ireturn, 130, 0, 0)]
def kX12_nearest : zM := (⟨"ReadAloudModel", "nearest", "(IIIZ)I"⟩, prog_14_method_114_code, 9, (some .int), 11, qX12_nearest)
def qX12_settles : List zE := [(0, .aload_n 0, 1, 0, 0), (1, .iconst 0, 2, 0, 0), (2, .putfield 107, 5, 11, 0), (5, .iload_n 2, 6, 0, 0), (6, .invokestatic 302, 9, 215, 1), (9, .ifCond .eq 11, 12, 20, 0), (12, .aload_n 0, 13, 0, 0), (13, .iload_n 1, 14, 0, 0), (14, .invokevirtual 369, 17, 246, 1), (17, .ifCond .ne 5, 20, 22, 0), (20, .iconst (-1), 21, 0, 0), (21, .ireturn, 22, 0, 0), (22, .aload_n 0, 23, 0, 0), (23, .iload_n 2, 24, 0, 0), (24, .iconst 0, 25, 0, 0), (25, .aload_n 0, 26, 0, 0), (26, .getfield 63, 29, 11, 35), (29, .invokevirtual 375, 32, 247, 3), (32, .iconst (-1), 33, 0, 0), (33, .istore 4, 35, 0, 0), (35, .ldc_w 365, 38, 1000000, 0), (38, .istore 5, 40, 0, 0), (40, .iconst 0, 41, 0, 0), (41, .istore 6, 43, 0, 0), (43, .iload 6, 45, 0, 0), (45, .sipush 5461, 48, 0, 0), (48, .if_icmp .ge 74, 51, 122, 0), (51, .aload_n 0, 52, 0, 0), (52, .getfield 63, 55, 11, 35), (55, .iload 6, 57, 0, 0), (57, .iaload, 58, 0, 0), (58, .iload 5, 60, 0, 0), (60, .if_icmp .ge 20, 63, 80, 0), (63, .aload_n 0, 64, 0, 0), (64, .iload 6, 66, 0, 0), (66, .aload_n 0, 67, 0, 0), (67, .invokevirtual 407, 70, 264, 0), (70, .invokevirtual 379, 73, 252, 2), (73, .ifCond .eq 7, 76, 80, 0), (76, .iconst 1, 77, 0, 0), (77, .goto 4, 80, 81, 0), (80, .iconst 0, 81, 0, 0), (81, .istore 7, 83, 0, 0), (83, .iload 7, 85, 0, 0), (85, .ifCond .eq 8, 88, 93, 0), (88, .iload 6, 90, 0, 0), (90, .goto 5, 93, 95, 0), (93, .iload 4, 95, 0, 0), (95, .istore 4, 97, 0, 0), (97, .iload 7, 99, 0, 0), (99, .ifCond .eq 13, 102, 112, 0), (102, .aload_n 0, 103, 0, 0), (103, .getfield 63, 106, 11, 35), (106, .iload 6, 108, 0, 0), (108, .iaload, 109, 0, 0), (109, .goto 5, 112, 114, 0), (112, .iload 5, 114, 0, 0), (114, .istore 5, 116, 0, 0), (116, .iinc 6 1, 119, 0, 0), (119, .goto (-76), 122, 43, 0), (122, .iload 4, 124, 0, 0), (124, .iconst (-1), 125, 0, 0), (125, .if_icmp .eq 7, 128, 132, 0), (128, .iload_n 3, 129, 0, 0), (129, .ifCond .eq 8, 132, 137, 0), (132, .iload 4, 134, 0, 0), (134, .goto 5, 137, 139, 0), (137, .iload 5, 139, 0, 0), (139, .ireturn, 140, 0, 0)]
def kX12_settles : zM := (⟨"ReadAloudModel", "settles", "(IIZ)I"⟩, prog_14_method_115_code, 8, (some .int), 11, qX12_settles)
def qX12_unmade : List zE := [(0, .aload_n 0, 1, 0, 0), (1, .iconst 0, 2, 0, 0), (2, .putfield 107, 5, 11, 0), (5, .aload_n 0, 6, 0, 0), (6, .iload_n 1, 7, 0, 0), (7, .invokevirtual 369, 10, 246, 1), (10, .ifCond .ne 6, 13, 16, 0), (13, .bipush (-2), 15, 0, 0), (15, .ireturn, 16, 0, 0), (16, .iconst 0, 17, 0, 0), (17, .istore_n 3, 18, 0, 0), (18, .iload_n 3, 19, 0, 0), (19, .sipush 5461, 22, 0, 0), (22, .if_icmp .ge 16, 25, 38, 0), (25, .aload_n 0, 26, 0, 0), (26, .getfield 72, 29, 11, 39), (29, .iload_n 3, 30, 0, 0), (30, .iconst 0, 31, 0, 0), (31, .iastore, 32, 0, 0), (32, .iinc 3 1, 35, 0, 0), (35, .goto (-17), 38, 18, 0), (38, .iconst 0, 39, 0, 0), (39, .istore_n 3, 40, 0, 0), (40, .iload_n 3, 41, 0, 0), (41, .sipush 5461, 44, 0, 0), (44, .aload_n 0, 45, 0, 0), (45, .getfield 268, 48, 11, 23), (48, .imul, 49, 0, 0), (49, .if_icmp .ge 24, 52, 73, 0), (52, .aload_n 0, 53, 0, 0), (53, .getfield 72, 56, 11, 39), (56, .aload_n 0, 57, 0, 0), (57, .getfield 60, 60, 11, 34), (60, .iload_n 3, 61, 0, 0), (61, .iaload, 62, 0, 0), (62, .dup2, 63, 0, 0), (63, .iaload, 64, 0, 0), (64, .iconst 1, 65, 0, 0), (65, .iadd, 66, 0, 0), (66, .iastore, 67, 0, 0), (67, .iinc 3 1, 70, 0, 0), (70, .goto (-30), 73, 40, 0), (73, .iconst 0, 74, 0, 0), (74, .istore_n 3, 75, 0, 0), (75, .iconst (-1), 76, 0, 0), (76, .istore 4, 78, 0, 0), (78, .iconst 0, 79, 0, 0), (79, .istore 5, 81, 0, 0), (81, .iload 5, 83, 0, 0), (83, .sipush 5461, 86, 0, 0), (86, .if_icmp .ge 52, 89, 138, 0), (89, .iload_n 3, 90, 0, 0), (90, .aload_n 0, 91, 0, 0), (91, .getfield 72, 94, 11, 39), (94, .iload 5, 96, 0, 0), (96, .iaload, 97, 0, 0), (97, .ifCond .ne 7, 100, 104, 0), (100, .iconst 1, 101, 0, 0), (101, .goto 4, 104, 105, 0), (104, .iconst 0, 105, 0, 0), (105, .iadd, 106, 0, 0), (106, .istore_n 3, 107, 0, 0), (107, .aload_n 0, 108, 0, 0), (108, .getfield 72, 111, 11, 39), (111, .iload 5, 113, 0, 0), (113, .iaload, 114, 0, 0), (114, .ifCond .ne 14, 117, 128, 0), (117, .iload 4, 119, 0, 0), (119, .iconst (-1), 120, 0, 0), (120, .if_icmp .ne 8, 123, 128, 0), (123, .iload 5, 125, 0, 0), (125, .goto 5, 128, 130, 0), (128, .iload 4, 130, 0, 0), (130, .istore 4, 132, 0, 0), (132, .iinc 5 1, 135, 0, 0), (135, .goto (-54), 138, 81, 0), (138, .iload_n 2, 139, 0, 0), (139, .ifCond .eq 8, 142, 147, 0), (142, .iload 4, 144, 0, 0), (144, .goto 4, 147, 148, 0), (147, .iload_n 3, 148, 0, 0), (148, .ireturn, 149, 0, 0)]
def kX12_unmade : zM := (⟨"ReadAloudModel", "unmade", "(IZ)I"⟩, prog_14_method_116_code, 6, (some .int), 11, qX12_unmade)
def qX12_silenced : List zE := [(0, .aload_n 0, 1, 0, 0), (1, .iconst 0, 2, 0, 0), (2, .putfield 107, 5, 11, 0), (5, .iload_n 2, 6, 0, 0), (6, .invokestatic 302, 9, 215, 1), (9, .ifCond .eq 23, 12, 32, 0), (12, .iload_n 3, 13, 0, 0), (13, .invokestatic 302, 16, 215, 1), (16, .ifCond .eq 16, 19, 32, 0), (19, .iload_n 2, 20, 0, 0), (20, .iload_n 3, 21, 0, 0), (21, .if_icmp .eq 11, 24, 32, 0), (24, .aload_n 0, 25, 0, 0), (25, .iload_n 1, 26, 0, 0), (26, .invokevirtual 369, 29, 246, 1), (29, .ifCond .ne 5, 32, 34, 0), (32, .iconst (-1), 33, 0, 0), (33, .ireturn, 34, 0, 0), (34, .iconst (-1), 35, 0, 0), (35, .istore 4, 37, 0, 0), (37, .ldc_w 365, 40, 1000000, 0), (40, .istore 5, 42, 0, 0), (42, .iconst 0, 43, 0, 0), (43, .istore 6, 45, 0, 0), (45, .iload 6, 47, 0, 0), (47, .aload_n 0, 48, 0, 0), (48, .invokevirtual 407, 51, 264, 0), (51, .if_icmp .gt 115, 54, 166, 0), (54, .iconst 0, 55, 0, 0), (55, .istore 7, 57, 0, 0), (57, .iconst 0, 58, 0, 0), (58, .istore 8, 60, 0, 0), (60, .iload 8, 62, 0, 0), (62, .aload_n 0, 63, 0, 0), (63, .getfield 268, 66, 11, 23), (66, .if_icmp .ge 29, 69, 95, 0), (69, .iload 7, 71, 0, 0), (71, .iload 6, 73, 0, 0), (73, .iload 8, 75, 0, 0), (75, .invokestatic 335, 78, 182, 2), (78, .ifCond .eq 7, 81, 85, 0), (81, .iconst 1, 82, 0, 0), (82, .goto 4, 85, 86, 0), (85, .iconst 0, 86, 0, 0), (86, .iadd, 87, 0, 0), (87, .istore 7, 89, 0, 0), (89, .iinc 8 1, 92, 0, 0), (92, .goto (-32), 95, 60, 0), (95, .iload 7, 97, 0, 0), (97, .iload 5, 99, 0, 0), (99, .if_icmp .ge 61, 102, 160, 0), (102, .aload_n 0, 103, 0, 0), (103, .iload_n 2, 104, 0, 0), (104, .iload 6, 106, 0, 0), (106, .aload_n 0, 107, 0, 0), (107, .getfield 63, 110, 11, 35), (110, .invokevirtual 375, 113, 247, 3), (113, .aload_n 0, 114, 0, 0), (114, .getfield 63, 117, 11, 35), (117, .iload_n 3, 118, 0, 0), (118, .iaload, 119, 0, 0), (119, .ldc_w 365, 122, 1000000, 0), (122, .if_icmp .ne 7, 125, 129, 0), (125, .iconst 1, 126, 0, 0), (126, .goto 4, 129, 130, 0), (129, .iconst 0, 130, 0, 0), (130, .istore 8, 132, 0, 0), (132, .iload 8, 134, 0, 0), (134, .ifCond .eq 8, 137, 142, 0), (137, .iload 6, 139, 0, 0), (139, .goto 5, 142, 144, 0), (142, .iload 4, 144, 0, 0), (144, .istore 4, 146, 0, 0), (146, .iload 8, 148, 0, 0), (148, .ifCond .eq 8, 151, 156, 0), (151, .iload 7, 153, 0, 0), (153, .goto 5, 156, 158, 0), (156, .iload 5, 158, 0, 0), (158, .istore 5, 160, 0, 0), (160, .iinc 6 1, 163, 0, 0), (163, .goto (-118), 166, 45, 0), (166, .iload 4, 168, 0, 0), (168, .ireturn, 169, 0, 0)]
def kX12_silenced : zM := (⟨"ReadAloudModel", "silenced", "(III)I"⟩, prog_14_method_117_code, 9, (some .int), 11, qX12_silenced)
def qX12_goDeep : List zE := [(0, .iload_n 2, 1, 0, 0), (1, .istore_n 3, 2, 0, 0), (2, .iconst 1, 3, 0, 0), (3, .istore 4, 5, 0, 0), (5, .aload_n 0, 6, 0, 0), (6, .getfield 85, 9, 11, 45), (9, .iconst 0, 10, 0, 0), (10, .iload_n 1, 11, 0, 0), (11, .iastore, 12, 0, 0), (12, .aload_n 0, 13, 0, 0), (13, .getfield 88, 16, 11, 46), (16, .iload_n 1, 17, 0, 0), (17, .iconst 0, 18, 0, 0), (18, .iastore, 19, 0, 0), (19, .iload 4, 21, 0, 0), (21, .ifCond .le 111, 24, 132, 0), (24, .aload_n 0, 25, 0, 0), (25, .getfield 85, 28, 11, 45), (28, .iload 4, 30, 0, 0), (30, .iconst 1, 31, 0, 0), (31, .isub, 32, 0, 0), (32, .iaload, 33, 0, 0), (33, .istore 5, 35, 0, 0), (35, .aload_n 0, 36, 0, 0), (36, .getfield 88, 39, 11, 46), (39, .iload 5, 41, 0, 0), (41, .iaload, 42, 0, 0), (42, .aload_n 0, 43, 0, 0), (43, .getfield 268, 46, 11, 23), (46, .if_icmp .ne 20, 49, 66, 0), (49, .aload_n 0, 50, 0, 0), (50, .getfield 69, 53, 11, 37), (53, .iload_n 3, 54, 0, 0), (54, .iload 5, 56, 0, 0), (56, .iastore, 57, 0, 0), (57, .iinc 3 1, 60, 0, 0), (60, .iinc 4 (-1), 63, 0, 0), (63, .goto 66, 66, 129, 0), (66, .aload_n 0, 67, 0, 0), (67, .getfield 60, 70, 11, 34), (70, .sipush 5461, 73, 0, 0), (73, .aload_n 0, 74, 0, 0), (74, .getfield 88, 77, 11, 46), (77, .iload 5, 79, 0, 0), (79, .iaload, 80, 0, 0), (80, .imul, 81, 0, 0), (81, .iload 5, 83, 0, 0), (83, .iadd, 84, 0, 0), (84, .iaload, 85, 0, 0), (85, .istore 6, 87, 0, 0), (87, .aload_n 0, 88, 0, 0), (88, .getfield 88, 91, 11, 46), (91, .iload 5, 93, 0, 0), (93, .dup2, 94, 0, 0), (94, .iaload, 95, 0, 0), (95, .iconst 1, 96, 0, 0), (96, .iadd, 97, 0, 0), (97, .iastore, 98, 0, 0), (98, .aload_n 0, 99, 0, 0), (99, .getfield 88, 102, 11, 46), (102, .iload 6, 104, 0, 0), (104, .iaload, 105, 0, 0), (105, .iconst (-1), 106, 0, 0), (106, .if_icmp .ne 23, 109, 129, 0), (109, .aload_n 0, 110, 0, 0), (110, .getfield 88, 113, 11, 46), (113, .iload 6, 115, 0, 0), (115, .iconst 0, 116, 0, 0), (116, .iastore, 117, 0, 0), (117, .aload_n 0, 118, 0, 0), (118, .getfield 85, 121, 11, 45), (121, .iload 4, 123, 0, 0), (123, .iload 6, 125, 0, 0), (125, .iastore, 126, 0, 0), (126, .iinc 4 1, 129, 0, 0), (129, .goto (-110), 132, 19, 0), (132, .iload_n 3, 133, 0, 0), (133, .ireturn, 134, 0, 0)]
def kX12_goDeep : zM := (⟨"ReadAloudModel", "goDeep", "(II)I"⟩, prog_14_method_118_code, 7, (some .int), 11, qX12_goDeep)
def qX12_layBack : List zE := [(0, .iconst 0, 1, 0, 0), (1, .istore_n 1, 2, 0, 0), (2, .iload_n 1, 3, 0, 0), (3, .sipush 5461, 6, 0, 0), (6, .if_icmp .ge 37, 9, 43, 0), (9, .aload_n 0, 10, 0, 0), (10, .getfield 97, 13, 11, 49), (13, .iload_n 1, 14, 0, 0), (14, .iconst (-1), 15, 0, 0), (15, .iastore, 16, 0, 0), (16, .aload_n 0, 17, 0, 0), (17, .getfield 91, 20, 11, 47), (20, .iload_n 1, 21, 0, 0), (21, .iconst (-1), 22, 0, 0), (22, .iastore, 23, 0, 0), (23, .aload_n 0, 24, 0, 0), (24, .getfield 88, 27, 11, 46), (27, .iload_n 1, 28, 0, 0), (28, .iconst (-1), 29, 0, 0), (29, .iastore, 30, 0, 0), (30, .aload_n 0, 31, 0, 0), (31, .getfield 94, 34, 11, 48), (34, .iload_n 1, 35, 0, 0), (35, .iconst 0, 36, 0, 0), (36, .iastore, 37, 0, 0), (37, .iinc 1 1, 40, 0, 0), (40, .goto (-38), 43, 2, 0), (43, .iconst 0, 44, 0, 0), (44, .istore_n 1, 45, 0, 0), (45, .iload_n 1, 46, 0, 0), (46, .sipush 5461, 49, 0, 0), (49, .aload_n 0, 50, 0, 0), (50, .getfield 268, 53, 11, 23), (53, .imul, 54, 0, 0), (54, .if_icmp .ge 38, 57, 92, 0), (57, .aload_n 0, 58, 0, 0), (58, .getfield 100, 61, 11, 50), (61, .iload_n 1, 62, 0, 0), (62, .aload_n 0, 63, 0, 0), (63, .getfield 97, 66, 11, 49), (66, .aload_n 0, 67, 0, 0), (67, .getfield 60, 70, 11, 34), (70, .iload_n 1, 71, 0, 0), (71, .iaload, 72, 0, 0), (72, .iaload, 73, 0, 0), (73, .iastore, 74, 0, 0), (74, .aload_n 0, 75, 0, 0), (75, .getfield 97, 78, 11, 49), (78, .aload_n 0, 79, 0, 0), (79, .getfield 60, 82, 11, 34), (82, .iload_n 1, 83, 0, 0), (83, .iaload, 84, 0, 0), (84, .iload_n 1, 85, 0, 0), (85, .iastore, 86, 0, 0), (86, .iinc 1 1, 89, 0, 0), (89, .goto (-44), 92, 45, 0), (92, .return_, 93, 0, 0)]
def kX12_layBack : zM := (⟨"ReadAloudModel", "layBack", "()V"⟩, prog_14_method_119_code, 2, none, 11, qX12_layBack)
def qX12_goBack : List zE := [(0, .iconst 1, 1, 0, 0), (1, .istore_n 3, 2, 0, 0), (2, .aload_n 0, 3, 0, 0), (3, .getfield 85, 6, 11, 45), (6, .iconst 0, 7, 0, 0), (7, .iload_n 1, 8, 0, 0), (8, .iastore, 9, 0, 0), (9, .aload_n 0, 10, 0, 0), (10, .getfield 91, 13, 11, 47), (13, .iload_n 1, 14, 0, 0), (14, .iload_n 2, 15, 0, 0), (15, .iastore, 16, 0, 0), (16, .iconst 0, 17, 0, 0), (17, .istore 4, 19, 0, 0), (19, .iload 4, 21, 0, 0), (21, .iload_n 3, 22, 0, 0), (22, .if_icmp .ge 79, 25, 101, 0), (25, .aload_n 0, 26, 0, 0), (26, .getfield 97, 29, 11, 49), (29, .aload_n 0, 30, 0, 0), (30, .getfield 85, 33, 11, 45), (33, .iload 4, 35, 0, 0), (35, .iaload, 36, 0, 0), (36, .iaload, 37, 0, 0), (37, .istore 5, 39, 0, 0), (39, .iload 5, 41, 0, 0), (41, .iconst (-1), 42, 0, 0), (42, .if_icmp .eq 53, 45, 95, 0), (45, .iload 5, 47, 0, 0), (47, .sipush 5461, 50, 0, 0), (50, .irem, 51, 0, 0), (51, .istore 6, 53, 0, 0), (53, .aload_n 0, 54, 0, 0), (54, .getfield 91, 57, 11, 47), (57, .iload 6, 59, 0, 0), (59, .iaload, 60, 0, 0), (60, .iconst (-1), 61, 0, 0), (61, .if_icmp .ne 22, 64, 83, 0), (64, .aload_n 0, 65, 0, 0), (65, .getfield 91, 68, 11, 47), (68, .iload 6, 70, 0, 0), (70, .iload_n 2, 71, 0, 0), (71, .iastore, 72, 0, 0), (72, .aload_n 0, 73, 0, 0), (73, .getfield 85, 76, 11, 45), (76, .iload_n 3, 77, 0, 0), (77, .iload 6, 79, 0, 0), (79, .iastore, 80, 0, 0), (80, .iinc 3 1, 83, 0, 0), (83, .aload_n 0, 84, 0, 0), (84, .getfield 100, 87, 11, 50), (87, .iload 5, 89, 0, 0), (89, .iaload, 90, 0, 0), (90, .istore 5, 92, 0, 0), (92, .goto (-53), 95, 39, 0), (95, .iinc 4 1, 98, 0, 0), (98, .goto (-79), 101, 19, 0), (101, .aload_n 0, 102, 0, 0), (102, .getfield 94, 105, 11, 48), (105, .iload_n 2, 106, 0, 0), (106, .iload_n 3, 107, 0, 0), (107, .iastore, 108, 0, 0), (108, .return_, 109, 0, 0)]
def kX12_goBack : zM := (⟨"ReadAloudModel", "goBack", "(II)V"⟩, prog_14_method_120_code, 7, none, 11, qX12_goBack)
def qX12_findCircles : List zE := [(0, .aload_n 0, 1, 0, 0), (1, .invokevirtual 472, 4, 297, 0), (4, .iconst 0, 5, 0, 0), (5, .istore_n 1, 6, 0, 0), (6, .iconst 0, 7, 0, 0), (7, .istore_n 2, 8, 0, 0), (8, .iload_n 2, 9, 0, 0), (9, .sipush 5461, 12, 0, 0), (12, .if_icmp .ge 30, 15, 42, 0), (15, .aload_n 0, 16, 0, 0), (16, .getfield 88, 19, 11, 46), (19, .iload_n 2, 20, 0, 0), (20, .iaload, 21, 0, 0), (21, .iconst (-1), 22, 0, 0), (22, .if_icmp .ne 12, 25, 34, 0), (25, .aload_n 0, 26, 0, 0), (26, .iload_n 2, 27, 0, 0), (27, .iload_n 1, 28, 0, 0), (28, .invokevirtual 475, 31, 296, 2), (31, .goto 4, 34, 35, 0), (34, .iload_n 1, 35, 0, 0), (35, .istore_n 1, 36, 0, 0), (36, .iinc 2 1, 39, 0, 0), (39, .goto (-31), 42, 8, 0), (42, .iconst 0, 43, 0, 0), (43, .istore_n 2, 44, 0, 0), (44, .sipush 5460, 47, 0, 0), (47, .istore_n 3, 48, 0, 0), (48, .iload_n 3, 49, 0, 0), (49, .ifCond .lt 38, 52, 87, 0), (52, .aload_n 0, 53, 0, 0), (53, .getfield 91, 56, 11, 47), (56, .aload_n 0, 57, 0, 0), (57, .getfield 69, 60, 11, 37), (60, .iload_n 3, 61, 0, 0), (61, .iaload, 62, 0, 0), (62, .iaload, 63, 0, 0), (63, .iconst (-1), 64, 0, 0), (64, .if_icmp .ne 17, 67, 81, 0), (67, .aload_n 0, 68, 0, 0), (68, .aload_n 0, 69, 0, 0), (69, .getfield 69, 72, 11, 37), (72, .iload_n 3, 73, 0, 0), (73, .iaload, 74, 0, 0), (74, .iload_n 2, 75, 0, 0), (75, .invokevirtual 478, 78, 298, 2), (78, .iinc 2 1, 81, 0, 0), (81, .iinc 3 (-1), 84, 0, 0), (84, .goto (-36), 87, 48, 0), (87, .iload_n 2, 88, 0, 0), (88, .ireturn, 89, 0, 0)]
def kX12_findCircles : zM := (⟨"ReadAloudModel", "findCircles", "()I"⟩, prog_14_method_121_code, 4, (some .int), 11, qX12_findCircles)
def qX12_circles : List zE := [(0, .aload_n 0, 1, 0, 0), (1, .iconst 0, 2, 0, 0), (2, .putfield 107, 5, 11, 0), (5, .iload_n 2, 6, 0, 0), (6, .bipush (-2), 8, 0, 0), (8, .sipush 5460, 11, 0, 0), (11, .invokestatic 114, 14, 181, 3), (14, .ifCond .eq 11, 17, 25, 0), (17, .aload_n 0, 18, 0, 0), (18, .iload_n 1, 19, 0, 0), (19, .invokevirtual 369, 22, 246, 1), (22, .ifCond .ne 5, 25, 27, 0), (25, .iconst (-1), 26, 0, 0), (26, .ireturn, 27, 0, 0), (27, .aload_n 0, 28, 0, 0), (28, .invokevirtual 481, 31, 299, 0), (31, .istore_n 3, 32, 0, 0), (32, .iload_n 2, 33, 0, 0), (33, .iconst (-1), 34, 0, 0), (34, .if_icmp .ne 5, 37, 39, 0), (37, .iload_n 3, 38, 0, 0), (38, .ireturn, 39, 0, 0), (39, .iconst 0, 40, 0, 0), (40, .istore 4, 42, 0, 0), (42, .iconst 0, 43, 0, 0), (43, .istore 5, 45, 0, 0), (45, .iload 5, 47, 0, 0), (47, .iload_n 3, 48, 0, 0), (48, .if_icmp .ge 23, 51, 71, 0), (51, .iload 4, 53, 0, 0), (53, .aload_n 0, 54, 0, 0), (54, .getfield 94, 57, 11, 48), (57, .iload 5, 59, 0, 0), (59, .iaload, 60, 0, 0), (60, .invokestatic 385, 63, 183, 2), (63, .istore 4, 65, 0, 0), (65, .iinc 5 1, 68, 0, 0), (68, .goto (-23), 71, 45, 0), (71, .iload_n 2, 72, 0, 0), (72, .bipush (-2), 74, 0, 0), (74, .if_icmp .ne 8, 77, 82, 0), (77, .iload 4, 79, 0, 0), (79, .goto 14, 82, 93, 0), (82, .aload_n 0, 83, 0, 0), (83, .getfield 94, 86, 11, 48), (86, .aload_n 0, 87, 0, 0), (87, .getfield 91, 90, 11, 47), (90, .iload_n 2, 91, 0, 0), (91, .iaload, 92, 0, 0), (92, .iaload, 93, 0, 0), (93, .ireturn, 94, 0, 0)]
def kX12_circles : zM := (⟨"ReadAloudModel", "circles", "(II)I"⟩, prog_14_method_122_code, 6, (some .int), 11, qX12_circles)
def qX12_count : List zE := [(0, .aload_n 0, 1, 0, 0), (1, .iconst 0, 2, 0, 0), (2, .putfield 107, 5, 11, 0), (5, .iload_n 1, 6, 0, 0), (6, .iconst 0, 7, 0, 0), (7, .iconst 2, 8, 0, 0), (8, .invokestatic 114, 11, 181, 3), (11, .ifCond .eq 12, 14, 23, 0), (14, .aload_n 0, 15, 0, 0), (15, .getfield 23, 18, 11, 5), (18, .iload_n 1, 19, 0, 0), (19, .iaload, 20, 0, 0), (20, .goto 5, 23, 25, 0), (23, .bipush (-2), 25, 0, 0), (25, .ireturn, 26, 0, 0)]
def kX12_count : zM := (⟨"ReadAloudModel", "count", "(I)I"⟩, prog_14_method_123_code, 2, (some .int), 11, qX12_count)
def qX12_image : List zE := [(0, .aload_n 0, 1, 0, 0), (1, .iconst 0, 2, 0, 0), (2, .putfield 107, 5, 11, 0), (5, .iload_n 1, 6, 0, 0), (6, .iconst 0, 7, 0, 0), (7, .iconst 2, 8, 0, 0), (8, .invokestatic 114, 11, 181, 3), (11, .ifCond .ne 5, 14, 16, 0), (14, .iconst 0, 15, 0, 0), (15, .ireturn, 16, 0, 0), (16, .aload_n 0, 17, 0, 0), (17, .iconst 0, 18, 0, 0), (18, .iload_n 1, 19, 0, 0), (19, .iconst 1, 20, 0, 0), (20, .iadd, 21, 0, 0), (21, .invokevirtual 484, 24, 186, 2), (24, .aload_n 0, 25, 0, 0), (25, .getfield 103, 28, 11, 51), (28, .iload_n 1, 29, 0, 0), (29, .iconst 1, 30, 0, 0), (30, .bastore, 31, 0, 0), (31, .iconst 1, 32, 0, 0), (32, .ireturn, 33, 0, 0)]
def kX12_image : zM := (⟨"ReadAloudModel", "image", "(I)Z"⟩, prog_14_method_124_code, 2, (some .boolean), 11, qX12_image)
def qX12_again : List zE := [(0, .aload_n 0, 1, 0, 0), (1, .iconst 0, 2, 0, 0), (2, .putfield 107, 5, 11, 0), (5, .iload_n 1, 6, 0, 0), (6, .iconst 0, 7, 0, 0), (7, .iconst 2, 8, 0, 0), (8, .invokestatic 114, 11, 181, 3), (11, .ifCond .eq 12, 14, 23, 0), (14, .aload_n 0, 15, 0, 0), (15, .getfield 103, 18, 11, 51), (18, .iload_n 1, 19, 0, 0), (19, .baload, 20, 0, 0), (20, .ifCond .ne 5, 23, 25, 0), (23, .iconst 0, 24, 0, 0), (24, .ireturn, 25, 0, 0), (25, .aload_n 0, 26, 0, 0), (26, .iload_n 1, 27, 0, 0), (27, .iconst 1, 28, 0, 0), (28, .iadd, 29, 0, 0), (29, .iconst 0, 30, 0, 0), (30, .invokevirtual 484, 33, 186, 2), (33, .aload_n 0, 34, 0, 0), (34, .iconst (-1), 35, 0, 0), (35, .putfield 41, 38, 11, 21), (38, .iconst 1, 39, 0, 0), (39, .ireturn, 40, 0, 0)]
def kX12_again : zM := (⟨"ReadAloudModel", "again", "(I)Z"⟩, prog_14_method_125_code, 2, (some .boolean), 11, qX12_again)
def zTab : List zM := [kL_law, kX11_init, kX11_feed, kX11_end, kX11_text, kX11_fault, kX11_book, kX11_word, kX11_drift, kX11_read, kX11_deed, kX11_stop, kX11_state, kX11_making, kX11_ring, kX11_reach, kX11_sound, kX11_like, kX11_orbits, kX11_rota, kX11_mean, kX11_elders, kX11_play, kX11_fact, kX11_fits, kX11_sure, kX11_drawn, kX11_kinship, kX11_shared, kX11_joined, kX11_nearest, kX11_settles, kX11_unmade, kX11_silenced, kX11_circles, kX11_count, kX11_image, kX11_again, kX11_tellInto, kX11_bookAt, kX11_yearAt, kX11_sightAt, kX11_readingsAt, kX11_walkAt, kX11_levelsThere, kX11_ringsThere, kX11_isText, kX11_isWord, kX11_isSpan, kX11_isIn, kX11_common, kX11_longer, kX11_lengthOf, kX11_bitsOf, kX11_lengthOfBits, kX11_numberOfBits, kX11_wordAt, kX11_wordOfBits, kX11_timesOf, kX11_driftOf, kX11_mostShared, kX11_isLeftOf, kX8_init, kX8_putBytes, kX8_becomes, kX7_init, kX7_tell, kX7_tellLine, kX7_advance, kX7_advanceDigits, kX7_isLetter, kX7_isDigit, kX7_isAtHand, kX7_isWithin, kX7_faultHere, kX1_init, kX1_begin, kX1_doFirst, kX1_doDeed, kX1_doRead, kX1_doCopy, kX1_draw, kX1_drawBelow, kX1_tells, kX1_suits, kX1_against, kX1_driftOfCopy, kX3_init, kX0_init, kX0_lineOf, kX0_fewestNumbers, kX0_mostNumbers, kX0_beginLine, kX0_beginStep, kX0_takeNumber, kX0_keepNumber, kX0_hasReader, kX0_hasReaders, kX0_tells, kX0_tellsStep, kX0_readBy, kX0_stepOn, kX0_shifted, kX0_dropped, kX0_doubled, kX0_swapped, kX0_turned, kX0_kinRing, kX0_kinUntilRing, kX0_isInKinRing, kX10_init, kX10_lineOf, kX10_fewestNumbers, kX10_mostNumbers, kX10_beginLine, kX10_takeNumber, kX10_tells, kX6_init, kX6_lineOf, kX6_fewestNumbers, kX6_mostNumbers, kX6_beginLine, kX6_takeNumber, kX6_tells, kX4_init, kX4_takeUp, kX4_all, kX4_after, kX4_isChanged, kX4_unchangedBy, kX4_alikeEitherWay, kX4_goBack, kX4_comesToMarked, kX4_markUnmade, kX4_marked, kX4_leastMarked, kX9_init, kX9_go, kX9_comeTo, kX9_readerOnWay, kX9_wayBack, kX9_farthest, kX9_meeting, kX9_nearestTo, kX9_firstSettled, kX2_init, kX2_wantNothing, kX2_want, kX2_isWanted, kX2_spread, kX2_fillBehind, kX2_onesAt, kX2_recall, kX2_forget, kX2_endByDrift, kX2_endByWord, kX2_endByOne, kX2_foldBack, kX2_folded, kX2_chosenAt, kX2_firstAsGood, kX2_bestStart, kX2_bestEnd, kX2_sumOfEnds, kX2_rows, kX2_rowsTo, kX2_look, kX2_onlyReaderAt, kX2_isReaderAt, kX5_init, kX5_findOrbits, kX5_putThoseOfNone, kX5_takeOutside, kX5_goRound, kX5_findCircles, kX5_findFrom, kX5_enter, kX5_tryNext, kX5_leave, kX5_closeCircle, kX12_init, kX12_in, kX12_has, kX12_greater, kX12_lesser, kX12_copyRow, kX12_copyAll, kX12_is, kX12_feed, kX12_four, kX12_end, kX12_see, kX12_token, kX12_fails, kX12_later, kX12_takeBut, kX12_take, kX12_full, kX12_shorter, kX12_takeText, kX12_stepBy, kX12_stepLine, kX12_bookLine, kX12_deedBy, kX12_keep, kX12_yearLine, kX12_sightLine, kX12_lineOf, kX12_lines, kX12_readText, kX12_store, kX12_text, kX12_fault, kX12_of, kX12_hand, kX12_isText, kX12_isReader, kX12_sizeOf, kX12_spell, kX12_numberOf, kX12_shift, kX12_drop, kX12_twice, kX12_swap, kX12_step, kX12_readBy, kX12_apart, kX12_book, kX12_word, kX12_drift, kX12_read, kX12_deeds, kX12_deedOf, kX12_hasYear, kX12_deed, kX12_begin, kX12_reads, kX12_hushes, kX12_goesOn, kX12_does, kX12_play, kX12_layAll, kX12_stop, kX12_ofState, kX12_state, kX12_layMade, kX12_handAll, kX12_findFar, kX12_findBack, kX12_making, kX12_ring, kX12_reach, kX12_isKept, kX12_sound, kX12_like, kX12_findComes, kX12_unread, kX12_fallAway, kX12_tail, kX12_longest, kX12_stays, kX12_orbits, kX12_layDrifts, kX12_best, kX12_everybody, kX12_rotaAt, kX12_rota, kX12_common, kX12_mean, kX12_elders, kX12_wordsIn, kX12_play_, kX12_facts, kX12_factOf, kX12_hasSight, kX12_fact, kX12_mayBe, kX12_findRows, kX12_allRows, kX12_fits, kX12_look, kX12_rowsOf, kX12_sure, kX12_draw, kX12_drawDeed, kX12_drawn, kX12_kinship, kX12_kinRing, kX12_someOf, kX12_isLeft, kX12_shared, kX12_joined, kX12_nearest, kX12_settles, kX12_unmade, kX12_silenced, kX12_goDeep, kX12_layBack, kX12_goBack, kX12_findCircles, kX12_circles, kX12_count, kX12_image, kX12_again]
abbrev iL_law : Nat := 0
abbrev iX11_init : Nat := 1
abbrev iX11_feed : Nat := 2
abbrev iX11_end : Nat := 3
abbrev iX11_text : Nat := 4
abbrev iX11_fault : Nat := 5
abbrev iX11_book : Nat := 6
abbrev iX11_word : Nat := 7
abbrev iX11_drift : Nat := 8
abbrev iX11_read : Nat := 9
abbrev iX11_deed : Nat := 10
abbrev iX11_stop : Nat := 11
abbrev iX11_state : Nat := 12
abbrev iX11_making : Nat := 13
abbrev iX11_ring : Nat := 14
abbrev iX11_reach : Nat := 15
abbrev iX11_sound : Nat := 16
abbrev iX11_like : Nat := 17
abbrev iX11_orbits : Nat := 18
abbrev iX11_rota : Nat := 19
abbrev iX11_mean : Nat := 20
abbrev iX11_elders : Nat := 21
abbrev iX11_play : Nat := 22
abbrev iX11_fact : Nat := 23
abbrev iX11_fits : Nat := 24
abbrev iX11_sure : Nat := 25
abbrev iX11_drawn : Nat := 26
abbrev iX11_kinship : Nat := 27
abbrev iX11_shared : Nat := 28
abbrev iX11_joined : Nat := 29
abbrev iX11_nearest : Nat := 30
abbrev iX11_settles : Nat := 31
abbrev iX11_unmade : Nat := 32
abbrev iX11_silenced : Nat := 33
abbrev iX11_circles : Nat := 34
abbrev iX11_count : Nat := 35
abbrev iX11_image : Nat := 36
abbrev iX11_again : Nat := 37
abbrev iX11_tellInto : Nat := 38
abbrev iX11_bookAt : Nat := 39
abbrev iX11_yearAt : Nat := 40
abbrev iX11_sightAt : Nat := 41
abbrev iX11_readingsAt : Nat := 42
abbrev iX11_walkAt : Nat := 43
abbrev iX11_levelsThere : Nat := 44
abbrev iX11_ringsThere : Nat := 45
abbrev iX11_isText : Nat := 46
abbrev iX11_isWord : Nat := 47
abbrev iX11_isSpan : Nat := 48
abbrev iX11_isIn : Nat := 49
abbrev iX11_common : Nat := 50
abbrev iX11_longer : Nat := 51
abbrev iX11_lengthOf : Nat := 52
abbrev iX11_bitsOf : Nat := 53
abbrev iX11_lengthOfBits : Nat := 54
abbrev iX11_numberOfBits : Nat := 55
abbrev iX11_wordAt : Nat := 56
abbrev iX11_wordOfBits : Nat := 57
abbrev iX11_timesOf : Nat := 58
abbrev iX11_driftOf : Nat := 59
abbrev iX11_mostShared : Nat := 60
abbrev iX11_isLeftOf : Nat := 61
abbrev iX8_init : Nat := 62
abbrev iX8_putBytes : Nat := 63
abbrev iX8_becomes : Nat := 64
abbrev iX7_init : Nat := 65
abbrev iX7_tell : Nat := 66
abbrev iX7_tellLine : Nat := 67
abbrev iX7_advance : Nat := 68
abbrev iX7_advanceDigits : Nat := 69
abbrev iX7_isLetter : Nat := 70
abbrev iX7_isDigit : Nat := 71
abbrev iX7_isAtHand : Nat := 72
abbrev iX7_isWithin : Nat := 73
abbrev iX7_faultHere : Nat := 74
abbrev iX1_init : Nat := 75
abbrev iX1_begin : Nat := 76
abbrev iX1_doFirst : Nat := 77
abbrev iX1_doDeed : Nat := 78
abbrev iX1_doRead : Nat := 79
abbrev iX1_doCopy : Nat := 80
abbrev iX1_draw : Nat := 81
abbrev iX1_drawBelow : Nat := 82
abbrev iX1_tells : Nat := 83
abbrev iX1_suits : Nat := 84
abbrev iX1_against : Nat := 85
abbrev iX1_driftOfCopy : Nat := 86
abbrev iX3_init : Nat := 87
abbrev iX0_init : Nat := 88
abbrev iX0_lineOf : Nat := 89
abbrev iX0_fewestNumbers : Nat := 90
abbrev iX0_mostNumbers : Nat := 91
abbrev iX0_beginLine : Nat := 92
abbrev iX0_beginStep : Nat := 93
abbrev iX0_takeNumber : Nat := 94
abbrev iX0_keepNumber : Nat := 95
abbrev iX0_hasReader : Nat := 96
abbrev iX0_hasReaders : Nat := 97
abbrev iX0_tells : Nat := 98
abbrev iX0_tellsStep : Nat := 99
abbrev iX0_readBy : Nat := 100
abbrev iX0_stepOn : Nat := 101
abbrev iX0_shifted : Nat := 102
abbrev iX0_dropped : Nat := 103
abbrev iX0_doubled : Nat := 104
abbrev iX0_swapped : Nat := 105
abbrev iX0_turned : Nat := 106
abbrev iX0_kinRing : Nat := 107
abbrev iX0_kinUntilRing : Nat := 108
abbrev iX0_isInKinRing : Nat := 109
abbrev iX10_init : Nat := 110
abbrev iX10_lineOf : Nat := 111
abbrev iX10_fewestNumbers : Nat := 112
abbrev iX10_mostNumbers : Nat := 113
abbrev iX10_beginLine : Nat := 114
abbrev iX10_takeNumber : Nat := 115
abbrev iX10_tells : Nat := 116
abbrev iX6_init : Nat := 117
abbrev iX6_lineOf : Nat := 118
abbrev iX6_fewestNumbers : Nat := 119
abbrev iX6_mostNumbers : Nat := 120
abbrev iX6_beginLine : Nat := 121
abbrev iX6_takeNumber : Nat := 122
abbrev iX6_tells : Nat := 123
abbrev iX4_init : Nat := 124
abbrev iX4_takeUp : Nat := 125
abbrev iX4_all : Nat := 126
abbrev iX4_after : Nat := 127
abbrev iX4_isChanged : Nat := 128
abbrev iX4_unchangedBy : Nat := 129
abbrev iX4_alikeEitherWay : Nat := 130
abbrev iX4_goBack : Nat := 131
abbrev iX4_comesToMarked : Nat := 132
abbrev iX4_markUnmade : Nat := 133
abbrev iX4_marked : Nat := 134
abbrev iX4_leastMarked : Nat := 135
abbrev iX9_init : Nat := 136
abbrev iX9_go : Nat := 137
abbrev iX9_comeTo : Nat := 138
abbrev iX9_readerOnWay : Nat := 139
abbrev iX9_wayBack : Nat := 140
abbrev iX9_farthest : Nat := 141
abbrev iX9_meeting : Nat := 142
abbrev iX9_nearestTo : Nat := 143
abbrev iX9_firstSettled : Nat := 144
abbrev iX2_init : Nat := 145
abbrev iX2_wantNothing : Nat := 146
abbrev iX2_want : Nat := 147
abbrev iX2_isWanted : Nat := 148
abbrev iX2_spread : Nat := 149
abbrev iX2_fillBehind : Nat := 150
abbrev iX2_onesAt : Nat := 151
abbrev iX2_recall : Nat := 152
abbrev iX2_forget : Nat := 153
abbrev iX2_endByDrift : Nat := 154
abbrev iX2_endByWord : Nat := 155
abbrev iX2_endByOne : Nat := 156
abbrev iX2_foldBack : Nat := 157
abbrev iX2_folded : Nat := 158
abbrev iX2_chosenAt : Nat := 159
abbrev iX2_firstAsGood : Nat := 160
abbrev iX2_bestStart : Nat := 161
abbrev iX2_bestEnd : Nat := 162
abbrev iX2_sumOfEnds : Nat := 163
abbrev iX2_rows : Nat := 164
abbrev iX2_rowsTo : Nat := 165
abbrev iX2_look : Nat := 166
abbrev iX2_onlyReaderAt : Nat := 167
abbrev iX2_isReaderAt : Nat := 168
abbrev iX5_init : Nat := 169
abbrev iX5_findOrbits : Nat := 170
abbrev iX5_putThoseOfNone : Nat := 171
abbrev iX5_takeOutside : Nat := 172
abbrev iX5_goRound : Nat := 173
abbrev iX5_findCircles : Nat := 174
abbrev iX5_findFrom : Nat := 175
abbrev iX5_enter : Nat := 176
abbrev iX5_tryNext : Nat := 177
abbrev iX5_leave : Nat := 178
abbrev iX5_closeCircle : Nat := 179
abbrev iX12_init : Nat := 180
abbrev iX12_in : Nat := 181
abbrev iX12_has : Nat := 182
abbrev iX12_greater : Nat := 183
abbrev iX12_lesser : Nat := 184
abbrev iX12_copyRow : Nat := 185
abbrev iX12_copyAll : Nat := 186
abbrev iX12_is : Nat := 187
abbrev iX12_feed : Nat := 188
abbrev iX12_four : Nat := 189
abbrev iX12_end : Nat := 190
abbrev iX12_see : Nat := 191
abbrev iX12_token : Nat := 192
abbrev iX12_fails : Nat := 193
abbrev iX12_later : Nat := 194
abbrev iX12_takeBut : Nat := 195
abbrev iX12_take : Nat := 196
abbrev iX12_full : Nat := 197
abbrev iX12_shorter : Nat := 198
abbrev iX12_takeText : Nat := 199
abbrev iX12_stepBy : Nat := 200
abbrev iX12_stepLine : Nat := 201
abbrev iX12_bookLine : Nat := 202
abbrev iX12_deedBy : Nat := 203
abbrev iX12_keep : Nat := 204
abbrev iX12_yearLine : Nat := 205
abbrev iX12_sightLine : Nat := 206
abbrev iX12_lineOf : Nat := 207
abbrev iX12_lines : Nat := 208
abbrev iX12_readText : Nat := 209
abbrev iX12_store : Nat := 210
abbrev iX12_text : Nat := 211
abbrev iX12_fault : Nat := 212
abbrev iX12_of : Nat := 213
abbrev iX12_hand : Nat := 214
abbrev iX12_isText : Nat := 215
abbrev iX12_isReader : Nat := 216
abbrev iX12_sizeOf : Nat := 217
abbrev iX12_spell : Nat := 218
abbrev iX12_numberOf : Nat := 219
abbrev iX12_shift : Nat := 220
abbrev iX12_drop : Nat := 221
abbrev iX12_twice : Nat := 222
abbrev iX12_swap : Nat := 223
abbrev iX12_step : Nat := 224
abbrev iX12_readBy : Nat := 225
abbrev iX12_apart : Nat := 226
abbrev iX12_book : Nat := 227
abbrev iX12_word : Nat := 228
abbrev iX12_drift : Nat := 229
abbrev iX12_read : Nat := 230
abbrev iX12_deeds : Nat := 231
abbrev iX12_deedOf : Nat := 232
abbrev iX12_hasYear : Nat := 233
abbrev iX12_deed : Nat := 234
abbrev iX12_begin : Nat := 235
abbrev iX12_reads : Nat := 236
abbrev iX12_hushes : Nat := 237
abbrev iX12_goesOn : Nat := 238
abbrev iX12_does : Nat := 239
abbrev iX12_play : Nat := 240
abbrev iX12_layAll : Nat := 241
abbrev iX12_stop : Nat := 242
abbrev iX12_ofState : Nat := 243
abbrev iX12_state : Nat := 244
abbrev iX12_layMade : Nat := 245
abbrev iX12_handAll : Nat := 246
abbrev iX12_findFar : Nat := 247
abbrev iX12_findBack : Nat := 248
abbrev iX12_making : Nat := 249
abbrev iX12_ring : Nat := 250
abbrev iX12_reach : Nat := 251
abbrev iX12_isKept : Nat := 252
abbrev iX12_sound : Nat := 253
abbrev iX12_like : Nat := 254
abbrev iX12_findComes : Nat := 255
abbrev iX12_unread : Nat := 256
abbrev iX12_fallAway : Nat := 257
abbrev iX12_tail : Nat := 258
abbrev iX12_longest : Nat := 259
abbrev iX12_stays : Nat := 260
abbrev iX12_orbits : Nat := 261
abbrev iX12_layDrifts : Nat := 262
abbrev iX12_best : Nat := 263
abbrev iX12_everybody : Nat := 264
abbrev iX12_rotaAt : Nat := 265
abbrev iX12_rota : Nat := 266
abbrev iX12_common : Nat := 267
abbrev iX12_mean : Nat := 268
abbrev iX12_elders : Nat := 269
abbrev iX12_wordsIn : Nat := 270
abbrev iX12_play_ : Nat := 271
abbrev iX12_facts : Nat := 272
abbrev iX12_factOf : Nat := 273
abbrev iX12_hasSight : Nat := 274
abbrev iX12_fact : Nat := 275
abbrev iX12_mayBe : Nat := 276
abbrev iX12_findRows : Nat := 277
abbrev iX12_allRows : Nat := 278
abbrev iX12_fits : Nat := 279
abbrev iX12_look : Nat := 280
abbrev iX12_rowsOf : Nat := 281
abbrev iX12_sure : Nat := 282
abbrev iX12_draw : Nat := 283
abbrev iX12_drawDeed : Nat := 284
abbrev iX12_drawn : Nat := 285
abbrev iX12_kinship : Nat := 286
abbrev iX12_kinRing : Nat := 287
abbrev iX12_someOf : Nat := 288
abbrev iX12_isLeft : Nat := 289
abbrev iX12_shared : Nat := 290
abbrev iX12_joined : Nat := 291
abbrev iX12_nearest : Nat := 292
abbrev iX12_settles : Nat := 293
abbrev iX12_unmade : Nat := 294
abbrev iX12_silenced : Nat := 295
abbrev iX12_goDeep : Nat := 296
abbrev iX12_layBack : Nat := 297
abbrev iX12_goBack : Nat := 298
abbrev iX12_findCircles : Nat := 299
abbrev iX12_circles : Nat := 300
abbrev iX12_count : Nat := 301
abbrev iX12_image : Nat := 302
abbrev iX12_again : Nat := 303
theorem zplaces {l : List Cond} (ps : List Nat) (h : l = ps.filterMap (fun i => lw_tbl[i]?)) : ∀ w ∈ l, w ∈ lw_tbl := by
  intro w hw
  rw [h] at hw
  obtain ⟨i, -, hi⟩ := List.mem_filterMap.mp hw
  exact List.mem_of_getElem? hi
theorem zall_app {α : Type} {f : α → Bool} {l1 l2 : List α} (h1 : l1.all f = true) (h2 : l2.all f = true) : (l1 ++ l2).all f = true := by rw [List.all_append, h1, h2]; rfl
theorem zfm_app {α : Type} {f : α → List Cond} {l1 l2 : List α} {T : List Cond} (h1 : ∀ w ∈ l1.flatMap f, w ∈ T) (h2 : ∀ w ∈ l2.flatMap f, w ∈ T) : ∀ w ∈ (l1 ++ l2).flatMap f, w ∈ T := by
  intro w hw
  rw [List.flatMap_append] at hw
  rcases List.mem_append.mp hw with h | h
  · exact h1 w h
  · exact h2 w h
theorem zfg_app {α : Type} {f : α → List Cond} {l1 l2 : List α} (h1 : (l1.flatMap f).all goodWord = true) (h2 : (l2.flatMap f).all goodWord = true) : ((l1 ++ l2).flatMap f).all goodWord = true := by rw [List.flatMap_append]; exact zall_app h1 h2
end
section
/-! TOOLS for walks in the pure machine. -/
theorem zCl_i {tab : List zM} {d a mc ms : Nat} {As : List Value} {w : zW} {Q : zQ} {M : zM} (hM : zix tab a = some M) (hl : (lg_sl As).length ≤ M.2.2.1) (h : ∀ R : zS → Prop, (∀ {pc : Nat} {L : zL} {S : List Value} {w : zW} {k n : Nat}, zsc (zCl tab d) d M none tab mc ms Q pc L S w k n R → R (pc, L, S, w, k, n)) → R (0, zent M.2.2.1 As, [], w, 0, 0)) : zCl tab (d + 1) a As w mc ms Q := by
  unfold zCl
  rw [hM]
  exact ⟨hl, fun R hR => h R (fun {pc L S w k n} q => zR hR (pc, L, S, w, k, n) q)⟩
theorem zcall_i {C : zCT} {a : Nat} {As S : List Value} {w : zW} {k n mc ms np : Nat} {L : zL} {K : zS → Prop} (mc' ms' : Nat) (h1 : k + mc' ≤ mc) (h2 : n + ms' ≤ ms) (h : C a As w mc' ms' (fun r w' => K (np, L, r.toList ++ S, w', k + mc', n + ms'))) : zcall C a As S w k n mc ms np L K := ⟨mc', ms', ⟨h1, h2⟩, h⟩
theorem zret_i {k n mc ms : Nat} {A B : Prop} (h1 : k = mc) (h2 : n ≤ ms) (h3 : A) (h4 : B) : zfin none k n mc ms ∧ A ∧ B := ⟨⟨h1, h2⟩, h3, h4⟩
/-! NUMBERS: 32 bits as integers. -/
theorem zbm {x : Int} (h1 : -2147483648 ≤ x) (h2 : x < 2147483648) : x.bmod (2 ^ 32) = x := by
  rw [show ((2 : Nat) ^ 32) = 4294967296 from rfl]
  unfold Int.bmod
  dsimp only
  split <;> omega
theorem zadd {a b : Int32} (h1 : -2147483648 ≤ a.toInt + b.toInt) (h2 : a.toInt + b.toInt < 2147483648) : (a + b).toInt = a.toInt + b.toInt := by
  rw [Int32.toInt_add]; exact zbm h1 h2
theorem zsub {a b : Int32} (h1 : -2147483648 ≤ a.toInt - b.toInt) (h2 : a.toInt - b.toInt < 2147483648) : (a - b).toInt = a.toInt - b.toInt := by
  rw [Int32.toInt_sub]; exact zbm h1 h2
theorem zmul {a b : Int32} (h1 : -2147483648 ≤ a.toInt * b.toInt) (h2 : a.toInt * b.toInt < 2147483648) : (a * b).toInt = a.toInt * b.toInt := by
  rw [Int32.toInt_mul]; exact zbm h1 h2
theorem zlt_i {a b : Int32} : a < b ↔ a.toInt < b.toInt := Int32.lt_iff_toInt_lt
theorem zle_i {a b : Int32} : a ≤ b ↔ a.toInt ≤ b.toInt := Int32.le_iff_toInt_le
theorem zeq_i {a b : Int32} : a = b ↔ a.toInt = b.toInt := Int32.toInt_inj.symm
theorem zin_of {i : Int32} {n : Nat} (h0 : 0 ≤ i.toInt) (h1 : i.toInt < n) : vp_in i n := by
  intro h
  rcases h with h | h
  · rw [zlt_i] at h
    have e : (0 : Int32).toInt = 0 := rfl
    omega
  · have e : (i.toNatClampNeg : Int) = i.toInt := by
      show ((i.toInt.toNat : Nat) : Int) = i.toInt
      omega
    omega
theorem zinc {i : Int32} (h0 : 0 ≤ i.toInt) (h1 : i.toInt < 1000000) : (i + Int32.ofInt 1).toInt = i.toInt + 1 := by
  have e : (Int32.ofInt 1).toInt = 1 := by decide
  rw [zadd (by omega) (by omega), e]
theorem zidx {n t i : Int32} {N : Int} (hn : n.toInt = N) (hN0 : 0 ≤ N) (hN : N ≤ 600) (ht0 : 0 ≤ t.toInt) (ht : t.toInt ≤ 3) (hi0 : 0 ≤ i.toInt) (hi : i.toInt < N) : 0 ≤ (n * t + i).toInt ∧ (n * t + i).toInt < 4 * N := by
  have hc : t.toInt = 0 ∨ t.toInt = 1 ∨ t.toInt = 2 ∨ t.toInt = 3 := by omega
  have hm : n.toInt * t.toInt = 0 ∨ n.toInt * t.toInt = N ∨ n.toInt * t.toInt = 2 * N ∨ n.toInt * t.toInt = 3 * N := by
    rcases hc with h | h | h | h <;> rw [h, hn] <;> omega
  have h1 : (n * t).toInt = n.toInt * t.toInt := zmul (by omega) (by omega)
  have h2 : (n * t + i).toInt = n.toInt * t.toInt + i.toInt := by rw [zadd (by rw [h1]; omega) (by rw [h1]; omega), h1]
  omega
theorem z012 {k : Int32} (h0 : ¬ k < 0) (h1 : k < 3) : k = 0 ∨ k = 1 ∨ k = 2 := by
  rw [zlt_i] at h0 h1
  have e0 : (0 : Int32).toInt = 0 := rfl
  have e1 : (1 : Int32).toInt = 1 := by decide
  have e2 : (2 : Int32).toInt = 2 := by decide
  have e3 : (3 : Int32).toInt = 3 := by decide
  rw [zeq_i, zeq_i, zeq_i, e0, e1, e2]
  omega
/-! STEPS BY INTEGERS: every 32-bit number on the stack is 'Int32.ofInt e'. -/
theorem zti {e : Int} (h1 : -2147483648 ≤ e) (h2 : e ≤ 2147483647) : (Int32.ofInt e).toInt = e := by
  rw [Int32.toInt_ofInt]; exact zbm h1 (by omega)
theorem zrg (x : Int32) : -2147483648 ≤ x.toInt ∧ x.toInt ≤ 2147483647 := by
  have h1 := Int32.le_toInt x
  have h2 := Int32.toInt_lt x
  omega
theorem zoi (x : Int32) : Int32.ofInt x.toInt = x := Int32.ofInt_toInt x
theorem zcl {i : Int} (h0 : 0 ≤ i) (h1 : i ≤ 2147483647) : (Int32.ofInt i).toNatClampNeg = i.toNat := by
  show (Int32.ofInt i).toInt.toNat = i.toNat
  rw [zti (by omega) h1]
theorem zvin {i : Int} {n : Nat} (h0 : 0 ≤ i) (h1 : i < n) (hn : n ≤ 60000) : vp_in (Int32.ofInt i) n := by
  have e := zti (e := i) (by omega) (by omega)
  exact zin_of (by omega) (by omega)
def zB (lo hi : Int) (g : Nat → Int32) : Prop := ∀ j, lo ≤ (g j).toInt ∧ (g j).toInt ≤ hi
theorem zB_u {lo hi : Int} {g : Nat → Int32} (hg : zB lo hi g) {i : Nat} {e : Int} (h1 : lo ≤ e) (h2 : e ≤ hi) (hl : -2147483648 ≤ lo) (hh : hi ≤ 2147483647) : zB lo hi (upd g i (Int32.ofInt e)) := by
  intro j
  unfold upd
  split
  · rw [zti (by omega) (by omega)]; exact ⟨h1, h2⟩
  · exact hg j
theorem zbo {v : Int} (h : v = 0 ∨ v = 1) : Int32.ofInt v = 0 ∨ Int32.ofInt v = 1 := by
  rcases h with rfl | rfl
  · exact Or.inl rfl
  · exact Or.inr rfl
theorem zfree_o {o : Option Value} (h : zc2 o = false) : (match zc2 o with | true => false | false => true) = true := by rw [h]
theorem zif_i {b : Bool} {A : Prop} (hb : b = true) (h : A) : zif b A := by subst hb; exact h
section ZI
variable {R : zS → Prop} {np : Nat} {L : zL} {S : List Value} {w : zW} {k n : Nat}
theorem t_c {x : Int32} (v : Int) (e : x = Int32.ofInt v) (h : R (np, L, .int (Int32.ofInt v) :: S, w, k, n)) : R (np, L, .int x :: S, w, k, n) := by rw [e]; exact h
theorem t_raw {x : Int32} (h : R (np, L, .int (Int32.ofInt x.toInt) :: S, w, k, n)) : R (np, L, .int x :: S, w, k, n) := by rw [zoi] at h; exact h
theorem t_rawF {x : Int32} (h : ∀ v : Int, v = x.toInt → R (np, L, .int (Int32.ofInt v) :: S, w, k, n)) : R (np, L, .int x :: S, w, k, n) := t_raw (h _ rfl)
theorem t_add {a b : Int} (h : R (np, L, .int (Int32.ofInt (a + b)) :: S, w, k, n)) : R (np, L, .int (Int32.ofInt a + Int32.ofInt b) :: S, w, k, n) := by rw [← Int32.ofInt_add]; exact h
theorem t_sub {a b : Int} (h : R (np, L, .int (Int32.ofInt (a - b)) :: S, w, k, n)) : R (np, L, .int (Int32.ofInt a - Int32.ofInt b) :: S, w, k, n) := by rw [← Int32.ofInt_sub]; exact h
theorem t_mul {a b : Int} (h : R (np, L, .int (Int32.ofInt (a * b)) :: S, w, k, n)) : R (np, L, .int (Int32.ofInt a * Int32.ofInt b) :: S, w, k, n) := by rw [← Int32.ofInt_mul]; exact h
theorem t_inc {a b : Int} {j : Nat} (h : R (np, zput L j (some (.int (Int32.ofInt (a + b)))), S, w, k, n)) : R (np, zput L j (some (.int (Int32.ofInt a + Int32.ofInt b))), S, w, k, n) := by rw [← Int32.ofInt_add]; exact h
/-- a number that is any -/
theorem t_x {x : Int32} (h : ∀ y : Int32, R (np, L, .int y :: S, w, k, n)) : R (np, L, .int x :: S, w, k, n) := h x
theorem t_xl {x : Int64} (h : ∀ y : Int64, R (np, L, .long y :: S, w, k, n)) : R (np, L, .long x :: S, w, k, n) := h x
theorem zdiv_i {a b : Int} (h0 : 0 ≤ a) (h1 : a ≤ 2147483647) (h2 : 0 < b) (h3 : b ≤ 2147483647) : Int32.ofInt a / Int32.ofInt b = Int32.ofInt (a / b) := by
  have e1 : Int32.ofInt a = nI a.toNat := by rw [← Int.toNat_of_nonneg h0]; rfl
  have e2 : Int32.ofInt b = nI b.toNat := by rw [← Int.toNat_of_nonneg (show 0 ≤ b by omega)]; rfl
  rw [e1, e2, pk_div (by omega) (by omega) (by omega)]
  have e3 : a / b = ((a.toNat / b.toNat : Nat) : Int) := by
    rw [Int.natCast_ediv, Int.toNat_of_nonneg h0, Int.toNat_of_nonneg (by omega)]
  rw [e3]; rfl
theorem zrem_i {a b : Int} (h0 : 0 ≤ a) (h1 : a ≤ 2147483647) (h2 : 0 < b) (h3 : b ≤ 2147483647) : Int32.ofInt a - Int32.ofInt a / Int32.ofInt b * Int32.ofInt b = Int32.ofInt (a % b) := by
  have e1 : Int32.ofInt a = nI a.toNat := by rw [← Int.toNat_of_nonneg h0]; rfl
  have e2 : Int32.ofInt b = nI b.toNat := by rw [← Int.toNat_of_nonneg (show 0 ≤ b by omega)]; rfl
  rw [e1, e2, pk_rem (by omega) (by omega) (by omega)]
  have e3 : a % b = ((a.toNat % b.toNat : Nat) : Int) := by
    rw [Int.natCast_emod, Int.toNat_of_nonneg h0, Int.toNat_of_nonneg (by omega)]
  rw [e3]; rfl
theorem zne0 {b : Int} (h2 : 0 < b) (h3 : b ≤ 2147483647) : ¬ Int32.ofInt b = 0 := by
  intro h
  have h4 := congrArg Int32.toInt h
  rw [zti (by omega) h3] at h4
  have e : (0 : Int32).toInt = 0 := rfl
  omega
theorem t_div {a b : Int} (h0 : 0 ≤ a) (h1 : a ≤ 2147483647) (h2 : 0 < b) (h3 : b ≤ 2147483647) (h : R (np, L, .int (Int32.ofInt (a / b)) :: S, w, k, n)) : ¬ Int32.ofInt b = 0 ∧ R (np, L, .int (Int32.ofInt a / Int32.ofInt b) :: S, w, k, n) := by
  refine ⟨zne0 h2 h3, ?_⟩
  rw [zdiv_i h0 h1 h2 h3]; exact h
theorem t_rem {a b : Int} (h0 : 0 ≤ a) (h1 : a ≤ 2147483647) (h2 : 0 < b) (h3 : b ≤ 2147483647) (h : R (np, L, .int (Int32.ofInt (a % b)) :: S, w, k, n)) : ¬ Int32.ofInt b = 0 ∧ R (np, L, .int (Int32.ofInt a - Int32.ofInt a / Int32.ofInt b * Int32.ofInt b) :: S, w, k, n) := by
  refine ⟨zne0 h2 h3, ?_⟩
  rw [zrem_i h0 h1 h2 h3]; exact h
theorem t_remv {a b : Int} (h0 : 0 ≤ a) (h1 : a ≤ 2147483647) (h2 : 0 < b) (h3 : b ≤ 2147483647) (h : ∀ v : Int, v = a % b → 0 ≤ v → v < b → R (np, L, .int (Int32.ofInt v) :: S, w, k, n)) : ¬ Int32.ofInt b = 0 ∧ R (np, L, .int (Int32.ofInt a - Int32.ofInt a / Int32.ofInt b * Int32.ofInt b) :: S, w, k, n) :=
  t_rem h0 h1 h2 h3 (h _ rfl (Int.emod_nonneg _ (by omega)) (Int.emod_lt_of_pos _ h2))
theorem t_o {x : Int32} (h : ∀ v : Int, (-2147483648 ≤ v ∧ v ≤ 2147483647) → R (np, L, .int (Int32.ofInt v) :: S, w, k, n)) : R (np, L, .int x :: S, w, k, n) := t_raw (h _ (zrg x))
/-- an array's element: exact, with bounds, or any -/
theorem t_ld {i : Int} {len : Nat} {g : Nat → Int32} (h0 : 0 ≤ i) (h1 : i < len) (hl : len ≤ 60000) (h : ∀ v : Int, v = (g i.toNat).toInt → R (np, L, .int (Int32.ofInt v) :: S, w, k, n)) : vp_in (Int32.ofInt i) len ∧ R (np, L, .int (g (Int32.ofInt i).toNatClampNeg) :: S, w, k, n) := by
  refine ⟨zvin h0 h1 hl, ?_⟩
  rw [zcl h0 (by omega)]
  exact t_raw (h _ rfl)
theorem t_ldB {i : Int} {len : Nat} {g : Nat → Int32} {lo hi : Int} (hg : zB lo hi g) (h0 : 0 ≤ i) (h1 : i < len) (hl : len ≤ 60000) (h : ∀ v : Int, v = (g i.toNat).toInt → lo ≤ v → v ≤ hi → R (np, L, .int (Int32.ofInt v) :: S, w, k, n)) : vp_in (Int32.ofInt i) len ∧ R (np, L, .int (g (Int32.ofInt i).toNatClampNeg) :: S, w, k, n) :=
  t_ld h0 h1 hl fun v hv => h v hv (by rw [hv]; exact (hg _).1) (by rw [hv]; exact (hg _).2)
theorem t_ldx {i : Int} {len : Nat} {g : Nat → Int32} (h0 : 0 ≤ i) (h1 : i < len) (hl : len ≤ 60000) (h : ∀ y : Int32, R (np, L, .int y :: S, w, k, n)) : vp_in (Int32.ofInt i) len ∧ R (np, L, .int (g (Int32.ofInt i).toNatClampNeg) :: S, w, k, n) := ⟨zvin h0 h1 hl, h _⟩
theorem t_ldo {i : Int} {len : Nat} {g : Nat → Int32} (h0 : 0 ≤ i) (h1 : i < len) (hl : len ≤ 60000) (h : ∀ v : Int, (-2147483648 ≤ v ∧ v ≤ 2147483647) → R (np, L, .int (Int32.ofInt v) :: S, w, k, n)) : vp_in (Int32.ofInt i) len ∧ R (np, L, .int (g (Int32.ofInt i).toNatClampNeg) :: S, w, k, n) := ⟨zvin h0 h1 hl, t_o h⟩
/-- a store: exact, with bounds, or any -/
theorem t_st {q ti : Nat} {i : Int} {x : Int32} {len : Nat} {g : Nat → Int32} (h0 : 0 ≤ i) (h1 : i < len) (hl : len ≤ 60000) (h : R (np, L, S, zst w q (.inl (ti, len, .inl (upd g i.toNat x))), k, n)) : vp_in (Int32.ofInt i) len ∧ R (np, L, S, zst w q (.inl (ti, len, .inl (upd g (Int32.ofInt i).toNatClampNeg x))), k, n) := by
  refine ⟨zvin h0 h1 hl, ?_⟩
  rw [zcl h0 (by omega)]; exact h
theorem t_stB {q ti : Nat} {i e : Int} {len : Nat} {g : Nat → Int32} {lo hi : Int} (hg : zB lo hi g) (he1 : lo ≤ e) (he2 : e ≤ hi) (hl1 : -2147483648 ≤ lo) (hh : hi ≤ 2147483647) (h0 : 0 ≤ i) (h1 : i < len) (hl : len ≤ 60000) (h : ∀ g', zB lo hi g' → R (np, L, S, zst w q (.inl (ti, len, .inl g')), k, n)) : vp_in (Int32.ofInt i) len ∧ R (np, L, S, zst w q (.inl (ti, len, .inl (upd g (Int32.ofInt i).toNatClampNeg (Int32.ofInt e)))), k, n) :=
  ⟨zvin h0 h1 hl, h _ (zB_u hg he1 he2 hl1 hh)⟩
theorem t_stx {q ti : Nat} {i : Int} {x : Int32} {len : Nat} {g : Nat → Int32} (h0 : 0 ≤ i) (h1 : i < len) (hl : len ≤ 60000) (h : ∀ g' : Nat → Int32, R (np, L, S, zst w q (.inl (ti, len, .inl g')), k, n)) : vp_in (Int32.ofInt i) len ∧ R (np, L, S, zst w q (.inl (ti, len, .inl (upd g (Int32.ofInt i).toNatClampNeg x))), k, n) := ⟨zvin h0 h1 hl, h _⟩
end ZI
/-! Branches. -/
section ZJ
variable {a b : Int} {A B : Prop}
theorem zlt_o (ha : -2147483648 ≤ a ∧ a ≤ 2147483647) (hb : -2147483648 ≤ b ∧ b ≤ 2147483647) : Int32.ofInt a < Int32.ofInt b ↔ a < b := by rw [zlt_i, zti ha.1 ha.2, zti hb.1 hb.2]
theorem zle_o (ha : -2147483648 ≤ a ∧ a ≤ 2147483647) (hb : -2147483648 ≤ b ∧ b ≤ 2147483647) : Int32.ofInt a ≤ Int32.ofInt b ↔ a ≤ b := by rw [zle_i, zti ha.1 ha.2, zti hb.1 hb.2]
theorem zeq_o (ha : -2147483648 ≤ a ∧ a ≤ 2147483647) (hb : -2147483648 ≤ b ∧ b ≤ 2147483647) : Int32.ofInt a = Int32.ofInt b ↔ a = b := by rw [zeq_i, zti ha.1 ha.2, zti hb.1 hb.2]
theorem j_lt (ha : -2147483648 ≤ a ∧ a ≤ 2147483647) (hb : -2147483648 ≤ b ∧ b ≤ 2147483647) (h1 : a < b → A) (h2 : ¬ a < b → B) : (Int32.ofInt a < Int32.ofInt b → A) ∧ (¬ Int32.ofInt a < Int32.ofInt b → B) := by rw [zlt_o ha hb]; exact ⟨h1, h2⟩
theorem j_gt (ha : -2147483648 ≤ a ∧ a ≤ 2147483647) (hb : -2147483648 ≤ b ∧ b ≤ 2147483647) (h1 : b < a → A) (h2 : ¬ b < a → B) : (Int32.ofInt b < Int32.ofInt a → A) ∧ (¬ Int32.ofInt b < Int32.ofInt a → B) := by rw [zlt_o hb ha]; exact ⟨h1, h2⟩
theorem j_le (ha : -2147483648 ≤ a ∧ a ≤ 2147483647) (hb : -2147483648 ≤ b ∧ b ≤ 2147483647) (h1 : a ≤ b → A) (h2 : ¬ a ≤ b → B) : (Int32.ofInt a ≤ Int32.ofInt b → A) ∧ (¬ Int32.ofInt a ≤ Int32.ofInt b → B) := by rw [zle_o ha hb]; exact ⟨h1, h2⟩
theorem j_ge (ha : -2147483648 ≤ a ∧ a ≤ 2147483647) (hb : -2147483648 ≤ b ∧ b ≤ 2147483647) (h1 : b ≤ a → A) (h2 : ¬ b ≤ a → B) : (Int32.ofInt b ≤ Int32.ofInt a → A) ∧ (¬ Int32.ofInt b ≤ Int32.ofInt a → B) := by rw [zle_o hb ha]; exact ⟨h1, h2⟩
theorem j_eq (ha : -2147483648 ≤ a ∧ a ≤ 2147483647) (hb : -2147483648 ≤ b ∧ b ≤ 2147483647) (h1 : a = b → A) (h2 : ¬ a = b → B) : (Int32.ofInt a = Int32.ofInt b → A) ∧ (¬ Int32.ofInt a = Int32.ofInt b → B) := by rw [zeq_o ha hb]; exact ⟨h1, h2⟩
theorem j_ne (ha : -2147483648 ≤ a ∧ a ≤ 2147483647) (hb : -2147483648 ≤ b ∧ b ≤ 2147483647) (h1 : ¬ a = b → A) (h2 : a = b → B) : (¬ Int32.ofInt a = Int32.ofInt b → A) ∧ (Int32.ofInt a = Int32.ofInt b → B) := by rw [zeq_o ha hb]; exact ⟨h1, h2⟩
theorem zz0 : (0 : Int32) = Int32.ofInt 0 := by decide
theorem z0rg : -2147483648 ≤ (0 : Int) ∧ (0 : Int) ≤ 2147483647 := by omega
theorem k_lt (ha : -2147483648 ≤ a ∧ a ≤ 2147483647) (h1 : a < 0 → A) (h2 : ¬ a < 0 → B) : (Int32.ofInt a < 0 → A) ∧ (¬ Int32.ofInt a < 0 → B) := by rw [zz0]; exact j_lt ha z0rg h1 h2
theorem k_gt (ha : -2147483648 ≤ a ∧ a ≤ 2147483647) (h1 : 0 < a → A) (h2 : ¬ 0 < a → B) : (0 < Int32.ofInt a → A) ∧ (¬ 0 < Int32.ofInt a → B) := by rw [zz0]; exact j_gt ha z0rg h1 h2
theorem k_le (ha : -2147483648 ≤ a ∧ a ≤ 2147483647) (h1 : a ≤ 0 → A) (h2 : ¬ a ≤ 0 → B) : (Int32.ofInt a ≤ 0 → A) ∧ (¬ Int32.ofInt a ≤ 0 → B) := by rw [zz0]; exact j_le ha z0rg h1 h2
theorem k_ge (ha : -2147483648 ≤ a ∧ a ≤ 2147483647) (h1 : 0 ≤ a → A) (h2 : ¬ 0 ≤ a → B) : (0 ≤ Int32.ofInt a → A) ∧ (¬ 0 ≤ Int32.ofInt a → B) := by rw [zz0]; exact j_ge ha z0rg h1 h2
theorem k_eq (ha : -2147483648 ≤ a ∧ a ≤ 2147483647) (h1 : a = 0 → A) (h2 : ¬ a = 0 → B) : (Int32.ofInt a = 0 → A) ∧ (¬ Int32.ofInt a = 0 → B) := by rw [zz0]; exact j_eq ha z0rg h1 h2
theorem k_ne (ha : -2147483648 ≤ a ∧ a ≤ 2147483647) (h1 : ¬ a = 0 → A) (h2 : a = 0 → B) : (¬ Int32.ofInt a = 0 → A) ∧ (Int32.ofInt a = 0 → B) := by rw [zz0]; exact j_ne ha z0rg h1 h2
theorem j_any {P Q : Prop} (h1 : A) (h2 : B) : (P → A) ∧ (Q → B) := ⟨fun _ => h1, fun _ => h2⟩
theorem zand_r (x : Int32) {m : Int32} (j : Nat) (hm : m.toBitVec.toNat = 2 ^ j - 1) (hj : j ≤ 30) : ∃ v : Int, 0 ≤ v ∧ v < 2 ^ j ∧ x &&& m = Int32.ofInt v := by
  obtain ⟨i, h1, h2⟩ := pk_andE x j hm
  refine ⟨(i : Int), by omega, ?_, h2⟩
  exact_mod_cast h1
end ZJ
end
section
/-! THE REFERENCE'S WORLD. -/
def zMg (c0 c1 c2 c3 c4 c5 c6 c7 c8 c9 c10 c11 c12 c13 : va_E) (x0 x9 x10 x11 x12 x13 x15 x16 x17 x20 x21 x22 x23 x26 x28 x31 x32 x33 x38 x41 x44 : Int32) (x14 : Int64) (g15 g16 g17 g18 g19 g20 g21 g22 g23 g24 g25 g26 g27 g28 g29 g30 g31 g32 g33 g34 g35 g36 g37 g38 g39 g40 g41 g42 g43 g44 : Nat → Int32) (t : zW) : zW := c0 :: c1 :: c2 :: c3 :: c4 :: c5 :: c6 :: c7 :: c8 :: c9 :: c10 :: c11 :: c12 :: c13 :: .inr (11, [.int x0, .ref 15, .ref 16, .ref 17, .ref 18, .ref 19, .ref 20, .ref 21, .ref 22, .int x9, .int x10, .int x11, .int x12, .int x13, .long x14, .int x15, .int x16, .int x17, .ref 23, .ref 24, .int x20, .int x21, .int x22, .int x23, .ref 25, .ref 26, .int x26, .ref 27, .int x28, .ref 28, .ref 29, .int x31, .int x32, .int x33, .ref 30, .ref 31, .ref 32, .ref 33, .int x38, .ref 34, .ref 35, .int x41, .ref 36, .ref 37, .int x44, .ref 38, .ref 39, .ref 40, .ref 41, .ref 42, .ref 43, .ref 44]) :: .inl (0, 2400, .inl g15) :: .inl (1, 4, .inl g16) :: .inl (1, 4, .inl g17) :: .inl (1, 4, .inl g18) :: .inl (1, 12, .inl g19) :: .inl (1, 408, .inl g20) :: .inl (1, 968, .inl g21) :: .inl (1, 104, .inl g22) :: .inl (1, 121, .inl g23) :: .inl (1, 3, .inl g24) :: .inl (1, 7, .inl g25) :: .inl (1, 7, .inl g26) :: .inl (1, 49, .inl g27) :: .inl (1, 4, .inl g28) :: .inl (1, 5, .inl g29) :: .inl (1, 27305, .inl g30) :: .inl (1, 5461, .inl g31) :: .inl (1, 5461, .inl g32) :: .inl (1, 5461, .inl g33) :: .inl (1, 5461, .inl g34) :: .inl (1, 54610, .inl g35) :: .inl (1, 54610, .inl g36) :: .inl (1, 54610, .inl g37) :: .inl (1, 5461, .inl g38) :: .inl (1, 5461, .inl g39) :: .inl (1, 5461, .inl g40) :: .inl (1, 5461, .inl g41) :: .inl (1, 5461, .inl g42) :: .inl (1, 27305, .inl g43) :: .inl (2, 3, .inl g44) :: t
abbrev zMi (c0 c1 c2 c3 c4 c5 c6 c7 c8 c9 c10 c11 c12 c13 : va_E) (f0 f9 f10 f11 f12 f13 f15 f16 f17 f20 f21 f22 f23 f26 f28 f31 f32 f33 f38 f41 f44 : Int) (x14 : Int64) (g15 g16 g17 g18 g19 g20 g21 g22 g23 g24 g25 g26 g27 g28 g29 g30 g31 g32 g33 g34 g35 g36 g37 g38 g39 g40 g41 g42 g43 g44 : Nat → Int32) (t : zW) : zW := zMg c0 c1 c2 c3 c4 c5 c6 c7 c8 c9 c10 c11 c12 c13 (Int32.ofInt f0) (Int32.ofInt f9) (Int32.ofInt f10) (Int32.ofInt f11) (Int32.ofInt f12) (Int32.ofInt f13) (Int32.ofInt f15) (Int32.ofInt f16) (Int32.ofInt f17) (Int32.ofInt f20) (Int32.ofInt f21) (Int32.ofInt f22) (Int32.ofInt f23) (Int32.ofInt f26) (Int32.ofInt f28) (Int32.ofInt f31) (Int32.ofInt f32) (Int32.ofInt f33) (Int32.ofInt f38) (Int32.ofInt f41) (Int32.ofInt f44) x14 g15 g16 g17 g18 g19 g20 g21 g22 g23 g24 g25 g26 g27 g28 g29 g30 g31 g32 g33 g34 g35 g36 g37 g38 g39 g40 g41 g42 g43 g44 t
end
section
theorem m_in (d : Nat) (a1 a2 a3 : Int) (w : zW) (hr0 : -2147483648 ≤ a1 ∧ a1 ≤ 2147483647) (hr1 : -2147483648 ≤ a2 ∧ a2 ≤ 2147483647) (hr2 : -2147483648 ≤ a3 ∧ a3 ≤ 2147483647) (Q : zQ) (h : ∀ (v : Int), ((v = 1 ∧ a2 ≤ a1 ∧ a1 ≤ a3) ∨ (v = 0 ∧ (a1 < a2 ∨ a3 < a1))) → Q (some (.int (Int32.ofInt v))) w) : zCl zTab (d + 1) iX12_in [.int (Int32.ofInt a1), .int (Int32.ofInt a2), .int (Int32.ofInt a3)] w 0 0 Q := by
  refine zCl_i (M := kX12_in) rfl (Nat.le_of_ble_eq_true rfl) fun R hR => ?_
  iterate 2 refine hR (?_ : R (_, _, _, _, _, _))
  refine hR (j_lt (by omega) (by omega) (fun hc1 => ?_) (fun hc1 => ?_))
  · skip
    refine hR (?_ : R (_, _, _, _, _, _))
    exact hR (zret_i rfl (Nat.le_refl _) (zbo (by omega)) (h _ (by omega)))
  iterate 2 refine hR (?_ : R (_, _, _, _, _, _))
  refine hR (j_gt (by omega) (by omega) (fun hc2 => ?_) (fun hc2 => ?_))
  · skip
    refine hR (?_ : R (_, _, _, _, _, _))
    exact hR (zret_i rfl (Nat.le_refl _) (zbo (by omega)) (h _ (by omega)))
  iterate 2 refine hR (?_ : R (_, _, _, _, _, _))
  exact hR (zret_i rfl (Nat.le_refl _) (zbo (by omega)) (h _ (by omega)))
theorem m_has (d : Nat) (a1 a2 : Int) (w : zW)  (Q : zQ) (h : ∀ (v : Int), (v = 0 ∨ v = 1) → Q (some (.int (Int32.ofInt v))) w) : zCl zTab (d + 1) iX12_has [.int (Int32.ofInt a1), .int (Int32.ofInt a2)] w 0 0 Q := by
  refine zCl_i (M := kX12_has) rfl (Nat.le_of_ble_eq_true rfl) fun R hR => ?_
  iterate 2 refine hR (?_ : R (_, _, _, _, _, _))
  refine hR (t_o fun v1 rv1 => ?_)
  refine hR (?_ : R (_, _, _, _, _, _))
  obtain ⟨v2, lv2, uv2, qv2⟩ := zand_r (Int32.ofInt v1) (m := Int32.ofInt 1) 1 (by decide) (by decide)
  refine hR (t_c v2 qv2 ?_)
  refine hR (?_ : R (_, _, _, _, _, _))
  refine hR (j_ne (by omega) (by omega) (fun hc3 => ?_) (fun hc3 => ?_))
  · skip
    refine hR (?_ : R (_, _, _, _, _, _))
    exact hR (zret_i rfl (Nat.le_refl _) (zbo (by omega)) (h _ (by omega)))
  iterate 2 refine hR (?_ : R (_, _, _, _, _, _))
  exact hR (zret_i rfl (Nat.le_refl _) (zbo (by omega)) (h _ (by omega)))
theorem m_greater (d : Nat) (a1 a2 : Int) (w : zW) (hr0 : -2147483648 ≤ a1 ∧ a1 ≤ 2147483647) (hr1 : -2147483648 ≤ a2 ∧ a2 ≤ 2147483647) (Q : zQ) (h : ∀ (v : Int), (a1 ≤ v ∧ a2 ≤ v ∧ (v = a1 ∨ v = a2)) → Q (some (.int (Int32.ofInt v))) w) : zCl zTab (d + 1) iX12_greater [.int (Int32.ofInt a1), .int (Int32.ofInt a2)] w 0 0 Q := by
  refine zCl_i (M := kX12_greater) rfl (Nat.le_of_ble_eq_true rfl) fun R hR => ?_
  iterate 2 refine hR (?_ : R (_, _, _, _, _, _))
  refine hR (j_le (by omega) (by omega) (fun hc1 => ?_) (fun hc1 => ?_))
  · skip
    refine hR (?_ : R (_, _, _, _, _, _))
    exact hR (zret_i rfl (Nat.le_refl _) trivial (h _ (by omega)))
  iterate 2 refine hR (?_ : R (_, _, _, _, _, _))
  exact hR (zret_i rfl (Nat.le_refl _) trivial (h _ (by omega)))
theorem m_greaterx (d : Nat) (a1 a2 : Int) (w : zW)  (Q : zQ) (h : ∀ (v : Int), Q (some (.int (Int32.ofInt v))) w) : zCl zTab (d + 1) iX12_greater [.int (Int32.ofInt a1), .int (Int32.ofInt a2)] w 0 0 Q := by
  refine zCl_i (M := kX12_greater) rfl (Nat.le_of_ble_eq_true rfl) fun R hR => ?_
  iterate 2 refine hR (?_ : R (_, _, _, _, _, _))
  refine hR (j_any ?_ ?_)
  · skip
    refine hR (?_ : R (_, _, _, _, _, _))
    exact hR (zret_i rfl (Nat.le_refl _) trivial (h _))
  iterate 2 refine hR (?_ : R (_, _, _, _, _, _))
  exact hR (zret_i rfl (Nat.le_refl _) trivial (h _))
theorem m_lesser (d : Nat) (a1 a2 : Int) (w : zW) (hr0 : -2147483648 ≤ a1 ∧ a1 ≤ 2147483647) (hr1 : -2147483648 ≤ a2 ∧ a2 ≤ 2147483647) (Q : zQ) (h : ∀ (v : Int), (v ≤ a1 ∧ v ≤ a2 ∧ (v = a1 ∨ v = a2)) → Q (some (.int (Int32.ofInt v))) w) : zCl zTab (d + 1) iX12_lesser [.int (Int32.ofInt a1), .int (Int32.ofInt a2)] w 0 0 Q := by
  refine zCl_i (M := kX12_lesser) rfl (Nat.le_of_ble_eq_true rfl) fun R hR => ?_
  iterate 2 refine hR (?_ : R (_, _, _, _, _, _))
  refine hR (j_ge (by omega) (by omega) (fun hc1 => ?_) (fun hc1 => ?_))
  · skip
    refine hR (?_ : R (_, _, _, _, _, _))
    exact hR (zret_i rfl (Nat.le_refl _) trivial (h _ (by omega)))
  iterate 2 refine hR (?_ : R (_, _, _, _, _, _))
  exact hR (zret_i rfl (Nat.le_refl _) trivial (h _ (by omega)))
theorem m_lesserx (d : Nat) (a1 a2 : Int) (w : zW)  (Q : zQ) (h : ∀ (v : Int), Q (some (.int (Int32.ofInt v))) w) : zCl zTab (d + 1) iX12_lesser [.int (Int32.ofInt a1), .int (Int32.ofInt a2)] w 0 0 Q := by
  refine zCl_i (M := kX12_lesser) rfl (Nat.le_of_ble_eq_true rfl) fun R hR => ?_
  iterate 2 refine hR (?_ : R (_, _, _, _, _, _))
  refine hR (j_any ?_ ?_)
  · skip
    refine hR (?_ : R (_, _, _, _, _, _))
    exact hR (zret_i rfl (Nat.le_refl _) trivial (h _))
  iterate 2 refine hR (?_ : R (_, _, _, _, _, _))
  exact hR (zret_i rfl (Nat.le_refl _) trivial (h _))
section MZ
variable {c0 c1 c2 c3 c4 c5 c6 c7 c8 c9 c10 c11 c12 c13 : va_E} {f0 f9 f10 f11 f12 f13 f15 f16 f17 f20 f21 f22 f23 f26 f28 f31 f32 f33 f38 f41 f44 : Int} {x14 : Int64} {g15 g16 g17 g18 g19 g20 g21 g22 g23 g24 g25 g26 g27 g28 g29 g30 g31 g32 g33 g34 g35 g36 g37 g38 g39 g40 g41 g42 g43 g44 : Nat → Int32} {t : zW}
theorem m_is (d : Nat) (a1 a2 : Int) (hb19 : zB 0 2 g19) (hr1 : 0 ≤ a1 ∧ a1 ≤ 2) (hr2 : -2147483648 ≤ a2 ∧ a2 ≤ 2147483647) (Q : zQ) (h : ∀ (v : Int), ((v = 1 ∧ 0 ≤ a2 ∧ a2 < (g19 a1.toNat).toInt ∧ a2 ≤ 1) ∨ (v = 0 ∧ (a2 < 0 ∨ (g19 a1.toNat).toInt ≤ a2))) → Q (some (.int (Int32.ofInt v))) (zMi c0 c1 c2 c3 c4 c5 c6 c7 c8 c9 c10 c11 c12 c13 f0 f9 f10 f11 f12 f13 f15 f16 f17 f20 f21 f22 f23 f26 f28 f31 f32 f33 f38 f41 f44 x14 g15 g16 g17 g18 g19 g20 g21 g22 g23 g24 g25 g26 g27 g28 g29 g30 g31 g32 g33 g34 g35 g36 g37 g38 g39 g40 g41 g42 g43 g44 t)) : zCl zTab (d + 2) iX12_is [.ref 14, .int (Int32.ofInt a1), .int (Int32.ofInt a2)] (zMi c0 c1 c2 c3 c4 c5 c6 c7 c8 c9 c10 c11 c12 c13 f0 f9 f10 f11 f12 f13 f15 f16 f17 f20 f21 f22 f23 f26 f28 f31 f32 f33 f38 f41 f44 x14 g15 g16 g17 g18 g19 g20 g21 g22 g23 g24 g25 g26 g27 g28 g29 g30 g31 g32 g33 g34 g35 g36 g37 g38 g39 g40 g41 g42 g43 g44 t) 0 0 Q := by
  refine zCl_i (M := kX12_is) rfl (Nat.le_of_ble_eq_true rfl) fun R hR => ?_
  iterate 5 refine hR (?_ : R (_, _, _, _, _, _))
  refine hR (t_ldB hb19 (by omega) (by omega) (Nat.le_of_ble_eq_true rfl) fun v1 ev1 lv1 uv1 => ?_)
  refine hR (?_ : R (_, _, _, _, _, _))
  refine hR (t_sub ?_)
  refine hR (zcall_i 0 0 (Nat.le_of_ble_eq_true rfl) (Nat.le_of_ble_eq_true rfl) (m_in _ a2 0 (v1 - 1) _ (by omega) (by omega) (by omega) _ fun v2 hp3 => ?_))
  refine (?_ : R (_, _, (.int (Int32.ofInt v2)) :: [], (zMi c0 c1 c2 c3 c4 c5 c6 c7 c8 c9 c10 c11 c12 c13 f0 f9 f10 f11 f12 f13 f15 f16 f17 f20 f21 f22 f23 f26 f28 f31 f32 f33 f38 f41 f44 x14 g15 g16 g17 g18 g19 g20 g21 g22 g23 g24 g25 g26 g27 g28 g29 g30 g31 g32 g33 g34 g35 g36 g37 g38 g39 g40 g41 g42 g43 g44 t), 0, 0))
  exact hR (zret_i rfl (Nat.le_refl _) (zbo (by omega)) (h _ (by omega)))
theorem m_isText (d : Nat) (a1 : Int) (w : zW) (hr0 : -2147483648 ≤ a1 ∧ a1 ≤ 2147483647) (Q : zQ) (h : ∀ (v : Int), ((v = 1 ∧ 0 ≤ a1 ∧ a1 ≤ 5460) ∨ (v = 0 ∧ (a1 < 0 ∨ 5460 < a1))) → Q (some (.int (Int32.ofInt v))) w) : zCl zTab (d + 2) iX12_isText [.int (Int32.ofInt a1)] w 0 0 Q := by
  refine zCl_i (M := kX12_isText) rfl (Nat.le_of_ble_eq_true rfl) fun R hR => ?_
  iterate 2 refine hR (?_ : R (_, _, _, _, _, _))
  refine hR (t_c 5460 (by decide) ?_)
  refine hR (zcall_i 0 0 (Nat.le_of_ble_eq_true rfl) (Nat.le_of_ble_eq_true rfl) (m_in _ a1 0 5460 _ (by omega) (by omega) (by omega) _ fun v1 hp2 => ?_))
  refine (?_ : R (_, _, (.int (Int32.ofInt v1)) :: [], w, 0, 0))
  exact hR (zret_i rfl (Nat.le_refl _) (zbo (by omega)) (h _ (by omega)))
theorem m_isReader (d : Nat) (a1 : Int) (hr0 : -2147483648 ≤ a1 ∧ a1 ≤ 2147483647) (hr1 : 0 ≤ f23 ∧ f23 ≤ 5) (Q : zQ) (h : ∀ (v : Int), ((v = 1 ∧ 0 ≤ a1 ∧ a1 < f23) ∨ (v = 0 ∧ (a1 < 0 ∨ f23 ≤ a1))) → Q (some (.int (Int32.ofInt v))) (zMi c0 c1 c2 c3 c4 c5 c6 c7 c8 c9 c10 c11 c12 c13 f0 f9 f10 f11 f12 f13 f15 f16 f17 f20 f21 f22 f23 f26 f28 f31 f32 f33 f38 f41 f44 x14 g15 g16 g17 g18 g19 g20 g21 g22 g23 g24 g25 g26 g27 g28 g29 g30 g31 g32 g33 g34 g35 g36 g37 g38 g39 g40 g41 g42 g43 g44 t)) : zCl zTab (d + 2) iX12_isReader [.ref 14, .int (Int32.ofInt a1)] (zMi c0 c1 c2 c3 c4 c5 c6 c7 c8 c9 c10 c11 c12 c13 f0 f9 f10 f11 f12 f13 f15 f16 f17 f20 f21 f22 f23 f26 f28 f31 f32 f33 f38 f41 f44 x14 g15 g16 g17 g18 g19 g20 g21 g22 g23 g24 g25 g26 g27 g28 g29 g30 g31 g32 g33 g34 g35 g36 g37 g38 g39 g40 g41 g42 g43 g44 t) 0 0 Q := by
  refine zCl_i (M := kX12_isReader) rfl (Nat.le_of_ble_eq_true rfl) fun R hR => ?_
  iterate 5 refine hR (?_ : R (_, _, _, _, _, _))
  refine hR (t_sub ?_)
  refine hR (zcall_i 0 0 (Nat.le_of_ble_eq_true rfl) (Nat.le_of_ble_eq_true rfl) (m_in _ a1 0 (f23 - 1) _ (by omega) (by omega) (by omega) _ fun v1 hp2 => ?_))
  refine (?_ : R (_, _, (.int (Int32.ofInt v1)) :: [], (zMi c0 c1 c2 c3 c4 c5 c6 c7 c8 c9 c10 c11 c12 c13 f0 f9 f10 f11 f12 f13 f15 f16 f17 f20 f21 f22 f23 f26 f28 f31 f32 f33 f38 f41 f44 x14 g15 g16 g17 g18 g19 g20 g21 g22 g23 g24 g25 g26 g27 g28 g29 g30 g31 g32 g33 g34 g35 g36 g37 g38 g39 g40 g41 g42 g43 g44 t), 0, 0))
  exact hR (zret_i rfl (Nat.le_refl _) (zbo (by omega)) (h _ (by omega)))
end MZ
end
section
/-! TEXTS BY THEIR NUMBERS. -/
theorem zB_nI {g : Nat → Int32} (hg : zB 0 3 g) {i m : Nat} {x : Int32} (hx : x = nI m) (hm : m ≤ 3) : zB 0 3 (upd g i x) := by
  intro j
  unfold upd
  split
  · rw [hx, nI_toInt (by omega)]; omega
  · exact hg j
def tSh (n : Nat) : Nat := (4 ^ n - 1) / 3
def tLen (t : Nat) : Nat := if t < 1 then 0 else if t < 5 then 1 else if t < 21 then 2 else if t < 85 then 3 else if t < 341 then 4 else if t < 1365 then 5 else 6
def tF (t : Nat) : Nat := t - tSh (tLen t)
def tW (t k : Nat) : Nat := tF t / 4 ^ (tLen t - 1 - k) % 4
def tB (t : Nat) : Nat := t - tSh (tLen t) + 4 ^ tLen t
theorem tLen_le (t : Nat) : tLen t ≤ 6 := by
  unfold tLen
  repeat' split
  all_goals omega
def cL : Nat → Nat → Nat → Nat
  | 0, _, n => n
  | k + 1, l, n => if l = 0 then n else cL k ((l - 1) / 4) (n + 1)
theorem cL_eq (t : Nat) (ht : t < 5461) : cL 6 t 0 = tLen t := by
  simp only [cL, tLen]
  repeat' split
  all_goals omega
theorem tB_w (t : Nat) (k : Nat) (hk : k < tLen t) : tB t / 4 ^ (tLen t - 1 - k) % 4 = tW t k := by
  unfold tB tW tF
  generalize t - tSh (tLen t) = f
  have h6 := tLen_le t
  generalize tLen t = n at hk h6 ⊢
  have e : 4 ^ n = 4 ^ (n - 1 - k) * (4 * 4 ^ k) := by
    rw [← Nat.pow_succ', ← Nat.pow_add]
    congr 1
    omega
  rw [e, Nat.add_mul_div_left _ _ (Nat.pos_of_ne_zero (by simp)), Nat.add_mul_mod_self_left]
theorem tSh_v : tSh 0 = 0 ∧ tSh 1 = 1 ∧ tSh 2 = 5 ∧ tSh 3 = 21 ∧ tSh 4 = 85 ∧ tSh 5 = 341 ∧ tSh 6 = 1365 ∧ tSh 7 = 5461 := by decide
theorem tLen_v (t : Nat) (ht : t < 5461) : (t < 1 ∧ tLen t = 0) ∨ (1 ≤ t ∧ t < 5 ∧ tLen t = 1) ∨ (5 ≤ t ∧ t < 21 ∧ tLen t = 2) ∨ (21 ≤ t ∧ t < 85 ∧ tLen t = 3) ∨ (85 ≤ t ∧ t < 341 ∧ tLen t = 4) ∨ (341 ≤ t ∧ t < 1365 ∧ tLen t = 5) ∨ (1365 ≤ t ∧ tLen t = 6) := by
  unfold tLen
  repeat' split
  all_goals omega
theorem tSh_le (t : Nat) (ht : t < 5461) : tSh (tLen t) ≤ t ∧ t < tSh (tLen t + 1) ∧ tB t < 8192 ∧ tF t < 4096 := by
  obtain ⟨e0, e1, e2, e3, e4, e5, e6, e7⟩ := tSh_v
  unfold tB tF
  rcases tLen_v t ht with ⟨h1, h⟩ | ⟨h1, h2, h⟩ | ⟨h1, h2, h⟩ | ⟨h1, h2, h⟩ | ⟨h1, h2, h⟩ | ⟨h1, h2, h⟩ | ⟨h1, h⟩ <;> rw [h] <;> simp only [e0, e1, e2, e3, e4, e5, e6, e7] <;> omega
theorem nI1 : Int32.ofInt 1 = nI 1 := by decide
theorem nI0 : Int32.ofInt 0 = nI 0 := by decide
theorem nI2 : Int32.ofInt 2 = nI 2 := by decide
theorem nI3 : Int32.ofInt 3 = nI 3 := by decide
theorem nI4 : Int32.ofInt 4 = nI 4 := by decide
theorem nI6 : (Int8.ofInt 6).toInt32 = nI 6 := by decide
set_option maxHeartbeats 1000000 in
theorem r_lengthOf (d : Nat) (x : Int32) (t : Nat) (hx : x = nI t) (ht : t < 5461) (w : zW) (Q : zQ) (h : Q (some (.int (nI (tLen t)))) w) : zCl zTab (d + 1) iX11_lengthOf [.int x] w 0 0 Q := by
  refine zCl_i (M := kX11_lengthOf) rfl (Nat.le_of_ble_eq_true rfl) fun R hR => ?_
  have loop : ∀ (k : Nat) (n l i : Int32) (a b j : Nat), l = nI a → n = nI b → i = nI j → j + k = 6 → a < 5461 → cL k a b = tLen t → R (6, [some (.int x), some (.int n), some (.int l), some (.int i)], [], w, 0, 0) := by
    intro k
    induction k with
    | zero =>
      intro n l i a b j hl hn hi hj ha hc
      iterate 2 refine hR (?_ : R (_, _, _, _, _, _))
      refine hR (pk_le 6 j (fun _ => ?_) (fun z => by omega) nI6 hi)
      refine hR (?_ : R (_, _, _, _, _, _))
      have e : n = nI (tLen t) := by rw [hn, ← hc]; rfl
      subst e
      exact hR (zret_i rfl (Nat.le_refl _) trivial h)
    | succ k ih =>
      intro n l i a b j hl hn hi hj ha hc
      iterate 2 refine hR (?_ : R (_, _, _, _, _, _))
      refine hR (pk_le 6 j (fun z => by omega) (fun _ => ?_) nI6 hi)
      refine hR (?_ : R (_, _, _, _, _, _))
      refine hR (pk_le a 0 (fun z => ?_) (fun z => ?_) hl rfl)
      · refine hR (?_ : R (_, _, _, _, _, _))
        have e : n = nI (tLen t) := by
          rw [hn, ← hc]
          unfold cL
          rw [if_pos (by omega)]
        subst e
        exact hR (zret_i rfl (Nat.le_refl _) trivial h)
      · iterate 4 refine hR (?_ : R (_, _, _, _, _, _))
        refine hR (And.intro (by decide) ?_)
        iterate 4 refine hR (?_ : R (_, _, _, _, _, _))
        refine ih _ _ _ ((a - 1) / 4) (b + 1) (j + 1) ?_ ?_ ?_ (by omega) (by omega) ?_
        · rw [hl, nI1, nI4, pk_sub (by omega), pk_div (by omega) (by omega) (by omega)]
        · rw [hn, nI1, nI_add]
        · rw [hi, nI1, nI_add]
        · rw [← hc]
          conv => rhs; unfold cL
          rw [if_neg (by omega)]
  iterate 6 refine hR (?_ : R (_, _, _, _, _, _))
  exact loop 6 _ _ _ t 0 0 hx nI0 nI0 rfl ht (cL_eq t ht)
theorem t_shl : ∀ n, n < 7 → Int32.ofInt 1 <<< ((Int32.ofInt 2 * nI n) &&& 31) = nI (4 ^ n) := by decide +kernel
theorem t_dv : ∀ n, n < 7 → (nI (4 ^ n) - Int32.ofInt 1) / Int32.ofInt 3 = nI (tSh n) := by decide +kernel
theorem r_bitsOf (d : Nat) (x : Int32) (t : Nat) (hx : x = nI t) (ht : t < 5461) (w : zW) (Q : zQ) (h : Q (some (.int (nI (tB t)))) w) : zCl zTab (d + 2) iX11_bitsOf [.int x] w 0 0 Q := by
  have h6 := tLen_le t
  have hs := tSh_le t ht
  refine zCl_i (M := kX11_bitsOf) rfl (Nat.le_of_ble_eq_true rfl) fun R hR => ?_
  refine hR (?_ : R (_, _, _, _, _, _))
  refine hR (zcall_i 0 0 (Nat.le_of_ble_eq_true rfl) (Nat.le_of_ble_eq_true rfl) (r_lengthOf _ _ t hx ht _ _ ?_))
  iterate 12 refine hR (?_ : R (_, _, _, _, _, _))
  refine hR (And.intro (by decide) ?_)
  iterate 3 refine hR (?_ : R (_, _, _, _, _, _))
  have e : x - (Int32.ofInt 1 <<< ((Int32.ofInt 2 * nI (tLen t)) &&& 31) - Int32.ofInt 1) / Int32.ofInt 3 + Int32.ofInt 1 <<< ((Int32.ofInt 2 * nI (tLen t)) &&& 31) = nI (tB t) := by
    rw [t_shl _ (by omega), t_dv _ (by omega), hx, pk_sub hs.1, nI_add]
    rfl
  refine hR (zret_i rfl (Nat.le_refl _) trivial ?_)
  have h2 : ∀ y, y = nI (tB t) → Q (some (.int y)) w := fun y hy => by rw [hy]; exact h
  exact h2 _ e
theorem t_sm : ∀ j, j < 7 → ((nI (2 * j) &&& 31).toBitVec.smod 32).toNat = 2 * j := by decide +kernel
theorem t_4 (j : Nat) : 2 ^ (2 * j) = 4 ^ j := by rw [Nat.pow_mul]
theorem r_wordOfBits (d : Nat) (x y : Int32) (B j : Nat) (hx : x = nI B) (hB : B < 2 ^ 31) (hy : y = nI j) (hj : j < 7) (w : zW) (Q : zQ) (h : Q (some (.int (nI (B / 4 ^ j % 4)))) w) : zCl zTab (d + 1) iX11_wordOfBits [.int x, .int y] w 0 0 Q := by
  refine zCl_i (M := kX11_wordOfBits) rfl (Nat.le_of_ble_eq_true rfl) fun R hR => ?_
  iterate 7 refine hR (?_ : R (_, _, _, _, _, _))
  refine hR (zret_i rfl (Nat.le_refl _) trivial ?_)
  have h2 : ∀ z, z = nI (B / 4 ^ j % 4) → Q (some (.int z)) w := fun z hz => by rw [hz]; exact h
  refine h2 _ ?_
  show (x >>> (Int32.ofInt 2 * y &&& 31)) &&& Int32.ofInt 3 = _
  rw [hx, hy, nI2, pk_mul, pk_shrN hB _ (2 * j) (t_sm j hj), t_4, pk_andN (Nat.lt_of_le_of_lt (Nat.div_le_self _ _) (by omega)) 2 (by decide)]
theorem r_wordAt (d : Nat) (x y : Int32) (t k : Nat) (hx : x = nI t) (ht : t < 5461) (hy : y = nI k) (hk : k < tLen t) (w : zW) (Q : zQ) (h : Q (some (.int (nI (tW t k)))) w) : zCl zTab (d + 3) iX11_wordAt [.int x, .int y] w 0 0 Q := by
  have h6 := tLen_le t
  have hs := tSh_le t ht
  refine zCl_i (M := kX11_wordAt) rfl (Nat.le_of_ble_eq_true rfl) fun R hR => ?_
  refine hR (?_ : R (_, _, _, _, _, _))
  refine hR (zcall_i 0 0 (Nat.le_of_ble_eq_true rfl) (Nat.le_of_ble_eq_true rfl) (r_bitsOf _ _ t hx ht _ _ ?_))
  refine hR (?_ : R (_, _, _, _, _, _))
  refine hR (zcall_i 0 0 (Nat.le_of_ble_eq_true rfl) (Nat.le_of_ble_eq_true rfl) (r_lengthOf _ _ t hx ht _ _ ?_))
  iterate 4 refine hR (?_ : R (_, _, _, _, _, _))
  have hb : tB t < 2 ^ 31 := by omega
  have hj : tLen t - 1 - k < 7 := by omega
  have ey : nI (tLen t) - Int32.ofInt 1 - y = nI (tLen t - 1 - k) := by rw [nI1, hy, pk_sub (by omega), pk_sub (by omega)]
  refine hR (zcall_i 0 0 (Nat.le_of_ble_eq_true rfl) (Nat.le_of_ble_eq_true rfl) (r_wordOfBits _ (nI (tB t)) (nI (tLen t) - Int32.ofInt 1 - y) (tB t) (tLen t - 1 - k) rfl hb ey hj _ _ ?_))
  have h3 : ∀ z, z = nI (tW t k) → Q (some (.int z)) w := fun z hz => by rw [hz]; exact h
  exact hR (zret_i rfl (Nat.le_refl _) trivial (h3 _ (congrArg nI (tB_w t k hk))))
def vWord (x k : Int32) : Int32 := if x < 0 ∨ 5461 ≤ x then Int32.ofInt (-1) else if k = Int32.ofInt (-1) then nI (tLen x.toNatClampNeg) else if k < 0 ∨ nI (tLen x.toNatClampNeg) ≤ k then Int32.ofInt (-1) else nI (tW x.toNatClampNeg k.toNatClampNeg)
theorem t_of {x : Int32} (h0 : ¬ x < 0) (h1 : x < 5461) : ∃ t, t < 5461 ∧ x = nI t := by
  obtain ⟨j, hj, rfl⟩ := nI_of h0
  refine ⟨j, ?_, rfl⟩
  have h2 : (nI j).toInt < (5461 : Int32).toInt := zlt_i.mp h1
  rw [nI_toInt hj] at h2
  have e : (5461 : Int32).toInt = 5461 := by decide
  omega
theorem t_kj {k : Int32} {L : Nat} (h0 : ¬ k < 0) (h1 : k < nI L) (hL : L ≤ 6) : ∃ j, j < L ∧ k = nI j ∧ k.toNatClampNeg = j := by
  obtain ⟨j, hj, hkj⟩ := nI_of h0
  subst hkj
  refine ⟨j, ?_, rfl, nI_clamp hj⟩
  have z := zlt_i.mp h1
  have e1 := nI_toInt hj
  have e2 : (nI L).toInt = (L : Int) := nI_toInt (by omega)
  omega
theorem tSh_s : ∀ j, j < 7 → tSh j + 4 ^ j = tSh (j + 1) ∧ tSh j < 10000 ∧ 4 ^ j < 10000 := by decide +kernel
theorem tSz (t : Nat) (ht : t < 5461) (j : Nat) (hj : j < 7) : tSh (j + 1) ≤ t ↔ j < tLen t := by
  obtain ⟨e0, e1, e2, e3, e4, e5, e6, e7⟩ := tSh_v
  have hc : j = 0 ∨ j = 1 ∨ j = 2 ∨ j = 3 ∨ j = 4 ∨ j = 5 ∨ j = 6 := by omega
  rcases tLen_v t ht with ⟨h1, h⟩ | ⟨h1, h2, h⟩ | ⟨h1, h2, h⟩ | ⟨h1, h2, h⟩ | ⟨h1, h2, h⟩ | ⟨h1, h2, h⟩ | ⟨h1, h⟩ <;> rw [h] <;> rcases hc with rfl | rfl | rfl | rfl | rfl | rfl | rfl <;> simp only [e0, e1, e2, e3, e4, e5, e6, e7] <;> omega
theorem tSh7 : ∀ j, j < 8 → tSh j < 10000 := by decide +kernel
set_option maxHeartbeats 1000000 in
theorem p_shorter (d : Nat) (x : Int32) (n : Nat) (hx : x = nI n) (hn : n ≤ 7) (w : zW) (Q : zQ) (h : Q (some (.int (nI (tSh n)))) w) : zCl zTab (d + 1) iX12_shorter [.int x] w 0 0 Q := by
  refine zCl_i (M := kX12_shorter) rfl (Nat.le_of_ble_eq_true rfl) fun R hR => ?_
  have loop : ∀ (m : Nat) (s a k : Int32) (j : Nat), j + m = n → s = nI (tSh j) → a = nI (4 ^ j) → k = nI j → R (6, [some (.int x), some (.int s), some (.int a), some (.int k)], [], w, 0, 0) := by
    intro m
    induction m with
    | zero =>
      intro s a k j hj hs ha hk
      iterate 2 refine hR (?_ : R (_, _, _, _, _, _))
      refine hR (pk_le n j (fun _ => ?_) (fun z => by omega) hx hk)
      refine hR (?_ : R (_, _, _, _, _, _))
      have e : j = n := by omega
      subst e
      subst hs
      exact hR (zret_i rfl (Nat.le_refl _) trivial h)
    | succ m ih =>
      intro s a k j hj hs ha hk
      have h7 := tSh_s j (by omega)
      iterate 2 refine hR (?_ : R (_, _, _, _, _, _))
      refine hR (pk_le n j (fun z => by omega) (fun _ => ?_) hx hk)
      iterate 10 refine hR (?_ : R (_, _, _, _, _, _))
      refine ih _ _ _ (j + 1) (by omega) ?_ ?_ ?_
      · rw [hs, ha, nI_add, h7.1]
      · rw [ha, nI4, pk_mul, Nat.pow_succ]
      · rw [hk, nI1, nI_add]
  iterate 6 refine hR (?_ : R (_, _, _, _, _, _))
  exact loop n _ _ _ 0 (by omega) (by decide) (by decide) nI0
set_option maxHeartbeats 1000000 in
theorem p_sizeOf (d : Nat) (x : Int32) (t : Nat) (hx : x = nI t) (ht : t < 5461) (w : zW) (Q : zQ) (h : Q (some (.int (nI (tLen t)))) w) : zCl zTab (d + 2) iX12_sizeOf [.int x] w 0 0 Q := by
  have h6 := tLen_le t
  refine zCl_i (M := kX12_sizeOf) rfl (Nat.le_of_ble_eq_true rfl) fun R hR => ?_
  have loop : ∀ (m : Nat) (k : Int32) (j : Nat), j + m = tLen t → k = nI j → R (2, [some (.int x), some (.int k)], [], w, 0, 0) := by
    intro m
    induction m with
    | zero =>
      intro k j hj hk
      have hz := tSz t ht j (by omega)
      have h7 := tSh7 (j + 1) (by omega)
      iterate 3 refine hR (?_ : R (_, _, _, _, _, _))
      refine hR (zcall_i 0 0 (Nat.le_of_ble_eq_true rfl) (Nat.le_of_ble_eq_true rfl) (p_shorter _ _ (j + 1) (by rw [hk, nI1, nI_add]) (by omega) _ _ ?_))
      refine hR (?_ : R (_, _, _, _, _, _))
      refine hR (pk_lt t (tSh (j + 1)) (fun _ => ?_) (fun z => by omega) hx rfl)
      refine hR (?_ : R (_, _, _, _, _, _))
      have h3 : ∀ z, z = nI (tLen t) → Q (some (.int z)) w := fun z hz => by rw [hz]; exact h
      exact hR (zret_i rfl (Nat.le_refl _) trivial (h3 _ (by rw [hk]; exact congrArg nI (by omega))))
    | succ m ih =>
      intro k j hj hk
      have hz := tSz t ht j (by omega)
      have h7 := tSh7 (j + 1) (by omega)
      iterate 3 refine hR (?_ : R (_, _, _, _, _, _))
      refine hR (zcall_i 0 0 (Nat.le_of_ble_eq_true rfl) (Nat.le_of_ble_eq_true rfl) (p_shorter _ _ (j + 1) (by rw [hk, nI1, nI_add]) (by omega) _ _ ?_))
      refine hR (?_ : R (_, _, _, _, _, _))
      refine hR (pk_lt t (tSh (j + 1)) (fun z => by omega) (fun _ => ?_) hx rfl)
      iterate 2 refine hR (?_ : R (_, _, _, _, _, _))
      exact ih _ (j + 1) (by omega) (by rw [hk, nI1, nI_add])
  iterate 2 refine hR (?_ : R (_, _, _, _, _, _))
  exact loop (tLen t) _ 0 (by omega) nI0
set_option maxHeartbeats 1000000 in
theorem p_spell25 {c0 c1 c2 c3 c4 c5 c6 c7 c8 c9 c10 c11 c12 c13 : va_E} {x0 x9 x10 x11 x12 x13 x15 x16 x17 x20 x21 x22 x23 x26 x28 x31 x32 x33 x38 x41 x44 : Int32} {x14 : Int64} {g15 g16 g17 g18 g19 g20 g21 g22 g23 g24 g25 g26 g27 g28 g29 g30 g31 g32 g33 g34 g35 g36 g37 g38 g39 g40 g41 g42 g43 g44 : Nat → Int32} {t : zW} (d : Nat) (x : Int32) (t9 : Nat) (hx : x = nI t9) (ht : t9 < 5461) (Q : zQ) (h : ∀ f, (∀ i, i < tLen t9 → f i = nI (tW t9 i)) → (zB 0 3 g25 → zB 0 3 f) → Q none (zMg c0 c1 c2 c3 c4 c5 c6 c7 c8 c9 c10 c11 c12 c13 x0 x9 x10 x11 x12 x13 x15 x16 x17 x20 x21 x22 x23 x26 x28 x31 x32 x33 x38 x41 x44 x14 g15 g16 g17 g18 g19 g20 g21 g22 g23 g24 f g26 g27 g28 g29 g30 g31 g32 g33 g34 g35 g36 g37 g38 g39 g40 g41 g42 g43 g44 t)) : zCl zTab (d + 3) iX12_spell [.int x, .ref 25] (zMg c0 c1 c2 c3 c4 c5 c6 c7 c8 c9 c10 c11 c12 c13 x0 x9 x10 x11 x12 x13 x15 x16 x17 x20 x21 x22 x23 x26 x28 x31 x32 x33 x38 x41 x44 x14 g15 g16 g17 g18 g19 g20 g21 g22 g23 g24 g25 g26 g27 g28 g29 g30 g31 g32 g33 g34 g35 g36 g37 g38 g39 g40 g41 g42 g43 g44 t) 0 0 Q := by
  have h6 := tLen_le t9
  have hs := tSh_le t9 ht
  refine zCl_i (M := kX12_spell) rfl (Nat.le_of_ble_eq_true rfl) fun R hR => ?_
  have loop : ∀ (j : Nat) (l k : Int32) (f : Nat → Int32), j ≤ tLen t9 → l = nI (tF t9 / 4 ^ (tLen t9 - j)) → k.toInt = (j : Int) - 1 → (∀ i, j ≤ i → i < tLen t9 → f i = nI (tW t9 i)) → (zB 0 3 g25 → zB 0 3 f) → R (17, [some (.int x), some (.ref 25), some (.int (nI (tLen t9))), some (.int l), some (.int k)], [], (zMg c0 c1 c2 c3 c4 c5 c6 c7 c8 c9 c10 c11 c12 c13 x0 x9 x10 x11 x12 x13 x15 x16 x17 x20 x21 x22 x23 x26 x28 x31 x32 x33 x38 x41 x44 x14 g15 g16 g17 g18 g19 g20 g21 g22 g23 g24 f g26 g27 g28 g29 g30 g31 g32 g33 g34 g35 g36 g37 g38 g39 g40 g41 g42 g43 g44 t), 0, 0) := by
    intro j
    induction j with
    | zero =>
      intro l k f hj hl hk hf hBf
      refine hR (?_ : R (_, _, _, _, _, _))
      refine hR (And.intro (fun _ => ?_) (fun hc => absurd (zlt_i.mpr (by rw [hk]; decide)) hc))
      exact hR (zret_i rfl (Nat.le_refl _) rfl (h _ (fun i hi => hf i (Nat.zero_le _) hi) hBf))
    | succ j ih =>
      intro l k f hj hl hk hf hBf
      have hkj : k = nI j := zeq_i.mpr (by rw [hk, nI_toInt (by omega)]; omega)
      have hlt : tF t9 / 4 ^ (tLen t9 - (j + 1)) < 4096 := Nat.lt_of_le_of_lt (Nat.div_le_self _ _) hs.2.2.2
      refine hR (?_ : R (_, _, _, _, _, _))
      refine hR (And.intro (fun hc => absurd (zlt_i.mp hc) (by rw [hk]; show ¬ ((_ : Int) < 0); omega)) (fun _ => ?_))
      iterate 4 refine hR (?_ : R (_, _, _, _, _, _))
      refine hR (And.intro (by decide) ?_)
      refine hR (And.intro (by rw [hkj]; exact nI_in (by omega) (by omega)) ?_)
      iterate 2 refine hR (?_ : R (_, _, _, _, _, _))
      refine hR (And.intro (by decide) ?_)
      iterate 3 refine hR (?_ : R (_, _, _, _, _, _))
      refine ih _ _ _ (by omega) ?_ ?_ ?_ (fun hb => zB_nI (hBf hb) (m := tF t9 / 4 ^ (tLen t9 - (j + 1)) % 4) (by rw [hl, nI4, pk_rem (by omega) (by omega) (by omega)]) (by omega))
      · rw [hl, nI4, pk_div (by omega) (by omega) (by omega), Nat.div_div_eq_div_mul, ← Nat.pow_succ, show (tLen t9 - (j + 1)).succ = tLen t9 - j by omega]
      · rw [zadd (by rw [hk]; show (-2147483648 : Int) ≤ _ + -1; omega) (by rw [hk]; show _ + (-1 : Int) < _; omega), hk]
        show _ + (-1 : Int) = _
        omega
      · intro i hi1 hi2
        rw [hkj, nI_clamp (by omega)]
        by_cases hij : i = j
        · subst hij
          rw [pk_us, hl, nI4, pk_rem (by omega) (by omega) (by omega)]
          unfold tW
          rw [show tLen t9 - 1 - i = tLen t9 - (i + 1) by omega]
        · rw [pk_un hij]
          exact hf i (by omega) hi2
  refine hR (?_ : R (_, _, _, _, _, _))
  refine hR (zcall_i 0 0 (Nat.le_of_ble_eq_true rfl) (Nat.le_of_ble_eq_true rfl) (p_sizeOf _ _ t9 hx ht _ _ ?_))
  iterate 3 refine hR (?_ : R (_, _, _, _, _, _))
  refine hR (zcall_i 0 0 (Nat.le_of_ble_eq_true rfl) (Nat.le_of_ble_eq_true rfl) (p_shorter _ _ (tLen t9) rfl (by omega) _ _ ?_))
  iterate 6 refine hR (?_ : R (_, _, _, _, _, _))
  refine loop (tLen t9) _ _ g25 (Nat.le_refl _) ?_ ?_ (fun i h1 h2 => by omega) id
  · rw [hx, pk_sub hs.1, Nat.sub_self]
    show nI (tF t9) = _
    rw [Nat.pow_zero, Nat.div_one]
  · rw [nI1, pk_sub_toInt (by omega) (by omega)]
    omega
set_option maxHeartbeats 1000000 in
theorem p_spell26 {c0 c1 c2 c3 c4 c5 c6 c7 c8 c9 c10 c11 c12 c13 : va_E} {x0 x9 x10 x11 x12 x13 x15 x16 x17 x20 x21 x22 x23 x26 x28 x31 x32 x33 x38 x41 x44 : Int32} {x14 : Int64} {g15 g16 g17 g18 g19 g20 g21 g22 g23 g24 g25 g26 g27 g28 g29 g30 g31 g32 g33 g34 g35 g36 g37 g38 g39 g40 g41 g42 g43 g44 : Nat → Int32} {t : zW} (d : Nat) (x : Int32) (t9 : Nat) (hx : x = nI t9) (ht : t9 < 5461) (Q : zQ) (h : ∀ f, (∀ i, i < tLen t9 → f i = nI (tW t9 i)) → (zB 0 3 g26 → zB 0 3 f) → Q none (zMg c0 c1 c2 c3 c4 c5 c6 c7 c8 c9 c10 c11 c12 c13 x0 x9 x10 x11 x12 x13 x15 x16 x17 x20 x21 x22 x23 x26 x28 x31 x32 x33 x38 x41 x44 x14 g15 g16 g17 g18 g19 g20 g21 g22 g23 g24 g25 f g27 g28 g29 g30 g31 g32 g33 g34 g35 g36 g37 g38 g39 g40 g41 g42 g43 g44 t)) : zCl zTab (d + 3) iX12_spell [.int x, .ref 26] (zMg c0 c1 c2 c3 c4 c5 c6 c7 c8 c9 c10 c11 c12 c13 x0 x9 x10 x11 x12 x13 x15 x16 x17 x20 x21 x22 x23 x26 x28 x31 x32 x33 x38 x41 x44 x14 g15 g16 g17 g18 g19 g20 g21 g22 g23 g24 g25 g26 g27 g28 g29 g30 g31 g32 g33 g34 g35 g36 g37 g38 g39 g40 g41 g42 g43 g44 t) 0 0 Q := by
  have h6 := tLen_le t9
  have hs := tSh_le t9 ht
  refine zCl_i (M := kX12_spell) rfl (Nat.le_of_ble_eq_true rfl) fun R hR => ?_
  have loop : ∀ (j : Nat) (l k : Int32) (f : Nat → Int32), j ≤ tLen t9 → l = nI (tF t9 / 4 ^ (tLen t9 - j)) → k.toInt = (j : Int) - 1 → (∀ i, j ≤ i → i < tLen t9 → f i = nI (tW t9 i)) → (zB 0 3 g26 → zB 0 3 f) → R (17, [some (.int x), some (.ref 26), some (.int (nI (tLen t9))), some (.int l), some (.int k)], [], (zMg c0 c1 c2 c3 c4 c5 c6 c7 c8 c9 c10 c11 c12 c13 x0 x9 x10 x11 x12 x13 x15 x16 x17 x20 x21 x22 x23 x26 x28 x31 x32 x33 x38 x41 x44 x14 g15 g16 g17 g18 g19 g20 g21 g22 g23 g24 g25 f g27 g28 g29 g30 g31 g32 g33 g34 g35 g36 g37 g38 g39 g40 g41 g42 g43 g44 t), 0, 0) := by
    intro j
    induction j with
    | zero =>
      intro l k f hj hl hk hf hBf
      refine hR (?_ : R (_, _, _, _, _, _))
      refine hR (And.intro (fun _ => ?_) (fun hc => absurd (zlt_i.mpr (by rw [hk]; decide)) hc))
      exact hR (zret_i rfl (Nat.le_refl _) rfl (h _ (fun i hi => hf i (Nat.zero_le _) hi) hBf))
    | succ j ih =>
      intro l k f hj hl hk hf hBf
      have hkj : k = nI j := zeq_i.mpr (by rw [hk, nI_toInt (by omega)]; omega)
      have hlt : tF t9 / 4 ^ (tLen t9 - (j + 1)) < 4096 := Nat.lt_of_le_of_lt (Nat.div_le_self _ _) hs.2.2.2
      refine hR (?_ : R (_, _, _, _, _, _))
      refine hR (And.intro (fun hc => absurd (zlt_i.mp hc) (by rw [hk]; show ¬ ((_ : Int) < 0); omega)) (fun _ => ?_))
      iterate 4 refine hR (?_ : R (_, _, _, _, _, _))
      refine hR (And.intro (by decide) ?_)
      refine hR (And.intro (by rw [hkj]; exact nI_in (by omega) (by omega)) ?_)
      iterate 2 refine hR (?_ : R (_, _, _, _, _, _))
      refine hR (And.intro (by decide) ?_)
      iterate 3 refine hR (?_ : R (_, _, _, _, _, _))
      refine ih _ _ _ (by omega) ?_ ?_ ?_ (fun hb => zB_nI (hBf hb) (m := tF t9 / 4 ^ (tLen t9 - (j + 1)) % 4) (by rw [hl, nI4, pk_rem (by omega) (by omega) (by omega)]) (by omega))
      · rw [hl, nI4, pk_div (by omega) (by omega) (by omega), Nat.div_div_eq_div_mul, ← Nat.pow_succ, show (tLen t9 - (j + 1)).succ = tLen t9 - j by omega]
      · rw [zadd (by rw [hk]; show (-2147483648 : Int) ≤ _ + -1; omega) (by rw [hk]; show _ + (-1 : Int) < _; omega), hk]
        show _ + (-1 : Int) = _
        omega
      · intro i hi1 hi2
        rw [hkj, nI_clamp (by omega)]
        by_cases hij : i = j
        · subst hij
          rw [pk_us, hl, nI4, pk_rem (by omega) (by omega) (by omega)]
          unfold tW
          rw [show tLen t9 - 1 - i = tLen t9 - (i + 1) by omega]
        · rw [pk_un hij]
          exact hf i (by omega) hi2
  refine hR (?_ : R (_, _, _, _, _, _))
  refine hR (zcall_i 0 0 (Nat.le_of_ble_eq_true rfl) (Nat.le_of_ble_eq_true rfl) (p_sizeOf _ _ t9 hx ht _ _ ?_))
  iterate 3 refine hR (?_ : R (_, _, _, _, _, _))
  refine hR (zcall_i 0 0 (Nat.le_of_ble_eq_true rfl) (Nat.le_of_ble_eq_true rfl) (p_shorter _ _ (tLen t9) rfl (by omega) _ _ ?_))
  iterate 6 refine hR (?_ : R (_, _, _, _, _, _))
  refine loop (tLen t9) _ _ g26 (Nat.le_refl _) ?_ ?_ (fun i h1 h2 => by omega) id
  · rw [hx, pk_sub hs.1, Nat.sub_self]
    show nI (tF t9) = _
    rw [Nat.pow_zero, Nat.div_one]
  · rw [nI1, pk_sub_toInt (by omega) (by omega)]
    omega
end
section
/-! EDIT DISTANCE, and that it is the same from the ends. -/
def ed1 (x y : Nat) : Nat := if x = y then 0 else 1
def edr (f : List Nat → Nat) (x : Nat) : List Nat → Nat
  | [] => f [] + 1
  | y :: b => min (f b + ed1 x y) (1 + min (f (y :: b)) (edr f x b))
def ed : List Nat → List Nat → Nat
  | [], b => b.length
  | x :: a, b => edr (ed a) x b
theorem ed1_le (x y : Nat) : ed1 x y ≤ 1 := by unfold ed1; split <;> omega
theorem ed_nil (b : List Nat) : ed [] b = b.length := rfl
theorem ed_nl : ∀ a : List Nat, ed a [] = a.length
  | [] => rfl
  | x :: a => by show ed a [] + 1 = _; rw [ed_nl a]; rfl
theorem ed_cc (x y : Nat) (a b : List Nat) : ed (x :: a) (y :: b) = min (ed a b + ed1 x y) (1 + min (ed a (y :: b)) (ed (x :: a) b)) := rfl
theorem ed_le : ∀ a b : List Nat, ed a b ≤ a.length + b.length
  | [], b => by rw [ed_nil]; simp
  | x :: a, [] => by rw [ed_nl]; simp
  | x :: a, y :: b => by
    have h1 := ed_le a b
    have h2 := ed1_le x y
    rw [ed_cc]
    simp only [List.length_cons]
    omega
theorem edU2 (x : Nat) : ∀ a b : List Nat, ed (a ++ [x]) b ≤ ed a b + 1
  | [], [] => by show ed [x] [] ≤ _; rw [ed_nl, ed_nil]; simp
  | [], y :: b => by
    show ed [x] (y :: b) ≤ _
    rw [ed_cc, ed_nil, ed_nil]
    have := ed1_le x y
    simp only [List.length_cons]
    omega
  | p :: a, [] => by
    show ed (p :: (a ++ [x])) [] ≤ _
    rw [ed_nl, ed_nl]
    simp
  | p :: a, q :: b => by
    have h1 := edU2 x a b
    have h2 := edU2 x a (q :: b)
    have h3 := edU2 x (p :: a) b
    show ed (p :: (a ++ [x])) (q :: b) ≤ _
    rw [ed_cc, ed_cc]
    rw [List.cons_append] at h3
    omega
termination_by a b => a.length + b.length
theorem edU3 (y : Nat) : ∀ a b : List Nat, ed a (b ++ [y]) ≤ ed a b + 1
  | [], b => by rw [ed_nil, ed_nil]; simp
  | p :: a, [] => by
    show ed (p :: a) [y] ≤ _
    rw [ed_cc, ed_nl, ed_nl]
    have := ed1_le p y
    simp only [List.length_cons]
    omega
  | p :: a, q :: b => by
    have h1 := edU3 y a b
    have h2 := edU3 y a (q :: b)
    have h3 := edU3 y (p :: a) b
    show ed (p :: a) (q :: (b ++ [y])) ≤ _
    rw [ed_cc, ed_cc]
    rw [List.cons_append] at h2
    omega
termination_by a b => a.length + b.length
theorem edU1 (x y : Nat) : ∀ a b : List Nat, ed (a ++ [x]) (b ++ [y]) ≤ ed a b + ed1 x y
  | [], [] => by
    show ed [x] [y] ≤ _
    rw [ed_cc, ed_nil, ed_nil]
    omega
  | [], q :: b => by
    have h1 := edU1 x y [] b
    have e : ed [] (q :: b) = b.length + 1 := rfl
    have e2 : ed [] b = b.length := rfl
    rw [List.nil_append, e2] at h1
    show ed [x] (q :: (b ++ [y])) ≤ _
    rw [e, ed_cc]
    omega
  | p :: a, [] => by
    have h1 := edU1 x y a []
    show ed (p :: (a ++ [x])) [y] ≤ _
    rw [ed_cc]
    rw [List.nil_append, ed_nl] at h1
    rw [ed_nl (p :: a)]
    simp only [List.length_cons]
    omega
  | p :: a, q :: b => by
    have h1 := edU1 x y a b
    have h2 := edU1 x y a (q :: b)
    have h3 := edU1 x y (p :: a) b
    show ed (p :: (a ++ [x])) (q :: (b ++ [y])) ≤ _
    rw [ed_cc, ed_cc]
    rw [List.cons_append] at h2 h3
    omega
termination_by a b => a.length + b.length
theorem ed_rev_le : ∀ a b : List Nat, ed a.reverse b.reverse ≤ ed a b
  | [], b => by rw [List.reverse_nil, ed_nil, ed_nil]; simp
  | p :: a, [] => by rw [List.reverse_nil, ed_nl, ed_nl]; simp
  | p :: a, q :: b => by
    have h1 := ed_rev_le a b
    have h2 := ed_rev_le a (q :: b)
    have h3 := ed_rev_le (p :: a) b
    have u1 := edU1 p q a.reverse b.reverse
    have u2 := edU2 p a.reverse (b.reverse ++ [q])
    have u3 := edU3 q (a.reverse ++ [p]) b.reverse
    rw [List.reverse_cons] at h2 h3
    rw [List.reverse_cons, List.reverse_cons, ed_cc]
    omega
termination_by a b => a.length + b.length
theorem ed_rev (a b : List Nat) : ed a.reverse b.reverse = ed a b := by
  have h1 := ed_rev_le a b
  have h2 := ed_rev_le a.reverse b.reverse
  rw [List.reverse_reverse, List.reverse_reverse] at h2
  omega
/-- the first words, the last of them first -/
def rl (u : Nat → Nat) : Nat → List Nat
  | 0 => []
  | n + 1 => u n :: rl u n
theorem rl_len (u : Nat → Nat) : ∀ n, (rl u n).length = n
  | 0 => rfl
  | n + 1 => congrArg (· + 1) (rl_len u n)
def eD (u v : Nat → Nat) (i k : Nat) : Nat := ed (rl u i) (rl v k)
theorem eD_0 (u v : Nat → Nat) (k : Nat) : eD u v 0 k = k := rl_len v k
theorem eD_z (u v : Nat → Nat) (i : Nat) : eD u v i 0 = i := (ed_nl _).trans (rl_len u i)
theorem eD_s (u v : Nat → Nat) (i k : Nat) : eD u v (i + 1) (k + 1) = min (eD u v i k + ed1 (u i) (v k)) (1 + min (eD u v i (k + 1)) (eD u v (i + 1) k)) := rfl
theorem eD_le (u v : Nat → Nat) (i k : Nat) : eD u v i k ≤ i + k := by
  have h := ed_le (rl u i) (rl v k)
  rw [rl_len, rl_len] at h
  exact h
theorem rl_get (u : Nat → Nat) : ∀ (n j : Nat), j < n → (rl u n)[j]? = some (u (n - 1 - j))
  | 0, _, h => absurd h (Nat.not_lt_zero _)
  | n + 1, 0, _ => rfl
  | n + 1, j + 1, h => by
    show (rl u n)[j]? = _
    rw [rl_get u n j (by omega)]
    congr 2
    omega
theorem rl_rev (u : Nat → Nat) (n : Nat) : rl (fun i => u (n - 1 - i)) n = (rl u n).reverse := by
  apply List.ext_getElem?
  intro j
  by_cases h : j < n
  · rw [rl_get _ n j h, List.getElem?_reverse (by rw [rl_len]; exact h), rl_len, rl_get u n (n - 1 - j) (by omega)]
  · rw [List.getElem?_eq_none (by rw [rl_len]; omega), List.getElem?_eq_none (by rw [List.length_reverse, rl_len]; omega)]
theorem eD_rev (u v : Nat → Nat) (n m : Nat) : eD (fun i => u (n - 1 - i)) (fun j => v (m - 1 - j)) n m = eD u v n m := by
  unfold eD
  rw [rl_rev, rl_rev, ed_rev]
/-! THE CLASS'S DRIFT: rows of seven cells in one int. -/
theorem dz_or (a b : Nat) : nI a ||| nI b = nI (a ||| b) := by
  apply Int32.toBitVec_inj.mp
  rw [Int32.toBitVec_or]
  show BitVec.ofNat 32 a ||| BitVec.ofNat 32 b = BitVec.ofNat 32 (a ||| b)
  exact (BitVec.ofNat_or ..).symm
theorem dz_sum {a j v : Nat} (h : a < 16 ^ j) : nI a ||| nI (v * 16 ^ j) = nI (a + v * 16 ^ j) := by
  rw [dz_or, Nat.or_comm]
  have e : (16 : Nat) ^ j = 2 ^ (4 * j) := by rw [Nat.pow_mul]
  rw [e] at h ⊢
  rw [Nat.mul_comm v, ← Nat.two_pow_add_eq_or_of_lt h, Nat.add_comm]
def pkr (f : Nat → Nat) : Nat → Nat
  | 0 => 0
  | j + 1 => pkr f j + f j * 16 ^ j
theorem pkr_lt (f : Nat → Nat) (hf : ∀ j, j < 7 → f j < 16) : ∀ c, c ≤ 7 → pkr f c < 16 ^ c
  | 0, _ => by simp [pkr]
  | c + 1, h => by
    have h1 := pkr_lt f hf c (by omega)
    have h2 := hf c (by omega)
    have h3 : f c * 16 ^ c ≤ 15 * 16 ^ c := Nat.mul_le_mul_right _ (by omega)
    rw [pkr, Nat.pow_succ]
    omega
theorem pkr_get (f : Nat → Nat) (hf : ∀ j, j < 7 → f j < 16) (j : Nat) : ∀ c, c ≤ 7 → j < c → pkr f c / 16 ^ j % 16 = f j
  | 0, _, h => absurd h (Nat.not_lt_zero _)
  | c + 1, hc, hj => by
    have h1 := pkr_lt f hf c (by omega)
    have h2 := hf c (by omega)
    rw [pkr]
    by_cases h : j = c
    · subst h
      rw [Nat.mul_comm, Nat.add_mul_div_left _ _ (Nat.pos_of_ne_zero (by simp)), Nat.div_eq_of_lt h1, Nat.zero_add, Nat.mod_eq_of_lt h2]
    · have e : f c * 16 ^ c = 16 ^ j * (16 * (f c * 16 ^ (c - j - 1))) := by
        have e2 : 16 ^ c = 16 ^ j * (16 * 16 ^ (c - j - 1)) := by
          rw [← Nat.pow_succ', ← Nat.pow_add]
          congr 1
          omega
        rw [e2]
        simp only [Nat.mul_left_comm, Nat.mul_comm, Nat.mul_assoc]
      rw [e, Nat.add_mul_div_left _ _ (Nat.pos_of_ne_zero (by simp)), Nat.add_mul_mod_self_left]
      exact pkr_get f hf j c (by omega) (by omega)
theorem pkr_cong {f g : Nat → Nat} : ∀ c, (∀ j, j < c → f j = g j) → pkr f c = pkr g c
  | 0, _ => rfl
  | c + 1, h => by rw [pkr, pkr, pkr_cong c (fun j hj => h j (by omega)), h c (by omega)]
theorem dz_sm : ∀ j, j < 7 → ((nI (4 * j) &&& 31).toBitVec.smod 32).toNat = 4 * j := by decide +kernel
theorem dz_16 (j : Nat) : 2 ^ (4 * j) = 16 ^ j := by rw [Nat.pow_mul]
theorem dz_p7 : ∀ j, j < 8 → 16 ^ j ≤ 268435456 := by decide +kernel
theorem dz_shl {v j : Nat} (hv : v < 16) (hj : j < 7) : nI v <<< (Int32.ofInt 4 * nI j &&& 31) = nI (v * 16 ^ j) := by
  have h1 := dz_p7 j (by omega)
  rw [nI4, pk_mul, pk_shlN _ (4 * j) (dz_sm j hj), dz_16]
  rw [dz_16]
  calc v * 16 ^ j ≤ 15 * 16 ^ j := Nat.mul_le_mul_right _ (by omega)
    _ < 2 ^ 32 := by omega
theorem dz_cell {f : Nat → Nat} (hf : ∀ j, j < 7 → f j < 16) {c j : Nat} (hc : c ≤ 7) (hj : j < c) : (nI (pkr f c) >>> (Int32.ofInt 4 * nI j &&& 31)) &&& (Int8.ofInt 15).toInt32 = nI (f j) := by
  have h1 := pkr_lt f hf c hc
  have h2 := dz_p7 c (by omega)
  rw [nI4, pk_mul, pk_shrN (by omega) _ (4 * j) (dz_sm j (by omega)), dz_16, pk_andN (Nat.lt_of_le_of_lt (Nat.div_le_self _ _) (by omega)) 4 (by decide), show (2 : Nat) ^ 4 = 16 from rfl, pkr_get f hf j c hc hj]
theorem dz_min {a b : Nat} (ha : a < 1000) (hb : b < 1000) : (if nI b < nI a then nI b else nI a) = nI (min a b) := by
  by_cases h : b < a
  · rw [if_pos (nI_lt h (by omega)), Nat.min_eq_right (by omega)]
  · rw [if_neg (nI_nlt (by omega) (by omega)), Nat.min_eq_left (by omega)]
/-- the words from the end -/
def ue (t : Nat) : Nat → Nat := fun i => tB t / 4 ^ i % 4
set_option maxHeartbeats 4000000 in
theorem r_driftOf (d : Nat) (x y : Int32) (a b : Nat) (hx : x = nI a) (ha : a < 5461) (hy : y = nI b) (hb : b < 5461) (w : zW) (Q : zQ) (h : Q (some (.int (nI (eD (ue a) (ue b) (tLen a) (tLen b))))) w) : zCl zTab (d + 3) iX11_driftOf [.int x, .int y] w 0 0 Q := by
  have hn := tLen_le a
  have hm := tLen_le b
  have hsa := tSh_le a ha
  have hsb := tSh_le b hb
  have hE : ∀ i, i ≤ 6 → ∀ j, j < 7 → eD (ue a) (ue b) i j < 16 := fun i hi j hj => by
    have := eD_le (ue a) (ue b) i j
    omega
  refine zCl_i (M := kX11_driftOf) rfl (Nat.le_of_ble_eq_true rfl) fun R hR => ?_
  have loopC : ∀ (i9 : Nat), i9 < tLen a → ∀ (r i wd : Int32), r = nI (pkr (eD (ue a) (ue b) i9) (tLen b + 1)) → i = nI (i9 + 1) → wd = nI (ue a i9) → (∀ (nx j lf : Int32) (z8 z12 z13 : Option Value), nx = nI (pkr (eD (ue a) (ue b) (i9 + 1)) (tLen b + 1)) → R (170, [some (.int x), some (.int y), some (.int (nI (tB a))), some (.int (nI (tB b))), some (.int (nI (tLen a))), some (.int (nI (tLen b))), some (.int r), some (.int i), z8, some (.int lf), some (.int nx), some (.int j), z12, z13], [], w, 0, 0)) → ∀ (m9 j9 : Nat) (lf nx j : Int32) (z12 z13 : Option Value), j9 + m9 = tLen b → lf = nI (eD (ue a) (ue b) (i9 + 1) j9) → nx = nI (pkr (eD (ue a) (ue b) (i9 + 1)) (j9 + 1)) → j = nI (j9 + 1) → R (84, [some (.int x), some (.int y), some (.int (nI (tB a))), some (.int (nI (tB b))), some (.int (nI (tLen a))), some (.int (nI (tLen b))), some (.int r), some (.int i), some (.int wd), some (.int lf), some (.int nx), some (.int j), z12, z13], [], w, 0, 0) := by
    intro i9 hi9 r i wd hr hi hwd hexit m9
    have hf0 : ∀ j, j < 7 → eD (ue a) (ue b) i9 j < 16 := hE i9 (by omega)
    have hf1 : ∀ j, j < 7 → eD (ue a) (ue b) (i9 + 1) j < 16 := hE (i9 + 1) (by omega)
    induction m9 with
    | zero =>
      intro j9 lf nx j z12 z13 hj hlf hnx hjj
      iterate 2 refine hR (?_ : R (_, _, _, _, _, _))
      refine hR (pk_lt (tLen b) (j9 + 1) (fun _ => ?_) (fun z => by omega) rfl hjj)
      refine hexit nx j lf _ _ _ ?_
      rw [hnx]
      exact congrArg (fun c => nI (pkr (eD (ue a) (ue b) (i9 + 1)) (c + 1))) (by omega)
    | succ m9 ih =>
      intro j9 lf nx j z12 z13 hj hlf hnx hjj
      have c0 := hf0 j9 (by omega)
      have c1 := hf0 (j9 + 1) (by omega)
      have c2 := hf1 j9 (by omega)
      have c3 := hf1 (j9 + 1) (by omega)
      have cc := ed1_le (ue a i9) (ue b j9)
      have tail : ∀ (ch : Int32) (z13 : Option Value), ch = nI (ed1 (ue a i9) (ue b j9)) → R (111, [some (.int x), some (.int y), some (.int (nI (tB a))), some (.int (nI (tB b))), some (.int (nI (tLen a))), some (.int (nI (tLen b))), some (.int r), some (.int i), some (.int wd), some (.int lf), some (.int nx), some (.int j), some (.int ch), z13], [], w, 0, 0) := by
        intro ch z13 hch
        have e1 : (if (r >>> (Int32.ofInt 4 * j &&& 31) &&& (Int8.ofInt 15).toInt32) < lf then (r >>> (Int32.ofInt 4 * j &&& 31) &&& (Int8.ofInt 15).toInt32) else lf) + Int32.ofInt 1 = nI (min (eD (ue a) (ue b) (i9 + 1) j9) (eD (ue a) (ue b) i9 (j9 + 1)) + 1) := by
          rw [hr, hjj, dz_cell hf0 (by omega) (by omega), hlf, dz_min (by omega) (by omega), nI1, nI_add]
        have e2 : (r >>> (Int32.ofInt 4 * (j - Int32.ofInt 1) &&& 31) &&& (Int8.ofInt 15).toInt32) + ch = nI (eD (ue a) (ue b) i9 j9 + ed1 (ue a i9) (ue b j9)) := by
          rw [hr, hjj, nI1, pk_sub (by omega), Nat.add_sub_cancel, dz_cell hf0 (by omega) (by omega), hch, nI_add]
        have e3 : ∀ p q : Int32, p = nI (eD (ue a) (ue b) i9 j9 + ed1 (ue a i9) (ue b j9)) → q = nI (min (eD (ue a) (ue b) (i9 + 1) j9) (eD (ue a) (ue b) i9 (j9 + 1)) + 1) → (if q < p then q else p) = nI (eD (ue a) (ue b) (i9 + 1) (j9 + 1)) := by
          intro p q hp hq
          rw [hp, hq, dz_min (by omega) (by omega)]
          refine congrArg nI ?_
          rw [eD_s]
          omega
        iterate 8 refine hR (?_ : R (_, _, _, _, _, _))
        refine hR (?_ : R (_, _, _, _, _, _))
        iterate 3 refine hR (?_ : R (_, _, _, _, _, _))
        iterate 12 refine hR (?_ : R (_, _, _, _, _, _))
        refine hR (?_ : R (_, _, _, _, _, _))
        refine hR (?_ : R (_, _, _, _, _, _))
        iterate 8 refine hR (?_ : R (_, _, _, _, _, _))
        iterate 2 refine hR (?_ : R (_, _, _, _, _, _))
        refine ih (j9 + 1) _ _ _ _ _ (by omega) (e3 _ _ e2 e1) ?_ (by rw [hjj, nI1, nI_add])
        rw [e3 _ _ e2 e1, hnx, hjj, dz_shl (by omega) (by omega), dz_sum (pkr_lt _ hf1 _ (by omega))]
        rfl
      iterate 2 refine hR (?_ : R (_, _, _, _, _, _))
      refine hR (pk_lt (tLen b) (j9 + 1) (fun z => by omega) (fun _ => ?_) rfl hjj)
      iterate 5 refine hR (?_ : R (_, _, _, _, _, _))
      refine hR (zcall_i 0 0 (Nat.le_of_ble_eq_true rfl) (Nat.le_of_ble_eq_true rfl) (r_wordOfBits _ (nI (tB b)) (j - Int32.ofInt 1) (tB b) j9 rfl (by omega) (by rw [hjj, nI1, pk_sub (by omega), Nat.add_sub_cancel]) (by omega) _ _ ?_))
      have l1 : ue a i9 < 4 := Nat.mod_lt _ (by omega)
      have l2 : tB b / 4 ^ j9 % 4 < 4 := Nat.mod_lt _ (by omega)
      refine hR (pk_eq (ue a i9) (tB b / 4 ^ j9 % 4) (fun q => ?_) (fun q => ?_) hwd rfl).symm
      · iterate 3 refine hR (?_ : R (_, _, _, _, _, _))
        exact tail _ _ (by rw [nI0]; exact congrArg nI (if_pos q).symm)
      · iterate 2 refine hR (?_ : R (_, _, _, _, _, _))
        exact tail _ _ (by rw [nI1]; exact congrArg nI (if_neg q).symm)
  have loopB : ∀ (m9 i9 : Nat) (r i : Int32) (z8 z9 z10 z11 z12 z13 : Option Value), i9 + m9 = tLen a → r = nI (pkr (eD (ue a) (ue b) i9) (tLen b + 1)) → i = nI (i9 + 1) → R (56, [some (.int x), some (.int y), some (.int (nI (tB a))), some (.int (nI (tB b))), some (.int (nI (tLen a))), some (.int (nI (tLen b))), some (.int r), some (.int i), z8, z9, z10, z11, z12, z13], [], w, 0, 0) := by
    intro m9
    induction m9 with
    | zero =>
      intro i9 r i z8 z9 z10 z11 z12 z13 hj hr hi
      iterate 2 refine hR (?_ : R (_, _, _, _, _, _))
      refine hR (pk_lt (tLen a) (i9 + 1) (fun _ => ?_) (fun z => by omega) rfl hi)
      iterate 7 refine hR (?_ : R (_, _, _, _, _, _))
      have h3 : ∀ z, z = nI (eD (ue a) (ue b) (tLen a) (tLen b)) → Q (some (.int z)) w := fun z hz => by rw [hz]; exact h
      refine hR (zret_i rfl (Nat.le_refl _) trivial (h3 _ ?_))
      have e : i9 = tLen a := by omega
      rw [hr, dz_cell (hE i9 (by omega)) (by omega) (by omega), e]
    | succ m9 ih =>
      intro i9 r i z8 z9 z10 z11 z12 z13 hj hr hi
      iterate 2 refine hR (?_ : R (_, _, _, _, _, _))
      refine hR (pk_lt (tLen a) (i9 + 1) (fun z => by omega) (fun _ => ?_) rfl hi)
      iterate 4 refine hR (?_ : R (_, _, _, _, _, _))
      refine hR (zcall_i 0 0 (Nat.le_of_ble_eq_true rfl) (Nat.le_of_ble_eq_true rfl) (r_wordOfBits _ (nI (tB a)) (i - Int32.ofInt 1) (tB a) i9 rfl (by omega) (by rw [hi, nI1, pk_sub (by omega), Nat.add_sub_cancel]) (by omega) _ _ ?_))
      iterate 7 refine hR (?_ : R (_, _, _, _, _, _))
      refine loopC i9 (by omega) r i _ hr hi rfl ?_ (tLen b) 0 _ _ _ _ _ (by omega) (by rw [hi, eD_z]) ?_ nI1
      · intro nx j lf z8 z12 z13 hnx
        iterate 4 refine hR (?_ : R (_, _, _, _, _, _))
        exact ih (i9 + 1) _ _ _ _ _ _ _ _ (by omega) hnx (by rw [hi, nI1, nI_add])
      · rw [hi]
        refine congrArg nI ?_
        show i9 + 1 = 0 + eD (ue a) (ue b) (i9 + 1) 0 * 16 ^ 0
        rw [eD_z]
        omega
  have loopA : ∀ (m9 j9 : Nat) (r j : Int32), j9 + m9 = tLen b + 1 → r = nI (pkr (eD (ue a) (ue b) 0) j9) → j = nI j9 → R (28, [some (.int x), some (.int y), some (.int (nI (tB a))), some (.int (nI (tB b))), some (.int (nI (tLen a))), some (.int (nI (tLen b))), some (.int r), some (.int j), none, none, none, none, none, none], [], w, 0, 0) := by
    intro m9
    induction m9 with
    | zero =>
      intro j9 r j hj hr hjj
      iterate 2 refine hR (?_ : R (_, _, _, _, _, _))
      refine hR (pk_lt (tLen b) j9 (fun _ => ?_) (fun z => by omega) rfl hjj)
      iterate 2 refine hR (?_ : R (_, _, _, _, _, _))
      refine loopB (tLen a) 0 _ _ _ _ _ _ _ _ (by omega) ?_ nI1
      rw [hr]
      exact congrArg (fun c => nI (pkr (eD (ue a) (ue b) 0) c)) (by omega)
    | succ m9 ih =>
      intro j9 r j hj hr hjj
      iterate 2 refine hR (?_ : R (_, _, _, _, _, _))
      refine hR (pk_lt (tLen b) j9 (fun z => by omega) (fun _ => ?_) rfl hjj)
      iterate 10 refine hR (?_ : R (_, _, _, _, _, _))
      refine ih (j9 + 1) _ _ (by omega) ?_ (by rw [hjj, nI1, nI_add])
      rw [hr, hjj, dz_shl (by omega) (by omega), dz_sum (pkr_lt _ (hE 0 (by omega)) _ (by omega))]
      refine congrArg nI ?_
      show _ = pkr (eD (ue a) (ue b) 0) j9 + eD (ue a) (ue b) 0 j9 * 16 ^ j9
      rw [eD_0]
  refine hR (?_ : R (_, _, _, _, _, _))
  refine hR (zcall_i 0 0 (Nat.le_of_ble_eq_true rfl) (Nat.le_of_ble_eq_true rfl) (r_bitsOf _ _ a hx ha _ _ ?_))
  iterate 2 refine hR (?_ : R (_, _, _, _, _, _))
  refine hR (zcall_i 0 0 (Nat.le_of_ble_eq_true rfl) (Nat.le_of_ble_eq_true rfl) (r_bitsOf _ _ b hy hb _ _ ?_))
  iterate 2 refine hR (?_ : R (_, _, _, _, _, _))
  refine hR (zcall_i 0 0 (Nat.le_of_ble_eq_true rfl) (Nat.le_of_ble_eq_true rfl) (r_lengthOf _ _ a hx ha _ _ ?_))
  iterate 2 refine hR (?_ : R (_, _, _, _, _, _))
  refine hR (zcall_i 0 0 (Nat.le_of_ble_eq_true rfl) (Nat.le_of_ble_eq_true rfl) (r_lengthOf _ _ b hy hb _ _ ?_))
  iterate 5 refine hR (?_ : R (_, _, _, _, _, _))
  exact loopA (tLen b + 1) 0 _ _ (by omega) nI0 nI0
end
section
theorem p_lesser (d : Nat) (x y : Int32) (p q : Nat) (hx : x = nI p) (hy : y = nI q) (hp : p < 1000) (hq : q < 1000) (w : zW) (Q : zQ) (h : Q (some (.int (nI (min p q)))) w) : zCl zTab (d + 1) iX12_lesser [.int x, .int y] w 0 0 Q := by
  refine zCl_i (M := kX12_lesser) rfl (Nat.le_of_ble_eq_true rfl) fun R hR => ?_
  have h3 : ∀ z, z = nI (min p q) → Q (some (.int z)) w := fun z hz => by rw [hz]; exact h
  iterate 2 refine hR (?_ : R (_, _, _, _, _, _))
  refine hR (pk_le q p (fun c => ?_) (fun c => ?_) hy hx)
  · refine hR (?_ : R (_, _, _, _, _, _))
    exact hR (zret_i rfl (Nat.le_refl _) trivial (h3 _ (by rw [hy, Nat.min_eq_right c])))
  · iterate 2 refine hR (?_ : R (_, _, _, _, _, _))
    exact hR (zret_i rfl (Nat.le_refl _) trivial (h3 _ (by rw [hx, Nat.min_eq_left (by omega)])))
theorem nI7 : (Int8.ofInt 7).toInt32 = nI 7 := by decide
set_option maxHeartbeats 4000000 in
theorem p_apart {c0 c1 c2 c3 c4 c5 c6 c7 c8 c9 c10 c11 c12 c13 : va_E} {x0 x9 x10 x11 x12 x13 x15 x16 x17 x20 x21 x22 x23 x26 x28 x31 x32 x33 x38 x41 x44 : Int32} {x14 : Int64} {g15 g16 g17 g18 g19 g20 g21 g22 g23 g24 g25 g26 g27 g28 g29 g30 g31 g32 g33 g34 g35 g36 g37 g38 g39 g40 g41 g42 g43 g44 : Nat → Int32} {t : zW} (d : Nat) (x y : Int32) (a b : Nat) (hx : x = nI a) (ha : a < 5461) (hy : y = nI b) (hb : b < 5461) (Q : zQ) (h : ∀ fa fb T, (zB 0 3 g25 → zB 0 3 fa) → (zB 0 3 g26 → zB 0 3 fb) → Q (some (.int (nI (eD (tW a) (tW b) (tLen a) (tLen b))))) (zMg c0 c1 c2 c3 c4 c5 c6 c7 c8 c9 c10 c11 c12 c13 x0 x9 x10 x11 x12 x13 x15 x16 x17 x20 x21 x22 x23 x26 x28 x31 x32 x33 x38 x41 x44 x14 g15 g16 g17 g18 g19 g20 g21 g22 g23 g24 fa fb T g28 g29 g30 g31 g32 g33 g34 g35 g36 g37 g38 g39 g40 g41 g42 g43 g44 t)) : zCl zTab (d + 4) iX12_apart [.ref 14, .int x, .int y] (zMg c0 c1 c2 c3 c4 c5 c6 c7 c8 c9 c10 c11 c12 c13 x0 x9 x10 x11 x12 x13 x15 x16 x17 x20 x21 x22 x23 x26 x28 x31 x32 x33 x38 x41 x44 x14 g15 g16 g17 g18 g19 g20 g21 g22 g23 g24 g25 g26 g27 g28 g29 g30 g31 g32 g33 g34 g35 g36 g37 g38 g39 g40 g41 g42 g43 g44 t) 0 0 Q := by
  have hn := tLen_le a
  have hm := tLen_le b
  refine zCl_i (M := kX12_apart) rfl (Nat.le_of_ble_eq_true rfl) fun R hR => ?_
  have main : ∀ (fa fb : Nat → Int32), (∀ i, i < tLen a → fa i = nI (tW a i)) → (∀ i, i < tLen b → fb i = nI (tW b i)) → (zB 0 3 g25 → zB 0 3 fa) → (zB 0 3 g26 → zB 0 3 fb) → ∀ (z6 z7 : Option Value), R (30, [some (.ref 14), some (.int x), some (.int y), some (.int (nI (tLen a))), some (.int (nI (tLen b))), some (.int (Int32.ofInt 0)), z6, z7], [], (zMg c0 c1 c2 c3 c4 c5 c6 c7 c8 c9 c10 c11 c12 c13 x0 x9 x10 x11 x12 x13 x15 x16 x17 x20 x21 x22 x23 x26 x28 x31 x32 x33 x38 x41 x44 x14 g15 g16 g17 g18 g19 g20 g21 g22 g23 g24 fa fb g27 g28 g29 g30 g31 g32 g33 g34 g35 g36 g37 g38 g39 g40 g41 g42 g43 g44 t), 0, 0) := by
    intro fa fb hfa hfb hBa hBb
    have inner : ∀ (i9 : Nat) (i : Int32), i = nI i9 → i9 ≤ tLen a → (∀ (T : Nat → Int32) (z6 z7 : Option Value), (∀ i', i' ≤ i9 → ∀ k', k' ≤ tLen b → T (7 * i' + k') = nI (eD (tW a) (tW b) i' k')) → R (185, [some (.ref 14), some (.int x), some (.int y), some (.int (nI (tLen a))), some (.int (nI (tLen b))), some (.int i), z6, z7], [], (zMg c0 c1 c2 c3 c4 c5 c6 c7 c8 c9 c10 c11 c12 c13 x0 x9 x10 x11 x12 x13 x15 x16 x17 x20 x21 x22 x23 x26 x28 x31 x32 x33 x38 x41 x44 x14 g15 g16 g17 g18 g19 g20 g21 g22 g23 g24 fa fb T g28 g29 g30 g31 g32 g33 g34 g35 g36 g37 g38 g39 g40 g41 g42 g43 g44 t), 0, 0)) → ∀ (m9 k9 : Nat) (k : Int32) (T : Nat → Int32) (z7 : Option Value), k9 + m9 = tLen b + 1 → k = nI k9 → (∀ i', i' < i9 → ∀ k', k' ≤ tLen b → T (7 * i' + k') = nI (eD (tW a) (tW b) i' k')) → (∀ k', k' < k9 → T (7 * i9 + k') = nI (eD (tW a) (tW b) i9 k')) → R (39, [some (.ref 14), some (.int x), some (.int y), some (.int (nI (tLen a))), some (.int (nI (tLen b))), some (.int i), some (.int k), z7], [], (zMg c0 c1 c2 c3 c4 c5 c6 c7 c8 c9 c10 c11 c12 c13 x0 x9 x10 x11 x12 x13 x15 x16 x17 x20 x21 x22 x23 x26 x28 x31 x32 x33 x38 x41 x44 x14 g15 g16 g17 g18 g19 g20 g21 g22 g23 g24 fa fb T g28 g29 g30 g31 g32 g33 g34 g35 g36 g37 g38 g39 g40 g41 g42 g43 g44 t), 0, 0) := by
      intro i9 i hi hi9 hexit m9
      induction m9 with
      | zero =>
        intro k9 k T z7 hk9 hk h1 h2
        iterate 2 refine hR (?_ : R (_, _, _, _, _, _))
        refine hR (pk_lt (tLen b) k9 (fun _ => ?_) (fun z => by omega) rfl hk)
        refine hexit T _ _ (fun i' hi' k' hk' => ?_)
        by_cases hq : i' = i9
        · subst hq
          exact h2 k' (by omega)
        · exact h1 i' (by omega) k' hk'
      | succ m9 ih =>
        intro k9 k T z7 hk9 hk h1 h2
        have fin : ∀ (bs : Int32), bs = nI (eD (tW a) (tW b) i9 k9) → R (164, [some (.ref 14), some (.int x), some (.int y), some (.int (nI (tLen a))), some (.int (nI (tLen b))), some (.int i), some (.int k), some (.int bs)], [], (zMg c0 c1 c2 c3 c4 c5 c6 c7 c8 c9 c10 c11 c12 c13 x0 x9 x10 x11 x12 x13 x15 x16 x17 x20 x21 x22 x23 x26 x28 x31 x32 x33 x38 x41 x44 x14 g15 g16 g17 g18 g19 g20 g21 g22 g23 g24 fa fb T g28 g29 g30 g31 g32 g33 g34 g35 g36 g37 g38 g39 g40 g41 g42 g43 g44 t), 0, 0) := by
          intro bs hbs
          have ei : (Int8.ofInt 7).toInt32 * i + k = nI (7 * i9 + k9) := by rw [nI7, hi, hk, pk_mul, nI_add]
          iterate 8 refine hR (?_ : R (_, _, _, _, _, _))
          refine hR (And.intro (by rw [ei]; exact nI_in (by omega) (by omega)) ?_)
          iterate 2 refine hR (?_ : R (_, _, _, _, _, _))
          have ec : ((Int8.ofInt 7).toInt32 * i + k).toNatClampNeg = 7 * i9 + k9 := by rw [ei]; exact nI_clamp (by omega)
          refine ih (k9 + 1) _ _ _ (by omega) (by rw [hk, nI1, nI_add]) (fun i' hi' k' hk' => ?_) (fun k' hk' => ?_)
          · rw [ec, pk_un (by omega)]
            exact h1 i' hi' k' hk'
          · rw [ec]
            by_cases hq : k' = k9
            · subst hq
              rw [pk_us, hbs]
            · rw [pk_un (by omega)]
              exact h2 k' (by omega)
        iterate 2 refine hR (?_ : R (_, _, _, _, _, _))
        refine hR (pk_lt (tLen b) k9 (fun z => by omega) (fun _ => ?_) rfl hk)
        refine hR (?_ : R (_, _, _, _, _, _))
        by_cases hi0 : i9 = 0
        · have hiz : i = 0 := by rw [hi, hi0]; rfl
          refine hR (And.intro (fun hc => absurd hiz hc) (fun _ => ?_))
          iterate 2 refine hR (?_ : R (_, _, _, _, _, _))
          iterate 2 refine hR (?_ : R (_, _, _, _, _, _))
          refine hR (And.intro (fun _ => ?_) (fun hc => absurd (by rw [hiz]; decide) hc))
          exact fin _ (by rw [hk, hi0, eD_0])
        have hin : ¬ i = 0 := by rw [hi]; exact nI_ne0 (by omega) (by omega)
        have hil : ¬ i ≤ 0 := by rw [hi]; exact nI_nle (by omega) (by omega)
        refine hR (And.intro (fun _ => ?_) (fun hc => absurd hc hin))
        refine hR (?_ : R (_, _, _, _, _, _))
        by_cases hk0 : k9 = 0
        · have hkz : k = 0 := by rw [hk, hk0]; rfl
          refine hR (And.intro (fun hc => absurd hkz hc) (fun _ => ?_))
          iterate 2 refine hR (?_ : R (_, _, _, _, _, _))
          iterate 2 refine hR (?_ : R (_, _, _, _, _, _))
          refine hR (And.intro (fun hc => absurd hc hil) (fun _ => ?_))
          refine hR (?_ : R (_, _, _, _, _, _))
          refine hR (And.intro (fun _ => ?_) (fun hc => absurd (by rw [hkz]; decide) hc))
          exact fin _ (by rw [hi, hk0, eD_z])
        have hkn : ¬ k = 0 := by rw [hk]; exact nI_ne0 (by omega) (by omega)
        have hkl : ¬ k ≤ 0 := by rw [hk]; exact nI_nle (by omega) (by omega)
        obtain ⟨i8, ei8⟩ : ∃ i8, i9 = i8 + 1 := ⟨i9 - 1, by omega⟩
        obtain ⟨k8, ek8⟩ : ∃ k8, k9 = k8 + 1 := ⟨k9 - 1, by omega⟩
        have d1 := eD_le (tW a) (tW b) i8 k8
        have d2 := eD_le (tW a) (tW b) i8 (k8 + 1)
        have d3 := eD_le (tW a) (tW b) (i8 + 1) k8
        have d4 := ed1_le (tW a i8) (tW b k8)
        have x1 : (Int8.ofInt 7).toInt32 * (i - Int32.ofInt 1) + k - Int32.ofInt 1 = nI (7 * i8 + k8) := by rw [nI7, hi, hk, ei8, ek8, nI1, pk_sub (by omega), Nat.add_sub_cancel, pk_mul, nI_add, pk_sub (by omega)]; exact congrArg nI (by omega)
        have x2 : i - Int32.ofInt 1 = nI i8 := by rw [hi, ei8, nI1, pk_sub (by omega), Nat.add_sub_cancel]
        have x3 : k - Int32.ofInt 1 = nI k8 := by rw [hk, ek8, nI1, pk_sub (by omega), Nat.add_sub_cancel]
        have x4 : (Int8.ofInt 7).toInt32 * (i - Int32.ofInt 1) + k = nI (7 * i8 + (k8 + 1)) := by rw [x2, nI7, hk, ek8, pk_mul, nI_add]
        have x5 : (Int8.ofInt 7).toInt32 * i + k - Int32.ofInt 1 = nI (7 * (i8 + 1) + k8) := by rw [nI7, hi, hk, ei8, ek8, pk_mul, nI_add, nI1, pk_sub (by omega)]; exact congrArg nI (by omega)
        have v1 : T ((Int8.ofInt 7).toInt32 * (i - Int32.ofInt 1) + k - Int32.ofInt 1).toNatClampNeg = nI (eD (tW a) (tW b) i8 k8) := by rw [x1, nI_clamp (by omega)]; exact h1 i8 (by omega) k8 (by omega)
        have v2 : fa (i - Int32.ofInt 1).toNatClampNeg = nI (tW a i8) := by rw [x2, nI_clamp (by omega)]; exact hfa i8 (by omega)
        have v3 : fb (k - Int32.ofInt 1).toNatClampNeg = nI (tW b k8) := by rw [x3, nI_clamp (by omega)]; exact hfb k8 (by omega)
        have v4 : T ((Int8.ofInt 7).toInt32 * (i - Int32.ofInt 1) + k).toNatClampNeg = nI (eD (tW a) (tW b) i8 (k8 + 1)) := by rw [x4, nI_clamp (by omega)]; exact h1 i8 (by omega) (k8 + 1) (by omega)
        have v5 : T ((Int8.ofInt 7).toInt32 * i + k - Int32.ofInt 1).toNatClampNeg = nI (eD (tW a) (tW b) (i8 + 1) k8) := by
          rw [x5, nI_clamp (by omega), ← ei8]
          exact h2 k8 (by omega)
        have rest : ∀ (bs : Int32), bs = nI (eD (tW a) (tW b) i8 k8 + ed1 (tW a i8) (tW b k8)) → R (112, [some (.ref 14), some (.int x), some (.int y), some (.int (nI (tLen a))), some (.int (nI (tLen b))), some (.int i), some (.int k), some (.int bs)], [], (zMg c0 c1 c2 c3 c4 c5 c6 c7 c8 c9 c10 c11 c12 c13 x0 x9 x10 x11 x12 x13 x15 x16 x17 x20 x21 x22 x23 x26 x28 x31 x32 x33 x38 x41 x44 x14 g15 g16 g17 g18 g19 g20 g21 g22 g23 g24 fa fb T g28 g29 g30 g31 g32 g33 g34 g35 g36 g37 g38 g39 g40 g41 g42 g43 g44 t), 0, 0) := by
          intro bs hbs
          refine hR (?_ : R (_, _, _, _, _, _))
          refine hR (And.intro (fun hc => absurd hc hil) (fun _ => ?_))
          refine hR (?_ : R (_, _, _, _, _, _))
          refine hR (And.intro (fun hc => absurd hc hkl) (fun _ => ?_))
          iterate 11 refine hR (?_ : R (_, _, _, _, _, _))
          refine hR (And.intro (by rw [x4]; exact nI_in (by omega) (by omega)) ?_)
          iterate 9 refine hR (?_ : R (_, _, _, _, _, _))
          refine hR (And.intro (by rw [x5]; exact nI_in (by omega) (by omega)) ?_)
          refine hR (zcall_i 0 0 (Nat.le_of_ble_eq_true rfl) (Nat.le_of_ble_eq_true rfl) (p_lesser _ _ _ (eD (tW a) (tW b) i8 (k8 + 1)) (eD (tW a) (tW b) (i8 + 1) k8) v4 v5 (by omega) (by omega) _ _ ?_))
          refine hR (?_ : R (_, _, _, _, _, _))
          refine hR (zcall_i 0 0 (Nat.le_of_ble_eq_true rfl) (Nat.le_of_ble_eq_true rfl) (p_lesser _ _ _ (eD (tW a) (tW b) i8 k8 + ed1 (tW a i8) (tW b k8)) (1 + min (eD (tW a) (tW b) i8 (k8 + 1)) (eD (tW a) (tW b) (i8 + 1) k8)) hbs (by rw [nI1, nI_add]) (by omega) (by omega) _ _ ?_))
          refine hR (?_ : R (_, _, _, _, _, _))
          exact fin _ (by rw [ei8, ek8, eD_s])
        refine hR (And.intro (fun _ => ?_) (fun hc => absurd hc hkn))
        iterate 11 refine hR (?_ : R (_, _, _, _, _, _))
        refine hR (And.intro (by rw [x1]; exact nI_in (by omega) (by omega)) ?_)
        iterate 5 refine hR (?_ : R (_, _, _, _, _, _))
        refine hR (And.intro (by rw [x2]; exact nI_in (by omega) (by omega)) ?_)
        iterate 5 refine hR (?_ : R (_, _, _, _, _, _))
        refine hR (And.intro (by rw [x3]; exact nI_in (by omega) (by omega)) ?_)
        have l1 : tW a i8 < 4 := Nat.mod_lt _ (by omega)
        have l2 : tW b k8 < 4 := Nat.mod_lt _ (by omega)
        refine hR (pk_eq (tW a i8) (tW b k8) (fun q => ?_) (fun q => ?_) v2 v3).symm
        · iterate 4 refine hR (?_ : R (_, _, _, _, _, _))
          exact rest _ (by rw [v1, nI0, nI_add, show ed1 (tW a i8) (tW b k8) = 0 from if_pos q])
        · iterate 3 refine hR (?_ : R (_, _, _, _, _, _))
          exact rest _ (by rw [v1, nI1, nI_add, show ed1 (tW a i8) (tW b k8) = 1 from if_neg q])
    have outer : ∀ (m9 i9 : Nat) (i : Int32) (T : Nat → Int32) (z6 z7 : Option Value), i9 + m9 = tLen a + 1 → i = nI i9 → (∀ i', i' < i9 → ∀ k', k' ≤ tLen b → T (7 * i' + k') = nI (eD (tW a) (tW b) i' k')) → R (30, [some (.ref 14), some (.int x), some (.int y), some (.int (nI (tLen a))), some (.int (nI (tLen b))), some (.int i), z6, z7], [], (zMg c0 c1 c2 c3 c4 c5 c6 c7 c8 c9 c10 c11 c12 c13 x0 x9 x10 x11 x12 x13 x15 x16 x17 x20 x21 x22 x23 x26 x28 x31 x32 x33 x38 x41 x44 x14 g15 g16 g17 g18 g19 g20 g21 g22 g23 g24 fa fb T g28 g29 g30 g31 g32 g33 g34 g35 g36 g37 g38 g39 g40 g41 g42 g43 g44 t), 0, 0) := by
      intro m9
      induction m9 with
      | zero =>
        intro i9 i T z6 z7 hi9 hi h1
        iterate 2 refine hR (?_ : R (_, _, _, _, _, _))
        refine hR (pk_lt (tLen a) i9 (fun _ => ?_) (fun z => by omega) rfl hi)
        have x1 : (Int8.ofInt 7).toInt32 * nI (tLen a) + nI (tLen b) = nI (7 * tLen a + tLen b) := by rw [nI7, pk_mul, nI_add]
        iterate 7 refine hR (?_ : R (_, _, _, _, _, _))
        refine hR (And.intro (by rw [x1]; exact nI_in (by omega) (by omega)) ?_)
        have h3 : ∀ z, z = nI (eD (tW a) (tW b) (tLen a) (tLen b)) → Q (some (.int z)) (zMg c0 c1 c2 c3 c4 c5 c6 c7 c8 c9 c10 c11 c12 c13 x0 x9 x10 x11 x12 x13 x15 x16 x17 x20 x21 x22 x23 x26 x28 x31 x32 x33 x38 x41 x44 x14 g15 g16 g17 g18 g19 g20 g21 g22 g23 g24 fa fb T g28 g29 g30 g31 g32 g33 g34 g35 g36 g37 g38 g39 g40 g41 g42 g43 g44 t) := fun z hz => by rw [hz]; exact h _ _ _ hBa hBb
        refine hR (zret_i rfl (Nat.le_refl _) trivial (h3 _ ?_))
        rw [x1, nI_clamp (by omega)]
        exact h1 (tLen a) (by omega) (tLen b) (by omega)
      | succ m9 ih =>
        intro i9 i T z6 z7 hi9 hi h1
        iterate 2 refine hR (?_ : R (_, _, _, _, _, _))
        refine hR (pk_lt (tLen a) i9 (fun z => by omega) (fun _ => ?_) rfl hi)
        iterate 2 refine hR (?_ : R (_, _, _, _, _, _))
        refine inner i9 i hi (by omega) ?_ (tLen b + 1) 0 _ T _ (by omega) nI0 h1 (fun k' hk' => by omega)
        intro T z6 z7 h5
        iterate 2 refine hR (?_ : R (_, _, _, _, _, _))
        exact ih (i9 + 1) _ T _ _ (by omega) (by rw [hi, nI1, nI_add]) (fun i' hi' k' hk' => h5 i' (by omega) k' hk')
    intro z6 z7
    exact outer (tLen a + 1) 0 _ g27 _ _ (by omega) nI0 (fun i' hi' => by omega)
  refine hR (?_ : R (_, _, _, _, _, _))
  refine hR (zcall_i 0 0 (Nat.le_of_ble_eq_true rfl) (Nat.le_of_ble_eq_true rfl) (p_sizeOf _ _ a hx ha _ _ ?_))
  iterate 2 refine hR (?_ : R (_, _, _, _, _, _))
  refine hR (zcall_i 0 0 (Nat.le_of_ble_eq_true rfl) (Nat.le_of_ble_eq_true rfl) (p_sizeOf _ _ b hy hb _ _ ?_))
  iterate 4 refine hR (?_ : R (_, _, _, _, _, _))
  refine hR (zcall_i 0 0 (Nat.le_of_ble_eq_true rfl) (Nat.le_of_ble_eq_true rfl) (p_spell25 _ _ a hx ha _ (fun fa hfa hBa => ?_)))
  iterate 3 refine hR (?_ : R (_, _, _, _, _, _))
  refine hR (zcall_i 0 0 (Nat.le_of_ble_eq_true rfl) (Nat.le_of_ble_eq_true rfl) (p_spell26 _ _ b hy hb _ (fun fb hfb hBb => ?_)))
  iterate 2 refine hR (?_ : R (_, _, _, _, _, _))
  exact main fa fb hfa hfb hBa hBb _ _
end
section
/-! rows copied -/
def cpR (g : Nat → Int32) (n fr to c : Nat) : Nat → Int32 := fun j => if n * to ≤ j ∧ j < n * to + c then g (n * fr + (j - n * to)) else g j
theorem cpR_0 (g : Nat → Int32) (n fr to : Nat) : g = cpR g n fr to (0 : Int).toNat := by
  funext j
  unfold cpR
  rw [if_neg (by intro h; have := h.2; have e : (0 : Int).toNat = 0 := rfl; omega)]
theorem cpR_s {g q : Nat → Int32} {n fr to : Nat} {i a b v : Int} (hq : q = cpR g n fr to i.toNat) (h0 : 0 ≤ i) (hne : fr ≠ to) (hi : i < n) (ha : a = n * to + i) (hb : b = n * fr + i) (hv : v = (q b.toNat).toInt) : upd q a.toNat (Int32.ofInt v) = cpR g n fr to (i + 1).toNat := by
  obtain ⟨m, rfl⟩ := Int.eq_ofNat_of_zero_le h0
  have e1 : ((m : Nat) : Int).toNat = m := rfl
  have e2 : (((m : Nat) : Int) + 1).toNat = m + 1 := rfl
  have ea : a.toNat = n * to + m := by rw [ha]; rw [← Int.natCast_mul]; exact (Int.toNat_natCast (n * to + m))
  have eb : b.toNat = n * fr + m := by rw [hb]; rw [← Int.natCast_mul]; exact (Int.toNat_natCast (n * fr + m))
  have hm : m < n := by have : (m : Int) < n := hi; omega
  rw [hv, zoi, ea, eb, e2]
  rw [e1] at hq
  have hout : ¬ (n * to ≤ n * fr + m ∧ n * fr + m < n * to + m) := by
    intro h
    rcases Nat.lt_or_gt_of_ne hne with h2 | h2
    · have := Nat.mul_le_mul_left n (show fr + 1 ≤ to by omega)
      rw [Nat.mul_add, Nat.mul_one] at this
      omega
    · have := Nat.mul_le_mul_left n (show to + 1 ≤ fr by omega)
      rw [Nat.mul_add, Nat.mul_one] at this
      omega
  funext j
  unfold upd
  by_cases hj : j = n * to + m
  · subst hj
    rw [if_pos rfl, hq]
    unfold cpR
    rw [if_neg hout, if_pos (by omega), show n * to + m - n * to = m by omega]
  · rw [if_neg hj, hq]
    unfold cpR
    by_cases hc : n * to ≤ j ∧ j < n * to + m
    · rw [if_pos hc, if_pos (by omega)]
    · rw [if_neg hc, if_neg (by omega)]
theorem cpR_e {g q : Nat → Int32} {n fr to m : Nat} {i : Int} (hq : q = cpR g n fr to i.toNat) (hi : i = m) : q = cpR g n fr to m := by
  rw [hq, hi]; rfl
section MZ
variable {c0 c1 c2 c3 c4 c5 c6 c7 c8 c9 c10 c11 c12 c13 : va_E} {f0 f9 f10 f11 f12 f13 f15 f16 f17 f20 f21 f22 f23 f26 f28 f31 f32 f33 f38 f41 f44 : Int} {x14 : Int64} {g15 g16 g17 g18 g19 g20 g21 g22 g23 g24 g25 g26 g27 g28 g29 g30 g31 g32 g33 g34 g35 g36 g37 g38 g39 g40 g41 g42 g43 g44 : Nat → Int32} {t : zW}
theorem m_copyRow16 (d : Nat) (a2 a3 : Int) (hr0 : 0 ≤ a2 ∧ a2 ≤ 3) (hr1 : 0 ≤ a3 ∧ a3 ≤ 3) (hr2 : a2 ≠ a3) (Q : zQ) (h : ∀ (k16 : Nat → Int32), (k16 = cpR g16 1 a2.toNat a3.toNat 1) → Q (none) (zMi c0 c1 c2 c3 c4 c5 c6 c7 c8 c9 c10 c11 c12 c13 f0 f9 f10 f11 f12 f13 f15 f16 f17 f20 f21 f22 f23 f26 f28 f31 f32 f33 f38 f41 f44 x14 g15 k16 g17 g18 g19 g20 g21 g22 g23 g24 g25 g26 g27 g28 g29 g30 g31 g32 g33 g34 g35 g36 g37 g38 g39 g40 g41 g42 g43 g44 t)) : zCl zTab (d + 1) iX12_copyRow [.ref 16, .int (Int32.ofInt 1), .int (Int32.ofInt a2), .int (Int32.ofInt a3)] (zMi c0 c1 c2 c3 c4 c5 c6 c7 c8 c9 c10 c11 c12 c13 f0 f9 f10 f11 f12 f13 f15 f16 f17 f20 f21 f22 f23 f26 f28 f31 f32 f33 f38 f41 f44 x14 g15 g16 g17 g18 g19 g20 g21 g22 g23 g24 g25 g26 g27 g28 g29 g30 g31 g32 g33 g34 g35 g36 g37 g38 g39 g40 g41 g42 g43 g44 t) 0 0 Q := by
  refine zCl_i (M := kX12_copyRow) rfl (Nat.le_of_ble_eq_true rfl) fun R hR => ?_
  iterate 2 refine hR (?_ : R (_, _, _, _, _, _))
  have lp3 : ∀ (N : Nat) (i : Int) (q16_3 : Nat → Int32), (0 ≤ i ∧ i ≤ 1) → (q16_3 = cpR g16 1 a2.toNat a3.toNat i.toNat) → (1 - i < N) → R (3, [some (.ref 16), some (.int (Int32.ofInt 1)), some (.int (Int32.ofInt a2)), some (.int (Int32.ofInt a3)), some (.int (Int32.ofInt i))], [], (zMi c0 c1 c2 c3 c4 c5 c6 c7 c8 c9 c10 c11 c12 c13 f0 f9 f10 f11 f12 f13 f15 f16 f17 f20 f21 f22 f23 f26 f28 f31 f32 f33 f38 f41 f44 x14 g15 q16_3 g17 g18 g19 g20 g21 g22 g23 g24 g25 g26 g27 g28 g29 g30 g31 g32 g33 g34 g35 g36 g37 g38 g39 g40 g41 g42 g43 g44 t), 0, 0) := by
    intro N
    induction N with
    | zero => intros; omega
    | succ N ih3 =>
      intro i q16_3 hf0_3 hp0_3 hN3
      iterate 2 refine hR (?_ : R (_, _, _, _, _, _))
      refine hR (j_ge (by omega) (by omega) (fun hc1 => ?_) (fun hc1 => ?_))
      · skip
        exact hR (zret_i rfl (Nat.le_refl _) rfl (h _ (cpR_e hp0_3 (by omega))))
      iterate 3 refine hR (?_ : R (_, _, _, _, _, _))
      refine hR (t_mul ?_)
      refine hR (?_ : R (_, _, _, _, _, _))
      refine hR (t_add ?_)
      iterate 3 refine hR (?_ : R (_, _, _, _, _, _))
      refine hR (t_mul ?_)
      refine hR (?_ : R (_, _, _, _, _, _))
      refine hR (t_add ?_)
      refine hR (t_ld (by omega) (by omega) (Nat.le_of_ble_eq_true rfl) fun v2 ev2 => ?_)
      refine hR (t_st (by omega) (by omega) (Nat.le_of_ble_eq_true rfl) (?_ : R (_, _, _, (zMi c0 c1 c2 c3 c4 c5 c6 c7 c8 c9 c10 c11 c12 c13 f0 f9 f10 f11 f12 f13 f15 f16 f17 f20 f21 f22 f23 f26 f28 f31 f32 f33 f38 f41 f44 x14 g15 (upd q16_3 ((1 * a3) + i).toNat (Int32.ofInt v2)) g17 g18 g19 g20 g21 g22 g23 g24 g25 g26 g27 g28 g29 g30 g31 g32 g33 g34 g35 g36 g37 g38 g39 g40 g41 g42 g43 g44 t), _, _)))
      refine hR (t_inc ?_)
      refine hR (?_ : R (_, _, _, _, _, _))
      exact ih3 _ _ (by omega) (cpR_s hp0_3 (by omega) (by omega) (by omega) (by omega) (by omega) ev2) (by omega)
  exact lp3 400000000 _ _ (by omega) (cpR_0 _ _ _ _) (by omega)
theorem m_copyRow17 (d : Nat) (a2 a3 : Int) (hr0 : 0 ≤ a2 ∧ a2 ≤ 3) (hr1 : 0 ≤ a3 ∧ a3 ≤ 3) (hr2 : a2 ≠ a3) (Q : zQ) (h : ∀ (k17 : Nat → Int32), (k17 = cpR g17 1 a2.toNat a3.toNat 1) → Q (none) (zMi c0 c1 c2 c3 c4 c5 c6 c7 c8 c9 c10 c11 c12 c13 f0 f9 f10 f11 f12 f13 f15 f16 f17 f20 f21 f22 f23 f26 f28 f31 f32 f33 f38 f41 f44 x14 g15 g16 k17 g18 g19 g20 g21 g22 g23 g24 g25 g26 g27 g28 g29 g30 g31 g32 g33 g34 g35 g36 g37 g38 g39 g40 g41 g42 g43 g44 t)) : zCl zTab (d + 1) iX12_copyRow [.ref 17, .int (Int32.ofInt 1), .int (Int32.ofInt a2), .int (Int32.ofInt a3)] (zMi c0 c1 c2 c3 c4 c5 c6 c7 c8 c9 c10 c11 c12 c13 f0 f9 f10 f11 f12 f13 f15 f16 f17 f20 f21 f22 f23 f26 f28 f31 f32 f33 f38 f41 f44 x14 g15 g16 g17 g18 g19 g20 g21 g22 g23 g24 g25 g26 g27 g28 g29 g30 g31 g32 g33 g34 g35 g36 g37 g38 g39 g40 g41 g42 g43 g44 t) 0 0 Q := by
  refine zCl_i (M := kX12_copyRow) rfl (Nat.le_of_ble_eq_true rfl) fun R hR => ?_
  iterate 2 refine hR (?_ : R (_, _, _, _, _, _))
  have lp3 : ∀ (N : Nat) (i : Int) (q17_3 : Nat → Int32), (0 ≤ i ∧ i ≤ 1) → (q17_3 = cpR g17 1 a2.toNat a3.toNat i.toNat) → (1 - i < N) → R (3, [some (.ref 17), some (.int (Int32.ofInt 1)), some (.int (Int32.ofInt a2)), some (.int (Int32.ofInt a3)), some (.int (Int32.ofInt i))], [], (zMi c0 c1 c2 c3 c4 c5 c6 c7 c8 c9 c10 c11 c12 c13 f0 f9 f10 f11 f12 f13 f15 f16 f17 f20 f21 f22 f23 f26 f28 f31 f32 f33 f38 f41 f44 x14 g15 g16 q17_3 g18 g19 g20 g21 g22 g23 g24 g25 g26 g27 g28 g29 g30 g31 g32 g33 g34 g35 g36 g37 g38 g39 g40 g41 g42 g43 g44 t), 0, 0) := by
    intro N
    induction N with
    | zero => intros; omega
    | succ N ih3 =>
      intro i q17_3 hf0_3 hp0_3 hN3
      iterate 2 refine hR (?_ : R (_, _, _, _, _, _))
      refine hR (j_ge (by omega) (by omega) (fun hc1 => ?_) (fun hc1 => ?_))
      · skip
        exact hR (zret_i rfl (Nat.le_refl _) rfl (h _ (cpR_e hp0_3 (by omega))))
      iterate 3 refine hR (?_ : R (_, _, _, _, _, _))
      refine hR (t_mul ?_)
      refine hR (?_ : R (_, _, _, _, _, _))
      refine hR (t_add ?_)
      iterate 3 refine hR (?_ : R (_, _, _, _, _, _))
      refine hR (t_mul ?_)
      refine hR (?_ : R (_, _, _, _, _, _))
      refine hR (t_add ?_)
      refine hR (t_ld (by omega) (by omega) (Nat.le_of_ble_eq_true rfl) fun v2 ev2 => ?_)
      refine hR (t_st (by omega) (by omega) (Nat.le_of_ble_eq_true rfl) (?_ : R (_, _, _, (zMi c0 c1 c2 c3 c4 c5 c6 c7 c8 c9 c10 c11 c12 c13 f0 f9 f10 f11 f12 f13 f15 f16 f17 f20 f21 f22 f23 f26 f28 f31 f32 f33 f38 f41 f44 x14 g15 g16 (upd q17_3 ((1 * a3) + i).toNat (Int32.ofInt v2)) g18 g19 g20 g21 g22 g23 g24 g25 g26 g27 g28 g29 g30 g31 g32 g33 g34 g35 g36 g37 g38 g39 g40 g41 g42 g43 g44 t), _, _)))
      refine hR (t_inc ?_)
      refine hR (?_ : R (_, _, _, _, _, _))
      exact ih3 _ _ (by omega) (cpR_s hp0_3 (by omega) (by omega) (by omega) (by omega) (by omega) ev2) (by omega)
  exact lp3 400000000 _ _ (by omega) (cpR_0 _ _ _ _) (by omega)
theorem m_copyRow18 (d : Nat) (a2 a3 : Int) (hr0 : 0 ≤ a2 ∧ a2 ≤ 3) (hr1 : 0 ≤ a3 ∧ a3 ≤ 3) (hr2 : a2 ≠ a3) (Q : zQ) (h : ∀ (k18 : Nat → Int32), (k18 = cpR g18 1 a2.toNat a3.toNat 1) → Q (none) (zMi c0 c1 c2 c3 c4 c5 c6 c7 c8 c9 c10 c11 c12 c13 f0 f9 f10 f11 f12 f13 f15 f16 f17 f20 f21 f22 f23 f26 f28 f31 f32 f33 f38 f41 f44 x14 g15 g16 g17 k18 g19 g20 g21 g22 g23 g24 g25 g26 g27 g28 g29 g30 g31 g32 g33 g34 g35 g36 g37 g38 g39 g40 g41 g42 g43 g44 t)) : zCl zTab (d + 1) iX12_copyRow [.ref 18, .int (Int32.ofInt 1), .int (Int32.ofInt a2), .int (Int32.ofInt a3)] (zMi c0 c1 c2 c3 c4 c5 c6 c7 c8 c9 c10 c11 c12 c13 f0 f9 f10 f11 f12 f13 f15 f16 f17 f20 f21 f22 f23 f26 f28 f31 f32 f33 f38 f41 f44 x14 g15 g16 g17 g18 g19 g20 g21 g22 g23 g24 g25 g26 g27 g28 g29 g30 g31 g32 g33 g34 g35 g36 g37 g38 g39 g40 g41 g42 g43 g44 t) 0 0 Q := by
  refine zCl_i (M := kX12_copyRow) rfl (Nat.le_of_ble_eq_true rfl) fun R hR => ?_
  iterate 2 refine hR (?_ : R (_, _, _, _, _, _))
  have lp3 : ∀ (N : Nat) (i : Int) (q18_3 : Nat → Int32), (0 ≤ i ∧ i ≤ 1) → (q18_3 = cpR g18 1 a2.toNat a3.toNat i.toNat) → (1 - i < N) → R (3, [some (.ref 18), some (.int (Int32.ofInt 1)), some (.int (Int32.ofInt a2)), some (.int (Int32.ofInt a3)), some (.int (Int32.ofInt i))], [], (zMi c0 c1 c2 c3 c4 c5 c6 c7 c8 c9 c10 c11 c12 c13 f0 f9 f10 f11 f12 f13 f15 f16 f17 f20 f21 f22 f23 f26 f28 f31 f32 f33 f38 f41 f44 x14 g15 g16 g17 q18_3 g19 g20 g21 g22 g23 g24 g25 g26 g27 g28 g29 g30 g31 g32 g33 g34 g35 g36 g37 g38 g39 g40 g41 g42 g43 g44 t), 0, 0) := by
    intro N
    induction N with
    | zero => intros; omega
    | succ N ih3 =>
      intro i q18_3 hf0_3 hp0_3 hN3
      iterate 2 refine hR (?_ : R (_, _, _, _, _, _))
      refine hR (j_ge (by omega) (by omega) (fun hc1 => ?_) (fun hc1 => ?_))
      · skip
        exact hR (zret_i rfl (Nat.le_refl _) rfl (h _ (cpR_e hp0_3 (by omega))))
      iterate 3 refine hR (?_ : R (_, _, _, _, _, _))
      refine hR (t_mul ?_)
      refine hR (?_ : R (_, _, _, _, _, _))
      refine hR (t_add ?_)
      iterate 3 refine hR (?_ : R (_, _, _, _, _, _))
      refine hR (t_mul ?_)
      refine hR (?_ : R (_, _, _, _, _, _))
      refine hR (t_add ?_)
      refine hR (t_ld (by omega) (by omega) (Nat.le_of_ble_eq_true rfl) fun v2 ev2 => ?_)
      refine hR (t_st (by omega) (by omega) (Nat.le_of_ble_eq_true rfl) (?_ : R (_, _, _, (zMi c0 c1 c2 c3 c4 c5 c6 c7 c8 c9 c10 c11 c12 c13 f0 f9 f10 f11 f12 f13 f15 f16 f17 f20 f21 f22 f23 f26 f28 f31 f32 f33 f38 f41 f44 x14 g15 g16 g17 (upd q18_3 ((1 * a3) + i).toNat (Int32.ofInt v2)) g19 g20 g21 g22 g23 g24 g25 g26 g27 g28 g29 g30 g31 g32 g33 g34 g35 g36 g37 g38 g39 g40 g41 g42 g43 g44 t), _, _)))
      refine hR (t_inc ?_)
      refine hR (?_ : R (_, _, _, _, _, _))
      exact ih3 _ _ (by omega) (cpR_s hp0_3 (by omega) (by omega) (by omega) (by omega) (by omega) ev2) (by omega)
  exact lp3 400000000 _ _ (by omega) (cpR_0 _ _ _ _) (by omega)
theorem m_copyRow19 (d : Nat) (a2 a3 : Int) (hr0 : 0 ≤ a2 ∧ a2 ≤ 3) (hr1 : 0 ≤ a3 ∧ a3 ≤ 3) (hr2 : a2 ≠ a3) (Q : zQ) (h : ∀ (k19 : Nat → Int32), (k19 = cpR g19 3 a2.toNat a3.toNat 3) → Q (none) (zMi c0 c1 c2 c3 c4 c5 c6 c7 c8 c9 c10 c11 c12 c13 f0 f9 f10 f11 f12 f13 f15 f16 f17 f20 f21 f22 f23 f26 f28 f31 f32 f33 f38 f41 f44 x14 g15 g16 g17 g18 k19 g20 g21 g22 g23 g24 g25 g26 g27 g28 g29 g30 g31 g32 g33 g34 g35 g36 g37 g38 g39 g40 g41 g42 g43 g44 t)) : zCl zTab (d + 1) iX12_copyRow [.ref 19, .int (Int32.ofInt 3), .int (Int32.ofInt a2), .int (Int32.ofInt a3)] (zMi c0 c1 c2 c3 c4 c5 c6 c7 c8 c9 c10 c11 c12 c13 f0 f9 f10 f11 f12 f13 f15 f16 f17 f20 f21 f22 f23 f26 f28 f31 f32 f33 f38 f41 f44 x14 g15 g16 g17 g18 g19 g20 g21 g22 g23 g24 g25 g26 g27 g28 g29 g30 g31 g32 g33 g34 g35 g36 g37 g38 g39 g40 g41 g42 g43 g44 t) 0 0 Q := by
  refine zCl_i (M := kX12_copyRow) rfl (Nat.le_of_ble_eq_true rfl) fun R hR => ?_
  iterate 2 refine hR (?_ : R (_, _, _, _, _, _))
  have lp3 : ∀ (N : Nat) (i : Int) (q19_3 : Nat → Int32), (0 ≤ i ∧ i ≤ 3) → (q19_3 = cpR g19 3 a2.toNat a3.toNat i.toNat) → (3 - i < N) → R (3, [some (.ref 19), some (.int (Int32.ofInt 3)), some (.int (Int32.ofInt a2)), some (.int (Int32.ofInt a3)), some (.int (Int32.ofInt i))], [], (zMi c0 c1 c2 c3 c4 c5 c6 c7 c8 c9 c10 c11 c12 c13 f0 f9 f10 f11 f12 f13 f15 f16 f17 f20 f21 f22 f23 f26 f28 f31 f32 f33 f38 f41 f44 x14 g15 g16 g17 g18 q19_3 g20 g21 g22 g23 g24 g25 g26 g27 g28 g29 g30 g31 g32 g33 g34 g35 g36 g37 g38 g39 g40 g41 g42 g43 g44 t), 0, 0) := by
    intro N
    induction N with
    | zero => intros; omega
    | succ N ih3 =>
      intro i q19_3 hf0_3 hp0_3 hN3
      iterate 2 refine hR (?_ : R (_, _, _, _, _, _))
      refine hR (j_ge (by omega) (by omega) (fun hc1 => ?_) (fun hc1 => ?_))
      · skip
        exact hR (zret_i rfl (Nat.le_refl _) rfl (h _ (cpR_e hp0_3 (by omega))))
      iterate 3 refine hR (?_ : R (_, _, _, _, _, _))
      refine hR (t_mul ?_)
      refine hR (?_ : R (_, _, _, _, _, _))
      refine hR (t_add ?_)
      iterate 3 refine hR (?_ : R (_, _, _, _, _, _))
      refine hR (t_mul ?_)
      refine hR (?_ : R (_, _, _, _, _, _))
      refine hR (t_add ?_)
      refine hR (t_ld (by omega) (by omega) (Nat.le_of_ble_eq_true rfl) fun v2 ev2 => ?_)
      refine hR (t_st (by omega) (by omega) (Nat.le_of_ble_eq_true rfl) (?_ : R (_, _, _, (zMi c0 c1 c2 c3 c4 c5 c6 c7 c8 c9 c10 c11 c12 c13 f0 f9 f10 f11 f12 f13 f15 f16 f17 f20 f21 f22 f23 f26 f28 f31 f32 f33 f38 f41 f44 x14 g15 g16 g17 g18 (upd q19_3 ((3 * a3) + i).toNat (Int32.ofInt v2)) g20 g21 g22 g23 g24 g25 g26 g27 g28 g29 g30 g31 g32 g33 g34 g35 g36 g37 g38 g39 g40 g41 g42 g43 g44 t), _, _)))
      refine hR (t_inc ?_)
      refine hR (?_ : R (_, _, _, _, _, _))
      exact ih3 _ _ (by omega) (cpR_s hp0_3 (by omega) (by omega) (by omega) (by omega) (by omega) ev2) (by omega)
  exact lp3 400000000 _ _ (by omega) (cpR_0 _ _ _ _) (by omega)
theorem m_copyRow20 (d : Nat) (a2 a3 : Int) (hr0 : 0 ≤ a2 ∧ a2 ≤ 3) (hr1 : 0 ≤ a3 ∧ a3 ≤ 3) (hr2 : a2 ≠ a3) (Q : zQ) (h : ∀ (k20 : Nat → Int32), (k20 = cpR g20 102 a2.toNat a3.toNat 102) → Q (none) (zMi c0 c1 c2 c3 c4 c5 c6 c7 c8 c9 c10 c11 c12 c13 f0 f9 f10 f11 f12 f13 f15 f16 f17 f20 f21 f22 f23 f26 f28 f31 f32 f33 f38 f41 f44 x14 g15 g16 g17 g18 g19 k20 g21 g22 g23 g24 g25 g26 g27 g28 g29 g30 g31 g32 g33 g34 g35 g36 g37 g38 g39 g40 g41 g42 g43 g44 t)) : zCl zTab (d + 1) iX12_copyRow [.ref 20, .int (Int32.ofInt 102), .int (Int32.ofInt a2), .int (Int32.ofInt a3)] (zMi c0 c1 c2 c3 c4 c5 c6 c7 c8 c9 c10 c11 c12 c13 f0 f9 f10 f11 f12 f13 f15 f16 f17 f20 f21 f22 f23 f26 f28 f31 f32 f33 f38 f41 f44 x14 g15 g16 g17 g18 g19 g20 g21 g22 g23 g24 g25 g26 g27 g28 g29 g30 g31 g32 g33 g34 g35 g36 g37 g38 g39 g40 g41 g42 g43 g44 t) 0 0 Q := by
  refine zCl_i (M := kX12_copyRow) rfl (Nat.le_of_ble_eq_true rfl) fun R hR => ?_
  iterate 2 refine hR (?_ : R (_, _, _, _, _, _))
  have lp3 : ∀ (N : Nat) (i : Int) (q20_3 : Nat → Int32), (0 ≤ i ∧ i ≤ 102) → (q20_3 = cpR g20 102 a2.toNat a3.toNat i.toNat) → (102 - i < N) → R (3, [some (.ref 20), some (.int (Int32.ofInt 102)), some (.int (Int32.ofInt a2)), some (.int (Int32.ofInt a3)), some (.int (Int32.ofInt i))], [], (zMi c0 c1 c2 c3 c4 c5 c6 c7 c8 c9 c10 c11 c12 c13 f0 f9 f10 f11 f12 f13 f15 f16 f17 f20 f21 f22 f23 f26 f28 f31 f32 f33 f38 f41 f44 x14 g15 g16 g17 g18 g19 q20_3 g21 g22 g23 g24 g25 g26 g27 g28 g29 g30 g31 g32 g33 g34 g35 g36 g37 g38 g39 g40 g41 g42 g43 g44 t), 0, 0) := by
    intro N
    induction N with
    | zero => intros; omega
    | succ N ih3 =>
      intro i q20_3 hf0_3 hp0_3 hN3
      iterate 2 refine hR (?_ : R (_, _, _, _, _, _))
      refine hR (j_ge (by omega) (by omega) (fun hc1 => ?_) (fun hc1 => ?_))
      · skip
        exact hR (zret_i rfl (Nat.le_refl _) rfl (h _ (cpR_e hp0_3 (by omega))))
      iterate 3 refine hR (?_ : R (_, _, _, _, _, _))
      refine hR (t_mul ?_)
      refine hR (?_ : R (_, _, _, _, _, _))
      refine hR (t_add ?_)
      iterate 3 refine hR (?_ : R (_, _, _, _, _, _))
      refine hR (t_mul ?_)
      refine hR (?_ : R (_, _, _, _, _, _))
      refine hR (t_add ?_)
      refine hR (t_ld (by omega) (by omega) (Nat.le_of_ble_eq_true rfl) fun v2 ev2 => ?_)
      refine hR (t_st (by omega) (by omega) (Nat.le_of_ble_eq_true rfl) (?_ : R (_, _, _, (zMi c0 c1 c2 c3 c4 c5 c6 c7 c8 c9 c10 c11 c12 c13 f0 f9 f10 f11 f12 f13 f15 f16 f17 f20 f21 f22 f23 f26 f28 f31 f32 f33 f38 f41 f44 x14 g15 g16 g17 g18 g19 (upd q20_3 ((102 * a3) + i).toNat (Int32.ofInt v2)) g21 g22 g23 g24 g25 g26 g27 g28 g29 g30 g31 g32 g33 g34 g35 g36 g37 g38 g39 g40 g41 g42 g43 g44 t), _, _)))
      refine hR (t_inc ?_)
      refine hR (?_ : R (_, _, _, _, _, _))
      exact ih3 _ _ (by omega) (cpR_s hp0_3 (by omega) (by omega) (by omega) (by omega) (by omega) ev2) (by omega)
  exact lp3 400000000 _ _ (by omega) (cpR_0 _ _ _ _) (by omega)
theorem m_copyRow21 (d : Nat) (a2 a3 : Int) (hr0 : 0 ≤ a2 ∧ a2 ≤ 3) (hr1 : 0 ≤ a3 ∧ a3 ≤ 3) (hr2 : a2 ≠ a3) (Q : zQ) (h : ∀ (k21 : Nat → Int32), (k21 = cpR g21 242 a2.toNat a3.toNat 242) → Q (none) (zMi c0 c1 c2 c3 c4 c5 c6 c7 c8 c9 c10 c11 c12 c13 f0 f9 f10 f11 f12 f13 f15 f16 f17 f20 f21 f22 f23 f26 f28 f31 f32 f33 f38 f41 f44 x14 g15 g16 g17 g18 g19 g20 k21 g22 g23 g24 g25 g26 g27 g28 g29 g30 g31 g32 g33 g34 g35 g36 g37 g38 g39 g40 g41 g42 g43 g44 t)) : zCl zTab (d + 1) iX12_copyRow [.ref 21, .int (Int32.ofInt 242), .int (Int32.ofInt a2), .int (Int32.ofInt a3)] (zMi c0 c1 c2 c3 c4 c5 c6 c7 c8 c9 c10 c11 c12 c13 f0 f9 f10 f11 f12 f13 f15 f16 f17 f20 f21 f22 f23 f26 f28 f31 f32 f33 f38 f41 f44 x14 g15 g16 g17 g18 g19 g20 g21 g22 g23 g24 g25 g26 g27 g28 g29 g30 g31 g32 g33 g34 g35 g36 g37 g38 g39 g40 g41 g42 g43 g44 t) 0 0 Q := by
  refine zCl_i (M := kX12_copyRow) rfl (Nat.le_of_ble_eq_true rfl) fun R hR => ?_
  iterate 2 refine hR (?_ : R (_, _, _, _, _, _))
  have lp3 : ∀ (N : Nat) (i : Int) (q21_3 : Nat → Int32), (0 ≤ i ∧ i ≤ 242) → (q21_3 = cpR g21 242 a2.toNat a3.toNat i.toNat) → (242 - i < N) → R (3, [some (.ref 21), some (.int (Int32.ofInt 242)), some (.int (Int32.ofInt a2)), some (.int (Int32.ofInt a3)), some (.int (Int32.ofInt i))], [], (zMi c0 c1 c2 c3 c4 c5 c6 c7 c8 c9 c10 c11 c12 c13 f0 f9 f10 f11 f12 f13 f15 f16 f17 f20 f21 f22 f23 f26 f28 f31 f32 f33 f38 f41 f44 x14 g15 g16 g17 g18 g19 g20 q21_3 g22 g23 g24 g25 g26 g27 g28 g29 g30 g31 g32 g33 g34 g35 g36 g37 g38 g39 g40 g41 g42 g43 g44 t), 0, 0) := by
    intro N
    induction N with
    | zero => intros; omega
    | succ N ih3 =>
      intro i q21_3 hf0_3 hp0_3 hN3
      iterate 2 refine hR (?_ : R (_, _, _, _, _, _))
      refine hR (j_ge (by omega) (by omega) (fun hc1 => ?_) (fun hc1 => ?_))
      · skip
        exact hR (zret_i rfl (Nat.le_refl _) rfl (h _ (cpR_e hp0_3 (by omega))))
      iterate 3 refine hR (?_ : R (_, _, _, _, _, _))
      refine hR (t_mul ?_)
      refine hR (?_ : R (_, _, _, _, _, _))
      refine hR (t_add ?_)
      iterate 3 refine hR (?_ : R (_, _, _, _, _, _))
      refine hR (t_mul ?_)
      refine hR (?_ : R (_, _, _, _, _, _))
      refine hR (t_add ?_)
      refine hR (t_ld (by omega) (by omega) (Nat.le_of_ble_eq_true rfl) fun v2 ev2 => ?_)
      refine hR (t_st (by omega) (by omega) (Nat.le_of_ble_eq_true rfl) (?_ : R (_, _, _, (zMi c0 c1 c2 c3 c4 c5 c6 c7 c8 c9 c10 c11 c12 c13 f0 f9 f10 f11 f12 f13 f15 f16 f17 f20 f21 f22 f23 f26 f28 f31 f32 f33 f38 f41 f44 x14 g15 g16 g17 g18 g19 g20 (upd q21_3 ((242 * a3) + i).toNat (Int32.ofInt v2)) g22 g23 g24 g25 g26 g27 g28 g29 g30 g31 g32 g33 g34 g35 g36 g37 g38 g39 g40 g41 g42 g43 g44 t), _, _)))
      refine hR (t_inc ?_)
      refine hR (?_ : R (_, _, _, _, _, _))
      exact ih3 _ _ (by omega) (cpR_s hp0_3 (by omega) (by omega) (by omega) (by omega) (by omega) ev2) (by omega)
  exact lp3 400000000 _ _ (by omega) (cpR_0 _ _ _ _) (by omega)
theorem m_copyRow22 (d : Nat) (a2 a3 : Int) (hr0 : 0 ≤ a2 ∧ a2 ≤ 3) (hr1 : 0 ≤ a3 ∧ a3 ≤ 3) (hr2 : a2 ≠ a3) (Q : zQ) (h : ∀ (k22 : Nat → Int32), (k22 = cpR g22 26 a2.toNat a3.toNat 26) → Q (none) (zMi c0 c1 c2 c3 c4 c5 c6 c7 c8 c9 c10 c11 c12 c13 f0 f9 f10 f11 f12 f13 f15 f16 f17 f20 f21 f22 f23 f26 f28 f31 f32 f33 f38 f41 f44 x14 g15 g16 g17 g18 g19 g20 g21 k22 g23 g24 g25 g26 g27 g28 g29 g30 g31 g32 g33 g34 g35 g36 g37 g38 g39 g40 g41 g42 g43 g44 t)) : zCl zTab (d + 1) iX12_copyRow [.ref 22, .int (Int32.ofInt 26), .int (Int32.ofInt a2), .int (Int32.ofInt a3)] (zMi c0 c1 c2 c3 c4 c5 c6 c7 c8 c9 c10 c11 c12 c13 f0 f9 f10 f11 f12 f13 f15 f16 f17 f20 f21 f22 f23 f26 f28 f31 f32 f33 f38 f41 f44 x14 g15 g16 g17 g18 g19 g20 g21 g22 g23 g24 g25 g26 g27 g28 g29 g30 g31 g32 g33 g34 g35 g36 g37 g38 g39 g40 g41 g42 g43 g44 t) 0 0 Q := by
  refine zCl_i (M := kX12_copyRow) rfl (Nat.le_of_ble_eq_true rfl) fun R hR => ?_
  iterate 2 refine hR (?_ : R (_, _, _, _, _, _))
  have lp3 : ∀ (N : Nat) (i : Int) (q22_3 : Nat → Int32), (0 ≤ i ∧ i ≤ 26) → (q22_3 = cpR g22 26 a2.toNat a3.toNat i.toNat) → (26 - i < N) → R (3, [some (.ref 22), some (.int (Int32.ofInt 26)), some (.int (Int32.ofInt a2)), some (.int (Int32.ofInt a3)), some (.int (Int32.ofInt i))], [], (zMi c0 c1 c2 c3 c4 c5 c6 c7 c8 c9 c10 c11 c12 c13 f0 f9 f10 f11 f12 f13 f15 f16 f17 f20 f21 f22 f23 f26 f28 f31 f32 f33 f38 f41 f44 x14 g15 g16 g17 g18 g19 g20 g21 q22_3 g23 g24 g25 g26 g27 g28 g29 g30 g31 g32 g33 g34 g35 g36 g37 g38 g39 g40 g41 g42 g43 g44 t), 0, 0) := by
    intro N
    induction N with
    | zero => intros; omega
    | succ N ih3 =>
      intro i q22_3 hf0_3 hp0_3 hN3
      iterate 2 refine hR (?_ : R (_, _, _, _, _, _))
      refine hR (j_ge (by omega) (by omega) (fun hc1 => ?_) (fun hc1 => ?_))
      · skip
        exact hR (zret_i rfl (Nat.le_refl _) rfl (h _ (cpR_e hp0_3 (by omega))))
      iterate 3 refine hR (?_ : R (_, _, _, _, _, _))
      refine hR (t_mul ?_)
      refine hR (?_ : R (_, _, _, _, _, _))
      refine hR (t_add ?_)
      iterate 3 refine hR (?_ : R (_, _, _, _, _, _))
      refine hR (t_mul ?_)
      refine hR (?_ : R (_, _, _, _, _, _))
      refine hR (t_add ?_)
      refine hR (t_ld (by omega) (by omega) (Nat.le_of_ble_eq_true rfl) fun v2 ev2 => ?_)
      refine hR (t_st (by omega) (by omega) (Nat.le_of_ble_eq_true rfl) (?_ : R (_, _, _, (zMi c0 c1 c2 c3 c4 c5 c6 c7 c8 c9 c10 c11 c12 c13 f0 f9 f10 f11 f12 f13 f15 f16 f17 f20 f21 f22 f23 f26 f28 f31 f32 f33 f38 f41 f44 x14 g15 g16 g17 g18 g19 g20 g21 (upd q22_3 ((26 * a3) + i).toNat (Int32.ofInt v2)) g23 g24 g25 g26 g27 g28 g29 g30 g31 g32 g33 g34 g35 g36 g37 g38 g39 g40 g41 g42 g43 g44 t), _, _)))
      refine hR (t_inc ?_)
      refine hR (?_ : R (_, _, _, _, _, _))
      exact ih3 _ _ (by omega) (cpR_s hp0_3 (by omega) (by omega) (by omega) (by omega) (by omega) ev2) (by omega)
  exact lp3 400000000 _ _ (by omega) (cpR_0 _ _ _ _) (by omega)
theorem m_copyAll (d : Nat) (a1 a2 : Int) (hr0 : 0 ≤ a1 ∧ a1 ≤ 3) (hr1 : 0 ≤ a2 ∧ a2 ≤ 3) (hr2 : a1 ≠ a2) (Q : zQ) (h : ∀ (k15 : Nat → Int32) (k16 : Nat → Int32) (k17 : Nat → Int32) (k18 : Nat → Int32) (k19 : Nat → Int32) (k20 : Nat → Int32) (k21 : Nat → Int32) (k22 : Nat → Int32), (k16 = cpR g16 1 a1.toNat a2.toNat 1) → (k17 = cpR g17 1 a1.toNat a2.toNat 1) → (k18 = cpR g18 1 a1.toNat a2.toNat 1) → (k19 = cpR g19 3 a1.toNat a2.toNat 3) → (k20 = cpR g20 102 a1.toNat a2.toNat 102) → (k21 = cpR g21 242 a1.toNat a2.toNat 242) → (k22 = cpR g22 26 a1.toNat a2.toNat 26) → Q (none) (zMi c0 c1 c2 c3 c4 c5 c6 c7 c8 c9 c10 c11 c12 c13 f0 f9 f10 f11 f12 f13 f15 f16 f17 f20 f21 f22 f23 f26 f28 f31 f32 f33 f38 f41 f44 x14 k15 k16 k17 k18 k19 k20 k21 k22 g23 g24 g25 g26 g27 g28 g29 g30 g31 g32 g33 g34 g35 g36 g37 g38 g39 g40 g41 g42 g43 g44 t)) : zCl zTab (d + 2) iX12_copyAll [.ref 14, .int (Int32.ofInt a1), .int (Int32.ofInt a2)] (zMi c0 c1 c2 c3 c4 c5 c6 c7 c8 c9 c10 c11 c12 c13 f0 f9 f10 f11 f12 f13 f15 f16 f17 f20 f21 f22 f23 f26 f28 f31 f32 f33 f38 f41 f44 x14 g15 g16 g17 g18 g19 g20 g21 g22 g23 g24 g25 g26 g27 g28 g29 g30 g31 g32 g33 g34 g35 g36 g37 g38 g39 g40 g41 g42 g43 g44 t) 0 0 Q := by
  refine zCl_i (M := kX12_copyAll) rfl (Nat.le_of_ble_eq_true rfl) fun R hR => ?_
  iterate 2 refine hR (?_ : R (_, _, _, _, _, _))
  have lp2 : ∀ (N : Nat) (i : Int) (q15_2 : Nat → Int32), (0 ≤ i ∧ i ≤ 600) → (600 - i < N) → R (2, [some (.ref 14), some (.int (Int32.ofInt a1)), some (.int (Int32.ofInt a2)), some (.int (Int32.ofInt i))], [], (zMi c0 c1 c2 c3 c4 c5 c6 c7 c8 c9 c10 c11 c12 c13 f0 f9 f10 f11 f12 f13 f15 f16 f17 f20 f21 f22 f23 f26 f28 f31 f32 f33 f38 f41 f44 x14 q15_2 g16 g17 g18 g19 g20 g21 g22 g23 g24 g25 g26 g27 g28 g29 g30 g31 g32 g33 g34 g35 g36 g37 g38 g39 g40 g41 g42 g43 g44 t), 0, 0) := by
    intro N
    induction N with
    | zero => intros; omega
    | succ N ih2 =>
      intro i q15_2 hf0_2 hN2
      refine hR (?_ : R (_, _, _, _, _, _))
      refine hR (t_c 600 (by decide) ?_)
      refine hR (j_ge (by omega) (by omega) (fun hc1 => ?_) (fun hc1 => ?_))
      rotate_left
      · skip
        iterate 2 refine hR (?_ : R (_, _, _, _, _, _))
        refine hR (t_c 600 (by decide) ?_)
        refine hR (?_ : R (_, _, _, _, _, _))
        refine hR (t_mul ?_)
        refine hR (?_ : R (_, _, _, _, _, _))
        refine hR (t_add ?_)
        iterate 2 refine hR (?_ : R (_, _, _, _, _, _))
        refine hR (t_c 600 (by decide) ?_)
        refine hR (?_ : R (_, _, _, _, _, _))
        refine hR (t_mul ?_)
        refine hR (?_ : R (_, _, _, _, _, _))
        refine hR (t_add ?_)
        refine hR (t_ldo (by omega) (by omega) (Nat.le_of_ble_eq_true rfl) fun v16 rv16 => ?_)
        refine hR (t_stx (by omega) (by omega) (Nat.le_of_ble_eq_true rfl) fun k15_17 => (?_ : R (_, _, _, (zMi c0 c1 c2 c3 c4 c5 c6 c7 c8 c9 c10 c11 c12 c13 f0 f9 f10 f11 f12 f13 f15 f16 f17 f20 f21 f22 f23 f26 f28 f31 f32 f33 f38 f41 f44 x14 k15_17 g16 g17 g18 g19 g20 g21 g22 g23 g24 g25 g26 g27 g28 g29 g30 g31 g32 g33 g34 g35 g36 g37 g38 g39 g40 g41 g42 g43 g44 t), _, _)))
        refine hR (t_inc ?_)
        refine hR (?_ : R (_, _, _, _, _, _))
        exact ih2 _ _ (by omega) (by omega)
      iterate 5 refine hR (?_ : R (_, _, _, _, _, _))
      refine hR (zcall_i 0 0 (Nat.le_of_ble_eq_true rfl) (Nat.le_of_ble_eq_true rfl) (m_copyRow16 _ a1 a2 (by omega) (by omega) (by omega) _ fun k16_2 hp3 => ?_))
      refine (?_ : R (_, _, [], (zMi c0 c1 c2 c3 c4 c5 c6 c7 c8 c9 c10 c11 c12 c13 f0 f9 f10 f11 f12 f13 f15 f16 f17 f20 f21 f22 f23 f26 f28 f31 f32 f33 f38 f41 f44 x14 q15_2 k16_2 g17 g18 g19 g20 g21 g22 g23 g24 g25 g26 g27 g28 g29 g30 g31 g32 g33 g34 g35 g36 g37 g38 g39 g40 g41 g42 g43 g44 t), 0, 0))
      iterate 5 refine hR (?_ : R (_, _, _, _, _, _))
      refine hR (zcall_i 0 0 (Nat.le_of_ble_eq_true rfl) (Nat.le_of_ble_eq_true rfl) (m_copyRow17 _ a1 a2 (by omega) (by omega) (by omega) _ fun k17_4 hp5 => ?_))
      refine (?_ : R (_, _, [], (zMi c0 c1 c2 c3 c4 c5 c6 c7 c8 c9 c10 c11 c12 c13 f0 f9 f10 f11 f12 f13 f15 f16 f17 f20 f21 f22 f23 f26 f28 f31 f32 f33 f38 f41 f44 x14 q15_2 k16_2 k17_4 g18 g19 g20 g21 g22 g23 g24 g25 g26 g27 g28 g29 g30 g31 g32 g33 g34 g35 g36 g37 g38 g39 g40 g41 g42 g43 g44 t), 0, 0))
      iterate 5 refine hR (?_ : R (_, _, _, _, _, _))
      refine hR (zcall_i 0 0 (Nat.le_of_ble_eq_true rfl) (Nat.le_of_ble_eq_true rfl) (m_copyRow18 _ a1 a2 (by omega) (by omega) (by omega) _ fun k18_6 hp7 => ?_))
      refine (?_ : R (_, _, [], (zMi c0 c1 c2 c3 c4 c5 c6 c7 c8 c9 c10 c11 c12 c13 f0 f9 f10 f11 f12 f13 f15 f16 f17 f20 f21 f22 f23 f26 f28 f31 f32 f33 f38 f41 f44 x14 q15_2 k16_2 k17_4 k18_6 g19 g20 g21 g22 g23 g24 g25 g26 g27 g28 g29 g30 g31 g32 g33 g34 g35 g36 g37 g38 g39 g40 g41 g42 g43 g44 t), 0, 0))
      iterate 5 refine hR (?_ : R (_, _, _, _, _, _))
      refine hR (zcall_i 0 0 (Nat.le_of_ble_eq_true rfl) (Nat.le_of_ble_eq_true rfl) (m_copyRow19 _ a1 a2 (by omega) (by omega) (by omega) _ fun k19_8 hp9 => ?_))
      refine (?_ : R (_, _, [], (zMi c0 c1 c2 c3 c4 c5 c6 c7 c8 c9 c10 c11 c12 c13 f0 f9 f10 f11 f12 f13 f15 f16 f17 f20 f21 f22 f23 f26 f28 f31 f32 f33 f38 f41 f44 x14 q15_2 k16_2 k17_4 k18_6 k19_8 g20 g21 g22 g23 g24 g25 g26 g27 g28 g29 g30 g31 g32 g33 g34 g35 g36 g37 g38 g39 g40 g41 g42 g43 g44 t), 0, 0))
      iterate 2 refine hR (?_ : R (_, _, _, _, _, _))
      refine hR (t_c 102 (by decide) ?_)
      iterate 2 refine hR (?_ : R (_, _, _, _, _, _))
      refine hR (zcall_i 0 0 (Nat.le_of_ble_eq_true rfl) (Nat.le_of_ble_eq_true rfl) (m_copyRow20 _ a1 a2 (by omega) (by omega) (by omega) _ fun k20_10 hp11 => ?_))
      refine (?_ : R (_, _, [], (zMi c0 c1 c2 c3 c4 c5 c6 c7 c8 c9 c10 c11 c12 c13 f0 f9 f10 f11 f12 f13 f15 f16 f17 f20 f21 f22 f23 f26 f28 f31 f32 f33 f38 f41 f44 x14 q15_2 k16_2 k17_4 k18_6 k19_8 k20_10 g21 g22 g23 g24 g25 g26 g27 g28 g29 g30 g31 g32 g33 g34 g35 g36 g37 g38 g39 g40 g41 g42 g43 g44 t), 0, 0))
      iterate 2 refine hR (?_ : R (_, _, _, _, _, _))
      refine hR (t_c 242 (by decide) ?_)
      iterate 2 refine hR (?_ : R (_, _, _, _, _, _))
      refine hR (zcall_i 0 0 (Nat.le_of_ble_eq_true rfl) (Nat.le_of_ble_eq_true rfl) (m_copyRow21 _ a1 a2 (by omega) (by omega) (by omega) _ fun k21_12 hp13 => ?_))
      refine (?_ : R (_, _, [], (zMi c0 c1 c2 c3 c4 c5 c6 c7 c8 c9 c10 c11 c12 c13 f0 f9 f10 f11 f12 f13 f15 f16 f17 f20 f21 f22 f23 f26 f28 f31 f32 f33 f38 f41 f44 x14 q15_2 k16_2 k17_4 k18_6 k19_8 k20_10 k21_12 g22 g23 g24 g25 g26 g27 g28 g29 g30 g31 g32 g33 g34 g35 g36 g37 g38 g39 g40 g41 g42 g43 g44 t), 0, 0))
      iterate 2 refine hR (?_ : R (_, _, _, _, _, _))
      refine hR (t_c 26 (by decide) ?_)
      iterate 2 refine hR (?_ : R (_, _, _, _, _, _))
      refine hR (zcall_i 0 0 (Nat.le_of_ble_eq_true rfl) (Nat.le_of_ble_eq_true rfl) (m_copyRow22 _ a1 a2 (by omega) (by omega) (by omega) _ fun k22_14 hp15 => ?_))
      refine (?_ : R (_, _, [], (zMi c0 c1 c2 c3 c4 c5 c6 c7 c8 c9 c10 c11 c12 c13 f0 f9 f10 f11 f12 f13 f15 f16 f17 f20 f21 f22 f23 f26 f28 f31 f32 f33 f38 f41 f44 x14 q15_2 k16_2 k17_4 k18_6 k19_8 k20_10 k21_12 k22_14 g23 g24 g25 g26 g27 g28 g29 g30 g31 g32 g33 g34 g35 g36 g37 g38 g39 g40 g41 g42 g43 g44 t), 0, 0))
      exact hR (zret_i rfl (Nat.le_refl _) rfl (h _ _ _ _ _ _ _ _ hp3 hp5 hp7 hp9 hp11 hp13 hp15))
  exact lp2 400000000 _ _ (by omega) (by omega)
end MZ
end
section
/-! a book's row, a year's row -/
def bkR (T : Nat → Int32) : Prop := (0 ≤ (T 0).toInt ∧ (T 0).toInt ≤ 5460) ∧ (0 ≤ (T 1).toInt ∧ (T 1).toInt ≤ 5) ∧ (∀ j, 2 ≤ j → j < 6 → 0 ≤ (T j).toInt ∧ (T j).toInt ≤ 3) ∧ (∀ j, 6 ≤ j → j < 11 → 0 ≤ (T j).toInt ∧ (T j).toInt ≤ 4) ∧ (∀ j, j < 20 → (0 ≤ (T (11 + 2 * j)).toInt ∧ (T (11 + 2 * j)).toInt ≤ 4) ∧ (0 ≤ (T (12 + 2 * j)).toInt ∧ (T (12 + 2 * j)).toInt ≤ 6) ∧ ((T (11 + 2 * j)).toInt = 0 → (T (12 + 2 * j)).toInt ≤ 3) ∧ (1 ≤ (T (11 + 2 * j)).toInt → (T (11 + 2 * j)).toInt ≤ 3 → 1 ≤ (T (12 + 2 * j)).toInt))
def bkOK (g : Nat → Int32) : Prop := ∀ b, b < 8 → bkR (fun j => g (51 * b + j))
theorem bk_ix {g : Nat → Int32} {f a v : Int} (hf : 0 ≤ f) (ha : 0 ≤ a) (h : v = (g (51 * f + a).toNat).toInt) : v = (g (51 * f.toNat + a.toNat)).toInt := by
  rw [h, show (51 * f + a).toNat = 51 * f.toNat + a.toNat by omega]
theorem bk_of0 {g : Nat → Int32} {f v : Int} (hg : bkOK g) (hf : 0 ≤ f) (hf1 : f ≤ 7) (h : v = (g (51 * f.toNat + 0)).toInt) : 0 ≤ v ∧ v ≤ 5460 := by
  rw [h]; exact (hg f.toNat (by omega)).1
theorem bk_of1 {g : Nat → Int32} {f v : Int} (hg : bkOK g) (hf : 0 ≤ f) (hf1 : f ≤ 7) (h : v = (g (51 * f.toNat + 1)).toInt) : 0 ≤ v ∧ v ≤ 5 := by
  rw [h]; exact (hg f.toNat (by omega)).2.1
theorem bk_ofK {g : Nat → Int32} {f a v : Int} (hg : bkOK g) (hf : 0 ≤ f) (hf1 : f ≤ 7) (ha : 2 ≤ a) (ha1 : a ≤ 5) (h : v = (g (51 * f.toNat + a.toNat)).toInt) : 0 ≤ v ∧ v ≤ 3 := by
  rw [h]; exact (hg f.toNat (by omega)).2.2.1 a.toNat (by omega) (by omega)
theorem bk_ofM {g : Nat → Int32} {f a v : Int} (hg : bkOK g) (hf : 0 ≤ f) (hf1 : f ≤ 7) (ha : 6 ≤ a) (ha1 : a ≤ 10) (h : v = (g (51 * f.toNat + a.toNat)).toInt) : 0 ≤ v ∧ v ≤ 4 := by
  rw [h]; exact (hg f.toNat (by omega)).2.2.2.1 a.toNat (by omega) (by omega)
theorem bk_ofS {g : Nat → Int32} {f a v : Int} (hg : bkOK g) (hf : 0 ≤ f) (hf1 : f ≤ 7) (ha : 11 ≤ a) (ha1 : a ≤ 50) (h : v = (g (51 * f.toNat + a.toNat)).toInt) : 0 ≤ v ∧ v ≤ 6 := by
  obtain ⟨k1, k2, -, -⟩ := (hg f.toNat (by omega)).2.2.2.2 ((a.toNat - 11) / 2) (by omega)
  dsimp only at k1 k2
  rcases Nat.mod_two_eq_zero_or_one (a.toNat - 11) with z | z
  · have e2 : 11 + 2 * ((a.toNat - 11) / 2) = a.toNat := by omega
    rw [e2] at k1
    rw [h]; omega
  · have e2 : 12 + 2 * ((a.toNat - 11) / 2) = a.toNat := by omega
    rw [e2] at k2
    rw [h]; omega
theorem zp4_b {i : Int} (h0 : 0 ≤ i) (h1 : i ≤ 6) : (4 : Int) ^ i.toNat ≤ 4096 := by
  have h : i = 0 ∨ i = 1 ∨ i = 2 ∨ i = 3 ∨ i = 4 ∨ i = 5 ∨ i = 6 := by omega
  rcases h with rfl | rfl | rfl | rfl | rfl | rfl | rfl <;> decide
theorem bk_st {g : Nat → Int32} (hg : bkOK g) {b r k : Nat} (hb : b < 8) (hr : r ≤ 4) (hk : k ≤ 3) : (0 ≤ (g (51 * b + (11 + 8 * r + 2 * k))).toInt ∧ (g (51 * b + (11 + 8 * r + 2 * k))).toInt ≤ 4) ∧ (0 ≤ (g (51 * b + (12 + 8 * r + 2 * k))).toInt ∧ (g (51 * b + (12 + 8 * r + 2 * k))).toInt ≤ 6) ∧ ((g (51 * b + (11 + 8 * r + 2 * k))).toInt = 0 → (g (51 * b + (12 + 8 * r + 2 * k))).toInt ≤ 3) ∧ (1 ≤ (g (51 * b + (11 + 8 * r + 2 * k))).toInt → (g (51 * b + (11 + 8 * r + 2 * k))).toInt ≤ 3 → 1 ≤ (g (51 * b + (12 + 8 * r + 2 * k))).toInt) := by
  obtain ⟨-, -, -, -, h4⟩ := hg b hb
  have h := h4 (4 * r + k) (by omega)
  rw [show 11 + 8 * r + 2 * k = 11 + 2 * (4 * r + k) by omega, show 12 + 8 * r + 2 * k = 12 + 2 * (4 * r + k) by omega]
  exact h
theorem zp4_s {i fg w : Int} (hi : 0 ≤ i) (h : fg < 4 ^ i.toNat) (hw : w ≤ 3) : 4 * fg + w < 4 ^ (i + 1).toNat := by
  rw [show (i + 1).toNat = i.toNat + 1 by omega, Int.pow_succ]
  omega
theorem zp4_e {i a fg : Int} (h : fg < 4 ^ i.toNat) (e : i = a) : fg < 4 ^ a.toNat := by rw [← e]; exact h
theorem tSh_b {i : Int} (h0 : 0 ≤ i) (h1 : i ≤ 6) : (tSh i.toNat : Int) + 4 ^ i.toNat ≤ 5461 := by
  have h : i = 0 ∨ i = 1 ∨ i = 2 ∨ i = 3 ∨ i = 4 ∨ i = 5 ∨ i = 6 := by omega
  rcases h with rfl | rfl | rfl | rfl | rfl | rfl | rfl <;> decide
theorem nI_oi {a : Int} (h : 0 ≤ a) : Int32.ofInt a = nI a.toNat := by
  rw [← Int.toNat_of_nonneg h]; rfl
theorem m_shorter (d : Nat) (a1 : Int) (w : zW) (hr0 : 0 ≤ a1 ∧ a1 ≤ 7) (Q : zQ) (h : ∀ (v : Int), (v = (tSh a1.toNat : Int)) → (0 ≤ v ∧ v ≤ 5461) → Q (some (.int (Int32.ofInt v))) w) : zCl zTab (d + 1) iX12_shorter [.int (Int32.ofInt a1)] w 0 0 Q := by
  refine p_shorter d _ a1.toNat (nI_oi hr0.1) (by omega) w Q ?_
  have h8 := tSh7 a1.toNat (by omega)
  have h9 : tSh a1.toNat ≤ 5461 := by
    have h : a1 = 0 ∨ a1 = 1 ∨ a1 = 2 ∨ a1 = 3 ∨ a1 = 4 ∨ a1 = 5 ∨ a1 = 6 ∨ a1 = 7 := by omega
    rcases h with rfl | rfl | rfl | rfl | rfl | rfl | rfl | rfl <;> decide
  exact h (tSh a1.toNat : Int) rfl (by omega)
theorem m_sizeOf (d : Nat) (a1 : Int) (w : zW) (hr0 : 0 ≤ a1 ∧ a1 ≤ 5460) (Q : zQ) (h : ∀ (v : Int), (v = (tLen a1.toNat : Int)) → (0 ≤ v ∧ v ≤ 6) → Q (some (.int (Int32.ofInt v))) w) : zCl zTab (d + 2) iX12_sizeOf [.int (Int32.ofInt a1)] w 0 0 Q := by
  refine p_sizeOf d _ a1.toNat (nI_oi hr0.1) (by omega) w Q ?_
  have h6 := tLen_le a1.toNat
  exact h (tLen a1.toNat : Int) rfl (by omega)
section MZ
variable {c0 c1 c2 c3 c4 c5 c6 c7 c8 c9 c10 c11 c12 c13 : va_E} {f0 f9 f10 f11 f12 f13 f15 f16 f17 f20 f21 f22 f23 f26 f28 f31 f32 f33 f38 f41 f44 : Int} {x14 : Int64} {g15 g16 g17 g18 g19 g20 g21 g22 g23 g24 g25 g26 g27 g28 g29 g30 g31 g32 g33 g34 g35 g36 g37 g38 g39 g40 g41 g42 g43 g44 : Nat → Int32} {t : zW}
theorem m_apart (d : Nat) (a1 a2 : Int) (hb25 : zB 0 3 g25) (hb26 : zB 0 3 g26) (hr2 : 0 ≤ a1 ∧ a1 ≤ 5460) (hr3 : 0 ≤ a2 ∧ a2 ≤ 5460) (Q : zQ) (h : ∀ (v : Int) (k25 : Nat → Int32) (k26 : Nat → Int32) (k27 : Nat → Int32), zB 0 3 k25 → zB 0 3 k26 → (v = (eD (tW a1.toNat) (tW a2.toNat) (tLen a1.toNat) (tLen a2.toNat) : Int)) → (0 ≤ v ∧ v ≤ 12) → Q (some (.int (Int32.ofInt v))) (zMi c0 c1 c2 c3 c4 c5 c6 c7 c8 c9 c10 c11 c12 c13 f0 f9 f10 f11 f12 f13 f15 f16 f17 f20 f21 f22 f23 f26 f28 f31 f32 f33 f38 f41 f44 x14 g15 g16 g17 g18 g19 g20 g21 g22 g23 g24 k25 k26 k27 g28 g29 g30 g31 g32 g33 g34 g35 g36 g37 g38 g39 g40 g41 g42 g43 g44 t)) : zCl zTab (d + 4) iX12_apart [.ref 14, .int (Int32.ofInt a1), .int (Int32.ofInt a2)] (zMi c0 c1 c2 c3 c4 c5 c6 c7 c8 c9 c10 c11 c12 c13 f0 f9 f10 f11 f12 f13 f15 f16 f17 f20 f21 f22 f23 f26 f28 f31 f32 f33 f38 f41 f44 x14 g15 g16 g17 g18 g19 g20 g21 g22 g23 g24 g25 g26 g27 g28 g29 g30 g31 g32 g33 g34 g35 g36 g37 g38 g39 g40 g41 g42 g43 g44 t) 0 0 Q := by
  refine p_apart d _ _ a1.toNat a2.toNat (nI_oi (by omega)) (by omega) (nI_oi (by omega)) (by omega) Q ?_
  intro fa fb T h1 h2
  have h3 := eD_le (tW a1.toNat) (tW a2.toNat) (tLen a1.toNat) (tLen a2.toNat)
  have h4 := tLen_le a1.toNat
  have h5 := tLen_le a2.toNat
  exact h (eD (tW a1.toNat) (tW a2.toNat) (tLen a1.toNat) (tLen a2.toNat) : Int) fa fb T (h1 hb25) (h2 hb26) rfl (by omega)
theorem m_spell25 (d : Nat) (a1 : Int) (hb25 : zB 0 3 g25) (hr1 : 0 ≤ a1 ∧ a1 ≤ 5460) (Q : zQ) (h : ∀ (k25 : Nat → Int32), zB 0 3 k25 → Q (none) (zMi c0 c1 c2 c3 c4 c5 c6 c7 c8 c9 c10 c11 c12 c13 f0 f9 f10 f11 f12 f13 f15 f16 f17 f20 f21 f22 f23 f26 f28 f31 f32 f33 f38 f41 f44 x14 g15 g16 g17 g18 g19 g20 g21 g22 g23 g24 k25 g26 g27 g28 g29 g30 g31 g32 g33 g34 g35 g36 g37 g38 g39 g40 g41 g42 g43 g44 t)) : zCl zTab (d + 3) iX12_spell [.int (Int32.ofInt a1), .ref 25] (zMi c0 c1 c2 c3 c4 c5 c6 c7 c8 c9 c10 c11 c12 c13 f0 f9 f10 f11 f12 f13 f15 f16 f17 f20 f21 f22 f23 f26 f28 f31 f32 f33 f38 f41 f44 x14 g15 g16 g17 g18 g19 g20 g21 g22 g23 g24 g25 g26 g27 g28 g29 g30 g31 g32 g33 g34 g35 g36 g37 g38 g39 g40 g41 g42 g43 g44 t) 0 0 Q := by
  exact p_spell25 d _ a1.toNat (nI_oi hr1.1) (by omega) Q fun f _ hB => h f (hB hb25)
theorem m_spell26 (d : Nat) (a1 : Int) (hb26 : zB 0 3 g26) (hr1 : 0 ≤ a1 ∧ a1 ≤ 5460) (Q : zQ) (h : ∀ (k26 : Nat → Int32), zB 0 3 k26 → Q (none) (zMi c0 c1 c2 c3 c4 c5 c6 c7 c8 c9 c10 c11 c12 c13 f0 f9 f10 f11 f12 f13 f15 f16 f17 f20 f21 f22 f23 f26 f28 f31 f32 f33 f38 f41 f44 x14 g15 g16 g17 g18 g19 g20 g21 g22 g23 g24 g25 k26 g27 g28 g29 g30 g31 g32 g33 g34 g35 g36 g37 g38 g39 g40 g41 g42 g43 g44 t)) : zCl zTab (d + 3) iX12_spell [.int (Int32.ofInt a1), .ref 26] (zMi c0 c1 c2 c3 c4 c5 c6 c7 c8 c9 c10 c11 c12 c13 f0 f9 f10 f11 f12 f13 f15 f16 f17 f20 f21 f22 f23 f26 f28 f31 f32 f33 f38 f41 f44 x14 g15 g16 g17 g18 g19 g20 g21 g22 g23 g24 g25 g26 g27 g28 g29 g30 g31 g32 g33 g34 g35 g36 g37 g38 g39 g40 g41 g42 g43 g44 t) 0 0 Q := by
  exact p_spell26 d _ a1.toNat (nI_oi hr1.1) (by omega) Q fun f _ hB => h f (hB hb26)
theorem m_ofK (d : Nat) (a1 : Int) (hr0 : bkOK g20) (hr1 : 0 ≤ f20 ∧ f20 ≤ 1) (hr2 : 2 ≤ a1 ∧ a1 ≤ 5) (Q : zQ) (h : ∀ (v : Int), (v = (g20 (51 * f20.toNat + a1.toNat)).toInt) → (0 ≤ v ∧ v ≤ 3) → Q (some (.int (Int32.ofInt v))) (zMi c0 c1 c2 c3 c4 c5 c6 c7 c8 c9 c10 c11 c12 c13 f0 f9 f10 f11 f12 f13 f15 f16 f17 f20 f21 f22 f23 f26 f28 f31 f32 f33 f38 f41 f44 x14 g15 g16 g17 g18 g19 g20 g21 g22 g23 g24 g25 g26 g27 g28 g29 g30 g31 g32 g33 g34 g35 g36 g37 g38 g39 g40 g41 g42 g43 g44 t)) : zCl zTab (d + 1) iX12_of [.ref 14, .int (Int32.ofInt a1)] (zMi c0 c1 c2 c3 c4 c5 c6 c7 c8 c9 c10 c11 c12 c13 f0 f9 f10 f11 f12 f13 f15 f16 f17 f20 f21 f22 f23 f26 f28 f31 f32 f33 f38 f41 f44 x14 g15 g16 g17 g18 g19 g20 g21 g22 g23 g24 g25 g26 g27 g28 g29 g30 g31 g32 g33 g34 g35 g36 g37 g38 g39 g40 g41 g42 g43 g44 t) 0 0 Q := by
  refine zCl_i (M := kX12_of) rfl (Nat.le_of_ble_eq_true rfl) fun R hR => ?_
  iterate 2 refine hR (?_ : R (_, _, _, _, _, _))
  refine hR (t_c 51 (by decide) ?_)
  iterate 2 refine hR (?_ : R (_, _, _, _, _, _))
  refine hR (t_mul ?_)
  refine hR (?_ : R (_, _, _, _, _, _))
  refine hR (t_add ?_)
  refine hR (t_ld (by omega) (by omega) (Nat.le_of_ble_eq_true rfl) fun v1 ev1 => ?_)
  exact hR (zret_i rfl (Nat.le_refl _) trivial (h _ (bk_ix (by omega) (by omega) ev1) (bk_ofK hr0 (by omega) (by omega) (by omega) (by omega) (bk_ix (by omega) (by omega) ev1))))
theorem m_ofM (d : Nat) (a1 : Int) (hr0 : bkOK g20) (hr1 : 0 ≤ f20 ∧ f20 ≤ 1) (hr2 : 6 ≤ a1 ∧ a1 ≤ 10) (Q : zQ) (h : ∀ (v : Int), (v = (g20 (51 * f20.toNat + a1.toNat)).toInt) → (0 ≤ v ∧ v ≤ 4) → Q (some (.int (Int32.ofInt v))) (zMi c0 c1 c2 c3 c4 c5 c6 c7 c8 c9 c10 c11 c12 c13 f0 f9 f10 f11 f12 f13 f15 f16 f17 f20 f21 f22 f23 f26 f28 f31 f32 f33 f38 f41 f44 x14 g15 g16 g17 g18 g19 g20 g21 g22 g23 g24 g25 g26 g27 g28 g29 g30 g31 g32 g33 g34 g35 g36 g37 g38 g39 g40 g41 g42 g43 g44 t)) : zCl zTab (d + 1) iX12_of [.ref 14, .int (Int32.ofInt a1)] (zMi c0 c1 c2 c3 c4 c5 c6 c7 c8 c9 c10 c11 c12 c13 f0 f9 f10 f11 f12 f13 f15 f16 f17 f20 f21 f22 f23 f26 f28 f31 f32 f33 f38 f41 f44 x14 g15 g16 g17 g18 g19 g20 g21 g22 g23 g24 g25 g26 g27 g28 g29 g30 g31 g32 g33 g34 g35 g36 g37 g38 g39 g40 g41 g42 g43 g44 t) 0 0 Q := by
  refine zCl_i (M := kX12_of) rfl (Nat.le_of_ble_eq_true rfl) fun R hR => ?_
  iterate 2 refine hR (?_ : R (_, _, _, _, _, _))
  refine hR (t_c 51 (by decide) ?_)
  iterate 2 refine hR (?_ : R (_, _, _, _, _, _))
  refine hR (t_mul ?_)
  refine hR (?_ : R (_, _, _, _, _, _))
  refine hR (t_add ?_)
  refine hR (t_ld (by omega) (by omega) (Nat.le_of_ble_eq_true rfl) fun v1 ev1 => ?_)
  exact hR (zret_i rfl (Nat.le_refl _) trivial (h _ (bk_ix (by omega) (by omega) ev1) (bk_ofM hr0 (by omega) (by omega) (by omega) (by omega) (bk_ix (by omega) (by omega) ev1))))
theorem m_ofS (d : Nat) (a1 : Int) (hr0 : bkOK g20) (hr1 : 0 ≤ f20 ∧ f20 ≤ 1) (hr2 : 11 ≤ a1 ∧ a1 ≤ 50) (Q : zQ) (h : ∀ (v : Int), (v = (g20 (51 * f20.toNat + a1.toNat)).toInt) → (0 ≤ v ∧ v ≤ 6) → Q (some (.int (Int32.ofInt v))) (zMi c0 c1 c2 c3 c4 c5 c6 c7 c8 c9 c10 c11 c12 c13 f0 f9 f10 f11 f12 f13 f15 f16 f17 f20 f21 f22 f23 f26 f28 f31 f32 f33 f38 f41 f44 x14 g15 g16 g17 g18 g19 g20 g21 g22 g23 g24 g25 g26 g27 g28 g29 g30 g31 g32 g33 g34 g35 g36 g37 g38 g39 g40 g41 g42 g43 g44 t)) : zCl zTab (d + 1) iX12_of [.ref 14, .int (Int32.ofInt a1)] (zMi c0 c1 c2 c3 c4 c5 c6 c7 c8 c9 c10 c11 c12 c13 f0 f9 f10 f11 f12 f13 f15 f16 f17 f20 f21 f22 f23 f26 f28 f31 f32 f33 f38 f41 f44 x14 g15 g16 g17 g18 g19 g20 g21 g22 g23 g24 g25 g26 g27 g28 g29 g30 g31 g32 g33 g34 g35 g36 g37 g38 g39 g40 g41 g42 g43 g44 t) 0 0 Q := by
  refine zCl_i (M := kX12_of) rfl (Nat.le_of_ble_eq_true rfl) fun R hR => ?_
  iterate 2 refine hR (?_ : R (_, _, _, _, _, _))
  refine hR (t_c 51 (by decide) ?_)
  iterate 2 refine hR (?_ : R (_, _, _, _, _, _))
  refine hR (t_mul ?_)
  refine hR (?_ : R (_, _, _, _, _, _))
  refine hR (t_add ?_)
  refine hR (t_ld (by omega) (by omega) (Nat.le_of_ble_eq_true rfl) fun v1 ev1 => ?_)
  exact hR (zret_i rfl (Nat.le_refl _) trivial (h _ (bk_ix (by omega) (by omega) ev1) (bk_ofS hr0 (by omega) (by omega) (by omega) (by omega) (bk_ix (by omega) (by omega) ev1))))
theorem m_of0 (d : Nat) (hr0 : bkOK g20) (hr1 : 0 ≤ f20 ∧ f20 ≤ 1) (Q : zQ) (h : ∀ (v : Int), (v = (g20 (51 * f20.toNat + 0)).toInt) → (0 ≤ v ∧ v ≤ 5460) → Q (some (.int (Int32.ofInt v))) (zMi c0 c1 c2 c3 c4 c5 c6 c7 c8 c9 c10 c11 c12 c13 f0 f9 f10 f11 f12 f13 f15 f16 f17 f20 f21 f22 f23 f26 f28 f31 f32 f33 f38 f41 f44 x14 g15 g16 g17 g18 g19 g20 g21 g22 g23 g24 g25 g26 g27 g28 g29 g30 g31 g32 g33 g34 g35 g36 g37 g38 g39 g40 g41 g42 g43 g44 t)) : zCl zTab (d + 1) iX12_of [.ref 14, .int (Int32.ofInt 0)] (zMi c0 c1 c2 c3 c4 c5 c6 c7 c8 c9 c10 c11 c12 c13 f0 f9 f10 f11 f12 f13 f15 f16 f17 f20 f21 f22 f23 f26 f28 f31 f32 f33 f38 f41 f44 x14 g15 g16 g17 g18 g19 g20 g21 g22 g23 g24 g25 g26 g27 g28 g29 g30 g31 g32 g33 g34 g35 g36 g37 g38 g39 g40 g41 g42 g43 g44 t) 0 0 Q := by
  refine zCl_i (M := kX12_of) rfl (Nat.le_of_ble_eq_true rfl) fun R hR => ?_
  iterate 2 refine hR (?_ : R (_, _, _, _, _, _))
  refine hR (t_c 51 (by decide) ?_)
  iterate 2 refine hR (?_ : R (_, _, _, _, _, _))
  refine hR (t_mul ?_)
  refine hR (?_ : R (_, _, _, _, _, _))
  refine hR (t_add ?_)
  refine hR (t_ld (by omega) (by omega) (Nat.le_of_ble_eq_true rfl) fun v1 ev1 => ?_)
  exact hR (zret_i rfl (Nat.le_refl _) trivial (h _ (bk_ix (a := 0) (by omega) (by omega) ev1) (bk_of0 hr0 (by omega) (by omega) (bk_ix (a := 0) (by omega) (by omega) ev1))))
theorem m_of1 (d : Nat) (hr0 : bkOK g20) (hr1 : 0 ≤ f20 ∧ f20 ≤ 1) (Q : zQ) (h : ∀ (v : Int), (v = (g20 (51 * f20.toNat + 1)).toInt) → (0 ≤ v ∧ v ≤ 5) → Q (some (.int (Int32.ofInt v))) (zMi c0 c1 c2 c3 c4 c5 c6 c7 c8 c9 c10 c11 c12 c13 f0 f9 f10 f11 f12 f13 f15 f16 f17 f20 f21 f22 f23 f26 f28 f31 f32 f33 f38 f41 f44 x14 g15 g16 g17 g18 g19 g20 g21 g22 g23 g24 g25 g26 g27 g28 g29 g30 g31 g32 g33 g34 g35 g36 g37 g38 g39 g40 g41 g42 g43 g44 t)) : zCl zTab (d + 1) iX12_of [.ref 14, .int (Int32.ofInt 1)] (zMi c0 c1 c2 c3 c4 c5 c6 c7 c8 c9 c10 c11 c12 c13 f0 f9 f10 f11 f12 f13 f15 f16 f17 f20 f21 f22 f23 f26 f28 f31 f32 f33 f38 f41 f44 x14 g15 g16 g17 g18 g19 g20 g21 g22 g23 g24 g25 g26 g27 g28 g29 g30 g31 g32 g33 g34 g35 g36 g37 g38 g39 g40 g41 g42 g43 g44 t) 0 0 Q := by
  refine zCl_i (M := kX12_of) rfl (Nat.le_of_ble_eq_true rfl) fun R hR => ?_
  iterate 2 refine hR (?_ : R (_, _, _, _, _, _))
  refine hR (t_c 51 (by decide) ?_)
  iterate 2 refine hR (?_ : R (_, _, _, _, _, _))
  refine hR (t_mul ?_)
  refine hR (?_ : R (_, _, _, _, _, _))
  refine hR (t_add ?_)
  refine hR (t_ld (by omega) (by omega) (Nat.le_of_ble_eq_true rfl) fun v1 ev1 => ?_)
  exact hR (zret_i rfl (Nat.le_refl _) trivial (h _ (bk_ix (a := 1) (by omega) (by omega) ev1) (bk_of1 hr0 (by omega) (by omega) (bk_ix (a := 1) (by omega) (by omega) ev1))))
theorem m_hand (d : Nat) (a1 : Int) (hb19 : zB 0 2 g19) (hr1 : bkOK g20) (hr2 : -2147483648 ≤ a1 ∧ a1 ≤ 2147483647) (Q : zQ) (h : ∀ (v : Int) (y20 : Int) (y22 : Int) (y23 : Int), ((v = 1 ∧ 0 ≤ a1 ∧ a1 ≤ 1 ∧ a1 < (g19 0).toInt ∧ y20 = a1 ∧ 0 ≤ y22 ∧ y22 ≤ 5460 ∧ 0 ≤ y23 ∧ y23 ≤ 5) ∨ (v = 0 ∧ (a1 < 0 ∨ (g19 0).toInt ≤ a1))) → Q (some (.int (Int32.ofInt v))) (zMi c0 c1 c2 c3 c4 c5 c6 c7 c8 c9 c10 c11 c12 c13 f0 f9 f10 f11 f12 f13 f15 f16 f17 y20 f21 y22 y23 f26 f28 f31 f32 f33 f38 f41 f44 x14 g15 g16 g17 g18 g19 g20 g21 g22 g23 g24 g25 g26 g27 g28 g29 g30 g31 g32 g33 g34 g35 g36 g37 g38 g39 g40 g41 g42 g43 g44 t)) : zCl zTab (d + 3) iX12_hand [.ref 14, .int (Int32.ofInt a1)] (zMi c0 c1 c2 c3 c4 c5 c6 c7 c8 c9 c10 c11 c12 c13 f0 f9 f10 f11 f12 f13 f15 f16 f17 f20 f21 f22 f23 f26 f28 f31 f32 f33 f38 f41 f44 x14 g15 g16 g17 g18 g19 g20 g21 g22 g23 g24 g25 g26 g27 g28 g29 g30 g31 g32 g33 g34 g35 g36 g37 g38 g39 g40 g41 g42 g43 g44 t) 0 0 Q := by
  refine zCl_i (M := kX12_hand) rfl (Nat.le_of_ble_eq_true rfl) fun R hR => ?_
  iterate 3 refine hR (?_ : R (_, _, _, _, _, _))
  refine hR (zcall_i 0 0 (Nat.le_of_ble_eq_true rfl) (Nat.le_of_ble_eq_true rfl) (m_is _ 0 a1 hb19 (by omega) (by omega) _ fun v1 hp2 => ?_))
  refine (?_ : R (_, _, (.int (Int32.ofInt v1)) :: [], (zMi c0 c1 c2 c3 c4 c5 c6 c7 c8 c9 c10 c11 c12 c13 f0 f9 f10 f11 f12 f13 f15 f16 f17 f20 f21 f22 f23 f26 f28 f31 f32 f33 f38 f41 f44 x14 g15 g16 g17 g18 g19 g20 g21 g22 g23 g24 g25 g26 g27 g28 g29 g30 g31 g32 g33 g34 g35 g36 g37 g38 g39 g40 g41 g42 g43 g44 t), 0, 0))
  have hp2x : (v1 = 1 ∧ 0 ≤ a1 ∧ a1 < (g19 0).toInt ∧ a1 ≤ 1) ∨ (v1 = 0 ∧ (a1 < 0 ∨ (g19 0).toInt ≤ a1)) := hp2
  refine hR (k_ne (by omega) (fun hc3 => ?_) (fun hc3 => ?_))
  rotate_left
  · skip
    refine hR (?_ : R (_, _, _, _, _, _))
    exact hR (zret_i rfl (Nat.le_refl _) (zbo (by omega)) (h _ _ _ _ (by omega)))
  iterate 2 refine hR (?_ : R (_, _, _, _, _, _))
  refine hR (?_ : R (_, _, _, (zMi c0 c1 c2 c3 c4 c5 c6 c7 c8 c9 c10 c11 c12 c13 f0 f9 f10 f11 f12 f13 f15 f16 f17 a1 f21 f22 f23 f26 f28 f31 f32 f33 f38 f41 f44 x14 g15 g16 g17 g18 g19 g20 g21 g22 g23 g24 g25 g26 g27 g28 g29 g30 g31 g32 g33 g34 g35 g36 g37 g38 g39 g40 g41 g42 g43 g44 t), _, _))
  iterate 3 refine hR (?_ : R (_, _, _, _, _, _))
  refine hR (zcall_i 0 0 (Nat.le_of_ble_eq_true rfl) (Nat.le_of_ble_eq_true rfl) (m_of0 _ hr1 (by omega) _ fun v4 hp5 hp6 => ?_))
  refine (?_ : R (_, _, (.int (Int32.ofInt v4)) :: (.ref 14) :: [], (zMi c0 c1 c2 c3 c4 c5 c6 c7 c8 c9 c10 c11 c12 c13 f0 f9 f10 f11 f12 f13 f15 f16 f17 a1 f21 f22 f23 f26 f28 f31 f32 f33 f38 f41 f44 x14 g15 g16 g17 g18 g19 g20 g21 g22 g23 g24 g25 g26 g27 g28 g29 g30 g31 g32 g33 g34 g35 g36 g37 g38 g39 g40 g41 g42 g43 g44 t), 0, 0))
  refine hR (?_ : R (_, _, _, (zMi c0 c1 c2 c3 c4 c5 c6 c7 c8 c9 c10 c11 c12 c13 f0 f9 f10 f11 f12 f13 f15 f16 f17 a1 f21 v4 f23 f26 f28 f31 f32 f33 f38 f41 f44 x14 g15 g16 g17 g18 g19 g20 g21 g22 g23 g24 g25 g26 g27 g28 g29 g30 g31 g32 g33 g34 g35 g36 g37 g38 g39 g40 g41 g42 g43 g44 t), _, _))
  iterate 3 refine hR (?_ : R (_, _, _, _, _, _))
  refine hR (zcall_i 0 0 (Nat.le_of_ble_eq_true rfl) (Nat.le_of_ble_eq_true rfl) (m_of1 _ hr1 (by omega) _ fun v7 hp8 hp9 => ?_))
  refine (?_ : R (_, _, (.int (Int32.ofInt v7)) :: (.ref 14) :: [], (zMi c0 c1 c2 c3 c4 c5 c6 c7 c8 c9 c10 c11 c12 c13 f0 f9 f10 f11 f12 f13 f15 f16 f17 a1 f21 v4 f23 f26 f28 f31 f32 f33 f38 f41 f44 x14 g15 g16 g17 g18 g19 g20 g21 g22 g23 g24 g25 g26 g27 g28 g29 g30 g31 g32 g33 g34 g35 g36 g37 g38 g39 g40 g41 g42 g43 g44 t), 0, 0))
  refine hR (?_ : R (_, _, _, (zMi c0 c1 c2 c3 c4 c5 c6 c7 c8 c9 c10 c11 c12 c13 f0 f9 f10 f11 f12 f13 f15 f16 f17 a1 f21 v4 v7 f26 f28 f31 f32 f33 f38 f41 f44 x14 g15 g16 g17 g18 g19 g20 g21 g22 g23 g24 g25 g26 g27 g28 g29 g30 g31 g32 g33 g34 g35 g36 g37 g38 g39 g40 g41 g42 g43 g44 t), _, _))
  refine hR (?_ : R (_, _, _, _, _, _))
  exact hR (zret_i rfl (Nat.le_refl _) (zbo (by omega)) (h _ _ _ _ (by omega)))
theorem m_numberOf (d : Nat) (a1 : Int) (hb25 : zB 0 3 g25) (hr1 : 0 ≤ a1 ∧ a1 ≤ 6) (Q : zQ) (h : ∀ (v : Int), (0 ≤ v ∧ v ≤ 5460) → Q (some (.int (Int32.ofInt v))) (zMi c0 c1 c2 c3 c4 c5 c6 c7 c8 c9 c10 c11 c12 c13 f0 f9 f10 f11 f12 f13 f15 f16 f17 f20 f21 f22 f23 f26 f28 f31 f32 f33 f38 f41 f44 x14 g15 g16 g17 g18 g19 g20 g21 g22 g23 g24 g25 g26 g27 g28 g29 g30 g31 g32 g33 g34 g35 g36 g37 g38 g39 g40 g41 g42 g43 g44 t)) : zCl zTab (d + 2) iX12_numberOf [.ref 14, .int (Int32.ofInt a1)] (zMi c0 c1 c2 c3 c4 c5 c6 c7 c8 c9 c10 c11 c12 c13 f0 f9 f10 f11 f12 f13 f15 f16 f17 f20 f21 f22 f23 f26 f28 f31 f32 f33 f38 f41 f44 x14 g15 g16 g17 g18 g19 g20 g21 g22 g23 g24 g25 g26 g27 g28 g29 g30 g31 g32 g33 g34 g35 g36 g37 g38 g39 g40 g41 g42 g43 g44 t) 0 0 Q := by
  refine zCl_i (M := kX12_numberOf) rfl (Nat.le_of_ble_eq_true rfl) fun R hR => ?_
  iterate 4 refine hR (?_ : R (_, _, _, _, _, _))
  have lp4 : ∀ (N : Nat) (fg : Int) (i : Int), (0 ≤ fg ∧ fg ≤ 100000) → (0 ≤ i ∧ i ≤ a1) → (fg < 4 ^ i.toNat) → (a1 - i < N) → R (4, [some (.ref 14), some (.int (Int32.ofInt a1)), some (.int (Int32.ofInt fg)), some (.int (Int32.ofInt i))], [], (zMi c0 c1 c2 c3 c4 c5 c6 c7 c8 c9 c10 c11 c12 c13 f0 f9 f10 f11 f12 f13 f15 f16 f17 f20 f21 f22 f23 f26 f28 f31 f32 f33 f38 f41 f44 x14 g15 g16 g17 g18 g19 g20 g21 g22 g23 g24 g25 g26 g27 g28 g29 g30 g31 g32 g33 g34 g35 g36 g37 g38 g39 g40 g41 g42 g43 g44 t), 0, 0) := by
    intro N
    induction N with
    | zero => intros; omega
    | succ N ih4 =>
      intro fg i hf0_4 hf1_4 hp0_4 hN4
      iterate 2 refine hR (?_ : R (_, _, _, _, _, _))
      refine hR (j_ge (by omega) (by omega) (fun hc1 => ?_) (fun hc1 => ?_))
      · skip
        refine hR (?_ : R (_, _, _, _, _, _))
        refine hR (zcall_i 0 0 (Nat.le_of_ble_eq_true rfl) (Nat.le_of_ble_eq_true rfl) (m_shorter _ a1 _ (by omega) _ fun v2 hp3 hp4 => ?_))
        refine (?_ : R (_, _, (.int (Int32.ofInt v2)) :: [], (zMi c0 c1 c2 c3 c4 c5 c6 c7 c8 c9 c10 c11 c12 c13 f0 f9 f10 f11 f12 f13 f15 f16 f17 f20 f21 f22 f23 f26 f28 f31 f32 f33 f38 f41 f44 x14 g15 g16 g17 g18 g19 g20 g21 g22 g23 g24 g25 g26 g27 g28 g29 g30 g31 g32 g33 g34 g35 g36 g37 g38 g39 g40 g41 g42 g43 g44 t), 0, 0))
        have hz1 := tSh_b (i := a1) (by omega) (by omega)
        have hz2 := zp4_e hp0_4 (show i = a1 by omega)
        refine hR (?_ : R (_, _, _, _, _, _))
        refine hR (t_add ?_)
        exact hR (zret_i rfl (Nat.le_refl _) trivial (h _ (by omega)))
      have hz0 := zp4_b (i := i) (by omega) (by omega)
      iterate 2 refine hR (?_ : R (_, _, _, _, _, _))
      refine hR (t_mul ?_)
      iterate 3 refine hR (?_ : R (_, _, _, _, _, _))
      refine hR (t_ldB hb25 (by omega) (by omega) (Nat.le_of_ble_eq_true rfl) fun v5 ev5 lv5 uv5 => ?_)
      clear ev5
      refine hR (t_add ?_)
      refine hR (?_ : R (_, _, _, _, _, _))
      refine hR (t_inc ?_)
      refine hR (?_ : R (_, _, _, _, _, _))
      exact ih4 _ _ (by omega) (by omega) (zp4_s (by omega) hp0_4 (by omega)) (by omega)
  exact lp4 400000000 _ _ (by omega) (by omega) (by decide) (by omega)
theorem m_swap (d : Nat) (a1 a2 : Int) (hb25 : zB 0 3 g25) (hr1 : 0 ≤ a1 ∧ a1 ≤ 6) (hr2 : 0 ≤ a2 ∧ a2 ≤ 6) (Q : zQ) (h : ∀ (k25 : Nat → Int32), zB 0 3 k25 → Q (none) (zMi c0 c1 c2 c3 c4 c5 c6 c7 c8 c9 c10 c11 c12 c13 f0 f9 f10 f11 f12 f13 f15 f16 f17 f20 f21 f22 f23 f26 f28 f31 f32 f33 f38 f41 f44 x14 g15 g16 g17 g18 g19 g20 g21 g22 g23 g24 k25 g26 g27 g28 g29 g30 g31 g32 g33 g34 g35 g36 g37 g38 g39 g40 g41 g42 g43 g44 t)) : zCl zTab (d + 1) iX12_swap [.ref 14, .int (Int32.ofInt a1), .int (Int32.ofInt a2)] (zMi c0 c1 c2 c3 c4 c5 c6 c7 c8 c9 c10 c11 c12 c13 f0 f9 f10 f11 f12 f13 f15 f16 f17 f20 f21 f22 f23 f26 f28 f31 f32 f33 f38 f41 f44 x14 g15 g16 g17 g18 g19 g20 g21 g22 g23 g24 g25 g26 g27 g28 g29 g30 g31 g32 g33 g34 g35 g36 g37 g38 g39 g40 g41 g42 g43 g44 t) 0 0 Q := by
  refine zCl_i (M := kX12_swap) rfl (Nat.le_of_ble_eq_true rfl) fun R hR => ?_
  iterate 3 refine hR (?_ : R (_, _, _, _, _, _))
  refine hR (t_ldB hb25 (by omega) (by omega) (Nat.le_of_ble_eq_true rfl) fun v1 ev1 lv1 uv1 => ?_)
  clear ev1
  iterate 7 refine hR (?_ : R (_, _, _, _, _, _))
  refine hR (t_ldB hb25 (by omega) (by omega) (Nat.le_of_ble_eq_true rfl) fun v2 ev2 lv2 uv2 => ?_)
  clear ev2
  refine hR (t_stB hb25 (by omega) (by omega) (by omega) (by omega) (by omega) (by omega) (Nat.le_of_ble_eq_true rfl) fun k25_3 hk25_3 => (?_ : R (_, _, _, (zMi c0 c1 c2 c3 c4 c5 c6 c7 c8 c9 c10 c11 c12 c13 f0 f9 f10 f11 f12 f13 f15 f16 f17 f20 f21 f22 f23 f26 f28 f31 f32 f33 f38 f41 f44 x14 g15 g16 g17 g18 g19 g20 g21 g22 g23 g24 k25_3 g26 g27 g28 g29 g30 g31 g32 g33 g34 g35 g36 g37 g38 g39 g40 g41 g42 g43 g44 t), _, _)))
  iterate 4 refine hR (?_ : R (_, _, _, _, _, _))
  refine hR (t_stB hk25_3 (by omega) (by omega) (by omega) (by omega) (by omega) (by omega) (Nat.le_of_ble_eq_true rfl) fun k25_4 hk25_4 => (?_ : R (_, _, _, (zMi c0 c1 c2 c3 c4 c5 c6 c7 c8 c9 c10 c11 c12 c13 f0 f9 f10 f11 f12 f13 f15 f16 f17 f20 f21 f22 f23 f26 f28 f31 f32 f33 f38 f41 f44 x14 g15 g16 g17 g18 g19 g20 g21 g22 g23 g24 k25_4 g26 g27 g28 g29 g30 g31 g32 g33 g34 g35 g36 g37 g38 g39 g40 g41 g42 g43 g44 t), _, _)))
  exact hR (zret_i rfl (Nat.le_refl _) rfl (h _ hk25_4))
theorem m_shift (d : Nat) (a1 : Int) (hb25 : zB 0 3 g25) (hr1 : bkOK g20) (hr2 : 0 ≤ f20 ∧ f20 ≤ 1) (hr3 : 0 ≤ a1 ∧ a1 ≤ 3) (hr4 : 0 ≤ f26 ∧ f26 ≤ 6) (Q : zQ) (h : ∀ (k25 : Nat → Int32), zB 0 3 k25 → Q (none) (zMi c0 c1 c2 c3 c4 c5 c6 c7 c8 c9 c10 c11 c12 c13 f0 f9 f10 f11 f12 f13 f15 f16 f17 f20 f21 f22 f23 f26 f28 f31 f32 f33 f38 f41 f44 x14 g15 g16 g17 g18 g19 g20 g21 g22 g23 g24 k25 g26 g27 g28 g29 g30 g31 g32 g33 g34 g35 g36 g37 g38 g39 g40 g41 g42 g43 g44 t)) : zCl zTab (d + 2) iX12_shift [.ref 14, .int (Int32.ofInt a1)] (zMi c0 c1 c2 c3 c4 c5 c6 c7 c8 c9 c10 c11 c12 c13 f0 f9 f10 f11 f12 f13 f15 f16 f17 f20 f21 f22 f23 f26 f28 f31 f32 f33 f38 f41 f44 x14 g15 g16 g17 g18 g19 g20 g21 g22 g23 g24 g25 g26 g27 g28 g29 g30 g31 g32 g33 g34 g35 g36 g37 g38 g39 g40 g41 g42 g43 g44 t) 0 0 Q := by
  refine zCl_i (M := kX12_shift) rfl (Nat.le_of_ble_eq_true rfl) fun R hR => ?_
  iterate 2 refine hR (?_ : R (_, _, _, _, _, _))
  have lp2 : ∀ (N : Nat) (i : Int) (q25_2 : Nat → Int32), (0 ≤ i ∧ i ≤ f26) → (zB 0 3 q25_2) → (f26 - i < N) → R (2, [some (.ref 14), some (.int (Int32.ofInt a1)), some (.int (Int32.ofInt i))], [], (zMi c0 c1 c2 c3 c4 c5 c6 c7 c8 c9 c10 c11 c12 c13 f0 f9 f10 f11 f12 f13 f15 f16 f17 f20 f21 f22 f23 f26 f28 f31 f32 f33 f38 f41 f44 x14 g15 g16 g17 g18 g19 g20 g21 g22 g23 g24 q25_2 g26 g27 g28 g29 g30 g31 g32 g33 g34 g35 g36 g37 g38 g39 g40 g41 g42 g43 g44 t), 0, 0) := by
    intro N
    induction N with
    | zero => intros; omega
    | succ N ih2 =>
      intro i q25_2 hf0_2 hq25_2 hN2
      iterate 3 refine hR (?_ : R (_, _, _, _, _, _))
      refine hR (j_ge (by omega) (by omega) (fun hc1 => ?_) (fun hc1 => ?_))
      · skip
        exact hR (zret_i rfl (Nat.le_refl _) rfl (h _ hq25_2))
      iterate 6 refine hR (?_ : R (_, _, _, _, _, _))
      refine hR (t_ldB hq25_2 (by omega) (by omega) (Nat.le_of_ble_eq_true rfl) fun v2 ev2 lv2 uv2 => ?_)
      clear ev2
      refine hR (?_ : R (_, _, _, _, _, _))
      refine hR (j_ne (by omega) (by omega) (fun hc3 => ?_) (fun hc3 => ?_))
      · skip
        iterate 3 refine hR (?_ : R (_, _, _, _, _, _))
        refine hR (t_ldB hq25_2 (by omega) (by omega) (Nat.le_of_ble_eq_true rfl) fun v4 ev4 lv4 uv4 => ?_)
        clear ev4
        refine hR (t_stB hq25_2 (by omega) (by omega) (by omega) (by omega) (by omega) (by omega) (Nat.le_of_ble_eq_true rfl) fun k25_5 hk25_5 => (?_ : R (_, _, _, (zMi c0 c1 c2 c3 c4 c5 c6 c7 c8 c9 c10 c11 c12 c13 f0 f9 f10 f11 f12 f13 f15 f16 f17 f20 f21 f22 f23 f26 f28 f31 f32 f33 f38 f41 f44 x14 g15 g16 g17 g18 g19 g20 g21 g22 g23 g24 k25_5 g26 g27 g28 g29 g30 g31 g32 g33 g34 g35 g36 g37 g38 g39 g40 g41 g42 g43 g44 t), _, _)))
        refine hR (t_inc ?_)
        refine hR (?_ : R (_, _, _, _, _, _))
        exact ih2 _ _ (by omega) hk25_5 (by omega)
      iterate 3 refine hR (?_ : R (_, _, _, _, _, _))
      refine hR (t_add ?_)
      refine hR (zcall_i 0 0 (Nat.le_of_ble_eq_true rfl) (Nat.le_of_ble_eq_true rfl) (m_ofK _ (2 + a1) hr1 (by omega) (by omega) _ fun v6 hp7 hp8 => ?_))
      refine (?_ : R (_, _, (.int (Int32.ofInt v6)) :: (.int (Int32.ofInt i)) :: (.ref 25) :: [], (zMi c0 c1 c2 c3 c4 c5 c6 c7 c8 c9 c10 c11 c12 c13 f0 f9 f10 f11 f12 f13 f15 f16 f17 f20 f21 f22 f23 f26 f28 f31 f32 f33 f38 f41 f44 x14 g15 g16 g17 g18 g19 g20 g21 g22 g23 g24 q25_2 g26 g27 g28 g29 g30 g31 g32 g33 g34 g35 g36 g37 g38 g39 g40 g41 g42 g43 g44 t), 0, 0))
      refine hR (?_ : R (_, _, _, _, _, _))
      refine hR (t_stB hq25_2 (by omega) (by omega) (by omega) (by omega) (by omega) (by omega) (Nat.le_of_ble_eq_true rfl) fun k25_9 hk25_9 => (?_ : R (_, _, _, (zMi c0 c1 c2 c3 c4 c5 c6 c7 c8 c9 c10 c11 c12 c13 f0 f9 f10 f11 f12 f13 f15 f16 f17 f20 f21 f22 f23 f26 f28 f31 f32 f33 f38 f41 f44 x14 g15 g16 g17 g18 g19 g20 g21 g22 g23 g24 k25_9 g26 g27 g28 g29 g30 g31 g32 g33 g34 g35 g36 g37 g38 g39 g40 g41 g42 g43 g44 t), _, _)))
      refine hR (t_inc ?_)
      refine hR (?_ : R (_, _, _, _, _, _))
      exact ih2 _ _ (by omega) hk25_9 (by omega)
  exact lp2 400000000 _ _ (by omega) hb25 (by omega)
theorem m_drop (d : Nat) (a1 : Int) (hb25 : zB 0 3 g25) (hr1 : 1 ≤ a1 ∧ a1 ≤ 6) (hr2 : 0 ≤ f26 ∧ f26 ≤ 6) (Q : zQ) (h : ∀ (y26 : Int) (k25 : Nat → Int32), zB 0 3 k25 → (0 ≤ y26 ∧ y26 ≤ 6) → Q (none) (zMi c0 c1 c2 c3 c4 c5 c6 c7 c8 c9 c10 c11 c12 c13 f0 f9 f10 f11 f12 f13 f15 f16 f17 f20 f21 f22 f23 y26 f28 f31 f32 f33 f38 f41 f44 x14 g15 g16 g17 g18 g19 g20 g21 g22 g23 g24 k25 g26 g27 g28 g29 g30 g31 g32 g33 g34 g35 g36 g37 g38 g39 g40 g41 g42 g43 g44 t)) : zCl zTab (d + 1) iX12_drop [.ref 14, .int (Int32.ofInt a1)] (zMi c0 c1 c2 c3 c4 c5 c6 c7 c8 c9 c10 c11 c12 c13 f0 f9 f10 f11 f12 f13 f15 f16 f17 f20 f21 f22 f23 f26 f28 f31 f32 f33 f38 f41 f44 x14 g15 g16 g17 g18 g19 g20 g21 g22 g23 g24 g25 g26 g27 g28 g29 g30 g31 g32 g33 g34 g35 g36 g37 g38 g39 g40 g41 g42 g43 g44 t) 0 0 Q := by
  refine zCl_i (M := kX12_drop) rfl (Nat.le_of_ble_eq_true rfl) fun R hR => ?_
  iterate 3 refine hR (?_ : R (_, _, _, _, _, _))
  refine hR (j_gt (by omega) (by omega) (fun hc1 => ?_) (fun hc1 => ?_))
  · skip
    exact hR (zret_i rfl (Nat.le_refl _) rfl (h _ _ hb25 (by omega)))
  iterate 2 refine hR (?_ : R (_, _, _, _, _, _))
  have lp10 : ∀ (N : Nat) (i : Int) (q25_10 : Nat → Int32), (a1 ≤ i ∧ i ≤ f26) → (zB 0 3 q25_10) → (f26 - i < N) → R (10, [some (.ref 14), some (.int (Int32.ofInt a1)), some (.int (Int32.ofInt i))], [], (zMi c0 c1 c2 c3 c4 c5 c6 c7 c8 c9 c10 c11 c12 c13 f0 f9 f10 f11 f12 f13 f15 f16 f17 f20 f21 f22 f23 f26 f28 f31 f32 f33 f38 f41 f44 x14 g15 g16 g17 g18 g19 g20 g21 g22 g23 g24 q25_10 g26 g27 g28 g29 g30 g31 g32 g33 g34 g35 g36 g37 g38 g39 g40 g41 g42 g43 g44 t), 0, 0) := by
    intro N
    induction N with
    | zero => intros; omega
    | succ N ih10 =>
      intro i q25_10 hf0_10 hq25_10 hN10
      iterate 3 refine hR (?_ : R (_, _, _, _, _, _))
      refine hR (j_ge (by omega) (by omega) (fun hc2 => ?_) (fun hc2 => ?_))
      · skip
        iterate 4 refine hR (?_ : R (_, _, _, _, _, _))
        refine hR (t_sub ?_)
        refine hR (?_ : R (_, _, _, (zMi c0 c1 c2 c3 c4 c5 c6 c7 c8 c9 c10 c11 c12 c13 f0 f9 f10 f11 f12 f13 f15 f16 f17 f20 f21 f22 f23 (f26 - 1) f28 f31 f32 f33 f38 f41 f44 x14 g15 g16 g17 g18 g19 g20 g21 g22 g23 g24 q25_10 g26 g27 g28 g29 g30 g31 g32 g33 g34 g35 g36 g37 g38 g39 g40 g41 g42 g43 g44 t), _, _))
        exact hR (zret_i rfl (Nat.le_refl _) rfl (h _ _ hq25_10 (by omega)))
      iterate 4 refine hR (?_ : R (_, _, _, _, _, _))
      refine hR (t_sub ?_)
      iterate 3 refine hR (?_ : R (_, _, _, _, _, _))
      refine hR (t_ldB hq25_10 (by omega) (by omega) (Nat.le_of_ble_eq_true rfl) fun v3 ev3 lv3 uv3 => ?_)
      clear ev3
      refine hR (t_stB hq25_10 (by omega) (by omega) (by omega) (by omega) (by omega) (by omega) (Nat.le_of_ble_eq_true rfl) fun k25_4 hk25_4 => (?_ : R (_, _, _, (zMi c0 c1 c2 c3 c4 c5 c6 c7 c8 c9 c10 c11 c12 c13 f0 f9 f10 f11 f12 f13 f15 f16 f17 f20 f21 f22 f23 f26 f28 f31 f32 f33 f38 f41 f44 x14 g15 g16 g17 g18 g19 g20 g21 g22 g23 g24 k25_4 g26 g27 g28 g29 g30 g31 g32 g33 g34 g35 g36 g37 g38 g39 g40 g41 g42 g43 g44 t), _, _)))
      refine hR (t_inc ?_)
      refine hR (?_ : R (_, _, _, _, _, _))
      exact ih10 _ _ (by omega) hk25_4 (by omega)
  exact lp10 400000000 _ _ (by omega) hb25 (by omega)
theorem m_twice (d : Nat) (a1 : Int) (hb25 : zB 0 3 g25) (hr1 : 1 ≤ a1 ∧ a1 ≤ 6) (hr2 : 0 ≤ f26 ∧ f26 ≤ 6) (Q : zQ) (h : ∀ (y26 : Int) (k25 : Nat → Int32), zB 0 3 k25 → (0 ≤ y26 ∧ y26 ≤ 6) → Q (none) (zMi c0 c1 c2 c3 c4 c5 c6 c7 c8 c9 c10 c11 c12 c13 f0 f9 f10 f11 f12 f13 f15 f16 f17 f20 f21 f22 f23 y26 f28 f31 f32 f33 f38 f41 f44 x14 g15 g16 g17 g18 g19 g20 g21 g22 g23 g24 k25 g26 g27 g28 g29 g30 g31 g32 g33 g34 g35 g36 g37 g38 g39 g40 g41 g42 g43 g44 t)) : zCl zTab (d + 1) iX12_twice [.ref 14, .int (Int32.ofInt a1)] (zMi c0 c1 c2 c3 c4 c5 c6 c7 c8 c9 c10 c11 c12 c13 f0 f9 f10 f11 f12 f13 f15 f16 f17 f20 f21 f22 f23 f26 f28 f31 f32 f33 f38 f41 f44 x14 g15 g16 g17 g18 g19 g20 g21 g22 g23 g24 g25 g26 g27 g28 g29 g30 g31 g32 g33 g34 g35 g36 g37 g38 g39 g40 g41 g42 g43 g44 t) 0 0 Q := by
  refine zCl_i (M := kX12_twice) rfl (Nat.le_of_ble_eq_true rfl) fun R hR => ?_
  iterate 3 refine hR (?_ : R (_, _, _, _, _, _))
  refine hR (j_gt (by omega) (by omega) (fun hc1 => ?_) (fun hc1 => ?_))
  · skip
    exact hR (zret_i rfl (Nat.le_refl _) rfl (h _ _ hb25 (by omega)))
  iterate 2 refine hR (?_ : R (_, _, _, _, _, _))
  refine hR (t_c 6 (by decide) ?_)
  refine hR (j_ge (by omega) (by omega) (fun hc2 => ?_) (fun hc2 => ?_))
  · skip
    exact hR (zret_i rfl (Nat.le_refl _) rfl (h _ _ hb25 (by omega)))
  iterate 3 refine hR (?_ : R (_, _, _, _, _, _))
  have lp22 : ∀ (N : Nat) (i : Int) (q25_22 : Nat → Int32), (0 ≤ i ∧ i ≤ f26) → (zB 0 3 q25_22) → (i < N) → R (22, [some (.ref 14), some (.int (Int32.ofInt a1)), some (.int (Int32.ofInt i))], [], (zMi c0 c1 c2 c3 c4 c5 c6 c7 c8 c9 c10 c11 c12 c13 f0 f9 f10 f11 f12 f13 f15 f16 f17 f20 f21 f22 f23 f26 f28 f31 f32 f33 f38 f41 f44 x14 g15 g16 g17 g18 g19 g20 g21 g22 g23 g24 q25_22 g26 g27 g28 g29 g30 g31 g32 g33 g34 g35 g36 g37 g38 g39 g40 g41 g42 g43 g44 t), 0, 0) := by
    intro N
    induction N with
    | zero => intros; omega
    | succ N ih22 =>
      intro i q25_22 hf0_22 hq25_22 hN22
      iterate 2 refine hR (?_ : R (_, _, _, _, _, _))
      refine hR (j_lt (by omega) (by omega) (fun hc3 => ?_) (fun hc3 => ?_))
      · skip
        iterate 4 refine hR (?_ : R (_, _, _, _, _, _))
        refine hR (t_add ?_)
        refine hR (?_ : R (_, _, _, (zMi c0 c1 c2 c3 c4 c5 c6 c7 c8 c9 c10 c11 c12 c13 f0 f9 f10 f11 f12 f13 f15 f16 f17 f20 f21 f22 f23 (f26 + 1) f28 f31 f32 f33 f38 f41 f44 x14 g15 g16 g17 g18 g19 g20 g21 g22 g23 g24 q25_22 g26 g27 g28 g29 g30 g31 g32 g33 g34 g35 g36 g37 g38 g39 g40 g41 g42 g43 g44 t), _, _))
        exact hR (zret_i rfl (Nat.le_refl _) rfl (h _ _ hq25_22 (by omega)))
      iterate 7 refine hR (?_ : R (_, _, _, _, _, _))
      refine hR (t_sub ?_)
      refine hR (t_ldB hq25_22 (by omega) (by omega) (Nat.le_of_ble_eq_true rfl) fun v4 ev4 lv4 uv4 => ?_)
      clear ev4
      refine hR (t_stB hq25_22 (by omega) (by omega) (by omega) (by omega) (by omega) (by omega) (Nat.le_of_ble_eq_true rfl) fun k25_5 hk25_5 => (?_ : R (_, _, _, (zMi c0 c1 c2 c3 c4 c5 c6 c7 c8 c9 c10 c11 c12 c13 f0 f9 f10 f11 f12 f13 f15 f16 f17 f20 f21 f22 f23 f26 f28 f31 f32 f33 f38 f41 f44 x14 g15 g16 g17 g18 g19 g20 g21 g22 g23 g24 k25_5 g26 g27 g28 g29 g30 g31 g32 g33 g34 g35 g36 g37 g38 g39 g40 g41 g42 g43 g44 t), _, _)))
      refine hR (t_inc ?_)
      refine hR (?_ : R (_, _, _, _, _, _))
      exact ih22 _ _ (by omega) hk25_5 (by omega)
  exact lp22 400000000 _ _ (by omega) hb25 (by omega)
theorem m_step (d : Nat) (a1 a2 : Int) (hb25 : zB 0 3 g25) (hr1 : bkOK g20) (hr2 : 0 ≤ f20 ∧ f20 ≤ 1) (hr3 : 0 ≤ a1 ∧ a1 ≤ 4) (hr4 : 0 ≤ a2 ∧ a2 ≤ 6 ∧ (a1 = 0 → a2 ≤ 3) ∧ (1 ≤ a1 → a1 ≤ 3 → 1 ≤ a2)) (hr5 : 0 ≤ f26 ∧ f26 ≤ 6) (Q : zQ) (h : ∀ (y26 : Int) (k25 : Nat → Int32), zB 0 3 k25 → (0 ≤ y26 ∧ y26 ≤ 6) → Q (none) (zMi c0 c1 c2 c3 c4 c5 c6 c7 c8 c9 c10 c11 c12 c13 f0 f9 f10 f11 f12 f13 f15 f16 f17 f20 f21 f22 f23 y26 f28 f31 f32 f33 f38 f41 f44 x14 g15 g16 g17 g18 g19 g20 g21 g22 g23 g24 k25 g26 g27 g28 g29 g30 g31 g32 g33 g34 g35 g36 g37 g38 g39 g40 g41 g42 g43 g44 t)) : zCl zTab (d + 3) iX12_step [.ref 14, .int (Int32.ofInt a1), .int (Int32.ofInt a2)] (zMi c0 c1 c2 c3 c4 c5 c6 c7 c8 c9 c10 c11 c12 c13 f0 f9 f10 f11 f12 f13 f15 f16 f17 f20 f21 f22 f23 f26 f28 f31 f32 f33 f38 f41 f44 x14 g15 g16 g17 g18 g19 g20 g21 g22 g23 g24 g25 g26 g27 g28 g29 g30 g31 g32 g33 g34 g35 g36 g37 g38 g39 g40 g41 g42 g43 g44 t) 0 0 Q := by
  refine zCl_i (M := kX12_step) rfl (Nat.le_of_ble_eq_true rfl) fun R hR => ?_
  refine hR (?_ : R (_, _, _, _, _, _))
  refine hR (?_ : _ ∧ _)
  rw [zti (e := a1) (by omega) (by omega)]
  refine ⟨fun hs1 => ?_, fun hs1 => ?_⟩
  · skip
    iterate 5 refine hR (?_ : R (_, _, _, _, _, _))
    refine hR (t_sub ?_)
    refine hR (?_ : R (_, _, _, _, _, _))
    have lp77 : ∀ (N : Nat) (i : Int) (j : Int) (q25_77 : Nat → Int32), (0 ≤ i ∧ i ≤ 6) → (-1 ≤ j ∧ j ≤ f26 - 1) → (i + j = f26 - 1) → (zB 0 3 q25_77) → (j - i + 7 < N) → R (77, [some (.ref 14), some (.int (Int32.ofInt a1)), some (.int (Int32.ofInt a2)), some (.int (Int32.ofInt i)), some (.int (Int32.ofInt j))], [], (zMi c0 c1 c2 c3 c4 c5 c6 c7 c8 c9 c10 c11 c12 c13 f0 f9 f10 f11 f12 f13 f15 f16 f17 f20 f21 f22 f23 f26 f28 f31 f32 f33 f38 f41 f44 x14 g15 g16 g17 g18 g19 g20 g21 g22 g23 g24 q25_77 g26 g27 g28 g29 g30 g31 g32 g33 g34 g35 g36 g37 g38 g39 g40 g41 g42 g43 g44 t), 0, 0) := by
      intro N
      induction N with
      | zero => intros; omega
      | succ N ih77 =>
        intro i j q25_77 hf0_77 hf1_77 hp0_77 hq25_77 hN77
        iterate 2 refine hR (?_ : R (_, _, _, _, _, _))
        refine hR (j_ge (by omega) (by omega) (fun hc2 => ?_) (fun hc2 => ?_))
        · skip
          exact hR (zret_i rfl (Nat.le_refl _) rfl (h _ _ hq25_77 (by omega)))
        iterate 3 refine hR (?_ : R (_, _, _, _, _, _))
        refine hR (zcall_i 0 0 (Nat.le_of_ble_eq_true rfl) (Nat.le_of_ble_eq_true rfl) (m_swap _ i j hq25_77 (by omega) (by omega) _ fun k25_3 hp4 => ?_))
        refine (?_ : R (_, _, [], (zMi c0 c1 c2 c3 c4 c5 c6 c7 c8 c9 c10 c11 c12 c13 f0 f9 f10 f11 f12 f13 f15 f16 f17 f20 f21 f22 f23 f26 f28 f31 f32 f33 f38 f41 f44 x14 g15 g16 g17 g18 g19 g20 g21 g22 g23 g24 k25_3 g26 g27 g28 g29 g30 g31 g32 g33 g34 g35 g36 g37 g38 g39 g40 g41 g42 g43 g44 t), 0, 0))
        refine hR (t_inc ?_)
        refine hR (t_inc ?_)
        refine hR (?_ : R (_, _, _, _, _, _))
        exact ih77 _ _ _ (by omega) (by omega) (by omega) hp4 (by omega)
    exact lp77 400000000 _ _ _ (by omega) (by omega) (by omega) hb25 (by omega)
  · skip
    have hs1d : a1 = 0 ∨ a1 = 1 ∨ a1 = 2 ∨ a1 = 3 := by omega
    rcases hs1d with hs1e | hs1e | hs1e | hs1e
    · refine ⟨31, by rw [hs1e]; rfl, (?_ : R (_, _, _, _, _, _))⟩
      iterate 2 refine hR (?_ : R (_, _, _, _, _, _))
      refine hR (zcall_i 0 0 (Nat.le_of_ble_eq_true rfl) (Nat.le_of_ble_eq_true rfl) (m_shift _ a2 hb25 hr1 (by omega) (by omega) (by omega) _ fun k25_5 hp6 => ?_))
      refine (?_ : R (_, _, [], (zMi c0 c1 c2 c3 c4 c5 c6 c7 c8 c9 c10 c11 c12 c13 f0 f9 f10 f11 f12 f13 f15 f16 f17 f20 f21 f22 f23 f26 f28 f31 f32 f33 f38 f41 f44 x14 g15 g16 g17 g18 g19 g20 g21 g22 g23 g24 k25_5 g26 g27 g28 g29 g30 g31 g32 g33 g34 g35 g36 g37 g38 g39 g40 g41 g42 g43 g44 t), 0, 0))
      exact hR (zret_i rfl (Nat.le_refl _) rfl (h _ _ hp6 (by omega)))
    · refine ⟨37, by rw [hs1e]; rfl, (?_ : R (_, _, _, _, _, _))⟩
      iterate 2 refine hR (?_ : R (_, _, _, _, _, _))
      refine hR (zcall_i 0 0 (Nat.le_of_ble_eq_true rfl) (Nat.le_of_ble_eq_true rfl) (m_drop _ a2 hb25 (by omega) (by omega) _ fun y26_7 k25_8 hp9 hp10 => ?_))
      refine (?_ : R (_, _, [], (zMi c0 c1 c2 c3 c4 c5 c6 c7 c8 c9 c10 c11 c12 c13 f0 f9 f10 f11 f12 f13 f15 f16 f17 f20 f21 f22 f23 y26_7 f28 f31 f32 f33 f38 f41 f44 x14 g15 g16 g17 g18 g19 g20 g21 g22 g23 g24 k25_8 g26 g27 g28 g29 g30 g31 g32 g33 g34 g35 g36 g37 g38 g39 g40 g41 g42 g43 g44 t), 0, 0))
      exact hR (zret_i rfl (Nat.le_refl _) rfl (h _ _ hp9 (by omega)))
    · refine ⟨43, by rw [hs1e]; rfl, (?_ : R (_, _, _, _, _, _))⟩
      iterate 2 refine hR (?_ : R (_, _, _, _, _, _))
      refine hR (zcall_i 0 0 (Nat.le_of_ble_eq_true rfl) (Nat.le_of_ble_eq_true rfl) (m_twice _ a2 hb25 (by omega) (by omega) _ fun y26_11 k25_12 hp13 hp14 => ?_))
      refine (?_ : R (_, _, [], (zMi c0 c1 c2 c3 c4 c5 c6 c7 c8 c9 c10 c11 c12 c13 f0 f9 f10 f11 f12 f13 f15 f16 f17 f20 f21 f22 f23 y26_11 f28 f31 f32 f33 f38 f41 f44 x14 g15 g16 g17 g18 g19 g20 g21 g22 g23 g24 k25_12 g26 g27 g28 g29 g30 g31 g32 g33 g34 g35 g36 g37 g38 g39 g40 g41 g42 g43 g44 t), 0, 0))
      exact hR (zret_i rfl (Nat.le_refl _) rfl (h _ _ hp13 (by omega)))
    · refine ⟨49, by rw [hs1e]; rfl, (?_ : R (_, _, _, _, _, _))⟩
      iterate 3 refine hR (?_ : R (_, _, _, _, _, _))
      refine hR (j_ge (by omega) (by omega) (fun hc15 => ?_) (fun hc15 => ?_))
      · skip
        exact hR (zret_i rfl (Nat.le_refl _) rfl (h _ _ hb25 (by omega)))
      iterate 3 refine hR (?_ : R (_, _, _, _, _, _))
      refine hR (t_sub ?_)
      refine hR (?_ : R (_, _, _, _, _, _))
      refine hR (zcall_i 0 0 (Nat.le_of_ble_eq_true rfl) (Nat.le_of_ble_eq_true rfl) (m_swap _ (a2 - 1) a2 hb25 (by omega) (by omega) _ fun k25_16 hp17 => ?_))
      refine (?_ : R (_, _, [], (zMi c0 c1 c2 c3 c4 c5 c6 c7 c8 c9 c10 c11 c12 c13 f0 f9 f10 f11 f12 f13 f15 f16 f17 f20 f21 f22 f23 f26 f28 f31 f32 f33 f38 f41 f44 x14 g15 g16 g17 g18 g19 g20 g21 g22 g23 g24 k25_16 g26 g27 g28 g29 g30 g31 g32 g33 g34 g35 g36 g37 g38 g39 g40 g41 g42 g43 g44 t), 0, 0))
      exact hR (zret_i rfl (Nat.le_refl _) rfl (h _ _ hp17 (by omega)))
theorem m_readBy (d : Nat) (a1 a2 : Int) (hb25 : zB 0 3 g25) (hr1 : 0 ≤ a1 ∧ a1 ≤ 5460) (hr2 : bkOK g20) (hr3 : 0 ≤ f20 ∧ f20 ≤ 1) (hr4 : 0 ≤ a2 ∧ a2 ≤ 4) (Q : zQ) (h : ∀ (v : Int) (y26 : Int) (k25 : Nat → Int32), zB 0 3 k25 → (0 ≤ v ∧ v ≤ 5460) → Q (some (.int (Int32.ofInt v))) (zMi c0 c1 c2 c3 c4 c5 c6 c7 c8 c9 c10 c11 c12 c13 f0 f9 f10 f11 f12 f13 f15 f16 f17 f20 f21 f22 f23 y26 f28 f31 f32 f33 f38 f41 f44 x14 g15 g16 g17 g18 g19 g20 g21 g22 g23 g24 k25 g26 g27 g28 g29 g30 g31 g32 g33 g34 g35 g36 g37 g38 g39 g40 g41 g42 g43 g44 t)) : zCl zTab (d + 4) iX12_readBy [.ref 14, .int (Int32.ofInt a1), .int (Int32.ofInt a2)] (zMi c0 c1 c2 c3 c4 c5 c6 c7 c8 c9 c10 c11 c12 c13 f0 f9 f10 f11 f12 f13 f15 f16 f17 f20 f21 f22 f23 f26 f28 f31 f32 f33 f38 f41 f44 x14 g15 g16 g17 g18 g19 g20 g21 g22 g23 g24 g25 g26 g27 g28 g29 g30 g31 g32 g33 g34 g35 g36 g37 g38 g39 g40 g41 g42 g43 g44 t) 0 0 Q := by
  refine zCl_i (M := kX12_readBy) rfl (Nat.le_of_ble_eq_true rfl) fun R hR => ?_
  iterate 3 refine hR (?_ : R (_, _, _, _, _, _))
  refine hR (zcall_i 0 0 (Nat.le_of_ble_eq_true rfl) (Nat.le_of_ble_eq_true rfl) (m_spell25 _ a1 hb25 (by omega) _ fun k25_1 hp2 => ?_))
  refine (?_ : R (_, _, [], (zMi c0 c1 c2 c3 c4 c5 c6 c7 c8 c9 c10 c11 c12 c13 f0 f9 f10 f11 f12 f13 f15 f16 f17 f20 f21 f22 f23 f26 f28 f31 f32 f33 f38 f41 f44 x14 g15 g16 g17 g18 g19 g20 g21 g22 g23 g24 k25_1 g26 g27 g28 g29 g30 g31 g32 g33 g34 g35 g36 g37 g38 g39 g40 g41 g42 g43 g44 t), 0, 0))
  iterate 2 refine hR (?_ : R (_, _, _, _, _, _))
  refine hR (zcall_i 0 0 (Nat.le_of_ble_eq_true rfl) (Nat.le_of_ble_eq_true rfl) (m_sizeOf _ a1 _ (by omega) _ fun v3 hp4 hp5 => ?_))
  refine (?_ : R (_, _, (.int (Int32.ofInt v3)) :: (.ref 14) :: [], (zMi c0 c1 c2 c3 c4 c5 c6 c7 c8 c9 c10 c11 c12 c13 f0 f9 f10 f11 f12 f13 f15 f16 f17 f20 f21 f22 f23 f26 f28 f31 f32 f33 f38 f41 f44 x14 g15 g16 g17 g18 g19 g20 g21 g22 g23 g24 k25_1 g26 g27 g28 g29 g30 g31 g32 g33 g34 g35 g36 g37 g38 g39 g40 g41 g42 g43 g44 t), 0, 0))
  refine hR (?_ : R (_, _, _, (zMi c0 c1 c2 c3 c4 c5 c6 c7 c8 c9 c10 c11 c12 c13 f0 f9 f10 f11 f12 f13 f15 f16 f17 f20 f21 f22 f23 v3 f28 f31 f32 f33 f38 f41 f44 x14 g15 g16 g17 g18 g19 g20 g21 g22 g23 g24 k25_1 g26 g27 g28 g29 g30 g31 g32 g33 g34 g35 g36 g37 g38 g39 g40 g41 g42 g43 g44 t), _, _))
  iterate 2 refine hR (?_ : R (_, _, _, _, _, _))
  have lp18 : ∀ (N : Nat) (i : Int) (o4_18 : Option Value) (e26_18 : Int) (q25_18 : Nat → Int32), (zc2 o4_18 = false) → (0 ≤ i ∧ i ≤ 4) → (0 ≤ e26_18 ∧ e26_18 ≤ 6) → (zB 0 3 q25_18) → (4 - i < N) → R (18, [some (.ref 14), some (.int (Int32.ofInt a1)), some (.int (Int32.ofInt a2)), some (.int (Int32.ofInt i)), o4_18], [], (zMi c0 c1 c2 c3 c4 c5 c6 c7 c8 c9 c10 c11 c12 c13 f0 f9 f10 f11 f12 f13 f15 f16 f17 f20 f21 f22 f23 e26_18 f28 f31 f32 f33 f38 f41 f44 x14 g15 g16 g17 g18 g19 g20 g21 g22 g23 g24 q25_18 g26 g27 g28 g29 g30 g31 g32 g33 g34 g35 g36 g37 g38 g39 g40 g41 g42 g43 g44 t), 0, 0) := by
    intro N
    induction N with
    | zero => intros; omega
    | succ N ih18 =>
      intro i o4_18 e26_18 q25_18 hzo4_18 hf0_18 hp0_18 hq25_18 hN18
      iterate 2 refine hR (?_ : R (_, _, _, _, _, _))
      refine hR (t_c 6 (by decide) ?_)
      refine hR (?_ : R (_, _, _, _, _, _))
      refine hR (t_add ?_)
      refine hR (zcall_i 0 0 (Nat.le_of_ble_eq_true rfl) (Nat.le_of_ble_eq_true rfl) (m_ofM _ (6 + a2) hr2 (by omega) (by omega) _ fun v6 hp7 hp8 => ?_))
      refine (?_ : R (_, _, (.int (Int32.ofInt v6)) :: (.int (Int32.ofInt i)) :: [], (zMi c0 c1 c2 c3 c4 c5 c6 c7 c8 c9 c10 c11 c12 c13 f0 f9 f10 f11 f12 f13 f15 f16 f17 f20 f21 f22 f23 e26_18 f28 f31 f32 f33 f38 f41 f44 x14 g15 g16 g17 g18 g19 g20 g21 g22 g23 g24 q25_18 g26 g27 g28 g29 g30 g31 g32 g33 g34 g35 g36 g37 g38 g39 g40 g41 g42 g43 g44 t), 0, 0))
      refine hR (j_ge (by omega) (by omega) (fun hc9 => ?_) (fun hc9 => ?_))
      · skip
        iterate 3 refine hR (?_ : R (_, _, _, _, _, _))
        refine hR (zcall_i 0 0 (Nat.le_of_ble_eq_true rfl) (Nat.le_of_ble_eq_true rfl) (m_numberOf _ e26_18 hq25_18 (by omega) _ fun v10 hp11 => ?_))
        refine (?_ : R (_, _, (.int (Int32.ofInt v10)) :: [], (zMi c0 c1 c2 c3 c4 c5 c6 c7 c8 c9 c10 c11 c12 c13 f0 f9 f10 f11 f12 f13 f15 f16 f17 f20 f21 f22 f23 e26_18 f28 f31 f32 f33 f38 f41 f44 x14 g15 g16 g17 g18 g19 g20 g21 g22 g23 g24 q25_18 g26 g27 g28 g29 g30 g31 g32 g33 g34 g35 g36 g37 g38 g39 g40 g41 g42 g43 g44 t), 0, 0))
        exact hR (zret_i rfl (Nat.le_refl _) trivial (h _ _ _ hq25_18 (by omega)))
      refine hR (t_c 11 (by decide) ?_)
      refine hR (t_c 8 (by decide) ?_)
      refine hR (?_ : R (_, _, _, _, _, _))
      refine hR (t_mul ?_)
      refine hR (t_add ?_)
      iterate 2 refine hR (?_ : R (_, _, _, _, _, _))
      refine hR (t_mul ?_)
      refine hR (t_add ?_)
      iterate 4 refine hR (?_ : R (_, _, _, _, _, _))
      refine hR (zcall_i 0 0 (Nat.le_of_ble_eq_true rfl) (Nat.le_of_ble_eq_true rfl) (m_ofS _ ((11 + (8 * a2)) + (2 * i)) hr2 (by omega) (by omega) _ fun v12 hp13 hp14 => ?_))
      refine (?_ : R (_, _, (.int (Int32.ofInt v12)) :: (.ref 14) :: [], (zMi c0 c1 c2 c3 c4 c5 c6 c7 c8 c9 c10 c11 c12 c13 f0 f9 f10 f11 f12 f13 f15 f16 f17 f20 f21 f22 f23 e26_18 f28 f31 f32 f33 f38 f41 f44 x14 g15 g16 g17 g18 g19 g20 g21 g22 g23 g24 q25_18 g26 g27 g28 g29 g30 g31 g32 g33 g34 g35 g36 g37 g38 g39 g40 g41 g42 g43 g44 t), 0, 0))
      iterate 3 refine hR (?_ : R (_, _, _, _, _, _))
      refine hR (t_add ?_)
      refine hR (zcall_i 0 0 (Nat.le_of_ble_eq_true rfl) (Nat.le_of_ble_eq_true rfl) (m_ofS _ (((11 + (8 * a2)) + (2 * i)) + 1) hr2 (by omega) (by omega) _ fun v15 hp16 hp17 => ?_))
      refine (?_ : R (_, _, (.int (Int32.ofInt v15)) :: (.int (Int32.ofInt v12)) :: (.ref 14) :: [], (zMi c0 c1 c2 c3 c4 c5 c6 c7 c8 c9 c10 c11 c12 c13 f0 f9 f10 f11 f12 f13 f15 f16 f17 f20 f21 f22 f23 e26_18 f28 f31 f32 f33 f38 f41 f44 x14 g15 g16 g17 g18 g19 g20 g21 g22 g23 g24 q25_18 g26 g27 g28 g29 g30 g31 g32 g33 g34 g35 g36 g37 g38 g39 g40 g41 g42 g43 g44 t), 0, 0))
      have hst := bk_st hr2 (b := f20.toNat) (r := a2.toNat) (k := i.toNat) (by omega) (by omega) (by omega)
      have hs1 : v12 = (g20 (51 * f20.toNat + (11 + 8 * a2.toNat + 2 * i.toNat))).toInt := by rw [hp13]; congr 2; omega
      have hs2 : v15 = (g20 (51 * f20.toNat + (12 + 8 * a2.toNat + 2 * i.toNat))).toInt := by rw [hp16]; congr 2; omega
      refine hR (zcall_i 0 0 (Nat.le_of_ble_eq_true rfl) (Nat.le_of_ble_eq_true rfl) (m_step _ v12 v15 hq25_18 hr2 (by omega) (by omega) (by omega) (by omega) _ fun y26_18 k25_19 hp20 hp21 => ?_))
      refine (?_ : R (_, _, [], (zMi c0 c1 c2 c3 c4 c5 c6 c7 c8 c9 c10 c11 c12 c13 f0 f9 f10 f11 f12 f13 f15 f16 f17 f20 f21 f22 f23 y26_18 f28 f31 f32 f33 f38 f41 f44 x14 g15 g16 g17 g18 g19 g20 g21 g22 g23 g24 k25_19 g26 g27 g28 g29 g30 g31 g32 g33 g34 g35 g36 g37 g38 g39 g40 g41 g42 g43 g44 t), 0, 0))
      refine hR (t_inc ?_)
      refine hR (?_ : R (_, _, _, _, _, _))
      exact ih18 _ _ _ _ (by rfl) (by omega) (by omega) hp20 (by omega)
  exact lp18 400000000 _ _ _ _ (by rfl) (by omega) (by omega) hp2 (by omega)
end MZ
end
section
def yrR (T : Nat → Int32) : Prop := (0 ≤ (T 0).toInt ∧ (T 0).toInt ≤ 40) ∧ (∀ k, k < 40 → (0 ≤ (T (1 + 3 * k)).toInt ∧ (T (1 + 3 * k)).toInt ≤ 5) ∧ ((T (1 + 3 * k)).toInt ≤ 4 → 0 ≤ (T (2 + 3 * k)).toInt ∧ (T (2 + 3 * k)).toInt ≤ 3) ∧ ((T (1 + 3 * k)).toInt = 1 → 0 ≤ (T (3 + 3 * k)).toInt ∧ (T (3 + 3 * k)).toInt ≤ 3) ∧ ((T (1 + 3 * k)).toInt = 0 → 0 ≤ (T (3 + 3 * k)).toInt ∧ (T (3 + 3 * k)).toInt ≤ 4))
def yrOK (g : Nat → Int32) : Prop := ∀ b, b < 8 → yrR (fun j => g (121 * b + j))
def siOK (g : Nat → Int32) : Prop := ∀ b, b < 8 → 0 ≤ (g (13 * b)).toInt ∧ (g (13 * b)).toInt ≤ 6
theorem yr_i0 {g : Nat → Int32} {f v : Int} (hf : 0 ≤ f) (h : v = (g (121 * f).toNat).toInt) : v = (g (121 * f.toNat)).toInt := by
  rw [h, show (121 * f).toNat = 121 * f.toNat by omega]
theorem yr_0 {g : Nat → Int32} {f v : Int} (hg : yrOK g) (hf : 0 ≤ f) (hf1 : f ≤ 7) (h : v = (g (121 * f.toNat)).toInt) : 0 ≤ v ∧ v ≤ 40 := by
  rw [h]; exact (hg f.toNat (by omega)).1
theorem yr_i {g : Nat → Int32} {f a c v : Int} (hf : 0 ≤ f) (ha : 0 ≤ a) (h : v = (g (121 * f + 1 + 3 * a + c).toNat).toInt) (n : Nat) (hc : c + 1 = n) : v = (g (121 * f.toNat + (n + 3 * a.toNat))).toInt := by
  rw [h, show (121 * f + 1 + 3 * a + c).toNat = 121 * f.toNat + (n + 3 * a.toNat) by omega]
theorem yr_d {g : Nat → Int32} (hg : yrOK g) {b k : Nat} (hb : b < 8) (hk : k < 40) : (0 ≤ (g (121 * b + (1 + 3 * k))).toInt ∧ (g (121 * b + (1 + 3 * k))).toInt ≤ 5) ∧ ((g (121 * b + (1 + 3 * k))).toInt ≤ 4 → 0 ≤ (g (121 * b + (2 + 3 * k))).toInt ∧ (g (121 * b + (2 + 3 * k))).toInt ≤ 3) ∧ ((g (121 * b + (1 + 3 * k))).toInt = 1 → 0 ≤ (g (121 * b + (3 + 3 * k))).toInt ∧ (g (121 * b + (3 + 3 * k))).toInt ≤ 3) ∧ ((g (121 * b + (1 + 3 * k))).toInt = 0 → 0 ≤ (g (121 * b + (3 + 3 * k))).toInt ∧ (g (121 * b + (3 + 3 * k))).toInt ≤ 4) := (hg b hb).2 k hk
theorem zushr_r (x : Int32) : ∃ v : Int, 0 ≤ v ∧ v ≤ 65535 ∧ (x.toUInt32 >>> ((Int32.ofInt 16).toUInt32 &&& Int32.toUInt32 31)).toInt32 = Int32.ofInt v := by
  have h := pk_ushr x (Int32.ofInt 16) 16 (by decide)
  have hx : x.toBitVec.toNat < 2 ^ 32 := x.toBitVec.isLt
  generalize (x.toUInt32 >>> ((Int32.ofInt 16).toUInt32 &&& Int32.toUInt32 31)).toInt32 = y at h ⊢
  have hy : y.toBitVec.toNat ≤ 65535 := by rw [h]; omega
  refine ⟨(y.toBitVec.toNat : Int), by omega, by omega, ?_⟩
  have e : y = nI y.toBitVec.toNat := by
    apply Int32.toBitVec_inj.mp
    apply BitVec.eq_of_toNat_eq
    rw [pk_tn (by omega)]
  rw [nI_oi (by omega), Int.toNat_natCast]
  exact e
section MZ
variable {c0 c1 c2 c3 c4 c5 c6 c7 c8 c9 c10 c11 c12 c13 : va_E} {f0 f9 f10 f11 f12 f13 f15 f16 f17 f20 f21 f22 f23 f26 f28 f31 f32 f33 f38 f41 f44 : Int} {x14 : Int64} {g15 g16 g17 g18 g19 g20 g21 g22 g23 g24 g25 g26 g27 g28 g29 g30 g31 g32 g33 g34 g35 g36 g37 g38 g39 g40 g41 g42 g43 g44 : Nat → Int32} {t : zW}
theorem m_deeds (d : Nat) (hr0 : yrOK g21) (hr1 : 0 ≤ f28 ∧ f28 ≤ 1) (Q : zQ) (h : ∀ (v : Int), (v = (g21 (121 * f28.toNat)).toInt) → (0 ≤ v ∧ v ≤ 40) → Q (some (.int (Int32.ofInt v))) (zMi c0 c1 c2 c3 c4 c5 c6 c7 c8 c9 c10 c11 c12 c13 f0 f9 f10 f11 f12 f13 f15 f16 f17 f20 f21 f22 f23 f26 f28 f31 f32 f33 f38 f41 f44 x14 g15 g16 g17 g18 g19 g20 g21 g22 g23 g24 g25 g26 g27 g28 g29 g30 g31 g32 g33 g34 g35 g36 g37 g38 g39 g40 g41 g42 g43 g44 t)) : zCl zTab (d + 1) iX12_deeds [.ref 14] (zMi c0 c1 c2 c3 c4 c5 c6 c7 c8 c9 c10 c11 c12 c13 f0 f9 f10 f11 f12 f13 f15 f16 f17 f20 f21 f22 f23 f26 f28 f31 f32 f33 f38 f41 f44 x14 g15 g16 g17 g18 g19 g20 g21 g22 g23 g24 g25 g26 g27 g28 g29 g30 g31 g32 g33 g34 g35 g36 g37 g38 g39 g40 g41 g42 g43 g44 t) 0 0 Q := by
  refine zCl_i (M := kX12_deeds) rfl (Nat.le_of_ble_eq_true rfl) fun R hR => ?_
  iterate 2 refine hR (?_ : R (_, _, _, _, _, _))
  refine hR (t_c 121 (by decide) ?_)
  iterate 2 refine hR (?_ : R (_, _, _, _, _, _))
  refine hR (t_mul ?_)
  refine hR (t_ld (by omega) (by omega) (Nat.le_of_ble_eq_true rfl) fun v1 ev1 => ?_)
  exact hR (zret_i rfl (Nat.le_refl _) trivial (h _ (yr_i0 (by omega) ev1) (yr_0 hr0 (by omega) (by omega) (yr_i0 (by omega) ev1))))
theorem m_deedOf0 (d : Nat) (a1 : Int) (hr0 : 0 ≤ f28 ∧ f28 ≤ 1) (hr1 : 0 ≤ a1 ∧ a1 ≤ 39) (Q : zQ) (h : ∀ (v : Int), (v = (g21 (121 * f28.toNat + (1 + 3 * a1.toNat))).toInt) → Q (some (.int (Int32.ofInt v))) (zMi c0 c1 c2 c3 c4 c5 c6 c7 c8 c9 c10 c11 c12 c13 f0 f9 f10 f11 f12 f13 f15 f16 f17 f20 f21 f22 f23 f26 f28 f31 f32 f33 f38 f41 f44 x14 g15 g16 g17 g18 g19 g20 g21 g22 g23 g24 g25 g26 g27 g28 g29 g30 g31 g32 g33 g34 g35 g36 g37 g38 g39 g40 g41 g42 g43 g44 t)) : zCl zTab (d + 1) iX12_deedOf [.ref 14, .int (Int32.ofInt a1), .int (Int32.ofInt 0)] (zMi c0 c1 c2 c3 c4 c5 c6 c7 c8 c9 c10 c11 c12 c13 f0 f9 f10 f11 f12 f13 f15 f16 f17 f20 f21 f22 f23 f26 f28 f31 f32 f33 f38 f41 f44 x14 g15 g16 g17 g18 g19 g20 g21 g22 g23 g24 g25 g26 g27 g28 g29 g30 g31 g32 g33 g34 g35 g36 g37 g38 g39 g40 g41 g42 g43 g44 t) 0 0 Q := by
  refine zCl_i (M := kX12_deedOf) rfl (Nat.le_of_ble_eq_true rfl) fun R hR => ?_
  iterate 2 refine hR (?_ : R (_, _, _, _, _, _))
  refine hR (t_c 121 (by decide) ?_)
  iterate 2 refine hR (?_ : R (_, _, _, _, _, _))
  refine hR (t_mul ?_)
  refine hR (?_ : R (_, _, _, _, _, _))
  refine hR (t_add ?_)
  iterate 2 refine hR (?_ : R (_, _, _, _, _, _))
  refine hR (t_mul ?_)
  refine hR (t_add ?_)
  refine hR (?_ : R (_, _, _, _, _, _))
  refine hR (t_add ?_)
  refine hR (t_ld (by omega) (by omega) (Nat.le_of_ble_eq_true rfl) fun v1 ev1 => ?_)
  exact hR (zret_i rfl (Nat.le_refl _) trivial (h _ (yr_i (by omega) (by omega) ev1 1 rfl)))
theorem m_deedOf1 (d : Nat) (a1 : Int) (hr0 : 0 ≤ f28 ∧ f28 ≤ 1) (hr1 : 0 ≤ a1 ∧ a1 ≤ 39) (Q : zQ) (h : ∀ (v : Int), (v = (g21 (121 * f28.toNat + (2 + 3 * a1.toNat))).toInt) → Q (some (.int (Int32.ofInt v))) (zMi c0 c1 c2 c3 c4 c5 c6 c7 c8 c9 c10 c11 c12 c13 f0 f9 f10 f11 f12 f13 f15 f16 f17 f20 f21 f22 f23 f26 f28 f31 f32 f33 f38 f41 f44 x14 g15 g16 g17 g18 g19 g20 g21 g22 g23 g24 g25 g26 g27 g28 g29 g30 g31 g32 g33 g34 g35 g36 g37 g38 g39 g40 g41 g42 g43 g44 t)) : zCl zTab (d + 1) iX12_deedOf [.ref 14, .int (Int32.ofInt a1), .int (Int32.ofInt 1)] (zMi c0 c1 c2 c3 c4 c5 c6 c7 c8 c9 c10 c11 c12 c13 f0 f9 f10 f11 f12 f13 f15 f16 f17 f20 f21 f22 f23 f26 f28 f31 f32 f33 f38 f41 f44 x14 g15 g16 g17 g18 g19 g20 g21 g22 g23 g24 g25 g26 g27 g28 g29 g30 g31 g32 g33 g34 g35 g36 g37 g38 g39 g40 g41 g42 g43 g44 t) 0 0 Q := by
  refine zCl_i (M := kX12_deedOf) rfl (Nat.le_of_ble_eq_true rfl) fun R hR => ?_
  iterate 2 refine hR (?_ : R (_, _, _, _, _, _))
  refine hR (t_c 121 (by decide) ?_)
  iterate 2 refine hR (?_ : R (_, _, _, _, _, _))
  refine hR (t_mul ?_)
  refine hR (?_ : R (_, _, _, _, _, _))
  refine hR (t_add ?_)
  iterate 2 refine hR (?_ : R (_, _, _, _, _, _))
  refine hR (t_mul ?_)
  refine hR (t_add ?_)
  refine hR (?_ : R (_, _, _, _, _, _))
  refine hR (t_add ?_)
  refine hR (t_ld (by omega) (by omega) (Nat.le_of_ble_eq_true rfl) fun v1 ev1 => ?_)
  exact hR (zret_i rfl (Nat.le_refl _) trivial (h _ (yr_i (by omega) (by omega) ev1 2 rfl)))
theorem m_deedOf2 (d : Nat) (a1 : Int) (hr0 : 0 ≤ f28 ∧ f28 ≤ 1) (hr1 : 0 ≤ a1 ∧ a1 ≤ 39) (Q : zQ) (h : ∀ (v : Int), (v = (g21 (121 * f28.toNat + (3 + 3 * a1.toNat))).toInt) → Q (some (.int (Int32.ofInt v))) (zMi c0 c1 c2 c3 c4 c5 c6 c7 c8 c9 c10 c11 c12 c13 f0 f9 f10 f11 f12 f13 f15 f16 f17 f20 f21 f22 f23 f26 f28 f31 f32 f33 f38 f41 f44 x14 g15 g16 g17 g18 g19 g20 g21 g22 g23 g24 g25 g26 g27 g28 g29 g30 g31 g32 g33 g34 g35 g36 g37 g38 g39 g40 g41 g42 g43 g44 t)) : zCl zTab (d + 1) iX12_deedOf [.ref 14, .int (Int32.ofInt a1), .int (Int32.ofInt 2)] (zMi c0 c1 c2 c3 c4 c5 c6 c7 c8 c9 c10 c11 c12 c13 f0 f9 f10 f11 f12 f13 f15 f16 f17 f20 f21 f22 f23 f26 f28 f31 f32 f33 f38 f41 f44 x14 g15 g16 g17 g18 g19 g20 g21 g22 g23 g24 g25 g26 g27 g28 g29 g30 g31 g32 g33 g34 g35 g36 g37 g38 g39 g40 g41 g42 g43 g44 t) 0 0 Q := by
  refine zCl_i (M := kX12_deedOf) rfl (Nat.le_of_ble_eq_true rfl) fun R hR => ?_
  iterate 2 refine hR (?_ : R (_, _, _, _, _, _))
  refine hR (t_c 121 (by decide) ?_)
  iterate 2 refine hR (?_ : R (_, _, _, _, _, _))
  refine hR (t_mul ?_)
  refine hR (?_ : R (_, _, _, _, _, _))
  refine hR (t_add ?_)
  iterate 2 refine hR (?_ : R (_, _, _, _, _, _))
  refine hR (t_mul ?_)
  refine hR (t_add ?_)
  refine hR (?_ : R (_, _, _, _, _, _))
  refine hR (t_add ?_)
  refine hR (t_ld (by omega) (by omega) (Nat.le_of_ble_eq_true rfl) fun v1 ev1 => ?_)
  exact hR (zret_i rfl (Nat.le_refl _) trivial (h _ (yr_i (by omega) (by omega) ev1 3 rfl)))
theorem m_deedOf (d : Nat) (a1 a2 : Int) (hr0 : 0 ≤ f28 ∧ f28 ≤ 1) (hr1 : 0 ≤ a1 ∧ a1 ≤ 39) (hr2 : 0 ≤ a2 ∧ a2 ≤ 2) (Q : zQ) (h : ∀ (v : Int), Q (some (.int (Int32.ofInt v))) (zMi c0 c1 c2 c3 c4 c5 c6 c7 c8 c9 c10 c11 c12 c13 f0 f9 f10 f11 f12 f13 f15 f16 f17 f20 f21 f22 f23 f26 f28 f31 f32 f33 f38 f41 f44 x14 g15 g16 g17 g18 g19 g20 g21 g22 g23 g24 g25 g26 g27 g28 g29 g30 g31 g32 g33 g34 g35 g36 g37 g38 g39 g40 g41 g42 g43 g44 t)) : zCl zTab (d + 1) iX12_deedOf [.ref 14, .int (Int32.ofInt a1), .int (Int32.ofInt a2)] (zMi c0 c1 c2 c3 c4 c5 c6 c7 c8 c9 c10 c11 c12 c13 f0 f9 f10 f11 f12 f13 f15 f16 f17 f20 f21 f22 f23 f26 f28 f31 f32 f33 f38 f41 f44 x14 g15 g16 g17 g18 g19 g20 g21 g22 g23 g24 g25 g26 g27 g28 g29 g30 g31 g32 g33 g34 g35 g36 g37 g38 g39 g40 g41 g42 g43 g44 t) 0 0 Q := by
  refine zCl_i (M := kX12_deedOf) rfl (Nat.le_of_ble_eq_true rfl) fun R hR => ?_
  iterate 2 refine hR (?_ : R (_, _, _, _, _, _))
  refine hR (t_c 121 (by decide) ?_)
  iterate 2 refine hR (?_ : R (_, _, _, _, _, _))
  refine hR (t_mul ?_)
  refine hR (?_ : R (_, _, _, _, _, _))
  refine hR (t_add ?_)
  iterate 2 refine hR (?_ : R (_, _, _, _, _, _))
  refine hR (t_mul ?_)
  refine hR (t_add ?_)
  refine hR (?_ : R (_, _, _, _, _, _))
  refine hR (t_add ?_)
  refine hR (t_ldo (by omega) (by omega) (Nat.le_of_ble_eq_true rfl) fun v1 rv1 => ?_)
  exact hR (zret_i rfl (Nat.le_refl _) trivial (h _))
theorem m_hasYear (d : Nat) (a1 : Int) (hb19 : zB 0 2 g19) (hr1 : -2147483648 ≤ a1 ∧ a1 ≤ 2147483647) (Q : zQ) (h : ∀ (v : Int) (y28 : Int), (y28 = a1) → ((v = 1 ∧ 0 ≤ a1 ∧ a1 ≤ 1 ∧ a1 < (g19 1).toInt) ∨ (v = 0 ∧ (a1 < 0 ∨ (g19 1).toInt ≤ a1))) → Q (some (.int (Int32.ofInt v))) (zMi c0 c1 c2 c3 c4 c5 c6 c7 c8 c9 c10 c11 c12 c13 f0 f9 f10 f11 f12 f13 f15 f16 f17 f20 f21 f22 f23 f26 y28 f31 f32 f33 f38 f41 f44 x14 g15 g16 g17 g18 g19 g20 g21 g22 g23 g24 g25 g26 g27 g28 g29 g30 g31 g32 g33 g34 g35 g36 g37 g38 g39 g40 g41 g42 g43 g44 t)) : zCl zTab (d + 3) iX12_hasYear [.ref 14, .int (Int32.ofInt a1)] (zMi c0 c1 c2 c3 c4 c5 c6 c7 c8 c9 c10 c11 c12 c13 f0 f9 f10 f11 f12 f13 f15 f16 f17 f20 f21 f22 f23 f26 f28 f31 f32 f33 f38 f41 f44 x14 g15 g16 g17 g18 g19 g20 g21 g22 g23 g24 g25 g26 g27 g28 g29 g30 g31 g32 g33 g34 g35 g36 g37 g38 g39 g40 g41 g42 g43 g44 t) 0 0 Q := by
  refine zCl_i (M := kX12_hasYear) rfl (Nat.le_of_ble_eq_true rfl) fun R hR => ?_
  iterate 2 refine hR (?_ : R (_, _, _, _, _, _))
  refine hR (?_ : R (_, _, _, (zMi c0 c1 c2 c3 c4 c5 c6 c7 c8 c9 c10 c11 c12 c13 f0 f9 f10 f11 f12 f13 f15 f16 f17 f20 f21 f22 f23 f26 a1 f31 f32 f33 f38 f41 f44 x14 g15 g16 g17 g18 g19 g20 g21 g22 g23 g24 g25 g26 g27 g28 g29 g30 g31 g32 g33 g34 g35 g36 g37 g38 g39 g40 g41 g42 g43 g44 t), _, _))
  iterate 3 refine hR (?_ : R (_, _, _, _, _, _))
  refine hR (zcall_i 0 0 (Nat.le_of_ble_eq_true rfl) (Nat.le_of_ble_eq_true rfl) (m_is _ 1 a1 hb19 (by omega) (by omega) _ fun v1 hp2 => ?_))
  refine (?_ : R (_, _, (.int (Int32.ofInt v1)) :: [], (zMi c0 c1 c2 c3 c4 c5 c6 c7 c8 c9 c10 c11 c12 c13 f0 f9 f10 f11 f12 f13 f15 f16 f17 f20 f21 f22 f23 f26 a1 f31 f32 f33 f38 f41 f44 x14 g15 g16 g17 g18 g19 g20 g21 g22 g23 g24 g25 g26 g27 g28 g29 g30 g31 g32 g33 g34 g35 g36 g37 g38 g39 g40 g41 g42 g43 g44 t), 0, 0))
  have hp2x : (v1 = 1 ∧ 0 ≤ a1 ∧ a1 < (g19 1).toInt ∧ a1 ≤ 1) ∨ (v1 = 0 ∧ (a1 < 0 ∨ (g19 1).toInt ≤ a1)) := hp2
  exact hR (zret_i rfl (Nat.le_refl _) (zbo (by omega)) (h _ _ (by omega) (by omega)))
theorem m_deed (d : Nat) (a1 a2 a3 : Int) (hb19 : zB 0 2 g19) (hr1 : yrOK g21) (hr2 : -2147483648 ≤ a1 ∧ a1 ≤ 2147483647) (hr3 : -2147483648 ≤ a2 ∧ a2 ≤ 2147483647) (hr4 : -2147483648 ≤ a3 ∧ a3 ≤ 2147483647) (Q : zQ) (h : ∀ (v : Int) (y0 : Int) (y28 : Int), Q (some (.int (Int32.ofInt v))) (zMi c0 c1 c2 c3 c4 c5 c6 c7 c8 c9 c10 c11 c12 c13 y0 f9 f10 f11 f12 f13 f15 f16 f17 f20 f21 f22 f23 f26 y28 f31 f32 f33 f38 f41 f44 x14 g15 g16 g17 g18 g19 g20 g21 g22 g23 g24 g25 g26 g27 g28 g29 g30 g31 g32 g33 g34 g35 g36 g37 g38 g39 g40 g41 g42 g43 g44 t)) : zCl zTab (d + 4) iX12_deed [.ref 14, .int (Int32.ofInt a1), .int (Int32.ofInt a2), .int (Int32.ofInt a3)] (zMi c0 c1 c2 c3 c4 c5 c6 c7 c8 c9 c10 c11 c12 c13 f0 f9 f10 f11 f12 f13 f15 f16 f17 f20 f21 f22 f23 f26 f28 f31 f32 f33 f38 f41 f44 x14 g15 g16 g17 g18 g19 g20 g21 g22 g23 g24 g25 g26 g27 g28 g29 g30 g31 g32 g33 g34 g35 g36 g37 g38 g39 g40 g41 g42 g43 g44 t) 0 0 Q := by
  refine zCl_i (M := kX12_deed) rfl (Nat.le_of_ble_eq_true rfl) fun R hR => ?_
  iterate 2 refine hR (?_ : R (_, _, _, _, _, _))
  refine hR (?_ : R (_, _, _, (zMi c0 c1 c2 c3 c4 c5 c6 c7 c8 c9 c10 c11 c12 c13 0 f9 f10 f11 f12 f13 f15 f16 f17 f20 f21 f22 f23 f26 f28 f31 f32 f33 f38 f41 f44 x14 g15 g16 g17 g18 g19 g20 g21 g22 g23 g24 g25 g26 g27 g28 g29 g30 g31 g32 g33 g34 g35 g36 g37 g38 g39 g40 g41 g42 g43 g44 t), _, _))
  iterate 2 refine hR (?_ : R (_, _, _, _, _, _))
  refine hR (zcall_i 0 0 (Nat.le_of_ble_eq_true rfl) (Nat.le_of_ble_eq_true rfl) (m_hasYear _ a1 hb19 (by omega) _ fun v1 y28_2 hp3 hp4 => ?_))
  refine (?_ : R (_, _, (.int (Int32.ofInt v1)) :: [], (zMi c0 c1 c2 c3 c4 c5 c6 c7 c8 c9 c10 c11 c12 c13 0 f9 f10 f11 f12 f13 f15 f16 f17 f20 f21 f22 f23 f26 y28_2 f31 f32 f33 f38 f41 f44 x14 g15 g16 g17 g18 g19 g20 g21 g22 g23 g24 g25 g26 g27 g28 g29 g30 g31 g32 g33 g34 g35 g36 g37 g38 g39 g40 g41 g42 g43 g44 t), 0, 0))
  refine hR (k_ne (by omega) (fun hc5 => ?_) (fun hc5 => ?_))
  rotate_left
  · skip
    refine hR (t_c (-2) (by decide) ?_)
    exact hR (zret_i rfl (Nat.le_refl _) trivial (h _ _ _))
  iterate 2 refine hR (?_ : R (_, _, _, _, _, _))
  refine hR (j_ne (by omega) (by omega) (fun hc6 => ?_) (fun hc6 => ?_))
  rotate_left
  · skip
    refine hR (?_ : R (_, _, _, _, _, _))
    refine hR (k_ne (by omega) (fun hc17 => ?_) (fun hc17 => ?_))
    · skip
      refine hR (t_c (-2) (by decide) ?_)
      exact hR (zret_i rfl (Nat.le_refl _) trivial (h _ _ _))
    refine hR (?_ : R (_, _, _, _, _, _))
    refine hR (zcall_i 0 0 (Nat.le_of_ble_eq_true rfl) (Nat.le_of_ble_eq_true rfl) (m_deeds _ hr1 (by omega) _ fun v18 hp19 hp20 => ?_))
    refine (?_ : R (_, _, (.int (Int32.ofInt v18)) :: [], (zMi c0 c1 c2 c3 c4 c5 c6 c7 c8 c9 c10 c11 c12 c13 0 f9 f10 f11 f12 f13 f15 f16 f17 f20 f21 f22 f23 f26 y28_2 f31 f32 f33 f38 f41 f44 x14 g15 g16 g17 g18 g19 g20 g21 g22 g23 g24 g25 g26 g27 g28 g29 g30 g31 g32 g33 g34 g35 g36 g37 g38 g39 g40 g41 g42 g43 g44 t), 0, 0))
    refine hR (?_ : R (_, _, _, _, _, _))
    exact hR (zret_i rfl (Nat.le_refl _) trivial (h _ _ _))
  iterate 3 refine hR (?_ : R (_, _, _, _, _, _))
  refine hR (zcall_i 0 0 (Nat.le_of_ble_eq_true rfl) (Nat.le_of_ble_eq_true rfl) (m_deeds _ hr1 (by omega) _ fun v7 hp8 hp9 => ?_))
  refine (?_ : R (_, _, (.int (Int32.ofInt v7)) :: (.int (Int32.ofInt 0)) :: (.int (Int32.ofInt a2)) :: [], (zMi c0 c1 c2 c3 c4 c5 c6 c7 c8 c9 c10 c11 c12 c13 0 f9 f10 f11 f12 f13 f15 f16 f17 f20 f21 f22 f23 f26 y28_2 f31 f32 f33 f38 f41 f44 x14 g15 g16 g17 g18 g19 g20 g21 g22 g23 g24 g25 g26 g27 g28 g29 g30 g31 g32 g33 g34 g35 g36 g37 g38 g39 g40 g41 g42 g43 g44 t), 0, 0))
  refine hR (?_ : R (_, _, _, _, _, _))
  refine hR (t_sub ?_)
  refine hR (zcall_i 0 0 (Nat.le_of_ble_eq_true rfl) (Nat.le_of_ble_eq_true rfl) (m_in _ a2 0 (v7 - 1) _ (by omega) (by omega) (by omega) _ fun v10 hp11 => ?_))
  refine (?_ : R (_, _, (.int (Int32.ofInt v10)) :: [], (zMi c0 c1 c2 c3 c4 c5 c6 c7 c8 c9 c10 c11 c12 c13 0 f9 f10 f11 f12 f13 f15 f16 f17 f20 f21 f22 f23 f26 y28_2 f31 f32 f33 f38 f41 f44 x14 g15 g16 g17 g18 g19 g20 g21 g22 g23 g24 g25 g26 g27 g28 g29 g30 g31 g32 g33 g34 g35 g36 g37 g38 g39 g40 g41 g42 g43 g44 t), 0, 0))
  refine hR (k_eq (by omega) (fun hc12 => ?_) (fun hc12 => ?_))
  · skip
    refine hR (t_c (-2) (by decide) ?_)
    exact hR (zret_i rfl (Nat.le_refl _) trivial (h _ _ _))
  iterate 3 refine hR (?_ : R (_, _, _, _, _, _))
  refine hR (zcall_i 0 0 (Nat.le_of_ble_eq_true rfl) (Nat.le_of_ble_eq_true rfl) (m_in _ a3 0 2 _ (by omega) (by omega) (by omega) _ fun v13 hp14 => ?_))
  refine (?_ : R (_, _, (.int (Int32.ofInt v13)) :: [], (zMi c0 c1 c2 c3 c4 c5 c6 c7 c8 c9 c10 c11 c12 c13 0 f9 f10 f11 f12 f13 f15 f16 f17 f20 f21 f22 f23 f26 y28_2 f31 f32 f33 f38 f41 f44 x14 g15 g16 g17 g18 g19 g20 g21 g22 g23 g24 g25 g26 g27 g28 g29 g30 g31 g32 g33 g34 g35 g36 g37 g38 g39 g40 g41 g42 g43 g44 t), 0, 0))
  refine hR (k_eq (by omega) (fun hc15 => ?_) (fun hc15 => ?_))
  · skip
    refine hR (t_c (-2) (by decide) ?_)
    exact hR (zret_i rfl (Nat.le_refl _) trivial (h _ _ _))
  iterate 3 refine hR (?_ : R (_, _, _, _, _, _))
  refine hR (zcall_i 0 0 (Nat.le_of_ble_eq_true rfl) (Nat.le_of_ble_eq_true rfl) (m_deedOf _ a2 a3 (by omega) (by omega) (by omega) _ fun v16 => ?_))
  refine (?_ : R (_, _, (.int (Int32.ofInt v16)) :: [], (zMi c0 c1 c2 c3 c4 c5 c6 c7 c8 c9 c10 c11 c12 c13 0 f9 f10 f11 f12 f13 f15 f16 f17 f20 f21 f22 f23 f26 y28_2 f31 f32 f33 f38 f41 f44 x14 g15 g16 g17 g18 g19 g20 g21 g22 g23 g24 g25 g26 g27 g28 g29 g30 g31 g32 g33 g34 g35 g36 g37 g38 g39 g40 g41 g42 g43 g44 t), 0, 0))
  refine hR (?_ : R (_, _, _, _, _, _))
  exact hR (zret_i rfl (Nat.le_refl _) trivial (h _ _ _))
theorem m_begin (d : Nat) (hb28 : zB 0 5460 g28) (hr1 : 0 ≤ f22 ∧ f22 ≤ 5460) (Q : zQ) (h : ∀ (y31 : Int) (y32 : Int) (y33 : Int) (k28 : Nat → Int32) (k29 : Nat → Int32), zB 0 5460 k28 → (y31 = 0 ∧ y32 = 0 ∧ y33 = 0) → Q (none) (zMi c0 c1 c2 c3 c4 c5 c6 c7 c8 c9 c10 c11 c12 c13 f0 f9 f10 f11 f12 f13 f15 f16 f17 f20 f21 f22 f23 f26 f28 y31 y32 y33 f38 f41 f44 x14 g15 g16 g17 g18 g19 g20 g21 g22 g23 g24 g25 g26 g27 k28 k29 g30 g31 g32 g33 g34 g35 g36 g37 g38 g39 g40 g41 g42 g43 g44 t)) : zCl zTab (d + 1) iX12_begin [.ref 14] (zMi c0 c1 c2 c3 c4 c5 c6 c7 c8 c9 c10 c11 c12 c13 f0 f9 f10 f11 f12 f13 f15 f16 f17 f20 f21 f22 f23 f26 f28 f31 f32 f33 f38 f41 f44 x14 g15 g16 g17 g18 g19 g20 g21 g22 g23 g24 g25 g26 g27 g28 g29 g30 g31 g32 g33 g34 g35 g36 g37 g38 g39 g40 g41 g42 g43 g44 t) 0 0 Q := by
  refine zCl_i (M := kX12_begin) rfl (Nat.le_of_ble_eq_true rfl) fun R hR => ?_
  iterate 2 refine hR (?_ : R (_, _, _, _, _, _))
  have lp2 : ∀ (N : Nat) (i : Int) (q28_2 : Nat → Int32), (0 ≤ i ∧ i ≤ 4) → (zB 0 5460 q28_2) → (4 - i < N) → R (2, [some (.ref 14), some (.int (Int32.ofInt i))], [], (zMi c0 c1 c2 c3 c4 c5 c6 c7 c8 c9 c10 c11 c12 c13 f0 f9 f10 f11 f12 f13 f15 f16 f17 f20 f21 f22 f23 f26 f28 f31 f32 f33 f38 f41 f44 x14 g15 g16 g17 g18 g19 g20 g21 g22 g23 g24 g25 g26 g27 q28_2 g29 g30 g31 g32 g33 g34 g35 g36 g37 g38 g39 g40 g41 g42 g43 g44 t), 0, 0) := by
    intro N
    induction N with
    | zero => intros; omega
    | succ N ih2 =>
      intro i q28_2 hf0_2 hq28_2 hN2
      iterate 2 refine hR (?_ : R (_, _, _, _, _, _))
      refine hR (j_ge (by omega) (by omega) (fun hc1 => ?_) (fun hc1 => ?_))
      rotate_left
      · skip
        iterate 5 refine hR (?_ : R (_, _, _, _, _, _))
        refine hR (t_stB hq28_2 (by omega) (by omega) (by omega) (by omega) (by omega) (by omega) (Nat.le_of_ble_eq_true rfl) fun k28_4 hk28_4 => (?_ : R (_, _, _, (zMi c0 c1 c2 c3 c4 c5 c6 c7 c8 c9 c10 c11 c12 c13 f0 f9 f10 f11 f12 f13 f15 f16 f17 f20 f21 f22 f23 f26 f28 f31 f32 f33 f38 f41 f44 x14 g15 g16 g17 g18 g19 g20 g21 g22 g23 g24 g25 g26 g27 k28_4 g29 g30 g31 g32 g33 g34 g35 g36 g37 g38 g39 g40 g41 g42 g43 g44 t), _, _)))
        refine hR (t_inc ?_)
        refine hR (?_ : R (_, _, _, _, _, _))
        exact ih2 _ _ (by omega) hk28_4 (by omega)
      iterate 2 refine hR (?_ : R (_, _, _, _, _, _))
      have lp25 : ∀ (N : Nat) (i : Int) (q29_25 : Nat → Int32), (0 ≤ i ∧ i ≤ 5) → (5 - i < N) → R (25, [some (.ref 14), some (.int (Int32.ofInt i))], [], (zMi c0 c1 c2 c3 c4 c5 c6 c7 c8 c9 c10 c11 c12 c13 f0 f9 f10 f11 f12 f13 f15 f16 f17 f20 f21 f22 f23 f26 f28 f31 f32 f33 f38 f41 f44 x14 g15 g16 g17 g18 g19 g20 g21 g22 g23 g24 g25 g26 g27 q28_2 q29_25 g30 g31 g32 g33 g34 g35 g36 g37 g38 g39 g40 g41 g42 g43 g44 t), 0, 0) := by
        intro N
        induction N with
        | zero => intros; omega
        | succ N ih25 =>
          intro i q29_25 hf0_25 hN25
          iterate 2 refine hR (?_ : R (_, _, _, _, _, _))
          refine hR (j_ge (by omega) (by omega) (fun hc2 => ?_) (fun hc2 => ?_))
          rotate_left
          · skip
            iterate 4 refine hR (?_ : R (_, _, _, _, _, _))
            refine hR (t_stx (by omega) (by omega) (Nat.le_of_ble_eq_true rfl) fun k29_3 => (?_ : R (_, _, _, (zMi c0 c1 c2 c3 c4 c5 c6 c7 c8 c9 c10 c11 c12 c13 f0 f9 f10 f11 f12 f13 f15 f16 f17 f20 f21 f22 f23 f26 f28 f31 f32 f33 f38 f41 f44 x14 g15 g16 g17 g18 g19 g20 g21 g22 g23 g24 g25 g26 g27 q28_2 k29_3 g30 g31 g32 g33 g34 g35 g36 g37 g38 g39 g40 g41 g42 g43 g44 t), _, _)))
            refine hR (t_inc ?_)
            refine hR (?_ : R (_, _, _, _, _, _))
            exact ih25 _ _ (by omega) (by omega)
          iterate 2 refine hR (?_ : R (_, _, _, _, _, _))
          refine hR (?_ : R (_, _, _, (zMi c0 c1 c2 c3 c4 c5 c6 c7 c8 c9 c10 c11 c12 c13 f0 f9 f10 f11 f12 f13 f15 f16 f17 f20 f21 f22 f23 f26 f28 0 f32 f33 f38 f41 f44 x14 g15 g16 g17 g18 g19 g20 g21 g22 g23 g24 g25 g26 g27 q28_2 q29_25 g30 g31 g32 g33 g34 g35 g36 g37 g38 g39 g40 g41 g42 g43 g44 t), _, _))
          iterate 2 refine hR (?_ : R (_, _, _, _, _, _))
          refine hR (?_ : R (_, _, _, (zMi c0 c1 c2 c3 c4 c5 c6 c7 c8 c9 c10 c11 c12 c13 f0 f9 f10 f11 f12 f13 f15 f16 f17 f20 f21 f22 f23 f26 f28 0 0 f33 f38 f41 f44 x14 g15 g16 g17 g18 g19 g20 g21 g22 g23 g24 g25 g26 g27 q28_2 q29_25 g30 g31 g32 g33 g34 g35 g36 g37 g38 g39 g40 g41 g42 g43 g44 t), _, _))
          iterate 2 refine hR (?_ : R (_, _, _, _, _, _))
          refine hR (?_ : R (_, _, _, (zMi c0 c1 c2 c3 c4 c5 c6 c7 c8 c9 c10 c11 c12 c13 f0 f9 f10 f11 f12 f13 f15 f16 f17 f20 f21 f22 f23 f26 f28 0 0 0 f38 f41 f44 x14 g15 g16 g17 g18 g19 g20 g21 g22 g23 g24 g25 g26 g27 q28_2 q29_25 g30 g31 g32 g33 g34 g35 g36 g37 g38 g39 g40 g41 g42 g43 g44 t), _, _))
          exact hR (zret_i rfl (Nat.le_refl _) rfl (h _ _ _ _ _ hq28_2 (by omega)))
      exact lp25 400000000 _ _ (by omega) (by omega)
  exact lp2 400000000 _ _ (by omega) hb28 (by omega)
theorem m_reads (d : Nat) (a1 a2 : Int) (hb25 : zB 0 3 g25) (hb28 : zB 0 5460 g28) (hr2 : bkOK g20) (hr3 : 0 ≤ f20 ∧ f20 ≤ 1) (hr4 : 0 ≤ f23 ∧ f23 ≤ 5) (hr5 : 0 ≤ a1 ∧ a1 ≤ 3) (hr6 : -2147483648 ≤ a2 ∧ a2 ≤ 2147483647) (Q : zQ) (h : ∀ (v : Int) (y26 : Int) (y33 : Int) (k25 : Nat → Int32) (k28 : Nat → Int32) (k29 : Nat → Int32), zB 0 3 k25 → zB 0 5460 k28 → (v = 0 ∨ v = 1) → Q (some (.int (Int32.ofInt v))) (zMi c0 c1 c2 c3 c4 c5 c6 c7 c8 c9 c10 c11 c12 c13 f0 f9 f10 f11 f12 f13 f15 f16 f17 f20 f21 f22 f23 y26 f28 f31 f32 y33 f38 f41 f44 x14 g15 g16 g17 g18 g19 g20 g21 g22 g23 g24 k25 g26 g27 k28 k29 g30 g31 g32 g33 g34 g35 g36 g37 g38 g39 g40 g41 g42 g43 g44 t)) : zCl zTab (d + 5) iX12_reads [.ref 14, .int (Int32.ofInt a1), .int (Int32.ofInt a2)] (zMi c0 c1 c2 c3 c4 c5 c6 c7 c8 c9 c10 c11 c12 c13 f0 f9 f10 f11 f12 f13 f15 f16 f17 f20 f21 f22 f23 f26 f28 f31 f32 f33 f38 f41 f44 x14 g15 g16 g17 g18 g19 g20 g21 g22 g23 g24 g25 g26 g27 g28 g29 g30 g31 g32 g33 g34 g35 g36 g37 g38 g39 g40 g41 g42 g43 g44 t) 0 0 Q := by
  refine zCl_i (M := kX12_reads) rfl (Nat.le_of_ble_eq_true rfl) fun R hR => ?_
  iterate 2 refine hR (?_ : R (_, _, _, _, _, _))
  refine hR (zcall_i 0 0 (Nat.le_of_ble_eq_true rfl) (Nat.le_of_ble_eq_true rfl) (m_isReader _ a2 (by omega) (by omega) _ fun v1 hp2 => ?_))
  refine (?_ : R (_, _, (.int (Int32.ofInt v1)) :: [], (zMi c0 c1 c2 c3 c4 c5 c6 c7 c8 c9 c10 c11 c12 c13 f0 f9 f10 f11 f12 f13 f15 f16 f17 f20 f21 f22 f23 f26 f28 f31 f32 f33 f38 f41 f44 x14 g15 g16 g17 g18 g19 g20 g21 g22 g23 g24 g25 g26 g27 g28 g29 g30 g31 g32 g33 g34 g35 g36 g37 g38 g39 g40 g41 g42 g43 g44 t), 0, 0))
  refine hR (k_ne (by omega) (fun hc3 => ?_) (fun hc3 => ?_))
  rotate_left
  · skip
    refine hR (?_ : R (_, _, _, _, _, _))
    exact hR (zret_i rfl (Nat.le_refl _) (zbo (by omega)) (h _ _ _ _ _ _ hb25 hb28 (by omega)))
  iterate 6 refine hR (?_ : R (_, _, _, _, _, _))
  refine hR (zcall_i 0 0 (Nat.le_of_ble_eq_true rfl) (Nat.le_of_ble_eq_true rfl) (m_has _ f33 a1 _ _ fun v4 hp5 => ?_))
  refine (?_ : R (_, _, (.int (Int32.ofInt v4)) :: (.int (Int32.ofInt a1)) :: (.ref 28) :: [], (zMi c0 c1 c2 c3 c4 c5 c6 c7 c8 c9 c10 c11 c12 c13 f0 f9 f10 f11 f12 f13 f15 f16 f17 f20 f21 f22 f23 f26 f28 f31 f32 f33 f38 f41 f44 x14 g15 g16 g17 g18 g19 g20 g21 g22 g23 g24 g25 g26 g27 g28 g29 g30 g31 g32 g33 g34 g35 g36 g37 g38 g39 g40 g41 g42 g43 g44 t), 0, 0))
  refine hR (k_eq (by omega) (fun hc6 => ?_) (fun hc6 => ?_))
  rotate_left
  · skip
    iterate 3 refine hR (?_ : R (_, _, _, _, _, _))
    refine hR (t_ldB hb28 (by omega) (by omega) (Nat.le_of_ble_eq_true rfl) fun v19 ev19 lv19 uv19 => ?_)
    clear ev19
    refine hR (?_ : R (_, _, _, _, _, _))
    refine hR (t_stB hb28 (by omega) (by omega) (by omega) (by omega) (by omega) (by omega) (Nat.le_of_ble_eq_true rfl) fun k28_20 hk28_20 => (?_ : R (_, _, _, (zMi c0 c1 c2 c3 c4 c5 c6 c7 c8 c9 c10 c11 c12 c13 f0 f9 f10 f11 f12 f13 f15 f16 f17 f20 f21 f22 f23 f26 f28 f31 f32 f33 f38 f41 f44 x14 g15 g16 g17 g18 g19 g20 g21 g22 g23 g24 g25 g26 g27 k28_20 g29 g30 g31 g32 g33 g34 g35 g36 g37 g38 g39 g40 g41 g42 g43 g44 t), _, _)))
    iterate 5 refine hR (?_ : R (_, _, _, _, _, _))
    refine hR (t_o fun v21 rv21 => ?_)
    refine hR (?_ : R (_, _, _, _, _, _))
    refine hR (t_o fun v22 rv22 => ?_)
    refine hR (t_o fun v23 rv23 => ?_)
    refine hR (?_ : R (_, _, _, (zMi c0 c1 c2 c3 c4 c5 c6 c7 c8 c9 c10 c11 c12 c13 f0 f9 f10 f11 f12 f13 f15 f16 f17 f20 f21 f22 f23 f26 f28 f31 f32 v23 f38 f41 f44 x14 g15 g16 g17 g18 g19 g20 g21 g22 g23 g24 g25 g26 g27 k28_20 g29 g30 g31 g32 g33 g34 g35 g36 g37 g38 g39 g40 g41 g42 g43 g44 t), _, _))
    iterate 4 refine hR (?_ : R (_, _, _, _, _, _))
    refine hR (t_ldo (by omega) (by omega) (Nat.le_of_ble_eq_true rfl) fun v24 rv24 => ?_)
    refine hR (?_ : R (_, _, _, _, _, _))
    refine hR (t_add ?_)
    refine hR (t_stx (by omega) (by omega) (Nat.le_of_ble_eq_true rfl) fun k29_25 => (?_ : R (_, _, _, (zMi c0 c1 c2 c3 c4 c5 c6 c7 c8 c9 c10 c11 c12 c13 f0 f9 f10 f11 f12 f13 f15 f16 f17 f20 f21 f22 f23 f26 f28 f31 f32 v23 f38 f41 f44 x14 g15 g16 g17 g18 g19 g20 g21 g22 g23 g24 g25 g26 g27 k28_20 k29_25 g30 g31 g32 g33 g34 g35 g36 g37 g38 g39 g40 g41 g42 g43 g44 t), _, _)))
    refine hR (?_ : R (_, _, _, _, _, _))
    exact hR (zret_i rfl (Nat.le_refl _) (zbo (by omega)) (h _ _ _ _ _ _ hb25 hk28_20 (by omega)))
  iterate 4 refine hR (?_ : R (_, _, _, _, _, _))
  refine hR (t_ldB hb28 (by omega) (by omega) (Nat.le_of_ble_eq_true rfl) fun v7 ev7 lv7 uv7 => ?_)
  clear ev7
  refine hR (?_ : R (_, _, _, _, _, _))
  refine hR (zcall_i 0 0 (Nat.le_of_ble_eq_true rfl) (Nat.le_of_ble_eq_true rfl) (m_readBy _ v7 a2 hb25 (by omega) hr2 (by omega) (by omega) _ fun v8 y26_9 k25_10 hp11 hp12 => ?_))
  refine (?_ : R (_, _, (.int (Int32.ofInt v8)) :: (.int (Int32.ofInt a1)) :: (.ref 28) :: [], (zMi c0 c1 c2 c3 c4 c5 c6 c7 c8 c9 c10 c11 c12 c13 f0 f9 f10 f11 f12 f13 f15 f16 f17 f20 f21 f22 f23 y26_9 f28 f31 f32 f33 f38 f41 f44 x14 g15 g16 g17 g18 g19 g20 g21 g22 g23 g24 k25_10 g26 g27 g28 g29 g30 g31 g32 g33 g34 g35 g36 g37 g38 g39 g40 g41 g42 g43 g44 t), 0, 0))
  refine hR (t_stB hb28 (by omega) (by omega) (by omega) (by omega) (by omega) (by omega) (Nat.le_of_ble_eq_true rfl) fun k28_13 hk28_13 => (?_ : R (_, _, _, (zMi c0 c1 c2 c3 c4 c5 c6 c7 c8 c9 c10 c11 c12 c13 f0 f9 f10 f11 f12 f13 f15 f16 f17 f20 f21 f22 f23 y26_9 f28 f31 f32 f33 f38 f41 f44 x14 g15 g16 g17 g18 g19 g20 g21 g22 g23 g24 k25_10 g26 g27 k28_13 g29 g30 g31 g32 g33 g34 g35 g36 g37 g38 g39 g40 g41 g42 g43 g44 t), _, _)))
  iterate 5 refine hR (?_ : R (_, _, _, _, _, _))
  refine hR (t_o fun v14 rv14 => ?_)
  refine hR (?_ : R (_, _, _, _, _, _))
  refine hR (t_o fun v15 rv15 => ?_)
  refine hR (t_o fun v16 rv16 => ?_)
  refine hR (?_ : R (_, _, _, (zMi c0 c1 c2 c3 c4 c5 c6 c7 c8 c9 c10 c11 c12 c13 f0 f9 f10 f11 f12 f13 f15 f16 f17 f20 f21 f22 f23 y26_9 f28 f31 f32 v16 f38 f41 f44 x14 g15 g16 g17 g18 g19 g20 g21 g22 g23 g24 k25_10 g26 g27 k28_13 g29 g30 g31 g32 g33 g34 g35 g36 g37 g38 g39 g40 g41 g42 g43 g44 t), _, _))
  iterate 4 refine hR (?_ : R (_, _, _, _, _, _))
  refine hR (t_ldo (by omega) (by omega) (Nat.le_of_ble_eq_true rfl) fun v17 rv17 => ?_)
  refine hR (?_ : R (_, _, _, _, _, _))
  refine hR (t_add ?_)
  refine hR (t_stx (by omega) (by omega) (Nat.le_of_ble_eq_true rfl) fun k29_18 => (?_ : R (_, _, _, (zMi c0 c1 c2 c3 c4 c5 c6 c7 c8 c9 c10 c11 c12 c13 f0 f9 f10 f11 f12 f13 f15 f16 f17 f20 f21 f22 f23 y26_9 f28 f31 f32 v16 f38 f41 f44 x14 g15 g16 g17 g18 g19 g20 g21 g22 g23 g24 k25_10 g26 g27 k28_13 k29_18 g30 g31 g32 g33 g34 g35 g36 g37 g38 g39 g40 g41 g42 g43 g44 t), _, _)))
  refine hR (?_ : R (_, _, _, _, _, _))
  exact hR (zret_i rfl (Nat.le_refl _) (zbo (by omega)) (h _ _ _ _ _ _ hp11 hk28_13 (by omega)))
theorem m_hushes (d : Nat) (a1 : Int) (hr0 : 0 ≤ a1 ∧ a1 ≤ 3) (Q : zQ) (h : ∀ (v : Int) (y33 : Int), (v = 0 ∨ v = 1) → Q (some (.int (Int32.ofInt v))) (zMi c0 c1 c2 c3 c4 c5 c6 c7 c8 c9 c10 c11 c12 c13 f0 f9 f10 f11 f12 f13 f15 f16 f17 f20 f21 f22 f23 f26 f28 f31 f32 y33 f38 f41 f44 x14 g15 g16 g17 g18 g19 g20 g21 g22 g23 g24 g25 g26 g27 g28 g29 g30 g31 g32 g33 g34 g35 g36 g37 g38 g39 g40 g41 g42 g43 g44 t)) : zCl zTab (d + 2) iX12_hushes [.ref 14, .int (Int32.ofInt a1)] (zMi c0 c1 c2 c3 c4 c5 c6 c7 c8 c9 c10 c11 c12 c13 f0 f9 f10 f11 f12 f13 f15 f16 f17 f20 f21 f22 f23 f26 f28 f31 f32 f33 f38 f41 f44 x14 g15 g16 g17 g18 g19 g20 g21 g22 g23 g24 g25 g26 g27 g28 g29 g30 g31 g32 g33 g34 g35 g36 g37 g38 g39 g40 g41 g42 g43 g44 t) 0 0 Q := by
  refine zCl_i (M := kX12_hushes) rfl (Nat.le_of_ble_eq_true rfl) fun R hR => ?_
  iterate 3 refine hR (?_ : R (_, _, _, _, _, _))
  refine hR (zcall_i 0 0 (Nat.le_of_ble_eq_true rfl) (Nat.le_of_ble_eq_true rfl) (m_has _ f33 a1 _ _ fun v1 hp2 => ?_))
  refine (?_ : R (_, _, (.int (Int32.ofInt v1)) :: [], (zMi c0 c1 c2 c3 c4 c5 c6 c7 c8 c9 c10 c11 c12 c13 f0 f9 f10 f11 f12 f13 f15 f16 f17 f20 f21 f22 f23 f26 f28 f31 f32 f33 f38 f41 f44 x14 g15 g16 g17 g18 g19 g20 g21 g22 g23 g24 g25 g26 g27 g28 g29 g30 g31 g32 g33 g34 g35 g36 g37 g38 g39 g40 g41 g42 g43 g44 t), 0, 0))
  refine hR (k_ne (by omega) (fun hc3 => ?_) (fun hc3 => ?_))
  · skip
    iterate 7 refine hR (?_ : R (_, _, _, _, _, _))
    refine hR (t_o fun v4 rv4 => ?_)
    refine hR (t_o fun v5 rv5 => ?_)
    refine hR (?_ : R (_, _, _, (zMi c0 c1 c2 c3 c4 c5 c6 c7 c8 c9 c10 c11 c12 c13 f0 f9 f10 f11 f12 f13 f15 f16 f17 f20 f21 f22 f23 f26 f28 f31 f32 v5 f38 f41 f44 x14 g15 g16 g17 g18 g19 g20 g21 g22 g23 g24 g25 g26 g27 g28 g29 g30 g31 g32 g33 g34 g35 g36 g37 g38 g39 g40 g41 g42 g43 g44 t), _, _))
    refine hR (?_ : R (_, _, _, _, _, _))
    exact hR (zret_i rfl (Nat.le_refl _) (zbo (by omega)) (h _ _ (by omega)))
  iterate 8 refine hR (?_ : R (_, _, _, _, _, _))
  refine hR (t_o fun v6 rv6 => ?_)
  refine hR (t_o fun v7 rv7 => ?_)
  refine hR (?_ : R (_, _, _, (zMi c0 c1 c2 c3 c4 c5 c6 c7 c8 c9 c10 c11 c12 c13 f0 f9 f10 f11 f12 f13 f15 f16 f17 f20 f21 f22 f23 f26 f28 f31 f32 v7 f38 f41 f44 x14 g15 g16 g17 g18 g19 g20 g21 g22 g23 g24 g25 g26 g27 g28 g29 g30 g31 g32 g33 g34 g35 g36 g37 g38 g39 g40 g41 g42 g43 g44 t), _, _))
  refine hR (?_ : R (_, _, _, _, _, _))
  exact hR (zret_i rfl (Nat.le_refl _) (zbo (by omega)) (h _ _ (by omega)))
theorem m_goesOn (d : Nat)  (Q : zQ) (h : ∀ (v : Int) (y31 : Int), (v = 0 ∨ v = 1) → Q (some (.int (Int32.ofInt v))) (zMi c0 c1 c2 c3 c4 c5 c6 c7 c8 c9 c10 c11 c12 c13 f0 f9 f10 f11 f12 f13 f15 f16 f17 f20 f21 f22 f23 f26 f28 y31 f32 f33 f38 f41 f44 x14 g15 g16 g17 g18 g19 g20 g21 g22 g23 g24 g25 g26 g27 g28 g29 g30 g31 g32 g33 g34 g35 g36 g37 g38 g39 g40 g41 g42 g43 g44 t)) : zCl zTab (d + 1) iX12_goesOn [.ref 14] (zMi c0 c1 c2 c3 c4 c5 c6 c7 c8 c9 c10 c11 c12 c13 f0 f9 f10 f11 f12 f13 f15 f16 f17 f20 f21 f22 f23 f26 f28 f31 f32 f33 f38 f41 f44 x14 g15 g16 g17 g18 g19 g20 g21 g22 g23 g24 g25 g26 g27 g28 g29 g30 g31 g32 g33 g34 g35 g36 g37 g38 g39 g40 g41 g42 g43 g44 t) 0 0 Q := by
  refine zCl_i (M := kX12_goesOn) rfl (Nat.le_of_ble_eq_true rfl) fun R hR => ?_
  iterate 2 refine hR (?_ : R (_, _, _, _, _, _))
  refine hR (t_c 99 (by decide) ?_)
  refine hR (j_any ?_ ?_)
  · skip
    iterate 6 refine hR (?_ : R (_, _, _, _, _, _))
    refine hR (k_eq (by omega) (fun _ => ?_) (fun hc => by omega))
    refine hR (?_ : R (_, _, _, _, _, _))
    refine hR (t_add ?_)
    refine hR (?_ : R (_, _, _, (zMi c0 c1 c2 c3 c4 c5 c6 c7 c8 c9 c10 c11 c12 c13 f0 f9 f10 f11 f12 f13 f15 f16 f17 f20 f21 f22 f23 f26 f28 (f31 + 0) f32 f33 f38 f41 f44 x14 g15 g16 g17 g18 g19 g20 g21 g22 g23 g24 g25 g26 g27 g28 g29 g30 g31 g32 g33 g34 g35 g36 g37 g38 g39 g40 g41 g42 g43 g44 t), _, _))
    refine hR (?_ : R (_, _, _, _, _, _))
    exact hR (zret_i rfl (Nat.le_refl _) (zbo (by omega)) (h _ _ (by omega)))
  iterate 7 refine hR (?_ : R (_, _, _, _, _, _))
  refine hR (k_eq (by omega) (fun hc => by omega) (fun _ => ?_))
  iterate 2 refine hR (?_ : R (_, _, _, _, _, _))
  refine hR (t_add ?_)
  refine hR (?_ : R (_, _, _, (zMi c0 c1 c2 c3 c4 c5 c6 c7 c8 c9 c10 c11 c12 c13 f0 f9 f10 f11 f12 f13 f15 f16 f17 f20 f21 f22 f23 f26 f28 (f31 + 1) f32 f33 f38 f41 f44 x14 g15 g16 g17 g18 g19 g20 g21 g22 g23 g24 g25 g26 g27 g28 g29 g30 g31 g32 g33 g34 g35 g36 g37 g38 g39 g40 g41 g42 g43 g44 t), _, _))
  refine hR (?_ : R (_, _, _, _, _, _))
  exact hR (zret_i rfl (Nat.le_refl _) (zbo (by omega)) (h _ _ (by omega)))
theorem m_does (d : Nat) (a1 : Int) (hb25 : zB 0 3 g25) (hb28 : zB 0 5460 g28) (hr2 : bkOK g20) (hr3 : yrOK g21) (hr4 : 0 ≤ f20 ∧ f20 ≤ 1) (hr5 : 0 ≤ f23 ∧ f23 ≤ 5) (hr6 : 0 ≤ f28 ∧ f28 ≤ 1) (hr7 : 0 ≤ f22 ∧ f22 ≤ 5460) (hr8 : 0 ≤ f32 ∧ f32 ≤ 3) (hr9 : 0 ≤ a1 ∧ a1 ≤ 39) (Q : zQ) (h : ∀ (v : Int) (y26 : Int) (y31 : Int) (y32 : Int) (y33 : Int) (k25 : Nat → Int32) (k28 : Nat → Int32) (k29 : Nat → Int32), zB 0 3 k25 → zB 0 5460 k28 → (v = 0 ∨ v = 1) → (0 ≤ y32 ∧ y32 ≤ 3) → Q (some (.int (Int32.ofInt v))) (zMi c0 c1 c2 c3 c4 c5 c6 c7 c8 c9 c10 c11 c12 c13 f0 f9 f10 f11 f12 f13 f15 f16 f17 f20 f21 f22 f23 y26 f28 y31 y32 y33 f38 f41 f44 x14 g15 g16 g17 g18 g19 g20 g21 g22 g23 g24 k25 g26 g27 k28 k29 g30 g31 g32 g33 g34 g35 g36 g37 g38 g39 g40 g41 g42 g43 g44 t)) : zCl zTab (d + 6) iX12_does [.ref 14, .int (Int32.ofInt a1)] (zMi c0 c1 c2 c3 c4 c5 c6 c7 c8 c9 c10 c11 c12 c13 f0 f9 f10 f11 f12 f13 f15 f16 f17 f20 f21 f22 f23 f26 f28 f31 f32 f33 f38 f41 f44 x14 g15 g16 g17 g18 g19 g20 g21 g22 g23 g24 g25 g26 g27 g28 g29 g30 g31 g32 g33 g34 g35 g36 g37 g38 g39 g40 g41 g42 g43 g44 t) 0 0 Q := by
  refine zCl_i (M := kX12_does) rfl (Nat.le_of_ble_eq_true rfl) fun R hR => ?_
  have hyx := yr_d hr3 (b := f28.toNat) (k := a1.toNat) (by omega) (by omega)
  iterate 3 refine hR (?_ : R (_, _, _, _, _, _))
  refine hR (zcall_i 0 0 (Nat.le_of_ble_eq_true rfl) (Nat.le_of_ble_eq_true rfl) (m_deedOf1 _ a1 (by omega) (by omega) _ fun v1 hp2 => ?_))
  refine (?_ : R (_, _, (.int (Int32.ofInt v1)) :: [], (zMi c0 c1 c2 c3 c4 c5 c6 c7 c8 c9 c10 c11 c12 c13 f0 f9 f10 f11 f12 f13 f15 f16 f17 f20 f21 f22 f23 f26 f28 f31 f32 f33 f38 f41 f44 x14 g15 g16 g17 g18 g19 g20 g21 g22 g23 g24 g25 g26 g27 g28 g29 g30 g31 g32 g33 g34 g35 g36 g37 g38 g39 g40 g41 g42 g43 g44 t), 0, 0))
  iterate 4 refine hR (?_ : R (_, _, _, _, _, _))
  refine hR (zcall_i 0 0 (Nat.le_of_ble_eq_true rfl) (Nat.le_of_ble_eq_true rfl) (m_deedOf0 _ a1 (by omega) (by omega) _ fun v3 hp4 => ?_))
  refine (?_ : R (_, _, (.int (Int32.ofInt v3)) :: [], (zMi c0 c1 c2 c3 c4 c5 c6 c7 c8 c9 c10 c11 c12 c13 f0 f9 f10 f11 f12 f13 f15 f16 f17 f20 f21 f22 f23 f26 f28 f31 f32 f33 f38 f41 f44 x14 g15 g16 g17 g18 g19 g20 g21 g22 g23 g24 g25 g26 g27 g28 g29 g30 g31 g32 g33 g34 g35 g36 g37 g38 g39 g40 g41 g42 g43 g44 t), 0, 0))
  refine hR (?_ : _ ∧ _)
  rw [zti (e := v3) (by omega) (by omega)]
  refine ⟨fun hs5 => ?_, fun hs5 => ?_⟩
  · skip
    refine hR (?_ : R (_, _, _, _, _, _))
    refine hR (zcall_i 0 0 (Nat.le_of_ble_eq_true rfl) (Nat.le_of_ble_eq_true rfl) (m_goesOn _ _ fun v6 y31_7 hp8 => ?_))
    refine (?_ : R (_, _, (.int (Int32.ofInt v6)) :: [], (zMi c0 c1 c2 c3 c4 c5 c6 c7 c8 c9 c10 c11 c12 c13 f0 f9 f10 f11 f12 f13 f15 f16 f17 f20 f21 f22 f23 f26 f28 y31_7 f32 f33 f38 f41 f44 x14 g15 g16 g17 g18 g19 g20 g21 g22 g23 g24 g25 g26 g27 g28 g29 g30 g31 g32 g33 g34 g35 g36 g37 g38 g39 g40 g41 g42 g43 g44 t), 0, 0))
    exact hR (zret_i rfl (Nat.le_refl _) (zbo (by omega)) (h _ _ _ _ _ _ _ _ hb25 hb28 (by omega) (by omega)))
  · skip
    have hs5d : v3 = 0 ∨ v3 = 1 ∨ v3 = 2 ∨ v3 = 3 ∨ v3 = 4 := by omega
    rcases hs5d with hs5e | hs5e | hs5e | hs5e | hs5e
    · refine ⟨35, by rw [hs5e]; rfl, (?_ : R (_, _, _, _, _, _))⟩
      iterate 5 refine hR (?_ : R (_, _, _, _, _, _))
      refine hR (zcall_i 0 0 (Nat.le_of_ble_eq_true rfl) (Nat.le_of_ble_eq_true rfl) (m_deedOf2 _ a1 (by omega) (by omega) _ fun v9 hp10 => ?_))
      refine (?_ : R (_, _, (.int (Int32.ofInt v9)) :: (.int (Int32.ofInt v1)) :: (.ref 14) :: [], (zMi c0 c1 c2 c3 c4 c5 c6 c7 c8 c9 c10 c11 c12 c13 f0 f9 f10 f11 f12 f13 f15 f16 f17 f20 f21 f22 f23 f26 f28 f31 f32 f33 f38 f41 f44 x14 g15 g16 g17 g18 g19 g20 g21 g22 g23 g24 g25 g26 g27 g28 g29 g30 g31 g32 g33 g34 g35 g36 g37 g38 g39 g40 g41 g42 g43 g44 t), 0, 0))
      refine hR (zcall_i 0 0 (Nat.le_of_ble_eq_true rfl) (Nat.le_of_ble_eq_true rfl) (m_reads _ v1 v9 hb25 hb28 hr2 (by omega) (by omega) (by omega) (by omega) _ fun v11 y26_12 y33_13 k25_14 k28_15 k29_16 hp17 hp18 hp19 => ?_))
      refine (?_ : R (_, _, (.int (Int32.ofInt v11)) :: [], (zMi c0 c1 c2 c3 c4 c5 c6 c7 c8 c9 c10 c11 c12 c13 f0 f9 f10 f11 f12 f13 f15 f16 f17 f20 f21 f22 f23 y26_12 f28 f31 f32 y33_13 f38 f41 f44 x14 g15 g16 g17 g18 g19 g20 g21 g22 g23 g24 k25_14 g26 g27 k28_15 k29_16 g30 g31 g32 g33 g34 g35 g36 g37 g38 g39 g40 g41 g42 g43 g44 t), 0, 0))
      exact hR (zret_i rfl (Nat.le_refl _) (zbo (by omega)) (h _ _ _ _ _ _ _ _ hp17 hp18 (by omega) (by omega)))
    · refine ⟨47, by rw [hs5e]; rfl, (?_ : R (_, _, _, _, _, _))⟩
      iterate 5 refine hR (?_ : R (_, _, _, _, _, _))
      refine hR (zcall_i 0 0 (Nat.le_of_ble_eq_true rfl) (Nat.le_of_ble_eq_true rfl) (m_deedOf2 _ a1 (by omega) (by omega) _ fun v20 hp21 => ?_))
      refine (?_ : R (_, _, (.int (Int32.ofInt v20)) :: (.ref 28) :: [], (zMi c0 c1 c2 c3 c4 c5 c6 c7 c8 c9 c10 c11 c12 c13 f0 f9 f10 f11 f12 f13 f15 f16 f17 f20 f21 f22 f23 f26 f28 f31 f32 f33 f38 f41 f44 x14 g15 g16 g17 g18 g19 g20 g21 g22 g23 g24 g25 g26 g27 g28 g29 g30 g31 g32 g33 g34 g35 g36 g37 g38 g39 g40 g41 g42 g43 g44 t), 0, 0))
      iterate 3 refine hR (?_ : R (_, _, _, _, _, _))
      refine hR (t_ldB hb28 (by omega) (by omega) (Nat.le_of_ble_eq_true rfl) fun v22 ev22 lv22 uv22 => ?_)
      clear ev22
      refine hR (t_stB hb28 (by omega) (by omega) (by omega) (by omega) (by omega) (by omega) (Nat.le_of_ble_eq_true rfl) fun k28_23 hk28_23 => (?_ : R (_, _, _, (zMi c0 c1 c2 c3 c4 c5 c6 c7 c8 c9 c10 c11 c12 c13 f0 f9 f10 f11 f12 f13 f15 f16 f17 f20 f21 f22 f23 f26 f28 f31 f32 f33 f38 f41 f44 x14 g15 g16 g17 g18 g19 g20 g21 g22 g23 g24 g25 g26 g27 k28_23 g29 g30 g31 g32 g33 g34 g35 g36 g37 g38 g39 g40 g41 g42 g43 g44 t), _, _)))
      refine hR (?_ : R (_, _, _, _, _, _))
      exact hR (zret_i rfl (Nat.le_refl _) (zbo (by omega)) (h _ _ _ _ _ _ _ _ hb25 hk28_23 (by omega) (by omega)))
    · refine ⟨66, by rw [hs5e]; rfl, (?_ : R (_, _, _, _, _, _))⟩
      iterate 2 refine hR (?_ : R (_, _, _, _, _, _))
      refine hR (?_ : R (_, _, _, (zMi c0 c1 c2 c3 c4 c5 c6 c7 c8 c9 c10 c11 c12 c13 f0 f9 f10 f11 f12 f13 f15 f16 f17 f20 f21 f22 f23 f26 f28 f31 v1 f33 f38 f41 f44 x14 g15 g16 g17 g18 g19 g20 g21 g22 g23 g24 g25 g26 g27 g28 g29 g30 g31 g32 g33 g34 g35 g36 g37 g38 g39 g40 g41 g42 g43 g44 t), _, _))
      refine hR (?_ : R (_, _, _, _, _, _))
      exact hR (zret_i rfl (Nat.le_refl _) (zbo (by omega)) (h _ _ _ _ _ _ _ _ hb25 hb28 (by omega) (by omega)))
    · refine ⟨73, by rw [hs5e]; rfl, (?_ : R (_, _, _, _, _, _))⟩
      iterate 6 refine hR (?_ : R (_, _, _, _, _, _))
      refine hR (j_ne (by omega) (by omega) (fun hc24 => ?_) (fun hc24 => ?_))
      · skip
        iterate 2 refine hR (?_ : R (_, _, _, _, _, _))
        refine hR (t_stB hb28 (by omega) (by omega) (by omega) (by omega) (by omega) (by omega) (Nat.le_of_ble_eq_true rfl) fun k28_25 hk28_25 => (?_ : R (_, _, _, (zMi c0 c1 c2 c3 c4 c5 c6 c7 c8 c9 c10 c11 c12 c13 f0 f9 f10 f11 f12 f13 f15 f16 f17 f20 f21 f22 f23 f26 f28 f31 f32 f33 f38 f41 f44 x14 g15 g16 g17 g18 g19 g20 g21 g22 g23 g24 g25 g26 g27 k28_25 g29 g30 g31 g32 g33 g34 g35 g36 g37 g38 g39 g40 g41 g42 g43 g44 t), _, _)))
        iterate 3 refine hR (?_ : R (_, _, _, _, _, _))
        refine hR (j_eq (by omega) (by omega) (fun hc26 => ?_) (fun hc26 => ?_))
        · skip
          refine hR (?_ : R (_, _, _, _, _, _))
          exact hR (zret_i rfl (Nat.le_refl _) (zbo (by omega)) (h _ _ _ _ _ _ _ _ hb25 hk28_25 (by omega) (by omega)))
        iterate 2 refine hR (?_ : R (_, _, _, _, _, _))
        exact hR (zret_i rfl (Nat.le_refl _) (zbo (by omega)) (h _ _ _ _ _ _ _ _ hb25 hk28_25 (by omega) (by omega)))
      iterate 3 refine hR (?_ : R (_, _, _, _, _, _))
      refine hR (t_ldB hb28 (by omega) (by omega) (Nat.le_of_ble_eq_true rfl) fun v27 ev27 lv27 uv27 => ?_)
      clear ev27
      refine hR (?_ : R (_, _, _, _, _, _))
      refine hR (t_stB hb28 (by omega) (by omega) (by omega) (by omega) (by omega) (by omega) (Nat.le_of_ble_eq_true rfl) fun k28_28 hk28_28 => (?_ : R (_, _, _, (zMi c0 c1 c2 c3 c4 c5 c6 c7 c8 c9 c10 c11 c12 c13 f0 f9 f10 f11 f12 f13 f15 f16 f17 f20 f21 f22 f23 f26 f28 f31 f32 f33 f38 f41 f44 x14 g15 g16 g17 g18 g19 g20 g21 g22 g23 g24 g25 g26 g27 k28_28 g29 g30 g31 g32 g33 g34 g35 g36 g37 g38 g39 g40 g41 g42 g43 g44 t), _, _)))
      iterate 3 refine hR (?_ : R (_, _, _, _, _, _))
      refine hR (j_eq (by omega) (by omega) (fun hc29 => ?_) (fun hc29 => ?_))
      · skip
        refine hR (?_ : R (_, _, _, _, _, _))
        exact hR (zret_i rfl (Nat.le_refl _) (zbo (by omega)) (h _ _ _ _ _ _ _ _ hb25 hk28_28 (by omega) (by omega)))
      iterate 2 refine hR (?_ : R (_, _, _, _, _, _))
      exact hR (zret_i rfl (Nat.le_refl _) (zbo (by omega)) (h _ _ _ _ _ _ _ _ hb25 hk28_28 (by omega) (by omega)))
    · refine ⟨114, by rw [hs5e]; rfl, (?_ : R (_, _, _, _, _, _))⟩
      iterate 2 refine hR (?_ : R (_, _, _, _, _, _))
      refine hR (zcall_i 0 0 (Nat.le_of_ble_eq_true rfl) (Nat.le_of_ble_eq_true rfl) (m_hushes _ v1 (by omega) _ fun v30 y33_31 hp32 => ?_))
      refine (?_ : R (_, _, (.int (Int32.ofInt v30)) :: [], (zMi c0 c1 c2 c3 c4 c5 c6 c7 c8 c9 c10 c11 c12 c13 f0 f9 f10 f11 f12 f13 f15 f16 f17 f20 f21 f22 f23 f26 f28 f31 f32 y33_31 f38 f41 f44 x14 g15 g16 g17 g18 g19 g20 g21 g22 g23 g24 g25 g26 g27 g28 g29 g30 g31 g32 g33 g34 g35 g36 g37 g38 g39 g40 g41 g42 g43 g44 t), 0, 0))
      exact hR (zret_i rfl (Nat.le_refl _) (zbo (by omega)) (h _ _ _ _ _ _ _ _ hb25 hb28 (by omega) (by omega)))
theorem m_play1 (d : Nat) (a1 : Int) (hb25 : zB 0 3 g25) (hb28 : zB 0 5460 g28) (hr2 : bkOK g20) (hr3 : yrOK g21) (hr4 : 0 ≤ f20 ∧ f20 ≤ 1) (hr5 : 0 ≤ f23 ∧ f23 ≤ 5) (hr6 : 0 ≤ f28 ∧ f28 ≤ 1) (hr7 : 0 ≤ f22 ∧ f22 ≤ 5460) (hr8 : 0 ≤ a1 ∧ a1 ≤ 40) (Q : zQ) (h : ∀ (v : Int) (y26 : Int) (y31 : Int) (y32 : Int) (y33 : Int) (k25 : Nat → Int32) (k28 : Nat → Int32) (k29 : Nat → Int32), zB 0 3 k25 → zB 0 5460 k28 → (0 ≤ v ∧ v ≤ a1) → (0 ≤ y32 ∧ y32 ≤ 3) → Q (some (.int (Int32.ofInt v))) (zMi c0 c1 c2 c3 c4 c5 c6 c7 c8 c9 c10 c11 c12 c13 f0 f9 f10 f11 f12 f13 f15 f16 f17 f20 f21 f22 f23 y26 f28 y31 y32 y33 f38 f41 f44 x14 g15 g16 g17 g18 g19 g20 g21 g22 g23 g24 k25 g26 g27 k28 k29 g30 g31 g32 g33 g34 g35 g36 g37 g38 g39 g40 g41 g42 g43 g44 t)) : zCl zTab (d + 7) iX12_play [.ref 14, .int (Int32.ofInt a1)] (zMi c0 c1 c2 c3 c4 c5 c6 c7 c8 c9 c10 c11 c12 c13 f0 f9 f10 f11 f12 f13 f15 f16 f17 f20 f21 f22 f23 f26 f28 f31 f32 f33 f38 f41 f44 x14 g15 g16 g17 g18 g19 g20 g21 g22 g23 g24 g25 g26 g27 g28 g29 g30 g31 g32 g33 g34 g35 g36 g37 g38 g39 g40 g41 g42 g43 g44 t) 0 0 Q := by
  refine zCl_i (M := kX12_play) rfl (Nat.le_of_ble_eq_true rfl) fun R hR => ?_
  refine hR (?_ : R (_, _, _, _, _, _))
  refine hR (zcall_i 0 0 (Nat.le_of_ble_eq_true rfl) (Nat.le_of_ble_eq_true rfl) (m_begin _ hb28 (by omega) _ fun y31_1 y32_2 y33_3 k28_4 k29_5 hp6 hp7 => ?_))
  refine (?_ : R (_, _, [], (zMi c0 c1 c2 c3 c4 c5 c6 c7 c8 c9 c10 c11 c12 c13 f0 f9 f10 f11 f12 f13 f15 f16 f17 f20 f21 f22 f23 f26 f28 y31_1 y32_2 y33_3 f38 f41 f44 x14 g15 g16 g17 g18 g19 g20 g21 g22 g23 g24 g25 g26 g27 k28_4 k29_5 g30 g31 g32 g33 g34 g35 g36 g37 g38 g39 g40 g41 g42 g43 g44 t), 0, 0))
  iterate 2 refine hR (?_ : R (_, _, _, _, _, _))
  have lp6 : ∀ (N : Nat) (i : Int) (e26_6 : Int) (e31_6 : Int) (e32_6 : Int) (e33_6 : Int) (q25_6 : Nat → Int32) (q28_6 : Nat → Int32) (q29_6 : Nat → Int32), (0 ≤ i ∧ i ≤ a1) → (0 ≤ e32_6 ∧ e32_6 ≤ 3) → (zB 0 3 q25_6) → (zB 0 5460 q28_6) → (a1 - i < N) → R (6, [some (.ref 14), some (.int (Int32.ofInt a1)), some (.int (Int32.ofInt i))], [], (zMi c0 c1 c2 c3 c4 c5 c6 c7 c8 c9 c10 c11 c12 c13 f0 f9 f10 f11 f12 f13 f15 f16 f17 f20 f21 f22 f23 e26_6 f28 e31_6 e32_6 e33_6 f38 f41 f44 x14 g15 g16 g17 g18 g19 g20 g21 g22 g23 g24 q25_6 g26 g27 q28_6 q29_6 g30 g31 g32 g33 g34 g35 g36 g37 g38 g39 g40 g41 g42 g43 g44 t), 0, 0) := by
    intro N
    induction N with
    | zero => intros; omega
    | succ N ih6 =>
      intro i e26_6 e31_6 e32_6 e33_6 q25_6 q28_6 q29_6 hf0_6 hp0_6 hq25_6 hq28_6 hN6
      iterate 2 refine hR (?_ : R (_, _, _, _, _, _))
      refine hR (j_ge (by omega) (by omega) (fun hc8 => ?_) (fun hc8 => ?_))
      · skip
        refine hR (?_ : R (_, _, _, _, _, _))
        exact hR (zret_i rfl (Nat.le_refl _) trivial (h _ _ _ _ _ _ _ _ hq25_6 hq28_6 (by omega) (by omega)))
      iterate 2 refine hR (?_ : R (_, _, _, _, _, _))
      refine hR (zcall_i 0 0 (Nat.le_of_ble_eq_true rfl) (Nat.le_of_ble_eq_true rfl) (m_does _ i hq25_6 hq28_6 hr2 hr3 (by omega) (by omega) (by omega) (by omega) (by omega) (by omega) _ fun v9 y26_10 y31_11 y32_12 y33_13 k25_14 k28_15 k29_16 hp17 hp18 hp19 hp20 => ?_))
      refine (?_ : R (_, _, (.int (Int32.ofInt v9)) :: [], (zMi c0 c1 c2 c3 c4 c5 c6 c7 c8 c9 c10 c11 c12 c13 f0 f9 f10 f11 f12 f13 f15 f16 f17 f20 f21 f22 f23 y26_10 f28 y31_11 y32_12 y33_13 f38 f41 f44 x14 g15 g16 g17 g18 g19 g20 g21 g22 g23 g24 k25_14 g26 g27 k28_15 k29_16 g30 g31 g32 g33 g34 g35 g36 g37 g38 g39 g40 g41 g42 g43 g44 t), 0, 0))
      refine hR (k_eq (by omega) (fun hc21 => ?_) (fun hc21 => ?_))
      · skip
        refine hR (?_ : R (_, _, _, _, _, _))
        exact hR (zret_i rfl (Nat.le_refl _) trivial (h _ _ _ _ _ _ _ _ hp17 hp18 (by omega) (by omega)))
      refine hR (t_inc ?_)
      refine hR (?_ : R (_, _, _, _, _, _))
      exact ih6 _ _ _ _ _ _ _ _ (by omega) (by omega) hp17 hp18 (by omega)
  exact lp6 400000000 _ _ _ _ _ _ _ _ (by omega) (by omega) hb25 hp6 (by omega)
theorem m_layAll (d : Nat) (a1 a2 : Int) (hb19 : zB 0 2 g19) (hr1 : bkOK g20) (hr2 : -2147483648 ≤ a1 ∧ a1 ≤ 2147483647) (hr3 : -2147483648 ≤ a2 ∧ a2 ≤ 2147483647) (Q : zQ) (h : ∀ (v : Int) (y20 : Int) (y22 : Int) (y23 : Int) (y28 : Int), ((v = 1 ∧ 0 ≤ y28 ∧ y28 ≤ 1 ∧ 0 ≤ y20 ∧ y20 ≤ 1 ∧ 0 ≤ y22 ∧ y22 ≤ 5460 ∧ 0 ≤ y23 ∧ y23 ≤ 5) ∨ v = 0) → Q (some (.int (Int32.ofInt v))) (zMi c0 c1 c2 c3 c4 c5 c6 c7 c8 c9 c10 c11 c12 c13 f0 f9 f10 f11 f12 f13 f15 f16 f17 y20 f21 y22 y23 f26 y28 f31 f32 f33 f38 f41 f44 x14 g15 g16 g17 g18 g19 g20 g21 g22 g23 g24 g25 g26 g27 g28 g29 g30 g31 g32 g33 g34 g35 g36 g37 g38 g39 g40 g41 g42 g43 g44 t)) : zCl zTab (d + 4) iX12_layAll [.ref 14, .int (Int32.ofInt a1), .int (Int32.ofInt a2)] (zMi c0 c1 c2 c3 c4 c5 c6 c7 c8 c9 c10 c11 c12 c13 f0 f9 f10 f11 f12 f13 f15 f16 f17 f20 f21 f22 f23 f26 f28 f31 f32 f33 f38 f41 f44 x14 g15 g16 g17 g18 g19 g20 g21 g22 g23 g24 g25 g26 g27 g28 g29 g30 g31 g32 g33 g34 g35 g36 g37 g38 g39 g40 g41 g42 g43 g44 t) 0 0 Q := by
  refine zCl_i (M := kX12_layAll) rfl (Nat.le_of_ble_eq_true rfl) fun R hR => ?_
  iterate 2 refine hR (?_ : R (_, _, _, _, _, _))
  refine hR (zcall_i 0 0 (Nat.le_of_ble_eq_true rfl) (Nat.le_of_ble_eq_true rfl) (m_hasYear _ a2 hb19 (by omega) _ fun v1 y28_2 hp3 hp4 => ?_))
  refine (?_ : R (_, _, (.int (Int32.ofInt v1)) :: [], (zMi c0 c1 c2 c3 c4 c5 c6 c7 c8 c9 c10 c11 c12 c13 f0 f9 f10 f11 f12 f13 f15 f16 f17 f20 f21 f22 f23 f26 y28_2 f31 f32 f33 f38 f41 f44 x14 g15 g16 g17 g18 g19 g20 g21 g22 g23 g24 g25 g26 g27 g28 g29 g30 g31 g32 g33 g34 g35 g36 g37 g38 g39 g40 g41 g42 g43 g44 t), 0, 0))
  refine hR (k_eq (by omega) (fun hc5 => ?_) (fun hc5 => ?_))
  · skip
    refine hR (?_ : R (_, _, _, _, _, _))
    exact hR (zret_i rfl (Nat.le_refl _) (zbo (by omega)) (h _ _ _ _ _ (by omega)))
  iterate 2 refine hR (?_ : R (_, _, _, _, _, _))
  refine hR (zcall_i 0 0 (Nat.le_of_ble_eq_true rfl) (Nat.le_of_ble_eq_true rfl) (m_hand _ a1 hb19 hr1 (by omega) _ fun v6 y20_7 y22_8 y23_9 hp10 => ?_))
  refine (?_ : R (_, _, (.int (Int32.ofInt v6)) :: [], (zMi c0 c1 c2 c3 c4 c5 c6 c7 c8 c9 c10 c11 c12 c13 f0 f9 f10 f11 f12 f13 f15 f16 f17 y20_7 f21 y22_8 y23_9 f26 y28_2 f31 f32 f33 f38 f41 f44 x14 g15 g16 g17 g18 g19 g20 g21 g22 g23 g24 g25 g26 g27 g28 g29 g30 g31 g32 g33 g34 g35 g36 g37 g38 g39 g40 g41 g42 g43 g44 t), 0, 0))
  refine hR (k_eq (by omega) (fun hc11 => ?_) (fun hc11 => ?_))
  · skip
    refine hR (?_ : R (_, _, _, _, _, _))
    exact hR (zret_i rfl (Nat.le_refl _) (zbo (by omega)) (h _ _ _ _ _ (by omega)))
  iterate 2 refine hR (?_ : R (_, _, _, _, _, _))
  exact hR (zret_i rfl (Nat.le_refl _) (zbo (by omega)) (h _ _ _ _ _ (by omega)))
theorem m_stop (d : Nat) (a1 a2 : Int) (hb19 : zB 0 2 g19) (hb25 : zB 0 3 g25) (hb28 : zB 0 5460 g28) (hr3 : bkOK g20) (hr4 : yrOK g21) (hr5 : -2147483648 ≤ a1 ∧ a1 ≤ 2147483647) (hr6 : -2147483648 ≤ a2 ∧ a2 ≤ 2147483647) (Q : zQ) (h : ∀ (v : Int) (y0 : Int) (y20 : Int) (y22 : Int) (y23 : Int) (y26 : Int) (y28 : Int) (y31 : Int) (y32 : Int) (y33 : Int) (k25 : Nat → Int32) (k28 : Nat → Int32) (k29 : Nat → Int32), zB 0 3 k25 → zB 0 5460 k28 → Q (some (.int (Int32.ofInt v))) (zMi c0 c1 c2 c3 c4 c5 c6 c7 c8 c9 c10 c11 c12 c13 y0 f9 f10 f11 f12 f13 f15 f16 f17 y20 f21 y22 y23 y26 y28 y31 y32 y33 f38 f41 f44 x14 g15 g16 g17 g18 g19 g20 g21 g22 g23 g24 k25 g26 g27 k28 k29 g30 g31 g32 g33 g34 g35 g36 g37 g38 g39 g40 g41 g42 g43 g44 t)) : zCl zTab (d + 8) iX12_stop [.ref 14, .int (Int32.ofInt a1), .int (Int32.ofInt a2)] (zMi c0 c1 c2 c3 c4 c5 c6 c7 c8 c9 c10 c11 c12 c13 f0 f9 f10 f11 f12 f13 f15 f16 f17 f20 f21 f22 f23 f26 f28 f31 f32 f33 f38 f41 f44 x14 g15 g16 g17 g18 g19 g20 g21 g22 g23 g24 g25 g26 g27 g28 g29 g30 g31 g32 g33 g34 g35 g36 g37 g38 g39 g40 g41 g42 g43 g44 t) 0 0 Q := by
  refine zCl_i (M := kX12_stop) rfl (Nat.le_of_ble_eq_true rfl) fun R hR => ?_
  iterate 2 refine hR (?_ : R (_, _, _, _, _, _))
  refine hR (?_ : R (_, _, _, (zMi c0 c1 c2 c3 c4 c5 c6 c7 c8 c9 c10 c11 c12 c13 0 f9 f10 f11 f12 f13 f15 f16 f17 f20 f21 f22 f23 f26 f28 f31 f32 f33 f38 f41 f44 x14 g15 g16 g17 g18 g19 g20 g21 g22 g23 g24 g25 g26 g27 g28 g29 g30 g31 g32 g33 g34 g35 g36 g37 g38 g39 g40 g41 g42 g43 g44 t), _, _))
  iterate 3 refine hR (?_ : R (_, _, _, _, _, _))
  refine hR (zcall_i 0 0 (Nat.le_of_ble_eq_true rfl) (Nat.le_of_ble_eq_true rfl) (m_layAll _ a1 a2 hb19 hr3 (by omega) (by omega) _ fun v1 y20_2 y22_3 y23_4 y28_5 hp6 => ?_))
  refine (?_ : R (_, _, (.int (Int32.ofInt v1)) :: [], (zMi c0 c1 c2 c3 c4 c5 c6 c7 c8 c9 c10 c11 c12 c13 0 f9 f10 f11 f12 f13 f15 f16 f17 y20_2 f21 y22_3 y23_4 f26 y28_5 f31 f32 f33 f38 f41 f44 x14 g15 g16 g17 g18 g19 g20 g21 g22 g23 g24 g25 g26 g27 g28 g29 g30 g31 g32 g33 g34 g35 g36 g37 g38 g39 g40 g41 g42 g43 g44 t), 0, 0))
  refine hR (k_eq (by omega) (fun hc7 => ?_) (fun hc7 => ?_))
  · skip
    refine hR (?_ : R (_, _, _, _, _, _))
    exact hR (zret_i rfl (Nat.le_refl _) trivial (h _ _ _ _ _ _ _ _ _ _ _ _ _ hb25 hb28))
  iterate 2 refine hR (?_ : R (_, _, _, _, _, _))
  refine hR (zcall_i 0 0 (Nat.le_of_ble_eq_true rfl) (Nat.le_of_ble_eq_true rfl) (m_deeds _ hr4 (by omega) _ fun v8 hp9 hp10 => ?_))
  refine (?_ : R (_, _, (.int (Int32.ofInt v8)) :: (.ref 14) :: [], (zMi c0 c1 c2 c3 c4 c5 c6 c7 c8 c9 c10 c11 c12 c13 0 f9 f10 f11 f12 f13 f15 f16 f17 y20_2 f21 y22_3 y23_4 f26 y28_5 f31 f32 f33 f38 f41 f44 x14 g15 g16 g17 g18 g19 g20 g21 g22 g23 g24 g25 g26 g27 g28 g29 g30 g31 g32 g33 g34 g35 g36 g37 g38 g39 g40 g41 g42 g43 g44 t), 0, 0))
  refine hR (zcall_i 0 0 (Nat.le_of_ble_eq_true rfl) (Nat.le_of_ble_eq_true rfl) (m_play1 _ v8 hb25 hb28 hr3 hr4 (by omega) (by omega) (by omega) (by omega) (by omega) _ fun v11 y26_12 y31_13 y32_14 y33_15 k25_16 k28_17 k29_18 hp19 hp20 hp21 hp22 => ?_))
  refine (?_ : R (_, _, (.int (Int32.ofInt v11)) :: [], (zMi c0 c1 c2 c3 c4 c5 c6 c7 c8 c9 c10 c11 c12 c13 0 f9 f10 f11 f12 f13 f15 f16 f17 y20_2 f21 y22_3 y23_4 y26_12 y28_5 y31_13 y32_14 y33_15 f38 f41 f44 x14 g15 g16 g17 g18 g19 g20 g21 g22 g23 g24 k25_16 g26 g27 k28_17 k29_18 g30 g31 g32 g33 g34 g35 g36 g37 g38 g39 g40 g41 g42 g43 g44 t), 0, 0))
  refine hR (?_ : R (_, _, _, _, _, _))
  exact hR (zret_i rfl (Nat.le_refl _) trivial (h _ _ _ _ _ _ _ _ _ _ _ _ _ hp19 hp20))
theorem m_ofState (d : Nat) (a1 : Int) (hb25 : zB 0 3 g25) (hb26 : zB 0 3 g26) (hb28 : zB 0 5460 g28) (hr3 : -2147483648 ≤ a1 ∧ a1 ≤ 2147483647) (hr4 : 0 ≤ f23 ∧ f23 ≤ 5) (hr5 : 0 ≤ f22 ∧ f22 ≤ 5460) (hr6 : 0 ≤ f32 ∧ f32 ≤ 3) (Q : zQ) (h : ∀ (v : Int) (k25 : Nat → Int32) (k26 : Nat → Int32) (k27 : Nat → Int32), zB 0 3 k25 → zB 0 3 k26 → Q (some (.int (Int32.ofInt v))) (zMi c0 c1 c2 c3 c4 c5 c6 c7 c8 c9 c10 c11 c12 c13 f0 f9 f10 f11 f12 f13 f15 f16 f17 f20 f21 f22 f23 f26 f28 f31 f32 f33 f38 f41 f44 x14 g15 g16 g17 g18 g19 g20 g21 g22 g23 g24 k25 k26 k27 g28 g29 g30 g31 g32 g33 g34 g35 g36 g37 g38 g39 g40 g41 g42 g43 g44 t)) : zCl zTab (d + 5) iX12_ofState [.ref 14, .int (Int32.ofInt a1)] (zMi c0 c1 c2 c3 c4 c5 c6 c7 c8 c9 c10 c11 c12 c13 f0 f9 f10 f11 f12 f13 f15 f16 f17 f20 f21 f22 f23 f26 f28 f31 f32 f33 f38 f41 f44 x14 g15 g16 g17 g18 g19 g20 g21 g22 g23 g24 g25 g26 g27 g28 g29 g30 g31 g32 g33 g34 g35 g36 g37 g38 g39 g40 g41 g42 g43 g44 t) 0 0 Q := by
  refine zCl_i (M := kX12_ofState) rfl (Nat.le_of_ble_eq_true rfl) fun R hR => ?_
  refine hR (?_ : R (_, _, _, _, _, _))
  refine hR (t_c 10 (by decide) ?_)
  refine hR (t_c 13 (by decide) ?_)
  refine hR (zcall_i 0 0 (Nat.le_of_ble_eq_true rfl) (Nat.le_of_ble_eq_true rfl) (m_in _ a1 10 13 _ (by omega) (by omega) (by omega) _ fun v1 hp2 => ?_))
  refine (?_ : R (_, _, (.int (Int32.ofInt v1)) :: [], (zMi c0 c1 c2 c3 c4 c5 c6 c7 c8 c9 c10 c11 c12 c13 f0 f9 f10 f11 f12 f13 f15 f16 f17 f20 f21 f22 f23 f26 f28 f31 f32 f33 f38 f41 f44 x14 g15 g16 g17 g18 g19 g20 g21 g22 g23 g24 g25 g26 g27 g28 g29 g30 g31 g32 g33 g34 g35 g36 g37 g38 g39 g40 g41 g42 g43 g44 t), 0, 0))
  refine hR (k_eq (by omega) (fun hc3 => ?_) (fun hc3 => ?_))
  rotate_left
  · skip
    iterate 3 refine hR (?_ : R (_, _, _, _, _, _))
    refine hR (t_c 10 (by decide) ?_)
    refine hR (t_sub ?_)
    refine hR (t_ldB hb28 (by omega) (by omega) (Nat.le_of_ble_eq_true rfl) fun v60 ev60 lv60 uv60 => ?_)
    clear ev60
    exact hR (zret_i rfl (Nat.le_refl _) trivial (h _ _ _ _ hb25 hb26))
  refine hR (?_ : R (_, _, _, _, _, _))
  refine hR (t_c 20 (by decide) ?_)
  refine hR (t_c 19 (by decide) ?_)
  iterate 2 refine hR (?_ : R (_, _, _, _, _, _))
  refine hR (t_add ?_)
  refine hR (zcall_i 0 0 (Nat.le_of_ble_eq_true rfl) (Nat.le_of_ble_eq_true rfl) (m_in _ a1 20 (19 + f23) _ (by omega) (by omega) (by omega) _ fun v4 hp5 => ?_))
  refine (?_ : R (_, _, (.int (Int32.ofInt v4)) :: [], (zMi c0 c1 c2 c3 c4 c5 c6 c7 c8 c9 c10 c11 c12 c13 f0 f9 f10 f11 f12 f13 f15 f16 f17 f20 f21 f22 f23 f26 f28 f31 f32 f33 f38 f41 f44 x14 g15 g16 g17 g18 g19 g20 g21 g22 g23 g24 g25 g26 g27 g28 g29 g30 g31 g32 g33 g34 g35 g36 g37 g38 g39 g40 g41 g42 g43 g44 t), 0, 0))
  refine hR (k_eq (by omega) (fun hc6 => ?_) (fun hc6 => ?_))
  rotate_left
  · skip
    iterate 3 refine hR (?_ : R (_, _, _, _, _, _))
    refine hR (t_c 20 (by decide) ?_)
    refine hR (t_sub ?_)
    refine hR (t_ldo (by omega) (by omega) (Nat.le_of_ble_eq_true rfl) fun v59 rv59 => ?_)
    exact hR (zret_i rfl (Nat.le_refl _) trivial (h _ _ _ _ hb25 hb26))
  iterate 6 refine hR (?_ : R (_, _, _, _, _, _))
  have lp54 : ∀ (N : Nat) (su : Int) (wo : Int) (c : Int) (q25_54 : Nat → Int32) (q26_54 : Nat → Int32) (q27_54 : Nat → Int32), (0 ≤ wo ∧ wo ≤ 3) → (0 ≤ c ∧ c ≤ 4) → (zB 0 3 q25_54) → (zB 0 3 q26_54) → (4 - c < N) → R (54, [some (.ref 14), some (.int (Int32.ofInt a1)), some (.int (Int32.ofInt su)), some (.int (Int32.ofInt wo)), some (.int (Int32.ofInt c))], [], (zMi c0 c1 c2 c3 c4 c5 c6 c7 c8 c9 c10 c11 c12 c13 f0 f9 f10 f11 f12 f13 f15 f16 f17 f20 f21 f22 f23 f26 f28 f31 f32 f33 f38 f41 f44 x14 g15 g16 g17 g18 g19 g20 g21 g22 g23 g24 q25_54 q26_54 q27_54 g28 g29 g30 g31 g32 g33 g34 g35 g36 g37 g38 g39 g40 g41 g42 g43 g44 t), 0, 0) := by
    intro N
    induction N with
    | zero => intros; omega
    | succ N ih54 =>
      intro su wo c q25_54 q26_54 q27_54 hf0_54 hf1_54 hq25_54 hq26_54 hN54
      iterate 2 refine hR (?_ : R (_, _, _, _, _, _))
      refine hR (j_ge (by omega) (by omega) (fun hc7 => ?_) (fun hc7 => ?_))
      · skip
        refine hR (?_ : R (_, _, _, _, _, _))
        refine hR (?_ : _ ∧ _)
        rw [zti (e := a1) (by omega) (by omega)]
        refine ⟨fun hs8 => ?_, fun hs8 => ?_⟩
        · skip
          refine hR (t_c (-2) (by decide) ?_)
          exact hR (zret_i rfl (Nat.le_refl _) trivial (h _ _ _ _ hq25_54 hq26_54))
        · skip
          have hs8d : a1 = 0 ∨ a1 = 1 ∨ a1 = 2 ∨ a1 = 3 ∨ a1 = 4 ∨ a1 = 5 := by omega
          rcases hs8d with hs8e | hs8e | hs8e | hs8e | hs8e | hs8e
          · refine ⟨39, by rw [hs8e]; rfl, (?_ : R (_, _, _, _, _, _))⟩
            iterate 2 refine hR (?_ : R (_, _, _, _, _, _))
            exact hR (zret_i rfl (Nat.le_refl _) trivial (h _ _ _ _ hq25_54 hq26_54))
          · refine ⟨44, by rw [hs8e]; rfl, (?_ : R (_, _, _, _, _, _))⟩
            iterate 2 refine hR (?_ : R (_, _, _, _, _, _))
            exact hR (zret_i rfl (Nat.le_refl _) trivial (h _ _ _ _ hq25_54 hq26_54))
          · refine ⟨49, by rw [hs8e]; rfl, (?_ : R (_, _, _, _, _, _))⟩
            refine hR (?_ : R (_, _, _, _, _, _))
            exact hR (zret_i rfl (Nat.le_refl _) trivial (h _ _ _ _ hq25_54 hq26_54))
          · refine ⟨51, by rw [hs8e]; rfl, (?_ : R (_, _, _, _, _, _))⟩
            refine hR (?_ : R (_, _, _, _, _, _))
            exact hR (zret_i rfl (Nat.le_refl _) trivial (h _ _ _ _ hq25_54 hq26_54))
          · refine ⟨53, by rw [hs8e]; rfl, (?_ : R (_, _, _, _, _, _))⟩
            iterate 4 refine hR (?_ : R (_, _, _, _, _, _))
            refine hR (t_ldB hb28 (by omega) (by omega) (Nat.le_of_ble_eq_true rfl) fun v9 ev9 lv9 uv9 => ?_)
            clear ev9
            iterate 2 refine hR (?_ : R (_, _, _, _, _, _))
            refine hR (zcall_i 0 0 (Nat.le_of_ble_eq_true rfl) (Nat.le_of_ble_eq_true rfl) (m_apart _ v9 f22 hq25_54 hq26_54 (by omega) (by omega) _ fun v10 k25_11 k26_12 k27_13 hp14 hp15 hp16 hp17 => ?_))
            refine (?_ : R (_, _, (.int (Int32.ofInt v10)) :: [], (zMi c0 c1 c2 c3 c4 c5 c6 c7 c8 c9 c10 c11 c12 c13 f0 f9 f10 f11 f12 f13 f15 f16 f17 f20 f21 f22 f23 f26 f28 f31 f32 f33 f38 f41 f44 x14 g15 g16 g17 g18 g19 g20 g21 g22 g23 g24 k25_11 k26_12 k27_13 g28 g29 g30 g31 g32 g33 g34 g35 g36 g37 g38 g39 g40 g41 g42 g43 g44 t), 0, 0))
            exact hR (zret_i rfl (Nat.le_refl _) trivial (h _ _ _ _ hp14 hp15))
          · refine ⟨68, by rw [hs8e]; rfl, (?_ : R (_, _, _, _, _, _))⟩
            iterate 2 refine hR (?_ : R (_, _, _, _, _, _))
            exact hR (zret_i rfl (Nat.le_refl _) trivial (h _ _ _ _ hq25_54 hq26_54))
      iterate 4 refine hR (?_ : R (_, _, _, _, _, _))
      refine hR (t_ldB hb28 (by omega) (by omega) (Nat.le_of_ble_eq_true rfl) fun v18 ev18 lv18 uv18 => ?_)
      clear ev18
      iterate 4 refine hR (?_ : R (_, _, _, _, _, _))
      refine hR (t_ldB hb28 (by omega) (by omega) (Nat.le_of_ble_eq_true rfl) fun v19 ev19 lv19 uv19 => ?_)
      clear ev19
      refine hR (j_eq (by omega) (by omega) (fun hc20 => ?_) (fun hc20 => ?_))
      · skip
        refine hR (?_ : R (_, _, _, _, _, _))
        refine hR (t_add ?_)
        iterate 5 refine hR (?_ : R (_, _, _, _, _, _))
        refine hR (t_ldB hb28 (by omega) (by omega) (Nat.le_of_ble_eq_true rfl) fun v21 ev21 lv21 uv21 => ?_)
        clear ev21
        iterate 2 refine hR (?_ : R (_, _, _, _, _, _))
        refine hR (zcall_i 0 0 (Nat.le_of_ble_eq_true rfl) (Nat.le_of_ble_eq_true rfl) (m_apart _ v21 f22 hq25_54 hq26_54 (by omega) (by omega) _ fun v22 k25_23 k26_24 k27_25 hp26 hp27 hp28 hp29 => ?_))
        refine (?_ : R (_, _, (.int (Int32.ofInt v22)) :: [], (zMi c0 c1 c2 c3 c4 c5 c6 c7 c8 c9 c10 c11 c12 c13 f0 f9 f10 f11 f12 f13 f15 f16 f17 f20 f21 f22 f23 f26 f28 f31 f32 f33 f38 f41 f44 x14 g15 g16 g17 g18 g19 g20 g21 g22 g23 g24 k25_23 k26_24 k27_25 g28 g29 g30 g31 g32 g33 g34 g35 g36 g37 g38 g39 g40 g41 g42 g43 g44 t), 0, 0))
        iterate 4 refine hR (?_ : R (_, _, _, _, _, _))
        refine hR (t_ldB hb28 (by omega) (by omega) (Nat.le_of_ble_eq_true rfl) fun v30 ev30 lv30 uv30 => ?_)
        clear ev30
        iterate 2 refine hR (?_ : R (_, _, _, _, _, _))
        refine hR (zcall_i 0 0 (Nat.le_of_ble_eq_true rfl) (Nat.le_of_ble_eq_true rfl) (m_apart _ v30 f22 hp26 hp27 (by omega) (by omega) _ fun v31 k25_32 k26_33 k27_34 hp35 hp36 hp37 hp38 => ?_))
        refine (?_ : R (_, _, (.int (Int32.ofInt v31)) :: (.int (Int32.ofInt v22)) :: [], (zMi c0 c1 c2 c3 c4 c5 c6 c7 c8 c9 c10 c11 c12 c13 f0 f9 f10 f11 f12 f13 f15 f16 f17 f20 f21 f22 f23 f26 f28 f31 f32 f33 f38 f41 f44 x14 g15 g16 g17 g18 g19 g20 g21 g22 g23 g24 k25_32 k26_33 k27_34 g28 g29 g30 g31 g32 g33 g34 g35 g36 g37 g38 g39 g40 g41 g42 g43 g44 t), 0, 0))
        refine hR (j_le (by omega) (by omega) (fun hc39 => ?_) (fun hc39 => ?_))
        · skip
          iterate 2 refine hR (?_ : R (_, _, _, _, _, _))
          refine hR (t_inc ?_)
          refine hR (?_ : R (_, _, _, _, _, _))
          exact ih54 _ _ _ _ _ _ (by omega) (by omega) hp35 hp36 (by omega)
        iterate 3 refine hR (?_ : R (_, _, _, _, _, _))
        refine hR (t_inc ?_)
        refine hR (?_ : R (_, _, _, _, _, _))
        exact ih54 _ _ _ _ _ _ (by omega) (by omega) hp35 hp36 (by omega)
      iterate 2 refine hR (?_ : R (_, _, _, _, _, _))
      refine hR (t_add ?_)
      iterate 5 refine hR (?_ : R (_, _, _, _, _, _))
      refine hR (t_ldB hb28 (by omega) (by omega) (Nat.le_of_ble_eq_true rfl) fun v40 ev40 lv40 uv40 => ?_)
      clear ev40
      iterate 2 refine hR (?_ : R (_, _, _, _, _, _))
      refine hR (zcall_i 0 0 (Nat.le_of_ble_eq_true rfl) (Nat.le_of_ble_eq_true rfl) (m_apart _ v40 f22 hq25_54 hq26_54 (by omega) (by omega) _ fun v41 k25_42 k26_43 k27_44 hp45 hp46 hp47 hp48 => ?_))
      refine (?_ : R (_, _, (.int (Int32.ofInt v41)) :: [], (zMi c0 c1 c2 c3 c4 c5 c6 c7 c8 c9 c10 c11 c12 c13 f0 f9 f10 f11 f12 f13 f15 f16 f17 f20 f21 f22 f23 f26 f28 f31 f32 f33 f38 f41 f44 x14 g15 g16 g17 g18 g19 g20 g21 g22 g23 g24 k25_42 k26_43 k27_44 g28 g29 g30 g31 g32 g33 g34 g35 g36 g37 g38 g39 g40 g41 g42 g43 g44 t), 0, 0))
      iterate 4 refine hR (?_ : R (_, _, _, _, _, _))
      refine hR (t_ldB hb28 (by omega) (by omega) (Nat.le_of_ble_eq_true rfl) fun v49 ev49 lv49 uv49 => ?_)
      clear ev49
      iterate 2 refine hR (?_ : R (_, _, _, _, _, _))
      refine hR (zcall_i 0 0 (Nat.le_of_ble_eq_true rfl) (Nat.le_of_ble_eq_true rfl) (m_apart _ v49 f22 hp45 hp46 (by omega) (by omega) _ fun v50 k25_51 k26_52 k27_53 hp54 hp55 hp56 hp57 => ?_))
      refine (?_ : R (_, _, (.int (Int32.ofInt v50)) :: (.int (Int32.ofInt v41)) :: [], (zMi c0 c1 c2 c3 c4 c5 c6 c7 c8 c9 c10 c11 c12 c13 f0 f9 f10 f11 f12 f13 f15 f16 f17 f20 f21 f22 f23 f26 f28 f31 f32 f33 f38 f41 f44 x14 g15 g16 g17 g18 g19 g20 g21 g22 g23 g24 k25_51 k26_52 k27_53 g28 g29 g30 g31 g32 g33 g34 g35 g36 g37 g38 g39 g40 g41 g42 g43 g44 t), 0, 0))
      refine hR (j_le (by omega) (by omega) (fun hc58 => ?_) (fun hc58 => ?_))
      · skip
        iterate 2 refine hR (?_ : R (_, _, _, _, _, _))
        refine hR (t_inc ?_)
        refine hR (?_ : R (_, _, _, _, _, _))
        exact ih54 _ _ _ _ _ _ (by omega) (by omega) hp54 hp55 (by omega)
      iterate 3 refine hR (?_ : R (_, _, _, _, _, _))
      refine hR (t_inc ?_)
      refine hR (?_ : R (_, _, _, _, _, _))
      exact ih54 _ _ _ _ _ _ (by omega) (by omega) hp54 hp55 (by omega)
  exact lp54 400000000 _ _ _ _ _ _ (by omega) (by omega) hb25 hb26 (by omega)
theorem m_state (d : Nat) (a1 a2 a3 a4 : Int) (hb19 : zB 0 2 g19) (hb25 : zB 0 3 g25) (hb26 : zB 0 3 g26) (hb28 : zB 0 5460 g28) (hr4 : bkOK g20) (hr5 : yrOK g21) (hr6 : -2147483648 ≤ a1 ∧ a1 ≤ 2147483647) (hr7 : -2147483648 ≤ a2 ∧ a2 ≤ 2147483647) (hr8 : -2147483648 ≤ a3 ∧ a3 ≤ 2147483647) (hr9 : -2147483648 ≤ a4 ∧ a4 ≤ 2147483647) (Q : zQ) (h : ∀ (v : Int) (y0 : Int) (y20 : Int) (y22 : Int) (y23 : Int) (y26 : Int) (y28 : Int) (y31 : Int) (y32 : Int) (y33 : Int) (k25 : Nat → Int32) (k26 : Nat → Int32) (k27 : Nat → Int32) (k28 : Nat → Int32) (k29 : Nat → Int32), zB 0 3 k25 → zB 0 3 k26 → zB 0 5460 k28 → Q (some (.int (Int32.ofInt v))) (zMi c0 c1 c2 c3 c4 c5 c6 c7 c8 c9 c10 c11 c12 c13 y0 f9 f10 f11 f12 f13 f15 f16 f17 y20 f21 y22 y23 y26 y28 y31 y32 y33 f38 f41 f44 x14 g15 g16 g17 g18 g19 g20 g21 g22 g23 g24 k25 k26 k27 k28 k29 g30 g31 g32 g33 g34 g35 g36 g37 g38 g39 g40 g41 g42 g43 g44 t)) : zCl zTab (d + 8) iX12_state [.ref 14, .int (Int32.ofInt a1), .int (Int32.ofInt a2), .int (Int32.ofInt a3), .int (Int32.ofInt a4)] (zMi c0 c1 c2 c3 c4 c5 c6 c7 c8 c9 c10 c11 c12 c13 f0 f9 f10 f11 f12 f13 f15 f16 f17 f20 f21 f22 f23 f26 f28 f31 f32 f33 f38 f41 f44 x14 g15 g16 g17 g18 g19 g20 g21 g22 g23 g24 g25 g26 g27 g28 g29 g30 g31 g32 g33 g34 g35 g36 g37 g38 g39 g40 g41 g42 g43 g44 t) 0 0 Q := by
  refine zCl_i (M := kX12_state) rfl (Nat.le_of_ble_eq_true rfl) fun R hR => ?_
  iterate 2 refine hR (?_ : R (_, _, _, _, _, _))
  refine hR (?_ : R (_, _, _, (zMi c0 c1 c2 c3 c4 c5 c6 c7 c8 c9 c10 c11 c12 c13 0 f9 f10 f11 f12 f13 f15 f16 f17 f20 f21 f22 f23 f26 f28 f31 f32 f33 f38 f41 f44 x14 g15 g16 g17 g18 g19 g20 g21 g22 g23 g24 g25 g26 g27 g28 g29 g30 g31 g32 g33 g34 g35 g36 g37 g38 g39 g40 g41 g42 g43 g44 t), _, _))
  iterate 3 refine hR (?_ : R (_, _, _, _, _, _))
  refine hR (zcall_i 0 0 (Nat.le_of_ble_eq_true rfl) (Nat.le_of_ble_eq_true rfl) (m_layAll _ a1 a2 hb19 hr4 (by omega) (by omega) _ fun v1 y20_2 y22_3 y23_4 y28_5 hp6 => ?_))
  refine (?_ : R (_, _, (.int (Int32.ofInt v1)) :: [], (zMi c0 c1 c2 c3 c4 c5 c6 c7 c8 c9 c10 c11 c12 c13 0 f9 f10 f11 f12 f13 f15 f16 f17 y20_2 f21 y22_3 y23_4 f26 y28_5 f31 f32 f33 f38 f41 f44 x14 g15 g16 g17 g18 g19 g20 g21 g22 g23 g24 g25 g26 g27 g28 g29 g30 g31 g32 g33 g34 g35 g36 g37 g38 g39 g40 g41 g42 g43 g44 t), 0, 0))
  refine hR (k_eq (by omega) (fun hc7 => ?_) (fun hc7 => ?_))
  · skip
    refine hR (t_c (-2) (by decide) ?_)
    exact hR (zret_i rfl (Nat.le_refl _) trivial (h _ _ _ _ _ _ _ _ _ _ _ _ _ _ _ hb25 hb26 hb28))
  iterate 3 refine hR (?_ : R (_, _, _, _, _, _))
  refine hR (zcall_i 0 0 (Nat.le_of_ble_eq_true rfl) (Nat.le_of_ble_eq_true rfl) (m_deeds _ hr5 (by omega) _ fun v8 hp9 hp10 => ?_))
  refine (?_ : R (_, _, (.int (Int32.ofInt v8)) :: (.int (Int32.ofInt 0)) :: (.int (Int32.ofInt a3)) :: [], (zMi c0 c1 c2 c3 c4 c5 c6 c7 c8 c9 c10 c11 c12 c13 0 f9 f10 f11 f12 f13 f15 f16 f17 y20_2 f21 y22_3 y23_4 f26 y28_5 f31 f32 f33 f38 f41 f44 x14 g15 g16 g17 g18 g19 g20 g21 g22 g23 g24 g25 g26 g27 g28 g29 g30 g31 g32 g33 g34 g35 g36 g37 g38 g39 g40 g41 g42 g43 g44 t), 0, 0))
  refine hR (zcall_i 0 0 (Nat.le_of_ble_eq_true rfl) (Nat.le_of_ble_eq_true rfl) (m_in _ a3 0 v8 _ (by omega) (by omega) (by omega) _ fun v11 hp12 => ?_))
  refine (?_ : R (_, _, (.int (Int32.ofInt v11)) :: [], (zMi c0 c1 c2 c3 c4 c5 c6 c7 c8 c9 c10 c11 c12 c13 0 f9 f10 f11 f12 f13 f15 f16 f17 y20_2 f21 y22_3 y23_4 f26 y28_5 f31 f32 f33 f38 f41 f44 x14 g15 g16 g17 g18 g19 g20 g21 g22 g23 g24 g25 g26 g27 g28 g29 g30 g31 g32 g33 g34 g35 g36 g37 g38 g39 g40 g41 g42 g43 g44 t), 0, 0))
  refine hR (k_eq (by omega) (fun hc13 => ?_) (fun hc13 => ?_))
  · skip
    refine hR (t_c (-2) (by decide) ?_)
    exact hR (zret_i rfl (Nat.le_refl _) trivial (h _ _ _ _ _ _ _ _ _ _ _ _ _ _ _ hb25 hb26 hb28))
  iterate 2 refine hR (?_ : R (_, _, _, _, _, _))
  refine hR (zcall_i 0 0 (Nat.le_of_ble_eq_true rfl) (Nat.le_of_ble_eq_true rfl) (m_play1 _ a3 hb25 hb28 hr4 hr5 (by omega) (by omega) (by omega) (by omega) (by omega) _ fun v14 y26_15 y31_16 y32_17 y33_18 k25_19 k28_20 k29_21 hp22 hp23 hp24 hp25 => ?_))
  refine (?_ : R (_, _, (.int (Int32.ofInt v14)) :: [], (zMi c0 c1 c2 c3 c4 c5 c6 c7 c8 c9 c10 c11 c12 c13 0 f9 f10 f11 f12 f13 f15 f16 f17 y20_2 f21 y22_3 y23_4 y26_15 y28_5 y31_16 y32_17 y33_18 f38 f41 f44 x14 g15 g16 g17 g18 g19 g20 g21 g22 g23 g24 k25_19 g26 g27 k28_20 k29_21 g30 g31 g32 g33 g34 g35 g36 g37 g38 g39 g40 g41 g42 g43 g44 t), 0, 0))
  refine hR (?_ : R (_, _, _, _, _, _))
  refine hR (j_ne (by omega) (by omega) (fun hc26 => ?_) (fun hc26 => ?_))
  · skip
    refine hR (t_c (-2) (by decide) ?_)
    exact hR (zret_i rfl (Nat.le_refl _) trivial (h _ _ _ _ _ _ _ _ _ _ _ _ _ _ _ hp22 hb26 hp23))
  iterate 2 refine hR (?_ : R (_, _, _, _, _, _))
  refine hR (zcall_i 0 0 (Nat.le_of_ble_eq_true rfl) (Nat.le_of_ble_eq_true rfl) (m_ofState _ a4 hp22 hb26 hp23 (by omega) (by omega) (by omega) (by omega) _ fun v27 k25_28 k26_29 k27_30 hp31 hp32 => ?_))
  refine (?_ : R (_, _, (.int (Int32.ofInt v27)) :: [], (zMi c0 c1 c2 c3 c4 c5 c6 c7 c8 c9 c10 c11 c12 c13 0 f9 f10 f11 f12 f13 f15 f16 f17 y20_2 f21 y22_3 y23_4 y26_15 y28_5 y31_16 y32_17 y33_18 f38 f41 f44 x14 g15 g16 g17 g18 g19 g20 g21 g22 g23 g24 k25_28 k26_29 k27_30 k28_20 k29_21 g30 g31 g32 g33 g34 g35 g36 g37 g38 g39 g40 g41 g42 g43 g44 t), 0, 0))
  refine hR (?_ : R (_, _, _, _, _, _))
  exact hR (zret_i rfl (Nat.le_refl _) trivial (h _ _ _ _ _ _ _ _ _ _ _ _ _ _ _ hp31 hp32 hp23))
theorem m_draw (d : Nat) (a1 : Int) (hr0 : 1 ≤ a1 ∧ a1 ≤ 8) (Q : zQ) (h : ∀ (v : Int) (y44 : Int), (0 ≤ v ∧ v < a1) → Q (some (.int (Int32.ofInt v))) (zMi c0 c1 c2 c3 c4 c5 c6 c7 c8 c9 c10 c11 c12 c13 f0 f9 f10 f11 f12 f13 f15 f16 f17 f20 f21 f22 f23 f26 f28 f31 f32 f33 f38 f41 y44 x14 g15 g16 g17 g18 g19 g20 g21 g22 g23 g24 g25 g26 g27 g28 g29 g30 g31 g32 g33 g34 g35 g36 g37 g38 g39 g40 g41 g42 g43 g44 t)) : zCl zTab (d + 1) iX12_draw [.ref 14, .int (Int32.ofInt a1)] (zMi c0 c1 c2 c3 c4 c5 c6 c7 c8 c9 c10 c11 c12 c13 f0 f9 f10 f11 f12 f13 f15 f16 f17 f20 f21 f22 f23 f26 f28 f31 f32 f33 f38 f41 f44 x14 g15 g16 g17 g18 g19 g20 g21 g22 g23 g24 g25 g26 g27 g28 g29 g30 g31 g32 g33 g34 g35 g36 g37 g38 g39 g40 g41 g42 g43 g44 t) 0 0 Q := by
  refine zCl_i (M := kX12_draw) rfl (Nat.le_of_ble_eq_true rfl) fun R hR => ?_
  iterate 3 refine hR (?_ : R (_, _, _, _, _, _))
  refine hR (t_c 1103515245 (by decide) ?_)
  refine hR (t_mul ?_)
  refine hR (t_c 12345 (by decide) ?_)
  refine hR (t_add ?_)
  refine hR (?_ : R (_, _, _, (zMi c0 c1 c2 c3 c4 c5 c6 c7 c8 c9 c10 c11 c12 c13 f0 f9 f10 f11 f12 f13 f15 f16 f17 f20 f21 f22 f23 f26 f28 f31 f32 f33 f38 f41 ((f44 * 1103515245) + 12345) x14 g15 g16 g17 g18 g19 g20 g21 g22 g23 g24 g25 g26 g27 g28 g29 g30 g31 g32 g33 g34 g35 g36 g37 g38 g39 g40 g41 g42 g43 g44 t), _, _))
  iterate 2 refine hR (?_ : R (_, _, _, _, _, _))
  refine hR (t_c 16 (by decide) ?_)
  obtain ⟨v1, lv1, uv1, qv1⟩ := zushr_r (Int32.ofInt ((f44 * 1103515245) + 12345))
  refine hR (t_c v1 qv1 ?_)
  refine hR (?_ : R (_, _, _, _, _, _))
  refine hR (t_remv (by omega) (by omega) (by omega) (by omega) fun v2 ev2 lv2 uv2 => ?_)
  clear ev2
  exact hR (zret_i rfl (Nat.le_refl _) trivial (h _ _ (by omega)))
theorem m_drawDeed (d : Nat) (hb25 : zB 0 3 g25) (hb28 : zB 0 5460 g28) (hr2 : bkOK g20) (hr3 : 0 ≤ f20 ∧ f20 ≤ 1) (hr4 : 0 ≤ f23 ∧ f23 ≤ 5) (Q : zQ) (h : ∀ (y26 : Int) (y31 : Int) (y33 : Int) (y44 : Int) (k25 : Nat → Int32) (k28 : Nat → Int32) (k29 : Nat → Int32), zB 0 3 k25 → zB 0 5460 k28 → Q (none) (zMi c0 c1 c2 c3 c4 c5 c6 c7 c8 c9 c10 c11 c12 c13 f0 f9 f10 f11 f12 f13 f15 f16 f17 f20 f21 f22 f23 y26 f28 y31 f32 y33 f38 f41 y44 x14 g15 g16 g17 g18 g19 g20 g21 g22 g23 g24 k25 g26 g27 k28 k29 g30 g31 g32 g33 g34 g35 g36 g37 g38 g39 g40 g41 g42 g43 g44 t)) : zCl zTab (d + 6) iX12_drawDeed [.ref 14] (zMi c0 c1 c2 c3 c4 c5 c6 c7 c8 c9 c10 c11 c12 c13 f0 f9 f10 f11 f12 f13 f15 f16 f17 f20 f21 f22 f23 f26 f28 f31 f32 f33 f38 f41 f44 x14 g15 g16 g17 g18 g19 g20 g21 g22 g23 g24 g25 g26 g27 g28 g29 g30 g31 g32 g33 g34 g35 g36 g37 g38 g39 g40 g41 g42 g43 g44 t) 0 0 Q := by
  refine zCl_i (M := kX12_drawDeed) rfl (Nat.le_of_ble_eq_true rfl) fun R hR => ?_
  iterate 2 refine hR (?_ : R (_, _, _, _, _, _))
  refine hR (zcall_i 0 0 (Nat.le_of_ble_eq_true rfl) (Nat.le_of_ble_eq_true rfl) (m_draw _ 4 (by omega) _ fun v1 y44_2 hp3 => ?_))
  refine (?_ : R (_, _, (.int (Int32.ofInt v1)) :: [], (zMi c0 c1 c2 c3 c4 c5 c6 c7 c8 c9 c10 c11 c12 c13 f0 f9 f10 f11 f12 f13 f15 f16 f17 f20 f21 f22 f23 f26 f28 f31 f32 f33 f38 f41 y44_2 x14 g15 g16 g17 g18 g19 g20 g21 g22 g23 g24 g25 g26 g27 g28 g29 g30 g31 g32 g33 g34 g35 g36 g37 g38 g39 g40 g41 g42 g43 g44 t), 0, 0))
  iterate 2 refine hR (?_ : R (_, _, _, _, _, _))
  refine hR (t_c 8 (by decide) ?_)
  refine hR (zcall_i 0 0 (Nat.le_of_ble_eq_true rfl) (Nat.le_of_ble_eq_true rfl) (m_draw _ 8 (by omega) _ fun v4 y44_5 hp6 => ?_))
  refine (?_ : R (_, _, (.int (Int32.ofInt v4)) :: [], (zMi c0 c1 c2 c3 c4 c5 c6 c7 c8 c9 c10 c11 c12 c13 f0 f9 f10 f11 f12 f13 f15 f16 f17 f20 f21 f22 f23 f26 f28 f31 f32 f33 f38 f41 y44_5 x14 g15 g16 g17 g18 g19 g20 g21 g22 g23 g24 g25 g26 g27 g28 g29 g30 g31 g32 g33 g34 g35 g36 g37 g38 g39 g40 g41 g42 g43 g44 t), 0, 0))
  iterate 3 refine hR (?_ : R (_, _, _, _, _, _))
  refine hR (j_ge (by omega) (by omega) (fun hc7 => ?_) (fun hc7 => ?_))
  · skip
    iterate 2 refine hR (?_ : R (_, _, _, _, _, _))
    refine hR (j_ne (by omega) (by omega) (fun hc8 => ?_) (fun hc8 => ?_))
    rotate_left
    · skip
      iterate 4 refine hR (?_ : R (_, _, _, _, _, _))
      refine hR (zcall_i 0 0 (Nat.le_of_ble_eq_true rfl) (Nat.le_of_ble_eq_true rfl) (m_draw _ 4 (by omega) _ fun v17 y44_18 hp19 => ?_))
      refine (?_ : R (_, _, (.int (Int32.ofInt v17)) :: (.ref 28) :: [], (zMi c0 c1 c2 c3 c4 c5 c6 c7 c8 c9 c10 c11 c12 c13 f0 f9 f10 f11 f12 f13 f15 f16 f17 f20 f21 f22 f23 f26 f28 f31 f32 f33 f38 f41 y44_18 x14 g15 g16 g17 g18 g19 g20 g21 g22 g23 g24 g25 g26 g27 g28 g29 g30 g31 g32 g33 g34 g35 g36 g37 g38 g39 g40 g41 g42 g43 g44 t), 0, 0))
      iterate 3 refine hR (?_ : R (_, _, _, _, _, _))
      refine hR (t_ldB hb28 (by omega) (by omega) (Nat.le_of_ble_eq_true rfl) fun v20 ev20 lv20 uv20 => ?_)
      clear ev20
      refine hR (t_stB hb28 (by omega) (by omega) (by omega) (by omega) (by omega) (by omega) (Nat.le_of_ble_eq_true rfl) fun k28_21 hk28_21 => (?_ : R (_, _, _, (zMi c0 c1 c2 c3 c4 c5 c6 c7 c8 c9 c10 c11 c12 c13 f0 f9 f10 f11 f12 f13 f15 f16 f17 f20 f21 f22 f23 f26 f28 f31 f32 f33 f38 f41 y44_18 x14 g15 g16 g17 g18 g19 g20 g21 g22 g23 g24 g25 g26 g27 k28_21 g29 g30 g31 g32 g33 g34 g35 g36 g37 g38 g39 g40 g41 g42 g43 g44 t), _, _)))
      refine hR (?_ : R (_, _, _, _, _, _))
      exact hR (zret_i rfl (Nat.le_refl _) rfl (h _ _ _ _ _ _ _ hb25 hk28_21))
    refine hR (?_ : R (_, _, _, _, _, _))
    refine hR (t_c 6 (by decide) ?_)
    refine hR (j_ne (by omega) (by omega) (fun hc9 => ?_) (fun hc9 => ?_))
    rotate_left
    · skip
      iterate 2 refine hR (?_ : R (_, _, _, _, _, _))
      refine hR (zcall_i 0 0 (Nat.le_of_ble_eq_true rfl) (Nat.le_of_ble_eq_true rfl) (m_hushes _ v1 (by omega) _ fun v14 y33_15 hp16 => ?_))
      refine (?_ : R (_, _, (.int (Int32.ofInt v14)) :: [], (zMi c0 c1 c2 c3 c4 c5 c6 c7 c8 c9 c10 c11 c12 c13 f0 f9 f10 f11 f12 f13 f15 f16 f17 f20 f21 f22 f23 f26 f28 f31 f32 y33_15 f38 f41 y44_5 x14 g15 g16 g17 g18 g19 g20 g21 g22 g23 g24 g25 g26 g27 g28 g29 g30 g31 g32 g33 g34 g35 g36 g37 g38 g39 g40 g41 g42 g43 g44 t), 0, 0))
      iterate 2 refine hR (?_ : R (_, _, _, _, _, _))
      exact hR (zret_i rfl (Nat.le_refl _) rfl (h _ _ _ _ _ _ _ hb25 hb28))
    refine hR (?_ : R (_, _, _, _, _, _))
    refine hR (t_c 7 (by decide) ?_)
    refine hR (j_ne (by omega) (by omega) (fun hc10 => ?_) (fun hc10 => ?_))
    · skip
      exact hR (zret_i rfl (Nat.le_refl _) rfl (h _ _ _ _ _ _ _ hb25 hb28))
    refine hR (?_ : R (_, _, _, _, _, _))
    refine hR (zcall_i 0 0 (Nat.le_of_ble_eq_true rfl) (Nat.le_of_ble_eq_true rfl) (m_goesOn _ _ fun v11 y31_12 hp13 => ?_))
    refine (?_ : R (_, _, (.int (Int32.ofInt v11)) :: [], (zMi c0 c1 c2 c3 c4 c5 c6 c7 c8 c9 c10 c11 c12 c13 f0 f9 f10 f11 f12 f13 f15 f16 f17 f20 f21 f22 f23 f26 f28 y31_12 f32 f33 f38 f41 y44_5 x14 g15 g16 g17 g18 g19 g20 g21 g22 g23 g24 g25 g26 g27 g28 g29 g30 g31 g32 g33 g34 g35 g36 g37 g38 g39 g40 g41 g42 g43 g44 t), 0, 0))
    refine hR (?_ : R (_, _, _, _, _, _))
    exact hR (zret_i rfl (Nat.le_refl _) rfl (h _ _ _ _ _ _ _ hb25 hb28))
  iterate 2 refine hR (?_ : R (_, _, _, _, _, _))
  refine hR (k_le (by omega) (fun hc22 => ?_) (fun hc22 => ?_))
  rotate_left
  · skip
    iterate 5 refine hR (?_ : R (_, _, _, _, _, _))
    refine hR (zcall_i 0 0 (Nat.le_of_ble_eq_true rfl) (Nat.le_of_ble_eq_true rfl) (m_draw _ f23 (by omega) _ fun v37 y44_38 hp39 => ?_))
    refine (?_ : R (_, _, (.int (Int32.ofInt v37)) :: (.int (Int32.ofInt v1)) :: (.ref 14) :: [], (zMi c0 c1 c2 c3 c4 c5 c6 c7 c8 c9 c10 c11 c12 c13 f0 f9 f10 f11 f12 f13 f15 f16 f17 f20 f21 f22 f23 f26 f28 f31 f32 f33 f38 f41 y44_38 x14 g15 g16 g17 g18 g19 g20 g21 g22 g23 g24 g25 g26 g27 g28 g29 g30 g31 g32 g33 g34 g35 g36 g37 g38 g39 g40 g41 g42 g43 g44 t), 0, 0))
    refine hR (zcall_i 0 0 (Nat.le_of_ble_eq_true rfl) (Nat.le_of_ble_eq_true rfl) (m_reads _ v1 v37 hb25 hb28 hr2 (by omega) (by omega) (by omega) (by omega) _ fun v40 y26_41 y33_42 k25_43 k28_44 k29_45 hp46 hp47 hp48 => ?_))
    refine (?_ : R (_, _, (.int (Int32.ofInt v40)) :: [], (zMi c0 c1 c2 c3 c4 c5 c6 c7 c8 c9 c10 c11 c12 c13 f0 f9 f10 f11 f12 f13 f15 f16 f17 f20 f21 f22 f23 y26_41 f28 f31 f32 y33_42 f38 f41 y44_38 x14 g15 g16 g17 g18 g19 g20 g21 g22 g23 g24 k25_43 g26 g27 k28_44 k29_45 g30 g31 g32 g33 g34 g35 g36 g37 g38 g39 g40 g41 g42 g43 g44 t), 0, 0))
    iterate 2 refine hR (?_ : R (_, _, _, _, _, _))
    exact hR (zret_i rfl (Nat.le_refl _) rfl (h _ _ _ _ _ _ _ hp46 hp47))
  iterate 2 refine hR (?_ : R (_, _, _, _, _, _))
  refine hR (j_ne (by omega) (by omega) (fun hc23 => ?_) (fun hc23 => ?_))
  rotate_left
  · skip
    iterate 4 refine hR (?_ : R (_, _, _, _, _, _))
    refine hR (zcall_i 0 0 (Nat.le_of_ble_eq_true rfl) (Nat.le_of_ble_eq_true rfl) (m_draw _ 4 (by omega) _ fun v32 y44_33 hp34 => ?_))
    refine (?_ : R (_, _, (.int (Int32.ofInt v32)) :: (.ref 28) :: [], (zMi c0 c1 c2 c3 c4 c5 c6 c7 c8 c9 c10 c11 c12 c13 f0 f9 f10 f11 f12 f13 f15 f16 f17 f20 f21 f22 f23 f26 f28 f31 f32 f33 f38 f41 y44_33 x14 g15 g16 g17 g18 g19 g20 g21 g22 g23 g24 g25 g26 g27 g28 g29 g30 g31 g32 g33 g34 g35 g36 g37 g38 g39 g40 g41 g42 g43 g44 t), 0, 0))
    iterate 3 refine hR (?_ : R (_, _, _, _, _, _))
    refine hR (t_ldB hb28 (by omega) (by omega) (Nat.le_of_ble_eq_true rfl) fun v35 ev35 lv35 uv35 => ?_)
    clear ev35
    refine hR (t_stB hb28 (by omega) (by omega) (by omega) (by omega) (by omega) (by omega) (Nat.le_of_ble_eq_true rfl) fun k28_36 hk28_36 => (?_ : R (_, _, _, (zMi c0 c1 c2 c3 c4 c5 c6 c7 c8 c9 c10 c11 c12 c13 f0 f9 f10 f11 f12 f13 f15 f16 f17 f20 f21 f22 f23 f26 f28 f31 f32 f33 f38 f41 y44_33 x14 g15 g16 g17 g18 g19 g20 g21 g22 g23 g24 g25 g26 g27 k28_36 g29 g30 g31 g32 g33 g34 g35 g36 g37 g38 g39 g40 g41 g42 g43 g44 t), _, _)))
    refine hR (?_ : R (_, _, _, _, _, _))
    exact hR (zret_i rfl (Nat.le_refl _) rfl (h _ _ _ _ _ _ _ hb25 hk28_36))
  refine hR (?_ : R (_, _, _, _, _, _))
  refine hR (t_c 6 (by decide) ?_)
  refine hR (j_ne (by omega) (by omega) (fun hc24 => ?_) (fun hc24 => ?_))
  rotate_left
  · skip
    iterate 2 refine hR (?_ : R (_, _, _, _, _, _))
    refine hR (zcall_i 0 0 (Nat.le_of_ble_eq_true rfl) (Nat.le_of_ble_eq_true rfl) (m_hushes _ v1 (by omega) _ fun v29 y33_30 hp31 => ?_))
    refine (?_ : R (_, _, (.int (Int32.ofInt v29)) :: [], (zMi c0 c1 c2 c3 c4 c5 c6 c7 c8 c9 c10 c11 c12 c13 f0 f9 f10 f11 f12 f13 f15 f16 f17 f20 f21 f22 f23 f26 f28 f31 f32 y33_30 f38 f41 y44_5 x14 g15 g16 g17 g18 g19 g20 g21 g22 g23 g24 g25 g26 g27 g28 g29 g30 g31 g32 g33 g34 g35 g36 g37 g38 g39 g40 g41 g42 g43 g44 t), 0, 0))
    iterate 2 refine hR (?_ : R (_, _, _, _, _, _))
    exact hR (zret_i rfl (Nat.le_refl _) rfl (h _ _ _ _ _ _ _ hb25 hb28))
  refine hR (?_ : R (_, _, _, _, _, _))
  refine hR (t_c 7 (by decide) ?_)
  refine hR (j_ne (by omega) (by omega) (fun hc25 => ?_) (fun hc25 => ?_))
  · skip
    exact hR (zret_i rfl (Nat.le_refl _) rfl (h _ _ _ _ _ _ _ hb25 hb28))
  refine hR (?_ : R (_, _, _, _, _, _))
  refine hR (zcall_i 0 0 (Nat.le_of_ble_eq_true rfl) (Nat.le_of_ble_eq_true rfl) (m_goesOn _ _ fun v26 y31_27 hp28 => ?_))
  refine (?_ : R (_, _, (.int (Int32.ofInt v26)) :: [], (zMi c0 c1 c2 c3 c4 c5 c6 c7 c8 c9 c10 c11 c12 c13 f0 f9 f10 f11 f12 f13 f15 f16 f17 f20 f21 f22 f23 f26 f28 y31_27 f32 f33 f38 f41 y44_5 x14 g15 g16 g17 g18 g19 g20 g21 g22 g23 g24 g25 g26 g27 g28 g29 g30 g31 g32 g33 g34 g35 g36 g37 g38 g39 g40 g41 g42 g43 g44 t), 0, 0))
  refine hR (?_ : R (_, _, _, _, _, _))
  exact hR (zret_i rfl (Nat.le_refl _) rfl (h _ _ _ _ _ _ _ hb25 hb28))
theorem m_drawn (d : Nat) (a1 a2 a3 a4 : Int) (hb19 : zB 0 2 g19) (hb25 : zB 0 3 g25) (hb26 : zB 0 3 g26) (hb28 : zB 0 5460 g28) (hr4 : bkOK g20) (hr5 : -2147483648 ≤ a1 ∧ a1 ≤ 2147483647) (hr6 : -2147483648 ≤ a2 ∧ a2 ≤ 2147483647) (hr7 : -2147483648 ≤ a3 ∧ a3 ≤ 2147483647) (hr8 : -2147483648 ≤ a4 ∧ a4 ≤ 2147483647) (Q : zQ) (h : ∀ (v : Int) (y0 : Int) (y20 : Int) (y22 : Int) (y23 : Int) (y26 : Int) (y31 : Int) (y32 : Int) (y33 : Int) (y44 : Int) (k25 : Nat → Int32) (k26 : Nat → Int32) (k27 : Nat → Int32) (k28 : Nat → Int32) (k29 : Nat → Int32), zB 0 3 k25 → zB 0 3 k26 → zB 0 5460 k28 → Q (some (.int (Int32.ofInt v))) (zMi c0 c1 c2 c3 c4 c5 c6 c7 c8 c9 c10 c11 c12 c13 y0 f9 f10 f11 f12 f13 f15 f16 f17 y20 f21 y22 y23 y26 f28 y31 y32 y33 f38 f41 y44 x14 g15 g16 g17 g18 g19 g20 g21 g22 g23 g24 k25 k26 k27 k28 k29 g30 g31 g32 g33 g34 g35 g36 g37 g38 g39 g40 g41 g42 g43 g44 t)) : zCl zTab (d + 7) iX12_drawn [.ref 14, .int (Int32.ofInt a1), .int (Int32.ofInt a2), .int (Int32.ofInt a3), .int (Int32.ofInt a4)] (zMi c0 c1 c2 c3 c4 c5 c6 c7 c8 c9 c10 c11 c12 c13 f0 f9 f10 f11 f12 f13 f15 f16 f17 f20 f21 f22 f23 f26 f28 f31 f32 f33 f38 f41 f44 x14 g15 g16 g17 g18 g19 g20 g21 g22 g23 g24 g25 g26 g27 g28 g29 g30 g31 g32 g33 g34 g35 g36 g37 g38 g39 g40 g41 g42 g43 g44 t) 0 0 Q := by
  refine zCl_i (M := kX12_drawn) rfl (Nat.le_of_ble_eq_true rfl) fun R hR => ?_
  iterate 2 refine hR (?_ : R (_, _, _, _, _, _))
  refine hR (?_ : R (_, _, _, (zMi c0 c1 c2 c3 c4 c5 c6 c7 c8 c9 c10 c11 c12 c13 0 f9 f10 f11 f12 f13 f15 f16 f17 f20 f21 f22 f23 f26 f28 f31 f32 f33 f38 f41 f44 x14 g15 g16 g17 g18 g19 g20 g21 g22 g23 g24 g25 g26 g27 g28 g29 g30 g31 g32 g33 g34 g35 g36 g37 g38 g39 g40 g41 g42 g43 g44 t), _, _))
  iterate 2 refine hR (?_ : R (_, _, _, _, _, _))
  refine hR (t_c 60 (by decide) ?_)
  refine hR (zcall_i 0 0 (Nat.le_of_ble_eq_true rfl) (Nat.le_of_ble_eq_true rfl) (m_in _ a3 0 60 _ (by omega) (by omega) (by omega) _ fun v1 hp2 => ?_))
  refine (?_ : R (_, _, (.int (Int32.ofInt v1)) :: [], (zMi c0 c1 c2 c3 c4 c5 c6 c7 c8 c9 c10 c11 c12 c13 0 f9 f10 f11 f12 f13 f15 f16 f17 f20 f21 f22 f23 f26 f28 f31 f32 f33 f38 f41 f44 x14 g15 g16 g17 g18 g19 g20 g21 g22 g23 g24 g25 g26 g27 g28 g29 g30 g31 g32 g33 g34 g35 g36 g37 g38 g39 g40 g41 g42 g43 g44 t), 0, 0))
  refine hR (k_eq (by omega) (fun hc3 => ?_) (fun hc3 => ?_))
  · skip
    refine hR (t_c (-2) (by decide) ?_)
    exact hR (zret_i rfl (Nat.le_refl _) trivial (h _ _ _ _ _ _ _ _ _ _ _ _ _ _ _ hb25 hb26 hb28))
  iterate 2 refine hR (?_ : R (_, _, _, _, _, _))
  refine hR (zcall_i 0 0 (Nat.le_of_ble_eq_true rfl) (Nat.le_of_ble_eq_true rfl) (m_hand _ a1 hb19 hr4 (by omega) _ fun v4 y20_5 y22_6 y23_7 hp8 => ?_))
  refine (?_ : R (_, _, (.int (Int32.ofInt v4)) :: [], (zMi c0 c1 c2 c3 c4 c5 c6 c7 c8 c9 c10 c11 c12 c13 0 f9 f10 f11 f12 f13 f15 f16 f17 y20_5 f21 y22_6 y23_7 f26 f28 f31 f32 f33 f38 f41 f44 x14 g15 g16 g17 g18 g19 g20 g21 g22 g23 g24 g25 g26 g27 g28 g29 g30 g31 g32 g33 g34 g35 g36 g37 g38 g39 g40 g41 g42 g43 g44 t), 0, 0))
  refine hR (k_ne (by omega) (fun hc9 => ?_) (fun hc9 => ?_))
  rotate_left
  · skip
    refine hR (t_c (-2) (by decide) ?_)
    exact hR (zret_i rfl (Nat.le_refl _) trivial (h _ _ _ _ _ _ _ _ _ _ _ _ _ _ _ hb25 hb26 hb28))
  iterate 2 refine hR (?_ : R (_, _, _, _, _, _))
  refine hR (?_ : R (_, _, _, (zMi c0 c1 c2 c3 c4 c5 c6 c7 c8 c9 c10 c11 c12 c13 0 f9 f10 f11 f12 f13 f15 f16 f17 y20_5 f21 y22_6 y23_7 f26 f28 f31 f32 f33 f38 f41 a2 x14 g15 g16 g17 g18 g19 g20 g21 g22 g23 g24 g25 g26 g27 g28 g29 g30 g31 g32 g33 g34 g35 g36 g37 g38 g39 g40 g41 g42 g43 g44 t), _, _))
  refine hR (?_ : R (_, _, _, _, _, _))
  refine hR (zcall_i 0 0 (Nat.le_of_ble_eq_true rfl) (Nat.le_of_ble_eq_true rfl) (m_begin _ hb28 (by omega) _ fun y31_10 y32_11 y33_12 k28_13 k29_14 hp15 hp16 => ?_))
  refine (?_ : R (_, _, [], (zMi c0 c1 c2 c3 c4 c5 c6 c7 c8 c9 c10 c11 c12 c13 0 f9 f10 f11 f12 f13 f15 f16 f17 y20_5 f21 y22_6 y23_7 f26 f28 y31_10 y32_11 y33_12 f38 f41 a2 x14 g15 g16 g17 g18 g19 g20 g21 g22 g23 g24 g25 g26 g27 k28_13 k29_14 g30 g31 g32 g33 g34 g35 g36 g37 g38 g39 g40 g41 g42 g43 g44 t), 0, 0))
  iterate 2 refine hR (?_ : R (_, _, _, _, _, _))
  have lp38 : ∀ (N : Nat) (i : Int) (e26_38 : Int) (e31_38 : Int) (e33_38 : Int) (e44_38 : Int) (q25_38 : Nat → Int32) (q28_38 : Nat → Int32) (q29_38 : Nat → Int32), (0 ≤ i ∧ i ≤ a3) → (zB 0 3 q25_38) → (zB 0 5460 q28_38) → (a3 - i < N) → R (38, [some (.ref 14), some (.int (Int32.ofInt a1)), some (.int (Int32.ofInt a2)), some (.int (Int32.ofInt a3)), some (.int (Int32.ofInt a4)), some (.int (Int32.ofInt i))], [], (zMi c0 c1 c2 c3 c4 c5 c6 c7 c8 c9 c10 c11 c12 c13 0 f9 f10 f11 f12 f13 f15 f16 f17 y20_5 f21 y22_6 y23_7 e26_38 f28 e31_38 y32_11 e33_38 f38 f41 e44_38 x14 g15 g16 g17 g18 g19 g20 g21 g22 g23 g24 q25_38 g26 g27 q28_38 q29_38 g30 g31 g32 g33 g34 g35 g36 g37 g38 g39 g40 g41 g42 g43 g44 t), 0, 0) := by
    intro N
    induction N with
    | zero => intros; omega
    | succ N ih38 =>
      intro i e26_38 e31_38 e33_38 e44_38 q25_38 q28_38 q29_38 hf0_38 hq25_38 hq28_38 hN38
      iterate 2 refine hR (?_ : R (_, _, _, _, _, _))
      refine hR (j_ge (by omega) (by omega) (fun hc17 => ?_) (fun hc17 => ?_))
      · skip
        iterate 2 refine hR (?_ : R (_, _, _, _, _, _))
        refine hR (zcall_i 0 0 (Nat.le_of_ble_eq_true rfl) (Nat.le_of_ble_eq_true rfl) (m_ofState _ a4 hq25_38 hb26 hq28_38 (by omega) (by omega) (by omega) (by omega) _ fun v18 k25_19 k26_20 k27_21 hp22 hp23 => ?_))
        refine (?_ : R (_, _, (.int (Int32.ofInt v18)) :: [], (zMi c0 c1 c2 c3 c4 c5 c6 c7 c8 c9 c10 c11 c12 c13 0 f9 f10 f11 f12 f13 f15 f16 f17 y20_5 f21 y22_6 y23_7 e26_38 f28 e31_38 y32_11 e33_38 f38 f41 e44_38 x14 g15 g16 g17 g18 g19 g20 g21 g22 g23 g24 k25_19 k26_20 k27_21 q28_38 q29_38 g30 g31 g32 g33 g34 g35 g36 g37 g38 g39 g40 g41 g42 g43 g44 t), 0, 0))
        exact hR (zret_i rfl (Nat.le_refl _) trivial (h _ _ _ _ _ _ _ _ _ _ _ _ _ _ _ hp22 hp23 hq28_38))
      refine hR (?_ : R (_, _, _, _, _, _))
      refine hR (zcall_i 0 0 (Nat.le_of_ble_eq_true rfl) (Nat.le_of_ble_eq_true rfl) (m_drawDeed _ hq25_38 hq28_38 hr4 (by omega) (by omega) _ fun y26_24 y31_25 y33_26 y44_27 k25_28 k28_29 k29_30 hp31 hp32 => ?_))
      refine (?_ : R (_, _, [], (zMi c0 c1 c2 c3 c4 c5 c6 c7 c8 c9 c10 c11 c12 c13 0 f9 f10 f11 f12 f13 f15 f16 f17 y20_5 f21 y22_6 y23_7 y26_24 f28 y31_25 y32_11 y33_26 f38 f41 y44_27 x14 g15 g16 g17 g18 g19 g20 g21 g22 g23 g24 k25_28 g26 g27 k28_29 k29_30 g30 g31 g32 g33 g34 g35 g36 g37 g38 g39 g40 g41 g42 g43 g44 t), 0, 0))
      refine hR (t_inc ?_)
      refine hR (?_ : R (_, _, _, _, _, _))
      exact ih38 _ _ _ _ _ _ _ _ (by omega) hp31 hp32 (by omega)
  exact lp38 400000000 _ _ _ _ _ _ _ _ (by omega) hb25 hp15 (by omega)
theorem m_book (d : Nat) (a1 a2 : Int) (hb19 : zB 0 2 g19) (hr1 : bkOK g20) (hr2 : -2147483648 ≤ a1 ∧ a1 ≤ 2147483647) (hr3 : -2147483648 ≤ a2 ∧ a2 ≤ 2147483647) (Q : zQ) (h : ∀ (v : Int) (y0 : Int) (y20 : Int) (y22 : Int) (y23 : Int), Q (some (.int (Int32.ofInt v))) (zMi c0 c1 c2 c3 c4 c5 c6 c7 c8 c9 c10 c11 c12 c13 y0 f9 f10 f11 f12 f13 f15 f16 f17 y20 f21 y22 y23 f26 f28 f31 f32 f33 f38 f41 f44 x14 g15 g16 g17 g18 g19 g20 g21 g22 g23 g24 g25 g26 g27 g28 g29 g30 g31 g32 g33 g34 g35 g36 g37 g38 g39 g40 g41 g42 g43 g44 t)) : zCl zTab (d + 4) iX12_book [.ref 14, .int (Int32.ofInt a1), .int (Int32.ofInt a2)] (zMi c0 c1 c2 c3 c4 c5 c6 c7 c8 c9 c10 c11 c12 c13 f0 f9 f10 f11 f12 f13 f15 f16 f17 f20 f21 f22 f23 f26 f28 f31 f32 f33 f38 f41 f44 x14 g15 g16 g17 g18 g19 g20 g21 g22 g23 g24 g25 g26 g27 g28 g29 g30 g31 g32 g33 g34 g35 g36 g37 g38 g39 g40 g41 g42 g43 g44 t) 0 0 Q := by
  refine zCl_i (M := kX12_book) rfl (Nat.le_of_ble_eq_true rfl) fun R hR => ?_
  iterate 2 refine hR (?_ : R (_, _, _, _, _, _))
  refine hR (?_ : R (_, _, _, (zMi c0 c1 c2 c3 c4 c5 c6 c7 c8 c9 c10 c11 c12 c13 0 f9 f10 f11 f12 f13 f15 f16 f17 f20 f21 f22 f23 f26 f28 f31 f32 f33 f38 f41 f44 x14 g15 g16 g17 g18 g19 g20 g21 g22 g23 g24 g25 g26 g27 g28 g29 g30 g31 g32 g33 g34 g35 g36 g37 g38 g39 g40 g41 g42 g43 g44 t), _, _))
  iterate 2 refine hR (?_ : R (_, _, _, _, _, _))
  refine hR (zcall_i 0 0 (Nat.le_of_ble_eq_true rfl) (Nat.le_of_ble_eq_true rfl) (m_hand _ a1 hb19 hr1 (by omega) _ fun v1 y20_2 y22_3 y23_4 hp5 => ?_))
  refine (?_ : R (_, _, (.int (Int32.ofInt v1)) :: [], (zMi c0 c1 c2 c3 c4 c5 c6 c7 c8 c9 c10 c11 c12 c13 0 f9 f10 f11 f12 f13 f15 f16 f17 y20_2 f21 y22_3 y23_4 f26 f28 f31 f32 f33 f38 f41 f44 x14 g15 g16 g17 g18 g19 g20 g21 g22 g23 g24 g25 g26 g27 g28 g29 g30 g31 g32 g33 g34 g35 g36 g37 g38 g39 g40 g41 g42 g43 g44 t), 0, 0))
  refine hR (k_ne (by omega) (fun hc6 => ?_) (fun hc6 => ?_))
  rotate_left
  · skip
    refine hR (?_ : R (_, _, _, _, _, _))
    exact hR (zret_i rfl (Nat.le_refl _) trivial (h _ _ _ _ _))
  refine hR (?_ : R (_, _, _, _, _, _))
  refine hR (t_c 10 (by decide) ?_)
  refine hR (t_c 13 (by decide) ?_)
  refine hR (zcall_i 0 0 (Nat.le_of_ble_eq_true rfl) (Nat.le_of_ble_eq_true rfl) (m_in _ a2 10 13 _ (by omega) (by omega) (by omega) _ fun v7 hp8 => ?_))
  refine (?_ : R (_, _, (.int (Int32.ofInt v7)) :: [], (zMi c0 c1 c2 c3 c4 c5 c6 c7 c8 c9 c10 c11 c12 c13 0 f9 f10 f11 f12 f13 f15 f16 f17 y20_2 f21 y22_3 y23_4 f26 f28 f31 f32 f33 f38 f41 f44 x14 g15 g16 g17 g18 g19 g20 g21 g22 g23 g24 g25 g26 g27 g28 g29 g30 g31 g32 g33 g34 g35 g36 g37 g38 g39 g40 g41 g42 g43 g44 t), 0, 0))
  refine hR (k_eq (by omega) (fun hc9 => ?_) (fun hc9 => ?_))
  rotate_left
  · skip
    iterate 3 refine hR (?_ : R (_, _, _, _, _, _))
    refine hR (t_add ?_)
    refine hR (t_c 10 (by decide) ?_)
    refine hR (t_sub ?_)
    refine hR (zcall_i 0 0 (Nat.le_of_ble_eq_true rfl) (Nat.le_of_ble_eq_true rfl) (m_ofK _ ((2 + a2) - 10) hr1 (by omega) (by omega) _ fun v28 hp29 hp30 => ?_))
    refine (?_ : R (_, _, (.int (Int32.ofInt v28)) :: [], (zMi c0 c1 c2 c3 c4 c5 c6 c7 c8 c9 c10 c11 c12 c13 0 f9 f10 f11 f12 f13 f15 f16 f17 y20_2 f21 y22_3 y23_4 f26 f28 f31 f32 f33 f38 f41 f44 x14 g15 g16 g17 g18 g19 g20 g21 g22 g23 g24 g25 g26 g27 g28 g29 g30 g31 g32 g33 g34 g35 g36 g37 g38 g39 g40 g41 g42 g43 g44 t), 0, 0))
    exact hR (zret_i rfl (Nat.le_refl _) trivial (h _ _ _ _ _))
  refine hR (?_ : R (_, _, _, _, _, _))
  refine hR (t_c 20 (by decide) ?_)
  refine hR (t_c 19 (by decide) ?_)
  iterate 2 refine hR (?_ : R (_, _, _, _, _, _))
  refine hR (t_add ?_)
  refine hR (zcall_i 0 0 (Nat.le_of_ble_eq_true rfl) (Nat.le_of_ble_eq_true rfl) (m_in _ a2 20 (19 + y23_4) _ (by omega) (by omega) (by omega) _ fun v10 hp11 => ?_))
  refine (?_ : R (_, _, (.int (Int32.ofInt v10)) :: [], (zMi c0 c1 c2 c3 c4 c5 c6 c7 c8 c9 c10 c11 c12 c13 0 f9 f10 f11 f12 f13 f15 f16 f17 y20_2 f21 y22_3 y23_4 f26 f28 f31 f32 f33 f38 f41 f44 x14 g15 g16 g17 g18 g19 g20 g21 g22 g23 g24 g25 g26 g27 g28 g29 g30 g31 g32 g33 g34 g35 g36 g37 g38 g39 g40 g41 g42 g43 g44 t), 0, 0))
  refine hR (k_eq (by omega) (fun hc12 => ?_) (fun hc12 => ?_))
  rotate_left
  · skip
    refine hR (?_ : R (_, _, _, _, _, _))
    refine hR (t_c 6 (by decide) ?_)
    refine hR (?_ : R (_, _, _, _, _, _))
    refine hR (t_add ?_)
    refine hR (t_c 20 (by decide) ?_)
    refine hR (t_sub ?_)
    refine hR (zcall_i 0 0 (Nat.le_of_ble_eq_true rfl) (Nat.le_of_ble_eq_true rfl) (m_ofM _ ((6 + a2) - 20) hr1 (by omega) (by omega) _ fun v25 hp26 hp27 => ?_))
    refine (?_ : R (_, _, (.int (Int32.ofInt v25)) :: [], (zMi c0 c1 c2 c3 c4 c5 c6 c7 c8 c9 c10 c11 c12 c13 0 f9 f10 f11 f12 f13 f15 f16 f17 y20_2 f21 y22_3 y23_4 f26 f28 f31 f32 f33 f38 f41 f44 x14 g15 g16 g17 g18 g19 g20 g21 g22 g23 g24 g25 g26 g27 g28 g29 g30 g31 g32 g33 g34 g35 g36 g37 g38 g39 g40 g41 g42 g43 g44 t), 0, 0))
    exact hR (zret_i rfl (Nat.le_refl _) trivial (h _ _ _ _ _))
  refine hR (?_ : R (_, _, _, _, _, _))
  refine hR (t_c 30 (by decide) ?_)
  refine hR (t_c 29 (by decide) ?_)
  refine hR (t_c 10 (by decide) ?_)
  iterate 2 refine hR (?_ : R (_, _, _, _, _, _))
  refine hR (t_mul ?_)
  refine hR (t_add ?_)
  refine hR (zcall_i 0 0 (Nat.le_of_ble_eq_true rfl) (Nat.le_of_ble_eq_true rfl) (m_in _ a2 30 (29 + (10 * y23_4)) _ (by omega) (by omega) (by omega) _ fun v13 hp14 => ?_))
  refine (?_ : R (_, _, (.int (Int32.ofInt v13)) :: [], (zMi c0 c1 c2 c3 c4 c5 c6 c7 c8 c9 c10 c11 c12 c13 0 f9 f10 f11 f12 f13 f15 f16 f17 y20_2 f21 y22_3 y23_4 f26 f28 f31 f32 f33 f38 f41 f44 x14 g15 g16 g17 g18 g19 g20 g21 g22 g23 g24 g25 g26 g27 g28 g29 g30 g31 g32 g33 g34 g35 g36 g37 g38 g39 g40 g41 g42 g43 g44 t), 0, 0))
  refine hR (k_eq (by omega) (fun hc15 => ?_) (fun hc15 => ?_))
  · skip
    refine hR (?_ : R (_, _, _, _, _, _))
    refine hR (k_ne (by omega) (fun hc16 => ?_) (fun hc16 => ?_))
    rotate_left
    · skip
      iterate 3 refine hR (?_ : R (_, _, _, _, _, _))
      exact hR (zret_i rfl (Nat.le_refl _) trivial (h _ _ _ _ _))
    iterate 2 refine hR (?_ : R (_, _, _, _, _, _))
    refine hR (j_ne (by omega) (by omega) (fun hc17 => ?_) (fun hc17 => ?_))
    · skip
      refine hR (?_ : R (_, _, _, _, _, _))
      exact hR (zret_i rfl (Nat.le_refl _) trivial (h _ _ _ _ _))
    iterate 3 refine hR (?_ : R (_, _, _, _, _, _))
    exact hR (zret_i rfl (Nat.le_refl _) trivial (h _ _ _ _ _))
  refine hR (?_ : R (_, _, _, _, _, _))
  refine hR (t_c 30 (by decide) ?_)
  refine hR (t_sub ?_)
  refine hR (t_c 10 (by decide) ?_)
  refine hR (t_div (by omega) (by omega) (by omega) (by omega) ?_)
  iterate 2 refine hR (?_ : R (_, _, _, _, _, _))
  refine hR (t_c 10 (by decide) ?_)
  refine hR (t_rem (by omega) (by omega) (by omega) (by omega) ?_)
  iterate 4 refine hR (?_ : R (_, _, _, _, _, _))
  refine hR (t_c 6 (by decide) ?_)
  refine hR (?_ : R (_, _, _, _, _, _))
  refine hR (t_add ?_)
  refine hR (zcall_i 0 0 (Nat.le_of_ble_eq_true rfl) (Nat.le_of_ble_eq_true rfl) (m_ofM _ (6 + ((a2 - 30) / 10)) hr1 (by omega) (by omega) _ fun v18 hp19 hp20 => ?_))
  refine (?_ : R (_, _, (.int (Int32.ofInt v18)) :: (.int (Int32.ofInt 2)) :: (.int (Int32.ofInt (a2 % 10))) :: [], (zMi c0 c1 c2 c3 c4 c5 c6 c7 c8 c9 c10 c11 c12 c13 0 f9 f10 f11 f12 f13 f15 f16 f17 y20_2 f21 y22_3 y23_4 f26 f28 f31 f32 f33 f38 f41 f44 x14 g15 g16 g17 g18 g19 g20 g21 g22 g23 g24 g25 g26 g27 g28 g29 g30 g31 g32 g33 g34 g35 g36 g37 g38 g39 g40 g41 g42 g43 g44 t), 0, 0))
  refine hR (t_mul ?_)
  refine hR (j_ge (by omega) (by omega) (fun hc21 => ?_) (fun hc21 => ?_))
  · skip
    refine hR (?_ : R (_, _, _, _, _, _))
    exact hR (zret_i rfl (Nat.le_refl _) trivial (h _ _ _ _ _))
  refine hR (?_ : R (_, _, _, _, _, _))
  refine hR (t_c 11 (by decide) ?_)
  refine hR (t_c 8 (by decide) ?_)
  refine hR (?_ : R (_, _, _, _, _, _))
  refine hR (t_mul ?_)
  refine hR (t_add ?_)
  refine hR (?_ : R (_, _, _, _, _, _))
  refine hR (t_add ?_)
  refine hR (zcall_i 0 0 (Nat.le_of_ble_eq_true rfl) (Nat.le_of_ble_eq_true rfl) (m_ofS _ ((11 + (8 * ((a2 - 30) / 10))) + (a2 % 10)) hr1 (by omega) (by omega) _ fun v22 hp23 hp24 => ?_))
  refine (?_ : R (_, _, (.int (Int32.ofInt v22)) :: [], (zMi c0 c1 c2 c3 c4 c5 c6 c7 c8 c9 c10 c11 c12 c13 0 f9 f10 f11 f12 f13 f15 f16 f17 y20_2 f21 y22_3 y23_4 f26 f28 f31 f32 f33 f38 f41 f44 x14 g15 g16 g17 g18 g19 g20 g21 g22 g23 g24 g25 g26 g27 g28 g29 g30 g31 g32 g33 g34 g35 g36 g37 g38 g39 g40 g41 g42 g43 g44 t), 0, 0))
  refine hR (?_ : R (_, _, _, _, _, _))
  exact hR (zret_i rfl (Nat.le_refl _) trivial (h _ _ _ _ _))
theorem m_read (d : Nat) (a1 a2 a3 : Int) (hb19 : zB 0 2 g19) (hb25 : zB 0 3 g25) (hr2 : bkOK g20) (hr3 : -2147483648 ≤ a1 ∧ a1 ≤ 2147483647) (hr4 : -2147483648 ≤ a2 ∧ a2 ≤ 2147483647) (hr5 : -2147483648 ≤ a3 ∧ a3 ≤ 2147483647) (Q : zQ) (h : ∀ (v : Int) (y0 : Int) (y20 : Int) (y22 : Int) (y23 : Int) (y26 : Int) (k25 : Nat → Int32), zB 0 3 k25 → Q (some (.int (Int32.ofInt v))) (zMi c0 c1 c2 c3 c4 c5 c6 c7 c8 c9 c10 c11 c12 c13 y0 f9 f10 f11 f12 f13 f15 f16 f17 y20 f21 y22 y23 y26 f28 f31 f32 f33 f38 f41 f44 x14 g15 g16 g17 g18 g19 g20 g21 g22 g23 g24 k25 g26 g27 g28 g29 g30 g31 g32 g33 g34 g35 g36 g37 g38 g39 g40 g41 g42 g43 g44 t)) : zCl zTab (d + 5) iX12_read [.ref 14, .int (Int32.ofInt a1), .int (Int32.ofInt a2), .int (Int32.ofInt a3)] (zMi c0 c1 c2 c3 c4 c5 c6 c7 c8 c9 c10 c11 c12 c13 f0 f9 f10 f11 f12 f13 f15 f16 f17 f20 f21 f22 f23 f26 f28 f31 f32 f33 f38 f41 f44 x14 g15 g16 g17 g18 g19 g20 g21 g22 g23 g24 g25 g26 g27 g28 g29 g30 g31 g32 g33 g34 g35 g36 g37 g38 g39 g40 g41 g42 g43 g44 t) 0 0 Q := by
  refine zCl_i (M := kX12_read) rfl (Nat.le_of_ble_eq_true rfl) fun R hR => ?_
  iterate 2 refine hR (?_ : R (_, _, _, _, _, _))
  refine hR (?_ : R (_, _, _, (zMi c0 c1 c2 c3 c4 c5 c6 c7 c8 c9 c10 c11 c12 c13 0 f9 f10 f11 f12 f13 f15 f16 f17 f20 f21 f22 f23 f26 f28 f31 f32 f33 f38 f41 f44 x14 g15 g16 g17 g18 g19 g20 g21 g22 g23 g24 g25 g26 g27 g28 g29 g30 g31 g32 g33 g34 g35 g36 g37 g38 g39 g40 g41 g42 g43 g44 t), _, _))
  iterate 2 refine hR (?_ : R (_, _, _, _, _, _))
  refine hR (zcall_i 0 0 (Nat.le_of_ble_eq_true rfl) (Nat.le_of_ble_eq_true rfl) (m_hand _ a1 hb19 hr2 (by omega) _ fun v1 y20_2 y22_3 y23_4 hp5 => ?_))
  refine (?_ : R (_, _, (.int (Int32.ofInt v1)) :: [], (zMi c0 c1 c2 c3 c4 c5 c6 c7 c8 c9 c10 c11 c12 c13 0 f9 f10 f11 f12 f13 f15 f16 f17 y20_2 f21 y22_3 y23_4 f26 f28 f31 f32 f33 f38 f41 f44 x14 g15 g16 g17 g18 g19 g20 g21 g22 g23 g24 g25 g26 g27 g28 g29 g30 g31 g32 g33 g34 g35 g36 g37 g38 g39 g40 g41 g42 g43 g44 t), 0, 0))
  refine hR (k_eq (by omega) (fun hc6 => ?_) (fun hc6 => ?_))
  · skip
    refine hR (?_ : R (_, _, _, _, _, _))
    exact hR (zret_i rfl (Nat.le_refl _) trivial (h _ _ _ _ _ _ _ hb25))
  refine hR (?_ : R (_, _, _, _, _, _))
  refine hR (zcall_i 0 0 (Nat.le_of_ble_eq_true rfl) (Nat.le_of_ble_eq_true rfl) (m_isText _ a2 _ (by omega) _ fun v7 hp8 => ?_))
  refine (?_ : R (_, _, (.int (Int32.ofInt v7)) :: [], (zMi c0 c1 c2 c3 c4 c5 c6 c7 c8 c9 c10 c11 c12 c13 0 f9 f10 f11 f12 f13 f15 f16 f17 y20_2 f21 y22_3 y23_4 f26 f28 f31 f32 f33 f38 f41 f44 x14 g15 g16 g17 g18 g19 g20 g21 g22 g23 g24 g25 g26 g27 g28 g29 g30 g31 g32 g33 g34 g35 g36 g37 g38 g39 g40 g41 g42 g43 g44 t), 0, 0))
  refine hR (k_eq (by omega) (fun hc9 => ?_) (fun hc9 => ?_))
  · skip
    refine hR (?_ : R (_, _, _, _, _, _))
    exact hR (zret_i rfl (Nat.le_refl _) trivial (h _ _ _ _ _ _ _ hb25))
  iterate 2 refine hR (?_ : R (_, _, _, _, _, _))
  refine hR (zcall_i 0 0 (Nat.le_of_ble_eq_true rfl) (Nat.le_of_ble_eq_true rfl) (m_isReader _ a3 (by omega) (by omega) _ fun v10 hp11 => ?_))
  refine (?_ : R (_, _, (.int (Int32.ofInt v10)) :: [], (zMi c0 c1 c2 c3 c4 c5 c6 c7 c8 c9 c10 c11 c12 c13 0 f9 f10 f11 f12 f13 f15 f16 f17 y20_2 f21 y22_3 y23_4 f26 f28 f31 f32 f33 f38 f41 f44 x14 g15 g16 g17 g18 g19 g20 g21 g22 g23 g24 g25 g26 g27 g28 g29 g30 g31 g32 g33 g34 g35 g36 g37 g38 g39 g40 g41 g42 g43 g44 t), 0, 0))
  refine hR (k_eq (by omega) (fun hc12 => ?_) (fun hc12 => ?_))
  · skip
    refine hR (?_ : R (_, _, _, _, _, _))
    exact hR (zret_i rfl (Nat.le_refl _) trivial (h _ _ _ _ _ _ _ hb25))
  iterate 3 refine hR (?_ : R (_, _, _, _, _, _))
  refine hR (zcall_i 0 0 (Nat.le_of_ble_eq_true rfl) (Nat.le_of_ble_eq_true rfl) (m_readBy _ a2 a3 hb25 (by omega) hr2 (by omega) (by omega) _ fun v13 y26_14 k25_15 hp16 hp17 => ?_))
  refine (?_ : R (_, _, (.int (Int32.ofInt v13)) :: [], (zMi c0 c1 c2 c3 c4 c5 c6 c7 c8 c9 c10 c11 c12 c13 0 f9 f10 f11 f12 f13 f15 f16 f17 y20_2 f21 y22_3 y23_4 y26_14 f28 f31 f32 f33 f38 f41 f44 x14 g15 g16 g17 g18 g19 g20 g21 g22 g23 g24 k25_15 g26 g27 g28 g29 g30 g31 g32 g33 g34 g35 g36 g37 g38 g39 g40 g41 g42 g43 g44 t), 0, 0))
  refine hR (?_ : R (_, _, _, _, _, _))
  exact hR (zret_i rfl (Nat.le_refl _) trivial (h _ _ _ _ _ _ _ hp16))
theorem m_word (d : Nat) (a1 a2 : Int) (hb25 : zB 0 3 g25) (hr1 : -2147483648 ≤ a1 ∧ a1 ≤ 2147483647) (hr2 : -2147483648 ≤ a2 ∧ a2 ≤ 2147483647) (Q : zQ) (h : ∀ (v : Int) (y0 : Int) (k25 : Nat → Int32), zB 0 3 k25 → Q (some (.int (Int32.ofInt v))) (zMi c0 c1 c2 c3 c4 c5 c6 c7 c8 c9 c10 c11 c12 c13 y0 f9 f10 f11 f12 f13 f15 f16 f17 f20 f21 f22 f23 f26 f28 f31 f32 f33 f38 f41 f44 x14 g15 g16 g17 g18 g19 g20 g21 g22 g23 g24 k25 g26 g27 g28 g29 g30 g31 g32 g33 g34 g35 g36 g37 g38 g39 g40 g41 g42 g43 g44 t)) : zCl zTab (d + 4) iX12_word [.ref 14, .int (Int32.ofInt a1), .int (Int32.ofInt a2)] (zMi c0 c1 c2 c3 c4 c5 c6 c7 c8 c9 c10 c11 c12 c13 f0 f9 f10 f11 f12 f13 f15 f16 f17 f20 f21 f22 f23 f26 f28 f31 f32 f33 f38 f41 f44 x14 g15 g16 g17 g18 g19 g20 g21 g22 g23 g24 g25 g26 g27 g28 g29 g30 g31 g32 g33 g34 g35 g36 g37 g38 g39 g40 g41 g42 g43 g44 t) 0 0 Q := by
  refine zCl_i (M := kX12_word) rfl (Nat.le_of_ble_eq_true rfl) fun R hR => ?_
  iterate 2 refine hR (?_ : R (_, _, _, _, _, _))
  refine hR (?_ : R (_, _, _, (zMi c0 c1 c2 c3 c4 c5 c6 c7 c8 c9 c10 c11 c12 c13 0 f9 f10 f11 f12 f13 f15 f16 f17 f20 f21 f22 f23 f26 f28 f31 f32 f33 f38 f41 f44 x14 g15 g16 g17 g18 g19 g20 g21 g22 g23 g24 g25 g26 g27 g28 g29 g30 g31 g32 g33 g34 g35 g36 g37 g38 g39 g40 g41 g42 g43 g44 t), _, _))
  refine hR (?_ : R (_, _, _, _, _, _))
  refine hR (zcall_i 0 0 (Nat.le_of_ble_eq_true rfl) (Nat.le_of_ble_eq_true rfl) (m_isText _ a1 _ (by omega) _ fun v1 hp2 => ?_))
  refine (?_ : R (_, _, (.int (Int32.ofInt v1)) :: [], (zMi c0 c1 c2 c3 c4 c5 c6 c7 c8 c9 c10 c11 c12 c13 0 f9 f10 f11 f12 f13 f15 f16 f17 f20 f21 f22 f23 f26 f28 f31 f32 f33 f38 f41 f44 x14 g15 g16 g17 g18 g19 g20 g21 g22 g23 g24 g25 g26 g27 g28 g29 g30 g31 g32 g33 g34 g35 g36 g37 g38 g39 g40 g41 g42 g43 g44 t), 0, 0))
  refine hR (k_eq (by omega) (fun hc3 => ?_) (fun hc3 => ?_))
  · skip
    refine hR (?_ : R (_, _, _, _, _, _))
    exact hR (zret_i rfl (Nat.le_refl _) trivial (h _ _ _ hb25))
  iterate 3 refine hR (?_ : R (_, _, _, _, _, _))
  refine hR (zcall_i 0 0 (Nat.le_of_ble_eq_true rfl) (Nat.le_of_ble_eq_true rfl) (m_sizeOf _ a1 _ (by omega) _ fun v4 hp5 hp6 => ?_))
  refine (?_ : R (_, _, (.int (Int32.ofInt v4)) :: (.int (Int32.ofInt ((-1)))) :: (.int (Int32.ofInt a2)) :: [], (zMi c0 c1 c2 c3 c4 c5 c6 c7 c8 c9 c10 c11 c12 c13 0 f9 f10 f11 f12 f13 f15 f16 f17 f20 f21 f22 f23 f26 f28 f31 f32 f33 f38 f41 f44 x14 g15 g16 g17 g18 g19 g20 g21 g22 g23 g24 g25 g26 g27 g28 g29 g30 g31 g32 g33 g34 g35 g36 g37 g38 g39 g40 g41 g42 g43 g44 t), 0, 0))
  refine hR (?_ : R (_, _, _, _, _, _))
  refine hR (t_sub ?_)
  refine hR (zcall_i 0 0 (Nat.le_of_ble_eq_true rfl) (Nat.le_of_ble_eq_true rfl) (m_in _ a2 ((-1)) (v4 - 1) _ (by omega) (by omega) (by omega) _ fun v7 hp8 => ?_))
  refine (?_ : R (_, _, (.int (Int32.ofInt v7)) :: [], (zMi c0 c1 c2 c3 c4 c5 c6 c7 c8 c9 c10 c11 c12 c13 0 f9 f10 f11 f12 f13 f15 f16 f17 f20 f21 f22 f23 f26 f28 f31 f32 f33 f38 f41 f44 x14 g15 g16 g17 g18 g19 g20 g21 g22 g23 g24 g25 g26 g27 g28 g29 g30 g31 g32 g33 g34 g35 g36 g37 g38 g39 g40 g41 g42 g43 g44 t), 0, 0))
  refine hR (k_ne (by omega) (fun hc9 => ?_) (fun hc9 => ?_))
  rotate_left
  · skip
    refine hR (?_ : R (_, _, _, _, _, _))
    exact hR (zret_i rfl (Nat.le_refl _) trivial (h _ _ _ hb25))
  iterate 3 refine hR (?_ : R (_, _, _, _, _, _))
  refine hR (zcall_i 0 0 (Nat.le_of_ble_eq_true rfl) (Nat.le_of_ble_eq_true rfl) (m_spell25 _ a1 hb25 (by omega) _ fun k25_10 hp11 => ?_))
  refine (?_ : R (_, _, [], (zMi c0 c1 c2 c3 c4 c5 c6 c7 c8 c9 c10 c11 c12 c13 0 f9 f10 f11 f12 f13 f15 f16 f17 f20 f21 f22 f23 f26 f28 f31 f32 f33 f38 f41 f44 x14 g15 g16 g17 g18 g19 g20 g21 g22 g23 g24 k25_10 g26 g27 g28 g29 g30 g31 g32 g33 g34 g35 g36 g37 g38 g39 g40 g41 g42 g43 g44 t), 0, 0))
  iterate 2 refine hR (?_ : R (_, _, _, _, _, _))
  refine hR (j_ne (by omega) (by omega) (fun hc12 => ?_) (fun hc12 => ?_))
  · skip
    iterate 3 refine hR (?_ : R (_, _, _, _, _, _))
    refine hR (t_ldB hp11 (by omega) (by omega) (Nat.le_of_ble_eq_true rfl) fun v13 ev13 lv13 uv13 => ?_)
    clear ev13
    exact hR (zret_i rfl (Nat.le_refl _) trivial (h _ _ _ hp11))
  refine hR (?_ : R (_, _, _, _, _, _))
  refine hR (zcall_i 0 0 (Nat.le_of_ble_eq_true rfl) (Nat.le_of_ble_eq_true rfl) (m_sizeOf _ a1 _ (by omega) _ fun v14 hp15 hp16 => ?_))
  refine (?_ : R (_, _, (.int (Int32.ofInt v14)) :: [], (zMi c0 c1 c2 c3 c4 c5 c6 c7 c8 c9 c10 c11 c12 c13 0 f9 f10 f11 f12 f13 f15 f16 f17 f20 f21 f22 f23 f26 f28 f31 f32 f33 f38 f41 f44 x14 g15 g16 g17 g18 g19 g20 g21 g22 g23 g24 k25_10 g26 g27 g28 g29 g30 g31 g32 g33 g34 g35 g36 g37 g38 g39 g40 g41 g42 g43 g44 t), 0, 0))
  refine hR (?_ : R (_, _, _, _, _, _))
  exact hR (zret_i rfl (Nat.le_refl _) trivial (h _ _ _ hp11))
theorem m_drift (d : Nat) (a1 a2 : Int) (hb25 : zB 0 3 g25) (hb26 : zB 0 3 g26) (hr2 : -2147483648 ≤ a1 ∧ a1 ≤ 2147483647) (hr3 : -2147483648 ≤ a2 ∧ a2 ≤ 2147483647) (Q : zQ) (h : ∀ (v : Int) (y0 : Int) (k25 : Nat → Int32) (k26 : Nat → Int32) (k27 : Nat → Int32), zB 0 3 k25 → zB 0 3 k26 → Q (some (.int (Int32.ofInt v))) (zMi c0 c1 c2 c3 c4 c5 c6 c7 c8 c9 c10 c11 c12 c13 y0 f9 f10 f11 f12 f13 f15 f16 f17 f20 f21 f22 f23 f26 f28 f31 f32 f33 f38 f41 f44 x14 g15 g16 g17 g18 g19 g20 g21 g22 g23 g24 k25 k26 k27 g28 g29 g30 g31 g32 g33 g34 g35 g36 g37 g38 g39 g40 g41 g42 g43 g44 t)) : zCl zTab (d + 5) iX12_drift [.ref 14, .int (Int32.ofInt a1), .int (Int32.ofInt a2)] (zMi c0 c1 c2 c3 c4 c5 c6 c7 c8 c9 c10 c11 c12 c13 f0 f9 f10 f11 f12 f13 f15 f16 f17 f20 f21 f22 f23 f26 f28 f31 f32 f33 f38 f41 f44 x14 g15 g16 g17 g18 g19 g20 g21 g22 g23 g24 g25 g26 g27 g28 g29 g30 g31 g32 g33 g34 g35 g36 g37 g38 g39 g40 g41 g42 g43 g44 t) 0 0 Q := by
  refine zCl_i (M := kX12_drift) rfl (Nat.le_of_ble_eq_true rfl) fun R hR => ?_
  iterate 2 refine hR (?_ : R (_, _, _, _, _, _))
  refine hR (?_ : R (_, _, _, (zMi c0 c1 c2 c3 c4 c5 c6 c7 c8 c9 c10 c11 c12 c13 0 f9 f10 f11 f12 f13 f15 f16 f17 f20 f21 f22 f23 f26 f28 f31 f32 f33 f38 f41 f44 x14 g15 g16 g17 g18 g19 g20 g21 g22 g23 g24 g25 g26 g27 g28 g29 g30 g31 g32 g33 g34 g35 g36 g37 g38 g39 g40 g41 g42 g43 g44 t), _, _))
  refine hR (?_ : R (_, _, _, _, _, _))
  refine hR (zcall_i 0 0 (Nat.le_of_ble_eq_true rfl) (Nat.le_of_ble_eq_true rfl) (m_isText _ a1 _ (by omega) _ fun v1 hp2 => ?_))
  refine (?_ : R (_, _, (.int (Int32.ofInt v1)) :: [], (zMi c0 c1 c2 c3 c4 c5 c6 c7 c8 c9 c10 c11 c12 c13 0 f9 f10 f11 f12 f13 f15 f16 f17 f20 f21 f22 f23 f26 f28 f31 f32 f33 f38 f41 f44 x14 g15 g16 g17 g18 g19 g20 g21 g22 g23 g24 g25 g26 g27 g28 g29 g30 g31 g32 g33 g34 g35 g36 g37 g38 g39 g40 g41 g42 g43 g44 t), 0, 0))
  refine hR (k_eq (by omega) (fun hc3 => ?_) (fun hc3 => ?_))
  · skip
    refine hR (?_ : R (_, _, _, _, _, _))
    exact hR (zret_i rfl (Nat.le_refl _) trivial (h _ _ _ _ _ hb25 hb26))
  refine hR (?_ : R (_, _, _, _, _, _))
  refine hR (zcall_i 0 0 (Nat.le_of_ble_eq_true rfl) (Nat.le_of_ble_eq_true rfl) (m_isText _ a2 _ (by omega) _ fun v4 hp5 => ?_))
  refine (?_ : R (_, _, (.int (Int32.ofInt v4)) :: [], (zMi c0 c1 c2 c3 c4 c5 c6 c7 c8 c9 c10 c11 c12 c13 0 f9 f10 f11 f12 f13 f15 f16 f17 f20 f21 f22 f23 f26 f28 f31 f32 f33 f38 f41 f44 x14 g15 g16 g17 g18 g19 g20 g21 g22 g23 g24 g25 g26 g27 g28 g29 g30 g31 g32 g33 g34 g35 g36 g37 g38 g39 g40 g41 g42 g43 g44 t), 0, 0))
  refine hR (k_eq (by omega) (fun hc6 => ?_) (fun hc6 => ?_))
  · skip
    refine hR (?_ : R (_, _, _, _, _, _))
    exact hR (zret_i rfl (Nat.le_refl _) trivial (h _ _ _ _ _ hb25 hb26))
  iterate 3 refine hR (?_ : R (_, _, _, _, _, _))
  refine hR (zcall_i 0 0 (Nat.le_of_ble_eq_true rfl) (Nat.le_of_ble_eq_true rfl) (m_apart _ a1 a2 hb25 hb26 (by omega) (by omega) _ fun v7 k25_8 k26_9 k27_10 hp11 hp12 hp13 hp14 => ?_))
  refine (?_ : R (_, _, (.int (Int32.ofInt v7)) :: [], (zMi c0 c1 c2 c3 c4 c5 c6 c7 c8 c9 c10 c11 c12 c13 0 f9 f10 f11 f12 f13 f15 f16 f17 f20 f21 f22 f23 f26 f28 f31 f32 f33 f38 f41 f44 x14 g15 g16 g17 g18 g19 g20 g21 g22 g23 g24 k25_8 k26_9 k27_10 g28 g29 g30 g31 g32 g33 g34 g35 g36 g37 g38 g39 g40 g41 g42 g43 g44 t), 0, 0))
  refine hR (?_ : R (_, _, _, _, _, _))
  exact hR (zret_i rfl (Nat.le_refl _) trivial (h _ _ _ _ _ hp11 hp12))
end MZ
end
