-- ===== PART A: goes FIRST, ahead of the names: the tables' words, and 'selects' of the private methods out of them =====
/-- a private method of a class that the tables say can be made, by its rows of tables_1 -/
noncomputable def lw_okq (q : MethodName × Nat) : Prop := (q.1.cls ≠ "java/lang/invoke/MethodHandle" ∧ q.1.cls ≠ "java/lang/invoke/VarHandle") ∧ Cond.instantiable q.1.cls q.2 ∈ tables_1 ∧ Cond.privateMethod q.1 ∈ tables_1 ∧ Cond.instanceMethod q.1 ∈ tables_1
theorem lw_p0 : lw_okq (⟨"ReadAloud$Told", "putBytes", "(I)V"⟩, 8) := ⟨⟨by decide +kernel, by decide +kernel⟩, List.mem_of_getElem? (i := 31) (by decide +kernel), List.mem_of_getElem? (i := 176) (by decide +kernel), List.mem_of_getElem? (i := 177) (by decide +kernel)⟩
theorem lw_p1 : lw_okq (⟨"ReadAloud", "tellInto", "(III)Z"⟩, 8) := ⟨⟨by decide +kernel, by decide +kernel⟩, List.mem_of_getElem? (i := 23) (by decide +kernel), List.mem_of_getElem? (i := 188) (by decide +kernel), List.mem_of_getElem? (i := 189) (by decide +kernel)⟩
theorem lw_p2 : lw_okq (⟨"ReadAloud$Teller", "tell", "([BILReadAloud$Lines;)Z"⟩, 8) := ⟨⟨by decide +kernel, by decide +kernel⟩, List.mem_of_getElem? (i := 79) (by decide +kernel), List.mem_of_getElem? (i := 231) (by decide +kernel), List.mem_of_getElem? (i := 232) (by decide +kernel)⟩
theorem lw_p3 : lw_okq (⟨"ReadAloud$Teller", "advance", "()V"⟩, 8) := ⟨⟨by decide +kernel, by decide +kernel⟩, List.mem_of_getElem? (i := 79) (by decide +kernel), List.mem_of_getElem? (i := 235) (by decide +kernel), List.mem_of_getElem? (i := 236) (by decide +kernel)⟩
theorem lw_p4 : lw_okq (⟨"ReadAloud$Teller", "isLetter", "(I)Z"⟩, 8) := ⟨⟨by decide +kernel, by decide +kernel⟩, List.mem_of_getElem? (i := 79) (by decide +kernel), List.mem_of_getElem? (i := 239) (by decide +kernel), List.mem_of_getElem? (i := 240) (by decide +kernel)⟩
theorem lw_p5 : lw_okq (⟨"ReadAloud$Teller", "isDigit", "(I)Z"⟩, 8) := ⟨⟨by decide +kernel, by decide +kernel⟩, List.mem_of_getElem? (i := 79) (by decide +kernel), List.mem_of_getElem? (i := 243) (by decide +kernel), List.mem_of_getElem? (i := 244) (by decide +kernel)⟩
theorem lw_p6 : lw_okq (⟨"ReadAloud$Teller", "advanceDigits", "()V"⟩, 8) := ⟨⟨by decide +kernel, by decide +kernel⟩, List.mem_of_getElem? (i := 79) (by decide +kernel), List.mem_of_getElem? (i := 247) (by decide +kernel), List.mem_of_getElem? (i := 248) (by decide +kernel)⟩
theorem lw_p7 : lw_okq (⟨"ReadAloud$Teller", "tellLine", "(LReadAloud$Lines;)Z"⟩, 8) := ⟨⟨by decide +kernel, by decide +kernel⟩, List.mem_of_getElem? (i := 79) (by decide +kernel), List.mem_of_getElem? (i := 251) (by decide +kernel), List.mem_of_getElem? (i := 252) (by decide +kernel)⟩
theorem lw_p8 : lw_okq (⟨"ReadAloud$Teller", "isAtHand", "(Ljava/lang/String;)Z"⟩, 8) := ⟨⟨by decide +kernel, by decide +kernel⟩, List.mem_of_getElem? (i := 79) (by decide +kernel), List.mem_of_getElem? (i := 262) (by decide +kernel), List.mem_of_getElem? (i := 263) (by decide +kernel)⟩
theorem lw_p9 : lw_okq (⟨"ReadAloud$Teller", "faultHere", "(I)V"⟩, 8) := ⟨⟨by decide +kernel, by decide +kernel⟩, List.mem_of_getElem? (i := 79) (by decide +kernel), List.mem_of_getElem? (i := 342) (by decide +kernel), List.mem_of_getElem? (i := 343) (by decide +kernel)⟩
theorem lw_p10 : lw_okq (⟨"ReadAloud$Book", "beginStep", "(ILReadAloud$Teller;)V"⟩, 7) := ⟨⟨by decide +kernel, by decide +kernel⟩, List.mem_of_getElem? (i := 192) (by decide +kernel), List.mem_of_getElem? (i := 346) (by decide +kernel), List.mem_of_getElem? (i := 347) (by decide +kernel)⟩
theorem lw_p11 : lw_okq (⟨"ReadAloud$Teller", "isWithin", "(II)Z"⟩, 8) := ⟨⟨by decide +kernel, by decide +kernel⟩, List.mem_of_getElem? (i := 79) (by decide +kernel), List.mem_of_getElem? (i := 376) (by decide +kernel), List.mem_of_getElem? (i := 377) (by decide +kernel)⟩
theorem lw_p12 : lw_okq (⟨"ReadAloud$Book", "keepNumber", "(III)V"⟩, 7) := ⟨⟨by decide +kernel, by decide +kernel⟩, List.mem_of_getElem? (i := 192) (by decide +kernel), List.mem_of_getElem? (i := 381) (by decide +kernel), List.mem_of_getElem? (i := 382) (by decide +kernel)⟩
theorem lw_p13 : lw_okq (⟨"ReadAloud", "bookAt", "(I)LReadAloud$Book;"⟩, 8) := ⟨⟨by decide +kernel, by decide +kernel⟩, List.mem_of_getElem? (i := 23) (by decide +kernel), List.mem_of_getElem? (i := 468) (by decide +kernel), List.mem_of_getElem? (i := 469) (by decide +kernel)⟩
theorem lw_p14 : lw_okq (⟨"ReadAloud$Book", "tells", "(I)I"⟩, 7) := ⟨⟨by decide +kernel, by decide +kernel⟩, List.mem_of_getElem? (i := 192) (by decide +kernel), List.mem_of_getElem? (i := 472) (by decide +kernel), List.mem_of_getElem? (i := 473) (by decide +kernel)⟩
theorem lw_p15 : lw_okq (⟨"ReadAloud$Book", "tellsStep", "(II)I"⟩, 7) := ⟨⟨by decide +kernel, by decide +kernel⟩, List.mem_of_getElem? (i := 192) (by decide +kernel), List.mem_of_getElem? (i := 476) (by decide +kernel), List.mem_of_getElem? (i := 477) (by decide +kernel)⟩
noncomputable def lw_privs_1 : List (MethodName × Nat) := [(⟨"ReadAloud$Told", "putBytes", "(I)V"⟩, 8), (⟨"ReadAloud", "tellInto", "(III)Z"⟩, 8), (⟨"ReadAloud$Teller", "tell", "([BILReadAloud$Lines;)Z"⟩, 8), (⟨"ReadAloud$Teller", "advance", "()V"⟩, 8), (⟨"ReadAloud$Teller", "isLetter", "(I)Z"⟩, 8), (⟨"ReadAloud$Teller", "isDigit", "(I)Z"⟩, 8), (⟨"ReadAloud$Teller", "advanceDigits", "()V"⟩, 8), (⟨"ReadAloud$Teller", "tellLine", "(LReadAloud$Lines;)Z"⟩, 8), (⟨"ReadAloud$Teller", "isAtHand", "(Ljava/lang/String;)Z"⟩, 8), (⟨"ReadAloud$Teller", "faultHere", "(I)V"⟩, 8), (⟨"ReadAloud$Book", "beginStep", "(ILReadAloud$Teller;)V"⟩, 7), (⟨"ReadAloud$Teller", "isWithin", "(II)Z"⟩, 8), (⟨"ReadAloud$Book", "keepNumber", "(III)V"⟩, 7), (⟨"ReadAloud", "bookAt", "(I)LReadAloud$Book;"⟩, 8), (⟨"ReadAloud$Book", "tells", "(I)I"⟩, 7), (⟨"ReadAloud$Book", "tellsStep", "(II)I"⟩, 7)]
theorem lw_r1 : ∀ q ∈ lw_privs_1, lw_okq q := List.forall_mem_cons.mpr ⟨lw_p0, List.forall_mem_cons.mpr ⟨lw_p1, List.forall_mem_cons.mpr ⟨lw_p2, List.forall_mem_cons.mpr ⟨lw_p3, List.forall_mem_cons.mpr ⟨lw_p4, List.forall_mem_cons.mpr ⟨lw_p5, List.forall_mem_cons.mpr ⟨lw_p6, List.forall_mem_cons.mpr ⟨lw_p7, List.forall_mem_cons.mpr ⟨lw_p8, List.forall_mem_cons.mpr ⟨lw_p9, List.forall_mem_cons.mpr ⟨lw_p10, List.forall_mem_cons.mpr ⟨lw_p11, List.forall_mem_cons.mpr ⟨lw_p12, List.forall_mem_cons.mpr ⟨lw_p13, List.forall_mem_cons.mpr ⟨lw_p14, List.forall_mem_cons.mpr ⟨lw_p15, fun _ h => absurd h List.not_mem_nil⟩⟩⟩⟩⟩⟩⟩⟩⟩⟩⟩⟩⟩⟩⟩⟩
theorem lw_p16 : lw_okq (⟨"ReadAloud$Book", "hasReader", "(I)Z"⟩, 7) := ⟨⟨by decide +kernel, by decide +kernel⟩, List.mem_of_getElem? (i := 192) (by decide +kernel), List.mem_of_getElem? (i := 480) (by decide +kernel), List.mem_of_getElem? (i := 481) (by decide +kernel)⟩
theorem lw_p17 : lw_okq (⟨"ReadAloud$Book", "readBy", "(II)I"⟩, 7) := ⟨⟨by decide +kernel, by decide +kernel⟩, List.mem_of_getElem? (i := 192) (by decide +kernel), List.mem_of_getElem? (i := 518) (by decide +kernel), List.mem_of_getElem? (i := 519) (by decide +kernel)⟩
theorem lw_p18 : lw_okq (⟨"ReadAloud$Book", "stepOn", "(III)I"⟩, 7) := ⟨⟨by decide +kernel, by decide +kernel⟩, List.mem_of_getElem? (i := 192) (by decide +kernel), List.mem_of_getElem? (i := 523) (by decide +kernel), List.mem_of_getElem? (i := 524) (by decide +kernel)⟩
theorem lw_p19 : lw_okq (⟨"ReadAloud$Book", "shifted", "(III)I"⟩, 7) := ⟨⟨by decide +kernel, by decide +kernel⟩, List.mem_of_getElem? (i := 192) (by decide +kernel), List.mem_of_getElem? (i := 530) (by decide +kernel), List.mem_of_getElem? (i := 531) (by decide +kernel)⟩
theorem lw_p20 : lw_okq (⟨"ReadAloud", "yearAt", "(I)LReadAloud$Year;"⟩, 8) := ⟨⟨by decide +kernel, by decide +kernel⟩, List.mem_of_getElem? (i := 23) (by decide +kernel), List.mem_of_getElem? (i := 554) (by decide +kernel), List.mem_of_getElem? (i := 555) (by decide +kernel)⟩
theorem lw_p21 : lw_okq (⟨"ReadAloud$Year", "tells", "(II)I"⟩, 4) := ⟨⟨by decide +kernel, by decide +kernel⟩, List.mem_of_getElem? (i := 414) (by decide +kernel), List.mem_of_getElem? (i := 558) (by decide +kernel), List.mem_of_getElem? (i := 559) (by decide +kernel)⟩
theorem lw_p22 : lw_okq (⟨"ReadAloud$Course", "begin", "(LReadAloud$Book;)V"⟩, 7) := ⟨⟨by decide +kernel, by decide +kernel⟩, List.mem_of_getElem? (i := 115) (by decide +kernel), List.mem_of_getElem? (i := 566) (by decide +kernel), List.mem_of_getElem? (i := 567) (by decide +kernel)⟩
theorem lw_p23 : lw_okq (⟨"ReadAloud$Course", "doFirst", "(LReadAloud$Year;I)I"⟩, 7) := ⟨⟨by decide +kernel, by decide +kernel⟩, List.mem_of_getElem? (i := 115) (by decide +kernel), List.mem_of_getElem? (i := 573) (by decide +kernel), List.mem_of_getElem? (i := 574) (by decide +kernel)⟩
theorem lw_p24 : lw_okq (⟨"ReadAloud$Course", "doDeed", "(III)Z"⟩, 7) := ⟨⟨by decide +kernel, by decide +kernel⟩, List.mem_of_getElem? (i := 115) (by decide +kernel), List.mem_of_getElem? (i := 577) (by decide +kernel), List.mem_of_getElem? (i := 578) (by decide +kernel)⟩
theorem lw_p25 : lw_okq (⟨"ReadAloud$Course", "doRead", "(II)Z"⟩, 7) := ⟨⟨by decide +kernel, by decide +kernel⟩, List.mem_of_getElem? (i := 115) (by decide +kernel), List.mem_of_getElem? (i := 581) (by decide +kernel), List.mem_of_getElem? (i := 582) (by decide +kernel)⟩
theorem lw_p26 : lw_okq (⟨"ReadAloud$Course", "doCopy", "(II)Z"⟩, 7) := ⟨⟨by decide +kernel, by decide +kernel⟩, List.mem_of_getElem? (i := 115) (by decide +kernel), List.mem_of_getElem? (i := 590) (by decide +kernel), List.mem_of_getElem? (i := 591) (by decide +kernel)⟩
theorem lw_p27 : lw_okq (⟨"ReadAloud$Course", "tells", "(I)I"⟩, 7) := ⟨⟨by decide +kernel, by decide +kernel⟩, List.mem_of_getElem? (i := 115) (by decide +kernel), List.mem_of_getElem? (i := 598) (by decide +kernel), List.mem_of_getElem? (i := 599) (by decide +kernel)⟩
theorem lw_p28 : lw_okq (⟨"ReadAloud$Course", "suits", "()I"⟩, 7) := ⟨⟨by decide +kernel, by decide +kernel⟩, List.mem_of_getElem? (i := 115) (by decide +kernel), List.mem_of_getElem? (i := 602) (by decide +kernel), List.mem_of_getElem? (i := 603) (by decide +kernel)⟩
theorem lw_p29 : lw_okq (⟨"ReadAloud$Course", "against", "()I"⟩, 7) := ⟨⟨by decide +kernel, by decide +kernel⟩, List.mem_of_getElem? (i := 115) (by decide +kernel), List.mem_of_getElem? (i := 606) (by decide +kernel), List.mem_of_getElem? (i := 607) (by decide +kernel)⟩
theorem lw_p30 : lw_okq (⟨"ReadAloud$Course", "driftOfCopy", "(I)I"⟩, 7) := ⟨⟨by decide +kernel, by decide +kernel⟩, List.mem_of_getElem? (i := 115) (by decide +kernel), List.mem_of_getElem? (i := 610) (by decide +kernel), List.mem_of_getElem? (i := 611) (by decide +kernel)⟩
theorem lw_p31 : lw_okq (⟨"ReadAloud", "readingsAt", "(I)LReadAloud$Readings;"⟩, 8) := ⟨⟨by decide +kernel, by decide +kernel⟩, List.mem_of_getElem? (i := 23) (by decide +kernel), List.mem_of_getElem? (i := 619) (by decide +kernel), List.mem_of_getElem? (i := 620) (by decide +kernel)⟩
noncomputable def lw_privs_2 : List (MethodName × Nat) := [(⟨"ReadAloud$Book", "hasReader", "(I)Z"⟩, 7), (⟨"ReadAloud$Book", "readBy", "(II)I"⟩, 7), (⟨"ReadAloud$Book", "stepOn", "(III)I"⟩, 7), (⟨"ReadAloud$Book", "shifted", "(III)I"⟩, 7), (⟨"ReadAloud", "yearAt", "(I)LReadAloud$Year;"⟩, 8), (⟨"ReadAloud$Year", "tells", "(II)I"⟩, 4), (⟨"ReadAloud$Course", "begin", "(LReadAloud$Book;)V"⟩, 7), (⟨"ReadAloud$Course", "doFirst", "(LReadAloud$Year;I)I"⟩, 7), (⟨"ReadAloud$Course", "doDeed", "(III)Z"⟩, 7), (⟨"ReadAloud$Course", "doRead", "(II)Z"⟩, 7), (⟨"ReadAloud$Course", "doCopy", "(II)Z"⟩, 7), (⟨"ReadAloud$Course", "tells", "(I)I"⟩, 7), (⟨"ReadAloud$Course", "suits", "()I"⟩, 7), (⟨"ReadAloud$Course", "against", "()I"⟩, 7), (⟨"ReadAloud$Course", "driftOfCopy", "(I)I"⟩, 7), (⟨"ReadAloud", "readingsAt", "(I)LReadAloud$Readings;"⟩, 8)]
theorem lw_r2 : ∀ q ∈ lw_privs_2, lw_okq q := List.forall_mem_cons.mpr ⟨lw_p16, List.forall_mem_cons.mpr ⟨lw_p17, List.forall_mem_cons.mpr ⟨lw_p18, List.forall_mem_cons.mpr ⟨lw_p19, List.forall_mem_cons.mpr ⟨lw_p20, List.forall_mem_cons.mpr ⟨lw_p21, List.forall_mem_cons.mpr ⟨lw_p22, List.forall_mem_cons.mpr ⟨lw_p23, List.forall_mem_cons.mpr ⟨lw_p24, List.forall_mem_cons.mpr ⟨lw_p25, List.forall_mem_cons.mpr ⟨lw_p26, List.forall_mem_cons.mpr ⟨lw_p27, List.forall_mem_cons.mpr ⟨lw_p28, List.forall_mem_cons.mpr ⟨lw_p29, List.forall_mem_cons.mpr ⟨lw_p30, List.forall_mem_cons.mpr ⟨lw_p31, fun _ h => absurd h List.not_mem_nil⟩⟩⟩⟩⟩⟩⟩⟩⟩⟩⟩⟩⟩⟩⟩⟩
theorem lw_p32 : lw_okq (⟨"ReadAloud$Readings", "takeUp", "(LReadAloud$Book;)V"⟩, 4) := ⟨⟨by decide +kernel, by decide +kernel⟩, List.mem_of_getElem? (i := 622) (by decide +kernel), List.mem_of_getElem? (i := 645) (by decide +kernel), List.mem_of_getElem? (i := 646) (by decide +kernel)⟩
theorem lw_p33 : lw_okq (⟨"ReadAloud", "walkAt", "(I)LReadAloud$Walk;"⟩, 8) := ⟨⟨by decide +kernel, by decide +kernel⟩, List.mem_of_getElem? (i := 23) (by decide +kernel), List.mem_of_getElem? (i := 650) (by decide +kernel), List.mem_of_getElem? (i := 651) (by decide +kernel)⟩
theorem lw_p34 : lw_okq (⟨"ReadAloud$Readings", "all", "()I"⟩, 4) := ⟨⟨by decide +kernel, by decide +kernel⟩, List.mem_of_getElem? (i := 622) (by decide +kernel), List.mem_of_getElem? (i := 678) (by decide +kernel), List.mem_of_getElem? (i := 679) (by decide +kernel)⟩
theorem lw_p35 : lw_okq (⟨"ReadAloud$Walk", "go", "(LReadAloud$Readings;III)V"⟩, 5) := ⟨⟨by decide +kernel, by decide +kernel⟩, List.mem_of_getElem? (i := 653) (by decide +kernel), List.mem_of_getElem? (i := 682) (by decide +kernel), List.mem_of_getElem? (i := 683) (by decide +kernel)⟩
theorem lw_p36 : lw_okq (⟨"ReadAloud$Walk", "comeTo", "(IIII)V"⟩, 5) := ⟨⟨by decide +kernel, by decide +kernel⟩, List.mem_of_getElem? (i := 653) (by decide +kernel), List.mem_of_getElem? (i := 686) (by decide +kernel), List.mem_of_getElem? (i := 687) (by decide +kernel)⟩
theorem lw_p37 : lw_okq (⟨"ReadAloud$Readings", "after", "(II)I"⟩, 4) := ⟨⟨by decide +kernel, by decide +kernel⟩, List.mem_of_getElem? (i := 622) (by decide +kernel), List.mem_of_getElem? (i := 691) (by decide +kernel), List.mem_of_getElem? (i := 692) (by decide +kernel)⟩
theorem lw_p38 : lw_okq (⟨"ReadAloud$Walk", "readerOnWay", "(II)I"⟩, 5) := ⟨⟨by decide +kernel, by decide +kernel⟩, List.mem_of_getElem? (i := 653) (by decide +kernel), List.mem_of_getElem? (i := 696) (by decide +kernel), List.mem_of_getElem? (i := 697) (by decide +kernel)⟩
theorem lw_p39 : lw_okq (⟨"ReadAloud$Walk", "wayBack", "(LReadAloud$Readings;I)I"⟩, 5) := ⟨⟨by decide +kernel, by decide +kernel⟩, List.mem_of_getElem? (i := 653) (by decide +kernel), List.mem_of_getElem? (i := 704) (by decide +kernel), List.mem_of_getElem? (i := 705) (by decide +kernel)⟩
theorem lw_p40 : lw_okq (⟨"ReadAloud$Walk", "farthest", "()I"⟩, 5) := ⟨⟨by decide +kernel, by decide +kernel⟩, List.mem_of_getElem? (i := 653) (by decide +kernel), List.mem_of_getElem? (i := 712) (by decide +kernel), List.mem_of_getElem? (i := 713) (by decide +kernel)⟩
theorem lw_p41 : lw_okq (⟨"ReadAloud$Book", "hasReaders", "(I)Z"⟩, 7) := ⟨⟨by decide +kernel, by decide +kernel⟩, List.mem_of_getElem? (i := 192) (by decide +kernel), List.mem_of_getElem? (i := 720) (by decide +kernel), List.mem_of_getElem? (i := 721) (by decide +kernel)⟩
theorem lw_p42 : lw_okq (⟨"ReadAloud$Readings", "unchangedBy", "(I)I"⟩, 4) := ⟨⟨by decide +kernel, by decide +kernel⟩, List.mem_of_getElem? (i := 622) (by decide +kernel), List.mem_of_getElem? (i := 724) (by decide +kernel), List.mem_of_getElem? (i := 725) (by decide +kernel)⟩
theorem lw_p43 : lw_okq (⟨"ReadAloud$Readings", "isChanged", "(II)Z"⟩, 4) := ⟨⟨by decide +kernel, by decide +kernel⟩, List.mem_of_getElem? (i := 622) (by decide +kernel), List.mem_of_getElem? (i := 728) (by decide +kernel), List.mem_of_getElem? (i := 729) (by decide +kernel)⟩
theorem lw_p44 : lw_okq (⟨"ReadAloud$Readings", "alikeEitherWay", "(II)I"⟩, 4) := ⟨⟨by decide +kernel, by decide +kernel⟩, List.mem_of_getElem? (i := 622) (by decide +kernel), List.mem_of_getElem? (i := 738) (by decide +kernel), List.mem_of_getElem? (i := 739) (by decide +kernel)⟩
theorem lw_p45 : lw_okq (⟨"ReadAloud", "ringsThere", "()LReadAloud$Rings;"⟩, 8) := ⟨⟨by decide +kernel, by decide +kernel⟩, List.mem_of_getElem? (i := 23) (by decide +kernel), List.mem_of_getElem? (i := 746) (by decide +kernel), List.mem_of_getElem? (i := 747) (by decide +kernel)⟩
theorem lw_p46 : lw_okq (⟨"ReadAloud$Rings", "findOrbits", "(LReadAloud$Readings;I)V"⟩, 15) := ⟨⟨by decide +kernel, by decide +kernel⟩, List.mem_of_getElem? (i := 750) (by decide +kernel), List.mem_of_getElem? (i := 806) (by decide +kernel), List.mem_of_getElem? (i := 807) (by decide +kernel)⟩
theorem lw_p47 : lw_okq (⟨"ReadAloud$Rings", "putThoseOfNone", "()I"⟩, 15) := ⟨⟨by decide +kernel, by decide +kernel⟩, List.mem_of_getElem? (i := 750) (by decide +kernel), List.mem_of_getElem? (i := 812) (by decide +kernel), List.mem_of_getElem? (i := 813) (by decide +kernel)⟩
noncomputable def lw_privs_3 : List (MethodName × Nat) := [(⟨"ReadAloud$Readings", "takeUp", "(LReadAloud$Book;)V"⟩, 4), (⟨"ReadAloud", "walkAt", "(I)LReadAloud$Walk;"⟩, 8), (⟨"ReadAloud$Readings", "all", "()I"⟩, 4), (⟨"ReadAloud$Walk", "go", "(LReadAloud$Readings;III)V"⟩, 5), (⟨"ReadAloud$Walk", "comeTo", "(IIII)V"⟩, 5), (⟨"ReadAloud$Readings", "after", "(II)I"⟩, 4), (⟨"ReadAloud$Walk", "readerOnWay", "(II)I"⟩, 5), (⟨"ReadAloud$Walk", "wayBack", "(LReadAloud$Readings;I)I"⟩, 5), (⟨"ReadAloud$Walk", "farthest", "()I"⟩, 5), (⟨"ReadAloud$Book", "hasReaders", "(I)Z"⟩, 7), (⟨"ReadAloud$Readings", "unchangedBy", "(I)I"⟩, 4), (⟨"ReadAloud$Readings", "isChanged", "(II)Z"⟩, 4), (⟨"ReadAloud$Readings", "alikeEitherWay", "(II)I"⟩, 4), (⟨"ReadAloud", "ringsThere", "()LReadAloud$Rings;"⟩, 8), (⟨"ReadAloud$Rings", "findOrbits", "(LReadAloud$Readings;I)V"⟩, 15), (⟨"ReadAloud$Rings", "putThoseOfNone", "()I"⟩, 15)]
theorem lw_r3 : ∀ q ∈ lw_privs_3, lw_okq q := List.forall_mem_cons.mpr ⟨lw_p32, List.forall_mem_cons.mpr ⟨lw_p33, List.forall_mem_cons.mpr ⟨lw_p34, List.forall_mem_cons.mpr ⟨lw_p35, List.forall_mem_cons.mpr ⟨lw_p36, List.forall_mem_cons.mpr ⟨lw_p37, List.forall_mem_cons.mpr ⟨lw_p38, List.forall_mem_cons.mpr ⟨lw_p39, List.forall_mem_cons.mpr ⟨lw_p40, List.forall_mem_cons.mpr ⟨lw_p41, List.forall_mem_cons.mpr ⟨lw_p42, List.forall_mem_cons.mpr ⟨lw_p43, List.forall_mem_cons.mpr ⟨lw_p44, List.forall_mem_cons.mpr ⟨lw_p45, List.forall_mem_cons.mpr ⟨lw_p46, List.forall_mem_cons.mpr ⟨lw_p47, fun _ h => absurd h List.not_mem_nil⟩⟩⟩⟩⟩⟩⟩⟩⟩⟩⟩⟩⟩⟩⟩⟩
theorem lw_p48 : lw_okq (⟨"ReadAloud$Rings", "takeOutside", "(LReadAloud$Readings;II)I"⟩, 15) := ⟨⟨by decide +kernel, by decide +kernel⟩, List.mem_of_getElem? (i := 750) (by decide +kernel), List.mem_of_getElem? (i := 816) (by decide +kernel), List.mem_of_getElem? (i := 817) (by decide +kernel)⟩
theorem lw_p49 : lw_okq (⟨"ReadAloud$Rings", "goRound", "(LReadAloud$Readings;II)I"⟩, 15) := ⟨⟨by decide +kernel, by decide +kernel⟩, List.mem_of_getElem? (i := 750) (by decide +kernel), List.mem_of_getElem? (i := 821) (by decide +kernel), List.mem_of_getElem? (i := 822) (by decide +kernel)⟩
theorem lw_p50 : lw_okq (⟨"ReadAloud", "levelsThere", "()LReadAloud$Levels;"⟩, 8) := ⟨⟨by decide +kernel, by decide +kernel⟩, List.mem_of_getElem? (i := 23) (by decide +kernel), List.mem_of_getElem? (i := 832) (by decide +kernel), List.mem_of_getElem? (i := 833) (by decide +kernel)⟩
theorem lw_p51 : lw_okq (⟨"ReadAloud$Levels", "wantNothing", "()V"⟩, 10) := ⟨⟨by decide +kernel, by decide +kernel⟩, List.mem_of_getElem? (i := 836) (by decide +kernel), List.mem_of_getElem? (i := 874) (by decide +kernel), List.mem_of_getElem? (i := 875) (by decide +kernel)⟩
theorem lw_p52 : lw_okq (⟨"ReadAloud$Levels", "spread", "(LReadAloud$Readings;III)V"⟩, 10) := ⟨⟨by decide +kernel, by decide +kernel⟩, List.mem_of_getElem? (i := 836) (by decide +kernel), List.mem_of_getElem? (i := 878) (by decide +kernel), List.mem_of_getElem? (i := 879) (by decide +kernel)⟩
theorem lw_p53 : lw_okq (⟨"ReadAloud$Levels", "isWanted", "(II)Z"⟩, 10) := ⟨⟨by decide +kernel, by decide +kernel⟩, List.mem_of_getElem? (i := 836) (by decide +kernel), List.mem_of_getElem? (i := 882) (by decide +kernel), List.mem_of_getElem? (i := 883) (by decide +kernel)⟩
theorem lw_p54 : lw_okq (⟨"ReadAloud$Levels", "fillBehind", "(I)I"⟩, 10) := ⟨⟨by decide +kernel, by decide +kernel⟩, List.mem_of_getElem? (i := 836) (by decide +kernel), List.mem_of_getElem? (i := 886) (by decide +kernel), List.mem_of_getElem? (i := 887) (by decide +kernel)⟩
theorem lw_p55 : lw_okq (⟨"ReadAloud$Levels", "onesAt", "(I)I"⟩, 10) := ⟨⟨by decide +kernel, by decide +kernel⟩, List.mem_of_getElem? (i := 836) (by decide +kernel), List.mem_of_getElem? (i := 890) (by decide +kernel), List.mem_of_getElem? (i := 891) (by decide +kernel)⟩
theorem lw_p56 : lw_okq (⟨"ReadAloud$Levels", "forget", "(I)V"⟩, 10) := ⟨⟨by decide +kernel, by decide +kernel⟩, List.mem_of_getElem? (i := 836) (by decide +kernel), List.mem_of_getElem? (i := 896) (by decide +kernel), List.mem_of_getElem? (i := 897) (by decide +kernel)⟩
theorem lw_p57 : lw_okq (⟨"ReadAloud$Levels", "endByDrift", "()V"⟩, 10) := ⟨⟨by decide +kernel, by decide +kernel⟩, List.mem_of_getElem? (i := 836) (by decide +kernel), List.mem_of_getElem? (i := 900) (by decide +kernel), List.mem_of_getElem? (i := 901) (by decide +kernel)⟩
theorem lw_p58 : lw_okq (⟨"ReadAloud$Levels", "bestEnd", "(Z)I"⟩, 10) := ⟨⟨by decide +kernel, by decide +kernel⟩, List.mem_of_getElem? (i := 836) (by decide +kernel), List.mem_of_getElem? (i := 905) (by decide +kernel), List.mem_of_getElem? (i := 906) (by decide +kernel)⟩
theorem lw_p59 : lw_okq (⟨"ReadAloud$Levels", "foldBack", "(II)V"⟩, 10) := ⟨⟨by decide +kernel, by decide +kernel⟩, List.mem_of_getElem? (i := 836) (by decide +kernel), List.mem_of_getElem? (i := 911) (by decide +kernel), List.mem_of_getElem? (i := 912) (by decide +kernel)⟩
theorem lw_p60 : lw_okq (⟨"ReadAloud$Levels", "recall", "(I)V"⟩, 10) := ⟨⟨by decide +kernel, by decide +kernel⟩, List.mem_of_getElem? (i := 836) (by decide +kernel), List.mem_of_getElem? (i := 915) (by decide +kernel), List.mem_of_getElem? (i := 916) (by decide +kernel)⟩
theorem lw_p61 : lw_okq (⟨"ReadAloud$Levels", "folded", "(III)I"⟩, 10) := ⟨⟨by decide +kernel, by decide +kernel⟩, List.mem_of_getElem? (i := 836) (by decide +kernel), List.mem_of_getElem? (i := 919) (by decide +kernel), List.mem_of_getElem? (i := 920) (by decide +kernel)⟩
theorem lw_p62 : lw_okq (⟨"ReadAloud$Levels", "chosenAt", "(I)I"⟩, 10) := ⟨⟨by decide +kernel, by decide +kernel⟩, List.mem_of_getElem? (i := 836) (by decide +kernel), List.mem_of_getElem? (i := 923) (by decide +kernel), List.mem_of_getElem? (i := 924) (by decide +kernel)⟩
theorem lw_p63 : lw_okq (⟨"ReadAloud$Levels", "firstAsGood", "(II)I"⟩, 10) := ⟨⟨by decide +kernel, by decide +kernel⟩, List.mem_of_getElem? (i := 836) (by decide +kernel), List.mem_of_getElem? (i := 927) (by decide +kernel), List.mem_of_getElem? (i := 928) (by decide +kernel)⟩
noncomputable def lw_privs_4 : List (MethodName × Nat) := [(⟨"ReadAloud$Rings", "takeOutside", "(LReadAloud$Readings;II)I"⟩, 15), (⟨"ReadAloud$Rings", "goRound", "(LReadAloud$Readings;II)I"⟩, 15), (⟨"ReadAloud", "levelsThere", "()LReadAloud$Levels;"⟩, 8), (⟨"ReadAloud$Levels", "wantNothing", "()V"⟩, 10), (⟨"ReadAloud$Levels", "spread", "(LReadAloud$Readings;III)V"⟩, 10), (⟨"ReadAloud$Levels", "isWanted", "(II)Z"⟩, 10), (⟨"ReadAloud$Levels", "fillBehind", "(I)I"⟩, 10), (⟨"ReadAloud$Levels", "onesAt", "(I)I"⟩, 10), (⟨"ReadAloud$Levels", "forget", "(I)V"⟩, 10), (⟨"ReadAloud$Levels", "endByDrift", "()V"⟩, 10), (⟨"ReadAloud$Levels", "bestEnd", "(Z)I"⟩, 10), (⟨"ReadAloud$Levels", "foldBack", "(II)V"⟩, 10), (⟨"ReadAloud$Levels", "recall", "(I)V"⟩, 10), (⟨"ReadAloud$Levels", "folded", "(III)I"⟩, 10), (⟨"ReadAloud$Levels", "chosenAt", "(I)I"⟩, 10), (⟨"ReadAloud$Levels", "firstAsGood", "(II)I"⟩, 10)]
theorem lw_r4 : ∀ q ∈ lw_privs_4, lw_okq q := List.forall_mem_cons.mpr ⟨lw_p48, List.forall_mem_cons.mpr ⟨lw_p49, List.forall_mem_cons.mpr ⟨lw_p50, List.forall_mem_cons.mpr ⟨lw_p51, List.forall_mem_cons.mpr ⟨lw_p52, List.forall_mem_cons.mpr ⟨lw_p53, List.forall_mem_cons.mpr ⟨lw_p54, List.forall_mem_cons.mpr ⟨lw_p55, List.forall_mem_cons.mpr ⟨lw_p56, List.forall_mem_cons.mpr ⟨lw_p57, List.forall_mem_cons.mpr ⟨lw_p58, List.forall_mem_cons.mpr ⟨lw_p59, List.forall_mem_cons.mpr ⟨lw_p60, List.forall_mem_cons.mpr ⟨lw_p61, List.forall_mem_cons.mpr ⟨lw_p62, List.forall_mem_cons.mpr ⟨lw_p63, fun _ h => absurd h List.not_mem_nil⟩⟩⟩⟩⟩⟩⟩⟩⟩⟩⟩⟩⟩⟩⟩⟩
theorem lw_p64 : lw_okq (⟨"ReadAloud$Levels", "sumOfEnds", "()J"⟩, 10) := ⟨⟨by decide +kernel, by decide +kernel⟩, List.mem_of_getElem? (i := 836) (by decide +kernel), List.mem_of_getElem? (i := 936) (by decide +kernel), List.mem_of_getElem? (i := 937) (by decide +kernel)⟩
theorem lw_p65 : lw_okq (⟨"ReadAloud$Levels", "rows", "()I"⟩, 10) := ⟨⟨by decide +kernel, by decide +kernel⟩, List.mem_of_getElem? (i := 836) (by decide +kernel), List.mem_of_getElem? (i := 940) (by decide +kernel), List.mem_of_getElem? (i := 941) (by decide +kernel)⟩
theorem lw_p66 : lw_okq (⟨"ReadAloud$Readings", "goBack", "(II)V"⟩, 4) := ⟨⟨by decide +kernel, by decide +kernel⟩, List.mem_of_getElem? (i := 622) (by decide +kernel), List.mem_of_getElem? (i := 951) (by decide +kernel), List.mem_of_getElem? (i := 952) (by decide +kernel)⟩
theorem lw_p67 : lw_okq (⟨"ReadAloud$Readings", "comesToMarked", "(I)Z"⟩, 4) := ⟨⟨by decide +kernel, by decide +kernel⟩, List.mem_of_getElem? (i := 622) (by decide +kernel), List.mem_of_getElem? (i := 958) (by decide +kernel), List.mem_of_getElem? (i := 959) (by decide +kernel)⟩
theorem lw_p68 : lw_okq (⟨"ReadAloud$Readings", "leastMarked", "()I"⟩, 4) := ⟨⟨by decide +kernel, by decide +kernel⟩, List.mem_of_getElem? (i := 622) (by decide +kernel), List.mem_of_getElem? (i := 962) (by decide +kernel), List.mem_of_getElem? (i := 963) (by decide +kernel)⟩
theorem lw_p69 : lw_okq (⟨"ReadAloud$Readings", "marked", "()I"⟩, 4) := ⟨⟨by decide +kernel, by decide +kernel⟩, List.mem_of_getElem? (i := 622) (by decide +kernel), List.mem_of_getElem? (i := 966) (by decide +kernel), List.mem_of_getElem? (i := 967) (by decide +kernel)⟩
theorem lw_p70 : lw_okq (⟨"ReadAloud$Levels", "endByWord", "(I)V"⟩, 10) := ⟨⟨by decide +kernel, by decide +kernel⟩, List.mem_of_getElem? (i := 836) (by decide +kernel), List.mem_of_getElem? (i := 975) (by decide +kernel), List.mem_of_getElem? (i := 976) (by decide +kernel)⟩
theorem lw_p71 : lw_okq (⟨"ReadAloud$Levels", "bestStart", "()I"⟩, 10) := ⟨⟨by decide +kernel, by decide +kernel⟩, List.mem_of_getElem? (i := 836) (by decide +kernel), List.mem_of_getElem? (i := 982) (by decide +kernel), List.mem_of_getElem? (i := 983) (by decide +kernel)⟩
theorem lw_p72 : lw_okq (⟨"ReadAloud", "sightAt", "(I)LReadAloud$Sight;"⟩, 8) := ⟨⟨by decide +kernel, by decide +kernel⟩, List.mem_of_getElem? (i := 23) (by decide +kernel), List.mem_of_getElem? (i := 990) (by decide +kernel), List.mem_of_getElem? (i := 991) (by decide +kernel)⟩
theorem lw_p73 : lw_okq (⟨"ReadAloud$Sight", "tells", "(II)I"⟩, 3) := ⟨⟨by decide +kernel, by decide +kernel⟩, List.mem_of_getElem? (i := 438) (by decide +kernel), List.mem_of_getElem? (i := 994) (by decide +kernel), List.mem_of_getElem? (i := 995) (by decide +kernel)⟩
theorem lw_p74 : lw_okq (⟨"ReadAloud$Levels", "want", "(LReadAloud$Sight;)V"⟩, 10) := ⟨⟨by decide +kernel, by decide +kernel⟩, List.mem_of_getElem? (i := 836) (by decide +kernel), List.mem_of_getElem? (i := 1002) (by decide +kernel), List.mem_of_getElem? (i := 1003) (by decide +kernel)⟩
theorem lw_p75 : lw_okq (⟨"ReadAloud$Levels", "rowsTo", "(I)I"⟩, 10) := ⟨⟨by decide +kernel, by decide +kernel⟩, List.mem_of_getElem? (i := 836) (by decide +kernel), List.mem_of_getElem? (i := 1007) (by decide +kernel), List.mem_of_getElem? (i := 1008) (by decide +kernel)⟩
theorem lw_p76 : lw_okq (⟨"ReadAloud$Levels", "endByOne", "()V"⟩, 10) := ⟨⟨by decide +kernel, by decide +kernel⟩, List.mem_of_getElem? (i := 836) (by decide +kernel), List.mem_of_getElem? (i := 1015) (by decide +kernel), List.mem_of_getElem? (i := 1016) (by decide +kernel)⟩
theorem lw_p77 : lw_okq (⟨"ReadAloud$Levels", "look", "()I"⟩, 10) := ⟨⟨by decide +kernel, by decide +kernel⟩, List.mem_of_getElem? (i := 836) (by decide +kernel), List.mem_of_getElem? (i := 1019) (by decide +kernel), List.mem_of_getElem? (i := 1020) (by decide +kernel)⟩
theorem lw_p78 : lw_okq (⟨"ReadAloud$Levels", "onlyReaderAt", "(I)I"⟩, 10) := ⟨⟨by decide +kernel, by decide +kernel⟩, List.mem_of_getElem? (i := 836) (by decide +kernel), List.mem_of_getElem? (i := 1023) (by decide +kernel), List.mem_of_getElem? (i := 1024) (by decide +kernel)⟩
theorem lw_p79 : lw_okq (⟨"ReadAloud$Levels", "isReaderAt", "(II)Z"⟩, 10) := ⟨⟨by decide +kernel, by decide +kernel⟩, List.mem_of_getElem? (i := 836) (by decide +kernel), List.mem_of_getElem? (i := 1027) (by decide +kernel), List.mem_of_getElem? (i := 1028) (by decide +kernel)⟩
noncomputable def lw_privs_5 : List (MethodName × Nat) := [(⟨"ReadAloud$Levels", "sumOfEnds", "()J"⟩, 10), (⟨"ReadAloud$Levels", "rows", "()I"⟩, 10), (⟨"ReadAloud$Readings", "goBack", "(II)V"⟩, 4), (⟨"ReadAloud$Readings", "comesToMarked", "(I)Z"⟩, 4), (⟨"ReadAloud$Readings", "leastMarked", "()I"⟩, 4), (⟨"ReadAloud$Readings", "marked", "()I"⟩, 4), (⟨"ReadAloud$Levels", "endByWord", "(I)V"⟩, 10), (⟨"ReadAloud$Levels", "bestStart", "()I"⟩, 10), (⟨"ReadAloud", "sightAt", "(I)LReadAloud$Sight;"⟩, 8), (⟨"ReadAloud$Sight", "tells", "(II)I"⟩, 3), (⟨"ReadAloud$Levels", "want", "(LReadAloud$Sight;)V"⟩, 10), (⟨"ReadAloud$Levels", "rowsTo", "(I)I"⟩, 10), (⟨"ReadAloud$Levels", "endByOne", "()V"⟩, 10), (⟨"ReadAloud$Levels", "look", "()I"⟩, 10), (⟨"ReadAloud$Levels", "onlyReaderAt", "(I)I"⟩, 10), (⟨"ReadAloud$Levels", "isReaderAt", "(II)Z"⟩, 10)]
theorem lw_r5 : ∀ q ∈ lw_privs_5, lw_okq q := List.forall_mem_cons.mpr ⟨lw_p64, List.forall_mem_cons.mpr ⟨lw_p65, List.forall_mem_cons.mpr ⟨lw_p66, List.forall_mem_cons.mpr ⟨lw_p67, List.forall_mem_cons.mpr ⟨lw_p68, List.forall_mem_cons.mpr ⟨lw_p69, List.forall_mem_cons.mpr ⟨lw_p70, List.forall_mem_cons.mpr ⟨lw_p71, List.forall_mem_cons.mpr ⟨lw_p72, List.forall_mem_cons.mpr ⟨lw_p73, List.forall_mem_cons.mpr ⟨lw_p74, List.forall_mem_cons.mpr ⟨lw_p75, List.forall_mem_cons.mpr ⟨lw_p76, List.forall_mem_cons.mpr ⟨lw_p77, List.forall_mem_cons.mpr ⟨lw_p78, List.forall_mem_cons.mpr ⟨lw_p79, fun _ h => absurd h List.not_mem_nil⟩⟩⟩⟩⟩⟩⟩⟩⟩⟩⟩⟩⟩⟩⟩⟩
theorem lw_p80 : lw_okq (⟨"ReadAloud$Course", "draw", "(II)V"⟩, 7) := ⟨⟨by decide +kernel, by decide +kernel⟩, List.mem_of_getElem? (i := 115) (by decide +kernel), List.mem_of_getElem? (i := 1035) (by decide +kernel), List.mem_of_getElem? (i := 1036) (by decide +kernel)⟩
theorem lw_p81 : lw_okq (⟨"ReadAloud$Course", "drawBelow", "(I)I"⟩, 7) := ⟨⟨by decide +kernel, by decide +kernel⟩, List.mem_of_getElem? (i := 115) (by decide +kernel), List.mem_of_getElem? (i := 1039) (by decide +kernel), List.mem_of_getElem? (i := 1040) (by decide +kernel)⟩
theorem lw_p82 : lw_okq (⟨"ReadAloud$Book", "kinRing", "(I)I"⟩, 7) := ⟨⟨by decide +kernel, by decide +kernel⟩, List.mem_of_getElem? (i := 192) (by decide +kernel), List.mem_of_getElem? (i := 1048) (by decide +kernel), List.mem_of_getElem? (i := 1049) (by decide +kernel)⟩
theorem lw_p83 : lw_okq (⟨"ReadAloud$Book", "kinUntilRing", "(I)I"⟩, 7) := ⟨⟨by decide +kernel, by decide +kernel⟩, List.mem_of_getElem? (i := 192) (by decide +kernel), List.mem_of_getElem? (i := 1052) (by decide +kernel), List.mem_of_getElem? (i := 1053) (by decide +kernel)⟩
theorem lw_p84 : lw_okq (⟨"ReadAloud$Book", "isInKinRing", "(I)Z"⟩, 7) := ⟨⟨by decide +kernel, by decide +kernel⟩, List.mem_of_getElem? (i := 192) (by decide +kernel), List.mem_of_getElem? (i := 1056) (by decide +kernel), List.mem_of_getElem? (i := 1057) (by decide +kernel)⟩
theorem lw_p85 : lw_okq (⟨"ReadAloud$Walk", "meeting", "(LReadAloud$Walk;)I"⟩, 5) := ⟨⟨by decide +kernel, by decide +kernel⟩, List.mem_of_getElem? (i := 653) (by decide +kernel), List.mem_of_getElem? (i := 1076) (by decide +kernel), List.mem_of_getElem? (i := 1077) (by decide +kernel)⟩
theorem lw_p86 : lw_okq (⟨"ReadAloud$Walk", "nearestTo", "(I)I"⟩, 5) := ⟨⟨by decide +kernel, by decide +kernel⟩, List.mem_of_getElem? (i := 653) (by decide +kernel), List.mem_of_getElem? (i := 1084) (by decide +kernel), List.mem_of_getElem? (i := 1085) (by decide +kernel)⟩
theorem lw_p87 : lw_okq (⟨"ReadAloud$Walk", "firstSettled", "(LReadAloud$Readings;)I"⟩, 5) := ⟨⟨by decide +kernel, by decide +kernel⟩, List.mem_of_getElem? (i := 653) (by decide +kernel), List.mem_of_getElem? (i := 1093) (by decide +kernel), List.mem_of_getElem? (i := 1094) (by decide +kernel)⟩
theorem lw_p88 : lw_okq (⟨"ReadAloud$Readings", "markUnmade", "()V"⟩, 4) := ⟨⟨by decide +kernel, by decide +kernel⟩, List.mem_of_getElem? (i := 622) (by decide +kernel), List.mem_of_getElem? (i := 1103) (by decide +kernel), List.mem_of_getElem? (i := 1104) (by decide +kernel)⟩
theorem lw_p89 : lw_okq (⟨"ReadAloud$Rings", "findCircles", "(LReadAloud$Readings;)V"⟩, 15) := ⟨⟨by decide +kernel, by decide +kernel⟩, List.mem_of_getElem? (i := 750) (by decide +kernel), List.mem_of_getElem? (i := 1121) (by decide +kernel), List.mem_of_getElem? (i := 1122) (by decide +kernel)⟩
theorem lw_p90 : lw_okq (⟨"ReadAloud$Rings", "findFrom", "(LReadAloud$Readings;I)V"⟩, 15) := ⟨⟨by decide +kernel, by decide +kernel⟩, List.mem_of_getElem? (i := 750) (by decide +kernel), List.mem_of_getElem? (i := 1125) (by decide +kernel), List.mem_of_getElem? (i := 1126) (by decide +kernel)⟩
theorem lw_p91 : lw_okq (⟨"ReadAloud$Rings", "enter", "(I)V"⟩, 15) := ⟨⟨by decide +kernel, by decide +kernel⟩, List.mem_of_getElem? (i := 750) (by decide +kernel), List.mem_of_getElem? (i := 1129) (by decide +kernel), List.mem_of_getElem? (i := 1130) (by decide +kernel)⟩
theorem lw_p92 : lw_okq (⟨"ReadAloud$Rings", "tryNext", "(LReadAloud$Readings;I)V"⟩, 15) := ⟨⟨by decide +kernel, by decide +kernel⟩, List.mem_of_getElem? (i := 750) (by decide +kernel), List.mem_of_getElem? (i := 1134) (by decide +kernel), List.mem_of_getElem? (i := 1135) (by decide +kernel)⟩
theorem lw_p93 : lw_okq (⟨"ReadAloud$Rings", "leave", "(I)V"⟩, 15) := ⟨⟨by decide +kernel, by decide +kernel⟩, List.mem_of_getElem? (i := 750) (by decide +kernel), List.mem_of_getElem? (i := 1139) (by decide +kernel), List.mem_of_getElem? (i := 1140) (by decide +kernel)⟩
theorem lw_p94 : lw_okq (⟨"ReadAloud$Rings", "closeCircle", "(I)V"⟩, 15) := ⟨⟨by decide +kernel, by decide +kernel⟩, List.mem_of_getElem? (i := 750) (by decide +kernel), List.mem_of_getElem? (i := 1143) (by decide +kernel), List.mem_of_getElem? (i := 1144) (by decide +kernel)⟩
theorem lw_p95 : lw_okq (⟨"ReadAloud$Told", "becomes", "(LReadAloud$Told;)V"⟩, 8) := ⟨⟨by decide +kernel, by decide +kernel⟩, List.mem_of_getElem? (i := 31) (by decide +kernel), List.mem_of_getElem? (i := 1155) (by decide +kernel), List.mem_of_getElem? (i := 1156) (by decide +kernel)⟩
noncomputable def lw_privs_6 : List (MethodName × Nat) := [(⟨"ReadAloud$Course", "draw", "(II)V"⟩, 7), (⟨"ReadAloud$Course", "drawBelow", "(I)I"⟩, 7), (⟨"ReadAloud$Book", "kinRing", "(I)I"⟩, 7), (⟨"ReadAloud$Book", "kinUntilRing", "(I)I"⟩, 7), (⟨"ReadAloud$Book", "isInKinRing", "(I)Z"⟩, 7), (⟨"ReadAloud$Walk", "meeting", "(LReadAloud$Walk;)I"⟩, 5), (⟨"ReadAloud$Walk", "nearestTo", "(I)I"⟩, 5), (⟨"ReadAloud$Walk", "firstSettled", "(LReadAloud$Readings;)I"⟩, 5), (⟨"ReadAloud$Readings", "markUnmade", "()V"⟩, 4), (⟨"ReadAloud$Rings", "findCircles", "(LReadAloud$Readings;)V"⟩, 15), (⟨"ReadAloud$Rings", "findFrom", "(LReadAloud$Readings;I)V"⟩, 15), (⟨"ReadAloud$Rings", "enter", "(I)V"⟩, 15), (⟨"ReadAloud$Rings", "tryNext", "(LReadAloud$Readings;I)V"⟩, 15), (⟨"ReadAloud$Rings", "leave", "(I)V"⟩, 15), (⟨"ReadAloud$Rings", "closeCircle", "(I)V"⟩, 15), (⟨"ReadAloud$Told", "becomes", "(LReadAloud$Told;)V"⟩, 8)]
theorem lw_r6 : ∀ q ∈ lw_privs_6, lw_okq q := List.forall_mem_cons.mpr ⟨lw_p80, List.forall_mem_cons.mpr ⟨lw_p81, List.forall_mem_cons.mpr ⟨lw_p82, List.forall_mem_cons.mpr ⟨lw_p83, List.forall_mem_cons.mpr ⟨lw_p84, List.forall_mem_cons.mpr ⟨lw_p85, List.forall_mem_cons.mpr ⟨lw_p86, List.forall_mem_cons.mpr ⟨lw_p87, List.forall_mem_cons.mpr ⟨lw_p88, List.forall_mem_cons.mpr ⟨lw_p89, List.forall_mem_cons.mpr ⟨lw_p90, List.forall_mem_cons.mpr ⟨lw_p91, List.forall_mem_cons.mpr ⟨lw_p92, List.forall_mem_cons.mpr ⟨lw_p93, List.forall_mem_cons.mpr ⟨lw_p94, List.forall_mem_cons.mpr ⟨lw_p95, fun _ h => absurd h List.not_mem_nil⟩⟩⟩⟩⟩⟩⟩⟩⟩⟩⟩⟩⟩⟩⟩⟩
theorem lw_p96 : lw_okq (⟨"ReadAloudModel", "four", "(I)V"⟩, 52) := ⟨⟨by decide +kernel, by decide +kernel⟩, List.mem_of_getElem? (i := 1166) (by decide +kernel), List.mem_of_getElem? (i := 1335) (by decide +kernel), List.mem_of_getElem? (i := 1336) (by decide +kernel)⟩
theorem lw_p97 : lw_okq (⟨"ReadAloudModel", "is", "(II)Z"⟩, 52) := ⟨⟨by decide +kernel, by decide +kernel⟩, List.mem_of_getElem? (i := 1166) (by decide +kernel), List.mem_of_getElem? (i := 1350) (by decide +kernel), List.mem_of_getElem? (i := 1351) (by decide +kernel)⟩
theorem lw_p98 : lw_okq (⟨"ReadAloudModel", "readText", "(I)Z"⟩, 52) := ⟨⟨by decide +kernel, by decide +kernel⟩, List.mem_of_getElem? (i := 1166) (by decide +kernel), List.mem_of_getElem? (i := 1354) (by decide +kernel), List.mem_of_getElem? (i := 1355) (by decide +kernel)⟩
theorem lw_p99 : lw_okq (⟨"ReadAloudModel", "token", "()V"⟩, 52) := ⟨⟨by decide +kernel, by decide +kernel⟩, List.mem_of_getElem? (i := 1166) (by decide +kernel), List.mem_of_getElem? (i := 1358) (by decide +kernel), List.mem_of_getElem? (i := 1359) (by decide +kernel)⟩
theorem lw_p100 : lw_okq (⟨"ReadAloudModel", "see", "()I"⟩, 52) := ⟨⟨by decide +kernel, by decide +kernel⟩, List.mem_of_getElem? (i := 1166) (by decide +kernel), List.mem_of_getElem? (i := 1362) (by decide +kernel), List.mem_of_getElem? (i := 1363) (by decide +kernel)⟩
theorem lw_p101 : lw_okq (⟨"ReadAloudModel", "lines", "(I)Z"⟩, 52) := ⟨⟨by decide +kernel, by decide +kernel⟩, List.mem_of_getElem? (i := 1166) (by decide +kernel), List.mem_of_getElem? (i := 1366) (by decide +kernel), List.mem_of_getElem? (i := 1367) (by decide +kernel)⟩
theorem lw_p102 : lw_okq (⟨"ReadAloudModel", "lineOf", "(IJI)Z"⟩, 52) := ⟨⟨by decide +kernel, by decide +kernel⟩, List.mem_of_getElem? (i := 1166) (by decide +kernel), List.mem_of_getElem? (i := 1370) (by decide +kernel), List.mem_of_getElem? (i := 1371) (by decide +kernel)⟩
theorem lw_p103 : lw_okq (⟨"ReadAloudModel", "bookLine", "(JI)Z"⟩, 52) := ⟨⟨by decide +kernel, by decide +kernel⟩, List.mem_of_getElem? (i := 1166) (by decide +kernel), List.mem_of_getElem? (i := 1374) (by decide +kernel), List.mem_of_getElem? (i := 1375) (by decide +kernel)⟩
theorem lw_p104 : lw_okq (⟨"ReadAloudModel", "stepLine", "(II)Z"⟩, 52) := ⟨⟨by decide +kernel, by decide +kernel⟩, List.mem_of_getElem? (i := 1166) (by decide +kernel), List.mem_of_getElem? (i := 1386) (by decide +kernel), List.mem_of_getElem? (i := 1387) (by decide +kernel)⟩
theorem lw_p105 : lw_okq (⟨"ReadAloudModel", "later", "(II)V"⟩, 52) := ⟨⟨by decide +kernel, by decide +kernel⟩, List.mem_of_getElem? (i := 1166) (by decide +kernel), List.mem_of_getElem? (i := 1390) (by decide +kernel), List.mem_of_getElem? (i := 1391) (by decide +kernel)⟩
theorem lw_p106 : lw_okq (⟨"ReadAloudModel", "take", "(III)Z"⟩, 52) := ⟨⟨by decide +kernel, by decide +kernel⟩, List.mem_of_getElem? (i := 1166) (by decide +kernel), List.mem_of_getElem? (i := 1394) (by decide +kernel), List.mem_of_getElem? (i := 1395) (by decide +kernel)⟩
theorem lw_p107 : lw_okq (⟨"ReadAloudModel", "takeBut", "(IIII)Z"⟩, 52) := ⟨⟨by decide +kernel, by decide +kernel⟩, List.mem_of_getElem? (i := 1166) (by decide +kernel), List.mem_of_getElem? (i := 1398) (by decide +kernel), List.mem_of_getElem? (i := 1399) (by decide +kernel)⟩
theorem lw_p108 : lw_okq (⟨"ReadAloudModel", "fails", "()Z"⟩, 52) := ⟨⟨by decide +kernel, by decide +kernel⟩, List.mem_of_getElem? (i := 1166) (by decide +kernel), List.mem_of_getElem? (i := 1402) (by decide +kernel), List.mem_of_getElem? (i := 1403) (by decide +kernel)⟩
theorem lw_p109 : lw_okq (⟨"ReadAloudModel", "full", "(III)V"⟩, 52) := ⟨⟨by decide +kernel, by decide +kernel⟩, List.mem_of_getElem? (i := 1166) (by decide +kernel), List.mem_of_getElem? (i := 1409) (by decide +kernel), List.mem_of_getElem? (i := 1410) (by decide +kernel)⟩
theorem lw_p110 : lw_okq (⟨"ReadAloudModel", "takeText", "(I)V"⟩, 52) := ⟨⟨by decide +kernel, by decide +kernel⟩, List.mem_of_getElem? (i := 1166) (by decide +kernel), List.mem_of_getElem? (i := 1416) (by decide +kernel), List.mem_of_getElem? (i := 1417) (by decide +kernel)⟩
theorem lw_p111 : lw_okq (⟨"ReadAloudModel", "yearLine", "(JI)Z"⟩, 52) := ⟨⟨by decide +kernel, by decide +kernel⟩, List.mem_of_getElem? (i := 1166) (by decide +kernel), List.mem_of_getElem? (i := 1423) (by decide +kernel), List.mem_of_getElem? (i := 1424) (by decide +kernel)⟩
noncomputable def lw_privs_7 : List (MethodName × Nat) := [(⟨"ReadAloudModel", "four", "(I)V"⟩, 52), (⟨"ReadAloudModel", "is", "(II)Z"⟩, 52), (⟨"ReadAloudModel", "readText", "(I)Z"⟩, 52), (⟨"ReadAloudModel", "token", "()V"⟩, 52), (⟨"ReadAloudModel", "see", "()I"⟩, 52), (⟨"ReadAloudModel", "lines", "(I)Z"⟩, 52), (⟨"ReadAloudModel", "lineOf", "(IJI)Z"⟩, 52), (⟨"ReadAloudModel", "bookLine", "(JI)Z"⟩, 52), (⟨"ReadAloudModel", "stepLine", "(II)Z"⟩, 52), (⟨"ReadAloudModel", "later", "(II)V"⟩, 52), (⟨"ReadAloudModel", "take", "(III)Z"⟩, 52), (⟨"ReadAloudModel", "takeBut", "(IIII)Z"⟩, 52), (⟨"ReadAloudModel", "fails", "()Z"⟩, 52), (⟨"ReadAloudModel", "full", "(III)V"⟩, 52), (⟨"ReadAloudModel", "takeText", "(I)V"⟩, 52), (⟨"ReadAloudModel", "yearLine", "(JI)Z"⟩, 52)]
theorem lw_r7 : ∀ q ∈ lw_privs_7, lw_okq q := List.forall_mem_cons.mpr ⟨lw_p96, List.forall_mem_cons.mpr ⟨lw_p97, List.forall_mem_cons.mpr ⟨lw_p98, List.forall_mem_cons.mpr ⟨lw_p99, List.forall_mem_cons.mpr ⟨lw_p100, List.forall_mem_cons.mpr ⟨lw_p101, List.forall_mem_cons.mpr ⟨lw_p102, List.forall_mem_cons.mpr ⟨lw_p103, List.forall_mem_cons.mpr ⟨lw_p104, List.forall_mem_cons.mpr ⟨lw_p105, List.forall_mem_cons.mpr ⟨lw_p106, List.forall_mem_cons.mpr ⟨lw_p107, List.forall_mem_cons.mpr ⟨lw_p108, List.forall_mem_cons.mpr ⟨lw_p109, List.forall_mem_cons.mpr ⟨lw_p110, List.forall_mem_cons.mpr ⟨lw_p111, fun _ h => absurd h List.not_mem_nil⟩⟩⟩⟩⟩⟩⟩⟩⟩⟩⟩⟩⟩⟩⟩⟩
theorem lw_p112 : lw_okq (⟨"ReadAloudModel", "keep", "(II)V"⟩, 52) := ⟨⟨by decide +kernel, by decide +kernel⟩, List.mem_of_getElem? (i := 1166) (by decide +kernel), List.mem_of_getElem? (i := 1436) (by decide +kernel), List.mem_of_getElem? (i := 1437) (by decide +kernel)⟩
theorem lw_p113 : lw_okq (⟨"ReadAloudModel", "sightLine", "(JI)Z"⟩, 52) := ⟨⟨by decide +kernel, by decide +kernel⟩, List.mem_of_getElem? (i := 1166) (by decide +kernel), List.mem_of_getElem? (i := 1440) (by decide +kernel), List.mem_of_getElem? (i := 1441) (by decide +kernel)⟩
theorem lw_p114 : lw_okq (⟨"ReadAloudModel", "store", "([III)V"⟩, 52) := ⟨⟨by decide +kernel, by decide +kernel⟩, List.mem_of_getElem? (i := 1166) (by decide +kernel), List.mem_of_getElem? (i := 1445) (by decide +kernel), List.mem_of_getElem? (i := 1446) (by decide +kernel)⟩
theorem lw_p115 : lw_okq (⟨"ReadAloudModel", "hand", "(I)Z"⟩, 52) := ⟨⟨by decide +kernel, by decide +kernel⟩, List.mem_of_getElem? (i := 1166) (by decide +kernel), List.mem_of_getElem? (i := 1457) (by decide +kernel), List.mem_of_getElem? (i := 1458) (by decide +kernel)⟩
theorem lw_p116 : lw_okq (⟨"ReadAloudModel", "of", "(I)I"⟩, 52) := ⟨⟨by decide +kernel, by decide +kernel⟩, List.mem_of_getElem? (i := 1166) (by decide +kernel), List.mem_of_getElem? (i := 1461) (by decide +kernel), List.mem_of_getElem? (i := 1462) (by decide +kernel)⟩
theorem lw_p117 : lw_okq (⟨"ReadAloudModel", "apart", "(II)I"⟩, 52) := ⟨⟨by decide +kernel, by decide +kernel⟩, List.mem_of_getElem? (i := 1166) (by decide +kernel), List.mem_of_getElem? (i := 1482) (by decide +kernel), List.mem_of_getElem? (i := 1483) (by decide +kernel)⟩
theorem lw_p118 : lw_okq (⟨"ReadAloudModel", "isReader", "(I)Z"⟩, 52) := ⟨⟨by decide +kernel, by decide +kernel⟩, List.mem_of_getElem? (i := 1166) (by decide +kernel), List.mem_of_getElem? (i := 1490) (by decide +kernel), List.mem_of_getElem? (i := 1491) (by decide +kernel)⟩
theorem lw_p119 : lw_okq (⟨"ReadAloudModel", "readBy", "(II)I"⟩, 52) := ⟨⟨by decide +kernel, by decide +kernel⟩, List.mem_of_getElem? (i := 1166) (by decide +kernel), List.mem_of_getElem? (i := 1494) (by decide +kernel), List.mem_of_getElem? (i := 1495) (by decide +kernel)⟩
theorem lw_p120 : lw_okq (⟨"ReadAloudModel", "step", "(II)V"⟩, 52) := ⟨⟨by decide +kernel, by decide +kernel⟩, List.mem_of_getElem? (i := 1166) (by decide +kernel), List.mem_of_getElem? (i := 1498) (by decide +kernel), List.mem_of_getElem? (i := 1499) (by decide +kernel)⟩
theorem lw_p121 : lw_okq (⟨"ReadAloudModel", "shift", "(I)V"⟩, 52) := ⟨⟨by decide +kernel, by decide +kernel⟩, List.mem_of_getElem? (i := 1166) (by decide +kernel), List.mem_of_getElem? (i := 1502) (by decide +kernel), List.mem_of_getElem? (i := 1503) (by decide +kernel)⟩
theorem lw_p122 : lw_okq (⟨"ReadAloudModel", "drop", "(I)V"⟩, 52) := ⟨⟨by decide +kernel, by decide +kernel⟩, List.mem_of_getElem? (i := 1166) (by decide +kernel), List.mem_of_getElem? (i := 1506) (by decide +kernel), List.mem_of_getElem? (i := 1507) (by decide +kernel)⟩
theorem lw_p123 : lw_okq (⟨"ReadAloudModel", "twice", "(I)V"⟩, 52) := ⟨⟨by decide +kernel, by decide +kernel⟩, List.mem_of_getElem? (i := 1166) (by decide +kernel), List.mem_of_getElem? (i := 1510) (by decide +kernel), List.mem_of_getElem? (i := 1511) (by decide +kernel)⟩
theorem lw_p124 : lw_okq (⟨"ReadAloudModel", "swap", "(II)V"⟩, 52) := ⟨⟨by decide +kernel, by decide +kernel⟩, List.mem_of_getElem? (i := 1166) (by decide +kernel), List.mem_of_getElem? (i := 1514) (by decide +kernel), List.mem_of_getElem? (i := 1515) (by decide +kernel)⟩
theorem lw_p125 : lw_okq (⟨"ReadAloudModel", "numberOf", "(I)I"⟩, 52) := ⟨⟨by decide +kernel, by decide +kernel⟩, List.mem_of_getElem? (i := 1166) (by decide +kernel), List.mem_of_getElem? (i := 1518) (by decide +kernel), List.mem_of_getElem? (i := 1519) (by decide +kernel)⟩
theorem lw_p126 : lw_okq (⟨"ReadAloudModel", "hasYear", "(I)Z"⟩, 52) := ⟨⟨by decide +kernel, by decide +kernel⟩, List.mem_of_getElem? (i := 1166) (by decide +kernel), List.mem_of_getElem? (i := 1526) (by decide +kernel), List.mem_of_getElem? (i := 1527) (by decide +kernel)⟩
theorem lw_p127 : lw_okq (⟨"ReadAloudModel", "deeds", "()I"⟩, 52) := ⟨⟨by decide +kernel, by decide +kernel⟩, List.mem_of_getElem? (i := 1166) (by decide +kernel), List.mem_of_getElem? (i := 1530) (by decide +kernel), List.mem_of_getElem? (i := 1531) (by decide +kernel)⟩
noncomputable def lw_privs_8 : List (MethodName × Nat) := [(⟨"ReadAloudModel", "keep", "(II)V"⟩, 52), (⟨"ReadAloudModel", "sightLine", "(JI)Z"⟩, 52), (⟨"ReadAloudModel", "store", "([III)V"⟩, 52), (⟨"ReadAloudModel", "hand", "(I)Z"⟩, 52), (⟨"ReadAloudModel", "of", "(I)I"⟩, 52), (⟨"ReadAloudModel", "apart", "(II)I"⟩, 52), (⟨"ReadAloudModel", "isReader", "(I)Z"⟩, 52), (⟨"ReadAloudModel", "readBy", "(II)I"⟩, 52), (⟨"ReadAloudModel", "step", "(II)V"⟩, 52), (⟨"ReadAloudModel", "shift", "(I)V"⟩, 52), (⟨"ReadAloudModel", "drop", "(I)V"⟩, 52), (⟨"ReadAloudModel", "twice", "(I)V"⟩, 52), (⟨"ReadAloudModel", "swap", "(II)V"⟩, 52), (⟨"ReadAloudModel", "numberOf", "(I)I"⟩, 52), (⟨"ReadAloudModel", "hasYear", "(I)Z"⟩, 52), (⟨"ReadAloudModel", "deeds", "()I"⟩, 52)]
theorem lw_r8 : ∀ q ∈ lw_privs_8, lw_okq q := List.forall_mem_cons.mpr ⟨lw_p112, List.forall_mem_cons.mpr ⟨lw_p113, List.forall_mem_cons.mpr ⟨lw_p114, List.forall_mem_cons.mpr ⟨lw_p115, List.forall_mem_cons.mpr ⟨lw_p116, List.forall_mem_cons.mpr ⟨lw_p117, List.forall_mem_cons.mpr ⟨lw_p118, List.forall_mem_cons.mpr ⟨lw_p119, List.forall_mem_cons.mpr ⟨lw_p120, List.forall_mem_cons.mpr ⟨lw_p121, List.forall_mem_cons.mpr ⟨lw_p122, List.forall_mem_cons.mpr ⟨lw_p123, List.forall_mem_cons.mpr ⟨lw_p124, List.forall_mem_cons.mpr ⟨lw_p125, List.forall_mem_cons.mpr ⟨lw_p126, List.forall_mem_cons.mpr ⟨lw_p127, fun _ h => absurd h List.not_mem_nil⟩⟩⟩⟩⟩⟩⟩⟩⟩⟩⟩⟩⟩⟩⟩⟩
theorem lw_p128 : lw_okq (⟨"ReadAloudModel", "deedOf", "(II)I"⟩, 52) := ⟨⟨by decide +kernel, by decide +kernel⟩, List.mem_of_getElem? (i := 1166) (by decide +kernel), List.mem_of_getElem? (i := 1534) (by decide +kernel), List.mem_of_getElem? (i := 1535) (by decide +kernel)⟩
theorem lw_p129 : lw_okq (⟨"ReadAloudModel", "layAll", "(II)Z"⟩, 52) := ⟨⟨by decide +kernel, by decide +kernel⟩, List.mem_of_getElem? (i := 1166) (by decide +kernel), List.mem_of_getElem? (i := 1542) (by decide +kernel), List.mem_of_getElem? (i := 1543) (by decide +kernel)⟩
theorem lw_p130 : lw_okq (⟨"ReadAloudModel", "play", "(I)I"⟩, 52) := ⟨⟨by decide +kernel, by decide +kernel⟩, List.mem_of_getElem? (i := 1166) (by decide +kernel), List.mem_of_getElem? (i := 1546) (by decide +kernel), List.mem_of_getElem? (i := 1547) (by decide +kernel)⟩
theorem lw_p131 : lw_okq (⟨"ReadAloudModel", "begin", "()V"⟩, 52) := ⟨⟨by decide +kernel, by decide +kernel⟩, List.mem_of_getElem? (i := 1166) (by decide +kernel), List.mem_of_getElem? (i := 1550) (by decide +kernel), List.mem_of_getElem? (i := 1551) (by decide +kernel)⟩
theorem lw_p132 : lw_okq (⟨"ReadAloudModel", "does", "(I)Z"⟩, 52) := ⟨⟨by decide +kernel, by decide +kernel⟩, List.mem_of_getElem? (i := 1166) (by decide +kernel), List.mem_of_getElem? (i := 1554) (by decide +kernel), List.mem_of_getElem? (i := 1555) (by decide +kernel)⟩
theorem lw_p133 : lw_okq (⟨"ReadAloudModel", "reads", "(II)Z"⟩, 52) := ⟨⟨by decide +kernel, by decide +kernel⟩, List.mem_of_getElem? (i := 1166) (by decide +kernel), List.mem_of_getElem? (i := 1558) (by decide +kernel), List.mem_of_getElem? (i := 1559) (by decide +kernel)⟩
theorem lw_p134 : lw_okq (⟨"ReadAloudModel", "hushes", "(I)Z"⟩, 52) := ⟨⟨by decide +kernel, by decide +kernel⟩, List.mem_of_getElem? (i := 1166) (by decide +kernel), List.mem_of_getElem? (i := 1565) (by decide +kernel), List.mem_of_getElem? (i := 1566) (by decide +kernel)⟩
theorem lw_p135 : lw_okq (⟨"ReadAloudModel", "goesOn", "()Z"⟩, 52) := ⟨⟨by decide +kernel, by decide +kernel⟩, List.mem_of_getElem? (i := 1166) (by decide +kernel), List.mem_of_getElem? (i := 1569) (by decide +kernel), List.mem_of_getElem? (i := 1570) (by decide +kernel)⟩
theorem lw_p136 : lw_okq (⟨"ReadAloudModel", "ofState", "(I)I"⟩, 52) := ⟨⟨by decide +kernel, by decide +kernel⟩, List.mem_of_getElem? (i := 1166) (by decide +kernel), List.mem_of_getElem? (i := 1577) (by decide +kernel), List.mem_of_getElem? (i := 1578) (by decide +kernel)⟩
theorem lw_p137 : lw_okq (⟨"ReadAloudModel", "handAll", "(I)Z"⟩, 52) := ⟨⟨by decide +kernel, by decide +kernel⟩, List.mem_of_getElem? (i := 1166) (by decide +kernel), List.mem_of_getElem? (i := 1585) (by decide +kernel), List.mem_of_getElem? (i := 1586) (by decide +kernel)⟩
theorem lw_p138 : lw_okq (⟨"ReadAloudModel", "layMade", "()V"⟩, 52) := ⟨⟨by decide +kernel, by decide +kernel⟩, List.mem_of_getElem? (i := 1166) (by decide +kernel), List.mem_of_getElem? (i := 1589) (by decide +kernel), List.mem_of_getElem? (i := 1590) (by decide +kernel)⟩
theorem lw_p139 : lw_okq (⟨"ReadAloudModel", "findBack", "(I)V"⟩, 52) := ⟨⟨by decide +kernel, by decide +kernel⟩, List.mem_of_getElem? (i := 1166) (by decide +kernel), List.mem_of_getElem? (i := 1593) (by decide +kernel), List.mem_of_getElem? (i := 1594) (by decide +kernel)⟩
theorem lw_p140 : lw_okq (⟨"ReadAloudModel", "findFar", "(II[I)V"⟩, 52) := ⟨⟨by decide +kernel, by decide +kernel⟩, List.mem_of_getElem? (i := 1166) (by decide +kernel), List.mem_of_getElem? (i := 1602) (by decide +kernel), List.mem_of_getElem? (i := 1603) (by decide +kernel)⟩
theorem lw_p141 : lw_okq (⟨"ReadAloudModel", "isKept", "(II)Z"⟩, 52) := ⟨⟨by decide +kernel, by decide +kernel⟩, List.mem_of_getElem? (i := 1166) (by decide +kernel), List.mem_of_getElem? (i := 1614) (by decide +kernel), List.mem_of_getElem? (i := 1615) (by decide +kernel)⟩
theorem lw_p142 : lw_okq (⟨"ReadAloudModel", "unread", "(I)I"⟩, 52) := ⟨⟨by decide +kernel, by decide +kernel⟩, List.mem_of_getElem? (i := 1166) (by decide +kernel), List.mem_of_getElem? (i := 1626) (by decide +kernel), List.mem_of_getElem? (i := 1627) (by decide +kernel)⟩
theorem lw_p143 : lw_okq (⟨"ReadAloudModel", "findComes", "(I)V"⟩, 52) := ⟨⟨by decide +kernel, by decide +kernel⟩, List.mem_of_getElem? (i := 1166) (by decide +kernel), List.mem_of_getElem? (i := 1630) (by decide +kernel), List.mem_of_getElem? (i := 1631) (by decide +kernel)⟩
noncomputable def lw_privs_9 : List (MethodName × Nat) := [(⟨"ReadAloudModel", "deedOf", "(II)I"⟩, 52), (⟨"ReadAloudModel", "layAll", "(II)Z"⟩, 52), (⟨"ReadAloudModel", "play", "(I)I"⟩, 52), (⟨"ReadAloudModel", "begin", "()V"⟩, 52), (⟨"ReadAloudModel", "does", "(I)Z"⟩, 52), (⟨"ReadAloudModel", "reads", "(II)Z"⟩, 52), (⟨"ReadAloudModel", "hushes", "(I)Z"⟩, 52), (⟨"ReadAloudModel", "goesOn", "()Z"⟩, 52), (⟨"ReadAloudModel", "ofState", "(I)I"⟩, 52), (⟨"ReadAloudModel", "handAll", "(I)Z"⟩, 52), (⟨"ReadAloudModel", "layMade", "()V"⟩, 52), (⟨"ReadAloudModel", "findBack", "(I)V"⟩, 52), (⟨"ReadAloudModel", "findFar", "(II[I)V"⟩, 52), (⟨"ReadAloudModel", "isKept", "(II)Z"⟩, 52), (⟨"ReadAloudModel", "unread", "(I)I"⟩, 52), (⟨"ReadAloudModel", "findComes", "(I)V"⟩, 52)]
theorem lw_r9 : ∀ q ∈ lw_privs_9, lw_okq q := List.forall_mem_cons.mpr ⟨lw_p128, List.forall_mem_cons.mpr ⟨lw_p129, List.forall_mem_cons.mpr ⟨lw_p130, List.forall_mem_cons.mpr ⟨lw_p131, List.forall_mem_cons.mpr ⟨lw_p132, List.forall_mem_cons.mpr ⟨lw_p133, List.forall_mem_cons.mpr ⟨lw_p134, List.forall_mem_cons.mpr ⟨lw_p135, List.forall_mem_cons.mpr ⟨lw_p136, List.forall_mem_cons.mpr ⟨lw_p137, List.forall_mem_cons.mpr ⟨lw_p138, List.forall_mem_cons.mpr ⟨lw_p139, List.forall_mem_cons.mpr ⟨lw_p140, List.forall_mem_cons.mpr ⟨lw_p141, List.forall_mem_cons.mpr ⟨lw_p142, List.forall_mem_cons.mpr ⟨lw_p143, fun _ h => absurd h List.not_mem_nil⟩⟩⟩⟩⟩⟩⟩⟩⟩⟩⟩⟩⟩⟩⟩⟩
theorem lw_p144 : lw_okq (⟨"ReadAloudModel", "stays", "(I)I"⟩, 52) := ⟨⟨by decide +kernel, by decide +kernel⟩, List.mem_of_getElem? (i := 1166) (by decide +kernel), List.mem_of_getElem? (i := 1634) (by decide +kernel), List.mem_of_getElem? (i := 1635) (by decide +kernel)⟩
theorem lw_p145 : lw_okq (⟨"ReadAloudModel", "fallAway", "(I)I"⟩, 52) := ⟨⟨by decide +kernel, by decide +kernel⟩, List.mem_of_getElem? (i := 1166) (by decide +kernel), List.mem_of_getElem? (i := 1638) (by decide +kernel), List.mem_of_getElem? (i := 1639) (by decide +kernel)⟩
theorem lw_p146 : lw_okq (⟨"ReadAloudModel", "tail", "(II)I"⟩, 52) := ⟨⟨by decide +kernel, by decide +kernel⟩, List.mem_of_getElem? (i := 1166) (by decide +kernel), List.mem_of_getElem? (i := 1642) (by decide +kernel), List.mem_of_getElem? (i := 1643) (by decide +kernel)⟩
theorem lw_p147 : lw_okq (⟨"ReadAloudModel", "longest", "(IZ)I"⟩, 52) := ⟨⟨by decide +kernel, by decide +kernel⟩, List.mem_of_getElem? (i := 1166) (by decide +kernel), List.mem_of_getElem? (i := 1649) (by decide +kernel), List.mem_of_getElem? (i := 1650) (by decide +kernel)⟩
theorem lw_p148 : lw_okq (⟨"ReadAloudModel", "layDrifts", "()V"⟩, 52) := ⟨⟨by decide +kernel, by decide +kernel⟩, List.mem_of_getElem? (i := 1166) (by decide +kernel), List.mem_of_getElem? (i := 1657) (by decide +kernel), List.mem_of_getElem? (i := 1658) (by decide +kernel)⟩
theorem lw_p149 : lw_okq (⟨"ReadAloudModel", "everybody", "()I"⟩, 52) := ⟨⟨by decide +kernel, by decide +kernel⟩, List.mem_of_getElem? (i := 1166) (by decide +kernel), List.mem_of_getElem? (i := 1661) (by decide +kernel), List.mem_of_getElem? (i := 1662) (by decide +kernel)⟩
theorem lw_p150 : lw_okq (⟨"ReadAloudModel", "best", "(IIZ)V"⟩, 52) := ⟨⟨by decide +kernel, by decide +kernel⟩, List.mem_of_getElem? (i := 1166) (by decide +kernel), List.mem_of_getElem? (i := 1665) (by decide +kernel), List.mem_of_getElem? (i := 1666) (by decide +kernel)⟩
theorem lw_p151 : lw_okq (⟨"ReadAloudModel", "rotaAt", "(II)I"⟩, 52) := ⟨⟨by decide +kernel, by decide +kernel⟩, List.mem_of_getElem? (i := 1166) (by decide +kernel), List.mem_of_getElem? (i := 1669) (by decide +kernel), List.mem_of_getElem? (i := 1670) (by decide +kernel)⟩
theorem lw_p152 : lw_okq (⟨"ReadAloudModel", "wordsIn", "(II)I"⟩, 52) := ⟨⟨by decide +kernel, by decide +kernel⟩, List.mem_of_getElem? (i := 1166) (by decide +kernel), List.mem_of_getElem? (i := 1689) (by decide +kernel), List.mem_of_getElem? (i := 1690) (by decide +kernel)⟩
theorem lw_p153 : lw_okq (⟨"ReadAloudModel", "hasSight", "(I)Z"⟩, 52) := ⟨⟨by decide +kernel, by decide +kernel⟩, List.mem_of_getElem? (i := 1166) (by decide +kernel), List.mem_of_getElem? (i := 1697) (by decide +kernel), List.mem_of_getElem? (i := 1698) (by decide +kernel)⟩
theorem lw_p154 : lw_okq (⟨"ReadAloudModel", "facts", "()I"⟩, 52) := ⟨⟨by decide +kernel, by decide +kernel⟩, List.mem_of_getElem? (i := 1166) (by decide +kernel), List.mem_of_getElem? (i := 1701) (by decide +kernel), List.mem_of_getElem? (i := 1702) (by decide +kernel)⟩
theorem lw_p155 : lw_okq (⟨"ReadAloudModel", "factOf", "(II)I"⟩, 52) := ⟨⟨by decide +kernel, by decide +kernel⟩, List.mem_of_getElem? (i := 1166) (by decide +kernel), List.mem_of_getElem? (i := 1705) (by decide +kernel), List.mem_of_getElem? (i := 1706) (by decide +kernel)⟩
theorem lw_p156 : lw_okq (⟨"ReadAloudModel", "findRows", "(I)V"⟩, 52) := ⟨⟨by decide +kernel, by decide +kernel⟩, List.mem_of_getElem? (i := 1166) (by decide +kernel), List.mem_of_getElem? (i := 1713) (by decide +kernel), List.mem_of_getElem? (i := 1714) (by decide +kernel)⟩
theorem lw_p157 : lw_okq (⟨"ReadAloudModel", "mayBe", "(II)Z"⟩, 52) := ⟨⟨by decide +kernel, by decide +kernel⟩, List.mem_of_getElem? (i := 1166) (by decide +kernel), List.mem_of_getElem? (i := 1717) (by decide +kernel), List.mem_of_getElem? (i := 1718) (by decide +kernel)⟩
theorem lw_p158 : lw_okq (⟨"ReadAloudModel", "allRows", "()I"⟩, 52) := ⟨⟨by decide +kernel, by decide +kernel⟩, List.mem_of_getElem? (i := 1166) (by decide +kernel), List.mem_of_getElem? (i := 1721) (by decide +kernel), List.mem_of_getElem? (i := 1722) (by decide +kernel)⟩
theorem lw_p159 : lw_okq (⟨"ReadAloudModel", "look", "(I)I"⟩, 52) := ⟨⟨by decide +kernel, by decide +kernel⟩, List.mem_of_getElem? (i := 1166) (by decide +kernel), List.mem_of_getElem? (i := 1729) (by decide +kernel), List.mem_of_getElem? (i := 1730) (by decide +kernel)⟩
noncomputable def lw_privs_10 : List (MethodName × Nat) := [(⟨"ReadAloudModel", "stays", "(I)I"⟩, 52), (⟨"ReadAloudModel", "fallAway", "(I)I"⟩, 52), (⟨"ReadAloudModel", "tail", "(II)I"⟩, 52), (⟨"ReadAloudModel", "longest", "(IZ)I"⟩, 52), (⟨"ReadAloudModel", "layDrifts", "()V"⟩, 52), (⟨"ReadAloudModel", "everybody", "()I"⟩, 52), (⟨"ReadAloudModel", "best", "(IIZ)V"⟩, 52), (⟨"ReadAloudModel", "rotaAt", "(II)I"⟩, 52), (⟨"ReadAloudModel", "wordsIn", "(II)I"⟩, 52), (⟨"ReadAloudModel", "hasSight", "(I)Z"⟩, 52), (⟨"ReadAloudModel", "facts", "()I"⟩, 52), (⟨"ReadAloudModel", "factOf", "(II)I"⟩, 52), (⟨"ReadAloudModel", "findRows", "(I)V"⟩, 52), (⟨"ReadAloudModel", "mayBe", "(II)Z"⟩, 52), (⟨"ReadAloudModel", "allRows", "()I"⟩, 52), (⟨"ReadAloudModel", "look", "(I)I"⟩, 52)]
theorem lw_r10 : ∀ q ∈ lw_privs_10, lw_okq q := List.forall_mem_cons.mpr ⟨lw_p144, List.forall_mem_cons.mpr ⟨lw_p145, List.forall_mem_cons.mpr ⟨lw_p146, List.forall_mem_cons.mpr ⟨lw_p147, List.forall_mem_cons.mpr ⟨lw_p148, List.forall_mem_cons.mpr ⟨lw_p149, List.forall_mem_cons.mpr ⟨lw_p150, List.forall_mem_cons.mpr ⟨lw_p151, List.forall_mem_cons.mpr ⟨lw_p152, List.forall_mem_cons.mpr ⟨lw_p153, List.forall_mem_cons.mpr ⟨lw_p154, List.forall_mem_cons.mpr ⟨lw_p155, List.forall_mem_cons.mpr ⟨lw_p156, List.forall_mem_cons.mpr ⟨lw_p157, List.forall_mem_cons.mpr ⟨lw_p158, List.forall_mem_cons.mpr ⟨lw_p159, fun _ h => absurd h List.not_mem_nil⟩⟩⟩⟩⟩⟩⟩⟩⟩⟩⟩⟩⟩⟩⟩⟩
theorem lw_p160 : lw_okq (⟨"ReadAloudModel", "rowsOf", "(II)I"⟩, 52) := ⟨⟨by decide +kernel, by decide +kernel⟩, List.mem_of_getElem? (i := 1166) (by decide +kernel), List.mem_of_getElem? (i := 1733) (by decide +kernel), List.mem_of_getElem? (i := 1734) (by decide +kernel)⟩
theorem lw_p161 : lw_okq (⟨"ReadAloudModel", "drawDeed", "()V"⟩, 52) := ⟨⟨by decide +kernel, by decide +kernel⟩, List.mem_of_getElem? (i := 1166) (by decide +kernel), List.mem_of_getElem? (i := 1741) (by decide +kernel), List.mem_of_getElem? (i := 1742) (by decide +kernel)⟩
theorem lw_p162 : lw_okq (⟨"ReadAloudModel", "draw", "(I)I"⟩, 52) := ⟨⟨by decide +kernel, by decide +kernel⟩, List.mem_of_getElem? (i := 1166) (by decide +kernel), List.mem_of_getElem? (i := 1745) (by decide +kernel), List.mem_of_getElem? (i := 1746) (by decide +kernel)⟩
theorem lw_p163 : lw_okq (⟨"ReadAloudModel", "kinRing", "(I)I"⟩, 52) := ⟨⟨by decide +kernel, by decide +kernel⟩, List.mem_of_getElem? (i := 1166) (by decide +kernel), List.mem_of_getElem? (i := 1754) (by decide +kernel), List.mem_of_getElem? (i := 1755) (by decide +kernel)⟩
theorem lw_p164 : lw_okq (⟨"ReadAloudModel", "someOf", "(II)I"⟩, 52) := ⟨⟨by decide +kernel, by decide +kernel⟩, List.mem_of_getElem? (i := 1166) (by decide +kernel), List.mem_of_getElem? (i := 1762) (by decide +kernel), List.mem_of_getElem? (i := 1763) (by decide +kernel)⟩
theorem lw_p165 : lw_okq (⟨"ReadAloudModel", "isLeft", "(II)Z"⟩, 52) := ⟨⟨by decide +kernel, by decide +kernel⟩, List.mem_of_getElem? (i := 1166) (by decide +kernel), List.mem_of_getElem? (i := 1766) (by decide +kernel), List.mem_of_getElem? (i := 1767) (by decide +kernel)⟩
theorem lw_p166 : lw_okq (⟨"ReadAloudModel", "findCircles", "()I"⟩, 52) := ⟨⟨by decide +kernel, by decide +kernel⟩, List.mem_of_getElem? (i := 1166) (by decide +kernel), List.mem_of_getElem? (i := 1794) (by decide +kernel), List.mem_of_getElem? (i := 1795) (by decide +kernel)⟩
theorem lw_p167 : lw_okq (⟨"ReadAloudModel", "layBack", "()V"⟩, 52) := ⟨⟨by decide +kernel, by decide +kernel⟩, List.mem_of_getElem? (i := 1166) (by decide +kernel), List.mem_of_getElem? (i := 1798) (by decide +kernel), List.mem_of_getElem? (i := 1799) (by decide +kernel)⟩
theorem lw_p168 : lw_okq (⟨"ReadAloudModel", "goDeep", "(II)I"⟩, 52) := ⟨⟨by decide +kernel, by decide +kernel⟩, List.mem_of_getElem? (i := 1166) (by decide +kernel), List.mem_of_getElem? (i := 1802) (by decide +kernel), List.mem_of_getElem? (i := 1803) (by decide +kernel)⟩
theorem lw_p169 : lw_okq (⟨"ReadAloudModel", "goBack", "(II)V"⟩, 52) := ⟨⟨by decide +kernel, by decide +kernel⟩, List.mem_of_getElem? (i := 1166) (by decide +kernel), List.mem_of_getElem? (i := 1806) (by decide +kernel), List.mem_of_getElem? (i := 1807) (by decide +kernel)⟩
theorem lw_p170 : lw_okq (⟨"ReadAloudModel", "copyAll", "(II)V"⟩, 52) := ⟨⟨by decide +kernel, by decide +kernel⟩, List.mem_of_getElem? (i := 1166) (by decide +kernel), List.mem_of_getElem? (i := 1818) (by decide +kernel), List.mem_of_getElem? (i := 1819) (by decide +kernel)⟩
noncomputable def lw_privs_11 : List (MethodName × Nat) := [(⟨"ReadAloudModel", "rowsOf", "(II)I"⟩, 52), (⟨"ReadAloudModel", "drawDeed", "()V"⟩, 52), (⟨"ReadAloudModel", "draw", "(I)I"⟩, 52), (⟨"ReadAloudModel", "kinRing", "(I)I"⟩, 52), (⟨"ReadAloudModel", "someOf", "(II)I"⟩, 52), (⟨"ReadAloudModel", "isLeft", "(II)Z"⟩, 52), (⟨"ReadAloudModel", "findCircles", "()I"⟩, 52), (⟨"ReadAloudModel", "layBack", "()V"⟩, 52), (⟨"ReadAloudModel", "goDeep", "(II)I"⟩, 52), (⟨"ReadAloudModel", "goBack", "(II)V"⟩, 52), (⟨"ReadAloudModel", "copyAll", "(II)V"⟩, 52)]
theorem lw_r11 : ∀ q ∈ lw_privs_11, lw_okq q := List.forall_mem_cons.mpr ⟨lw_p160, List.forall_mem_cons.mpr ⟨lw_p161, List.forall_mem_cons.mpr ⟨lw_p162, List.forall_mem_cons.mpr ⟨lw_p163, List.forall_mem_cons.mpr ⟨lw_p164, List.forall_mem_cons.mpr ⟨lw_p165, List.forall_mem_cons.mpr ⟨lw_p166, List.forall_mem_cons.mpr ⟨lw_p167, List.forall_mem_cons.mpr ⟨lw_p168, List.forall_mem_cons.mpr ⟨lw_p169, List.forall_mem_cons.mpr ⟨lw_p170, fun _ h => absurd h List.not_mem_nil⟩⟩⟩⟩⟩⟩⟩⟩⟩⟩⟩
noncomputable def lw_privs : List (MethodName × Nat) := lw_privs_1 ++ (lw_privs_2 ++ (lw_privs_3 ++ (lw_privs_4 ++ (lw_privs_5 ++ (lw_privs_6 ++ (lw_privs_7 ++ (lw_privs_8 ++ (lw_privs_9 ++ (lw_privs_10 ++ (lw_privs_11))))))))))
noncomputable def lw_tbl : List Cond := k2_sels lw_privs ++ tables_1
theorem lw_privs_ok : ∀ q ∈ lw_privs, lw_okq q := by
  show ∀ q ∈ lw_privs_1 ++ (lw_privs_2 ++ (lw_privs_3 ++ (lw_privs_4 ++ (lw_privs_5 ++ (lw_privs_6 ++ (lw_privs_7 ++ (lw_privs_8 ++ (lw_privs_9 ++ (lw_privs_10 ++ (lw_privs_11)))))))))), lw_okq q
  exact List.forall_mem_append.mpr ⟨lw_r1, List.forall_mem_append.mpr ⟨lw_r2, List.forall_mem_append.mpr ⟨lw_r3, List.forall_mem_append.mpr ⟨lw_r4, List.forall_mem_append.mpr ⟨lw_r5, List.forall_mem_append.mpr ⟨lw_r6, List.forall_mem_append.mpr ⟨lw_r7, List.forall_mem_append.mpr ⟨lw_r8, List.forall_mem_append.mpr ⟨lw_r9, List.forall_mem_append.mpr ⟨lw_r10, lw_r11⟩⟩⟩⟩⟩⟩⟩⟩⟩⟩
noncomputable def RX0 : String := "ReadAloud$Book"
noncomputable def TX0 : u_T := fun k => match k with
  | 0 => ("ReadAloud$Book", "number", "I", false)
  | 1 => ("ReadAloud$Book", "readers", "I", false)
  | 2 => ("ReadAloud$Book", "kinOf", "I", false)
  | 3 => ("ReadAloud$Book", "kin", "[I", true)
  | 4 => ("ReadAloud$Book", "steps", "[I", true)
  | 5 => ("ReadAloud$Book", "stepKinds", "[I", true)
  | _ => ("ReadAloud$Book", "stepNumbers", "[I", true)
noncomputable def tyX0 : Nat → FieldType := fun k => match k with
  | 0 => .int
  | 1 => .int
  | 2 => .int
  | 3 => .array .int
  | 4 => .array .int
  | 5 => .array .int
  | _ => .array .int
theorem nmX0 : ∀ a, a < 7 → ∀ b, b < 7 → a ≠ b → (TX0 a).2.1 ≠ (TX0 b).2.1 := by decide +kernel
theorem tyX0_ok : ∀ k, k < 7 → parseFieldDescriptor (TX0 k).2.2.1 = some (tyX0 k) := by decide +kernel
noncomputable def RX1 : String := "ReadAloud$Course"
noncomputable def TX1 : u_T := fun k => match k with
  | 0 => ("ReadAloud$Course", "book", "LReadAloud$Book;", false)
  | 1 => ("ReadAloud$Course", "day", "I", false)
  | 2 => ("ReadAloud$Course", "sealed", "I", false)
  | 3 => ("ReadAloud$Course", "hushed", "I", false)
  | 4 => ("ReadAloud$Course", "seed", "I", false)
  | 5 => ("ReadAloud$Course", "copies", "[I", true)
  | _ => ("ReadAloud$Course", "timesRead", "[I", true)
noncomputable def tyX1 : Nat → FieldType := fun k => match k with
  | 0 => .object "ReadAloud$Book"
  | 1 => .int
  | 2 => .int
  | 3 => .int
  | 4 => .int
  | 5 => .array .int
  | _ => .array .int
theorem nmX1 : ∀ a, a < 7 → ∀ b, b < 7 → a ≠ b → (TX1 a).2.1 ≠ (TX1 b).2.1 := by decide +kernel
theorem tyX1_ok : ∀ k, k < 7 → parseFieldDescriptor (TX1 k).2.2.1 = some (tyX1 k) := by decide +kernel
noncomputable def RX2 : String := "ReadAloud$Levels"
noncomputable def TX2 : u_T := fun k => match k with
  | 0 => ("ReadAloud$Levels", "readings", "LReadAloud$Readings;", false)
  | 1 => ("ReadAloud$Levels", "n", "I", false)
  | 2 => ("ReadAloud$Levels", "first", "I", false)
  | 3 => ("ReadAloud$Levels", "second", "I", false)
  | 4 => ("ReadAloud$Levels", "start", "[I", true)
  | 5 => ("ReadAloud$Levels", "wanted", "[I", true)
  | 6 => ("ReadAloud$Levels", "texts", "[I", true)
  | 7 => ("ReadAloud$Levels", "ways", "[I", true)
  | 8 => ("ReadAloud$Levels", "worth", "[I", true)
  | _ => ("ReadAloud$Levels", "nodeOf", "[I", true)
noncomputable def tyX2 : Nat → FieldType := fun k => match k with
  | 0 => .object "ReadAloud$Readings"
  | 1 => .int
  | 2 => .int
  | 3 => .int
  | 4 => .array .int
  | 5 => .array .int
  | 6 => .array .int
  | 7 => .array .int
  | 8 => .array .int
  | _ => .array .int
theorem nmX2 : ∀ a, a < 10 → ∀ b, b < 10 → a ≠ b → (TX2 a).2.1 ≠ (TX2 b).2.1 := by decide +kernel
theorem tyX2_ok : ∀ k, k < 10 → parseFieldDescriptor (TX2 k).2.2.1 = some (tyX2 k) := by decide +kernel
noncomputable def RX4 : String := "ReadAloud$Readings"
noncomputable def TX4 : u_T := fun k => match k with
  | 0 => ("ReadAloud$Readings", "book", "LReadAloud$Book;", false)
  | 1 => ("ReadAloud$Readings", "known", "[I", true)
  | 2 => ("ReadAloud$Readings", "marks", "[B", false)
  | _ => ("ReadAloud$Readings", "spare", "[B", false)
noncomputable def tyX4 : Nat → FieldType := fun k => match k with
  | 0 => .object "ReadAloud$Book"
  | 1 => .array .int
  | 2 => .array .byte
  | _ => .array .byte
theorem nmX4 : ∀ a, a < 4 → ∀ b, b < 4 → a ≠ b → (TX4 a).2.1 ≠ (TX4 b).2.1 := by decide +kernel
theorem tyX4_ok : ∀ k, k < 4 → parseFieldDescriptor (TX4 k).2.2.1 = some (tyX4 k) := by decide +kernel
noncomputable def RX5 : String := "ReadAloud$Rings"
noncomputable def TX5 : u_T := fun k => match k with
  | 0 => ("ReadAloud$Rings", "answers", "[I", true)
  | 1 => ("ReadAloud$Rings", "circles", "I", false)
  | 2 => ("ReadAloud$Rings", "largest", "I", false)
  | 3 => ("ReadAloud$Rings", "found", "I", false)
  | 4 => ("ReadAloud$Rings", "open", "I", false)
  | 5 => ("ReadAloud$Rings", "depth", "I", false)
  | 6 => ("ReadAloud$Rings", "leading", "[I", true)
  | 7 => ("ReadAloud$Rings", "outside", "[I", true)
  | 8 => ("ReadAloud$Rings", "readBefore", "[I", true)
  | 9 => ("ReadAloud$Rings", "way", "[I", true)
  | 10 => ("ReadAloud$Rings", "opened", "[I", true)
  | 11 => ("ReadAloud$Rings", "order", "[I", true)
  | 12 => ("ReadAloud$Rings", "earliest", "[I", true)
  | 13 => ("ReadAloud$Rings", "tried", "[I", true)
  | _ => ("ReadAloud$Rings", "sizeOf", "[I", true)
noncomputable def tyX5 : Nat → FieldType := fun k => match k with
  | 0 => .array .int
  | 1 => .int
  | 2 => .int
  | 3 => .int
  | 4 => .int
  | 5 => .int
  | 6 => .array .int
  | 7 => .array .int
  | 8 => .array .int
  | 9 => .array .int
  | 10 => .array .int
  | 11 => .array .int
  | 12 => .array .int
  | 13 => .array .int
  | _ => .array .int
theorem nmX5 : ∀ a, a < 15 → ∀ b, b < 15 → a ≠ b → (TX5 a).2.1 ≠ (TX5 b).2.1 := by decide +kernel
theorem tyX5_ok : ∀ k, k < 15 → parseFieldDescriptor (TX5 k).2.2.1 = some (tyX5 k) := by decide +kernel
noncomputable def RX6 : String := "ReadAloud$Sight"
noncomputable def TX6 : u_T := fun k => match k with
  | 0 => ("ReadAloud$Sight", "facts", "I", false)
  | 1 => ("ReadAloud$Sight", "behind", "[I", true)
  | _ => ("ReadAloud$Sight", "numbers", "[I", true)
noncomputable def tyX6 : Nat → FieldType := fun k => match k with
  | 0 => .int
  | 1 => .array .int
  | _ => .array .int
theorem nmX6 : ∀ a, a < 3 → ∀ b, b < 3 → a ≠ b → (TX6 a).2.1 ≠ (TX6 b).2.1 := by decide +kernel
theorem tyX6_ok : ∀ k, k < 3 → parseFieldDescriptor (TX6 k).2.2.1 = some (tyX6 k) := by decide +kernel
noncomputable def RX7 : String := "ReadAloud$Teller"
noncomputable def TX7 : u_T := fun k => match k with
  | 0 => ("ReadAloud$Teller", "tape", "[B", false)
  | 1 => ("ReadAloud$Teller", "length", "I", false)
  | 2 => ("ReadAloud$Teller", "at", "I", false)
  | 3 => ("ReadAloud$Teller", "kind", "I", false)
  | 4 => ("ReadAloud$Teller", "start", "I", false)
  | 5 => ("ReadAloud$Teller", "value", "I", false)
  | 6 => ("ReadAloud$Teller", "fault", "I", false)
  | _ => ("ReadAloud$Teller", "place", "I", false)
noncomputable def tyX7 : Nat → FieldType := fun k => match k with
  | 0 => .array .byte
  | 1 => .int
  | 2 => .int
  | 3 => .int
  | 4 => .int
  | 5 => .int
  | 6 => .int
  | _ => .int
theorem nmX7 : ∀ a, a < 8 → ∀ b, b < 8 → a ≠ b → (TX7 a).2.1 ≠ (TX7 b).2.1 := by decide +kernel
theorem tyX7_ok : ∀ k, k < 8 → parseFieldDescriptor (TX7 k).2.2.1 = some (tyX7 k) := by decide +kernel
noncomputable def RX8 : String := "ReadAloud$Told"
noncomputable def TX8 : u_T := fun k => match k with
  | 0 => ("ReadAloud$Told", "tape", "[B", true)
  | 1 => ("ReadAloud$Told", "length", "I", false)
  | 2 => ("ReadAloud$Told", "fault", "I", false)
  | 3 => ("ReadAloud$Told", "place", "I", false)
  | 4 => ("ReadAloud$Told", "counts", "[I", true)
  | 5 => ("ReadAloud$Told", "books", "[LReadAloud$Book;", true)
  | 6 => ("ReadAloud$Told", "years", "[LReadAloud$Year;", true)
  | _ => ("ReadAloud$Told", "sights", "[LReadAloud$Sight;", true)
noncomputable def tyX8 : Nat → FieldType := fun k => match k with
  | 0 => .array .byte
  | 1 => .int
  | 2 => .int
  | 3 => .int
  | 4 => .array .int
  | 5 => .array (.object "ReadAloud$Book")
  | 6 => .array (.object "ReadAloud$Year")
  | _ => .array (.object "ReadAloud$Sight")
theorem nmX8 : ∀ a, a < 8 → ∀ b, b < 8 → a ≠ b → (TX8 a).2.1 ≠ (TX8 b).2.1 := by decide +kernel
theorem tyX8_ok : ∀ k, k < 8 → parseFieldDescriptor (TX8 k).2.2.1 = some (tyX8 k) := by decide +kernel
noncomputable def RX9 : String := "ReadAloud$Walk"
noncomputable def TX9 : u_T := fun k => match k with
  | 0 => ("ReadAloud$Walk", "size", "I", false)
  | 1 => ("ReadAloud$Walk", "queue", "[I", true)
  | 2 => ("ReadAloud$Walk", "needed", "[I", true)
  | 3 => ("ReadAloud$Walk", "back", "[I", true)
  | _ => ("ReadAloud$Walk", "reader", "[I", true)
noncomputable def tyX9 : Nat → FieldType := fun k => match k with
  | 0 => .int
  | 1 => .array .int
  | 2 => .array .int
  | 3 => .array .int
  | _ => .array .int
theorem nmX9 : ∀ a, a < 5 → ∀ b, b < 5 → a ≠ b → (TX9 a).2.1 ≠ (TX9 b).2.1 := by decide +kernel
theorem tyX9_ok : ∀ k, k < 5 → parseFieldDescriptor (TX9 k).2.2.1 = some (tyX9 k) := by decide +kernel
noncomputable def RX10 : String := "ReadAloud$Year"
noncomputable def TX10 : u_T := fun k => match k with
  | 0 => ("ReadAloud$Year", "deeds", "I", false)
  | 1 => ("ReadAloud$Year", "kinds", "[I", true)
  | 2 => ("ReadAloud$Year", "ones", "[I", true)
  | _ => ("ReadAloud$Year", "others", "[I", true)
noncomputable def tyX10 : Nat → FieldType := fun k => match k with
  | 0 => .int
  | 1 => .array .int
  | 2 => .array .int
  | _ => .array .int
theorem nmX10 : ∀ a, a < 4 → ∀ b, b < 4 → a ≠ b → (TX10 a).2.1 ≠ (TX10 b).2.1 := by decide +kernel
theorem tyX10_ok : ∀ k, k < 4 → parseFieldDescriptor (TX10 k).2.2.1 = some (tyX10 k) := by decide +kernel
noncomputable def RX11 : String := "ReadAloud"
noncomputable def TX11 : u_T := fun k => match k with
  | 0 => ("ReadAloud", "told", "LReadAloud$Told;", true)
  | 1 => ("ReadAloud", "images", "[LReadAloud$Told;", true)
  | 2 => ("ReadAloud", "teller", "LReadAloud$Teller;", true)
  | 3 => ("ReadAloud", "course", "LReadAloud$Course;", true)
  | 4 => ("ReadAloud", "readings", "[LReadAloud$Readings;", true)
  | 5 => ("ReadAloud", "walks", "[LReadAloud$Walk;", true)
  | 6 => ("ReadAloud", "levels", "LReadAloud$Levels;", false)
  | _ => ("ReadAloud", "rings", "LReadAloud$Rings;", false)
noncomputable def tyX11 : Nat → FieldType := fun k => match k with
  | 0 => .object "ReadAloud$Told"
  | 1 => .array (.object "ReadAloud$Told")
  | 2 => .object "ReadAloud$Teller"
  | 3 => .object "ReadAloud$Course"
  | 4 => .array (.object "ReadAloud$Readings")
  | 5 => .array (.object "ReadAloud$Walk")
  | 6 => .object "ReadAloud$Levels"
  | _ => .object "ReadAloud$Rings"
theorem nmX11 : ∀ a, a < 8 → ∀ b, b < 8 → a ≠ b → (TX11 a).2.1 ≠ (TX11 b).2.1 := by decide +kernel
theorem tyX11_ok : ∀ k, k < 8 → parseFieldDescriptor (TX11 k).2.2.1 = some (tyX11 k) := by decide +kernel
noncomputable def RX12 : String := "ReadAloudModel"
noncomputable def TX12 : u_T := fun k => match k with
  | 0 => ("ReadAloudModel", "code", "I", false)
  | 1 => ("ReadAloudModel", "tape", "[B", true)
  | 2 => ("ReadAloudModel", "size", "[I", true)
  | 3 => ("ReadAloudModel", "fault", "[I", true)
  | 4 => ("ReadAloudModel", "faultPlace", "[I", true)
  | 5 => ("ReadAloudModel", "many", "[I", true)
  | 6 => ("ReadAloudModel", "books", "[I", true)
  | 7 => ("ReadAloudModel", "years", "[I", true)
  | 8 => ("ReadAloudModel", "sights", "[I", true)
  | 9 => ("ReadAloudModel", "reached", "I", false)
  | 10 => ("ReadAloudModel", "length", "I", false)
  | 11 => ("ReadAloudModel", "begins", "I", false)
  | 12 => ("ReadAloudModel", "sort", "I", false)
  | 13 => ("ReadAloudModel", "value", "I", false)
  | 14 => ("ReadAloudModel", "word", "J", false)
  | 15 => ("ReadAloudModel", "wrongAt", "I", false)
  | 16 => ("ReadAloudModel", "laterFault", "I", false)
  | 17 => ("ReadAloudModel", "laterPlace", "I", false)
  | 18 => ("ReadAloudModel", "told", "[I", true)
  | 19 => ("ReadAloudModel", "read", "[I", true)
  | 20 => ("ReadAloudModel", "book", "I", false)
  | 21 => ("ReadAloudModel", "madeOf", "I", false)
  | 22 => ("ReadAloudModel", "base", "I", false)
  | 23 => ("ReadAloudModel", "readers", "I", false)
  | 24 => ("ReadAloudModel", "words", "[I", true)
  | 25 => ("ReadAloudModel", "others", "[I", true)
  | 26 => ("ReadAloudModel", "lasts", "I", false)
  | 27 => ("ReadAloudModel", "drifts", "[I", true)
  | 28 => ("ReadAloudModel", "year", "I", false)
  | 29 => ("ReadAloudModel", "copies", "[I", true)
  | 30 => ("ReadAloudModel", "often", "[I", true)
  | 31 => ("ReadAloudModel", "day", "I", false)
  | 32 => ("ReadAloudModel", "sealed", "I", false)
  | 33 => ("ReadAloudModel", "hushed", "I", false)
  | 34 => ("ReadAloudModel", "made", "[I", true)
  | 35 => ("ReadAloudModel", "far", "[I", true)
  | 36 => ("ReadAloudModel", "far2", "[I", true)
  | 37 => ("ReadAloudModel", "order", "[I", true)
  | 38 => ("ReadAloudModel", "come", "I", false)
  | 39 => ("ReadAloudModel", "comes", "[I", true)
  | 40 => ("ReadAloudModel", "least", "[I", true)
  | 41 => ("ReadAloudModel", "sight", "I", false)
  | 42 => ("ReadAloudModel", "ways", "[I", true)
  | 43 => ("ReadAloudModel", "onward", "[I", true)
  | 44 => ("ReadAloudModel", "seed", "I", false)
  | 45 => ("ReadAloudModel", "under", "[I", true)
  | 46 => ("ReadAloudModel", "tried", "[I", true)
  | 47 => ("ReadAloudModel", "circle", "[I", true)
  | 48 => ("ReadAloudModel", "sizes", "[I", true)
  | 49 => ("ReadAloudModel", "firstTo", "[I", true)
  | 50 => ("ReadAloudModel", "nextTo", "[I", true)
  | _ => ("ReadAloudModel", "kept", "[Z", true)
noncomputable def tyX12 : Nat → FieldType := fun k => match k with
  | 0 => .int
  | 1 => .array .byte
  | 2 => .array .int
  | 3 => .array .int
  | 4 => .array .int
  | 5 => .array .int
  | 6 => .array .int
  | 7 => .array .int
  | 8 => .array .int
  | 9 => .int
  | 10 => .int
  | 11 => .int
  | 12 => .int
  | 13 => .int
  | 14 => .long
  | 15 => .int
  | 16 => .int
  | 17 => .int
  | 18 => .array .int
  | 19 => .array .int
  | 20 => .int
  | 21 => .int
  | 22 => .int
  | 23 => .int
  | 24 => .array .int
  | 25 => .array .int
  | 26 => .int
  | 27 => .array .int
  | 28 => .int
  | 29 => .array .int
  | 30 => .array .int
  | 31 => .int
  | 32 => .int
  | 33 => .int
  | 34 => .array .int
  | 35 => .array .int
  | 36 => .array .int
  | 37 => .array .int
  | 38 => .int
  | 39 => .array .int
  | 40 => .array .int
  | 41 => .int
  | 42 => .array .int
  | 43 => .array .int
  | 44 => .int
  | 45 => .array .int
  | 46 => .array .int
  | 47 => .array .int
  | 48 => .array .int
  | 49 => .array .int
  | 50 => .array .int
  | _ => .array .boolean
theorem nmX12 : ∀ a, a < 52 → ∀ b, b < 52 → a ≠ b → (TX12 a).2.1 ≠ (TX12 b).2.1 := by decide +kernel
theorem tyX12_ok : ∀ k, k < 52 → parseFieldDescriptor (TX12 k).2.2.1 = some (tyX12 k) := by decide +kernel
/-! THE PURE MACHINE: a world is a list of cells, an address its place in the list; a method's run as a least fixed point. -/
noncomputable abbrev zL : Type := List (Option Value)
noncomputable abbrev zW : Type := List va_E
noncomputable abbrev zS : Type := Nat × zL × List Value × zW × Nat × Nat
noncomputable abbrev zE : Type := Nat × Instr × Nat × Nat × Nat
/-- name, bytes, locals, what it returns, its class's number, its rows -/
noncomputable abbrev zM : Type := MethodName × ByteArray × Nat × Option FieldType × Nat × List zE
noncomputable abbrev zQ : Type := Option Value → zW → Prop
noncomputable abbrev zX : Type := Option (Nat × (Nat → Int32))
noncomputable abbrev zCT : Type := Nat → List Value → zW → Nat → Nat → zQ → Prop
noncomputable def zcls : List vw_C := [(RX0, TX0, 7), (RX1, TX1, 7), (RX2, TX2, 10), (RX4, TX4, 4), (RX5, TX5, 15), (RX6, TX6, 3), (RX7, TX7, 8), (RX8, TX8, 8), (RX9, TX9, 5), (RX10, TX10, 4), (RX11, TX11, 8), (RX12, TX12, 52)]
noncomputable def ztyf : Nat → Nat → FieldType := fun i => match i with
  | 0 => tyX0
  | 1 => tyX1
  | 2 => tyX2
  | 3 => tyX4
  | 4 => tyX5
  | 5 => tyX6
  | 6 => tyX7
  | 7 => tyX8
  | 8 => tyX9
  | 9 => tyX10
  | 10 => tyX11
  | _ => tyX12
noncomputable def zix {α : Type} : List α → Nat → Option α
  | [], _ => none
  | x :: _, 0 => some x
  | _ :: t, n + 1 => zix t n
theorem zix_eq {α : Type} : ∀ (l : List α) (i : Nat), zix l i = l[i]?
  | [], _ => rfl
  | _ :: _, 0 => rfl
  | _ :: t, n + 1 => by rw [List.getElem?_cons_succ]; exact zix_eq t n
noncomputable def zst {α : Type} : List α → Nat → α → List α
  | [], _, _ => []
  | _ :: t, 0, v => v :: t
  | x :: t, n + 1, v => x :: zst t n v
theorem zst_eq {α : Type} : ∀ (l : List α) (i : Nat) (v : α), zst l i v = l.set i v
  | [], _, _ => rfl
  | _ :: _, 0, _ => rfl
  | x :: t, n + 1, v => by rw [List.set_cons_succ]; exact congrArg (x :: ·) (zst_eq t n v)
noncomputable def zcn (i : Nat) : String := match zix zcls i with
  | some q => q.1
  | none => ""
noncomputable def zcN (i : Nat) : Nat := match zix zcls i with
  | some q => q.2.2
  | none => 0
noncomputable def zcf (i k : Nat) : String × String × String × Bool := match zix zcls i with
  | some q => q.2.1 k
  | none => ("", "", "", false)
/-- the arrays' kinds -/
noncomputable def zats : List FieldType := [.byte, .int, .boolean, .object "ReadAloud$Book", .object "ReadAloud$Year", .object "ReadAloud$Sight", .object "ReadAloud$Told", .object "ReadAloud$Readings", .object "ReadAloud$Walk"]
/-- the class of an array's elements -/
noncomputable def zec : Nat → Nat := fun i => match i with
  | 3 => 0
  | 4 => 9
  | 5 => 5
  | 6 => 7
  | 7 => 3
  | 8 => 8
  | _ => 99
/-- the String constants: lengths and bytes -/
noncomputable def zslens : List Nat := [5, 4, 6, 4, 4, 4, 3, 6, 4, 4, 4, 4, 7, 4, 3]
noncomputable def zsbyts : List (List Int32) := [[115, 104, 105, 102, 116], [100, 114, 111, 112], [100, 111, 117, 98, 108, 101], [115, 119, 97, 112], [116, 117, 114, 110], [116, 101, 120, 116], [107, 105, 110], [114, 101, 97, 100, 101, 114], [115, 101, 101, 110], [114, 101, 97, 100], [99, 111, 112, 121], [115, 101, 97, 108], [114, 101, 115, 116, 111, 114, 101], [104, 117, 115, 104], [100, 97, 121]]
noncomputable def zdv : FieldType → Value := defaultValue
noncomputable def zdl : Nat → Nat → (Nat → FieldType) → List Value
  | 0, _, _ => []
  | n + 1, i, f => zdv (f i) :: zdl n (i + 1) f
noncomputable def zdf (ci : Nat) : List Value := zdl (zcN ci) 0 (ztyf ci)
noncomputable def zda (ti n : Nat) : vp_A := match Nat.ble ti 2 with
  | true => (n, .inl (fun _ => 0))
  | false => (n, .inr (.inr (.inr (.inr (fun _ => none)))))
noncomputable def zfit (ty : FieldType) (v : Value) : Bool := match ty with
  | .int => match v with
    | .int _ => true
    | _ => false
  | .long => match v with
    | .long _ => true
    | _ => false
  | .object _ => match v with
    | .ref _ => true
    | .null => true
    | _ => false
  | .array _ => match v with
    | .ref _ => true
    | .null => true
    | _ => false
  | _ => false
noncomputable def zat : List zE → Nat → Option (Instr × Nat × Nat × Nat)
  | [], _ => none
  | e :: t, pc => match Nat.beq e.1 pc with
    | true => some e.2
    | false => zat t pc
noncomputable def zget : zL → Nat → Option Value
  | [], _ => none
  | x :: _, 0 => x
  | _ :: t, n + 1 => zget t n
noncomputable def zput : zL → Nat → Option Value → zL
  | [], _, _ => []
  | _ :: t, 0, v => v :: t
  | x :: t, n + 1, v => x :: zput t n v
noncomputable def zc2 (v : Option Value) : Bool := match v with
  | some (.long _) => true
  | some (.double _) => true
  | _ => false
noncomputable def zfree (L : zL) (i : Nat) : Bool := match i with
  | 0 => true
  | j + 1 => match zc2 (zget L j) with
    | true => false
    | false => true
noncomputable def zrm (S : List Value) : Bool := Nat.ble (S.map fun v => v.category).sum 8
noncomputable def zbr (c : Jvm.ClassFile.Cond) (x y : Int32) (A B : Prop) : Prop := match c with
  | .eq => (x = y → A) ∧ (¬ x = y → B)
  | .ne => (¬ x = y → A) ∧ (x = y → B)
  | .lt => (x < y → A) ∧ (¬ x < y → B)
  | .ge => (y ≤ x → A) ∧ (¬ y ≤ x → B)
  | .gt => (y < x → A) ∧ (¬ y < x → B)
  | .le => (x ≤ y → A) ∧ (¬ x ≤ y → B)
noncomputable def zbr0 (c : Jvm.ClassFile.Cond) (x : Int32) (A B : Prop) : Prop := match c with
  | .eq => (x = 0 → A) ∧ (¬ x = 0 → B)
  | .ne => (¬ x = 0 → A) ∧ (x = 0 → B)
  | .lt => (x < 0 → A) ∧ (¬ x < 0 → B)
  | .ge => (0 ≤ x → A) ∧ (¬ 0 ≤ x → B)
  | .gt => (0 < x → A) ∧ (¬ 0 < x → B)
  | .le => (x ≤ 0 → A) ∧ (¬ x ≤ 0 → B)
noncomputable def z1i (S : List Value) (f : Int32 → List Value → Prop) : Prop := match S with
  | .int x :: t => f x t
  | _ => False
noncomputable def z2i (S : List Value) (f : Int32 → Int32 → List Value → Prop) : Prop := match S with
  | .int y :: .int x :: t => f x y t
  | _ => False
noncomputable def z1l (S : List Value) (f : Int64 → List Value → Prop) : Prop := match S with
  | .long x :: t => f x t
  | _ => False
noncomputable def z2l (S : List Value) (f : Int64 → Int64 → List Value → Prop) : Prop := match S with
  | .long y :: .long x :: t => f x y t
  | _ => False
noncomputable def z1r (S : List Value) (f : Nat → List Value → Prop) : Prop := match S with
  | .ref q :: t => f q t
  | _ => False
/-- a reference to the world, or to what lies outside -/
noncomputable def zgf (S : List Value) (f g : Nat → List Value → Prop) : Prop := match S with
  | .ref q :: t => f q t
  | .retAddr j :: t => g j t
  | _ => False
/-- of three methods (Book's, Year's, Sight's) that of the object's class -/
noncomputable def zvt (w : zW) (q a : Nat) (f : Nat → Nat → Prop) : Prop := match zix w q with
  | some (.inr (ci, _)) => match ci with
    | 0 => f 0 (a % 1000)
    | 9 => f 9 (a / 1000 % 1000)
    | 5 => f 5 (a / 1000000)
    | _ => False
  | _ => False
noncomputable def zstr (j : Nat) : Bool := Nat.ble 1 j && Nat.ble j 15
noncomputable def zsby (j : Nat) : Bool := Nat.ble 101 j && Nat.ble j 115
noncomputable def z1v (S : List Value) (f : Value → List Value → Prop) : Prop := match S with
  | v :: t => f v t
  | _ => False
/-- a value above a reference -/
noncomputable def zvr (S : List Value) (f : Value → Nat → List Value → Prop) : Prop := match S with
  | v :: .ref q :: t => f v q t
  | _ => False
/-- an index above an array -/
noncomputable def zia (S : List Value) (f g : Int32 → Nat → List Value → Prop) : Prop := match S with
  | .int i :: .ref q :: t => f i q t
  | .int i :: .retAddr j :: t => g i j t
  | _ => False
/-- a value above an index above an array -/
noncomputable def zvia (S : List Value) (f : Value → Int32 → Nat → List Value → Prop) : Prop := match S with
  | v :: .int i :: .ref q :: t => f v i q t
  | _ => False
/-- a condition that is reckoned -/
noncomputable def zif (b : Bool) (A : Prop) : Prop := match b with
  | true => A
  | false => False
noncomputable def zli (L : zL) (j : Nat) (f : Int32 → Prop) : Prop := match zget L j with
  | some (.int x) => f x
  | _ => False
noncomputable def zll (L : zL) (j : Nat) (f : Int64 → Prop) : Prop := match zget L j with
  | some (.long x) => f x
  | _ => False
noncomputable def zla (L : zL) (j : Nat) (f : Value → Prop) : Prop := match zget L j with
  | some (.ref q) => f (.ref q)
  | some .null => f .null
  | some (.retAddr q) => f (.retAddr q)
  | _ => False
/-- an object of a class -/
noncomputable def zob (w : zW) (q ci : Nat) (f : List Value → Prop) : Prop := match zix w q with
  | some (.inr (c, fs)) => zif (Nat.beq c ci) (f fs)
  | _ => False
noncomputable def zai (w : zW) (q : Nat) (f : Nat → Nat → (Nat → Int32) → Prop) : Prop := match zix w q with
  | some (.inl (ti, len, .inl g)) => f ti len g
  | _ => False
noncomputable def zaq (w : zW) (q : Nat) (f : Nat → Nat → (Nat → Option Nat) → Prop) : Prop := match zix w q with
  | some (.inl (ti, len, .inr (.inr (.inr (.inr g))))) => f ti len g
  | _ => False
noncomputable def zin1 (S : List Value) (f : Value → Prop) : Prop := match S with
  | [v] => f v
  | _ => False
noncomputable def zret (r : Option FieldType) (v : Value) : Prop := match v with
  | .int x => match r with
    | some .int => True
    | some .boolean => x = 0 ∨ x = 1
    | some .byte => narrow .byte (.int x) = .int x
    | some .char => narrow .char (.int x) = .int x
    | _ => False
  | .long _ => match r with
    | some .long => True
    | _ => False
  | .ref _ => match r with
    | some (.object _) => True
    | _ => False
  | .null => match r with
    | some (.object _) => True
    | _ => False
  | _ => False
/-- an int above a long -/
noncomputable def zil (S : List Value) (f : Int64 → Int32 → List Value → Prop) : Prop := match S with
  | .int y :: .long x :: t => f x y t
  | _ => False
noncomputable def zro (v : Value) : Option (Option Nat) := match v with
  | .ref q => some (some q)
  | .null => some none
  | _ => none
/-- two references, or null -/
noncomputable def z2r (S : List Value) (f : Option Nat → Option Nat → List Value → Prop) : Prop := match S with
  | y :: x :: t => match zro x with
    | some rx => match zro y with
      | some ry => f rx ry t
      | none => False
    | none => False
  | _ => False
noncomputable def zbra (c : Jvm.ClassFile.ACond) (x y : Option Nat) (A B : Prop) : Prop := match c with
  | .eq => (x = y → A) ∧ (¬ x = y → B)
  | .ne => (¬ x = y → A) ∧ (x = y → B)
/-- what a store of a reference takes -/
noncomputable def zasv (S : List Value) (f : Value → List Value → Prop) : Prop := match S with
  | .ref q :: t => f (.ref q) t
  | .null :: t => f .null t
  | _ => False
noncomputable def zvr2 (S : List Value) (f : Value → Value → List Value → Prop) : Prop := match S with
  | v :: u :: t => f v u t
  | _ => False
/-- a reference, or null -/
noncomputable def zrn (S : List Value) (f g : List Value → Prop) : Prop := match S with
  | .ref _ :: t => f t
  | .null :: t => g t
  | _ => False
noncomputable def zrn2 (v : Value) (f : Nat → Prop) (g : Prop) : Prop := match v with
  | .ref q => f q
  | .null => g
  | _ => False
noncomputable def zfld (fs : List Value) (b : Nat) (f : Value → Prop) : Prop := match zix fs b with
  | some v => f v
  | none => False
noncomputable def zext (E : zX) (f : Nat → (Nat → Int32) → Prop) : Prop := match E with
  | some q => f q.1 q.2
  | none => False
noncomputable def zor (b : Bool) (A B : Prop) : Prop := match b with
  | true => A
  | false => B
noncomputable def zlen1 (S : List Value) (f g : Nat → List Value → Prop) : Prop := match S with
  | .retAddr j :: t => f j t
  | .ref q :: t => g q t
  | _ => False
noncomputable def zcpy (S : List Value) (f : Nat → Int32 → Nat → Int32 → Int32 → List Value → Prop) : Prop := match S with
  | .int m :: .int dp :: .ref q1 :: .int sp :: .ref q0 :: t => f q0 sp q1 dp m t
  | _ => False
noncomputable def zaty (i : Nat) : FieldType := match i with
  | 0 => .byte
  | _ => .int
noncomputable def znil (S : List Value) (A : Prop) : Prop := match S with
  | [] => A
  | _ => False
noncomputable def zmc (tab : List zM) (a : Nat) : Nat := match zix tab a with
  | some M => M.2.2.2.2.1
  | none => 99
/-- a method uses just its room, the law at most its room -/
noncomputable def zfin (E : zX) (k n mc ms : Nat) : Prop := match E with
  | none => k = mc ∧ n ≤ ms
  | some _ => k ≤ mc ∧ n ≤ ms
/-- the call: at most so many new cells and slots, the operands below it, then on -/
noncomputable def zcall (C : zCT) (a : Nat) (As : List Value) (S : List Value) (w : zW) (k n mc ms np : Nat) (L : zL) (K : zS → Prop) : Prop :=
  ∃ mc' ms' : Nat, (k + mc' ≤ mc ∧ n + ms' ≤ ms) ∧ C a As w mc' ms' (fun r w' => K (np, L, r.toList ++ S, w', k + mc', n + ms'))
noncomputable def zins (C : zCT) (d : Nat) (M : zM) (E : zX) (tab : List zM) (mc ms : Nat) (Q : zQ) (pc : Nat) (L : zL) (S : List Value) (w : zW) (k n : Nat) (i : Instr) (np a b : Nat) (K : zS → Prop) : Prop := match i with
  | .iconst v => K (np, L, .int (Int32.ofInt v) :: S, w, k, n)
  | .bipush v => K (np, L, .int (Int8.ofInt v).toInt32 :: S, w, k, n)
  | .sipush v => K (np, L, .int (Int16.ofInt v).toInt32 :: S, w, k, n)
  | .ldc _ => zor (Nat.beq b 1) (K (np, L, .retAddr (a + 1) :: S, w, k, n)) (K (np, L, .int (Int32.ofNat a) :: S, w, k, n))
  | .ldc2_w _ => K (np, L, .long (Int64.ofNat a) :: S, w, k, n)
  | .lconst v => K (np, L, .long (Int64.ofNat v.val) :: S, w, k, n)
  | .aconst_null => K (np, L, .null :: S, w, k, n)
  | .iload_n j => zli L j.val fun x => K (np, L, .int x :: S, w, k, n)
  | .iload j => zli L j fun x => K (np, L, .int x :: S, w, k, n)
  | .lload_n j => zll L j.val fun x => K (np, L, .long x :: S, w, k, n)
  | .lload j => zll L j fun x => K (np, L, .long x :: S, w, k, n)
  | .aload_n j => zla L j.val fun v => K (np, L, v :: S, w, k, n)
  | .aload j => zla L j fun v => K (np, L, v :: S, w, k, n)
  | .istore_n j => z1i S fun x t => zif (zfree L j.val) (K (np, zput L j.val (some (.int x)), t, w, k, n))
  | .istore j => z1i S fun x t => zif (zfree L j) (K (np, zput L j (some (.int x)), t, w, k, n))
  | .lstore_n j => z1l S fun x t => zif (zfree L j.val) (K (np, zput (zput L (j.val + 1) none) j.val (some (.long x)), t, w, k, n))
  | .lstore j => z1l S fun x t => zif (zfree L j) (K (np, zput (zput L (j + 1) none) j (some (.long x)), t, w, k, n))
  | .astore_n j => zasv S fun v t => zif (zfree L j.val) (K (np, zput L j.val (some v), t, w, k, n))
  | .astore j => zasv S fun v t => zif (zfree L j) (K (np, zput L j (some v), t, w, k, n))
  | .iinc j v => zli L j fun x => zif (zfree L j) (K (np, zput L j (some (.int (x + Int32.ofInt v))), S, w, k, n))
  | .iadd => z2i S fun x y t => K (np, L, .int (x + y) :: t, w, k, n)
  | .isub => z2i S fun x y t => K (np, L, .int (x - y) :: t, w, k, n)
  | .imul => z2i S fun x y t => K (np, L, .int (x * y) :: t, w, k, n)
  | .iand => z2i S fun x y t => K (np, L, .int (x &&& y) :: t, w, k, n)
  | .ior => z2i S fun x y t => K (np, L, .int (x ||| y) :: t, w, k, n)
  | .ixor => z2i S fun x y t => K (np, L, .int (x ^^^ y) :: t, w, k, n)
  | .idiv => z2i S fun x y t => ¬ y = 0 ∧ K (np, L, .int (x / y) :: t, w, k, n)
  | .irem => z2i S fun x y t => ¬ y = 0 ∧ K (np, L, .int (x - x / y * y) :: t, w, k, n)
  | .ishl => z2i S fun x y t => K (np, L, .int (x <<< (y &&& 31)) :: t, w, k, n)
  | .ishr => z2i S fun x y t => K (np, L, .int (x >>> (y &&& 31)) :: t, w, k, n)
  | .iushr => z2i S fun x y t => K (np, L, .int (x.toUInt32 >>> (y.toUInt32 &&& Int32.toUInt32 31)).toInt32 :: t, w, k, n)
  | .i2b => z1i S fun x t => K (np, L, .int x.toInt8.toInt32 :: t, w, k, n)
  | .i2c => z1i S fun x t => K (np, L, .int (x.toUInt32 % 65536).toInt32 :: t, w, k, n)
  | .i2l => z1i S fun x t => K (np, L, .long x.toInt64 :: t, w, k, n)
  | .ladd => z2l S fun x y t => K (np, L, .long (x + y) :: t, w, k, n)
  | .lsub => z2l S fun x y t => K (np, L, .long (x - y) :: t, w, k, n)
  | .lmul => z2l S fun x y t => K (np, L, .long (x * y) :: t, w, k, n)
  | .lor => z2l S fun x y t => K (np, L, .long (x ||| y) :: t, w, k, n)
  | .ldiv => z2l S fun x y t => ¬ y = 0 ∧ K (np, L, .long (x / y) :: t, w, k, n)
  | .lrem => z2l S fun x y t => ¬ y = 0 ∧ K (np, L, .long (x - x / y * y) :: t, w, k, n)
  | .lshl => zil S fun x y t => K (np, L, .long (x <<< (y.toInt64 &&& 63)) :: t, w, k, n)
  | .ldc_w _ => K (np, L, .int (Int32.ofNat a) :: S, w, k, n)
  | .if_acmp c _ => z2r S fun x y t => zbra c x y (K (a, L, t, w, k, n)) (K (np, L, t, w, k, n))
  | .lcmp => z2l S fun x y t => K (np, L, .int (lg_cmp x y) :: t, w, k, n)
  | .dup => z1v S fun v t => zif (Nat.beq v.category 1) (K (np, L, v :: v :: t, w, k, n))
  | .pop => z1v S fun v t => zif (Nat.beq v.category 1) (K (np, L, t, w, k, n))
  | .pop2 => z1v S fun v t => zif (Nat.beq v.category 2) (K (np, L, t, w, k, n))
  | .dup2 => zvr2 S fun v u t => zif (Nat.beq v.category 1) (zif (Nat.beq u.category 1) (K (np, L, v :: u :: v :: u :: t, w, k, n)))
  | .if_icmp c _ => z2i S fun x y t => zbr c x y (K (a, L, t, w, k, n)) (K (np, L, t, w, k, n))
  | .ifCond c _ => z1i S fun x t => zbr0 c x (K (a, L, t, w, k, n)) (K (np, L, t, w, k, n))
  | .goto _ => K (a, L, S, w, k, n)
  | .ifnull _ => zrn S (fun t => K (np, L, t, w, k, n)) (fun t => K (a, L, t, w, k, n))
  | .ifnonnull _ => zrn S (fun t => K (a, L, t, w, k, n)) (fun t => K (np, L, t, w, k, n))
  | .tableswitch df lo hi offs => z1i S fun x t => (x.toInt < lo ∨ hi < x.toInt → K (((pc : Int) + df).toNat, L, t, w, k, n)) ∧ (¬ (x.toInt < lo ∨ hi < x.toInt) → ∃ off, offs[(x.toInt - lo).toNat]? = some off ∧ K (((pc : Int) + off).toNat, L, t, w, k, n))
  | .lookupswitch df ps => z1i S fun x t => K (((pc : Int) + Op.lookupswitch.offset ps.toList df x.toInt).toNat, L, t, w, k, n)
  | .getstatic _ => zor (Nat.beq a 0) (K (np, L, .int 1 :: S, w, k, n)) (K (np, L, .retAddr 99 :: S, w, k, n))
  | .getfield _ => zgf S (fun q t => zob w q a fun fs => zfld fs b fun v => K (np, L, v :: t, w, k, n)) (fun j t => zif (zstr j && Nat.beq a 50) (zor (Nat.beq b 0) (K (np, L, .retAddr (j + 100) :: t, w, k, n)) (K (np, L, .int 0 :: t, w, k, n))))
  | .putfield _ => zvr S fun v q t => zob w q a fun fs => zif (zfit (ztyf a b) v) (zif (Nat.blt b fs.length) (K (np, L, t, zst w q (.inr (a, zst fs b v)), k, n)))
  | .new _ => zif (Nat.ble (k + 1) mc) (zif (Nat.ble (n + zcN a) ms) (K (np, L, .ref w.length :: S, w ++ [.inr (a, zdf a)], k + 1, n + zcN a)))
  | .newarray _ => z1i S fun x t => zif (decide (x = Int32.ofNat b)) (zif (Nat.ble (k + 1) mc) (zif (Nat.ble (n + b) ms) (K (np, L, .ref w.length :: t, w ++ [.inl (a, zda a b)], k + 1, n + b))))
  | .anewarray _ => z1i S fun x t => zif (decide (x = Int32.ofNat b)) (zif (Nat.ble (k + 1) mc) (zif (Nat.ble (n + b) ms) (K (np, L, .ref w.length :: t, w ++ [.inl (a, zda a b)], k + 1, n + b))))
  | .iaload => zia S (fun i q t => zai w q fun ti len g => zif (Nat.beq ti 1) (vp_in i len ∧ K (np, L, .int (g i.toNatClampNeg) :: t, w, k, n))) (fun i j t => zif (Nat.beq j 0) (zext E fun len g => vp_in i len ∧ K (np, L, .int (g i.toNatClampNeg) :: t, w, k, n)))
  | .baload => zia S (fun i q t => zai w q fun ti len g => zif (Nat.beq ti 0 || Nat.beq ti 2) (vp_in i len ∧ K (np, L, .int (g i.toNatClampNeg) :: t, w, k, n))) (fun i j t => zif (zsby j) (vp_in i (zslens.getD (j - 101) 0) ∧ K (np, L, .int ((zsbyts.getD (j - 101) []).getD i.toNatClampNeg 0) :: t, w, k, n)))
  | .aaload => zia S (fun i q t => zaq w q fun ti len g => zif (Nat.ble 3 ti && Nat.ble ti 8) (vp_in i len ∧ K (np, L, va_rf (g i.toNatClampNeg) :: t, w, k, n))) (fun _ _ _ => False)
  | .iastore => zvia S fun v i q t => z1i [v] fun x _ => zai w q fun ti len g => zif (Nat.beq ti 1) (vp_in i len ∧ K (np, L, t, zst w q (.inl (ti, len, .inl (upd g i.toNatClampNeg x))), k, n))
  | .bastore => zvia S fun v i q t => z1i [v] fun x _ => zai w q fun ti len g => zor (Nat.beq ti 0) (vp_in i len ∧ K (np, L, t, zst w q (.inl (ti, len, .inl (upd g i.toNatClampNeg (vp_nar .byte x)))), k, n)) (zif (Nat.beq ti 2) (vp_in i len ∧ K (np, L, t, zst w q (.inl (ti, len, .inl (upd g i.toNatClampNeg (vp_nar .boolean x)))), k, n)))
  | .aastore => zvia S fun v i q t => zaq w q fun ti len g => zif (Nat.ble 3 ti && Nat.ble ti 8) (zrn2 v (fun q2 => zob w q2 (zec ti) fun _ => vp_in i len ∧ K (np, L, t, zst w q (.inl (ti, len, .inr (.inr (.inr (.inr (va_up g i.toNatClampNeg (some q2))))))), k, n)) (vp_in i len ∧ K (np, L, t, zst w q (.inl (ti, len, .inr (.inr (.inr (.inr (va_up g i.toNatClampNeg none)))))), k, n)))
  | .arraylength => zlen1 S (fun j t => zor (Nat.beq j 0) (zext E fun len _ => K (np, L, .int (Int32.ofNat len) :: t, w, k, n)) (zif (zsby j) (K (np, L, .int (Int32.ofNat (zslens.getD (j - 101) 0)) :: t, w, k, n)))) (fun q t => zai w q fun ti len _ => zif (Nat.ble ti 2) (K (np, L, .int (Int32.ofNat len) :: t, w, k, n)))
  | .invokestatic _ => zor (Nat.beq b 100) (z2i S fun x y t => zif (Nat.ble 1 d && zrm t && (Nat.ble k mc && Nat.ble n ms)) (K (np, L, .int (if x < y then y else x) :: t, w, k, n)))
      (zor (Nat.beq b 101) (z2i S fun x y t => zif (Nat.ble 1 d && zrm t && (Nat.ble k mc && Nat.ble n ms)) (K (np, L, .int (if y < x then y else x) :: t, w, k, n)))
      (zor (Nat.beq b 102) (zcpy S fun q0 sp q1 dp m t => zif (Nat.ble 1 d && zrm t) (zai w q0 fun t0 n0 f => zai w q1 fun t1 n1 g => zif (Nat.beq t0 t1 && Nat.ble t0 1) (((¬ sp < 0 ∧ ¬ dp < 0 ∧ ¬ m < 0) ∧ (sp.toNatClampNeg + m.toNatClampNeg ≤ n0 ∧ dp.toNatClampNeg + m.toNatClampNeg ≤ n1) ∧ ∀ j, j < m.toNatClampNeg → fits (zaty t0) (.int (f (sp.toNatClampNeg + j))) = true) ∧ K (np, L, t, zst w q1 (.inl (t1, n1, .inl (va_cpy f g sp.toNatClampNeg dp.toNatClampNeg m.toNatClampNeg))), k, n))))
      (zif (Nat.ble b S.length && zrm (S.drop b)) (zcall C a (S.take b).reverse (S.drop b) w k n mc ms np L K))))
  | .invokevirtual _ => zor (Nat.ble 10 b)
      (zif (Nat.ble (b - 10) S.length) (z1r (S.drop (b - 10)) fun q t => zvt w q a fun _ a' => zif (zrm t) (zcall C a' (.ref q :: (S.take (b - 10)).reverse) t w k n mc ms np L K)))
      (zif (Nat.ble b S.length) (zgf (S.drop b) (fun q t => zob w q (zmc tab a) fun _ => zif (zrm t) (zcall C a (.ref q :: (S.take b).reverse) t w k n mc ms np L K)) (fun j t => zif (zstr j && Nat.beq (zmc tab a) 50) (zif (zrm t) (zcall C a (.retAddr j :: (S.take b).reverse) t w k n mc ms np L K)))))
  | .invokespecial _ => zor (Nat.beq b 99) (z1r S fun _ t => zif (Nat.ble 1 d && zrm t) (K (np, L, t, w, k, n)))
      (zif (Nat.ble b S.length) (z1r (S.drop b) fun q t => zif (zrm t) (zcall C a (.ref q :: (S.take b).reverse) t w k n mc ms np L K)))
  | .ireturn => zin1 S fun v => z1i [v] fun _ _ => zfin E k n mc ms ∧ zret M.2.2.2.1 v ∧ Q (some v) w
  | .lreturn => zin1 S fun v => z1l [v] fun _ _ => zfin E k n mc ms ∧ zret M.2.2.2.1 v ∧ Q (some v) w
  | .areturn => zin1 S fun v => zrn2 v (fun _ => zfin E k n mc ms ∧ zret M.2.2.2.1 v ∧ Q (some v) w) (zfin E k n mc ms ∧ zret M.2.2.2.1 v ∧ Q (some v) w)
  | .return_ => znil S (zfin E k n mc ms ∧ M.2.2.2.1 = none ∧ Q none w)
  | _ => False
/-- one step, its state by its parts -/
noncomputable def zsc (C : zCT) (d : Nat) (M : zM) (E : zX) (tab : List zM) (mc ms : Nat) (Q : zQ) (pc : Nat) (L : zL) (S : List Value) (w : zW) (k n : Nat) (K : zS → Prop) : Prop :=
  match zat M.2.2.2.2.2 pc with
  | none => False
  | some e => zins C d M E tab mc ms Q pc L S w k n e.1 e.2.1 e.2.2.1 e.2.2.2 K
noncomputable def zstep (C : zCT) (d : Nat) (M : zM) (E : zX) (tab : List zM) (mc ms : Nat) (Q : zQ) (x : zS) (K : zS → Prop) : Prop :=
  zsc C d M E tab mc ms Q x.1 x.2.1 x.2.2.1 x.2.2.2.1 x.2.2.2.2.1 x.2.2.2.2.2 K
noncomputable def zwp (C : zCT) (d : Nat) (M : zM) (E : zX) (tab : List zM) (mc ms : Nat) (Q : zQ) (x : zS) : Prop :=
  ∀ R : zS → Prop, (∀ y, (∃ P : zS → Prop, (∀ u, P u → R u) ∧ zstep C d M E tab mc ms Q y P) → R y) → R x
/-- the locals at the entry -/
noncomputable def zent : Nat → List Value → zL
  | 0, _ => []
  | n + 1, [] => none :: zent n []
  | n + 1, v :: t => match zc2 (some v) with
    | false => some v :: zent n t
    | true => match n with
      | 0 => [some v]
      | j + 1 => some v :: none :: zent j t
noncomputable def zCl (tab : List zM) : Nat → zCT
  | 0 => fun _ _ _ _ _ _ => False
  | d + 1 => fun a As w mc ms Q => match zix tab a with
    | none => False
    | some M => (lg_sl As).length ≤ M.2.2.1 ∧ zwp (zCl tab d) d M none tab mc ms Q (0, zent M.2.2.1 As, [], w, 0, 0)
theorem zR {C : zCT} {d : Nat} {M : zM} {E : zX} {tab : List zM} {mc ms : Nat} {Q : zQ} {R : zS → Prop} (h : ∀ y, (∃ P : zS → Prop, (∀ u, P u → R u) ∧ zstep C d M E tab mc ms Q y P) → R y) : ∀ y, zstep C d M E tab mc ms Q y R → R y :=
  fun y hy => h y ⟨R, fun _ q => q, hy⟩
/-! WHAT THE PURE MACHINE'S ROWS ASK OF THE TABLES, and how its worlds stand in a heap. -/
noncomputable def zNF : List (String × Nat × String × String × String) := [("ReadAloud", 326, "ReadAloud$Told", "tape", "[B"), ("ReadAloud", 54, "ReadAloud$Told", "length", "I"), ("ReadAloud", 62, "ReadAloud$Told", "fault", "I"), ("ReadAloud", 65, "ReadAloud$Told", "place", "I"), ("ReadAloud", 68, "ReadAloud$Told", "counts", "[I"), ("ReadAloud", 334, "ReadAloud$Told", "books", "[LReadAloud$Book;"), ("ReadAloud", 339, "ReadAloud$Told", "years", "[LReadAloud$Year;"), ("ReadAloud", 344, "ReadAloud$Told", "sights", "[LReadAloud$Sight;"), ("ReadAloud$Year", 55, "ReadAloud$Teller", "value", "I"), ("ReadAloud$Sight", 38, "ReadAloud$Teller", "value", "I"), ("ReadAloud$Book", 71, "ReadAloud$Teller", "value", "I"), ("ReadAloud", 76, "ReadAloud$Teller", "fault", "I"), ("ReadAloud", 77, "ReadAloud$Teller", "place", "I"), ("ReadAloud$Course", 35, "ReadAloud$Book", "number", "I"), ("ReadAloud$Levels", 70, "ReadAloud$Book", "number", "I"), ("ReadAloud$Walk", 44, "ReadAloud$Book", "readers", "I"), ("ReadAloud$Readings", 32, "ReadAloud$Book", "readers", "I"), ("ReadAloud$Levels", 87, "ReadAloud$Book", "readers", "I"), ("ReadAloud$Course", 86, "ReadAloud$Book", "readers", "I"), ("ReadAloud$Rings", 99, "ReadAloud$Book", "readers", "I"), ("ReadAloud", 300, "ReadAloud$Book", "readers", "I"), ("ReadAloud$Course", 46, "ReadAloud$Year", "deeds", "I"), ("ReadAloud", 125, "ReadAloud$Year", "deeds", "I"), ("ReadAloud$Course", 51, "ReadAloud$Year", "kinds", "[I"), ("ReadAloud$Course", 54, "ReadAloud$Year", "ones", "[I"), ("ReadAloud$Course", 57, "ReadAloud$Year", "others", "[I"), ("ReadAloud$Levels", 53, "ReadAloud$Sight", "facts", "I"), ("ReadAloud$Levels", 58, "ReadAloud$Sight", "behind", "[I"), ("ReadAloud$Levels", 61, "ReadAloud$Sight", "numbers", "[I"), ("ReadAloud$Walk", 38, "ReadAloud$Readings", "book", "LReadAloud$Book;"), ("ReadAloud$Levels", 64, "ReadAloud$Readings", "book", "LReadAloud$Book;"), ("ReadAloud$Rings", 95, "ReadAloud$Readings", "book", "LReadAloud$Book;"), ("ReadAloud", 165, "ReadAloud$Readings", "book", "LReadAloud$Book;"), ("ReadAloud", 162, "ReadAloud$Walk", "size", "I"), ("ReadAloud", 149, "ReadAloud$Walk", "needed", "[I"), ("ReadAloud", 188, "ReadAloud$Rings", "answers", "[I"), ("ReadAloud", 312, "ReadAloud$Rings", "circles", "I"), ("ReadAloud", 315, "ReadAloud$Rings", "largest", "I"), ("ReadAloud", 318, "ReadAloud$Rings", "sizeOf", "[I")]
noncomputable def zNM : List (String × Nat × MethodName) := [("ReadAloud", 9, ⟨"ReadAloud$Told", "<init>", "()V"⟩), ("ReadAloud", 22, ⟨"ReadAloud$Teller", "<init>", "()V"⟩), ("ReadAloud", 29, ⟨"ReadAloud$Course", "<init>", "()V"⟩), ("ReadAloud", 58, ⟨"ReadAloud$Told", "putBytes", "(I)V"⟩), ("ReadAloud", 325, ⟨"ReadAloud$Book", "<init>", "()V"⟩), ("ReadAloud$Book", 3, ⟨"ReadAloud$Lines", "<init>", "()V"⟩), ("ReadAloud", 330, ⟨"ReadAloud$Teller", "tell", "([BILReadAloud$Lines;)Z"⟩), ("ReadAloud$Book", 36, ⟨"ReadAloud$Teller", "isAtHand", "(Ljava/lang/String;)Z"⟩), ("ReadAloud$Sight", 24, ⟨"ReadAloud$Teller", "isAtHand", "(Ljava/lang/String;)Z"⟩), ("ReadAloud$Year", 27, ⟨"ReadAloud$Teller", "isAtHand", "(Ljava/lang/String;)Z"⟩), ("ReadAloud$Book", 59, ⟨"ReadAloud$Teller", "faultHere", "(I)V"⟩), ("ReadAloud$Sight", 30, ⟨"ReadAloud$Teller", "faultHere", "(I)V"⟩), ("ReadAloud$Year", 47, ⟨"ReadAloud$Teller", "faultHere", "(I)V"⟩), ("ReadAloud$Book", 67, ⟨"ReadAloud$Teller", "isWithin", "(II)Z"⟩), ("ReadAloud$Book", 78, ⟨"ReadAloud", "longer", "(II)I"⟩), ("ReadAloud$Book", 82, ⟨"ReadAloud", "isWord", "(I)Z"⟩), ("ReadAloud$Sight", 34, ⟨"ReadAloud$Teller", "isWithin", "(II)Z"⟩), ("ReadAloud$Sight", 41, ⟨"ReadAloud", "longer", "(II)I"⟩), ("ReadAloud$Year", 51, ⟨"ReadAloud$Teller", "isWithin", "(II)Z"⟩), ("ReadAloud", 338, ⟨"ReadAloud$Year", "<init>", "()V"⟩), ("ReadAloud$Year", 3, ⟨"ReadAloud$Lines", "<init>", "()V"⟩), ("ReadAloud", 343, ⟨"ReadAloud$Sight", "<init>", "()V"⟩), ("ReadAloud$Sight", 3, ⟨"ReadAloud$Lines", "<init>", "()V"⟩), ("ReadAloud", 88, ⟨"ReadAloud$Book", "tells", "(I)I"⟩), ("ReadAloud", 107, ⟨"ReadAloud$Book", "hasReader", "(I)Z"⟩), ("ReadAloud", 110, ⟨"ReadAloud$Book", "readBy", "(II)I"⟩), ("ReadAloud$Book", 92, ⟨"ReadAloud", "bitsOf", "(I)I"⟩), ("ReadAloud$Book", 102, ⟨"ReadAloud", "lengthOfBits", "(I)I"⟩), ("ReadAloud$Book", 99, ⟨"ReadAloud", "numberOfBits", "(I)I"⟩), ("ReadAloud", 117, ⟨"ReadAloud$Year", "tells", "(II)I"⟩), ("ReadAloud", 121, ⟨"ReadAloud$Course", "begin", "(LReadAloud$Book;)V"⟩), ("ReadAloud", 128, ⟨"ReadAloud$Course", "doFirst", "(LReadAloud$Year;I)I"⟩), ("ReadAloud$Course", 74, ⟨"ReadAloud$Book", "hasReader", "(I)Z"⟩), ("ReadAloud$Course", 71, ⟨"ReadAloud", "isIn", "(II)Z"⟩), ("ReadAloud$Course", 78, ⟨"ReadAloud$Book", "readBy", "(II)I"⟩), ("ReadAloud", 132, ⟨"ReadAloud$Course", "tells", "(I)I"⟩), ("ReadAloud$Course", 100, ⟨"ReadAloud", "driftOf", "(II)I"⟩), ("ReadAloud", 348, ⟨"ReadAloud$Readings", "<init>", "()V"⟩), ("ReadAloud", 349, ⟨"ReadAloud$Readings", "takeUp", "(LReadAloud$Book;)V"⟩), ("ReadAloud", 352, ⟨"ReadAloud$Walk", "<init>", "()V"⟩), ("ReadAloud", 141, ⟨"ReadAloud$Readings", "all", "()I"⟩), ("ReadAloud", 145, ⟨"ReadAloud$Walk", "go", "(LReadAloud$Readings;III)V"⟩), ("ReadAloud$Walk", 49, ⟨"ReadAloud", "isIn", "(II)Z"⟩), ("ReadAloud$Walk", 53, ⟨"ReadAloud$Readings", "after", "(II)I"⟩), ("ReadAloud$Readings", 38, ⟨"ReadAloud$Book", "readBy", "(II)I"⟩), ("ReadAloud", 152, ⟨"ReadAloud$Walk", "readerOnWay", "(II)I"⟩), ("ReadAloud", 155, ⟨"ReadAloud$Walk", "wayBack", "(LReadAloud$Readings;I)I"⟩), ("ReadAloud", 159, ⟨"ReadAloud$Walk", "farthest", "()I"⟩), ("ReadAloud", 169, ⟨"ReadAloud$Book", "hasReaders", "(I)Z"⟩), ("ReadAloud", 172, ⟨"ReadAloud$Readings", "unchangedBy", "(I)I"⟩), ("ReadAloud$Readings", 42, ⟨"ReadAloud", "isIn", "(II)Z"⟩), ("ReadAloud", 175, ⟨"ReadAloud$Readings", "alikeEitherWay", "(II)I"⟩), ("ReadAloud", 354, ⟨"ReadAloud$Rings", "<init>", "()V"⟩), ("ReadAloud", 184, ⟨"ReadAloud$Rings", "findOrbits", "(LReadAloud$Readings;I)V"⟩), ("ReadAloud$Rings", 64, ⟨"ReadAloud$Readings", "after", "(II)I"⟩), ("ReadAloud", 353, ⟨"ReadAloud$Levels", "<init>", "()V"⟩), ("ReadAloud", 198, ⟨"ReadAloud$Levels", "wantNothing", "()V"⟩), ("ReadAloud", 203, ⟨"ReadAloud$Levels", "spread", "(LReadAloud$Readings;III)V"⟩), ("ReadAloud$Levels", 93, ⟨"ReadAloud", "isIn", "(II)Z"⟩), ("ReadAloud$Levels", 96, ⟨"ReadAloud$Readings", "after", "(II)I"⟩), ("ReadAloud", 206, ⟨"ReadAloud$Levels", "endByDrift", "()V"⟩), ("ReadAloud$Levels", 100, ⟨"ReadAloud", "driftOf", "(II)I"⟩), ("ReadAloud", 209, ⟨"ReadAloud$Levels", "bestEnd", "(Z)I"⟩), ("ReadAloud", 213, ⟨"ReadAloud$Levels", "foldBack", "(II)V"⟩), ("ReadAloud", 217, ⟨"ReadAloud$Levels", "chosenAt", "(I)I"⟩), ("ReadAloud", 222, ⟨"ReadAloud$Levels", "sumOfEnds", "()J"⟩), ("ReadAloud", 226, ⟨"ReadAloud$Levels", "rows", "()I"⟩), ("ReadAloud", 233, ⟨"ReadAloud$Readings", "goBack", "(II)V"⟩), ("ReadAloud", 236, ⟨"ReadAloud$Readings", "leastMarked", "()I"⟩), ("ReadAloud", 239, ⟨"ReadAloud$Readings", "marked", "()I"⟩), ("ReadAloud", 245, ⟨"ReadAloud$Levels", "endByWord", "(I)V"⟩), ("ReadAloud$Levels", 103, ⟨"ReadAloud", "timesOf", "(II)I"⟩), ("ReadAloud", 248, ⟨"ReadAloud$Levels", "bestStart", "()I"⟩), ("ReadAloud", 255, ⟨"ReadAloud$Sight", "tells", "(II)I"⟩), ("ReadAloud", 258, ⟨"ReadAloud$Levels", "want", "(LReadAloud$Sight;)V"⟩), ("ReadAloud", 262, ⟨"ReadAloud$Levels", "rowsTo", "(I)I"⟩), ("ReadAloud", 265, ⟨"ReadAloud$Levels", "endByOne", "()V"⟩), ("ReadAloud", 268, ⟨"ReadAloud$Levels", "look", "()I"⟩), ("ReadAloud", 271, ⟨"ReadAloud$Levels", "onlyReaderAt", "(I)I"⟩), ("ReadAloud", 274, ⟨"ReadAloud$Course", "draw", "(II)V"⟩), ("ReadAloud", 277, ⟨"ReadAloud$Book", "kinRing", "(I)I"⟩), ("ReadAloud", 280, ⟨"ReadAloud$Book", "kinUntilRing", "(I)I"⟩), ("ReadAloud", 286, ⟨"ReadAloud$Walk", "meeting", "(LReadAloud$Walk;)I"⟩), ("ReadAloud", 290, ⟨"ReadAloud$Walk", "nearestTo", "(I)I"⟩), ("ReadAloud$Walk", 57, ⟨"ReadAloud", "driftOf", "(II)I"⟩), ("ReadAloud", 293, ⟨"ReadAloud$Walk", "firstSettled", "(LReadAloud$Readings;)I"⟩), ("ReadAloud$Walk", 60, ⟨"ReadAloud$Readings", "all", "()I"⟩), ("ReadAloud$Walk", 64, ⟨"ReadAloud$Readings", "isChanged", "(II)Z"⟩), ("ReadAloud", 297, ⟨"ReadAloud$Readings", "markUnmade", "()V"⟩), ("ReadAloud", 308, ⟨"ReadAloud$Rings", "findCircles", "(LReadAloud$Readings;)V"⟩), ("ReadAloud", 321, ⟨"ReadAloud$Told", "becomes", "(LReadAloud$Told;)V"⟩)]
noncomputable def zAO : List String := ["ReadAloud$Book", "ReadAloud$Year", "ReadAloud$Sight", "ReadAloud$Told", "ReadAloud$Readings", "ReadAloud$Walk"]
noncomputable def zDL : List MethodName := [⟨"ReadAloud$Lines", "lineOf", "(LReadAloud$Teller;)I"⟩, ⟨"ReadAloud$Lines", "beginLine", "(ILReadAloud$Teller;)V"⟩, ⟨"ReadAloud$Lines", "mostNumbers", "(I)I"⟩, ⟨"ReadAloud$Lines", "takeNumber", "(IILReadAloud$Teller;)V"⟩, ⟨"ReadAloud$Lines", "fewestNumbers", "(I)I"⟩]
noncomputable def zSR : List (String × Nat × String × Nat) := [("ReadAloud$Book", 34, "shift", 0), ("ReadAloud$Book", 42, "drop", 1), ("ReadAloud$Book", 44, "double", 2), ("ReadAloud$Book", 46, "swap", 3), ("ReadAloud$Book", 48, "turn", 4), ("ReadAloud$Book", 50, "text", 5), ("ReadAloud$Book", 52, "kin", 6), ("ReadAloud$Book", 53, "reader", 7), ("ReadAloud$Sight", 22, "seen", 8), ("ReadAloud$Year", 25, "read", 9), ("ReadAloud$Year", 33, "copy", 10), ("ReadAloud$Year", 35, "seal", 11), ("ReadAloud$Year", 37, "restore", 12), ("ReadAloud$Year", 39, "hush", 13), ("ReadAloud$Year", 41, "day", 14)]
/-- the words of private members of nest mates, and of arrays of objects: they hold along the run -/
noncomputable def zN (U : State) : Prop := (∀ t ∈ zNF, va_Nw (.fieldLinkNest t.1 t.2.1 t.2.2.1 t.2.2.2.1 t.2.2.2.2 "ReadAloud") U) ∧ (∀ t ∈ zNM, va_Nw (.methodLinkNest t.1 t.2.1 t.2.2 "ReadAloud") U) ∧ (∀ C ∈ zAO, va_AO C U) ∧ ∀ x ∈ zDL, va_Nw (.declares x) U
theorem zN.warm {s U : State} (hW : s.WarmedH U.vm) (h : zN s) : zN U :=
  ⟨fun t ht => (h.1 t ht).warmF hW, fun t ht => (h.2.1 t ht).warmM hW, fun C hC => (h.2.2.1 C hC).moved hW.alike, fun x hx => (h.2.2.2 x hx).warmD hW⟩
theorem zN.same {s U : State} (hv : s.vm = U.vm) (h : zN s) : zN U :=
  ⟨fun t ht => (h.1 t ht).same rfl hv, fun t ht => (h.2.1 t ht).same rfl hv, fun C hC => (h.2.2.1 C hC).moved (hv ▸ Vm.Alike.refl s.vm), fun x hx => (h.2.2.2 x hx).same rfl hv⟩
/-- what lies outside: the String constants, two statics of the JDK's -/
noncomputable def zXs (b : Nat) (sc : Nat → Option Nat) (U : State) (H : Heap) : Prop :=
  (∃ adK adV : Nat → Nat, vk_S 15 zslens zsbyts adK adV (fun q => b ≤ q) U H ∧ (∀ i, i < 15 → sc (i + 1) = some (adK i) ∧ sc (i + 101) = some (adV i)) ∧ ∀ t ∈ zSR, vk_R t.1 t.2.1 t.2.2.1 (adK t.2.2.2) U) ∧ va_Z "java/lang/String" "COMPACT_STRINGS" "Z" (.int 1) (fun q => b ≤ q) U H ∧ va_Z "jdk/internal/util/Preconditions" "SIOOBE_FORMATTER" "Ljava/util/function/BiFunction;" (va_rf (sc 99)) (fun q => b ≤ q) U H
theorem zXs.next {b : Nat} {sc : Nat → Option Nat} {s U : State} {H : Heap} {locs : List Loc} (h : zXs b sc s s.heap) (hS : va_S (fun q => b ≤ q) s.heap H locs) (hU : U.heap = H) (hW : s.WarmedH U.vm) : zXs b sc U U.heap := by
  obtain ⟨⟨adK, adV, h1, h2, h3⟩, h4, h5⟩ := h
  rw [hU]
  exact ⟨⟨adK, adV, (h1.kept hS.2.1).moved hW.alike, h2, fun t ht => (h3 t ht).warm hW⟩, (h4.kept hS.2.1).moved hW.alike, (h5.kept hS.2.1).moved hW.alike⟩
theorem zXs.same {b : Nat} {sc : Nat → Option Nat} {s U : State} (h : zXs b sc s s.heap) (hv : s.vm = U.vm) (hh : U.heap = s.heap) : zXs b sc U U.heap := by
  obtain ⟨⟨adK, adV, h1, h2, h3⟩, h4, h5⟩ := h
  have ha : s.vm.Alike U.vm := hv ▸ Vm.Alike.refl s.vm
  rw [hh]
  exact ⟨⟨adK, adV, h1.moved ha, h2, fun t ht => (h3 t ht).same hv.symm⟩, h4.moved ha, h5.moved ha⟩
noncomputable def zlen (i : Instr) : Nat := match i with
  | .bipush _ => 2
  | .ldc _ => 2
  | .iload _ => 2
  | .lload _ => 2
  | .aload _ => 2
  | .istore _ => 2
  | .lstore _ => 2
  | .astore _ => 2
  | .newarray _ => 2
  | .sipush _ => 3
  | .ldc2_w _ => 3
  | .getstatic _ => 3
  | .ldc_w _ => 3
  | .if_acmp _ _ => 3
  | .iinc _ _ => 3
  | .if_icmp _ _ => 3
  | .ifCond _ _ => 3
  | .goto _ => 3
  | .ifnull _ => 3
  | .ifnonnull _ => 3
  | .getfield _ => 3
  | .putfield _ => 3
  | .new _ => 3
  | .anewarray _ => 3
  | .invokestatic _ => 3
  | .invokevirtual _ => 3
  | .invokespecial _ => 3
  | .tableswitch _ _ _ _ => 0
  | .lookupswitch _ _ => 0
  | _ => 1
noncomputable def zoff (i : Instr) : Option Int := match i with
  | .if_icmp _ o => some o
  | .if_acmp _ o => some o
  | .ifCond _ o => some o
  | .goto o => some o
  | .ifnull o => some o
  | .ifnonnull o => some o
  | _ => none
noncomputable def zslot (n : Nat) (i : Instr) : Bool := match i with
  | .istore_n j => Nat.blt j.val n
  | .istore j => Nat.blt j n
  | .astore_n j => Nat.blt j.val n
  | .astore j => Nat.blt j n
  | .iinc j _ => Nat.blt j n
  | .lstore_n j => Nat.blt (j.val + 1) n
  | .lstore j => Nat.blt (j + 1) n
  | _ => true
noncomputable def zsw (pc : Nat) (i : Instr) : Bool := match i with
  | .tableswitch df _ _ offs => decide (0 ≤ (pc : Int) + df) && offs.toList.all fun o => decide (0 ≤ (pc : Int) + o)
  | .lookupswitch df ps => decide (0 ≤ (pc : Int) + df) && (ps.toList.all fun o => decide (0 ≤ (pc : Int) + o.2)) && (ps.toList.zip (ps.toList.drop 1)).all fun (a, next) => a.1 < next.1
  | _ => true
noncomputable def zmat (tab : List zM) (a : Nat) : zM := match zix tab a with
  | some M => M
  | none => (⟨"", "", ""⟩, ⟨#[]⟩, 0, none, 99, [])
noncomputable def zhas (tab : List zM) (a : Nat) : Bool := match zix tab a with
  | some _ => true
  | none => false
noncomputable def zjdk : List String := ["java/lang/Integer", "java/util/Arrays", "java/lang/String", "java/lang/StringLatin1", "jdk/internal/util/Preconditions"]
noncomputable def zpub (own : String) (y : MethodName) : Bool := decide (own = y.cls) || (decide (own = "ReadAloudLaw") || decide (y.cls ∈ zjdk))
noncomputable def zcode (M : zM) : Cond := .code M.1 M.2.1 M.2.2.1 M.2.2.2.1
noncomputable def zlw (own : String) (ix : Nat) (y : MethodName) : List Cond := match zpub own y with
  | true => [.methodLink own ix y]
  | false => []
/-- the abstract method that a method carries out -/
noncomputable def zabs (y : MethodName) : MethodName := ⟨"ReadAloud$Lines", y.name, y.desc⟩
noncomputable def zaq3 (tab : List zM) (own : String) (ix ci a : Nat) : List Cond := [.methodLink own ix (zabs (zmat tab a).1), .sameMethod "ReadAloud$Lines" "ReadAloud$Lines" (zmat tab a).1.name (zmat tab a).1.desc, .selects (zcn ci) (zabs (zmat tab a).1) (zmat tab a).1, .instanceMethod (zmat tab a).1, .initialized (zmat tab a).1.cls, zcode (zmat tab a)]
/-- the good words that a row asks for -/
noncomputable def zrq (tab : List zM) (own : String) (e : zE) : List Cond := match e.2.1 with
  | .ldc ix => match Nat.beq e.2.2.2.2 1 with
    | true => []
    | false => [.constant own ix (Int32.ofNat e.2.2.2.1)]
  | .getstatic ix => match Nat.beq e.2.2.2.1 0 with
    | true => [.fieldLink own ix "java/lang/String" "COMPACT_STRINGS" "Z"]
    | false => [.fieldLink own ix "jdk/internal/util/Preconditions" "SIOOBE_FORMATTER" "Ljava/util/function/BiFunction;"]
  | .ldc_w ix => [.constant own ix (Int32.ofNat e.2.2.2.1)]
  | .ldc2_w ix => [.constantLong own ix (Int64.ofNat e.2.2.2.1)]
  | .getfield ix => match Nat.beq e.2.2.2.1 50 with
    | true => match Nat.beq e.2.2.2.2 0 with
      | true => [.fieldLink own ix "java/lang/String" "value" "[B"]
      | false => [.fieldLink own ix "java/lang/String" "coder" "B"]
    | false => if own = (zcf e.2.2.2.1 e.2.2.2.2).1 then [.fieldLink own ix (zcf e.2.2.2.1 e.2.2.2.2).1 (zcf e.2.2.2.1 e.2.2.2.2).2.1 (zcf e.2.2.2.1 e.2.2.2.2).2.2.1] else []
  | .putfield ix => if own = (zcf e.2.2.2.1 e.2.2.2.2).1 then [.fieldLink own ix (zcf e.2.2.2.1 e.2.2.2.2).1 (zcf e.2.2.2.1 e.2.2.2.2).2.1 (zcf e.2.2.2.1 e.2.2.2.2).2.2.1] else []
  | .new ix => [.classLink own ix (zcn e.2.2.2.1), .instantiable (zcn e.2.2.2.1) (zcN e.2.2.2.1), .initialized (zcn e.2.2.2.1)]
  | .newarray t => [.arrayClass (newarray.typeOf t)]
  | .anewarray ix => [.classLink own ix (zcn (zec e.2.2.2.1))]
  | .invokestatic ix => match Nat.beq e.2.2.2.2 100 with
    | true => [.methodLink own ix Lib.Math.max.name, .static Lib.Math.max.name, .initialized "java/lang/Math", .code Lib.Math.max.name Lib.Math.max.code 2 (some .int)]
    | false => match Nat.beq e.2.2.2.2 101 with
      | true => [.methodLink own ix Lib.Math.min.name, .static Lib.Math.min.name, .initialized "java/lang/Math", .code Lib.Math.min.name Lib.Math.min.code 2 (some .int)]
      | false => match Nat.beq e.2.2.2.2 102 with
        | true => [.methodLink own ix arraycopyName, .native arraycopyName, .static arraycopyName, .initialized "java/lang/System"]
        | false => [zcode (zmat tab e.2.2.2.1), .static (zmat tab e.2.2.2.1).1, .initialized (zmat tab e.2.2.2.1).1.cls] ++ zlw own ix (zmat tab e.2.2.2.1).1
  | .invokevirtual ix => match Nat.ble 10 e.2.2.2.2 with
    | true => zaq3 tab own ix 0 (e.2.2.2.1 % 1000) ++ (zaq3 tab own ix 9 (e.2.2.2.1 / 1000 % 1000) ++ zaq3 tab own ix 5 (e.2.2.2.1 / 1000000))
    | false => [zcode (zmat tab e.2.2.2.1), .instanceMethod (zmat tab e.2.2.2.1).1, .selects (zmat tab e.2.2.2.1).1.cls (zmat tab e.2.2.2.1).1 (zmat tab e.2.2.2.1).1, .initialized (zmat tab e.2.2.2.1).1.cls] ++ zlw own ix (zmat tab e.2.2.2.1).1
  | .invokespecial ix => match Nat.beq e.2.2.2.2 99 with
    | true => [.methodLink own ix objectInit, .instanceMethod objectInit, .code objectInit ⟨#[0xb1]⟩ 1 none]
    | false => [zcode (zmat tab e.2.2.2.1), .instanceMethod (zmat tab e.2.2.2.1).1, .initialized (zmat tab e.2.2.2.1).1.cls] ++ zlw own ix (zmat tab e.2.2.2.1).1
  | _ => []
noncomputable def zcallok (tab : List zM) (own : String) (ix : Nat) (a b : Nat) : Bool := zhas tab a && decide ((zmat tab a).1.cls ≠ "java/lang/invoke/MethodHandle") && decide ((zmat tab a).1.cls ≠ "java/lang/invoke/VarHandle") && decide ((parseMethodDescriptor (zmat tab a).1.desc).map (fun d => d.parameters.length) = some b) && (zpub own (zmat tab a).1 || decide ((own, ix, (zmat tab a).1) ∈ zNM))
noncomputable def zabok (tab : List zM) (ci a n : Nat) : Bool := zhas tab a && (decide ((parseMethodDescriptor (zmat tab a).1.desc).map (fun d => d.parameters.length) = some n) && decide (zabs (zmat tab a).1 ∈ zDL))
noncomputable def zlk (tab : List zM) (M : zM) (e : zE) : Bool := match e.2.1 with
  | .ldc ix => Nat.beq e.2.2.2.2 0 || (Nat.beq e.2.2.2.2 1 && zSR.any fun t => decide (t.1 = M.1.cls) && (decide (t.2.1 = ix) && decide (t.2.2.2 = e.2.2.2.1)))
  | .getfield ix => (Nat.beq e.2.2.2.1 50 && Nat.ble e.2.2.2.2 1) || Nat.blt e.2.2.2.2 (zcN e.2.2.2.1) && (decide (M.1.cls = (zcf e.2.2.2.1 e.2.2.2.2).1) || decide ((M.1.cls, ix, (zcf e.2.2.2.1 e.2.2.2.2).1, (zcf e.2.2.2.1 e.2.2.2.2).2.1, (zcf e.2.2.2.1 e.2.2.2.2).2.2.1) ∈ zNF))
  | .putfield ix => Nat.blt e.2.2.2.2 (zcN e.2.2.2.1) && (decide (M.1.cls = (zcf e.2.2.2.1 e.2.2.2.2).1) || decide ((M.1.cls, ix, (zcf e.2.2.2.1 e.2.2.2.2).1, (zcf e.2.2.2.1 e.2.2.2.2).2.1, (zcf e.2.2.2.1 e.2.2.2.2).2.2.1) ∈ zNF)) && (decide ((zcf e.2.2.2.1 e.2.2.2.2).2.2.2 = false) || (decide (M.1.name = "<init>") && decide (M.1.cls = (zcf e.2.2.2.1 e.2.2.2.2).1)))
  | .new _ => Nat.ble e.2.2.2.1 11
  | .newarray t => Nat.ble e.2.2.2.1 2 && decide (zix zats e.2.2.2.1 = some (newarray.typeOf t)) && Nat.ble e.2.2.2.2 60000000
  | .anewarray _ => Nat.ble 3 e.2.2.2.1 && decide (zix zats e.2.2.2.1 = some (.object (zcn (zec e.2.2.2.1)))) && decide (zcn (zec e.2.2.2.1) ∈ zAO) && Nat.ble e.2.2.2.2 60000000
  | .invokestatic ix => Nat.beq e.2.2.2.2 100 || (Nat.beq e.2.2.2.2 101 || (Nat.beq e.2.2.2.2 102 || zcallok tab M.1.cls ix e.2.2.2.1 e.2.2.2.2))
  | .invokevirtual ix => match Nat.ble 10 e.2.2.2.2 with
    | true => zabok tab 0 (e.2.2.2.1 % 1000) (e.2.2.2.2 - 10) && (zabok tab 9 (e.2.2.2.1 / 1000 % 1000) (e.2.2.2.2 - 10) && zabok tab 5 (e.2.2.2.1 / 1000000) (e.2.2.2.2 - 10))
    | false => zcallok tab M.1.cls ix e.2.2.2.1 e.2.2.2.2 && ((Nat.beq (zmat tab e.2.2.2.1).2.2.2.2.1 50 && decide ((zmat tab e.2.2.2.1).1.cls = "java/lang/String")) || (decide (zcn (zmat tab e.2.2.2.1).2.2.2.2.1 = (zmat tab e.2.2.2.1).1.cls) && Nat.ble (zmat tab e.2.2.2.1).2.2.2.2.1 11))
  | .invokespecial ix => Nat.beq e.2.2.2.2 99 || (zcallok tab M.1.cls ix e.2.2.2.1 e.2.2.2.2 && decide ((zmat tab e.2.2.2.1).1.name = "<init>") && decide ((zmat tab e.2.2.2.1).2.2.2.1 = none))
  | _ => true
/-- a row is what the bytes say -/
noncomputable def zde (M : zM) (e : zE) : Bool := decide (decode M.2.1 e.1 = .ok (e.2.1, e.2.2.1 - e.1)) && (Nat.beq (zlen e.2.1) 0 || Nat.beq e.2.2.1 (e.1 + zlen e.2.1))
noncomputable def zrow (tab : List zM) (M : zM) (e : zE) : Bool := (match zoff e.2.1 with
    | some o => decide ((e.1 : Int) + o = (e.2.2.2.1 : Int))
    | none => true) && zslot M.2.2.1 e.2.1 && zsw e.1 e.2.1 && zlk tab M e
noncomputable def zokM (tab : List zM) (M : zM) : Prop := M.2.2.2.2.2.all (zde M) = true ∧ M.2.2.2.2.2.all (zrow tab M) = true ∧ (Nat.ble M.2.2.1 16 && plainName M.1.cls) = true
noncomputable def zuw : List Cond := zcls.flatMap fun q => u_ws q.1 q.2.1 q.2.2
noncomputable def zt (tab : List zM) : List Cond := zuw ++ tab.flatMap fun M => M.2.2.2.2.2.flatMap (zrq tab M.1.cls)
noncomputable def zws (tab : List zM) (M : zM) : List Cond := zcode M :: zt tab
theorem zt_uw {tab : List zM} {w : Cond} (h : w ∈ zuw) : w ∈ zt tab := List.mem_append_left _ h
theorem zt_rq {tab : List zM} {M : zM} {e : zE} (hM : M ∈ tab) (he : e ∈ M.2.2.2.2.2) {w : Cond} (h : w ∈ zrq tab M.1.cls e) : w ∈ zt tab :=
  List.mem_append_right _ (List.mem_flatMap.mpr ⟨M, hM, List.mem_flatMap.mpr ⟨e, he, h⟩⟩)
theorem zat_mem : ∀ {cd : List zE} {pc : Nat} {r : Instr × Nat × Nat × Nat}, zat cd pc = some r → (pc, r) ∈ cd
  | [], _, _, h => by cases h
  | e :: t, pc, r, h => by
    unfold zat at h
    split at h
    · next hb =>
      have h1 : e.1 = pc := Nat.eq_of_beq_eq_true hb
      cases h
      subst h1
      exact List.mem_cons_self
    · exact List.mem_cons_of_mem _ (zat_mem h)
/-! worlds in the heap -/
noncomputable def zv (b : Nat) (sc : Nat → Option Nat) (v : Value) : Value := match v with
  | .ref q => .ref (b + q)
  | .retAddr j => va_rf (sc j)
  | .int x => .int x
  | .long x => .long x
  | .float x => .float x
  | .double x => .double x
  | .null => .null
noncomputable def zcc (b : Nat) (sc : Nat → Option Nat) (dA : Nat → Nat) (c : va_E) : va_E := match c with
  | .inl (ti, len, .inr (.inr (.inr (.inr g)))) => .inl (dA ti, len, .inr (.inr (.inr (.inr (fun j => (g j).map (b + ·))))))
  | .inl (ti, len, .inl g) => .inl (dA ti, len, .inl g)
  | .inl (ti, len, .inr (.inl g)) => .inl (dA ti, len, .inr (.inl g))
  | .inl (ti, len, .inr (.inr (.inl g))) => .inl (dA ti, len, .inr (.inr (.inl g)))
  | .inl (ti, len, .inr (.inr (.inr (.inl g)))) => .inl (dA ti, len, .inr (.inr (.inr (.inl g))))
  | .inr (ci, fs) => .inr (ci, fs.map (zv b sc))
noncomputable def zco (b : Nat) (sc : Nat → Option Nat) (dA : Nat → Nat) : Nat → zW → va_W
  | _, [] => []
  | o, c :: t => (o, zcc b sc dA c) :: zco b sc dA (o + 1) t
theorem zco_get (b : Nat) (sc : Nat → Option Nat) (dA : Nat → Nat) : ∀ (w : zW) (o k : Nat), (zco b sc dA o w)[k]? = (w[k]?).map fun c => (o + k, zcc b sc dA c)
  | [], _, _ => by simp [zco]
  | c :: t, o, 0 => by simp [zco]
  | c :: t, o, k + 1 => by
    rw [zco, List.getElem?_cons_succ, List.getElem?_cons_succ, zco_get b sc dA t (o + 1) k, show o + 1 + k = o + (k + 1) by omega]
theorem zco_len (b : Nat) (sc : Nat → Option Nat) (dA : Nat → Nat) : ∀ (w : zW) (o : Nat), (zco b sc dA o w).length = w.length
  | [], _ => rfl
  | c :: t, o => by rw [zco, List.length_cons, List.length_cons, zco_len b sc dA t (o + 1)]
theorem zco_set (b : Nat) (sc : Nat → Option Nat) (dA : Nat → Nat) : ∀ (w : zW) (o k : Nat) (c : va_E), zco b sc dA o (w.set k c) = (zco b sc dA o w).set k (o + k, zcc b sc dA c)
  | [], _, _, _ => rfl
  | _ :: t, o, 0, c => rfl
  | x :: t, o, k + 1, c => by
    rw [List.set_cons_succ, zco, zco, List.set_cons_succ, zco_set b sc dA t (o + 1) k c, show o + 1 + k = o + (k + 1) by omega]
theorem zco_app (b : Nat) (sc : Nat → Option Nat) (dA : Nat → Nat) : ∀ (w : zW) (o : Nat) (c : va_E), zco b sc dA o (w ++ [c]) = zco b sc dA o w ++ [(o + w.length, zcc b sc dA c)]
  | [], o, c => rfl
  | x :: t, o, c => by
    rw [List.cons_append, zco, zco, List.cons_append, zco_app b sc dA t (o + 1) c, List.length_cons, show o + 1 + t.length = o + (t.length + 1) by omega]
theorem zco_at {b : Nat} {sc : Nat → Option Nat} {dA : Nat → Nat} {w : zW} {q : Nat} {c : va_E} (h : zix w q = some c) : (zco b sc dA b w)[q]? = some (b + q, zcc b sc dA c) := by
  rw [zco_get, ← zix_eq, h]; rfl
theorem zco_D (b : Nat) (sc : Nat → Option Nat) (dA : Nat → Nat) (w : zW) : va_D (fun q => b ≤ q) (zco b sc dA b w) := by
  have key : ∀ (k : Nat) (q : Nat × va_E), (zco b sc dA b w)[k]? = some q → q.1 = b + k := by
    intro k q h
    rw [zco_get] at h
    cases hw : w[k]? with
    | none => rw [hw] at h; cases h
    | some c => rw [hw] at h; cases h; rfl
  exact ⟨fun i j p q hi hj hpq => by have h1 := key i p hi; have h2 := key j q hj; omega, fun k q hk => by have h1 := key k q hk; show b ≤ q.1; omega⟩
noncomputable def ztys (dA : Nat → Nat) : List (ClassId × FieldType) := [(dA 0, .byte), (dA 1, .int), (dA 2, .boolean), (dA 3, .object "ReadAloud$Book"), (dA 4, .object "ReadAloud$Year"), (dA 5, .object "ReadAloud$Sight"), (dA 6, .object "ReadAloud$Told"), (dA 7, .object "ReadAloud$Readings"), (dA 8, .object "ReadAloud$Walk")]
theorem ztys_at {dA : Nat → Nat} {a : Nat} {ty : FieldType} (h : zix zats a = some ty) : (ztys dA)[a]? = some (dA a, ty) := by
  match a, h with
  | 0, h => cases h; rfl
  | 1, h => cases h; rfl
  | 2, h => cases h; rfl
  | 3, h => cases h; rfl
  | 4, h => cases h; rfl
  | 5, h => cases h; rfl
  | 6, h => cases h; rfl
  | 7, h => cases h; rfl
  | 8, h => cases h; rfl
  | n + 9, h => cases n <;> cases h
theorem zcls_at {a : Nat} (h : 0 < zcN a ∨ a ≤ 11) : zcls[a]? = some (zcn a, zcf a, zcN a) := by
  match a, h with
  | 0, _ => rfl
  | 1, _ => rfl
  | 2, _ => rfl
  | 3, _ => rfl
  | 4, _ => rfl
  | 5, _ => rfl
  | 6, _ => rfl
  | 7, _ => rfl
  | 8, _ => rfl
  | 9, _ => rfl
  | 10, _ => rfl
  | 11, _ => rfl
  | n + 12, h =>
    have h0 : zcN (n + 12) = 0 := by cases n <;> rfl
    rw [h0] at h
    omega
theorem zcls_ty {a : Nat} (h : a ≤ 11) : (∀ k, k < zcN a → parseFieldDescriptor (zcf a k).2.2.1 = some (ztyf a k)) ∧ ∀ i, i < zcN a → ∀ j, j < zcN a → i ≠ j → (zcf a i).2.1 ≠ (zcf a j).2.1 := by
  match a, h with
  | 0, _ => exact ⟨tyX0_ok, nmX0⟩
  | 1, _ => exact ⟨tyX1_ok, nmX1⟩
  | 2, _ => exact ⟨tyX2_ok, nmX2⟩
  | 3, _ => exact ⟨tyX4_ok, nmX4⟩
  | 4, _ => exact ⟨tyX5_ok, nmX5⟩
  | 5, _ => exact ⟨tyX6_ok, nmX6⟩
  | 6, _ => exact ⟨tyX7_ok, nmX7⟩
  | 7, _ => exact ⟨tyX8_ok, nmX8⟩
  | 8, _ => exact ⟨tyX9_ok, nmX9⟩
  | 9, _ => exact ⟨tyX10_ok, nmX10⟩
  | 10, _ => exact ⟨tyX11_ok, nmX11⟩
  | 11, _ => exact ⟨tyX12_ok, nmX12⟩
  | n + 12, h => omega
theorem zcN_le {a : Nat} (h : 0 < zcN a) : a ≤ 11 := by
  rcases Nat.lt_or_ge a 12 with q | q
  · omega
  · have h0 : zcN a = 0 := by
      obtain ⟨n, rfl⟩ : ∃ n, a = n + 12 := ⟨a - 12, by omega⟩
      cases n <;> rfl
    omega
theorem zuw_at {a : Nat} (h : a ≤ 11) : ∀ w ∈ u_ws (zcn a) (zcf a) (zcN a), w ∈ zuw := fun w hw => List.mem_flatMap.mpr ⟨(zcn a, zcf a, zcN a), List.mem_of_getElem? (zcls_at (Or.inr h)), hw⟩
/-! the locals -/
noncomputable def zpr (b : Nat) (sc : Nat → Option Nat) (L : zL) : List (Nat × Value) := (List.range L.length).filterMap fun j => (zget L j).map fun v => (j, zv b sc v)
theorem zget_lt : ∀ {L : zL} {j : Nat} {v : Value}, zget L j = some v → j < L.length
  | [], _, _, h => by cases h
  | _ :: _, 0, _, _ => Nat.zero_lt_succ _
  | _ :: t, j + 1, v, h => Nat.succ_lt_succ (zget_lt (L := t) h)
theorem zpr_mem {b : Nat} {sc : Nat → Option Nat} {L : zL} {q : Nat × Value} : q ∈ zpr b sc L ↔ ∃ v, zget L q.1 = some v ∧ q.2 = zv b sc v := by
  unfold zpr
  rw [List.mem_filterMap]
  constructor
  · rintro ⟨j, -, h⟩
    cases hz : zget L j with
    | none => rw [hz] at h; cases h
    | some v => rw [hz] at h; cases h; exact ⟨v, hz, rfl⟩
  · rintro ⟨v, h1, h2⟩
    exact ⟨q.1, List.mem_range.mpr (zget_lt h1), by rw [h1]; show some (q.1, zv b sc v) = some q; rw [← h2]⟩
theorem zpr_at {b nL : Nat} {sc : Nat → Option Nat} {L : zL} {ls : Array Slot} (h : lv_has ls nL (zpr b sc L)) {j : Nat} {v : Value} (hj : zget L j = some v) : ls[j]? = some (.val (zv b sc v)) := h.2.2 (j, zv b sc v) (zpr_mem.mpr ⟨v, hj, rfl⟩)
theorem zget_put_ne : ∀ (L : zL) (i j : Nat) (v : Option Value), j ≠ i → zget (zput L i v) j = zget L j
  | [], _, _, _, _ => rfl
  | _ :: _, 0, 0, _, h => absurd rfl h
  | _ :: _, 0, _ + 1, _, _ => rfl
  | _ :: _, _ + 1, 0, _, _ => rfl
  | _ :: t, i + 1, j + 1, v, h => zget_put_ne t i j v (fun q => h (q ▸ rfl))
theorem zget_put_self : ∀ (L : zL) (i : Nat) (v : Option Value) (u : Value), zget (zput L i v) i = some u → v = some u
  | [], _, _, _, h => by cases h
  | _ :: _, 0, _, _, h => h
  | _ :: t, i + 1, v, u, h => zget_put_self t i v u h
theorem zrf_cat (o : Option Nat) : (va_rf o).category = 1 := by cases o <;> rfl
theorem zc2_cat {b : Nat} {sc : Nat → Option Nat} {v : Value} (h : zc2 (some v) = false) : ((zv b sc v).category == 2) = false := by
  cases v <;> first | rfl | (show ((va_rf (sc _)).category == 2) = false; rw [zrf_cat]; rfl) | cases h
theorem zfree_cat {b : Nat} {sc : Nat → Option Nat} {L : zL} {i j : Nat} {u : Value} (hf : zfree L i = true) (hj : zget L j = some u) : (j + 1 == i && (zv b sc u).category == 2) = false := by
  by_cases h : j + 1 = i
  · subst h
    have h1 : zc2 (zget L j) = false := by
      unfold zfree at hf
      simp only at hf
      split at hf
      · cases hf
      · assumption
    rw [hj] at h1
    rw [zc2_cat h1]
    simp
  · simp [h]
theorem zpr_store1 {b nL : Nat} {sc : Nat → Option Nat} {L : zL} {ls : Array Slot} {i : Nat} {v : Value} (hf : zfree L i = true) (h : lv_has ls nL ((i, zv b sc v) :: (zpr b sc L).filter (fun q => !(q.1 == i) && !(q.1 + 1 == i && q.2.category == 2)))) : lv_has ls nL (zpr b sc (zput L i (some v))) := by
  refine ⟨h.1, h.2.1, fun q hq => h.2.2 q ?_⟩
  obtain ⟨u, h1, h2⟩ := zpr_mem.mp hq
  by_cases hi : q.1 = i
  · rw [hi] at h1
    cases zget_put_self L i _ u h1
    refine List.mem_cons.mpr (Or.inl ?_)
    rw [← hi, ← h2]
  · rw [zget_put_ne L i q.1 _ hi] at h1
    refine List.mem_cons_of_mem _ (List.mem_filter.mpr ⟨zpr_mem.mpr ⟨u, h1, h2⟩, ?_⟩)
    rw [h2, zfree_cat hf h1]
    simp [hi]
theorem zpr_store2 {b nL : Nat} {sc : Nat → Option Nat} {L : zL} {ls : Array Slot} {i : Nat} {v : Value} (hf : zfree L i = true) (h : lv_has ls nL ((i, zv b sc v) :: (zpr b sc L).filter (fun q => !(q.1 == i) && (!(q.1 == i + 1) && !(q.1 + 1 == i && q.2.category == 2))))) : lv_has ls nL (zpr b sc (zput (zput L (i + 1) none) i (some v))) := by
  refine ⟨h.1, h.2.1, fun q hq => h.2.2 q ?_⟩
  obtain ⟨u, h1, h2⟩ := zpr_mem.mp hq
  by_cases hi : q.1 = i
  · rw [hi] at h1
    cases zget_put_self _ i _ u h1
    refine List.mem_cons.mpr (Or.inl ?_)
    rw [← hi, ← h2]
  · rw [zget_put_ne _ i q.1 _ hi] at h1
    by_cases hi2 : q.1 = i + 1
    · rw [hi2] at h1
      have := zget_put_self L (i + 1) none u h1
      cases this
    · rw [zget_put_ne L (i + 1) q.1 _ hi2] at h1
      refine List.mem_cons_of_mem _ (List.mem_filter.mpr ⟨zpr_mem.mpr ⟨u, h1, h2⟩, ?_⟩)
      rw [h2, zfree_cat hf h1]
      simp [hi, hi2]
theorem zent_mem (b : Nat) (sc : Nat → Option Nat) : ∀ (As : List Value) (n o j : Nat) (u : Value), zget (zent n As) j = some u → (o + j, zv b sc u) ∈ lv_args o (As.map (zv b sc))
  | [], n, o, j, u, h => by
    exfalso
    induction n generalizing j with
    | zero => cases h
    | succ n ih =>
      cases j with
      | zero => cases h
      | succ j => exact ih j h
  | v :: t, n, o, j, u, h => by
    cases n with
    | zero => cases h
    | succ n =>
      cases hc : zc2 (some v) with
      | false =>
        have hz : zent (n + 1) (v :: t) = some v :: zent n t := by rw [zent.eq_def]; simp only [hc]
        rw [hz] at h
        cases j with
        | zero => cases h; exact List.mem_cons_self
        | succ j =>
          have hd : ¬ (zv b sc v).category = 2 := by
            have := zc2_cat (b := b) (sc := sc) hc
            simpa using this
          rw [List.map_cons, lv_args, if_neg hd, show o + (j + 1) = o + 1 + j by omega]
          exact List.mem_cons_of_mem _ (zent_mem b sc t n (o + 1) j u h)
      | true =>
        have hd : (zv b sc v).category = 2 := by cases v <;> first | rfl | cases hc
        cases n with
        | zero =>
          have hz : zent (0 + 1) (v :: t) = [some v] := by rw [zent.eq_def]; simp only [hc]
          rw [hz] at h
          cases j with
          | zero => cases h; exact List.mem_cons_self
          | succ j => cases j <;> cases h
        | succ n =>
          have hz : zent (n + 1 + 1) (v :: t) = some v :: none :: zent n t := by rw [zent.eq_def]; simp only [hc]
          rw [hz] at h
          cases j with
          | zero => cases h; exact List.mem_cons_self
          | succ j =>
            cases j with
            | zero => cases h
            | succ j =>
              have h1 := zent_mem b sc t n (o + 2) j u h
              rw [List.map_cons, lv_args, if_pos hd, show o + (j + 1 + 1) = o + 2 + j by omega]
              exact List.mem_cons_of_mem _ h1
/-! THE PURE MACHINE IS SOUND, one instruction at a time. -/
theorem z1i_s {S : List Value} {f : Int32 → List Value → Prop} (h : z1i S f) : ∃ x t, S = .int x :: t ∧ f x t := by
  unfold z1i at h
  split at h
  · exact ⟨_, _, rfl, h⟩
  · exact h.elim
theorem z2i_s {S : List Value} {f : Int32 → Int32 → List Value → Prop} (h : z2i S f) : ∃ x y t, S = .int y :: .int x :: t ∧ f x y t := by
  unfold z2i at h
  split at h
  · exact ⟨_, _, _, rfl, h⟩
  · exact h.elim
theorem z1l_s {S : List Value} {f : Int64 → List Value → Prop} (h : z1l S f) : ∃ x t, S = .long x :: t ∧ f x t := by
  unfold z1l at h
  split at h
  · exact ⟨_, _, rfl, h⟩
  · exact h.elim
theorem z2l_s {S : List Value} {f : Int64 → Int64 → List Value → Prop} (h : z2l S f) : ∃ x y t, S = .long y :: .long x :: t ∧ f x y t := by
  unfold z2l at h
  split at h
  · exact ⟨_, _, _, rfl, h⟩
  · exact h.elim
theorem zil_s {S : List Value} {f : Int64 → Int32 → List Value → Prop} (h : zil S f) : ∃ x y t, S = .int y :: .long x :: t ∧ f x y t := by
  unfold zil at h
  split at h
  · exact ⟨_, _, _, rfl, h⟩
  · exact h.elim
theorem zro_s {v : Value} {r : Option Nat} (h : zro v = some r) : v = va_rf r := by
  unfold zro at h
  split at h <;> cases h <;> rfl
theorem z2r_s {S : List Value} {f : Option Nat → Option Nat → List Value → Prop} (h : z2r S f) : ∃ rx ry t, S = va_rf ry :: va_rf rx :: t ∧ f rx ry t := by
  unfold z2r at h
  split at h
  · split at h
    · rename_i rx hx
      split at h
      · rename_i ry hy
        exact ⟨rx, ry, _, by rw [zro_s hx, zro_s hy], h⟩
      · exact h.elim
    · exact h.elim
  · exact h.elim
theorem z1r_s {S : List Value} {f : Nat → List Value → Prop} (h : z1r S f) : ∃ q t, S = .ref q :: t ∧ f q t := by
  unfold z1r at h
  split at h
  · exact ⟨_, _, rfl, h⟩
  · exact h.elim
theorem z1v_s {S : List Value} {f : Value → List Value → Prop} (h : z1v S f) : ∃ v t, S = v :: t ∧ f v t := by
  unfold z1v at h
  split at h
  · exact ⟨_, _, rfl, h⟩
  · exact h.elim
theorem zvr2_s {S : List Value} {f : Value → Value → List Value → Prop} (h : zvr2 S f) : ∃ v u t, S = v :: u :: t ∧ f v u t := by
  unfold zvr2 at h
  split at h
  · exact ⟨_, _, _, rfl, h⟩
  · exact h.elim
theorem zvr_s {S : List Value} {f : Value → Nat → List Value → Prop} (h : zvr S f) : ∃ v q t, S = v :: .ref q :: t ∧ f v q t := by
  unfold zvr at h
  split at h
  · exact ⟨_, _, _, rfl, h⟩
  · exact h.elim
theorem zia_s {S : List Value} {f g : Int32 → Nat → List Value → Prop} (h : zia S f g) : (∃ i q t, S = .int i :: .ref q :: t ∧ f i q t) ∨ ∃ i j t, S = .int i :: .retAddr j :: t ∧ g i j t := by
  unfold zia at h
  split at h
  · exact Or.inl ⟨_, _, _, rfl, h⟩
  · exact Or.inr ⟨_, _, _, rfl, h⟩
  · exact h.elim
theorem zvia_s {S : List Value} {f : Value → Int32 → Nat → List Value → Prop} (h : zvia S f) : ∃ v i q t, S = v :: .int i :: .ref q :: t ∧ f v i q t := by
  unfold zvia at h
  split at h
  · exact ⟨_, _, _, _, rfl, h⟩
  · exact h.elim
theorem zasv_s {S : List Value} {f : Value → List Value → Prop} (h : zasv S f) : (∃ q t, S = .ref q :: t ∧ f (.ref q) t) ∨ ∃ t, S = .null :: t ∧ f .null t := by
  unfold zasv at h
  split at h
  · exact Or.inl ⟨_, _, rfl, h⟩
  · exact Or.inr ⟨_, rfl, h⟩
  · exact h.elim
theorem zrn_s {S : List Value} {f g : List Value → Prop} (h : zrn S f g) : (∃ q t, S = .ref q :: t ∧ f t) ∨ ∃ t, S = .null :: t ∧ g t := by
  unfold zrn at h
  split at h
  · exact Or.inl ⟨_, _, rfl, h⟩
  · exact Or.inr ⟨_, rfl, h⟩
  · exact h.elim
theorem zrn2_s {v : Value} {f : Nat → Prop} {g : Prop} (h : zrn2 v f g) : (∃ q, v = .ref q ∧ f q) ∨ (v = .null ∧ g) := by
  unfold zrn2 at h
  split at h
  · exact Or.inl ⟨_, rfl, h⟩
  · exact Or.inr ⟨rfl, h⟩
  · exact h.elim
theorem zif_s {b : Bool} {A : Prop} (h : zif b A) : b = true ∧ A := by
  cases b
  · exact h.elim
  · exact ⟨rfl, h⟩
theorem zor_s {b : Bool} {A B : Prop} (h : zor b A B) : (b = true ∧ A) ∨ (b = false ∧ B) := by
  cases b
  · exact Or.inr ⟨rfl, h⟩
  · exact Or.inl ⟨rfl, h⟩
theorem zli_s {L : zL} {j : Nat} {f : Int32 → Prop} (h : zli L j f) : ∃ x, zget L j = some (.int x) ∧ f x := by
  unfold zli at h
  split at h
  next hz => exact ⟨_, hz, h⟩
  · exact h.elim
theorem zll_s {L : zL} {j : Nat} {f : Int64 → Prop} (h : zll L j f) : ∃ x, zget L j = some (.long x) ∧ f x := by
  unfold zll at h
  split at h
  next hz => exact ⟨_, hz, h⟩
  · exact h.elim
theorem zla_s {L : zL} {j : Nat} {f : Value → Prop} (h : zla L j f) : ∃ v, zget L j = some v ∧ ((∃ q, v = .ref q) ∨ v = .null ∨ ∃ q, v = .retAddr q) ∧ f v := by
  unfold zla at h
  split at h
  next hz => exact ⟨_, hz, Or.inl ⟨_, rfl⟩, h⟩
  next hz => exact ⟨_, hz, Or.inr (Or.inl rfl), h⟩
  next hz => exact ⟨_, hz, Or.inr (Or.inr ⟨_, rfl⟩), h⟩
  · exact h.elim
theorem zob_s {w : zW} {q ci : Nat} {f : List Value → Prop} (h : zob w q ci f) : ∃ fs, zix w q = some (.inr (ci, fs)) ∧ f fs := by
  unfold zob at h
  split at h
  next hz =>
    obtain ⟨h1, h2⟩ := zif_s h
    have := Nat.eq_of_beq_eq_true h1
    subst this
    exact ⟨_, hz, h2⟩
  · exact h.elim
theorem zai_s {w : zW} {q : Nat} {f : Nat → Nat → (Nat → Int32) → Prop} (h : zai w q f) : ∃ ti len g, zix w q = some (.inl (ti, len, .inl g)) ∧ f ti len g := by
  unfold zai at h
  split at h
  next hz => exact ⟨_, _, _, hz, h⟩
  · exact h.elim
theorem zaq_s {w : zW} {q : Nat} {f : Nat → Nat → (Nat → Option Nat) → Prop} (h : zaq w q f) : ∃ ti len g, zix w q = some (.inl (ti, len, .inr (.inr (.inr (.inr g))))) ∧ f ti len g := by
  unfold zaq at h
  split at h
  next hz => exact ⟨_, _, _, hz, h⟩
  · exact h.elim
theorem zfld_s {fs : List Value} {b : Nat} {f : Value → Prop} (h : zfld fs b f) : ∃ v, zix fs b = some v ∧ f v := by
  unfold zfld at h
  split at h
  next hz => exact ⟨_, hz, h⟩
  · exact h.elim
theorem zext_s {E : zX} {f : Nat → (Nat → Int32) → Prop} (h : zext E f) : ∃ q, E = some q ∧ f q.1 q.2 := by
  unfold zext at h
  split at h
  · exact ⟨_, rfl, h⟩
  · exact h.elim
theorem zlen1_s {S : List Value} {f g : Nat → List Value → Prop} (h : zlen1 S f g) : (∃ j t, S = .retAddr j :: t ∧ f j t) ∨ ∃ q t, S = .ref q :: t ∧ g q t := by
  unfold zlen1 at h
  split at h
  · exact Or.inl ⟨_, _, rfl, h⟩
  · exact Or.inr ⟨_, _, rfl, h⟩
  · exact h.elim
theorem zgf_s {S : List Value} {f g : Nat → List Value → Prop} (h : zgf S f g) : (∃ q t, S = .ref q :: t ∧ f q t) ∨ ∃ j t, S = .retAddr j :: t ∧ g j t := by
  unfold zgf at h
  split at h
  · exact Or.inl ⟨_, _, rfl, h⟩
  · exact Or.inr ⟨_, _, rfl, h⟩
  · exact h.elim
theorem zvt_s {w : zW} {q a : Nat} {f : Nat → Nat → Prop} (h : zvt w q a f) : ∃ fs ci a', zix w q = some (.inr (ci, fs)) ∧ ((ci = 0 ∧ a' = a % 1000) ∨ (ci = 9 ∧ a' = a / 1000 % 1000) ∨ (ci = 5 ∧ a' = a / 1000000)) ∧ f ci a' := by
  unfold zvt at h
  split at h
  next hz =>
    split at h
    · exact ⟨_, _, _, hz, Or.inl ⟨rfl, rfl⟩, h⟩
    · exact ⟨_, _, _, hz, Or.inr (Or.inl ⟨rfl, rfl⟩), h⟩
    · exact ⟨_, _, _, hz, Or.inr (Or.inr ⟨rfl, rfl⟩), h⟩
    · exact h.elim
  · exact h.elim
theorem zstr_s {j : Nat} (h : zstr j = true) : ∃ i, i < 15 ∧ j = i + 1 := by
  unfold zstr at h
  simp only [Bool.and_eq_true] at h
  have h1 := Nat.le_of_ble_eq_true h.1
  have h2 := Nat.le_of_ble_eq_true h.2
  exact ⟨j - 1, by omega, by omega⟩
theorem zsby_s {j : Nat} (h : zsby j = true) : ∃ i, i < 15 ∧ j = i + 101 := by
  unfold zsby at h
  simp only [Bool.and_eq_true] at h
  have h1 := Nat.le_of_ble_eq_true h.1
  have h2 := Nat.le_of_ble_eq_true h.2
  exact ⟨j - 101, by omega, by omega⟩
theorem zcpy_s {S : List Value} {f : Nat → Int32 → Nat → Int32 → Int32 → List Value → Prop} (h : zcpy S f) : ∃ q0 sp q1 dp m t, S = .int m :: .int dp :: .ref q1 :: .int sp :: .ref q0 :: t ∧ f q0 sp q1 dp m t := by
  unfold zcpy at h
  split at h
  · exact ⟨_, _, _, _, _, _, rfl, h⟩
  · exact h.elim
theorem zin1_s {S : List Value} {f : Value → Prop} (h : zin1 S f) : ∃ v, S = [v] ∧ f v := by
  unfold zin1 at h
  split at h
  · exact ⟨_, rfl, h⟩
  · exact h.elim
theorem znil_s {S : List Value} {A : Prop} (h : znil S A) : S = [] ∧ A := by
  unfold znil at h
  split at h
  · exact ⟨rfl, h⟩
  · exact h.elim
theorem zv_cat (b : Nat) (sc : Nat → Option Nat) (v : Value) : (zv b sc v).category = v.category := by cases v <;> first | rfl | exact zrf_cat _
theorem zrm_s {b : Nat} {sc : Nat → Option Nat} {S : List Value} (h : zrm S = true) : ((S.map (zv b sc)).map fun v => v.category).sum ≤ 8 := by
  rw [List.map_map, show ((fun v : Value => v.category) ∘ zv b sc) = fun v => v.category from funext (zv_cat b sc)]
  exact Nat.le_of_ble_eq_true h
theorem zv_rf (b : Nat) (sc : Nat → Option Nat) (o : Option Nat) : va_rf (o.map (b + ·)) = zv b sc (va_rf o) := by cases o <;> rfl
theorem zv_map (b : Nat) (sc : Nat → Option Nat) (o : Option Nat) : zv b sc (va_rf o) = va_rf (o.map (b + ·)) := (zv_rf b sc o).symm
theorem zmap_inj {b : Nat} {x y : Option Nat} : x.map (b + ·) = y.map (b + ·) ↔ x = y := by
  cases x <;> cases y <;> simp
theorem zv_dv (b : Nat) (sc : Nat → Option Nat) (ty : FieldType) : zv b sc (defaultValue ty) = defaultValue ty := by cases ty <;> rfl
theorem zdl_get : ∀ (n i j : Nat) (f : Nat → FieldType), j < n → (zdl n i f)[j]? = some (defaultValue (f (i + j)))
  | 0, _, _, _, h => absurd h (Nat.not_lt_zero _)
  | n + 1, i, 0, f, _ => rfl
  | n + 1, i, j + 1, f, h => by
    rw [zdl, List.getElem?_cons_succ, zdl_get n (i + 1) j f (by omega), show i + 1 + j = i + (j + 1) by omega]
theorem zfit_s {b : Nat} {sc : Nat → Option Nat} {ty : FieldType} {v : Value} (h : zfit ty v = true) : narrow ty (zv b sc v) = zv b sc v ∧ fits ty (zv b sc v) = true := by
  cases ty <;> cases v <;> first | exact ⟨rfl, rfl⟩ | cases h
theorem zde_s {M : zM} {pc np a b : Nat} {i : Instr} (h : zde M (pc, i, np, a, b) = true) (hz : ¬ zlen i = 0) : np = pc + zlen i ∧ decode M.2.1 pc = .ok (i, zlen i) := by
  unfold zde at h
  simp only [Bool.and_eq_true, Bool.or_eq_true, decide_eq_true_eq] at h
  obtain ⟨h1, h2⟩ := h
  have h3 : np = pc + zlen i := by
    rcases h2 with q | q
    · exact absurd (Nat.eq_of_beq_eq_true q) hz
    · exact Nat.eq_of_beq_eq_true q
  rw [h3, Nat.add_sub_cancel_left] at h1
  exact ⟨h3, h1⟩
theorem zrow_s {tab : List zM} {M : zM} {e : zE} (h : zrow tab M e = true) : (∀ o, zoff e.2.1 = some o → (e.1 : Int) + o = (e.2.2.2.1 : Int)) ∧ zslot M.2.2.1 e.2.1 = true ∧ zsw e.1 e.2.1 = true ∧ zlk tab M e = true := by
  unfold zrow at h
  simp only [Bool.and_eq_true] at h
  obtain ⟨⟨⟨h1, h2⟩, h3⟩, h4⟩ := h
  refine ⟨fun o ho => ?_, h2, h3, h4⟩
  rw [ho] at h1
  simpa using h1
noncomputable def zroom (d mc ms : Nat) : Room := { frames := d, cells := mc, slots := ms, locals := 35 * d }
noncomputable def zQc (b : Nat) (sc : Nat → Option Nat) (D : va_G) (dA : Nat → Nat) (z mc : Nat) (Q : zQ) : Array Value → State → Outcome → State → Prop := fun _ st oc t => (∃ (r : Option Value) (w : zW), Q r w ∧ w.length = z + mc ∧ oc = .returned (r.map (zv b sc)) ∧ va_P D zcls (zco b sc dA b w) t.heap) ∧ va_F (fun q => b ≤ q) st t
noncomputable def zPc (b : Nat) (sc : Nat → Option Nat) (D : va_G) (dA : Nat → Nat) (As : List Value) (w : zW) : Array Value → State → Prop := va_Pc (As.map (zv b sc)) (fun U => U.heap.size = b + w.length ∧ va_P D zcls (zco b sc dA b w) U.heap ∧ va_K D zcls (ztys dA) U ∧ zN U ∧ zXs b sc U U.heap)
noncomputable def zSnd (tab : List zM) (l : Launch) (d : Nat) : Prop := ∀ (a : Nat) (As : List Value) (w : zW) (mc ms : Nat) (Q : zQ) (M : zM), zix tab a = some M → zCl tab d a As w mc ms Q → 1 ≤ d ∧ ∀ (b : Nat) (sc : Nat → Option Nat) (D : va_G) (dA : Nat → Nat), Met l M.1 (zws tab M) (zroom (d - 1) mc ms) (zPc b sc D dA As w) (zQc b sc D dA w.length mc Q) mc ms (fun q => b ≤ q)
noncomputable def zrti (i : Instr) (r : Option FieldType) (v : Option Value) : Prop := match i with
  | .ireturn => ∃ x, v = some (.int x) ∧ zret r (.int x)
  | .lreturn => ∃ x, v = some (.long x) ∧ zret r (.long x)
  | .areturn => ((v = some .null ∧ zret r .null) ∨ ∃ q, v = some (.ref q) ∧ zret r (.ref q))
  | .return_ => v = none ∧ r = none
  | _ => False
theorem zPc_blind {b : Nat} {sc : Nat → Option Nat} {D : va_G} {dA : Nat → Nat} {As : List Value} {w : zW} : FrameBlind (zPc b sc D dA As w) := by
  intro a U g mk q
  obtain ⟨q0, q1, qP, qK, qN, qX⟩ := q
  exact ⟨q0, q1, qP, va_K.moved (u := U) (U := U.calling g mk a) (Vm.Alike.refl U.vm) qK, zN.same (s := U) (U := U.calling g mk a) rfl qN, zXs.same (s := U) (U := U.calling g mk a) qX rfl rfl⟩
section ZS
variable {p : Program} {l : Launch} {e : Env} {R : Room} {s : State} {m : MethodId} {args : Array Value} {below : List Frame} {meth : Method} {c : Code} {QW : State → Prop}
theorem zsz {H : Heap} {locs : List Loc} {k n : Nat} {g : JFrame} (h : H.size ≤ s.heap.size + k → W p l e R s m args below meth c H locs k n QW g) : W p l e R s m args below meth c H locs k n QW g :=
  fun T hT X => h (by rw [← hT]; exact X.heapSize) T hT X
theorem z_size {b z0 k : Nat} {sc : Nat → Option Nat} {D : va_G} {dA : Nat → Nat} {w : zW} {H : Heap} {locs : List Loc} (hsz : s.heap.size = b + z0) (hP : va_P D zcls (zco b sc dA b w) H) (hS : va_S (fun q => b ≤ q) s.heap H locs) (hlen : w.length = z0 + k) (hle : H.size ≤ s.heap.size + k) : H.size = b + w.length := by
  have h1 := hS.1
  by_cases hk : k = 0
  · omega
  · have hw : w.length - 1 < w.length := by omega
    have hg : zix w (w.length - 1) = some w[w.length - 1] := by rw [zix_eq]; exact List.getElem?_eq_getElem hw
    have h2 := (hP _ _ (zco_at (b := b) (sc := sc) (dA := dA) hg)).lt
    dsimp only at h2
    omega
theorem z_fresh {b z0 k q : Nat} {sc : Nat → Option Nat} {D : va_G} {dA : Nat → Nat} {w : zW} {H : Heap} {e0 : va_E} (hsz : s.heap.size = b + z0) (hlen : w.length = z0 + k) (hP : va_P D zcls (zco b sc dA b w ++ [(q, e0)]) H) (hD : va_D (fun q => b ≤ q) (zco b sc dA b w ++ [(q, e0)])) (hle : H.size ≤ s.heap.size + (k + 1)) : q = b + w.length := by
  have hl : (zco b sc dA b w ++ [(q, e0)])[w.length]? = some (q, e0) := by
    rw [List.getElem?_append_right (by rw [zco_len]; exact Nat.le_refl _), zco_len, Nat.sub_self]; rfl
  have h1 := (hP _ _ hl).lt
  have h2 := hD.2 _ _ hl
  dsimp only at h1 h2
  by_cases hq : q = b + w.length
  · exact hq
  · exfalso
    have hlt : q - b < w.length := by omega
    have hg : zix w (q - b) = some w[q - b] := by rw [zix_eq]; exact List.getElem?_eq_getElem hlt
    have h3 := zco_at (b := b) (sc := sc) (dA := dA) hg
    have h4 : (zco b sc dA b w ++ [(q, e0)])[q - b]? = some (b + (q - b), zcc b sc dA w[q - b]) := by
      rw [List.getElem?_append_left (by rw [zco_len]; exact hlt)]; exact h3
    have h5 := hD.1 _ _ _ _ h4 hl (by dsimp only; omega)
    omega
noncomputable def zOK (p : Program) (l : Launch) (e : Env) (R : Room) (s : State) (m : MethodId) (args : Array Value) (below : List Frame) (meth : Method) (c : Code) (QW : State → Prop) (b : Nat) (sc : Nat → Option Nat) (D : va_G) (dA : Nat → Nat) (nL z0 : Nat) (x : zS) : Prop :=
  ∀ (H : Heap) (locs : List Loc) (ls : Array Slot), va_P D zcls (zco b sc dA b x.2.2.2.1) H → va_S (fun q => b ≤ q) s.heap H locs → lv_has ls nL (zpr b sc x.2.1) → x.2.2.2.1.length = z0 + x.2.2.2.2.1 → W p l e R s m args below meth c H locs x.2.2.2.2.1 x.2.2.2.2.2 QW (F0 m x.1 ls (x.2.2.1.map (zv b sc)))
theorem z_call {b z mc' ms' k n pc : Nat} {sc : Nat → Option Nat} {D : va_G} {dA : Nat → Nat} {Qf : zQ} {a0 : Array Value} {H : Heap} {locs : List Loc} {ls : Array Slot} {st0 rest : List Value}
    (hr : va_Run p l e R s m args below meth c H locs k n mc' ms' (F0 m pc ls st0) rest (zQc b sc D dA z mc' Qf a0) (fun q => b ≤ q)) (hS : va_S (fun q => b ≤ q) s.heap H locs)
    (kk : ∀ (r : Option Value) (w' : zW) (H1 : Heap) (locs1 : List Loc), Qf r w' → w'.length = z + mc' → va_P D zcls (zco b sc dA b w') H1 → va_S (fun q => b ≤ q) s.heap H1 locs1 → W p l e R s m args below meth c H1 locs1 (k + mc') (n + ms') QW (F0 m (pc + 3) ls ((r.map (zv b sc)).toList ++ rest))) : W p l e R s m args below meth c H locs k n QW (F0 m pc ls st0) := by
  intro T hT X
  obtain ⟨v, st₀, t, T', L, h0, X', hL, e1, e2, ⟨⟨r, w', hq, hz, hv, hP⟩, hF1, hF2⟩, st⟩ := hr T hT X
  cases hv
  rw [h0] at hF1 hF2
  obtain ⟨t2, a1, b1⟩ := kk r w' T'.heap (locs ++ L) hq hz (by rw [e1]; exact hP)
    ⟨Nat.le_trans hS.1 (by rw [e1]; exact hF1), fun q h1 h2 => by rw [e1, hF2 q (Nat.lt_of_lt_of_le h1 hS.1) h2]; exact hS.2.1 q h1 h2, fun q hq => by
      rcases List.mem_append.mp hq with h | h
      · exact hS.2.2 q h
      · exact hL q h⟩ T' rfl X'
  exact ⟨t2, st t2 a1, b1⟩
end ZS
section ZT
variable {p : Program} {l : Launch} {e : Env} {R : Room} {s : State} {m : MethodId} {args : Array Value} {below : List Frame} {meth : Method} {c : Code} {QW : State → Prop}
theorem zgood_in {tab : List zM} (hgood : ∀ w ∈ zt tab, goodWord w = true) {M : zM} (h : zcode M ∈ zt tab) : GoodIn (zt tab) (zws tab M) := by
  intro w hw
  rcases List.mem_cons.mp hw with rfl | hw
  · exact ⟨h, good_of_word (hgood _ h)⟩
  · exact ⟨hw, good_of_word (hgood _ hw)⟩
theorem zmat_s {tab : List zM} {a : Nat} (h : zhas tab a = true) : zix tab a = some (zmat tab a) := by
  unfold zhas at h
  unfold zmat
  split at h
  next hz => rw [hz]
  · cases h
/-- a call by what the callee's contract says, of whichever kind -/
theorem z_inv {tab : List zM} {d : Nat} {M : zM} {mc ms b z0 : Nat} {sc : Nat → Option Nat} {D : va_G} {dA : Nat → Nat} {P : zS → Prop}
    (hb : c.code = M.2.1) (hx : p.tables.exec = Jvm.exec) (hml : c.maxLocals = M.2.2.1) (hown : s.vm.findClass M.1.cls = some m.cls) (hts : ∀ w ∈ zt tab, w.before args s = true) (hgood : ∀ w ∈ zt tab, goodWord w = true) (htab : ∀ M' ∈ tab, zokM tab M') (hK : va_K D zcls (ztys dA) s) (hN : zN s) (hXs : zXs b sc s s.heap) (hsz : s.heap.size = b + z0)
    (hR : d ≤ R.frames ∧ 35 * d ≤ R.locals ∧ mc ≤ R.cells ∧ ms ≤ R.slots) (hsnd : zSnd tab l d) (hP : ∀ y, P y → zOK p l e R s m args below meth c QW b sc D dA M.2.2.1 z0 y)
    {pc a np : Nat} {L : zL} {As St0 St : List Value} {w : zW} {k n : Nat} {H : Heap} {locs : List Loc} {ls : Array Slot} (hnp : np = pc + 3) (hcc : zcode (zmat tab a) ∈ zt tab)
    (hPw : va_P D zcls (zco b sc dA b w) H) (hS : va_S (fun q => b ≤ q) s.heap H locs) (hl : lv_has ls M.2.2.1 (zpr b sc L)) (hlen : w.length = z0 + k) (hhas : zhas tab a = true)
    (hcall : zcall (zCl tab d) a As St w k n mc ms np L P)
    (hrun : ∀ (mc' ms' : Nat) (Pc : Array Value → State → Prop) (Qc : Array Value → State → Outcome → State → Prop), (zmat tab a).2.2.1 ≤ 16 → 1 ≤ d → Met l (zmat tab a).1 (zws tab (zmat tab a)) (zroom (d - 1) mc' ms') Pc Qc mc' ms' (fun q => b ≤ q) → FrameBlind Pc → (∀ U : State, U.heap = H → s.WarmedH U.vm → Pc (As.map (zv b sc)).toArray U) → (k + mc' ≤ R.cells ∧ n + ms' ≤ R.slots) → va_Run p l e R s m args below meth c H locs k n mc' ms' (F0 m pc ls St0) (St.map (zv b sc)) (Qc (As.map (zv b sc)).toArray) (fun q => b ≤ q)) :
    W p l e R s m args below meth c H locs k n QW (F0 m pc ls St0) := by
  refine zsz fun hle => ?_
  have hHs := z_size hsz hPw hS hlen hle
  obtain ⟨mc', ms', ⟨h1, h2⟩, hC⟩ := hcall
  have hM' := zmat_s hhas
  obtain ⟨hd, hMet⟩ := hsnd a As w mc' ms' _ _ hM' hC
  have hmem : zmat tab a ∈ tab := by rw [zix_eq] at hM'; exact List.mem_of_getElem? hM'
  have h16 : (zmat tab a).2.2.1 ≤ 16 := by
    have h := (htab _ hmem).2.2
    simp only [Bool.and_eq_true] at h
    exact Nat.le_of_ble_eq_true h.1
  refine z_call (hrun mc' ms' _ _ h16 hd (hMet b sc D dA) zPc_blind (fun U hU hW => ⟨rfl, by rw [hU]; exact hHs, by rw [hU]; exact hPw, va_K.moved hW.alike hK, hN.warm hW, hXs.next hS hU hW⟩) ⟨Nat.le_trans h1 hR.2.2.1, Nat.le_trans h2 hR.2.2.2⟩) hS ?_
  intro r w' H1 locs1 hq hw' hP1 hS1
  have hz := hP _ hq H1 locs1 ls hP1 hS1 hl (by dsimp only; omega)
  subst hnp
  refine W.eq (g2 := F0 m (pc + 3) ls ((r.toList ++ St).map (zv b sc))) ?_ hz
  congr 1
  cases r <;> simp
end ZT
