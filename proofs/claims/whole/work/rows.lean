section
-- ===== PART A: goes FIRST, ahead of the names: the tables' words, and 'selects' of the private methods out of them =====
/-- a private method of a class that the tables say can be made, by its rows of tables_1 -/
def lw_okq (q : MethodName × Nat) : Prop := (q.1.cls ≠ "java/lang/invoke/MethodHandle" ∧ q.1.cls ≠ "java/lang/invoke/VarHandle") ∧ Cond.instantiable q.1.cls q.2 ∈ tables_1 ∧ Cond.privateMethod q.1 ∈ tables_1 ∧ Cond.instanceMethod q.1 ∈ tables_1
theorem lw_p0 : lw_okq (⟨"NameRoom$Reader", "begin", "()V"⟩, 8) := ⟨⟨by decide +kernel, by decide +kernel⟩, List.mem_of_getElem? (i := 21) (by decide +kernel), List.mem_of_getElem? (i := 267) (by decide +kernel), List.mem_of_getElem? (i := 268) (by decide +kernel)⟩
theorem lw_p1 : lw_okq (⟨"NameRoom$Reader", "readVariable", "(I)V"⟩, 8) := ⟨⟨by decide +kernel, by decide +kernel⟩, List.mem_of_getElem? (i := 21) (by decide +kernel), List.mem_of_getElem? (i := 271) (by decide +kernel), List.mem_of_getElem? (i := 272) (by decide +kernel)⟩
theorem lw_p2 : lw_okq (⟨"NameRoom$Reader", "fail", "(I)V"⟩, 8) := ⟨⟨by decide +kernel, by decide +kernel⟩, List.mem_of_getElem? (i := 21) (by decide +kernel), List.mem_of_getElem? (i := 283) (by decide +kernel), List.mem_of_getElem? (i := 284) (by decide +kernel)⟩
theorem lw_p3 : lw_okq (⟨"NameRoom$Reader", "add", "(III)V"⟩, 8) := ⟨⟨by decide +kernel, by decide +kernel⟩, List.mem_of_getElem? (i := 21) (by decide +kernel), List.mem_of_getElem? (i := 287) (by decide +kernel), List.mem_of_getElem? (i := 288) (by decide +kernel)⟩
theorem lw_p4 : lw_okq (⟨"NameRoom", "workOut", "(I)Z"⟩, 10) := ⟨⟨by decide +kernel, by decide +kernel⟩, List.mem_of_getElem? (i := 13) (by decide +kernel), List.mem_of_getElem? (i := 291) (by decide +kernel), List.mem_of_getElem? (i := 292) (by decide +kernel)⟩
theorem lw_p5 : lw_okq (⟨"NameRoom", "addTail", "(II)Z"⟩, 10) := ⟨⟨by decide +kernel, by decide +kernel⟩, List.mem_of_getElem? (i := 13) (by decide +kernel), List.mem_of_getElem? (i := 319) (by decide +kernel), List.mem_of_getElem? (i := 320) (by decide +kernel)⟩
theorem lw_p6 : lw_okq (⟨"NameRoom", "give", "(LNameRoom$Row;II)I"⟩, 10) := ⟨⟨by decide +kernel, by decide +kernel⟩, List.mem_of_getElem? (i := 13) (by decide +kernel), List.mem_of_getElem? (i := 355) (by decide +kernel), List.mem_of_getElem? (i := 356) (by decide +kernel)⟩
theorem lw_p7 : lw_okq (⟨"NameRoom$Shelf", "sweep", "()V"⟩, 2) := ⟨⟨by decide +kernel, by decide +kernel⟩, List.mem_of_getElem? (i := 82) (by decide +kernel), List.mem_of_getElem? (i := 368) (by decide +kernel), List.mem_of_getElem? (i := 369) (by decide +kernel)⟩
theorem lw_p8 : lw_okq (⟨"NameRoom", "workOutAlone", "()I"⟩, 10) := ⟨⟨by decide +kernel, by decide +kernel⟩, List.mem_of_getElem? (i := 13) (by decide +kernel), List.mem_of_getElem? (i := 387) (by decide +kernel), List.mem_of_getElem? (i := 388) (by decide +kernel)⟩
theorem lw_p9 : lw_okq (⟨"NameRoom", "told", "()LNameRoom$Entry;"⟩, 10) := ⟨⟨by decide +kernel, by decide +kernel⟩, List.mem_of_getElem? (i := 13) (by decide +kernel), List.mem_of_getElem? (i := 395) (by decide +kernel), List.mem_of_getElem? (i := 396) (by decide +kernel)⟩
theorem lw_p10 : lw_okq (⟨"NameRoom", "stemOf", "(I)LNameRoom$Entry;"⟩, 10) := ⟨⟨by decide +kernel, by decide +kernel⟩, List.mem_of_getElem? (i := 13) (by decide +kernel), List.mem_of_getElem? (i := 399) (by decide +kernel), List.mem_of_getElem? (i := 400) (by decide +kernel)⟩
theorem lw_p11 : lw_okq (⟨"NameRoom", "textOf", "(LNameRoom$Entry;)LNameRoom$Row;"⟩, 10) := ⟨⟨by decide +kernel, by decide +kernel⟩, List.mem_of_getElem? (i := 13) (by decide +kernel), List.mem_of_getElem? (i := 407) (by decide +kernel), List.mem_of_getElem? (i := 408) (by decide +kernel)⟩
theorem lw_p12 : lw_okq (⟨"NameRoom", "takeBack", "()I"⟩, 10) := ⟨⟨by decide +kernel, by decide +kernel⟩, List.mem_of_getElem? (i := 13) (by decide +kernel), List.mem_of_getElem? (i := 424) (by decide +kernel), List.mem_of_getElem? (i := 425) (by decide +kernel)⟩
theorem lw_p13 : lw_okq (⟨"NameRoom", "enterPool", "()I"⟩, 10) := ⟨⟨by decide +kernel, by decide +kernel⟩, List.mem_of_getElem? (i := 13) (by decide +kernel), List.mem_of_getElem? (i := 436) (by decide +kernel), List.mem_of_getElem? (i := 437) (by decide +kernel)⟩
theorem lw_p14 : lw_okq (⟨"NameRoom$Pools", "sees", "(LNameRoom$Row;)Z"⟩, 3) := ⟨⟨by decide +kernel, by decide +kernel⟩, List.mem_of_getElem? (i := 130) (by decide +kernel), List.mem_of_getElem? (i := 457) (by decide +kernel), List.mem_of_getElem? (i := 458) (by decide +kernel)⟩
theorem lw_p15 : lw_okq (⟨"NameRoom$Reader", "readToken", "()V"⟩, 8) := ⟨⟨by decide +kernel, by decide +kernel⟩, List.mem_of_getElem? (i := 21) (by decide +kernel), List.mem_of_getElem? (i := 491) (by decide +kernel), List.mem_of_getElem? (i := 492) (by decide +kernel)⟩
def lw_privs_1 : List (MethodName × Nat) := [(⟨"NameRoom$Reader", "begin", "()V"⟩, 8), (⟨"NameRoom$Reader", "readVariable", "(I)V"⟩, 8), (⟨"NameRoom$Reader", "fail", "(I)V"⟩, 8), (⟨"NameRoom$Reader", "add", "(III)V"⟩, 8), (⟨"NameRoom", "workOut", "(I)Z"⟩, 10), (⟨"NameRoom", "addTail", "(II)Z"⟩, 10), (⟨"NameRoom", "give", "(LNameRoom$Row;II)I"⟩, 10), (⟨"NameRoom$Shelf", "sweep", "()V"⟩, 2), (⟨"NameRoom", "workOutAlone", "()I"⟩, 10), (⟨"NameRoom", "told", "()LNameRoom$Entry;"⟩, 10), (⟨"NameRoom", "stemOf", "(I)LNameRoom$Entry;"⟩, 10), (⟨"NameRoom", "textOf", "(LNameRoom$Entry;)LNameRoom$Row;"⟩, 10), (⟨"NameRoom", "takeBack", "()I"⟩, 10), (⟨"NameRoom", "enterPool", "()I"⟩, 10), (⟨"NameRoom$Pools", "sees", "(LNameRoom$Row;)Z"⟩, 3), (⟨"NameRoom$Reader", "readToken", "()V"⟩, 8)]
theorem lw_r1 : ∀ q ∈ lw_privs_1, lw_okq q := List.forall_mem_cons.mpr ⟨lw_p0, List.forall_mem_cons.mpr ⟨lw_p1, List.forall_mem_cons.mpr ⟨lw_p2, List.forall_mem_cons.mpr ⟨lw_p3, List.forall_mem_cons.mpr ⟨lw_p4, List.forall_mem_cons.mpr ⟨lw_p5, List.forall_mem_cons.mpr ⟨lw_p6, List.forall_mem_cons.mpr ⟨lw_p7, List.forall_mem_cons.mpr ⟨lw_p8, List.forall_mem_cons.mpr ⟨lw_p9, List.forall_mem_cons.mpr ⟨lw_p10, List.forall_mem_cons.mpr ⟨lw_p11, List.forall_mem_cons.mpr ⟨lw_p12, List.forall_mem_cons.mpr ⟨lw_p13, List.forall_mem_cons.mpr ⟨lw_p14, List.forall_mem_cons.mpr ⟨lw_p15, fun _ h => absurd h List.not_mem_nil⟩⟩⟩⟩⟩⟩⟩⟩⟩⟩⟩⟩⟩⟩⟩⟩
theorem lw_p16 : lw_okq (⟨"NameRoom$Reader", "readString", "(I)V"⟩, 8) := ⟨⟨by decide +kernel, by decide +kernel⟩, List.mem_of_getElem? (i := 21) (by decide +kernel), List.mem_of_getElem? (i := 495) (by decide +kernel), List.mem_of_getElem? (i := 496) (by decide +kernel)⟩
theorem lw_p17 : lw_okq (⟨"NameRoom$Reader", "readBracket", "()V"⟩, 8) := ⟨⟨by decide +kernel, by decide +kernel⟩, List.mem_of_getElem? (i := 21) (by decide +kernel), List.mem_of_getElem? (i := 499) (by decide +kernel), List.mem_of_getElem? (i := 500) (by decide +kernel)⟩
theorem lw_p18 : lw_okq (⟨"NameRoom$Reader", "skipBlanks", "()V"⟩, 8) := ⟨⟨by decide +kernel, by decide +kernel⟩, List.mem_of_getElem? (i := 21) (by decide +kernel), List.mem_of_getElem? (i := 503) (by decide +kernel), List.mem_of_getElem? (i := 504) (by decide +kernel)⟩
theorem lw_p19 : lw_okq (⟨"NameRoom$Reader", "readSignedPlace", "(I)V"⟩, 8) := ⟨⟨by decide +kernel, by decide +kernel⟩, List.mem_of_getElem? (i := 21) (by decide +kernel), List.mem_of_getElem? (i := 507) (by decide +kernel), List.mem_of_getElem? (i := 508) (by decide +kernel)⟩
theorem lw_p20 : lw_okq (⟨"NameRoom$Reader", "readPlace", "(I)V"⟩, 8) := ⟨⟨by decide +kernel, by decide +kernel⟩, List.mem_of_getElem? (i := 21) (by decide +kernel), List.mem_of_getElem? (i := 511) (by decide +kernel), List.mem_of_getElem? (i := 512) (by decide +kernel)⟩
theorem lw_p21 : lw_okq (⟨"NameRoom$Reader", "readBareToken", "(I)V"⟩, 8) := ⟨⟨by decide +kernel, by decide +kernel⟩, List.mem_of_getElem? (i := 21) (by decide +kernel), List.mem_of_getElem? (i := 515) (by decide +kernel), List.mem_of_getElem? (i := 516) (by decide +kernel)⟩
theorem lw_p22 : lw_okq (⟨"NameRoom", "cutAt", "(I)I"⟩, 10) := ⟨⟨by decide +kernel, by decide +kernel⟩, List.mem_of_getElem? (i := 13) (by decide +kernel), List.mem_of_getElem? (i := 531) (by decide +kernel), List.mem_of_getElem? (i := 532) (by decide +kernel)⟩
theorem lw_p23 : lw_okq (⟨"NameRoom$Cutter", "placeOf", "(LNameRoom$Row;)I"⟩, 7) := ⟨⟨by decide +kernel, by decide +kernel⟩, List.mem_of_getElem? (i := 169) (by decide +kernel), List.mem_of_getElem? (i := 548) (by decide +kernel), List.mem_of_getElem? (i := 549) (by decide +kernel)⟩
theorem lw_p24 : lw_okq (⟨"NameRoom", "handOver", "(IZ)I"⟩, 10) := ⟨⟨by decide +kernel, by decide +kernel⟩, List.mem_of_getElem? (i := 13) (by decide +kernel), List.mem_of_getElem? (i := 570) (by decide +kernel), List.mem_of_getElem? (i := 571) (by decide +kernel)⟩
theorem lw_p25 : lw_okq (⟨"NameRoomModel", "four", "(I)V"⟩, 31) := ⟨⟨by decide +kernel, by decide +kernel⟩, List.mem_of_getElem? (i := 600) (by decide +kernel), List.mem_of_getElem? (i := 704) (by decide +kernel), List.mem_of_getElem? (i := 705) (by decide +kernel)⟩
theorem lw_p26 : lw_okq (⟨"NameRoomModel", "take", "()V"⟩, 31) := ⟨⟨by decide +kernel, by decide +kernel⟩, List.mem_of_getElem? (i := 600) (by decide +kernel), List.mem_of_getElem? (i := 720) (by decide +kernel), List.mem_of_getElem? (i := 721) (by decide +kernel)⟩
theorem lw_p27 : lw_okq (⟨"NameRoomModel", "variable", "()V"⟩, 31) := ⟨⟨by decide +kernel, by decide +kernel⟩, List.mem_of_getElem? (i := 600) (by decide +kernel), List.mem_of_getElem? (i := 724) (by decide +kernel), List.mem_of_getElem? (i := 725) (by decide +kernel)⟩
theorem lw_p28 : lw_okq (⟨"NameRoomModel", "here", "()I"⟩, 31) := ⟨⟨by decide +kernel, by decide +kernel⟩, List.mem_of_getElem? (i := 600) (by decide +kernel), List.mem_of_getElem? (i := 728) (by decide +kernel), List.mem_of_getElem? (i := 729) (by decide +kernel)⟩
theorem lw_p29 : lw_okq (⟨"NameRoomModel", "fail", "(I)V"⟩, 31) := ⟨⟨by decide +kernel, by decide +kernel⟩, List.mem_of_getElem? (i := 600) (by decide +kernel), List.mem_of_getElem? (i := 738) (by decide +kernel), List.mem_of_getElem? (i := 739) (by decide +kernel)⟩
theorem lw_p30 : lw_okq (⟨"NameRoomModel", "nameOf", "(II)Z"⟩, 31) := ⟨⟨by decide +kernel, by decide +kernel⟩, List.mem_of_getElem? (i := 600) (by decide +kernel), List.mem_of_getElem? (i := 742) (by decide +kernel), List.mem_of_getElem? (i := 743) (by decide +kernel)⟩
theorem lw_p31 : lw_okq (⟨"NameRoomModel", "told", "(II)I"⟩, 31) := ⟨⟨by decide +kernel, by decide +kernel⟩, List.mem_of_getElem? (i := 600) (by decide +kernel), List.mem_of_getElem? (i := 749) (by decide +kernel), List.mem_of_getElem? (i := 750) (by decide +kernel)⟩
def lw_privs_2 : List (MethodName × Nat) := [(⟨"NameRoom$Reader", "readString", "(I)V"⟩, 8), (⟨"NameRoom$Reader", "readBracket", "()V"⟩, 8), (⟨"NameRoom$Reader", "skipBlanks", "()V"⟩, 8), (⟨"NameRoom$Reader", "readSignedPlace", "(I)V"⟩, 8), (⟨"NameRoom$Reader", "readPlace", "(I)V"⟩, 8), (⟨"NameRoom$Reader", "readBareToken", "(I)V"⟩, 8), (⟨"NameRoom", "cutAt", "(I)I"⟩, 10), (⟨"NameRoom$Cutter", "placeOf", "(LNameRoom$Row;)I"⟩, 7), (⟨"NameRoom", "handOver", "(IZ)I"⟩, 10), (⟨"NameRoomModel", "four", "(I)V"⟩, 31), (⟨"NameRoomModel", "take", "()V"⟩, 31), (⟨"NameRoomModel", "variable", "()V"⟩, 31), (⟨"NameRoomModel", "here", "()I"⟩, 31), (⟨"NameRoomModel", "fail", "(I)V"⟩, 31), (⟨"NameRoomModel", "nameOf", "(II)Z"⟩, 31), (⟨"NameRoomModel", "told", "(II)I"⟩, 31)]
theorem lw_r2 : ∀ q ∈ lw_privs_2, lw_okq q := List.forall_mem_cons.mpr ⟨lw_p16, List.forall_mem_cons.mpr ⟨lw_p17, List.forall_mem_cons.mpr ⟨lw_p18, List.forall_mem_cons.mpr ⟨lw_p19, List.forall_mem_cons.mpr ⟨lw_p20, List.forall_mem_cons.mpr ⟨lw_p21, List.forall_mem_cons.mpr ⟨lw_p22, List.forall_mem_cons.mpr ⟨lw_p23, List.forall_mem_cons.mpr ⟨lw_p24, List.forall_mem_cons.mpr ⟨lw_p25, List.forall_mem_cons.mpr ⟨lw_p26, List.forall_mem_cons.mpr ⟨lw_p27, List.forall_mem_cons.mpr ⟨lw_p28, List.forall_mem_cons.mpr ⟨lw_p29, List.forall_mem_cons.mpr ⟨lw_p30, List.forall_mem_cons.mpr ⟨lw_p31, fun _ h => absurd h List.not_mem_nil⟩⟩⟩⟩⟩⟩⟩⟩⟩⟩⟩⟩⟩⟩⟩⟩
theorem lw_p32 : lw_okq (⟨"NameRoomModel", "add", "(I)V"⟩, 31) := ⟨⟨by decide +kernel, by decide +kernel⟩, List.mem_of_getElem? (i := 600) (by decide +kernel), List.mem_of_getElem? (i := 753) (by decide +kernel), List.mem_of_getElem? (i := 754) (by decide +kernel)⟩
theorem lw_p33 : lw_okq (⟨"NameRoomModel", "tells", "()I"⟩, 31) := ⟨⟨by decide +kernel, by decide +kernel⟩, List.mem_of_getElem? (i := 600) (by decide +kernel), List.mem_of_getElem? (i := 757) (by decide +kernel), List.mem_of_getElem? (i := 758) (by decide +kernel)⟩
theorem lw_p34 : lw_okq (⟨"NameRoomModel", "poolOf", "(II)I"⟩, 31) := ⟨⟨by decide +kernel, by decide +kernel⟩, List.mem_of_getElem? (i := 600) (by decide +kernel), List.mem_of_getElem? (i := 761) (by decide +kernel), List.mem_of_getElem? (i := 762) (by decide +kernel)⟩
theorem lw_p35 : lw_okq (⟨"NameRoomModel", "isStem", "(I)Z"⟩, 31) := ⟨⟨by decide +kernel, by decide +kernel⟩, List.mem_of_getElem? (i := 600) (by decide +kernel), List.mem_of_getElem? (i := 765) (by decide +kernel), List.mem_of_getElem? (i := 766) (by decide +kernel)⟩
theorem lw_p36 : lw_okq (⟨"NameRoomModel", "isAlike", "(II)Z"⟩, 31) := ⟨⟨by decide +kernel, by decide +kernel⟩, List.mem_of_getElem? (i := 600) (by decide +kernel), List.mem_of_getElem? (i := 769) (by decide +kernel), List.mem_of_getElem? (i := 770) (by decide +kernel)⟩
theorem lw_p37 : lw_okq (⟨"NameRoomModel", "entry", "(II)I"⟩, 31) := ⟨⟨by decide +kernel, by decide +kernel⟩, List.mem_of_getElem? (i := 600) (by decide +kernel), List.mem_of_getElem? (i := 773) (by decide +kernel), List.mem_of_getElem? (i := 774) (by decide +kernel)⟩
theorem lw_p38 : lw_okq (⟨"NameRoomModel", "stem", "()I"⟩, 31) := ⟨⟨by decide +kernel, by decide +kernel⟩, List.mem_of_getElem? (i := 600) (by decide +kernel), List.mem_of_getElem? (i := 777) (by decide +kernel), List.mem_of_getElem? (i := 778) (by decide +kernel)⟩
theorem lw_p39 : lw_okq (⟨"NameRoomModel", "assign", "(ZII)Z"⟩, 31) := ⟨⟨by decide +kernel, by decide +kernel⟩, List.mem_of_getElem? (i := 600) (by decide +kernel), List.mem_of_getElem? (i := 781) (by decide +kernel), List.mem_of_getElem? (i := 782) (by decide +kernel)⟩
theorem lw_p40 : lw_okq (⟨"NameRoomModel", "clear", "(I)V"⟩, 31) := ⟨⟨by decide +kernel, by decide +kernel⟩, List.mem_of_getElem? (i := 600) (by decide +kernel), List.mem_of_getElem? (i := 785) (by decide +kernel), List.mem_of_getElem? (i := 786) (by decide +kernel)⟩
theorem lw_p41 : lw_okq (⟨"NameRoomModel", "remove", "(I)V"⟩, 31) := ⟨⟨by decide +kernel, by decide +kernel⟩, List.mem_of_getElem? (i := 600) (by decide +kernel), List.mem_of_getElem? (i := 789) (by decide +kernel), List.mem_of_getElem? (i := 790) (by decide +kernel)⟩
theorem lw_p42 : lw_okq (⟨"NameRoomModel", "place", "(I)I"⟩, 31) := ⟨⟨by decide +kernel, by decide +kernel⟩, List.mem_of_getElem? (i := 600) (by decide +kernel), List.mem_of_getElem? (i := 793) (by decide +kernel), List.mem_of_getElem? (i := 794) (by decide +kernel)⟩
theorem lw_p43 : lw_okq (⟨"NameRoomModel", "one", "()I"⟩, 31) := ⟨⟨by decide +kernel, by decide +kernel⟩, List.mem_of_getElem? (i := 600) (by decide +kernel), List.mem_of_getElem? (i := 801) (by decide +kernel), List.mem_of_getElem? (i := 802) (by decide +kernel)⟩
theorem lw_p44 : lw_okq (⟨"NameRoomModel", "write", "([III)V"⟩, 31) := ⟨⟨by decide +kernel, by decide +kernel⟩, List.mem_of_getElem? (i := 600) (by decide +kernel), List.mem_of_getElem? (i := 805) (by decide +kernel), List.mem_of_getElem? (i := 806) (by decide +kernel)⟩
theorem lw_p45 : lw_okq (⟨"NameRoomModel", "variables", "(I)I"⟩, 31) := ⟨⟨by decide +kernel, by decide +kernel⟩, List.mem_of_getElem? (i := 600) (by decide +kernel), List.mem_of_getElem? (i := 817) (by decide +kernel), List.mem_of_getElem? (i := 818) (by decide +kernel)⟩
theorem lw_p46 : lw_okq (⟨"NameRoomModel", "wordEnd", "(I)I"⟩, 31) := ⟨⟨by decide +kernel, by decide +kernel⟩, List.mem_of_getElem? (i := 600) (by decide +kernel), List.mem_of_getElem? (i := 821) (by decide +kernel), List.mem_of_getElem? (i := 822) (by decide +kernel)⟩
theorem lw_p47 : lw_okq (⟨"NameRoomModel", "lose", "()Z"⟩, 31) := ⟨⟨by decide +kernel, by decide +kernel⟩, List.mem_of_getElem? (i := 600) (by decide +kernel), List.mem_of_getElem? (i := 825) (by decide +kernel), List.mem_of_getElem? (i := 826) (by decide +kernel)⟩
def lw_privs_3 : List (MethodName × Nat) := [(⟨"NameRoomModel", "add", "(I)V"⟩, 31), (⟨"NameRoomModel", "tells", "()I"⟩, 31), (⟨"NameRoomModel", "poolOf", "(II)I"⟩, 31), (⟨"NameRoomModel", "isStem", "(I)Z"⟩, 31), (⟨"NameRoomModel", "isAlike", "(II)Z"⟩, 31), (⟨"NameRoomModel", "entry", "(II)I"⟩, 31), (⟨"NameRoomModel", "stem", "()I"⟩, 31), (⟨"NameRoomModel", "assign", "(ZII)Z"⟩, 31), (⟨"NameRoomModel", "clear", "(I)V"⟩, 31), (⟨"NameRoomModel", "remove", "(I)V"⟩, 31), (⟨"NameRoomModel", "place", "(I)I"⟩, 31), (⟨"NameRoomModel", "one", "()I"⟩, 31), (⟨"NameRoomModel", "write", "([III)V"⟩, 31), (⟨"NameRoomModel", "variables", "(I)I"⟩, 31), (⟨"NameRoomModel", "wordEnd", "(I)I"⟩, 31), (⟨"NameRoomModel", "lose", "()Z"⟩, 31)]
theorem lw_r3 : ∀ q ∈ lw_privs_3, lw_okq q := List.forall_mem_cons.mpr ⟨lw_p32, List.forall_mem_cons.mpr ⟨lw_p33, List.forall_mem_cons.mpr ⟨lw_p34, List.forall_mem_cons.mpr ⟨lw_p35, List.forall_mem_cons.mpr ⟨lw_p36, List.forall_mem_cons.mpr ⟨lw_p37, List.forall_mem_cons.mpr ⟨lw_p38, List.forall_mem_cons.mpr ⟨lw_p39, List.forall_mem_cons.mpr ⟨lw_p40, List.forall_mem_cons.mpr ⟨lw_p41, List.forall_mem_cons.mpr ⟨lw_p42, List.forall_mem_cons.mpr ⟨lw_p43, List.forall_mem_cons.mpr ⟨lw_p44, List.forall_mem_cons.mpr ⟨lw_p45, List.forall_mem_cons.mpr ⟨lw_p46, List.forall_mem_cons.mpr ⟨lw_p47, fun _ h => absurd h List.not_mem_nil⟩⟩⟩⟩⟩⟩⟩⟩⟩⟩⟩⟩⟩⟩⟩⟩
theorem lw_p48 : lw_okq (⟨"NameRoomModel", "blanks", "()V"⟩, 31) := ⟨⟨by decide +kernel, by decide +kernel⟩, List.mem_of_getElem? (i := 600) (by decide +kernel), List.mem_of_getElem? (i := 845) (by decide +kernel), List.mem_of_getElem? (i := 846) (by decide +kernel)⟩
theorem lw_p49 : lw_okq (⟨"NameRoomModel", "token", "()V"⟩, 31) := ⟨⟨by decide +kernel, by decide +kernel⟩, List.mem_of_getElem? (i := 600) (by decide +kernel), List.mem_of_getElem? (i := 849) (by decide +kernel), List.mem_of_getElem? (i := 850) (by decide +kernel)⟩
theorem lw_p50 : lw_okq (⟨"NameRoomModel", "string", "()V"⟩, 31) := ⟨⟨by decide +kernel, by decide +kernel⟩, List.mem_of_getElem? (i := 600) (by decide +kernel), List.mem_of_getElem? (i := 853) (by decide +kernel), List.mem_of_getElem? (i := 854) (by decide +kernel)⟩
theorem lw_p51 : lw_okq (⟨"NameRoomModel", "number", "()I"⟩, 31) := ⟨⟨by decide +kernel, by decide +kernel⟩, List.mem_of_getElem? (i := 600) (by decide +kernel), List.mem_of_getElem? (i := 857) (by decide +kernel), List.mem_of_getElem? (i := 858) (by decide +kernel)⟩
theorem lw_p52 : lw_okq (⟨"NameRoomModel", "cut", "()I"⟩, 31) := ⟨⟨by decide +kernel, by decide +kernel⟩, List.mem_of_getElem? (i := 600) (by decide +kernel), List.mem_of_getElem? (i := 861) (by decide +kernel), List.mem_of_getElem? (i := 862) (by decide +kernel)⟩
theorem lw_p53 : lw_okq (⟨"NameRoomModel", "look", "()V"⟩, 31) := ⟨⟨by decide +kernel, by decide +kernel⟩, List.mem_of_getElem? (i := 600) (by decide +kernel), List.mem_of_getElem? (i := 865) (by decide +kernel), List.mem_of_getElem? (i := 866) (by decide +kernel)⟩
theorem lw_p54 : lw_okq (⟨"NameRoomModel", "pattern", "(I)I"⟩, 31) := ⟨⟨by decide +kernel, by decide +kernel⟩, List.mem_of_getElem? (i := 600) (by decide +kernel), List.mem_of_getElem? (i := 869) (by decide +kernel), List.mem_of_getElem? (i := 870) (by decide +kernel)⟩
theorem lw_p55 : lw_okq (⟨"NameRoomModel", "held", "(I)I"⟩, 31) := ⟨⟨by decide +kernel, by decide +kernel⟩, List.mem_of_getElem? (i := 600) (by decide +kernel), List.mem_of_getElem? (i := 873) (by decide +kernel), List.mem_of_getElem? (i := 874) (by decide +kernel)⟩
theorem lw_p56 : lw_okq (⟨"NameRoomModel", "give", "(IIIII)I"⟩, 31) := ⟨⟨by decide +kernel, by decide +kernel⟩, List.mem_of_getElem? (i := 600) (by decide +kernel), List.mem_of_getElem? (i := 877) (by decide +kernel), List.mem_of_getElem? (i := 878) (by decide +kernel)⟩
def lw_privs_4 : List (MethodName × Nat) := [(⟨"NameRoomModel", "blanks", "()V"⟩, 31), (⟨"NameRoomModel", "token", "()V"⟩, 31), (⟨"NameRoomModel", "string", "()V"⟩, 31), (⟨"NameRoomModel", "number", "()I"⟩, 31), (⟨"NameRoomModel", "cut", "()I"⟩, 31), (⟨"NameRoomModel", "look", "()V"⟩, 31), (⟨"NameRoomModel", "pattern", "(I)I"⟩, 31), (⟨"NameRoomModel", "held", "(I)I"⟩, 31), (⟨"NameRoomModel", "give", "(IIIII)I"⟩, 31)]
theorem lw_r4 : ∀ q ∈ lw_privs_4, lw_okq q := List.forall_mem_cons.mpr ⟨lw_p48, List.forall_mem_cons.mpr ⟨lw_p49, List.forall_mem_cons.mpr ⟨lw_p50, List.forall_mem_cons.mpr ⟨lw_p51, List.forall_mem_cons.mpr ⟨lw_p52, List.forall_mem_cons.mpr ⟨lw_p53, List.forall_mem_cons.mpr ⟨lw_p54, List.forall_mem_cons.mpr ⟨lw_p55, List.forall_mem_cons.mpr ⟨lw_p56, fun _ h => absurd h List.not_mem_nil⟩⟩⟩⟩⟩⟩⟩⟩⟩
def lw_privs : List (MethodName × Nat) := lw_privs_1 ++ (lw_privs_2 ++ (lw_privs_3 ++ (lw_privs_4)))
def lw_tbl : List Cond := k2_sels lw_privs ++ tables_1
theorem lw_privs_ok : ∀ q ∈ lw_privs, lw_okq q := by
  show ∀ q ∈ lw_privs_1 ++ (lw_privs_2 ++ (lw_privs_3 ++ (lw_privs_4))), lw_okq q
  exact List.forall_mem_append.mpr ⟨lw_r1, List.forall_mem_append.mpr ⟨lw_r2, List.forall_mem_append.mpr ⟨lw_r3, lw_r4⟩⟩⟩
/-- the words that stay true in every later state by themselves -/
def lw_g : List Cond := lw_tbl.filter goodWord
theorem lw_gt {w : Cond} (h : w ∈ lw_g) : w ∈ lw_tbl := (List.mem_filter.mp h).1
theorem lw_in {w : Cond} (i : Nat) (hg : goodWord w = true) (h : tables_1[i]? = some w) : w ∈ lw_g := List.mem_filter.mpr ⟨List.mem_append_right _ (List.mem_of_getElem? h), hg⟩
theorem lw_ip {w : Cond} (i : Nat) (hg : goodWord w = true) (h : (k2_sels lw_privs)[i]? = some w) : w ∈ lw_g := List.mem_filter.mpr ⟨List.mem_append_left _ (List.mem_of_getElem? h), hg⟩
end
section
abbrev xM : Type := MethodName × ByteArray × Nat × Option FieldType
def R_Row : String := "NameRoom$Row"
def F_Row : u_T := fun k => match k with
  | 0 => ("NameRoom$Row", "bytes", "[B", true)
  | _ => ("NameRoom$Row", "length", "I", false)
def t_Row : Nat → FieldType := fun k => match k with
  | 0 => .array (.byte)
  | _ => .int
def R_Ent : String := "NameRoom$Entry"
def F_Ent : u_T := fun k => match k with
  | 0 => ("NameRoom$Entry", "title", "LNameRoom$Row;", true)
  | 1 => ("NameRoom$Entry", "held", "LNameRoom$Row;", true)
  | 2 => ("NameRoom$Entry", "pool", "I", false)
  | 3 => ("NameRoom$Entry", "gone", "Z", false)
  | _ => ("NameRoom$Entry", "leaves", "Z", false)
def t_Ent : Nat → FieldType := fun k => match k with
  | 0 => .object "NameRoom$Row"
  | 1 => .object "NameRoom$Row"
  | 2 => .int
  | 3 => .boolean
  | _ => .boolean
def R_She : String := "NameRoom$Shelf"
def F_She : u_T := fun k => match k with
  | 0 => ("NameRoom$Shelf", "entries", "[LNameRoom$Entry;", true)
  | _ => ("NameRoom$Shelf", "size", "I", false)
def t_She : Nat → FieldType := fun k => match k with
  | 0 => .array (.object "NameRoom$Entry")
  | _ => .int
def R_Sig : String := "NameRoom$Sight"
def F_Sig : u_T := fun k => match k with
  | 0 => ("NameRoom$Sight", "title", "LNameRoom$Row;", true)
  | 1 => ("NameRoom$Sight", "pool", "I", false)
  | _ => ("NameRoom$Sight", "withTails", "Z", false)
def t_Sig : Nat → FieldType := fun k => match k with
  | 0 => .object "NameRoom$Row"
  | 1 => .int
  | _ => .boolean
def R_Poo : String := "NameRoom$Pools"
def F_Poo : u_T := fun k => match k with
  | 0 => ("NameRoom$Pools", "sights", "[LNameRoom$Sight;", true)
  | 1 => ("NameRoom$Pools", "size", "I", false)
  | _ => ("NameRoom$Pools", "depth", "I", false)
def t_Poo : Nat → FieldType := fun k => match k with
  | 0 => .array (.object "NameRoom$Sight")
  | 1 => .int
  | _ => .int
def R_Rea : String := "NameRoom$Reader"
def F_Rea : u_T := fun k => match k with
  | 0 => ("NameRoom$Reader", "text", "LNameRoom$Row;", true)
  | 1 => ("NameRoom$Reader", "kinds", "[I", true)
  | 2 => ("NameRoom$Reader", "starts", "[I", true)
  | 3 => ("NameRoom$Reader", "stops", "[I", true)
  | 4 => ("NameRoom$Reader", "size", "I", false)
  | 5 => ("NameRoom$Reader", "targets", "I", false)
  | 6 => ("NameRoom$Reader", "at", "I", false)
  | _ => ("NameRoom$Reader", "answer", "I", false)
def t_Rea : Nat → FieldType := fun k => match k with
  | 0 => .object "NameRoom$Row"
  | 1 => .array (.int)
  | 2 => .array (.int)
  | 3 => .array (.int)
  | 4 => .int
  | 5 => .int
  | 6 => .int
  | _ => .int
def R_Cut : String := "NameRoom$Cutter"
def F_Cut : u_T := fun k => match k with
  | 0 => ("NameRoom$Cutter", "subject", "LNameRoom$Row;", true)
  | 1 => ("NameRoom$Cutter", "from", "I", false)
  | 2 => ("NameRoom$Cutter", "began", "I", false)
  | 3 => ("NameRoom$Cutter", "shareFrom", "I", false)
  | 4 => ("NameRoom$Cutter", "shareTo", "I", false)
  | 5 => ("NameRoom$Cutter", "partFrom", "I", false)
  | _ => ("NameRoom$Cutter", "partTo", "I", false)
def t_Cut : Nat → FieldType := fun k => match k with
  | 0 => .object "NameRoom$Row"
  | 1 => .int
  | 2 => .int
  | 3 => .int
  | 4 => .int
  | 5 => .int
  | _ => .int
def R_Nam : String := "NameRoom"
def F_Nam : u_T := fun k => match k with
  | 0 => ("NameRoom", "tape", "LNameRoom$Row;", true)
  | 1 => ("NameRoom", "written", "LNameRoom$Row;", true)
  | 2 => ("NameRoom", "full", "LNameRoom$Row;", true)
  | 3 => ("NameRoom", "stem", "LNameRoom$Row;", true)
  | 4 => ("NameRoom", "tail", "LNameRoom$Row;", true)
  | 5 => ("NameRoom", "pattern", "LNameRoom$Row;", true)
  | 6 => ("NameRoom", "reader", "LNameRoom$Reader;", true)
  | 7 => ("NameRoom", "shelf", "LNameRoom$Shelf;", true)
  | 8 => ("NameRoom", "pools", "LNameRoom$Pools;", true)
  | _ => ("NameRoom", "cutter", "LNameRoom$Cutter;", true)
def t_Nam : Nat → FieldType := fun k => match k with
  | 0 => .object "NameRoom$Row"
  | 1 => .object "NameRoom$Row"
  | 2 => .object "NameRoom$Row"
  | 3 => .object "NameRoom$Row"
  | 4 => .object "NameRoom$Row"
  | 5 => .object "NameRoom$Row"
  | 6 => .object "NameRoom$Reader"
  | 7 => .object "NameRoom$Shelf"
  | 8 => .object "NameRoom$Pools"
  | _ => .object "NameRoom$Cutter"
def R_Mod : String := "NameRoomModel"
def F_Mod : u_T := fun k => match k with
  | 0 => ("NameRoomModel", "tape", "[I", true)
  | 1 => ("NameRoomModel", "text", "[I", true)
  | 2 => ("NameRoomModel", "out", "[I", true)
  | 3 => ("NameRoomModel", "full", "[I", true)
  | 4 => ("NameRoomModel", "taped", "I", false)
  | 5 => ("NameRoomModel", "size", "I", false)
  | 6 => ("NameRoomModel", "written", "I", false)
  | 7 => ("NameRoomModel", "length", "I", false)
  | 8 => ("NameRoomModel", "names", "[I", true)
  | 9 => ("NameRoomModel", "nameSize", "[I", true)
  | 10 => ("NameRoomModel", "values", "[I", true)
  | 11 => ("NameRoomModel", "valueSize", "[I", true)
  | 12 => ("NameRoomModel", "pools", "[I", true)
  | 13 => ("NameRoomModel", "many", "I", false)
  | 14 => ("NameRoomModel", "seen", "[I", true)
  | 15 => ("NameRoomModel", "seenSize", "[I", true)
  | 16 => ("NameRoomModel", "sees", "[I", true)
  | 17 => ("NameRoomModel", "pool", "I", false)
  | 18 => ("NameRoomModel", "subject", "[I", true)
  | 19 => ("NameRoomModel", "found", "[I", true)
  | 20 => ("NameRoomModel", "subjectSize", "I", false)
  | 21 => ("NameRoomModel", "foundSize", "I", false)
  | 22 => ("NameRoomModel", "from", "I", false)
  | 23 => ("NameRoomModel", "began", "I", false)
  | 24 => ("NameRoomModel", "wrong", "I", false)
  | 25 => ("NameRoomModel", "next", "I", false)
  | 26 => ("NameRoomModel", "kept", "[I", true)
  | 27 => ("NameRoomModel", "kind", "I", false)
  | 28 => ("NameRoomModel", "first", "I", false)
  | 29 => ("NameRoomModel", "last", "I", false)
  | _ => ("NameRoomModel", "value", "I", false)
def t_Mod : Nat → FieldType := fun k => match k with
  | 0 => .array (.int)
  | 1 => .array (.int)
  | 2 => .array (.int)
  | 3 => .array (.int)
  | 4 => .int
  | 5 => .int
  | 6 => .int
  | 7 => .int
  | 8 => .array (.int)
  | 9 => .array (.int)
  | 10 => .array (.int)
  | 11 => .array (.int)
  | 12 => .array (.int)
  | 13 => .int
  | 14 => .array (.int)
  | 15 => .array (.int)
  | 16 => .array (.int)
  | 17 => .int
  | 18 => .array (.int)
  | 19 => .array (.int)
  | 20 => .int
  | 21 => .int
  | 22 => .int
  | 23 => .int
  | 24 => .int
  | 25 => .int
  | 26 => .array (.int)
  | 27 => .int
  | 28 => .int
  | 29 => .int
  | _ => .int
abbrev classes : List vw_C := [(R_Row, F_Row, 2), (R_Ent, F_Ent, 5), (R_She, F_She, 2), (R_Sig, F_Sig, 3), (R_Poo, F_Poo, 3), (R_Rea, F_Rea, 8), (R_Cut, F_Cut, 7), (R_Nam, F_Nam, 10), (R_Mod, F_Mod, 31)]
/-- the kinds of arrays: bytes, ints, entries, sights -/
def xTy : List FieldType := [.byte, .int, .object "NameRoom$Entry", .object "NameRoom$Sight"]
theorem kn_Row : ∀ a, a < 2 → ∀ b, b < 2 → a ≠ b → (F_Row a).2.1 ≠ (F_Row b).2.1 := by decide +kernel
theorem kt_Row : ∀ k, k < 2 → parseFieldDescriptor (F_Row k).2.2.1 = some (t_Row k) := by decide +kernel
theorem ki_Row : ∀ w ∈ u_ws R_Row F_Row 2, w ∈ lw_g := by
  intro w hw0
  have hw := hw0
  have h : u_ws R_Row F_Row 2 = [43, 45].filterMap (fun i => tables_1[i]?) := by decide +kernel
  rw [h] at hw
  obtain ⟨i, -, hi⟩ := List.mem_filterMap.mp hw
  exact lw_in i (List.all_eq_true.mp (show (u_ws R_Row F_Row 2).all goodWord = true from by decide +kernel) w hw0) hi
theorem kw_Row : Cond.instantiable R_Row 2 ∈ lw_g := lw_in 27 rfl (by decide +kernel)
theorem kz_Row : Cond.initialized R_Row ∈ lw_g := lw_in 3 rfl (by decide +kernel)
theorem kn_Ent : ∀ a, a < 5 → ∀ b, b < 5 → a ≠ b → (F_Ent a).2.1 ≠ (F_Ent b).2.1 := by decide +kernel
theorem kt_Ent : ∀ k, k < 5 → parseFieldDescriptor (F_Ent k).2.2.1 = some (t_Ent k) := by decide +kernel
theorem ki_Ent : ∀ w ∈ u_ws R_Ent F_Ent 5, w ∈ lw_g := by
  intro w hw0
  have hw := hw0
  have h : u_ws R_Ent F_Ent 5 = [110, 112, 114, 116, 118].filterMap (fun i => tables_1[i]?) := by decide +kernel
  rw [h] at hw
  obtain ⟨i, -, hi⟩ := List.mem_filterMap.mp hw
  exact lw_in i (List.all_eq_true.mp (show (u_ws R_Ent F_Ent 5).all goodWord = true from by decide +kernel) w hw0) hi
theorem kw_Ent : Cond.instantiable R_Ent 5 ∈ lw_g := lw_in 89 rfl (by decide +kernel)
theorem kz_Ent : Cond.initialized R_Ent ∈ lw_g := lw_in 6 rfl (by decide +kernel)
theorem kn_She : ∀ a, a < 2 → ∀ b, b < 2 → a ≠ b → (F_She a).2.1 ≠ (F_She b).2.1 := by decide +kernel
theorem kt_She : ∀ k, k < 2 → parseFieldDescriptor (F_She k).2.2.1 = some (t_She k) := by decide +kernel
theorem ki_She : ∀ w ∈ u_ws R_She F_She 2, w ∈ lw_g := by
  intro w hw0
  have hw := hw0
  have h : u_ws R_She F_She 2 = [124, 126].filterMap (fun i => tables_1[i]?) := by decide +kernel
  rw [h] at hw
  obtain ⟨i, -, hi⟩ := List.mem_filterMap.mp hw
  exact lw_in i (List.all_eq_true.mp (show (u_ws R_She F_She 2).all goodWord = true from by decide +kernel) w hw0) hi
theorem kw_She : Cond.instantiable R_She 2 ∈ lw_g := lw_in 82 rfl (by decide +kernel)
theorem kz_She : Cond.initialized R_She ∈ lw_g := lw_in 5 rfl (by decide +kernel)
theorem kn_Sig : ∀ a, a < 3 → ∀ b, b < 3 → a ≠ b → (F_Sig a).2.1 ≠ (F_Sig b).2.1 := by decide +kernel
theorem kt_Sig : ∀ k, k < 3 → parseFieldDescriptor (F_Sig k).2.2.1 = some (t_Sig k) := by decide +kernel
theorem ki_Sig : ∀ w ∈ u_ws R_Sig F_Sig 3, w ∈ lw_g := by
  intro w hw0
  have hw := hw0
  have h : u_ws R_Sig F_Sig 3 = [150, 152, 154].filterMap (fun i => tables_1[i]?) := by decide +kernel
  rw [h] at hw
  obtain ⟨i, -, hi⟩ := List.mem_filterMap.mp hw
  exact lw_in i (List.all_eq_true.mp (show (u_ws R_Sig F_Sig 3).all goodWord = true from by decide +kernel) w hw0) hi
theorem kw_Sig : Cond.instantiable R_Sig 3 ∈ lw_g := lw_in 137 rfl (by decide +kernel)
theorem kz_Sig : Cond.initialized R_Sig ∈ lw_g := lw_in 8 rfl (by decide +kernel)
theorem kn_Poo : ∀ a, a < 3 → ∀ b, b < 3 → a ≠ b → (F_Poo a).2.1 ≠ (F_Poo b).2.1 := by decide +kernel
theorem kt_Poo : ∀ k, k < 3 → parseFieldDescriptor (F_Poo k).2.2.1 = some (t_Poo k) := by decide +kernel
theorem ki_Poo : ∀ w ∈ u_ws R_Poo F_Poo 3, w ∈ lw_g := by
  intro w hw0
  have hw := hw0
  have h : u_ws R_Poo F_Poo 3 = [161, 163, 165].filterMap (fun i => tables_1[i]?) := by decide +kernel
  rw [h] at hw
  obtain ⟨i, -, hi⟩ := List.mem_filterMap.mp hw
  exact lw_in i (List.all_eq_true.mp (show (u_ws R_Poo F_Poo 3).all goodWord = true from by decide +kernel) w hw0) hi
theorem kw_Poo : Cond.instantiable R_Poo 3 ∈ lw_g := lw_in 130 rfl (by decide +kernel)
theorem kz_Poo : Cond.initialized R_Poo ∈ lw_g := lw_in 7 rfl (by decide +kernel)
theorem kn_Rea : ∀ a, a < 8 → ∀ b, b < 8 → a ≠ b → (F_Rea a).2.1 ≠ (F_Rea b).2.1 := by decide +kernel
theorem kt_Rea : ∀ k, k < 8 → parseFieldDescriptor (F_Rea k).2.2.1 = some (t_Rea k) := by decide +kernel
theorem ki_Rea : ∀ w ∈ u_ws R_Rea F_Rea 8, w ∈ lw_g := by
  intro w hw0
  have hw := hw0
  have h : u_ws R_Rea F_Rea 8 = [61, 63, 65, 67, 69, 71, 73, 75].filterMap (fun i => tables_1[i]?) := by decide +kernel
  rw [h] at hw
  obtain ⟨i, -, hi⟩ := List.mem_filterMap.mp hw
  exact lw_in i (List.all_eq_true.mp (show (u_ws R_Rea F_Rea 8).all goodWord = true from by decide +kernel) w hw0) hi
theorem kw_Rea : Cond.instantiable R_Rea 8 ∈ lw_g := lw_in 21 rfl (by decide +kernel)
theorem kz_Rea : Cond.initialized R_Rea ∈ lw_g := lw_in 2 rfl (by decide +kernel)
theorem kn_Cut : ∀ a, a < 7 → ∀ b, b < 7 → a ≠ b → (F_Cut a).2.1 ≠ (F_Cut b).2.1 := by decide +kernel
theorem kt_Cut : ∀ k, k < 7 → parseFieldDescriptor (F_Cut k).2.2.1 = some (t_Cut k) := by decide +kernel
theorem ki_Cut : ∀ w ∈ u_ws R_Cut F_Cut 7, w ∈ lw_g := by
  intro w hw0
  have hw := hw0
  have h : u_ws R_Cut F_Cut 7 = [188, 190, 192, 194, 196, 198, 200].filterMap (fun i => tables_1[i]?) := by decide +kernel
  rw [h] at hw
  obtain ⟨i, -, hi⟩ := List.mem_filterMap.mp hw
  exact lw_in i (List.all_eq_true.mp (show (u_ws R_Cut F_Cut 7).all goodWord = true from by decide +kernel) w hw0) hi
theorem kw_Cut : Cond.instantiable R_Cut 7 ∈ lw_g := lw_in 169 rfl (by decide +kernel)
theorem kz_Cut : Cond.initialized R_Cut ∈ lw_g := lw_in 9 rfl (by decide +kernel)
theorem kn_Nam : ∀ a, a < 10 → ∀ b, b < 10 → a ≠ b → (F_Nam a).2.1 ≠ (F_Nam b).2.1 := by decide +kernel
theorem kt_Nam : ∀ k, k < 10 → parseFieldDescriptor (F_Nam k).2.2.1 = some (t_Nam k) := by decide +kernel
theorem ki_Nam : ∀ w ∈ u_ws R_Nam F_Nam 10, w ∈ lw_g := by
  intro w hw0
  have hw := hw0
  have h : u_ws R_Nam F_Nam 10 = [213, 215, 217, 219, 221, 223, 225, 227, 229, 231].filterMap (fun i => tables_1[i]?) := by decide +kernel
  rw [h] at hw
  obtain ⟨i, -, hi⟩ := List.mem_filterMap.mp hw
  exact lw_in i (List.all_eq_true.mp (show (u_ws R_Nam F_Nam 10).all goodWord = true from by decide +kernel) w hw0) hi
theorem kw_Nam : Cond.instantiable R_Nam 10 ∈ lw_g := lw_in 13 rfl (by decide +kernel)
theorem kz_Nam : Cond.initialized R_Nam ∈ lw_g := lw_in 1 rfl (by decide +kernel)
theorem kn_Mod : ∀ a, a < 31 → ∀ b, b < 31 → a ≠ b → (F_Mod a).2.1 ≠ (F_Mod b).2.1 := by decide +kernel
theorem kt_Mod : ∀ k, k < 31 → parseFieldDescriptor (F_Mod k).2.2.1 = some (t_Mod k) := by decide +kernel
theorem ki_Mod : ∀ w ∈ u_ws R_Mod F_Mod 31, w ∈ lw_g := by
  intro w hw0
  have hw := hw0
  have h : u_ws R_Mod F_Mod 31 = [636, 638, 640, 642, 644, 646, 648, 650, 652, 654, 656, 658, 660, 662, 664, 666, 668, 670, 672, 674, 676, 678, 680, 682, 684, 686, 688, 690, 692, 694, 696].filterMap (fun i => tables_1[i]?) := by decide +kernel
  rw [h] at hw
  obtain ⟨i, -, hi⟩ := List.mem_filterMap.mp hw
  exact lw_in i (List.all_eq_true.mp (show (u_ws R_Mod F_Mod 31).all goodWord = true from by decide +kernel) w hw0) hi
theorem kw_Mod : Cond.instantiable R_Mod 31 ∈ lw_g := lw_in 600 rfl (by decide +kernel)
theorem kz_Mod : Cond.initialized R_Mod ∈ lw_g := lw_in 10 rfl (by decide +kernel)
abbrev b_Cut_begin : ByteArray := prog_2_method_2_code
def Y_Cut_begin : xM := (⟨"NameRoom$Cutter", "begin", "()V"⟩, b_Cut_begin, 1, none)
abbrev b_Cut_cutAtEnd : ByteArray := prog_2_method_7_code
def Y_Cut_cutAtEnd : xM := (⟨"NameRoom$Cutter", "cutAtEnd", "()V"⟩, b_Cut_cutAtEnd, 1, none)
abbrev b_Cut_cutAtPattern : ByteArray := prog_2_method_4_code
def Y_Cut_cutAtPattern : xM := (⟨"NameRoom$Cutter", "cutAtPattern", "(LNameRoom$Row;)V"⟩, b_Cut_cutAtPattern, 3, none)
abbrev b_Cut_cutAtPlace : ByteArray := prog_2_method_6_code
def Y_Cut_cutAtPlace : xM := (⟨"NameRoom$Cutter", "cutAtPlace", "(I)V"⟩, b_Cut_cutAtPlace, 4, none)
abbrev b_Cut_init : ByteArray := prog_2_method_1_code
def Y_Cut_init : xM := (⟨"NameRoom$Cutter", "<init>", "()V"⟩, b_Cut_init, 1, none)
abbrev b_Cut_placeOf : ByteArray := prog_2_method_5_code
def Y_Cut_placeOf : xM := (⟨"NameRoom$Cutter", "placeOf", "(LNameRoom$Row;)I"⟩, b_Cut_placeOf, 4, (some .int))
abbrev b_Cut_take : ByteArray := prog_2_method_3_code
def Y_Cut_take : xM := (⟨"NameRoom$Cutter", "take", "(LNameRoom$Row;Z)V"⟩, b_Cut_take, 3, none)
abbrev b_Cut_takeRest : ByteArray := prog_2_method_9_code
def Y_Cut_takeRest : xM := (⟨"NameRoom$Cutter", "takeRest", "()V"⟩, b_Cut_takeRest, 1, none)
abbrev b_Cut_takeWord : ByteArray := prog_2_method_8_code
def Y_Cut_takeWord : xM := (⟨"NameRoom$Cutter", "takeWord", "()V"⟩, b_Cut_takeWord, 1, none)
abbrev b_Ent_init : ByteArray := prog_3_method_1_code
def Y_Ent_init : xM := (⟨"NameRoom$Entry", "<init>", "()V"⟩, b_Ent_init, 1, none)
abbrev b_Mod_add : ByteArray := prog_10_method_13_code
def Y_Mod_add : xM := (⟨"NameRoomModel", "add", "(I)V"⟩, b_Mod_add, 2, none)
abbrev b_Mod_assign : ByteArray := prog_10_method_25_code
def Y_Mod_assign : xM := (⟨"NameRoomModel", "assign", "(ZII)Z"⟩, b_Mod_assign, 7, (some .boolean))
abbrev b_Mod_blanks : ByteArray := prog_10_method_38_code
def Y_Mod_blanks : xM := (⟨"NameRoomModel", "blanks", "()V"⟩, b_Mod_blanks, 1, none)
abbrev b_Mod_capital : ByteArray := prog_10_method_11_code
def Y_Mod_capital : xM := (⟨"NameRoomModel", "capital", "(I)I"⟩, b_Mod_capital, 1, (some .int))
abbrev b_Mod_clear : ByteArray := prog_10_method_23_code
def Y_Mod_clear : xM := (⟨"NameRoomModel", "clear", "(I)V"⟩, b_Mod_clear, 5, none)
abbrev b_Mod_close : ByteArray := prog_10_method_36_code
def Y_Mod_close : xM := (⟨"NameRoomModel", "close", "()I"⟩, b_Mod_close, 2, (some .int))
abbrev b_Mod_count : ByteArray := prog_10_method_50_code
def Y_Mod_count : xM := (⟨"NameRoomModel", "count", "(I)I"⟩, b_Mod_count, 2, (some .int))
abbrev b_Mod_cut : ByteArray := prog_10_method_46_code
def Y_Mod_cut : xM := (⟨"NameRoomModel", "cut", "()I"⟩, b_Mod_cut, 8, (some .int))
abbrev b_Mod_drop : ByteArray := prog_10_method_34_code
def Y_Mod_drop : xM := (⟨"NameRoomModel", "drop", "()I"⟩, b_Mod_drop, 2, (some .int))
abbrev b_Mod_end : ByteArray := prog_10_method_4_code
def Y_Mod_end : xM := (⟨"NameRoomModel", "end", "(I)I"⟩, b_Mod_end, 2, (some .int))
abbrev b_Mod_entry : ByteArray := prog_10_method_18_code
def Y_Mod_entry : xM := (⟨"NameRoomModel", "entry", "(II)I"⟩, b_Mod_entry, 6, (some .int))
abbrev b_Mod_fail : ByteArray := prog_10_method_8_code
def Y_Mod_fail : xM := (⟨"NameRoomModel", "fail", "(I)V"⟩, b_Mod_fail, 2, none)
abbrev b_Mod_feed : ByteArray := prog_10_method_3_code
def Y_Mod_feed : xM := (⟨"NameRoomModel", "feed", "(IIIII)I"⟩, b_Mod_feed, 6, (some .int))
abbrev b_Mod_four : ByteArray := prog_10_method_2_code
def Y_Mod_four : xM := (⟨"NameRoomModel", "four", "(I)V"⟩, b_Mod_four, 3, none)
abbrev b_Mod_get : ByteArray := prog_10_method_30_code
def Y_Mod_get : xM := (⟨"NameRoomModel", "get", "()I"⟩, b_Mod_get, 3, (some .int))
abbrev b_Mod_give : ByteArray := prog_10_method_44_code
def Y_Mod_give : xM := (⟨"NameRoomModel", "give", "(IIIII)I"⟩, b_Mod_give, 12, (some .int))
abbrev b_Mod_held : ByteArray := prog_10_method_43_code
def Y_Mod_held : xM := (⟨"NameRoomModel", "held", "(I)I"⟩, b_Mod_held, 2, (some .int))
abbrev b_Mod_here : ByteArray := prog_10_method_7_code
def Y_Mod_here : xM := (⟨"NameRoomModel", "here", "()I"⟩, b_Mod_here, 1, (some .int))
abbrev b_Mod_init : ByteArray := prog_10_method_1_code
def Y_Mod_init : xM := (⟨"NameRoomModel", "<init>", "()V"⟩, b_Mod_init, 1, none)
abbrev b_Mod_isAlike : ByteArray := prog_10_method_15_code
def Y_Mod_isAlike : xM := (⟨"NameRoomModel", "isAlike", "(II)Z"⟩, b_Mod_isAlike, 4, (some .boolean))
abbrev b_Mod_isDigit : ByteArray := prog_10_method_9_code
def Y_Mod_isDigit : xM := (⟨"NameRoomModel", "isDigit", "(I)Z"⟩, b_Mod_isDigit, 1, (some .boolean))
abbrev b_Mod_isStem : ByteArray := prog_10_method_16_code
def Y_Mod_isStem : xM := (⟨"NameRoomModel", "isStem", "(I)Z"⟩, b_Mod_isStem, 3, (some .boolean))
abbrev b_Mod_isSymbol : ByteArray := prog_10_method_10_code
def Y_Mod_isSymbol : xM := (⟨"NameRoomModel", "isSymbol", "(I)Z"⟩, b_Mod_isSymbol, 1, (some .boolean))
abbrev b_Mod_known : ByteArray := prog_10_method_31_code
def Y_Mod_known : xM := (⟨"NameRoomModel", "known", "()I"⟩, b_Mod_known, 3, (some .int))
abbrev b_Mod_look : ByteArray := prog_10_method_47_code
def Y_Mod_look : xM := (⟨"NameRoomModel", "look", "()V"⟩, b_Mod_look, 3, none)
abbrev b_Mod_lose : ByteArray := prog_10_method_26_code
def Y_Mod_lose : xM := (⟨"NameRoomModel", "lose", "()Z"⟩, b_Mod_lose, 5, (some .boolean))
abbrev b_Mod_name : ByteArray := prog_10_method_48_code
def Y_Mod_name : xM := (⟨"NameRoomModel", "name", "(I)I"⟩, b_Mod_name, 2, (some .int))
abbrev b_Mod_nameOf : ByteArray := prog_10_method_21_code
def Y_Mod_nameOf : xM := (⟨"NameRoomModel", "nameOf", "(II)Z"⟩, b_Mod_nameOf, 10, (some .boolean))
abbrev b_Mod_number : ByteArray := prog_10_method_39_code
def Y_Mod_number : xM := (⟨"NameRoomModel", "number", "()I"⟩, b_Mod_number, 3, (some .int))
abbrev b_Mod_one : ByteArray := prog_10_method_28_code
def Y_Mod_one : xM := (⟨"NameRoomModel", "one", "()I"⟩, b_Mod_one, 1, (some .int))
abbrev b_Mod_open : ByteArray := prog_10_method_35_code
def Y_Mod_open : xM := (⟨"NameRoomModel", "open", "()I"⟩, b_Mod_open, 5, (some .int))
abbrev b_Mod_out : ByteArray := prog_10_method_5_code
def Y_Mod_out : xM := (⟨"NameRoomModel", "out", "(I)I"⟩, b_Mod_out, 2, (some .int))
abbrev b_Mod_parse : ByteArray := prog_10_method_45_code
def Y_Mod_parse : xM := (⟨"NameRoomModel", "parse", "()I"⟩, b_Mod_parse, 3, (some .int))
abbrev b_Mod_pattern : ByteArray := prog_10_method_42_code
def Y_Mod_pattern : xM := (⟨"NameRoomModel", "pattern", "(I)I"⟩, b_Mod_pattern, 5, (some .int))
abbrev b_Mod_place : ByteArray := prog_10_method_24_code
def Y_Mod_place : xM := (⟨"NameRoomModel", "place", "(I)I"⟩, b_Mod_place, 4, (some .int))
abbrev b_Mod_poolOf : ByteArray := prog_10_method_14_code
def Y_Mod_poolOf : xM := (⟨"NameRoomModel", "poolOf", "(II)I"⟩, b_Mod_poolOf, 7, (some .int))
abbrev b_Mod_remove : ByteArray := prog_10_method_22_code
def Y_Mod_remove : xM := (⟨"NameRoomModel", "remove", "(I)V"⟩, b_Mod_remove, 4, none)
abbrev b_Mod_set : ByteArray := prog_10_method_27_code
def Y_Mod_set : xM := (⟨"NameRoomModel", "set", "()I"⟩, b_Mod_set, 2, (some .int))
abbrev b_Mod_stem : ByteArray := prog_10_method_17_code
def Y_Mod_stem : xM := (⟨"NameRoomModel", "stem", "()I"⟩, b_Mod_stem, 2, (some .int))
abbrev b_Mod_string : ByteArray := prog_10_method_40_code
def Y_Mod_string : xM := (⟨"NameRoomModel", "string", "()V"⟩, b_Mod_string, 5, none)
abbrev b_Mod_subject : ByteArray := prog_10_method_37_code
def Y_Mod_subject : xM := (⟨"NameRoomModel", "subject", "(Z)I"⟩, b_Mod_subject, 3, (some .int))
abbrev b_Mod_take : ByteArray := prog_10_method_6_code
def Y_Mod_take : xM := (⟨"NameRoomModel", "take", "()V"⟩, b_Mod_take, 2, none)
abbrev b_Mod_tells : ByteArray := prog_10_method_19_code
def Y_Mod_tells : xM := (⟨"NameRoomModel", "tells", "()I"⟩, b_Mod_tells, 4, (some .int))
abbrev b_Mod_token : ByteArray := prog_10_method_41_code
def Y_Mod_token : xM := (⟨"NameRoomModel", "token", "()V"⟩, b_Mod_token, 2, none)
abbrev b_Mod_told : ByteArray := prog_10_method_20_code
def Y_Mod_told : xM := (⟨"NameRoomModel", "told", "(II)I"⟩, b_Mod_told, 4, (some .int))
abbrev b_Mod_value : ByteArray := prog_10_method_49_code
def Y_Mod_value : xM := (⟨"NameRoomModel", "value", "(I)I"⟩, b_Mod_value, 2, (some .int))
abbrev b_Mod_variable : ByteArray := prog_10_method_12_code
def Y_Mod_variable : xM := (⟨"NameRoomModel", "variable", "()V"⟩, b_Mod_variable, 2, none)
abbrev b_Mod_variables : ByteArray := prog_10_method_32_code
def Y_Mod_variables : xM := (⟨"NameRoomModel", "variables", "(I)I"⟩, b_Mod_variables, 4, (some .int))
abbrev b_Mod_wordEnd : ByteArray := prog_10_method_33_code
def Y_Mod_wordEnd : xM := (⟨"NameRoomModel", "wordEnd", "(I)I"⟩, b_Mod_wordEnd, 3, (some .int))
abbrev b_Mod_write : ByteArray := prog_10_method_29_code
def Y_Mod_write : xM := (⟨"NameRoomModel", "write", "([III)V"⟩, b_Mod_write, 5, none)
abbrev b_Nam_addTail : ByteArray := prog_1_method_18_code
def Y_Nam_addTail : xM := (⟨"NameRoom", "addTail", "(II)Z"⟩, b_Nam_addTail, 4, (some .boolean))
abbrev b_Nam_capital : ByteArray := prog_1_method_29_code
def Y_Nam_capital : xM := (⟨"NameRoom", "capital", "(I)I"⟩, b_Nam_capital, 1, (some .int))
abbrev b_Nam_close : ByteArray := prog_1_method_10_code
def Y_Nam_close : xM := (⟨"NameRoom", "close", "()I"⟩, b_Nam_close, 1, (some .int))
abbrev b_Nam_count : ByteArray := prog_1_method_15_code
def Y_Nam_count : xM := (⟨"NameRoom", "count", "(I)I"⟩, b_Nam_count, 2, (some .int))
abbrev b_Nam_cutAt : ByteArray := prog_1_method_25_code
def Y_Nam_cutAt : xM := (⟨"NameRoom", "cutAt", "(I)I"⟩, b_Nam_cutAt, 2, (some .int))
abbrev b_Nam_drop : ByteArray := prog_1_method_8_code
def Y_Nam_drop : xM := (⟨"NameRoom", "drop", "()I"⟩, b_Nam_drop, 3, (some .int))
abbrev b_Nam_end : ByteArray := prog_1_method_3_code
def Y_Nam_end : xM := (⟨"NameRoom", "end", "(I)I"⟩, b_Nam_end, 2, (some .int))
abbrev b_Nam_enterPool : ByteArray := prog_1_method_24_code
def Y_Nam_enterPool : xM := (⟨"NameRoom", "enterPool", "()I"⟩, b_Nam_enterPool, 2, (some .int))
abbrev b_Nam_feed : ByteArray := prog_1_method_2_code
def Y_Nam_feed : xM := (⟨"NameRoom", "feed", "(IIIII)I"⟩, b_Nam_feed, 6, (some .int))
abbrev b_Nam_get : ByteArray := prog_1_method_6_code
def Y_Nam_get : xM := (⟨"NameRoom", "get", "()I"⟩, b_Nam_get, 2, (some .int))
abbrev b_Nam_give : ByteArray := prog_1_method_22_code
def Y_Nam_give : xM := (⟨"NameRoom", "give", "(LNameRoom$Row;II)I"⟩, b_Nam_give, 6, (some .int))
abbrev b_Nam_handOver : ByteArray := prog_1_method_26_code
def Y_Nam_handOver : xM := (⟨"NameRoom", "handOver", "(IZ)I"⟩, b_Nam_handOver, 3, (some .int))
abbrev b_Nam_init : ByteArray := prog_1_method_1_code
def Y_Nam_init : xM := (⟨"NameRoom", "<init>", "()V"⟩, b_Nam_init, 1, none)
abbrev b_Nam_isDigit : ByteArray := prog_1_method_27_code
def Y_Nam_isDigit : xM := (⟨"NameRoom", "isDigit", "(I)Z"⟩, b_Nam_isDigit, 1, (some .boolean))
abbrev b_Nam_isSymbolByte : ByteArray := prog_1_method_28_code
def Y_Nam_isSymbolByte : xM := (⟨"NameRoom", "isSymbolByte", "(I)Z"⟩, b_Nam_isSymbolByte, 2, (some .boolean))
abbrev b_Nam_known : ByteArray := prog_1_method_7_code
def Y_Nam_known : xM := (⟨"NameRoom", "known", "()I"⟩, b_Nam_known, 3, (some .int))
abbrev b_Nam_name : ByteArray := prog_1_method_13_code
def Y_Nam_name : xM := (⟨"NameRoom", "name", "(I)I"⟩, b_Nam_name, 3, (some .int))
abbrev b_Nam_open : ByteArray := prog_1_method_9_code
def Y_Nam_open : xM := (⟨"NameRoom", "open", "()I"⟩, b_Nam_open, 2, (some .int))
abbrev b_Nam_out : ByteArray := prog_1_method_4_code
def Y_Nam_out : xM := (⟨"NameRoom", "out", "(I)I"⟩, b_Nam_out, 2, (some .int))
abbrev b_Nam_parse : ByteArray := prog_1_method_12_code
def Y_Nam_parse : xM := (⟨"NameRoom", "parse", "()I"⟩, b_Nam_parse, 5, (some .int))
abbrev b_Nam_set : ByteArray := prog_1_method_5_code
def Y_Nam_set : xM := (⟨"NameRoom", "set", "()I"⟩, b_Nam_set, 2, (some .int))
abbrev b_Nam_stemOf : ByteArray := prog_1_method_20_code
def Y_Nam_stemOf : xM := (⟨"NameRoom", "stemOf", "(I)LNameRoom$Entry;"⟩, b_Nam_stemOf, 2, (some (.object "NameRoom$Entry")))
abbrev b_Nam_subject : ByteArray := prog_1_method_11_code
def Y_Nam_subject : xM := (⟨"NameRoom", "subject", "(Z)I"⟩, b_Nam_subject, 3, (some .int))
abbrev b_Nam_takeBack : ByteArray := prog_1_method_23_code
def Y_Nam_takeBack : xM := (⟨"NameRoom", "takeBack", "()I"⟩, b_Nam_takeBack, 3, (some .int))
abbrev b_Nam_textOf : ByteArray := prog_1_method_21_code
def Y_Nam_textOf : xM := (⟨"NameRoom", "textOf", "(LNameRoom$Entry;)LNameRoom$Row;"⟩, b_Nam_textOf, 2, (some (.object "NameRoom$Row")))
abbrev b_Nam_told : ByteArray := prog_1_method_19_code
def Y_Nam_told : xM := (⟨"NameRoom", "told", "()LNameRoom$Entry;"⟩, b_Nam_told, 3, (some (.object "NameRoom$Entry")))
abbrev b_Nam_value : ByteArray := prog_1_method_14_code
def Y_Nam_value : xM := (⟨"NameRoom", "value", "(I)I"⟩, b_Nam_value, 3, (some .int))
abbrev b_Nam_workOut : ByteArray := prog_1_method_17_code
def Y_Nam_workOut : xM := (⟨"NameRoom", "workOut", "(I)Z"⟩, b_Nam_workOut, 8, (some .boolean))
abbrev b_Nam_workOutAlone : ByteArray := prog_1_method_16_code
def Y_Nam_workOutAlone : xM := (⟨"NameRoom", "workOutAlone", "()I"⟩, b_Nam_workOutAlone, 2, (some .int))
abbrev b_Poo_enter : ByteArray := prog_4_method_3_code
def Y_Poo_enter : xM := (⟨"NameRoom$Pools", "enter", "()V"⟩, b_Poo_enter, 1, none)
abbrev b_Poo_init : ByteArray := prog_4_method_1_code
def Y_Poo_init : xM := (⟨"NameRoom$Pools", "<init>", "()V"⟩, b_Poo_init, 2, none)
abbrev b_Poo_innermost : ByteArray := prog_4_method_2_code
def Y_Poo_innermost : xM := (⟨"NameRoom$Pools", "innermost", "()I"⟩, b_Poo_innermost, 1, (some .int))
abbrev b_Poo_leave : ByteArray := prog_4_method_4_code
def Y_Poo_leave : xM := (⟨"NameRoom$Pools", "leave", "()V"⟩, b_Poo_leave, 1, none)
abbrev b_Poo_owner : ByteArray := prog_4_method_5_code
def Y_Poo_owner : xM := (⟨"NameRoom$Pools", "owner", "(LNameRoom$Row;I)I"⟩, b_Poo_owner, 6, (some .int))
abbrev b_Poo_see : ByteArray := prog_4_method_6_code
def Y_Poo_see : xM := (⟨"NameRoom$Pools", "see", "(LNameRoom$Row;)V"⟩, b_Poo_see, 3, none)
abbrev b_Poo_seenByInnermost : ByteArray := prog_4_method_8_code
def Y_Poo_seenByInnermost : xM := (⟨"NameRoom$Pools", "seenByInnermost", "()I"⟩, b_Poo_seenByInnermost, 4, (some .int))
abbrev b_Poo_sees : ByteArray := prog_4_method_7_code
def Y_Poo_sees : xM := (⟨"NameRoom$Pools", "sees", "(LNameRoom$Row;)Z"⟩, b_Poo_sees, 4, (some .boolean))
abbrev b_Rea_add : ByteArray := prog_5_method_21_code
def Y_Rea_add : xM := (⟨"NameRoom$Reader", "add", "(III)V"⟩, b_Rea_add, 4, none)
abbrev b_Rea_begin : ByteArray := prog_5_method_2_code
def Y_Rea_begin : xM := (⟨"NameRoom$Reader", "begin", "()V"⟩, b_Rea_begin, 1, none)
abbrev b_Rea_copyString : ByteArray := prog_5_method_8_code
def Y_Rea_copyString : xM := (⟨"NameRoom$Reader", "copyString", "(ILNameRoom$Row;)V"⟩, b_Rea_copyString, 5, none)
abbrev b_Rea_fail : ByteArray := prog_5_method_22_code
def Y_Rea_fail : xM := (⟨"NameRoom$Reader", "fail", "(I)V"⟩, b_Rea_fail, 2, none)
abbrev b_Rea_init : ByteArray := prog_5_method_1_code
def Y_Rea_init : xM := (⟨"NameRoom$Reader", "<init>", "()V"⟩, b_Rea_init, 1, none)
abbrev b_Rea_isTarget : ByteArray := prog_5_method_3_code
def Y_Rea_isTarget : xM := (⟨"NameRoom$Reader", "isTarget", "(I)Z"⟩, b_Rea_isTarget, 3, (some .boolean))
abbrev b_Rea_kindOf : ByteArray := prog_5_method_4_code
def Y_Rea_kindOf : xM := (⟨"NameRoom$Reader", "kindOf", "(I)I"⟩, b_Rea_kindOf, 2, (some .int))
abbrev b_Rea_numberOf : ByteArray := prog_5_method_7_code
def Y_Rea_numberOf : xM := (⟨"NameRoom$Reader", "numberOf", "(I)I"⟩, b_Rea_numberOf, 4, (some .int))
abbrev b_Rea_readAlone : ByteArray := prog_5_method_9_code
def Y_Rea_readAlone : xM := (⟨"NameRoom$Reader", "readAlone", "()I"⟩, b_Rea_readAlone, 1, (some .int))
abbrev b_Rea_readBareToken : ByteArray := prog_5_method_14_code
def Y_Rea_readBareToken : xM := (⟨"NameRoom$Reader", "readBareToken", "(I)V"⟩, b_Rea_readBareToken, 2, none)
abbrev b_Rea_readBracket : ByteArray := prog_5_method_16_code
def Y_Rea_readBracket : xM := (⟨"NameRoom$Reader", "readBracket", "()V"⟩, b_Rea_readBracket, 1, none)
abbrev b_Rea_readGift : ByteArray := prog_5_method_10_code
def Y_Rea_readGift : xM := (⟨"NameRoom$Reader", "readGift", "()I"⟩, b_Rea_readGift, 1, (some .int))
abbrev b_Rea_readPlace : ByteArray := prog_5_method_18_code
def Y_Rea_readPlace : xM := (⟨"NameRoom$Reader", "readPlace", "(I)V"⟩, b_Rea_readPlace, 3, none)
abbrev b_Rea_readSignedPlace : ByteArray := prog_5_method_17_code
def Y_Rea_readSignedPlace : xM := (⟨"NameRoom$Reader", "readSignedPlace", "(I)V"⟩, b_Rea_readSignedPlace, 2, none)
abbrev b_Rea_readString : ByteArray := prog_5_method_19_code
def Y_Rea_readString : xM := (⟨"NameRoom$Reader", "readString", "(I)V"⟩, b_Rea_readString, 6, none)
abbrev b_Rea_readTemplate : ByteArray := prog_5_method_12_code
def Y_Rea_readTemplate : xM := (⟨"NameRoom$Reader", "readTemplate", "()I"⟩, b_Rea_readTemplate, 2, (some .int))
abbrev b_Rea_readToken : ByteArray := prog_5_method_13_code
def Y_Rea_readToken : xM := (⟨"NameRoom$Reader", "readToken", "()V"⟩, b_Rea_readToken, 2, none)
abbrev b_Rea_readVariable : ByteArray := prog_5_method_15_code
def Y_Rea_readVariable : xM := (⟨"NameRoom$Reader", "readVariable", "(I)V"⟩, b_Rea_readVariable, 4, none)
abbrev b_Rea_readVariables : ByteArray := prog_5_method_11_code
def Y_Rea_readVariables : xM := (⟨"NameRoom$Reader", "readVariables", "(I)I"⟩, b_Rea_readVariables, 4, (some .int))
abbrev b_Rea_skipBlanks : ByteArray := prog_5_method_20_code
def Y_Rea_skipBlanks : xM := (⟨"NameRoom$Reader", "skipBlanks", "()V"⟩, b_Rea_skipBlanks, 1, none)
abbrev b_Rea_startOf : ByteArray := prog_5_method_5_code
def Y_Rea_startOf : xM := (⟨"NameRoom$Reader", "startOf", "(I)I"⟩, b_Rea_startOf, 2, (some .int))
abbrev b_Rea_stopOf : ByteArray := prog_5_method_6_code
def Y_Rea_stopOf : xM := (⟨"NameRoom$Reader", "stopOf", "(I)I"⟩, b_Rea_stopOf, 2, (some .int))
abbrev b_Row_add : ByteArray := prog_6_method_4_code
def Y_Row_add : xM := (⟨"NameRoom$Row", "add", "(I)Z"⟩, b_Row_add, 2, (some .boolean))
abbrev b_Row_addCapitals : ByteArray := prog_6_method_7_code
def Y_Row_addCapitals : xM := (⟨"NameRoom$Row", "addCapitals", "(LNameRoom$Row;II)Z"⟩, b_Row_addCapitals, 6, (some .boolean))
abbrev b_Row_addInt : ByteArray := prog_6_method_5_code
def Y_Row_addInt : xM := (⟨"NameRoom$Row", "addInt", "(I)V"⟩, b_Row_addInt, 3, none)
abbrev b_Row_addPart : ByteArray := prog_6_method_6_code
def Y_Row_addPart : xM := (⟨"NameRoom$Row", "addPart", "(LNameRoom$Row;II)Z"⟩, b_Row_addPart, 5, (some .boolean))
abbrev b_Row_at : ByteArray := prog_6_method_3_code
def Y_Row_at : xM := (⟨"NameRoom$Row", "at", "(I)I"⟩, b_Row_at, 2, (some .int))
abbrev b_Row_become : ByteArray := prog_6_method_8_code
def Y_Row_become : xM := (⟨"NameRoom$Row", "become", "(LNameRoom$Row;)V"⟩, b_Row_become, 2, none)
abbrev b_Row_beginsWith : ByteArray := prog_6_method_9_code
def Y_Row_beginsWith : xM := (⟨"NameRoom$Row", "beginsWith", "(LNameRoom$Row;)Z"⟩, b_Row_beginsWith, 4, (some .boolean))
abbrev b_Row_clear : ByteArray := prog_6_method_2_code
def Y_Row_clear : xM := (⟨"NameRoom$Row", "clear", "()V"⟩, b_Row_clear, 1, none)
abbrev b_Row_dotFrom : ByteArray := prog_6_method_11_code
def Y_Row_dotFrom : xM := (⟨"NameRoom$Row", "dotFrom", "(II)I"⟩, b_Row_dotFrom, 4, (some .int))
abbrev b_Row_init : ByteArray := prog_6_method_1_code
def Y_Row_init : xM := (⟨"NameRoom$Row", "<init>", "(I)V"⟩, b_Row_init, 2, none)
abbrev b_Row_isCompound : ByteArray := prog_6_method_13_code
def Y_Row_isCompound : xM := (⟨"NameRoom$Row", "isCompound", "()Z"⟩, b_Row_isCompound, 1, (some .boolean))
abbrev b_Row_isStem : ByteArray := prog_6_method_12_code
def Y_Row_isStem : xM := (⟨"NameRoom$Row", "isStem", "()Z"⟩, b_Row_isStem, 1, (some .boolean))
abbrev b_Row_standsAt : ByteArray := prog_6_method_10_code
def Y_Row_standsAt : xM := (⟨"NameRoom$Row", "standsAt", "(ILNameRoom$Row;)Z"⟩, b_Row_standsAt, 4, (some .boolean))
abbrev b_She_clearBehind : ByteArray := prog_7_method_6_code
def Y_She_clearBehind : xM := (⟨"NameRoom$Shelf", "clearBehind", "(LNameRoom$Row;I)V"⟩, b_She_clearBehind, 5, none)
abbrev b_She_clearPool : ByteArray := prog_7_method_7_code
def Y_She_clearPool : xM := (⟨"NameRoom$Shelf", "clearPool", "(I)V"⟩, b_She_clearPool, 4, none)
abbrev b_She_entryAt : ByteArray := prog_7_method_2_code
def Y_She_entryAt : xM := (⟨"NameRoom$Shelf", "entryAt", "(I)LNameRoom$Entry;"⟩, b_She_entryAt, 2, (some (.object "NameRoom$Entry")))
abbrev b_She_find : ByteArray := prog_7_method_3_code
def Y_She_find : xM := (⟨"NameRoom$Shelf", "find", "(LNameRoom$Row;I)LNameRoom$Entry;"⟩, b_She_find, 5, (some (.object "NameRoom$Entry")))
abbrev b_She_findOrAdd : ByteArray := prog_7_method_4_code
def Y_She_findOrAdd : xM := (⟨"NameRoom$Shelf", "findOrAdd", "(LNameRoom$Row;I)LNameRoom$Entry;"⟩, b_She_findOrAdd, 5, (some (.object "NameRoom$Entry")))
abbrev b_She_init : ByteArray := prog_7_method_1_code
def Y_She_init : xM := (⟨"NameRoom$Shelf", "<init>", "()V"⟩, b_She_init, 2, none)
abbrev b_She_remove : ByteArray := prog_7_method_5_code
def Y_She_remove : xM := (⟨"NameRoom$Shelf", "remove", "(LNameRoom$Row;I)V"⟩, b_She_remove, 4, none)
abbrev b_She_sweep : ByteArray := prog_7_method_8_code
def Y_She_sweep : xM := (⟨"NameRoom$Shelf", "sweep", "()V"⟩, b_She_sweep, 4, none)
abbrev b_Sig_holds : ByteArray := prog_8_method_2_code
def Y_Sig_holds : xM := (⟨"NameRoom$Sight", "holds", "(LNameRoom$Row;)Z"⟩, b_Sig_holds, 2, (some .boolean))
abbrev b_Sig_init : ByteArray := prog_8_method_1_code
def Y_Sig_init : xM := (⟨"NameRoom$Sight", "<init>", "()V"⟩, b_Sig_init, 1, none)
def xNl : List (String × Nat × MethodName × String) := [("NameRoom$Reader", 95, ⟨"NameRoom", "isSymbolByte", "(I)Z"⟩, "NameRoom"), ("NameRoom$Reader", 89, ⟨"NameRoom", "isDigit", "(I)Z"⟩, "NameRoom"), ("NameRoom$Row", 39, ⟨"NameRoom", "capital", "(I)I"⟩, "NameRoom")]
def xAo : List String := ["NameRoom$Entry", "NameRoom$Sight"]
theorem xNl_ok : ∀ q ∈ xNl, Cond.methodLinkNest q.1 q.2.1 q.2.2.1 q.2.2.2 ∈ lw_tbl := by
  intro q hq
  have h : ∀ q ∈ xNl, Cond.methodLinkNest q.1 q.2.1 q.2.2.1 q.2.2.2 ∈ tables_1 := by decide +kernel
  exact List.mem_append_right _ (h q hq)
theorem xAo_ok : ∀ C ∈ xAo, Cond.arrayOver (.object C) ∈ lw_tbl := by
  intro q hq
  have h : ∀ C ∈ xAo, Cond.arrayOver (.object C) ∈ tables_1 := by decide +kernel
  exact List.mem_append_right _ (h q hq)
end
section
/-! THE LAYER: an abstract heap (address to cell) and one judgement xG over it: every row of the machine that the walks need, once. -/
abbrev xE : Type := (Nat × vp_A) ⊕ (Nat × List Value)
abbrev xH : Type := Nat → Option xE
abbrev xK : Type := Program × Launch × Env × Room × State × MethodId × Array Value × List Frame × Method × Code × (State → Prop) × va_G × (Nat → ClassId) × (Nat → Prop)
def xe (dA : Nat → ClassId) (z : xE) : va_E := match z with
  | .inl q => .inl (dA q.1, q.2)
  | .inr q => .inr q
def xup (M : xH) (a : Nat) (z : xE) : xH := fun q => if q = a then some z else M q
theorem xup_s (M : xH) (a : Nat) (z : xE) : xup M a z a = some z := if_pos rfl
theorem xup_n (M : xH) {a b : Nat} (z : xE) (h : b ≠ a) : xup M a z b = M b := if_neg h
def xTys (dA : Nat → ClassId) : List (ClassId × FieldType) := xTy.zipIdx.map (fun q => (dA q.2, q.1))
theorem xTys_at (dA : Nat → ClassId) {t : Nat} {ty : FieldType} (h : xTy[t]? = some ty) : (xTys dA)[t]? = some (dA t, ty) := by
  simp [xTys, List.getElem?_map, List.getElem?_zipIdx, h]
/-- the machine's heap, of sz cells, holds the abstract one -/
def xHo (D : va_G) (dA : Nat → ClassId) (A : Nat → Prop) (M : xH) (sz : Nat) (H : Heap) : Prop :=
  H.size = sz ∧ ∀ (a : Nat) (z : xE), M a = some z → va_at D classes (a, xe dA z) H ∧ A a
theorem xHo.weak {D : va_G} {dA : Nat → ClassId} {A B : Nat → Prop} {M : xH} {sz : Nat} {H : Heap} (h : xHo D dA A M sz H) (hAB : ∀ q, A q → B q) : xHo D dA B M sz H :=
  ⟨h.1, fun a z hz => ⟨(h.2 a z hz).1, hAB a (h.2 a z hz).2⟩⟩
theorem xHo.lt {D : va_G} {dA : Nat → ClassId} {A : Nat → Prop} {M : xH} {sz : Nat} {H : Heap} (h : xHo D dA A M sz H) {a : Nat} {z : xE} (hz : M a = some z) : a < sz := by
  rw [← h.1]; exact (h.2 a z hz).1.lt
theorem xHo.put {D : va_G} {dA : Nat → ClassId} {A : Nat → Prop} {M : xH} {sz : Nat} {H H1 : Heap} (h : xHo D dA A M sz H) {a : Nat} {z : xE} (hA : A a) (h1 : va_at D classes (a, xe dA z) H1) (hs : H1.size = H.size) (ho : ∀ q : Nat, q ≠ a → H1[q]? = H[q]?) : xHo D dA A (xup M a z) sz H1 := by
  refine ⟨by rw [hs]; exact h.1, fun b w hw => ?_⟩
  by_cases hb : b = a
  · subst hb
    rw [xup_s] at hw
    cases hw
    exact ⟨h1, hA⟩
  · rw [xup_n M z hb] at hw
    exact ⟨(h.2 b w hw).1.kept (ho b hb), (h.2 b w hw).2⟩
theorem xHo.push {D : va_G} {dA : Nat → ClassId} {A : Nat → Prop} {M : xH} {sz : Nat} {H H1 : Heap} (h : xHo D dA A M sz H) {z : xE} (hA : A sz) (h1 : va_at D classes (sz, xe dA z) H1) (hs : H1.size = sz + 1) (ho : ∀ q : Nat, q < sz → H1[q]? = H[q]?) : xHo D dA A (xup M sz z) (sz + 1) H1 := by
  refine ⟨hs, fun b w hw => ?_⟩
  by_cases hb : b = sz
  · subst hb
    rw [xup_s] at hw
    cases hw
    exact ⟨h1, hA⟩
  · rw [xup_n M z hb] at hw
    exact ⟨(h.2 b w hw).1.kept (ho b (h.lt hw)), (h.2 b w hw).2⟩
/-- one cell as a world of the kit -/
theorem xHo.one {D : va_G} {dA : Nat → ClassId} {A : Nat → Prop} {M : xH} {sz : Nat} {H : Heap} (h : xHo D dA A M sz H) {a : Nat} {z : xE} (hz : M a = some z) : va_P D classes [(a, xe dA z)] H := by
  intro k q hk
  cases k with
  | zero => cases hk; exact (h.2 a z hz).1
  | succ k => simp at hk
/-- locals: what is listed is held; only one-word values -/
def xL (ls : Array Slot) (nL : Nat) (vs : List (Option Value)) : Prop := ls.size = nL ∧ lv_wf ls ∧ ∀ (i : Nat) (v : Value), vs[i]? = some (some v) → ls[i]? = some (.val v) ∧ v.category = 1
def xlv (vs : List (Option Value)) : List (Nat × Value) := vs.zipIdx.filterMap (fun q => q.1.map (fun v => (q.2, v)))
theorem xlv_mem {vs : List (Option Value)} {q : Nat × Value} : q ∈ xlv vs ↔ vs[q.1]? = some (some q.2) := by
  unfold xlv
  rw [List.mem_filterMap]
  constructor
  · rintro ⟨⟨o, i⟩, h1, h2⟩
    rw [List.mem_zipIdx_iff_getElem?] at h1
    cases o with
    | none => cases h2
    | some v =>
      cases h2
      exact h1
  · intro h
    exact ⟨(some q.2, q.1), by rw [List.mem_zipIdx_iff_getElem?]; exact h, rfl⟩
theorem xL.has {ls : Array Slot} {nL : Nat} {vs : List (Option Value)} (h : xL ls nL vs) : lv_has ls nL (xlv vs) := ⟨h.1, h.2.1, fun q hq => (h.2.2 q.1 q.2 (xlv_mem.mp hq)).1⟩
theorem xL.store {ls ls' : Array Slot} {nL : Nat} {vs : List (Option Value)} (h : xL ls nL vs) {i : Nat} {v : Value} (hv : v.category = 1) (h' : lv_has ls' nL ((i, v) :: (xlv vs).filter (fun q => !(q.1 == i) && !(q.1 + 1 == i && q.2.category == 2)))) : xL ls' nL (vs.set i (some v)) := by
  refine ⟨h'.1, h'.2.1, fun j w hw => ?_⟩
  by_cases hj : i = j
  · subst hj
    have hlt : i < vs.length := by
      rcases Nat.lt_or_ge i vs.length with q | q
      · exact q
      · rw [List.getElem?_eq_none (by rw [List.length_set]; exact q)] at hw
        cases hw
    rw [List.getElem?_set_self hlt] at hw
    cases hw
    exact ⟨h'.2.2 (i, v) List.mem_cons_self, hv⟩
  · rw [List.getElem?_set_ne hj] at hw
    have hc := (h.2.2 j w hw).2
    refine ⟨h'.2.2 (j, w) (List.mem_cons_of_mem _ (List.mem_filter.mpr ⟨xlv_mem.mpr hw, ?_⟩)), hc⟩
    have h1 : (j == i) = false := by simp [Ne.symm hj]
    simp [h1, hc]
theorem xL.sub {ls : Array Slot} {nL : Nat} {vs vs' : List (Option Value)} (h : xL ls nL vs) (hs : ∀ (i : Nat) (v : Value), vs'[i]? = some (some v) → vs[i]? = some (some v)) : xL ls nL vs' := ⟨h.1, h.2.1, fun i v hv => h.2.2 i v (hs i v hv)⟩
/-- the words that a change of the tables' warmth doesn't keep by itself: nest mates' links, arrays over classes -/
def xNs (U : State) : Prop := (∀ q ∈ xNl, va_Nw (.methodLinkNest q.1 q.2.1 q.2.2.1 q.2.2.2) U) ∧ ∀ C ∈ xAo, va_AO C U
theorem xNs.warm {s U : State} (hW : s.WarmedH U.vm) (h : xNs s) : xNs U := ⟨fun q hq => (h.1 q hq).warmM hW, fun C hC => (h.2 C hC).moved hW.alike⟩
theorem xNs.same {s U : State} (e : s.vm = U.vm) (h : xNs s) : xNs U := ⟨fun q hq => (h.1 q hq).same rfl e, fun C hC => (h.2 C hC).moved (by rw [e]; exact Vm.Alike.refl U.vm)⟩
/-- the context: the method's code and tables -/
def xX (Y : xM) (rm : Room) (K : xK) : Prop := match K with
  | (p, _, _, R, s, m, args, _, meth, c0, _, D, dA, A) => p.tables.exec = Jvm.exec ∧ c0.code = Y.2.1 ∧ c0.maxLocals = Y.2.2.1 ∧ meth.sig.returnType = Y.2.2.2 ∧ meth.locks = false ∧ s.vm.findClass Y.1.cls = some m.cls ∧ (∀ w ∈ lw_g, w.before args s = true) ∧ va_K D classes (xTys dA) s ∧ (∀ q : Nat, s.heap.size ≤ q → A q) ∧ meth.name = Y.1.name ∧ R = rm ∧ xNs s
/-- the judgement -/
def xG (K : xK) (pc : Nat) (vs : List (Option Value)) (st : List Value) (M : xH) (sz c n : Nat) : Prop := match K with
  | (p, l, e, R, s, m, args, below, meth, c0, Q, D, dA, A) => ∀ (H : Heap) (locs : List Loc) (ls : Array Slot), xHo D dA A M sz H → va_S A s.heap H locs → xL ls c0.maxLocals vs → W p l e R s m args below meth c0 H locs c n Q (F0 m pc ls st)
section XG
variable {Y : xM} {rm : Room} {K : xK} {pc : Nat} {vs : List (Option Value)} {st : List Value} {M : xH} {sz c n : Nat}
theorem xg_pc {pc' : Nat} (h : pc = pc') (k : xG K pc' vs st M sz c n) : xG K pc vs st M sz c n := by subst h; exact k
theorem xg_sub {vs' : List (Option Value)} (hs : ∀ (i : Nat) (v : Value), vs'[i]? = some (some v) → vs[i]? = some (some v)) (k : xG K pc vs' st M sz c n) : xG K pc vs st M sz c n := by
  obtain ⟨p, l, e, R, s, m, args, below, meth, c0, Q, D, dA, A⟩ := K
  exact fun H locs ls hH hS hl => k H locs ls hH hS (hl.sub hs)
theorem xg_iconst (h : xX Y rm K) {z : Int} (v : Int32) (hd : decode Y.2.1 pc = .ok (.iconst z, 1)) (hv : Int32.ofInt z = v) (k : xG K (pc + 1) vs (.int v :: st) M sz c n) : xG K pc vs st M sz c n := by
  obtain ⟨p, l, e, R, s, m, args, below, meth, c0, Q, D, dA, A⟩ := K
  exact fun H locs ls hH hS hl => lv_iconst h.1 h.2.1 hd hv (k H locs ls hH hS hl)
theorem xg_bipush (h : xX Y rm K) {z : Int} (v : Int32) (hd : decode Y.2.1 pc = .ok (.bipush z, 2)) (hv : (Int8.ofInt z).toInt32 = v) (k : xG K (pc + 2) vs (.int v :: st) M sz c n) : xG K pc vs st M sz c n := by
  obtain ⟨p, l, e, R, s, m, args, below, meth, c0, Q, D, dA, A⟩ := K
  exact fun H locs ls hH hS hl => lv_bipush h.1 h.2.1 hd hv (k H locs ls hH hS hl)
theorem xg_sipush (h : xX Y rm K) {z : Int} (v : Int32) (hd : decode Y.2.1 pc = .ok (.sipush z, 3)) (hv : (Int16.ofInt z).toInt32 = v) (k : xG K (pc + 3) vs (.int v :: st) M sz c n) : xG K pc vs st M sz c n := by
  obtain ⟨p, l, e, R, s, m, args, below, meth, c0, Q, D, dA, A⟩ := K
  exact fun H locs ls hH hS hl => lv_sipush h.1 h.2.1 hd hv (k H locs ls hH hS hl)
theorem xg_ldc (h : xX Y rm K) {ix : Nat} (v : Int32) (hd : decode Y.2.1 pc = .ok (.ldc ix, 2)) (hw : Cond.constant Y.1.cls ix v ∈ lw_g) (k : xG K (pc + 2) vs (.int v :: st) M sz c n) : xG K pc vs st M sz c n := by
  obtain ⟨p, l, e, R, s, m, args, below, meth, c0, Q, D, dA, A⟩ := K
  obtain ⟨hx, hb, hml, hr, hlk, hown, hts, hKK, hA, hnm, hR, hNs⟩ := h
  exact fun H locs ls hH hS hl => lv_ldc hx hb hown (hts _ hw) hd (k H locs ls hH hS hl)
theorem xg_null (h : xX Y rm K) (hd : decode Y.2.1 pc = .ok (.aconst_null, 1)) (k : xG K (pc + 1) vs (.null :: st) M sz c n) : xG K pc vs st M sz c n := by
  obtain ⟨p, l, e, R, s, m, args, below, meth, c0, Q, D, dA, A⟩ := K
  exact fun H locs ls hH hS hl => lv_null h.1 h.2.1 hd (k H locs ls hH hS hl)
theorem xg_iload_n (h : xX Y rm K) {i : Fin 4} {x : Int32} (hd : decode Y.2.1 pc = .ok (.iload_n i, 1)) (hv : vs[(i : Nat)]? = some (some (.int x))) (k : xG K (pc + 1) vs (.int x :: st) M sz c n) : xG K pc vs st M sz c n := by
  obtain ⟨p, l, e, R, s, m, args, below, meth, c0, Q, D, dA, A⟩ := K
  exact fun H locs ls hH hS hl => lv_iload_n h.1 h.2.1 hd rfl (hl.2.2 _ _ hv).1 (k H locs ls hH hS hl)
theorem xg_iload_w (h : xX Y rm K) {i : Nat} {x : Int32} (hd : decode Y.2.1 pc = .ok (.iload i, 2)) (hv : vs[i]? = some (some (.int x))) (k : xG K (pc + 2) vs (.int x :: st) M sz c n) : xG K pc vs st M sz c n := by
  obtain ⟨p, l, e, R, s, m, args, below, meth, c0, Q, D, dA, A⟩ := K
  exact fun H locs ls hH hS hl => lv_iload h.1 h.2.1 hd (hl.2.2 _ _ hv).1 (k H locs ls hH hS hl)
theorem xg_aload_n (h : xX Y rm K) {i : Fin 4} {x : Nat} (hd : decode Y.2.1 pc = .ok (.aload_n i, 1)) (hv : vs[(i : Nat)]? = some (some (.ref x))) (k : xG K (pc + 1) vs (.ref x :: st) M sz c n) : xG K pc vs st M sz c n := by
  obtain ⟨p, l, e, R, s, m, args, below, meth, c0, Q, D, dA, A⟩ := K
  exact fun H locs ls hH hS hl => lv_aload_n h.1 h.2.1 hd rfl (hl.2.2 _ _ hv).1 (k H locs ls hH hS hl)
theorem xg_aload_w (h : xX Y rm K) {i : Nat} {x : Nat} (hd : decode Y.2.1 pc = .ok (.aload i, 2)) (hv : vs[i]? = some (some (.ref x))) (k : xG K (pc + 2) vs (.ref x :: st) M sz c n) : xG K pc vs st M sz c n := by
  obtain ⟨p, l, e, R, s, m, args, below, meth, c0, Q, D, dA, A⟩ := K
  exact fun H locs ls hH hS hl => lv_aload h.1 h.2.1 hd (hl.2.2 _ _ hv).1 (k H locs ls hH hS hl)
theorem xg_aloadN_n (h : xX Y rm K) {i : Fin 4} (hd : decode Y.2.1 pc = .ok (.aload_n i, 1)) (hv : vs[(i : Nat)]? = some (some .null)) (k : xG K (pc + 1) vs (.null :: st) M sz c n) : xG K pc vs st M sz c n := by
  obtain ⟨p, l, e, R, s, m, args, below, meth, c0, Q, D, dA, A⟩ := K
  exact fun H locs ls hH hS hl => lv_aload_nN h.1 h.2.1 hd rfl (hl.2.2 _ _ hv).1 (k H locs ls hH hS hl)
theorem xg_aloadN_w (h : xX Y rm K) {i : Nat} (hd : decode Y.2.1 pc = .ok (.aload i, 2)) (hv : vs[i]? = some (some .null)) (k : xG K (pc + 2) vs (.null :: st) M sz c n) : xG K pc vs st M sz c n := by
  obtain ⟨p, l, e, R, s, m, args, below, meth, c0, Q, D, dA, A⟩ := K
  exact fun H locs ls hH hS hl => lv_aloadN h.1 h.2.1 hd (hl.2.2 _ _ hv).1 (k H locs ls hH hS hl)
theorem xg_istore_n (h : xX Y rm K) {i : Fin 4} {x : Int32} (hd : decode Y.2.1 pc = .ok (.istore_n i, 1)) (hi : (i : Nat) < Y.2.2.1) {vs' : List (Option Value)} (hv : vs.set (i : Nat) (some (.int x)) = vs') (k : xG K (pc + 1) vs' st M sz c n) : xG K pc vs (.int x :: st) M sz c n := by
  subst hv
  obtain ⟨p, l, e, R, s, m, args, below, meth, c0, Q, D, dA, A⟩ := K
  obtain ⟨hx, hb, hml, hr, hlk, hown, hts, hKK, hA, hnm, hR, hNs⟩ := h
  exact fun H locs ls hH hS hl => lv_istore_n hx hb hd rfl hl.has (by rw [hml]; exact hi) rfl (fun ls' hl' => k H locs ls' hH hS (hl.store rfl hl'))
theorem xg_istore_w (h : xX Y rm K) {i : Nat} {x : Int32} (hd : decode Y.2.1 pc = .ok (.istore i, 2)) (hi : i < Y.2.2.1) {vs' : List (Option Value)} (hv : vs.set i (some (.int x)) = vs') (k : xG K (pc + 2) vs' st M sz c n) : xG K pc vs (.int x :: st) M sz c n := by
  subst hv
  obtain ⟨p, l, e, R, s, m, args, below, meth, c0, Q, D, dA, A⟩ := K
  obtain ⟨hx, hb, hml, hr, hlk, hown, hts, hKK, hA, hnm, hR, hNs⟩ := h
  exact fun H locs ls hH hS hl => lv_istore hx hb hd hl.has (by rw [hml]; exact hi) rfl (fun ls' hl' => k H locs ls' hH hS (hl.store rfl hl'))
theorem xg_astore_n (h : xX Y rm K) {i : Fin 4} {x : Nat} (hd : decode Y.2.1 pc = .ok (.astore_n i, 1)) (hi : (i : Nat) < Y.2.2.1) {vs' : List (Option Value)} (hv : vs.set (i : Nat) (some (.ref x)) = vs') (k : xG K (pc + 1) vs' st M sz c n) : xG K pc vs (.ref x :: st) M sz c n := by
  subst hv
  obtain ⟨p, l, e, R, s, m, args, below, meth, c0, Q, D, dA, A⟩ := K
  obtain ⟨hx, hb, hml, hr, hlk, hown, hts, hKK, hA, hnm, hR, hNs⟩ := h
  exact fun H locs ls hH hS hl => lv_astore_n hx hb hd rfl hl.has (by rw [hml]; exact hi) rfl (fun ls' hl' => k H locs ls' hH hS (hl.store rfl hl'))
theorem xg_astore_w (h : xX Y rm K) {i : Nat} {x : Nat} (hd : decode Y.2.1 pc = .ok (.astore i, 2)) (hi : i < Y.2.2.1) {vs' : List (Option Value)} (hv : vs.set i (some (.ref x)) = vs') (k : xG K (pc + 2) vs' st M sz c n) : xG K pc vs (.ref x :: st) M sz c n := by
  subst hv
  obtain ⟨p, l, e, R, s, m, args, below, meth, c0, Q, D, dA, A⟩ := K
  obtain ⟨hx, hb, hml, hr, hlk, hown, hts, hKK, hA, hnm, hR, hNs⟩ := h
  exact fun H locs ls hH hS hl => lv_astore hx hb hd hl.has (by rw [hml]; exact hi) rfl (fun ls' hl' => k H locs ls' hH hS (hl.store rfl hl'))
theorem xg_astoreN_n (h : xX Y rm K) {i : Fin 4} (hd : decode Y.2.1 pc = .ok (.astore_n i, 1)) (hi : (i : Nat) < Y.2.2.1) {vs' : List (Option Value)} (hv : vs.set (i : Nat) (some .null) = vs') (k : xG K (pc + 1) vs' st M sz c n) : xG K pc vs (.null :: st) M sz c n := by
  subst hv
  obtain ⟨p, l, e, R, s, m, args, below, meth, c0, Q, D, dA, A⟩ := K
  obtain ⟨hx, hb, hml, hr, hlk, hown, hts, hKK, hA, hnm, hR, hNs⟩ := h
  exact fun H locs ls hH hS hl => lv_astore_nN hx hb hd rfl hl.has (by rw [hml]; exact hi) rfl (fun ls' hl' => k H locs ls' hH hS (hl.store rfl hl'))
theorem xg_astoreN_w (h : xX Y rm K) {i : Nat} (hd : decode Y.2.1 pc = .ok (.astore i, 2)) (hi : i < Y.2.2.1) {vs' : List (Option Value)} (hv : vs.set i (some .null) = vs') (k : xG K (pc + 2) vs' st M sz c n) : xG K pc vs (.null :: st) M sz c n := by
  subst hv
  obtain ⟨p, l, e, R, s, m, args, below, meth, c0, Q, D, dA, A⟩ := K
  obtain ⟨hx, hb, hml, hr, hlk, hown, hts, hKK, hA, hnm, hR, hNs⟩ := h
  exact fun H locs ls hH hS hl => lv_astoreN hx hb hd hl.has (by rw [hml]; exact hi) rfl (fun ls' hl' => k H locs ls' hH hS (hl.store rfl hl'))
theorem xg_iinc (h : xX Y rm K) {i : Nat} {z : Int} {x v : Int32} (hd : decode Y.2.1 pc = .ok (.iinc i z, 3)) (hi : i < Y.2.2.1) (h0 : vs[i]? = some (some (.int x))) (hz : Int32.ofInt z = v) {vs' : List (Option Value)} (hv : vs.set i (some (.int (x + v))) = vs') (k : xG K (pc + 3) vs' st M sz c n) : xG K pc vs st M sz c n := by
  subst hv
  subst hz
  obtain ⟨p, l, e, R, s, m, args, below, meth, c0, Q, D, dA, A⟩ := K
  obtain ⟨hx, hb, hml, hr, hlk, hown, hts, hKK, hA, hnm, hR, hNs⟩ := h
  intro H locs ls hH hS hl
  obtain ⟨j, hj⟩ := List.getElem?_of_mem ((xlv_mem (q := (i, .int x))).mpr h0)
  exact lv_iinc hx hb hd hl.has hj rfl (by rw [hml]; exact hi) rfl (fun ls' hl' => k H locs ls' hH hS (hl.store rfl hl'))
theorem xg_iadd (h : xX Y rm K) {x y : Int32} (hd : decode Y.2.1 pc = .ok (.iadd, 1)) (k : xG K (pc + 1) vs (.int (x + y) :: st) M sz c n) : xG K pc vs (.int y :: .int x :: st) M sz c n := by
  obtain ⟨p, l, e, R, s, m, args, below, meth, c0, Q, D, dA, A⟩ := K
  exact fun H locs ls hH hS hl => lv_iadd h.1 h.2.1 hd (k H locs ls hH hS hl)
theorem xg_isub (h : xX Y rm K) {x y : Int32} (hd : decode Y.2.1 pc = .ok (.isub, 1)) (k : xG K (pc + 1) vs (.int (x - y) :: st) M sz c n) : xG K pc vs (.int y :: .int x :: st) M sz c n := by
  obtain ⟨p, l, e, R, s, m, args, below, meth, c0, Q, D, dA, A⟩ := K
  exact fun H locs ls hH hS hl => lv_isub h.1 h.2.1 hd (k H locs ls hH hS hl)
theorem xg_imul (h : xX Y rm K) {x y : Int32} (hd : decode Y.2.1 pc = .ok (.imul, 1)) (k : xG K (pc + 1) vs (.int (x * y) :: st) M sz c n) : xG K pc vs (.int y :: .int x :: st) M sz c n := by
  obtain ⟨p, l, e, R, s, m, args, below, meth, c0, Q, D, dA, A⟩ := K
  exact fun H locs ls hH hS hl => lv_imul h.1 h.2.1 hd (k H locs ls hH hS hl)
theorem xg_iand (h : xX Y rm K) {x y : Int32} (hd : decode Y.2.1 pc = .ok (.iand, 1)) (k : xG K (pc + 1) vs (.int (x &&& y) :: st) M sz c n) : xG K pc vs (.int y :: .int x :: st) M sz c n := by
  obtain ⟨p, l, e, R, s, m, args, below, meth, c0, Q, D, dA, A⟩ := K
  exact fun H locs ls hH hS hl => lv_iand h.1 h.2.1 hd (k H locs ls hH hS hl)
theorem xg_ior (h : xX Y rm K) {x y : Int32} (hd : decode Y.2.1 pc = .ok (.ior, 1)) (k : xG K (pc + 1) vs (.int (x ||| y) :: st) M sz c n) : xG K pc vs (.int y :: .int x :: st) M sz c n := by
  obtain ⟨p, l, e, R, s, m, args, below, meth, c0, Q, D, dA, A⟩ := K
  exact fun H locs ls hH hS hl => lv_ior h.1 h.2.1 hd (k H locs ls hH hS hl)
theorem xg_ixor (h : xX Y rm K) {x y : Int32} (hd : decode Y.2.1 pc = .ok (.ixor, 1)) (k : xG K (pc + 1) vs (.int (x ^^^ y) :: st) M sz c n) : xG K pc vs (.int y :: .int x :: st) M sz c n := by
  obtain ⟨p, l, e, R, s, m, args, below, meth, c0, Q, D, dA, A⟩ := K
  exact fun H locs ls hH hS hl => lv_ixor h.1 h.2.1 hd (k H locs ls hH hS hl)
theorem xg_idiv (h : xX Y rm K) {x y : Int32} (hd : decode Y.2.1 pc = .ok (.idiv, 1)) (h0 : ¬ y = 0) (k : xG K (pc + 1) vs (.int (x / y) :: st) M sz c n) : xG K pc vs (.int y :: .int x :: st) M sz c n := by
  obtain ⟨p, l, e, R, s, m, args, below, meth, c0, Q, D, dA, A⟩ := K
  exact fun H locs ls hH hS hl => lv_idiv h.1 h.2.1 hd h0 (k H locs ls hH hS hl)
theorem xg_irem (h : xX Y rm K) {x y : Int32} (hd : decode Y.2.1 pc = .ok (.irem, 1)) (h0 : ¬ y = 0) (k : xG K (pc + 1) vs (.int (x - x / y * y) :: st) M sz c n) : xG K pc vs (.int y :: .int x :: st) M sz c n := by
  obtain ⟨p, l, e, R, s, m, args, below, meth, c0, Q, D, dA, A⟩ := K
  exact fun H locs ls hH hS hl => lv_irem h.1 h.2.1 hd h0 (k H locs ls hH hS hl)
theorem xg_ineg (h : xX Y rm K) {x : Int32} (hd : decode Y.2.1 pc = .ok (.ineg, 1)) (k : xG K (pc + 1) vs (.int (-x) :: st) M sz c n) : xG K pc vs (.int x :: st) M sz c n := by
  obtain ⟨p, l, e, R, s, m, args, below, meth, c0, Q, D, dA, A⟩ := K
  exact fun H locs ls hH hS hl => lv_ineg h.1 h.2.1 hd (k H locs ls hH hS hl)
theorem xg_iushr (h : xX Y rm K) {x y : Int32} (hd : decode Y.2.1 pc = .ok (.iushr, 1)) (k : xG K (pc + 1) vs (.int (x.toUInt32 >>> (y.toUInt32 &&& Int32.toUInt32 31)).toInt32 :: st) M sz c n) : xG K pc vs (.int y :: .int x :: st) M sz c n := by
  obtain ⟨p, l, e, R, s, m, args, below, meth, c0, Q, D, dA, A⟩ := K
  exact fun H locs ls hH hS hl => lv_iushr h.1 h.2.1 hd rfl (k H locs ls hH hS hl)
theorem xg_i2b (h : xX Y rm K) {x : Int32} (hd : decode Y.2.1 pc = .ok (.i2b, 1)) (k : xG K (pc + 1) vs (.int (x.toInt8.toInt32) :: st) M sz c n) : xG K pc vs (.int x :: st) M sz c n := by
  obtain ⟨p, l, e, R, s, m, args, below, meth, c0, Q, D, dA, A⟩ := K
  exact fun H locs ls hH hS hl => lv_i2b h.1 h.2.1 hd rfl (k H locs ls hH hS hl)
theorem xg_i2c (h : xX Y rm K) {x : Int32} (hd : decode Y.2.1 pc = .ok (.i2c, 1)) (k : xG K (pc + 1) vs (.int ((x.toUInt32 % 65536).toInt32) :: st) M sz c n) : xG K pc vs (.int x :: st) M sz c n := by
  obtain ⟨p, l, e, R, s, m, args, below, meth, c0, Q, D, dA, A⟩ := K
  exact fun H locs ls hH hS hl => lv_i2c h.1 h.2.1 hd rfl (k H locs ls hH hS hl)
theorem xg_i2s (h : xX Y rm K) {x : Int32} (hd : decode Y.2.1 pc = .ok (.i2s, 1)) (k : xG K (pc + 1) vs (.int (x.toInt16.toInt32) :: st) M sz c n) : xG K pc vs (.int x :: st) M sz c n := by
  obtain ⟨p, l, e, R, s, m, args, below, meth, c0, Q, D, dA, A⟩ := K
  exact fun H locs ls hH hS hl => lv_i2s h.1 h.2.1 hd rfl (k H locs ls hH hS hl)
theorem xg_dup (h : xX Y rm K) {v : Value} (hd : decode Y.2.1 pc = .ok (.dup, 1)) (hv : v.category = 1) (k : xG K (pc + 1) vs (v :: v :: st) M sz c n) : xG K pc vs (v :: st) M sz c n := by
  obtain ⟨p, l, e, R, s, m, args, below, meth, c0, Q, D, dA, A⟩ := K
  exact fun H locs ls hH hS hl => lv_dup h.1 h.2.1 hd hv (k H locs ls hH hS hl)
theorem xg_pop (h : xX Y rm K) {v : Value} (hd : decode Y.2.1 pc = .ok (.pop, 1)) (hv : v.category = 1) (k : xG K (pc + 1) vs st M sz c n) : xG K pc vs (v :: st) M sz c n := by
  obtain ⟨p, l, e, R, s, m, args, below, meth, c0, Q, D, dA, A⟩ := K
  exact fun H locs ls hH hS hl => lv_pop h.1 h.2.1 hd hv (k H locs ls hH hS hl)
theorem xg_dup_x1 (h : xX Y rm K) {v w : Value} (hd : decode Y.2.1 pc = .ok (.dup_x1, 1)) (hv : v.category = 1) (hw : w.category = 1) (k : xG K (pc + 1) vs (v :: w :: v :: st) M sz c n) : xG K pc vs (v :: w :: st) M sz c n := by
  obtain ⟨p, l, e, R, s, m, args, below, meth, c0, Q, D, dA, A⟩ := K
  exact fun H locs ls hH hS hl => lv_dup_x1 h.1 h.2.1 hd hv hw (k H locs ls hH hS hl)
theorem xg_dup_x2 (h : xX Y rm K) {v w u : Value} (hd : decode Y.2.1 pc = .ok (.dup_x2, 1)) (hv : v.category = 1) (hw : w.category = 1) (hu : u.category = 1) (k : xG K (pc + 1) vs (v :: w :: u :: v :: st) M sz c n) : xG K pc vs (v :: w :: u :: st) M sz c n := by
  obtain ⟨p, l, e, R, s, m, args, below, meth, c0, Q, D, dA, A⟩ := K
  exact fun H locs ls hH hS hl => lv_dup_x2 h.1 h.2.1 hd hv hw hu (k H locs ls hH hS hl)
theorem xg_dup2 (h : xX Y rm K) {v w : Value} (hd : decode Y.2.1 pc = .ok (.dup2, 1)) (hv : v.category = 1) (hw : w.category = 1) (k : xG K (pc + 1) vs (v :: w :: v :: w :: st) M sz c n) : xG K pc vs (v :: w :: st) M sz c n := by
  obtain ⟨p, l, e, R, s, m, args, below, meth, c0, Q, D, dA, A⟩ := K
  exact fun H locs ls hH hS hl => lv_dup2_11 h.1 h.2.1 hd hv hw (k H locs ls hH hS hl)
theorem xg_if_eq (h : xX Y rm K) {x : Int32} {off : Int} (tgt : Nat) (hd : decode Y.2.1 pc = .ok (.ifCond .eq off, 3)) (ht : (pc : Int) + off = (tgt : Int)) (kt : x = 0 → xG K tgt vs st M sz c n) (kf : ¬ x = 0 → xG K (pc + 3) vs st M sz c n) : xG K pc vs (.int x :: st) M sz c n := by
  obtain ⟨p, l, e, R, s, m, args, below, meth, c0, Q, D, dA, A⟩ := K
  exact fun H locs ls hH hS hl => lv_if_eq h.1 h.2.1 hd ht (fun q => kt q H locs ls hH hS hl) (fun q => kf q H locs ls hH hS hl)
theorem xg_icmp_eq (h : xX Y rm K) {x y : Int32} {off : Int} (tgt : Nat) (hd : decode Y.2.1 pc = .ok (.if_icmp .eq off, 3)) (ht : (pc : Int) + off = (tgt : Int)) (kt : x = y → xG K tgt vs st M sz c n) (kf : ¬ x = y → xG K (pc + 3) vs st M sz c n) : xG K pc vs (.int y :: .int x :: st) M sz c n := by
  obtain ⟨p, l, e, R, s, m, args, below, meth, c0, Q, D, dA, A⟩ := K
  exact fun H locs ls hH hS hl => lv_icmp_eq h.1 h.2.1 hd ht (fun q => kt q H locs ls hH hS hl) (fun q => kf q H locs ls hH hS hl)
theorem xg_if_ne (h : xX Y rm K) {x : Int32} {off : Int} (tgt : Nat) (hd : decode Y.2.1 pc = .ok (.ifCond .ne off, 3)) (ht : (pc : Int) + off = (tgt : Int)) (kt : ¬ x = 0 → xG K tgt vs st M sz c n) (kf : x = 0 → xG K (pc + 3) vs st M sz c n) : xG K pc vs (.int x :: st) M sz c n := by
  obtain ⟨p, l, e, R, s, m, args, below, meth, c0, Q, D, dA, A⟩ := K
  exact fun H locs ls hH hS hl => lv_if_ne h.1 h.2.1 hd ht (fun q => kt q H locs ls hH hS hl) (fun q => kf q H locs ls hH hS hl)
theorem xg_icmp_ne (h : xX Y rm K) {x y : Int32} {off : Int} (tgt : Nat) (hd : decode Y.2.1 pc = .ok (.if_icmp .ne off, 3)) (ht : (pc : Int) + off = (tgt : Int)) (kt : ¬ x = y → xG K tgt vs st M sz c n) (kf : x = y → xG K (pc + 3) vs st M sz c n) : xG K pc vs (.int y :: .int x :: st) M sz c n := by
  obtain ⟨p, l, e, R, s, m, args, below, meth, c0, Q, D, dA, A⟩ := K
  exact fun H locs ls hH hS hl => lv_icmp_ne h.1 h.2.1 hd ht (fun q => kt q H locs ls hH hS hl) (fun q => kf q H locs ls hH hS hl)
theorem xg_if_lt (h : xX Y rm K) {x : Int32} {off : Int} (tgt : Nat) (hd : decode Y.2.1 pc = .ok (.ifCond .lt off, 3)) (ht : (pc : Int) + off = (tgt : Int)) (kt : x < 0 → xG K tgt vs st M sz c n) (kf : ¬ x < 0 → xG K (pc + 3) vs st M sz c n) : xG K pc vs (.int x :: st) M sz c n := by
  obtain ⟨p, l, e, R, s, m, args, below, meth, c0, Q, D, dA, A⟩ := K
  exact fun H locs ls hH hS hl => lv_if_lt h.1 h.2.1 hd ht (fun q => kt q H locs ls hH hS hl) (fun q => kf q H locs ls hH hS hl)
theorem xg_icmp_lt (h : xX Y rm K) {x y : Int32} {off : Int} (tgt : Nat) (hd : decode Y.2.1 pc = .ok (.if_icmp .lt off, 3)) (ht : (pc : Int) + off = (tgt : Int)) (kt : x < y → xG K tgt vs st M sz c n) (kf : ¬ x < y → xG K (pc + 3) vs st M sz c n) : xG K pc vs (.int y :: .int x :: st) M sz c n := by
  obtain ⟨p, l, e, R, s, m, args, below, meth, c0, Q, D, dA, A⟩ := K
  exact fun H locs ls hH hS hl => lv_icmp_lt h.1 h.2.1 hd ht (fun q => kt q H locs ls hH hS hl) (fun q => kf q H locs ls hH hS hl)
theorem xg_if_ge (h : xX Y rm K) {x : Int32} {off : Int} (tgt : Nat) (hd : decode Y.2.1 pc = .ok (.ifCond .ge off, 3)) (ht : (pc : Int) + off = (tgt : Int)) (kt : 0 ≤ x → xG K tgt vs st M sz c n) (kf : ¬ 0 ≤ x → xG K (pc + 3) vs st M sz c n) : xG K pc vs (.int x :: st) M sz c n := by
  obtain ⟨p, l, e, R, s, m, args, below, meth, c0, Q, D, dA, A⟩ := K
  exact fun H locs ls hH hS hl => lv_if_ge h.1 h.2.1 hd ht (fun q => kt q H locs ls hH hS hl) (fun q => kf q H locs ls hH hS hl)
theorem xg_icmp_ge (h : xX Y rm K) {x y : Int32} {off : Int} (tgt : Nat) (hd : decode Y.2.1 pc = .ok (.if_icmp .ge off, 3)) (ht : (pc : Int) + off = (tgt : Int)) (kt : y ≤ x → xG K tgt vs st M sz c n) (kf : ¬ y ≤ x → xG K (pc + 3) vs st M sz c n) : xG K pc vs (.int y :: .int x :: st) M sz c n := by
  obtain ⟨p, l, e, R, s, m, args, below, meth, c0, Q, D, dA, A⟩ := K
  exact fun H locs ls hH hS hl => lv_icmp_ge h.1 h.2.1 hd ht (fun q => kt q H locs ls hH hS hl) (fun q => kf q H locs ls hH hS hl)
theorem xg_if_gt (h : xX Y rm K) {x : Int32} {off : Int} (tgt : Nat) (hd : decode Y.2.1 pc = .ok (.ifCond .gt off, 3)) (ht : (pc : Int) + off = (tgt : Int)) (kt : 0 < x → xG K tgt vs st M sz c n) (kf : ¬ 0 < x → xG K (pc + 3) vs st M sz c n) : xG K pc vs (.int x :: st) M sz c n := by
  obtain ⟨p, l, e, R, s, m, args, below, meth, c0, Q, D, dA, A⟩ := K
  exact fun H locs ls hH hS hl => lv_if_gt h.1 h.2.1 hd ht (fun q => kt q H locs ls hH hS hl) (fun q => kf q H locs ls hH hS hl)
theorem xg_icmp_gt (h : xX Y rm K) {x y : Int32} {off : Int} (tgt : Nat) (hd : decode Y.2.1 pc = .ok (.if_icmp .gt off, 3)) (ht : (pc : Int) + off = (tgt : Int)) (kt : y < x → xG K tgt vs st M sz c n) (kf : ¬ y < x → xG K (pc + 3) vs st M sz c n) : xG K pc vs (.int y :: .int x :: st) M sz c n := by
  obtain ⟨p, l, e, R, s, m, args, below, meth, c0, Q, D, dA, A⟩ := K
  exact fun H locs ls hH hS hl => lv_icmp_gt h.1 h.2.1 hd ht (fun q => kt q H locs ls hH hS hl) (fun q => kf q H locs ls hH hS hl)
theorem xg_if_le (h : xX Y rm K) {x : Int32} {off : Int} (tgt : Nat) (hd : decode Y.2.1 pc = .ok (.ifCond .le off, 3)) (ht : (pc : Int) + off = (tgt : Int)) (kt : x ≤ 0 → xG K tgt vs st M sz c n) (kf : ¬ x ≤ 0 → xG K (pc + 3) vs st M sz c n) : xG K pc vs (.int x :: st) M sz c n := by
  obtain ⟨p, l, e, R, s, m, args, below, meth, c0, Q, D, dA, A⟩ := K
  exact fun H locs ls hH hS hl => lv_if_le h.1 h.2.1 hd ht (fun q => kt q H locs ls hH hS hl) (fun q => kf q H locs ls hH hS hl)
theorem xg_icmp_le (h : xX Y rm K) {x y : Int32} {off : Int} (tgt : Nat) (hd : decode Y.2.1 pc = .ok (.if_icmp .le off, 3)) (ht : (pc : Int) + off = (tgt : Int)) (kt : x ≤ y → xG K tgt vs st M sz c n) (kf : ¬ x ≤ y → xG K (pc + 3) vs st M sz c n) : xG K pc vs (.int y :: .int x :: st) M sz c n := by
  obtain ⟨p, l, e, R, s, m, args, below, meth, c0, Q, D, dA, A⟩ := K
  exact fun H locs ls hH hS hl => lv_icmp_le h.1 h.2.1 hd ht (fun q => kt q H locs ls hH hS hl) (fun q => kf q H locs ls hH hS hl)
theorem xg_goto (h : xX Y rm K) {off : Int} (tgt : Nat) (hd : decode Y.2.1 pc = .ok (.goto off, 3)) (ht : (pc : Int) + off = (tgt : Int)) (k : xG K tgt vs st M sz c n) : xG K pc vs st M sz c n := by
  obtain ⟨p, l, e, R, s, m, args, below, meth, c0, Q, D, dA, A⟩ := K
  exact fun H locs ls hH hS hl => lv_goto h.1 h.2.1 hd ht (k H locs ls hH hS hl)
theorem xg_ifnonnull (h : xX Y rm K) {x : Nat} {off : Int} (tgt : Nat) (hd : decode Y.2.1 pc = .ok (.ifnonnull off, 3)) (ht : (pc : Int) + off = (tgt : Int)) (k : xG K tgt vs st M sz c n) : xG K pc vs (.ref x :: st) M sz c n := by
  obtain ⟨p, l, e, R, s, m, args, below, meth, c0, Q, D, dA, A⟩ := K
  exact fun H locs ls hH hS hl => lv_ifnonnull h.1 h.2.1 hd ht (k H locs ls hH hS hl)
theorem xg_ifnull (h : xX Y rm K) {x : Nat} {off : Int} (hd : decode Y.2.1 pc = .ok (.ifnull off, 3)) (k : xG K (pc + 3) vs st M sz c n) : xG K pc vs (.ref x :: st) M sz c n := by
  obtain ⟨p, l, e, R, s, m, args, below, meth, c0, Q, D, dA, A⟩ := K
  exact fun H locs ls hH hS hl => lv_ifnull h.1 h.2.1 hd (k H locs ls hH hS hl)
theorem xg_ifnullN (h : xX Y rm K) {off : Int} (tgt : Nat) (hd : decode Y.2.1 pc = .ok (.ifnull off, 3)) (ht : (pc : Int) + off = (tgt : Int)) (k : xG K tgt vs st M sz c n) : xG K pc vs (.null :: st) M sz c n := by
  obtain ⟨p, l, e, R, s, m, args, below, meth, c0, Q, D, dA, A⟩ := K
  exact fun H locs ls hH hS hl => lv_ifnullN h.1 h.2.1 hd ht (k H locs ls hH hS hl)
theorem xg_ifnonnullN (h : xX Y rm K) {off : Int} (hd : decode Y.2.1 pc = .ok (.ifnonnull off, 3)) (k : xG K (pc + 3) vs st M sz c n) : xG K pc vs (.null :: st) M sz c n := by
  obtain ⟨p, l, e, R, s, m, args, below, meth, c0, Q, D, dA, A⟩ := K
  exact fun H locs ls hH hS hl => lv_ifnonnullN h.1 h.2.1 hd (k H locs ls hH hS hl)
theorem xg_lookup (h : xX Y rm K) {dflt : Int} {ps : Array (Int × Int)} {len : Nat} {x : Int32} {off : Int} (tgt : Nat) (hd : decode Y.2.1 pc = .ok (.lookupswitch dflt ps, len)) (hp : (ps.toList.zip (ps.toList.drop 1)).all (fun (a, next) => a.1 < next.1) = true) (ho : Op.lookupswitch.offset ps.toList dflt x.toInt = off) (ht : (pc : Int) + off = (tgt : Int)) (k : xG K tgt vs st M sz c n) : xG K pc vs (.int x :: st) M sz c n := by
  obtain ⟨p, l, e, R, s, m, args, below, meth, c0, Q, D, dA, A⟩ := K
  exact fun H locs ls hH hS hl => lv_lookup h.1 h.2.1 hd hp ho ht (k H locs ls hH hS hl)
theorem xg_tableOut (h : xX Y rm K) {dflt lo hi : Int} {offs : Array Int} {len : Nat} {x : Int32} (tgt : Nat) (hd : decode Y.2.1 pc = .ok (.tableswitch dflt lo hi offs, len)) (h0 : x.toInt < lo ∨ hi < x.toInt) (ht : (pc : Int) + dflt = (tgt : Int)) (k : xG K tgt vs st M sz c n) : xG K pc vs (.int x :: st) M sz c n := by
  obtain ⟨p, l, e, R, s, m, args, below, meth, c0, Q, D, dA, A⟩ := K
  exact fun H locs ls hH hS hl => lv_tableOut h.1 h.2.1 hd h0 ht (k H locs ls hH hS hl)
theorem xg_tableIn (h : xX Y rm K) {dflt lo hi : Int} {offs : Array Int} {len : Nat} {x : Int32} {off : Int} (tgt : Nat) (hd : decode Y.2.1 pc = .ok (.tableswitch dflt lo hi offs, len)) (h1 : ¬ x.toInt < lo) (h2 : ¬ hi < x.toInt) (ho : offs[(x.toInt - lo).toNat]? = some off) (ht : (pc : Int) + off = (tgt : Int)) (k : xG K tgt vs st M sz c n) : xG K pc vs (.int x :: st) M sz c n := by
  obtain ⟨p, l, e, R, s, m, args, below, meth, c0, Q, D, dA, A⟩ := K
  exact fun H locs ls hH hS hl => lv_tableIn h.1 h.2.1 hd h1 h2 ho ht (k H locs ls hH hS hl)
/-- what the tables say of a class of the world: its number, name, field table, slots, types -/
def xCl (ci : Nat) (C : String) (T : u_T) (N : Nat) (ty : Nat → FieldType) : Prop := classes[ci]? = some (C, T, N) ∧ (∀ w ∈ u_ws C T N, w ∈ lw_g) ∧ (∀ k, k < N → parseFieldDescriptor (T k).2.2.1 = some (ty k)) ∧ ∀ a, a < N → ∀ b, b < N → a ≠ b → (T a).2.1 ≠ (T b).2.1
theorem xg_get (h : xX Y rm K) {ci N j ix a : Nat} {C : String} {T : u_T} {ty : Nat → FieldType} {fs : List Value} {v : Value} (hc : xCl ci C T N ty) (hd : decode Y.2.1 pc = .ok (.getfield ix, 3)) (hw : Cond.fieldLink Y.1.cls ix (T j).1 (T j).2.1 (T j).2.2.1 ∈ lw_g) (hj : j < N) (hM : M a = some (.inr (ci, fs))) (hv : fs[j]? = some v) (k : xG K (pc + 3) vs (v :: st) M sz c n) : xG K pc vs (.ref a :: st) M sz c n := by
  obtain ⟨p, l, e, R, s, m, args, below, meth, c0, Q, D, dA, A⟩ := K
  obtain ⟨hx, hb, hml, hr, hlk, hown, hts, hKK, hA, hnm, hR, hNs⟩ := h
  exact fun H locs ls hH hS hl => va_get (D := D) (cl := classes) (tys := xTys dA) (ws := [(a, xe dA (.inr (ci, fs)))]) hx hb hts hc.2.1 hown hKK (hH.one hM) 0 rfl hc.1 j hj (hts _ hw) (fun _ h9 => h9) hv hd (k H locs ls hH hS hl)
theorem xg_put (h : xX Y rm K) {ci N j ix a : Nat} {C : String} {T : u_T} {ty : Nat → FieldType} {fs : List Value} {v : Value} (hc : xCl ci C T N ty) (hd : decode Y.2.1 pc = .ok (.putfield ix, 3)) (hw : Cond.fieldLink Y.1.cls ix (T j).1 (T j).2.1 (T j).2.2.1 ∈ lw_g) (hj : j < N) (hf : (T j).2.2.2 = false) (hM : M a = some (.inr (ci, fs))) (hl0 : j < fs.length) (hn : narrow (ty j) v = v) (hft : fits (ty j) v = true) {fs' : List Value} (hv : fs.set j v = fs') (k : xG K (pc + 3) vs st (xup M a (.inr (ci, fs'))) sz c n) : xG K pc vs (v :: .ref a :: st) M sz c n := by
  subst hv
  obtain ⟨p, l, e, R, s, m, args, below, meth, c0, Q, D, dA, A⟩ := K
  obtain ⟨hx, hb, hml, hr, hlk, hown, hts, hKK, hA, hnm, hR, hNs⟩ := h
  intro H locs ls hH hS hl
  have hap := va_apart (own := Y.1.cls) hts hc.2.1 ty hc.2.2.1 hc.2.2.2 hKK hc.1
  obtain ⟨⟨r, h1, cell, q1, q2, q3, q4⟩, hAa⟩ := hH.2 a _ hM
  have hr1 : r = (C, T, N) := Option.some.inj (h1.symm.trans hc.1)
  subst hr1
  obtain ⟨hSl, hfc, kC, hkC, hkind⟩ := hKK.1 ci _ hc.1
  obtain ⟨cf, kf, fi, f, hi, hsl⟩ := hSl j hj
  have hlay := hts _ (hc.2.1 _ (u_in_lay hj))
  unfold u_lay at hlay
  rw [if_neg (by rw [hf]; decide)] at hlay
  have hst := (u_facts hfc hkC (u_lays hts hc.2.1 hj) hi).1
  have h6 := u_store hfc hkC hkind hlay hi (hc.2.2.1 j hj) hn hft
  refine W.putK hx hb (f := f) ⟨hown, hts _ hw, ⟨_, _, _, hi⟩, hst⟩ (by rw [q2]; exact h6) q1 q3 (by rw [hsl]; exact k2_hasslot (q4 j hj)) rfl rfl hd fun H' e1 e2 e3 => ?_
  rw [hsl] at e1 ⊢
  exact k H' _ ls (hH.put hAa ⟨_, hc.1, t_OB.to (V := updV (vp_V fs) j v) ⟨_, e1, q2, q3, t_set q4 hap hj v⟩ (fun i _ => vp_updV_set hl0 v i)⟩ e2 e3) (hS.put e2 e3 hAa) hl
theorem xg_putF (h : xX Y rm K) {ci N j ix a : Nat} {C : String} {T : u_T} {ty : Nat → FieldType} {fs : List Value} {v : Value} (hc : xCl ci C T N ty) (hd : decode Y.2.1 pc = .ok (.putfield ix, 3)) (hw : Cond.fieldLink Y.1.cls ix (T j).1 (T j).2.1 (T j).2.2.1 ∈ lw_g) (hj : j < N) (hf : (T j).2.2.2 = true) (hin : Y.1.name = "<init>") (hcls : (T j).1 = Y.1.cls) (hM : M a = some (.inr (ci, fs))) (hl0 : j < fs.length) (hn : narrow (ty j) v = v) (hft : fits (ty j) v = true) {fs' : List Value} (hv : fs.set j v = fs') (k : xG K (pc + 3) vs st (xup M a (.inr (ci, fs'))) sz c n) : xG K pc vs (v :: .ref a :: st) M sz c n := by
  subst hv
  obtain ⟨p, l, e, R, s, m, args, below, meth, c0, Q, D, dA, A⟩ := K
  obtain ⟨hx, hb, hml, hr, hlk, hown, hts, hKK, hA, hnm, hR, hNs⟩ := h
  intro H locs ls hH hS hl
  have hap := va_apart (own := Y.1.cls) hts hc.2.1 ty hc.2.2.1 hc.2.2.2 hKK hc.1
  obtain ⟨⟨r, h1, cell, q1, q2, q3, q4⟩, hAa⟩ := hH.2 a _ hM
  have hr1 : r = (C, T, N) := Option.some.inj (h1.symm.trans hc.1)
  subst hr1
  obtain ⟨hSl, hfc, kC, hkC, hkind⟩ := hKK.1 ci _ hc.1
  obtain ⟨cf, kf, fi, f, hi, hsl⟩ := hSl j hj
  have hlay := hts _ (hc.2.1 _ (u_in_lay hj))
  unfold u_lay at hlay
  rw [if_pos hf] at hlay
  have hst := (u_facts hfc hkC (u_lays hts hc.2.1 hj) hi).1
  have hcf : m.cls = cf := by
    obtain ⟨_, _, c', _, _, _, -, -, hf', -, -, -, hown2, -⟩ := Cond.laysFinal_spec hlay
    have e1 : c' = cf := by have := hi.symm.trans hf'; simp at this; exact this.1.symm
    rw [hcls] at hown2
    rw [← e1]; exact Option.some.inj (hown.symm.trans hown2)
  have h6 := u_fits hfc hkC hkind (Or.inr hlay) hi (hc.2.2.1 j hj) hn hft
  refine W.putFinK hx hb hown (hts _ hw) hi hst hcf (hnm.trans hin) (by rw [q2]; exact h6) q1 q3 (by rw [hsl]; exact k2_hasslot (q4 j hj)) rfl rfl hd fun H' e1 e2 e3 => ?_
  rw [hsl] at e1 ⊢
  exact k H' _ ls (hH.put hAa ⟨_, hc.1, t_OB.to (V := updV (vp_V fs) j v) ⟨_, e1, q2, q3, t_set q4 hap hj v⟩ (fun i _ => vp_updV_set hl0 v i)⟩ e2 e3) (hS.put e2 e3 hAa) hl
theorem xg_bald (h : xX Y rm K) {t n0 a : Nat} {f : Nat → Int32} {i : Int32} (hd : decode Y.2.1 pc = .ok (.baload, 1)) (ht : xTy[t]? = some .byte) (hM : M a = some (.inl (t, n0, .inl f))) (hi : vp_in i n0) (k : xG K (pc + 1) vs (.int (f i.toNatClampNeg) :: st) M sz c n) : xG K pc vs (.int i :: .ref a :: st) M sz c n := by
  obtain ⟨p, l, e, R, s, m, args, below, meth, c0, Q, D, dA, A⟩ := K
  obtain ⟨hx, hb, hml, hr, hlk, hown, hts, hKK, hA, hnm, hR, hNs⟩ := h
  exact fun H locs ls hH hS hl => va_bald (D := D) (cl := classes) (tys := xTys dA) (ws := [(a, xe dA (.inl (t, n0, .inl f)))]) hx hb hKK (hH.one hM) 0 t rfl (xTys_at dA ht) hi hd (k H locs ls hH hS hl)
theorem xg_iald (h : xX Y rm K) {t n0 a : Nat} {f : Nat → Int32} {i : Int32} (hd : decode Y.2.1 pc = .ok (.iaload, 1)) (ht : xTy[t]? = some .int) (hM : M a = some (.inl (t, n0, .inl f))) (hi : vp_in i n0) (k : xG K (pc + 1) vs (.int (f i.toNatClampNeg) :: st) M sz c n) : xG K pc vs (.int i :: .ref a :: st) M sz c n := by
  obtain ⟨p, l, e, R, s, m, args, below, meth, c0, Q, D, dA, A⟩ := K
  obtain ⟨hx, hb, hml, hr, hlk, hown, hts, hKK, hA, hnm, hR, hNs⟩ := h
  exact fun H locs ls hH hS hl => va_iald (D := D) (cl := classes) (tys := xTys dA) (ws := [(a, xe dA (.inl (t, n0, .inl f)))]) hx hb hKK (hH.one hM) 0 t rfl (xTys_at dA ht) hi hd (k H locs ls hH hS hl)
theorem xg_zald (h : xX Y rm K) {t n0 a : Nat} {f : Nat → Int32} {i : Int32} (hd : decode Y.2.1 pc = .ok (.baload, 1)) (ht : xTy[t]? = some .boolean) (hM : M a = some (.inl (t, n0, .inl f))) (hi : vp_in i n0) (k : xG K (pc + 1) vs (.int (f i.toNatClampNeg) :: st) M sz c n) : xG K pc vs (.int i :: .ref a :: st) M sz c n := by
  obtain ⟨p, l, e, R, s, m, args, below, meth, c0, Q, D, dA, A⟩ := K
  obtain ⟨hx, hb, hml, hr, hlk, hown, hts, hKK, hA, hnm, hR, hNs⟩ := h
  exact fun H locs ls hH hS hl => va_zald (D := D) (cl := classes) (tys := xTys dA) (ws := [(a, xe dA (.inl (t, n0, .inl f)))]) hx hb hKK (hH.one hM) 0 t rfl (xTys_at dA ht) hi hd (k H locs ls hH hS hl)
theorem xg_cald (h : xX Y rm K) {t n0 a : Nat} {f : Nat → Int32} {i : Int32} (hd : decode Y.2.1 pc = .ok (.caload, 1)) (ht : xTy[t]? = some .char) (hM : M a = some (.inl (t, n0, .inl f))) (hi : vp_in i n0) (k : xG K (pc + 1) vs (.int (f i.toNatClampNeg) :: st) M sz c n) : xG K pc vs (.int i :: .ref a :: st) M sz c n := by
  obtain ⟨p, l, e, R, s, m, args, below, meth, c0, Q, D, dA, A⟩ := K
  obtain ⟨hx, hb, hml, hr, hlk, hown, hts, hKK, hA, hnm, hR, hNs⟩ := h
  exact fun H locs ls hH hS hl => va_cald (D := D) (cl := classes) (tys := xTys dA) (ws := [(a, xe dA (.inl (t, n0, .inl f)))]) hx hb hKK (hH.one hM) 0 t rfl (xTys_at dA ht) hi hd (k H locs ls hH hS hl)
theorem xg_aald (h : xX Y rm K) {t n0 a : Nat} {f : Nat → Option Nat} {i : Int32} {C : String} {v : Value} (hd : decode Y.2.1 pc = .ok (.aaload, 1)) (ht : xTy[t]? = some (.object C)) (hM : M a = some (.inl (t, n0, .inr (.inr (.inr (.inr f)))))) (hi : vp_in i n0) (hv : va_rf (f i.toNatClampNeg) = v) (k : xG K (pc + 1) vs (v :: st) M sz c n) : xG K pc vs (.int i :: .ref a :: st) M sz c n := by
  subst hv
  obtain ⟨p, l, e, R, s, m, args, below, meth, c0, Q, D, dA, A⟩ := K
  obtain ⟨hx, hb, hml, hr, hlk, hown, hts, hKK, hA, hnm, hR, hNs⟩ := h
  exact fun H locs ls hH hS hl => va_aldq (D := D) (cl := classes) (tys := xTys dA) (ws := [(a, xe dA (.inl (t, n0, .inr (.inr (.inr (.inr f))))))]) hx hb hKK (hH.one hM) 0 t rfl (xTys_at dA ht) hi hd (k H locs ls hH hS hl)
theorem xg_alen (h : xX Y rm K) {t a : Nat} {x : vp_A} {ty : FieldType} (hd : decode Y.2.1 pc = .ok (.arraylength, 1)) (ht : xTy[t]? = some ty) (hM : M a = some (.inl (t, x))) (k : xG K (pc + 1) vs (.int (nI x.1) :: st) M sz c n) : xG K pc vs (.ref a :: st) M sz c n := by
  obtain ⟨p, l, e, R, s, m, args, below, meth, c0, Q, D, dA, A⟩ := K
  obtain ⟨hx, hb, hml, hr, hlk, hown, hts, hKK, hA, hnm, hR, hNs⟩ := h
  exact fun H locs ls hH hS hl => va_alen (D := D) (cl := classes) (tys := xTys dA) (ws := [(a, xe dA (.inl (t, x)))]) hx hb hKK (hH.one hM) 0 t rfl (xTys_at dA ht) rfl hd (k H locs ls hH hS hl)
theorem xg_bast (h : xX Y rm K) {t n0 a : Nat} {f : Nat → Int32} {i x : Int32} (hd : decode Y.2.1 pc = .ok (.bastore, 1)) (ht : xTy[t]? = some .byte) (hM : M a = some (.inl (t, n0, .inl f))) (hi : vp_in i n0) (k : xG K (pc + 1) vs st (xup M a (.inl (t, n0, .inl (upd f i.toNatClampNeg (vp_nar .byte x))))) sz c n) : xG K pc vs (.int x :: .int i :: .ref a :: st) M sz c n := by
  obtain ⟨p, l, e, R, s, m, args, below, meth, c0, Q, D, dA, A⟩ := K
  obtain ⟨hx, hb, hml, hr, hlk, hown, hts, hKK, hA, hnm, hR, hNs⟩ := h
  intro H locs ls hH hS hl
  obtain ⟨h1, hAa⟩ := hH.2 a _ hM
  have h1 : H[a]? = some (vp_cell (dA t) (n0, .inl f)) := h1
  refine W.bast hx hb h1 ((hKK.2 t _ (xTys_at dA ht)).1 n0 (fun j => .int (f j))) (fun q => by cases q) (by show ¬ (i < 0 ∨ (arrV _ _ _).slots.size ≤ _); rw [arrV_size]; exact hi) rfl rfl hd fun H1 e9 z oq => ?_
  refine k H1 _ ls (hH.put hAa ?_ z oq) (hS.put z oq hAa) hl
  show H1[a]? = some (vp_cell _ _)
  rw [e9, vp_cell_i, vp_cell_i, arrV_store]
  congr 2
  funext q
  by_cases hq : q = i.toNatClampNeg
  · subst hq
    simp [updV, upd, vp_nar]
    try rfl
  · simp [updV, upd, hq]
theorem xg_iast (h : xX Y rm K) {t n0 a : Nat} {f : Nat → Int32} {i x : Int32} (hd : decode Y.2.1 pc = .ok (.iastore, 1)) (ht : xTy[t]? = some .int) (hM : M a = some (.inl (t, n0, .inl f))) (hi : vp_in i n0) (k : xG K (pc + 1) vs st (xup M a (.inl (t, n0, .inl (upd f i.toNatClampNeg x)))) sz c n) : xG K pc vs (.int x :: .int i :: .ref a :: st) M sz c n := by
  obtain ⟨p, l, e, R, s, m, args, below, meth, c0, Q, D, dA, A⟩ := K
  obtain ⟨hx, hb, hml, hr, hlk, hown, hts, hKK, hA, hnm, hR, hNs⟩ := h
  intro H locs ls hH hS hl
  obtain ⟨h1, hAa⟩ := hH.2 a _ hM
  have h1 : H[a]? = some (vp_cell (dA t) (n0, .inl f)) := h1
  refine W.iast hx hb h1 ((hKK.2 t _ (xTys_at dA ht)).1 n0 (fun j => .int (f j))) (fun q => by cases q) (by show ¬ (i < 0 ∨ (arrV _ _ _).slots.size ≤ _); rw [arrV_size]; exact hi) rfl rfl hd fun H1 e9 z oq => ?_
  refine k H1 _ ls (hH.put hAa ?_ z oq) (hS.put z oq hAa) hl
  show H1[a]? = some (vp_cell _ _)
  rw [e9, vp_cell_i, vp_cell_i, arrV_store]
  congr 2
  funext q
  by_cases hq : q = i.toNatClampNeg
  · subst hq
    simp [updV, upd, vp_nar]
    try rfl
  · simp [updV, upd, hq]
theorem xg_zast (h : xX Y rm K) {t n0 a : Nat} {f : Nat → Int32} {i x : Int32} (hd : decode Y.2.1 pc = .ok (.bastore, 1)) (ht : xTy[t]? = some .boolean) (hM : M a = some (.inl (t, n0, .inl f))) (hi : vp_in i n0) (k : xG K (pc + 1) vs st (xup M a (.inl (t, n0, .inl (upd f i.toNatClampNeg (vp_nar .boolean x))))) sz c n) : xG K pc vs (.int x :: .int i :: .ref a :: st) M sz c n := by
  obtain ⟨p, l, e, R, s, m, args, below, meth, c0, Q, D, dA, A⟩ := K
  obtain ⟨hx, hb, hml, hr, hlk, hown, hts, hKK, hA, hnm, hR, hNs⟩ := h
  intro H locs ls hH hS hl
  obtain ⟨h1, hAa⟩ := hH.2 a _ hM
  have h1 : H[a]? = some (vp_cell (dA t) (n0, .inl f)) := h1
  refine W.zast hx hb h1 ((hKK.2 t _ (xTys_at dA ht)).1 n0 (fun j => .int (f j))) (fun q => by cases q) (by show ¬ (i < 0 ∨ (arrV _ _ _).slots.size ≤ _); rw [arrV_size]; exact hi) rfl rfl hd fun H1 e9 z oq => ?_
  refine k H1 _ ls (hH.put hAa ?_ z oq) (hS.put z oq hAa) hl
  show H1[a]? = some (vp_cell _ _)
  rw [e9, vp_cell_i, vp_cell_i, arrV_store]
  congr 2
  funext q
  by_cases hq : q = i.toNatClampNeg
  · subst hq
    simp [updV, upd, vp_nar]
    try rfl
  · simp [updV, upd, hq]
theorem xg_cast (h : xX Y rm K) {t n0 a : Nat} {f : Nat → Int32} {i x : Int32} (hd : decode Y.2.1 pc = .ok (.castore, 1)) (ht : xTy[t]? = some .char) (hM : M a = some (.inl (t, n0, .inl f))) (hi : vp_in i n0) (k : xG K (pc + 1) vs st (xup M a (.inl (t, n0, .inl (upd f i.toNatClampNeg (vp_nar .char x))))) sz c n) : xG K pc vs (.int x :: .int i :: .ref a :: st) M sz c n := by
  obtain ⟨p, l, e, R, s, m, args, below, meth, c0, Q, D, dA, A⟩ := K
  obtain ⟨hx, hb, hml, hr, hlk, hown, hts, hKK, hA, hnm, hR, hNs⟩ := h
  intro H locs ls hH hS hl
  obtain ⟨h1, hAa⟩ := hH.2 a _ hM
  have h1 : H[a]? = some (vp_cell (dA t) (n0, .inl f)) := h1
  refine W.cast hx hb h1 ((hKK.2 t _ (xTys_at dA ht)).1 n0 (fun j => .int (f j))) (fun q => by cases q) (by show ¬ (i < 0 ∨ (arrV _ _ _).slots.size ≤ _); rw [arrV_size]; exact hi) rfl rfl hd fun H1 e9 z oq => ?_
  refine k H1 _ ls (hH.put hAa ?_ z oq) (hS.put z oq hAa) hl
  show H1[a]? = some (vp_cell _ _)
  rw [e9, vp_cell_i, vp_cell_i, arrV_store]
  congr 2
  funext q
  by_cases hq : q = i.toNatClampNeg
  · subst hq
    simp [updV, upd, vp_nar]
    try rfl
  · simp [updV, upd, hq]
theorem xg_aast (h : xX Y rm K) {t n0 a v ci N : Nat} {f : Nat → Option Nat} {i : Int32} {C : String} {T : u_T} {ty : Nat → FieldType} {fs : List Value} (hc : xCl ci C T N ty) (hd : decode Y.2.1 pc = .ok (.aastore, 1)) (ht : xTy[t]? = some (.object C)) (hM : M a = some (.inl (t, n0, .inr (.inr (.inr (.inr f)))))) (hv : M v = some (.inr (ci, fs))) (hi : vp_in i n0) (k : xG K (pc + 1) vs st (xup M a (.inl (t, n0, .inr (.inr (.inr (.inr (va_up f i.toNatClampNeg (some v)))))))) sz c n) : xG K pc vs (.ref v :: .int i :: .ref a :: st) M sz c n := by
  obtain ⟨p, l, e, R, s, m, args, below, meth, c0, Q, D, dA, A⟩ := K
  obtain ⟨hx, hb, hml, hr, hlk, hown, hts, hKK, hA, hnm, hR, hNs⟩ := h
  intro H locs ls hH hS hl
  obtain ⟨h1, hAa⟩ := hH.2 a _ hM
  have h1 : H[a]? = some (vp_cell (dA t) (n0, .inr (.inr (.inr (.inr f))))) := h1
  have hlt : i.toNatClampNeg < n0 := Nat.not_le.mp fun q => hi (Or.inr q)
  have h0 : ¬ i < 0 := fun q => hi (Or.inl q)
  obtain ⟨⟨r', hr', cellV, g1, g2, g3, -⟩, -⟩ := hH.2 v _ hv
  have hcls := (hKK.1 ci _ hc.1).2
  obtain ⟨kA, comp, k1, k2, k3, -⟩ := (hKK.2 t _ (xTys_at dA ht)).2
  have hcomp : comp = D.1 ci := Option.some.inj (k3.symm.trans hcls.1)
  subst hcomp
  obtain ⟨kC, hkC, -⟩ := hcls.2
  refine W.aast hx hb h1 (fun q h => by cases h) (fun h => by cases h) k1 k2 rfl hkC ⟨h0, by show _ < (arrV _ _ _).slots.size; rw [arrV_size]; exact hlt⟩ g1 (fun q h => by rw [g3] at h; cases h) (by rw [g2]; exact hkC) (by rw [g2]; exact va_assign hcls) rfl rfl hd fun H1 e9 z oq => ?_
  refine k H1 _ ls (hH.put hAa ?_ z oq) (hS.put z oq hAa) hl
  show H1[a]? = some (vp_cell _ _)
  rw [e9, vp_cell_q, vp_cell_q, arrV_store]
  congr 2
  funext q
  by_cases hq : q = i.toNatClampNeg
  · subst hq
    simp [updV, va_up, va_rf]
  · simp [updV, va_up, hq]
theorem xg_new (h : xX Y rm K) {ci N ix : Nat} {C : String} {T : u_T} {ty : Nat → FieldType} (fs : List Value) (hc : xCl ci C T N ty) (hd : decode Y.2.1 pc = .ok (.new ix, 3)) (hw1 : Cond.classLink Y.1.cls ix C ∈ lw_g) (hw2 : Cond.instantiable C N ∈ lw_g) (hw3 : Cond.initialized C ∈ lw_g) (hfs : ∀ j, j < N → defaultValue (ty j) = vp_V fs j) (hcc : c + 1 ≤ rm.cells) (hss : n + N ≤ rm.slots) (k : M sz = none → xG K (pc + 3) vs (.ref sz :: st) (xup M sz (.inr (ci, fs))) (sz + 1) (c + 1) (n + N)) : xG K pc vs st M sz c n := by
  obtain ⟨p, l, e, R, s, m, args, below, meth, c0, Q, D, dA, A⟩ := K
  obtain ⟨hx, hb, hml, hr, hlk, hown, hts, hKK, hA, hnm, hR, hNs⟩ := h
  subst hR
  intro H locs ls hH hS hl
  have hKn := hKK.1 ci _ hc.1
  have hfr : M sz = none := by
    cases hz : M sz with
    | none => rfl
    | some z => exact absurd (hH.lt hz) (Nat.lt_irrefl _)
  have hAs : A sz := hA sz (by rw [← hH.1]; exact hS.1)
  refine W.newcK hx hb hown (hts _ hw1) (hts _ hw2) (hts _ hw3) rfl hd hcc hss hKn.2.1 hH.1 fun H1 kC hkC e1 z1 o1 => ?_
  exact k hfr H1 locs ls (hH.push hAs ⟨_, hc.1, (u_born ty hts hc.2.1 hKn hkC e1 hc.2.2.1).to hfs⟩ z1 o1) ⟨by rw [z1, ← hH.1]; exact Nat.le_succ_of_le hS.1, fun q h1 h2 => (o1 q (by rw [← hH.1]; exact Nat.lt_of_lt_of_le h1 hS.1)).trans (hS.2.1 q h1 h2), hS.2.2⟩ hl
theorem xg_newa (h : xX Y rm K) {t : Nat} {atype : ArrayType} {ty : FieldType} {x : Int32} (N : Nat) (hd : decode Y.2.1 pc = .ok (.newarray atype, 2)) (hw : Cond.arrayClass (newarray.typeOf atype) ∈ lw_g) (ha : newarray.typeOf atype = ty) (ht : xTy[t]? = some ty) (hprim : ∃ v : Int32, defaultValue ty = .int v ∧ v = 0) (hrf : ∀ C, ty ≠ .object C) (hx0 : ¬ x < 0) (hN : x.toNatClampNeg = N) (hby : N * componentBytes ty ≤ 536870912) (hcc : c + 1 ≤ rm.cells) (hss : n + N ≤ rm.slots) (k : M sz = none → xG K (pc + 2) vs (.ref sz :: st) (xup M sz (.inl (t, N, .inl (fun _ => 0)))) (sz + 1) (c + 1) (n + N)) : xG K pc vs (.int x :: st) M sz c n := by
  subst ha
  obtain ⟨p, l, e, R, s, m, args, below, meth, c0, Q, D, dA, A⟩ := K
  obtain ⟨hx, hb, hml, hr, hlk, hown, hts, hKK, hA, hnm, hR, hNs⟩ := h
  subst hR
  intro H locs ls hH hS hl
  have hfr : M sz = none := by
    cases hz : M sz with
    | none => rfl
    | some z => exact absurd (hH.lt hz) (Nat.lt_irrefl _)
  have hAs : A sz := hA sz (by rw [← hH.1]; exact hS.1)
  refine va_newaK hx hb (hts _ hw) rfl hd rfl hx0 hN hby hcc hss hH.1 fun H1 cA e1 z1 o1 hAr hNm => ?_
  have hcA : cA = dA t := by
    have h2 := (hKK.2 t _ (xTys_at dA ht)).2
    have h3 : s.vm.findClass ("[" ++ (newarray.typeOf atype).toString) = some (dA t) := by cases atype <;> exact h2
    exact Option.some.inj (hNm.symm.trans h3)
  subst hcA
  obtain ⟨v, hv1, rfl⟩ := hprim
  refine k hfr H1 locs ls (hH.push hAs ?_ z1 o1) ⟨by rw [z1, ← hH.1]; exact Nat.le_succ_of_le hS.1, fun q h1 h2 => (o1 q (by rw [← hH.1]; exact Nat.lt_of_lt_of_le h1 hS.1)).trans (hS.2.1 q h1 h2), hS.2.2⟩ hl
  show H1[sz]? = some (vp_cell _ _)
  rw [e1, vp_cell_i, hv1]
theorem xg_newq (h : xX Y rm K) {t ix : Nat} {C : String} {x : Int32} (N : Nat) (hd : decode Y.2.1 pc = .ok (.anewarray ix, 3)) (hw : Cond.classLink Y.1.cls ix C ∈ lw_g) (hw2 : C ∈ xAo) (ht : xTy[t]? = some (.object C)) (hx0 : ¬ x < 0) (hN : x.toNatClampNeg = N) (hby : N * 4 ≤ 536870912) (hcc : c + 1 ≤ rm.cells) (hss : n + N ≤ rm.slots) (k : M sz = none → xG K (pc + 3) vs (.ref sz :: st) (xup M sz (.inl (t, N, .inr (.inr (.inr (.inr (fun _ => none))))))) (sz + 1) (c + 1) (n + N)) : xG K pc vs (.int x :: st) M sz c n := by
  subst hN
  obtain ⟨p, l, e, R, s, m, args, below, meth, c0, Q, D, dA, A⟩ := K
  obtain ⟨hx, hb, hml, hr, hlk, hown, hts, hKK, hA, hnm, hR, hNs⟩ := h
  subst hR
  intro H locs ls hH hS hl
  have hfr : M sz = none := by
    cases hz : M sz with
    | none => rfl
    | some z => exact absurd (hH.lt hz) (Nat.lt_irrefl _)
  have hAs : A sz := hA sz (by rw [← hH.1]; exact hS.1)
  refine W.anew hx hb hown (hts _ hw) (va_AO.use (hNs.2 C hw2)) rfl hd rfl hx0 hby hcc hss fun cA kA comp f1 f2 f3 f4 => ?_
  generalize hH1 : H.push ({ cls := cA, slots := Array.replicate x.toNatClampNeg .null, vm := .none } : Cell) = H1
  have z1 : H1.size = sz + 1 := by rw [← hH1, Array.size_push, hH.1]
  have e1 : H1[sz]? = some (arrV cA x.toNatClampNeg (fun _ => .null)) := by rw [← hH1, ← hH.1, Array.getElem?_push_size, ← arrV_new]
  have o1 : ∀ q : Nat, q < sz → H1[q]? = H[q]? := fun q hq => by rw [← hH1, Array.getElem?_push, if_neg (Nat.ne_of_lt (by rw [hH.1]; exact hq))]
  have hcA : cA = dA t := by
    obtain ⟨kA2, comp2, -, -, -, g4⟩ := (hKK.2 t _ (xTys_at dA ht)).2
    exact Option.some.inj (f1.symm.trans g4)
  subst hcA
  have k9 := k hfr H1 locs ls (hH.push hAs (by show H1[sz]? = some (vp_cell _ _); rw [e1, vp_cell_q]; rfl) z1 o1) ⟨by rw [z1, ← hH.1]; exact Nat.le_succ_of_le hS.1, fun q h1 h2 => (o1 q (by rw [← hH.1]; exact Nat.lt_of_lt_of_le h1 hS.1)).trans (hS.2.1 q h1 h2), hS.2.2⟩ hl
  rw [hH.1]
  exact k9
theorem xg_min (h : xX Y rm K) {ix : Nat} {x y : Int32} (hd : decode Y.2.1 pc = .ok (.invokestatic ix, 3)) (hw : Cond.methodLink Y.1.cls ix Lib.Math.min.name ∈ lw_g) (hw2 : Cond.static Lib.Math.min.name ∈ lw_g) (hw3 : Cond.initialized "java/lang/Math" ∈ lw_g) (hw4 : Cond.code Lib.Math.min.name Lib.Math.min.code 2 (some .int) ∈ lw_g) (hfr : 1 ≤ rm.frames) (hlo : (st.map fun v => v.category).sum + 13 ≤ rm.locals) (hcc : c ≤ rm.cells) (hss : n ≤ rm.slots) (k : xG K (pc + 3) vs (.int (if y < x then y else x) :: st) M sz c n) : xG K pc vs (.int y :: .int x :: st) M sz c n := by
  obtain ⟨p, l, e, R, s, m, args, below, meth, c0, Q, D, dA, A⟩ := K
  obtain ⟨hx, hb, hml, hr, hlk, hown, hts, hKK, hA, hnm, hR, hNs⟩ := h
  subst hR
  exact fun H locs ls hH hS hl => va_mmin hx hb hl.1.symm hown (hts _ hw) (hts _ hw2) (hts _ hw3) (hts _ hw4) hfr hlo hcc hss hd (k H locs ls hH hS hl)
theorem xg_max (h : xX Y rm K) {ix : Nat} {x y : Int32} (hd : decode Y.2.1 pc = .ok (.invokestatic ix, 3)) (hw : Cond.methodLink Y.1.cls ix Lib.Math.max.name ∈ lw_g) (hw2 : Cond.static Lib.Math.max.name ∈ lw_g) (hw3 : Cond.initialized "java/lang/Math" ∈ lw_g) (hw4 : Cond.code Lib.Math.max.name Lib.Math.max.code 2 (some .int) ∈ lw_g) (hfr : 1 ≤ rm.frames) (hlo : (st.map fun v => v.category).sum + 13 ≤ rm.locals) (hcc : c ≤ rm.cells) (hss : n ≤ rm.slots) (k : xG K (pc + 3) vs (.int (if x < y then y else x) :: st) M sz c n) : xG K pc vs (.int y :: .int x :: st) M sz c n := by
  obtain ⟨p, l, e, R, s, m, args, below, meth, c0, Q, D, dA, A⟩ := K
  obtain ⟨hx, hb, hml, hr, hlk, hown, hts, hKK, hA, hnm, hR, hNs⟩ := h
  subst hR
  exact fun H locs ls hH hS hl => va_mmax hx hb hl.1.symm hown (hts _ hw) (hts _ hw2) (hts _ hw3) (hts _ hw4) hfr hlo hcc hss hd (k H locs ls hH hS hl)
theorem xg_oinit (h : xX Y rm K) {ix a : Nat} (hd : decode Y.2.1 pc = .ok (.invokespecial ix, 3)) (hw : Cond.methodLink Y.1.cls ix Lib.objectInit ∈ lw_g) (hw2 : Cond.instanceMethod Lib.objectInit ∈ lw_g) (hw3 : Cond.code Lib.objectInit ⟨#[0xb1]⟩ 1 none ∈ lw_g) (hfr : 1 ≤ rm.frames) (hlo : (st.map fun v => v.category).sum + 12 ≤ rm.locals) (k : xG K (pc + 3) vs st M sz c n) : xG K pc vs (.ref a :: st) M sz c n := by
  obtain ⟨p, l, e, R, s, m, args, below, meth, c0, Q, D, dA, A⟩ := K
  obtain ⟨hx, hb, hml, hr, hlk, hown, hts, hKK, hA, hnm, hR, hNs⟩ := h
  subst hR
  exact fun H locs ls hH hS hl => W.objInit hx hb hown (hts _ hw) (hts _ hw2) (hts _ hw3) rfl hl.1 rfl hd hfr (by show 2 * 0 + _ + 12 ≤ _; omega) (k H locs ls hH hS hl)
theorem xg_copy (h : xX Y rm K) {t ix n0 n1 a0 a : Nat} {f g : Nat → Int32} {ty : FieldType} {sp dp w : Int32} (hd : decode Y.2.1 pc = .ok (.invokestatic ix, 3)) (hw : Cond.methodLink Y.1.cls ix arraycopyName ∈ lw_g) (hw2 : Cond.native arraycopyName ∈ lw_g) (hw3 : Cond.static arraycopyName ∈ lw_g) (hw4 : Cond.initialized "java/lang/System" ∈ lw_g) (ht : xTy[t]? = some ty) (hprim : refKind ty = false) (hM0 : M a0 = some (.inl (t, n0, .inl f))) (hM1 : M a = some (.inl (t, n1, .inl g))) (h1 : ¬ sp < 0) (h2 : ¬ dp < 0) (h3 : ¬ w < 0) (h4 : sp.toNatClampNeg + w.toNatClampNeg ≤ n0) (h5 : dp.toNatClampNeg + w.toNatClampNeg ≤ n1) (hfit : ∀ i, i < w.toNatClampNeg → fits ty (.int (f (sp.toNatClampNeg + i))) = true) (hfr : 1 ≤ rm.frames) (hlo : (st.map fun v => v.category).sum + (nativeFrameWords "java/lang/System" "arraycopy" 5 + 11) ≤ rm.locals) (k : xG K (pc + 3) vs st (xup M a (.inl (t, n1, .inl (va_cpy f g sp.toNatClampNeg dp.toNatClampNeg w.toNatClampNeg)))) sz c n) : xG K pc vs (.int w :: .int dp :: .ref a :: .int sp :: .ref a0 :: st) M sz c n := by
  obtain ⟨p, l, e, R, s, m, args, below, meth, c0, Q, D, dA, A⟩ := K
  obtain ⟨hx, hb, hml, hr, hlk, hown, hts, hKK, hA, hnm, hR, hNs⟩ := h
  subst hR
  intro H locs ls hH hS hl T hT X
  have nn : ∀ z : Int32, ¬ z < 0 → z.toInt = (z.toNatClampNeg : Int) := by
    intro z hz
    have hz0 : (0 : Int) ≤ z.toInt := by
      have := Int32.not_lt.mp hz
      simpa using Int32.le_iff_toInt_le.mp this
    show z.toInt = ((z.toInt.toNat : Nat) : Int)
    omega
  have hc0 : H[a0]? = some (vp_cell (dA t) (n0, .inl f)) := (hH.2 a0 _ hM0).1
  obtain ⟨hc1, hAa⟩ := hH.2 a _ hM1
  have hc1 : H[a]? = some (vp_cell (dA t) (n1, .inl g)) := hc1
  obtain ⟨-, k0, hk0, cm0, hkk0⟩ := (hKK.2 t _ (xTys_at dA ht)).1 n0 (fun j => .int (f j))
  obtain ⟨vm', X', step⟩ := X.arraycopy hx hown (hts _ hw) (hts _ hw2) (hts _ hw3) (hts _ hw4) (src := a0) (dst := a) (cs := vp_cell (dA t) (n0, .inl f)) (cd := vp_cell (dA t) (n1, .inl g)) (srcPos := sp) (destPos := dp) (n := w) (by rw [hT]; exact hc0) (by rw [hT]; exact hc1)
    (fun _ h => by cases h) (fun _ h => by cases h) (fun h => by cases h) (fun h => by cases h) hk0 hk0 hkk0 hkk0 (by simp [hprim]) h1 h2 h3
    (by rw [nn sp h1, nn w h3]; show ¬ _ > ((arrV (dA t) n0 (fun j => .int (f j))).slots.size : Int); rw [arrV_size]; omega)
    (by rw [nn dp h2, nn w h3]; show ¬ _ > ((arrV (dA t) n1 (fun j => .int (g j))).slots.size : Int); rw [arrV_size]; omega)
    (fun vm₁ _ i hi => by
      have e9 : (vp_cell (dA t) (n0, .inl f)).slots.getD (sp.toNatClampNeg + i) .null = .int (f (sp.toNatClampNeg + i)) := by
        show (arrV (dA t) n0 (fun j => .int (f j))).slots.getD _ _ = _
        rw [Array.getD_eq_getD_getElem?, arrV_read _ _ (by omega)]
        rfl
      refine ⟨?_, ?_⟩
      · rw [e9]
        exact hfit i hi
      · rw [e9]
        exact trivial)
    (g := F0 m pc ls (.int w :: .int dp :: .ref a :: .int sp :: .ref a0 :: st)) rfl hl.1 (rest := st) rfl (by rw [hb]; exact hd) hfr (by show 2 * 0 + _ + _ ≤ _; omega)
  have e1 : copied (vp_cell (dA t) (n0, .inl f)) (vp_cell (dA t) (n1, .inl g)) sp dp w = vp_cell (dA t) (n1, .inl (va_cpy f g sp.toNatClampNeg dp.toNatClampNeg w.toNatClampNeg)) := va_copied (fun z => .int z) (dA t) (dA t) f g h4
  rw [e1] at X' step
  have hla : a < H.size := (Array.getElem?_eq_some_iff.mp hc1).1
  generalize hN : vp_cell (dA t) (n1, .inl (va_cpy f g sp.toNatClampNeg dp.toNatClampNeg w.toNatClampNeg)) = N9 at X' step
  have hheap : ((T.setVm vm').setCell a N9).heap = H.setIfInBounds a N9 := by rw [← hT]; rfl
  have oq : ∀ q : Nat, q ≠ a → (H.setIfInBounds a N9)[q]? = H[q]? := fun q hq => by simp [Array.getElem?_setIfInBounds, Ne.symm hq]
  have z9 : (H.setIfInBounds a N9).size = H.size := by simp
  obtain ⟨t9, a1, b1⟩ := k (H.setIfInBounds a N9) _ ls (hH.put hAa (by show (H.setIfInBounds a N9)[a]? = some _; rw [hN]; simp [Array.getElem?_setIfInBounds, hla]) z9 oq) ⟨by rw [z9]; exact hS.1, fun q g1 g2 => by
      rw [oq q (fun e9 => g2 (by rw [e9]; exact hAa))]
      exact hS.2.1 q g1 g2, fun q hq => by
      rcases List.mem_append.mp hq with h | h
      · exact hS.2.2 q h
      · obtain ⟨z, -, hz⟩ := List.mem_map.mp h
        rw [← hz]
        exact hAa⟩ hl _ hheap X'
  exact ⟨t9, step t9 a1, b1⟩
theorem xg_ishr (h : xX Y rm K) {x y : Int32} (hd : decode Y.2.1 pc = .ok (.ishr, 1)) (k : xG K (pc + 1) vs (.int (x >>> (y &&& 31)) :: st) M sz c n) : xG K pc vs (.int y :: .int x :: st) M sz c n := by
  obtain ⟨p, l, e, R, s, m, args, below, meth, c0, Q, D, dA, A⟩ := K
  exact fun H locs ls hH hS hl => lv_ishr h.1 h.2.1 hd (k H locs ls hH hS hl)
end XG
end
section

/-! contracts -/
def xR (d mc ms : Nat) : Room := { frames := d, cells := mc, slots := ms, locals := 40 * d }
def xw (Y : xM) : List Cond := .code Y.1 Y.2.1 Y.2.2.1 Y.2.2.2 :: lw_g
def xA (M : xH) (sz : Nat) : Nat → Prop := fun q => (∃ z, M q = some z) ∨ sz ≤ q
abbrev xQ : Type := Option Value → xH → Nat → Prop
def xPre (D : va_G) (dA : Nat → ClassId) (av : List Value) (M : xH) (sz : Nat) : Array Value → State → Prop := va_Pc av (fun U => xHo D dA (fun _ => True) M sz U.heap ∧ va_K D classes (xTys dA) U ∧ xNs U)
def xPost (D : va_G) (dA : Nat → ClassId) (M : xH) (sz : Nat) (Q : xQ) : Array Value → State → Outcome → State → Prop := fun _ st oc t => (∃ (v : Option Value) (M' : xH) (sz' : Nat), oc = .returned v ∧ Q v M' sz' ∧ xHo D dA (xA M sz) M' sz' t.heap ∧ va_K D classes (xTys dA) t) ∧ va_F (xA M sz) st t
def xC (d mc ms : Nat) (Y : xM) (av : List Value) (M : xH) (sz : Nat) (Q : xQ) : Prop := ∀ (l : Launch) (D : va_G) (dA : Nat → ClassId), Met l Y.1 (xw Y) (xR d mc ms) (xPre D dA av M sz) (xPost D dA M sz Q) mc ms (xA M sz)
/-- the end of a method that is proved by contract -/
def xEd (mc ms : Nat) (M0 : xH) (sz0 : Nat) (Q : xQ) (K : xK) : Prop := match K with
  | (_, _, _, _, s, _, args, below, _, _, Qs, D, dA, A) => Qs = MQ below (xPost D dA M0 sz0 Q) args s mc ms (xA M0 sz0) ∧ A = xA M0 sz0
theorem xL_entry {av : List Value} (hav : ∀ v ∈ av, v.category = 1) : ∀ (i j : Nat) (v : Value), (av.map some)[j]? = some (some v) → (i + j, v) ∈ lv_args i av := by
  induction av with
  | nil => intro i j v h; simp at h
  | cons a l ih =>
    intro i j v h
    have ha : a.category = 1 := hav a List.mem_cons_self
    have e1 : lv_args i (a :: l) = (i, a) :: lv_args (i + 1) l := by
      show (i, a) :: lv_args (if a.category = 2 then i + 2 else i + 1) l = _
      rw [if_neg (by rw [ha]; decide)]
    rw [e1]
    cases j with
    | zero =>
      simp at h
      subst h
      exact List.mem_cons_self
    | succ j =>
      have h2 : (l.map some)[j]? = some (some v) := by simpa using h
      have h3 := ih (fun v hv => hav v (List.mem_cons_of_mem _ hv)) (i + 1) j v h2
      rw [show i + (j + 1) = i + 1 + j by omega]
      exact List.mem_cons_of_mem _ h3
theorem xC_of {d mc ms : Nat} {Y : xM} {av : List Value} {M : xH} {sz : Nat} {Q : xQ} (hpl : plainName Y.1.cls = true) (hn : (lg_sl av).length ≤ Y.2.2.1) (hav : ∀ v ∈ av, v.category = 1) {vs : List (Option Value)} (hvs : av.map some ++ List.replicate (Y.2.2.1 - av.length) none = vs)
    (body : ∀ K : xK, xX Y (xR d mc ms) K → xEd mc ms M sz Q K → xG K 0 vs [] M sz 0 0) : xC d mc ms Y av M sz Q := by
  intro l D dA
  refine Met.ofW (cc := Y.2.1) (maxL := Y.2.2.1) (ret := Y.2.2.2) hpl rfl ?_
  intro p e s m args below meth c s₁ B hml hv
  obtain ⟨rfl, hH, hK, hNs⟩ := hv
  have hts := atoms_spec (ws := xw Y) B.pre
  have hown : s.vm.findClass Y.1.cls = some m.cls := findClass_of_methodNamed B.named
  have hin : meth.name = Y.1.name := (name_of_methodNamed B.named B.method).1
  have hl := lv_entry av hn
  rw [lg_entry_eq]
  generalize (lg_sl av ++ List.replicate (Y.2.2.1 - (lg_sl av).length) Slot.unset).toArray = ls at hl ⊢
  have hA : xHo D dA (xA M sz) M sz s.heap := ⟨hH.1, fun a z hz => ⟨(hH.2 a z hz).1, Or.inl ⟨z, hz⟩⟩⟩
  refine body (p, l, e, _, s, m, _, below, meth, c, _, D, dA, xA M sz) ⟨B.exec, B.bytes, hml, B.returns, B.notSynchronized, hown, fun w hw => hts w (List.mem_cons_of_mem _ hw), hK, fun q hq => Or.inr (by rw [← hH.1]; exact hq), hin, rfl, hNs⟩ ⟨rfl, rfl⟩ s.heap [] ls hA va_S.rf ?_
  rw [hml]
  refine ⟨hl.1, hl.2.1, fun i v hv => ?_⟩
  subst hvs
  have hi : (av.map some)[i]? = some (some v) := by
    by_cases hlt : i < (av.map some).length
    · rw [List.getElem?_append_left hlt] at hv
      exact hv
    · rw [List.getElem?_append_right (by omega)] at hv
      have h1 := List.mem_of_getElem? hv
      rw [List.mem_replicate] at h1
      cases h1.2
  have h1 := xL_entry hav 0 i v hi
  rw [Nat.zero_add] at h1
  refine ⟨hl.2.2 _ h1, ?_⟩
  have h2 := List.mem_of_getElem? hi
  simp at h2
  exact hav v h2
section XRET
variable {Y : xM} {rm : Room} {K : xK} {pc : Nat} {vs : List (Option Value)} {st : List Value} {M M0 : xH} {sz sz0 c n mc ms : Nat} {Q : xQ}
theorem xg_iret (h : xX Y rm K) (he : xEd mc ms M0 sz0 Q K) {v : Int32} {ty : FieldType} (hd : decode Y.2.1 pc = .ok (.ireturn, 1)) (hty : Y.2.2.2 = some ty) (hn : narrow ty (.int v) = .int v) (hc : c ≤ mc) (hs : n ≤ ms) (hq : Q (some (.int v)) M sz) : xG K pc vs [.int v] M sz c n := by
  obtain ⟨p, l, e, R, s, m, args, below, meth, c0, Qs, D, dA, A⟩ := K
  obtain ⟨hx, hb, hml, hr, hlk, hown, hts, hKK, hA, hnm, hR, hNs⟩ := h
  obtain ⟨rfl, rfl⟩ := he
  intro H locs ls hH hS hl
  refine W.widen (k := mc) (n := ms) hc hs ?_
  exact W.zret hx hb (hr.trans hty) hn (fun t ht hW => ⟨⟨some (.int v), M, sz, rfl, hq, by rw [ht]; exact hH, va_K.moved hW.alike hKK⟩, hS.F ht⟩) hS.2.2 hd hlk
theorem xg_vret (h : xX Y rm K) (he : xEd mc ms M0 sz0 Q K) (hd : decode Y.2.1 pc = .ok (.return_, 1)) (hty : Y.2.2.2 = none) (hc : c ≤ mc) (hs : n ≤ ms) (hq : Q none M sz) : xG K pc vs [] M sz c n := by
  obtain ⟨p, l, e, R, s, m, args, below, meth, c0, Qs, D, dA, A⟩ := K
  obtain ⟨hx, hb, hml, hr, hlk, hown, hts, hKK, hA, hnm, hR, hNs⟩ := h
  obtain ⟨rfl, rfl⟩ := he
  intro H locs ls hH hS hl
  refine W.widen (k := mc) (n := ms) hc hs ?_
  exact W.vret hx hb (hr.trans hty) (fun t ht hW => ⟨⟨none, M, sz, rfl, hq, by rw [ht]; exact hH, va_K.moved hW.alike hKK⟩, hS.F ht⟩) hS.2.2 hd hlk
theorem xg_aret (h : xX Y rm K) (he : xEd mc ms M0 sz0 Q K) {v : Value} {C : String} (hd : decode Y.2.1 pc = .ok (.areturn, 1)) (hty : Y.2.2.2 = some (.object C)) (hv : v = .null ∨ ∃ a, v = .ref a) (hc : c ≤ mc) (hs : n ≤ ms) (hq : Q (some v) M sz) : xG K pc vs [v] M sz c n := by
  obtain ⟨p, l, e, R, s, m, args, below, meth, c0, Qs, D, dA, A⟩ := K
  obtain ⟨hx, hb, hml, hr, hlk, hown, hts, hKK, hA, hnm, hR, hNs⟩ := h
  obtain ⟨rfl, rfl⟩ := he
  intro H locs ls hH hS hl
  refine W.widen (k := mc) (n := ms) hc hs ?_
  exact W.aret hx hb (hr.trans hty) (Or.inl ⟨C, rfl⟩) hv (fun t ht hW => ⟨⟨some v, M, sz, rfl, hq, by rw [ht]; exact hH, va_K.moved hW.alike hKK⟩, hS.F ht⟩) hS.2.2 hd hlk
end XRET

/-! calls -/
theorem x_goodAll : GoodIn lw_g lw_g := fun w hw => ⟨hw, good_of_word (List.mem_filter.mp hw).2⟩
theorem x_goodW {Y : xM} (hc : Cond.code Y.1 Y.2.1 Y.2.2.1 Y.2.2.2 ∈ lw_g) : GoodIn lw_g (xw Y) := fun w hw => x_goodAll w (by
  rcases List.mem_cons.mp hw with h | h
  · rw [h]; exact hc
  · exact h)
/-- what the tables say of a method that is called on an object of its class -/
def xVm (Y : xM) (np : Nat) : Prop := Cond.code Y.1 Y.2.1 Y.2.2.1 Y.2.2.2 ∈ lw_g ∧ Cond.instanceMethod Y.1 ∈ lw_g ∧ Cond.selects Y.1.cls Y.1 Y.1 ∈ lw_g ∧ Cond.initialized Y.1.cls ∈ lw_g ∧ (Y.1.cls ≠ "java/lang/invoke/MethodHandle" ∧ Y.1.cls ≠ "java/lang/invoke/VarHandle" ∧ (parseMethodDescriptor Y.1.desc).map (fun d => d.parameters.length) = some np) ∧ Y.2.2.1 ≤ 21
def xIm (Y : xM) (np : Nat) : Prop := Cond.code Y.1 Y.2.1 Y.2.2.1 Y.2.2.2 ∈ lw_g ∧ Cond.instanceMethod Y.1 ∈ lw_g ∧ Y.1.name = "<init>" ∧ Cond.initialized Y.1.cls ∈ lw_g ∧ (Y.1.cls ≠ "java/lang/invoke/MethodHandle" ∧ Y.1.cls ≠ "java/lang/invoke/VarHandle" ∧ (parseMethodDescriptor Y.1.desc).map (fun d => d.parameters.length) = some np) ∧ Y.2.2.1 ≤ 21 ∧ Y.2.2.2 = none
def xSm (Y : xM) (np : Nat) : Prop := Cond.code Y.1 Y.2.1 Y.2.2.1 Y.2.2.2 ∈ lw_g ∧ Cond.static Y.1 ∈ lw_g ∧ Cond.initialized Y.1.cls ∈ lw_g ∧ (Y.1.cls ≠ "java/lang/invoke/MethodHandle" ∧ Y.1.cls ≠ "java/lang/invoke/VarHandle" ∧ (parseMethodDescriptor Y.1.desc).map (fun d => d.parameters.length) = some np) ∧ Y.2.2.1 ≤ 21
theorem xPre_blind {D : va_G} {dA : Nat → ClassId} {av : List Value} {M : xH} {sz : Nat} : FrameBlind (xPre D dA av M sz) := fun a U g mk q => ⟨q.1, q.2.1, va_K.moved (u := U) (U := U.calling g mk a) (Vm.Alike.refl U.vm) q.2.2.1, q.2.2.2.same rfl⟩
section XCALL
variable {Y Y2 : xM} {rm : Room} {K : xK} {pc : Nat} {vs : List (Option Value)} {st : List Value} {M : xH} {sz c n d mc ms mc0 ms0 np ix : Nat} {Q2 : xQ}
/-- behind a call -/
theorem xg_after {p : Program} {l : Launch} {e : Env} {R : Room} {s : State} {m : MethodId} {args : Array Value} {below : List Frame} {meth : Method} {c0 : Code} {H : Heap} {locs : List Loc} {Qs : State → Prop} {D : va_G} {dA : Nat → ClassId} {A : Nat → Prop} {ls : Array Slot} {st0 rest : List Value} {a : Array Value}
    (hr : va_Run p l e R s m args below meth c0 H locs c n mc ms (F0 m pc ls st0) rest (xPost D dA M sz Q2 a) (xA M sz)) (hA : ∀ q : Nat, s.heap.size ≤ q → A q) (hH : xHo D dA A M sz H) (hS : va_S A s.heap H locs)
    (kk : ∀ (v : Option Value) (M' : xH) (sz' : Nat) (H1 : Heap) (locs1 : List Loc), Q2 v M' sz' → xHo D dA A M' sz' H1 → va_S A s.heap H1 locs1 → W p l e R s m args below meth c0 H1 locs1 (c + mc) (n + ms) Qs (F0 m (pc + 3) ls (v.toList ++ rest))) : W p l e R s m args below meth c0 H locs c n Qs (F0 m pc ls st0) := by
  intro T hT X
  obtain ⟨v, st₀, t, T', L, h0, X', hL, e1, e2, ⟨⟨v', M', sz', hv, hp, hH', -⟩, hz, hk⟩, stp⟩ := hr T hT X
  cases hv
  rw [h0] at hz hk
  have hAA : ∀ q, xA M sz q → A q := fun q hq => by
    rcases hq with ⟨z, hz1⟩ | hq
    · exact (hH.2 q z hz1).2
    · exact hA q (Nat.le_trans hS.1 (by rw [hH.1]; exact hq))
  obtain ⟨t2, a1, b1⟩ := kk v M' sz' T'.heap (locs ++ L) hp (by rw [e1]; exact hH'.weak hAA)
    ⟨Nat.le_trans hS.1 (by rw [e1]; exact hz), fun q h1 h2 => by rw [e1, hk q (Nat.lt_of_lt_of_le h1 hS.1) (fun z => h2 (hAA q z))]; exact hS.2.1 q h1 h2, fun q hq => by
      rcases List.mem_append.mp hq with h | h
      · exact hS.2.2 q h
      · exact hAA _ (hL q h)⟩ T' rfl X'
  exact ⟨t2, stp t2 a1, b1⟩
theorem xg_callV (h : xX Y (xR (d + 1) mc0 ms0) K) {ci N b : Nat} {T : u_T} {ty : Nat → FieldType} {fs : List Value} (As : List Value) (hcl : xCl ci Y2.1.cls T N ty) (hm : xVm Y2 np) (hd : decode Y.2.1 pc = .ok (.invokevirtual ix, 3)) (hw : Cond.methodLink Y.1.cls ix Y2.1 ∈ lw_g) (hn : As.length = np) {st0 : List Value} (hst : As.reverse ++ .ref b :: st = st0) (hb8 : (st.map fun v => v.category).sum ≤ 8) (hM : M b = some (.inr (ci, fs))) (hC : xC d mc ms Y2 (.ref b :: As) M sz Q2) (hcc : c + mc ≤ mc0) (hss : n + ms ≤ ms0) (k : ∀ v M' sz', Q2 v M' sz' → xG K (pc + 3) vs (v.toList ++ st) M' sz' (c + mc) (n + ms)) : xG K pc vs st0 M sz c n := by
  subst hst
  obtain ⟨p, l, e, R, s, m, args, below, meth, c0, Qs, D, dA, A⟩ := K
  obtain ⟨hx, hb, hml, hr, hlk, hown, hts, hKK, hA, hnm, hR, hNs⟩ := h
  subst hR
  intro H locs ls hH hS hl
  obtain ⟨w1, w2, w3, w4, w5, w6⟩ := hm
  have hG : GoodIn lw_g (wsV Y.1.cls ix Y2.1.cls Y2.1 (xw Y2)) := by
    intro w hw9
    unfold wsV at hw9
    rcases List.mem_append.mp hw9 with h9 | h9
    · simp only [List.mem_cons, List.not_mem_nil, or_false] at h9
      rcases h9 with rfl | rfl | rfl | rfl
      · exact x_goodAll _ hw
      · exact x_goodAll _ w2
      · exact x_goodAll _ w3
      · exact x_goodAll _ w4
    · exact x_goodW w1 w h9
  refine xg_after (va_runV (As := As) (rest := st) (b := b) (C := Y2.1.cls) (bytes := Y2.2.1) (maxL := Y2.2.2.1) (ret := Y2.2.2.2) ⟨hx, hb, rfl, hown, hts⟩ (hC l D dA) (cwV np hts hG rfl rfl rfl ⟨rfl, w5⟩ ⟨Nat.le_refl _, by show 8 + (Y2.2.2.1 + 11) + 40 * d ≤ 40 * (d + 1); omega⟩) ⟨xPre_blind, va_recv hKK (hH.one hM) hcl.1 (q0 := 0) rfl, fun U hU hW => ⟨rfl, by rw [hU]; exact hH.weak (fun _ _ => trivial), va_K.moved hW.alike hKK, hNs.warm hW⟩⟩ rfl hn hl.1 rfl (lv_room hb8) hd ⟨hcc, hss⟩) hA hH hS ?_
  exact fun v M' sz' H1 locs1 hq hH1 hS1 => k v M' sz' hq H1 locs1 ls hH1 hS1 hl
theorem xg_callI (h : xX Y (xR (d + 1) mc0 ms0) K) {b : Nat} (As : List Value) (hm : xIm Y2 np) (hd : decode Y.2.1 pc = .ok (.invokespecial ix, 3)) (hw : Cond.methodLink Y.1.cls ix Y2.1 ∈ lw_g) (hn : As.length = np) {st0 : List Value} (hst : As.reverse ++ .ref b :: st = st0) (hb8 : (st.map fun v => v.category).sum ≤ 8) (hC : xC d mc ms Y2 (.ref b :: As) M sz Q2) (hcc : c + mc ≤ mc0) (hss : n + ms ≤ ms0) (k : ∀ v M' sz', Q2 v M' sz' → xG K (pc + 3) vs (v.toList ++ st) M' sz' (c + mc) (n + ms)) : xG K pc vs st0 M sz c n := by
  subst hst
  obtain ⟨p, l, e, R, s, m, args, below, meth, c0, Qs, D, dA, A⟩ := K
  obtain ⟨hx, hb, hml, hr, hlk, hown, hts, hKK, hA, hnm, hR, hNs⟩ := h
  subst hR
  intro H locs ls hH hS hl
  obtain ⟨w1, w2, w3, w4, w5, w6, w7⟩ := hm
  have w1' : Cond.code Y2.1 Y2.2.1 Y2.2.2.1 none ∈ lw_g := by rw [← w7]; exact w1
  have hw7 : xw Y2 = Cond.code Y2.1 Y2.2.1 Y2.2.2.1 none :: lw_g := by unfold xw; rw [w7]
  refine xg_after (va_runI (As := As) (rest := st) (b := b) (bytes := Y2.2.1) (maxL := Y2.2.2.1) ⟨hx, hb, rfl, hown, hts⟩ (hC l D dA) (cwI np hts (x_goodW w1) hw7 rfl rfl (hts _ w4) (hts _ hw) (hts _ w2) w3 w5 ⟨Nat.le_refl _, by show 8 + (Y2.2.2.1 + 11) + 40 * d ≤ 40 * (d + 1); omega⟩) ⟨xPre_blind, fun U hU hW => ⟨rfl, by rw [hU]; exact hH.weak (fun _ _ => trivial), va_K.moved hW.alike hKK, hNs.warm hW⟩⟩ rfl hn hl.1 rfl (lv_room hb8) hd ⟨hcc, hss⟩) hA hH hS ?_
  exact fun v M' sz' H1 locs1 hq hH1 hS1 => k v M' sz' hq H1 locs1 ls hH1 hS1 hl
theorem xg_callS (h : xX Y (xR (d + 1) mc0 ms0) K) (As : List Value) (hm : xSm Y2 np) (hd : decode Y.2.1 pc = .ok (.invokestatic ix, 3)) (hw : Cond.methodLink Y.1.cls ix Y2.1 ∈ lw_g) (hn : As.length = np) {st0 : List Value} (hst : As.reverse ++ st = st0) (hb8 : (st.map fun v => v.category).sum ≤ 8) (hC : xC d mc ms Y2 As M sz Q2) (hcc : c + mc ≤ mc0) (hss : n + ms ≤ ms0) (k : ∀ v M' sz', Q2 v M' sz' → xG K (pc + 3) vs (v.toList ++ st) M' sz' (c + mc) (n + ms)) : xG K pc vs st0 M sz c n := by
  subst hst
  obtain ⟨p, l, e, R, s, m, args, below, meth, c0, Qs, D, dA, A⟩ := K
  obtain ⟨hx, hb, hml, hr, hlk, hown, hts, hKK, hA, hnm, hR, hNs⟩ := h
  subst hR
  intro H locs ls hH hS hl
  obtain ⟨w1, w2, w4, w5, w6⟩ := hm
  refine xg_after (va_runS (As := As) (rest := st) (bytes := Y2.2.1) (maxL := Y2.2.2.1) (ret := Y2.2.2.2) ⟨hx, hb, rfl, hown, hts⟩ (hC l D dA) ⟨callB_of np hts (x_goodW w1) rfl rfl rfl (hts _ w4) (hts _ hw) w5 ⟨Nat.le_refl _, by show 8 + (Y2.2.2.1 + 11) + 40 * d ≤ 40 * (d + 1); omega⟩, hts _ w2⟩ ⟨xPre_blind, fun U hU hW => ⟨rfl, by rw [hU]; exact hH.weak (fun _ _ => trivial), va_K.moved hW.alike hKK, hNs.warm hW⟩⟩ rfl hn hl.1 rfl (lv_room hb8) hd ⟨hcc, hss⟩) hA hH hS ?_
  exact fun v M' sz' H1 locs1 hq hH1 hS1 => k v M' sz' hq H1 locs1 ls hH1 hS1 hl
theorem xg_callSN (h : xX Y (xR (d + 1) mc0 ms0) K) {host : String} (As : List Value) (hm : xSm Y2 np) (hd : decode Y.2.1 pc = .ok (.invokestatic ix, 3)) (hw : (Y.1.cls, ix, Y2.1, host) ∈ xNl) (hn : As.length = np) {st0 : List Value} (hst : As.reverse ++ st = st0) (hb8 : (st.map fun v => v.category).sum ≤ 8) (hC : xC d mc ms Y2 As M sz Q2) (hcc : c + mc ≤ mc0) (hss : n + ms ≤ ms0) (k : ∀ v M' sz', Q2 v M' sz' → xG K (pc + 3) vs (v.toList ++ st) M' sz' (c + mc) (n + ms)) : xG K pc vs st0 M sz c n := by
  subst hst
  obtain ⟨p, l, e, R, s, m, args, below, meth, c0, Qs, D, dA, A⟩ := K
  obtain ⟨hx, hb, hml, hr, hlk, hown, hts, hKK, hA, hnm, hR, hNs⟩ := h
  subst hR
  intro H locs ls hH hS hl
  obtain ⟨w1, w2, w4, w5, w6⟩ := hm
  refine xg_after (va_runSN (As := As) (rest := st) (host := host) (bytes := Y2.2.1) (maxL := Y2.2.2.1) (ret := Y2.2.2.2) ⟨hx, hb, rfl, hown, hts⟩ (hC l D dA) ⟨⟨⟨rfl, rfl, Nat.le_refl _, by show 8 + (Y2.2.2.1 + 11) + 40 * d ≤ 40 * (d + 1); omega, pay_in hts (x_goodW w1), List.mem_cons_self⟩, hts _ w1, hts _ w4, ⟨w5.1, w5.2.1⟩, fun sig hsig => by
      have h2 := w5.2.2
      rw [hsig] at h2
      exact (Option.some.inj h2).symm, va_Nw.use rfl (hNs.1 _ hw)⟩, hts _ w2, trivial⟩ ⟨xPre_blind, fun U hU hW => ⟨rfl, by rw [hU]; exact hH.weak (fun _ _ => trivial), va_K.moved hW.alike hKK, hNs.warm hW⟩⟩ rfl hn hl.1 rfl (lv_room hb8) hd ⟨hcc, hss⟩) hA hH hS ?_
  exact fun v M' sz' H1 locs1 hq hH1 hS1 => k v M' sz' hq H1 locs1 ls hH1 hS1 hl
end XCALL
end
section
/-! the layer's rows over natural numbers: every int is nI of a number below 2^31 -/
section XN
variable {Y : xM} {rm : Room} {K : xK} {pc : Nat} {vs : List (Option Value)} {st : List Value} {M : xH} {sz c n : Nat}
theorem xn_icmp_eq (h : xX Y rm K) {a b : Nat} {off : Int} (tgt : Nat) (hd : decode Y.2.1 pc = .ok (.if_icmp .eq off, 3)) (ht : (pc : Int) + off = (tgt : Int)) (ha : a < 2147483648) (hb : b < 2147483648) (kt : a = b → xG K tgt vs st M sz c n) (kf : ¬ a = b → xG K (pc + 3) vs st M sz c n) : xG K pc vs (.int (nI b) :: .int (nI a) :: st) M sz c n :=
  xg_icmp_eq h tgt hd ht (fun q => kt ((nI_eq ha hb).mp q)) (fun q => kf (fun z => q ((nI_eq ha hb).mpr z)))
theorem xn_icmp_ne (h : xX Y rm K) {a b : Nat} {off : Int} (tgt : Nat) (hd : decode Y.2.1 pc = .ok (.if_icmp .ne off, 3)) (ht : (pc : Int) + off = (tgt : Int)) (ha : a < 2147483648) (hb : b < 2147483648) (kt : ¬ a = b → xG K tgt vs st M sz c n) (kf : a = b → xG K (pc + 3) vs st M sz c n) : xG K pc vs (.int (nI b) :: .int (nI a) :: st) M sz c n :=
  xg_icmp_ne h tgt hd ht (fun q => kt (fun z => q ((nI_eq ha hb).mpr z))) (fun q => kf ((nI_eq ha hb).mp q))
theorem xn_icmp_lt (h : xX Y rm K) {a b : Nat} {off : Int} (tgt : Nat) (hd : decode Y.2.1 pc = .ok (.if_icmp .lt off, 3)) (ht : (pc : Int) + off = (tgt : Int)) (ha : a < 2147483648) (hb : b < 2147483648) (kt : a < b → xG K tgt vs st M sz c n) (kf : b ≤ a → xG K (pc + 3) vs st M sz c n) : xG K pc vs (.int (nI b) :: .int (nI a) :: st) M sz c n :=
  xg_icmp_lt h tgt hd ht (fun q => kt ((nI_ltI ha hb).mp q)) (fun q => kf (Nat.le_of_not_lt (fun z => q ((nI_ltI ha hb).mpr z))))
theorem xn_icmp_ge (h : xX Y rm K) {a b : Nat} {off : Int} (tgt : Nat) (hd : decode Y.2.1 pc = .ok (.if_icmp .ge off, 3)) (ht : (pc : Int) + off = (tgt : Int)) (ha : a < 2147483648) (hb : b < 2147483648) (kt : b ≤ a → xG K tgt vs st M sz c n) (kf : a < b → xG K (pc + 3) vs st M sz c n) : xG K pc vs (.int (nI b) :: .int (nI a) :: st) M sz c n :=
  xg_icmp_ge h tgt hd ht (fun q => kt ((nI_leI hb ha).mp q)) (fun q => kf (Nat.lt_of_not_le (fun z => q ((nI_leI hb ha).mpr z))))
theorem xn_icmp_gt (h : xX Y rm K) {a b : Nat} {off : Int} (tgt : Nat) (hd : decode Y.2.1 pc = .ok (.if_icmp .gt off, 3)) (ht : (pc : Int) + off = (tgt : Int)) (ha : a < 2147483648) (hb : b < 2147483648) (kt : b < a → xG K tgt vs st M sz c n) (kf : a ≤ b → xG K (pc + 3) vs st M sz c n) : xG K pc vs (.int (nI b) :: .int (nI a) :: st) M sz c n :=
  xg_icmp_gt h tgt hd ht (fun q => kt ((nI_ltI hb ha).mp q)) (fun q => kf (Nat.le_of_not_lt (fun z => q ((nI_ltI hb ha).mpr z))))
theorem xn_icmp_le (h : xX Y rm K) {a b : Nat} {off : Int} (tgt : Nat) (hd : decode Y.2.1 pc = .ok (.if_icmp .le off, 3)) (ht : (pc : Int) + off = (tgt : Int)) (ha : a < 2147483648) (hb : b < 2147483648) (kt : a ≤ b → xG K tgt vs st M sz c n) (kf : b < a → xG K (pc + 3) vs st M sz c n) : xG K pc vs (.int (nI b) :: .int (nI a) :: st) M sz c n :=
  xg_icmp_le h tgt hd ht (fun q => kt ((nI_leI ha hb).mp q)) (fun q => kf (Nat.lt_of_not_le (fun z => q ((nI_leI ha hb).mpr z))))
theorem xn_if_eq (h : xX Y rm K) {a : Nat} {off : Int} (tgt : Nat) (hd : decode Y.2.1 pc = .ok (.ifCond .eq off, 3)) (ht : (pc : Int) + off = (tgt : Int)) (ha : a < 2147483648) (kt : a = 0 → xG K tgt vs st M sz c n) (kf : 0 < a → xG K (pc + 3) vs st M sz c n) : xG K pc vs (.int (nI a) :: st) M sz c n :=
  xg_if_eq h tgt hd ht (fun q => kt ((nI_eq (b := 0) ha (by omega)).mp (by rw [nI_0]; exact q))) (fun q => kf (Nat.pos_of_ne_zero (fun z => q (by rw [z]; exact nI_0))))
theorem xn_if_ne (h : xX Y rm K) {a : Nat} {off : Int} (tgt : Nat) (hd : decode Y.2.1 pc = .ok (.ifCond .ne off, 3)) (ht : (pc : Int) + off = (tgt : Int)) (ha : a < 2147483648) (kt : 0 < a → xG K tgt vs st M sz c n) (kf : a = 0 → xG K (pc + 3) vs st M sz c n) : xG K pc vs (.int (nI a) :: st) M sz c n :=
  xg_if_ne h tgt hd ht (fun q => kt (Nat.pos_of_ne_zero (fun z => q (by rw [z]; exact nI_0)))) (fun q => kf ((nI_eq (b := 0) ha (by omega)).mp (by rw [nI_0]; exact q)))
theorem xn_if_lt (h : xX Y rm K) {a : Nat} {off : Int} (tgt : Nat) (hd : decode Y.2.1 pc = .ok (.ifCond .lt off, 3)) (ht : (pc : Int) + off = (tgt : Int)) (ha : a < 2147483648) (kf : xG K (pc + 3) vs st M sz c n) : xG K pc vs (.int (nI a) :: st) M sz c n :=
  xg_if_lt h tgt hd ht (fun q => absurd q (nI_pos ha)) (fun _ => kf)
theorem xn_if_ge (h : xX Y rm K) {a : Nat} {off : Int} (tgt : Nat) (hd : decode Y.2.1 pc = .ok (.ifCond .ge off, 3)) (ht : (pc : Int) + off = (tgt : Int)) (ha : a < 2147483648) (kt : xG K tgt vs st M sz c n) : xG K pc vs (.int (nI a) :: st) M sz c n :=
  xg_if_ge h tgt hd ht (fun _ => kt) (fun q => absurd (nI_pos' ha) q)
theorem xn_if_gt (h : xX Y rm K) {a : Nat} {off : Int} (tgt : Nat) (hd : decode Y.2.1 pc = .ok (.ifCond .gt off, 3)) (ht : (pc : Int) + off = (tgt : Int)) (ha : a < 2147483648) (kt : 0 < a → xG K tgt vs st M sz c n) (kf : a = 0 → xG K (pc + 3) vs st M sz c n) : xG K pc vs (.int (nI a) :: st) M sz c n :=
  xg_if_gt h tgt hd ht (fun q => kt ((nI_ltI (a := 0) (by omega) ha).mp (by rw [nI_0]; exact q))) (fun q => kf (Nat.eq_zero_of_not_pos (fun z => q (by rw [← nI_0]; exact (nI_ltI (by omega) ha).mpr z))))
theorem xn_if_le (h : xX Y rm K) {a : Nat} {off : Int} (tgt : Nat) (hd : decode Y.2.1 pc = .ok (.ifCond .le off, 3)) (ht : (pc : Int) + off = (tgt : Int)) (ha : a < 2147483648) (kt : a = 0 → xG K tgt vs st M sz c n) (kf : 0 < a → xG K (pc + 3) vs st M sz c n) : xG K pc vs (.int (nI a) :: st) M sz c n :=
  xg_if_le h tgt hd ht (fun q => kt (Nat.eq_zero_of_not_pos (fun z => absurd q (nI_nle z ha)))) (fun q => kf (Nat.pos_of_ne_zero (fun z => q (by rw [z, nI_0]; decide))))
theorem xn_iadd (h : xX Y rm K) {a b : Nat} (hd : decode Y.2.1 pc = .ok (.iadd, 1)) (k : xG K (pc + 1) vs (.int (nI (a + b)) :: st) M sz c n) : xG K pc vs (.int (nI b) :: .int (nI a) :: st) M sz c n := xg_iadd h hd (by rw [nI_add]; exact k)
theorem xn_isub (h : xX Y rm K) {a b : Nat} (hd : decode Y.2.1 pc = .ok (.isub, 1)) (hab : b ≤ a) (k : xG K (pc + 1) vs (.int (nI (a - b)) :: st) M sz c n) : xG K pc vs (.int (nI b) :: .int (nI a) :: st) M sz c n := xg_isub h hd (by rw [pk_sub hab]; exact k)
theorem xn_imul (h : xX Y rm K) {a b : Nat} (hd : decode Y.2.1 pc = .ok (.imul, 1)) (k : xG K (pc + 1) vs (.int (nI (a * b)) :: st) M sz c n) : xG K pc vs (.int (nI b) :: .int (nI a) :: st) M sz c n := xg_imul h hd (by rw [pk_mul]; exact k)
theorem xn_bald (h : xX Y rm K) {t n0 a i : Nat} {f : Nat → Int32} (hd : decode Y.2.1 pc = .ok (.baload, 1)) (ht : xTy[t]? = some .byte) (hM : M a = some (.inl (t, n0, .inl f))) (hi : i < n0) (hn : n0 < 2147483648) (k : xG K (pc + 1) vs (.int (f i) :: st) M sz c n) : xG K pc vs (.int (nI i) :: .ref a :: st) M sz c n :=
  xg_bald h hd ht hM (vp_in_nI hi hn) (by rw [nI_clamp (Nat.lt_trans hi hn)]; exact k)
theorem xn_iald (h : xX Y rm K) {t n0 a i : Nat} {f : Nat → Int32} (hd : decode Y.2.1 pc = .ok (.iaload, 1)) (ht : xTy[t]? = some .int) (hM : M a = some (.inl (t, n0, .inl f))) (hi : i < n0) (hn : n0 < 2147483648) (k : xG K (pc + 1) vs (.int (f i) :: st) M sz c n) : xG K pc vs (.int (nI i) :: .ref a :: st) M sz c n :=
  xg_iald h hd ht hM (vp_in_nI hi hn) (by rw [nI_clamp (Nat.lt_trans hi hn)]; exact k)
theorem xn_aald (h : xX Y rm K) {t n0 a i : Nat} {f : Nat → Option Nat} {C : String} {v : Value} (hd : decode Y.2.1 pc = .ok (.aaload, 1)) (ht : xTy[t]? = some (.object C)) (hM : M a = some (.inl (t, n0, .inr (.inr (.inr (.inr f)))))) (hi : i < n0) (hn : n0 < 2147483648) (hv : va_rf (f i) = v) (k : xG K (pc + 1) vs (v :: st) M sz c n) : xG K pc vs (.int (nI i) :: .ref a :: st) M sz c n :=
  xg_aald h hd ht hM (vp_in_nI hi hn) (by rw [nI_clamp (Nat.lt_trans hi hn)]; exact hv) k
theorem xn_bast (h : xX Y rm K) {t n0 a i : Nat} {f : Nat → Int32} {x : Int32} (hd : decode Y.2.1 pc = .ok (.bastore, 1)) (ht : xTy[t]? = some .byte) (hM : M a = some (.inl (t, n0, .inl f))) (hi : i < n0) (hn : n0 < 2147483648) (k : xG K (pc + 1) vs st (xup M a (.inl (t, n0, .inl (upd f i (vp_nar .byte x))))) sz c n) : xG K pc vs (.int x :: .int (nI i) :: .ref a :: st) M sz c n :=
  xg_bast h hd ht hM (vp_in_nI hi hn) (by rw [nI_clamp (Nat.lt_trans hi hn)]; exact k)
theorem xn_iast (h : xX Y rm K) {t n0 a i : Nat} {f : Nat → Int32} {x : Int32} (hd : decode Y.2.1 pc = .ok (.iastore, 1)) (ht : xTy[t]? = some .int) (hM : M a = some (.inl (t, n0, .inl f))) (hi : i < n0) (hn : n0 < 2147483648) (k : xG K (pc + 1) vs st (xup M a (.inl (t, n0, .inl (upd f i x)))) sz c n) : xG K pc vs (.int x :: .int (nI i) :: .ref a :: st) M sz c n :=
  xg_iast h hd ht hM (vp_in_nI hi hn) (by rw [nI_clamp (Nat.lt_trans hi hn)]; exact k)
theorem xn_aast (h : xX Y rm K) {t n0 a v ci N i : Nat} {f : Nat → Option Nat} {C : String} {T : u_T} {ty : Nat → FieldType} {fs : List Value} (hc : xCl ci C T N ty) (hd : decode Y.2.1 pc = .ok (.aastore, 1)) (ht : xTy[t]? = some (.object C)) (hM : M a = some (.inl (t, n0, .inr (.inr (.inr (.inr f)))))) (hv : M v = some (.inr (ci, fs))) (hi : i < n0) (hn : n0 < 2147483648) (k : xG K (pc + 1) vs st (xup M a (.inl (t, n0, .inr (.inr (.inr (.inr (va_up f i (some v)))))))) sz c n) : xG K pc vs (.ref v :: .int (nI i) :: .ref a :: st) M sz c n :=
  xg_aast h hc hd ht hM hv (vp_in_nI hi hn) (by rw [nI_clamp (Nat.lt_trans hi hn)]; exact k)
end XN
section XP
variable {Y : xM} {rm : Room} {K : xK} {pc : Nat} {vs : List (Option Value)} {st : List Value} {M : xH} {sz c n : Nat} {a0 a1 a2 a3 a4 a5 a6 a7 a8 a9 a10 a11 a12 a13 a14 a15 z : Option Value}
theorem xp_iload_0 (h : xX Y rm K) {x : Int32} (hd : decode Y.2.1 pc = .ok (.iload_n 0, 1)) (k : xG K (pc + 1) (some (.int x) :: vs) (.int x :: st) M sz c n) : xG K pc (some (.int x) :: vs) st M sz c n := xg_iload_n h hd rfl k
theorem xp_aload_0 (h : xX Y rm K) {x : Nat} (hd : decode Y.2.1 pc = .ok (.aload_n 0, 1)) (k : xG K (pc + 1) (some (.ref x) :: vs) (.ref x :: st) M sz c n) : xG K pc (some (.ref x) :: vs) st M sz c n := xg_aload_n h hd rfl k
theorem xp_aloadN_0 (h : xX Y rm K) (hd : decode Y.2.1 pc = .ok (.aload_n 0, 1)) (k : xG K (pc + 1) (some .null :: vs) (.null :: st) M sz c n) : xG K pc (some .null :: vs) st M sz c n := xg_aloadN_n h hd rfl k
theorem xp_istore_0 (h : xX Y rm K) {x : Int32} (hd : decode Y.2.1 pc = .ok (.istore_n 0, 1)) (hi : 0 < Y.2.2.1) (k : xG K (pc + 1) (some (.int x) :: vs) st M sz c n) : xG K pc (z :: vs) (.int x :: st) M sz c n := xg_istore_n h hd hi rfl k
theorem xp_astore_0 (h : xX Y rm K) {x : Nat} (hd : decode Y.2.1 pc = .ok (.astore_n 0, 1)) (hi : 0 < Y.2.2.1) (k : xG K (pc + 1) (some (.ref x) :: vs) st M sz c n) : xG K pc (z :: vs) (.ref x :: st) M sz c n := xg_astore_n h hd hi rfl k
theorem xp_astoreN_0 (h : xX Y rm K) (hd : decode Y.2.1 pc = .ok (.astore_n 0, 1)) (hi : 0 < Y.2.2.1) (k : xG K (pc + 1) (some .null :: vs) st M sz c n) : xG K pc (z :: vs) (.null :: st) M sz c n := xg_astoreN_n h hd hi rfl k
theorem xp_inc_0 (h : xX Y rm K) {a : Nat} (hd : decode Y.2.1 pc = .ok (.iinc 0 1, 3)) (hi : 0 < Y.2.2.1) (k : xG K (pc + 3) (some (.int (nI (a + 1))) :: vs) st M sz c n) : xG K pc (some (.int (nI a)) :: vs) st M sz c n := xg_iinc (v := 1) h hd hi rfl rfl (by rw [nI_1]; rfl) k
theorem xp_iload_1 (h : xX Y rm K) {x : Int32} (hd : decode Y.2.1 pc = .ok (.iload_n 1, 1)) (k : xG K (pc + 1) (a0 :: some (.int x) :: vs) (.int x :: st) M sz c n) : xG K pc (a0 :: some (.int x) :: vs) st M sz c n := xg_iload_n h hd rfl k
theorem xp_aload_1 (h : xX Y rm K) {x : Nat} (hd : decode Y.2.1 pc = .ok (.aload_n 1, 1)) (k : xG K (pc + 1) (a0 :: some (.ref x) :: vs) (.ref x :: st) M sz c n) : xG K pc (a0 :: some (.ref x) :: vs) st M sz c n := xg_aload_n h hd rfl k
theorem xp_aloadN_1 (h : xX Y rm K) (hd : decode Y.2.1 pc = .ok (.aload_n 1, 1)) (k : xG K (pc + 1) (a0 :: some .null :: vs) (.null :: st) M sz c n) : xG K pc (a0 :: some .null :: vs) st M sz c n := xg_aloadN_n h hd rfl k
theorem xp_istore_1 (h : xX Y rm K) {x : Int32} (hd : decode Y.2.1 pc = .ok (.istore_n 1, 1)) (hi : 1 < Y.2.2.1) (k : xG K (pc + 1) (a0 :: some (.int x) :: vs) st M sz c n) : xG K pc (a0 :: z :: vs) (.int x :: st) M sz c n := xg_istore_n h hd hi rfl k
theorem xp_astore_1 (h : xX Y rm K) {x : Nat} (hd : decode Y.2.1 pc = .ok (.astore_n 1, 1)) (hi : 1 < Y.2.2.1) (k : xG K (pc + 1) (a0 :: some (.ref x) :: vs) st M sz c n) : xG K pc (a0 :: z :: vs) (.ref x :: st) M sz c n := xg_astore_n h hd hi rfl k
theorem xp_astoreN_1 (h : xX Y rm K) (hd : decode Y.2.1 pc = .ok (.astore_n 1, 1)) (hi : 1 < Y.2.2.1) (k : xG K (pc + 1) (a0 :: some .null :: vs) st M sz c n) : xG K pc (a0 :: z :: vs) (.null :: st) M sz c n := xg_astoreN_n h hd hi rfl k
theorem xp_inc_1 (h : xX Y rm K) {a : Nat} (hd : decode Y.2.1 pc = .ok (.iinc 1 1, 3)) (hi : 1 < Y.2.2.1) (k : xG K (pc + 3) (a0 :: some (.int (nI (a + 1))) :: vs) st M sz c n) : xG K pc (a0 :: some (.int (nI a)) :: vs) st M sz c n := xg_iinc (v := 1) h hd hi rfl rfl (by rw [nI_1]; rfl) k
theorem xp_iload_2 (h : xX Y rm K) {x : Int32} (hd : decode Y.2.1 pc = .ok (.iload_n 2, 1)) (k : xG K (pc + 1) (a0 :: a1 :: some (.int x) :: vs) (.int x :: st) M sz c n) : xG K pc (a0 :: a1 :: some (.int x) :: vs) st M sz c n := xg_iload_n h hd rfl k
theorem xp_aload_2 (h : xX Y rm K) {x : Nat} (hd : decode Y.2.1 pc = .ok (.aload_n 2, 1)) (k : xG K (pc + 1) (a0 :: a1 :: some (.ref x) :: vs) (.ref x :: st) M sz c n) : xG K pc (a0 :: a1 :: some (.ref x) :: vs) st M sz c n := xg_aload_n h hd rfl k
theorem xp_aloadN_2 (h : xX Y rm K) (hd : decode Y.2.1 pc = .ok (.aload_n 2, 1)) (k : xG K (pc + 1) (a0 :: a1 :: some .null :: vs) (.null :: st) M sz c n) : xG K pc (a0 :: a1 :: some .null :: vs) st M sz c n := xg_aloadN_n h hd rfl k
theorem xp_istore_2 (h : xX Y rm K) {x : Int32} (hd : decode Y.2.1 pc = .ok (.istore_n 2, 1)) (hi : 2 < Y.2.2.1) (k : xG K (pc + 1) (a0 :: a1 :: some (.int x) :: vs) st M sz c n) : xG K pc (a0 :: a1 :: z :: vs) (.int x :: st) M sz c n := xg_istore_n h hd hi rfl k
theorem xp_astore_2 (h : xX Y rm K) {x : Nat} (hd : decode Y.2.1 pc = .ok (.astore_n 2, 1)) (hi : 2 < Y.2.2.1) (k : xG K (pc + 1) (a0 :: a1 :: some (.ref x) :: vs) st M sz c n) : xG K pc (a0 :: a1 :: z :: vs) (.ref x :: st) M sz c n := xg_astore_n h hd hi rfl k
theorem xp_astoreN_2 (h : xX Y rm K) (hd : decode Y.2.1 pc = .ok (.astore_n 2, 1)) (hi : 2 < Y.2.2.1) (k : xG K (pc + 1) (a0 :: a1 :: some .null :: vs) st M sz c n) : xG K pc (a0 :: a1 :: z :: vs) (.null :: st) M sz c n := xg_astoreN_n h hd hi rfl k
theorem xp_inc_2 (h : xX Y rm K) {a : Nat} (hd : decode Y.2.1 pc = .ok (.iinc 2 1, 3)) (hi : 2 < Y.2.2.1) (k : xG K (pc + 3) (a0 :: a1 :: some (.int (nI (a + 1))) :: vs) st M sz c n) : xG K pc (a0 :: a1 :: some (.int (nI a)) :: vs) st M sz c n := xg_iinc (v := 1) h hd hi rfl rfl (by rw [nI_1]; rfl) k
theorem xp_iload_3 (h : xX Y rm K) {x : Int32} (hd : decode Y.2.1 pc = .ok (.iload_n 3, 1)) (k : xG K (pc + 1) (a0 :: a1 :: a2 :: some (.int x) :: vs) (.int x :: st) M sz c n) : xG K pc (a0 :: a1 :: a2 :: some (.int x) :: vs) st M sz c n := xg_iload_n h hd rfl k
theorem xp_aload_3 (h : xX Y rm K) {x : Nat} (hd : decode Y.2.1 pc = .ok (.aload_n 3, 1)) (k : xG K (pc + 1) (a0 :: a1 :: a2 :: some (.ref x) :: vs) (.ref x :: st) M sz c n) : xG K pc (a0 :: a1 :: a2 :: some (.ref x) :: vs) st M sz c n := xg_aload_n h hd rfl k
theorem xp_aloadN_3 (h : xX Y rm K) (hd : decode Y.2.1 pc = .ok (.aload_n 3, 1)) (k : xG K (pc + 1) (a0 :: a1 :: a2 :: some .null :: vs) (.null :: st) M sz c n) : xG K pc (a0 :: a1 :: a2 :: some .null :: vs) st M sz c n := xg_aloadN_n h hd rfl k
theorem xp_istore_3 (h : xX Y rm K) {x : Int32} (hd : decode Y.2.1 pc = .ok (.istore_n 3, 1)) (hi : 3 < Y.2.2.1) (k : xG K (pc + 1) (a0 :: a1 :: a2 :: some (.int x) :: vs) st M sz c n) : xG K pc (a0 :: a1 :: a2 :: z :: vs) (.int x :: st) M sz c n := xg_istore_n h hd hi rfl k
theorem xp_astore_3 (h : xX Y rm K) {x : Nat} (hd : decode Y.2.1 pc = .ok (.astore_n 3, 1)) (hi : 3 < Y.2.2.1) (k : xG K (pc + 1) (a0 :: a1 :: a2 :: some (.ref x) :: vs) st M sz c n) : xG K pc (a0 :: a1 :: a2 :: z :: vs) (.ref x :: st) M sz c n := xg_astore_n h hd hi rfl k
theorem xp_astoreN_3 (h : xX Y rm K) (hd : decode Y.2.1 pc = .ok (.astore_n 3, 1)) (hi : 3 < Y.2.2.1) (k : xG K (pc + 1) (a0 :: a1 :: a2 :: some .null :: vs) st M sz c n) : xG K pc (a0 :: a1 :: a2 :: z :: vs) (.null :: st) M sz c n := xg_astoreN_n h hd hi rfl k
theorem xp_inc_3 (h : xX Y rm K) {a : Nat} (hd : decode Y.2.1 pc = .ok (.iinc 3 1, 3)) (hi : 3 < Y.2.2.1) (k : xG K (pc + 3) (a0 :: a1 :: a2 :: some (.int (nI (a + 1))) :: vs) st M sz c n) : xG K pc (a0 :: a1 :: a2 :: some (.int (nI a)) :: vs) st M sz c n := xg_iinc (v := 1) h hd hi rfl rfl (by rw [nI_1]; rfl) k
theorem xp_iload_4 (h : xX Y rm K) {x : Int32} (hd : decode Y.2.1 pc = .ok (.iload 4, 2)) (k : xG K (pc + 2) (a0 :: a1 :: a2 :: a3 :: some (.int x) :: vs) (.int x :: st) M sz c n) : xG K pc (a0 :: a1 :: a2 :: a3 :: some (.int x) :: vs) st M sz c n := xg_iload_w h hd rfl k
theorem xp_aload_4 (h : xX Y rm K) {x : Nat} (hd : decode Y.2.1 pc = .ok (.aload 4, 2)) (k : xG K (pc + 2) (a0 :: a1 :: a2 :: a3 :: some (.ref x) :: vs) (.ref x :: st) M sz c n) : xG K pc (a0 :: a1 :: a2 :: a3 :: some (.ref x) :: vs) st M sz c n := xg_aload_w h hd rfl k
theorem xp_aloadN_4 (h : xX Y rm K) (hd : decode Y.2.1 pc = .ok (.aload 4, 2)) (k : xG K (pc + 2) (a0 :: a1 :: a2 :: a3 :: some .null :: vs) (.null :: st) M sz c n) : xG K pc (a0 :: a1 :: a2 :: a3 :: some .null :: vs) st M sz c n := xg_aloadN_w h hd rfl k
theorem xp_istore_4 (h : xX Y rm K) {x : Int32} (hd : decode Y.2.1 pc = .ok (.istore 4, 2)) (hi : 4 < Y.2.2.1) (k : xG K (pc + 2) (a0 :: a1 :: a2 :: a3 :: some (.int x) :: vs) st M sz c n) : xG K pc (a0 :: a1 :: a2 :: a3 :: z :: vs) (.int x :: st) M sz c n := xg_istore_w h hd hi rfl k
theorem xp_astore_4 (h : xX Y rm K) {x : Nat} (hd : decode Y.2.1 pc = .ok (.astore 4, 2)) (hi : 4 < Y.2.2.1) (k : xG K (pc + 2) (a0 :: a1 :: a2 :: a3 :: some (.ref x) :: vs) st M sz c n) : xG K pc (a0 :: a1 :: a2 :: a3 :: z :: vs) (.ref x :: st) M sz c n := xg_astore_w h hd hi rfl k
theorem xp_astoreN_4 (h : xX Y rm K) (hd : decode Y.2.1 pc = .ok (.astore 4, 2)) (hi : 4 < Y.2.2.1) (k : xG K (pc + 2) (a0 :: a1 :: a2 :: a3 :: some .null :: vs) st M sz c n) : xG K pc (a0 :: a1 :: a2 :: a3 :: z :: vs) (.null :: st) M sz c n := xg_astoreN_w h hd hi rfl k
theorem xp_inc_4 (h : xX Y rm K) {a : Nat} (hd : decode Y.2.1 pc = .ok (.iinc 4 1, 3)) (hi : 4 < Y.2.2.1) (k : xG K (pc + 3) (a0 :: a1 :: a2 :: a3 :: some (.int (nI (a + 1))) :: vs) st M sz c n) : xG K pc (a0 :: a1 :: a2 :: a3 :: some (.int (nI a)) :: vs) st M sz c n := xg_iinc (v := 1) h hd hi rfl rfl (by rw [nI_1]; rfl) k
theorem xp_iload_5 (h : xX Y rm K) {x : Int32} (hd : decode Y.2.1 pc = .ok (.iload 5, 2)) (k : xG K (pc + 2) (a0 :: a1 :: a2 :: a3 :: a4 :: some (.int x) :: vs) (.int x :: st) M sz c n) : xG K pc (a0 :: a1 :: a2 :: a3 :: a4 :: some (.int x) :: vs) st M sz c n := xg_iload_w h hd rfl k
theorem xp_aload_5 (h : xX Y rm K) {x : Nat} (hd : decode Y.2.1 pc = .ok (.aload 5, 2)) (k : xG K (pc + 2) (a0 :: a1 :: a2 :: a3 :: a4 :: some (.ref x) :: vs) (.ref x :: st) M sz c n) : xG K pc (a0 :: a1 :: a2 :: a3 :: a4 :: some (.ref x) :: vs) st M sz c n := xg_aload_w h hd rfl k
theorem xp_aloadN_5 (h : xX Y rm K) (hd : decode Y.2.1 pc = .ok (.aload 5, 2)) (k : xG K (pc + 2) (a0 :: a1 :: a2 :: a3 :: a4 :: some .null :: vs) (.null :: st) M sz c n) : xG K pc (a0 :: a1 :: a2 :: a3 :: a4 :: some .null :: vs) st M sz c n := xg_aloadN_w h hd rfl k
theorem xp_istore_5 (h : xX Y rm K) {x : Int32} (hd : decode Y.2.1 pc = .ok (.istore 5, 2)) (hi : 5 < Y.2.2.1) (k : xG K (pc + 2) (a0 :: a1 :: a2 :: a3 :: a4 :: some (.int x) :: vs) st M sz c n) : xG K pc (a0 :: a1 :: a2 :: a3 :: a4 :: z :: vs) (.int x :: st) M sz c n := xg_istore_w h hd hi rfl k
theorem xp_astore_5 (h : xX Y rm K) {x : Nat} (hd : decode Y.2.1 pc = .ok (.astore 5, 2)) (hi : 5 < Y.2.2.1) (k : xG K (pc + 2) (a0 :: a1 :: a2 :: a3 :: a4 :: some (.ref x) :: vs) st M sz c n) : xG K pc (a0 :: a1 :: a2 :: a3 :: a4 :: z :: vs) (.ref x :: st) M sz c n := xg_astore_w h hd hi rfl k
theorem xp_astoreN_5 (h : xX Y rm K) (hd : decode Y.2.1 pc = .ok (.astore 5, 2)) (hi : 5 < Y.2.2.1) (k : xG K (pc + 2) (a0 :: a1 :: a2 :: a3 :: a4 :: some .null :: vs) st M sz c n) : xG K pc (a0 :: a1 :: a2 :: a3 :: a4 :: z :: vs) (.null :: st) M sz c n := xg_astoreN_w h hd hi rfl k
theorem xp_inc_5 (h : xX Y rm K) {a : Nat} (hd : decode Y.2.1 pc = .ok (.iinc 5 1, 3)) (hi : 5 < Y.2.2.1) (k : xG K (pc + 3) (a0 :: a1 :: a2 :: a3 :: a4 :: some (.int (nI (a + 1))) :: vs) st M sz c n) : xG K pc (a0 :: a1 :: a2 :: a3 :: a4 :: some (.int (nI a)) :: vs) st M sz c n := xg_iinc (v := 1) h hd hi rfl rfl (by rw [nI_1]; rfl) k
theorem xp_iload_6 (h : xX Y rm K) {x : Int32} (hd : decode Y.2.1 pc = .ok (.iload 6, 2)) (k : xG K (pc + 2) (a0 :: a1 :: a2 :: a3 :: a4 :: a5 :: some (.int x) :: vs) (.int x :: st) M sz c n) : xG K pc (a0 :: a1 :: a2 :: a3 :: a4 :: a5 :: some (.int x) :: vs) st M sz c n := xg_iload_w h hd rfl k
theorem xp_aload_6 (h : xX Y rm K) {x : Nat} (hd : decode Y.2.1 pc = .ok (.aload 6, 2)) (k : xG K (pc + 2) (a0 :: a1 :: a2 :: a3 :: a4 :: a5 :: some (.ref x) :: vs) (.ref x :: st) M sz c n) : xG K pc (a0 :: a1 :: a2 :: a3 :: a4 :: a5 :: some (.ref x) :: vs) st M sz c n := xg_aload_w h hd rfl k
theorem xp_aloadN_6 (h : xX Y rm K) (hd : decode Y.2.1 pc = .ok (.aload 6, 2)) (k : xG K (pc + 2) (a0 :: a1 :: a2 :: a3 :: a4 :: a5 :: some .null :: vs) (.null :: st) M sz c n) : xG K pc (a0 :: a1 :: a2 :: a3 :: a4 :: a5 :: some .null :: vs) st M sz c n := xg_aloadN_w h hd rfl k
theorem xp_istore_6 (h : xX Y rm K) {x : Int32} (hd : decode Y.2.1 pc = .ok (.istore 6, 2)) (hi : 6 < Y.2.2.1) (k : xG K (pc + 2) (a0 :: a1 :: a2 :: a3 :: a4 :: a5 :: some (.int x) :: vs) st M sz c n) : xG K pc (a0 :: a1 :: a2 :: a3 :: a4 :: a5 :: z :: vs) (.int x :: st) M sz c n := xg_istore_w h hd hi rfl k
theorem xp_astore_6 (h : xX Y rm K) {x : Nat} (hd : decode Y.2.1 pc = .ok (.astore 6, 2)) (hi : 6 < Y.2.2.1) (k : xG K (pc + 2) (a0 :: a1 :: a2 :: a3 :: a4 :: a5 :: some (.ref x) :: vs) st M sz c n) : xG K pc (a0 :: a1 :: a2 :: a3 :: a4 :: a5 :: z :: vs) (.ref x :: st) M sz c n := xg_astore_w h hd hi rfl k
theorem xp_astoreN_6 (h : xX Y rm K) (hd : decode Y.2.1 pc = .ok (.astore 6, 2)) (hi : 6 < Y.2.2.1) (k : xG K (pc + 2) (a0 :: a1 :: a2 :: a3 :: a4 :: a5 :: some .null :: vs) st M sz c n) : xG K pc (a0 :: a1 :: a2 :: a3 :: a4 :: a5 :: z :: vs) (.null :: st) M sz c n := xg_astoreN_w h hd hi rfl k
theorem xp_inc_6 (h : xX Y rm K) {a : Nat} (hd : decode Y.2.1 pc = .ok (.iinc 6 1, 3)) (hi : 6 < Y.2.2.1) (k : xG K (pc + 3) (a0 :: a1 :: a2 :: a3 :: a4 :: a5 :: some (.int (nI (a + 1))) :: vs) st M sz c n) : xG K pc (a0 :: a1 :: a2 :: a3 :: a4 :: a5 :: some (.int (nI a)) :: vs) st M sz c n := xg_iinc (v := 1) h hd hi rfl rfl (by rw [nI_1]; rfl) k
theorem xp_iload_7 (h : xX Y rm K) {x : Int32} (hd : decode Y.2.1 pc = .ok (.iload 7, 2)) (k : xG K (pc + 2) (a0 :: a1 :: a2 :: a3 :: a4 :: a5 :: a6 :: some (.int x) :: vs) (.int x :: st) M sz c n) : xG K pc (a0 :: a1 :: a2 :: a3 :: a4 :: a5 :: a6 :: some (.int x) :: vs) st M sz c n := xg_iload_w h hd rfl k
theorem xp_aload_7 (h : xX Y rm K) {x : Nat} (hd : decode Y.2.1 pc = .ok (.aload 7, 2)) (k : xG K (pc + 2) (a0 :: a1 :: a2 :: a3 :: a4 :: a5 :: a6 :: some (.ref x) :: vs) (.ref x :: st) M sz c n) : xG K pc (a0 :: a1 :: a2 :: a3 :: a4 :: a5 :: a6 :: some (.ref x) :: vs) st M sz c n := xg_aload_w h hd rfl k
theorem xp_aloadN_7 (h : xX Y rm K) (hd : decode Y.2.1 pc = .ok (.aload 7, 2)) (k : xG K (pc + 2) (a0 :: a1 :: a2 :: a3 :: a4 :: a5 :: a6 :: some .null :: vs) (.null :: st) M sz c n) : xG K pc (a0 :: a1 :: a2 :: a3 :: a4 :: a5 :: a6 :: some .null :: vs) st M sz c n := xg_aloadN_w h hd rfl k
theorem xp_istore_7 (h : xX Y rm K) {x : Int32} (hd : decode Y.2.1 pc = .ok (.istore 7, 2)) (hi : 7 < Y.2.2.1) (k : xG K (pc + 2) (a0 :: a1 :: a2 :: a3 :: a4 :: a5 :: a6 :: some (.int x) :: vs) st M sz c n) : xG K pc (a0 :: a1 :: a2 :: a3 :: a4 :: a5 :: a6 :: z :: vs) (.int x :: st) M sz c n := xg_istore_w h hd hi rfl k
theorem xp_astore_7 (h : xX Y rm K) {x : Nat} (hd : decode Y.2.1 pc = .ok (.astore 7, 2)) (hi : 7 < Y.2.2.1) (k : xG K (pc + 2) (a0 :: a1 :: a2 :: a3 :: a4 :: a5 :: a6 :: some (.ref x) :: vs) st M sz c n) : xG K pc (a0 :: a1 :: a2 :: a3 :: a4 :: a5 :: a6 :: z :: vs) (.ref x :: st) M sz c n := xg_astore_w h hd hi rfl k
theorem xp_astoreN_7 (h : xX Y rm K) (hd : decode Y.2.1 pc = .ok (.astore 7, 2)) (hi : 7 < Y.2.2.1) (k : xG K (pc + 2) (a0 :: a1 :: a2 :: a3 :: a4 :: a5 :: a6 :: some .null :: vs) st M sz c n) : xG K pc (a0 :: a1 :: a2 :: a3 :: a4 :: a5 :: a6 :: z :: vs) (.null :: st) M sz c n := xg_astoreN_w h hd hi rfl k
theorem xp_inc_7 (h : xX Y rm K) {a : Nat} (hd : decode Y.2.1 pc = .ok (.iinc 7 1, 3)) (hi : 7 < Y.2.2.1) (k : xG K (pc + 3) (a0 :: a1 :: a2 :: a3 :: a4 :: a5 :: a6 :: some (.int (nI (a + 1))) :: vs) st M sz c n) : xG K pc (a0 :: a1 :: a2 :: a3 :: a4 :: a5 :: a6 :: some (.int (nI a)) :: vs) st M sz c n := xg_iinc (v := 1) h hd hi rfl rfl (by rw [nI_1]; rfl) k
theorem xp_iload_8 (h : xX Y rm K) {x : Int32} (hd : decode Y.2.1 pc = .ok (.iload 8, 2)) (k : xG K (pc + 2) (a0 :: a1 :: a2 :: a3 :: a4 :: a5 :: a6 :: a7 :: some (.int x) :: vs) (.int x :: st) M sz c n) : xG K pc (a0 :: a1 :: a2 :: a3 :: a4 :: a5 :: a6 :: a7 :: some (.int x) :: vs) st M sz c n := xg_iload_w h hd rfl k
theorem xp_aload_8 (h : xX Y rm K) {x : Nat} (hd : decode Y.2.1 pc = .ok (.aload 8, 2)) (k : xG K (pc + 2) (a0 :: a1 :: a2 :: a3 :: a4 :: a5 :: a6 :: a7 :: some (.ref x) :: vs) (.ref x :: st) M sz c n) : xG K pc (a0 :: a1 :: a2 :: a3 :: a4 :: a5 :: a6 :: a7 :: some (.ref x) :: vs) st M sz c n := xg_aload_w h hd rfl k
theorem xp_aloadN_8 (h : xX Y rm K) (hd : decode Y.2.1 pc = .ok (.aload 8, 2)) (k : xG K (pc + 2) (a0 :: a1 :: a2 :: a3 :: a4 :: a5 :: a6 :: a7 :: some .null :: vs) (.null :: st) M sz c n) : xG K pc (a0 :: a1 :: a2 :: a3 :: a4 :: a5 :: a6 :: a7 :: some .null :: vs) st M sz c n := xg_aloadN_w h hd rfl k
theorem xp_istore_8 (h : xX Y rm K) {x : Int32} (hd : decode Y.2.1 pc = .ok (.istore 8, 2)) (hi : 8 < Y.2.2.1) (k : xG K (pc + 2) (a0 :: a1 :: a2 :: a3 :: a4 :: a5 :: a6 :: a7 :: some (.int x) :: vs) st M sz c n) : xG K pc (a0 :: a1 :: a2 :: a3 :: a4 :: a5 :: a6 :: a7 :: z :: vs) (.int x :: st) M sz c n := xg_istore_w h hd hi rfl k
theorem xp_astore_8 (h : xX Y rm K) {x : Nat} (hd : decode Y.2.1 pc = .ok (.astore 8, 2)) (hi : 8 < Y.2.2.1) (k : xG K (pc + 2) (a0 :: a1 :: a2 :: a3 :: a4 :: a5 :: a6 :: a7 :: some (.ref x) :: vs) st M sz c n) : xG K pc (a0 :: a1 :: a2 :: a3 :: a4 :: a5 :: a6 :: a7 :: z :: vs) (.ref x :: st) M sz c n := xg_astore_w h hd hi rfl k
theorem xp_astoreN_8 (h : xX Y rm K) (hd : decode Y.2.1 pc = .ok (.astore 8, 2)) (hi : 8 < Y.2.2.1) (k : xG K (pc + 2) (a0 :: a1 :: a2 :: a3 :: a4 :: a5 :: a6 :: a7 :: some .null :: vs) st M sz c n) : xG K pc (a0 :: a1 :: a2 :: a3 :: a4 :: a5 :: a6 :: a7 :: z :: vs) (.null :: st) M sz c n := xg_astoreN_w h hd hi rfl k
theorem xp_inc_8 (h : xX Y rm K) {a : Nat} (hd : decode Y.2.1 pc = .ok (.iinc 8 1, 3)) (hi : 8 < Y.2.2.1) (k : xG K (pc + 3) (a0 :: a1 :: a2 :: a3 :: a4 :: a5 :: a6 :: a7 :: some (.int (nI (a + 1))) :: vs) st M sz c n) : xG K pc (a0 :: a1 :: a2 :: a3 :: a4 :: a5 :: a6 :: a7 :: some (.int (nI a)) :: vs) st M sz c n := xg_iinc (v := 1) h hd hi rfl rfl (by rw [nI_1]; rfl) k
theorem xp_iload_9 (h : xX Y rm K) {x : Int32} (hd : decode Y.2.1 pc = .ok (.iload 9, 2)) (k : xG K (pc + 2) (a0 :: a1 :: a2 :: a3 :: a4 :: a5 :: a6 :: a7 :: a8 :: some (.int x) :: vs) (.int x :: st) M sz c n) : xG K pc (a0 :: a1 :: a2 :: a3 :: a4 :: a5 :: a6 :: a7 :: a8 :: some (.int x) :: vs) st M sz c n := xg_iload_w h hd rfl k
theorem xp_aload_9 (h : xX Y rm K) {x : Nat} (hd : decode Y.2.1 pc = .ok (.aload 9, 2)) (k : xG K (pc + 2) (a0 :: a1 :: a2 :: a3 :: a4 :: a5 :: a6 :: a7 :: a8 :: some (.ref x) :: vs) (.ref x :: st) M sz c n) : xG K pc (a0 :: a1 :: a2 :: a3 :: a4 :: a5 :: a6 :: a7 :: a8 :: some (.ref x) :: vs) st M sz c n := xg_aload_w h hd rfl k
theorem xp_aloadN_9 (h : xX Y rm K) (hd : decode Y.2.1 pc = .ok (.aload 9, 2)) (k : xG K (pc + 2) (a0 :: a1 :: a2 :: a3 :: a4 :: a5 :: a6 :: a7 :: a8 :: some .null :: vs) (.null :: st) M sz c n) : xG K pc (a0 :: a1 :: a2 :: a3 :: a4 :: a5 :: a6 :: a7 :: a8 :: some .null :: vs) st M sz c n := xg_aloadN_w h hd rfl k
theorem xp_istore_9 (h : xX Y rm K) {x : Int32} (hd : decode Y.2.1 pc = .ok (.istore 9, 2)) (hi : 9 < Y.2.2.1) (k : xG K (pc + 2) (a0 :: a1 :: a2 :: a3 :: a4 :: a5 :: a6 :: a7 :: a8 :: some (.int x) :: vs) st M sz c n) : xG K pc (a0 :: a1 :: a2 :: a3 :: a4 :: a5 :: a6 :: a7 :: a8 :: z :: vs) (.int x :: st) M sz c n := xg_istore_w h hd hi rfl k
theorem xp_astore_9 (h : xX Y rm K) {x : Nat} (hd : decode Y.2.1 pc = .ok (.astore 9, 2)) (hi : 9 < Y.2.2.1) (k : xG K (pc + 2) (a0 :: a1 :: a2 :: a3 :: a4 :: a5 :: a6 :: a7 :: a8 :: some (.ref x) :: vs) st M sz c n) : xG K pc (a0 :: a1 :: a2 :: a3 :: a4 :: a5 :: a6 :: a7 :: a8 :: z :: vs) (.ref x :: st) M sz c n := xg_astore_w h hd hi rfl k
theorem xp_astoreN_9 (h : xX Y rm K) (hd : decode Y.2.1 pc = .ok (.astore 9, 2)) (hi : 9 < Y.2.2.1) (k : xG K (pc + 2) (a0 :: a1 :: a2 :: a3 :: a4 :: a5 :: a6 :: a7 :: a8 :: some .null :: vs) st M sz c n) : xG K pc (a0 :: a1 :: a2 :: a3 :: a4 :: a5 :: a6 :: a7 :: a8 :: z :: vs) (.null :: st) M sz c n := xg_astoreN_w h hd hi rfl k
theorem xp_inc_9 (h : xX Y rm K) {a : Nat} (hd : decode Y.2.1 pc = .ok (.iinc 9 1, 3)) (hi : 9 < Y.2.2.1) (k : xG K (pc + 3) (a0 :: a1 :: a2 :: a3 :: a4 :: a5 :: a6 :: a7 :: a8 :: some (.int (nI (a + 1))) :: vs) st M sz c n) : xG K pc (a0 :: a1 :: a2 :: a3 :: a4 :: a5 :: a6 :: a7 :: a8 :: some (.int (nI a)) :: vs) st M sz c n := xg_iinc (v := 1) h hd hi rfl rfl (by rw [nI_1]; rfl) k
theorem xp_iload_10 (h : xX Y rm K) {x : Int32} (hd : decode Y.2.1 pc = .ok (.iload 10, 2)) (k : xG K (pc + 2) (a0 :: a1 :: a2 :: a3 :: a4 :: a5 :: a6 :: a7 :: a8 :: a9 :: some (.int x) :: vs) (.int x :: st) M sz c n) : xG K pc (a0 :: a1 :: a2 :: a3 :: a4 :: a5 :: a6 :: a7 :: a8 :: a9 :: some (.int x) :: vs) st M sz c n := xg_iload_w h hd rfl k
theorem xp_aload_10 (h : xX Y rm K) {x : Nat} (hd : decode Y.2.1 pc = .ok (.aload 10, 2)) (k : xG K (pc + 2) (a0 :: a1 :: a2 :: a3 :: a4 :: a5 :: a6 :: a7 :: a8 :: a9 :: some (.ref x) :: vs) (.ref x :: st) M sz c n) : xG K pc (a0 :: a1 :: a2 :: a3 :: a4 :: a5 :: a6 :: a7 :: a8 :: a9 :: some (.ref x) :: vs) st M sz c n := xg_aload_w h hd rfl k
theorem xp_aloadN_10 (h : xX Y rm K) (hd : decode Y.2.1 pc = .ok (.aload 10, 2)) (k : xG K (pc + 2) (a0 :: a1 :: a2 :: a3 :: a4 :: a5 :: a6 :: a7 :: a8 :: a9 :: some .null :: vs) (.null :: st) M sz c n) : xG K pc (a0 :: a1 :: a2 :: a3 :: a4 :: a5 :: a6 :: a7 :: a8 :: a9 :: some .null :: vs) st M sz c n := xg_aloadN_w h hd rfl k
theorem xp_istore_10 (h : xX Y rm K) {x : Int32} (hd : decode Y.2.1 pc = .ok (.istore 10, 2)) (hi : 10 < Y.2.2.1) (k : xG K (pc + 2) (a0 :: a1 :: a2 :: a3 :: a4 :: a5 :: a6 :: a7 :: a8 :: a9 :: some (.int x) :: vs) st M sz c n) : xG K pc (a0 :: a1 :: a2 :: a3 :: a4 :: a5 :: a6 :: a7 :: a8 :: a9 :: z :: vs) (.int x :: st) M sz c n := xg_istore_w h hd hi rfl k
theorem xp_astore_10 (h : xX Y rm K) {x : Nat} (hd : decode Y.2.1 pc = .ok (.astore 10, 2)) (hi : 10 < Y.2.2.1) (k : xG K (pc + 2) (a0 :: a1 :: a2 :: a3 :: a4 :: a5 :: a6 :: a7 :: a8 :: a9 :: some (.ref x) :: vs) st M sz c n) : xG K pc (a0 :: a1 :: a2 :: a3 :: a4 :: a5 :: a6 :: a7 :: a8 :: a9 :: z :: vs) (.ref x :: st) M sz c n := xg_astore_w h hd hi rfl k
theorem xp_astoreN_10 (h : xX Y rm K) (hd : decode Y.2.1 pc = .ok (.astore 10, 2)) (hi : 10 < Y.2.2.1) (k : xG K (pc + 2) (a0 :: a1 :: a2 :: a3 :: a4 :: a5 :: a6 :: a7 :: a8 :: a9 :: some .null :: vs) st M sz c n) : xG K pc (a0 :: a1 :: a2 :: a3 :: a4 :: a5 :: a6 :: a7 :: a8 :: a9 :: z :: vs) (.null :: st) M sz c n := xg_astoreN_w h hd hi rfl k
theorem xp_inc_10 (h : xX Y rm K) {a : Nat} (hd : decode Y.2.1 pc = .ok (.iinc 10 1, 3)) (hi : 10 < Y.2.2.1) (k : xG K (pc + 3) (a0 :: a1 :: a2 :: a3 :: a4 :: a5 :: a6 :: a7 :: a8 :: a9 :: some (.int (nI (a + 1))) :: vs) st M sz c n) : xG K pc (a0 :: a1 :: a2 :: a3 :: a4 :: a5 :: a6 :: a7 :: a8 :: a9 :: some (.int (nI a)) :: vs) st M sz c n := xg_iinc (v := 1) h hd hi rfl rfl (by rw [nI_1]; rfl) k
theorem xp_iload_11 (h : xX Y rm K) {x : Int32} (hd : decode Y.2.1 pc = .ok (.iload 11, 2)) (k : xG K (pc + 2) (a0 :: a1 :: a2 :: a3 :: a4 :: a5 :: a6 :: a7 :: a8 :: a9 :: a10 :: some (.int x) :: vs) (.int x :: st) M sz c n) : xG K pc (a0 :: a1 :: a2 :: a3 :: a4 :: a5 :: a6 :: a7 :: a8 :: a9 :: a10 :: some (.int x) :: vs) st M sz c n := xg_iload_w h hd rfl k
theorem xp_aload_11 (h : xX Y rm K) {x : Nat} (hd : decode Y.2.1 pc = .ok (.aload 11, 2)) (k : xG K (pc + 2) (a0 :: a1 :: a2 :: a3 :: a4 :: a5 :: a6 :: a7 :: a8 :: a9 :: a10 :: some (.ref x) :: vs) (.ref x :: st) M sz c n) : xG K pc (a0 :: a1 :: a2 :: a3 :: a4 :: a5 :: a6 :: a7 :: a8 :: a9 :: a10 :: some (.ref x) :: vs) st M sz c n := xg_aload_w h hd rfl k
theorem xp_aloadN_11 (h : xX Y rm K) (hd : decode Y.2.1 pc = .ok (.aload 11, 2)) (k : xG K (pc + 2) (a0 :: a1 :: a2 :: a3 :: a4 :: a5 :: a6 :: a7 :: a8 :: a9 :: a10 :: some .null :: vs) (.null :: st) M sz c n) : xG K pc (a0 :: a1 :: a2 :: a3 :: a4 :: a5 :: a6 :: a7 :: a8 :: a9 :: a10 :: some .null :: vs) st M sz c n := xg_aloadN_w h hd rfl k
theorem xp_istore_11 (h : xX Y rm K) {x : Int32} (hd : decode Y.2.1 pc = .ok (.istore 11, 2)) (hi : 11 < Y.2.2.1) (k : xG K (pc + 2) (a0 :: a1 :: a2 :: a3 :: a4 :: a5 :: a6 :: a7 :: a8 :: a9 :: a10 :: some (.int x) :: vs) st M sz c n) : xG K pc (a0 :: a1 :: a2 :: a3 :: a4 :: a5 :: a6 :: a7 :: a8 :: a9 :: a10 :: z :: vs) (.int x :: st) M sz c n := xg_istore_w h hd hi rfl k
theorem xp_astore_11 (h : xX Y rm K) {x : Nat} (hd : decode Y.2.1 pc = .ok (.astore 11, 2)) (hi : 11 < Y.2.2.1) (k : xG K (pc + 2) (a0 :: a1 :: a2 :: a3 :: a4 :: a5 :: a6 :: a7 :: a8 :: a9 :: a10 :: some (.ref x) :: vs) st M sz c n) : xG K pc (a0 :: a1 :: a2 :: a3 :: a4 :: a5 :: a6 :: a7 :: a8 :: a9 :: a10 :: z :: vs) (.ref x :: st) M sz c n := xg_astore_w h hd hi rfl k
theorem xp_astoreN_11 (h : xX Y rm K) (hd : decode Y.2.1 pc = .ok (.astore 11, 2)) (hi : 11 < Y.2.2.1) (k : xG K (pc + 2) (a0 :: a1 :: a2 :: a3 :: a4 :: a5 :: a6 :: a7 :: a8 :: a9 :: a10 :: some .null :: vs) st M sz c n) : xG K pc (a0 :: a1 :: a2 :: a3 :: a4 :: a5 :: a6 :: a7 :: a8 :: a9 :: a10 :: z :: vs) (.null :: st) M sz c n := xg_astoreN_w h hd hi rfl k
theorem xp_inc_11 (h : xX Y rm K) {a : Nat} (hd : decode Y.2.1 pc = .ok (.iinc 11 1, 3)) (hi : 11 < Y.2.2.1) (k : xG K (pc + 3) (a0 :: a1 :: a2 :: a3 :: a4 :: a5 :: a6 :: a7 :: a8 :: a9 :: a10 :: some (.int (nI (a + 1))) :: vs) st M sz c n) : xG K pc (a0 :: a1 :: a2 :: a3 :: a4 :: a5 :: a6 :: a7 :: a8 :: a9 :: a10 :: some (.int (nI a)) :: vs) st M sz c n := xg_iinc (v := 1) h hd hi rfl rfl (by rw [nI_1]; rfl) k
theorem xp_iload_12 (h : xX Y rm K) {x : Int32} (hd : decode Y.2.1 pc = .ok (.iload 12, 2)) (k : xG K (pc + 2) (a0 :: a1 :: a2 :: a3 :: a4 :: a5 :: a6 :: a7 :: a8 :: a9 :: a10 :: a11 :: some (.int x) :: vs) (.int x :: st) M sz c n) : xG K pc (a0 :: a1 :: a2 :: a3 :: a4 :: a5 :: a6 :: a7 :: a8 :: a9 :: a10 :: a11 :: some (.int x) :: vs) st M sz c n := xg_iload_w h hd rfl k
theorem xp_aload_12 (h : xX Y rm K) {x : Nat} (hd : decode Y.2.1 pc = .ok (.aload 12, 2)) (k : xG K (pc + 2) (a0 :: a1 :: a2 :: a3 :: a4 :: a5 :: a6 :: a7 :: a8 :: a9 :: a10 :: a11 :: some (.ref x) :: vs) (.ref x :: st) M sz c n) : xG K pc (a0 :: a1 :: a2 :: a3 :: a4 :: a5 :: a6 :: a7 :: a8 :: a9 :: a10 :: a11 :: some (.ref x) :: vs) st M sz c n := xg_aload_w h hd rfl k
theorem xp_aloadN_12 (h : xX Y rm K) (hd : decode Y.2.1 pc = .ok (.aload 12, 2)) (k : xG K (pc + 2) (a0 :: a1 :: a2 :: a3 :: a4 :: a5 :: a6 :: a7 :: a8 :: a9 :: a10 :: a11 :: some .null :: vs) (.null :: st) M sz c n) : xG K pc (a0 :: a1 :: a2 :: a3 :: a4 :: a5 :: a6 :: a7 :: a8 :: a9 :: a10 :: a11 :: some .null :: vs) st M sz c n := xg_aloadN_w h hd rfl k
theorem xp_istore_12 (h : xX Y rm K) {x : Int32} (hd : decode Y.2.1 pc = .ok (.istore 12, 2)) (hi : 12 < Y.2.2.1) (k : xG K (pc + 2) (a0 :: a1 :: a2 :: a3 :: a4 :: a5 :: a6 :: a7 :: a8 :: a9 :: a10 :: a11 :: some (.int x) :: vs) st M sz c n) : xG K pc (a0 :: a1 :: a2 :: a3 :: a4 :: a5 :: a6 :: a7 :: a8 :: a9 :: a10 :: a11 :: z :: vs) (.int x :: st) M sz c n := xg_istore_w h hd hi rfl k
theorem xp_astore_12 (h : xX Y rm K) {x : Nat} (hd : decode Y.2.1 pc = .ok (.astore 12, 2)) (hi : 12 < Y.2.2.1) (k : xG K (pc + 2) (a0 :: a1 :: a2 :: a3 :: a4 :: a5 :: a6 :: a7 :: a8 :: a9 :: a10 :: a11 :: some (.ref x) :: vs) st M sz c n) : xG K pc (a0 :: a1 :: a2 :: a3 :: a4 :: a5 :: a6 :: a7 :: a8 :: a9 :: a10 :: a11 :: z :: vs) (.ref x :: st) M sz c n := xg_astore_w h hd hi rfl k
theorem xp_astoreN_12 (h : xX Y rm K) (hd : decode Y.2.1 pc = .ok (.astore 12, 2)) (hi : 12 < Y.2.2.1) (k : xG K (pc + 2) (a0 :: a1 :: a2 :: a3 :: a4 :: a5 :: a6 :: a7 :: a8 :: a9 :: a10 :: a11 :: some .null :: vs) st M sz c n) : xG K pc (a0 :: a1 :: a2 :: a3 :: a4 :: a5 :: a6 :: a7 :: a8 :: a9 :: a10 :: a11 :: z :: vs) (.null :: st) M sz c n := xg_astoreN_w h hd hi rfl k
theorem xp_inc_12 (h : xX Y rm K) {a : Nat} (hd : decode Y.2.1 pc = .ok (.iinc 12 1, 3)) (hi : 12 < Y.2.2.1) (k : xG K (pc + 3) (a0 :: a1 :: a2 :: a3 :: a4 :: a5 :: a6 :: a7 :: a8 :: a9 :: a10 :: a11 :: some (.int (nI (a + 1))) :: vs) st M sz c n) : xG K pc (a0 :: a1 :: a2 :: a3 :: a4 :: a5 :: a6 :: a7 :: a8 :: a9 :: a10 :: a11 :: some (.int (nI a)) :: vs) st M sz c n := xg_iinc (v := 1) h hd hi rfl rfl (by rw [nI_1]; rfl) k
end XP
end
section
theorem lc_Law_7 : Cond.classLink "NameRoomLaw" 7 "NameRoom" ∈ lw_g := lw_in 12 rfl (by decide +kernel)
theorem l_Law_9 : Cond.methodLink "NameRoomLaw" 9 ⟨"NameRoom", "<init>", "()V"⟩ ∈ lw_g := lw_in 14 rfl (by decide +kernel)
theorem l_Nam_1 : Cond.methodLink "NameRoom" 1 ⟨"java/lang/Object", "<init>", "()V"⟩ ∈ lw_g := lw_in 17 rfl (by decide +kernel)
theorem lc_Nam_7 : Cond.classLink "NameRoom" 7 "NameRoom$Reader" ∈ lw_g := lw_in 20 rfl (by decide +kernel)
theorem l_Nam_9 : Cond.methodLink "NameRoom" 9 ⟨"NameRoom$Reader", "<init>", "()V"⟩ ∈ lw_g := lw_in 22 rfl (by decide +kernel)
theorem l_Rea_3 : Cond.methodLink "NameRoom$Reader" 3 ⟨"java/lang/Object", "<init>", "()V"⟩ ∈ lw_g := lw_in 25 rfl (by decide +kernel)
theorem lc_Rea_9 : Cond.classLink "NameRoom$Reader" 9 "NameRoom$Row" ∈ lw_g := lw_in 26 rfl (by decide +kernel)
theorem l_Rea_11 : Cond.methodLink "NameRoom$Reader" 11 ⟨"NameRoom$Row", "<init>", "(I)V"⟩ ∈ lw_g := lw_in 28 rfl (by decide +kernel)
theorem l_Row_3 : Cond.methodLink "NameRoom$Row" 3 ⟨"java/lang/Object", "<init>", "()V"⟩ ∈ lw_g := lw_in 31 rfl (by decide +kernel)
theorem l_Row_9 : Cond.methodLink "NameRoom$Row" 9 ⟨"java/lang/Math", "max", "(II)I"⟩ ∈ lw_g := lw_in 32 rfl (by decide +kernel)
theorem l_Row_15 : Cond.fieldLink "NameRoom$Row" 15 "NameRoom$Row" "bytes" "[B" ∈ lw_g := lw_in 35 rfl (by decide +kernel)
theorem l_Row_21 : Cond.fieldLink "NameRoom$Row" 21 "NameRoom$Row" "length" "I" ∈ lw_g := lw_in 36 rfl (by decide +kernel)
theorem l_Nam_64 : Cond.fieldLink "NameRoom" 64 "NameRoom$Row" "length" "I" ∈ lw_g := lw_in 37 rfl (by decide +kernel)
theorem l_Sig_28 : Cond.fieldLink "NameRoom$Sight" 28 "NameRoom$Row" "length" "I" ∈ lw_g := lw_in 38 rfl (by decide +kernel)
theorem l_Cut_42 : Cond.fieldLink "NameRoom$Cutter" 42 "NameRoom$Row" "length" "I" ∈ lw_g := lw_in 39 rfl (by decide +kernel)
theorem l_She_29 : Cond.fieldLink "NameRoom$Shelf" 29 "NameRoom$Row" "length" "I" ∈ lw_g := lw_in 40 rfl (by decide +kernel)
theorem l_Poo_66 : Cond.fieldLink "NameRoom$Pools" 66 "NameRoom$Row" "length" "I" ∈ lw_g := lw_in 41 rfl (by decide +kernel)
theorem l_Rea_68 : Cond.fieldLink "NameRoom$Reader" 68 "NameRoom$Row" "length" "I" ∈ lw_g := lw_in 42 rfl (by decide +kernel)
theorem l_Rea_14 : Cond.fieldLink "NameRoom$Reader" 14 "NameRoom$Reader" "text" "LNameRoom$Row;" ∈ lw_g := lw_in 49 rfl (by decide +kernel)
theorem l_Nam_16 : Cond.fieldLink "NameRoom" 16 "NameRoom$Reader" "text" "LNameRoom$Row;" ∈ lw_g := lw_in 50 rfl (by decide +kernel)
theorem l_Rea_20 : Cond.fieldLink "NameRoom$Reader" 20 "NameRoom$Reader" "kinds" "[I" ∈ lw_g := lw_in 51 rfl (by decide +kernel)
theorem l_Rea_24 : Cond.fieldLink "NameRoom$Reader" 24 "NameRoom$Reader" "starts" "[I" ∈ lw_g := lw_in 52 rfl (by decide +kernel)
theorem l_Rea_27 : Cond.fieldLink "NameRoom$Reader" 27 "NameRoom$Reader" "stops" "[I" ∈ lw_g := lw_in 53 rfl (by decide +kernel)
theorem l_Rea_30 : Cond.fieldLink "NameRoom$Reader" 30 "NameRoom$Reader" "size" "I" ∈ lw_g := lw_in 54 rfl (by decide +kernel)
theorem l_Nam_118 : Cond.fieldLink "NameRoom" 118 "NameRoom$Reader" "size" "I" ∈ lw_g := lw_in 55 rfl (by decide +kernel)
theorem l_Rea_34 : Cond.fieldLink "NameRoom$Reader" 34 "NameRoom$Reader" "targets" "I" ∈ lw_g := lw_in 56 rfl (by decide +kernel)
theorem l_Nam_157 : Cond.fieldLink "NameRoom" 157 "NameRoom$Reader" "targets" "I" ∈ lw_g := lw_in 57 rfl (by decide +kernel)
theorem l_Rea_37 : Cond.fieldLink "NameRoom$Reader" 37 "NameRoom$Reader" "at" "I" ∈ lw_g := lw_in 58 rfl (by decide +kernel)
theorem l_Nam_83 : Cond.fieldLink "NameRoom" 83 "NameRoom$Reader" "at" "I" ∈ lw_g := lw_in 59 rfl (by decide +kernel)
theorem l_Rea_40 : Cond.fieldLink "NameRoom$Reader" 40 "NameRoom$Reader" "answer" "I" ∈ lw_g := lw_in 60 rfl (by decide +kernel)
theorem lc_Nam_23 : Cond.classLink "NameRoom" 23 "NameRoom$Row" ∈ lw_g := lw_in 79 rfl (by decide +kernel)
theorem l_Nam_25 : Cond.methodLink "NameRoom" 25 ⟨"NameRoom$Row", "<init>", "(I)V"⟩ ∈ lw_g := lw_in 80 rfl (by decide +kernel)
theorem lc_Nam_43 : Cond.classLink "NameRoom" 43 "NameRoom$Shelf" ∈ lw_g := lw_in 81 rfl (by decide +kernel)
theorem l_Nam_45 : Cond.methodLink "NameRoom" 45 ⟨"NameRoom$Shelf", "<init>", "()V"⟩ ∈ lw_g := lw_in 83 rfl (by decide +kernel)
theorem l_She_3 : Cond.methodLink "NameRoom$Shelf" 3 ⟨"java/lang/Object", "<init>", "()V"⟩ ∈ lw_g := lw_in 86 rfl (by decide +kernel)
theorem lc_She_9 : Cond.classLink "NameRoom$Shelf" 9 "NameRoom$Entry" ∈ lw_g := lw_in 87 rfl (by decide +kernel)
theorem l_She_17 : Cond.methodLink "NameRoom$Shelf" 17 ⟨"NameRoom$Entry", "<init>", "()V"⟩ ∈ lw_g := lw_in 90 rfl (by decide +kernel)
theorem l_Ent_3 : Cond.methodLink "NameRoom$Entry" 3 ⟨"java/lang/Object", "<init>", "()V"⟩ ∈ lw_g := lw_in 93 rfl (by decide +kernel)
theorem lc_Ent_9 : Cond.classLink "NameRoom$Entry" 9 "NameRoom$Row" ∈ lw_g := lw_in 94 rfl (by decide +kernel)
theorem l_Ent_11 : Cond.methodLink "NameRoom$Entry" 11 ⟨"NameRoom$Row", "<init>", "(I)V"⟩ ∈ lw_g := lw_in 95 rfl (by decide +kernel)
theorem l_Ent_14 : Cond.fieldLink "NameRoom$Entry" 14 "NameRoom$Entry" "title" "LNameRoom$Row;" ∈ lw_g := lw_in 96 rfl (by decide +kernel)
theorem l_She_25 : Cond.fieldLink "NameRoom$Shelf" 25 "NameRoom$Entry" "title" "LNameRoom$Row;" ∈ lw_g := lw_in 97 rfl (by decide +kernel)
theorem l_Nam_110 : Cond.fieldLink "NameRoom" 110 "NameRoom$Entry" "title" "LNameRoom$Row;" ∈ lw_g := lw_in 98 rfl (by decide +kernel)
theorem l_Ent_20 : Cond.fieldLink "NameRoom$Entry" 20 "NameRoom$Entry" "held" "LNameRoom$Row;" ∈ lw_g := lw_in 99 rfl (by decide +kernel)
theorem l_She_46 : Cond.fieldLink "NameRoom$Shelf" 46 "NameRoom$Entry" "held" "LNameRoom$Row;" ∈ lw_g := lw_in 100 rfl (by decide +kernel)
theorem l_Nam_171 : Cond.fieldLink "NameRoom" 171 "NameRoom$Entry" "held" "LNameRoom$Row;" ∈ lw_g := lw_in 101 rfl (by decide +kernel)
theorem l_Ent_23 : Cond.fieldLink "NameRoom$Entry" 23 "NameRoom$Entry" "pool" "I" ∈ lw_g := lw_in 102 rfl (by decide +kernel)
theorem l_She_22 : Cond.fieldLink "NameRoom$Shelf" 22 "NameRoom$Entry" "pool" "I" ∈ lw_g := lw_in 103 rfl (by decide +kernel)
theorem l_Nam_164 : Cond.fieldLink "NameRoom" 164 "NameRoom$Entry" "pool" "I" ∈ lw_g := lw_in 104 rfl (by decide +kernel)
theorem l_Ent_27 : Cond.fieldLink "NameRoom$Entry" 27 "NameRoom$Entry" "gone" "Z" ∈ lw_g := lw_in 105 rfl (by decide +kernel)
theorem l_She_52 : Cond.fieldLink "NameRoom$Shelf" 52 "NameRoom$Entry" "gone" "Z" ∈ lw_g := lw_in 106 rfl (by decide +kernel)
theorem l_Nam_167 : Cond.fieldLink "NameRoom" 167 "NameRoom$Entry" "gone" "Z" ∈ lw_g := lw_in 107 rfl (by decide +kernel)
theorem l_Ent_31 : Cond.fieldLink "NameRoom$Entry" 31 "NameRoom$Entry" "leaves" "Z" ∈ lw_g := lw_in 108 rfl (by decide +kernel)
theorem l_She_56 : Cond.fieldLink "NameRoom$Shelf" 56 "NameRoom$Entry" "leaves" "Z" ∈ lw_g := lw_in 109 rfl (by decide +kernel)
theorem l_She_11 : Cond.fieldLink "NameRoom$Shelf" 11 "NameRoom$Shelf" "entries" "[LNameRoom$Entry;" ∈ lw_g := lw_in 121 rfl (by decide +kernel)
theorem l_She_18 : Cond.fieldLink "NameRoom$Shelf" 18 "NameRoom$Shelf" "size" "I" ∈ lw_g := lw_in 122 rfl (by decide +kernel)
theorem l_Nam_92 : Cond.fieldLink "NameRoom" 92 "NameRoom$Shelf" "size" "I" ∈ lw_g := lw_in 123 rfl (by decide +kernel)
theorem lc_Nam_50 : Cond.classLink "NameRoom" 50 "NameRoom$Pools" ∈ lw_g := lw_in 129 rfl (by decide +kernel)
theorem l_Nam_52 : Cond.methodLink "NameRoom" 52 ⟨"NameRoom$Pools", "<init>", "()V"⟩ ∈ lw_g := lw_in 131 rfl (by decide +kernel)
theorem l_Poo_3 : Cond.methodLink "NameRoom$Pools" 3 ⟨"java/lang/Object", "<init>", "()V"⟩ ∈ lw_g := lw_in 134 rfl (by decide +kernel)
theorem lc_Poo_9 : Cond.classLink "NameRoom$Pools" 9 "NameRoom$Sight" ∈ lw_g := lw_in 135 rfl (by decide +kernel)
theorem l_Poo_17 : Cond.methodLink "NameRoom$Pools" 17 ⟨"NameRoom$Sight", "<init>", "()V"⟩ ∈ lw_g := lw_in 138 rfl (by decide +kernel)
theorem l_Sig_3 : Cond.methodLink "NameRoom$Sight" 3 ⟨"java/lang/Object", "<init>", "()V"⟩ ∈ lw_g := lw_in 141 rfl (by decide +kernel)
theorem lc_Sig_9 : Cond.classLink "NameRoom$Sight" 9 "NameRoom$Row" ∈ lw_g := lw_in 142 rfl (by decide +kernel)
theorem l_Sig_11 : Cond.methodLink "NameRoom$Sight" 11 ⟨"NameRoom$Row", "<init>", "(I)V"⟩ ∈ lw_g := lw_in 143 rfl (by decide +kernel)
theorem l_Sig_14 : Cond.fieldLink "NameRoom$Sight" 14 "NameRoom$Sight" "title" "LNameRoom$Row;" ∈ lw_g := lw_in 144 rfl (by decide +kernel)
theorem l_Poo_45 : Cond.fieldLink "NameRoom$Pools" 45 "NameRoom$Sight" "title" "LNameRoom$Row;" ∈ lw_g := lw_in 145 rfl (by decide +kernel)
theorem l_Sig_20 : Cond.fieldLink "NameRoom$Sight" 20 "NameRoom$Sight" "pool" "I" ∈ lw_g := lw_in 146 rfl (by decide +kernel)
theorem l_Poo_35 : Cond.fieldLink "NameRoom$Pools" 35 "NameRoom$Sight" "pool" "I" ∈ lw_g := lw_in 147 rfl (by decide +kernel)
theorem l_Sig_24 : Cond.fieldLink "NameRoom$Sight" 24 "NameRoom$Sight" "withTails" "Z" ∈ lw_g := lw_in 148 rfl (by decide +kernel)
theorem l_Poo_62 : Cond.fieldLink "NameRoom$Pools" 62 "NameRoom$Sight" "withTails" "Z" ∈ lw_g := lw_in 149 rfl (by decide +kernel)
theorem l_Poo_11 : Cond.fieldLink "NameRoom$Pools" 11 "NameRoom$Pools" "sights" "[LNameRoom$Sight;" ∈ lw_g := lw_in 157 rfl (by decide +kernel)
theorem l_Poo_18 : Cond.fieldLink "NameRoom$Pools" 18 "NameRoom$Pools" "size" "I" ∈ lw_g := lw_in 158 rfl (by decide +kernel)
theorem l_Poo_22 : Cond.fieldLink "NameRoom$Pools" 22 "NameRoom$Pools" "depth" "I" ∈ lw_g := lw_in 159 rfl (by decide +kernel)
theorem l_Nam_122 : Cond.fieldLink "NameRoom" 122 "NameRoom$Pools" "depth" "I" ∈ lw_g := lw_in 160 rfl (by decide +kernel)
theorem lc_Nam_57 : Cond.classLink "NameRoom" 57 "NameRoom$Cutter" ∈ lw_g := lw_in 168 rfl (by decide +kernel)
theorem l_Nam_59 : Cond.methodLink "NameRoom" 59 ⟨"NameRoom$Cutter", "<init>", "()V"⟩ ∈ lw_g := lw_in 170 rfl (by decide +kernel)
theorem l_Cut_3 : Cond.methodLink "NameRoom$Cutter" 3 ⟨"java/lang/Object", "<init>", "()V"⟩ ∈ lw_g := lw_in 173 rfl (by decide +kernel)
theorem lc_Cut_9 : Cond.classLink "NameRoom$Cutter" 9 "NameRoom$Row" ∈ lw_g := lw_in 174 rfl (by decide +kernel)
theorem l_Cut_11 : Cond.methodLink "NameRoom$Cutter" 11 ⟨"NameRoom$Row", "<init>", "(I)V"⟩ ∈ lw_g := lw_in 175 rfl (by decide +kernel)
theorem l_Cut_14 : Cond.fieldLink "NameRoom$Cutter" 14 "NameRoom$Cutter" "subject" "LNameRoom$Row;" ∈ lw_g := lw_in 176 rfl (by decide +kernel)
theorem l_Nam_177 : Cond.fieldLink "NameRoom" 177 "NameRoom$Cutter" "subject" "LNameRoom$Row;" ∈ lw_g := lw_in 177 rfl (by decide +kernel)
theorem l_Cut_20 : Cond.fieldLink "NameRoom$Cutter" 20 "NameRoom$Cutter" "from" "I" ∈ lw_g := lw_in 178 rfl (by decide +kernel)
theorem l_Nam_180 : Cond.fieldLink "NameRoom" 180 "NameRoom$Cutter" "from" "I" ∈ lw_g := lw_in 179 rfl (by decide +kernel)
theorem l_Cut_24 : Cond.fieldLink "NameRoom$Cutter" 24 "NameRoom$Cutter" "began" "I" ∈ lw_g := lw_in 180 rfl (by decide +kernel)
theorem l_Nam_183 : Cond.fieldLink "NameRoom" 183 "NameRoom$Cutter" "began" "I" ∈ lw_g := lw_in 181 rfl (by decide +kernel)
theorem l_Cut_33 : Cond.fieldLink "NameRoom$Cutter" 33 "NameRoom$Cutter" "shareFrom" "I" ∈ lw_g := lw_in 182 rfl (by decide +kernel)
theorem l_Nam_275 : Cond.fieldLink "NameRoom" 275 "NameRoom$Cutter" "shareFrom" "I" ∈ lw_g := lw_in 183 rfl (by decide +kernel)
theorem l_Cut_36 : Cond.fieldLink "NameRoom$Cutter" 36 "NameRoom$Cutter" "shareTo" "I" ∈ lw_g := lw_in 184 rfl (by decide +kernel)
theorem l_Nam_278 : Cond.fieldLink "NameRoom" 278 "NameRoom$Cutter" "shareTo" "I" ∈ lw_g := lw_in 185 rfl (by decide +kernel)
theorem l_Cut_27 : Cond.fieldLink "NameRoom$Cutter" 27 "NameRoom$Cutter" "partFrom" "I" ∈ lw_g := lw_in 186 rfl (by decide +kernel)
theorem l_Cut_30 : Cond.fieldLink "NameRoom$Cutter" 30 "NameRoom$Cutter" "partTo" "I" ∈ lw_g := lw_in 187 rfl (by decide +kernel)
theorem l_Nam_20 : Cond.fieldLink "NameRoom" 20 "NameRoom" "tape" "LNameRoom$Row;" ∈ lw_g := lw_in 203 rfl (by decide +kernel)
theorem l_Nam_28 : Cond.fieldLink "NameRoom" 28 "NameRoom" "written" "LNameRoom$Row;" ∈ lw_g := lw_in 204 rfl (by decide +kernel)
theorem l_Nam_31 : Cond.fieldLink "NameRoom" 31 "NameRoom" "full" "LNameRoom$Row;" ∈ lw_g := lw_in 205 rfl (by decide +kernel)
theorem l_Nam_34 : Cond.fieldLink "NameRoom" 34 "NameRoom" "stem" "LNameRoom$Row;" ∈ lw_g := lw_in 206 rfl (by decide +kernel)
theorem l_Nam_37 : Cond.fieldLink "NameRoom" 37 "NameRoom" "tail" "LNameRoom$Row;" ∈ lw_g := lw_in 207 rfl (by decide +kernel)
theorem l_Nam_40 : Cond.fieldLink "NameRoom" 40 "NameRoom" "pattern" "LNameRoom$Row;" ∈ lw_g := lw_in 208 rfl (by decide +kernel)
theorem l_Nam_10 : Cond.fieldLink "NameRoom" 10 "NameRoom" "reader" "LNameRoom$Reader;" ∈ lw_g := lw_in 209 rfl (by decide +kernel)
theorem l_Nam_46 : Cond.fieldLink "NameRoom" 46 "NameRoom" "shelf" "LNameRoom$Shelf;" ∈ lw_g := lw_in 210 rfl (by decide +kernel)
theorem l_Nam_53 : Cond.fieldLink "NameRoom" 53 "NameRoom" "pools" "LNameRoom$Pools;" ∈ lw_g := lw_in 211 rfl (by decide +kernel)
theorem l_Nam_60 : Cond.fieldLink "NameRoom" 60 "NameRoom" "cutter" "LNameRoom$Cutter;" ∈ lw_g := lw_in 212 rfl (by decide +kernel)
theorem l_Law_13 : Cond.methodLink "NameRoomLaw" 13 ⟨"NameRoom", "feed", "(IIIII)I"⟩ ∈ lw_g := lw_in 234 rfl (by decide +kernel)
theorem l_Nam_68 : Cond.methodLink "NameRoom" 68 ⟨"NameRoom$Row", "addInt", "(I)V"⟩ ∈ lw_g := lw_in 238 rfl (by decide +kernel)
theorem l_Row_25 : Cond.methodLink "NameRoom$Row" 25 ⟨"NameRoom$Row", "add", "(I)Z"⟩ ∈ lw_g := lw_in 242 rfl (by decide +kernel)
theorem l_Law_18 : Cond.methodLink "NameRoomLaw" 18 ⟨"NameRoom", "end", "(I)I"⟩ ∈ lw_g := lw_in 246 rfl (by decide +kernel)
theorem l_Law_23 : Cond.methodLink "NameRoomLaw" 23 ⟨"NameRoom", "out", "(I)I"⟩ ∈ lw_g := lw_in 250 rfl (by decide +kernel)
theorem l_Nam_71 : Cond.methodLink "NameRoom" 71 ⟨"NameRoom$Row", "at", "(I)I"⟩ ∈ lw_g := lw_in 254 rfl (by decide +kernel)
theorem l_Law_27 : Cond.methodLink "NameRoomLaw" 27 ⟨"NameRoom", "set", "()I"⟩ ∈ lw_g := lw_in 258 rfl (by decide +kernel)
theorem l_Nam_75 : Cond.methodLink "NameRoom" 75 ⟨"NameRoom$Reader", "readGift", "()I"⟩ ∈ lw_g := lw_in 262 rfl (by decide +kernel)
theorem l_Rea_62 : Cond.methodLink "NameRoom$Reader" 62 ⟨"NameRoom$Reader", "begin", "()V"⟩ ∈ lw_g := lw_in 266 rfl (by decide +kernel)
theorem l_Rea_65 : Cond.methodLink "NameRoom$Reader" 65 ⟨"NameRoom$Reader", "readVariable", "(I)V"⟩ ∈ lw_g := lw_in 270 rfl (by decide +kernel)
theorem l_Rea_53 : Cond.methodLink "NameRoom$Reader" 53 ⟨"NameRoom$Row", "at", "(I)I"⟩ ∈ lw_g := lw_in 274 rfl (by decide +kernel)
theorem l_Nam_210 : Cond.methodLink "NameRoom" 210 ⟨"NameRoom", "isDigit", "(I)Z"⟩ ∈ lw_g := lw_in 278 rfl (by decide +kernel)
theorem l_Rea_71 : Cond.methodLink "NameRoom$Reader" 71 ⟨"NameRoom$Reader", "fail", "(I)V"⟩ ∈ lw_g := lw_in 282 rfl (by decide +kernel)
theorem l_Rea_98 : Cond.methodLink "NameRoom$Reader" 98 ⟨"NameRoom$Reader", "add", "(III)V"⟩ ∈ lw_g := lw_in 286 rfl (by decide +kernel)
theorem l_Nam_79 : Cond.methodLink "NameRoom" 79 ⟨"NameRoom", "workOut", "(I)Z"⟩ ∈ lw_g := lw_in 290 rfl (by decide +kernel)
theorem l_Nam_189 : Cond.methodLink "NameRoom" 189 ⟨"NameRoom$Reader", "startOf", "(I)I"⟩ ∈ lw_g := lw_in 294 rfl (by decide +kernel)
theorem l_Nam_192 : Cond.methodLink "NameRoom" 192 ⟨"NameRoom$Reader", "stopOf", "(I)I"⟩ ∈ lw_g := lw_in 298 rfl (by decide +kernel)
theorem l_Nam_89 : Cond.methodLink "NameRoom" 89 ⟨"NameRoom$Row", "clear", "()V"⟩ ∈ lw_g := lw_in 302 rfl (by decide +kernel)
theorem l_Nam_195 : Cond.methodLink "NameRoom" 195 ⟨"NameRoom$Row", "dotFrom", "(II)I"⟩ ∈ lw_g := lw_in 306 rfl (by decide +kernel)
theorem l_Nam_199 : Cond.methodLink "NameRoom" 199 ⟨"NameRoom$Row", "addCapitals", "(LNameRoom$Row;II)Z"⟩ ∈ lw_g := lw_in 310 rfl (by decide +kernel)
theorem l_Row_35 : Cond.methodLink "NameRoom$Row" 35 ⟨"NameRoom$Row", "at", "(I)I"⟩ ∈ lw_g := lw_in 314 rfl (by decide +kernel)
theorem l_Nam_203 : Cond.methodLink "NameRoom" 203 ⟨"NameRoom", "addTail", "(II)Z"⟩ ∈ lw_g := lw_in 318 rfl (by decide +kernel)
theorem l_Nam_128 : Cond.methodLink "NameRoom" 128 ⟨"NameRoom$Pools", "innermost", "()I"⟩ ∈ lw_g := lw_in 322 rfl (by decide +kernel)
theorem l_Nam_213 : Cond.methodLink "NameRoom" 213 ⟨"NameRoom$Pools", "owner", "(LNameRoom$Row;I)I"⟩ ∈ lw_g := lw_in 326 rfl (by decide +kernel)
theorem l_Poo_29 : Cond.methodLink "NameRoom$Pools" 29 ⟨"java/lang/Math", "min", "(II)I"⟩ ∈ lw_g := lw_in 330 rfl (by decide +kernel)
theorem l_Poo_38 : Cond.methodLink "NameRoom$Pools" 38 ⟨"NameRoom$Sight", "holds", "(LNameRoom$Row;)Z"⟩ ∈ lw_g := lw_in 333 rfl (by decide +kernel)
theorem l_Sig_31 : Cond.methodLink "NameRoom$Sight" 31 ⟨"NameRoom$Row", "beginsWith", "(LNameRoom$Row;)Z"⟩ ∈ lw_g := lw_in 337 rfl (by decide +kernel)
theorem l_Nam_217 : Cond.methodLink "NameRoom" 217 ⟨"NameRoom$Shelf", "find", "(LNameRoom$Row;I)LNameRoom$Entry;"⟩ ∈ lw_g := lw_in 341 rfl (by decide +kernel)
theorem l_She_34 : Cond.methodLink "NameRoom$Shelf" 34 ⟨"NameRoom$Row", "beginsWith", "(LNameRoom$Row;)Z"⟩ ∈ lw_g := lw_in 345 rfl (by decide +kernel)
theorem l_Nam_221 : Cond.methodLink "NameRoom" 221 ⟨"NameRoom$Row", "addPart", "(LNameRoom$Row;II)Z"⟩ ∈ lw_g := lw_in 346 rfl (by decide +kernel)
theorem l_Row_29 : Cond.methodLink "NameRoom$Row" 29 ⟨"java/lang/System", "arraycopy", "(Ljava/lang/Object;ILjava/lang/Object;II)V"⟩ ∈ lw_g := lw_in 350 rfl (by decide +kernel)
theorem l_Nam_207 : Cond.methodLink "NameRoom" 207 ⟨"NameRoom$Row", "add", "(I)Z"⟩ ∈ lw_g := lw_in 353 rfl (by decide +kernel)
theorem l_Nam_85 : Cond.methodLink "NameRoom" 85 ⟨"NameRoom", "give", "(LNameRoom$Row;II)I"⟩ ∈ lw_g := lw_in 354 rfl (by decide +kernel)
theorem l_Nam_231 : Cond.methodLink "NameRoom" 231 ⟨"NameRoom$Row", "isStem", "()Z"⟩ ∈ lw_g := lw_in 358 rfl (by decide +kernel)
theorem l_Row_46 : Cond.methodLink "NameRoom$Row" 46 ⟨"NameRoom$Row", "dotFrom", "(II)I"⟩ ∈ lw_g := lw_in 362 rfl (by decide +kernel)
theorem l_Nam_234 : Cond.methodLink "NameRoom" 234 ⟨"NameRoom$Shelf", "clearBehind", "(LNameRoom$Row;I)V"⟩ ∈ lw_g := lw_in 363 rfl (by decide +kernel)
theorem l_She_59 : Cond.methodLink "NameRoom$Shelf" 59 ⟨"NameRoom$Shelf", "sweep", "()V"⟩ ∈ lw_g := lw_in 367 rfl (by decide +kernel)
theorem l_Nam_238 : Cond.methodLink "NameRoom" 238 ⟨"NameRoom$Shelf", "findOrAdd", "(LNameRoom$Row;I)LNameRoom$Entry;"⟩ ∈ lw_g := lw_in 371 rfl (by decide +kernel)
theorem l_She_38 : Cond.methodLink "NameRoom$Shelf" 38 ⟨"NameRoom$Shelf", "find", "(LNameRoom$Row;I)LNameRoom$Entry;"⟩ ∈ lw_g := lw_in 375 rfl (by decide +kernel)
theorem l_She_42 : Cond.methodLink "NameRoom$Shelf" 42 ⟨"NameRoom$Row", "become", "(LNameRoom$Row;)V"⟩ ∈ lw_g := lw_in 376 rfl (by decide +kernel)
theorem l_Row_42 : Cond.methodLink "NameRoom$Row" 42 ⟨"NameRoom$Row", "addPart", "(LNameRoom$Row;II)Z"⟩ ∈ lw_g := lw_in 380 rfl (by decide +kernel)
theorem l_She_49 : Cond.methodLink "NameRoom$Shelf" 49 ⟨"NameRoom$Row", "clear", "()V"⟩ ∈ lw_g := lw_in 381 rfl (by decide +kernel)
theorem l_Law_32 : Cond.methodLink "NameRoomLaw" 32 ⟨"NameRoom", "get", "()I"⟩ ∈ lw_g := lw_in 382 rfl (by decide +kernel)
theorem l_Nam_95 : Cond.methodLink "NameRoom" 95 ⟨"NameRoom", "workOutAlone", "()I"⟩ ∈ lw_g := lw_in 386 rfl (by decide +kernel)
theorem l_Nam_186 : Cond.methodLink "NameRoom" 186 ⟨"NameRoom$Reader", "readAlone", "()I"⟩ ∈ lw_g := lw_in 390 rfl (by decide +kernel)
theorem l_Nam_98 : Cond.methodLink "NameRoom" 98 ⟨"NameRoom", "told", "()LNameRoom$Entry;"⟩ ∈ lw_g := lw_in 394 rfl (by decide +kernel)
theorem l_Nam_224 : Cond.methodLink "NameRoom" 224 ⟨"NameRoom", "stemOf", "(I)LNameRoom$Entry;"⟩ ∈ lw_g := lw_in 398 rfl (by decide +kernel)
theorem l_Nam_227 : Cond.methodLink "NameRoom" 227 ⟨"NameRoom$Row", "isCompound", "()Z"⟩ ∈ lw_g := lw_in 402 rfl (by decide +kernel)
theorem l_Nam_102 : Cond.methodLink "NameRoom" 102 ⟨"NameRoom", "textOf", "(LNameRoom$Entry;)LNameRoom$Row;"⟩ ∈ lw_g := lw_in 406 rfl (by decide +kernel)
theorem l_Nam_106 : Cond.methodLink "NameRoom" 106 ⟨"NameRoom$Row", "become", "(LNameRoom$Row;)V"⟩ ∈ lw_g := lw_in 410 rfl (by decide +kernel)
theorem l_Law_36 : Cond.methodLink "NameRoomLaw" 36 ⟨"NameRoom", "known", "()I"⟩ ∈ lw_g := lw_in 411 rfl (by decide +kernel)
theorem l_Law_40 : Cond.methodLink "NameRoomLaw" 40 ⟨"NameRoom", "drop", "()I"⟩ ∈ lw_g := lw_in 415 rfl (by decide +kernel)
theorem l_Nam_115 : Cond.methodLink "NameRoom" 115 ⟨"NameRoom$Reader", "readVariables", "(I)I"⟩ ∈ lw_g := lw_in 419 rfl (by decide +kernel)
theorem l_Nam_119 : Cond.methodLink "NameRoom" 119 ⟨"NameRoom", "takeBack", "()I"⟩ ∈ lw_g := lw_in 423 rfl (by decide +kernel)
theorem l_Nam_241 : Cond.methodLink "NameRoom" 241 ⟨"NameRoom$Shelf", "remove", "(LNameRoom$Row;I)V"⟩ ∈ lw_g := lw_in 427 rfl (by decide +kernel)
theorem l_Law_44 : Cond.methodLink "NameRoomLaw" 44 ⟨"NameRoom", "open", "()I"⟩ ∈ lw_g := lw_in 431 rfl (by decide +kernel)
theorem l_Nam_125 : Cond.methodLink "NameRoom" 125 ⟨"NameRoom", "enterPool", "()I"⟩ ∈ lw_g := lw_in 435 rfl (by decide +kernel)
theorem l_Nam_244 : Cond.methodLink "NameRoom" 244 ⟨"NameRoom$Pools", "enter", "()V"⟩ ∈ lw_g := lw_in 439 rfl (by decide +kernel)
theorem l_Nam_134 : Cond.methodLink "NameRoom" 134 ⟨"NameRoom$Pools", "leave", "()V"⟩ ∈ lw_g := lw_in 443 rfl (by decide +kernel)
theorem l_Poo_25 : Cond.methodLink "NameRoom$Pools" 25 ⟨"NameRoom$Pools", "seenByInnermost", "()I"⟩ ∈ lw_g := lw_in 447 rfl (by decide +kernel)
theorem l_Poo_55 : Cond.methodLink "NameRoom$Pools" 55 ⟨"NameRoom$Pools", "innermost", "()I"⟩ ∈ lw_g := lw_in 451 rfl (by decide +kernel)
theorem l_Nam_247 : Cond.methodLink "NameRoom" 247 ⟨"NameRoom$Pools", "see", "(LNameRoom$Row;)V"⟩ ∈ lw_g := lw_in 452 rfl (by decide +kernel)
theorem l_Poo_42 : Cond.methodLink "NameRoom$Pools" 42 ⟨"NameRoom$Pools", "sees", "(LNameRoom$Row;)Z"⟩ ∈ lw_g := lw_in 456 rfl (by decide +kernel)
theorem l_Poo_69 : Cond.methodLink "NameRoom$Pools" 69 ⟨"NameRoom$Row", "beginsWith", "(LNameRoom$Row;)Z"⟩ ∈ lw_g := lw_in 460 rfl (by decide +kernel)
theorem l_Poo_49 : Cond.methodLink "NameRoom$Pools" 49 ⟨"NameRoom$Row", "become", "(LNameRoom$Row;)V"⟩ ∈ lw_g := lw_in 461 rfl (by decide +kernel)
theorem l_Poo_58 : Cond.methodLink "NameRoom$Pools" 58 ⟨"NameRoom$Row", "isStem", "()Z"⟩ ∈ lw_g := lw_in 462 rfl (by decide +kernel)
theorem l_Law_48 : Cond.methodLink "NameRoomLaw" 48 ⟨"NameRoom", "close", "()I"⟩ ∈ lw_g := lw_in 463 rfl (by decide +kernel)
theorem l_Nam_131 : Cond.methodLink "NameRoom" 131 ⟨"NameRoom$Shelf", "clearPool", "(I)V"⟩ ∈ lw_g := lw_in 467 rfl (by decide +kernel)
theorem l_Law_52 : Cond.methodLink "NameRoomLaw" 52 ⟨"NameRoom", "subject", "(Z)I"⟩ ∈ lw_g := lw_in 471 rfl (by decide +kernel)
theorem l_Nam_137 : Cond.methodLink "NameRoom" 137 ⟨"NameRoom$Cutter", "take", "(LNameRoom$Row;Z)V"⟩ ∈ lw_g := lw_in 475 rfl (by decide +kernel)
theorem l_Cut_39 : Cond.methodLink "NameRoom$Cutter" 39 ⟨"NameRoom$Row", "clear", "()V"⟩ ∈ lw_g := lw_in 479 rfl (by decide +kernel)
theorem l_Cut_45 : Cond.methodLink "NameRoom$Cutter" 45 ⟨"NameRoom$Row", "addCapitals", "(LNameRoom$Row;II)Z"⟩ ∈ lw_g := lw_in 480 rfl (by decide +kernel)
theorem l_Cut_49 : Cond.methodLink "NameRoom$Cutter" 49 ⟨"NameRoom$Row", "addPart", "(LNameRoom$Row;II)Z"⟩ ∈ lw_g := lw_in 481 rfl (by decide +kernel)
theorem l_Law_57 : Cond.methodLink "NameRoomLaw" 57 ⟨"NameRoom", "parse", "()I"⟩ ∈ lw_g := lw_in 482 rfl (by decide +kernel)
theorem l_Nam_141 : Cond.methodLink "NameRoom" 141 ⟨"NameRoom$Reader", "readTemplate", "()I"⟩ ∈ lw_g := lw_in 486 rfl (by decide +kernel)
theorem l_Rea_74 : Cond.methodLink "NameRoom$Reader" 74 ⟨"NameRoom$Reader", "readToken", "()V"⟩ ∈ lw_g := lw_in 490 rfl (by decide +kernel)
theorem l_Rea_77 : Cond.methodLink "NameRoom$Reader" 77 ⟨"NameRoom$Reader", "readString", "(I)V"⟩ ∈ lw_g := lw_in 494 rfl (by decide +kernel)
theorem l_Rea_80 : Cond.methodLink "NameRoom$Reader" 80 ⟨"NameRoom$Reader", "readBracket", "()V"⟩ ∈ lw_g := lw_in 498 rfl (by decide +kernel)
theorem l_Rea_101 : Cond.methodLink "NameRoom$Reader" 101 ⟨"NameRoom$Reader", "skipBlanks", "()V"⟩ ∈ lw_g := lw_in 502 rfl (by decide +kernel)
theorem l_Rea_83 : Cond.methodLink "NameRoom$Reader" 83 ⟨"NameRoom$Reader", "readSignedPlace", "(I)V"⟩ ∈ lw_g := lw_in 506 rfl (by decide +kernel)
theorem l_Rea_92 : Cond.methodLink "NameRoom$Reader" 92 ⟨"NameRoom$Reader", "readPlace", "(I)V"⟩ ∈ lw_g := lw_in 510 rfl (by decide +kernel)
theorem l_Rea_86 : Cond.methodLink "NameRoom$Reader" 86 ⟨"NameRoom$Reader", "readBareToken", "(I)V"⟩ ∈ lw_g := lw_in 514 rfl (by decide +kernel)
theorem l_Nam_144 : Cond.methodLink "NameRoom" 144 ⟨"NameRoom$Cutter", "begin", "()V"⟩ ∈ lw_g := lw_in 518 rfl (by decide +kernel)
theorem l_Nam_147 : Cond.methodLink "NameRoom" 147 ⟨"NameRoom$Reader", "isTarget", "(I)Z"⟩ ∈ lw_g := lw_in 522 rfl (by decide +kernel)
theorem l_Rea_43 : Cond.methodLink "NameRoom$Reader" 43 ⟨"NameRoom$Reader", "kindOf", "(I)I"⟩ ∈ lw_g := lw_in 526 rfl (by decide +kernel)
theorem l_Nam_150 : Cond.methodLink "NameRoom" 150 ⟨"NameRoom", "cutAt", "(I)I"⟩ ∈ lw_g := lw_in 530 rfl (by decide +kernel)
theorem l_Nam_250 : Cond.methodLink "NameRoom" 250 ⟨"NameRoom$Reader", "kindOf", "(I)I"⟩ ∈ lw_g := lw_in 534 rfl (by decide +kernel)
theorem l_Nam_253 : Cond.methodLink "NameRoom" 253 ⟨"NameRoom$Reader", "copyString", "(ILNameRoom$Row;)V"⟩ ∈ lw_g := lw_in 535 rfl (by decide +kernel)
theorem l_Rea_55 : Cond.methodLink "NameRoom$Reader" 55 ⟨"NameRoom$Row", "clear", "()V"⟩ ∈ lw_g := lw_in 539 rfl (by decide +kernel)
theorem l_Rea_47 : Cond.methodLink "NameRoom$Reader" 47 ⟨"NameRoom$Reader", "startOf", "(I)I"⟩ ∈ lw_g := lw_in 540 rfl (by decide +kernel)
theorem l_Rea_50 : Cond.methodLink "NameRoom$Reader" 50 ⟨"NameRoom$Reader", "stopOf", "(I)I"⟩ ∈ lw_g := lw_in 541 rfl (by decide +kernel)
theorem l_Rea_58 : Cond.methodLink "NameRoom$Reader" 58 ⟨"NameRoom$Row", "add", "(I)Z"⟩ ∈ lw_g := lw_in 542 rfl (by decide +kernel)
theorem l_Nam_257 : Cond.methodLink "NameRoom" 257 ⟨"NameRoom$Cutter", "cutAtPattern", "(LNameRoom$Row;)V"⟩ ∈ lw_g := lw_in 543 rfl (by decide +kernel)
theorem l_Cut_52 : Cond.methodLink "NameRoom$Cutter" 52 ⟨"NameRoom$Cutter", "placeOf", "(LNameRoom$Row;)I"⟩ ∈ lw_g := lw_in 547 rfl (by decide +kernel)
theorem l_Cut_62 : Cond.methodLink "NameRoom$Cutter" 62 ⟨"NameRoom$Row", "standsAt", "(ILNameRoom$Row;)Z"⟩ ∈ lw_g := lw_in 551 rfl (by decide +kernel)
theorem l_Cut_56 : Cond.methodLink "NameRoom$Cutter" 56 ⟨"java/lang/Math", "min", "(II)I"⟩ ∈ lw_g := lw_in 555 rfl (by decide +kernel)
theorem l_Nam_260 : Cond.methodLink "NameRoom" 260 ⟨"NameRoom$Reader", "numberOf", "(I)I"⟩ ∈ lw_g := lw_in 556 rfl (by decide +kernel)
theorem l_Nam_263 : Cond.methodLink "NameRoom" 263 ⟨"NameRoom$Cutter", "cutAtPlace", "(I)V"⟩ ∈ lw_g := lw_in 560 rfl (by decide +kernel)
theorem l_Cut_66 : Cond.methodLink "NameRoom$Cutter" 66 ⟨"java/lang/Math", "max", "(II)I"⟩ ∈ lw_g := lw_in 564 rfl (by decide +kernel)
theorem l_Nam_266 : Cond.methodLink "NameRoom" 266 ⟨"NameRoom$Cutter", "cutAtEnd", "()V"⟩ ∈ lw_g := lw_in 565 rfl (by decide +kernel)
theorem l_Nam_153 : Cond.methodLink "NameRoom" 153 ⟨"NameRoom", "handOver", "(IZ)I"⟩ ∈ lw_g := lw_in 569 rfl (by decide +kernel)
theorem l_Nam_269 : Cond.methodLink "NameRoom" 269 ⟨"NameRoom$Cutter", "takeRest", "()V"⟩ ∈ lw_g := lw_in 573 rfl (by decide +kernel)
theorem l_Nam_272 : Cond.methodLink "NameRoom" 272 ⟨"NameRoom$Cutter", "takeWord", "()V"⟩ ∈ lw_g := lw_in 577 rfl (by decide +kernel)
theorem l_Cut_69 : Cond.methodLink "NameRoom$Cutter" 69 ⟨"NameRoom$Row", "at", "(I)I"⟩ ∈ lw_g := lw_in 581 rfl (by decide +kernel)
theorem l_Law_61 : Cond.methodLink "NameRoomLaw" 61 ⟨"NameRoom", "name", "(I)I"⟩ ∈ lw_g := lw_in 582 rfl (by decide +kernel)
theorem l_Nam_160 : Cond.methodLink "NameRoom" 160 ⟨"NameRoom$Shelf", "entryAt", "(I)LNameRoom$Entry;"⟩ ∈ lw_g := lw_in 586 rfl (by decide +kernel)
theorem l_Law_65 : Cond.methodLink "NameRoomLaw" 65 ⟨"NameRoom", "value", "(I)I"⟩ ∈ lw_g := lw_in 590 rfl (by decide +kernel)
theorem l_Law_69 : Cond.methodLink "NameRoomLaw" 69 ⟨"NameRoom", "count", "(I)I"⟩ ∈ lw_g := lw_in 594 rfl (by decide +kernel)
theorem l_Nam_174 : Cond.methodLink "NameRoom" 174 ⟨"NameRoom$Pools", "seenByInnermost", "()I"⟩ ∈ lw_g := lw_in 598 rfl (by decide +kernel)
theorem lc_Law_10 : Cond.classLink "NameRoomLaw" 10 "NameRoomModel" ∈ lw_g := lw_in 599 rfl (by decide +kernel)
theorem l_Law_12 : Cond.methodLink "NameRoomLaw" 12 ⟨"NameRoomModel", "<init>", "()V"⟩ ∈ lw_g := lw_in 601 rfl (by decide +kernel)
theorem l_Mod_1 : Cond.methodLink "NameRoomModel" 1 ⟨"java/lang/Object", "<init>", "()V"⟩ ∈ lw_g := lw_in 604 rfl (by decide +kernel)
theorem l_Mod_7 : Cond.fieldLink "NameRoomModel" 7 "NameRoomModel" "tape" "[I" ∈ lw_g := lw_in 605 rfl (by decide +kernel)
theorem l_Mod_13 : Cond.fieldLink "NameRoomModel" 13 "NameRoomModel" "text" "[I" ∈ lw_g := lw_in 606 rfl (by decide +kernel)
theorem l_Mod_16 : Cond.fieldLink "NameRoomModel" 16 "NameRoomModel" "out" "[I" ∈ lw_g := lw_in 607 rfl (by decide +kernel)
theorem l_Mod_19 : Cond.fieldLink "NameRoomModel" 19 "NameRoomModel" "full" "[I" ∈ lw_g := lw_in 608 rfl (by decide +kernel)
theorem l_Mod_62 : Cond.fieldLink "NameRoomModel" 62 "NameRoomModel" "taped" "I" ∈ lw_g := lw_in 609 rfl (by decide +kernel)
theorem l_Mod_72 : Cond.fieldLink "NameRoomModel" 72 "NameRoomModel" "size" "I" ∈ lw_g := lw_in 610 rfl (by decide +kernel)
theorem l_Mod_69 : Cond.fieldLink "NameRoomModel" 69 "NameRoomModel" "written" "I" ∈ lw_g := lw_in 611 rfl (by decide +kernel)
theorem l_Mod_95 : Cond.fieldLink "NameRoomModel" 95 "NameRoomModel" "length" "I" ∈ lw_g := lw_in 612 rfl (by decide +kernel)
theorem l_Mod_22 : Cond.fieldLink "NameRoomModel" 22 "NameRoomModel" "names" "[I" ∈ lw_g := lw_in 613 rfl (by decide +kernel)
theorem l_Mod_25 : Cond.fieldLink "NameRoomModel" 25 "NameRoomModel" "nameSize" "[I" ∈ lw_g := lw_in 614 rfl (by decide +kernel)
theorem l_Mod_28 : Cond.fieldLink "NameRoomModel" 28 "NameRoomModel" "values" "[I" ∈ lw_g := lw_in 615 rfl (by decide +kernel)
theorem l_Mod_31 : Cond.fieldLink "NameRoomModel" 31 "NameRoomModel" "valueSize" "[I" ∈ lw_g := lw_in 616 rfl (by decide +kernel)
theorem l_Mod_34 : Cond.fieldLink "NameRoomModel" 34 "NameRoomModel" "pools" "[I" ∈ lw_g := lw_in 617 rfl (by decide +kernel)
theorem l_Mod_105 : Cond.fieldLink "NameRoomModel" 105 "NameRoomModel" "many" "I" ∈ lw_g := lw_in 618 rfl (by decide +kernel)
theorem l_Mod_37 : Cond.fieldLink "NameRoomModel" 37 "NameRoomModel" "seen" "[I" ∈ lw_g := lw_in 619 rfl (by decide +kernel)
theorem l_Mod_40 : Cond.fieldLink "NameRoomModel" 40 "NameRoomModel" "seenSize" "[I" ∈ lw_g := lw_in 620 rfl (by decide +kernel)
theorem l_Mod_43 : Cond.fieldLink "NameRoomModel" 43 "NameRoomModel" "sees" "[I" ∈ lw_g := lw_in 621 rfl (by decide +kernel)
theorem l_Mod_108 : Cond.fieldLink "NameRoomModel" 108 "NameRoomModel" "pool" "I" ∈ lw_g := lw_in 622 rfl (by decide +kernel)
theorem l_Mod_46 : Cond.fieldLink "NameRoomModel" 46 "NameRoomModel" "subject" "[I" ∈ lw_g := lw_in 623 rfl (by decide +kernel)
theorem l_Mod_49 : Cond.fieldLink "NameRoomModel" 49 "NameRoomModel" "found" "[I" ∈ lw_g := lw_in 624 rfl (by decide +kernel)
theorem l_Mod_173 : Cond.fieldLink "NameRoomModel" 173 "NameRoomModel" "subjectSize" "I" ∈ lw_g := lw_in 625 rfl (by decide +kernel)
theorem l_Mod_176 : Cond.fieldLink "NameRoomModel" 176 "NameRoomModel" "foundSize" "I" ∈ lw_g := lw_in 626 rfl (by decide +kernel)
theorem l_Mod_52 : Cond.fieldLink "NameRoomModel" 52 "NameRoomModel" "from" "I" ∈ lw_g := lw_in 627 rfl (by decide +kernel)
theorem l_Mod_56 : Cond.fieldLink "NameRoomModel" 56 "NameRoomModel" "began" "I" ∈ lw_g := lw_in 628 rfl (by decide +kernel)
theorem l_Mod_75 : Cond.fieldLink "NameRoomModel" 75 "NameRoomModel" "wrong" "I" ∈ lw_g := lw_in 629 rfl (by decide +kernel)
theorem l_Mod_78 : Cond.fieldLink "NameRoomModel" 78 "NameRoomModel" "next" "I" ∈ lw_g := lw_in 630 rfl (by decide +kernel)
theorem l_Mod_59 : Cond.fieldLink "NameRoomModel" 59 "NameRoomModel" "kept" "[I" ∈ lw_g := lw_in 631 rfl (by decide +kernel)
theorem l_Mod_182 : Cond.fieldLink "NameRoomModel" 182 "NameRoomModel" "kind" "I" ∈ lw_g := lw_in 632 rfl (by decide +kernel)
theorem l_Mod_179 : Cond.fieldLink "NameRoomModel" 179 "NameRoomModel" "first" "I" ∈ lw_g := lw_in 633 rfl (by decide +kernel)
theorem l_Mod_191 : Cond.fieldLink "NameRoomModel" 191 "NameRoomModel" "last" "I" ∈ lw_g := lw_in 634 rfl (by decide +kernel)
theorem l_Mod_197 : Cond.fieldLink "NameRoomModel" 197 "NameRoomModel" "value" "I" ∈ lw_g := lw_in 635 rfl (by decide +kernel)
theorem l_Law_17 : Cond.methodLink "NameRoomLaw" 17 ⟨"NameRoomModel", "feed", "(IIIII)I"⟩ ∈ lw_g := lw_in 699 rfl (by decide +kernel)
theorem l_Mod_65 : Cond.methodLink "NameRoomModel" 65 ⟨"NameRoomModel", "four", "(I)V"⟩ ∈ lw_g := lw_in 703 rfl (by decide +kernel)
theorem l_Law_22 : Cond.methodLink "NameRoomLaw" 22 ⟨"NameRoomModel", "end", "(I)I"⟩ ∈ lw_g := lw_in 707 rfl (by decide +kernel)
theorem l_Law_26 : Cond.methodLink "NameRoomLaw" 26 ⟨"NameRoomModel", "out", "(I)I"⟩ ∈ lw_g := lw_in 711 rfl (by decide +kernel)
theorem l_Law_31 : Cond.methodLink "NameRoomLaw" 31 ⟨"NameRoomModel", "set", "()I"⟩ ∈ lw_g := lw_in 715 rfl (by decide +kernel)
theorem l_Mod_143 : Cond.methodLink "NameRoomModel" 143 ⟨"NameRoomModel", "take", "()V"⟩ ∈ lw_g := lw_in 719 rfl (by decide +kernel)
theorem l_Mod_146 : Cond.methodLink "NameRoomModel" 146 ⟨"NameRoomModel", "variable", "()V"⟩ ∈ lw_g := lw_in 723 rfl (by decide +kernel)
theorem l_Mod_85 : Cond.methodLink "NameRoomModel" 85 ⟨"NameRoomModel", "here", "()I"⟩ ∈ lw_g := lw_in 727 rfl (by decide +kernel)
theorem l_Mod_89 : Cond.methodLink "NameRoomModel" 89 ⟨"NameRoomModel", "isSymbol", "(I)Z"⟩ ∈ lw_g := lw_in 731 rfl (by decide +kernel)
theorem l_Mod_81 : Cond.methodLink "NameRoomModel" 81 ⟨"NameRoomModel", "isDigit", "(I)Z"⟩ ∈ lw_g := lw_in 734 rfl (by decide +kernel)
theorem l_Mod_92 : Cond.methodLink "NameRoomModel" 92 ⟨"NameRoomModel", "fail", "(I)V"⟩ ∈ lw_g := lw_in 737 rfl (by decide +kernel)
theorem l_Mod_149 : Cond.methodLink "NameRoomModel" 149 ⟨"NameRoomModel", "nameOf", "(II)Z"⟩ ∈ lw_g := lw_in 741 rfl (by decide +kernel)
theorem l_Mod_121 : Cond.methodLink "NameRoomModel" 121 ⟨"NameRoomModel", "capital", "(I)I"⟩ ∈ lw_g := lw_in 745 rfl (by decide +kernel)
theorem l_Mod_131 : Cond.methodLink "NameRoomModel" 131 ⟨"NameRoomModel", "told", "(II)I"⟩ ∈ lw_g := lw_in 748 rfl (by decide +kernel)
theorem l_Mod_125 : Cond.methodLink "NameRoomModel" 125 ⟨"NameRoomModel", "add", "(I)V"⟩ ∈ lw_g := lw_in 752 rfl (by decide +kernel)
theorem l_Mod_128 : Cond.methodLink "NameRoomModel" 128 ⟨"NameRoomModel", "tells", "()I"⟩ ∈ lw_g := lw_in 756 rfl (by decide +kernel)
theorem l_Mod_111 : Cond.methodLink "NameRoomModel" 111 ⟨"NameRoomModel", "poolOf", "(II)I"⟩ ∈ lw_g := lw_in 760 rfl (by decide +kernel)
theorem l_Mod_98 : Cond.methodLink "NameRoomModel" 98 ⟨"NameRoomModel", "isStem", "(I)Z"⟩ ∈ lw_g := lw_in 764 rfl (by decide +kernel)
theorem l_Mod_101 : Cond.methodLink "NameRoomModel" 101 ⟨"NameRoomModel", "isAlike", "(II)Z"⟩ ∈ lw_g := lw_in 768 rfl (by decide +kernel)
theorem l_Mod_115 : Cond.methodLink "NameRoomModel" 115 ⟨"NameRoomModel", "entry", "(II)I"⟩ ∈ lw_g := lw_in 772 rfl (by decide +kernel)
theorem l_Mod_118 : Cond.methodLink "NameRoomModel" 118 ⟨"NameRoomModel", "stem", "()I"⟩ ∈ lw_g := lw_in 776 rfl (by decide +kernel)
theorem l_Mod_152 : Cond.methodLink "NameRoomModel" 152 ⟨"NameRoomModel", "assign", "(ZII)Z"⟩ ∈ lw_g := lw_in 780 rfl (by decide +kernel)
theorem l_Mod_137 : Cond.methodLink "NameRoomModel" 137 ⟨"NameRoomModel", "clear", "(I)V"⟩ ∈ lw_g := lw_in 784 rfl (by decide +kernel)
theorem l_Mod_134 : Cond.methodLink "NameRoomModel" 134 ⟨"NameRoomModel", "remove", "(I)V"⟩ ∈ lw_g := lw_in 788 rfl (by decide +kernel)
theorem l_Mod_140 : Cond.methodLink "NameRoomModel" 140 ⟨"NameRoomModel", "place", "(I)I"⟩ ∈ lw_g := lw_in 792 rfl (by decide +kernel)
theorem l_Law_35 : Cond.methodLink "NameRoomLaw" 35 ⟨"NameRoomModel", "get", "()I"⟩ ∈ lw_g := lw_in 796 rfl (by decide +kernel)
theorem l_Mod_156 : Cond.methodLink "NameRoomModel" 156 ⟨"NameRoomModel", "one", "()I"⟩ ∈ lw_g := lw_in 800 rfl (by decide +kernel)
theorem l_Mod_159 : Cond.methodLink "NameRoomModel" 159 ⟨"NameRoomModel", "write", "([III)V"⟩ ∈ lw_g := lw_in 804 rfl (by decide +kernel)
theorem l_Law_39 : Cond.methodLink "NameRoomLaw" 39 ⟨"NameRoomModel", "known", "()I"⟩ ∈ lw_g := lw_in 808 rfl (by decide +kernel)
theorem l_Law_43 : Cond.methodLink "NameRoomLaw" 43 ⟨"NameRoomModel", "drop", "()I"⟩ ∈ lw_g := lw_in 812 rfl (by decide +kernel)
theorem l_Mod_163 : Cond.methodLink "NameRoomModel" 163 ⟨"NameRoomModel", "variables", "(I)I"⟩ ∈ lw_g := lw_in 816 rfl (by decide +kernel)
theorem l_Mod_166 : Cond.methodLink "NameRoomModel" 166 ⟨"NameRoomModel", "wordEnd", "(I)I"⟩ ∈ lw_g := lw_in 820 rfl (by decide +kernel)
theorem l_Mod_169 : Cond.methodLink "NameRoomModel" 169 ⟨"NameRoomModel", "lose", "()Z"⟩ ∈ lw_g := lw_in 824 rfl (by decide +kernel)
theorem l_Law_47 : Cond.methodLink "NameRoomLaw" 47 ⟨"NameRoomModel", "open", "()I"⟩ ∈ lw_g := lw_in 828 rfl (by decide +kernel)
theorem l_Law_51 : Cond.methodLink "NameRoomLaw" 51 ⟨"NameRoomModel", "close", "()I"⟩ ∈ lw_g := lw_in 832 rfl (by decide +kernel)
theorem l_Law_56 : Cond.methodLink "NameRoomLaw" 56 ⟨"NameRoomModel", "subject", "(Z)I"⟩ ∈ lw_g := lw_in 836 rfl (by decide +kernel)
theorem l_Law_60 : Cond.methodLink "NameRoomLaw" 60 ⟨"NameRoomModel", "parse", "()I"⟩ ∈ lw_g := lw_in 840 rfl (by decide +kernel)
theorem l_Mod_188 : Cond.methodLink "NameRoomModel" 188 ⟨"NameRoomModel", "blanks", "()V"⟩ ∈ lw_g := lw_in 844 rfl (by decide +kernel)
theorem l_Mod_200 : Cond.methodLink "NameRoomModel" 200 ⟨"NameRoomModel", "token", "()V"⟩ ∈ lw_g := lw_in 848 rfl (by decide +kernel)
theorem l_Mod_185 : Cond.methodLink "NameRoomModel" 185 ⟨"NameRoomModel", "string", "()V"⟩ ∈ lw_g := lw_in 852 rfl (by decide +kernel)
theorem l_Mod_194 : Cond.methodLink "NameRoomModel" 194 ⟨"NameRoomModel", "number", "()I"⟩ ∈ lw_g := lw_in 856 rfl (by decide +kernel)
theorem l_Mod_203 : Cond.methodLink "NameRoomModel" 203 ⟨"NameRoomModel", "cut", "()I"⟩ ∈ lw_g := lw_in 860 rfl (by decide +kernel)
theorem l_Mod_206 : Cond.methodLink "NameRoomModel" 206 ⟨"NameRoomModel", "look", "()V"⟩ ∈ lw_g := lw_in 864 rfl (by decide +kernel)
theorem l_Mod_209 : Cond.methodLink "NameRoomModel" 209 ⟨"NameRoomModel", "pattern", "(I)I"⟩ ∈ lw_g := lw_in 868 rfl (by decide +kernel)
theorem l_Mod_212 : Cond.methodLink "NameRoomModel" 212 ⟨"NameRoomModel", "held", "(I)I"⟩ ∈ lw_g := lw_in 872 rfl (by decide +kernel)
theorem l_Mod_215 : Cond.methodLink "NameRoomModel" 215 ⟨"NameRoomModel", "give", "(IIIII)I"⟩ ∈ lw_g := lw_in 876 rfl (by decide +kernel)
theorem l_Law_64 : Cond.methodLink "NameRoomLaw" 64 ⟨"NameRoomModel", "name", "(I)I"⟩ ∈ lw_g := lw_in 880 rfl (by decide +kernel)
theorem l_Law_68 : Cond.methodLink "NameRoomLaw" 68 ⟨"NameRoomModel", "value", "(I)I"⟩ ∈ lw_g := lw_in 884 rfl (by decide +kernel)
theorem l_Law_72 : Cond.methodLink "NameRoomLaw" 72 ⟨"NameRoomModel", "count", "(I)I"⟩ ∈ lw_g := lw_in 888 rfl (by decide +kernel)
theorem wa_byte : Cond.arrayClass .byte ∈ lw_g := lw_in 48 rfl (by decide +kernel)
theorem wa_int : Cond.arrayClass .int ∈ lw_g := lw_in 78 rfl (by decide +kernel)
theorem l_Rea_95 : ("NameRoom$Reader", 95, ⟨"NameRoom", "isSymbolByte", "(I)Z"⟩, "NameRoom") ∈ xNl := List.mem_of_getElem? (i := 0) rfl
theorem l_Rea_89 : ("NameRoom$Reader", 89, ⟨"NameRoom", "isDigit", "(I)Z"⟩, "NameRoom") ∈ xNl := List.mem_of_getElem? (i := 1) rfl
theorem l_Row_39 : ("NameRoom$Row", 39, ⟨"NameRoom", "capital", "(I)I"⟩, "NameRoom") ∈ xNl := List.mem_of_getElem? (i := 2) rfl
theorem wj_copyN : Cond.native arraycopyName ∈ lw_g := lw_in 352 rfl (by decide +kernel)
theorem wj_copyS : Cond.static arraycopyName ∈ lw_g := lw_in 351 rfl (by decide +kernel)
theorem wj_copyI : Cond.initialized "java/lang/System" ∈ lw_g := lw_in 11 rfl (by decide +kernel)
theorem wj_mathI : Cond.initialized "java/lang/Math" ∈ lw_g := lw_in 4 rfl (by decide +kernel)
theorem wj_minS : Cond.static Lib.Math.min.name ∈ lw_g := lw_in 331 rfl (by decide +kernel)
theorem wj_minC : Cond.code Lib.Math.min.name Lib.Math.min.code 2 (some .int) ∈ lw_g := lw_in 332 rfl (by decide +kernel)
theorem wj_maxS : Cond.static Lib.Math.max.name ∈ lw_g := lw_in 33 rfl (by decide +kernel)
theorem wj_maxC : Cond.code Lib.Math.max.name Lib.Math.max.code 2 (some .int) ∈ lw_g := lw_in 34 rfl (by decide +kernel)
theorem wj_objM : Cond.instanceMethod Lib.objectInit ∈ lw_g := lw_in 18 rfl (by decide +kernel)
theorem wj_objC : Cond.code Lib.objectInit ⟨#[0xb1]⟩ 1 none ∈ lw_g := lw_in 19 rfl (by decide +kernel)
theorem m_Cut_begin : xVm Y_Cut_begin 0 := ⟨lw_in 521 rfl (by decide +kernel), lw_in 519 rfl (by decide +kernel), lw_in 520 rfl (by decide +kernel), kz_Cut, ⟨by decide +kernel, by decide +kernel, by decide +kernel⟩, by decide⟩
theorem m_Cut_cutAtEnd : xVm Y_Cut_cutAtEnd 0 := ⟨lw_in 568 rfl (by decide +kernel), lw_in 566 rfl (by decide +kernel), lw_in 567 rfl (by decide +kernel), kz_Cut, ⟨by decide +kernel, by decide +kernel, by decide +kernel⟩, by decide⟩
theorem m_Cut_cutAtPattern : xVm Y_Cut_cutAtPattern 1 := ⟨lw_in 546 rfl (by decide +kernel), lw_in 544 rfl (by decide +kernel), lw_in 545 rfl (by decide +kernel), kz_Cut, ⟨by decide +kernel, by decide +kernel, by decide +kernel⟩, by decide⟩
theorem m_Cut_cutAtPlace : xVm Y_Cut_cutAtPlace 1 := ⟨lw_in 563 rfl (by decide +kernel), lw_in 561 rfl (by decide +kernel), lw_in 562 rfl (by decide +kernel), kz_Cut, ⟨by decide +kernel, by decide +kernel, by decide +kernel⟩, by decide⟩
theorem m_Cut_init : xIm Y_Cut_init 0 := ⟨lw_in 172 rfl (by decide +kernel), lw_in 171 rfl (by decide +kernel), rfl, kz_Cut, ⟨by decide +kernel, by decide +kernel, by decide +kernel⟩, by decide, rfl⟩
theorem m_Cut_placeOf : xVm Y_Cut_placeOf 1 := ⟨lw_in 550 rfl (by decide +kernel), lw_in 549 rfl (by decide +kernel), lw_ip 23 rfl (by decide +kernel), kz_Cut, ⟨by decide +kernel, by decide +kernel, by decide +kernel⟩, by decide⟩
theorem m_Cut_take : xVm Y_Cut_take 2 := ⟨lw_in 478 rfl (by decide +kernel), lw_in 476 rfl (by decide +kernel), lw_in 477 rfl (by decide +kernel), kz_Cut, ⟨by decide +kernel, by decide +kernel, by decide +kernel⟩, by decide⟩
theorem m_Cut_takeRest : xVm Y_Cut_takeRest 0 := ⟨lw_in 576 rfl (by decide +kernel), lw_in 574 rfl (by decide +kernel), lw_in 575 rfl (by decide +kernel), kz_Cut, ⟨by decide +kernel, by decide +kernel, by decide +kernel⟩, by decide⟩
theorem m_Cut_takeWord : xVm Y_Cut_takeWord 0 := ⟨lw_in 580 rfl (by decide +kernel), lw_in 578 rfl (by decide +kernel), lw_in 579 rfl (by decide +kernel), kz_Cut, ⟨by decide +kernel, by decide +kernel, by decide +kernel⟩, by decide⟩
theorem m_Ent_init : xIm Y_Ent_init 0 := ⟨lw_in 92 rfl (by decide +kernel), lw_in 91 rfl (by decide +kernel), rfl, kz_Ent, ⟨by decide +kernel, by decide +kernel, by decide +kernel⟩, by decide, rfl⟩
theorem m_Mod_add : xVm Y_Mod_add 1 := ⟨lw_in 755 rfl (by decide +kernel), lw_in 754 rfl (by decide +kernel), lw_ip 32 rfl (by decide +kernel), kz_Mod, ⟨by decide +kernel, by decide +kernel, by decide +kernel⟩, by decide⟩
theorem m_Mod_assign : xVm Y_Mod_assign 3 := ⟨lw_in 783 rfl (by decide +kernel), lw_in 782 rfl (by decide +kernel), lw_ip 39 rfl (by decide +kernel), kz_Mod, ⟨by decide +kernel, by decide +kernel, by decide +kernel⟩, by decide⟩
theorem m_Mod_blanks : xVm Y_Mod_blanks 0 := ⟨lw_in 847 rfl (by decide +kernel), lw_in 846 rfl (by decide +kernel), lw_ip 48 rfl (by decide +kernel), kz_Mod, ⟨by decide +kernel, by decide +kernel, by decide +kernel⟩, by decide⟩
theorem m_Mod_capital : xSm Y_Mod_capital 1 := ⟨lw_in 747 rfl (by decide +kernel), lw_in 746 rfl (by decide +kernel), kz_Mod, ⟨by decide +kernel, by decide +kernel, by decide +kernel⟩, by decide⟩
theorem m_Mod_clear : xVm Y_Mod_clear 1 := ⟨lw_in 787 rfl (by decide +kernel), lw_in 786 rfl (by decide +kernel), lw_ip 40 rfl (by decide +kernel), kz_Mod, ⟨by decide +kernel, by decide +kernel, by decide +kernel⟩, by decide⟩
theorem m_Mod_close : xVm Y_Mod_close 0 := ⟨lw_in 835 rfl (by decide +kernel), lw_in 833 rfl (by decide +kernel), lw_in 834 rfl (by decide +kernel), kz_Mod, ⟨by decide +kernel, by decide +kernel, by decide +kernel⟩, by decide⟩
theorem m_Mod_count : xVm Y_Mod_count 1 := ⟨lw_in 891 rfl (by decide +kernel), lw_in 889 rfl (by decide +kernel), lw_in 890 rfl (by decide +kernel), kz_Mod, ⟨by decide +kernel, by decide +kernel, by decide +kernel⟩, by decide⟩
theorem m_Mod_cut : xVm Y_Mod_cut 0 := ⟨lw_in 863 rfl (by decide +kernel), lw_in 862 rfl (by decide +kernel), lw_ip 52 rfl (by decide +kernel), kz_Mod, ⟨by decide +kernel, by decide +kernel, by decide +kernel⟩, by decide⟩
theorem m_Mod_drop : xVm Y_Mod_drop 0 := ⟨lw_in 815 rfl (by decide +kernel), lw_in 813 rfl (by decide +kernel), lw_in 814 rfl (by decide +kernel), kz_Mod, ⟨by decide +kernel, by decide +kernel, by decide +kernel⟩, by decide⟩
theorem m_Mod_end : xVm Y_Mod_end 1 := ⟨lw_in 710 rfl (by decide +kernel), lw_in 708 rfl (by decide +kernel), lw_in 709 rfl (by decide +kernel), kz_Mod, ⟨by decide +kernel, by decide +kernel, by decide +kernel⟩, by decide⟩
theorem m_Mod_entry : xVm Y_Mod_entry 2 := ⟨lw_in 775 rfl (by decide +kernel), lw_in 774 rfl (by decide +kernel), lw_ip 37 rfl (by decide +kernel), kz_Mod, ⟨by decide +kernel, by decide +kernel, by decide +kernel⟩, by decide⟩
theorem m_Mod_fail : xVm Y_Mod_fail 1 := ⟨lw_in 740 rfl (by decide +kernel), lw_in 739 rfl (by decide +kernel), lw_ip 29 rfl (by decide +kernel), kz_Mod, ⟨by decide +kernel, by decide +kernel, by decide +kernel⟩, by decide⟩
theorem m_Mod_feed : xVm Y_Mod_feed 5 := ⟨lw_in 702 rfl (by decide +kernel), lw_in 700 rfl (by decide +kernel), lw_in 701 rfl (by decide +kernel), kz_Mod, ⟨by decide +kernel, by decide +kernel, by decide +kernel⟩, by decide⟩
theorem m_Mod_four : xVm Y_Mod_four 1 := ⟨lw_in 706 rfl (by decide +kernel), lw_in 705 rfl (by decide +kernel), lw_ip 25 rfl (by decide +kernel), kz_Mod, ⟨by decide +kernel, by decide +kernel, by decide +kernel⟩, by decide⟩
theorem m_Mod_get : xVm Y_Mod_get 0 := ⟨lw_in 799 rfl (by decide +kernel), lw_in 797 rfl (by decide +kernel), lw_in 798 rfl (by decide +kernel), kz_Mod, ⟨by decide +kernel, by decide +kernel, by decide +kernel⟩, by decide⟩
theorem m_Mod_give : xVm Y_Mod_give 5 := ⟨lw_in 879 rfl (by decide +kernel), lw_in 878 rfl (by decide +kernel), lw_ip 56 rfl (by decide +kernel), kz_Mod, ⟨by decide +kernel, by decide +kernel, by decide +kernel⟩, by decide⟩
theorem m_Mod_held : xVm Y_Mod_held 1 := ⟨lw_in 875 rfl (by decide +kernel), lw_in 874 rfl (by decide +kernel), lw_ip 55 rfl (by decide +kernel), kz_Mod, ⟨by decide +kernel, by decide +kernel, by decide +kernel⟩, by decide⟩
theorem m_Mod_here : xVm Y_Mod_here 0 := ⟨lw_in 730 rfl (by decide +kernel), lw_in 729 rfl (by decide +kernel), lw_ip 28 rfl (by decide +kernel), kz_Mod, ⟨by decide +kernel, by decide +kernel, by decide +kernel⟩, by decide⟩
theorem m_Mod_init : xIm Y_Mod_init 0 := ⟨lw_in 603 rfl (by decide +kernel), lw_in 602 rfl (by decide +kernel), rfl, kz_Mod, ⟨by decide +kernel, by decide +kernel, by decide +kernel⟩, by decide, rfl⟩
theorem m_Mod_isAlike : xVm Y_Mod_isAlike 2 := ⟨lw_in 771 rfl (by decide +kernel), lw_in 770 rfl (by decide +kernel), lw_ip 36 rfl (by decide +kernel), kz_Mod, ⟨by decide +kernel, by decide +kernel, by decide +kernel⟩, by decide⟩
theorem m_Mod_isDigit : xSm Y_Mod_isDigit 1 := ⟨lw_in 736 rfl (by decide +kernel), lw_in 735 rfl (by decide +kernel), kz_Mod, ⟨by decide +kernel, by decide +kernel, by decide +kernel⟩, by decide⟩
theorem m_Mod_isStem : xVm Y_Mod_isStem 1 := ⟨lw_in 767 rfl (by decide +kernel), lw_in 766 rfl (by decide +kernel), lw_ip 35 rfl (by decide +kernel), kz_Mod, ⟨by decide +kernel, by decide +kernel, by decide +kernel⟩, by decide⟩
theorem m_Mod_isSymbol : xSm Y_Mod_isSymbol 1 := ⟨lw_in 733 rfl (by decide +kernel), lw_in 732 rfl (by decide +kernel), kz_Mod, ⟨by decide +kernel, by decide +kernel, by decide +kernel⟩, by decide⟩
theorem m_Mod_known : xVm Y_Mod_known 0 := ⟨lw_in 811 rfl (by decide +kernel), lw_in 809 rfl (by decide +kernel), lw_in 810 rfl (by decide +kernel), kz_Mod, ⟨by decide +kernel, by decide +kernel, by decide +kernel⟩, by decide⟩
theorem m_Mod_look : xVm Y_Mod_look 0 := ⟨lw_in 867 rfl (by decide +kernel), lw_in 866 rfl (by decide +kernel), lw_ip 53 rfl (by decide +kernel), kz_Mod, ⟨by decide +kernel, by decide +kernel, by decide +kernel⟩, by decide⟩
theorem m_Mod_lose : xVm Y_Mod_lose 0 := ⟨lw_in 827 rfl (by decide +kernel), lw_in 826 rfl (by decide +kernel), lw_ip 47 rfl (by decide +kernel), kz_Mod, ⟨by decide +kernel, by decide +kernel, by decide +kernel⟩, by decide⟩
theorem m_Mod_name : xVm Y_Mod_name 1 := ⟨lw_in 883 rfl (by decide +kernel), lw_in 881 rfl (by decide +kernel), lw_in 882 rfl (by decide +kernel), kz_Mod, ⟨by decide +kernel, by decide +kernel, by decide +kernel⟩, by decide⟩
theorem m_Mod_nameOf : xVm Y_Mod_nameOf 2 := ⟨lw_in 744 rfl (by decide +kernel), lw_in 743 rfl (by decide +kernel), lw_ip 30 rfl (by decide +kernel), kz_Mod, ⟨by decide +kernel, by decide +kernel, by decide +kernel⟩, by decide⟩
theorem m_Mod_number : xVm Y_Mod_number 0 := ⟨lw_in 859 rfl (by decide +kernel), lw_in 858 rfl (by decide +kernel), lw_ip 51 rfl (by decide +kernel), kz_Mod, ⟨by decide +kernel, by decide +kernel, by decide +kernel⟩, by decide⟩
theorem m_Mod_one : xVm Y_Mod_one 0 := ⟨lw_in 803 rfl (by decide +kernel), lw_in 802 rfl (by decide +kernel), lw_ip 43 rfl (by decide +kernel), kz_Mod, ⟨by decide +kernel, by decide +kernel, by decide +kernel⟩, by decide⟩
theorem m_Mod_open : xVm Y_Mod_open 0 := ⟨lw_in 831 rfl (by decide +kernel), lw_in 829 rfl (by decide +kernel), lw_in 830 rfl (by decide +kernel), kz_Mod, ⟨by decide +kernel, by decide +kernel, by decide +kernel⟩, by decide⟩
theorem m_Mod_out : xVm Y_Mod_out 1 := ⟨lw_in 714 rfl (by decide +kernel), lw_in 712 rfl (by decide +kernel), lw_in 713 rfl (by decide +kernel), kz_Mod, ⟨by decide +kernel, by decide +kernel, by decide +kernel⟩, by decide⟩
theorem m_Mod_parse : xVm Y_Mod_parse 0 := ⟨lw_in 843 rfl (by decide +kernel), lw_in 841 rfl (by decide +kernel), lw_in 842 rfl (by decide +kernel), kz_Mod, ⟨by decide +kernel, by decide +kernel, by decide +kernel⟩, by decide⟩
theorem m_Mod_pattern : xVm Y_Mod_pattern 1 := ⟨lw_in 871 rfl (by decide +kernel), lw_in 870 rfl (by decide +kernel), lw_ip 54 rfl (by decide +kernel), kz_Mod, ⟨by decide +kernel, by decide +kernel, by decide +kernel⟩, by decide⟩
theorem m_Mod_place : xVm Y_Mod_place 1 := ⟨lw_in 795 rfl (by decide +kernel), lw_in 794 rfl (by decide +kernel), lw_ip 42 rfl (by decide +kernel), kz_Mod, ⟨by decide +kernel, by decide +kernel, by decide +kernel⟩, by decide⟩
theorem m_Mod_poolOf : xVm Y_Mod_poolOf 2 := ⟨lw_in 763 rfl (by decide +kernel), lw_in 762 rfl (by decide +kernel), lw_ip 34 rfl (by decide +kernel), kz_Mod, ⟨by decide +kernel, by decide +kernel, by decide +kernel⟩, by decide⟩
theorem m_Mod_remove : xVm Y_Mod_remove 1 := ⟨lw_in 791 rfl (by decide +kernel), lw_in 790 rfl (by decide +kernel), lw_ip 41 rfl (by decide +kernel), kz_Mod, ⟨by decide +kernel, by decide +kernel, by decide +kernel⟩, by decide⟩
theorem m_Mod_set : xVm Y_Mod_set 0 := ⟨lw_in 718 rfl (by decide +kernel), lw_in 716 rfl (by decide +kernel), lw_in 717 rfl (by decide +kernel), kz_Mod, ⟨by decide +kernel, by decide +kernel, by decide +kernel⟩, by decide⟩
theorem m_Mod_stem : xVm Y_Mod_stem 0 := ⟨lw_in 779 rfl (by decide +kernel), lw_in 778 rfl (by decide +kernel), lw_ip 38 rfl (by decide +kernel), kz_Mod, ⟨by decide +kernel, by decide +kernel, by decide +kernel⟩, by decide⟩
theorem m_Mod_string : xVm Y_Mod_string 0 := ⟨lw_in 855 rfl (by decide +kernel), lw_in 854 rfl (by decide +kernel), lw_ip 50 rfl (by decide +kernel), kz_Mod, ⟨by decide +kernel, by decide +kernel, by decide +kernel⟩, by decide⟩
theorem m_Mod_subject : xVm Y_Mod_subject 1 := ⟨lw_in 839 rfl (by decide +kernel), lw_in 837 rfl (by decide +kernel), lw_in 838 rfl (by decide +kernel), kz_Mod, ⟨by decide +kernel, by decide +kernel, by decide +kernel⟩, by decide⟩
theorem m_Mod_take : xVm Y_Mod_take 0 := ⟨lw_in 722 rfl (by decide +kernel), lw_in 721 rfl (by decide +kernel), lw_ip 26 rfl (by decide +kernel), kz_Mod, ⟨by decide +kernel, by decide +kernel, by decide +kernel⟩, by decide⟩
theorem m_Mod_tells : xVm Y_Mod_tells 0 := ⟨lw_in 759 rfl (by decide +kernel), lw_in 758 rfl (by decide +kernel), lw_ip 33 rfl (by decide +kernel), kz_Mod, ⟨by decide +kernel, by decide +kernel, by decide +kernel⟩, by decide⟩
theorem m_Mod_token : xVm Y_Mod_token 0 := ⟨lw_in 851 rfl (by decide +kernel), lw_in 850 rfl (by decide +kernel), lw_ip 49 rfl (by decide +kernel), kz_Mod, ⟨by decide +kernel, by decide +kernel, by decide +kernel⟩, by decide⟩
theorem m_Mod_told : xVm Y_Mod_told 2 := ⟨lw_in 751 rfl (by decide +kernel), lw_in 750 rfl (by decide +kernel), lw_ip 31 rfl (by decide +kernel), kz_Mod, ⟨by decide +kernel, by decide +kernel, by decide +kernel⟩, by decide⟩
theorem m_Mod_value : xVm Y_Mod_value 1 := ⟨lw_in 887 rfl (by decide +kernel), lw_in 885 rfl (by decide +kernel), lw_in 886 rfl (by decide +kernel), kz_Mod, ⟨by decide +kernel, by decide +kernel, by decide +kernel⟩, by decide⟩
theorem m_Mod_variable : xVm Y_Mod_variable 0 := ⟨lw_in 726 rfl (by decide +kernel), lw_in 725 rfl (by decide +kernel), lw_ip 27 rfl (by decide +kernel), kz_Mod, ⟨by decide +kernel, by decide +kernel, by decide +kernel⟩, by decide⟩
theorem m_Mod_variables : xVm Y_Mod_variables 1 := ⟨lw_in 819 rfl (by decide +kernel), lw_in 818 rfl (by decide +kernel), lw_ip 45 rfl (by decide +kernel), kz_Mod, ⟨by decide +kernel, by decide +kernel, by decide +kernel⟩, by decide⟩
theorem m_Mod_wordEnd : xVm Y_Mod_wordEnd 1 := ⟨lw_in 823 rfl (by decide +kernel), lw_in 822 rfl (by decide +kernel), lw_ip 46 rfl (by decide +kernel), kz_Mod, ⟨by decide +kernel, by decide +kernel, by decide +kernel⟩, by decide⟩
theorem m_Mod_write : xVm Y_Mod_write 3 := ⟨lw_in 807 rfl (by decide +kernel), lw_in 806 rfl (by decide +kernel), lw_ip 44 rfl (by decide +kernel), kz_Mod, ⟨by decide +kernel, by decide +kernel, by decide +kernel⟩, by decide⟩
theorem m_Nam_addTail : xVm Y_Nam_addTail 2 := ⟨lw_in 321 rfl (by decide +kernel), lw_in 320 rfl (by decide +kernel), lw_ip 5 rfl (by decide +kernel), kz_Nam, ⟨by decide +kernel, by decide +kernel, by decide +kernel⟩, by decide⟩
theorem m_Nam_capital : xSm Y_Nam_capital 1 := ⟨lw_in 317 rfl (by decide +kernel), lw_in 316 rfl (by decide +kernel), kz_Nam, ⟨by decide +kernel, by decide +kernel, by decide +kernel⟩, by decide⟩
theorem m_Nam_close : xVm Y_Nam_close 0 := ⟨lw_in 466 rfl (by decide +kernel), lw_in 464 rfl (by decide +kernel), lw_in 465 rfl (by decide +kernel), kz_Nam, ⟨by decide +kernel, by decide +kernel, by decide +kernel⟩, by decide⟩
theorem m_Nam_count : xVm Y_Nam_count 1 := ⟨lw_in 597 rfl (by decide +kernel), lw_in 595 rfl (by decide +kernel), lw_in 596 rfl (by decide +kernel), kz_Nam, ⟨by decide +kernel, by decide +kernel, by decide +kernel⟩, by decide⟩
theorem m_Nam_cutAt : xVm Y_Nam_cutAt 1 := ⟨lw_in 533 rfl (by decide +kernel), lw_in 532 rfl (by decide +kernel), lw_ip 22 rfl (by decide +kernel), kz_Nam, ⟨by decide +kernel, by decide +kernel, by decide +kernel⟩, by decide⟩
theorem m_Nam_drop : xVm Y_Nam_drop 0 := ⟨lw_in 418 rfl (by decide +kernel), lw_in 416 rfl (by decide +kernel), lw_in 417 rfl (by decide +kernel), kz_Nam, ⟨by decide +kernel, by decide +kernel, by decide +kernel⟩, by decide⟩
theorem m_Nam_end : xVm Y_Nam_end 1 := ⟨lw_in 249 rfl (by decide +kernel), lw_in 247 rfl (by decide +kernel), lw_in 248 rfl (by decide +kernel), kz_Nam, ⟨by decide +kernel, by decide +kernel, by decide +kernel⟩, by decide⟩
theorem m_Nam_enterPool : xVm Y_Nam_enterPool 0 := ⟨lw_in 438 rfl (by decide +kernel), lw_in 437 rfl (by decide +kernel), lw_ip 13 rfl (by decide +kernel), kz_Nam, ⟨by decide +kernel, by decide +kernel, by decide +kernel⟩, by decide⟩
theorem m_Nam_feed : xVm Y_Nam_feed 5 := ⟨lw_in 237 rfl (by decide +kernel), lw_in 235 rfl (by decide +kernel), lw_in 236 rfl (by decide +kernel), kz_Nam, ⟨by decide +kernel, by decide +kernel, by decide +kernel⟩, by decide⟩
theorem m_Nam_get : xVm Y_Nam_get 0 := ⟨lw_in 385 rfl (by decide +kernel), lw_in 383 rfl (by decide +kernel), lw_in 384 rfl (by decide +kernel), kz_Nam, ⟨by decide +kernel, by decide +kernel, by decide +kernel⟩, by decide⟩
theorem m_Nam_give : xVm Y_Nam_give 3 := ⟨lw_in 357 rfl (by decide +kernel), lw_in 356 rfl (by decide +kernel), lw_ip 6 rfl (by decide +kernel), kz_Nam, ⟨by decide +kernel, by decide +kernel, by decide +kernel⟩, by decide⟩
theorem m_Nam_handOver : xVm Y_Nam_handOver 2 := ⟨lw_in 572 rfl (by decide +kernel), lw_in 571 rfl (by decide +kernel), lw_ip 24 rfl (by decide +kernel), kz_Nam, ⟨by decide +kernel, by decide +kernel, by decide +kernel⟩, by decide⟩
theorem m_Nam_init : xIm Y_Nam_init 0 := ⟨lw_in 16 rfl (by decide +kernel), lw_in 15 rfl (by decide +kernel), rfl, kz_Nam, ⟨by decide +kernel, by decide +kernel, by decide +kernel⟩, by decide, rfl⟩
theorem m_Nam_isDigit : xSm Y_Nam_isDigit 1 := ⟨lw_in 280 rfl (by decide +kernel), lw_in 279 rfl (by decide +kernel), kz_Nam, ⟨by decide +kernel, by decide +kernel, by decide +kernel⟩, by decide⟩
theorem m_Nam_isSymbolByte : xSm Y_Nam_isSymbolByte 1 := ⟨lw_in 277 rfl (by decide +kernel), lw_in 276 rfl (by decide +kernel), kz_Nam, ⟨by decide +kernel, by decide +kernel, by decide +kernel⟩, by decide⟩
theorem m_Nam_known : xVm Y_Nam_known 0 := ⟨lw_in 414 rfl (by decide +kernel), lw_in 412 rfl (by decide +kernel), lw_in 413 rfl (by decide +kernel), kz_Nam, ⟨by decide +kernel, by decide +kernel, by decide +kernel⟩, by decide⟩
theorem m_Nam_name : xVm Y_Nam_name 1 := ⟨lw_in 585 rfl (by decide +kernel), lw_in 583 rfl (by decide +kernel), lw_in 584 rfl (by decide +kernel), kz_Nam, ⟨by decide +kernel, by decide +kernel, by decide +kernel⟩, by decide⟩
theorem m_Nam_open : xVm Y_Nam_open 0 := ⟨lw_in 434 rfl (by decide +kernel), lw_in 432 rfl (by decide +kernel), lw_in 433 rfl (by decide +kernel), kz_Nam, ⟨by decide +kernel, by decide +kernel, by decide +kernel⟩, by decide⟩
theorem m_Nam_out : xVm Y_Nam_out 1 := ⟨lw_in 253 rfl (by decide +kernel), lw_in 251 rfl (by decide +kernel), lw_in 252 rfl (by decide +kernel), kz_Nam, ⟨by decide +kernel, by decide +kernel, by decide +kernel⟩, by decide⟩
theorem m_Nam_parse : xVm Y_Nam_parse 0 := ⟨lw_in 485 rfl (by decide +kernel), lw_in 483 rfl (by decide +kernel), lw_in 484 rfl (by decide +kernel), kz_Nam, ⟨by decide +kernel, by decide +kernel, by decide +kernel⟩, by decide⟩
theorem m_Nam_set : xVm Y_Nam_set 0 := ⟨lw_in 261 rfl (by decide +kernel), lw_in 259 rfl (by decide +kernel), lw_in 260 rfl (by decide +kernel), kz_Nam, ⟨by decide +kernel, by decide +kernel, by decide +kernel⟩, by decide⟩
theorem m_Nam_stemOf : xVm Y_Nam_stemOf 1 := ⟨lw_in 401 rfl (by decide +kernel), lw_in 400 rfl (by decide +kernel), lw_ip 10 rfl (by decide +kernel), kz_Nam, ⟨by decide +kernel, by decide +kernel, by decide +kernel⟩, by decide⟩
theorem m_Nam_subject : xVm Y_Nam_subject 1 := ⟨lw_in 474 rfl (by decide +kernel), lw_in 472 rfl (by decide +kernel), lw_in 473 rfl (by decide +kernel), kz_Nam, ⟨by decide +kernel, by decide +kernel, by decide +kernel⟩, by decide⟩
theorem m_Nam_takeBack : xVm Y_Nam_takeBack 0 := ⟨lw_in 426 rfl (by decide +kernel), lw_in 425 rfl (by decide +kernel), lw_ip 12 rfl (by decide +kernel), kz_Nam, ⟨by decide +kernel, by decide +kernel, by decide +kernel⟩, by decide⟩
theorem m_Nam_textOf : xVm Y_Nam_textOf 1 := ⟨lw_in 409 rfl (by decide +kernel), lw_in 408 rfl (by decide +kernel), lw_ip 11 rfl (by decide +kernel), kz_Nam, ⟨by decide +kernel, by decide +kernel, by decide +kernel⟩, by decide⟩
theorem m_Nam_told : xVm Y_Nam_told 0 := ⟨lw_in 397 rfl (by decide +kernel), lw_in 396 rfl (by decide +kernel), lw_ip 9 rfl (by decide +kernel), kz_Nam, ⟨by decide +kernel, by decide +kernel, by decide +kernel⟩, by decide⟩
theorem m_Nam_value : xVm Y_Nam_value 1 := ⟨lw_in 593 rfl (by decide +kernel), lw_in 591 rfl (by decide +kernel), lw_in 592 rfl (by decide +kernel), kz_Nam, ⟨by decide +kernel, by decide +kernel, by decide +kernel⟩, by decide⟩
theorem m_Nam_workOut : xVm Y_Nam_workOut 1 := ⟨lw_in 293 rfl (by decide +kernel), lw_in 292 rfl (by decide +kernel), lw_ip 4 rfl (by decide +kernel), kz_Nam, ⟨by decide +kernel, by decide +kernel, by decide +kernel⟩, by decide⟩
theorem m_Nam_workOutAlone : xVm Y_Nam_workOutAlone 0 := ⟨lw_in 389 rfl (by decide +kernel), lw_in 388 rfl (by decide +kernel), lw_ip 8 rfl (by decide +kernel), kz_Nam, ⟨by decide +kernel, by decide +kernel, by decide +kernel⟩, by decide⟩
theorem m_Poo_enter : xVm Y_Poo_enter 0 := ⟨lw_in 442 rfl (by decide +kernel), lw_in 440 rfl (by decide +kernel), lw_in 441 rfl (by decide +kernel), kz_Poo, ⟨by decide +kernel, by decide +kernel, by decide +kernel⟩, by decide⟩
theorem m_Poo_init : xIm Y_Poo_init 0 := ⟨lw_in 133 rfl (by decide +kernel), lw_in 132 rfl (by decide +kernel), rfl, kz_Poo, ⟨by decide +kernel, by decide +kernel, by decide +kernel⟩, by decide, rfl⟩
theorem m_Poo_innermost : xVm Y_Poo_innermost 0 := ⟨lw_in 325 rfl (by decide +kernel), lw_in 323 rfl (by decide +kernel), lw_in 324 rfl (by decide +kernel), kz_Poo, ⟨by decide +kernel, by decide +kernel, by decide +kernel⟩, by decide⟩
theorem m_Poo_leave : xVm Y_Poo_leave 0 := ⟨lw_in 446 rfl (by decide +kernel), lw_in 444 rfl (by decide +kernel), lw_in 445 rfl (by decide +kernel), kz_Poo, ⟨by decide +kernel, by decide +kernel, by decide +kernel⟩, by decide⟩
theorem m_Poo_owner : xVm Y_Poo_owner 2 := ⟨lw_in 329 rfl (by decide +kernel), lw_in 327 rfl (by decide +kernel), lw_in 328 rfl (by decide +kernel), kz_Poo, ⟨by decide +kernel, by decide +kernel, by decide +kernel⟩, by decide⟩
theorem m_Poo_see : xVm Y_Poo_see 1 := ⟨lw_in 455 rfl (by decide +kernel), lw_in 453 rfl (by decide +kernel), lw_in 454 rfl (by decide +kernel), kz_Poo, ⟨by decide +kernel, by decide +kernel, by decide +kernel⟩, by decide⟩
theorem m_Poo_seenByInnermost : xVm Y_Poo_seenByInnermost 0 := ⟨lw_in 450 rfl (by decide +kernel), lw_in 448 rfl (by decide +kernel), lw_in 449 rfl (by decide +kernel), kz_Poo, ⟨by decide +kernel, by decide +kernel, by decide +kernel⟩, by decide⟩
theorem m_Poo_sees : xVm Y_Poo_sees 1 := ⟨lw_in 459 rfl (by decide +kernel), lw_in 458 rfl (by decide +kernel), lw_ip 14 rfl (by decide +kernel), kz_Poo, ⟨by decide +kernel, by decide +kernel, by decide +kernel⟩, by decide⟩
theorem m_Rea_add : xVm Y_Rea_add 3 := ⟨lw_in 289 rfl (by decide +kernel), lw_in 288 rfl (by decide +kernel), lw_ip 3 rfl (by decide +kernel), kz_Rea, ⟨by decide +kernel, by decide +kernel, by decide +kernel⟩, by decide⟩
theorem m_Rea_begin : xVm Y_Rea_begin 0 := ⟨lw_in 269 rfl (by decide +kernel), lw_in 268 rfl (by decide +kernel), lw_ip 0 rfl (by decide +kernel), kz_Rea, ⟨by decide +kernel, by decide +kernel, by decide +kernel⟩, by decide⟩
theorem m_Rea_copyString : xVm Y_Rea_copyString 2 := ⟨lw_in 538 rfl (by decide +kernel), lw_in 536 rfl (by decide +kernel), lw_in 537 rfl (by decide +kernel), kz_Rea, ⟨by decide +kernel, by decide +kernel, by decide +kernel⟩, by decide⟩
theorem m_Rea_fail : xVm Y_Rea_fail 1 := ⟨lw_in 285 rfl (by decide +kernel), lw_in 284 rfl (by decide +kernel), lw_ip 2 rfl (by decide +kernel), kz_Rea, ⟨by decide +kernel, by decide +kernel, by decide +kernel⟩, by decide⟩
theorem m_Rea_init : xIm Y_Rea_init 0 := ⟨lw_in 24 rfl (by decide +kernel), lw_in 23 rfl (by decide +kernel), rfl, kz_Rea, ⟨by decide +kernel, by decide +kernel, by decide +kernel⟩, by decide, rfl⟩
theorem m_Rea_isTarget : xVm Y_Rea_isTarget 1 := ⟨lw_in 525 rfl (by decide +kernel), lw_in 523 rfl (by decide +kernel), lw_in 524 rfl (by decide +kernel), kz_Rea, ⟨by decide +kernel, by decide +kernel, by decide +kernel⟩, by decide⟩
theorem m_Rea_kindOf : xVm Y_Rea_kindOf 1 := ⟨lw_in 529 rfl (by decide +kernel), lw_in 527 rfl (by decide +kernel), lw_in 528 rfl (by decide +kernel), kz_Rea, ⟨by decide +kernel, by decide +kernel, by decide +kernel⟩, by decide⟩
theorem m_Rea_numberOf : xVm Y_Rea_numberOf 1 := ⟨lw_in 559 rfl (by decide +kernel), lw_in 557 rfl (by decide +kernel), lw_in 558 rfl (by decide +kernel), kz_Rea, ⟨by decide +kernel, by decide +kernel, by decide +kernel⟩, by decide⟩
theorem m_Rea_readAlone : xVm Y_Rea_readAlone 0 := ⟨lw_in 393 rfl (by decide +kernel), lw_in 391 rfl (by decide +kernel), lw_in 392 rfl (by decide +kernel), kz_Rea, ⟨by decide +kernel, by decide +kernel, by decide +kernel⟩, by decide⟩
theorem m_Rea_readBareToken : xVm Y_Rea_readBareToken 1 := ⟨lw_in 517 rfl (by decide +kernel), lw_in 516 rfl (by decide +kernel), lw_ip 21 rfl (by decide +kernel), kz_Rea, ⟨by decide +kernel, by decide +kernel, by decide +kernel⟩, by decide⟩
theorem m_Rea_readBracket : xVm Y_Rea_readBracket 0 := ⟨lw_in 501 rfl (by decide +kernel), lw_in 500 rfl (by decide +kernel), lw_ip 17 rfl (by decide +kernel), kz_Rea, ⟨by decide +kernel, by decide +kernel, by decide +kernel⟩, by decide⟩
theorem m_Rea_readGift : xVm Y_Rea_readGift 0 := ⟨lw_in 265 rfl (by decide +kernel), lw_in 263 rfl (by decide +kernel), lw_in 264 rfl (by decide +kernel), kz_Rea, ⟨by decide +kernel, by decide +kernel, by decide +kernel⟩, by decide⟩
theorem m_Rea_readPlace : xVm Y_Rea_readPlace 1 := ⟨lw_in 513 rfl (by decide +kernel), lw_in 512 rfl (by decide +kernel), lw_ip 20 rfl (by decide +kernel), kz_Rea, ⟨by decide +kernel, by decide +kernel, by decide +kernel⟩, by decide⟩
theorem m_Rea_readSignedPlace : xVm Y_Rea_readSignedPlace 1 := ⟨lw_in 509 rfl (by decide +kernel), lw_in 508 rfl (by decide +kernel), lw_ip 19 rfl (by decide +kernel), kz_Rea, ⟨by decide +kernel, by decide +kernel, by decide +kernel⟩, by decide⟩
theorem m_Rea_readString : xVm Y_Rea_readString 1 := ⟨lw_in 497 rfl (by decide +kernel), lw_in 496 rfl (by decide +kernel), lw_ip 16 rfl (by decide +kernel), kz_Rea, ⟨by decide +kernel, by decide +kernel, by decide +kernel⟩, by decide⟩
theorem m_Rea_readTemplate : xVm Y_Rea_readTemplate 0 := ⟨lw_in 489 rfl (by decide +kernel), lw_in 487 rfl (by decide +kernel), lw_in 488 rfl (by decide +kernel), kz_Rea, ⟨by decide +kernel, by decide +kernel, by decide +kernel⟩, by decide⟩
theorem m_Rea_readToken : xVm Y_Rea_readToken 0 := ⟨lw_in 493 rfl (by decide +kernel), lw_in 492 rfl (by decide +kernel), lw_ip 15 rfl (by decide +kernel), kz_Rea, ⟨by decide +kernel, by decide +kernel, by decide +kernel⟩, by decide⟩
theorem m_Rea_readVariable : xVm Y_Rea_readVariable 1 := ⟨lw_in 273 rfl (by decide +kernel), lw_in 272 rfl (by decide +kernel), lw_ip 1 rfl (by decide +kernel), kz_Rea, ⟨by decide +kernel, by decide +kernel, by decide +kernel⟩, by decide⟩
theorem m_Rea_readVariables : xVm Y_Rea_readVariables 1 := ⟨lw_in 422 rfl (by decide +kernel), lw_in 420 rfl (by decide +kernel), lw_in 421 rfl (by decide +kernel), kz_Rea, ⟨by decide +kernel, by decide +kernel, by decide +kernel⟩, by decide⟩
theorem m_Rea_skipBlanks : xVm Y_Rea_skipBlanks 0 := ⟨lw_in 505 rfl (by decide +kernel), lw_in 504 rfl (by decide +kernel), lw_ip 18 rfl (by decide +kernel), kz_Rea, ⟨by decide +kernel, by decide +kernel, by decide +kernel⟩, by decide⟩
theorem m_Rea_startOf : xVm Y_Rea_startOf 1 := ⟨lw_in 297 rfl (by decide +kernel), lw_in 295 rfl (by decide +kernel), lw_in 296 rfl (by decide +kernel), kz_Rea, ⟨by decide +kernel, by decide +kernel, by decide +kernel⟩, by decide⟩
theorem m_Rea_stopOf : xVm Y_Rea_stopOf 1 := ⟨lw_in 301 rfl (by decide +kernel), lw_in 299 rfl (by decide +kernel), lw_in 300 rfl (by decide +kernel), kz_Rea, ⟨by decide +kernel, by decide +kernel, by decide +kernel⟩, by decide⟩
theorem m_Row_add : xVm Y_Row_add 1 := ⟨lw_in 245 rfl (by decide +kernel), lw_in 243 rfl (by decide +kernel), lw_in 244 rfl (by decide +kernel), kz_Row, ⟨by decide +kernel, by decide +kernel, by decide +kernel⟩, by decide⟩
theorem m_Row_addCapitals : xVm Y_Row_addCapitals 3 := ⟨lw_in 313 rfl (by decide +kernel), lw_in 311 rfl (by decide +kernel), lw_in 312 rfl (by decide +kernel), kz_Row, ⟨by decide +kernel, by decide +kernel, by decide +kernel⟩, by decide⟩
theorem m_Row_addInt : xVm Y_Row_addInt 1 := ⟨lw_in 241 rfl (by decide +kernel), lw_in 239 rfl (by decide +kernel), lw_in 240 rfl (by decide +kernel), kz_Row, ⟨by decide +kernel, by decide +kernel, by decide +kernel⟩, by decide⟩
theorem m_Row_addPart : xVm Y_Row_addPart 3 := ⟨lw_in 349 rfl (by decide +kernel), lw_in 347 rfl (by decide +kernel), lw_in 348 rfl (by decide +kernel), kz_Row, ⟨by decide +kernel, by decide +kernel, by decide +kernel⟩, by decide⟩
theorem m_Row_at : xVm Y_Row_at 1 := ⟨lw_in 257 rfl (by decide +kernel), lw_in 255 rfl (by decide +kernel), lw_in 256 rfl (by decide +kernel), kz_Row, ⟨by decide +kernel, by decide +kernel, by decide +kernel⟩, by decide⟩
theorem m_Row_become : xVm Y_Row_become 1 := ⟨lw_in 379 rfl (by decide +kernel), lw_in 377 rfl (by decide +kernel), lw_in 378 rfl (by decide +kernel), kz_Row, ⟨by decide +kernel, by decide +kernel, by decide +kernel⟩, by decide⟩
theorem m_Row_beginsWith : xVm Y_Row_beginsWith 1 := ⟨lw_in 340 rfl (by decide +kernel), lw_in 338 rfl (by decide +kernel), lw_in 339 rfl (by decide +kernel), kz_Row, ⟨by decide +kernel, by decide +kernel, by decide +kernel⟩, by decide⟩
theorem m_Row_clear : xVm Y_Row_clear 0 := ⟨lw_in 305 rfl (by decide +kernel), lw_in 303 rfl (by decide +kernel), lw_in 304 rfl (by decide +kernel), kz_Row, ⟨by decide +kernel, by decide +kernel, by decide +kernel⟩, by decide⟩
theorem m_Row_dotFrom : xVm Y_Row_dotFrom 2 := ⟨lw_in 309 rfl (by decide +kernel), lw_in 307 rfl (by decide +kernel), lw_in 308 rfl (by decide +kernel), kz_Row, ⟨by decide +kernel, by decide +kernel, by decide +kernel⟩, by decide⟩
theorem m_Row_init : xIm Y_Row_init 1 := ⟨lw_in 30 rfl (by decide +kernel), lw_in 29 rfl (by decide +kernel), rfl, kz_Row, ⟨by decide +kernel, by decide +kernel, by decide +kernel⟩, by decide, rfl⟩
theorem m_Row_isCompound : xVm Y_Row_isCompound 0 := ⟨lw_in 405 rfl (by decide +kernel), lw_in 403 rfl (by decide +kernel), lw_in 404 rfl (by decide +kernel), kz_Row, ⟨by decide +kernel, by decide +kernel, by decide +kernel⟩, by decide⟩
theorem m_Row_isStem : xVm Y_Row_isStem 0 := ⟨lw_in 361 rfl (by decide +kernel), lw_in 359 rfl (by decide +kernel), lw_in 360 rfl (by decide +kernel), kz_Row, ⟨by decide +kernel, by decide +kernel, by decide +kernel⟩, by decide⟩
theorem m_Row_standsAt : xVm Y_Row_standsAt 2 := ⟨lw_in 554 rfl (by decide +kernel), lw_in 552 rfl (by decide +kernel), lw_in 553 rfl (by decide +kernel), kz_Row, ⟨by decide +kernel, by decide +kernel, by decide +kernel⟩, by decide⟩
theorem m_She_clearBehind : xVm Y_She_clearBehind 2 := ⟨lw_in 366 rfl (by decide +kernel), lw_in 364 rfl (by decide +kernel), lw_in 365 rfl (by decide +kernel), kz_She, ⟨by decide +kernel, by decide +kernel, by decide +kernel⟩, by decide⟩
theorem m_She_clearPool : xVm Y_She_clearPool 1 := ⟨lw_in 470 rfl (by decide +kernel), lw_in 468 rfl (by decide +kernel), lw_in 469 rfl (by decide +kernel), kz_She, ⟨by decide +kernel, by decide +kernel, by decide +kernel⟩, by decide⟩
theorem m_She_entryAt : xVm Y_She_entryAt 1 := ⟨lw_in 589 rfl (by decide +kernel), lw_in 587 rfl (by decide +kernel), lw_in 588 rfl (by decide +kernel), kz_She, ⟨by decide +kernel, by decide +kernel, by decide +kernel⟩, by decide⟩
theorem m_She_find : xVm Y_She_find 2 := ⟨lw_in 344 rfl (by decide +kernel), lw_in 342 rfl (by decide +kernel), lw_in 343 rfl (by decide +kernel), kz_She, ⟨by decide +kernel, by decide +kernel, by decide +kernel⟩, by decide⟩
theorem m_She_findOrAdd : xVm Y_She_findOrAdd 2 := ⟨lw_in 374 rfl (by decide +kernel), lw_in 372 rfl (by decide +kernel), lw_in 373 rfl (by decide +kernel), kz_She, ⟨by decide +kernel, by decide +kernel, by decide +kernel⟩, by decide⟩
theorem m_She_init : xIm Y_She_init 0 := ⟨lw_in 85 rfl (by decide +kernel), lw_in 84 rfl (by decide +kernel), rfl, kz_She, ⟨by decide +kernel, by decide +kernel, by decide +kernel⟩, by decide, rfl⟩
theorem m_She_remove : xVm Y_She_remove 2 := ⟨lw_in 430 rfl (by decide +kernel), lw_in 428 rfl (by decide +kernel), lw_in 429 rfl (by decide +kernel), kz_She, ⟨by decide +kernel, by decide +kernel, by decide +kernel⟩, by decide⟩
theorem m_She_sweep : xVm Y_She_sweep 0 := ⟨lw_in 370 rfl (by decide +kernel), lw_in 369 rfl (by decide +kernel), lw_ip 7 rfl (by decide +kernel), kz_She, ⟨by decide +kernel, by decide +kernel, by decide +kernel⟩, by decide⟩
theorem m_Sig_holds : xVm Y_Sig_holds 1 := ⟨lw_in 336 rfl (by decide +kernel), lw_in 334 rfl (by decide +kernel), lw_in 335 rfl (by decide +kernel), kz_Sig, ⟨by decide +kernel, by decide +kernel, by decide +kernel⟩, by decide⟩
theorem m_Sig_init : xIm Y_Sig_init 0 := ⟨lw_in 140 rfl (by decide +kernel), lw_in 139 rfl (by decide +kernel), rfl, kz_Sig, ⟨by decide +kernel, by decide +kernel, by decide +kernel⟩, by decide, rfl⟩
theorem k_Row : xCl 0 R_Row F_Row 2 t_Row := ⟨rfl, ki_Row, kt_Row, kn_Row⟩
theorem k_Ent : xCl 1 R_Ent F_Ent 5 t_Ent := ⟨rfl, ki_Ent, kt_Ent, kn_Ent⟩
theorem k_She : xCl 2 R_She F_She 2 t_She := ⟨rfl, ki_She, kt_She, kn_She⟩
theorem k_Sig : xCl 3 R_Sig F_Sig 3 t_Sig := ⟨rfl, ki_Sig, kt_Sig, kn_Sig⟩
theorem k_Poo : xCl 4 R_Poo F_Poo 3 t_Poo := ⟨rfl, ki_Poo, kt_Poo, kn_Poo⟩
theorem k_Rea : xCl 5 R_Rea F_Rea 8 t_Rea := ⟨rfl, ki_Rea, kt_Rea, kn_Rea⟩
theorem k_Cut : xCl 6 R_Cut F_Cut 7 t_Cut := ⟨rfl, ki_Cut, kt_Cut, kn_Cut⟩
theorem k_Nam : xCl 7 R_Nam F_Nam 10 t_Nam := ⟨rfl, ki_Nam, kt_Nam, kn_Nam⟩
theorem k_Mod : xCl 8 R_Mod F_Mod 31 t_Mod := ⟨rfl, ki_Mod, kt_Mod, kn_Mod⟩
end
section
theorem d_Row_init_0 : decode b_Row_init 0 = .ok (.aload_n 0, 1) := by decide +kernel
theorem d_Row_init_1 : decode b_Row_init 1 = .ok (.invokespecial 3, 3) := by decide +kernel
theorem d_Row_init_4 : decode b_Row_init 4 = .ok (.aload_n 0, 1) := by decide +kernel
theorem d_Row_init_5 : decode b_Row_init 5 = .ok (.iload_n 1, 1) := by decide +kernel
theorem d_Row_init_6 : decode b_Row_init 6 = .ok (.iconst 0, 1) := by decide +kernel
theorem d_Row_init_7 : decode b_Row_init 7 = .ok (.invokestatic 9, 3) := by decide +kernel
theorem d_Row_init_10 : decode b_Row_init 10 = .ok (.newarray .byte, 2) := by decide +kernel
theorem d_Row_init_12 : decode b_Row_init 12 = .ok (.putfield 15, 3) := by decide +kernel
theorem d_Row_init_15 : decode b_Row_init 15 = .ok (.aload_n 0, 1) := by decide +kernel
theorem d_Row_init_16 : decode b_Row_init 16 = .ok (.iconst 0, 1) := by decide +kernel
theorem d_Row_init_17 : decode b_Row_init 17 = .ok (.putfield 21, 3) := by decide +kernel
theorem d_Row_init_20 : decode b_Row_init 20 = .ok (.return_, 1) := by decide +kernel
theorem d_Row_clear_0 : decode b_Row_clear 0 = .ok (.aload_n 0, 1) := by decide +kernel
theorem d_Row_clear_1 : decode b_Row_clear 1 = .ok (.iconst 0, 1) := by decide +kernel
theorem d_Row_clear_2 : decode b_Row_clear 2 = .ok (.putfield 21, 3) := by decide +kernel
theorem d_Row_clear_5 : decode b_Row_clear 5 = .ok (.return_, 1) := by decide +kernel
theorem d_Row_at_0 : decode b_Row_at 0 = .ok (.iload_n 1, 1) := by decide +kernel
theorem d_Row_at_1 : decode b_Row_at 1 = .ok (.ifCond .lt 33, 3) := by decide +kernel
theorem d_Row_at_4 : decode b_Row_at 4 = .ok (.iload_n 1, 1) := by decide +kernel
theorem d_Row_at_5 : decode b_Row_at 5 = .ok (.aload_n 0, 1) := by decide +kernel
theorem d_Row_at_6 : decode b_Row_at 6 = .ok (.getfield 21, 3) := by decide +kernel
theorem d_Row_at_9 : decode b_Row_at 9 = .ok (.if_icmp .ge 25, 3) := by decide +kernel
theorem d_Row_at_12 : decode b_Row_at 12 = .ok (.iload_n 1, 1) := by decide +kernel
theorem d_Row_at_13 : decode b_Row_at 13 = .ok (.aload_n 0, 1) := by decide +kernel
theorem d_Row_at_14 : decode b_Row_at 14 = .ok (.getfield 15, 3) := by decide +kernel
theorem d_Row_at_17 : decode b_Row_at 17 = .ok (.arraylength, 1) := by decide +kernel
theorem d_Row_at_18 : decode b_Row_at 18 = .ok (.if_icmp .ge 16, 3) := by decide +kernel
theorem d_Row_at_21 : decode b_Row_at 21 = .ok (.aload_n 0, 1) := by decide +kernel
theorem d_Row_at_22 : decode b_Row_at 22 = .ok (.getfield 15, 3) := by decide +kernel
theorem d_Row_at_25 : decode b_Row_at 25 = .ok (.iload_n 1, 1) := by decide +kernel
theorem d_Row_at_26 : decode b_Row_at 26 = .ok (.baload, 1) := by decide +kernel
theorem d_Row_at_27 : decode b_Row_at 27 = .ok (.sipush 255, 3) := by decide +kernel
theorem d_Row_at_30 : decode b_Row_at 30 = .ok (.iand, 1) := by decide +kernel
theorem d_Row_at_31 : decode b_Row_at 31 = .ok (.goto 4, 3) := by decide +kernel
theorem d_Row_at_34 : decode b_Row_at 34 = .ok (.iconst (-1), 1) := by decide +kernel
theorem d_Row_at_35 : decode b_Row_at 35 = .ok (.ireturn, 1) := by decide +kernel
theorem d_Row_add_0 : decode b_Row_add 0 = .ok (.aload_n 0, 1) := by decide +kernel
theorem d_Row_add_1 : decode b_Row_add 1 = .ok (.getfield 21, 3) := by decide +kernel
theorem d_Row_add_4 : decode b_Row_add 4 = .ok (.ifCond .lt 15, 3) := by decide +kernel
theorem d_Row_add_7 : decode b_Row_add 7 = .ok (.aload_n 0, 1) := by decide +kernel
theorem d_Row_add_8 : decode b_Row_add 8 = .ok (.getfield 21, 3) := by decide +kernel
theorem d_Row_add_11 : decode b_Row_add 11 = .ok (.aload_n 0, 1) := by decide +kernel
theorem d_Row_add_12 : decode b_Row_add 12 = .ok (.getfield 15, 3) := by decide +kernel
theorem d_Row_add_15 : decode b_Row_add 15 = .ok (.arraylength, 1) := by decide +kernel
theorem d_Row_add_16 : decode b_Row_add 16 = .ok (.if_icmp .lt 5, 3) := by decide +kernel
theorem d_Row_add_19 : decode b_Row_add 19 = .ok (.iconst 0, 1) := by decide +kernel
theorem d_Row_add_20 : decode b_Row_add 20 = .ok (.ireturn, 1) := by decide +kernel
theorem d_Row_add_21 : decode b_Row_add 21 = .ok (.aload_n 0, 1) := by decide +kernel
theorem d_Row_add_22 : decode b_Row_add 22 = .ok (.getfield 15, 3) := by decide +kernel
theorem d_Row_add_25 : decode b_Row_add 25 = .ok (.aload_n 0, 1) := by decide +kernel
theorem d_Row_add_26 : decode b_Row_add 26 = .ok (.getfield 21, 3) := by decide +kernel
theorem d_Row_add_29 : decode b_Row_add 29 = .ok (.iload_n 1, 1) := by decide +kernel
theorem d_Row_add_30 : decode b_Row_add 30 = .ok (.i2b, 1) := by decide +kernel
theorem d_Row_add_31 : decode b_Row_add 31 = .ok (.bastore, 1) := by decide +kernel
theorem d_Row_add_32 : decode b_Row_add 32 = .ok (.aload_n 0, 1) := by decide +kernel
theorem d_Row_add_33 : decode b_Row_add 33 = .ok (.dup, 1) := by decide +kernel
theorem d_Row_add_34 : decode b_Row_add 34 = .ok (.getfield 21, 3) := by decide +kernel
theorem d_Row_add_37 : decode b_Row_add 37 = .ok (.iconst 1, 1) := by decide +kernel
theorem d_Row_add_38 : decode b_Row_add 38 = .ok (.iadd, 1) := by decide +kernel
theorem d_Row_add_39 : decode b_Row_add 39 = .ok (.putfield 21, 3) := by decide +kernel
theorem d_Row_add_42 : decode b_Row_add 42 = .ok (.iconst 1, 1) := by decide +kernel
theorem d_Row_add_43 : decode b_Row_add 43 = .ok (.ireturn, 1) := by decide +kernel
theorem d_Row_addInt_0 : decode b_Row_addInt 0 = .ok (.bipush 24, 2) := by decide +kernel
theorem d_Row_addInt_2 : decode b_Row_addInt 2 = .ok (.istore_n 2, 1) := by decide +kernel
theorem d_Row_addInt_3 : decode b_Row_addInt 3 = .ok (.iload_n 2, 1) := by decide +kernel
theorem d_Row_addInt_4 : decode b_Row_addInt 4 = .ok (.ifCond .lt 17, 3) := by decide +kernel
theorem d_Row_addInt_7 : decode b_Row_addInt 7 = .ok (.aload_n 0, 1) := by decide +kernel
theorem d_Row_addInt_8 : decode b_Row_addInt 8 = .ok (.iload_n 1, 1) := by decide +kernel
theorem d_Row_addInt_9 : decode b_Row_addInt 9 = .ok (.iload_n 2, 1) := by decide +kernel
theorem d_Row_addInt_10 : decode b_Row_addInt 10 = .ok (.iushr, 1) := by decide +kernel
theorem d_Row_addInt_11 : decode b_Row_addInt 11 = .ok (.invokevirtual 25, 3) := by decide +kernel
theorem d_Row_addInt_14 : decode b_Row_addInt 14 = .ok (.pop, 1) := by decide +kernel
theorem d_Row_addInt_15 : decode b_Row_addInt 15 = .ok (.iinc 2 (-8), 3) := by decide +kernel
theorem d_Row_addInt_18 : decode b_Row_addInt 18 = .ok (.goto (-15), 3) := by decide +kernel
theorem d_Row_addInt_21 : decode b_Row_addInt 21 = .ok (.return_, 1) := by decide +kernel
theorem d_Row_addPart_0 : decode b_Row_addPart 0 = .ok (.iload_n 3, 1) := by decide +kernel
theorem d_Row_addPart_1 : decode b_Row_addPart 1 = .ok (.iload_n 2, 1) := by decide +kernel
theorem d_Row_addPart_2 : decode b_Row_addPart 2 = .ok (.isub, 1) := by decide +kernel
theorem d_Row_addPart_3 : decode b_Row_addPart 3 = .ok (.istore 4, 2) := by decide +kernel
theorem d_Row_addPart_5 : decode b_Row_addPart 5 = .ok (.iload_n 2, 1) := by decide +kernel
theorem d_Row_addPart_6 : decode b_Row_addPart 6 = .ok (.ifCond .lt 17, 3) := by decide +kernel
theorem d_Row_addPart_9 : decode b_Row_addPart 9 = .ok (.iload 4, 2) := by decide +kernel
theorem d_Row_addPart_11 : decode b_Row_addPart 11 = .ok (.ifCond .lt 12, 3) := by decide +kernel
theorem d_Row_addPart_14 : decode b_Row_addPart 14 = .ok (.iload_n 3, 1) := by decide +kernel
theorem d_Row_addPart_15 : decode b_Row_addPart 15 = .ok (.aload_n 1, 1) := by decide +kernel
theorem d_Row_addPart_16 : decode b_Row_addPart 16 = .ok (.getfield 15, 3) := by decide +kernel
theorem d_Row_addPart_19 : decode b_Row_addPart 19 = .ok (.arraylength, 1) := by decide +kernel
theorem d_Row_addPart_20 : decode b_Row_addPart 20 = .ok (.if_icmp .le 5, 3) := by decide +kernel
theorem d_Row_addPart_23 : decode b_Row_addPart 23 = .ok (.iconst 0, 1) := by decide +kernel
theorem d_Row_addPart_24 : decode b_Row_addPart 24 = .ok (.ireturn, 1) := by decide +kernel
theorem d_Row_addPart_25 : decode b_Row_addPart 25 = .ok (.aload_n 0, 1) := by decide +kernel
theorem d_Row_addPart_26 : decode b_Row_addPart 26 = .ok (.getfield 21, 3) := by decide +kernel
theorem d_Row_addPart_29 : decode b_Row_addPart 29 = .ok (.ifCond .lt 18, 3) := by decide +kernel
theorem d_Row_addPart_32 : decode b_Row_addPart 32 = .ok (.iload 4, 2) := by decide +kernel
theorem d_Row_addPart_34 : decode b_Row_addPart 34 = .ok (.aload_n 0, 1) := by decide +kernel
theorem d_Row_addPart_35 : decode b_Row_addPart 35 = .ok (.getfield 15, 3) := by decide +kernel
theorem d_Row_addPart_38 : decode b_Row_addPart 38 = .ok (.arraylength, 1) := by decide +kernel
theorem d_Row_addPart_39 : decode b_Row_addPart 39 = .ok (.aload_n 0, 1) := by decide +kernel
theorem d_Row_addPart_40 : decode b_Row_addPart 40 = .ok (.getfield 21, 3) := by decide +kernel
theorem d_Row_addPart_43 : decode b_Row_addPart 43 = .ok (.isub, 1) := by decide +kernel
theorem d_Row_addPart_44 : decode b_Row_addPart 44 = .ok (.if_icmp .le 5, 3) := by decide +kernel
theorem d_Row_addPart_47 : decode b_Row_addPart 47 = .ok (.iconst 0, 1) := by decide +kernel
theorem d_Row_addPart_48 : decode b_Row_addPart 48 = .ok (.ireturn, 1) := by decide +kernel
theorem d_Row_addPart_49 : decode b_Row_addPart 49 = .ok (.aload_n 1, 1) := by decide +kernel
theorem d_Row_addPart_50 : decode b_Row_addPart 50 = .ok (.getfield 15, 3) := by decide +kernel
theorem d_Row_addPart_53 : decode b_Row_addPart 53 = .ok (.iload_n 2, 1) := by decide +kernel
theorem d_Row_addPart_54 : decode b_Row_addPart 54 = .ok (.aload_n 0, 1) := by decide +kernel
theorem d_Row_addPart_55 : decode b_Row_addPart 55 = .ok (.getfield 15, 3) := by decide +kernel
theorem d_Row_addPart_58 : decode b_Row_addPart 58 = .ok (.aload_n 0, 1) := by decide +kernel
theorem d_Row_addPart_59 : decode b_Row_addPart 59 = .ok (.getfield 21, 3) := by decide +kernel
theorem d_Row_addPart_62 : decode b_Row_addPart 62 = .ok (.iload 4, 2) := by decide +kernel
theorem d_Row_addPart_64 : decode b_Row_addPart 64 = .ok (.invokestatic 29, 3) := by decide +kernel
theorem d_Row_addPart_67 : decode b_Row_addPart 67 = .ok (.aload_n 0, 1) := by decide +kernel
theorem d_Row_addPart_68 : decode b_Row_addPart 68 = .ok (.dup, 1) := by decide +kernel
theorem d_Row_addPart_69 : decode b_Row_addPart 69 = .ok (.getfield 21, 3) := by decide +kernel
theorem d_Row_addPart_72 : decode b_Row_addPart 72 = .ok (.iload 4, 2) := by decide +kernel
theorem d_Row_addPart_74 : decode b_Row_addPart 74 = .ok (.iadd, 1) := by decide +kernel
theorem d_Row_addPart_75 : decode b_Row_addPart 75 = .ok (.putfield 21, 3) := by decide +kernel
theorem d_Row_addPart_78 : decode b_Row_addPart 78 = .ok (.iconst 1, 1) := by decide +kernel
theorem d_Row_addPart_79 : decode b_Row_addPart 79 = .ok (.ireturn, 1) := by decide +kernel
theorem d_Row_addCapitals_0 : decode b_Row_addCapitals 0 = .ok (.iconst 1, 1) := by decide +kernel
theorem d_Row_addCapitals_1 : decode b_Row_addCapitals 1 = .ok (.istore 4, 2) := by decide +kernel
theorem d_Row_addCapitals_3 : decode b_Row_addCapitals 3 = .ok (.iload_n 2, 1) := by decide +kernel
theorem d_Row_addCapitals_4 : decode b_Row_addCapitals 4 = .ok (.istore 5, 2) := by decide +kernel
theorem d_Row_addCapitals_6 : decode b_Row_addCapitals 6 = .ok (.iload 5, 2) := by decide +kernel
theorem d_Row_addCapitals_8 : decode b_Row_addCapitals 8 = .ok (.iload_n 3, 1) := by decide +kernel
theorem d_Row_addCapitals_9 : decode b_Row_addCapitals 9 = .ok (.if_icmp .ge 29, 3) := by decide +kernel
theorem d_Row_addCapitals_12 : decode b_Row_addCapitals 12 = .ok (.iload 4, 2) := by decide +kernel
theorem d_Row_addCapitals_14 : decode b_Row_addCapitals 14 = .ok (.ifCond .eq 24, 3) := by decide +kernel
theorem d_Row_addCapitals_17 : decode b_Row_addCapitals 17 = .ok (.aload_n 0, 1) := by decide +kernel
theorem d_Row_addCapitals_18 : decode b_Row_addCapitals 18 = .ok (.aload_n 1, 1) := by decide +kernel
theorem d_Row_addCapitals_19 : decode b_Row_addCapitals 19 = .ok (.iload 5, 2) := by decide +kernel
theorem d_Row_addCapitals_21 : decode b_Row_addCapitals 21 = .ok (.invokevirtual 35, 3) := by decide +kernel
theorem d_Row_addCapitals_24 : decode b_Row_addCapitals 24 = .ok (.invokestatic 39, 3) := by decide +kernel
theorem d_Row_addCapitals_27 : decode b_Row_addCapitals 27 = .ok (.invokevirtual 25, 3) := by decide +kernel
theorem d_Row_addCapitals_30 : decode b_Row_addCapitals 30 = .ok (.istore 4, 2) := by decide +kernel
theorem d_Row_addCapitals_32 : decode b_Row_addCapitals 32 = .ok (.iinc 5 1, 3) := by decide +kernel
theorem d_Row_addCapitals_35 : decode b_Row_addCapitals 35 = .ok (.goto (-29), 3) := by decide +kernel
theorem d_Row_addCapitals_38 : decode b_Row_addCapitals 38 = .ok (.iload 4, 2) := by decide +kernel
theorem d_Row_addCapitals_40 : decode b_Row_addCapitals 40 = .ok (.ireturn, 1) := by decide +kernel
theorem d_Row_become_0 : decode b_Row_become 0 = .ok (.aload_n 0, 1) := by decide +kernel
theorem d_Row_become_1 : decode b_Row_become 1 = .ok (.iconst 0, 1) := by decide +kernel
theorem d_Row_become_2 : decode b_Row_become 2 = .ok (.putfield 21, 3) := by decide +kernel
theorem d_Row_become_5 : decode b_Row_become 5 = .ok (.aload_n 0, 1) := by decide +kernel
theorem d_Row_become_6 : decode b_Row_become 6 = .ok (.aload_n 1, 1) := by decide +kernel
theorem d_Row_become_7 : decode b_Row_become 7 = .ok (.iconst 0, 1) := by decide +kernel
theorem d_Row_become_8 : decode b_Row_become 8 = .ok (.aload_n 1, 1) := by decide +kernel
theorem d_Row_become_9 : decode b_Row_become 9 = .ok (.getfield 21, 3) := by decide +kernel
theorem d_Row_become_12 : decode b_Row_become 12 = .ok (.invokevirtual 42, 3) := by decide +kernel
theorem d_Row_become_15 : decode b_Row_become 15 = .ok (.pop, 1) := by decide +kernel
theorem d_Row_become_16 : decode b_Row_become 16 = .ok (.return_, 1) := by decide +kernel
theorem d_Row_beginsWith_0 : decode b_Row_beginsWith 0 = .ok (.aload_n 1, 1) := by decide +kernel
theorem d_Row_beginsWith_1 : decode b_Row_beginsWith 1 = .ok (.getfield 21, 3) := by decide +kernel
theorem d_Row_beginsWith_4 : decode b_Row_beginsWith 4 = .ok (.istore_n 2, 1) := by decide +kernel
theorem d_Row_beginsWith_5 : decode b_Row_beginsWith 5 = .ok (.iload_n 2, 1) := by decide +kernel
theorem d_Row_beginsWith_6 : decode b_Row_beginsWith 6 = .ok (.aload_n 0, 1) := by decide +kernel
theorem d_Row_beginsWith_7 : decode b_Row_beginsWith 7 = .ok (.getfield 21, 3) := by decide +kernel
theorem d_Row_beginsWith_10 : decode b_Row_beginsWith 10 = .ok (.if_icmp .gt 21, 3) := by decide +kernel
theorem d_Row_beginsWith_13 : decode b_Row_beginsWith 13 = .ok (.iload_n 2, 1) := by decide +kernel
theorem d_Row_beginsWith_14 : decode b_Row_beginsWith 14 = .ok (.aload_n 0, 1) := by decide +kernel
theorem d_Row_beginsWith_15 : decode b_Row_beginsWith 15 = .ok (.getfield 15, 3) := by decide +kernel
theorem d_Row_beginsWith_18 : decode b_Row_beginsWith 18 = .ok (.arraylength, 1) := by decide +kernel
theorem d_Row_beginsWith_19 : decode b_Row_beginsWith 19 = .ok (.if_icmp .gt 12, 3) := by decide +kernel
theorem d_Row_beginsWith_22 : decode b_Row_beginsWith 22 = .ok (.iload_n 2, 1) := by decide +kernel
theorem d_Row_beginsWith_23 : decode b_Row_beginsWith 23 = .ok (.aload_n 1, 1) := by decide +kernel
theorem d_Row_beginsWith_24 : decode b_Row_beginsWith 24 = .ok (.getfield 15, 3) := by decide +kernel
theorem d_Row_beginsWith_27 : decode b_Row_beginsWith 27 = .ok (.arraylength, 1) := by decide +kernel
theorem d_Row_beginsWith_28 : decode b_Row_beginsWith 28 = .ok (.if_icmp .le 5, 3) := by decide +kernel
theorem d_Row_beginsWith_31 : decode b_Row_beginsWith 31 = .ok (.iconst 0, 1) := by decide +kernel
theorem d_Row_beginsWith_32 : decode b_Row_beginsWith 32 = .ok (.ireturn, 1) := by decide +kernel
theorem d_Row_beginsWith_33 : decode b_Row_beginsWith 33 = .ok (.iconst 0, 1) := by decide +kernel
theorem d_Row_beginsWith_34 : decode b_Row_beginsWith 34 = .ok (.istore_n 3, 1) := by decide +kernel
theorem d_Row_beginsWith_35 : decode b_Row_beginsWith 35 = .ok (.iload_n 3, 1) := by decide +kernel
theorem d_Row_beginsWith_36 : decode b_Row_beginsWith 36 = .ok (.iload_n 2, 1) := by decide +kernel
theorem d_Row_beginsWith_37 : decode b_Row_beginsWith 37 = .ok (.if_icmp .ge 26, 3) := by decide +kernel
theorem d_Row_beginsWith_40 : decode b_Row_beginsWith 40 = .ok (.aload_n 0, 1) := by decide +kernel
theorem d_Row_beginsWith_41 : decode b_Row_beginsWith 41 = .ok (.getfield 15, 3) := by decide +kernel
theorem d_Row_beginsWith_44 : decode b_Row_beginsWith 44 = .ok (.iload_n 3, 1) := by decide +kernel
theorem d_Row_beginsWith_45 : decode b_Row_beginsWith 45 = .ok (.baload, 1) := by decide +kernel
theorem d_Row_beginsWith_46 : decode b_Row_beginsWith 46 = .ok (.aload_n 1, 1) := by decide +kernel
theorem d_Row_beginsWith_47 : decode b_Row_beginsWith 47 = .ok (.getfield 15, 3) := by decide +kernel
theorem d_Row_beginsWith_50 : decode b_Row_beginsWith 50 = .ok (.iload_n 3, 1) := by decide +kernel
theorem d_Row_beginsWith_51 : decode b_Row_beginsWith 51 = .ok (.baload, 1) := by decide +kernel
theorem d_Row_beginsWith_52 : decode b_Row_beginsWith 52 = .ok (.if_icmp .eq 5, 3) := by decide +kernel
theorem d_Row_beginsWith_55 : decode b_Row_beginsWith 55 = .ok (.iconst 0, 1) := by decide +kernel
theorem d_Row_beginsWith_56 : decode b_Row_beginsWith 56 = .ok (.ireturn, 1) := by decide +kernel
theorem d_Row_beginsWith_57 : decode b_Row_beginsWith 57 = .ok (.iinc 3 1, 3) := by decide +kernel
theorem d_Row_beginsWith_60 : decode b_Row_beginsWith 60 = .ok (.goto (-25), 3) := by decide +kernel
theorem d_Row_beginsWith_63 : decode b_Row_beginsWith 63 = .ok (.iconst 1, 1) := by decide +kernel
theorem d_Row_beginsWith_64 : decode b_Row_beginsWith 64 = .ok (.ireturn, 1) := by decide +kernel
theorem d_Row_standsAt_0 : decode b_Row_standsAt 0 = .ok (.iconst 0, 1) := by decide +kernel
theorem d_Row_standsAt_1 : decode b_Row_standsAt 1 = .ok (.istore_n 3, 1) := by decide +kernel
theorem d_Row_standsAt_2 : decode b_Row_standsAt 2 = .ok (.iload_n 3, 1) := by decide +kernel
theorem d_Row_standsAt_3 : decode b_Row_standsAt 3 = .ok (.aload_n 2, 1) := by decide +kernel
theorem d_Row_standsAt_4 : decode b_Row_standsAt 4 = .ok (.getfield 21, 3) := by decide +kernel
theorem d_Row_standsAt_7 : decode b_Row_standsAt 7 = .ok (.if_icmp .ge 26, 3) := by decide +kernel
theorem d_Row_standsAt_10 : decode b_Row_standsAt 10 = .ok (.aload_n 0, 1) := by decide +kernel
theorem d_Row_standsAt_11 : decode b_Row_standsAt 11 = .ok (.iload_n 1, 1) := by decide +kernel
theorem d_Row_standsAt_12 : decode b_Row_standsAt 12 = .ok (.iload_n 3, 1) := by decide +kernel
theorem d_Row_standsAt_13 : decode b_Row_standsAt 13 = .ok (.iadd, 1) := by decide +kernel
theorem d_Row_standsAt_14 : decode b_Row_standsAt 14 = .ok (.invokevirtual 35, 3) := by decide +kernel
theorem d_Row_standsAt_17 : decode b_Row_standsAt 17 = .ok (.aload_n 2, 1) := by decide +kernel
theorem d_Row_standsAt_18 : decode b_Row_standsAt 18 = .ok (.iload_n 3, 1) := by decide +kernel
theorem d_Row_standsAt_19 : decode b_Row_standsAt 19 = .ok (.invokevirtual 35, 3) := by decide +kernel
theorem d_Row_standsAt_22 : decode b_Row_standsAt 22 = .ok (.if_icmp .eq 5, 3) := by decide +kernel
theorem d_Row_standsAt_25 : decode b_Row_standsAt 25 = .ok (.iconst 0, 1) := by decide +kernel
theorem d_Row_standsAt_26 : decode b_Row_standsAt 26 = .ok (.ireturn, 1) := by decide +kernel
theorem d_Row_standsAt_27 : decode b_Row_standsAt 27 = .ok (.iinc 3 1, 3) := by decide +kernel
theorem d_Row_standsAt_30 : decode b_Row_standsAt 30 = .ok (.goto (-28), 3) := by decide +kernel
theorem d_Row_standsAt_33 : decode b_Row_standsAt 33 = .ok (.iconst 1, 1) := by decide +kernel
theorem d_Row_standsAt_34 : decode b_Row_standsAt 34 = .ok (.ireturn, 1) := by decide +kernel
theorem d_Row_dotFrom_0 : decode b_Row_dotFrom 0 = .ok (.iload_n 1, 1) := by decide +kernel
theorem d_Row_dotFrom_1 : decode b_Row_dotFrom 1 = .ok (.istore_n 3, 1) := by decide +kernel
theorem d_Row_dotFrom_2 : decode b_Row_dotFrom 2 = .ok (.iload_n 3, 1) := by decide +kernel
theorem d_Row_dotFrom_3 : decode b_Row_dotFrom 3 = .ok (.iload_n 2, 1) := by decide +kernel
theorem d_Row_dotFrom_4 : decode b_Row_dotFrom 4 = .ok (.if_icmp .ge 35, 3) := by decide +kernel
theorem d_Row_dotFrom_7 : decode b_Row_dotFrom 7 = .ok (.iload_n 3, 1) := by decide +kernel
theorem d_Row_dotFrom_8 : decode b_Row_dotFrom 8 = .ok (.aload_n 0, 1) := by decide +kernel
theorem d_Row_dotFrom_9 : decode b_Row_dotFrom 9 = .ok (.getfield 15, 3) := by decide +kernel
theorem d_Row_dotFrom_12 : decode b_Row_dotFrom 12 = .ok (.arraylength, 1) := by decide +kernel
theorem d_Row_dotFrom_13 : decode b_Row_dotFrom 13 = .ok (.if_icmp .ge 26, 3) := by decide +kernel
theorem d_Row_dotFrom_16 : decode b_Row_dotFrom 16 = .ok (.iload_n 3, 1) := by decide +kernel
theorem d_Row_dotFrom_17 : decode b_Row_dotFrom 17 = .ok (.ifCond .lt 16, 3) := by decide +kernel
theorem d_Row_dotFrom_20 : decode b_Row_dotFrom 20 = .ok (.aload_n 0, 1) := by decide +kernel
theorem d_Row_dotFrom_21 : decode b_Row_dotFrom 21 = .ok (.getfield 15, 3) := by decide +kernel
theorem d_Row_dotFrom_24 : decode b_Row_dotFrom 24 = .ok (.iload_n 3, 1) := by decide +kernel
theorem d_Row_dotFrom_25 : decode b_Row_dotFrom 25 = .ok (.baload, 1) := by decide +kernel
theorem d_Row_dotFrom_26 : decode b_Row_dotFrom 26 = .ok (.bipush 46, 2) := by decide +kernel
theorem d_Row_dotFrom_28 : decode b_Row_dotFrom 28 = .ok (.if_icmp .ne 5, 3) := by decide +kernel
theorem d_Row_dotFrom_31 : decode b_Row_dotFrom 31 = .ok (.iload_n 3, 1) := by decide +kernel
theorem d_Row_dotFrom_32 : decode b_Row_dotFrom 32 = .ok (.ireturn, 1) := by decide +kernel
theorem d_Row_dotFrom_33 : decode b_Row_dotFrom 33 = .ok (.iinc 3 1, 3) := by decide +kernel
theorem d_Row_dotFrom_36 : decode b_Row_dotFrom 36 = .ok (.goto (-34), 3) := by decide +kernel
theorem d_Row_dotFrom_39 : decode b_Row_dotFrom 39 = .ok (.iload_n 2, 1) := by decide +kernel
theorem d_Row_dotFrom_40 : decode b_Row_dotFrom 40 = .ok (.ireturn, 1) := by decide +kernel
theorem d_Row_isStem_0 : decode b_Row_isStem 0 = .ok (.aload_n 0, 1) := by decide +kernel
theorem d_Row_isStem_1 : decode b_Row_isStem 1 = .ok (.getfield 21, 3) := by decide +kernel
theorem d_Row_isStem_4 : decode b_Row_isStem 4 = .ok (.ifCond .le 25, 3) := by decide +kernel
theorem d_Row_isStem_7 : decode b_Row_isStem 7 = .ok (.aload_n 0, 1) := by decide +kernel
theorem d_Row_isStem_8 : decode b_Row_isStem 8 = .ok (.iconst 0, 1) := by decide +kernel
theorem d_Row_isStem_9 : decode b_Row_isStem 9 = .ok (.aload_n 0, 1) := by decide +kernel
theorem d_Row_isStem_10 : decode b_Row_isStem 10 = .ok (.getfield 21, 3) := by decide +kernel
theorem d_Row_isStem_13 : decode b_Row_isStem 13 = .ok (.invokevirtual 46, 3) := by decide +kernel
theorem d_Row_isStem_16 : decode b_Row_isStem 16 = .ok (.aload_n 0, 1) := by decide +kernel
theorem d_Row_isStem_17 : decode b_Row_isStem 17 = .ok (.getfield 21, 3) := by decide +kernel
theorem d_Row_isStem_20 : decode b_Row_isStem 20 = .ok (.iconst 1, 1) := by decide +kernel
theorem d_Row_isStem_21 : decode b_Row_isStem 21 = .ok (.isub, 1) := by decide +kernel
theorem d_Row_isStem_22 : decode b_Row_isStem 22 = .ok (.if_icmp .ne 7, 3) := by decide +kernel
theorem d_Row_isStem_25 : decode b_Row_isStem 25 = .ok (.iconst 1, 1) := by decide +kernel
theorem d_Row_isStem_26 : decode b_Row_isStem 26 = .ok (.goto 4, 3) := by decide +kernel
theorem d_Row_isStem_29 : decode b_Row_isStem 29 = .ok (.iconst 0, 1) := by decide +kernel
theorem d_Row_isStem_30 : decode b_Row_isStem 30 = .ok (.ireturn, 1) := by decide +kernel
theorem d_Row_isCompound_0 : decode b_Row_isCompound 0 = .ok (.aload_n 0, 1) := by decide +kernel
theorem d_Row_isCompound_1 : decode b_Row_isCompound 1 = .ok (.iconst 0, 1) := by decide +kernel
theorem d_Row_isCompound_2 : decode b_Row_isCompound 2 = .ok (.aload_n 0, 1) := by decide +kernel
theorem d_Row_isCompound_3 : decode b_Row_isCompound 3 = .ok (.getfield 21, 3) := by decide +kernel
theorem d_Row_isCompound_6 : decode b_Row_isCompound 6 = .ok (.invokevirtual 46, 3) := by decide +kernel
theorem d_Row_isCompound_9 : decode b_Row_isCompound 9 = .ok (.aload_n 0, 1) := by decide +kernel
theorem d_Row_isCompound_10 : decode b_Row_isCompound 10 = .ok (.getfield 21, 3) := by decide +kernel
theorem d_Row_isCompound_13 : decode b_Row_isCompound 13 = .ok (.iconst 1, 1) := by decide +kernel
theorem d_Row_isCompound_14 : decode b_Row_isCompound 14 = .ok (.isub, 1) := by decide +kernel
theorem d_Row_isCompound_15 : decode b_Row_isCompound 15 = .ok (.if_icmp .ge 7, 3) := by decide +kernel
theorem d_Row_isCompound_18 : decode b_Row_isCompound 18 = .ok (.iconst 1, 1) := by decide +kernel
theorem d_Row_isCompound_19 : decode b_Row_isCompound 19 = .ok (.goto 4, 3) := by decide +kernel
theorem d_Row_isCompound_22 : decode b_Row_isCompound 22 = .ok (.iconst 0, 1) := by decide +kernel
theorem d_Row_isCompound_23 : decode b_Row_isCompound 23 = .ok (.ireturn, 1) := by decide +kernel
theorem d_Ent_init_0 : decode b_Ent_init 0 = .ok (.aload_n 0, 1) := by decide +kernel
theorem d_Ent_init_1 : decode b_Ent_init 1 = .ok (.invokespecial 3, 3) := by decide +kernel
theorem d_Ent_init_4 : decode b_Ent_init 4 = .ok (.aload_n 0, 1) := by decide +kernel
theorem d_Ent_init_5 : decode b_Ent_init 5 = .ok (.new 9, 3) := by decide +kernel
theorem d_Ent_init_8 : decode b_Ent_init 8 = .ok (.dup, 1) := by decide +kernel
theorem d_Ent_init_9 : decode b_Ent_init 9 = .ok (.sipush 200, 3) := by decide +kernel
theorem d_Ent_init_12 : decode b_Ent_init 12 = .ok (.invokespecial 11, 3) := by decide +kernel
theorem d_Ent_init_15 : decode b_Ent_init 15 = .ok (.putfield 14, 3) := by decide +kernel
theorem d_Ent_init_18 : decode b_Ent_init 18 = .ok (.aload_n 0, 1) := by decide +kernel
theorem d_Ent_init_19 : decode b_Ent_init 19 = .ok (.new 9, 3) := by decide +kernel
theorem d_Ent_init_22 : decode b_Ent_init 22 = .ok (.dup, 1) := by decide +kernel
theorem d_Ent_init_23 : decode b_Ent_init 23 = .ok (.sipush 200, 3) := by decide +kernel
theorem d_Ent_init_26 : decode b_Ent_init 26 = .ok (.invokespecial 11, 3) := by decide +kernel
theorem d_Ent_init_29 : decode b_Ent_init 29 = .ok (.putfield 20, 3) := by decide +kernel
theorem d_Ent_init_32 : decode b_Ent_init 32 = .ok (.aload_n 0, 1) := by decide +kernel
theorem d_Ent_init_33 : decode b_Ent_init 33 = .ok (.iconst 0, 1) := by decide +kernel
theorem d_Ent_init_34 : decode b_Ent_init 34 = .ok (.putfield 23, 3) := by decide +kernel
theorem d_Ent_init_37 : decode b_Ent_init 37 = .ok (.aload_n 0, 1) := by decide +kernel
theorem d_Ent_init_38 : decode b_Ent_init 38 = .ok (.iconst 0, 1) := by decide +kernel
theorem d_Ent_init_39 : decode b_Ent_init 39 = .ok (.putfield 27, 3) := by decide +kernel
theorem d_Ent_init_42 : decode b_Ent_init 42 = .ok (.aload_n 0, 1) := by decide +kernel
theorem d_Ent_init_43 : decode b_Ent_init 43 = .ok (.iconst 0, 1) := by decide +kernel
theorem d_Ent_init_44 : decode b_Ent_init 44 = .ok (.putfield 31, 3) := by decide +kernel
theorem d_Ent_init_47 : decode b_Ent_init 47 = .ok (.return_, 1) := by decide +kernel
theorem d_She_init_0 : decode b_She_init 0 = .ok (.aload_n 0, 1) := by decide +kernel
theorem d_She_init_1 : decode b_She_init 1 = .ok (.invokespecial 3, 3) := by decide +kernel
theorem d_She_init_4 : decode b_She_init 4 = .ok (.aload_n 0, 1) := by decide +kernel
theorem d_She_init_5 : decode b_She_init 5 = .ok (.bipush 100, 2) := by decide +kernel
theorem d_She_init_7 : decode b_She_init 7 = .ok (.anewarray 9, 3) := by decide +kernel
theorem d_She_init_10 : decode b_She_init 10 = .ok (.putfield 11, 3) := by decide +kernel
theorem d_She_init_13 : decode b_She_init 13 = .ok (.iconst 0, 1) := by decide +kernel
theorem d_She_init_14 : decode b_She_init 14 = .ok (.istore_n 1, 1) := by decide +kernel
theorem d_She_init_15 : decode b_She_init 15 = .ok (.iload_n 1, 1) := by decide +kernel
theorem d_She_init_16 : decode b_She_init 16 = .ok (.aload_n 0, 1) := by decide +kernel
theorem d_She_init_17 : decode b_She_init 17 = .ok (.getfield 11, 3) := by decide +kernel
theorem d_She_init_20 : decode b_She_init 20 = .ok (.arraylength, 1) := by decide +kernel
theorem d_She_init_21 : decode b_She_init 21 = .ok (.if_icmp .ge 22, 3) := by decide +kernel
theorem d_She_init_24 : decode b_She_init 24 = .ok (.aload_n 0, 1) := by decide +kernel
theorem d_She_init_25 : decode b_She_init 25 = .ok (.getfield 11, 3) := by decide +kernel
theorem d_She_init_28 : decode b_She_init 28 = .ok (.iload_n 1, 1) := by decide +kernel
theorem d_She_init_29 : decode b_She_init 29 = .ok (.new 9, 3) := by decide +kernel
theorem d_She_init_32 : decode b_She_init 32 = .ok (.dup, 1) := by decide +kernel
theorem d_She_init_33 : decode b_She_init 33 = .ok (.invokespecial 17, 3) := by decide +kernel
theorem d_She_init_36 : decode b_She_init 36 = .ok (.aastore, 1) := by decide +kernel
theorem d_She_init_37 : decode b_She_init 37 = .ok (.iinc 1 1, 3) := by decide +kernel
theorem d_She_init_40 : decode b_She_init 40 = .ok (.goto (-25), 3) := by decide +kernel
theorem d_She_init_43 : decode b_She_init 43 = .ok (.aload_n 0, 1) := by decide +kernel
theorem d_She_init_44 : decode b_She_init 44 = .ok (.iconst 0, 1) := by decide +kernel
theorem d_She_init_45 : decode b_She_init 45 = .ok (.putfield 18, 3) := by decide +kernel
theorem d_She_init_48 : decode b_She_init 48 = .ok (.return_, 1) := by decide +kernel
theorem d_She_entryAt_0 : decode b_She_entryAt 0 = .ok (.iload_n 1, 1) := by decide +kernel
theorem d_She_entryAt_1 : decode b_She_entryAt 1 = .ok (.ifCond .lt 29, 3) := by decide +kernel
theorem d_She_entryAt_4 : decode b_She_entryAt 4 = .ok (.iload_n 1, 1) := by decide +kernel
theorem d_She_entryAt_5 : decode b_She_entryAt 5 = .ok (.aload_n 0, 1) := by decide +kernel
theorem d_She_entryAt_6 : decode b_She_entryAt 6 = .ok (.getfield 18, 3) := by decide +kernel
theorem d_She_entryAt_9 : decode b_She_entryAt 9 = .ok (.if_icmp .ge 21, 3) := by decide +kernel
theorem d_She_entryAt_12 : decode b_She_entryAt 12 = .ok (.iload_n 1, 1) := by decide +kernel
theorem d_She_entryAt_13 : decode b_She_entryAt 13 = .ok (.aload_n 0, 1) := by decide +kernel
theorem d_She_entryAt_14 : decode b_She_entryAt 14 = .ok (.getfield 11, 3) := by decide +kernel
theorem d_She_entryAt_17 : decode b_She_entryAt 17 = .ok (.arraylength, 1) := by decide +kernel
theorem d_She_entryAt_18 : decode b_She_entryAt 18 = .ok (.if_icmp .ge 12, 3) := by decide +kernel
theorem d_She_entryAt_21 : decode b_She_entryAt 21 = .ok (.aload_n 0, 1) := by decide +kernel
theorem d_She_entryAt_22 : decode b_She_entryAt 22 = .ok (.getfield 11, 3) := by decide +kernel
theorem d_She_entryAt_25 : decode b_She_entryAt 25 = .ok (.iload_n 1, 1) := by decide +kernel
theorem d_She_entryAt_26 : decode b_She_entryAt 26 = .ok (.aaload, 1) := by decide +kernel
theorem d_She_entryAt_27 : decode b_She_entryAt 27 = .ok (.goto 4, 3) := by decide +kernel
theorem d_She_entryAt_30 : decode b_She_entryAt 30 = .ok (.aconst_null, 1) := by decide +kernel
theorem d_She_entryAt_31 : decode b_She_entryAt 31 = .ok (.areturn, 1) := by decide +kernel
theorem d_She_find_0 : decode b_She_find 0 = .ok (.iconst 0, 1) := by decide +kernel
theorem d_She_find_1 : decode b_She_find 1 = .ok (.istore_n 3, 1) := by decide +kernel
theorem d_She_find_2 : decode b_She_find 2 = .ok (.iload_n 3, 1) := by decide +kernel
theorem d_She_find_3 : decode b_She_find 3 = .ok (.aload_n 0, 1) := by decide +kernel
theorem d_She_find_4 : decode b_She_find 4 = .ok (.getfield 18, 3) := by decide +kernel
theorem d_She_find_7 : decode b_She_find 7 = .ok (.if_icmp .ge 70, 3) := by decide +kernel
theorem d_She_find_10 : decode b_She_find 10 = .ok (.iload_n 3, 1) := by decide +kernel
theorem d_She_find_11 : decode b_She_find 11 = .ok (.aload_n 0, 1) := by decide +kernel
theorem d_She_find_12 : decode b_She_find 12 = .ok (.getfield 11, 3) := by decide +kernel
theorem d_She_find_15 : decode b_She_find 15 = .ok (.arraylength, 1) := by decide +kernel
theorem d_She_find_16 : decode b_She_find 16 = .ok (.if_icmp .ge 61, 3) := by decide +kernel
theorem d_She_find_19 : decode b_She_find 19 = .ok (.aload_n 0, 1) := by decide +kernel
theorem d_She_find_20 : decode b_She_find 20 = .ok (.getfield 11, 3) := by decide +kernel
theorem d_She_find_23 : decode b_She_find 23 = .ok (.iload_n 3, 1) := by decide +kernel
theorem d_She_find_24 : decode b_She_find 24 = .ok (.aaload, 1) := by decide +kernel
theorem d_She_find_25 : decode b_She_find 25 = .ok (.astore 4, 2) := by decide +kernel
theorem d_She_find_27 : decode b_She_find 27 = .ok (.aload 4, 2) := by decide +kernel
theorem d_She_find_29 : decode b_She_find 29 = .ok (.ifnull 42, 3) := by decide +kernel
theorem d_She_find_32 : decode b_She_find 32 = .ok (.aload 4, 2) := by decide +kernel
theorem d_She_find_34 : decode b_She_find 34 = .ok (.getfield 22, 3) := by decide +kernel
theorem d_She_find_37 : decode b_She_find 37 = .ok (.iload_n 2, 1) := by decide +kernel
theorem d_She_find_38 : decode b_She_find 38 = .ok (.if_icmp .ne 33, 3) := by decide +kernel
theorem d_She_find_41 : decode b_She_find 41 = .ok (.aload 4, 2) := by decide +kernel
theorem d_She_find_43 : decode b_She_find 43 = .ok (.getfield 25, 3) := by decide +kernel
theorem d_She_find_46 : decode b_She_find 46 = .ok (.getfield 29, 3) := by decide +kernel
theorem d_She_find_49 : decode b_She_find 49 = .ok (.aload_n 1, 1) := by decide +kernel
theorem d_She_find_50 : decode b_She_find 50 = .ok (.getfield 29, 3) := by decide +kernel
theorem d_She_find_53 : decode b_She_find 53 = .ok (.if_icmp .ne 18, 3) := by decide +kernel
theorem d_She_find_56 : decode b_She_find 56 = .ok (.aload 4, 2) := by decide +kernel
theorem d_She_find_58 : decode b_She_find 58 = .ok (.getfield 25, 3) := by decide +kernel
theorem d_She_find_61 : decode b_She_find 61 = .ok (.aload_n 1, 1) := by decide +kernel
theorem d_She_find_62 : decode b_She_find 62 = .ok (.invokevirtual 34, 3) := by decide +kernel
theorem d_She_find_65 : decode b_She_find 65 = .ok (.ifCond .eq 6, 3) := by decide +kernel
theorem d_She_find_68 : decode b_She_find 68 = .ok (.aload 4, 2) := by decide +kernel
theorem d_She_find_70 : decode b_She_find 70 = .ok (.areturn, 1) := by decide +kernel
theorem d_She_find_71 : decode b_She_find 71 = .ok (.iinc 3 1, 3) := by decide +kernel
theorem d_She_find_74 : decode b_She_find 74 = .ok (.goto (-72), 3) := by decide +kernel
theorem d_She_find_77 : decode b_She_find 77 = .ok (.aconst_null, 1) := by decide +kernel
theorem d_She_find_78 : decode b_She_find 78 = .ok (.areturn, 1) := by decide +kernel
theorem d_She_findOrAdd_0 : decode b_She_findOrAdd 0 = .ok (.aload_n 0, 1) := by decide +kernel
theorem d_She_findOrAdd_1 : decode b_She_findOrAdd 1 = .ok (.aload_n 1, 1) := by decide +kernel
theorem d_She_findOrAdd_2 : decode b_She_findOrAdd 2 = .ok (.iload_n 2, 1) := by decide +kernel
theorem d_She_findOrAdd_3 : decode b_She_findOrAdd 3 = .ok (.invokevirtual 38, 3) := by decide +kernel
theorem d_She_findOrAdd_6 : decode b_She_findOrAdd 6 = .ok (.astore_n 3, 1) := by decide +kernel
theorem d_She_findOrAdd_7 : decode b_She_findOrAdd 7 = .ok (.aload_n 3, 1) := by decide +kernel
theorem d_She_findOrAdd_8 : decode b_She_findOrAdd 8 = .ok (.ifnonnull 22, 3) := by decide +kernel
theorem d_She_findOrAdd_11 : decode b_She_findOrAdd 11 = .ok (.aload_n 0, 1) := by decide +kernel
theorem d_She_findOrAdd_12 : decode b_She_findOrAdd 12 = .ok (.getfield 18, 3) := by decide +kernel
theorem d_She_findOrAdd_15 : decode b_She_findOrAdd 15 = .ok (.ifCond .lt 15, 3) := by decide +kernel
theorem d_She_findOrAdd_18 : decode b_She_findOrAdd 18 = .ok (.aload_n 0, 1) := by decide +kernel
theorem d_She_findOrAdd_19 : decode b_She_findOrAdd 19 = .ok (.getfield 18, 3) := by decide +kernel
theorem d_She_findOrAdd_22 : decode b_She_findOrAdd 22 = .ok (.aload_n 0, 1) := by decide +kernel
theorem d_She_findOrAdd_23 : decode b_She_findOrAdd 23 = .ok (.getfield 11, 3) := by decide +kernel
theorem d_She_findOrAdd_26 : decode b_She_findOrAdd 26 = .ok (.arraylength, 1) := by decide +kernel
theorem d_She_findOrAdd_27 : decode b_She_findOrAdd 27 = .ok (.if_icmp .lt 5, 3) := by decide +kernel
theorem d_She_findOrAdd_30 : decode b_She_findOrAdd 30 = .ok (.aload_n 3, 1) := by decide +kernel
theorem d_She_findOrAdd_31 : decode b_She_findOrAdd 31 = .ok (.areturn, 1) := by decide +kernel
theorem d_She_findOrAdd_32 : decode b_She_findOrAdd 32 = .ok (.aload_n 0, 1) := by decide +kernel
theorem d_She_findOrAdd_33 : decode b_She_findOrAdd 33 = .ok (.getfield 11, 3) := by decide +kernel
theorem d_She_findOrAdd_36 : decode b_She_findOrAdd 36 = .ok (.aload_n 0, 1) := by decide +kernel
theorem d_She_findOrAdd_37 : decode b_She_findOrAdd 37 = .ok (.getfield 18, 3) := by decide +kernel
theorem d_She_findOrAdd_40 : decode b_She_findOrAdd 40 = .ok (.aaload, 1) := by decide +kernel
theorem d_She_findOrAdd_41 : decode b_She_findOrAdd 41 = .ok (.astore 4, 2) := by decide +kernel
theorem d_She_findOrAdd_43 : decode b_She_findOrAdd 43 = .ok (.aload 4, 2) := by decide +kernel
theorem d_She_findOrAdd_45 : decode b_She_findOrAdd 45 = .ok (.ifnull 48, 3) := by decide +kernel
theorem d_She_findOrAdd_48 : decode b_She_findOrAdd 48 = .ok (.aload 4, 2) := by decide +kernel
theorem d_She_findOrAdd_50 : decode b_She_findOrAdd 50 = .ok (.getfield 25, 3) := by decide +kernel
theorem d_She_findOrAdd_53 : decode b_She_findOrAdd 53 = .ok (.aload_n 1, 1) := by decide +kernel
theorem d_She_findOrAdd_54 : decode b_She_findOrAdd 54 = .ok (.invokevirtual 42, 3) := by decide +kernel
theorem d_She_findOrAdd_57 : decode b_She_findOrAdd 57 = .ok (.aload 4, 2) := by decide +kernel
theorem d_She_findOrAdd_59 : decode b_She_findOrAdd 59 = .ok (.getfield 46, 3) := by decide +kernel
theorem d_She_findOrAdd_62 : decode b_She_findOrAdd 62 = .ok (.invokevirtual 49, 3) := by decide +kernel
theorem d_She_findOrAdd_65 : decode b_She_findOrAdd 65 = .ok (.aload 4, 2) := by decide +kernel
theorem d_She_findOrAdd_67 : decode b_She_findOrAdd 67 = .ok (.iload_n 2, 1) := by decide +kernel
theorem d_She_findOrAdd_68 : decode b_She_findOrAdd 68 = .ok (.putfield 22, 3) := by decide +kernel
theorem d_She_findOrAdd_71 : decode b_She_findOrAdd 71 = .ok (.aload 4, 2) := by decide +kernel
theorem d_She_findOrAdd_73 : decode b_She_findOrAdd 73 = .ok (.iconst 0, 1) := by decide +kernel
theorem d_She_findOrAdd_74 : decode b_She_findOrAdd 74 = .ok (.putfield 52, 3) := by decide +kernel
theorem d_She_findOrAdd_77 : decode b_She_findOrAdd 77 = .ok (.aload 4, 2) := by decide +kernel
theorem d_She_findOrAdd_79 : decode b_She_findOrAdd 79 = .ok (.iconst 0, 1) := by decide +kernel
theorem d_She_findOrAdd_80 : decode b_She_findOrAdd 80 = .ok (.putfield 56, 3) := by decide +kernel
theorem d_She_findOrAdd_83 : decode b_She_findOrAdd 83 = .ok (.aload_n 0, 1) := by decide +kernel
theorem d_She_findOrAdd_84 : decode b_She_findOrAdd 84 = .ok (.dup, 1) := by decide +kernel
theorem d_She_findOrAdd_85 : decode b_She_findOrAdd 85 = .ok (.getfield 18, 3) := by decide +kernel
theorem d_She_findOrAdd_88 : decode b_She_findOrAdd 88 = .ok (.iconst 1, 1) := by decide +kernel
theorem d_She_findOrAdd_89 : decode b_She_findOrAdd 89 = .ok (.iadd, 1) := by decide +kernel
theorem d_She_findOrAdd_90 : decode b_She_findOrAdd 90 = .ok (.putfield 18, 3) := by decide +kernel
theorem d_She_findOrAdd_93 : decode b_She_findOrAdd 93 = .ok (.aload 4, 2) := by decide +kernel
theorem d_She_findOrAdd_95 : decode b_She_findOrAdd 95 = .ok (.areturn, 1) := by decide +kernel
theorem d_She_remove_0 : decode b_She_remove 0 = .ok (.aload_n 0, 1) := by decide +kernel
theorem d_She_remove_1 : decode b_She_remove 1 = .ok (.aload_n 1, 1) := by decide +kernel
theorem d_She_remove_2 : decode b_She_remove 2 = .ok (.iload_n 2, 1) := by decide +kernel
theorem d_She_remove_3 : decode b_She_remove 3 = .ok (.invokevirtual 38, 3) := by decide +kernel
theorem d_She_remove_6 : decode b_She_remove 6 = .ok (.astore_n 3, 1) := by decide +kernel
theorem d_She_remove_7 : decode b_She_remove 7 = .ok (.aload_n 3, 1) := by decide +kernel
theorem d_She_remove_8 : decode b_She_remove 8 = .ok (.ifnull 12, 3) := by decide +kernel
theorem d_She_remove_11 : decode b_She_remove 11 = .ok (.aload_n 3, 1) := by decide +kernel
theorem d_She_remove_12 : decode b_She_remove 12 = .ok (.iconst 1, 1) := by decide +kernel
theorem d_She_remove_13 : decode b_She_remove 13 = .ok (.putfield 56, 3) := by decide +kernel
theorem d_She_remove_16 : decode b_She_remove 16 = .ok (.aload_n 0, 1) := by decide +kernel
theorem d_She_remove_17 : decode b_She_remove 17 = .ok (.invokevirtual 59, 3) := by decide +kernel
theorem d_She_remove_20 : decode b_She_remove 20 = .ok (.return_, 1) := by decide +kernel
theorem d_She_clearBehind_0 : decode b_She_clearBehind 0 = .ok (.iconst 0, 1) := by decide +kernel
theorem d_She_clearBehind_1 : decode b_She_clearBehind 1 = .ok (.istore_n 3, 1) := by decide +kernel
theorem d_She_clearBehind_2 : decode b_She_clearBehind 2 = .ok (.iload_n 3, 1) := by decide +kernel
theorem d_She_clearBehind_3 : decode b_She_clearBehind 3 = .ok (.aload_n 0, 1) := by decide +kernel
theorem d_She_clearBehind_4 : decode b_She_clearBehind 4 = .ok (.getfield 18, 3) := by decide +kernel
theorem d_She_clearBehind_7 : decode b_She_clearBehind 7 = .ok (.if_icmp .ge 69, 3) := by decide +kernel
theorem d_She_clearBehind_10 : decode b_She_clearBehind 10 = .ok (.iload_n 3, 1) := by decide +kernel
theorem d_She_clearBehind_11 : decode b_She_clearBehind 11 = .ok (.aload_n 0, 1) := by decide +kernel
theorem d_She_clearBehind_12 : decode b_She_clearBehind 12 = .ok (.getfield 11, 3) := by decide +kernel
theorem d_She_clearBehind_15 : decode b_She_clearBehind 15 = .ok (.arraylength, 1) := by decide +kernel
theorem d_She_clearBehind_16 : decode b_She_clearBehind 16 = .ok (.if_icmp .ge 60, 3) := by decide +kernel
theorem d_She_clearBehind_19 : decode b_She_clearBehind 19 = .ok (.aload_n 0, 1) := by decide +kernel
theorem d_She_clearBehind_20 : decode b_She_clearBehind 20 = .ok (.getfield 11, 3) := by decide +kernel
theorem d_She_clearBehind_23 : decode b_She_clearBehind 23 = .ok (.iload_n 3, 1) := by decide +kernel
theorem d_She_clearBehind_24 : decode b_She_clearBehind 24 = .ok (.aaload, 1) := by decide +kernel
theorem d_She_clearBehind_25 : decode b_She_clearBehind 25 = .ok (.astore 4, 2) := by decide +kernel
theorem d_She_clearBehind_27 : decode b_She_clearBehind 27 = .ok (.aload 4, 2) := by decide +kernel
theorem d_She_clearBehind_29 : decode b_She_clearBehind 29 = .ok (.ifnull 41, 3) := by decide +kernel
theorem d_She_clearBehind_32 : decode b_She_clearBehind 32 = .ok (.aload 4, 2) := by decide +kernel
theorem d_She_clearBehind_34 : decode b_She_clearBehind 34 = .ok (.getfield 22, 3) := by decide +kernel
theorem d_She_clearBehind_37 : decode b_She_clearBehind 37 = .ok (.iload_n 2, 1) := by decide +kernel
theorem d_She_clearBehind_38 : decode b_She_clearBehind 38 = .ok (.if_icmp .ne 32, 3) := by decide +kernel
theorem d_She_clearBehind_41 : decode b_She_clearBehind 41 = .ok (.aload 4, 2) := by decide +kernel
theorem d_She_clearBehind_43 : decode b_She_clearBehind 43 = .ok (.getfield 25, 3) := by decide +kernel
theorem d_She_clearBehind_46 : decode b_She_clearBehind 46 = .ok (.getfield 29, 3) := by decide +kernel
theorem d_She_clearBehind_49 : decode b_She_clearBehind 49 = .ok (.aload_n 1, 1) := by decide +kernel
theorem d_She_clearBehind_50 : decode b_She_clearBehind 50 = .ok (.getfield 29, 3) := by decide +kernel
theorem d_She_clearBehind_53 : decode b_She_clearBehind 53 = .ok (.if_icmp .le 17, 3) := by decide +kernel
theorem d_She_clearBehind_56 : decode b_She_clearBehind 56 = .ok (.aload 4, 2) := by decide +kernel
theorem d_She_clearBehind_58 : decode b_She_clearBehind 58 = .ok (.aload 4, 2) := by decide +kernel
theorem d_She_clearBehind_60 : decode b_She_clearBehind 60 = .ok (.getfield 25, 3) := by decide +kernel
theorem d_She_clearBehind_63 : decode b_She_clearBehind 63 = .ok (.aload_n 1, 1) := by decide +kernel
theorem d_She_clearBehind_64 : decode b_She_clearBehind 64 = .ok (.invokevirtual 34, 3) := by decide +kernel
theorem d_She_clearBehind_67 : decode b_She_clearBehind 67 = .ok (.putfield 56, 3) := by decide +kernel
theorem d_She_clearBehind_70 : decode b_She_clearBehind 70 = .ok (.iinc 3 1, 3) := by decide +kernel
theorem d_She_clearBehind_73 : decode b_She_clearBehind 73 = .ok (.goto (-71), 3) := by decide +kernel
theorem d_She_clearBehind_76 : decode b_She_clearBehind 76 = .ok (.aload_n 0, 1) := by decide +kernel
theorem d_She_clearBehind_77 : decode b_She_clearBehind 77 = .ok (.invokevirtual 59, 3) := by decide +kernel
theorem d_She_clearBehind_80 : decode b_She_clearBehind 80 = .ok (.return_, 1) := by decide +kernel
theorem d_She_clearPool_0 : decode b_She_clearPool 0 = .ok (.iconst 0, 1) := by decide +kernel
theorem d_She_clearPool_1 : decode b_She_clearPool 1 = .ok (.istore_n 2, 1) := by decide +kernel
theorem d_She_clearPool_2 : decode b_She_clearPool 2 = .ok (.iload_n 2, 1) := by decide +kernel
theorem d_She_clearPool_3 : decode b_She_clearPool 3 = .ok (.aload_n 0, 1) := by decide +kernel
theorem d_She_clearPool_4 : decode b_She_clearPool 4 = .ok (.getfield 18, 3) := by decide +kernel
theorem d_She_clearPool_7 : decode b_She_clearPool 7 = .ok (.if_icmp .ge 42, 3) := by decide +kernel
theorem d_She_clearPool_10 : decode b_She_clearPool 10 = .ok (.iload_n 2, 1) := by decide +kernel
theorem d_She_clearPool_11 : decode b_She_clearPool 11 = .ok (.aload_n 0, 1) := by decide +kernel
theorem d_She_clearPool_12 : decode b_She_clearPool 12 = .ok (.getfield 11, 3) := by decide +kernel
theorem d_She_clearPool_15 : decode b_She_clearPool 15 = .ok (.arraylength, 1) := by decide +kernel
theorem d_She_clearPool_16 : decode b_She_clearPool 16 = .ok (.if_icmp .ge 33, 3) := by decide +kernel
theorem d_She_clearPool_19 : decode b_She_clearPool 19 = .ok (.aload_n 0, 1) := by decide +kernel
theorem d_She_clearPool_20 : decode b_She_clearPool 20 = .ok (.getfield 11, 3) := by decide +kernel
theorem d_She_clearPool_23 : decode b_She_clearPool 23 = .ok (.iload_n 2, 1) := by decide +kernel
theorem d_She_clearPool_24 : decode b_She_clearPool 24 = .ok (.aaload, 1) := by decide +kernel
theorem d_She_clearPool_25 : decode b_She_clearPool 25 = .ok (.astore_n 3, 1) := by decide +kernel
theorem d_She_clearPool_26 : decode b_She_clearPool 26 = .ok (.aload_n 3, 1) := by decide +kernel
theorem d_She_clearPool_27 : decode b_She_clearPool 27 = .ok (.ifnull 16, 3) := by decide +kernel
theorem d_She_clearPool_30 : decode b_She_clearPool 30 = .ok (.aload_n 3, 1) := by decide +kernel
theorem d_She_clearPool_31 : decode b_She_clearPool 31 = .ok (.getfield 22, 3) := by decide +kernel
theorem d_She_clearPool_34 : decode b_She_clearPool 34 = .ok (.iload_n 1, 1) := by decide +kernel
theorem d_She_clearPool_35 : decode b_She_clearPool 35 = .ok (.if_icmp .ne 8, 3) := by decide +kernel
theorem d_She_clearPool_38 : decode b_She_clearPool 38 = .ok (.aload_n 3, 1) := by decide +kernel
theorem d_She_clearPool_39 : decode b_She_clearPool 39 = .ok (.iconst 1, 1) := by decide +kernel
theorem d_She_clearPool_40 : decode b_She_clearPool 40 = .ok (.putfield 56, 3) := by decide +kernel
theorem d_She_clearPool_43 : decode b_She_clearPool 43 = .ok (.iinc 2 1, 3) := by decide +kernel
theorem d_She_clearPool_46 : decode b_She_clearPool 46 = .ok (.goto (-44), 3) := by decide +kernel
theorem d_She_clearPool_49 : decode b_She_clearPool 49 = .ok (.aload_n 0, 1) := by decide +kernel
theorem d_She_clearPool_50 : decode b_She_clearPool 50 = .ok (.invokevirtual 59, 3) := by decide +kernel
theorem d_She_clearPool_53 : decode b_She_clearPool 53 = .ok (.return_, 1) := by decide +kernel
theorem d_She_sweep_0 : decode b_She_sweep 0 = .ok (.iconst 0, 1) := by decide +kernel
theorem d_She_sweep_1 : decode b_She_sweep 1 = .ok (.istore_n 1, 1) := by decide +kernel
theorem d_She_sweep_2 : decode b_She_sweep 2 = .ok (.iconst 0, 1) := by decide +kernel
theorem d_She_sweep_3 : decode b_She_sweep 3 = .ok (.istore_n 2, 1) := by decide +kernel
theorem d_She_sweep_4 : decode b_She_sweep 4 = .ok (.iload_n 2, 1) := by decide +kernel
theorem d_She_sweep_5 : decode b_She_sweep 5 = .ok (.aload_n 0, 1) := by decide +kernel
theorem d_She_sweep_6 : decode b_She_sweep 6 = .ok (.getfield 18, 3) := by decide +kernel
theorem d_She_sweep_9 : decode b_She_sweep 9 = .ok (.if_icmp .ge 58, 3) := by decide +kernel
theorem d_She_sweep_12 : decode b_She_sweep 12 = .ok (.iload_n 2, 1) := by decide +kernel
theorem d_She_sweep_13 : decode b_She_sweep 13 = .ok (.aload_n 0, 1) := by decide +kernel
theorem d_She_sweep_14 : decode b_She_sweep 14 = .ok (.getfield 11, 3) := by decide +kernel
theorem d_She_sweep_17 : decode b_She_sweep 17 = .ok (.arraylength, 1) := by decide +kernel
theorem d_She_sweep_18 : decode b_She_sweep 18 = .ok (.if_icmp .ge 49, 3) := by decide +kernel
theorem d_She_sweep_21 : decode b_She_sweep 21 = .ok (.aload_n 0, 1) := by decide +kernel
theorem d_She_sweep_22 : decode b_She_sweep 22 = .ok (.getfield 11, 3) := by decide +kernel
theorem d_She_sweep_25 : decode b_She_sweep 25 = .ok (.iload_n 2, 1) := by decide +kernel
theorem d_She_sweep_26 : decode b_She_sweep 26 = .ok (.aaload, 1) := by decide +kernel
theorem d_She_sweep_27 : decode b_She_sweep 27 = .ok (.astore_n 3, 1) := by decide +kernel
theorem d_She_sweep_28 : decode b_She_sweep 28 = .ok (.aload_n 3, 1) := by decide +kernel
theorem d_She_sweep_29 : decode b_She_sweep 29 = .ok (.ifnull 32, 3) := by decide +kernel
theorem d_She_sweep_32 : decode b_She_sweep 32 = .ok (.aload_n 3, 1) := by decide +kernel
theorem d_She_sweep_33 : decode b_She_sweep 33 = .ok (.getfield 56, 3) := by decide +kernel
theorem d_She_sweep_36 : decode b_She_sweep 36 = .ok (.ifCond .ne 25, 3) := by decide +kernel
theorem d_She_sweep_39 : decode b_She_sweep 39 = .ok (.aload_n 0, 1) := by decide +kernel
theorem d_She_sweep_40 : decode b_She_sweep 40 = .ok (.getfield 11, 3) := by decide +kernel
theorem d_She_sweep_43 : decode b_She_sweep 43 = .ok (.iload_n 2, 1) := by decide +kernel
theorem d_She_sweep_44 : decode b_She_sweep 44 = .ok (.aload_n 0, 1) := by decide +kernel
theorem d_She_sweep_45 : decode b_She_sweep 45 = .ok (.getfield 11, 3) := by decide +kernel
theorem d_She_sweep_48 : decode b_She_sweep 48 = .ok (.iload_n 1, 1) := by decide +kernel
theorem d_She_sweep_49 : decode b_She_sweep 49 = .ok (.aaload, 1) := by decide +kernel
theorem d_She_sweep_50 : decode b_She_sweep 50 = .ok (.aastore, 1) := by decide +kernel
theorem d_She_sweep_51 : decode b_She_sweep 51 = .ok (.aload_n 0, 1) := by decide +kernel
theorem d_She_sweep_52 : decode b_She_sweep 52 = .ok (.getfield 11, 3) := by decide +kernel
theorem d_She_sweep_55 : decode b_She_sweep 55 = .ok (.iload_n 1, 1) := by decide +kernel
theorem d_She_sweep_56 : decode b_She_sweep 56 = .ok (.aload_n 3, 1) := by decide +kernel
theorem d_She_sweep_57 : decode b_She_sweep 57 = .ok (.aastore, 1) := by decide +kernel
theorem d_She_sweep_58 : decode b_She_sweep 58 = .ok (.iinc 1 1, 3) := by decide +kernel
theorem d_She_sweep_61 : decode b_She_sweep 61 = .ok (.iinc 2 1, 3) := by decide +kernel
theorem d_She_sweep_64 : decode b_She_sweep 64 = .ok (.goto (-60), 3) := by decide +kernel
theorem d_She_sweep_67 : decode b_She_sweep 67 = .ok (.aload_n 0, 1) := by decide +kernel
theorem d_She_sweep_68 : decode b_She_sweep 68 = .ok (.iload_n 1, 1) := by decide +kernel
theorem d_She_sweep_69 : decode b_She_sweep 69 = .ok (.putfield 18, 3) := by decide +kernel
theorem d_She_sweep_72 : decode b_She_sweep 72 = .ok (.return_, 1) := by decide +kernel
theorem d_Sig_init_0 : decode b_Sig_init 0 = .ok (.aload_n 0, 1) := by decide +kernel
theorem d_Sig_init_1 : decode b_Sig_init 1 = .ok (.invokespecial 3, 3) := by decide +kernel
theorem d_Sig_init_4 : decode b_Sig_init 4 = .ok (.aload_n 0, 1) := by decide +kernel
theorem d_Sig_init_5 : decode b_Sig_init 5 = .ok (.new 9, 3) := by decide +kernel
theorem d_Sig_init_8 : decode b_Sig_init 8 = .ok (.dup, 1) := by decide +kernel
theorem d_Sig_init_9 : decode b_Sig_init 9 = .ok (.sipush 200, 3) := by decide +kernel
theorem d_Sig_init_12 : decode b_Sig_init 12 = .ok (.invokespecial 11, 3) := by decide +kernel
theorem d_Sig_init_15 : decode b_Sig_init 15 = .ok (.putfield 14, 3) := by decide +kernel
theorem d_Sig_init_18 : decode b_Sig_init 18 = .ok (.aload_n 0, 1) := by decide +kernel
theorem d_Sig_init_19 : decode b_Sig_init 19 = .ok (.iconst 0, 1) := by decide +kernel
theorem d_Sig_init_20 : decode b_Sig_init 20 = .ok (.putfield 20, 3) := by decide +kernel
theorem d_Sig_init_23 : decode b_Sig_init 23 = .ok (.aload_n 0, 1) := by decide +kernel
theorem d_Sig_init_24 : decode b_Sig_init 24 = .ok (.iconst 0, 1) := by decide +kernel
theorem d_Sig_init_25 : decode b_Sig_init 25 = .ok (.putfield 24, 3) := by decide +kernel
theorem d_Sig_init_28 : decode b_Sig_init 28 = .ok (.return_, 1) := by decide +kernel
theorem d_Sig_holds_0 : decode b_Sig_holds 0 = .ok (.aload_n 0, 1) := by decide +kernel
theorem d_Sig_holds_1 : decode b_Sig_holds 1 = .ok (.getfield 24, 3) := by decide +kernel
theorem d_Sig_holds_4 : decode b_Sig_holds 4 = .ok (.ifCond .ne 17, 3) := by decide +kernel
theorem d_Sig_holds_7 : decode b_Sig_holds 7 = .ok (.aload_n 1, 1) := by decide +kernel
theorem d_Sig_holds_8 : decode b_Sig_holds 8 = .ok (.getfield 28, 3) := by decide +kernel
theorem d_Sig_holds_11 : decode b_Sig_holds 11 = .ok (.aload_n 0, 1) := by decide +kernel
theorem d_Sig_holds_12 : decode b_Sig_holds 12 = .ok (.getfield 14, 3) := by decide +kernel
theorem d_Sig_holds_15 : decode b_Sig_holds 15 = .ok (.getfield 28, 3) := by decide +kernel
theorem d_Sig_holds_18 : decode b_Sig_holds 18 = .ok (.if_icmp .ne 18, 3) := by decide +kernel
theorem d_Sig_holds_21 : decode b_Sig_holds 21 = .ok (.aload_n 1, 1) := by decide +kernel
theorem d_Sig_holds_22 : decode b_Sig_holds 22 = .ok (.aload_n 0, 1) := by decide +kernel
theorem d_Sig_holds_23 : decode b_Sig_holds 23 = .ok (.getfield 14, 3) := by decide +kernel
theorem d_Sig_holds_26 : decode b_Sig_holds 26 = .ok (.invokevirtual 31, 3) := by decide +kernel
theorem d_Sig_holds_29 : decode b_Sig_holds 29 = .ok (.ifCond .eq 7, 3) := by decide +kernel
theorem d_Sig_holds_32 : decode b_Sig_holds 32 = .ok (.iconst 1, 1) := by decide +kernel
theorem d_Sig_holds_33 : decode b_Sig_holds 33 = .ok (.goto 4, 3) := by decide +kernel
theorem d_Sig_holds_36 : decode b_Sig_holds 36 = .ok (.iconst 0, 1) := by decide +kernel
theorem d_Sig_holds_37 : decode b_Sig_holds 37 = .ok (.ireturn, 1) := by decide +kernel
theorem d_Poo_init_0 : decode b_Poo_init 0 = .ok (.aload_n 0, 1) := by decide +kernel
theorem d_Poo_init_1 : decode b_Poo_init 1 = .ok (.invokespecial 3, 3) := by decide +kernel
theorem d_Poo_init_4 : decode b_Poo_init 4 = .ok (.aload_n 0, 1) := by decide +kernel
theorem d_Poo_init_5 : decode b_Poo_init 5 = .ok (.bipush 84, 2) := by decide +kernel
theorem d_Poo_init_7 : decode b_Poo_init 7 = .ok (.anewarray 9, 3) := by decide +kernel
theorem d_Poo_init_10 : decode b_Poo_init 10 = .ok (.putfield 11, 3) := by decide +kernel
theorem d_Poo_init_13 : decode b_Poo_init 13 = .ok (.iconst 0, 1) := by decide +kernel
theorem d_Poo_init_14 : decode b_Poo_init 14 = .ok (.istore_n 1, 1) := by decide +kernel
theorem d_Poo_init_15 : decode b_Poo_init 15 = .ok (.iload_n 1, 1) := by decide +kernel
theorem d_Poo_init_16 : decode b_Poo_init 16 = .ok (.aload_n 0, 1) := by decide +kernel
theorem d_Poo_init_17 : decode b_Poo_init 17 = .ok (.getfield 11, 3) := by decide +kernel
theorem d_Poo_init_20 : decode b_Poo_init 20 = .ok (.arraylength, 1) := by decide +kernel
theorem d_Poo_init_21 : decode b_Poo_init 21 = .ok (.if_icmp .ge 22, 3) := by decide +kernel
theorem d_Poo_init_24 : decode b_Poo_init 24 = .ok (.aload_n 0, 1) := by decide +kernel
theorem d_Poo_init_25 : decode b_Poo_init 25 = .ok (.getfield 11, 3) := by decide +kernel
theorem d_Poo_init_28 : decode b_Poo_init 28 = .ok (.iload_n 1, 1) := by decide +kernel
theorem d_Poo_init_29 : decode b_Poo_init 29 = .ok (.new 9, 3) := by decide +kernel
theorem d_Poo_init_32 : decode b_Poo_init 32 = .ok (.dup, 1) := by decide +kernel
theorem d_Poo_init_33 : decode b_Poo_init 33 = .ok (.invokespecial 17, 3) := by decide +kernel
theorem d_Poo_init_36 : decode b_Poo_init 36 = .ok (.aastore, 1) := by decide +kernel
theorem d_Poo_init_37 : decode b_Poo_init 37 = .ok (.iinc 1 1, 3) := by decide +kernel
theorem d_Poo_init_40 : decode b_Poo_init 40 = .ok (.goto (-25), 3) := by decide +kernel
theorem d_Poo_init_43 : decode b_Poo_init 43 = .ok (.aload_n 0, 1) := by decide +kernel
theorem d_Poo_init_44 : decode b_Poo_init 44 = .ok (.iconst 0, 1) := by decide +kernel
theorem d_Poo_init_45 : decode b_Poo_init 45 = .ok (.putfield 18, 3) := by decide +kernel
theorem d_Poo_init_48 : decode b_Poo_init 48 = .ok (.aload_n 0, 1) := by decide +kernel
theorem d_Poo_init_49 : decode b_Poo_init 49 = .ok (.iconst 1, 1) := by decide +kernel
theorem d_Poo_init_50 : decode b_Poo_init 50 = .ok (.putfield 22, 3) := by decide +kernel
theorem d_Poo_init_53 : decode b_Poo_init 53 = .ok (.return_, 1) := by decide +kernel
theorem d_Poo_innermost_0 : decode b_Poo_innermost 0 = .ok (.aload_n 0, 1) := by decide +kernel
theorem d_Poo_innermost_1 : decode b_Poo_innermost 1 = .ok (.getfield 22, 3) := by decide +kernel
theorem d_Poo_innermost_4 : decode b_Poo_innermost 4 = .ok (.iconst 1, 1) := by decide +kernel
theorem d_Poo_innermost_5 : decode b_Poo_innermost 5 = .ok (.isub, 1) := by decide +kernel
theorem d_Poo_innermost_6 : decode b_Poo_innermost 6 = .ok (.ireturn, 1) := by decide +kernel
theorem d_Poo_enter_0 : decode b_Poo_enter 0 = .ok (.aload_n 0, 1) := by decide +kernel
theorem d_Poo_enter_1 : decode b_Poo_enter 1 = .ok (.dup, 1) := by decide +kernel
theorem d_Poo_enter_2 : decode b_Poo_enter 2 = .ok (.getfield 22, 3) := by decide +kernel
theorem d_Poo_enter_5 : decode b_Poo_enter 5 = .ok (.iconst 1, 1) := by decide +kernel
theorem d_Poo_enter_6 : decode b_Poo_enter 6 = .ok (.iadd, 1) := by decide +kernel
theorem d_Poo_enter_7 : decode b_Poo_enter 7 = .ok (.putfield 22, 3) := by decide +kernel
theorem d_Poo_enter_10 : decode b_Poo_enter 10 = .ok (.return_, 1) := by decide +kernel
theorem d_Poo_leave_0 : decode b_Poo_leave 0 = .ok (.aload_n 0, 1) := by decide +kernel
theorem d_Poo_leave_1 : decode b_Poo_leave 1 = .ok (.dup, 1) := by decide +kernel
theorem d_Poo_leave_2 : decode b_Poo_leave 2 = .ok (.getfield 18, 3) := by decide +kernel
theorem d_Poo_leave_5 : decode b_Poo_leave 5 = .ok (.aload_n 0, 1) := by decide +kernel
theorem d_Poo_leave_6 : decode b_Poo_leave 6 = .ok (.invokevirtual 25, 3) := by decide +kernel
theorem d_Poo_leave_9 : decode b_Poo_leave 9 = .ok (.isub, 1) := by decide +kernel
theorem d_Poo_leave_10 : decode b_Poo_leave 10 = .ok (.putfield 18, 3) := by decide +kernel
theorem d_Poo_leave_13 : decode b_Poo_leave 13 = .ok (.aload_n 0, 1) := by decide +kernel
theorem d_Poo_leave_14 : decode b_Poo_leave 14 = .ok (.dup, 1) := by decide +kernel
theorem d_Poo_leave_15 : decode b_Poo_leave 15 = .ok (.getfield 22, 3) := by decide +kernel
theorem d_Poo_leave_18 : decode b_Poo_leave 18 = .ok (.iconst 1, 1) := by decide +kernel
theorem d_Poo_leave_19 : decode b_Poo_leave 19 = .ok (.isub, 1) := by decide +kernel
theorem d_Poo_leave_20 : decode b_Poo_leave 20 = .ok (.putfield 22, 3) := by decide +kernel
theorem d_Poo_leave_23 : decode b_Poo_leave 23 = .ok (.return_, 1) := by decide +kernel
theorem d_Poo_owner_0 : decode b_Poo_owner 0 = .ok (.iload_n 2, 1) := by decide +kernel
theorem d_Poo_owner_1 : decode b_Poo_owner 1 = .ok (.istore_n 3, 1) := by decide +kernel
theorem d_Poo_owner_2 : decode b_Poo_owner 2 = .ok (.aload_n 0, 1) := by decide +kernel
theorem d_Poo_owner_3 : decode b_Poo_owner 3 = .ok (.getfield 18, 3) := by decide +kernel
theorem d_Poo_owner_6 : decode b_Poo_owner 6 = .ok (.aload_n 0, 1) := by decide +kernel
theorem d_Poo_owner_7 : decode b_Poo_owner 7 = .ok (.getfield 11, 3) := by decide +kernel
theorem d_Poo_owner_10 : decode b_Poo_owner 10 = .ok (.arraylength, 1) := by decide +kernel
theorem d_Poo_owner_11 : decode b_Poo_owner 11 = .ok (.invokestatic 29, 3) := by decide +kernel
theorem d_Poo_owner_14 : decode b_Poo_owner 14 = .ok (.iconst 1, 1) := by decide +kernel
theorem d_Poo_owner_15 : decode b_Poo_owner 15 = .ok (.isub, 1) := by decide +kernel
theorem d_Poo_owner_16 : decode b_Poo_owner 16 = .ok (.istore 4, 2) := by decide +kernel
theorem d_Poo_owner_18 : decode b_Poo_owner 18 = .ok (.iload 4, 2) := by decide +kernel
theorem d_Poo_owner_20 : decode b_Poo_owner 20 = .ok (.ifCond .lt 44, 3) := by decide +kernel
theorem d_Poo_owner_23 : decode b_Poo_owner 23 = .ok (.aload_n 0, 1) := by decide +kernel
theorem d_Poo_owner_24 : decode b_Poo_owner 24 = .ok (.getfield 11, 3) := by decide +kernel
theorem d_Poo_owner_27 : decode b_Poo_owner 27 = .ok (.iload 4, 2) := by decide +kernel
theorem d_Poo_owner_29 : decode b_Poo_owner 29 = .ok (.aaload, 1) := by decide +kernel
theorem d_Poo_owner_30 : decode b_Poo_owner 30 = .ok (.astore 5, 2) := by decide +kernel
theorem d_Poo_owner_32 : decode b_Poo_owner 32 = .ok (.aload 5, 2) := by decide +kernel
theorem d_Poo_owner_34 : decode b_Poo_owner 34 = .ok (.ifnull 24, 3) := by decide +kernel
theorem d_Poo_owner_37 : decode b_Poo_owner 37 = .ok (.aload 5, 2) := by decide +kernel
theorem d_Poo_owner_39 : decode b_Poo_owner 39 = .ok (.getfield 35, 3) := by decide +kernel
theorem d_Poo_owner_42 : decode b_Poo_owner 42 = .ok (.iload_n 3, 1) := by decide +kernel
theorem d_Poo_owner_43 : decode b_Poo_owner 43 = .ok (.if_icmp .ne 15, 3) := by decide +kernel
theorem d_Poo_owner_46 : decode b_Poo_owner 46 = .ok (.aload 5, 2) := by decide +kernel
theorem d_Poo_owner_48 : decode b_Poo_owner 48 = .ok (.aload_n 1, 1) := by decide +kernel
theorem d_Poo_owner_49 : decode b_Poo_owner 49 = .ok (.invokevirtual 38, 3) := by decide +kernel
theorem d_Poo_owner_52 : decode b_Poo_owner 52 = .ok (.ifCond .eq 6, 3) := by decide +kernel
theorem d_Poo_owner_55 : decode b_Poo_owner 55 = .ok (.iinc 3 (-1), 3) := by decide +kernel
theorem d_Poo_owner_58 : decode b_Poo_owner 58 = .ok (.iinc 4 (-1), 3) := by decide +kernel
theorem d_Poo_owner_61 : decode b_Poo_owner 61 = .ok (.goto (-43), 3) := by decide +kernel
theorem d_Poo_owner_64 : decode b_Poo_owner 64 = .ok (.iload_n 3, 1) := by decide +kernel
theorem d_Poo_owner_65 : decode b_Poo_owner 65 = .ok (.ireturn, 1) := by decide +kernel
theorem d_Poo_see_0 : decode b_Poo_see 0 = .ok (.aload_n 0, 1) := by decide +kernel
theorem d_Poo_see_1 : decode b_Poo_see 1 = .ok (.aload_n 1, 1) := by decide +kernel
theorem d_Poo_see_2 : decode b_Poo_see 2 = .ok (.invokevirtual 42, 3) := by decide +kernel
theorem d_Poo_see_5 : decode b_Poo_see 5 = .ok (.ifCond .ne 22, 3) := by decide +kernel
theorem d_Poo_see_8 : decode b_Poo_see 8 = .ok (.aload_n 0, 1) := by decide +kernel
theorem d_Poo_see_9 : decode b_Poo_see 9 = .ok (.getfield 18, 3) := by decide +kernel
theorem d_Poo_see_12 : decode b_Poo_see 12 = .ok (.ifCond .lt 15, 3) := by decide +kernel
theorem d_Poo_see_15 : decode b_Poo_see 15 = .ok (.aload_n 0, 1) := by decide +kernel
theorem d_Poo_see_16 : decode b_Poo_see 16 = .ok (.getfield 18, 3) := by decide +kernel
theorem d_Poo_see_19 : decode b_Poo_see 19 = .ok (.aload_n 0, 1) := by decide +kernel
theorem d_Poo_see_20 : decode b_Poo_see 20 = .ok (.getfield 11, 3) := by decide +kernel
theorem d_Poo_see_23 : decode b_Poo_see 23 = .ok (.arraylength, 1) := by decide +kernel
theorem d_Poo_see_24 : decode b_Poo_see 24 = .ok (.if_icmp .lt 4, 3) := by decide +kernel
theorem d_Poo_see_27 : decode b_Poo_see 27 = .ok (.return_, 1) := by decide +kernel
theorem d_Poo_see_28 : decode b_Poo_see 28 = .ok (.aload_n 0, 1) := by decide +kernel
theorem d_Poo_see_29 : decode b_Poo_see 29 = .ok (.getfield 11, 3) := by decide +kernel
theorem d_Poo_see_32 : decode b_Poo_see 32 = .ok (.aload_n 0, 1) := by decide +kernel
theorem d_Poo_see_33 : decode b_Poo_see 33 = .ok (.getfield 18, 3) := by decide +kernel
theorem d_Poo_see_36 : decode b_Poo_see 36 = .ok (.aaload, 1) := by decide +kernel
theorem d_Poo_see_37 : decode b_Poo_see 37 = .ok (.astore_n 2, 1) := by decide +kernel
theorem d_Poo_see_38 : decode b_Poo_see 38 = .ok (.aload_n 2, 1) := by decide +kernel
theorem d_Poo_see_39 : decode b_Poo_see 39 = .ok (.ifnull 37, 3) := by decide +kernel
theorem d_Poo_see_42 : decode b_Poo_see 42 = .ok (.aload_n 2, 1) := by decide +kernel
theorem d_Poo_see_43 : decode b_Poo_see 43 = .ok (.getfield 45, 3) := by decide +kernel
theorem d_Poo_see_46 : decode b_Poo_see 46 = .ok (.aload_n 1, 1) := by decide +kernel
theorem d_Poo_see_47 : decode b_Poo_see 47 = .ok (.invokevirtual 49, 3) := by decide +kernel
theorem d_Poo_see_50 : decode b_Poo_see 50 = .ok (.aload_n 2, 1) := by decide +kernel
theorem d_Poo_see_51 : decode b_Poo_see 51 = .ok (.aload_n 0, 1) := by decide +kernel
theorem d_Poo_see_52 : decode b_Poo_see 52 = .ok (.invokevirtual 55, 3) := by decide +kernel
theorem d_Poo_see_55 : decode b_Poo_see 55 = .ok (.putfield 35, 3) := by decide +kernel
theorem d_Poo_see_58 : decode b_Poo_see 58 = .ok (.aload_n 2, 1) := by decide +kernel
theorem d_Poo_see_59 : decode b_Poo_see 59 = .ok (.aload_n 1, 1) := by decide +kernel
theorem d_Poo_see_60 : decode b_Poo_see 60 = .ok (.invokevirtual 58, 3) := by decide +kernel
theorem d_Poo_see_63 : decode b_Poo_see 63 = .ok (.putfield 62, 3) := by decide +kernel
theorem d_Poo_see_66 : decode b_Poo_see 66 = .ok (.aload_n 0, 1) := by decide +kernel
theorem d_Poo_see_67 : decode b_Poo_see 67 = .ok (.dup, 1) := by decide +kernel
theorem d_Poo_see_68 : decode b_Poo_see 68 = .ok (.getfield 18, 3) := by decide +kernel
theorem d_Poo_see_71 : decode b_Poo_see 71 = .ok (.iconst 1, 1) := by decide +kernel
theorem d_Poo_see_72 : decode b_Poo_see 72 = .ok (.iadd, 1) := by decide +kernel
theorem d_Poo_see_73 : decode b_Poo_see 73 = .ok (.putfield 18, 3) := by decide +kernel
theorem d_Poo_see_76 : decode b_Poo_see 76 = .ok (.return_, 1) := by decide +kernel
theorem d_Poo_sees_0 : decode b_Poo_sees 0 = .ok (.iconst 0, 1) := by decide +kernel
theorem d_Poo_sees_1 : decode b_Poo_sees 1 = .ok (.istore_n 2, 1) := by decide +kernel
theorem d_Poo_sees_2 : decode b_Poo_sees 2 = .ok (.iload_n 2, 1) := by decide +kernel
theorem d_Poo_sees_3 : decode b_Poo_sees 3 = .ok (.aload_n 0, 1) := by decide +kernel
theorem d_Poo_sees_4 : decode b_Poo_sees 4 = .ok (.getfield 18, 3) := by decide +kernel
theorem d_Poo_sees_7 : decode b_Poo_sees 7 = .ok (.if_icmp .ge 67, 3) := by decide +kernel
theorem d_Poo_sees_10 : decode b_Poo_sees 10 = .ok (.iload_n 2, 1) := by decide +kernel
theorem d_Poo_sees_11 : decode b_Poo_sees 11 = .ok (.aload_n 0, 1) := by decide +kernel
theorem d_Poo_sees_12 : decode b_Poo_sees 12 = .ok (.getfield 11, 3) := by decide +kernel
theorem d_Poo_sees_15 : decode b_Poo_sees 15 = .ok (.arraylength, 1) := by decide +kernel
theorem d_Poo_sees_16 : decode b_Poo_sees 16 = .ok (.if_icmp .ge 58, 3) := by decide +kernel
theorem d_Poo_sees_19 : decode b_Poo_sees 19 = .ok (.aload_n 0, 1) := by decide +kernel
theorem d_Poo_sees_20 : decode b_Poo_sees 20 = .ok (.getfield 11, 3) := by decide +kernel
theorem d_Poo_sees_23 : decode b_Poo_sees 23 = .ok (.iload_n 2, 1) := by decide +kernel
theorem d_Poo_sees_24 : decode b_Poo_sees 24 = .ok (.aaload, 1) := by decide +kernel
theorem d_Poo_sees_25 : decode b_Poo_sees 25 = .ok (.astore_n 3, 1) := by decide +kernel
theorem d_Poo_sees_26 : decode b_Poo_sees 26 = .ok (.aload_n 3, 1) := by decide +kernel
theorem d_Poo_sees_27 : decode b_Poo_sees 27 = .ok (.ifnull 41, 3) := by decide +kernel
theorem d_Poo_sees_30 : decode b_Poo_sees 30 = .ok (.aload_n 3, 1) := by decide +kernel
theorem d_Poo_sees_31 : decode b_Poo_sees 31 = .ok (.getfield 35, 3) := by decide +kernel
theorem d_Poo_sees_34 : decode b_Poo_sees 34 = .ok (.aload_n 0, 1) := by decide +kernel
theorem d_Poo_sees_35 : decode b_Poo_sees 35 = .ok (.invokevirtual 55, 3) := by decide +kernel
theorem d_Poo_sees_38 : decode b_Poo_sees 38 = .ok (.if_icmp .ne 30, 3) := by decide +kernel
theorem d_Poo_sees_41 : decode b_Poo_sees 41 = .ok (.aload_n 3, 1) := by decide +kernel
theorem d_Poo_sees_42 : decode b_Poo_sees 42 = .ok (.getfield 45, 3) := by decide +kernel
theorem d_Poo_sees_45 : decode b_Poo_sees 45 = .ok (.getfield 66, 3) := by decide +kernel
theorem d_Poo_sees_48 : decode b_Poo_sees 48 = .ok (.aload_n 1, 1) := by decide +kernel
theorem d_Poo_sees_49 : decode b_Poo_sees 49 = .ok (.getfield 66, 3) := by decide +kernel
theorem d_Poo_sees_52 : decode b_Poo_sees 52 = .ok (.if_icmp .ne 16, 3) := by decide +kernel
theorem d_Poo_sees_55 : decode b_Poo_sees 55 = .ok (.aload_n 3, 1) := by decide +kernel
theorem d_Poo_sees_56 : decode b_Poo_sees 56 = .ok (.getfield 45, 3) := by decide +kernel
theorem d_Poo_sees_59 : decode b_Poo_sees 59 = .ok (.aload_n 1, 1) := by decide +kernel
theorem d_Poo_sees_60 : decode b_Poo_sees 60 = .ok (.invokevirtual 69, 3) := by decide +kernel
theorem d_Poo_sees_63 : decode b_Poo_sees 63 = .ok (.ifCond .eq 5, 3) := by decide +kernel
theorem d_Poo_sees_66 : decode b_Poo_sees 66 = .ok (.iconst 1, 1) := by decide +kernel
theorem d_Poo_sees_67 : decode b_Poo_sees 67 = .ok (.ireturn, 1) := by decide +kernel
theorem d_Poo_sees_68 : decode b_Poo_sees 68 = .ok (.iinc 2 1, 3) := by decide +kernel
theorem d_Poo_sees_71 : decode b_Poo_sees 71 = .ok (.goto (-69), 3) := by decide +kernel
theorem d_Poo_sees_74 : decode b_Poo_sees 74 = .ok (.iconst 0, 1) := by decide +kernel
theorem d_Poo_sees_75 : decode b_Poo_sees 75 = .ok (.ireturn, 1) := by decide +kernel
theorem d_Poo_seenByInnermost_0 : decode b_Poo_seenByInnermost 0 = .ok (.iconst 0, 1) := by decide +kernel
theorem d_Poo_seenByInnermost_1 : decode b_Poo_seenByInnermost 1 = .ok (.istore_n 1, 1) := by decide +kernel
theorem d_Poo_seenByInnermost_2 : decode b_Poo_seenByInnermost 2 = .ok (.iconst 0, 1) := by decide +kernel
theorem d_Poo_seenByInnermost_3 : decode b_Poo_seenByInnermost 3 = .ok (.istore_n 2, 1) := by decide +kernel
theorem d_Poo_seenByInnermost_4 : decode b_Poo_seenByInnermost 4 = .ok (.iload_n 2, 1) := by decide +kernel
theorem d_Poo_seenByInnermost_5 : decode b_Poo_seenByInnermost 5 = .ok (.aload_n 0, 1) := by decide +kernel
theorem d_Poo_seenByInnermost_6 : decode b_Poo_seenByInnermost 6 = .ok (.getfield 18, 3) := by decide +kernel
theorem d_Poo_seenByInnermost_9 : decode b_Poo_seenByInnermost 9 = .ok (.if_icmp .ge 43, 3) := by decide +kernel
theorem d_Poo_seenByInnermost_12 : decode b_Poo_seenByInnermost 12 = .ok (.iload_n 2, 1) := by decide +kernel
theorem d_Poo_seenByInnermost_13 : decode b_Poo_seenByInnermost 13 = .ok (.aload_n 0, 1) := by decide +kernel
theorem d_Poo_seenByInnermost_14 : decode b_Poo_seenByInnermost 14 = .ok (.getfield 11, 3) := by decide +kernel
theorem d_Poo_seenByInnermost_17 : decode b_Poo_seenByInnermost 17 = .ok (.arraylength, 1) := by decide +kernel
theorem d_Poo_seenByInnermost_18 : decode b_Poo_seenByInnermost 18 = .ok (.if_icmp .ge 34, 3) := by decide +kernel
theorem d_Poo_seenByInnermost_21 : decode b_Poo_seenByInnermost 21 = .ok (.aload_n 0, 1) := by decide +kernel
theorem d_Poo_seenByInnermost_22 : decode b_Poo_seenByInnermost 22 = .ok (.getfield 11, 3) := by decide +kernel
theorem d_Poo_seenByInnermost_25 : decode b_Poo_seenByInnermost 25 = .ok (.iload_n 2, 1) := by decide +kernel
theorem d_Poo_seenByInnermost_26 : decode b_Poo_seenByInnermost 26 = .ok (.aaload, 1) := by decide +kernel
theorem d_Poo_seenByInnermost_27 : decode b_Poo_seenByInnermost 27 = .ok (.astore_n 3, 1) := by decide +kernel
theorem d_Poo_seenByInnermost_28 : decode b_Poo_seenByInnermost 28 = .ok (.aload_n 3, 1) := by decide +kernel
theorem d_Poo_seenByInnermost_29 : decode b_Poo_seenByInnermost 29 = .ok (.ifnull 17, 3) := by decide +kernel
theorem d_Poo_seenByInnermost_32 : decode b_Poo_seenByInnermost 32 = .ok (.aload_n 3, 1) := by decide +kernel
theorem d_Poo_seenByInnermost_33 : decode b_Poo_seenByInnermost 33 = .ok (.getfield 35, 3) := by decide +kernel
theorem d_Poo_seenByInnermost_36 : decode b_Poo_seenByInnermost 36 = .ok (.aload_n 0, 1) := by decide +kernel
theorem d_Poo_seenByInnermost_37 : decode b_Poo_seenByInnermost 37 = .ok (.invokevirtual 55, 3) := by decide +kernel
theorem d_Poo_seenByInnermost_40 : decode b_Poo_seenByInnermost 40 = .ok (.if_icmp .ne 6, 3) := by decide +kernel
theorem d_Poo_seenByInnermost_43 : decode b_Poo_seenByInnermost 43 = .ok (.iinc 1 1, 3) := by decide +kernel
theorem d_Poo_seenByInnermost_46 : decode b_Poo_seenByInnermost 46 = .ok (.iinc 2 1, 3) := by decide +kernel
theorem d_Poo_seenByInnermost_49 : decode b_Poo_seenByInnermost 49 = .ok (.goto (-45), 3) := by decide +kernel
theorem d_Poo_seenByInnermost_52 : decode b_Poo_seenByInnermost 52 = .ok (.iload_n 1, 1) := by decide +kernel
theorem d_Poo_seenByInnermost_53 : decode b_Poo_seenByInnermost 53 = .ok (.ireturn, 1) := by decide +kernel
theorem d_Rea_init_0 : decode b_Rea_init 0 = .ok (.aload_n 0, 1) := by decide +kernel
theorem d_Rea_init_1 : decode b_Rea_init 1 = .ok (.invokespecial 3, 3) := by decide +kernel
theorem d_Rea_init_4 : decode b_Rea_init 4 = .ok (.aload_n 0, 1) := by decide +kernel
theorem d_Rea_init_5 : decode b_Rea_init 5 = .ok (.new 9, 3) := by decide +kernel
theorem d_Rea_init_8 : decode b_Rea_init 8 = .ok (.dup, 1) := by decide +kernel
theorem d_Rea_init_9 : decode b_Rea_init 9 = .ok (.sipush 600, 3) := by decide +kernel
theorem d_Rea_init_12 : decode b_Rea_init 12 = .ok (.invokespecial 11, 3) := by decide +kernel
theorem d_Rea_init_15 : decode b_Rea_init 15 = .ok (.putfield 14, 3) := by decide +kernel
theorem d_Rea_init_18 : decode b_Rea_init 18 = .ok (.aload_n 0, 1) := by decide +kernel
theorem d_Rea_init_19 : decode b_Rea_init 19 = .ok (.sipush 600, 3) := by decide +kernel
theorem d_Rea_init_22 : decode b_Rea_init 22 = .ok (.newarray .int, 2) := by decide +kernel
theorem d_Rea_init_24 : decode b_Rea_init 24 = .ok (.putfield 20, 3) := by decide +kernel
theorem d_Rea_init_27 : decode b_Rea_init 27 = .ok (.aload_n 0, 1) := by decide +kernel
theorem d_Rea_init_28 : decode b_Rea_init 28 = .ok (.sipush 600, 3) := by decide +kernel
theorem d_Rea_init_31 : decode b_Rea_init 31 = .ok (.newarray .int, 2) := by decide +kernel
theorem d_Rea_init_33 : decode b_Rea_init 33 = .ok (.putfield 24, 3) := by decide +kernel
theorem d_Rea_init_36 : decode b_Rea_init 36 = .ok (.aload_n 0, 1) := by decide +kernel
theorem d_Rea_init_37 : decode b_Rea_init 37 = .ok (.sipush 600, 3) := by decide +kernel
theorem d_Rea_init_40 : decode b_Rea_init 40 = .ok (.newarray .int, 2) := by decide +kernel
theorem d_Rea_init_42 : decode b_Rea_init 42 = .ok (.putfield 27, 3) := by decide +kernel
theorem d_Rea_init_45 : decode b_Rea_init 45 = .ok (.aload_n 0, 1) := by decide +kernel
theorem d_Rea_init_46 : decode b_Rea_init 46 = .ok (.iconst 0, 1) := by decide +kernel
theorem d_Rea_init_47 : decode b_Rea_init 47 = .ok (.putfield 30, 3) := by decide +kernel
theorem d_Rea_init_50 : decode b_Rea_init 50 = .ok (.aload_n 0, 1) := by decide +kernel
theorem d_Rea_init_51 : decode b_Rea_init 51 = .ok (.iconst 0, 1) := by decide +kernel
theorem d_Rea_init_52 : decode b_Rea_init 52 = .ok (.putfield 34, 3) := by decide +kernel
theorem d_Rea_init_55 : decode b_Rea_init 55 = .ok (.aload_n 0, 1) := by decide +kernel
theorem d_Rea_init_56 : decode b_Rea_init 56 = .ok (.iconst 0, 1) := by decide +kernel
theorem d_Rea_init_57 : decode b_Rea_init 57 = .ok (.putfield 37, 3) := by decide +kernel
theorem d_Rea_init_60 : decode b_Rea_init 60 = .ok (.aload_n 0, 1) := by decide +kernel
theorem d_Rea_init_61 : decode b_Rea_init 61 = .ok (.iconst 0, 1) := by decide +kernel
theorem d_Rea_init_62 : decode b_Rea_init 62 = .ok (.putfield 40, 3) := by decide +kernel
theorem d_Rea_init_65 : decode b_Rea_init 65 = .ok (.return_, 1) := by decide +kernel
theorem d_Rea_begin_0 : decode b_Rea_begin 0 = .ok (.aload_n 0, 1) := by decide +kernel
theorem d_Rea_begin_1 : decode b_Rea_begin 1 = .ok (.iconst 0, 1) := by decide +kernel
theorem d_Rea_begin_2 : decode b_Rea_begin 2 = .ok (.putfield 30, 3) := by decide +kernel
theorem d_Rea_begin_5 : decode b_Rea_begin 5 = .ok (.aload_n 0, 1) := by decide +kernel
theorem d_Rea_begin_6 : decode b_Rea_begin 6 = .ok (.iconst 0, 1) := by decide +kernel
theorem d_Rea_begin_7 : decode b_Rea_begin 7 = .ok (.putfield 34, 3) := by decide +kernel
theorem d_Rea_begin_10 : decode b_Rea_begin 10 = .ok (.aload_n 0, 1) := by decide +kernel
theorem d_Rea_begin_11 : decode b_Rea_begin 11 = .ok (.iconst 0, 1) := by decide +kernel
theorem d_Rea_begin_12 : decode b_Rea_begin 12 = .ok (.putfield 37, 3) := by decide +kernel
theorem d_Rea_begin_15 : decode b_Rea_begin 15 = .ok (.aload_n 0, 1) := by decide +kernel
theorem d_Rea_begin_16 : decode b_Rea_begin 16 = .ok (.iconst 0, 1) := by decide +kernel
theorem d_Rea_begin_17 : decode b_Rea_begin 17 = .ok (.putfield 40, 3) := by decide +kernel
theorem d_Rea_begin_20 : decode b_Rea_begin 20 = .ok (.return_, 1) := by decide +kernel
theorem d_Rea_isTarget_0 : decode b_Rea_isTarget 0 = .ok (.aload_n 0, 1) := by decide +kernel
theorem d_Rea_isTarget_1 : decode b_Rea_isTarget 1 = .ok (.iload_n 1, 1) := by decide +kernel
theorem d_Rea_isTarget_2 : decode b_Rea_isTarget 2 = .ok (.invokevirtual 43, 3) := by decide +kernel
theorem d_Rea_isTarget_5 : decode b_Rea_isTarget 5 = .ok (.istore_n 2, 1) := by decide +kernel
theorem d_Rea_isTarget_6 : decode b_Rea_isTarget 6 = .ok (.iload_n 2, 1) := by decide +kernel
theorem d_Rea_isTarget_7 : decode b_Rea_isTarget 7 = .ok (.iconst 1, 1) := by decide +kernel
theorem d_Rea_isTarget_8 : decode b_Rea_isTarget 8 = .ok (.if_icmp .eq 8, 3) := by decide +kernel
theorem d_Rea_isTarget_11 : decode b_Rea_isTarget 11 = .ok (.iload_n 2, 1) := by decide +kernel
theorem d_Rea_isTarget_12 : decode b_Rea_isTarget 12 = .ok (.iconst 2, 1) := by decide +kernel
theorem d_Rea_isTarget_13 : decode b_Rea_isTarget 13 = .ok (.if_icmp .ne 7, 3) := by decide +kernel
theorem d_Rea_isTarget_16 : decode b_Rea_isTarget 16 = .ok (.iconst 1, 1) := by decide +kernel
theorem d_Rea_isTarget_17 : decode b_Rea_isTarget 17 = .ok (.goto 4, 3) := by decide +kernel
theorem d_Rea_isTarget_20 : decode b_Rea_isTarget 20 = .ok (.iconst 0, 1) := by decide +kernel
theorem d_Rea_isTarget_21 : decode b_Rea_isTarget 21 = .ok (.ireturn, 1) := by decide +kernel
theorem d_Rea_kindOf_0 : decode b_Rea_kindOf 0 = .ok (.iload_n 1, 1) := by decide +kernel
theorem d_Rea_kindOf_1 : decode b_Rea_kindOf 1 = .ok (.ifCond .lt 29, 3) := by decide +kernel
theorem d_Rea_kindOf_4 : decode b_Rea_kindOf 4 = .ok (.iload_n 1, 1) := by decide +kernel
theorem d_Rea_kindOf_5 : decode b_Rea_kindOf 5 = .ok (.aload_n 0, 1) := by decide +kernel
theorem d_Rea_kindOf_6 : decode b_Rea_kindOf 6 = .ok (.getfield 30, 3) := by decide +kernel
theorem d_Rea_kindOf_9 : decode b_Rea_kindOf 9 = .ok (.if_icmp .ge 21, 3) := by decide +kernel
theorem d_Rea_kindOf_12 : decode b_Rea_kindOf 12 = .ok (.iload_n 1, 1) := by decide +kernel
theorem d_Rea_kindOf_13 : decode b_Rea_kindOf 13 = .ok (.aload_n 0, 1) := by decide +kernel
theorem d_Rea_kindOf_14 : decode b_Rea_kindOf 14 = .ok (.getfield 20, 3) := by decide +kernel
theorem d_Rea_kindOf_17 : decode b_Rea_kindOf 17 = .ok (.arraylength, 1) := by decide +kernel
theorem d_Rea_kindOf_18 : decode b_Rea_kindOf 18 = .ok (.if_icmp .ge 12, 3) := by decide +kernel
theorem d_Rea_kindOf_21 : decode b_Rea_kindOf 21 = .ok (.aload_n 0, 1) := by decide +kernel
theorem d_Rea_kindOf_22 : decode b_Rea_kindOf 22 = .ok (.getfield 20, 3) := by decide +kernel
theorem d_Rea_kindOf_25 : decode b_Rea_kindOf 25 = .ok (.iload_n 1, 1) := by decide +kernel
theorem d_Rea_kindOf_26 : decode b_Rea_kindOf 26 = .ok (.iaload, 1) := by decide +kernel
theorem d_Rea_kindOf_27 : decode b_Rea_kindOf 27 = .ok (.goto 4, 3) := by decide +kernel
theorem d_Rea_kindOf_30 : decode b_Rea_kindOf 30 = .ok (.iconst 0, 1) := by decide +kernel
theorem d_Rea_kindOf_31 : decode b_Rea_kindOf 31 = .ok (.ireturn, 1) := by decide +kernel
theorem d_Rea_startOf_0 : decode b_Rea_startOf 0 = .ok (.iload_n 1, 1) := by decide +kernel
theorem d_Rea_startOf_1 : decode b_Rea_startOf 1 = .ok (.ifCond .lt 29, 3) := by decide +kernel
theorem d_Rea_startOf_4 : decode b_Rea_startOf 4 = .ok (.iload_n 1, 1) := by decide +kernel
theorem d_Rea_startOf_5 : decode b_Rea_startOf 5 = .ok (.aload_n 0, 1) := by decide +kernel
theorem d_Rea_startOf_6 : decode b_Rea_startOf 6 = .ok (.getfield 30, 3) := by decide +kernel
theorem d_Rea_startOf_9 : decode b_Rea_startOf 9 = .ok (.if_icmp .ge 21, 3) := by decide +kernel
theorem d_Rea_startOf_12 : decode b_Rea_startOf 12 = .ok (.iload_n 1, 1) := by decide +kernel
theorem d_Rea_startOf_13 : decode b_Rea_startOf 13 = .ok (.aload_n 0, 1) := by decide +kernel
theorem d_Rea_startOf_14 : decode b_Rea_startOf 14 = .ok (.getfield 24, 3) := by decide +kernel
theorem d_Rea_startOf_17 : decode b_Rea_startOf 17 = .ok (.arraylength, 1) := by decide +kernel
theorem d_Rea_startOf_18 : decode b_Rea_startOf 18 = .ok (.if_icmp .ge 12, 3) := by decide +kernel
theorem d_Rea_startOf_21 : decode b_Rea_startOf 21 = .ok (.aload_n 0, 1) := by decide +kernel
theorem d_Rea_startOf_22 : decode b_Rea_startOf 22 = .ok (.getfield 24, 3) := by decide +kernel
theorem d_Rea_startOf_25 : decode b_Rea_startOf 25 = .ok (.iload_n 1, 1) := by decide +kernel
theorem d_Rea_startOf_26 : decode b_Rea_startOf 26 = .ok (.iaload, 1) := by decide +kernel
theorem d_Rea_startOf_27 : decode b_Rea_startOf 27 = .ok (.goto 4, 3) := by decide +kernel
theorem d_Rea_startOf_30 : decode b_Rea_startOf 30 = .ok (.iconst 0, 1) := by decide +kernel
theorem d_Rea_startOf_31 : decode b_Rea_startOf 31 = .ok (.ireturn, 1) := by decide +kernel
theorem d_Rea_stopOf_0 : decode b_Rea_stopOf 0 = .ok (.iload_n 1, 1) := by decide +kernel
theorem d_Rea_stopOf_1 : decode b_Rea_stopOf 1 = .ok (.ifCond .lt 29, 3) := by decide +kernel
theorem d_Rea_stopOf_4 : decode b_Rea_stopOf 4 = .ok (.iload_n 1, 1) := by decide +kernel
theorem d_Rea_stopOf_5 : decode b_Rea_stopOf 5 = .ok (.aload_n 0, 1) := by decide +kernel
theorem d_Rea_stopOf_6 : decode b_Rea_stopOf 6 = .ok (.getfield 30, 3) := by decide +kernel
theorem d_Rea_stopOf_9 : decode b_Rea_stopOf 9 = .ok (.if_icmp .ge 21, 3) := by decide +kernel
theorem d_Rea_stopOf_12 : decode b_Rea_stopOf 12 = .ok (.iload_n 1, 1) := by decide +kernel
theorem d_Rea_stopOf_13 : decode b_Rea_stopOf 13 = .ok (.aload_n 0, 1) := by decide +kernel
theorem d_Rea_stopOf_14 : decode b_Rea_stopOf 14 = .ok (.getfield 27, 3) := by decide +kernel
theorem d_Rea_stopOf_17 : decode b_Rea_stopOf 17 = .ok (.arraylength, 1) := by decide +kernel
theorem d_Rea_stopOf_18 : decode b_Rea_stopOf 18 = .ok (.if_icmp .ge 12, 3) := by decide +kernel
theorem d_Rea_stopOf_21 : decode b_Rea_stopOf 21 = .ok (.aload_n 0, 1) := by decide +kernel
theorem d_Rea_stopOf_22 : decode b_Rea_stopOf 22 = .ok (.getfield 27, 3) := by decide +kernel
theorem d_Rea_stopOf_25 : decode b_Rea_stopOf 25 = .ok (.iload_n 1, 1) := by decide +kernel
theorem d_Rea_stopOf_26 : decode b_Rea_stopOf 26 = .ok (.iaload, 1) := by decide +kernel
theorem d_Rea_stopOf_27 : decode b_Rea_stopOf 27 = .ok (.goto 4, 3) := by decide +kernel
theorem d_Rea_stopOf_30 : decode b_Rea_stopOf 30 = .ok (.iconst 0, 1) := by decide +kernel
theorem d_Rea_stopOf_31 : decode b_Rea_stopOf 31 = .ok (.ireturn, 1) := by decide +kernel
theorem d_Rea_numberOf_0 : decode b_Rea_numberOf 0 = .ok (.iconst 0, 1) := by decide +kernel
theorem d_Rea_numberOf_1 : decode b_Rea_numberOf 1 = .ok (.istore_n 2, 1) := by decide +kernel
theorem d_Rea_numberOf_2 : decode b_Rea_numberOf 2 = .ok (.aload_n 0, 1) := by decide +kernel
theorem d_Rea_numberOf_3 : decode b_Rea_numberOf 3 = .ok (.iload_n 1, 1) := by decide +kernel
theorem d_Rea_numberOf_4 : decode b_Rea_numberOf 4 = .ok (.invokevirtual 47, 3) := by decide +kernel
theorem d_Rea_numberOf_7 : decode b_Rea_numberOf 7 = .ok (.istore_n 3, 1) := by decide +kernel
theorem d_Rea_numberOf_8 : decode b_Rea_numberOf 8 = .ok (.iload_n 3, 1) := by decide +kernel
theorem d_Rea_numberOf_9 : decode b_Rea_numberOf 9 = .ok (.aload_n 0, 1) := by decide +kernel
theorem d_Rea_numberOf_10 : decode b_Rea_numberOf 10 = .ok (.iload_n 1, 1) := by decide +kernel
theorem d_Rea_numberOf_11 : decode b_Rea_numberOf 11 = .ok (.invokevirtual 50, 3) := by decide +kernel
theorem d_Rea_numberOf_14 : decode b_Rea_numberOf 14 = .ok (.if_icmp .ge 26, 3) := by decide +kernel
theorem d_Rea_numberOf_17 : decode b_Rea_numberOf 17 = .ok (.iload_n 2, 1) := by decide +kernel
theorem d_Rea_numberOf_18 : decode b_Rea_numberOf 18 = .ok (.bipush 10, 2) := by decide +kernel
theorem d_Rea_numberOf_20 : decode b_Rea_numberOf 20 = .ok (.imul, 1) := by decide +kernel
theorem d_Rea_numberOf_21 : decode b_Rea_numberOf 21 = .ok (.aload_n 0, 1) := by decide +kernel
theorem d_Rea_numberOf_22 : decode b_Rea_numberOf 22 = .ok (.getfield 14, 3) := by decide +kernel
theorem d_Rea_numberOf_25 : decode b_Rea_numberOf 25 = .ok (.iload_n 3, 1) := by decide +kernel
theorem d_Rea_numberOf_26 : decode b_Rea_numberOf 26 = .ok (.invokevirtual 53, 3) := by decide +kernel
theorem d_Rea_numberOf_29 : decode b_Rea_numberOf 29 = .ok (.iadd, 1) := by decide +kernel
theorem d_Rea_numberOf_30 : decode b_Rea_numberOf 30 = .ok (.bipush 48, 2) := by decide +kernel
theorem d_Rea_numberOf_32 : decode b_Rea_numberOf 32 = .ok (.isub, 1) := by decide +kernel
theorem d_Rea_numberOf_33 : decode b_Rea_numberOf 33 = .ok (.istore_n 2, 1) := by decide +kernel
theorem d_Rea_numberOf_34 : decode b_Rea_numberOf 34 = .ok (.iinc 3 1, 3) := by decide +kernel
theorem d_Rea_numberOf_37 : decode b_Rea_numberOf 37 = .ok (.goto (-29), 3) := by decide +kernel
theorem d_Rea_numberOf_40 : decode b_Rea_numberOf 40 = .ok (.iload_n 2, 1) := by decide +kernel
theorem d_Rea_numberOf_41 : decode b_Rea_numberOf 41 = .ok (.ireturn, 1) := by decide +kernel
theorem d_Rea_copyString_0 : decode b_Rea_copyString 0 = .ok (.aload_n 2, 1) := by decide +kernel
theorem d_Rea_copyString_1 : decode b_Rea_copyString 1 = .ok (.invokevirtual 55, 3) := by decide +kernel
theorem d_Rea_copyString_4 : decode b_Rea_copyString 4 = .ok (.aload_n 0, 1) := by decide +kernel
theorem d_Rea_copyString_5 : decode b_Rea_copyString 5 = .ok (.getfield 14, 3) := by decide +kernel
theorem d_Rea_copyString_8 : decode b_Rea_copyString 8 = .ok (.aload_n 0, 1) := by decide +kernel
theorem d_Rea_copyString_9 : decode b_Rea_copyString 9 = .ok (.iload_n 1, 1) := by decide +kernel
theorem d_Rea_copyString_10 : decode b_Rea_copyString 10 = .ok (.invokevirtual 47, 3) := by decide +kernel
theorem d_Rea_copyString_13 : decode b_Rea_copyString 13 = .ok (.iconst 1, 1) := by decide +kernel
theorem d_Rea_copyString_14 : decode b_Rea_copyString 14 = .ok (.isub, 1) := by decide +kernel
theorem d_Rea_copyString_15 : decode b_Rea_copyString 15 = .ok (.invokevirtual 53, 3) := by decide +kernel
theorem d_Rea_copyString_18 : decode b_Rea_copyString 18 = .ok (.istore_n 3, 1) := by decide +kernel
theorem d_Rea_copyString_19 : decode b_Rea_copyString 19 = .ok (.aload_n 0, 1) := by decide +kernel
theorem d_Rea_copyString_20 : decode b_Rea_copyString 20 = .ok (.iload_n 1, 1) := by decide +kernel
theorem d_Rea_copyString_21 : decode b_Rea_copyString 21 = .ok (.invokevirtual 47, 3) := by decide +kernel
theorem d_Rea_copyString_24 : decode b_Rea_copyString 24 = .ok (.istore 4, 2) := by decide +kernel
theorem d_Rea_copyString_26 : decode b_Rea_copyString 26 = .ok (.iload 4, 2) := by decide +kernel
theorem d_Rea_copyString_28 : decode b_Rea_copyString 28 = .ok (.aload_n 0, 1) := by decide +kernel
theorem d_Rea_copyString_29 : decode b_Rea_copyString 29 = .ok (.iload_n 1, 1) := by decide +kernel
theorem d_Rea_copyString_30 : decode b_Rea_copyString 30 = .ok (.invokevirtual 50, 3) := by decide +kernel
theorem d_Rea_copyString_33 : decode b_Rea_copyString 33 = .ok (.if_icmp .ge 39, 3) := by decide +kernel
theorem d_Rea_copyString_36 : decode b_Rea_copyString 36 = .ok (.aload_n 2, 1) := by decide +kernel
theorem d_Rea_copyString_37 : decode b_Rea_copyString 37 = .ok (.aload_n 0, 1) := by decide +kernel
theorem d_Rea_copyString_38 : decode b_Rea_copyString 38 = .ok (.getfield 14, 3) := by decide +kernel
theorem d_Rea_copyString_41 : decode b_Rea_copyString 41 = .ok (.iload 4, 2) := by decide +kernel
theorem d_Rea_copyString_43 : decode b_Rea_copyString 43 = .ok (.invokevirtual 53, 3) := by decide +kernel
theorem d_Rea_copyString_46 : decode b_Rea_copyString 46 = .ok (.invokevirtual 58, 3) := by decide +kernel
theorem d_Rea_copyString_49 : decode b_Rea_copyString 49 = .ok (.pop, 1) := by decide +kernel
theorem d_Rea_copyString_50 : decode b_Rea_copyString 50 = .ok (.aload_n 0, 1) := by decide +kernel
theorem d_Rea_copyString_51 : decode b_Rea_copyString 51 = .ok (.getfield 14, 3) := by decide +kernel
theorem d_Rea_copyString_54 : decode b_Rea_copyString 54 = .ok (.iload 4, 2) := by decide +kernel
theorem d_Rea_copyString_56 : decode b_Rea_copyString 56 = .ok (.invokevirtual 53, 3) := by decide +kernel
theorem d_Rea_copyString_59 : decode b_Rea_copyString 59 = .ok (.iload_n 3, 1) := by decide +kernel
theorem d_Rea_copyString_60 : decode b_Rea_copyString 60 = .ok (.if_icmp .ne 6, 3) := by decide +kernel
theorem d_Rea_copyString_63 : decode b_Rea_copyString 63 = .ok (.iinc 4 1, 3) := by decide +kernel
theorem d_Rea_copyString_66 : decode b_Rea_copyString 66 = .ok (.iinc 4 1, 3) := by decide +kernel
theorem d_Rea_copyString_69 : decode b_Rea_copyString 69 = .ok (.goto (-43), 3) := by decide +kernel
theorem d_Rea_copyString_72 : decode b_Rea_copyString 72 = .ok (.return_, 1) := by decide +kernel
theorem d_Rea_readAlone_0 : decode b_Rea_readAlone 0 = .ok (.aload_n 0, 1) := by decide +kernel
theorem d_Rea_readAlone_1 : decode b_Rea_readAlone 1 = .ok (.invokevirtual 62, 3) := by decide +kernel
theorem d_Rea_readAlone_4 : decode b_Rea_readAlone 4 = .ok (.aload_n 0, 1) := by decide +kernel
theorem d_Rea_readAlone_5 : decode b_Rea_readAlone 5 = .ok (.iconst 1, 1) := by decide +kernel
theorem d_Rea_readAlone_6 : decode b_Rea_readAlone 6 = .ok (.invokevirtual 65, 3) := by decide +kernel
theorem d_Rea_readAlone_9 : decode b_Rea_readAlone 9 = .ok (.aload_n 0, 1) := by decide +kernel
theorem d_Rea_readAlone_10 : decode b_Rea_readAlone 10 = .ok (.getfield 40, 3) := by decide +kernel
theorem d_Rea_readAlone_13 : decode b_Rea_readAlone 13 = .ok (.ifCond .ne 25, 3) := by decide +kernel
theorem d_Rea_readAlone_16 : decode b_Rea_readAlone 16 = .ok (.aload_n 0, 1) := by decide +kernel
theorem d_Rea_readAlone_17 : decode b_Rea_readAlone 17 = .ok (.getfield 37, 3) := by decide +kernel
theorem d_Rea_readAlone_20 : decode b_Rea_readAlone 20 = .ok (.aload_n 0, 1) := by decide +kernel
theorem d_Rea_readAlone_21 : decode b_Rea_readAlone 21 = .ok (.getfield 14, 3) := by decide +kernel
theorem d_Rea_readAlone_24 : decode b_Rea_readAlone 24 = .ok (.getfield 68, 3) := by decide +kernel
theorem d_Rea_readAlone_27 : decode b_Rea_readAlone 27 = .ok (.if_icmp .ge 11, 3) := by decide +kernel
theorem d_Rea_readAlone_30 : decode b_Rea_readAlone 30 = .ok (.aload_n 0, 1) := by decide +kernel
theorem d_Rea_readAlone_31 : decode b_Rea_readAlone 31 = .ok (.aload_n 0, 1) := by decide +kernel
theorem d_Rea_readAlone_32 : decode b_Rea_readAlone 32 = .ok (.getfield 37, 3) := by decide +kernel
theorem d_Rea_readAlone_35 : decode b_Rea_readAlone 35 = .ok (.invokevirtual 71, 3) := by decide +kernel
theorem d_Rea_readAlone_38 : decode b_Rea_readAlone 38 = .ok (.aload_n 0, 1) := by decide +kernel
theorem d_Rea_readAlone_39 : decode b_Rea_readAlone 39 = .ok (.getfield 40, 3) := by decide +kernel
theorem d_Rea_readAlone_42 : decode b_Rea_readAlone 42 = .ok (.ireturn, 1) := by decide +kernel
theorem d_Rea_readGift_0 : decode b_Rea_readGift 0 = .ok (.aload_n 0, 1) := by decide +kernel
theorem d_Rea_readGift_1 : decode b_Rea_readGift 1 = .ok (.invokevirtual 62, 3) := by decide +kernel
theorem d_Rea_readGift_4 : decode b_Rea_readGift 4 = .ok (.aload_n 0, 1) := by decide +kernel
theorem d_Rea_readGift_5 : decode b_Rea_readGift 5 = .ok (.iconst 1, 1) := by decide +kernel
theorem d_Rea_readGift_6 : decode b_Rea_readGift 6 = .ok (.invokevirtual 65, 3) := by decide +kernel
theorem d_Rea_readGift_9 : decode b_Rea_readGift 9 = .ok (.aload_n 0, 1) := by decide +kernel
theorem d_Rea_readGift_10 : decode b_Rea_readGift 10 = .ok (.getfield 40, 3) := by decide +kernel
theorem d_Rea_readGift_13 : decode b_Rea_readGift 13 = .ok (.ifCond .ne 27, 3) := by decide +kernel
theorem d_Rea_readGift_16 : decode b_Rea_readGift 16 = .ok (.aload_n 0, 1) := by decide +kernel
theorem d_Rea_readGift_17 : decode b_Rea_readGift 17 = .ok (.getfield 14, 3) := by decide +kernel
theorem d_Rea_readGift_20 : decode b_Rea_readGift 20 = .ok (.aload_n 0, 1) := by decide +kernel
theorem d_Rea_readGift_21 : decode b_Rea_readGift 21 = .ok (.getfield 37, 3) := by decide +kernel
theorem d_Rea_readGift_24 : decode b_Rea_readGift 24 = .ok (.invokevirtual 53, 3) := by decide +kernel
theorem d_Rea_readGift_27 : decode b_Rea_readGift 27 = .ok (.bipush 61, 2) := by decide +kernel
theorem d_Rea_readGift_29 : decode b_Rea_readGift 29 = .ok (.if_icmp .eq 11, 3) := by decide +kernel
theorem d_Rea_readGift_32 : decode b_Rea_readGift 32 = .ok (.aload_n 0, 1) := by decide +kernel
theorem d_Rea_readGift_33 : decode b_Rea_readGift 33 = .ok (.aload_n 0, 1) := by decide +kernel
theorem d_Rea_readGift_34 : decode b_Rea_readGift 34 = .ok (.getfield 37, 3) := by decide +kernel
theorem d_Rea_readGift_37 : decode b_Rea_readGift 37 = .ok (.invokevirtual 71, 3) := by decide +kernel
theorem d_Rea_readGift_40 : decode b_Rea_readGift 40 = .ok (.aload_n 0, 1) := by decide +kernel
theorem d_Rea_readGift_41 : decode b_Rea_readGift 41 = .ok (.dup, 1) := by decide +kernel
theorem d_Rea_readGift_42 : decode b_Rea_readGift 42 = .ok (.getfield 37, 3) := by decide +kernel
end
section
theorem d_Rea_readGift_45 : decode b_Rea_readGift 45 = .ok (.iconst 1, 1) := by decide +kernel
theorem d_Rea_readGift_46 : decode b_Rea_readGift 46 = .ok (.iadd, 1) := by decide +kernel
theorem d_Rea_readGift_47 : decode b_Rea_readGift 47 = .ok (.putfield 37, 3) := by decide +kernel
theorem d_Rea_readGift_50 : decode b_Rea_readGift 50 = .ok (.aload_n 0, 1) := by decide +kernel
theorem d_Rea_readGift_51 : decode b_Rea_readGift 51 = .ok (.getfield 40, 3) := by decide +kernel
theorem d_Rea_readGift_54 : decode b_Rea_readGift 54 = .ok (.ifCond .ne 33, 3) := by decide +kernel
theorem d_Rea_readGift_57 : decode b_Rea_readGift 57 = .ok (.aload_n 0, 1) := by decide +kernel
theorem d_Rea_readGift_58 : decode b_Rea_readGift 58 = .ok (.getfield 14, 3) := by decide +kernel
theorem d_Rea_readGift_61 : decode b_Rea_readGift 61 = .ok (.getfield 68, 3) := by decide +kernel
theorem d_Rea_readGift_64 : decode b_Rea_readGift 64 = .ok (.aload_n 0, 1) := by decide +kernel
theorem d_Rea_readGift_65 : decode b_Rea_readGift 65 = .ok (.getfield 37, 3) := by decide +kernel
theorem d_Rea_readGift_68 : decode b_Rea_readGift 68 = .ok (.isub, 1) := by decide +kernel
theorem d_Rea_readGift_69 : decode b_Rea_readGift 69 = .ok (.sipush 200, 3) := by decide +kernel
theorem d_Rea_readGift_72 : decode b_Rea_readGift 72 = .ok (.if_icmp .le 15, 3) := by decide +kernel
theorem d_Rea_readGift_75 : decode b_Rea_readGift 75 = .ok (.aload_n 0, 1) := by decide +kernel
theorem d_Rea_readGift_76 : decode b_Rea_readGift 76 = .ok (.aload_n 0, 1) := by decide +kernel
theorem d_Rea_readGift_77 : decode b_Rea_readGift 77 = .ok (.getfield 37, 3) := by decide +kernel
theorem d_Rea_readGift_80 : decode b_Rea_readGift 80 = .ok (.sipush 200, 3) := by decide +kernel
theorem d_Rea_readGift_83 : decode b_Rea_readGift 83 = .ok (.iadd, 1) := by decide +kernel
theorem d_Rea_readGift_84 : decode b_Rea_readGift 84 = .ok (.invokevirtual 71, 3) := by decide +kernel
theorem d_Rea_readGift_87 : decode b_Rea_readGift 87 = .ok (.aload_n 0, 1) := by decide +kernel
theorem d_Rea_readGift_88 : decode b_Rea_readGift 88 = .ok (.getfield 40, 3) := by decide +kernel
theorem d_Rea_readGift_91 : decode b_Rea_readGift 91 = .ok (.ireturn, 1) := by decide +kernel
theorem d_Rea_readVariables_0 : decode b_Rea_readVariables 0 = .ok (.aload_n 0, 1) := by decide +kernel
theorem d_Rea_readVariables_1 : decode b_Rea_readVariables 1 = .ok (.invokevirtual 62, 3) := by decide +kernel
theorem d_Rea_readVariables_4 : decode b_Rea_readVariables 4 = .ok (.aload_n 0, 1) := by decide +kernel
theorem d_Rea_readVariables_5 : decode b_Rea_readVariables 5 = .ok (.getfield 14, 3) := by decide +kernel
theorem d_Rea_readVariables_8 : decode b_Rea_readVariables 8 = .ok (.getfield 68, 3) := by decide +kernel
theorem d_Rea_readVariables_11 : decode b_Rea_readVariables 11 = .ok (.ifCond .le 7, 3) := by decide +kernel
theorem d_Rea_readVariables_14 : decode b_Rea_readVariables 14 = .ok (.iconst 1, 1) := by decide +kernel
theorem d_Rea_readVariables_15 : decode b_Rea_readVariables 15 = .ok (.goto 4, 3) := by decide +kernel
theorem d_Rea_readVariables_18 : decode b_Rea_readVariables 18 = .ok (.iconst 0, 1) := by decide +kernel
theorem d_Rea_readVariables_19 : decode b_Rea_readVariables 19 = .ok (.istore_n 2, 1) := by decide +kernel
theorem d_Rea_readVariables_20 : decode b_Rea_readVariables 20 = .ok (.iconst 0, 1) := by decide +kernel
theorem d_Rea_readVariables_21 : decode b_Rea_readVariables 21 = .ok (.istore_n 3, 1) := by decide +kernel
theorem d_Rea_readVariables_22 : decode b_Rea_readVariables 22 = .ok (.iload_n 3, 1) := by decide +kernel
theorem d_Rea_readVariables_23 : decode b_Rea_readVariables 23 = .ok (.iload_n 1, 1) := by decide +kernel
theorem d_Rea_readVariables_24 : decode b_Rea_readVariables 24 = .ok (.if_icmp .ge 89, 3) := by decide +kernel
theorem d_Rea_readVariables_27 : decode b_Rea_readVariables 27 = .ok (.iload_n 2, 1) := by decide +kernel
theorem d_Rea_readVariables_28 : decode b_Rea_readVariables 28 = .ok (.ifCond .eq 85, 3) := by decide +kernel
theorem d_Rea_readVariables_31 : decode b_Rea_readVariables 31 = .ok (.aload_n 0, 1) := by decide +kernel
theorem d_Rea_readVariables_32 : decode b_Rea_readVariables 32 = .ok (.iconst 1, 1) := by decide +kernel
theorem d_Rea_readVariables_33 : decode b_Rea_readVariables 33 = .ok (.invokevirtual 65, 3) := by decide +kernel
theorem d_Rea_readVariables_36 : decode b_Rea_readVariables 36 = .ok (.aload_n 0, 1) := by decide +kernel
theorem d_Rea_readVariables_37 : decode b_Rea_readVariables 37 = .ok (.getfield 40, 3) := by decide +kernel
theorem d_Rea_readVariables_40 : decode b_Rea_readVariables 40 = .ok (.ifCond .ne 21, 3) := by decide +kernel
theorem d_Rea_readVariables_43 : decode b_Rea_readVariables 43 = .ok (.aload_n 0, 1) := by decide +kernel
theorem d_Rea_readVariables_44 : decode b_Rea_readVariables 44 = .ok (.getfield 37, 3) := by decide +kernel
theorem d_Rea_readVariables_47 : decode b_Rea_readVariables 47 = .ok (.aload_n 0, 1) := by decide +kernel
theorem d_Rea_readVariables_48 : decode b_Rea_readVariables 48 = .ok (.getfield 14, 3) := by decide +kernel
theorem d_Rea_readVariables_51 : decode b_Rea_readVariables 51 = .ok (.getfield 68, 3) := by decide +kernel
theorem d_Rea_readVariables_54 : decode b_Rea_readVariables 54 = .ok (.if_icmp .ge 7, 3) := by decide +kernel
theorem d_Rea_readVariables_57 : decode b_Rea_readVariables 57 = .ok (.iconst 1, 1) := by decide +kernel
theorem d_Rea_readVariables_58 : decode b_Rea_readVariables 58 = .ok (.goto 4, 3) := by decide +kernel
theorem d_Rea_readVariables_61 : decode b_Rea_readVariables 61 = .ok (.iconst 0, 1) := by decide +kernel
theorem d_Rea_readVariables_62 : decode b_Rea_readVariables 62 = .ok (.istore_n 2, 1) := by decide +kernel
theorem d_Rea_readVariables_63 : decode b_Rea_readVariables 63 = .ok (.iload_n 2, 1) := by decide +kernel
theorem d_Rea_readVariables_64 : decode b_Rea_readVariables 64 = .ok (.ifCond .eq 29, 3) := by decide +kernel
theorem d_Rea_readVariables_67 : decode b_Rea_readVariables 67 = .ok (.aload_n 0, 1) := by decide +kernel
theorem d_Rea_readVariables_68 : decode b_Rea_readVariables 68 = .ok (.getfield 14, 3) := by decide +kernel
theorem d_Rea_readVariables_71 : decode b_Rea_readVariables 71 = .ok (.aload_n 0, 1) := by decide +kernel
theorem d_Rea_readVariables_72 : decode b_Rea_readVariables 72 = .ok (.getfield 37, 3) := by decide +kernel
theorem d_Rea_readVariables_75 : decode b_Rea_readVariables 75 = .ok (.invokevirtual 53, 3) := by decide +kernel
theorem d_Rea_readVariables_78 : decode b_Rea_readVariables 78 = .ok (.bipush 32, 2) := by decide +kernel
theorem d_Rea_readVariables_80 : decode b_Rea_readVariables 80 = .ok (.if_icmp .eq 13, 3) := by decide +kernel
theorem d_Rea_readVariables_83 : decode b_Rea_readVariables 83 = .ok (.aload_n 0, 1) := by decide +kernel
theorem d_Rea_readVariables_84 : decode b_Rea_readVariables 84 = .ok (.aload_n 0, 1) := by decide +kernel
theorem d_Rea_readVariables_85 : decode b_Rea_readVariables 85 = .ok (.getfield 37, 3) := by decide +kernel
theorem d_Rea_readVariables_88 : decode b_Rea_readVariables 88 = .ok (.invokevirtual 71, 3) := by decide +kernel
theorem d_Rea_readVariables_91 : decode b_Rea_readVariables 91 = .ok (.iconst 0, 1) := by decide +kernel
theorem d_Rea_readVariables_92 : decode b_Rea_readVariables 92 = .ok (.istore_n 2, 1) := by decide +kernel
theorem d_Rea_readVariables_93 : decode b_Rea_readVariables 93 = .ok (.iload_n 2, 1) := by decide +kernel
theorem d_Rea_readVariables_94 : decode b_Rea_readVariables 94 = .ok (.ifCond .eq 13, 3) := by decide +kernel
theorem d_Rea_readVariables_97 : decode b_Rea_readVariables 97 = .ok (.aload_n 0, 1) := by decide +kernel
theorem d_Rea_readVariables_98 : decode b_Rea_readVariables 98 = .ok (.dup, 1) := by decide +kernel
theorem d_Rea_readVariables_99 : decode b_Rea_readVariables 99 = .ok (.getfield 37, 3) := by decide +kernel
theorem d_Rea_readVariables_102 : decode b_Rea_readVariables 102 = .ok (.iconst 1, 1) := by decide +kernel
theorem d_Rea_readVariables_103 : decode b_Rea_readVariables 103 = .ok (.iadd, 1) := by decide +kernel
theorem d_Rea_readVariables_104 : decode b_Rea_readVariables 104 = .ok (.putfield 37, 3) := by decide +kernel
theorem d_Rea_readVariables_107 : decode b_Rea_readVariables 107 = .ok (.iinc 3 1, 3) := by decide +kernel
theorem d_Rea_readVariables_110 : decode b_Rea_readVariables 110 = .ok (.goto (-88), 3) := by decide +kernel
theorem d_Rea_readVariables_113 : decode b_Rea_readVariables 113 = .ok (.iload_n 2, 1) := by decide +kernel
theorem d_Rea_readVariables_114 : decode b_Rea_readVariables 114 = .ok (.ifCond .eq 11, 3) := by decide +kernel
theorem d_Rea_readVariables_117 : decode b_Rea_readVariables 117 = .ok (.aload_n 0, 1) := by decide +kernel
theorem d_Rea_readVariables_118 : decode b_Rea_readVariables 118 = .ok (.aload_n 0, 1) := by decide +kernel
theorem d_Rea_readVariables_119 : decode b_Rea_readVariables 119 = .ok (.getfield 37, 3) := by decide +kernel
theorem d_Rea_readVariables_122 : decode b_Rea_readVariables 122 = .ok (.invokevirtual 71, 3) := by decide +kernel
theorem d_Rea_readVariables_125 : decode b_Rea_readVariables 125 = .ok (.aload_n 0, 1) := by decide +kernel
theorem d_Rea_readVariables_126 : decode b_Rea_readVariables 126 = .ok (.getfield 40, 3) := by decide +kernel
theorem d_Rea_readVariables_129 : decode b_Rea_readVariables 129 = .ok (.ireturn, 1) := by decide +kernel
theorem d_Rea_readTemplate_0 : decode b_Rea_readTemplate 0 = .ok (.aload_n 0, 1) := by decide +kernel
theorem d_Rea_readTemplate_1 : decode b_Rea_readTemplate 1 = .ok (.invokevirtual 62, 3) := by decide +kernel
theorem d_Rea_readTemplate_4 : decode b_Rea_readTemplate 4 = .ok (.iconst 0, 1) := by decide +kernel
theorem d_Rea_readTemplate_5 : decode b_Rea_readTemplate 5 = .ok (.istore_n 1, 1) := by decide +kernel
theorem d_Rea_readTemplate_6 : decode b_Rea_readTemplate 6 = .ok (.iload_n 1, 1) := by decide +kernel
theorem d_Rea_readTemplate_7 : decode b_Rea_readTemplate 7 = .ok (.sipush 600, 3) := by decide +kernel
theorem d_Rea_readTemplate_10 : decode b_Rea_readTemplate 10 = .ok (.if_icmp .ge 34, 3) := by decide +kernel
theorem d_Rea_readTemplate_13 : decode b_Rea_readTemplate 13 = .ok (.aload_n 0, 1) := by decide +kernel
theorem d_Rea_readTemplate_14 : decode b_Rea_readTemplate 14 = .ok (.getfield 37, 3) := by decide +kernel
theorem d_Rea_readTemplate_17 : decode b_Rea_readTemplate 17 = .ok (.aload_n 0, 1) := by decide +kernel
theorem d_Rea_readTemplate_18 : decode b_Rea_readTemplate 18 = .ok (.getfield 14, 3) := by decide +kernel
theorem d_Rea_readTemplate_21 : decode b_Rea_readTemplate 21 = .ok (.getfield 68, 3) := by decide +kernel
theorem d_Rea_readTemplate_24 : decode b_Rea_readTemplate 24 = .ok (.if_icmp .ge 20, 3) := by decide +kernel
theorem d_Rea_readTemplate_27 : decode b_Rea_readTemplate 27 = .ok (.aload_n 0, 1) := by decide +kernel
theorem d_Rea_readTemplate_28 : decode b_Rea_readTemplate 28 = .ok (.getfield 40, 3) := by decide +kernel
theorem d_Rea_readTemplate_31 : decode b_Rea_readTemplate 31 = .ok (.ifCond .ne 13, 3) := by decide +kernel
theorem d_Rea_readTemplate_34 : decode b_Rea_readTemplate 34 = .ok (.aload_n 0, 1) := by decide +kernel
theorem d_Rea_readTemplate_35 : decode b_Rea_readTemplate 35 = .ok (.invokevirtual 74, 3) := by decide +kernel
theorem d_Rea_readTemplate_38 : decode b_Rea_readTemplate 38 = .ok (.iinc 1 1, 3) := by decide +kernel
theorem d_Rea_readTemplate_41 : decode b_Rea_readTemplate 41 = .ok (.goto (-35), 3) := by decide +kernel
theorem d_Rea_readTemplate_44 : decode b_Rea_readTemplate 44 = .ok (.aload_n 0, 1) := by decide +kernel
theorem d_Rea_readTemplate_45 : decode b_Rea_readTemplate 45 = .ok (.getfield 40, 3) := by decide +kernel
theorem d_Rea_readTemplate_48 : decode b_Rea_readTemplate 48 = .ok (.ireturn, 1) := by decide +kernel
theorem d_Rea_readToken_0 : decode b_Rea_readToken 0 = .ok (.aload_n 0, 1) := by decide +kernel
theorem d_Rea_readToken_1 : decode b_Rea_readToken 1 = .ok (.getfield 14, 3) := by decide +kernel
theorem d_Rea_readToken_4 : decode b_Rea_readToken 4 = .ok (.aload_n 0, 1) := by decide +kernel
theorem d_Rea_readToken_5 : decode b_Rea_readToken 5 = .ok (.getfield 37, 3) := by decide +kernel
theorem d_Rea_readToken_8 : decode b_Rea_readToken 8 = .ok (.invokevirtual 53, 3) := by decide +kernel
theorem d_Rea_readToken_11 : decode b_Rea_readToken 11 = .ok (.istore_n 1, 1) := by decide +kernel
theorem d_Rea_readToken_12 : decode b_Rea_readToken 12 = .ok (.iload_n 1, 1) := by decide +kernel
theorem d_Rea_readToken_13 : decode b_Rea_readToken 13 = .ok (.lookupswitch (121) #[(32, 67), (34, 80), (39, 80), (40, 88), (43, 103), (45, 112), (61, 95)], 67) := by decide +kernel
theorem d_Rea_readToken_80 : decode b_Rea_readToken 80 = .ok (.aload_n 0, 1) := by decide +kernel
theorem d_Rea_readToken_81 : decode b_Rea_readToken 81 = .ok (.dup, 1) := by decide +kernel
theorem d_Rea_readToken_82 : decode b_Rea_readToken 82 = .ok (.getfield 37, 3) := by decide +kernel
theorem d_Rea_readToken_85 : decode b_Rea_readToken 85 = .ok (.iconst 1, 1) := by decide +kernel
theorem d_Rea_readToken_86 : decode b_Rea_readToken 86 = .ok (.iadd, 1) := by decide +kernel
theorem d_Rea_readToken_87 : decode b_Rea_readToken 87 = .ok (.putfield 37, 3) := by decide +kernel
theorem d_Rea_readToken_90 : decode b_Rea_readToken 90 = .ok (.goto 49, 3) := by decide +kernel
theorem d_Rea_readToken_93 : decode b_Rea_readToken 93 = .ok (.aload_n 0, 1) := by decide +kernel
theorem d_Rea_readToken_94 : decode b_Rea_readToken 94 = .ok (.iload_n 1, 1) := by decide +kernel
theorem d_Rea_readToken_95 : decode b_Rea_readToken 95 = .ok (.invokevirtual 77, 3) := by decide +kernel
theorem d_Rea_readToken_98 : decode b_Rea_readToken 98 = .ok (.goto 41, 3) := by decide +kernel
theorem d_Rea_readToken_101 : decode b_Rea_readToken 101 = .ok (.aload_n 0, 1) := by decide +kernel
theorem d_Rea_readToken_102 : decode b_Rea_readToken 102 = .ok (.invokevirtual 80, 3) := by decide +kernel
theorem d_Rea_readToken_105 : decode b_Rea_readToken 105 = .ok (.goto 34, 3) := by decide +kernel
theorem d_Rea_readToken_108 : decode b_Rea_readToken 108 = .ok (.aload_n 0, 1) := by decide +kernel
theorem d_Rea_readToken_109 : decode b_Rea_readToken 109 = .ok (.iconst 5, 1) := by decide +kernel
theorem d_Rea_readToken_110 : decode b_Rea_readToken 110 = .ok (.invokevirtual 83, 3) := by decide +kernel
theorem d_Rea_readToken_113 : decode b_Rea_readToken 113 = .ok (.goto 26, 3) := by decide +kernel
theorem d_Rea_readToken_116 : decode b_Rea_readToken 116 = .ok (.aload_n 0, 1) := by decide +kernel
theorem d_Rea_readToken_117 : decode b_Rea_readToken 117 = .ok (.bipush 6, 2) := by decide +kernel
theorem d_Rea_readToken_119 : decode b_Rea_readToken 119 = .ok (.invokevirtual 83, 3) := by decide +kernel
theorem d_Rea_readToken_122 : decode b_Rea_readToken 122 = .ok (.goto 17, 3) := by decide +kernel
theorem d_Rea_readToken_125 : decode b_Rea_readToken 125 = .ok (.aload_n 0, 1) := by decide +kernel
theorem d_Rea_readToken_126 : decode b_Rea_readToken 126 = .ok (.bipush 7, 2) := by decide +kernel
theorem d_Rea_readToken_128 : decode b_Rea_readToken 128 = .ok (.invokevirtual 83, 3) := by decide +kernel
theorem d_Rea_readToken_131 : decode b_Rea_readToken 131 = .ok (.goto 8, 3) := by decide +kernel
theorem d_Rea_readToken_134 : decode b_Rea_readToken 134 = .ok (.aload_n 0, 1) := by decide +kernel
theorem d_Rea_readToken_135 : decode b_Rea_readToken 135 = .ok (.iload_n 1, 1) := by decide +kernel
theorem d_Rea_readToken_136 : decode b_Rea_readToken 136 = .ok (.invokevirtual 86, 3) := by decide +kernel
theorem d_Rea_readToken_139 : decode b_Rea_readToken 139 = .ok (.return_, 1) := by decide +kernel
theorem d_Rea_readBareToken_0 : decode b_Rea_readBareToken 0 = .ok (.iload_n 1, 1) := by decide +kernel
theorem d_Rea_readBareToken_1 : decode b_Rea_readBareToken 1 = .ok (.invokestatic 89, 3) := by decide +kernel
theorem d_Rea_readBareToken_4 : decode b_Rea_readBareToken 4 = .ok (.ifCond .eq 11, 3) := by decide +kernel
theorem d_Rea_readBareToken_7 : decode b_Rea_readBareToken 7 = .ok (.aload_n 0, 1) := by decide +kernel
theorem d_Rea_readBareToken_8 : decode b_Rea_readBareToken 8 = .ok (.iconst 5, 1) := by decide +kernel
theorem d_Rea_readBareToken_9 : decode b_Rea_readBareToken 9 = .ok (.invokevirtual 92, 3) := by decide +kernel
theorem d_Rea_readBareToken_12 : decode b_Rea_readBareToken 12 = .ok (.goto 81, 3) := by decide +kernel
theorem d_Rea_readBareToken_15 : decode b_Rea_readBareToken 15 = .ok (.iload_n 1, 1) := by decide +kernel
theorem d_Rea_readBareToken_16 : decode b_Rea_readBareToken 16 = .ok (.bipush 46, 2) := by decide +kernel
theorem d_Rea_readBareToken_18 : decode b_Rea_readBareToken 18 = .ok (.if_icmp .ne 60, 3) := by decide +kernel
theorem d_Rea_readBareToken_21 : decode b_Rea_readBareToken 21 = .ok (.aload_n 0, 1) := by decide +kernel
theorem d_Rea_readBareToken_22 : decode b_Rea_readBareToken 22 = .ok (.getfield 14, 3) := by decide +kernel
theorem d_Rea_readBareToken_25 : decode b_Rea_readBareToken 25 = .ok (.aload_n 0, 1) := by decide +kernel
theorem d_Rea_readBareToken_26 : decode b_Rea_readBareToken 26 = .ok (.getfield 37, 3) := by decide +kernel
theorem d_Rea_readBareToken_29 : decode b_Rea_readBareToken 29 = .ok (.iconst 1, 1) := by decide +kernel
theorem d_Rea_readBareToken_30 : decode b_Rea_readBareToken 30 = .ok (.iadd, 1) := by decide +kernel
theorem d_Rea_readBareToken_31 : decode b_Rea_readBareToken 31 = .ok (.invokevirtual 53, 3) := by decide +kernel
theorem d_Rea_readBareToken_34 : decode b_Rea_readBareToken 34 = .ok (.invokestatic 95, 3) := by decide +kernel
theorem d_Rea_readBareToken_37 : decode b_Rea_readBareToken 37 = .ok (.ifCond .ne 41, 3) := by decide +kernel
theorem d_Rea_readBareToken_40 : decode b_Rea_readBareToken 40 = .ok (.aload_n 0, 1) := by decide +kernel
theorem d_Rea_readBareToken_41 : decode b_Rea_readBareToken 41 = .ok (.iconst 2, 1) := by decide +kernel
theorem d_Rea_readBareToken_42 : decode b_Rea_readBareToken 42 = .ok (.aload_n 0, 1) := by decide +kernel
theorem d_Rea_readBareToken_43 : decode b_Rea_readBareToken 43 = .ok (.getfield 37, 3) := by decide +kernel
theorem d_Rea_readBareToken_46 : decode b_Rea_readBareToken 46 = .ok (.aload_n 0, 1) := by decide +kernel
theorem d_Rea_readBareToken_47 : decode b_Rea_readBareToken 47 = .ok (.getfield 37, 3) := by decide +kernel
theorem d_Rea_readBareToken_50 : decode b_Rea_readBareToken 50 = .ok (.iconst 1, 1) := by decide +kernel
theorem d_Rea_readBareToken_51 : decode b_Rea_readBareToken 51 = .ok (.iadd, 1) := by decide +kernel
theorem d_Rea_readBareToken_52 : decode b_Rea_readBareToken 52 = .ok (.invokevirtual 98, 3) := by decide +kernel
theorem d_Rea_readBareToken_55 : decode b_Rea_readBareToken 55 = .ok (.aload_n 0, 1) := by decide +kernel
theorem d_Rea_readBareToken_56 : decode b_Rea_readBareToken 56 = .ok (.dup, 1) := by decide +kernel
theorem d_Rea_readBareToken_57 : decode b_Rea_readBareToken 57 = .ok (.getfield 34, 3) := by decide +kernel
theorem d_Rea_readBareToken_60 : decode b_Rea_readBareToken 60 = .ok (.iconst 1, 1) := by decide +kernel
theorem d_Rea_readBareToken_61 : decode b_Rea_readBareToken 61 = .ok (.iadd, 1) := by decide +kernel
theorem d_Rea_readBareToken_62 : decode b_Rea_readBareToken 62 = .ok (.putfield 34, 3) := by decide +kernel
theorem d_Rea_readBareToken_65 : decode b_Rea_readBareToken 65 = .ok (.aload_n 0, 1) := by decide +kernel
theorem d_Rea_readBareToken_66 : decode b_Rea_readBareToken 66 = .ok (.dup, 1) := by decide +kernel
theorem d_Rea_readBareToken_67 : decode b_Rea_readBareToken 67 = .ok (.getfield 37, 3) := by decide +kernel
theorem d_Rea_readBareToken_70 : decode b_Rea_readBareToken 70 = .ok (.iconst 1, 1) := by decide +kernel
theorem d_Rea_readBareToken_71 : decode b_Rea_readBareToken 71 = .ok (.iadd, 1) := by decide +kernel
theorem d_Rea_readBareToken_72 : decode b_Rea_readBareToken 72 = .ok (.putfield 37, 3) := by decide +kernel
theorem d_Rea_readBareToken_75 : decode b_Rea_readBareToken 75 = .ok (.goto 18, 3) := by decide +kernel
theorem d_Rea_readBareToken_78 : decode b_Rea_readBareToken 78 = .ok (.aload_n 0, 1) := by decide +kernel
theorem d_Rea_readBareToken_79 : decode b_Rea_readBareToken 79 = .ok (.iconst 1, 1) := by decide +kernel
theorem d_Rea_readBareToken_80 : decode b_Rea_readBareToken 80 = .ok (.invokevirtual 65, 3) := by decide +kernel
theorem d_Rea_readBareToken_83 : decode b_Rea_readBareToken 83 = .ok (.aload_n 0, 1) := by decide +kernel
theorem d_Rea_readBareToken_84 : decode b_Rea_readBareToken 84 = .ok (.dup, 1) := by decide +kernel
theorem d_Rea_readBareToken_85 : decode b_Rea_readBareToken 85 = .ok (.getfield 34, 3) := by decide +kernel
theorem d_Rea_readBareToken_88 : decode b_Rea_readBareToken 88 = .ok (.iconst 1, 1) := by decide +kernel
theorem d_Rea_readBareToken_89 : decode b_Rea_readBareToken 89 = .ok (.iadd, 1) := by decide +kernel
theorem d_Rea_readBareToken_90 : decode b_Rea_readBareToken 90 = .ok (.putfield 34, 3) := by decide +kernel
theorem d_Rea_readBareToken_93 : decode b_Rea_readBareToken 93 = .ok (.return_, 1) := by decide +kernel
theorem d_Rea_readVariable_0 : decode b_Rea_readVariable 0 = .ok (.aload_n 0, 1) := by decide +kernel
theorem d_Rea_readVariable_1 : decode b_Rea_readVariable 1 = .ok (.getfield 37, 3) := by decide +kernel
theorem d_Rea_readVariable_4 : decode b_Rea_readVariable 4 = .ok (.istore_n 2, 1) := by decide +kernel
theorem d_Rea_readVariable_5 : decode b_Rea_readVariable 5 = .ok (.aload_n 0, 1) := by decide +kernel
theorem d_Rea_readVariable_6 : decode b_Rea_readVariable 6 = .ok (.getfield 14, 3) := by decide +kernel
theorem d_Rea_readVariable_9 : decode b_Rea_readVariable 9 = .ok (.aload_n 0, 1) := by decide +kernel
theorem d_Rea_readVariable_10 : decode b_Rea_readVariable 10 = .ok (.getfield 37, 3) := by decide +kernel
theorem d_Rea_readVariable_13 : decode b_Rea_readVariable 13 = .ok (.invokevirtual 53, 3) := by decide +kernel
theorem d_Rea_readVariable_16 : decode b_Rea_readVariable 16 = .ok (.istore_n 3, 1) := by decide +kernel
theorem d_Rea_readVariable_17 : decode b_Rea_readVariable 17 = .ok (.iload_n 3, 1) := by decide +kernel
theorem d_Rea_readVariable_18 : decode b_Rea_readVariable 18 = .ok (.invokestatic 95, 3) := by decide +kernel
theorem d_Rea_readVariable_21 : decode b_Rea_readVariable 21 = .ok (.ifCond .eq 16, 3) := by decide +kernel
theorem d_Rea_readVariable_24 : decode b_Rea_readVariable 24 = .ok (.iload_n 3, 1) := by decide +kernel
theorem d_Rea_readVariable_25 : decode b_Rea_readVariable 25 = .ok (.invokestatic 89, 3) := by decide +kernel
theorem d_Rea_readVariable_28 : decode b_Rea_readVariable 28 = .ok (.ifCond .ne 9, 3) := by decide +kernel
theorem d_Rea_readVariable_31 : decode b_Rea_readVariable 31 = .ok (.iload_n 3, 1) := by decide +kernel
theorem d_Rea_readVariable_32 : decode b_Rea_readVariable 32 = .ok (.bipush 46, 2) := by decide +kernel
theorem d_Rea_readVariable_34 : decode b_Rea_readVariable 34 = .ok (.if_icmp .ne 12, 3) := by decide +kernel
theorem d_Rea_readVariable_37 : decode b_Rea_readVariable 37 = .ok (.aload_n 0, 1) := by decide +kernel
theorem d_Rea_readVariable_38 : decode b_Rea_readVariable 38 = .ok (.aload_n 0, 1) := by decide +kernel
theorem d_Rea_readVariable_39 : decode b_Rea_readVariable 39 = .ok (.getfield 37, 3) := by decide +kernel
theorem d_Rea_readVariable_42 : decode b_Rea_readVariable 42 = .ok (.invokevirtual 71, 3) := by decide +kernel
theorem d_Rea_readVariable_45 : decode b_Rea_readVariable 45 = .ok (.return_, 1) := by decide +kernel
theorem d_Rea_readVariable_46 : decode b_Rea_readVariable 46 = .ok (.aload_n 0, 1) := by decide +kernel
theorem d_Rea_readVariable_47 : decode b_Rea_readVariable 47 = .ok (.getfield 37, 3) := by decide +kernel
theorem d_Rea_readVariable_50 : decode b_Rea_readVariable 50 = .ok (.iload_n 2, 1) := by decide +kernel
theorem d_Rea_readVariable_51 : decode b_Rea_readVariable 51 = .ok (.bipush 30, 2) := by decide +kernel
theorem d_Rea_readVariable_53 : decode b_Rea_readVariable 53 = .ok (.iadd, 1) := by decide +kernel
theorem d_Rea_readVariable_54 : decode b_Rea_readVariable 54 = .ok (.if_icmp .ge 33, 3) := by decide +kernel
theorem d_Rea_readVariable_57 : decode b_Rea_readVariable 57 = .ok (.aload_n 0, 1) := by decide +kernel
theorem d_Rea_readVariable_58 : decode b_Rea_readVariable 58 = .ok (.getfield 14, 3) := by decide +kernel
theorem d_Rea_readVariable_61 : decode b_Rea_readVariable 61 = .ok (.aload_n 0, 1) := by decide +kernel
theorem d_Rea_readVariable_62 : decode b_Rea_readVariable 62 = .ok (.getfield 37, 3) := by decide +kernel
theorem d_Rea_readVariable_65 : decode b_Rea_readVariable 65 = .ok (.invokevirtual 53, 3) := by decide +kernel
theorem d_Rea_readVariable_68 : decode b_Rea_readVariable 68 = .ok (.invokestatic 95, 3) := by decide +kernel
theorem d_Rea_readVariable_71 : decode b_Rea_readVariable 71 = .ok (.ifCond .eq 16, 3) := by decide +kernel
theorem d_Rea_readVariable_74 : decode b_Rea_readVariable 74 = .ok (.aload_n 0, 1) := by decide +kernel
theorem d_Rea_readVariable_75 : decode b_Rea_readVariable 75 = .ok (.dup, 1) := by decide +kernel
theorem d_Rea_readVariable_76 : decode b_Rea_readVariable 76 = .ok (.getfield 37, 3) := by decide +kernel
theorem d_Rea_readVariable_79 : decode b_Rea_readVariable 79 = .ok (.iconst 1, 1) := by decide +kernel
theorem d_Rea_readVariable_80 : decode b_Rea_readVariable 80 = .ok (.iadd, 1) := by decide +kernel
theorem d_Rea_readVariable_81 : decode b_Rea_readVariable 81 = .ok (.putfield 37, 3) := by decide +kernel
theorem d_Rea_readVariable_84 : decode b_Rea_readVariable 84 = .ok (.goto (-38), 3) := by decide +kernel
theorem d_Rea_readVariable_87 : decode b_Rea_readVariable 87 = .ok (.aload_n 0, 1) := by decide +kernel
theorem d_Rea_readVariable_88 : decode b_Rea_readVariable 88 = .ok (.getfield 14, 3) := by decide +kernel
theorem d_Rea_readVariable_91 : decode b_Rea_readVariable 91 = .ok (.aload_n 0, 1) := by decide +kernel
theorem d_Rea_readVariable_92 : decode b_Rea_readVariable 92 = .ok (.getfield 37, 3) := by decide +kernel
theorem d_Rea_readVariable_95 : decode b_Rea_readVariable 95 = .ok (.invokevirtual 53, 3) := by decide +kernel
theorem d_Rea_readVariable_98 : decode b_Rea_readVariable 98 = .ok (.invokestatic 95, 3) := by decide +kernel
theorem d_Rea_readVariable_101 : decode b_Rea_readVariable 101 = .ok (.ifCond .eq 14, 3) := by decide +kernel
theorem d_Rea_readVariable_104 : decode b_Rea_readVariable 104 = .ok (.aload_n 0, 1) := by decide +kernel
theorem d_Rea_readVariable_105 : decode b_Rea_readVariable 105 = .ok (.aload_n 0, 1) := by decide +kernel
theorem d_Rea_readVariable_106 : decode b_Rea_readVariable 106 = .ok (.getfield 37, 3) := by decide +kernel
theorem d_Rea_readVariable_109 : decode b_Rea_readVariable 109 = .ok (.invokevirtual 71, 3) := by decide +kernel
theorem d_Rea_readVariable_112 : decode b_Rea_readVariable 112 = .ok (.goto 13, 3) := by decide +kernel
theorem d_Rea_readVariable_115 : decode b_Rea_readVariable 115 = .ok (.aload_n 0, 1) := by decide +kernel
theorem d_Rea_readVariable_116 : decode b_Rea_readVariable 116 = .ok (.iload_n 1, 1) := by decide +kernel
theorem d_Rea_readVariable_117 : decode b_Rea_readVariable 117 = .ok (.iload_n 2, 1) := by decide +kernel
theorem d_Rea_readVariable_118 : decode b_Rea_readVariable 118 = .ok (.aload_n 0, 1) := by decide +kernel
theorem d_Rea_readVariable_119 : decode b_Rea_readVariable 119 = .ok (.getfield 37, 3) := by decide +kernel
theorem d_Rea_readVariable_122 : decode b_Rea_readVariable 122 = .ok (.invokevirtual 98, 3) := by decide +kernel
theorem d_Rea_readVariable_125 : decode b_Rea_readVariable 125 = .ok (.return_, 1) := by decide +kernel
theorem d_Rea_readBracket_0 : decode b_Rea_readBracket 0 = .ok (.aload_n 0, 1) := by decide +kernel
theorem d_Rea_readBracket_1 : decode b_Rea_readBracket 1 = .ok (.dup, 1) := by decide +kernel
theorem d_Rea_readBracket_2 : decode b_Rea_readBracket 2 = .ok (.getfield 37, 3) := by decide +kernel
theorem d_Rea_readBracket_5 : decode b_Rea_readBracket 5 = .ok (.iconst 1, 1) := by decide +kernel
theorem d_Rea_readBracket_6 : decode b_Rea_readBracket 6 = .ok (.iadd, 1) := by decide +kernel
theorem d_Rea_readBracket_7 : decode b_Rea_readBracket 7 = .ok (.putfield 37, 3) := by decide +kernel
theorem d_Rea_readBracket_10 : decode b_Rea_readBracket 10 = .ok (.aload_n 0, 1) := by decide +kernel
theorem d_Rea_readBracket_11 : decode b_Rea_readBracket 11 = .ok (.invokevirtual 101, 3) := by decide +kernel
theorem d_Rea_readBracket_14 : decode b_Rea_readBracket 14 = .ok (.aload_n 0, 1) := by decide +kernel
theorem d_Rea_readBracket_15 : decode b_Rea_readBracket 15 = .ok (.iconst 4, 1) := by decide +kernel
theorem d_Rea_readBracket_16 : decode b_Rea_readBracket 16 = .ok (.invokevirtual 65, 3) := by decide +kernel
theorem d_Rea_readBracket_19 : decode b_Rea_readBracket 19 = .ok (.aload_n 0, 1) := by decide +kernel
theorem d_Rea_readBracket_20 : decode b_Rea_readBracket 20 = .ok (.getfield 40, 3) := by decide +kernel
theorem d_Rea_readBracket_23 : decode b_Rea_readBracket 23 = .ok (.ifCond .eq 4, 3) := by decide +kernel
theorem d_Rea_readBracket_26 : decode b_Rea_readBracket 26 = .ok (.return_, 1) := by decide +kernel
theorem d_Rea_readBracket_27 : decode b_Rea_readBracket 27 = .ok (.aload_n 0, 1) := by decide +kernel
theorem d_Rea_readBracket_28 : decode b_Rea_readBracket 28 = .ok (.invokevirtual 101, 3) := by decide +kernel
theorem d_Rea_readBracket_31 : decode b_Rea_readBracket 31 = .ok (.aload_n 0, 1) := by decide +kernel
theorem d_Rea_readBracket_32 : decode b_Rea_readBracket 32 = .ok (.getfield 14, 3) := by decide +kernel
theorem d_Rea_readBracket_35 : decode b_Rea_readBracket 35 = .ok (.aload_n 0, 1) := by decide +kernel
theorem d_Rea_readBracket_36 : decode b_Rea_readBracket 36 = .ok (.getfield 37, 3) := by decide +kernel
theorem d_Rea_readBracket_39 : decode b_Rea_readBracket 39 = .ok (.invokevirtual 53, 3) := by decide +kernel
theorem d_Rea_readBracket_42 : decode b_Rea_readBracket 42 = .ok (.bipush 41, 2) := by decide +kernel
theorem d_Rea_readBracket_44 : decode b_Rea_readBracket 44 = .ok (.if_icmp .ne 16, 3) := by decide +kernel
theorem d_Rea_readBracket_47 : decode b_Rea_readBracket 47 = .ok (.aload_n 0, 1) := by decide +kernel
theorem d_Rea_readBracket_48 : decode b_Rea_readBracket 48 = .ok (.dup, 1) := by decide +kernel
theorem d_Rea_readBracket_49 : decode b_Rea_readBracket 49 = .ok (.getfield 37, 3) := by decide +kernel
theorem d_Rea_readBracket_52 : decode b_Rea_readBracket 52 = .ok (.iconst 1, 1) := by decide +kernel
theorem d_Rea_readBracket_53 : decode b_Rea_readBracket 53 = .ok (.iadd, 1) := by decide +kernel
theorem d_Rea_readBracket_54 : decode b_Rea_readBracket 54 = .ok (.putfield 37, 3) := by decide +kernel
theorem d_Rea_readBracket_57 : decode b_Rea_readBracket 57 = .ok (.goto 11, 3) := by decide +kernel
theorem d_Rea_readBracket_60 : decode b_Rea_readBracket 60 = .ok (.aload_n 0, 1) := by decide +kernel
theorem d_Rea_readBracket_61 : decode b_Rea_readBracket 61 = .ok (.aload_n 0, 1) := by decide +kernel
theorem d_Rea_readBracket_62 : decode b_Rea_readBracket 62 = .ok (.getfield 37, 3) := by decide +kernel
theorem d_Rea_readBracket_65 : decode b_Rea_readBracket 65 = .ok (.invokevirtual 71, 3) := by decide +kernel
theorem d_Rea_readBracket_68 : decode b_Rea_readBracket 68 = .ok (.return_, 1) := by decide +kernel
theorem d_Rea_readSignedPlace_0 : decode b_Rea_readSignedPlace 0 = .ok (.aload_n 0, 1) := by decide +kernel
theorem d_Rea_readSignedPlace_1 : decode b_Rea_readSignedPlace 1 = .ok (.dup, 1) := by decide +kernel
theorem d_Rea_readSignedPlace_2 : decode b_Rea_readSignedPlace 2 = .ok (.getfield 37, 3) := by decide +kernel
theorem d_Rea_readSignedPlace_5 : decode b_Rea_readSignedPlace 5 = .ok (.iconst 1, 1) := by decide +kernel
theorem d_Rea_readSignedPlace_6 : decode b_Rea_readSignedPlace 6 = .ok (.iadd, 1) := by decide +kernel
theorem d_Rea_readSignedPlace_7 : decode b_Rea_readSignedPlace 7 = .ok (.putfield 37, 3) := by decide +kernel
theorem d_Rea_readSignedPlace_10 : decode b_Rea_readSignedPlace 10 = .ok (.aload_n 0, 1) := by decide +kernel
theorem d_Rea_readSignedPlace_11 : decode b_Rea_readSignedPlace 11 = .ok (.invokevirtual 101, 3) := by decide +kernel
theorem d_Rea_readSignedPlace_14 : decode b_Rea_readSignedPlace 14 = .ok (.aload_n 0, 1) := by decide +kernel
theorem d_Rea_readSignedPlace_15 : decode b_Rea_readSignedPlace 15 = .ok (.iload_n 1, 1) := by decide +kernel
theorem d_Rea_readSignedPlace_16 : decode b_Rea_readSignedPlace 16 = .ok (.invokevirtual 92, 3) := by decide +kernel
theorem d_Rea_readSignedPlace_19 : decode b_Rea_readSignedPlace 19 = .ok (.return_, 1) := by decide +kernel
theorem d_Rea_readPlace_0 : decode b_Rea_readPlace 0 = .ok (.aload_n 0, 1) := by decide +kernel
theorem d_Rea_readPlace_1 : decode b_Rea_readPlace 1 = .ok (.getfield 37, 3) := by decide +kernel
theorem d_Rea_readPlace_4 : decode b_Rea_readPlace 4 = .ok (.istore_n 2, 1) := by decide +kernel
theorem d_Rea_readPlace_5 : decode b_Rea_readPlace 5 = .ok (.aload_n 0, 1) := by decide +kernel
theorem d_Rea_readPlace_6 : decode b_Rea_readPlace 6 = .ok (.getfield 37, 3) := by decide +kernel
theorem d_Rea_readPlace_9 : decode b_Rea_readPlace 9 = .ok (.iload_n 2, 1) := by decide +kernel
theorem d_Rea_readPlace_10 : decode b_Rea_readPlace 10 = .ok (.iconst 4, 1) := by decide +kernel
theorem d_Rea_readPlace_11 : decode b_Rea_readPlace 11 = .ok (.iadd, 1) := by decide +kernel
theorem d_Rea_readPlace_12 : decode b_Rea_readPlace 12 = .ok (.if_icmp .ge 33, 3) := by decide +kernel
theorem d_Rea_readPlace_15 : decode b_Rea_readPlace 15 = .ok (.aload_n 0, 1) := by decide +kernel
theorem d_Rea_readPlace_16 : decode b_Rea_readPlace 16 = .ok (.getfield 14, 3) := by decide +kernel
theorem d_Rea_readPlace_19 : decode b_Rea_readPlace 19 = .ok (.aload_n 0, 1) := by decide +kernel
theorem d_Rea_readPlace_20 : decode b_Rea_readPlace 20 = .ok (.getfield 37, 3) := by decide +kernel
theorem d_Rea_readPlace_23 : decode b_Rea_readPlace 23 = .ok (.invokevirtual 53, 3) := by decide +kernel
theorem d_Rea_readPlace_26 : decode b_Rea_readPlace 26 = .ok (.invokestatic 89, 3) := by decide +kernel
theorem d_Rea_readPlace_29 : decode b_Rea_readPlace 29 = .ok (.ifCond .eq 16, 3) := by decide +kernel
theorem d_Rea_readPlace_32 : decode b_Rea_readPlace 32 = .ok (.aload_n 0, 1) := by decide +kernel
theorem d_Rea_readPlace_33 : decode b_Rea_readPlace 33 = .ok (.dup, 1) := by decide +kernel
theorem d_Rea_readPlace_34 : decode b_Rea_readPlace 34 = .ok (.getfield 37, 3) := by decide +kernel
theorem d_Rea_readPlace_37 : decode b_Rea_readPlace 37 = .ok (.iconst 1, 1) := by decide +kernel
theorem d_Rea_readPlace_38 : decode b_Rea_readPlace 38 = .ok (.iadd, 1) := by decide +kernel
theorem d_Rea_readPlace_39 : decode b_Rea_readPlace 39 = .ok (.putfield 37, 3) := by decide +kernel
theorem d_Rea_readPlace_42 : decode b_Rea_readPlace 42 = .ok (.goto (-37), 3) := by decide +kernel
theorem d_Rea_readPlace_45 : decode b_Rea_readPlace 45 = .ok (.aload_n 0, 1) := by decide +kernel
theorem d_Rea_readPlace_46 : decode b_Rea_readPlace 46 = .ok (.getfield 37, 3) := by decide +kernel
theorem d_Rea_readPlace_49 : decode b_Rea_readPlace 49 = .ok (.iload_n 2, 1) := by decide +kernel
theorem d_Rea_readPlace_50 : decode b_Rea_readPlace 50 = .ok (.if_icmp .eq 20, 3) := by decide +kernel
theorem d_Rea_readPlace_53 : decode b_Rea_readPlace 53 = .ok (.aload_n 0, 1) := by decide +kernel
theorem d_Rea_readPlace_54 : decode b_Rea_readPlace 54 = .ok (.getfield 14, 3) := by decide +kernel
theorem d_Rea_readPlace_57 : decode b_Rea_readPlace 57 = .ok (.aload_n 0, 1) := by decide +kernel
theorem d_Rea_readPlace_58 : decode b_Rea_readPlace 58 = .ok (.getfield 37, 3) := by decide +kernel
theorem d_Rea_readPlace_61 : decode b_Rea_readPlace 61 = .ok (.invokevirtual 53, 3) := by decide +kernel
theorem d_Rea_readPlace_64 : decode b_Rea_readPlace 64 = .ok (.invokestatic 95, 3) := by decide +kernel
theorem d_Rea_readPlace_67 : decode b_Rea_readPlace 67 = .ok (.ifCond .eq 14, 3) := by decide +kernel
theorem d_Rea_readPlace_70 : decode b_Rea_readPlace 70 = .ok (.aload_n 0, 1) := by decide +kernel
theorem d_Rea_readPlace_71 : decode b_Rea_readPlace 71 = .ok (.aload_n 0, 1) := by decide +kernel
theorem d_Rea_readPlace_72 : decode b_Rea_readPlace 72 = .ok (.getfield 37, 3) := by decide +kernel
theorem d_Rea_readPlace_75 : decode b_Rea_readPlace 75 = .ok (.invokevirtual 71, 3) := by decide +kernel
theorem d_Rea_readPlace_78 : decode b_Rea_readPlace 78 = .ok (.goto 13, 3) := by decide +kernel
theorem d_Rea_readPlace_81 : decode b_Rea_readPlace 81 = .ok (.aload_n 0, 1) := by decide +kernel
theorem d_Rea_readPlace_82 : decode b_Rea_readPlace 82 = .ok (.iload_n 1, 1) := by decide +kernel
theorem d_Rea_readPlace_83 : decode b_Rea_readPlace 83 = .ok (.iload_n 2, 1) := by decide +kernel
theorem d_Rea_readPlace_84 : decode b_Rea_readPlace 84 = .ok (.aload_n 0, 1) := by decide +kernel
theorem d_Rea_readPlace_85 : decode b_Rea_readPlace 85 = .ok (.getfield 37, 3) := by decide +kernel
theorem d_Rea_readPlace_88 : decode b_Rea_readPlace 88 = .ok (.invokevirtual 98, 3) := by decide +kernel
theorem d_Rea_readPlace_91 : decode b_Rea_readPlace 91 = .ok (.return_, 1) := by decide +kernel
theorem d_Rea_readString_0 : decode b_Rea_readString 0 = .ok (.aload_n 0, 1) := by decide +kernel
theorem d_Rea_readString_1 : decode b_Rea_readString 1 = .ok (.getfield 37, 3) := by decide +kernel
theorem d_Rea_readString_4 : decode b_Rea_readString 4 = .ok (.iconst 1, 1) := by decide +kernel
theorem d_Rea_readString_5 : decode b_Rea_readString 5 = .ok (.iadd, 1) := by decide +kernel
theorem d_Rea_readString_6 : decode b_Rea_readString 6 = .ok (.istore_n 2, 1) := by decide +kernel
theorem d_Rea_readString_7 : decode b_Rea_readString 7 = .ok (.iconst 0, 1) := by decide +kernel
theorem d_Rea_readString_8 : decode b_Rea_readString 8 = .ok (.istore_n 3, 1) := by decide +kernel
theorem d_Rea_readString_9 : decode b_Rea_readString 9 = .ok (.iload_n 2, 1) := by decide +kernel
theorem d_Rea_readString_10 : decode b_Rea_readString 10 = .ok (.istore 4, 2) := by decide +kernel
theorem d_Rea_readString_12 : decode b_Rea_readString 12 = .ok (.iload 4, 2) := by decide +kernel
theorem d_Rea_readString_14 : decode b_Rea_readString 14 = .ok (.aload_n 0, 1) := by decide +kernel
theorem d_Rea_readString_15 : decode b_Rea_readString 15 = .ok (.getfield 14, 3) := by decide +kernel
theorem d_Rea_readString_18 : decode b_Rea_readString 18 = .ok (.getfield 68, 3) := by decide +kernel
theorem d_Rea_readString_21 : decode b_Rea_readString 21 = .ok (.if_icmp .ge 90, 3) := by decide +kernel
theorem d_Rea_readString_24 : decode b_Rea_readString 24 = .ok (.aload_n 0, 1) := by decide +kernel
theorem d_Rea_readString_25 : decode b_Rea_readString 25 = .ok (.getfield 14, 3) := by decide +kernel
theorem d_Rea_readString_28 : decode b_Rea_readString 28 = .ok (.iload 4, 2) := by decide +kernel
theorem d_Rea_readString_30 : decode b_Rea_readString 30 = .ok (.invokevirtual 53, 3) := by decide +kernel
theorem d_Rea_readString_33 : decode b_Rea_readString 33 = .ok (.iload_n 1, 1) := by decide +kernel
theorem d_Rea_readString_34 : decode b_Rea_readString 34 = .ok (.if_icmp .ne 7, 3) := by decide +kernel
theorem d_Rea_readString_37 : decode b_Rea_readString 37 = .ok (.iconst 1, 1) := by decide +kernel
theorem d_Rea_readString_38 : decode b_Rea_readString 38 = .ok (.goto 4, 3) := by decide +kernel
theorem d_Rea_readString_41 : decode b_Rea_readString 41 = .ok (.iconst 0, 1) := by decide +kernel
theorem d_Rea_readString_42 : decode b_Rea_readString 42 = .ok (.istore 5, 2) := by decide +kernel
theorem d_Rea_readString_44 : decode b_Rea_readString 44 = .ok (.iload 5, 2) := by decide +kernel
theorem d_Rea_readString_46 : decode b_Rea_readString 46 = .ok (.ifCond .eq 35, 3) := by decide +kernel
theorem d_Rea_readString_49 : decode b_Rea_readString 49 = .ok (.aload_n 0, 1) := by decide +kernel
theorem d_Rea_readString_50 : decode b_Rea_readString 50 = .ok (.getfield 14, 3) := by decide +kernel
theorem d_Rea_readString_53 : decode b_Rea_readString 53 = .ok (.iload 4, 2) := by decide +kernel
theorem d_Rea_readString_55 : decode b_Rea_readString 55 = .ok (.iconst 1, 1) := by decide +kernel
theorem d_Rea_readString_56 : decode b_Rea_readString 56 = .ok (.iadd, 1) := by decide +kernel
theorem d_Rea_readString_57 : decode b_Rea_readString 57 = .ok (.invokevirtual 53, 3) := by decide +kernel
theorem d_Rea_readString_60 : decode b_Rea_readString 60 = .ok (.iload_n 1, 1) := by decide +kernel
theorem d_Rea_readString_61 : decode b_Rea_readString 61 = .ok (.if_icmp .eq 20, 3) := by decide +kernel
theorem d_Rea_readString_64 : decode b_Rea_readString 64 = .ok (.aload_n 0, 1) := by decide +kernel
theorem d_Rea_readString_65 : decode b_Rea_readString 65 = .ok (.iconst 3, 1) := by decide +kernel
theorem d_Rea_readString_66 : decode b_Rea_readString 66 = .ok (.iload_n 2, 1) := by decide +kernel
theorem d_Rea_readString_67 : decode b_Rea_readString 67 = .ok (.iload 4, 2) := by decide +kernel
theorem d_Rea_readString_69 : decode b_Rea_readString 69 = .ok (.invokevirtual 98, 3) := by decide +kernel
theorem d_Rea_readString_72 : decode b_Rea_readString 72 = .ok (.aload_n 0, 1) := by decide +kernel
theorem d_Rea_readString_73 : decode b_Rea_readString 73 = .ok (.iload 4, 2) := by decide +kernel
theorem d_Rea_readString_75 : decode b_Rea_readString 75 = .ok (.iconst 1, 1) := by decide +kernel
theorem d_Rea_readString_76 : decode b_Rea_readString 76 = .ok (.iadd, 1) := by decide +kernel
theorem d_Rea_readString_77 : decode b_Rea_readString 77 = .ok (.putfield 37, 3) := by decide +kernel
theorem d_Rea_readString_80 : decode b_Rea_readString 80 = .ok (.return_, 1) := by decide +kernel
theorem d_Rea_readString_81 : decode b_Rea_readString 81 = .ok (.iload_n 3, 1) := by decide +kernel
theorem d_Rea_readString_82 : decode b_Rea_readString 82 = .ok (.bipush 40, 2) := by decide +kernel
theorem d_Rea_readString_84 : decode b_Rea_readString 84 = .ok (.if_icmp .ne 10, 3) := by decide +kernel
theorem d_Rea_readString_87 : decode b_Rea_readString 87 = .ok (.aload_n 0, 1) := by decide +kernel
theorem d_Rea_readString_88 : decode b_Rea_readString 88 = .ok (.iload 4, 2) := by decide +kernel
theorem d_Rea_readString_90 : decode b_Rea_readString 90 = .ok (.invokevirtual 71, 3) := by decide +kernel
theorem d_Rea_readString_93 : decode b_Rea_readString 93 = .ok (.return_, 1) := by decide +kernel
theorem d_Rea_readString_94 : decode b_Rea_readString 94 = .ok (.iinc 3 1, 3) := by decide +kernel
theorem d_Rea_readString_97 : decode b_Rea_readString 97 = .ok (.iload 5, 2) := by decide +kernel
theorem d_Rea_readString_99 : decode b_Rea_readString 99 = .ok (.ifCond .eq 6, 3) := by decide +kernel
theorem d_Rea_readString_102 : decode b_Rea_readString 102 = .ok (.iinc 4 1, 3) := by decide +kernel
theorem d_Rea_readString_105 : decode b_Rea_readString 105 = .ok (.iinc 4 1, 3) := by decide +kernel
theorem d_Rea_readString_108 : decode b_Rea_readString 108 = .ok (.goto (-96), 3) := by decide +kernel
theorem d_Rea_readString_111 : decode b_Rea_readString 111 = .ok (.aload_n 0, 1) := by decide +kernel
theorem d_Rea_readString_112 : decode b_Rea_readString 112 = .ok (.aload_n 0, 1) := by decide +kernel
theorem d_Rea_readString_113 : decode b_Rea_readString 113 = .ok (.getfield 37, 3) := by decide +kernel
theorem d_Rea_readString_116 : decode b_Rea_readString 116 = .ok (.invokevirtual 71, 3) := by decide +kernel
theorem d_Rea_readString_119 : decode b_Rea_readString 119 = .ok (.return_, 1) := by decide +kernel
theorem d_Rea_skipBlanks_0 : decode b_Rea_skipBlanks 0 = .ok (.aload_n 0, 1) := by decide +kernel
theorem d_Rea_skipBlanks_1 : decode b_Rea_skipBlanks 1 = .ok (.getfield 37, 3) := by decide +kernel
theorem d_Rea_skipBlanks_4 : decode b_Rea_skipBlanks 4 = .ok (.aload_n 0, 1) := by decide +kernel
theorem d_Rea_skipBlanks_5 : decode b_Rea_skipBlanks 5 = .ok (.getfield 14, 3) := by decide +kernel
theorem d_Rea_skipBlanks_8 : decode b_Rea_skipBlanks 8 = .ok (.getfield 68, 3) := by decide +kernel
theorem d_Rea_skipBlanks_11 : decode b_Rea_skipBlanks 11 = .ok (.if_icmp .ge 32, 3) := by decide +kernel
theorem d_Rea_skipBlanks_14 : decode b_Rea_skipBlanks 14 = .ok (.aload_n 0, 1) := by decide +kernel
theorem d_Rea_skipBlanks_15 : decode b_Rea_skipBlanks 15 = .ok (.getfield 14, 3) := by decide +kernel
theorem d_Rea_skipBlanks_18 : decode b_Rea_skipBlanks 18 = .ok (.aload_n 0, 1) := by decide +kernel
theorem d_Rea_skipBlanks_19 : decode b_Rea_skipBlanks 19 = .ok (.getfield 37, 3) := by decide +kernel
theorem d_Rea_skipBlanks_22 : decode b_Rea_skipBlanks 22 = .ok (.invokevirtual 53, 3) := by decide +kernel
theorem d_Rea_skipBlanks_25 : decode b_Rea_skipBlanks 25 = .ok (.bipush 32, 2) := by decide +kernel
theorem d_Rea_skipBlanks_27 : decode b_Rea_skipBlanks 27 = .ok (.if_icmp .ne 16, 3) := by decide +kernel
theorem d_Rea_skipBlanks_30 : decode b_Rea_skipBlanks 30 = .ok (.aload_n 0, 1) := by decide +kernel
theorem d_Rea_skipBlanks_31 : decode b_Rea_skipBlanks 31 = .ok (.dup, 1) := by decide +kernel
theorem d_Rea_skipBlanks_32 : decode b_Rea_skipBlanks 32 = .ok (.getfield 37, 3) := by decide +kernel
theorem d_Rea_skipBlanks_35 : decode b_Rea_skipBlanks 35 = .ok (.iconst 1, 1) := by decide +kernel
theorem d_Rea_skipBlanks_36 : decode b_Rea_skipBlanks 36 = .ok (.iadd, 1) := by decide +kernel
theorem d_Rea_skipBlanks_37 : decode b_Rea_skipBlanks 37 = .ok (.putfield 37, 3) := by decide +kernel
theorem d_Rea_skipBlanks_40 : decode b_Rea_skipBlanks 40 = .ok (.goto (-40), 3) := by decide +kernel
theorem d_Rea_skipBlanks_43 : decode b_Rea_skipBlanks 43 = .ok (.return_, 1) := by decide +kernel
theorem d_Rea_add_0 : decode b_Rea_add 0 = .ok (.aload_n 0, 1) := by decide +kernel
theorem d_Rea_add_1 : decode b_Rea_add 1 = .ok (.getfield 30, 3) := by decide +kernel
theorem d_Rea_add_4 : decode b_Rea_add 4 = .ok (.ifCond .lt 79, 3) := by decide +kernel
theorem d_Rea_add_7 : decode b_Rea_add 7 = .ok (.aload_n 0, 1) := by decide +kernel
theorem d_Rea_add_8 : decode b_Rea_add 8 = .ok (.getfield 30, 3) := by decide +kernel
theorem d_Rea_add_11 : decode b_Rea_add 11 = .ok (.aload_n 0, 1) := by decide +kernel
theorem d_Rea_add_12 : decode b_Rea_add 12 = .ok (.getfield 20, 3) := by decide +kernel
theorem d_Rea_add_15 : decode b_Rea_add 15 = .ok (.arraylength, 1) := by decide +kernel
theorem d_Rea_add_16 : decode b_Rea_add 16 = .ok (.if_icmp .ge 67, 3) := by decide +kernel
theorem d_Rea_add_19 : decode b_Rea_add 19 = .ok (.aload_n 0, 1) := by decide +kernel
theorem d_Rea_add_20 : decode b_Rea_add 20 = .ok (.getfield 30, 3) := by decide +kernel
theorem d_Rea_add_23 : decode b_Rea_add 23 = .ok (.aload_n 0, 1) := by decide +kernel
theorem d_Rea_add_24 : decode b_Rea_add 24 = .ok (.getfield 24, 3) := by decide +kernel
theorem d_Rea_add_27 : decode b_Rea_add 27 = .ok (.arraylength, 1) := by decide +kernel
theorem d_Rea_add_28 : decode b_Rea_add 28 = .ok (.if_icmp .ge 55, 3) := by decide +kernel
theorem d_Rea_add_31 : decode b_Rea_add 31 = .ok (.aload_n 0, 1) := by decide +kernel
theorem d_Rea_add_32 : decode b_Rea_add 32 = .ok (.getfield 30, 3) := by decide +kernel
theorem d_Rea_add_35 : decode b_Rea_add 35 = .ok (.aload_n 0, 1) := by decide +kernel
theorem d_Rea_add_36 : decode b_Rea_add 36 = .ok (.getfield 27, 3) := by decide +kernel
theorem d_Rea_add_39 : decode b_Rea_add 39 = .ok (.arraylength, 1) := by decide +kernel
theorem d_Rea_add_40 : decode b_Rea_add 40 = .ok (.if_icmp .ge 43, 3) := by decide +kernel
theorem d_Rea_add_43 : decode b_Rea_add 43 = .ok (.aload_n 0, 1) := by decide +kernel
theorem d_Rea_add_44 : decode b_Rea_add 44 = .ok (.getfield 20, 3) := by decide +kernel
theorem d_Rea_add_47 : decode b_Rea_add 47 = .ok (.aload_n 0, 1) := by decide +kernel
theorem d_Rea_add_48 : decode b_Rea_add 48 = .ok (.getfield 30, 3) := by decide +kernel
theorem d_Rea_add_51 : decode b_Rea_add 51 = .ok (.iload_n 1, 1) := by decide +kernel
theorem d_Rea_add_52 : decode b_Rea_add 52 = .ok (.iastore, 1) := by decide +kernel
theorem d_Rea_add_53 : decode b_Rea_add 53 = .ok (.aload_n 0, 1) := by decide +kernel
theorem d_Rea_add_54 : decode b_Rea_add 54 = .ok (.getfield 24, 3) := by decide +kernel
theorem d_Rea_add_57 : decode b_Rea_add 57 = .ok (.aload_n 0, 1) := by decide +kernel
theorem d_Rea_add_58 : decode b_Rea_add 58 = .ok (.getfield 30, 3) := by decide +kernel
theorem d_Rea_add_61 : decode b_Rea_add 61 = .ok (.iload_n 2, 1) := by decide +kernel
theorem d_Rea_add_62 : decode b_Rea_add 62 = .ok (.iastore, 1) := by decide +kernel
theorem d_Rea_add_63 : decode b_Rea_add 63 = .ok (.aload_n 0, 1) := by decide +kernel
theorem d_Rea_add_64 : decode b_Rea_add 64 = .ok (.getfield 27, 3) := by decide +kernel
theorem d_Rea_add_67 : decode b_Rea_add 67 = .ok (.aload_n 0, 1) := by decide +kernel
theorem d_Rea_add_68 : decode b_Rea_add 68 = .ok (.getfield 30, 3) := by decide +kernel
theorem d_Rea_add_71 : decode b_Rea_add 71 = .ok (.iload_n 3, 1) := by decide +kernel
theorem d_Rea_add_72 : decode b_Rea_add 72 = .ok (.iastore, 1) := by decide +kernel
theorem d_Rea_add_73 : decode b_Rea_add 73 = .ok (.aload_n 0, 1) := by decide +kernel
theorem d_Rea_add_74 : decode b_Rea_add 74 = .ok (.dup, 1) := by decide +kernel
theorem d_Rea_add_75 : decode b_Rea_add 75 = .ok (.getfield 30, 3) := by decide +kernel
theorem d_Rea_add_78 : decode b_Rea_add 78 = .ok (.iconst 1, 1) := by decide +kernel
theorem d_Rea_add_79 : decode b_Rea_add 79 = .ok (.iadd, 1) := by decide +kernel
theorem d_Rea_add_80 : decode b_Rea_add 80 = .ok (.putfield 30, 3) := by decide +kernel
theorem d_Rea_add_83 : decode b_Rea_add 83 = .ok (.return_, 1) := by decide +kernel
theorem d_Rea_fail_0 : decode b_Rea_fail 0 = .ok (.aload_n 0, 1) := by decide +kernel
theorem d_Rea_fail_1 : decode b_Rea_fail 1 = .ok (.sipush (-1000), 3) := by decide +kernel
theorem d_Rea_fail_4 : decode b_Rea_fail 4 = .ok (.iload_n 1, 1) := by decide +kernel
theorem d_Rea_fail_5 : decode b_Rea_fail 5 = .ok (.isub, 1) := by decide +kernel
theorem d_Rea_fail_6 : decode b_Rea_fail 6 = .ok (.putfield 40, 3) := by decide +kernel
theorem d_Rea_fail_9 : decode b_Rea_fail 9 = .ok (.return_, 1) := by decide +kernel
theorem d_Cut_init_0 : decode b_Cut_init 0 = .ok (.aload_n 0, 1) := by decide +kernel
theorem d_Cut_init_1 : decode b_Cut_init 1 = .ok (.invokespecial 3, 3) := by decide +kernel
theorem d_Cut_init_4 : decode b_Cut_init 4 = .ok (.aload_n 0, 1) := by decide +kernel
theorem d_Cut_init_5 : decode b_Cut_init 5 = .ok (.new 9, 3) := by decide +kernel
theorem d_Cut_init_8 : decode b_Cut_init 8 = .ok (.dup, 1) := by decide +kernel
theorem d_Cut_init_9 : decode b_Cut_init 9 = .ok (.sipush 200, 3) := by decide +kernel
theorem d_Cut_init_12 : decode b_Cut_init 12 = .ok (.invokespecial 11, 3) := by decide +kernel
theorem d_Cut_init_15 : decode b_Cut_init 15 = .ok (.putfield 14, 3) := by decide +kernel
theorem d_Cut_init_18 : decode b_Cut_init 18 = .ok (.aload_n 0, 1) := by decide +kernel
theorem d_Cut_init_19 : decode b_Cut_init 19 = .ok (.iconst 1, 1) := by decide +kernel
theorem d_Cut_init_20 : decode b_Cut_init 20 = .ok (.putfield 20, 3) := by decide +kernel
theorem d_Cut_init_23 : decode b_Cut_init 23 = .ok (.aload_n 0, 1) := by decide +kernel
theorem d_Cut_init_24 : decode b_Cut_init 24 = .ok (.iconst 1, 1) := by decide +kernel
theorem d_Cut_init_25 : decode b_Cut_init 25 = .ok (.putfield 24, 3) := by decide +kernel
theorem d_Cut_init_28 : decode b_Cut_init 28 = .ok (.aload_n 0, 1) := by decide +kernel
theorem d_Cut_init_29 : decode b_Cut_init 29 = .ok (.iconst 1, 1) := by decide +kernel
theorem d_Cut_init_30 : decode b_Cut_init 30 = .ok (.putfield 27, 3) := by decide +kernel
theorem d_Cut_init_33 : decode b_Cut_init 33 = .ok (.aload_n 0, 1) := by decide +kernel
theorem d_Cut_init_34 : decode b_Cut_init 34 = .ok (.iconst 1, 1) := by decide +kernel
theorem d_Cut_init_35 : decode b_Cut_init 35 = .ok (.putfield 30, 3) := by decide +kernel
theorem d_Cut_init_38 : decode b_Cut_init 38 = .ok (.aload_n 0, 1) := by decide +kernel
theorem d_Cut_init_39 : decode b_Cut_init 39 = .ok (.iconst 1, 1) := by decide +kernel
theorem d_Cut_init_40 : decode b_Cut_init 40 = .ok (.putfield 33, 3) := by decide +kernel
theorem d_Cut_init_43 : decode b_Cut_init 43 = .ok (.aload_n 0, 1) := by decide +kernel
theorem d_Cut_init_44 : decode b_Cut_init 44 = .ok (.iconst 1, 1) := by decide +kernel
theorem d_Cut_init_45 : decode b_Cut_init 45 = .ok (.putfield 36, 3) := by decide +kernel
theorem d_Cut_init_48 : decode b_Cut_init 48 = .ok (.return_, 1) := by decide +kernel
theorem d_Cut_begin_0 : decode b_Cut_begin 0 = .ok (.aload_n 0, 1) := by decide +kernel
theorem d_Cut_begin_1 : decode b_Cut_begin 1 = .ok (.iconst 1, 1) := by decide +kernel
theorem d_Cut_begin_2 : decode b_Cut_begin 2 = .ok (.putfield 20, 3) := by decide +kernel
theorem d_Cut_begin_5 : decode b_Cut_begin 5 = .ok (.aload_n 0, 1) := by decide +kernel
theorem d_Cut_begin_6 : decode b_Cut_begin 6 = .ok (.iconst 1, 1) := by decide +kernel
theorem d_Cut_begin_7 : decode b_Cut_begin 7 = .ok (.putfield 24, 3) := by decide +kernel
theorem d_Cut_begin_10 : decode b_Cut_begin 10 = .ok (.return_, 1) := by decide +kernel
theorem d_Cut_take_0 : decode b_Cut_take 0 = .ok (.aload_n 0, 1) := by decide +kernel
theorem d_Cut_take_1 : decode b_Cut_take 1 = .ok (.getfield 14, 3) := by decide +kernel
theorem d_Cut_take_4 : decode b_Cut_take 4 = .ok (.invokevirtual 39, 3) := by decide +kernel
theorem d_Cut_take_7 : decode b_Cut_take 7 = .ok (.iload_n 2, 1) := by decide +kernel
theorem d_Cut_take_8 : decode b_Cut_take 8 = .ok (.ifCond .eq 20, 3) := by decide +kernel
theorem d_Cut_take_11 : decode b_Cut_take 11 = .ok (.aload_n 0, 1) := by decide +kernel
theorem d_Cut_take_12 : decode b_Cut_take 12 = .ok (.getfield 14, 3) := by decide +kernel
theorem d_Cut_take_15 : decode b_Cut_take 15 = .ok (.aload_n 1, 1) := by decide +kernel
theorem d_Cut_take_16 : decode b_Cut_take 16 = .ok (.iconst 0, 1) := by decide +kernel
theorem d_Cut_take_17 : decode b_Cut_take 17 = .ok (.aload_n 1, 1) := by decide +kernel
theorem d_Cut_take_18 : decode b_Cut_take 18 = .ok (.getfield 42, 3) := by decide +kernel
theorem d_Cut_take_21 : decode b_Cut_take 21 = .ok (.invokevirtual 45, 3) := by decide +kernel
theorem d_Cut_take_24 : decode b_Cut_take 24 = .ok (.pop, 1) := by decide +kernel
theorem d_Cut_take_25 : decode b_Cut_take 25 = .ok (.goto 17, 3) := by decide +kernel
theorem d_Cut_take_28 : decode b_Cut_take 28 = .ok (.aload_n 0, 1) := by decide +kernel
theorem d_Cut_take_29 : decode b_Cut_take 29 = .ok (.getfield 14, 3) := by decide +kernel
theorem d_Cut_take_32 : decode b_Cut_take 32 = .ok (.aload_n 1, 1) := by decide +kernel
theorem d_Cut_take_33 : decode b_Cut_take 33 = .ok (.iconst 0, 1) := by decide +kernel
theorem d_Cut_take_34 : decode b_Cut_take 34 = .ok (.aload_n 1, 1) := by decide +kernel
theorem d_Cut_take_35 : decode b_Cut_take 35 = .ok (.getfield 42, 3) := by decide +kernel
theorem d_Cut_take_38 : decode b_Cut_take 38 = .ok (.invokevirtual 49, 3) := by decide +kernel
theorem d_Cut_take_41 : decode b_Cut_take 41 = .ok (.pop, 1) := by decide +kernel
theorem d_Cut_take_42 : decode b_Cut_take 42 = .ok (.return_, 1) := by decide +kernel
theorem d_Cut_cutAtPattern_0 : decode b_Cut_cutAtPattern 0 = .ok (.aload_n 0, 1) := by decide +kernel
theorem d_Cut_cutAtPattern_1 : decode b_Cut_cutAtPattern 1 = .ok (.aload_n 1, 1) := by decide +kernel
theorem d_Cut_cutAtPattern_2 : decode b_Cut_cutAtPattern 2 = .ok (.invokevirtual 52, 3) := by decide +kernel
theorem d_Cut_cutAtPattern_5 : decode b_Cut_cutAtPattern 5 = .ok (.istore_n 2, 1) := by decide +kernel
theorem d_Cut_cutAtPattern_6 : decode b_Cut_cutAtPattern 6 = .ok (.aload_n 0, 1) := by decide +kernel
theorem d_Cut_cutAtPattern_7 : decode b_Cut_cutAtPattern 7 = .ok (.aload_n 0, 1) := by decide +kernel
theorem d_Cut_cutAtPattern_8 : decode b_Cut_cutAtPattern 8 = .ok (.getfield 20, 3) := by decide +kernel
theorem d_Cut_cutAtPattern_11 : decode b_Cut_cutAtPattern 11 = .ok (.putfield 27, 3) := by decide +kernel
theorem d_Cut_cutAtPattern_14 : decode b_Cut_cutAtPattern 14 = .ok (.aload_n 0, 1) := by decide +kernel
theorem d_Cut_cutAtPattern_15 : decode b_Cut_cutAtPattern 15 = .ok (.iload_n 2, 1) := by decide +kernel
theorem d_Cut_cutAtPattern_16 : decode b_Cut_cutAtPattern 16 = .ok (.putfield 30, 3) := by decide +kernel
theorem d_Cut_cutAtPattern_19 : decode b_Cut_cutAtPattern 19 = .ok (.aload_n 0, 1) := by decide +kernel
theorem d_Cut_cutAtPattern_20 : decode b_Cut_cutAtPattern 20 = .ok (.iload_n 2, 1) := by decide +kernel
theorem d_Cut_cutAtPattern_21 : decode b_Cut_cutAtPattern 21 = .ok (.putfield 24, 3) := by decide +kernel
theorem d_Cut_cutAtPattern_24 : decode b_Cut_cutAtPattern 24 = .ok (.aload_n 0, 1) := by decide +kernel
theorem d_Cut_cutAtPattern_25 : decode b_Cut_cutAtPattern 25 = .ok (.iload_n 2, 1) := by decide +kernel
theorem d_Cut_cutAtPattern_26 : decode b_Cut_cutAtPattern 26 = .ok (.aload_n 1, 1) := by decide +kernel
theorem d_Cut_cutAtPattern_27 : decode b_Cut_cutAtPattern 27 = .ok (.getfield 42, 3) := by decide +kernel
theorem d_Cut_cutAtPattern_30 : decode b_Cut_cutAtPattern 30 = .ok (.iadd, 1) := by decide +kernel
theorem d_Cut_cutAtPattern_31 : decode b_Cut_cutAtPattern 31 = .ok (.aload_n 0, 1) := by decide +kernel
theorem d_Cut_cutAtPattern_32 : decode b_Cut_cutAtPattern 32 = .ok (.getfield 14, 3) := by decide +kernel
theorem d_Cut_cutAtPattern_35 : decode b_Cut_cutAtPattern 35 = .ok (.getfield 42, 3) := by decide +kernel
theorem d_Cut_cutAtPattern_38 : decode b_Cut_cutAtPattern 38 = .ok (.iconst 1, 1) := by decide +kernel
theorem d_Cut_cutAtPattern_39 : decode b_Cut_cutAtPattern 39 = .ok (.iadd, 1) := by decide +kernel
theorem d_Cut_cutAtPattern_40 : decode b_Cut_cutAtPattern 40 = .ok (.invokestatic 56, 3) := by decide +kernel
theorem d_Cut_cutAtPattern_43 : decode b_Cut_cutAtPattern 43 = .ok (.putfield 20, 3) := by decide +kernel
theorem d_Cut_cutAtPattern_46 : decode b_Cut_cutAtPattern 46 = .ok (.return_, 1) := by decide +kernel
theorem d_Cut_placeOf_0 : decode b_Cut_placeOf 0 = .ok (.aload_n 0, 1) := by decide +kernel
theorem d_Cut_placeOf_1 : decode b_Cut_placeOf 1 = .ok (.getfield 14, 3) := by decide +kernel
theorem d_Cut_placeOf_4 : decode b_Cut_placeOf 4 = .ok (.getfield 42, 3) := by decide +kernel
theorem d_Cut_placeOf_7 : decode b_Cut_placeOf 7 = .ok (.iconst 1, 1) := by decide +kernel
theorem d_Cut_placeOf_8 : decode b_Cut_placeOf 8 = .ok (.iadd, 1) := by decide +kernel
theorem d_Cut_placeOf_9 : decode b_Cut_placeOf 9 = .ok (.istore_n 2, 1) := by decide +kernel
theorem d_Cut_placeOf_10 : decode b_Cut_placeOf 10 = .ok (.aload_n 1, 1) := by decide +kernel
theorem d_Cut_placeOf_11 : decode b_Cut_placeOf 11 = .ok (.getfield 42, 3) := by decide +kernel
theorem d_Cut_placeOf_14 : decode b_Cut_placeOf 14 = .ok (.ifCond .ne 5, 3) := by decide +kernel
theorem d_Cut_placeOf_17 : decode b_Cut_placeOf 17 = .ok (.iload_n 2, 1) := by decide +kernel
theorem d_Cut_placeOf_18 : decode b_Cut_placeOf 18 = .ok (.ireturn, 1) := by decide +kernel
theorem d_Cut_placeOf_19 : decode b_Cut_placeOf 19 = .ok (.aload_n 0, 1) := by decide +kernel
theorem d_Cut_placeOf_20 : decode b_Cut_placeOf 20 = .ok (.getfield 20, 3) := by decide +kernel
theorem d_Cut_placeOf_23 : decode b_Cut_placeOf 23 = .ok (.istore_n 3, 1) := by decide +kernel
theorem d_Cut_placeOf_24 : decode b_Cut_placeOf 24 = .ok (.iload_n 3, 1) := by decide +kernel
theorem d_Cut_placeOf_25 : decode b_Cut_placeOf 25 = .ok (.aload_n 1, 1) := by decide +kernel
theorem d_Cut_placeOf_26 : decode b_Cut_placeOf 26 = .ok (.getfield 42, 3) := by decide +kernel
theorem d_Cut_placeOf_29 : decode b_Cut_placeOf 29 = .ok (.iadd, 1) := by decide +kernel
theorem d_Cut_placeOf_30 : decode b_Cut_placeOf 30 = .ok (.iload_n 2, 1) := by decide +kernel
theorem d_Cut_placeOf_31 : decode b_Cut_placeOf 31 = .ok (.if_icmp .gt 25, 3) := by decide +kernel
theorem d_Cut_placeOf_34 : decode b_Cut_placeOf 34 = .ok (.aload_n 0, 1) := by decide +kernel
theorem d_Cut_placeOf_35 : decode b_Cut_placeOf 35 = .ok (.getfield 14, 3) := by decide +kernel
theorem d_Cut_placeOf_38 : decode b_Cut_placeOf 38 = .ok (.iload_n 3, 1) := by decide +kernel
theorem d_Cut_placeOf_39 : decode b_Cut_placeOf 39 = .ok (.iconst 1, 1) := by decide +kernel
theorem d_Cut_placeOf_40 : decode b_Cut_placeOf 40 = .ok (.isub, 1) := by decide +kernel
theorem d_Cut_placeOf_41 : decode b_Cut_placeOf 41 = .ok (.aload_n 1, 1) := by decide +kernel
theorem d_Cut_placeOf_42 : decode b_Cut_placeOf 42 = .ok (.invokevirtual 62, 3) := by decide +kernel
theorem d_Cut_placeOf_45 : decode b_Cut_placeOf 45 = .ok (.ifCond .eq 5, 3) := by decide +kernel
theorem d_Cut_placeOf_48 : decode b_Cut_placeOf 48 = .ok (.iload_n 3, 1) := by decide +kernel
theorem d_Cut_placeOf_49 : decode b_Cut_placeOf 49 = .ok (.ireturn, 1) := by decide +kernel
theorem d_Cut_placeOf_50 : decode b_Cut_placeOf 50 = .ok (.iinc 3 1, 3) := by decide +kernel
theorem d_Cut_placeOf_53 : decode b_Cut_placeOf 53 = .ok (.goto (-29), 3) := by decide +kernel
theorem d_Cut_placeOf_56 : decode b_Cut_placeOf 56 = .ok (.iload_n 2, 1) := by decide +kernel
theorem d_Cut_placeOf_57 : decode b_Cut_placeOf 57 = .ok (.ireturn, 1) := by decide +kernel
theorem d_Cut_cutAtPlace_0 : decode b_Cut_cutAtPlace 0 = .ok (.aload_n 0, 1) := by decide +kernel
theorem d_Cut_cutAtPlace_1 : decode b_Cut_cutAtPlace 1 = .ok (.getfield 14, 3) := by decide +kernel
theorem d_Cut_cutAtPlace_4 : decode b_Cut_cutAtPlace 4 = .ok (.getfield 42, 3) := by decide +kernel
theorem d_Cut_cutAtPlace_7 : decode b_Cut_cutAtPlace 7 = .ok (.iconst 1, 1) := by decide +kernel
theorem d_Cut_cutAtPlace_8 : decode b_Cut_cutAtPlace 8 = .ok (.iadd, 1) := by decide +kernel
theorem d_Cut_cutAtPlace_9 : decode b_Cut_cutAtPlace 9 = .ok (.istore_n 2, 1) := by decide +kernel
theorem d_Cut_cutAtPlace_10 : decode b_Cut_cutAtPlace 10 = .ok (.iconst 1, 1) := by decide +kernel
theorem d_Cut_cutAtPlace_11 : decode b_Cut_cutAtPlace 11 = .ok (.iload_n 1, 1) := by decide +kernel
theorem d_Cut_cutAtPlace_12 : decode b_Cut_cutAtPlace 12 = .ok (.iload_n 2, 1) := by decide +kernel
theorem d_Cut_cutAtPlace_13 : decode b_Cut_cutAtPlace 13 = .ok (.invokestatic 56, 3) := by decide +kernel
theorem d_Cut_cutAtPlace_16 : decode b_Cut_cutAtPlace 16 = .ok (.invokestatic 66, 3) := by decide +kernel
theorem d_Cut_cutAtPlace_19 : decode b_Cut_cutAtPlace 19 = .ok (.istore_n 3, 1) := by decide +kernel
theorem d_Cut_cutAtPlace_20 : decode b_Cut_cutAtPlace 20 = .ok (.aload_n 0, 1) := by decide +kernel
theorem d_Cut_cutAtPlace_21 : decode b_Cut_cutAtPlace 21 = .ok (.aload_n 0, 1) := by decide +kernel
theorem d_Cut_cutAtPlace_22 : decode b_Cut_cutAtPlace 22 = .ok (.getfield 20, 3) := by decide +kernel
theorem d_Cut_cutAtPlace_25 : decode b_Cut_cutAtPlace 25 = .ok (.putfield 27, 3) := by decide +kernel
theorem d_Cut_cutAtPlace_28 : decode b_Cut_cutAtPlace 28 = .ok (.aload_n 0, 1) := by decide +kernel
theorem d_Cut_cutAtPlace_29 : decode b_Cut_cutAtPlace 29 = .ok (.iload_n 3, 1) := by decide +kernel
theorem d_Cut_cutAtPlace_30 : decode b_Cut_cutAtPlace 30 = .ok (.aload_n 0, 1) := by decide +kernel
theorem d_Cut_cutAtPlace_31 : decode b_Cut_cutAtPlace 31 = .ok (.getfield 20, 3) := by decide +kernel
theorem d_Cut_cutAtPlace_34 : decode b_Cut_cutAtPlace 34 = .ok (.if_icmp .le 7, 3) := by decide +kernel
theorem d_Cut_cutAtPlace_37 : decode b_Cut_cutAtPlace 37 = .ok (.iload_n 3, 1) := by decide +kernel
theorem d_Cut_cutAtPlace_38 : decode b_Cut_cutAtPlace 38 = .ok (.goto 4, 3) := by decide +kernel
theorem d_Cut_cutAtPlace_41 : decode b_Cut_cutAtPlace 41 = .ok (.iload_n 2, 1) := by decide +kernel
theorem d_Cut_cutAtPlace_42 : decode b_Cut_cutAtPlace 42 = .ok (.putfield 30, 3) := by decide +kernel
theorem d_Cut_cutAtPlace_45 : decode b_Cut_cutAtPlace 45 = .ok (.aload_n 0, 1) := by decide +kernel
theorem d_Cut_cutAtPlace_46 : decode b_Cut_cutAtPlace 46 = .ok (.iload_n 3, 1) := by decide +kernel
theorem d_Cut_cutAtPlace_47 : decode b_Cut_cutAtPlace 47 = .ok (.putfield 24, 3) := by decide +kernel
theorem d_Cut_cutAtPlace_50 : decode b_Cut_cutAtPlace 50 = .ok (.aload_n 0, 1) := by decide +kernel
theorem d_Cut_cutAtPlace_51 : decode b_Cut_cutAtPlace 51 = .ok (.iload_n 3, 1) := by decide +kernel
theorem d_Cut_cutAtPlace_52 : decode b_Cut_cutAtPlace 52 = .ok (.putfield 20, 3) := by decide +kernel
theorem d_Cut_cutAtPlace_55 : decode b_Cut_cutAtPlace 55 = .ok (.return_, 1) := by decide +kernel
theorem d_Cut_cutAtEnd_0 : decode b_Cut_cutAtEnd 0 = .ok (.aload_n 0, 1) := by decide +kernel
theorem d_Cut_cutAtEnd_1 : decode b_Cut_cutAtEnd 1 = .ok (.aload_n 0, 1) := by decide +kernel
theorem d_Cut_cutAtEnd_2 : decode b_Cut_cutAtEnd 2 = .ok (.getfield 20, 3) := by decide +kernel
theorem d_Cut_cutAtEnd_5 : decode b_Cut_cutAtEnd 5 = .ok (.putfield 27, 3) := by decide +kernel
theorem d_Cut_cutAtEnd_8 : decode b_Cut_cutAtEnd 8 = .ok (.aload_n 0, 1) := by decide +kernel
theorem d_Cut_cutAtEnd_9 : decode b_Cut_cutAtEnd 9 = .ok (.aload_n 0, 1) := by decide +kernel
theorem d_Cut_cutAtEnd_10 : decode b_Cut_cutAtEnd 10 = .ok (.getfield 14, 3) := by decide +kernel
theorem d_Cut_cutAtEnd_13 : decode b_Cut_cutAtEnd 13 = .ok (.getfield 42, 3) := by decide +kernel
theorem d_Cut_cutAtEnd_16 : decode b_Cut_cutAtEnd 16 = .ok (.iconst 1, 1) := by decide +kernel
theorem d_Cut_cutAtEnd_17 : decode b_Cut_cutAtEnd 17 = .ok (.iadd, 1) := by decide +kernel
theorem d_Cut_cutAtEnd_18 : decode b_Cut_cutAtEnd 18 = .ok (.putfield 30, 3) := by decide +kernel
theorem d_Cut_cutAtEnd_21 : decode b_Cut_cutAtEnd 21 = .ok (.return_, 1) := by decide +kernel
theorem d_Cut_takeWord_0 : decode b_Cut_takeWord 0 = .ok (.aload_n 0, 1) := by decide +kernel
theorem d_Cut_takeWord_1 : decode b_Cut_takeWord 1 = .ok (.getfield 27, 3) := by decide +kernel
theorem d_Cut_takeWord_4 : decode b_Cut_takeWord 4 = .ok (.aload_n 0, 1) := by decide +kernel
theorem d_Cut_takeWord_5 : decode b_Cut_takeWord 5 = .ok (.getfield 30, 3) := by decide +kernel
theorem d_Cut_takeWord_8 : decode b_Cut_takeWord 8 = .ok (.if_icmp .ge 34, 3) := by decide +kernel
theorem d_Cut_takeWord_11 : decode b_Cut_takeWord 11 = .ok (.aload_n 0, 1) := by decide +kernel
theorem d_Cut_takeWord_12 : decode b_Cut_takeWord 12 = .ok (.getfield 14, 3) := by decide +kernel
theorem d_Cut_takeWord_15 : decode b_Cut_takeWord 15 = .ok (.aload_n 0, 1) := by decide +kernel
theorem d_Cut_takeWord_16 : decode b_Cut_takeWord 16 = .ok (.getfield 27, 3) := by decide +kernel
theorem d_Cut_takeWord_19 : decode b_Cut_takeWord 19 = .ok (.iconst 1, 1) := by decide +kernel
theorem d_Cut_takeWord_20 : decode b_Cut_takeWord 20 = .ok (.isub, 1) := by decide +kernel
theorem d_Cut_takeWord_21 : decode b_Cut_takeWord 21 = .ok (.invokevirtual 69, 3) := by decide +kernel
theorem d_Cut_takeWord_24 : decode b_Cut_takeWord 24 = .ok (.bipush 32, 2) := by decide +kernel
theorem d_Cut_takeWord_26 : decode b_Cut_takeWord 26 = .ok (.if_icmp .ne 16, 3) := by decide +kernel
theorem d_Cut_takeWord_29 : decode b_Cut_takeWord 29 = .ok (.aload_n 0, 1) := by decide +kernel
theorem d_Cut_takeWord_30 : decode b_Cut_takeWord 30 = .ok (.dup, 1) := by decide +kernel
theorem d_Cut_takeWord_31 : decode b_Cut_takeWord 31 = .ok (.getfield 27, 3) := by decide +kernel
theorem d_Cut_takeWord_34 : decode b_Cut_takeWord 34 = .ok (.iconst 1, 1) := by decide +kernel
theorem d_Cut_takeWord_35 : decode b_Cut_takeWord 35 = .ok (.iadd, 1) := by decide +kernel
theorem d_Cut_takeWord_36 : decode b_Cut_takeWord 36 = .ok (.putfield 27, 3) := by decide +kernel
theorem d_Cut_takeWord_39 : decode b_Cut_takeWord 39 = .ok (.goto (-39), 3) := by decide +kernel
theorem d_Cut_takeWord_42 : decode b_Cut_takeWord 42 = .ok (.aload_n 0, 1) := by decide +kernel
theorem d_Cut_takeWord_43 : decode b_Cut_takeWord 43 = .ok (.aload_n 0, 1) := by decide +kernel
theorem d_Cut_takeWord_44 : decode b_Cut_takeWord 44 = .ok (.getfield 27, 3) := by decide +kernel
theorem d_Cut_takeWord_47 : decode b_Cut_takeWord 47 = .ok (.putfield 33, 3) := by decide +kernel
theorem d_Cut_takeWord_50 : decode b_Cut_takeWord 50 = .ok (.aload_n 0, 1) := by decide +kernel
theorem d_Cut_takeWord_51 : decode b_Cut_takeWord 51 = .ok (.getfield 27, 3) := by decide +kernel
theorem d_Cut_takeWord_54 : decode b_Cut_takeWord 54 = .ok (.aload_n 0, 1) := by decide +kernel
theorem d_Cut_takeWord_55 : decode b_Cut_takeWord 55 = .ok (.getfield 30, 3) := by decide +kernel
theorem d_Cut_takeWord_58 : decode b_Cut_takeWord 58 = .ok (.if_icmp .ge 34, 3) := by decide +kernel
theorem d_Cut_takeWord_61 : decode b_Cut_takeWord 61 = .ok (.aload_n 0, 1) := by decide +kernel
theorem d_Cut_takeWord_62 : decode b_Cut_takeWord 62 = .ok (.getfield 14, 3) := by decide +kernel
theorem d_Cut_takeWord_65 : decode b_Cut_takeWord 65 = .ok (.aload_n 0, 1) := by decide +kernel
theorem d_Cut_takeWord_66 : decode b_Cut_takeWord 66 = .ok (.getfield 27, 3) := by decide +kernel
theorem d_Cut_takeWord_69 : decode b_Cut_takeWord 69 = .ok (.iconst 1, 1) := by decide +kernel
theorem d_Cut_takeWord_70 : decode b_Cut_takeWord 70 = .ok (.isub, 1) := by decide +kernel
theorem d_Cut_takeWord_71 : decode b_Cut_takeWord 71 = .ok (.invokevirtual 69, 3) := by decide +kernel
theorem d_Cut_takeWord_74 : decode b_Cut_takeWord 74 = .ok (.bipush 32, 2) := by decide +kernel
theorem d_Cut_takeWord_76 : decode b_Cut_takeWord 76 = .ok (.if_icmp .eq 16, 3) := by decide +kernel
theorem d_Cut_takeWord_79 : decode b_Cut_takeWord 79 = .ok (.aload_n 0, 1) := by decide +kernel
theorem d_Cut_takeWord_80 : decode b_Cut_takeWord 80 = .ok (.dup, 1) := by decide +kernel
theorem d_Cut_takeWord_81 : decode b_Cut_takeWord 81 = .ok (.getfield 27, 3) := by decide +kernel
theorem d_Cut_takeWord_84 : decode b_Cut_takeWord 84 = .ok (.iconst 1, 1) := by decide +kernel
theorem d_Cut_takeWord_85 : decode b_Cut_takeWord 85 = .ok (.iadd, 1) := by decide +kernel
theorem d_Cut_takeWord_86 : decode b_Cut_takeWord 86 = .ok (.putfield 27, 3) := by decide +kernel
theorem d_Cut_takeWord_89 : decode b_Cut_takeWord 89 = .ok (.goto (-39), 3) := by decide +kernel
theorem d_Cut_takeWord_92 : decode b_Cut_takeWord 92 = .ok (.aload_n 0, 1) := by decide +kernel
theorem d_Cut_takeWord_93 : decode b_Cut_takeWord 93 = .ok (.aload_n 0, 1) := by decide +kernel
theorem d_Cut_takeWord_94 : decode b_Cut_takeWord 94 = .ok (.getfield 27, 3) := by decide +kernel
theorem d_Cut_takeWord_97 : decode b_Cut_takeWord 97 = .ok (.putfield 36, 3) := by decide +kernel
theorem d_Cut_takeWord_100 : decode b_Cut_takeWord 100 = .ok (.aload_n 0, 1) := by decide +kernel
theorem d_Cut_takeWord_101 : decode b_Cut_takeWord 101 = .ok (.aload_n 0, 1) := by decide +kernel
theorem d_Cut_takeWord_102 : decode b_Cut_takeWord 102 = .ok (.getfield 27, 3) := by decide +kernel
theorem d_Cut_takeWord_105 : decode b_Cut_takeWord 105 = .ok (.iconst 1, 1) := by decide +kernel
theorem d_Cut_takeWord_106 : decode b_Cut_takeWord 106 = .ok (.iadd, 1) := by decide +kernel
theorem d_Cut_takeWord_107 : decode b_Cut_takeWord 107 = .ok (.aload_n 0, 1) := by decide +kernel
theorem d_Cut_takeWord_108 : decode b_Cut_takeWord 108 = .ok (.getfield 30, 3) := by decide +kernel
theorem d_Cut_takeWord_111 : decode b_Cut_takeWord 111 = .ok (.invokestatic 56, 3) := by decide +kernel
theorem d_Cut_takeWord_114 : decode b_Cut_takeWord 114 = .ok (.putfield 27, 3) := by decide +kernel
theorem d_Cut_takeWord_117 : decode b_Cut_takeWord 117 = .ok (.return_, 1) := by decide +kernel
theorem d_Cut_takeRest_0 : decode b_Cut_takeRest 0 = .ok (.aload_n 0, 1) := by decide +kernel
theorem d_Cut_takeRest_1 : decode b_Cut_takeRest 1 = .ok (.aload_n 0, 1) := by decide +kernel
theorem d_Cut_takeRest_2 : decode b_Cut_takeRest 2 = .ok (.getfield 27, 3) := by decide +kernel
theorem d_Cut_takeRest_5 : decode b_Cut_takeRest 5 = .ok (.putfield 33, 3) := by decide +kernel
theorem d_Cut_takeRest_8 : decode b_Cut_takeRest 8 = .ok (.aload_n 0, 1) := by decide +kernel
theorem d_Cut_takeRest_9 : decode b_Cut_takeRest 9 = .ok (.aload_n 0, 1) := by decide +kernel
theorem d_Cut_takeRest_10 : decode b_Cut_takeRest 10 = .ok (.getfield 30, 3) := by decide +kernel
theorem d_Cut_takeRest_13 : decode b_Cut_takeRest 13 = .ok (.putfield 36, 3) := by decide +kernel
theorem d_Cut_takeRest_16 : decode b_Cut_takeRest 16 = .ok (.aload_n 0, 1) := by decide +kernel
theorem d_Cut_takeRest_17 : decode b_Cut_takeRest 17 = .ok (.aload_n 0, 1) := by decide +kernel
theorem d_Cut_takeRest_18 : decode b_Cut_takeRest 18 = .ok (.getfield 30, 3) := by decide +kernel
theorem d_Cut_takeRest_21 : decode b_Cut_takeRest 21 = .ok (.putfield 27, 3) := by decide +kernel
theorem d_Cut_takeRest_24 : decode b_Cut_takeRest 24 = .ok (.return_, 1) := by decide +kernel
theorem d_Nam_init_0 : decode b_Nam_init 0 = .ok (.aload_n 0, 1) := by decide +kernel
theorem d_Nam_init_1 : decode b_Nam_init 1 = .ok (.invokespecial 1, 3) := by decide +kernel
theorem d_Nam_init_4 : decode b_Nam_init 4 = .ok (.aload_n 0, 1) := by decide +kernel
theorem d_Nam_init_5 : decode b_Nam_init 5 = .ok (.new 7, 3) := by decide +kernel
theorem d_Nam_init_8 : decode b_Nam_init 8 = .ok (.dup, 1) := by decide +kernel
theorem d_Nam_init_9 : decode b_Nam_init 9 = .ok (.invokespecial 9, 3) := by decide +kernel
theorem d_Nam_init_12 : decode b_Nam_init 12 = .ok (.putfield 10, 3) := by decide +kernel
theorem d_Nam_init_15 : decode b_Nam_init 15 = .ok (.aload_n 0, 1) := by decide +kernel
theorem d_Nam_init_16 : decode b_Nam_init 16 = .ok (.aload_n 0, 1) := by decide +kernel
theorem d_Nam_init_17 : decode b_Nam_init 17 = .ok (.getfield 10, 3) := by decide +kernel
theorem d_Nam_init_20 : decode b_Nam_init 20 = .ok (.getfield 16, 3) := by decide +kernel
theorem d_Nam_init_23 : decode b_Nam_init 23 = .ok (.putfield 20, 3) := by decide +kernel
theorem d_Nam_init_26 : decode b_Nam_init 26 = .ok (.aload_n 0, 1) := by decide +kernel
theorem d_Nam_init_27 : decode b_Nam_init 27 = .ok (.new 23, 3) := by decide +kernel
theorem d_Nam_init_30 : decode b_Nam_init 30 = .ok (.dup, 1) := by decide +kernel
theorem d_Nam_init_31 : decode b_Nam_init 31 = .ok (.sipush 200, 3) := by decide +kernel
theorem d_Nam_init_34 : decode b_Nam_init 34 = .ok (.invokespecial 25, 3) := by decide +kernel
theorem d_Nam_init_37 : decode b_Nam_init 37 = .ok (.putfield 28, 3) := by decide +kernel
theorem d_Nam_init_40 : decode b_Nam_init 40 = .ok (.aload_n 0, 1) := by decide +kernel
theorem d_Nam_init_41 : decode b_Nam_init 41 = .ok (.new 23, 3) := by decide +kernel
theorem d_Nam_init_44 : decode b_Nam_init 44 = .ok (.dup, 1) := by decide +kernel
theorem d_Nam_init_45 : decode b_Nam_init 45 = .ok (.sipush 200, 3) := by decide +kernel
theorem d_Nam_init_48 : decode b_Nam_init 48 = .ok (.invokespecial 25, 3) := by decide +kernel
theorem d_Nam_init_51 : decode b_Nam_init 51 = .ok (.putfield 31, 3) := by decide +kernel
theorem d_Nam_init_54 : decode b_Nam_init 54 = .ok (.aload_n 0, 1) := by decide +kernel
theorem d_Nam_init_55 : decode b_Nam_init 55 = .ok (.new 23, 3) := by decide +kernel
theorem d_Nam_init_58 : decode b_Nam_init 58 = .ok (.dup, 1) := by decide +kernel
theorem d_Nam_init_59 : decode b_Nam_init 59 = .ok (.sipush 200, 3) := by decide +kernel
theorem d_Nam_init_62 : decode b_Nam_init 62 = .ok (.invokespecial 25, 3) := by decide +kernel
theorem d_Nam_init_65 : decode b_Nam_init 65 = .ok (.putfield 34, 3) := by decide +kernel
theorem d_Nam_init_68 : decode b_Nam_init 68 = .ok (.aload_n 0, 1) := by decide +kernel
theorem d_Nam_init_69 : decode b_Nam_init 69 = .ok (.new 23, 3) := by decide +kernel
theorem d_Nam_init_72 : decode b_Nam_init 72 = .ok (.dup, 1) := by decide +kernel
theorem d_Nam_init_73 : decode b_Nam_init 73 = .ok (.bipush 30, 2) := by decide +kernel
theorem d_Nam_init_75 : decode b_Nam_init 75 = .ok (.invokespecial 25, 3) := by decide +kernel
theorem d_Nam_init_78 : decode b_Nam_init 78 = .ok (.putfield 37, 3) := by decide +kernel
theorem d_Nam_init_81 : decode b_Nam_init 81 = .ok (.aload_n 0, 1) := by decide +kernel
theorem d_Nam_init_82 : decode b_Nam_init 82 = .ok (.new 23, 3) := by decide +kernel
theorem d_Nam_init_85 : decode b_Nam_init 85 = .ok (.dup, 1) := by decide +kernel
theorem d_Nam_init_86 : decode b_Nam_init 86 = .ok (.sipush 200, 3) := by decide +kernel
theorem d_Nam_init_89 : decode b_Nam_init 89 = .ok (.invokespecial 25, 3) := by decide +kernel
theorem d_Nam_init_92 : decode b_Nam_init 92 = .ok (.putfield 40, 3) := by decide +kernel
theorem d_Nam_init_95 : decode b_Nam_init 95 = .ok (.aload_n 0, 1) := by decide +kernel
theorem d_Nam_init_96 : decode b_Nam_init 96 = .ok (.new 43, 3) := by decide +kernel
theorem d_Nam_init_99 : decode b_Nam_init 99 = .ok (.dup, 1) := by decide +kernel
theorem d_Nam_init_100 : decode b_Nam_init 100 = .ok (.invokespecial 45, 3) := by decide +kernel
theorem d_Nam_init_103 : decode b_Nam_init 103 = .ok (.putfield 46, 3) := by decide +kernel
theorem d_Nam_init_106 : decode b_Nam_init 106 = .ok (.aload_n 0, 1) := by decide +kernel
theorem d_Nam_init_107 : decode b_Nam_init 107 = .ok (.new 50, 3) := by decide +kernel
theorem d_Nam_init_110 : decode b_Nam_init 110 = .ok (.dup, 1) := by decide +kernel
theorem d_Nam_init_111 : decode b_Nam_init 111 = .ok (.invokespecial 52, 3) := by decide +kernel
theorem d_Nam_init_114 : decode b_Nam_init 114 = .ok (.putfield 53, 3) := by decide +kernel
theorem d_Nam_init_117 : decode b_Nam_init 117 = .ok (.aload_n 0, 1) := by decide +kernel
theorem d_Nam_init_118 : decode b_Nam_init 118 = .ok (.new 57, 3) := by decide +kernel
theorem d_Nam_init_121 : decode b_Nam_init 121 = .ok (.dup, 1) := by decide +kernel
theorem d_Nam_init_122 : decode b_Nam_init 122 = .ok (.invokespecial 59, 3) := by decide +kernel
theorem d_Nam_init_125 : decode b_Nam_init 125 = .ok (.putfield 60, 3) := by decide +kernel
theorem d_Nam_init_128 : decode b_Nam_init 128 = .ok (.return_, 1) := by decide +kernel
theorem d_Nam_feed_0 : decode b_Nam_feed 0 = .ok (.aload_n 0, 1) := by decide +kernel
theorem d_Nam_feed_1 : decode b_Nam_feed 1 = .ok (.getfield 20, 3) := by decide +kernel
theorem d_Nam_feed_4 : decode b_Nam_feed 4 = .ok (.getfield 64, 3) := by decide +kernel
theorem d_Nam_feed_7 : decode b_Nam_feed 7 = .ok (.bipush 20, 2) := by decide +kernel
theorem d_Nam_feed_9 : decode b_Nam_feed 9 = .ok (.iadd, 1) := by decide +kernel
theorem d_Nam_feed_10 : decode b_Nam_feed 10 = .ok (.sipush 600, 3) := by decide +kernel
theorem d_Nam_feed_13 : decode b_Nam_feed 13 = .ok (.if_icmp .le 6, 3) := by decide +kernel
theorem d_Nam_feed_16 : decode b_Nam_feed 16 = .ok (.bipush (-4), 2) := by decide +kernel
theorem d_Nam_feed_18 : decode b_Nam_feed 18 = .ok (.ireturn, 1) := by decide +kernel
theorem d_Nam_feed_19 : decode b_Nam_feed 19 = .ok (.aload_n 0, 1) := by decide +kernel
theorem d_Nam_feed_20 : decode b_Nam_feed 20 = .ok (.getfield 20, 3) := by decide +kernel
theorem d_Nam_feed_23 : decode b_Nam_feed 23 = .ok (.iload_n 1, 1) := by decide +kernel
theorem d_Nam_feed_24 : decode b_Nam_feed 24 = .ok (.invokevirtual 68, 3) := by decide +kernel
theorem d_Nam_feed_27 : decode b_Nam_feed 27 = .ok (.aload_n 0, 1) := by decide +kernel
theorem d_Nam_feed_28 : decode b_Nam_feed 28 = .ok (.getfield 20, 3) := by decide +kernel
theorem d_Nam_feed_31 : decode b_Nam_feed 31 = .ok (.iload_n 2, 1) := by decide +kernel
theorem d_Nam_feed_32 : decode b_Nam_feed 32 = .ok (.invokevirtual 68, 3) := by decide +kernel
theorem d_Nam_feed_35 : decode b_Nam_feed 35 = .ok (.aload_n 0, 1) := by decide +kernel
theorem d_Nam_feed_36 : decode b_Nam_feed 36 = .ok (.getfield 20, 3) := by decide +kernel
theorem d_Nam_feed_39 : decode b_Nam_feed 39 = .ok (.iload_n 3, 1) := by decide +kernel
theorem d_Nam_feed_40 : decode b_Nam_feed 40 = .ok (.invokevirtual 68, 3) := by decide +kernel
theorem d_Nam_feed_43 : decode b_Nam_feed 43 = .ok (.aload_n 0, 1) := by decide +kernel
theorem d_Nam_feed_44 : decode b_Nam_feed 44 = .ok (.getfield 20, 3) := by decide +kernel
theorem d_Nam_feed_47 : decode b_Nam_feed 47 = .ok (.iload 4, 2) := by decide +kernel
theorem d_Nam_feed_49 : decode b_Nam_feed 49 = .ok (.invokevirtual 68, 3) := by decide +kernel
theorem d_Nam_feed_52 : decode b_Nam_feed 52 = .ok (.aload_n 0, 1) := by decide +kernel
theorem d_Nam_feed_53 : decode b_Nam_feed 53 = .ok (.getfield 20, 3) := by decide +kernel
theorem d_Nam_feed_56 : decode b_Nam_feed 56 = .ok (.iload 5, 2) := by decide +kernel
theorem d_Nam_feed_58 : decode b_Nam_feed 58 = .ok (.invokevirtual 68, 3) := by decide +kernel
theorem d_Nam_feed_61 : decode b_Nam_feed 61 = .ok (.aload_n 0, 1) := by decide +kernel
theorem d_Nam_feed_62 : decode b_Nam_feed 62 = .ok (.getfield 20, 3) := by decide +kernel
theorem d_Nam_feed_65 : decode b_Nam_feed 65 = .ok (.getfield 64, 3) := by decide +kernel
theorem d_Nam_feed_68 : decode b_Nam_feed 68 = .ok (.ireturn, 1) := by decide +kernel
theorem d_Nam_end_0 : decode b_Nam_end 0 = .ok (.iload_n 1, 1) := by decide +kernel
theorem d_Nam_end_1 : decode b_Nam_end 1 = .ok (.ifCond .lt 14, 3) := by decide +kernel
theorem d_Nam_end_4 : decode b_Nam_end 4 = .ok (.iload_n 1, 1) := by decide +kernel
theorem d_Nam_end_5 : decode b_Nam_end 5 = .ok (.aload_n 0, 1) := by decide +kernel
theorem d_Nam_end_6 : decode b_Nam_end 6 = .ok (.getfield 20, 3) := by decide +kernel
theorem d_Nam_end_9 : decode b_Nam_end 9 = .ok (.getfield 64, 3) := by decide +kernel
theorem d_Nam_end_12 : decode b_Nam_end 12 = .ok (.if_icmp .le 5, 3) := by decide +kernel
theorem d_Nam_end_15 : decode b_Nam_end 15 = .ok (.iconst (-1), 1) := by decide +kernel
theorem d_Nam_end_16 : decode b_Nam_end 16 = .ok (.ireturn, 1) := by decide +kernel
theorem d_Nam_end_17 : decode b_Nam_end 17 = .ok (.aload_n 0, 1) := by decide +kernel
theorem d_Nam_end_18 : decode b_Nam_end 18 = .ok (.getfield 20, 3) := by decide +kernel
theorem d_Nam_end_21 : decode b_Nam_end 21 = .ok (.iload_n 1, 1) := by decide +kernel
theorem d_Nam_end_22 : decode b_Nam_end 22 = .ok (.putfield 64, 3) := by decide +kernel
theorem d_Nam_end_25 : decode b_Nam_end 25 = .ok (.iload_n 1, 1) := by decide +kernel
theorem d_Nam_end_26 : decode b_Nam_end 26 = .ok (.ireturn, 1) := by decide +kernel
theorem d_Nam_out_0 : decode b_Nam_out 0 = .ok (.aload_n 0, 1) := by decide +kernel
theorem d_Nam_out_1 : decode b_Nam_out 1 = .ok (.getfield 28, 3) := by decide +kernel
theorem d_Nam_out_4 : decode b_Nam_out 4 = .ok (.iload_n 1, 1) := by decide +kernel
theorem d_Nam_out_5 : decode b_Nam_out 5 = .ok (.invokevirtual 71, 3) := by decide +kernel
theorem d_Nam_out_8 : decode b_Nam_out 8 = .ok (.ireturn, 1) := by decide +kernel
theorem d_Nam_set_0 : decode b_Nam_set 0 = .ok (.aload_n 0, 1) := by decide +kernel
theorem d_Nam_set_1 : decode b_Nam_set 1 = .ok (.getfield 10, 3) := by decide +kernel
theorem d_Nam_set_4 : decode b_Nam_set 4 = .ok (.invokevirtual 75, 3) := by decide +kernel
theorem d_Nam_set_7 : decode b_Nam_set 7 = .ok (.istore_n 1, 1) := by decide +kernel
theorem d_Nam_set_8 : decode b_Nam_set 8 = .ok (.iload_n 1, 1) := by decide +kernel
theorem d_Nam_set_9 : decode b_Nam_set 9 = .ok (.ifCond .ne 39, 3) := by decide +kernel
theorem d_Nam_set_12 : decode b_Nam_set 12 = .ok (.aload_n 0, 1) := by decide +kernel
theorem d_Nam_set_13 : decode b_Nam_set 13 = .ok (.iconst 0, 1) := by decide +kernel
theorem d_Nam_set_14 : decode b_Nam_set 14 = .ok (.invokevirtual 79, 3) := by decide +kernel
theorem d_Nam_set_17 : decode b_Nam_set 17 = .ok (.ifCond .eq 28, 3) := by decide +kernel
theorem d_Nam_set_20 : decode b_Nam_set 20 = .ok (.aload_n 0, 1) := by decide +kernel
theorem d_Nam_set_21 : decode b_Nam_set 21 = .ok (.aload_n 0, 1) := by decide +kernel
theorem d_Nam_set_22 : decode b_Nam_set 22 = .ok (.getfield 20, 3) := by decide +kernel
theorem d_Nam_set_25 : decode b_Nam_set 25 = .ok (.aload_n 0, 1) := by decide +kernel
theorem d_Nam_set_26 : decode b_Nam_set 26 = .ok (.getfield 10, 3) := by decide +kernel
theorem d_Nam_set_29 : decode b_Nam_set 29 = .ok (.getfield 83, 3) := by decide +kernel
theorem d_Nam_set_32 : decode b_Nam_set 32 = .ok (.aload_n 0, 1) := by decide +kernel
theorem d_Nam_set_33 : decode b_Nam_set 33 = .ok (.getfield 20, 3) := by decide +kernel
theorem d_Nam_set_36 : decode b_Nam_set 36 = .ok (.getfield 64, 3) := by decide +kernel
theorem d_Nam_set_39 : decode b_Nam_set 39 = .ok (.invokevirtual 85, 3) := by decide +kernel
theorem d_Nam_set_42 : decode b_Nam_set 42 = .ok (.goto 5, 3) := by decide +kernel
theorem d_Nam_set_45 : decode b_Nam_set 45 = .ok (.bipush (-2), 2) := by decide +kernel
theorem d_Nam_set_47 : decode b_Nam_set 47 = .ok (.istore_n 1, 1) := by decide +kernel
theorem d_Nam_set_48 : decode b_Nam_set 48 = .ok (.aload_n 0, 1) := by decide +kernel
theorem d_Nam_set_49 : decode b_Nam_set 49 = .ok (.getfield 20, 3) := by decide +kernel
theorem d_Nam_set_52 : decode b_Nam_set 52 = .ok (.invokevirtual 89, 3) := by decide +kernel
theorem d_Nam_set_55 : decode b_Nam_set 55 = .ok (.iload_n 1, 1) := by decide +kernel
theorem d_Nam_set_56 : decode b_Nam_set 56 = .ok (.ifCond .ne 13, 3) := by decide +kernel
theorem d_Nam_set_59 : decode b_Nam_set 59 = .ok (.aload_n 0, 1) := by decide +kernel
theorem d_Nam_set_60 : decode b_Nam_set 60 = .ok (.getfield 46, 3) := by decide +kernel
theorem d_Nam_set_63 : decode b_Nam_set 63 = .ok (.getfield 92, 3) := by decide +kernel
theorem d_Nam_set_66 : decode b_Nam_set 66 = .ok (.goto 4, 3) := by decide +kernel
theorem d_Nam_set_69 : decode b_Nam_set 69 = .ok (.iload_n 1, 1) := by decide +kernel
theorem d_Nam_set_70 : decode b_Nam_set 70 = .ok (.ireturn, 1) := by decide +kernel
theorem d_Nam_get_0 : decode b_Nam_get 0 = .ok (.aload_n 0, 1) := by decide +kernel
theorem d_Nam_get_1 : decode b_Nam_get 1 = .ok (.invokevirtual 95, 3) := by decide +kernel
theorem d_Nam_get_4 : decode b_Nam_get 4 = .ok (.istore_n 1, 1) := by decide +kernel
theorem d_Nam_get_5 : decode b_Nam_get 5 = .ok (.aload_n 0, 1) := by decide +kernel
theorem d_Nam_get_6 : decode b_Nam_get 6 = .ok (.getfield 20, 3) := by decide +kernel
theorem d_Nam_get_9 : decode b_Nam_get 9 = .ok (.invokevirtual 89, 3) := by decide +kernel
theorem d_Nam_get_12 : decode b_Nam_get 12 = .ok (.iload_n 1, 1) := by decide +kernel
theorem d_Nam_get_13 : decode b_Nam_get 13 = .ok (.ifCond .eq 5, 3) := by decide +kernel
theorem d_Nam_get_16 : decode b_Nam_get 16 = .ok (.iload_n 1, 1) := by decide +kernel
theorem d_Nam_get_17 : decode b_Nam_get 17 = .ok (.ireturn, 1) := by decide +kernel
theorem d_Nam_get_18 : decode b_Nam_get 18 = .ok (.aload_n 0, 1) := by decide +kernel
theorem d_Nam_get_19 : decode b_Nam_get 19 = .ok (.getfield 28, 3) := by decide +kernel
theorem d_Nam_get_22 : decode b_Nam_get 22 = .ok (.aload_n 0, 1) := by decide +kernel
theorem d_Nam_get_23 : decode b_Nam_get 23 = .ok (.aload_n 0, 1) := by decide +kernel
theorem d_Nam_get_24 : decode b_Nam_get 24 = .ok (.invokevirtual 98, 3) := by decide +kernel
theorem d_Nam_get_27 : decode b_Nam_get 27 = .ok (.invokevirtual 102, 3) := by decide +kernel
theorem d_Nam_get_30 : decode b_Nam_get 30 = .ok (.invokevirtual 106, 3) := by decide +kernel
theorem d_Nam_get_33 : decode b_Nam_get 33 = .ok (.aload_n 0, 1) := by decide +kernel
theorem d_Nam_get_34 : decode b_Nam_get 34 = .ok (.getfield 28, 3) := by decide +kernel
theorem d_Nam_get_37 : decode b_Nam_get 37 = .ok (.getfield 64, 3) := by decide +kernel
theorem d_Nam_get_40 : decode b_Nam_get 40 = .ok (.ireturn, 1) := by decide +kernel
theorem d_Nam_known_0 : decode b_Nam_known 0 = .ok (.aload_n 0, 1) := by decide +kernel
theorem d_Nam_known_1 : decode b_Nam_known 1 = .ok (.invokevirtual 95, 3) := by decide +kernel
theorem d_Nam_known_4 : decode b_Nam_known 4 = .ok (.istore_n 1, 1) := by decide +kernel
theorem d_Nam_known_5 : decode b_Nam_known 5 = .ok (.aload_n 0, 1) := by decide +kernel
theorem d_Nam_known_6 : decode b_Nam_known 6 = .ok (.getfield 20, 3) := by decide +kernel
theorem d_Nam_known_9 : decode b_Nam_known 9 = .ok (.invokevirtual 89, 3) := by decide +kernel
theorem d_Nam_known_12 : decode b_Nam_known 12 = .ok (.iload_n 1, 1) := by decide +kernel
theorem d_Nam_known_13 : decode b_Nam_known 13 = .ok (.ifCond .eq 5, 3) := by decide +kernel
theorem d_Nam_known_16 : decode b_Nam_known 16 = .ok (.iload_n 1, 1) := by decide +kernel
theorem d_Nam_known_17 : decode b_Nam_known 17 = .ok (.ireturn, 1) := by decide +kernel
theorem d_Nam_known_18 : decode b_Nam_known 18 = .ok (.aload_n 0, 1) := by decide +kernel
theorem d_Nam_known_19 : decode b_Nam_known 19 = .ok (.invokevirtual 98, 3) := by decide +kernel
theorem d_Nam_known_22 : decode b_Nam_known 22 = .ok (.astore_n 2, 1) := by decide +kernel
theorem d_Nam_known_23 : decode b_Nam_known 23 = .ok (.aload_n 2, 1) := by decide +kernel
theorem d_Nam_known_24 : decode b_Nam_known 24 = .ok (.ifnonnull 5, 3) := by decide +kernel
theorem d_Nam_known_27 : decode b_Nam_known 27 = .ok (.iconst 0, 1) := by decide +kernel
theorem d_Nam_known_28 : decode b_Nam_known 28 = .ok (.ireturn, 1) := by decide +kernel
theorem d_Nam_known_29 : decode b_Nam_known 29 = .ok (.aload_n 2, 1) := by decide +kernel
theorem d_Nam_known_30 : decode b_Nam_known 30 = .ok (.getfield 110, 3) := by decide +kernel
theorem d_Nam_known_33 : decode b_Nam_known 33 = .ok (.getfield 64, 3) := by decide +kernel
theorem d_Nam_known_36 : decode b_Nam_known 36 = .ok (.aload_n 0, 1) := by decide +kernel
theorem d_Nam_known_37 : decode b_Nam_known 37 = .ok (.getfield 31, 3) := by decide +kernel
theorem d_Nam_known_40 : decode b_Nam_known 40 = .ok (.getfield 64, 3) := by decide +kernel
theorem d_Nam_known_43 : decode b_Nam_known 43 = .ok (.if_icmp .ne 7, 3) := by decide +kernel
theorem d_Nam_known_46 : decode b_Nam_known 46 = .ok (.iconst 2, 1) := by decide +kernel
theorem d_Nam_known_47 : decode b_Nam_known 47 = .ok (.goto 4, 3) := by decide +kernel
theorem d_Nam_known_50 : decode b_Nam_known 50 = .ok (.iconst 1, 1) := by decide +kernel
theorem d_Nam_known_51 : decode b_Nam_known 51 = .ok (.ireturn, 1) := by decide +kernel
theorem d_Nam_drop_0 : decode b_Nam_drop 0 = .ok (.aload_n 0, 1) := by decide +kernel
theorem d_Nam_drop_1 : decode b_Nam_drop 1 = .ok (.getfield 10, 3) := by decide +kernel
theorem d_Nam_drop_4 : decode b_Nam_drop 4 = .ok (.sipush 600, 3) := by decide +kernel
theorem d_Nam_drop_7 : decode b_Nam_drop 7 = .ok (.invokevirtual 115, 3) := by decide +kernel
theorem d_Nam_drop_10 : decode b_Nam_drop 10 = .ok (.istore_n 1, 1) := by decide +kernel
theorem d_Nam_drop_11 : decode b_Nam_drop 11 = .ok (.iload_n 1, 1) := by decide +kernel
theorem d_Nam_drop_12 : decode b_Nam_drop 12 = .ok (.ifCond .ne 17, 3) := by decide +kernel
theorem d_Nam_drop_15 : decode b_Nam_drop 15 = .ok (.aload_n 0, 1) := by decide +kernel
theorem d_Nam_drop_16 : decode b_Nam_drop 16 = .ok (.getfield 10, 3) := by decide +kernel
theorem d_Nam_drop_19 : decode b_Nam_drop 19 = .ok (.getfield 118, 3) := by decide +kernel
theorem d_Nam_drop_22 : decode b_Nam_drop 22 = .ok (.ifCond .ne 7, 3) := by decide +kernel
theorem d_Nam_drop_25 : decode b_Nam_drop 25 = .ok (.sipush (-1000), 3) := by decide +kernel
theorem d_Nam_drop_28 : decode b_Nam_drop 28 = .ok (.istore_n 1, 1) := by decide +kernel
theorem d_Nam_drop_29 : decode b_Nam_drop 29 = .ok (.iconst 0, 1) := by decide +kernel
theorem d_Nam_drop_30 : decode b_Nam_drop 30 = .ok (.istore_n 2, 1) := by decide +kernel
theorem d_Nam_drop_31 : decode b_Nam_drop 31 = .ok (.iload_n 2, 1) := by decide +kernel
theorem d_Nam_drop_32 : decode b_Nam_drop 32 = .ok (.aload_n 0, 1) := by decide +kernel
theorem d_Nam_drop_33 : decode b_Nam_drop 33 = .ok (.getfield 10, 3) := by decide +kernel
theorem d_Nam_drop_36 : decode b_Nam_drop 36 = .ok (.getfield 118, 3) := by decide +kernel
theorem d_Nam_drop_39 : decode b_Nam_drop 39 = .ok (.if_icmp .ge 31, 3) := by decide +kernel
theorem d_Nam_drop_42 : decode b_Nam_drop 42 = .ok (.iload_n 1, 1) := by decide +kernel
theorem d_Nam_drop_43 : decode b_Nam_drop 43 = .ok (.ifCond .ne 27, 3) := by decide +kernel
theorem d_Nam_drop_46 : decode b_Nam_drop 46 = .ok (.aload_n 0, 1) := by decide +kernel
theorem d_Nam_drop_47 : decode b_Nam_drop 47 = .ok (.iload_n 2, 1) := by decide +kernel
theorem d_Nam_drop_48 : decode b_Nam_drop 48 = .ok (.invokevirtual 79, 3) := by decide +kernel
theorem d_Nam_drop_51 : decode b_Nam_drop 51 = .ok (.ifCond .eq 10, 3) := by decide +kernel
theorem d_Nam_drop_54 : decode b_Nam_drop 54 = .ok (.aload_n 0, 1) := by decide +kernel
theorem d_Nam_drop_55 : decode b_Nam_drop 55 = .ok (.invokevirtual 119, 3) := by decide +kernel
theorem d_Nam_drop_58 : decode b_Nam_drop 58 = .ok (.goto 5, 3) := by decide +kernel
theorem d_Nam_drop_61 : decode b_Nam_drop 61 = .ok (.bipush (-2), 2) := by decide +kernel
theorem d_Nam_drop_63 : decode b_Nam_drop 63 = .ok (.istore_n 1, 1) := by decide +kernel
theorem d_Nam_drop_64 : decode b_Nam_drop 64 = .ok (.iinc 2 1, 3) := by decide +kernel
theorem d_Nam_drop_67 : decode b_Nam_drop 67 = .ok (.goto (-36), 3) := by decide +kernel
theorem d_Nam_drop_70 : decode b_Nam_drop 70 = .ok (.aload_n 0, 1) := by decide +kernel
theorem d_Nam_drop_71 : decode b_Nam_drop 71 = .ok (.getfield 20, 3) := by decide +kernel
theorem d_Nam_drop_74 : decode b_Nam_drop 74 = .ok (.invokevirtual 89, 3) := by decide +kernel
theorem d_Nam_drop_77 : decode b_Nam_drop 77 = .ok (.iload_n 1, 1) := by decide +kernel
theorem d_Nam_drop_78 : decode b_Nam_drop 78 = .ok (.ifCond .ne 13, 3) := by decide +kernel
theorem d_Nam_drop_81 : decode b_Nam_drop 81 = .ok (.aload_n 0, 1) := by decide +kernel
theorem d_Nam_drop_82 : decode b_Nam_drop 82 = .ok (.getfield 46, 3) := by decide +kernel
theorem d_Nam_drop_85 : decode b_Nam_drop 85 = .ok (.getfield 92, 3) := by decide +kernel
theorem d_Nam_drop_88 : decode b_Nam_drop 88 = .ok (.goto 4, 3) := by decide +kernel
theorem d_Nam_drop_91 : decode b_Nam_drop 91 = .ok (.iload_n 1, 1) := by decide +kernel
theorem d_Nam_drop_92 : decode b_Nam_drop 92 = .ok (.ireturn, 1) := by decide +kernel
theorem d_Nam_open_0 : decode b_Nam_open 0 = .ok (.aload_n 0, 1) := by decide +kernel
theorem d_Nam_open_1 : decode b_Nam_open 1 = .ok (.getfield 10, 3) := by decide +kernel
theorem d_Nam_open_4 : decode b_Nam_open 4 = .ok (.bipush 12, 2) := by decide +kernel
theorem d_Nam_open_6 : decode b_Nam_open 6 = .ok (.invokevirtual 115, 3) := by decide +kernel
theorem d_Nam_open_9 : decode b_Nam_open 9 = .ok (.istore_n 1, 1) := by decide +kernel
theorem d_Nam_open_10 : decode b_Nam_open 10 = .ok (.iload_n 1, 1) := by decide +kernel
theorem d_Nam_open_11 : decode b_Nam_open 11 = .ok (.ifCond .ne 25, 3) := by decide +kernel
theorem d_Nam_open_14 : decode b_Nam_open 14 = .ok (.aload_n 0, 1) := by decide +kernel
theorem d_Nam_open_15 : decode b_Nam_open 15 = .ok (.getfield 53, 3) := by decide +kernel
theorem d_Nam_open_18 : decode b_Nam_open 18 = .ok (.getfield 122, 3) := by decide +kernel
theorem d_Nam_open_21 : decode b_Nam_open 21 = .ok (.bipush 8, 2) := by decide +kernel
theorem d_Nam_open_23 : decode b_Nam_open 23 = .ok (.if_icmp .ge 10, 3) := by decide +kernel
theorem d_Nam_open_26 : decode b_Nam_open 26 = .ok (.aload_n 0, 1) := by decide +kernel
theorem d_Nam_open_27 : decode b_Nam_open 27 = .ok (.invokevirtual 125, 3) := by decide +kernel
theorem d_Nam_open_30 : decode b_Nam_open 30 = .ok (.goto 5, 3) := by decide +kernel
theorem d_Nam_open_33 : decode b_Nam_open 33 = .ok (.bipush (-4), 2) := by decide +kernel
theorem d_Nam_open_35 : decode b_Nam_open 35 = .ok (.istore_n 1, 1) := by decide +kernel
theorem d_Nam_open_36 : decode b_Nam_open 36 = .ok (.aload_n 0, 1) := by decide +kernel
theorem d_Nam_open_37 : decode b_Nam_open 37 = .ok (.getfield 20, 3) := by decide +kernel
theorem d_Nam_open_40 : decode b_Nam_open 40 = .ok (.invokevirtual 89, 3) := by decide +kernel
theorem d_Nam_open_43 : decode b_Nam_open 43 = .ok (.iload_n 1, 1) := by decide +kernel
theorem d_Nam_open_44 : decode b_Nam_open 44 = .ok (.ifCond .ne 13, 3) := by decide +kernel
theorem d_Nam_open_47 : decode b_Nam_open 47 = .ok (.aload_n 0, 1) := by decide +kernel
theorem d_Nam_open_48 : decode b_Nam_open 48 = .ok (.getfield 53, 3) := by decide +kernel
theorem d_Nam_open_51 : decode b_Nam_open 51 = .ok (.getfield 122, 3) := by decide +kernel
theorem d_Nam_open_54 : decode b_Nam_open 54 = .ok (.goto 4, 3) := by decide +kernel
theorem d_Nam_open_57 : decode b_Nam_open 57 = .ok (.iload_n 1, 1) := by decide +kernel
theorem d_Nam_open_58 : decode b_Nam_open 58 = .ok (.ireturn, 1) := by decide +kernel
theorem d_Nam_close_0 : decode b_Nam_close 0 = .ok (.aload_n 0, 1) := by decide +kernel
theorem d_Nam_close_1 : decode b_Nam_close 1 = .ok (.getfield 53, 3) := by decide +kernel
theorem d_Nam_close_4 : decode b_Nam_close 4 = .ok (.getfield 122, 3) := by decide +kernel
theorem d_Nam_close_7 : decode b_Nam_close 7 = .ok (.iconst 1, 1) := by decide +kernel
theorem d_Nam_close_8 : decode b_Nam_close 8 = .ok (.if_icmp .gt 6, 3) := by decide +kernel
end
section
theorem d_Nam_close_11 : decode b_Nam_close 11 = .ok (.bipush (-3), 2) := by decide +kernel
theorem d_Nam_close_13 : decode b_Nam_close 13 = .ok (.ireturn, 1) := by decide +kernel
theorem d_Nam_close_14 : decode b_Nam_close 14 = .ok (.aload_n 0, 1) := by decide +kernel
theorem d_Nam_close_15 : decode b_Nam_close 15 = .ok (.getfield 46, 3) := by decide +kernel
theorem d_Nam_close_18 : decode b_Nam_close 18 = .ok (.aload_n 0, 1) := by decide +kernel
theorem d_Nam_close_19 : decode b_Nam_close 19 = .ok (.getfield 53, 3) := by decide +kernel
theorem d_Nam_close_22 : decode b_Nam_close 22 = .ok (.invokevirtual 128, 3) := by decide +kernel
theorem d_Nam_close_25 : decode b_Nam_close 25 = .ok (.invokevirtual 131, 3) := by decide +kernel
theorem d_Nam_close_28 : decode b_Nam_close 28 = .ok (.aload_n 0, 1) := by decide +kernel
theorem d_Nam_close_29 : decode b_Nam_close 29 = .ok (.getfield 53, 3) := by decide +kernel
theorem d_Nam_close_32 : decode b_Nam_close 32 = .ok (.invokevirtual 134, 3) := by decide +kernel
theorem d_Nam_close_35 : decode b_Nam_close 35 = .ok (.aload_n 0, 1) := by decide +kernel
theorem d_Nam_close_36 : decode b_Nam_close 36 = .ok (.getfield 53, 3) := by decide +kernel
theorem d_Nam_close_39 : decode b_Nam_close 39 = .ok (.getfield 122, 3) := by decide +kernel
theorem d_Nam_close_42 : decode b_Nam_close 42 = .ok (.ireturn, 1) := by decide +kernel
theorem d_Nam_subject_0 : decode b_Nam_subject 0 = .ok (.aload_n 0, 1) := by decide +kernel
theorem d_Nam_subject_1 : decode b_Nam_subject 1 = .ok (.getfield 20, 3) := by decide +kernel
theorem d_Nam_subject_4 : decode b_Nam_subject 4 = .ok (.getfield 64, 3) := by decide +kernel
theorem d_Nam_subject_7 : decode b_Nam_subject 7 = .ok (.istore_n 2, 1) := by decide +kernel
theorem d_Nam_subject_8 : decode b_Nam_subject 8 = .ok (.iload_n 2, 1) := by decide +kernel
theorem d_Nam_subject_9 : decode b_Nam_subject 9 = .ok (.sipush 200, 3) := by decide +kernel
theorem d_Nam_subject_12 : decode b_Nam_subject 12 = .ok (.if_icmp .gt 15, 3) := by decide +kernel
theorem d_Nam_subject_15 : decode b_Nam_subject 15 = .ok (.aload_n 0, 1) := by decide +kernel
theorem d_Nam_subject_16 : decode b_Nam_subject 16 = .ok (.getfield 60, 3) := by decide +kernel
theorem d_Nam_subject_19 : decode b_Nam_subject 19 = .ok (.aload_n 0, 1) := by decide +kernel
theorem d_Nam_subject_20 : decode b_Nam_subject 20 = .ok (.getfield 20, 3) := by decide +kernel
theorem d_Nam_subject_23 : decode b_Nam_subject 23 = .ok (.iload_n 1, 1) := by decide +kernel
theorem d_Nam_subject_24 : decode b_Nam_subject 24 = .ok (.invokevirtual 137, 3) := by decide +kernel
theorem d_Nam_subject_27 : decode b_Nam_subject 27 = .ok (.aload_n 0, 1) := by decide +kernel
theorem d_Nam_subject_28 : decode b_Nam_subject 28 = .ok (.getfield 20, 3) := by decide +kernel
theorem d_Nam_subject_31 : decode b_Nam_subject 31 = .ok (.invokevirtual 89, 3) := by decide +kernel
theorem d_Nam_subject_34 : decode b_Nam_subject 34 = .ok (.iload_n 2, 1) := by decide +kernel
theorem d_Nam_subject_35 : decode b_Nam_subject 35 = .ok (.sipush 200, 3) := by decide +kernel
theorem d_Nam_subject_38 : decode b_Nam_subject 38 = .ok (.if_icmp .gt 7, 3) := by decide +kernel
theorem d_Nam_subject_41 : decode b_Nam_subject 41 = .ok (.iload_n 2, 1) := by decide +kernel
theorem d_Nam_subject_42 : decode b_Nam_subject 42 = .ok (.goto 5, 3) := by decide +kernel
theorem d_Nam_subject_45 : decode b_Nam_subject 45 = .ok (.bipush (-4), 2) := by decide +kernel
theorem d_Nam_subject_47 : decode b_Nam_subject 47 = .ok (.ireturn, 1) := by decide +kernel
theorem d_Nam_parse_0 : decode b_Nam_parse 0 = .ok (.aload_n 0, 1) := by decide +kernel
theorem d_Nam_parse_1 : decode b_Nam_parse 1 = .ok (.getfield 10, 3) := by decide +kernel
theorem d_Nam_parse_4 : decode b_Nam_parse 4 = .ok (.invokevirtual 141, 3) := by decide +kernel
theorem d_Nam_parse_7 : decode b_Nam_parse 7 = .ok (.istore_n 1, 1) := by decide +kernel
theorem d_Nam_parse_8 : decode b_Nam_parse 8 = .ok (.iconst 0, 1) := by decide +kernel
theorem d_Nam_parse_9 : decode b_Nam_parse 9 = .ok (.istore_n 2, 1) := by decide +kernel
theorem d_Nam_parse_10 : decode b_Nam_parse 10 = .ok (.iload_n 1, 1) := by decide +kernel
theorem d_Nam_parse_11 : decode b_Nam_parse 11 = .ok (.ifCond .ne 10, 3) := by decide +kernel
theorem d_Nam_parse_14 : decode b_Nam_parse 14 = .ok (.aload_n 0, 1) := by decide +kernel
theorem d_Nam_parse_15 : decode b_Nam_parse 15 = .ok (.getfield 60, 3) := by decide +kernel
theorem d_Nam_parse_18 : decode b_Nam_parse 18 = .ok (.invokevirtual 144, 3) := by decide +kernel
theorem d_Nam_parse_21 : decode b_Nam_parse 21 = .ok (.iconst 0, 1) := by decide +kernel
theorem d_Nam_parse_22 : decode b_Nam_parse 22 = .ok (.istore_n 3, 1) := by decide +kernel
theorem d_Nam_parse_23 : decode b_Nam_parse 23 = .ok (.iload_n 3, 1) := by decide +kernel
theorem d_Nam_parse_24 : decode b_Nam_parse 24 = .ok (.aload_n 0, 1) := by decide +kernel
theorem d_Nam_parse_25 : decode b_Nam_parse 25 = .ok (.getfield 10, 3) := by decide +kernel
theorem d_Nam_parse_28 : decode b_Nam_parse 28 = .ok (.getfield 118, 3) := by decide +kernel
theorem d_Nam_parse_31 : decode b_Nam_parse 31 = .ok (.if_icmp .gt 73, 3) := by decide +kernel
theorem d_Nam_parse_34 : decode b_Nam_parse 34 = .ok (.iload_n 1, 1) := by decide +kernel
theorem d_Nam_parse_35 : decode b_Nam_parse 35 = .ok (.ifCond .ne 69, 3) := by decide +kernel
theorem d_Nam_parse_38 : decode b_Nam_parse 38 = .ok (.aload_n 0, 1) := by decide +kernel
theorem d_Nam_parse_39 : decode b_Nam_parse 39 = .ok (.getfield 10, 3) := by decide +kernel
theorem d_Nam_parse_42 : decode b_Nam_parse 42 = .ok (.iload_n 3, 1) := by decide +kernel
theorem d_Nam_parse_43 : decode b_Nam_parse 43 = .ok (.invokevirtual 147, 3) := by decide +kernel
theorem d_Nam_parse_46 : decode b_Nam_parse 46 = .ok (.ifCond .ne 52, 3) := by decide +kernel
theorem d_Nam_parse_49 : decode b_Nam_parse 49 = .ok (.aload_n 0, 1) := by decide +kernel
theorem d_Nam_parse_50 : decode b_Nam_parse 50 = .ok (.iload_n 3, 1) := by decide +kernel
theorem d_Nam_parse_51 : decode b_Nam_parse 51 = .ok (.invokevirtual 150, 3) := by decide +kernel
theorem d_Nam_parse_54 : decode b_Nam_parse 54 = .ok (.istore_n 1, 1) := by decide +kernel
theorem d_Nam_parse_55 : decode b_Nam_parse 55 = .ok (.iload_n 2, 1) := by decide +kernel
theorem d_Nam_parse_56 : decode b_Nam_parse 56 = .ok (.istore 4, 2) := by decide +kernel
theorem d_Nam_parse_58 : decode b_Nam_parse 58 = .ok (.iload 4, 2) := by decide +kernel
theorem d_Nam_parse_60 : decode b_Nam_parse 60 = .ok (.iload_n 3, 1) := by decide +kernel
theorem d_Nam_parse_61 : decode b_Nam_parse 61 = .ok (.if_icmp .ge 33, 3) := by decide +kernel
theorem d_Nam_parse_64 : decode b_Nam_parse 64 = .ok (.iload_n 1, 1) := by decide +kernel
theorem d_Nam_parse_65 : decode b_Nam_parse 65 = .ok (.ifCond .ne 29, 3) := by decide +kernel
theorem d_Nam_parse_68 : decode b_Nam_parse 68 = .ok (.aload_n 0, 1) := by decide +kernel
theorem d_Nam_parse_69 : decode b_Nam_parse 69 = .ok (.iload 4, 2) := by decide +kernel
theorem d_Nam_parse_71 : decode b_Nam_parse 71 = .ok (.iload 4, 2) := by decide +kernel
theorem d_Nam_parse_73 : decode b_Nam_parse 73 = .ok (.iload_n 3, 1) := by decide +kernel
theorem d_Nam_parse_74 : decode b_Nam_parse 74 = .ok (.iconst 1, 1) := by decide +kernel
theorem d_Nam_parse_75 : decode b_Nam_parse 75 = .ok (.isub, 1) := by decide +kernel
theorem d_Nam_parse_76 : decode b_Nam_parse 76 = .ok (.if_icmp .ne 7, 3) := by decide +kernel
theorem d_Nam_parse_79 : decode b_Nam_parse 79 = .ok (.iconst 1, 1) := by decide +kernel
theorem d_Nam_parse_80 : decode b_Nam_parse 80 = .ok (.goto 4, 3) := by decide +kernel
theorem d_Nam_parse_83 : decode b_Nam_parse 83 = .ok (.iconst 0, 1) := by decide +kernel
theorem d_Nam_parse_84 : decode b_Nam_parse 84 = .ok (.invokevirtual 153, 3) := by decide +kernel
theorem d_Nam_parse_87 : decode b_Nam_parse 87 = .ok (.istore_n 1, 1) := by decide +kernel
theorem d_Nam_parse_88 : decode b_Nam_parse 88 = .ok (.iinc 4 1, 3) := by decide +kernel
theorem d_Nam_parse_91 : decode b_Nam_parse 91 = .ok (.goto (-33), 3) := by decide +kernel
theorem d_Nam_parse_94 : decode b_Nam_parse 94 = .ok (.iload_n 3, 1) := by decide +kernel
theorem d_Nam_parse_95 : decode b_Nam_parse 95 = .ok (.iconst 1, 1) := by decide +kernel
theorem d_Nam_parse_96 : decode b_Nam_parse 96 = .ok (.iadd, 1) := by decide +kernel
theorem d_Nam_parse_97 : decode b_Nam_parse 97 = .ok (.istore_n 2, 1) := by decide +kernel
theorem d_Nam_parse_98 : decode b_Nam_parse 98 = .ok (.iinc 3 1, 3) := by decide +kernel
theorem d_Nam_parse_101 : decode b_Nam_parse 101 = .ok (.goto (-78), 3) := by decide +kernel
theorem d_Nam_parse_104 : decode b_Nam_parse 104 = .ok (.aload_n 0, 1) := by decide +kernel
theorem d_Nam_parse_105 : decode b_Nam_parse 105 = .ok (.getfield 20, 3) := by decide +kernel
theorem d_Nam_parse_108 : decode b_Nam_parse 108 = .ok (.invokevirtual 89, 3) := by decide +kernel
theorem d_Nam_parse_111 : decode b_Nam_parse 111 = .ok (.iload_n 1, 1) := by decide +kernel
theorem d_Nam_parse_112 : decode b_Nam_parse 112 = .ok (.ifCond .ne 13, 3) := by decide +kernel
theorem d_Nam_parse_115 : decode b_Nam_parse 115 = .ok (.aload_n 0, 1) := by decide +kernel
theorem d_Nam_parse_116 : decode b_Nam_parse 116 = .ok (.getfield 10, 3) := by decide +kernel
theorem d_Nam_parse_119 : decode b_Nam_parse 119 = .ok (.getfield 157, 3) := by decide +kernel
theorem d_Nam_parse_122 : decode b_Nam_parse 122 = .ok (.goto 4, 3) := by decide +kernel
theorem d_Nam_parse_125 : decode b_Nam_parse 125 = .ok (.iload_n 1, 1) := by decide +kernel
theorem d_Nam_parse_126 : decode b_Nam_parse 126 = .ok (.ireturn, 1) := by decide +kernel
theorem d_Nam_name_0 : decode b_Nam_name 0 = .ok (.aload_n 0, 1) := by decide +kernel
theorem d_Nam_name_1 : decode b_Nam_name 1 = .ok (.getfield 46, 3) := by decide +kernel
theorem d_Nam_name_4 : decode b_Nam_name 4 = .ok (.iload_n 1, 1) := by decide +kernel
theorem d_Nam_name_5 : decode b_Nam_name 5 = .ok (.invokevirtual 160, 3) := by decide +kernel
theorem d_Nam_name_8 : decode b_Nam_name 8 = .ok (.astore_n 2, 1) := by decide +kernel
theorem d_Nam_name_9 : decode b_Nam_name 9 = .ok (.aload_n 2, 1) := by decide +kernel
theorem d_Nam_name_10 : decode b_Nam_name 10 = .ok (.ifnonnull 5, 3) := by decide +kernel
theorem d_Nam_name_13 : decode b_Nam_name 13 = .ok (.iconst (-1), 1) := by decide +kernel
theorem d_Nam_name_14 : decode b_Nam_name 14 = .ok (.ireturn, 1) := by decide +kernel
theorem d_Nam_name_15 : decode b_Nam_name 15 = .ok (.aload_n 0, 1) := by decide +kernel
theorem d_Nam_name_16 : decode b_Nam_name 16 = .ok (.getfield 28, 3) := by decide +kernel
theorem d_Nam_name_19 : decode b_Nam_name 19 = .ok (.aload_n 2, 1) := by decide +kernel
theorem d_Nam_name_20 : decode b_Nam_name 20 = .ok (.getfield 110, 3) := by decide +kernel
theorem d_Nam_name_23 : decode b_Nam_name 23 = .ok (.invokevirtual 106, 3) := by decide +kernel
theorem d_Nam_name_26 : decode b_Nam_name 26 = .ok (.aload_n 2, 1) := by decide +kernel
theorem d_Nam_name_27 : decode b_Nam_name 27 = .ok (.getfield 164, 3) := by decide +kernel
theorem d_Nam_name_30 : decode b_Nam_name 30 = .ok (.ireturn, 1) := by decide +kernel
theorem d_Nam_value_0 : decode b_Nam_value 0 = .ok (.aload_n 0, 1) := by decide +kernel
theorem d_Nam_value_1 : decode b_Nam_value 1 = .ok (.getfield 46, 3) := by decide +kernel
theorem d_Nam_value_4 : decode b_Nam_value 4 = .ok (.iload_n 1, 1) := by decide +kernel
theorem d_Nam_value_5 : decode b_Nam_value 5 = .ok (.invokevirtual 160, 3) := by decide +kernel
theorem d_Nam_value_8 : decode b_Nam_value 8 = .ok (.astore_n 2, 1) := by decide +kernel
theorem d_Nam_value_9 : decode b_Nam_value 9 = .ok (.aload_n 2, 1) := by decide +kernel
theorem d_Nam_value_10 : decode b_Nam_value 10 = .ok (.ifnonnull 5, 3) := by decide +kernel
theorem d_Nam_value_13 : decode b_Nam_value 13 = .ok (.iconst (-1), 1) := by decide +kernel
theorem d_Nam_value_14 : decode b_Nam_value 14 = .ok (.ireturn, 1) := by decide +kernel
theorem d_Nam_value_15 : decode b_Nam_value 15 = .ok (.aload_n 2, 1) := by decide +kernel
theorem d_Nam_value_16 : decode b_Nam_value 16 = .ok (.getfield 167, 3) := by decide +kernel
theorem d_Nam_value_19 : decode b_Nam_value 19 = .ok (.ifCond .eq 6, 3) := by decide +kernel
theorem d_Nam_value_22 : decode b_Nam_value 22 = .ok (.bipush (-3), 2) := by decide +kernel
theorem d_Nam_value_24 : decode b_Nam_value 24 = .ok (.ireturn, 1) := by decide +kernel
theorem d_Nam_value_25 : decode b_Nam_value 25 = .ok (.aload_n 0, 1) := by decide +kernel
theorem d_Nam_value_26 : decode b_Nam_value 26 = .ok (.getfield 28, 3) := by decide +kernel
theorem d_Nam_value_29 : decode b_Nam_value 29 = .ok (.aload_n 2, 1) := by decide +kernel
theorem d_Nam_value_30 : decode b_Nam_value 30 = .ok (.getfield 171, 3) := by decide +kernel
theorem d_Nam_value_33 : decode b_Nam_value 33 = .ok (.invokevirtual 106, 3) := by decide +kernel
theorem d_Nam_value_36 : decode b_Nam_value 36 = .ok (.aload_n 0, 1) := by decide +kernel
theorem d_Nam_value_37 : decode b_Nam_value 37 = .ok (.getfield 28, 3) := by decide +kernel
theorem d_Nam_value_40 : decode b_Nam_value 40 = .ok (.getfield 64, 3) := by decide +kernel
theorem d_Nam_value_43 : decode b_Nam_value 43 = .ok (.ireturn, 1) := by decide +kernel
theorem d_Nam_count_0 : decode b_Nam_count 0 = .ok (.iload_n 1, 1) := by decide +kernel
theorem d_Nam_count_1 : decode b_Nam_count 1 = .ok (.tableswitch (102) (0) (6) #[43, 51, 59, 67, 78, 86, 94], 43) := by decide +kernel
theorem d_Nam_count_44 : decode b_Nam_count 44 = .ok (.aload_n 0, 1) := by decide +kernel
theorem d_Nam_count_45 : decode b_Nam_count 45 = .ok (.getfield 46, 3) := by decide +kernel
theorem d_Nam_count_48 : decode b_Nam_count 48 = .ok (.getfield 92, 3) := by decide +kernel
theorem d_Nam_count_51 : decode b_Nam_count 51 = .ok (.ireturn, 1) := by decide +kernel
theorem d_Nam_count_52 : decode b_Nam_count 52 = .ok (.aload_n 0, 1) := by decide +kernel
theorem d_Nam_count_53 : decode b_Nam_count 53 = .ok (.getfield 53, 3) := by decide +kernel
theorem d_Nam_count_56 : decode b_Nam_count 56 = .ok (.getfield 122, 3) := by decide +kernel
theorem d_Nam_count_59 : decode b_Nam_count 59 = .ok (.ireturn, 1) := by decide +kernel
theorem d_Nam_count_60 : decode b_Nam_count 60 = .ok (.aload_n 0, 1) := by decide +kernel
theorem d_Nam_count_61 : decode b_Nam_count 61 = .ok (.getfield 53, 3) := by decide +kernel
theorem d_Nam_count_64 : decode b_Nam_count 64 = .ok (.invokevirtual 174, 3) := by decide +kernel
theorem d_Nam_count_67 : decode b_Nam_count 67 = .ok (.ireturn, 1) := by decide +kernel
theorem d_Nam_count_68 : decode b_Nam_count 68 = .ok (.aload_n 0, 1) := by decide +kernel
theorem d_Nam_count_69 : decode b_Nam_count 69 = .ok (.getfield 60, 3) := by decide +kernel
theorem d_Nam_count_72 : decode b_Nam_count 72 = .ok (.getfield 177, 3) := by decide +kernel
theorem d_Nam_count_75 : decode b_Nam_count 75 = .ok (.getfield 64, 3) := by decide +kernel
theorem d_Nam_count_78 : decode b_Nam_count 78 = .ok (.ireturn, 1) := by decide +kernel
theorem d_Nam_count_79 : decode b_Nam_count 79 = .ok (.aload_n 0, 1) := by decide +kernel
theorem d_Nam_count_80 : decode b_Nam_count 80 = .ok (.getfield 28, 3) := by decide +kernel
theorem d_Nam_count_83 : decode b_Nam_count 83 = .ok (.getfield 64, 3) := by decide +kernel
theorem d_Nam_count_86 : decode b_Nam_count 86 = .ok (.ireturn, 1) := by decide +kernel
theorem d_Nam_count_87 : decode b_Nam_count 87 = .ok (.aload_n 0, 1) := by decide +kernel
theorem d_Nam_count_88 : decode b_Nam_count 88 = .ok (.getfield 60, 3) := by decide +kernel
theorem d_Nam_count_91 : decode b_Nam_count 91 = .ok (.getfield 180, 3) := by decide +kernel
theorem d_Nam_count_94 : decode b_Nam_count 94 = .ok (.ireturn, 1) := by decide +kernel
theorem d_Nam_count_95 : decode b_Nam_count 95 = .ok (.aload_n 0, 1) := by decide +kernel
theorem d_Nam_count_96 : decode b_Nam_count 96 = .ok (.getfield 60, 3) := by decide +kernel
theorem d_Nam_count_99 : decode b_Nam_count 99 = .ok (.getfield 183, 3) := by decide +kernel
theorem d_Nam_count_102 : decode b_Nam_count 102 = .ok (.ireturn, 1) := by decide +kernel
theorem d_Nam_count_103 : decode b_Nam_count 103 = .ok (.iconst (-1), 1) := by decide +kernel
theorem d_Nam_count_104 : decode b_Nam_count 104 = .ok (.ireturn, 1) := by decide +kernel
theorem d_Nam_workOutAlone_0 : decode b_Nam_workOutAlone 0 = .ok (.aload_n 0, 1) := by decide +kernel
theorem d_Nam_workOutAlone_1 : decode b_Nam_workOutAlone 1 = .ok (.getfield 10, 3) := by decide +kernel
theorem d_Nam_workOutAlone_4 : decode b_Nam_workOutAlone 4 = .ok (.invokevirtual 186, 3) := by decide +kernel
theorem d_Nam_workOutAlone_7 : decode b_Nam_workOutAlone 7 = .ok (.istore_n 1, 1) := by decide +kernel
theorem d_Nam_workOutAlone_8 : decode b_Nam_workOutAlone 8 = .ok (.iload_n 1, 1) := by decide +kernel
theorem d_Nam_workOutAlone_9 : decode b_Nam_workOutAlone 9 = .ok (.ifCond .eq 5, 3) := by decide +kernel
theorem d_Nam_workOutAlone_12 : decode b_Nam_workOutAlone 12 = .ok (.iload_n 1, 1) := by decide +kernel
theorem d_Nam_workOutAlone_13 : decode b_Nam_workOutAlone 13 = .ok (.ireturn, 1) := by decide +kernel
theorem d_Nam_workOutAlone_14 : decode b_Nam_workOutAlone 14 = .ok (.aload_n 0, 1) := by decide +kernel
theorem d_Nam_workOutAlone_15 : decode b_Nam_workOutAlone 15 = .ok (.iconst 0, 1) := by decide +kernel
theorem d_Nam_workOutAlone_16 : decode b_Nam_workOutAlone 16 = .ok (.invokevirtual 79, 3) := by decide +kernel
theorem d_Nam_workOutAlone_19 : decode b_Nam_workOutAlone 19 = .ok (.ifCond .eq 7, 3) := by decide +kernel
theorem d_Nam_workOutAlone_22 : decode b_Nam_workOutAlone 22 = .ok (.iconst 0, 1) := by decide +kernel
theorem d_Nam_workOutAlone_23 : decode b_Nam_workOutAlone 23 = .ok (.goto 5, 3) := by decide +kernel
theorem d_Nam_workOutAlone_26 : decode b_Nam_workOutAlone 26 = .ok (.bipush (-2), 2) := by decide +kernel
theorem d_Nam_workOutAlone_28 : decode b_Nam_workOutAlone 28 = .ok (.ireturn, 1) := by decide +kernel
theorem d_Nam_workOut_0 : decode b_Nam_workOut 0 = .ok (.aload_n 0, 1) := by decide +kernel
theorem d_Nam_workOut_1 : decode b_Nam_workOut 1 = .ok (.getfield 10, 3) := by decide +kernel
theorem d_Nam_workOut_4 : decode b_Nam_workOut 4 = .ok (.iload_n 1, 1) := by decide +kernel
theorem d_Nam_workOut_5 : decode b_Nam_workOut 5 = .ok (.invokevirtual 189, 3) := by decide +kernel
theorem d_Nam_workOut_8 : decode b_Nam_workOut 8 = .ok (.istore_n 2, 1) := by decide +kernel
theorem d_Nam_workOut_9 : decode b_Nam_workOut 9 = .ok (.aload_n 0, 1) := by decide +kernel
theorem d_Nam_workOut_10 : decode b_Nam_workOut 10 = .ok (.getfield 10, 3) := by decide +kernel
theorem d_Nam_workOut_13 : decode b_Nam_workOut 13 = .ok (.iload_n 1, 1) := by decide +kernel
theorem d_Nam_workOut_14 : decode b_Nam_workOut 14 = .ok (.invokevirtual 192, 3) := by decide +kernel
theorem d_Nam_workOut_17 : decode b_Nam_workOut 17 = .ok (.istore_n 3, 1) := by decide +kernel
theorem d_Nam_workOut_18 : decode b_Nam_workOut 18 = .ok (.aload_n 0, 1) := by decide +kernel
theorem d_Nam_workOut_19 : decode b_Nam_workOut 19 = .ok (.getfield 31, 3) := by decide +kernel
theorem d_Nam_workOut_22 : decode b_Nam_workOut 22 = .ok (.invokevirtual 89, 3) := by decide +kernel
theorem d_Nam_workOut_25 : decode b_Nam_workOut 25 = .ok (.aload_n 0, 1) := by decide +kernel
theorem d_Nam_workOut_26 : decode b_Nam_workOut 26 = .ok (.getfield 20, 3) := by decide +kernel
theorem d_Nam_workOut_29 : decode b_Nam_workOut 29 = .ok (.iload_n 2, 1) := by decide +kernel
theorem d_Nam_workOut_30 : decode b_Nam_workOut 30 = .ok (.iload_n 3, 1) := by decide +kernel
theorem d_Nam_workOut_31 : decode b_Nam_workOut 31 = .ok (.invokevirtual 195, 3) := by decide +kernel
theorem d_Nam_workOut_34 : decode b_Nam_workOut 34 = .ok (.istore 4, 2) := by decide +kernel
theorem d_Nam_workOut_36 : decode b_Nam_workOut 36 = .ok (.iload 4, 2) := by decide +kernel
theorem d_Nam_workOut_38 : decode b_Nam_workOut 38 = .ok (.iload_n 3, 1) := by decide +kernel
theorem d_Nam_workOut_39 : decode b_Nam_workOut 39 = .ok (.iconst 1, 1) := by decide +kernel
theorem d_Nam_workOut_40 : decode b_Nam_workOut 40 = .ok (.isub, 1) := by decide +kernel
theorem d_Nam_workOut_41 : decode b_Nam_workOut 41 = .ok (.if_icmp .lt 17, 3) := by decide +kernel
theorem d_Nam_workOut_44 : decode b_Nam_workOut 44 = .ok (.aload_n 0, 1) := by decide +kernel
theorem d_Nam_workOut_45 : decode b_Nam_workOut 45 = .ok (.getfield 31, 3) := by decide +kernel
theorem d_Nam_workOut_48 : decode b_Nam_workOut 48 = .ok (.aload_n 0, 1) := by decide +kernel
theorem d_Nam_workOut_49 : decode b_Nam_workOut 49 = .ok (.getfield 20, 3) := by decide +kernel
theorem d_Nam_workOut_52 : decode b_Nam_workOut 52 = .ok (.iload_n 2, 1) := by decide +kernel
theorem d_Nam_workOut_53 : decode b_Nam_workOut 53 = .ok (.iload_n 3, 1) := by decide +kernel
theorem d_Nam_workOut_54 : decode b_Nam_workOut 54 = .ok (.invokevirtual 199, 3) := by decide +kernel
theorem d_Nam_workOut_57 : decode b_Nam_workOut 57 = .ok (.ireturn, 1) := by decide +kernel
theorem d_Nam_workOut_58 : decode b_Nam_workOut 58 = .ok (.aload_n 0, 1) := by decide +kernel
theorem d_Nam_workOut_59 : decode b_Nam_workOut 59 = .ok (.getfield 31, 3) := by decide +kernel
theorem d_Nam_workOut_62 : decode b_Nam_workOut 62 = .ok (.aload_n 0, 1) := by decide +kernel
theorem d_Nam_workOut_63 : decode b_Nam_workOut 63 = .ok (.getfield 20, 3) := by decide +kernel
theorem d_Nam_workOut_66 : decode b_Nam_workOut 66 = .ok (.iload_n 2, 1) := by decide +kernel
theorem d_Nam_workOut_67 : decode b_Nam_workOut 67 = .ok (.iload 4, 2) := by decide +kernel
theorem d_Nam_workOut_69 : decode b_Nam_workOut 69 = .ok (.iconst 1, 1) := by decide +kernel
theorem d_Nam_workOut_70 : decode b_Nam_workOut 70 = .ok (.iadd, 1) := by decide +kernel
theorem d_Nam_workOut_71 : decode b_Nam_workOut 71 = .ok (.invokevirtual 199, 3) := by decide +kernel
theorem d_Nam_workOut_74 : decode b_Nam_workOut 74 = .ok (.istore 5, 2) := by decide +kernel
theorem d_Nam_workOut_76 : decode b_Nam_workOut 76 = .ok (.iload 4, 2) := by decide +kernel
theorem d_Nam_workOut_78 : decode b_Nam_workOut 78 = .ok (.iconst 1, 1) := by decide +kernel
theorem d_Nam_workOut_79 : decode b_Nam_workOut 79 = .ok (.iadd, 1) := by decide +kernel
theorem d_Nam_workOut_80 : decode b_Nam_workOut 80 = .ok (.istore 6, 2) := by decide +kernel
theorem d_Nam_workOut_82 : decode b_Nam_workOut 82 = .ok (.iload 6, 2) := by decide +kernel
theorem d_Nam_workOut_84 : decode b_Nam_workOut 84 = .ok (.istore 7, 2) := by decide +kernel
theorem d_Nam_workOut_86 : decode b_Nam_workOut 86 = .ok (.iload 7, 2) := by decide +kernel
theorem d_Nam_workOut_88 : decode b_Nam_workOut 88 = .ok (.iload_n 3, 1) := by decide +kernel
theorem d_Nam_workOut_89 : decode b_Nam_workOut 89 = .ok (.if_icmp .gt 83, 3) := by decide +kernel
theorem d_Nam_workOut_92 : decode b_Nam_workOut 92 = .ok (.iload 5, 2) := by decide +kernel
theorem d_Nam_workOut_94 : decode b_Nam_workOut 94 = .ok (.ifCond .eq 78, 3) := by decide +kernel
theorem d_Nam_workOut_97 : decode b_Nam_workOut 97 = .ok (.iload 7, 2) := by decide +kernel
theorem d_Nam_workOut_99 : decode b_Nam_workOut 99 = .ok (.iload_n 3, 1) := by decide +kernel
theorem d_Nam_workOut_100 : decode b_Nam_workOut 100 = .ok (.if_icmp .ne 16, 3) := by decide +kernel
theorem d_Nam_workOut_103 : decode b_Nam_workOut 103 = .ok (.aload_n 0, 1) := by decide +kernel
theorem d_Nam_workOut_104 : decode b_Nam_workOut 104 = .ok (.iload 6, 2) := by decide +kernel
theorem d_Nam_workOut_106 : decode b_Nam_workOut 106 = .ok (.iload 7, 2) := by decide +kernel
theorem d_Nam_workOut_108 : decode b_Nam_workOut 108 = .ok (.invokevirtual 203, 3) := by decide +kernel
theorem d_Nam_workOut_111 : decode b_Nam_workOut 111 = .ok (.istore 5, 2) := by decide +kernel
theorem d_Nam_workOut_113 : decode b_Nam_workOut 113 = .ok (.goto 53, 3) := by decide +kernel
theorem d_Nam_workOut_116 : decode b_Nam_workOut 116 = .ok (.aload_n 0, 1) := by decide +kernel
theorem d_Nam_workOut_117 : decode b_Nam_workOut 117 = .ok (.getfield 20, 3) := by decide +kernel
theorem d_Nam_workOut_120 : decode b_Nam_workOut 120 = .ok (.iload 7, 2) := by decide +kernel
theorem d_Nam_workOut_122 : decode b_Nam_workOut 122 = .ok (.invokevirtual 71, 3) := by decide +kernel
theorem d_Nam_workOut_125 : decode b_Nam_workOut 125 = .ok (.bipush 46, 2) := by decide +kernel
theorem d_Nam_workOut_127 : decode b_Nam_workOut 127 = .ok (.if_icmp .ne 39, 3) := by decide +kernel
theorem d_Nam_workOut_130 : decode b_Nam_workOut 130 = .ok (.aload_n 0, 1) := by decide +kernel
theorem d_Nam_workOut_131 : decode b_Nam_workOut 131 = .ok (.iload 6, 2) := by decide +kernel
theorem d_Nam_workOut_133 : decode b_Nam_workOut 133 = .ok (.iload 7, 2) := by decide +kernel
theorem d_Nam_workOut_135 : decode b_Nam_workOut 135 = .ok (.invokevirtual 203, 3) := by decide +kernel
theorem d_Nam_workOut_138 : decode b_Nam_workOut 138 = .ok (.ifCond .eq 19, 3) := by decide +kernel
theorem d_Nam_workOut_141 : decode b_Nam_workOut 141 = .ok (.aload_n 0, 1) := by decide +kernel
theorem d_Nam_workOut_142 : decode b_Nam_workOut 142 = .ok (.getfield 31, 3) := by decide +kernel
theorem d_Nam_workOut_145 : decode b_Nam_workOut 145 = .ok (.bipush 46, 2) := by decide +kernel
theorem d_Nam_workOut_147 : decode b_Nam_workOut 147 = .ok (.invokevirtual 207, 3) := by decide +kernel
theorem d_Nam_workOut_150 : decode b_Nam_workOut 150 = .ok (.ifCond .eq 7, 3) := by decide +kernel
theorem d_Nam_workOut_153 : decode b_Nam_workOut 153 = .ok (.iconst 1, 1) := by decide +kernel
theorem d_Nam_workOut_154 : decode b_Nam_workOut 154 = .ok (.goto 4, 3) := by decide +kernel
theorem d_Nam_workOut_157 : decode b_Nam_workOut 157 = .ok (.iconst 0, 1) := by decide +kernel
theorem d_Nam_workOut_158 : decode b_Nam_workOut 158 = .ok (.istore 5, 2) := by decide +kernel
theorem d_Nam_workOut_160 : decode b_Nam_workOut 160 = .ok (.iload 7, 2) := by decide +kernel
theorem d_Nam_workOut_162 : decode b_Nam_workOut 162 = .ok (.iconst 1, 1) := by decide +kernel
theorem d_Nam_workOut_163 : decode b_Nam_workOut 163 = .ok (.iadd, 1) := by decide +kernel
theorem d_Nam_workOut_164 : decode b_Nam_workOut 164 = .ok (.istore 6, 2) := by decide +kernel
theorem d_Nam_workOut_166 : decode b_Nam_workOut 166 = .ok (.iinc 7 1, 3) := by decide +kernel
theorem d_Nam_workOut_169 : decode b_Nam_workOut 169 = .ok (.goto (-83), 3) := by decide +kernel
theorem d_Nam_workOut_172 : decode b_Nam_workOut 172 = .ok (.iload 5, 2) := by decide +kernel
theorem d_Nam_workOut_174 : decode b_Nam_workOut 174 = .ok (.ireturn, 1) := by decide +kernel
theorem d_Nam_addTail_0 : decode b_Nam_addTail 0 = .ok (.aload_n 0, 1) := by decide +kernel
theorem d_Nam_addTail_1 : decode b_Nam_addTail 1 = .ok (.getfield 37, 3) := by decide +kernel
theorem d_Nam_addTail_4 : decode b_Nam_addTail 4 = .ok (.invokevirtual 89, 3) := by decide +kernel
theorem d_Nam_addTail_7 : decode b_Nam_addTail 7 = .ok (.aload_n 0, 1) := by decide +kernel
theorem d_Nam_addTail_8 : decode b_Nam_addTail 8 = .ok (.getfield 37, 3) := by decide +kernel
theorem d_Nam_addTail_11 : decode b_Nam_addTail 11 = .ok (.aload_n 0, 1) := by decide +kernel
theorem d_Nam_addTail_12 : decode b_Nam_addTail 12 = .ok (.getfield 20, 3) := by decide +kernel
theorem d_Nam_addTail_15 : decode b_Nam_addTail 15 = .ok (.iload_n 1, 1) := by decide +kernel
theorem d_Nam_addTail_16 : decode b_Nam_addTail 16 = .ok (.iload_n 2, 1) := by decide +kernel
theorem d_Nam_addTail_17 : decode b_Nam_addTail 17 = .ok (.invokevirtual 199, 3) := by decide +kernel
theorem d_Nam_addTail_20 : decode b_Nam_addTail 20 = .ok (.pop, 1) := by decide +kernel
theorem d_Nam_addTail_21 : decode b_Nam_addTail 21 = .ok (.aload_n 0, 1) := by decide +kernel
theorem d_Nam_addTail_22 : decode b_Nam_addTail 22 = .ok (.getfield 37, 3) := by decide +kernel
theorem d_Nam_addTail_25 : decode b_Nam_addTail 25 = .ok (.getfield 64, 3) := by decide +kernel
theorem d_Nam_addTail_28 : decode b_Nam_addTail 28 = .ok (.ifCond .le 78, 3) := by decide +kernel
theorem d_Nam_addTail_31 : decode b_Nam_addTail 31 = .ok (.aload_n 0, 1) := by decide +kernel
theorem d_Nam_addTail_32 : decode b_Nam_addTail 32 = .ok (.getfield 37, 3) := by decide +kernel
theorem d_Nam_addTail_35 : decode b_Nam_addTail 35 = .ok (.iconst 0, 1) := by decide +kernel
theorem d_Nam_addTail_36 : decode b_Nam_addTail 36 = .ok (.invokevirtual 71, 3) := by decide +kernel
theorem d_Nam_addTail_39 : decode b_Nam_addTail 39 = .ok (.invokestatic 210, 3) := by decide +kernel
theorem d_Nam_addTail_42 : decode b_Nam_addTail 42 = .ok (.ifCond .ne 64, 3) := by decide +kernel
theorem d_Nam_addTail_45 : decode b_Nam_addTail 45 = .ok (.aload_n 0, 1) := by decide +kernel
theorem d_Nam_addTail_46 : decode b_Nam_addTail 46 = .ok (.getfield 46, 3) := by decide +kernel
theorem d_Nam_addTail_49 : decode b_Nam_addTail 49 = .ok (.aload_n 0, 1) := by decide +kernel
theorem d_Nam_addTail_50 : decode b_Nam_addTail 50 = .ok (.getfield 37, 3) := by decide +kernel
theorem d_Nam_addTail_53 : decode b_Nam_addTail 53 = .ok (.aload_n 0, 1) := by decide +kernel
theorem d_Nam_addTail_54 : decode b_Nam_addTail 54 = .ok (.getfield 53, 3) := by decide +kernel
theorem d_Nam_addTail_57 : decode b_Nam_addTail 57 = .ok (.aload_n 0, 1) := by decide +kernel
theorem d_Nam_addTail_58 : decode b_Nam_addTail 58 = .ok (.getfield 37, 3) := by decide +kernel
theorem d_Nam_addTail_61 : decode b_Nam_addTail 61 = .ok (.aload_n 0, 1) := by decide +kernel
theorem d_Nam_addTail_62 : decode b_Nam_addTail 62 = .ok (.getfield 53, 3) := by decide +kernel
theorem d_Nam_addTail_65 : decode b_Nam_addTail 65 = .ok (.invokevirtual 128, 3) := by decide +kernel
theorem d_Nam_addTail_68 : decode b_Nam_addTail 68 = .ok (.invokevirtual 213, 3) := by decide +kernel
theorem d_Nam_addTail_71 : decode b_Nam_addTail 71 = .ok (.invokevirtual 217, 3) := by decide +kernel
theorem d_Nam_addTail_74 : decode b_Nam_addTail 74 = .ok (.astore_n 3, 1) := by decide +kernel
theorem d_Nam_addTail_75 : decode b_Nam_addTail 75 = .ok (.aload_n 3, 1) := by decide +kernel
theorem d_Nam_addTail_76 : decode b_Nam_addTail 76 = .ok (.ifnull 30, 3) := by decide +kernel
theorem d_Nam_addTail_79 : decode b_Nam_addTail 79 = .ok (.aload_n 3, 1) := by decide +kernel
theorem d_Nam_addTail_80 : decode b_Nam_addTail 80 = .ok (.getfield 167, 3) := by decide +kernel
theorem d_Nam_addTail_83 : decode b_Nam_addTail 83 = .ok (.ifCond .ne 23, 3) := by decide +kernel
theorem d_Nam_addTail_86 : decode b_Nam_addTail 86 = .ok (.aload_n 0, 1) := by decide +kernel
theorem d_Nam_addTail_87 : decode b_Nam_addTail 87 = .ok (.getfield 31, 3) := by decide +kernel
theorem d_Nam_addTail_90 : decode b_Nam_addTail 90 = .ok (.aload_n 3, 1) := by decide +kernel
theorem d_Nam_addTail_91 : decode b_Nam_addTail 91 = .ok (.getfield 171, 3) := by decide +kernel
theorem d_Nam_addTail_94 : decode b_Nam_addTail 94 = .ok (.iconst 0, 1) := by decide +kernel
theorem d_Nam_addTail_95 : decode b_Nam_addTail 95 = .ok (.aload_n 3, 1) := by decide +kernel
theorem d_Nam_addTail_96 : decode b_Nam_addTail 96 = .ok (.getfield 171, 3) := by decide +kernel
theorem d_Nam_addTail_99 : decode b_Nam_addTail 99 = .ok (.getfield 64, 3) := by decide +kernel
theorem d_Nam_addTail_102 : decode b_Nam_addTail 102 = .ok (.invokevirtual 221, 3) := by decide +kernel
theorem d_Nam_addTail_105 : decode b_Nam_addTail 105 = .ok (.ireturn, 1) := by decide +kernel
theorem d_Nam_addTail_106 : decode b_Nam_addTail 106 = .ok (.aload_n 0, 1) := by decide +kernel
theorem d_Nam_addTail_107 : decode b_Nam_addTail 107 = .ok (.getfield 31, 3) := by decide +kernel
theorem d_Nam_addTail_110 : decode b_Nam_addTail 110 = .ok (.aload_n 0, 1) := by decide +kernel
theorem d_Nam_addTail_111 : decode b_Nam_addTail 111 = .ok (.getfield 37, 3) := by decide +kernel
theorem d_Nam_addTail_114 : decode b_Nam_addTail 114 = .ok (.iconst 0, 1) := by decide +kernel
theorem d_Nam_addTail_115 : decode b_Nam_addTail 115 = .ok (.aload_n 0, 1) := by decide +kernel
theorem d_Nam_addTail_116 : decode b_Nam_addTail 116 = .ok (.getfield 37, 3) := by decide +kernel
theorem d_Nam_addTail_119 : decode b_Nam_addTail 119 = .ok (.getfield 64, 3) := by decide +kernel
theorem d_Nam_addTail_122 : decode b_Nam_addTail 122 = .ok (.invokevirtual 221, 3) := by decide +kernel
theorem d_Nam_addTail_125 : decode b_Nam_addTail 125 = .ok (.ireturn, 1) := by decide +kernel
theorem d_Nam_told_0 : decode b_Nam_told 0 = .ok (.aload_n 0, 1) := by decide +kernel
theorem d_Nam_told_1 : decode b_Nam_told 1 = .ok (.getfield 53, 3) := by decide +kernel
theorem d_Nam_told_4 : decode b_Nam_told 4 = .ok (.aload_n 0, 1) := by decide +kernel
theorem d_Nam_told_5 : decode b_Nam_told 5 = .ok (.getfield 31, 3) := by decide +kernel
theorem d_Nam_told_8 : decode b_Nam_told 8 = .ok (.aload_n 0, 1) := by decide +kernel
theorem d_Nam_told_9 : decode b_Nam_told 9 = .ok (.getfield 53, 3) := by decide +kernel
theorem d_Nam_told_12 : decode b_Nam_told 12 = .ok (.invokevirtual 128, 3) := by decide +kernel
theorem d_Nam_told_15 : decode b_Nam_told 15 = .ok (.invokevirtual 213, 3) := by decide +kernel
theorem d_Nam_told_18 : decode b_Nam_told 18 = .ok (.istore_n 1, 1) := by decide +kernel
theorem d_Nam_told_19 : decode b_Nam_told 19 = .ok (.aload_n 0, 1) := by decide +kernel
theorem d_Nam_told_20 : decode b_Nam_told 20 = .ok (.getfield 46, 3) := by decide +kernel
theorem d_Nam_told_23 : decode b_Nam_told 23 = .ok (.aload_n 0, 1) := by decide +kernel
theorem d_Nam_told_24 : decode b_Nam_told 24 = .ok (.getfield 31, 3) := by decide +kernel
theorem d_Nam_told_27 : decode b_Nam_told 27 = .ok (.iload_n 1, 1) := by decide +kernel
theorem d_Nam_told_28 : decode b_Nam_told 28 = .ok (.invokevirtual 217, 3) := by decide +kernel
theorem d_Nam_told_31 : decode b_Nam_told 31 = .ok (.astore_n 2, 1) := by decide +kernel
theorem d_Nam_told_32 : decode b_Nam_told 32 = .ok (.aload_n 2, 1) := by decide +kernel
theorem d_Nam_told_33 : decode b_Nam_told 33 = .ok (.ifnull 16, 3) := by decide +kernel
theorem d_Nam_told_36 : decode b_Nam_told 36 = .ok (.aload_n 2, 1) := by decide +kernel
theorem d_Nam_told_37 : decode b_Nam_told 37 = .ok (.getfield 167, 3) := by decide +kernel
theorem d_Nam_told_40 : decode b_Nam_told 40 = .ok (.ifCond .eq 7, 3) := by decide +kernel
theorem d_Nam_told_43 : decode b_Nam_told 43 = .ok (.aconst_null, 1) := by decide +kernel
theorem d_Nam_told_44 : decode b_Nam_told 44 = .ok (.goto 4, 3) := by decide +kernel
theorem d_Nam_told_47 : decode b_Nam_told 47 = .ok (.aload_n 2, 1) := by decide +kernel
theorem d_Nam_told_48 : decode b_Nam_told 48 = .ok (.areturn, 1) := by decide +kernel
theorem d_Nam_told_49 : decode b_Nam_told 49 = .ok (.aload_n 0, 1) := by decide +kernel
theorem d_Nam_told_50 : decode b_Nam_told 50 = .ok (.iload_n 1, 1) := by decide +kernel
theorem d_Nam_told_51 : decode b_Nam_told 51 = .ok (.invokevirtual 224, 3) := by decide +kernel
theorem d_Nam_told_54 : decode b_Nam_told 54 = .ok (.areturn, 1) := by decide +kernel
theorem d_Nam_stemOf_0 : decode b_Nam_stemOf 0 = .ok (.aload_n 0, 1) := by decide +kernel
theorem d_Nam_stemOf_1 : decode b_Nam_stemOf 1 = .ok (.getfield 31, 3) := by decide +kernel
theorem d_Nam_stemOf_4 : decode b_Nam_stemOf 4 = .ok (.invokevirtual 227, 3) := by decide +kernel
theorem d_Nam_stemOf_7 : decode b_Nam_stemOf 7 = .ok (.ifCond .ne 5, 3) := by decide +kernel
theorem d_Nam_stemOf_10 : decode b_Nam_stemOf 10 = .ok (.aconst_null, 1) := by decide +kernel
theorem d_Nam_stemOf_11 : decode b_Nam_stemOf 11 = .ok (.areturn, 1) := by decide +kernel
theorem d_Nam_stemOf_12 : decode b_Nam_stemOf 12 = .ok (.aload_n 0, 1) := by decide +kernel
theorem d_Nam_stemOf_13 : decode b_Nam_stemOf 13 = .ok (.getfield 34, 3) := by decide +kernel
theorem d_Nam_stemOf_16 : decode b_Nam_stemOf 16 = .ok (.invokevirtual 89, 3) := by decide +kernel
theorem d_Nam_stemOf_19 : decode b_Nam_stemOf 19 = .ok (.aload_n 0, 1) := by decide +kernel
theorem d_Nam_stemOf_20 : decode b_Nam_stemOf 20 = .ok (.getfield 34, 3) := by decide +kernel
theorem d_Nam_stemOf_23 : decode b_Nam_stemOf 23 = .ok (.aload_n 0, 1) := by decide +kernel
theorem d_Nam_stemOf_24 : decode b_Nam_stemOf 24 = .ok (.getfield 31, 3) := by decide +kernel
theorem d_Nam_stemOf_27 : decode b_Nam_stemOf 27 = .ok (.iconst 0, 1) := by decide +kernel
theorem d_Nam_stemOf_28 : decode b_Nam_stemOf 28 = .ok (.aload_n 0, 1) := by decide +kernel
theorem d_Nam_stemOf_29 : decode b_Nam_stemOf 29 = .ok (.getfield 31, 3) := by decide +kernel
theorem d_Nam_stemOf_32 : decode b_Nam_stemOf 32 = .ok (.iconst 0, 1) := by decide +kernel
theorem d_Nam_stemOf_33 : decode b_Nam_stemOf 33 = .ok (.aload_n 0, 1) := by decide +kernel
theorem d_Nam_stemOf_34 : decode b_Nam_stemOf 34 = .ok (.getfield 31, 3) := by decide +kernel
theorem d_Nam_stemOf_37 : decode b_Nam_stemOf 37 = .ok (.getfield 64, 3) := by decide +kernel
theorem d_Nam_stemOf_40 : decode b_Nam_stemOf 40 = .ok (.invokevirtual 195, 3) := by decide +kernel
theorem d_Nam_stemOf_43 : decode b_Nam_stemOf 43 = .ok (.iconst 1, 1) := by decide +kernel
theorem d_Nam_stemOf_44 : decode b_Nam_stemOf 44 = .ok (.iadd, 1) := by decide +kernel
theorem d_Nam_stemOf_45 : decode b_Nam_stemOf 45 = .ok (.invokevirtual 221, 3) := by decide +kernel
theorem d_Nam_stemOf_48 : decode b_Nam_stemOf 48 = .ok (.pop, 1) := by decide +kernel
theorem d_Nam_stemOf_49 : decode b_Nam_stemOf 49 = .ok (.aload_n 0, 1) := by decide +kernel
theorem d_Nam_stemOf_50 : decode b_Nam_stemOf 50 = .ok (.getfield 46, 3) := by decide +kernel
theorem d_Nam_stemOf_53 : decode b_Nam_stemOf 53 = .ok (.aload_n 0, 1) := by decide +kernel
theorem d_Nam_stemOf_54 : decode b_Nam_stemOf 54 = .ok (.getfield 34, 3) := by decide +kernel
theorem d_Nam_stemOf_57 : decode b_Nam_stemOf 57 = .ok (.aload_n 0, 1) := by decide +kernel
theorem d_Nam_stemOf_58 : decode b_Nam_stemOf 58 = .ok (.getfield 53, 3) := by decide +kernel
theorem d_Nam_stemOf_61 : decode b_Nam_stemOf 61 = .ok (.aload_n 0, 1) := by decide +kernel
theorem d_Nam_stemOf_62 : decode b_Nam_stemOf 62 = .ok (.getfield 34, 3) := by decide +kernel
theorem d_Nam_stemOf_65 : decode b_Nam_stemOf 65 = .ok (.iload_n 1, 1) := by decide +kernel
theorem d_Nam_stemOf_66 : decode b_Nam_stemOf 66 = .ok (.invokevirtual 213, 3) := by decide +kernel
theorem d_Nam_stemOf_69 : decode b_Nam_stemOf 69 = .ok (.invokevirtual 217, 3) := by decide +kernel
theorem d_Nam_stemOf_72 : decode b_Nam_stemOf 72 = .ok (.areturn, 1) := by decide +kernel
theorem d_Nam_textOf_0 : decode b_Nam_textOf 0 = .ok (.aload_n 1, 1) := by decide +kernel
theorem d_Nam_textOf_1 : decode b_Nam_textOf 1 = .ok (.ifnonnull 10, 3) := by decide +kernel
theorem d_Nam_textOf_4 : decode b_Nam_textOf 4 = .ok (.aload_n 0, 1) := by decide +kernel
theorem d_Nam_textOf_5 : decode b_Nam_textOf 5 = .ok (.getfield 31, 3) := by decide +kernel
theorem d_Nam_textOf_8 : decode b_Nam_textOf 8 = .ok (.goto 7, 3) := by decide +kernel
theorem d_Nam_textOf_11 : decode b_Nam_textOf 11 = .ok (.aload_n 1, 1) := by decide +kernel
theorem d_Nam_textOf_12 : decode b_Nam_textOf 12 = .ok (.getfield 171, 3) := by decide +kernel
theorem d_Nam_textOf_15 : decode b_Nam_textOf 15 = .ok (.areturn, 1) := by decide +kernel
theorem d_Nam_give_0 : decode b_Nam_give 0 = .ok (.aload_n 0, 1) := by decide +kernel
theorem d_Nam_give_1 : decode b_Nam_give 1 = .ok (.getfield 53, 3) := by decide +kernel
theorem d_Nam_give_4 : decode b_Nam_give 4 = .ok (.aload_n 0, 1) := by decide +kernel
theorem d_Nam_give_5 : decode b_Nam_give 5 = .ok (.getfield 31, 3) := by decide +kernel
theorem d_Nam_give_8 : decode b_Nam_give 8 = .ok (.aload_n 0, 1) := by decide +kernel
theorem d_Nam_give_9 : decode b_Nam_give 9 = .ok (.getfield 53, 3) := by decide +kernel
theorem d_Nam_give_12 : decode b_Nam_give 12 = .ok (.invokevirtual 128, 3) := by decide +kernel
theorem d_Nam_give_15 : decode b_Nam_give 15 = .ok (.invokevirtual 213, 3) := by decide +kernel
theorem d_Nam_give_18 : decode b_Nam_give 18 = .ok (.istore 4, 2) := by decide +kernel
theorem d_Nam_give_20 : decode b_Nam_give 20 = .ok (.aload_n 0, 1) := by decide +kernel
theorem d_Nam_give_21 : decode b_Nam_give 21 = .ok (.getfield 31, 3) := by decide +kernel
theorem d_Nam_give_24 : decode b_Nam_give 24 = .ok (.invokevirtual 231, 3) := by decide +kernel
theorem d_Nam_give_27 : decode b_Nam_give 27 = .ok (.ifCond .eq 16, 3) := by decide +kernel
theorem d_Nam_give_30 : decode b_Nam_give 30 = .ok (.aload_n 0, 1) := by decide +kernel
theorem d_Nam_give_31 : decode b_Nam_give 31 = .ok (.getfield 46, 3) := by decide +kernel
theorem d_Nam_give_34 : decode b_Nam_give 34 = .ok (.aload_n 0, 1) := by decide +kernel
theorem d_Nam_give_35 : decode b_Nam_give 35 = .ok (.getfield 31, 3) := by decide +kernel
theorem d_Nam_give_38 : decode b_Nam_give 38 = .ok (.iload 4, 2) := by decide +kernel
theorem d_Nam_give_40 : decode b_Nam_give 40 = .ok (.invokevirtual 234, 3) := by decide +kernel
theorem d_Nam_give_43 : decode b_Nam_give 43 = .ok (.aload_n 0, 1) := by decide +kernel
theorem d_Nam_give_44 : decode b_Nam_give 44 = .ok (.getfield 46, 3) := by decide +kernel
theorem d_Nam_give_47 : decode b_Nam_give 47 = .ok (.aload_n 0, 1) := by decide +kernel
theorem d_Nam_give_48 : decode b_Nam_give 48 = .ok (.getfield 31, 3) := by decide +kernel
theorem d_Nam_give_51 : decode b_Nam_give 51 = .ok (.iload 4, 2) := by decide +kernel
theorem d_Nam_give_53 : decode b_Nam_give 53 = .ok (.invokevirtual 238, 3) := by decide +kernel
theorem d_Nam_give_56 : decode b_Nam_give 56 = .ok (.astore 5, 2) := by decide +kernel
theorem d_Nam_give_58 : decode b_Nam_give 58 = .ok (.aload 5, 2) := by decide +kernel
theorem d_Nam_give_60 : decode b_Nam_give 60 = .ok (.ifnonnull 6, 3) := by decide +kernel
theorem d_Nam_give_63 : decode b_Nam_give 63 = .ok (.bipush (-4), 2) := by decide +kernel
theorem d_Nam_give_65 : decode b_Nam_give 65 = .ok (.ireturn, 1) := by decide +kernel
theorem d_Nam_give_66 : decode b_Nam_give 66 = .ok (.aload 5, 2) := by decide +kernel
theorem d_Nam_give_68 : decode b_Nam_give 68 = .ok (.iconst 0, 1) := by decide +kernel
theorem d_Nam_give_69 : decode b_Nam_give 69 = .ok (.putfield 167, 3) := by decide +kernel
theorem d_Nam_give_72 : decode b_Nam_give 72 = .ok (.aload 5, 2) := by decide +kernel
theorem d_Nam_give_74 : decode b_Nam_give 74 = .ok (.getfield 171, 3) := by decide +kernel
theorem d_Nam_give_77 : decode b_Nam_give 77 = .ok (.invokevirtual 89, 3) := by decide +kernel
theorem d_Nam_give_80 : decode b_Nam_give 80 = .ok (.aload 5, 2) := by decide +kernel
theorem d_Nam_give_82 : decode b_Nam_give 82 = .ok (.getfield 171, 3) := by decide +kernel
theorem d_Nam_give_85 : decode b_Nam_give 85 = .ok (.aload_n 1, 1) := by decide +kernel
theorem d_Nam_give_86 : decode b_Nam_give 86 = .ok (.iload_n 2, 1) := by decide +kernel
theorem d_Nam_give_87 : decode b_Nam_give 87 = .ok (.iload_n 3, 1) := by decide +kernel
theorem d_Nam_give_88 : decode b_Nam_give 88 = .ok (.invokevirtual 221, 3) := by decide +kernel
theorem d_Nam_give_91 : decode b_Nam_give 91 = .ok (.pop, 1) := by decide +kernel
theorem d_Nam_give_92 : decode b_Nam_give 92 = .ok (.iconst 0, 1) := by decide +kernel
theorem d_Nam_give_93 : decode b_Nam_give 93 = .ok (.ireturn, 1) := by decide +kernel
theorem d_Nam_takeBack_0 : decode b_Nam_takeBack 0 = .ok (.aload_n 0, 1) := by decide +kernel
theorem d_Nam_takeBack_1 : decode b_Nam_takeBack 1 = .ok (.getfield 53, 3) := by decide +kernel
theorem d_Nam_takeBack_4 : decode b_Nam_takeBack 4 = .ok (.aload_n 0, 1) := by decide +kernel
theorem d_Nam_takeBack_5 : decode b_Nam_takeBack 5 = .ok (.getfield 31, 3) := by decide +kernel
theorem d_Nam_takeBack_8 : decode b_Nam_takeBack 8 = .ok (.aload_n 0, 1) := by decide +kernel
theorem d_Nam_takeBack_9 : decode b_Nam_takeBack 9 = .ok (.getfield 53, 3) := by decide +kernel
theorem d_Nam_takeBack_12 : decode b_Nam_takeBack 12 = .ok (.invokevirtual 128, 3) := by decide +kernel
theorem d_Nam_takeBack_15 : decode b_Nam_takeBack 15 = .ok (.invokevirtual 213, 3) := by decide +kernel
theorem d_Nam_takeBack_18 : decode b_Nam_takeBack 18 = .ok (.istore_n 1, 1) := by decide +kernel
theorem d_Nam_takeBack_19 : decode b_Nam_takeBack 19 = .ok (.aload_n 0, 1) := by decide +kernel
theorem d_Nam_takeBack_20 : decode b_Nam_takeBack 20 = .ok (.getfield 31, 3) := by decide +kernel
theorem d_Nam_takeBack_23 : decode b_Nam_takeBack 23 = .ok (.invokevirtual 231, 3) := by decide +kernel
theorem d_Nam_takeBack_26 : decode b_Nam_takeBack 26 = .ok (.ifCond .eq 15, 3) := by decide +kernel
theorem d_Nam_takeBack_29 : decode b_Nam_takeBack 29 = .ok (.aload_n 0, 1) := by decide +kernel
theorem d_Nam_takeBack_30 : decode b_Nam_takeBack 30 = .ok (.getfield 46, 3) := by decide +kernel
theorem d_Nam_takeBack_33 : decode b_Nam_takeBack 33 = .ok (.aload_n 0, 1) := by decide +kernel
theorem d_Nam_takeBack_34 : decode b_Nam_takeBack 34 = .ok (.getfield 31, 3) := by decide +kernel
theorem d_Nam_takeBack_37 : decode b_Nam_takeBack 37 = .ok (.iload_n 1, 1) := by decide +kernel
theorem d_Nam_takeBack_38 : decode b_Nam_takeBack 38 = .ok (.invokevirtual 234, 3) := by decide +kernel
theorem d_Nam_takeBack_41 : decode b_Nam_takeBack 41 = .ok (.aload_n 0, 1) := by decide +kernel
theorem d_Nam_takeBack_42 : decode b_Nam_takeBack 42 = .ok (.iload_n 1, 1) := by decide +kernel
theorem d_Nam_takeBack_43 : decode b_Nam_takeBack 43 = .ok (.invokevirtual 224, 3) := by decide +kernel
theorem d_Nam_takeBack_46 : decode b_Nam_takeBack 46 = .ok (.ifnonnull 17, 3) := by decide +kernel
theorem d_Nam_takeBack_49 : decode b_Nam_takeBack 49 = .ok (.aload_n 0, 1) := by decide +kernel
theorem d_Nam_takeBack_50 : decode b_Nam_takeBack 50 = .ok (.getfield 46, 3) := by decide +kernel
theorem d_Nam_takeBack_53 : decode b_Nam_takeBack 53 = .ok (.aload_n 0, 1) := by decide +kernel
theorem d_Nam_takeBack_54 : decode b_Nam_takeBack 54 = .ok (.getfield 31, 3) := by decide +kernel
theorem d_Nam_takeBack_57 : decode b_Nam_takeBack 57 = .ok (.iload_n 1, 1) := by decide +kernel
theorem d_Nam_takeBack_58 : decode b_Nam_takeBack 58 = .ok (.invokevirtual 241, 3) := by decide +kernel
theorem d_Nam_takeBack_61 : decode b_Nam_takeBack 61 = .ok (.iconst 0, 1) := by decide +kernel
theorem d_Nam_takeBack_62 : decode b_Nam_takeBack 62 = .ok (.ireturn, 1) := by decide +kernel
theorem d_Nam_takeBack_63 : decode b_Nam_takeBack 63 = .ok (.aload_n 0, 1) := by decide +kernel
theorem d_Nam_takeBack_64 : decode b_Nam_takeBack 64 = .ok (.getfield 46, 3) := by decide +kernel
theorem d_Nam_takeBack_67 : decode b_Nam_takeBack 67 = .ok (.aload_n 0, 1) := by decide +kernel
theorem d_Nam_takeBack_68 : decode b_Nam_takeBack 68 = .ok (.getfield 31, 3) := by decide +kernel
theorem d_Nam_takeBack_71 : decode b_Nam_takeBack 71 = .ok (.iload_n 1, 1) := by decide +kernel
theorem d_Nam_takeBack_72 : decode b_Nam_takeBack 72 = .ok (.invokevirtual 238, 3) := by decide +kernel
theorem d_Nam_takeBack_75 : decode b_Nam_takeBack 75 = .ok (.astore_n 2, 1) := by decide +kernel
theorem d_Nam_takeBack_76 : decode b_Nam_takeBack 76 = .ok (.aload_n 2, 1) := by decide +kernel
theorem d_Nam_takeBack_77 : decode b_Nam_takeBack 77 = .ok (.ifnonnull 6, 3) := by decide +kernel
theorem d_Nam_takeBack_80 : decode b_Nam_takeBack 80 = .ok (.bipush (-4), 2) := by decide +kernel
theorem d_Nam_takeBack_82 : decode b_Nam_takeBack 82 = .ok (.ireturn, 1) := by decide +kernel
theorem d_Nam_takeBack_83 : decode b_Nam_takeBack 83 = .ok (.aload_n 2, 1) := by decide +kernel
theorem d_Nam_takeBack_84 : decode b_Nam_takeBack 84 = .ok (.iconst 1, 1) := by decide +kernel
theorem d_Nam_takeBack_85 : decode b_Nam_takeBack 85 = .ok (.putfield 167, 3) := by decide +kernel
theorem d_Nam_takeBack_88 : decode b_Nam_takeBack 88 = .ok (.iconst 0, 1) := by decide +kernel
theorem d_Nam_takeBack_89 : decode b_Nam_takeBack 89 = .ok (.ireturn, 1) := by decide +kernel
theorem d_Nam_enterPool_0 : decode b_Nam_enterPool 0 = .ok (.aload_n 0, 1) := by decide +kernel
theorem d_Nam_enterPool_1 : decode b_Nam_enterPool 1 = .ok (.getfield 53, 3) := by decide +kernel
theorem d_Nam_enterPool_4 : decode b_Nam_enterPool 4 = .ok (.invokevirtual 244, 3) := by decide +kernel
theorem d_Nam_enterPool_7 : decode b_Nam_enterPool 7 = .ok (.iconst 0, 1) := by decide +kernel
theorem d_Nam_enterPool_8 : decode b_Nam_enterPool 8 = .ok (.istore_n 1, 1) := by decide +kernel
theorem d_Nam_enterPool_9 : decode b_Nam_enterPool 9 = .ok (.iload_n 1, 1) := by decide +kernel
theorem d_Nam_enterPool_10 : decode b_Nam_enterPool 10 = .ok (.aload_n 0, 1) := by decide +kernel
theorem d_Nam_enterPool_11 : decode b_Nam_enterPool 11 = .ok (.getfield 10, 3) := by decide +kernel
theorem d_Nam_enterPool_14 : decode b_Nam_enterPool 14 = .ok (.getfield 118, 3) := by decide +kernel
theorem d_Nam_enterPool_17 : decode b_Nam_enterPool 17 = .ok (.if_icmp .ge 38, 3) := by decide +kernel
theorem d_Nam_enterPool_20 : decode b_Nam_enterPool 20 = .ok (.aload_n 0, 1) := by decide +kernel
theorem d_Nam_enterPool_21 : decode b_Nam_enterPool 21 = .ok (.iload_n 1, 1) := by decide +kernel
theorem d_Nam_enterPool_22 : decode b_Nam_enterPool 22 = .ok (.invokevirtual 79, 3) := by decide +kernel
theorem d_Nam_enterPool_25 : decode b_Nam_enterPool 25 = .ok (.ifCond .ne 13, 3) := by decide +kernel
theorem d_Nam_enterPool_28 : decode b_Nam_enterPool 28 = .ok (.aload_n 0, 1) := by decide +kernel
theorem d_Nam_enterPool_29 : decode b_Nam_enterPool 29 = .ok (.getfield 53, 3) := by decide +kernel
theorem d_Nam_enterPool_32 : decode b_Nam_enterPool 32 = .ok (.invokevirtual 134, 3) := by decide +kernel
theorem d_Nam_enterPool_35 : decode b_Nam_enterPool 35 = .ok (.bipush (-2), 2) := by decide +kernel
theorem d_Nam_enterPool_37 : decode b_Nam_enterPool 37 = .ok (.ireturn, 1) := by decide +kernel
theorem d_Nam_enterPool_38 : decode b_Nam_enterPool 38 = .ok (.aload_n 0, 1) := by decide +kernel
theorem d_Nam_enterPool_39 : decode b_Nam_enterPool 39 = .ok (.getfield 53, 3) := by decide +kernel
theorem d_Nam_enterPool_42 : decode b_Nam_enterPool 42 = .ok (.aload_n 0, 1) := by decide +kernel
theorem d_Nam_enterPool_43 : decode b_Nam_enterPool 43 = .ok (.getfield 31, 3) := by decide +kernel
theorem d_Nam_enterPool_46 : decode b_Nam_enterPool 46 = .ok (.invokevirtual 247, 3) := by decide +kernel
theorem d_Nam_enterPool_49 : decode b_Nam_enterPool 49 = .ok (.iinc 1 1, 3) := by decide +kernel
theorem d_Nam_enterPool_52 : decode b_Nam_enterPool 52 = .ok (.goto (-43), 3) := by decide +kernel
theorem d_Nam_enterPool_55 : decode b_Nam_enterPool 55 = .ok (.iconst 0, 1) := by decide +kernel
theorem d_Nam_enterPool_56 : decode b_Nam_enterPool 56 = .ok (.ireturn, 1) := by decide +kernel
theorem d_Nam_cutAt_0 : decode b_Nam_cutAt 0 = .ok (.aload_n 0, 1) := by decide +kernel
theorem d_Nam_cutAt_1 : decode b_Nam_cutAt 1 = .ok (.getfield 10, 3) := by decide +kernel
theorem d_Nam_cutAt_4 : decode b_Nam_cutAt 4 = .ok (.iload_n 1, 1) := by decide +kernel
theorem d_Nam_cutAt_5 : decode b_Nam_cutAt 5 = .ok (.invokevirtual 250, 3) := by decide +kernel
theorem d_Nam_cutAt_8 : decode b_Nam_cutAt 8 = .ok (.tableswitch (167) (3) (7) #[36, 61, 100, 117, 142], 36) := by decide +kernel
theorem d_Nam_cutAt_44 : decode b_Nam_cutAt 44 = .ok (.aload_n 0, 1) := by decide +kernel
theorem d_Nam_cutAt_45 : decode b_Nam_cutAt 45 = .ok (.getfield 10, 3) := by decide +kernel
theorem d_Nam_cutAt_48 : decode b_Nam_cutAt 48 = .ok (.iload_n 1, 1) := by decide +kernel
theorem d_Nam_cutAt_49 : decode b_Nam_cutAt 49 = .ok (.aload_n 0, 1) := by decide +kernel
theorem d_Nam_cutAt_50 : decode b_Nam_cutAt 50 = .ok (.getfield 40, 3) := by decide +kernel
theorem d_Nam_cutAt_53 : decode b_Nam_cutAt 53 = .ok (.invokevirtual 253, 3) := by decide +kernel
theorem d_Nam_cutAt_56 : decode b_Nam_cutAt 56 = .ok (.aload_n 0, 1) := by decide +kernel
theorem d_Nam_cutAt_57 : decode b_Nam_cutAt 57 = .ok (.getfield 60, 3) := by decide +kernel
theorem d_Nam_cutAt_60 : decode b_Nam_cutAt 60 = .ok (.aload_n 0, 1) := by decide +kernel
theorem d_Nam_cutAt_61 : decode b_Nam_cutAt 61 = .ok (.getfield 40, 3) := by decide +kernel
theorem d_Nam_cutAt_64 : decode b_Nam_cutAt 64 = .ok (.invokevirtual 257, 3) := by decide +kernel
theorem d_Nam_cutAt_67 : decode b_Nam_cutAt 67 = .ok (.iconst 0, 1) := by decide +kernel
theorem d_Nam_cutAt_68 : decode b_Nam_cutAt 68 = .ok (.ireturn, 1) := by decide +kernel
theorem d_Nam_cutAt_69 : decode b_Nam_cutAt 69 = .ok (.aload_n 0, 1) := by decide +kernel
theorem d_Nam_cutAt_70 : decode b_Nam_cutAt 70 = .ok (.iload_n 1, 1) := by decide +kernel
theorem d_Nam_cutAt_71 : decode b_Nam_cutAt 71 = .ok (.invokevirtual 79, 3) := by decide +kernel
theorem d_Nam_cutAt_74 : decode b_Nam_cutAt 74 = .ok (.ifCond .ne 6, 3) := by decide +kernel
theorem d_Nam_cutAt_77 : decode b_Nam_cutAt 77 = .ok (.bipush (-2), 2) := by decide +kernel
theorem d_Nam_cutAt_79 : decode b_Nam_cutAt 79 = .ok (.ireturn, 1) := by decide +kernel
theorem d_Nam_cutAt_80 : decode b_Nam_cutAt 80 = .ok (.aload_n 0, 1) := by decide +kernel
theorem d_Nam_cutAt_81 : decode b_Nam_cutAt 81 = .ok (.getfield 40, 3) := by decide +kernel
theorem d_Nam_cutAt_84 : decode b_Nam_cutAt 84 = .ok (.aload_n 0, 1) := by decide +kernel
theorem d_Nam_cutAt_85 : decode b_Nam_cutAt 85 = .ok (.aload_n 0, 1) := by decide +kernel
theorem d_Nam_cutAt_86 : decode b_Nam_cutAt 86 = .ok (.invokevirtual 98, 3) := by decide +kernel
theorem d_Nam_cutAt_89 : decode b_Nam_cutAt 89 = .ok (.invokevirtual 102, 3) := by decide +kernel
theorem d_Nam_cutAt_92 : decode b_Nam_cutAt 92 = .ok (.invokevirtual 106, 3) := by decide +kernel
theorem d_Nam_cutAt_95 : decode b_Nam_cutAt 95 = .ok (.aload_n 0, 1) := by decide +kernel
theorem d_Nam_cutAt_96 : decode b_Nam_cutAt 96 = .ok (.getfield 60, 3) := by decide +kernel
theorem d_Nam_cutAt_99 : decode b_Nam_cutAt 99 = .ok (.aload_n 0, 1) := by decide +kernel
theorem d_Nam_cutAt_100 : decode b_Nam_cutAt 100 = .ok (.getfield 40, 3) := by decide +kernel
theorem d_Nam_cutAt_103 : decode b_Nam_cutAt 103 = .ok (.invokevirtual 257, 3) := by decide +kernel
theorem d_Nam_cutAt_106 : decode b_Nam_cutAt 106 = .ok (.iconst 0, 1) := by decide +kernel
theorem d_Nam_cutAt_107 : decode b_Nam_cutAt 107 = .ok (.ireturn, 1) := by decide +kernel
theorem d_Nam_cutAt_108 : decode b_Nam_cutAt 108 = .ok (.aload_n 0, 1) := by decide +kernel
theorem d_Nam_cutAt_109 : decode b_Nam_cutAt 109 = .ok (.getfield 60, 3) := by decide +kernel
theorem d_Nam_cutAt_112 : decode b_Nam_cutAt 112 = .ok (.aload_n 0, 1) := by decide +kernel
theorem d_Nam_cutAt_113 : decode b_Nam_cutAt 113 = .ok (.getfield 10, 3) := by decide +kernel
theorem d_Nam_cutAt_116 : decode b_Nam_cutAt 116 = .ok (.iload_n 1, 1) := by decide +kernel
theorem d_Nam_cutAt_117 : decode b_Nam_cutAt 117 = .ok (.invokevirtual 260, 3) := by decide +kernel
theorem d_Nam_cutAt_120 : decode b_Nam_cutAt 120 = .ok (.invokevirtual 263, 3) := by decide +kernel
theorem d_Nam_cutAt_123 : decode b_Nam_cutAt 123 = .ok (.iconst 0, 1) := by decide +kernel
theorem d_Nam_cutAt_124 : decode b_Nam_cutAt 124 = .ok (.ireturn, 1) := by decide +kernel
theorem d_Nam_cutAt_125 : decode b_Nam_cutAt 125 = .ok (.aload_n 0, 1) := by decide +kernel
theorem d_Nam_cutAt_126 : decode b_Nam_cutAt 126 = .ok (.getfield 60, 3) := by decide +kernel
theorem d_Nam_cutAt_129 : decode b_Nam_cutAt 129 = .ok (.aload_n 0, 1) := by decide +kernel
theorem d_Nam_cutAt_130 : decode b_Nam_cutAt 130 = .ok (.getfield 60, 3) := by decide +kernel
theorem d_Nam_cutAt_133 : decode b_Nam_cutAt 133 = .ok (.getfield 183, 3) := by decide +kernel
theorem d_Nam_cutAt_136 : decode b_Nam_cutAt 136 = .ok (.aload_n 0, 1) := by decide +kernel
theorem d_Nam_cutAt_137 : decode b_Nam_cutAt 137 = .ok (.getfield 10, 3) := by decide +kernel
theorem d_Nam_cutAt_140 : decode b_Nam_cutAt 140 = .ok (.iload_n 1, 1) := by decide +kernel
theorem d_Nam_cutAt_141 : decode b_Nam_cutAt 141 = .ok (.invokevirtual 260, 3) := by decide +kernel
theorem d_Nam_cutAt_144 : decode b_Nam_cutAt 144 = .ok (.iadd, 1) := by decide +kernel
theorem d_Nam_cutAt_145 : decode b_Nam_cutAt 145 = .ok (.invokevirtual 263, 3) := by decide +kernel
theorem d_Nam_cutAt_148 : decode b_Nam_cutAt 148 = .ok (.iconst 0, 1) := by decide +kernel
theorem d_Nam_cutAt_149 : decode b_Nam_cutAt 149 = .ok (.ireturn, 1) := by decide +kernel
theorem d_Nam_cutAt_150 : decode b_Nam_cutAt 150 = .ok (.aload_n 0, 1) := by decide +kernel
theorem d_Nam_cutAt_151 : decode b_Nam_cutAt 151 = .ok (.getfield 60, 3) := by decide +kernel
theorem d_Nam_cutAt_154 : decode b_Nam_cutAt 154 = .ok (.aload_n 0, 1) := by decide +kernel
theorem d_Nam_cutAt_155 : decode b_Nam_cutAt 155 = .ok (.getfield 60, 3) := by decide +kernel
theorem d_Nam_cutAt_158 : decode b_Nam_cutAt 158 = .ok (.getfield 183, 3) := by decide +kernel
theorem d_Nam_cutAt_161 : decode b_Nam_cutAt 161 = .ok (.aload_n 0, 1) := by decide +kernel
theorem d_Nam_cutAt_162 : decode b_Nam_cutAt 162 = .ok (.getfield 10, 3) := by decide +kernel
theorem d_Nam_cutAt_165 : decode b_Nam_cutAt 165 = .ok (.iload_n 1, 1) := by decide +kernel
theorem d_Nam_cutAt_166 : decode b_Nam_cutAt 166 = .ok (.invokevirtual 260, 3) := by decide +kernel
theorem d_Nam_cutAt_169 : decode b_Nam_cutAt 169 = .ok (.isub, 1) := by decide +kernel
theorem d_Nam_cutAt_170 : decode b_Nam_cutAt 170 = .ok (.invokevirtual 263, 3) := by decide +kernel
theorem d_Nam_cutAt_173 : decode b_Nam_cutAt 173 = .ok (.iconst 0, 1) := by decide +kernel
theorem d_Nam_cutAt_174 : decode b_Nam_cutAt 174 = .ok (.ireturn, 1) := by decide +kernel
theorem d_Nam_cutAt_175 : decode b_Nam_cutAt 175 = .ok (.aload_n 0, 1) := by decide +kernel
theorem d_Nam_cutAt_176 : decode b_Nam_cutAt 176 = .ok (.getfield 60, 3) := by decide +kernel
theorem d_Nam_cutAt_179 : decode b_Nam_cutAt 179 = .ok (.invokevirtual 266, 3) := by decide +kernel
theorem d_Nam_cutAt_182 : decode b_Nam_cutAt 182 = .ok (.iconst 0, 1) := by decide +kernel
theorem d_Nam_cutAt_183 : decode b_Nam_cutAt 183 = .ok (.ireturn, 1) := by decide +kernel
theorem d_Nam_handOver_0 : decode b_Nam_handOver 0 = .ok (.iload_n 2, 1) := by decide +kernel
theorem d_Nam_handOver_1 : decode b_Nam_handOver 1 = .ok (.ifCond .eq 13, 3) := by decide +kernel
theorem d_Nam_handOver_4 : decode b_Nam_handOver 4 = .ok (.aload_n 0, 1) := by decide +kernel
theorem d_Nam_handOver_5 : decode b_Nam_handOver 5 = .ok (.getfield 60, 3) := by decide +kernel
theorem d_Nam_handOver_8 : decode b_Nam_handOver 8 = .ok (.invokevirtual 269, 3) := by decide +kernel
theorem d_Nam_handOver_11 : decode b_Nam_handOver 11 = .ok (.goto 10, 3) := by decide +kernel
theorem d_Nam_handOver_14 : decode b_Nam_handOver 14 = .ok (.aload_n 0, 1) := by decide +kernel
theorem d_Nam_handOver_15 : decode b_Nam_handOver 15 = .ok (.getfield 60, 3) := by decide +kernel
theorem d_Nam_handOver_18 : decode b_Nam_handOver 18 = .ok (.invokevirtual 272, 3) := by decide +kernel
theorem d_Nam_handOver_21 : decode b_Nam_handOver 21 = .ok (.aload_n 0, 1) := by decide +kernel
theorem d_Nam_handOver_22 : decode b_Nam_handOver 22 = .ok (.getfield 10, 3) := by decide +kernel
theorem d_Nam_handOver_25 : decode b_Nam_handOver 25 = .ok (.iload_n 1, 1) := by decide +kernel
theorem d_Nam_handOver_26 : decode b_Nam_handOver 26 = .ok (.invokevirtual 250, 3) := by decide +kernel
theorem d_Nam_handOver_29 : decode b_Nam_handOver 29 = .ok (.iconst 1, 1) := by decide +kernel
theorem d_Nam_handOver_30 : decode b_Nam_handOver 30 = .ok (.if_icmp .eq 5, 3) := by decide +kernel
theorem d_Nam_handOver_33 : decode b_Nam_handOver 33 = .ok (.iconst 0, 1) := by decide +kernel
theorem d_Nam_handOver_34 : decode b_Nam_handOver 34 = .ok (.ireturn, 1) := by decide +kernel
theorem d_Nam_handOver_35 : decode b_Nam_handOver 35 = .ok (.aload_n 0, 1) := by decide +kernel
theorem d_Nam_handOver_36 : decode b_Nam_handOver 36 = .ok (.iload_n 1, 1) := by decide +kernel
theorem d_Nam_handOver_37 : decode b_Nam_handOver 37 = .ok (.invokevirtual 79, 3) := by decide +kernel
theorem d_Nam_handOver_40 : decode b_Nam_handOver 40 = .ok (.ifCond .ne 6, 3) := by decide +kernel
theorem d_Nam_handOver_43 : decode b_Nam_handOver 43 = .ok (.bipush (-2), 2) := by decide +kernel
theorem d_Nam_handOver_45 : decode b_Nam_handOver 45 = .ok (.ireturn, 1) := by decide +kernel
theorem d_Nam_handOver_46 : decode b_Nam_handOver 46 = .ok (.aload_n 0, 1) := by decide +kernel
theorem d_Nam_handOver_47 : decode b_Nam_handOver 47 = .ok (.aload_n 0, 1) := by decide +kernel
theorem d_Nam_handOver_48 : decode b_Nam_handOver 48 = .ok (.getfield 60, 3) := by decide +kernel
theorem d_Nam_handOver_51 : decode b_Nam_handOver 51 = .ok (.getfield 177, 3) := by decide +kernel
theorem d_Nam_handOver_54 : decode b_Nam_handOver 54 = .ok (.aload_n 0, 1) := by decide +kernel
theorem d_Nam_handOver_55 : decode b_Nam_handOver 55 = .ok (.getfield 60, 3) := by decide +kernel
theorem d_Nam_handOver_58 : decode b_Nam_handOver 58 = .ok (.getfield 275, 3) := by decide +kernel
theorem d_Nam_handOver_61 : decode b_Nam_handOver 61 = .ok (.iconst 1, 1) := by decide +kernel
theorem d_Nam_handOver_62 : decode b_Nam_handOver 62 = .ok (.isub, 1) := by decide +kernel
theorem d_Nam_handOver_63 : decode b_Nam_handOver 63 = .ok (.aload_n 0, 1) := by decide +kernel
theorem d_Nam_handOver_64 : decode b_Nam_handOver 64 = .ok (.getfield 60, 3) := by decide +kernel
theorem d_Nam_handOver_67 : decode b_Nam_handOver 67 = .ok (.getfield 278, 3) := by decide +kernel
theorem d_Nam_handOver_70 : decode b_Nam_handOver 70 = .ok (.iconst 1, 1) := by decide +kernel
theorem d_Nam_handOver_71 : decode b_Nam_handOver 71 = .ok (.isub, 1) := by decide +kernel
theorem d_Nam_handOver_72 : decode b_Nam_handOver 72 = .ok (.invokevirtual 85, 3) := by decide +kernel
theorem d_Nam_handOver_75 : decode b_Nam_handOver 75 = .ok (.ireturn, 1) := by decide +kernel
theorem d_Nam_isDigit_0 : decode b_Nam_isDigit 0 = .ok (.iload_n 0, 1) := by decide +kernel
theorem d_Nam_isDigit_1 : decode b_Nam_isDigit 1 = .ok (.bipush 48, 2) := by decide +kernel
theorem d_Nam_isDigit_3 : decode b_Nam_isDigit 3 = .ok (.if_icmp .lt 13, 3) := by decide +kernel
theorem d_Nam_isDigit_6 : decode b_Nam_isDigit 6 = .ok (.iload_n 0, 1) := by decide +kernel
theorem d_Nam_isDigit_7 : decode b_Nam_isDigit 7 = .ok (.bipush 57, 2) := by decide +kernel
theorem d_Nam_isDigit_9 : decode b_Nam_isDigit 9 = .ok (.if_icmp .gt 7, 3) := by decide +kernel
theorem d_Nam_isDigit_12 : decode b_Nam_isDigit 12 = .ok (.iconst 1, 1) := by decide +kernel
theorem d_Nam_isDigit_13 : decode b_Nam_isDigit 13 = .ok (.goto 4, 3) := by decide +kernel
theorem d_Nam_isDigit_16 : decode b_Nam_isDigit 16 = .ok (.iconst 0, 1) := by decide +kernel
theorem d_Nam_isDigit_17 : decode b_Nam_isDigit 17 = .ok (.ireturn, 1) := by decide +kernel
theorem d_Nam_isSymbolByte_0 : decode b_Nam_isSymbolByte 0 = .ok (.iload_n 0, 1) := by decide +kernel
theorem d_Nam_isSymbolByte_1 : decode b_Nam_isSymbolByte 1 = .ok (.bipush 65, 2) := by decide +kernel
theorem d_Nam_isSymbolByte_3 : decode b_Nam_isSymbolByte 3 = .ok (.if_icmp .lt 9, 3) := by decide +kernel
theorem d_Nam_isSymbolByte_6 : decode b_Nam_isSymbolByte 6 = .ok (.iload_n 0, 1) := by decide +kernel
theorem d_Nam_isSymbolByte_7 : decode b_Nam_isSymbolByte 7 = .ok (.bipush 90, 2) := by decide +kernel
theorem d_Nam_isSymbolByte_9 : decode b_Nam_isSymbolByte 9 = .ok (.if_icmp .le 15, 3) := by decide +kernel
theorem d_Nam_isSymbolByte_12 : decode b_Nam_isSymbolByte 12 = .ok (.iload_n 0, 1) := by decide +kernel
theorem d_Nam_isSymbolByte_13 : decode b_Nam_isSymbolByte 13 = .ok (.bipush 97, 2) := by decide +kernel
theorem d_Nam_isSymbolByte_15 : decode b_Nam_isSymbolByte 15 = .ok (.if_icmp .lt 13, 3) := by decide +kernel
theorem d_Nam_isSymbolByte_18 : decode b_Nam_isSymbolByte 18 = .ok (.iload_n 0, 1) := by decide +kernel
theorem d_Nam_isSymbolByte_19 : decode b_Nam_isSymbolByte 19 = .ok (.bipush 122, 2) := by decide +kernel
theorem d_Nam_isSymbolByte_21 : decode b_Nam_isSymbolByte 21 = .ok (.if_icmp .gt 7, 3) := by decide +kernel
theorem d_Nam_isSymbolByte_24 : decode b_Nam_isSymbolByte 24 = .ok (.iconst 1, 1) := by decide +kernel
theorem d_Nam_isSymbolByte_25 : decode b_Nam_isSymbolByte 25 = .ok (.goto 4, 3) := by decide +kernel
theorem d_Nam_isSymbolByte_28 : decode b_Nam_isSymbolByte 28 = .ok (.iconst 0, 1) := by decide +kernel
theorem d_Nam_isSymbolByte_29 : decode b_Nam_isSymbolByte 29 = .ok (.istore_n 1, 1) := by decide +kernel
theorem d_Nam_isSymbolByte_30 : decode b_Nam_isSymbolByte 30 = .ok (.iload_n 1, 1) := by decide +kernel
theorem d_Nam_isSymbolByte_31 : decode b_Nam_isSymbolByte 31 = .ok (.ifCond .ne 34, 3) := by decide +kernel
theorem d_Nam_isSymbolByte_34 : decode b_Nam_isSymbolByte 34 = .ok (.iload_n 0, 1) := by decide +kernel
theorem d_Nam_isSymbolByte_35 : decode b_Nam_isSymbolByte 35 = .ok (.invokestatic 210, 3) := by decide +kernel
theorem d_Nam_isSymbolByte_38 : decode b_Nam_isSymbolByte 38 = .ok (.ifCond .ne 27, 3) := by decide +kernel
theorem d_Nam_isSymbolByte_41 : decode b_Nam_isSymbolByte 41 = .ok (.iload_n 0, 1) := by decide +kernel
theorem d_Nam_isSymbolByte_42 : decode b_Nam_isSymbolByte 42 = .ok (.bipush 46, 2) := by decide +kernel
theorem d_Nam_isSymbolByte_44 : decode b_Nam_isSymbolByte 44 = .ok (.if_icmp .eq 21, 3) := by decide +kernel
theorem d_Nam_isSymbolByte_47 : decode b_Nam_isSymbolByte 47 = .ok (.iload_n 0, 1) := by decide +kernel
theorem d_Nam_isSymbolByte_48 : decode b_Nam_isSymbolByte 48 = .ok (.bipush 33, 2) := by decide +kernel
theorem d_Nam_isSymbolByte_50 : decode b_Nam_isSymbolByte 50 = .ok (.if_icmp .eq 15, 3) := by decide +kernel
theorem d_Nam_isSymbolByte_53 : decode b_Nam_isSymbolByte 53 = .ok (.iload_n 0, 1) := by decide +kernel
theorem d_Nam_isSymbolByte_54 : decode b_Nam_isSymbolByte 54 = .ok (.bipush 63, 2) := by decide +kernel
theorem d_Nam_isSymbolByte_56 : decode b_Nam_isSymbolByte 56 = .ok (.if_icmp .eq 9, 3) := by decide +kernel
theorem d_Nam_isSymbolByte_59 : decode b_Nam_isSymbolByte 59 = .ok (.iload_n 0, 1) := by decide +kernel
theorem d_Nam_isSymbolByte_60 : decode b_Nam_isSymbolByte 60 = .ok (.bipush 95, 2) := by decide +kernel
theorem d_Nam_isSymbolByte_62 : decode b_Nam_isSymbolByte 62 = .ok (.if_icmp .ne 7, 3) := by decide +kernel
theorem d_Nam_isSymbolByte_65 : decode b_Nam_isSymbolByte 65 = .ok (.iconst 1, 1) := by decide +kernel
theorem d_Nam_isSymbolByte_66 : decode b_Nam_isSymbolByte 66 = .ok (.goto 4, 3) := by decide +kernel
theorem d_Nam_isSymbolByte_69 : decode b_Nam_isSymbolByte 69 = .ok (.iconst 0, 1) := by decide +kernel
theorem d_Nam_isSymbolByte_70 : decode b_Nam_isSymbolByte 70 = .ok (.ireturn, 1) := by decide +kernel
theorem d_Nam_capital_0 : decode b_Nam_capital 0 = .ok (.iload_n 0, 1) := by decide +kernel
theorem d_Nam_capital_1 : decode b_Nam_capital 1 = .ok (.bipush 97, 2) := by decide +kernel
theorem d_Nam_capital_3 : decode b_Nam_capital 3 = .ok (.if_icmp .lt 19, 3) := by decide +kernel
theorem d_Nam_capital_6 : decode b_Nam_capital 6 = .ok (.iload_n 0, 1) := by decide +kernel
theorem d_Nam_capital_7 : decode b_Nam_capital 7 = .ok (.bipush 122, 2) := by decide +kernel
theorem d_Nam_capital_9 : decode b_Nam_capital 9 = .ok (.if_icmp .gt 13, 3) := by decide +kernel
theorem d_Nam_capital_12 : decode b_Nam_capital 12 = .ok (.iload_n 0, 1) := by decide +kernel
theorem d_Nam_capital_13 : decode b_Nam_capital 13 = .ok (.bipush 97, 2) := by decide +kernel
theorem d_Nam_capital_15 : decode b_Nam_capital 15 = .ok (.isub, 1) := by decide +kernel
theorem d_Nam_capital_16 : decode b_Nam_capital 16 = .ok (.bipush 65, 2) := by decide +kernel
theorem d_Nam_capital_18 : decode b_Nam_capital 18 = .ok (.iadd, 1) := by decide +kernel
theorem d_Nam_capital_19 : decode b_Nam_capital 19 = .ok (.goto 4, 3) := by decide +kernel
theorem d_Nam_capital_22 : decode b_Nam_capital 22 = .ok (.iload_n 0, 1) := by decide +kernel
theorem d_Nam_capital_23 : decode b_Nam_capital 23 = .ok (.ireturn, 1) := by decide +kernel
theorem d_Mod_init_0 : decode b_Mod_init 0 = .ok (.aload_n 0, 1) := by decide +kernel
theorem d_Mod_init_1 : decode b_Mod_init 1 = .ok (.invokespecial 1, 3) := by decide +kernel
theorem d_Mod_init_4 : decode b_Mod_init 4 = .ok (.aload_n 0, 1) := by decide +kernel
theorem d_Mod_init_5 : decode b_Mod_init 5 = .ok (.sipush 600, 3) := by decide +kernel
theorem d_Mod_init_8 : decode b_Mod_init 8 = .ok (.newarray .int, 2) := by decide +kernel
theorem d_Mod_init_10 : decode b_Mod_init 10 = .ok (.putfield 7, 3) := by decide +kernel
theorem d_Mod_init_13 : decode b_Mod_init 13 = .ok (.aload_n 0, 1) := by decide +kernel
theorem d_Mod_init_14 : decode b_Mod_init 14 = .ok (.sipush 600, 3) := by decide +kernel
theorem d_Mod_init_17 : decode b_Mod_init 17 = .ok (.newarray .int, 2) := by decide +kernel
theorem d_Mod_init_19 : decode b_Mod_init 19 = .ok (.putfield 13, 3) := by decide +kernel
theorem d_Mod_init_22 : decode b_Mod_init 22 = .ok (.aload_n 0, 1) := by decide +kernel
theorem d_Mod_init_23 : decode b_Mod_init 23 = .ok (.sipush 200, 3) := by decide +kernel
theorem d_Mod_init_26 : decode b_Mod_init 26 = .ok (.newarray .int, 2) := by decide +kernel
theorem d_Mod_init_28 : decode b_Mod_init 28 = .ok (.putfield 16, 3) := by decide +kernel
theorem d_Mod_init_31 : decode b_Mod_init 31 = .ok (.aload_n 0, 1) := by decide +kernel
theorem d_Mod_init_32 : decode b_Mod_init 32 = .ok (.sipush 201, 3) := by decide +kernel
theorem d_Mod_init_35 : decode b_Mod_init 35 = .ok (.newarray .int, 2) := by decide +kernel
theorem d_Mod_init_37 : decode b_Mod_init 37 = .ok (.putfield 19, 3) := by decide +kernel
theorem d_Mod_init_40 : decode b_Mod_init 40 = .ok (.aload_n 0, 1) := by decide +kernel
theorem d_Mod_init_41 : decode b_Mod_init 41 = .ok (.sipush 20200, 3) := by decide +kernel
theorem d_Mod_init_44 : decode b_Mod_init 44 = .ok (.newarray .int, 2) := by decide +kernel
theorem d_Mod_init_46 : decode b_Mod_init 46 = .ok (.putfield 22, 3) := by decide +kernel
theorem d_Mod_init_49 : decode b_Mod_init 49 = .ok (.aload_n 0, 1) := by decide +kernel
theorem d_Mod_init_50 : decode b_Mod_init 50 = .ok (.bipush 101, 2) := by decide +kernel
theorem d_Mod_init_52 : decode b_Mod_init 52 = .ok (.newarray .int, 2) := by decide +kernel
theorem d_Mod_init_54 : decode b_Mod_init 54 = .ok (.putfield 25, 3) := by decide +kernel
theorem d_Mod_init_57 : decode b_Mod_init 57 = .ok (.aload_n 0, 1) := by decide +kernel
theorem d_Mod_init_58 : decode b_Mod_init 58 = .ok (.sipush 20200, 3) := by decide +kernel
theorem d_Mod_init_61 : decode b_Mod_init 61 = .ok (.newarray .int, 2) := by decide +kernel
theorem d_Mod_init_63 : decode b_Mod_init 63 = .ok (.putfield 28, 3) := by decide +kernel
theorem d_Mod_init_66 : decode b_Mod_init 66 = .ok (.aload_n 0, 1) := by decide +kernel
theorem d_Mod_init_67 : decode b_Mod_init 67 = .ok (.bipush 101, 2) := by decide +kernel
theorem d_Mod_init_69 : decode b_Mod_init 69 = .ok (.newarray .int, 2) := by decide +kernel
theorem d_Mod_init_71 : decode b_Mod_init 71 = .ok (.putfield 31, 3) := by decide +kernel
theorem d_Mod_init_74 : decode b_Mod_init 74 = .ok (.aload_n 0, 1) := by decide +kernel
theorem d_Mod_init_75 : decode b_Mod_init 75 = .ok (.bipush 101, 2) := by decide +kernel
theorem d_Mod_init_77 : decode b_Mod_init 77 = .ok (.newarray .int, 2) := by decide +kernel
theorem d_Mod_init_79 : decode b_Mod_init 79 = .ok (.putfield 34, 3) := by decide +kernel
theorem d_Mod_init_82 : decode b_Mod_init 82 = .ok (.aload_n 0, 1) := by decide +kernel
theorem d_Mod_init_83 : decode b_Mod_init 83 = .ok (.sipush 19200, 3) := by decide +kernel
theorem d_Mod_init_86 : decode b_Mod_init 86 = .ok (.newarray .int, 2) := by decide +kernel
theorem d_Mod_init_88 : decode b_Mod_init 88 = .ok (.putfield 37, 3) := by decide +kernel
theorem d_Mod_init_91 : decode b_Mod_init 91 = .ok (.aload_n 0, 1) := by decide +kernel
theorem d_Mod_init_92 : decode b_Mod_init 92 = .ok (.bipush 96, 2) := by decide +kernel
theorem d_Mod_init_94 : decode b_Mod_init 94 = .ok (.newarray .int, 2) := by decide +kernel
theorem d_Mod_init_96 : decode b_Mod_init 96 = .ok (.putfield 40, 3) := by decide +kernel
theorem d_Mod_init_99 : decode b_Mod_init 99 = .ok (.aload_n 0, 1) := by decide +kernel
theorem d_Mod_init_100 : decode b_Mod_init 100 = .ok (.bipush 8, 2) := by decide +kernel
theorem d_Mod_init_102 : decode b_Mod_init 102 = .ok (.newarray .int, 2) := by decide +kernel
theorem d_Mod_init_104 : decode b_Mod_init 104 = .ok (.putfield 43, 3) := by decide +kernel
theorem d_Mod_init_107 : decode b_Mod_init 107 = .ok (.aload_n 0, 1) := by decide +kernel
theorem d_Mod_init_108 : decode b_Mod_init 108 = .ok (.sipush 200, 3) := by decide +kernel
theorem d_Mod_init_111 : decode b_Mod_init 111 = .ok (.newarray .int, 2) := by decide +kernel
theorem d_Mod_init_113 : decode b_Mod_init 113 = .ok (.putfield 46, 3) := by decide +kernel
theorem d_Mod_init_116 : decode b_Mod_init 116 = .ok (.aload_n 0, 1) := by decide +kernel
theorem d_Mod_init_117 : decode b_Mod_init 117 = .ok (.sipush 200, 3) := by decide +kernel
theorem d_Mod_init_120 : decode b_Mod_init 120 = .ok (.newarray .int, 2) := by decide +kernel
theorem d_Mod_init_122 : decode b_Mod_init 122 = .ok (.putfield 49, 3) := by decide +kernel
theorem d_Mod_init_125 : decode b_Mod_init 125 = .ok (.aload_n 0, 1) := by decide +kernel
theorem d_Mod_init_126 : decode b_Mod_init 126 = .ok (.iconst 1, 1) := by decide +kernel
theorem d_Mod_init_127 : decode b_Mod_init 127 = .ok (.putfield 52, 3) := by decide +kernel
theorem d_Mod_init_130 : decode b_Mod_init 130 = .ok (.aload_n 0, 1) := by decide +kernel
theorem d_Mod_init_131 : decode b_Mod_init 131 = .ok (.iconst 1, 1) := by decide +kernel
theorem d_Mod_init_132 : decode b_Mod_init 132 = .ok (.putfield 56, 3) := by decide +kernel
theorem d_Mod_init_135 : decode b_Mod_init 135 = .ok (.aload_n 0, 1) := by decide +kernel
theorem d_Mod_init_136 : decode b_Mod_init 136 = .ok (.sipush 201, 3) := by decide +kernel
theorem d_Mod_init_139 : decode b_Mod_init 139 = .ok (.newarray .int, 2) := by decide +kernel
theorem d_Mod_init_141 : decode b_Mod_init 141 = .ok (.putfield 59, 3) := by decide +kernel
theorem d_Mod_init_144 : decode b_Mod_init 144 = .ok (.return_, 1) := by decide +kernel
theorem d_Mod_four_0 : decode b_Mod_four 0 = .ok (.bipush 24, 2) := by decide +kernel
theorem d_Mod_four_2 : decode b_Mod_four 2 = .ok (.istore_n 2, 1) := by decide +kernel
theorem d_Mod_four_3 : decode b_Mod_four 3 = .ok (.iload_n 2, 1) := by decide +kernel
theorem d_Mod_four_4 : decode b_Mod_four 4 = .ok (.ifCond .lt 35, 3) := by decide +kernel
theorem d_Mod_four_7 : decode b_Mod_four 7 = .ok (.aload_n 0, 1) := by decide +kernel
theorem d_Mod_four_8 : decode b_Mod_four 8 = .ok (.getfield 7, 3) := by decide +kernel
theorem d_Mod_four_11 : decode b_Mod_four 11 = .ok (.aload_n 0, 1) := by decide +kernel
theorem d_Mod_four_12 : decode b_Mod_four 12 = .ok (.getfield 62, 3) := by decide +kernel
theorem d_Mod_four_15 : decode b_Mod_four 15 = .ok (.iload_n 1, 1) := by decide +kernel
theorem d_Mod_four_16 : decode b_Mod_four 16 = .ok (.iload_n 2, 1) := by decide +kernel
theorem d_Mod_four_17 : decode b_Mod_four 17 = .ok (.ishr, 1) := by decide +kernel
theorem d_Mod_four_18 : decode b_Mod_four 18 = .ok (.sipush 255, 3) := by decide +kernel
theorem d_Mod_four_21 : decode b_Mod_four 21 = .ok (.iand, 1) := by decide +kernel
theorem d_Mod_four_22 : decode b_Mod_four 22 = .ok (.iastore, 1) := by decide +kernel
theorem d_Mod_four_23 : decode b_Mod_four 23 = .ok (.aload_n 0, 1) := by decide +kernel
theorem d_Mod_four_24 : decode b_Mod_four 24 = .ok (.dup, 1) := by decide +kernel
theorem d_Mod_four_25 : decode b_Mod_four 25 = .ok (.getfield 62, 3) := by decide +kernel
theorem d_Mod_four_28 : decode b_Mod_four 28 = .ok (.iconst 1, 1) := by decide +kernel
theorem d_Mod_four_29 : decode b_Mod_four 29 = .ok (.iadd, 1) := by decide +kernel
theorem d_Mod_four_30 : decode b_Mod_four 30 = .ok (.putfield 62, 3) := by decide +kernel
theorem d_Mod_four_33 : decode b_Mod_four 33 = .ok (.iinc 2 (-8), 3) := by decide +kernel
theorem d_Mod_four_36 : decode b_Mod_four 36 = .ok (.goto (-33), 3) := by decide +kernel
theorem d_Mod_four_39 : decode b_Mod_four 39 = .ok (.return_, 1) := by decide +kernel
theorem d_Mod_feed_0 : decode b_Mod_feed 0 = .ok (.aload_n 0, 1) := by decide +kernel
theorem d_Mod_feed_1 : decode b_Mod_feed 1 = .ok (.getfield 62, 3) := by decide +kernel
theorem d_Mod_feed_4 : decode b_Mod_feed 4 = .ok (.bipush 20, 2) := by decide +kernel
theorem d_Mod_feed_6 : decode b_Mod_feed 6 = .ok (.iadd, 1) := by decide +kernel
theorem d_Mod_feed_7 : decode b_Mod_feed 7 = .ok (.sipush 600, 3) := by decide +kernel
theorem d_Mod_feed_10 : decode b_Mod_feed 10 = .ok (.if_icmp .le 6, 3) := by decide +kernel
theorem d_Mod_feed_13 : decode b_Mod_feed 13 = .ok (.bipush (-4), 2) := by decide +kernel
theorem d_Mod_feed_15 : decode b_Mod_feed 15 = .ok (.ireturn, 1) := by decide +kernel
theorem d_Mod_feed_16 : decode b_Mod_feed 16 = .ok (.aload_n 0, 1) := by decide +kernel
theorem d_Mod_feed_17 : decode b_Mod_feed 17 = .ok (.iload_n 1, 1) := by decide +kernel
theorem d_Mod_feed_18 : decode b_Mod_feed 18 = .ok (.invokevirtual 65, 3) := by decide +kernel
theorem d_Mod_feed_21 : decode b_Mod_feed 21 = .ok (.aload_n 0, 1) := by decide +kernel
theorem d_Mod_feed_22 : decode b_Mod_feed 22 = .ok (.iload_n 2, 1) := by decide +kernel
theorem d_Mod_feed_23 : decode b_Mod_feed 23 = .ok (.invokevirtual 65, 3) := by decide +kernel
theorem d_Mod_feed_26 : decode b_Mod_feed 26 = .ok (.aload_n 0, 1) := by decide +kernel
theorem d_Mod_feed_27 : decode b_Mod_feed 27 = .ok (.iload_n 3, 1) := by decide +kernel
theorem d_Mod_feed_28 : decode b_Mod_feed 28 = .ok (.invokevirtual 65, 3) := by decide +kernel
theorem d_Mod_feed_31 : decode b_Mod_feed 31 = .ok (.aload_n 0, 1) := by decide +kernel
theorem d_Mod_feed_32 : decode b_Mod_feed 32 = .ok (.iload 4, 2) := by decide +kernel
theorem d_Mod_feed_34 : decode b_Mod_feed 34 = .ok (.invokevirtual 65, 3) := by decide +kernel
theorem d_Mod_feed_37 : decode b_Mod_feed 37 = .ok (.aload_n 0, 1) := by decide +kernel
theorem d_Mod_feed_38 : decode b_Mod_feed 38 = .ok (.iload 5, 2) := by decide +kernel
theorem d_Mod_feed_40 : decode b_Mod_feed 40 = .ok (.invokevirtual 65, 3) := by decide +kernel
theorem d_Mod_feed_43 : decode b_Mod_feed 43 = .ok (.aload_n 0, 1) := by decide +kernel
theorem d_Mod_feed_44 : decode b_Mod_feed 44 = .ok (.getfield 62, 3) := by decide +kernel
theorem d_Mod_feed_47 : decode b_Mod_feed 47 = .ok (.ireturn, 1) := by decide +kernel
theorem d_Mod_end_0 : decode b_Mod_end 0 = .ok (.iload_n 1, 1) := by decide +kernel
theorem d_Mod_end_1 : decode b_Mod_end 1 = .ok (.ifCond .lt 11, 3) := by decide +kernel
theorem d_Mod_end_4 : decode b_Mod_end 4 = .ok (.iload_n 1, 1) := by decide +kernel
theorem d_Mod_end_5 : decode b_Mod_end 5 = .ok (.aload_n 0, 1) := by decide +kernel
theorem d_Mod_end_6 : decode b_Mod_end 6 = .ok (.getfield 62, 3) := by decide +kernel
theorem d_Mod_end_9 : decode b_Mod_end 9 = .ok (.if_icmp .le 5, 3) := by decide +kernel
theorem d_Mod_end_12 : decode b_Mod_end 12 = .ok (.iconst (-1), 1) := by decide +kernel
theorem d_Mod_end_13 : decode b_Mod_end 13 = .ok (.ireturn, 1) := by decide +kernel
theorem d_Mod_end_14 : decode b_Mod_end 14 = .ok (.aload_n 0, 1) := by decide +kernel
theorem d_Mod_end_15 : decode b_Mod_end 15 = .ok (.iload_n 1, 1) := by decide +kernel
theorem d_Mod_end_16 : decode b_Mod_end 16 = .ok (.putfield 62, 3) := by decide +kernel
theorem d_Mod_end_19 : decode b_Mod_end 19 = .ok (.iload_n 1, 1) := by decide +kernel
theorem d_Mod_end_20 : decode b_Mod_end 20 = .ok (.ireturn, 1) := by decide +kernel
theorem d_Mod_out_0 : decode b_Mod_out 0 = .ok (.iload_n 1, 1) := by decide +kernel
theorem d_Mod_out_1 : decode b_Mod_out 1 = .ok (.ifCond .lt 20, 3) := by decide +kernel
theorem d_Mod_out_4 : decode b_Mod_out 4 = .ok (.iload_n 1, 1) := by decide +kernel
theorem d_Mod_out_5 : decode b_Mod_out 5 = .ok (.aload_n 0, 1) := by decide +kernel
theorem d_Mod_out_6 : decode b_Mod_out 6 = .ok (.getfield 69, 3) := by decide +kernel
theorem d_Mod_out_9 : decode b_Mod_out 9 = .ok (.if_icmp .ge 12, 3) := by decide +kernel
theorem d_Mod_out_12 : decode b_Mod_out 12 = .ok (.aload_n 0, 1) := by decide +kernel
theorem d_Mod_out_13 : decode b_Mod_out 13 = .ok (.getfield 16, 3) := by decide +kernel
theorem d_Mod_out_16 : decode b_Mod_out 16 = .ok (.iload_n 1, 1) := by decide +kernel
theorem d_Mod_out_17 : decode b_Mod_out 17 = .ok (.iaload, 1) := by decide +kernel
theorem d_Mod_out_18 : decode b_Mod_out 18 = .ok (.goto 4, 3) := by decide +kernel
theorem d_Mod_out_21 : decode b_Mod_out 21 = .ok (.iconst (-1), 1) := by decide +kernel
theorem d_Mod_out_22 : decode b_Mod_out 22 = .ok (.ireturn, 1) := by decide +kernel
theorem d_Mod_take_0 : decode b_Mod_take 0 = .ok (.aload_n 0, 1) := by decide +kernel
theorem d_Mod_take_1 : decode b_Mod_take 1 = .ok (.aload_n 0, 1) := by decide +kernel
theorem d_Mod_take_2 : decode b_Mod_take 2 = .ok (.getfield 62, 3) := by decide +kernel
theorem d_Mod_take_5 : decode b_Mod_take 5 = .ok (.putfield 72, 3) := by decide +kernel
theorem d_Mod_take_8 : decode b_Mod_take 8 = .ok (.iconst 0, 1) := by decide +kernel
theorem d_Mod_take_9 : decode b_Mod_take 9 = .ok (.istore_n 1, 1) := by decide +kernel
theorem d_Mod_take_10 : decode b_Mod_take 10 = .ok (.iload_n 1, 1) := by decide +kernel
theorem d_Mod_take_11 : decode b_Mod_take 11 = .ok (.aload_n 0, 1) := by decide +kernel
theorem d_Mod_take_12 : decode b_Mod_take 12 = .ok (.getfield 72, 3) := by decide +kernel
theorem d_Mod_take_15 : decode b_Mod_take 15 = .ok (.if_icmp .ge 21, 3) := by decide +kernel
theorem d_Mod_take_18 : decode b_Mod_take 18 = .ok (.aload_n 0, 1) := by decide +kernel
theorem d_Mod_take_19 : decode b_Mod_take 19 = .ok (.getfield 13, 3) := by decide +kernel
theorem d_Mod_take_22 : decode b_Mod_take 22 = .ok (.iload_n 1, 1) := by decide +kernel
theorem d_Mod_take_23 : decode b_Mod_take 23 = .ok (.aload_n 0, 1) := by decide +kernel
theorem d_Mod_take_24 : decode b_Mod_take 24 = .ok (.getfield 7, 3) := by decide +kernel
theorem d_Mod_take_27 : decode b_Mod_take 27 = .ok (.iload_n 1, 1) := by decide +kernel
theorem d_Mod_take_28 : decode b_Mod_take 28 = .ok (.iaload, 1) := by decide +kernel
theorem d_Mod_take_29 : decode b_Mod_take 29 = .ok (.iastore, 1) := by decide +kernel
theorem d_Mod_take_30 : decode b_Mod_take 30 = .ok (.iinc 1 1, 3) := by decide +kernel
theorem d_Mod_take_33 : decode b_Mod_take 33 = .ok (.goto (-23), 3) := by decide +kernel
theorem d_Mod_take_36 : decode b_Mod_take 36 = .ok (.aload_n 0, 1) := by decide +kernel
theorem d_Mod_take_37 : decode b_Mod_take 37 = .ok (.iconst 0, 1) := by decide +kernel
theorem d_Mod_take_38 : decode b_Mod_take 38 = .ok (.putfield 62, 3) := by decide +kernel
theorem d_Mod_take_41 : decode b_Mod_take 41 = .ok (.aload_n 0, 1) := by decide +kernel
theorem d_Mod_take_42 : decode b_Mod_take 42 = .ok (.iconst (-1), 1) := by decide +kernel
theorem d_Mod_take_43 : decode b_Mod_take 43 = .ok (.putfield 75, 3) := by decide +kernel
theorem d_Mod_take_46 : decode b_Mod_take 46 = .ok (.aload_n 0, 1) := by decide +kernel
theorem d_Mod_take_47 : decode b_Mod_take 47 = .ok (.iconst 0, 1) := by decide +kernel
theorem d_Mod_take_48 : decode b_Mod_take 48 = .ok (.putfield 78, 3) := by decide +kernel
theorem d_Mod_take_51 : decode b_Mod_take 51 = .ok (.return_, 1) := by decide +kernel
theorem d_Mod_here_0 : decode b_Mod_here 0 = .ok (.aload_n 0, 1) := by decide +kernel
theorem d_Mod_here_1 : decode b_Mod_here 1 = .ok (.getfield 78, 3) := by decide +kernel
theorem d_Mod_here_4 : decode b_Mod_here 4 = .ok (.aload_n 0, 1) := by decide +kernel
theorem d_Mod_here_5 : decode b_Mod_here 5 = .ok (.getfield 72, 3) := by decide +kernel
theorem d_Mod_here_8 : decode b_Mod_here 8 = .ok (.if_icmp .ge 15, 3) := by decide +kernel
theorem d_Mod_here_11 : decode b_Mod_here 11 = .ok (.aload_n 0, 1) := by decide +kernel
theorem d_Mod_here_12 : decode b_Mod_here 12 = .ok (.getfield 13, 3) := by decide +kernel
theorem d_Mod_here_15 : decode b_Mod_here 15 = .ok (.aload_n 0, 1) := by decide +kernel
theorem d_Mod_here_16 : decode b_Mod_here 16 = .ok (.getfield 78, 3) := by decide +kernel
theorem d_Mod_here_19 : decode b_Mod_here 19 = .ok (.iaload, 1) := by decide +kernel
theorem d_Mod_here_20 : decode b_Mod_here 20 = .ok (.goto 4, 3) := by decide +kernel
theorem d_Mod_here_23 : decode b_Mod_here 23 = .ok (.iconst (-1), 1) := by decide +kernel
theorem d_Mod_here_24 : decode b_Mod_here 24 = .ok (.ireturn, 1) := by decide +kernel
theorem d_Mod_fail_0 : decode b_Mod_fail 0 = .ok (.aload_n 0, 1) := by decide +kernel
theorem d_Mod_fail_1 : decode b_Mod_fail 1 = .ok (.getfield 75, 3) := by decide +kernel
theorem d_Mod_fail_4 : decode b_Mod_fail 4 = .ok (.ifCond .ge 8, 3) := by decide +kernel
theorem d_Mod_fail_7 : decode b_Mod_fail 7 = .ok (.aload_n 0, 1) := by decide +kernel
theorem d_Mod_fail_8 : decode b_Mod_fail 8 = .ok (.iload_n 1, 1) := by decide +kernel
theorem d_Mod_fail_9 : decode b_Mod_fail 9 = .ok (.putfield 75, 3) := by decide +kernel
theorem d_Mod_fail_12 : decode b_Mod_fail 12 = .ok (.return_, 1) := by decide +kernel
theorem d_Mod_isDigit_0 : decode b_Mod_isDigit 0 = .ok (.iload_n 0, 1) := by decide +kernel
theorem d_Mod_isDigit_1 : decode b_Mod_isDigit 1 = .ok (.bipush 48, 2) := by decide +kernel
theorem d_Mod_isDigit_3 : decode b_Mod_isDigit 3 = .ok (.if_icmp .lt 13, 3) := by decide +kernel
theorem d_Mod_isDigit_6 : decode b_Mod_isDigit 6 = .ok (.iload_n 0, 1) := by decide +kernel
theorem d_Mod_isDigit_7 : decode b_Mod_isDigit 7 = .ok (.bipush 57, 2) := by decide +kernel
theorem d_Mod_isDigit_9 : decode b_Mod_isDigit 9 = .ok (.if_icmp .gt 7, 3) := by decide +kernel
theorem d_Mod_isDigit_12 : decode b_Mod_isDigit 12 = .ok (.iconst 1, 1) := by decide +kernel
theorem d_Mod_isDigit_13 : decode b_Mod_isDigit 13 = .ok (.goto 4, 3) := by decide +kernel
theorem d_Mod_isDigit_16 : decode b_Mod_isDigit 16 = .ok (.iconst 0, 1) := by decide +kernel
theorem d_Mod_isDigit_17 : decode b_Mod_isDigit 17 = .ok (.ireturn, 1) := by decide +kernel
theorem d_Mod_isSymbol_0 : decode b_Mod_isSymbol 0 = .ok (.iload_n 0, 1) := by decide +kernel
theorem d_Mod_isSymbol_1 : decode b_Mod_isSymbol 1 = .ok (.invokestatic 81, 3) := by decide +kernel
theorem d_Mod_isSymbol_4 : decode b_Mod_isSymbol 4 = .ok (.ifCond .ne 51, 3) := by decide +kernel
theorem d_Mod_isSymbol_7 : decode b_Mod_isSymbol 7 = .ok (.iload_n 0, 1) := by decide +kernel
theorem d_Mod_isSymbol_8 : decode b_Mod_isSymbol 8 = .ok (.bipush 65, 2) := by decide +kernel
theorem d_Mod_isSymbol_10 : decode b_Mod_isSymbol 10 = .ok (.if_icmp .lt 9, 3) := by decide +kernel
theorem d_Mod_isSymbol_13 : decode b_Mod_isSymbol 13 = .ok (.iload_n 0, 1) := by decide +kernel
theorem d_Mod_isSymbol_14 : decode b_Mod_isSymbol 14 = .ok (.bipush 90, 2) := by decide +kernel
theorem d_Mod_isSymbol_16 : decode b_Mod_isSymbol 16 = .ok (.if_icmp .le 39, 3) := by decide +kernel
theorem d_Mod_isSymbol_19 : decode b_Mod_isSymbol 19 = .ok (.iload_n 0, 1) := by decide +kernel
theorem d_Mod_isSymbol_20 : decode b_Mod_isSymbol 20 = .ok (.bipush 97, 2) := by decide +kernel
theorem d_Mod_isSymbol_22 : decode b_Mod_isSymbol 22 = .ok (.if_icmp .lt 9, 3) := by decide +kernel
theorem d_Mod_isSymbol_25 : decode b_Mod_isSymbol 25 = .ok (.iload_n 0, 1) := by decide +kernel
theorem d_Mod_isSymbol_26 : decode b_Mod_isSymbol 26 = .ok (.bipush 122, 2) := by decide +kernel
theorem d_Mod_isSymbol_28 : decode b_Mod_isSymbol 28 = .ok (.if_icmp .le 27, 3) := by decide +kernel
theorem d_Mod_isSymbol_31 : decode b_Mod_isSymbol 31 = .ok (.iload_n 0, 1) := by decide +kernel
theorem d_Mod_isSymbol_32 : decode b_Mod_isSymbol 32 = .ok (.bipush 46, 2) := by decide +kernel
theorem d_Mod_isSymbol_34 : decode b_Mod_isSymbol 34 = .ok (.if_icmp .eq 21, 3) := by decide +kernel
theorem d_Mod_isSymbol_37 : decode b_Mod_isSymbol 37 = .ok (.iload_n 0, 1) := by decide +kernel
theorem d_Mod_isSymbol_38 : decode b_Mod_isSymbol 38 = .ok (.bipush 33, 2) := by decide +kernel
theorem d_Mod_isSymbol_40 : decode b_Mod_isSymbol 40 = .ok (.if_icmp .eq 15, 3) := by decide +kernel
theorem d_Mod_isSymbol_43 : decode b_Mod_isSymbol 43 = .ok (.iload_n 0, 1) := by decide +kernel
theorem d_Mod_isSymbol_44 : decode b_Mod_isSymbol 44 = .ok (.bipush 63, 2) := by decide +kernel
theorem d_Mod_isSymbol_46 : decode b_Mod_isSymbol 46 = .ok (.if_icmp .eq 9, 3) := by decide +kernel
theorem d_Mod_isSymbol_49 : decode b_Mod_isSymbol 49 = .ok (.iload_n 0, 1) := by decide +kernel
theorem d_Mod_isSymbol_50 : decode b_Mod_isSymbol 50 = .ok (.bipush 95, 2) := by decide +kernel
theorem d_Mod_isSymbol_52 : decode b_Mod_isSymbol 52 = .ok (.if_icmp .ne 7, 3) := by decide +kernel
theorem d_Mod_isSymbol_55 : decode b_Mod_isSymbol 55 = .ok (.iconst 1, 1) := by decide +kernel
theorem d_Mod_isSymbol_56 : decode b_Mod_isSymbol 56 = .ok (.goto 4, 3) := by decide +kernel
theorem d_Mod_isSymbol_59 : decode b_Mod_isSymbol 59 = .ok (.iconst 0, 1) := by decide +kernel
theorem d_Mod_isSymbol_60 : decode b_Mod_isSymbol 60 = .ok (.ireturn, 1) := by decide +kernel
theorem d_Mod_capital_0 : decode b_Mod_capital 0 = .ok (.iload_n 0, 1) := by decide +kernel
theorem d_Mod_capital_1 : decode b_Mod_capital 1 = .ok (.bipush 97, 2) := by decide +kernel
theorem d_Mod_capital_3 : decode b_Mod_capital 3 = .ok (.if_icmp .lt 16, 3) := by decide +kernel
theorem d_Mod_capital_6 : decode b_Mod_capital 6 = .ok (.iload_n 0, 1) := by decide +kernel
theorem d_Mod_capital_7 : decode b_Mod_capital 7 = .ok (.bipush 122, 2) := by decide +kernel
theorem d_Mod_capital_9 : decode b_Mod_capital 9 = .ok (.if_icmp .gt 10, 3) := by decide +kernel
theorem d_Mod_capital_12 : decode b_Mod_capital 12 = .ok (.iload_n 0, 1) := by decide +kernel
theorem d_Mod_capital_13 : decode b_Mod_capital 13 = .ok (.bipush 32, 2) := by decide +kernel
theorem d_Mod_capital_15 : decode b_Mod_capital 15 = .ok (.isub, 1) := by decide +kernel
theorem d_Mod_capital_16 : decode b_Mod_capital 16 = .ok (.goto 4, 3) := by decide +kernel
theorem d_Mod_capital_19 : decode b_Mod_capital 19 = .ok (.iload_n 0, 1) := by decide +kernel
theorem d_Mod_capital_20 : decode b_Mod_capital 20 = .ok (.ireturn, 1) := by decide +kernel
theorem d_Mod_variable_0 : decode b_Mod_variable 0 = .ok (.aload_n 0, 1) := by decide +kernel
theorem d_Mod_variable_1 : decode b_Mod_variable 1 = .ok (.getfield 78, 3) := by decide +kernel
theorem d_Mod_variable_4 : decode b_Mod_variable 4 = .ok (.istore_n 1, 1) := by decide +kernel
theorem d_Mod_variable_5 : decode b_Mod_variable 5 = .ok (.aload_n 0, 1) := by decide +kernel
theorem d_Mod_variable_6 : decode b_Mod_variable 6 = .ok (.invokevirtual 85, 3) := by decide +kernel
theorem d_Mod_variable_9 : decode b_Mod_variable 9 = .ok (.invokestatic 89, 3) := by decide +kernel
theorem d_Mod_variable_12 : decode b_Mod_variable 12 = .ok (.ifCond .eq 22, 3) := by decide +kernel
theorem d_Mod_variable_15 : decode b_Mod_variable 15 = .ok (.aload_n 0, 1) := by decide +kernel
theorem d_Mod_variable_16 : decode b_Mod_variable 16 = .ok (.invokevirtual 85, 3) := by decide +kernel
theorem d_Mod_variable_19 : decode b_Mod_variable 19 = .ok (.invokestatic 81, 3) := by decide +kernel
theorem d_Mod_variable_22 : decode b_Mod_variable 22 = .ok (.ifCond .ne 12, 3) := by decide +kernel
theorem d_Mod_variable_25 : decode b_Mod_variable 25 = .ok (.aload_n 0, 1) := by decide +kernel
theorem d_Mod_variable_26 : decode b_Mod_variable 26 = .ok (.invokevirtual 85, 3) := by decide +kernel
theorem d_Mod_variable_29 : decode b_Mod_variable 29 = .ok (.bipush 46, 2) := by decide +kernel
theorem d_Mod_variable_31 : decode b_Mod_variable 31 = .ok (.if_icmp .ne 12, 3) := by decide +kernel
theorem d_Mod_variable_34 : decode b_Mod_variable 34 = .ok (.aload_n 0, 1) := by decide +kernel
theorem d_Mod_variable_35 : decode b_Mod_variable 35 = .ok (.aload_n 0, 1) := by decide +kernel
theorem d_Mod_variable_36 : decode b_Mod_variable 36 = .ok (.getfield 78, 3) := by decide +kernel
theorem d_Mod_variable_39 : decode b_Mod_variable 39 = .ok (.invokevirtual 92, 3) := by decide +kernel
theorem d_Mod_variable_42 : decode b_Mod_variable 42 = .ok (.return_, 1) := by decide +kernel
theorem d_Mod_variable_43 : decode b_Mod_variable 43 = .ok (.aload_n 0, 1) := by decide +kernel
theorem d_Mod_variable_44 : decode b_Mod_variable 44 = .ok (.invokevirtual 85, 3) := by decide +kernel
theorem d_Mod_variable_47 : decode b_Mod_variable 47 = .ok (.invokestatic 89, 3) := by decide +kernel
theorem d_Mod_variable_50 : decode b_Mod_variable 50 = .ok (.ifCond .eq 36, 3) := by decide +kernel
theorem d_Mod_variable_53 : decode b_Mod_variable 53 = .ok (.aload_n 0, 1) := by decide +kernel
theorem d_Mod_variable_54 : decode b_Mod_variable 54 = .ok (.getfield 78, 3) := by decide +kernel
theorem d_Mod_variable_57 : decode b_Mod_variable 57 = .ok (.iload_n 1, 1) := by decide +kernel
theorem d_Mod_variable_58 : decode b_Mod_variable 58 = .ok (.isub, 1) := by decide +kernel
theorem d_Mod_variable_59 : decode b_Mod_variable 59 = .ok (.bipush 30, 2) := by decide +kernel
theorem d_Mod_variable_61 : decode b_Mod_variable 61 = .ok (.if_icmp .ne 12, 3) := by decide +kernel
theorem d_Mod_variable_64 : decode b_Mod_variable 64 = .ok (.aload_n 0, 1) := by decide +kernel
theorem d_Mod_variable_65 : decode b_Mod_variable 65 = .ok (.aload_n 0, 1) := by decide +kernel
theorem d_Mod_variable_66 : decode b_Mod_variable 66 = .ok (.getfield 78, 3) := by decide +kernel
theorem d_Mod_variable_69 : decode b_Mod_variable 69 = .ok (.invokevirtual 92, 3) := by decide +kernel
theorem d_Mod_variable_72 : decode b_Mod_variable 72 = .ok (.return_, 1) := by decide +kernel
theorem d_Mod_variable_73 : decode b_Mod_variable 73 = .ok (.aload_n 0, 1) := by decide +kernel
theorem d_Mod_variable_74 : decode b_Mod_variable 74 = .ok (.dup, 1) := by decide +kernel
end
section
theorem d_Mod_variable_75 : decode b_Mod_variable 75 = .ok (.getfield 78, 3) := by decide +kernel
theorem d_Mod_variable_78 : decode b_Mod_variable 78 = .ok (.iconst 1, 1) := by decide +kernel
theorem d_Mod_variable_79 : decode b_Mod_variable 79 = .ok (.iadd, 1) := by decide +kernel
theorem d_Mod_variable_80 : decode b_Mod_variable 80 = .ok (.putfield 78, 3) := by decide +kernel
theorem d_Mod_variable_83 : decode b_Mod_variable 83 = .ok (.goto (-40), 3) := by decide +kernel
theorem d_Mod_variable_86 : decode b_Mod_variable 86 = .ok (.return_, 1) := by decide +kernel
theorem d_Mod_add_0 : decode b_Mod_add 0 = .ok (.aload_n 0, 1) := by decide +kernel
theorem d_Mod_add_1 : decode b_Mod_add 1 = .ok (.getfield 95, 3) := by decide +kernel
theorem d_Mod_add_4 : decode b_Mod_add 4 = .ok (.sipush 200, 3) := by decide +kernel
theorem d_Mod_add_7 : decode b_Mod_add 7 = .ok (.if_icmp .gt 13, 3) := by decide +kernel
theorem d_Mod_add_10 : decode b_Mod_add 10 = .ok (.aload_n 0, 1) := by decide +kernel
theorem d_Mod_add_11 : decode b_Mod_add 11 = .ok (.getfield 19, 3) := by decide +kernel
theorem d_Mod_add_14 : decode b_Mod_add 14 = .ok (.aload_n 0, 1) := by decide +kernel
theorem d_Mod_add_15 : decode b_Mod_add 15 = .ok (.getfield 95, 3) := by decide +kernel
theorem d_Mod_add_18 : decode b_Mod_add 18 = .ok (.iload_n 1, 1) := by decide +kernel
theorem d_Mod_add_19 : decode b_Mod_add 19 = .ok (.iastore, 1) := by decide +kernel
theorem d_Mod_add_20 : decode b_Mod_add 20 = .ok (.aload_n 0, 1) := by decide +kernel
theorem d_Mod_add_21 : decode b_Mod_add 21 = .ok (.dup, 1) := by decide +kernel
theorem d_Mod_add_22 : decode b_Mod_add 22 = .ok (.getfield 95, 3) := by decide +kernel
theorem d_Mod_add_25 : decode b_Mod_add 25 = .ok (.iconst 1, 1) := by decide +kernel
theorem d_Mod_add_26 : decode b_Mod_add 26 = .ok (.iadd, 1) := by decide +kernel
theorem d_Mod_add_27 : decode b_Mod_add 27 = .ok (.putfield 95, 3) := by decide +kernel
theorem d_Mod_add_30 : decode b_Mod_add 30 = .ok (.return_, 1) := by decide +kernel
theorem d_Mod_poolOf_0 : decode b_Mod_poolOf 0 = .ok (.iload_n 2, 1) := by decide +kernel
theorem d_Mod_poolOf_1 : decode b_Mod_poolOf 1 = .ok (.istore_n 3, 1) := by decide +kernel
theorem d_Mod_poolOf_2 : decode b_Mod_poolOf 2 = .ok (.iconst 1, 1) := by decide +kernel
theorem d_Mod_poolOf_3 : decode b_Mod_poolOf 3 = .ok (.istore 4, 2) := by decide +kernel
theorem d_Mod_poolOf_5 : decode b_Mod_poolOf 5 = .ok (.iload 4, 2) := by decide +kernel
theorem d_Mod_poolOf_7 : decode b_Mod_poolOf 7 = .ok (.ifCond .eq 117, 3) := by decide +kernel
theorem d_Mod_poolOf_10 : decode b_Mod_poolOf 10 = .ok (.iload_n 3, 1) := by decide +kernel
theorem d_Mod_poolOf_11 : decode b_Mod_poolOf 11 = .ok (.ifCond .le 113, 3) := by decide +kernel
theorem d_Mod_poolOf_14 : decode b_Mod_poolOf 14 = .ok (.iconst 0, 1) := by decide +kernel
theorem d_Mod_poolOf_15 : decode b_Mod_poolOf 15 = .ok (.istore 4, 2) := by decide +kernel
theorem d_Mod_poolOf_17 : decode b_Mod_poolOf 17 = .ok (.bipush 12, 2) := by decide +kernel
theorem d_Mod_poolOf_19 : decode b_Mod_poolOf 19 = .ok (.iload_n 3, 1) := by decide +kernel
theorem d_Mod_poolOf_20 : decode b_Mod_poolOf 20 = .ok (.imul, 1) := by decide +kernel
theorem d_Mod_poolOf_21 : decode b_Mod_poolOf 21 = .ok (.istore 5, 2) := by decide +kernel
theorem d_Mod_poolOf_23 : decode b_Mod_poolOf 23 = .ok (.iload 5, 2) := by decide +kernel
theorem d_Mod_poolOf_25 : decode b_Mod_poolOf 25 = .ok (.bipush 12, 2) := by decide +kernel
theorem d_Mod_poolOf_27 : decode b_Mod_poolOf 27 = .ok (.iload_n 3, 1) := by decide +kernel
theorem d_Mod_poolOf_28 : decode b_Mod_poolOf 28 = .ok (.imul, 1) := by decide +kernel
theorem d_Mod_poolOf_29 : decode b_Mod_poolOf 29 = .ok (.aload_n 0, 1) := by decide +kernel
theorem d_Mod_poolOf_30 : decode b_Mod_poolOf 30 = .ok (.getfield 43, 3) := by decide +kernel
theorem d_Mod_poolOf_33 : decode b_Mod_poolOf 33 = .ok (.iload_n 3, 1) := by decide +kernel
theorem d_Mod_poolOf_34 : decode b_Mod_poolOf 34 = .ok (.iaload, 1) := by decide +kernel
theorem d_Mod_poolOf_35 : decode b_Mod_poolOf 35 = .ok (.iadd, 1) := by decide +kernel
theorem d_Mod_poolOf_36 : decode b_Mod_poolOf 36 = .ok (.if_icmp .ge 72, 3) := by decide +kernel
theorem d_Mod_poolOf_39 : decode b_Mod_poolOf 39 = .ok (.iload 4, 2) := by decide +kernel
theorem d_Mod_poolOf_41 : decode b_Mod_poolOf 41 = .ok (.ifCond .ne 67, 3) := by decide +kernel
theorem d_Mod_poolOf_44 : decode b_Mod_poolOf 44 = .ok (.aload_n 0, 1) := by decide +kernel
theorem d_Mod_poolOf_45 : decode b_Mod_poolOf 45 = .ok (.iload 5, 2) := by decide +kernel
theorem d_Mod_poolOf_47 : decode b_Mod_poolOf 47 = .ok (.invokevirtual 98, 3) := by decide +kernel
theorem d_Mod_poolOf_50 : decode b_Mod_poolOf 50 = .ok (.istore 6, 2) := by decide +kernel
theorem d_Mod_poolOf_52 : decode b_Mod_poolOf 52 = .ok (.aload_n 0, 1) := by decide +kernel
theorem d_Mod_poolOf_53 : decode b_Mod_poolOf 53 = .ok (.getfield 40, 3) := by decide +kernel
theorem d_Mod_poolOf_56 : decode b_Mod_poolOf 56 = .ok (.iload 5, 2) := by decide +kernel
theorem d_Mod_poolOf_58 : decode b_Mod_poolOf 58 = .ok (.iaload, 1) := by decide +kernel
theorem d_Mod_poolOf_59 : decode b_Mod_poolOf 59 = .ok (.iload_n 1, 1) := by decide +kernel
theorem d_Mod_poolOf_60 : decode b_Mod_poolOf 60 = .ok (.if_icmp .eq 19, 3) := by decide +kernel
theorem d_Mod_poolOf_63 : decode b_Mod_poolOf 63 = .ok (.iload 6, 2) := by decide +kernel
theorem d_Mod_poolOf_65 : decode b_Mod_poolOf 65 = .ok (.ifCond .eq 34, 3) := by decide +kernel
theorem d_Mod_poolOf_68 : decode b_Mod_poolOf 68 = .ok (.aload_n 0, 1) := by decide +kernel
theorem d_Mod_poolOf_69 : decode b_Mod_poolOf 69 = .ok (.getfield 40, 3) := by decide +kernel
theorem d_Mod_poolOf_72 : decode b_Mod_poolOf 72 = .ok (.iload 5, 2) := by decide +kernel
theorem d_Mod_poolOf_74 : decode b_Mod_poolOf 74 = .ok (.iaload, 1) := by decide +kernel
theorem d_Mod_poolOf_75 : decode b_Mod_poolOf 75 = .ok (.iload_n 1, 1) := by decide +kernel
theorem d_Mod_poolOf_76 : decode b_Mod_poolOf 76 = .ok (.if_icmp .ge 23, 3) := by decide +kernel
theorem d_Mod_poolOf_79 : decode b_Mod_poolOf 79 = .ok (.aload_n 0, 1) := by decide +kernel
theorem d_Mod_poolOf_80 : decode b_Mod_poolOf 80 = .ok (.iload 5, 2) := by decide +kernel
theorem d_Mod_poolOf_82 : decode b_Mod_poolOf 82 = .ok (.aload_n 0, 1) := by decide +kernel
theorem d_Mod_poolOf_83 : decode b_Mod_poolOf 83 = .ok (.getfield 40, 3) := by decide +kernel
theorem d_Mod_poolOf_86 : decode b_Mod_poolOf 86 = .ok (.iload 5, 2) := by decide +kernel
theorem d_Mod_poolOf_88 : decode b_Mod_poolOf 88 = .ok (.iaload, 1) := by decide +kernel
theorem d_Mod_poolOf_89 : decode b_Mod_poolOf 89 = .ok (.invokevirtual 101, 3) := by decide +kernel
theorem d_Mod_poolOf_92 : decode b_Mod_poolOf 92 = .ok (.ifCond .eq 7, 3) := by decide +kernel
theorem d_Mod_poolOf_95 : decode b_Mod_poolOf 95 = .ok (.iconst 1, 1) := by decide +kernel
theorem d_Mod_poolOf_96 : decode b_Mod_poolOf 96 = .ok (.goto 4, 3) := by decide +kernel
theorem d_Mod_poolOf_99 : decode b_Mod_poolOf 99 = .ok (.iconst 0, 1) := by decide +kernel
theorem d_Mod_poolOf_100 : decode b_Mod_poolOf 100 = .ok (.istore 4, 2) := by decide +kernel
theorem d_Mod_poolOf_102 : decode b_Mod_poolOf 102 = .ok (.iinc 5 1, 3) := by decide +kernel
theorem d_Mod_poolOf_105 : decode b_Mod_poolOf 105 = .ok (.goto (-82), 3) := by decide +kernel
theorem d_Mod_poolOf_108 : decode b_Mod_poolOf 108 = .ok (.iload_n 3, 1) := by decide +kernel
theorem d_Mod_poolOf_109 : decode b_Mod_poolOf 109 = .ok (.iload 4, 2) := by decide +kernel
theorem d_Mod_poolOf_111 : decode b_Mod_poolOf 111 = .ok (.ifCond .eq 7, 3) := by decide +kernel
theorem d_Mod_poolOf_114 : decode b_Mod_poolOf 114 = .ok (.iconst 1, 1) := by decide +kernel
theorem d_Mod_poolOf_115 : decode b_Mod_poolOf 115 = .ok (.goto 4, 3) := by decide +kernel
theorem d_Mod_poolOf_118 : decode b_Mod_poolOf 118 = .ok (.iconst 0, 1) := by decide +kernel
theorem d_Mod_poolOf_119 : decode b_Mod_poolOf 119 = .ok (.isub, 1) := by decide +kernel
theorem d_Mod_poolOf_120 : decode b_Mod_poolOf 120 = .ok (.istore_n 3, 1) := by decide +kernel
theorem d_Mod_poolOf_121 : decode b_Mod_poolOf 121 = .ok (.goto (-116), 3) := by decide +kernel
theorem d_Mod_poolOf_124 : decode b_Mod_poolOf 124 = .ok (.iload_n 3, 1) := by decide +kernel
theorem d_Mod_poolOf_125 : decode b_Mod_poolOf 125 = .ok (.ireturn, 1) := by decide +kernel
theorem d_Mod_isAlike_0 : decode b_Mod_isAlike 0 = .ok (.iconst 0, 1) := by decide +kernel
theorem d_Mod_isAlike_1 : decode b_Mod_isAlike 1 = .ok (.istore_n 3, 1) := by decide +kernel
theorem d_Mod_isAlike_2 : decode b_Mod_isAlike 2 = .ok (.iload_n 3, 1) := by decide +kernel
theorem d_Mod_isAlike_3 : decode b_Mod_isAlike 3 = .ok (.iload_n 2, 1) := by decide +kernel
theorem d_Mod_isAlike_4 : decode b_Mod_isAlike 4 = .ok (.if_icmp .ge 32, 3) := by decide +kernel
theorem d_Mod_isAlike_7 : decode b_Mod_isAlike 7 = .ok (.aload_n 0, 1) := by decide +kernel
theorem d_Mod_isAlike_8 : decode b_Mod_isAlike 8 = .ok (.getfield 37, 3) := by decide +kernel
theorem d_Mod_isAlike_11 : decode b_Mod_isAlike 11 = .ok (.sipush 200, 3) := by decide +kernel
theorem d_Mod_isAlike_14 : decode b_Mod_isAlike 14 = .ok (.iload_n 1, 1) := by decide +kernel
theorem d_Mod_isAlike_15 : decode b_Mod_isAlike 15 = .ok (.imul, 1) := by decide +kernel
theorem d_Mod_isAlike_16 : decode b_Mod_isAlike 16 = .ok (.iload_n 3, 1) := by decide +kernel
theorem d_Mod_isAlike_17 : decode b_Mod_isAlike 17 = .ok (.iadd, 1) := by decide +kernel
theorem d_Mod_isAlike_18 : decode b_Mod_isAlike 18 = .ok (.iaload, 1) := by decide +kernel
theorem d_Mod_isAlike_19 : decode b_Mod_isAlike 19 = .ok (.aload_n 0, 1) := by decide +kernel
theorem d_Mod_isAlike_20 : decode b_Mod_isAlike 20 = .ok (.getfield 19, 3) := by decide +kernel
theorem d_Mod_isAlike_23 : decode b_Mod_isAlike 23 = .ok (.iload_n 3, 1) := by decide +kernel
theorem d_Mod_isAlike_24 : decode b_Mod_isAlike 24 = .ok (.iaload, 1) := by decide +kernel
theorem d_Mod_isAlike_25 : decode b_Mod_isAlike 25 = .ok (.if_icmp .eq 5, 3) := by decide +kernel
theorem d_Mod_isAlike_28 : decode b_Mod_isAlike 28 = .ok (.iconst 0, 1) := by decide +kernel
theorem d_Mod_isAlike_29 : decode b_Mod_isAlike 29 = .ok (.ireturn, 1) := by decide +kernel
theorem d_Mod_isAlike_30 : decode b_Mod_isAlike 30 = .ok (.iinc 3 1, 3) := by decide +kernel
theorem d_Mod_isAlike_33 : decode b_Mod_isAlike 33 = .ok (.goto (-31), 3) := by decide +kernel
theorem d_Mod_isAlike_36 : decode b_Mod_isAlike 36 = .ok (.iconst 1, 1) := by decide +kernel
theorem d_Mod_isAlike_37 : decode b_Mod_isAlike 37 = .ok (.ireturn, 1) := by decide +kernel
theorem d_Mod_isStem_0 : decode b_Mod_isStem 0 = .ok (.iconst 0, 1) := by decide +kernel
theorem d_Mod_isStem_1 : decode b_Mod_isStem 1 = .ok (.istore_n 2, 1) := by decide +kernel
theorem d_Mod_isStem_2 : decode b_Mod_isStem 2 = .ok (.iload_n 2, 1) := by decide +kernel
theorem d_Mod_isStem_3 : decode b_Mod_isStem 3 = .ok (.aload_n 0, 1) := by decide +kernel
theorem d_Mod_isStem_4 : decode b_Mod_isStem 4 = .ok (.getfield 40, 3) := by decide +kernel
theorem d_Mod_isStem_7 : decode b_Mod_isStem 7 = .ok (.iload_n 1, 1) := by decide +kernel
theorem d_Mod_isStem_8 : decode b_Mod_isStem 8 = .ok (.iaload, 1) := by decide +kernel
theorem d_Mod_isStem_9 : decode b_Mod_isStem 9 = .ok (.if_icmp .ge 26, 3) := by decide +kernel
theorem d_Mod_isStem_12 : decode b_Mod_isStem 12 = .ok (.aload_n 0, 1) := by decide +kernel
theorem d_Mod_isStem_13 : decode b_Mod_isStem 13 = .ok (.getfield 37, 3) := by decide +kernel
theorem d_Mod_isStem_16 : decode b_Mod_isStem 16 = .ok (.sipush 200, 3) := by decide +kernel
theorem d_Mod_isStem_19 : decode b_Mod_isStem 19 = .ok (.iload_n 1, 1) := by decide +kernel
theorem d_Mod_isStem_20 : decode b_Mod_isStem 20 = .ok (.imul, 1) := by decide +kernel
theorem d_Mod_isStem_21 : decode b_Mod_isStem 21 = .ok (.iload_n 2, 1) := by decide +kernel
theorem d_Mod_isStem_22 : decode b_Mod_isStem 22 = .ok (.iadd, 1) := by decide +kernel
theorem d_Mod_isStem_23 : decode b_Mod_isStem 23 = .ok (.iaload, 1) := by decide +kernel
theorem d_Mod_isStem_24 : decode b_Mod_isStem 24 = .ok (.bipush 46, 2) := by decide +kernel
theorem d_Mod_isStem_26 : decode b_Mod_isStem 26 = .ok (.if_icmp .eq 9, 3) := by decide +kernel
theorem d_Mod_isStem_29 : decode b_Mod_isStem 29 = .ok (.iinc 2 1, 3) := by decide +kernel
theorem d_Mod_isStem_32 : decode b_Mod_isStem 32 = .ok (.goto (-30), 3) := by decide +kernel
theorem d_Mod_isStem_35 : decode b_Mod_isStem 35 = .ok (.iload_n 2, 1) := by decide +kernel
theorem d_Mod_isStem_36 : decode b_Mod_isStem 36 = .ok (.aload_n 0, 1) := by decide +kernel
theorem d_Mod_isStem_37 : decode b_Mod_isStem 37 = .ok (.getfield 40, 3) := by decide +kernel
theorem d_Mod_isStem_40 : decode b_Mod_isStem 40 = .ok (.iload_n 1, 1) := by decide +kernel
theorem d_Mod_isStem_41 : decode b_Mod_isStem 41 = .ok (.iaload, 1) := by decide +kernel
theorem d_Mod_isStem_42 : decode b_Mod_isStem 42 = .ok (.iconst 1, 1) := by decide +kernel
theorem d_Mod_isStem_43 : decode b_Mod_isStem 43 = .ok (.isub, 1) := by decide +kernel
theorem d_Mod_isStem_44 : decode b_Mod_isStem 44 = .ok (.if_icmp .ne 7, 3) := by decide +kernel
theorem d_Mod_isStem_47 : decode b_Mod_isStem 47 = .ok (.iconst 1, 1) := by decide +kernel
theorem d_Mod_isStem_48 : decode b_Mod_isStem 48 = .ok (.goto 4, 3) := by decide +kernel
theorem d_Mod_isStem_51 : decode b_Mod_isStem 51 = .ok (.iconst 0, 1) := by decide +kernel
theorem d_Mod_isStem_52 : decode b_Mod_isStem 52 = .ok (.ireturn, 1) := by decide +kernel
theorem d_Mod_stem_0 : decode b_Mod_stem 0 = .ok (.iconst 0, 1) := by decide +kernel
theorem d_Mod_stem_1 : decode b_Mod_stem 1 = .ok (.istore_n 1, 1) := by decide +kernel
theorem d_Mod_stem_2 : decode b_Mod_stem 2 = .ok (.iload_n 1, 1) := by decide +kernel
theorem d_Mod_stem_3 : decode b_Mod_stem 3 = .ok (.aload_n 0, 1) := by decide +kernel
theorem d_Mod_stem_4 : decode b_Mod_stem 4 = .ok (.getfield 95, 3) := by decide +kernel
theorem d_Mod_stem_7 : decode b_Mod_stem 7 = .ok (.if_icmp .ge 20, 3) := by decide +kernel
theorem d_Mod_stem_10 : decode b_Mod_stem 10 = .ok (.aload_n 0, 1) := by decide +kernel
theorem d_Mod_stem_11 : decode b_Mod_stem 11 = .ok (.getfield 19, 3) := by decide +kernel
theorem d_Mod_stem_14 : decode b_Mod_stem 14 = .ok (.iload_n 1, 1) := by decide +kernel
theorem d_Mod_stem_15 : decode b_Mod_stem 15 = .ok (.iaload, 1) := by decide +kernel
theorem d_Mod_stem_16 : decode b_Mod_stem 16 = .ok (.bipush 46, 2) := by decide +kernel
theorem d_Mod_stem_18 : decode b_Mod_stem 18 = .ok (.if_icmp .eq 9, 3) := by decide +kernel
theorem d_Mod_stem_21 : decode b_Mod_stem 21 = .ok (.iinc 1 1, 3) := by decide +kernel
theorem d_Mod_stem_24 : decode b_Mod_stem 24 = .ok (.goto (-22), 3) := by decide +kernel
theorem d_Mod_stem_27 : decode b_Mod_stem 27 = .ok (.iload_n 1, 1) := by decide +kernel
theorem d_Mod_stem_28 : decode b_Mod_stem 28 = .ok (.aload_n 0, 1) := by decide +kernel
theorem d_Mod_stem_29 : decode b_Mod_stem 29 = .ok (.getfield 95, 3) := by decide +kernel
theorem d_Mod_stem_32 : decode b_Mod_stem 32 = .ok (.if_icmp .ge 9, 3) := by decide +kernel
theorem d_Mod_stem_35 : decode b_Mod_stem 35 = .ok (.iload_n 1, 1) := by decide +kernel
theorem d_Mod_stem_36 : decode b_Mod_stem 36 = .ok (.iconst 1, 1) := by decide +kernel
theorem d_Mod_stem_37 : decode b_Mod_stem 37 = .ok (.iadd, 1) := by decide +kernel
theorem d_Mod_stem_38 : decode b_Mod_stem 38 = .ok (.goto 4, 3) := by decide +kernel
theorem d_Mod_stem_41 : decode b_Mod_stem 41 = .ok (.iconst 0, 1) := by decide +kernel
theorem d_Mod_stem_42 : decode b_Mod_stem 42 = .ok (.ireturn, 1) := by decide +kernel
theorem d_Mod_entry_0 : decode b_Mod_entry 0 = .ok (.iconst 0, 1) := by decide +kernel
theorem d_Mod_entry_1 : decode b_Mod_entry 1 = .ok (.istore_n 3, 1) := by decide +kernel
theorem d_Mod_entry_2 : decode b_Mod_entry 2 = .ok (.iload_n 3, 1) := by decide +kernel
theorem d_Mod_entry_3 : decode b_Mod_entry 3 = .ok (.aload_n 0, 1) := by decide +kernel
theorem d_Mod_entry_4 : decode b_Mod_entry 4 = .ok (.getfield 105, 3) := by decide +kernel
theorem d_Mod_entry_7 : decode b_Mod_entry 7 = .ok (.if_icmp .ge 93, 3) := by decide +kernel
theorem d_Mod_entry_10 : decode b_Mod_entry 10 = .ok (.aload_n 0, 1) := by decide +kernel
theorem d_Mod_entry_11 : decode b_Mod_entry 11 = .ok (.getfield 34, 3) := by decide +kernel
theorem d_Mod_entry_14 : decode b_Mod_entry 14 = .ok (.iload_n 3, 1) := by decide +kernel
theorem d_Mod_entry_15 : decode b_Mod_entry 15 = .ok (.iaload, 1) := by decide +kernel
theorem d_Mod_entry_16 : decode b_Mod_entry 16 = .ok (.iload_n 1, 1) := by decide +kernel
theorem d_Mod_entry_17 : decode b_Mod_entry 17 = .ok (.if_icmp .ne 17, 3) := by decide +kernel
theorem d_Mod_entry_20 : decode b_Mod_entry 20 = .ok (.aload_n 0, 1) := by decide +kernel
theorem d_Mod_entry_21 : decode b_Mod_entry 21 = .ok (.getfield 25, 3) := by decide +kernel
theorem d_Mod_entry_24 : decode b_Mod_entry 24 = .ok (.iload_n 3, 1) := by decide +kernel
theorem d_Mod_entry_25 : decode b_Mod_entry 25 = .ok (.iaload, 1) := by decide +kernel
theorem d_Mod_entry_26 : decode b_Mod_entry 26 = .ok (.iload_n 2, 1) := by decide +kernel
theorem d_Mod_entry_27 : decode b_Mod_entry 27 = .ok (.if_icmp .ne 7, 3) := by decide +kernel
theorem d_Mod_entry_30 : decode b_Mod_entry 30 = .ok (.iconst 1, 1) := by decide +kernel
theorem d_Mod_entry_31 : decode b_Mod_entry 31 = .ok (.goto 4, 3) := by decide +kernel
theorem d_Mod_entry_34 : decode b_Mod_entry 34 = .ok (.iconst 0, 1) := by decide +kernel
theorem d_Mod_entry_35 : decode b_Mod_entry 35 = .ok (.istore 4, 2) := by decide +kernel
theorem d_Mod_entry_37 : decode b_Mod_entry 37 = .ok (.iconst 0, 1) := by decide +kernel
theorem d_Mod_entry_38 : decode b_Mod_entry 38 = .ok (.istore 5, 2) := by decide +kernel
theorem d_Mod_entry_40 : decode b_Mod_entry 40 = .ok (.iload 5, 2) := by decide +kernel
theorem d_Mod_entry_42 : decode b_Mod_entry 42 = .ok (.iload_n 2, 1) := by decide +kernel
theorem d_Mod_entry_43 : decode b_Mod_entry 43 = .ok (.if_icmp .ge 44, 3) := by decide +kernel
theorem d_Mod_entry_46 : decode b_Mod_entry 46 = .ok (.iload 4, 2) := by decide +kernel
theorem d_Mod_entry_48 : decode b_Mod_entry 48 = .ok (.ifCond .eq 39, 3) := by decide +kernel
theorem d_Mod_entry_51 : decode b_Mod_entry 51 = .ok (.aload_n 0, 1) := by decide +kernel
theorem d_Mod_entry_52 : decode b_Mod_entry 52 = .ok (.getfield 22, 3) := by decide +kernel
theorem d_Mod_entry_55 : decode b_Mod_entry 55 = .ok (.sipush 200, 3) := by decide +kernel
theorem d_Mod_entry_58 : decode b_Mod_entry 58 = .ok (.iload_n 3, 1) := by decide +kernel
theorem d_Mod_entry_59 : decode b_Mod_entry 59 = .ok (.imul, 1) := by decide +kernel
theorem d_Mod_entry_60 : decode b_Mod_entry 60 = .ok (.iload 5, 2) := by decide +kernel
theorem d_Mod_entry_62 : decode b_Mod_entry 62 = .ok (.iadd, 1) := by decide +kernel
theorem d_Mod_entry_63 : decode b_Mod_entry 63 = .ok (.iaload, 1) := by decide +kernel
theorem d_Mod_entry_64 : decode b_Mod_entry 64 = .ok (.aload_n 0, 1) := by decide +kernel
theorem d_Mod_entry_65 : decode b_Mod_entry 65 = .ok (.getfield 19, 3) := by decide +kernel
theorem d_Mod_entry_68 : decode b_Mod_entry 68 = .ok (.iload 5, 2) := by decide +kernel
theorem d_Mod_entry_70 : decode b_Mod_entry 70 = .ok (.iaload, 1) := by decide +kernel
theorem d_Mod_entry_71 : decode b_Mod_entry 71 = .ok (.if_icmp .ne 7, 3) := by decide +kernel
theorem d_Mod_entry_74 : decode b_Mod_entry 74 = .ok (.iconst 1, 1) := by decide +kernel
theorem d_Mod_entry_75 : decode b_Mod_entry 75 = .ok (.goto 4, 3) := by decide +kernel
theorem d_Mod_entry_78 : decode b_Mod_entry 78 = .ok (.iconst 0, 1) := by decide +kernel
theorem d_Mod_entry_79 : decode b_Mod_entry 79 = .ok (.istore 4, 2) := by decide +kernel
theorem d_Mod_entry_81 : decode b_Mod_entry 81 = .ok (.iinc 5 1, 3) := by decide +kernel
theorem d_Mod_entry_84 : decode b_Mod_entry 84 = .ok (.goto (-44), 3) := by decide +kernel
theorem d_Mod_entry_87 : decode b_Mod_entry 87 = .ok (.iload 4, 2) := by decide +kernel
theorem d_Mod_entry_89 : decode b_Mod_entry 89 = .ok (.ifCond .eq 5, 3) := by decide +kernel
theorem d_Mod_entry_92 : decode b_Mod_entry 92 = .ok (.iload_n 3, 1) := by decide +kernel
theorem d_Mod_entry_93 : decode b_Mod_entry 93 = .ok (.ireturn, 1) := by decide +kernel
theorem d_Mod_entry_94 : decode b_Mod_entry 94 = .ok (.iinc 3 1, 3) := by decide +kernel
theorem d_Mod_entry_97 : decode b_Mod_entry 97 = .ok (.goto (-95), 3) := by decide +kernel
theorem d_Mod_entry_100 : decode b_Mod_entry 100 = .ok (.iconst (-1), 1) := by decide +kernel
theorem d_Mod_entry_101 : decode b_Mod_entry 101 = .ok (.ireturn, 1) := by decide +kernel
theorem d_Mod_tells_0 : decode b_Mod_tells 0 = .ok (.aload_n 0, 1) := by decide +kernel
theorem d_Mod_tells_1 : decode b_Mod_tells 1 = .ok (.aload_n 0, 1) := by decide +kernel
theorem d_Mod_tells_2 : decode b_Mod_tells 2 = .ok (.getfield 95, 3) := by decide +kernel
theorem d_Mod_tells_5 : decode b_Mod_tells 5 = .ok (.aload_n 0, 1) := by decide +kernel
theorem d_Mod_tells_6 : decode b_Mod_tells 6 = .ok (.getfield 108, 3) := by decide +kernel
theorem d_Mod_tells_9 : decode b_Mod_tells 9 = .ok (.invokevirtual 111, 3) := by decide +kernel
theorem d_Mod_tells_12 : decode b_Mod_tells 12 = .ok (.istore_n 1, 1) := by decide +kernel
theorem d_Mod_tells_13 : decode b_Mod_tells 13 = .ok (.aload_n 0, 1) := by decide +kernel
theorem d_Mod_tells_14 : decode b_Mod_tells 14 = .ok (.iload_n 1, 1) := by decide +kernel
theorem d_Mod_tells_15 : decode b_Mod_tells 15 = .ok (.aload_n 0, 1) := by decide +kernel
theorem d_Mod_tells_16 : decode b_Mod_tells 16 = .ok (.getfield 95, 3) := by decide +kernel
theorem d_Mod_tells_19 : decode b_Mod_tells 19 = .ok (.invokevirtual 115, 3) := by decide +kernel
theorem d_Mod_tells_22 : decode b_Mod_tells 22 = .ok (.istore_n 2, 1) := by decide +kernel
theorem d_Mod_tells_23 : decode b_Mod_tells 23 = .ok (.iload_n 2, 1) := by decide +kernel
theorem d_Mod_tells_24 : decode b_Mod_tells 24 = .ok (.iconst (-1), 1) := by decide +kernel
theorem d_Mod_tells_25 : decode b_Mod_tells 25 = .ok (.if_icmp .eq 18, 3) := by decide +kernel
theorem d_Mod_tells_28 : decode b_Mod_tells 28 = .ok (.aload_n 0, 1) := by decide +kernel
theorem d_Mod_tells_29 : decode b_Mod_tells 29 = .ok (.getfield 31, 3) := by decide +kernel
theorem d_Mod_tells_32 : decode b_Mod_tells 32 = .ok (.iload_n 2, 1) := by decide +kernel
theorem d_Mod_tells_33 : decode b_Mod_tells 33 = .ok (.iaload, 1) := by decide +kernel
theorem d_Mod_tells_34 : decode b_Mod_tells 34 = .ok (.ifCond .ge 7, 3) := by decide +kernel
theorem d_Mod_tells_37 : decode b_Mod_tells 37 = .ok (.iconst (-1), 1) := by decide +kernel
theorem d_Mod_tells_38 : decode b_Mod_tells 38 = .ok (.goto 4, 3) := by decide +kernel
theorem d_Mod_tells_41 : decode b_Mod_tells 41 = .ok (.iload_n 2, 1) := by decide +kernel
theorem d_Mod_tells_42 : decode b_Mod_tells 42 = .ok (.ireturn, 1) := by decide +kernel
theorem d_Mod_tells_43 : decode b_Mod_tells 43 = .ok (.aload_n 0, 1) := by decide +kernel
theorem d_Mod_tells_44 : decode b_Mod_tells 44 = .ok (.invokevirtual 118, 3) := by decide +kernel
theorem d_Mod_tells_47 : decode b_Mod_tells 47 = .ok (.istore_n 3, 1) := by decide +kernel
theorem d_Mod_tells_48 : decode b_Mod_tells 48 = .ok (.iload_n 3, 1) := by decide +kernel
theorem d_Mod_tells_49 : decode b_Mod_tells 49 = .ok (.ifCond .eq 11, 3) := by decide +kernel
theorem d_Mod_tells_52 : decode b_Mod_tells 52 = .ok (.iload_n 3, 1) := by decide +kernel
theorem d_Mod_tells_53 : decode b_Mod_tells 53 = .ok (.aload_n 0, 1) := by decide +kernel
theorem d_Mod_tells_54 : decode b_Mod_tells 54 = .ok (.getfield 95, 3) := by decide +kernel
theorem d_Mod_tells_57 : decode b_Mod_tells 57 = .ok (.if_icmp .ne 5, 3) := by decide +kernel
theorem d_Mod_tells_60 : decode b_Mod_tells 60 = .ok (.iconst (-1), 1) := by decide +kernel
theorem d_Mod_tells_61 : decode b_Mod_tells 61 = .ok (.ireturn, 1) := by decide +kernel
theorem d_Mod_tells_62 : decode b_Mod_tells 62 = .ok (.aload_n 0, 1) := by decide +kernel
theorem d_Mod_tells_63 : decode b_Mod_tells 63 = .ok (.aload_n 0, 1) := by decide +kernel
theorem d_Mod_tells_64 : decode b_Mod_tells 64 = .ok (.iload_n 3, 1) := by decide +kernel
theorem d_Mod_tells_65 : decode b_Mod_tells 65 = .ok (.iload_n 1, 1) := by decide +kernel
theorem d_Mod_tells_66 : decode b_Mod_tells 66 = .ok (.invokevirtual 111, 3) := by decide +kernel
theorem d_Mod_tells_69 : decode b_Mod_tells 69 = .ok (.iload_n 3, 1) := by decide +kernel
theorem d_Mod_tells_70 : decode b_Mod_tells 70 = .ok (.invokevirtual 115, 3) := by decide +kernel
theorem d_Mod_tells_73 : decode b_Mod_tells 73 = .ok (.istore_n 2, 1) := by decide +kernel
theorem d_Mod_tells_74 : decode b_Mod_tells 74 = .ok (.iload_n 2, 1) := by decide +kernel
theorem d_Mod_tells_75 : decode b_Mod_tells 75 = .ok (.iconst (-1), 1) := by decide +kernel
theorem d_Mod_tells_76 : decode b_Mod_tells 76 = .ok (.if_icmp .eq 12, 3) := by decide +kernel
theorem d_Mod_tells_79 : decode b_Mod_tells 79 = .ok (.aload_n 0, 1) := by decide +kernel
theorem d_Mod_tells_80 : decode b_Mod_tells 80 = .ok (.getfield 31, 3) := by decide +kernel
theorem d_Mod_tells_83 : decode b_Mod_tells 83 = .ok (.iload_n 2, 1) := by decide +kernel
theorem d_Mod_tells_84 : decode b_Mod_tells 84 = .ok (.iaload, 1) := by decide +kernel
theorem d_Mod_tells_85 : decode b_Mod_tells 85 = .ok (.ifCond .ge 7, 3) := by decide +kernel
theorem d_Mod_tells_88 : decode b_Mod_tells 88 = .ok (.iconst (-1), 1) := by decide +kernel
theorem d_Mod_tells_89 : decode b_Mod_tells 89 = .ok (.goto 4, 3) := by decide +kernel
theorem d_Mod_tells_92 : decode b_Mod_tells 92 = .ok (.iload_n 2, 1) := by decide +kernel
theorem d_Mod_tells_93 : decode b_Mod_tells 93 = .ok (.ireturn, 1) := by decide +kernel
theorem d_Mod_told_0 : decode b_Mod_told 0 = .ok (.aload_n 0, 1) := by decide +kernel
theorem d_Mod_told_1 : decode b_Mod_told 1 = .ok (.iconst 0, 1) := by decide +kernel
theorem d_Mod_told_2 : decode b_Mod_told 2 = .ok (.putfield 95, 3) := by decide +kernel
theorem d_Mod_told_5 : decode b_Mod_told 5 = .ok (.iload_n 1, 1) := by decide +kernel
theorem d_Mod_told_6 : decode b_Mod_told 6 = .ok (.istore_n 3, 1) := by decide +kernel
theorem d_Mod_told_7 : decode b_Mod_told 7 = .ok (.iload_n 3, 1) := by decide +kernel
theorem d_Mod_told_8 : decode b_Mod_told 8 = .ok (.iload_n 2, 1) := by decide +kernel
theorem d_Mod_told_9 : decode b_Mod_told 9 = .ok (.if_icmp .ge 22, 3) := by decide +kernel
theorem d_Mod_told_12 : decode b_Mod_told 12 = .ok (.aload_n 0, 1) := by decide +kernel
theorem d_Mod_told_13 : decode b_Mod_told 13 = .ok (.aload_n 0, 1) := by decide +kernel
theorem d_Mod_told_14 : decode b_Mod_told 14 = .ok (.getfield 13, 3) := by decide +kernel
theorem d_Mod_told_17 : decode b_Mod_told 17 = .ok (.iload_n 3, 1) := by decide +kernel
theorem d_Mod_told_18 : decode b_Mod_told 18 = .ok (.iaload, 1) := by decide +kernel
theorem d_Mod_told_19 : decode b_Mod_told 19 = .ok (.invokestatic 121, 3) := by decide +kernel
theorem d_Mod_told_22 : decode b_Mod_told 22 = .ok (.invokevirtual 125, 3) := by decide +kernel
theorem d_Mod_told_25 : decode b_Mod_told 25 = .ok (.iinc 3 1, 3) := by decide +kernel
theorem d_Mod_told_28 : decode b_Mod_told 28 = .ok (.goto (-21), 3) := by decide +kernel
theorem d_Mod_told_31 : decode b_Mod_told 31 = .ok (.aload_n 0, 1) := by decide +kernel
theorem d_Mod_told_32 : decode b_Mod_told 32 = .ok (.invokevirtual 128, 3) := by decide +kernel
theorem d_Mod_told_35 : decode b_Mod_told 35 = .ok (.ireturn, 1) := by decide +kernel
theorem d_Mod_nameOf_0 : decode b_Mod_nameOf 0 = .ok (.iconst 0, 1) := by decide +kernel
theorem d_Mod_nameOf_1 : decode b_Mod_nameOf 1 = .ok (.istore_n 3, 1) := by decide +kernel
theorem d_Mod_nameOf_2 : decode b_Mod_nameOf 2 = .ok (.iload_n 1, 1) := by decide +kernel
theorem d_Mod_nameOf_3 : decode b_Mod_nameOf 3 = .ok (.istore 4, 2) := by decide +kernel
theorem d_Mod_nameOf_5 : decode b_Mod_nameOf 5 = .ok (.iload 4, 2) := by decide +kernel
theorem d_Mod_nameOf_7 : decode b_Mod_nameOf 7 = .ok (.iload_n 2, 1) := by decide +kernel
theorem d_Mod_nameOf_8 : decode b_Mod_nameOf 8 = .ok (.if_icmp .ge 21, 3) := by decide +kernel
theorem d_Mod_nameOf_11 : decode b_Mod_nameOf 11 = .ok (.aload_n 0, 1) := by decide +kernel
theorem d_Mod_nameOf_12 : decode b_Mod_nameOf 12 = .ok (.getfield 13, 3) := by decide +kernel
theorem d_Mod_nameOf_15 : decode b_Mod_nameOf 15 = .ok (.iload 4, 2) := by decide +kernel
theorem d_Mod_nameOf_17 : decode b_Mod_nameOf 17 = .ok (.iaload, 1) := by decide +kernel
theorem d_Mod_nameOf_18 : decode b_Mod_nameOf 18 = .ok (.bipush 46, 2) := by decide +kernel
theorem d_Mod_nameOf_20 : decode b_Mod_nameOf 20 = .ok (.if_icmp .eq 9, 3) := by decide +kernel
theorem d_Mod_nameOf_23 : decode b_Mod_nameOf 23 = .ok (.iinc 4 1, 3) := by decide +kernel
theorem d_Mod_nameOf_26 : decode b_Mod_nameOf 26 = .ok (.goto (-21), 3) := by decide +kernel
theorem d_Mod_nameOf_29 : decode b_Mod_nameOf 29 = .ok (.iload 4, 2) := by decide +kernel
theorem d_Mod_nameOf_31 : decode b_Mod_nameOf 31 = .ok (.iload 4, 2) := by decide +kernel
theorem d_Mod_nameOf_33 : decode b_Mod_nameOf 33 = .ok (.iload_n 2, 1) := by decide +kernel
theorem d_Mod_nameOf_34 : decode b_Mod_nameOf 34 = .ok (.if_icmp .ge 7, 3) := by decide +kernel
theorem d_Mod_nameOf_37 : decode b_Mod_nameOf 37 = .ok (.iconst 1, 1) := by decide +kernel
theorem d_Mod_nameOf_38 : decode b_Mod_nameOf 38 = .ok (.goto 4, 3) := by decide +kernel
theorem d_Mod_nameOf_41 : decode b_Mod_nameOf 41 = .ok (.iconst 0, 1) := by decide +kernel
theorem d_Mod_nameOf_42 : decode b_Mod_nameOf 42 = .ok (.iadd, 1) := by decide +kernel
theorem d_Mod_nameOf_43 : decode b_Mod_nameOf 43 = .ok (.istore 4, 2) := by decide +kernel
theorem d_Mod_nameOf_45 : decode b_Mod_nameOf 45 = .ok (.iload_n 1, 1) := by decide +kernel
theorem d_Mod_nameOf_46 : decode b_Mod_nameOf 46 = .ok (.istore 5, 2) := by decide +kernel
theorem d_Mod_nameOf_48 : decode b_Mod_nameOf 48 = .ok (.iload 5, 2) := by decide +kernel
theorem d_Mod_nameOf_50 : decode b_Mod_nameOf 50 = .ok (.iload 4, 2) := by decide +kernel
theorem d_Mod_nameOf_52 : decode b_Mod_nameOf 52 = .ok (.if_icmp .ge 28, 3) := by decide +kernel
theorem d_Mod_nameOf_55 : decode b_Mod_nameOf 55 = .ok (.aload_n 0, 1) := by decide +kernel
theorem d_Mod_nameOf_56 : decode b_Mod_nameOf 56 = .ok (.getfield 59, 3) := by decide +kernel
theorem d_Mod_nameOf_59 : decode b_Mod_nameOf 59 = .ok (.iload_n 3, 1) := by decide +kernel
theorem d_Mod_nameOf_60 : decode b_Mod_nameOf 60 = .ok (.aload_n 0, 1) := by decide +kernel
theorem d_Mod_nameOf_61 : decode b_Mod_nameOf 61 = .ok (.getfield 13, 3) := by decide +kernel
theorem d_Mod_nameOf_64 : decode b_Mod_nameOf 64 = .ok (.iload 5, 2) := by decide +kernel
theorem d_Mod_nameOf_66 : decode b_Mod_nameOf 66 = .ok (.iaload, 1) := by decide +kernel
theorem d_Mod_nameOf_67 : decode b_Mod_nameOf 67 = .ok (.invokestatic 121, 3) := by decide +kernel
theorem d_Mod_nameOf_70 : decode b_Mod_nameOf 70 = .ok (.iastore, 1) := by decide +kernel
theorem d_Mod_nameOf_71 : decode b_Mod_nameOf 71 = .ok (.iinc 3 1, 3) := by decide +kernel
theorem d_Mod_nameOf_74 : decode b_Mod_nameOf 74 = .ok (.iinc 5 1, 3) := by decide +kernel
theorem d_Mod_nameOf_77 : decode b_Mod_nameOf 77 = .ok (.goto (-29), 3) := by decide +kernel
theorem d_Mod_nameOf_80 : decode b_Mod_nameOf 80 = .ok (.iconst 1, 1) := by decide +kernel
theorem d_Mod_nameOf_81 : decode b_Mod_nameOf 81 = .ok (.istore 5, 2) := by decide +kernel
theorem d_Mod_nameOf_83 : decode b_Mod_nameOf 83 = .ok (.iload 4, 2) := by decide +kernel
theorem d_Mod_nameOf_85 : decode b_Mod_nameOf 85 = .ok (.iload_n 2, 1) := by decide +kernel
theorem d_Mod_nameOf_86 : decode b_Mod_nameOf 86 = .ok (.if_icmp .gt 234, 3) := by decide +kernel
theorem d_Mod_nameOf_89 : decode b_Mod_nameOf 89 = .ok (.iload 4, 2) := by decide +kernel
theorem d_Mod_nameOf_91 : decode b_Mod_nameOf 91 = .ok (.iload_n 1, 1) := by decide +kernel
theorem d_Mod_nameOf_92 : decode b_Mod_nameOf 92 = .ok (.if_icmp .le 228, 3) := by decide +kernel
theorem d_Mod_nameOf_95 : decode b_Mod_nameOf 95 = .ok (.aload_n 0, 1) := by decide +kernel
theorem d_Mod_nameOf_96 : decode b_Mod_nameOf 96 = .ok (.getfield 13, 3) := by decide +kernel
theorem d_Mod_nameOf_99 : decode b_Mod_nameOf 99 = .ok (.iload 4, 2) := by decide +kernel
theorem d_Mod_nameOf_101 : decode b_Mod_nameOf 101 = .ok (.iconst 1, 1) := by decide +kernel
theorem d_Mod_nameOf_102 : decode b_Mod_nameOf 102 = .ok (.isub, 1) := by decide +kernel
theorem d_Mod_nameOf_103 : decode b_Mod_nameOf 103 = .ok (.iaload, 1) := by decide +kernel
theorem d_Mod_nameOf_104 : decode b_Mod_nameOf 104 = .ok (.bipush 46, 2) := by decide +kernel
theorem d_Mod_nameOf_106 : decode b_Mod_nameOf 106 = .ok (.if_icmp .ne 214, 3) := by decide +kernel
theorem d_Mod_nameOf_109 : decode b_Mod_nameOf 109 = .ok (.iload 4, 2) := by decide +kernel
theorem d_Mod_nameOf_111 : decode b_Mod_nameOf 111 = .ok (.iload_n 2, 1) := by decide +kernel
theorem d_Mod_nameOf_112 : decode b_Mod_nameOf 112 = .ok (.if_icmp .lt 8, 3) := by decide +kernel
theorem d_Mod_nameOf_115 : decode b_Mod_nameOf 115 = .ok (.iload 5, 2) := by decide +kernel
theorem d_Mod_nameOf_117 : decode b_Mod_nameOf 117 = .ok (.ifCond .ne 203, 3) := by decide +kernel
theorem d_Mod_nameOf_120 : decode b_Mod_nameOf 120 = .ok (.iload 4, 2) := by decide +kernel
theorem d_Mod_nameOf_122 : decode b_Mod_nameOf 122 = .ok (.istore 6, 2) := by decide +kernel
theorem d_Mod_nameOf_124 : decode b_Mod_nameOf 124 = .ok (.iload 6, 2) := by decide +kernel
theorem d_Mod_nameOf_126 : decode b_Mod_nameOf 126 = .ok (.iload_n 2, 1) := by decide +kernel
theorem d_Mod_nameOf_127 : decode b_Mod_nameOf 127 = .ok (.if_icmp .ge 21, 3) := by decide +kernel
theorem d_Mod_nameOf_130 : decode b_Mod_nameOf 130 = .ok (.aload_n 0, 1) := by decide +kernel
theorem d_Mod_nameOf_131 : decode b_Mod_nameOf 131 = .ok (.getfield 13, 3) := by decide +kernel
theorem d_Mod_nameOf_134 : decode b_Mod_nameOf 134 = .ok (.iload 6, 2) := by decide +kernel
theorem d_Mod_nameOf_136 : decode b_Mod_nameOf 136 = .ok (.iaload, 1) := by decide +kernel
theorem d_Mod_nameOf_137 : decode b_Mod_nameOf 137 = .ok (.bipush 46, 2) := by decide +kernel
theorem d_Mod_nameOf_139 : decode b_Mod_nameOf 139 = .ok (.if_icmp .eq 9, 3) := by decide +kernel
theorem d_Mod_nameOf_142 : decode b_Mod_nameOf 142 = .ok (.iinc 6 1, 3) := by decide +kernel
theorem d_Mod_nameOf_145 : decode b_Mod_nameOf 145 = .ok (.goto (-21), 3) := by decide +kernel
theorem d_Mod_nameOf_148 : decode b_Mod_nameOf 148 = .ok (.iload 4, 2) := by decide +kernel
theorem d_Mod_nameOf_150 : decode b_Mod_nameOf 150 = .ok (.iload 6, 2) := by decide +kernel
theorem d_Mod_nameOf_152 : decode b_Mod_nameOf 152 = .ok (.if_icmp .ge 27, 3) := by decide +kernel
theorem d_Mod_nameOf_155 : decode b_Mod_nameOf 155 = .ok (.aload_n 0, 1) := by decide +kernel
theorem d_Mod_nameOf_156 : decode b_Mod_nameOf 156 = .ok (.getfield 13, 3) := by decide +kernel
theorem d_Mod_nameOf_159 : decode b_Mod_nameOf 159 = .ok (.iload 4, 2) := by decide +kernel
theorem d_Mod_nameOf_161 : decode b_Mod_nameOf 161 = .ok (.iaload, 1) := by decide +kernel
theorem d_Mod_nameOf_162 : decode b_Mod_nameOf 162 = .ok (.invokestatic 81, 3) := by decide +kernel
theorem d_Mod_nameOf_165 : decode b_Mod_nameOf 165 = .ok (.ifCond .ne 14, 3) := by decide +kernel
theorem d_Mod_nameOf_168 : decode b_Mod_nameOf 168 = .ok (.aload_n 0, 1) := by decide +kernel
theorem d_Mod_nameOf_169 : decode b_Mod_nameOf 169 = .ok (.iload 4, 2) := by decide +kernel
theorem d_Mod_nameOf_171 : decode b_Mod_nameOf 171 = .ok (.iload 6, 2) := by decide +kernel
theorem d_Mod_nameOf_173 : decode b_Mod_nameOf 173 = .ok (.invokevirtual 131, 3) := by decide +kernel
theorem d_Mod_nameOf_176 : decode b_Mod_nameOf 176 = .ok (.goto 4, 3) := by decide +kernel
theorem d_Mod_nameOf_179 : decode b_Mod_nameOf 179 = .ok (.iconst (-1), 1) := by decide +kernel
theorem d_Mod_nameOf_180 : decode b_Mod_nameOf 180 = .ok (.istore 7, 2) := by decide +kernel
theorem d_Mod_nameOf_182 : decode b_Mod_nameOf 182 = .ok (.iload 7, 2) := by decide +kernel
theorem d_Mod_nameOf_184 : decode b_Mod_nameOf 184 = .ok (.iconst (-1), 1) := by decide +kernel
theorem d_Mod_nameOf_185 : decode b_Mod_nameOf 185 = .ok (.if_icmp .ne 11, 3) := by decide +kernel
theorem d_Mod_nameOf_188 : decode b_Mod_nameOf 188 = .ok (.iload 6, 2) := by decide +kernel
theorem d_Mod_nameOf_190 : decode b_Mod_nameOf 190 = .ok (.iload 4, 2) := by decide +kernel
theorem d_Mod_nameOf_192 : decode b_Mod_nameOf 192 = .ok (.isub, 1) := by decide +kernel
theorem d_Mod_nameOf_193 : decode b_Mod_nameOf 193 = .ok (.goto 10, 3) := by decide +kernel
theorem d_Mod_nameOf_196 : decode b_Mod_nameOf 196 = .ok (.aload_n 0, 1) := by decide +kernel
theorem d_Mod_nameOf_197 : decode b_Mod_nameOf 197 = .ok (.getfield 31, 3) := by decide +kernel
theorem d_Mod_nameOf_200 : decode b_Mod_nameOf 200 = .ok (.iload 7, 2) := by decide +kernel
theorem d_Mod_nameOf_202 : decode b_Mod_nameOf 202 = .ok (.iaload, 1) := by decide +kernel
theorem d_Mod_nameOf_203 : decode b_Mod_nameOf 203 = .ok (.istore 8, 2) := by decide +kernel
theorem d_Mod_nameOf_205 : decode b_Mod_nameOf 205 = .ok (.iconst 0, 1) := by decide +kernel
theorem d_Mod_nameOf_206 : decode b_Mod_nameOf 206 = .ok (.istore 9, 2) := by decide +kernel
theorem d_Mod_nameOf_208 : decode b_Mod_nameOf 208 = .ok (.iload 9, 2) := by decide +kernel
theorem d_Mod_nameOf_210 : decode b_Mod_nameOf 210 = .ok (.iload 8, 2) := by decide +kernel
theorem d_Mod_nameOf_212 : decode b_Mod_nameOf 212 = .ok (.if_icmp .ge 61, 3) := by decide +kernel
theorem d_Mod_nameOf_215 : decode b_Mod_nameOf 215 = .ok (.iload_n 3, 1) := by decide +kernel
theorem d_Mod_nameOf_216 : decode b_Mod_nameOf 216 = .ok (.sipush 200, 3) := by decide +kernel
theorem d_Mod_nameOf_219 : decode b_Mod_nameOf 219 = .ok (.if_icmp .gt 54, 3) := by decide +kernel
theorem d_Mod_nameOf_222 : decode b_Mod_nameOf 222 = .ok (.aload_n 0, 1) := by decide +kernel
theorem d_Mod_nameOf_223 : decode b_Mod_nameOf 223 = .ok (.getfield 59, 3) := by decide +kernel
theorem d_Mod_nameOf_226 : decode b_Mod_nameOf 226 = .ok (.iload_n 3, 1) := by decide +kernel
theorem d_Mod_nameOf_227 : decode b_Mod_nameOf 227 = .ok (.iload 7, 2) := by decide +kernel
theorem d_Mod_nameOf_229 : decode b_Mod_nameOf 229 = .ok (.iconst (-1), 1) := by decide +kernel
theorem d_Mod_nameOf_230 : decode b_Mod_nameOf 230 = .ok (.if_icmp .ne 19, 3) := by decide +kernel
theorem d_Mod_nameOf_233 : decode b_Mod_nameOf 233 = .ok (.aload_n 0, 1) := by decide +kernel
theorem d_Mod_nameOf_234 : decode b_Mod_nameOf 234 = .ok (.getfield 13, 3) := by decide +kernel
theorem d_Mod_nameOf_237 : decode b_Mod_nameOf 237 = .ok (.iload 4, 2) := by decide +kernel
theorem d_Mod_nameOf_239 : decode b_Mod_nameOf 239 = .ok (.iload 9, 2) := by decide +kernel
theorem d_Mod_nameOf_241 : decode b_Mod_nameOf 241 = .ok (.iadd, 1) := by decide +kernel
theorem d_Mod_nameOf_242 : decode b_Mod_nameOf 242 = .ok (.iaload, 1) := by decide +kernel
theorem d_Mod_nameOf_243 : decode b_Mod_nameOf 243 = .ok (.invokestatic 121, 3) := by decide +kernel
theorem d_Mod_nameOf_246 : decode b_Mod_nameOf 246 = .ok (.goto 17, 3) := by decide +kernel
theorem d_Mod_nameOf_249 : decode b_Mod_nameOf 249 = .ok (.aload_n 0, 1) := by decide +kernel
theorem d_Mod_nameOf_250 : decode b_Mod_nameOf 250 = .ok (.getfield 28, 3) := by decide +kernel
theorem d_Mod_nameOf_253 : decode b_Mod_nameOf 253 = .ok (.sipush 200, 3) := by decide +kernel
theorem d_Mod_nameOf_256 : decode b_Mod_nameOf 256 = .ok (.iload 7, 2) := by decide +kernel
theorem d_Mod_nameOf_258 : decode b_Mod_nameOf 258 = .ok (.imul, 1) := by decide +kernel
theorem d_Mod_nameOf_259 : decode b_Mod_nameOf 259 = .ok (.iload 9, 2) := by decide +kernel
theorem d_Mod_nameOf_261 : decode b_Mod_nameOf 261 = .ok (.iadd, 1) := by decide +kernel
theorem d_Mod_nameOf_262 : decode b_Mod_nameOf 262 = .ok (.iaload, 1) := by decide +kernel
theorem d_Mod_nameOf_263 : decode b_Mod_nameOf 263 = .ok (.iastore, 1) := by decide +kernel
theorem d_Mod_nameOf_264 : decode b_Mod_nameOf 264 = .ok (.iinc 3 1, 3) := by decide +kernel
theorem d_Mod_nameOf_267 : decode b_Mod_nameOf 267 = .ok (.iinc 9 1, 3) := by decide +kernel
theorem d_Mod_nameOf_270 : decode b_Mod_nameOf 270 = .ok (.goto (-62), 3) := by decide +kernel
theorem d_Mod_nameOf_273 : decode b_Mod_nameOf 273 = .ok (.iconst 0, 1) := by decide +kernel
theorem d_Mod_nameOf_274 : decode b_Mod_nameOf 274 = .ok (.istore 5, 2) := by decide +kernel
theorem d_Mod_nameOf_276 : decode b_Mod_nameOf 276 = .ok (.iload 6, 2) := by decide +kernel
theorem d_Mod_nameOf_278 : decode b_Mod_nameOf 278 = .ok (.iload_n 2, 1) := by decide +kernel
theorem d_Mod_nameOf_279 : decode b_Mod_nameOf 279 = .ok (.if_icmp .ge 21, 3) := by decide +kernel
theorem d_Mod_nameOf_282 : decode b_Mod_nameOf 282 = .ok (.iload_n 3, 1) := by decide +kernel
theorem d_Mod_nameOf_283 : decode b_Mod_nameOf 283 = .ok (.sipush 200, 3) := by decide +kernel
theorem d_Mod_nameOf_286 : decode b_Mod_nameOf 286 = .ok (.if_icmp .gt 14, 3) := by decide +kernel
theorem d_Mod_nameOf_289 : decode b_Mod_nameOf 289 = .ok (.aload_n 0, 1) := by decide +kernel
theorem d_Mod_nameOf_290 : decode b_Mod_nameOf 290 = .ok (.getfield 59, 3) := by decide +kernel
theorem d_Mod_nameOf_293 : decode b_Mod_nameOf 293 = .ok (.iload_n 3, 1) := by decide +kernel
theorem d_Mod_nameOf_294 : decode b_Mod_nameOf 294 = .ok (.bipush 46, 2) := by decide +kernel
theorem d_Mod_nameOf_296 : decode b_Mod_nameOf 296 = .ok (.iastore, 1) := by decide +kernel
theorem d_Mod_nameOf_297 : decode b_Mod_nameOf 297 = .ok (.iinc 3 1, 3) := by decide +kernel
theorem d_Mod_nameOf_300 : decode b_Mod_nameOf 300 = .ok (.iload 6, 2) := by decide +kernel
theorem d_Mod_nameOf_302 : decode b_Mod_nameOf 302 = .ok (.iconst 1, 1) := by decide +kernel
theorem d_Mod_nameOf_303 : decode b_Mod_nameOf 303 = .ok (.iadd, 1) := by decide +kernel
theorem d_Mod_nameOf_304 : decode b_Mod_nameOf 304 = .ok (.istore 4, 2) := by decide +kernel
theorem d_Mod_nameOf_306 : decode b_Mod_nameOf 306 = .ok (.iload 6, 2) := by decide +kernel
theorem d_Mod_nameOf_308 : decode b_Mod_nameOf 308 = .ok (.iload_n 2, 1) := by decide +kernel
theorem d_Mod_nameOf_309 : decode b_Mod_nameOf 309 = .ok (.if_icmp .ne 8, 3) := by decide +kernel
theorem d_Mod_nameOf_312 : decode b_Mod_nameOf 312 = .ok (.iload_n 2, 1) := by decide +kernel
theorem d_Mod_nameOf_313 : decode b_Mod_nameOf 313 = .ok (.iconst 1, 1) := by decide +kernel
theorem d_Mod_nameOf_314 : decode b_Mod_nameOf 314 = .ok (.iadd, 1) := by decide +kernel
theorem d_Mod_nameOf_315 : decode b_Mod_nameOf 315 = .ok (.istore 4, 2) := by decide +kernel
theorem d_Mod_nameOf_317 : decode b_Mod_nameOf 317 = .ok (.goto (-234), 3) := by decide +kernel
theorem d_Mod_nameOf_320 : decode b_Mod_nameOf 320 = .ok (.aload_n 0, 1) := by decide +kernel
theorem d_Mod_nameOf_321 : decode b_Mod_nameOf 321 = .ok (.iload_n 3, 1) := by decide +kernel
theorem d_Mod_nameOf_322 : decode b_Mod_nameOf 322 = .ok (.putfield 95, 3) := by decide +kernel
theorem d_Mod_nameOf_325 : decode b_Mod_nameOf 325 = .ok (.iconst 0, 1) := by decide +kernel
theorem d_Mod_nameOf_326 : decode b_Mod_nameOf 326 = .ok (.istore 6, 2) := by decide +kernel
theorem d_Mod_nameOf_328 : decode b_Mod_nameOf 328 = .ok (.iload 6, 2) := by decide +kernel
theorem d_Mod_nameOf_330 : decode b_Mod_nameOf 330 = .ok (.iload_n 3, 1) := by decide +kernel
theorem d_Mod_nameOf_331 : decode b_Mod_nameOf 331 = .ok (.if_icmp .ge 31, 3) := by decide +kernel
theorem d_Mod_nameOf_334 : decode b_Mod_nameOf 334 = .ok (.iload 6, 2) := by decide +kernel
theorem d_Mod_nameOf_336 : decode b_Mod_nameOf 336 = .ok (.sipush 200, 3) := by decide +kernel
theorem d_Mod_nameOf_339 : decode b_Mod_nameOf 339 = .ok (.if_icmp .gt 23, 3) := by decide +kernel
theorem d_Mod_nameOf_342 : decode b_Mod_nameOf 342 = .ok (.aload_n 0, 1) := by decide +kernel
theorem d_Mod_nameOf_343 : decode b_Mod_nameOf 343 = .ok (.getfield 19, 3) := by decide +kernel
theorem d_Mod_nameOf_346 : decode b_Mod_nameOf 346 = .ok (.iload 6, 2) := by decide +kernel
theorem d_Mod_nameOf_348 : decode b_Mod_nameOf 348 = .ok (.aload_n 0, 1) := by decide +kernel
theorem d_Mod_nameOf_349 : decode b_Mod_nameOf 349 = .ok (.getfield 59, 3) := by decide +kernel
theorem d_Mod_nameOf_352 : decode b_Mod_nameOf 352 = .ok (.iload 6, 2) := by decide +kernel
theorem d_Mod_nameOf_354 : decode b_Mod_nameOf 354 = .ok (.iaload, 1) := by decide +kernel
theorem d_Mod_nameOf_355 : decode b_Mod_nameOf 355 = .ok (.iastore, 1) := by decide +kernel
theorem d_Mod_nameOf_356 : decode b_Mod_nameOf 356 = .ok (.iinc 6 1, 3) := by decide +kernel
theorem d_Mod_nameOf_359 : decode b_Mod_nameOf 359 = .ok (.goto (-31), 3) := by decide +kernel
theorem d_Mod_nameOf_362 : decode b_Mod_nameOf 362 = .ok (.iload_n 3, 1) := by decide +kernel
theorem d_Mod_nameOf_363 : decode b_Mod_nameOf 363 = .ok (.sipush 200, 3) := by decide +kernel
theorem d_Mod_nameOf_366 : decode b_Mod_nameOf 366 = .ok (.if_icmp .gt 7, 3) := by decide +kernel
theorem d_Mod_nameOf_369 : decode b_Mod_nameOf 369 = .ok (.iconst 1, 1) := by decide +kernel
theorem d_Mod_nameOf_370 : decode b_Mod_nameOf 370 = .ok (.goto 4, 3) := by decide +kernel
theorem d_Mod_nameOf_373 : decode b_Mod_nameOf 373 = .ok (.iconst 0, 1) := by decide +kernel
theorem d_Mod_nameOf_374 : decode b_Mod_nameOf 374 = .ok (.ireturn, 1) := by decide +kernel
theorem d_Mod_remove_0 : decode b_Mod_remove 0 = .ok (.iload_n 1, 1) := by decide +kernel
theorem d_Mod_remove_1 : decode b_Mod_remove 1 = .ok (.istore_n 2, 1) := by decide +kernel
theorem d_Mod_remove_2 : decode b_Mod_remove 2 = .ok (.iload_n 2, 1) := by decide +kernel
theorem d_Mod_remove_3 : decode b_Mod_remove 3 = .ok (.iconst 1, 1) := by decide +kernel
theorem d_Mod_remove_4 : decode b_Mod_remove 4 = .ok (.iadd, 1) := by decide +kernel
theorem d_Mod_remove_5 : decode b_Mod_remove 5 = .ok (.aload_n 0, 1) := by decide +kernel
theorem d_Mod_remove_6 : decode b_Mod_remove 6 = .ok (.getfield 105, 3) := by decide +kernel
theorem d_Mod_remove_9 : decode b_Mod_remove 9 = .ok (.if_icmp .ge 118, 3) := by decide +kernel
theorem d_Mod_remove_12 : decode b_Mod_remove 12 = .ok (.aload_n 0, 1) := by decide +kernel
theorem d_Mod_remove_13 : decode b_Mod_remove 13 = .ok (.getfield 34, 3) := by decide +kernel
theorem d_Mod_remove_16 : decode b_Mod_remove 16 = .ok (.iload_n 2, 1) := by decide +kernel
theorem d_Mod_remove_17 : decode b_Mod_remove 17 = .ok (.aload_n 0, 1) := by decide +kernel
theorem d_Mod_remove_18 : decode b_Mod_remove 18 = .ok (.getfield 34, 3) := by decide +kernel
theorem d_Mod_remove_21 : decode b_Mod_remove 21 = .ok (.iload_n 2, 1) := by decide +kernel
theorem d_Mod_remove_22 : decode b_Mod_remove 22 = .ok (.iconst 1, 1) := by decide +kernel
theorem d_Mod_remove_23 : decode b_Mod_remove 23 = .ok (.iadd, 1) := by decide +kernel
theorem d_Mod_remove_24 : decode b_Mod_remove 24 = .ok (.iaload, 1) := by decide +kernel
theorem d_Mod_remove_25 : decode b_Mod_remove 25 = .ok (.iastore, 1) := by decide +kernel
theorem d_Mod_remove_26 : decode b_Mod_remove 26 = .ok (.aload_n 0, 1) := by decide +kernel
theorem d_Mod_remove_27 : decode b_Mod_remove 27 = .ok (.getfield 25, 3) := by decide +kernel
theorem d_Mod_remove_30 : decode b_Mod_remove 30 = .ok (.iload_n 2, 1) := by decide +kernel
theorem d_Mod_remove_31 : decode b_Mod_remove 31 = .ok (.aload_n 0, 1) := by decide +kernel
theorem d_Mod_remove_32 : decode b_Mod_remove 32 = .ok (.getfield 25, 3) := by decide +kernel
theorem d_Mod_remove_35 : decode b_Mod_remove 35 = .ok (.iload_n 2, 1) := by decide +kernel
theorem d_Mod_remove_36 : decode b_Mod_remove 36 = .ok (.iconst 1, 1) := by decide +kernel
theorem d_Mod_remove_37 : decode b_Mod_remove 37 = .ok (.iadd, 1) := by decide +kernel
theorem d_Mod_remove_38 : decode b_Mod_remove 38 = .ok (.iaload, 1) := by decide +kernel
theorem d_Mod_remove_39 : decode b_Mod_remove 39 = .ok (.iastore, 1) := by decide +kernel
theorem d_Mod_remove_40 : decode b_Mod_remove 40 = .ok (.aload_n 0, 1) := by decide +kernel
theorem d_Mod_remove_41 : decode b_Mod_remove 41 = .ok (.getfield 31, 3) := by decide +kernel
theorem d_Mod_remove_44 : decode b_Mod_remove 44 = .ok (.iload_n 2, 1) := by decide +kernel
theorem d_Mod_remove_45 : decode b_Mod_remove 45 = .ok (.aload_n 0, 1) := by decide +kernel
theorem d_Mod_remove_46 : decode b_Mod_remove 46 = .ok (.getfield 31, 3) := by decide +kernel
theorem d_Mod_remove_49 : decode b_Mod_remove 49 = .ok (.iload_n 2, 1) := by decide +kernel
theorem d_Mod_remove_50 : decode b_Mod_remove 50 = .ok (.iconst 1, 1) := by decide +kernel
theorem d_Mod_remove_51 : decode b_Mod_remove 51 = .ok (.iadd, 1) := by decide +kernel
theorem d_Mod_remove_52 : decode b_Mod_remove 52 = .ok (.iaload, 1) := by decide +kernel
theorem d_Mod_remove_53 : decode b_Mod_remove 53 = .ok (.iastore, 1) := by decide +kernel
theorem d_Mod_remove_54 : decode b_Mod_remove 54 = .ok (.iconst 0, 1) := by decide +kernel
theorem d_Mod_remove_55 : decode b_Mod_remove 55 = .ok (.istore_n 3, 1) := by decide +kernel
theorem d_Mod_remove_56 : decode b_Mod_remove 56 = .ok (.iload_n 3, 1) := by decide +kernel
theorem d_Mod_remove_57 : decode b_Mod_remove 57 = .ok (.sipush 200, 3) := by decide +kernel
theorem d_Mod_remove_60 : decode b_Mod_remove 60 = .ok (.if_icmp .ge 61, 3) := by decide +kernel
theorem d_Mod_remove_63 : decode b_Mod_remove 63 = .ok (.aload_n 0, 1) := by decide +kernel
theorem d_Mod_remove_64 : decode b_Mod_remove 64 = .ok (.getfield 22, 3) := by decide +kernel
theorem d_Mod_remove_67 : decode b_Mod_remove 67 = .ok (.sipush 200, 3) := by decide +kernel
theorem d_Mod_remove_70 : decode b_Mod_remove 70 = .ok (.iload_n 2, 1) := by decide +kernel
theorem d_Mod_remove_71 : decode b_Mod_remove 71 = .ok (.imul, 1) := by decide +kernel
theorem d_Mod_remove_72 : decode b_Mod_remove 72 = .ok (.iload_n 3, 1) := by decide +kernel
theorem d_Mod_remove_73 : decode b_Mod_remove 73 = .ok (.iadd, 1) := by decide +kernel
theorem d_Mod_remove_74 : decode b_Mod_remove 74 = .ok (.aload_n 0, 1) := by decide +kernel
theorem d_Mod_remove_75 : decode b_Mod_remove 75 = .ok (.getfield 22, 3) := by decide +kernel
theorem d_Mod_remove_78 : decode b_Mod_remove 78 = .ok (.sipush 200, 3) := by decide +kernel
theorem d_Mod_remove_81 : decode b_Mod_remove 81 = .ok (.iload_n 2, 1) := by decide +kernel
theorem d_Mod_remove_82 : decode b_Mod_remove 82 = .ok (.iconst 1, 1) := by decide +kernel
theorem d_Mod_remove_83 : decode b_Mod_remove 83 = .ok (.iadd, 1) := by decide +kernel
theorem d_Mod_remove_84 : decode b_Mod_remove 84 = .ok (.imul, 1) := by decide +kernel
theorem d_Mod_remove_85 : decode b_Mod_remove 85 = .ok (.iload_n 3, 1) := by decide +kernel
theorem d_Mod_remove_86 : decode b_Mod_remove 86 = .ok (.iadd, 1) := by decide +kernel
theorem d_Mod_remove_87 : decode b_Mod_remove 87 = .ok (.iaload, 1) := by decide +kernel
theorem d_Mod_remove_88 : decode b_Mod_remove 88 = .ok (.iastore, 1) := by decide +kernel
theorem d_Mod_remove_89 : decode b_Mod_remove 89 = .ok (.aload_n 0, 1) := by decide +kernel
theorem d_Mod_remove_90 : decode b_Mod_remove 90 = .ok (.getfield 28, 3) := by decide +kernel
theorem d_Mod_remove_93 : decode b_Mod_remove 93 = .ok (.sipush 200, 3) := by decide +kernel
theorem d_Mod_remove_96 : decode b_Mod_remove 96 = .ok (.iload_n 2, 1) := by decide +kernel
theorem d_Mod_remove_97 : decode b_Mod_remove 97 = .ok (.imul, 1) := by decide +kernel
theorem d_Mod_remove_98 : decode b_Mod_remove 98 = .ok (.iload_n 3, 1) := by decide +kernel
theorem d_Mod_remove_99 : decode b_Mod_remove 99 = .ok (.iadd, 1) := by decide +kernel
theorem d_Mod_remove_100 : decode b_Mod_remove 100 = .ok (.aload_n 0, 1) := by decide +kernel
theorem d_Mod_remove_101 : decode b_Mod_remove 101 = .ok (.getfield 28, 3) := by decide +kernel
theorem d_Mod_remove_104 : decode b_Mod_remove 104 = .ok (.sipush 200, 3) := by decide +kernel
theorem d_Mod_remove_107 : decode b_Mod_remove 107 = .ok (.iload_n 2, 1) := by decide +kernel
theorem d_Mod_remove_108 : decode b_Mod_remove 108 = .ok (.iconst 1, 1) := by decide +kernel
theorem d_Mod_remove_109 : decode b_Mod_remove 109 = .ok (.iadd, 1) := by decide +kernel
theorem d_Mod_remove_110 : decode b_Mod_remove 110 = .ok (.imul, 1) := by decide +kernel
theorem d_Mod_remove_111 : decode b_Mod_remove 111 = .ok (.iload_n 3, 1) := by decide +kernel
theorem d_Mod_remove_112 : decode b_Mod_remove 112 = .ok (.iadd, 1) := by decide +kernel
theorem d_Mod_remove_113 : decode b_Mod_remove 113 = .ok (.iaload, 1) := by decide +kernel
theorem d_Mod_remove_114 : decode b_Mod_remove 114 = .ok (.iastore, 1) := by decide +kernel
theorem d_Mod_remove_115 : decode b_Mod_remove 115 = .ok (.iinc 3 1, 3) := by decide +kernel
theorem d_Mod_remove_118 : decode b_Mod_remove 118 = .ok (.goto (-62), 3) := by decide +kernel
theorem d_Mod_remove_121 : decode b_Mod_remove 121 = .ok (.iinc 2 1, 3) := by decide +kernel
theorem d_Mod_remove_124 : decode b_Mod_remove 124 = .ok (.goto (-122), 3) := by decide +kernel
theorem d_Mod_remove_127 : decode b_Mod_remove 127 = .ok (.aload_n 0, 1) := by decide +kernel
theorem d_Mod_remove_128 : decode b_Mod_remove 128 = .ok (.dup, 1) := by decide +kernel
theorem d_Mod_remove_129 : decode b_Mod_remove 129 = .ok (.getfield 105, 3) := by decide +kernel
theorem d_Mod_remove_132 : decode b_Mod_remove 132 = .ok (.iconst 1, 1) := by decide +kernel
theorem d_Mod_remove_133 : decode b_Mod_remove 133 = .ok (.isub, 1) := by decide +kernel
theorem d_Mod_remove_134 : decode b_Mod_remove 134 = .ok (.putfield 105, 3) := by decide +kernel
theorem d_Mod_remove_137 : decode b_Mod_remove 137 = .ok (.return_, 1) := by decide +kernel
theorem d_Mod_clear_0 : decode b_Mod_clear 0 = .ok (.aload_n 0, 1) := by decide +kernel
theorem d_Mod_clear_1 : decode b_Mod_clear 1 = .ok (.getfield 105, 3) := by decide +kernel
theorem d_Mod_clear_4 : decode b_Mod_clear 4 = .ok (.iconst 1, 1) := by decide +kernel
theorem d_Mod_clear_5 : decode b_Mod_clear 5 = .ok (.isub, 1) := by decide +kernel
theorem d_Mod_clear_6 : decode b_Mod_clear 6 = .ok (.istore_n 2, 1) := by decide +kernel
theorem d_Mod_clear_7 : decode b_Mod_clear 7 = .ok (.iload_n 2, 1) := by decide +kernel
theorem d_Mod_clear_8 : decode b_Mod_clear 8 = .ok (.ifCond .lt 98, 3) := by decide +kernel
theorem d_Mod_clear_11 : decode b_Mod_clear 11 = .ok (.aload_n 0, 1) := by decide +kernel
theorem d_Mod_clear_12 : decode b_Mod_clear 12 = .ok (.getfield 34, 3) := by decide +kernel
theorem d_Mod_clear_15 : decode b_Mod_clear 15 = .ok (.iload_n 2, 1) := by decide +kernel
theorem d_Mod_clear_16 : decode b_Mod_clear 16 = .ok (.iaload, 1) := by decide +kernel
theorem d_Mod_clear_17 : decode b_Mod_clear 17 = .ok (.iload_n 1, 1) := by decide +kernel
theorem d_Mod_clear_18 : decode b_Mod_clear 18 = .ok (.if_icmp .ne 20, 3) := by decide +kernel
theorem d_Mod_clear_21 : decode b_Mod_clear 21 = .ok (.aload_n 0, 1) := by decide +kernel
theorem d_Mod_clear_22 : decode b_Mod_clear 22 = .ok (.getfield 25, 3) := by decide +kernel
theorem d_Mod_clear_25 : decode b_Mod_clear 25 = .ok (.iload_n 2, 1) := by decide +kernel
theorem d_Mod_clear_26 : decode b_Mod_clear 26 = .ok (.iaload, 1) := by decide +kernel
theorem d_Mod_clear_27 : decode b_Mod_clear 27 = .ok (.aload_n 0, 1) := by decide +kernel
theorem d_Mod_clear_28 : decode b_Mod_clear 28 = .ok (.getfield 95, 3) := by decide +kernel
theorem d_Mod_clear_31 : decode b_Mod_clear 31 = .ok (.if_icmp .le 7, 3) := by decide +kernel
theorem d_Mod_clear_34 : decode b_Mod_clear 34 = .ok (.iconst 1, 1) := by decide +kernel
theorem d_Mod_clear_35 : decode b_Mod_clear 35 = .ok (.goto 4, 3) := by decide +kernel
theorem d_Mod_clear_38 : decode b_Mod_clear 38 = .ok (.iconst 0, 1) := by decide +kernel
theorem d_Mod_clear_39 : decode b_Mod_clear 39 = .ok (.istore_n 3, 1) := by decide +kernel
theorem d_Mod_clear_40 : decode b_Mod_clear 40 = .ok (.iconst 0, 1) := by decide +kernel
theorem d_Mod_clear_41 : decode b_Mod_clear 41 = .ok (.istore 4, 2) := by decide +kernel
theorem d_Mod_clear_43 : decode b_Mod_clear 43 = .ok (.iload 4, 2) := by decide +kernel
theorem d_Mod_clear_45 : decode b_Mod_clear 45 = .ok (.aload_n 0, 1) := by decide +kernel
theorem d_Mod_clear_46 : decode b_Mod_clear 46 = .ok (.getfield 95, 3) := by decide +kernel
theorem d_Mod_clear_49 : decode b_Mod_clear 49 = .ok (.if_icmp .ge 42, 3) := by decide +kernel
theorem d_Mod_clear_52 : decode b_Mod_clear 52 = .ok (.iload_n 3, 1) := by decide +kernel
theorem d_Mod_clear_53 : decode b_Mod_clear 53 = .ok (.ifCond .eq 38, 3) := by decide +kernel
theorem d_Mod_clear_56 : decode b_Mod_clear 56 = .ok (.aload_n 0, 1) := by decide +kernel
theorem d_Mod_clear_57 : decode b_Mod_clear 57 = .ok (.getfield 22, 3) := by decide +kernel
theorem d_Mod_clear_60 : decode b_Mod_clear 60 = .ok (.sipush 200, 3) := by decide +kernel
theorem d_Mod_clear_63 : decode b_Mod_clear 63 = .ok (.iload_n 2, 1) := by decide +kernel
theorem d_Mod_clear_64 : decode b_Mod_clear 64 = .ok (.imul, 1) := by decide +kernel
theorem d_Mod_clear_65 : decode b_Mod_clear 65 = .ok (.iload 4, 2) := by decide +kernel
theorem d_Mod_clear_67 : decode b_Mod_clear 67 = .ok (.iadd, 1) := by decide +kernel
theorem d_Mod_clear_68 : decode b_Mod_clear 68 = .ok (.iaload, 1) := by decide +kernel
theorem d_Mod_clear_69 : decode b_Mod_clear 69 = .ok (.aload_n 0, 1) := by decide +kernel
theorem d_Mod_clear_70 : decode b_Mod_clear 70 = .ok (.getfield 19, 3) := by decide +kernel
theorem d_Mod_clear_73 : decode b_Mod_clear 73 = .ok (.iload 4, 2) := by decide +kernel
theorem d_Mod_clear_75 : decode b_Mod_clear 75 = .ok (.iaload, 1) := by decide +kernel
theorem d_Mod_clear_76 : decode b_Mod_clear 76 = .ok (.if_icmp .ne 7, 3) := by decide +kernel
theorem d_Mod_clear_79 : decode b_Mod_clear 79 = .ok (.iconst 1, 1) := by decide +kernel
theorem d_Mod_clear_80 : decode b_Mod_clear 80 = .ok (.goto 4, 3) := by decide +kernel
theorem d_Mod_clear_83 : decode b_Mod_clear 83 = .ok (.iconst 0, 1) := by decide +kernel
theorem d_Mod_clear_84 : decode b_Mod_clear 84 = .ok (.istore_n 3, 1) := by decide +kernel
theorem d_Mod_clear_85 : decode b_Mod_clear 85 = .ok (.iinc 4 1, 3) := by decide +kernel
theorem d_Mod_clear_88 : decode b_Mod_clear 88 = .ok (.goto (-45), 3) := by decide +kernel
theorem d_Mod_clear_91 : decode b_Mod_clear 91 = .ok (.iload_n 3, 1) := by decide +kernel
theorem d_Mod_clear_92 : decode b_Mod_clear 92 = .ok (.ifCond .eq 8, 3) := by decide +kernel
theorem d_Mod_clear_95 : decode b_Mod_clear 95 = .ok (.aload_n 0, 1) := by decide +kernel
theorem d_Mod_clear_96 : decode b_Mod_clear 96 = .ok (.iload_n 2, 1) := by decide +kernel
theorem d_Mod_clear_97 : decode b_Mod_clear 97 = .ok (.invokevirtual 134, 3) := by decide +kernel
theorem d_Mod_clear_100 : decode b_Mod_clear 100 = .ok (.iinc 2 (-1), 3) := by decide +kernel
theorem d_Mod_clear_103 : decode b_Mod_clear 103 = .ok (.goto (-96), 3) := by decide +kernel
theorem d_Mod_clear_106 : decode b_Mod_clear 106 = .ok (.return_, 1) := by decide +kernel
theorem d_Mod_place_0 : decode b_Mod_place 0 = .ok (.aload_n 0, 1) := by decide +kernel
theorem d_Mod_place_1 : decode b_Mod_place 1 = .ok (.iload_n 1, 1) := by decide +kernel
theorem d_Mod_place_2 : decode b_Mod_place 2 = .ok (.aload_n 0, 1) := by decide +kernel
theorem d_Mod_place_3 : decode b_Mod_place 3 = .ok (.getfield 95, 3) := by decide +kernel
theorem d_Mod_place_6 : decode b_Mod_place 6 = .ok (.invokevirtual 115, 3) := by decide +kernel
theorem d_Mod_place_9 : decode b_Mod_place 9 = .ok (.istore_n 2, 1) := by decide +kernel
theorem d_Mod_place_10 : decode b_Mod_place 10 = .ok (.iload_n 2, 1) := by decide +kernel
theorem d_Mod_place_11 : decode b_Mod_place 11 = .ok (.iconst (-1), 1) := by decide +kernel
theorem d_Mod_place_12 : decode b_Mod_place 12 = .ok (.if_icmp .eq 5, 3) := by decide +kernel
theorem d_Mod_place_15 : decode b_Mod_place 15 = .ok (.iload_n 2, 1) := by decide +kernel
theorem d_Mod_place_16 : decode b_Mod_place 16 = .ok (.ireturn, 1) := by decide +kernel
theorem d_Mod_place_17 : decode b_Mod_place 17 = .ok (.aload_n 0, 1) := by decide +kernel
theorem d_Mod_place_18 : decode b_Mod_place 18 = .ok (.getfield 105, 3) := by decide +kernel
theorem d_Mod_place_21 : decode b_Mod_place 21 = .ok (.bipush 100, 2) := by decide +kernel
theorem d_Mod_place_23 : decode b_Mod_place 23 = .ok (.if_icmp .ne 5, 3) := by decide +kernel
theorem d_Mod_place_26 : decode b_Mod_place 26 = .ok (.iconst (-1), 1) := by decide +kernel
theorem d_Mod_place_27 : decode b_Mod_place 27 = .ok (.ireturn, 1) := by decide +kernel
theorem d_Mod_place_28 : decode b_Mod_place 28 = .ok (.aload_n 0, 1) := by decide +kernel
theorem d_Mod_place_29 : decode b_Mod_place 29 = .ok (.getfield 34, 3) := by decide +kernel
theorem d_Mod_place_32 : decode b_Mod_place 32 = .ok (.aload_n 0, 1) := by decide +kernel
theorem d_Mod_place_33 : decode b_Mod_place 33 = .ok (.getfield 105, 3) := by decide +kernel
theorem d_Mod_place_36 : decode b_Mod_place 36 = .ok (.iload_n 1, 1) := by decide +kernel
theorem d_Mod_place_37 : decode b_Mod_place 37 = .ok (.iastore, 1) := by decide +kernel
theorem d_Mod_place_38 : decode b_Mod_place 38 = .ok (.aload_n 0, 1) := by decide +kernel
theorem d_Mod_place_39 : decode b_Mod_place 39 = .ok (.getfield 25, 3) := by decide +kernel
theorem d_Mod_place_42 : decode b_Mod_place 42 = .ok (.aload_n 0, 1) := by decide +kernel
theorem d_Mod_place_43 : decode b_Mod_place 43 = .ok (.getfield 105, 3) := by decide +kernel
theorem d_Mod_place_46 : decode b_Mod_place 46 = .ok (.aload_n 0, 1) := by decide +kernel
theorem d_Mod_place_47 : decode b_Mod_place 47 = .ok (.getfield 95, 3) := by decide +kernel
theorem d_Mod_place_50 : decode b_Mod_place 50 = .ok (.iastore, 1) := by decide +kernel
theorem d_Mod_place_51 : decode b_Mod_place 51 = .ok (.iconst 0, 1) := by decide +kernel
theorem d_Mod_place_52 : decode b_Mod_place 52 = .ok (.istore_n 3, 1) := by decide +kernel
theorem d_Mod_place_53 : decode b_Mod_place 53 = .ok (.iload_n 3, 1) := by decide +kernel
theorem d_Mod_place_54 : decode b_Mod_place 54 = .ok (.aload_n 0, 1) := by decide +kernel
theorem d_Mod_place_55 : decode b_Mod_place 55 = .ok (.getfield 95, 3) := by decide +kernel
theorem d_Mod_place_58 : decode b_Mod_place 58 = .ok (.if_icmp .ge 30, 3) := by decide +kernel
theorem d_Mod_place_61 : decode b_Mod_place 61 = .ok (.aload_n 0, 1) := by decide +kernel
theorem d_Mod_place_62 : decode b_Mod_place 62 = .ok (.getfield 22, 3) := by decide +kernel
theorem d_Mod_place_65 : decode b_Mod_place 65 = .ok (.sipush 200, 3) := by decide +kernel
theorem d_Mod_place_68 : decode b_Mod_place 68 = .ok (.aload_n 0, 1) := by decide +kernel
theorem d_Mod_place_69 : decode b_Mod_place 69 = .ok (.getfield 105, 3) := by decide +kernel
theorem d_Mod_place_72 : decode b_Mod_place 72 = .ok (.imul, 1) := by decide +kernel
theorem d_Mod_place_73 : decode b_Mod_place 73 = .ok (.iload_n 3, 1) := by decide +kernel
theorem d_Mod_place_74 : decode b_Mod_place 74 = .ok (.iadd, 1) := by decide +kernel
theorem d_Mod_place_75 : decode b_Mod_place 75 = .ok (.aload_n 0, 1) := by decide +kernel
theorem d_Mod_place_76 : decode b_Mod_place 76 = .ok (.getfield 19, 3) := by decide +kernel
theorem d_Mod_place_79 : decode b_Mod_place 79 = .ok (.iload_n 3, 1) := by decide +kernel
theorem d_Mod_place_80 : decode b_Mod_place 80 = .ok (.iaload, 1) := by decide +kernel
theorem d_Mod_place_81 : decode b_Mod_place 81 = .ok (.iastore, 1) := by decide +kernel
theorem d_Mod_place_82 : decode b_Mod_place 82 = .ok (.iinc 3 1, 3) := by decide +kernel
theorem d_Mod_place_85 : decode b_Mod_place 85 = .ok (.goto (-32), 3) := by decide +kernel
theorem d_Mod_place_88 : decode b_Mod_place 88 = .ok (.aload_n 0, 1) := by decide +kernel
theorem d_Mod_place_89 : decode b_Mod_place 89 = .ok (.dup, 1) := by decide +kernel
theorem d_Mod_place_90 : decode b_Mod_place 90 = .ok (.getfield 105, 3) := by decide +kernel
theorem d_Mod_place_93 : decode b_Mod_place 93 = .ok (.iconst 1, 1) := by decide +kernel
theorem d_Mod_place_94 : decode b_Mod_place 94 = .ok (.iadd, 1) := by decide +kernel
theorem d_Mod_place_95 : decode b_Mod_place 95 = .ok (.putfield 105, 3) := by decide +kernel
theorem d_Mod_place_98 : decode b_Mod_place 98 = .ok (.aload_n 0, 1) := by decide +kernel
theorem d_Mod_place_99 : decode b_Mod_place 99 = .ok (.getfield 105, 3) := by decide +kernel
theorem d_Mod_place_102 : decode b_Mod_place 102 = .ok (.iconst 1, 1) := by decide +kernel
theorem d_Mod_place_103 : decode b_Mod_place 103 = .ok (.isub, 1) := by decide +kernel
theorem d_Mod_place_104 : decode b_Mod_place 104 = .ok (.ireturn, 1) := by decide +kernel
theorem d_Mod_assign_0 : decode b_Mod_assign 0 = .ok (.aload_n 0, 1) := by decide +kernel
theorem d_Mod_assign_1 : decode b_Mod_assign 1 = .ok (.aload_n 0, 1) := by decide +kernel
theorem d_Mod_assign_2 : decode b_Mod_assign 2 = .ok (.getfield 95, 3) := by decide +kernel
theorem d_Mod_assign_5 : decode b_Mod_assign 5 = .ok (.aload_n 0, 1) := by decide +kernel
theorem d_Mod_assign_6 : decode b_Mod_assign 6 = .ok (.getfield 108, 3) := by decide +kernel
theorem d_Mod_assign_9 : decode b_Mod_assign 9 = .ok (.invokevirtual 111, 3) := by decide +kernel
theorem d_Mod_assign_12 : decode b_Mod_assign 12 = .ok (.istore 4, 2) := by decide +kernel
theorem d_Mod_assign_14 : decode b_Mod_assign 14 = .ok (.aload_n 0, 1) := by decide +kernel
theorem d_Mod_assign_15 : decode b_Mod_assign 15 = .ok (.invokevirtual 118, 3) := by decide +kernel
theorem d_Mod_assign_18 : decode b_Mod_assign 18 = .ok (.aload_n 0, 1) := by decide +kernel
theorem d_Mod_assign_19 : decode b_Mod_assign 19 = .ok (.getfield 95, 3) := by decide +kernel
theorem d_Mod_assign_22 : decode b_Mod_assign 22 = .ok (.if_icmp .ne 9, 3) := by decide +kernel
theorem d_Mod_assign_25 : decode b_Mod_assign 25 = .ok (.aload_n 0, 1) := by decide +kernel
theorem d_Mod_assign_26 : decode b_Mod_assign 26 = .ok (.iload 4, 2) := by decide +kernel
theorem d_Mod_assign_28 : decode b_Mod_assign 28 = .ok (.invokevirtual 137, 3) := by decide +kernel
theorem d_Mod_assign_31 : decode b_Mod_assign 31 = .ok (.aload_n 0, 1) := by decide +kernel
theorem d_Mod_assign_32 : decode b_Mod_assign 32 = .ok (.iload 4, 2) := by decide +kernel
theorem d_Mod_assign_34 : decode b_Mod_assign 34 = .ok (.invokevirtual 140, 3) := by decide +kernel
theorem d_Mod_assign_37 : decode b_Mod_assign 37 = .ok (.istore 5, 2) := by decide +kernel
theorem d_Mod_assign_39 : decode b_Mod_assign 39 = .ok (.iload 5, 2) := by decide +kernel
theorem d_Mod_assign_41 : decode b_Mod_assign 41 = .ok (.iconst (-1), 1) := by decide +kernel
theorem d_Mod_assign_42 : decode b_Mod_assign 42 = .ok (.if_icmp .ne 5, 3) := by decide +kernel
theorem d_Mod_assign_45 : decode b_Mod_assign 45 = .ok (.iconst 0, 1) := by decide +kernel
theorem d_Mod_assign_46 : decode b_Mod_assign 46 = .ok (.ireturn, 1) := by decide +kernel
theorem d_Mod_assign_47 : decode b_Mod_assign 47 = .ok (.aload_n 0, 1) := by decide +kernel
theorem d_Mod_assign_48 : decode b_Mod_assign 48 = .ok (.getfield 31, 3) := by decide +kernel
theorem d_Mod_assign_51 : decode b_Mod_assign 51 = .ok (.iload 5, 2) := by decide +kernel
theorem d_Mod_assign_53 : decode b_Mod_assign 53 = .ok (.iload_n 3, 1) := by decide +kernel
theorem d_Mod_assign_54 : decode b_Mod_assign 54 = .ok (.iload_n 2, 1) := by decide +kernel
theorem d_Mod_assign_55 : decode b_Mod_assign 55 = .ok (.isub, 1) := by decide +kernel
theorem d_Mod_assign_56 : decode b_Mod_assign 56 = .ok (.iastore, 1) := by decide +kernel
theorem d_Mod_assign_57 : decode b_Mod_assign 57 = .ok (.iload_n 2, 1) := by decide +kernel
theorem d_Mod_assign_58 : decode b_Mod_assign 58 = .ok (.istore 6, 2) := by decide +kernel
theorem d_Mod_assign_60 : decode b_Mod_assign 60 = .ok (.iload 6, 2) := by decide +kernel
theorem d_Mod_assign_62 : decode b_Mod_assign 62 = .ok (.iload_n 3, 1) := by decide +kernel
theorem d_Mod_assign_63 : decode b_Mod_assign 63 = .ok (.if_icmp .ge 46, 3) := by decide +kernel
theorem d_Mod_assign_66 : decode b_Mod_assign 66 = .ok (.aload_n 0, 1) := by decide +kernel
theorem d_Mod_assign_67 : decode b_Mod_assign 67 = .ok (.getfield 28, 3) := by decide +kernel
theorem d_Mod_assign_70 : decode b_Mod_assign 70 = .ok (.sipush 200, 3) := by decide +kernel
theorem d_Mod_assign_73 : decode b_Mod_assign 73 = .ok (.iload 5, 2) := by decide +kernel
theorem d_Mod_assign_75 : decode b_Mod_assign 75 = .ok (.imul, 1) := by decide +kernel
theorem d_Mod_assign_76 : decode b_Mod_assign 76 = .ok (.iload 6, 2) := by decide +kernel
theorem d_Mod_assign_78 : decode b_Mod_assign 78 = .ok (.iadd, 1) := by decide +kernel
theorem d_Mod_assign_79 : decode b_Mod_assign 79 = .ok (.iload_n 2, 1) := by decide +kernel
theorem d_Mod_assign_80 : decode b_Mod_assign 80 = .ok (.isub, 1) := by decide +kernel
theorem d_Mod_assign_81 : decode b_Mod_assign 81 = .ok (.iload_n 1, 1) := by decide +kernel
theorem d_Mod_assign_82 : decode b_Mod_assign 82 = .ok (.ifCond .eq 13, 3) := by decide +kernel
theorem d_Mod_assign_85 : decode b_Mod_assign 85 = .ok (.aload_n 0, 1) := by decide +kernel
theorem d_Mod_assign_86 : decode b_Mod_assign 86 = .ok (.getfield 46, 3) := by decide +kernel
theorem d_Mod_assign_89 : decode b_Mod_assign 89 = .ok (.iload 6, 2) := by decide +kernel
theorem d_Mod_assign_91 : decode b_Mod_assign 91 = .ok (.iaload, 1) := by decide +kernel
theorem d_Mod_assign_92 : decode b_Mod_assign 92 = .ok (.goto 10, 3) := by decide +kernel
theorem d_Mod_assign_95 : decode b_Mod_assign 95 = .ok (.aload_n 0, 1) := by decide +kernel
theorem d_Mod_assign_96 : decode b_Mod_assign 96 = .ok (.getfield 13, 3) := by decide +kernel
theorem d_Mod_assign_99 : decode b_Mod_assign 99 = .ok (.iload 6, 2) := by decide +kernel
theorem d_Mod_assign_101 : decode b_Mod_assign 101 = .ok (.iaload, 1) := by decide +kernel
theorem d_Mod_assign_102 : decode b_Mod_assign 102 = .ok (.iastore, 1) := by decide +kernel
theorem d_Mod_assign_103 : decode b_Mod_assign 103 = .ok (.iinc 6 1, 3) := by decide +kernel
theorem d_Mod_assign_106 : decode b_Mod_assign 106 = .ok (.goto (-46), 3) := by decide +kernel
theorem d_Mod_assign_109 : decode b_Mod_assign 109 = .ok (.iconst 1, 1) := by decide +kernel
theorem d_Mod_assign_110 : decode b_Mod_assign 110 = .ok (.ireturn, 1) := by decide +kernel
theorem d_Mod_lose_0 : decode b_Mod_lose 0 = .ok (.aload_n 0, 1) := by decide +kernel
theorem d_Mod_lose_1 : decode b_Mod_lose 1 = .ok (.aload_n 0, 1) := by decide +kernel
theorem d_Mod_lose_2 : decode b_Mod_lose 2 = .ok (.getfield 95, 3) := by decide +kernel
theorem d_Mod_lose_5 : decode b_Mod_lose 5 = .ok (.aload_n 0, 1) := by decide +kernel
theorem d_Mod_lose_6 : decode b_Mod_lose 6 = .ok (.getfield 108, 3) := by decide +kernel
theorem d_Mod_lose_9 : decode b_Mod_lose 9 = .ok (.invokevirtual 111, 3) := by decide +kernel
theorem d_Mod_lose_12 : decode b_Mod_lose 12 = .ok (.istore_n 1, 1) := by decide +kernel
theorem d_Mod_lose_13 : decode b_Mod_lose 13 = .ok (.aload_n 0, 1) := by decide +kernel
theorem d_Mod_lose_14 : decode b_Mod_lose 14 = .ok (.invokevirtual 118, 3) := by decide +kernel
theorem d_Mod_lose_17 : decode b_Mod_lose 17 = .ok (.istore_n 2, 1) := by decide +kernel
theorem d_Mod_lose_18 : decode b_Mod_lose 18 = .ok (.iload_n 2, 1) := by decide +kernel
theorem d_Mod_lose_19 : decode b_Mod_lose 19 = .ok (.aload_n 0, 1) := by decide +kernel
theorem d_Mod_lose_20 : decode b_Mod_lose 20 = .ok (.getfield 95, 3) := by decide +kernel
theorem d_Mod_lose_23 : decode b_Mod_lose 23 = .ok (.if_icmp .ne 8, 3) := by decide +kernel
theorem d_Mod_lose_26 : decode b_Mod_lose 26 = .ok (.aload_n 0, 1) := by decide +kernel
theorem d_Mod_lose_27 : decode b_Mod_lose 27 = .ok (.iload_n 1, 1) := by decide +kernel
theorem d_Mod_lose_28 : decode b_Mod_lose 28 = .ok (.invokevirtual 137, 3) := by decide +kernel
theorem d_Mod_lose_31 : decode b_Mod_lose 31 = .ok (.iconst 0, 1) := by decide +kernel
theorem d_Mod_lose_32 : decode b_Mod_lose 32 = .ok (.istore_n 3, 1) := by decide +kernel
theorem d_Mod_lose_33 : decode b_Mod_lose 33 = .ok (.iload_n 2, 1) := by decide +kernel
theorem d_Mod_lose_34 : decode b_Mod_lose 34 = .ok (.ifCond .le 41, 3) := by decide +kernel
theorem d_Mod_lose_37 : decode b_Mod_lose 37 = .ok (.iload_n 2, 1) := by decide +kernel
theorem d_Mod_lose_38 : decode b_Mod_lose 38 = .ok (.aload_n 0, 1) := by decide +kernel
theorem d_Mod_lose_39 : decode b_Mod_lose 39 = .ok (.getfield 95, 3) := by decide +kernel
theorem d_Mod_lose_42 : decode b_Mod_lose 42 = .ok (.if_icmp .ge 33, 3) := by decide +kernel
theorem d_Mod_lose_45 : decode b_Mod_lose 45 = .ok (.aload_n 0, 1) := by decide +kernel
theorem d_Mod_lose_46 : decode b_Mod_lose 46 = .ok (.iload_n 1, 1) := by decide +kernel
theorem d_Mod_lose_47 : decode b_Mod_lose 47 = .ok (.iload_n 2, 1) := by decide +kernel
theorem d_Mod_lose_48 : decode b_Mod_lose 48 = .ok (.invokevirtual 115, 3) := by decide +kernel
theorem d_Mod_lose_51 : decode b_Mod_lose 51 = .ok (.istore 4, 2) := by decide +kernel
theorem d_Mod_lose_53 : decode b_Mod_lose 53 = .ok (.iload 4, 2) := by decide +kernel
theorem d_Mod_lose_55 : decode b_Mod_lose 55 = .ok (.iconst (-1), 1) := by decide +kernel
theorem d_Mod_lose_56 : decode b_Mod_lose 56 = .ok (.if_icmp .eq 17, 3) := by decide +kernel
theorem d_Mod_lose_59 : decode b_Mod_lose 59 = .ok (.aload_n 0, 1) := by decide +kernel
theorem d_Mod_lose_60 : decode b_Mod_lose 60 = .ok (.getfield 31, 3) := by decide +kernel
theorem d_Mod_lose_63 : decode b_Mod_lose 63 = .ok (.iload 4, 2) := by decide +kernel
theorem d_Mod_lose_65 : decode b_Mod_lose 65 = .ok (.iaload, 1) := by decide +kernel
theorem d_Mod_lose_66 : decode b_Mod_lose 66 = .ok (.ifCond .lt 7, 3) := by decide +kernel
theorem d_Mod_lose_69 : decode b_Mod_lose 69 = .ok (.iconst 1, 1) := by decide +kernel
theorem d_Mod_lose_70 : decode b_Mod_lose 70 = .ok (.goto 4, 3) := by decide +kernel
theorem d_Mod_lose_73 : decode b_Mod_lose 73 = .ok (.iconst 0, 1) := by decide +kernel
theorem d_Mod_lose_74 : decode b_Mod_lose 74 = .ok (.istore_n 3, 1) := by decide +kernel
theorem d_Mod_lose_75 : decode b_Mod_lose 75 = .ok (.iload_n 3, 1) := by decide +kernel
theorem d_Mod_lose_76 : decode b_Mod_lose 76 = .ok (.ifCond .eq 28, 3) := by decide +kernel
theorem d_Mod_lose_79 : decode b_Mod_lose 79 = .ok (.aload_n 0, 1) := by decide +kernel
theorem d_Mod_lose_80 : decode b_Mod_lose 80 = .ok (.iload_n 1, 1) := by decide +kernel
theorem d_Mod_lose_81 : decode b_Mod_lose 81 = .ok (.invokevirtual 140, 3) := by decide +kernel
theorem d_Mod_lose_84 : decode b_Mod_lose 84 = .ok (.istore 4, 2) := by decide +kernel
theorem d_Mod_lose_86 : decode b_Mod_lose 86 = .ok (.iload 4, 2) := by decide +kernel
theorem d_Mod_lose_88 : decode b_Mod_lose 88 = .ok (.iconst (-1), 1) := by decide +kernel
theorem d_Mod_lose_89 : decode b_Mod_lose 89 = .ok (.if_icmp .ne 5, 3) := by decide +kernel
theorem d_Mod_lose_92 : decode b_Mod_lose 92 = .ok (.iconst 0, 1) := by decide +kernel
theorem d_Mod_lose_93 : decode b_Mod_lose 93 = .ok (.ireturn, 1) := by decide +kernel
theorem d_Mod_lose_94 : decode b_Mod_lose 94 = .ok (.aload_n 0, 1) := by decide +kernel
theorem d_Mod_lose_95 : decode b_Mod_lose 95 = .ok (.getfield 31, 3) := by decide +kernel
theorem d_Mod_lose_98 : decode b_Mod_lose 98 = .ok (.iload 4, 2) := by decide +kernel
theorem d_Mod_lose_100 : decode b_Mod_lose 100 = .ok (.iconst (-1), 1) := by decide +kernel
theorem d_Mod_lose_101 : decode b_Mod_lose 101 = .ok (.iastore, 1) := by decide +kernel
theorem d_Mod_lose_102 : decode b_Mod_lose 102 = .ok (.iconst 1, 1) := by decide +kernel
theorem d_Mod_lose_103 : decode b_Mod_lose 103 = .ok (.ireturn, 1) := by decide +kernel
theorem d_Mod_lose_104 : decode b_Mod_lose 104 = .ok (.aload_n 0, 1) := by decide +kernel
theorem d_Mod_lose_105 : decode b_Mod_lose 105 = .ok (.iload_n 1, 1) := by decide +kernel
theorem d_Mod_lose_106 : decode b_Mod_lose 106 = .ok (.aload_n 0, 1) := by decide +kernel
theorem d_Mod_lose_107 : decode b_Mod_lose 107 = .ok (.getfield 95, 3) := by decide +kernel
theorem d_Mod_lose_110 : decode b_Mod_lose 110 = .ok (.invokevirtual 115, 3) := by decide +kernel
theorem d_Mod_lose_113 : decode b_Mod_lose 113 = .ok (.istore 4, 2) := by decide +kernel
theorem d_Mod_lose_115 : decode b_Mod_lose 115 = .ok (.iload 4, 2) := by decide +kernel
theorem d_Mod_lose_117 : decode b_Mod_lose 117 = .ok (.iconst (-1), 1) := by decide +kernel
theorem d_Mod_lose_118 : decode b_Mod_lose 118 = .ok (.if_icmp .eq 9, 3) := by decide +kernel
theorem d_Mod_lose_121 : decode b_Mod_lose 121 = .ok (.aload_n 0, 1) := by decide +kernel
theorem d_Mod_lose_122 : decode b_Mod_lose 122 = .ok (.iload 4, 2) := by decide +kernel
theorem d_Mod_lose_124 : decode b_Mod_lose 124 = .ok (.invokevirtual 134, 3) := by decide +kernel
theorem d_Mod_lose_127 : decode b_Mod_lose 127 = .ok (.iconst 1, 1) := by decide +kernel
theorem d_Mod_lose_128 : decode b_Mod_lose 128 = .ok (.ireturn, 1) := by decide +kernel
theorem d_Mod_set_0 : decode b_Mod_set 0 = .ok (.aload_n 0, 1) := by decide +kernel
theorem d_Mod_set_1 : decode b_Mod_set 1 = .ok (.invokevirtual 143, 3) := by decide +kernel
theorem d_Mod_set_4 : decode b_Mod_set 4 = .ok (.aload_n 0, 1) := by decide +kernel
theorem d_Mod_set_5 : decode b_Mod_set 5 = .ok (.invokevirtual 146, 3) := by decide +kernel
theorem d_Mod_set_8 : decode b_Mod_set 8 = .ok (.aload_n 0, 1) := by decide +kernel
theorem d_Mod_set_9 : decode b_Mod_set 9 = .ok (.getfield 78, 3) := by decide +kernel
theorem d_Mod_set_12 : decode b_Mod_set 12 = .ok (.istore_n 1, 1) := by decide +kernel
theorem d_Mod_set_13 : decode b_Mod_set 13 = .ok (.aload_n 0, 1) := by decide +kernel
theorem d_Mod_set_14 : decode b_Mod_set 14 = .ok (.getfield 75, 3) := by decide +kernel
theorem d_Mod_set_17 : decode b_Mod_set 17 = .ok (.ifCond .ge 20, 3) := by decide +kernel
theorem d_Mod_set_20 : decode b_Mod_set 20 = .ok (.aload_n 0, 1) := by decide +kernel
theorem d_Mod_set_21 : decode b_Mod_set 21 = .ok (.invokevirtual 85, 3) := by decide +kernel
theorem d_Mod_set_24 : decode b_Mod_set 24 = .ok (.bipush 61, 2) := by decide +kernel
theorem d_Mod_set_26 : decode b_Mod_set 26 = .ok (.if_icmp .eq 11, 3) := by decide +kernel
theorem d_Mod_set_29 : decode b_Mod_set 29 = .ok (.aload_n 0, 1) := by decide +kernel
theorem d_Mod_set_30 : decode b_Mod_set 30 = .ok (.aload_n 0, 1) := by decide +kernel
theorem d_Mod_set_31 : decode b_Mod_set 31 = .ok (.getfield 78, 3) := by decide +kernel
theorem d_Mod_set_34 : decode b_Mod_set 34 = .ok (.invokevirtual 92, 3) := by decide +kernel
theorem d_Mod_set_37 : decode b_Mod_set 37 = .ok (.aload_n 0, 1) := by decide +kernel
theorem d_Mod_set_38 : decode b_Mod_set 38 = .ok (.getfield 75, 3) := by decide +kernel
theorem d_Mod_set_41 : decode b_Mod_set 41 = .ok (.ifCond .ge 28, 3) := by decide +kernel
theorem d_Mod_set_44 : decode b_Mod_set 44 = .ok (.aload_n 0, 1) := by decide +kernel
theorem d_Mod_set_45 : decode b_Mod_set 45 = .ok (.getfield 72, 3) := by decide +kernel
theorem d_Mod_set_48 : decode b_Mod_set 48 = .ok (.iload_n 1, 1) := by decide +kernel
theorem d_Mod_set_49 : decode b_Mod_set 49 = .ok (.isub, 1) := by decide +kernel
theorem d_Mod_set_50 : decode b_Mod_set 50 = .ok (.iconst 1, 1) := by decide +kernel
theorem d_Mod_set_51 : decode b_Mod_set 51 = .ok (.isub, 1) := by decide +kernel
theorem d_Mod_set_52 : decode b_Mod_set 52 = .ok (.sipush 200, 3) := by decide +kernel
theorem d_Mod_set_55 : decode b_Mod_set 55 = .ok (.if_icmp .le 14, 3) := by decide +kernel
theorem d_Mod_set_58 : decode b_Mod_set 58 = .ok (.aload_n 0, 1) := by decide +kernel
theorem d_Mod_set_59 : decode b_Mod_set 59 = .ok (.iload_n 1, 1) := by decide +kernel
theorem d_Mod_set_60 : decode b_Mod_set 60 = .ok (.iconst 1, 1) := by decide +kernel
theorem d_Mod_set_61 : decode b_Mod_set 61 = .ok (.iadd, 1) := by decide +kernel
theorem d_Mod_set_62 : decode b_Mod_set 62 = .ok (.sipush 200, 3) := by decide +kernel
theorem d_Mod_set_65 : decode b_Mod_set 65 = .ok (.iadd, 1) := by decide +kernel
theorem d_Mod_set_66 : decode b_Mod_set 66 = .ok (.invokevirtual 92, 3) := by decide +kernel
theorem d_Mod_set_69 : decode b_Mod_set 69 = .ok (.aload_n 0, 1) := by decide +kernel
theorem d_Mod_set_70 : decode b_Mod_set 70 = .ok (.getfield 75, 3) := by decide +kernel
theorem d_Mod_set_73 : decode b_Mod_set 73 = .ok (.ifCond .lt 12, 3) := by decide +kernel
theorem d_Mod_set_76 : decode b_Mod_set 76 = .ok (.sipush (-1000), 3) := by decide +kernel
theorem d_Mod_set_79 : decode b_Mod_set 79 = .ok (.aload_n 0, 1) := by decide +kernel
theorem d_Mod_set_80 : decode b_Mod_set 80 = .ok (.getfield 75, 3) := by decide +kernel
theorem d_Mod_set_83 : decode b_Mod_set 83 = .ok (.isub, 1) := by decide +kernel
theorem d_Mod_set_84 : decode b_Mod_set 84 = .ok (.ireturn, 1) := by decide +kernel
theorem d_Mod_set_85 : decode b_Mod_set 85 = .ok (.aload_n 0, 1) := by decide +kernel
theorem d_Mod_set_86 : decode b_Mod_set 86 = .ok (.iconst 0, 1) := by decide +kernel
theorem d_Mod_set_87 : decode b_Mod_set 87 = .ok (.iload_n 1, 1) := by decide +kernel
theorem d_Mod_set_88 : decode b_Mod_set 88 = .ok (.invokevirtual 149, 3) := by decide +kernel
theorem d_Mod_set_91 : decode b_Mod_set 91 = .ok (.ifCond .ne 6, 3) := by decide +kernel
theorem d_Mod_set_94 : decode b_Mod_set 94 = .ok (.bipush (-2), 2) := by decide +kernel
theorem d_Mod_set_96 : decode b_Mod_set 96 = .ok (.ireturn, 1) := by decide +kernel
theorem d_Mod_set_97 : decode b_Mod_set 97 = .ok (.aload_n 0, 1) := by decide +kernel
theorem d_Mod_set_98 : decode b_Mod_set 98 = .ok (.iconst 0, 1) := by decide +kernel
theorem d_Mod_set_99 : decode b_Mod_set 99 = .ok (.iload_n 1, 1) := by decide +kernel
theorem d_Mod_set_100 : decode b_Mod_set 100 = .ok (.iconst 1, 1) := by decide +kernel
theorem d_Mod_set_101 : decode b_Mod_set 101 = .ok (.iadd, 1) := by decide +kernel
theorem d_Mod_set_102 : decode b_Mod_set 102 = .ok (.aload_n 0, 1) := by decide +kernel
theorem d_Mod_set_103 : decode b_Mod_set 103 = .ok (.getfield 72, 3) := by decide +kernel
theorem d_Mod_set_106 : decode b_Mod_set 106 = .ok (.invokevirtual 152, 3) := by decide +kernel
theorem d_Mod_set_109 : decode b_Mod_set 109 = .ok (.ifCond .eq 10, 3) := by decide +kernel
theorem d_Mod_set_112 : decode b_Mod_set 112 = .ok (.aload_n 0, 1) := by decide +kernel
theorem d_Mod_set_113 : decode b_Mod_set 113 = .ok (.getfield 105, 3) := by decide +kernel
theorem d_Mod_set_116 : decode b_Mod_set 116 = .ok (.goto 5, 3) := by decide +kernel
theorem d_Mod_set_119 : decode b_Mod_set 119 = .ok (.bipush (-4), 2) := by decide +kernel
theorem d_Mod_set_121 : decode b_Mod_set 121 = .ok (.ireturn, 1) := by decide +kernel
theorem d_Mod_one_0 : decode b_Mod_one 0 = .ok (.aload_n 0, 1) := by decide +kernel
theorem d_Mod_one_1 : decode b_Mod_one 1 = .ok (.invokevirtual 143, 3) := by decide +kernel
theorem d_Mod_one_4 : decode b_Mod_one 4 = .ok (.aload_n 0, 1) := by decide +kernel
theorem d_Mod_one_5 : decode b_Mod_one 5 = .ok (.invokevirtual 146, 3) := by decide +kernel
theorem d_Mod_one_8 : decode b_Mod_one 8 = .ok (.aload_n 0, 1) := by decide +kernel
theorem d_Mod_one_9 : decode b_Mod_one 9 = .ok (.getfield 75, 3) := by decide +kernel
theorem d_Mod_one_12 : decode b_Mod_one 12 = .ok (.ifCond .ge 22, 3) := by decide +kernel
theorem d_Mod_one_15 : decode b_Mod_one 15 = .ok (.aload_n 0, 1) := by decide +kernel
theorem d_Mod_one_16 : decode b_Mod_one 16 = .ok (.getfield 78, 3) := by decide +kernel
theorem d_Mod_one_19 : decode b_Mod_one 19 = .ok (.aload_n 0, 1) := by decide +kernel
theorem d_Mod_one_20 : decode b_Mod_one 20 = .ok (.getfield 72, 3) := by decide +kernel
theorem d_Mod_one_23 : decode b_Mod_one 23 = .ok (.if_icmp .ge 11, 3) := by decide +kernel
theorem d_Mod_one_26 : decode b_Mod_one 26 = .ok (.aload_n 0, 1) := by decide +kernel
theorem d_Mod_one_27 : decode b_Mod_one 27 = .ok (.aload_n 0, 1) := by decide +kernel
theorem d_Mod_one_28 : decode b_Mod_one 28 = .ok (.getfield 78, 3) := by decide +kernel
theorem d_Mod_one_31 : decode b_Mod_one 31 = .ok (.invokevirtual 92, 3) := by decide +kernel
theorem d_Mod_one_34 : decode b_Mod_one 34 = .ok (.aload_n 0, 1) := by decide +kernel
theorem d_Mod_one_35 : decode b_Mod_one 35 = .ok (.getfield 75, 3) := by decide +kernel
theorem d_Mod_one_38 : decode b_Mod_one 38 = .ok (.ifCond .lt 12, 3) := by decide +kernel
theorem d_Mod_one_41 : decode b_Mod_one 41 = .ok (.sipush (-1000), 3) := by decide +kernel
theorem d_Mod_one_44 : decode b_Mod_one 44 = .ok (.aload_n 0, 1) := by decide +kernel
theorem d_Mod_one_45 : decode b_Mod_one 45 = .ok (.getfield 75, 3) := by decide +kernel
theorem d_Mod_one_48 : decode b_Mod_one 48 = .ok (.isub, 1) := by decide +kernel
theorem d_Mod_one_49 : decode b_Mod_one 49 = .ok (.ireturn, 1) := by decide +kernel
theorem d_Mod_one_50 : decode b_Mod_one 50 = .ok (.aload_n 0, 1) := by decide +kernel
theorem d_Mod_one_51 : decode b_Mod_one 51 = .ok (.iconst 0, 1) := by decide +kernel
theorem d_Mod_one_52 : decode b_Mod_one 52 = .ok (.aload_n 0, 1) := by decide +kernel
theorem d_Mod_one_53 : decode b_Mod_one 53 = .ok (.getfield 72, 3) := by decide +kernel
theorem d_Mod_one_56 : decode b_Mod_one 56 = .ok (.invokevirtual 149, 3) := by decide +kernel
theorem d_Mod_one_59 : decode b_Mod_one 59 = .ok (.ifCond .eq 7, 3) := by decide +kernel
theorem d_Mod_one_62 : decode b_Mod_one 62 = .ok (.iconst 0, 1) := by decide +kernel
theorem d_Mod_one_63 : decode b_Mod_one 63 = .ok (.goto 5, 3) := by decide +kernel
theorem d_Mod_one_66 : decode b_Mod_one 66 = .ok (.bipush (-2), 2) := by decide +kernel
theorem d_Mod_one_68 : decode b_Mod_one 68 = .ok (.ireturn, 1) := by decide +kernel
theorem d_Mod_write_0 : decode b_Mod_write 0 = .ok (.aload_n 0, 1) := by decide +kernel
theorem d_Mod_write_1 : decode b_Mod_write 1 = .ok (.iload_n 3, 1) := by decide +kernel
theorem d_Mod_write_2 : decode b_Mod_write 2 = .ok (.putfield 69, 3) := by decide +kernel
theorem d_Mod_write_5 : decode b_Mod_write 5 = .ok (.iconst 0, 1) := by decide +kernel
theorem d_Mod_write_6 : decode b_Mod_write 6 = .ok (.istore 4, 2) := by decide +kernel
theorem d_Mod_write_8 : decode b_Mod_write 8 = .ok (.iload 4, 2) := by decide +kernel
theorem d_Mod_write_10 : decode b_Mod_write 10 = .ok (.iload_n 3, 1) := by decide +kernel
theorem d_Mod_write_11 : decode b_Mod_write 11 = .ok (.if_icmp .ge 22, 3) := by decide +kernel
theorem d_Mod_write_14 : decode b_Mod_write 14 = .ok (.aload_n 0, 1) := by decide +kernel
theorem d_Mod_write_15 : decode b_Mod_write 15 = .ok (.getfield 16, 3) := by decide +kernel
theorem d_Mod_write_18 : decode b_Mod_write 18 = .ok (.iload 4, 2) := by decide +kernel
theorem d_Mod_write_20 : decode b_Mod_write 20 = .ok (.aload_n 1, 1) := by decide +kernel
theorem d_Mod_write_21 : decode b_Mod_write 21 = .ok (.iload_n 2, 1) := by decide +kernel
theorem d_Mod_write_22 : decode b_Mod_write 22 = .ok (.iload 4, 2) := by decide +kernel
theorem d_Mod_write_24 : decode b_Mod_write 24 = .ok (.iadd, 1) := by decide +kernel
theorem d_Mod_write_25 : decode b_Mod_write 25 = .ok (.iaload, 1) := by decide +kernel
theorem d_Mod_write_26 : decode b_Mod_write 26 = .ok (.iastore, 1) := by decide +kernel
theorem d_Mod_write_27 : decode b_Mod_write 27 = .ok (.iinc 4 1, 3) := by decide +kernel
theorem d_Mod_write_30 : decode b_Mod_write 30 = .ok (.goto (-22), 3) := by decide +kernel
theorem d_Mod_write_33 : decode b_Mod_write 33 = .ok (.return_, 1) := by decide +kernel
theorem d_Mod_get_0 : decode b_Mod_get 0 = .ok (.aload_n 0, 1) := by decide +kernel
theorem d_Mod_get_1 : decode b_Mod_get 1 = .ok (.invokevirtual 156, 3) := by decide +kernel
theorem d_Mod_get_4 : decode b_Mod_get 4 = .ok (.istore_n 1, 1) := by decide +kernel
theorem d_Mod_get_5 : decode b_Mod_get 5 = .ok (.iload_n 1, 1) := by decide +kernel
theorem d_Mod_get_6 : decode b_Mod_get 6 = .ok (.ifCond .ge 5, 3) := by decide +kernel
theorem d_Mod_get_9 : decode b_Mod_get 9 = .ok (.iload_n 1, 1) := by decide +kernel
theorem d_Mod_get_10 : decode b_Mod_get 10 = .ok (.ireturn, 1) := by decide +kernel
theorem d_Mod_get_11 : decode b_Mod_get 11 = .ok (.aload_n 0, 1) := by decide +kernel
theorem d_Mod_get_12 : decode b_Mod_get 12 = .ok (.invokevirtual 128, 3) := by decide +kernel
theorem d_Mod_get_15 : decode b_Mod_get 15 = .ok (.istore_n 2, 1) := by decide +kernel
theorem d_Mod_get_16 : decode b_Mod_get 16 = .ok (.iload_n 2, 1) := by decide +kernel
theorem d_Mod_get_17 : decode b_Mod_get 17 = .ok (.iconst (-1), 1) := by decide +kernel
theorem d_Mod_get_18 : decode b_Mod_get 18 = .ok (.if_icmp .ne 19, 3) := by decide +kernel
theorem d_Mod_get_21 : decode b_Mod_get 21 = .ok (.aload_n 0, 1) := by decide +kernel
theorem d_Mod_get_22 : decode b_Mod_get 22 = .ok (.aload_n 0, 1) := by decide +kernel
theorem d_Mod_get_23 : decode b_Mod_get 23 = .ok (.getfield 19, 3) := by decide +kernel
theorem d_Mod_get_26 : decode b_Mod_get 26 = .ok (.iconst 0, 1) := by decide +kernel
theorem d_Mod_get_27 : decode b_Mod_get 27 = .ok (.aload_n 0, 1) := by decide +kernel
theorem d_Mod_get_28 : decode b_Mod_get 28 = .ok (.getfield 95, 3) := by decide +kernel
theorem d_Mod_get_31 : decode b_Mod_get 31 = .ok (.invokevirtual 159, 3) := by decide +kernel
theorem d_Mod_get_34 : decode b_Mod_get 34 = .ok (.goto 22, 3) := by decide +kernel
theorem d_Mod_get_37 : decode b_Mod_get 37 = .ok (.aload_n 0, 1) := by decide +kernel
theorem d_Mod_get_38 : decode b_Mod_get 38 = .ok (.aload_n 0, 1) := by decide +kernel
theorem d_Mod_get_39 : decode b_Mod_get 39 = .ok (.getfield 28, 3) := by decide +kernel
theorem d_Mod_get_42 : decode b_Mod_get 42 = .ok (.sipush 200, 3) := by decide +kernel
theorem d_Mod_get_45 : decode b_Mod_get 45 = .ok (.iload_n 2, 1) := by decide +kernel
theorem d_Mod_get_46 : decode b_Mod_get 46 = .ok (.imul, 1) := by decide +kernel
theorem d_Mod_get_47 : decode b_Mod_get 47 = .ok (.aload_n 0, 1) := by decide +kernel
theorem d_Mod_get_48 : decode b_Mod_get 48 = .ok (.getfield 31, 3) := by decide +kernel
theorem d_Mod_get_51 : decode b_Mod_get 51 = .ok (.iload_n 2, 1) := by decide +kernel
theorem d_Mod_get_52 : decode b_Mod_get 52 = .ok (.iaload, 1) := by decide +kernel
theorem d_Mod_get_53 : decode b_Mod_get 53 = .ok (.invokevirtual 159, 3) := by decide +kernel
theorem d_Mod_get_56 : decode b_Mod_get 56 = .ok (.aload_n 0, 1) := by decide +kernel
theorem d_Mod_get_57 : decode b_Mod_get 57 = .ok (.getfield 69, 3) := by decide +kernel
theorem d_Mod_get_60 : decode b_Mod_get 60 = .ok (.ireturn, 1) := by decide +kernel
theorem d_Mod_known_0 : decode b_Mod_known 0 = .ok (.aload_n 0, 1) := by decide +kernel
theorem d_Mod_known_1 : decode b_Mod_known 1 = .ok (.invokevirtual 156, 3) := by decide +kernel
theorem d_Mod_known_4 : decode b_Mod_known 4 = .ok (.istore_n 1, 1) := by decide +kernel
theorem d_Mod_known_5 : decode b_Mod_known 5 = .ok (.iload_n 1, 1) := by decide +kernel
theorem d_Mod_known_6 : decode b_Mod_known 6 = .ok (.ifCond .ge 5, 3) := by decide +kernel
end
section
theorem d_Mod_known_9 : decode b_Mod_known 9 = .ok (.iload_n 1, 1) := by decide +kernel
theorem d_Mod_known_10 : decode b_Mod_known 10 = .ok (.ireturn, 1) := by decide +kernel
theorem d_Mod_known_11 : decode b_Mod_known 11 = .ok (.aload_n 0, 1) := by decide +kernel
theorem d_Mod_known_12 : decode b_Mod_known 12 = .ok (.invokevirtual 128, 3) := by decide +kernel
theorem d_Mod_known_15 : decode b_Mod_known 15 = .ok (.istore_n 2, 1) := by decide +kernel
theorem d_Mod_known_16 : decode b_Mod_known 16 = .ok (.iload_n 2, 1) := by decide +kernel
theorem d_Mod_known_17 : decode b_Mod_known 17 = .ok (.iconst (-1), 1) := by decide +kernel
theorem d_Mod_known_18 : decode b_Mod_known 18 = .ok (.if_icmp .ne 7, 3) := by decide +kernel
theorem d_Mod_known_21 : decode b_Mod_known 21 = .ok (.iconst 0, 1) := by decide +kernel
theorem d_Mod_known_22 : decode b_Mod_known 22 = .ok (.goto 21, 3) := by decide +kernel
theorem d_Mod_known_25 : decode b_Mod_known 25 = .ok (.aload_n 0, 1) := by decide +kernel
theorem d_Mod_known_26 : decode b_Mod_known 26 = .ok (.getfield 25, 3) := by decide +kernel
theorem d_Mod_known_29 : decode b_Mod_known 29 = .ok (.iload_n 2, 1) := by decide +kernel
theorem d_Mod_known_30 : decode b_Mod_known 30 = .ok (.iaload, 1) := by decide +kernel
theorem d_Mod_known_31 : decode b_Mod_known 31 = .ok (.aload_n 0, 1) := by decide +kernel
theorem d_Mod_known_32 : decode b_Mod_known 32 = .ok (.getfield 95, 3) := by decide +kernel
theorem d_Mod_known_35 : decode b_Mod_known 35 = .ok (.if_icmp .ne 7, 3) := by decide +kernel
theorem d_Mod_known_38 : decode b_Mod_known 38 = .ok (.iconst 2, 1) := by decide +kernel
theorem d_Mod_known_39 : decode b_Mod_known 39 = .ok (.goto 4, 3) := by decide +kernel
theorem d_Mod_known_42 : decode b_Mod_known 42 = .ok (.iconst 1, 1) := by decide +kernel
theorem d_Mod_known_43 : decode b_Mod_known 43 = .ok (.ireturn, 1) := by decide +kernel
theorem d_Mod_variables_0 : decode b_Mod_variables 0 = .ok (.iconst 0, 1) := by decide +kernel
theorem d_Mod_variables_1 : decode b_Mod_variables 1 = .ok (.istore_n 2, 1) := by decide +kernel
theorem d_Mod_variables_2 : decode b_Mod_variables 2 = .ok (.iconst 1, 1) := by decide +kernel
theorem d_Mod_variables_3 : decode b_Mod_variables 3 = .ok (.istore_n 3, 1) := by decide +kernel
theorem d_Mod_variables_4 : decode b_Mod_variables 4 = .ok (.iload_n 3, 1) := by decide +kernel
theorem d_Mod_variables_5 : decode b_Mod_variables 5 = .ok (.ifCond .eq 83, 3) := by decide +kernel
theorem d_Mod_variables_8 : decode b_Mod_variables 8 = .ok (.aload_n 0, 1) := by decide +kernel
theorem d_Mod_variables_9 : decode b_Mod_variables 9 = .ok (.getfield 75, 3) := by decide +kernel
theorem d_Mod_variables_12 : decode b_Mod_variables 12 = .ok (.ifCond .ge 76, 3) := by decide +kernel
theorem d_Mod_variables_15 : decode b_Mod_variables 15 = .ok (.iload_n 2, 1) := by decide +kernel
theorem d_Mod_variables_16 : decode b_Mod_variables 16 = .ok (.iload_n 1, 1) := by decide +kernel
theorem d_Mod_variables_17 : decode b_Mod_variables 17 = .ok (.if_icmp .ne 25, 3) := by decide +kernel
theorem d_Mod_variables_20 : decode b_Mod_variables 20 = .ok (.aload_n 0, 1) := by decide +kernel
theorem d_Mod_variables_21 : decode b_Mod_variables 21 = .ok (.getfield 78, 3) := by decide +kernel
theorem d_Mod_variables_24 : decode b_Mod_variables 24 = .ok (.aload_n 0, 1) := by decide +kernel
theorem d_Mod_variables_25 : decode b_Mod_variables 25 = .ok (.getfield 72, 3) := by decide +kernel
theorem d_Mod_variables_28 : decode b_Mod_variables 28 = .ok (.if_icmp .ge 14, 3) := by decide +kernel
theorem d_Mod_variables_31 : decode b_Mod_variables 31 = .ok (.aload_n 0, 1) := by decide +kernel
theorem d_Mod_variables_32 : decode b_Mod_variables 32 = .ok (.aload_n 0, 1) := by decide +kernel
theorem d_Mod_variables_33 : decode b_Mod_variables 33 = .ok (.getfield 78, 3) := by decide +kernel
theorem d_Mod_variables_36 : decode b_Mod_variables 36 = .ok (.invokevirtual 92, 3) := by decide +kernel
theorem d_Mod_variables_39 : decode b_Mod_variables 39 = .ok (.goto 7, 3) := by decide +kernel
theorem d_Mod_variables_42 : decode b_Mod_variables 42 = .ok (.aload_n 0, 1) := by decide +kernel
theorem d_Mod_variables_43 : decode b_Mod_variables 43 = .ok (.invokevirtual 146, 3) := by decide +kernel
theorem d_Mod_variables_46 : decode b_Mod_variables 46 = .ok (.iinc 2 1, 3) := by decide +kernel
theorem d_Mod_variables_49 : decode b_Mod_variables 49 = .ok (.aload_n 0, 1) := by decide +kernel
theorem d_Mod_variables_50 : decode b_Mod_variables 50 = .ok (.getfield 75, 3) := by decide +kernel
theorem d_Mod_variables_53 : decode b_Mod_variables 53 = .ok (.ifCond .ge 16, 3) := by decide +kernel
theorem d_Mod_variables_56 : decode b_Mod_variables 56 = .ok (.aload_n 0, 1) := by decide +kernel
theorem d_Mod_variables_57 : decode b_Mod_variables 57 = .ok (.invokevirtual 85, 3) := by decide +kernel
theorem d_Mod_variables_60 : decode b_Mod_variables 60 = .ok (.bipush 32, 2) := by decide +kernel
theorem d_Mod_variables_62 : decode b_Mod_variables 62 = .ok (.if_icmp .ne 7, 3) := by decide +kernel
theorem d_Mod_variables_65 : decode b_Mod_variables 65 = .ok (.iconst 1, 1) := by decide +kernel
theorem d_Mod_variables_66 : decode b_Mod_variables 66 = .ok (.goto 4, 3) := by decide +kernel
theorem d_Mod_variables_69 : decode b_Mod_variables 69 = .ok (.iconst 0, 1) := by decide +kernel
theorem d_Mod_variables_70 : decode b_Mod_variables 70 = .ok (.istore_n 3, 1) := by decide +kernel
theorem d_Mod_variables_71 : decode b_Mod_variables 71 = .ok (.iload_n 3, 1) := by decide +kernel
theorem d_Mod_variables_72 : decode b_Mod_variables 72 = .ok (.ifCond .eq (-68), 3) := by decide +kernel
theorem d_Mod_variables_75 : decode b_Mod_variables 75 = .ok (.aload_n 0, 1) := by decide +kernel
theorem d_Mod_variables_76 : decode b_Mod_variables 76 = .ok (.dup, 1) := by decide +kernel
theorem d_Mod_variables_77 : decode b_Mod_variables 77 = .ok (.getfield 78, 3) := by decide +kernel
theorem d_Mod_variables_80 : decode b_Mod_variables 80 = .ok (.iconst 1, 1) := by decide +kernel
theorem d_Mod_variables_81 : decode b_Mod_variables 81 = .ok (.iadd, 1) := by decide +kernel
theorem d_Mod_variables_82 : decode b_Mod_variables 82 = .ok (.putfield 78, 3) := by decide +kernel
theorem d_Mod_variables_85 : decode b_Mod_variables 85 = .ok (.goto (-81), 3) := by decide +kernel
theorem d_Mod_variables_88 : decode b_Mod_variables 88 = .ok (.aload_n 0, 1) := by decide +kernel
theorem d_Mod_variables_89 : decode b_Mod_variables 89 = .ok (.getfield 75, 3) := by decide +kernel
theorem d_Mod_variables_92 : decode b_Mod_variables 92 = .ok (.ifCond .ge 22, 3) := by decide +kernel
theorem d_Mod_variables_95 : decode b_Mod_variables 95 = .ok (.aload_n 0, 1) := by decide +kernel
theorem d_Mod_variables_96 : decode b_Mod_variables 96 = .ok (.getfield 78, 3) := by decide +kernel
theorem d_Mod_variables_99 : decode b_Mod_variables 99 = .ok (.aload_n 0, 1) := by decide +kernel
theorem d_Mod_variables_100 : decode b_Mod_variables 100 = .ok (.getfield 72, 3) := by decide +kernel
theorem d_Mod_variables_103 : decode b_Mod_variables 103 = .ok (.if_icmp .ge 11, 3) := by decide +kernel
theorem d_Mod_variables_106 : decode b_Mod_variables 106 = .ok (.aload_n 0, 1) := by decide +kernel
theorem d_Mod_variables_107 : decode b_Mod_variables 107 = .ok (.aload_n 0, 1) := by decide +kernel
theorem d_Mod_variables_108 : decode b_Mod_variables 108 = .ok (.getfield 78, 3) := by decide +kernel
theorem d_Mod_variables_111 : decode b_Mod_variables 111 = .ok (.invokevirtual 92, 3) := by decide +kernel
theorem d_Mod_variables_114 : decode b_Mod_variables 114 = .ok (.iload_n 2, 1) := by decide +kernel
theorem d_Mod_variables_115 : decode b_Mod_variables 115 = .ok (.ireturn, 1) := by decide +kernel
theorem d_Mod_wordEnd_0 : decode b_Mod_wordEnd 0 = .ok (.iload_n 1, 1) := by decide +kernel
theorem d_Mod_wordEnd_1 : decode b_Mod_wordEnd 1 = .ok (.istore_n 2, 1) := by decide +kernel
theorem d_Mod_wordEnd_2 : decode b_Mod_wordEnd 2 = .ok (.iload_n 2, 1) := by decide +kernel
theorem d_Mod_wordEnd_3 : decode b_Mod_wordEnd 3 = .ok (.aload_n 0, 1) := by decide +kernel
theorem d_Mod_wordEnd_4 : decode b_Mod_wordEnd 4 = .ok (.getfield 72, 3) := by decide +kernel
theorem d_Mod_wordEnd_7 : decode b_Mod_wordEnd 7 = .ok (.if_icmp .ge 20, 3) := by decide +kernel
theorem d_Mod_wordEnd_10 : decode b_Mod_wordEnd 10 = .ok (.aload_n 0, 1) := by decide +kernel
theorem d_Mod_wordEnd_11 : decode b_Mod_wordEnd 11 = .ok (.getfield 13, 3) := by decide +kernel
theorem d_Mod_wordEnd_14 : decode b_Mod_wordEnd 14 = .ok (.iload_n 2, 1) := by decide +kernel
theorem d_Mod_wordEnd_15 : decode b_Mod_wordEnd 15 = .ok (.iaload, 1) := by decide +kernel
theorem d_Mod_wordEnd_16 : decode b_Mod_wordEnd 16 = .ok (.bipush 32, 2) := by decide +kernel
theorem d_Mod_wordEnd_18 : decode b_Mod_wordEnd 18 = .ok (.if_icmp .eq 9, 3) := by decide +kernel
theorem d_Mod_wordEnd_21 : decode b_Mod_wordEnd 21 = .ok (.iinc 2 1, 3) := by decide +kernel
theorem d_Mod_wordEnd_24 : decode b_Mod_wordEnd 24 = .ok (.goto (-22), 3) := by decide +kernel
theorem d_Mod_wordEnd_27 : decode b_Mod_wordEnd 27 = .ok (.iload_n 2, 1) := by decide +kernel
theorem d_Mod_wordEnd_28 : decode b_Mod_wordEnd 28 = .ok (.ireturn, 1) := by decide +kernel
theorem d_Mod_drop_0 : decode b_Mod_drop 0 = .ok (.aload_n 0, 1) := by decide +kernel
theorem d_Mod_drop_1 : decode b_Mod_drop 1 = .ok (.invokevirtual 143, 3) := by decide +kernel
theorem d_Mod_drop_4 : decode b_Mod_drop 4 = .ok (.aload_n 0, 1) := by decide +kernel
theorem d_Mod_drop_5 : decode b_Mod_drop 5 = .ok (.sipush 1000, 3) := by decide +kernel
theorem d_Mod_drop_8 : decode b_Mod_drop 8 = .ok (.invokevirtual 163, 3) := by decide +kernel
theorem d_Mod_drop_11 : decode b_Mod_drop 11 = .ok (.pop, 1) := by decide +kernel
theorem d_Mod_drop_12 : decode b_Mod_drop 12 = .ok (.aload_n 0, 1) := by decide +kernel
theorem d_Mod_drop_13 : decode b_Mod_drop 13 = .ok (.getfield 75, 3) := by decide +kernel
theorem d_Mod_drop_16 : decode b_Mod_drop 16 = .ok (.ifCond .lt 12, 3) := by decide +kernel
theorem d_Mod_drop_19 : decode b_Mod_drop 19 = .ok (.sipush (-1000), 3) := by decide +kernel
theorem d_Mod_drop_22 : decode b_Mod_drop 22 = .ok (.aload_n 0, 1) := by decide +kernel
theorem d_Mod_drop_23 : decode b_Mod_drop 23 = .ok (.getfield 75, 3) := by decide +kernel
theorem d_Mod_drop_26 : decode b_Mod_drop 26 = .ok (.isub, 1) := by decide +kernel
theorem d_Mod_drop_27 : decode b_Mod_drop 27 = .ok (.ireturn, 1) := by decide +kernel
theorem d_Mod_drop_28 : decode b_Mod_drop 28 = .ok (.iconst 0, 1) := by decide +kernel
theorem d_Mod_drop_29 : decode b_Mod_drop 29 = .ok (.istore_n 1, 1) := by decide +kernel
theorem d_Mod_drop_30 : decode b_Mod_drop 30 = .ok (.iload_n 1, 1) := by decide +kernel
theorem d_Mod_drop_31 : decode b_Mod_drop 31 = .ok (.aload_n 0, 1) := by decide +kernel
theorem d_Mod_drop_32 : decode b_Mod_drop 32 = .ok (.getfield 72, 3) := by decide +kernel
theorem d_Mod_drop_35 : decode b_Mod_drop 35 = .ok (.if_icmp .ge 40, 3) := by decide +kernel
theorem d_Mod_drop_38 : decode b_Mod_drop 38 = .ok (.aload_n 0, 1) := by decide +kernel
theorem d_Mod_drop_39 : decode b_Mod_drop 39 = .ok (.iload_n 1, 1) := by decide +kernel
theorem d_Mod_drop_40 : decode b_Mod_drop 40 = .ok (.aload_n 0, 1) := by decide +kernel
theorem d_Mod_drop_41 : decode b_Mod_drop 41 = .ok (.iload_n 1, 1) := by decide +kernel
theorem d_Mod_drop_42 : decode b_Mod_drop 42 = .ok (.invokevirtual 166, 3) := by decide +kernel
theorem d_Mod_drop_45 : decode b_Mod_drop 45 = .ok (.invokevirtual 149, 3) := by decide +kernel
theorem d_Mod_drop_48 : decode b_Mod_drop 48 = .ok (.ifCond .ne 6, 3) := by decide +kernel
theorem d_Mod_drop_51 : decode b_Mod_drop 51 = .ok (.bipush (-2), 2) := by decide +kernel
theorem d_Mod_drop_53 : decode b_Mod_drop 53 = .ok (.ireturn, 1) := by decide +kernel
theorem d_Mod_drop_54 : decode b_Mod_drop 54 = .ok (.aload_n 0, 1) := by decide +kernel
theorem d_Mod_drop_55 : decode b_Mod_drop 55 = .ok (.invokevirtual 169, 3) := by decide +kernel
theorem d_Mod_drop_58 : decode b_Mod_drop 58 = .ok (.ifCond .ne 6, 3) := by decide +kernel
theorem d_Mod_drop_61 : decode b_Mod_drop 61 = .ok (.bipush (-4), 2) := by decide +kernel
theorem d_Mod_drop_63 : decode b_Mod_drop 63 = .ok (.ireturn, 1) := by decide +kernel
theorem d_Mod_drop_64 : decode b_Mod_drop 64 = .ok (.aload_n 0, 1) := by decide +kernel
theorem d_Mod_drop_65 : decode b_Mod_drop 65 = .ok (.iload_n 1, 1) := by decide +kernel
theorem d_Mod_drop_66 : decode b_Mod_drop 66 = .ok (.invokevirtual 166, 3) := by decide +kernel
theorem d_Mod_drop_69 : decode b_Mod_drop 69 = .ok (.iconst 1, 1) := by decide +kernel
theorem d_Mod_drop_70 : decode b_Mod_drop 70 = .ok (.iadd, 1) := by decide +kernel
theorem d_Mod_drop_71 : decode b_Mod_drop 71 = .ok (.istore_n 1, 1) := by decide +kernel
theorem d_Mod_drop_72 : decode b_Mod_drop 72 = .ok (.goto (-42), 3) := by decide +kernel
theorem d_Mod_drop_75 : decode b_Mod_drop 75 = .ok (.aload_n 0, 1) := by decide +kernel
theorem d_Mod_drop_76 : decode b_Mod_drop 76 = .ok (.getfield 105, 3) := by decide +kernel
theorem d_Mod_drop_79 : decode b_Mod_drop 79 = .ok (.ireturn, 1) := by decide +kernel
theorem d_Mod_open_0 : decode b_Mod_open 0 = .ok (.aload_n 0, 1) := by decide +kernel
theorem d_Mod_open_1 : decode b_Mod_open 1 = .ok (.invokevirtual 143, 3) := by decide +kernel
theorem d_Mod_open_4 : decode b_Mod_open 4 = .ok (.aload_n 0, 1) := by decide +kernel
theorem d_Mod_open_5 : decode b_Mod_open 5 = .ok (.getfield 72, 3) := by decide +kernel
theorem d_Mod_open_8 : decode b_Mod_open 8 = .ok (.ifCond .le 10, 3) := by decide +kernel
theorem d_Mod_open_11 : decode b_Mod_open 11 = .ok (.aload_n 0, 1) := by decide +kernel
theorem d_Mod_open_12 : decode b_Mod_open 12 = .ok (.bipush 12, 2) := by decide +kernel
theorem d_Mod_open_14 : decode b_Mod_open 14 = .ok (.invokevirtual 163, 3) := by decide +kernel
theorem d_Mod_open_17 : decode b_Mod_open 17 = .ok (.pop, 1) := by decide +kernel
theorem d_Mod_open_18 : decode b_Mod_open 18 = .ok (.aload_n 0, 1) := by decide +kernel
theorem d_Mod_open_19 : decode b_Mod_open 19 = .ok (.getfield 75, 3) := by decide +kernel
theorem d_Mod_open_22 : decode b_Mod_open 22 = .ok (.ifCond .lt 12, 3) := by decide +kernel
theorem d_Mod_open_25 : decode b_Mod_open 25 = .ok (.sipush (-1000), 3) := by decide +kernel
theorem d_Mod_open_28 : decode b_Mod_open 28 = .ok (.aload_n 0, 1) := by decide +kernel
theorem d_Mod_open_29 : decode b_Mod_open 29 = .ok (.getfield 75, 3) := by decide +kernel
theorem d_Mod_open_32 : decode b_Mod_open 32 = .ok (.isub, 1) := by decide +kernel
theorem d_Mod_open_33 : decode b_Mod_open 33 = .ok (.ireturn, 1) := by decide +kernel
theorem d_Mod_open_34 : decode b_Mod_open 34 = .ok (.aload_n 0, 1) := by decide +kernel
theorem d_Mod_open_35 : decode b_Mod_open 35 = .ok (.getfield 108, 3) := by decide +kernel
theorem d_Mod_open_38 : decode b_Mod_open 38 = .ok (.iconst 1, 1) := by decide +kernel
theorem d_Mod_open_39 : decode b_Mod_open 39 = .ok (.iadd, 1) := by decide +kernel
theorem d_Mod_open_40 : decode b_Mod_open 40 = .ok (.bipush 8, 2) := by decide +kernel
theorem d_Mod_open_42 : decode b_Mod_open 42 = .ok (.if_icmp .ne 6, 3) := by decide +kernel
theorem d_Mod_open_45 : decode b_Mod_open 45 = .ok (.bipush (-4), 2) := by decide +kernel
theorem d_Mod_open_47 : decode b_Mod_open 47 = .ok (.ireturn, 1) := by decide +kernel
theorem d_Mod_open_48 : decode b_Mod_open 48 = .ok (.aload_n 0, 1) := by decide +kernel
theorem d_Mod_open_49 : decode b_Mod_open 49 = .ok (.dup, 1) := by decide +kernel
theorem d_Mod_open_50 : decode b_Mod_open 50 = .ok (.getfield 108, 3) := by decide +kernel
theorem d_Mod_open_53 : decode b_Mod_open 53 = .ok (.iconst 1, 1) := by decide +kernel
theorem d_Mod_open_54 : decode b_Mod_open 54 = .ok (.iadd, 1) := by decide +kernel
theorem d_Mod_open_55 : decode b_Mod_open 55 = .ok (.putfield 108, 3) := by decide +kernel
theorem d_Mod_open_58 : decode b_Mod_open 58 = .ok (.aload_n 0, 1) := by decide +kernel
theorem d_Mod_open_59 : decode b_Mod_open 59 = .ok (.getfield 43, 3) := by decide +kernel
theorem d_Mod_open_62 : decode b_Mod_open 62 = .ok (.aload_n 0, 1) := by decide +kernel
theorem d_Mod_open_63 : decode b_Mod_open 63 = .ok (.getfield 108, 3) := by decide +kernel
theorem d_Mod_open_66 : decode b_Mod_open 66 = .ok (.iconst 0, 1) := by decide +kernel
theorem d_Mod_open_67 : decode b_Mod_open 67 = .ok (.iastore, 1) := by decide +kernel
theorem d_Mod_open_68 : decode b_Mod_open 68 = .ok (.iconst 0, 1) := by decide +kernel
theorem d_Mod_open_69 : decode b_Mod_open 69 = .ok (.istore_n 1, 1) := by decide +kernel
theorem d_Mod_open_70 : decode b_Mod_open 70 = .ok (.iload_n 1, 1) := by decide +kernel
theorem d_Mod_open_71 : decode b_Mod_open 71 = .ok (.aload_n 0, 1) := by decide +kernel
theorem d_Mod_open_72 : decode b_Mod_open 72 = .ok (.getfield 72, 3) := by decide +kernel
theorem d_Mod_open_75 : decode b_Mod_open 75 = .ok (.if_icmp .ge 198, 3) := by decide +kernel
theorem d_Mod_open_78 : decode b_Mod_open 78 = .ok (.aload_n 0, 1) := by decide +kernel
theorem d_Mod_open_79 : decode b_Mod_open 79 = .ok (.iload_n 1, 1) := by decide +kernel
theorem d_Mod_open_80 : decode b_Mod_open 80 = .ok (.aload_n 0, 1) := by decide +kernel
theorem d_Mod_open_81 : decode b_Mod_open 81 = .ok (.iload_n 1, 1) := by decide +kernel
theorem d_Mod_open_82 : decode b_Mod_open 82 = .ok (.invokevirtual 166, 3) := by decide +kernel
theorem d_Mod_open_85 : decode b_Mod_open 85 = .ok (.invokevirtual 149, 3) := by decide +kernel
theorem d_Mod_open_88 : decode b_Mod_open 88 = .ok (.ifCond .ne 16, 3) := by decide +kernel
theorem d_Mod_open_91 : decode b_Mod_open 91 = .ok (.aload_n 0, 1) := by decide +kernel
theorem d_Mod_open_92 : decode b_Mod_open 92 = .ok (.dup, 1) := by decide +kernel
theorem d_Mod_open_93 : decode b_Mod_open 93 = .ok (.getfield 108, 3) := by decide +kernel
theorem d_Mod_open_96 : decode b_Mod_open 96 = .ok (.iconst 1, 1) := by decide +kernel
theorem d_Mod_open_97 : decode b_Mod_open 97 = .ok (.isub, 1) := by decide +kernel
theorem d_Mod_open_98 : decode b_Mod_open 98 = .ok (.putfield 108, 3) := by decide +kernel
theorem d_Mod_open_101 : decode b_Mod_open 101 = .ok (.bipush (-2), 2) := by decide +kernel
theorem d_Mod_open_103 : decode b_Mod_open 103 = .ok (.ireturn, 1) := by decide +kernel
theorem d_Mod_open_104 : decode b_Mod_open 104 = .ok (.iconst 0, 1) := by decide +kernel
theorem d_Mod_open_105 : decode b_Mod_open 105 = .ok (.istore_n 2, 1) := by decide +kernel
theorem d_Mod_open_106 : decode b_Mod_open 106 = .ok (.bipush 12, 2) := by decide +kernel
theorem d_Mod_open_108 : decode b_Mod_open 108 = .ok (.aload_n 0, 1) := by decide +kernel
theorem d_Mod_open_109 : decode b_Mod_open 109 = .ok (.getfield 108, 3) := by decide +kernel
theorem d_Mod_open_112 : decode b_Mod_open 112 = .ok (.imul, 1) := by decide +kernel
theorem d_Mod_open_113 : decode b_Mod_open 113 = .ok (.istore_n 3, 1) := by decide +kernel
theorem d_Mod_open_114 : decode b_Mod_open 114 = .ok (.iload_n 3, 1) := by decide +kernel
theorem d_Mod_open_115 : decode b_Mod_open 115 = .ok (.bipush 12, 2) := by decide +kernel
theorem d_Mod_open_117 : decode b_Mod_open 117 = .ok (.aload_n 0, 1) := by decide +kernel
theorem d_Mod_open_118 : decode b_Mod_open 118 = .ok (.getfield 108, 3) := by decide +kernel
theorem d_Mod_open_121 : decode b_Mod_open 121 = .ok (.imul, 1) := by decide +kernel
theorem d_Mod_open_122 : decode b_Mod_open 122 = .ok (.aload_n 0, 1) := by decide +kernel
theorem d_Mod_open_123 : decode b_Mod_open 123 = .ok (.getfield 43, 3) := by decide +kernel
theorem d_Mod_open_126 : decode b_Mod_open 126 = .ok (.aload_n 0, 1) := by decide +kernel
theorem d_Mod_open_127 : decode b_Mod_open 127 = .ok (.getfield 108, 3) := by decide +kernel
theorem d_Mod_open_130 : decode b_Mod_open 130 = .ok (.iaload, 1) := by decide +kernel
theorem d_Mod_open_131 : decode b_Mod_open 131 = .ok (.iadd, 1) := by decide +kernel
theorem d_Mod_open_132 : decode b_Mod_open 132 = .ok (.if_icmp .ge 44, 3) := by decide +kernel
theorem d_Mod_open_135 : decode b_Mod_open 135 = .ok (.iload_n 2, 1) := by decide +kernel
theorem d_Mod_open_136 : decode b_Mod_open 136 = .ok (.ifCond .ne 28, 3) := by decide +kernel
theorem d_Mod_open_139 : decode b_Mod_open 139 = .ok (.aload_n 0, 1) := by decide +kernel
theorem d_Mod_open_140 : decode b_Mod_open 140 = .ok (.getfield 40, 3) := by decide +kernel
theorem d_Mod_open_143 : decode b_Mod_open 143 = .ok (.iload_n 3, 1) := by decide +kernel
theorem d_Mod_open_144 : decode b_Mod_open 144 = .ok (.iaload, 1) := by decide +kernel
theorem d_Mod_open_145 : decode b_Mod_open 145 = .ok (.aload_n 0, 1) := by decide +kernel
theorem d_Mod_open_146 : decode b_Mod_open 146 = .ok (.getfield 95, 3) := by decide +kernel
theorem d_Mod_open_149 : decode b_Mod_open 149 = .ok (.if_icmp .ne 19, 3) := by decide +kernel
theorem d_Mod_open_152 : decode b_Mod_open 152 = .ok (.aload_n 0, 1) := by decide +kernel
theorem d_Mod_open_153 : decode b_Mod_open 153 = .ok (.iload_n 3, 1) := by decide +kernel
theorem d_Mod_open_154 : decode b_Mod_open 154 = .ok (.aload_n 0, 1) := by decide +kernel
theorem d_Mod_open_155 : decode b_Mod_open 155 = .ok (.getfield 95, 3) := by decide +kernel
theorem d_Mod_open_158 : decode b_Mod_open 158 = .ok (.invokevirtual 101, 3) := by decide +kernel
theorem d_Mod_open_161 : decode b_Mod_open 161 = .ok (.ifCond .eq 7, 3) := by decide +kernel
theorem d_Mod_open_164 : decode b_Mod_open 164 = .ok (.iconst 1, 1) := by decide +kernel
theorem d_Mod_open_165 : decode b_Mod_open 165 = .ok (.goto 4, 3) := by decide +kernel
theorem d_Mod_open_168 : decode b_Mod_open 168 = .ok (.iconst 0, 1) := by decide +kernel
theorem d_Mod_open_169 : decode b_Mod_open 169 = .ok (.istore_n 2, 1) := by decide +kernel
theorem d_Mod_open_170 : decode b_Mod_open 170 = .ok (.iinc 3 1, 3) := by decide +kernel
theorem d_Mod_open_173 : decode b_Mod_open 173 = .ok (.goto (-59), 3) := by decide +kernel
theorem d_Mod_open_176 : decode b_Mod_open 176 = .ok (.iload_n 2, 1) := by decide +kernel
theorem d_Mod_open_177 : decode b_Mod_open 177 = .ok (.ifCond .eq 6, 3) := by decide +kernel
theorem d_Mod_open_180 : decode b_Mod_open 180 = .ok (.goto 82, 3) := by decide +kernel
theorem d_Mod_open_183 : decode b_Mod_open 183 = .ok (.bipush 12, 2) := by decide +kernel
theorem d_Mod_open_185 : decode b_Mod_open 185 = .ok (.aload_n 0, 1) := by decide +kernel
theorem d_Mod_open_186 : decode b_Mod_open 186 = .ok (.getfield 108, 3) := by decide +kernel
theorem d_Mod_open_189 : decode b_Mod_open 189 = .ok (.imul, 1) := by decide +kernel
theorem d_Mod_open_190 : decode b_Mod_open 190 = .ok (.aload_n 0, 1) := by decide +kernel
theorem d_Mod_open_191 : decode b_Mod_open 191 = .ok (.getfield 43, 3) := by decide +kernel
theorem d_Mod_open_194 : decode b_Mod_open 194 = .ok (.aload_n 0, 1) := by decide +kernel
theorem d_Mod_open_195 : decode b_Mod_open 195 = .ok (.getfield 108, 3) := by decide +kernel
theorem d_Mod_open_198 : decode b_Mod_open 198 = .ok (.iaload, 1) := by decide +kernel
theorem d_Mod_open_199 : decode b_Mod_open 199 = .ok (.iadd, 1) := by decide +kernel
theorem d_Mod_open_200 : decode b_Mod_open 200 = .ok (.istore_n 3, 1) := by decide +kernel
theorem d_Mod_open_201 : decode b_Mod_open 201 = .ok (.aload_n 0, 1) := by decide +kernel
theorem d_Mod_open_202 : decode b_Mod_open 202 = .ok (.getfield 40, 3) := by decide +kernel
theorem d_Mod_open_205 : decode b_Mod_open 205 = .ok (.iload_n 3, 1) := by decide +kernel
theorem d_Mod_open_206 : decode b_Mod_open 206 = .ok (.aload_n 0, 1) := by decide +kernel
theorem d_Mod_open_207 : decode b_Mod_open 207 = .ok (.getfield 95, 3) := by decide +kernel
theorem d_Mod_open_210 : decode b_Mod_open 210 = .ok (.iastore, 1) := by decide +kernel
theorem d_Mod_open_211 : decode b_Mod_open 211 = .ok (.iconst 0, 1) := by decide +kernel
theorem d_Mod_open_212 : decode b_Mod_open 212 = .ok (.istore 4, 2) := by decide +kernel
theorem d_Mod_open_214 : decode b_Mod_open 214 = .ok (.iload 4, 2) := by decide +kernel
theorem d_Mod_open_216 : decode b_Mod_open 216 = .ok (.aload_n 0, 1) := by decide +kernel
theorem d_Mod_open_217 : decode b_Mod_open 217 = .ok (.getfield 95, 3) := by decide +kernel
theorem d_Mod_open_220 : decode b_Mod_open 220 = .ok (.if_icmp .ge 29, 3) := by decide +kernel
theorem d_Mod_open_223 : decode b_Mod_open 223 = .ok (.aload_n 0, 1) := by decide +kernel
theorem d_Mod_open_224 : decode b_Mod_open 224 = .ok (.getfield 37, 3) := by decide +kernel
theorem d_Mod_open_227 : decode b_Mod_open 227 = .ok (.sipush 200, 3) := by decide +kernel
theorem d_Mod_open_230 : decode b_Mod_open 230 = .ok (.iload_n 3, 1) := by decide +kernel
theorem d_Mod_open_231 : decode b_Mod_open 231 = .ok (.imul, 1) := by decide +kernel
theorem d_Mod_open_232 : decode b_Mod_open 232 = .ok (.iload 4, 2) := by decide +kernel
theorem d_Mod_open_234 : decode b_Mod_open 234 = .ok (.iadd, 1) := by decide +kernel
theorem d_Mod_open_235 : decode b_Mod_open 235 = .ok (.aload_n 0, 1) := by decide +kernel
theorem d_Mod_open_236 : decode b_Mod_open 236 = .ok (.getfield 19, 3) := by decide +kernel
theorem d_Mod_open_239 : decode b_Mod_open 239 = .ok (.iload 4, 2) := by decide +kernel
theorem d_Mod_open_241 : decode b_Mod_open 241 = .ok (.iaload, 1) := by decide +kernel
theorem d_Mod_open_242 : decode b_Mod_open 242 = .ok (.iastore, 1) := by decide +kernel
theorem d_Mod_open_243 : decode b_Mod_open 243 = .ok (.iinc 4 1, 3) := by decide +kernel
theorem d_Mod_open_246 : decode b_Mod_open 246 = .ok (.goto (-32), 3) := by decide +kernel
theorem d_Mod_open_249 : decode b_Mod_open 249 = .ok (.aload_n 0, 1) := by decide +kernel
theorem d_Mod_open_250 : decode b_Mod_open 250 = .ok (.getfield 43, 3) := by decide +kernel
theorem d_Mod_open_253 : decode b_Mod_open 253 = .ok (.aload_n 0, 1) := by decide +kernel
theorem d_Mod_open_254 : decode b_Mod_open 254 = .ok (.getfield 108, 3) := by decide +kernel
theorem d_Mod_open_257 : decode b_Mod_open 257 = .ok (.dup2, 1) := by decide +kernel
theorem d_Mod_open_258 : decode b_Mod_open 258 = .ok (.iaload, 1) := by decide +kernel
theorem d_Mod_open_259 : decode b_Mod_open 259 = .ok (.iconst 1, 1) := by decide +kernel
theorem d_Mod_open_260 : decode b_Mod_open 260 = .ok (.iadd, 1) := by decide +kernel
theorem d_Mod_open_261 : decode b_Mod_open 261 = .ok (.iastore, 1) := by decide +kernel
theorem d_Mod_open_262 : decode b_Mod_open 262 = .ok (.aload_n 0, 1) := by decide +kernel
theorem d_Mod_open_263 : decode b_Mod_open 263 = .ok (.iload_n 1, 1) := by decide +kernel
theorem d_Mod_open_264 : decode b_Mod_open 264 = .ok (.invokevirtual 166, 3) := by decide +kernel
theorem d_Mod_open_267 : decode b_Mod_open 267 = .ok (.iconst 1, 1) := by decide +kernel
theorem d_Mod_open_268 : decode b_Mod_open 268 = .ok (.iadd, 1) := by decide +kernel
theorem d_Mod_open_269 : decode b_Mod_open 269 = .ok (.istore_n 1, 1) := by decide +kernel
theorem d_Mod_open_270 : decode b_Mod_open 270 = .ok (.goto (-200), 3) := by decide +kernel
theorem d_Mod_open_273 : decode b_Mod_open 273 = .ok (.aload_n 0, 1) := by decide +kernel
theorem d_Mod_open_274 : decode b_Mod_open 274 = .ok (.getfield 108, 3) := by decide +kernel
theorem d_Mod_open_277 : decode b_Mod_open 277 = .ok (.iconst 1, 1) := by decide +kernel
theorem d_Mod_open_278 : decode b_Mod_open 278 = .ok (.iadd, 1) := by decide +kernel
theorem d_Mod_open_279 : decode b_Mod_open 279 = .ok (.ireturn, 1) := by decide +kernel
theorem d_Mod_close_0 : decode b_Mod_close 0 = .ok (.aload_n 0, 1) := by decide +kernel
theorem d_Mod_close_1 : decode b_Mod_close 1 = .ok (.getfield 108, 3) := by decide +kernel
theorem d_Mod_close_4 : decode b_Mod_close 4 = .ok (.ifCond .ne 6, 3) := by decide +kernel
theorem d_Mod_close_7 : decode b_Mod_close 7 = .ok (.bipush (-3), 2) := by decide +kernel
theorem d_Mod_close_9 : decode b_Mod_close 9 = .ok (.ireturn, 1) := by decide +kernel
theorem d_Mod_close_10 : decode b_Mod_close 10 = .ok (.aload_n 0, 1) := by decide +kernel
theorem d_Mod_close_11 : decode b_Mod_close 11 = .ok (.getfield 105, 3) := by decide +kernel
theorem d_Mod_close_14 : decode b_Mod_close 14 = .ok (.iconst 1, 1) := by decide +kernel
theorem d_Mod_close_15 : decode b_Mod_close 15 = .ok (.isub, 1) := by decide +kernel
theorem d_Mod_close_16 : decode b_Mod_close 16 = .ok (.istore_n 1, 1) := by decide +kernel
theorem d_Mod_close_17 : decode b_Mod_close 17 = .ok (.iload_n 1, 1) := by decide +kernel
theorem d_Mod_close_18 : decode b_Mod_close 18 = .ok (.ifCond .lt 27, 3) := by decide +kernel
theorem d_Mod_close_21 : decode b_Mod_close 21 = .ok (.aload_n 0, 1) := by decide +kernel
theorem d_Mod_close_22 : decode b_Mod_close 22 = .ok (.getfield 34, 3) := by decide +kernel
theorem d_Mod_close_25 : decode b_Mod_close 25 = .ok (.iload_n 1, 1) := by decide +kernel
theorem d_Mod_close_26 : decode b_Mod_close 26 = .ok (.iaload, 1) := by decide +kernel
theorem d_Mod_close_27 : decode b_Mod_close 27 = .ok (.aload_n 0, 1) := by decide +kernel
theorem d_Mod_close_28 : decode b_Mod_close 28 = .ok (.getfield 108, 3) := by decide +kernel
theorem d_Mod_close_31 : decode b_Mod_close 31 = .ok (.if_icmp .ne 8, 3) := by decide +kernel
theorem d_Mod_close_34 : decode b_Mod_close 34 = .ok (.aload_n 0, 1) := by decide +kernel
theorem d_Mod_close_35 : decode b_Mod_close 35 = .ok (.iload_n 1, 1) := by decide +kernel
theorem d_Mod_close_36 : decode b_Mod_close 36 = .ok (.invokevirtual 134, 3) := by decide +kernel
theorem d_Mod_close_39 : decode b_Mod_close 39 = .ok (.iinc 1 (-1), 3) := by decide +kernel
theorem d_Mod_close_42 : decode b_Mod_close 42 = .ok (.goto (-25), 3) := by decide +kernel
theorem d_Mod_close_45 : decode b_Mod_close 45 = .ok (.aload_n 0, 1) := by decide +kernel
theorem d_Mod_close_46 : decode b_Mod_close 46 = .ok (.dup, 1) := by decide +kernel
theorem d_Mod_close_47 : decode b_Mod_close 47 = .ok (.getfield 108, 3) := by decide +kernel
theorem d_Mod_close_50 : decode b_Mod_close 50 = .ok (.iconst 1, 1) := by decide +kernel
theorem d_Mod_close_51 : decode b_Mod_close 51 = .ok (.isub, 1) := by decide +kernel
theorem d_Mod_close_52 : decode b_Mod_close 52 = .ok (.putfield 108, 3) := by decide +kernel
theorem d_Mod_close_55 : decode b_Mod_close 55 = .ok (.aload_n 0, 1) := by decide +kernel
theorem d_Mod_close_56 : decode b_Mod_close 56 = .ok (.getfield 108, 3) := by decide +kernel
theorem d_Mod_close_59 : decode b_Mod_close 59 = .ok (.iconst 1, 1) := by decide +kernel
theorem d_Mod_close_60 : decode b_Mod_close 60 = .ok (.iadd, 1) := by decide +kernel
theorem d_Mod_close_61 : decode b_Mod_close 61 = .ok (.ireturn, 1) := by decide +kernel
theorem d_Mod_subject_0 : decode b_Mod_subject 0 = .ok (.aload_n 0, 1) := by decide +kernel
theorem d_Mod_subject_1 : decode b_Mod_subject 1 = .ok (.invokevirtual 143, 3) := by decide +kernel
theorem d_Mod_subject_4 : decode b_Mod_subject 4 = .ok (.aload_n 0, 1) := by decide +kernel
theorem d_Mod_subject_5 : decode b_Mod_subject 5 = .ok (.getfield 72, 3) := by decide +kernel
theorem d_Mod_subject_8 : decode b_Mod_subject 8 = .ok (.sipush 200, 3) := by decide +kernel
theorem d_Mod_subject_11 : decode b_Mod_subject 11 = .ok (.if_icmp .le 6, 3) := by decide +kernel
theorem d_Mod_subject_14 : decode b_Mod_subject 14 = .ok (.bipush (-4), 2) := by decide +kernel
theorem d_Mod_subject_16 : decode b_Mod_subject 16 = .ok (.ireturn, 1) := by decide +kernel
theorem d_Mod_subject_17 : decode b_Mod_subject 17 = .ok (.aload_n 0, 1) := by decide +kernel
theorem d_Mod_subject_18 : decode b_Mod_subject 18 = .ok (.aload_n 0, 1) := by decide +kernel
theorem d_Mod_subject_19 : decode b_Mod_subject 19 = .ok (.getfield 72, 3) := by decide +kernel
theorem d_Mod_subject_22 : decode b_Mod_subject 22 = .ok (.putfield 173, 3) := by decide +kernel
theorem d_Mod_subject_25 : decode b_Mod_subject 25 = .ok (.iconst 0, 1) := by decide +kernel
theorem d_Mod_subject_26 : decode b_Mod_subject 26 = .ok (.istore_n 2, 1) := by decide +kernel
theorem d_Mod_subject_27 : decode b_Mod_subject 27 = .ok (.iload_n 2, 1) := by decide +kernel
theorem d_Mod_subject_28 : decode b_Mod_subject 28 = .ok (.aload_n 0, 1) := by decide +kernel
theorem d_Mod_subject_29 : decode b_Mod_subject 29 = .ok (.getfield 72, 3) := by decide +kernel
theorem d_Mod_subject_32 : decode b_Mod_subject 32 = .ok (.if_icmp .ge 37, 3) := by decide +kernel
theorem d_Mod_subject_35 : decode b_Mod_subject 35 = .ok (.aload_n 0, 1) := by decide +kernel
theorem d_Mod_subject_36 : decode b_Mod_subject 36 = .ok (.getfield 46, 3) := by decide +kernel
theorem d_Mod_subject_39 : decode b_Mod_subject 39 = .ok (.iload_n 2, 1) := by decide +kernel
theorem d_Mod_subject_40 : decode b_Mod_subject 40 = .ok (.iload_n 1, 1) := by decide +kernel
theorem d_Mod_subject_41 : decode b_Mod_subject 41 = .ok (.ifCond .eq 15, 3) := by decide +kernel
theorem d_Mod_subject_44 : decode b_Mod_subject 44 = .ok (.aload_n 0, 1) := by decide +kernel
theorem d_Mod_subject_45 : decode b_Mod_subject 45 = .ok (.getfield 13, 3) := by decide +kernel
theorem d_Mod_subject_48 : decode b_Mod_subject 48 = .ok (.iload_n 2, 1) := by decide +kernel
theorem d_Mod_subject_49 : decode b_Mod_subject 49 = .ok (.iaload, 1) := by decide +kernel
theorem d_Mod_subject_50 : decode b_Mod_subject 50 = .ok (.invokestatic 121, 3) := by decide +kernel
theorem d_Mod_subject_53 : decode b_Mod_subject 53 = .ok (.goto 9, 3) := by decide +kernel
theorem d_Mod_subject_56 : decode b_Mod_subject 56 = .ok (.aload_n 0, 1) := by decide +kernel
theorem d_Mod_subject_57 : decode b_Mod_subject 57 = .ok (.getfield 13, 3) := by decide +kernel
theorem d_Mod_subject_60 : decode b_Mod_subject 60 = .ok (.iload_n 2, 1) := by decide +kernel
theorem d_Mod_subject_61 : decode b_Mod_subject 61 = .ok (.iaload, 1) := by decide +kernel
theorem d_Mod_subject_62 : decode b_Mod_subject 62 = .ok (.iastore, 1) := by decide +kernel
theorem d_Mod_subject_63 : decode b_Mod_subject 63 = .ok (.iinc 2 1, 3) := by decide +kernel
theorem d_Mod_subject_66 : decode b_Mod_subject 66 = .ok (.goto (-39), 3) := by decide +kernel
theorem d_Mod_subject_69 : decode b_Mod_subject 69 = .ok (.aload_n 0, 1) := by decide +kernel
theorem d_Mod_subject_70 : decode b_Mod_subject 70 = .ok (.getfield 72, 3) := by decide +kernel
theorem d_Mod_subject_73 : decode b_Mod_subject 73 = .ok (.ireturn, 1) := by decide +kernel
theorem d_Mod_blanks_0 : decode b_Mod_blanks 0 = .ok (.aload_n 0, 1) := by decide +kernel
theorem d_Mod_blanks_1 : decode b_Mod_blanks 1 = .ok (.invokevirtual 85, 3) := by decide +kernel
theorem d_Mod_blanks_4 : decode b_Mod_blanks 4 = .ok (.bipush 32, 2) := by decide +kernel
theorem d_Mod_blanks_6 : decode b_Mod_blanks 6 = .ok (.if_icmp .ne 16, 3) := by decide +kernel
theorem d_Mod_blanks_9 : decode b_Mod_blanks 9 = .ok (.aload_n 0, 1) := by decide +kernel
theorem d_Mod_blanks_10 : decode b_Mod_blanks 10 = .ok (.dup, 1) := by decide +kernel
theorem d_Mod_blanks_11 : decode b_Mod_blanks 11 = .ok (.getfield 78, 3) := by decide +kernel
theorem d_Mod_blanks_14 : decode b_Mod_blanks 14 = .ok (.iconst 1, 1) := by decide +kernel
theorem d_Mod_blanks_15 : decode b_Mod_blanks 15 = .ok (.iadd, 1) := by decide +kernel
theorem d_Mod_blanks_16 : decode b_Mod_blanks 16 = .ok (.putfield 78, 3) := by decide +kernel
theorem d_Mod_blanks_19 : decode b_Mod_blanks 19 = .ok (.goto (-19), 3) := by decide +kernel
theorem d_Mod_blanks_22 : decode b_Mod_blanks 22 = .ok (.return_, 1) := by decide +kernel
theorem d_Mod_number_0 : decode b_Mod_number 0 = .ok (.iconst 0, 1) := by decide +kernel
theorem d_Mod_number_1 : decode b_Mod_number 1 = .ok (.istore_n 1, 1) := by decide +kernel
theorem d_Mod_number_2 : decode b_Mod_number 2 = .ok (.aload_n 0, 1) := by decide +kernel
theorem d_Mod_number_3 : decode b_Mod_number 3 = .ok (.getfield 78, 3) := by decide +kernel
theorem d_Mod_number_6 : decode b_Mod_number 6 = .ok (.istore_n 2, 1) := by decide +kernel
theorem d_Mod_number_7 : decode b_Mod_number 7 = .ok (.aload_n 0, 1) := by decide +kernel
theorem d_Mod_number_8 : decode b_Mod_number 8 = .ok (.invokevirtual 85, 3) := by decide +kernel
theorem d_Mod_number_11 : decode b_Mod_number 11 = .ok (.invokestatic 81, 3) := by decide +kernel
theorem d_Mod_number_14 : decode b_Mod_number 14 = .ok (.ifCond .ne 11, 3) := by decide +kernel
theorem d_Mod_number_17 : decode b_Mod_number 17 = .ok (.aload_n 0, 1) := by decide +kernel
theorem d_Mod_number_18 : decode b_Mod_number 18 = .ok (.aload_n 0, 1) := by decide +kernel
theorem d_Mod_number_19 : decode b_Mod_number 19 = .ok (.getfield 78, 3) := by decide +kernel
theorem d_Mod_number_22 : decode b_Mod_number 22 = .ok (.invokevirtual 92, 3) := by decide +kernel
theorem d_Mod_number_25 : decode b_Mod_number 25 = .ok (.aload_n 0, 1) := by decide +kernel
theorem d_Mod_number_26 : decode b_Mod_number 26 = .ok (.getfield 75, 3) := by decide +kernel
theorem d_Mod_number_29 : decode b_Mod_number 29 = .ok (.ifCond .ge 70, 3) := by decide +kernel
theorem d_Mod_number_32 : decode b_Mod_number 32 = .ok (.aload_n 0, 1) := by decide +kernel
theorem d_Mod_number_33 : decode b_Mod_number 33 = .ok (.invokevirtual 85, 3) := by decide +kernel
theorem d_Mod_number_36 : decode b_Mod_number 36 = .ok (.invokestatic 89, 3) := by decide +kernel
theorem d_Mod_number_39 : decode b_Mod_number 39 = .ok (.ifCond .eq 60, 3) := by decide +kernel
theorem d_Mod_number_42 : decode b_Mod_number 42 = .ok (.aload_n 0, 1) := by decide +kernel
theorem d_Mod_number_43 : decode b_Mod_number 43 = .ok (.invokevirtual 85, 3) := by decide +kernel
theorem d_Mod_number_46 : decode b_Mod_number 46 = .ok (.invokestatic 81, 3) := by decide +kernel
theorem d_Mod_number_49 : decode b_Mod_number 49 = .ok (.ifCond .eq 13, 3) := by decide +kernel
theorem d_Mod_number_52 : decode b_Mod_number 52 = .ok (.aload_n 0, 1) := by decide +kernel
theorem d_Mod_number_53 : decode b_Mod_number 53 = .ok (.getfield 78, 3) := by decide +kernel
theorem d_Mod_number_56 : decode b_Mod_number 56 = .ok (.iload_n 2, 1) := by decide +kernel
theorem d_Mod_number_57 : decode b_Mod_number 57 = .ok (.isub, 1) := by decide +kernel
theorem d_Mod_number_58 : decode b_Mod_number 58 = .ok (.iconst 4, 1) := by decide +kernel
theorem d_Mod_number_59 : decode b_Mod_number 59 = .ok (.if_icmp .ne 14, 3) := by decide +kernel
theorem d_Mod_number_62 : decode b_Mod_number 62 = .ok (.aload_n 0, 1) := by decide +kernel
theorem d_Mod_number_63 : decode b_Mod_number 63 = .ok (.aload_n 0, 1) := by decide +kernel
theorem d_Mod_number_64 : decode b_Mod_number 64 = .ok (.getfield 78, 3) := by decide +kernel
theorem d_Mod_number_67 : decode b_Mod_number 67 = .ok (.invokevirtual 92, 3) := by decide +kernel
theorem d_Mod_number_70 : decode b_Mod_number 70 = .ok (.goto (-45), 3) := by decide +kernel
theorem d_Mod_number_73 : decode b_Mod_number 73 = .ok (.bipush 10, 2) := by decide +kernel
theorem d_Mod_number_75 : decode b_Mod_number 75 = .ok (.iload_n 1, 1) := by decide +kernel
theorem d_Mod_number_76 : decode b_Mod_number 76 = .ok (.imul, 1) := by decide +kernel
theorem d_Mod_number_77 : decode b_Mod_number 77 = .ok (.aload_n 0, 1) := by decide +kernel
theorem d_Mod_number_78 : decode b_Mod_number 78 = .ok (.invokevirtual 85, 3) := by decide +kernel
theorem d_Mod_number_81 : decode b_Mod_number 81 = .ok (.iadd, 1) := by decide +kernel
theorem d_Mod_number_82 : decode b_Mod_number 82 = .ok (.bipush 48, 2) := by decide +kernel
theorem d_Mod_number_84 : decode b_Mod_number 84 = .ok (.isub, 1) := by decide +kernel
theorem d_Mod_number_85 : decode b_Mod_number 85 = .ok (.istore_n 1, 1) := by decide +kernel
theorem d_Mod_number_86 : decode b_Mod_number 86 = .ok (.aload_n 0, 1) := by decide +kernel
theorem d_Mod_number_87 : decode b_Mod_number 87 = .ok (.dup, 1) := by decide +kernel
theorem d_Mod_number_88 : decode b_Mod_number 88 = .ok (.getfield 78, 3) := by decide +kernel
theorem d_Mod_number_91 : decode b_Mod_number 91 = .ok (.iconst 1, 1) := by decide +kernel
theorem d_Mod_number_92 : decode b_Mod_number 92 = .ok (.iadd, 1) := by decide +kernel
theorem d_Mod_number_93 : decode b_Mod_number 93 = .ok (.putfield 78, 3) := by decide +kernel
theorem d_Mod_number_96 : decode b_Mod_number 96 = .ok (.goto (-71), 3) := by decide +kernel
theorem d_Mod_number_99 : decode b_Mod_number 99 = .ok (.iload_n 1, 1) := by decide +kernel
theorem d_Mod_number_100 : decode b_Mod_number 100 = .ok (.ireturn, 1) := by decide +kernel
theorem d_Mod_string_0 : decode b_Mod_string 0 = .ok (.aload_n 0, 1) := by decide +kernel
theorem d_Mod_string_1 : decode b_Mod_string 1 = .ok (.getfield 78, 3) := by decide +kernel
theorem d_Mod_string_4 : decode b_Mod_string 4 = .ok (.istore_n 1, 1) := by decide +kernel
theorem d_Mod_string_5 : decode b_Mod_string 5 = .ok (.aload_n 0, 1) := by decide +kernel
theorem d_Mod_string_6 : decode b_Mod_string 6 = .ok (.invokevirtual 85, 3) := by decide +kernel
theorem d_Mod_string_9 : decode b_Mod_string 9 = .ok (.istore_n 2, 1) := by decide +kernel
theorem d_Mod_string_10 : decode b_Mod_string 10 = .ok (.aload_n 0, 1) := by decide +kernel
theorem d_Mod_string_11 : decode b_Mod_string 11 = .ok (.iconst 0, 1) := by decide +kernel
theorem d_Mod_string_12 : decode b_Mod_string 12 = .ok (.putfield 176, 3) := by decide +kernel
theorem d_Mod_string_15 : decode b_Mod_string 15 = .ok (.aload_n 0, 1) := by decide +kernel
theorem d_Mod_string_16 : decode b_Mod_string 16 = .ok (.dup, 1) := by decide +kernel
theorem d_Mod_string_17 : decode b_Mod_string 17 = .ok (.getfield 78, 3) := by decide +kernel
theorem d_Mod_string_20 : decode b_Mod_string 20 = .ok (.iconst 1, 1) := by decide +kernel
theorem d_Mod_string_21 : decode b_Mod_string 21 = .ok (.iadd, 1) := by decide +kernel
theorem d_Mod_string_22 : decode b_Mod_string 22 = .ok (.putfield 78, 3) := by decide +kernel
theorem d_Mod_string_25 : decode b_Mod_string 25 = .ok (.iconst 1, 1) := by decide +kernel
theorem d_Mod_string_26 : decode b_Mod_string 26 = .ok (.istore_n 3, 1) := by decide +kernel
theorem d_Mod_string_27 : decode b_Mod_string 27 = .ok (.iload_n 3, 1) := by decide +kernel
theorem d_Mod_string_28 : decode b_Mod_string 28 = .ok (.ifCond .eq 155, 3) := by decide +kernel
theorem d_Mod_string_31 : decode b_Mod_string 31 = .ok (.aload_n 0, 1) := by decide +kernel
theorem d_Mod_string_32 : decode b_Mod_string 32 = .ok (.getfield 75, 3) := by decide +kernel
theorem d_Mod_string_35 : decode b_Mod_string 35 = .ok (.ifCond .ge 148, 3) := by decide +kernel
theorem d_Mod_string_38 : decode b_Mod_string 38 = .ok (.aload_n 0, 1) := by decide +kernel
theorem d_Mod_string_39 : decode b_Mod_string 39 = .ok (.invokevirtual 85, 3) := by decide +kernel
theorem d_Mod_string_42 : decode b_Mod_string 42 = .ok (.iload_n 2, 1) := by decide +kernel
theorem d_Mod_string_43 : decode b_Mod_string 43 = .ok (.if_icmp .ne 35, 3) := by decide +kernel
theorem d_Mod_string_46 : decode b_Mod_string 46 = .ok (.aload_n 0, 1) := by decide +kernel
theorem d_Mod_string_47 : decode b_Mod_string 47 = .ok (.getfield 78, 3) := by decide +kernel
theorem d_Mod_string_50 : decode b_Mod_string 50 = .ok (.iconst 1, 1) := by decide +kernel
theorem d_Mod_string_51 : decode b_Mod_string 51 = .ok (.iadd, 1) := by decide +kernel
theorem d_Mod_string_52 : decode b_Mod_string 52 = .ok (.aload_n 0, 1) := by decide +kernel
theorem d_Mod_string_53 : decode b_Mod_string 53 = .ok (.getfield 72, 3) := by decide +kernel
theorem d_Mod_string_56 : decode b_Mod_string 56 = .ok (.if_icmp .ge 22, 3) := by decide +kernel
theorem d_Mod_string_59 : decode b_Mod_string 59 = .ok (.aload_n 0, 1) := by decide +kernel
theorem d_Mod_string_60 : decode b_Mod_string 60 = .ok (.getfield 13, 3) := by decide +kernel
theorem d_Mod_string_63 : decode b_Mod_string 63 = .ok (.aload_n 0, 1) := by decide +kernel
theorem d_Mod_string_64 : decode b_Mod_string 64 = .ok (.getfield 78, 3) := by decide +kernel
theorem d_Mod_string_67 : decode b_Mod_string 67 = .ok (.iconst 1, 1) := by decide +kernel
theorem d_Mod_string_68 : decode b_Mod_string 68 = .ok (.iadd, 1) := by decide +kernel
theorem d_Mod_string_69 : decode b_Mod_string 69 = .ok (.iaload, 1) := by decide +kernel
theorem d_Mod_string_70 : decode b_Mod_string 70 = .ok (.iload_n 2, 1) := by decide +kernel
theorem d_Mod_string_71 : decode b_Mod_string 71 = .ok (.if_icmp .ne 7, 3) := by decide +kernel
theorem d_Mod_string_74 : decode b_Mod_string 74 = .ok (.iconst 1, 1) := by decide +kernel
theorem d_Mod_string_75 : decode b_Mod_string 75 = .ok (.goto 4, 3) := by decide +kernel
theorem d_Mod_string_78 : decode b_Mod_string 78 = .ok (.iconst 0, 1) := by decide +kernel
theorem d_Mod_string_79 : decode b_Mod_string 79 = .ok (.istore 4, 2) := by decide +kernel
theorem d_Mod_string_81 : decode b_Mod_string 81 = .ok (.aload_n 0, 1) := by decide +kernel
theorem d_Mod_string_82 : decode b_Mod_string 82 = .ok (.getfield 78, 3) := by decide +kernel
theorem d_Mod_string_85 : decode b_Mod_string 85 = .ok (.aload_n 0, 1) := by decide +kernel
theorem d_Mod_string_86 : decode b_Mod_string 86 = .ok (.getfield 72, 3) := by decide +kernel
theorem d_Mod_string_89 : decode b_Mod_string 89 = .ok (.if_icmp .lt 11, 3) := by decide +kernel
theorem d_Mod_string_92 : decode b_Mod_string 92 = .ok (.aload_n 0, 1) := by decide +kernel
theorem d_Mod_string_93 : decode b_Mod_string 93 = .ok (.iload_n 1, 1) := by decide +kernel
theorem d_Mod_string_94 : decode b_Mod_string 94 = .ok (.invokevirtual 92, 3) := by decide +kernel
theorem d_Mod_string_97 : decode b_Mod_string 97 = .ok (.goto 83, 3) := by decide +kernel
theorem d_Mod_string_100 : decode b_Mod_string 100 = .ok (.aload_n 0, 1) := by decide +kernel
theorem d_Mod_string_101 : decode b_Mod_string 101 = .ok (.invokevirtual 85, 3) := by decide +kernel
theorem d_Mod_string_104 : decode b_Mod_string 104 = .ok (.iload_n 2, 1) := by decide +kernel
theorem d_Mod_string_105 : decode b_Mod_string 105 = .ok (.if_icmp .ne 13, 3) := by decide +kernel
theorem d_Mod_string_108 : decode b_Mod_string 108 = .ok (.iload 4, 2) := by decide +kernel
theorem d_Mod_string_110 : decode b_Mod_string 110 = .ok (.ifCond .ne 8, 3) := by decide +kernel
theorem d_Mod_string_113 : decode b_Mod_string 113 = .ok (.iconst 0, 1) := by decide +kernel
theorem d_Mod_string_114 : decode b_Mod_string 114 = .ok (.istore_n 3, 1) := by decide +kernel
theorem d_Mod_string_115 : decode b_Mod_string 115 = .ok (.goto 65, 3) := by decide +kernel
theorem d_Mod_string_118 : decode b_Mod_string 118 = .ok (.aload_n 0, 1) := by decide +kernel
theorem d_Mod_string_119 : decode b_Mod_string 119 = .ok (.getfield 176, 3) := by decide +kernel
theorem d_Mod_string_122 : decode b_Mod_string 122 = .ok (.bipush 40, 2) := by decide +kernel
theorem d_Mod_string_124 : decode b_Mod_string 124 = .ok (.if_icmp .ne 14, 3) := by decide +kernel
theorem d_Mod_string_127 : decode b_Mod_string 127 = .ok (.aload_n 0, 1) := by decide +kernel
theorem d_Mod_string_128 : decode b_Mod_string 128 = .ok (.aload_n 0, 1) := by decide +kernel
theorem d_Mod_string_129 : decode b_Mod_string 129 = .ok (.getfield 78, 3) := by decide +kernel
theorem d_Mod_string_132 : decode b_Mod_string 132 = .ok (.invokevirtual 92, 3) := by decide +kernel
theorem d_Mod_string_135 : decode b_Mod_string 135 = .ok (.goto 45, 3) := by decide +kernel
theorem d_Mod_string_138 : decode b_Mod_string 138 = .ok (.aload_n 0, 1) := by decide +kernel
theorem d_Mod_string_139 : decode b_Mod_string 139 = .ok (.getfield 49, 3) := by decide +kernel
theorem d_Mod_string_142 : decode b_Mod_string 142 = .ok (.aload_n 0, 1) := by decide +kernel
theorem d_Mod_string_143 : decode b_Mod_string 143 = .ok (.getfield 176, 3) := by decide +kernel
theorem d_Mod_string_146 : decode b_Mod_string 146 = .ok (.aload_n 0, 1) := by decide +kernel
theorem d_Mod_string_147 : decode b_Mod_string 147 = .ok (.invokevirtual 85, 3) := by decide +kernel
theorem d_Mod_string_150 : decode b_Mod_string 150 = .ok (.iastore, 1) := by decide +kernel
theorem d_Mod_string_151 : decode b_Mod_string 151 = .ok (.aload_n 0, 1) := by decide +kernel
theorem d_Mod_string_152 : decode b_Mod_string 152 = .ok (.dup, 1) := by decide +kernel
theorem d_Mod_string_153 : decode b_Mod_string 153 = .ok (.getfield 176, 3) := by decide +kernel
theorem d_Mod_string_156 : decode b_Mod_string 156 = .ok (.iconst 1, 1) := by decide +kernel
theorem d_Mod_string_157 : decode b_Mod_string 157 = .ok (.iadd, 1) := by decide +kernel
theorem d_Mod_string_158 : decode b_Mod_string 158 = .ok (.putfield 176, 3) := by decide +kernel
theorem d_Mod_string_161 : decode b_Mod_string 161 = .ok (.aload_n 0, 1) := by decide +kernel
theorem d_Mod_string_162 : decode b_Mod_string 162 = .ok (.dup, 1) := by decide +kernel
theorem d_Mod_string_163 : decode b_Mod_string 163 = .ok (.getfield 78, 3) := by decide +kernel
theorem d_Mod_string_166 : decode b_Mod_string 166 = .ok (.iload 4, 2) := by decide +kernel
theorem d_Mod_string_168 : decode b_Mod_string 168 = .ok (.ifCond .eq 7, 3) := by decide +kernel
theorem d_Mod_string_171 : decode b_Mod_string 171 = .ok (.iconst 2, 1) := by decide +kernel
theorem d_Mod_string_172 : decode b_Mod_string 172 = .ok (.goto 4, 3) := by decide +kernel
theorem d_Mod_string_175 : decode b_Mod_string 175 = .ok (.iconst 1, 1) := by decide +kernel
theorem d_Mod_string_176 : decode b_Mod_string 176 = .ok (.iadd, 1) := by decide +kernel
theorem d_Mod_string_177 : decode b_Mod_string 177 = .ok (.putfield 78, 3) := by decide +kernel
theorem d_Mod_string_180 : decode b_Mod_string 180 = .ok (.goto (-153), 3) := by decide +kernel
theorem d_Mod_string_183 : decode b_Mod_string 183 = .ok (.aload_n 0, 1) := by decide +kernel
theorem d_Mod_string_184 : decode b_Mod_string 184 = .ok (.dup, 1) := by decide +kernel
theorem d_Mod_string_185 : decode b_Mod_string 185 = .ok (.getfield 78, 3) := by decide +kernel
theorem d_Mod_string_188 : decode b_Mod_string 188 = .ok (.iconst 1, 1) := by decide +kernel
theorem d_Mod_string_189 : decode b_Mod_string 189 = .ok (.iadd, 1) := by decide +kernel
theorem d_Mod_string_190 : decode b_Mod_string 190 = .ok (.putfield 78, 3) := by decide +kernel
theorem d_Mod_string_193 : decode b_Mod_string 193 = .ok (.return_, 1) := by decide +kernel
theorem d_Mod_token_0 : decode b_Mod_token 0 = .ok (.aload_n 0, 1) := by decide +kernel
theorem d_Mod_token_1 : decode b_Mod_token 1 = .ok (.invokevirtual 85, 3) := by decide +kernel
theorem d_Mod_token_4 : decode b_Mod_token 4 = .ok (.istore_n 1, 1) := by decide +kernel
theorem d_Mod_token_5 : decode b_Mod_token 5 = .ok (.aload_n 0, 1) := by decide +kernel
theorem d_Mod_token_6 : decode b_Mod_token 6 = .ok (.aload_n 0, 1) := by decide +kernel
theorem d_Mod_token_7 : decode b_Mod_token 7 = .ok (.getfield 78, 3) := by decide +kernel
theorem d_Mod_token_10 : decode b_Mod_token 10 = .ok (.putfield 179, 3) := by decide +kernel
theorem d_Mod_token_13 : decode b_Mod_token 13 = .ok (.iload_n 1, 1) := by decide +kernel
theorem d_Mod_token_14 : decode b_Mod_token 14 = .ok (.bipush 39, 2) := by decide +kernel
theorem d_Mod_token_16 : decode b_Mod_token 16 = .ok (.if_icmp .eq 9, 3) := by decide +kernel
theorem d_Mod_token_19 : decode b_Mod_token 19 = .ok (.iload_n 1, 1) := by decide +kernel
theorem d_Mod_token_20 : decode b_Mod_token 20 = .ok (.bipush 34, 2) := by decide +kernel
theorem d_Mod_token_22 : decode b_Mod_token 22 = .ok (.if_icmp .ne 15, 3) := by decide +kernel
theorem d_Mod_token_25 : decode b_Mod_token 25 = .ok (.aload_n 0, 1) := by decide +kernel
theorem d_Mod_token_26 : decode b_Mod_token 26 = .ok (.iconst 2, 1) := by decide +kernel
theorem d_Mod_token_27 : decode b_Mod_token 27 = .ok (.putfield 182, 3) := by decide +kernel
theorem d_Mod_token_30 : decode b_Mod_token 30 = .ok (.aload_n 0, 1) := by decide +kernel
theorem d_Mod_token_31 : decode b_Mod_token 31 = .ok (.invokevirtual 185, 3) := by decide +kernel
theorem d_Mod_token_34 : decode b_Mod_token 34 = .ok (.goto 259, 3) := by decide +kernel
theorem d_Mod_token_37 : decode b_Mod_token 37 = .ok (.iload_n 1, 1) := by decide +kernel
theorem d_Mod_token_38 : decode b_Mod_token 38 = .ok (.bipush 40, 2) := by decide +kernel
theorem d_Mod_token_40 : decode b_Mod_token 40 = .ok (.if_icmp .ne 90, 3) := by decide +kernel
theorem d_Mod_token_43 : decode b_Mod_token 43 = .ok (.aload_n 0, 1) := by decide +kernel
theorem d_Mod_token_44 : decode b_Mod_token 44 = .ok (.iconst 3, 1) := by decide +kernel
theorem d_Mod_token_45 : decode b_Mod_token 45 = .ok (.putfield 182, 3) := by decide +kernel
theorem d_Mod_token_48 : decode b_Mod_token 48 = .ok (.aload_n 0, 1) := by decide +kernel
theorem d_Mod_token_49 : decode b_Mod_token 49 = .ok (.dup, 1) := by decide +kernel
theorem d_Mod_token_50 : decode b_Mod_token 50 = .ok (.getfield 78, 3) := by decide +kernel
theorem d_Mod_token_53 : decode b_Mod_token 53 = .ok (.iconst 1, 1) := by decide +kernel
theorem d_Mod_token_54 : decode b_Mod_token 54 = .ok (.iadd, 1) := by decide +kernel
theorem d_Mod_token_55 : decode b_Mod_token 55 = .ok (.putfield 78, 3) := by decide +kernel
theorem d_Mod_token_58 : decode b_Mod_token 58 = .ok (.aload_n 0, 1) := by decide +kernel
theorem d_Mod_token_59 : decode b_Mod_token 59 = .ok (.invokevirtual 188, 3) := by decide +kernel
theorem d_Mod_token_62 : decode b_Mod_token 62 = .ok (.aload_n 0, 1) := by decide +kernel
theorem d_Mod_token_63 : decode b_Mod_token 63 = .ok (.aload_n 0, 1) := by decide +kernel
theorem d_Mod_token_64 : decode b_Mod_token 64 = .ok (.getfield 78, 3) := by decide +kernel
theorem d_Mod_token_67 : decode b_Mod_token 67 = .ok (.putfield 179, 3) := by decide +kernel
theorem d_Mod_token_70 : decode b_Mod_token 70 = .ok (.aload_n 0, 1) := by decide +kernel
theorem d_Mod_token_71 : decode b_Mod_token 71 = .ok (.invokevirtual 146, 3) := by decide +kernel
theorem d_Mod_token_74 : decode b_Mod_token 74 = .ok (.aload_n 0, 1) := by decide +kernel
theorem d_Mod_token_75 : decode b_Mod_token 75 = .ok (.aload_n 0, 1) := by decide +kernel
theorem d_Mod_token_76 : decode b_Mod_token 76 = .ok (.getfield 78, 3) := by decide +kernel
theorem d_Mod_token_79 : decode b_Mod_token 79 = .ok (.putfield 191, 3) := by decide +kernel
theorem d_Mod_token_82 : decode b_Mod_token 82 = .ok (.aload_n 0, 1) := by decide +kernel
theorem d_Mod_token_83 : decode b_Mod_token 83 = .ok (.getfield 75, 3) := by decide +kernel
theorem d_Mod_token_86 : decode b_Mod_token 86 = .ok (.ifCond .ge 7, 3) := by decide +kernel
theorem d_Mod_token_89 : decode b_Mod_token 89 = .ok (.aload_n 0, 1) := by decide +kernel
theorem d_Mod_token_90 : decode b_Mod_token 90 = .ok (.invokevirtual 188, 3) := by decide +kernel
theorem d_Mod_token_93 : decode b_Mod_token 93 = .ok (.aload_n 0, 1) := by decide +kernel
theorem d_Mod_token_94 : decode b_Mod_token 94 = .ok (.getfield 75, 3) := by decide +kernel
theorem d_Mod_token_97 : decode b_Mod_token 97 = .ok (.ifCond .ge 20, 3) := by decide +kernel
theorem d_Mod_token_100 : decode b_Mod_token 100 = .ok (.aload_n 0, 1) := by decide +kernel
theorem d_Mod_token_101 : decode b_Mod_token 101 = .ok (.invokevirtual 85, 3) := by decide +kernel
theorem d_Mod_token_104 : decode b_Mod_token 104 = .ok (.bipush 41, 2) := by decide +kernel
theorem d_Mod_token_106 : decode b_Mod_token 106 = .ok (.if_icmp .eq 11, 3) := by decide +kernel
theorem d_Mod_token_109 : decode b_Mod_token 109 = .ok (.aload_n 0, 1) := by decide +kernel
theorem d_Mod_token_110 : decode b_Mod_token 110 = .ok (.aload_n 0, 1) := by decide +kernel
theorem d_Mod_token_111 : decode b_Mod_token 111 = .ok (.getfield 78, 3) := by decide +kernel
theorem d_Mod_token_114 : decode b_Mod_token 114 = .ok (.invokevirtual 92, 3) := by decide +kernel
theorem d_Mod_token_117 : decode b_Mod_token 117 = .ok (.aload_n 0, 1) := by decide +kernel
theorem d_Mod_token_118 : decode b_Mod_token 118 = .ok (.dup, 1) := by decide +kernel
theorem d_Mod_token_119 : decode b_Mod_token 119 = .ok (.getfield 78, 3) := by decide +kernel
theorem d_Mod_token_122 : decode b_Mod_token 122 = .ok (.iconst 1, 1) := by decide +kernel
theorem d_Mod_token_123 : decode b_Mod_token 123 = .ok (.iadd, 1) := by decide +kernel
theorem d_Mod_token_124 : decode b_Mod_token 124 = .ok (.putfield 78, 3) := by decide +kernel
theorem d_Mod_token_127 : decode b_Mod_token 127 = .ok (.goto 166, 3) := by decide +kernel
theorem d_Mod_token_130 : decode b_Mod_token 130 = .ok (.iload_n 1, 1) := by decide +kernel
theorem d_Mod_token_131 : decode b_Mod_token 131 = .ok (.bipush 43, 2) := by decide +kernel
theorem d_Mod_token_133 : decode b_Mod_token 133 = .ok (.if_icmp .eq 15, 3) := by decide +kernel
theorem d_Mod_token_136 : decode b_Mod_token 136 = .ok (.iload_n 1, 1) := by decide +kernel
theorem d_Mod_token_137 : decode b_Mod_token 137 = .ok (.bipush 45, 2) := by decide +kernel
theorem d_Mod_token_139 : decode b_Mod_token 139 = .ok (.if_icmp .eq 9, 3) := by decide +kernel
theorem d_Mod_token_142 : decode b_Mod_token 142 = .ok (.iload_n 1, 1) := by decide +kernel
theorem d_Mod_token_143 : decode b_Mod_token 143 = .ok (.bipush 61, 2) := by decide +kernel
theorem d_Mod_token_145 : decode b_Mod_token 145 = .ok (.if_icmp .ne 54, 3) := by decide +kernel
theorem d_Mod_token_148 : decode b_Mod_token 148 = .ok (.aload_n 0, 1) := by decide +kernel
theorem d_Mod_token_149 : decode b_Mod_token 149 = .ok (.iload_n 1, 1) := by decide +kernel
theorem d_Mod_token_150 : decode b_Mod_token 150 = .ok (.bipush 43, 2) := by decide +kernel
theorem d_Mod_token_152 : decode b_Mod_token 152 = .ok (.if_icmp .ne 7, 3) := by decide +kernel
theorem d_Mod_token_155 : decode b_Mod_token 155 = .ok (.iconst 5, 1) := by decide +kernel
theorem d_Mod_token_156 : decode b_Mod_token 156 = .ok (.goto 15, 3) := by decide +kernel
theorem d_Mod_token_159 : decode b_Mod_token 159 = .ok (.iload_n 1, 1) := by decide +kernel
theorem d_Mod_token_160 : decode b_Mod_token 160 = .ok (.bipush 45, 2) := by decide +kernel
theorem d_Mod_token_162 : decode b_Mod_token 162 = .ok (.if_icmp .ne 8, 3) := by decide +kernel
theorem d_Mod_token_165 : decode b_Mod_token 165 = .ok (.bipush 6, 2) := by decide +kernel
theorem d_Mod_token_167 : decode b_Mod_token 167 = .ok (.goto 4, 3) := by decide +kernel
theorem d_Mod_token_170 : decode b_Mod_token 170 = .ok (.iconst 4, 1) := by decide +kernel
theorem d_Mod_token_171 : decode b_Mod_token 171 = .ok (.putfield 182, 3) := by decide +kernel
theorem d_Mod_token_174 : decode b_Mod_token 174 = .ok (.aload_n 0, 1) := by decide +kernel
theorem d_Mod_token_175 : decode b_Mod_token 175 = .ok (.dup, 1) := by decide +kernel
theorem d_Mod_token_176 : decode b_Mod_token 176 = .ok (.getfield 78, 3) := by decide +kernel
theorem d_Mod_token_179 : decode b_Mod_token 179 = .ok (.iconst 1, 1) := by decide +kernel
theorem d_Mod_token_180 : decode b_Mod_token 180 = .ok (.iadd, 1) := by decide +kernel
theorem d_Mod_token_181 : decode b_Mod_token 181 = .ok (.putfield 78, 3) := by decide +kernel
theorem d_Mod_token_184 : decode b_Mod_token 184 = .ok (.aload_n 0, 1) := by decide +kernel
theorem d_Mod_token_185 : decode b_Mod_token 185 = .ok (.invokevirtual 188, 3) := by decide +kernel
theorem d_Mod_token_188 : decode b_Mod_token 188 = .ok (.aload_n 0, 1) := by decide +kernel
theorem d_Mod_token_189 : decode b_Mod_token 189 = .ok (.aload_n 0, 1) := by decide +kernel
theorem d_Mod_token_190 : decode b_Mod_token 190 = .ok (.invokevirtual 194, 3) := by decide +kernel
theorem d_Mod_token_193 : decode b_Mod_token 193 = .ok (.putfield 197, 3) := by decide +kernel
theorem d_Mod_token_196 : decode b_Mod_token 196 = .ok (.goto 97, 3) := by decide +kernel
theorem d_Mod_token_199 : decode b_Mod_token 199 = .ok (.iload_n 1, 1) := by decide +kernel
theorem d_Mod_token_200 : decode b_Mod_token 200 = .ok (.invokestatic 81, 3) := by decide +kernel
theorem d_Mod_token_203 : decode b_Mod_token 203 = .ok (.ifCond .eq 19, 3) := by decide +kernel
theorem d_Mod_token_206 : decode b_Mod_token 206 = .ok (.aload_n 0, 1) := by decide +kernel
theorem d_Mod_token_207 : decode b_Mod_token 207 = .ok (.iconst 4, 1) := by decide +kernel
theorem d_Mod_token_208 : decode b_Mod_token 208 = .ok (.putfield 182, 3) := by decide +kernel
theorem d_Mod_token_211 : decode b_Mod_token 211 = .ok (.aload_n 0, 1) := by decide +kernel
theorem d_Mod_token_212 : decode b_Mod_token 212 = .ok (.aload_n 0, 1) := by decide +kernel
theorem d_Mod_token_213 : decode b_Mod_token 213 = .ok (.invokevirtual 194, 3) := by decide +kernel
theorem d_Mod_token_216 : decode b_Mod_token 216 = .ok (.putfield 197, 3) := by decide +kernel
theorem d_Mod_token_219 : decode b_Mod_token 219 = .ok (.goto 74, 3) := by decide +kernel
theorem d_Mod_token_222 : decode b_Mod_token 222 = .ok (.iload_n 1, 1) := by decide +kernel
theorem d_Mod_token_223 : decode b_Mod_token 223 = .ok (.bipush 46, 2) := by decide +kernel
theorem d_Mod_token_225 : decode b_Mod_token 225 = .ok (.if_icmp .ne 51, 3) := by decide +kernel
theorem d_Mod_token_228 : decode b_Mod_token 228 = .ok (.aload_n 0, 1) := by decide +kernel
theorem d_Mod_token_229 : decode b_Mod_token 229 = .ok (.getfield 78, 3) := by decide +kernel
theorem d_Mod_token_232 : decode b_Mod_token 232 = .ok (.iconst 1, 1) := by decide +kernel
theorem d_Mod_token_233 : decode b_Mod_token 233 = .ok (.iadd, 1) := by decide +kernel
theorem d_Mod_token_234 : decode b_Mod_token 234 = .ok (.aload_n 0, 1) := by decide +kernel
theorem d_Mod_token_235 : decode b_Mod_token 235 = .ok (.getfield 72, 3) := by decide +kernel
theorem d_Mod_token_238 : decode b_Mod_token 238 = .ok (.if_icmp .ge 20, 3) := by decide +kernel
theorem d_Mod_token_241 : decode b_Mod_token 241 = .ok (.aload_n 0, 1) := by decide +kernel
theorem d_Mod_token_242 : decode b_Mod_token 242 = .ok (.getfield 13, 3) := by decide +kernel
theorem d_Mod_token_245 : decode b_Mod_token 245 = .ok (.aload_n 0, 1) := by decide +kernel
theorem d_Mod_token_246 : decode b_Mod_token 246 = .ok (.getfield 78, 3) := by decide +kernel
theorem d_Mod_token_249 : decode b_Mod_token 249 = .ok (.iconst 1, 1) := by decide +kernel
theorem d_Mod_token_250 : decode b_Mod_token 250 = .ok (.iadd, 1) := by decide +kernel
theorem d_Mod_token_251 : decode b_Mod_token 251 = .ok (.iaload, 1) := by decide +kernel
theorem d_Mod_token_252 : decode b_Mod_token 252 = .ok (.invokestatic 89, 3) := by decide +kernel
theorem d_Mod_token_255 : decode b_Mod_token 255 = .ok (.ifCond .ne 21, 3) := by decide +kernel
theorem d_Mod_token_258 : decode b_Mod_token 258 = .ok (.aload_n 0, 1) := by decide +kernel
theorem d_Mod_token_259 : decode b_Mod_token 259 = .ok (.iconst 1, 1) := by decide +kernel
theorem d_Mod_token_260 : decode b_Mod_token 260 = .ok (.putfield 182, 3) := by decide +kernel
theorem d_Mod_token_263 : decode b_Mod_token 263 = .ok (.aload_n 0, 1) := by decide +kernel
theorem d_Mod_token_264 : decode b_Mod_token 264 = .ok (.dup, 1) := by decide +kernel
theorem d_Mod_token_265 : decode b_Mod_token 265 = .ok (.getfield 78, 3) := by decide +kernel
theorem d_Mod_token_268 : decode b_Mod_token 268 = .ok (.iconst 1, 1) := by decide +kernel
theorem d_Mod_token_269 : decode b_Mod_token 269 = .ok (.iadd, 1) := by decide +kernel
theorem d_Mod_token_270 : decode b_Mod_token 270 = .ok (.putfield 78, 3) := by decide +kernel
theorem d_Mod_token_273 : decode b_Mod_token 273 = .ok (.goto 20, 3) := by decide +kernel
theorem d_Mod_token_276 : decode b_Mod_token 276 = .ok (.aload_n 0, 1) := by decide +kernel
theorem d_Mod_token_277 : decode b_Mod_token 277 = .ok (.iconst 0, 1) := by decide +kernel
theorem d_Mod_token_278 : decode b_Mod_token 278 = .ok (.putfield 182, 3) := by decide +kernel
theorem d_Mod_token_281 : decode b_Mod_token 281 = .ok (.aload_n 0, 1) := by decide +kernel
theorem d_Mod_token_282 : decode b_Mod_token 282 = .ok (.invokevirtual 146, 3) := by decide +kernel
theorem d_Mod_token_285 : decode b_Mod_token 285 = .ok (.aload_n 0, 1) := by decide +kernel
theorem d_Mod_token_286 : decode b_Mod_token 286 = .ok (.aload_n 0, 1) := by decide +kernel
theorem d_Mod_token_287 : decode b_Mod_token 287 = .ok (.getfield 78, 3) := by decide +kernel
theorem d_Mod_token_290 : decode b_Mod_token 290 = .ok (.putfield 191, 3) := by decide +kernel
theorem d_Mod_token_293 : decode b_Mod_token 293 = .ok (.return_, 1) := by decide +kernel
theorem d_Mod_pattern_0 : decode b_Mod_pattern 0 = .ok (.aload_n 0, 1) := by decide +kernel
theorem d_Mod_pattern_1 : decode b_Mod_pattern 1 = .ok (.getfield 176, 3) := by decide +kernel
theorem d_Mod_pattern_4 : decode b_Mod_pattern 4 = .ok (.ifCond .ne 10, 3) := by decide +kernel
theorem d_Mod_pattern_7 : decode b_Mod_pattern 7 = .ok (.aload_n 0, 1) := by decide +kernel
theorem d_Mod_pattern_8 : decode b_Mod_pattern 8 = .ok (.getfield 173, 3) := by decide +kernel
theorem d_Mod_pattern_11 : decode b_Mod_pattern 11 = .ok (.iconst 1, 1) := by decide +kernel
theorem d_Mod_pattern_12 : decode b_Mod_pattern 12 = .ok (.iadd, 1) := by decide +kernel
theorem d_Mod_pattern_13 : decode b_Mod_pattern 13 = .ok (.ireturn, 1) := by decide +kernel
theorem d_Mod_pattern_14 : decode b_Mod_pattern 14 = .ok (.iload_n 1, 1) := by decide +kernel
theorem d_Mod_pattern_15 : decode b_Mod_pattern 15 = .ok (.istore_n 2, 1) := by decide +kernel
theorem d_Mod_pattern_16 : decode b_Mod_pattern 16 = .ok (.iload_n 2, 1) := by decide +kernel
theorem d_Mod_pattern_17 : decode b_Mod_pattern 17 = .ok (.aload_n 0, 1) := by decide +kernel
theorem d_Mod_pattern_18 : decode b_Mod_pattern 18 = .ok (.getfield 176, 3) := by decide +kernel
theorem d_Mod_pattern_21 : decode b_Mod_pattern 21 = .ok (.iadd, 1) := by decide +kernel
theorem d_Mod_pattern_22 : decode b_Mod_pattern 22 = .ok (.aload_n 0, 1) := by decide +kernel
theorem d_Mod_pattern_23 : decode b_Mod_pattern 23 = .ok (.getfield 173, 3) := by decide +kernel
theorem d_Mod_pattern_26 : decode b_Mod_pattern 26 = .ok (.iconst 1, 1) := by decide +kernel
theorem d_Mod_pattern_27 : decode b_Mod_pattern 27 = .ok (.iadd, 1) := by decide +kernel
theorem d_Mod_pattern_28 : decode b_Mod_pattern 28 = .ok (.if_icmp .gt 66, 3) := by decide +kernel
theorem d_Mod_pattern_31 : decode b_Mod_pattern 31 = .ok (.iconst 1, 1) := by decide +kernel
theorem d_Mod_pattern_32 : decode b_Mod_pattern 32 = .ok (.istore_n 3, 1) := by decide +kernel
theorem d_Mod_pattern_33 : decode b_Mod_pattern 33 = .ok (.iconst 0, 1) := by decide +kernel
theorem d_Mod_pattern_34 : decode b_Mod_pattern 34 = .ok (.istore 4, 2) := by decide +kernel
theorem d_Mod_pattern_36 : decode b_Mod_pattern 36 = .ok (.iload 4, 2) := by decide +kernel
theorem d_Mod_pattern_38 : decode b_Mod_pattern 38 = .ok (.aload_n 0, 1) := by decide +kernel
theorem d_Mod_pattern_39 : decode b_Mod_pattern 39 = .ok (.getfield 176, 3) := by decide +kernel
theorem d_Mod_pattern_42 : decode b_Mod_pattern 42 = .ok (.if_icmp .ge 40, 3) := by decide +kernel
theorem d_Mod_pattern_45 : decode b_Mod_pattern 45 = .ok (.iload_n 3, 1) := by decide +kernel
theorem d_Mod_pattern_46 : decode b_Mod_pattern 46 = .ok (.ifCond .eq 36, 3) := by decide +kernel
theorem d_Mod_pattern_49 : decode b_Mod_pattern 49 = .ok (.aload_n 0, 1) := by decide +kernel
theorem d_Mod_pattern_50 : decode b_Mod_pattern 50 = .ok (.getfield 46, 3) := by decide +kernel
theorem d_Mod_pattern_53 : decode b_Mod_pattern 53 = .ok (.iload_n 2, 1) := by decide +kernel
theorem d_Mod_pattern_54 : decode b_Mod_pattern 54 = .ok (.iconst 1, 1) := by decide +kernel
theorem d_Mod_pattern_55 : decode b_Mod_pattern 55 = .ok (.isub, 1) := by decide +kernel
theorem d_Mod_pattern_56 : decode b_Mod_pattern 56 = .ok (.iload 4, 2) := by decide +kernel
theorem d_Mod_pattern_58 : decode b_Mod_pattern 58 = .ok (.iadd, 1) := by decide +kernel
theorem d_Mod_pattern_59 : decode b_Mod_pattern 59 = .ok (.iaload, 1) := by decide +kernel
theorem d_Mod_pattern_60 : decode b_Mod_pattern 60 = .ok (.aload_n 0, 1) := by decide +kernel
theorem d_Mod_pattern_61 : decode b_Mod_pattern 61 = .ok (.getfield 49, 3) := by decide +kernel
theorem d_Mod_pattern_64 : decode b_Mod_pattern 64 = .ok (.iload 4, 2) := by decide +kernel
theorem d_Mod_pattern_66 : decode b_Mod_pattern 66 = .ok (.iaload, 1) := by decide +kernel
theorem d_Mod_pattern_67 : decode b_Mod_pattern 67 = .ok (.if_icmp .ne 7, 3) := by decide +kernel
theorem d_Mod_pattern_70 : decode b_Mod_pattern 70 = .ok (.iconst 1, 1) := by decide +kernel
theorem d_Mod_pattern_71 : decode b_Mod_pattern 71 = .ok (.goto 4, 3) := by decide +kernel
theorem d_Mod_pattern_74 : decode b_Mod_pattern 74 = .ok (.iconst 0, 1) := by decide +kernel
theorem d_Mod_pattern_75 : decode b_Mod_pattern 75 = .ok (.istore_n 3, 1) := by decide +kernel
theorem d_Mod_pattern_76 : decode b_Mod_pattern 76 = .ok (.iinc 4 1, 3) := by decide +kernel
theorem d_Mod_pattern_79 : decode b_Mod_pattern 79 = .ok (.goto (-43), 3) := by decide +kernel
theorem d_Mod_pattern_82 : decode b_Mod_pattern 82 = .ok (.iload_n 3, 1) := by decide +kernel
theorem d_Mod_pattern_83 : decode b_Mod_pattern 83 = .ok (.ifCond .eq 5, 3) := by decide +kernel
theorem d_Mod_pattern_86 : decode b_Mod_pattern 86 = .ok (.iload_n 2, 1) := by decide +kernel
theorem d_Mod_pattern_87 : decode b_Mod_pattern 87 = .ok (.ireturn, 1) := by decide +kernel
theorem d_Mod_pattern_88 : decode b_Mod_pattern 88 = .ok (.iinc 2 1, 3) := by decide +kernel
theorem d_Mod_pattern_91 : decode b_Mod_pattern 91 = .ok (.goto (-75), 3) := by decide +kernel
theorem d_Mod_pattern_94 : decode b_Mod_pattern 94 = .ok (.iconst 0, 1) := by decide +kernel
theorem d_Mod_pattern_95 : decode b_Mod_pattern 95 = .ok (.ireturn, 1) := by decide +kernel
theorem d_Mod_held_0 : decode b_Mod_held 0 = .ok (.iload_n 1, 1) := by decide +kernel
theorem d_Mod_held_1 : decode b_Mod_held 1 = .ok (.iconst 1, 1) := by decide +kernel
theorem d_Mod_held_2 : decode b_Mod_held 2 = .ok (.if_icmp .ge 7, 3) := by decide +kernel
theorem d_Mod_held_5 : decode b_Mod_held 5 = .ok (.iconst 1, 1) := by decide +kernel
theorem d_Mod_held_6 : decode b_Mod_held 6 = .ok (.goto 23, 3) := by decide +kernel
theorem d_Mod_held_9 : decode b_Mod_held 9 = .ok (.iload_n 1, 1) := by decide +kernel
theorem d_Mod_held_10 : decode b_Mod_held 10 = .ok (.aload_n 0, 1) := by decide +kernel
theorem d_Mod_held_11 : decode b_Mod_held 11 = .ok (.getfield 173, 3) := by decide +kernel
theorem d_Mod_held_14 : decode b_Mod_held 14 = .ok (.iconst 1, 1) := by decide +kernel
theorem d_Mod_held_15 : decode b_Mod_held 15 = .ok (.iadd, 1) := by decide +kernel
theorem d_Mod_held_16 : decode b_Mod_held 16 = .ok (.if_icmp .le 12, 3) := by decide +kernel
theorem d_Mod_held_19 : decode b_Mod_held 19 = .ok (.aload_n 0, 1) := by decide +kernel
theorem d_Mod_held_20 : decode b_Mod_held 20 = .ok (.getfield 173, 3) := by decide +kernel
theorem d_Mod_held_23 : decode b_Mod_held 23 = .ok (.iconst 1, 1) := by decide +kernel
theorem d_Mod_held_24 : decode b_Mod_held 24 = .ok (.iadd, 1) := by decide +kernel
theorem d_Mod_held_25 : decode b_Mod_held 25 = .ok (.goto 4, 3) := by decide +kernel
theorem d_Mod_held_28 : decode b_Mod_held 28 = .ok (.iload_n 1, 1) := by decide +kernel
theorem d_Mod_held_29 : decode b_Mod_held 29 = .ok (.ireturn, 1) := by decide +kernel
theorem d_Mod_give_0 : decode b_Mod_give 0 = .ok (.iload 4, 2) := by decide +kernel
theorem d_Mod_give_2 : decode b_Mod_give 2 = .ok (.istore 6, 2) := by decide +kernel
theorem d_Mod_give_4 : decode b_Mod_give 4 = .ok (.aload_n 0, 1) := by decide +kernel
theorem d_Mod_give_5 : decode b_Mod_give 5 = .ok (.getfield 78, 3) := by decide +kernel
theorem d_Mod_give_8 : decode b_Mod_give 8 = .ok (.istore 7, 2) := by decide +kernel
theorem d_Mod_give_10 : decode b_Mod_give 10 = .ok (.iconst 0, 1) := by decide +kernel
theorem d_Mod_give_11 : decode b_Mod_give 11 = .ok (.istore 8, 2) := by decide +kernel
theorem d_Mod_give_13 : decode b_Mod_give 13 = .ok (.aload_n 0, 1) := by decide +kernel
theorem d_Mod_give_14 : decode b_Mod_give 14 = .ok (.iload_n 1, 1) := by decide +kernel
theorem d_Mod_give_15 : decode b_Mod_give 15 = .ok (.putfield 78, 3) := by decide +kernel
theorem d_Mod_give_18 : decode b_Mod_give 18 = .ok (.iconst 0, 1) := by decide +kernel
theorem d_Mod_give_19 : decode b_Mod_give 19 = .ok (.istore 9, 2) := by decide +kernel
theorem d_Mod_give_21 : decode b_Mod_give 21 = .ok (.iload 9, 2) := by decide +kernel
theorem d_Mod_give_23 : decode b_Mod_give 23 = .ok (.iload_n 3, 1) := by decide +kernel
theorem d_Mod_give_24 : decode b_Mod_give 24 = .ok (.if_icmp .ge 181, 3) := by decide +kernel
theorem d_Mod_give_27 : decode b_Mod_give 27 = .ok (.iload 8, 2) := by decide +kernel
theorem d_Mod_give_29 : decode b_Mod_give 29 = .ok (.ifCond .ne 176, 3) := by decide +kernel
theorem d_Mod_give_32 : decode b_Mod_give 32 = .ok (.aload_n 0, 1) := by decide +kernel
theorem d_Mod_give_33 : decode b_Mod_give 33 = .ok (.invokevirtual 188, 3) := by decide +kernel
theorem d_Mod_give_36 : decode b_Mod_give 36 = .ok (.aload_n 0, 1) := by decide +kernel
theorem d_Mod_give_37 : decode b_Mod_give 37 = .ok (.invokevirtual 200, 3) := by decide +kernel
theorem d_Mod_give_40 : decode b_Mod_give 40 = .ok (.iload 6, 2) := by decide +kernel
theorem d_Mod_give_42 : decode b_Mod_give 42 = .ok (.istore 10, 2) := by decide +kernel
theorem d_Mod_give_44 : decode b_Mod_give 44 = .ok (.iload 5, 2) := by decide +kernel
theorem d_Mod_give_46 : decode b_Mod_give 46 = .ok (.istore 11, 2) := by decide +kernel
theorem d_Mod_give_48 : decode b_Mod_give 48 = .ok (.iload 9, 2) := by decide +kernel
theorem d_Mod_give_50 : decode b_Mod_give 50 = .ok (.iload_n 3, 1) := by decide +kernel
theorem d_Mod_give_51 : decode b_Mod_give 51 = .ok (.iconst 1, 1) := by decide +kernel
theorem d_Mod_give_52 : decode b_Mod_give 52 = .ok (.isub, 1) := by decide +kernel
theorem d_Mod_give_53 : decode b_Mod_give 53 = .ok (.if_icmp .ge 79, 3) := by decide +kernel
theorem d_Mod_give_56 : decode b_Mod_give 56 = .ok (.iload 10, 2) := by decide +kernel
theorem d_Mod_give_58 : decode b_Mod_give 58 = .ok (.iload 5, 2) := by decide +kernel
theorem d_Mod_give_60 : decode b_Mod_give 60 = .ok (.if_icmp .ge 23, 3) := by decide +kernel
theorem d_Mod_give_63 : decode b_Mod_give 63 = .ok (.aload_n 0, 1) := by decide +kernel
theorem d_Mod_give_64 : decode b_Mod_give 64 = .ok (.getfield 46, 3) := by decide +kernel
theorem d_Mod_give_67 : decode b_Mod_give 67 = .ok (.iload 10, 2) := by decide +kernel
theorem d_Mod_give_69 : decode b_Mod_give 69 = .ok (.iconst 1, 1) := by decide +kernel
theorem d_Mod_give_70 : decode b_Mod_give 70 = .ok (.isub, 1) := by decide +kernel
theorem d_Mod_give_71 : decode b_Mod_give 71 = .ok (.iaload, 1) := by decide +kernel
theorem d_Mod_give_72 : decode b_Mod_give 72 = .ok (.bipush 32, 2) := by decide +kernel
theorem d_Mod_give_74 : decode b_Mod_give 74 = .ok (.if_icmp .ne 9, 3) := by decide +kernel
theorem d_Mod_give_77 : decode b_Mod_give 77 = .ok (.iinc 10 1, 3) := by decide +kernel
theorem d_Mod_give_80 : decode b_Mod_give 80 = .ok (.goto (-24), 3) := by decide +kernel
theorem d_Mod_give_83 : decode b_Mod_give 83 = .ok (.iload 10, 2) := by decide +kernel
theorem d_Mod_give_85 : decode b_Mod_give 85 = .ok (.istore 11, 2) := by decide +kernel
theorem d_Mod_give_87 : decode b_Mod_give 87 = .ok (.iload 11, 2) := by decide +kernel
theorem d_Mod_give_89 : decode b_Mod_give 89 = .ok (.iload 5, 2) := by decide +kernel
theorem d_Mod_give_91 : decode b_Mod_give 91 = .ok (.if_icmp .ge 23, 3) := by decide +kernel
theorem d_Mod_give_94 : decode b_Mod_give 94 = .ok (.aload_n 0, 1) := by decide +kernel
theorem d_Mod_give_95 : decode b_Mod_give 95 = .ok (.getfield 46, 3) := by decide +kernel
theorem d_Mod_give_98 : decode b_Mod_give 98 = .ok (.iload 11, 2) := by decide +kernel
theorem d_Mod_give_100 : decode b_Mod_give 100 = .ok (.iconst 1, 1) := by decide +kernel
theorem d_Mod_give_101 : decode b_Mod_give 101 = .ok (.isub, 1) := by decide +kernel
theorem d_Mod_give_102 : decode b_Mod_give 102 = .ok (.iaload, 1) := by decide +kernel
theorem d_Mod_give_103 : decode b_Mod_give 103 = .ok (.bipush 32, 2) := by decide +kernel
theorem d_Mod_give_105 : decode b_Mod_give 105 = .ok (.if_icmp .eq 9, 3) := by decide +kernel
theorem d_Mod_give_108 : decode b_Mod_give 108 = .ok (.iinc 11 1, 3) := by decide +kernel
theorem d_Mod_give_111 : decode b_Mod_give 111 = .ok (.goto (-24), 3) := by decide +kernel
theorem d_Mod_give_114 : decode b_Mod_give 114 = .ok (.iload 11, 2) := by decide +kernel
theorem d_Mod_give_116 : decode b_Mod_give 116 = .ok (.iload 5, 2) := by decide +kernel
theorem d_Mod_give_118 : decode b_Mod_give 118 = .ok (.if_icmp .ge 10, 3) := by decide +kernel
theorem d_Mod_give_121 : decode b_Mod_give 121 = .ok (.iload 11, 2) := by decide +kernel
theorem d_Mod_give_123 : decode b_Mod_give 123 = .ok (.iconst 1, 1) := by decide +kernel
theorem d_Mod_give_124 : decode b_Mod_give 124 = .ok (.iadd, 1) := by decide +kernel
theorem d_Mod_give_125 : decode b_Mod_give 125 = .ok (.goto 5, 3) := by decide +kernel
theorem d_Mod_give_128 : decode b_Mod_give 128 = .ok (.iload 5, 2) := by decide +kernel
theorem d_Mod_give_130 : decode b_Mod_give 130 = .ok (.istore 6, 2) := by decide +kernel
theorem d_Mod_give_132 : decode b_Mod_give 132 = .ok (.aload_n 0, 1) := by decide +kernel
theorem d_Mod_give_133 : decode b_Mod_give 133 = .ok (.getfield 182, 3) := by decide +kernel
theorem d_Mod_give_136 : decode b_Mod_give 136 = .ok (.iconst 1, 1) := by decide +kernel
theorem d_Mod_give_137 : decode b_Mod_give 137 = .ok (.if_icmp .ne 6, 3) := by decide +kernel
theorem d_Mod_give_140 : decode b_Mod_give 140 = .ok (.goto 59, 3) := by decide +kernel
theorem d_Mod_give_143 : decode b_Mod_give 143 = .ok (.aload_n 0, 1) := by decide +kernel
theorem d_Mod_give_144 : decode b_Mod_give 144 = .ok (.aload_n 0, 1) := by decide +kernel
theorem d_Mod_give_145 : decode b_Mod_give 145 = .ok (.getfield 179, 3) := by decide +kernel
theorem d_Mod_give_148 : decode b_Mod_give 148 = .ok (.aload_n 0, 1) := by decide +kernel
theorem d_Mod_give_149 : decode b_Mod_give 149 = .ok (.getfield 191, 3) := by decide +kernel
theorem d_Mod_give_152 : decode b_Mod_give 152 = .ok (.invokevirtual 149, 3) := by decide +kernel
theorem d_Mod_give_155 : decode b_Mod_give 155 = .ok (.ifCond .ne 10, 3) := by decide +kernel
theorem d_Mod_give_158 : decode b_Mod_give 158 = .ok (.bipush (-2), 2) := by decide +kernel
theorem d_Mod_give_160 : decode b_Mod_give 160 = .ok (.istore 8, 2) := by decide +kernel
theorem d_Mod_give_162 : decode b_Mod_give 162 = .ok (.goto 37, 3) := by decide +kernel
theorem d_Mod_give_165 : decode b_Mod_give 165 = .ok (.aload_n 0, 1) := by decide +kernel
theorem d_Mod_give_166 : decode b_Mod_give 166 = .ok (.iconst 1, 1) := by decide +kernel
theorem d_Mod_give_167 : decode b_Mod_give 167 = .ok (.iload 10, 2) := by decide +kernel
theorem d_Mod_give_169 : decode b_Mod_give 169 = .ok (.iconst 1, 1) := by decide +kernel
theorem d_Mod_give_170 : decode b_Mod_give 170 = .ok (.isub, 1) := by decide +kernel
theorem d_Mod_give_171 : decode b_Mod_give 171 = .ok (.iload 11, 2) := by decide +kernel
theorem d_Mod_give_173 : decode b_Mod_give 173 = .ok (.iload 10, 2) := by decide +kernel
theorem d_Mod_give_175 : decode b_Mod_give 175 = .ok (.if_icmp .le 10, 3) := by decide +kernel
theorem d_Mod_give_178 : decode b_Mod_give 178 = .ok (.iload 11, 2) := by decide +kernel
theorem d_Mod_give_180 : decode b_Mod_give 180 = .ok (.iconst 1, 1) := by decide +kernel
theorem d_Mod_give_181 : decode b_Mod_give 181 = .ok (.isub, 1) := by decide +kernel
theorem d_Mod_give_182 : decode b_Mod_give 182 = .ok (.goto 7, 3) := by decide +kernel
theorem d_Mod_give_185 : decode b_Mod_give 185 = .ok (.iload 10, 2) := by decide +kernel
theorem d_Mod_give_187 : decode b_Mod_give 187 = .ok (.iconst 1, 1) := by decide +kernel
theorem d_Mod_give_188 : decode b_Mod_give 188 = .ok (.isub, 1) := by decide +kernel
theorem d_Mod_give_189 : decode b_Mod_give 189 = .ok (.invokevirtual 152, 3) := by decide +kernel
theorem d_Mod_give_192 : decode b_Mod_give 192 = .ok (.ifCond .ne 7, 3) := by decide +kernel
theorem d_Mod_give_195 : decode b_Mod_give 195 = .ok (.bipush (-4), 2) := by decide +kernel
theorem d_Mod_give_197 : decode b_Mod_give 197 = .ok (.istore 8, 2) := by decide +kernel
theorem d_Mod_give_199 : decode b_Mod_give 199 = .ok (.iinc 9 1, 3) := by decide +kernel
theorem d_Mod_give_202 : decode b_Mod_give 202 = .ok (.goto (-181), 3) := by decide +kernel
theorem d_Mod_give_205 : decode b_Mod_give 205 = .ok (.aload_n 0, 1) := by decide +kernel
theorem d_Mod_give_206 : decode b_Mod_give 206 = .ok (.iload 7, 2) := by decide +kernel
theorem d_Mod_give_208 : decode b_Mod_give 208 = .ok (.putfield 78, 3) := by decide +kernel
theorem d_Mod_give_211 : decode b_Mod_give 211 = .ok (.iload 8, 2) := by decide +kernel
theorem d_Mod_give_213 : decode b_Mod_give 213 = .ok (.ireturn, 1) := by decide +kernel
theorem d_Mod_parse_0 : decode b_Mod_parse 0 = .ok (.aload_n 0, 1) := by decide +kernel
theorem d_Mod_parse_1 : decode b_Mod_parse 1 = .ok (.invokevirtual 143, 3) := by decide +kernel
theorem d_Mod_parse_4 : decode b_Mod_parse 4 = .ok (.iconst 0, 1) := by decide +kernel
theorem d_Mod_parse_5 : decode b_Mod_parse 5 = .ok (.istore_n 1, 1) := by decide +kernel
theorem d_Mod_parse_6 : decode b_Mod_parse 6 = .ok (.aload_n 0, 1) := by decide +kernel
theorem d_Mod_parse_7 : decode b_Mod_parse 7 = .ok (.invokevirtual 188, 3) := by decide +kernel
theorem d_Mod_parse_10 : decode b_Mod_parse 10 = .ok (.aload_n 0, 1) := by decide +kernel
theorem d_Mod_parse_11 : decode b_Mod_parse 11 = .ok (.getfield 78, 3) := by decide +kernel
theorem d_Mod_parse_14 : decode b_Mod_parse 14 = .ok (.aload_n 0, 1) := by decide +kernel
theorem d_Mod_parse_15 : decode b_Mod_parse 15 = .ok (.getfield 72, 3) := by decide +kernel
theorem d_Mod_parse_18 : decode b_Mod_parse 18 = .ok (.if_icmp .ge 44, 3) := by decide +kernel
theorem d_Mod_parse_21 : decode b_Mod_parse 21 = .ok (.aload_n 0, 1) := by decide +kernel
theorem d_Mod_parse_22 : decode b_Mod_parse 22 = .ok (.getfield 75, 3) := by decide +kernel
theorem d_Mod_parse_25 : decode b_Mod_parse 25 = .ok (.ifCond .ge 37, 3) := by decide +kernel
theorem d_Mod_parse_28 : decode b_Mod_parse 28 = .ok (.aload_n 0, 1) := by decide +kernel
theorem d_Mod_parse_29 : decode b_Mod_parse 29 = .ok (.invokevirtual 200, 3) := by decide +kernel
theorem d_Mod_parse_32 : decode b_Mod_parse 32 = .ok (.iload_n 1, 1) := by decide +kernel
theorem d_Mod_parse_33 : decode b_Mod_parse 33 = .ok (.aload_n 0, 1) := by decide +kernel
theorem d_Mod_parse_34 : decode b_Mod_parse 34 = .ok (.getfield 182, 3) := by decide +kernel
theorem d_Mod_parse_37 : decode b_Mod_parse 37 = .ok (.iconst 2, 1) := by decide +kernel
theorem d_Mod_parse_38 : decode b_Mod_parse 38 = .ok (.if_icmp .ge 7, 3) := by decide +kernel
theorem d_Mod_parse_41 : decode b_Mod_parse 41 = .ok (.iconst 1, 1) := by decide +kernel
theorem d_Mod_parse_42 : decode b_Mod_parse 42 = .ok (.goto 4, 3) := by decide +kernel
theorem d_Mod_parse_45 : decode b_Mod_parse 45 = .ok (.iconst 0, 1) := by decide +kernel
theorem d_Mod_parse_46 : decode b_Mod_parse 46 = .ok (.iadd, 1) := by decide +kernel
theorem d_Mod_parse_47 : decode b_Mod_parse 47 = .ok (.istore_n 1, 1) := by decide +kernel
theorem d_Mod_parse_48 : decode b_Mod_parse 48 = .ok (.aload_n 0, 1) := by decide +kernel
theorem d_Mod_parse_49 : decode b_Mod_parse 49 = .ok (.getfield 75, 3) := by decide +kernel
theorem d_Mod_parse_52 : decode b_Mod_parse 52 = .ok (.ifCond .ge (-42), 3) := by decide +kernel
theorem d_Mod_parse_55 : decode b_Mod_parse 55 = .ok (.aload_n 0, 1) := by decide +kernel
theorem d_Mod_parse_56 : decode b_Mod_parse 56 = .ok (.invokevirtual 188, 3) := by decide +kernel
theorem d_Mod_parse_59 : decode b_Mod_parse 59 = .ok (.goto (-49), 3) := by decide +kernel
theorem d_Mod_parse_62 : decode b_Mod_parse 62 = .ok (.aload_n 0, 1) := by decide +kernel
theorem d_Mod_parse_63 : decode b_Mod_parse 63 = .ok (.getfield 75, 3) := by decide +kernel
theorem d_Mod_parse_66 : decode b_Mod_parse 66 = .ok (.ifCond .lt 12, 3) := by decide +kernel
theorem d_Mod_parse_69 : decode b_Mod_parse 69 = .ok (.sipush (-1000), 3) := by decide +kernel
theorem d_Mod_parse_72 : decode b_Mod_parse 72 = .ok (.aload_n 0, 1) := by decide +kernel
theorem d_Mod_parse_73 : decode b_Mod_parse 73 = .ok (.getfield 75, 3) := by decide +kernel
theorem d_Mod_parse_76 : decode b_Mod_parse 76 = .ok (.isub, 1) := by decide +kernel
theorem d_Mod_parse_77 : decode b_Mod_parse 77 = .ok (.ireturn, 1) := by decide +kernel
theorem d_Mod_parse_78 : decode b_Mod_parse 78 = .ok (.aload_n 0, 1) := by decide +kernel
theorem d_Mod_parse_79 : decode b_Mod_parse 79 = .ok (.iconst 1, 1) := by decide +kernel
theorem d_Mod_parse_80 : decode b_Mod_parse 80 = .ok (.putfield 52, 3) := by decide +kernel
theorem d_Mod_parse_83 : decode b_Mod_parse 83 = .ok (.aload_n 0, 1) := by decide +kernel
theorem d_Mod_parse_84 : decode b_Mod_parse 84 = .ok (.iconst 1, 1) := by decide +kernel
theorem d_Mod_parse_85 : decode b_Mod_parse 85 = .ok (.putfield 56, 3) := by decide +kernel
theorem d_Mod_parse_88 : decode b_Mod_parse 88 = .ok (.aload_n 0, 1) := by decide +kernel
theorem d_Mod_parse_89 : decode b_Mod_parse 89 = .ok (.invokevirtual 203, 3) := by decide +kernel
theorem d_Mod_parse_92 : decode b_Mod_parse 92 = .ok (.istore_n 2, 1) := by decide +kernel
theorem d_Mod_parse_93 : decode b_Mod_parse 93 = .ok (.iload_n 2, 1) := by decide +kernel
theorem d_Mod_parse_94 : decode b_Mod_parse 94 = .ok (.ifCond .ge 7, 3) := by decide +kernel
theorem d_Mod_parse_97 : decode b_Mod_parse 97 = .ok (.iload_n 2, 1) := by decide +kernel
theorem d_Mod_parse_98 : decode b_Mod_parse 98 = .ok (.goto 4, 3) := by decide +kernel
theorem d_Mod_parse_101 : decode b_Mod_parse 101 = .ok (.iload_n 1, 1) := by decide +kernel
theorem d_Mod_parse_102 : decode b_Mod_parse 102 = .ok (.ireturn, 1) := by decide +kernel
theorem d_Mod_cut_0 : decode b_Mod_cut 0 = .ok (.iconst 0, 1) := by decide +kernel
theorem d_Mod_cut_1 : decode b_Mod_cut 1 = .ok (.istore_n 1, 1) := by decide +kernel
theorem d_Mod_cut_2 : decode b_Mod_cut 2 = .ok (.iconst 0, 1) := by decide +kernel
theorem d_Mod_cut_3 : decode b_Mod_cut 3 = .ok (.istore_n 2, 1) := by decide +kernel
theorem d_Mod_cut_4 : decode b_Mod_cut 4 = .ok (.aload_n 0, 1) := by decide +kernel
theorem d_Mod_cut_5 : decode b_Mod_cut 5 = .ok (.iconst 0, 1) := by decide +kernel
theorem d_Mod_cut_6 : decode b_Mod_cut 6 = .ok (.putfield 78, 3) := by decide +kernel
theorem d_Mod_cut_9 : decode b_Mod_cut 9 = .ok (.aload_n 0, 1) := by decide +kernel
theorem d_Mod_cut_10 : decode b_Mod_cut 10 = .ok (.invokevirtual 188, 3) := by decide +kernel
theorem d_Mod_cut_13 : decode b_Mod_cut 13 = .ok (.aload_n 0, 1) := by decide +kernel
theorem d_Mod_cut_14 : decode b_Mod_cut 14 = .ok (.getfield 78, 3) := by decide +kernel
theorem d_Mod_cut_17 : decode b_Mod_cut 17 = .ok (.aload_n 0, 1) := by decide +kernel
theorem d_Mod_cut_18 : decode b_Mod_cut 18 = .ok (.getfield 72, 3) := by decide +kernel
theorem d_Mod_cut_21 : decode b_Mod_cut 21 = .ok (.if_icmp .ge 266, 3) := by decide +kernel
theorem d_Mod_cut_24 : decode b_Mod_cut 24 = .ok (.aload_n 0, 1) := by decide +kernel
theorem d_Mod_cut_25 : decode b_Mod_cut 25 = .ok (.invokevirtual 200, 3) := by decide +kernel
theorem d_Mod_cut_28 : decode b_Mod_cut 28 = .ok (.aload_n 0, 1) := by decide +kernel
theorem d_Mod_cut_29 : decode b_Mod_cut 29 = .ok (.getfield 182, 3) := by decide +kernel
theorem d_Mod_cut_32 : decode b_Mod_cut 32 = .ok (.iconst 2, 1) := by decide +kernel
theorem d_Mod_cut_33 : decode b_Mod_cut 33 = .ok (.if_icmp .ge 13, 3) := by decide +kernel
theorem d_Mod_cut_36 : decode b_Mod_cut 36 = .ok (.iinc 2 1, 3) := by decide +kernel
theorem d_Mod_cut_39 : decode b_Mod_cut 39 = .ok (.aload_n 0, 1) := by decide +kernel
theorem d_Mod_cut_40 : decode b_Mod_cut 40 = .ok (.invokevirtual 188, 3) := by decide +kernel
theorem d_Mod_cut_43 : decode b_Mod_cut 43 = .ok (.goto (-30), 3) := by decide +kernel
theorem d_Mod_cut_46 : decode b_Mod_cut 46 = .ok (.aload_n 0, 1) := by decide +kernel
theorem d_Mod_cut_47 : decode b_Mod_cut 47 = .ok (.getfield 52, 3) := by decide +kernel
theorem d_Mod_cut_50 : decode b_Mod_cut 50 = .ok (.istore_n 3, 1) := by decide +kernel
theorem d_Mod_cut_51 : decode b_Mod_cut 51 = .ok (.aload_n 0, 1) := by decide +kernel
theorem d_Mod_cut_52 : decode b_Mod_cut 52 = .ok (.getfield 52, 3) := by decide +kernel
theorem d_Mod_cut_55 : decode b_Mod_cut 55 = .ok (.istore 4, 2) := by decide +kernel
theorem d_Mod_cut_57 : decode b_Mod_cut 57 = .ok (.aload_n 0, 1) := by decide +kernel
theorem d_Mod_cut_58 : decode b_Mod_cut 58 = .ok (.getfield 52, 3) := by decide +kernel
theorem d_Mod_cut_61 : decode b_Mod_cut 61 = .ok (.istore 5, 2) := by decide +kernel
theorem d_Mod_cut_63 : decode b_Mod_cut 63 = .ok (.aload_n 0, 1) := by decide +kernel
theorem d_Mod_cut_64 : decode b_Mod_cut 64 = .ok (.getfield 182, 3) := by decide +kernel
theorem d_Mod_cut_67 : decode b_Mod_cut 67 = .ok (.iconst 4, 1) := by decide +kernel
theorem d_Mod_cut_68 : decode b_Mod_cut 68 = .ok (.if_icmp .ge 89, 3) := by decide +kernel
theorem d_Mod_cut_71 : decode b_Mod_cut 71 = .ok (.aload_n 0, 1) := by decide +kernel
theorem d_Mod_cut_72 : decode b_Mod_cut 72 = .ok (.getfield 182, 3) := by decide +kernel
theorem d_Mod_cut_75 : decode b_Mod_cut 75 = .ok (.iconst 3, 1) := by decide +kernel
theorem d_Mod_cut_76 : decode b_Mod_cut 76 = .ok (.if_icmp .ne 25, 3) := by decide +kernel
theorem d_Mod_cut_79 : decode b_Mod_cut 79 = .ok (.aload_n 0, 1) := by decide +kernel
theorem d_Mod_cut_80 : decode b_Mod_cut 80 = .ok (.aload_n 0, 1) := by decide +kernel
theorem d_Mod_cut_81 : decode b_Mod_cut 81 = .ok (.getfield 179, 3) := by decide +kernel
theorem d_Mod_cut_84 : decode b_Mod_cut 84 = .ok (.aload_n 0, 1) := by decide +kernel
theorem d_Mod_cut_85 : decode b_Mod_cut 85 = .ok (.getfield 191, 3) := by decide +kernel
theorem d_Mod_cut_88 : decode b_Mod_cut 88 = .ok (.invokevirtual 149, 3) := by decide +kernel
theorem d_Mod_cut_91 : decode b_Mod_cut 91 = .ok (.ifCond .ne 6, 3) := by decide +kernel
theorem d_Mod_cut_94 : decode b_Mod_cut 94 = .ok (.bipush (-2), 2) := by decide +kernel
theorem d_Mod_cut_96 : decode b_Mod_cut 96 = .ok (.ireturn, 1) := by decide +kernel
theorem d_Mod_cut_97 : decode b_Mod_cut 97 = .ok (.aload_n 0, 1) := by decide +kernel
theorem d_Mod_cut_98 : decode b_Mod_cut 98 = .ok (.invokevirtual 206, 3) := by decide +kernel
theorem d_Mod_cut_101 : decode b_Mod_cut 101 = .ok (.aload_n 0, 1) := by decide +kernel
theorem d_Mod_cut_102 : decode b_Mod_cut 102 = .ok (.aload_n 0, 1) := by decide +kernel
theorem d_Mod_cut_103 : decode b_Mod_cut 103 = .ok (.getfield 52, 3) := by decide +kernel
theorem d_Mod_cut_106 : decode b_Mod_cut 106 = .ok (.invokevirtual 209, 3) := by decide +kernel
theorem d_Mod_cut_109 : decode b_Mod_cut 109 = .ok (.istore_n 3, 1) := by decide +kernel
theorem d_Mod_cut_110 : decode b_Mod_cut 110 = .ok (.iload_n 3, 1) := by decide +kernel
theorem d_Mod_cut_111 : decode b_Mod_cut 111 = .ok (.ifCond .ne 12, 3) := by decide +kernel
theorem d_Mod_cut_114 : decode b_Mod_cut 114 = .ok (.aload_n 0, 1) := by decide +kernel
theorem d_Mod_cut_115 : decode b_Mod_cut 115 = .ok (.getfield 173, 3) := by decide +kernel
theorem d_Mod_cut_118 : decode b_Mod_cut 118 = .ok (.iconst 1, 1) := by decide +kernel
theorem d_Mod_cut_119 : decode b_Mod_cut 119 = .ok (.iadd, 1) := by decide +kernel
theorem d_Mod_cut_120 : decode b_Mod_cut 120 = .ok (.goto 4, 3) := by decide +kernel
theorem d_Mod_cut_123 : decode b_Mod_cut 123 = .ok (.iload_n 3, 1) := by decide +kernel
theorem d_Mod_cut_124 : decode b_Mod_cut 124 = .ok (.istore 5, 2) := by decide +kernel
theorem d_Mod_cut_126 : decode b_Mod_cut 126 = .ok (.iload_n 3, 1) := by decide +kernel
theorem d_Mod_cut_127 : decode b_Mod_cut 127 = .ok (.ifCond .ne 12, 3) := by decide +kernel
theorem d_Mod_cut_130 : decode b_Mod_cut 130 = .ok (.aload_n 0, 1) := by decide +kernel
theorem d_Mod_cut_131 : decode b_Mod_cut 131 = .ok (.getfield 173, 3) := by decide +kernel
end
section
theorem d_Mod_cut_134 : decode b_Mod_cut 134 = .ok (.iconst 1, 1) := by decide +kernel
theorem d_Mod_cut_135 : decode b_Mod_cut 135 = .ok (.iadd, 1) := by decide +kernel
theorem d_Mod_cut_136 : decode b_Mod_cut 136 = .ok (.goto 13, 3) := by decide +kernel
theorem d_Mod_cut_139 : decode b_Mod_cut 139 = .ok (.aload_n 0, 1) := by decide +kernel
theorem d_Mod_cut_140 : decode b_Mod_cut 140 = .ok (.iload_n 3, 1) := by decide +kernel
theorem d_Mod_cut_141 : decode b_Mod_cut 141 = .ok (.aload_n 0, 1) := by decide +kernel
theorem d_Mod_cut_142 : decode b_Mod_cut 142 = .ok (.getfield 176, 3) := by decide +kernel
theorem d_Mod_cut_145 : decode b_Mod_cut 145 = .ok (.iadd, 1) := by decide +kernel
theorem d_Mod_cut_146 : decode b_Mod_cut 146 = .ok (.invokevirtual 212, 3) := by decide +kernel
theorem d_Mod_cut_149 : decode b_Mod_cut 149 = .ok (.istore 4, 2) := by decide +kernel
theorem d_Mod_cut_151 : decode b_Mod_cut 151 = .ok (.iload 5, 2) := by decide +kernel
theorem d_Mod_cut_153 : decode b_Mod_cut 153 = .ok (.istore_n 3, 1) := by decide +kernel
theorem d_Mod_cut_154 : decode b_Mod_cut 154 = .ok (.goto 78, 3) := by decide +kernel
theorem d_Mod_cut_157 : decode b_Mod_cut 157 = .ok (.aload_n 0, 1) := by decide +kernel
theorem d_Mod_cut_158 : decode b_Mod_cut 158 = .ok (.aload_n 0, 1) := by decide +kernel
theorem d_Mod_cut_159 : decode b_Mod_cut 159 = .ok (.getfield 182, 3) := by decide +kernel
theorem d_Mod_cut_162 : decode b_Mod_cut 162 = .ok (.iconst 4, 1) := by decide +kernel
theorem d_Mod_cut_163 : decode b_Mod_cut 163 = .ok (.if_icmp .ne 10, 3) := by decide +kernel
theorem d_Mod_cut_166 : decode b_Mod_cut 166 = .ok (.aload_n 0, 1) := by decide +kernel
theorem d_Mod_cut_167 : decode b_Mod_cut 167 = .ok (.getfield 197, 3) := by decide +kernel
theorem d_Mod_cut_170 : decode b_Mod_cut 170 = .ok (.goto 32, 3) := by decide +kernel
theorem d_Mod_cut_173 : decode b_Mod_cut 173 = .ok (.aload_n 0, 1) := by decide +kernel
theorem d_Mod_cut_174 : decode b_Mod_cut 174 = .ok (.getfield 182, 3) := by decide +kernel
theorem d_Mod_cut_177 : decode b_Mod_cut 177 = .ok (.iconst 5, 1) := by decide +kernel
theorem d_Mod_cut_178 : decode b_Mod_cut 178 = .ok (.if_icmp .ne 15, 3) := by decide +kernel
theorem d_Mod_cut_181 : decode b_Mod_cut 181 = .ok (.aload_n 0, 1) := by decide +kernel
theorem d_Mod_cut_182 : decode b_Mod_cut 182 = .ok (.getfield 56, 3) := by decide +kernel
theorem d_Mod_cut_185 : decode b_Mod_cut 185 = .ok (.aload_n 0, 1) := by decide +kernel
theorem d_Mod_cut_186 : decode b_Mod_cut 186 = .ok (.getfield 197, 3) := by decide +kernel
theorem d_Mod_cut_189 : decode b_Mod_cut 189 = .ok (.iadd, 1) := by decide +kernel
theorem d_Mod_cut_190 : decode b_Mod_cut 190 = .ok (.goto 12, 3) := by decide +kernel
theorem d_Mod_cut_193 : decode b_Mod_cut 193 = .ok (.aload_n 0, 1) := by decide +kernel
theorem d_Mod_cut_194 : decode b_Mod_cut 194 = .ok (.getfield 56, 3) := by decide +kernel
theorem d_Mod_cut_197 : decode b_Mod_cut 197 = .ok (.aload_n 0, 1) := by decide +kernel
theorem d_Mod_cut_198 : decode b_Mod_cut 198 = .ok (.getfield 197, 3) := by decide +kernel
theorem d_Mod_cut_201 : decode b_Mod_cut 201 = .ok (.isub, 1) := by decide +kernel
theorem d_Mod_cut_202 : decode b_Mod_cut 202 = .ok (.invokevirtual 212, 3) := by decide +kernel
theorem d_Mod_cut_205 : decode b_Mod_cut 205 = .ok (.istore 5, 2) := by decide +kernel
theorem d_Mod_cut_207 : decode b_Mod_cut 207 = .ok (.iload 5, 2) := by decide +kernel
theorem d_Mod_cut_209 : decode b_Mod_cut 209 = .ok (.aload_n 0, 1) := by decide +kernel
theorem d_Mod_cut_210 : decode b_Mod_cut 210 = .ok (.getfield 52, 3) := by decide +kernel
theorem d_Mod_cut_213 : decode b_Mod_cut 213 = .ok (.if_icmp .le 8, 3) := by decide +kernel
theorem d_Mod_cut_216 : decode b_Mod_cut 216 = .ok (.iload 5, 2) := by decide +kernel
theorem d_Mod_cut_218 : decode b_Mod_cut 218 = .ok (.goto 9, 3) := by decide +kernel
theorem d_Mod_cut_221 : decode b_Mod_cut 221 = .ok (.aload_n 0, 1) := by decide +kernel
theorem d_Mod_cut_222 : decode b_Mod_cut 222 = .ok (.getfield 173, 3) := by decide +kernel
theorem d_Mod_cut_225 : decode b_Mod_cut 225 = .ok (.iconst 1, 1) := by decide +kernel
theorem d_Mod_cut_226 : decode b_Mod_cut 226 = .ok (.iadd, 1) := by decide +kernel
theorem d_Mod_cut_227 : decode b_Mod_cut 227 = .ok (.istore_n 3, 1) := by decide +kernel
theorem d_Mod_cut_228 : decode b_Mod_cut 228 = .ok (.iload 5, 2) := by decide +kernel
theorem d_Mod_cut_230 : decode b_Mod_cut 230 = .ok (.istore 4, 2) := by decide +kernel
theorem d_Mod_cut_232 : decode b_Mod_cut 232 = .ok (.aload_n 0, 1) := by decide +kernel
theorem d_Mod_cut_233 : decode b_Mod_cut 233 = .ok (.getfield 52, 3) := by decide +kernel
theorem d_Mod_cut_236 : decode b_Mod_cut 236 = .ok (.istore 6, 2) := by decide +kernel
theorem d_Mod_cut_238 : decode b_Mod_cut 238 = .ok (.aload_n 0, 1) := by decide +kernel
theorem d_Mod_cut_239 : decode b_Mod_cut 239 = .ok (.iload 5, 2) := by decide +kernel
theorem d_Mod_cut_241 : decode b_Mod_cut 241 = .ok (.putfield 56, 3) := by decide +kernel
theorem d_Mod_cut_244 : decode b_Mod_cut 244 = .ok (.aload_n 0, 1) := by decide +kernel
theorem d_Mod_cut_245 : decode b_Mod_cut 245 = .ok (.iload 4, 2) := by decide +kernel
theorem d_Mod_cut_247 : decode b_Mod_cut 247 = .ok (.putfield 52, 3) := by decide +kernel
theorem d_Mod_cut_250 : decode b_Mod_cut 250 = .ok (.aload_n 0, 1) := by decide +kernel
theorem d_Mod_cut_251 : decode b_Mod_cut 251 = .ok (.iload_n 1, 1) := by decide +kernel
theorem d_Mod_cut_252 : decode b_Mod_cut 252 = .ok (.aload_n 0, 1) := by decide +kernel
theorem d_Mod_cut_253 : decode b_Mod_cut 253 = .ok (.getfield 78, 3) := by decide +kernel
theorem d_Mod_cut_256 : decode b_Mod_cut 256 = .ok (.iload_n 2, 1) := by decide +kernel
theorem d_Mod_cut_257 : decode b_Mod_cut 257 = .ok (.iload 6, 2) := by decide +kernel
theorem d_Mod_cut_259 : decode b_Mod_cut 259 = .ok (.iload_n 3, 1) := by decide +kernel
theorem d_Mod_cut_260 : decode b_Mod_cut 260 = .ok (.invokevirtual 215, 3) := by decide +kernel
theorem d_Mod_cut_263 : decode b_Mod_cut 263 = .ok (.istore 7, 2) := by decide +kernel
theorem d_Mod_cut_265 : decode b_Mod_cut 265 = .ok (.iload 7, 2) := by decide +kernel
theorem d_Mod_cut_267 : decode b_Mod_cut 267 = .ok (.ifCond .ge 6, 3) := by decide +kernel
theorem d_Mod_cut_270 : decode b_Mod_cut 270 = .ok (.iload 7, 2) := by decide +kernel
theorem d_Mod_cut_272 : decode b_Mod_cut 272 = .ok (.ireturn, 1) := by decide +kernel
theorem d_Mod_cut_273 : decode b_Mod_cut 273 = .ok (.iconst 0, 1) := by decide +kernel
theorem d_Mod_cut_274 : decode b_Mod_cut 274 = .ok (.istore_n 2, 1) := by decide +kernel
theorem d_Mod_cut_275 : decode b_Mod_cut 275 = .ok (.aload_n 0, 1) := by decide +kernel
theorem d_Mod_cut_276 : decode b_Mod_cut 276 = .ok (.invokevirtual 188, 3) := by decide +kernel
theorem d_Mod_cut_279 : decode b_Mod_cut 279 = .ok (.aload_n 0, 1) := by decide +kernel
theorem d_Mod_cut_280 : decode b_Mod_cut 280 = .ok (.getfield 78, 3) := by decide +kernel
theorem d_Mod_cut_283 : decode b_Mod_cut 283 = .ok (.istore_n 1, 1) := by decide +kernel
theorem d_Mod_cut_284 : decode b_Mod_cut 284 = .ok (.goto (-271), 3) := by decide +kernel
theorem d_Mod_cut_287 : decode b_Mod_cut 287 = .ok (.aload_n 0, 1) := by decide +kernel
theorem d_Mod_cut_288 : decode b_Mod_cut 288 = .ok (.iload_n 1, 1) := by decide +kernel
theorem d_Mod_cut_289 : decode b_Mod_cut 289 = .ok (.aload_n 0, 1) := by decide +kernel
theorem d_Mod_cut_290 : decode b_Mod_cut 290 = .ok (.getfield 78, 3) := by decide +kernel
theorem d_Mod_cut_293 : decode b_Mod_cut 293 = .ok (.iload_n 2, 1) := by decide +kernel
theorem d_Mod_cut_294 : decode b_Mod_cut 294 = .ok (.aload_n 0, 1) := by decide +kernel
theorem d_Mod_cut_295 : decode b_Mod_cut 295 = .ok (.getfield 52, 3) := by decide +kernel
theorem d_Mod_cut_298 : decode b_Mod_cut 298 = .ok (.aload_n 0, 1) := by decide +kernel
theorem d_Mod_cut_299 : decode b_Mod_cut 299 = .ok (.getfield 173, 3) := by decide +kernel
theorem d_Mod_cut_302 : decode b_Mod_cut 302 = .ok (.iconst 1, 1) := by decide +kernel
theorem d_Mod_cut_303 : decode b_Mod_cut 303 = .ok (.iadd, 1) := by decide +kernel
theorem d_Mod_cut_304 : decode b_Mod_cut 304 = .ok (.invokevirtual 215, 3) := by decide +kernel
theorem d_Mod_cut_307 : decode b_Mod_cut 307 = .ok (.ireturn, 1) := by decide +kernel
theorem d_Mod_look_0 : decode b_Mod_look 0 = .ok (.aload_n 0, 1) := by decide +kernel
theorem d_Mod_look_1 : decode b_Mod_look 1 = .ok (.invokevirtual 128, 3) := by decide +kernel
theorem d_Mod_look_4 : decode b_Mod_look 4 = .ok (.istore_n 1, 1) := by decide +kernel
theorem d_Mod_look_5 : decode b_Mod_look 5 = .ok (.aload_n 0, 1) := by decide +kernel
theorem d_Mod_look_6 : decode b_Mod_look 6 = .ok (.iload_n 1, 1) := by decide +kernel
theorem d_Mod_look_7 : decode b_Mod_look 7 = .ok (.iconst (-1), 1) := by decide +kernel
theorem d_Mod_look_8 : decode b_Mod_look 8 = .ok (.if_icmp .ne 10, 3) := by decide +kernel
theorem d_Mod_look_11 : decode b_Mod_look 11 = .ok (.aload_n 0, 1) := by decide +kernel
theorem d_Mod_look_12 : decode b_Mod_look 12 = .ok (.getfield 95, 3) := by decide +kernel
theorem d_Mod_look_15 : decode b_Mod_look 15 = .ok (.goto 9, 3) := by decide +kernel
theorem d_Mod_look_18 : decode b_Mod_look 18 = .ok (.aload_n 0, 1) := by decide +kernel
theorem d_Mod_look_19 : decode b_Mod_look 19 = .ok (.getfield 31, 3) := by decide +kernel
theorem d_Mod_look_22 : decode b_Mod_look 22 = .ok (.iload_n 1, 1) := by decide +kernel
theorem d_Mod_look_23 : decode b_Mod_look 23 = .ok (.iaload, 1) := by decide +kernel
theorem d_Mod_look_24 : decode b_Mod_look 24 = .ok (.putfield 176, 3) := by decide +kernel
theorem d_Mod_look_27 : decode b_Mod_look 27 = .ok (.iconst 0, 1) := by decide +kernel
theorem d_Mod_look_28 : decode b_Mod_look 28 = .ok (.istore_n 2, 1) := by decide +kernel
theorem d_Mod_look_29 : decode b_Mod_look 29 = .ok (.iload_n 2, 1) := by decide +kernel
theorem d_Mod_look_30 : decode b_Mod_look 30 = .ok (.aload_n 0, 1) := by decide +kernel
theorem d_Mod_look_31 : decode b_Mod_look 31 = .ok (.getfield 176, 3) := by decide +kernel
theorem d_Mod_look_34 : decode b_Mod_look 34 = .ok (.if_icmp .ge 41, 3) := by decide +kernel
theorem d_Mod_look_37 : decode b_Mod_look 37 = .ok (.aload_n 0, 1) := by decide +kernel
theorem d_Mod_look_38 : decode b_Mod_look 38 = .ok (.getfield 49, 3) := by decide +kernel
theorem d_Mod_look_41 : decode b_Mod_look 41 = .ok (.iload_n 2, 1) := by decide +kernel
theorem d_Mod_look_42 : decode b_Mod_look 42 = .ok (.iload_n 1, 1) := by decide +kernel
theorem d_Mod_look_43 : decode b_Mod_look 43 = .ok (.iconst (-1), 1) := by decide +kernel
theorem d_Mod_look_44 : decode b_Mod_look 44 = .ok (.if_icmp .ne 12, 3) := by decide +kernel
theorem d_Mod_look_47 : decode b_Mod_look 47 = .ok (.aload_n 0, 1) := by decide +kernel
theorem d_Mod_look_48 : decode b_Mod_look 48 = .ok (.getfield 19, 3) := by decide +kernel
theorem d_Mod_look_51 : decode b_Mod_look 51 = .ok (.iload_n 2, 1) := by decide +kernel
theorem d_Mod_look_52 : decode b_Mod_look 52 = .ok (.iaload, 1) := by decide +kernel
theorem d_Mod_look_53 : decode b_Mod_look 53 = .ok (.goto 15, 3) := by decide +kernel
theorem d_Mod_look_56 : decode b_Mod_look 56 = .ok (.aload_n 0, 1) := by decide +kernel
theorem d_Mod_look_57 : decode b_Mod_look 57 = .ok (.getfield 28, 3) := by decide +kernel
theorem d_Mod_look_60 : decode b_Mod_look 60 = .ok (.sipush 200, 3) := by decide +kernel
theorem d_Mod_look_63 : decode b_Mod_look 63 = .ok (.iload_n 1, 1) := by decide +kernel
theorem d_Mod_look_64 : decode b_Mod_look 64 = .ok (.imul, 1) := by decide +kernel
theorem d_Mod_look_65 : decode b_Mod_look 65 = .ok (.iload_n 2, 1) := by decide +kernel
theorem d_Mod_look_66 : decode b_Mod_look 66 = .ok (.iadd, 1) := by decide +kernel
theorem d_Mod_look_67 : decode b_Mod_look 67 = .ok (.iaload, 1) := by decide +kernel
theorem d_Mod_look_68 : decode b_Mod_look 68 = .ok (.iastore, 1) := by decide +kernel
theorem d_Mod_look_69 : decode b_Mod_look 69 = .ok (.iinc 2 1, 3) := by decide +kernel
theorem d_Mod_look_72 : decode b_Mod_look 72 = .ok (.goto (-43), 3) := by decide +kernel
theorem d_Mod_look_75 : decode b_Mod_look 75 = .ok (.return_, 1) := by decide +kernel
theorem d_Mod_name_0 : decode b_Mod_name 0 = .ok (.iload_n 1, 1) := by decide +kernel
theorem d_Mod_name_1 : decode b_Mod_name 1 = .ok (.ifCond .lt 11, 3) := by decide +kernel
theorem d_Mod_name_4 : decode b_Mod_name 4 = .ok (.iload_n 1, 1) := by decide +kernel
theorem d_Mod_name_5 : decode b_Mod_name 5 = .ok (.aload_n 0, 1) := by decide +kernel
theorem d_Mod_name_6 : decode b_Mod_name 6 = .ok (.getfield 105, 3) := by decide +kernel
theorem d_Mod_name_9 : decode b_Mod_name 9 = .ok (.if_icmp .lt 5, 3) := by decide +kernel
theorem d_Mod_name_12 : decode b_Mod_name 12 = .ok (.iconst (-1), 1) := by decide +kernel
theorem d_Mod_name_13 : decode b_Mod_name 13 = .ok (.ireturn, 1) := by decide +kernel
theorem d_Mod_name_14 : decode b_Mod_name 14 = .ok (.aload_n 0, 1) := by decide +kernel
theorem d_Mod_name_15 : decode b_Mod_name 15 = .ok (.aload_n 0, 1) := by decide +kernel
theorem d_Mod_name_16 : decode b_Mod_name 16 = .ok (.getfield 22, 3) := by decide +kernel
theorem d_Mod_name_19 : decode b_Mod_name 19 = .ok (.sipush 200, 3) := by decide +kernel
theorem d_Mod_name_22 : decode b_Mod_name 22 = .ok (.iload_n 1, 1) := by decide +kernel
theorem d_Mod_name_23 : decode b_Mod_name 23 = .ok (.imul, 1) := by decide +kernel
theorem d_Mod_name_24 : decode b_Mod_name 24 = .ok (.aload_n 0, 1) := by decide +kernel
theorem d_Mod_name_25 : decode b_Mod_name 25 = .ok (.getfield 25, 3) := by decide +kernel
theorem d_Mod_name_28 : decode b_Mod_name 28 = .ok (.iload_n 1, 1) := by decide +kernel
theorem d_Mod_name_29 : decode b_Mod_name 29 = .ok (.iaload, 1) := by decide +kernel
theorem d_Mod_name_30 : decode b_Mod_name 30 = .ok (.invokevirtual 159, 3) := by decide +kernel
theorem d_Mod_name_33 : decode b_Mod_name 33 = .ok (.aload_n 0, 1) := by decide +kernel
theorem d_Mod_name_34 : decode b_Mod_name 34 = .ok (.getfield 34, 3) := by decide +kernel
theorem d_Mod_name_37 : decode b_Mod_name 37 = .ok (.iload_n 1, 1) := by decide +kernel
theorem d_Mod_name_38 : decode b_Mod_name 38 = .ok (.iaload, 1) := by decide +kernel
theorem d_Mod_name_39 : decode b_Mod_name 39 = .ok (.ireturn, 1) := by decide +kernel
theorem d_Mod_value_0 : decode b_Mod_value 0 = .ok (.iload_n 1, 1) := by decide +kernel
theorem d_Mod_value_1 : decode b_Mod_value 1 = .ok (.ifCond .lt 11, 3) := by decide +kernel
theorem d_Mod_value_4 : decode b_Mod_value 4 = .ok (.iload_n 1, 1) := by decide +kernel
theorem d_Mod_value_5 : decode b_Mod_value 5 = .ok (.aload_n 0, 1) := by decide +kernel
theorem d_Mod_value_6 : decode b_Mod_value 6 = .ok (.getfield 105, 3) := by decide +kernel
theorem d_Mod_value_9 : decode b_Mod_value 9 = .ok (.if_icmp .lt 5, 3) := by decide +kernel
theorem d_Mod_value_12 : decode b_Mod_value 12 = .ok (.iconst (-1), 1) := by decide +kernel
theorem d_Mod_value_13 : decode b_Mod_value 13 = .ok (.ireturn, 1) := by decide +kernel
theorem d_Mod_value_14 : decode b_Mod_value 14 = .ok (.aload_n 0, 1) := by decide +kernel
theorem d_Mod_value_15 : decode b_Mod_value 15 = .ok (.getfield 31, 3) := by decide +kernel
theorem d_Mod_value_18 : decode b_Mod_value 18 = .ok (.iload_n 1, 1) := by decide +kernel
theorem d_Mod_value_19 : decode b_Mod_value 19 = .ok (.iaload, 1) := by decide +kernel
theorem d_Mod_value_20 : decode b_Mod_value 20 = .ok (.ifCond .ge 6, 3) := by decide +kernel
theorem d_Mod_value_23 : decode b_Mod_value 23 = .ok (.bipush (-3), 2) := by decide +kernel
theorem d_Mod_value_25 : decode b_Mod_value 25 = .ok (.ireturn, 1) := by decide +kernel
theorem d_Mod_value_26 : decode b_Mod_value 26 = .ok (.aload_n 0, 1) := by decide +kernel
theorem d_Mod_value_27 : decode b_Mod_value 27 = .ok (.aload_n 0, 1) := by decide +kernel
theorem d_Mod_value_28 : decode b_Mod_value 28 = .ok (.getfield 28, 3) := by decide +kernel
theorem d_Mod_value_31 : decode b_Mod_value 31 = .ok (.sipush 200, 3) := by decide +kernel
theorem d_Mod_value_34 : decode b_Mod_value 34 = .ok (.iload_n 1, 1) := by decide +kernel
theorem d_Mod_value_35 : decode b_Mod_value 35 = .ok (.imul, 1) := by decide +kernel
theorem d_Mod_value_36 : decode b_Mod_value 36 = .ok (.aload_n 0, 1) := by decide +kernel
theorem d_Mod_value_37 : decode b_Mod_value 37 = .ok (.getfield 31, 3) := by decide +kernel
theorem d_Mod_value_40 : decode b_Mod_value 40 = .ok (.iload_n 1, 1) := by decide +kernel
theorem d_Mod_value_41 : decode b_Mod_value 41 = .ok (.iaload, 1) := by decide +kernel
theorem d_Mod_value_42 : decode b_Mod_value 42 = .ok (.invokevirtual 159, 3) := by decide +kernel
theorem d_Mod_value_45 : decode b_Mod_value 45 = .ok (.aload_n 0, 1) := by decide +kernel
theorem d_Mod_value_46 : decode b_Mod_value 46 = .ok (.getfield 69, 3) := by decide +kernel
theorem d_Mod_value_49 : decode b_Mod_value 49 = .ok (.ireturn, 1) := by decide +kernel
theorem d_Mod_count_0 : decode b_Mod_count 0 = .ok (.iload_n 1, 1) := by decide +kernel
theorem d_Mod_count_1 : decode b_Mod_count 1 = .ok (.tableswitch (96) (0) (6) #[43, 48, 55, 76, 81, 86, 91], 43) := by decide +kernel
theorem d_Mod_count_44 : decode b_Mod_count 44 = .ok (.aload_n 0, 1) := by decide +kernel
theorem d_Mod_count_45 : decode b_Mod_count 45 = .ok (.getfield 105, 3) := by decide +kernel
theorem d_Mod_count_48 : decode b_Mod_count 48 = .ok (.ireturn, 1) := by decide +kernel
theorem d_Mod_count_49 : decode b_Mod_count 49 = .ok (.aload_n 0, 1) := by decide +kernel
theorem d_Mod_count_50 : decode b_Mod_count 50 = .ok (.getfield 108, 3) := by decide +kernel
theorem d_Mod_count_53 : decode b_Mod_count 53 = .ok (.iconst 1, 1) := by decide +kernel
theorem d_Mod_count_54 : decode b_Mod_count 54 = .ok (.iadd, 1) := by decide +kernel
theorem d_Mod_count_55 : decode b_Mod_count 55 = .ok (.ireturn, 1) := by decide +kernel
theorem d_Mod_count_56 : decode b_Mod_count 56 = .ok (.aload_n 0, 1) := by decide +kernel
theorem d_Mod_count_57 : decode b_Mod_count 57 = .ok (.getfield 108, 3) := by decide +kernel
theorem d_Mod_count_60 : decode b_Mod_count 60 = .ok (.ifCond .le 15, 3) := by decide +kernel
theorem d_Mod_count_63 : decode b_Mod_count 63 = .ok (.aload_n 0, 1) := by decide +kernel
theorem d_Mod_count_64 : decode b_Mod_count 64 = .ok (.getfield 43, 3) := by decide +kernel
theorem d_Mod_count_67 : decode b_Mod_count 67 = .ok (.aload_n 0, 1) := by decide +kernel
theorem d_Mod_count_68 : decode b_Mod_count 68 = .ok (.getfield 108, 3) := by decide +kernel
theorem d_Mod_count_71 : decode b_Mod_count 71 = .ok (.iaload, 1) := by decide +kernel
theorem d_Mod_count_72 : decode b_Mod_count 72 = .ok (.goto 4, 3) := by decide +kernel
theorem d_Mod_count_75 : decode b_Mod_count 75 = .ok (.iconst 0, 1) := by decide +kernel
theorem d_Mod_count_76 : decode b_Mod_count 76 = .ok (.ireturn, 1) := by decide +kernel
theorem d_Mod_count_77 : decode b_Mod_count 77 = .ok (.aload_n 0, 1) := by decide +kernel
theorem d_Mod_count_78 : decode b_Mod_count 78 = .ok (.getfield 173, 3) := by decide +kernel
theorem d_Mod_count_81 : decode b_Mod_count 81 = .ok (.ireturn, 1) := by decide +kernel
theorem d_Mod_count_82 : decode b_Mod_count 82 = .ok (.aload_n 0, 1) := by decide +kernel
theorem d_Mod_count_83 : decode b_Mod_count 83 = .ok (.getfield 69, 3) := by decide +kernel
theorem d_Mod_count_86 : decode b_Mod_count 86 = .ok (.ireturn, 1) := by decide +kernel
theorem d_Mod_count_87 : decode b_Mod_count 87 = .ok (.aload_n 0, 1) := by decide +kernel
theorem d_Mod_count_88 : decode b_Mod_count 88 = .ok (.getfield 52, 3) := by decide +kernel
theorem d_Mod_count_91 : decode b_Mod_count 91 = .ok (.ireturn, 1) := by decide +kernel
theorem d_Mod_count_92 : decode b_Mod_count 92 = .ok (.aload_n 0, 1) := by decide +kernel
theorem d_Mod_count_93 : decode b_Mod_count 93 = .ok (.getfield 56, 3) := by decide +kernel
theorem d_Mod_count_96 : decode b_Mod_count 96 = .ok (.ireturn, 1) := by decide +kernel
theorem d_Mod_count_97 : decode b_Mod_count 97 = .ok (.iconst (-1), 1) := by decide +kernel
theorem d_Mod_count_98 : decode b_Mod_count 98 = .ok (.ireturn, 1) := by decide +kernel
theorem d_Law_law_0 : decode code 0 = .ok (.new 7, 3) := by decide +kernel
theorem d_Law_law_3 : decode code 3 = .ok (.dup, 1) := by decide +kernel
theorem d_Law_law_4 : decode code 4 = .ok (.invokespecial 9, 3) := by decide +kernel
theorem d_Law_law_7 : decode code 7 = .ok (.astore_n 1, 1) := by decide +kernel
theorem d_Law_law_8 : decode code 8 = .ok (.new 10, 3) := by decide +kernel
theorem d_Law_law_11 : decode code 11 = .ok (.dup, 1) := by decide +kernel
theorem d_Law_law_12 : decode code 12 = .ok (.invokespecial 12, 3) := by decide +kernel
theorem d_Law_law_15 : decode code 15 = .ok (.astore_n 2, 1) := by decide +kernel
theorem d_Law_law_16 : decode code 16 = .ok (.iconst 0, 1) := by decide +kernel
theorem d_Law_law_17 : decode code 17 = .ok (.istore_n 3, 1) := by decide +kernel
theorem d_Law_law_18 : decode code 18 = .ok (.iload_n 3, 1) := by decide +kernel
theorem d_Law_law_19 : decode code 19 = .ok (.aload_n 0, 1) := by decide +kernel
theorem d_Law_law_20 : decode code 20 = .ok (.arraylength, 1) := by decide +kernel
theorem d_Law_law_21 : decode code 21 = .ok (.bipush 6, 2) := by decide +kernel
theorem d_Law_law_23 : decode code 23 = .ok (.isub, 1) := by decide +kernel
theorem d_Law_law_24 : decode code 24 = .ok (.if_icmp .gt 394, 3) := by decide +kernel
theorem d_Law_law_27 : decode code 27 = .ok (.aload_n 0, 1) := by decide +kernel
theorem d_Law_law_28 : decode code 28 = .ok (.iload_n 3, 1) := by decide +kernel
theorem d_Law_law_29 : decode code 29 = .ok (.iaload, 1) := by decide +kernel
theorem d_Law_law_30 : decode code 30 = .ok (.bipush 15, 2) := by decide +kernel
theorem d_Law_law_32 : decode code 32 = .ok (.iand, 1) := by decide +kernel
theorem d_Law_law_33 : decode code 33 = .ok (.tableswitch (379) (0) (13) #[71, 134, 157, 180, 193, 206, 219, 232, 245, 258, 297, 310, 333, 356], 71) := by decide +kernel
theorem d_Law_law_104 : decode code 104 = .ok (.aload_n 1, 1) := by decide +kernel
theorem d_Law_law_105 : decode code 105 = .ok (.aload_n 0, 1) := by decide +kernel
theorem d_Law_law_106 : decode code 106 = .ok (.iload_n 3, 1) := by decide +kernel
theorem d_Law_law_107 : decode code 107 = .ok (.iconst 1, 1) := by decide +kernel
theorem d_Law_law_108 : decode code 108 = .ok (.iadd, 1) := by decide +kernel
theorem d_Law_law_109 : decode code 109 = .ok (.iaload, 1) := by decide +kernel
theorem d_Law_law_110 : decode code 110 = .ok (.aload_n 0, 1) := by decide +kernel
theorem d_Law_law_111 : decode code 111 = .ok (.iload_n 3, 1) := by decide +kernel
theorem d_Law_law_112 : decode code 112 = .ok (.iconst 2, 1) := by decide +kernel
theorem d_Law_law_113 : decode code 113 = .ok (.iadd, 1) := by decide +kernel
theorem d_Law_law_114 : decode code 114 = .ok (.iaload, 1) := by decide +kernel
theorem d_Law_law_115 : decode code 115 = .ok (.aload_n 0, 1) := by decide +kernel
theorem d_Law_law_116 : decode code 116 = .ok (.iload_n 3, 1) := by decide +kernel
theorem d_Law_law_117 : decode code 117 = .ok (.iconst 3, 1) := by decide +kernel
theorem d_Law_law_118 : decode code 118 = .ok (.iadd, 1) := by decide +kernel
theorem d_Law_law_119 : decode code 119 = .ok (.iaload, 1) := by decide +kernel
theorem d_Law_law_120 : decode code 120 = .ok (.aload_n 0, 1) := by decide +kernel
theorem d_Law_law_121 : decode code 121 = .ok (.iload_n 3, 1) := by decide +kernel
theorem d_Law_law_122 : decode code 122 = .ok (.iconst 4, 1) := by decide +kernel
theorem d_Law_law_123 : decode code 123 = .ok (.iadd, 1) := by decide +kernel
theorem d_Law_law_124 : decode code 124 = .ok (.iaload, 1) := by decide +kernel
theorem d_Law_law_125 : decode code 125 = .ok (.aload_n 0, 1) := by decide +kernel
theorem d_Law_law_126 : decode code 126 = .ok (.iload_n 3, 1) := by decide +kernel
theorem d_Law_law_127 : decode code 127 = .ok (.iconst 5, 1) := by decide +kernel
theorem d_Law_law_128 : decode code 128 = .ok (.iadd, 1) := by decide +kernel
theorem d_Law_law_129 : decode code 129 = .ok (.iaload, 1) := by decide +kernel
theorem d_Law_law_130 : decode code 130 = .ok (.invokevirtual 13, 3) := by decide +kernel
theorem d_Law_law_133 : decode code 133 = .ok (.aload_n 2, 1) := by decide +kernel
theorem d_Law_law_134 : decode code 134 = .ok (.aload_n 0, 1) := by decide +kernel
theorem d_Law_law_135 : decode code 135 = .ok (.iload_n 3, 1) := by decide +kernel
theorem d_Law_law_136 : decode code 136 = .ok (.iconst 1, 1) := by decide +kernel
theorem d_Law_law_137 : decode code 137 = .ok (.iadd, 1) := by decide +kernel
theorem d_Law_law_138 : decode code 138 = .ok (.iaload, 1) := by decide +kernel
theorem d_Law_law_139 : decode code 139 = .ok (.aload_n 0, 1) := by decide +kernel
theorem d_Law_law_140 : decode code 140 = .ok (.iload_n 3, 1) := by decide +kernel
theorem d_Law_law_141 : decode code 141 = .ok (.iconst 2, 1) := by decide +kernel
theorem d_Law_law_142 : decode code 142 = .ok (.iadd, 1) := by decide +kernel
theorem d_Law_law_143 : decode code 143 = .ok (.iaload, 1) := by decide +kernel
theorem d_Law_law_144 : decode code 144 = .ok (.aload_n 0, 1) := by decide +kernel
theorem d_Law_law_145 : decode code 145 = .ok (.iload_n 3, 1) := by decide +kernel
theorem d_Law_law_146 : decode code 146 = .ok (.iconst 3, 1) := by decide +kernel
theorem d_Law_law_147 : decode code 147 = .ok (.iadd, 1) := by decide +kernel
theorem d_Law_law_148 : decode code 148 = .ok (.iaload, 1) := by decide +kernel
theorem d_Law_law_149 : decode code 149 = .ok (.aload_n 0, 1) := by decide +kernel
theorem d_Law_law_150 : decode code 150 = .ok (.iload_n 3, 1) := by decide +kernel
theorem d_Law_law_151 : decode code 151 = .ok (.iconst 4, 1) := by decide +kernel
theorem d_Law_law_152 : decode code 152 = .ok (.iadd, 1) := by decide +kernel
theorem d_Law_law_153 : decode code 153 = .ok (.iaload, 1) := by decide +kernel
theorem d_Law_law_154 : decode code 154 = .ok (.aload_n 0, 1) := by decide +kernel
theorem d_Law_law_155 : decode code 155 = .ok (.iload_n 3, 1) := by decide +kernel
theorem d_Law_law_156 : decode code 156 = .ok (.iconst 5, 1) := by decide +kernel
theorem d_Law_law_157 : decode code 157 = .ok (.iadd, 1) := by decide +kernel
theorem d_Law_law_158 : decode code 158 = .ok (.iaload, 1) := by decide +kernel
theorem d_Law_law_159 : decode code 159 = .ok (.invokevirtual 17, 3) := by decide +kernel
theorem d_Law_law_162 : decode code 162 = .ok (.if_icmp .eq 250, 3) := by decide +kernel
theorem d_Law_law_165 : decode code 165 = .ok (.iconst 0, 1) := by decide +kernel
theorem d_Law_law_166 : decode code 166 = .ok (.ireturn, 1) := by decide +kernel
theorem d_Law_law_167 : decode code 167 = .ok (.aload_n 1, 1) := by decide +kernel
theorem d_Law_law_168 : decode code 168 = .ok (.aload_n 0, 1) := by decide +kernel
theorem d_Law_law_169 : decode code 169 = .ok (.iload_n 3, 1) := by decide +kernel
theorem d_Law_law_170 : decode code 170 = .ok (.iconst 1, 1) := by decide +kernel
theorem d_Law_law_171 : decode code 171 = .ok (.iadd, 1) := by decide +kernel
theorem d_Law_law_172 : decode code 172 = .ok (.iaload, 1) := by decide +kernel
theorem d_Law_law_173 : decode code 173 = .ok (.invokevirtual 18, 3) := by decide +kernel
theorem d_Law_law_176 : decode code 176 = .ok (.aload_n 2, 1) := by decide +kernel
theorem d_Law_law_177 : decode code 177 = .ok (.aload_n 0, 1) := by decide +kernel
theorem d_Law_law_178 : decode code 178 = .ok (.iload_n 3, 1) := by decide +kernel
theorem d_Law_law_179 : decode code 179 = .ok (.iconst 1, 1) := by decide +kernel
theorem d_Law_law_180 : decode code 180 = .ok (.iadd, 1) := by decide +kernel
theorem d_Law_law_181 : decode code 181 = .ok (.iaload, 1) := by decide +kernel
theorem d_Law_law_182 : decode code 182 = .ok (.invokevirtual 22, 3) := by decide +kernel
theorem d_Law_law_185 : decode code 185 = .ok (.if_icmp .eq 227, 3) := by decide +kernel
theorem d_Law_law_188 : decode code 188 = .ok (.iconst 0, 1) := by decide +kernel
theorem d_Law_law_189 : decode code 189 = .ok (.ireturn, 1) := by decide +kernel
theorem d_Law_law_190 : decode code 190 = .ok (.aload_n 1, 1) := by decide +kernel
theorem d_Law_law_191 : decode code 191 = .ok (.aload_n 0, 1) := by decide +kernel
theorem d_Law_law_192 : decode code 192 = .ok (.iload_n 3, 1) := by decide +kernel
theorem d_Law_law_193 : decode code 193 = .ok (.iconst 1, 1) := by decide +kernel
theorem d_Law_law_194 : decode code 194 = .ok (.iadd, 1) := by decide +kernel
theorem d_Law_law_195 : decode code 195 = .ok (.iaload, 1) := by decide +kernel
theorem d_Law_law_196 : decode code 196 = .ok (.invokevirtual 23, 3) := by decide +kernel
theorem d_Law_law_199 : decode code 199 = .ok (.aload_n 2, 1) := by decide +kernel
theorem d_Law_law_200 : decode code 200 = .ok (.aload_n 0, 1) := by decide +kernel
theorem d_Law_law_201 : decode code 201 = .ok (.iload_n 3, 1) := by decide +kernel
theorem d_Law_law_202 : decode code 202 = .ok (.iconst 1, 1) := by decide +kernel
theorem d_Law_law_203 : decode code 203 = .ok (.iadd, 1) := by decide +kernel
theorem d_Law_law_204 : decode code 204 = .ok (.iaload, 1) := by decide +kernel
theorem d_Law_law_205 : decode code 205 = .ok (.invokevirtual 26, 3) := by decide +kernel
theorem d_Law_law_208 : decode code 208 = .ok (.if_icmp .eq 204, 3) := by decide +kernel
theorem d_Law_law_211 : decode code 211 = .ok (.iconst 0, 1) := by decide +kernel
theorem d_Law_law_212 : decode code 212 = .ok (.ireturn, 1) := by decide +kernel
theorem d_Law_law_213 : decode code 213 = .ok (.aload_n 1, 1) := by decide +kernel
theorem d_Law_law_214 : decode code 214 = .ok (.invokevirtual 27, 3) := by decide +kernel
theorem d_Law_law_217 : decode code 217 = .ok (.aload_n 2, 1) := by decide +kernel
theorem d_Law_law_218 : decode code 218 = .ok (.invokevirtual 31, 3) := by decide +kernel
theorem d_Law_law_221 : decode code 221 = .ok (.if_icmp .eq 191, 3) := by decide +kernel
theorem d_Law_law_224 : decode code 224 = .ok (.iconst 0, 1) := by decide +kernel
theorem d_Law_law_225 : decode code 225 = .ok (.ireturn, 1) := by decide +kernel
theorem d_Law_law_226 : decode code 226 = .ok (.aload_n 1, 1) := by decide +kernel
theorem d_Law_law_227 : decode code 227 = .ok (.invokevirtual 32, 3) := by decide +kernel
theorem d_Law_law_230 : decode code 230 = .ok (.aload_n 2, 1) := by decide +kernel
theorem d_Law_law_231 : decode code 231 = .ok (.invokevirtual 35, 3) := by decide +kernel
theorem d_Law_law_234 : decode code 234 = .ok (.if_icmp .eq 178, 3) := by decide +kernel
theorem d_Law_law_237 : decode code 237 = .ok (.iconst 0, 1) := by decide +kernel
theorem d_Law_law_238 : decode code 238 = .ok (.ireturn, 1) := by decide +kernel
theorem d_Law_law_239 : decode code 239 = .ok (.aload_n 1, 1) := by decide +kernel
theorem d_Law_law_240 : decode code 240 = .ok (.invokevirtual 36, 3) := by decide +kernel
theorem d_Law_law_243 : decode code 243 = .ok (.aload_n 2, 1) := by decide +kernel
theorem d_Law_law_244 : decode code 244 = .ok (.invokevirtual 39, 3) := by decide +kernel
theorem d_Law_law_247 : decode code 247 = .ok (.if_icmp .eq 165, 3) := by decide +kernel
theorem d_Law_law_250 : decode code 250 = .ok (.iconst 0, 1) := by decide +kernel
theorem d_Law_law_251 : decode code 251 = .ok (.ireturn, 1) := by decide +kernel
theorem d_Law_law_252 : decode code 252 = .ok (.aload_n 1, 1) := by decide +kernel
theorem d_Law_law_253 : decode code 253 = .ok (.invokevirtual 40, 3) := by decide +kernel
theorem d_Law_law_256 : decode code 256 = .ok (.aload_n 2, 1) := by decide +kernel
theorem d_Law_law_257 : decode code 257 = .ok (.invokevirtual 43, 3) := by decide +kernel
theorem d_Law_law_260 : decode code 260 = .ok (.if_icmp .eq 152, 3) := by decide +kernel
theorem d_Law_law_263 : decode code 263 = .ok (.iconst 0, 1) := by decide +kernel
theorem d_Law_law_264 : decode code 264 = .ok (.ireturn, 1) := by decide +kernel
theorem d_Law_law_265 : decode code 265 = .ok (.aload_n 1, 1) := by decide +kernel
theorem d_Law_law_266 : decode code 266 = .ok (.invokevirtual 44, 3) := by decide +kernel
theorem d_Law_law_269 : decode code 269 = .ok (.aload_n 2, 1) := by decide +kernel
theorem d_Law_law_270 : decode code 270 = .ok (.invokevirtual 47, 3) := by decide +kernel
theorem d_Law_law_273 : decode code 273 = .ok (.if_icmp .eq 139, 3) := by decide +kernel
theorem d_Law_law_276 : decode code 276 = .ok (.iconst 0, 1) := by decide +kernel
theorem d_Law_law_277 : decode code 277 = .ok (.ireturn, 1) := by decide +kernel
theorem d_Law_law_278 : decode code 278 = .ok (.aload_n 1, 1) := by decide +kernel
theorem d_Law_law_279 : decode code 279 = .ok (.invokevirtual 48, 3) := by decide +kernel
theorem d_Law_law_282 : decode code 282 = .ok (.aload_n 2, 1) := by decide +kernel
theorem d_Law_law_283 : decode code 283 = .ok (.invokevirtual 51, 3) := by decide +kernel
theorem d_Law_law_286 : decode code 286 = .ok (.if_icmp .eq 126, 3) := by decide +kernel
theorem d_Law_law_289 : decode code 289 = .ok (.iconst 0, 1) := by decide +kernel
theorem d_Law_law_290 : decode code 290 = .ok (.ireturn, 1) := by decide +kernel
theorem d_Law_law_291 : decode code 291 = .ok (.aload_n 1, 1) := by decide +kernel
theorem d_Law_law_292 : decode code 292 = .ok (.aload_n 0, 1) := by decide +kernel
theorem d_Law_law_293 : decode code 293 = .ok (.iload_n 3, 1) := by decide +kernel
theorem d_Law_law_294 : decode code 294 = .ok (.iconst 1, 1) := by decide +kernel
theorem d_Law_law_295 : decode code 295 = .ok (.iadd, 1) := by decide +kernel
theorem d_Law_law_296 : decode code 296 = .ok (.iaload, 1) := by decide +kernel
theorem d_Law_law_297 : decode code 297 = .ok (.ifCond .eq 7, 3) := by decide +kernel
theorem d_Law_law_300 : decode code 300 = .ok (.iconst 1, 1) := by decide +kernel
theorem d_Law_law_301 : decode code 301 = .ok (.goto 4, 3) := by decide +kernel
theorem d_Law_law_304 : decode code 304 = .ok (.iconst 0, 1) := by decide +kernel
theorem d_Law_law_305 : decode code 305 = .ok (.invokevirtual 52, 3) := by decide +kernel
theorem d_Law_law_308 : decode code 308 = .ok (.aload_n 2, 1) := by decide +kernel
theorem d_Law_law_309 : decode code 309 = .ok (.aload_n 0, 1) := by decide +kernel
theorem d_Law_law_310 : decode code 310 = .ok (.iload_n 3, 1) := by decide +kernel
theorem d_Law_law_311 : decode code 311 = .ok (.iconst 1, 1) := by decide +kernel
theorem d_Law_law_312 : decode code 312 = .ok (.iadd, 1) := by decide +kernel
theorem d_Law_law_313 : decode code 313 = .ok (.iaload, 1) := by decide +kernel
theorem d_Law_law_314 : decode code 314 = .ok (.ifCond .eq 7, 3) := by decide +kernel
theorem d_Law_law_317 : decode code 317 = .ok (.iconst 1, 1) := by decide +kernel
theorem d_Law_law_318 : decode code 318 = .ok (.goto 4, 3) := by decide +kernel
theorem d_Law_law_321 : decode code 321 = .ok (.iconst 0, 1) := by decide +kernel
theorem d_Law_law_322 : decode code 322 = .ok (.invokevirtual 56, 3) := by decide +kernel
theorem d_Law_law_325 : decode code 325 = .ok (.if_icmp .eq 87, 3) := by decide +kernel
theorem d_Law_law_328 : decode code 328 = .ok (.iconst 0, 1) := by decide +kernel
theorem d_Law_law_329 : decode code 329 = .ok (.ireturn, 1) := by decide +kernel
theorem d_Law_law_330 : decode code 330 = .ok (.aload_n 1, 1) := by decide +kernel
theorem d_Law_law_331 : decode code 331 = .ok (.invokevirtual 57, 3) := by decide +kernel
theorem d_Law_law_334 : decode code 334 = .ok (.aload_n 2, 1) := by decide +kernel
theorem d_Law_law_335 : decode code 335 = .ok (.invokevirtual 60, 3) := by decide +kernel
theorem d_Law_law_338 : decode code 338 = .ok (.if_icmp .eq 74, 3) := by decide +kernel
theorem d_Law_law_341 : decode code 341 = .ok (.iconst 0, 1) := by decide +kernel
theorem d_Law_law_342 : decode code 342 = .ok (.ireturn, 1) := by decide +kernel
theorem d_Law_law_343 : decode code 343 = .ok (.aload_n 1, 1) := by decide +kernel
theorem d_Law_law_344 : decode code 344 = .ok (.aload_n 0, 1) := by decide +kernel
theorem d_Law_law_345 : decode code 345 = .ok (.iload_n 3, 1) := by decide +kernel
theorem d_Law_law_346 : decode code 346 = .ok (.iconst 1, 1) := by decide +kernel
theorem d_Law_law_347 : decode code 347 = .ok (.iadd, 1) := by decide +kernel
theorem d_Law_law_348 : decode code 348 = .ok (.iaload, 1) := by decide +kernel
theorem d_Law_law_349 : decode code 349 = .ok (.invokevirtual 61, 3) := by decide +kernel
theorem d_Law_law_352 : decode code 352 = .ok (.aload_n 2, 1) := by decide +kernel
theorem d_Law_law_353 : decode code 353 = .ok (.aload_n 0, 1) := by decide +kernel
theorem d_Law_law_354 : decode code 354 = .ok (.iload_n 3, 1) := by decide +kernel
theorem d_Law_law_355 : decode code 355 = .ok (.iconst 1, 1) := by decide +kernel
theorem d_Law_law_356 : decode code 356 = .ok (.iadd, 1) := by decide +kernel
theorem d_Law_law_357 : decode code 357 = .ok (.iaload, 1) := by decide +kernel
theorem d_Law_law_358 : decode code 358 = .ok (.invokevirtual 64, 3) := by decide +kernel
theorem d_Law_law_361 : decode code 361 = .ok (.if_icmp .eq 51, 3) := by decide +kernel
theorem d_Law_law_364 : decode code 364 = .ok (.iconst 0, 1) := by decide +kernel
theorem d_Law_law_365 : decode code 365 = .ok (.ireturn, 1) := by decide +kernel
theorem d_Law_law_366 : decode code 366 = .ok (.aload_n 1, 1) := by decide +kernel
theorem d_Law_law_367 : decode code 367 = .ok (.aload_n 0, 1) := by decide +kernel
theorem d_Law_law_368 : decode code 368 = .ok (.iload_n 3, 1) := by decide +kernel
theorem d_Law_law_369 : decode code 369 = .ok (.iconst 1, 1) := by decide +kernel
theorem d_Law_law_370 : decode code 370 = .ok (.iadd, 1) := by decide +kernel
theorem d_Law_law_371 : decode code 371 = .ok (.iaload, 1) := by decide +kernel
theorem d_Law_law_372 : decode code 372 = .ok (.invokevirtual 65, 3) := by decide +kernel
theorem d_Law_law_375 : decode code 375 = .ok (.aload_n 2, 1) := by decide +kernel
theorem d_Law_law_376 : decode code 376 = .ok (.aload_n 0, 1) := by decide +kernel
theorem d_Law_law_377 : decode code 377 = .ok (.iload_n 3, 1) := by decide +kernel
theorem d_Law_law_378 : decode code 378 = .ok (.iconst 1, 1) := by decide +kernel
theorem d_Law_law_379 : decode code 379 = .ok (.iadd, 1) := by decide +kernel
theorem d_Law_law_380 : decode code 380 = .ok (.iaload, 1) := by decide +kernel
theorem d_Law_law_381 : decode code 381 = .ok (.invokevirtual 68, 3) := by decide +kernel
theorem d_Law_law_384 : decode code 384 = .ok (.if_icmp .eq 28, 3) := by decide +kernel
theorem d_Law_law_387 : decode code 387 = .ok (.iconst 0, 1) := by decide +kernel
theorem d_Law_law_388 : decode code 388 = .ok (.ireturn, 1) := by decide +kernel
theorem d_Law_law_389 : decode code 389 = .ok (.aload_n 1, 1) := by decide +kernel
theorem d_Law_law_390 : decode code 390 = .ok (.aload_n 0, 1) := by decide +kernel
theorem d_Law_law_391 : decode code 391 = .ok (.iload_n 3, 1) := by decide +kernel
theorem d_Law_law_392 : decode code 392 = .ok (.iconst 1, 1) := by decide +kernel
theorem d_Law_law_393 : decode code 393 = .ok (.iadd, 1) := by decide +kernel
theorem d_Law_law_394 : decode code 394 = .ok (.iaload, 1) := by decide +kernel
theorem d_Law_law_395 : decode code 395 = .ok (.invokevirtual 69, 3) := by decide +kernel
theorem d_Law_law_398 : decode code 398 = .ok (.aload_n 2, 1) := by decide +kernel
theorem d_Law_law_399 : decode code 399 = .ok (.aload_n 0, 1) := by decide +kernel
theorem d_Law_law_400 : decode code 400 = .ok (.iload_n 3, 1) := by decide +kernel
theorem d_Law_law_401 : decode code 401 = .ok (.iconst 1, 1) := by decide +kernel
theorem d_Law_law_402 : decode code 402 = .ok (.iadd, 1) := by decide +kernel
theorem d_Law_law_403 : decode code 403 = .ok (.iaload, 1) := by decide +kernel
theorem d_Law_law_404 : decode code 404 = .ok (.invokevirtual 72, 3) := by decide +kernel
theorem d_Law_law_407 : decode code 407 = .ok (.if_icmp .eq 5, 3) := by decide +kernel
theorem d_Law_law_410 : decode code 410 = .ok (.iconst 0, 1) := by decide +kernel
theorem d_Law_law_411 : decode code 411 = .ok (.ireturn, 1) := by decide +kernel
theorem d_Law_law_412 : decode code 412 = .ok (.iinc 3 6, 3) := by decide +kernel
theorem d_Law_law_415 : decode code 415 = .ok (.goto (-397), 3) := by decide +kernel
theorem d_Law_law_418 : decode code 418 = .ok (.iconst 1, 1) := by decide +kernel
theorem d_Law_law_419 : decode code 419 = .ok (.ireturn, 1) := by decide +kernel
end
section
/-! constants as the code pushes them -/
theorem xup_o {M : xH} {a b : Nat} {z w : xE} (h : b ≠ a) (hw : M b = some w) : xup M a z b = some w := by rw [xup_n M z h]; exact hw
theorem ci_bipush_m4 : (Int8.ofInt (-4)).toInt32 = (-4) := by decide +kernel
theorem ci_bipush_m3 : (Int8.ofInt (-3)).toInt32 = (-3) := by decide +kernel
theorem ci_bipush_m2 : (Int8.ofInt (-2)).toInt32 = (-2) := by decide +kernel
theorem ci_bipush_6 : (Int8.ofInt (6)).toInt32 = (nI 6) := by decide +kernel
theorem ci_bipush_7 : (Int8.ofInt (7)).toInt32 = (nI 7) := by decide +kernel
theorem ci_bipush_8 : (Int8.ofInt (8)).toInt32 = (nI 8) := by decide +kernel
theorem ci_bipush_10 : (Int8.ofInt (10)).toInt32 = (nI 10) := by decide +kernel
theorem ci_bipush_12 : (Int8.ofInt (12)).toInt32 = (nI 12) := by decide +kernel
theorem ci_bipush_15 : (Int8.ofInt (15)).toInt32 = (nI 15) := by decide +kernel
theorem ci_bipush_20 : (Int8.ofInt (20)).toInt32 = (nI 20) := by decide +kernel
theorem ci_bipush_24 : (Int8.ofInt (24)).toInt32 = (nI 24) := by decide +kernel
theorem ci_bipush_30 : (Int8.ofInt (30)).toInt32 = (nI 30) := by decide +kernel
theorem ci_bipush_32 : (Int8.ofInt (32)).toInt32 = (nI 32) := by decide +kernel
theorem ci_bipush_33 : (Int8.ofInt (33)).toInt32 = (nI 33) := by decide +kernel
theorem ci_bipush_34 : (Int8.ofInt (34)).toInt32 = (nI 34) := by decide +kernel
theorem ci_bipush_39 : (Int8.ofInt (39)).toInt32 = (nI 39) := by decide +kernel
theorem ci_bipush_40 : (Int8.ofInt (40)).toInt32 = (nI 40) := by decide +kernel
theorem ci_bipush_41 : (Int8.ofInt (41)).toInt32 = (nI 41) := by decide +kernel
theorem ci_bipush_43 : (Int8.ofInt (43)).toInt32 = (nI 43) := by decide +kernel
theorem ci_bipush_45 : (Int8.ofInt (45)).toInt32 = (nI 45) := by decide +kernel
theorem ci_bipush_46 : (Int8.ofInt (46)).toInt32 = (nI 46) := by decide +kernel
theorem ci_bipush_48 : (Int8.ofInt (48)).toInt32 = (nI 48) := by decide +kernel
theorem ci_bipush_57 : (Int8.ofInt (57)).toInt32 = (nI 57) := by decide +kernel
theorem ci_bipush_61 : (Int8.ofInt (61)).toInt32 = (nI 61) := by decide +kernel
theorem ci_bipush_63 : (Int8.ofInt (63)).toInt32 = (nI 63) := by decide +kernel
theorem ci_bipush_65 : (Int8.ofInt (65)).toInt32 = (nI 65) := by decide +kernel
theorem ci_bipush_84 : (Int8.ofInt (84)).toInt32 = (nI 84) := by decide +kernel
theorem ci_bipush_90 : (Int8.ofInt (90)).toInt32 = (nI 90) := by decide +kernel
theorem ci_bipush_95 : (Int8.ofInt (95)).toInt32 = (nI 95) := by decide +kernel
theorem ci_bipush_96 : (Int8.ofInt (96)).toInt32 = (nI 96) := by decide +kernel
theorem ci_bipush_97 : (Int8.ofInt (97)).toInt32 = (nI 97) := by decide +kernel
theorem ci_bipush_100 : (Int8.ofInt (100)).toInt32 = (nI 100) := by decide +kernel
theorem ci_bipush_101 : (Int8.ofInt (101)).toInt32 = (nI 101) := by decide +kernel
theorem ci_bipush_122 : (Int8.ofInt (122)).toInt32 = (nI 122) := by decide +kernel
theorem ci_iconst_m8 : Int32.ofInt (-8) = (-8) := by decide +kernel
theorem ci_iconst_m1 : Int32.ofInt (-1) = (-1) := by decide +kernel
theorem ci_iconst_0 : Int32.ofInt (0) = (nI 0) := by decide +kernel
theorem ci_iconst_1 : Int32.ofInt (1) = (nI 1) := by decide +kernel
theorem ci_iconst_2 : Int32.ofInt (2) = (nI 2) := by decide +kernel
theorem ci_iconst_3 : Int32.ofInt (3) = (nI 3) := by decide +kernel
theorem ci_iconst_4 : Int32.ofInt (4) = (nI 4) := by decide +kernel
theorem ci_iconst_5 : Int32.ofInt (5) = (nI 5) := by decide +kernel
theorem ci_iconst_6 : Int32.ofInt (6) = (nI 6) := by decide +kernel
theorem ci_sipush_m1000 : (Int16.ofInt (-1000)).toInt32 = (-1000) := by decide +kernel
theorem ci_sipush_200 : (Int16.ofInt (200)).toInt32 = (nI 200) := by decide +kernel
theorem ci_sipush_201 : (Int16.ofInt (201)).toInt32 = (nI 201) := by decide +kernel
theorem ci_sipush_255 : (Int16.ofInt (255)).toInt32 = (nI 255) := by decide +kernel
theorem ci_sipush_600 : (Int16.ofInt (600)).toInt32 = (nI 600) := by decide +kernel
theorem ci_sipush_1000 : (Int16.ofInt (1000)).toInt32 = (nI 1000) := by decide +kernel
theorem ci_sipush_19200 : (Int16.ofInt (19200)).toInt32 = (nI 19200) := by decide +kernel
theorem ci_sipush_20200 : (Int16.ofInt (20200)).toInt32 = (nI 20200) := by decide +kernel
theorem xg_forget {K : xK} {pc : Nat} {vs : List (Option Value)} {st : List Value} {M : xH} {sz c n : Nat} (k : Nat) (h : xG K pc (vs.set k none) st M sz c n) : xG K pc vs st M sz c n := by
  refine xg_sub (fun i v hv => ?_) h
  by_cases hk : k = i
  · subst hk
    rw [List.getElem?_set] at hv
    split at hv
    · split at hv <;> cases hv
    · exact hv
  · rw [List.getElem?_set_ne hk] at hv
    exact hv
theorem xp_drop_0 {K : xK} {pc : Nat} {vs : List (Option Value)} {st : List Value} {M : xH} {sz c n : Nat} { z : Option Value} (h : xG K pc (none :: vs) st M sz c n) : xG K pc (z :: vs) st M sz c n := xg_forget 0 h
theorem xp_drop_1 {K : xK} {pc : Nat} {vs : List (Option Value)} {st : List Value} {M : xH} {sz c n : Nat} {a0 z : Option Value} (h : xG K pc (a0 :: none :: vs) st M sz c n) : xG K pc (a0 :: z :: vs) st M sz c n := xg_forget 1 h
theorem xp_drop_2 {K : xK} {pc : Nat} {vs : List (Option Value)} {st : List Value} {M : xH} {sz c n : Nat} {a0 a1 z : Option Value} (h : xG K pc (a0 :: a1 :: none :: vs) st M sz c n) : xG K pc (a0 :: a1 :: z :: vs) st M sz c n := xg_forget 2 h
theorem xp_drop_3 {K : xK} {pc : Nat} {vs : List (Option Value)} {st : List Value} {M : xH} {sz c n : Nat} {a0 a1 a2 z : Option Value} (h : xG K pc (a0 :: a1 :: a2 :: none :: vs) st M sz c n) : xG K pc (a0 :: a1 :: a2 :: z :: vs) st M sz c n := xg_forget 3 h
theorem xp_drop_4 {K : xK} {pc : Nat} {vs : List (Option Value)} {st : List Value} {M : xH} {sz c n : Nat} {a0 a1 a2 a3 z : Option Value} (h : xG K pc (a0 :: a1 :: a2 :: a3 :: none :: vs) st M sz c n) : xG K pc (a0 :: a1 :: a2 :: a3 :: z :: vs) st M sz c n := xg_forget 4 h
theorem xp_drop_5 {K : xK} {pc : Nat} {vs : List (Option Value)} {st : List Value} {M : xH} {sz c n : Nat} {a0 a1 a2 a3 a4 z : Option Value} (h : xG K pc (a0 :: a1 :: a2 :: a3 :: a4 :: none :: vs) st M sz c n) : xG K pc (a0 :: a1 :: a2 :: a3 :: a4 :: z :: vs) st M sz c n := xg_forget 5 h
theorem xp_drop_6 {K : xK} {pc : Nat} {vs : List (Option Value)} {st : List Value} {M : xH} {sz c n : Nat} {a0 a1 a2 a3 a4 a5 z : Option Value} (h : xG K pc (a0 :: a1 :: a2 :: a3 :: a4 :: a5 :: none :: vs) st M sz c n) : xG K pc (a0 :: a1 :: a2 :: a3 :: a4 :: a5 :: z :: vs) st M sz c n := xg_forget 6 h
theorem xp_drop_7 {K : xK} {pc : Nat} {vs : List (Option Value)} {st : List Value} {M : xH} {sz c n : Nat} {a0 a1 a2 a3 a4 a5 a6 z : Option Value} (h : xG K pc (a0 :: a1 :: a2 :: a3 :: a4 :: a5 :: a6 :: none :: vs) st M sz c n) : xG K pc (a0 :: a1 :: a2 :: a3 :: a4 :: a5 :: a6 :: z :: vs) st M sz c n := xg_forget 7 h
theorem xp_drop_8 {K : xK} {pc : Nat} {vs : List (Option Value)} {st : List Value} {M : xH} {sz c n : Nat} {a0 a1 a2 a3 a4 a5 a6 a7 z : Option Value} (h : xG K pc (a0 :: a1 :: a2 :: a3 :: a4 :: a5 :: a6 :: a7 :: none :: vs) st M sz c n) : xG K pc (a0 :: a1 :: a2 :: a3 :: a4 :: a5 :: a6 :: a7 :: z :: vs) st M sz c n := xg_forget 8 h
theorem xp_drop_9 {K : xK} {pc : Nat} {vs : List (Option Value)} {st : List Value} {M : xH} {sz c n : Nat} {a0 a1 a2 a3 a4 a5 a6 a7 a8 z : Option Value} (h : xG K pc (a0 :: a1 :: a2 :: a3 :: a4 :: a5 :: a6 :: a7 :: a8 :: none :: vs) st M sz c n) : xG K pc (a0 :: a1 :: a2 :: a3 :: a4 :: a5 :: a6 :: a7 :: a8 :: z :: vs) st M sz c n := xg_forget 9 h
theorem xp_drop_10 {K : xK} {pc : Nat} {vs : List (Option Value)} {st : List Value} {M : xH} {sz c n : Nat} {a0 a1 a2 a3 a4 a5 a6 a7 a8 a9 z : Option Value} (h : xG K pc (a0 :: a1 :: a2 :: a3 :: a4 :: a5 :: a6 :: a7 :: a8 :: a9 :: none :: vs) st M sz c n) : xG K pc (a0 :: a1 :: a2 :: a3 :: a4 :: a5 :: a6 :: a7 :: a8 :: a9 :: z :: vs) st M sz c n := xg_forget 10 h
theorem xp_drop_11 {K : xK} {pc : Nat} {vs : List (Option Value)} {st : List Value} {M : xH} {sz c n : Nat} {a0 a1 a2 a3 a4 a5 a6 a7 a8 a9 a10 z : Option Value} (h : xG K pc (a0 :: a1 :: a2 :: a3 :: a4 :: a5 :: a6 :: a7 :: a8 :: a9 :: a10 :: none :: vs) st M sz c n) : xG K pc (a0 :: a1 :: a2 :: a3 :: a4 :: a5 :: a6 :: a7 :: a8 :: a9 :: a10 :: z :: vs) st M sz c n := xg_forget 11 h
theorem xp_drop_12 {K : xK} {pc : Nat} {vs : List (Option Value)} {st : List Value} {M : xH} {sz c n : Nat} {a0 a1 a2 a3 a4 a5 a6 a7 a8 a9 a10 a11 z : Option Value} (h : xG K pc (a0 :: a1 :: a2 :: a3 :: a4 :: a5 :: a6 :: a7 :: a8 :: a9 :: a10 :: a11 :: none :: vs) st M sz c n) : xG K pc (a0 :: a1 :: a2 :: a3 :: a4 :: a5 :: a6 :: a7 :: a8 :: a9 :: a10 :: a11 :: z :: vs) st M sz c n := xg_forget 12 h
theorem xn_alen {Y : xM} {rm : Room} {K : xK} {pc : Nat} {vs : List (Option Value)} {st : List Value} {M : xH} {sz c n : Nat} (h : xX Y rm K) {t a n0 : Nat} {y : (Nat → Int32) ⊕ (Nat → Int64) ⊕ (Nat → UInt32) ⊕ (Nat → UInt64) ⊕ (Nat → Option Nat)} {ty : FieldType} (hd : decode Y.2.1 pc = .ok (.arraylength, 1)) (ht : xTy[t]? = some ty) (hM : M a = some (.inl (t, n0, y))) (k : xG K (pc + 1) vs (.int (nI n0) :: st) M sz c n) : xG K pc vs (.ref a :: st) M sz c n := xg_alen h hd ht hM k
end
section
/-! forms of contracts: an int, nothing, a reference or null as the answer; no cell is made -/
def qi (sz : Nat) (P : Int32 → xH → Prop) : xQ := fun v M' sz' => sz' = sz ∧ ∃ x, v = some (.int x) ∧ P x M'
def qv (sz : Nat) (P : xH → Prop) : xQ := fun v M' sz' => sz' = sz ∧ v = none ∧ P M'
def qr (sz : Nat) (P : Option Nat → xH → Prop) : xQ := fun v M' sz' => sz' = sz ∧ ∃ o, v = some (va_rf o) ∧ P o M'
section XF
variable {Y Y2 : xM} {K : xK} {pc : Nat} {vs : List (Option Value)} {st : List Value} {M : xH} {sz c n d mc0 ms0 np ix : Nat}
theorem xi_V (h : xX Y (xR (d + 1) mc0 ms0) K) {ci N b : Nat} {T : u_T} {ty : Nat → FieldType} {fs : List Value} {P : Int32 → xH → Prop} (As : List Value) (hcl : xCl ci Y2.1.cls T N ty) (hm : xVm Y2 np) (hd : decode Y.2.1 pc = .ok (.invokevirtual ix, 3)) (hw : Cond.methodLink Y.1.cls ix Y2.1 ∈ lw_g) (hn : As.length = np) {st0 : List Value} (hst : As.reverse ++ .ref b :: st = st0) (hb8 : (st.map fun v => v.category).sum ≤ 8) (hM : M b = some (.inr (ci, fs))) (hC : xC d 0 0 Y2 (.ref b :: As) M sz (qi sz P)) (hcc : c ≤ mc0) (hss : n ≤ ms0) (k : ∀ x M', P x M' → xG K (pc + 3) vs (.int x :: st) M' sz c n) : xG K pc vs st0 M sz c n :=
  xg_callV h As hcl hm hd hw hn hst hb8 hM hC hcc hss (fun v M' sz' hq => by
    obtain ⟨rfl, x, rfl, hp⟩ := hq
    exact k x M' hp)
theorem xv_V (h : xX Y (xR (d + 1) mc0 ms0) K) {ci N b : Nat} {T : u_T} {ty : Nat → FieldType} {fs : List Value} {P : xH → Prop} (As : List Value) (hcl : xCl ci Y2.1.cls T N ty) (hm : xVm Y2 np) (hd : decode Y.2.1 pc = .ok (.invokevirtual ix, 3)) (hw : Cond.methodLink Y.1.cls ix Y2.1 ∈ lw_g) (hn : As.length = np) {st0 : List Value} (hst : As.reverse ++ .ref b :: st = st0) (hb8 : (st.map fun v => v.category).sum ≤ 8) (hM : M b = some (.inr (ci, fs))) (hC : xC d 0 0 Y2 (.ref b :: As) M sz (qv sz P)) (hcc : c ≤ mc0) (hss : n ≤ ms0) (k : ∀ M', P M' → xG K (pc + 3) vs st M' sz c n) : xG K pc vs st0 M sz c n :=
  xg_callV h As hcl hm hd hw hn hst hb8 hM hC hcc hss (fun v M' sz' hq => by
    obtain ⟨rfl, rfl, hp⟩ := hq
    exact k M' hp)
theorem xr_V (h : xX Y (xR (d + 1) mc0 ms0) K) {ci N b : Nat} {T : u_T} {ty : Nat → FieldType} {fs : List Value} {P : Option Nat → xH → Prop} (As : List Value) (hcl : xCl ci Y2.1.cls T N ty) (hm : xVm Y2 np) (hd : decode Y.2.1 pc = .ok (.invokevirtual ix, 3)) (hw : Cond.methodLink Y.1.cls ix Y2.1 ∈ lw_g) (hn : As.length = np) {st0 : List Value} (hst : As.reverse ++ .ref b :: st = st0) (hb8 : (st.map fun v => v.category).sum ≤ 8) (hM : M b = some (.inr (ci, fs))) (hC : xC d 0 0 Y2 (.ref b :: As) M sz (qr sz P)) (hcc : c ≤ mc0) (hss : n ≤ ms0) (k : ∀ o M', P o M' → xG K (pc + 3) vs (va_rf o :: st) M' sz c n) : xG K pc vs st0 M sz c n :=
  xg_callV h As hcl hm hd hw hn hst hb8 hM hC hcc hss (fun v M' sz' hq => by
    obtain ⟨rfl, o, rfl, hp⟩ := hq
    exact k o M' hp)
theorem xi_S (h : xX Y (xR (d + 1) mc0 ms0) K) {P : Int32 → xH → Prop} (As : List Value) (hm : xSm Y2 np) (hd : decode Y.2.1 pc = .ok (.invokestatic ix, 3)) (hw : Cond.methodLink Y.1.cls ix Y2.1 ∈ lw_g) (hn : As.length = np) {st0 : List Value} (hst : As.reverse ++ st = st0) (hb8 : (st.map fun v => v.category).sum ≤ 8) (hC : xC d 0 0 Y2 As M sz (qi sz P)) (hcc : c ≤ mc0) (hss : n ≤ ms0) (k : ∀ x M', P x M' → xG K (pc + 3) vs (.int x :: st) M' sz c n) : xG K pc vs st0 M sz c n :=
  xg_callS h As hm hd hw hn hst hb8 hC hcc hss (fun v M' sz' hq => by
    obtain ⟨rfl, x, rfl, hp⟩ := hq
    exact k x M' hp)
theorem xi_SN (h : xX Y (xR (d + 1) mc0 ms0) K) {host : String} {P : Int32 → xH → Prop} (As : List Value) (hm : xSm Y2 np) (hd : decode Y.2.1 pc = .ok (.invokestatic ix, 3)) (hw : (Y.1.cls, ix, Y2.1, host) ∈ xNl) (hn : As.length = np) {st0 : List Value} (hst : As.reverse ++ st = st0) (hb8 : (st.map fun v => v.category).sum ≤ 8) (hC : xC d 0 0 Y2 As M sz (qi sz P)) (hcc : c ≤ mc0) (hss : n ≤ ms0) (k : ∀ x M', P x M' → xG K (pc + 3) vs (.int x :: st) M' sz c n) : xG K pc vs st0 M sz c n :=
  xg_callSN h As hm hd hw hn hst hb8 hC hcc hss (fun v M' sz' hq => by
    obtain ⟨rfl, x, rfl, hp⟩ := hq
    exact k x M' hp)
end XF
/-! bytes -/
def oI (o : Option UInt8) : Int32 := match o with
  | none => -1
  | some b => nI b.toNat
def bI (b : Bool) : Int32 := nI b.toNat
def dig (b : UInt8) : Bool := decide (48 ≤ b.toNat) && decide (b.toNat ≤ 57)
def sym (b : UInt8) : Bool := dig b || (decide (65 ≤ b.toNat) && decide (b.toNat ≤ 90)) || (decide (97 ≤ b.toNat) && decide (b.toNat ≤ 122)) || b.toNat == 46 || b.toNat == 33 || b.toNat == 63 || b.toNat == 95
def cap (b : UInt8) : UInt8 := if 97 ≤ b.toNat ∧ b.toNat ≤ 122 then UInt8.ofNat (b.toNat - 32) else b
def odig (o : Option UInt8) : Bool := match o with
  | none => false
  | some b => dig b
def osym (o : Option UInt8) : Bool := match o with
  | none => false
  | some b => sym b
theorem by_lt (b : UInt8) : b.toNat < 256 := b.toNat_lt
theorem by_lt31 (b : UInt8) : b.toNat < 2147483648 := Nat.lt_trans b.toNat_lt (by decide)
theorem by_ofNat {n : Nat} (h : n < 256) : (UInt8.ofNat n).toNat = n := by
  simp [UInt8.toNat_ofNat]; omega
theorem cap_toNat (b : UInt8) : (cap b).toNat = if 97 ≤ b.toNat ∧ b.toNat ≤ 122 then b.toNat - 32 else b.toNat := by
  unfold cap
  have := by_lt b
  split
  · rw [by_ofNat (by omega)]
  · rfl
theorem oI_le {o : Option UInt8} {k : Nat} (hk : k < 2147483648) : nI k ≤ oI o ↔ ∃ b, o = some b ∧ k ≤ b.toNat := by
  cases o with
  | none =>
    constructor
    · intro h
      have h1 : (0 : Int32) ≤ nI k := nI_pos' hk
      exact absurd (Int32.le_trans h1 h) (by decide)
    · rintro ⟨b, h, -⟩
      cases h
  | some b =>
    show nI k ≤ nI b.toNat ↔ _
    rw [nI_leI hk (by_lt31 b)]
    simp
theorem oI_ge {o : Option UInt8} {k : Nat} (hk : k < 2147483648) : oI o ≤ nI k ↔ ∀ b, o = some b → b.toNat ≤ k := by
  cases o with
  | none =>
    constructor
    · intro _ b h
      cases h
    · intro _
      exact Int32.le_trans (show (-1 : Int32) ≤ 0 from by decide) (nI_pos' hk)
  | some b =>
    show nI b.toNat ≤ nI k ↔ _
    rw [nI_leI (by_lt31 b) hk]
    simp
theorem oI_eq {o : Option UInt8} {k : Nat} (hk : k < 256) : oI o = nI k ↔ o = some (UInt8.ofNat k) := by
  cases o with
  | none =>
    constructor
    · intro h
      have h1 : (0 : Int32) ≤ nI k := nI_pos' (by omega)
      rw [← h] at h1
      exact absurd h1 (by decide)
    · intro h
      cases h
  | some b =>
    show nI b.toNat = nI k ↔ _
    rw [nI_eq (by_lt31 b) (by omega)]
    constructor
    · intro h
      rw [← h]; simp
    · intro h
      cases h
      exact by_ofNat hk
theorem oI_inj {o p : Option UInt8} : oI o = oI p ↔ o = p := by
  cases p with
  | none =>
    cases o with
    | none => exact ⟨fun _ => rfl, fun _ => rfl⟩
    | some b =>
      constructor
      · intro h
        have h1 : (0 : Int32) ≤ nI b.toNat := nI_pos' (by_lt31 b)
        have h2 : nI b.toNat = -1 := h
        rw [h2] at h1
        exact absurd h1 (by decide)
      · intro h
        cases h
  | some b =>
    show oI o = nI b.toNat ↔ _
    rw [oI_eq (by_lt b)]
    simp
theorem bI_ne0 {b : Bool} : ¬ bI b = 0 ↔ b = true := by cases b <;> decide
theorem bI_eq0 {b : Bool} : bI b = 0 ↔ b = false := by cases b <;> decide
/-- the row at r: its bytes lie at r + 1, with room for w of them; bs are held -/
def RowAt (M : xH) (r w : Nat) (bs : List UInt8) : Prop := M r = some (.inr (0, [.ref (r + 1), .int (nI bs.length)])) ∧ bs.length ≤ w ∧ ∃ f : Nat → Int32, M (r + 1) = some (.inl (0, w, .inl f)) ∧ ∀ (j : Nat) (b : UInt8), bs[j]? = some b → f j = sb_b b.toNat
theorem RowAt.kept {M M' : xH} {r w : Nat} {bs : List UInt8} (h : RowAt M r w bs) (h0 : M' r = M r) (h1 : M' (r + 1) = M (r + 1)) : RowAt M' r w bs := by
  obtain ⟨a, b, f, c, d⟩ := h
  exact ⟨by rw [h0]; exact a, b, f, by rw [h1]; exact c, d⟩
theorem sb_and (b : UInt8) : sb_b b.toNat &&& nI 255 = nI b.toNat := (sb_byte b.toNat (by_lt b)).1
def rAt (bs : List UInt8) (x : Int32) : Option UInt8 := if x < 0 then none else bs[x.toNatClampNeg]?
theorem rAt_nI {bs : List UInt8} {i : Nat} (h : i < 2147483648) : rAt bs (nI i) = bs[i]? := by
  unfold rAt
  rw [if_neg (nI_pos h), nI_clamp h]
end
section
/-! the small functions of the class -/
set_option maxHeartbeats 4000000 in
set_option maxRecDepth 100000 in
theorem c_Nam_isDigit (d : Nat) {M : xH} {sz : Nat} (o : Option UInt8) : xC d 0 0 Y_Nam_isDigit [.int (oI o)] M sz (qi sz (fun x M' => x = bI (odig o) ∧ M' = M)) := by
  refine xC_of (by decide) (Nat.le_of_ble_eq_true rfl) (by simp [Value.category]) (vs := [some (.int (oI o))]) rfl (fun K hX hE => ?_)
  have k17 : ∀ v : Bool, odig o = v → xG K 17 [some (.int (oI o))] [.int (bI v)] M sz 0 0 := by
    intro v hv
    refine xg_iret (pc := 17) hX hE d_Nam_isDigit_17 rfl (by cases v <;> rfl) (by omega) (by omega) ?_
    exact ⟨rfl, _, rfl, by rw [hv], rfl⟩
  have k16 : odig o = false → xG K 16 [some (.int (oI o))] [] M sz 0 0 := by
    intro hv
    refine xg_iconst (pc := 16) hX (nI 0) d_Nam_isDigit_16 ci_iconst_0 ?_
    exact k17 false hv
  cases o with
  | none =>
    refine xp_iload_0 (pc := 0) hX d_Nam_isDigit_0 ?_
    refine xg_bipush (pc := 1) hX (nI 48) d_Nam_isDigit_1 ci_bipush_48 ?_
    refine xg_icmp_lt (pc := 3) hX 16 d_Nam_isDigit_3 (by decide) (fun _ => k16 rfl) (fun h => absurd (by decide) h)
  | some b =>
    have hb := by_lt b
    refine xp_iload_0 (pc := 0) hX d_Nam_isDigit_0 ?_
    refine xg_bipush (pc := 1) hX (nI 48) d_Nam_isDigit_1 ci_bipush_48 ?_
    first | refine xn_icmp_lt (pc := 3) hX 16 d_Nam_isDigit_3 (by decide) (by omega) (by omega) (fun h3 => ?_) (fun h3 => ?_) | refine xg_icmp_lt (pc := 3) hX 16 d_Nam_isDigit_3 (by decide) (fun h3 => ?_) (fun h3 => ?_)
    · exact k16 (by simp [odig, dig]; omega)
    · refine xp_iload_0 (pc := 6) hX d_Nam_isDigit_6 ?_
      refine xg_bipush (pc := 7) hX (nI 57) d_Nam_isDigit_7 ci_bipush_57 ?_
      first | refine xn_icmp_gt (pc := 9) hX 16 d_Nam_isDigit_9 (by decide) (by omega) (by omega) (fun h9 => ?_) (fun h9 => ?_) | refine xg_icmp_gt (pc := 9) hX 16 d_Nam_isDigit_9 (by decide) (fun h9 => ?_) (fun h9 => ?_)
      · exact k16 (by simp [odig, dig]; omega)
      · refine xg_iconst (pc := 12) hX (nI 1) d_Nam_isDigit_12 ci_iconst_1 ?_
        refine xg_goto (pc := 13) hX 17 d_Nam_isDigit_13 (by decide) ?_
        exact k17 true (by simp [odig, dig]; omega)
set_option maxHeartbeats 4000000 in
set_option maxRecDepth 100000 in
theorem c_Nam_capital (d : Nat) {M : xH} {sz : Nat} (b : UInt8) : xC d 0 0 Y_Nam_capital [.int (nI b.toNat)] M sz (qi sz (fun x M' => x = nI (cap b).toNat ∧ M' = M)) := by
  refine xC_of (by decide) (Nat.le_of_ble_eq_true rfl) (by simp [Value.category]) (vs := [some (.int (nI b.toNat))]) rfl (fun K hX hE => ?_)
  have hb := by_lt b
  have k22 : (cap b).toNat = b.toNat → xG K 22 [some (.int (nI b.toNat))] [] M sz 0 0 := by
    intro hv
    refine xp_iload_0 (pc := 22) hX d_Nam_capital_22 ?_
    refine xg_iret (pc := 23) hX hE d_Nam_capital_23 rfl rfl (by omega) (by omega) ?_
    exact ⟨rfl, _, rfl, by rw [hv], rfl⟩
  have hc := cap_toNat b
  refine xp_iload_0 (pc := 0) hX d_Nam_capital_0 ?_
  refine xg_bipush (pc := 1) hX (nI 97) d_Nam_capital_1 ci_bipush_97 ?_
  first | refine xn_icmp_lt (pc := 3) hX 22 d_Nam_capital_3 (by decide) (by omega) (by omega) (fun h3 => ?_) (fun h3 => ?_) | refine xg_icmp_lt (pc := 3) hX 22 d_Nam_capital_3 (by decide) (fun h3 => ?_) (fun h3 => ?_)
  · exact k22 (by rw [hc, if_neg (by omega)])
  · refine xp_iload_0 (pc := 6) hX d_Nam_capital_6 ?_
    refine xg_bipush (pc := 7) hX (nI 122) d_Nam_capital_7 ci_bipush_122 ?_
    first | refine xn_icmp_gt (pc := 9) hX 22 d_Nam_capital_9 (by decide) (by omega) (by omega) (fun h9 => ?_) (fun h9 => ?_) | refine xg_icmp_gt (pc := 9) hX 22 d_Nam_capital_9 (by decide) (fun h9 => ?_) (fun h9 => ?_)
    · exact k22 (by rw [hc, if_neg (by omega)])
    · refine xp_iload_0 (pc := 12) hX d_Nam_capital_12 ?_
      refine xg_bipush (pc := 13) hX (nI 97) d_Nam_capital_13 ci_bipush_97 ?_
      first | refine xn_isub (pc := 15) hX d_Nam_capital_15 (by omega) ?_ | refine xg_isub (pc := 15) hX d_Nam_capital_15 ?_
      refine xg_bipush (pc := 16) hX (nI 65) d_Nam_capital_16 ci_bipush_65 ?_
      first | refine xn_iadd (pc := 18) hX d_Nam_capital_18 ?_ | refine xg_iadd (pc := 18) hX d_Nam_capital_18 ?_
      refine xg_goto (pc := 19) hX 23 d_Nam_capital_19 (by decide) ?_
      refine xg_iret (pc := 23) hX hE d_Nam_capital_23 rfl rfl (by omega) (by omega) ?_
      exact ⟨rfl, _, rfl, by rw [hc, if_pos (by omega)]; congr 1; omega, rfl⟩
set_option maxHeartbeats 4000000 in
set_option maxRecDepth 100000 in
theorem c_Nam_isSymbolByte (d : Nat) {M : xH} {sz : Nat} (o : Option UInt8) : xC (d + 1) 0 0 Y_Nam_isSymbolByte [.int (oI o)] M sz (qi sz (fun x M' => x = bI (osym o) ∧ M' = M)) := by
  refine xC_of (by decide) (Nat.le_of_ble_eq_true rfl) (by simp [Value.category]) (vs := [some (.int (oI o)), none]) rfl (fun K hX hE => ?_)
  have k70 : ∀ (vs : List (Option Value)) (v : Bool), osym o = v → xG K 70 vs [.int (bI v)] M sz 0 0 := by
    intro vs v hv
    refine xg_iret (pc := 70) hX hE d_Nam_isSymbolByte_70 rfl (by cases v <;> rfl) (by omega) (by omega) ?_
    exact ⟨rfl, _, rfl, by rw [hv], rfl⟩
  have k65 : ∀ (vs : List (Option Value)), osym o = true → xG K 65 vs [] M sz 0 0 := by
    intro vs hv
    refine xg_iconst (pc := 65) hX (nI 1) d_Nam_isSymbolByte_65 ci_iconst_1 ?_
    refine xg_goto (pc := 66) hX 70 d_Nam_isSymbolByte_66 (by decide) ?_
    exact k70 _ true hv
  have k69 : ∀ (vs : List (Option Value)), osym o = false → xG K 69 vs [] M sz 0 0 := by
    intro vs hv
    refine xg_iconst (pc := 69) hX (nI 0) d_Nam_isSymbolByte_69 ci_iconst_0 ?_
    exact k70 _ false hv
  cases o with
  | none =>
    refine xp_iload_0 (pc := 0) hX d_Nam_isSymbolByte_0 ?_
    refine xg_bipush (pc := 1) hX (nI 65) d_Nam_isSymbolByte_1 ci_bipush_65 ?_
    refine xg_icmp_lt (pc := 3) hX 12 d_Nam_isSymbolByte_3 (by decide) (fun _ => ?_) (fun h => absurd (by decide) h)
    refine xp_iload_0 (pc := 12) hX d_Nam_isSymbolByte_12 ?_
    refine xg_bipush (pc := 13) hX (nI 97) d_Nam_isSymbolByte_13 ci_bipush_97 ?_
    refine xg_icmp_lt (pc := 15) hX 28 d_Nam_isSymbolByte_15 (by decide) (fun _ => ?_) (fun h => absurd (by decide) h)
    refine xg_iconst (pc := 28) hX (nI 0) d_Nam_isSymbolByte_28 ci_iconst_0 ?_
    refine xp_istore_1 (pc := 29) hX d_Nam_isSymbolByte_29 (by decide) ?_
    refine xp_iload_1 (pc := 30) hX d_Nam_isSymbolByte_30 ?_
    refine xn_if_ne (pc := 31) hX 65 d_Nam_isSymbolByte_31 (by decide) (by decide) (fun h => absurd h (by decide)) (fun _ => ?_)
    refine xp_iload_0 (pc := 34) hX d_Nam_isSymbolByte_34 ?_
    refine xi_S (Y2 := Y_Nam_isDigit) (pc := 35) hX [_] m_Nam_isDigit d_Nam_isSymbolByte_35 l_Nam_210 rfl rfl (by simp) (c_Nam_isDigit d none) (by omega) (by omega) ?_
    rintro x M' ⟨rfl, rfl⟩
    refine xn_if_ne (pc := 38) hX 65 d_Nam_isSymbolByte_38 (by decide) (by decide) (fun h => absurd h (by decide)) (fun _ => ?_)
    refine xp_iload_0 (pc := 41) hX d_Nam_isSymbolByte_41 ?_
    refine xg_bipush (pc := 42) hX (nI 46) d_Nam_isSymbolByte_42 ci_bipush_46 ?_
    refine xg_icmp_eq (pc := 44) hX 65 d_Nam_isSymbolByte_44 (by decide) (fun h => absurd h (by decide)) (fun _ => ?_)
    refine xp_iload_0 (pc := 47) hX d_Nam_isSymbolByte_47 ?_
    refine xg_bipush (pc := 48) hX (nI 33) d_Nam_isSymbolByte_48 ci_bipush_33 ?_
    refine xg_icmp_eq (pc := 50) hX 65 d_Nam_isSymbolByte_50 (by decide) (fun h => absurd h (by decide)) (fun _ => ?_)
    refine xp_iload_0 (pc := 53) hX d_Nam_isSymbolByte_53 ?_
    refine xg_bipush (pc := 54) hX (nI 63) d_Nam_isSymbolByte_54 ci_bipush_63 ?_
    refine xg_icmp_eq (pc := 56) hX 65 d_Nam_isSymbolByte_56 (by decide) (fun h => absurd h (by decide)) (fun _ => ?_)
    refine xp_iload_0 (pc := 59) hX d_Nam_isSymbolByte_59 ?_
    refine xg_bipush (pc := 60) hX (nI 95) d_Nam_isSymbolByte_60 ci_bipush_95 ?_
    refine xg_icmp_ne (pc := 62) hX 69 d_Nam_isSymbolByte_62 (by decide) (fun _ => k69 _ rfl) (fun h => absurd h (by decide))
  | some b =>
    have hb := by_lt b
    have k30 : ∀ v : Bool, ((65 ≤ b.toNat ∧ b.toNat ≤ 90) ∨ (97 ≤ b.toNat ∧ b.toNat ≤ 122) ↔ v = true) → xG K 29 [some (.int (oI (some b))), none] [.int (bI v)] M sz 0 0 := by
      intro v hv
      refine xp_istore_1 (pc := 29) hX d_Nam_isSymbolByte_29 (by decide) ?_
      refine xp_iload_1 (pc := 30) hX d_Nam_isSymbolByte_30 ?_
      refine xg_if_ne (pc := 31) hX 65 d_Nam_isSymbolByte_31 (by decide) (fun h => ?_) (fun h => ?_)
      · have h1 := hv.mpr (bI_ne0.mp h)
        exact k65 _ (by simp [osym, sym, dig]; omega)
      · have h1 : ¬ ((65 ≤ b.toNat ∧ b.toNat ≤ 90) ∨ (97 ≤ b.toNat ∧ b.toNat ≤ 122)) := fun q => by
          have := hv.mp q
          rw [this] at h
          exact absurd h (by decide)
        refine xp_iload_0 (pc := 34) hX d_Nam_isSymbolByte_34 ?_
        refine xi_S (Y2 := Y_Nam_isDigit) (pc := 35) hX [_] m_Nam_isDigit d_Nam_isSymbolByte_35 l_Nam_210 rfl rfl (by simp) (c_Nam_isDigit d (some b)) (by omega) (by omega) ?_
        rintro x M' ⟨rfl, rfl⟩
        refine xg_if_ne (pc := 38) hX 65 d_Nam_isSymbolByte_38 (by decide) (fun h => ?_) (fun h => ?_)
        · have h2 : dig b = true := bI_ne0.mp h
          exact k65 _ (by simp [osym, sym, h2])
        · have h2 : dig b = false := bI_eq0.mp h
          refine xp_iload_0 (pc := 41) hX d_Nam_isSymbolByte_41 ?_
          refine xg_bipush (pc := 42) hX (nI 46) d_Nam_isSymbolByte_42 ci_bipush_46 ?_
          first | refine xn_icmp_eq (pc := 44) hX 65 d_Nam_isSymbolByte_44 (by decide) (by omega) (by omega) (fun h44 => ?_) (fun h44 => ?_) | refine xg_icmp_eq (pc := 44) hX 65 d_Nam_isSymbolByte_44 (by decide) (fun h44 => ?_) (fun h44 => ?_)
          · exact k65 _ (by simp [osym, sym, h44])
          · refine xp_iload_0 (pc := 47) hX d_Nam_isSymbolByte_47 ?_
            refine xg_bipush (pc := 48) hX (nI 33) d_Nam_isSymbolByte_48 ci_bipush_33 ?_
            first | refine xn_icmp_eq (pc := 50) hX 65 d_Nam_isSymbolByte_50 (by decide) (by omega) (by omega) (fun h50 => ?_) (fun h50 => ?_) | refine xg_icmp_eq (pc := 50) hX 65 d_Nam_isSymbolByte_50 (by decide) (fun h50 => ?_) (fun h50 => ?_)
            · exact k65 _ (by simp [osym, sym, h50])
            · refine xp_iload_0 (pc := 53) hX d_Nam_isSymbolByte_53 ?_
              refine xg_bipush (pc := 54) hX (nI 63) d_Nam_isSymbolByte_54 ci_bipush_63 ?_
              first | refine xn_icmp_eq (pc := 56) hX 65 d_Nam_isSymbolByte_56 (by decide) (by omega) (by omega) (fun h56 => ?_) (fun h56 => ?_) | refine xg_icmp_eq (pc := 56) hX 65 d_Nam_isSymbolByte_56 (by decide) (fun h56 => ?_) (fun h56 => ?_)
              · exact k65 _ (by simp [osym, sym, h56])
              · refine xp_iload_0 (pc := 59) hX d_Nam_isSymbolByte_59 ?_
                refine xg_bipush (pc := 60) hX (nI 95) d_Nam_isSymbolByte_60 ci_bipush_95 ?_
                first | refine xn_icmp_ne (pc := 62) hX 69 d_Nam_isSymbolByte_62 (by decide) (by omega) (by omega) (fun h62 => ?_) (fun h62 => ?_) | refine xg_icmp_ne (pc := 62) hX 69 d_Nam_isSymbolByte_62 (by decide) (fun h62 => ?_) (fun h62 => ?_)
                · exact k69 _ (by simp [osym, sym, h2]; omega)
                · exact k65 _ (by simp [osym, sym, h62])
    have k28 : ¬ ((65 ≤ b.toNat ∧ b.toNat ≤ 90) ∨ (97 ≤ b.toNat ∧ b.toNat ≤ 122)) → xG K 28 [some (.int (oI (some b))), none] [] M sz 0 0 := by
      intro h
      refine xg_iconst (pc := 28) hX (nI 0) d_Nam_isSymbolByte_28 ci_iconst_0 ?_
      exact k30 false (by simp; omega)
    have k24 : ((65 ≤ b.toNat ∧ b.toNat ≤ 90) ∨ (97 ≤ b.toNat ∧ b.toNat ≤ 122)) → xG K 24 [some (.int (oI (some b))), none] [] M sz 0 0 := by
      intro h
      refine xg_iconst (pc := 24) hX (nI 1) d_Nam_isSymbolByte_24 ci_iconst_1 ?_
      refine xg_goto (pc := 25) hX 29 d_Nam_isSymbolByte_25 (by decide) ?_
      exact k30 true (by simp; omega)
    have k12 : ¬ (65 ≤ b.toNat ∧ b.toNat ≤ 90) → xG K 12 [some (.int (oI (some b))), none] [] M sz 0 0 := by
      intro h
      refine xp_iload_0 (pc := 12) hX d_Nam_isSymbolByte_12 ?_
      refine xg_bipush (pc := 13) hX (nI 97) d_Nam_isSymbolByte_13 ci_bipush_97 ?_
      first | refine xn_icmp_lt (pc := 15) hX 28 d_Nam_isSymbolByte_15 (by decide) (by omega) (by omega) (fun h15 => ?_) (fun h15 => ?_) | refine xg_icmp_lt (pc := 15) hX 28 d_Nam_isSymbolByte_15 (by decide) (fun h15 => ?_) (fun h15 => ?_)
      · exact k28 (by omega)
      · refine xp_iload_0 (pc := 18) hX d_Nam_isSymbolByte_18 ?_
        refine xg_bipush (pc := 19) hX (nI 122) d_Nam_isSymbolByte_19 ci_bipush_122 ?_
        first | refine xn_icmp_gt (pc := 21) hX 28 d_Nam_isSymbolByte_21 (by decide) (by omega) (by omega) (fun h21 => ?_) (fun h21 => ?_) | refine xg_icmp_gt (pc := 21) hX 28 d_Nam_isSymbolByte_21 (by decide) (fun h21 => ?_) (fun h21 => ?_)
        · exact k28 (by omega)
        · exact k24 (by omega)
    refine xp_iload_0 (pc := 0) hX d_Nam_isSymbolByte_0 ?_
    refine xg_bipush (pc := 1) hX (nI 65) d_Nam_isSymbolByte_1 ci_bipush_65 ?_
    first | refine xn_icmp_lt (pc := 3) hX 12 d_Nam_isSymbolByte_3 (by decide) (by omega) (by omega) (fun h3 => ?_) (fun h3 => ?_) | refine xg_icmp_lt (pc := 3) hX 12 d_Nam_isSymbolByte_3 (by decide) (fun h3 => ?_) (fun h3 => ?_)
    · exact k12 (by omega)
    · refine xp_iload_0 (pc := 6) hX d_Nam_isSymbolByte_6 ?_
      refine xg_bipush (pc := 7) hX (nI 90) d_Nam_isSymbolByte_7 ci_bipush_90 ?_
      first | refine xn_icmp_le (pc := 9) hX 24 d_Nam_isSymbolByte_9 (by decide) (by omega) (by omega) (fun h9 => ?_) (fun h9 => ?_) | refine xg_icmp_le (pc := 9) hX 24 d_Nam_isSymbolByte_9 (by decide) (fun h9 => ?_) (fun h9 => ?_)
      · exact k24 (by omega)
      · exact k12 (by omega)
end
section
/-! NameRoom$Row -/
def Fr2 (M M' : xH) (r : Nat) : Prop := ∀ q, q ≠ r → q ≠ r + 1 → M' q = M q
theorem Fr2.rf (M : xH) (r : Nat) : Fr2 M M r := fun _ _ _ => rfl
theorem Fr2.tr {M M' M'' : xH} {r : Nat} (h : Fr2 M M' r) (h' : Fr2 M' M'' r) : Fr2 M M'' r := fun q a b => (h' q a b).trans (h q a b)
set_option maxHeartbeats 4000000 in
set_option maxRecDepth 100000 in
theorem c_Row_at (d : Nat) {M : xH} {sz r w : Nat} {bs : List UInt8} (x : Int32) (hr : RowAt M r w bs) (hw : w < 2147483648) : xC d 0 0 Y_Row_at [.ref r, .int x] M sz (qi sz (fun y M' => y = oI (rAt bs x) ∧ M' = M)) := by
  refine xC_of (by decide) (Nat.le_of_ble_eq_true rfl) (by simp [Value.category]) (vs := [some (.ref r), some (.int x)]) rfl (fun K hX hE => ?_)
  obtain ⟨h1, h2, f, h3, h4⟩ := hr
  have k34 : ∀ vs, rAt bs x = none → xG K 34 vs [] M sz 0 0 := by
    intro vs hv
    refine xg_iconst (pc := 34) hX (-1) d_Row_at_34 ci_iconst_m1 ?_
    refine xg_iret (pc := 35) hX hE d_Row_at_35 rfl rfl (by omega) (by omega) ?_
    exact ⟨rfl, _, rfl, by rw [hv]; rfl, rfl⟩
  by_cases hx : x < 0
  · refine xp_iload_1 (pc := 0) hX d_Row_at_0 ?_
    refine xg_if_lt (pc := 1) hX 34 d_Row_at_1 (by decide) (fun _ => k34 _ (by unfold rAt; rw [if_pos hx])) (fun h => absurd hx h)
  · obtain ⟨i, hi, rfl⟩ := nI_of hx
    have hi : i < 2147483648 := hi
    rw [rAt_nI hi] at *
    refine xp_iload_1 (pc := 0) hX d_Row_at_0 ?_
    refine xn_if_lt (pc := 1) hX 34 d_Row_at_1 (by decide) hi ?_
    refine xp_iload_1 (pc := 4) hX d_Row_at_4 ?_
    refine xp_aload_0 (pc := 5) hX d_Row_at_5 ?_
    refine xg_get (pc := 6) hX (j := 1) k_Row d_Row_at_6 l_Row_21 (by decide) (by first | assumption | exact xup_s _ _ _ | exact xup_o (by omega) (by assumption) | exact xup_o (by omega) (xup_s _ _ _) | exact xup_o (by omega) (xup_o (by omega) (by assumption)) | exact xup_o (by omega) (xup_o (by omega) (xup_s _ _ _)) | exact xup_o (by omega) (xup_o (by omega) (xup_o (by omega) (by assumption)))) (by rfl) ?_
    first | refine xn_icmp_ge (pc := 9) hX 34 d_Row_at_9 (by decide) (by omega) (by omega) (fun h9 => ?_) (fun h9 => ?_) | refine xg_icmp_ge (pc := 9) hX 34 d_Row_at_9 (by decide) (fun h9 => ?_) (fun h9 => ?_)
    · exact k34 _ (List.getElem?_eq_none h9)
    · refine xp_iload_1 (pc := 12) hX d_Row_at_12 ?_
      refine xp_aload_0 (pc := 13) hX d_Row_at_13 ?_
      refine xg_get (pc := 14) hX (j := 0) k_Row d_Row_at_14 l_Row_15 (by decide) (by first | assumption | exact xup_s _ _ _ | exact xup_o (by omega) (by assumption) | exact xup_o (by omega) (xup_s _ _ _) | exact xup_o (by omega) (xup_o (by omega) (by assumption)) | exact xup_o (by omega) (xup_o (by omega) (xup_s _ _ _)) | exact xup_o (by omega) (xup_o (by omega) (xup_o (by omega) (by assumption)))) (by rfl) ?_
      refine xn_alen (pc := 17) hX (t := 0) d_Row_at_17 rfl (by first | assumption | exact xup_s _ _ _ | exact xup_o (by omega) (by assumption) | exact xup_o (by omega) (xup_s _ _ _) | exact xup_o (by omega) (xup_o (by omega) (by assumption)) | exact xup_o (by omega) (xup_o (by omega) (xup_s _ _ _)) | exact xup_o (by omega) (xup_o (by omega) (xup_o (by omega) (by assumption)))) ?_
      refine xn_icmp_ge (pc := 18) hX 34 d_Row_at_18 (by decide) hi (by show w < _; omega) (fun h => absurd h (by show ¬ w ≤ i; omega)) (fun _ => ?_)
      refine xp_aload_0 (pc := 21) hX d_Row_at_21 ?_
      refine xg_get (pc := 22) hX (j := 0) k_Row d_Row_at_22 l_Row_15 (by decide) (by first | assumption | exact xup_s _ _ _ | exact xup_o (by omega) (by assumption) | exact xup_o (by omega) (xup_s _ _ _) | exact xup_o (by omega) (xup_o (by omega) (by assumption)) | exact xup_o (by omega) (xup_o (by omega) (xup_s _ _ _)) | exact xup_o (by omega) (xup_o (by omega) (xup_o (by omega) (by assumption)))) (by rfl) ?_
      refine xp_iload_1 (pc := 25) hX d_Row_at_25 ?_
      refine xn_bald (pc := 26) hX d_Row_at_26 rfl (by first | assumption | exact xup_s _ _ _ | exact xup_o (by omega) (by assumption) | exact xup_o (by omega) (xup_s _ _ _) | exact xup_o (by omega) (xup_o (by omega) (by assumption)) | exact xup_o (by omega) (xup_o (by omega) (xup_s _ _ _)) | exact xup_o (by omega) (xup_o (by omega) (xup_o (by omega) (by assumption)))) (by omega) (by omega) ?_
      refine xg_sipush (pc := 27) hX (nI 255) d_Row_at_27 ci_sipush_255 ?_
      refine xg_iand (pc := 30) hX d_Row_at_30 ?_
      refine xg_goto (pc := 31) hX 35 d_Row_at_31 (by decide) ?_
      refine xg_iret (pc := 35) hX hE d_Row_at_35 rfl rfl (by omega) (by omega) ?_
      have hb : bs[i]? = some bs[i] := List.getElem?_eq_getElem h9
      exact ⟨rfl, _, rfl, by rw [h4 i _ hb, hb]; exact sb_and _, rfl⟩
set_option maxHeartbeats 4000000 in
set_option maxRecDepth 100000 in
theorem c_Row_clear (d : Nat) {M : xH} {sz r w : Nat} {bs : List UInt8} (hr : RowAt M r w bs) : xC d 0 0 Y_Row_clear [.ref r] M sz (qv sz (fun M' => RowAt M' r w [] ∧ Fr2 M M' r)) := by
  refine xC_of (by decide) (Nat.le_of_ble_eq_true rfl) (by simp [Value.category]) (vs := [some (.ref r)]) rfl (fun K hX hE => ?_)
  obtain ⟨h1, h2, f, h3, h4⟩ := hr
  refine xp_aload_0 (pc := 0) hX d_Row_clear_0 ?_
  refine xg_iconst (pc := 1) hX (nI 0) d_Row_clear_1 ci_iconst_0 ?_
  refine xg_put (pc := 2) hX (j := 1) k_Row d_Row_clear_2 l_Row_21 (by decide) rfl (by first | assumption | exact xup_s _ _ _ | exact xup_o (by omega) (by assumption) | exact xup_o (by omega) (xup_s _ _ _) | exact xup_o (by omega) (xup_o (by omega) (by assumption)) | exact xup_o (by omega) (xup_o (by omega) (xup_s _ _ _)) | exact xup_o (by omega) (xup_o (by omega) (xup_o (by omega) (by assumption)))) (Nat.le_of_ble_eq_true rfl) rfl rfl (by simp only [List.set_cons_zero, List.set_cons_succ]; exact rfl) ?_
  refine xg_vret (pc := 5) hX hE d_Row_clear_5 rfl (by omega) (by omega) ?_
  refine ⟨rfl, rfl, ⟨xup_s _ _ _, Nat.zero_le _, f, xup_o (by omega) h3, fun j b h => by simp at h⟩, fun q hq _ => xup_n _ _ hq⟩
set_option maxHeartbeats 4000000 in
set_option maxRecDepth 100000 in
theorem c_Row_add (d : Nat) {M : xH} {sz r w : Nat} {bs : List UInt8} (x : Int32) (b : UInt8) (hx : x.toInt8.toInt32 = sb_b b.toNat) (hr : RowAt M r w bs) (hw : w < 2147483647) : xC d 0 0 Y_Row_add [.ref r, .int x] M sz (qi sz (fun y M' => (bs.length < w ∧ y = nI 1 ∧ RowAt M' r w (bs ++ [b]) ∧ Fr2 M M' r) ∨ (w ≤ bs.length ∧ y = nI 0 ∧ M' = M))) := by
  refine xC_of (by decide) (Nat.le_of_ble_eq_true rfl) (by simp [Value.category]) (vs := [some (.ref r), some (.int x)]) rfl (fun K hX hE => ?_)
  obtain ⟨h1, h2, f, h3, h4⟩ := hr
  refine xp_aload_0 (pc := 0) hX d_Row_add_0 ?_
  refine xg_get (pc := 1) hX (j := 1) k_Row d_Row_add_1 l_Row_21 (by decide) (by first | assumption | exact xup_s _ _ _ | exact xup_o (by omega) (by assumption) | exact xup_o (by omega) (xup_s _ _ _) | exact xup_o (by omega) (xup_o (by omega) (by assumption)) | exact xup_o (by omega) (xup_o (by omega) (xup_s _ _ _)) | exact xup_o (by omega) (xup_o (by omega) (xup_o (by omega) (by assumption)))) (by rfl) ?_
  refine xn_if_lt (pc := 4) hX 19 d_Row_add_4 (by decide) (by omega) ?_
  refine xp_aload_0 (pc := 7) hX d_Row_add_7 ?_
  refine xg_get (pc := 8) hX (j := 1) k_Row d_Row_add_8 l_Row_21 (by decide) (by first | assumption | exact xup_s _ _ _ | exact xup_o (by omega) (by assumption) | exact xup_o (by omega) (xup_s _ _ _) | exact xup_o (by omega) (xup_o (by omega) (by assumption)) | exact xup_o (by omega) (xup_o (by omega) (xup_s _ _ _)) | exact xup_o (by omega) (xup_o (by omega) (xup_o (by omega) (by assumption)))) (by rfl) ?_
  refine xp_aload_0 (pc := 11) hX d_Row_add_11 ?_
  refine xg_get (pc := 12) hX (j := 0) k_Row d_Row_add_12 l_Row_15 (by decide) (by first | assumption | exact xup_s _ _ _ | exact xup_o (by omega) (by assumption) | exact xup_o (by omega) (xup_s _ _ _) | exact xup_o (by omega) (xup_o (by omega) (by assumption)) | exact xup_o (by omega) (xup_o (by omega) (xup_s _ _ _)) | exact xup_o (by omega) (xup_o (by omega) (xup_o (by omega) (by assumption)))) (by rfl) ?_
  refine xn_alen (pc := 15) hX (t := 0) d_Row_add_15 rfl (by first | assumption | exact xup_s _ _ _ | exact xup_o (by omega) (by assumption) | exact xup_o (by omega) (xup_s _ _ _) | exact xup_o (by omega) (xup_o (by omega) (by assumption)) | exact xup_o (by omega) (xup_o (by omega) (xup_s _ _ _)) | exact xup_o (by omega) (xup_o (by omega) (xup_o (by omega) (by assumption)))) ?_
  refine xn_icmp_lt (pc := 16) hX 21 d_Row_add_16 (by decide) (by omega) (by show w < _; omega) (fun h => ?_) (fun h => ?_)
  · have h : bs.length < w := h
    refine xp_aload_0 (pc := 21) hX d_Row_add_21 ?_
    refine xg_get (pc := 22) hX (j := 0) k_Row d_Row_add_22 l_Row_15 (by decide) (by first | assumption | exact xup_s _ _ _ | exact xup_o (by omega) (by assumption) | exact xup_o (by omega) (xup_s _ _ _) | exact xup_o (by omega) (xup_o (by omega) (by assumption)) | exact xup_o (by omega) (xup_o (by omega) (xup_s _ _ _)) | exact xup_o (by omega) (xup_o (by omega) (xup_o (by omega) (by assumption)))) (by rfl) ?_
    refine xp_aload_0 (pc := 25) hX d_Row_add_25 ?_
    refine xg_get (pc := 26) hX (j := 1) k_Row d_Row_add_26 l_Row_21 (by decide) (by first | assumption | exact xup_s _ _ _ | exact xup_o (by omega) (by assumption) | exact xup_o (by omega) (xup_s _ _ _) | exact xup_o (by omega) (xup_o (by omega) (by assumption)) | exact xup_o (by omega) (xup_o (by omega) (xup_s _ _ _)) | exact xup_o (by omega) (xup_o (by omega) (xup_o (by omega) (by assumption)))) (by rfl) ?_
    refine xp_iload_1 (pc := 29) hX d_Row_add_29 ?_
    refine xg_i2b (pc := 30) hX d_Row_add_30 ?_
    refine xn_bast (pc := 31) hX d_Row_add_31 rfl (by first | assumption | exact xup_s _ _ _ | exact xup_o (by omega) (by assumption) | exact xup_o (by omega) (xup_s _ _ _) | exact xup_o (by omega) (xup_o (by omega) (by assumption)) | exact xup_o (by omega) (xup_o (by omega) (xup_s _ _ _)) | exact xup_o (by omega) (xup_o (by omega) (xup_o (by omega) (by assumption)))) (by omega) (by omega) ?_
    refine xp_aload_0 (pc := 32) hX d_Row_add_32 ?_
    refine xg_dup (pc := 33) hX d_Row_add_33 rfl ?_
    refine xg_get (pc := 34) hX (j := 1) k_Row d_Row_add_34 l_Row_21 (by decide) (by first | assumption | exact xup_s _ _ _ | exact xup_o (by omega) (by assumption) | exact xup_o (by omega) (xup_s _ _ _) | exact xup_o (by omega) (xup_o (by omega) (by assumption)) | exact xup_o (by omega) (xup_o (by omega) (xup_s _ _ _)) | exact xup_o (by omega) (xup_o (by omega) (xup_o (by omega) (by assumption)))) (by rfl) ?_
    refine xg_iconst (pc := 37) hX (nI 1) d_Row_add_37 ci_iconst_1 ?_
    first | refine xn_iadd (pc := 38) hX d_Row_add_38 ?_ | refine xg_iadd (pc := 38) hX d_Row_add_38 ?_
    refine xg_put (pc := 39) hX (j := 1) k_Row d_Row_add_39 l_Row_21 (by decide) rfl (by first | assumption | exact xup_s _ _ _ | exact xup_o (by omega) (by assumption) | exact xup_o (by omega) (xup_s _ _ _) | exact xup_o (by omega) (xup_o (by omega) (by assumption)) | exact xup_o (by omega) (xup_o (by omega) (xup_s _ _ _)) | exact xup_o (by omega) (xup_o (by omega) (xup_o (by omega) (by assumption)))) (Nat.le_of_ble_eq_true rfl) rfl rfl (by simp only [List.set_cons_zero, List.set_cons_succ]; exact rfl) ?_
    refine xg_iconst (pc := 42) hX (nI 1) d_Row_add_42 ci_iconst_1 ?_
    refine xg_iret (pc := 43) hX hE d_Row_add_43 rfl rfl (by omega) (by omega) ?_
    refine ⟨rfl, _, rfl, Or.inl ⟨h, rfl, ⟨?_, ?_, upd f bs.length (vp_nar .byte x.toInt8.toInt32), ?_, ?_⟩, ?_⟩⟩
    · rw [xup_s]; simp
    · simp; omega
    · exact xup_o (by omega) (xup_s _ _ _)
    · intro j c hj
      by_cases hl : j < bs.length
      · rw [List.getElem?_append_left hl] at hj
        rw [pk_un (by omega)]
        exact h4 j c hj
      · rw [List.getElem?_append_right (by omega)] at hj
        have : j = bs.length := by
          have := (List.getElem?_eq_some_iff.mp hj).1
          simp at this
          omega
        subst this
        simp at hj
        subst hj
        rw [pk_us, pk_vb, hx]
    · intro q hq hq1
      rw [xup_n _ _ hq, xup_n _ _ hq1]
  · have h : w ≤ bs.length := h
    refine xg_iconst (pc := 19) hX (nI 0) d_Row_add_19 ci_iconst_0 ?_
    refine xg_iret (pc := 20) hX hE d_Row_add_20 rfl rfl (by omega) (by omega) ?_
    exact ⟨rfl, _, rfl, Or.inr ⟨h, rfl, rfl⟩⟩
end
section
/-! NameRoom$Row, second part -/
theorem low8 (y : Int32) : y.toInt8.toInt32 = sb_b (y.toBitVec.toNat % 256) := by
  unfold sb_b
  congr 1
  apply Int8.toBitVec_inj.mp
  apply BitVec.eq_of_toNat_eq
  simp [nI]
  rw [BitVec.signExtend_eq_setWidth_of_le _ (by omega)]
  simp
def wb (x : Int32) (k : Nat) : UInt8 := UInt8.ofNat (x.toBitVec.toNat / 2 ^ k)
theorem wb_toNat (x : Int32) (k : Nat) : (wb x k).toNat = x.toBitVec.toNat / 2 ^ k % 256 := by
  simp [wb, UInt8.toNat_ofNat]
def w4 (x : Int32) : List UInt8 := [wb x 24, wb x 16, wb x 8, wb x 0]
theorem ush8 (x : Int32) (k : Nat) (hk : k < 32) : ((x.toUInt32 >>> ((nI k).toUInt32 &&& Int32.toUInt32 31)).toInt32).toInt8.toInt32 = sb_b (wb x k).toNat := by
  have h : (((nI k).toUInt32 &&& Int32.toUInt32 31).toBitVec % 32).toNat = k := by
    have : ∀ k, k < 32 → (((nI k).toUInt32 &&& Int32.toUInt32 31).toBitVec % 32).toNat = k := by decide +kernel
    exact this k hk
  rw [low8, pk_ushr x (nI k) k h, wb_toNat]
theorem sb_inj {a b : UInt8} : sb_b a.toNat = sb_b b.toNat ↔ a = b := by
  constructor
  · intro h
    have h1 := sb_and a
    rw [h, sb_and b] at h1
    exact UInt8.toNat_inj.mp ((nI_eq (by_lt31 b) (by_lt31 a)).mp h1).symm
  · intro h; rw [h]
theorem dm_24 : nI 24 + -8 = nI 16 := by decide
theorem dm_16 : nI 16 + -8 = nI 8 := by decide
theorem dm_8 : nI 8 + -8 = nI 0 := by decide
theorem dm_0 : nI 0 + -8 < 0 := by decide
set_option maxHeartbeats 4000000 in
set_option maxRecDepth 100000 in
theorem c_Row_addInt (d : Nat) {M : xH} {sz r w : Nat} {bs : List UInt8} (x : Int32) (hr : RowAt M r w bs) (hl : bs.length + 4 ≤ w) (hw : w < 2147483647) : xC (d + 1) 0 0 Y_Row_addInt [.ref r, .int x] M sz (qv sz (fun M' => RowAt M' r w (bs ++ w4 x) ∧ Fr2 M M' r)) := by
  refine xC_of (by decide) (Nat.le_of_ble_eq_true rfl) (by simp [Value.category]) (vs := [some (.ref r), some (.int x), none]) rfl (fun K hX hE => ?_)
  have step : ∀ (M1 : xH) (cs : List UInt8) (k : Nat), k < 32 → cs.length < w → RowAt M1 r w cs → Fr2 M M1 r → (∀ M2, RowAt M2 r w (cs ++ [wb x k]) → Fr2 M M2 r → xG K 18 [some (.ref r), some (.int x), some (.int (nI k + -8))] [] M2 sz 0 0) → xG K 3 [some (.ref r), some (.int x), some (.int (nI k))] [] M1 sz 0 0 := by
    intro M1 cs k hk hc h1 hf kk
    obtain ⟨hr0, hr1⟩ := id h1
    refine xp_iload_2 (pc := 3) hX d_Row_addInt_3 ?_
    refine xn_if_lt (pc := 4) hX 21 d_Row_addInt_4 (by decide) (by omega) ?_
    refine xp_aload_0 (pc := 7) hX d_Row_addInt_7 ?_
    refine xp_iload_1 (pc := 8) hX d_Row_addInt_8 ?_
    refine xp_iload_2 (pc := 9) hX d_Row_addInt_9 ?_
    refine xg_iushr (pc := 10) hX d_Row_addInt_10 ?_
    refine xi_V (Y2 := Y_Row_add) (pc := 11) hX [_] k_Row m_Row_add d_Row_addInt_11 l_Row_25 rfl rfl (by simp [Value.category]) (by first | assumption | exact xup_s _ _ _ | exact xup_o (by omega) (by assumption) | exact xup_o (by omega) (xup_s _ _ _) | exact xup_o (by omega) (xup_o (by omega) (by assumption)) | exact xup_o (by omega) (xup_o (by omega) (xup_s _ _ _)) | exact xup_o (by omega) (xup_o (by omega) (xup_o (by omega) (by assumption)))) (c_Row_add d _ (wb x k) (ush8 x k hk) h1 hw) (by omega) (by omega) ?_
    intro y M2 h
    refine xg_pop (pc := 14) hX d_Row_addInt_14 rfl ?_
    refine xg_iinc (pc := 15) hX d_Row_addInt_15 (by decide) rfl ci_iconst_m8 (by rfl) ?_
    rcases h with ⟨-, -, h2, h3⟩ | ⟨h, -, -⟩
    · exact kk M2 h2 (hf.tr h3)
    · exact absurd h (by omega)
  refine xg_bipush (pc := 0) hX (nI 24) d_Row_addInt_0 ci_bipush_24 ?_
  refine xp_istore_2 (pc := 2) hX d_Row_addInt_2 (by decide) ?_
  refine step M bs 24 (by omega) (by omega) hr (Fr2.rf M r) (fun M1 h1 f1 => ?_)
  refine xg_goto (pc := 18) hX 3 d_Row_addInt_18 (by decide) ?_
  rw [dm_24]
  refine step M1 _ 16 (by omega) (by simp; omega) h1 f1 (fun M2 h2 f2 => ?_)
  refine xg_goto (pc := 18) hX 3 d_Row_addInt_18 (by decide) ?_
  rw [dm_16]
  refine step M2 _ 8 (by omega) (by simp; omega) h2 f2 (fun M3 h3 f3 => ?_)
  refine xg_goto (pc := 18) hX 3 d_Row_addInt_18 (by decide) ?_
  rw [dm_8]
  refine step M3 _ 0 (by omega) (by simp; omega) h3 f3 (fun M4 h4 f4 => ?_)
  refine xg_goto (pc := 18) hX 3 d_Row_addInt_18 (by decide) ?_
  refine xp_iload_2 (pc := 3) hX d_Row_addInt_3 ?_
  refine xg_if_lt (pc := 4) hX 21 d_Row_addInt_4 (by decide) (fun _ => ?_) (fun h => absurd dm_0 h)
  refine xg_vret (pc := 21) hX hE d_Row_addInt_21 rfl (by omega) (by omega) ?_
  refine ⟨rfl, rfl, ?_, f4⟩
  have e : bs ++ w4 x = bs ++ [wb x 24] ++ [wb x 16] ++ [wb x 8] ++ [wb x 0] := by simp [w4]
  rw [e]
  exact h4
/-- the bytes from a up to b -/
def sl (bs : List UInt8) (a b : Nat) : List UInt8 := (bs.drop a).take (b - a)
theorem sl_len {bs : List UInt8} {a b : Nat} (h : b ≤ bs.length) : (sl bs a b).length = b - a := by
  simp [sl]; omega
theorem sl_at {bs : List UInt8} {a b j : Nat} (h : j < b - a) : (sl bs a b)[j]? = bs[a + j]? := by
  unfold sl
  rw [List.getElem?_take_of_lt h, List.getElem?_drop]
theorem sl_succ {bs : List UInt8} {a i : Nat} (ha : a ≤ i) (h : i < bs.length) : sl bs a (i + 1) = sl bs a i ++ [bs[i]] := by
  unfold sl
  rw [show i + 1 - a = (i - a) + 1 by omega, List.take_succ, List.getElem?_drop, show a + (i - a) = i by omega, List.getElem?_eq_getElem h]
  rfl
theorem sl_same {bs : List UInt8} {a : Nat} : sl bs a a = [] := by simp [sl]
theorem sl_all {bs : List UInt8} : sl bs 0 bs.length = bs := by simp [sl]
theorem fits_sb (b : UInt8) : fits .byte (.int (sb_b b.toNat)) = true := sb_fitB b.toNat
set_option maxHeartbeats 4000000 in
set_option maxRecDepth 100000 in
theorem c_Row_addPart (d : Nat) {M : xH} {sz r w s ws : Nat} {bs src : List UInt8} {a b : Nat} (hr : RowAt M r w bs) (hs : RowAt M s ws src) (hrs : r ≠ s) (hab : a ≤ b) (hb : b ≤ src.length) (hw : w < 2147483647) (hws : ws < 2147483647) : xC (d + 1) 0 0 Y_Row_addPart [.ref r, .ref s, .int (nI a), .int (nI b)] M sz (qi sz (fun y M' => (bs.length + (b - a) ≤ w ∧ y = nI 1 ∧ RowAt M' r w (bs ++ sl src a b) ∧ Fr2 M M' r) ∨ (w < bs.length + (b - a) ∧ y = nI 0 ∧ M' = M))) := by
  refine xC_of (by decide) (Nat.le_of_ble_eq_true rfl) (by simp [Value.category]) (vs := [some (.ref r), some (.ref s), some (.int (nI a)), some (.int (nI b)), none]) rfl (fun K hX hE => ?_)
  obtain ⟨h1, h2, f, h3, h4⟩ := hr
  obtain ⟨g1, g2, g, g3, g4⟩ := hs
  have hne : s + 1 ≠ r := fun q => by rw [q] at g3; rw [g3] at h1; cases h1
  have hne2 : r + 1 ≠ s := fun q => by rw [q] at h3; rw [h3] at g1; cases g1
  refine xp_iload_3 (pc := 0) hX d_Row_addPart_0 ?_
  refine xp_iload_2 (pc := 1) hX d_Row_addPart_1 ?_
  first | refine xn_isub (pc := 2) hX d_Row_addPart_2 (by omega) ?_ | refine xg_isub (pc := 2) hX d_Row_addPart_2 ?_
  refine xp_istore_4 (pc := 3) hX d_Row_addPart_3 (by decide) ?_
  refine xp_iload_2 (pc := 5) hX d_Row_addPart_5 ?_
  refine xn_if_lt (pc := 6) hX 23 d_Row_addPart_6 (by decide) (by omega) ?_
  refine xp_iload_4 (pc := 9) hX d_Row_addPart_9 ?_
  refine xn_if_lt (pc := 11) hX 23 d_Row_addPart_11 (by decide) (by omega) ?_
  refine xp_iload_3 (pc := 14) hX d_Row_addPart_14 ?_
  refine xp_aload_1 (pc := 15) hX d_Row_addPart_15 ?_
  refine xg_get (pc := 16) hX (j := 0) k_Row d_Row_addPart_16 l_Row_15 (by decide) (by first | assumption | exact xup_s _ _ _ | exact xup_o (by omega) (by assumption) | exact xup_o (by omega) (xup_s _ _ _) | exact xup_o (by omega) (xup_o (by omega) (by assumption)) | exact xup_o (by omega) (xup_o (by omega) (xup_s _ _ _)) | exact xup_o (by omega) (xup_o (by omega) (xup_o (by omega) (by assumption)))) (by rfl) ?_
  refine xn_alen (pc := 19) hX (t := 0) d_Row_addPart_19 rfl (by first | assumption | exact xup_s _ _ _ | exact xup_o (by omega) (by assumption) | exact xup_o (by omega) (xup_s _ _ _) | exact xup_o (by omega) (xup_o (by omega) (by assumption)) | exact xup_o (by omega) (xup_o (by omega) (xup_s _ _ _)) | exact xup_o (by omega) (xup_o (by omega) (xup_o (by omega) (by assumption)))) ?_
  refine xn_icmp_le (pc := 20) hX 25 d_Row_addPart_20 (by decide) (by omega) (by show ws < _; omega) (fun _ => ?_) (fun h => absurd h (by show ¬ ws < b; omega))
  refine xp_aload_0 (pc := 25) hX d_Row_addPart_25 ?_
  refine xg_get (pc := 26) hX (j := 1) k_Row d_Row_addPart_26 l_Row_21 (by decide) (by first | assumption | exact xup_s _ _ _ | exact xup_o (by omega) (by assumption) | exact xup_o (by omega) (xup_s _ _ _) | exact xup_o (by omega) (xup_o (by omega) (by assumption)) | exact xup_o (by omega) (xup_o (by omega) (xup_s _ _ _)) | exact xup_o (by omega) (xup_o (by omega) (xup_o (by omega) (by assumption)))) (by rfl) ?_
  refine xn_if_lt (pc := 29) hX 47 d_Row_addPart_29 (by decide) (by omega) ?_
  refine xp_iload_4 (pc := 32) hX d_Row_addPart_32 ?_
  refine xp_aload_0 (pc := 34) hX d_Row_addPart_34 ?_
  refine xg_get (pc := 35) hX (j := 0) k_Row d_Row_addPart_35 l_Row_15 (by decide) (by first | assumption | exact xup_s _ _ _ | exact xup_o (by omega) (by assumption) | exact xup_o (by omega) (xup_s _ _ _) | exact xup_o (by omega) (xup_o (by omega) (by assumption)) | exact xup_o (by omega) (xup_o (by omega) (xup_s _ _ _)) | exact xup_o (by omega) (xup_o (by omega) (xup_o (by omega) (by assumption)))) (by rfl) ?_
  refine xn_alen (pc := 38) hX (t := 0) d_Row_addPart_38 rfl (by first | assumption | exact xup_s _ _ _ | exact xup_o (by omega) (by assumption) | exact xup_o (by omega) (xup_s _ _ _) | exact xup_o (by omega) (xup_o (by omega) (by assumption)) | exact xup_o (by omega) (xup_o (by omega) (xup_s _ _ _)) | exact xup_o (by omega) (xup_o (by omega) (xup_o (by omega) (by assumption)))) ?_
  refine xp_aload_0 (pc := 39) hX d_Row_addPart_39 ?_
  refine xg_get (pc := 40) hX (j := 1) k_Row d_Row_addPart_40 l_Row_21 (by decide) (by first | assumption | exact xup_s _ _ _ | exact xup_o (by omega) (by assumption) | exact xup_o (by omega) (xup_s _ _ _) | exact xup_o (by omega) (xup_o (by omega) (by assumption)) | exact xup_o (by omega) (xup_o (by omega) (xup_s _ _ _)) | exact xup_o (by omega) (xup_o (by omega) (xup_o (by omega) (by assumption)))) (by rfl) ?_
  refine xn_isub (pc := 43) (a := w) hX d_Row_addPart_43 h2 ?_
  refine xn_icmp_le (pc := 44) hX 49 d_Row_addPart_44 (by decide) (by omega) (by omega) (fun h => ?_) (fun h => ?_)
  · refine xp_aload_1 (pc := 49) hX d_Row_addPart_49 ?_
    refine xg_get (pc := 50) hX (j := 0) k_Row d_Row_addPart_50 l_Row_15 (by decide) (by first | assumption | exact xup_s _ _ _ | exact xup_o (by omega) (by assumption) | exact xup_o (by omega) (xup_s _ _ _) | exact xup_o (by omega) (xup_o (by omega) (by assumption)) | exact xup_o (by omega) (xup_o (by omega) (xup_s _ _ _)) | exact xup_o (by omega) (xup_o (by omega) (xup_o (by omega) (by assumption)))) (by rfl) ?_
    refine xp_iload_2 (pc := 53) hX d_Row_addPart_53 ?_
    refine xp_aload_0 (pc := 54) hX d_Row_addPart_54 ?_
    refine xg_get (pc := 55) hX (j := 0) k_Row d_Row_addPart_55 l_Row_15 (by decide) (by first | assumption | exact xup_s _ _ _ | exact xup_o (by omega) (by assumption) | exact xup_o (by omega) (xup_s _ _ _) | exact xup_o (by omega) (xup_o (by omega) (by assumption)) | exact xup_o (by omega) (xup_o (by omega) (xup_s _ _ _)) | exact xup_o (by omega) (xup_o (by omega) (xup_o (by omega) (by assumption)))) (by rfl) ?_
    refine xp_aload_0 (pc := 58) hX d_Row_addPart_58 ?_
    refine xg_get (pc := 59) hX (j := 1) k_Row d_Row_addPart_59 l_Row_21 (by decide) (by first | assumption | exact xup_s _ _ _ | exact xup_o (by omega) (by assumption) | exact xup_o (by omega) (xup_s _ _ _) | exact xup_o (by omega) (xup_o (by omega) (by assumption)) | exact xup_o (by omega) (xup_o (by omega) (xup_s _ _ _)) | exact xup_o (by omega) (xup_o (by omega) (xup_o (by omega) (by assumption)))) (by rfl) ?_
    refine xp_iload_4 (pc := 62) hX d_Row_addPart_62 ?_
    refine xg_copy (pc := 64) (t := 0) (n0 := ws) (n1 := w) (f := g) (g := f) (ty := .byte) hX d_Row_addPart_64 l_Row_29 wj_copyN wj_copyS wj_copyI rfl rfl g3 h3 (nI_pos (by omega)) (nI_pos (by omega)) (nI_pos (by omega)) (by rw [nI_clamp (by omega), nI_clamp (by omega)]; omega) (by rw [nI_clamp (by omega), nI_clamp (by omega)]; omega) (fun i hi => ?_) (by show 1 ≤ d + 1; omega) (by show _ ≤ 40 * (d + 1); simp [nativeFrameWords]; omega) ?_
    · rw [nI_clamp (by omega)] at hi ⊢
      rw [g4 (a + i) _ (List.getElem?_eq_getElem (by omega))]
      exact fits_sb _
    · rw [nI_clamp (by omega), nI_clamp (by omega), nI_clamp (by omega)]
      refine xp_aload_0 (pc := 67) hX d_Row_addPart_67 ?_
      refine xg_dup (pc := 68) hX d_Row_addPart_68 rfl ?_
      refine xg_get (pc := 69) hX (j := 1) k_Row d_Row_addPart_69 l_Row_21 (by decide) (by first | assumption | exact xup_s _ _ _ | exact xup_o (by omega) (by assumption) | exact xup_o (by omega) (xup_s _ _ _) | exact xup_o (by omega) (xup_o (by omega) (by assumption)) | exact xup_o (by omega) (xup_o (by omega) (xup_s _ _ _)) | exact xup_o (by omega) (xup_o (by omega) (xup_o (by omega) (by assumption)))) (by rfl) ?_
      refine xp_iload_4 (pc := 72) hX d_Row_addPart_72 ?_
      first | refine xn_iadd (pc := 74) hX d_Row_addPart_74 ?_ | refine xg_iadd (pc := 74) hX d_Row_addPart_74 ?_
      refine xg_put (pc := 75) hX (j := 1) k_Row d_Row_addPart_75 l_Row_21 (by decide) rfl (by first | assumption | exact xup_s _ _ _ | exact xup_o (by omega) (by assumption) | exact xup_o (by omega) (xup_s _ _ _) | exact xup_o (by omega) (xup_o (by omega) (by assumption)) | exact xup_o (by omega) (xup_o (by omega) (xup_s _ _ _)) | exact xup_o (by omega) (xup_o (by omega) (xup_o (by omega) (by assumption)))) (Nat.le_of_ble_eq_true rfl) rfl rfl (by simp only [List.set_cons_zero, List.set_cons_succ]; exact rfl) ?_
      refine xg_iconst (pc := 78) hX (nI 1) d_Row_addPart_78 ci_iconst_1 ?_
      refine xg_iret (pc := 79) hX hE d_Row_addPart_79 rfl rfl (by omega) (by omega) ?_
      refine ⟨rfl, _, rfl, Or.inl ⟨by omega, rfl, ⟨?_, ?_, va_cpy g f a bs.length (b - a), ?_, ?_⟩, ?_⟩⟩
      · rw [xup_s, List.length_append, sl_len hb]
      · rw [List.length_append, sl_len hb]; omega
      · exact xup_o (by omega) (xup_s _ _ _)
      · intro j c hj
        by_cases hl : j < bs.length
        · rw [List.getElem?_append_left hl] at hj
          rw [pk_cpy_out (Or.inl hl)]
          exact h4 j c hj
        · rw [List.getElem?_append_right (by omega)] at hj
          have hlt := (List.getElem?_eq_some_iff.mp hj).1
          rw [sl_len hb] at hlt
          rw [pk_cpy_in (by omega) (by omega)]
          rw [sl_at hlt] at hj
          exact g4 _ c hj
      · intro q hq hq1
        rw [xup_n _ _ hq, xup_n _ _ hq1]
  · refine xg_iconst (pc := 47) hX (nI 0) d_Row_addPart_47 ci_iconst_0 ?_
    refine xg_iret (pc := 48) hX hE d_Row_addPart_48 rfl rfl (by omega) (by omega) ?_
    exact ⟨rfl, _, rfl, Or.inr ⟨by omega, rfl, rfl⟩⟩
end
section
/-! NameRoom$Row, third part -/
set_option maxHeartbeats 4000000 in
set_option maxRecDepth 100000 in
theorem c_Row_become (d : Nat) {M : xH} {sz r w s ws : Nat} {bs src : List UInt8} (hr : RowAt M r w bs) (hs : RowAt M s ws src) (hrs : r ≠ s) (hl : src.length ≤ w) (hw : w < 2147483647) (hws : ws < 2147483647) : xC (d + 2) 0 0 Y_Row_become [.ref r, .ref s] M sz (qv sz (fun M' => RowAt M' r w src ∧ Fr2 M M' r)) := by
  refine xC_of (by decide) (Nat.le_of_ble_eq_true rfl) (by simp [Value.category]) (vs := [some (.ref r), some (.ref s)]) rfl (fun K hX hE => ?_)
  obtain ⟨h1, h2, f, h3, h4⟩ := id hr
  obtain ⟨g1, g2, g, g3, g4⟩ := id hs
  have hne : s + 1 ≠ r := fun q => by rw [q] at g3; rw [g3] at h1; cases h1
  refine xp_aload_0 (pc := 0) hX d_Row_become_0 ?_
  refine xg_iconst (pc := 1) hX (nI 0) d_Row_become_1 ci_iconst_0 ?_
  refine xg_put (pc := 2) hX (j := 1) k_Row d_Row_become_2 l_Row_21 (by decide) rfl (by first | assumption | exact xup_s _ _ _ | exact xup_o (by omega) (by assumption) | exact xup_o (by omega) (xup_s _ _ _) | exact xup_o (by omega) (xup_o (by omega) (by assumption)) | exact xup_o (by omega) (xup_o (by omega) (xup_s _ _ _)) | exact xup_o (by omega) (xup_o (by omega) (xup_o (by omega) (by assumption)))) (Nat.le_of_ble_eq_true rfl) rfl rfl (by simp only [List.set_cons_zero, List.set_cons_succ]; exact rfl) ?_
  refine xp_aload_0 (pc := 5) hX d_Row_become_5 ?_
  refine xp_aload_1 (pc := 6) hX d_Row_become_6 ?_
  refine xg_iconst (pc := 7) hX (nI 0) d_Row_become_7 ci_iconst_0 ?_
  refine xp_aload_1 (pc := 8) hX d_Row_become_8 ?_
  refine xg_get (pc := 9) hX (j := 1) k_Row d_Row_become_9 l_Row_21 (by decide) (by first | assumption | exact xup_s _ _ _ | exact xup_o (by omega) (by assumption) | exact xup_o (by omega) (xup_s _ _ _) | exact xup_o (by omega) (xup_o (by omega) (by assumption)) | exact xup_o (by omega) (xup_o (by omega) (xup_s _ _ _)) | exact xup_o (by omega) (xup_o (by omega) (xup_o (by omega) (by assumption)))) (by rfl) ?_
  have hr' : RowAt (xup M r (.inr (0, [.ref (r + 1), .int (nI 0)]))) r w [] := ⟨xup_s _ _ _, Nat.zero_le _, f, xup_o (by omega) h3, fun j b h => by simp at h⟩
  have hs' : RowAt (xup M r (.inr (0, [.ref (r + 1), .int (nI 0)]))) s ws src := hs.kept (xup_n _ _ (by omega)) (xup_n _ _ (by omega))
  refine xi_V (Y2 := Y_Row_addPart) (pc := 12) hX [_, _, _] k_Row m_Row_addPart d_Row_become_12 l_Row_42 rfl rfl (by simp [Value.category]) (by first | assumption | exact xup_s _ _ _ | exact xup_o (by omega) (by assumption) | exact xup_o (by omega) (xup_s _ _ _) | exact xup_o (by omega) (xup_o (by omega) (by assumption)) | exact xup_o (by omega) (xup_o (by omega) (xup_s _ _ _)) | exact xup_o (by omega) (xup_o (by omega) (xup_o (by omega) (by assumption)))) (c_Row_addPart d (a := 0) (b := src.length) hr' hs' hrs (Nat.zero_le _) (Nat.le_refl _) hw hws) (by omega) (by omega) ?_
  intro y M2 h
  rcases h with ⟨-, -, h5, h6⟩ | ⟨h, -, -⟩
  · refine xg_pop (pc := 15) hX d_Row_become_15 rfl ?_
    refine xg_vret (pc := 16) hX hE d_Row_become_16 rfl (by omega) (by omega) ?_
    refine ⟨rfl, rfl, ?_, fun q a b => (h6 q a b).trans (xup_n _ _ a)⟩
    rw [sl_all] at h5
    exact h5
  · simp at h
    omega
set_option maxHeartbeats 4000000 in
set_option maxRecDepth 100000 in
theorem c_Row_addCapitals (d : Nat) {M : xH} {sz r w s ws : Nat} {bs src : List UInt8} {a b : Nat} (hr : RowAt M r w bs) (hs : RowAt M s ws src) (hrs : r ≠ s) (hab : a ≤ b) (hb : b ≤ src.length) (hl : bs.length + (b - a) ≤ w) (hw : w < 2147483647) (hws : ws < 2147483647) : xC (d + 1) 0 0 Y_Row_addCapitals [.ref r, .ref s, .int (nI a), .int (nI b)] M sz (qi sz (fun y M' => y = nI 1 ∧ RowAt M' r w (bs ++ (sl src a b).map cap) ∧ Fr2 M M' r)) := by
  refine xC_of (by decide) (Nat.le_of_ble_eq_true rfl) (by simp [Value.category]) (vs := [some (.ref r), some (.ref s), some (.int (nI a)), some (.int (nI b)), none, none]) rfl (fun K hX hE => ?_)
  have hne : s + 1 ≠ r := fun q => by
    obtain ⟨h1, -⟩ := hr
    obtain ⟨-, -, g, g3, -⟩ := hs
    rw [q] at g3; rw [g3] at h1; cases h1
  have hne2 : r + 1 ≠ s := fun q => by
    obtain ⟨-, -, f, h3, -⟩ := hr
    obtain ⟨g1, -⟩ := hs
    rw [q] at h3; rw [h3] at g1; cases g1
  have hsl : src.length ≤ ws := hs.2.1
  have loop : ∀ (n i : Nat) (M1 : xH), i + n = b → a ≤ i → RowAt M1 r w (bs ++ (sl src a i).map cap) → Fr2 M M1 r → xG K 6 [some (.ref r), some (.ref s), some (.int (nI a)), some (.int (nI b)), some (.int (nI 1)), some (.int (nI i))] [] M1 sz 0 0 := by
    intro n
    induction n with
    | zero =>
      intro i M1 hi ha h1 hf
      have hi : i = b := by omega
      subst hi
      refine xp_iload_5 (pc := 6) hX d_Row_addCapitals_6 ?_
      refine xp_iload_3 (pc := 8) hX d_Row_addCapitals_8 ?_
      refine xn_icmp_ge (pc := 9) hX 38 d_Row_addCapitals_9 (by decide) (by omega) (by omega) (fun _ => ?_) (fun h => absurd h (by omega))
      refine xp_iload_4 (pc := 38) hX d_Row_addCapitals_38 ?_
      refine xg_iret (pc := 40) hX hE d_Row_addCapitals_40 rfl rfl (by omega) (by omega) ?_
      exact ⟨rfl, _, rfl, rfl, h1, hf⟩
    | succ n ih =>
      intro i M1 hi ha h1 hf
      have hs1 : RowAt M1 s ws src := hs.kept (hf _ (by omega) (by omega)) (hf _ (by omega) (by omega))
      have hlt : i < src.length := by omega
      have hlen : (bs ++ (sl src a i).map cap).length = bs.length + (i - a) := by simp [sl_len (show i ≤ src.length by omega)]
      obtain ⟨hr0, -⟩ := id h1
      obtain ⟨hs0, -⟩ := id hs1
      refine xp_iload_5 (pc := 6) hX d_Row_addCapitals_6 ?_
      refine xp_iload_3 (pc := 8) hX d_Row_addCapitals_8 ?_
      refine xn_icmp_ge (pc := 9) hX 38 d_Row_addCapitals_9 (by decide) (by omega) (by omega) (fun h => absurd h (by omega)) (fun _ => ?_)
      refine xp_iload_4 (pc := 12) hX d_Row_addCapitals_12 ?_
      refine xn_if_eq (pc := 14) hX 38 d_Row_addCapitals_14 (by decide) (by decide) (fun h => absurd h (by decide)) (fun _ => ?_)
      refine xp_aload_0 (pc := 17) hX d_Row_addCapitals_17 ?_
      refine xp_aload_1 (pc := 18) hX d_Row_addCapitals_18 ?_
      refine xp_iload_5 (pc := 19) hX d_Row_addCapitals_19 ?_
      refine xi_V (Y2 := Y_Row_at) (pc := 21) hX [_] k_Row m_Row_at d_Row_addCapitals_21 l_Row_35 rfl rfl (by simp [Value.category]) (by first | assumption | exact xup_s _ _ _ | exact xup_o (by omega) (by assumption) | exact xup_o (by omega) (xup_s _ _ _) | exact xup_o (by omega) (xup_o (by omega) (by assumption)) | exact xup_o (by omega) (xup_o (by omega) (xup_s _ _ _)) | exact xup_o (by omega) (xup_o (by omega) (xup_o (by omega) (by assumption)))) (c_Row_at d (nI i) hs1 (by omega)) (by omega) (by omega) ?_
      rintro y M' ⟨rfl, rfl⟩
      rw [rAt_nI (by omega), List.getElem?_eq_getElem hlt]
      refine xi_SN (Y2 := Y_Nam_capital) (pc := 24) hX [_] m_Nam_capital d_Row_addCapitals_24 l_Row_39 rfl rfl (by simp [Value.category]) (c_Nam_capital d src[i]) (by omega) (by omega) ?_
      rintro y M' ⟨rfl, rfl⟩
      refine xi_V (Y2 := Y_Row_add) (pc := 27) hX [_] k_Row m_Row_add d_Row_addCapitals_27 l_Row_25 rfl rfl (by simp [Value.category]) (by first | assumption | exact xup_s _ _ _ | exact xup_o (by omega) (by assumption) | exact xup_o (by omega) (xup_s _ _ _) | exact xup_o (by omega) (xup_o (by omega) (by assumption)) | exact xup_o (by omega) (xup_o (by omega) (xup_s _ _ _)) | exact xup_o (by omega) (xup_o (by omega) (xup_o (by omega) (by assumption)))) (c_Row_add d _ (cap src[i]) rfl h1 hw) (by omega) (by omega) ?_
      intro y M2 h
      rcases h with ⟨-, rfl, h2, h3⟩ | ⟨h, -, -⟩
      · refine xp_istore_4 (pc := 30) hX d_Row_addCapitals_30 (by decide) ?_
        refine xp_inc_5 (pc := 32) hX d_Row_addCapitals_32 (by decide) ?_
        refine xg_goto (pc := 35) hX 6 d_Row_addCapitals_35 (by decide) ?_
        refine ih (i + 1) M2 (by omega) (by omega) ?_ (hf.tr h3)
        rw [sl_succ ha hlt]
        simpa using h2
      · rw [hlen] at h
        exact absurd h (by omega)
  refine xg_iconst (pc := 0) hX (nI 1) d_Row_addCapitals_0 ci_iconst_1 ?_
  refine xp_istore_4 (pc := 1) hX d_Row_addCapitals_1 (by decide) ?_
  refine xp_iload_2 (pc := 3) hX d_Row_addCapitals_3 ?_
  refine xp_istore_5 (pc := 4) hX d_Row_addCapitals_4 (by decide) ?_
  refine loop (b - a) a M (by omega) (Nat.le_refl _) ?_ (Fr2.rf M r)
  rw [sl_same]
  simpa using hr
theorem pre_step {src bs : List UInt8} {i : Nat} (hi : i < src.length) (hb : i < bs.length) (h : (src.take i) <+: bs) (e : bs[i] = src[i]) : (src.take (i + 1)) <+: bs := by
  rw [List.prefix_iff_eq_take] at h ⊢
  have h1 : (src.take i).length = i := by simp; omega
  have h2 : (src.take (i + 1)).length = i + 1 := by simp; omega
  rw [h1] at h
  rw [h2, List.take_succ, List.take_succ, h, List.getElem?_eq_getElem hi, List.getElem?_eq_getElem hb, e]
theorem pre_ne {src bs : List UInt8} {i : Nat} (hi : i < src.length) (hb : i < bs.length) (h : src <+: bs) : bs[i] = src[i] := by
  obtain ⟨t, rfl⟩ := h
  rw [List.getElem_append_left hi]
set_option maxHeartbeats 4000000 in
set_option maxRecDepth 100000 in
theorem c_Row_beginsWith (d : Nat) {M : xH} {sz r w s ws : Nat} {bs src : List UInt8} (hr : RowAt M r w bs) (hs : RowAt M s ws src) (hw : w < 2147483647) (hws : ws < 2147483647) : xC d 0 0 Y_Row_beginsWith [.ref r, .ref s] M sz (qi sz (fun y M' => y = bI (src.isPrefixOf bs) ∧ M' = M)) := by
  refine xC_of (by decide) (Nat.le_of_ble_eq_true rfl) (by simp [Value.category]) (vs := [some (.ref r), some (.ref s), none, none]) rfl (fun K hX hE => ?_)
  obtain ⟨h1, h2, f, h3, h4⟩ := id hr
  obtain ⟨g1, g2, g, g3, g4⟩ := id hs
  have kf : ∀ (v : Bool), src.isPrefixOf bs = v → qi sz (fun y M' => y = bI (src.isPrefixOf bs) ∧ M' = M) (some (.int (bI v))) M sz := fun v hv => ⟨rfl, _, rfl, by rw [hv], rfl⟩
  have loop : ∀ (n i : Nat), i + n = src.length → src.length ≤ bs.length → src.take i <+: bs → xG K 35 [some (.ref r), some (.ref s), some (.int (nI src.length)), some (.int (nI i))] [] M sz 0 0 := by
    intro n
    induction n with
    | zero =>
      intro i hi hl hp
      refine xp_iload_3 (pc := 35) hX d_Row_beginsWith_35 ?_
      refine xp_iload_2 (pc := 36) hX d_Row_beginsWith_36 ?_
      refine xn_icmp_ge (pc := 37) hX 63 d_Row_beginsWith_37 (by decide) (by omega) (by omega) (fun _ => ?_) (fun h => absurd h (by omega))
      refine xg_iconst (pc := 63) hX (nI 1) d_Row_beginsWith_63 ci_iconst_1 ?_
      refine xg_iret (pc := 64) hX hE d_Row_beginsWith_64 rfl rfl (by omega) (by omega) ?_
      refine kf true ?_
      rw [List.isPrefixOf_iff_prefix]
      rw [List.take_of_length_le (by omega)] at hp
      exact hp
    | succ n ih =>
      intro i hi hl hp
      have e1 : bs[i]? = some bs[i] := List.getElem?_eq_getElem (by omega)
      have e2 : src[i]? = some src[i] := List.getElem?_eq_getElem (by omega)
      refine xp_iload_3 (pc := 35) hX d_Row_beginsWith_35 ?_
      refine xp_iload_2 (pc := 36) hX d_Row_beginsWith_36 ?_
      refine xn_icmp_ge (pc := 37) hX 63 d_Row_beginsWith_37 (by decide) (by omega) (by omega) (fun h => absurd h (by omega)) (fun _ => ?_)
      refine xp_aload_0 (pc := 40) hX d_Row_beginsWith_40 ?_
      refine xg_get (pc := 41) hX (j := 0) k_Row d_Row_beginsWith_41 l_Row_15 (by decide) (by first | assumption | exact xup_s _ _ _ | exact xup_o (by omega) (by assumption) | exact xup_o (by omega) (xup_s _ _ _) | exact xup_o (by omega) (xup_o (by omega) (by assumption)) | exact xup_o (by omega) (xup_o (by omega) (xup_s _ _ _)) | exact xup_o (by omega) (xup_o (by omega) (xup_o (by omega) (by assumption)))) (by rfl) ?_
      refine xp_iload_3 (pc := 44) hX d_Row_beginsWith_44 ?_
      refine xn_bald (pc := 45) hX d_Row_beginsWith_45 rfl (by first | assumption | exact xup_s _ _ _ | exact xup_o (by omega) (by assumption) | exact xup_o (by omega) (xup_s _ _ _) | exact xup_o (by omega) (xup_o (by omega) (by assumption)) | exact xup_o (by omega) (xup_o (by omega) (xup_s _ _ _)) | exact xup_o (by omega) (xup_o (by omega) (xup_o (by omega) (by assumption)))) (by omega) (by omega) ?_
      refine xp_aload_1 (pc := 46) hX d_Row_beginsWith_46 ?_
      refine xg_get (pc := 47) hX (j := 0) k_Row d_Row_beginsWith_47 l_Row_15 (by decide) (by first | assumption | exact xup_s _ _ _ | exact xup_o (by omega) (by assumption) | exact xup_o (by omega) (xup_s _ _ _) | exact xup_o (by omega) (xup_o (by omega) (by assumption)) | exact xup_o (by omega) (xup_o (by omega) (xup_s _ _ _)) | exact xup_o (by omega) (xup_o (by omega) (xup_o (by omega) (by assumption)))) (by rfl) ?_
      refine xp_iload_3 (pc := 50) hX d_Row_beginsWith_50 ?_
      refine xn_bald (pc := 51) hX d_Row_beginsWith_51 rfl (by first | assumption | exact xup_s _ _ _ | exact xup_o (by omega) (by assumption) | exact xup_o (by omega) (xup_s _ _ _) | exact xup_o (by omega) (xup_o (by omega) (by assumption)) | exact xup_o (by omega) (xup_o (by omega) (xup_s _ _ _)) | exact xup_o (by omega) (xup_o (by omega) (xup_o (by omega) (by assumption)))) (by omega) (by omega) ?_
      rw [h4 i _ e1, g4 i _ e2]
      refine xg_icmp_eq (pc := 52) hX 57 d_Row_beginsWith_52 (by decide) (fun h => ?_) (fun h => ?_)
      · refine xp_inc_3 (pc := 57) hX d_Row_beginsWith_57 (by decide) ?_
        refine xg_goto (pc := 60) hX 35 d_Row_beginsWith_60 (by decide) ?_
        exact ih (i + 1) (by omega) hl (pre_step (by omega) (by omega) hp (sb_inj.mp h))
      · refine xg_iconst (pc := 55) hX (nI 0) d_Row_beginsWith_55 ci_iconst_0 ?_
        refine xg_iret (pc := 56) hX hE d_Row_beginsWith_56 rfl rfl (by omega) (by omega) ?_
        refine kf false ?_
        rw [← Bool.not_eq_true, List.isPrefixOf_iff_prefix]
        exact fun q => h (sb_inj.mpr (pre_ne (by omega) (by omega) q))
  refine xp_aload_1 (pc := 0) hX d_Row_beginsWith_0 ?_
  refine xg_get (pc := 1) hX (j := 1) k_Row d_Row_beginsWith_1 l_Row_21 (by decide) (by first | assumption | exact xup_s _ _ _ | exact xup_o (by omega) (by assumption) | exact xup_o (by omega) (xup_s _ _ _) | exact xup_o (by omega) (xup_o (by omega) (by assumption)) | exact xup_o (by omega) (xup_o (by omega) (xup_s _ _ _)) | exact xup_o (by omega) (xup_o (by omega) (xup_o (by omega) (by assumption)))) (by rfl) ?_
  refine xp_istore_2 (pc := 4) hX d_Row_beginsWith_4 (by decide) ?_
  refine xp_iload_2 (pc := 5) hX d_Row_beginsWith_5 ?_
  refine xp_aload_0 (pc := 6) hX d_Row_beginsWith_6 ?_
  refine xg_get (pc := 7) hX (j := 1) k_Row d_Row_beginsWith_7 l_Row_21 (by decide) (by first | assumption | exact xup_s _ _ _ | exact xup_o (by omega) (by assumption) | exact xup_o (by omega) (xup_s _ _ _) | exact xup_o (by omega) (xup_o (by omega) (by assumption)) | exact xup_o (by omega) (xup_o (by omega) (xup_s _ _ _)) | exact xup_o (by omega) (xup_o (by omega) (xup_o (by omega) (by assumption)))) (by rfl) ?_
  refine xn_icmp_gt (pc := 10) hX 31 d_Row_beginsWith_10 (by decide) (by omega) (by omega) (fun h => ?_) (fun h => ?_)
  · refine xg_iconst (pc := 31) hX (nI 0) d_Row_beginsWith_31 ci_iconst_0 ?_
    refine xg_iret (pc := 32) hX hE d_Row_beginsWith_32 rfl rfl (by omega) (by omega) ?_
    refine kf false ?_
    rw [← Bool.not_eq_true, List.isPrefixOf_iff_prefix]
    exact fun q => absurd q.length_le (by omega)
  · refine xp_iload_2 (pc := 13) hX d_Row_beginsWith_13 ?_
    refine xp_aload_0 (pc := 14) hX d_Row_beginsWith_14 ?_
    refine xg_get (pc := 15) hX (j := 0) k_Row d_Row_beginsWith_15 l_Row_15 (by decide) (by first | assumption | exact xup_s _ _ _ | exact xup_o (by omega) (by assumption) | exact xup_o (by omega) (xup_s _ _ _) | exact xup_o (by omega) (xup_o (by omega) (by assumption)) | exact xup_o (by omega) (xup_o (by omega) (xup_s _ _ _)) | exact xup_o (by omega) (xup_o (by omega) (xup_o (by omega) (by assumption)))) (by rfl) ?_
    refine xn_alen (pc := 18) hX (t := 0) d_Row_beginsWith_18 rfl (by first | assumption | exact xup_s _ _ _ | exact xup_o (by omega) (by assumption) | exact xup_o (by omega) (xup_s _ _ _) | exact xup_o (by omega) (xup_o (by omega) (by assumption)) | exact xup_o (by omega) (xup_o (by omega) (xup_s _ _ _)) | exact xup_o (by omega) (xup_o (by omega) (xup_o (by omega) (by assumption)))) ?_
    refine xn_icmp_gt (pc := 19) hX 31 d_Row_beginsWith_19 (by decide) (by omega) (by show w < _; omega) (fun h => absurd h (by show ¬ w < _; omega)) (fun _ => ?_)
    refine xp_iload_2 (pc := 22) hX d_Row_beginsWith_22 ?_
    refine xp_aload_1 (pc := 23) hX d_Row_beginsWith_23 ?_
    refine xg_get (pc := 24) hX (j := 0) k_Row d_Row_beginsWith_24 l_Row_15 (by decide) (by first | assumption | exact xup_s _ _ _ | exact xup_o (by omega) (by assumption) | exact xup_o (by omega) (xup_s _ _ _) | exact xup_o (by omega) (xup_o (by omega) (by assumption)) | exact xup_o (by omega) (xup_o (by omega) (xup_s _ _ _)) | exact xup_o (by omega) (xup_o (by omega) (xup_o (by omega) (by assumption)))) (by rfl) ?_
    refine xn_alen (pc := 27) hX (t := 0) d_Row_beginsWith_27 rfl (by first | assumption | exact xup_s _ _ _ | exact xup_o (by omega) (by assumption) | exact xup_o (by omega) (xup_s _ _ _) | exact xup_o (by omega) (xup_o (by omega) (by assumption)) | exact xup_o (by omega) (xup_o (by omega) (xup_s _ _ _)) | exact xup_o (by omega) (xup_o (by omega) (xup_o (by omega) (by assumption)))) ?_
    refine xn_icmp_le (pc := 28) hX 33 d_Row_beginsWith_28 (by decide) (by omega) (by show ws < _; omega) (fun _ => ?_) (fun h => absurd h (by show ¬ ws < _; omega))
    refine xg_iconst (pc := 33) hX (nI 0) d_Row_beginsWith_33 ci_iconst_0 ?_
    refine xp_istore_3 (pc := 34) hX d_Row_beginsWith_34 (by decide) ?_
    exact loop src.length 0 (by omega) h (by simp)
set_option maxHeartbeats 4000000 in
set_option maxRecDepth 100000 in
theorem c_Row_standsAt (d : Nat) {M : xH} {sz r w s ws : Nat} {bs src : List UInt8} {a : Nat} (hr : RowAt M r w bs) (hs : RowAt M s ws src) (hw : w < 1000000) (hws : ws < 1000000) (ha : a < 1000000) : xC (d + 1) 0 0 Y_Row_standsAt [.ref r, .int (nI a), .ref s] M sz (qi sz (fun y M' => y = bI (src.isPrefixOf (bs.drop a)) ∧ M' = M)) := by
  refine xC_of (by decide) (Nat.le_of_ble_eq_true rfl) (by simp [Value.category]) (vs := [some (.ref r), some (.int (nI a)), some (.ref s), none]) rfl (fun K hX hE => ?_)
  obtain ⟨h1, h2, -⟩ := id hr
  obtain ⟨g1, g2, -⟩ := id hs
  have kf : ∀ (v : Bool), src.isPrefixOf (bs.drop a) = v → qi sz (fun y M' => y = bI (src.isPrefixOf (bs.drop a)) ∧ M' = M) (some (.int (bI v))) M sz := fun v hv => ⟨rfl, _, rfl, by rw [hv], rfl⟩
  have loop : ∀ (n i : Nat), i + n = src.length → src.take i <+: bs.drop a → xG K 2 [some (.ref r), some (.int (nI a)), some (.ref s), some (.int (nI i))] [] M sz 0 0 := by
    intro n
    induction n with
    | zero =>
      intro i hi hp
      refine xp_iload_3 (pc := 2) hX d_Row_standsAt_2 ?_
      refine xp_aload_2 (pc := 3) hX d_Row_standsAt_3 ?_
      refine xg_get (pc := 4) hX (j := 1) k_Row d_Row_standsAt_4 l_Row_21 (by decide) (by first | assumption | exact xup_s _ _ _ | exact xup_o (by omega) (by assumption) | exact xup_o (by omega) (xup_s _ _ _) | exact xup_o (by omega) (xup_o (by omega) (by assumption)) | exact xup_o (by omega) (xup_o (by omega) (xup_s _ _ _)) | exact xup_o (by omega) (xup_o (by omega) (xup_o (by omega) (by assumption)))) (by rfl) ?_
      refine xn_icmp_ge (pc := 7) hX 33 d_Row_standsAt_7 (by decide) (by omega) (by omega) (fun _ => ?_) (fun h => absurd h (by omega))
      refine xg_iconst (pc := 33) hX (nI 1) d_Row_standsAt_33 ci_iconst_1 ?_
      refine xg_iret (pc := 34) hX hE d_Row_standsAt_34 rfl rfl (by omega) (by omega) ?_
      refine kf true ?_
      rw [List.isPrefixOf_iff_prefix]
      rw [List.take_of_length_le (by omega)] at hp
      exact hp
    | succ n ih =>
      intro i hi hp
      have e2 : src[i]? = some src[i] := List.getElem?_eq_getElem (by omega)
      refine xp_iload_3 (pc := 2) hX d_Row_standsAt_2 ?_
      refine xp_aload_2 (pc := 3) hX d_Row_standsAt_3 ?_
      refine xg_get (pc := 4) hX (j := 1) k_Row d_Row_standsAt_4 l_Row_21 (by decide) (by first | assumption | exact xup_s _ _ _ | exact xup_o (by omega) (by assumption) | exact xup_o (by omega) (xup_s _ _ _) | exact xup_o (by omega) (xup_o (by omega) (by assumption)) | exact xup_o (by omega) (xup_o (by omega) (xup_s _ _ _)) | exact xup_o (by omega) (xup_o (by omega) (xup_o (by omega) (by assumption)))) (by rfl) ?_
      refine xn_icmp_ge (pc := 7) hX 33 d_Row_standsAt_7 (by decide) (by omega) (by omega) (fun h => absurd h (by omega)) (fun _ => ?_)
      refine xp_aload_0 (pc := 10) hX d_Row_standsAt_10 ?_
      refine xp_iload_1 (pc := 11) hX d_Row_standsAt_11 ?_
      refine xp_iload_3 (pc := 12) hX d_Row_standsAt_12 ?_
      first | refine xn_iadd (pc := 13) hX d_Row_standsAt_13 ?_ | refine xg_iadd (pc := 13) hX d_Row_standsAt_13 ?_
      refine xi_V (Y2 := Y_Row_at) (pc := 14) hX [_] k_Row m_Row_at d_Row_standsAt_14 l_Row_35 rfl rfl (by simp [Value.category]) (by first | assumption | exact xup_s _ _ _ | exact xup_o (by omega) (by assumption) | exact xup_o (by omega) (xup_s _ _ _) | exact xup_o (by omega) (xup_o (by omega) (by assumption)) | exact xup_o (by omega) (xup_o (by omega) (xup_s _ _ _)) | exact xup_o (by omega) (xup_o (by omega) (xup_o (by omega) (by assumption)))) (c_Row_at d (nI (a + i)) hr (by omega)) (by omega) (by omega) ?_
      rintro y M' ⟨rfl, rfl⟩
      refine xp_aload_2 (pc := 17) hX d_Row_standsAt_17 ?_
      refine xp_iload_3 (pc := 18) hX d_Row_standsAt_18 ?_
      refine xi_V (Y2 := Y_Row_at) (pc := 19) hX [_] k_Row m_Row_at d_Row_standsAt_19 l_Row_35 rfl rfl (by simp [Value.category]) (by first | assumption | exact xup_s _ _ _ | exact xup_o (by omega) (by assumption) | exact xup_o (by omega) (xup_s _ _ _) | exact xup_o (by omega) (xup_o (by omega) (by assumption)) | exact xup_o (by omega) (xup_o (by omega) (xup_s _ _ _)) | exact xup_o (by omega) (xup_o (by omega) (xup_o (by omega) (by assumption)))) (c_Row_at d (nI i) hs (by omega)) (by omega) (by omega) ?_
      rintro y M' ⟨rfl, rfl⟩
      rw [rAt_nI (by omega), rAt_nI (by omega)]
      refine xg_icmp_eq (pc := 22) hX 27 d_Row_standsAt_22 (by decide) (fun h => ?_) (fun h => ?_)
      · have h := oI_inj.mp h
        rw [e2] at h
        have hl := (List.getElem?_eq_some_iff.mp h).1
        refine xp_inc_3 (pc := 27) hX d_Row_standsAt_27 (by decide) ?_
        refine xg_goto (pc := 30) hX 2 d_Row_standsAt_30 (by decide) ?_
        refine ih (i + 1) (by omega) (pre_step (by omega) (by rw [List.length_drop]; omega) hp ?_)
        rw [List.getElem_drop]
        rw [List.getElem?_eq_getElem hl] at h
        exact Option.some.inj h
      · refine xg_iconst (pc := 25) hX (nI 0) d_Row_standsAt_25 ci_iconst_0 ?_
        refine xg_iret (pc := 26) hX hE d_Row_standsAt_26 rfl rfl (by omega) (by omega) ?_
        refine kf false ?_
        rw [← Bool.not_eq_true, List.isPrefixOf_iff_prefix]
        intro q
        apply h
        have ql := q.length_le
        rw [List.length_drop] at ql
        have := pre_ne (i := i) (by omega) (by rw [List.length_drop]; omega) q
        rw [List.getElem_drop] at this
        rw [e2, List.getElem?_eq_getElem (by omega), this]
  refine xg_iconst (pc := 0) hX (nI 0) d_Row_standsAt_0 ci_iconst_0 ?_
  refine xp_istore_3 (pc := 1) hX d_Row_standsAt_1 (by decide) ?_
  exact loop src.length 0 (by omega) (by simp)
/-- the first period from a on ahead of b, or b -/
def dotF (bs : List UInt8) (a b : Nat) : Nat := a + (sl bs a b).idxOf 46
theorem dotF_le {bs : List UInt8} {a b : Nat} (hab : a ≤ b) (hb : b ≤ bs.length) : a ≤ dotF bs a b ∧ dotF bs a b ≤ b := by
  unfold dotF
  have := List.idxOf_le_length (a := (46 : UInt8)) (l := sl bs a b)
  rw [sl_len hb] at this
  omega
theorem sl_cons {bs : List UInt8} {a b : Nat} (hab : a < b) (hb : b ≤ bs.length) : sl bs a b = bs[a]'(by omega) :: sl bs (a + 1) b := by
  unfold sl
  rw [List.drop_eq_getElem_cons (by omega), show b - a = (b - (a + 1)) + 1 by omega, List.take_succ_cons]
theorem dotF_hit {bs : List UInt8} {a b : Nat} (hab : a < b) (hb : b ≤ bs.length) (h : bs[a]'(by omega) = 46) : dotF bs a b = a := by
  unfold dotF
  rw [sl_cons hab hb, h]
  simp [List.idxOf_cons]
theorem dotF_miss {bs : List UInt8} {a b : Nat} (hab : a < b) (hb : b ≤ bs.length) (h : bs[a]'(by omega) ≠ 46) : dotF bs a b = dotF bs (a + 1) b := by
  unfold dotF
  rw [sl_cons hab hb, List.idxOf_cons]
  have : (bs[a]'(by omega) == (46 : UInt8)) = false := by simpa using h
  rw [this]
  simp
  omega
theorem dotF_end {bs : List UInt8} {a : Nat} : dotF bs a a = a := by simp [dotF, sl_same]
theorem sb46 : nI 46 = sb_b (46 : UInt8).toNat := by decide +kernel
set_option maxHeartbeats 4000000 in
set_option maxRecDepth 100000 in
theorem c_Row_dotFrom (d : Nat) {M : xH} {sz r w : Nat} {bs : List UInt8} {a b : Nat} (hr : RowAt M r w bs) (hab : a ≤ b) (hb : b ≤ bs.length) (hw : w < 2147483647) : xC d 0 0 Y_Row_dotFrom [.ref r, .int (nI a), .int (nI b)] M sz (qi sz (fun y M' => y = nI (dotF bs a b) ∧ M' = M)) := by
  refine xC_of (by decide) (Nat.le_of_ble_eq_true rfl) (by simp [Value.category]) (vs := [some (.ref r), some (.int (nI a)), some (.int (nI b)), none]) rfl (fun K hX hE => ?_)
  obtain ⟨h1, h2, f, h3, h4⟩ := id hr
  have loop : ∀ (n i : Nat), i + n = b → a ≤ i → dotF bs a b = dotF bs i b → xG K 2 [some (.ref r), some (.int (nI a)), some (.int (nI b)), some (.int (nI i))] [] M sz 0 0 := by
    intro n
    induction n with
    | zero =>
      intro i hi ha hd
      refine xp_iload_3 (pc := 2) hX d_Row_dotFrom_2 ?_
      refine xp_iload_2 (pc := 3) hX d_Row_dotFrom_3 ?_
      refine xn_icmp_ge (pc := 4) hX 39 d_Row_dotFrom_4 (by decide) (by omega) (by omega) (fun _ => ?_) (fun h => absurd h (by omega))
      refine xp_iload_2 (pc := 39) hX d_Row_dotFrom_39 ?_
      refine xg_iret (pc := 40) hX hE d_Row_dotFrom_40 rfl rfl (by omega) (by omega) ?_
      have hi : i = b := by omega
      subst hi
      exact ⟨rfl, _, rfl, by rw [hd, dotF_end], rfl⟩
    | succ n ih =>
      intro i hi ha hd
      have e1 : bs[i]? = some bs[i] := List.getElem?_eq_getElem (by omega)
      refine xp_iload_3 (pc := 2) hX d_Row_dotFrom_2 ?_
      refine xp_iload_2 (pc := 3) hX d_Row_dotFrom_3 ?_
      refine xn_icmp_ge (pc := 4) hX 39 d_Row_dotFrom_4 (by decide) (by omega) (by omega) (fun h => absurd h (by omega)) (fun _ => ?_)
      refine xp_iload_3 (pc := 7) hX d_Row_dotFrom_7 ?_
      refine xp_aload_0 (pc := 8) hX d_Row_dotFrom_8 ?_
      refine xg_get (pc := 9) hX (j := 0) k_Row d_Row_dotFrom_9 l_Row_15 (by decide) (by first | assumption | exact xup_s _ _ _ | exact xup_o (by omega) (by assumption) | exact xup_o (by omega) (xup_s _ _ _) | exact xup_o (by omega) (xup_o (by omega) (by assumption)) | exact xup_o (by omega) (xup_o (by omega) (xup_s _ _ _)) | exact xup_o (by omega) (xup_o (by omega) (xup_o (by omega) (by assumption)))) (by rfl) ?_
      refine xn_alen (pc := 12) hX (t := 0) d_Row_dotFrom_12 rfl (by first | assumption | exact xup_s _ _ _ | exact xup_o (by omega) (by assumption) | exact xup_o (by omega) (xup_s _ _ _) | exact xup_o (by omega) (xup_o (by omega) (by assumption)) | exact xup_o (by omega) (xup_o (by omega) (xup_s _ _ _)) | exact xup_o (by omega) (xup_o (by omega) (xup_o (by omega) (by assumption)))) ?_
      refine xn_icmp_ge (pc := 13) hX 39 d_Row_dotFrom_13 (by decide) (by omega) (by show w < _; omega) (fun h => absurd h (by show ¬ w ≤ i; omega)) (fun _ => ?_)
      refine xp_iload_3 (pc := 16) hX d_Row_dotFrom_16 ?_
      refine xn_if_lt (pc := 17) hX 33 d_Row_dotFrom_17 (by decide) (by omega) ?_
      refine xp_aload_0 (pc := 20) hX d_Row_dotFrom_20 ?_
      refine xg_get (pc := 21) hX (j := 0) k_Row d_Row_dotFrom_21 l_Row_15 (by decide) (by first | assumption | exact xup_s _ _ _ | exact xup_o (by omega) (by assumption) | exact xup_o (by omega) (xup_s _ _ _) | exact xup_o (by omega) (xup_o (by omega) (by assumption)) | exact xup_o (by omega) (xup_o (by omega) (xup_s _ _ _)) | exact xup_o (by omega) (xup_o (by omega) (xup_o (by omega) (by assumption)))) (by rfl) ?_
      refine xp_iload_3 (pc := 24) hX d_Row_dotFrom_24 ?_
      refine xn_bald (pc := 25) hX d_Row_dotFrom_25 rfl (by first | assumption | exact xup_s _ _ _ | exact xup_o (by omega) (by assumption) | exact xup_o (by omega) (xup_s _ _ _) | exact xup_o (by omega) (xup_o (by omega) (by assumption)) | exact xup_o (by omega) (xup_o (by omega) (xup_s _ _ _)) | exact xup_o (by omega) (xup_o (by omega) (xup_o (by omega) (by assumption)))) (by omega) (by omega) ?_
      refine xg_bipush (pc := 26) hX (nI 46) d_Row_dotFrom_26 ci_bipush_46 ?_
      rw [h4 i _ e1, sb46]
      refine xg_icmp_ne (pc := 28) hX 33 d_Row_dotFrom_28 (by decide) (fun h => ?_) (fun h => ?_)
      · refine xp_inc_3 (pc := 33) hX d_Row_dotFrom_33 (by decide) ?_
        refine xg_goto (pc := 36) hX 2 d_Row_dotFrom_36 (by decide) ?_
        exact ih (i + 1) (by omega) (by omega) (by rw [hd, dotF_miss (by omega) hb (fun q => h (sb_inj.mpr q))])
      · refine xp_iload_3 (pc := 31) hX d_Row_dotFrom_31 ?_
        refine xg_iret (pc := 32) hX hE d_Row_dotFrom_32 rfl rfl (by omega) (by omega) ?_
        exact ⟨rfl, _, rfl, by rw [hd, dotF_hit (by omega) hb (sb_inj.mp h)], rfl⟩
  refine xp_iload_1 (pc := 0) hX d_Row_dotFrom_0 ?_
  refine xp_istore_3 (pc := 1) hX d_Row_dotFrom_1 (by decide) ?_
  exact loop (b - a) a (by omega) (Nat.le_refl _) rfl
/-- a STEM; a COMPOUND name: by where the first period stands -/
def isSt (bs : List UInt8) : Bool := bs.idxOf 46 + 1 == bs.length
def isCo (bs : List UInt8) : Bool := decide (bs.idxOf 46 + 1 < bs.length)
theorem dotF_all (bs : List UInt8) : dotF bs 0 bs.length = bs.idxOf 46 := by simp [dotF, sl_all]
set_option maxHeartbeats 4000000 in
set_option maxRecDepth 100000 in
theorem c_Row_isStem (d : Nat) {M : xH} {sz r w : Nat} {bs : List UInt8} (hr : RowAt M r w bs) (hw : w < 2147483647) : xC (d + 1) 0 0 Y_Row_isStem [.ref r] M sz (qi sz (fun y M' => y = bI (isSt bs) ∧ M' = M)) := by
  refine xC_of (by decide) (Nat.le_of_ble_eq_true rfl) (by simp [Value.category]) (vs := [some (.ref r)]) rfl (fun K hX hE => ?_)
  obtain ⟨h1, h2, f, h3, h4⟩ := id hr
  have k30 : ∀ v, isSt bs = v → xG K 30 [some (.ref r)] [.int (bI v)] M sz 0 0 := by
    intro v hv
    refine xg_iret (pc := 30) hX hE d_Row_isStem_30 rfl (by cases v <;> rfl) (by omega) (by omega) ?_
    exact ⟨rfl, _, rfl, by rw [hv], rfl⟩
  have hi := List.idxOf_le_length (a := (46 : UInt8)) (l := bs)
  refine xp_aload_0 (pc := 0) hX d_Row_isStem_0 ?_
  refine xg_get (pc := 1) hX (j := 1) k_Row d_Row_isStem_1 l_Row_21 (by decide) (by first | assumption | exact xup_s _ _ _ | exact xup_o (by omega) (by assumption) | exact xup_o (by omega) (xup_s _ _ _) | exact xup_o (by omega) (xup_o (by omega) (by assumption)) | exact xup_o (by omega) (xup_o (by omega) (xup_s _ _ _)) | exact xup_o (by omega) (xup_o (by omega) (xup_o (by omega) (by assumption)))) (by rfl) ?_
  refine xn_if_le (pc := 4) hX 29 d_Row_isStem_4 (by decide) (by omega) (fun h => ?_) (fun h => ?_)
  · refine xg_iconst (pc := 29) hX (nI 0) d_Row_isStem_29 ci_iconst_0 ?_
    exact k30 false (by simp [isSt]; omega)
  · refine xp_aload_0 (pc := 7) hX d_Row_isStem_7 ?_
    refine xg_iconst (pc := 8) hX (nI 0) d_Row_isStem_8 ci_iconst_0 ?_
    refine xp_aload_0 (pc := 9) hX d_Row_isStem_9 ?_
    refine xg_get (pc := 10) hX (j := 1) k_Row d_Row_isStem_10 l_Row_21 (by decide) (by first | assumption | exact xup_s _ _ _ | exact xup_o (by omega) (by assumption) | exact xup_o (by omega) (xup_s _ _ _) | exact xup_o (by omega) (xup_o (by omega) (by assumption)) | exact xup_o (by omega) (xup_o (by omega) (xup_s _ _ _)) | exact xup_o (by omega) (xup_o (by omega) (xup_o (by omega) (by assumption)))) (by rfl) ?_
    refine xi_V (Y2 := Y_Row_dotFrom) (pc := 13) hX [_, _] k_Row m_Row_dotFrom d_Row_isStem_13 l_Row_46 rfl rfl (by simp [Value.category]) (by first | assumption | exact xup_s _ _ _ | exact xup_o (by omega) (by assumption) | exact xup_o (by omega) (xup_s _ _ _) | exact xup_o (by omega) (xup_o (by omega) (by assumption)) | exact xup_o (by omega) (xup_o (by omega) (xup_s _ _ _)) | exact xup_o (by omega) (xup_o (by omega) (xup_o (by omega) (by assumption)))) (c_Row_dotFrom d (a := 0) (b := bs.length) hr (Nat.zero_le _) (Nat.le_refl _) hw) (by omega) (by omega) ?_
    rintro y M' ⟨rfl, rfl⟩
    rw [dotF_all]
    refine xp_aload_0 (pc := 16) hX d_Row_isStem_16 ?_
    refine xg_get (pc := 17) hX (j := 1) k_Row d_Row_isStem_17 l_Row_21 (by decide) (by first | assumption | exact xup_s _ _ _ | exact xup_o (by omega) (by assumption) | exact xup_o (by omega) (xup_s _ _ _) | exact xup_o (by omega) (xup_o (by omega) (by assumption)) | exact xup_o (by omega) (xup_o (by omega) (xup_s _ _ _)) | exact xup_o (by omega) (xup_o (by omega) (xup_o (by omega) (by assumption)))) (by rfl) ?_
    refine xg_iconst (pc := 20) hX (nI 1) d_Row_isStem_20 ci_iconst_1 ?_
    first | refine xn_isub (pc := 21) hX d_Row_isStem_21 (by omega) ?_ | refine xg_isub (pc := 21) hX d_Row_isStem_21 ?_
    refine xn_icmp_ne (pc := 22) hX 29 d_Row_isStem_22 (by decide) (by omega) (by omega) (fun h => ?_) (fun h => ?_)
    · refine xg_iconst (pc := 29) hX (nI 0) d_Row_isStem_29 ci_iconst_0 ?_
      exact k30 false (by simp [isSt]; omega)
    · refine xg_iconst (pc := 25) hX (nI 1) d_Row_isStem_25 ci_iconst_1 ?_
      refine xg_goto (pc := 26) hX 30 d_Row_isStem_26 (by decide) ?_
      exact k30 true (by simp [isSt]; omega)
set_option maxHeartbeats 4000000 in
set_option maxRecDepth 100000 in
theorem c_Row_isCompound (d : Nat) {M : xH} {sz r w : Nat} {bs : List UInt8} (hr : RowAt M r w bs) (hne : 0 < bs.length) (hw : w < 2147483647) : xC (d + 1) 0 0 Y_Row_isCompound [.ref r] M sz (qi sz (fun y M' => y = bI (isCo bs) ∧ M' = M)) := by
  refine xC_of (by decide) (Nat.le_of_ble_eq_true rfl) (by simp [Value.category]) (vs := [some (.ref r)]) rfl (fun K hX hE => ?_)
  obtain ⟨h1, h2, f, h3, h4⟩ := id hr
  have k23 : ∀ v, isCo bs = v → xG K 23 [some (.ref r)] [.int (bI v)] M sz 0 0 := by
    intro v hv
    refine xg_iret (pc := 23) hX hE d_Row_isCompound_23 rfl (by cases v <;> rfl) (by omega) (by omega) ?_
    exact ⟨rfl, _, rfl, by rw [hv], rfl⟩
  have hi := List.idxOf_le_length (a := (46 : UInt8)) (l := bs)
  refine xp_aload_0 (pc := 0) hX d_Row_isCompound_0 ?_
  refine xg_iconst (pc := 1) hX (nI 0) d_Row_isCompound_1 ci_iconst_0 ?_
  refine xp_aload_0 (pc := 2) hX d_Row_isCompound_2 ?_
  refine xg_get (pc := 3) hX (j := 1) k_Row d_Row_isCompound_3 l_Row_21 (by decide) (by first | assumption | exact xup_s _ _ _ | exact xup_o (by omega) (by assumption) | exact xup_o (by omega) (xup_s _ _ _) | exact xup_o (by omega) (xup_o (by omega) (by assumption)) | exact xup_o (by omega) (xup_o (by omega) (xup_s _ _ _)) | exact xup_o (by omega) (xup_o (by omega) (xup_o (by omega) (by assumption)))) (by rfl) ?_
  refine xi_V (Y2 := Y_Row_dotFrom) (pc := 6) hX [_, _] k_Row m_Row_dotFrom d_Row_isCompound_6 l_Row_46 rfl rfl (by simp [Value.category]) (by first | assumption | exact xup_s _ _ _ | exact xup_o (by omega) (by assumption) | exact xup_o (by omega) (xup_s _ _ _) | exact xup_o (by omega) (xup_o (by omega) (by assumption)) | exact xup_o (by omega) (xup_o (by omega) (xup_s _ _ _)) | exact xup_o (by omega) (xup_o (by omega) (xup_o (by omega) (by assumption)))) (c_Row_dotFrom d (a := 0) (b := bs.length) hr (Nat.zero_le _) (Nat.le_refl _) hw) (by omega) (by omega) ?_
  rintro y M' ⟨rfl, rfl⟩
  rw [dotF_all]
  refine xp_aload_0 (pc := 9) hX d_Row_isCompound_9 ?_
  refine xg_get (pc := 10) hX (j := 1) k_Row d_Row_isCompound_10 l_Row_21 (by decide) (by first | assumption | exact xup_s _ _ _ | exact xup_o (by omega) (by assumption) | exact xup_o (by omega) (xup_s _ _ _) | exact xup_o (by omega) (xup_o (by omega) (by assumption)) | exact xup_o (by omega) (xup_o (by omega) (xup_s _ _ _)) | exact xup_o (by omega) (xup_o (by omega) (xup_o (by omega) (by assumption)))) (by rfl) ?_
  refine xg_iconst (pc := 13) hX (nI 1) d_Row_isCompound_13 ci_iconst_1 ?_
  first | refine xn_isub (pc := 14) hX d_Row_isCompound_14 (by omega) ?_ | refine xg_isub (pc := 14) hX d_Row_isCompound_14 ?_
  refine xn_icmp_ge (pc := 15) hX 22 d_Row_isCompound_15 (by decide) (by omega) (by omega) (fun h => ?_) (fun h => ?_)
  · refine xg_iconst (pc := 22) hX (nI 0) d_Row_isCompound_22 ci_iconst_0 ?_
    exact k23 false (by simp [isCo]; omega)
  · refine xg_iconst (pc := 18) hX (nI 1) d_Row_isCompound_18 ci_iconst_1 ?_
    refine xg_goto (pc := 19) hX 23 d_Row_isCompound_19 (by decide) ?_
    exact k23 true (by simp [isCo]; omega)
end
section
/-! NameRoom$Shelf -/
def FrR (M M' : xH) (a b : Nat) : Prop := ∀ q, (q < a ∨ b ≤ q) → M' q = M q
theorem FrR.rf (M : xH) (a b : Nat) : FrR M M a b := fun _ _ => rfl
theorem FrR.tr {M M' M'' : xH} {a b : Nat} (h : FrR M M' a b) (h' : FrR M' M'' a b) : FrR M M'' a b := fun q hq => (h' q hq).trans (h q hq)
theorem FrR.wide {M M' : xH} {a b a' b' : Nat} (h : FrR M M' a b) (h1 : a' ≤ a) (h2 : b ≤ b') : FrR M M' a' b' := fun q hq => h q (by omega)
theorem Fr2.R {M M' : xH} {r : Nat} (h : Fr2 M M' r) : FrR M M' r (r + 2) := fun q hq => h q (by omega) (by omega)
theorem xup_R (M : xH) {a b q : Nat} (z : xE) (h1 : a ≤ q) (h2 : q < b) : FrR M (xup M q z) a b := fun _ h => xup_n _ _ (by omega)
/-- an entry: pool, full name, value (none: gone) -/
abbrev xEn : Type := Nat × List UInt8 × Option (List UInt8)
/-- the entry's cells at a: itself, its title at a + 1, what it holds at a + 3; with the flag 'leaves' -/
def EnA (M : xH) (a : Nat) (e : xEn × Bool) : Prop := M a = some (.inr (1, [.ref (a + 1), .ref (a + 3), .int (nI e.1.1), .int (bI e.1.2.2.isNone), .int (bI e.2)])) ∧ e.1.1 < 1000 ∧ RowAt M (a + 1) 200 e.1.2.1 ∧ ∃ v, RowAt M (a + 3) 200 v ∧ ∀ u, e.1.2.2 = some u → v = u
theorem EnA.kept {M M' : xH} {a : Nat} {e : xEn × Bool} (h : EnA M a e) (hk : ∀ q, a ≤ q → q < a + 5 → M' q = M q) : EnA M' a e := by
  obtain ⟨h1, h2, h3, v, h4, h5⟩ := h
  exact ⟨by rw [hk a (by omega) (by omega)]; exact h1, h2, h3.kept (hk _ (by omega) (by omega)) (hk _ (by omega) (by omega)), v, h4.kept (hk _ (by omega) (by omega)) (hk _ (by omega) (by omega)), h5⟩
/-- the shelf at h: n entries; the array's place j holds the entry of slot g j, which says L j -/
def ShR (M : xH) (h n : Nat) (g : Nat → Nat) (L : Nat → xEn × Bool) : Prop :=
  M h = some (.inr (2, [.ref (h + 1), .int (nI n)])) ∧ n ≤ 100 ∧ (∃ f : Nat → Option Nat, M (h + 1) = some (.inl (2, 100, .inr (.inr (.inr (.inr f))))) ∧ ∀ j, j < 100 → f j = some (h + 2 + 5 * g j)) ∧ (∀ j, j < 100 → g j < 100) ∧ (∀ i j, i < 100 → j < 100 → g i = g j → i = j) ∧ ∀ j, j < 100 → EnA M (h + 2 + 5 * g j) (L j)
theorem ShR.kept {M M' : xH} {h n : Nat} {g : Nat → Nat} {L : Nat → xEn × Bool} (hs : ShR M h n g L) (hk : ∀ q, h ≤ q → q < h + 502 → M' q = M q) : ShR M' h n g L := by
  obtain ⟨h1, h2, ⟨f, h3, h4⟩, h5, h6, h7⟩ := hs
  exact ⟨by rw [hk h (by omega) (by omega)]; exact h1, h2, ⟨f, by rw [hk _ (by omega) (by omega)]; exact h3, h4⟩, h5, h6, fun j hj => (h7 j hj).kept (fun q a b => hk q (by omega) (by have := h5 j hj; omega))⟩
/-- the first place of a name of a pool -/
def fIdx (L : Nat → xEn × Bool) (n p : Nat) (nm : List UInt8) : Option Nat := (List.range n).find? (fun i => (L i).1.1 == p && (L i).1.2.1 == nm)
theorem pre_eq {a b : List UInt8} (h : a.length = b.length) : b.isPrefixOf a = (a == b) := by
  rw [Bool.eq_iff_iff, List.isPrefixOf_iff_prefix, beq_iff_eq]
  constructor
  · intro q; exact (q.eq_of_length h.symm).symm
  · intro q; rw [q]; exact List.prefix_refl _
set_option maxHeartbeats 4000000 in
set_option maxRecDepth 100000 in
theorem c_She_find (d : Nat) {M : xH} {sz h n t wt p : Nat} {g : Nat → Nat} {L : Nat → xEn × Bool} {nm : List UInt8} (hs : ShR M h n g L) (ht : RowAt M t wt nm) (hwt : wt < 1000000) (hp : p < 1000000) : xC (d + 1) 0 0 Y_She_find [.ref h, .ref t, .int (nI p)] M sz (qr sz (fun o M' => o = (fIdx L n p nm).map (fun i => h + 2 + 5 * g i) ∧ M' = M)) := by
  refine xC_of (by decide) (Nat.le_of_ble_eq_true rfl) (by simp [Value.category]) (vs := [some (.ref h), some (.ref t), some (.int (nI p)), none, none]) rfl (fun K hX hE => ?_)
  obtain ⟨h1, h2, ⟨f, h3, h4⟩, h5, h6, h7⟩ := hs
  obtain ⟨t1, t2, -⟩ := id ht
  have loop : ∀ (m i : Nat), i + m = n → (∀ j, j < i → ((L j).1.1 == p && (L j).1.2.1 == nm) = false) → xG K 2 [some (.ref h), some (.ref t), some (.int (nI p)), some (.int (nI i)), none] [] M sz 0 0 := by
    intro m
    induction m with
    | zero =>
      intro i hi hn
      refine xp_iload_3 (pc := 2) hX d_She_find_2 ?_
      refine xp_aload_0 (pc := 3) hX d_She_find_3 ?_
      refine xg_get (pc := 4) hX (j := 1) k_She d_She_find_4 l_She_18 (by decide) (by first | assumption | exact xup_s _ _ _ | exact xup_o (by omega) (by assumption) | exact xup_o (by omega) (xup_s _ _ _) | exact xup_o (by omega) (xup_o (by omega) (by assumption)) | exact xup_o (by omega) (xup_o (by omega) (xup_s _ _ _)) | exact xup_o (by omega) (xup_o (by omega) (xup_o (by omega) (by assumption)))) (by rfl) ?_
      refine xn_icmp_ge (pc := 7) hX 77 d_She_find_7 (by decide) (by omega) (by omega) (fun _ => ?_) (fun q => absurd q (by omega))
      refine xg_null (pc := 77) hX d_She_find_77 ?_
      refine xg_aret (pc := 78) hX hE d_She_find_78 rfl (Or.inl rfl) (by omega) (by omega) ?_
      refine ⟨rfl, none, rfl, ?_, rfl⟩
      have : fIdx L n p nm = none := List.find?_range_eq_none.mpr (fun j hj => by rw [hn j (by omega)]; rfl)
      rw [this]; rfl
    | succ m ih =>
      intro i hi hn
      obtain ⟨e1, e2, e3, -⟩ := h7 i (by omega)
      obtain ⟨r1, r2, -⟩ := id e3
      have e0 : va_rf (f i) = .ref (h + 2 + 5 * g i) := by rw [h4 i (by omega)]; rfl
      refine xp_iload_3 (pc := 2) hX d_She_find_2 ?_
      refine xp_aload_0 (pc := 3) hX d_She_find_3 ?_
      refine xg_get (pc := 4) hX (j := 1) k_She d_She_find_4 l_She_18 (by decide) (by first | assumption | exact xup_s _ _ _ | exact xup_o (by omega) (by assumption) | exact xup_o (by omega) (xup_s _ _ _) | exact xup_o (by omega) (xup_o (by omega) (by assumption)) | exact xup_o (by omega) (xup_o (by omega) (xup_s _ _ _)) | exact xup_o (by omega) (xup_o (by omega) (xup_o (by omega) (by assumption)))) (by rfl) ?_
      refine xn_icmp_ge (pc := 7) hX 77 d_She_find_7 (by decide) (by omega) (by omega) (fun q => absurd q (by omega)) (fun _ => ?_)
      refine xp_iload_3 (pc := 10) hX d_She_find_10 ?_
      refine xp_aload_0 (pc := 11) hX d_She_find_11 ?_
      refine xg_get (pc := 12) hX (j := 0) k_She d_She_find_12 l_She_11 (by decide) (by first | assumption | exact xup_s _ _ _ | exact xup_o (by omega) (by assumption) | exact xup_o (by omega) (xup_s _ _ _) | exact xup_o (by omega) (xup_o (by omega) (by assumption)) | exact xup_o (by omega) (xup_o (by omega) (xup_s _ _ _)) | exact xup_o (by omega) (xup_o (by omega) (xup_o (by omega) (by assumption)))) (by rfl) ?_
      refine xn_alen (pc := 15) hX (t := 2) d_She_find_15 rfl (by first | assumption | exact xup_s _ _ _ | exact xup_o (by omega) (by assumption) | exact xup_o (by omega) (xup_s _ _ _) | exact xup_o (by omega) (xup_o (by omega) (by assumption)) | exact xup_o (by omega) (xup_o (by omega) (xup_s _ _ _)) | exact xup_o (by omega) (xup_o (by omega) (xup_o (by omega) (by assumption)))) ?_
      refine xn_icmp_ge (pc := 16) hX 77 d_She_find_16 (by decide) (by omega) (by decide) (fun q => absurd q (by show ¬ 100 ≤ i; omega)) (fun _ => ?_)
      refine xp_aload_0 (pc := 19) hX d_She_find_19 ?_
      refine xg_get (pc := 20) hX (j := 0) k_She d_She_find_20 l_She_11 (by decide) (by first | assumption | exact xup_s _ _ _ | exact xup_o (by omega) (by assumption) | exact xup_o (by omega) (xup_s _ _ _) | exact xup_o (by omega) (xup_o (by omega) (by assumption)) | exact xup_o (by omega) (xup_o (by omega) (xup_s _ _ _)) | exact xup_o (by omega) (xup_o (by omega) (xup_o (by omega) (by assumption)))) (by rfl) ?_
      refine xp_iload_3 (pc := 23) hX d_She_find_23 ?_
      refine xn_aald (pc := 24) hX (t := 2) d_She_find_24 rfl (by first | assumption | exact xup_s _ _ _ | exact xup_o (by omega) (by assumption) | exact xup_o (by omega) (xup_s _ _ _) | exact xup_o (by omega) (xup_o (by omega) (by assumption)) | exact xup_o (by omega) (xup_o (by omega) (xup_s _ _ _)) | exact xup_o (by omega) (xup_o (by omega) (xup_o (by omega) (by assumption)))) (by omega) (by omega) (by first | assumption | rfl) ?_
      first | refine xp_astore_4 (pc := 25) hX d_She_find_25 (by decide) ?_ | refine xp_astoreN_4 (pc := 25) hX d_She_find_25 (by decide) ?_
      refine xp_aload_4 (pc := 27) hX d_She_find_27 ?_
      refine xg_ifnull (pc := 29) hX d_She_find_29 ?_
      refine xp_aload_4 (pc := 32) hX d_She_find_32 ?_
      refine xg_get (pc := 34) hX (j := 2) k_Ent d_She_find_34 l_She_22 (by decide) (by first | assumption | exact xup_s _ _ _ | exact xup_o (by omega) (by assumption) | exact xup_o (by omega) (xup_s _ _ _) | exact xup_o (by omega) (xup_o (by omega) (by assumption)) | exact xup_o (by omega) (xup_o (by omega) (xup_s _ _ _)) | exact xup_o (by omega) (xup_o (by omega) (xup_o (by omega) (by assumption)))) (by rfl) ?_
      refine xp_iload_2 (pc := 37) hX d_She_find_37 ?_
      have next : ((L i).1.1 == p && (L i).1.2.1 == nm) = false → xG K 71 [some (.ref h), some (.ref t), some (.int (nI p)), some (.int (nI i)), some (.ref (h + 2 + 5 * g i))] [] M sz 0 0 := by
        intro hno
        refine xp_inc_3 (pc := 71) hX d_She_find_71 (by decide) ?_
        refine xg_goto (pc := 74) hX 2 d_She_find_74 (by decide) ?_
        refine xp_drop_4 ?_
        refine ih (i + 1) (by omega) (fun j hj => ?_)
        rcases Nat.lt_or_ge j i with q | q
        · exact hn j q
        · rw [show j = i by omega]; exact hno
      refine xn_icmp_ne (pc := 38) hX 71 d_She_find_38 (by decide) (by omega) (by omega) (fun q => ?_) (fun q => ?_)
      · exact next (by simp [q])
      · refine xp_aload_4 (pc := 41) hX d_She_find_41 ?_
        refine xg_get (pc := 43) hX (j := 0) k_Ent d_She_find_43 l_She_25 (by decide) (by first | assumption | exact xup_s _ _ _ | exact xup_o (by omega) (by assumption) | exact xup_o (by omega) (xup_s _ _ _) | exact xup_o (by omega) (xup_o (by omega) (by assumption)) | exact xup_o (by omega) (xup_o (by omega) (xup_s _ _ _)) | exact xup_o (by omega) (xup_o (by omega) (xup_o (by omega) (by assumption)))) (by rfl) ?_
        refine xg_get (pc := 46) hX (j := 1) k_Row d_She_find_46 l_She_29 (by decide) (by first | assumption | exact xup_s _ _ _ | exact xup_o (by omega) (by assumption) | exact xup_o (by omega) (xup_s _ _ _) | exact xup_o (by omega) (xup_o (by omega) (by assumption)) | exact xup_o (by omega) (xup_o (by omega) (xup_s _ _ _)) | exact xup_o (by omega) (xup_o (by omega) (xup_o (by omega) (by assumption)))) (by rfl) ?_
        refine xp_aload_1 (pc := 49) hX d_She_find_49 ?_
        refine xg_get (pc := 50) hX (j := 1) k_Row d_She_find_50 l_She_29 (by decide) (by first | assumption | exact xup_s _ _ _ | exact xup_o (by omega) (by assumption) | exact xup_o (by omega) (xup_s _ _ _) | exact xup_o (by omega) (xup_o (by omega) (by assumption)) | exact xup_o (by omega) (xup_o (by omega) (xup_s _ _ _)) | exact xup_o (by omega) (xup_o (by omega) (xup_o (by omega) (by assumption)))) (by rfl) ?_
        refine xn_icmp_ne (pc := 53) hX 71 d_She_find_53 (by decide) (by omega) (by omega) (fun q1 => ?_) (fun q1 => ?_)
        · exact next (by
            have : ((L i).1.2.1 == nm) = false := by
              rw [beq_eq_false_iff_ne]
              intro z; rw [z] at q1; exact q1 rfl
            simp [this])
        · refine xp_aload_4 (pc := 56) hX d_She_find_56 ?_
          refine xg_get (pc := 58) hX (j := 0) k_Ent d_She_find_58 l_She_25 (by decide) (by first | assumption | exact xup_s _ _ _ | exact xup_o (by omega) (by assumption) | exact xup_o (by omega) (xup_s _ _ _) | exact xup_o (by omega) (xup_o (by omega) (by assumption)) | exact xup_o (by omega) (xup_o (by omega) (xup_s _ _ _)) | exact xup_o (by omega) (xup_o (by omega) (xup_o (by omega) (by assumption)))) (by rfl) ?_
          refine xp_aload_1 (pc := 61) hX d_She_find_61 ?_
          refine xi_V (Y2 := Y_Row_beginsWith) (pc := 62) hX [_] k_Row m_Row_beginsWith d_She_find_62 l_She_34 rfl rfl (by simp [Value.category]) (by first | assumption | exact xup_s _ _ _ | exact xup_o (by omega) (by assumption) | exact xup_o (by omega) (xup_s _ _ _) | exact xup_o (by omega) (xup_o (by omega) (by assumption)) | exact xup_o (by omega) (xup_o (by omega) (xup_s _ _ _)) | exact xup_o (by omega) (xup_o (by omega) (xup_o (by omega) (by assumption)))) (c_Row_beginsWith d e3 ht (by omega) (by omega)) (by omega) (by omega) ?_
          rintro y M' ⟨rfl, rfl⟩
          rw [pre_eq q1]
          refine xg_if_eq (pc := 65) hX 71 d_She_find_65 (by decide) (fun q2 => ?_) (fun q2 => ?_)
          · exact next (by simp [bI_eq0.mp q2])
          · refine xp_aload_4 (pc := 68) hX d_She_find_68 ?_
            refine xg_aret (pc := 70) hX hE d_She_find_70 rfl (Or.inr ⟨_, rfl⟩) (by omega) (by omega) ?_
            refine ⟨rfl, some _, rfl, ?_, rfl⟩
            have : fIdx L n p nm = some i := List.find?_range_eq_some.mpr ⟨by simp [q, bI_ne0.mp q2], List.mem_range.mpr (by omega), fun j hj => by rw [hn j hj]; rfl⟩
            rw [this]; rfl
  refine xg_iconst (pc := 0) hX (nI 0) d_She_find_0 ci_iconst_0 ?_
  refine xp_istore_3 (pc := 1) hX d_She_find_1 (by decide) ?_
  exact loop n 0 (by omega) (fun j hj => absurd hj (by omega))
end
section
/-! NameRoom$Shelf: sweeping -/
def lst {α : Type} (L : Nat → α) (n : Nat) : List α := (List.range n).map L
theorem lst_0 {α : Type} (L : Nat → α) : lst L 0 = [] := rfl
theorem lst_s {α : Type} (L : Nat → α) (n : Nat) : lst L (n + 1) = lst L n ++ [L n] := by simp [lst, List.range_succ]
theorem lst_len {α : Type} (L : Nat → α) (n : Nat) : (lst L n).length = n := by simp [lst]
theorem lst_at {α : Type} (L : Nat → α) {n j : Nat} (h : j < n) : (lst L n)[j]? = some (L j) := by simp [lst, h]
theorem lst_ext {α : Type} {L L' : Nat → α} {n : Nat} (h : ∀ j, j < n → L j = L' j) : lst L n = lst L' n := by
  unfold lst
  exact List.map_congr_left (fun j hj => h j (List.mem_range.mp hj))
theorem ShR.set {M M' : xH} {h n i : Nat} {g : Nat → Nat} {L : Nat → xEn × Bool} {e' : xEn × Bool} (hs : ShR M h n g L) (hi : i < 100) (hf : FrR M M' (h + 2 + 5 * g i) (h + 2 + 5 * g i + 5)) (he : EnA M' (h + 2 + 5 * g i) e') : ShR M' h n g (fun j => if j = i then e' else L j) := by
  obtain ⟨h1, h2, ⟨f, h3, h4⟩, h5, h6, h7⟩ := hs
  refine ⟨by rw [hf h (by omega)]; exact h1, h2, ⟨f, by rw [hf _ (by omega)]; exact h3, h4⟩, h5, h6, fun j hj => ?_⟩
  by_cases hji : j = i
  · subst hji
    simp only [if_true]
    exact he
  · simp only [if_neg hji]
    refine (h7 j hj).kept (fun q a b => hf q ?_)
    have : g j ≠ g i := fun q => hji (h6 j i hj hi q)
    omega
set_option maxHeartbeats 4000000 in
set_option maxRecDepth 100000 in
theorem c_She_sweep (d : Nat) {M : xH} {sz h n : Nat} {g : Nat → Nat} {L : Nat → xEn × Bool} (hs : ShR M h n g L) : xC d 0 0 Y_She_sweep [.ref h] M sz (qv sz (fun M' => (∃ k g' L', ShR M' h k g' L' ∧ lst L' k = (lst L n).filter (fun e => !e.2)) ∧ Fr2 M M' h)) := by
  refine xC_of (by decide) (Nat.le_of_ble_eq_true rfl) (by simp [Value.category]) (vs := [some (.ref h), none, none, none]) rfl (fun K hX hE => ?_)
  have hn : n ≤ 100 := hs.2.1
  have loop : ∀ (m i k : Nat) (M1 : xH) (g1 : Nat → Nat) (L1 : Nat → xEn × Bool), i + m = n → k ≤ i → ShR M1 h n g1 L1 → (∀ q, q ≠ h + 1 → M1 q = M q) → (∀ j, i ≤ j → L1 j = L j) → lst L1 k = (lst L i).filter (fun e => !e.2) → xG K 4 [some (.ref h), some (.int (nI k)), some (.int (nI i)), none] [] M1 sz 0 0 := by
    intro m
    induction m with
    | zero =>
      intro i k M1 g1 L1 hi hk hs1 hf hL hl
      obtain ⟨h1, h2, ⟨f, h3, h4⟩, h5, h6, h7⟩ := hs1
      refine xp_iload_2 (pc := 4) hX d_She_sweep_4 ?_
      refine xp_aload_0 (pc := 5) hX d_She_sweep_5 ?_
      refine xg_get (pc := 6) hX (j := 1) k_She d_She_sweep_6 l_She_18 (by decide) (by first | assumption | exact xup_s _ _ _ | exact xup_o (by omega) (by assumption) | exact xup_o (by omega) (xup_s _ _ _) | exact xup_o (by omega) (xup_o (by omega) (by assumption)) | exact xup_o (by omega) (xup_o (by omega) (xup_s _ _ _)) | exact xup_o (by omega) (xup_o (by omega) (xup_o (by omega) (by assumption)))) (by rfl) ?_
      refine xn_icmp_ge (pc := 9) hX 67 d_She_sweep_9 (by decide) (by omega) (by omega) (fun _ => ?_) (fun q => absurd q (by omega))
      refine xp_aload_0 (pc := 67) hX d_She_sweep_67 ?_
      refine xp_iload_1 (pc := 68) hX d_She_sweep_68 ?_
      refine xg_put (pc := 69) hX (j := 1) k_She d_She_sweep_69 l_She_18 (by decide) rfl (by first | assumption | exact xup_s _ _ _ | exact xup_o (by omega) (by assumption) | exact xup_o (by omega) (xup_s _ _ _) | exact xup_o (by omega) (xup_o (by omega) (by assumption)) | exact xup_o (by omega) (xup_o (by omega) (xup_s _ _ _)) | exact xup_o (by omega) (xup_o (by omega) (xup_o (by omega) (by assumption)))) (Nat.le_of_ble_eq_true rfl) rfl rfl (by simp only [List.set_cons_zero, List.set_cons_succ]; exact rfl) ?_
      refine xg_vret (pc := 72) hX hE d_She_sweep_72 rfl (by omega) (by omega) ?_
      have hi : i = n := by omega
      subst hi
      refine ⟨rfl, rfl, ⟨k, g1, L1, ⟨xup_s _ _ _, by omega, ⟨f, xup_o (by omega) h3, h4⟩, h5, h6, fun j hj => (h7 j hj).kept (fun q a _ => xup_n _ _ (by omega))⟩, hl⟩, fun q a b => (xup_n _ _ a).trans (hf q b)⟩
    | succ m ih =>
      intro i k M1 g1 L1 hi hk hs1 hf hL hl
      obtain ⟨h1, h2, ⟨f, h3, h4⟩, h5, h6, h7⟩ := id hs1
      obtain ⟨e1, e2, e3, v, e4, e5⟩ := h7 i (by omega)
      obtain ⟨k1, -⟩ := h7 k (by omega)
      have e0 : va_rf (f i) = .ref (h + 2 + 5 * g1 i) := by rw [h4 i (by omega)]; rfl
      have k0 : va_rf (f k) = .ref (h + 2 + 5 * g1 k) := by rw [h4 k (by omega)]; rfl
      refine xp_iload_2 (pc := 4) hX d_She_sweep_4 ?_
      refine xp_aload_0 (pc := 5) hX d_She_sweep_5 ?_
      refine xg_get (pc := 6) hX (j := 1) k_She d_She_sweep_6 l_She_18 (by decide) (by first | assumption | exact xup_s _ _ _ | exact xup_o (by omega) (by assumption) | exact xup_o (by omega) (xup_s _ _ _) | exact xup_o (by omega) (xup_o (by omega) (by assumption)) | exact xup_o (by omega) (xup_o (by omega) (xup_s _ _ _)) | exact xup_o (by omega) (xup_o (by omega) (xup_o (by omega) (by assumption)))) (by rfl) ?_
      refine xn_icmp_ge (pc := 9) hX 67 d_She_sweep_9 (by decide) (by omega) (by omega) (fun q => absurd q (by omega)) (fun _ => ?_)
      refine xp_iload_2 (pc := 12) hX d_She_sweep_12 ?_
      refine xp_aload_0 (pc := 13) hX d_She_sweep_13 ?_
      refine xg_get (pc := 14) hX (j := 0) k_She d_She_sweep_14 l_She_11 (by decide) (by first | assumption | exact xup_s _ _ _ | exact xup_o (by omega) (by assumption) | exact xup_o (by omega) (xup_s _ _ _) | exact xup_o (by omega) (xup_o (by omega) (by assumption)) | exact xup_o (by omega) (xup_o (by omega) (xup_s _ _ _)) | exact xup_o (by omega) (xup_o (by omega) (xup_o (by omega) (by assumption)))) (by rfl) ?_
      refine xn_alen (pc := 17) hX (t := 2) d_She_sweep_17 rfl (by first | assumption | exact xup_s _ _ _ | exact xup_o (by omega) (by assumption) | exact xup_o (by omega) (xup_s _ _ _) | exact xup_o (by omega) (xup_o (by omega) (by assumption)) | exact xup_o (by omega) (xup_o (by omega) (xup_s _ _ _)) | exact xup_o (by omega) (xup_o (by omega) (xup_o (by omega) (by assumption)))) ?_
      refine xn_icmp_ge (pc := 18) hX 67 d_She_sweep_18 (by decide) (by omega) (by decide) (fun q => absurd q (by omega)) (fun _ => ?_)
      refine xp_aload_0 (pc := 21) hX d_She_sweep_21 ?_
      refine xg_get (pc := 22) hX (j := 0) k_She d_She_sweep_22 l_She_11 (by decide) (by first | assumption | exact xup_s _ _ _ | exact xup_o (by omega) (by assumption) | exact xup_o (by omega) (xup_s _ _ _) | exact xup_o (by omega) (xup_o (by omega) (by assumption)) | exact xup_o (by omega) (xup_o (by omega) (xup_s _ _ _)) | exact xup_o (by omega) (xup_o (by omega) (xup_o (by omega) (by assumption)))) (by rfl) ?_
      refine xp_iload_2 (pc := 25) hX d_She_sweep_25 ?_
      refine xn_aald (pc := 26) hX (t := 2) d_She_sweep_26 rfl (by first | assumption | exact xup_s _ _ _ | exact xup_o (by omega) (by assumption) | exact xup_o (by omega) (xup_s _ _ _) | exact xup_o (by omega) (xup_o (by omega) (by assumption)) | exact xup_o (by omega) (xup_o (by omega) (xup_s _ _ _)) | exact xup_o (by omega) (xup_o (by omega) (xup_o (by omega) (by assumption)))) (by omega) (by omega) (by first | assumption | rfl) ?_
      first | refine xp_astore_3 (pc := 27) hX d_She_sweep_27 (by decide) ?_ | refine xp_astoreN_3 (pc := 27) hX d_She_sweep_27 (by decide) ?_
      refine xp_aload_3 (pc := 28) hX d_She_sweep_28 ?_
      refine xg_ifnull (pc := 29) hX d_She_sweep_29 ?_
      refine xp_aload_3 (pc := 32) hX d_She_sweep_32 ?_
      refine xg_get (pc := 33) hX (j := 4) k_Ent d_She_sweep_33 l_She_56 (by decide) (by first | assumption | exact xup_s _ _ _ | exact xup_o (by omega) (by assumption) | exact xup_o (by omega) (xup_s _ _ _) | exact xup_o (by omega) (xup_o (by omega) (by assumption)) | exact xup_o (by omega) (xup_o (by omega) (xup_s _ _ _)) | exact xup_o (by omega) (xup_o (by omega) (xup_o (by omega) (by assumption)))) (by rfl) ?_
      rw [hL i (Nat.le_refl _)]
      refine xg_if_ne (pc := 36) hX 61 d_She_sweep_36 (by decide) (fun q => ?_) (fun q => ?_)
      · refine xp_inc_2 (pc := 61) hX d_She_sweep_61 (by decide) ?_
        refine xg_goto (pc := 64) hX 4 d_She_sweep_64 (by decide) ?_
        refine xp_drop_3 ?_
        refine ih (i + 1) k M1 g1 L1 (by omega) (by omega) hs1 hf (fun j hj => hL j (by omega)) ?_
        rw [lst_s, List.filter_append, hl]
        simp [bI_ne0.mp q]
      · have q := bI_eq0.mp q
        refine xp_aload_0 (pc := 39) hX d_She_sweep_39 ?_
        refine xg_get (pc := 40) hX (j := 0) k_She d_She_sweep_40 l_She_11 (by decide) (by first | assumption | exact xup_s _ _ _ | exact xup_o (by omega) (by assumption) | exact xup_o (by omega) (xup_s _ _ _) | exact xup_o (by omega) (xup_o (by omega) (by assumption)) | exact xup_o (by omega) (xup_o (by omega) (xup_s _ _ _)) | exact xup_o (by omega) (xup_o (by omega) (xup_o (by omega) (by assumption)))) (by rfl) ?_
        refine xp_iload_2 (pc := 43) hX d_She_sweep_43 ?_
        refine xp_aload_0 (pc := 44) hX d_She_sweep_44 ?_
        refine xg_get (pc := 45) hX (j := 0) k_She d_She_sweep_45 l_She_11 (by decide) (by first | assumption | exact xup_s _ _ _ | exact xup_o (by omega) (by assumption) | exact xup_o (by omega) (xup_s _ _ _) | exact xup_o (by omega) (xup_o (by omega) (by assumption)) | exact xup_o (by omega) (xup_o (by omega) (xup_s _ _ _)) | exact xup_o (by omega) (xup_o (by omega) (xup_o (by omega) (by assumption)))) (by rfl) ?_
        refine xp_iload_1 (pc := 48) hX d_She_sweep_48 ?_
        refine xn_aald (pc := 49) hX (t := 2) d_She_sweep_49 rfl (by first | assumption | exact xup_s _ _ _ | exact xup_o (by omega) (by assumption) | exact xup_o (by omega) (xup_s _ _ _) | exact xup_o (by omega) (xup_o (by omega) (by assumption)) | exact xup_o (by omega) (xup_o (by omega) (xup_s _ _ _)) | exact xup_o (by omega) (xup_o (by omega) (xup_o (by omega) (by assumption)))) (by omega) (by omega) (by first | assumption | rfl) ?_
        refine xn_aast (pc := 50) (t := 2) hX k_Ent d_She_sweep_50 rfl h3 k1 (by omega) (by omega) ?_
        refine xp_aload_0 (pc := 51) hX d_She_sweep_51 ?_
        refine xg_get (pc := 52) hX (j := 0) k_She d_She_sweep_52 l_She_11 (by decide) (by first | assumption | exact xup_s _ _ _ | exact xup_o (by omega) (by assumption) | exact xup_o (by omega) (xup_s _ _ _) | exact xup_o (by omega) (xup_o (by omega) (by assumption)) | exact xup_o (by omega) (xup_o (by omega) (xup_s _ _ _)) | exact xup_o (by omega) (xup_o (by omega) (xup_o (by omega) (by assumption)))) (by rfl) ?_
        refine xp_iload_1 (pc := 55) hX d_She_sweep_55 ?_
        refine xp_aload_3 (pc := 56) hX d_She_sweep_56 ?_
        refine xn_aast (pc := 57) (t := 2) hX k_Ent d_She_sweep_57 rfl (xup_s _ _ _) (xup_o (by omega) e1) (by omega) (by omega) ?_
        refine xp_inc_1 (pc := 58) hX d_She_sweep_58 (by decide) ?_
        refine xp_inc_2 (pc := 61) hX d_She_sweep_61 (by decide) ?_
        refine xg_goto (pc := 64) hX 4 d_She_sweep_64 (by decide) ?_
        refine xp_drop_3 ?_
        have hfr : ∀ q, q ≠ h + 1 → (xup (xup M1 (h + 1) (.inl (2, 100, .inr (.inr (.inr (.inr (va_up f i (some (h + 2 + 5 * g1 k))))))))) (h + 1) (.inl (2, 100, .inr (.inr (.inr (.inr (va_up (va_up f i (some (h + 2 + 5 * g1 k))) k (some (h + 2 + 5 * g1 i))))))))) q = M1 q := fun q hq => by rw [xup_n _ _ hq, xup_n _ _ hq]
        refine ih (i + 1) (k + 1) _ (fun j => if j = k then g1 i else if j = i then g1 k else g1 j) (fun j => if j = k then L1 i else if j = i then L1 k else L1 j) (by omega) (by omega) ?_ (fun q hq => (hfr q hq).trans (hf q hq)) ?_ ?_
        · refine ⟨by rw [hfr _ (by omega)]; exact h1, h2, ⟨_, xup_s _ _ _, ?_⟩, ?_, ?_, ?_⟩
          · intro j hj
            unfold va_up
            by_cases c1 : j = k
            · simp [c1]
            · by_cases c2 : j = i
              · subst c2
                simp [c1]
              · simp [c1, c2, h4 j hj]
          · intro j hj
            have a1 := h5 i (by omega)
            have a2 := h5 k (by omega)
            have a3 := h5 j hj
            dsimp only
            split
            · exact a1
            · split
              · exact a2
              · exact a3
          · intro a b ha hb hab
            have z : ∀ x y, x < 100 → y < 100 → g1 x = g1 y → x = y := h6
            dsimp only at hab
            split at hab <;> split at hab <;> (try split at hab) <;> (try split at hab) <;> (have := z _ _ (by omega) (by omega) hab; omega)
          · intro j hj
            have a1 := (h7 i (by omega)).kept (M' := (xup (xup M1 (h + 1) (.inl (2, 100, .inr (.inr (.inr (.inr (va_up f i (some (h + 2 + 5 * g1 k))))))))) (h + 1) (.inl (2, 100, .inr (.inr (.inr (.inr (va_up (va_up f i (some (h + 2 + 5 * g1 k))) k (some (h + 2 + 5 * g1 i)))))))))) (fun q x _ => hfr q (by omega))
            have a2 := (h7 k (by omega)).kept (M' := (xup (xup M1 (h + 1) (.inl (2, 100, .inr (.inr (.inr (.inr (va_up f i (some (h + 2 + 5 * g1 k))))))))) (h + 1) (.inl (2, 100, .inr (.inr (.inr (.inr (va_up (va_up f i (some (h + 2 + 5 * g1 k))) k (some (h + 2 + 5 * g1 i)))))))))) (fun q x _ => hfr q (by omega))
            have a3 := (h7 j hj).kept (M' := (xup (xup M1 (h + 1) (.inl (2, 100, .inr (.inr (.inr (.inr (va_up f i (some (h + 2 + 5 * g1 k))))))))) (h + 1) (.inl (2, 100, .inr (.inr (.inr (.inr (va_up (va_up f i (some (h + 2 + 5 * g1 k))) k (some (h + 2 + 5 * g1 i)))))))))) (fun q x _ => hfr q (by omega))
            by_cases c1 : j = k
            · simp only [c1, if_true]; exact a1
            · by_cases c2 : j = i
              · simp only [if_neg c1, if_pos c2]; exact a2
              · simp only [if_neg c1, if_neg c2]; exact a3
        · intro j hj
          simp only [if_neg (show j ≠ k by omega), if_neg (show j ≠ i by omega)]
          exact hL j (by omega)
        · rw [lst_s, lst_s, List.filter_append, ← hl]
          congr 1
          · exact lst_ext (fun j hj => by simp only [if_neg (show j ≠ k by omega), if_neg (show j ≠ i by omega)])
          · simp [hL i (Nat.le_refl _), q]
  refine xg_iconst (pc := 0) hX (nI 0) d_She_sweep_0 ci_iconst_0 ?_
  refine xp_istore_1 (pc := 1) hX d_She_sweep_1 (by decide) ?_
  refine xg_iconst (pc := 2) hX (nI 0) d_She_sweep_2 ci_iconst_0 ?_
  refine xp_istore_2 (pc := 3) hX d_She_sweep_3 (by decide) ?_
  exact loop n 0 0 M g L (by omega) (Nat.le_refl _) hs (fun _ _ => rfl) (fun _ _ => rfl) rfl
end
section
/-! NameRoom$Shelf: by the list of its entries -/
def ShA (M : xH) (h : Nat) (g : Nat → Nat) (L : Nat → xEn × Bool) (es : List xEn) : Prop := ShR M h es.length g L ∧ ∀ (j : Nat) (e : xEn), es[j]? = some e → L j = (e, false)
theorem ShA.kept {M M' : xH} {h : Nat} {g : Nat → Nat} {L : Nat → xEn × Bool} {es : List xEn} (hs : ShA M h g L es) (hk : ∀ q, h ≤ q → q < h + 502 → M' q = M q) : ShA M' h g L es := ⟨hs.1.kept hk, hs.2⟩
theorem ShA.ls {M : xH} {h : Nat} {g : Nat → Nat} {L : Nat → xEn × Bool} {es : List xEn} (hs : ShA M h g L es) : lst L es.length = es.map (fun e => (e, false)) := by
  apply List.ext_getElem?
  intro j
  by_cases hj : j < es.length
  · rw [lst_at L hj, List.getElem?_map, List.getElem?_eq_getElem hj, hs.2 j _ (List.getElem?_eq_getElem hj)]
    rfl
  · rw [List.getElem?_eq_none (by rw [lst_len]; omega), List.getElem?_eq_none (by simp; omega)]
theorem ShA.of {M : xH} {h n : Nat} {g : Nat → Nat} {L : Nat → xEn × Bool} {es : List xEn} (hs : ShR M h n g L) (hl : lst L n = es.map (fun e => (e, false))) : ShA M h g L es := by
  have hn : n = es.length := by
    have := congrArg List.length hl
    rw [lst_len, List.length_map] at this
    exact this
  subst hn
  refine ⟨hs, fun j e he => ?_⟩
  have hj := (List.getElem?_eq_some_iff.mp he).1
  have h1 := lst_at L hj
  rw [hl, List.getElem?_map, he] at h1
  exact (Option.some.inj h1).symm
/-- the place of a name of a pool among the entries -/
def eIdx (es : List xEn) (p : Nat) (nm : List UInt8) : Option Nat := es.findIdx? (fun e => e.1 == p && e.2.1 == nm)
theorem ShA.fi {M : xH} {h : Nat} {g : Nat → Nat} {L : Nat → xEn × Bool} {es : List xEn} (hs : ShA M h g L es) (p : Nat) (nm : List UInt8) : fIdx L es.length p nm = eIdx es p nm := by
  have key : ∀ j (hj : j < es.length), ((L j).1.1 == p && (L j).1.2.1 == nm) = (es[j].1 == p && es[j].2.1 == nm) := by
    intro j hj
    rw [hs.2 j _ (List.getElem?_eq_getElem hj)]
  cases he : eIdx es p nm with
  | none =>
    unfold eIdx at he
    rw [List.findIdx?_eq_none_iff] at he
    refine List.find?_range_eq_none.mpr (fun j hj => ?_)
    rw [key j hj, he es[j] (List.getElem_mem hj)]
    rfl
  | some i =>
    unfold eIdx at he
    rw [List.findIdx?_eq_some_iff_getElem] at he
    obtain ⟨h1, h2, h3⟩ := he
    refine List.find?_range_eq_some.mpr ⟨by rw [key i h1]; exact h2, List.mem_range.mpr h1, fun j hj => ?_⟩
    rw [key j (by omega), Bool.eq_false_iff.mpr (h3 j hj)]
    rfl
theorem eIdx_lt {es : List xEn} {p i : Nat} {nm : List UInt8} (h : eIdx es p nm = some i) : i < es.length := by
  unfold eIdx at h
  rw [List.findIdx?_eq_some_iff_getElem] at h
  exact h.1
theorem c_She_find' (d : Nat) {M : xH} {sz h t wt p : Nat} {g : Nat → Nat} {L : Nat → xEn × Bool} {es : List xEn} {nm : List UInt8} (hs : ShA M h g L es) (ht : RowAt M t wt nm) (hwt : wt < 1000000) (hp : p < 1000000) : xC (d + 1) 0 0 Y_She_find [.ref h, .ref t, .int (nI p)] M sz (qr sz (fun o M' => o = (eIdx es p nm).map (fun i => h + 2 + 5 * g i) ∧ M' = M)) := by
  have := c_She_find d (sz := sz) hs.1 ht hwt hp
  rw [hs.fi] at this
  exact this
/-- what begins with a stem, and is longer, in a pool -/
def beh (p : Nat) (nm : List UInt8) (e : xEn) : Bool := e.1 == p && decide (nm.length < e.2.1.length) && nm.isPrefixOf e.2.1
theorem flt_map {es : List xEn} (f : xEn → Bool) : ((es.map (fun e => (e, f e))).filter (fun e => !e.2)) = (es.filter (fun e => !f e)).map (fun e => (e, false)) := by
  induction es with
  | nil => rfl
  | cons a l ih =>
    rw [List.map_cons, List.filter_cons, List.filter_cons]
    by_cases h : f a = true
    · simp [h]; exact ih
    · have h : f a = false := by simpa using h
      simp [h]; exact ih
set_option maxHeartbeats 4000000 in
set_option maxRecDepth 100000 in
theorem c_She_clearBehind (d : Nat) {M : xH} {sz h t wt p : Nat} {g : Nat → Nat} {L : Nat → xEn × Bool} {es : List xEn} {nm : List UInt8} (hs : ShA M h g L es) (ht : RowAt M t wt nm) (htd : t + 1 < h ∨ h + 502 ≤ t) (hwt : wt < 1000000) (hp : p < 1000000) : xC (d + 1) 0 0 Y_She_clearBehind [.ref h, .ref t, .int (nI p)] M sz (qv sz (fun M' => (∃ g' L', ShA M' h g' L' (es.filter (fun e => !beh p nm e))) ∧ FrR M M' h (h + 502))) := by
  refine xC_of (by decide) (Nat.le_of_ble_eq_true rfl) (by simp [Value.category]) (vs := [some (.ref h), some (.ref t), some (.int (nI p)), none, none]) rfl (fun K hX hE => ?_)
  have hn : es.length ≤ 100 := hs.1.2.1
  have loop : ∀ (m i : Nat) (M1 : xH) (L1 : Nat → xEn × Bool), i + m = es.length → ShR M1 h es.length g L1 → FrR M M1 h (h + 502) → (∀ j e, es[j]? = some e → L1 j = (e, if j < i then beh p nm e else false)) → xG K 2 [some (.ref h), some (.ref t), some (.int (nI p)), some (.int (nI i)), none] [] M1 sz 0 0 := by
    intro m
    induction m with
    | zero =>
      intro i M1 L1 hi hs1 hf hL
      obtain ⟨h1, h2, ⟨f, h3, h4⟩, h5, h6, h7⟩ := id hs1
      refine xp_iload_3 (pc := 2) hX d_She_clearBehind_2 ?_
      refine xp_aload_0 (pc := 3) hX d_She_clearBehind_3 ?_
      refine xg_get (pc := 4) hX (j := 1) k_She d_She_clearBehind_4 l_She_18 (by decide) (by first | assumption | exact xup_s _ _ _ | exact xup_o (by omega) (by assumption) | exact xup_o (by omega) (xup_s _ _ _) | exact xup_o (by omega) (xup_o (by omega) (by assumption)) | exact xup_o (by omega) (xup_o (by omega) (xup_s _ _ _)) | exact xup_o (by omega) (xup_o (by omega) (xup_o (by omega) (by assumption)))) (by rfl) ?_
      refine xn_icmp_ge (pc := 7) hX 76 d_She_clearBehind_7 (by decide) (by omega) (by omega) (fun _ => ?_) (fun q => absurd q (by omega))
      refine xp_aload_0 (pc := 76) hX d_She_clearBehind_76 ?_
      refine xv_V (Y2 := Y_She_sweep) (pc := 77) hX [] k_She m_She_sweep d_She_clearBehind_77 l_She_59 rfl rfl (by simp [Value.category]) (by first | assumption | exact xup_s _ _ _ | exact xup_o (by omega) (by assumption) | exact xup_o (by omega) (xup_s _ _ _) | exact xup_o (by omega) (xup_o (by omega) (by assumption)) | exact xup_o (by omega) (xup_o (by omega) (xup_s _ _ _)) | exact xup_o (by omega) (xup_o (by omega) (xup_o (by omega) (by assumption)))) (c_She_sweep d hs1) (by omega) (by omega) ?_
      rintro M2 ⟨⟨k, g', L', a1, a2⟩, a3⟩
      refine xg_vret (pc := 80) hX hE d_She_clearBehind_80 rfl (by omega) (by omega) ?_
      refine ⟨rfl, rfl, ⟨g', L', ShA.of a1 ?_⟩, hf.tr (a3.R.wide (Nat.le_refl _) (by omega))⟩
      rw [a2, ← flt_map]
      congr 1
      apply List.ext_getElem?
      intro j
      by_cases hj : j < es.length
      · rw [lst_at L1 hj, List.getElem?_map, List.getElem?_eq_getElem hj, hL j _ (List.getElem?_eq_getElem hj), if_pos (by omega)]
        rfl
      · rw [List.getElem?_eq_none (by rw [lst_len]; omega), List.getElem?_eq_none (by simp; omega)]
    | succ m ih =>
      intro i M1 L1 hi hs1 hf hL
      obtain ⟨h1, h2, ⟨f, h3, h4⟩, h5, h6, h7⟩ := id hs1
      have hie : es[i]? = some (es[i]'(by omega)) := List.getElem?_eq_getElem (by omega)
      have hLi := hL i _ hie
      rw [if_neg (Nat.lt_irrefl _)] at hLi
      generalize es[i]'(by omega) = e at hie hLi
      obtain ⟨e1, e2, e3, v, e4, e5⟩ := h7 i (by omega)
      rw [hLi] at e1 e2 e3 e5
      dsimp only at e1 e2 e3 e5
      have ht1 : RowAt M1 t wt nm := ht.kept (hf _ (by omega)) (hf _ (by omega))
      obtain ⟨t1, t2, -⟩ := id ht1
      obtain ⟨r1, r2, -⟩ := id e3
      have e0 : va_rf (f i) = .ref (h + 2 + 5 * g i) := by rw [h4 i (by omega)]; rfl
      have gi := h5 i (by omega)
      have next : ∀ (M2 : xH) (L2 : Nat → xEn × Bool), ShR M2 h es.length g L2 → FrR M M2 h (h + 502) → (∀ j, j ≠ i → L2 j = L1 j) → L2 i = (e, beh p nm e) → xG K 70 [some (.ref h), some (.ref t), some (.int (nI p)), some (.int (nI i)), some (.ref (h + 2 + 5 * g i))] [] M2 sz 0 0 := by
        intro M2 L2 s2 f2 l2 l3
        refine xp_inc_3 (pc := 70) hX d_She_clearBehind_70 (by decide) ?_
        refine xg_goto (pc := 73) hX 2 d_She_clearBehind_73 (by decide) ?_
        refine xp_drop_4 ?_
        refine ih (i + 1) M2 L2 (by omega) s2 f2 (fun j e' he' => ?_)
        by_cases hj : j = i
        · subst hj
          rw [hie] at he'
          cases he'
          rw [l3, if_pos (by omega)]
        · rw [l2 j hj, hL j e' he']
          by_cases hlt : j < i
          · rw [if_pos hlt, if_pos (by omega)]
          · rw [if_neg hlt, if_neg (by omega)]
      refine xp_iload_3 (pc := 2) hX d_She_clearBehind_2 ?_
      refine xp_aload_0 (pc := 3) hX d_She_clearBehind_3 ?_
      refine xg_get (pc := 4) hX (j := 1) k_She d_She_clearBehind_4 l_She_18 (by decide) (by first | assumption | exact xup_s _ _ _ | exact xup_o (by omega) (by assumption) | exact xup_o (by omega) (xup_s _ _ _) | exact xup_o (by omega) (xup_o (by omega) (by assumption)) | exact xup_o (by omega) (xup_o (by omega) (xup_s _ _ _)) | exact xup_o (by omega) (xup_o (by omega) (xup_o (by omega) (by assumption)))) (by rfl) ?_
      refine xn_icmp_ge (pc := 7) hX 76 d_She_clearBehind_7 (by decide) (by omega) (by omega) (fun q => absurd q (by omega)) (fun _ => ?_)
      refine xp_iload_3 (pc := 10) hX d_She_clearBehind_10 ?_
      refine xp_aload_0 (pc := 11) hX d_She_clearBehind_11 ?_
      refine xg_get (pc := 12) hX (j := 0) k_She d_She_clearBehind_12 l_She_11 (by decide) (by first | assumption | exact xup_s _ _ _ | exact xup_o (by omega) (by assumption) | exact xup_o (by omega) (xup_s _ _ _) | exact xup_o (by omega) (xup_o (by omega) (by assumption)) | exact xup_o (by omega) (xup_o (by omega) (xup_s _ _ _)) | exact xup_o (by omega) (xup_o (by omega) (xup_o (by omega) (by assumption)))) (by rfl) ?_
      refine xn_alen (pc := 15) hX (t := 2) d_She_clearBehind_15 rfl (by first | assumption | exact xup_s _ _ _ | exact xup_o (by omega) (by assumption) | exact xup_o (by omega) (xup_s _ _ _) | exact xup_o (by omega) (xup_o (by omega) (by assumption)) | exact xup_o (by omega) (xup_o (by omega) (xup_s _ _ _)) | exact xup_o (by omega) (xup_o (by omega) (xup_o (by omega) (by assumption)))) ?_
      refine xn_icmp_ge (pc := 16) hX 76 d_She_clearBehind_16 (by decide) (by omega) (by decide) (fun q => absurd q (by omega)) (fun _ => ?_)
      refine xp_aload_0 (pc := 19) hX d_She_clearBehind_19 ?_
      refine xg_get (pc := 20) hX (j := 0) k_She d_She_clearBehind_20 l_She_11 (by decide) (by first | assumption | exact xup_s _ _ _ | exact xup_o (by omega) (by assumption) | exact xup_o (by omega) (xup_s _ _ _) | exact xup_o (by omega) (xup_o (by omega) (by assumption)) | exact xup_o (by omega) (xup_o (by omega) (xup_s _ _ _)) | exact xup_o (by omega) (xup_o (by omega) (xup_o (by omega) (by assumption)))) (by rfl) ?_
      refine xp_iload_3 (pc := 23) hX d_She_clearBehind_23 ?_
      refine xn_aald (pc := 24) hX (t := 2) d_She_clearBehind_24 rfl (by first | assumption | exact xup_s _ _ _ | exact xup_o (by omega) (by assumption) | exact xup_o (by omega) (xup_s _ _ _) | exact xup_o (by omega) (xup_o (by omega) (by assumption)) | exact xup_o (by omega) (xup_o (by omega) (xup_s _ _ _)) | exact xup_o (by omega) (xup_o (by omega) (xup_o (by omega) (by assumption)))) (by omega) (by omega) (by first | assumption | rfl) ?_
      first | refine xp_astore_4 (pc := 25) hX d_She_clearBehind_25 (by decide) ?_ | refine xp_astoreN_4 (pc := 25) hX d_She_clearBehind_25 (by decide) ?_
      refine xp_aload_4 (pc := 27) hX d_She_clearBehind_27 ?_
      refine xg_ifnull (pc := 29) hX d_She_clearBehind_29 ?_
      refine xp_aload_4 (pc := 32) hX d_She_clearBehind_32 ?_
      refine xg_get (pc := 34) hX (j := 2) k_Ent d_She_clearBehind_34 l_She_22 (by decide) (by first | assumption | exact xup_s _ _ _ | exact xup_o (by omega) (by assumption) | exact xup_o (by omega) (xup_s _ _ _) | exact xup_o (by omega) (xup_o (by omega) (by assumption)) | exact xup_o (by omega) (xup_o (by omega) (xup_s _ _ _)) | exact xup_o (by omega) (xup_o (by omega) (xup_o (by omega) (by assumption)))) (by rfl) ?_
      refine xp_iload_2 (pc := 37) hX d_She_clearBehind_37 ?_
      refine xn_icmp_ne (pc := 38) hX 70 d_She_clearBehind_38 (by decide) (by omega) (by omega) (fun q => ?_) (fun q => ?_)
      · exact next M1 L1 hs1 hf (fun _ _ => rfl) (by rw [hLi]; simp [beh, q])
      · refine xp_aload_4 (pc := 41) hX d_She_clearBehind_41 ?_
        refine xg_get (pc := 43) hX (j := 0) k_Ent d_She_clearBehind_43 l_She_25 (by decide) (by first | assumption | exact xup_s _ _ _ | exact xup_o (by omega) (by assumption) | exact xup_o (by omega) (xup_s _ _ _) | exact xup_o (by omega) (xup_o (by omega) (by assumption)) | exact xup_o (by omega) (xup_o (by omega) (xup_s _ _ _)) | exact xup_o (by omega) (xup_o (by omega) (xup_o (by omega) (by assumption)))) (by rfl) ?_
        refine xg_get (pc := 46) hX (j := 1) k_Row d_She_clearBehind_46 l_She_29 (by decide) (by first | assumption | exact xup_s _ _ _ | exact xup_o (by omega) (by assumption) | exact xup_o (by omega) (xup_s _ _ _) | exact xup_o (by omega) (xup_o (by omega) (by assumption)) | exact xup_o (by omega) (xup_o (by omega) (xup_s _ _ _)) | exact xup_o (by omega) (xup_o (by omega) (xup_o (by omega) (by assumption)))) (by rfl) ?_
        refine xp_aload_1 (pc := 49) hX d_She_clearBehind_49 ?_
        refine xg_get (pc := 50) hX (j := 1) k_Row d_She_clearBehind_50 l_She_29 (by decide) (by first | assumption | exact xup_s _ _ _ | exact xup_o (by omega) (by assumption) | exact xup_o (by omega) (xup_s _ _ _) | exact xup_o (by omega) (xup_o (by omega) (by assumption)) | exact xup_o (by omega) (xup_o (by omega) (xup_s _ _ _)) | exact xup_o (by omega) (xup_o (by omega) (xup_o (by omega) (by assumption)))) (by rfl) ?_
        refine xn_icmp_le (pc := 53) hX 70 d_She_clearBehind_53 (by decide) (by omega) (by omega) (fun q1 => ?_) (fun q1 => ?_)
        · exact next M1 L1 hs1 hf (fun _ _ => rfl) (by rw [hLi]; simp [beh]; omega)
        · refine xp_aload_4 (pc := 56) hX d_She_clearBehind_56 ?_
          refine xp_aload_4 (pc := 58) hX d_She_clearBehind_58 ?_
          refine xg_get (pc := 60) hX (j := 0) k_Ent d_She_clearBehind_60 l_She_25 (by decide) (by first | assumption | exact xup_s _ _ _ | exact xup_o (by omega) (by assumption) | exact xup_o (by omega) (xup_s _ _ _) | exact xup_o (by omega) (xup_o (by omega) (by assumption)) | exact xup_o (by omega) (xup_o (by omega) (xup_s _ _ _)) | exact xup_o (by omega) (xup_o (by omega) (xup_o (by omega) (by assumption)))) (by rfl) ?_
          refine xp_aload_1 (pc := 63) hX d_She_clearBehind_63 ?_
          refine xi_V (Y2 := Y_Row_beginsWith) (pc := 64) hX [_] k_Row m_Row_beginsWith d_She_clearBehind_64 l_She_34 rfl rfl (by simp [Value.category]) (by first | assumption | exact xup_s _ _ _ | exact xup_o (by omega) (by assumption) | exact xup_o (by omega) (xup_s _ _ _) | exact xup_o (by omega) (xup_o (by omega) (by assumption)) | exact xup_o (by omega) (xup_o (by omega) (xup_s _ _ _)) | exact xup_o (by omega) (xup_o (by omega) (xup_o (by omega) (by assumption)))) (c_Row_beginsWith d e3 ht1 (by omega) (by omega)) (by omega) (by omega) ?_
          rintro y M' ⟨rfl, rfl⟩
          refine xg_put (pc := 67) hX (j := 4) k_Ent d_She_clearBehind_67 l_She_56 (by decide) rfl e1 (Nat.le_of_ble_eq_true rfl) (by show narrow .boolean _ = _; cases List.isPrefixOf nm e.2.1 <;> rfl) (by show fits .boolean _ = _; cases List.isPrefixOf nm e.2.1 <;> rfl) (by simp only [List.set_cons_zero, List.set_cons_succ]; exact rfl) ?_
          have hfr : FrR M' (xup M' (h + 2 + 5 * g i) (.inr (1, [.ref (h + 2 + 5 * g i + 1), .ref (h + 2 + 5 * g i + 3), .int (nI e.1), .int (bI e.2.2.isNone), .int (bI (nm.isPrefixOf e.2.1))]))) (h + 2 + 5 * g i) (h + 2 + 5 * g i + 5) := xup_R _ _ (by omega) (by omega)
          refine next _ _ (hs1.set (i := i) (e' := (e, nm.isPrefixOf e.2.1)) (by omega) hfr ⟨xup_s _ _ _, e2, e3.kept (xup_n _ _ (by omega)) (xup_n _ _ (by omega)), v, e4.kept (xup_n _ _ (by omega)) (xup_n _ _ (by omega)), e5⟩) (hf.tr (hfr.wide (by omega) (by omega))) (fun j hj => by simp only [if_neg hj]) ?_
          simp only [if_true]
          simp [beh, q, q1]
  refine xg_iconst (pc := 0) hX (nI 0) d_She_clearBehind_0 ci_iconst_0 ?_
  refine xp_istore_3 (pc := 1) hX d_She_clearBehind_1 (by decide) ?_
  refine loop es.length 0 M L (by omega) hs.1 (FrR.rf M _ _) (fun j e he => ?_)
  rw [hs.2 j e he, if_neg (by omega)]
end
section
/-! NameRoom$Shelf: the rest -/
def rIx (n : Nat) (x : Int32) : Option Nat := if x < 0 then none else if x.toNatClampNeg < n then some x.toNatClampNeg else none
theorem rIx_nI {n i : Nat} (h : i < 2147483648) : rIx n (nI i) = if i < n then some i else none := by
  unfold rIx
  rw [if_neg (nI_pos h), nI_clamp h]
set_option maxHeartbeats 4000000 in
set_option maxRecDepth 100000 in
theorem c_She_entryAt (d : Nat) {M : xH} {sz h n : Nat} {g : Nat → Nat} {L : Nat → xEn × Bool} (x : Int32) (hs : ShR M h n g L) : xC d 0 0 Y_She_entryAt [.ref h, .int x] M sz (qr sz (fun o M' => o = (rIx n x).map (fun i => h + 2 + 5 * g i) ∧ M' = M)) := by
  refine xC_of (by decide) (Nat.le_of_ble_eq_true rfl) (by simp [Value.category]) (vs := [some (.ref h), some (.int x)]) rfl (fun K hX hE => ?_)
  obtain ⟨h1, h2, ⟨f, h3, h4⟩, h5, h6, h7⟩ := hs
  have k30 : ∀ vs, rIx n x = none → xG K 30 vs [] M sz 0 0 := by
    intro vs hv
    refine xg_null (pc := 30) hX d_She_entryAt_30 ?_
    refine xg_aret (pc := 31) hX hE d_She_entryAt_31 rfl (Or.inl rfl) (by omega) (by omega) ?_
    exact ⟨rfl, none, rfl, by rw [hv]; rfl, rfl⟩
  by_cases hx : x < 0
  · refine xp_iload_1 (pc := 0) hX d_She_entryAt_0 ?_
    refine xg_if_lt (pc := 1) hX 30 d_She_entryAt_1 (by decide) (fun _ => k30 _ (by unfold rIx; rw [if_pos hx])) (fun q => absurd hx q)
  · obtain ⟨i, hi, rfl⟩ := nI_of hx
    have hi : i < 2147483648 := hi
    rw [rIx_nI hi] at *
    refine xp_iload_1 (pc := 0) hX d_She_entryAt_0 ?_
    refine xn_if_lt (pc := 1) hX 30 d_She_entryAt_1 (by decide) hi ?_
    refine xp_iload_1 (pc := 4) hX d_She_entryAt_4 ?_
    refine xp_aload_0 (pc := 5) hX d_She_entryAt_5 ?_
    refine xg_get (pc := 6) hX (j := 1) k_She d_She_entryAt_6 l_She_18 (by decide) (by first | assumption | exact xup_s _ _ _ | exact xup_o (by omega) (by assumption) | exact xup_o (by omega) (xup_s _ _ _) | exact xup_o (by omega) (xup_o (by omega) (by assumption)) | exact xup_o (by omega) (xup_o (by omega) (xup_s _ _ _)) | exact xup_o (by omega) (xup_o (by omega) (xup_o (by omega) (by assumption)))) (by rfl) ?_
    refine xn_icmp_ge (pc := 9) hX 30 d_She_entryAt_9 (by decide) (by omega) (by omega) (fun q => k30 _ (by rw [if_neg (by omega)])) (fun q => ?_)
    refine xp_iload_1 (pc := 12) hX d_She_entryAt_12 ?_
    refine xp_aload_0 (pc := 13) hX d_She_entryAt_13 ?_
    refine xg_get (pc := 14) hX (j := 0) k_She d_She_entryAt_14 l_She_11 (by decide) (by first | assumption | exact xup_s _ _ _ | exact xup_o (by omega) (by assumption) | exact xup_o (by omega) (xup_s _ _ _) | exact xup_o (by omega) (xup_o (by omega) (by assumption)) | exact xup_o (by omega) (xup_o (by omega) (xup_s _ _ _)) | exact xup_o (by omega) (xup_o (by omega) (xup_o (by omega) (by assumption)))) (by rfl) ?_
    refine xn_alen (pc := 17) hX (t := 2) d_She_entryAt_17 rfl (by first | assumption | exact xup_s _ _ _ | exact xup_o (by omega) (by assumption) | exact xup_o (by omega) (xup_s _ _ _) | exact xup_o (by omega) (xup_o (by omega) (by assumption)) | exact xup_o (by omega) (xup_o (by omega) (xup_s _ _ _)) | exact xup_o (by omega) (xup_o (by omega) (xup_o (by omega) (by assumption)))) ?_
    refine xn_icmp_ge (pc := 18) hX 30 d_She_entryAt_18 (by decide) (by omega) (by decide) (fun q => absurd q (by omega)) (fun _ => ?_)
    have e0 : va_rf (f i) = .ref (h + 2 + 5 * g i) := by rw [h4 i (by omega)]; rfl
    refine xp_aload_0 (pc := 21) hX d_She_entryAt_21 ?_
    refine xg_get (pc := 22) hX (j := 0) k_She d_She_entryAt_22 l_She_11 (by decide) (by first | assumption | exact xup_s _ _ _ | exact xup_o (by omega) (by assumption) | exact xup_o (by omega) (xup_s _ _ _) | exact xup_o (by omega) (xup_o (by omega) (by assumption)) | exact xup_o (by omega) (xup_o (by omega) (xup_s _ _ _)) | exact xup_o (by omega) (xup_o (by omega) (xup_o (by omega) (by assumption)))) (by rfl) ?_
    refine xp_iload_1 (pc := 25) hX d_She_entryAt_25 ?_
    refine xn_aald (pc := 26) hX (t := 2) d_She_entryAt_26 rfl (by first | assumption | exact xup_s _ _ _ | exact xup_o (by omega) (by assumption) | exact xup_o (by omega) (xup_s _ _ _) | exact xup_o (by omega) (xup_o (by omega) (by assumption)) | exact xup_o (by omega) (xup_o (by omega) (xup_s _ _ _)) | exact xup_o (by omega) (xup_o (by omega) (xup_o (by omega) (by assumption)))) (by omega) (by omega) (by first | assumption | rfl) ?_
    refine xg_goto (pc := 27) hX 31 d_She_entryAt_27 (by decide) ?_
    refine xg_aret (pc := 31) hX hE d_She_entryAt_31 rfl (Or.inr ⟨_, rfl⟩) (by omega) (by omega) ?_
    exact ⟨rfl, some _, rfl, by rw [if_pos q]; rfl, rfl⟩
set_option maxHeartbeats 4000000 in
set_option maxRecDepth 100000 in
theorem c_She_clearPool (d : Nat) {M : xH} {sz h p : Nat} {g : Nat → Nat} {L : Nat → xEn × Bool} {es : List xEn} (hs : ShA M h g L es) (hp : p < 1000000) : xC (d + 1) 0 0 Y_She_clearPool [.ref h, .int (nI p)] M sz (qv sz (fun M' => (∃ g' L', ShA M' h g' L' (es.filter (fun e => !(e.1 == p)))) ∧ FrR M M' h (h + 502))) := by
  refine xC_of (by decide) (Nat.le_of_ble_eq_true rfl) (by simp [Value.category]) (vs := [some (.ref h), some (.int (nI p)), none, none]) rfl (fun K hX hE => ?_)
  have hn : es.length ≤ 100 := hs.1.2.1
  have loop : ∀ (m i : Nat) (M1 : xH) (L1 : Nat → xEn × Bool), i + m = es.length → ShR M1 h es.length g L1 → FrR M M1 h (h + 502) → (∀ j e, es[j]? = some e → L1 j = (e, if j < i then e.1 == p else false)) → xG K 2 [some (.ref h), some (.int (nI p)), some (.int (nI i)), none] [] M1 sz 0 0 := by
    intro m
    induction m with
    | zero =>
      intro i M1 L1 hi hs1 hf hL
      obtain ⟨h1, h2, ⟨f, h3, h4⟩, h5, h6, h7⟩ := id hs1
      refine xp_iload_2 (pc := 2) hX d_She_clearPool_2 ?_
      refine xp_aload_0 (pc := 3) hX d_She_clearPool_3 ?_
      refine xg_get (pc := 4) hX (j := 1) k_She d_She_clearPool_4 l_She_18 (by decide) (by first | assumption | exact xup_s _ _ _ | exact xup_o (by omega) (by assumption) | exact xup_o (by omega) (xup_s _ _ _) | exact xup_o (by omega) (xup_o (by omega) (by assumption)) | exact xup_o (by omega) (xup_o (by omega) (xup_s _ _ _)) | exact xup_o (by omega) (xup_o (by omega) (xup_o (by omega) (by assumption)))) (by rfl) ?_
      refine xn_icmp_ge (pc := 7) hX 49 d_She_clearPool_7 (by decide) (by omega) (by omega) (fun _ => ?_) (fun q => absurd q (by omega))
      refine xp_aload_0 (pc := 49) hX d_She_clearPool_49 ?_
      refine xv_V (Y2 := Y_She_sweep) (pc := 50) hX [] k_She m_She_sweep d_She_clearPool_50 l_She_59 rfl rfl (by simp [Value.category]) (by first | assumption | exact xup_s _ _ _ | exact xup_o (by omega) (by assumption) | exact xup_o (by omega) (xup_s _ _ _) | exact xup_o (by omega) (xup_o (by omega) (by assumption)) | exact xup_o (by omega) (xup_o (by omega) (xup_s _ _ _)) | exact xup_o (by omega) (xup_o (by omega) (xup_o (by omega) (by assumption)))) (c_She_sweep d hs1) (by omega) (by omega) ?_
      rintro M2 ⟨⟨k, g', L', a1, a2⟩, a3⟩
      refine xg_vret (pc := 53) hX hE d_She_clearPool_53 rfl (by omega) (by omega) ?_
      refine ⟨rfl, rfl, ⟨g', L', ShA.of a1 ?_⟩, hf.tr (a3.R.wide (Nat.le_refl _) (by omega))⟩
      rw [a2, ← flt_map (fun e => e.1 == p)]
      congr 1
      apply List.ext_getElem?
      intro j
      by_cases hj : j < es.length
      · rw [lst_at L1 hj, List.getElem?_map, List.getElem?_eq_getElem hj, hL j _ (List.getElem?_eq_getElem hj), if_pos (by omega)]
        rfl
      · rw [List.getElem?_eq_none (by rw [lst_len]; omega), List.getElem?_eq_none (by simp; omega)]
    | succ m ih =>
      intro i M1 L1 hi hs1 hf hL
      obtain ⟨h1, h2, ⟨f, h3, h4⟩, h5, h6, h7⟩ := id hs1
      have hie : es[i]? = some (es[i]'(by omega)) := List.getElem?_eq_getElem (by omega)
      have hLi := hL i _ hie
      rw [if_neg (Nat.lt_irrefl _)] at hLi
      generalize es[i]'(by omega) = e at hie hLi
      obtain ⟨e1, e2, e3, v, e4, e5⟩ := h7 i (by omega)
      rw [hLi] at e1 e2 e3 e5
      dsimp only at e1 e2 e3 e5
      have e0 : va_rf (f i) = .ref (h + 2 + 5 * g i) := by rw [h4 i (by omega)]; rfl
      have gi := h5 i (by omega)
      have next : ∀ (M2 : xH) (L2 : Nat → xEn × Bool), ShR M2 h es.length g L2 → FrR M M2 h (h + 502) → (∀ j, j ≠ i → L2 j = L1 j) → L2 i = (e, e.1 == p) → xG K 43 [some (.ref h), some (.int (nI p)), some (.int (nI i)), some (.ref (h + 2 + 5 * g i))] [] M2 sz 0 0 := by
        intro M2 L2 s2 f2 l2 l3
        refine xp_inc_2 (pc := 43) hX d_She_clearPool_43 (by decide) ?_
        refine xg_goto (pc := 46) hX 2 d_She_clearPool_46 (by decide) ?_
        refine xp_drop_3 ?_
        refine ih (i + 1) M2 L2 (by omega) s2 f2 (fun j e' he' => ?_)
        by_cases hj : j = i
        · subst hj
          rw [hie] at he'
          cases he'
          rw [l3, if_pos (by omega)]
        · rw [l2 j hj, hL j e' he']
          by_cases hlt : j < i
          · rw [if_pos hlt, if_pos (by omega)]
          · rw [if_neg hlt, if_neg (by omega)]
      refine xp_iload_2 (pc := 2) hX d_She_clearPool_2 ?_
      refine xp_aload_0 (pc := 3) hX d_She_clearPool_3 ?_
      refine xg_get (pc := 4) hX (j := 1) k_She d_She_clearPool_4 l_She_18 (by decide) (by first | assumption | exact xup_s _ _ _ | exact xup_o (by omega) (by assumption) | exact xup_o (by omega) (xup_s _ _ _) | exact xup_o (by omega) (xup_o (by omega) (by assumption)) | exact xup_o (by omega) (xup_o (by omega) (xup_s _ _ _)) | exact xup_o (by omega) (xup_o (by omega) (xup_o (by omega) (by assumption)))) (by rfl) ?_
      refine xn_icmp_ge (pc := 7) hX 49 d_She_clearPool_7 (by decide) (by omega) (by omega) (fun q => absurd q (by omega)) (fun _ => ?_)
      refine xp_iload_2 (pc := 10) hX d_She_clearPool_10 ?_
      refine xp_aload_0 (pc := 11) hX d_She_clearPool_11 ?_
      refine xg_get (pc := 12) hX (j := 0) k_She d_She_clearPool_12 l_She_11 (by decide) (by first | assumption | exact xup_s _ _ _ | exact xup_o (by omega) (by assumption) | exact xup_o (by omega) (xup_s _ _ _) | exact xup_o (by omega) (xup_o (by omega) (by assumption)) | exact xup_o (by omega) (xup_o (by omega) (xup_s _ _ _)) | exact xup_o (by omega) (xup_o (by omega) (xup_o (by omega) (by assumption)))) (by rfl) ?_
      refine xn_alen (pc := 15) hX (t := 2) d_She_clearPool_15 rfl (by first | assumption | exact xup_s _ _ _ | exact xup_o (by omega) (by assumption) | exact xup_o (by omega) (xup_s _ _ _) | exact xup_o (by omega) (xup_o (by omega) (by assumption)) | exact xup_o (by omega) (xup_o (by omega) (xup_s _ _ _)) | exact xup_o (by omega) (xup_o (by omega) (xup_o (by omega) (by assumption)))) ?_
      refine xn_icmp_ge (pc := 16) hX 49 d_She_clearPool_16 (by decide) (by omega) (by decide) (fun q => absurd q (by omega)) (fun _ => ?_)
      refine xp_aload_0 (pc := 19) hX d_She_clearPool_19 ?_
      refine xg_get (pc := 20) hX (j := 0) k_She d_She_clearPool_20 l_She_11 (by decide) (by first | assumption | exact xup_s _ _ _ | exact xup_o (by omega) (by assumption) | exact xup_o (by omega) (xup_s _ _ _) | exact xup_o (by omega) (xup_o (by omega) (by assumption)) | exact xup_o (by omega) (xup_o (by omega) (xup_s _ _ _)) | exact xup_o (by omega) (xup_o (by omega) (xup_o (by omega) (by assumption)))) (by rfl) ?_
      refine xp_iload_2 (pc := 23) hX d_She_clearPool_23 ?_
      refine xn_aald (pc := 24) hX (t := 2) d_She_clearPool_24 rfl (by first | assumption | exact xup_s _ _ _ | exact xup_o (by omega) (by assumption) | exact xup_o (by omega) (xup_s _ _ _) | exact xup_o (by omega) (xup_o (by omega) (by assumption)) | exact xup_o (by omega) (xup_o (by omega) (xup_s _ _ _)) | exact xup_o (by omega) (xup_o (by omega) (xup_o (by omega) (by assumption)))) (by omega) (by omega) (by first | assumption | rfl) ?_
      first | refine xp_astore_3 (pc := 25) hX d_She_clearPool_25 (by decide) ?_ | refine xp_astoreN_3 (pc := 25) hX d_She_clearPool_25 (by decide) ?_
      refine xp_aload_3 (pc := 26) hX d_She_clearPool_26 ?_
      refine xg_ifnull (pc := 27) hX d_She_clearPool_27 ?_
      refine xp_aload_3 (pc := 30) hX d_She_clearPool_30 ?_
      refine xg_get (pc := 31) hX (j := 2) k_Ent d_She_clearPool_31 l_She_22 (by decide) (by first | assumption | exact xup_s _ _ _ | exact xup_o (by omega) (by assumption) | exact xup_o (by omega) (xup_s _ _ _) | exact xup_o (by omega) (xup_o (by omega) (by assumption)) | exact xup_o (by omega) (xup_o (by omega) (xup_s _ _ _)) | exact xup_o (by omega) (xup_o (by omega) (xup_o (by omega) (by assumption)))) (by rfl) ?_
      refine xp_iload_1 (pc := 34) hX d_She_clearPool_34 ?_
      refine xn_icmp_ne (pc := 35) hX 43 d_She_clearPool_35 (by decide) (by omega) (by omega) (fun q => ?_) (fun q => ?_)
      · exact next M1 L1 hs1 hf (fun _ _ => rfl) (by rw [hLi]; simp [q])
      · refine xp_aload_3 (pc := 38) hX d_She_clearPool_38 ?_
        refine xg_iconst (pc := 39) hX (nI 1) d_She_clearPool_39 ci_iconst_1 ?_
        refine xg_put (pc := 40) hX (j := 4) k_Ent d_She_clearPool_40 l_She_56 (by decide) rfl (by first | assumption | exact xup_s _ _ _ | exact xup_o (by omega) (by assumption) | exact xup_o (by omega) (xup_s _ _ _) | exact xup_o (by omega) (xup_o (by omega) (by assumption)) | exact xup_o (by omega) (xup_o (by omega) (xup_s _ _ _)) | exact xup_o (by omega) (xup_o (by omega) (xup_o (by omega) (by assumption)))) (Nat.le_of_ble_eq_true rfl) (by first | rfl | decide) (by first | rfl | decide) (by simp only [List.set_cons_zero, List.set_cons_succ]; exact rfl) ?_
        have hfr : FrR M1 (xup M1 (h + 2 + 5 * g i) (.inr (1, [.ref (h + 2 + 5 * g i + 1), .ref (h + 2 + 5 * g i + 3), .int (nI e.1), .int (bI e.2.2.isNone), .int (nI 1)]))) (h + 2 + 5 * g i) (h + 2 + 5 * g i + 5) := xup_R _ _ (by omega) (by omega)
        refine next _ _ (hs1.set (i := i) (e' := (e, true)) (by omega) hfr ⟨xup_s _ _ _, e2, e3.kept (xup_n _ _ (by omega)) (xup_n _ _ (by omega)), v, e4.kept (xup_n _ _ (by omega)) (xup_n _ _ (by omega)), e5⟩) (hf.tr (hfr.wide (by omega) (by omega))) (fun j hj => by simp only [if_neg hj]) ?_
        simp only [if_true]
        simp [q]
  refine xg_iconst (pc := 0) hX (nI 0) d_She_clearPool_0 ci_iconst_0 ?_
  refine xp_istore_2 (pc := 1) hX d_She_clearPool_1 (by decide) ?_
  refine loop es.length 0 M L (by omega) hs.1 (FrR.rf M _ _) (fun j e he => ?_)
  rw [hs.2 j e he, if_neg (by omega)]
theorem ers {es : List xEn} : ∀ (i k : Nat), ((es.mapIdx (fun j e => (e, j + k == i + k))).filter (fun e => !e.2)) = (es.eraseIdx i).map (fun e => (e, false)) := by
  induction es with
  | nil => intro i k; simp
  | cons a l ih =>
    intro i k
    rw [List.mapIdx_cons]
    cases i with
    | zero =>
      simp only [Nat.zero_add, beq_self_eq_true, List.filter_cons, Bool.not_true, List.eraseIdx_cons_zero]
      have h0 := flt_map (es := l) (fun _ => false)
      simp at h0 ⊢
      rw [List.filter_eq_self.mpr]
      · apply List.ext_getElem?
        intro j
        simp [List.getElem?_mapIdx]
        cases l[j]? <;> simp
      · intro x hx
        rw [List.mem_mapIdx] at hx
        obtain ⟨j, hj, rfl⟩ := hx
        simp
    | succ i =>
      have h1 := ih i (k + 1)
      simp only [List.filter_cons, List.eraseIdx_cons_succ, List.map_cons]
      have h2 : (0 + k == i + 1 + k) = false := by simp
      rw [h2]
      simp only [Bool.not_false, if_true]
      congr 1
      rw [← h1]
      congr 1
      apply List.ext_getElem?
      intro j
      simp only [List.getElem?_mapIdx]
      cases l[j]? with
      | none => rfl
      | some e =>
        simp only [Option.map_some]
        rw [show j + 1 + k = j + (k + 1) by omega, show i + 1 + k = i + (k + 1) by omega]
set_option maxHeartbeats 4000000 in
set_option maxRecDepth 100000 in
theorem c_She_remove (d : Nat) {M : xH} {sz h t wt p : Nat} {g : Nat → Nat} {L : Nat → xEn × Bool} {es : List xEn} {nm : List UInt8} (hs : ShA M h g L es) (ht : RowAt M t wt nm) (hwt : wt < 1000000) (hp : p < 1000000) : xC (d + 2) 0 0 Y_She_remove [.ref h, .ref t, .int (nI p)] M sz (qv sz (fun M' => (∃ g' L', ShA M' h g' L' (match eIdx es p nm with | none => es | some i => es.eraseIdx i)) ∧ FrR M M' h (h + 502))) := by
  refine xC_of (by decide) (Nat.le_of_ble_eq_true rfl) (by simp [Value.category]) (vs := [some (.ref h), some (.ref t), some (.int (nI p)), none]) rfl (fun K hX hE => ?_)
  have hn : es.length ≤ 100 := hs.1.2.1
  obtain ⟨h1, h2, ⟨f, h3, h4⟩, h5, h6, h7⟩ := id hs.1
  refine xp_aload_0 (pc := 0) hX d_She_remove_0 ?_
  refine xp_aload_1 (pc := 1) hX d_She_remove_1 ?_
  refine xp_iload_2 (pc := 2) hX d_She_remove_2 ?_
  refine xr_V (Y2 := Y_She_find) (pc := 3) hX [_, _] k_She m_She_find d_She_remove_3 l_She_38 rfl rfl (by simp [Value.category]) (by first | assumption | exact xup_s _ _ _ | exact xup_o (by omega) (by assumption) | exact xup_o (by omega) (xup_s _ _ _) | exact xup_o (by omega) (xup_o (by omega) (by assumption)) | exact xup_o (by omega) (xup_o (by omega) (xup_s _ _ _)) | exact xup_o (by omega) (xup_o (by omega) (xup_o (by omega) (by assumption)))) (c_She_find' d hs ht hwt hp) (by omega) (by omega) ?_
  rintro o M' ⟨rfl, rfl⟩
  cases he : eIdx es p nm with
  | none =>
    refine xp_astoreN_3 (pc := 6) hX d_She_remove_6 (by decide) ?_
    refine xp_aloadN_3 (pc := 7) hX d_She_remove_7 ?_
    refine xg_ifnullN (pc := 8) hX 20 d_She_remove_8 (by decide) ?_
    refine xg_vret (pc := 20) hX hE d_She_remove_20 rfl (by omega) (by omega) ?_
    refine ⟨rfl, rfl, ⟨g, L, ?_⟩, FrR.rf _ _ _⟩
    rw [he]; exact hs
  | some i =>
    have hi := eIdx_lt he
    have hie : es[i]? = some es[i] := List.getElem?_eq_getElem hi
    have hLi := hs.2 i _ hie
    generalize es[i] = e at hie hLi
    obtain ⟨e1, e2, e3, v, e4, e5⟩ := h7 i (by omega)
    rw [hLi] at e1 e2 e3 e5
    dsimp only at e1 e2 e3 e5
    have gi := h5 i (by omega)
    refine xp_astore_3 (x := h + 2 + 5 * g i) (pc := 6) hX d_She_remove_6 (by decide) ?_
    refine xp_aload_3 (pc := 7) hX d_She_remove_7 ?_
    refine xg_ifnull (pc := 8) hX d_She_remove_8 ?_
    refine xp_aload_3 (pc := 11) hX d_She_remove_11 ?_
    refine xg_iconst (pc := 12) hX (nI 1) d_She_remove_12 ci_iconst_1 ?_
    refine xg_put (pc := 13) hX (j := 4) k_Ent d_She_remove_13 l_She_56 (by decide) rfl (by first | assumption | exact xup_s _ _ _ | exact xup_o (by omega) (by assumption) | exact xup_o (by omega) (xup_s _ _ _) | exact xup_o (by omega) (xup_o (by omega) (by assumption)) | exact xup_o (by omega) (xup_o (by omega) (xup_s _ _ _)) | exact xup_o (by omega) (xup_o (by omega) (xup_o (by omega) (by assumption)))) (Nat.le_of_ble_eq_true rfl) (by first | rfl | decide) (by first | rfl | decide) (by simp only [List.set_cons_zero, List.set_cons_succ]; exact rfl) ?_
    refine xp_aload_0 (pc := 16) hX d_She_remove_16 ?_
    have hfr : FrR M' (xup M' (h + 2 + 5 * g i) (.inr (1, [.ref (h + 2 + 5 * g i + 1), .ref (h + 2 + 5 * g i + 3), .int (nI e.1), .int (bI e.2.2.isNone), .int (nI 1)]))) (h + 2 + 5 * g i) (h + 2 + 5 * g i + 5) := xup_R _ _ (by omega) (by omega)
    have hs2 := hs.1.set (i := i) (e' := (e, true)) (by omega) hfr ⟨xup_s _ _ _, e2, e3.kept (xup_n _ _ (by omega)) (xup_n _ _ (by omega)), v, e4.kept (xup_n _ _ (by omega)) (xup_n _ _ (by omega)), e5⟩
    refine xv_V (Y2 := Y_She_sweep) (pc := 17) hX [] k_She m_She_sweep d_She_remove_17 l_She_59 rfl rfl (by simp [Value.category]) (by first | assumption | exact xup_s _ _ _ | exact xup_o (by omega) (by assumption) | exact xup_o (by omega) (xup_s _ _ _) | exact xup_o (by omega) (xup_o (by omega) (by assumption)) | exact xup_o (by omega) (xup_o (by omega) (xup_s _ _ _)) | exact xup_o (by omega) (xup_o (by omega) (xup_o (by omega) (by assumption)))) (c_She_sweep (d + 1) hs2) (by omega) (by omega) ?_
    rintro M2 ⟨⟨k, g', L', a1, a2⟩, a3⟩
    refine xg_vret (pc := 20) hX hE d_She_remove_20 rfl (by omega) (by omega) ?_
    refine ⟨rfl, rfl, ⟨g', L', ?_⟩, (hfr.wide (by omega) (by omega)).tr (a3.R.wide (Nat.le_refl _) (by omega))⟩
    rw [he]
    refine ShA.of a1 ?_
    rw [a2]
    have h9 := ers (es := es) i 0
    rw [← h9]
    congr 1
    apply List.ext_getElem?
    intro j
    by_cases hj : j < es.length
    · rw [lst_at _ hj, List.getElem?_mapIdx, List.getElem?_eq_getElem hj]
      by_cases hji : j = i
      · subst hji
        rw [List.getElem?_eq_getElem hj] at hie
        cases hie
        simp
      · simp [hji, hs.2 j _ (List.getElem?_eq_getElem hj)]
    · rw [List.getElem?_eq_none (by rw [lst_len]; omega), List.getElem?_eq_none (by simp; omega)]
end
section
/-! NameRoom$Shelf: a place for a name -/
set_option maxHeartbeats 4000000 in
set_option maxRecDepth 100000 in
theorem c_She_findOrAdd (d : Nat) {M : xH} {sz h t wt p : Nat} {g : Nat → Nat} {L : Nat → xEn × Bool} {es : List xEn} {nm : List UInt8} (hs : ShA M h g L es) (ht : RowAt M t wt nm) (htd : t + 1 < h ∨ h + 502 ≤ t) (hnm : nm.length ≤ 200) (hwt : wt < 1000000) (hp : p < 1000) : xC (d + 3) 0 0 Y_She_findOrAdd [.ref h, .ref t, .int (nI p)] M sz (qr sz (fun o M' => (∃ i, eIdx es p nm = some i ∧ o = some (h + 2 + 5 * g i) ∧ M' = M) ∨ (eIdx es p nm = none ∧ es.length < 100 ∧ o = some (h + 2 + 5 * g es.length) ∧ (∃ L', ShA M' h g L' (es ++ [(p, nm, some [])])) ∧ FrR M M' h (h + 502)) ∨ (eIdx es p nm = none ∧ 100 ≤ es.length ∧ o = none ∧ M' = M))) := by
  refine xC_of (by decide) (Nat.le_of_ble_eq_true rfl) (by simp [Value.category]) (vs := [some (.ref h), some (.ref t), some (.int (nI p)), none, none]) rfl (fun K hX hE => ?_)
  have hn : es.length ≤ 100 := hs.1.2.1
  obtain ⟨h1, h2, ⟨f, h3, h4⟩, h5, h6, h7⟩ := id hs.1
  refine xp_aload_0 (pc := 0) hX d_She_findOrAdd_0 ?_
  refine xp_aload_1 (pc := 1) hX d_She_findOrAdd_1 ?_
  refine xp_iload_2 (pc := 2) hX d_She_findOrAdd_2 ?_
  refine xr_V (Y2 := Y_She_find) (pc := 3) hX [_, _] k_She m_She_find d_She_findOrAdd_3 l_She_38 rfl rfl (by simp [Value.category]) (by first | assumption | exact xup_s _ _ _ | exact xup_o (by omega) (by assumption) | exact xup_o (by omega) (xup_s _ _ _) | exact xup_o (by omega) (xup_o (by omega) (by assumption)) | exact xup_o (by omega) (xup_o (by omega) (xup_s _ _ _)) | exact xup_o (by omega) (xup_o (by omega) (xup_o (by omega) (by assumption)))) (c_She_find' (d + 1) hs ht hwt (by omega)) (by omega) (by omega) ?_
  rintro o M' ⟨rfl, rfl⟩
  cases he : eIdx es p nm with
  | some i =>
    refine xp_astore_3 (x := h + 2 + 5 * g i) (pc := 6) hX d_She_findOrAdd_6 (by decide) ?_
    refine xp_aload_3 (pc := 7) hX d_She_findOrAdd_7 ?_
    refine xg_ifnonnull (pc := 8) hX 30 d_She_findOrAdd_8 (by decide) ?_
    refine xp_aload_3 (pc := 30) hX d_She_findOrAdd_30 ?_
    refine xg_aret (pc := 31) hX hE d_She_findOrAdd_31 rfl (Or.inr ⟨_, rfl⟩) (by omega) (by omega) ?_
    exact ⟨rfl, some _, rfl, Or.inl ⟨i, he, rfl, rfl⟩⟩
  | none =>
    refine xp_astoreN_3 (pc := 6) hX d_She_findOrAdd_6 (by decide) ?_
    refine xp_aloadN_3 (pc := 7) hX d_She_findOrAdd_7 ?_
    refine xg_ifnonnullN (pc := 8) hX d_She_findOrAdd_8 ?_
    refine xp_aload_0 (pc := 11) hX d_She_findOrAdd_11 ?_
    refine xg_get (pc := 12) hX (j := 1) k_She d_She_findOrAdd_12 l_She_18 (by decide) (by first | assumption | exact xup_s _ _ _ | exact xup_o (by omega) (by assumption) | exact xup_o (by omega) (xup_s _ _ _) | exact xup_o (by omega) (xup_o (by omega) (by assumption)) | exact xup_o (by omega) (xup_o (by omega) (xup_s _ _ _)) | exact xup_o (by omega) (xup_o (by omega) (xup_o (by omega) (by assumption)))) (by rfl) ?_
    refine xn_if_lt (pc := 15) hX 30 d_She_findOrAdd_15 (by decide) (by omega) ?_
    refine xp_aload_0 (pc := 18) hX d_She_findOrAdd_18 ?_
    refine xg_get (pc := 19) hX (j := 1) k_She d_She_findOrAdd_19 l_She_18 (by decide) (by first | assumption | exact xup_s _ _ _ | exact xup_o (by omega) (by assumption) | exact xup_o (by omega) (xup_s _ _ _) | exact xup_o (by omega) (xup_o (by omega) (by assumption)) | exact xup_o (by omega) (xup_o (by omega) (xup_s _ _ _)) | exact xup_o (by omega) (xup_o (by omega) (xup_o (by omega) (by assumption)))) (by rfl) ?_
    refine xp_aload_0 (pc := 22) hX d_She_findOrAdd_22 ?_
    refine xg_get (pc := 23) hX (j := 0) k_She d_She_findOrAdd_23 l_She_11 (by decide) (by first | assumption | exact xup_s _ _ _ | exact xup_o (by omega) (by assumption) | exact xup_o (by omega) (xup_s _ _ _) | exact xup_o (by omega) (xup_o (by omega) (by assumption)) | exact xup_o (by omega) (xup_o (by omega) (xup_s _ _ _)) | exact xup_o (by omega) (xup_o (by omega) (xup_o (by omega) (by assumption)))) (by rfl) ?_
    refine xn_alen (pc := 26) hX (t := 2) d_She_findOrAdd_26 rfl (by first | assumption | exact xup_s _ _ _ | exact xup_o (by omega) (by assumption) | exact xup_o (by omega) (xup_s _ _ _) | exact xup_o (by omega) (xup_o (by omega) (by assumption)) | exact xup_o (by omega) (xup_o (by omega) (xup_s _ _ _)) | exact xup_o (by omega) (xup_o (by omega) (xup_o (by omega) (by assumption)))) ?_
    refine xn_icmp_lt (pc := 27) hX 32 d_She_findOrAdd_27 (by decide) (by omega) (by decide) (fun q => ?_) (fun q => ?_)
    · obtain ⟨e1, e2, e3, v, e4, e5⟩ := h7 es.length q
      generalize hL : L es.length = e at e1 e2 e3 e5
      have gi := h5 es.length q
      have e0 : va_rf (f es.length) = .ref (h + 2 + 5 * g es.length) := by rw [h4 _ q]; rfl
      generalize ha : h + 2 + 5 * g es.length = a at e0 e1 e3 e4
      obtain ⟨r3, -⟩ := id e3
      refine xp_aload_0 (pc := 32) hX d_She_findOrAdd_32 ?_
      refine xg_get (pc := 33) hX (j := 0) k_She d_She_findOrAdd_33 l_She_11 (by decide) (by first | assumption | exact xup_s _ _ _ | exact xup_o (by omega) (by assumption) | exact xup_o (by omega) (xup_s _ _ _) | exact xup_o (by omega) (xup_o (by omega) (by assumption)) | exact xup_o (by omega) (xup_o (by omega) (xup_s _ _ _)) | exact xup_o (by omega) (xup_o (by omega) (xup_o (by omega) (by assumption)))) (by rfl) ?_
      refine xp_aload_0 (pc := 36) hX d_She_findOrAdd_36 ?_
      refine xg_get (pc := 37) hX (j := 1) k_She d_She_findOrAdd_37 l_She_18 (by decide) (by first | assumption | exact xup_s _ _ _ | exact xup_o (by omega) (by assumption) | exact xup_o (by omega) (xup_s _ _ _) | exact xup_o (by omega) (xup_o (by omega) (by assumption)) | exact xup_o (by omega) (xup_o (by omega) (xup_s _ _ _)) | exact xup_o (by omega) (xup_o (by omega) (xup_o (by omega) (by assumption)))) (by rfl) ?_
      refine xn_aald (pc := 40) hX (t := 2) d_She_findOrAdd_40 rfl (by first | assumption | exact xup_s _ _ _ | exact xup_o (by omega) (by assumption) | exact xup_o (by omega) (xup_s _ _ _) | exact xup_o (by omega) (xup_o (by omega) (by assumption)) | exact xup_o (by omega) (xup_o (by omega) (xup_s _ _ _)) | exact xup_o (by omega) (xup_o (by omega) (xup_o (by omega) (by assumption)))) (by omega) (by omega) (by first | assumption | rfl) ?_
      first | refine xp_astore_4 (pc := 41) hX d_She_findOrAdd_41 (by decide) ?_ | refine xp_astoreN_4 (pc := 41) hX d_She_findOrAdd_41 (by decide) ?_
      refine xp_aload_4 (pc := 43) hX d_She_findOrAdd_43 ?_
      refine xg_ifnull (pc := 45) hX d_She_findOrAdd_45 ?_
      refine xp_aload_4 (pc := 48) hX d_She_findOrAdd_48 ?_
      refine xg_get (pc := 50) hX (j := 0) k_Ent d_She_findOrAdd_50 l_She_25 (by decide) (by first | assumption | exact xup_s _ _ _ | exact xup_o (by omega) (by assumption) | exact xup_o (by omega) (xup_s _ _ _) | exact xup_o (by omega) (xup_o (by omega) (by assumption)) | exact xup_o (by omega) (xup_o (by omega) (xup_s _ _ _)) | exact xup_o (by omega) (xup_o (by omega) (xup_o (by omega) (by assumption)))) (by rfl) ?_
      refine xp_aload_1 (pc := 53) hX d_She_findOrAdd_53 ?_
      refine xv_V (Y2 := Y_Row_become) (pc := 54) hX [_] k_Row m_Row_become d_She_findOrAdd_54 l_She_42 rfl rfl (by simp [Value.category]) (by first | assumption | exact xup_s _ _ _ | exact xup_o (by omega) (by assumption) | exact xup_o (by omega) (xup_s _ _ _) | exact xup_o (by omega) (xup_o (by omega) (by assumption)) | exact xup_o (by omega) (xup_o (by omega) (xup_s _ _ _)) | exact xup_o (by omega) (xup_o (by omega) (xup_o (by omega) (by assumption)))) (c_Row_become d e3 ht (by omega) (by omega) (by omega) (by omega)) (by omega) (by omega) ?_
      rintro M2 ⟨a1, a2⟩
      have e1' : M2 a = some (.inr (1, [.ref (a + 1), .ref (a + 3), .int (nI e.1.1), .int (bI e.1.2.2.isNone), .int (bI e.2)])) := by rw [a2 a (by omega) (by omega)]; exact e1
      have e4' : RowAt M2 (a + 3) 200 v := e4.kept (a2 _ (by omega) (by omega)) (a2 _ (by omega) (by omega))
      obtain ⟨r1, r2, -⟩ := id e4'
      refine xp_aload_4 (pc := 57) hX d_She_findOrAdd_57 ?_
      refine xg_get (pc := 59) hX (j := 1) k_Ent d_She_findOrAdd_59 l_She_46 (by decide) (by first | assumption | exact xup_s _ _ _ | exact xup_o (by omega) (by assumption) | exact xup_o (by omega) (xup_s _ _ _) | exact xup_o (by omega) (xup_o (by omega) (by assumption)) | exact xup_o (by omega) (xup_o (by omega) (xup_s _ _ _)) | exact xup_o (by omega) (xup_o (by omega) (xup_o (by omega) (by assumption)))) (by rfl) ?_
      refine xv_V (Y2 := Y_Row_clear) (pc := 62) hX [] k_Row m_Row_clear d_She_findOrAdd_62 l_She_49 rfl rfl (by simp [Value.category]) (by first | assumption | exact xup_s _ _ _ | exact xup_o (by omega) (by assumption) | exact xup_o (by omega) (xup_s _ _ _) | exact xup_o (by omega) (xup_o (by omega) (by assumption)) | exact xup_o (by omega) (xup_o (by omega) (xup_s _ _ _)) | exact xup_o (by omega) (xup_o (by omega) (xup_o (by omega) (by assumption)))) (c_Row_clear (d + 2) e4') (by omega) (by omega) ?_
      rintro M3 ⟨b1, b2⟩
      have e1'' : M3 a = some (.inr (1, [.ref (a + 1), .ref (a + 3), .int (nI e.1.1), .int (bI e.1.2.2.isNone), .int (bI e.2)])) := by rw [b2 a (by omega) (by omega)]; exact e1'
      have h1' : M3 h = some (.inr (2, [.ref (h + 1), .int (nI es.length)])) := by rw [b2 h (by omega) (by omega), a2 h (by omega) (by omega)]; exact h1
      have a1' : RowAt M3 (a + 1) 200 nm := a1.kept (b2 _ (by omega) (by omega)) (b2 _ (by omega) (by omega))
      refine xp_aload_4 (pc := 65) hX d_She_findOrAdd_65 ?_
      refine xp_iload_2 (pc := 67) hX d_She_findOrAdd_67 ?_
      refine xg_put (pc := 68) hX (j := 2) k_Ent d_She_findOrAdd_68 l_She_22 (by decide) rfl (by first | assumption | exact xup_s _ _ _ | exact xup_o (by omega) (by assumption) | exact xup_o (by omega) (xup_s _ _ _) | exact xup_o (by omega) (xup_o (by omega) (by assumption)) | exact xup_o (by omega) (xup_o (by omega) (xup_s _ _ _)) | exact xup_o (by omega) (xup_o (by omega) (xup_o (by omega) (by assumption)))) (Nat.le_of_ble_eq_true rfl) rfl rfl (by simp only [List.set_cons_zero, List.set_cons_succ]; exact rfl) ?_
      refine xp_aload_4 (pc := 71) hX d_She_findOrAdd_71 ?_
      refine xg_iconst (pc := 73) hX (nI 0) d_She_findOrAdd_73 ci_iconst_0 ?_
      refine xg_put (pc := 74) hX (j := 3) k_Ent d_She_findOrAdd_74 l_She_52 (by decide) rfl (by first | assumption | exact xup_s _ _ _ | exact xup_o (by omega) (by assumption) | exact xup_o (by omega) (xup_s _ _ _) | exact xup_o (by omega) (xup_o (by omega) (by assumption)) | exact xup_o (by omega) (xup_o (by omega) (xup_s _ _ _)) | exact xup_o (by omega) (xup_o (by omega) (xup_o (by omega) (by assumption)))) (Nat.le_of_ble_eq_true rfl) (by first | rfl | decide) (by first | rfl | decide) (by simp only [List.set_cons_zero, List.set_cons_succ]; exact rfl) ?_
      refine xp_aload_4 (pc := 77) hX d_She_findOrAdd_77 ?_
      refine xg_iconst (pc := 79) hX (nI 0) d_She_findOrAdd_79 ci_iconst_0 ?_
      refine xg_put (pc := 80) hX (j := 4) k_Ent d_She_findOrAdd_80 l_She_56 (by decide) rfl (by first | assumption | exact xup_s _ _ _ | exact xup_o (by omega) (by assumption) | exact xup_o (by omega) (xup_s _ _ _) | exact xup_o (by omega) (xup_o (by omega) (by assumption)) | exact xup_o (by omega) (xup_o (by omega) (xup_s _ _ _)) | exact xup_o (by omega) (xup_o (by omega) (xup_o (by omega) (by assumption)))) (Nat.le_of_ble_eq_true rfl) (by first | rfl | decide) (by first | rfl | decide) (by simp only [List.set_cons_zero, List.set_cons_succ]; exact rfl) ?_
      refine xp_aload_0 (pc := 83) hX d_She_findOrAdd_83 ?_
      refine xg_dup (pc := 84) hX d_She_findOrAdd_84 rfl ?_
      refine xg_get (pc := 85) hX (j := 1) k_She d_She_findOrAdd_85 l_She_18 (by decide) (by first | assumption | exact xup_s _ _ _ | exact xup_o (by omega) (by assumption) | exact xup_o (by omega) (xup_s _ _ _) | exact xup_o (by omega) (xup_o (by omega) (by assumption)) | exact xup_o (by omega) (xup_o (by omega) (xup_s _ _ _)) | exact xup_o (by omega) (xup_o (by omega) (xup_o (by omega) (by assumption)))) (by rfl) ?_
      refine xg_iconst (pc := 88) hX (nI 1) d_She_findOrAdd_88 ci_iconst_1 ?_
      first | refine xn_iadd (pc := 89) hX d_She_findOrAdd_89 ?_ | refine xg_iadd (pc := 89) hX d_She_findOrAdd_89 ?_
      refine xg_put (pc := 90) hX (j := 1) k_She d_She_findOrAdd_90 l_She_18 (by decide) rfl (by first | assumption | exact xup_s _ _ _ | exact xup_o (by omega) (by assumption) | exact xup_o (by omega) (xup_s _ _ _) | exact xup_o (by omega) (xup_o (by omega) (by assumption)) | exact xup_o (by omega) (xup_o (by omega) (xup_s _ _ _)) | exact xup_o (by omega) (xup_o (by omega) (xup_o (by omega) (by assumption)))) (Nat.le_of_ble_eq_true rfl) rfl rfl (by simp only [List.set_cons_zero, List.set_cons_succ]; exact rfl) ?_
      refine xp_aload_4 (pc := 93) hX d_She_findOrAdd_93 ?_
      refine xg_aret (pc := 95) hX hE d_She_findOrAdd_95 rfl (Or.inr ⟨_, rfl⟩) (by omega) (by omega) ?_
      refine ⟨rfl, some _, rfl, Or.inr (Or.inl ⟨he, q, by rw [ha], ?_, ?_⟩)⟩
      · generalize hM4 : xup (xup (xup M3 a (.inr (1, [.ref (a + 1), .ref (a + 3), .int (nI p), .int (bI e.1.2.2.isNone), .int (bI e.2)]))) a (.inr (1, [.ref (a + 1), .ref (a + 3), .int (nI p), .int (nI 0), .int (bI e.2)]))) a (.inr (1, [.ref (a + 1), .ref (a + 3), .int (nI p), .int (nI 0), .int (nI 0)])) = M4
        have hM4a : M4 a = some (.inr (1, [.ref (a + 1), .ref (a + 3), .int (nI p), .int (nI 0), .int (nI 0)])) := by rw [← hM4]; exact xup_s _ _ _
        have hM4n : ∀ q, q ≠ a → M4 q = M3 q := fun q hq => by rw [← hM4, xup_n _ _ hq, xup_n _ _ hq, xup_n _ _ hq]
        have hfr : FrR M' M4 (h + 2 + 5 * g es.length) (h + 2 + 5 * g es.length + 5) := fun q hq => by
          rw [ha] at hq
          rw [hM4n q (by omega), b2 q (by omega) (by omega), a2 q (by omega) (by omega)]
        have hen : EnA M4 (h + 2 + 5 * g es.length) ((p, nm, some []), false) := by
          rw [ha]
          exact ⟨hM4a, hp, a1'.kept (hM4n _ (by omega)) (hM4n _ (by omega)), [], b1.kept (hM4n _ (by omega)) (hM4n _ (by omega)), fun u hu => Option.some.inj hu⟩
        obtain ⟨c1, c2, ⟨f', c3, c4⟩, c5, c6, c7⟩ := hs.1.set (i := es.length) q hfr hen
        refine ⟨fun j => if j = es.length then ((p, nm, some []), false) else L j, ⟨?_, by simp; omega, ⟨f', ?_, c4⟩, c5, c6, fun j hj => (c7 j hj).kept (fun q x _ => xup_n _ _ (by omega))⟩, ?_⟩
        · rw [xup_s]; simp
        · rw [xup_n _ _ (by omega)]; exact c3
        · intro j e' he'
          by_cases hj : j = es.length
          · subst hj
            simp at he'
            simp [he']
          · rw [List.getElem?_append] at he'
            split at he'
            · simp only [if_neg hj]
              exact hs.2 j e' he'
            · rename_i hlt
              have := (List.getElem?_eq_some_iff.mp he').1
              simp at this
              omega
      · intro q hq
        rw [xup_n _ _ (by omega), xup_n _ _ (by omega), xup_n _ _ (by omega), xup_n _ _ (by omega), b2 q (by omega) (by omega), a2 q (by omega) (by omega)]
    · refine xp_aloadN_3 (pc := 30) hX d_She_findOrAdd_30 ?_
      refine xg_aret (pc := 31) hX hE d_She_findOrAdd_31 rfl (Or.inl rfl) (by omega) (by omega) ?_
      exact ⟨rfl, none, rfl, Or.inr (Or.inr ⟨he, q, rfl, rfl⟩)⟩
end
section
/-! NameRoom$Sight, NameRoom$Pools -/
/-- the seen name s makes the name nm the other pool's -/
def hld (s nm : List UInt8) : Bool := (isSt s || nm.length == s.length) && s.isPrefixOf nm
abbrev xSe : Type := Nat × List UInt8
def SiA (M : xH) (a : Nat) (s : xSe) : Prop := M a = some (.inr (3, [.ref (a + 1), .int (nI s.1), .int (bI (isSt s.2))])) ∧ s.1 < 1000 ∧ RowAt M (a + 1) 200 s.2
theorem SiA.kept {M M' : xH} {a : Nat} {s : xSe} (h : SiA M a s) (hk : ∀ q, a ≤ q → q < a + 3 → M' q = M q) : SiA M' a s := by
  obtain ⟨h1, h2, h3⟩ := h
  exact ⟨by rw [hk a (by omega) (by omega)]; exact h1, h2, h3.kept (hk _ (by omega) (by omega)) (hk _ (by omega) (by omega))⟩
set_option maxHeartbeats 4000000 in
set_option maxRecDepth 100000 in
theorem c_Sig_holds (d : Nat) {M : xH} {sz a t wt : Nat} {s : xSe} {nm : List UInt8} (hs : SiA M a s) (ht : RowAt M t wt nm) (hwt : wt < 1000000) : xC (d + 1) 0 0 Y_Sig_holds [.ref a, .ref t] M sz (qi sz (fun y M' => y = bI (hld s.2 nm) ∧ M' = M)) := by
  refine xC_of (by decide) (Nat.le_of_ble_eq_true rfl) (by simp [Value.category]) (vs := [some (.ref a), some (.ref t)]) rfl (fun K hX hE => ?_)
  obtain ⟨h1, h2, h3⟩ := id hs
  obtain ⟨t1, t2, -⟩ := id ht
  obtain ⟨r1, r2, -⟩ := id h3
  have k37 : ∀ v, hld s.2 nm = v → xG K 37 [some (.ref a), some (.ref t)] [.int (bI v)] M sz 0 0 := by
    intro v hv
    refine xg_iret (pc := 37) hX hE d_Sig_holds_37 rfl (by cases v <;> rfl) (by omega) (by omega) ?_
    exact ⟨rfl, _, rfl, by rw [hv], rfl⟩
  have k36 : hld s.2 nm = false → xG K 36 [some (.ref a), some (.ref t)] [] M sz 0 0 := by
    intro hv
    refine xg_iconst (pc := 36) hX (nI 0) d_Sig_holds_36 ci_iconst_0 ?_
    exact k37 false hv
  have k21 : (isSt s.2 || nm.length == s.2.length) = true → xG K 21 [some (.ref a), some (.ref t)] [] M sz 0 0 := by
    intro hv
    refine xp_aload_1 (pc := 21) hX d_Sig_holds_21 ?_
    refine xp_aload_0 (pc := 22) hX d_Sig_holds_22 ?_
    refine xg_get (pc := 23) hX (j := 0) k_Sig d_Sig_holds_23 l_Sig_14 (by decide) (by first | assumption | exact xup_s _ _ _ | exact xup_o (by omega) (by assumption) | exact xup_o (by omega) (xup_s _ _ _) | exact xup_o (by omega) (xup_o (by omega) (by assumption)) | exact xup_o (by omega) (xup_o (by omega) (xup_s _ _ _)) | exact xup_o (by omega) (xup_o (by omega) (xup_o (by omega) (by assumption)))) (by rfl) ?_
    refine xi_V (Y2 := Y_Row_beginsWith) (pc := 26) hX [_] k_Row m_Row_beginsWith d_Sig_holds_26 l_Sig_31 rfl rfl (by simp [Value.category]) (by first | assumption | exact xup_s _ _ _ | exact xup_o (by omega) (by assumption) | exact xup_o (by omega) (xup_s _ _ _) | exact xup_o (by omega) (xup_o (by omega) (by assumption)) | exact xup_o (by omega) (xup_o (by omega) (xup_s _ _ _)) | exact xup_o (by omega) (xup_o (by omega) (xup_o (by omega) (by assumption)))) (c_Row_beginsWith d ht h3 (by omega) (by omega)) (by omega) (by omega) ?_
    rintro y M' ⟨rfl, rfl⟩
    refine xg_if_eq (pc := 29) hX 36 d_Sig_holds_29 (by decide) (fun q => ?_) (fun q => ?_)
    · exact k36 (by unfold hld; rw [bI_eq0.mp q]; simp)
    · refine xg_iconst (pc := 32) hX (nI 1) d_Sig_holds_32 ci_iconst_1 ?_
      refine xg_goto (pc := 33) hX 37 d_Sig_holds_33 (by decide) ?_
      exact k37 true (by unfold hld; rw [hv, bI_ne0.mp q]; rfl)
  refine xp_aload_0 (pc := 0) hX d_Sig_holds_0 ?_
  refine xg_get (pc := 1) hX (j := 2) k_Sig d_Sig_holds_1 l_Sig_24 (by decide) (by first | assumption | exact xup_s _ _ _ | exact xup_o (by omega) (by assumption) | exact xup_o (by omega) (xup_s _ _ _) | exact xup_o (by omega) (xup_o (by omega) (by assumption)) | exact xup_o (by omega) (xup_o (by omega) (xup_s _ _ _)) | exact xup_o (by omega) (xup_o (by omega) (xup_o (by omega) (by assumption)))) (by rfl) ?_
  refine xg_if_ne (pc := 4) hX 21 d_Sig_holds_4 (by decide) (fun q => ?_) (fun q => ?_)
  · exact k21 (by rw [bI_ne0.mp q]; rfl)
  · have q := bI_eq0.mp q
    refine xp_aload_1 (pc := 7) hX d_Sig_holds_7 ?_
    refine xg_get (pc := 8) hX (j := 1) k_Row d_Sig_holds_8 l_Sig_28 (by decide) (by first | assumption | exact xup_s _ _ _ | exact xup_o (by omega) (by assumption) | exact xup_o (by omega) (xup_s _ _ _) | exact xup_o (by omega) (xup_o (by omega) (by assumption)) | exact xup_o (by omega) (xup_o (by omega) (xup_s _ _ _)) | exact xup_o (by omega) (xup_o (by omega) (xup_o (by omega) (by assumption)))) (by rfl) ?_
    refine xp_aload_0 (pc := 11) hX d_Sig_holds_11 ?_
    refine xg_get (pc := 12) hX (j := 0) k_Sig d_Sig_holds_12 l_Sig_14 (by decide) (by first | assumption | exact xup_s _ _ _ | exact xup_o (by omega) (by assumption) | exact xup_o (by omega) (xup_s _ _ _) | exact xup_o (by omega) (xup_o (by omega) (by assumption)) | exact xup_o (by omega) (xup_o (by omega) (xup_s _ _ _)) | exact xup_o (by omega) (xup_o (by omega) (xup_o (by omega) (by assumption)))) (by rfl) ?_
    refine xg_get (pc := 15) hX (j := 1) k_Row d_Sig_holds_15 l_Sig_28 (by decide) (by first | assumption | exact xup_s _ _ _ | exact xup_o (by omega) (by assumption) | exact xup_o (by omega) (xup_s _ _ _) | exact xup_o (by omega) (xup_o (by omega) (by assumption)) | exact xup_o (by omega) (xup_o (by omega) (xup_s _ _ _)) | exact xup_o (by omega) (xup_o (by omega) (xup_o (by omega) (by assumption)))) (by rfl) ?_
    refine xn_icmp_ne (pc := 18) hX 36 d_Sig_holds_18 (by decide) (by omega) (by omega) (fun q1 => ?_) (fun q1 => ?_)
    · exact k36 (by unfold hld; rw [q]; simp [q1])
    · exact k21 (by simp [q1])
/-- the pools' object at h: of depth dp; the sights -/
def PoR (M : xH) (h n dp : Nat) (S : Nat → xSe) : Prop :=
  M h = some (.inr (4, [.ref (h + 1), .int (nI n), .int (nI dp)])) ∧ n ≤ 84 ∧ 1 ≤ dp ∧ dp ≤ 100 ∧ (∃ f : Nat → Option Nat, M (h + 1) = some (.inl (3, 84, .inr (.inr (.inr (.inr f))))) ∧ ∀ j, j < 84 → f j = some (h + 2 + 3 * j)) ∧ ∀ j, j < 84 → SiA M (h + 2 + 3 * j) (S j)
def PoA (M : xH) (h dp : Nat) (se : List xSe) : Prop := ∃ S, PoR M h se.length dp S ∧ ∀ (j : Nat) (s : xSe), se[j]? = some s → S j = s
theorem PoA.kept {M M' : xH} {h dp : Nat} {se : List xSe} (hs : PoA M h dp se) (hk : ∀ q, h ≤ q → q < h + 254 → M' q = M q) : PoA M' h dp se := by
  obtain ⟨S, ⟨h1, h2, h3, h4, ⟨f, h5, h6⟩, h7⟩, h8⟩ := hs
  exact ⟨S, ⟨by rw [hk h (by omega) (by omega)]; exact h1, h2, h3, h4, ⟨f, by rw [hk _ (by omega) (by omega)]; exact h5, h6⟩, fun j hj => (h7 j hj).kept (fun q a b => hk q (by omega) (by omega))⟩, h8⟩
def own1 (nm : List UInt8) (s : xSe) (q : Nat) : Nat := if s.1 == q && hld s.2 nm then q - 1 else q
/-- whose a name is, as pool p sees it -/
def own (se : List xSe) (nm : List UInt8) (p : Nat) : Nat := se.foldr (own1 nm) p
theorem own_le (se : List xSe) (nm : List UInt8) (p : Nat) : own se nm p ≤ p := by
  induction se with
  | nil => exact Nat.le_refl _
  | cons s l ih =>
    show own1 nm s (own l nm p) ≤ p
    unfold own1
    split <;> omega
theorem m1_sub (n : Nat) : nI n - nI 1 = nI n + -1 := by
  rw [Int32.sub_eq_add_neg]; rfl
set_option maxHeartbeats 4000000 in
set_option maxRecDepth 100000 in
theorem c_Poo_innermost (d : Nat) {M : xH} {sz h dp : Nat} {se : List xSe} (hs : PoA M h dp se) : xC d 0 0 Y_Poo_innermost [.ref h] M sz (qi sz (fun y M' => y = nI (dp - 1) ∧ M' = M)) := by
  refine xC_of (by decide) (Nat.le_of_ble_eq_true rfl) (by simp [Value.category]) (vs := [some (.ref h)]) rfl (fun K hX hE => ?_)
  obtain ⟨S, ⟨h1, h2, h3, h4, -⟩, -⟩ := hs
  refine xp_aload_0 (pc := 0) hX d_Poo_innermost_0 ?_
  refine xg_get (pc := 1) hX (j := 2) k_Poo d_Poo_innermost_1 l_Poo_22 (by decide) (by first | assumption | exact xup_s _ _ _ | exact xup_o (by omega) (by assumption) | exact xup_o (by omega) (xup_s _ _ _) | exact xup_o (by omega) (xup_o (by omega) (by assumption)) | exact xup_o (by omega) (xup_o (by omega) (xup_s _ _ _)) | exact xup_o (by omega) (xup_o (by omega) (xup_o (by omega) (by assumption)))) (by rfl) ?_
  refine xg_iconst (pc := 4) hX (nI 1) d_Poo_innermost_4 ci_iconst_1 ?_
  first | refine xn_isub (pc := 5) hX d_Poo_innermost_5 (by omega) ?_ | refine xg_isub (pc := 5) hX d_Poo_innermost_5 ?_
  refine xg_iret (pc := 6) hX hE d_Poo_innermost_6 rfl rfl (by omega) (by omega) ?_
  exact ⟨rfl, _, rfl, rfl, rfl⟩
set_option maxHeartbeats 4000000 in
set_option maxRecDepth 100000 in
theorem c_Poo_owner (d : Nat) {M : xH} {sz h dp t wt p : Nat} {se : List xSe} {nm : List UInt8} (hs : PoA M h dp se) (h1p : ∀ s ∈ se, 1 ≤ s.1) (ht : RowAt M t wt nm) (hwt : wt < 1000000) (hp : p < 1000000) : xC (d + 2) 0 0 Y_Poo_owner [.ref h, .ref t, .int (nI p)] M sz (qi sz (fun y M' => y = nI (own se nm p) ∧ M' = M)) := by
  refine xC_of (by decide) (Nat.le_of_ble_eq_true rfl) (by simp [Value.category]) (vs := [some (.ref h), some (.ref t), some (.int (nI p)), none, none, none]) rfl (fun K hX hE => ?_)
  obtain ⟨S, ⟨h1, h2, h3, h4, ⟨f, h5, h6⟩, h7⟩, h8⟩ := hs
  have loop : ∀ (m q : Nat), m ≤ se.length → q < 1000000 → own se nm p = own (se.take m) nm q → xG K 18 [some (.ref h), some (.ref t), some (.int (nI p)), some (.int (nI q)), some (.int (nI m + -1)), none] [] M sz 0 0 := by
    intro m
    induction m with
    | zero =>
      intro q hm hq ho
      refine xp_iload_4 (pc := 18) hX d_Poo_owner_18 ?_
      refine xg_if_lt (pc := 20) hX 64 d_Poo_owner_20 (by decide) (fun _ => ?_) (fun z => absurd (by decide) z)
      refine xp_iload_3 (pc := 64) hX d_Poo_owner_64 ?_
      refine xg_iret (pc := 65) hX hE d_Poo_owner_65 rfl rfl (by omega) (by omega) ?_
      exact ⟨rfl, _, rfl, by rw [ho]; rfl, rfl⟩
    | succ m ih =>
      intro q hm hq ho
      have hS : se[m]? = some (se[m]'(by omega)) := List.getElem?_eq_getElem (by omega)
      have hSm := h8 m _ hS
      have hge := h1p _ (List.getElem_mem (show m < se.length by omega))
      have ho2 : own (se.take (m + 1)) nm q = own (se.take m) nm (own1 nm (se[m]'(by omega)) q) := by
        unfold own
        rw [List.take_succ, hS, List.foldr_append]
        rfl
      generalize se[m]'(by omega) = s at hS hSm hge ho2
      have hSi := h7 m (by omega)
      rw [hSm] at hSi
      obtain ⟨s1, s2, s3⟩ := id hSi
      have e0 : va_rf (f m) = .ref (h + 2 + 3 * m) := by rw [h6 m (by omega)]; rfl
      rw [pk_m1]
      have next : ∀ q', q' < 1000000 → q' = own1 nm s q → xG K 58 [some (.ref h), some (.ref t), some (.int (nI p)), some (.int (nI q')), some (.int (nI m)), some (.ref (h + 2 + 3 * m))] [] M sz 0 0 := by
        intro q' hq' he
        refine xg_iinc (pc := 58) hX d_Poo_owner_58 (by decide) rfl ci_iconst_m1 (by rfl) ?_
        refine xg_goto (pc := 61) hX 18 d_Poo_owner_61 (by decide) ?_
        refine xp_drop_5 ?_
        exact ih q' (by omega) hq' (by rw [ho, ho2, he])
      refine xp_iload_4 (pc := 18) hX d_Poo_owner_18 ?_
      refine xn_if_lt (pc := 20) hX 64 d_Poo_owner_20 (by decide) (by omega) ?_
      refine xp_aload_0 (pc := 23) hX d_Poo_owner_23 ?_
      refine xg_get (pc := 24) hX (j := 0) k_Poo d_Poo_owner_24 l_Poo_11 (by decide) (by first | assumption | exact xup_s _ _ _ | exact xup_o (by omega) (by assumption) | exact xup_o (by omega) (xup_s _ _ _) | exact xup_o (by omega) (xup_o (by omega) (by assumption)) | exact xup_o (by omega) (xup_o (by omega) (xup_s _ _ _)) | exact xup_o (by omega) (xup_o (by omega) (xup_o (by omega) (by assumption)))) (by rfl) ?_
      refine xp_iload_4 (pc := 27) hX d_Poo_owner_27 ?_
      refine xn_aald (pc := 29) hX (t := 3) d_Poo_owner_29 rfl (by first | assumption | exact xup_s _ _ _ | exact xup_o (by omega) (by assumption) | exact xup_o (by omega) (xup_s _ _ _) | exact xup_o (by omega) (xup_o (by omega) (by assumption)) | exact xup_o (by omega) (xup_o (by omega) (xup_s _ _ _)) | exact xup_o (by omega) (xup_o (by omega) (xup_o (by omega) (by assumption)))) (by omega) (by omega) (by first | assumption | rfl) ?_
      first | refine xp_astore_5 (pc := 30) hX d_Poo_owner_30 (by decide) ?_ | refine xp_astoreN_5 (pc := 30) hX d_Poo_owner_30 (by decide) ?_
      refine xp_aload_5 (pc := 32) hX d_Poo_owner_32 ?_
      refine xg_ifnull (pc := 34) hX d_Poo_owner_34 ?_
      refine xp_aload_5 (pc := 37) hX d_Poo_owner_37 ?_
      refine xg_get (pc := 39) hX (j := 1) k_Sig d_Poo_owner_39 l_Poo_35 (by decide) (by first | assumption | exact xup_s _ _ _ | exact xup_o (by omega) (by assumption) | exact xup_o (by omega) (xup_s _ _ _) | exact xup_o (by omega) (xup_o (by omega) (by assumption)) | exact xup_o (by omega) (xup_o (by omega) (xup_s _ _ _)) | exact xup_o (by omega) (xup_o (by omega) (xup_o (by omega) (by assumption)))) (by rfl) ?_
      refine xp_iload_3 (pc := 42) hX d_Poo_owner_42 ?_
      refine xn_icmp_ne (pc := 43) hX 58 d_Poo_owner_43 (by decide) (by omega) (by omega) (fun z => ?_) (fun z => ?_)
      · exact next q hq (by unfold own1; simp [z])
      · refine xp_aload_5 (pc := 46) hX d_Poo_owner_46 ?_
        refine xp_aload_1 (pc := 48) hX d_Poo_owner_48 ?_
        refine xi_V (Y2 := Y_Sig_holds) (pc := 49) hX [_] k_Sig m_Sig_holds d_Poo_owner_49 l_Poo_38 rfl rfl (by simp [Value.category]) (by first | assumption | exact xup_s _ _ _ | exact xup_o (by omega) (by assumption) | exact xup_o (by omega) (xup_s _ _ _) | exact xup_o (by omega) (xup_o (by omega) (by assumption)) | exact xup_o (by omega) (xup_o (by omega) (xup_s _ _ _)) | exact xup_o (by omega) (xup_o (by omega) (xup_o (by omega) (by assumption)))) (c_Sig_holds d hSi ht hwt) (by omega) (by omega) ?_
        rintro y M' ⟨rfl, rfl⟩
        refine xg_if_eq (pc := 52) hX 58 d_Poo_owner_52 (by decide) (fun z1 => ?_) (fun z1 => ?_)
        · exact next q hq (by unfold own1; rw [bI_eq0.mp z1]; simp)
        · refine xg_iinc (pc := 55) hX d_Poo_owner_55 (by decide) rfl ci_iconst_m1 (by rfl) ?_
          have e1 : nI q + -1 = nI (q - 1) := sb_m1 (by omega)
          rw [e1]
          exact next (q - 1) (by omega) (by unfold own1; rw [bI_ne0.mp z1]; simp [z])
  refine xp_iload_2 (pc := 0) hX d_Poo_owner_0 ?_
  refine xp_istore_3 (pc := 1) hX d_Poo_owner_1 (by decide) ?_
  refine xp_aload_0 (pc := 2) hX d_Poo_owner_2 ?_
  refine xg_get (pc := 3) hX (j := 1) k_Poo d_Poo_owner_3 l_Poo_18 (by decide) (by first | assumption | exact xup_s _ _ _ | exact xup_o (by omega) (by assumption) | exact xup_o (by omega) (xup_s _ _ _) | exact xup_o (by omega) (xup_o (by omega) (by assumption)) | exact xup_o (by omega) (xup_o (by omega) (xup_s _ _ _)) | exact xup_o (by omega) (xup_o (by omega) (xup_o (by omega) (by assumption)))) (by rfl) ?_
  refine xp_aload_0 (pc := 6) hX d_Poo_owner_6 ?_
  refine xg_get (pc := 7) hX (j := 0) k_Poo d_Poo_owner_7 l_Poo_11 (by decide) (by first | assumption | exact xup_s _ _ _ | exact xup_o (by omega) (by assumption) | exact xup_o (by omega) (xup_s _ _ _) | exact xup_o (by omega) (xup_o (by omega) (by assumption)) | exact xup_o (by omega) (xup_o (by omega) (xup_s _ _ _)) | exact xup_o (by omega) (xup_o (by omega) (xup_o (by omega) (by assumption)))) (by rfl) ?_
  refine xn_alen (pc := 10) hX (t := 3) d_Poo_owner_10 rfl (by first | assumption | exact xup_s _ _ _ | exact xup_o (by omega) (by assumption) | exact xup_o (by omega) (xup_s _ _ _) | exact xup_o (by omega) (xup_o (by omega) (by assumption)) | exact xup_o (by omega) (xup_o (by omega) (xup_s _ _ _)) | exact xup_o (by omega) (xup_o (by omega) (xup_o (by omega) (by assumption)))) ?_
  refine xg_min (pc := 11) hX d_Poo_owner_11 l_Poo_29 wj_minS wj_mathI wj_minC (by show 1 ≤ d + 2; omega) (by show _ ≤ 40 * (d + 2); simp [Value.category]; omega) (Nat.zero_le _) (Nat.zero_le _) ?_
  rw [if_neg (nI_nlt h2 (by omega))]
  refine xg_iconst (pc := 14) hX (nI 1) d_Poo_owner_14 ci_iconst_1 ?_
  refine xg_isub (pc := 15) hX d_Poo_owner_15 ?_
  rw [m1_sub]
  refine xp_istore_4 (pc := 16) hX d_Poo_owner_16 (by decide) ?_
  exact loop se.length p (Nat.le_refl _) hp (by rw [List.take_of_length_le (Nat.le_refl _)])
end
section
/-! NameRoom$Pools: the rest -/
def cnt (se : List xSe) (q : Nat) : Nat := (se.filter (fun s => s.1 == q)).length
theorem cnt_le (se : List xSe) (q : Nat) : cnt se q ≤ se.length := List.length_filter_le _ _
set_option maxHeartbeats 4000000 in
set_option maxRecDepth 100000 in
theorem c_Poo_enter (d : Nat) {M : xH} {sz h dp : Nat} {se : List xSe} (hs : PoA M h dp se) (hdp : dp < 100) : xC d 0 0 Y_Poo_enter [.ref h] M sz (qv sz (fun M' => PoA M' h (dp + 1) se ∧ ∀ q, q ≠ h → M' q = M q)) := by
  refine xC_of (by decide) (Nat.le_of_ble_eq_true rfl) (by simp [Value.category]) (vs := [some (.ref h)]) rfl (fun K hX hE => ?_)
  obtain ⟨S, ⟨h1, h2, h3, h4, ⟨f, h5, h6⟩, h7⟩, h8⟩ := hs
  refine xp_aload_0 (pc := 0) hX d_Poo_enter_0 ?_
  refine xg_dup (pc := 1) hX d_Poo_enter_1 rfl ?_
  refine xg_get (pc := 2) hX (j := 2) k_Poo d_Poo_enter_2 l_Poo_22 (by decide) (by first | assumption | exact xup_s _ _ _ | exact xup_o (by omega) (by assumption) | exact xup_o (by omega) (xup_s _ _ _) | exact xup_o (by omega) (xup_o (by omega) (by assumption)) | exact xup_o (by omega) (xup_o (by omega) (xup_s _ _ _)) | exact xup_o (by omega) (xup_o (by omega) (xup_o (by omega) (by assumption)))) (by rfl) ?_
  refine xg_iconst (pc := 5) hX (nI 1) d_Poo_enter_5 ci_iconst_1 ?_
  first | refine xn_iadd (pc := 6) hX d_Poo_enter_6 ?_ | refine xg_iadd (pc := 6) hX d_Poo_enter_6 ?_
  refine xg_put (pc := 7) hX (j := 2) k_Poo d_Poo_enter_7 l_Poo_22 (by decide) rfl (by first | assumption | exact xup_s _ _ _ | exact xup_o (by omega) (by assumption) | exact xup_o (by omega) (xup_s _ _ _) | exact xup_o (by omega) (xup_o (by omega) (by assumption)) | exact xup_o (by omega) (xup_o (by omega) (xup_s _ _ _)) | exact xup_o (by omega) (xup_o (by omega) (xup_o (by omega) (by assumption)))) (Nat.le_of_ble_eq_true rfl) rfl rfl (by simp only [List.set_cons_zero, List.set_cons_succ]; exact rfl) ?_
  refine xg_vret (pc := 10) hX hE d_Poo_enter_10 rfl (by omega) (by omega) ?_
  refine ⟨rfl, rfl, ⟨S, ⟨xup_s _ _ _, h2, by omega, by omega, ⟨f, xup_o (by omega) h5, h6⟩, fun j hj => (h7 j hj).kept (fun q _ _ => xup_n _ _ (by omega))⟩, h8⟩, fun q hq => xup_n _ _ hq⟩
set_option maxHeartbeats 4000000 in
set_option maxRecDepth 100000 in
theorem c_Poo_seenByInnermost (d : Nat) {M : xH} {sz h dp : Nat} {se : List xSe} (hs : PoA M h dp se) : xC (d + 1) 0 0 Y_Poo_seenByInnermost [.ref h] M sz (qi sz (fun y M' => y = nI (cnt se (dp - 1)) ∧ M' = M)) := by
  refine xC_of (by decide) (Nat.le_of_ble_eq_true rfl) (by simp [Value.category]) (vs := [some (.ref h), none, none, none]) rfl (fun K hX hE => ?_)
  obtain ⟨S, ⟨h1, h2, h3, h4, ⟨f, h5, h6⟩, h7⟩, h8⟩ := id hs
  have loop : ∀ (m i : Nat), i + m = se.length → xG K 4 [some (.ref h), some (.int (nI (cnt (se.take i) (dp - 1)))), some (.int (nI i)), none] [] M sz 0 0 := by
    intro m
    induction m with
    | zero =>
      intro i hi
      refine xp_iload_2 (pc := 4) hX d_Poo_seenByInnermost_4 ?_
      refine xp_aload_0 (pc := 5) hX d_Poo_seenByInnermost_5 ?_
      refine xg_get (pc := 6) hX (j := 1) k_Poo d_Poo_seenByInnermost_6 l_Poo_18 (by decide) (by first | assumption | exact xup_s _ _ _ | exact xup_o (by omega) (by assumption) | exact xup_o (by omega) (xup_s _ _ _) | exact xup_o (by omega) (xup_o (by omega) (by assumption)) | exact xup_o (by omega) (xup_o (by omega) (xup_s _ _ _)) | exact xup_o (by omega) (xup_o (by omega) (xup_o (by omega) (by assumption)))) (by rfl) ?_
      refine xn_icmp_ge (pc := 9) hX 52 d_Poo_seenByInnermost_9 (by decide) (by omega) (by omega) (fun _ => ?_) (fun z => absurd z (by omega))
      refine xp_iload_1 (pc := 52) hX d_Poo_seenByInnermost_52 ?_
      refine xg_iret (pc := 53) hX hE d_Poo_seenByInnermost_53 rfl rfl (by omega) (by omega) ?_
      rw [List.take_of_length_le (by omega)]
      exact ⟨rfl, _, rfl, rfl, rfl⟩
    | succ m ih =>
      intro i hi
      have hS : se[i]? = some (se[i]'(by omega)) := List.getElem?_eq_getElem (by omega)
      have hSm := h8 i _ hS
      have ht : cnt (se.take (i + 1)) (dp - 1) = cnt (se.take i) (dp - 1) + if (se[i]'(by omega)).1 == dp - 1 then 1 else 0 := by
        unfold cnt
        rw [List.take_succ, hS, List.filter_append, List.length_append]
        congr 1
        simp only [Option.toList, List.filter_cons, List.filter_nil]
        split <;> rfl
      generalize se[i]'(by omega) = s at hS hSm ht
      have hSi := h7 i (by omega)
      rw [hSm] at hSi
      obtain ⟨s1, s2, s3⟩ := id hSi
      have e0 : va_rf (f i) = .ref (h + 2 + 3 * i) := by rw [h6 i (by omega)]; rfl
      refine xp_iload_2 (pc := 4) hX d_Poo_seenByInnermost_4 ?_
      refine xp_aload_0 (pc := 5) hX d_Poo_seenByInnermost_5 ?_
      refine xg_get (pc := 6) hX (j := 1) k_Poo d_Poo_seenByInnermost_6 l_Poo_18 (by decide) (by first | assumption | exact xup_s _ _ _ | exact xup_o (by omega) (by assumption) | exact xup_o (by omega) (xup_s _ _ _) | exact xup_o (by omega) (xup_o (by omega) (by assumption)) | exact xup_o (by omega) (xup_o (by omega) (xup_s _ _ _)) | exact xup_o (by omega) (xup_o (by omega) (xup_o (by omega) (by assumption)))) (by rfl) ?_
      refine xn_icmp_ge (pc := 9) hX 52 d_Poo_seenByInnermost_9 (by decide) (by omega) (by omega) (fun z => absurd z (by omega)) (fun _ => ?_)
      refine xp_iload_2 (pc := 12) hX d_Poo_seenByInnermost_12 ?_
      refine xp_aload_0 (pc := 13) hX d_Poo_seenByInnermost_13 ?_
      refine xg_get (pc := 14) hX (j := 0) k_Poo d_Poo_seenByInnermost_14 l_Poo_11 (by decide) (by first | assumption | exact xup_s _ _ _ | exact xup_o (by omega) (by assumption) | exact xup_o (by omega) (xup_s _ _ _) | exact xup_o (by omega) (xup_o (by omega) (by assumption)) | exact xup_o (by omega) (xup_o (by omega) (xup_s _ _ _)) | exact xup_o (by omega) (xup_o (by omega) (xup_o (by omega) (by assumption)))) (by rfl) ?_
      refine xn_alen (pc := 17) hX (t := 3) d_Poo_seenByInnermost_17 rfl (by first | assumption | exact xup_s _ _ _ | exact xup_o (by omega) (by assumption) | exact xup_o (by omega) (xup_s _ _ _) | exact xup_o (by omega) (xup_o (by omega) (by assumption)) | exact xup_o (by omega) (xup_o (by omega) (xup_s _ _ _)) | exact xup_o (by omega) (xup_o (by omega) (xup_o (by omega) (by assumption)))) ?_
      refine xn_icmp_ge (pc := 18) hX 52 d_Poo_seenByInnermost_18 (by decide) (by omega) (by omega) (fun z => absurd z (by omega)) (fun _ => ?_)
      refine xp_aload_0 (pc := 21) hX d_Poo_seenByInnermost_21 ?_
      refine xg_get (pc := 22) hX (j := 0) k_Poo d_Poo_seenByInnermost_22 l_Poo_11 (by decide) (by first | assumption | exact xup_s _ _ _ | exact xup_o (by omega) (by assumption) | exact xup_o (by omega) (xup_s _ _ _) | exact xup_o (by omega) (xup_o (by omega) (by assumption)) | exact xup_o (by omega) (xup_o (by omega) (xup_s _ _ _)) | exact xup_o (by omega) (xup_o (by omega) (xup_o (by omega) (by assumption)))) (by rfl) ?_
      refine xp_iload_2 (pc := 25) hX d_Poo_seenByInnermost_25 ?_
      refine xn_aald (pc := 26) hX (t := 3) d_Poo_seenByInnermost_26 rfl (by first | assumption | exact xup_s _ _ _ | exact xup_o (by omega) (by assumption) | exact xup_o (by omega) (xup_s _ _ _) | exact xup_o (by omega) (xup_o (by omega) (by assumption)) | exact xup_o (by omega) (xup_o (by omega) (xup_s _ _ _)) | exact xup_o (by omega) (xup_o (by omega) (xup_o (by omega) (by assumption)))) (by omega) (by omega) (by first | assumption | rfl) ?_
      first | refine xp_astore_3 (pc := 27) hX d_Poo_seenByInnermost_27 (by decide) ?_ | refine xp_astoreN_3 (pc := 27) hX d_Poo_seenByInnermost_27 (by decide) ?_
      refine xp_aload_3 (pc := 28) hX d_Poo_seenByInnermost_28 ?_
      refine xg_ifnull (pc := 29) hX d_Poo_seenByInnermost_29 ?_
      refine xp_aload_3 (pc := 32) hX d_Poo_seenByInnermost_32 ?_
      refine xg_get (pc := 33) hX (j := 1) k_Sig d_Poo_seenByInnermost_33 l_Poo_35 (by decide) (by first | assumption | exact xup_s _ _ _ | exact xup_o (by omega) (by assumption) | exact xup_o (by omega) (xup_s _ _ _) | exact xup_o (by omega) (xup_o (by omega) (by assumption)) | exact xup_o (by omega) (xup_o (by omega) (xup_s _ _ _)) | exact xup_o (by omega) (xup_o (by omega) (xup_o (by omega) (by assumption)))) (by rfl) ?_
      refine xp_aload_0 (pc := 36) hX d_Poo_seenByInnermost_36 ?_
      refine xi_V (Y2 := Y_Poo_innermost) (pc := 37) hX [] k_Poo m_Poo_innermost d_Poo_seenByInnermost_37 l_Poo_55 rfl rfl (by simp [Value.category]) (by first | assumption | exact xup_s _ _ _ | exact xup_o (by omega) (by assumption) | exact xup_o (by omega) (xup_s _ _ _) | exact xup_o (by omega) (xup_o (by omega) (by assumption)) | exact xup_o (by omega) (xup_o (by omega) (xup_s _ _ _)) | exact xup_o (by omega) (xup_o (by omega) (xup_o (by omega) (by assumption)))) (c_Poo_innermost d hs) (by omega) (by omega) ?_
      rintro y M' ⟨rfl, rfl⟩
      refine xn_icmp_ne (pc := 40) hX 46 d_Poo_seenByInnermost_40 (by decide) (by omega) (by omega) (fun z => ?_) (fun z => ?_)
      · refine xp_inc_2 (pc := 46) hX d_Poo_seenByInnermost_46 (by decide) ?_
        refine xg_goto (pc := 49) hX 4 d_Poo_seenByInnermost_49 (by decide) ?_
        refine xp_drop_3 ?_
        have h9 := ih (i + 1) (by omega)
        rw [ht, if_neg (by simpa using z)] at h9
        exact h9
      · refine xp_inc_1 (pc := 43) hX d_Poo_seenByInnermost_43 (by decide) ?_
        refine xp_inc_2 (pc := 46) hX d_Poo_seenByInnermost_46 (by decide) ?_
        refine xg_goto (pc := 49) hX 4 d_Poo_seenByInnermost_49 (by decide) ?_
        refine xp_drop_3 ?_
        have h9 := ih (i + 1) (by omega)
        rw [ht, if_pos (by simpa using z)] at h9
        exact h9
  refine xg_iconst (pc := 0) hX (nI 0) d_Poo_seenByInnermost_0 ci_iconst_0 ?_
  refine xp_istore_1 (pc := 1) hX d_Poo_seenByInnermost_1 (by decide) ?_
  refine xg_iconst (pc := 2) hX (nI 0) d_Poo_seenByInnermost_2 ci_iconst_0 ?_
  refine xp_istore_2 (pc := 3) hX d_Poo_seenByInnermost_3 (by decide) ?_
  exact loop se.length 0 (by omega)
set_option maxHeartbeats 4000000 in
set_option maxRecDepth 100000 in
theorem c_Poo_leave (d : Nat) {M : xH} {sz h dp : Nat} {se : List xSe} (hs : PoA M h dp se) (hdp : 2 ≤ dp) : xC (d + 2) 0 0 Y_Poo_leave [.ref h] M sz (qv sz (fun M' => PoA M' h (dp - 1) (se.take (se.length - cnt se (dp - 1))) ∧ ∀ q, q ≠ h → M' q = M q)) := by
  refine xC_of (by decide) (Nat.le_of_ble_eq_true rfl) (by simp [Value.category]) (vs := [some (.ref h)]) rfl (fun K hX hE => ?_)
  obtain ⟨S, ⟨h1, h2, h3, h4, ⟨f, h5, h6⟩, h7⟩, h8⟩ := id hs
  have hc := cnt_le se (dp - 1)
  refine xp_aload_0 (pc := 0) hX d_Poo_leave_0 ?_
  refine xg_dup (pc := 1) hX d_Poo_leave_1 rfl ?_
  refine xg_get (pc := 2) hX (j := 1) k_Poo d_Poo_leave_2 l_Poo_18 (by decide) (by first | assumption | exact xup_s _ _ _ | exact xup_o (by omega) (by assumption) | exact xup_o (by omega) (xup_s _ _ _) | exact xup_o (by omega) (xup_o (by omega) (by assumption)) | exact xup_o (by omega) (xup_o (by omega) (xup_s _ _ _)) | exact xup_o (by omega) (xup_o (by omega) (xup_o (by omega) (by assumption)))) (by rfl) ?_
  refine xp_aload_0 (pc := 5) hX d_Poo_leave_5 ?_
  refine xi_V (Y2 := Y_Poo_seenByInnermost) (pc := 6) hX [] k_Poo m_Poo_seenByInnermost d_Poo_leave_6 l_Poo_25 rfl rfl (by simp [Value.category]) (by first | assumption | exact xup_s _ _ _ | exact xup_o (by omega) (by assumption) | exact xup_o (by omega) (xup_s _ _ _) | exact xup_o (by omega) (xup_o (by omega) (by assumption)) | exact xup_o (by omega) (xup_o (by omega) (xup_s _ _ _)) | exact xup_o (by omega) (xup_o (by omega) (xup_o (by omega) (by assumption)))) (c_Poo_seenByInnermost d hs) (by omega) (by omega) ?_
  rintro y M' ⟨rfl, rfl⟩
  first | refine xn_isub (pc := 9) hX d_Poo_leave_9 (by omega) ?_ | refine xg_isub (pc := 9) hX d_Poo_leave_9 ?_
  refine xg_put (pc := 10) hX (j := 1) k_Poo d_Poo_leave_10 l_Poo_18 (by decide) rfl (by first | assumption | exact xup_s _ _ _ | exact xup_o (by omega) (by assumption) | exact xup_o (by omega) (xup_s _ _ _) | exact xup_o (by omega) (xup_o (by omega) (by assumption)) | exact xup_o (by omega) (xup_o (by omega) (xup_s _ _ _)) | exact xup_o (by omega) (xup_o (by omega) (xup_o (by omega) (by assumption)))) (Nat.le_of_ble_eq_true rfl) rfl rfl (by simp only [List.set_cons_zero, List.set_cons_succ]; exact rfl) ?_
  refine xp_aload_0 (pc := 13) hX d_Poo_leave_13 ?_
  refine xg_dup (pc := 14) hX d_Poo_leave_14 rfl ?_
  refine xg_get (pc := 15) hX (j := 2) k_Poo d_Poo_leave_15 l_Poo_22 (by decide) (by first | assumption | exact xup_s _ _ _ | exact xup_o (by omega) (by assumption) | exact xup_o (by omega) (xup_s _ _ _) | exact xup_o (by omega) (xup_o (by omega) (by assumption)) | exact xup_o (by omega) (xup_o (by omega) (xup_s _ _ _)) | exact xup_o (by omega) (xup_o (by omega) (xup_o (by omega) (by assumption)))) (by rfl) ?_
  refine xg_iconst (pc := 18) hX (nI 1) d_Poo_leave_18 ci_iconst_1 ?_
  first | refine xn_isub (pc := 19) hX d_Poo_leave_19 (by omega) ?_ | refine xg_isub (pc := 19) hX d_Poo_leave_19 ?_
  refine xg_put (pc := 20) hX (j := 2) k_Poo d_Poo_leave_20 l_Poo_22 (by decide) rfl (by first | assumption | exact xup_s _ _ _ | exact xup_o (by omega) (by assumption) | exact xup_o (by omega) (xup_s _ _ _) | exact xup_o (by omega) (xup_o (by omega) (by assumption)) | exact xup_o (by omega) (xup_o (by omega) (xup_s _ _ _)) | exact xup_o (by omega) (xup_o (by omega) (xup_o (by omega) (by assumption)))) (Nat.le_of_ble_eq_true rfl) rfl rfl (by simp only [List.set_cons_zero, List.set_cons_succ]; exact rfl) ?_
  refine xg_vret (pc := 23) hX hE d_Poo_leave_23 rfl (by omega) (by omega) ?_
  refine ⟨rfl, rfl, ⟨S, ⟨?_, by simp; omega, by omega, by omega, ⟨f, xup_o (by omega) (xup_o (by omega) h5), h6⟩, fun j hj => (h7 j hj).kept (fun q _ _ => by rw [xup_n _ _ (by omega), xup_n _ _ (by omega)])⟩, fun j s hj => ?_⟩, fun q hq => by rw [xup_n _ _ hq, xup_n _ _ hq]⟩
  · rw [xup_s, List.length_take, Nat.min_eq_left (by omega)]
  · refine h8 j s ?_
    have := (List.getElem?_eq_some_iff.mp hj).1
    rw [List.length_take] at this
    rw [List.getElem?_take_of_lt (by omega)] at hj
    exact hj
/-- the innermost pool was told this very name -/
def told1 (se : List xSe) (q : Nat) (nm : List UInt8) : Bool := se.any (fun s => s.1 == q && s.2 == nm)
set_option maxHeartbeats 4000000 in
set_option maxRecDepth 100000 in
theorem c_Poo_sees (d : Nat) {M : xH} {sz h dp t wt : Nat} {se : List xSe} {nm : List UInt8} (hs : PoA M h dp se) (ht : RowAt M t wt nm) (hwt : wt < 1000000) : xC (d + 1) 0 0 Y_Poo_sees [.ref h, .ref t] M sz (qi sz (fun y M' => y = bI (told1 se (dp - 1) nm) ∧ M' = M)) := by
  refine xC_of (by decide) (Nat.le_of_ble_eq_true rfl) (by simp [Value.category]) (vs := [some (.ref h), some (.ref t), none, none]) rfl (fun K hX hE => ?_)
  obtain ⟨S, ⟨h1, h2, h3, h4, ⟨f, h5, h6⟩, h7⟩, h8⟩ := id hs
  obtain ⟨t1, t2, -⟩ := id ht
  have loop : ∀ (m i : Nat), i + m = se.length → (∀ (j : Nat) (s : xSe), j < i → se[j]? = some s → (s.1 == dp - 1 && s.2 == nm) = false) → xG K 2 [some (.ref h), some (.ref t), some (.int (nI i)), none] [] M sz 0 0 := by
    intro m
    induction m with
    | zero =>
      intro i hi hn
      refine xp_iload_2 (pc := 2) hX d_Poo_sees_2 ?_
      refine xp_aload_0 (pc := 3) hX d_Poo_sees_3 ?_
      refine xg_get (pc := 4) hX (j := 1) k_Poo d_Poo_sees_4 l_Poo_18 (by decide) (by first | assumption | exact xup_s _ _ _ | exact xup_o (by omega) (by assumption) | exact xup_o (by omega) (xup_s _ _ _) | exact xup_o (by omega) (xup_o (by omega) (by assumption)) | exact xup_o (by omega) (xup_o (by omega) (xup_s _ _ _)) | exact xup_o (by omega) (xup_o (by omega) (xup_o (by omega) (by assumption)))) (by rfl) ?_
      refine xn_icmp_ge (pc := 7) hX 74 d_Poo_sees_7 (by decide) (by omega) (by omega) (fun _ => ?_) (fun z => absurd z (by omega))
      refine xg_iconst (pc := 74) hX (nI 0) d_Poo_sees_74 ci_iconst_0 ?_
      refine xg_iret (pc := 75) hX hE d_Poo_sees_75 rfl rfl (by omega) (by omega) ?_
      refine ⟨rfl, _, rfl, ?_, rfl⟩
      have : told1 se (dp - 1) nm = false := by
        unfold told1
        rw [List.any_eq_false]
        intro s hs
        obtain ⟨j, hj⟩ := List.getElem?_of_mem hs
        have := hn j s (by have := (List.getElem?_eq_some_iff.mp hj).1; omega) hj
        simp [this]
      rw [this]; rfl
    | succ m ih =>
      intro i hi hn
      have hS : se[i]? = some (se[i]'(by omega)) := List.getElem?_eq_getElem (by omega)
      have hSm := h8 i _ hS
      have hmem := List.getElem_mem (show i < se.length by omega)
      generalize se[i]'(by omega) = s at hS hSm hmem
      have hSi := h7 i (by omega)
      rw [hSm] at hSi
      obtain ⟨s1, s2, s3⟩ := id hSi
      obtain ⟨r1, r2, -⟩ := id s3
      have e0 : va_rf (f i) = .ref (h + 2 + 3 * i) := by rw [h6 i (by omega)]; rfl
      have next : (s.1 == dp - 1 && s.2 == nm) = false → xG K 68 [some (.ref h), some (.ref t), some (.int (nI i)), some (.ref (h + 2 + 3 * i))] [] M sz 0 0 := by
        intro hno
        refine xp_inc_2 (pc := 68) hX d_Poo_sees_68 (by decide) ?_
        refine xg_goto (pc := 71) hX 2 d_Poo_sees_71 (by decide) ?_
        refine xp_drop_3 ?_
        refine ih (i + 1) (by omega) (fun j s' hj hs' => ?_)
        rcases Nat.lt_or_ge j i with z | z
        · exact hn j s' z hs'
        · rw [show j = i by omega, hS] at hs'
          cases hs'
          exact hno
      refine xp_iload_2 (pc := 2) hX d_Poo_sees_2 ?_
      refine xp_aload_0 (pc := 3) hX d_Poo_sees_3 ?_
      refine xg_get (pc := 4) hX (j := 1) k_Poo d_Poo_sees_4 l_Poo_18 (by decide) (by first | assumption | exact xup_s _ _ _ | exact xup_o (by omega) (by assumption) | exact xup_o (by omega) (xup_s _ _ _) | exact xup_o (by omega) (xup_o (by omega) (by assumption)) | exact xup_o (by omega) (xup_o (by omega) (xup_s _ _ _)) | exact xup_o (by omega) (xup_o (by omega) (xup_o (by omega) (by assumption)))) (by rfl) ?_
      refine xn_icmp_ge (pc := 7) hX 74 d_Poo_sees_7 (by decide) (by omega) (by omega) (fun z => absurd z (by omega)) (fun _ => ?_)
      refine xp_iload_2 (pc := 10) hX d_Poo_sees_10 ?_
      refine xp_aload_0 (pc := 11) hX d_Poo_sees_11 ?_
      refine xg_get (pc := 12) hX (j := 0) k_Poo d_Poo_sees_12 l_Poo_11 (by decide) (by first | assumption | exact xup_s _ _ _ | exact xup_o (by omega) (by assumption) | exact xup_o (by omega) (xup_s _ _ _) | exact xup_o (by omega) (xup_o (by omega) (by assumption)) | exact xup_o (by omega) (xup_o (by omega) (xup_s _ _ _)) | exact xup_o (by omega) (xup_o (by omega) (xup_o (by omega) (by assumption)))) (by rfl) ?_
      refine xn_alen (pc := 15) hX (t := 3) d_Poo_sees_15 rfl (by first | assumption | exact xup_s _ _ _ | exact xup_o (by omega) (by assumption) | exact xup_o (by omega) (xup_s _ _ _) | exact xup_o (by omega) (xup_o (by omega) (by assumption)) | exact xup_o (by omega) (xup_o (by omega) (xup_s _ _ _)) | exact xup_o (by omega) (xup_o (by omega) (xup_o (by omega) (by assumption)))) ?_
      refine xn_icmp_ge (pc := 16) hX 74 d_Poo_sees_16 (by decide) (by omega) (by omega) (fun z => absurd z (by omega)) (fun _ => ?_)
      refine xp_aload_0 (pc := 19) hX d_Poo_sees_19 ?_
      refine xg_get (pc := 20) hX (j := 0) k_Poo d_Poo_sees_20 l_Poo_11 (by decide) (by first | assumption | exact xup_s _ _ _ | exact xup_o (by omega) (by assumption) | exact xup_o (by omega) (xup_s _ _ _) | exact xup_o (by omega) (xup_o (by omega) (by assumption)) | exact xup_o (by omega) (xup_o (by omega) (xup_s _ _ _)) | exact xup_o (by omega) (xup_o (by omega) (xup_o (by omega) (by assumption)))) (by rfl) ?_
      refine xp_iload_2 (pc := 23) hX d_Poo_sees_23 ?_
      refine xn_aald (pc := 24) hX (t := 3) d_Poo_sees_24 rfl (by first | assumption | exact xup_s _ _ _ | exact xup_o (by omega) (by assumption) | exact xup_o (by omega) (xup_s _ _ _) | exact xup_o (by omega) (xup_o (by omega) (by assumption)) | exact xup_o (by omega) (xup_o (by omega) (xup_s _ _ _)) | exact xup_o (by omega) (xup_o (by omega) (xup_o (by omega) (by assumption)))) (by omega) (by omega) (by first | assumption | rfl) ?_
      first | refine xp_astore_3 (pc := 25) hX d_Poo_sees_25 (by decide) ?_ | refine xp_astoreN_3 (pc := 25) hX d_Poo_sees_25 (by decide) ?_
      refine xp_aload_3 (pc := 26) hX d_Poo_sees_26 ?_
      refine xg_ifnull (pc := 27) hX d_Poo_sees_27 ?_
      refine xp_aload_3 (pc := 30) hX d_Poo_sees_30 ?_
      refine xg_get (pc := 31) hX (j := 1) k_Sig d_Poo_sees_31 l_Poo_35 (by decide) (by first | assumption | exact xup_s _ _ _ | exact xup_o (by omega) (by assumption) | exact xup_o (by omega) (xup_s _ _ _) | exact xup_o (by omega) (xup_o (by omega) (by assumption)) | exact xup_o (by omega) (xup_o (by omega) (xup_s _ _ _)) | exact xup_o (by omega) (xup_o (by omega) (xup_o (by omega) (by assumption)))) (by rfl) ?_
      refine xp_aload_0 (pc := 34) hX d_Poo_sees_34 ?_
      refine xi_V (Y2 := Y_Poo_innermost) (pc := 35) hX [] k_Poo m_Poo_innermost d_Poo_sees_35 l_Poo_55 rfl rfl (by simp [Value.category]) (by first | assumption | exact xup_s _ _ _ | exact xup_o (by omega) (by assumption) | exact xup_o (by omega) (xup_s _ _ _) | exact xup_o (by omega) (xup_o (by omega) (by assumption)) | exact xup_o (by omega) (xup_o (by omega) (xup_s _ _ _)) | exact xup_o (by omega) (xup_o (by omega) (xup_o (by omega) (by assumption)))) (c_Poo_innermost d hs) (by omega) (by omega) ?_
      rintro y M' ⟨rfl, rfl⟩
      refine xn_icmp_ne (pc := 38) hX 68 d_Poo_sees_38 (by decide) (by omega) (by omega) (fun z => ?_) (fun z => ?_)
      · exact next (by simp [z])
      · refine xp_aload_3 (pc := 41) hX d_Poo_sees_41 ?_
        refine xg_get (pc := 42) hX (j := 0) k_Sig d_Poo_sees_42 l_Poo_45 (by decide) (by first | assumption | exact xup_s _ _ _ | exact xup_o (by omega) (by assumption) | exact xup_o (by omega) (xup_s _ _ _) | exact xup_o (by omega) (xup_o (by omega) (by assumption)) | exact xup_o (by omega) (xup_o (by omega) (xup_s _ _ _)) | exact xup_o (by omega) (xup_o (by omega) (xup_o (by omega) (by assumption)))) (by rfl) ?_
        refine xg_get (pc := 45) hX (j := 1) k_Row d_Poo_sees_45 l_Poo_66 (by decide) (by first | assumption | exact xup_s _ _ _ | exact xup_o (by omega) (by assumption) | exact xup_o (by omega) (xup_s _ _ _) | exact xup_o (by omega) (xup_o (by omega) (by assumption)) | exact xup_o (by omega) (xup_o (by omega) (xup_s _ _ _)) | exact xup_o (by omega) (xup_o (by omega) (xup_o (by omega) (by assumption)))) (by rfl) ?_
        refine xp_aload_1 (pc := 48) hX d_Poo_sees_48 ?_
        refine xg_get (pc := 49) hX (j := 1) k_Row d_Poo_sees_49 l_Poo_66 (by decide) (by first | assumption | exact xup_s _ _ _ | exact xup_o (by omega) (by assumption) | exact xup_o (by omega) (xup_s _ _ _) | exact xup_o (by omega) (xup_o (by omega) (by assumption)) | exact xup_o (by omega) (xup_o (by omega) (xup_s _ _ _)) | exact xup_o (by omega) (xup_o (by omega) (xup_o (by omega) (by assumption)))) (by rfl) ?_
        refine xn_icmp_ne (pc := 52) hX 68 d_Poo_sees_52 (by decide) (by omega) (by omega) (fun z1 => ?_) (fun z1 => ?_)
        · exact next (by
            have : (s.2 == nm) = false := by
              rw [beq_eq_false_iff_ne]
              intro w; rw [w] at z1; exact z1 rfl
            simp [this])
        · refine xp_aload_3 (pc := 55) hX d_Poo_sees_55 ?_
          refine xg_get (pc := 56) hX (j := 0) k_Sig d_Poo_sees_56 l_Poo_45 (by decide) (by first | assumption | exact xup_s _ _ _ | exact xup_o (by omega) (by assumption) | exact xup_o (by omega) (xup_s _ _ _) | exact xup_o (by omega) (xup_o (by omega) (by assumption)) | exact xup_o (by omega) (xup_o (by omega) (xup_s _ _ _)) | exact xup_o (by omega) (xup_o (by omega) (xup_o (by omega) (by assumption)))) (by rfl) ?_
          refine xp_aload_1 (pc := 59) hX d_Poo_sees_59 ?_
          refine xi_V (Y2 := Y_Row_beginsWith) (pc := 60) hX [_] k_Row m_Row_beginsWith d_Poo_sees_60 l_Poo_69 rfl rfl (by simp [Value.category]) (by first | assumption | exact xup_s _ _ _ | exact xup_o (by omega) (by assumption) | exact xup_o (by omega) (xup_s _ _ _) | exact xup_o (by omega) (xup_o (by omega) (by assumption)) | exact xup_o (by omega) (xup_o (by omega) (xup_s _ _ _)) | exact xup_o (by omega) (xup_o (by omega) (xup_o (by omega) (by assumption)))) (c_Row_beginsWith d s3 ht (by omega) (by omega)) (by omega) (by omega) ?_
          rintro y M' ⟨rfl, rfl⟩
          rw [pre_eq z1]
          refine xg_if_eq (pc := 63) hX 68 d_Poo_sees_63 (by decide) (fun q2 => ?_) (fun q2 => ?_)
          · exact next (by simp [bI_eq0.mp q2])
          · refine xg_iconst (pc := 66) hX (nI 1) d_Poo_sees_66 ci_iconst_1 ?_
            refine xg_iret (pc := 67) hX hE d_Poo_sees_67 rfl rfl (by omega) (by omega) ?_
            refine ⟨rfl, _, rfl, ?_, rfl⟩
            have : told1 se (dp - 1) nm = true := by
              unfold told1
              rw [List.any_eq_true]
              exact ⟨s, hmem, by simp [z, bI_ne0.mp q2]⟩
            rw [this]; rfl
  refine xg_iconst (pc := 0) hX (nI 0) d_Poo_sees_0 ci_iconst_0 ?_
  refine xp_istore_2 (pc := 1) hX d_Poo_sees_1 (by decide) ?_
  exact loop se.length 0 (by omega) (fun j s hj => absurd hj (by omega))
set_option maxHeartbeats 4000000 in
set_option maxRecDepth 100000 in
theorem c_Poo_innermost0 (d : Nat) {M : xH} {sz h dp : Nat} {u v : Value} (h1 : M h = some (.inr (4, [u, v, .int (nI dp)]))) (h3 : 1 ≤ dp) (h4 : dp ≤ 100) : xC d 0 0 Y_Poo_innermost [.ref h] M sz (qi sz (fun y M' => y = nI (dp - 1) ∧ M' = M)) := by
  refine xC_of (by decide) (Nat.le_of_ble_eq_true rfl) (by simp [Value.category]) (vs := [some (.ref h)]) rfl (fun K hX hE => ?_)
  refine xp_aload_0 (pc := 0) hX d_Poo_innermost_0 ?_
  refine xg_get (pc := 1) hX (j := 2) k_Poo d_Poo_innermost_1 l_Poo_22 (by decide) (by first | assumption | exact xup_s _ _ _ | exact xup_o (by omega) (by assumption) | exact xup_o (by omega) (xup_s _ _ _) | exact xup_o (by omega) (xup_o (by omega) (by assumption)) | exact xup_o (by omega) (xup_o (by omega) (xup_s _ _ _)) | exact xup_o (by omega) (xup_o (by omega) (xup_o (by omega) (by assumption)))) (by rfl) ?_
  refine xg_iconst (pc := 4) hX (nI 1) d_Poo_innermost_4 ci_iconst_1 ?_
  first | refine xn_isub (pc := 5) hX d_Poo_innermost_5 (by omega) ?_ | refine xg_isub (pc := 5) hX d_Poo_innermost_5 ?_
  refine xg_iret (pc := 6) hX hE d_Poo_innermost_6 rfl rfl (by omega) (by omega) ?_
  exact ⟨rfl, _, rfl, rfl, rfl⟩
set_option maxHeartbeats 4000000 in
set_option maxRecDepth 100000 in
theorem c_Poo_see (d : Nat) {M : xH} {sz h dp t wt : Nat} {se : List xSe} {nm : List UInt8} (hs : PoA M h dp se) (ht : RowAt M t wt nm) (htd : t + 1 < h ∨ h + 254 ≤ t) (hnm : nm.length ≤ 200) (hroom : se.length < 84) (hwt : wt < 1000000) : xC (d + 3) 0 0 Y_Poo_see [.ref h, .ref t] M sz (qv sz (fun M' => PoA M' h dp (if told1 se (dp - 1) nm then se else se ++ [(dp - 1, nm)]) ∧ FrR M M' h (h + 254))) := by
  refine xC_of (by decide) (Nat.le_of_ble_eq_true rfl) (by simp [Value.category]) (vs := [some (.ref h), some (.ref t), none]) rfl (fun K hX hE => ?_)
  obtain ⟨S, ⟨h1, h2, h3, h4, ⟨f, h5, h6⟩, h7⟩, h8⟩ := id hs
  refine xp_aload_0 (pc := 0) hX d_Poo_see_0 ?_
  refine xp_aload_1 (pc := 1) hX d_Poo_see_1 ?_
  refine xi_V (Y2 := Y_Poo_sees) (pc := 2) hX [_] k_Poo m_Poo_sees d_Poo_see_2 l_Poo_42 rfl rfl (by simp [Value.category]) (by first | assumption | exact xup_s _ _ _ | exact xup_o (by omega) (by assumption) | exact xup_o (by omega) (xup_s _ _ _) | exact xup_o (by omega) (xup_o (by omega) (by assumption)) | exact xup_o (by omega) (xup_o (by omega) (xup_s _ _ _)) | exact xup_o (by omega) (xup_o (by omega) (xup_o (by omega) (by assumption)))) (c_Poo_sees (d + 1) hs ht hwt) (by omega) (by omega) ?_
  rintro y M' ⟨rfl, rfl⟩
  refine xg_if_ne (pc := 5) hX 27 d_Poo_see_5 (by decide) (fun q => ?_) (fun q => ?_)
  · refine xg_vret (pc := 27) hX hE d_Poo_see_27 rfl (by omega) (by omega) ?_
    refine ⟨rfl, rfl, ?_, FrR.rf _ _ _⟩
    rw [if_pos (bI_ne0.mp q)]
    exact hs
  · have q := bI_eq0.mp q
    obtain ⟨s1, s2, s3⟩ := h7 se.length hroom
    generalize S se.length = s at s1 s2 s3
    obtain ⟨r1, -⟩ := id s3
    have e0 : va_rf (f se.length) = .ref (h + 2 + 3 * se.length) := by rw [h6 _ hroom]; rfl
    generalize ha : h + 2 + 3 * se.length = a at e0 s1 s3 r1
    refine xp_aload_0 (pc := 8) hX d_Poo_see_8 ?_
    refine xg_get (pc := 9) hX (j := 1) k_Poo d_Poo_see_9 l_Poo_18 (by decide) (by first | assumption | exact xup_s _ _ _ | exact xup_o (by omega) (by assumption) | exact xup_o (by omega) (xup_s _ _ _) | exact xup_o (by omega) (xup_o (by omega) (by assumption)) | exact xup_o (by omega) (xup_o (by omega) (xup_s _ _ _)) | exact xup_o (by omega) (xup_o (by omega) (xup_o (by omega) (by assumption)))) (by rfl) ?_
    refine xn_if_lt (pc := 12) hX 27 d_Poo_see_12 (by decide) (by omega) ?_
    refine xp_aload_0 (pc := 15) hX d_Poo_see_15 ?_
    refine xg_get (pc := 16) hX (j := 1) k_Poo d_Poo_see_16 l_Poo_18 (by decide) (by first | assumption | exact xup_s _ _ _ | exact xup_o (by omega) (by assumption) | exact xup_o (by omega) (xup_s _ _ _) | exact xup_o (by omega) (xup_o (by omega) (by assumption)) | exact xup_o (by omega) (xup_o (by omega) (xup_s _ _ _)) | exact xup_o (by omega) (xup_o (by omega) (xup_o (by omega) (by assumption)))) (by rfl) ?_
    refine xp_aload_0 (pc := 19) hX d_Poo_see_19 ?_
    refine xg_get (pc := 20) hX (j := 0) k_Poo d_Poo_see_20 l_Poo_11 (by decide) (by first | assumption | exact xup_s _ _ _ | exact xup_o (by omega) (by assumption) | exact xup_o (by omega) (xup_s _ _ _) | exact xup_o (by omega) (xup_o (by omega) (by assumption)) | exact xup_o (by omega) (xup_o (by omega) (xup_s _ _ _)) | exact xup_o (by omega) (xup_o (by omega) (xup_o (by omega) (by assumption)))) (by rfl) ?_
    refine xn_alen (pc := 23) hX (t := 3) d_Poo_see_23 rfl (by first | assumption | exact xup_s _ _ _ | exact xup_o (by omega) (by assumption) | exact xup_o (by omega) (xup_s _ _ _) | exact xup_o (by omega) (xup_o (by omega) (by assumption)) | exact xup_o (by omega) (xup_o (by omega) (xup_s _ _ _)) | exact xup_o (by omega) (xup_o (by omega) (xup_o (by omega) (by assumption)))) ?_
    refine xn_icmp_lt (pc := 24) hX 28 d_Poo_see_24 (by decide) (by omega) (by omega) (fun _ => ?_) (fun z => absurd z (by omega))
    refine xp_aload_0 (pc := 28) hX d_Poo_see_28 ?_
    refine xg_get (pc := 29) hX (j := 0) k_Poo d_Poo_see_29 l_Poo_11 (by decide) (by first | assumption | exact xup_s _ _ _ | exact xup_o (by omega) (by assumption) | exact xup_o (by omega) (xup_s _ _ _) | exact xup_o (by omega) (xup_o (by omega) (by assumption)) | exact xup_o (by omega) (xup_o (by omega) (xup_s _ _ _)) | exact xup_o (by omega) (xup_o (by omega) (xup_o (by omega) (by assumption)))) (by rfl) ?_
    refine xp_aload_0 (pc := 32) hX d_Poo_see_32 ?_
    refine xg_get (pc := 33) hX (j := 1) k_Poo d_Poo_see_33 l_Poo_18 (by decide) (by first | assumption | exact xup_s _ _ _ | exact xup_o (by omega) (by assumption) | exact xup_o (by omega) (xup_s _ _ _) | exact xup_o (by omega) (xup_o (by omega) (by assumption)) | exact xup_o (by omega) (xup_o (by omega) (xup_s _ _ _)) | exact xup_o (by omega) (xup_o (by omega) (xup_o (by omega) (by assumption)))) (by rfl) ?_
    refine xn_aald (pc := 36) hX (t := 3) d_Poo_see_36 rfl (by first | assumption | exact xup_s _ _ _ | exact xup_o (by omega) (by assumption) | exact xup_o (by omega) (xup_s _ _ _) | exact xup_o (by omega) (xup_o (by omega) (by assumption)) | exact xup_o (by omega) (xup_o (by omega) (xup_s _ _ _)) | exact xup_o (by omega) (xup_o (by omega) (xup_o (by omega) (by assumption)))) (by omega) (by omega) (by first | assumption | rfl) ?_
    first | refine xp_astore_2 (pc := 37) hX d_Poo_see_37 (by decide) ?_ | refine xp_astoreN_2 (pc := 37) hX d_Poo_see_37 (by decide) ?_
    refine xp_aload_2 (pc := 38) hX d_Poo_see_38 ?_
    refine xg_ifnull (pc := 39) hX d_Poo_see_39 ?_
    refine xp_aload_2 (pc := 42) hX d_Poo_see_42 ?_
    refine xg_get (pc := 43) hX (j := 0) k_Sig d_Poo_see_43 l_Poo_45 (by decide) (by first | assumption | exact xup_s _ _ _ | exact xup_o (by omega) (by assumption) | exact xup_o (by omega) (xup_s _ _ _) | exact xup_o (by omega) (xup_o (by omega) (by assumption)) | exact xup_o (by omega) (xup_o (by omega) (xup_s _ _ _)) | exact xup_o (by omega) (xup_o (by omega) (xup_o (by omega) (by assumption)))) (by rfl) ?_
    refine xp_aload_1 (pc := 46) hX d_Poo_see_46 ?_
    refine xv_V (Y2 := Y_Row_become) (pc := 47) hX [_] k_Row m_Row_become d_Poo_see_47 l_Poo_49 rfl rfl (by simp [Value.category]) (by first | assumption | exact xup_s _ _ _ | exact xup_o (by omega) (by assumption) | exact xup_o (by omega) (xup_s _ _ _) | exact xup_o (by omega) (xup_o (by omega) (by assumption)) | exact xup_o (by omega) (xup_o (by omega) (xup_s _ _ _)) | exact xup_o (by omega) (xup_o (by omega) (xup_o (by omega) (by assumption)))) (c_Row_become d s3 ht (by omega) (by omega) (by omega) (by omega)) (by omega) (by omega) ?_
    rintro M2 ⟨a1, a2⟩
    have h1' : M2 h = some (.inr (4, [.ref (h + 1), .int (nI se.length), .int (nI dp)])) := by rw [a2 h (by omega) (by omega)]; exact h1
    have s1' : M2 a = some (.inr (3, [.ref (a + 1), .int (nI s.1), .int (bI (isSt s.2))])) := by rw [a2 a (by omega) (by omega)]; exact s1
    have ht' : RowAt M2 t wt nm := ht.kept (a2 _ (by omega) (by omega)) (a2 _ (by omega) (by omega))
    refine xp_aload_2 (pc := 50) hX d_Poo_see_50 ?_
    refine xp_aload_0 (pc := 51) hX d_Poo_see_51 ?_
    refine xi_V (Y2 := Y_Poo_innermost) (pc := 52) hX [] k_Poo m_Poo_innermost d_Poo_see_52 l_Poo_55 rfl rfl (by simp [Value.category]) (by first | assumption | exact xup_s _ _ _ | exact xup_o (by omega) (by assumption) | exact xup_o (by omega) (xup_s _ _ _) | exact xup_o (by omega) (xup_o (by omega) (by assumption)) | exact xup_o (by omega) (xup_o (by omega) (xup_s _ _ _)) | exact xup_o (by omega) (xup_o (by omega) (xup_o (by omega) (by assumption)))) (c_Poo_innermost0 (d + 2) h1' h3 h4) (by omega) (by omega) ?_
    rintro y M3 ⟨rfl, rfl⟩
    refine xg_put (pc := 55) hX (j := 1) k_Sig d_Poo_see_55 l_Poo_35 (by decide) rfl (by first | assumption | exact xup_s _ _ _ | exact xup_o (by omega) (by assumption) | exact xup_o (by omega) (xup_s _ _ _) | exact xup_o (by omega) (xup_o (by omega) (by assumption)) | exact xup_o (by omega) (xup_o (by omega) (xup_s _ _ _)) | exact xup_o (by omega) (xup_o (by omega) (xup_o (by omega) (by assumption)))) (Nat.le_of_ble_eq_true rfl) rfl rfl (by simp only [List.set_cons_zero, List.set_cons_succ]; exact rfl) ?_
    refine xp_aload_2 (pc := 58) hX d_Poo_see_58 ?_
    refine xp_aload_1 (pc := 59) hX d_Poo_see_59 ?_
    have ht'' : RowAt (xup M3 a (.inr (3, [.ref (a + 1), .int (nI (dp - 1)), .int (bI (isSt s.2))]))) t wt nm := ht'.kept (xup_n _ _ (by omega)) (xup_n _ _ (by omega))
    obtain ⟨t1, -⟩ := id ht''
    refine xi_V (Y2 := Y_Row_isStem) (pc := 60) hX [] k_Row m_Row_isStem d_Poo_see_60 l_Poo_58 rfl rfl (by simp [Value.category]) (by first | assumption | exact xup_s _ _ _ | exact xup_o (by omega) (by assumption) | exact xup_o (by omega) (xup_s _ _ _) | exact xup_o (by omega) (xup_o (by omega) (by assumption)) | exact xup_o (by omega) (xup_o (by omega) (xup_s _ _ _)) | exact xup_o (by omega) (xup_o (by omega) (xup_o (by omega) (by assumption)))) (c_Row_isStem (d + 1) ht'' (by omega)) (by omega) (by omega) ?_
    rintro y M4 ⟨rfl, rfl⟩
    refine xg_put (pc := 63) hX (j := 2) k_Sig d_Poo_see_63 l_Poo_62 (by decide) rfl (xup_s _ _ _) (Nat.le_of_ble_eq_true rfl) (by show narrow .boolean _ = _; cases isSt nm <;> rfl) (by show fits .boolean _ = _; cases isSt nm <;> rfl) (by simp only [List.set_cons_zero, List.set_cons_succ]; exact rfl) ?_
    have h1'' : xup (xup M3 a (.inr (3, [.ref (a + 1), .int (nI (dp - 1)), .int (bI (isSt s.2))]))) a (.inr (3, [.ref (a + 1), .int (nI (dp - 1)), .int (bI (isSt nm))])) h = some (.inr (4, [.ref (h + 1), .int (nI se.length), .int (nI dp)])) := xup_o (by omega) (xup_o (by omega) h1')
    refine xp_aload_0 (pc := 66) hX d_Poo_see_66 ?_
    refine xg_dup (pc := 67) hX d_Poo_see_67 rfl ?_
    refine xg_get (pc := 68) hX (j := 1) k_Poo d_Poo_see_68 l_Poo_18 (by decide) (by first | assumption | exact xup_s _ _ _ | exact xup_o (by omega) (by assumption) | exact xup_o (by omega) (xup_s _ _ _) | exact xup_o (by omega) (xup_o (by omega) (by assumption)) | exact xup_o (by omega) (xup_o (by omega) (xup_s _ _ _)) | exact xup_o (by omega) (xup_o (by omega) (xup_o (by omega) (by assumption)))) (by rfl) ?_
    refine xg_iconst (pc := 71) hX (nI 1) d_Poo_see_71 ci_iconst_1 ?_
    first | refine xn_iadd (pc := 72) hX d_Poo_see_72 ?_ | refine xg_iadd (pc := 72) hX d_Poo_see_72 ?_
    refine xg_put (pc := 73) hX (j := 1) k_Poo d_Poo_see_73 l_Poo_18 (by decide) rfl (by first | assumption | exact xup_s _ _ _ | exact xup_o (by omega) (by assumption) | exact xup_o (by omega) (xup_s _ _ _) | exact xup_o (by omega) (xup_o (by omega) (by assumption)) | exact xup_o (by omega) (xup_o (by omega) (xup_s _ _ _)) | exact xup_o (by omega) (xup_o (by omega) (xup_o (by omega) (by assumption)))) (Nat.le_of_ble_eq_true rfl) rfl rfl (by simp only [List.set_cons_zero, List.set_cons_succ]; exact rfl) ?_
    refine xg_vret (pc := 76) hX hE d_Poo_see_76 rfl (by omega) (by omega) ?_
    have hn : ∀ q, q ≠ a → q ≠ a + 1 → q ≠ a + 2 → q ≠ h → xup (xup (xup M3 a (.inr (3, [.ref (a + 1), .int (nI (dp - 1)), .int (bI (isSt s.2))]))) a (.inr (3, [.ref (a + 1), .int (nI (dp - 1)), .int (bI (isSt nm))]))) h (.inr (4, [.ref (h + 1), .int (nI (se.length + 1)), .int (nI dp)])) q = M' q := fun q b1 b2 b3 b4 => by
      rw [xup_n _ _ b4, xup_n _ _ b1, xup_n _ _ b1, a2 q b2 b3]
    refine ⟨rfl, rfl, ?_, fun q hq => hn q (by omega) (by omega) (by omega) (by omega)⟩
    rw [if_neg (by rw [q]; decide)]
    refine ⟨fun j => if j = se.length then (dp - 1, nm) else S j, ⟨?_, by simp; omega, h3, h4, ⟨f, ?_, h6⟩, fun j hj => ?_⟩, fun j s' hj => ?_⟩
    · rw [xup_s, List.length_append]; rfl
    · rw [hn _ (by omega) (by omega) (by omega) (by omega)]; exact h5
    · by_cases hjn : j = se.length
      · subst hjn
        simp only [if_true]
        rw [ha]
        exact ⟨xup_o (by omega) (xup_s _ _ _), by show dp - 1 < 1000; omega, a1.kept (by rw [xup_n _ _ (by omega), xup_n _ _ (by omega), xup_n _ _ (by omega)]) (by rw [xup_n _ _ (by omega), xup_n _ _ (by omega), xup_n _ _ (by omega)])⟩
      · simp only [if_neg hjn]
        exact (h7 j hj).kept (fun q b1 b2 => hn q (by omega) (by omega) (by omega) (by omega))
    · by_cases hjn : j = se.length
      · subst hjn
        simp at hj
        simp [hj]
      · rw [List.getElem?_append] at hj
        split at hj
        · simp only [if_neg hjn]
          exact h8 j s' hj
        · have := (List.getElem?_eq_some_iff.mp hj).1
          simp at this
          omega
end
