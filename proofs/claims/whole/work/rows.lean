section
-- ===== PART A: goes FIRST, ahead of the names: the tables' words, and 'selects' of the private methods out of them =====
/-- a private method of a class that the tables say can be made, by its rows of tables_1 -/
def lw_okq (q : MethodName × Nat) : Prop := (q.1.cls ≠ "java/lang/invoke/MethodHandle" ∧ q.1.cls ≠ "java/lang/invoke/VarHandle") ∧ Cond.instantiable q.1.cls q.2 ∈ tables_1 ∧ Cond.privateMethod q.1 ∈ tables_1 ∧ Cond.instanceMethod q.1 ∈ tables_1
theorem lw_p0 : lw_okq (⟨"NameRoom$Reader", "begin", "()V"⟩, 8) := ⟨⟨by decide +kernel, by decide +kernel⟩, List.mem_of_getElem? (i := 21) (by decide +kernel), List.mem_of_getElem? (i := 267) (by decide +kernel), List.mem_of_getElem? (i := 268) (by decide +kernel)⟩
theorem lw_p1 : lw_okq (⟨"NameRoom$Reader", "readVariable", "(I)V"⟩, 8) := ⟨⟨by decide +kernel, by decide +kernel⟩, List.mem_of_getElem? (i := 21) (by decide +kernel), List.mem_of_getElem? (i := 271) (by decide +kernel), List.mem_of_getElem? (i := 272) (by decide +kernel)⟩
theorem lw_p2 : lw_okq (⟨"NameRoom$Reader", "fail", "(I)V"⟩, 8) := ⟨⟨by decide +kernel, by decide +kernel⟩, List.mem_of_getElem? (i := 21) (by decide +kernel), List.mem_of_getElem? (i := 283) (by decide +kernel), List.mem_of_getElem? (i := 284) (by decide +kernel)⟩
theorem lw_p3 : lw_okq (⟨"NameRoom$Reader", "add", "(III)V"⟩, 8) := ⟨⟨by decide +kernel, by decide +kernel⟩, List.mem_of_getElem? (i := 21) (by decide +kernel), List.mem_of_getElem? (i := 287) (by decide +kernel), List.mem_of_getElem? (i := 288) (by decide +kernel)⟩
theorem lw_p4 : lw_okq (⟨"NameRoom", "workOut", "(I)Z"⟩, 10) := ⟨⟨by decide +kernel, by decide +kernel⟩, List.mem_of_getElem? (i := 13) (by decide +kernel), List.mem_of_getElem? (i := 291) (by decide +kernel), List.mem_of_getElem? (i := 292) (by decide +kernel)⟩
theorem lw_p5 : lw_okq (⟨"NameRoom", "addTail", "(II)Z"⟩, 10) := ⟨⟨by decide +kernel, by decide +kernel⟩, List.mem_of_getElem? (i := 13) (by decide +kernel), List.mem_of_getElem? (i := 319) (by decide +kernel), List.mem_of_getElem? (i := 320) (by decide +kernel)⟩
theorem lw_p6 : lw_okq (⟨"NameRoom", "give", "(LNameRoom$Row;II)I"⟩, 10) := ⟨⟨by decide +kernel, by decide +kernel⟩, List.mem_of_getElem? (i := 13) (by decide +kernel), List.mem_of_getElem? (i := 355) (by decide +kernel), List.mem_of_getElem? (i := 356) (by decide +kernel)⟩
theorem lw_p7 : lw_okq (⟨"NameRoom$Shelf", "sweep", "()V"⟩, 2) := ⟨⟨by decide +kernel, by decide +kernel⟩, List.mem_of_getElem? (i := 82) (by decide +kernel), List.mem_of_getElem? (i := 368) (by decide +kernel), List.mem_of_getElem? (i := 369) (by decide +kernel)⟩
theorem lw_p8 : lw_okq (⟨"NameRoom", "workOutAlone", "()I"⟩, 10) := ⟨⟨by decide +kernel, by decide +kernel⟩, List.mem_of_getElem? (i := 13) (by decide +kernel), List.mem_of_getElem? (i := 387) (by decide +kernel), List.mem_of_getElem? (i := 388) (by decide +kernel)⟩
theorem lw_p9 : lw_okq (⟨"NameRoom", "told", "()LNameRoom$Entry;"⟩, 10) := ⟨⟨by decide +kernel, by decide +kernel⟩, List.mem_of_getElem? (i := 13) (by decide +kernel), List.mem_of_getElem? (i := 395) (by decide +kernel), List.mem_of_getElem? (i := 396) (by decide +kernel)⟩
theorem lw_p10 : lw_okq (⟨"NameRoom", "stemOf", "(I)LNameRoom$Entry;"⟩, 10) := ⟨⟨by decide +kernel, by decide +kernel⟩, List.mem_of_getElem? (i := 13) (by decide +kernel), List.mem_of_getElem? (i := 399) (by decide +kernel), List.mem_of_getElem? (i := 400) (by decide +kernel)⟩
theorem lw_p11 : lw_okq (⟨"NameRoom", "textOf", "(LNameRoom$Entry;)LNameRoom$Row;"⟩, 10) := ⟨⟨by decide +kernel, by decide +kernel⟩, List.mem_of_getElem? (i := 13) (by decide +kernel), List.mem_of_getElem? (i := 407) (by decide +kernel), List.mem_of_getElem? (i := 408) (by decide +kernel)⟩
theorem lw_p12 : lw_okq (⟨"NameRoom", "takeBack", "()I"⟩, 10) := ⟨⟨by decide +kernel, by decide +kernel⟩, List.mem_of_getElem? (i := 13) (by decide +kernel), List.mem_of_getElem? (i := 424) (by decide +kernel), List.mem_of_getElem? (i := 425) (by decide +kernel)⟩
theorem lw_p13 : lw_okq (⟨"NameRoom", "enterPool", "()I"⟩, 10) := ⟨⟨by decide +kernel, by decide +kernel⟩, List.mem_of_getElem? (i := 13) (by decide +kernel), List.mem_of_getElem? (i := 436) (by decide +kernel), List.mem_of_getElem? (i := 437) (by decide +kernel)⟩
theorem lw_p14 : lw_okq (⟨"NameRoom$Pools", "sees", "(LNameRoom$Row;)Z"⟩, 3) := ⟨⟨by decide +kernel, by decide +kernel⟩, List.mem_of_getElem? (i := 130) (by decide +kernel), List.mem_of_getElem? (i := 457) (by decide +kernel), List.mem_of_getElem? (i := 458) (by decide +kernel)⟩
theorem lw_p15 : lw_okq (⟨"NameRoom$Reader", "readToken", "()V"⟩, 8) := ⟨⟨by decide +kernel, by decide +kernel⟩, List.mem_of_getElem? (i := 21) (by decide +kernel), List.mem_of_getElem? (i := 491) (by decide +kernel), List.mem_of_getElem? (i := 492) (by decide +kernel)⟩
def lw_privs_1 : List (MethodName × Nat) := [(⟨"NameRoom$Reader", "begin", "()V"⟩, 8), (⟨"NameRoom$Reader", "readVariable", "(I)V"⟩, 8), (⟨"NameRoom$Reader", "fail", "(I)V"⟩, 8), (⟨"NameRoom$Reader", "add", "(III)V"⟩, 8), (⟨"NameRoom", "workOut", "(I)Z"⟩, 10), (⟨"NameRoom", "addTail", "(II)Z"⟩, 10), (⟨"NameRoom", "give", "(LNameRoom$Row;II)I"⟩, 10), (⟨"NameRoom$Shelf", "sweep", "()V"⟩, 2), (⟨"NameRoom", "workOutAlone", "()I"⟩, 10), (⟨"NameRoom", "told", "()LNameRoom$Entry;"⟩, 10), (⟨"NameRoom", "stemOf", "(I)LNameRoom$Entry;"⟩, 10), (⟨"NameRoom", "textOf", "(LNameRoom$Entry;)LNameRoom$Row;"⟩, 10), (⟨"NameRoom", "takeBack", "()I"⟩, 10), (⟨"NameRoom", "enterPool", "()I"⟩, 10), (⟨"NameRoom$Pools", "sees", "(LNameRoom$Row;)Z"⟩, 3), (⟨"NameRoom$Reader", "readToken", "()V"⟩, 8)]
theorem lw_r1 : ∀ q ∈ lw_privs_1, lw_okq q := List.forall_mem_cons.mpr ⟨lw_p0, List.forall_mem_cons.mpr ⟨lw_p1, List.forall_mem_cons.mpr ⟨lw_p2, List.forall_mem_cons.mpr ⟨lw_p3, List.forall_mem_cons.mpr ⟨lw_p4, List.forall_mem_cons.mpr ⟨lw_p5, List.forall_mem_cons.mpr ⟨lw_p6, List.forall_mem_cons.mpr ⟨lw_p7, List.forall_mem_cons.mpr ⟨lw_p8, List.forall_mem_cons.mpr ⟨lw_p9, List.forall_mem_cons.mpr ⟨lw_p10, List.forall_mem_cons.mpr ⟨lw_p11, List.forall_mem_cons.mpr ⟨lw_p12, List.forall_mem_cons.mpr ⟨lw_p13, List.forall_mem_cons.mpr ⟨lw_p14, List.forall_mem_cons.mpr ⟨lw_p15, fun _ h => absurd h List.not_mem_nil⟩⟩⟩⟩⟩⟩⟩⟩⟩⟩⟩⟩⟩⟩⟩⟩
theorem lw_p16 : lw_okq (⟨"NameRoom$Reader", "readString", "(I)V"⟩, 8) := ⟨⟨by decide +kernel, by decide +kernel⟩, List.mem_of_getElem? (i := 21) (by decide +kernel), List.mem_of_getElem? (i := 495) (by decide +kernel), List.mem_of_getElem? (i := 496) (by decide +kernel)⟩
theorem lw_p17 : lw_okq (⟨"NameRoom$Reader", "readBracket", "()V"⟩, 8) := ⟨⟨by decide +kernel, by decide +kernel⟩, List.mem_of_getElem? (i := 21) (by decide +kernel), List.mem_of_getElem? (i := 499) (by decide +kernel), List.mem_of_getElem? (i := 500) (by decide +kernel)⟩
theorem lw_p18 : lw_okq (⟨"NameRoom$Reader", "skipBlanks", "()V"⟩, 8) := ⟨⟨by decide +kernel, by decide +kernel⟩, List.mem_of_getElem? (i := 21) (by decide +kernel), List.mem_of_getElem? (i := 503) (by decide +kernel), List.mem_of_getElem? (i := 504) (by decide +kernel)⟩
theorem lw_p19 : lw_okq (⟨"NameRoom$Reader", "readSignedPlace", "(I)V"⟩, 8) := ⟨⟨by decide +kernel, by decide +kernel⟩, List.mem_of_getElem? (i := 21) (by decide +kernel), List.mem_of_getElem? (i := 507) (by decide +kernel), List.mem_of_getElem? (i := 508) (by decide +kernel)⟩
theorem lw_p20 : lw_okq (⟨"NameRoom$Reader", "readPlace", "(I)V"⟩, 8) := ⟨⟨by decide +kernel, by decide +kernel⟩, List.mem_of_getElem? (i := 21) (by decide +kernel), List.mem_of_getElem? (i := 511) (by decide +kernel), List.mem_of_getElem? (i := 512) (by decide +kernel)⟩
theorem lw_p21 : lw_okq (⟨"NameRoom$Reader", "readBareToken", "(I)V"⟩, 8) := ⟨⟨by decide +kernel, by decide +kernel⟩, List.mem_of_getElem? (i := 21) (by decide +kernel), List.mem_of_getElem? (i := 515) (by decide +kernel), List.mem_of_getElem? (i := 516) (by decide +kernel)⟩
theorem lw_p22 : lw_okq (⟨"NameRoom", "cutAt", "(I)I"⟩, 10) := ⟨⟨by decide +kernel, by decide +kernel⟩, List.mem_of_getElem? (i := 13) (by decide +kernel), List.mem_of_getElem? (i := 531) (by decide +kernel), List.mem_of_getElem? (i := 532) (by decide +kernel)⟩
theorem lw_p23 : lw_okq (⟨"NameRoom$Cutter", "placeOf", "(LNameRoom$Row;)I"⟩, 7) := ⟨⟨by decide +kernel, by decide +kernel⟩, List.mem_of_getElem? (i := 169) (by decide +kernel), List.mem_of_getElem? (i := 548) (by decide +kernel), List.mem_of_getElem? (i := 549) (by decide +kernel)⟩
theorem lw_p24 : lw_okq (⟨"NameRoom", "handOver", "(IZ)I"⟩, 10) := ⟨⟨by decide +kernel, by decide +kernel⟩, List.mem_of_getElem? (i := 13) (by decide +kernel), List.mem_of_getElem? (i := 570) (by decide +kernel), List.mem_of_getElem? (i := 571) (by decide +kernel)⟩
theorem lw_p25 : lw_okq (⟨"NameRoomModel", "four", "(I)V"⟩, 31) := ⟨⟨by decide +kernel, by decide +kernel⟩, List.mem_of_getElem? (i := 600) (by decide +kernel), List.mem_of_getElem? (i := 704) (by decide +kernel), List.mem_of_getElem? (i := 705) (by decide +kernel)⟩
theorem lw_p26 : lw_okq (⟨"NameRoomModel", "take", "()V"⟩, 31) := ⟨⟨by decide +kernel, by decide +kernel⟩, List.mem_of_getElem? (i := 600) (by decide +kernel), List.mem_of_getElem? (i := 720) (by decide +kernel), List.mem_of_getElem? (i := 721) (by decide +kernel)⟩
theorem lw_p27 : lw_okq (⟨"NameRoomModel", "variable", "()V"⟩, 31) := ⟨⟨by decide +kernel, by decide +kernel⟩, List.mem_of_getElem? (i := 600) (by decide +kernel), List.mem_of_getElem? (i := 724) (by decide +kernel), List.mem_of_getElem? (i := 725) (by decide +kernel)⟩
theorem lw_p28 : lw_okq (⟨"NameRoomModel", "here", "()I"⟩, 31) := ⟨⟨by decide +kernel, by decide +kernel⟩, List.mem_of_getElem? (i := 600) (by decide +kernel), List.mem_of_getElem? (i := 728) (by decide +kernel), List.mem_of_getElem? (i := 729) (by decide +kernel)⟩
theorem lw_p29 : lw_okq (⟨"NameRoomModel", "fail", "(I)V"⟩, 31) := ⟨⟨by decide +kernel, by decide +kernel⟩, List.mem_of_getElem? (i := 600) (by decide +kernel), List.mem_of_getElem? (i := 738) (by decide +kernel), List.mem_of_getElem? (i := 739) (by decide +kernel)⟩
theorem lw_p30 : lw_okq (⟨"NameRoomModel", "nameOf", "(II)Z"⟩, 31) := ⟨⟨by decide +kernel, by decide +kernel⟩, List.mem_of_getElem? (i := 600) (by decide +kernel), List.mem_of_getElem? (i := 742) (by decide +kernel), List.mem_of_getElem? (i := 743) (by decide +kernel)⟩
theorem lw_p31 : lw_okq (⟨"NameRoomModel", "told", "(II)I"⟩, 31) := ⟨⟨by decide +kernel, by decide +kernel⟩, List.mem_of_getElem? (i := 600) (by decide +kernel), List.mem_of_getElem? (i := 749) (by decide +kernel), List.mem_of_getElem? (i := 750) (by decide +kernel)⟩
def lw_privs_2 : List (MethodName × Nat) := [(⟨"NameRoom$Reader", "readString", "(I)V"⟩, 8), (⟨"NameRoom$Reader", "readBracket", "()V"⟩, 8), (⟨"NameRoom$Reader", "skipBlanks", "()V"⟩, 8), (⟨"NameRoom$Reader", "readSignedPlace", "(I)V"⟩, 8), (⟨"NameRoom$Reader", "readPlace", "(I)V"⟩, 8), (⟨"NameRoom$Reader", "readBareToken", "(I)V"⟩, 8), (⟨"NameRoom", "cutAt", "(I)I"⟩, 10), (⟨"NameRoom$Cutter", "placeOf", "(LNameRoom$Row;)I"⟩, 7), (⟨"NameRoom", "handOver", "(IZ)I"⟩, 10), (⟨"NameRoomModel", "four", "(I)V"⟩, 31), (⟨"NameRoomModel", "take", "()V"⟩, 31), (⟨"NameRoomModel", "variable", "()V"⟩, 31), (⟨"NameRoomModel", "here", "()I"⟩, 31), (⟨"NameRoomModel", "fail", "(I)V"⟩, 31), (⟨"NameRoomModel", "nameOf", "(II)Z"⟩, 31), (⟨"NameRoomModel", "told", "(II)I"⟩, 31)]
theorem lw_r2 : ∀ q ∈ lw_privs_2, lw_okq q := List.forall_mem_cons.mpr ⟨lw_p16, List.forall_mem_cons.mpr ⟨lw_p17, List.forall_mem_cons.mpr ⟨lw_p18, List.forall_mem_cons.mpr ⟨lw_p19, List.forall_mem_cons.mpr ⟨lw_p20, List.forall_mem_cons.mpr ⟨lw_p21, List.forall_mem_cons.mpr ⟨lw_p22, List.forall_mem_cons.mpr ⟨lw_p23, List.forall_mem_cons.mpr ⟨lw_p24, List.forall_mem_cons.mpr ⟨lw_p25, List.forall_mem_cons.mpr ⟨lw_p26, List.forall_mem_cons.mpr ⟨lw_p27, List.forall_mem_cons.mpr ⟨lw_p28, List.forall_mem_cons.mpr ⟨lw_p29, List.forall_mem_cons.mpr ⟨lw_p30, List.forall_mem_cons.mpr ⟨lw_p31, fun _ h => absurd h List.not_mem_nil⟩⟩⟩⟩⟩⟩⟩⟩⟩⟩⟩⟩⟩⟩⟩⟩
theorem lw_p32 : lw_okq (⟨"NameRoomModel", "add", "(I)V"⟩, 31) := ⟨⟨by decide +kernel, by decide +kernel⟩, List.mem_of_getElem? (i := 600) (by decide +kernel), List.mem_of_getElem? (i := 753) (by decide +kernel), List.mem_of_getElem? (i := 754) (by decide +kernel)⟩
theorem lw_p33 : lw_okq (⟨"NameRoomModel", "tells", "()I"⟩, 31) := ⟨⟨by decide +kernel, by decide +kernel⟩, List.mem_of_getElem? (i := 600) (by decide +kernel), List.mem_of_getElem? (i := 757) (by decide +kernel), List.mem_of_getElem? (i := 758) (by decide +kernel)⟩
theorem lw_p34 : lw_okq (⟨"NameRoomModel", "poolOf", "(II)I"⟩, 31) := ⟨⟨by decide +kernel, by decide +kernel⟩, List.mem_of_getElem? (i := 600) (by decide +kernel), List.mem_of_getElem? (i := 761) (by decide +kernel), List.mem_of_getElem? (i := 762) (by decide +kernel)⟩
theorem lw_p35 : lw_okq (⟨"NameRoomModel", "isStem", "(I)Z"⟩, 31) := ⟨⟨by decide +kernel, by decide +kernel⟩, List.mem_of_getElem? (i := 600) (by decide +kernel), List.mem_of_getElem? (i := 765) (by decide +kernel), List.mem_of_getElem? (i := 766) (by decide +kernel)⟩
theorem lw_p36 : lw_okq (⟨"NameRoomModel", "isAlike", "(II)Z"⟩, 31) := ⟨⟨by decide +kernel, by decide +kernel⟩, List.mem_of_getElem? (i := 600) (by decide +kernel), List.mem_of_getElem? (i := 769) (by decide +kernel), List.mem_of_getElem? (i := 770) (by decide +kernel)⟩
theorem lw_p37 : lw_okq (⟨"NameRoomModel", "entry", "(II)I"⟩, 31) := ⟨⟨by decide +kernel, by decide +kernel⟩, List.mem_of_getElem? (i := 600) (by decide +kernel), List.mem_of_getElem? (i := 773) (by decide +kernel), List.mem_of_getElem? (i := 774) (by decide +kernel)⟩
theorem lw_p38 : lw_okq (⟨"NameRoomModel", "stem", "()I"⟩, 31) := ⟨⟨by decide +kernel, by decide +kernel⟩, List.mem_of_getElem? (i := 600) (by decide +kernel), List.mem_of_getElem? (i := 777) (by decide +kernel), List.mem_of_getElem? (i := 778) (by decide +kernel)⟩
theorem lw_p39 : lw_okq (⟨"NameRoomModel", "assign", "(ZII)Z"⟩, 31) := ⟨⟨by decide +kernel, by decide +kernel⟩, List.mem_of_getElem? (i := 600) (by decide +kernel), List.mem_of_getElem? (i := 781) (by decide +kernel), List.mem_of_getElem? (i := 782) (by decide +kernel)⟩
theorem lw_p40 : lw_okq (⟨"NameRoomModel", "clear", "(I)V"⟩, 31) := ⟨⟨by decide +kernel, by decide +kernel⟩, List.mem_of_getElem? (i := 600) (by decide +kernel), List.mem_of_getElem? (i := 785) (by decide +kernel), List.mem_of_getElem? (i := 786) (by decide +kernel)⟩
theorem lw_p41 : lw_okq (⟨"NameRoomModel", "remove", "(I)V"⟩, 31) := ⟨⟨by decide +kernel, by decide +kernel⟩, List.mem_of_getElem? (i := 600) (by decide +kernel), List.mem_of_getElem? (i := 789) (by decide +kernel), List.mem_of_getElem? (i := 790) (by decide +kernel)⟩
theorem lw_p42 : lw_okq (⟨"NameRoomModel", "place", "(I)I"⟩, 31) := ⟨⟨by decide +kernel, by decide +kernel⟩, List.mem_of_getElem? (i := 600) (by decide +kernel), List.mem_of_getElem? (i := 793) (by decide +kernel), List.mem_of_getElem? (i := 794) (by decide +kernel)⟩
theorem lw_p43 : lw_okq (⟨"NameRoomModel", "one", "()I"⟩, 31) := ⟨⟨by decide +kernel, by decide +kernel⟩, List.mem_of_getElem? (i := 600) (by decide +kernel), List.mem_of_getElem? (i := 801) (by decide +kernel), List.mem_of_getElem? (i := 802) (by decide +kernel)⟩
theorem lw_p44 : lw_okq (⟨"NameRoomModel", "write", "([III)V"⟩, 31) := ⟨⟨by decide +kernel, by decide +kernel⟩, List.mem_of_getElem? (i := 600) (by decide +kernel), List.mem_of_getElem? (i := 805) (by decide +kernel), List.mem_of_getElem? (i := 806) (by decide +kernel)⟩
theorem lw_p45 : lw_okq (⟨"NameRoomModel", "variables", "(I)I"⟩, 31) := ⟨⟨by decide +kernel, by decide +kernel⟩, List.mem_of_getElem? (i := 600) (by decide +kernel), List.mem_of_getElem? (i := 817) (by decide +kernel), List.mem_of_getElem? (i := 818) (by decide +kernel)⟩
theorem lw_p46 : lw_okq (⟨"NameRoomModel", "wordEnd", "(I)I"⟩, 31) := ⟨⟨by decide +kernel, by decide +kernel⟩, List.mem_of_getElem? (i := 600) (by decide +kernel), List.mem_of_getElem? (i := 821) (by decide +kernel), List.mem_of_getElem? (i := 822) (by decide +kernel)⟩
theorem lw_p47 : lw_okq (⟨"NameRoomModel", "lose", "()Z"⟩, 31) := ⟨⟨by decide +kernel, by decide +kernel⟩, List.mem_of_getElem? (i := 600) (by decide +kernel), List.mem_of_getElem? (i := 825) (by decide +kernel), List.mem_of_getElem? (i := 826) (by decide +kernel)⟩
def lw_privs_3 : List (MethodName × Nat) := [(⟨"NameRoomModel", "add", "(I)V"⟩, 31), (⟨"NameRoomModel", "tells", "()I"⟩, 31), (⟨"NameRoomModel", "poolOf", "(II)I"⟩, 31), (⟨"NameRoomModel", "isStem", "(I)Z"⟩, 31), (⟨"NameRoomModel", "isAlike", "(II)Z"⟩, 31), (⟨"NameRoomModel", "entry", "(II)I"⟩, 31), (⟨"NameRoomModel", "stem", "()I"⟩, 31), (⟨"NameRoomModel", "assign", "(ZII)Z"⟩, 31), (⟨"NameRoomModel", "clear", "(I)V"⟩, 31), (⟨"NameRoomModel", "remove", "(I)V"⟩, 31), (⟨"NameRoomModel", "place", "(I)I"⟩, 31), (⟨"NameRoomModel", "one", "()I"⟩, 31), (⟨"NameRoomModel", "write", "([III)V"⟩, 31), (⟨"NameRoomModel", "variables", "(I)I"⟩, 31), (⟨"NameRoomModel", "wordEnd", "(I)I"⟩, 31), (⟨"NameRoomModel", "lose", "()Z"⟩, 31)]
theorem lw_r3 : ∀ q ∈ lw_privs_3, lw_okq q := List.forall_mem_cons.mpr ⟨lw_p32, List.forall_mem_cons.mpr ⟨lw_p33, List.forall_mem_cons.mpr ⟨lw_p34, List.forall_mem_cons.mpr ⟨lw_p35, List.forall_mem_cons.mpr ⟨lw_p36, List.forall_mem_cons.mpr ⟨lw_p37, List.forall_mem_cons.mpr ⟨lw_p38, List.forall_mem_cons.mpr ⟨lw_p39, List.forall_mem_cons.mpr ⟨lw_p40, List.forall_mem_cons.mpr ⟨lw_p41, List.forall_mem_cons.mpr ⟨lw_p42, List.forall_mem_cons.mpr ⟨lw_p43, List.forall_mem_cons.mpr ⟨lw_p44, List.forall_mem_cons.mpr ⟨lw_p45, List.forall_mem_cons.mpr ⟨lw_p46, List.forall_mem_cons.mpr ⟨lw_p47, fun _ h => absurd h List.not_mem_nil⟩⟩⟩⟩⟩⟩⟩⟩⟩⟩⟩⟩⟩⟩⟩⟩
theorem lw_p48 : lw_okq (⟨"NameRoomModel", "blanks", "()V"⟩, 31) := ⟨⟨by decide +kernel, by decide +kernel⟩, List.mem_of_getElem? (i := 600) (by decide +kernel), List.mem_of_getElem? (i := 845) (by decide +kernel), List.mem_of_getElem? (i := 846) (by decide +kernel)⟩
theorem lw_p49 : lw_okq (⟨"NameRoomModel", "token", "()V"⟩, 31) := ⟨⟨by decide +kernel, by decide +kernel⟩, List.mem_of_getElem? (i := 600) (by decide +kernel), List.mem_of_getElem? (i := 849) (by decide +kernel), List.mem_of_getElem? (i := 850) (by decide +kernel)⟩
theorem lw_p50 : lw_okq (⟨"NameRoomModel", "string", "()V"⟩, 31) := ⟨⟨by decide +kernel, by decide +kernel⟩, List.mem_of_getElem? (i := 600) (by decide +kernel), List.mem_of_getElem? (i := 853) (by decide +kernel), List.mem_of_getElem? (i := 854) (by decide +kernel)⟩
theorem lw_p51 : lw_okq (⟨"NameRoomModel", "number", "()I"⟩, 31) := ⟨⟨by decide +kernel, by decide +kernel⟩, List.mem_of_getElem? (i := 600) (by decide +kernel), List.mem_of_getElem? (i := 857) (by decide +kernel), List.mem_of_getElem? (i := 858) (by decide +kernel)⟩
theorem lw_p52 : lw_okq (⟨"NameRoomModel", "cut", "()I"⟩, 31) := ⟨⟨by decide +kernel, by decide +kernel⟩, List.mem_of_getElem? (i := 600) (by decide +kernel), List.mem_of_getElem? (i := 861) (by decide +kernel), List.mem_of_getElem? (i := 862) (by decide +kernel)⟩
theorem lw_p53 : lw_okq (⟨"NameRoomModel", "look", "()V"⟩, 31) := ⟨⟨by decide +kernel, by decide +kernel⟩, List.mem_of_getElem? (i := 600) (by decide +kernel), List.mem_of_getElem? (i := 865) (by decide +kernel), List.mem_of_getElem? (i := 866) (by decide +kernel)⟩
theorem lw_p54 : lw_okq (⟨"NameRoomModel", "pattern", "(I)I"⟩, 31) := ⟨⟨by decide +kernel, by decide +kernel⟩, List.mem_of_getElem? (i := 600) (by decide +kernel), List.mem_of_getElem? (i := 869) (by decide +kernel), List.mem_of_getElem? (i := 870) (by decide +kernel)⟩
theorem lw_p55 : lw_okq (⟨"NameRoomModel", "held", "(I)I"⟩, 31) := ⟨⟨by decide +kernel, by decide +kernel⟩, List.mem_of_getElem? (i := 600) (by decide +kernel), List.mem_of_getElem? (i := 873) (by decide +kernel), List.mem_of_getElem? (i := 874) (by decide +kernel)⟩
theorem lw_p56 : lw_okq (⟨"NameRoomModel", "give", "(IIIII)I"⟩, 31) := ⟨⟨by decide +kernel, by decide +kernel⟩, List.mem_of_getElem? (i := 600) (by decide +kernel), List.mem_of_getElem? (i := 877) (by decide +kernel), List.mem_of_getElem? (i := 878) (by decide +kernel)⟩
def lw_privs_4 : List (MethodName × Nat) := [(⟨"NameRoomModel", "blanks", "()V"⟩, 31), (⟨"NameRoomModel", "token", "()V"⟩, 31), (⟨"NameRoomModel", "string", "()V"⟩, 31), (⟨"NameRoomModel", "number", "()I"⟩, 31), (⟨"NameRoomModel", "cut", "()I"⟩, 31), (⟨"NameRoomModel", "look", "()V"⟩, 31), (⟨"NameRoomModel", "pattern", "(I)I"⟩, 31), (⟨"NameRoomModel", "held", "(I)I"⟩, 31), (⟨"NameRoomModel", "give", "(IIIII)I"⟩, 31)]
theorem lw_r4 : ∀ q ∈ lw_privs_4, lw_okq q := List.forall_mem_cons.mpr ⟨lw_p48, List.forall_mem_cons.mpr ⟨lw_p49, List.forall_mem_cons.mpr ⟨lw_p50, List.forall_mem_cons.mpr ⟨lw_p51, List.forall_mem_cons.mpr ⟨lw_p52, List.forall_mem_cons.mpr ⟨lw_p53, List.forall_mem_cons.mpr ⟨lw_p54, List.forall_mem_cons.mpr ⟨lw_p55, List.forall_mem_cons.mpr ⟨lw_p56, fun _ h => absurd h List.not_mem_nil⟩⟩⟩⟩⟩⟩⟩⟩⟩
def lw_privs : List (MethodName × Nat) := lw_privs_1 ++ (lw_privs_2 ++ (lw_privs_3 ++ (lw_privs_4)))
def lw_tbl : List Cond := k2_sels lw_privs ++ tables_1
theorem lw_privs_ok : ∀ q ∈ lw_privs, lw_okq q := by
  show ∀ q ∈ lw_privs_1 ++ (lw_privs_2 ++ (lw_privs_3 ++ (lw_privs_4))), lw_okq q
  exact List.forall_mem_append.mpr ⟨lw_r1, List.forall_mem_append.mpr ⟨lw_r2, List.forall_mem_append.mpr ⟨lw_r3, lw_r4⟩⟩⟩
/-- the words that stay true in every later state by themselves -/
def lw_g : List Cond := lw_tbl.filter goodWord
theorem lw_gt {w : Cond} (h : w ∈ lw_g) : w ∈ lw_tbl := (List.mem_filter.mp h).1
theorem lw_in {w : Cond} (i : Nat) (hg : goodWord w = true) (h : tables_1[i]? = some w) : w ∈ lw_g := List.mem_filter.mpr ⟨List.mem_append_right _ (List.mem_of_getElem? h), hg⟩
theorem lw_ip {w : Cond} (i : Nat) (hg : goodWord w = true) (h : (k2_sels lw_privs)[i]? = some w) : w ∈ lw_g := List.mem_filter.mpr ⟨List.mem_append_left _ (List.mem_of_getElem? h), hg⟩
end
section
abbrev xM : Type := MethodName × ByteArray × Nat × Option FieldType
def R_Row : String := "NameRoom$Row"
def F_Row : u_T := fun k => match k with
  | 0 => ("NameRoom$Row", "bytes", "[B", true)
  | _ => ("NameRoom$Row", "length", "I", false)
def t_Row : Nat → FieldType := fun k => match k with
  | 0 => .array (.byte)
  | _ => .int
def R_Ent : String := "NameRoom$Entry"
def F_Ent : u_T := fun k => match k with
  | 0 => ("NameRoom$Entry", "title", "LNameRoom$Row;", true)
  | 1 => ("NameRoom$Entry", "held", "LNameRoom$Row;", true)
  | 2 => ("NameRoom$Entry", "pool", "I", false)
  | 3 => ("NameRoom$Entry", "gone", "Z", false)
  | _ => ("NameRoom$Entry", "leaves", "Z", false)
def t_Ent : Nat → FieldType := fun k => match k with
  | 0 => .object "NameRoom$Row"
  | 1 => .object "NameRoom$Row"
  | 2 => .int
  | 3 => .boolean
  | _ => .boolean
def R_She : String := "NameRoom$Shelf"
def F_She : u_T := fun k => match k with
  | 0 => ("NameRoom$Shelf", "entries", "[LNameRoom$Entry;", true)
  | _ => ("NameRoom$Shelf", "size", "I", false)
def t_She : Nat → FieldType := fun k => match k with
  | 0 => .array (.object "NameRoom$Entry")
  | _ => .int
def R_Sig : String := "NameRoom$Sight"
def F_Sig : u_T := fun k => match k with
  | 0 => ("NameRoom$Sight", "title", "LNameRoom$Row;", true)
  | 1 => ("NameRoom$Sight", "pool", "I", false)
  | _ => ("NameRoom$Sight", "withTails", "Z", false)
def t_Sig : Nat → FieldType := fun k => match k with
  | 0 => .object "NameRoom$Row"
  | 1 => .int
  | _ => .boolean
def R_Poo : String := "NameRoom$Pools"
def F_Poo : u_T := fun k => match k with
  | 0 => ("NameRoom$Pools", "sights", "[LNameRoom$Sight;", true)
  | 1 => ("NameRoom$Pools", "size", "I", false)
  | _ => ("NameRoom$Pools", "depth", "I", false)
def t_Poo : Nat → FieldType := fun k => match k with
  | 0 => .array (.object "NameRoom$Sight")
  | 1 => .int
  | _ => .int
def R_Rea : String := "NameRoom$Reader"
def F_Rea : u_T := fun k => match k with
  | 0 => ("NameRoom$Reader", "text", "LNameRoom$Row;", true)
  | 1 => ("NameRoom$Reader", "kinds", "[I", true)
  | 2 => ("NameRoom$Reader", "starts", "[I", true)
  | 3 => ("NameRoom$Reader", "stops", "[I", true)
  | 4 => ("NameRoom$Reader", "size", "I", false)
  | 5 => ("NameRoom$Reader", "targets", "I", false)
  | 6 => ("NameRoom$Reader", "at", "I", false)
  | _ => ("NameRoom$Reader", "answer", "I", false)
def t_Rea : Nat → FieldType := fun k => match k with
  | 0 => .object "NameRoom$Row"
  | 1 => .array (.int)
  | 2 => .array (.int)
  | 3 => .array (.int)
  | 4 => .int
  | 5 => .int
  | 6 => .int
  | _ => .int
def R_Cut : String := "NameRoom$Cutter"
def F_Cut : u_T := fun k => match k with
  | 0 => ("NameRoom$Cutter", "subject", "LNameRoom$Row;", true)
  | 1 => ("NameRoom$Cutter", "from", "I", false)
  | 2 => ("NameRoom$Cutter", "began", "I", false)
  | 3 => ("NameRoom$Cutter", "shareFrom", "I", false)
  | 4 => ("NameRoom$Cutter", "shareTo", "I", false)
  | 5 => ("NameRoom$Cutter", "partFrom", "I", false)
  | _ => ("NameRoom$Cutter", "partTo", "I", false)
def t_Cut : Nat → FieldType := fun k => match k with
  | 0 => .object "NameRoom$Row"
  | 1 => .int
  | 2 => .int
  | 3 => .int
  | 4 => .int
  | 5 => .int
  | _ => .int
def R_Nam : String := "NameRoom"
def F_Nam : u_T := fun k => match k with
  | 0 => ("NameRoom", "tape", "LNameRoom$Row;", true)
  | 1 => ("NameRoom", "written", "LNameRoom$Row;", true)
  | 2 => ("NameRoom", "full", "LNameRoom$Row;", true)
  | 3 => ("NameRoom", "stem", "LNameRoom$Row;", true)
  | 4 => ("NameRoom", "tail", "LNameRoom$Row;", true)
  | 5 => ("NameRoom", "pattern", "LNameRoom$Row;", true)
  | 6 => ("NameRoom", "reader", "LNameRoom$Reader;", true)
  | 7 => ("NameRoom", "shelf", "LNameRoom$Shelf;", true)
  | 8 => ("NameRoom", "pools", "LNameRoom$Pools;", true)
  | _ => ("NameRoom", "cutter", "LNameRoom$Cutter;", true)
def t_Nam : Nat → FieldType := fun k => match k with
  | 0 => .object "NameRoom$Row"
  | 1 => .object "NameRoom$Row"
  | 2 => .object "NameRoom$Row"
  | 3 => .object "NameRoom$Row"
  | 4 => .object "NameRoom$Row"
  | 5 => .object "NameRoom$Row"
  | 6 => .object "NameRoom$Reader"
  | 7 => .object "NameRoom$Shelf"
  | 8 => .object "NameRoom$Pools"
  | _ => .object "NameRoom$Cutter"
def R_Mod : String := "NameRoomModel"
def F_Mod : u_T := fun k => match k with
  | 0 => ("NameRoomModel", "tape", "[I", true)
  | 1 => ("NameRoomModel", "text", "[I", true)
  | 2 => ("NameRoomModel", "out", "[I", true)
  | 3 => ("NameRoomModel", "full", "[I", true)
  | 4 => ("NameRoomModel", "taped", "I", false)
  | 5 => ("NameRoomModel", "size", "I", false)
  | 6 => ("NameRoomModel", "written", "I", false)
  | 7 => ("NameRoomModel", "length", "I", false)
  | 8 => ("NameRoomModel", "names", "[I", true)
  | 9 => ("NameRoomModel", "nameSize", "[I", true)
  | 10 => ("NameRoomModel", "values", "[I", true)
  | 11 => ("NameRoomModel", "valueSize", "[I", true)
  | 12 => ("NameRoomModel", "pools", "[I", true)
  | 13 => ("NameRoomModel", "many", "I", false)
  | 14 => ("NameRoomModel", "seen", "[I", true)
  | 15 => ("NameRoomModel", "seenSize", "[I", true)
  | 16 => ("NameRoomModel", "sees", "[I", true)
  | 17 => ("NameRoomModel", "pool", "I", false)
  | 18 => ("NameRoomModel", "subject", "[I", true)
  | 19 => ("NameRoomModel", "found", "[I", true)
  | 20 => ("NameRoomModel", "subjectSize", "I", false)
  | 21 => ("NameRoomModel", "foundSize", "I", false)
  | 22 => ("NameRoomModel", "from", "I", false)
  | 23 => ("NameRoomModel", "began", "I", false)
  | 24 => ("NameRoomModel", "wrong", "I", false)
  | 25 => ("NameRoomModel", "next", "I", false)
  | 26 => ("NameRoomModel", "kept", "[I", true)
  | 27 => ("NameRoomModel", "kind", "I", false)
  | 28 => ("NameRoomModel", "first", "I", false)
  | 29 => ("NameRoomModel", "last", "I", false)
  | _ => ("NameRoomModel", "value", "I", false)
def t_Mod : Nat → FieldType := fun k => match k with
  | 0 => .array (.int)
  | 1 => .array (.int)
  | 2 => .array (.int)
  | 3 => .array (.int)
  | 4 => .int
  | 5 => .int
  | 6 => .int
  | 7 => .int
  | 8 => .array (.int)
  | 9 => .array (.int)
  | 10 => .array (.int)
  | 11 => .array (.int)
  | 12 => .array (.int)
  | 13 => .int
  | 14 => .array (.int)
  | 15 => .array (.int)
  | 16 => .array (.int)
  | 17 => .int
  | 18 => .array (.int)
  | 19 => .array (.int)
  | 20 => .int
  | 21 => .int
  | 22 => .int
  | 23 => .int
  | 24 => .int
  | 25 => .int
  | 26 => .array (.int)
  | 27 => .int
  | 28 => .int
  | 29 => .int
  | _ => .int
abbrev classes : List vw_C := [(R_Row, F_Row, 2), (R_Ent, F_Ent, 5), (R_She, F_She, 2), (R_Sig, F_Sig, 3), (R_Poo, F_Poo, 3), (R_Rea, F_Rea, 8), (R_Cut, F_Cut, 7), (R_Nam, F_Nam, 10), (R_Mod, F_Mod, 31)]
/-- the kinds of arrays: bytes, ints, entries, sights -/
def xTy : List FieldType := [.byte, .int, .object "NameRoom$Entry", .object "NameRoom$Sight"]
theorem kn_Row : ∀ a, a < 2 → ∀ b, b < 2 → a ≠ b → (F_Row a).2.1 ≠ (F_Row b).2.1 := by decide +kernel
theorem kt_Row : ∀ k, k < 2 → parseFieldDescriptor (F_Row k).2.2.1 = some (t_Row k) := by decide +kernel
theorem ki_Row : ∀ w ∈ u_ws R_Row F_Row 2, w ∈ lw_g := by
  intro w hw0
  have hw := hw0
  have h : u_ws R_Row F_Row 2 = [43, 45].filterMap (fun i => tables_1[i]?) := by decide +kernel
  rw [h] at hw
  obtain ⟨i, -, hi⟩ := List.mem_filterMap.mp hw
  exact lw_in i (List.all_eq_true.mp (show (u_ws R_Row F_Row 2).all goodWord = true from by decide +kernel) w hw0) hi
theorem kw_Row : Cond.instantiable R_Row 2 ∈ lw_g := lw_in 27 rfl (by decide +kernel)
theorem kz_Row : Cond.initialized R_Row ∈ lw_g := lw_in 3 rfl (by decide +kernel)
theorem kn_Ent : ∀ a, a < 5 → ∀ b, b < 5 → a ≠ b → (F_Ent a).2.1 ≠ (F_Ent b).2.1 := by decide +kernel
theorem kt_Ent : ∀ k, k < 5 → parseFieldDescriptor (F_Ent k).2.2.1 = some (t_Ent k) := by decide +kernel
theorem ki_Ent : ∀ w ∈ u_ws R_Ent F_Ent 5, w ∈ lw_g := by
  intro w hw0
  have hw := hw0
  have h : u_ws R_Ent F_Ent 5 = [110, 112, 114, 116, 118].filterMap (fun i => tables_1[i]?) := by decide +kernel
  rw [h] at hw
  obtain ⟨i, -, hi⟩ := List.mem_filterMap.mp hw
  exact lw_in i (List.all_eq_true.mp (show (u_ws R_Ent F_Ent 5).all goodWord = true from by decide +kernel) w hw0) hi
theorem kw_Ent : Cond.instantiable R_Ent 5 ∈ lw_g := lw_in 89 rfl (by decide +kernel)
theorem kz_Ent : Cond.initialized R_Ent ∈ lw_g := lw_in 6 rfl (by decide +kernel)
theorem kn_She : ∀ a, a < 2 → ∀ b, b < 2 → a ≠ b → (F_She a).2.1 ≠ (F_She b).2.1 := by decide +kernel
theorem kt_She : ∀ k, k < 2 → parseFieldDescriptor (F_She k).2.2.1 = some (t_She k) := by decide +kernel
theorem ki_She : ∀ w ∈ u_ws R_She F_She 2, w ∈ lw_g := by
  intro w hw0
  have hw := hw0
  have h : u_ws R_She F_She 2 = [124, 126].filterMap (fun i => tables_1[i]?) := by decide +kernel
  rw [h] at hw
  obtain ⟨i, -, hi⟩ := List.mem_filterMap.mp hw
  exact lw_in i (List.all_eq_true.mp (show (u_ws R_She F_She 2).all goodWord = true from by decide +kernel) w hw0) hi
theorem kw_She : Cond.instantiable R_She 2 ∈ lw_g := lw_in 82 rfl (by decide +kernel)
theorem kz_She : Cond.initialized R_She ∈ lw_g := lw_in 5 rfl (by decide +kernel)
theorem kn_Sig : ∀ a, a < 3 → ∀ b, b < 3 → a ≠ b → (F_Sig a).2.1 ≠ (F_Sig b).2.1 := by decide +kernel
theorem kt_Sig : ∀ k, k < 3 → parseFieldDescriptor (F_Sig k).2.2.1 = some (t_Sig k) := by decide +kernel
theorem ki_Sig : ∀ w ∈ u_ws R_Sig F_Sig 3, w ∈ lw_g := by
  intro w hw0
  have hw := hw0
  have h : u_ws R_Sig F_Sig 3 = [150, 152, 154].filterMap (fun i => tables_1[i]?) := by decide +kernel
  rw [h] at hw
  obtain ⟨i, -, hi⟩ := List.mem_filterMap.mp hw
  exact lw_in i (List.all_eq_true.mp (show (u_ws R_Sig F_Sig 3).all goodWord = true from by decide +kernel) w hw0) hi
theorem kw_Sig : Cond.instantiable R_Sig 3 ∈ lw_g := lw_in 137 rfl (by decide +kernel)
theorem kz_Sig : Cond.initialized R_Sig ∈ lw_g := lw_in 8 rfl (by decide +kernel)
theorem kn_Poo : ∀ a, a < 3 → ∀ b, b < 3 → a ≠ b → (F_Poo a).2.1 ≠ (F_Poo b).2.1 := by decide +kernel
theorem kt_Poo : ∀ k, k < 3 → parseFieldDescriptor (F_Poo k).2.2.1 = some (t_Poo k) := by decide +kernel
theorem ki_Poo : ∀ w ∈ u_ws R_Poo F_Poo 3, w ∈ lw_g := by
  intro w hw0
  have hw := hw0
  have h : u_ws R_Poo F_Poo 3 = [161, 163, 165].filterMap (fun i => tables_1[i]?) := by decide +kernel
  rw [h] at hw
  obtain ⟨i, -, hi⟩ := List.mem_filterMap.mp hw
  exact lw_in i (List.all_eq_true.mp (show (u_ws R_Poo F_Poo 3).all goodWord = true from by decide +kernel) w hw0) hi
theorem kw_Poo : Cond.instantiable R_Poo 3 ∈ lw_g := lw_in 130 rfl (by decide +kernel)
theorem kz_Poo : Cond.initialized R_Poo ∈ lw_g := lw_in 7 rfl (by decide +kernel)
theorem kn_Rea : ∀ a, a < 8 → ∀ b, b < 8 → a ≠ b → (F_Rea a).2.1 ≠ (F_Rea b).2.1 := by decide +kernel
theorem kt_Rea : ∀ k, k < 8 → parseFieldDescriptor (F_Rea k).2.2.1 = some (t_Rea k) := by decide +kernel
theorem ki_Rea : ∀ w ∈ u_ws R_Rea F_Rea 8, w ∈ lw_g := by
  intro w hw0
  have hw := hw0
  have h : u_ws R_Rea F_Rea 8 = [61, 63, 65, 67, 69, 71, 73, 75].filterMap (fun i => tables_1[i]?) := by decide +kernel
  rw [h] at hw
  obtain ⟨i, -, hi⟩ := List.mem_filterMap.mp hw
  exact lw_in i (List.all_eq_true.mp (show (u_ws R_Rea F_Rea 8).all goodWord = true from by decide +kernel) w hw0) hi
theorem kw_Rea : Cond.instantiable R_Rea 8 ∈ lw_g := lw_in 21 rfl (by decide +kernel)
theorem kz_Rea : Cond.initialized R_Rea ∈ lw_g := lw_in 2 rfl (by decide +kernel)
theorem kn_Cut : ∀ a, a < 7 → ∀ b, b < 7 → a ≠ b → (F_Cut a).2.1 ≠ (F_Cut b).2.1 := by decide +kernel
theorem kt_Cut : ∀ k, k < 7 → parseFieldDescriptor (F_Cut k).2.2.1 = some (t_Cut k) := by decide +kernel
theorem ki_Cut : ∀ w ∈ u_ws R_Cut F_Cut 7, w ∈ lw_g := by
  intro w hw0
  have hw := hw0
  have h : u_ws R_Cut F_Cut 7 = [188, 190, 192, 194, 196, 198, 200].filterMap (fun i => tables_1[i]?) := by decide +kernel
  rw [h] at hw
  obtain ⟨i, -, hi⟩ := List.mem_filterMap.mp hw
  exact lw_in i (List.all_eq_true.mp (show (u_ws R_Cut F_Cut 7).all goodWord = true from by decide +kernel) w hw0) hi
theorem kw_Cut : Cond.instantiable R_Cut 7 ∈ lw_g := lw_in 169 rfl (by decide +kernel)
theorem kz_Cut : Cond.initialized R_Cut ∈ lw_g := lw_in 9 rfl (by decide +kernel)
theorem kn_Nam : ∀ a, a < 10 → ∀ b, b < 10 → a ≠ b → (F_Nam a).2.1 ≠ (F_Nam b).2.1 := by decide +kernel
theorem kt_Nam : ∀ k, k < 10 → parseFieldDescriptor (F_Nam k).2.2.1 = some (t_Nam k) := by decide +kernel
theorem ki_Nam : ∀ w ∈ u_ws R_Nam F_Nam 10, w ∈ lw_g := by
  intro w hw0
  have hw := hw0
  have h : u_ws R_Nam F_Nam 10 = [213, 215, 217, 219, 221, 223, 225, 227, 229, 231].filterMap (fun i => tables_1[i]?) := by decide +kernel
  rw [h] at hw
  obtain ⟨i, -, hi⟩ := List.mem_filterMap.mp hw
  exact lw_in i (List.all_eq_true.mp (show (u_ws R_Nam F_Nam 10).all goodWord = true from by decide +kernel) w hw0) hi
theorem kw_Nam : Cond.instantiable R_Nam 10 ∈ lw_g := lw_in 13 rfl (by decide +kernel)
theorem kz_Nam : Cond.initialized R_Nam ∈ lw_g := lw_in 1 rfl (by decide +kernel)
theorem kn_Mod : ∀ a, a < 31 → ∀ b, b < 31 → a ≠ b → (F_Mod a).2.1 ≠ (F_Mod b).2.1 := by decide +kernel
theorem kt_Mod : ∀ k, k < 31 → parseFieldDescriptor (F_Mod k).2.2.1 = some (t_Mod k) := by decide +kernel
theorem ki_Mod : ∀ w ∈ u_ws R_Mod F_Mod 31, w ∈ lw_g := by
  intro w hw0
  have hw := hw0
  have h : u_ws R_Mod F_Mod 31 = [636, 638, 640, 642, 644, 646, 648, 650, 652, 654, 656, 658, 660, 662, 664, 666, 668, 670, 672, 674, 676, 678, 680, 682, 684, 686, 688, 690, 692, 694, 696].filterMap (fun i => tables_1[i]?) := by decide +kernel
  rw [h] at hw
  obtain ⟨i, -, hi⟩ := List.mem_filterMap.mp hw
  exact lw_in i (List.all_eq_true.mp (show (u_ws R_Mod F_Mod 31).all goodWord = true from by decide +kernel) w hw0) hi
theorem kw_Mod : Cond.instantiable R_Mod 31 ∈ lw_g := lw_in 600 rfl (by decide +kernel)
theorem kz_Mod : Cond.initialized R_Mod ∈ lw_g := lw_in 10 rfl (by decide +kernel)
abbrev b_Cut_begin : ByteArray := prog_2_method_2_code
def Y_Cut_begin : xM := (⟨"NameRoom$Cutter", "begin", "()V"⟩, b_Cut_begin, 1, none)
abbrev b_Cut_cutAtEnd : ByteArray := prog_2_method_7_code
def Y_Cut_cutAtEnd : xM := (⟨"NameRoom$Cutter", "cutAtEnd", "()V"⟩, b_Cut_cutAtEnd, 1, none)
abbrev b_Cut_cutAtPattern : ByteArray := prog_2_method_4_code
def Y_Cut_cutAtPattern : xM := (⟨"NameRoom$Cutter", "cutAtPattern", "(LNameRoom$Row;)V"⟩, b_Cut_cutAtPattern, 3, none)
abbrev b_Cut_cutAtPlace : ByteArray := prog_2_method_6_code
def Y_Cut_cutAtPlace : xM := (⟨"NameRoom$Cutter", "cutAtPlace", "(I)V"⟩, b_Cut_cutAtPlace, 4, none)
abbrev b_Cut_init : ByteArray := prog_2_method_1_code
def Y_Cut_init : xM := (⟨"NameRoom$Cutter", "<init>", "()V"⟩, b_Cut_init, 1, none)
abbrev b_Cut_placeOf : ByteArray := prog_2_method_5_code
def Y_Cut_placeOf : xM := (⟨"NameRoom$Cutter", "placeOf", "(LNameRoom$Row;)I"⟩, b_Cut_placeOf, 4, (some .int))
abbrev b_Cut_take : ByteArray := prog_2_method_3_code
def Y_Cut_take : xM := (⟨"NameRoom$Cutter", "take", "(LNameRoom$Row;Z)V"⟩, b_Cut_take, 3, none)
abbrev b_Cut_takeRest : ByteArray := prog_2_method_9_code
def Y_Cut_takeRest : xM := (⟨"NameRoom$Cutter", "takeRest", "()V"⟩, b_Cut_takeRest, 1, none)
abbrev b_Cut_takeWord : ByteArray := prog_2_method_8_code
def Y_Cut_takeWord : xM := (⟨"NameRoom$Cutter", "takeWord", "()V"⟩, b_Cut_takeWord, 1, none)
abbrev b_Ent_init : ByteArray := prog_3_method_1_code
def Y_Ent_init : xM := (⟨"NameRoom$Entry", "<init>", "()V"⟩, b_Ent_init, 1, none)
abbrev b_Mod_add : ByteArray := prog_10_method_13_code
def Y_Mod_add : xM := (⟨"NameRoomModel", "add", "(I)V"⟩, b_Mod_add, 2, none)
abbrev b_Mod_assign : ByteArray := prog_10_method_25_code
def Y_Mod_assign : xM := (⟨"NameRoomModel", "assign", "(ZII)Z"⟩, b_Mod_assign, 7, (some .boolean))
abbrev b_Mod_blanks : ByteArray := prog_10_method_38_code
def Y_Mod_blanks : xM := (⟨"NameRoomModel", "blanks", "()V"⟩, b_Mod_blanks, 1, none)
abbrev b_Mod_capital : ByteArray := prog_10_method_11_code
def Y_Mod_capital : xM := (⟨"NameRoomModel", "capital", "(I)I"⟩, b_Mod_capital, 1, (some .int))
abbrev b_Mod_clear : ByteArray := prog_10_method_23_code
def Y_Mod_clear : xM := (⟨"NameRoomModel", "clear", "(I)V"⟩, b_Mod_clear, 5, none)
abbrev b_Mod_close : ByteArray := prog_10_method_36_code
def Y_Mod_close : xM := (⟨"NameRoomModel", "close", "()I"⟩, b_Mod_close, 2, (some .int))
abbrev b_Mod_count : ByteArray := prog_10_method_50_code
def Y_Mod_count : xM := (⟨"NameRoomModel", "count", "(I)I"⟩, b_Mod_count, 2, (some .int))
abbrev b_Mod_cut : ByteArray := prog_10_method_46_code
def Y_Mod_cut : xM := (⟨"NameRoomModel", "cut", "()I"⟩, b_Mod_cut, 8, (some .int))
abbrev b_Mod_drop : ByteArray := prog_10_method_34_code
def Y_Mod_drop : xM := (⟨"NameRoomModel", "drop", "()I"⟩, b_Mod_drop, 2, (some .int))
abbrev b_Mod_end : ByteArray := prog_10_method_4_code
def Y_Mod_end : xM := (⟨"NameRoomModel", "end", "(I)I"⟩, b_Mod_end, 2, (some .int))
abbrev b_Mod_entry : ByteArray := prog_10_method_18_code
def Y_Mod_entry : xM := (⟨"NameRoomModel", "entry", "(II)I"⟩, b_Mod_entry, 6, (some .int))
abbrev b_Mod_fail : ByteArray := prog_10_method_8_code
def Y_Mod_fail : xM := (⟨"NameRoomModel", "fail", "(I)V"⟩, b_Mod_fail, 2, none)
abbrev b_Mod_feed : ByteArray := prog_10_method_3_code
def Y_Mod_feed : xM := (⟨"NameRoomModel", "feed", "(IIIII)I"⟩, b_Mod_feed, 6, (some .int))
abbrev b_Mod_four : ByteArray := prog_10_method_2_code
def Y_Mod_four : xM := (⟨"NameRoomModel", "four", "(I)V"⟩, b_Mod_four, 3, none)
abbrev b_Mod_get : ByteArray := prog_10_method_30_code
def Y_Mod_get : xM := (⟨"NameRoomModel", "get", "()I"⟩, b_Mod_get, 3, (some .int))
abbrev b_Mod_give : ByteArray := prog_10_method_44_code
def Y_Mod_give : xM := (⟨"NameRoomModel", "give", "(IIIII)I"⟩, b_Mod_give, 12, (some .int))
abbrev b_Mod_held : ByteArray := prog_10_method_43_code
def Y_Mod_held : xM := (⟨"NameRoomModel", "held", "(I)I"⟩, b_Mod_held, 2, (some .int))
abbrev b_Mod_here : ByteArray := prog_10_method_7_code
def Y_Mod_here : xM := (⟨"NameRoomModel", "here", "()I"⟩, b_Mod_here, 1, (some .int))
abbrev b_Mod_init : ByteArray := prog_10_method_1_code
def Y_Mod_init : xM := (⟨"NameRoomModel", "<init>", "()V"⟩, b_Mod_init, 1, none)
abbrev b_Mod_isAlike : ByteArray := prog_10_method_15_code
def Y_Mod_isAlike : xM := (⟨"NameRoomModel", "isAlike", "(II)Z"⟩, b_Mod_isAlike, 4, (some .boolean))
abbrev b_Mod_isDigit : ByteArray := prog_10_method_9_code
def Y_Mod_isDigit : xM := (⟨"NameRoomModel", "isDigit", "(I)Z"⟩, b_Mod_isDigit, 1, (some .boolean))
abbrev b_Mod_isStem : ByteArray := prog_10_method_16_code
def Y_Mod_isStem : xM := (⟨"NameRoomModel", "isStem", "(I)Z"⟩, b_Mod_isStem, 3, (some .boolean))
abbrev b_Mod_isSymbol : ByteArray := prog_10_method_10_code
def Y_Mod_isSymbol : xM := (⟨"NameRoomModel", "isSymbol", "(I)Z"⟩, b_Mod_isSymbol, 1, (some .boolean))
abbrev b_Mod_known : ByteArray := prog_10_method_31_code
def Y_Mod_known : xM := (⟨"NameRoomModel", "known", "()I"⟩, b_Mod_known, 3, (some .int))
abbrev b_Mod_look : ByteArray := prog_10_method_47_code
def Y_Mod_look : xM := (⟨"NameRoomModel", "look", "()V"⟩, b_Mod_look, 3, none)
abbrev b_Mod_lose : ByteArray := prog_10_method_26_code
def Y_Mod_lose : xM := (⟨"NameRoomModel", "lose", "()Z"⟩, b_Mod_lose, 5, (some .boolean))
abbrev b_Mod_name : ByteArray := prog_10_method_48_code
def Y_Mod_name : xM := (⟨"NameRoomModel", "name", "(I)I"⟩, b_Mod_name, 2, (some .int))
abbrev b_Mod_nameOf : ByteArray := prog_10_method_21_code
def Y_Mod_nameOf : xM := (⟨"NameRoomModel", "nameOf", "(II)Z"⟩, b_Mod_nameOf, 10, (some .boolean))
abbrev b_Mod_number : ByteArray := prog_10_method_39_code
def Y_Mod_number : xM := (⟨"NameRoomModel", "number", "()I"⟩, b_Mod_number, 3, (some .int))
abbrev b_Mod_one : ByteArray := prog_10_method_28_code
def Y_Mod_one : xM := (⟨"NameRoomModel", "one", "()I"⟩, b_Mod_one, 1, (some .int))
abbrev b_Mod_open : ByteArray := prog_10_method_35_code
def Y_Mod_open : xM := (⟨"NameRoomModel", "open", "()I"⟩, b_Mod_open, 5, (some .int))
abbrev b_Mod_out : ByteArray := prog_10_method_5_code
def Y_Mod_out : xM := (⟨"NameRoomModel", "out", "(I)I"⟩, b_Mod_out, 2, (some .int))
abbrev b_Mod_parse : ByteArray := prog_10_method_45_code
def Y_Mod_parse : xM := (⟨"NameRoomModel", "parse", "()I"⟩, b_Mod_parse, 3, (some .int))
abbrev b_Mod_pattern : ByteArray := prog_10_method_42_code
def Y_Mod_pattern : xM := (⟨"NameRoomModel", "pattern", "(I)I"⟩, b_Mod_pattern, 5, (some .int))
abbrev b_Mod_place : ByteArray := prog_10_method_24_code
def Y_Mod_place : xM := (⟨"NameRoomModel", "place", "(I)I"⟩, b_Mod_place, 4, (some .int))
abbrev b_Mod_poolOf : ByteArray := prog_10_method_14_code
def Y_Mod_poolOf : xM := (⟨"NameRoomModel", "poolOf", "(II)I"⟩, b_Mod_poolOf, 7, (some .int))
abbrev b_Mod_remove : ByteArray := prog_10_method_22_code
def Y_Mod_remove : xM := (⟨"NameRoomModel", "remove", "(I)V"⟩, b_Mod_remove, 4, none)
abbrev b_Mod_set : ByteArray := prog_10_method_27_code
def Y_Mod_set : xM := (⟨"NameRoomModel", "set", "()I"⟩, b_Mod_set, 2, (some .int))
abbrev b_Mod_stem : ByteArray := prog_10_method_17_code
def Y_Mod_stem : xM := (⟨"NameRoomModel", "stem", "()I"⟩, b_Mod_stem, 2, (some .int))
abbrev b_Mod_string : ByteArray := prog_10_method_40_code
def Y_Mod_string : xM := (⟨"NameRoomModel", "string", "()V"⟩, b_Mod_string, 5, none)
abbrev b_Mod_subject : ByteArray := prog_10_method_37_code
def Y_Mod_subject : xM := (⟨"NameRoomModel", "subject", "(Z)I"⟩, b_Mod_subject, 3, (some .int))
abbrev b_Mod_take : ByteArray := prog_10_method_6_code
def Y_Mod_take : xM := (⟨"NameRoomModel", "take", "()V"⟩, b_Mod_take, 2, none)
abbrev b_Mod_tells : ByteArray := prog_10_method_19_code
def Y_Mod_tells : xM := (⟨"NameRoomModel", "tells", "()I"⟩, b_Mod_tells, 4, (some .int))
abbrev b_Mod_token : ByteArray := prog_10_method_41_code
def Y_Mod_token : xM := (⟨"NameRoomModel", "token", "()V"⟩, b_Mod_token, 2, none)
abbrev b_Mod_told : ByteArray := prog_10_method_20_code
def Y_Mod_told : xM := (⟨"NameRoomModel", "told", "(II)I"⟩, b_Mod_told, 4, (some .int))
abbrev b_Mod_value : ByteArray := prog_10_method_49_code
def Y_Mod_value : xM := (⟨"NameRoomModel", "value", "(I)I"⟩, b_Mod_value, 2, (some .int))
abbrev b_Mod_variable : ByteArray := prog_10_method_12_code
def Y_Mod_variable : xM := (⟨"NameRoomModel", "variable", "()V"⟩, b_Mod_variable, 2, none)
abbrev b_Mod_variables : ByteArray := prog_10_method_32_code
def Y_Mod_variables : xM := (⟨"NameRoomModel", "variables", "(I)I"⟩, b_Mod_variables, 4, (some .int))
abbrev b_Mod_wordEnd : ByteArray := prog_10_method_33_code
def Y_Mod_wordEnd : xM := (⟨"NameRoomModel", "wordEnd", "(I)I"⟩, b_Mod_wordEnd, 3, (some .int))
abbrev b_Mod_write : ByteArray := prog_10_method_29_code
def Y_Mod_write : xM := (⟨"NameRoomModel", "write", "([III)V"⟩, b_Mod_write, 5, none)
abbrev b_Nam_addTail : ByteArray := prog_1_method_18_code
def Y_Nam_addTail : xM := (⟨"NameRoom", "addTail", "(II)Z"⟩, b_Nam_addTail, 4, (some .boolean))
abbrev b_Nam_capital : ByteArray := prog_1_method_29_code
def Y_Nam_capital : xM := (⟨"NameRoom", "capital", "(I)I"⟩, b_Nam_capital, 1, (some .int))
abbrev b_Nam_close : ByteArray := prog_1_method_10_code
def Y_Nam_close : xM := (⟨"NameRoom", "close", "()I"⟩, b_Nam_close, 1, (some .int))
abbrev b_Nam_count : ByteArray := prog_1_method_15_code
def Y_Nam_count : xM := (⟨"NameRoom", "count", "(I)I"⟩, b_Nam_count, 2, (some .int))
abbrev b_Nam_cutAt : ByteArray := prog_1_method_25_code
def Y_Nam_cutAt : xM := (⟨"NameRoom", "cutAt", "(I)I"⟩, b_Nam_cutAt, 2, (some .int))
abbrev b_Nam_drop : ByteArray := prog_1_method_8_code
def Y_Nam_drop : xM := (⟨"NameRoom", "drop", "()I"⟩, b_Nam_drop, 3, (some .int))
abbrev b_Nam_end : ByteArray := prog_1_method_3_code
def Y_Nam_end : xM := (⟨"NameRoom", "end", "(I)I"⟩, b_Nam_end, 2, (some .int))
abbrev b_Nam_enterPool : ByteArray := prog_1_method_24_code
def Y_Nam_enterPool : xM := (⟨"NameRoom", "enterPool", "()I"⟩, b_Nam_enterPool, 2, (some .int))
abbrev b_Nam_feed : ByteArray := prog_1_method_2_code
def Y_Nam_feed : xM := (⟨"NameRoom", "feed", "(IIIII)I"⟩, b_Nam_feed, 6, (some .int))
abbrev b_Nam_get : ByteArray := prog_1_method_6_code
def Y_Nam_get : xM := (⟨"NameRoom", "get", "()I"⟩, b_Nam_get, 2, (some .int))
abbrev b_Nam_give : ByteArray := prog_1_method_22_code
def Y_Nam_give : xM := (⟨"NameRoom", "give", "(LNameRoom$Row;II)I"⟩, b_Nam_give, 6, (some .int))
abbrev b_Nam_handOver : ByteArray := prog_1_method_26_code
def Y_Nam_handOver : xM := (⟨"NameRoom", "handOver", "(IZ)I"⟩, b_Nam_handOver, 3, (some .int))
abbrev b_Nam_init : ByteArray := prog_1_method_1_code
def Y_Nam_init : xM := (⟨"NameRoom", "<init>", "()V"⟩, b_Nam_init, 1, none)
abbrev b_Nam_isDigit : ByteArray := prog_1_method_27_code
def Y_Nam_isDigit : xM := (⟨"NameRoom", "isDigit", "(I)Z"⟩, b_Nam_isDigit, 1, (some .boolean))
abbrev b_Nam_isSymbolByte : ByteArray := prog_1_method_28_code
def Y_Nam_isSymbolByte : xM := (⟨"NameRoom", "isSymbolByte", "(I)Z"⟩, b_Nam_isSymbolByte, 2, (some .boolean))
abbrev b_Nam_known : ByteArray := prog_1_method_7_code
def Y_Nam_known : xM := (⟨"NameRoom", "known", "()I"⟩, b_Nam_known, 3, (some .int))
abbrev b_Nam_name : ByteArray := prog_1_method_13_code
def Y_Nam_name : xM := (⟨"NameRoom", "name", "(I)I"⟩, b_Nam_name, 3, (some .int))
abbrev b_Nam_open : ByteArray := prog_1_method_9_code
def Y_Nam_open : xM := (⟨"NameRoom", "open", "()I"⟩, b_Nam_open, 2, (some .int))
abbrev b_Nam_out : ByteArray := prog_1_method_4_code
def Y_Nam_out : xM := (⟨"NameRoom", "out", "(I)I"⟩, b_Nam_out, 2, (some .int))
abbrev b_Nam_parse : ByteArray := prog_1_method_12_code
def Y_Nam_parse : xM := (⟨"NameRoom", "parse", "()I"⟩, b_Nam_parse, 5, (some .int))
abbrev b_Nam_set : ByteArray := prog_1_method_5_code
def Y_Nam_set : xM := (⟨"NameRoom", "set", "()I"⟩, b_Nam_set, 2, (some .int))
abbrev b_Nam_stemOf : ByteArray := prog_1_method_20_code
def Y_Nam_stemOf : xM := (⟨"NameRoom", "stemOf", "(I)LNameRoom$Entry;"⟩, b_Nam_stemOf, 2, (some (.object "NameRoom$Entry")))
abbrev b_Nam_subject : ByteArray := prog_1_method_11_code
def Y_Nam_subject : xM := (⟨"NameRoom", "subject", "(Z)I"⟩, b_Nam_subject, 3, (some .int))
abbrev b_Nam_takeBack : ByteArray := prog_1_method_23_code
def Y_Nam_takeBack : xM := (⟨"NameRoom", "takeBack", "()I"⟩, b_Nam_takeBack, 3, (some .int))
abbrev b_Nam_textOf : ByteArray := prog_1_method_21_code
def Y_Nam_textOf : xM := (⟨"NameRoom", "textOf", "(LNameRoom$Entry;)LNameRoom$Row;"⟩, b_Nam_textOf, 2, (some (.object "NameRoom$Row")))
abbrev b_Nam_told : ByteArray := prog_1_method_19_code
def Y_Nam_told : xM := (⟨"NameRoom", "told", "()LNameRoom$Entry;"⟩, b_Nam_told, 3, (some (.object "NameRoom$Entry")))
abbrev b_Nam_value : ByteArray := prog_1_method_14_code
def Y_Nam_value : xM := (⟨"NameRoom", "value", "(I)I"⟩, b_Nam_value, 3, (some .int))
abbrev b_Nam_workOut : ByteArray := prog_1_method_17_code
def Y_Nam_workOut : xM := (⟨"NameRoom", "workOut", "(I)Z"⟩, b_Nam_workOut, 8, (some .boolean))
abbrev b_Nam_workOutAlone : ByteArray := prog_1_method_16_code
def Y_Nam_workOutAlone : xM := (⟨"NameRoom", "workOutAlone", "()I"⟩, b_Nam_workOutAlone, 2, (some .int))
abbrev b_Poo_enter : ByteArray := prog_4_method_3_code
def Y_Poo_enter : xM := (⟨"NameRoom$Pools", "enter", "()V"⟩, b_Poo_enter, 1, none)
abbrev b_Poo_init : ByteArray := prog_4_method_1_code
def Y_Poo_init : xM := (⟨"NameRoom$Pools", "<init>", "()V"⟩, b_Poo_init, 2, none)
abbrev b_Poo_innermost : ByteArray := prog_4_method_2_code
def Y_Poo_innermost : xM := (⟨"NameRoom$Pools", "innermost", "()I"⟩, b_Poo_innermost, 1, (some .int))
abbrev b_Poo_leave : ByteArray := prog_4_method_4_code
def Y_Poo_leave : xM := (⟨"NameRoom$Pools", "leave", "()V"⟩, b_Poo_leave, 1, none)
abbrev b_Poo_owner : ByteArray := prog_4_method_5_code
def Y_Poo_owner : xM := (⟨"NameRoom$Pools", "owner", "(LNameRoom$Row;I)I"⟩, b_Poo_owner, 6, (some .int))
abbrev b_Poo_see : ByteArray := prog_4_method_6_code
def Y_Poo_see : xM := (⟨"NameRoom$Pools", "see", "(LNameRoom$Row;)V"⟩, b_Poo_see, 3, none)
abbrev b_Poo_seenByInnermost : ByteArray := prog_4_method_8_code
def Y_Poo_seenByInnermost : xM := (⟨"NameRoom$Pools", "seenByInnermost", "()I"⟩, b_Poo_seenByInnermost, 4, (some .int))
abbrev b_Poo_sees : ByteArray := prog_4_method_7_code
def Y_Poo_sees : xM := (⟨"NameRoom$Pools", "sees", "(LNameRoom$Row;)Z"⟩, b_Poo_sees, 4, (some .boolean))
abbrev b_Rea_add : ByteArray := prog_5_method_21_code
def Y_Rea_add : xM := (⟨"NameRoom$Reader", "add", "(III)V"⟩, b_Rea_add, 4, none)
abbrev b_Rea_begin : ByteArray := prog_5_method_2_code
def Y_Rea_begin : xM := (⟨"NameRoom$Reader", "begin", "()V"⟩, b_Rea_begin, 1, none)
abbrev b_Rea_copyString : ByteArray := prog_5_method_8_code
def Y_Rea_copyString : xM := (⟨"NameRoom$Reader", "copyString", "(ILNameRoom$Row;)V"⟩, b_Rea_copyString, 5, none)
abbrev b_Rea_fail : ByteArray := prog_5_method_22_code
def Y_Rea_fail : xM := (⟨"NameRoom$Reader", "fail", "(I)V"⟩, b_Rea_fail, 2, none)
abbrev b_Rea_init : ByteArray := prog_5_method_1_code
def Y_Rea_init : xM := (⟨"NameRoom$Reader", "<init>", "()V"⟩, b_Rea_init, 1, none)
abbrev b_Rea_isTarget : ByteArray := prog_5_method_3_code
def Y_Rea_isTarget : xM := (⟨"NameRoom$Reader", "isTarget", "(I)Z"⟩, b_Rea_isTarget, 3, (some .boolean))
abbrev b_Rea_kindOf : ByteArray := prog_5_method_4_code
def Y_Rea_kindOf : xM := (⟨"NameRoom$Reader", "kindOf", "(I)I"⟩, b_Rea_kindOf, 2, (some .int))
abbrev b_Rea_numberOf : ByteArray := prog_5_method_7_code
def Y_Rea_numberOf : xM := (⟨"NameRoom$Reader", "numberOf", "(I)I"⟩, b_Rea_numberOf, 4, (some .int))
abbrev b_Rea_readAlone : ByteArray := prog_5_method_9_code
def Y_Rea_readAlone : xM := (⟨"NameRoom$Reader", "readAlone", "()I"⟩, b_Rea_readAlone, 1, (some .int))
abbrev b_Rea_readBareToken : ByteArray := prog_5_method_14_code
def Y_Rea_readBareToken : xM := (⟨"NameRoom$Reader", "readBareToken", "(I)V"⟩, b_Rea_readBareToken, 2, none)
abbrev b_Rea_readBracket : ByteArray := prog_5_method_16_code
def Y_Rea_readBracket : xM := (⟨"NameRoom$Reader", "readBracket", "()V"⟩, b_Rea_readBracket, 1, none)
abbrev b_Rea_readGift : ByteArray := prog_5_method_10_code
def Y_Rea_readGift : xM := (⟨"NameRoom$Reader", "readGift", "()I"⟩, b_Rea_readGift, 1, (some .int))
abbrev b_Rea_readPlace : ByteArray := prog_5_method_18_code
def Y_Rea_readPlace : xM := (⟨"NameRoom$Reader", "readPlace", "(I)V"⟩, b_Rea_readPlace, 3, none)
abbrev b_Rea_readSignedPlace : ByteArray := prog_5_method_17_code
def Y_Rea_readSignedPlace : xM := (⟨"NameRoom$Reader", "readSignedPlace", "(I)V"⟩, b_Rea_readSignedPlace, 2, none)
abbrev b_Rea_readString : ByteArray := prog_5_method_19_code
def Y_Rea_readString : xM := (⟨"NameRoom$Reader", "readString", "(I)V"⟩, b_Rea_readString, 6, none)
abbrev b_Rea_readTemplate : ByteArray := prog_5_method_12_code
def Y_Rea_readTemplate : xM := (⟨"NameRoom$Reader", "readTemplate", "()I"⟩, b_Rea_readTemplate, 2, (some .int))
abbrev b_Rea_readToken : ByteArray := prog_5_method_13_code
def Y_Rea_readToken : xM := (⟨"NameRoom$Reader", "readToken", "()V"⟩, b_Rea_readToken, 2, none)
abbrev b_Rea_readVariable : ByteArray := prog_5_method_15_code
def Y_Rea_readVariable : xM := (⟨"NameRoom$Reader", "readVariable", "(I)V"⟩, b_Rea_readVariable, 4, none)
abbrev b_Rea_readVariables : ByteArray := prog_5_method_11_code
def Y_Rea_readVariables : xM := (⟨"NameRoom$Reader", "readVariables", "(I)I"⟩, b_Rea_readVariables, 4, (some .int))
abbrev b_Rea_skipBlanks : ByteArray := prog_5_method_20_code
def Y_Rea_skipBlanks : xM := (⟨"NameRoom$Reader", "skipBlanks", "()V"⟩, b_Rea_skipBlanks, 1, none)
abbrev b_Rea_startOf : ByteArray := prog_5_method_5_code
def Y_Rea_startOf : xM := (⟨"NameRoom$Reader", "startOf", "(I)I"⟩, b_Rea_startOf, 2, (some .int))
abbrev b_Rea_stopOf : ByteArray := prog_5_method_6_code
def Y_Rea_stopOf : xM := (⟨"NameRoom$Reader", "stopOf", "(I)I"⟩, b_Rea_stopOf, 2, (some .int))
abbrev b_Row_add : ByteArray := prog_6_method_4_code
def Y_Row_add : xM := (⟨"NameRoom$Row", "add", "(I)Z"⟩, b_Row_add, 2, (some .boolean))
abbrev b_Row_addCapitals : ByteArray := prog_6_method_7_code
def Y_Row_addCapitals : xM := (⟨"NameRoom$Row", "addCapitals", "(LNameRoom$Row;II)Z"⟩, b_Row_addCapitals, 6, (some .boolean))
abbrev b_Row_addInt : ByteArray := prog_6_method_5_code
def Y_Row_addInt : xM := (⟨"NameRoom$Row", "addInt", "(I)V"⟩, b_Row_addInt, 3, none)
abbrev b_Row_addPart : ByteArray := prog_6_method_6_code
def Y_Row_addPart : xM := (⟨"NameRoom$Row", "addPart", "(LNameRoom$Row;II)Z"⟩, b_Row_addPart, 5, (some .boolean))
abbrev b_Row_at : ByteArray := prog_6_method_3_code
def Y_Row_at : xM := (⟨"NameRoom$Row", "at", "(I)I"⟩, b_Row_at, 2, (some .int))
abbrev b_Row_become : ByteArray := prog_6_method_8_code
def Y_Row_become : xM := (⟨"NameRoom$Row", "become", "(LNameRoom$Row;)V"⟩, b_Row_become, 2, none)
abbrev b_Row_beginsWith : ByteArray := prog_6_method_9_code
def Y_Row_beginsWith : xM := (⟨"NameRoom$Row", "beginsWith", "(LNameRoom$Row;)Z"⟩, b_Row_beginsWith, 4, (some .boolean))
abbrev b_Row_clear : ByteArray := prog_6_method_2_code
def Y_Row_clear : xM := (⟨"NameRoom$Row", "clear", "()V"⟩, b_Row_clear, 1, none)
abbrev b_Row_dotFrom : ByteArray := prog_6_method_11_code
def Y_Row_dotFrom : xM := (⟨"NameRoom$Row", "dotFrom", "(II)I"⟩, b_Row_dotFrom, 4, (some .int))
abbrev b_Row_init : ByteArray := prog_6_method_1_code
def Y_Row_init : xM := (⟨"NameRoom$Row", "<init>", "(I)V"⟩, b_Row_init, 2, none)
abbrev b_Row_isCompound : ByteArray := prog_6_method_13_code
def Y_Row_isCompound : xM := (⟨"NameRoom$Row", "isCompound", "()Z"⟩, b_Row_isCompound, 1, (some .boolean))
abbrev b_Row_isStem : ByteArray := prog_6_method_12_code
def Y_Row_isStem : xM := (⟨"NameRoom$Row", "isStem", "()Z"⟩, b_Row_isStem, 1, (some .boolean))
abbrev b_Row_standsAt : ByteArray := prog_6_method_10_code
def Y_Row_standsAt : xM := (⟨"NameRoom$Row", "standsAt", "(ILNameRoom$Row;)Z"⟩, b_Row_standsAt, 4, (some .boolean))
abbrev b_She_clearBehind : ByteArray := prog_7_method_6_code
def Y_She_clearBehind : xM := (⟨"NameRoom$Shelf", "clearBehind", "(LNameRoom$Row;I)V"⟩, b_She_clearBehind, 5, none)
abbrev b_She_clearPool : ByteArray := prog_7_method_7_code
def Y_She_clearPool : xM := (⟨"NameRoom$Shelf", "clearPool", "(I)V"⟩, b_She_clearPool, 4, none)
abbrev b_She_entryAt : ByteArray := prog_7_method_2_code
def Y_She_entryAt : xM := (⟨"NameRoom$Shelf", "entryAt", "(I)LNameRoom$Entry;"⟩, b_She_entryAt, 2, (some (.object "NameRoom$Entry")))
abbrev b_She_find : ByteArray := prog_7_method_3_code
def Y_She_find : xM := (⟨"NameRoom$Shelf", "find", "(LNameRoom$Row;I)LNameRoom$Entry;"⟩, b_She_find, 5, (some (.object "NameRoom$Entry")))
abbrev b_She_findOrAdd : ByteArray := prog_7_method_4_code
def Y_She_findOrAdd : xM := (⟨"NameRoom$Shelf", "findOrAdd", "(LNameRoom$Row;I)LNameRoom$Entry;"⟩, b_She_findOrAdd, 5, (some (.object "NameRoom$Entry")))
abbrev b_She_init : ByteArray := prog_7_method_1_code
def Y_She_init : xM := (⟨"NameRoom$Shelf", "<init>", "()V"⟩, b_She_init, 2, none)
abbrev b_She_remove : ByteArray := prog_7_method_5_code
def Y_She_remove : xM := (⟨"NameRoom$Shelf", "remove", "(LNameRoom$Row;I)V"⟩, b_She_remove, 4, none)
abbrev b_She_sweep : ByteArray := prog_7_method_8_code
def Y_She_sweep : xM := (⟨"NameRoom$Shelf", "sweep", "()V"⟩, b_She_sweep, 4, none)
abbrev b_Sig_holds : ByteArray := prog_8_method_2_code
def Y_Sig_holds : xM := (⟨"NameRoom$Sight", "holds", "(LNameRoom$Row;)Z"⟩, b_Sig_holds, 2, (some .boolean))
abbrev b_Sig_init : ByteArray := prog_8_method_1_code
def Y_Sig_init : xM := (⟨"NameRoom$Sight", "<init>", "()V"⟩, b_Sig_init, 1, none)
def xNl : List (String × Nat × MethodName × String) := [("NameRoom$Reader", 95, ⟨"NameRoom", "isSymbolByte", "(I)Z"⟩, "NameRoom"), ("NameRoom$Reader", 89, ⟨"NameRoom", "isDigit", "(I)Z"⟩, "NameRoom"), ("NameRoom$Row", 39, ⟨"NameRoom", "capital", "(I)I"⟩, "NameRoom")]
def xAo : List String := ["NameRoom$Entry", "NameRoom$Sight"]
theorem xNl_ok : ∀ q ∈ xNl, Cond.methodLinkNest q.1 q.2.1 q.2.2.1 q.2.2.2 ∈ lw_tbl := by
  intro q hq
  have h : ∀ q ∈ xNl, Cond.methodLinkNest q.1 q.2.1 q.2.2.1 q.2.2.2 ∈ tables_1 := by decide +kernel
  exact List.mem_append_right _ (h q hq)
theorem xAo_ok : ∀ C ∈ xAo, Cond.arrayOver (.object C) ∈ lw_tbl := by
  intro q hq
  have h : ∀ C ∈ xAo, Cond.arrayOver (.object C) ∈ tables_1 := by decide +kernel
  exact List.mem_append_right _ (h q hq)
end
section
/-! THE LAYER: an abstract heap (address to cell) and one judgement xG over it: every row of the machine that the walks need, once. -/
abbrev xE : Type := (Nat × vp_A) ⊕ (Nat × List Value)
abbrev xH : Type := Nat → Option xE
abbrev xK : Type := Program × Launch × Env × Room × State × MethodId × Array Value × List Frame × Method × Code × (State → Prop) × va_G × (Nat → ClassId) × (Nat → Prop)
def xe (dA : Nat → ClassId) (z : xE) : va_E := match z with
  | .inl q => .inl (dA q.1, q.2)
  | .inr q => .inr q
def xup (M : xH) (a : Nat) (z : xE) : xH := fun q => if q = a then some z else M q
theorem xup_s (M : xH) (a : Nat) (z : xE) : xup M a z a = some z := if_pos rfl
theorem xup_n (M : xH) {a b : Nat} (z : xE) (h : b ≠ a) : xup M a z b = M b := if_neg h
def xTys (dA : Nat → ClassId) : List (ClassId × FieldType) := xTy.zipIdx.map (fun q => (dA q.2, q.1))
theorem xTys_at (dA : Nat → ClassId) {t : Nat} {ty : FieldType} (h : xTy[t]? = some ty) : (xTys dA)[t]? = some (dA t, ty) := by
  simp [xTys, List.getElem?_map, List.getElem?_zipIdx, h]
/-- the machine's heap, of sz cells, holds the abstract one -/
def xHo (D : va_G) (dA : Nat → ClassId) (A : Nat → Prop) (M : xH) (sz : Nat) (H : Heap) : Prop :=
  H.size = sz ∧ ∀ (a : Nat) (z : xE), M a = some z → va_at D classes (a, xe dA z) H ∧ A a
theorem xHo.weak {D : va_G} {dA : Nat → ClassId} {A B : Nat → Prop} {M : xH} {sz : Nat} {H : Heap} (h : xHo D dA A M sz H) (hAB : ∀ q, A q → B q) : xHo D dA B M sz H :=
  ⟨h.1, fun a z hz => ⟨(h.2 a z hz).1, hAB a (h.2 a z hz).2⟩⟩
theorem xHo.lt {D : va_G} {dA : Nat → ClassId} {A : Nat → Prop} {M : xH} {sz : Nat} {H : Heap} (h : xHo D dA A M sz H) {a : Nat} {z : xE} (hz : M a = some z) : a < sz := by
  rw [← h.1]; exact (h.2 a z hz).1.lt
theorem xHo.put {D : va_G} {dA : Nat → ClassId} {A : Nat → Prop} {M : xH} {sz : Nat} {H H1 : Heap} (h : xHo D dA A M sz H) {a : Nat} {z : xE} (hA : A a) (h1 : va_at D classes (a, xe dA z) H1) (hs : H1.size = H.size) (ho : ∀ q : Nat, q ≠ a → H1[q]? = H[q]?) : xHo D dA A (xup M a z) sz H1 := by
  refine ⟨by rw [hs]; exact h.1, fun b w hw => ?_⟩
  by_cases hb : b = a
  · subst hb
    rw [xup_s] at hw
    cases hw
    exact ⟨h1, hA⟩
  · rw [xup_n M z hb] at hw
    exact ⟨(h.2 b w hw).1.kept (ho b hb), (h.2 b w hw).2⟩
theorem xHo.push {D : va_G} {dA : Nat → ClassId} {A : Nat → Prop} {M : xH} {sz : Nat} {H H1 : Heap} (h : xHo D dA A M sz H) {z : xE} (hA : A sz) (h1 : va_at D classes (sz, xe dA z) H1) (hs : H1.size = sz + 1) (ho : ∀ q : Nat, q < sz → H1[q]? = H[q]?) : xHo D dA A (xup M sz z) (sz + 1) H1 := by
  refine ⟨hs, fun b w hw => ?_⟩
  by_cases hb : b = sz
  · subst hb
    rw [xup_s] at hw
    cases hw
    exact ⟨h1, hA⟩
  · rw [xup_n M z hb] at hw
    exact ⟨(h.2 b w hw).1.kept (ho b (h.lt hw)), (h.2 b w hw).2⟩
/-- one cell as a world of the kit -/
theorem xHo.one {D : va_G} {dA : Nat → ClassId} {A : Nat → Prop} {M : xH} {sz : Nat} {H : Heap} (h : xHo D dA A M sz H) {a : Nat} {z : xE} (hz : M a = some z) : va_P D classes [(a, xe dA z)] H := by
  intro k q hk
  cases k with
  | zero => cases hk; exact (h.2 a z hz).1
  | succ k => simp at hk
/-- locals: what is listed is held; only one-word values -/
def xL (ls : Array Slot) (nL : Nat) (vs : List (Option Value)) : Prop := ls.size = nL ∧ lv_wf ls ∧ ∀ (i : Nat) (v : Value), vs[i]? = some (some v) → ls[i]? = some (.val v) ∧ v.category = 1
def xlv (vs : List (Option Value)) : List (Nat × Value) := vs.zipIdx.filterMap (fun q => q.1.map (fun v => (q.2, v)))
theorem xlv_mem {vs : List (Option Value)} {q : Nat × Value} : q ∈ xlv vs ↔ vs[q.1]? = some (some q.2) := by
  unfold xlv
  rw [List.mem_filterMap]
  constructor
  · rintro ⟨⟨o, i⟩, h1, h2⟩
    rw [List.mem_zipIdx_iff_getElem?] at h1
    cases o with
    | none => cases h2
    | some v =>
      cases h2
      exact h1
  · intro h
    exact ⟨(some q.2, q.1), by rw [List.mem_zipIdx_iff_getElem?]; exact h, rfl⟩
theorem xL.has {ls : Array Slot} {nL : Nat} {vs : List (Option Value)} (h : xL ls nL vs) : lv_has ls nL (xlv vs) := ⟨h.1, h.2.1, fun q hq => (h.2.2 q.1 q.2 (xlv_mem.mp hq)).1⟩
theorem xL.store {ls ls' : Array Slot} {nL : Nat} {vs : List (Option Value)} (h : xL ls nL vs) {i : Nat} {v : Value} (hv : v.category = 1) (h' : lv_has ls' nL ((i, v) :: (xlv vs).filter (fun q => !(q.1 == i) && !(q.1 + 1 == i && q.2.category == 2)))) : xL ls' nL (vs.set i (some v)) := by
  refine ⟨h'.1, h'.2.1, fun j w hw => ?_⟩
  by_cases hj : i = j
  · subst hj
    have hlt : i < vs.length := by
      rcases Nat.lt_or_ge i vs.length with q | q
      · exact q
      · rw [List.getElem?_eq_none (by rw [List.length_set]; exact q)] at hw
        cases hw
    rw [List.getElem?_set_self hlt] at hw
    cases hw
    exact ⟨h'.2.2 (i, v) List.mem_cons_self, hv⟩
  · rw [List.getElem?_set_ne hj] at hw
    have hc := (h.2.2 j w hw).2
    refine ⟨h'.2.2 (j, w) (List.mem_cons_of_mem _ (List.mem_filter.mpr ⟨xlv_mem.mpr hw, ?_⟩)), hc⟩
    have h1 : (j == i) = false := by simp [Ne.symm hj]
    simp [h1, hc]
theorem xL.sub {ls : Array Slot} {nL : Nat} {vs vs' : List (Option Value)} (h : xL ls nL vs) (hs : ∀ (i : Nat) (v : Value), vs'[i]? = some (some v) → vs[i]? = some (some v)) : xL ls nL vs' := ⟨h.1, h.2.1, fun i v hv => h.2.2 i v (hs i v hv)⟩
/-- the words that a change of the tables' warmth doesn't keep by itself: nest mates' links, arrays over classes -/
def xNs (U : State) : Prop := (∀ q ∈ xNl, va_Nw (.methodLinkNest q.1 q.2.1 q.2.2.1 q.2.2.2) U) ∧ ∀ C ∈ xAo, va_AO C U
theorem xNs.warm {s U : State} (hW : s.WarmedH U.vm) (h : xNs s) : xNs U := ⟨fun q hq => (h.1 q hq).warmM hW, fun C hC => (h.2 C hC).moved hW.alike⟩
theorem xNs.same {s U : State} (e : s.vm = U.vm) (h : xNs s) : xNs U := ⟨fun q hq => (h.1 q hq).same rfl e, fun C hC => (h.2 C hC).moved (by rw [e]; exact Vm.Alike.refl U.vm)⟩
/-- the context: the method's code and tables -/
def xX (Y : xM) (rm : Room) (K : xK) : Prop := match K with
  | (p, _, _, R, s, m, args, _, meth, c0, _, D, dA, A) => p.tables.exec = Jvm.exec ∧ c0.code = Y.2.1 ∧ c0.maxLocals = Y.2.2.1 ∧ meth.sig.returnType = Y.2.2.2 ∧ meth.locks = false ∧ s.vm.findClass Y.1.cls = some m.cls ∧ (∀ w ∈ lw_g, w.before args s = true) ∧ va_K D classes (xTys dA) s ∧ (∀ q : Nat, s.heap.size ≤ q → A q) ∧ meth.name = Y.1.name ∧ R = rm ∧ xNs s
/-- the judgement -/
def xG (K : xK) (pc : Nat) (vs : List (Option Value)) (st : List Value) (M : xH) (sz c n : Nat) : Prop := match K with
  | (p, l, e, R, s, m, args, below, meth, c0, Q, D, dA, A) => ∀ (H : Heap) (locs : List Loc) (ls : Array Slot), xHo D dA A M sz H → va_S A s.heap H locs → xL ls c0.maxLocals vs → W p l e R s m args below meth c0 H locs c n Q (F0 m pc ls st)
section XG
variable {Y : xM} {rm : Room} {K : xK} {pc : Nat} {vs : List (Option Value)} {st : List Value} {M : xH} {sz c n : Nat}
theorem xg_pc {pc' : Nat} (h : pc = pc') (k : xG K pc' vs st M sz c n) : xG K pc vs st M sz c n := by subst h; exact k
theorem xg_sub {vs' : List (Option Value)} (hs : ∀ (i : Nat) (v : Value), vs'[i]? = some (some v) → vs[i]? = some (some v)) (k : xG K pc vs' st M sz c n) : xG K pc vs st M sz c n := by
  obtain ⟨p, l, e, R, s, m, args, below, meth, c0, Q, D, dA, A⟩ := K
  exact fun H locs ls hH hS hl => k H locs ls hH hS (hl.sub hs)
theorem xg_iconst (h : xX Y rm K) {z : Int} (v : Int32) (hd : decode Y.2.1 pc = .ok (.iconst z, 1)) (hv : Int32.ofInt z = v) (k : xG K (pc + 1) vs (.int v :: st) M sz c n) : xG K pc vs st M sz c n := by
  obtain ⟨p, l, e, R, s, m, args, below, meth, c0, Q, D, dA, A⟩ := K
  exact fun H locs ls hH hS hl => lv_iconst h.1 h.2.1 hd hv (k H locs ls hH hS hl)
theorem xg_bipush (h : xX Y rm K) {z : Int} (v : Int32) (hd : decode Y.2.1 pc = .ok (.bipush z, 2)) (hv : (Int8.ofInt z).toInt32 = v) (k : xG K (pc + 2) vs (.int v :: st) M sz c n) : xG K pc vs st M sz c n := by
  obtain ⟨p, l, e, R, s, m, args, below, meth, c0, Q, D, dA, A⟩ := K
  exact fun H locs ls hH hS hl => lv_bipush h.1 h.2.1 hd hv (k H locs ls hH hS hl)
theorem xg_sipush (h : xX Y rm K) {z : Int} (v : Int32) (hd : decode Y.2.1 pc = .ok (.sipush z, 3)) (hv : (Int16.ofInt z).toInt32 = v) (k : xG K (pc + 3) vs (.int v :: st) M sz c n) : xG K pc vs st M sz c n := by
  obtain ⟨p, l, e, R, s, m, args, below, meth, c0, Q, D, dA, A⟩ := K
  exact fun H locs ls hH hS hl => lv_sipush h.1 h.2.1 hd hv (k H locs ls hH hS hl)
theorem xg_ldc (h : xX Y rm K) {ix : Nat} (v : Int32) (hd : decode Y.2.1 pc = .ok (.ldc ix, 2)) (hw : Cond.constant Y.1.cls ix v ∈ lw_g) (k : xG K (pc + 2) vs (.int v :: st) M sz c n) : xG K pc vs st M sz c n := by
  obtain ⟨p, l, e, R, s, m, args, below, meth, c0, Q, D, dA, A⟩ := K
  obtain ⟨hx, hb, hml, hr, hlk, hown, hts, hKK, hA, hnm, hR, hNs⟩ := h
  exact fun H locs ls hH hS hl => lv_ldc hx hb hown (hts _ hw) hd (k H locs ls hH hS hl)
theorem xg_null (h : xX Y rm K) (hd : decode Y.2.1 pc = .ok (.aconst_null, 1)) (k : xG K (pc + 1) vs (.null :: st) M sz c n) : xG K pc vs st M sz c n := by
  obtain ⟨p, l, e, R, s, m, args, below, meth, c0, Q, D, dA, A⟩ := K
  exact fun H locs ls hH hS hl => lv_null h.1 h.2.1 hd (k H locs ls hH hS hl)
theorem xg_iload_n (h : xX Y rm K) {i : Fin 4} {x : Int32} (hd : decode Y.2.1 pc = .ok (.iload_n i, 1)) (hv : vs[(i : Nat)]? = some (some (.int x))) (k : xG K (pc + 1) vs (.int x :: st) M sz c n) : xG K pc vs st M sz c n := by
  obtain ⟨p, l, e, R, s, m, args, below, meth, c0, Q, D, dA, A⟩ := K
  exact fun H locs ls hH hS hl => lv_iload_n h.1 h.2.1 hd rfl (hl.2.2 _ _ hv).1 (k H locs ls hH hS hl)
theorem xg_iload_w (h : xX Y rm K) {i : Nat} {x : Int32} (hd : decode Y.2.1 pc = .ok (.iload i, 2)) (hv : vs[i]? = some (some (.int x))) (k : xG K (pc + 2) vs (.int x :: st) M sz c n) : xG K pc vs st M sz c n := by
  obtain ⟨p, l, e, R, s, m, args, below, meth, c0, Q, D, dA, A⟩ := K
  exact fun H locs ls hH hS hl => lv_iload h.1 h.2.1 hd (hl.2.2 _ _ hv).1 (k H locs ls hH hS hl)
theorem xg_aload_n (h : xX Y rm K) {i : Fin 4} {x : Nat} (hd : decode Y.2.1 pc = .ok (.aload_n i, 1)) (hv : vs[(i : Nat)]? = some (some (.ref x))) (k : xG K (pc + 1) vs (.ref x :: st) M sz c n) : xG K pc vs st M sz c n := by
  obtain ⟨p, l, e, R, s, m, args, below, meth, c0, Q, D, dA, A⟩ := K
  exact fun H locs ls hH hS hl => lv_aload_n h.1 h.2.1 hd rfl (hl.2.2 _ _ hv).1 (k H locs ls hH hS hl)
theorem xg_aload_w (h : xX Y rm K) {i : Nat} {x : Nat} (hd : decode Y.2.1 pc = .ok (.aload i, 2)) (hv : vs[i]? = some (some (.ref x))) (k : xG K (pc + 2) vs (.ref x :: st) M sz c n) : xG K pc vs st M sz c n := by
  obtain ⟨p, l, e, R, s, m, args, below, meth, c0, Q, D, dA, A⟩ := K
  exact fun H locs ls hH hS hl => lv_aload h.1 h.2.1 hd (hl.2.2 _ _ hv).1 (k H locs ls hH hS hl)
theorem xg_aloadN_n (h : xX Y rm K) {i : Fin 4} (hd : decode Y.2.1 pc = .ok (.aload_n i, 1)) (hv : vs[(i : Nat)]? = some (some .null)) (k : xG K (pc + 1) vs (.null :: st) M sz c n) : xG K pc vs st M sz c n := by
  obtain ⟨p, l, e, R, s, m, args, below, meth, c0, Q, D, dA, A⟩ := K
  exact fun H locs ls hH hS hl => lv_aload_nN h.1 h.2.1 hd rfl (hl.2.2 _ _ hv).1 (k H locs ls hH hS hl)
theorem xg_aloadN_w (h : xX Y rm K) {i : Nat} (hd : decode Y.2.1 pc = .ok (.aload i, 2)) (hv : vs[i]? = some (some .null)) (k : xG K (pc + 2) vs (.null :: st) M sz c n) : xG K pc vs st M sz c n := by
  obtain ⟨p, l, e, R, s, m, args, below, meth, c0, Q, D, dA, A⟩ := K
  exact fun H locs ls hH hS hl => lv_aloadN h.1 h.2.1 hd (hl.2.2 _ _ hv).1 (k H locs ls hH hS hl)
theorem xg_istore_n (h : xX Y rm K) {i : Fin 4} {x : Int32} (hd : decode Y.2.1 pc = .ok (.istore_n i, 1)) (hi : (i : Nat) < Y.2.2.1) {vs' : List (Option Value)} (hv : vs.set (i : Nat) (some (.int x)) = vs') (k : xG K (pc + 1) vs' st M sz c n) : xG K pc vs (.int x :: st) M sz c n := by
  subst hv
  obtain ⟨p, l, e, R, s, m, args, below, meth, c0, Q, D, dA, A⟩ := K
  obtain ⟨hx, hb, hml, hr, hlk, hown, hts, hKK, hA, hnm, hR, hNs⟩ := h
  exact fun H locs ls hH hS hl => lv_istore_n hx hb hd rfl hl.has (by rw [hml]; exact hi) rfl (fun ls' hl' => k H locs ls' hH hS (hl.store rfl hl'))
theorem xg_istore_w (h : xX Y rm K) {i : Nat} {x : Int32} (hd : decode Y.2.1 pc = .ok (.istore i, 2)) (hi : i < Y.2.2.1) {vs' : List (Option Value)} (hv : vs.set i (some (.int x)) = vs') (k : xG K (pc + 2) vs' st M sz c n) : xG K pc vs (.int x :: st) M sz c n := by
  subst hv
  obtain ⟨p, l, e, R, s, m, args, below, meth, c0, Q, D, dA, A⟩ := K
  obtain ⟨hx, hb, hml, hr, hlk, hown, hts, hKK, hA, hnm, hR, hNs⟩ := h
  exact fun H locs ls hH hS hl => lv_istore hx hb hd hl.has (by rw [hml]; exact hi) rfl (fun ls' hl' => k H locs ls' hH hS (hl.store rfl hl'))
theorem xg_astore_n (h : xX Y rm K) {i : Fin 4} {x : Nat} (hd : decode Y.2.1 pc = .ok (.astore_n i, 1)) (hi : (i : Nat) < Y.2.2.1) {vs' : List (Option Value)} (hv : vs.set (i : Nat) (some (.ref x)) = vs') (k : xG K (pc + 1) vs' st M sz c n) : xG K pc vs (.ref x :: st) M sz c n := by
  subst hv
  obtain ⟨p, l, e, R, s, m, args, below, meth, c0, Q, D, dA, A⟩ := K
  obtain ⟨hx, hb, hml, hr, hlk, hown, hts, hKK, hA, hnm, hR, hNs⟩ := h
  exact fun H locs ls hH hS hl => lv_astore_n hx hb hd rfl hl.has (by rw [hml]; exact hi) rfl (fun ls' hl' => k H locs ls' hH hS (hl.store rfl hl'))
theorem xg_astore_w (h : xX Y rm K) {i : Nat} {x : Nat} (hd : decode Y.2.1 pc = .ok (.astore i, 2)) (hi : i < Y.2.2.1) {vs' : List (Option Value)} (hv : vs.set i (some (.ref x)) = vs') (k : xG K (pc + 2) vs' st M sz c n) : xG K pc vs (.ref x :: st) M sz c n := by
  subst hv
  obtain ⟨p, l, e, R, s, m, args, below, meth, c0, Q, D, dA, A⟩ := K
  obtain ⟨hx, hb, hml, hr, hlk, hown, hts, hKK, hA, hnm, hR, hNs⟩ := h
  exact fun H locs ls hH hS hl => lv_astore hx hb hd hl.has (by rw [hml]; exact hi) rfl (fun ls' hl' => k H locs ls' hH hS (hl.store rfl hl'))
theorem xg_astoreN_n (h : xX Y rm K) {i : Fin 4} (hd : decode Y.2.1 pc = .ok (.astore_n i, 1)) (hi : (i : Nat) < Y.2.2.1) {vs' : List (Option Value)} (hv : vs.set (i : Nat) (some .null) = vs') (k : xG K (pc + 1) vs' st M sz c n) : xG K pc vs (.null :: st) M sz c n := by
  subst hv
  obtain ⟨p, l, e, R, s, m, args, below, meth, c0, Q, D, dA, A⟩ := K
  obtain ⟨hx, hb, hml, hr, hlk, hown, hts, hKK, hA, hnm, hR, hNs⟩ := h
  exact fun H locs ls hH hS hl => lv_astore_nN hx hb hd rfl hl.has (by rw [hml]; exact hi) rfl (fun ls' hl' => k H locs ls' hH hS (hl.store rfl hl'))
theorem xg_astoreN_w (h : xX Y rm K) {i : Nat} (hd : decode Y.2.1 pc = .ok (.astore i, 2)) (hi : i < Y.2.2.1) {vs' : List (Option Value)} (hv : vs.set i (some .null) = vs') (k : xG K (pc + 2) vs' st M sz c n) : xG K pc vs (.null :: st) M sz c n := by
  subst hv
  obtain ⟨p, l, e, R, s, m, args, below, meth, c0, Q, D, dA, A⟩ := K
  obtain ⟨hx, hb, hml, hr, hlk, hown, hts, hKK, hA, hnm, hR, hNs⟩ := h
  exact fun H locs ls hH hS hl => lv_astoreN hx hb hd hl.has (by rw [hml]; exact hi) rfl (fun ls' hl' => k H locs ls' hH hS (hl.store rfl hl'))
theorem xg_iinc (h : xX Y rm K) {i : Nat} {z : Int} {x v : Int32} (hd : decode Y.2.1 pc = .ok (.iinc i z, 3)) (hi : i < Y.2.2.1) (h0 : vs[i]? = some (some (.int x))) (hz : Int32.ofInt z = v) {vs' : List (Option Value)} (hv : vs.set i (some (.int (x + v))) = vs') (k : xG K (pc + 3) vs' st M sz c n) : xG K pc vs st M sz c n := by
  subst hv
  subst hz
  obtain ⟨p, l, e, R, s, m, args, below, meth, c0, Q, D, dA, A⟩ := K
  obtain ⟨hx, hb, hml, hr, hlk, hown, hts, hKK, hA, hnm, hR, hNs⟩ := h
  intro H locs ls hH hS hl
  obtain ⟨j, hj⟩ := List.getElem?_of_mem ((xlv_mem (q := (i, .int x))).mpr h0)
  exact lv_iinc hx hb hd hl.has hj rfl (by rw [hml]; exact hi) rfl (fun ls' hl' => k H locs ls' hH hS (hl.store rfl hl'))
theorem xg_iadd (h : xX Y rm K) {x y : Int32} (hd : decode Y.2.1 pc = .ok (.iadd, 1)) (k : xG K (pc + 1) vs (.int (x + y) :: st) M sz c n) : xG K pc vs (.int y :: .int x :: st) M sz c n := by
  obtain ⟨p, l, e, R, s, m, args, below, meth, c0, Q, D, dA, A⟩ := K
  exact fun H locs ls hH hS hl => lv_iadd h.1 h.2.1 hd (k H locs ls hH hS hl)
theorem xg_isub (h : xX Y rm K) {x y : Int32} (hd : decode Y.2.1 pc = .ok (.isub, 1)) (k : xG K (pc + 1) vs (.int (x - y) :: st) M sz c n) : xG K pc vs (.int y :: .int x :: st) M sz c n := by
  obtain ⟨p, l, e, R, s, m, args, below, meth, c0, Q, D, dA, A⟩ := K
  exact fun H locs ls hH hS hl => lv_isub h.1 h.2.1 hd (k H locs ls hH hS hl)
theorem xg_imul (h : xX Y rm K) {x y : Int32} (hd : decode Y.2.1 pc = .ok (.imul, 1)) (k : xG K (pc + 1) vs (.int (x * y) :: st) M sz c n) : xG K pc vs (.int y :: .int x :: st) M sz c n := by
  obtain ⟨p, l, e, R, s, m, args, below, meth, c0, Q, D, dA, A⟩ := K
  exact fun H locs ls hH hS hl => lv_imul h.1 h.2.1 hd (k H locs ls hH hS hl)
theorem xg_iand (h : xX Y rm K) {x y : Int32} (hd : decode Y.2.1 pc = .ok (.iand, 1)) (k : xG K (pc + 1) vs (.int (x &&& y) :: st) M sz c n) : xG K pc vs (.int y :: .int x :: st) M sz c n := by
  obtain ⟨p, l, e, R, s, m, args, below, meth, c0, Q, D, dA, A⟩ := K
  exact fun H locs ls hH hS hl => lv_iand h.1 h.2.1 hd (k H locs ls hH hS hl)
theorem xg_ior (h : xX Y rm K) {x y : Int32} (hd : decode Y.2.1 pc = .ok (.ior, 1)) (k : xG K (pc + 1) vs (.int (x ||| y) :: st) M sz c n) : xG K pc vs (.int y :: .int x :: st) M sz c n := by
  obtain ⟨p, l, e, R, s, m, args, below, meth, c0, Q, D, dA, A⟩ := K
  exact fun H locs ls hH hS hl => lv_ior h.1 h.2.1 hd (k H locs ls hH hS hl)
theorem xg_ixor (h : xX Y rm K) {x y : Int32} (hd : decode Y.2.1 pc = .ok (.ixor, 1)) (k : xG K (pc + 1) vs (.int (x ^^^ y) :: st) M sz c n) : xG K pc vs (.int y :: .int x :: st) M sz c n := by
  obtain ⟨p, l, e, R, s, m, args, below, meth, c0, Q, D, dA, A⟩ := K
  exact fun H locs ls hH hS hl => lv_ixor h.1 h.2.1 hd (k H locs ls hH hS hl)
theorem xg_idiv (h : xX Y rm K) {x y : Int32} (hd : decode Y.2.1 pc = .ok (.idiv, 1)) (h0 : ¬ y = 0) (k : xG K (pc + 1) vs (.int (x / y) :: st) M sz c n) : xG K pc vs (.int y :: .int x :: st) M sz c n := by
  obtain ⟨p, l, e, R, s, m, args, below, meth, c0, Q, D, dA, A⟩ := K
  exact fun H locs ls hH hS hl => lv_idiv h.1 h.2.1 hd h0 (k H locs ls hH hS hl)
theorem xg_irem (h : xX Y rm K) {x y : Int32} (hd : decode Y.2.1 pc = .ok (.irem, 1)) (h0 : ¬ y = 0) (k : xG K (pc + 1) vs (.int (x - x / y * y) :: st) M sz c n) : xG K pc vs (.int y :: .int x :: st) M sz c n := by
  obtain ⟨p, l, e, R, s, m, args, below, meth, c0, Q, D, dA, A⟩ := K
  exact fun H locs ls hH hS hl => lv_irem h.1 h.2.1 hd h0 (k H locs ls hH hS hl)
theorem xg_ineg (h : xX Y rm K) {x : Int32} (hd : decode Y.2.1 pc = .ok (.ineg, 1)) (k : xG K (pc + 1) vs (.int (-x) :: st) M sz c n) : xG K pc vs (.int x :: st) M sz c n := by
  obtain ⟨p, l, e, R, s, m, args, below, meth, c0, Q, D, dA, A⟩ := K
  exact fun H locs ls hH hS hl => lv_ineg h.1 h.2.1 hd (k H locs ls hH hS hl)
theorem xg_iushr (h : xX Y rm K) {x y : Int32} (hd : decode Y.2.1 pc = .ok (.iushr, 1)) (k : xG K (pc + 1) vs (.int (x.toUInt32 >>> (y.toUInt32 &&& Int32.toUInt32 31)).toInt32 :: st) M sz c n) : xG K pc vs (.int y :: .int x :: st) M sz c n := by
  obtain ⟨p, l, e, R, s, m, args, below, meth, c0, Q, D, dA, A⟩ := K
  exact fun H locs ls hH hS hl => lv_iushr h.1 h.2.1 hd rfl (k H locs ls hH hS hl)
theorem xg_i2b (h : xX Y rm K) {x : Int32} (hd : decode Y.2.1 pc = .ok (.i2b, 1)) (k : xG K (pc + 1) vs (.int (x.toInt8.toInt32) :: st) M sz c n) : xG K pc vs (.int x :: st) M sz c n := by
  obtain ⟨p, l, e, R, s, m, args, below, meth, c0, Q, D, dA, A⟩ := K
  exact fun H locs ls hH hS hl => lv_i2b h.1 h.2.1 hd rfl (k H locs ls hH hS hl)
theorem xg_i2c (h : xX Y rm K) {x : Int32} (hd : decode Y.2.1 pc = .ok (.i2c, 1)) (k : xG K (pc + 1) vs (.int ((x.toUInt32 % 65536).toInt32) :: st) M sz c n) : xG K pc vs (.int x :: st) M sz c n := by
  obtain ⟨p, l, e, R, s, m, args, below, meth, c0, Q, D, dA, A⟩ := K
  exact fun H locs ls hH hS hl => lv_i2c h.1 h.2.1 hd rfl (k H locs ls hH hS hl)
theorem xg_i2s (h : xX Y rm K) {x : Int32} (hd : decode Y.2.1 pc = .ok (.i2s, 1)) (k : xG K (pc + 1) vs (.int (x.toInt16.toInt32) :: st) M sz c n) : xG K pc vs (.int x :: st) M sz c n := by
  obtain ⟨p, l, e, R, s, m, args, below, meth, c0, Q, D, dA, A⟩ := K
  exact fun H locs ls hH hS hl => lv_i2s h.1 h.2.1 hd rfl (k H locs ls hH hS hl)
theorem xg_dup (h : xX Y rm K) {v : Value} (hd : decode Y.2.1 pc = .ok (.dup, 1)) (hv : v.category = 1) (k : xG K (pc + 1) vs (v :: v :: st) M sz c n) : xG K pc vs (v :: st) M sz c n := by
  obtain ⟨p, l, e, R, s, m, args, below, meth, c0, Q, D, dA, A⟩ := K
  exact fun H locs ls hH hS hl => lv_dup h.1 h.2.1 hd hv (k H locs ls hH hS hl)
theorem xg_pop (h : xX Y rm K) {v : Value} (hd : decode Y.2.1 pc = .ok (.pop, 1)) (hv : v.category = 1) (k : xG K (pc + 1) vs st M sz c n) : xG K pc vs (v :: st) M sz c n := by
  obtain ⟨p, l, e, R, s, m, args, below, meth, c0, Q, D, dA, A⟩ := K
  exact fun H locs ls hH hS hl => lv_pop h.1 h.2.1 hd hv (k H locs ls hH hS hl)
theorem xg_dup_x1 (h : xX Y rm K) {v w : Value} (hd : decode Y.2.1 pc = .ok (.dup_x1, 1)) (hv : v.category = 1) (hw : w.category = 1) (k : xG K (pc + 1) vs (v :: w :: v :: st) M sz c n) : xG K pc vs (v :: w :: st) M sz c n := by
  obtain ⟨p, l, e, R, s, m, args, below, meth, c0, Q, D, dA, A⟩ := K
  exact fun H locs ls hH hS hl => lv_dup_x1 h.1 h.2.1 hd hv hw (k H locs ls hH hS hl)
theorem xg_dup_x2 (h : xX Y rm K) {v w u : Value} (hd : decode Y.2.1 pc = .ok (.dup_x2, 1)) (hv : v.category = 1) (hw : w.category = 1) (hu : u.category = 1) (k : xG K (pc + 1) vs (v :: w :: u :: v :: st) M sz c n) : xG K pc vs (v :: w :: u :: st) M sz c n := by
  obtain ⟨p, l, e, R, s, m, args, below, meth, c0, Q, D, dA, A⟩ := K
  exact fun H locs ls hH hS hl => lv_dup_x2 h.1 h.2.1 hd hv hw hu (k H locs ls hH hS hl)
theorem xg_dup2 (h : xX Y rm K) {v w : Value} (hd : decode Y.2.1 pc = .ok (.dup2, 1)) (hv : v.category = 1) (hw : w.category = 1) (k : xG K (pc + 1) vs (v :: w :: v :: w :: st) M sz c n) : xG K pc vs (v :: w :: st) M sz c n := by
  obtain ⟨p, l, e, R, s, m, args, below, meth, c0, Q, D, dA, A⟩ := K
  exact fun H locs ls hH hS hl => lv_dup2_11 h.1 h.2.1 hd hv hw (k H locs ls hH hS hl)
theorem xg_if_eq (h : xX Y rm K) {x : Int32} {off : Int} (tgt : Nat) (hd : decode Y.2.1 pc = .ok (.ifCond .eq off, 3)) (ht : (pc : Int) + off = (tgt : Int)) (kt : x = 0 → xG K tgt vs st M sz c n) (kf : ¬ x = 0 → xG K (pc + 3) vs st M sz c n) : xG K pc vs (.int x :: st) M sz c n := by
  obtain ⟨p, l, e, R, s, m, args, below, meth, c0, Q, D, dA, A⟩ := K
  exact fun H locs ls hH hS hl => lv_if_eq h.1 h.2.1 hd ht (fun q => kt q H locs ls hH hS hl) (fun q => kf q H locs ls hH hS hl)
theorem xg_icmp_eq (h : xX Y rm K) {x y : Int32} {off : Int} (tgt : Nat) (hd : decode Y.2.1 pc = .ok (.if_icmp .eq off, 3)) (ht : (pc : Int) + off = (tgt : Int)) (kt : x = y → xG K tgt vs st M sz c n) (kf : ¬ x = y → xG K (pc + 3) vs st M sz c n) : xG K pc vs (.int y :: .int x :: st) M sz c n := by
  obtain ⟨p, l, e, R, s, m, args, below, meth, c0, Q, D, dA, A⟩ := K
  exact fun H locs ls hH hS hl => lv_icmp_eq h.1 h.2.1 hd ht (fun q => kt q H locs ls hH hS hl) (fun q => kf q H locs ls hH hS hl)
theorem xg_if_ne (h : xX Y rm K) {x : Int32} {off : Int} (tgt : Nat) (hd : decode Y.2.1 pc = .ok (.ifCond .ne off, 3)) (ht : (pc : Int) + off = (tgt : Int)) (kt : ¬ x = 0 → xG K tgt vs st M sz c n) (kf : x = 0 → xG K (pc + 3) vs st M sz c n) : xG K pc vs (.int x :: st) M sz c n := by
  obtain ⟨p, l, e, R, s, m, args, below, meth, c0, Q, D, dA, A⟩ := K
  exact fun H locs ls hH hS hl => lv_if_ne h.1 h.2.1 hd ht (fun q => kt q H locs ls hH hS hl) (fun q => kf q H locs ls hH hS hl)
theorem xg_icmp_ne (h : xX Y rm K) {x y : Int32} {off : Int} (tgt : Nat) (hd : decode Y.2.1 pc = .ok (.if_icmp .ne off, 3)) (ht : (pc : Int) + off = (tgt : Int)) (kt : ¬ x = y → xG K tgt vs st M sz c n) (kf : x = y → xG K (pc + 3) vs st M sz c n) : xG K pc vs (.int y :: .int x :: st) M sz c n := by
  obtain ⟨p, l, e, R, s, m, args, below, meth, c0, Q, D, dA, A⟩ := K
  exact fun H locs ls hH hS hl => lv_icmp_ne h.1 h.2.1 hd ht (fun q => kt q H locs ls hH hS hl) (fun q => kf q H locs ls hH hS hl)
theorem xg_if_lt (h : xX Y rm K) {x : Int32} {off : Int} (tgt : Nat) (hd : decode Y.2.1 pc = .ok (.ifCond .lt off, 3)) (ht : (pc : Int) + off = (tgt : Int)) (kt : x < 0 → xG K tgt vs st M sz c n) (kf : ¬ x < 0 → xG K (pc + 3) vs st M sz c n) : xG K pc vs (.int x :: st) M sz c n := by
  obtain ⟨p, l, e, R, s, m, args, below, meth, c0, Q, D, dA, A⟩ := K
  exact fun H locs ls hH hS hl => lv_if_lt h.1 h.2.1 hd ht (fun q => kt q H locs ls hH hS hl) (fun q => kf q H locs ls hH hS hl)
theorem xg_icmp_lt (h : xX Y rm K) {x y : Int32} {off : Int} (tgt : Nat) (hd : decode Y.2.1 pc = .ok (.if_icmp .lt off, 3)) (ht : (pc : Int) + off = (tgt : Int)) (kt : x < y → xG K tgt vs st M sz c n) (kf : ¬ x < y → xG K (pc + 3) vs st M sz c n) : xG K pc vs (.int y :: .int x :: st) M sz c n := by
  obtain ⟨p, l, e, R, s, m, args, below, meth, c0, Q, D, dA, A⟩ := K
  exact fun H locs ls hH hS hl => lv_icmp_lt h.1 h.2.1 hd ht (fun q => kt q H locs ls hH hS hl) (fun q => kf q H locs ls hH hS hl)
theorem xg_if_ge (h : xX Y rm K) {x : Int32} {off : Int} (tgt : Nat) (hd : decode Y.2.1 pc = .ok (.ifCond .ge off, 3)) (ht : (pc : Int) + off = (tgt : Int)) (kt : 0 ≤ x → xG K tgt vs st M sz c n) (kf : ¬ 0 ≤ x → xG K (pc + 3) vs st M sz c n) : xG K pc vs (.int x :: st) M sz c n := by
  obtain ⟨p, l, e, R, s, m, args, below, meth, c0, Q, D, dA, A⟩ := K
  exact fun H locs ls hH hS hl => lv_if_ge h.1 h.2.1 hd ht (fun q => kt q H locs ls hH hS hl) (fun q => kf q H locs ls hH hS hl)
theorem xg_icmp_ge (h : xX Y rm K) {x y : Int32} {off : Int} (tgt : Nat) (hd : decode Y.2.1 pc = .ok (.if_icmp .ge off, 3)) (ht : (pc : Int) + off = (tgt : Int)) (kt : y ≤ x → xG K tgt vs st M sz c n) (kf : ¬ y ≤ x → xG K (pc + 3) vs st M sz c n) : xG K pc vs (.int y :: .int x :: st) M sz c n := by
  obtain ⟨p, l, e, R, s, m, args, below, meth, c0, Q, D, dA, A⟩ := K
  exact fun H locs ls hH hS hl => lv_icmp_ge h.1 h.2.1 hd ht (fun q => kt q H locs ls hH hS hl) (fun q => kf q H locs ls hH hS hl)
theorem xg_if_gt (h : xX Y rm K) {x : Int32} {off : Int} (tgt : Nat) (hd : decode Y.2.1 pc = .ok (.ifCond .gt off, 3)) (ht : (pc : Int) + off = (tgt : Int)) (kt : 0 < x → xG K tgt vs st M sz c n) (kf : ¬ 0 < x → xG K (pc + 3) vs st M sz c n) : xG K pc vs (.int x :: st) M sz c n := by
  obtain ⟨p, l, e, R, s, m, args, below, meth, c0, Q, D, dA, A⟩ := K
  exact fun H locs ls hH hS hl => lv_if_gt h.1 h.2.1 hd ht (fun q => kt q H locs ls hH hS hl) (fun q => kf q H locs ls hH hS hl)
theorem xg_icmp_gt (h : xX Y rm K) {x y : Int32} {off : Int} (tgt : Nat) (hd : decode Y.2.1 pc = .ok (.if_icmp .gt off, 3)) (ht : (pc : Int) + off = (tgt : Int)) (kt : y < x → xG K tgt vs st M sz c n) (kf : ¬ y < x → xG K (pc + 3) vs st M sz c n) : xG K pc vs (.int y :: .int x :: st) M sz c n := by
  obtain ⟨p, l, e, R, s, m, args, below, meth, c0, Q, D, dA, A⟩ := K
  exact fun H locs ls hH hS hl => lv_icmp_gt h.1 h.2.1 hd ht (fun q => kt q H locs ls hH hS hl) (fun q => kf q H locs ls hH hS hl)
theorem xg_if_le (h : xX Y rm K) {x : Int32} {off : Int} (tgt : Nat) (hd : decode Y.2.1 pc = .ok (.ifCond .le off, 3)) (ht : (pc : Int) + off = (tgt : Int)) (kt : x ≤ 0 → xG K tgt vs st M sz c n) (kf : ¬ x ≤ 0 → xG K (pc + 3) vs st M sz c n) : xG K pc vs (.int x :: st) M sz c n := by
  obtain ⟨p, l, e, R, s, m, args, below, meth, c0, Q, D, dA, A⟩ := K
  exact fun H locs ls hH hS hl => lv_if_le h.1 h.2.1 hd ht (fun q => kt q H locs ls hH hS hl) (fun q => kf q H locs ls hH hS hl)
theorem xg_icmp_le (h : xX Y rm K) {x y : Int32} {off : Int} (tgt : Nat) (hd : decode Y.2.1 pc = .ok (.if_icmp .le off, 3)) (ht : (pc : Int) + off = (tgt : Int)) (kt : x ≤ y → xG K tgt vs st M sz c n) (kf : ¬ x ≤ y → xG K (pc + 3) vs st M sz c n) : xG K pc vs (.int y :: .int x :: st) M sz c n := by
  obtain ⟨p, l, e, R, s, m, args, below, meth, c0, Q, D, dA, A⟩ := K
  exact fun H locs ls hH hS hl => lv_icmp_le h.1 h.2.1 hd ht (fun q => kt q H locs ls hH hS hl) (fun q => kf q H locs ls hH hS hl)
theorem xg_goto (h : xX Y rm K) {off : Int} (tgt : Nat) (hd : decode Y.2.1 pc = .ok (.goto off, 3)) (ht : (pc : Int) + off = (tgt : Int)) (k : xG K tgt vs st M sz c n) : xG K pc vs st M sz c n := by
  obtain ⟨p, l, e, R, s, m, args, below, meth, c0, Q, D, dA, A⟩ := K
  exact fun H locs ls hH hS hl => lv_goto h.1 h.2.1 hd ht (k H locs ls hH hS hl)
theorem xg_ifnonnull (h : xX Y rm K) {x : Nat} {off : Int} (tgt : Nat) (hd : decode Y.2.1 pc = .ok (.ifnonnull off, 3)) (ht : (pc : Int) + off = (tgt : Int)) (k : xG K tgt vs st M sz c n) : xG K pc vs (.ref x :: st) M sz c n := by
  obtain ⟨p, l, e, R, s, m, args, below, meth, c0, Q, D, dA, A⟩ := K
  exact fun H locs ls hH hS hl => lv_ifnonnull h.1 h.2.1 hd ht (k H locs ls hH hS hl)
theorem xg_ifnull (h : xX Y rm K) {x : Nat} {off : Int} (hd : decode Y.2.1 pc = .ok (.ifnull off, 3)) (k : xG K (pc + 3) vs st M sz c n) : xG K pc vs (.ref x :: st) M sz c n := by
  obtain ⟨p, l, e, R, s, m, args, below, meth, c0, Q, D, dA, A⟩ := K
  exact fun H locs ls hH hS hl => lv_ifnull h.1 h.2.1 hd (k H locs ls hH hS hl)
theorem xg_ifnullN (h : xX Y rm K) {off : Int} (tgt : Nat) (hd : decode Y.2.1 pc = .ok (.ifnull off, 3)) (ht : (pc : Int) + off = (tgt : Int)) (k : xG K tgt vs st M sz c n) : xG K pc vs (.null :: st) M sz c n := by
  obtain ⟨p, l, e, R, s, m, args, below, meth, c0, Q, D, dA, A⟩ := K
  exact fun H locs ls hH hS hl => lv_ifnullN h.1 h.2.1 hd ht (k H locs ls hH hS hl)
theorem xg_ifnonnullN (h : xX Y rm K) {off : Int} (hd : decode Y.2.1 pc = .ok (.ifnonnull off, 3)) (k : xG K (pc + 3) vs st M sz c n) : xG K pc vs (.null :: st) M sz c n := by
  obtain ⟨p, l, e, R, s, m, args, below, meth, c0, Q, D, dA, A⟩ := K
  exact fun H locs ls hH hS hl => lv_ifnonnullN h.1 h.2.1 hd (k H locs ls hH hS hl)
theorem xg_lookup (h : xX Y rm K) {dflt : Int} {ps : Array (Int × Int)} {len : Nat} {x : Int32} {off : Int} (tgt : Nat) (hd : decode Y.2.1 pc = .ok (.lookupswitch dflt ps, len)) (hp : (ps.toList.zip (ps.toList.drop 1)).all (fun (a, next) => a.1 < next.1) = true) (ho : Op.lookupswitch.offset ps.toList dflt x.toInt = off) (ht : (pc : Int) + off = (tgt : Int)) (k : xG K tgt vs st M sz c n) : xG K pc vs (.int x :: st) M sz c n := by
  obtain ⟨p, l, e, R, s, m, args, below, meth, c0, Q, D, dA, A⟩ := K
  exact fun H locs ls hH hS hl => lv_lookup h.1 h.2.1 hd hp ho ht (k H locs ls hH hS hl)
theorem xg_tableOut (h : xX Y rm K) {dflt lo hi : Int} {offs : Array Int} {len : Nat} {x : Int32} (tgt : Nat) (hd : decode Y.2.1 pc = .ok (.tableswitch dflt lo hi offs, len)) (h0 : x.toInt < lo ∨ hi < x.toInt) (ht : (pc : Int) + dflt = (tgt : Int)) (k : xG K tgt vs st M sz c n) : xG K pc vs (.int x :: st) M sz c n := by
  obtain ⟨p, l, e, R, s, m, args, below, meth, c0, Q, D, dA, A⟩ := K
  exact fun H locs ls hH hS hl => lv_tableOut h.1 h.2.1 hd h0 ht (k H locs ls hH hS hl)
theorem xg_tableIn (h : xX Y rm K) {dflt lo hi : Int} {offs : Array Int} {len : Nat} {x : Int32} {off : Int} (tgt : Nat) (hd : decode Y.2.1 pc = .ok (.tableswitch dflt lo hi offs, len)) (h1 : ¬ x.toInt < lo) (h2 : ¬ hi < x.toInt) (ho : offs[(x.toInt - lo).toNat]? = some off) (ht : (pc : Int) + off = (tgt : Int)) (k : xG K tgt vs st M sz c n) : xG K pc vs (.int x :: st) M sz c n := by
  obtain ⟨p, l, e, R, s, m, args, below, meth, c0, Q, D, dA, A⟩ := K
  exact fun H locs ls hH hS hl => lv_tableIn h.1 h.2.1 hd h1 h2 ho ht (k H locs ls hH hS hl)
/-- what the tables say of a class of the world: its number, name, field table, slots, types -/
def xCl (ci : Nat) (C : String) (T : u_T) (N : Nat) (ty : Nat → FieldType) : Prop := classes[ci]? = some (C, T, N) ∧ (∀ w ∈ u_ws C T N, w ∈ lw_g) ∧ (∀ k, k < N → parseFieldDescriptor (T k).2.2.1 = some (ty k)) ∧ ∀ a, a < N → ∀ b, b < N → a ≠ b → (T a).2.1 ≠ (T b).2.1
theorem xg_get (h : xX Y rm K) {ci N j ix a : Nat} {C : String} {T : u_T} {ty : Nat → FieldType} {fs : List Value} {v : Value} (hc : xCl ci C T N ty) (hd : decode Y.2.1 pc = .ok (.getfield ix, 3)) (hw : Cond.fieldLink Y.1.cls ix (T j).1 (T j).2.1 (T j).2.2.1 ∈ lw_g) (hj : j < N) (hM : M a = some (.inr (ci, fs))) (hv : fs[j]? = some v) (k : xG K (pc + 3) vs (v :: st) M sz c n) : xG K pc vs (.ref a :: st) M sz c n := by
  obtain ⟨p, l, e, R, s, m, args, below, meth, c0, Q, D, dA, A⟩ := K
  obtain ⟨hx, hb, hml, hr, hlk, hown, hts, hKK, hA, hnm, hR, hNs⟩ := h
  exact fun H locs ls hH hS hl => va_get (D := D) (cl := classes) (tys := xTys dA) (ws := [(a, xe dA (.inr (ci, fs)))]) hx hb hts hc.2.1 hown hKK (hH.one hM) 0 rfl hc.1 j hj (hts _ hw) (fun _ h9 => h9) hv hd (k H locs ls hH hS hl)
theorem xg_put (h : xX Y rm K) {ci N j ix a : Nat} {C : String} {T : u_T} {ty : Nat → FieldType} {fs : List Value} {v : Value} (hc : xCl ci C T N ty) (hd : decode Y.2.1 pc = .ok (.putfield ix, 3)) (hw : Cond.fieldLink Y.1.cls ix (T j).1 (T j).2.1 (T j).2.2.1 ∈ lw_g) (hj : j < N) (hf : (T j).2.2.2 = false) (hM : M a = some (.inr (ci, fs))) (hl0 : j < fs.length) (hn : narrow (ty j) v = v) (hft : fits (ty j) v = true) {fs' : List Value} (hv : fs.set j v = fs') (k : xG K (pc + 3) vs st (xup M a (.inr (ci, fs'))) sz c n) : xG K pc vs (v :: .ref a :: st) M sz c n := by
  subst hv
  obtain ⟨p, l, e, R, s, m, args, below, meth, c0, Q, D, dA, A⟩ := K
  obtain ⟨hx, hb, hml, hr, hlk, hown, hts, hKK, hA, hnm, hR, hNs⟩ := h
  intro H locs ls hH hS hl
  have hap := va_apart (own := Y.1.cls) hts hc.2.1 ty hc.2.2.1 hc.2.2.2 hKK hc.1
  obtain ⟨⟨r, h1, cell, q1, q2, q3, q4⟩, hAa⟩ := hH.2 a _ hM
  have hr1 : r = (C, T, N) := Option.some.inj (h1.symm.trans hc.1)
  subst hr1
  obtain ⟨hSl, hfc, kC, hkC, hkind⟩ := hKK.1 ci _ hc.1
  obtain ⟨cf, kf, fi, f, hi, hsl⟩ := hSl j hj
  have hlay := hts _ (hc.2.1 _ (u_in_lay hj))
  unfold u_lay at hlay
  rw [if_neg (by rw [hf]; decide)] at hlay
  have hst := (u_facts hfc hkC (u_lays hts hc.2.1 hj) hi).1
  have h6 := u_store hfc hkC hkind hlay hi (hc.2.2.1 j hj) hn hft
  refine W.putK hx hb (f := f) ⟨hown, hts _ hw, ⟨_, _, _, hi⟩, hst⟩ (by rw [q2]; exact h6) q1 q3 (by rw [hsl]; exact k2_hasslot (q4 j hj)) rfl rfl hd fun H' e1 e2 e3 => ?_
  rw [hsl] at e1 ⊢
  exact k H' _ ls (hH.put hAa ⟨_, hc.1, t_OB.to (V := updV (vp_V fs) j v) ⟨_, e1, q2, q3, t_set q4 hap hj v⟩ (fun i _ => vp_updV_set hl0 v i)⟩ e2 e3) (hS.put e2 e3 hAa) hl
theorem xg_putF (h : xX Y rm K) {ci N j ix a : Nat} {C : String} {T : u_T} {ty : Nat → FieldType} {fs : List Value} {v : Value} (hc : xCl ci C T N ty) (hd : decode Y.2.1 pc = .ok (.putfield ix, 3)) (hw : Cond.fieldLink Y.1.cls ix (T j).1 (T j).2.1 (T j).2.2.1 ∈ lw_g) (hj : j < N) (hf : (T j).2.2.2 = true) (hin : Y.1.name = "<init>") (hcls : (T j).1 = Y.1.cls) (hM : M a = some (.inr (ci, fs))) (hl0 : j < fs.length) (hn : narrow (ty j) v = v) (hft : fits (ty j) v = true) {fs' : List Value} (hv : fs.set j v = fs') (k : xG K (pc + 3) vs st (xup M a (.inr (ci, fs'))) sz c n) : xG K pc vs (v :: .ref a :: st) M sz c n := by
  subst hv
  obtain ⟨p, l, e, R, s, m, args, below, meth, c0, Q, D, dA, A⟩ := K
  obtain ⟨hx, hb, hml, hr, hlk, hown, hts, hKK, hA, hnm, hR, hNs⟩ := h
  intro H locs ls hH hS hl
  have hap := va_apart (own := Y.1.cls) hts hc.2.1 ty hc.2.2.1 hc.2.2.2 hKK hc.1
  obtain ⟨⟨r, h1, cell, q1, q2, q3, q4⟩, hAa⟩ := hH.2 a _ hM
  have hr1 : r = (C, T, N) := Option.some.inj (h1.symm.trans hc.1)
  subst hr1
  obtain ⟨hSl, hfc, kC, hkC, hkind⟩ := hKK.1 ci _ hc.1
  obtain ⟨cf, kf, fi, f, hi, hsl⟩ := hSl j hj
  have hlay := hts _ (hc.2.1 _ (u_in_lay hj))
  unfold u_lay at hlay
  rw [if_pos hf] at hlay
  have hst := (u_facts hfc hkC (u_lays hts hc.2.1 hj) hi).1
  have hcf : m.cls = cf := by
    obtain ⟨_, _, c', _, _, _, -, -, hf', -, -, -, hown2, -⟩ := Cond.laysFinal_spec hlay
    have e1 : c' = cf := by have := hi.symm.trans hf'; simp at this; exact this.1.symm
    rw [hcls] at hown2
    rw [← e1]; exact Option.some.inj (hown.symm.trans hown2)
  have h6 := u_fits hfc hkC hkind (Or.inr hlay) hi (hc.2.2.1 j hj) hn hft
  refine W.putFinK hx hb hown (hts _ hw) hi hst hcf (hnm.trans hin) (by rw [q2]; exact h6) q1 q3 (by rw [hsl]; exact k2_hasslot (q4 j hj)) rfl rfl hd fun H' e1 e2 e3 => ?_
  rw [hsl] at e1 ⊢
  exact k H' _ ls (hH.put hAa ⟨_, hc.1, t_OB.to (V := updV (vp_V fs) j v) ⟨_, e1, q2, q3, t_set q4 hap hj v⟩ (fun i _ => vp_updV_set hl0 v i)⟩ e2 e3) (hS.put e2 e3 hAa) hl
theorem xg_bald (h : xX Y rm K) {t n0 a : Nat} {f : Nat → Int32} {i : Int32} (hd : decode Y.2.1 pc = .ok (.baload, 1)) (ht : xTy[t]? = some .byte) (hM : M a = some (.inl (t, n0, .inl f))) (hi : vp_in i n0) (k : xG K (pc + 1) vs (.int (f i.toNatClampNeg) :: st) M sz c n) : xG K pc vs (.int i :: .ref a :: st) M sz c n := by
  obtain ⟨p, l, e, R, s, m, args, below, meth, c0, Q, D, dA, A⟩ := K
  obtain ⟨hx, hb, hml, hr, hlk, hown, hts, hKK, hA, hnm, hR, hNs⟩ := h
  exact fun H locs ls hH hS hl => va_bald (D := D) (cl := classes) (tys := xTys dA) (ws := [(a, xe dA (.inl (t, n0, .inl f)))]) hx hb hKK (hH.one hM) 0 t rfl (xTys_at dA ht) hi hd (k H locs ls hH hS hl)
theorem xg_iald (h : xX Y rm K) {t n0 a : Nat} {f : Nat → Int32} {i : Int32} (hd : decode Y.2.1 pc = .ok (.iaload, 1)) (ht : xTy[t]? = some .int) (hM : M a = some (.inl (t, n0, .inl f))) (hi : vp_in i n0) (k : xG K (pc + 1) vs (.int (f i.toNatClampNeg) :: st) M sz c n) : xG K pc vs (.int i :: .ref a :: st) M sz c n := by
  obtain ⟨p, l, e, R, s, m, args, below, meth, c0, Q, D, dA, A⟩ := K
  obtain ⟨hx, hb, hml, hr, hlk, hown, hts, hKK, hA, hnm, hR, hNs⟩ := h
  exact fun H locs ls hH hS hl => va_iald (D := D) (cl := classes) (tys := xTys dA) (ws := [(a, xe dA (.inl (t, n0, .inl f)))]) hx hb hKK (hH.one hM) 0 t rfl (xTys_at dA ht) hi hd (k H locs ls hH hS hl)
theorem xg_zald (h : xX Y rm K) {t n0 a : Nat} {f : Nat → Int32} {i : Int32} (hd : decode Y.2.1 pc = .ok (.baload, 1)) (ht : xTy[t]? = some .boolean) (hM : M a = some (.inl (t, n0, .inl f))) (hi : vp_in i n0) (k : xG K (pc + 1) vs (.int (f i.toNatClampNeg) :: st) M sz c n) : xG K pc vs (.int i :: .ref a :: st) M sz c n := by
  obtain ⟨p, l, e, R, s, m, args, below, meth, c0, Q, D, dA, A⟩ := K
  obtain ⟨hx, hb, hml, hr, hlk, hown, hts, hKK, hA, hnm, hR, hNs⟩ := h
  exact fun H locs ls hH hS hl => va_zald (D := D) (cl := classes) (tys := xTys dA) (ws := [(a, xe dA (.inl (t, n0, .inl f)))]) hx hb hKK (hH.one hM) 0 t rfl (xTys_at dA ht) hi hd (k H locs ls hH hS hl)
theorem xg_cald (h : xX Y rm K) {t n0 a : Nat} {f : Nat → Int32} {i : Int32} (hd : decode Y.2.1 pc = .ok (.caload, 1)) (ht : xTy[t]? = some .char) (hM : M a = some (.inl (t, n0, .inl f))) (hi : vp_in i n0) (k : xG K (pc + 1) vs (.int (f i.toNatClampNeg) :: st) M sz c n) : xG K pc vs (.int i :: .ref a :: st) M sz c n := by
  obtain ⟨p, l, e, R, s, m, args, below, meth, c0, Q, D, dA, A⟩ := K
  obtain ⟨hx, hb, hml, hr, hlk, hown, hts, hKK, hA, hnm, hR, hNs⟩ := h
  exact fun H locs ls hH hS hl => va_cald (D := D) (cl := classes) (tys := xTys dA) (ws := [(a, xe dA (.inl (t, n0, .inl f)))]) hx hb hKK (hH.one hM) 0 t rfl (xTys_at dA ht) hi hd (k H locs ls hH hS hl)
theorem xg_aald (h : xX Y rm K) {t n0 a : Nat} {f : Nat → Option Nat} {i : Int32} {C : String} {v : Value} (hd : decode Y.2.1 pc = .ok (.aaload, 1)) (ht : xTy[t]? = some (.object C)) (hM : M a = some (.inl (t, n0, .inr (.inr (.inr (.inr f)))))) (hi : vp_in i n0) (hv : va_rf (f i.toNatClampNeg) = v) (k : xG K (pc + 1) vs (v :: st) M sz c n) : xG K pc vs (.int i :: .ref a :: st) M sz c n := by
  subst hv
  obtain ⟨p, l, e, R, s, m, args, below, meth, c0, Q, D, dA, A⟩ := K
  obtain ⟨hx, hb, hml, hr, hlk, hown, hts, hKK, hA, hnm, hR, hNs⟩ := h
  exact fun H locs ls hH hS hl => va_aldq (D := D) (cl := classes) (tys := xTys dA) (ws := [(a, xe dA (.inl (t, n0, .inr (.inr (.inr (.inr f))))))]) hx hb hKK (hH.one hM) 0 t rfl (xTys_at dA ht) hi hd (k H locs ls hH hS hl)
theorem xg_alen (h : xX Y rm K) {t a : Nat} {x : vp_A} {ty : FieldType} (hd : decode Y.2.1 pc = .ok (.arraylength, 1)) (ht : xTy[t]? = some ty) (hM : M a = some (.inl (t, x))) (k : xG K (pc + 1) vs (.int (nI x.1) :: st) M sz c n) : xG K pc vs (.ref a :: st) M sz c n := by
  obtain ⟨p, l, e, R, s, m, args, below, meth, c0, Q, D, dA, A⟩ := K
  obtain ⟨hx, hb, hml, hr, hlk, hown, hts, hKK, hA, hnm, hR, hNs⟩ := h
  exact fun H locs ls hH hS hl => va_alen (D := D) (cl := classes) (tys := xTys dA) (ws := [(a, xe dA (.inl (t, x)))]) hx hb hKK (hH.one hM) 0 t rfl (xTys_at dA ht) rfl hd (k H locs ls hH hS hl)
theorem xg_bast (h : xX Y rm K) {t n0 a : Nat} {f : Nat → Int32} {i x : Int32} (hd : decode Y.2.1 pc = .ok (.bastore, 1)) (ht : xTy[t]? = some .byte) (hM : M a = some (.inl (t, n0, .inl f))) (hi : vp_in i n0) (k : xG K (pc + 1) vs st (xup M a (.inl (t, n0, .inl (upd f i.toNatClampNeg (vp_nar .byte x))))) sz c n) : xG K pc vs (.int x :: .int i :: .ref a :: st) M sz c n := by
  obtain ⟨p, l, e, R, s, m, args, below, meth, c0, Q, D, dA, A⟩ := K
  obtain ⟨hx, hb, hml, hr, hlk, hown, hts, hKK, hA, hnm, hR, hNs⟩ := h
  intro H locs ls hH hS hl
  obtain ⟨h1, hAa⟩ := hH.2 a _ hM
  have h1 : H[a]? = some (vp_cell (dA t) (n0, .inl f)) := h1
  refine W.bast hx hb h1 ((hKK.2 t _ (xTys_at dA ht)).1 n0 (fun j => .int (f j))) (fun q => by cases q) (by show ¬ (i < 0 ∨ (arrV _ _ _).slots.size ≤ _); rw [arrV_size]; exact hi) rfl rfl hd fun H1 e9 z oq => ?_
  refine k H1 _ ls (hH.put hAa ?_ z oq) (hS.put z oq hAa) hl
  show H1[a]? = some (vp_cell _ _)
  rw [e9, vp_cell_i, vp_cell_i, arrV_store]
  congr 2
  funext q
  by_cases hq : q = i.toNatClampNeg
  · subst hq
    simp [updV, upd, vp_nar]
    try rfl
  · simp [updV, upd, hq]
theorem xg_iast (h : xX Y rm K) {t n0 a : Nat} {f : Nat → Int32} {i x : Int32} (hd : decode Y.2.1 pc = .ok (.iastore, 1)) (ht : xTy[t]? = some .int) (hM : M a = some (.inl (t, n0, .inl f))) (hi : vp_in i n0) (k : xG K (pc + 1) vs st (xup M a (.inl (t, n0, .inl (upd f i.toNatClampNeg x)))) sz c n) : xG K pc vs (.int x :: .int i :: .ref a :: st) M sz c n := by
  obtain ⟨p, l, e, R, s, m, args, below, meth, c0, Q, D, dA, A⟩ := K
  obtain ⟨hx, hb, hml, hr, hlk, hown, hts, hKK, hA, hnm, hR, hNs⟩ := h
  intro H locs ls hH hS hl
  obtain ⟨h1, hAa⟩ := hH.2 a _ hM
  have h1 : H[a]? = some (vp_cell (dA t) (n0, .inl f)) := h1
  refine W.iast hx hb h1 ((hKK.2 t _ (xTys_at dA ht)).1 n0 (fun j => .int (f j))) (fun q => by cases q) (by show ¬ (i < 0 ∨ (arrV _ _ _).slots.size ≤ _); rw [arrV_size]; exact hi) rfl rfl hd fun H1 e9 z oq => ?_
  refine k H1 _ ls (hH.put hAa ?_ z oq) (hS.put z oq hAa) hl
  show H1[a]? = some (vp_cell _ _)
  rw [e9, vp_cell_i, vp_cell_i, arrV_store]
  congr 2
  funext q
  by_cases hq : q = i.toNatClampNeg
  · subst hq
    simp [updV, upd, vp_nar]
    try rfl
  · simp [updV, upd, hq]
theorem xg_zast (h : xX Y rm K) {t n0 a : Nat} {f : Nat → Int32} {i x : Int32} (hd : decode Y.2.1 pc = .ok (.bastore, 1)) (ht : xTy[t]? = some .boolean) (hM : M a = some (.inl (t, n0, .inl f))) (hi : vp_in i n0) (k : xG K (pc + 1) vs st (xup M a (.inl (t, n0, .inl (upd f i.toNatClampNeg (vp_nar .boolean x))))) sz c n) : xG K pc vs (.int x :: .int i :: .ref a :: st) M sz c n := by
  obtain ⟨p, l, e, R, s, m, args, below, meth, c0, Q, D, dA, A⟩ := K
  obtain ⟨hx, hb, hml, hr, hlk, hown, hts, hKK, hA, hnm, hR, hNs⟩ := h
  intro H locs ls hH hS hl
  obtain ⟨h1, hAa⟩ := hH.2 a _ hM
  have h1 : H[a]? = some (vp_cell (dA t) (n0, .inl f)) := h1
  refine W.zast hx hb h1 ((hKK.2 t _ (xTys_at dA ht)).1 n0 (fun j => .int (f j))) (fun q => by cases q) (by show ¬ (i < 0 ∨ (arrV _ _ _).slots.size ≤ _); rw [arrV_size]; exact hi) rfl rfl hd fun H1 e9 z oq => ?_
  refine k H1 _ ls (hH.put hAa ?_ z oq) (hS.put z oq hAa) hl
  show H1[a]? = some (vp_cell _ _)
  rw [e9, vp_cell_i, vp_cell_i, arrV_store]
  congr 2
  funext q
  by_cases hq : q = i.toNatClampNeg
  · subst hq
    simp [updV, upd, vp_nar]
    try rfl
  · simp [updV, upd, hq]
theorem xg_cast (h : xX Y rm K) {t n0 a : Nat} {f : Nat → Int32} {i x : Int32} (hd : decode Y.2.1 pc = .ok (.castore, 1)) (ht : xTy[t]? = some .char) (hM : M a = some (.inl (t, n0, .inl f))) (hi : vp_in i n0) (k : xG K (pc + 1) vs st (xup M a (.inl (t, n0, .inl (upd f i.toNatClampNeg (vp_nar .char x))))) sz c n) : xG K pc vs (.int x :: .int i :: .ref a :: st) M sz c n := by
  obtain ⟨p, l, e, R, s, m, args, below, meth, c0, Q, D, dA, A⟩ := K
  obtain ⟨hx, hb, hml, hr, hlk, hown, hts, hKK, hA, hnm, hR, hNs⟩ := h
  intro H locs ls hH hS hl
  obtain ⟨h1, hAa⟩ := hH.2 a _ hM
  have h1 : H[a]? = some (vp_cell (dA t) (n0, .inl f)) := h1
  refine W.cast hx hb h1 ((hKK.2 t _ (xTys_at dA ht)).1 n0 (fun j => .int (f j))) (fun q => by cases q) (by show ¬ (i < 0 ∨ (arrV _ _ _).slots.size ≤ _); rw [arrV_size]; exact hi) rfl rfl hd fun H1 e9 z oq => ?_
  refine k H1 _ ls (hH.put hAa ?_ z oq) (hS.put z oq hAa) hl
  show H1[a]? = some (vp_cell _ _)
  rw [e9, vp_cell_i, vp_cell_i, arrV_store]
  congr 2
  funext q
  by_cases hq : q = i.toNatClampNeg
  · subst hq
    simp [updV, upd, vp_nar]
    try rfl
  · simp [updV, upd, hq]
theorem xg_aast (h : xX Y rm K) {t n0 a v ci N : Nat} {f : Nat → Option Nat} {i : Int32} {C : String} {T : u_T} {ty : Nat → FieldType} {fs : List Value} (hc : xCl ci C T N ty) (hd : decode Y.2.1 pc = .ok (.aastore, 1)) (ht : xTy[t]? = some (.object C)) (hM : M a = some (.inl (t, n0, .inr (.inr (.inr (.inr f)))))) (hv : M v = some (.inr (ci, fs))) (hi : vp_in i n0) (k : xG K (pc + 1) vs st (xup M a (.inl (t, n0, .inr (.inr (.inr (.inr (va_up f i.toNatClampNeg (some v)))))))) sz c n) : xG K pc vs (.ref v :: .int i :: .ref a :: st) M sz c n := by
  obtain ⟨p, l, e, R, s, m, args, below, meth, c0, Q, D, dA, A⟩ := K
  obtain ⟨hx, hb, hml, hr, hlk, hown, hts, hKK, hA, hnm, hR, hNs⟩ := h
  intro H locs ls hH hS hl
  obtain ⟨h1, hAa⟩ := hH.2 a _ hM
  have h1 : H[a]? = some (vp_cell (dA t) (n0, .inr (.inr (.inr (.inr f))))) := h1
  have hlt : i.toNatClampNeg < n0 := Nat.not_le.mp fun q => hi (Or.inr q)
  have h0 : ¬ i < 0 := fun q => hi (Or.inl q)
  obtain ⟨⟨r', hr', cellV, g1, g2, g3, -⟩, -⟩ := hH.2 v _ hv
  have hcls := (hKK.1 ci _ hc.1).2
  obtain ⟨kA, comp, k1, k2, k3, -⟩ := (hKK.2 t _ (xTys_at dA ht)).2
  have hcomp : comp = D.1 ci := Option.some.inj (k3.symm.trans hcls.1)
  subst hcomp
  obtain ⟨kC, hkC, -⟩ := hcls.2
  refine W.aast hx hb h1 (fun q h => by cases h) (fun h => by cases h) k1 k2 rfl hkC ⟨h0, by show _ < (arrV _ _ _).slots.size; rw [arrV_size]; exact hlt⟩ g1 (fun q h => by rw [g3] at h; cases h) (by rw [g2]; exact hkC) (by rw [g2]; exact va_assign hcls) rfl rfl hd fun H1 e9 z oq => ?_
  refine k H1 _ ls (hH.put hAa ?_ z oq) (hS.put z oq hAa) hl
  show H1[a]? = some (vp_cell _ _)
  rw [e9, vp_cell_q, vp_cell_q, arrV_store]
  congr 2
  funext q
  by_cases hq : q = i.toNatClampNeg
  · subst hq
    simp [updV, va_up, va_rf]
  · simp [updV, va_up, hq]
theorem xg_new (h : xX Y rm K) {ci N ix : Nat} {C : String} {T : u_T} {ty : Nat → FieldType} (fs : List Value) (hc : xCl ci C T N ty) (hd : decode Y.2.1 pc = .ok (.new ix, 3)) (hw1 : Cond.classLink Y.1.cls ix C ∈ lw_g) (hw2 : Cond.instantiable C N ∈ lw_g) (hw3 : Cond.initialized C ∈ lw_g) (hfs : ∀ j, j < N → defaultValue (ty j) = vp_V fs j) (hcc : c + 1 ≤ rm.cells) (hss : n + N ≤ rm.slots) (k : M sz = none → xG K (pc + 3) vs (.ref sz :: st) (xup M sz (.inr (ci, fs))) (sz + 1) (c + 1) (n + N)) : xG K pc vs st M sz c n := by
  obtain ⟨p, l, e, R, s, m, args, below, meth, c0, Q, D, dA, A⟩ := K
  obtain ⟨hx, hb, hml, hr, hlk, hown, hts, hKK, hA, hnm, hR, hNs⟩ := h
  subst hR
  intro H locs ls hH hS hl
  have hKn := hKK.1 ci _ hc.1
  have hfr : M sz = none := by
    cases hz : M sz with
    | none => rfl
    | some z => exact absurd (hH.lt hz) (Nat.lt_irrefl _)
  have hAs : A sz := hA sz (by rw [← hH.1]; exact hS.1)
  refine W.newcK hx hb hown (hts _ hw1) (hts _ hw2) (hts _ hw3) rfl hd hcc hss hKn.2.1 hH.1 fun H1 kC hkC e1 z1 o1 => ?_
  exact k hfr H1 locs ls (hH.push hAs ⟨_, hc.1, (u_born ty hts hc.2.1 hKn hkC e1 hc.2.2.1).to hfs⟩ z1 o1) ⟨by rw [z1, ← hH.1]; exact Nat.le_succ_of_le hS.1, fun q h1 h2 => (o1 q (by rw [← hH.1]; exact Nat.lt_of_lt_of_le h1 hS.1)).trans (hS.2.1 q h1 h2), hS.2.2⟩ hl
theorem xg_newa (h : xX Y rm K) {t : Nat} {atype : ArrayType} {ty : FieldType} {x : Int32} (N : Nat) (hd : decode Y.2.1 pc = .ok (.newarray atype, 2)) (hw : Cond.arrayClass (newarray.typeOf atype) ∈ lw_g) (ha : newarray.typeOf atype = ty) (ht : xTy[t]? = some ty) (hprim : ∃ v : Int32, defaultValue ty = .int v ∧ v = 0) (hrf : ∀ C, ty ≠ .object C) (hx0 : ¬ x < 0) (hN : x.toNatClampNeg = N) (hby : N * componentBytes ty ≤ 536870912) (hcc : c + 1 ≤ rm.cells) (hss : n + N ≤ rm.slots) (k : M sz = none → xG K (pc + 2) vs (.ref sz :: st) (xup M sz (.inl (t, N, .inl (fun _ => 0)))) (sz + 1) (c + 1) (n + N)) : xG K pc vs (.int x :: st) M sz c n := by
  subst ha
  obtain ⟨p, l, e, R, s, m, args, below, meth, c0, Q, D, dA, A⟩ := K
  obtain ⟨hx, hb, hml, hr, hlk, hown, hts, hKK, hA, hnm, hR, hNs⟩ := h
  subst hR
  intro H locs ls hH hS hl
  have hfr : M sz = none := by
    cases hz : M sz with
    | none => rfl
    | some z => exact absurd (hH.lt hz) (Nat.lt_irrefl _)
  have hAs : A sz := hA sz (by rw [← hH.1]; exact hS.1)
  refine va_newaK hx hb (hts _ hw) rfl hd rfl hx0 hN hby hcc hss hH.1 fun H1 cA e1 z1 o1 hAr hNm => ?_
  have hcA : cA = dA t := by
    have h2 := (hKK.2 t _ (xTys_at dA ht)).2
    have h3 : s.vm.findClass ("[" ++ (newarray.typeOf atype).toString) = some (dA t) := by cases atype <;> exact h2
    exact Option.some.inj (hNm.symm.trans h3)
  subst hcA
  obtain ⟨v, hv1, rfl⟩ := hprim
  refine k hfr H1 locs ls (hH.push hAs ?_ z1 o1) ⟨by rw [z1, ← hH.1]; exact Nat.le_succ_of_le hS.1, fun q h1 h2 => (o1 q (by rw [← hH.1]; exact Nat.lt_of_lt_of_le h1 hS.1)).trans (hS.2.1 q h1 h2), hS.2.2⟩ hl
  show H1[sz]? = some (vp_cell _ _)
  rw [e1, vp_cell_i, hv1]
theorem xg_newq (h : xX Y rm K) {t ix : Nat} {C : String} {x : Int32} (N : Nat) (hd : decode Y.2.1 pc = .ok (.anewarray ix, 3)) (hw : Cond.classLink Y.1.cls ix C ∈ lw_g) (hw2 : C ∈ xAo) (ht : xTy[t]? = some (.object C)) (hx0 : ¬ x < 0) (hN : x.toNatClampNeg = N) (hby : N * 4 ≤ 536870912) (hcc : c + 1 ≤ rm.cells) (hss : n + N ≤ rm.slots) (k : M sz = none → xG K (pc + 3) vs (.ref sz :: st) (xup M sz (.inl (t, N, .inr (.inr (.inr (.inr (fun _ => none))))))) (sz + 1) (c + 1) (n + N)) : xG K pc vs (.int x :: st) M sz c n := by
  subst hN
  obtain ⟨p, l, e, R, s, m, args, below, meth, c0, Q, D, dA, A⟩ := K
  obtain ⟨hx, hb, hml, hr, hlk, hown, hts, hKK, hA, hnm, hR, hNs⟩ := h
  subst hR
  intro H locs ls hH hS hl
  have hfr : M sz = none := by
    cases hz : M sz with
    | none => rfl
    | some z => exact absurd (hH.lt hz) (Nat.lt_irrefl _)
  have hAs : A sz := hA sz (by rw [← hH.1]; exact hS.1)
  refine W.anew hx hb hown (hts _ hw) (va_AO.use (hNs.2 C hw2)) rfl hd rfl hx0 hby hcc hss fun cA kA comp f1 f2 f3 f4 => ?_
  generalize hH1 : H.push ({ cls := cA, slots := Array.replicate x.toNatClampNeg .null, vm := .none } : Cell) = H1
  have z1 : H1.size = sz + 1 := by rw [← hH1, Array.size_push, hH.1]
  have e1 : H1[sz]? = some (arrV cA x.toNatClampNeg (fun _ => .null)) := by rw [← hH1, ← hH.1, Array.getElem?_push_size, ← arrV_new]
  have o1 : ∀ q : Nat, q < sz → H1[q]? = H[q]? := fun q hq => by rw [← hH1, Array.getElem?_push, if_neg (Nat.ne_of_lt (by rw [hH.1]; exact hq))]
  have hcA : cA = dA t := by
    obtain ⟨kA2, comp2, -, -, -, g4⟩ := (hKK.2 t _ (xTys_at dA ht)).2
    exact Option.some.inj (f1.symm.trans g4)
  subst hcA
  have k9 := k hfr H1 locs ls (hH.push hAs (by show H1[sz]? = some (vp_cell _ _); rw [e1, vp_cell_q]; rfl) z1 o1) ⟨by rw [z1, ← hH.1]; exact Nat.le_succ_of_le hS.1, fun q h1 h2 => (o1 q (by rw [← hH.1]; exact Nat.lt_of_lt_of_le h1 hS.1)).trans (hS.2.1 q h1 h2), hS.2.2⟩ hl
  rw [hH.1]
  exact k9
theorem xg_min (h : xX Y rm K) {ix : Nat} {x y : Int32} (hd : decode Y.2.1 pc = .ok (.invokestatic ix, 3)) (hw : Cond.methodLink Y.1.cls ix Lib.Math.min.name ∈ lw_g) (hw2 : Cond.static Lib.Math.min.name ∈ lw_g) (hw3 : Cond.initialized "java/lang/Math" ∈ lw_g) (hw4 : Cond.code Lib.Math.min.name Lib.Math.min.code 2 (some .int) ∈ lw_g) (hfr : 1 ≤ rm.frames) (hlo : (st.map fun v => v.category).sum + 13 ≤ rm.locals) (hcc : c ≤ rm.cells) (hss : n ≤ rm.slots) (k : xG K (pc + 3) vs (.int (if y < x then y else x) :: st) M sz c n) : xG K pc vs (.int y :: .int x :: st) M sz c n := by
  obtain ⟨p, l, e, R, s, m, args, below, meth, c0, Q, D, dA, A⟩ := K
  obtain ⟨hx, hb, hml, hr, hlk, hown, hts, hKK, hA, hnm, hR, hNs⟩ := h
  subst hR
  exact fun H locs ls hH hS hl => va_mmin hx hb hl.1.symm hown (hts _ hw) (hts _ hw2) (hts _ hw3) (hts _ hw4) hfr hlo hcc hss hd (k H locs ls hH hS hl)
theorem xg_max (h : xX Y rm K) {ix : Nat} {x y : Int32} (hd : decode Y.2.1 pc = .ok (.invokestatic ix, 3)) (hw : Cond.methodLink Y.1.cls ix Lib.Math.max.name ∈ lw_g) (hw2 : Cond.static Lib.Math.max.name ∈ lw_g) (hw3 : Cond.initialized "java/lang/Math" ∈ lw_g) (hw4 : Cond.code Lib.Math.max.name Lib.Math.max.code 2 (some .int) ∈ lw_g) (hfr : 1 ≤ rm.frames) (hlo : (st.map fun v => v.category).sum + 13 ≤ rm.locals) (hcc : c ≤ rm.cells) (hss : n ≤ rm.slots) (k : xG K (pc + 3) vs (.int (if x < y then y else x) :: st) M sz c n) : xG K pc vs (.int y :: .int x :: st) M sz c n := by
  obtain ⟨p, l, e, R, s, m, args, below, meth, c0, Q, D, dA, A⟩ := K
  obtain ⟨hx, hb, hml, hr, hlk, hown, hts, hKK, hA, hnm, hR, hNs⟩ := h
  subst hR
  exact fun H locs ls hH hS hl => va_mmax hx hb hl.1.symm hown (hts _ hw) (hts _ hw2) (hts _ hw3) (hts _ hw4) hfr hlo hcc hss hd (k H locs ls hH hS hl)
theorem xg_oinit (h : xX Y rm K) {ix a : Nat} (hd : decode Y.2.1 pc = .ok (.invokespecial ix, 3)) (hw : Cond.methodLink Y.1.cls ix Lib.objectInit ∈ lw_g) (hw2 : Cond.instanceMethod Lib.objectInit ∈ lw_g) (hw3 : Cond.code Lib.objectInit ⟨#[0xb1]⟩ 1 none ∈ lw_g) (hfr : 1 ≤ rm.frames) (hlo : (st.map fun v => v.category).sum + 12 ≤ rm.locals) (k : xG K (pc + 3) vs st M sz c n) : xG K pc vs (.ref a :: st) M sz c n := by
  obtain ⟨p, l, e, R, s, m, args, below, meth, c0, Q, D, dA, A⟩ := K
  obtain ⟨hx, hb, hml, hr, hlk, hown, hts, hKK, hA, hnm, hR, hNs⟩ := h
  subst hR
  exact fun H locs ls hH hS hl => W.objInit hx hb hown (hts _ hw) (hts _ hw2) (hts _ hw3) rfl hl.1 rfl hd hfr (by show 2 * 0 + _ + 12 ≤ _; omega) (k H locs ls hH hS hl)
theorem xg_copy (h : xX Y rm K) {t ix n0 n1 a0 a : Nat} {f g : Nat → Int32} {ty : FieldType} {sp dp w : Int32} (hd : decode Y.2.1 pc = .ok (.invokestatic ix, 3)) (hw : Cond.methodLink Y.1.cls ix arraycopyName ∈ lw_g) (hw2 : Cond.native arraycopyName ∈ lw_g) (hw3 : Cond.static arraycopyName ∈ lw_g) (hw4 : Cond.initialized "java/lang/System" ∈ lw_g) (ht : xTy[t]? = some ty) (hprim : refKind ty = false) (hM0 : M a0 = some (.inl (t, n0, .inl f))) (hM1 : M a = some (.inl (t, n1, .inl g))) (h1 : ¬ sp < 0) (h2 : ¬ dp < 0) (h3 : ¬ w < 0) (h4 : sp.toNatClampNeg + w.toNatClampNeg ≤ n0) (h5 : dp.toNatClampNeg + w.toNatClampNeg ≤ n1) (hfit : ∀ i, i < w.toNatClampNeg → fits ty (.int (f (sp.toNatClampNeg + i))) = true) (hfr : 1 ≤ rm.frames) (hlo : (st.map fun v => v.category).sum + (nativeFrameWords "java/lang/System" "arraycopy" 5 + 11) ≤ rm.locals) (k : xG K (pc + 3) vs st (xup M a (.inl (t, n1, .inl (va_cpy f g sp.toNatClampNeg dp.toNatClampNeg w.toNatClampNeg)))) sz c n) : xG K pc vs (.int w :: .int dp :: .ref a :: .int sp :: .ref a0 :: st) M sz c n := by
  obtain ⟨p, l, e, R, s, m, args, below, meth, c0, Q, D, dA, A⟩ := K
  obtain ⟨hx, hb, hml, hr, hlk, hown, hts, hKK, hA, hnm, hR, hNs⟩ := h
  subst hR
  intro H locs ls hH hS hl T hT X
  have nn : ∀ z : Int32, ¬ z < 0 → z.toInt = (z.toNatClampNeg : Int) := by
    intro z hz
    have hz0 : (0 : Int) ≤ z.toInt := by
      have := Int32.not_lt.mp hz
      simpa using Int32.le_iff_toInt_le.mp this
    show z.toInt = ((z.toInt.toNat : Nat) : Int)
    omega
  have hc0 : H[a0]? = some (vp_cell (dA t) (n0, .inl f)) := (hH.2 a0 _ hM0).1
  obtain ⟨hc1, hAa⟩ := hH.2 a _ hM1
  have hc1 : H[a]? = some (vp_cell (dA t) (n1, .inl g)) := hc1
  obtain ⟨-, k0, hk0, cm0, hkk0⟩ := (hKK.2 t _ (xTys_at dA ht)).1 n0 (fun j => .int (f j))
  obtain ⟨vm', X', step⟩ := X.arraycopy hx hown (hts _ hw) (hts _ hw2) (hts _ hw3) (hts _ hw4) (src := a0) (dst := a) (cs := vp_cell (dA t) (n0, .inl f)) (cd := vp_cell (dA t) (n1, .inl g)) (srcPos := sp) (destPos := dp) (n := w) (by rw [hT]; exact hc0) (by rw [hT]; exact hc1)
    (fun _ h => by cases h) (fun _ h => by cases h) (fun h => by cases h) (fun h => by cases h) hk0 hk0 hkk0 hkk0 (by simp [hprim]) h1 h2 h3
    (by rw [nn sp h1, nn w h3]; show ¬ _ > ((arrV (dA t) n0 (fun j => .int (f j))).slots.size : Int); rw [arrV_size]; omega)
    (by rw [nn dp h2, nn w h3]; show ¬ _ > ((arrV (dA t) n1 (fun j => .int (g j))).slots.size : Int); rw [arrV_size]; omega)
    (fun vm₁ _ i hi => by
      have e9 : (vp_cell (dA t) (n0, .inl f)).slots.getD (sp.toNatClampNeg + i) .null = .int (f (sp.toNatClampNeg + i)) := by
        show (arrV (dA t) n0 (fun j => .int (f j))).slots.getD _ _ = _
        rw [Array.getD_eq_getD_getElem?, arrV_read _ _ (by omega)]
        rfl
      refine ⟨?_, ?_⟩
      · rw [e9]
        exact hfit i hi
      · rw [e9]
        exact trivial)
    (g := F0 m pc ls (.int w :: .int dp :: .ref a :: .int sp :: .ref a0 :: st)) rfl hl.1 (rest := st) rfl (by rw [hb]; exact hd) hfr (by show 2 * 0 + _ + _ ≤ _; omega)
  have e1 : copied (vp_cell (dA t) (n0, .inl f)) (vp_cell (dA t) (n1, .inl g)) sp dp w = vp_cell (dA t) (n1, .inl (va_cpy f g sp.toNatClampNeg dp.toNatClampNeg w.toNatClampNeg)) := va_copied (fun z => .int z) (dA t) (dA t) f g h4
  rw [e1] at X' step
  have hla : a < H.size := (Array.getElem?_eq_some_iff.mp hc1).1
  generalize hN : vp_cell (dA t) (n1, .inl (va_cpy f g sp.toNatClampNeg dp.toNatClampNeg w.toNatClampNeg)) = N9 at X' step
  have hheap : ((T.setVm vm').setCell a N9).heap = H.setIfInBounds a N9 := by rw [← hT]; rfl
  have oq : ∀ q : Nat, q ≠ a → (H.setIfInBounds a N9)[q]? = H[q]? := fun q hq => by simp [Array.getElem?_setIfInBounds, Ne.symm hq]
  have z9 : (H.setIfInBounds a N9).size = H.size := by simp
  obtain ⟨t9, a1, b1⟩ := k (H.setIfInBounds a N9) _ ls (hH.put hAa (by show (H.setIfInBounds a N9)[a]? = some _; rw [hN]; simp [Array.getElem?_setIfInBounds, hla]) z9 oq) ⟨by rw [z9]; exact hS.1, fun q g1 g2 => by
      rw [oq q (fun e9 => g2 (by rw [e9]; exact hAa))]
      exact hS.2.1 q g1 g2, fun q hq => by
      rcases List.mem_append.mp hq with h | h
      · exact hS.2.2 q h
      · obtain ⟨z, -, hz⟩ := List.mem_map.mp h
        rw [← hz]
        exact hAa⟩ hl _ hheap X'
  exact ⟨t9, step t9 a1, b1⟩
theorem xg_ishr (h : xX Y rm K) {x y : Int32} (hd : decode Y.2.1 pc = .ok (.ishr, 1)) (k : xG K (pc + 1) vs (.int (x >>> (y &&& 31)) :: st) M sz c n) : xG K pc vs (.int y :: .int x :: st) M sz c n := by
  obtain ⟨p, l, e, R, s, m, args, below, meth, c0, Q, D, dA, A⟩ := K
  exact fun H locs ls hH hS hl => lv_ishr h.1 h.2.1 hd (k H locs ls hH hS hl)
end XG
end
section

/-! contracts -/
def xR (d mc ms : Nat) : Room := { frames := d, cells := mc, slots := ms, locals := 40 * d }
def xw (Y : xM) : List Cond := .code Y.1 Y.2.1 Y.2.2.1 Y.2.2.2 :: lw_g
def xA (M : xH) (sz : Nat) : Nat → Prop := fun q => (∃ z, M q = some z) ∨ sz ≤ q
abbrev xQ : Type := Option Value → xH → Nat → Prop
def xPre (D : va_G) (dA : Nat → ClassId) (av : List Value) (M : xH) (sz : Nat) : Array Value → State → Prop := va_Pc av (fun U => xHo D dA (fun _ => True) M sz U.heap ∧ va_K D classes (xTys dA) U ∧ xNs U)
def xPost (D : va_G) (dA : Nat → ClassId) (M : xH) (sz : Nat) (Q : xQ) : Array Value → State → Outcome → State → Prop := fun _ st oc t => (∃ (v : Option Value) (M' : xH) (sz' : Nat), oc = .returned v ∧ Q v M' sz' ∧ xHo D dA (xA M sz) M' sz' t.heap ∧ va_K D classes (xTys dA) t) ∧ va_F (xA M sz) st t
def xC (d mc ms : Nat) (Y : xM) (av : List Value) (M : xH) (sz : Nat) (Q : xQ) : Prop := ∀ (l : Launch) (D : va_G) (dA : Nat → ClassId), Met l Y.1 (xw Y) (xR d mc ms) (xPre D dA av M sz) (xPost D dA M sz Q) mc ms (xA M sz)
/-- the end of a method that is proved by contract -/
def xEd (mc ms : Nat) (M0 : xH) (sz0 : Nat) (Q : xQ) (K : xK) : Prop := match K with
  | (_, _, _, _, s, _, args, below, _, _, Qs, D, dA, A) => Qs = MQ below (xPost D dA M0 sz0 Q) args s mc ms (xA M0 sz0) ∧ A = xA M0 sz0
theorem xL_entry {av : List Value} (hav : ∀ v ∈ av, v.category = 1) : ∀ (i j : Nat) (v : Value), (av.map some)[j]? = some (some v) → (i + j, v) ∈ lv_args i av := by
  induction av with
  | nil => intro i j v h; simp at h
  | cons a l ih =>
    intro i j v h
    have ha : a.category = 1 := hav a List.mem_cons_self
    have e1 : lv_args i (a :: l) = (i, a) :: lv_args (i + 1) l := by
      show (i, a) :: lv_args (if a.category = 2 then i + 2 else i + 1) l = _
      rw [if_neg (by rw [ha]; decide)]
    rw [e1]
    cases j with
    | zero =>
      simp at h
      subst h
      exact List.mem_cons_self
    | succ j =>
      have h2 : (l.map some)[j]? = some (some v) := by simpa using h
      have h3 := ih (fun v hv => hav v (List.mem_cons_of_mem _ hv)) (i + 1) j v h2
      rw [show i + (j + 1) = i + 1 + j by omega]
      exact List.mem_cons_of_mem _ h3
theorem xC_of {d mc ms : Nat} {Y : xM} {av : List Value} {M : xH} {sz : Nat} {Q : xQ} (hpl : plainName Y.1.cls = true) (hn : (lg_sl av).length ≤ Y.2.2.1) (hav : ∀ v ∈ av, v.category = 1) {vs : List (Option Value)} (hvs : av.map some ++ List.replicate (Y.2.2.1 - av.length) none = vs)
    (body : ∀ K : xK, xX Y (xR d mc ms) K → xEd mc ms M sz Q K → xG K 0 vs [] M sz 0 0) : xC d mc ms Y av M sz Q := by
  intro l D dA
  refine Met.ofW (cc := Y.2.1) (maxL := Y.2.2.1) (ret := Y.2.2.2) hpl rfl ?_
  intro p e s m args below meth c s₁ B hml hv
  obtain ⟨rfl, hH, hK, hNs⟩ := hv
  have hts := atoms_spec (ws := xw Y) B.pre
  have hown : s.vm.findClass Y.1.cls = some m.cls := findClass_of_methodNamed B.named
  have hin : meth.name = Y.1.name := (name_of_methodNamed B.named B.method).1
  have hl := lv_entry av hn
  rw [lg_entry_eq]
  generalize (lg_sl av ++ List.replicate (Y.2.2.1 - (lg_sl av).length) Slot.unset).toArray = ls at hl ⊢
  have hA : xHo D dA (xA M sz) M sz s.heap := ⟨hH.1, fun a z hz => ⟨(hH.2 a z hz).1, Or.inl ⟨z, hz⟩⟩⟩
  refine body (p, l, e, _, s, m, _, below, meth, c, _, D, dA, xA M sz) ⟨B.exec, B.bytes, hml, B.returns, B.notSynchronized, hown, fun w hw => hts w (List.mem_cons_of_mem _ hw), hK, fun q hq => Or.inr (by rw [← hH.1]; exact hq), hin, rfl, hNs⟩ ⟨rfl, rfl⟩ s.heap [] ls hA va_S.rf ?_
  rw [hml]
  refine ⟨hl.1, hl.2.1, fun i v hv => ?_⟩
  subst hvs
  have hi : (av.map some)[i]? = some (some v) := by
    by_cases hlt : i < (av.map some).length
    · rw [List.getElem?_append_left hlt] at hv
      exact hv
    · rw [List.getElem?_append_right (by omega)] at hv
      have h1 := List.mem_of_getElem? hv
      rw [List.mem_replicate] at h1
      cases h1.2
  have h1 := xL_entry hav 0 i v hi
  rw [Nat.zero_add] at h1
  refine ⟨hl.2.2 _ h1, ?_⟩
  have h2 := List.mem_of_getElem? hi
  simp at h2
  exact hav v h2
section XRET
variable {Y : xM} {rm : Room} {K : xK} {pc : Nat} {vs : List (Option Value)} {st : List Value} {M M0 : xH} {sz sz0 c n mc ms : Nat} {Q : xQ}
theorem xg_iret (h : xX Y rm K) (he : xEd mc ms M0 sz0 Q K) {v : Int32} {ty : FieldType} (hd : decode Y.2.1 pc = .ok (.ireturn, 1)) (hty : Y.2.2.2 = some ty) (hn : narrow ty (.int v) = .int v) (hc : c ≤ mc) (hs : n ≤ ms) (hq : Q (some (.int v)) M sz) : xG K pc vs [.int v] M sz c n := by
  obtain ⟨p, l, e, R, s, m, args, below, meth, c0, Qs, D, dA, A⟩ := K
  obtain ⟨hx, hb, hml, hr, hlk, hown, hts, hKK, hA, hnm, hR, hNs⟩ := h
  obtain ⟨rfl, rfl⟩ := he
  intro H locs ls hH hS hl
  refine W.widen (k := mc) (n := ms) hc hs ?_
  exact W.zret hx hb (hr.trans hty) hn (fun t ht hW => ⟨⟨some (.int v), M, sz, rfl, hq, by rw [ht]; exact hH, va_K.moved hW.alike hKK⟩, hS.F ht⟩) hS.2.2 hd hlk
theorem xg_vret (h : xX Y rm K) (he : xEd mc ms M0 sz0 Q K) (hd : decode Y.2.1 pc = .ok (.return_, 1)) (hty : Y.2.2.2 = none) (hc : c ≤ mc) (hs : n ≤ ms) (hq : Q none M sz) : xG K pc vs [] M sz c n := by
  obtain ⟨p, l, e, R, s, m, args, below, meth, c0, Qs, D, dA, A⟩ := K
  obtain ⟨hx, hb, hml, hr, hlk, hown, hts, hKK, hA, hnm, hR, hNs⟩ := h
  obtain ⟨rfl, rfl⟩ := he
  intro H locs ls hH hS hl
  refine W.widen (k := mc) (n := ms) hc hs ?_
  exact W.vret hx hb (hr.trans hty) (fun t ht hW => ⟨⟨none, M, sz, rfl, hq, by rw [ht]; exact hH, va_K.moved hW.alike hKK⟩, hS.F ht⟩) hS.2.2 hd hlk
theorem xg_aret (h : xX Y rm K) (he : xEd mc ms M0 sz0 Q K) {v : Value} {C : String} (hd : decode Y.2.1 pc = .ok (.areturn, 1)) (hty : Y.2.2.2 = some (.object C)) (hv : v = .null ∨ ∃ a, v = .ref a) (hc : c ≤ mc) (hs : n ≤ ms) (hq : Q (some v) M sz) : xG K pc vs [v] M sz c n := by
  obtain ⟨p, l, e, R, s, m, args, below, meth, c0, Qs, D, dA, A⟩ := K
  obtain ⟨hx, hb, hml, hr, hlk, hown, hts, hKK, hA, hnm, hR, hNs⟩ := h
  obtain ⟨rfl, rfl⟩ := he
  intro H locs ls hH hS hl
  refine W.widen (k := mc) (n := ms) hc hs ?_
  exact W.aret hx hb (hr.trans hty) (Or.inl ⟨C, rfl⟩) hv (fun t ht hW => ⟨⟨some v, M, sz, rfl, hq, by rw [ht]; exact hH, va_K.moved hW.alike hKK⟩, hS.F ht⟩) hS.2.2 hd hlk
end XRET

/-! calls -/
theorem x_goodAll : GoodIn lw_g lw_g := fun w hw => ⟨hw, good_of_word (List.mem_filter.mp hw).2⟩
theorem x_goodW {Y : xM} (hc : Cond.code Y.1 Y.2.1 Y.2.2.1 Y.2.2.2 ∈ lw_g) : GoodIn lw_g (xw Y) := fun w hw => x_goodAll w (by
  rcases List.mem_cons.mp hw with h | h
  · rw [h]; exact hc
  · exact h)
/-- what the tables say of a method that is called on an object of its class -/
def xVm (Y : xM) (np : Nat) : Prop := Cond.code Y.1 Y.2.1 Y.2.2.1 Y.2.2.2 ∈ lw_g ∧ Cond.instanceMethod Y.1 ∈ lw_g ∧ Cond.selects Y.1.cls Y.1 Y.1 ∈ lw_g ∧ Cond.initialized Y.1.cls ∈ lw_g ∧ (Y.1.cls ≠ "java/lang/invoke/MethodHandle" ∧ Y.1.cls ≠ "java/lang/invoke/VarHandle" ∧ (parseMethodDescriptor Y.1.desc).map (fun d => d.parameters.length) = some np) ∧ Y.2.2.1 ≤ 21
def xIm (Y : xM) (np : Nat) : Prop := Cond.code Y.1 Y.2.1 Y.2.2.1 Y.2.2.2 ∈ lw_g ∧ Cond.instanceMethod Y.1 ∈ lw_g ∧ Y.1.name = "<init>" ∧ Cond.initialized Y.1.cls ∈ lw_g ∧ (Y.1.cls ≠ "java/lang/invoke/MethodHandle" ∧ Y.1.cls ≠ "java/lang/invoke/VarHandle" ∧ (parseMethodDescriptor Y.1.desc).map (fun d => d.parameters.length) = some np) ∧ Y.2.2.1 ≤ 21 ∧ Y.2.2.2 = none
def xSm (Y : xM) (np : Nat) : Prop := Cond.code Y.1 Y.2.1 Y.2.2.1 Y.2.2.2 ∈ lw_g ∧ Cond.static Y.1 ∈ lw_g ∧ Cond.initialized Y.1.cls ∈ lw_g ∧ (Y.1.cls ≠ "java/lang/invoke/MethodHandle" ∧ Y.1.cls ≠ "java/lang/invoke/VarHandle" ∧ (parseMethodDescriptor Y.1.desc).map (fun d => d.parameters.length) = some np) ∧ Y.2.2.1 ≤ 21
theorem xPre_blind {D : va_G} {dA : Nat → ClassId} {av : List Value} {M : xH} {sz : Nat} : FrameBlind (xPre D dA av M sz) := fun a U g mk q => ⟨q.1, q.2.1, va_K.moved (u := U) (U := U.calling g mk a) (Vm.Alike.refl U.vm) q.2.2.1, q.2.2.2.same rfl⟩
section XCALL
variable {Y Y2 : xM} {rm : Room} {K : xK} {pc : Nat} {vs : List (Option Value)} {st : List Value} {M : xH} {sz c n d mc ms mc0 ms0 np ix : Nat} {Q2 : xQ}
/-- behind a call -/
theorem xg_after {p : Program} {l : Launch} {e : Env} {R : Room} {s : State} {m : MethodId} {args : Array Value} {below : List Frame} {meth : Method} {c0 : Code} {H : Heap} {locs : List Loc} {Qs : State → Prop} {D : va_G} {dA : Nat → ClassId} {A : Nat → Prop} {ls : Array Slot} {st0 rest : List Value} {a : Array Value}
    (hr : va_Run p l e R s m args below meth c0 H locs c n mc ms (F0 m pc ls st0) rest (xPost D dA M sz Q2 a) (xA M sz)) (hA : ∀ q : Nat, s.heap.size ≤ q → A q) (hH : xHo D dA A M sz H) (hS : va_S A s.heap H locs)
    (kk : ∀ (v : Option Value) (M' : xH) (sz' : Nat) (H1 : Heap) (locs1 : List Loc), Q2 v M' sz' → xHo D dA A M' sz' H1 → va_S A s.heap H1 locs1 → W p l e R s m args below meth c0 H1 locs1 (c + mc) (n + ms) Qs (F0 m (pc + 3) ls (v.toList ++ rest))) : W p l e R s m args below meth c0 H locs c n Qs (F0 m pc ls st0) := by
  intro T hT X
  obtain ⟨v, st₀, t, T', L, h0, X', hL, e1, e2, ⟨⟨v', M', sz', hv, hp, hH', -⟩, hz, hk⟩, stp⟩ := hr T hT X
  cases hv
  rw [h0] at hz hk
  have hAA : ∀ q, xA M sz q → A q := fun q hq => by
    rcases hq with ⟨z, hz1⟩ | hq
    · exact (hH.2 q z hz1).2
    · exact hA q (Nat.le_trans hS.1 (by rw [hH.1]; exact hq))
  obtain ⟨t2, a1, b1⟩ := kk v M' sz' T'.heap (locs ++ L) hp (by rw [e1]; exact hH'.weak hAA)
    ⟨Nat.le_trans hS.1 (by rw [e1]; exact hz), fun q h1 h2 => by rw [e1, hk q (Nat.lt_of_lt_of_le h1 hS.1) (fun z => h2 (hAA q z))]; exact hS.2.1 q h1 h2, fun q hq => by
      rcases List.mem_append.mp hq with h | h
      · exact hS.2.2 q h
      · exact hAA _ (hL q h)⟩ T' rfl X'
  exact ⟨t2, stp t2 a1, b1⟩
theorem xg_callV (h : xX Y (xR (d + 1) mc0 ms0) K) {ci N b : Nat} {T : u_T} {ty : Nat → FieldType} {fs : List Value} (As : List Value) (hcl : xCl ci Y2.1.cls T N ty) (hm : xVm Y2 np) (hd : decode Y.2.1 pc = .ok (.invokevirtual ix, 3)) (hw : Cond.methodLink Y.1.cls ix Y2.1 ∈ lw_g) (hn : As.length = np) {st0 : List Value} (hst : As.reverse ++ .ref b :: st = st0) (hb8 : (st.map fun v => v.category).sum ≤ 8) (hM : M b = some (.inr (ci, fs))) (hC : xC d mc ms Y2 (.ref b :: As) M sz Q2) (hcc : c + mc ≤ mc0) (hss : n + ms ≤ ms0) (k : ∀ v M' sz', Q2 v M' sz' → xG K (pc + 3) vs (v.toList ++ st) M' sz' (c + mc) (n + ms)) : xG K pc vs st0 M sz c n := by
  subst hst
  obtain ⟨p, l, e, R, s, m, args, below, meth, c0, Qs, D, dA, A⟩ := K
  obtain ⟨hx, hb, hml, hr, hlk, hown, hts, hKK, hA, hnm, hR, hNs⟩ := h
  subst hR
  intro H locs ls hH hS hl
  obtain ⟨w1, w2, w3, w4, w5, w6⟩ := hm
  have hG : GoodIn lw_g (wsV Y.1.cls ix Y2.1.cls Y2.1 (xw Y2)) := by
    intro w hw9
    unfold wsV at hw9
    rcases List.mem_append.mp hw9 with h9 | h9
    · simp only [List.mem_cons, List.not_mem_nil, or_false] at h9
      rcases h9 with rfl | rfl | rfl | rfl
      · exact x_goodAll _ hw
      · exact x_goodAll _ w2
      · exact x_goodAll _ w3
      · exact x_goodAll _ w4
    · exact x_goodW w1 w h9
  refine xg_after (va_runV (As := As) (rest := st) (b := b) (C := Y2.1.cls) (bytes := Y2.2.1) (maxL := Y2.2.2.1) (ret := Y2.2.2.2) ⟨hx, hb, rfl, hown, hts⟩ (hC l D dA) (cwV np hts hG rfl rfl rfl ⟨rfl, w5⟩ ⟨Nat.le_refl _, by show 8 + (Y2.2.2.1 + 11) + 40 * d ≤ 40 * (d + 1); omega⟩) ⟨xPre_blind, va_recv hKK (hH.one hM) hcl.1 (q0 := 0) rfl, fun U hU hW => ⟨rfl, by rw [hU]; exact hH.weak (fun _ _ => trivial), va_K.moved hW.alike hKK, hNs.warm hW⟩⟩ rfl hn hl.1 rfl (lv_room hb8) hd ⟨hcc, hss⟩) hA hH hS ?_
  exact fun v M' sz' H1 locs1 hq hH1 hS1 => k v M' sz' hq H1 locs1 ls hH1 hS1 hl
theorem xg_callI (h : xX Y (xR (d + 1) mc0 ms0) K) {b : Nat} (As : List Value) (hm : xIm Y2 np) (hd : decode Y.2.1 pc = .ok (.invokespecial ix, 3)) (hw : Cond.methodLink Y.1.cls ix Y2.1 ∈ lw_g) (hn : As.length = np) {st0 : List Value} (hst : As.reverse ++ .ref b :: st = st0) (hb8 : (st.map fun v => v.category).sum ≤ 8) (hC : xC d mc ms Y2 (.ref b :: As) M sz Q2) (hcc : c + mc ≤ mc0) (hss : n + ms ≤ ms0) (k : ∀ v M' sz', Q2 v M' sz' → xG K (pc + 3) vs (v.toList ++ st) M' sz' (c + mc) (n + ms)) : xG K pc vs st0 M sz c n := by
  subst hst
  obtain ⟨p, l, e, R, s, m, args, below, meth, c0, Qs, D, dA, A⟩ := K
  obtain ⟨hx, hb, hml, hr, hlk, hown, hts, hKK, hA, hnm, hR, hNs⟩ := h
  subst hR
  intro H locs ls hH hS hl
  obtain ⟨w1, w2, w3, w4, w5, w6, w7⟩ := hm
  have w1' : Cond.code Y2.1 Y2.2.1 Y2.2.2.1 none ∈ lw_g := by rw [← w7]; exact w1
  have hw7 : xw Y2 = Cond.code Y2.1 Y2.2.1 Y2.2.2.1 none :: lw_g := by unfold xw; rw [w7]
  refine xg_after (va_runI (As := As) (rest := st) (b := b) (bytes := Y2.2.1) (maxL := Y2.2.2.1) ⟨hx, hb, rfl, hown, hts⟩ (hC l D dA) (cwI np hts (x_goodW w1) hw7 rfl rfl (hts _ w4) (hts _ hw) (hts _ w2) w3 w5 ⟨Nat.le_refl _, by show 8 + (Y2.2.2.1 + 11) + 40 * d ≤ 40 * (d + 1); omega⟩) ⟨xPre_blind, fun U hU hW => ⟨rfl, by rw [hU]; exact hH.weak (fun _ _ => trivial), va_K.moved hW.alike hKK, hNs.warm hW⟩⟩ rfl hn hl.1 rfl (lv_room hb8) hd ⟨hcc, hss⟩) hA hH hS ?_
  exact fun v M' sz' H1 locs1 hq hH1 hS1 => k v M' sz' hq H1 locs1 ls hH1 hS1 hl
theorem xg_callS (h : xX Y (xR (d + 1) mc0 ms0) K) (As : List Value) (hm : xSm Y2 np) (hd : decode Y.2.1 pc = .ok (.invokestatic ix, 3)) (hw : Cond.methodLink Y.1.cls ix Y2.1 ∈ lw_g) (hn : As.length = np) {st0 : List Value} (hst : As.reverse ++ st = st0) (hb8 : (st.map fun v => v.category).sum ≤ 8) (hC : xC d mc ms Y2 As M sz Q2) (hcc : c + mc ≤ mc0) (hss : n + ms ≤ ms0) (k : ∀ v M' sz', Q2 v M' sz' → xG K (pc + 3) vs (v.toList ++ st) M' sz' (c + mc) (n + ms)) : xG K pc vs st0 M sz c n := by
  subst hst
  obtain ⟨p, l, e, R, s, m, args, below, meth, c0, Qs, D, dA, A⟩ := K
  obtain ⟨hx, hb, hml, hr, hlk, hown, hts, hKK, hA, hnm, hR, hNs⟩ := h
  subst hR
  intro H locs ls hH hS hl
  obtain ⟨w1, w2, w4, w5, w6⟩ := hm
  refine xg_after (va_runS (As := As) (rest := st) (bytes := Y2.2.1) (maxL := Y2.2.2.1) (ret := Y2.2.2.2) ⟨hx, hb, rfl, hown, hts⟩ (hC l D dA) ⟨callB_of np hts (x_goodW w1) rfl rfl rfl (hts _ w4) (hts _ hw) w5 ⟨Nat.le_refl _, by show 8 + (Y2.2.2.1 + 11) + 40 * d ≤ 40 * (d + 1); omega⟩, hts _ w2⟩ ⟨xPre_blind, fun U hU hW => ⟨rfl, by rw [hU]; exact hH.weak (fun _ _ => trivial), va_K.moved hW.alike hKK, hNs.warm hW⟩⟩ rfl hn hl.1 rfl (lv_room hb8) hd ⟨hcc, hss⟩) hA hH hS ?_
  exact fun v M' sz' H1 locs1 hq hH1 hS1 => k v M' sz' hq H1 locs1 ls hH1 hS1 hl
theorem xg_callSN (h : xX Y (xR (d + 1) mc0 ms0) K) {host : String} (As : List Value) (hm : xSm Y2 np) (hd : decode Y.2.1 pc = .ok (.invokestatic ix, 3)) (hw : (Y.1.cls, ix, Y2.1, host) ∈ xNl) (hn : As.length = np) {st0 : List Value} (hst : As.reverse ++ st = st0) (hb8 : (st.map fun v => v.category).sum ≤ 8) (hC : xC d mc ms Y2 As M sz Q2) (hcc : c + mc ≤ mc0) (hss : n + ms ≤ ms0) (k : ∀ v M' sz', Q2 v M' sz' → xG K (pc + 3) vs (v.toList ++ st) M' sz' (c + mc) (n + ms)) : xG K pc vs st0 M sz c n := by
  subst hst
  obtain ⟨p, l, e, R, s, m, args, below, meth, c0, Qs, D, dA, A⟩ := K
  obtain ⟨hx, hb, hml, hr, hlk, hown, hts, hKK, hA, hnm, hR, hNs⟩ := h
  subst hR
  intro H locs ls hH hS hl
  obtain ⟨w1, w2, w4, w5, w6⟩ := hm
  refine xg_after (va_runSN (As := As) (rest := st) (host := host) (bytes := Y2.2.1) (maxL := Y2.2.2.1) (ret := Y2.2.2.2) ⟨hx, hb, rfl, hown, hts⟩ (hC l D dA) ⟨⟨⟨rfl, rfl, Nat.le_refl _, by show 8 + (Y2.2.2.1 + 11) + 40 * d ≤ 40 * (d + 1); omega, pay_in hts (x_goodW w1), List.mem_cons_self⟩, hts _ w1, hts _ w4, ⟨w5.1, w5.2.1⟩, fun sig hsig => by
      have h2 := w5.2.2
      rw [hsig] at h2
      exact (Option.some.inj h2).symm, va_Nw.use rfl (hNs.1 _ hw)⟩, hts _ w2, trivial⟩ ⟨xPre_blind, fun U hU hW => ⟨rfl, by rw [hU]; exact hH.weak (fun _ _ => trivial), va_K.moved hW.alike hKK, hNs.warm hW⟩⟩ rfl hn hl.1 rfl (lv_room hb8) hd ⟨hcc, hss⟩) hA hH hS ?_
  exact fun v M' sz' H1 locs1 hq hH1 hS1 => k v M' sz' hq H1 locs1 ls hH1 hS1 hl
end XCALL
end
section
/-! the layer's rows over natural numbers: every int is nI of a number below 2^31 -/
section XN
variable {Y : xM} {rm : Room} {K : xK} {pc : Nat} {vs : List (Option Value)} {st : List Value} {M : xH} {sz c n : Nat}
theorem xn_icmp_eq (h : xX Y rm K) {a b : Nat} {off : Int} (tgt : Nat) (hd : decode Y.2.1 pc = .ok (.if_icmp .eq off, 3)) (ht : (pc : Int) + off = (tgt : Int)) (ha : a < 2147483648) (hb : b < 2147483648) (kt : a = b → xG K tgt vs st M sz c n) (kf : ¬ a = b → xG K (pc + 3) vs st M sz c n) : xG K pc vs (.int (nI b) :: .int (nI a) :: st) M sz c n :=
  xg_icmp_eq h tgt hd ht (fun q => kt ((nI_eq ha hb).mp q)) (fun q => kf (fun z => q ((nI_eq ha hb).mpr z)))
theorem xn_icmp_ne (h : xX Y rm K) {a b : Nat} {off : Int} (tgt : Nat) (hd : decode Y.2.1 pc = .ok (.if_icmp .ne off, 3)) (ht : (pc : Int) + off = (tgt : Int)) (ha : a < 2147483648) (hb : b < 2147483648) (kt : ¬ a = b → xG K tgt vs st M sz c n) (kf : a = b → xG K (pc + 3) vs st M sz c n) : xG K pc vs (.int (nI b) :: .int (nI a) :: st) M sz c n :=
  xg_icmp_ne h tgt hd ht (fun q => kt (fun z => q ((nI_eq ha hb).mpr z))) (fun q => kf ((nI_eq ha hb).mp q))
theorem xn_icmp_lt (h : xX Y rm K) {a b : Nat} {off : Int} (tgt : Nat) (hd : decode Y.2.1 pc = .ok (.if_icmp .lt off, 3)) (ht : (pc : Int) + off = (tgt : Int)) (ha : a < 2147483648) (hb : b < 2147483648) (kt : a < b → xG K tgt vs st M sz c n) (kf : b ≤ a → xG K (pc + 3) vs st M sz c n) : xG K pc vs (.int (nI b) :: .int (nI a) :: st) M sz c n :=
  xg_icmp_lt h tgt hd ht (fun q => kt ((nI_ltI ha hb).mp q)) (fun q => kf (Nat.le_of_not_lt (fun z => q ((nI_ltI ha hb).mpr z))))
theorem xn_icmp_ge (h : xX Y rm K) {a b : Nat} {off : Int} (tgt : Nat) (hd : decode Y.2.1 pc = .ok (.if_icmp .ge off, 3)) (ht : (pc : Int) + off = (tgt : Int)) (ha : a < 2147483648) (hb : b < 2147483648) (kt : b ≤ a → xG K tgt vs st M sz c n) (kf : a < b → xG K (pc + 3) vs st M sz c n) : xG K pc vs (.int (nI b) :: .int (nI a) :: st) M sz c n :=
  xg_icmp_ge h tgt hd ht (fun q => kt ((nI_leI hb ha).mp q)) (fun q => kf (Nat.lt_of_not_le (fun z => q ((nI_leI hb ha).mpr z))))
theorem xn_icmp_gt (h : xX Y rm K) {a b : Nat} {off : Int} (tgt : Nat) (hd : decode Y.2.1 pc = .ok (.if_icmp .gt off, 3)) (ht : (pc : Int) + off = (tgt : Int)) (ha : a < 2147483648) (hb : b < 2147483648) (kt : b < a → xG K tgt vs st M sz c n) (kf : a ≤ b → xG K (pc + 3) vs st M sz c n) : xG K pc vs (.int (nI b) :: .int (nI a) :: st) M sz c n :=
  xg_icmp_gt h tgt hd ht (fun q => kt ((nI_ltI hb ha).mp q)) (fun q => kf (Nat.le_of_not_lt (fun z => q ((nI_ltI hb ha).mpr z))))
theorem xn_icmp_le (h : xX Y rm K) {a b : Nat} {off : Int} (tgt : Nat) (hd : decode Y.2.1 pc = .ok (.if_icmp .le off, 3)) (ht : (pc : Int) + off = (tgt : Int)) (ha : a < 2147483648) (hb : b < 2147483648) (kt : a ≤ b → xG K tgt vs st M sz c n) (kf : b < a → xG K (pc + 3) vs st M sz c n) : xG K pc vs (.int (nI b) :: .int (nI a) :: st) M sz c n :=
  xg_icmp_le h tgt hd ht (fun q => kt ((nI_leI ha hb).mp q)) (fun q => kf (Nat.lt_of_not_le (fun z => q ((nI_leI ha hb).mpr z))))
theorem xn_if_eq (h : xX Y rm K) {a : Nat} {off : Int} (tgt : Nat) (hd : decode Y.2.1 pc = .ok (.ifCond .eq off, 3)) (ht : (pc : Int) + off = (tgt : Int)) (ha : a < 2147483648) (kt : a = 0 → xG K tgt vs st M sz c n) (kf : 0 < a → xG K (pc + 3) vs st M sz c n) : xG K pc vs (.int (nI a) :: st) M sz c n :=
  xg_if_eq h tgt hd ht (fun q => kt ((nI_eq (b := 0) ha (by omega)).mp (by rw [nI_0]; exact q))) (fun q => kf (Nat.pos_of_ne_zero (fun z => q (by rw [z]; exact nI_0))))
theorem xn_if_ne (h : xX Y rm K) {a : Nat} {off : Int} (tgt : Nat) (hd : decode Y.2.1 pc = .ok (.ifCond .ne off, 3)) (ht : (pc : Int) + off = (tgt : Int)) (ha : a < 2147483648) (kt : 0 < a → xG K tgt vs st M sz c n) (kf : a = 0 → xG K (pc + 3) vs st M sz c n) : xG K pc vs (.int (nI a) :: st) M sz c n :=
  xg_if_ne h tgt hd ht (fun q => kt (Nat.pos_of_ne_zero (fun z => q (by rw [z]; exact nI_0)))) (fun q => kf ((nI_eq (b := 0) ha (by omega)).mp (by rw [nI_0]; exact q)))
theorem xn_if_lt (h : xX Y rm K) {a : Nat} {off : Int} (tgt : Nat) (hd : decode Y.2.1 pc = .ok (.ifCond .lt off, 3)) (ht : (pc : Int) + off = (tgt : Int)) (ha : a < 2147483648) (kf : xG K (pc + 3) vs st M sz c n) : xG K pc vs (.int (nI a) :: st) M sz c n :=
  xg_if_lt h tgt hd ht (fun q => absurd q (nI_pos ha)) (fun _ => kf)
theorem xn_if_ge (h : xX Y rm K) {a : Nat} {off : Int} (tgt : Nat) (hd : decode Y.2.1 pc = .ok (.ifCond .ge off, 3)) (ht : (pc : Int) + off = (tgt : Int)) (ha : a < 2147483648) (kt : xG K tgt vs st M sz c n) : xG K pc vs (.int (nI a) :: st) M sz c n :=
  xg_if_ge h tgt hd ht (fun _ => kt) (fun q => absurd (nI_pos' ha) q)
theorem xn_if_gt (h : xX Y rm K) {a : Nat} {off : Int} (tgt : Nat) (hd : decode Y.2.1 pc = .ok (.ifCond .gt off, 3)) (ht : (pc : Int) + off = (tgt : Int)) (ha : a < 2147483648) (kt : 0 < a → xG K tgt vs st M sz c n) (kf : a = 0 → xG K (pc + 3) vs st M sz c n) : xG K pc vs (.int (nI a) :: st) M sz c n :=
  xg_if_gt h tgt hd ht (fun q => kt ((nI_ltI (a := 0) (by omega) ha).mp (by rw [nI_0]; exact q))) (fun q => kf (Nat.eq_zero_of_not_pos (fun z => q (by rw [← nI_0]; exact (nI_ltI (by omega) ha).mpr z))))
theorem xn_if_le (h : xX Y rm K) {a : Nat} {off : Int} (tgt : Nat) (hd : decode Y.2.1 pc = .ok (.ifCond .le off, 3)) (ht : (pc : Int) + off = (tgt : Int)) (ha : a < 2147483648) (kt : a = 0 → xG K tgt vs st M sz c n) (kf : 0 < a → xG K (pc + 3) vs st M sz c n) : xG K pc vs (.int (nI a) :: st) M sz c n :=
  xg_if_le h tgt hd ht (fun q => kt (Nat.eq_zero_of_not_pos (fun z => absurd q (nI_nle z ha)))) (fun q => kf (Nat.pos_of_ne_zero (fun z => q (by rw [z, nI_0]; decide))))
theorem xn_iadd (h : xX Y rm K) {a b : Nat} (hd : decode Y.2.1 pc = .ok (.iadd, 1)) (k : xG K (pc + 1) vs (.int (nI (a + b)) :: st) M sz c n) : xG K pc vs (.int (nI b) :: .int (nI a) :: st) M sz c n := xg_iadd h hd (by rw [nI_add]; exact k)
theorem xn_isub (h : xX Y rm K) {a b : Nat} (hd : decode Y.2.1 pc = .ok (.isub, 1)) (hab : b ≤ a) (k : xG K (pc + 1) vs (.int (nI (a - b)) :: st) M sz c n) : xG K pc vs (.int (nI b) :: .int (nI a) :: st) M sz c n := xg_isub h hd (by rw [pk_sub hab]; exact k)
theorem xn_imul (h : xX Y rm K) {a b : Nat} (hd : decode Y.2.1 pc = .ok (.imul, 1)) (k : xG K (pc + 1) vs (.int (nI (a * b)) :: st) M sz c n) : xG K pc vs (.int (nI b) :: .int (nI a) :: st) M sz c n := xg_imul h hd (by rw [pk_mul]; exact k)
theorem xn_bald (h : xX Y rm K) {t n0 a i : Nat} {f : Nat → Int32} (hd : decode Y.2.1 pc = .ok (.baload, 1)) (ht : xTy[t]? = some .byte) (hM : M a = some (.inl (t, n0, .inl f))) (hi : i < n0) (hn : n0 < 2147483648) (k : xG K (pc + 1) vs (.int (f i) :: st) M sz c n) : xG K pc vs (.int (nI i) :: .ref a :: st) M sz c n :=
  xg_bald h hd ht hM (vp_in_nI hi hn) (by rw [nI_clamp (Nat.lt_trans hi hn)]; exact k)
theorem xn_iald (h : xX Y rm K) {t n0 a i : Nat} {f : Nat → Int32} (hd : decode Y.2.1 pc = .ok (.iaload, 1)) (ht : xTy[t]? = some .int) (hM : M a = some (.inl (t, n0, .inl f))) (hi : i < n0) (hn : n0 < 2147483648) (k : xG K (pc + 1) vs (.int (f i) :: st) M sz c n) : xG K pc vs (.int (nI i) :: .ref a :: st) M sz c n :=
  xg_iald h hd ht hM (vp_in_nI hi hn) (by rw [nI_clamp (Nat.lt_trans hi hn)]; exact k)
theorem xn_aald (h : xX Y rm K) {t n0 a i : Nat} {f : Nat → Option Nat} {C : String} {v : Value} (hd : decode Y.2.1 pc = .ok (.aaload, 1)) (ht : xTy[t]? = some (.object C)) (hM : M a = some (.inl (t, n0, .inr (.inr (.inr (.inr f)))))) (hi : i < n0) (hn : n0 < 2147483648) (hv : va_rf (f i) = v) (k : xG K (pc + 1) vs (v :: st) M sz c n) : xG K pc vs (.int (nI i) :: .ref a :: st) M sz c n :=
  xg_aald h hd ht hM (vp_in_nI hi hn) (by rw [nI_clamp (Nat.lt_trans hi hn)]; exact hv) k
theorem xn_bast (h : xX Y rm K) {t n0 a i : Nat} {f : Nat → Int32} {x : Int32} (hd : decode Y.2.1 pc = .ok (.bastore, 1)) (ht : xTy[t]? = some .byte) (hM : M a = some (.inl (t, n0, .inl f))) (hi : i < n0) (hn : n0 < 2147483648) (k : xG K (pc + 1) vs st (xup M a (.inl (t, n0, .inl (upd f i (vp_nar .byte x))))) sz c n) : xG K pc vs (.int x :: .int (nI i) :: .ref a :: st) M sz c n :=
  xg_bast h hd ht hM (vp_in_nI hi hn) (by rw [nI_clamp (Nat.lt_trans hi hn)]; exact k)
theorem xn_iast (h : xX Y rm K) {t n0 a i : Nat} {f : Nat → Int32} {x : Int32} (hd : decode Y.2.1 pc = .ok (.iastore, 1)) (ht : xTy[t]? = some .int) (hM : M a = some (.inl (t, n0, .inl f))) (hi : i < n0) (hn : n0 < 2147483648) (k : xG K (pc + 1) vs st (xup M a (.inl (t, n0, .inl (upd f i x)))) sz c n) : xG K pc vs (.int x :: .int (nI i) :: .ref a :: st) M sz c n :=
  xg_iast h hd ht hM (vp_in_nI hi hn) (by rw [nI_clamp (Nat.lt_trans hi hn)]; exact k)
theorem xn_aast (h : xX Y rm K) {t n0 a v ci N i : Nat} {f : Nat → Option Nat} {C : String} {T : u_T} {ty : Nat → FieldType} {fs : List Value} (hc : xCl ci C T N ty) (hd : decode Y.2.1 pc = .ok (.aastore, 1)) (ht : xTy[t]? = some (.object C)) (hM : M a = some (.inl (t, n0, .inr (.inr (.inr (.inr f)))))) (hv : M v = some (.inr (ci, fs))) (hi : i < n0) (hn : n0 < 2147483648) (k : xG K (pc + 1) vs st (xup M a (.inl (t, n0, .inr (.inr (.inr (.inr (va_up f i (some v)))))))) sz c n) : xG K pc vs (.ref v :: .int (nI i) :: .ref a :: st) M sz c n :=
  xg_aast h hc hd ht hM hv (vp_in_nI hi hn) (by rw [nI_clamp (Nat.lt_trans hi hn)]; exact k)
end XN
section XP
variable {Y : xM} {rm : Room} {K : xK} {pc : Nat} {vs : List (Option Value)} {st : List Value} {M : xH} {sz c n : Nat} {a0 a1 a2 a3 a4 a5 a6 a7 a8 a9 a10 a11 a12 a13 a14 a15 z : Option Value}
theorem xp_iload_0 (h : xX Y rm K) {x : Int32} (hd : decode Y.2.1 pc = .ok (.iload_n 0, 1)) (k : xG K (pc + 1) (some (.int x) :: vs) (.int x :: st) M sz c n) : xG K pc (some (.int x) :: vs) st M sz c n := xg_iload_n h hd rfl k
theorem xp_aload_0 (h : xX Y rm K) {x : Nat} (hd : decode Y.2.1 pc = .ok (.aload_n 0, 1)) (k : xG K (pc + 1) (some (.ref x) :: vs) (.ref x :: st) M sz c n) : xG K pc (some (.ref x) :: vs) st M sz c n := xg_aload_n h hd rfl k
theorem xp_aloadN_0 (h : xX Y rm K) (hd : decode Y.2.1 pc = .ok (.aload_n 0, 1)) (k : xG K (pc + 1) (some .null :: vs) (.null :: st) M sz c n) : xG K pc (some .null :: vs) st M sz c n := xg_aloadN_n h hd rfl k
theorem xp_istore_0 (h : xX Y rm K) {x : Int32} (hd : decode Y.2.1 pc = .ok (.istore_n 0, 1)) (hi : 0 < Y.2.2.1) (k : xG K (pc + 1) (some (.int x) :: vs) st M sz c n) : xG K pc (z :: vs) (.int x :: st) M sz c n := xg_istore_n h hd hi rfl k
theorem xp_astore_0 (h : xX Y rm K) {x : Nat} (hd : decode Y.2.1 pc = .ok (.astore_n 0, 1)) (hi : 0 < Y.2.2.1) (k : xG K (pc + 1) (some (.ref x) :: vs) st M sz c n) : xG K pc (z :: vs) (.ref x :: st) M sz c n := xg_astore_n h hd hi rfl k
theorem xp_astoreN_0 (h : xX Y rm K) (hd : decode Y.2.1 pc = .ok (.astore_n 0, 1)) (hi : 0 < Y.2.2.1) (k : xG K (pc + 1) (some .null :: vs) st M sz c n) : xG K pc (z :: vs) (.null :: st) M sz c n := xg_astoreN_n h hd hi rfl k
theorem xp_inc_0 (h : xX Y rm K) {a : Nat} (hd : decode Y.2.1 pc = .ok (.iinc 0 1, 3)) (hi : 0 < Y.2.2.1) (k : xG K (pc + 3) (some (.int (nI (a + 1))) :: vs) st M sz c n) : xG K pc (some (.int (nI a)) :: vs) st M sz c n := xg_iinc (v := 1) h hd hi rfl rfl (by rw [nI_1]; rfl) k
theorem xp_iload_1 (h : xX Y rm K) {x : Int32} (hd : decode Y.2.1 pc = .ok (.iload_n 1, 1)) (k : xG K (pc + 1) (a0 :: some (.int x) :: vs) (.int x :: st) M sz c n) : xG K pc (a0 :: some (.int x) :: vs) st M sz c n := xg_iload_n h hd rfl k
theorem xp_aload_1 (h : xX Y rm K) {x : Nat} (hd : decode Y.2.1 pc = .ok (.aload_n 1, 1)) (k : xG K (pc + 1) (a0 :: some (.ref x) :: vs) (.ref x :: st) M sz c n) : xG K pc (a0 :: some (.ref x) :: vs) st M sz c n := xg_aload_n h hd rfl k
theorem xp_aloadN_1 (h : xX Y rm K) (hd : decode Y.2.1 pc = .ok (.aload_n 1, 1)) (k : xG K (pc + 1) (a0 :: some .null :: vs) (.null :: st) M sz c n) : xG K pc (a0 :: some .null :: vs) st M sz c n := xg_aloadN_n h hd rfl k
theorem xp_istore_1 (h : xX Y rm K) {x : Int32} (hd : decode Y.2.1 pc = .ok (.istore_n 1, 1)) (hi : 1 < Y.2.2.1) (k : xG K (pc + 1) (a0 :: some (.int x) :: vs) st M sz c n) : xG K pc (a0 :: z :: vs) (.int x :: st) M sz c n := xg_istore_n h hd hi rfl k
theorem xp_astore_1 (h : xX Y rm K) {x : Nat} (hd : decode Y.2.1 pc = .ok (.astore_n 1, 1)) (hi : 1 < Y.2.2.1) (k : xG K (pc + 1) (a0 :: some (.ref x) :: vs) st M sz c n) : xG K pc (a0 :: z :: vs) (.ref x :: st) M sz c n := xg_astore_n h hd hi rfl k
theorem xp_astoreN_1 (h : xX Y rm K) (hd : decode Y.2.1 pc = .ok (.astore_n 1, 1)) (hi : 1 < Y.2.2.1) (k : xG K (pc + 1) (a0 :: some .null :: vs) st M sz c n) : xG K pc (a0 :: z :: vs) (.null :: st) M sz c n := xg_astoreN_n h hd hi rfl k
theorem xp_inc_1 (h : xX Y rm K) {a : Nat} (hd : decode Y.2.1 pc = .ok (.iinc 1 1, 3)) (hi : 1 < Y.2.2.1) (k : xG K (pc + 3) (a0 :: some (.int (nI (a + 1))) :: vs) st M sz c n) : xG K pc (a0 :: some (.int (nI a)) :: vs) st M sz c n := xg_iinc (v := 1) h hd hi rfl rfl (by rw [nI_1]; rfl) k
theorem xp_iload_2 (h : xX Y rm K) {x : Int32} (hd : decode Y.2.1 pc = .ok (.iload_n 2, 1)) (k : xG K (pc + 1) (a0 :: a1 :: some (.int x) :: vs) (.int x :: st) M sz c n) : xG K pc (a0 :: a1 :: some (.int x) :: vs) st M sz c n := xg_iload_n h hd rfl k
theorem xp_aload_2 (h : xX Y rm K) {x : Nat} (hd : decode Y.2.1 pc = .ok (.aload_n 2, 1)) (k : xG K (pc + 1) (a0 :: a1 :: some (.ref x) :: vs) (.ref x :: st) M sz c n) : xG K pc (a0 :: a1 :: some (.ref x) :: vs) st M sz c n := xg_aload_n h hd rfl k
theorem xp_aloadN_2 (h : xX Y rm K) (hd : decode Y.2.1 pc = .ok (.aload_n 2, 1)) (k : xG K (pc + 1) (a0 :: a1 :: some .null :: vs) (.null :: st) M sz c n) : xG K pc (a0 :: a1 :: some .null :: vs) st M sz c n := xg_aloadN_n h hd rfl k
theorem xp_istore_2 (h : xX Y rm K) {x : Int32} (hd : decode Y.2.1 pc = .ok (.istore_n 2, 1)) (hi : 2 < Y.2.2.1) (k : xG K (pc + 1) (a0 :: a1 :: some (.int x) :: vs) st M sz c n) : xG K pc (a0 :: a1 :: z :: vs) (.int x :: st) M sz c n := xg_istore_n h hd hi rfl k
theorem xp_astore_2 (h : xX Y rm K) {x : Nat} (hd : decode Y.2.1 pc = .ok (.astore_n 2, 1)) (hi : 2 < Y.2.2.1) (k : xG K (pc + 1) (a0 :: a1 :: some (.ref x) :: vs) st M sz c n) : xG K pc (a0 :: a1 :: z :: vs) (.ref x :: st) M sz c n := xg_astore_n h hd hi rfl k
theorem xp_astoreN_2 (h : xX Y rm K) (hd : decode Y.2.1 pc = .ok (.astore_n 2, 1)) (hi : 2 < Y.2.2.1) (k : xG K (pc + 1) (a0 :: a1 :: some .null :: vs) st M sz c n) : xG K pc (a0 :: a1 :: z :: vs) (.null :: st) M sz c n := xg_astoreN_n h hd hi rfl k
theorem xp_inc_2 (h : xX Y rm K) {a : Nat} (hd : decode Y.2.1 pc = .ok (.iinc 2 1, 3)) (hi : 2 < Y.2.2.1) (k : xG K (pc + 3) (a0 :: a1 :: some (.int (nI (a + 1))) :: vs) st M sz c n) : xG K pc (a0 :: a1 :: some (.int (nI a)) :: vs) st M sz c n := xg_iinc (v := 1) h hd hi rfl rfl (by rw [nI_1]; rfl) k
theorem xp_iload_3 (h : xX Y rm K) {x : Int32} (hd : decode Y.2.1 pc = .ok (.iload_n 3, 1)) (k : xG K (pc + 1) (a0 :: a1 :: a2 :: some (.int x) :: vs) (.int x :: st) M sz c n) : xG K pc (a0 :: a1 :: a2 :: some (.int x) :: vs) st M sz c n := xg_iload_n h hd rfl k
theorem xp_aload_3 (h : xX Y rm K) {x : Nat} (hd : decode Y.2.1 pc = .ok (.aload_n 3, 1)) (k : xG K (pc + 1) (a0 :: a1 :: a2 :: some (.ref x) :: vs) (.ref x :: st) M sz c n) : xG K pc (a0 :: a1 :: a2 :: some (.ref x) :: vs) st M sz c n := xg_aload_n h hd rfl k
theorem xp_aloadN_3 (h : xX Y rm K) (hd : decode Y.2.1 pc = .ok (.aload_n 3, 1)) (k : xG K (pc + 1) (a0 :: a1 :: a2 :: some .null :: vs) (.null :: st) M sz c n) : xG K pc (a0 :: a1 :: a2 :: some .null :: vs) st M sz c n := xg_aloadN_n h hd rfl k
theorem xp_istore_3 (h : xX Y rm K) {x : Int32} (hd : decode Y.2.1 pc = .ok (.istore_n 3, 1)) (hi : 3 < Y.2.2.1) (k : xG K (pc + 1) (a0 :: a1 :: a2 :: some (.int x) :: vs) st M sz c n) : xG K pc (a0 :: a1 :: a2 :: z :: vs) (.int x :: st) M sz c n := xg_istore_n h hd hi rfl k
theorem xp_astore_3 (h : xX Y rm K) {x : Nat} (hd : decode Y.2.1 pc = .ok (.astore_n 3, 1)) (hi : 3 < Y.2.2.1) (k : xG K (pc + 1) (a0 :: a1 :: a2 :: some (.ref x) :: vs) st M sz c n) : xG K pc (a0 :: a1 :: a2 :: z :: vs) (.ref x :: st) M sz c n := xg_astore_n h hd hi rfl k
theorem xp_astoreN_3 (h : xX Y rm K) (hd : decode Y.2.1 pc = .ok (.astore_n 3, 1)) (hi : 3 < Y.2.2.1) (k : xG K (pc + 1) (a0 :: a1 :: a2 :: some .null :: vs) st M sz c n) : xG K pc (a0 :: a1 :: a2 :: z :: vs) (.null :: st) M sz c n := xg_astoreN_n h hd hi rfl k
theorem xp_inc_3 (h : xX Y rm K) {a : Nat} (hd : decode Y.2.1 pc = .ok (.iinc 3 1, 3)) (hi : 3 < Y.2.2.1) (k : xG K (pc + 3) (a0 :: a1 :: a2 :: some (.int (nI (a + 1))) :: vs) st M sz c n) : xG K pc (a0 :: a1 :: a2 :: some (.int (nI a)) :: vs) st M sz c n := xg_iinc (v := 1) h hd hi rfl rfl (by rw [nI_1]; rfl) k
theorem xp_iload_4 (h : xX Y rm K) {x : Int32} (hd : decode Y.2.1 pc = .ok (.iload 4, 2)) (k : xG K (pc + 2) (a0 :: a1 :: a2 :: a3 :: some (.int x) :: vs) (.int x :: st) M sz c n) : xG K pc (a0 :: a1 :: a2 :: a3 :: some (.int x) :: vs) st M sz c n := xg_iload_w h hd rfl k
theorem xp_aload_4 (h : xX Y rm K) {x : Nat} (hd : decode Y.2.1 pc = .ok (.aload 4, 2)) (k : xG K (pc + 2) (a0 :: a1 :: a2 :: a3 :: some (.ref x) :: vs) (.ref x :: st) M sz c n) : xG K pc (a0 :: a1 :: a2 :: a3 :: some (.ref x) :: vs) st M sz c n := xg_aload_w h hd rfl k
theorem xp_aloadN_4 (h : xX Y rm K) (hd : decode Y.2.1 pc = .ok (.aload 4, 2)) (k : xG K (pc + 2) (a0 :: a1 :: a2 :: a3 :: some .null :: vs) (.null :: st) M sz c n) : xG K pc (a0 :: a1 :: a2 :: a3 :: some .null :: vs) st M sz c n := xg_aloadN_w h hd rfl k
theorem xp_istore_4 (h : xX Y rm K) {x : Int32} (hd : decode Y.2.1 pc = .ok (.istore 4, 2)) (hi : 4 < Y.2.2.1) (k : xG K (pc + 2) (a0 :: a1 :: a2 :: a3 :: some (.int x) :: vs) st M sz c n) : xG K pc (a0 :: a1 :: a2 :: a3 :: z :: vs) (.int x :: st) M sz c n := xg_istore_w h hd hi rfl k
theorem xp_astore_4 (h : xX Y rm K) {x : Nat} (hd : decode Y.2.1 pc = .ok (.astore 4, 2)) (hi : 4 < Y.2.2.1) (k : xG K (pc + 2) (a0 :: a1 :: a2 :: a3 :: some (.ref x) :: vs) st M sz c n) : xG K pc (a0 :: a1 :: a2 :: a3 :: z :: vs) (.ref x :: st) M sz c n := xg_astore_w h hd hi rfl k
theorem xp_astoreN_4 (h : xX Y rm K) (hd : decode Y.2.1 pc = .ok (.astore 4, 2)) (hi : 4 < Y.2.2.1) (k : xG K (pc + 2) (a0 :: a1 :: a2 :: a3 :: some .null :: vs) st M sz c n) : xG K pc (a0 :: a1 :: a2 :: a3 :: z :: vs) (.null :: st) M sz c n := xg_astoreN_w h hd hi rfl k
theorem xp_inc_4 (h : xX Y rm K) {a : Nat} (hd : decode Y.2.1 pc = .ok (.iinc 4 1, 3)) (hi : 4 < Y.2.2.1) (k : xG K (pc + 3) (a0 :: a1 :: a2 :: a3 :: some (.int (nI (a + 1))) :: vs) st M sz c n) : xG K pc (a0 :: a1 :: a2 :: a3 :: some (.int (nI a)) :: vs) st M sz c n := xg_iinc (v := 1) h hd hi rfl rfl (by rw [nI_1]; rfl) k
theorem xp_iload_5 (h : xX Y rm K) {x : Int32} (hd : decode Y.2.1 pc = .ok (.iload 5, 2)) (k : xG K (pc + 2) (a0 :: a1 :: a2 :: a3 :: a4 :: some (.int x) :: vs) (.int x :: st) M sz c n) : xG K pc (a0 :: a1 :: a2 :: a3 :: a4 :: some (.int x) :: vs) st M sz c n := xg_iload_w h hd rfl k
theorem xp_aload_5 (h : xX Y rm K) {x : Nat} (hd : decode Y.2.1 pc = .ok (.aload 5, 2)) (k : xG K (pc + 2) (a0 :: a1 :: a2 :: a3 :: a4 :: some (.ref x) :: vs) (.ref x :: st) M sz c n) : xG K pc (a0 :: a1 :: a2 :: a3 :: a4 :: some (.ref x) :: vs) st M sz c n := xg_aload_w h hd rfl k
theorem xp_aloadN_5 (h : xX Y rm K) (hd : decode Y.2.1 pc = .ok (.aload 5, 2)) (k : xG K (pc + 2) (a0 :: a1 :: a2 :: a3 :: a4 :: some .null :: vs) (.null :: st) M sz c n) : xG K pc (a0 :: a1 :: a2 :: a3 :: a4 :: some .null :: vs) st M sz c n := xg_aloadN_w h hd rfl k
theorem xp_istore_5 (h : xX Y rm K) {x : Int32} (hd : decode Y.2.1 pc = .ok (.istore 5, 2)) (hi : 5 < Y.2.2.1) (k : xG K (pc + 2) (a0 :: a1 :: a2 :: a3 :: a4 :: some (.int x) :: vs) st M sz c n) : xG K pc (a0 :: a1 :: a2 :: a3 :: a4 :: z :: vs) (.int x :: st) M sz c n := xg_istore_w h hd hi rfl k
theorem xp_astore_5 (h : xX Y rm K) {x : Nat} (hd : decode Y.2.1 pc = .ok (.astore 5, 2)) (hi : 5 < Y.2.2.1) (k : xG K (pc + 2) (a0 :: a1 :: a2 :: a3 :: a4 :: some (.ref x) :: vs) st M sz c n) : xG K pc (a0 :: a1 :: a2 :: a3 :: a4 :: z :: vs) (.ref x :: st) M sz c n := xg_astore_w h hd hi rfl k
theorem xp_astoreN_5 (h : xX Y rm K) (hd : decode Y.2.1 pc = .ok (.astore 5, 2)) (hi : 5 < Y.2.2.1) (k : xG K (pc + 2) (a0 :: a1 :: a2 :: a3 :: a4 :: some .null :: vs) st M sz c n) : xG K pc (a0 :: a1 :: a2 :: a3 :: a4 :: z :: vs) (.null :: st) M sz c n := xg_astoreN_w h hd hi rfl k
theorem xp_inc_5 (h : xX Y rm K) {a : Nat} (hd : decode Y.2.1 pc = .ok (.iinc 5 1, 3)) (hi : 5 < Y.2.2.1) (k : xG K (pc + 3) (a0 :: a1 :: a2 :: a3 :: a4 :: some (.int (nI (a + 1))) :: vs) st M sz c n) : xG K pc (a0 :: a1 :: a2 :: a3 :: a4 :: some (.int (nI a)) :: vs) st M sz c n := xg_iinc (v := 1) h hd hi rfl rfl (by rw [nI_1]; rfl) k
theorem xp_iload_6 (h : xX Y rm K) {x : Int32} (hd : decode Y.2.1 pc = .ok (.iload 6, 2)) (k : xG K (pc + 2) (a0 :: a1 :: a2 :: a3 :: a4 :: a5 :: some (.int x) :: vs) (.int x :: st) M sz c n) : xG K pc (a0 :: a1 :: a2 :: a3 :: a4 :: a5 :: some (.int x) :: vs) st M sz c n := xg_iload_w h hd rfl k
theorem xp_aload_6 (h : xX Y rm K) {x : Nat} (hd : decode Y.2.1 pc = .ok (.aload 6, 2)) (k : xG K (pc + 2) (a0 :: a1 :: a2 :: a3 :: a4 :: a5 :: some (.ref x) :: vs) (.ref x :: st) M sz c n) : xG K pc (a0 :: a1 :: a2 :: a3 :: a4 :: a5 :: some (.ref x) :: vs) st M sz c n := xg_aload_w h hd rfl k
theorem xp_aloadN_6 (h : xX Y rm K) (hd : decode Y.2.1 pc = .ok (.aload 6, 2)) (k : xG K (pc + 2) (a0 :: a1 :: a2 :: a3 :: a4 :: a5 :: some .null :: vs) (.null :: st) M sz c n) : xG K pc (a0 :: a1 :: a2 :: a3 :: a4 :: a5 :: some .null :: vs) st M sz c n := xg_aloadN_w h hd rfl k
theorem xp_istore_6 (h : xX Y rm K) {x : Int32} (hd : decode Y.2.1 pc = .ok (.istore 6, 2)) (hi : 6 < Y.2.2.1) (k : xG K (pc + 2) (a0 :: a1 :: a2 :: a3 :: a4 :: a5 :: some (.int x) :: vs) st M sz c n) : xG K pc (a0 :: a1 :: a2 :: a3 :: a4 :: a5 :: z :: vs) (.int x :: st) M sz c n := xg_istore_w h hd hi rfl k
theorem xp_astore_6 (h : xX Y rm K) {x : Nat} (hd : decode Y.2.1 pc = .ok (.astore 6, 2)) (hi : 6 < Y.2.2.1) (k : xG K (pc + 2) (a0 :: a1 :: a2 :: a3 :: a4 :: a5 :: some (.ref x) :: vs) st M sz c n) : xG K pc (a0 :: a1 :: a2 :: a3 :: a4 :: a5 :: z :: vs) (.ref x :: st) M sz c n := xg_astore_w h hd hi rfl k
theorem xp_astoreN_6 (h : xX Y rm K) (hd : decode Y.2.1 pc = .ok (.astore 6, 2)) (hi : 6 < Y.2.2.1) (k : xG K (pc + 2) (a0 :: a1 :: a2 :: a3 :: a4 :: a5 :: some .null :: vs) st M sz c n) : xG K pc (a0 :: a1 :: a2 :: a3 :: a4 :: a5 :: z :: vs) (.null :: st) M sz c n := xg_astoreN_w h hd hi rfl k
theorem xp_inc_6 (h : xX Y rm K) {a : Nat} (hd : decode Y.2.1 pc = .ok (.iinc 6 1, 3)) (hi : 6 < Y.2.2.1) (k : xG K (pc + 3) (a0 :: a1 :: a2 :: a3 :: a4 :: a5 :: some (.int (nI (a + 1))) :: vs) st M sz c n) : xG K pc (a0 :: a1 :: a2 :: a3 :: a4 :: a5 :: some (.int (nI a)) :: vs) st M sz c n := xg_iinc (v := 1) h hd hi rfl rfl (by rw [nI_1]; rfl) k
theorem xp_iload_7 (h : xX Y rm K) {x : Int32} (hd : decode Y.2.1 pc = .ok (.iload 7, 2)) (k : xG K (pc + 2) (a0 :: a1 :: a2 :: a3 :: a4 :: a5 :: a6 :: some (.int x) :: vs) (.int x :: st) M sz c n) : xG K pc (a0 :: a1 :: a2 :: a3 :: a4 :: a5 :: a6 :: some (.int x) :: vs) st M sz c n := xg_iload_w h hd rfl k
theorem xp_aload_7 (h : xX Y rm K) {x : Nat} (hd : decode Y.2.1 pc = .ok (.aload 7, 2)) (k : xG K (pc + 2) (a0 :: a1 :: a2 :: a3 :: a4 :: a5 :: a6 :: some (.ref x) :: vs) (.ref x :: st) M sz c n) : xG K pc (a0 :: a1 :: a2 :: a3 :: a4 :: a5 :: a6 :: some (.ref x) :: vs) st M sz c n := xg_aload_w h hd rfl k
theorem xp_aloadN_7 (h : xX Y rm K) (hd : decode Y.2.1 pc = .ok (.aload 7, 2)) (k : xG K (pc + 2) (a0 :: a1 :: a2 :: a3 :: a4 :: a5 :: a6 :: some .null :: vs) (.null :: st) M sz c n) : xG K pc (a0 :: a1 :: a2 :: a3 :: a4 :: a5 :: a6 :: some .null :: vs) st M sz c n := xg_aloadN_w h hd rfl k
theorem xp_istore_7 (h : xX Y rm K) {x : Int32} (hd : decode Y.2.1 pc = .ok (.istore 7, 2)) (hi : 7 < Y.2.2.1) (k : xG K (pc + 2) (a0 :: a1 :: a2 :: a3 :: a4 :: a5 :: a6 :: some (.int x) :: vs) st M sz c n) : xG K pc (a0 :: a1 :: a2 :: a3 :: a4 :: a5 :: a6 :: z :: vs) (.int x :: st) M sz c n := xg_istore_w h hd hi rfl k
theorem xp_astore_7 (h : xX Y rm K) {x : Nat} (hd : decode Y.2.1 pc = .ok (.astore 7, 2)) (hi : 7 < Y.2.2.1) (k : xG K (pc + 2) (a0 :: a1 :: a2 :: a3 :: a4 :: a5 :: a6 :: some (.ref x) :: vs) st M sz c n) : xG K pc (a0 :: a1 :: a2 :: a3 :: a4 :: a5 :: a6 :: z :: vs) (.ref x :: st) M sz c n := xg_astore_w h hd hi rfl k
theorem xp_astoreN_7 (h : xX Y rm K) (hd : decode Y.2.1 pc = .ok (.astore 7, 2)) (hi : 7 < Y.2.2.1) (k : xG K (pc + 2) (a0 :: a1 :: a2 :: a3 :: a4 :: a5 :: a6 :: some .null :: vs) st M sz c n) : xG K pc (a0 :: a1 :: a2 :: a3 :: a4 :: a5 :: a6 :: z :: vs) (.null :: st) M sz c n := xg_astoreN_w h hd hi rfl k
theorem xp_inc_7 (h : xX Y rm K) {a : Nat} (hd : decode Y.2.1 pc = .ok (.iinc 7 1, 3)) (hi : 7 < Y.2.2.1) (k : xG K (pc + 3) (a0 :: a1 :: a2 :: a3 :: a4 :: a5 :: a6 :: some (.int (nI (a + 1))) :: vs) st M sz c n) : xG K pc (a0 :: a1 :: a2 :: a3 :: a4 :: a5 :: a6 :: some (.int (nI a)) :: vs) st M sz c n := xg_iinc (v := 1) h hd hi rfl rfl (by rw [nI_1]; rfl) k
theorem xp_iload_8 (h : xX Y rm K) {x : Int32} (hd : decode Y.2.1 pc = .ok (.iload 8, 2)) (k : xG K (pc + 2) (a0 :: a1 :: a2 :: a3 :: a4 :: a5 :: a6 :: a7 :: some (.int x) :: vs) (.int x :: st) M sz c n) : xG K pc (a0 :: a1 :: a2 :: a3 :: a4 :: a5 :: a6 :: a7 :: some (.int x) :: vs) st M sz c n := xg_iload_w h hd rfl k
theorem xp_aload_8 (h : xX Y rm K) {x : Nat} (hd : decode Y.2.1 pc = .ok (.aload 8, 2)) (k : xG K (pc + 2) (a0 :: a1 :: a2 :: a3 :: a4 :: a5 :: a6 :: a7 :: some (.ref x) :: vs) (.ref x :: st) M sz c n) : xG K pc (a0 :: a1 :: a2 :: a3 :: a4 :: a5 :: a6 :: a7 :: some (.ref x) :: vs) st M sz c n := xg_aload_w h hd rfl k
theorem xp_aloadN_8 (h : xX Y rm K) (hd : decode Y.2.1 pc = .ok (.aload 8, 2)) (k : xG K (pc + 2) (a0 :: a1 :: a2 :: a3 :: a4 :: a5 :: a6 :: a7 :: some .null :: vs) (.null :: st) M sz c n) : xG K pc (a0 :: a1 :: a2 :: a3 :: a4 :: a5 :: a6 :: a7 :: some .null :: vs) st M sz c n := xg_aloadN_w h hd rfl k
theorem xp_istore_8 (h : xX Y rm K) {x : Int32} (hd : decode Y.2.1 pc = .ok (.istore 8, 2)) (hi : 8 < Y.2.2.1) (k : xG K (pc + 2) (a0 :: a1 :: a2 :: a3 :: a4 :: a5 :: a6 :: a7 :: some (.int x) :: vs) st M sz c n) : xG K pc (a0 :: a1 :: a2 :: a3 :: a4 :: a5 :: a6 :: a7 :: z :: vs) (.int x :: st) M sz c n := xg_istore_w h hd hi rfl k
theorem xp_astore_8 (h : xX Y rm K) {x : Nat} (hd : decode Y.2.1 pc = .ok (.astore 8, 2)) (hi : 8 < Y.2.2.1) (k : xG K (pc + 2) (a0 :: a1 :: a2 :: a3 :: a4 :: a5 :: a6 :: a7 :: some (.ref x) :: vs) st M sz c n) : xG K pc (a0 :: a1 :: a2 :: a3 :: a4 :: a5 :: a6 :: a7 :: z :: vs) (.ref x :: st) M sz c n := xg_astore_w h hd hi rfl k
theorem xp_astoreN_8 (h : xX Y rm K) (hd : decode Y.2.1 pc = .ok (.astore 8, 2)) (hi : 8 < Y.2.2.1) (k : xG K (pc + 2) (a0 :: a1 :: a2 :: a3 :: a4 :: a5 :: a6 :: a7 :: some .null :: vs) st M sz c n) : xG K pc (a0 :: a1 :: a2 :: a3 :: a4 :: a5 :: a6 :: a7 :: z :: vs) (.null :: st) M sz c n := xg_astoreN_w h hd hi rfl k
theorem xp_inc_8 (h : xX Y rm K) {a : Nat} (hd : decode Y.2.1 pc = .ok (.iinc 8 1, 3)) (hi : 8 < Y.2.2.1) (k : xG K (pc + 3) (a0 :: a1 :: a2 :: a3 :: a4 :: a5 :: a6 :: a7 :: some (.int (nI (a + 1))) :: vs) st M sz c n) : xG K pc (a0 :: a1 :: a2 :: a3 :: a4 :: a5 :: a6 :: a7 :: some (.int (nI a)) :: vs) st M sz c n := xg_iinc (v := 1) h hd hi rfl rfl (by rw [nI_1]; rfl) k
theorem xp_iload_9 (h : xX Y rm K) {x : Int32} (hd : decode Y.2.1 pc = .ok (.iload 9, 2)) (k : xG K (pc + 2) (a0 :: a1 :: a2 :: a3 :: a4 :: a5 :: a6 :: a7 :: a8 :: some (.int x) :: vs) (.int x :: st) M sz c n) : xG K pc (a0 :: a1 :: a2 :: a3 :: a4 :: a5 :: a6 :: a7 :: a8 :: some (.int x) :: vs) st M sz c n := xg_iload_w h hd rfl k
theorem xp_aload_9 (h : xX Y rm K) {x : Nat} (hd : decode Y.2.1 pc = .ok (.aload 9, 2)) (k : xG K (pc + 2) (a0 :: a1 :: a2 :: a3 :: a4 :: a5 :: a6 :: a7 :: a8 :: some (.ref x) :: vs) (.ref x :: st) M sz c n) : xG K pc (a0 :: a1 :: a2 :: a3 :: a4 :: a5 :: a6 :: a7 :: a8 :: some (.ref x) :: vs) st M sz c n := xg_aload_w h hd rfl k
theorem xp_aloadN_9 (h : xX Y rm K) (hd : decode Y.2.1 pc = .ok (.aload 9, 2)) (k : xG K (pc + 2) (a0 :: a1 :: a2 :: a3 :: a4 :: a5 :: a6 :: a7 :: a8 :: some .null :: vs) (.null :: st) M sz c n) : xG K pc (a0 :: a1 :: a2 :: a3 :: a4 :: a5 :: a6 :: a7 :: a8 :: some .null :: vs) st M sz c n := xg_aloadN_w h hd rfl k
theorem xp_istore_9 (h : xX Y rm K) {x : Int32} (hd : decode Y.2.1 pc = .ok (.istore 9, 2)) (hi : 9 < Y.2.2.1) (k : xG K (pc + 2) (a0 :: a1 :: a2 :: a3 :: a4 :: a5 :: a6 :: a7 :: a8 :: some (.int x) :: vs) st M sz c n) : xG K pc (a0 :: a1 :: a2 :: a3 :: a4 :: a5 :: a6 :: a7 :: a8 :: z :: vs) (.int x :: st) M sz c n := xg_istore_w h hd hi rfl k
theorem xp_astore_9 (h : xX Y rm K) {x : Nat} (hd : decode Y.2.1 pc = .ok (.astore 9, 2)) (hi : 9 < Y.2.2.1) (k : xG K (pc + 2) (a0 :: a1 :: a2 :: a3 :: a4 :: a5 :: a6 :: a7 :: a8 :: some (.ref x) :: vs) st M sz c n) : xG K pc (a0 :: a1 :: a2 :: a3 :: a4 :: a5 :: a6 :: a7 :: a8 :: z :: vs) (.ref x :: st) M sz c n := xg_astore_w h hd hi rfl k
theorem xp_astoreN_9 (h : xX Y rm K) (hd : decode Y.2.1 pc = .ok (.astore 9, 2)) (hi : 9 < Y.2.2.1) (k : xG K (pc + 2) (a0 :: a1 :: a2 :: a3 :: a4 :: a5 :: a6 :: a7 :: a8 :: some .null :: vs) st M sz c n) : xG K pc (a0 :: a1 :: a2 :: a3 :: a4 :: a5 :: a6 :: a7 :: a8 :: z :: vs) (.null :: st) M sz c n := xg_astoreN_w h hd hi rfl k
theorem xp_inc_9 (h : xX Y rm K) {a : Nat} (hd : decode Y.2.1 pc = .ok (.iinc 9 1, 3)) (hi : 9 < Y.2.2.1) (k : xG K (pc + 3) (a0 :: a1 :: a2 :: a3 :: a4 :: a5 :: a6 :: a7 :: a8 :: some (.int (nI (a + 1))) :: vs) st M sz c n) : xG K pc (a0 :: a1 :: a2 :: a3 :: a4 :: a5 :: a6 :: a7 :: a8 :: some (.int (nI a)) :: vs) st M sz c n := xg_iinc (v := 1) h hd hi rfl rfl (by rw [nI_1]; rfl) k
theorem xp_iload_10 (h : xX Y rm K) {x : Int32} (hd : decode Y.2.1 pc = .ok (.iload 10, 2)) (k : xG K (pc + 2) (a0 :: a1 :: a2 :: a3 :: a4 :: a5 :: a6 :: a7 :: a8 :: a9 :: some (.int x) :: vs) (.int x :: st) M sz c n) : xG K pc (a0 :: a1 :: a2 :: a3 :: a4 :: a5 :: a6 :: a7 :: a8 :: a9 :: some (.int x) :: vs) st M sz c n := xg_iload_w h hd rfl k
theorem xp_aload_10 (h : xX Y rm K) {x : Nat} (hd : decode Y.2.1 pc = .ok (.aload 10, 2)) (k : xG K (pc + 2) (a0 :: a1 :: a2 :: a3 :: a4 :: a5 :: a6 :: a7 :: a8 :: a9 :: some (.ref x) :: vs) (.ref x :: st) M sz c n) : xG K pc (a0 :: a1 :: a2 :: a3 :: a4 :: a5 :: a6 :: a7 :: a8 :: a9 :: some (.ref x) :: vs) st M sz c n := xg_aload_w h hd rfl k
theorem xp_aloadN_10 (h : xX Y rm K) (hd : decode Y.2.1 pc = .ok (.aload 10, 2)) (k : xG K (pc + 2) (a0 :: a1 :: a2 :: a3 :: a4 :: a5 :: a6 :: a7 :: a8 :: a9 :: some .null :: vs) (.null :: st) M sz c n) : xG K pc (a0 :: a1 :: a2 :: a3 :: a4 :: a5 :: a6 :: a7 :: a8 :: a9 :: some .null :: vs) st M sz c n := xg_aloadN_w h hd rfl k
theorem xp_istore_10 (h : xX Y rm K) {x : Int32} (hd : decode Y.2.1 pc = .ok (.istore 10, 2)) (hi : 10 < Y.2.2.1) (k : xG K (pc + 2) (a0 :: a1 :: a2 :: a3 :: a4 :: a5 :: a6 :: a7 :: a8 :: a9 :: some (.int x) :: vs) st M sz c n) : xG K pc (a0 :: a1 :: a2 :: a3 :: a4 :: a5 :: a6 :: a7 :: a8 :: a9 :: z :: vs) (.int x :: st) M sz c n := xg_istore_w h hd hi rfl k
theorem xp_astore_10 (h : xX Y rm K) {x : Nat} (hd : decode Y.2.1 pc = .ok (.astore 10, 2)) (hi : 10 < Y.2.2.1) (k : xG K (pc + 2) (a0 :: a1 :: a2 :: a3 :: a4 :: a5 :: a6 :: a7 :: a8 :: a9 :: some (.ref x) :: vs) st M sz c n) : xG K pc (a0 :: a1 :: a2 :: a3 :: a4 :: a5 :: a6 :: a7 :: a8 :: a9 :: z :: vs) (.ref x :: st) M sz c n := xg_astore_w h hd hi rfl k
theorem xp_astoreN_10 (h : xX Y rm K) (hd : decode Y.2.1 pc = .ok (.astore 10, 2)) (hi : 10 < Y.2.2.1) (k : xG K (pc + 2) (a0 :: a1 :: a2 :: a3 :: a4 :: a5 :: a6 :: a7 :: a8 :: a9 :: some .null :: vs) st M sz c n) : xG K pc (a0 :: a1 :: a2 :: a3 :: a4 :: a5 :: a6 :: a7 :: a8 :: a9 :: z :: vs) (.null :: st) M sz c n := xg_astoreN_w h hd hi rfl k
theorem xp_inc_10 (h : xX Y rm K) {a : Nat} (hd : decode Y.2.1 pc = .ok (.iinc 10 1, 3)) (hi : 10 < Y.2.2.1) (k : xG K (pc + 3) (a0 :: a1 :: a2 :: a3 :: a4 :: a5 :: a6 :: a7 :: a8 :: a9 :: some (.int (nI (a + 1))) :: vs) st M sz c n) : xG K pc (a0 :: a1 :: a2 :: a3 :: a4 :: a5 :: a6 :: a7 :: a8 :: a9 :: some (.int (nI a)) :: vs) st M sz c n := xg_iinc (v := 1) h hd hi rfl rfl (by rw [nI_1]; rfl) k
theorem xp_iload_11 (h : xX Y rm K) {x : Int32} (hd : decode Y.2.1 pc = .ok (.iload 11, 2)) (k : xG K (pc + 2) (a0 :: a1 :: a2 :: a3 :: a4 :: a5 :: a6 :: a7 :: a8 :: a9 :: a10 :: some (.int x) :: vs) (.int x :: st) M sz c n) : xG K pc (a0 :: a1 :: a2 :: a3 :: a4 :: a5 :: a6 :: a7 :: a8 :: a9 :: a10 :: some (.int x) :: vs) st M sz c n := xg_iload_w h hd rfl k
theorem xp_aload_11 (h : xX Y rm K) {x : Nat} (hd : decode Y.2.1 pc = .ok (.aload 11, 2)) (k : xG K (pc + 2) (a0 :: a1 :: a2 :: a3 :: a4 :: a5 :: a6 :: a7 :: a8 :: a9 :: a10 :: some (.ref x) :: vs) (.ref x :: st) M sz c n) : xG K pc (a0 :: a1 :: a2 :: a3 :: a4 :: a5 :: a6 :: a7 :: a8 :: a9 :: a10 :: some (.ref x) :: vs) st M sz c n := xg_aload_w h hd rfl k
theorem xp_aloadN_11 (h : xX Y rm K) (hd : decode Y.2.1 pc = .ok (.aload 11, 2)) (k : xG K (pc + 2) (a0 :: a1 :: a2 :: a3 :: a4 :: a5 :: a6 :: a7 :: a8 :: a9 :: a10 :: some .null :: vs) (.null :: st) M sz c n) : xG K pc (a0 :: a1 :: a2 :: a3 :: a4 :: a5 :: a6 :: a7 :: a8 :: a9 :: a10 :: some .null :: vs) st M sz c n := xg_aloadN_w h hd rfl k
theorem xp_istore_11 (h : xX Y rm K) {x : Int32} (hd : decode Y.2.1 pc = .ok (.istore 11, 2)) (hi : 11 < Y.2.2.1) (k : xG K (pc + 2) (a0 :: a1 :: a2 :: a3 :: a4 :: a5 :: a6 :: a7 :: a8 :: a9 :: a10 :: some (.int x) :: vs) st M sz c n) : xG K pc (a0 :: a1 :: a2 :: a3 :: a4 :: a5 :: a6 :: a7 :: a8 :: a9 :: a10 :: z :: vs) (.int x :: st) M sz c n := xg_istore_w h hd hi rfl k
theorem xp_astore_11 (h : xX Y rm K) {x : Nat} (hd : decode Y.2.1 pc = .ok (.astore 11, 2)) (hi : 11 < Y.2.2.1) (k : xG K (pc + 2) (a0 :: a1 :: a2 :: a3 :: a4 :: a5 :: a6 :: a7 :: a8 :: a9 :: a10 :: some (.ref x) :: vs) st M sz c n) : xG K pc (a0 :: a1 :: a2 :: a3 :: a4 :: a5 :: a6 :: a7 :: a8 :: a9 :: a10 :: z :: vs) (.ref x :: st) M sz c n := xg_astore_w h hd hi rfl k
theorem xp_astoreN_11 (h : xX Y rm K) (hd : decode Y.2.1 pc = .ok (.astore 11, 2)) (hi : 11 < Y.2.2.1) (k : xG K (pc + 2) (a0 :: a1 :: a2 :: a3 :: a4 :: a5 :: a6 :: a7 :: a8 :: a9 :: a10 :: some .null :: vs) st M sz c n) : xG K pc (a0 :: a1 :: a2 :: a3 :: a4 :: a5 :: a6 :: a7 :: a8 :: a9 :: a10 :: z :: vs) (.null :: st) M sz c n := xg_astoreN_w h hd hi rfl k
theorem xp_inc_11 (h : xX Y rm K) {a : Nat} (hd : decode Y.2.1 pc = .ok (.iinc 11 1, 3)) (hi : 11 < Y.2.2.1) (k : xG K (pc + 3) (a0 :: a1 :: a2 :: a3 :: a4 :: a5 :: a6 :: a7 :: a8 :: a9 :: a10 :: some (.int (nI (a + 1))) :: vs) st M sz c n) : xG K pc (a0 :: a1 :: a2 :: a3 :: a4 :: a5 :: a6 :: a7 :: a8 :: a9 :: a10 :: some (.int (nI a)) :: vs) st M sz c n := xg_iinc (v := 1) h hd hi rfl rfl (by rw [nI_1]; rfl) k
theorem xp_iload_12 (h : xX Y rm K) {x : Int32} (hd : decode Y.2.1 pc = .ok (.iload 12, 2)) (k : xG K (pc + 2) (a0 :: a1 :: a2 :: a3 :: a4 :: a5 :: a6 :: a7 :: a8 :: a9 :: a10 :: a11 :: some (.int x) :: vs) (.int x :: st) M sz c n) : xG K pc (a0 :: a1 :: a2 :: a3 :: a4 :: a5 :: a6 :: a7 :: a8 :: a9 :: a10 :: a11 :: some (.int x) :: vs) st M sz c n := xg_iload_w h hd rfl k
theorem xp_aload_12 (h : xX Y rm K) {x : Nat} (hd : decode Y.2.1 pc = .ok (.aload 12, 2)) (k : xG K (pc + 2) (a0 :: a1 :: a2 :: a3 :: a4 :: a5 :: a6 :: a7 :: a8 :: a9 :: a10 :: a11 :: some (.ref x) :: vs) (.ref x :: st) M sz c n) : xG K pc (a0 :: a1 :: a2 :: a3 :: a4 :: a5 :: a6 :: a7 :: a8 :: a9 :: a10 :: a11 :: some (.ref x) :: vs) st M sz c n := xg_aload_w h hd rfl k
theorem xp_aloadN_12 (h : xX Y rm K) (hd : decode Y.2.1 pc = .ok (.aload 12, 2)) (k : xG K (pc + 2) (a0 :: a1 :: a2 :: a3 :: a4 :: a5 :: a6 :: a7 :: a8 :: a9 :: a10 :: a11 :: some .null :: vs) (.null :: st) M sz c n) : xG K pc (a0 :: a1 :: a2 :: a3 :: a4 :: a5 :: a6 :: a7 :: a8 :: a9 :: a10 :: a11 :: some .null :: vs) st M sz c n := xg_aloadN_w h hd rfl k
theorem xp_istore_12 (h : xX Y rm K) {x : Int32} (hd : decode Y.2.1 pc = .ok (.istore 12, 2)) (hi : 12 < Y.2.2.1) (k : xG K (pc + 2) (a0 :: a1 :: a2 :: a3 :: a4 :: a5 :: a6 :: a7 :: a8 :: a9 :: a10 :: a11 :: some (.int x) :: vs) st M sz c n) : xG K pc (a0 :: a1 :: a2 :: a3 :: a4 :: a5 :: a6 :: a7 :: a8 :: a9 :: a10 :: a11 :: z :: vs) (.int x :: st) M sz c n := xg_istore_w h hd hi rfl k
theorem xp_astore_12 (h : xX Y rm K) {x : Nat} (hd : decode Y.2.1 pc = .ok (.astore 12, 2)) (hi : 12 < Y.2.2.1) (k : xG K (pc + 2) (a0 :: a1 :: a2 :: a3 :: a4 :: a5 :: a6 :: a7 :: a8 :: a9 :: a10 :: a11 :: some (.ref x) :: vs) st M sz c n) : xG K pc (a0 :: a1 :: a2 :: a3 :: a4 :: a5 :: a6 :: a7 :: a8 :: a9 :: a10 :: a11 :: z :: vs) (.ref x :: st) M sz c n := xg_astore_w h hd hi rfl k
theorem xp_astoreN_12 (h : xX Y rm K) (hd : decode Y.2.1 pc = .ok (.astore 12, 2)) (hi : 12 < Y.2.2.1) (k : xG K (pc + 2) (a0 :: a1 :: a2 :: a3 :: a4 :: a5 :: a6 :: a7 :: a8 :: a9 :: a10 :: a11 :: some .null :: vs) st M sz c n) : xG K pc (a0 :: a1 :: a2 :: a3 :: a4 :: a5 :: a6 :: a7 :: a8 :: a9 :: a10 :: a11 :: z :: vs) (.null :: st) M sz c n := xg_astoreN_w h hd hi rfl k
theorem xp_inc_12 (h : xX Y rm K) {a : Nat} (hd : decode Y.2.1 pc = .ok (.iinc 12 1, 3)) (hi : 12 < Y.2.2.1) (k : xG K (pc + 3) (a0 :: a1 :: a2 :: a3 :: a4 :: a5 :: a6 :: a7 :: a8 :: a9 :: a10 :: a11 :: some (.int (nI (a + 1))) :: vs) st M sz c n) : xG K pc (a0 :: a1 :: a2 :: a3 :: a4 :: a5 :: a6 :: a7 :: a8 :: a9 :: a10 :: a11 :: some (.int (nI a)) :: vs) st M sz c n := xg_iinc (v := 1) h hd hi rfl rfl (by rw [nI_1]; rfl) k
end XP
end
section
theorem lc_Law_7 : Cond.classLink "NameRoomLaw" 7 "NameRoom" ∈ lw_g := lw_in 12 rfl (by decide +kernel)
theorem l_Law_9 : Cond.methodLink "NameRoomLaw" 9 ⟨"NameRoom", "<init>", "()V"⟩ ∈ lw_g := lw_in 14 rfl (by decide +kernel)
theorem l_Nam_1 : Cond.methodLink "NameRoom" 1 ⟨"java/lang/Object", "<init>", "()V"⟩ ∈ lw_g := lw_in 17 rfl (by decide +kernel)
theorem lc_Nam_7 : Cond.classLink "NameRoom" 7 "NameRoom$Reader" ∈ lw_g := lw_in 20 rfl (by decide +kernel)
theorem l_Nam_9 : Cond.methodLink "NameRoom" 9 ⟨"NameRoom$Reader", "<init>", "()V"⟩ ∈ lw_g := lw_in 22 rfl (by decide +kernel)
theorem l_Rea_3 : Cond.methodLink "NameRoom$Reader" 3 ⟨"java/lang/Object", "<init>", "()V"⟩ ∈ lw_g := lw_in 25 rfl (by decide +kernel)
theorem lc_Rea_9 : Cond.classLink "NameRoom$Reader" 9 "NameRoom$Row" ∈ lw_g := lw_in 26 rfl (by decide +kernel)
theorem l_Rea_11 : Cond.methodLink "NameRoom$Reader" 11 ⟨"NameRoom$Row", "<init>", "(I)V"⟩ ∈ lw_g := lw_in 28 rfl (by decide +kernel)
theorem l_Row_3 : Cond.methodLink "NameRoom$Row" 3 ⟨"java/lang/Object", "<init>", "()V"⟩ ∈ lw_g := lw_in 31 rfl (by decide +kernel)
theorem l_Row_9 : Cond.methodLink "NameRoom$Row" 9 ⟨"java/lang/Math", "max", "(II)I"⟩ ∈ lw_g := lw_in 32 rfl (by decide +kernel)
theorem l_Row_15 : Cond.fieldLink "NameRoom$Row" 15 "NameRoom$Row" "bytes" "[B" ∈ lw_g := lw_in 35 rfl (by decide +kernel)
theorem l_Row_21 : Cond.fieldLink "NameRoom$Row" 21 "NameRoom$Row" "length" "I" ∈ lw_g := lw_in 36 rfl (by decide +kernel)
theorem l_Nam_64 : Cond.fieldLink "NameRoom" 64 "NameRoom$Row" "length" "I" ∈ lw_g := lw_in 37 rfl (by decide +kernel)
theorem l_Sig_28 : Cond.fieldLink "NameRoom$Sight" 28 "NameRoom$Row" "length" "I" ∈ lw_g := lw_in 38 rfl (by decide +kernel)
theorem l_Cut_42 : Cond.fieldLink "NameRoom$Cutter" 42 "NameRoom$Row" "length" "I" ∈ lw_g := lw_in 39 rfl (by decide +kernel)
theorem l_She_29 : Cond.fieldLink "NameRoom$Shelf" 29 "NameRoom$Row" "length" "I" ∈ lw_g := lw_in 40 rfl (by decide +kernel)
theorem l_Poo_66 : Cond.fieldLink "NameRoom$Pools" 66 "NameRoom$Row" "length" "I" ∈ lw_g := lw_in 41 rfl (by decide +kernel)
theorem l_Rea_68 : Cond.fieldLink "NameRoom$Reader" 68 "NameRoom$Row" "length" "I" ∈ lw_g := lw_in 42 rfl (by decide +kernel)
theorem l_Rea_14 : Cond.fieldLink "NameRoom$Reader" 14 "NameRoom$Reader" "text" "LNameRoom$Row;" ∈ lw_g := lw_in 49 rfl (by decide +kernel)
theorem l_Nam_16 : Cond.fieldLink "NameRoom" 16 "NameRoom$Reader" "text" "LNameRoom$Row;" ∈ lw_g := lw_in 50 rfl (by decide +kernel)
theorem l_Rea_20 : Cond.fieldLink "NameRoom$Reader" 20 "NameRoom$Reader" "kinds" "[I" ∈ lw_g := lw_in 51 rfl (by decide +kernel)
theorem l_Rea_24 : Cond.fieldLink "NameRoom$Reader" 24 "NameRoom$Reader" "starts" "[I" ∈ lw_g := lw_in 52 rfl (by decide +kernel)
theorem l_Rea_27 : Cond.fieldLink "NameRoom$Reader" 27 "NameRoom$Reader" "stops" "[I" ∈ lw_g := lw_in 53 rfl (by decide +kernel)
theorem l_Rea_30 : Cond.fieldLink "NameRoom$Reader" 30 "NameRoom$Reader" "size" "I" ∈ lw_g := lw_in 54 rfl (by decide +kernel)
theorem l_Nam_118 : Cond.fieldLink "NameRoom" 118 "NameRoom$Reader" "size" "I" ∈ lw_g := lw_in 55 rfl (by decide +kernel)
theorem l_Rea_34 : Cond.fieldLink "NameRoom$Reader" 34 "NameRoom$Reader" "targets" "I" ∈ lw_g := lw_in 56 rfl (by decide +kernel)
theorem l_Nam_157 : Cond.fieldLink "NameRoom" 157 "NameRoom$Reader" "targets" "I" ∈ lw_g := lw_in 57 rfl (by decide +kernel)
theorem l_Rea_37 : Cond.fieldLink "NameRoom$Reader" 37 "NameRoom$Reader" "at" "I" ∈ lw_g := lw_in 58 rfl (by decide +kernel)
theorem l_Nam_83 : Cond.fieldLink "NameRoom" 83 "NameRoom$Reader" "at" "I" ∈ lw_g := lw_in 59 rfl (by decide +kernel)
theorem l_Rea_40 : Cond.fieldLink "NameRoom$Reader" 40 "NameRoom$Reader" "answer" "I" ∈ lw_g := lw_in 60 rfl (by decide +kernel)
theorem lc_Nam_23 : Cond.classLink "NameRoom" 23 "NameRoom$Row" ∈ lw_g := lw_in 79 rfl (by decide +kernel)
theorem l_Nam_25 : Cond.methodLink "NameRoom" 25 ⟨"NameRoom$Row", "<init>", "(I)V"⟩ ∈ lw_g := lw_in 80 rfl (by decide +kernel)
theorem lc_Nam_43 : Cond.classLink "NameRoom" 43 "NameRoom$Shelf" ∈ lw_g := lw_in 81 rfl (by decide +kernel)
theorem l_Nam_45 : Cond.methodLink "NameRoom" 45 ⟨"NameRoom$Shelf", "<init>", "()V"⟩ ∈ lw_g := lw_in 83 rfl (by decide +kernel)
theorem l_She_3 : Cond.methodLink "NameRoom$Shelf" 3 ⟨"java/lang/Object", "<init>", "()V"⟩ ∈ lw_g := lw_in 86 rfl (by decide +kernel)
theorem lc_She_9 : Cond.classLink "NameRoom$Shelf" 9 "NameRoom$Entry" ∈ lw_g := lw_in 87 rfl (by decide +kernel)
theorem l_She_17 : Cond.methodLink "NameRoom$Shelf" 17 ⟨"NameRoom$Entry", "<init>", "()V"⟩ ∈ lw_g := lw_in 90 rfl (by decide +kernel)
theorem l_Ent_3 : Cond.methodLink "NameRoom$Entry" 3 ⟨"java/lang/Object", "<init>", "()V"⟩ ∈ lw_g := lw_in 93 rfl (by decide +kernel)
theorem lc_Ent_9 : Cond.classLink "NameRoom$Entry" 9 "NameRoom$Row" ∈ lw_g := lw_in 94 rfl (by decide +kernel)
theorem l_Ent_11 : Cond.methodLink "NameRoom$Entry" 11 ⟨"NameRoom$Row", "<init>", "(I)V"⟩ ∈ lw_g := lw_in 95 rfl (by decide +kernel)
theorem l_Ent_14 : Cond.fieldLink "NameRoom$Entry" 14 "NameRoom$Entry" "title" "LNameRoom$Row;" ∈ lw_g := lw_in 96 rfl (by decide +kernel)
theorem l_She_25 : Cond.fieldLink "NameRoom$Shelf" 25 "NameRoom$Entry" "title" "LNameRoom$Row;" ∈ lw_g := lw_in 97 rfl (by decide +kernel)
theorem l_Nam_110 : Cond.fieldLink "NameRoom" 110 "NameRoom$Entry" "title" "LNameRoom$Row;" ∈ lw_g := lw_in 98 rfl (by decide +kernel)
theorem l_Ent_20 : Cond.fieldLink "NameRoom$Entry" 20 "NameRoom$Entry" "held" "LNameRoom$Row;" ∈ lw_g := lw_in 99 rfl (by decide +kernel)
theorem l_She_46 : Cond.fieldLink "NameRoom$Shelf" 46 "NameRoom$Entry" "held" "LNameRoom$Row;" ∈ lw_g := lw_in 100 rfl (by decide +kernel)
theorem l_Nam_171 : Cond.fieldLink "NameRoom" 171 "NameRoom$Entry" "held" "LNameRoom$Row;" ∈ lw_g := lw_in 101 rfl (by decide +kernel)
theorem l_Ent_23 : Cond.fieldLink "NameRoom$Entry" 23 "NameRoom$Entry" "pool" "I" ∈ lw_g := lw_in 102 rfl (by decide +kernel)
theorem l_She_22 : Cond.fieldLink "NameRoom$Shelf" 22 "NameRoom$Entry" "pool" "I" ∈ lw_g := lw_in 103 rfl (by decide +kernel)
theorem l_Nam_164 : Cond.fieldLink "NameRoom" 164 "NameRoom$Entry" "pool" "I" ∈ lw_g := lw_in 104 rfl (by decide +kernel)
theorem l_Ent_27 : Cond.fieldLink "NameRoom$Entry" 27 "NameRoom$Entry" "gone" "Z" ∈ lw_g := lw_in 105 rfl (by decide +kernel)
theorem l_She_52 : Cond.fieldLink "NameRoom$Shelf" 52 "NameRoom$Entry" "gone" "Z" ∈ lw_g := lw_in 106 rfl (by decide +kernel)
theorem l_Nam_167 : Cond.fieldLink "NameRoom" 167 "NameRoom$Entry" "gone" "Z" ∈ lw_g := lw_in 107 rfl (by decide +kernel)
theorem l_Ent_31 : Cond.fieldLink "NameRoom$Entry" 31 "NameRoom$Entry" "leaves" "Z" ∈ lw_g := lw_in 108 rfl (by decide +kernel)
theorem l_She_56 : Cond.fieldLink "NameRoom$Shelf" 56 "NameRoom$Entry" "leaves" "Z" ∈ lw_g := lw_in 109 rfl (by decide +kernel)
theorem l_She_11 : Cond.fieldLink "NameRoom$Shelf" 11 "NameRoom$Shelf" "entries" "[LNameRoom$Entry;" ∈ lw_g := lw_in 121 rfl (by decide +kernel)
theorem l_She_18 : Cond.fieldLink "NameRoom$Shelf" 18 "NameRoom$Shelf" "size" "I" ∈ lw_g := lw_in 122 rfl (by decide +kernel)
theorem l_Nam_92 : Cond.fieldLink "NameRoom" 92 "NameRoom$Shelf" "size" "I" ∈ lw_g := lw_in 123 rfl (by decide +kernel)
theorem lc_Nam_50 : Cond.classLink "NameRoom" 50 "NameRoom$Pools" ∈ lw_g := lw_in 129 rfl (by decide +kernel)
theorem l_Nam_52 : Cond.methodLink "NameRoom" 52 ⟨"NameRoom$Pools", "<init>", "()V"⟩ ∈ lw_g := lw_in 131 rfl (by decide +kernel)
theorem l_Poo_3 : Cond.methodLink "NameRoom$Pools" 3 ⟨"java/lang/Object", "<init>", "()V"⟩ ∈ lw_g := lw_in 134 rfl (by decide +kernel)
theorem lc_Poo_9 : Cond.classLink "NameRoom$Pools" 9 "NameRoom$Sight" ∈ lw_g := lw_in 135 rfl (by decide +kernel)
theorem l_Poo_17 : Cond.methodLink "NameRoom$Pools" 17 ⟨"NameRoom$Sight", "<init>", "()V"⟩ ∈ lw_g := lw_in 138 rfl (by decide +kernel)
theorem l_Sig_3 : Cond.methodLink "NameRoom$Sight" 3 ⟨"java/lang/Object", "<init>", "()V"⟩ ∈ lw_g := lw_in 141 rfl (by decide +kernel)
theorem lc_Sig_9 : Cond.classLink "NameRoom$Sight" 9 "NameRoom$Row" ∈ lw_g := lw_in 142 rfl (by decide +kernel)
theorem l_Sig_11 : Cond.methodLink "NameRoom$Sight" 11 ⟨"NameRoom$Row", "<init>", "(I)V"⟩ ∈ lw_g := lw_in 143 rfl (by decide +kernel)
theorem l_Sig_14 : Cond.fieldLink "NameRoom$Sight" 14 "NameRoom$Sight" "title" "LNameRoom$Row;" ∈ lw_g := lw_in 144 rfl (by decide +kernel)
theorem l_Poo_45 : Cond.fieldLink "NameRoom$Pools" 45 "NameRoom$Sight" "title" "LNameRoom$Row;" ∈ lw_g := lw_in 145 rfl (by decide +kernel)
theorem l_Sig_20 : Cond.fieldLink "NameRoom$Sight" 20 "NameRoom$Sight" "pool" "I" ∈ lw_g := lw_in 146 rfl (by decide +kernel)
theorem l_Poo_35 : Cond.fieldLink "NameRoom$Pools" 35 "NameRoom$Sight" "pool" "I" ∈ lw_g := lw_in 147 rfl (by decide +kernel)
theorem l_Sig_24 : Cond.fieldLink "NameRoom$Sight" 24 "NameRoom$Sight" "withTails" "Z" ∈ lw_g := lw_in 148 rfl (by decide +kernel)
theorem l_Poo_62 : Cond.fieldLink "NameRoom$Pools" 62 "NameRoom$Sight" "withTails" "Z" ∈ lw_g := lw_in 149 rfl (by decide +kernel)
theorem l_Poo_11 : Cond.fieldLink "NameRoom$Pools" 11 "NameRoom$Pools" "sights" "[LNameRoom$Sight;" ∈ lw_g := lw_in 157 rfl (by decide +kernel)
theorem l_Poo_18 : Cond.fieldLink "NameRoom$Pools" 18 "NameRoom$Pools" "size" "I" ∈ lw_g := lw_in 158 rfl (by decide +kernel)
theorem l_Poo_22 : Cond.fieldLink "NameRoom$Pools" 22 "NameRoom$Pools" "depth" "I" ∈ lw_g := lw_in 159 rfl (by decide +kernel)
theorem l_Nam_122 : Cond.fieldLink "NameRoom" 122 "NameRoom$Pools" "depth" "I" ∈ lw_g := lw_in 160 rfl (by decide +kernel)
theorem lc_Nam_57 : Cond.classLink "NameRoom" 57 "NameRoom$Cutter" ∈ lw_g := lw_in 168 rfl (by decide +kernel)
theorem l_Nam_59 : Cond.methodLink "NameRoom" 59 ⟨"NameRoom$Cutter", "<init>", "()V"⟩ ∈ lw_g := lw_in 170 rfl (by decide +kernel)
theorem l_Cut_3 : Cond.methodLink "NameRoom$Cutter" 3 ⟨"java/lang/Object", "<init>", "()V"⟩ ∈ lw_g := lw_in 173 rfl (by decide +kernel)
theorem lc_Cut_9 : Cond.classLink "NameRoom$Cutter" 9 "NameRoom$Row" ∈ lw_g := lw_in 174 rfl (by decide +kernel)
theorem l_Cut_11 : Cond.methodLink "NameRoom$Cutter" 11 ⟨"NameRoom$Row", "<init>", "(I)V"⟩ ∈ lw_g := lw_in 175 rfl (by decide +kernel)
theorem l_Cut_14 : Cond.fieldLink "NameRoom$Cutter" 14 "NameRoom$Cutter" "subject" "LNameRoom$Row;" ∈ lw_g := lw_in 176 rfl (by decide +kernel)
theorem l_Nam_177 : Cond.fieldLink "NameRoom" 177 "NameRoom$Cutter" "subject" "LNameRoom$Row;" ∈ lw_g := lw_in 177 rfl (by decide +kernel)
theorem l_Cut_20 : Cond.fieldLink "NameRoom$Cutter" 20 "NameRoom$Cutter" "from" "I" ∈ lw_g := lw_in 178 rfl (by decide +kernel)
theorem l_Nam_180 : Cond.fieldLink "NameRoom" 180 "NameRoom$Cutter" "from" "I" ∈ lw_g := lw_in 179 rfl (by decide +kernel)
theorem l_Cut_24 : Cond.fieldLink "NameRoom$Cutter" 24 "NameRoom$Cutter" "began" "I" ∈ lw_g := lw_in 180 rfl (by decide +kernel)
theorem l_Nam_183 : Cond.fieldLink "NameRoom" 183 "NameRoom$Cutter" "began" "I" ∈ lw_g := lw_in 181 rfl (by decide +kernel)
theorem l_Cut_33 : Cond.fieldLink "NameRoom$Cutter" 33 "NameRoom$Cutter" "shareFrom" "I" ∈ lw_g := lw_in 182 rfl (by decide +kernel)
theorem l_Nam_275 : Cond.fieldLink "NameRoom" 275 "NameRoom$Cutter" "shareFrom" "I" ∈ lw_g := lw_in 183 rfl (by decide +kernel)
theorem l_Cut_36 : Cond.fieldLink "NameRoom$Cutter" 36 "NameRoom$Cutter" "shareTo" "I" ∈ lw_g := lw_in 184 rfl (by decide +kernel)
theorem l_Nam_278 : Cond.fieldLink "NameRoom" 278 "NameRoom$Cutter" "shareTo" "I" ∈ lw_g := lw_in 185 rfl (by decide +kernel)
theorem l_Cut_27 : Cond.fieldLink "NameRoom$Cutter" 27 "NameRoom$Cutter" "partFrom" "I" ∈ lw_g := lw_in 186 rfl (by decide +kernel)
theorem l_Cut_30 : Cond.fieldLink "NameRoom$Cutter" 30 "NameRoom$Cutter" "partTo" "I" ∈ lw_g := lw_in 187 rfl (by decide +kernel)
theorem l_Nam_20 : Cond.fieldLink "NameRoom" 20 "NameRoom" "tape" "LNameRoom$Row;" ∈ lw_g := lw_in 203 rfl (by decide +kernel)
theorem l_Nam_28 : Cond.fieldLink "NameRoom" 28 "NameRoom" "written" "LNameRoom$Row;" ∈ lw_g := lw_in 204 rfl (by decide +kernel)
theorem l_Nam_31 : Cond.fieldLink "NameRoom" 31 "NameRoom" "full" "LNameRoom$Row;" ∈ lw_g := lw_in 205 rfl (by decide +kernel)
theorem l_Nam_34 : Cond.fieldLink "NameRoom" 34 "NameRoom" "stem" "LNameRoom$Row;" ∈ lw_g := lw_in 206 rfl (by decide +kernel)
theorem l_Nam_37 : Cond.fieldLink "NameRoom" 37 "NameRoom" "tail" "LNameRoom$Row;" ∈ lw_g := lw_in 207 rfl (by decide +kernel)
theorem l_Nam_40 : Cond.fieldLink "NameRoom" 40 "NameRoom" "pattern" "LNameRoom$Row;" ∈ lw_g := lw_in 208 rfl (by decide +kernel)
theorem l_Nam_10 : Cond.fieldLink "NameRoom" 10 "NameRoom" "reader" "LNameRoom$Reader;" ∈ lw_g := lw_in 209 rfl (by decide +kernel)
theorem l_Nam_46 : Cond.fieldLink "NameRoom" 46 "NameRoom" "shelf" "LNameRoom$Shelf;" ∈ lw_g := lw_in 210 rfl (by decide +kernel)
theorem l_Nam_53 : Cond.fieldLink "NameRoom" 53 "NameRoom" "pools" "LNameRoom$Pools;" ∈ lw_g := lw_in 211 rfl (by decide +kernel)
theorem l_Nam_60 : Cond.fieldLink "NameRoom" 60 "NameRoom" "cutter" "LNameRoom$Cutter;" ∈ lw_g := lw_in 212 rfl (by decide +kernel)
theorem l_Law_13 : Cond.methodLink "NameRoomLaw" 13 ⟨"NameRoom", "feed", "(IIIII)I"⟩ ∈ lw_g := lw_in 234 rfl (by decide +kernel)
theorem l_Nam_68 : Cond.methodLink "NameRoom" 68 ⟨"NameRoom$Row", "addInt", "(I)V"⟩ ∈ lw_g := lw_in 238 rfl (by decide +kernel)
theorem l_Row_25 : Cond.methodLink "NameRoom$Row" 25 ⟨"NameRoom$Row", "add", "(I)Z"⟩ ∈ lw_g := lw_in 242 rfl (by decide +kernel)
theorem l_Law_18 : Cond.methodLink "NameRoomLaw" 18 ⟨"NameRoom", "end", "(I)I"⟩ ∈ lw_g := lw_in 246 rfl (by decide +kernel)
theorem l_Law_23 : Cond.methodLink "NameRoomLaw" 23 ⟨"NameRoom", "out", "(I)I"⟩ ∈ lw_g := lw_in 250 rfl (by decide +kernel)
theorem l_Nam_71 : Cond.methodLink "NameRoom" 71 ⟨"NameRoom$Row", "at", "(I)I"⟩ ∈ lw_g := lw_in 254 rfl (by decide +kernel)
theorem l_Law_27 : Cond.methodLink "NameRoomLaw" 27 ⟨"NameRoom", "set", "()I"⟩ ∈ lw_g := lw_in 258 rfl (by decide +kernel)
theorem l_Nam_75 : Cond.methodLink "NameRoom" 75 ⟨"NameRoom$Reader", "readGift", "()I"⟩ ∈ lw_g := lw_in 262 rfl (by decide +kernel)
theorem l_Rea_62 : Cond.methodLink "NameRoom$Reader" 62 ⟨"NameRoom$Reader", "begin", "()V"⟩ ∈ lw_g := lw_in 266 rfl (by decide +kernel)
theorem l_Rea_65 : Cond.methodLink "NameRoom$Reader" 65 ⟨"NameRoom$Reader", "readVariable", "(I)V"⟩ ∈ lw_g := lw_in 270 rfl (by decide +kernel)
theorem l_Rea_53 : Cond.methodLink "NameRoom$Reader" 53 ⟨"NameRoom$Row", "at", "(I)I"⟩ ∈ lw_g := lw_in 274 rfl (by decide +kernel)
theorem l_Nam_210 : Cond.methodLink "NameRoom" 210 ⟨"NameRoom", "isDigit", "(I)Z"⟩ ∈ lw_g := lw_in 278 rfl (by decide +kernel)
theorem l_Rea_71 : Cond.methodLink "NameRoom$Reader" 71 ⟨"NameRoom$Reader", "fail", "(I)V"⟩ ∈ lw_g := lw_in 282 rfl (by decide +kernel)
theorem l_Rea_98 : Cond.methodLink "NameRoom$Reader" 98 ⟨"NameRoom$Reader", "add", "(III)V"⟩ ∈ lw_g := lw_in 286 rfl (by decide +kernel)
theorem l_Nam_79 : Cond.methodLink "NameRoom" 79 ⟨"NameRoom", "workOut", "(I)Z"⟩ ∈ lw_g := lw_in 290 rfl (by decide +kernel)
theorem l_Nam_189 : Cond.methodLink "NameRoom" 189 ⟨"NameRoom$Reader", "startOf", "(I)I"⟩ ∈ lw_g := lw_in 294 rfl (by decide +kernel)
theorem l_Nam_192 : Cond.methodLink "NameRoom" 192 ⟨"NameRoom$Reader", "stopOf", "(I)I"⟩ ∈ lw_g := lw_in 298 rfl (by decide +kernel)
theorem l_Nam_89 : Cond.methodLink "NameRoom" 89 ⟨"NameRoom$Row", "clear", "()V"⟩ ∈ lw_g := lw_in 302 rfl (by decide +kernel)
theorem l_Nam_195 : Cond.methodLink "NameRoom" 195 ⟨"NameRoom$Row", "dotFrom", "(II)I"⟩ ∈ lw_g := lw_in 306 rfl (by decide +kernel)
theorem l_Nam_199 : Cond.methodLink "NameRoom" 199 ⟨"NameRoom$Row", "addCapitals", "(LNameRoom$Row;II)Z"⟩ ∈ lw_g := lw_in 310 rfl (by decide +kernel)
theorem l_Row_35 : Cond.methodLink "NameRoom$Row" 35 ⟨"NameRoom$Row", "at", "(I)I"⟩ ∈ lw_g := lw_in 314 rfl (by decide +kernel)
theorem l_Nam_203 : Cond.methodLink "NameRoom" 203 ⟨"NameRoom", "addTail", "(II)Z"⟩ ∈ lw_g := lw_in 318 rfl (by decide +kernel)
theorem l_Nam_128 : Cond.methodLink "NameRoom" 128 ⟨"NameRoom$Pools", "innermost", "()I"⟩ ∈ lw_g := lw_in 322 rfl (by decide +kernel)
theorem l_Nam_213 : Cond.methodLink "NameRoom" 213 ⟨"NameRoom$Pools", "owner", "(LNameRoom$Row;I)I"⟩ ∈ lw_g := lw_in 326 rfl (by decide +kernel)
theorem l_Poo_29 : Cond.methodLink "NameRoom$Pools" 29 ⟨"java/lang/Math", "min", "(II)I"⟩ ∈ lw_g := lw_in 330 rfl (by decide +kernel)
theorem l_Poo_38 : Cond.methodLink "NameRoom$Pools" 38 ⟨"NameRoom$Sight", "holds", "(LNameRoom$Row;)Z"⟩ ∈ lw_g := lw_in 333 rfl (by decide +kernel)
theorem l_Sig_31 : Cond.methodLink "NameRoom$Sight" 31 ⟨"NameRoom$Row", "beginsWith", "(LNameRoom$Row;)Z"⟩ ∈ lw_g := lw_in 337 rfl (by decide +kernel)
theorem l_Nam_217 : Cond.methodLink "NameRoom" 217 ⟨"NameRoom$Shelf", "find", "(LNameRoom$Row;I)LNameRoom$Entry;"⟩ ∈ lw_g := lw_in 341 rfl (by decide +kernel)
theorem l_She_34 : Cond.methodLink "NameRoom$Shelf" 34 ⟨"NameRoom$Row", "beginsWith", "(LNameRoom$Row;)Z"⟩ ∈ lw_g := lw_in 345 rfl (by decide +kernel)
theorem l_Nam_221 : Cond.methodLink "NameRoom" 221 ⟨"NameRoom$Row", "addPart", "(LNameRoom$Row;II)Z"⟩ ∈ lw_g := lw_in 346 rfl (by decide +kernel)
theorem l_Row_29 : Cond.methodLink "NameRoom$Row" 29 ⟨"java/lang/System", "arraycopy", "(Ljava/lang/Object;ILjava/lang/Object;II)V"⟩ ∈ lw_g := lw_in 350 rfl (by decide +kernel)
theorem l_Nam_207 : Cond.methodLink "NameRoom" 207 ⟨"NameRoom$Row", "add", "(I)Z"⟩ ∈ lw_g := lw_in 353 rfl (by decide +kernel)
theorem l_Nam_85 : Cond.methodLink "NameRoom" 85 ⟨"NameRoom", "give", "(LNameRoom$Row;II)I"⟩ ∈ lw_g := lw_in 354 rfl (by decide +kernel)
theorem l_Nam_231 : Cond.methodLink "NameRoom" 231 ⟨"NameRoom$Row", "isStem", "()Z"⟩ ∈ lw_g := lw_in 358 rfl (by decide +kernel)
theorem l_Row_46 : Cond.methodLink "NameRoom$Row" 46 ⟨"NameRoom$Row", "dotFrom", "(II)I"⟩ ∈ lw_g := lw_in 362 rfl (by decide +kernel)
theorem l_Nam_234 : Cond.methodLink "NameRoom" 234 ⟨"NameRoom$Shelf", "clearBehind", "(LNameRoom$Row;I)V"⟩ ∈ lw_g := lw_in 363 rfl (by decide +kernel)
theorem l_She_59 : Cond.methodLink "NameRoom$Shelf" 59 ⟨"NameRoom$Shelf", "sweep", "()V"⟩ ∈ lw_g := lw_in 367 rfl (by decide +kernel)
theorem l_Nam_238 : Cond.methodLink "NameRoom" 238 ⟨"NameRoom$Shelf", "findOrAdd", "(LNameRoom$Row;I)LNameRoom$Entry;"⟩ ∈ lw_g := lw_in 371 rfl (by decide +kernel)
theorem l_She_38 : Cond.methodLink "NameRoom$Shelf" 38 ⟨"NameRoom$Shelf", "find", "(LNameRoom$Row;I)LNameRoom$Entry;"⟩ ∈ lw_g := lw_in 375 rfl (by decide +kernel)
theorem l_She_42 : Cond.methodLink "NameRoom$Shelf" 42 ⟨"NameRoom$Row", "become", "(LNameRoom$Row;)V"⟩ ∈ lw_g := lw_in 376 rfl (by decide +kernel)
theorem l_Row_42 : Cond.methodLink "NameRoom$Row" 42 ⟨"NameRoom$Row", "addPart", "(LNameRoom$Row;II)Z"⟩ ∈ lw_g := lw_in 380 rfl (by decide +kernel)
theorem l_She_49 : Cond.methodLink "NameRoom$Shelf" 49 ⟨"NameRoom$Row", "clear", "()V"⟩ ∈ lw_g := lw_in 381 rfl (by decide +kernel)
theorem l_Law_32 : Cond.methodLink "NameRoomLaw" 32 ⟨"NameRoom", "get", "()I"⟩ ∈ lw_g := lw_in 382 rfl (by decide +kernel)
theorem l_Nam_95 : Cond.methodLink "NameRoom" 95 ⟨"NameRoom", "workOutAlone", "()I"⟩ ∈ lw_g := lw_in 386 rfl (by decide +kernel)
theorem l_Nam_186 : Cond.methodLink "NameRoom" 186 ⟨"NameRoom$Reader", "readAlone", "()I"⟩ ∈ lw_g := lw_in 390 rfl (by decide +kernel)
theorem l_Nam_98 : Cond.methodLink "NameRoom" 98 ⟨"NameRoom", "told", "()LNameRoom$Entry;"⟩ ∈ lw_g := lw_in 394 rfl (by decide +kernel)
theorem l_Nam_224 : Cond.methodLink "NameRoom" 224 ⟨"NameRoom", "stemOf", "(I)LNameRoom$Entry;"⟩ ∈ lw_g := lw_in 398 rfl (by decide +kernel)
theorem l_Nam_227 : Cond.methodLink "NameRoom" 227 ⟨"NameRoom$Row", "isCompound", "()Z"⟩ ∈ lw_g := lw_in 402 rfl (by decide +kernel)
theorem l_Nam_102 : Cond.methodLink "NameRoom" 102 ⟨"NameRoom", "textOf", "(LNameRoom$Entry;)LNameRoom$Row;"⟩ ∈ lw_g := lw_in 406 rfl (by decide +kernel)
theorem l_Nam_106 : Cond.methodLink "NameRoom" 106 ⟨"NameRoom$Row", "become", "(LNameRoom$Row;)V"⟩ ∈ lw_g := lw_in 410 rfl (by decide +kernel)
theorem l_Law_36 : Cond.methodLink "NameRoomLaw" 36 ⟨"NameRoom", "known", "()I"⟩ ∈ lw_g := lw_in 411 rfl (by decide +kernel)
theorem l_Law_40 : Cond.methodLink "NameRoomLaw" 40 ⟨"NameRoom", "drop", "()I"⟩ ∈ lw_g := lw_in 415 rfl (by decide +kernel)
theorem l_Nam_115 : Cond.methodLink "NameRoom" 115 ⟨"NameRoom$Reader", "readVariables", "(I)I"⟩ ∈ lw_g := lw_in 419 rfl (by decide +kernel)
theorem l_Nam_119 : Cond.methodLink "NameRoom" 119 ⟨"NameRoom", "takeBack", "()I"⟩ ∈ lw_g := lw_in 423 rfl (by decide +kernel)
theorem l_Nam_241 : Cond.methodLink "NameRoom" 241 ⟨"NameRoom$Shelf", "remove", "(LNameRoom$Row;I)V"⟩ ∈ lw_g := lw_in 427 rfl (by decide +kernel)
theorem l_Law_44 : Cond.methodLink "NameRoomLaw" 44 ⟨"NameRoom", "open", "()I"⟩ ∈ lw_g := lw_in 431 rfl (by decide +kernel)
theorem l_Nam_125 : Cond.methodLink "NameRoom" 125 ⟨"NameRoom", "enterPool", "()I"⟩ ∈ lw_g := lw_in 435 rfl (by decide +kernel)
theorem l_Nam_244 : Cond.methodLink "NameRoom" 244 ⟨"NameRoom$Pools", "enter", "()V"⟩ ∈ lw_g := lw_in 439 rfl (by decide +kernel)
theorem l_Nam_134 : Cond.methodLink "NameRoom" 134 ⟨"NameRoom$Pools", "leave", "()V"⟩ ∈ lw_g := lw_in 443 rfl (by decide +kernel)
theorem l_Poo_25 : Cond.methodLink "NameRoom$Pools" 25 ⟨"NameRoom$Pools", "seenByInnermost", "()I"⟩ ∈ lw_g := lw_in 447 rfl (by decide +kernel)
theorem l_Poo_55 : Cond.methodLink "NameRoom$Pools" 55 ⟨"NameRoom$Pools", "innermost", "()I"⟩ ∈ lw_g := lw_in 451 rfl (by decide +kernel)
theorem l_Nam_247 : Cond.methodLink "NameRoom" 247 ⟨"NameRoom$Pools", "see", "(LNameRoom$Row;)V"⟩ ∈ lw_g := lw_in 452 rfl (by decide +kernel)
theorem l_Poo_42 : Cond.methodLink "NameRoom$Pools" 42 ⟨"NameRoom$Pools", "sees", "(LNameRoom$Row;)Z"⟩ ∈ lw_g := lw_in 456 rfl (by decide +kernel)
theorem l_Poo_69 : Cond.methodLink "NameRoom$Pools" 69 ⟨"NameRoom$Row", "beginsWith", "(LNameRoom$Row;)Z"⟩ ∈ lw_g := lw_in 460 rfl (by decide +kernel)
theorem l_Poo_49 : Cond.methodLink "NameRoom$Pools" 49 ⟨"NameRoom$Row", "become", "(LNameRoom$Row;)V"⟩ ∈ lw_g := lw_in 461 rfl (by decide +kernel)
theorem l_Poo_58 : Cond.methodLink "NameRoom$Pools" 58 ⟨"NameRoom$Row", "isStem", "()Z"⟩ ∈ lw_g := lw_in 462 rfl (by decide +kernel)
theorem l_Law_48 : Cond.methodLink "NameRoomLaw" 48 ⟨"NameRoom", "close", "()I"⟩ ∈ lw_g := lw_in 463 rfl (by decide +kernel)
theorem l_Nam_131 : Cond.methodLink "NameRoom" 131 ⟨"NameRoom$Shelf", "clearPool", "(I)V"⟩ ∈ lw_g := lw_in 467 rfl (by decide +kernel)
theorem l_Law_52 : Cond.methodLink "NameRoomLaw" 52 ⟨"NameRoom", "subject", "(Z)I"⟩ ∈ lw_g := lw_in 471 rfl (by decide +kernel)
theorem l_Nam_137 : Cond.methodLink "NameRoom" 137 ⟨"NameRoom$Cutter", "take", "(LNameRoom$Row;Z)V"⟩ ∈ lw_g := lw_in 475 rfl (by decide +kernel)
theorem l_Cut_39 : Cond.methodLink "NameRoom$Cutter" 39 ⟨"NameRoom$Row", "clear", "()V"⟩ ∈ lw_g := lw_in 479 rfl (by decide +kernel)
theorem l_Cut_45 : Cond.methodLink "NameRoom$Cutter" 45 ⟨"NameRoom$Row", "addCapitals", "(LNameRoom$Row;II)Z"⟩ ∈ lw_g := lw_in 480 rfl (by decide +kernel)
theorem l_Cut_49 : Cond.methodLink "NameRoom$Cutter" 49 ⟨"NameRoom$Row", "addPart", "(LNameRoom$Row;II)Z"⟩ ∈ lw_g := lw_in 481 rfl (by decide +kernel)
theorem l_Law_57 : Cond.methodLink "NameRoomLaw" 57 ⟨"NameRoom", "parse", "()I"⟩ ∈ lw_g := lw_in 482 rfl (by decide +kernel)
theorem l_Nam_141 : Cond.methodLink "NameRoom" 141 ⟨"NameRoom$Reader", "readTemplate", "()I"⟩ ∈ lw_g := lw_in 486 rfl (by decide +kernel)
theorem l_Rea_74 : Cond.methodLink "NameRoom$Reader" 74 ⟨"NameRoom$Reader", "readToken", "()V"⟩ ∈ lw_g := lw_in 490 rfl (by decide +kernel)
theorem l_Rea_77 : Cond.methodLink "NameRoom$Reader" 77 ⟨"NameRoom$Reader", "readString", "(I)V"⟩ ∈ lw_g := lw_in 494 rfl (by decide +kernel)
theorem l_Rea_80 : Cond.methodLink "NameRoom$Reader" 80 ⟨"NameRoom$Reader", "readBracket", "()V"⟩ ∈ lw_g := lw_in 498 rfl (by decide +kernel)
theorem l_Rea_101 : Cond.methodLink "NameRoom$Reader" 101 ⟨"NameRoom$Reader", "skipBlanks", "()V"⟩ ∈ lw_g := lw_in 502 rfl (by decide +kernel)
theorem l_Rea_83 : Cond.methodLink "NameRoom$Reader" 83 ⟨"NameRoom$Reader", "readSignedPlace", "(I)V"⟩ ∈ lw_g := lw_in 506 rfl (by decide +kernel)
theorem l_Rea_92 : Cond.methodLink "NameRoom$Reader" 92 ⟨"NameRoom$Reader", "readPlace", "(I)V"⟩ ∈ lw_g := lw_in 510 rfl (by decide +kernel)
theorem l_Rea_86 : Cond.methodLink "NameRoom$Reader" 86 ⟨"NameRoom$Reader", "readBareToken", "(I)V"⟩ ∈ lw_g := lw_in 514 rfl (by decide +kernel)
theorem l_Nam_144 : Cond.methodLink "NameRoom" 144 ⟨"NameRoom$Cutter", "begin", "()V"⟩ ∈ lw_g := lw_in 518 rfl (by decide +kernel)
theorem l_Nam_147 : Cond.methodLink "NameRoom" 147 ⟨"NameRoom$Reader", "isTarget", "(I)Z"⟩ ∈ lw_g := lw_in 522 rfl (by decide +kernel)
theorem l_Rea_43 : Cond.methodLink "NameRoom$Reader" 43 ⟨"NameRoom$Reader", "kindOf", "(I)I"⟩ ∈ lw_g := lw_in 526 rfl (by decide +kernel)
theorem l_Nam_150 : Cond.methodLink "NameRoom" 150 ⟨"NameRoom", "cutAt", "(I)I"⟩ ∈ lw_g := lw_in 530 rfl (by decide +kernel)
theorem l_Nam_250 : Cond.methodLink "NameRoom" 250 ⟨"NameRoom$Reader", "kindOf", "(I)I"⟩ ∈ lw_g := lw_in 534 rfl (by decide +kernel)
theorem l_Nam_253 : Cond.methodLink "NameRoom" 253 ⟨"NameRoom$Reader", "copyString", "(ILNameRoom$Row;)V"⟩ ∈ lw_g := lw_in 535 rfl (by decide +kernel)
theorem l_Rea_55 : Cond.methodLink "NameRoom$Reader" 55 ⟨"NameRoom$Row", "clear", "()V"⟩ ∈ lw_g := lw_in 539 rfl (by decide +kernel)
theorem l_Rea_47 : Cond.methodLink "NameRoom$Reader" 47 ⟨"NameRoom$Reader", "startOf", "(I)I"⟩ ∈ lw_g := lw_in 540 rfl (by decide +kernel)
theorem l_Rea_50 : Cond.methodLink "NameRoom$Reader" 50 ⟨"NameRoom$Reader", "stopOf", "(I)I"⟩ ∈ lw_g := lw_in 541 rfl (by decide +kernel)
theorem l_Rea_58 : Cond.methodLink "NameRoom$Reader" 58 ⟨"NameRoom$Row", "add", "(I)Z"⟩ ∈ lw_g := lw_in 542 rfl (by decide +kernel)
theorem l_Nam_257 : Cond.methodLink "NameRoom" 257 ⟨"NameRoom$Cutter", "cutAtPattern", "(LNameRoom$Row;)V"⟩ ∈ lw_g := lw_in 543 rfl (by decide +kernel)
theorem l_Cut_52 : Cond.methodLink "NameRoom$Cutter" 52 ⟨"NameRoom$Cutter", "placeOf", "(LNameRoom$Row;)I"⟩ ∈ lw_g := lw_in 547 rfl (by decide +kernel)
theorem l_Cut_62 : Cond.methodLink "NameRoom$Cutter" 62 ⟨"NameRoom$Row", "standsAt", "(ILNameRoom$Row;)Z"⟩ ∈ lw_g := lw_in 551 rfl (by decide +kernel)
theorem l_Cut_56 : Cond.methodLink "NameRoom$Cutter" 56 ⟨"java/lang/Math", "min", "(II)I"⟩ ∈ lw_g := lw_in 555 rfl (by decide +kernel)
theorem l_Nam_260 : Cond.methodLink "NameRoom" 260 ⟨"NameRoom$Reader", "numberOf", "(I)I"⟩ ∈ lw_g := lw_in 556 rfl (by decide +kernel)
theorem l_Nam_263 : Cond.methodLink "NameRoom" 263 ⟨"NameRoom$Cutter", "cutAtPlace", "(I)V"⟩ ∈ lw_g := lw_in 560 rfl (by decide +kernel)
theorem l_Cut_66 : Cond.methodLink "NameRoom$Cutter" 66 ⟨"java/lang/Math", "max", "(II)I"⟩ ∈ lw_g := lw_in 564 rfl (by decide +kernel)
theorem l_Nam_266 : Cond.methodLink "NameRoom" 266 ⟨"NameRoom$Cutter", "cutAtEnd", "()V"⟩ ∈ lw_g := lw_in 565 rfl (by decide +kernel)
theorem l_Nam_153 : Cond.methodLink "NameRoom" 153 ⟨"NameRoom", "handOver", "(IZ)I"⟩ ∈ lw_g := lw_in 569 rfl (by decide +kernel)
theorem l_Nam_269 : Cond.methodLink "NameRoom" 269 ⟨"NameRoom$Cutter", "takeRest", "()V"⟩ ∈ lw_g := lw_in 573 rfl (by decide +kernel)
theorem l_Nam_272 : Cond.methodLink "NameRoom" 272 ⟨"NameRoom$Cutter", "takeWord", "()V"⟩ ∈ lw_g := lw_in 577 rfl (by decide +kernel)
theorem l_Cut_69 : Cond.methodLink "NameRoom$Cutter" 69 ⟨"NameRoom$Row", "at", "(I)I"⟩ ∈ lw_g := lw_in 581 rfl (by decide +kernel)
theorem l_Law_61 : Cond.methodLink "NameRoomLaw" 61 ⟨"NameRoom", "name", "(I)I"⟩ ∈ lw_g := lw_in 582 rfl (by decide +kernel)
theorem l_Nam_160 : Cond.methodLink "NameRoom" 160 ⟨"NameRoom$Shelf", "entryAt", "(I)LNameRoom$Entry;"⟩ ∈ lw_g := lw_in 586 rfl (by decide +kernel)
theorem l_Law_65 : Cond.methodLink "NameRoomLaw" 65 ⟨"NameRoom", "value", "(I)I"⟩ ∈ lw_g := lw_in 590 rfl (by decide +kernel)
theorem l_Law_69 : Cond.methodLink "NameRoomLaw" 69 ⟨"NameRoom", "count", "(I)I"⟩ ∈ lw_g := lw_in 594 rfl (by decide +kernel)
theorem l_Nam_174 : Cond.methodLink "NameRoom" 174 ⟨"NameRoom$Pools", "seenByInnermost", "()I"⟩ ∈ lw_g := lw_in 598 rfl (by decide +kernel)
theorem lc_Law_10 : Cond.classLink "NameRoomLaw" 10 "NameRoomModel" ∈ lw_g := lw_in 599 rfl (by decide +kernel)
theorem l_Law_12 : Cond.methodLink "NameRoomLaw" 12 ⟨"NameRoomModel", "<init>", "()V"⟩ ∈ lw_g := lw_in 601 rfl (by decide +kernel)
theorem l_Mod_1 : Cond.methodLink "NameRoomModel" 1 ⟨"java/lang/Object", "<init>", "()V"⟩ ∈ lw_g := lw_in 604 rfl (by decide +kernel)
theorem l_Mod_7 : Cond.fieldLink "NameRoomModel" 7 "NameRoomModel" "tape" "[I" ∈ lw_g := lw_in 605 rfl (by decide +kernel)
theorem l_Mod_13 : Cond.fieldLink "NameRoomModel" 13 "NameRoomModel" "text" "[I" ∈ lw_g := lw_in 606 rfl (by decide +kernel)
theorem l_Mod_16 : Cond.fieldLink "NameRoomModel" 16 "NameRoomModel" "out" "[I" ∈ lw_g := lw_in 607 rfl (by decide +kernel)
theorem l_Mod_19 : Cond.fieldLink "NameRoomModel" 19 "NameRoomModel" "full" "[I" ∈ lw_g := lw_in 608 rfl (by decide +kernel)
theorem l_Mod_62 : Cond.fieldLink "NameRoomModel" 62 "NameRoomModel" "taped" "I" ∈ lw_g := lw_in 609 rfl (by decide +kernel)
theorem l_Mod_72 : Cond.fieldLink "NameRoomModel" 72 "NameRoomModel" "size" "I" ∈ lw_g := lw_in 610 rfl (by decide +kernel)
theorem l_Mod_69 : Cond.fieldLink "NameRoomModel" 69 "NameRoomModel" "written" "I" ∈ lw_g := lw_in 611 rfl (by decide +kernel)
theorem l_Mod_95 : Cond.fieldLink "NameRoomModel" 95 "NameRoomModel" "length" "I" ∈ lw_g := lw_in 612 rfl (by decide +kernel)
theorem l_Mod_22 : Cond.fieldLink "NameRoomModel" 22 "NameRoomModel" "names" "[I" ∈ lw_g := lw_in 613 rfl (by decide +kernel)
theorem l_Mod_25 : Cond.fieldLink "NameRoomModel" 25 "NameRoomModel" "nameSize" "[I" ∈ lw_g := lw_in 614 rfl (by decide +kernel)
theorem l_Mod_28 : Cond.fieldLink "NameRoomModel" 28 "NameRoomModel" "values" "[I" ∈ lw_g := lw_in 615 rfl (by decide +kernel)
theorem l_Mod_31 : Cond.fieldLink "NameRoomModel" 31 "NameRoomModel" "valueSize" "[I" ∈ lw_g := lw_in 616 rfl (by decide +kernel)
theorem l_Mod_34 : Cond.fieldLink "NameRoomModel" 34 "NameRoomModel" "pools" "[I" ∈ lw_g := lw_in 617 rfl (by decide +kernel)
theorem l_Mod_105 : Cond.fieldLink "NameRoomModel" 105 "NameRoomModel" "many" "I" ∈ lw_g := lw_in 618 rfl (by decide +kernel)
theorem l_Mod_37 : Cond.fieldLink "NameRoomModel" 37 "NameRoomModel" "seen" "[I" ∈ lw_g := lw_in 619 rfl (by decide +kernel)
theorem l_Mod_40 : Cond.fieldLink "NameRoomModel" 40 "NameRoomModel" "seenSize" "[I" ∈ lw_g := lw_in 620 rfl (by decide +kernel)
theorem l_Mod_43 : Cond.fieldLink "NameRoomModel" 43 "NameRoomModel" "sees" "[I" ∈ lw_g := lw_in 621 rfl (by decide +kernel)
theorem l_Mod_108 : Cond.fieldLink "NameRoomModel" 108 "NameRoomModel" "pool" "I" ∈ lw_g := lw_in 622 rfl (by decide +kernel)
theorem l_Mod_46 : Cond.fieldLink "NameRoomModel" 46 "NameRoomModel" "subject" "[I" ∈ lw_g := lw_in 623 rfl (by decide +kernel)
theorem l_Mod_49 : Cond.fieldLink "NameRoomModel" 49 "NameRoomModel" "found" "[I" ∈ lw_g := lw_in 624 rfl (by decide +kernel)
theorem l_Mod_173 : Cond.fieldLink "NameRoomModel" 173 "NameRoomModel" "subjectSize" "I" ∈ lw_g := lw_in 625 rfl (by decide +kernel)
theorem l_Mod_176 : Cond.fieldLink "NameRoomModel" 176 "NameRoomModel" "foundSize" "I" ∈ lw_g := lw_in 626 rfl (by decide +kernel)
theorem l_Mod_52 : Cond.fieldLink "NameRoomModel" 52 "NameRoomModel" "from" "I" ∈ lw_g := lw_in 627 rfl (by decide +kernel)
theorem l_Mod_56 : Cond.fieldLink "NameRoomModel" 56 "NameRoomModel" "began" "I" ∈ lw_g := lw_in 628 rfl (by decide +kernel)
theorem l_Mod_75 : Cond.fieldLink "NameRoomModel" 75 "NameRoomModel" "wrong" "I" ∈ lw_g := lw_in 629 rfl (by decide +kernel)
theorem l_Mod_78 : Cond.fieldLink "NameRoomModel" 78 "NameRoomModel" "next" "I" ∈ lw_g := lw_in 630 rfl (by decide +kernel)
theorem l_Mod_59 : Cond.fieldLink "NameRoomModel" 59 "NameRoomModel" "kept" "[I" ∈ lw_g := lw_in 631 rfl (by decide +kernel)
theorem l_Mod_182 : Cond.fieldLink "NameRoomModel" 182 "NameRoomModel" "kind" "I" ∈ lw_g := lw_in 632 rfl (by decide +kernel)
theorem l_Mod_179 : Cond.fieldLink "NameRoomModel" 179 "NameRoomModel" "first" "I" ∈ lw_g := lw_in 633 rfl (by decide +kernel)
theorem l_Mod_191 : Cond.fieldLink "NameRoomModel" 191 "NameRoomModel" "last" "I" ∈ lw_g := lw_in 634 rfl (by decide +kernel)
theorem l_Mod_197 : Cond.fieldLink "NameRoomModel" 197 "NameRoomModel" "value" "I" ∈ lw_g := lw_in 635 rfl (by decide +kernel)
theorem l_Law_17 : Cond.methodLink "NameRoomLaw" 17 ⟨"NameRoomModel", "feed", "(IIIII)I"⟩ ∈ lw_g := lw_in 699 rfl (by decide +kernel)
theorem l_Mod_65 : Cond.methodLink "NameRoomModel" 65 ⟨"NameRoomModel", "four", "(I)V"⟩ ∈ lw_g := lw_in 703 rfl (by decide +kernel)
theorem l_Law_22 : Cond.methodLink "NameRoomLaw" 22 ⟨"NameRoomModel", "end", "(I)I"⟩ ∈ lw_g := lw_in 707 rfl (by decide +kernel)
theorem l_Law_26 : Cond.methodLink "NameRoomLaw" 26 ⟨"NameRoomModel", "out", "(I)I"⟩ ∈ lw_g := lw_in 711 rfl (by decide +kernel)
theorem l_Law_31 : Cond.methodLink "NameRoomLaw" 31 ⟨"NameRoomModel", "set", "()I"⟩ ∈ lw_g := lw_in 715 rfl (by decide +kernel)
theorem l_Mod_143 : Cond.methodLink "NameRoomModel" 143 ⟨"NameRoomModel", "take", "()V"⟩ ∈ lw_g := lw_in 719 rfl (by decide +kernel)
theorem l_Mod_146 : Cond.methodLink "NameRoomModel" 146 ⟨"NameRoomModel", "variable", "()V"⟩ ∈ lw_g := lw_in 723 rfl (by decide +kernel)
theorem l_Mod_85 : Cond.methodLink "NameRoomModel" 85 ⟨"NameRoomModel", "here", "()I"⟩ ∈ lw_g := lw_in 727 rfl (by decide +kernel)
theorem l_Mod_89 : Cond.methodLink "NameRoomModel" 89 ⟨"NameRoomModel", "isSymbol", "(I)Z"⟩ ∈ lw_g := lw_in 731 rfl (by decide +kernel)
theorem l_Mod_81 : Cond.methodLink "NameRoomModel" 81 ⟨"NameRoomModel", "isDigit", "(I)Z"⟩ ∈ lw_g := lw_in 734 rfl (by decide +kernel)
theorem l_Mod_92 : Cond.methodLink "NameRoomModel" 92 ⟨"NameRoomModel", "fail", "(I)V"⟩ ∈ lw_g := lw_in 737 rfl (by decide +kernel)
theorem l_Mod_149 : Cond.methodLink "NameRoomModel" 149 ⟨"NameRoomModel", "nameOf", "(II)Z"⟩ ∈ lw_g := lw_in 741 rfl (by decide +kernel)
theorem l_Mod_121 : Cond.methodLink "NameRoomModel" 121 ⟨"NameRoomModel", "capital", "(I)I"⟩ ∈ lw_g := lw_in 745 rfl (by decide +kernel)
theorem l_Mod_131 : Cond.methodLink "NameRoomModel" 131 ⟨"NameRoomModel", "told", "(II)I"⟩ ∈ lw_g := lw_in 748 rfl (by decide +kernel)
theorem l_Mod_125 : Cond.methodLink "NameRoomModel" 125 ⟨"NameRoomModel", "add", "(I)V"⟩ ∈ lw_g := lw_in 752 rfl (by decide +kernel)
theorem l_Mod_128 : Cond.methodLink "NameRoomModel" 128 ⟨"NameRoomModel", "tells", "()I"⟩ ∈ lw_g := lw_in 756 rfl (by decide +kernel)
theorem l_Mod_111 : Cond.methodLink "NameRoomModel" 111 ⟨"NameRoomModel", "poolOf", "(II)I"⟩ ∈ lw_g := lw_in 760 rfl (by decide +kernel)
theorem l_Mod_98 : Cond.methodLink "NameRoomModel" 98 ⟨"NameRoomModel", "isStem", "(I)Z"⟩ ∈ lw_g := lw_in 764 rfl (by decide +kernel)
theorem l_Mod_101 : Cond.methodLink "NameRoomModel" 101 ⟨"NameRoomModel", "isAlike", "(II)Z"⟩ ∈ lw_g := lw_in 768 rfl (by decide +kernel)
theorem l_Mod_115 : Cond.methodLink "NameRoomModel" 115 ⟨"NameRoomModel", "entry", "(II)I"⟩ ∈ lw_g := lw_in 772 rfl (by decide +kernel)
theorem l_Mod_118 : Cond.methodLink "NameRoomModel" 118 ⟨"NameRoomModel", "stem", "()I"⟩ ∈ lw_g := lw_in 776 rfl (by decide +kernel)
theorem l_Mod_152 : Cond.methodLink "NameRoomModel" 152 ⟨"NameRoomModel", "assign", "(ZII)Z"⟩ ∈ lw_g := lw_in 780 rfl (by decide +kernel)
theorem l_Mod_137 : Cond.methodLink "NameRoomModel" 137 ⟨"NameRoomModel", "clear", "(I)V"⟩ ∈ lw_g := lw_in 784 rfl (by decide +kernel)
theorem l_Mod_134 : Cond.methodLink "NameRoomModel" 134 ⟨"NameRoomModel", "remove", "(I)V"⟩ ∈ lw_g := lw_in 788 rfl (by decide +kernel)
theorem l_Mod_140 : Cond.methodLink "NameRoomModel" 140 ⟨"NameRoomModel", "place", "(I)I"⟩ ∈ lw_g := lw_in 792 rfl (by decide +kernel)
theorem l_Law_35 : Cond.methodLink "NameRoomLaw" 35 ⟨"NameRoomModel", "get", "()I"⟩ ∈ lw_g := lw_in 796 rfl (by decide +kernel)
theorem l_Mod_156 : Cond.methodLink "NameRoomModel" 156 ⟨"NameRoomModel", "one", "()I"⟩ ∈ lw_g := lw_in 800 rfl (by decide +kernel)
theorem l_Mod_159 : Cond.methodLink "NameRoomModel" 159 ⟨"NameRoomModel", "write", "([III)V"⟩ ∈ lw_g := lw_in 804 rfl (by decide +kernel)
theorem l_Law_39 : Cond.methodLink "NameRoomLaw" 39 ⟨"NameRoomModel", "known", "()I"⟩ ∈ lw_g := lw_in 808 rfl (by decide +kernel)
theorem l_Law_43 : Cond.methodLink "NameRoomLaw" 43 ⟨"NameRoomModel", "drop", "()I"⟩ ∈ lw_g := lw_in 812 rfl (by decide +kernel)
theorem l_Mod_163 : Cond.methodLink "NameRoomModel" 163 ⟨"NameRoomModel", "variables", "(I)I"⟩ ∈ lw_g := lw_in 816 rfl (by decide +kernel)
theorem l_Mod_166 : Cond.methodLink "NameRoomModel" 166 ⟨"NameRoomModel", "wordEnd", "(I)I"⟩ ∈ lw_g := lw_in 820 rfl (by decide +kernel)
theorem l_Mod_169 : Cond.methodLink "NameRoomModel" 169 ⟨"NameRoomModel", "lose", "()Z"⟩ ∈ lw_g := lw_in 824 rfl (by decide +kernel)
theorem l_Law_47 : Cond.methodLink "NameRoomLaw" 47 ⟨"NameRoomModel", "open", "()I"⟩ ∈ lw_g := lw_in 828 rfl (by decide +kernel)
theorem l_Law_51 : Cond.methodLink "NameRoomLaw" 51 ⟨"NameRoomModel", "close", "()I"⟩ ∈ lw_g := lw_in 832 rfl (by decide +kernel)
theorem l_Law_56 : Cond.methodLink "NameRoomLaw" 56 ⟨"NameRoomModel", "subject", "(Z)I"⟩ ∈ lw_g := lw_in 836 rfl (by decide +kernel)
theorem l_Law_60 : Cond.methodLink "NameRoomLaw" 60 ⟨"NameRoomModel", "parse", "()I"⟩ ∈ lw_g := lw_in 840 rfl (by decide +kernel)
theorem l_Mod_188 : Cond.methodLink "NameRoomModel" 188 ⟨"NameRoomModel", "blanks", "()V"⟩ ∈ lw_g := lw_in 844 rfl (by decide +kernel)
theorem l_Mod_200 : Cond.methodLink "NameRoomModel" 200 ⟨"NameRoomModel", "token", "()V"⟩ ∈ lw_g := lw_in 848 rfl (by decide +kernel)
theorem l_Mod_185 : Cond.methodLink "NameRoomModel" 185 ⟨"NameRoomModel", "string", "()V"⟩ ∈ lw_g := lw_in 852 rfl (by decide +kernel)
theorem l_Mod_194 : Cond.methodLink "NameRoomModel" 194 ⟨"NameRoomModel", "number", "()I"⟩ ∈ lw_g := lw_in 856 rfl (by decide +kernel)
theorem l_Mod_203 : Cond.methodLink "NameRoomModel" 203 ⟨"NameRoomModel", "cut", "()I"⟩ ∈ lw_g := lw_in 860 rfl (by decide +kernel)
theorem l_Mod_206 : Cond.methodLink "NameRoomModel" 206 ⟨"NameRoomModel", "look", "()V"⟩ ∈ lw_g := lw_in 864 rfl (by decide +kernel)
theorem l_Mod_209 : Cond.methodLink "NameRoomModel" 209 ⟨"NameRoomModel", "pattern", "(I)I"⟩ ∈ lw_g := lw_in 868 rfl (by decide +kernel)
theorem l_Mod_212 : Cond.methodLink "NameRoomModel" 212 ⟨"NameRoomModel", "held", "(I)I"⟩ ∈ lw_g := lw_in 872 rfl (by decide +kernel)
theorem l_Mod_215 : Cond.methodLink "NameRoomModel" 215 ⟨"NameRoomModel", "give", "(IIIII)I"⟩ ∈ lw_g := lw_in 876 rfl (by decide +kernel)
theorem l_Law_64 : Cond.methodLink "NameRoomLaw" 64 ⟨"NameRoomModel", "name", "(I)I"⟩ ∈ lw_g := lw_in 880 rfl (by decide +kernel)
theorem l_Law_68 : Cond.methodLink "NameRoomLaw" 68 ⟨"NameRoomModel", "value", "(I)I"⟩ ∈ lw_g := lw_in 884 rfl (by decide +kernel)
theorem l_Law_72 : Cond.methodLink "NameRoomLaw" 72 ⟨"NameRoomModel", "count", "(I)I"⟩ ∈ lw_g := lw_in 888 rfl (by decide +kernel)
theorem wa_byte : Cond.arrayClass .byte ∈ lw_g := lw_in 48 rfl (by decide +kernel)
theorem wa_int : Cond.arrayClass .int ∈ lw_g := lw_in 78 rfl (by decide +kernel)
theorem l_Rea_95 : ("NameRoom$Reader", 95, ⟨"NameRoom", "isSymbolByte", "(I)Z"⟩, "NameRoom") ∈ xNl := List.mem_of_getElem? (i := 0) rfl
theorem l_Rea_89 : ("NameRoom$Reader", 89, ⟨"NameRoom", "isDigit", "(I)Z"⟩, "NameRoom") ∈ xNl := List.mem_of_getElem? (i := 1) rfl
theorem l_Row_39 : ("NameRoom$Row", 39, ⟨"NameRoom", "capital", "(I)I"⟩, "NameRoom") ∈ xNl := List.mem_of_getElem? (i := 2) rfl
theorem wj_copyN : Cond.native arraycopyName ∈ lw_g := lw_in 352 rfl (by decide +kernel)
theorem wj_copyS : Cond.static arraycopyName ∈ lw_g := lw_in 351 rfl (by decide +kernel)
theorem wj_copyI : Cond.initialized "java/lang/System" ∈ lw_g := lw_in 11 rfl (by decide +kernel)
theorem wj_mathI : Cond.initialized "java/lang/Math" ∈ lw_g := lw_in 4 rfl (by decide +kernel)
theorem wj_minS : Cond.static Lib.Math.min.name ∈ lw_g := lw_in 331 rfl (by decide +kernel)
theorem wj_minC : Cond.code Lib.Math.min.name Lib.Math.min.code 2 (some .int) ∈ lw_g := lw_in 332 rfl (by decide +kernel)
theorem wj_maxS : Cond.static Lib.Math.max.name ∈ lw_g := lw_in 33 rfl (by decide +kernel)
theorem wj_maxC : Cond.code Lib.Math.max.name Lib.Math.max.code 2 (some .int) ∈ lw_g := lw_in 34 rfl (by decide +kernel)
theorem wj_objM : Cond.instanceMethod Lib.objectInit ∈ lw_g := lw_in 18 rfl (by decide +kernel)
theorem wj_objC : Cond.code Lib.objectInit ⟨#[0xb1]⟩ 1 none ∈ lw_g := lw_in 19 rfl (by decide +kernel)
theorem m_Cut_begin : xVm Y_Cut_begin 0 := ⟨lw_in 521 rfl (by decide +kernel), lw_in 519 rfl (by decide +kernel), lw_in 520 rfl (by decide +kernel), kz_Cut, ⟨by decide +kernel, by decide +kernel, by decide +kernel⟩, by decide⟩
theorem m_Cut_cutAtEnd : xVm Y_Cut_cutAtEnd 0 := ⟨lw_in 568 rfl (by decide +kernel), lw_in 566 rfl (by decide +kernel), lw_in 567 rfl (by decide +kernel), kz_Cut, ⟨by decide +kernel, by decide +kernel, by decide +kernel⟩, by decide⟩
theorem m_Cut_cutAtPattern : xVm Y_Cut_cutAtPattern 1 := ⟨lw_in 546 rfl (by decide +kernel), lw_in 544 rfl (by decide +kernel), lw_in 545 rfl (by decide +kernel), kz_Cut, ⟨by decide +kernel, by decide +kernel, by decide +kernel⟩, by decide⟩
theorem m_Cut_cutAtPlace : xVm Y_Cut_cutAtPlace 1 := ⟨lw_in 563 rfl (by decide +kernel), lw_in 561 rfl (by decide +kernel), lw_in 562 rfl (by decide +kernel), kz_Cut, ⟨by decide +kernel, by decide +kernel, by decide +kernel⟩, by decide⟩
theorem m_Cut_init : xIm Y_Cut_init 0 := ⟨lw_in 172 rfl (by decide +kernel), lw_in 171 rfl (by decide +kernel), rfl, kz_Cut, ⟨by decide +kernel, by decide +kernel, by decide +kernel⟩, by decide, rfl⟩
theorem m_Cut_placeOf : xVm Y_Cut_placeOf 1 := ⟨lw_in 550 rfl (by decide +kernel), lw_in 549 rfl (by decide +kernel), lw_ip 23 rfl (by decide +kernel), kz_Cut, ⟨by decide +kernel, by decide +kernel, by decide +kernel⟩, by decide⟩
theorem m_Cut_take : xVm Y_Cut_take 2 := ⟨lw_in 478 rfl (by decide +kernel), lw_in 476 rfl (by decide +kernel), lw_in 477 rfl (by decide +kernel), kz_Cut, ⟨by decide +kernel, by decide +kernel, by decide +kernel⟩, by decide⟩
theorem m_Cut_takeRest : xVm Y_Cut_takeRest 0 := ⟨lw_in 576 rfl (by decide +kernel), lw_in 574 rfl (by decide +kernel), lw_in 575 rfl (by decide +kernel), kz_Cut, ⟨by decide +kernel, by decide +kernel, by decide +kernel⟩, by decide⟩
theorem m_Cut_takeWord : xVm Y_Cut_takeWord 0 := ⟨lw_in 580 rfl (by decide +kernel), lw_in 578 rfl (by decide +kernel), lw_in 579 rfl (by decide +kernel), kz_Cut, ⟨by decide +kernel, by decide +kernel, by decide +kernel⟩, by decide⟩
theorem m_Ent_init : xIm Y_Ent_init 0 := ⟨lw_in 92 rfl (by decide +kernel), lw_in 91 rfl (by decide +kernel), rfl, kz_Ent, ⟨by decide +kernel, by decide +kernel, by decide +kernel⟩, by decide, rfl⟩
theorem m_Mod_add : xVm Y_Mod_add 1 := ⟨lw_in 755 rfl (by decide +kernel), lw_in 754 rfl (by decide +kernel), lw_ip 32 rfl (by decide +kernel), kz_Mod, ⟨by decide +kernel, by decide +kernel, by decide +kernel⟩, by decide⟩
theorem m_Mod_assign : xVm Y_Mod_assign 3 := ⟨lw_in 783 rfl (by decide +kernel), lw_in 782 rfl (by decide +kernel), lw_ip 39 rfl (by decide +kernel), kz_Mod, ⟨by decide +kernel, by decide +kernel, by decide +kernel⟩, by decide⟩
theorem m_Mod_blanks : xVm Y_Mod_blanks 0 := ⟨lw_in 847 rfl (by decide +kernel), lw_in 846 rfl (by decide +kernel), lw_ip 48 rfl (by decide +kernel), kz_Mod, ⟨by decide +kernel, by decide +kernel, by decide +kernel⟩, by decide⟩
theorem m_Mod_capital : xSm Y_Mod_capital 1 := ⟨lw_in 747 rfl (by decide +kernel), lw_in 746 rfl (by decide +kernel), kz_Mod, ⟨by decide +kernel, by decide +kernel, by decide +kernel⟩, by decide⟩
theorem m_Mod_clear : xVm Y_Mod_clear 1 := ⟨lw_in 787 rfl (by decide +kernel), lw_in 786 rfl (by decide +kernel), lw_ip 40 rfl (by decide +kernel), kz_Mod, ⟨by decide +kernel, by decide +kernel, by decide +kernel⟩, by decide⟩
theorem m_Mod_close : xVm Y_Mod_close 0 := ⟨lw_in 835 rfl (by decide +kernel), lw_in 833 rfl (by decide +kernel), lw_in 834 rfl (by decide +kernel), kz_Mod, ⟨by decide +kernel, by decide +kernel, by decide +kernel⟩, by decide⟩
theorem m_Mod_count : xVm Y_Mod_count 1 := ⟨lw_in 891 rfl (by decide +kernel), lw_in 889 rfl (by decide +kernel), lw_in 890 rfl (by decide +kernel), kz_Mod, ⟨by decide +kernel, by decide +kernel, by decide +kernel⟩, by decide⟩
theorem m_Mod_cut : xVm Y_Mod_cut 0 := ⟨lw_in 863 rfl (by decide +kernel), lw_in 862 rfl (by decide +kernel), lw_ip 52 rfl (by decide +kernel), kz_Mod, ⟨by decide +kernel, by decide +kernel, by decide +kernel⟩, by decide⟩
theorem m_Mod_drop : xVm Y_Mod_drop 0 := ⟨lw_in 815 rfl (by decide +kernel), lw_in 813 rfl (by decide +kernel), lw_in 814 rfl (by decide +kernel), kz_Mod, ⟨by decide +kernel, by decide +kernel, by decide +kernel⟩, by decide⟩
theorem m_Mod_end : xVm Y_Mod_end 1 := ⟨lw_in 710 rfl (by decide +kernel), lw_in 708 rfl (by decide +kernel), lw_in 709 rfl (by decide +kernel), kz_Mod, ⟨by decide +kernel, by decide +kernel, by decide +kernel⟩, by decide⟩
theorem m_Mod_entry : xVm Y_Mod_entry 2 := ⟨lw_in 775 rfl (by decide +kernel), lw_in 774 rfl (by decide +kernel), lw_ip 37 rfl (by decide +kernel), kz_Mod, ⟨by decide +kernel, by decide +kernel, by decide +kernel⟩, by decide⟩
theorem m_Mod_fail : xVm Y_Mod_fail 1 := ⟨lw_in 740 rfl (by decide +kernel), lw_in 739 rfl (by decide +kernel), lw_ip 29 rfl (by decide +kernel), kz_Mod, ⟨by decide +kernel, by decide +kernel, by decide +kernel⟩, by decide⟩
theorem m_Mod_feed : xVm Y_Mod_feed 5 := ⟨lw_in 702 rfl (by decide +kernel), lw_in 700 rfl (by decide +kernel), lw_in 701 rfl (by decide +kernel), kz_Mod, ⟨by decide +kernel, by decide +kernel, by decide +kernel⟩, by decide⟩
theorem m_Mod_four : xVm Y_Mod_four 1 := ⟨lw_in 706 rfl (by decide +kernel), lw_in 705 rfl (by decide +kernel), lw_ip 25 rfl (by decide +kernel), kz_Mod, ⟨by decide +kernel, by decide +kernel, by decide +kernel⟩, by decide⟩
theorem m_Mod_get : xVm Y_Mod_get 0 := ⟨lw_in 799 rfl (by decide +kernel), lw_in 797 rfl (by decide +kernel), lw_in 798 rfl (by decide +kernel), kz_Mod, ⟨by decide +kernel, by decide +kernel, by decide +kernel⟩, by decide⟩
theorem m_Mod_give : xVm Y_Mod_give 5 := ⟨lw_in 879 rfl (by decide +kernel), lw_in 878 rfl (by decide +kernel), lw_ip 56 rfl (by decide +kernel), kz_Mod, ⟨by decide +kernel, by decide +kernel, by decide +kernel⟩, by decide⟩
theorem m_Mod_held : xVm Y_Mod_held 1 := ⟨lw_in 875 rfl (by decide +kernel), lw_in 874 rfl (by decide +kernel), lw_ip 55 rfl (by decide +kernel), kz_Mod, ⟨by decide +kernel, by decide +kernel, by decide +kernel⟩, by decide⟩
theorem m_Mod_here : xVm Y_Mod_here 0 := ⟨lw_in 730 rfl (by decide +kernel), lw_in 729 rfl (by decide +kernel), lw_ip 28 rfl (by decide +kernel), kz_Mod, ⟨by decide +kernel, by decide +kernel, by decide +kernel⟩, by decide⟩
theorem m_Mod_init : xIm Y_Mod_init 0 := ⟨lw_in 603 rfl (by decide +kernel), lw_in 602 rfl (by decide +kernel), rfl, kz_Mod, ⟨by decide +kernel, by decide +kernel, by decide +kernel⟩, by decide, rfl⟩
theorem m_Mod_isAlike : xVm Y_Mod_isAlike 2 := ⟨lw_in 771 rfl (by decide +kernel), lw_in 770 rfl (by decide +kernel), lw_ip 36 rfl (by decide +kernel), kz_Mod, ⟨by decide +kernel, by decide +kernel, by decide +kernel⟩, by decide⟩
theorem m_Mod_isDigit : xSm Y_Mod_isDigit 1 := ⟨lw_in 736 rfl (by decide +kernel), lw_in 735 rfl (by decide +kernel), kz_Mod, ⟨by decide +kernel, by decide +kernel, by decide +kernel⟩, by decide⟩
theorem m_Mod_isStem : xVm Y_Mod_isStem 1 := ⟨lw_in 767 rfl (by decide +kernel), lw_in 766 rfl (by decide +kernel), lw_ip 35 rfl (by decide +kernel), kz_Mod, ⟨by decide +kernel, by decide +kernel, by decide +kernel⟩, by decide⟩
theorem m_Mod_isSymbol : xSm Y_Mod_isSymbol 1 := ⟨lw_in 733 rfl (by decide +kernel), lw_in 732 rfl (by decide +kernel), kz_Mod, ⟨by decide +kernel, by decide +kernel, by decide +kernel⟩, by decide⟩
theorem m_Mod_known : xVm Y_Mod_known 0 := ⟨lw_in 811 rfl (by decide +kernel), lw_in 809 rfl (by decide +kernel), lw_in 810 rfl (by decide +kernel), kz_Mod, ⟨by decide +kernel, by decide +kernel, by decide +kernel⟩, by decide⟩
theorem m_Mod_look : xVm Y_Mod_look 0 := ⟨lw_in 867 rfl (by decide +kernel), lw_in 866 rfl (by decide +kernel), lw_ip 53 rfl (by decide +kernel), kz_Mod, ⟨by decide +kernel, by decide +kernel, by decide +kernel⟩, by decide⟩
theorem m_Mod_lose : xVm Y_Mod_lose 0 := ⟨lw_in 827 rfl (by decide +kernel), lw_in 826 rfl (by decide +kernel), lw_ip 47 rfl (by decide +kernel), kz_Mod, ⟨by decide +kernel, by decide +kernel, by decide +kernel⟩, by decide⟩
theorem m_Mod_name : xVm Y_Mod_name 1 := ⟨lw_in 883 rfl (by decide +kernel), lw_in 881 rfl (by decide +kernel), lw_in 882 rfl (by decide +kernel), kz_Mod, ⟨by decide +kernel, by decide +kernel, by decide +kernel⟩, by decide⟩
theorem m_Mod_nameOf : xVm Y_Mod_nameOf 2 := ⟨lw_in 744 rfl (by decide +kernel), lw_in 743 rfl (by decide +kernel), lw_ip 30 rfl (by decide +kernel), kz_Mod, ⟨by decide +kernel, by decide +kernel, by decide +kernel⟩, by decide⟩
theorem m_Mod_number : xVm Y_Mod_number 0 := ⟨lw_in 859 rfl (by decide +kernel), lw_in 858 rfl (by decide +kernel), lw_ip 51 rfl (by decide +kernel), kz_Mod, ⟨by decide +kernel, by decide +kernel, by decide +kernel⟩, by decide⟩
theorem m_Mod_one : xVm Y_Mod_one 0 := ⟨lw_in 803 rfl (by decide +kernel), lw_in 802 rfl (by decide +kernel), lw_ip 43 rfl (by decide +kernel), kz_Mod, ⟨by decide +kernel, by decide +kernel, by decide +kernel⟩, by decide⟩
theorem m_Mod_open : xVm Y_Mod_open 0 := ⟨lw_in 831 rfl (by decide +kernel), lw_in 829 rfl (by decide +kernel), lw_in 830 rfl (by decide +kernel), kz_Mod, ⟨by decide +kernel, by decide +kernel, by decide +kernel⟩, by decide⟩
theorem m_Mod_out : xVm Y_Mod_out 1 := ⟨lw_in 714 rfl (by decide +kernel), lw_in 712 rfl (by decide +kernel), lw_in 713 rfl (by decide +kernel), kz_Mod, ⟨by decide +kernel, by decide +kernel, by decide +kernel⟩, by decide⟩
theorem m_Mod_parse : xVm Y_Mod_parse 0 := ⟨lw_in 843 rfl (by decide +kernel), lw_in 841 rfl (by decide +kernel), lw_in 842 rfl (by decide +kernel), kz_Mod, ⟨by decide +kernel, by decide +kernel, by decide +kernel⟩, by decide⟩
theorem m_Mod_pattern : xVm Y_Mod_pattern 1 := ⟨lw_in 871 rfl (by decide +kernel), lw_in 870 rfl (by decide +kernel), lw_ip 54 rfl (by decide +kernel), kz_Mod, ⟨by decide +kernel, by decide +kernel, by decide +kernel⟩, by decide⟩
theorem m_Mod_place : xVm Y_Mod_place 1 := ⟨lw_in 795 rfl (by decide +kernel), lw_in 794 rfl (by decide +kernel), lw_ip 42 rfl (by decide +kernel), kz_Mod, ⟨by decide +kernel, by decide +kernel, by decide +kernel⟩, by decide⟩
theorem m_Mod_poolOf : xVm Y_Mod_poolOf 2 := ⟨lw_in 763 rfl (by decide +kernel), lw_in 762 rfl (by decide +kernel), lw_ip 34 rfl (by decide +kernel), kz_Mod, ⟨by decide +kernel, by decide +kernel, by decide +kernel⟩, by decide⟩
theorem m_Mod_remove : xVm Y_Mod_remove 1 := ⟨lw_in 791 rfl (by decide +kernel), lw_in 790 rfl (by decide +kernel), lw_ip 41 rfl (by decide +kernel), kz_Mod, ⟨by decide +kernel, by decide +kernel, by decide +kernel⟩, by decide⟩
theorem m_Mod_set : xVm Y_Mod_set 0 := ⟨lw_in 718 rfl (by decide +kernel), lw_in 716 rfl (by decide +kernel), lw_in 717 rfl (by decide +kernel), kz_Mod, ⟨by decide +kernel, by decide +kernel, by decide +kernel⟩, by decide⟩
theorem m_Mod_stem : xVm Y_Mod_stem 0 := ⟨lw_in 779 rfl (by decide +kernel), lw_in 778 rfl (by decide +kernel), lw_ip 38 rfl (by decide +kernel), kz_Mod, ⟨by decide +kernel, by decide +kernel, by decide +kernel⟩, by decide⟩
theorem m_Mod_string : xVm Y_Mod_string 0 := ⟨lw_in 855 rfl (by decide +kernel), lw_in 854 rfl (by decide +kernel), lw_ip 50 rfl (by decide +kernel), kz_Mod, ⟨by decide +kernel, by decide +kernel, by decide +kernel⟩, by decide⟩
theorem m_Mod_subject : xVm Y_Mod_subject 1 := ⟨lw_in 839 rfl (by decide +kernel), lw_in 837 rfl (by decide +kernel), lw_in 838 rfl (by decide +kernel), kz_Mod, ⟨by decide +kernel, by decide +kernel, by decide +kernel⟩, by decide⟩
theorem m_Mod_take : xVm Y_Mod_take 0 := ⟨lw_in 722 rfl (by decide +kernel), lw_in 721 rfl (by decide +kernel), lw_ip 26 rfl (by decide +kernel), kz_Mod, ⟨by decide +kernel, by decide +kernel, by decide +kernel⟩, by decide⟩
theorem m_Mod_tells : xVm Y_Mod_tells 0 := ⟨lw_in 759 rfl (by decide +kernel), lw_in 758 rfl (by decide +kernel), lw_ip 33 rfl (by decide +kernel), kz_Mod, ⟨by decide +kernel, by decide +kernel, by decide +kernel⟩, by decide⟩
theorem m_Mod_token : xVm Y_Mod_token 0 := ⟨lw_in 851 rfl (by decide +kernel), lw_in 850 rfl (by decide +kernel), lw_ip 49 rfl (by decide +kernel), kz_Mod, ⟨by decide +kernel, by decide +kernel, by decide +kernel⟩, by decide⟩
theorem m_Mod_told : xVm Y_Mod_told 2 := ⟨lw_in 751 rfl (by decide +kernel), lw_in 750 rfl (by decide +kernel), lw_ip 31 rfl (by decide +kernel), kz_Mod, ⟨by decide +kernel, by decide +kernel, by decide +kernel⟩, by decide⟩
theorem m_Mod_value : xVm Y_Mod_value 1 := ⟨lw_in 887 rfl (by decide +kernel), lw_in 885 rfl (by decide +kernel), lw_in 886 rfl (by decide +kernel), kz_Mod, ⟨by decide +kernel, by decide +kernel, by decide +kernel⟩, by decide⟩
theorem m_Mod_variable : xVm Y_Mod_variable 0 := ⟨lw_in 726 rfl (by decide +kernel), lw_in 725 rfl (by decide +kernel), lw_ip 27 rfl (by decide +kernel), kz_Mod, ⟨by decide +kernel, by decide +kernel, by decide +kernel⟩, by decide⟩
theorem m_Mod_variables : xVm Y_Mod_variables 1 := ⟨lw_in 819 rfl (by decide +kernel), lw_in 818 rfl (by decide +kernel), lw_ip 45 rfl (by decide +kernel), kz_Mod, ⟨by decide +kernel, by decide +kernel, by decide +kernel⟩, by decide⟩
theorem m_Mod_wordEnd : xVm Y_Mod_wordEnd 1 := ⟨lw_in 823 rfl (by decide +kernel), lw_in 822 rfl (by decide +kernel), lw_ip 46 rfl (by decide +kernel), kz_Mod, ⟨by decide +kernel, by decide +kernel, by decide +kernel⟩, by decide⟩
theorem m_Mod_write : xVm Y_Mod_write 3 := ⟨lw_in 807 rfl (by decide +kernel), lw_in 806 rfl (by decide +kernel), lw_ip 44 rfl (by decide +kernel), kz_Mod, ⟨by decide +kernel, by decide +kernel, by decide +kernel⟩, by decide⟩
theorem m_Nam_addTail : xVm Y_Nam_addTail 2 := ⟨lw_in 321 rfl (by decide +kernel), lw_in 320 rfl (by decide +kernel), lw_ip 5 rfl (by decide +kernel), kz_Nam, ⟨by decide +kernel, by decide +kernel, by decide +kernel⟩, by decide⟩
theorem m_Nam_capital : xSm Y_Nam_capital 1 := ⟨lw_in 317 rfl (by decide +kernel), lw_in 316 rfl (by decide +kernel), kz_Nam, ⟨by decide +kernel, by decide +kernel, by decide +kernel⟩, by decide⟩
theorem m_Nam_close : xVm Y_Nam_close 0 := ⟨lw_in 466 rfl (by decide +kernel), lw_in 464 rfl (by decide +kernel), lw_in 465 rfl (by decide +kernel), kz_Nam, ⟨by decide +kernel, by decide +kernel, by decide +kernel⟩, by decide⟩
theorem m_Nam_count : xVm Y_Nam_count 1 := ⟨lw_in 597 rfl (by decide +kernel), lw_in 595 rfl (by decide +kernel), lw_in 596 rfl (by decide +kernel), kz_Nam, ⟨by decide +kernel, by decide +kernel, by decide +kernel⟩, by decide⟩
theorem m_Nam_cutAt : xVm Y_Nam_cutAt 1 := ⟨lw_in 533 rfl (by decide +kernel), lw_in 532 rfl (by decide +kernel), lw_ip 22 rfl (by decide +kernel), kz_Nam, ⟨by decide +kernel, by decide +kernel, by decide +kernel⟩, by decide⟩
theorem m_Nam_drop : xVm Y_Nam_drop 0 := ⟨lw_in 418 rfl (by decide +kernel), lw_in 416 rfl (by decide +kernel), lw_in 417 rfl (by decide +kernel), kz_Nam, ⟨by decide +kernel, by decide +kernel, by decide +kernel⟩, by decide⟩
theorem m_Nam_end : xVm Y_Nam_end 1 := ⟨lw_in 249 rfl (by decide +kernel), lw_in 247 rfl (by decide +kernel), lw_in 248 rfl (by decide +kernel), kz_Nam, ⟨by decide +kernel, by decide +kernel, by decide +kernel⟩, by decide⟩
theorem m_Nam_enterPool : xVm Y_Nam_enterPool 0 := ⟨lw_in 438 rfl (by decide +kernel), lw_in 437 rfl (by decide +kernel), lw_ip 13 rfl (by decide +kernel), kz_Nam, ⟨by decide +kernel, by decide +kernel, by decide +kernel⟩, by decide⟩
theorem m_Nam_feed : xVm Y_Nam_feed 5 := ⟨lw_in 237 rfl (by decide +kernel), lw_in 235 rfl (by decide +kernel), lw_in 236 rfl (by decide +kernel), kz_Nam, ⟨by decide +kernel, by decide +kernel, by decide +kernel⟩, by decide⟩
theorem m_Nam_get : xVm Y_Nam_get 0 := ⟨lw_in 385 rfl (by decide +kernel), lw_in 383 rfl (by decide +kernel), lw_in 384 rfl (by decide +kernel), kz_Nam, ⟨by decide +kernel, by decide +kernel, by decide +kernel⟩, by decide⟩
theorem m_Nam_give : xVm Y_Nam_give 3 := ⟨lw_in 357 rfl (by decide +kernel), lw_in 356 rfl (by decide +kernel), lw_ip 6 rfl (by decide +kernel), kz_Nam, ⟨by decide +kernel, by decide +kernel, by decide +kernel⟩, by decide⟩
theorem m_Nam_handOver : xVm Y_Nam_handOver 2 := ⟨lw_in 572 rfl (by decide +kernel), lw_in 571 rfl (by decide +kernel), lw_ip 24 rfl (by decide +kernel), kz_Nam, ⟨by decide +kernel, by decide +kernel, by decide +kernel⟩, by decide⟩
theorem m_Nam_init : xIm Y_Nam_init 0 := ⟨lw_in 16 rfl (by decide +kernel), lw_in 15 rfl (by decide +kernel), rfl, kz_Nam, ⟨by decide +kernel, by decide +kernel, by decide +kernel⟩, by decide, rfl⟩
theorem m_Nam_isDigit : xSm Y_Nam_isDigit 1 := ⟨lw_in 280 rfl (by decide +kernel), lw_in 279 rfl (by decide +kernel), kz_Nam, ⟨by decide +kernel, by decide +kernel, by decide +kernel⟩, by decide⟩
theorem m_Nam_isSymbolByte : xSm Y_Nam_isSymbolByte 1 := ⟨lw_in 277 rfl (by decide +kernel), lw_in 276 rfl (by decide +kernel), kz_Nam, ⟨by decide +kernel, by decide +kernel, by decide +kernel⟩, by decide⟩
theorem m_Nam_known : xVm Y_Nam_known 0 := ⟨lw_in 414 rfl (by decide +kernel), lw_in 412 rfl (by decide +kernel), lw_in 413 rfl (by decide +kernel), kz_Nam, ⟨by decide +kernel, by decide +kernel, by decide +kernel⟩, by decide⟩
theorem m_Nam_name : xVm Y_Nam_name 1 := ⟨lw_in 585 rfl (by decide +kernel), lw_in 583 rfl (by decide +kernel), lw_in 584 rfl (by decide +kernel), kz_Nam, ⟨by decide +kernel, by decide +kernel, by decide +kernel⟩, by decide⟩
theorem m_Nam_open : xVm Y_Nam_open 0 := ⟨lw_in 434 rfl (by decide +kernel), lw_in 432 rfl (by decide +kernel), lw_in 433 rfl (by decide +kernel), kz_Nam, ⟨by decide +kernel, by decide +kernel, by decide +kernel⟩, by decide⟩
theorem m_Nam_out : xVm Y_Nam_out 1 := ⟨lw_in 253 rfl (by decide +kernel), lw_in 251 rfl (by decide +kernel), lw_in 252 rfl (by decide +kernel), kz_Nam, ⟨by decide +kernel, by decide +kernel, by decide +kernel⟩, by decide⟩
theorem m_Nam_parse : xVm Y_Nam_parse 0 := ⟨lw_in 485 rfl (by decide +kernel), lw_in 483 rfl (by decide +kernel), lw_in 484 rfl (by decide +kernel), kz_Nam, ⟨by decide +kernel, by decide +kernel, by decide +kernel⟩, by decide⟩
theorem m_Nam_set : xVm Y_Nam_set 0 := ⟨lw_in 261 rfl (by decide +kernel), lw_in 259 rfl (by decide +kernel), lw_in 260 rfl (by decide +kernel), kz_Nam, ⟨by decide +kernel, by decide +kernel, by decide +kernel⟩, by decide⟩
theorem m_Nam_stemOf : xVm Y_Nam_stemOf 1 := ⟨lw_in 401 rfl (by decide +kernel), lw_in 400 rfl (by decide +kernel), lw_ip 10 rfl (by decide +kernel), kz_Nam, ⟨by decide +kernel, by decide +kernel, by decide +kernel⟩, by decide⟩
theorem m_Nam_subject : xVm Y_Nam_subject 1 := ⟨lw_in 474 rfl (by decide +kernel), lw_in 472 rfl (by decide +kernel), lw_in 473 rfl (by decide +kernel), kz_Nam, ⟨by decide +kernel, by decide +kernel, by decide +kernel⟩, by decide⟩
theorem m_Nam_takeBack : xVm Y_Nam_takeBack 0 := ⟨lw_in 426 rfl (by decide +kernel), lw_in 425 rfl (by decide +kernel), lw_ip 12 rfl (by decide +kernel), kz_Nam, ⟨by decide +kernel, by decide +kernel, by decide +kernel⟩, by decide⟩
theorem m_Nam_textOf : xVm Y_Nam_textOf 1 := ⟨lw_in 409 rfl (by decide +kernel), lw_in 408 rfl (by decide +kernel), lw_ip 11 rfl (by decide +kernel), kz_Nam, ⟨by decide +kernel, by decide +kernel, by decide +kernel⟩, by decide⟩
theorem m_Nam_told : xVm Y_Nam_told 0 := ⟨lw_in 397 rfl (by decide +kernel), lw_in 396 rfl (by decide +kernel), lw_ip 9 rfl (by decide +kernel), kz_Nam, ⟨by decide +kernel, by decide +kernel, by decide +kernel⟩, by decide⟩
theorem m_Nam_value : xVm Y_Nam_value 1 := ⟨lw_in 593 rfl (by decide +kernel), lw_in 591 rfl (by decide +kernel), lw_in 592 rfl (by decide +kernel), kz_Nam, ⟨by decide +kernel, by decide +kernel, by decide +kernel⟩, by decide⟩
theorem m_Nam_workOut : xVm Y_Nam_workOut 1 := ⟨lw_in 293 rfl (by decide +kernel), lw_in 292 rfl (by decide +kernel), lw_ip 4 rfl (by decide +kernel), kz_Nam, ⟨by decide +kernel, by decide +kernel, by decide +kernel⟩, by decide⟩
theorem m_Nam_workOutAlone : xVm Y_Nam_workOutAlone 0 := ⟨lw_in 389 rfl (by decide +kernel), lw_in 388 rfl (by decide +kernel), lw_ip 8 rfl (by decide +kernel), kz_Nam, ⟨by decide +kernel, by decide +kernel, by decide +kernel⟩, by decide⟩
theorem m_Poo_enter : xVm Y_Poo_enter 0 := ⟨lw_in 442 rfl (by decide +kernel), lw_in 440 rfl (by decide +kernel), lw_in 441 rfl (by decide +kernel), kz_Poo, ⟨by decide +kernel, by decide +kernel, by decide +kernel⟩, by decide⟩
theorem m_Poo_init : xIm Y_Poo_init 0 := ⟨lw_in 133 rfl (by decide +kernel), lw_in 132 rfl (by decide +kernel), rfl, kz_Poo, ⟨by decide +kernel, by decide +kernel, by decide +kernel⟩, by decide, rfl⟩
theorem m_Poo_innermost : xVm Y_Poo_innermost 0 := ⟨lw_in 325 rfl (by decide +kernel), lw_in 323 rfl (by decide +kernel), lw_in 324 rfl (by decide +kernel), kz_Poo, ⟨by decide +kernel, by decide +kernel, by decide +kernel⟩, by decide⟩
theorem m_Poo_leave : xVm Y_Poo_leave 0 := ⟨lw_in 446 rfl (by decide +kernel), lw_in 444 rfl (by decide +kernel), lw_in 445 rfl (by decide +kernel), kz_Poo, ⟨by decide +kernel, by decide +kernel, by decide +kernel⟩, by decide⟩
theorem m_Poo_owner : xVm Y_Poo_owner 2 := ⟨lw_in 329 rfl (by decide +kernel), lw_in 327 rfl (by decide +kernel), lw_in 328 rfl (by decide +kernel), kz_Poo, ⟨by decide +kernel, by decide +kernel, by decide +kernel⟩, by decide⟩
theorem m_Poo_see : xVm Y_Poo_see 1 := ⟨lw_in 455 rfl (by decide +kernel), lw_in 453 rfl (by decide +kernel), lw_in 454 rfl (by decide +kernel), kz_Poo, ⟨by decide +kernel, by decide +kernel, by decide +kernel⟩, by decide⟩
theorem m_Poo_seenByInnermost : xVm Y_Poo_seenByInnermost 0 := ⟨lw_in 450 rfl (by decide +kernel), lw_in 448 rfl (by decide +kernel), lw_in 449 rfl (by decide +kernel), kz_Poo, ⟨by decide +kernel, by decide +kernel, by decide +kernel⟩, by decide⟩
theorem m_Poo_sees : xVm Y_Poo_sees 1 := ⟨lw_in 459 rfl (by decide +kernel), lw_in 458 rfl (by decide +kernel), lw_ip 14 rfl (by decide +kernel), kz_Poo, ⟨by decide +kernel, by decide +kernel, by decide +kernel⟩, by decide⟩
theorem m_Rea_add : xVm Y_Rea_add 3 := ⟨lw_in 289 rfl (by decide +kernel), lw_in 288 rfl (by decide +kernel), lw_ip 3 rfl (by decide +kernel), kz_Rea, ⟨by decide +kernel, by decide +kernel, by decide +kernel⟩, by decide⟩
theorem m_Rea_begin : xVm Y_Rea_begin 0 := ⟨lw_in 269 rfl (by decide +kernel), lw_in 268 rfl (by decide +kernel), lw_ip 0 rfl (by decide +kernel), kz_Rea, ⟨by decide +kernel, by decide +kernel, by decide +kernel⟩, by decide⟩
theorem m_Rea_copyString : xVm Y_Rea_copyString 2 := ⟨lw_in 538 rfl (by decide +kernel), lw_in 536 rfl (by decide +kernel), lw_in 537 rfl (by decide +kernel), kz_Rea, ⟨by decide +kernel, by decide +kernel, by decide +kernel⟩, by decide⟩
theorem m_Rea_fail : xVm Y_Rea_fail 1 := ⟨lw_in 285 rfl (by decide +kernel), lw_in 284 rfl (by decide +kernel), lw_ip 2 rfl (by decide +kernel), kz_Rea, ⟨by decide +kernel, by decide +kernel, by decide +kernel⟩, by decide⟩
theorem m_Rea_init : xIm Y_Rea_init 0 := ⟨lw_in 24 rfl (by decide +kernel), lw_in 23 rfl (by decide +kernel), rfl, kz_Rea, ⟨by decide +kernel, by decide +kernel, by decide +kernel⟩, by decide, rfl⟩
theorem m_Rea_isTarget : xVm Y_Rea_isTarget 1 := ⟨lw_in 525 rfl (by decide +kernel), lw_in 523 rfl (by decide +kernel), lw_in 524 rfl (by decide +kernel), kz_Rea, ⟨by decide +kernel, by decide +kernel, by decide +kernel⟩, by decide⟩
theorem m_Rea_kindOf : xVm Y_Rea_kindOf 1 := ⟨lw_in 529 rfl (by decide +kernel), lw_in 527 rfl (by decide +kernel), lw_in 528 rfl (by decide +kernel), kz_Rea, ⟨by decide +kernel, by decide +kernel, by decide +kernel⟩, by decide⟩
theorem m_Rea_numberOf : xVm Y_Rea_numberOf 1 := ⟨lw_in 559 rfl (by decide +kernel), lw_in 557 rfl (by decide +kernel), lw_in 558 rfl (by decide +kernel), kz_Rea, ⟨by decide +kernel, by decide +kernel, by decide +kernel⟩, by decide⟩
theorem m_Rea_readAlone : xVm Y_Rea_readAlone 0 := ⟨lw_in 393 rfl (by decide +kernel), lw_in 391 rfl (by decide +kernel), lw_in 392 rfl (by decide +kernel), kz_Rea, ⟨by decide +kernel, by decide +kernel, by decide +kernel⟩, by decide⟩
theorem m_Rea_readBareToken : xVm Y_Rea_readBareToken 1 := ⟨lw_in 517 rfl (by decide +kernel), lw_in 516 rfl (by decide +kernel), lw_ip 21 rfl (by decide +kernel), kz_Rea, ⟨by decide +kernel, by decide +kernel, by decide +kernel⟩, by decide⟩
theorem m_Rea_readBracket : xVm Y_Rea_readBracket 0 := ⟨lw_in 501 rfl (by decide +kernel), lw_in 500 rfl (by decide +kernel), lw_ip 17 rfl (by decide +kernel), kz_Rea, ⟨by decide +kernel, by decide +kernel, by decide +kernel⟩, by decide⟩
theorem m_Rea_readGift : xVm Y_Rea_readGift 0 := ⟨lw_in 265 rfl (by decide +kernel), lw_in 263 rfl (by decide +kernel), lw_in 264 rfl (by decide +kernel), kz_Rea, ⟨by decide +kernel, by decide +kernel, by decide +kernel⟩, by decide⟩
theorem m_Rea_readPlace : xVm Y_Rea_readPlace 1 := ⟨lw_in 513 rfl (by decide +kernel), lw_in 512 rfl (by decide +kernel), lw_ip 20 rfl (by decide +kernel), kz_Rea, ⟨by decide +kernel, by decide +kernel, by decide +kernel⟩, by decide⟩
theorem m_Rea_readSignedPlace : xVm Y_Rea_readSignedPlace 1 := ⟨lw_in 509 rfl (by decide +kernel), lw_in 508 rfl (by decide +kernel), lw_ip 19 rfl (by decide +kernel), kz_Rea, ⟨by decide +kernel, by decide +kernel, by decide +kernel⟩, by decide⟩
theorem m_Rea_readString : xVm Y_Rea_readString 1 := ⟨lw_in 497 rfl (by decide +kernel), lw_in 496 rfl (by decide +kernel), lw_ip 16 rfl (by decide +kernel), kz_Rea, ⟨by decide +kernel, by decide +kernel, by decide +kernel⟩, by decide⟩
theorem m_Rea_readTemplate : xVm Y_Rea_readTemplate 0 := ⟨lw_in 489 rfl (by decide +kernel), lw_in 487 rfl (by decide +kernel), lw_in 488 rfl (by decide +kernel), kz_Rea, ⟨by decide +kernel, by decide +kernel, by decide +kernel⟩, by decide⟩
theorem m_Rea_readToken : xVm Y_Rea_readToken 0 := ⟨lw_in 493 rfl (by decide +kernel), lw_in 492 rfl (by decide +kernel), lw_ip 15 rfl (by decide +kernel), kz_Rea, ⟨by decide +kernel, by decide +kernel, by decide +kernel⟩, by decide⟩
theorem m_Rea_readVariable : xVm Y_Rea_readVariable 1 := ⟨lw_in 273 rfl (by decide +kernel), lw_in 272 rfl (by decide +kernel), lw_ip 1 rfl (by decide +kernel), kz_Rea, ⟨by decide +kernel, by decide +kernel, by decide +kernel⟩, by decide⟩
theorem m_Rea_readVariables : xVm Y_Rea_readVariables 1 := ⟨lw_in 422 rfl (by decide +kernel), lw_in 420 rfl (by decide +kernel), lw_in 421 rfl (by decide +kernel), kz_Rea, ⟨by decide +kernel, by decide +kernel, by decide +kernel⟩, by decide⟩
theorem m_Rea_skipBlanks : xVm Y_Rea_skipBlanks 0 := ⟨lw_in 505 rfl (by decide +kernel), lw_in 504 rfl (by decide +kernel), lw_ip 18 rfl (by decide +kernel), kz_Rea, ⟨by decide +kernel, by decide +kernel, by decide +kernel⟩, by decide⟩
theorem m_Rea_startOf : xVm Y_Rea_startOf 1 := ⟨lw_in 297 rfl (by decide +kernel), lw_in 295 rfl (by decide +kernel), lw_in 296 rfl (by decide +kernel), kz_Rea, ⟨by decide +kernel, by decide +kernel, by decide +kernel⟩, by decide⟩
theorem m_Rea_stopOf : xVm Y_Rea_stopOf 1 := ⟨lw_in 301 rfl (by decide +kernel), lw_in 299 rfl (by decide +kernel), lw_in 300 rfl (by decide +kernel), kz_Rea, ⟨by decide +kernel, by decide +kernel, by decide +kernel⟩, by decide⟩
theorem m_Row_add : xVm Y_Row_add 1 := ⟨lw_in 245 rfl (by decide +kernel), lw_in 243 rfl (by decide +kernel), lw_in 244 rfl (by decide +kernel), kz_Row, ⟨by decide +kernel, by decide +kernel, by decide +kernel⟩, by decide⟩
theorem m_Row_addCapitals : xVm Y_Row_addCapitals 3 := ⟨lw_in 313 rfl (by decide +kernel), lw_in 311 rfl (by decide +kernel), lw_in 312 rfl (by decide +kernel), kz_Row, ⟨by decide +kernel, by decide +kernel, by decide +kernel⟩, by decide⟩
theorem m_Row_addInt : xVm Y_Row_addInt 1 := ⟨lw_in 241 rfl (by decide +kernel), lw_in 239 rfl (by decide +kernel), lw_in 240 rfl (by decide +kernel), kz_Row, ⟨by decide +kernel, by decide +kernel, by decide +kernel⟩, by decide⟩
theorem m_Row_addPart : xVm Y_Row_addPart 3 := ⟨lw_in 349 rfl (by decide +kernel), lw_in 347 rfl (by decide +kernel), lw_in 348 rfl (by decide +kernel), kz_Row, ⟨by decide +kernel, by decide +kernel, by decide +kernel⟩, by decide⟩
theorem m_Row_at : xVm Y_Row_at 1 := ⟨lw_in 257 rfl (by decide +kernel), lw_in 255 rfl (by decide +kernel), lw_in 256 rfl (by decide +kernel), kz_Row, ⟨by decide +kernel, by decide +kernel, by decide +kernel⟩, by decide⟩
theorem m_Row_become : xVm Y_Row_become 1 := ⟨lw_in 379 rfl (by decide +kernel), lw_in 377 rfl (by decide +kernel), lw_in 378 rfl (by decide +kernel), kz_Row, ⟨by decide +kernel, by decide +kernel, by decide +kernel⟩, by decide⟩
theorem m_Row_beginsWith : xVm Y_Row_beginsWith 1 := ⟨lw_in 340 rfl (by decide +kernel), lw_in 338 rfl (by decide +kernel), lw_in 339 rfl (by decide +kernel), kz_Row, ⟨by decide +kernel, by decide +kernel, by decide +kernel⟩, by decide⟩
theorem m_Row_clear : xVm Y_Row_clear 0 := ⟨lw_in 305 rfl (by decide +kernel), lw_in 303 rfl (by decide +kernel), lw_in 304 rfl (by decide +kernel), kz_Row, ⟨by decide +kernel, by decide +kernel, by decide +kernel⟩, by decide⟩
theorem m_Row_dotFrom : xVm Y_Row_dotFrom 2 := ⟨lw_in 309 rfl (by decide +kernel), lw_in 307 rfl (by decide +kernel), lw_in 308 rfl (by decide +kernel), kz_Row, ⟨by decide +kernel, by decide +kernel, by decide +kernel⟩, by decide⟩
theorem m_Row_init : xIm Y_Row_init 1 := ⟨lw_in 30 rfl (by decide +kernel), lw_in 29 rfl (by decide +kernel), rfl, kz_Row, ⟨by decide +kernel, by decide +kernel, by decide +kernel⟩, by decide, rfl⟩
theorem m_Row_isCompound : xVm Y_Row_isCompound 0 := ⟨lw_in 405 rfl (by decide +kernel), lw_in 403 rfl (by decide +kernel), lw_in 404 rfl (by decide +kernel), kz_Row, ⟨by decide +kernel, by decide +kernel, by decide +kernel⟩, by decide⟩
theorem m_Row_isStem : xVm Y_Row_isStem 0 := ⟨lw_in 361 rfl (by decide +kernel), lw_in 359 rfl (by decide +kernel), lw_in 360 rfl (by decide +kernel), kz_Row, ⟨by decide +kernel, by decide +kernel, by decide +kernel⟩, by decide⟩
theorem m_Row_standsAt : xVm Y_Row_standsAt 2 := ⟨lw_in 554 rfl (by decide +kernel), lw_in 552 rfl (by decide +kernel), lw_in 553 rfl (by decide +kernel), kz_Row, ⟨by decide +kernel, by decide +kernel, by decide +kernel⟩, by decide⟩
theorem m_She_clearBehind : xVm Y_She_clearBehind 2 := ⟨lw_in 366 rfl (by decide +kernel), lw_in 364 rfl (by decide +kernel), lw_in 365 rfl (by decide +kernel), kz_She, ⟨by decide +kernel, by decide +kernel, by decide +kernel⟩, by decide⟩
theorem m_She_clearPool : xVm Y_She_clearPool 1 := ⟨lw_in 470 rfl (by decide +kernel), lw_in 468 rfl (by decide +kernel), lw_in 469 rfl (by decide +kernel), kz_She, ⟨by decide +kernel, by decide +kernel, by decide +kernel⟩, by decide⟩
theorem m_She_entryAt : xVm Y_She_entryAt 1 := ⟨lw_in 589 rfl (by decide +kernel), lw_in 587 rfl (by decide +kernel), lw_in 588 rfl (by decide +kernel), kz_She, ⟨by decide +kernel, by decide +kernel, by decide +kernel⟩, by decide⟩
theorem m_She_find : xVm Y_She_find 2 := ⟨lw_in 344 rfl (by decide +kernel), lw_in 342 rfl (by decide +kernel), lw_in 343 rfl (by decide +kernel), kz_She, ⟨by decide +kernel, by decide +kernel, by decide +kernel⟩, by decide⟩
theorem m_She_findOrAdd : xVm Y_She_findOrAdd 2 := ⟨lw_in 374 rfl (by decide +kernel), lw_in 372 rfl (by decide +kernel), lw_in 373 rfl (by decide +kernel), kz_She, ⟨by decide +kernel, by decide +kernel, by decide +kernel⟩, by decide⟩
theorem m_She_init : xIm Y_She_init 0 := ⟨lw_in 85 rfl (by decide +kernel), lw_in 84 rfl (by decide +kernel), rfl, kz_She, ⟨by decide +kernel, by decide +kernel, by decide +kernel⟩, by decide, rfl⟩
theorem m_She_remove : xVm Y_She_remove 2 := ⟨lw_in 430 rfl (by decide +kernel), lw_in 428 rfl (by decide +kernel), lw_in 429 rfl (by decide +kernel), kz_She, ⟨by decide +kernel, by decide +kernel, by decide +kernel⟩, by decide⟩
theorem m_She_sweep : xVm Y_She_sweep 0 := ⟨lw_in 370 rfl (by decide +kernel), lw_in 369 rfl (by decide +kernel), lw_ip 7 rfl (by decide +kernel), kz_She, ⟨by decide +kernel, by decide +kernel, by decide +kernel⟩, by decide⟩
theorem m_Sig_holds : xVm Y_Sig_holds 1 := ⟨lw_in 336 rfl (by decide +kernel), lw_in 334 rfl (by decide +kernel), lw_in 335 rfl (by decide +kernel), kz_Sig, ⟨by decide +kernel, by decide +kernel, by decide +kernel⟩, by decide⟩
theorem m_Sig_init : xIm Y_Sig_init 0 := ⟨lw_in 140 rfl (by decide +kernel), lw_in 139 rfl (by decide +kernel), rfl, kz_Sig, ⟨by decide +kernel, by decide +kernel, by decide +kernel⟩, by decide, rfl⟩
theorem k_Row : xCl 0 R_Row F_Row 2 t_Row := ⟨rfl, ki_Row, kt_Row, kn_Row⟩
theorem k_Ent : xCl 1 R_Ent F_Ent 5 t_Ent := ⟨rfl, ki_Ent, kt_Ent, kn_Ent⟩
theorem k_She : xCl 2 R_She F_She 2 t_She := ⟨rfl, ki_She, kt_She, kn_She⟩
theorem k_Sig : xCl 3 R_Sig F_Sig 3 t_Sig := ⟨rfl, ki_Sig, kt_Sig, kn_Sig⟩
theorem k_Poo : xCl 4 R_Poo F_Poo 3 t_Poo := ⟨rfl, ki_Poo, kt_Poo, kn_Poo⟩
theorem k_Rea : xCl 5 R_Rea F_Rea 8 t_Rea := ⟨rfl, ki_Rea, kt_Rea, kn_Rea⟩
theorem k_Cut : xCl 6 R_Cut F_Cut 7 t_Cut := ⟨rfl, ki_Cut, kt_Cut, kn_Cut⟩
theorem k_Nam : xCl 7 R_Nam F_Nam 10 t_Nam := ⟨rfl, ki_Nam, kt_Nam, kn_Nam⟩
theorem k_Mod : xCl 8 R_Mod F_Mod 31 t_Mod := ⟨rfl, ki_Mod, kt_Mod, kn_Mod⟩
end
