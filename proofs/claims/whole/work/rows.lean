section
-- ===== PART A: goes FIRST, ahead of the names: the tables' words, and 'selects' of the private methods out of them =====
/-- a private method of a class that the tables say can be made, by its rows of tables_1 -/
def lw_okq (q : MethodName × Nat) : Prop := (q.1.cls ≠ "java/lang/invoke/MethodHandle" ∧ q.1.cls ≠ "java/lang/invoke/VarHandle") ∧ Cond.instantiable q.1.cls q.2 ∈ tables_1 ∧ Cond.privateMethod q.1 ∈ tables_1 ∧ Cond.instanceMethod q.1 ∈ tables_1
theorem lw_p0 : lw_okq (⟨"MostRooms", "found", "(I)I"⟩, 10) := ⟨⟨by decide +kernel, by decide +kernel⟩, List.mem_of_getElem? (i := 17) (by decide +kernel), List.mem_of_getElem? (i := 292) (by decide +kernel), List.mem_of_getElem? (i := 293) (by decide +kernel)⟩
theorem lw_p1 : lw_okq (⟨"MostRooms$Tape", "passLetters", "()V"⟩, 6) := ⟨⟨by decide +kernel, by decide +kernel⟩, List.mem_of_getElem? (i := 27) (by decide +kernel), List.mem_of_getElem? (i := 359) (by decide +kernel), List.mem_of_getElem? (i := 360) (by decide +kernel)⟩
theorem lw_p2 : lw_okq (⟨"MostRooms$Tape", "passFigures", "()V"⟩, 6) := ⟨⟨by decide +kernel, by decide +kernel⟩, List.mem_of_getElem? (i := 27) (by decide +kernel), List.mem_of_getElem? (i := 366) (by decide +kernel), List.mem_of_getElem? (i := 367) (by decide +kernel)⟩
theorem lw_p3 : lw_okq (⟨"MostRooms$Reader", "readRoom", "()Z"⟩, 5) := ⟨⟨by decide +kernel, by decide +kernel⟩, List.mem_of_getElem? (i := 57) (by decide +kernel), List.mem_of_getElem? (i := 370) (by decide +kernel), List.mem_of_getElem? (i := 371) (by decide +kernel)⟩
theorem lw_p4 : lw_okq (⟨"MostRooms$Reader", "readWord", "(Ljava/lang/String;Z)Z"⟩, 5) := ⟨⟨by decide +kernel, by decide +kernel⟩, List.mem_of_getElem? (i := 57) (by decide +kernel), List.mem_of_getElem? (i := 375) (by decide +kernel), List.mem_of_getElem? (i := 376) (by decide +kernel)⟩
theorem lw_p5 : lw_okq (⟨"MostRooms$Reader", "failed", "(I)Z"⟩, 5) := ⟨⟨by decide +kernel, by decide +kernel⟩, List.mem_of_getElem? (i := 57) (by decide +kernel), List.mem_of_getElem? (i := 431) (by decide +kernel), List.mem_of_getElem? (i := 432) (by decide +kernel)⟩
theorem lw_p6 : lw_okq (⟨"MostRooms$Reader", "readNumber", "(III)Z"⟩, 5) := ⟨⟨by decide +kernel, by decide +kernel⟩, List.mem_of_getElem? (i := 57) (by decide +kernel), List.mem_of_getElem? (i := 436) (by decide +kernel), List.mem_of_getElem? (i := 437) (by decide +kernel)⟩
theorem lw_p7 : lw_okq (⟨"MostRooms$Reader", "readEnd", "()Z"⟩, 5) := ⟨⟨by decide +kernel, by decide +kernel⟩, List.mem_of_getElem? (i := 57) (by decide +kernel), List.mem_of_getElem? (i := 440) (by decide +kernel), List.mem_of_getElem? (i := 441) (by decide +kernel)⟩
theorem lw_p8 : lw_okq (⟨"MostRooms$Reader", "readPart", "()Z"⟩, 5) := ⟨⟨by decide +kernel, by decide +kernel⟩, List.mem_of_getElem? (i := 57) (by decide +kernel), List.mem_of_getElem? (i := 444) (by decide +kernel), List.mem_of_getElem? (i := 445) (by decide +kernel)⟩
theorem lw_p9 : lw_okq (⟨"MostRooms$Reader", "readDoor", "()Z"⟩, 5) := ⟨⟨by decide +kernel, by decide +kernel⟩, List.mem_of_getElem? (i := 57) (by decide +kernel), List.mem_of_getElem? (i := 449) (by decide +kernel), List.mem_of_getElem? (i := 450) (by decide +kernel)⟩
theorem lw_p10 : lw_okq (⟨"MostRooms$Reader", "readCrowd", "()Z"⟩, 5) := ⟨⟨by decide +kernel, by decide +kernel⟩, List.mem_of_getElem? (i := 57) (by decide +kernel), List.mem_of_getElem? (i := 457) (by decide +kernel), List.mem_of_getElem? (i := 458) (by decide +kernel)⟩
theorem lw_p11 : lw_okq (⟨"MostRooms$Reader", "sortNamed", "()I"⟩, 5) := ⟨⟨by decide +kernel, by decide +kernel⟩, List.mem_of_getElem? (i := 57) (by decide +kernel), List.mem_of_getElem? (i := 462) (by decide +kernel), List.mem_of_getElem? (i := 463) (by decide +kernel)⟩
theorem lw_p12 : lw_okq (⟨"MostRooms$House", "countHeads", "()V"⟩, 14) := ⟨⟨by decide +kernel, by decide +kernel⟩, List.mem_of_getElem? (i := 63) (by decide +kernel), List.mem_of_getElem? (i := 503) (by decide +kernel), List.mem_of_getElem? (i := 504) (by decide +kernel)⟩
theorem lw_p13 : lw_okq (⟨"MostRooms$House", "goalOf", "(I)I"⟩, 14) := ⟨⟨by decide +kernel, by decide +kernel⟩, List.mem_of_getElem? (i := 63) (by decide +kernel), List.mem_of_getElem? (i := 507) (by decide +kernel), List.mem_of_getElem? (i := 508) (by decide +kernel)⟩
theorem lw_p14 : lw_okq (⟨"MostRooms", "tooManyHeads", "(LMostRooms$Row;II)Z"⟩, 10) := ⟨⟨by decide +kernel, by decide +kernel⟩, List.mem_of_getElem? (i := 17) (by decide +kernel), List.mem_of_getElem? (i := 519) (by decide +kernel), List.mem_of_getElem? (i := 520) (by decide +kernel)⟩
theorem lw_p15 : lw_okq (⟨"MostRooms$Future", "ringTimes", "(I)V"⟩, 7) := ⟨⟨by decide +kernel, by decide +kernel⟩, List.mem_of_getElem? (i := 179) (by decide +kernel), List.mem_of_getElem? (i := 585) (by decide +kernel), List.mem_of_getElem? (i := 586) (by decide +kernel)⟩
def lw_privs_1 : List (MethodName × Nat) := [(⟨"MostRooms", "found", "(I)I"⟩, 10), (⟨"MostRooms$Tape", "passLetters", "()V"⟩, 6), (⟨"MostRooms$Tape", "passFigures", "()V"⟩, 6), (⟨"MostRooms$Reader", "readRoom", "()Z"⟩, 5), (⟨"MostRooms$Reader", "readWord", "(Ljava/lang/String;Z)Z"⟩, 5), (⟨"MostRooms$Reader", "failed", "(I)Z"⟩, 5), (⟨"MostRooms$Reader", "readNumber", "(III)Z"⟩, 5), (⟨"MostRooms$Reader", "readEnd", "()Z"⟩, 5), (⟨"MostRooms$Reader", "readPart", "()Z"⟩, 5), (⟨"MostRooms$Reader", "readDoor", "()Z"⟩, 5), (⟨"MostRooms$Reader", "readCrowd", "()Z"⟩, 5), (⟨"MostRooms$Reader", "sortNamed", "()I"⟩, 5), (⟨"MostRooms$House", "countHeads", "()V"⟩, 14), (⟨"MostRooms$House", "goalOf", "(I)I"⟩, 14), (⟨"MostRooms", "tooManyHeads", "(LMostRooms$Row;II)Z"⟩, 10), (⟨"MostRooms$Future", "ringTimes", "(I)V"⟩, 7)]
theorem lw_r1 : ∀ q ∈ lw_privs_1, lw_okq q := List.forall_mem_cons.mpr ⟨lw_p0, List.forall_mem_cons.mpr ⟨lw_p1, List.forall_mem_cons.mpr ⟨lw_p2, List.forall_mem_cons.mpr ⟨lw_p3, List.forall_mem_cons.mpr ⟨lw_p4, List.forall_mem_cons.mpr ⟨lw_p5, List.forall_mem_cons.mpr ⟨lw_p6, List.forall_mem_cons.mpr ⟨lw_p7, List.forall_mem_cons.mpr ⟨lw_p8, List.forall_mem_cons.mpr ⟨lw_p9, List.forall_mem_cons.mpr ⟨lw_p10, List.forall_mem_cons.mpr ⟨lw_p11, List.forall_mem_cons.mpr ⟨lw_p12, List.forall_mem_cons.mpr ⟨lw_p13, List.forall_mem_cons.mpr ⟨lw_p14, List.forall_mem_cons.mpr ⟨lw_p15, fun _ h => absurd h List.not_mem_nil⟩⟩⟩⟩⟩⟩⟩⟩⟩⟩⟩⟩⟩⟩⟩⟩
theorem lw_p16 : lw_okq (⟨"MostRooms$Future", "allAsNow", "()Z"⟩, 7) := ⟨⟨by decide +kernel, by decide +kernel⟩, List.mem_of_getElem? (i := 179) (by decide +kernel), List.mem_of_getElem? (i := 617) (by decide +kernel), List.mem_of_getElem? (i := 618) (by decide +kernel)⟩
theorem lw_p17 : lw_okq (⟨"MostRooms", "fewest", "(IIIZ)I"⟩, 10) := ⟨⟨by decide +kernel, by decide +kernel⟩, List.mem_of_getElem? (i := 17) (by decide +kernel), List.mem_of_getElem? (i := 625) (by decide +kernel), List.mem_of_getElem? (i := 626) (by decide +kernel)⟩
theorem lw_p18 : lw_okq (⟨"MostRooms$Future", "succeeds", "(IIZII)Z"⟩, 7) := ⟨⟨by decide +kernel, by decide +kernel⟩, List.mem_of_getElem? (i := 179) (by decide +kernel), List.mem_of_getElem? (i := 633) (by decide +kernel), List.mem_of_getElem? (i := 634) (by decide +kernel)⟩
theorem lw_p19 : lw_okq (⟨"MostRooms$Future", "meet", "(III)Z"⟩, 7) := ⟨⟨by decide +kernel, by decide +kernel⟩, List.mem_of_getElem? (i := 179) (by decide +kernel), List.mem_of_getElem? (i := 654) (by decide +kernel), List.mem_of_getElem? (i := 655) (by decide +kernel)⟩
theorem lw_p20 : lw_okq (⟨"MostRooms$Future", "partedBy", "(IIIII)Z"⟩, 7) := ⟨⟨by decide +kernel, by decide +kernel⟩, List.mem_of_getElem? (i := 179) (by decide +kernel), List.mem_of_getElem? (i := 659) (by decide +kernel), List.mem_of_getElem? (i := 660) (by decide +kernel)⟩
theorem lw_p21 : lw_okq (⟨"MostRooms$Future", "findSources", "(I)V"⟩, 7) := ⟨⟨by decide +kernel, by decide +kernel⟩, List.mem_of_getElem? (i := 179) (by decide +kernel), List.mem_of_getElem? (i := 672) (by decide +kernel), List.mem_of_getElem? (i := 673) (by decide +kernel)⟩
theorem lw_p22 : lw_okq (⟨"MostRooms$Future", "seenFrom", "(I)I"⟩, 7) := ⟨⟨by decide +kernel, by decide +kernel⟩, List.mem_of_getElem? (i := 179) (by decide +kernel), List.mem_of_getElem? (i := 676) (by decide +kernel), List.mem_of_getElem? (i := 677) (by decide +kernel)⟩
theorem lw_p23 : lw_okq (⟨"MostRooms$Future", "canBegin", "(I)Z"⟩, 7) := ⟨⟨by decide +kernel, by decide +kernel⟩, List.mem_of_getElem? (i := 179) (by decide +kernel), List.mem_of_getElem? (i := 680) (by decide +kernel), List.mem_of_getElem? (i := 681) (by decide +kernel)⟩
theorem lw_p24 : lw_okq (⟨"MostRooms$Future", "countWay", "(I)V"⟩, 7) := ⟨⟨by decide +kernel, by decide +kernel⟩, List.mem_of_getElem? (i := 179) (by decide +kernel), List.mem_of_getElem? (i := 684) (by decide +kernel), List.mem_of_getElem? (i := 685) (by decide +kernel)⟩
theorem lw_p25 : lw_okq (⟨"MostRooms$Asks", "answer", "(III)I"⟩, 3) := ⟨⟨by decide +kernel, by decide +kernel⟩, List.mem_of_getElem? (i := 213) (by decide +kernel), List.mem_of_getElem? (i := 718) (by decide +kernel), List.mem_of_getElem? (i := 719) (by decide +kernel)⟩
theorem lw_p26 : lw_okq (⟨"MostRooms$Asks", "runBody", "(III)I"⟩, 3) := ⟨⟨by decide +kernel, by decide +kernel⟩, List.mem_of_getElem? (i := 213) (by decide +kernel), List.mem_of_getElem? (i := 730) (by decide +kernel), List.mem_of_getElem? (i := 731) (by decide +kernel)⟩
theorem lw_p27 : lw_okq (⟨"MostRooms$Asks", "leave", "(I)V"⟩, 3) := ⟨⟨by decide +kernel, by decide +kernel⟩, List.mem_of_getElem? (i := 213) (by decide +kernel), List.mem_of_getElem? (i := 734) (by decide +kernel), List.mem_of_getElem? (i := 735) (by decide +kernel)⟩
theorem lw_p28 : lw_okq (⟨"MostRooms", "countRows", "()I"⟩, 10) := ⟨⟨by decide +kernel, by decide +kernel⟩, List.mem_of_getElem? (i := 17) (by decide +kernel), List.mem_of_getElem? (i := 746) (by decide +kernel), List.mem_of_getElem? (i := 747) (by decide +kernel)⟩
theorem lw_p29 : lw_okq (⟨"MostRoomsModel", "finding", "(I)I"⟩, 32) := ⟨⟨by decide +kernel, by decide +kernel⟩, List.mem_of_getElem? (i := 754) (by decide +kernel), List.mem_of_getElem? (i := 871) (by decide +kernel), List.mem_of_getElem? (i := 872) (by decide +kernel)⟩
theorem lw_p30 : lw_okq (⟨"MostRoomsModel", "begin", "()V"⟩, 32) := ⟨⟨by decide +kernel, by decide +kernel⟩, List.mem_of_getElem? (i := 754) (by decide +kernel), List.mem_of_getElem? (i := 899) (by decide +kernel), List.mem_of_getElem? (i := 900) (by decide +kernel)⟩
theorem lw_p31 : lw_okq (⟨"MostRoomsModel", "next", "()V"⟩, 32) := ⟨⟨by decide +kernel, by decide +kernel⟩, List.mem_of_getElem? (i := 754) (by decide +kernel), List.mem_of_getElem? (i := 903) (by decide +kernel), List.mem_of_getElem? (i := 904) (by decide +kernel)⟩
def lw_privs_2 : List (MethodName × Nat) := [(⟨"MostRooms$Future", "allAsNow", "()Z"⟩, 7), (⟨"MostRooms", "fewest", "(IIIZ)I"⟩, 10), (⟨"MostRooms$Future", "succeeds", "(IIZII)Z"⟩, 7), (⟨"MostRooms$Future", "meet", "(III)Z"⟩, 7), (⟨"MostRooms$Future", "partedBy", "(IIIII)Z"⟩, 7), (⟨"MostRooms$Future", "findSources", "(I)V"⟩, 7), (⟨"MostRooms$Future", "seenFrom", "(I)I"⟩, 7), (⟨"MostRooms$Future", "canBegin", "(I)Z"⟩, 7), (⟨"MostRooms$Future", "countWay", "(I)V"⟩, 7), (⟨"MostRooms$Asks", "answer", "(III)I"⟩, 3), (⟨"MostRooms$Asks", "runBody", "(III)I"⟩, 3), (⟨"MostRooms$Asks", "leave", "(I)V"⟩, 3), (⟨"MostRooms", "countRows", "()I"⟩, 10), (⟨"MostRoomsModel", "finding", "(I)I"⟩, 32), (⟨"MostRoomsModel", "begin", "()V"⟩, 32), (⟨"MostRoomsModel", "next", "()V"⟩, 32)]
theorem lw_r2 : ∀ q ∈ lw_privs_2, lw_okq q := List.forall_mem_cons.mpr ⟨lw_p16, List.forall_mem_cons.mpr ⟨lw_p17, List.forall_mem_cons.mpr ⟨lw_p18, List.forall_mem_cons.mpr ⟨lw_p19, List.forall_mem_cons.mpr ⟨lw_p20, List.forall_mem_cons.mpr ⟨lw_p21, List.forall_mem_cons.mpr ⟨lw_p22, List.forall_mem_cons.mpr ⟨lw_p23, List.forall_mem_cons.mpr ⟨lw_p24, List.forall_mem_cons.mpr ⟨lw_p25, List.forall_mem_cons.mpr ⟨lw_p26, List.forall_mem_cons.mpr ⟨lw_p27, List.forall_mem_cons.mpr ⟨lw_p28, List.forall_mem_cons.mpr ⟨lw_p29, List.forall_mem_cons.mpr ⟨lw_p30, List.forall_mem_cons.mpr ⟨lw_p31, fun _ h => absurd h List.not_mem_nil⟩⟩⟩⟩⟩⟩⟩⟩⟩⟩⟩⟩⟩⟩⟩⟩
theorem lw_p32 : lw_okq (⟨"MostRoomsModel", "byteAt", "(I)I"⟩, 32) := ⟨⟨by decide +kernel, by decide +kernel⟩, List.mem_of_getElem? (i := 754) (by decide +kernel), List.mem_of_getElem? (i := 907) (by decide +kernel), List.mem_of_getElem? (i := 908) (by decide +kernel)⟩
theorem lw_p33 : lw_okq (⟨"MostRoomsModel", "name", "()J"⟩, 32) := ⟨⟨by decide +kernel, by decide +kernel⟩, List.mem_of_getElem? (i := 754) (by decide +kernel), List.mem_of_getElem? (i := 918) (by decide +kernel), List.mem_of_getElem? (i := 919) (by decide +kernel)⟩
theorem lw_p34 : lw_okq (⟨"MostRoomsModel", "bad", "(I)V"⟩, 32) := ⟨⟨by decide +kernel, by decide +kernel⟩, List.mem_of_getElem? (i := 754) (by decide +kernel), List.mem_of_getElem? (i := 923) (by decide +kernel), List.mem_of_getElem? (i := 924) (by decide +kernel)⟩
theorem lw_p35 : lw_okq (⟨"MostRoomsModel", "readRoom", "()V"⟩, 32) := ⟨⟨by decide +kernel, by decide +kernel⟩, List.mem_of_getElem? (i := 754) (by decide +kernel), List.mem_of_getElem? (i := 927) (by decide +kernel), List.mem_of_getElem? (i := 928) (by decide +kernel)⟩
theorem lw_p36 : lw_okq (⟨"MostRoomsModel", "begins", "(II)V"⟩, 32) := ⟨⟨by decide +kernel, by decide +kernel⟩, List.mem_of_getElem? (i := 754) (by decide +kernel), List.mem_of_getElem? (i := 931) (by decide +kernel), List.mem_of_getElem? (i := 932) (by decide +kernel)⟩
theorem lw_p37 : lw_okq (⟨"MostRoomsModel", "must", "(Z)V"⟩, 32) := ⟨⟨by decide +kernel, by decide +kernel⟩, List.mem_of_getElem? (i := 754) (by decide +kernel), List.mem_of_getElem? (i := 935) (by decide +kernel), List.mem_of_getElem? (i := 936) (by decide +kernel)⟩
theorem lw_p38 : lw_okq (⟨"MostRoomsModel", "number", "(II)I"⟩, 32) := ⟨⟨by decide +kernel, by decide +kernel⟩, List.mem_of_getElem? (i := 754) (by decide +kernel), List.mem_of_getElem? (i := 939) (by decide +kernel), List.mem_of_getElem? (i := 940) (by decide +kernel)⟩
theorem lw_p39 : lw_okq (⟨"MostRoomsModel", "figures", "()I"⟩, 32) := ⟨⟨by decide +kernel, by decide +kernel⟩, List.mem_of_getElem? (i := 754) (by decide +kernel), List.mem_of_getElem? (i := 943) (by decide +kernel), List.mem_of_getElem? (i := 944) (by decide +kernel)⟩
theorem lw_p40 : lw_okq (⟨"MostRoomsModel", "mustEnd", "()V"⟩, 32) := ⟨⟨by decide +kernel, by decide +kernel⟩, List.mem_of_getElem? (i := 754) (by decide +kernel), List.mem_of_getElem? (i := 947) (by decide +kernel), List.mem_of_getElem? (i := 948) (by decide +kernel)⟩
theorem lw_p41 : lw_okq (⟨"MostRoomsModel", "readDoor", "()V"⟩, 32) := ⟨⟨by decide +kernel, by decide +kernel⟩, List.mem_of_getElem? (i := 754) (by decide +kernel), List.mem_of_getElem? (i := 952) (by decide +kernel), List.mem_of_getElem? (i := 953) (by decide +kernel)⟩
theorem lw_p42 : lw_okq (⟨"MostRoomsModel", "readCrowd", "()V"⟩, 32) := ⟨⟨by decide +kernel, by decide +kernel⟩, List.mem_of_getElem? (i := 754) (by decide +kernel), List.mem_of_getElem? (i := 957) (by decide +kernel), List.mem_of_getElem? (i := 958) (by decide +kernel)⟩
theorem lw_p43 : lw_okq (⟨"MostRoomsModel", "isThere", "()Z"⟩, 32) := ⟨⟨by decide +kernel, by decide +kernel⟩, List.mem_of_getElem? (i := 754) (by decide +kernel), List.mem_of_getElem? (i := 978) (by decide +kernel), List.mem_of_getElem? (i := 979) (by decide +kernel)⟩
theorem lw_p44 : lw_okq (⟨"MostRoomsModel", "ring", "()I"⟩, 32) := ⟨⟨by decide +kernel, by decide +kernel⟩, List.mem_of_getElem? (i := 754) (by decide +kernel), List.mem_of_getElem? (i := 983) (by decide +kernel), List.mem_of_getElem? (i := 984) (by decide +kernel)⟩
theorem lw_p45 : lw_okq (⟨"MostRoomsModel", "keep", "()V"⟩, 32) := ⟨⟨by decide +kernel, by decide +kernel⟩, List.mem_of_getElem? (i := 754) (by decide +kernel), List.mem_of_getElem? (i := 987) (by decide +kernel), List.mem_of_getElem? (i := 988) (by decide +kernel)⟩
theorem lw_p46 : lw_okq (⟨"MostRoomsModel", "layNow", "()V"⟩, 32) := ⟨⟨by decide +kernel, by decide +kernel⟩, List.mem_of_getElem? (i := 754) (by decide +kernel), List.mem_of_getElem? (i := 991) (by decide +kernel), List.mem_of_getElem? (i := 992) (by decide +kernel)⟩
theorem lw_p47 : lw_okq (⟨"MostRoomsModel", "of", "(II)I"⟩, 32) := ⟨⟨by decide +kernel, by decide +kernel⟩, List.mem_of_getElem? (i := 754) (by decide +kernel), List.mem_of_getElem? (i := 995) (by decide +kernel), List.mem_of_getElem? (i := 996) (by decide +kernel)⟩
def lw_privs_3 : List (MethodName × Nat) := [(⟨"MostRoomsModel", "byteAt", "(I)I"⟩, 32), (⟨"MostRoomsModel", "name", "()J"⟩, 32), (⟨"MostRoomsModel", "bad", "(I)V"⟩, 32), (⟨"MostRoomsModel", "readRoom", "()V"⟩, 32), (⟨"MostRoomsModel", "begins", "(II)V"⟩, 32), (⟨"MostRoomsModel", "must", "(Z)V"⟩, 32), (⟨"MostRoomsModel", "number", "(II)I"⟩, 32), (⟨"MostRoomsModel", "figures", "()I"⟩, 32), (⟨"MostRoomsModel", "mustEnd", "()V"⟩, 32), (⟨"MostRoomsModel", "readDoor", "()V"⟩, 32), (⟨"MostRoomsModel", "readCrowd", "()V"⟩, 32), (⟨"MostRoomsModel", "isThere", "()Z"⟩, 32), (⟨"MostRoomsModel", "ring", "()I"⟩, 32), (⟨"MostRoomsModel", "keep", "()V"⟩, 32), (⟨"MostRoomsModel", "layNow", "()V"⟩, 32), (⟨"MostRoomsModel", "of", "(II)I"⟩, 32)]
theorem lw_r3 : ∀ q ∈ lw_privs_3, lw_okq q := List.forall_mem_cons.mpr ⟨lw_p32, List.forall_mem_cons.mpr ⟨lw_p33, List.forall_mem_cons.mpr ⟨lw_p34, List.forall_mem_cons.mpr ⟨lw_p35, List.forall_mem_cons.mpr ⟨lw_p36, List.forall_mem_cons.mpr ⟨lw_p37, List.forall_mem_cons.mpr ⟨lw_p38, List.forall_mem_cons.mpr ⟨lw_p39, List.forall_mem_cons.mpr ⟨lw_p40, List.forall_mem_cons.mpr ⟨lw_p41, List.forall_mem_cons.mpr ⟨lw_p42, List.forall_mem_cons.mpr ⟨lw_p43, List.forall_mem_cons.mpr ⟨lw_p44, List.forall_mem_cons.mpr ⟨lw_p45, List.forall_mem_cons.mpr ⟨lw_p46, List.forall_mem_cons.mpr ⟨lw_p47, fun _ h => absurd h List.not_mem_nil⟩⟩⟩⟩⟩⟩⟩⟩⟩⟩⟩⟩⟩⟩⟩⟩
theorem lw_p48 : lw_okq (⟨"MostRoomsModel", "goBell", "()I"⟩, 32) := ⟨⟨by decide +kernel, by decide +kernel⟩, List.mem_of_getElem? (i := 754) (by decide +kernel), List.mem_of_getElem? (i := 999) (by decide +kernel), List.mem_of_getElem? (i := 1000) (by decide +kernel)⟩
theorem lw_p49 : lw_okq (⟨"MostRoomsModel", "layCounts", "()V"⟩, 32) := ⟨⟨by decide +kernel, by decide +kernel⟩, List.mem_of_getElem? (i := 754) (by decide +kernel), List.mem_of_getElem? (i := 1003) (by decide +kernel), List.mem_of_getElem? (i := 1004) (by decide +kernel)⟩
theorem lw_p50 : lw_okq (⟨"MostRoomsModel", "goesTo", "(I)I"⟩, 32) := ⟨⟨by decide +kernel, by decide +kernel⟩, List.mem_of_getElem? (i := 754) (by decide +kernel), List.mem_of_getElem? (i := 1007) (by decide +kernel), List.mem_of_getElem? (i := 1008) (by decide +kernel)⟩
theorem lw_p51 : lw_okq (⟨"MostRoomsModel", "draws", "(II)I"⟩, 32) := ⟨⟨by decide +kernel, by decide +kernel⟩, List.mem_of_getElem? (i := 754) (by decide +kernel), List.mem_of_getElem? (i := 1011) (by decide +kernel), List.mem_of_getElem? (i := 1012) (by decide +kernel)⟩
theorem lw_p52 : lw_okq (⟨"MostRoomsModel", "haveRoom", "(II)Z"⟩, 32) := ⟨⟨by decide +kernel, by decide +kernel⟩, List.mem_of_getElem? (i := 754) (by decide +kernel), List.mem_of_getElem? (i := 1020) (by decide +kernel), List.mem_of_getElem? (i := 1021) (by decide +kernel)⟩
theorem lw_p53 : lw_okq (⟨"MostRoomsModel", "headsOfAll", "()I"⟩, 32) := ⟨⟨by decide +kernel, by decide +kernel⟩, List.mem_of_getElem? (i := 754) (by decide +kernel), List.mem_of_getElem? (i := 1024) (by decide +kernel), List.mem_of_getElem? (i := 1025) (by decide +kernel)⟩
theorem lw_p54 : lw_okq (⟨"MostRoomsModel", "isRoom", "(I)Z"⟩, 32) := ⟨⟨by decide +kernel, by decide +kernel⟩, List.mem_of_getElem? (i := 754) (by decide +kernel), List.mem_of_getElem? (i := 1032) (by decide +kernel), List.mem_of_getElem? (i := 1033) (by decide +kernel)⟩
theorem lw_p55 : lw_okq (⟨"MostRoomsModel", "isCrowd", "(I)Z"⟩, 32) := ⟨⟨by decide +kernel, by decide +kernel⟩, List.mem_of_getElem? (i := 754) (by decide +kernel), List.mem_of_getElem? (i := 1040) (by decide +kernel), List.mem_of_getElem? (i := 1041) (by decide +kernel)⟩
theorem lw_p56 : lw_okq (⟨"MostRoomsModel", "goBells", "(I)V"⟩, 32) := ⟨⟨by decide +kernel, by decide +kernel⟩, List.mem_of_getElem? (i := 754) (by decide +kernel), List.mem_of_getElem? (i := 1062) (by decide +kernel), List.mem_of_getElem? (i := 1063) (by decide +kernel)⟩
theorem lw_p57 : lw_okq (⟨"MostRoomsModel", "restIn", "()I"⟩, 32) := ⟨⟨by decide +kernel, by decide +kernel⟩, List.mem_of_getElem? (i := 754) (by decide +kernel), List.mem_of_getElem? (i := 1074) (by decide +kernel), List.mem_of_getElem? (i := 1075) (by decide +kernel)⟩
theorem lw_p58 : lw_okq (⟨"MostRoomsModel", "ringIn", "()I"⟩, 32) := ⟨⟨by decide +kernel, by decide +kernel⟩, List.mem_of_getElem? (i := 754) (by decide +kernel), List.mem_of_getElem? (i := 1078) (by decide +kernel), List.mem_of_getElem? (i := 1079) (by decide +kernel)⟩
theorem lw_p59 : lw_okq (⟨"MostRoomsModel", "hire", "(IIIZ)I"⟩, 32) := ⟨⟨by decide +kernel, by decide +kernel⟩, List.mem_of_getElem? (i := 754) (by decide +kernel), List.mem_of_getElem? (i := 1087) (by decide +kernel), List.mem_of_getElem? (i := 1088) (by decide +kernel)⟩
theorem lw_p60 : lw_okq (⟨"MostRoomsModel", "layHired", "(II)V"⟩, 32) := ⟨⟨by decide +kernel, by decide +kernel⟩, List.mem_of_getElem? (i := 754) (by decide +kernel), List.mem_of_getElem? (i := 1091) (by decide +kernel), List.mem_of_getElem? (i := 1092) (by decide +kernel)⟩
theorem lw_p61 : lw_okq (⟨"MostRoomsModel", "isSo", "(IZ)Z"⟩, 32) := ⟨⟨by decide +kernel, by decide +kernel⟩, List.mem_of_getElem? (i := 754) (by decide +kernel), List.mem_of_getElem? (i := 1095) (by decide +kernel), List.mem_of_getElem? (i := 1096) (by decide +kernel)⟩
theorem lw_p62 : lw_okq (⟨"MostRoomsModel", "areApart", "(IIII)Z"⟩, 32) := ⟨⟨by decide +kernel, by decide +kernel⟩, List.mem_of_getElem? (i := 754) (by decide +kernel), List.mem_of_getElem? (i := 1107) (by decide +kernel), List.mem_of_getElem? (i := 1108) (by decide +kernel)⟩
theorem lw_p63 : lw_okq (⟨"MostRoomsModel", "layBegan", "(I)V"⟩, 32) := ⟨⟨by decide +kernel, by decide +kernel⟩, List.mem_of_getElem? (i := 754) (by decide +kernel), List.mem_of_getElem? (i := 1117) (by decide +kernel), List.mem_of_getElem? (i := 1118) (by decide +kernel)⟩
def lw_privs_4 : List (MethodName × Nat) := [(⟨"MostRoomsModel", "goBell", "()I"⟩, 32), (⟨"MostRoomsModel", "layCounts", "()V"⟩, 32), (⟨"MostRoomsModel", "goesTo", "(I)I"⟩, 32), (⟨"MostRoomsModel", "draws", "(II)I"⟩, 32), (⟨"MostRoomsModel", "haveRoom", "(II)Z"⟩, 32), (⟨"MostRoomsModel", "headsOfAll", "()I"⟩, 32), (⟨"MostRoomsModel", "isRoom", "(I)Z"⟩, 32), (⟨"MostRoomsModel", "isCrowd", "(I)Z"⟩, 32), (⟨"MostRoomsModel", "goBells", "(I)V"⟩, 32), (⟨"MostRoomsModel", "restIn", "()I"⟩, 32), (⟨"MostRoomsModel", "ringIn", "()I"⟩, 32), (⟨"MostRoomsModel", "hire", "(IIIZ)I"⟩, 32), (⟨"MostRoomsModel", "layHired", "(II)V"⟩, 32), (⟨"MostRoomsModel", "isSo", "(IZ)Z"⟩, 32), (⟨"MostRoomsModel", "areApart", "(IIII)Z"⟩, 32), (⟨"MostRoomsModel", "layBegan", "(I)V"⟩, 32)]
theorem lw_r4 : ∀ q ∈ lw_privs_4, lw_okq q := List.forall_mem_cons.mpr ⟨lw_p48, List.forall_mem_cons.mpr ⟨lw_p49, List.forall_mem_cons.mpr ⟨lw_p50, List.forall_mem_cons.mpr ⟨lw_p51, List.forall_mem_cons.mpr ⟨lw_p52, List.forall_mem_cons.mpr ⟨lw_p53, List.forall_mem_cons.mpr ⟨lw_p54, List.forall_mem_cons.mpr ⟨lw_p55, List.forall_mem_cons.mpr ⟨lw_p56, List.forall_mem_cons.mpr ⟨lw_p57, List.forall_mem_cons.mpr ⟨lw_p58, List.forall_mem_cons.mpr ⟨lw_p59, List.forall_mem_cons.mpr ⟨lw_p60, List.forall_mem_cons.mpr ⟨lw_p61, List.forall_mem_cons.mpr ⟨lw_p62, List.forall_mem_cons.mpr ⟨lw_p63, fun _ h => absurd h List.not_mem_nil⟩⟩⟩⟩⟩⟩⟩⟩⟩⟩⟩⟩⟩⟩⟩⟩
theorem lw_p64 : lw_okq (⟨"MostRoomsModel", "sizeOf", "(I)I"⟩, 32) := ⟨⟨by decide +kernel, by decide +kernel⟩, List.mem_of_getElem? (i := 754) (by decide +kernel), List.mem_of_getElem? (i := 1145) (by decide +kernel), List.mem_of_getElem? (i := 1146) (by decide +kernel)⟩
theorem lw_p65 : lw_okq (⟨"MostRoomsModel", "staySize", "(I)I"⟩, 32) := ⟨⟨by decide +kernel, by decide +kernel⟩, List.mem_of_getElem? (i := 754) (by decide +kernel), List.mem_of_getElem? (i := 1149) (by decide +kernel), List.mem_of_getElem? (i := 1150) (by decide +kernel)⟩
theorem lw_p66 : lw_okq (⟨"MostRoomsModel", "stepped", "(I)V"⟩, 32) := ⟨⟨by decide +kernel, by decide +kernel⟩, List.mem_of_getElem? (i := 754) (by decide +kernel), List.mem_of_getElem? (i := 1153) (by decide +kernel), List.mem_of_getElem? (i := 1154) (by decide +kernel)⟩
theorem lw_p67 : lw_okq (⟨"MostRoomsModel", "plainSize", "(I)I"⟩, 32) := ⟨⟨by decide +kernel, by decide +kernel⟩, List.mem_of_getElem? (i := 754) (by decide +kernel), List.mem_of_getElem? (i := 1157) (by decide +kernel), List.mem_of_getElem? (i := 1158) (by decide +kernel)⟩
theorem lw_p68 : lw_okq (⟨"MostRoomsModel", "markOf", "(I)I"⟩, 32) := ⟨⟨by decide +kernel, by decide +kernel⟩, List.mem_of_getElem? (i := 754) (by decide +kernel), List.mem_of_getElem? (i := 1161) (by decide +kernel), List.mem_of_getElem? (i := 1162) (by decide +kernel)⟩
def lw_privs_5 : List (MethodName × Nat) := [(⟨"MostRoomsModel", "sizeOf", "(I)I"⟩, 32), (⟨"MostRoomsModel", "staySize", "(I)I"⟩, 32), (⟨"MostRoomsModel", "stepped", "(I)V"⟩, 32), (⟨"MostRoomsModel", "plainSize", "(I)I"⟩, 32), (⟨"MostRoomsModel", "markOf", "(I)I"⟩, 32)]
theorem lw_r5 : ∀ q ∈ lw_privs_5, lw_okq q := List.forall_mem_cons.mpr ⟨lw_p64, List.forall_mem_cons.mpr ⟨lw_p65, List.forall_mem_cons.mpr ⟨lw_p66, List.forall_mem_cons.mpr ⟨lw_p67, List.forall_mem_cons.mpr ⟨lw_p68, fun _ h => absurd h List.not_mem_nil⟩⟩⟩⟩⟩
def lw_privs : List (MethodName × Nat) := lw_privs_1 ++ (lw_privs_2 ++ (lw_privs_3 ++ (lw_privs_4 ++ (lw_privs_5))))
def lw_tbl : List Cond := k2_sels lw_privs ++ tables_1
theorem lw_privs_ok : ∀ q ∈ lw_privs, lw_okq q := by
  show ∀ q ∈ lw_privs_1 ++ (lw_privs_2 ++ (lw_privs_3 ++ (lw_privs_4 ++ (lw_privs_5)))), lw_okq q
  exact List.forall_mem_append.mpr ⟨lw_r1, List.forall_mem_append.mpr ⟨lw_r2, List.forall_mem_append.mpr ⟨lw_r3, List.forall_mem_append.mpr ⟨lw_r4, lw_r5⟩⟩⟩⟩
-- ===== end of PART A; then your names; then what follows =====
end
section
def RX0 : String := "MostRooms$Acts"
def TX0 : u_T := fun k => match k with
  | 0 => ("MostRooms$Acts", "kept", "[I", true)
  | 1 => ("MostRooms$Acts", "held", "I", false)
  | _ => ("MostRooms$Acts", "next", "I", false)
def tyX0 : Nat → FieldType := fun k => match k with
  | 0 => .array .int
  | 1 => .int
  | _ => .int
abbrev wsX00 : List Cond := u_ws RX0 TX0 3
theorem nmX0 : ∀ a, a < 3 → ∀ b, b < 3 → a ≠ b → (TX0 a).2.1 ≠ (TX0 b).2.1 := by decide +kernel
theorem tyX0_ok : ∀ k, k < 3 → parseFieldDescriptor (TX0 k).2.2.1 = some (tyX0 k) := by decide +kernel
abbrev cX0_init : ByteArray := prog_2_method_1_code
def yX0_init : MethodName := ⟨RX0, "<init>", "()V"⟩
abbrev cX0_keep : ByteArray := prog_2_method_2_code
def yX0_keep : MethodName := ⟨RX0, "keep", "(LMostRooms$House;)V"⟩
abbrev cX0_takeBack : ByteArray := prog_2_method_3_code
def yX0_takeBack : MethodName := ⟨RX0, "takeBack", "(LMostRooms$House;)V"⟩
abbrev cX0_forgetAll : ByteArray := prog_2_method_4_code
def yX0_forgetAll : MethodName := ⟨RX0, "forgetAll", "()V"⟩
def RX1 : String := "MostRooms$Asks"
def TX1 : u_T := fun k => match k with
  | 0 => ("MostRooms$Asks", "now", "LMostRooms$House;", true)
  | 1 => ("MostRooms$Asks", "trace", "[I", true)
  | _ => ("MostRooms$Asks", "left", "I", false)
def tyX1 : Nat → FieldType := fun k => match k with
  | 0 => .object "MostRooms$House"
  | 1 => .array .int
  | _ => .int
abbrev wsX10 : List Cond := u_ws RX1 TX1 3
theorem nmX1 : ∀ a, a < 3 → ∀ b, b < 3 → a ≠ b → (TX1 a).2.1 ≠ (TX1 b).2.1 := by decide +kernel
theorem tyX1_ok : ∀ k, k < 3 → parseFieldDescriptor (TX1 k).2.2.1 = some (tyX1 k) := by decide +kernel
abbrev cX1_init : ByteArray := prog_3_method_1_code
def yX1_init : MethodName := ⟨RX1, "<init>", "(LMostRooms$House;)V"⟩
abbrev cX1_askAnew : ByteArray := prog_3_method_2_code
def yX1_askAnew : MethodName := ⟨RX1, "askAnew", "(II)I"⟩
abbrev cX1_answer : ByteArray := prog_3_method_3_code
def yX1_answer : MethodName := ⟨RX1, "answer", "(III)I"⟩
abbrev cX1_runBody : ByteArray := prog_3_method_4_code
def yX1_runBody : MethodName := ⟨RX1, "runBody", "(III)I"⟩
abbrev cX1_leave : ByteArray := prog_3_method_5_code
def yX1_leave : MethodName := ⟨RX1, "leave", "(I)V"⟩
abbrev cX1_nearestBody : ByteArray := prog_3_method_6_code
def yX1_nearestBody : MethodName := ⟨RX1, "nearestBody", "(I[I)I"⟩
def RX2 : String := "MostRooms$Future"
def TX2 : u_T := fun k => match k with
  | 0 => ("MostRooms$Future", "now", "LMostRooms$House;", true)
  | 1 => ("MostRooms$Future", "copied", "LMostRooms$House;", true)
  | 2 => ("MostRooms$Future", "hiredHeads", "I", false)
  | 3 => ("MostRooms$Future", "hiredRoom", "I", false)
  | 4 => ("MostRooms$Future", "ways", "I", false)
  | 5 => ("MostRooms$Future", "first", "[I", true)
  | _ => ("MostRooms$Future", "sources", "[I", true)
def tyX2 : Nat → FieldType := fun k => match k with
  | 0 => .object "MostRooms$House"
  | 1 => .object "MostRooms$House"
  | 2 => .int
  | 3 => .int
  | 4 => .int
  | 5 => .array .int
  | _ => .array .int
abbrev wsX20 : List Cond := u_ws RX2 TX2 7
theorem nmX2 : ∀ a, a < 7 → ∀ b, b < 7 → a ≠ b → (TX2 a).2.1 ≠ (TX2 b).2.1 := by decide +kernel
theorem tyX2_ok : ∀ k, k < 7 → parseFieldDescriptor (TX2 k).2.2.1 = some (tyX2 k) := by decide +kernel
abbrev cX2_init : ByteArray := prog_4_method_1_code
def yX2_init : MethodName := ⟨RX2, "<init>", "(LMostRooms$House;)V"⟩
abbrev cX2_whereBehind : ByteArray := prog_4_method_2_code
def yX2_whereBehind : MethodName := ⟨RX2, "whereBehind", "(II)I"⟩
abbrev cX2_headsBehind : ByteArray := prog_4_method_3_code
def yX2_headsBehind : MethodName := ⟨RX2, "headsBehind", "(II)I"⟩
abbrev cX2_worth : ByteArray := prog_4_method_4_code
def yX2_worth : MethodName := ⟨RX2, "worth", "(II)I"⟩
abbrev cX2_bellsToRest : ByteArray := prog_4_method_5_code
def yX2_bellsToRest : MethodName := ⟨RX2, "bellsToRest", "()I"⟩
abbrev cX2_bellsToRing : ByteArray := prog_4_method_6_code
def yX2_bellsToRing : MethodName := ⟨RX2, "bellsToRing", "()I"⟩
abbrev cX2_findHired : ByteArray := prog_4_method_7_code
def yX2_findHired : MethodName := ⟨RX2, "findHired", "(IIZ)Z"⟩
abbrev cX2_doorToShut : ByteArray := prog_4_method_8_code
def yX2_doorToShut : MethodName := ⟨RX2, "doorToShut", "(III)I"⟩
abbrev cX2_findBeginnings : ByteArray := prog_4_method_9_code
def yX2_findBeginnings : MethodName := ⟨RX2, "findBeginnings", "(I)V"⟩
abbrev cX2_ringTimes : ByteArray := prog_4_method_10_code
def yX2_ringTimes : MethodName := ⟨RX2, "ringTimes", "(I)V"⟩
abbrev cX2_allAsNow : ByteArray := prog_4_method_11_code
def yX2_allAsNow : MethodName := ⟨RX2, "allAsNow", "()Z"⟩
abbrev cX2_succeeds : ByteArray := prog_4_method_12_code
def yX2_succeeds : MethodName := ⟨RX2, "succeeds", "(IIZII)Z"⟩
abbrev cX2_partedBy : ByteArray := prog_4_method_13_code
def yX2_partedBy : MethodName := ⟨RX2, "partedBy", "(IIIII)Z"⟩
abbrev cX2_meet : ByteArray := prog_4_method_14_code
def yX2_meet : MethodName := ⟨RX2, "meet", "(III)Z"⟩
abbrev cX2_findSources : ByteArray := prog_4_method_15_code
def yX2_findSources : MethodName := ⟨RX2, "findSources", "(I)V"⟩
abbrev cX2_seenFrom : ByteArray := prog_4_method_16_code
def yX2_seenFrom : MethodName := ⟨RX2, "seenFrom", "(I)I"⟩
abbrev cX2_canBegin : ByteArray := prog_4_method_17_code
def yX2_canBegin : MethodName := ⟨RX2, "canBegin", "(I)Z"⟩
abbrev cX2_countWay : ByteArray := prog_4_method_18_code
def yX2_countWay : MethodName := ⟨RX2, "countWay", "(I)V"⟩
def RX3 : String := "MostRooms$House"
def TX3 : u_T := fun k => match k with
  | 0 => ("MostRooms$House", "seats", "[I", true)
  | 1 => ("MostRooms$House", "seen", "[I", true)
  | 2 => ("MostRooms$House", "before", "[I", true)
  | 3 => ("MostRooms$House", "sort", "[I", true)
  | 4 => ("MostRooms$House", "at", "[I", true)
  | 5 => ("MostRooms$House", "heads", "[I", true)
  | 6 => ("MostRooms$House", "rooms", "I", false)
  | 7 => ("MostRooms$House", "crowds", "I", false)
  | 8 => ("MostRooms$House", "gone", "I", false)
  | 9 => ("MostRooms$House", "guests", "I", false)
  | 10 => ("MostRooms$House", "guestRoom", "I", false)
  | 11 => ("MostRooms$House", "in", "[I", true)
  | 12 => ("MostRooms$House", "alike", "[I", true)
  | _ => ("MostRooms$House", "goals", "[I", true)
def tyX3 : Nat → FieldType := fun k => match k with
  | 0 => .array .int
  | 1 => .array .int
  | 2 => .array .int
  | 3 => .array .int
  | 4 => .array .int
  | 5 => .array .int
  | 6 => .int
  | 7 => .int
  | 8 => .int
  | 9 => .int
  | 10 => .int
  | 11 => .array .int
  | 12 => .array .int
  | _ => .array .int
abbrev wsX30 : List Cond := u_ws RX3 TX3 14
theorem nmX3 : ∀ a, a < 14 → ∀ b, b < 14 → a ≠ b → (TX3 a).2.1 ≠ (TX3 b).2.1 := by decide +kernel
theorem tyX3_ok : ∀ k, k < 14 → parseFieldDescriptor (TX3 k).2.2.1 = some (tyX3 k) := by decide +kernel
abbrev cX3_init : ByteArray := prog_5_method_1_code
def yX3_init : MethodName := ⟨RX3, "<init>", "()V"⟩
abbrev cX3_clear : ByteArray := prog_5_method_2_code
def yX3_clear : MethodName := ⟨RX3, "clear", "()V"⟩
abbrev cX3_take : ByteArray := prog_5_method_3_code
def yX3_take : MethodName := ⟨RX3, "take", "(LMostRooms$House;)V"⟩
abbrev cX3_isRoom : ByteArray := prog_5_method_4_code
def yX3_isRoom : MethodName := ⟨RX3, "isRoom", "(I)Z"⟩
abbrev cX3_isCrowd : ByteArray := prog_5_method_5_code
def yX3_isCrowd : MethodName := ⟨RX3, "isCrowd", "(I)Z"⟩
abbrev cX3_doorBetween : ByteArray := prog_5_method_6_code
def yX3_doorBetween : MethodName := ⟨RX3, "doorBetween", "(II)I"⟩
abbrev cX3_putDoor : ByteArray := prog_5_method_7_code
def yX3_putDoor : MethodName := ⟨RX3, "putDoor", "(III)V"⟩
abbrev cX3_headsIn : ByteArray := prog_5_method_8_code
def yX3_headsIn : MethodName := ⟨RX3, "headsIn", "(I)I"⟩
abbrev cX3_allHeads : ByteArray := prog_5_method_9_code
def yX3_allHeads : MethodName := ⟨RX3, "allHeads", "()I"⟩
abbrev cX3_addHeads : ByteArray := prog_5_method_10_code
def yX3_addHeads : MethodName := ⟨RX3, "addHeads", "(I)V"⟩
abbrev cX3_hire : ByteArray := prog_5_method_11_code
def yX3_hire : MethodName := ⟨RX3, "hire", "(II)V"⟩
abbrev cX3_ring : ByteArray := prog_5_method_12_code
def yX3_ring : MethodName := ⟨RX3, "ring", "()I"⟩
abbrev cX3_countHeads : ByteArray := prog_5_method_13_code
def yX3_countHeads : MethodName := ⟨RX3, "countHeads", "()V"⟩
abbrev cX3_goalOf : ByteArray := prog_5_method_14_code
def yX3_goalOf : MethodName := ⟨RX3, "goalOf", "(I)I"⟩
def RX4 : String := "MostRooms$Reader"
def TX4 : u_T := fun k => match k with
  | 0 => ("MostRooms$Reader", "tape", "LMostRooms$Tape;", true)
  | 1 => ("MostRooms$Reader", "plan", "LMostRooms$House;", true)
  | 2 => ("MostRooms$Reader", "part", "I", false)
  | 3 => ("MostRooms$Reader", "doors", "I", false)
  | _ => ("MostRooms$Reader", "faultNumber", "I", false)
def tyX4 : Nat → FieldType := fun k => match k with
  | 0 => .object "MostRooms$Tape"
  | 1 => .object "MostRooms$House"
  | 2 => .int
  | 3 => .int
  | _ => .int
abbrev wsX40 : List Cond := u_ws RX4 TX4 5
theorem nmX4 : ∀ a, a < 5 → ∀ b, b < 5 → a ≠ b → (TX4 a).2.1 ≠ (TX4 b).2.1 := by decide +kernel
theorem tyX4_ok : ∀ k, k < 5 → parseFieldDescriptor (TX4 k).2.2.1 = some (tyX4 k) := by decide +kernel
abbrev cX4_init : ByteArray := prog_6_method_1_code
def yX4_init : MethodName := ⟨RX4, "<init>", "(LMostRooms$Tape;)V"⟩
abbrev cX4_readTape : ByteArray := prog_6_method_2_code
def yX4_readTape : MethodName := ⟨RX4, "readTape", "()Z"⟩
abbrev cX4_readPart : ByteArray := prog_6_method_3_code
def yX4_readPart : MethodName := ⟨RX4, "readPart", "()Z"⟩
abbrev cX4_readRoom : ByteArray := prog_6_method_4_code
def yX4_readRoom : MethodName := ⟨RX4, "readRoom", "()Z"⟩
abbrev cX4_readDoor : ByteArray := prog_6_method_5_code
def yX4_readDoor : MethodName := ⟨RX4, "readDoor", "()Z"⟩
abbrev cX4_readCrowd : ByteArray := prog_6_method_6_code
def yX4_readCrowd : MethodName := ⟨RX4, "readCrowd", "()Z"⟩
abbrev cX4_readWord : ByteArray := prog_6_method_7_code
def yX4_readWord : MethodName := ⟨RX4, "readWord", "(Ljava/lang/String;Z)Z"⟩
abbrev cX4_readNumber : ByteArray := prog_6_method_8_code
def yX4_readNumber : MethodName := ⟨RX4, "readNumber", "(III)Z"⟩
abbrev cX4_readEnd : ByteArray := prog_6_method_9_code
def yX4_readEnd : MethodName := ⟨RX4, "readEnd", "()Z"⟩
abbrev cX4_sortNamed : ByteArray := prog_6_method_10_code
def yX4_sortNamed : MethodName := ⟨RX4, "sortNamed", "()I"⟩
abbrev cX4_failed : ByteArray := prog_6_method_11_code
def yX4_failed : MethodName := ⟨RX4, "failed", "(I)Z"⟩
def RX5 : String := "MostRooms$Row"
def TX5 : u_T := fun k => match k with
  | 0 => ("MostRooms$Row", "items", "[I", true)
  | 1 => ("MostRooms$Row", "there", "Z", false)
  | 2 => ("MostRooms$Row", "lane", "I", false)
  | _ => ("MostRooms$Row", "size", "I", false)
def tyX5 : Nat → FieldType := fun k => match k with
  | 0 => .array .int
  | 1 => .boolean
  | 2 => .int
  | _ => .int
abbrev wsX50 : List Cond := u_ws RX5 TX5 4
theorem nmX5 : ∀ a, a < 4 → ∀ b, b < 4 → a ≠ b → (TX5 a).2.1 ≠ (TX5 b).2.1 := by decide +kernel
theorem tyX5_ok : ∀ k, k < 4 → parseFieldDescriptor (TX5 k).2.2.1 = some (tyX5 k) := by decide +kernel
abbrev cX5_init : ByteArray := prog_7_method_1_code
def yX5_init : MethodName := ⟨RX5, "<init>", "()V"⟩
abbrev cX5_make : ByteArray := prog_7_method_2_code
def yX5_make : MethodName := ⟨RX5, "make", "(II)V"⟩
abbrev cX5_holds : ByteArray := prog_7_method_3_code
def yX5_holds : MethodName := ⟨RX5, "holds", "(II)Z"⟩
abbrev cX5_put : ByteArray := prog_7_method_4_code
def yX5_put : MethodName := ⟨RX5, "put", "(II)I"⟩
abbrev cX5_holdsSets : ByteArray := prog_7_method_5_code
def yX5_holdsSets : MethodName := ⟨RX5, "holdsSets", "(III)Z"⟩
abbrev cX5_countBit : ByteArray := prog_7_method_6_code
def yX5_countBit : MethodName := ⟨RX5, "countBit", "(III)I"⟩
def RX6 : String := "MostRooms$Tape"
def TX6 : u_T := fun k => match k with
  | 0 => ("MostRooms$Tape", "bytes", "[I", true)
  | 1 => ("MostRooms$Tape", "size", "I", false)
  | 2 => ("MostRooms$Tape", "token", "I", false)
  | 3 => ("MostRooms$Tape", "start", "I", false)
  | 4 => ("MostRooms$Tape", "next", "I", false)
  | _ => ("MostRooms$Tape", "value", "I", false)
def tyX6 : Nat → FieldType := fun k => match k with
  | 0 => .array .int
  | 1 => .int
  | 2 => .int
  | 3 => .int
  | 4 => .int
  | _ => .int
abbrev wsX60 : List Cond := u_ws RX6 TX6 6
theorem nmX6 : ∀ a, a < 6 → ∀ b, b < 6 → a ≠ b → (TX6 a).2.1 ≠ (TX6 b).2.1 := by decide +kernel
theorem tyX6_ok : ∀ k, k < 6 → parseFieldDescriptor (TX6 k).2.2.1 = some (tyX6 k) := by decide +kernel
abbrev cX6_init : ByteArray := prog_8_method_1_code
def yX6_init : MethodName := ⟨RX6, "<init>", "()V"⟩
abbrev cX6_append : ByteArray := prog_8_method_2_code
def yX6_append : MethodName := ⟨RX6, "append", "(JI)V"⟩
abbrev cX6_rewind : ByteArray := prog_8_method_3_code
def yX6_rewind : MethodName := ⟨RX6, "rewind", "()V"⟩
abbrev cX6_step : ByteArray := prog_8_method_4_code
def yX6_step : MethodName := ⟨RX6, "step", "()V"⟩
abbrev cX6_isWord : ByteArray := prog_8_method_5_code
def yX6_isWord : MethodName := ⟨RX6, "isWord", "(Ljava/lang/String;)Z"⟩
abbrev cX6_passLetters : ByteArray := prog_8_method_6_code
def yX6_passLetters : MethodName := ⟨RX6, "passLetters", "()V"⟩
abbrev cX6_passFigures : ByteArray := prog_8_method_7_code
def yX6_passFigures : MethodName := ⟨RX6, "passFigures", "()V"⟩
abbrev cX6_isBlank : ByteArray := prog_8_method_8_code
def yX6_isBlank : MethodName := ⟨RX6, "isBlank", "(I)Z"⟩
abbrev cX6_isLetter : ByteArray := prog_8_method_9_code
def yX6_isLetter : MethodName := ⟨RX6, "isLetter", "(I)Z"⟩
abbrev cX6_isFigure : ByteArray := prog_8_method_10_code
def yX6_isFigure : MethodName := ⟨RX6, "isFigure", "(I)Z"⟩
def RX7 : String := "MostRooms"
def TX7 : u_T := fun k => match k with
  | 0 => ("MostRooms", "rows", "[LMostRooms$Row;", true)
  | 1 => ("MostRooms", "tape", "LMostRooms$Tape;", true)
  | 2 => ("MostRooms", "reader", "LMostRooms$Reader;", true)
  | 3 => ("MostRooms", "now", "LMostRooms$House;", true)
  | 4 => ("MostRooms", "images", "[LMostRooms$House;", true)
  | 5 => ("MostRooms", "acts", "LMostRooms$Acts;", true)
  | 6 => ("MostRooms", "future", "LMostRooms$Future;", true)
  | 7 => ("MostRooms", "asks", "LMostRooms$Asks;", true)
  | 8 => ("MostRooms", "faultNumber", "I", false)
  | _ => ("MostRooms", "finding", "I", false)
def tyX7 : Nat → FieldType := fun k => match k with
  | 0 => .array (.object "MostRooms$Row")
  | 1 => .object "MostRooms$Tape"
  | 2 => .object "MostRooms$Reader"
  | 3 => .object "MostRooms$House"
  | 4 => .array (.object "MostRooms$House")
  | 5 => .object "MostRooms$Acts"
  | 6 => .object "MostRooms$Future"
  | 7 => .object "MostRooms$Asks"
  | 8 => .int
  | _ => .int
abbrev wsX70 : List Cond := u_ws RX7 TX7 10
theorem nmX7 : ∀ a, a < 10 → ∀ b, b < 10 → a ≠ b → (TX7 a).2.1 ≠ (TX7 b).2.1 := by decide +kernel
theorem tyX7_ok : ∀ k, k < 10 → parseFieldDescriptor (TX7 k).2.2.1 = some (tyX7 k) := by decide +kernel
abbrev cX7_init : ByteArray := prog_1_method_1_code
def yX7_init : MethodName := ⟨RX7, "<init>", "()V"⟩
abbrev cX7_row : ByteArray := prog_1_method_2_code
def yX7_row : MethodName := ⟨RX7, "row", "(III)I"⟩
abbrev cX7_set : ByteArray := prog_1_method_3_code
def yX7_set : MethodName := ⟨RX7, "set", "(III)I"⟩
abbrev cX7_copy : ByteArray := prog_1_method_4_code
def yX7_copy : MethodName := ⟨RX7, "copy", "(IIIII)I"⟩
abbrev cX7_drop : ByteArray := prog_1_method_5_code
def yX7_drop : MethodName := ⟨RX7, "drop", "(I)I"⟩
abbrev cX7_feed : ByteArray := prog_1_method_6_code
def yX7_feed : MethodName := ⟨RX7, "feed", "(JI)I"⟩
abbrev cX7_house : ByteArray := prog_1_method_7_code
def yX7_house : MethodName := ⟨RX7, "house", "()I"⟩
abbrev cX7_fault : ByteArray := prog_1_method_8_code
def yX7_fault : MethodName := ⟨RX7, "fault", "()I"⟩
abbrev cX7_bell : ByteArray := prog_1_method_9_code
def yX7_bell : MethodName := ⟨RX7, "bell", "()I"⟩
abbrev cX7_bells : ByteArray := prog_1_method_10_code
def yX7_bells : MethodName := ⟨RX7, "bells", "(III)I"⟩
abbrev cX7_door : ByteArray := prog_1_method_11_code
def yX7_door : MethodName := ⟨RX7, "door", "(III)I"⟩
abbrev cX7_heads : ByteArray := prog_1_method_12_code
def yX7_heads : MethodName := ⟨RX7, "heads", "(II)I"⟩
abbrev cX7_undo : ByteArray := prog_1_method_13_code
def yX7_undo : MethodName := ⟨RX7, "undo", "()I"⟩
abbrev cX7_crowd : ByteArray := prog_1_method_14_code
def yX7_crowd : MethodName := ⟨RX7, "crowd", "(II)I"⟩
abbrev cX7_room : ByteArray := prog_1_method_15_code
def yX7_room : MethodName := ⟨RX7, "room", "(II)I"⟩
abbrev cX7_ahead : ByteArray := prog_1_method_16_code
def yX7_ahead : MethodName := ⟨RX7, "ahead", "(II)I"⟩
abbrev cX7_roomAhead : ByteArray := prog_1_method_17_code
def yX7_roomAhead : MethodName := ⟨RX7, "roomAhead", "(III)I"⟩
abbrev cX7_rest : ByteArray := prog_1_method_18_code
def yX7_rest : MethodName := ⟨RX7, "rest", "(I)I"⟩
abbrev cX7_hired : ByteArray := prog_1_method_19_code
def yX7_hired : MethodName := ⟨RX7, "hired", "(III)I"⟩
abbrev cX7_empty : ByteArray := prog_1_method_20_code
def yX7_empty : MethodName := ⟨RX7, "empty", "(III)I"⟩
abbrev cX7_apart : ByteArray := prog_1_method_21_code
def yX7_apart : MethodName := ⟨RX7, "apart", "(III)I"⟩
abbrev cX7_began : ByteArray := prog_1_method_22_code
def yX7_began : MethodName := ⟨RX7, "began", "(II)I"⟩
abbrev cX7_image : ByteArray := prog_1_method_23_code
def yX7_image : MethodName := ⟨RX7, "image", "(I)I"⟩
abbrev cX7_restore : ByteArray := prog_1_method_24_code
def yX7_restore : MethodName := ⟨RX7, "restore", "(I)I"⟩
abbrev cX7_kind : ByteArray := prog_1_method_25_code
def yX7_kind : MethodName := ⟨RX7, "kind", "(I)I"⟩
abbrev cX7_as : ByteArray := prog_1_method_26_code
def yX7_as : MethodName := ⟨RX7, "as", "(II)I"⟩
abbrev cX7_ask : ByteArray := prog_1_method_27_code
def yX7_ask : MethodName := ⟨RX7, "ask", "(II)I"⟩
abbrev cX7_trace : ByteArray := prog_1_method_28_code
def yX7_trace : MethodName := ⟨RX7, "trace", "(I)I"⟩
abbrev cX7_count : ByteArray := prog_1_method_29_code
def yX7_count : MethodName := ⟨RX7, "count", "(I)I"⟩
abbrev cX7_status : ByteArray := prog_1_method_30_code
def yX7_status : MethodName := ⟨RX7, "status", "()I"⟩
abbrev cX7_isRow : ByteArray := prog_1_method_31_code
def yX7_isRow : MethodName := ⟨RX7, "isRow", "(I)Z"⟩
abbrev cX7_found : ByteArray := prog_1_method_32_code
def yX7_found : MethodName := ⟨RX7, "found", "(I)I"⟩
abbrev cX7_countRows : ByteArray := prog_1_method_33_code
def yX7_countRows : MethodName := ⟨RX7, "countRows", "()I"⟩
abbrev cX7_tooManyHeads : ByteArray := prog_1_method_34_code
def yX7_tooManyHeads : MethodName := ⟨RX7, "tooManyHeads", "(LMostRooms$Row;II)Z"⟩
abbrev cX7_fewest : ByteArray := prog_1_method_35_code
def yX7_fewest : MethodName := ⟨RX7, "fewest", "(IIIZ)I"⟩
abbrev cX7_isA : ByteArray := prog_1_method_36_code
def yX7_isA : MethodName := ⟨RX7, "isA", "(II)Z"⟩
def RX8 : String := "MostRoomsModel"
def TX8 : u_T := fun k => match k with
  | 0 => ("MostRoomsModel", "thrown", "I", false)
  | 1 => ("MostRoomsModel", "status", "I", false)
  | 2 => ("MostRoomsModel", "lane", "[I", true)
  | 3 => ("MostRoomsModel", "many", "[I", true)
  | 4 => ("MostRoomsModel", "item", "[I", true)
  | 5 => ("MostRoomsModel", "house", "[I", true)
  | 6 => ("MostRoomsModel", "fresh", "[I", true)
  | 7 => ("MostRoomsModel", "was", "[I", true)
  | 8 => ("MostRoomsModel", "acts", "I", false)
  | 9 => ("MostRoomsModel", "tape", "[I", true)
  | 10 => ("MostRoomsModel", "taped", "I", false)
  | 11 => ("MostRoomsModel", "latest", "I", false)
  | 12 => ("MostRoomsModel", "length", "I", false)
  | 13 => ("MostRoomsModel", "cursor", "I", false)
  | 14 => ("MostRoomsModel", "token", "I", false)
  | 15 => ("MostRoomsModel", "start", "I", false)
  | 16 => ("MostRoomsModel", "till", "I", false)
  | 17 => ("MostRoomsModel", "fault", "I", false)
  | 18 => ("MostRoomsModel", "faultAt", "I", false)
  | 19 => ("MostRoomsModel", "where", "[I", true)
  | 20 => ("MostRoomsModel", "goal", "[I", true)
  | 21 => ("MostRoomsModel", "seen", "[I", true)
  | 22 => ("MostRoomsModel", "now", "[I", true)
  | 23 => ("MostRoomsModel", "alike", "[I", true)
  | 24 => ("MostRoomsModel", "before", "[I", true)
  | 25 => ("MostRoomsModel", "gone", "I", false)
  | 26 => ("MostRoomsModel", "hiredIn", "I", false)
  | 27 => ("MostRoomsModel", "hiredMany", "I", false)
  | 28 => ("MostRoomsModel", "isKept", "[Z", true)
  | 29 => ("MostRoomsModel", "kept", "[I", true)
  | 30 => ("MostRoomsModel", "trace", "[I", true)
  | _ => ("MostRoomsModel", "traced", "I", false)
def tyX8 : Nat → FieldType := fun k => match k with
  | 0 => .int
  | 1 => .int
  | 2 => .array .int
  | 3 => .array .int
  | 4 => .array .int
  | 5 => .array .int
  | 6 => .array .int
  | 7 => .array .int
  | 8 => .int
  | 9 => .array .int
  | 10 => .int
  | 11 => .int
  | 12 => .int
  | 13 => .int
  | 14 => .int
  | 15 => .int
  | 16 => .int
  | 17 => .int
  | 18 => .int
  | 19 => .array .int
  | 20 => .array .int
  | 21 => .array .int
  | 22 => .array .int
  | 23 => .array .int
  | 24 => .array .int
  | 25 => .int
  | 26 => .int
  | 27 => .int
  | 28 => .array .boolean
  | 29 => .array .int
  | 30 => .array .int
  | _ => .int
abbrev wsX80 : List Cond := u_ws RX8 TX8 32
theorem nmX8 : ∀ a, a < 32 → ∀ b, b < 32 → a ≠ b → (TX8 a).2.1 ≠ (TX8 b).2.1 := by decide +kernel
theorem tyX8_ok : ∀ k, k < 32 → parseFieldDescriptor (TX8 k).2.2.1 = some (tyX8 k) := by decide +kernel
abbrev cX8_init : ByteArray := prog_10_method_1_code
def yX8_init : MethodName := ⟨RX8, "<init>", "()V"⟩
abbrev cX8_in : ByteArray := prog_10_method_3_code
def yX8_in : MethodName := ⟨RX8, "in", "(JJJ)Z"⟩
abbrev cX8_finding : ByteArray := prog_10_method_4_code
def yX8_finding : MethodName := ⟨RX8, "finding", "(I)I"⟩
abbrev cX8_isRow : ByteArray := prog_10_method_5_code
def yX8_isRow : MethodName := ⟨RX8, "isRow", "(I)Z"⟩
abbrev cX8_row : ByteArray := prog_10_method_6_code
def yX8_row : MethodName := ⟨RX8, "row", "(III)I"⟩
abbrev cX8_set : ByteArray := prog_10_method_7_code
def yX8_set : MethodName := ⟨RX8, "set", "(III)I"⟩
abbrev cX8_copy : ByteArray := prog_10_method_8_code
def yX8_copy : MethodName := ⟨RX8, "copy", "(IIIII)I"⟩
abbrev cX8_drop : ByteArray := prog_10_method_9_code
def yX8_drop : MethodName := ⟨RX8, "drop", "(I)I"⟩
abbrev cX8_feed : ByteArray := prog_10_method_10_code
def yX8_feed : MethodName := ⟨RX8, "feed", "(JI)I"⟩
abbrev cX8_byteAt : ByteArray := prog_10_method_11_code
def yX8_byteAt : MethodName := ⟨RX8, "byteAt", "(I)I"⟩
abbrev cX8_isLetter : ByteArray := prog_10_method_12_code
def yX8_isLetter : MethodName := ⟨RX8, "isLetter", "(I)Z"⟩
abbrev cX8_isFigure : ByteArray := prog_10_method_13_code
def yX8_isFigure : MethodName := ⟨RX8, "isFigure", "(I)Z"⟩
abbrev cX8_next : ByteArray := prog_10_method_14_code
def yX8_next : MethodName := ⟨RX8, "next", "()V"⟩
abbrev cX8_begin : ByteArray := prog_10_method_15_code
def yX8_begin : MethodName := ⟨RX8, "begin", "()V"⟩
abbrev cX8_bad : ByteArray := prog_10_method_16_code
def yX8_bad : MethodName := ⟨RX8, "bad", "(I)V"⟩
abbrev cX8_must : ByteArray := prog_10_method_17_code
def yX8_must : MethodName := ⟨RX8, "must", "(Z)V"⟩
abbrev cX8_name : ByteArray := prog_10_method_18_code
def yX8_name : MethodName := ⟨RX8, "name", "()J"⟩
abbrev cX8_figures : ByteArray := prog_10_method_19_code
def yX8_figures : MethodName := ⟨RX8, "figures", "()I"⟩
abbrev cX8_number : ByteArray := prog_10_method_20_code
def yX8_number : MethodName := ⟨RX8, "number", "(II)I"⟩
abbrev cX8_kindBy : ByteArray := prog_10_method_21_code
def yX8_kindBy : MethodName := ⟨RX8, "kindBy", "(J)I"⟩
abbrev cX8_mustEnd : ByteArray := prog_10_method_22_code
def yX8_mustEnd : MethodName := ⟨RX8, "mustEnd", "()V"⟩
abbrev cX8_begins : ByteArray := prog_10_method_23_code
def yX8_begins : MethodName := ⟨RX8, "begins", "(II)V"⟩
abbrev cX8_readRoom : ByteArray := prog_10_method_24_code
def yX8_readRoom : MethodName := ⟨RX8, "readRoom", "()V"⟩
abbrev cX8_readDoor : ByteArray := prog_10_method_25_code
def yX8_readDoor : MethodName := ⟨RX8, "readDoor", "()V"⟩
abbrev cX8_readCrowd : ByteArray := prog_10_method_26_code
def yX8_readCrowd : MethodName := ⟨RX8, "readCrowd", "()V"⟩
abbrev cX8_house : ByteArray := prog_10_method_27_code
def yX8_house : MethodName := ⟨RX8, "house", "()I"⟩
abbrev cX8_fault : ByteArray := prog_10_method_28_code
def yX8_fault : MethodName := ⟨RX8, "fault", "()I"⟩
abbrev cX8_isThere : ByteArray := prog_10_method_29_code
def yX8_isThere : MethodName := ⟨RX8, "isThere", "()Z"⟩
abbrev cX8_isRoom : ByteArray := prog_10_method_30_code
def yX8_isRoom : MethodName := ⟨RX8, "isRoom", "(I)Z"⟩
abbrev cX8_isCrowd : ByteArray := prog_10_method_31_code
def yX8_isCrowd : MethodName := ⟨RX8, "isCrowd", "(I)Z"⟩
abbrev cX8_of : ByteArray := prog_10_method_32_code
def yX8_of : MethodName := ⟨RX8, "of", "(II)I"⟩
abbrev cX8_layNow : ByteArray := prog_10_method_33_code
def yX8_layNow : MethodName := ⟨RX8, "layNow", "()V"⟩
abbrev cX8_layCounts : ByteArray := prog_10_method_34_code
def yX8_layCounts : MethodName := ⟨RX8, "layCounts", "()V"⟩
abbrev cX8_draws : ByteArray := prog_10_method_35_code
def yX8_draws : MethodName := ⟨RX8, "draws", "(II)I"⟩
abbrev cX8_goesTo : ByteArray := prog_10_method_36_code
def yX8_goesTo : MethodName := ⟨RX8, "goesTo", "(I)I"⟩
abbrev cX8_goBell : ByteArray := prog_10_method_37_code
def yX8_goBell : MethodName := ⟨RX8, "goBell", "()I"⟩
abbrev cX8_goBells : ByteArray := prog_10_method_38_code
def yX8_goBells : MethodName := ⟨RX8, "goBells", "(I)V"⟩
abbrev cX8_keep : ByteArray := prog_10_method_39_code
def yX8_keep : MethodName := ⟨RX8, "keep", "()V"⟩
abbrev cX8_ring : ByteArray := prog_10_method_40_code
def yX8_ring : MethodName := ⟨RX8, "ring", "()I"⟩
abbrev cX8_bell : ByteArray := prog_10_method_41_code
def yX8_bell : MethodName := ⟨RX8, "bell", "()I"⟩
abbrev cX8_headsOfAll : ByteArray := prog_10_method_42_code
def yX8_headsOfAll : MethodName := ⟨RX8, "headsOfAll", "()I"⟩
abbrev cX8_haveRoom : ByteArray := prog_10_method_43_code
def yX8_haveRoom : MethodName := ⟨RX8, "haveRoom", "(II)Z"⟩
abbrev cX8_bells : ByteArray := prog_10_method_44_code
def yX8_bells : MethodName := ⟨RX8, "bells", "(III)I"⟩
abbrev cX8_door : ByteArray := prog_10_method_45_code
def yX8_door : MethodName := ⟨RX8, "door", "(III)I"⟩
abbrev cX8_heads : ByteArray := prog_10_method_46_code
def yX8_heads : MethodName := ⟨RX8, "heads", "(II)I"⟩
abbrev cX8_undo : ByteArray := prog_10_method_47_code
def yX8_undo : MethodName := ⟨RX8, "undo", "()I"⟩
abbrev cX8_crowd : ByteArray := prog_10_method_48_code
def yX8_crowd : MethodName := ⟨RX8, "crowd", "(II)I"⟩
abbrev cX8_room : ByteArray := prog_10_method_49_code
def yX8_room : MethodName := ⟨RX8, "room", "(II)I"⟩
abbrev cX8_ahead : ByteArray := prog_10_method_50_code
def yX8_ahead : MethodName := ⟨RX8, "ahead", "(II)I"⟩
abbrev cX8_roomAhead : ByteArray := prog_10_method_51_code
def yX8_roomAhead : MethodName := ⟨RX8, "roomAhead", "(III)I"⟩
abbrev cX8_restIn : ByteArray := prog_10_method_52_code
def yX8_restIn : MethodName := ⟨RX8, "restIn", "()I"⟩
abbrev cX8_ringIn : ByteArray := prog_10_method_53_code
def yX8_ringIn : MethodName := ⟨RX8, "ringIn", "()I"⟩
abbrev cX8_rest : ByteArray := prog_10_method_54_code
def yX8_rest : MethodName := ⟨RX8, "rest", "(I)I"⟩
abbrev cX8_layHired : ByteArray := prog_10_method_55_code
def yX8_layHired : MethodName := ⟨RX8, "layHired", "(II)V"⟩
abbrev cX8_isSo : ByteArray := prog_10_method_56_code
def yX8_isSo : MethodName := ⟨RX8, "isSo", "(IZ)Z"⟩
abbrev cX8_hire : ByteArray := prog_10_method_57_code
def yX8_hire : MethodName := ⟨RX8, "hire", "(IIIZ)I"⟩
abbrev cX8_hired : ByteArray := prog_10_method_58_code
def yX8_hired : MethodName := ⟨RX8, "hired", "(III)I"⟩
abbrev cX8_empty : ByteArray := prog_10_method_59_code
def yX8_empty : MethodName := ⟨RX8, "empty", "(III)I"⟩
abbrev cX8_areApart : ByteArray := prog_10_method_60_code
def yX8_areApart : MethodName := ⟨RX8, "areApart", "(IIII)Z"⟩
abbrev cX8_apart : ByteArray := prog_10_method_61_code
def yX8_apart : MethodName := ⟨RX8, "apart", "(III)I"⟩
abbrev cX8_layBegan : ByteArray := prog_10_method_62_code
def yX8_layBegan : MethodName := ⟨RX8, "layBegan", "(I)V"⟩
abbrev cX8_began : ByteArray := prog_10_method_63_code
def yX8_began : MethodName := ⟨RX8, "began", "(II)I"⟩
abbrev cX8_image : ByteArray := prog_10_method_64_code
def yX8_image : MethodName := ⟨RX8, "image", "(I)I"⟩
abbrev cX8_restore : ByteArray := prog_10_method_65_code
def yX8_restore : MethodName := ⟨RX8, "restore", "(I)I"⟩
abbrev cX8_isOf : ByteArray := prog_10_method_66_code
def yX8_isOf : MethodName := ⟨RX8, "isOf", "(II)Z"⟩
abbrev cX8_kind : ByteArray := prog_10_method_67_code
def yX8_kind : MethodName := ⟨RX8, "kind", "(I)I"⟩
abbrev cX8_as : ByteArray := prog_10_method_68_code
def yX8_as : MethodName := ⟨RX8, "as", "(II)I"⟩
abbrev cX8_stepped : ByteArray := prog_10_method_69_code
def yX8_stepped : MethodName := ⟨RX8, "stepped", "(I)V"⟩
abbrev cX8_plainSize : ByteArray := prog_10_method_70_code
def yX8_plainSize : MethodName := ⟨RX8, "plainSize", "(I)I"⟩
abbrev cX8_staySize : ByteArray := prog_10_method_71_code
def yX8_staySize : MethodName := ⟨RX8, "staySize", "(I)I"⟩
abbrev cX8_markOf : ByteArray := prog_10_method_72_code
def yX8_markOf : MethodName := ⟨RX8, "markOf", "(I)I"⟩
abbrev cX8_sizeOf : ByteArray := prog_10_method_73_code
def yX8_sizeOf : MethodName := ⟨RX8, "sizeOf", "(I)I"⟩
abbrev cX8_ask : ByteArray := prog_10_method_74_code
def yX8_ask : MethodName := ⟨RX8, "ask", "(II)I"⟩
abbrev cX8_trace : ByteArray := prog_10_method_75_code
def yX8_trace : MethodName := ⟨RX8, "trace", "(I)I"⟩
abbrev cX8_count : ByteArray := prog_10_method_76_code
def yX8_count : MethodName := ⟨RX8, "count", "(I)I"⟩
abbrev cX8_status : ByteArray := prog_10_method_77_code
def yX8_status : MethodName := ⟨RX8, "status", "()I"⟩
abbrev cL_law : ByteArray := code
end
section
/-! decode rows: X0 -/
theorem dX0_init_0 : decode cX0_init 0 = .ok (.aload_n 0, 1) := by decide +kernel
theorem dX0_init_1 : decode cX0_init 1 = .ok (.invokespecial 5, 3) := by decide +kernel
theorem dX0_init_4 : decode cX0_init 4 = .ok (.aload_n 0, 1) := by decide +kernel
theorem dX0_init_5 : decode cX0_init 5 = .ok (.sipush 552, 3) := by decide +kernel
theorem dX0_init_8 : decode cX0_init 8 = .ok (.newarray .int, 2) := by decide +kernel
theorem dX0_init_10 : decode cX0_init 10 = .ok (.putfield 11, 3) := by decide +kernel
theorem dX0_init_13 : decode cX0_init 13 = .ok (.return_, 1) := by decide +kernel
theorem dX0_keep_0 : decode cX0_keep 0 = .ok (.aload_n 0, 1) := by decide +kernel
theorem dX0_keep_1 : decode cX0_keep 1 = .ok (.getfield 15, 3) := by decide +kernel
theorem dX0_keep_4 : decode cX0_keep 4 = .ok (.bipush 23, 2) := by decide +kernel
theorem dX0_keep_6 : decode cX0_keep 6 = .ok (.imul, 1) := by decide +kernel
theorem dX0_keep_7 : decode cX0_keep 7 = .ok (.istore_n 2, 1) := by decide +kernel
theorem dX0_keep_8 : decode cX0_keep 8 = .ok (.aload_n 1, 1) := by decide +kernel
theorem dX0_keep_9 : decode cX0_keep 9 = .ok (.getfield 19, 3) := by decide +kernel
theorem dX0_keep_12 : decode cX0_keep 12 = .ok (.iconst 0, 1) := by decide +kernel
theorem dX0_keep_13 : decode cX0_keep 13 = .ok (.aload_n 0, 1) := by decide +kernel
theorem dX0_keep_14 : decode cX0_keep 14 = .ok (.getfield 11, 3) := by decide +kernel
theorem dX0_keep_17 : decode cX0_keep 17 = .ok (.iload_n 2, 1) := by decide +kernel
theorem dX0_keep_18 : decode cX0_keep 18 = .ok (.iconst 0, 1) := by decide +kernel
theorem dX0_keep_19 : decode cX0_keep 19 = .ok (.iadd, 1) := by decide +kernel
theorem dX0_keep_20 : decode cX0_keep 20 = .ok (.bipush 6, 2) := by decide +kernel
theorem dX0_keep_22 : decode cX0_keep 22 = .ok (.invokestatic 24, 3) := by decide +kernel
theorem dX0_keep_25 : decode cX0_keep 25 = .ok (.aload_n 1, 1) := by decide +kernel
theorem dX0_keep_26 : decode cX0_keep 26 = .ok (.getfield 30, 3) := by decide +kernel
theorem dX0_keep_29 : decode cX0_keep 29 = .ok (.iconst 0, 1) := by decide +kernel
theorem dX0_keep_30 : decode cX0_keep 30 = .ok (.aload_n 0, 1) := by decide +kernel
theorem dX0_keep_31 : decode cX0_keep 31 = .ok (.getfield 11, 3) := by decide +kernel
theorem dX0_keep_34 : decode cX0_keep 34 = .ok (.iload_n 2, 1) := by decide +kernel
theorem dX0_keep_35 : decode cX0_keep 35 = .ok (.bipush 6, 2) := by decide +kernel
theorem dX0_keep_37 : decode cX0_keep 37 = .ok (.iadd, 1) := by decide +kernel
theorem dX0_keep_38 : decode cX0_keep 38 = .ok (.bipush 6, 2) := by decide +kernel
theorem dX0_keep_40 : decode cX0_keep 40 = .ok (.invokestatic 24, 3) := by decide +kernel
theorem dX0_keep_43 : decode cX0_keep 43 = .ok (.aload_n 1, 1) := by decide +kernel
theorem dX0_keep_44 : decode cX0_keep 44 = .ok (.getfield 33, 3) := by decide +kernel
theorem dX0_keep_47 : decode cX0_keep 47 = .ok (.iconst 0, 1) := by decide +kernel
theorem dX0_keep_48 : decode cX0_keep 48 = .ok (.aload_n 0, 1) := by decide +kernel
theorem dX0_keep_49 : decode cX0_keep 49 = .ok (.getfield 11, 3) := by decide +kernel
theorem dX0_keep_52 : decode cX0_keep 52 = .ok (.iload_n 2, 1) := by decide +kernel
theorem dX0_keep_53 : decode cX0_keep 53 = .ok (.bipush 12, 2) := by decide +kernel
theorem dX0_keep_55 : decode cX0_keep 55 = .ok (.iadd, 1) := by decide +kernel
theorem dX0_keep_56 : decode cX0_keep 56 = .ok (.iconst 5, 1) := by decide +kernel
theorem dX0_keep_57 : decode cX0_keep 57 = .ok (.invokestatic 24, 3) := by decide +kernel
theorem dX0_keep_60 : decode cX0_keep 60 = .ok (.aload_n 1, 1) := by decide +kernel
theorem dX0_keep_61 : decode cX0_keep 61 = .ok (.getfield 36, 3) := by decide +kernel
theorem dX0_keep_64 : decode cX0_keep 64 = .ok (.iconst 0, 1) := by decide +kernel
theorem dX0_keep_65 : decode cX0_keep 65 = .ok (.aload_n 0, 1) := by decide +kernel
theorem dX0_keep_66 : decode cX0_keep 66 = .ok (.getfield 11, 3) := by decide +kernel
theorem dX0_keep_69 : decode cX0_keep 69 = .ok (.iload_n 2, 1) := by decide +kernel
theorem dX0_keep_70 : decode cX0_keep 70 = .ok (.bipush 17, 2) := by decide +kernel
theorem dX0_keep_72 : decode cX0_keep 72 = .ok (.iadd, 1) := by decide +kernel
theorem dX0_keep_73 : decode cX0_keep 73 = .ok (.iconst 5, 1) := by decide +kernel
theorem dX0_keep_74 : decode cX0_keep 74 = .ok (.invokestatic 24, 3) := by decide +kernel
theorem dX0_keep_77 : decode cX0_keep 77 = .ok (.aload_n 0, 1) := by decide +kernel
theorem dX0_keep_78 : decode cX0_keep 78 = .ok (.getfield 11, 3) := by decide +kernel
theorem dX0_keep_81 : decode cX0_keep 81 = .ok (.iload_n 2, 1) := by decide +kernel
theorem dX0_keep_82 : decode cX0_keep 82 = .ok (.bipush 22, 2) := by decide +kernel
theorem dX0_keep_84 : decode cX0_keep 84 = .ok (.iadd, 1) := by decide +kernel
theorem dX0_keep_85 : decode cX0_keep 85 = .ok (.aload_n 1, 1) := by decide +kernel
theorem dX0_keep_86 : decode cX0_keep 86 = .ok (.getfield 39, 3) := by decide +kernel
theorem dX0_keep_89 : decode cX0_keep 89 = .ok (.iastore, 1) := by decide +kernel
theorem dX0_keep_90 : decode cX0_keep 90 = .ok (.aload_n 0, 1) := by decide +kernel
theorem dX0_keep_91 : decode cX0_keep 91 = .ok (.aload_n 0, 1) := by decide +kernel
theorem dX0_keep_92 : decode cX0_keep 92 = .ok (.getfield 15, 3) := by decide +kernel
theorem dX0_keep_95 : decode cX0_keep 95 = .ok (.iconst 1, 1) := by decide +kernel
theorem dX0_keep_96 : decode cX0_keep 96 = .ok (.iadd, 1) := by decide +kernel
theorem dX0_keep_97 : decode cX0_keep 97 = .ok (.bipush 24, 2) := by decide +kernel
theorem dX0_keep_99 : decode cX0_keep 99 = .ok (.if_icmp .ge 12, 3) := by decide +kernel
theorem dX0_keep_102 : decode cX0_keep 102 = .ok (.aload_n 0, 1) := by decide +kernel
theorem dX0_keep_103 : decode cX0_keep 103 = .ok (.getfield 15, 3) := by decide +kernel
theorem dX0_keep_106 : decode cX0_keep 106 = .ok (.iconst 1, 1) := by decide +kernel
theorem dX0_keep_107 : decode cX0_keep 107 = .ok (.iadd, 1) := by decide +kernel
theorem dX0_keep_108 : decode cX0_keep 108 = .ok (.goto 4, 3) := by decide +kernel
theorem dX0_keep_111 : decode cX0_keep 111 = .ok (.iconst 0, 1) := by decide +kernel
theorem dX0_keep_112 : decode cX0_keep 112 = .ok (.putfield 15, 3) := by decide +kernel
theorem dX0_keep_115 : decode cX0_keep 115 = .ok (.aload_n 0, 1) := by decide +kernel
theorem dX0_keep_116 : decode cX0_keep 116 = .ok (.aload_n 0, 1) := by decide +kernel
theorem dX0_keep_117 : decode cX0_keep 117 = .ok (.getfield 42, 3) := by decide +kernel
theorem dX0_keep_120 : decode cX0_keep 120 = .ok (.iconst 1, 1) := by decide +kernel
theorem dX0_keep_121 : decode cX0_keep 121 = .ok (.iadd, 1) := by decide +kernel
theorem dX0_keep_122 : decode cX0_keep 122 = .ok (.bipush 24, 2) := by decide +kernel
theorem dX0_keep_124 : decode cX0_keep 124 = .ok (.invokestatic 45, 3) := by decide +kernel
theorem dX0_keep_127 : decode cX0_keep 127 = .ok (.putfield 42, 3) := by decide +kernel
theorem dX0_keep_130 : decode cX0_keep 130 = .ok (.return_, 1) := by decide +kernel
theorem dX0_takeBack_0 : decode cX0_takeBack 0 = .ok (.aload_n 0, 1) := by decide +kernel
theorem dX0_takeBack_1 : decode cX0_takeBack 1 = .ok (.aload_n 0, 1) := by decide +kernel
theorem dX0_takeBack_2 : decode cX0_takeBack 2 = .ok (.getfield 15, 3) := by decide +kernel
theorem dX0_takeBack_5 : decode cX0_takeBack 5 = .ok (.ifCond .le 12, 3) := by decide +kernel
theorem dX0_takeBack_8 : decode cX0_takeBack 8 = .ok (.aload_n 0, 1) := by decide +kernel
theorem dX0_takeBack_9 : decode cX0_takeBack 9 = .ok (.getfield 15, 3) := by decide +kernel
theorem dX0_takeBack_12 : decode cX0_takeBack 12 = .ok (.iconst 1, 1) := by decide +kernel
theorem dX0_takeBack_13 : decode cX0_takeBack 13 = .ok (.isub, 1) := by decide +kernel
theorem dX0_takeBack_14 : decode cX0_takeBack 14 = .ok (.goto 5, 3) := by decide +kernel
theorem dX0_takeBack_17 : decode cX0_takeBack 17 = .ok (.bipush 23, 2) := by decide +kernel
theorem dX0_takeBack_19 : decode cX0_takeBack 19 = .ok (.putfield 15, 3) := by decide +kernel
theorem dX0_takeBack_22 : decode cX0_takeBack 22 = .ok (.aload_n 0, 1) := by decide +kernel
theorem dX0_takeBack_23 : decode cX0_takeBack 23 = .ok (.dup, 1) := by decide +kernel
theorem dX0_takeBack_24 : decode cX0_takeBack 24 = .ok (.getfield 42, 3) := by decide +kernel
theorem dX0_takeBack_27 : decode cX0_takeBack 27 = .ok (.iconst 1, 1) := by decide +kernel
theorem dX0_takeBack_28 : decode cX0_takeBack 28 = .ok (.isub, 1) := by decide +kernel
theorem dX0_takeBack_29 : decode cX0_takeBack 29 = .ok (.putfield 42, 3) := by decide +kernel
theorem dX0_takeBack_32 : decode cX0_takeBack 32 = .ok (.aload_n 0, 1) := by decide +kernel
theorem dX0_takeBack_33 : decode cX0_takeBack 33 = .ok (.getfield 15, 3) := by decide +kernel
theorem dX0_takeBack_36 : decode cX0_takeBack 36 = .ok (.bipush 23, 2) := by decide +kernel
theorem dX0_takeBack_38 : decode cX0_takeBack 38 = .ok (.imul, 1) := by decide +kernel
theorem dX0_takeBack_39 : decode cX0_takeBack 39 = .ok (.istore_n 2, 1) := by decide +kernel
theorem dX0_takeBack_40 : decode cX0_takeBack 40 = .ok (.aload_n 0, 1) := by decide +kernel
theorem dX0_takeBack_41 : decode cX0_takeBack 41 = .ok (.getfield 11, 3) := by decide +kernel
theorem dX0_takeBack_44 : decode cX0_takeBack 44 = .ok (.iload_n 2, 1) := by decide +kernel
theorem dX0_takeBack_45 : decode cX0_takeBack 45 = .ok (.iconst 0, 1) := by decide +kernel
theorem dX0_takeBack_46 : decode cX0_takeBack 46 = .ok (.iadd, 1) := by decide +kernel
theorem dX0_takeBack_47 : decode cX0_takeBack 47 = .ok (.aload_n 1, 1) := by decide +kernel
theorem dX0_takeBack_48 : decode cX0_takeBack 48 = .ok (.getfield 19, 3) := by decide +kernel
theorem dX0_takeBack_51 : decode cX0_takeBack 51 = .ok (.iconst 0, 1) := by decide +kernel
theorem dX0_takeBack_52 : decode cX0_takeBack 52 = .ok (.bipush 6, 2) := by decide +kernel
theorem dX0_takeBack_54 : decode cX0_takeBack 54 = .ok (.invokestatic 24, 3) := by decide +kernel
theorem dX0_takeBack_57 : decode cX0_takeBack 57 = .ok (.aload_n 0, 1) := by decide +kernel
theorem dX0_takeBack_58 : decode cX0_takeBack 58 = .ok (.getfield 11, 3) := by decide +kernel
theorem dX0_takeBack_61 : decode cX0_takeBack 61 = .ok (.iload_n 2, 1) := by decide +kernel
theorem dX0_takeBack_62 : decode cX0_takeBack 62 = .ok (.bipush 6, 2) := by decide +kernel
theorem dX0_takeBack_64 : decode cX0_takeBack 64 = .ok (.iadd, 1) := by decide +kernel
theorem dX0_takeBack_65 : decode cX0_takeBack 65 = .ok (.aload_n 1, 1) := by decide +kernel
theorem dX0_takeBack_66 : decode cX0_takeBack 66 = .ok (.getfield 30, 3) := by decide +kernel
theorem dX0_takeBack_69 : decode cX0_takeBack 69 = .ok (.iconst 0, 1) := by decide +kernel
theorem dX0_takeBack_70 : decode cX0_takeBack 70 = .ok (.bipush 6, 2) := by decide +kernel
theorem dX0_takeBack_72 : decode cX0_takeBack 72 = .ok (.invokestatic 24, 3) := by decide +kernel
theorem dX0_takeBack_75 : decode cX0_takeBack 75 = .ok (.aload_n 0, 1) := by decide +kernel
theorem dX0_takeBack_76 : decode cX0_takeBack 76 = .ok (.getfield 11, 3) := by decide +kernel
theorem dX0_takeBack_79 : decode cX0_takeBack 79 = .ok (.iload_n 2, 1) := by decide +kernel
theorem dX0_takeBack_80 : decode cX0_takeBack 80 = .ok (.bipush 12, 2) := by decide +kernel
theorem dX0_takeBack_82 : decode cX0_takeBack 82 = .ok (.iadd, 1) := by decide +kernel
theorem dX0_takeBack_83 : decode cX0_takeBack 83 = .ok (.aload_n 1, 1) := by decide +kernel
theorem dX0_takeBack_84 : decode cX0_takeBack 84 = .ok (.getfield 33, 3) := by decide +kernel
theorem dX0_takeBack_87 : decode cX0_takeBack 87 = .ok (.iconst 0, 1) := by decide +kernel
theorem dX0_takeBack_88 : decode cX0_takeBack 88 = .ok (.iconst 5, 1) := by decide +kernel
theorem dX0_takeBack_89 : decode cX0_takeBack 89 = .ok (.invokestatic 24, 3) := by decide +kernel
theorem dX0_takeBack_92 : decode cX0_takeBack 92 = .ok (.aload_n 0, 1) := by decide +kernel
theorem dX0_takeBack_93 : decode cX0_takeBack 93 = .ok (.getfield 11, 3) := by decide +kernel
theorem dX0_takeBack_96 : decode cX0_takeBack 96 = .ok (.iload_n 2, 1) := by decide +kernel
theorem dX0_takeBack_97 : decode cX0_takeBack 97 = .ok (.bipush 17, 2) := by decide +kernel
theorem dX0_takeBack_99 : decode cX0_takeBack 99 = .ok (.iadd, 1) := by decide +kernel
theorem dX0_takeBack_100 : decode cX0_takeBack 100 = .ok (.aload_n 1, 1) := by decide +kernel
theorem dX0_takeBack_101 : decode cX0_takeBack 101 = .ok (.getfield 36, 3) := by decide +kernel
theorem dX0_takeBack_104 : decode cX0_takeBack 104 = .ok (.iconst 0, 1) := by decide +kernel
theorem dX0_takeBack_105 : decode cX0_takeBack 105 = .ok (.iconst 5, 1) := by decide +kernel
theorem dX0_takeBack_106 : decode cX0_takeBack 106 = .ok (.invokestatic 24, 3) := by decide +kernel
theorem dX0_takeBack_109 : decode cX0_takeBack 109 = .ok (.aload_n 1, 1) := by decide +kernel
theorem dX0_takeBack_110 : decode cX0_takeBack 110 = .ok (.aload_n 0, 1) := by decide +kernel
theorem dX0_takeBack_111 : decode cX0_takeBack 111 = .ok (.getfield 11, 3) := by decide +kernel
theorem dX0_takeBack_114 : decode cX0_takeBack 114 = .ok (.iload_n 2, 1) := by decide +kernel
theorem dX0_takeBack_115 : decode cX0_takeBack 115 = .ok (.bipush 22, 2) := by decide +kernel
theorem dX0_takeBack_117 : decode cX0_takeBack 117 = .ok (.iadd, 1) := by decide +kernel
theorem dX0_takeBack_118 : decode cX0_takeBack 118 = .ok (.iaload, 1) := by decide +kernel
theorem dX0_takeBack_119 : decode cX0_takeBack 119 = .ok (.putfield 39, 3) := by decide +kernel
theorem dX0_takeBack_122 : decode cX0_takeBack 122 = .ok (.return_, 1) := by decide +kernel
theorem dX0_forgetAll_0 : decode cX0_forgetAll 0 = .ok (.aload_n 0, 1) := by decide +kernel
theorem dX0_forgetAll_1 : decode cX0_forgetAll 1 = .ok (.iconst 0, 1) := by decide +kernel
theorem dX0_forgetAll_2 : decode cX0_forgetAll 2 = .ok (.putfield 42, 3) := by decide +kernel
theorem dX0_forgetAll_5 : decode cX0_forgetAll 5 = .ok (.aload_n 0, 1) := by decide +kernel
theorem dX0_forgetAll_6 : decode cX0_forgetAll 6 = .ok (.iconst 0, 1) := by decide +kernel
theorem dX0_forgetAll_7 : decode cX0_forgetAll 7 = .ok (.putfield 15, 3) := by decide +kernel
theorem dX0_forgetAll_10 : decode cX0_forgetAll 10 = .ok (.return_, 1) := by decide +kernel
end
section
/-! decode rows: X1 -/
theorem dX1_init_0 : decode cX1_init 0 = .ok (.aload_n 0, 1) := by decide +kernel
theorem dX1_init_1 : decode cX1_init 1 = .ok (.invokespecial 1, 3) := by decide +kernel
theorem dX1_init_4 : decode cX1_init 4 = .ok (.aload_n 0, 1) := by decide +kernel
theorem dX1_init_5 : decode cX1_init 5 = .ok (.bipush 16, 2) := by decide +kernel
theorem dX1_init_7 : decode cX1_init 7 = .ok (.newarray .int, 2) := by decide +kernel
theorem dX1_init_9 : decode cX1_init 9 = .ok (.putfield 9, 3) := by decide +kernel
theorem dX1_init_12 : decode cX1_init 12 = .ok (.aload_n 0, 1) := by decide +kernel
theorem dX1_init_13 : decode cX1_init 13 = .ok (.aload_n 1, 1) := by decide +kernel
theorem dX1_init_14 : decode cX1_init 14 = .ok (.putfield 13, 3) := by decide +kernel
theorem dX1_init_17 : decode cX1_init 17 = .ok (.return_, 1) := by decide +kernel
theorem dX1_askAnew_0 : decode cX1_askAnew 0 = .ok (.aload_n 0, 1) := by decide +kernel
theorem dX1_askAnew_1 : decode cX1_askAnew 1 = .ok (.iconst 0, 1) := by decide +kernel
theorem dX1_askAnew_2 : decode cX1_askAnew 2 = .ok (.putfield 17, 3) := by decide +kernel
theorem dX1_askAnew_5 : decode cX1_askAnew 5 = .ok (.aload_n 0, 1) := by decide +kernel
theorem dX1_askAnew_6 : decode cX1_askAnew 6 = .ok (.iload_n 1, 1) := by decide +kernel
theorem dX1_askAnew_7 : decode cX1_askAnew 7 = .ok (.iload_n 2, 1) := by decide +kernel
theorem dX1_askAnew_8 : decode cX1_askAnew 8 = .ok (.iconst 0, 1) := by decide +kernel
theorem dX1_askAnew_9 : decode cX1_askAnew 9 = .ok (.invokevirtual 21, 3) := by decide +kernel
theorem dX1_askAnew_12 : decode cX1_askAnew 12 = .ok (.ireturn, 1) := by decide +kernel
theorem dX1_answer_0 : decode cX1_answer 0 = .ok (.iload_n 3, 1) := by decide +kernel
theorem dX1_answer_1 : decode cX1_answer 1 = .ok (.bipush 12, 2) := by decide +kernel
theorem dX1_answer_3 : decode cX1_answer 3 = .ok (.if_icmp .le 5, 3) := by decide +kernel
theorem dX1_answer_6 : decode cX1_answer 6 = .ok (.iconst 0, 1) := by decide +kernel
theorem dX1_answer_7 : decode cX1_answer 7 = .ok (.ireturn, 1) := by decide +kernel
theorem dX1_answer_8 : decode cX1_answer 8 = .ok (.aload_n 0, 1) := by decide +kernel
theorem dX1_answer_9 : decode cX1_answer 9 = .ok (.getfield 13, 3) := by decide +kernel
theorem dX1_answer_12 : decode cX1_answer 12 = .ok (.getfield 25, 3) := by decide +kernel
theorem dX1_answer_15 : decode cX1_answer 15 = .ok (.iload_n 1, 1) := by decide +kernel
theorem dX1_answer_16 : decode cX1_answer 16 = .ok (.iaload, 1) := by decide +kernel
theorem dX1_answer_17 : decode cX1_answer 17 = .ok (.iload_n 2, 1) := by decide +kernel
theorem dX1_answer_18 : decode cX1_answer 18 = .ok (.ifCond .ne 9, 3) := by decide +kernel
theorem dX1_answer_21 : decode cX1_answer 21 = .ok (.getstatic 30, 3) := by decide +kernel
theorem dX1_answer_24 : decode cX1_answer 24 = .ok (.goto 6, 3) := by decide +kernel
theorem dX1_answer_27 : decode cX1_answer 27 = .ok (.getstatic 35, 3) := by decide +kernel
theorem dX1_answer_30 : decode cX1_answer 30 = .ok (.invokestatic 38, 3) := by decide +kernel
theorem dX1_answer_33 : decode cX1_answer 33 = .ok (.istore 4, 2) := by decide +kernel
theorem dX1_answer_35 : decode cX1_answer 35 = .ok (.aload_n 0, 1) := by decide +kernel
theorem dX1_answer_36 : decode cX1_answer 36 = .ok (.iload 4, 2) := by decide +kernel
theorem dX1_answer_38 : decode cX1_answer 38 = .ok (.iload_n 1, 1) := by decide +kernel
theorem dX1_answer_39 : decode cX1_answer 39 = .ok (.iload_n 3, 1) := by decide +kernel
theorem dX1_answer_40 : decode cX1_answer 40 = .ok (.iconst 1, 1) := by decide +kernel
theorem dX1_answer_41 : decode cX1_answer 41 = .ok (.iadd, 1) := by decide +kernel
theorem dX1_answer_42 : decode cX1_answer 42 = .ok (.invokevirtual 42, 3) := by decide +kernel
theorem dX1_answer_45 : decode cX1_answer 45 = .ok (.ireturn, 1) := by decide +kernel
theorem dX1_runBody_0 : decode cX1_runBody 0 = .ok (.iload_n 3, 1) := by decide +kernel
theorem dX1_runBody_1 : decode cX1_runBody 1 = .ok (.bipush 12, 2) := by decide +kernel
theorem dX1_runBody_3 : decode cX1_runBody 3 = .ok (.if_icmp .le 5, 3) := by decide +kernel
theorem dX1_runBody_6 : decode cX1_runBody 6 = .ok (.iconst 0, 1) := by decide +kernel
theorem dX1_runBody_7 : decode cX1_runBody 7 = .ok (.ireturn, 1) := by decide +kernel
theorem dX1_runBody_8 : decode cX1_runBody 8 = .ok (.aload_n 0, 1) := by decide +kernel
theorem dX1_runBody_9 : decode cX1_runBody 9 = .ok (.iload_n 1, 1) := by decide +kernel
theorem dX1_runBody_10 : decode cX1_runBody 10 = .ok (.invokevirtual 45, 3) := by decide +kernel
theorem dX1_runBody_13 : decode cX1_runBody 13 = .ok (.iload_n 1, 1) := by decide +kernel
theorem dX1_runBody_14 : decode cX1_runBody 14 = .ok (.tableswitch 216 10 24 #[74, 84, 105, 117, 131, 216, 216, 216, 216, 216, 144, 146, 167, 182, 203], 74) := by decide +kernel
theorem dX1_runBody_88 : decode cX1_runBody 88 = .ok (.aload_n 0, 1) := by decide +kernel
theorem dX1_runBody_89 : decode cX1_runBody 89 = .ok (.getfield 13, 3) := by decide +kernel
theorem dX1_runBody_92 : decode cX1_runBody 92 = .ok (.getfield 49, 3) := by decide +kernel
theorem dX1_runBody_95 : decode cX1_runBody 95 = .ok (.iload_n 2, 1) := by decide +kernel
theorem dX1_runBody_96 : decode cX1_runBody 96 = .ok (.iaload, 1) := by decide +kernel
theorem dX1_runBody_97 : decode cX1_runBody 97 = .ok (.ireturn, 1) := by decide +kernel
theorem dX1_runBody_98 : decode cX1_runBody 98 = .ok (.aload_n 0, 1) := by decide +kernel
theorem dX1_runBody_99 : decode cX1_runBody 99 = .ok (.bipush 10, 2) := by decide +kernel
theorem dX1_runBody_101 : decode cX1_runBody 101 = .ok (.iload_n 2, 1) := by decide +kernel
theorem dX1_runBody_102 : decode cX1_runBody 102 = .ok (.iload_n 3, 1) := by decide +kernel
theorem dX1_runBody_103 : decode cX1_runBody 103 = .ok (.iconst 1, 1) := by decide +kernel
theorem dX1_runBody_104 : decode cX1_runBody 104 = .ok (.iadd, 1) := by decide +kernel
theorem dX1_runBody_105 : decode cX1_runBody 105 = .ok (.invokevirtual 42, 3) := by decide +kernel
theorem dX1_runBody_108 : decode cX1_runBody 108 = .ok (.aload_n 0, 1) := by decide +kernel
theorem dX1_runBody_109 : decode cX1_runBody 109 = .ok (.iload_n 2, 1) := by decide +kernel
theorem dX1_runBody_110 : decode cX1_runBody 110 = .ok (.iconst 1, 1) := by decide +kernel
theorem dX1_runBody_111 : decode cX1_runBody 111 = .ok (.iload_n 3, 1) := by decide +kernel
theorem dX1_runBody_112 : decode cX1_runBody 112 = .ok (.iconst 1, 1) := by decide +kernel
theorem dX1_runBody_113 : decode cX1_runBody 113 = .ok (.iadd, 1) := by decide +kernel
theorem dX1_runBody_114 : decode cX1_runBody 114 = .ok (.invokevirtual 21, 3) := by decide +kernel
theorem dX1_runBody_117 : decode cX1_runBody 117 = .ok (.iadd, 1) := by decide +kernel
theorem dX1_runBody_118 : decode cX1_runBody 118 = .ok (.ireturn, 1) := by decide +kernel
theorem dX1_runBody_119 : decode cX1_runBody 119 = .ok (.aload_n 0, 1) := by decide +kernel
theorem dX1_runBody_120 : decode cX1_runBody 120 = .ok (.bipush 11, 2) := by decide +kernel
theorem dX1_runBody_122 : decode cX1_runBody 122 = .ok (.iload_n 2, 1) := by decide +kernel
theorem dX1_runBody_123 : decode cX1_runBody 123 = .ok (.iload_n 3, 1) := by decide +kernel
theorem dX1_runBody_124 : decode cX1_runBody 124 = .ok (.iconst 1, 1) := by decide +kernel
theorem dX1_runBody_125 : decode cX1_runBody 125 = .ok (.iadd, 1) := by decide +kernel
theorem dX1_runBody_126 : decode cX1_runBody 126 = .ok (.invokevirtual 42, 3) := by decide +kernel
theorem dX1_runBody_129 : decode cX1_runBody 129 = .ok (.ineg, 1) := by decide +kernel
theorem dX1_runBody_130 : decode cX1_runBody 130 = .ok (.ireturn, 1) := by decide +kernel
theorem dX1_runBody_131 : decode cX1_runBody 131 = .ok (.aload_n 0, 1) := by decide +kernel
theorem dX1_runBody_132 : decode cX1_runBody 132 = .ok (.bipush 10, 2) := by decide +kernel
theorem dX1_runBody_134 : decode cX1_runBody 134 = .ok (.iload_n 2, 1) := by decide +kernel
theorem dX1_runBody_135 : decode cX1_runBody 135 = .ok (.iload_n 3, 1) := by decide +kernel
theorem dX1_runBody_136 : decode cX1_runBody 136 = .ok (.iconst 1, 1) := by decide +kernel
theorem dX1_runBody_137 : decode cX1_runBody 137 = .ok (.iadd, 1) := by decide +kernel
theorem dX1_runBody_138 : decode cX1_runBody 138 = .ok (.invokevirtual 42, 3) := by decide +kernel
theorem dX1_runBody_141 : decode cX1_runBody 141 = .ok (.bipush 100, 2) := by decide +kernel
theorem dX1_runBody_143 : decode cX1_runBody 143 = .ok (.isub, 1) := by decide +kernel
theorem dX1_runBody_144 : decode cX1_runBody 144 = .ok (.ireturn, 1) := by decide +kernel
theorem dX1_runBody_145 : decode cX1_runBody 145 = .ok (.iconst 2, 1) := by decide +kernel
theorem dX1_runBody_146 : decode cX1_runBody 146 = .ok (.aload_n 0, 1) := by decide +kernel
theorem dX1_runBody_147 : decode cX1_runBody 147 = .ok (.bipush 13, 2) := by decide +kernel
theorem dX1_runBody_149 : decode cX1_runBody 149 = .ok (.iload_n 2, 1) := by decide +kernel
theorem dX1_runBody_150 : decode cX1_runBody 150 = .ok (.iload_n 3, 1) := by decide +kernel
theorem dX1_runBody_151 : decode cX1_runBody 151 = .ok (.iconst 1, 1) := by decide +kernel
theorem dX1_runBody_152 : decode cX1_runBody 152 = .ok (.iadd, 1) := by decide +kernel
theorem dX1_runBody_153 : decode cX1_runBody 153 = .ok (.invokevirtual 42, 3) := by decide +kernel
theorem dX1_runBody_156 : decode cX1_runBody 156 = .ok (.imul, 1) := by decide +kernel
theorem dX1_runBody_157 : decode cX1_runBody 157 = .ok (.ireturn, 1) := by decide +kernel
theorem dX1_runBody_158 : decode cX1_runBody 158 = .ok (.iload_n 2, 1) := by decide +kernel
theorem dX1_runBody_159 : decode cX1_runBody 159 = .ok (.ireturn, 1) := by decide +kernel
theorem dX1_runBody_160 : decode cX1_runBody 160 = .ok (.aload_n 0, 1) := by decide +kernel
theorem dX1_runBody_161 : decode cX1_runBody 161 = .ok (.bipush 20, 2) := by decide +kernel
theorem dX1_runBody_163 : decode cX1_runBody 163 = .ok (.iload_n 2, 1) := by decide +kernel
theorem dX1_runBody_164 : decode cX1_runBody 164 = .ok (.iload_n 3, 1) := by decide +kernel
theorem dX1_runBody_165 : decode cX1_runBody 165 = .ok (.iconst 1, 1) := by decide +kernel
theorem dX1_runBody_166 : decode cX1_runBody 166 = .ok (.iadd, 1) := by decide +kernel
theorem dX1_runBody_167 : decode cX1_runBody 167 = .ok (.invokevirtual 42, 3) := by decide +kernel
theorem dX1_runBody_170 : decode cX1_runBody 170 = .ok (.aload_n 0, 1) := by decide +kernel
theorem dX1_runBody_171 : decode cX1_runBody 171 = .ok (.getfield 13, 3) := by decide +kernel
theorem dX1_runBody_174 : decode cX1_runBody 174 = .ok (.getfield 52, 3) := by decide +kernel
theorem dX1_runBody_177 : decode cX1_runBody 177 = .ok (.iload_n 2, 1) := by decide +kernel
theorem dX1_runBody_178 : decode cX1_runBody 178 = .ok (.iaload, 1) := by decide +kernel
theorem dX1_runBody_179 : decode cX1_runBody 179 = .ok (.iadd, 1) := by decide +kernel
theorem dX1_runBody_180 : decode cX1_runBody 180 = .ok (.ireturn, 1) := by decide +kernel
theorem dX1_runBody_181 : decode cX1_runBody 181 = .ok (.aload_n 0, 1) := by decide +kernel
theorem dX1_runBody_182 : decode cX1_runBody 182 = .ok (.bipush 21, 2) := by decide +kernel
theorem dX1_runBody_184 : decode cX1_runBody 184 = .ok (.iload_n 2, 1) := by decide +kernel
theorem dX1_runBody_185 : decode cX1_runBody 185 = .ok (.iload_n 3, 1) := by decide +kernel
theorem dX1_runBody_186 : decode cX1_runBody 186 = .ok (.iconst 1, 1) := by decide +kernel
theorem dX1_runBody_187 : decode cX1_runBody 187 = .ok (.iadd, 1) := by decide +kernel
theorem dX1_runBody_188 : decode cX1_runBody 188 = .ok (.invokevirtual 42, 3) := by decide +kernel
theorem dX1_runBody_191 : decode cX1_runBody 191 = .ok (.sipush 1000, 3) := by decide +kernel
theorem dX1_runBody_194 : decode cX1_runBody 194 = .ok (.isub, 1) := by decide +kernel
theorem dX1_runBody_195 : decode cX1_runBody 195 = .ok (.ireturn, 1) := by decide +kernel
theorem dX1_runBody_196 : decode cX1_runBody 196 = .ok (.aload_n 0, 1) := by decide +kernel
theorem dX1_runBody_197 : decode cX1_runBody 197 = .ok (.bipush 20, 2) := by decide +kernel
theorem dX1_runBody_199 : decode cX1_runBody 199 = .ok (.iload_n 2, 1) := by decide +kernel
theorem dX1_runBody_200 : decode cX1_runBody 200 = .ok (.iload_n 3, 1) := by decide +kernel
theorem dX1_runBody_201 : decode cX1_runBody 201 = .ok (.iconst 1, 1) := by decide +kernel
theorem dX1_runBody_202 : decode cX1_runBody 202 = .ok (.iadd, 1) := by decide +kernel
theorem dX1_runBody_203 : decode cX1_runBody 203 = .ok (.invokevirtual 42, 3) := by decide +kernel
theorem dX1_runBody_206 : decode cX1_runBody 206 = .ok (.aload_n 0, 1) := by decide +kernel
theorem dX1_runBody_207 : decode cX1_runBody 207 = .ok (.iload_n 2, 1) := by decide +kernel
theorem dX1_runBody_208 : decode cX1_runBody 208 = .ok (.iconst 0, 1) := by decide +kernel
theorem dX1_runBody_209 : decode cX1_runBody 209 = .ok (.iload_n 3, 1) := by decide +kernel
theorem dX1_runBody_210 : decode cX1_runBody 210 = .ok (.iconst 1, 1) := by decide +kernel
theorem dX1_runBody_211 : decode cX1_runBody 211 = .ok (.iadd, 1) := by decide +kernel
theorem dX1_runBody_212 : decode cX1_runBody 212 = .ok (.invokevirtual 21, 3) := by decide +kernel
theorem dX1_runBody_215 : decode cX1_runBody 215 = .ok (.isub, 1) := by decide +kernel
theorem dX1_runBody_216 : decode cX1_runBody 216 = .ok (.ireturn, 1) := by decide +kernel
theorem dX1_runBody_217 : decode cX1_runBody 217 = .ok (.iconst 2, 1) := by decide +kernel
theorem dX1_runBody_218 : decode cX1_runBody 218 = .ok (.aload_n 0, 1) := by decide +kernel
theorem dX1_runBody_219 : decode cX1_runBody 219 = .ok (.bipush 21, 2) := by decide +kernel
theorem dX1_runBody_221 : decode cX1_runBody 221 = .ok (.iload_n 2, 1) := by decide +kernel
theorem dX1_runBody_222 : decode cX1_runBody 222 = .ok (.iload_n 3, 1) := by decide +kernel
theorem dX1_runBody_223 : decode cX1_runBody 223 = .ok (.iconst 1, 1) := by decide +kernel
theorem dX1_runBody_224 : decode cX1_runBody 224 = .ok (.iadd, 1) := by decide +kernel
theorem dX1_runBody_225 : decode cX1_runBody 225 = .ok (.invokevirtual 42, 3) := by decide +kernel
theorem dX1_runBody_228 : decode cX1_runBody 228 = .ok (.imul, 1) := by decide +kernel
theorem dX1_runBody_229 : decode cX1_runBody 229 = .ok (.ireturn, 1) := by decide +kernel
theorem dX1_runBody_230 : decode cX1_runBody 230 = .ok (.iconst 0, 1) := by decide +kernel
theorem dX1_runBody_231 : decode cX1_runBody 231 = .ok (.ireturn, 1) := by decide +kernel
theorem dX1_leave_0 : decode cX1_leave 0 = .ok (.aload_n 0, 1) := by decide +kernel
theorem dX1_leave_1 : decode cX1_leave 1 = .ok (.getfield 17, 3) := by decide +kernel
theorem dX1_leave_4 : decode cX1_leave 4 = .ok (.bipush 16, 2) := by decide +kernel
theorem dX1_leave_6 : decode cX1_leave 6 = .ok (.if_icmp .ge 23, 3) := by decide +kernel
theorem dX1_leave_9 : decode cX1_leave 9 = .ok (.aload_n 0, 1) := by decide +kernel
theorem dX1_leave_10 : decode cX1_leave 10 = .ok (.getfield 9, 3) := by decide +kernel
theorem dX1_leave_13 : decode cX1_leave 13 = .ok (.aload_n 0, 1) := by decide +kernel
theorem dX1_leave_14 : decode cX1_leave 14 = .ok (.getfield 17, 3) := by decide +kernel
theorem dX1_leave_17 : decode cX1_leave 17 = .ok (.iload_n 1, 1) := by decide +kernel
theorem dX1_leave_18 : decode cX1_leave 18 = .ok (.iastore, 1) := by decide +kernel
theorem dX1_leave_19 : decode cX1_leave 19 = .ok (.aload_n 0, 1) := by decide +kernel
theorem dX1_leave_20 : decode cX1_leave 20 = .ok (.dup, 1) := by decide +kernel
theorem dX1_leave_21 : decode cX1_leave 21 = .ok (.getfield 17, 3) := by decide +kernel
theorem dX1_leave_24 : decode cX1_leave 24 = .ok (.iconst 1, 1) := by decide +kernel
theorem dX1_leave_25 : decode cX1_leave 25 = .ok (.iadd, 1) := by decide +kernel
theorem dX1_leave_26 : decode cX1_leave 26 = .ok (.putfield 17, 3) := by decide +kernel
theorem dX1_leave_29 : decode cX1_leave 29 = .ok (.return_, 1) := by decide +kernel
theorem dX1_nearestBody_0 : decode cX1_nearestBody 0 = .ok (.iload_n 0, 1) := by decide +kernel
theorem dX1_nearestBody_1 : decode cX1_nearestBody 1 = .ok (.istore_n 2, 1) := by decide +kernel
theorem dX1_nearestBody_2 : decode cX1_nearestBody 2 = .ok (.iconst 0, 1) := by decide +kernel
theorem dX1_nearestBody_3 : decode cX1_nearestBody 3 = .ok (.istore_n 3, 1) := by decide +kernel
theorem dX1_nearestBody_4 : decode cX1_nearestBody 4 = .ok (.iload_n 3, 1) := by decide +kernel
theorem dX1_nearestBody_5 : decode cX1_nearestBody 5 = .ok (.getstatic 55, 3) := by decide +kernel
theorem dX1_nearestBody_8 : decode cX1_nearestBody 8 = .ok (.arraylength, 1) := by decide +kernel
theorem dX1_nearestBody_9 : decode cX1_nearestBody 9 = .ok (.if_icmp .ge 25, 3) := by decide +kernel
theorem dX1_nearestBody_12 : decode cX1_nearestBody 12 = .ok (.iload_n 2, 1) := by decide +kernel
theorem dX1_nearestBody_13 : decode cX1_nearestBody 13 = .ok (.ifCond .le 21, 3) := by decide +kernel
theorem dX1_nearestBody_16 : decode cX1_nearestBody 16 = .ok (.aload_n 1, 1) := by decide +kernel
theorem dX1_nearestBody_17 : decode cX1_nearestBody 17 = .ok (.iload_n 2, 1) := by decide +kernel
theorem dX1_nearestBody_18 : decode cX1_nearestBody 18 = .ok (.iaload, 1) := by decide +kernel
theorem dX1_nearestBody_19 : decode cX1_nearestBody 19 = .ok (.ifCond .ne 15, 3) := by decide +kernel
theorem dX1_nearestBody_22 : decode cX1_nearestBody 22 = .ok (.getstatic 55, 3) := by decide +kernel
theorem dX1_nearestBody_25 : decode cX1_nearestBody 25 = .ok (.iload_n 2, 1) := by decide +kernel
theorem dX1_nearestBody_26 : decode cX1_nearestBody 26 = .ok (.iaload, 1) := by decide +kernel
theorem dX1_nearestBody_27 : decode cX1_nearestBody 27 = .ok (.istore_n 2, 1) := by decide +kernel
theorem dX1_nearestBody_28 : decode cX1_nearestBody 28 = .ok (.iinc 3 1, 3) := by decide +kernel
theorem dX1_nearestBody_31 : decode cX1_nearestBody 31 = .ok (.goto (-27), 3) := by decide +kernel
theorem dX1_nearestBody_34 : decode cX1_nearestBody 34 = .ok (.aload_n 1, 1) := by decide +kernel
theorem dX1_nearestBody_35 : decode cX1_nearestBody 35 = .ok (.iload_n 2, 1) := by decide +kernel
theorem dX1_nearestBody_36 : decode cX1_nearestBody 36 = .ok (.iaload, 1) := by decide +kernel
theorem dX1_nearestBody_37 : decode cX1_nearestBody 37 = .ok (.ireturn, 1) := by decide +kernel
end
section
/-! decode rows: X2 -/
theorem dX2_init_0 : decode cX2_init 0 = .ok (.aload_n 0, 1) := by decide +kernel
theorem dX2_init_1 : decode cX2_init 1 = .ok (.invokespecial 3, 3) := by decide +kernel
theorem dX2_init_4 : decode cX2_init 4 = .ok (.aload_n 0, 1) := by decide +kernel
theorem dX2_init_5 : decode cX2_init 5 = .ok (.new 9, 3) := by decide +kernel
theorem dX2_init_8 : decode cX2_init 8 = .ok (.dup, 1) := by decide +kernel
theorem dX2_init_9 : decode cX2_init 9 = .ok (.invokespecial 11, 3) := by decide +kernel
theorem dX2_init_12 : decode cX2_init 12 = .ok (.putfield 12, 3) := by decide +kernel
theorem dX2_init_15 : decode cX2_init 15 = .ok (.aload_n 0, 1) := by decide +kernel
theorem dX2_init_16 : decode cX2_init 16 = .ok (.iconst 5, 1) := by decide +kernel
theorem dX2_init_17 : decode cX2_init 17 = .ok (.newarray .int, 2) := by decide +kernel
theorem dX2_init_19 : decode cX2_init 19 = .ok (.putfield 18, 3) := by decide +kernel
theorem dX2_init_22 : decode cX2_init 22 = .ok (.aload_n 0, 1) := by decide +kernel
theorem dX2_init_23 : decode cX2_init 23 = .ok (.iconst 5, 1) := by decide +kernel
theorem dX2_init_24 : decode cX2_init 24 = .ok (.newarray .int, 2) := by decide +kernel
theorem dX2_init_26 : decode cX2_init 26 = .ok (.putfield 22, 3) := by decide +kernel
theorem dX2_init_29 : decode cX2_init 29 = .ok (.aload_n 0, 1) := by decide +kernel
theorem dX2_init_30 : decode cX2_init 30 = .ok (.aload_n 1, 1) := by decide +kernel
theorem dX2_init_31 : decode cX2_init 31 = .ok (.putfield 25, 3) := by decide +kernel
theorem dX2_init_34 : decode cX2_init 34 = .ok (.return_, 1) := by decide +kernel
theorem dX2_whereBehind_0 : decode cX2_whereBehind 0 = .ok (.aload_n 0, 1) := by decide +kernel
theorem dX2_whereBehind_1 : decode cX2_whereBehind 1 = .ok (.getfield 12, 3) := by decide +kernel
theorem dX2_whereBehind_4 : decode cX2_whereBehind 4 = .ok (.aload_n 0, 1) := by decide +kernel
theorem dX2_whereBehind_5 : decode cX2_whereBehind 5 = .ok (.getfield 25, 3) := by decide +kernel
theorem dX2_whereBehind_8 : decode cX2_whereBehind 8 = .ok (.invokevirtual 28, 3) := by decide +kernel
theorem dX2_whereBehind_11 : decode cX2_whereBehind 11 = .ok (.aload_n 0, 1) := by decide +kernel
theorem dX2_whereBehind_12 : decode cX2_whereBehind 12 = .ok (.iload_n 2, 1) := by decide +kernel
theorem dX2_whereBehind_13 : decode cX2_whereBehind 13 = .ok (.invokevirtual 32, 3) := by decide +kernel
theorem dX2_whereBehind_16 : decode cX2_whereBehind 16 = .ok (.aload_n 0, 1) := by decide +kernel
theorem dX2_whereBehind_17 : decode cX2_whereBehind 17 = .ok (.getfield 12, 3) := by decide +kernel
theorem dX2_whereBehind_20 : decode cX2_whereBehind 20 = .ok (.getfield 36, 3) := by decide +kernel
theorem dX2_whereBehind_23 : decode cX2_whereBehind 23 = .ok (.iload_n 1, 1) := by decide +kernel
theorem dX2_whereBehind_24 : decode cX2_whereBehind 24 = .ok (.iaload, 1) := by decide +kernel
theorem dX2_whereBehind_25 : decode cX2_whereBehind 25 = .ok (.ireturn, 1) := by decide +kernel
theorem dX2_headsBehind_0 : decode cX2_headsBehind 0 = .ok (.aload_n 0, 1) := by decide +kernel
theorem dX2_headsBehind_1 : decode cX2_headsBehind 1 = .ok (.getfield 12, 3) := by decide +kernel
theorem dX2_headsBehind_4 : decode cX2_headsBehind 4 = .ok (.aload_n 0, 1) := by decide +kernel
theorem dX2_headsBehind_5 : decode cX2_headsBehind 5 = .ok (.getfield 25, 3) := by decide +kernel
theorem dX2_headsBehind_8 : decode cX2_headsBehind 8 = .ok (.invokevirtual 28, 3) := by decide +kernel
theorem dX2_headsBehind_11 : decode cX2_headsBehind 11 = .ok (.aload_n 0, 1) := by decide +kernel
theorem dX2_headsBehind_12 : decode cX2_headsBehind 12 = .ok (.iload_n 2, 1) := by decide +kernel
theorem dX2_headsBehind_13 : decode cX2_headsBehind 13 = .ok (.invokevirtual 32, 3) := by decide +kernel
theorem dX2_headsBehind_16 : decode cX2_headsBehind 16 = .ok (.aload_n 0, 1) := by decide +kernel
theorem dX2_headsBehind_17 : decode cX2_headsBehind 17 = .ok (.getfield 12, 3) := by decide +kernel
theorem dX2_headsBehind_20 : decode cX2_headsBehind 20 = .ok (.iload_n 1, 1) := by decide +kernel
theorem dX2_headsBehind_21 : decode cX2_headsBehind 21 = .ok (.invokevirtual 39, 3) := by decide +kernel
theorem dX2_headsBehind_24 : decode cX2_headsBehind 24 = .ok (.ireturn, 1) := by decide +kernel
theorem dX2_worth_0 : decode cX2_worth 0 = .ok (.aload_n 0, 1) := by decide +kernel
theorem dX2_worth_1 : decode cX2_worth 1 = .ok (.getfield 12, 3) := by decide +kernel
theorem dX2_worth_4 : decode cX2_worth 4 = .ok (.aload_n 0, 1) := by decide +kernel
theorem dX2_worth_5 : decode cX2_worth 5 = .ok (.getfield 25, 3) := by decide +kernel
theorem dX2_worth_8 : decode cX2_worth 8 = .ok (.invokevirtual 28, 3) := by decide +kernel
theorem dX2_worth_11 : decode cX2_worth 11 = .ok (.iconst 0, 1) := by decide +kernel
theorem dX2_worth_12 : decode cX2_worth 12 = .ok (.istore_n 3, 1) := by decide +kernel
theorem dX2_worth_13 : decode cX2_worth 13 = .ok (.iconst 0, 1) := by decide +kernel
theorem dX2_worth_14 : decode cX2_worth 14 = .ok (.istore 4, 2) := by decide +kernel
theorem dX2_worth_16 : decode cX2_worth 16 = .ok (.iload 4, 2) := by decide +kernel
theorem dX2_worth_18 : decode cX2_worth 18 = .ok (.iload_n 2, 1) := by decide +kernel
theorem dX2_worth_19 : decode cX2_worth 19 = .ok (.if_icmp .ge 40, 3) := by decide +kernel
theorem dX2_worth_22 : decode cX2_worth 22 = .ok (.aload_n 0, 1) := by decide +kernel
theorem dX2_worth_23 : decode cX2_worth 23 = .ok (.getfield 12, 3) := by decide +kernel
theorem dX2_worth_26 : decode cX2_worth 26 = .ok (.invokevirtual 43, 3) := by decide +kernel
theorem dX2_worth_29 : decode cX2_worth 29 = .ok (.pop, 1) := by decide +kernel
theorem dX2_worth_30 : decode cX2_worth 30 = .ok (.iload_n 3, 1) := by decide +kernel
theorem dX2_worth_31 : decode cX2_worth 31 = .ok (.aload_n 0, 1) := by decide +kernel
theorem dX2_worth_32 : decode cX2_worth 32 = .ok (.getfield 12, 3) := by decide +kernel
theorem dX2_worth_35 : decode cX2_worth 35 = .ok (.iload_n 1, 1) := by decide +kernel
theorem dX2_worth_36 : decode cX2_worth 36 = .ok (.invokevirtual 39, 3) := by decide +kernel
theorem dX2_worth_39 : decode cX2_worth 39 = .ok (.aload_n 0, 1) := by decide +kernel
theorem dX2_worth_40 : decode cX2_worth 40 = .ok (.getfield 25, 3) := by decide +kernel
theorem dX2_worth_43 : decode cX2_worth 43 = .ok (.getfield 47, 3) := by decide +kernel
theorem dX2_worth_46 : decode cX2_worth 46 = .ok (.iload_n 1, 1) := by decide +kernel
theorem dX2_worth_47 : decode cX2_worth 47 = .ok (.iaload, 1) := by decide +kernel
theorem dX2_worth_48 : decode cX2_worth 48 = .ok (.invokestatic 50, 3) := by decide +kernel
theorem dX2_worth_51 : decode cX2_worth 51 = .ok (.iadd, 1) := by decide +kernel
theorem dX2_worth_52 : decode cX2_worth 52 = .ok (.istore_n 3, 1) := by decide +kernel
theorem dX2_worth_53 : decode cX2_worth 53 = .ok (.iinc 4 1, 3) := by decide +kernel
theorem dX2_worth_56 : decode cX2_worth 56 = .ok (.goto (-40), 3) := by decide +kernel
theorem dX2_worth_59 : decode cX2_worth 59 = .ok (.iload_n 3, 1) := by decide +kernel
theorem dX2_worth_60 : decode cX2_worth 60 = .ok (.ireturn, 1) := by decide +kernel
theorem dX2_bellsToRest_0 : decode cX2_bellsToRest 0 = .ok (.aload_n 0, 1) := by decide +kernel
theorem dX2_bellsToRest_1 : decode cX2_bellsToRest 1 = .ok (.getfield 12, 3) := by decide +kernel
theorem dX2_bellsToRest_4 : decode cX2_bellsToRest 4 = .ok (.aload_n 0, 1) := by decide +kernel
theorem dX2_bellsToRest_5 : decode cX2_bellsToRest 5 = .ok (.getfield 25, 3) := by decide +kernel
theorem dX2_bellsToRest_8 : decode cX2_bellsToRest 8 = .ok (.invokevirtual 28, 3) := by decide +kernel
theorem dX2_bellsToRest_11 : decode cX2_bellsToRest 11 = .ok (.iconst 0, 1) := by decide +kernel
theorem dX2_bellsToRest_12 : decode cX2_bellsToRest 12 = .ok (.istore_n 1, 1) := by decide +kernel
theorem dX2_bellsToRest_13 : decode cX2_bellsToRest 13 = .ok (.iconst 1, 1) := by decide +kernel
theorem dX2_bellsToRest_14 : decode cX2_bellsToRest 14 = .ok (.istore_n 2, 1) := by decide +kernel
theorem dX2_bellsToRest_15 : decode cX2_bellsToRest 15 = .ok (.iload_n 2, 1) := by decide +kernel
theorem dX2_bellsToRest_16 : decode cX2_bellsToRest 16 = .ok (.bipush 62, 2) := by decide +kernel
theorem dX2_bellsToRest_18 : decode cX2_bellsToRest 18 = .ok (.if_icmp .gt 36, 3) := by decide +kernel
theorem dX2_bellsToRest_21 : decode cX2_bellsToRest 21 = .ok (.aload_n 0, 1) := by decide +kernel
theorem dX2_bellsToRest_22 : decode cX2_bellsToRest 22 = .ok (.getfield 12, 3) := by decide +kernel
theorem dX2_bellsToRest_25 : decode cX2_bellsToRest 25 = .ok (.invokevirtual 43, 3) := by decide +kernel
theorem dX2_bellsToRest_28 : decode cX2_bellsToRest 28 = .ok (.ifCond .ne 9, 3) := by decide +kernel
theorem dX2_bellsToRest_31 : decode cX2_bellsToRest 31 = .ok (.iload_n 1, 1) := by decide +kernel
theorem dX2_bellsToRest_32 : decode cX2_bellsToRest 32 = .ok (.iconst 1, 1) := by decide +kernel
theorem dX2_bellsToRest_33 : decode cX2_bellsToRest 33 = .ok (.iadd, 1) := by decide +kernel
theorem dX2_bellsToRest_34 : decode cX2_bellsToRest 34 = .ok (.goto 4, 3) := by decide +kernel
theorem dX2_bellsToRest_37 : decode cX2_bellsToRest 37 = .ok (.iconst 0, 1) := by decide +kernel
theorem dX2_bellsToRest_38 : decode cX2_bellsToRest 38 = .ok (.istore_n 1, 1) := by decide +kernel
theorem dX2_bellsToRest_39 : decode cX2_bellsToRest 39 = .ok (.iload_n 1, 1) := by decide +kernel
theorem dX2_bellsToRest_40 : decode cX2_bellsToRest 40 = .ok (.iconst 2, 1) := by decide +kernel
theorem dX2_bellsToRest_41 : decode cX2_bellsToRest 41 = .ok (.if_icmp .ne 7, 3) := by decide +kernel
theorem dX2_bellsToRest_44 : decode cX2_bellsToRest 44 = .ok (.iload_n 2, 1) := by decide +kernel
theorem dX2_bellsToRest_45 : decode cX2_bellsToRest 45 = .ok (.iconst 2, 1) := by decide +kernel
theorem dX2_bellsToRest_46 : decode cX2_bellsToRest 46 = .ok (.isub, 1) := by decide +kernel
theorem dX2_bellsToRest_47 : decode cX2_bellsToRest 47 = .ok (.ireturn, 1) := by decide +kernel
theorem dX2_bellsToRest_48 : decode cX2_bellsToRest 48 = .ok (.iinc 2 1, 3) := by decide +kernel
theorem dX2_bellsToRest_51 : decode cX2_bellsToRest 51 = .ok (.goto (-36), 3) := by decide +kernel
theorem dX2_bellsToRest_54 : decode cX2_bellsToRest 54 = .ok (.ldc 56, 2) := by decide +kernel
theorem dX2_bellsToRest_56 : decode cX2_bellsToRest 56 = .ok (.ireturn, 1) := by decide +kernel
theorem dX2_bellsToRing_0 : decode cX2_bellsToRing 0 = .ok (.aload_n 0, 1) := by decide +kernel
theorem dX2_bellsToRing_1 : decode cX2_bellsToRing 1 = .ok (.getfield 12, 3) := by decide +kernel
theorem dX2_bellsToRing_4 : decode cX2_bellsToRing 4 = .ok (.aload_n 0, 1) := by decide +kernel
theorem dX2_bellsToRing_5 : decode cX2_bellsToRing 5 = .ok (.getfield 25, 3) := by decide +kernel
theorem dX2_bellsToRing_8 : decode cX2_bellsToRing 8 = .ok (.invokevirtual 28, 3) := by decide +kernel
theorem dX2_bellsToRing_11 : decode cX2_bellsToRing 11 = .ok (.iconst 1, 1) := by decide +kernel
theorem dX2_bellsToRing_12 : decode cX2_bellsToRing 12 = .ok (.istore_n 1, 1) := by decide +kernel
theorem dX2_bellsToRing_13 : decode cX2_bellsToRing 13 = .ok (.iload_n 1, 1) := by decide +kernel
theorem dX2_bellsToRing_14 : decode cX2_bellsToRing 14 = .ok (.bipush 60, 2) := by decide +kernel
theorem dX2_bellsToRing_16 : decode cX2_bellsToRing 16 = .ok (.if_icmp .gt 26, 3) := by decide +kernel
theorem dX2_bellsToRing_19 : decode cX2_bellsToRing 19 = .ok (.aload_n 0, 1) := by decide +kernel
theorem dX2_bellsToRing_20 : decode cX2_bellsToRing 20 = .ok (.getfield 12, 3) := by decide +kernel
theorem dX2_bellsToRing_23 : decode cX2_bellsToRing 23 = .ok (.invokevirtual 43, 3) := by decide +kernel
theorem dX2_bellsToRing_26 : decode cX2_bellsToRing 26 = .ok (.pop, 1) := by decide +kernel
theorem dX2_bellsToRing_27 : decode cX2_bellsToRing 27 = .ok (.aload_n 0, 1) := by decide +kernel
theorem dX2_bellsToRing_28 : decode cX2_bellsToRing 28 = .ok (.invokevirtual 57, 3) := by decide +kernel
theorem dX2_bellsToRing_31 : decode cX2_bellsToRing 31 = .ok (.ifCond .eq 5, 3) := by decide +kernel
theorem dX2_bellsToRing_34 : decode cX2_bellsToRing 34 = .ok (.iload_n 1, 1) := by decide +kernel
theorem dX2_bellsToRing_35 : decode cX2_bellsToRing 35 = .ok (.ireturn, 1) := by decide +kernel
theorem dX2_bellsToRing_36 : decode cX2_bellsToRing 36 = .ok (.iinc 1 1, 3) := by decide +kernel
theorem dX2_bellsToRing_39 : decode cX2_bellsToRing 39 = .ok (.goto (-26), 3) := by decide +kernel
theorem dX2_bellsToRing_42 : decode cX2_bellsToRing 42 = .ok (.ldc 56, 2) := by decide +kernel
theorem dX2_bellsToRing_44 : decode cX2_bellsToRing 44 = .ok (.ireturn, 1) := by decide +kernel
theorem dX2_findHired_0 : decode cX2_findHired 0 = .ok (.iconst 0, 1) := by decide +kernel
theorem dX2_findHired_1 : decode cX2_findHired 1 = .ok (.istore 4, 2) := by decide +kernel
theorem dX2_findHired_3 : decode cX2_findHired 3 = .ok (.iload 4, 2) := by decide +kernel
theorem dX2_findHired_5 : decode cX2_findHired 5 = .ok (.bipush 60, 2) := by decide +kernel
theorem dX2_findHired_7 : decode cX2_findHired 7 = .ok (.if_icmp .gt 98, 3) := by decide +kernel
theorem dX2_findHired_10 : decode cX2_findHired 10 = .ok (.iload 4, 2) := by decide +kernel
theorem dX2_findHired_12 : decode cX2_findHired 12 = .ok (.ifCond .ne 7, 3) := by decide +kernel
theorem dX2_findHired_15 : decode cX2_findHired 15 = .ok (.iconst 1, 1) := by decide +kernel
theorem dX2_findHired_16 : decode cX2_findHired 16 = .ok (.goto 10, 3) := by decide +kernel
theorem dX2_findHired_19 : decode cX2_findHired 19 = .ok (.aload_n 0, 1) := by decide +kernel
theorem dX2_findHired_20 : decode cX2_findHired 20 = .ok (.getfield 25, 3) := by decide +kernel
theorem dX2_findHired_23 : decode cX2_findHired 23 = .ok (.getfield 61, 3) := by decide +kernel
theorem dX2_findHired_26 : decode cX2_findHired 26 = .ok (.istore 5, 2) := by decide +kernel
theorem dX2_findHired_28 : decode cX2_findHired 28 = .ok (.iconst 0, 1) := by decide +kernel
theorem dX2_findHired_29 : decode cX2_findHired 29 = .ok (.istore 6, 2) := by decide +kernel
theorem dX2_findHired_31 : decode cX2_findHired 31 = .ok (.iload 6, 2) := by decide +kernel
theorem dX2_findHired_33 : decode cX2_findHired 33 = .ok (.iload 5, 2) := by decide +kernel
theorem dX2_findHired_35 : decode cX2_findHired 35 = .ok (.if_icmp .ge 64, 3) := by decide +kernel
theorem dX2_findHired_38 : decode cX2_findHired 38 = .ok (.iload_n 3, 1) := by decide +kernel
theorem dX2_findHired_39 : decode cX2_findHired 39 = .ok (.ifCond .eq 18, 3) := by decide +kernel
theorem dX2_findHired_42 : decode cX2_findHired 42 = .ok (.iload 4, 2) := by decide +kernel
theorem dX2_findHired_44 : decode cX2_findHired 44 = .ok (.ifCond .le 13, 3) := by decide +kernel
theorem dX2_findHired_47 : decode cX2_findHired 47 = .ok (.iload 6, 2) := by decide +kernel
theorem dX2_findHired_49 : decode cX2_findHired 49 = .ok (.iload_n 1, 1) := by decide +kernel
theorem dX2_findHired_50 : decode cX2_findHired 50 = .ok (.if_icmp .ne 7, 3) := by decide +kernel
theorem dX2_findHired_53 : decode cX2_findHired 53 = .ok (.iconst 1, 1) := by decide +kernel
theorem dX2_findHired_54 : decode cX2_findHired 54 = .ok (.goto 4, 3) := by decide +kernel
theorem dX2_findHired_57 : decode cX2_findHired 57 = .ok (.iconst 0, 1) := by decide +kernel
theorem dX2_findHired_58 : decode cX2_findHired 58 = .ok (.istore 7, 2) := by decide +kernel
theorem dX2_findHired_60 : decode cX2_findHired 60 = .ok (.iload 7, 2) := by decide +kernel
theorem dX2_findHired_62 : decode cX2_findHired 62 = .ok (.ifCond .ne 31, 3) := by decide +kernel
theorem dX2_findHired_65 : decode cX2_findHired 65 = .ok (.aload_n 0, 1) := by decide +kernel
theorem dX2_findHired_66 : decode cX2_findHired 66 = .ok (.iload_n 1, 1) := by decide +kernel
theorem dX2_findHired_67 : decode cX2_findHired 67 = .ok (.iload_n 2, 1) := by decide +kernel
theorem dX2_findHired_68 : decode cX2_findHired 68 = .ok (.iload_n 3, 1) := by decide +kernel
theorem dX2_findHired_69 : decode cX2_findHired 69 = .ok (.iload 4, 2) := by decide +kernel
theorem dX2_findHired_71 : decode cX2_findHired 71 = .ok (.iload 6, 2) := by decide +kernel
theorem dX2_findHired_73 : decode cX2_findHired 73 = .ok (.invokevirtual 65, 3) := by decide +kernel
theorem dX2_findHired_76 : decode cX2_findHired 76 = .ok (.ifCond .eq 17, 3) := by decide +kernel
theorem dX2_findHired_79 : decode cX2_findHired 79 = .ok (.aload_n 0, 1) := by decide +kernel
theorem dX2_findHired_80 : decode cX2_findHired 80 = .ok (.iload 4, 2) := by decide +kernel
theorem dX2_findHired_82 : decode cX2_findHired 82 = .ok (.putfield 69, 3) := by decide +kernel
theorem dX2_findHired_85 : decode cX2_findHired 85 = .ok (.aload_n 0, 1) := by decide +kernel
theorem dX2_findHired_86 : decode cX2_findHired 86 = .ok (.iload 6, 2) := by decide +kernel
theorem dX2_findHired_88 : decode cX2_findHired 88 = .ok (.putfield 72, 3) := by decide +kernel
theorem dX2_findHired_91 : decode cX2_findHired 91 = .ok (.iconst 1, 1) := by decide +kernel
theorem dX2_findHired_92 : decode cX2_findHired 92 = .ok (.ireturn, 1) := by decide +kernel
theorem dX2_findHired_93 : decode cX2_findHired 93 = .ok (.iinc 6 1, 3) := by decide +kernel
theorem dX2_findHired_96 : decode cX2_findHired 96 = .ok (.goto (-65), 3) := by decide +kernel
theorem dX2_findHired_99 : decode cX2_findHired 99 = .ok (.iinc 4 1, 3) := by decide +kernel
theorem dX2_findHired_102 : decode cX2_findHired 102 = .ok (.goto (-99), 3) := by decide +kernel
theorem dX2_findHired_105 : decode cX2_findHired 105 = .ok (.iconst 0, 1) := by decide +kernel
theorem dX2_findHired_106 : decode cX2_findHired 106 = .ok (.ireturn, 1) := by decide +kernel
theorem dX2_doorToShut_0 : decode cX2_doorToShut 0 = .ok (.aload_n 0, 1) := by decide +kernel
theorem dX2_doorToShut_1 : decode cX2_doorToShut 1 = .ok (.getfield 12, 3) := by decide +kernel
theorem dX2_doorToShut_4 : decode cX2_doorToShut 4 = .ok (.aload_n 0, 1) := by decide +kernel
theorem dX2_doorToShut_5 : decode cX2_doorToShut 5 = .ok (.getfield 25, 3) := by decide +kernel
theorem dX2_doorToShut_8 : decode cX2_doorToShut 8 = .ok (.invokevirtual 28, 3) := by decide +kernel
theorem dX2_doorToShut_11 : decode cX2_doorToShut 11 = .ok (.aload_n 0, 1) := by decide +kernel
theorem dX2_doorToShut_12 : decode cX2_doorToShut 12 = .ok (.iload_n 1, 1) := by decide +kernel
theorem dX2_doorToShut_13 : decode cX2_doorToShut 13 = .ok (.iload_n 2, 1) := by decide +kernel
theorem dX2_doorToShut_14 : decode cX2_doorToShut 14 = .ok (.iload_n 3, 1) := by decide +kernel
theorem dX2_doorToShut_15 : decode cX2_doorToShut 15 = .ok (.invokevirtual 75, 3) := by decide +kernel
theorem dX2_doorToShut_18 : decode cX2_doorToShut 18 = .ok (.ifCond .ne 5, 3) := by decide +kernel
theorem dX2_doorToShut_21 : decode cX2_doorToShut 21 = .ok (.iconst (-1), 1) := by decide +kernel
theorem dX2_doorToShut_22 : decode cX2_doorToShut 22 = .ok (.ireturn, 1) := by decide +kernel
theorem dX2_doorToShut_23 : decode cX2_doorToShut 23 = .ok (.iconst 0, 1) := by decide +kernel
theorem dX2_doorToShut_24 : decode cX2_doorToShut 24 = .ok (.istore 4, 2) := by decide +kernel
theorem dX2_doorToShut_26 : decode cX2_doorToShut 26 = .ok (.iload 4, 2) := by decide +kernel
theorem dX2_doorToShut_28 : decode cX2_doorToShut 28 = .ok (.aload_n 0, 1) := by decide +kernel
theorem dX2_doorToShut_29 : decode cX2_doorToShut 29 = .ok (.getfield 25, 3) := by decide +kernel
theorem dX2_doorToShut_32 : decode cX2_doorToShut 32 = .ok (.getfield 61, 3) := by decide +kernel
theorem dX2_doorToShut_35 : decode cX2_doorToShut 35 = .ok (.if_icmp .ge 71, 3) := by decide +kernel
theorem dX2_doorToShut_38 : decode cX2_doorToShut 38 = .ok (.iload 4, 2) := by decide +kernel
theorem dX2_doorToShut_40 : decode cX2_doorToShut 40 = .ok (.iconst 1, 1) := by decide +kernel
theorem dX2_doorToShut_41 : decode cX2_doorToShut 41 = .ok (.iadd, 1) := by decide +kernel
theorem dX2_doorToShut_42 : decode cX2_doorToShut 42 = .ok (.istore 5, 2) := by decide +kernel
theorem dX2_doorToShut_44 : decode cX2_doorToShut 44 = .ok (.iload 5, 2) := by decide +kernel
theorem dX2_doorToShut_46 : decode cX2_doorToShut 46 = .ok (.aload_n 0, 1) := by decide +kernel
theorem dX2_doorToShut_47 : decode cX2_doorToShut 47 = .ok (.getfield 25, 3) := by decide +kernel
theorem dX2_doorToShut_50 : decode cX2_doorToShut 50 = .ok (.getfield 61, 3) := by decide +kernel
theorem dX2_doorToShut_53 : decode cX2_doorToShut 53 = .ok (.if_icmp .ge 47, 3) := by decide +kernel
theorem dX2_doorToShut_56 : decode cX2_doorToShut 56 = .ok (.aload_n 0, 1) := by decide +kernel
theorem dX2_doorToShut_57 : decode cX2_doorToShut 57 = .ok (.getfield 25, 3) := by decide +kernel
theorem dX2_doorToShut_60 : decode cX2_doorToShut 60 = .ok (.iload 4, 2) := by decide +kernel
theorem dX2_doorToShut_62 : decode cX2_doorToShut 62 = .ok (.iload 5, 2) := by decide +kernel
theorem dX2_doorToShut_64 : decode cX2_doorToShut 64 = .ok (.invokevirtual 79, 3) := by decide +kernel
theorem dX2_doorToShut_67 : decode cX2_doorToShut 67 = .ok (.iconst 1, 1) := by decide +kernel
theorem dX2_doorToShut_68 : decode cX2_doorToShut 68 = .ok (.if_icmp .ne 26, 3) := by decide +kernel
theorem dX2_doorToShut_71 : decode cX2_doorToShut 71 = .ok (.aload_n 0, 1) := by decide +kernel
theorem dX2_doorToShut_72 : decode cX2_doorToShut 72 = .ok (.iload 4, 2) := by decide +kernel
theorem dX2_doorToShut_74 : decode cX2_doorToShut 74 = .ok (.iload 5, 2) := by decide +kernel
theorem dX2_doorToShut_76 : decode cX2_doorToShut 76 = .ok (.iload_n 1, 1) := by decide +kernel
theorem dX2_doorToShut_77 : decode cX2_doorToShut 77 = .ok (.iload_n 2, 1) := by decide +kernel
theorem dX2_doorToShut_78 : decode cX2_doorToShut 78 = .ok (.iload_n 3, 1) := by decide +kernel
theorem dX2_doorToShut_79 : decode cX2_doorToShut 79 = .ok (.invokevirtual 82, 3) := by decide +kernel
theorem dX2_doorToShut_82 : decode cX2_doorToShut 82 = .ok (.ifCond .eq 12, 3) := by decide +kernel
theorem dX2_doorToShut_85 : decode cX2_doorToShut 85 = .ok (.bipush 6, 2) := by decide +kernel
theorem dX2_doorToShut_87 : decode cX2_doorToShut 87 = .ok (.iload 4, 2) := by decide +kernel
theorem dX2_doorToShut_89 : decode cX2_doorToShut 89 = .ok (.imul, 1) := by decide +kernel
theorem dX2_doorToShut_90 : decode cX2_doorToShut 90 = .ok (.iload 5, 2) := by decide +kernel
theorem dX2_doorToShut_92 : decode cX2_doorToShut 92 = .ok (.iadd, 1) := by decide +kernel
theorem dX2_doorToShut_93 : decode cX2_doorToShut 93 = .ok (.ireturn, 1) := by decide +kernel
theorem dX2_doorToShut_94 : decode cX2_doorToShut 94 = .ok (.iinc 5 1, 3) := by decide +kernel
theorem dX2_doorToShut_97 : decode cX2_doorToShut 97 = .ok (.goto (-53), 3) := by decide +kernel
theorem dX2_doorToShut_100 : decode cX2_doorToShut 100 = .ok (.iinc 4 1, 3) := by decide +kernel
theorem dX2_doorToShut_103 : decode cX2_doorToShut 103 = .ok (.goto (-77), 3) := by decide +kernel
theorem dX2_doorToShut_106 : decode cX2_doorToShut 106 = .ok (.ldc 56, 2) := by decide +kernel
theorem dX2_doorToShut_108 : decode cX2_doorToShut 108 = .ok (.ireturn, 1) := by decide +kernel
theorem dX2_findBeginnings_0 : decode cX2_findBeginnings 0 = .ok (.aload_n 0, 1) := by decide +kernel
theorem dX2_findBeginnings_1 : decode cX2_findBeginnings 1 = .ok (.iconst 0, 1) := by decide +kernel
theorem dX2_findBeginnings_2 : decode cX2_findBeginnings 2 = .ok (.putfield 86, 3) := by decide +kernel
theorem dX2_findBeginnings_5 : decode cX2_findBeginnings 5 = .ok (.aload_n 0, 1) := by decide +kernel
theorem dX2_findBeginnings_6 : decode cX2_findBeginnings 6 = .ok (.iload_n 1, 1) := by decide +kernel
theorem dX2_findBeginnings_7 : decode cX2_findBeginnings 7 = .ok (.invokevirtual 89, 3) := by decide +kernel
theorem dX2_findBeginnings_10 : decode cX2_findBeginnings 10 = .ok (.aload_n 0, 1) := by decide +kernel
theorem dX2_findBeginnings_11 : decode cX2_findBeginnings 11 = .ok (.getfield 12, 3) := by decide +kernel
theorem dX2_findBeginnings_14 : decode cX2_findBeginnings 14 = .ok (.aload_n 0, 1) := by decide +kernel
theorem dX2_findBeginnings_15 : decode cX2_findBeginnings 15 = .ok (.getfield 25, 3) := by decide +kernel
theorem dX2_findBeginnings_18 : decode cX2_findBeginnings 18 = .ok (.invokevirtual 28, 3) := by decide +kernel
theorem dX2_findBeginnings_21 : decode cX2_findBeginnings 21 = .ok (.iconst 1, 1) := by decide +kernel
theorem dX2_findBeginnings_22 : decode cX2_findBeginnings 22 = .ok (.istore_n 2, 1) := by decide +kernel
theorem dX2_findBeginnings_23 : decode cX2_findBeginnings 23 = .ok (.iconst 0, 1) := by decide +kernel
theorem dX2_findBeginnings_24 : decode cX2_findBeginnings 24 = .ok (.istore_n 3, 1) := by decide +kernel
theorem dX2_findBeginnings_25 : decode cX2_findBeginnings 25 = .ok (.iload_n 3, 1) := by decide +kernel
theorem dX2_findBeginnings_26 : decode cX2_findBeginnings 26 = .ok (.aload_n 0, 1) := by decide +kernel
theorem dX2_findBeginnings_27 : decode cX2_findBeginnings 27 = .ok (.getfield 25, 3) := by decide +kernel
theorem dX2_findBeginnings_30 : decode cX2_findBeginnings 30 = .ok (.getfield 92, 3) := by decide +kernel
theorem dX2_findBeginnings_33 : decode cX2_findBeginnings 33 = .ok (.if_icmp .ge 19, 3) := by decide +kernel
theorem dX2_findBeginnings_36 : decode cX2_findBeginnings 36 = .ok (.iload_n 2, 1) := by decide +kernel
theorem dX2_findBeginnings_37 : decode cX2_findBeginnings 37 = .ok (.aload_n 0, 1) := by decide +kernel
theorem dX2_findBeginnings_38 : decode cX2_findBeginnings 38 = .ok (.getfield 25, 3) := by decide +kernel
theorem dX2_findBeginnings_41 : decode cX2_findBeginnings 41 = .ok (.getfield 61, 3) := by decide +kernel
theorem dX2_findBeginnings_44 : decode cX2_findBeginnings 44 = .ok (.imul, 1) := by decide +kernel
theorem dX2_findBeginnings_45 : decode cX2_findBeginnings 45 = .ok (.istore_n 2, 1) := by decide +kernel
theorem dX2_findBeginnings_46 : decode cX2_findBeginnings 46 = .ok (.iinc 3 1, 3) := by decide +kernel
theorem dX2_findBeginnings_49 : decode cX2_findBeginnings 49 = .ok (.goto (-24), 3) := by decide +kernel
theorem dX2_findBeginnings_52 : decode cX2_findBeginnings 52 = .ok (.iconst 0, 1) := by decide +kernel
theorem dX2_findBeginnings_53 : decode cX2_findBeginnings 53 = .ok (.istore_n 3, 1) := by decide +kernel
theorem dX2_findBeginnings_54 : decode cX2_findBeginnings 54 = .ok (.iload_n 3, 1) := by decide +kernel
theorem dX2_findBeginnings_55 : decode cX2_findBeginnings 55 = .ok (.iload_n 2, 1) := by decide +kernel
theorem dX2_findBeginnings_56 : decode cX2_findBeginnings 56 = .ok (.if_icmp .ge 42, 3) := by decide +kernel
theorem dX2_findBeginnings_59 : decode cX2_findBeginnings 59 = .ok (.aload_n 0, 1) := by decide +kernel
theorem dX2_findBeginnings_60 : decode cX2_findBeginnings 60 = .ok (.iload_n 3, 1) := by decide +kernel
theorem dX2_findBeginnings_61 : decode cX2_findBeginnings 61 = .ok (.invokevirtual 95, 3) := by decide +kernel
theorem dX2_findBeginnings_64 : decode cX2_findBeginnings 64 = .ok (.ifCond .eq 28, 3) := by decide +kernel
theorem dX2_findBeginnings_67 : decode cX2_findBeginnings 67 = .ok (.aload_n 0, 1) := by decide +kernel
theorem dX2_findBeginnings_68 : decode cX2_findBeginnings 68 = .ok (.getfield 12, 3) := by decide +kernel
theorem dX2_findBeginnings_71 : decode cX2_findBeginnings 71 = .ok (.iconst 0, 1) := by decide +kernel
theorem dX2_findBeginnings_72 : decode cX2_findBeginnings 72 = .ok (.putfield 99, 3) := by decide +kernel
theorem dX2_findBeginnings_75 : decode cX2_findBeginnings 75 = .ok (.aload_n 0, 1) := by decide +kernel
theorem dX2_findBeginnings_76 : decode cX2_findBeginnings 76 = .ok (.iload_n 1, 1) := by decide +kernel
theorem dX2_findBeginnings_77 : decode cX2_findBeginnings 77 = .ok (.invokevirtual 32, 3) := by decide +kernel
theorem dX2_findBeginnings_80 : decode cX2_findBeginnings 80 = .ok (.aload_n 0, 1) := by decide +kernel
theorem dX2_findBeginnings_81 : decode cX2_findBeginnings 81 = .ok (.invokevirtual 57, 3) := by decide +kernel
theorem dX2_findBeginnings_84 : decode cX2_findBeginnings 84 = .ok (.ifCond .eq 8, 3) := by decide +kernel
theorem dX2_findBeginnings_87 : decode cX2_findBeginnings 87 = .ok (.aload_n 0, 1) := by decide +kernel
theorem dX2_findBeginnings_88 : decode cX2_findBeginnings 88 = .ok (.iload_n 3, 1) := by decide +kernel
theorem dX2_findBeginnings_89 : decode cX2_findBeginnings 89 = .ok (.invokevirtual 102, 3) := by decide +kernel
theorem dX2_findBeginnings_92 : decode cX2_findBeginnings 92 = .ok (.iinc 3 1, 3) := by decide +kernel
theorem dX2_findBeginnings_95 : decode cX2_findBeginnings 95 = .ok (.goto (-41), 3) := by decide +kernel
theorem dX2_findBeginnings_98 : decode cX2_findBeginnings 98 = .ok (.return_, 1) := by decide +kernel
theorem dX2_ringTimes_0 : decode cX2_ringTimes 0 = .ok (.iconst 0, 1) := by decide +kernel
theorem dX2_ringTimes_1 : decode cX2_ringTimes 1 = .ok (.istore_n 2, 1) := by decide +kernel
theorem dX2_ringTimes_2 : decode cX2_ringTimes 2 = .ok (.iload_n 2, 1) := by decide +kernel
theorem dX2_ringTimes_3 : decode cX2_ringTimes 3 = .ok (.iload_n 1, 1) := by decide +kernel
theorem dX2_ringTimes_4 : decode cX2_ringTimes 4 = .ok (.if_icmp .ge 17, 3) := by decide +kernel
theorem dX2_ringTimes_7 : decode cX2_ringTimes 7 = .ok (.aload_n 0, 1) := by decide +kernel
theorem dX2_ringTimes_8 : decode cX2_ringTimes 8 = .ok (.getfield 12, 3) := by decide +kernel
theorem dX2_ringTimes_11 : decode cX2_ringTimes 11 = .ok (.invokevirtual 43, 3) := by decide +kernel
theorem dX2_ringTimes_14 : decode cX2_ringTimes 14 = .ok (.pop, 1) := by decide +kernel
theorem dX2_ringTimes_15 : decode cX2_ringTimes 15 = .ok (.iinc 2 1, 3) := by decide +kernel
theorem dX2_ringTimes_18 : decode cX2_ringTimes 18 = .ok (.goto (-16), 3) := by decide +kernel
theorem dX2_ringTimes_21 : decode cX2_ringTimes 21 = .ok (.return_, 1) := by decide +kernel
theorem dX2_allAsNow_0 : decode cX2_allAsNow 0 = .ok (.iconst 0, 1) := by decide +kernel
theorem dX2_allAsNow_1 : decode cX2_allAsNow 1 = .ok (.istore_n 1, 1) := by decide +kernel
theorem dX2_allAsNow_2 : decode cX2_allAsNow 2 = .ok (.iload_n 1, 1) := by decide +kernel
theorem dX2_allAsNow_3 : decode cX2_allAsNow 3 = .ok (.aload_n 0, 1) := by decide +kernel
theorem dX2_allAsNow_4 : decode cX2_allAsNow 4 = .ok (.getfield 25, 3) := by decide +kernel
theorem dX2_allAsNow_7 : decode cX2_allAsNow 7 = .ok (.getfield 92, 3) := by decide +kernel
theorem dX2_allAsNow_10 : decode cX2_allAsNow 10 = .ok (.if_icmp .ge 32, 3) := by decide +kernel
theorem dX2_allAsNow_13 : decode cX2_allAsNow 13 = .ok (.aload_n 0, 1) := by decide +kernel
theorem dX2_allAsNow_14 : decode cX2_allAsNow 14 = .ok (.getfield 12, 3) := by decide +kernel
theorem dX2_allAsNow_17 : decode cX2_allAsNow 17 = .ok (.getfield 36, 3) := by decide +kernel
theorem dX2_allAsNow_20 : decode cX2_allAsNow 20 = .ok (.iload_n 1, 1) := by decide +kernel
theorem dX2_allAsNow_21 : decode cX2_allAsNow 21 = .ok (.iaload, 1) := by decide +kernel
theorem dX2_allAsNow_22 : decode cX2_allAsNow 22 = .ok (.aload_n 0, 1) := by decide +kernel
theorem dX2_allAsNow_23 : decode cX2_allAsNow 23 = .ok (.getfield 25, 3) := by decide +kernel
theorem dX2_allAsNow_26 : decode cX2_allAsNow 26 = .ok (.getfield 36, 3) := by decide +kernel
theorem dX2_allAsNow_29 : decode cX2_allAsNow 29 = .ok (.iload_n 1, 1) := by decide +kernel
theorem dX2_allAsNow_30 : decode cX2_allAsNow 30 = .ok (.iaload, 1) := by decide +kernel
theorem dX2_allAsNow_31 : decode cX2_allAsNow 31 = .ok (.if_icmp .eq 5, 3) := by decide +kernel
theorem dX2_allAsNow_34 : decode cX2_allAsNow 34 = .ok (.iconst 0, 1) := by decide +kernel
theorem dX2_allAsNow_35 : decode cX2_allAsNow 35 = .ok (.ireturn, 1) := by decide +kernel
theorem dX2_allAsNow_36 : decode cX2_allAsNow 36 = .ok (.iinc 1 1, 3) := by decide +kernel
theorem dX2_allAsNow_39 : decode cX2_allAsNow 39 = .ok (.goto (-37), 3) := by decide +kernel
theorem dX2_allAsNow_42 : decode cX2_allAsNow 42 = .ok (.iconst 1, 1) := by decide +kernel
theorem dX2_allAsNow_43 : decode cX2_allAsNow 43 = .ok (.ireturn, 1) := by decide +kernel
theorem dX2_succeeds_0 : decode cX2_succeeds 0 = .ok (.aload_n 0, 1) := by decide +kernel
theorem dX2_succeeds_1 : decode cX2_succeeds 1 = .ok (.getfield 12, 3) := by decide +kernel
theorem dX2_succeeds_4 : decode cX2_succeeds 4 = .ok (.aload_n 0, 1) := by decide +kernel
theorem dX2_succeeds_5 : decode cX2_succeeds 5 = .ok (.getfield 25, 3) := by decide +kernel
theorem dX2_succeeds_8 : decode cX2_succeeds 8 = .ok (.invokevirtual 28, 3) := by decide +kernel
theorem dX2_succeeds_11 : decode cX2_succeeds 11 = .ok (.aload_n 0, 1) := by decide +kernel
theorem dX2_succeeds_12 : decode cX2_succeeds 12 = .ok (.getfield 12, 3) := by decide +kernel
theorem dX2_succeeds_15 : decode cX2_succeeds 15 = .ok (.iload 4, 2) := by decide +kernel
theorem dX2_succeeds_17 : decode cX2_succeeds 17 = .ok (.iload 5, 2) := by decide +kernel
theorem dX2_succeeds_19 : decode cX2_succeeds 19 = .ok (.invokevirtual 105, 3) := by decide +kernel
theorem dX2_succeeds_22 : decode cX2_succeeds 22 = .ok (.aload_n 0, 1) := by decide +kernel
theorem dX2_succeeds_23 : decode cX2_succeeds 23 = .ok (.iload_n 2, 1) := by decide +kernel
theorem dX2_succeeds_24 : decode cX2_succeeds 24 = .ok (.invokevirtual 32, 3) := by decide +kernel
theorem dX2_succeeds_27 : decode cX2_succeeds 27 = .ok (.iconst 0, 1) := by decide +kernel
theorem dX2_succeeds_28 : decode cX2_succeeds 28 = .ok (.istore 6, 2) := by decide +kernel
theorem dX2_succeeds_30 : decode cX2_succeeds 30 = .ok (.iload 6, 2) := by decide +kernel
theorem dX2_succeeds_32 : decode cX2_succeeds 32 = .ok (.aload_n 0, 1) := by decide +kernel
theorem dX2_succeeds_33 : decode cX2_succeeds 33 = .ok (.getfield 25, 3) := by decide +kernel
theorem dX2_succeeds_36 : decode cX2_succeeds 36 = .ok (.getfield 92, 3) := by decide +kernel
theorem dX2_succeeds_39 : decode cX2_succeeds 39 = .ok (.if_icmp .ge 63, 3) := by decide +kernel
theorem dX2_succeeds_42 : decode cX2_succeeds 42 = .ok (.aload_n 0, 1) := by decide +kernel
theorem dX2_succeeds_43 : decode cX2_succeeds 43 = .ok (.getfield 12, 3) := by decide +kernel
theorem dX2_succeeds_46 : decode cX2_succeeds 46 = .ok (.getfield 36, 3) := by decide +kernel
theorem dX2_succeeds_49 : decode cX2_succeeds 49 = .ok (.iload 6, 2) := by decide +kernel
theorem dX2_succeeds_51 : decode cX2_succeeds 51 = .ok (.iaload, 1) := by decide +kernel
theorem dX2_succeeds_52 : decode cX2_succeeds 52 = .ok (.iload_n 1, 1) := by decide +kernel
theorem dX2_succeeds_53 : decode cX2_succeeds 53 = .ok (.if_icmp .ne 7, 3) := by decide +kernel
theorem dX2_succeeds_56 : decode cX2_succeeds 56 = .ok (.iconst 1, 1) := by decide +kernel
theorem dX2_succeeds_57 : decode cX2_succeeds 57 = .ok (.goto 4, 3) := by decide +kernel
theorem dX2_succeeds_60 : decode cX2_succeeds 60 = .ok (.iconst 0, 1) := by decide +kernel
theorem dX2_succeeds_61 : decode cX2_succeeds 61 = .ok (.istore 7, 2) := by decide +kernel
theorem dX2_succeeds_63 : decode cX2_succeeds 63 = .ok (.iload_n 3, 1) := by decide +kernel
theorem dX2_succeeds_64 : decode cX2_succeeds 64 = .ok (.ifCond .eq 11, 3) := by decide +kernel
theorem dX2_succeeds_67 : decode cX2_succeeds 67 = .ok (.iload 7, 2) := by decide +kernel
theorem dX2_succeeds_69 : decode cX2_succeeds 69 = .ok (.ifCond .eq 27, 3) := by decide +kernel
theorem dX2_succeeds_72 : decode cX2_succeeds 72 = .ok (.goto 22, 3) := by decide +kernel
theorem dX2_succeeds_75 : decode cX2_succeeds 75 = .ok (.iload 7, 2) := by decide +kernel
theorem dX2_succeeds_77 : decode cX2_succeeds 77 = .ok (.ifCond .ne 19, 3) := by decide +kernel
theorem dX2_succeeds_80 : decode cX2_succeeds 80 = .ok (.aload_n 0, 1) := by decide +kernel
theorem dX2_succeeds_81 : decode cX2_succeeds 81 = .ok (.getfield 25, 3) := by decide +kernel
theorem dX2_succeeds_84 : decode cX2_succeeds 84 = .ok (.getfield 109, 3) := by decide +kernel
theorem dX2_succeeds_87 : decode cX2_succeeds 87 = .ok (.iload 6, 2) := by decide +kernel
theorem dX2_succeeds_89 : decode cX2_succeeds 89 = .ok (.iaload, 1) := by decide +kernel
theorem dX2_succeeds_90 : decode cX2_succeeds 90 = .ok (.iconst 4, 1) := by decide +kernel
theorem dX2_succeeds_91 : decode cX2_succeeds 91 = .ok (.if_icmp .eq 5, 3) := by decide +kernel
theorem dX2_succeeds_94 : decode cX2_succeeds 94 = .ok (.iconst 0, 1) := by decide +kernel
theorem dX2_succeeds_95 : decode cX2_succeeds 95 = .ok (.ireturn, 1) := by decide +kernel
theorem dX2_succeeds_96 : decode cX2_succeeds 96 = .ok (.iinc 6 1, 3) := by decide +kernel
theorem dX2_succeeds_99 : decode cX2_succeeds 99 = .ok (.goto (-69), 3) := by decide +kernel
theorem dX2_succeeds_102 : decode cX2_succeeds 102 = .ok (.iconst 1, 1) := by decide +kernel
theorem dX2_succeeds_103 : decode cX2_succeeds 103 = .ok (.ireturn, 1) := by decide +kernel
theorem dX2_partedBy_0 : decode cX2_partedBy 0 = .ok (.aload_n 0, 1) := by decide +kernel
theorem dX2_partedBy_1 : decode cX2_partedBy 1 = .ok (.getfield 12, 3) := by decide +kernel
theorem dX2_partedBy_4 : decode cX2_partedBy 4 = .ok (.aload_n 0, 1) := by decide +kernel
theorem dX2_partedBy_5 : decode cX2_partedBy 5 = .ok (.getfield 25, 3) := by decide +kernel
theorem dX2_partedBy_8 : decode cX2_partedBy 8 = .ok (.invokevirtual 28, 3) := by decide +kernel
theorem dX2_partedBy_11 : decode cX2_partedBy 11 = .ok (.aload_n 0, 1) := by decide +kernel
theorem dX2_partedBy_12 : decode cX2_partedBy 12 = .ok (.getfield 12, 3) := by decide +kernel
theorem dX2_partedBy_15 : decode cX2_partedBy 15 = .ok (.iload_n 1, 1) := by decide +kernel
theorem dX2_partedBy_16 : decode cX2_partedBy 16 = .ok (.iload_n 2, 1) := by decide +kernel
theorem dX2_partedBy_17 : decode cX2_partedBy 17 = .ok (.iconst 0, 1) := by decide +kernel
theorem dX2_partedBy_18 : decode cX2_partedBy 18 = .ok (.invokevirtual 112, 3) := by decide +kernel
theorem dX2_partedBy_21 : decode cX2_partedBy 21 = .ok (.aload_n 0, 1) := by decide +kernel
theorem dX2_partedBy_22 : decode cX2_partedBy 22 = .ok (.iload_n 3, 1) := by decide +kernel
theorem dX2_partedBy_23 : decode cX2_partedBy 23 = .ok (.iload 4, 2) := by decide +kernel
theorem dX2_partedBy_25 : decode cX2_partedBy 25 = .ok (.iload 5, 2) := by decide +kernel
theorem dX2_partedBy_27 : decode cX2_partedBy 27 = .ok (.invokevirtual 75, 3) := by decide +kernel
theorem dX2_partedBy_30 : decode cX2_partedBy 30 = .ok (.ifCond .ne 7, 3) := by decide +kernel
theorem dX2_partedBy_33 : decode cX2_partedBy 33 = .ok (.iconst 1, 1) := by decide +kernel
theorem dX2_partedBy_34 : decode cX2_partedBy 34 = .ok (.goto 4, 3) := by decide +kernel
theorem dX2_partedBy_37 : decode cX2_partedBy 37 = .ok (.iconst 0, 1) := by decide +kernel
theorem dX2_partedBy_38 : decode cX2_partedBy 38 = .ok (.ireturn, 1) := by decide +kernel
theorem dX2_meet_0 : decode cX2_meet 0 = .ok (.iconst 0, 1) := by decide +kernel
theorem dX2_meet_1 : decode cX2_meet 1 = .ok (.istore 4, 2) := by decide +kernel
theorem dX2_meet_3 : decode cX2_meet 3 = .ok (.iload 4, 2) := by decide +kernel
theorem dX2_meet_5 : decode cX2_meet 5 = .ok (.iload_n 3, 1) := by decide +kernel
theorem dX2_meet_6 : decode cX2_meet 6 = .ok (.if_icmp .ge 40, 3) := by decide +kernel
theorem dX2_meet_9 : decode cX2_meet 9 = .ok (.aload_n 0, 1) := by decide +kernel
theorem dX2_meet_10 : decode cX2_meet 10 = .ok (.getfield 12, 3) := by decide +kernel
theorem dX2_meet_13 : decode cX2_meet 13 = .ok (.invokevirtual 43, 3) := by decide +kernel
theorem dX2_meet_16 : decode cX2_meet 16 = .ok (.pop, 1) := by decide +kernel
theorem dX2_meet_17 : decode cX2_meet 17 = .ok (.aload_n 0, 1) := by decide +kernel
theorem dX2_meet_18 : decode cX2_meet 18 = .ok (.getfield 12, 3) := by decide +kernel
theorem dX2_meet_21 : decode cX2_meet 21 = .ok (.getfield 36, 3) := by decide +kernel
theorem dX2_meet_24 : decode cX2_meet 24 = .ok (.iload_n 1, 1) := by decide +kernel
theorem dX2_meet_25 : decode cX2_meet 25 = .ok (.iaload, 1) := by decide +kernel
theorem dX2_meet_26 : decode cX2_meet 26 = .ok (.aload_n 0, 1) := by decide +kernel
theorem dX2_meet_27 : decode cX2_meet 27 = .ok (.getfield 12, 3) := by decide +kernel
theorem dX2_meet_30 : decode cX2_meet 30 = .ok (.getfield 36, 3) := by decide +kernel
theorem dX2_meet_33 : decode cX2_meet 33 = .ok (.iload_n 2, 1) := by decide +kernel
theorem dX2_meet_34 : decode cX2_meet 34 = .ok (.iaload, 1) := by decide +kernel
theorem dX2_meet_35 : decode cX2_meet 35 = .ok (.if_icmp .ne 5, 3) := by decide +kernel
theorem dX2_meet_38 : decode cX2_meet 38 = .ok (.iconst 1, 1) := by decide +kernel
theorem dX2_meet_39 : decode cX2_meet 39 = .ok (.ireturn, 1) := by decide +kernel
theorem dX2_meet_40 : decode cX2_meet 40 = .ok (.iinc 4 1, 3) := by decide +kernel
theorem dX2_meet_43 : decode cX2_meet 43 = .ok (.goto (-40), 3) := by decide +kernel
theorem dX2_meet_46 : decode cX2_meet 46 = .ok (.iconst 0, 1) := by decide +kernel
theorem dX2_meet_47 : decode cX2_meet 47 = .ok (.ireturn, 1) := by decide +kernel
theorem dX2_findSources_0 : decode cX2_findSources 0 = .ok (.iconst 0, 1) := by decide +kernel
theorem dX2_findSources_1 : decode cX2_findSources 1 = .ok (.istore_n 2, 1) := by decide +kernel
theorem dX2_findSources_2 : decode cX2_findSources 2 = .ok (.iload_n 2, 1) := by decide +kernel
theorem dX2_findSources_3 : decode cX2_findSources 3 = .ok (.aload_n 0, 1) := by decide +kernel
theorem dX2_findSources_4 : decode cX2_findSources 4 = .ok (.getfield 25, 3) := by decide +kernel
theorem dX2_findSources_7 : decode cX2_findSources 7 = .ok (.getfield 92, 3) := by decide +kernel
theorem dX2_findSources_10 : decode cX2_findSources 10 = .ok (.if_icmp .ge 64, 3) := by decide +kernel
theorem dX2_findSources_13 : decode cX2_findSources 13 = .ok (.iconst 1, 1) := by decide +kernel
theorem dX2_findSources_14 : decode cX2_findSources 14 = .ok (.aload_n 0, 1) := by decide +kernel
theorem dX2_findSources_15 : decode cX2_findSources 15 = .ok (.getfield 25, 3) := by decide +kernel
theorem dX2_findSources_18 : decode cX2_findSources 18 = .ok (.getfield 36, 3) := by decide +kernel
theorem dX2_findSources_21 : decode cX2_findSources 21 = .ok (.iload_n 2, 1) := by decide +kernel
theorem dX2_findSources_22 : decode cX2_findSources 22 = .ok (.iaload, 1) := by decide +kernel
theorem dX2_findSources_23 : decode cX2_findSources 23 = .ok (.ishl, 1) := by decide +kernel
theorem dX2_findSources_24 : decode cX2_findSources 24 = .ok (.istore_n 3, 1) := by decide +kernel
theorem dX2_findSources_25 : decode cX2_findSources 25 = .ok (.iconst 0, 1) := by decide +kernel
theorem dX2_findSources_26 : decode cX2_findSources 26 = .ok (.istore 4, 2) := by decide +kernel
theorem dX2_findSources_28 : decode cX2_findSources 28 = .ok (.iload 4, 2) := by decide +kernel
theorem dX2_findSources_30 : decode cX2_findSources 30 = .ok (.iload_n 1, 1) := by decide +kernel
theorem dX2_findSources_31 : decode cX2_findSources 31 = .ok (.if_icmp .ge 30, 3) := by decide +kernel
theorem dX2_findSources_34 : decode cX2_findSources 34 = .ok (.aload_n 0, 1) := by decide +kernel
theorem dX2_findSources_35 : decode cX2_findSources 35 = .ok (.getfield 25, 3) := by decide +kernel
theorem dX2_findSources_38 : decode cX2_findSources 38 = .ok (.getfield 109, 3) := by decide +kernel
theorem dX2_findSources_41 : decode cX2_findSources 41 = .ok (.iload_n 2, 1) := by decide +kernel
theorem dX2_findSources_42 : decode cX2_findSources 42 = .ok (.iaload, 1) := by decide +kernel
theorem dX2_findSources_43 : decode cX2_findSources 43 = .ok (.iconst 4, 1) := by decide +kernel
theorem dX2_findSources_44 : decode cX2_findSources 44 = .ok (.if_icmp .eq 17, 3) := by decide +kernel
theorem dX2_findSources_47 : decode cX2_findSources 47 = .ok (.iload_n 3, 1) := by decide +kernel
theorem dX2_findSources_48 : decode cX2_findSources 48 = .ok (.aload_n 0, 1) := by decide +kernel
theorem dX2_findSources_49 : decode cX2_findSources 49 = .ok (.iload_n 3, 1) := by decide +kernel
theorem dX2_findSources_50 : decode cX2_findSources 50 = .ok (.invokevirtual 116, 3) := by decide +kernel
theorem dX2_findSources_53 : decode cX2_findSources 53 = .ok (.ior, 1) := by decide +kernel
theorem dX2_findSources_54 : decode cX2_findSources 54 = .ok (.istore_n 3, 1) := by decide +kernel
theorem dX2_findSources_55 : decode cX2_findSources 55 = .ok (.iinc 4 1, 3) := by decide +kernel
theorem dX2_findSources_58 : decode cX2_findSources 58 = .ok (.goto (-30), 3) := by decide +kernel
theorem dX2_findSources_61 : decode cX2_findSources 61 = .ok (.aload_n 0, 1) := by decide +kernel
theorem dX2_findSources_62 : decode cX2_findSources 62 = .ok (.getfield 22, 3) := by decide +kernel
theorem dX2_findSources_65 : decode cX2_findSources 65 = .ok (.iload_n 2, 1) := by decide +kernel
theorem dX2_findSources_66 : decode cX2_findSources 66 = .ok (.iload_n 3, 1) := by decide +kernel
theorem dX2_findSources_67 : decode cX2_findSources 67 = .ok (.iastore, 1) := by decide +kernel
theorem dX2_findSources_68 : decode cX2_findSources 68 = .ok (.iinc 2 1, 3) := by decide +kernel
theorem dX2_findSources_71 : decode cX2_findSources 71 = .ok (.goto (-69), 3) := by decide +kernel
theorem dX2_findSources_74 : decode cX2_findSources 74 = .ok (.return_, 1) := by decide +kernel
theorem dX2_seenFrom_0 : decode cX2_seenFrom 0 = .ok (.iconst 0, 1) := by decide +kernel
theorem dX2_seenFrom_1 : decode cX2_seenFrom 1 = .ok (.istore_n 2, 1) := by decide +kernel
theorem dX2_seenFrom_2 : decode cX2_seenFrom 2 = .ok (.iconst 0, 1) := by decide +kernel
theorem dX2_seenFrom_3 : decode cX2_seenFrom 3 = .ok (.istore_n 3, 1) := by decide +kernel
theorem dX2_seenFrom_4 : decode cX2_seenFrom 4 = .ok (.iload_n 3, 1) := by decide +kernel
theorem dX2_seenFrom_5 : decode cX2_seenFrom 5 = .ok (.aload_n 0, 1) := by decide +kernel
theorem dX2_seenFrom_6 : decode cX2_seenFrom 6 = .ok (.getfield 25, 3) := by decide +kernel
theorem dX2_seenFrom_9 : decode cX2_seenFrom 9 = .ok (.getfield 61, 3) := by decide +kernel
theorem dX2_seenFrom_12 : decode cX2_seenFrom 12 = .ok (.if_icmp .ge 30, 3) := by decide +kernel
theorem dX2_seenFrom_15 : decode cX2_seenFrom 15 = .ok (.iload_n 1, 1) := by decide +kernel
theorem dX2_seenFrom_16 : decode cX2_seenFrom 16 = .ok (.iload_n 3, 1) := by decide +kernel
theorem dX2_seenFrom_17 : decode cX2_seenFrom 17 = .ok (.ishr, 1) := by decide +kernel
theorem dX2_seenFrom_18 : decode cX2_seenFrom 18 = .ok (.iconst 1, 1) := by decide +kernel
theorem dX2_seenFrom_19 : decode cX2_seenFrom 19 = .ok (.iand, 1) := by decide +kernel
theorem dX2_seenFrom_20 : decode cX2_seenFrom 20 = .ok (.iconst 1, 1) := by decide +kernel
theorem dX2_seenFrom_21 : decode cX2_seenFrom 21 = .ok (.if_icmp .ne 15, 3) := by decide +kernel
theorem dX2_seenFrom_24 : decode cX2_seenFrom 24 = .ok (.iload_n 2, 1) := by decide +kernel
theorem dX2_seenFrom_25 : decode cX2_seenFrom 25 = .ok (.aload_n 0, 1) := by decide +kernel
theorem dX2_seenFrom_26 : decode cX2_seenFrom 26 = .ok (.getfield 25, 3) := by decide +kernel
theorem dX2_seenFrom_29 : decode cX2_seenFrom 29 = .ok (.getfield 119, 3) := by decide +kernel
theorem dX2_seenFrom_32 : decode cX2_seenFrom 32 = .ok (.iload_n 3, 1) := by decide +kernel
theorem dX2_seenFrom_33 : decode cX2_seenFrom 33 = .ok (.iaload, 1) := by decide +kernel
theorem dX2_seenFrom_34 : decode cX2_seenFrom 34 = .ok (.ior, 1) := by decide +kernel
theorem dX2_seenFrom_35 : decode cX2_seenFrom 35 = .ok (.istore_n 2, 1) := by decide +kernel
theorem dX2_seenFrom_36 : decode cX2_seenFrom 36 = .ok (.iinc 3 1, 3) := by decide +kernel
theorem dX2_seenFrom_39 : decode cX2_seenFrom 39 = .ok (.goto (-35), 3) := by decide +kernel
theorem dX2_seenFrom_42 : decode cX2_seenFrom 42 = .ok (.iload_n 2, 1) := by decide +kernel
theorem dX2_seenFrom_43 : decode cX2_seenFrom 43 = .ok (.ireturn, 1) := by decide +kernel
theorem dX2_canBegin_0 : decode cX2_canBegin 0 = .ok (.iload_n 1, 1) := by decide +kernel
theorem dX2_canBegin_1 : decode cX2_canBegin 1 = .ok (.istore_n 2, 1) := by decide +kernel
theorem dX2_canBegin_2 : decode cX2_canBegin 2 = .ok (.aload_n 0, 1) := by decide +kernel
theorem dX2_canBegin_3 : decode cX2_canBegin 3 = .ok (.getfield 25, 3) := by decide +kernel
theorem dX2_canBegin_6 : decode cX2_canBegin 6 = .ok (.getfield 92, 3) := by decide +kernel
theorem dX2_canBegin_9 : decode cX2_canBegin 9 = .ok (.iconst 1, 1) := by decide +kernel
theorem dX2_canBegin_10 : decode cX2_canBegin 10 = .ok (.isub, 1) := by decide +kernel
theorem dX2_canBegin_11 : decode cX2_canBegin 11 = .ok (.istore_n 3, 1) := by decide +kernel
theorem dX2_canBegin_12 : decode cX2_canBegin 12 = .ok (.iload_n 3, 1) := by decide +kernel
theorem dX2_canBegin_13 : decode cX2_canBegin 13 = .ok (.ifCond .lt 67, 3) := by decide +kernel
theorem dX2_canBegin_16 : decode cX2_canBegin 16 = .ok (.aload_n 0, 1) := by decide +kernel
theorem dX2_canBegin_17 : decode cX2_canBegin 17 = .ok (.getfield 25, 3) := by decide +kernel
theorem dX2_canBegin_20 : decode cX2_canBegin 20 = .ok (.getfield 61, 3) := by decide +kernel
theorem dX2_canBegin_23 : decode cX2_canBegin 23 = .ok (.ifCond .le 57, 3) := by decide +kernel
theorem dX2_canBegin_26 : decode cX2_canBegin 26 = .ok (.iload_n 2, 1) := by decide +kernel
theorem dX2_canBegin_27 : decode cX2_canBegin 27 = .ok (.aload_n 0, 1) := by decide +kernel
theorem dX2_canBegin_28 : decode cX2_canBegin 28 = .ok (.getfield 25, 3) := by decide +kernel
theorem dX2_canBegin_31 : decode cX2_canBegin 31 = .ok (.getfield 61, 3) := by decide +kernel
theorem dX2_canBegin_34 : decode cX2_canBegin 34 = .ok (.irem, 1) := by decide +kernel
theorem dX2_canBegin_35 : decode cX2_canBegin 35 = .ok (.istore 4, 2) := by decide +kernel
theorem dX2_canBegin_37 : decode cX2_canBegin 37 = .ok (.aload_n 0, 1) := by decide +kernel
theorem dX2_canBegin_38 : decode cX2_canBegin 38 = .ok (.getfield 22, 3) := by decide +kernel
theorem dX2_canBegin_41 : decode cX2_canBegin 41 = .ok (.iload_n 3, 1) := by decide +kernel
theorem dX2_canBegin_42 : decode cX2_canBegin 42 = .ok (.iaload, 1) := by decide +kernel
theorem dX2_canBegin_43 : decode cX2_canBegin 43 = .ok (.iload 4, 2) := by decide +kernel
theorem dX2_canBegin_45 : decode cX2_canBegin 45 = .ok (.ishr, 1) := by decide +kernel
theorem dX2_canBegin_46 : decode cX2_canBegin 46 = .ok (.iconst 1, 1) := by decide +kernel
theorem dX2_canBegin_47 : decode cX2_canBegin 47 = .ok (.iand, 1) := by decide +kernel
theorem dX2_canBegin_48 : decode cX2_canBegin 48 = .ok (.ifCond .ne 5, 3) := by decide +kernel
theorem dX2_canBegin_51 : decode cX2_canBegin 51 = .ok (.iconst 0, 1) := by decide +kernel
theorem dX2_canBegin_52 : decode cX2_canBegin 52 = .ok (.ireturn, 1) := by decide +kernel
theorem dX2_canBegin_53 : decode cX2_canBegin 53 = .ok (.aload_n 0, 1) := by decide +kernel
theorem dX2_canBegin_54 : decode cX2_canBegin 54 = .ok (.getfield 12, 3) := by decide +kernel
theorem dX2_canBegin_57 : decode cX2_canBegin 57 = .ok (.getfield 36, 3) := by decide +kernel
theorem dX2_canBegin_60 : decode cX2_canBegin 60 = .ok (.iload_n 3, 1) := by decide +kernel
theorem dX2_canBegin_61 : decode cX2_canBegin 61 = .ok (.iload 4, 2) := by decide +kernel
theorem dX2_canBegin_63 : decode cX2_canBegin 63 = .ok (.iastore, 1) := by decide +kernel
theorem dX2_canBegin_64 : decode cX2_canBegin 64 = .ok (.iload_n 2, 1) := by decide +kernel
theorem dX2_canBegin_65 : decode cX2_canBegin 65 = .ok (.aload_n 0, 1) := by decide +kernel
theorem dX2_canBegin_66 : decode cX2_canBegin 66 = .ok (.getfield 25, 3) := by decide +kernel
theorem dX2_canBegin_69 : decode cX2_canBegin 69 = .ok (.getfield 61, 3) := by decide +kernel
theorem dX2_canBegin_72 : decode cX2_canBegin 72 = .ok (.idiv, 1) := by decide +kernel
theorem dX2_canBegin_73 : decode cX2_canBegin 73 = .ok (.istore_n 2, 1) := by decide +kernel
theorem dX2_canBegin_74 : decode cX2_canBegin 74 = .ok (.iinc 3 (-1), 3) := by decide +kernel
theorem dX2_canBegin_77 : decode cX2_canBegin 77 = .ok (.goto (-65), 3) := by decide +kernel
theorem dX2_canBegin_80 : decode cX2_canBegin 80 = .ok (.iconst 1, 1) := by decide +kernel
theorem dX2_canBegin_81 : decode cX2_canBegin 81 = .ok (.ireturn, 1) := by decide +kernel
theorem dX2_countWay_0 : decode cX2_countWay 0 = .ok (.aload_n 0, 1) := by decide +kernel
theorem dX2_countWay_1 : decode cX2_countWay 1 = .ok (.getfield 86, 3) := by decide +kernel
theorem dX2_countWay_4 : decode cX2_countWay 4 = .ok (.ifCond .ne 26, 3) := by decide +kernel
theorem dX2_countWay_7 : decode cX2_countWay 7 = .ok (.aload_n 0, 1) := by decide +kernel
theorem dX2_countWay_8 : decode cX2_countWay 8 = .ok (.iload_n 1, 1) := by decide +kernel
theorem dX2_countWay_9 : decode cX2_countWay 9 = .ok (.invokevirtual 95, 3) := by decide +kernel
theorem dX2_countWay_12 : decode cX2_countWay 12 = .ok (.pop, 1) := by decide +kernel
theorem dX2_countWay_13 : decode cX2_countWay 13 = .ok (.aload_n 0, 1) := by decide +kernel
theorem dX2_countWay_14 : decode cX2_countWay 14 = .ok (.getfield 12, 3) := by decide +kernel
theorem dX2_countWay_17 : decode cX2_countWay 17 = .ok (.getfield 36, 3) := by decide +kernel
theorem dX2_countWay_20 : decode cX2_countWay 20 = .ok (.iconst 0, 1) := by decide +kernel
theorem dX2_countWay_21 : decode cX2_countWay 21 = .ok (.aload_n 0, 1) := by decide +kernel
theorem dX2_countWay_22 : decode cX2_countWay 22 = .ok (.getfield 18, 3) := by decide +kernel
theorem dX2_countWay_25 : decode cX2_countWay 25 = .ok (.iconst 0, 1) := by decide +kernel
theorem dX2_countWay_26 : decode cX2_countWay 26 = .ok (.iconst 5, 1) := by decide +kernel
theorem dX2_countWay_27 : decode cX2_countWay 27 = .ok (.invokestatic 122, 3) := by decide +kernel
theorem dX2_countWay_30 : decode cX2_countWay 30 = .ok (.aload_n 0, 1) := by decide +kernel
theorem dX2_countWay_31 : decode cX2_countWay 31 = .ok (.dup, 1) := by decide +kernel
theorem dX2_countWay_32 : decode cX2_countWay 32 = .ok (.getfield 86, 3) := by decide +kernel
theorem dX2_countWay_35 : decode cX2_countWay 35 = .ok (.iconst 1, 1) := by decide +kernel
theorem dX2_countWay_36 : decode cX2_countWay 36 = .ok (.iadd, 1) := by decide +kernel
theorem dX2_countWay_37 : decode cX2_countWay 37 = .ok (.putfield 86, 3) := by decide +kernel
theorem dX2_countWay_40 : decode cX2_countWay 40 = .ok (.return_, 1) := by decide +kernel
end
section
/-! decode rows: X3 -/
theorem dX3_init_0 : decode cX3_init 0 = .ok (.aload_n 0, 1) := by decide +kernel
theorem dX3_init_1 : decode cX3_init 1 = .ok (.invokespecial 3, 3) := by decide +kernel
theorem dX3_init_4 : decode cX3_init 4 = .ok (.aload_n 0, 1) := by decide +kernel
theorem dX3_init_5 : decode cX3_init 5 = .ok (.bipush 6, 2) := by decide +kernel
theorem dX3_init_7 : decode cX3_init 7 = .ok (.newarray .int, 2) := by decide +kernel
theorem dX3_init_9 : decode cX3_init 9 = .ok (.putfield 9, 3) := by decide +kernel
theorem dX3_init_12 : decode cX3_init 12 = .ok (.aload_n 0, 1) := by decide +kernel
theorem dX3_init_13 : decode cX3_init 13 = .ok (.bipush 6, 2) := by decide +kernel
theorem dX3_init_15 : decode cX3_init 15 = .ok (.newarray .int, 2) := by decide +kernel
theorem dX3_init_17 : decode cX3_init 17 = .ok (.putfield 15, 3) := by decide +kernel
theorem dX3_init_20 : decode cX3_init 20 = .ok (.aload_n 0, 1) := by decide +kernel
theorem dX3_init_21 : decode cX3_init 21 = .ok (.bipush 6, 2) := by decide +kernel
theorem dX3_init_23 : decode cX3_init 23 = .ok (.newarray .int, 2) := by decide +kernel
theorem dX3_init_25 : decode cX3_init 25 = .ok (.putfield 18, 3) := by decide +kernel
theorem dX3_init_28 : decode cX3_init 28 = .ok (.aload_n 0, 1) := by decide +kernel
theorem dX3_init_29 : decode cX3_init 29 = .ok (.iconst 5, 1) := by decide +kernel
theorem dX3_init_30 : decode cX3_init 30 = .ok (.newarray .int, 2) := by decide +kernel
theorem dX3_init_32 : decode cX3_init 32 = .ok (.putfield 21, 3) := by decide +kernel
theorem dX3_init_35 : decode cX3_init 35 = .ok (.aload_n 0, 1) := by decide +kernel
theorem dX3_init_36 : decode cX3_init 36 = .ok (.iconst 5, 1) := by decide +kernel
theorem dX3_init_37 : decode cX3_init 37 = .ok (.newarray .int, 2) := by decide +kernel
theorem dX3_init_39 : decode cX3_init 39 = .ok (.putfield 24, 3) := by decide +kernel
theorem dX3_init_42 : decode cX3_init 42 = .ok (.aload_n 0, 1) := by decide +kernel
theorem dX3_init_43 : decode cX3_init 43 = .ok (.iconst 5, 1) := by decide +kernel
theorem dX3_init_44 : decode cX3_init 44 = .ok (.newarray .int, 2) := by decide +kernel
theorem dX3_init_46 : decode cX3_init 46 = .ok (.putfield 27, 3) := by decide +kernel
theorem dX3_init_49 : decode cX3_init 49 = .ok (.aload_n 0, 1) := by decide +kernel
theorem dX3_init_50 : decode cX3_init 50 = .ok (.bipush 6, 2) := by decide +kernel
theorem dX3_init_52 : decode cX3_init 52 = .ok (.newarray .int, 2) := by decide +kernel
theorem dX3_init_54 : decode cX3_init 54 = .ok (.putfield 30, 3) := by decide +kernel
theorem dX3_init_57 : decode cX3_init 57 = .ok (.aload_n 0, 1) := by decide +kernel
theorem dX3_init_58 : decode cX3_init 58 = .ok (.bipush 6, 2) := by decide +kernel
theorem dX3_init_60 : decode cX3_init 60 = .ok (.newarray .int, 2) := by decide +kernel
theorem dX3_init_62 : decode cX3_init 62 = .ok (.putfield 33, 3) := by decide +kernel
theorem dX3_init_65 : decode cX3_init 65 = .ok (.aload_n 0, 1) := by decide +kernel
theorem dX3_init_66 : decode cX3_init 66 = .ok (.iconst 5, 1) := by decide +kernel
theorem dX3_init_67 : decode cX3_init 67 = .ok (.newarray .int, 2) := by decide +kernel
theorem dX3_init_69 : decode cX3_init 69 = .ok (.putfield 36, 3) := by decide +kernel
theorem dX3_init_72 : decode cX3_init 72 = .ok (.return_, 1) := by decide +kernel
theorem dX3_clear_0 : decode cX3_clear 0 = .ok (.aload_n 0, 1) := by decide +kernel
theorem dX3_clear_1 : decode cX3_clear 1 = .ok (.iconst 0, 1) := by decide +kernel
theorem dX3_clear_2 : decode cX3_clear 2 = .ok (.putfield 39, 3) := by decide +kernel
theorem dX3_clear_5 : decode cX3_clear 5 = .ok (.aload_n 0, 1) := by decide +kernel
theorem dX3_clear_6 : decode cX3_clear 6 = .ok (.iconst 0, 1) := by decide +kernel
theorem dX3_clear_7 : decode cX3_clear 7 = .ok (.putfield 43, 3) := by decide +kernel
theorem dX3_clear_10 : decode cX3_clear 10 = .ok (.iconst 0, 1) := by decide +kernel
theorem dX3_clear_11 : decode cX3_clear 11 = .ok (.istore_n 1, 1) := by decide +kernel
theorem dX3_clear_12 : decode cX3_clear 12 = .ok (.iload_n 1, 1) := by decide +kernel
theorem dX3_clear_13 : decode cX3_clear 13 = .ok (.bipush 6, 2) := by decide +kernel
theorem dX3_clear_15 : decode cX3_clear 15 = .ok (.if_icmp .ge 16, 3) := by decide +kernel
theorem dX3_clear_18 : decode cX3_clear 18 = .ok (.aload_n 0, 1) := by decide +kernel
theorem dX3_clear_19 : decode cX3_clear 19 = .ok (.getfield 15, 3) := by decide +kernel
theorem dX3_clear_22 : decode cX3_clear 22 = .ok (.iload_n 1, 1) := by decide +kernel
theorem dX3_clear_23 : decode cX3_clear 23 = .ok (.iconst 0, 1) := by decide +kernel
theorem dX3_clear_24 : decode cX3_clear 24 = .ok (.iastore, 1) := by decide +kernel
theorem dX3_clear_25 : decode cX3_clear 25 = .ok (.iinc 1 1, 3) := by decide +kernel
theorem dX3_clear_28 : decode cX3_clear 28 = .ok (.goto (-16), 3) := by decide +kernel
theorem dX3_clear_31 : decode cX3_clear 31 = .ok (.return_, 1) := by decide +kernel
theorem dX3_take_0 : decode cX3_take 0 = .ok (.aload_n 0, 1) := by decide +kernel
theorem dX3_take_1 : decode cX3_take 1 = .ok (.aload_n 1, 1) := by decide +kernel
theorem dX3_take_2 : decode cX3_take 2 = .ok (.getfield 39, 3) := by decide +kernel
theorem dX3_take_5 : decode cX3_take 5 = .ok (.putfield 39, 3) := by decide +kernel
theorem dX3_take_8 : decode cX3_take 8 = .ok (.aload_n 0, 1) := by decide +kernel
theorem dX3_take_9 : decode cX3_take 9 = .ok (.aload_n 1, 1) := by decide +kernel
theorem dX3_take_10 : decode cX3_take 10 = .ok (.getfield 43, 3) := by decide +kernel
theorem dX3_take_13 : decode cX3_take 13 = .ok (.putfield 43, 3) := by decide +kernel
theorem dX3_take_16 : decode cX3_take 16 = .ok (.aload_n 0, 1) := by decide +kernel
theorem dX3_take_17 : decode cX3_take 17 = .ok (.aload_n 1, 1) := by decide +kernel
theorem dX3_take_18 : decode cX3_take 18 = .ok (.getfield 46, 3) := by decide +kernel
theorem dX3_take_21 : decode cX3_take 21 = .ok (.putfield 46, 3) := by decide +kernel
theorem dX3_take_24 : decode cX3_take 24 = .ok (.aload_n 0, 1) := by decide +kernel
theorem dX3_take_25 : decode cX3_take 25 = .ok (.iconst 0, 1) := by decide +kernel
theorem dX3_take_26 : decode cX3_take 26 = .ok (.putfield 49, 3) := by decide +kernel
theorem dX3_take_29 : decode cX3_take 29 = .ok (.aload_n 1, 1) := by decide +kernel
theorem dX3_take_30 : decode cX3_take 30 = .ok (.getfield 9, 3) := by decide +kernel
theorem dX3_take_33 : decode cX3_take 33 = .ok (.iconst 0, 1) := by decide +kernel
theorem dX3_take_34 : decode cX3_take 34 = .ok (.aload_n 0, 1) := by decide +kernel
theorem dX3_take_35 : decode cX3_take 35 = .ok (.getfield 9, 3) := by decide +kernel
theorem dX3_take_38 : decode cX3_take 38 = .ok (.iconst 0, 1) := by decide +kernel
theorem dX3_take_39 : decode cX3_take 39 = .ok (.bipush 6, 2) := by decide +kernel
theorem dX3_take_41 : decode cX3_take 41 = .ok (.invokestatic 52, 3) := by decide +kernel
theorem dX3_take_44 : decode cX3_take 44 = .ok (.aload_n 1, 1) := by decide +kernel
theorem dX3_take_45 : decode cX3_take 45 = .ok (.getfield 15, 3) := by decide +kernel
theorem dX3_take_48 : decode cX3_take 48 = .ok (.iconst 0, 1) := by decide +kernel
theorem dX3_take_49 : decode cX3_take 49 = .ok (.aload_n 0, 1) := by decide +kernel
theorem dX3_take_50 : decode cX3_take 50 = .ok (.getfield 15, 3) := by decide +kernel
theorem dX3_take_53 : decode cX3_take 53 = .ok (.iconst 0, 1) := by decide +kernel
theorem dX3_take_54 : decode cX3_take 54 = .ok (.bipush 6, 2) := by decide +kernel
theorem dX3_take_56 : decode cX3_take 56 = .ok (.invokestatic 52, 3) := by decide +kernel
theorem dX3_take_59 : decode cX3_take 59 = .ok (.aload_n 1, 1) := by decide +kernel
theorem dX3_take_60 : decode cX3_take 60 = .ok (.getfield 18, 3) := by decide +kernel
theorem dX3_take_63 : decode cX3_take 63 = .ok (.iconst 0, 1) := by decide +kernel
theorem dX3_take_64 : decode cX3_take 64 = .ok (.aload_n 0, 1) := by decide +kernel
theorem dX3_take_65 : decode cX3_take 65 = .ok (.getfield 18, 3) := by decide +kernel
theorem dX3_take_68 : decode cX3_take 68 = .ok (.iconst 0, 1) := by decide +kernel
theorem dX3_take_69 : decode cX3_take 69 = .ok (.bipush 6, 2) := by decide +kernel
theorem dX3_take_71 : decode cX3_take 71 = .ok (.invokestatic 52, 3) := by decide +kernel
theorem dX3_take_74 : decode cX3_take 74 = .ok (.aload_n 1, 1) := by decide +kernel
theorem dX3_take_75 : decode cX3_take 75 = .ok (.getfield 21, 3) := by decide +kernel
theorem dX3_take_78 : decode cX3_take 78 = .ok (.iconst 0, 1) := by decide +kernel
theorem dX3_take_79 : decode cX3_take 79 = .ok (.aload_n 0, 1) := by decide +kernel
theorem dX3_take_80 : decode cX3_take 80 = .ok (.getfield 21, 3) := by decide +kernel
theorem dX3_take_83 : decode cX3_take 83 = .ok (.iconst 0, 1) := by decide +kernel
theorem dX3_take_84 : decode cX3_take 84 = .ok (.iconst 5, 1) := by decide +kernel
theorem dX3_take_85 : decode cX3_take 85 = .ok (.invokestatic 52, 3) := by decide +kernel
theorem dX3_take_88 : decode cX3_take 88 = .ok (.aload_n 1, 1) := by decide +kernel
theorem dX3_take_89 : decode cX3_take 89 = .ok (.getfield 24, 3) := by decide +kernel
theorem dX3_take_92 : decode cX3_take 92 = .ok (.iconst 0, 1) := by decide +kernel
theorem dX3_take_93 : decode cX3_take 93 = .ok (.aload_n 0, 1) := by decide +kernel
theorem dX3_take_94 : decode cX3_take 94 = .ok (.getfield 24, 3) := by decide +kernel
theorem dX3_take_97 : decode cX3_take 97 = .ok (.iconst 0, 1) := by decide +kernel
theorem dX3_take_98 : decode cX3_take 98 = .ok (.iconst 5, 1) := by decide +kernel
theorem dX3_take_99 : decode cX3_take 99 = .ok (.invokestatic 52, 3) := by decide +kernel
theorem dX3_take_102 : decode cX3_take 102 = .ok (.aload_n 1, 1) := by decide +kernel
theorem dX3_take_103 : decode cX3_take 103 = .ok (.getfield 27, 3) := by decide +kernel
theorem dX3_take_106 : decode cX3_take 106 = .ok (.iconst 0, 1) := by decide +kernel
theorem dX3_take_107 : decode cX3_take 107 = .ok (.aload_n 0, 1) := by decide +kernel
theorem dX3_take_108 : decode cX3_take 108 = .ok (.getfield 27, 3) := by decide +kernel
theorem dX3_take_111 : decode cX3_take 111 = .ok (.iconst 0, 1) := by decide +kernel
theorem dX3_take_112 : decode cX3_take 112 = .ok (.iconst 5, 1) := by decide +kernel
theorem dX3_take_113 : decode cX3_take 113 = .ok (.invokestatic 52, 3) := by decide +kernel
theorem dX3_take_116 : decode cX3_take 116 = .ok (.return_, 1) := by decide +kernel
theorem dX3_isRoom_0 : decode cX3_isRoom 0 = .ok (.iload_n 1, 1) := by decide +kernel
theorem dX3_isRoom_1 : decode cX3_isRoom 1 = .ok (.ifCond .lt 15, 3) := by decide +kernel
theorem dX3_isRoom_4 : decode cX3_isRoom 4 = .ok (.iload_n 1, 1) := by decide +kernel
theorem dX3_isRoom_5 : decode cX3_isRoom 5 = .ok (.aload_n 0, 1) := by decide +kernel
theorem dX3_isRoom_6 : decode cX3_isRoom 6 = .ok (.getfield 39, 3) := by decide +kernel
theorem dX3_isRoom_9 : decode cX3_isRoom 9 = .ok (.if_icmp .ge 7, 3) := by decide +kernel
theorem dX3_isRoom_12 : decode cX3_isRoom 12 = .ok (.iconst 1, 1) := by decide +kernel
theorem dX3_isRoom_13 : decode cX3_isRoom 13 = .ok (.goto 4, 3) := by decide +kernel
theorem dX3_isRoom_16 : decode cX3_isRoom 16 = .ok (.iconst 0, 1) := by decide +kernel
theorem dX3_isRoom_17 : decode cX3_isRoom 17 = .ok (.ireturn, 1) := by decide +kernel
theorem dX3_isCrowd_0 : decode cX3_isCrowd 0 = .ok (.iload_n 1, 1) := by decide +kernel
theorem dX3_isCrowd_1 : decode cX3_isCrowd 1 = .ok (.ifCond .lt 15, 3) := by decide +kernel
theorem dX3_isCrowd_4 : decode cX3_isCrowd 4 = .ok (.iload_n 1, 1) := by decide +kernel
theorem dX3_isCrowd_5 : decode cX3_isCrowd 5 = .ok (.aload_n 0, 1) := by decide +kernel
theorem dX3_isCrowd_6 : decode cX3_isCrowd 6 = .ok (.getfield 43, 3) := by decide +kernel
theorem dX3_isCrowd_9 : decode cX3_isCrowd 9 = .ok (.if_icmp .ge 7, 3) := by decide +kernel
theorem dX3_isCrowd_12 : decode cX3_isCrowd 12 = .ok (.iconst 1, 1) := by decide +kernel
theorem dX3_isCrowd_13 : decode cX3_isCrowd 13 = .ok (.goto 4, 3) := by decide +kernel
theorem dX3_isCrowd_16 : decode cX3_isCrowd 16 = .ok (.iconst 0, 1) := by decide +kernel
theorem dX3_isCrowd_17 : decode cX3_isCrowd 17 = .ok (.ireturn, 1) := by decide +kernel
theorem dX3_doorBetween_0 : decode cX3_doorBetween 0 = .ok (.aload_n 0, 1) := by decide +kernel
theorem dX3_doorBetween_1 : decode cX3_doorBetween 1 = .ok (.getfield 15, 3) := by decide +kernel
theorem dX3_doorBetween_4 : decode cX3_doorBetween 4 = .ok (.iload_n 1, 1) := by decide +kernel
theorem dX3_doorBetween_5 : decode cX3_doorBetween 5 = .ok (.iaload, 1) := by decide +kernel
theorem dX3_doorBetween_6 : decode cX3_doorBetween 6 = .ok (.iload_n 2, 1) := by decide +kernel
theorem dX3_doorBetween_7 : decode cX3_doorBetween 7 = .ok (.ishr, 1) := by decide +kernel
theorem dX3_doorBetween_8 : decode cX3_doorBetween 8 = .ok (.iconst 1, 1) := by decide +kernel
theorem dX3_doorBetween_9 : decode cX3_doorBetween 9 = .ok (.iand, 1) := by decide +kernel
theorem dX3_doorBetween_10 : decode cX3_doorBetween 10 = .ok (.ireturn, 1) := by decide +kernel
theorem dX3_putDoor_0 : decode cX3_putDoor 0 = .ok (.aload_n 0, 1) := by decide +kernel
theorem dX3_putDoor_1 : decode cX3_putDoor 1 = .ok (.getfield 15, 3) := by decide +kernel
theorem dX3_putDoor_4 : decode cX3_putDoor 4 = .ok (.iload_n 1, 1) := by decide +kernel
theorem dX3_putDoor_5 : decode cX3_putDoor 5 = .ok (.aload_n 0, 1) := by decide +kernel
theorem dX3_putDoor_6 : decode cX3_putDoor 6 = .ok (.getfield 15, 3) := by decide +kernel
theorem dX3_putDoor_9 : decode cX3_putDoor 9 = .ok (.iload_n 1, 1) := by decide +kernel
theorem dX3_putDoor_10 : decode cX3_putDoor 10 = .ok (.iaload, 1) := by decide +kernel
theorem dX3_putDoor_11 : decode cX3_putDoor 11 = .ok (.iconst 1, 1) := by decide +kernel
theorem dX3_putDoor_12 : decode cX3_putDoor 12 = .ok (.iload_n 2, 1) := by decide +kernel
theorem dX3_putDoor_13 : decode cX3_putDoor 13 = .ok (.ishl, 1) := by decide +kernel
theorem dX3_putDoor_14 : decode cX3_putDoor 14 = .ok (.iconst (-1), 1) := by decide +kernel
theorem dX3_putDoor_15 : decode cX3_putDoor 15 = .ok (.ixor, 1) := by decide +kernel
theorem dX3_putDoor_16 : decode cX3_putDoor 16 = .ok (.iand, 1) := by decide +kernel
theorem dX3_putDoor_17 : decode cX3_putDoor 17 = .ok (.iload_n 3, 1) := by decide +kernel
theorem dX3_putDoor_18 : decode cX3_putDoor 18 = .ok (.iload_n 2, 1) := by decide +kernel
theorem dX3_putDoor_19 : decode cX3_putDoor 19 = .ok (.ishl, 1) := by decide +kernel
theorem dX3_putDoor_20 : decode cX3_putDoor 20 = .ok (.ior, 1) := by decide +kernel
theorem dX3_putDoor_21 : decode cX3_putDoor 21 = .ok (.iastore, 1) := by decide +kernel
theorem dX3_putDoor_22 : decode cX3_putDoor 22 = .ok (.aload_n 0, 1) := by decide +kernel
theorem dX3_putDoor_23 : decode cX3_putDoor 23 = .ok (.getfield 15, 3) := by decide +kernel
theorem dX3_putDoor_26 : decode cX3_putDoor 26 = .ok (.iload_n 2, 1) := by decide +kernel
theorem dX3_putDoor_27 : decode cX3_putDoor 27 = .ok (.aload_n 0, 1) := by decide +kernel
theorem dX3_putDoor_28 : decode cX3_putDoor 28 = .ok (.getfield 15, 3) := by decide +kernel
theorem dX3_putDoor_31 : decode cX3_putDoor 31 = .ok (.iload_n 2, 1) := by decide +kernel
theorem dX3_putDoor_32 : decode cX3_putDoor 32 = .ok (.iaload, 1) := by decide +kernel
theorem dX3_putDoor_33 : decode cX3_putDoor 33 = .ok (.iconst 1, 1) := by decide +kernel
theorem dX3_putDoor_34 : decode cX3_putDoor 34 = .ok (.iload_n 1, 1) := by decide +kernel
theorem dX3_putDoor_35 : decode cX3_putDoor 35 = .ok (.ishl, 1) := by decide +kernel
theorem dX3_putDoor_36 : decode cX3_putDoor 36 = .ok (.iconst (-1), 1) := by decide +kernel
theorem dX3_putDoor_37 : decode cX3_putDoor 37 = .ok (.ixor, 1) := by decide +kernel
theorem dX3_putDoor_38 : decode cX3_putDoor 38 = .ok (.iand, 1) := by decide +kernel
theorem dX3_putDoor_39 : decode cX3_putDoor 39 = .ok (.iload_n 3, 1) := by decide +kernel
theorem dX3_putDoor_40 : decode cX3_putDoor 40 = .ok (.iload_n 1, 1) := by decide +kernel
theorem dX3_putDoor_41 : decode cX3_putDoor 41 = .ok (.ishl, 1) := by decide +kernel
theorem dX3_putDoor_42 : decode cX3_putDoor 42 = .ok (.ior, 1) := by decide +kernel
theorem dX3_putDoor_43 : decode cX3_putDoor 43 = .ok (.iastore, 1) := by decide +kernel
theorem dX3_putDoor_44 : decode cX3_putDoor 44 = .ok (.return_, 1) := by decide +kernel
theorem dX3_headsIn_0 : decode cX3_headsIn 0 = .ok (.iconst 0, 1) := by decide +kernel
theorem dX3_headsIn_1 : decode cX3_headsIn 1 = .ok (.istore_n 2, 1) := by decide +kernel
theorem dX3_headsIn_2 : decode cX3_headsIn 2 = .ok (.iconst 0, 1) := by decide +kernel
theorem dX3_headsIn_3 : decode cX3_headsIn 3 = .ok (.istore_n 3, 1) := by decide +kernel
theorem dX3_headsIn_4 : decode cX3_headsIn 4 = .ok (.iload_n 3, 1) := by decide +kernel
theorem dX3_headsIn_5 : decode cX3_headsIn 5 = .ok (.aload_n 0, 1) := by decide +kernel
theorem dX3_headsIn_6 : decode cX3_headsIn 6 = .ok (.getfield 43, 3) := by decide +kernel
theorem dX3_headsIn_9 : decode cX3_headsIn 9 = .ok (.if_icmp .ge 28, 3) := by decide +kernel
theorem dX3_headsIn_12 : decode cX3_headsIn 12 = .ok (.aload_n 0, 1) := by decide +kernel
theorem dX3_headsIn_13 : decode cX3_headsIn 13 = .ok (.getfield 24, 3) := by decide +kernel
theorem dX3_headsIn_16 : decode cX3_headsIn 16 = .ok (.iload_n 3, 1) := by decide +kernel
theorem dX3_headsIn_17 : decode cX3_headsIn 17 = .ok (.iaload, 1) := by decide +kernel
theorem dX3_headsIn_18 : decode cX3_headsIn 18 = .ok (.iload_n 1, 1) := by decide +kernel
theorem dX3_headsIn_19 : decode cX3_headsIn 19 = .ok (.if_icmp .ne 12, 3) := by decide +kernel
theorem dX3_headsIn_22 : decode cX3_headsIn 22 = .ok (.iload_n 2, 1) := by decide +kernel
theorem dX3_headsIn_23 : decode cX3_headsIn 23 = .ok (.aload_n 0, 1) := by decide +kernel
theorem dX3_headsIn_24 : decode cX3_headsIn 24 = .ok (.getfield 27, 3) := by decide +kernel
theorem dX3_headsIn_27 : decode cX3_headsIn 27 = .ok (.iload_n 3, 1) := by decide +kernel
theorem dX3_headsIn_28 : decode cX3_headsIn 28 = .ok (.iaload, 1) := by decide +kernel
theorem dX3_headsIn_29 : decode cX3_headsIn 29 = .ok (.iadd, 1) := by decide +kernel
theorem dX3_headsIn_30 : decode cX3_headsIn 30 = .ok (.istore_n 2, 1) := by decide +kernel
theorem dX3_headsIn_31 : decode cX3_headsIn 31 = .ok (.iinc 3 1, 3) := by decide +kernel
theorem dX3_headsIn_34 : decode cX3_headsIn 34 = .ok (.goto (-30), 3) := by decide +kernel
theorem dX3_headsIn_37 : decode cX3_headsIn 37 = .ok (.iload_n 2, 1) := by decide +kernel
theorem dX3_headsIn_38 : decode cX3_headsIn 38 = .ok (.ireturn, 1) := by decide +kernel
theorem dX3_allHeads_0 : decode cX3_allHeads 0 = .ok (.iconst 0, 1) := by decide +kernel
theorem dX3_allHeads_1 : decode cX3_allHeads 1 = .ok (.istore_n 1, 1) := by decide +kernel
theorem dX3_allHeads_2 : decode cX3_allHeads 2 = .ok (.iconst 0, 1) := by decide +kernel
theorem dX3_allHeads_3 : decode cX3_allHeads 3 = .ok (.istore_n 2, 1) := by decide +kernel
theorem dX3_allHeads_4 : decode cX3_allHeads 4 = .ok (.iload_n 2, 1) := by decide +kernel
theorem dX3_allHeads_5 : decode cX3_allHeads 5 = .ok (.aload_n 0, 1) := by decide +kernel
theorem dX3_allHeads_6 : decode cX3_allHeads 6 = .ok (.getfield 43, 3) := by decide +kernel
theorem dX3_allHeads_9 : decode cX3_allHeads 9 = .ok (.if_icmp .ge 18, 3) := by decide +kernel
theorem dX3_allHeads_12 : decode cX3_allHeads 12 = .ok (.iload_n 1, 1) := by decide +kernel
theorem dX3_allHeads_13 : decode cX3_allHeads 13 = .ok (.aload_n 0, 1) := by decide +kernel
theorem dX3_allHeads_14 : decode cX3_allHeads 14 = .ok (.getfield 27, 3) := by decide +kernel
theorem dX3_allHeads_17 : decode cX3_allHeads 17 = .ok (.iload_n 2, 1) := by decide +kernel
theorem dX3_allHeads_18 : decode cX3_allHeads 18 = .ok (.iaload, 1) := by decide +kernel
theorem dX3_allHeads_19 : decode cX3_allHeads 19 = .ok (.iadd, 1) := by decide +kernel
theorem dX3_allHeads_20 : decode cX3_allHeads 20 = .ok (.istore_n 1, 1) := by decide +kernel
theorem dX3_allHeads_21 : decode cX3_allHeads 21 = .ok (.iinc 2 1, 3) := by decide +kernel
theorem dX3_allHeads_24 : decode cX3_allHeads 24 = .ok (.goto (-20), 3) := by decide +kernel
theorem dX3_allHeads_27 : decode cX3_allHeads 27 = .ok (.iload_n 1, 1) := by decide +kernel
theorem dX3_allHeads_28 : decode cX3_allHeads 28 = .ok (.ireturn, 1) := by decide +kernel
theorem dX3_addHeads_0 : decode cX3_addHeads 0 = .ok (.iconst 0, 1) := by decide +kernel
theorem dX3_addHeads_1 : decode cX3_addHeads 1 = .ok (.istore_n 2, 1) := by decide +kernel
theorem dX3_addHeads_2 : decode cX3_addHeads 2 = .ok (.iload_n 2, 1) := by decide +kernel
theorem dX3_addHeads_3 : decode cX3_addHeads 3 = .ok (.aload_n 0, 1) := by decide +kernel
theorem dX3_addHeads_4 : decode cX3_addHeads 4 = .ok (.getfield 43, 3) := by decide +kernel
theorem dX3_addHeads_7 : decode cX3_addHeads 7 = .ok (.if_icmp .ge 23, 3) := by decide +kernel
theorem dX3_addHeads_10 : decode cX3_addHeads 10 = .ok (.aload_n 0, 1) := by decide +kernel
theorem dX3_addHeads_11 : decode cX3_addHeads 11 = .ok (.getfield 27, 3) := by decide +kernel
theorem dX3_addHeads_14 : decode cX3_addHeads 14 = .ok (.iload_n 2, 1) := by decide +kernel
theorem dX3_addHeads_15 : decode cX3_addHeads 15 = .ok (.dup2, 1) := by decide +kernel
theorem dX3_addHeads_16 : decode cX3_addHeads 16 = .ok (.iaload, 1) := by decide +kernel
theorem dX3_addHeads_17 : decode cX3_addHeads 17 = .ok (.iload_n 1, 1) := by decide +kernel
theorem dX3_addHeads_18 : decode cX3_addHeads 18 = .ok (.iload_n 2, 1) := by decide +kernel
theorem dX3_addHeads_19 : decode cX3_addHeads 19 = .ok (.ishr, 1) := by decide +kernel
theorem dX3_addHeads_20 : decode cX3_addHeads 20 = .ok (.iconst 1, 1) := by decide +kernel
theorem dX3_addHeads_21 : decode cX3_addHeads 21 = .ok (.iand, 1) := by decide +kernel
theorem dX3_addHeads_22 : decode cX3_addHeads 22 = .ok (.iadd, 1) := by decide +kernel
theorem dX3_addHeads_23 : decode cX3_addHeads 23 = .ok (.iastore, 1) := by decide +kernel
theorem dX3_addHeads_24 : decode cX3_addHeads 24 = .ok (.iinc 2 1, 3) := by decide +kernel
theorem dX3_addHeads_27 : decode cX3_addHeads 27 = .ok (.goto (-25), 3) := by decide +kernel
theorem dX3_addHeads_30 : decode cX3_addHeads 30 = .ok (.return_, 1) := by decide +kernel
theorem dX3_hire_0 : decode cX3_hire 0 = .ok (.aload_n 0, 1) := by decide +kernel
theorem dX3_hire_1 : decode cX3_hire 1 = .ok (.iload_n 1, 1) := by decide +kernel
theorem dX3_hire_2 : decode cX3_hire 2 = .ok (.putfield 49, 3) := by decide +kernel
theorem dX3_hire_5 : decode cX3_hire 5 = .ok (.aload_n 0, 1) := by decide +kernel
theorem dX3_hire_6 : decode cX3_hire 6 = .ok (.iload_n 2, 1) := by decide +kernel
theorem dX3_hire_7 : decode cX3_hire 7 = .ok (.putfield 58, 3) := by decide +kernel
theorem dX3_hire_10 : decode cX3_hire 10 = .ok (.aload_n 0, 1) := by decide +kernel
theorem dX3_hire_11 : decode cX3_hire 11 = .ok (.getfield 18, 3) := by decide +kernel
theorem dX3_hire_14 : decode cX3_hire 14 = .ok (.iload_n 2, 1) := by decide +kernel
theorem dX3_hire_15 : decode cX3_hire 15 = .ok (.dup2, 1) := by decide +kernel
theorem dX3_hire_16 : decode cX3_hire 16 = .ok (.iaload, 1) := by decide +kernel
theorem dX3_hire_17 : decode cX3_hire 17 = .ok (.iload_n 1, 1) := by decide +kernel
theorem dX3_hire_18 : decode cX3_hire 18 = .ok (.iadd, 1) := by decide +kernel
theorem dX3_hire_19 : decode cX3_hire 19 = .ok (.iastore, 1) := by decide +kernel
theorem dX3_hire_20 : decode cX3_hire 20 = .ok (.return_, 1) := by decide +kernel
theorem dX3_ring_0 : decode cX3_ring 0 = .ok (.aload_n 0, 1) := by decide +kernel
theorem dX3_ring_1 : decode cX3_ring 1 = .ok (.invokevirtual 61, 3) := by decide +kernel
theorem dX3_ring_4 : decode cX3_ring 4 = .ok (.iconst 0, 1) := by decide +kernel
theorem dX3_ring_5 : decode cX3_ring 5 = .ok (.istore_n 1, 1) := by decide +kernel
theorem dX3_ring_6 : decode cX3_ring 6 = .ok (.iload_n 1, 1) := by decide +kernel
theorem dX3_ring_7 : decode cX3_ring 7 = .ok (.aload_n 0, 1) := by decide +kernel
theorem dX3_ring_8 : decode cX3_ring 8 = .ok (.getfield 43, 3) := by decide +kernel
theorem dX3_ring_11 : decode cX3_ring 11 = .ok (.if_icmp .ge 20, 3) := by decide +kernel
theorem dX3_ring_14 : decode cX3_ring 14 = .ok (.aload_n 0, 1) := by decide +kernel
theorem dX3_ring_15 : decode cX3_ring 15 = .ok (.getfield 36, 3) := by decide +kernel
theorem dX3_ring_18 : decode cX3_ring 18 = .ok (.iload_n 1, 1) := by decide +kernel
theorem dX3_ring_19 : decode cX3_ring 19 = .ok (.aload_n 0, 1) := by decide +kernel
theorem dX3_ring_20 : decode cX3_ring 20 = .ok (.iload_n 1, 1) := by decide +kernel
theorem dX3_ring_21 : decode cX3_ring 21 = .ok (.invokevirtual 64, 3) := by decide +kernel
theorem dX3_ring_24 : decode cX3_ring 24 = .ok (.iastore, 1) := by decide +kernel
theorem dX3_ring_25 : decode cX3_ring 25 = .ok (.iinc 1 1, 3) := by decide +kernel
theorem dX3_ring_28 : decode cX3_ring 28 = .ok (.goto (-22), 3) := by decide +kernel
theorem dX3_ring_31 : decode cX3_ring 31 = .ok (.aload_n 0, 1) := by decide +kernel
theorem dX3_ring_32 : decode cX3_ring 32 = .ok (.getfield 30, 3) := by decide +kernel
theorem dX3_ring_35 : decode cX3_ring 35 = .ok (.iconst 0, 1) := by decide +kernel
theorem dX3_ring_36 : decode cX3_ring 36 = .ok (.aload_n 0, 1) := by decide +kernel
theorem dX3_ring_37 : decode cX3_ring 37 = .ok (.getfield 18, 3) := by decide +kernel
theorem dX3_ring_40 : decode cX3_ring 40 = .ok (.iconst 0, 1) := by decide +kernel
theorem dX3_ring_41 : decode cX3_ring 41 = .ok (.bipush 6, 2) := by decide +kernel
theorem dX3_ring_43 : decode cX3_ring 43 = .ok (.invokestatic 52, 3) := by decide +kernel
theorem dX3_ring_46 : decode cX3_ring 46 = .ok (.aload_n 0, 1) := by decide +kernel
theorem dX3_ring_47 : decode cX3_ring 47 = .ok (.dup, 1) := by decide +kernel
theorem dX3_ring_48 : decode cX3_ring 48 = .ok (.getfield 46, 3) := by decide +kernel
theorem dX3_ring_51 : decode cX3_ring 51 = .ok (.iconst 1, 1) := by decide +kernel
theorem dX3_ring_52 : decode cX3_ring 52 = .ok (.iadd, 1) := by decide +kernel
theorem dX3_ring_53 : decode cX3_ring 53 = .ok (.putfield 46, 3) := by decide +kernel
theorem dX3_ring_56 : decode cX3_ring 56 = .ok (.iconst 0, 1) := by decide +kernel
theorem dX3_ring_57 : decode cX3_ring 57 = .ok (.istore_n 1, 1) := by decide +kernel
theorem dX3_ring_58 : decode cX3_ring 58 = .ok (.iconst 0, 1) := by decide +kernel
theorem dX3_ring_59 : decode cX3_ring 59 = .ok (.istore_n 2, 1) := by decide +kernel
theorem dX3_ring_60 : decode cX3_ring 60 = .ok (.iload_n 2, 1) := by decide +kernel
theorem dX3_ring_61 : decode cX3_ring 61 = .ok (.aload_n 0, 1) := by decide +kernel
theorem dX3_ring_62 : decode cX3_ring 62 = .ok (.getfield 43, 3) := by decide +kernel
theorem dX3_ring_65 : decode cX3_ring 65 = .ok (.if_icmp .ge 42, 3) := by decide +kernel
theorem dX3_ring_68 : decode cX3_ring 68 = .ok (.aload_n 0, 1) := by decide +kernel
theorem dX3_ring_69 : decode cX3_ring 69 = .ok (.getfield 36, 3) := by decide +kernel
theorem dX3_ring_72 : decode cX3_ring 72 = .ok (.iload_n 2, 1) := by decide +kernel
theorem dX3_ring_73 : decode cX3_ring 73 = .ok (.iaload, 1) := by decide +kernel
theorem dX3_ring_74 : decode cX3_ring 74 = .ok (.aload_n 0, 1) := by decide +kernel
theorem dX3_ring_75 : decode cX3_ring 75 = .ok (.getfield 24, 3) := by decide +kernel
theorem dX3_ring_78 : decode cX3_ring 78 = .ok (.iload_n 2, 1) := by decide +kernel
theorem dX3_ring_79 : decode cX3_ring 79 = .ok (.iaload, 1) := by decide +kernel
theorem dX3_ring_80 : decode cX3_ring 80 = .ok (.if_icmp .eq 21, 3) := by decide +kernel
theorem dX3_ring_83 : decode cX3_ring 83 = .ok (.iload_n 1, 1) := by decide +kernel
theorem dX3_ring_84 : decode cX3_ring 84 = .ok (.iconst 1, 1) := by decide +kernel
theorem dX3_ring_85 : decode cX3_ring 85 = .ok (.iload_n 2, 1) := by decide +kernel
theorem dX3_ring_86 : decode cX3_ring 86 = .ok (.ishl, 1) := by decide +kernel
theorem dX3_ring_87 : decode cX3_ring 87 = .ok (.ior, 1) := by decide +kernel
theorem dX3_ring_88 : decode cX3_ring 88 = .ok (.istore_n 1, 1) := by decide +kernel
theorem dX3_ring_89 : decode cX3_ring 89 = .ok (.aload_n 0, 1) := by decide +kernel
theorem dX3_ring_90 : decode cX3_ring 90 = .ok (.getfield 24, 3) := by decide +kernel
theorem dX3_ring_93 : decode cX3_ring 93 = .ok (.iload_n 2, 1) := by decide +kernel
theorem dX3_ring_94 : decode cX3_ring 94 = .ok (.aload_n 0, 1) := by decide +kernel
theorem dX3_ring_95 : decode cX3_ring 95 = .ok (.getfield 36, 3) := by decide +kernel
theorem dX3_ring_98 : decode cX3_ring 98 = .ok (.iload_n 2, 1) := by decide +kernel
theorem dX3_ring_99 : decode cX3_ring 99 = .ok (.iaload, 1) := by decide +kernel
theorem dX3_ring_100 : decode cX3_ring 100 = .ok (.iastore, 1) := by decide +kernel
theorem dX3_ring_101 : decode cX3_ring 101 = .ok (.iinc 2 1, 3) := by decide +kernel
theorem dX3_ring_104 : decode cX3_ring 104 = .ok (.goto (-44), 3) := by decide +kernel
theorem dX3_ring_107 : decode cX3_ring 107 = .ok (.iload_n 1, 1) := by decide +kernel
theorem dX3_ring_108 : decode cX3_ring 108 = .ok (.ireturn, 1) := by decide +kernel
theorem dX3_countHeads_0 : decode cX3_countHeads 0 = .ok (.iconst 0, 1) := by decide +kernel
theorem dX3_countHeads_1 : decode cX3_countHeads 1 = .ok (.istore_n 1, 1) := by decide +kernel
theorem dX3_countHeads_2 : decode cX3_countHeads 2 = .ok (.iload_n 1, 1) := by decide +kernel
theorem dX3_countHeads_3 : decode cX3_countHeads 3 = .ok (.bipush 6, 2) := by decide +kernel
theorem dX3_countHeads_5 : decode cX3_countHeads 5 = .ok (.if_icmp .ge 23, 3) := by decide +kernel
theorem dX3_countHeads_8 : decode cX3_countHeads 8 = .ok (.aload_n 0, 1) := by decide +kernel
theorem dX3_countHeads_9 : decode cX3_countHeads 9 = .ok (.getfield 30, 3) := by decide +kernel
theorem dX3_countHeads_12 : decode cX3_countHeads 12 = .ok (.iload_n 1, 1) := by decide +kernel
theorem dX3_countHeads_13 : decode cX3_countHeads 13 = .ok (.iconst 0, 1) := by decide +kernel
theorem dX3_countHeads_14 : decode cX3_countHeads 14 = .ok (.iastore, 1) := by decide +kernel
theorem dX3_countHeads_15 : decode cX3_countHeads 15 = .ok (.aload_n 0, 1) := by decide +kernel
theorem dX3_countHeads_16 : decode cX3_countHeads 16 = .ok (.getfield 33, 3) := by decide +kernel
theorem dX3_countHeads_19 : decode cX3_countHeads 19 = .ok (.iload_n 1, 1) := by decide +kernel
theorem dX3_countHeads_20 : decode cX3_countHeads 20 = .ok (.iconst 0, 1) := by decide +kernel
theorem dX3_countHeads_21 : decode cX3_countHeads 21 = .ok (.iastore, 1) := by decide +kernel
theorem dX3_countHeads_22 : decode cX3_countHeads 22 = .ok (.iinc 1 1, 3) := by decide +kernel
theorem dX3_countHeads_25 : decode cX3_countHeads 25 = .ok (.goto (-23), 3) := by decide +kernel
theorem dX3_countHeads_28 : decode cX3_countHeads 28 = .ok (.aload_n 0, 1) := by decide +kernel
theorem dX3_countHeads_29 : decode cX3_countHeads 29 = .ok (.getfield 30, 3) := by decide +kernel
theorem dX3_countHeads_32 : decode cX3_countHeads 32 = .ok (.aload_n 0, 1) := by decide +kernel
theorem dX3_countHeads_33 : decode cX3_countHeads 33 = .ok (.getfield 58, 3) := by decide +kernel
theorem dX3_countHeads_36 : decode cX3_countHeads 36 = .ok (.dup2, 1) := by decide +kernel
theorem dX3_countHeads_37 : decode cX3_countHeads 37 = .ok (.iaload, 1) := by decide +kernel
theorem dX3_countHeads_38 : decode cX3_countHeads 38 = .ok (.aload_n 0, 1) := by decide +kernel
theorem dX3_countHeads_39 : decode cX3_countHeads 39 = .ok (.getfield 49, 3) := by decide +kernel
theorem dX3_countHeads_42 : decode cX3_countHeads 42 = .ok (.iadd, 1) := by decide +kernel
theorem dX3_countHeads_43 : decode cX3_countHeads 43 = .ok (.iastore, 1) := by decide +kernel
theorem dX3_countHeads_44 : decode cX3_countHeads 44 = .ok (.iconst 0, 1) := by decide +kernel
theorem dX3_countHeads_45 : decode cX3_countHeads 45 = .ok (.istore_n 1, 1) := by decide +kernel
theorem dX3_countHeads_46 : decode cX3_countHeads 46 = .ok (.iload_n 1, 1) := by decide +kernel
theorem dX3_countHeads_47 : decode cX3_countHeads 47 = .ok (.aload_n 0, 1) := by decide +kernel
theorem dX3_countHeads_48 : decode cX3_countHeads 48 = .ok (.getfield 43, 3) := by decide +kernel
theorem dX3_countHeads_51 : decode cX3_countHeads 51 = .ok (.if_icmp .ge 59, 3) := by decide +kernel
theorem dX3_countHeads_54 : decode cX3_countHeads 54 = .ok (.aload_n 0, 1) := by decide +kernel
theorem dX3_countHeads_55 : decode cX3_countHeads 55 = .ok (.getfield 30, 3) := by decide +kernel
theorem dX3_countHeads_58 : decode cX3_countHeads 58 = .ok (.aload_n 0, 1) := by decide +kernel
theorem dX3_countHeads_59 : decode cX3_countHeads 59 = .ok (.getfield 24, 3) := by decide +kernel
theorem dX3_countHeads_62 : decode cX3_countHeads 62 = .ok (.iload_n 1, 1) := by decide +kernel
theorem dX3_countHeads_63 : decode cX3_countHeads 63 = .ok (.iaload, 1) := by decide +kernel
theorem dX3_countHeads_64 : decode cX3_countHeads 64 = .ok (.dup2, 1) := by decide +kernel
theorem dX3_countHeads_65 : decode cX3_countHeads 65 = .ok (.iaload, 1) := by decide +kernel
theorem dX3_countHeads_66 : decode cX3_countHeads 66 = .ok (.aload_n 0, 1) := by decide +kernel
theorem dX3_countHeads_67 : decode cX3_countHeads 67 = .ok (.getfield 27, 3) := by decide +kernel
theorem dX3_countHeads_70 : decode cX3_countHeads 70 = .ok (.iload_n 1, 1) := by decide +kernel
theorem dX3_countHeads_71 : decode cX3_countHeads 71 = .ok (.iaload, 1) := by decide +kernel
theorem dX3_countHeads_72 : decode cX3_countHeads 72 = .ok (.iadd, 1) := by decide +kernel
theorem dX3_countHeads_73 : decode cX3_countHeads 73 = .ok (.iastore, 1) := by decide +kernel
theorem dX3_countHeads_74 : decode cX3_countHeads 74 = .ok (.aload_n 0, 1) := by decide +kernel
theorem dX3_countHeads_75 : decode cX3_countHeads 75 = .ok (.getfield 21, 3) := by decide +kernel
theorem dX3_countHeads_78 : decode cX3_countHeads 78 = .ok (.iload_n 1, 1) := by decide +kernel
theorem dX3_countHeads_79 : decode cX3_countHeads 79 = .ok (.iaload, 1) := by decide +kernel
theorem dX3_countHeads_80 : decode cX3_countHeads 80 = .ok (.iconst 2, 1) := by decide +kernel
theorem dX3_countHeads_81 : decode cX3_countHeads 81 = .ok (.if_icmp .ne 23, 3) := by decide +kernel
theorem dX3_countHeads_84 : decode cX3_countHeads 84 = .ok (.aload_n 0, 1) := by decide +kernel
theorem dX3_countHeads_85 : decode cX3_countHeads 85 = .ok (.getfield 33, 3) := by decide +kernel
theorem dX3_countHeads_88 : decode cX3_countHeads 88 = .ok (.aload_n 0, 1) := by decide +kernel
theorem dX3_countHeads_89 : decode cX3_countHeads 89 = .ok (.getfield 24, 3) := by decide +kernel
theorem dX3_countHeads_92 : decode cX3_countHeads 92 = .ok (.iload_n 1, 1) := by decide +kernel
theorem dX3_countHeads_93 : decode cX3_countHeads 93 = .ok (.iaload, 1) := by decide +kernel
theorem dX3_countHeads_94 : decode cX3_countHeads 94 = .ok (.dup2, 1) := by decide +kernel
theorem dX3_countHeads_95 : decode cX3_countHeads 95 = .ok (.iaload, 1) := by decide +kernel
theorem dX3_countHeads_96 : decode cX3_countHeads 96 = .ok (.aload_n 0, 1) := by decide +kernel
theorem dX3_countHeads_97 : decode cX3_countHeads 97 = .ok (.getfield 27, 3) := by decide +kernel
theorem dX3_countHeads_100 : decode cX3_countHeads 100 = .ok (.iload_n 1, 1) := by decide +kernel
theorem dX3_countHeads_101 : decode cX3_countHeads 101 = .ok (.iaload, 1) := by decide +kernel
theorem dX3_countHeads_102 : decode cX3_countHeads 102 = .ok (.iadd, 1) := by decide +kernel
theorem dX3_countHeads_103 : decode cX3_countHeads 103 = .ok (.iastore, 1) := by decide +kernel
theorem dX3_countHeads_104 : decode cX3_countHeads 104 = .ok (.iinc 1 1, 3) := by decide +kernel
theorem dX3_countHeads_107 : decode cX3_countHeads 107 = .ok (.goto (-61), 3) := by decide +kernel
theorem dX3_countHeads_110 : decode cX3_countHeads 110 = .ok (.return_, 1) := by decide +kernel
theorem dX3_goalOf_0 : decode cX3_goalOf 0 = .ok (.aload_n 0, 1) := by decide +kernel
theorem dX3_goalOf_1 : decode cX3_goalOf 1 = .ok (.getfield 24, 3) := by decide +kernel
theorem dX3_goalOf_4 : decode cX3_goalOf 4 = .ok (.iload_n 1, 1) := by decide +kernel
theorem dX3_goalOf_5 : decode cX3_goalOf 5 = .ok (.iaload, 1) := by decide +kernel
theorem dX3_goalOf_6 : decode cX3_goalOf 6 = .ok (.istore_n 2, 1) := by decide +kernel
theorem dX3_goalOf_7 : decode cX3_goalOf 7 = .ok (.aload_n 0, 1) := by decide +kernel
theorem dX3_goalOf_8 : decode cX3_goalOf 8 = .ok (.getfield 21, 3) := by decide +kernel
theorem dX3_goalOf_11 : decode cX3_goalOf 11 = .ok (.iload_n 1, 1) := by decide +kernel
theorem dX3_goalOf_12 : decode cX3_goalOf 12 = .ok (.iaload, 1) := by decide +kernel
theorem dX3_goalOf_13 : decode cX3_goalOf 13 = .ok (.istore_n 3, 1) := by decide +kernel
theorem dX3_goalOf_14 : decode cX3_goalOf 14 = .ok (.iload_n 3, 1) := by decide +kernel
theorem dX3_goalOf_15 : decode cX3_goalOf 15 = .ok (.iconst 4, 1) := by decide +kernel
theorem dX3_goalOf_16 : decode cX3_goalOf 16 = .ok (.if_icmp .ne 5, 3) := by decide +kernel
theorem dX3_goalOf_19 : decode cX3_goalOf 19 = .ok (.iload_n 2, 1) := by decide +kernel
theorem dX3_goalOf_20 : decode cX3_goalOf 20 = .ok (.ireturn, 1) := by decide +kernel
theorem dX3_goalOf_21 : decode cX3_goalOf 21 = .ok (.iload_n 3, 1) := by decide +kernel
theorem dX3_goalOf_22 : decode cX3_goalOf 22 = .ok (.iconst 2, 1) := by decide +kernel
theorem dX3_goalOf_23 : decode cX3_goalOf 23 = .ok (.if_icmp .ne 10, 3) := by decide +kernel
theorem dX3_goalOf_26 : decode cX3_goalOf 26 = .ok (.aload_n 0, 1) := by decide +kernel
theorem dX3_goalOf_27 : decode cX3_goalOf 27 = .ok (.getfield 33, 3) := by decide +kernel
theorem dX3_goalOf_30 : decode cX3_goalOf 30 = .ok (.goto 26, 3) := by decide +kernel
theorem dX3_goalOf_33 : decode cX3_goalOf 33 = .ok (.iload_n 3, 1) := by decide +kernel
theorem dX3_goalOf_34 : decode cX3_goalOf 34 = .ok (.iconst 3, 1) := by decide +kernel
theorem dX3_goalOf_35 : decode cX3_goalOf 35 = .ok (.if_icmp .ne 17, 3) := by decide +kernel
theorem dX3_goalOf_38 : decode cX3_goalOf 38 = .ok (.aload_n 0, 1) := by decide +kernel
theorem dX3_goalOf_39 : decode cX3_goalOf 39 = .ok (.getfield 46, 3) := by decide +kernel
theorem dX3_goalOf_42 : decode cX3_goalOf 42 = .ok (.ifCond .le 10, 3) := by decide +kernel
theorem dX3_goalOf_45 : decode cX3_goalOf 45 = .ok (.aload_n 0, 1) := by decide +kernel
theorem dX3_goalOf_46 : decode cX3_goalOf 46 = .ok (.getfield 18, 3) := by decide +kernel
theorem dX3_goalOf_49 : decode cX3_goalOf 49 = .ok (.goto 7, 3) := by decide +kernel
theorem dX3_goalOf_52 : decode cX3_goalOf 52 = .ok (.aload_n 0, 1) := by decide +kernel
theorem dX3_goalOf_53 : decode cX3_goalOf 53 = .ok (.getfield 30, 3) := by decide +kernel
theorem dX3_goalOf_56 : decode cX3_goalOf 56 = .ok (.astore 4, 2) := by decide +kernel
theorem dX3_goalOf_58 : decode cX3_goalOf 58 = .ok (.iload_n 3, 1) := by decide +kernel
theorem dX3_goalOf_59 : decode cX3_goalOf 59 = .ok (.iconst 5, 1) := by decide +kernel
theorem dX3_goalOf_60 : decode cX3_goalOf 60 = .ok (.if_icmp .ne 7, 3) := by decide +kernel
theorem dX3_goalOf_63 : decode cX3_goalOf 63 = .ok (.iconst (-1), 1) := by decide +kernel
theorem dX3_goalOf_64 : decode cX3_goalOf 64 = .ok (.goto 4, 3) := by decide +kernel
theorem dX3_goalOf_67 : decode cX3_goalOf 67 = .ok (.iconst 1, 1) := by decide +kernel
theorem dX3_goalOf_68 : decode cX3_goalOf 68 = .ok (.istore 5, 2) := by decide +kernel
theorem dX3_goalOf_70 : decode cX3_goalOf 70 = .ok (.iload_n 2, 1) := by decide +kernel
theorem dX3_goalOf_71 : decode cX3_goalOf 71 = .ok (.istore 6, 2) := by decide +kernel
theorem dX3_goalOf_73 : decode cX3_goalOf 73 = .ok (.iconst 0, 1) := by decide +kernel
theorem dX3_goalOf_74 : decode cX3_goalOf 74 = .ok (.istore 7, 2) := by decide +kernel
theorem dX3_goalOf_76 : decode cX3_goalOf 76 = .ok (.iload 7, 2) := by decide +kernel
theorem dX3_goalOf_78 : decode cX3_goalOf 78 = .ok (.aload_n 0, 1) := by decide +kernel
theorem dX3_goalOf_79 : decode cX3_goalOf 79 = .ok (.getfield 39, 3) := by decide +kernel
theorem dX3_goalOf_82 : decode cX3_goalOf 82 = .ok (.if_icmp .ge 47, 3) := by decide +kernel
theorem dX3_goalOf_85 : decode cX3_goalOf 85 = .ok (.aload_n 0, 1) := by decide +kernel
theorem dX3_goalOf_86 : decode cX3_goalOf 86 = .ok (.getfield 15, 3) := by decide +kernel
theorem dX3_goalOf_89 : decode cX3_goalOf 89 = .ok (.iload_n 2, 1) := by decide +kernel
theorem dX3_goalOf_90 : decode cX3_goalOf 90 = .ok (.iaload, 1) := by decide +kernel
theorem dX3_goalOf_91 : decode cX3_goalOf 91 = .ok (.iload 7, 2) := by decide +kernel
theorem dX3_goalOf_93 : decode cX3_goalOf 93 = .ok (.ishr, 1) := by decide +kernel
theorem dX3_goalOf_94 : decode cX3_goalOf 94 = .ok (.iconst 1, 1) := by decide +kernel
theorem dX3_goalOf_95 : decode cX3_goalOf 95 = .ok (.iand, 1) := by decide +kernel
theorem dX3_goalOf_96 : decode cX3_goalOf 96 = .ok (.iconst 1, 1) := by decide +kernel
theorem dX3_goalOf_97 : decode cX3_goalOf 97 = .ok (.if_icmp .ne 26, 3) := by decide +kernel
theorem dX3_goalOf_100 : decode cX3_goalOf 100 = .ok (.iload 5, 2) := by decide +kernel
theorem dX3_goalOf_102 : decode cX3_goalOf 102 = .ok (.aload 4, 2) := by decide +kernel
theorem dX3_goalOf_104 : decode cX3_goalOf 104 = .ok (.iload 7, 2) := by decide +kernel
theorem dX3_goalOf_106 : decode cX3_goalOf 106 = .ok (.iaload, 1) := by decide +kernel
theorem dX3_goalOf_107 : decode cX3_goalOf 107 = .ok (.imul, 1) := by decide +kernel
theorem dX3_goalOf_108 : decode cX3_goalOf 108 = .ok (.iload 5, 2) := by decide +kernel
theorem dX3_goalOf_110 : decode cX3_goalOf 110 = .ok (.aload 4, 2) := by decide +kernel
theorem dX3_goalOf_112 : decode cX3_goalOf 112 = .ok (.iload 6, 2) := by decide +kernel
theorem dX3_goalOf_114 : decode cX3_goalOf 114 = .ok (.iaload, 1) := by decide +kernel
theorem dX3_goalOf_115 : decode cX3_goalOf 115 = .ok (.imul, 1) := by decide +kernel
theorem dX3_goalOf_116 : decode cX3_goalOf 116 = .ok (.if_icmp .le 7, 3) := by decide +kernel
theorem dX3_goalOf_119 : decode cX3_goalOf 119 = .ok (.iload 7, 2) := by decide +kernel
theorem dX3_goalOf_121 : decode cX3_goalOf 121 = .ok (.istore 6, 2) := by decide +kernel
theorem dX3_goalOf_123 : decode cX3_goalOf 123 = .ok (.iinc 7 1, 3) := by decide +kernel
theorem dX3_goalOf_126 : decode cX3_goalOf 126 = .ok (.goto (-50), 3) := by decide +kernel
theorem dX3_goalOf_129 : decode cX3_goalOf 129 = .ok (.iload 6, 2) := by decide +kernel
theorem dX3_goalOf_131 : decode cX3_goalOf 131 = .ok (.ireturn, 1) := by decide +kernel
end
section
/-! decode rows: X4 -/
theorem dX4_init_0 : decode cX4_init 0 = .ok (.aload_n 0, 1) := by decide +kernel
theorem dX4_init_1 : decode cX4_init 1 = .ok (.invokespecial 3, 3) := by decide +kernel
theorem dX4_init_4 : decode cX4_init 4 = .ok (.aload_n 0, 1) := by decide +kernel
theorem dX4_init_5 : decode cX4_init 5 = .ok (.new 9, 3) := by decide +kernel
theorem dX4_init_8 : decode cX4_init 8 = .ok (.dup, 1) := by decide +kernel
theorem dX4_init_9 : decode cX4_init 9 = .ok (.invokespecial 11, 3) := by decide +kernel
theorem dX4_init_12 : decode cX4_init 12 = .ok (.putfield 12, 3) := by decide +kernel
theorem dX4_init_15 : decode cX4_init 15 = .ok (.aload_n 0, 1) := by decide +kernel
theorem dX4_init_16 : decode cX4_init 16 = .ok (.aload_n 1, 1) := by decide +kernel
theorem dX4_init_17 : decode cX4_init 17 = .ok (.putfield 18, 3) := by decide +kernel
theorem dX4_init_20 : decode cX4_init 20 = .ok (.return_, 1) := by decide +kernel
theorem dX4_readTape_0 : decode cX4_readTape 0 = .ok (.aload_n 0, 1) := by decide +kernel
theorem dX4_readTape_1 : decode cX4_readTape 1 = .ok (.getfield 12, 3) := by decide +kernel
theorem dX4_readTape_4 : decode cX4_readTape 4 = .ok (.invokevirtual 22, 3) := by decide +kernel
theorem dX4_readTape_7 : decode cX4_readTape 7 = .ok (.aload_n 0, 1) := by decide +kernel
theorem dX4_readTape_8 : decode cX4_readTape 8 = .ok (.iconst 0, 1) := by decide +kernel
theorem dX4_readTape_9 : decode cX4_readTape 9 = .ok (.putfield 25, 3) := by decide +kernel
theorem dX4_readTape_12 : decode cX4_readTape 12 = .ok (.aload_n 0, 1) := by decide +kernel
theorem dX4_readTape_13 : decode cX4_readTape 13 = .ok (.iconst 0, 1) := by decide +kernel
theorem dX4_readTape_14 : decode cX4_readTape 14 = .ok (.putfield 29, 3) := by decide +kernel
theorem dX4_readTape_17 : decode cX4_readTape 17 = .ok (.aload_n 0, 1) := by decide +kernel
theorem dX4_readTape_18 : decode cX4_readTape 18 = .ok (.getfield 18, 3) := by decide +kernel
theorem dX4_readTape_21 : decode cX4_readTape 21 = .ok (.invokevirtual 32, 3) := by decide +kernel
theorem dX4_readTape_24 : decode cX4_readTape 24 = .ok (.aload_n 0, 1) := by decide +kernel
theorem dX4_readTape_25 : decode cX4_readTape 25 = .ok (.invokevirtual 37, 3) := by decide +kernel
theorem dX4_readTape_28 : decode cX4_readTape 28 = .ok (.istore_n 1, 1) := by decide +kernel
theorem dX4_readTape_29 : decode cX4_readTape 29 = .ok (.iconst 0, 1) := by decide +kernel
theorem dX4_readTape_30 : decode cX4_readTape 30 = .ok (.istore_n 2, 1) := by decide +kernel
theorem dX4_readTape_31 : decode cX4_readTape 31 = .ok (.iload_n 2, 1) := by decide +kernel
theorem dX4_readTape_32 : decode cX4_readTape 32 = .ok (.sipush 400, 3) := by decide +kernel
theorem dX4_readTape_35 : decode cX4_readTape 35 = .ok (.if_icmp .ge 28, 3) := by decide +kernel
theorem dX4_readTape_38 : decode cX4_readTape 38 = .ok (.iload_n 1, 1) := by decide +kernel
theorem dX4_readTape_39 : decode cX4_readTape 39 = .ok (.ifCond .eq 24, 3) := by decide +kernel
theorem dX4_readTape_42 : decode cX4_readTape 42 = .ok (.aload_n 0, 1) := by decide +kernel
theorem dX4_readTape_43 : decode cX4_readTape 43 = .ok (.getfield 18, 3) := by decide +kernel
theorem dX4_readTape_46 : decode cX4_readTape 46 = .ok (.getfield 41, 3) := by decide +kernel
theorem dX4_readTape_49 : decode cX4_readTape 49 = .ok (.ifCond .eq 14, 3) := by decide +kernel
theorem dX4_readTape_52 : decode cX4_readTape 52 = .ok (.aload_n 0, 1) := by decide +kernel
theorem dX4_readTape_53 : decode cX4_readTape 53 = .ok (.invokevirtual 44, 3) := by decide +kernel
theorem dX4_readTape_56 : decode cX4_readTape 56 = .ok (.istore_n 1, 1) := by decide +kernel
theorem dX4_readTape_57 : decode cX4_readTape 57 = .ok (.iinc 2 1, 3) := by decide +kernel
theorem dX4_readTape_60 : decode cX4_readTape 60 = .ok (.goto (-29), 3) := by decide +kernel
theorem dX4_readTape_63 : decode cX4_readTape 63 = .ok (.iload_n 1, 1) := by decide +kernel
theorem dX4_readTape_64 : decode cX4_readTape 64 = .ok (.ireturn, 1) := by decide +kernel
theorem dX4_readPart_0 : decode cX4_readPart 0 = .ok (.aload_n 0, 1) := by decide +kernel
theorem dX4_readPart_1 : decode cX4_readPart 1 = .ok (.getfield 25, 3) := by decide +kernel
theorem dX4_readPart_4 : decode cX4_readPart 4 = .ok (.ifCond .ne 20, 3) := by decide +kernel
theorem dX4_readPart_7 : decode cX4_readPart 7 = .ok (.aload_n 0, 1) := by decide +kernel
theorem dX4_readPart_8 : decode cX4_readPart 8 = .ok (.getfield 18, 3) := by decide +kernel
theorem dX4_readPart_11 : decode cX4_readPart 11 = .ok (.ldc 47, 2) := by decide +kernel
theorem dX4_readPart_13 : decode cX4_readPart 13 = .ok (.invokevirtual 49, 3) := by decide +kernel
theorem dX4_readPart_16 : decode cX4_readPart 16 = .ok (.ifCond .eq 8, 3) := by decide +kernel
theorem dX4_readPart_19 : decode cX4_readPart 19 = .ok (.aload_n 0, 1) := by decide +kernel
theorem dX4_readPart_20 : decode cX4_readPart 20 = .ok (.invokevirtual 37, 3) := by decide +kernel
theorem dX4_readPart_23 : decode cX4_readPart 23 = .ok (.ireturn, 1) := by decide +kernel
theorem dX4_readPart_24 : decode cX4_readPart 24 = .ok (.aload_n 0, 1) := by decide +kernel
theorem dX4_readPart_25 : decode cX4_readPart 25 = .ok (.getfield 25, 3) := by decide +kernel
theorem dX4_readPart_28 : decode cX4_readPart 28 = .ok (.iconst 1, 1) := by decide +kernel
theorem dX4_readPart_29 : decode cX4_readPart 29 = .ok (.if_icmp .gt 25, 3) := by decide +kernel
theorem dX4_readPart_32 : decode cX4_readPart 32 = .ok (.aload_n 0, 1) := by decide +kernel
theorem dX4_readPart_33 : decode cX4_readPart 33 = .ok (.getfield 18, 3) := by decide +kernel
theorem dX4_readPart_36 : decode cX4_readPart 36 = .ok (.ldc 53, 2) := by decide +kernel
theorem dX4_readPart_38 : decode cX4_readPart 38 = .ok (.invokevirtual 49, 3) := by decide +kernel
theorem dX4_readPart_41 : decode cX4_readPart 41 = .ok (.ifCond .eq 13, 3) := by decide +kernel
theorem dX4_readPart_44 : decode cX4_readPart 44 = .ok (.aload_n 0, 1) := by decide +kernel
theorem dX4_readPart_45 : decode cX4_readPart 45 = .ok (.iconst 1, 1) := by decide +kernel
theorem dX4_readPart_46 : decode cX4_readPart 46 = .ok (.putfield 25, 3) := by decide +kernel
theorem dX4_readPart_49 : decode cX4_readPart 49 = .ok (.aload_n 0, 1) := by decide +kernel
theorem dX4_readPart_50 : decode cX4_readPart 50 = .ok (.invokevirtual 55, 3) := by decide +kernel
theorem dX4_readPart_53 : decode cX4_readPart 53 = .ok (.ireturn, 1) := by decide +kernel
theorem dX4_readPart_54 : decode cX4_readPart 54 = .ok (.aload_n 0, 1) := by decide +kernel
theorem dX4_readPart_55 : decode cX4_readPart 55 = .ok (.iconst 2, 1) := by decide +kernel
theorem dX4_readPart_56 : decode cX4_readPart 56 = .ok (.putfield 25, 3) := by decide +kernel
theorem dX4_readPart_59 : decode cX4_readPart 59 = .ok (.aload_n 0, 1) := by decide +kernel
theorem dX4_readPart_60 : decode cX4_readPart 60 = .ok (.invokevirtual 58, 3) := by decide +kernel
theorem dX4_readPart_63 : decode cX4_readPart 63 = .ok (.ireturn, 1) := by decide +kernel
theorem dX4_readRoom_0 : decode cX4_readRoom 0 = .ok (.aload_n 0, 1) := by decide +kernel
theorem dX4_readRoom_1 : decode cX4_readRoom 1 = .ok (.ldc 47, 2) := by decide +kernel
theorem dX4_readRoom_3 : decode cX4_readRoom 3 = .ok (.aload_n 0, 1) := by decide +kernel
theorem dX4_readRoom_4 : decode cX4_readRoom 4 = .ok (.getfield 12, 3) := by decide +kernel
theorem dX4_readRoom_7 : decode cX4_readRoom 7 = .ok (.getfield 61, 3) := by decide +kernel
theorem dX4_readRoom_10 : decode cX4_readRoom 10 = .ok (.bipush 6, 2) := by decide +kernel
theorem dX4_readRoom_12 : decode cX4_readRoom 12 = .ok (.if_icmp .ge 7, 3) := by decide +kernel
theorem dX4_readRoom_15 : decode cX4_readRoom 15 = .ok (.iconst 1, 1) := by decide +kernel
theorem dX4_readRoom_16 : decode cX4_readRoom 16 = .ok (.goto 4, 3) := by decide +kernel
theorem dX4_readRoom_19 : decode cX4_readRoom 19 = .ok (.iconst 0, 1) := by decide +kernel
theorem dX4_readRoom_20 : decode cX4_readRoom 20 = .ok (.invokevirtual 64, 3) := by decide +kernel
theorem dX4_readRoom_23 : decode cX4_readRoom 23 = .ok (.ifCond .ne 5, 3) := by decide +kernel
theorem dX4_readRoom_26 : decode cX4_readRoom 26 = .ok (.iconst 0, 1) := by decide +kernel
theorem dX4_readRoom_27 : decode cX4_readRoom 27 = .ok (.ireturn, 1) := by decide +kernel
theorem dX4_readRoom_28 : decode cX4_readRoom 28 = .ok (.aload_n 0, 1) := by decide +kernel
theorem dX4_readRoom_29 : decode cX4_readRoom 29 = .ok (.getfield 18, 3) := by decide +kernel
theorem dX4_readRoom_32 : decode cX4_readRoom 32 = .ok (.getfield 68, 3) := by decide +kernel
theorem dX4_readRoom_35 : decode cX4_readRoom 35 = .ok (.istore_n 1, 1) := by decide +kernel
theorem dX4_readRoom_36 : decode cX4_readRoom 36 = .ok (.aload_n 0, 1) := by decide +kernel
theorem dX4_readRoom_37 : decode cX4_readRoom 37 = .ok (.iconst 0, 1) := by decide +kernel
theorem dX4_readRoom_38 : decode cX4_readRoom 38 = .ok (.bipush 99, 2) := by decide +kernel
theorem dX4_readRoom_40 : decode cX4_readRoom 40 = .ok (.iconst (-1), 1) := by decide +kernel
theorem dX4_readRoom_41 : decode cX4_readRoom 41 = .ok (.invokevirtual 71, 3) := by decide +kernel
theorem dX4_readRoom_44 : decode cX4_readRoom 44 = .ok (.ifCond .eq 10, 3) := by decide +kernel
theorem dX4_readRoom_47 : decode cX4_readRoom 47 = .ok (.aload_n 0, 1) := by decide +kernel
theorem dX4_readRoom_48 : decode cX4_readRoom 48 = .ok (.invokevirtual 75, 3) := by decide +kernel
theorem dX4_readRoom_51 : decode cX4_readRoom 51 = .ok (.ifCond .ne 5, 3) := by decide +kernel
theorem dX4_readRoom_54 : decode cX4_readRoom 54 = .ok (.iconst 0, 1) := by decide +kernel
theorem dX4_readRoom_55 : decode cX4_readRoom 55 = .ok (.ireturn, 1) := by decide +kernel
theorem dX4_readRoom_56 : decode cX4_readRoom 56 = .ok (.aload_n 0, 1) := by decide +kernel
theorem dX4_readRoom_57 : decode cX4_readRoom 57 = .ok (.getfield 12, 3) := by decide +kernel
theorem dX4_readRoom_60 : decode cX4_readRoom 60 = .ok (.getfield 78, 3) := by decide +kernel
theorem dX4_readRoom_63 : decode cX4_readRoom 63 = .ok (.aload_n 0, 1) := by decide +kernel
theorem dX4_readRoom_64 : decode cX4_readRoom 64 = .ok (.getfield 12, 3) := by decide +kernel
theorem dX4_readRoom_67 : decode cX4_readRoom 67 = .ok (.getfield 61, 3) := by decide +kernel
theorem dX4_readRoom_70 : decode cX4_readRoom 70 = .ok (.iload_n 1, 1) := by decide +kernel
theorem dX4_readRoom_71 : decode cX4_readRoom 71 = .ok (.iastore, 1) := by decide +kernel
theorem dX4_readRoom_72 : decode cX4_readRoom 72 = .ok (.aload_n 0, 1) := by decide +kernel
theorem dX4_readRoom_73 : decode cX4_readRoom 73 = .ok (.getfield 12, 3) := by decide +kernel
theorem dX4_readRoom_76 : decode cX4_readRoom 76 = .ok (.dup, 1) := by decide +kernel
theorem dX4_readRoom_77 : decode cX4_readRoom 77 = .ok (.getfield 61, 3) := by decide +kernel
theorem dX4_readRoom_80 : decode cX4_readRoom 80 = .ok (.iconst 1, 1) := by decide +kernel
theorem dX4_readRoom_81 : decode cX4_readRoom 81 = .ok (.iadd, 1) := by decide +kernel
theorem dX4_readRoom_82 : decode cX4_readRoom 82 = .ok (.putfield 61, 3) := by decide +kernel
theorem dX4_readRoom_85 : decode cX4_readRoom 85 = .ok (.iconst 1, 1) := by decide +kernel
theorem dX4_readRoom_86 : decode cX4_readRoom 86 = .ok (.ireturn, 1) := by decide +kernel
theorem dX4_readDoor_0 : decode cX4_readDoor 0 = .ok (.aload_n 0, 1) := by decide +kernel
theorem dX4_readDoor_1 : decode cX4_readDoor 1 = .ok (.ldc 53, 2) := by decide +kernel
theorem dX4_readDoor_3 : decode cX4_readDoor 3 = .ok (.aload_n 0, 1) := by decide +kernel
theorem dX4_readDoor_4 : decode cX4_readDoor 4 = .ok (.getfield 29, 3) := by decide +kernel
theorem dX4_readDoor_7 : decode cX4_readDoor 7 = .ok (.bipush 12, 2) := by decide +kernel
theorem dX4_readDoor_9 : decode cX4_readDoor 9 = .ok (.if_icmp .ge 7, 3) := by decide +kernel
theorem dX4_readDoor_12 : decode cX4_readDoor 12 = .ok (.iconst 1, 1) := by decide +kernel
theorem dX4_readDoor_13 : decode cX4_readDoor 13 = .ok (.goto 4, 3) := by decide +kernel
theorem dX4_readDoor_16 : decode cX4_readDoor 16 = .ok (.iconst 0, 1) := by decide +kernel
theorem dX4_readDoor_17 : decode cX4_readDoor 17 = .ok (.invokevirtual 64, 3) := by decide +kernel
theorem dX4_readDoor_20 : decode cX4_readDoor 20 = .ok (.ifCond .ne 5, 3) := by decide +kernel
theorem dX4_readDoor_23 : decode cX4_readDoor 23 = .ok (.iconst 0, 1) := by decide +kernel
theorem dX4_readDoor_24 : decode cX4_readDoor 24 = .ok (.ireturn, 1) := by decide +kernel
theorem dX4_readDoor_25 : decode cX4_readDoor 25 = .ok (.aload_n 0, 1) := by decide +kernel
theorem dX4_readDoor_26 : decode cX4_readDoor 26 = .ok (.getfield 18, 3) := by decide +kernel
theorem dX4_readDoor_29 : decode cX4_readDoor 29 = .ok (.getfield 68, 3) := by decide +kernel
theorem dX4_readDoor_32 : decode cX4_readDoor 32 = .ok (.istore_n 1, 1) := by decide +kernel
theorem dX4_readDoor_33 : decode cX4_readDoor 33 = .ok (.aload_n 0, 1) := by decide +kernel
theorem dX4_readDoor_34 : decode cX4_readDoor 34 = .ok (.iconst 0, 1) := by decide +kernel
theorem dX4_readDoor_35 : decode cX4_readDoor 35 = .ok (.aload_n 0, 1) := by decide +kernel
theorem dX4_readDoor_36 : decode cX4_readDoor 36 = .ok (.getfield 12, 3) := by decide +kernel
theorem dX4_readDoor_39 : decode cX4_readDoor 39 = .ok (.getfield 61, 3) := by decide +kernel
theorem dX4_readDoor_42 : decode cX4_readDoor 42 = .ok (.iconst 1, 1) := by decide +kernel
theorem dX4_readDoor_43 : decode cX4_readDoor 43 = .ok (.isub, 1) := by decide +kernel
theorem dX4_readDoor_44 : decode cX4_readDoor 44 = .ok (.iconst (-1), 1) := by decide +kernel
theorem dX4_readDoor_45 : decode cX4_readDoor 45 = .ok (.invokevirtual 71, 3) := by decide +kernel
theorem dX4_readDoor_48 : decode cX4_readDoor 48 = .ok (.ifCond .ne 5, 3) := by decide +kernel
theorem dX4_readDoor_51 : decode cX4_readDoor 51 = .ok (.iconst 0, 1) := by decide +kernel
theorem dX4_readDoor_52 : decode cX4_readDoor 52 = .ok (.ireturn, 1) := by decide +kernel
theorem dX4_readDoor_53 : decode cX4_readDoor 53 = .ok (.aload_n 0, 1) := by decide +kernel
theorem dX4_readDoor_54 : decode cX4_readDoor 54 = .ok (.getfield 18, 3) := by decide +kernel
theorem dX4_readDoor_57 : decode cX4_readDoor 57 = .ok (.getfield 68, 3) := by decide +kernel
theorem dX4_readDoor_60 : decode cX4_readDoor 60 = .ok (.istore_n 2, 1) := by decide +kernel
theorem dX4_readDoor_61 : decode cX4_readDoor 61 = .ok (.aload_n 0, 1) := by decide +kernel
theorem dX4_readDoor_62 : decode cX4_readDoor 62 = .ok (.iconst 0, 1) := by decide +kernel
theorem dX4_readDoor_63 : decode cX4_readDoor 63 = .ok (.aload_n 0, 1) := by decide +kernel
theorem dX4_readDoor_64 : decode cX4_readDoor 64 = .ok (.getfield 12, 3) := by decide +kernel
theorem dX4_readDoor_67 : decode cX4_readDoor 67 = .ok (.getfield 61, 3) := by decide +kernel
theorem dX4_readDoor_70 : decode cX4_readDoor 70 = .ok (.iconst 1, 1) := by decide +kernel
theorem dX4_readDoor_71 : decode cX4_readDoor 71 = .ok (.isub, 1) := by decide +kernel
theorem dX4_readDoor_72 : decode cX4_readDoor 72 = .ok (.iload_n 1, 1) := by decide +kernel
theorem dX4_readDoor_73 : decode cX4_readDoor 73 = .ok (.invokevirtual 71, 3) := by decide +kernel
theorem dX4_readDoor_76 : decode cX4_readDoor 76 = .ok (.ifCond .eq 10, 3) := by decide +kernel
theorem dX4_readDoor_79 : decode cX4_readDoor 79 = .ok (.aload_n 0, 1) := by decide +kernel
theorem dX4_readDoor_80 : decode cX4_readDoor 80 = .ok (.invokevirtual 75, 3) := by decide +kernel
theorem dX4_readDoor_83 : decode cX4_readDoor 83 = .ok (.ifCond .ne 5, 3) := by decide +kernel
theorem dX4_readDoor_86 : decode cX4_readDoor 86 = .ok (.iconst 0, 1) := by decide +kernel
theorem dX4_readDoor_87 : decode cX4_readDoor 87 = .ok (.ireturn, 1) := by decide +kernel
theorem dX4_readDoor_88 : decode cX4_readDoor 88 = .ok (.aload_n 0, 1) := by decide +kernel
theorem dX4_readDoor_89 : decode cX4_readDoor 89 = .ok (.getfield 12, 3) := by decide +kernel
theorem dX4_readDoor_92 : decode cX4_readDoor 92 = .ok (.iload_n 1, 1) := by decide +kernel
theorem dX4_readDoor_93 : decode cX4_readDoor 93 = .ok (.iload_n 2, 1) := by decide +kernel
theorem dX4_readDoor_94 : decode cX4_readDoor 94 = .ok (.iconst 1, 1) := by decide +kernel
theorem dX4_readDoor_95 : decode cX4_readDoor 95 = .ok (.invokevirtual 82, 3) := by decide +kernel
theorem dX4_readDoor_98 : decode cX4_readDoor 98 = .ok (.aload_n 0, 1) := by decide +kernel
theorem dX4_readDoor_99 : decode cX4_readDoor 99 = .ok (.dup, 1) := by decide +kernel
theorem dX4_readDoor_100 : decode cX4_readDoor 100 = .ok (.getfield 29, 3) := by decide +kernel
theorem dX4_readDoor_103 : decode cX4_readDoor 103 = .ok (.iconst 1, 1) := by decide +kernel
theorem dX4_readDoor_104 : decode cX4_readDoor 104 = .ok (.iadd, 1) := by decide +kernel
theorem dX4_readDoor_105 : decode cX4_readDoor 105 = .ok (.putfield 29, 3) := by decide +kernel
theorem dX4_readDoor_108 : decode cX4_readDoor 108 = .ok (.iconst 1, 1) := by decide +kernel
theorem dX4_readDoor_109 : decode cX4_readDoor 109 = .ok (.ireturn, 1) := by decide +kernel
theorem dX4_readCrowd_0 : decode cX4_readCrowd 0 = .ok (.aload_n 0, 1) := by decide +kernel
theorem dX4_readCrowd_1 : decode cX4_readCrowd 1 = .ok (.ldc 86, 2) := by decide +kernel
theorem dX4_readCrowd_3 : decode cX4_readCrowd 3 = .ok (.aload_n 0, 1) := by decide +kernel
theorem dX4_readCrowd_4 : decode cX4_readCrowd 4 = .ok (.getfield 12, 3) := by decide +kernel
theorem dX4_readCrowd_7 : decode cX4_readCrowd 7 = .ok (.getfield 88, 3) := by decide +kernel
theorem dX4_readCrowd_10 : decode cX4_readCrowd 10 = .ok (.iconst 5, 1) := by decide +kernel
theorem dX4_readCrowd_11 : decode cX4_readCrowd 11 = .ok (.if_icmp .ge 7, 3) := by decide +kernel
theorem dX4_readCrowd_14 : decode cX4_readCrowd 14 = .ok (.iconst 1, 1) := by decide +kernel
theorem dX4_readCrowd_15 : decode cX4_readCrowd 15 = .ok (.goto 4, 3) := by decide +kernel
theorem dX4_readCrowd_18 : decode cX4_readCrowd 18 = .ok (.iconst 0, 1) := by decide +kernel
theorem dX4_readCrowd_19 : decode cX4_readCrowd 19 = .ok (.invokevirtual 64, 3) := by decide +kernel
theorem dX4_readCrowd_22 : decode cX4_readCrowd 22 = .ok (.ifCond .ne 5, 3) := by decide +kernel
theorem dX4_readCrowd_25 : decode cX4_readCrowd 25 = .ok (.iconst 0, 1) := by decide +kernel
theorem dX4_readCrowd_26 : decode cX4_readCrowd 26 = .ok (.ireturn, 1) := by decide +kernel
theorem dX4_readCrowd_27 : decode cX4_readCrowd 27 = .ok (.aload_n 0, 1) := by decide +kernel
theorem dX4_readCrowd_28 : decode cX4_readCrowd 28 = .ok (.invokevirtual 91, 3) := by decide +kernel
theorem dX4_readCrowd_31 : decode cX4_readCrowd 31 = .ok (.istore_n 1, 1) := by decide +kernel
theorem dX4_readCrowd_32 : decode cX4_readCrowd 32 = .ok (.iload_n 1, 1) := by decide +kernel
theorem dX4_readCrowd_33 : decode cX4_readCrowd 33 = .ok (.ifCond .ne 9, 3) := by decide +kernel
theorem dX4_readCrowd_36 : decode cX4_readCrowd 36 = .ok (.aload_n 0, 1) := by decide +kernel
theorem dX4_readCrowd_37 : decode cX4_readCrowd 37 = .ok (.iconst 1, 1) := by decide +kernel
theorem dX4_readCrowd_38 : decode cX4_readCrowd 38 = .ok (.invokevirtual 95, 3) := by decide +kernel
theorem dX4_readCrowd_41 : decode cX4_readCrowd 41 = .ok (.ireturn, 1) := by decide +kernel
theorem dX4_readCrowd_42 : decode cX4_readCrowd 42 = .ok (.aload_n 0, 1) := by decide +kernel
theorem dX4_readCrowd_43 : decode cX4_readCrowd 43 = .ok (.getfield 18, 3) := by decide +kernel
theorem dX4_readCrowd_46 : decode cX4_readCrowd 46 = .ok (.invokevirtual 99, 3) := by decide +kernel
theorem dX4_readCrowd_49 : decode cX4_readCrowd 49 = .ok (.aload_n 0, 1) := by decide +kernel
theorem dX4_readCrowd_50 : decode cX4_readCrowd 50 = .ok (.getfield 18, 3) := by decide +kernel
theorem dX4_readCrowd_53 : decode cX4_readCrowd 53 = .ok (.getfield 68, 3) := by decide +kernel
theorem dX4_readCrowd_56 : decode cX4_readCrowd 56 = .ok (.istore_n 2, 1) := by decide +kernel
theorem dX4_readCrowd_57 : decode cX4_readCrowd 57 = .ok (.aload_n 0, 1) := by decide +kernel
theorem dX4_readCrowd_58 : decode cX4_readCrowd 58 = .ok (.iconst 0, 1) := by decide +kernel
theorem dX4_readCrowd_59 : decode cX4_readCrowd 59 = .ok (.aload_n 0, 1) := by decide +kernel
theorem dX4_readCrowd_60 : decode cX4_readCrowd 60 = .ok (.getfield 12, 3) := by decide +kernel
theorem dX4_readCrowd_63 : decode cX4_readCrowd 63 = .ok (.getfield 61, 3) := by decide +kernel
theorem dX4_readCrowd_66 : decode cX4_readCrowd 66 = .ok (.iconst 1, 1) := by decide +kernel
theorem dX4_readCrowd_67 : decode cX4_readCrowd 67 = .ok (.isub, 1) := by decide +kernel
theorem dX4_readCrowd_68 : decode cX4_readCrowd 68 = .ok (.iconst (-1), 1) := by decide +kernel
theorem dX4_readCrowd_69 : decode cX4_readCrowd 69 = .ok (.invokevirtual 71, 3) := by decide +kernel
theorem dX4_readCrowd_72 : decode cX4_readCrowd 72 = .ok (.ifCond .ne 5, 3) := by decide +kernel
theorem dX4_readCrowd_75 : decode cX4_readCrowd 75 = .ok (.iconst 0, 1) := by decide +kernel
theorem dX4_readCrowd_76 : decode cX4_readCrowd 76 = .ok (.ireturn, 1) := by decide +kernel
theorem dX4_readCrowd_77 : decode cX4_readCrowd 77 = .ok (.aload_n 0, 1) := by decide +kernel
theorem dX4_readCrowd_78 : decode cX4_readCrowd 78 = .ok (.getfield 18, 3) := by decide +kernel
theorem dX4_readCrowd_81 : decode cX4_readCrowd 81 = .ok (.getfield 68, 3) := by decide +kernel
theorem dX4_readCrowd_84 : decode cX4_readCrowd 84 = .ok (.istore_n 3, 1) := by decide +kernel
theorem dX4_readCrowd_85 : decode cX4_readCrowd 85 = .ok (.aload_n 0, 1) := by decide +kernel
theorem dX4_readCrowd_86 : decode cX4_readCrowd 86 = .ok (.iconst 1, 1) := by decide +kernel
theorem dX4_readCrowd_87 : decode cX4_readCrowd 87 = .ok (.bipush 50, 2) := by decide +kernel
theorem dX4_readCrowd_89 : decode cX4_readCrowd 89 = .ok (.iconst (-1), 1) := by decide +kernel
theorem dX4_readCrowd_90 : decode cX4_readCrowd 90 = .ok (.invokevirtual 71, 3) := by decide +kernel
theorem dX4_readCrowd_93 : decode cX4_readCrowd 93 = .ok (.ifCond .eq 10, 3) := by decide +kernel
theorem dX4_readCrowd_96 : decode cX4_readCrowd 96 = .ok (.aload_n 0, 1) := by decide +kernel
theorem dX4_readCrowd_97 : decode cX4_readCrowd 97 = .ok (.invokevirtual 75, 3) := by decide +kernel
theorem dX4_readCrowd_100 : decode cX4_readCrowd 100 = .ok (.ifCond .ne 5, 3) := by decide +kernel
theorem dX4_readCrowd_103 : decode cX4_readCrowd 103 = .ok (.iconst 0, 1) := by decide +kernel
theorem dX4_readCrowd_104 : decode cX4_readCrowd 104 = .ok (.ireturn, 1) := by decide +kernel
theorem dX4_readCrowd_105 : decode cX4_readCrowd 105 = .ok (.aload_n 0, 1) := by decide +kernel
theorem dX4_readCrowd_106 : decode cX4_readCrowd 106 = .ok (.getfield 12, 3) := by decide +kernel
theorem dX4_readCrowd_109 : decode cX4_readCrowd 109 = .ok (.getfield 102, 3) := by decide +kernel
theorem dX4_readCrowd_112 : decode cX4_readCrowd 112 = .ok (.aload_n 0, 1) := by decide +kernel
theorem dX4_readCrowd_113 : decode cX4_readCrowd 113 = .ok (.getfield 12, 3) := by decide +kernel
theorem dX4_readCrowd_116 : decode cX4_readCrowd 116 = .ok (.getfield 88, 3) := by decide +kernel
theorem dX4_readCrowd_119 : decode cX4_readCrowd 119 = .ok (.iload_n 1, 1) := by decide +kernel
theorem dX4_readCrowd_120 : decode cX4_readCrowd 120 = .ok (.iastore, 1) := by decide +kernel
theorem dX4_readCrowd_121 : decode cX4_readCrowd 121 = .ok (.aload_n 0, 1) := by decide +kernel
theorem dX4_readCrowd_122 : decode cX4_readCrowd 122 = .ok (.getfield 12, 3) := by decide +kernel
theorem dX4_readCrowd_125 : decode cX4_readCrowd 125 = .ok (.getfield 105, 3) := by decide +kernel
theorem dX4_readCrowd_128 : decode cX4_readCrowd 128 = .ok (.aload_n 0, 1) := by decide +kernel
theorem dX4_readCrowd_129 : decode cX4_readCrowd 129 = .ok (.getfield 12, 3) := by decide +kernel
theorem dX4_readCrowd_132 : decode cX4_readCrowd 132 = .ok (.getfield 88, 3) := by decide +kernel
theorem dX4_readCrowd_135 : decode cX4_readCrowd 135 = .ok (.iload_n 2, 1) := by decide +kernel
theorem dX4_readCrowd_136 : decode cX4_readCrowd 136 = .ok (.iastore, 1) := by decide +kernel
theorem dX4_readCrowd_137 : decode cX4_readCrowd 137 = .ok (.aload_n 0, 1) := by decide +kernel
theorem dX4_readCrowd_138 : decode cX4_readCrowd 138 = .ok (.getfield 12, 3) := by decide +kernel
theorem dX4_readCrowd_141 : decode cX4_readCrowd 141 = .ok (.getfield 108, 3) := by decide +kernel
theorem dX4_readCrowd_144 : decode cX4_readCrowd 144 = .ok (.aload_n 0, 1) := by decide +kernel
theorem dX4_readCrowd_145 : decode cX4_readCrowd 145 = .ok (.getfield 12, 3) := by decide +kernel
theorem dX4_readCrowd_148 : decode cX4_readCrowd 148 = .ok (.getfield 88, 3) := by decide +kernel
theorem dX4_readCrowd_151 : decode cX4_readCrowd 151 = .ok (.iload_n 3, 1) := by decide +kernel
theorem dX4_readCrowd_152 : decode cX4_readCrowd 152 = .ok (.iastore, 1) := by decide +kernel
theorem dX4_readCrowd_153 : decode cX4_readCrowd 153 = .ok (.aload_n 0, 1) := by decide +kernel
theorem dX4_readCrowd_154 : decode cX4_readCrowd 154 = .ok (.getfield 12, 3) := by decide +kernel
theorem dX4_readCrowd_157 : decode cX4_readCrowd 157 = .ok (.dup, 1) := by decide +kernel
theorem dX4_readCrowd_158 : decode cX4_readCrowd 158 = .ok (.getfield 88, 3) := by decide +kernel
theorem dX4_readCrowd_161 : decode cX4_readCrowd 161 = .ok (.iconst 1, 1) := by decide +kernel
theorem dX4_readCrowd_162 : decode cX4_readCrowd 162 = .ok (.iadd, 1) := by decide +kernel
theorem dX4_readCrowd_163 : decode cX4_readCrowd 163 = .ok (.putfield 88, 3) := by decide +kernel
theorem dX4_readCrowd_166 : decode cX4_readCrowd 166 = .ok (.iconst 1, 1) := by decide +kernel
theorem dX4_readCrowd_167 : decode cX4_readCrowd 167 = .ok (.ireturn, 1) := by decide +kernel
theorem dX4_readWord_0 : decode cX4_readWord 0 = .ok (.aload_n 0, 1) := by decide +kernel
theorem dX4_readWord_1 : decode cX4_readWord 1 = .ok (.getfield 18, 3) := by decide +kernel
theorem dX4_readWord_4 : decode cX4_readWord 4 = .ok (.aload_n 1, 1) := by decide +kernel
theorem dX4_readWord_5 : decode cX4_readWord 5 = .ok (.invokevirtual 49, 3) := by decide +kernel
theorem dX4_readWord_8 : decode cX4_readWord 8 = .ok (.ifCond .ne 9, 3) := by decide +kernel
theorem dX4_readWord_11 : decode cX4_readWord 11 = .ok (.aload_n 0, 1) := by decide +kernel
theorem dX4_readWord_12 : decode cX4_readWord 12 = .ok (.iconst 1, 1) := by decide +kernel
theorem dX4_readWord_13 : decode cX4_readWord 13 = .ok (.invokevirtual 95, 3) := by decide +kernel
theorem dX4_readWord_16 : decode cX4_readWord 16 = .ok (.ireturn, 1) := by decide +kernel
theorem dX4_readWord_17 : decode cX4_readWord 17 = .ok (.iload_n 2, 1) := by decide +kernel
theorem dX4_readWord_18 : decode cX4_readWord 18 = .ok (.ifCond .ne 9, 3) := by decide +kernel
theorem dX4_readWord_21 : decode cX4_readWord 21 = .ok (.aload_n 0, 1) := by decide +kernel
theorem dX4_readWord_22 : decode cX4_readWord 22 = .ok (.iconst 3, 1) := by decide +kernel
theorem dX4_readWord_23 : decode cX4_readWord 23 = .ok (.invokevirtual 95, 3) := by decide +kernel
theorem dX4_readWord_26 : decode cX4_readWord 26 = .ok (.ireturn, 1) := by decide +kernel
theorem dX4_readWord_27 : decode cX4_readWord 27 = .ok (.aload_n 0, 1) := by decide +kernel
theorem dX4_readWord_28 : decode cX4_readWord 28 = .ok (.getfield 18, 3) := by decide +kernel
theorem dX4_readWord_31 : decode cX4_readWord 31 = .ok (.invokevirtual 99, 3) := by decide +kernel
theorem dX4_readWord_34 : decode cX4_readWord 34 = .ok (.iconst 1, 1) := by decide +kernel
theorem dX4_readWord_35 : decode cX4_readWord 35 = .ok (.ireturn, 1) := by decide +kernel
theorem dX4_readNumber_0 : decode cX4_readNumber 0 = .ok (.aload_n 0, 1) := by decide +kernel
theorem dX4_readNumber_1 : decode cX4_readNumber 1 = .ok (.getfield 18, 3) := by decide +kernel
theorem dX4_readNumber_4 : decode cX4_readNumber 4 = .ok (.getfield 41, 3) := by decide +kernel
theorem dX4_readNumber_7 : decode cX4_readNumber 7 = .ok (.iconst 2, 1) := by decide +kernel
theorem dX4_readNumber_8 : decode cX4_readNumber 8 = .ok (.if_icmp .eq 9, 3) := by decide +kernel
theorem dX4_readNumber_11 : decode cX4_readNumber 11 = .ok (.aload_n 0, 1) := by decide +kernel
theorem dX4_readNumber_12 : decode cX4_readNumber 12 = .ok (.iconst 1, 1) := by decide +kernel
theorem dX4_readNumber_13 : decode cX4_readNumber 13 = .ok (.invokevirtual 95, 3) := by decide +kernel
theorem dX4_readNumber_16 : decode cX4_readNumber 16 = .ok (.ireturn, 1) := by decide +kernel
theorem dX4_readNumber_17 : decode cX4_readNumber 17 = .ok (.aload_n 0, 1) := by decide +kernel
theorem dX4_readNumber_18 : decode cX4_readNumber 18 = .ok (.getfield 18, 3) := by decide +kernel
theorem dX4_readNumber_21 : decode cX4_readNumber 21 = .ok (.getfield 68, 3) := by decide +kernel
theorem dX4_readNumber_24 : decode cX4_readNumber 24 = .ok (.iload_n 1, 1) := by decide +kernel
theorem dX4_readNumber_25 : decode cX4_readNumber 25 = .ok (.if_icmp .lt 25, 3) := by decide +kernel
theorem dX4_readNumber_28 : decode cX4_readNumber 28 = .ok (.aload_n 0, 1) := by decide +kernel
theorem dX4_readNumber_29 : decode cX4_readNumber 29 = .ok (.getfield 18, 3) := by decide +kernel
theorem dX4_readNumber_32 : decode cX4_readNumber 32 = .ok (.getfield 68, 3) := by decide +kernel
theorem dX4_readNumber_35 : decode cX4_readNumber 35 = .ok (.iload_n 2, 1) := by decide +kernel
theorem dX4_readNumber_36 : decode cX4_readNumber 36 = .ok (.if_icmp .gt 14, 3) := by decide +kernel
theorem dX4_readNumber_39 : decode cX4_readNumber 39 = .ok (.aload_n 0, 1) := by decide +kernel
theorem dX4_readNumber_40 : decode cX4_readNumber 40 = .ok (.getfield 18, 3) := by decide +kernel
theorem dX4_readNumber_43 : decode cX4_readNumber 43 = .ok (.getfield 68, 3) := by decide +kernel
theorem dX4_readNumber_46 : decode cX4_readNumber 46 = .ok (.iload_n 3, 1) := by decide +kernel
theorem dX4_readNumber_47 : decode cX4_readNumber 47 = .ok (.if_icmp .ne 9, 3) := by decide +kernel
theorem dX4_readNumber_50 : decode cX4_readNumber 50 = .ok (.aload_n 0, 1) := by decide +kernel
theorem dX4_readNumber_51 : decode cX4_readNumber 51 = .ok (.iconst 2, 1) := by decide +kernel
theorem dX4_readNumber_52 : decode cX4_readNumber 52 = .ok (.invokevirtual 95, 3) := by decide +kernel
theorem dX4_readNumber_55 : decode cX4_readNumber 55 = .ok (.ireturn, 1) := by decide +kernel
theorem dX4_readNumber_56 : decode cX4_readNumber 56 = .ok (.aload_n 0, 1) := by decide +kernel
theorem dX4_readNumber_57 : decode cX4_readNumber 57 = .ok (.getfield 18, 3) := by decide +kernel
theorem dX4_readNumber_60 : decode cX4_readNumber 60 = .ok (.invokevirtual 99, 3) := by decide +kernel
theorem dX4_readNumber_63 : decode cX4_readNumber 63 = .ok (.iconst 1, 1) := by decide +kernel
theorem dX4_readNumber_64 : decode cX4_readNumber 64 = .ok (.ireturn, 1) := by decide +kernel
theorem dX4_readEnd_0 : decode cX4_readEnd 0 = .ok (.aload_n 0, 1) := by decide +kernel
theorem dX4_readEnd_1 : decode cX4_readEnd 1 = .ok (.getfield 18, 3) := by decide +kernel
theorem dX4_readEnd_4 : decode cX4_readEnd 4 = .ok (.getfield 41, 3) := by decide +kernel
theorem dX4_readEnd_7 : decode cX4_readEnd 7 = .ok (.iconst 3, 1) := by decide +kernel
theorem dX4_readEnd_8 : decode cX4_readEnd 8 = .ok (.if_icmp .eq 9, 3) := by decide +kernel
theorem dX4_readEnd_11 : decode cX4_readEnd 11 = .ok (.aload_n 0, 1) := by decide +kernel
theorem dX4_readEnd_12 : decode cX4_readEnd 12 = .ok (.iconst 1, 1) := by decide +kernel
theorem dX4_readEnd_13 : decode cX4_readEnd 13 = .ok (.invokevirtual 95, 3) := by decide +kernel
theorem dX4_readEnd_16 : decode cX4_readEnd 16 = .ok (.ireturn, 1) := by decide +kernel
theorem dX4_readEnd_17 : decode cX4_readEnd 17 = .ok (.aload_n 0, 1) := by decide +kernel
theorem dX4_readEnd_18 : decode cX4_readEnd 18 = .ok (.getfield 18, 3) := by decide +kernel
theorem dX4_readEnd_21 : decode cX4_readEnd 21 = .ok (.invokevirtual 99, 3) := by decide +kernel
theorem dX4_readEnd_24 : decode cX4_readEnd 24 = .ok (.iconst 1, 1) := by decide +kernel
theorem dX4_readEnd_25 : decode cX4_readEnd 25 = .ok (.ireturn, 1) := by decide +kernel
theorem dX4_sortNamed_0 : decode cX4_sortNamed 0 = .ok (.aload_n 0, 1) := by decide +kernel
theorem dX4_sortNamed_1 : decode cX4_sortNamed 1 = .ok (.getfield 18, 3) := by decide +kernel
theorem dX4_sortNamed_4 : decode cX4_sortNamed 4 = .ok (.ldc 111, 2) := by decide +kernel
theorem dX4_sortNamed_6 : decode cX4_sortNamed 6 = .ok (.invokevirtual 49, 3) := by decide +kernel
theorem dX4_sortNamed_9 : decode cX4_sortNamed 9 = .ok (.ifCond .eq 5, 3) := by decide +kernel
theorem dX4_sortNamed_12 : decode cX4_sortNamed 12 = .ok (.iconst 1, 1) := by decide +kernel
theorem dX4_sortNamed_13 : decode cX4_sortNamed 13 = .ok (.ireturn, 1) := by decide +kernel
theorem dX4_sortNamed_14 : decode cX4_sortNamed 14 = .ok (.aload_n 0, 1) := by decide +kernel
theorem dX4_sortNamed_15 : decode cX4_sortNamed 15 = .ok (.getfield 18, 3) := by decide +kernel
theorem dX4_sortNamed_18 : decode cX4_sortNamed 18 = .ok (.ldc 113, 2) := by decide +kernel
theorem dX4_sortNamed_20 : decode cX4_sortNamed 20 = .ok (.invokevirtual 49, 3) := by decide +kernel
theorem dX4_sortNamed_23 : decode cX4_sortNamed 23 = .ok (.ifCond .eq 5, 3) := by decide +kernel
theorem dX4_sortNamed_26 : decode cX4_sortNamed 26 = .ok (.iconst 2, 1) := by decide +kernel
theorem dX4_sortNamed_27 : decode cX4_sortNamed 27 = .ok (.ireturn, 1) := by decide +kernel
theorem dX4_sortNamed_28 : decode cX4_sortNamed 28 = .ok (.aload_n 0, 1) := by decide +kernel
theorem dX4_sortNamed_29 : decode cX4_sortNamed 29 = .ok (.getfield 18, 3) := by decide +kernel
theorem dX4_sortNamed_32 : decode cX4_sortNamed 32 = .ok (.ldc 115, 2) := by decide +kernel
theorem dX4_sortNamed_34 : decode cX4_sortNamed 34 = .ok (.invokevirtual 49, 3) := by decide +kernel
theorem dX4_sortNamed_37 : decode cX4_sortNamed 37 = .ok (.ifCond .eq 5, 3) := by decide +kernel
theorem dX4_sortNamed_40 : decode cX4_sortNamed 40 = .ok (.iconst 3, 1) := by decide +kernel
theorem dX4_sortNamed_41 : decode cX4_sortNamed 41 = .ok (.ireturn, 1) := by decide +kernel
theorem dX4_sortNamed_42 : decode cX4_sortNamed 42 = .ok (.aload_n 0, 1) := by decide +kernel
theorem dX4_sortNamed_43 : decode cX4_sortNamed 43 = .ok (.getfield 18, 3) := by decide +kernel
theorem dX4_sortNamed_46 : decode cX4_sortNamed 46 = .ok (.ldc 117, 2) := by decide +kernel
theorem dX4_sortNamed_48 : decode cX4_sortNamed 48 = .ok (.invokevirtual 49, 3) := by decide +kernel
theorem dX4_sortNamed_51 : decode cX4_sortNamed 51 = .ok (.ifCond .eq 5, 3) := by decide +kernel
theorem dX4_sortNamed_54 : decode cX4_sortNamed 54 = .ok (.iconst 4, 1) := by decide +kernel
theorem dX4_sortNamed_55 : decode cX4_sortNamed 55 = .ok (.ireturn, 1) := by decide +kernel
theorem dX4_sortNamed_56 : decode cX4_sortNamed 56 = .ok (.aload_n 0, 1) := by decide +kernel
theorem dX4_sortNamed_57 : decode cX4_sortNamed 57 = .ok (.getfield 18, 3) := by decide +kernel
theorem dX4_sortNamed_60 : decode cX4_sortNamed 60 = .ok (.ldc 119, 2) := by decide +kernel
theorem dX4_sortNamed_62 : decode cX4_sortNamed 62 = .ok (.invokevirtual 49, 3) := by decide +kernel
theorem dX4_sortNamed_65 : decode cX4_sortNamed 65 = .ok (.ifCond .eq 7, 3) := by decide +kernel
theorem dX4_sortNamed_68 : decode cX4_sortNamed 68 = .ok (.iconst 5, 1) := by decide +kernel
theorem dX4_sortNamed_69 : decode cX4_sortNamed 69 = .ok (.goto 4, 3) := by decide +kernel
theorem dX4_sortNamed_72 : decode cX4_sortNamed 72 = .ok (.iconst 0, 1) := by decide +kernel
theorem dX4_sortNamed_73 : decode cX4_sortNamed 73 = .ok (.ireturn, 1) := by decide +kernel
theorem dX4_failed_0 : decode cX4_failed 0 = .ok (.aload_n 0, 1) := by decide +kernel
theorem dX4_failed_1 : decode cX4_failed 1 = .ok (.iload_n 1, 1) := by decide +kernel
theorem dX4_failed_2 : decode cX4_failed 2 = .ok (.putfield 121, 3) := by decide +kernel
theorem dX4_failed_5 : decode cX4_failed 5 = .ok (.iconst 0, 1) := by decide +kernel
theorem dX4_failed_6 : decode cX4_failed 6 = .ok (.ireturn, 1) := by decide +kernel
end
section
/-! decode rows: X5 -/
theorem dX5_init_0 : decode cX5_init 0 = .ok (.aload_n 0, 1) := by decide +kernel
theorem dX5_init_1 : decode cX5_init 1 = .ok (.invokespecial 3, 3) := by decide +kernel
theorem dX5_init_4 : decode cX5_init 4 = .ok (.aload_n 0, 1) := by decide +kernel
theorem dX5_init_5 : decode cX5_init 5 = .ok (.bipush 40, 2) := by decide +kernel
theorem dX5_init_7 : decode cX5_init 7 = .ok (.newarray .int, 2) := by decide +kernel
theorem dX5_init_9 : decode cX5_init 9 = .ok (.putfield 9, 3) := by decide +kernel
theorem dX5_init_12 : decode cX5_init 12 = .ok (.return_, 1) := by decide +kernel
theorem dX5_make_0 : decode cX5_make 0 = .ok (.aload_n 0, 1) := by decide +kernel
theorem dX5_make_1 : decode cX5_make 1 = .ok (.iconst 1, 1) := by decide +kernel
theorem dX5_make_2 : decode cX5_make 2 = .ok (.putfield 15, 3) := by decide +kernel
theorem dX5_make_5 : decode cX5_make 5 = .ok (.aload_n 0, 1) := by decide +kernel
theorem dX5_make_6 : decode cX5_make 6 = .ok (.iload_n 1, 1) := by decide +kernel
theorem dX5_make_7 : decode cX5_make 7 = .ok (.putfield 19, 3) := by decide +kernel
theorem dX5_make_10 : decode cX5_make 10 = .ok (.aload_n 0, 1) := by decide +kernel
theorem dX5_make_11 : decode cX5_make 11 = .ok (.iload_n 2, 1) := by decide +kernel
theorem dX5_make_12 : decode cX5_make 12 = .ok (.putfield 23, 3) := by decide +kernel
theorem dX5_make_15 : decode cX5_make 15 = .ok (.iconst 0, 1) := by decide +kernel
theorem dX5_make_16 : decode cX5_make 16 = .ok (.istore_n 3, 1) := by decide +kernel
theorem dX5_make_17 : decode cX5_make 17 = .ok (.iload_n 3, 1) := by decide +kernel
theorem dX5_make_18 : decode cX5_make 18 = .ok (.iload_n 2, 1) := by decide +kernel
theorem dX5_make_19 : decode cX5_make 19 = .ok (.if_icmp .ge 16, 3) := by decide +kernel
theorem dX5_make_22 : decode cX5_make 22 = .ok (.aload_n 0, 1) := by decide +kernel
theorem dX5_make_23 : decode cX5_make 23 = .ok (.getfield 9, 3) := by decide +kernel
theorem dX5_make_26 : decode cX5_make 26 = .ok (.iload_n 3, 1) := by decide +kernel
theorem dX5_make_27 : decode cX5_make 27 = .ok (.iconst 0, 1) := by decide +kernel
theorem dX5_make_28 : decode cX5_make 28 = .ok (.iastore, 1) := by decide +kernel
theorem dX5_make_29 : decode cX5_make 29 = .ok (.iinc 3 1, 3) := by decide +kernel
theorem dX5_make_32 : decode cX5_make 32 = .ok (.goto (-15), 3) := by decide +kernel
theorem dX5_make_35 : decode cX5_make 35 = .ok (.return_, 1) := by decide +kernel
theorem dX5_holds_0 : decode cX5_holds 0 = .ok (.iload_n 2, 1) := by decide +kernel
theorem dX5_holds_1 : decode cX5_holds 1 = .ok (.ifCond .lt 29, 3) := by decide +kernel
theorem dX5_holds_4 : decode cX5_holds 4 = .ok (.iload_n 1, 1) := by decide +kernel
theorem dX5_holds_5 : decode cX5_holds 5 = .ok (.ifCond .lt 25, 3) := by decide +kernel
theorem dX5_holds_8 : decode cX5_holds 8 = .ok (.iload_n 2, 1) := by decide +kernel
theorem dX5_holds_9 : decode cX5_holds 9 = .ok (.aload_n 0, 1) := by decide +kernel
theorem dX5_holds_10 : decode cX5_holds 10 = .ok (.getfield 23, 3) := by decide +kernel
theorem dX5_holds_13 : decode cX5_holds 13 = .ok (.if_icmp .gt 17, 3) := by decide +kernel
theorem dX5_holds_16 : decode cX5_holds 16 = .ok (.iload_n 1, 1) := by decide +kernel
theorem dX5_holds_17 : decode cX5_holds 17 = .ok (.aload_n 0, 1) := by decide +kernel
theorem dX5_holds_18 : decode cX5_holds 18 = .ok (.getfield 23, 3) := by decide +kernel
theorem dX5_holds_21 : decode cX5_holds 21 = .ok (.iload_n 2, 1) := by decide +kernel
theorem dX5_holds_22 : decode cX5_holds 22 = .ok (.isub, 1) := by decide +kernel
theorem dX5_holds_23 : decode cX5_holds 23 = .ok (.if_icmp .gt 7, 3) := by decide +kernel
theorem dX5_holds_26 : decode cX5_holds 26 = .ok (.iconst 1, 1) := by decide +kernel
theorem dX5_holds_27 : decode cX5_holds 27 = .ok (.goto 4, 3) := by decide +kernel
theorem dX5_holds_30 : decode cX5_holds 30 = .ok (.iconst 0, 1) := by decide +kernel
theorem dX5_holds_31 : decode cX5_holds 31 = .ok (.ireturn, 1) := by decide +kernel
theorem dX5_put_0 : decode cX5_put 0 = .ok (.aload_n 0, 1) := by decide +kernel
theorem dX5_put_1 : decode cX5_put 1 = .ok (.getfield 19, 3) := by decide +kernel
theorem dX5_put_4 : decode cX5_put 4 = .ok (.ifCond .ne 8, 3) := by decide +kernel
theorem dX5_put_7 : decode cX5_put 7 = .ok (.iload_n 2, 1) := by decide +kernel
theorem dX5_put_8 : decode cX5_put 8 = .ok (.i2b, 1) := by decide +kernel
theorem dX5_put_9 : decode cX5_put 9 = .ok (.goto 17, 3) := by decide +kernel
theorem dX5_put_12 : decode cX5_put 12 = .ok (.aload_n 0, 1) := by decide +kernel
theorem dX5_put_13 : decode cX5_put 13 = .ok (.getfield 19, 3) := by decide +kernel
theorem dX5_put_16 : decode cX5_put 16 = .ok (.iconst 1, 1) := by decide +kernel
theorem dX5_put_17 : decode cX5_put 17 = .ok (.if_icmp .ne 8, 3) := by decide +kernel
theorem dX5_put_20 : decode cX5_put 20 = .ok (.iload_n 2, 1) := by decide +kernel
theorem dX5_put_21 : decode cX5_put 21 = .ok (.i2s, 1) := by decide +kernel
theorem dX5_put_22 : decode cX5_put 22 = .ok (.goto 4, 3) := by decide +kernel
theorem dX5_put_25 : decode cX5_put 25 = .ok (.iload_n 2, 1) := by decide +kernel
theorem dX5_put_26 : decode cX5_put 26 = .ok (.istore_n 3, 1) := by decide +kernel
theorem dX5_put_27 : decode cX5_put 27 = .ok (.aload_n 0, 1) := by decide +kernel
theorem dX5_put_28 : decode cX5_put 28 = .ok (.getfield 9, 3) := by decide +kernel
theorem dX5_put_31 : decode cX5_put 31 = .ok (.iload_n 1, 1) := by decide +kernel
theorem dX5_put_32 : decode cX5_put 32 = .ok (.iload_n 3, 1) := by decide +kernel
theorem dX5_put_33 : decode cX5_put 33 = .ok (.iastore, 1) := by decide +kernel
theorem dX5_put_34 : decode cX5_put 34 = .ok (.iload_n 3, 1) := by decide +kernel
theorem dX5_put_35 : decode cX5_put 35 = .ok (.ireturn, 1) := by decide +kernel
theorem dX5_holdsSets_0 : decode cX5_holdsSets 0 = .ok (.iload_n 1, 1) := by decide +kernel
theorem dX5_holdsSets_1 : decode cX5_holdsSets 1 = .ok (.istore 4, 2) := by decide +kernel
theorem dX5_holdsSets_3 : decode cX5_holdsSets 3 = .ok (.iload 4, 2) := by decide +kernel
theorem dX5_holdsSets_5 : decode cX5_holdsSets 5 = .ok (.iload_n 1, 1) := by decide +kernel
theorem dX5_holdsSets_6 : decode cX5_holdsSets 6 = .ok (.iload_n 2, 1) := by decide +kernel
theorem dX5_holdsSets_7 : decode cX5_holdsSets 7 = .ok (.iadd, 1) := by decide +kernel
theorem dX5_holdsSets_8 : decode cX5_holdsSets 8 = .ok (.if_icmp .ge 32, 3) := by decide +kernel
theorem dX5_holdsSets_11 : decode cX5_holdsSets 11 = .ok (.aload_n 0, 1) := by decide +kernel
theorem dX5_holdsSets_12 : decode cX5_holdsSets 12 = .ok (.getfield 9, 3) := by decide +kernel
theorem dX5_holdsSets_15 : decode cX5_holdsSets 15 = .ok (.iload 4, 2) := by decide +kernel
theorem dX5_holdsSets_17 : decode cX5_holdsSets 17 = .ok (.iaload, 1) := by decide +kernel
theorem dX5_holdsSets_18 : decode cX5_holdsSets 18 = .ok (.ifCond .lt 14, 3) := by decide +kernel
theorem dX5_holdsSets_21 : decode cX5_holdsSets 21 = .ok (.aload_n 0, 1) := by decide +kernel
theorem dX5_holdsSets_22 : decode cX5_holdsSets 22 = .ok (.getfield 9, 3) := by decide +kernel
theorem dX5_holdsSets_25 : decode cX5_holdsSets 25 = .ok (.iload 4, 2) := by decide +kernel
theorem dX5_holdsSets_27 : decode cX5_holdsSets 27 = .ok (.iaload, 1) := by decide +kernel
theorem dX5_holdsSets_28 : decode cX5_holdsSets 28 = .ok (.iload_n 3, 1) := by decide +kernel
theorem dX5_holdsSets_29 : decode cX5_holdsSets 29 = .ok (.if_icmp .lt 5, 3) := by decide +kernel
theorem dX5_holdsSets_32 : decode cX5_holdsSets 32 = .ok (.iconst 0, 1) := by decide +kernel
theorem dX5_holdsSets_33 : decode cX5_holdsSets 33 = .ok (.ireturn, 1) := by decide +kernel
theorem dX5_holdsSets_34 : decode cX5_holdsSets 34 = .ok (.iinc 4 1, 3) := by decide +kernel
theorem dX5_holdsSets_37 : decode cX5_holdsSets 37 = .ok (.goto (-34), 3) := by decide +kernel
theorem dX5_holdsSets_40 : decode cX5_holdsSets 40 = .ok (.iconst 1, 1) := by decide +kernel
theorem dX5_holdsSets_41 : decode cX5_holdsSets 41 = .ok (.ireturn, 1) := by decide +kernel
theorem dX5_countBit_0 : decode cX5_countBit 0 = .ok (.iconst 0, 1) := by decide +kernel
theorem dX5_countBit_1 : decode cX5_countBit 1 = .ok (.istore 4, 2) := by decide +kernel
theorem dX5_countBit_3 : decode cX5_countBit 3 = .ok (.iload_n 1, 1) := by decide +kernel
theorem dX5_countBit_4 : decode cX5_countBit 4 = .ok (.istore 5, 2) := by decide +kernel
theorem dX5_countBit_6 : decode cX5_countBit 6 = .ok (.iload 5, 2) := by decide +kernel
theorem dX5_countBit_8 : decode cX5_countBit 8 = .ok (.iload_n 1, 1) := by decide +kernel
theorem dX5_countBit_9 : decode cX5_countBit 9 = .ok (.iload_n 2, 1) := by decide +kernel
theorem dX5_countBit_10 : decode cX5_countBit 10 = .ok (.iadd, 1) := by decide +kernel
theorem dX5_countBit_11 : decode cX5_countBit 11 = .ok (.if_icmp .ge 25, 3) := by decide +kernel
theorem dX5_countBit_14 : decode cX5_countBit 14 = .ok (.iload 4, 2) := by decide +kernel
theorem dX5_countBit_16 : decode cX5_countBit 16 = .ok (.aload_n 0, 1) := by decide +kernel
theorem dX5_countBit_17 : decode cX5_countBit 17 = .ok (.getfield 9, 3) := by decide +kernel
theorem dX5_countBit_20 : decode cX5_countBit 20 = .ok (.iload 5, 2) := by decide +kernel
theorem dX5_countBit_22 : decode cX5_countBit 22 = .ok (.iaload, 1) := by decide +kernel
theorem dX5_countBit_23 : decode cX5_countBit 23 = .ok (.iload_n 3, 1) := by decide +kernel
theorem dX5_countBit_24 : decode cX5_countBit 24 = .ok (.ishr, 1) := by decide +kernel
theorem dX5_countBit_25 : decode cX5_countBit 25 = .ok (.iconst 1, 1) := by decide +kernel
theorem dX5_countBit_26 : decode cX5_countBit 26 = .ok (.iand, 1) := by decide +kernel
theorem dX5_countBit_27 : decode cX5_countBit 27 = .ok (.iadd, 1) := by decide +kernel
theorem dX5_countBit_28 : decode cX5_countBit 28 = .ok (.istore 4, 2) := by decide +kernel
theorem dX5_countBit_30 : decode cX5_countBit 30 = .ok (.iinc 5 1, 3) := by decide +kernel
theorem dX5_countBit_33 : decode cX5_countBit 33 = .ok (.goto (-27), 3) := by decide +kernel
theorem dX5_countBit_36 : decode cX5_countBit 36 = .ok (.iload 4, 2) := by decide +kernel
theorem dX5_countBit_38 : decode cX5_countBit 38 = .ok (.ireturn, 1) := by decide +kernel
end
section
/-! decode rows: X6 -/
theorem dX6_init_0 : decode cX6_init 0 = .ok (.aload_n 0, 1) := by decide +kernel
theorem dX6_init_1 : decode cX6_init 1 = .ok (.invokespecial 3, 3) := by decide +kernel
theorem dX6_init_4 : decode cX6_init 4 = .ok (.aload_n 0, 1) := by decide +kernel
theorem dX6_init_5 : decode cX6_init 5 = .ok (.sipush 400, 3) := by decide +kernel
theorem dX6_init_8 : decode cX6_init 8 = .ok (.newarray .int, 2) := by decide +kernel
theorem dX6_init_10 : decode cX6_init 10 = .ok (.putfield 9, 3) := by decide +kernel
theorem dX6_init_13 : decode cX6_init 13 = .ok (.return_, 1) := by decide +kernel
theorem dX6_append_0 : decode cX6_append 0 = .ok (.iload_n 3, 1) := by decide +kernel
theorem dX6_append_1 : decode cX6_append 1 = .ok (.iconst 1, 1) := by decide +kernel
theorem dX6_append_2 : decode cX6_append 2 = .ok (.isub, 1) := by decide +kernel
theorem dX6_append_3 : decode cX6_append 3 = .ok (.istore 4, 2) := by decide +kernel
theorem dX6_append_5 : decode cX6_append 5 = .ok (.iload 4, 2) := by decide +kernel
theorem dX6_append_7 : decode cX6_append 7 = .ok (.ifCond .lt 40, 3) := by decide +kernel
theorem dX6_append_10 : decode cX6_append 10 = .ok (.aload_n 0, 1) := by decide +kernel
theorem dX6_append_11 : decode cX6_append 11 = .ok (.getfield 9, 3) := by decide +kernel
theorem dX6_append_14 : decode cX6_append 14 = .ok (.aload_n 0, 1) := by decide +kernel
theorem dX6_append_15 : decode cX6_append 15 = .ok (.getfield 15, 3) := by decide +kernel
theorem dX6_append_18 : decode cX6_append 18 = .ok (.lload_n 1, 1) := by decide +kernel
theorem dX6_append_19 : decode cX6_append 19 = .ok (.bipush 8, 2) := by decide +kernel
theorem dX6_append_21 : decode cX6_append 21 = .ok (.iload 4, 2) := by decide +kernel
theorem dX6_append_23 : decode cX6_append 23 = .ok (.imul, 1) := by decide +kernel
theorem dX6_append_24 : decode cX6_append 24 = .ok (.lushr, 1) := by decide +kernel
theorem dX6_append_25 : decode cX6_append 25 = .ok (.l2i, 1) := by decide +kernel
theorem dX6_append_26 : decode cX6_append 26 = .ok (.sipush 255, 3) := by decide +kernel
theorem dX6_append_29 : decode cX6_append 29 = .ok (.iand, 1) := by decide +kernel
theorem dX6_append_30 : decode cX6_append 30 = .ok (.iastore, 1) := by decide +kernel
theorem dX6_append_31 : decode cX6_append 31 = .ok (.aload_n 0, 1) := by decide +kernel
theorem dX6_append_32 : decode cX6_append 32 = .ok (.dup, 1) := by decide +kernel
theorem dX6_append_33 : decode cX6_append 33 = .ok (.getfield 15, 3) := by decide +kernel
theorem dX6_append_36 : decode cX6_append 36 = .ok (.iconst 1, 1) := by decide +kernel
theorem dX6_append_37 : decode cX6_append 37 = .ok (.iadd, 1) := by decide +kernel
theorem dX6_append_38 : decode cX6_append 38 = .ok (.putfield 15, 3) := by decide +kernel
theorem dX6_append_41 : decode cX6_append 41 = .ok (.iinc 4 (-1), 3) := by decide +kernel
theorem dX6_append_44 : decode cX6_append 44 = .ok (.goto (-39), 3) := by decide +kernel
theorem dX6_append_47 : decode cX6_append 47 = .ok (.return_, 1) := by decide +kernel
theorem dX6_rewind_0 : decode cX6_rewind 0 = .ok (.aload_n 0, 1) := by decide +kernel
theorem dX6_rewind_1 : decode cX6_rewind 1 = .ok (.iconst 0, 1) := by decide +kernel
theorem dX6_rewind_2 : decode cX6_rewind 2 = .ok (.putfield 19, 3) := by decide +kernel
theorem dX6_rewind_5 : decode cX6_rewind 5 = .ok (.aload_n 0, 1) := by decide +kernel
theorem dX6_rewind_6 : decode cX6_rewind 6 = .ok (.invokevirtual 22, 3) := by decide +kernel
theorem dX6_rewind_9 : decode cX6_rewind 9 = .ok (.return_, 1) := by decide +kernel
theorem dX6_step_0 : decode cX6_step 0 = .ok (.aload_n 0, 1) := by decide +kernel
theorem dX6_step_1 : decode cX6_step 1 = .ok (.getfield 19, 3) := by decide +kernel
theorem dX6_step_4 : decode cX6_step 4 = .ok (.aload_n 0, 1) := by decide +kernel
theorem dX6_step_5 : decode cX6_step 5 = .ok (.getfield 15, 3) := by decide +kernel
theorem dX6_step_8 : decode cX6_step 8 = .ok (.if_icmp .ge 31, 3) := by decide +kernel
theorem dX6_step_11 : decode cX6_step 11 = .ok (.aload_n 0, 1) := by decide +kernel
theorem dX6_step_12 : decode cX6_step 12 = .ok (.getfield 9, 3) := by decide +kernel
theorem dX6_step_15 : decode cX6_step 15 = .ok (.aload_n 0, 1) := by decide +kernel
theorem dX6_step_16 : decode cX6_step 16 = .ok (.getfield 19, 3) := by decide +kernel
theorem dX6_step_19 : decode cX6_step 19 = .ok (.iaload, 1) := by decide +kernel
theorem dX6_step_20 : decode cX6_step 20 = .ok (.invokestatic 25, 3) := by decide +kernel
theorem dX6_step_23 : decode cX6_step 23 = .ok (.ifCond .eq 16, 3) := by decide +kernel
theorem dX6_step_26 : decode cX6_step 26 = .ok (.aload_n 0, 1) := by decide +kernel
theorem dX6_step_27 : decode cX6_step 27 = .ok (.dup, 1) := by decide +kernel
theorem dX6_step_28 : decode cX6_step 28 = .ok (.getfield 19, 3) := by decide +kernel
theorem dX6_step_31 : decode cX6_step 31 = .ok (.iconst 1, 1) := by decide +kernel
theorem dX6_step_32 : decode cX6_step 32 = .ok (.iadd, 1) := by decide +kernel
theorem dX6_step_33 : decode cX6_step 33 = .ok (.putfield 19, 3) := by decide +kernel
theorem dX6_step_36 : decode cX6_step 36 = .ok (.goto (-36), 3) := by decide +kernel
theorem dX6_step_39 : decode cX6_step 39 = .ok (.aload_n 0, 1) := by decide +kernel
theorem dX6_step_40 : decode cX6_step 40 = .ok (.aload_n 0, 1) := by decide +kernel
theorem dX6_step_41 : decode cX6_step 41 = .ok (.getfield 19, 3) := by decide +kernel
theorem dX6_step_44 : decode cX6_step 44 = .ok (.putfield 29, 3) := by decide +kernel
theorem dX6_step_47 : decode cX6_step 47 = .ok (.aload_n 0, 1) := by decide +kernel
theorem dX6_step_48 : decode cX6_step 48 = .ok (.getfield 19, 3) := by decide +kernel
theorem dX6_step_51 : decode cX6_step 51 = .ok (.aload_n 0, 1) := by decide +kernel
theorem dX6_step_52 : decode cX6_step 52 = .ok (.getfield 15, 3) := by decide +kernel
theorem dX6_step_55 : decode cX6_step 55 = .ok (.if_icmp .lt 11, 3) := by decide +kernel
theorem dX6_step_58 : decode cX6_step 58 = .ok (.aload_n 0, 1) := by decide +kernel
theorem dX6_step_59 : decode cX6_step 59 = .ok (.iconst 0, 1) := by decide +kernel
theorem dX6_step_60 : decode cX6_step 60 = .ok (.putfield 32, 3) := by decide +kernel
theorem dX6_step_63 : decode cX6_step 63 = .ok (.goto 80, 3) := by decide +kernel
theorem dX6_step_66 : decode cX6_step 66 = .ok (.aload_n 0, 1) := by decide +kernel
theorem dX6_step_67 : decode cX6_step 67 = .ok (.getfield 9, 3) := by decide +kernel
theorem dX6_step_70 : decode cX6_step 70 = .ok (.aload_n 0, 1) := by decide +kernel
theorem dX6_step_71 : decode cX6_step 71 = .ok (.getfield 19, 3) := by decide +kernel
theorem dX6_step_74 : decode cX6_step 74 = .ok (.iaload, 1) := by decide +kernel
theorem dX6_step_75 : decode cX6_step 75 = .ok (.invokestatic 35, 3) := by decide +kernel
theorem dX6_step_78 : decode cX6_step 78 = .ok (.ifCond .eq 10, 3) := by decide +kernel
theorem dX6_step_81 : decode cX6_step 81 = .ok (.aload_n 0, 1) := by decide +kernel
theorem dX6_step_82 : decode cX6_step 82 = .ok (.invokevirtual 38, 3) := by decide +kernel
theorem dX6_step_85 : decode cX6_step 85 = .ok (.goto 58, 3) := by decide +kernel
theorem dX6_step_88 : decode cX6_step 88 = .ok (.aload_n 0, 1) := by decide +kernel
theorem dX6_step_89 : decode cX6_step 89 = .ok (.getfield 9, 3) := by decide +kernel
theorem dX6_step_92 : decode cX6_step 92 = .ok (.aload_n 0, 1) := by decide +kernel
theorem dX6_step_93 : decode cX6_step 93 = .ok (.getfield 19, 3) := by decide +kernel
theorem dX6_step_96 : decode cX6_step 96 = .ok (.iaload, 1) := by decide +kernel
theorem dX6_step_97 : decode cX6_step 97 = .ok (.invokestatic 41, 3) := by decide +kernel
theorem dX6_step_100 : decode cX6_step 100 = .ok (.ifCond .eq 10, 3) := by decide +kernel
theorem dX6_step_103 : decode cX6_step 103 = .ok (.aload_n 0, 1) := by decide +kernel
theorem dX6_step_104 : decode cX6_step 104 = .ok (.invokevirtual 44, 3) := by decide +kernel
theorem dX6_step_107 : decode cX6_step 107 = .ok (.goto 36, 3) := by decide +kernel
theorem dX6_step_110 : decode cX6_step 110 = .ok (.aload_n 0, 1) := by decide +kernel
theorem dX6_step_111 : decode cX6_step 111 = .ok (.aload_n 0, 1) := by decide +kernel
theorem dX6_step_112 : decode cX6_step 112 = .ok (.getfield 9, 3) := by decide +kernel
theorem dX6_step_115 : decode cX6_step 115 = .ok (.aload_n 0, 1) := by decide +kernel
theorem dX6_step_116 : decode cX6_step 116 = .ok (.getfield 19, 3) := by decide +kernel
theorem dX6_step_119 : decode cX6_step 119 = .ok (.iaload, 1) := by decide +kernel
theorem dX6_step_120 : decode cX6_step 120 = .ok (.bipush 59, 2) := by decide +kernel
theorem dX6_step_122 : decode cX6_step 122 = .ok (.if_icmp .ne 7, 3) := by decide +kernel
theorem dX6_step_125 : decode cX6_step 125 = .ok (.iconst 3, 1) := by decide +kernel
theorem dX6_step_126 : decode cX6_step 126 = .ok (.goto 4, 3) := by decide +kernel
theorem dX6_step_129 : decode cX6_step 129 = .ok (.iconst 4, 1) := by decide +kernel
theorem dX6_step_130 : decode cX6_step 130 = .ok (.putfield 32, 3) := by decide +kernel
theorem dX6_step_133 : decode cX6_step 133 = .ok (.aload_n 0, 1) := by decide +kernel
theorem dX6_step_134 : decode cX6_step 134 = .ok (.dup, 1) := by decide +kernel
theorem dX6_step_135 : decode cX6_step 135 = .ok (.getfield 19, 3) := by decide +kernel
theorem dX6_step_138 : decode cX6_step 138 = .ok (.iconst 1, 1) := by decide +kernel
theorem dX6_step_139 : decode cX6_step 139 = .ok (.iadd, 1) := by decide +kernel
theorem dX6_step_140 : decode cX6_step 140 = .ok (.putfield 19, 3) := by decide +kernel
theorem dX6_step_143 : decode cX6_step 143 = .ok (.return_, 1) := by decide +kernel
theorem dX6_isWord_0 : decode cX6_isWord 0 = .ok (.aload_n 0, 1) := by decide +kernel
theorem dX6_isWord_1 : decode cX6_isWord 1 = .ok (.getfield 32, 3) := by decide +kernel
theorem dX6_isWord_4 : decode cX6_isWord 4 = .ok (.iconst 1, 1) := by decide +kernel
theorem dX6_isWord_5 : decode cX6_isWord 5 = .ok (.if_icmp .ne 19, 3) := by decide +kernel
theorem dX6_isWord_8 : decode cX6_isWord 8 = .ok (.aload_n 0, 1) := by decide +kernel
theorem dX6_isWord_9 : decode cX6_isWord 9 = .ok (.getfield 19, 3) := by decide +kernel
theorem dX6_isWord_12 : decode cX6_isWord 12 = .ok (.aload_n 0, 1) := by decide +kernel
theorem dX6_isWord_13 : decode cX6_isWord 13 = .ok (.getfield 29, 3) := by decide +kernel
theorem dX6_isWord_16 : decode cX6_isWord 16 = .ok (.isub, 1) := by decide +kernel
theorem dX6_isWord_17 : decode cX6_isWord 17 = .ok (.aload_n 1, 1) := by decide +kernel
theorem dX6_isWord_18 : decode cX6_isWord 18 = .ok (.invokevirtual 47, 3) := by decide +kernel
theorem dX6_isWord_21 : decode cX6_isWord 21 = .ok (.if_icmp .eq 5, 3) := by decide +kernel
theorem dX6_isWord_24 : decode cX6_isWord 24 = .ok (.iconst 0, 1) := by decide +kernel
theorem dX6_isWord_25 : decode cX6_isWord 25 = .ok (.ireturn, 1) := by decide +kernel
theorem dX6_isWord_26 : decode cX6_isWord 26 = .ok (.iconst 0, 1) := by decide +kernel
theorem dX6_isWord_27 : decode cX6_isWord 27 = .ok (.istore_n 2, 1) := by decide +kernel
theorem dX6_isWord_28 : decode cX6_isWord 28 = .ok (.iload_n 2, 1) := by decide +kernel
theorem dX6_isWord_29 : decode cX6_isWord 29 = .ok (.aload_n 1, 1) := by decide +kernel
theorem dX6_isWord_30 : decode cX6_isWord 30 = .ok (.invokevirtual 47, 3) := by decide +kernel
theorem dX6_isWord_33 : decode cX6_isWord 33 = .ok (.if_icmp .ge 30, 3) := by decide +kernel
theorem dX6_isWord_36 : decode cX6_isWord 36 = .ok (.aload_n 0, 1) := by decide +kernel
theorem dX6_isWord_37 : decode cX6_isWord 37 = .ok (.getfield 9, 3) := by decide +kernel
theorem dX6_isWord_40 : decode cX6_isWord 40 = .ok (.aload_n 0, 1) := by decide +kernel
theorem dX6_isWord_41 : decode cX6_isWord 41 = .ok (.getfield 29, 3) := by decide +kernel
theorem dX6_isWord_44 : decode cX6_isWord 44 = .ok (.iload_n 2, 1) := by decide +kernel
theorem dX6_isWord_45 : decode cX6_isWord 45 = .ok (.iadd, 1) := by decide +kernel
theorem dX6_isWord_46 : decode cX6_isWord 46 = .ok (.iaload, 1) := by decide +kernel
theorem dX6_isWord_47 : decode cX6_isWord 47 = .ok (.aload_n 1, 1) := by decide +kernel
theorem dX6_isWord_48 : decode cX6_isWord 48 = .ok (.iload_n 2, 1) := by decide +kernel
theorem dX6_isWord_49 : decode cX6_isWord 49 = .ok (.invokevirtual 53, 3) := by decide +kernel
theorem dX6_isWord_52 : decode cX6_isWord 52 = .ok (.if_icmp .eq 5, 3) := by decide +kernel
theorem dX6_isWord_55 : decode cX6_isWord 55 = .ok (.iconst 0, 1) := by decide +kernel
theorem dX6_isWord_56 : decode cX6_isWord 56 = .ok (.ireturn, 1) := by decide +kernel
theorem dX6_isWord_57 : decode cX6_isWord 57 = .ok (.iinc 2 1, 3) := by decide +kernel
theorem dX6_isWord_60 : decode cX6_isWord 60 = .ok (.goto (-32), 3) := by decide +kernel
theorem dX6_isWord_63 : decode cX6_isWord 63 = .ok (.iconst 1, 1) := by decide +kernel
theorem dX6_isWord_64 : decode cX6_isWord 64 = .ok (.ireturn, 1) := by decide +kernel
theorem dX6_passLetters_0 : decode cX6_passLetters 0 = .ok (.aload_n 0, 1) := by decide +kernel
theorem dX6_passLetters_1 : decode cX6_passLetters 1 = .ok (.iconst 1, 1) := by decide +kernel
theorem dX6_passLetters_2 : decode cX6_passLetters 2 = .ok (.putfield 32, 3) := by decide +kernel
theorem dX6_passLetters_5 : decode cX6_passLetters 5 = .ok (.aload_n 0, 1) := by decide +kernel
theorem dX6_passLetters_6 : decode cX6_passLetters 6 = .ok (.getfield 19, 3) := by decide +kernel
theorem dX6_passLetters_9 : decode cX6_passLetters 9 = .ok (.aload_n 0, 1) := by decide +kernel
theorem dX6_passLetters_10 : decode cX6_passLetters 10 = .ok (.getfield 15, 3) := by decide +kernel
theorem dX6_passLetters_13 : decode cX6_passLetters 13 = .ok (.if_icmp .ge 31, 3) := by decide +kernel
theorem dX6_passLetters_16 : decode cX6_passLetters 16 = .ok (.aload_n 0, 1) := by decide +kernel
theorem dX6_passLetters_17 : decode cX6_passLetters 17 = .ok (.getfield 9, 3) := by decide +kernel
theorem dX6_passLetters_20 : decode cX6_passLetters 20 = .ok (.aload_n 0, 1) := by decide +kernel
theorem dX6_passLetters_21 : decode cX6_passLetters 21 = .ok (.getfield 19, 3) := by decide +kernel
theorem dX6_passLetters_24 : decode cX6_passLetters 24 = .ok (.iaload, 1) := by decide +kernel
theorem dX6_passLetters_25 : decode cX6_passLetters 25 = .ok (.invokestatic 35, 3) := by decide +kernel
theorem dX6_passLetters_28 : decode cX6_passLetters 28 = .ok (.ifCond .eq 16, 3) := by decide +kernel
theorem dX6_passLetters_31 : decode cX6_passLetters 31 = .ok (.aload_n 0, 1) := by decide +kernel
theorem dX6_passLetters_32 : decode cX6_passLetters 32 = .ok (.dup, 1) := by decide +kernel
theorem dX6_passLetters_33 : decode cX6_passLetters 33 = .ok (.getfield 19, 3) := by decide +kernel
theorem dX6_passLetters_36 : decode cX6_passLetters 36 = .ok (.iconst 1, 1) := by decide +kernel
theorem dX6_passLetters_37 : decode cX6_passLetters 37 = .ok (.iadd, 1) := by decide +kernel
theorem dX6_passLetters_38 : decode cX6_passLetters 38 = .ok (.putfield 19, 3) := by decide +kernel
theorem dX6_passLetters_41 : decode cX6_passLetters 41 = .ok (.goto (-36), 3) := by decide +kernel
theorem dX6_passLetters_44 : decode cX6_passLetters 44 = .ok (.return_, 1) := by decide +kernel
theorem dX6_passFigures_0 : decode cX6_passFigures 0 = .ok (.aload_n 0, 1) := by decide +kernel
theorem dX6_passFigures_1 : decode cX6_passFigures 1 = .ok (.iconst 0, 1) := by decide +kernel
theorem dX6_passFigures_2 : decode cX6_passFigures 2 = .ok (.putfield 57, 3) := by decide +kernel
theorem dX6_passFigures_5 : decode cX6_passFigures 5 = .ok (.aload_n 0, 1) := by decide +kernel
theorem dX6_passFigures_6 : decode cX6_passFigures 6 = .ok (.getfield 19, 3) := by decide +kernel
theorem dX6_passFigures_9 : decode cX6_passFigures 9 = .ok (.aload_n 0, 1) := by decide +kernel
theorem dX6_passFigures_10 : decode cX6_passFigures 10 = .ok (.getfield 15, 3) := by decide +kernel
theorem dX6_passFigures_13 : decode cX6_passFigures 13 = .ok (.if_icmp .ge 68, 3) := by decide +kernel
theorem dX6_passFigures_16 : decode cX6_passFigures 16 = .ok (.aload_n 0, 1) := by decide +kernel
theorem dX6_passFigures_17 : decode cX6_passFigures 17 = .ok (.getfield 9, 3) := by decide +kernel
theorem dX6_passFigures_20 : decode cX6_passFigures 20 = .ok (.aload_n 0, 1) := by decide +kernel
theorem dX6_passFigures_21 : decode cX6_passFigures 21 = .ok (.getfield 19, 3) := by decide +kernel
theorem dX6_passFigures_24 : decode cX6_passFigures 24 = .ok (.iaload, 1) := by decide +kernel
theorem dX6_passFigures_25 : decode cX6_passFigures 25 = .ok (.invokestatic 41, 3) := by decide +kernel
theorem dX6_passFigures_28 : decode cX6_passFigures 28 = .ok (.ifCond .eq 53, 3) := by decide +kernel
theorem dX6_passFigures_31 : decode cX6_passFigures 31 = .ok (.aload_n 0, 1) := by decide +kernel
theorem dX6_passFigures_32 : decode cX6_passFigures 32 = .ok (.getfield 19, 3) := by decide +kernel
theorem dX6_passFigures_35 : decode cX6_passFigures 35 = .ok (.aload_n 0, 1) := by decide +kernel
theorem dX6_passFigures_36 : decode cX6_passFigures 36 = .ok (.getfield 29, 3) := by decide +kernel
theorem dX6_passFigures_39 : decode cX6_passFigures 39 = .ok (.isub, 1) := by decide +kernel
theorem dX6_passFigures_40 : decode cX6_passFigures 40 = .ok (.iconst 3, 1) := by decide +kernel
theorem dX6_passFigures_41 : decode cX6_passFigures 41 = .ok (.if_icmp .ge 27, 3) := by decide +kernel
theorem dX6_passFigures_44 : decode cX6_passFigures 44 = .ok (.aload_n 0, 1) := by decide +kernel
theorem dX6_passFigures_45 : decode cX6_passFigures 45 = .ok (.aload_n 0, 1) := by decide +kernel
theorem dX6_passFigures_46 : decode cX6_passFigures 46 = .ok (.getfield 57, 3) := by decide +kernel
theorem dX6_passFigures_49 : decode cX6_passFigures 49 = .ok (.bipush 10, 2) := by decide +kernel
theorem dX6_passFigures_51 : decode cX6_passFigures 51 = .ok (.imul, 1) := by decide +kernel
theorem dX6_passFigures_52 : decode cX6_passFigures 52 = .ok (.aload_n 0, 1) := by decide +kernel
theorem dX6_passFigures_53 : decode cX6_passFigures 53 = .ok (.getfield 9, 3) := by decide +kernel
theorem dX6_passFigures_56 : decode cX6_passFigures 56 = .ok (.aload_n 0, 1) := by decide +kernel
theorem dX6_passFigures_57 : decode cX6_passFigures 57 = .ok (.getfield 19, 3) := by decide +kernel
theorem dX6_passFigures_60 : decode cX6_passFigures 60 = .ok (.iaload, 1) := by decide +kernel
theorem dX6_passFigures_61 : decode cX6_passFigures 61 = .ok (.iadd, 1) := by decide +kernel
theorem dX6_passFigures_62 : decode cX6_passFigures 62 = .ok (.bipush 48, 2) := by decide +kernel
theorem dX6_passFigures_64 : decode cX6_passFigures 64 = .ok (.isub, 1) := by decide +kernel
theorem dX6_passFigures_65 : decode cX6_passFigures 65 = .ok (.putfield 57, 3) := by decide +kernel
theorem dX6_passFigures_68 : decode cX6_passFigures 68 = .ok (.aload_n 0, 1) := by decide +kernel
theorem dX6_passFigures_69 : decode cX6_passFigures 69 = .ok (.dup, 1) := by decide +kernel
theorem dX6_passFigures_70 : decode cX6_passFigures 70 = .ok (.getfield 19, 3) := by decide +kernel
theorem dX6_passFigures_73 : decode cX6_passFigures 73 = .ok (.iconst 1, 1) := by decide +kernel
theorem dX6_passFigures_74 : decode cX6_passFigures 74 = .ok (.iadd, 1) := by decide +kernel
theorem dX6_passFigures_75 : decode cX6_passFigures 75 = .ok (.putfield 19, 3) := by decide +kernel
theorem dX6_passFigures_78 : decode cX6_passFigures 78 = .ok (.goto (-73), 3) := by decide +kernel
theorem dX6_passFigures_81 : decode cX6_passFigures 81 = .ok (.aload_n 0, 1) := by decide +kernel
theorem dX6_passFigures_82 : decode cX6_passFigures 82 = .ok (.aload_n 0, 1) := by decide +kernel
theorem dX6_passFigures_83 : decode cX6_passFigures 83 = .ok (.getfield 19, 3) := by decide +kernel
theorem dX6_passFigures_86 : decode cX6_passFigures 86 = .ok (.aload_n 0, 1) := by decide +kernel
theorem dX6_passFigures_87 : decode cX6_passFigures 87 = .ok (.getfield 29, 3) := by decide +kernel
theorem dX6_passFigures_90 : decode cX6_passFigures 90 = .ok (.isub, 1) := by decide +kernel
theorem dX6_passFigures_91 : decode cX6_passFigures 91 = .ok (.iconst 3, 1) := by decide +kernel
theorem dX6_passFigures_92 : decode cX6_passFigures 92 = .ok (.if_icmp .gt 7, 3) := by decide +kernel
theorem dX6_passFigures_95 : decode cX6_passFigures 95 = .ok (.iconst 2, 1) := by decide +kernel
theorem dX6_passFigures_96 : decode cX6_passFigures 96 = .ok (.goto 4, 3) := by decide +kernel
theorem dX6_passFigures_99 : decode cX6_passFigures 99 = .ok (.iconst 4, 1) := by decide +kernel
theorem dX6_passFigures_100 : decode cX6_passFigures 100 = .ok (.putfield 32, 3) := by decide +kernel
theorem dX6_passFigures_103 : decode cX6_passFigures 103 = .ok (.return_, 1) := by decide +kernel
theorem dX6_isBlank_0 : decode cX6_isBlank 0 = .ok (.iload_n 0, 1) := by decide +kernel
theorem dX6_isBlank_1 : decode cX6_isBlank 1 = .ok (.bipush 32, 2) := by decide +kernel
theorem dX6_isBlank_3 : decode cX6_isBlank 3 = .ok (.if_icmp .eq 9, 3) := by decide +kernel
theorem dX6_isBlank_6 : decode cX6_isBlank 6 = .ok (.iload_n 0, 1) := by decide +kernel
theorem dX6_isBlank_7 : decode cX6_isBlank 7 = .ok (.bipush 10, 2) := by decide +kernel
theorem dX6_isBlank_9 : decode cX6_isBlank 9 = .ok (.if_icmp .ne 7, 3) := by decide +kernel
theorem dX6_isBlank_12 : decode cX6_isBlank 12 = .ok (.iconst 1, 1) := by decide +kernel
theorem dX6_isBlank_13 : decode cX6_isBlank 13 = .ok (.goto 4, 3) := by decide +kernel
theorem dX6_isBlank_16 : decode cX6_isBlank 16 = .ok (.iconst 0, 1) := by decide +kernel
theorem dX6_isBlank_17 : decode cX6_isBlank 17 = .ok (.ireturn, 1) := by decide +kernel
theorem dX6_isLetter_0 : decode cX6_isLetter 0 = .ok (.iload_n 0, 1) := by decide +kernel
theorem dX6_isLetter_1 : decode cX6_isLetter 1 = .ok (.bipush 97, 2) := by decide +kernel
theorem dX6_isLetter_3 : decode cX6_isLetter 3 = .ok (.if_icmp .lt 13, 3) := by decide +kernel
theorem dX6_isLetter_6 : decode cX6_isLetter 6 = .ok (.iload_n 0, 1) := by decide +kernel
theorem dX6_isLetter_7 : decode cX6_isLetter 7 = .ok (.bipush 122, 2) := by decide +kernel
theorem dX6_isLetter_9 : decode cX6_isLetter 9 = .ok (.if_icmp .gt 7, 3) := by decide +kernel
theorem dX6_isLetter_12 : decode cX6_isLetter 12 = .ok (.iconst 1, 1) := by decide +kernel
theorem dX6_isLetter_13 : decode cX6_isLetter 13 = .ok (.goto 4, 3) := by decide +kernel
theorem dX6_isLetter_16 : decode cX6_isLetter 16 = .ok (.iconst 0, 1) := by decide +kernel
theorem dX6_isLetter_17 : decode cX6_isLetter 17 = .ok (.ireturn, 1) := by decide +kernel
theorem dX6_isFigure_0 : decode cX6_isFigure 0 = .ok (.iload_n 0, 1) := by decide +kernel
theorem dX6_isFigure_1 : decode cX6_isFigure 1 = .ok (.bipush 48, 2) := by decide +kernel
theorem dX6_isFigure_3 : decode cX6_isFigure 3 = .ok (.if_icmp .lt 13, 3) := by decide +kernel
theorem dX6_isFigure_6 : decode cX6_isFigure 6 = .ok (.iload_n 0, 1) := by decide +kernel
theorem dX6_isFigure_7 : decode cX6_isFigure 7 = .ok (.bipush 57, 2) := by decide +kernel
theorem dX6_isFigure_9 : decode cX6_isFigure 9 = .ok (.if_icmp .gt 7, 3) := by decide +kernel
theorem dX6_isFigure_12 : decode cX6_isFigure 12 = .ok (.iconst 1, 1) := by decide +kernel
theorem dX6_isFigure_13 : decode cX6_isFigure 13 = .ok (.goto 4, 3) := by decide +kernel
theorem dX6_isFigure_16 : decode cX6_isFigure 16 = .ok (.iconst 0, 1) := by decide +kernel
theorem dX6_isFigure_17 : decode cX6_isFigure 17 = .ok (.ireturn, 1) := by decide +kernel
end
section
/-! decode rows: X7 -/
theorem dX7_init_0 : decode cX7_init 0 = .ok (.aload_n 0, 1) := by decide +kernel
theorem dX7_init_1 : decode cX7_init 1 = .ok (.invokespecial 1, 3) := by decide +kernel
theorem dX7_init_4 : decode cX7_init 4 = .ok (.aload_n 0, 1) := by decide +kernel
theorem dX7_init_5 : decode cX7_init 5 = .ok (.bipush 8, 2) := by decide +kernel
theorem dX7_init_7 : decode cX7_init 7 = .ok (.anewarray 9, 3) := by decide +kernel
theorem dX7_init_10 : decode cX7_init 10 = .ok (.putfield 11, 3) := by decide +kernel
theorem dX7_init_13 : decode cX7_init 13 = .ok (.aload_n 0, 1) := by decide +kernel
theorem dX7_init_14 : decode cX7_init 14 = .ok (.new 15, 3) := by decide +kernel
theorem dX7_init_17 : decode cX7_init 17 = .ok (.dup, 1) := by decide +kernel
theorem dX7_init_18 : decode cX7_init 18 = .ok (.invokespecial 17, 3) := by decide +kernel
theorem dX7_init_21 : decode cX7_init 21 = .ok (.putfield 18, 3) := by decide +kernel
theorem dX7_init_24 : decode cX7_init 24 = .ok (.aload_n 0, 1) := by decide +kernel
theorem dX7_init_25 : decode cX7_init 25 = .ok (.new 22, 3) := by decide +kernel
theorem dX7_init_28 : decode cX7_init 28 = .ok (.dup, 1) := by decide +kernel
theorem dX7_init_29 : decode cX7_init 29 = .ok (.aload_n 0, 1) := by decide +kernel
theorem dX7_init_30 : decode cX7_init 30 = .ok (.getfield 18, 3) := by decide +kernel
theorem dX7_init_33 : decode cX7_init 33 = .ok (.invokespecial 24, 3) := by decide +kernel
theorem dX7_init_36 : decode cX7_init 36 = .ok (.putfield 27, 3) := by decide +kernel
theorem dX7_init_39 : decode cX7_init 39 = .ok (.aload_n 0, 1) := by decide +kernel
theorem dX7_init_40 : decode cX7_init 40 = .ok (.new 31, 3) := by decide +kernel
theorem dX7_init_43 : decode cX7_init 43 = .ok (.dup, 1) := by decide +kernel
theorem dX7_init_44 : decode cX7_init 44 = .ok (.invokespecial 33, 3) := by decide +kernel
theorem dX7_init_47 : decode cX7_init 47 = .ok (.putfield 34, 3) := by decide +kernel
theorem dX7_init_50 : decode cX7_init 50 = .ok (.aload_n 0, 1) := by decide +kernel
theorem dX7_init_51 : decode cX7_init 51 = .ok (.iconst 2, 1) := by decide +kernel
theorem dX7_init_52 : decode cX7_init 52 = .ok (.anewarray 31, 3) := by decide +kernel
theorem dX7_init_55 : decode cX7_init 55 = .ok (.putfield 38, 3) := by decide +kernel
theorem dX7_init_58 : decode cX7_init 58 = .ok (.aload_n 0, 1) := by decide +kernel
theorem dX7_init_59 : decode cX7_init 59 = .ok (.new 42, 3) := by decide +kernel
theorem dX7_init_62 : decode cX7_init 62 = .ok (.dup, 1) := by decide +kernel
theorem dX7_init_63 : decode cX7_init 63 = .ok (.invokespecial 44, 3) := by decide +kernel
theorem dX7_init_66 : decode cX7_init 66 = .ok (.putfield 45, 3) := by decide +kernel
theorem dX7_init_69 : decode cX7_init 69 = .ok (.aload_n 0, 1) := by decide +kernel
theorem dX7_init_70 : decode cX7_init 70 = .ok (.new 49, 3) := by decide +kernel
theorem dX7_init_73 : decode cX7_init 73 = .ok (.dup, 1) := by decide +kernel
theorem dX7_init_74 : decode cX7_init 74 = .ok (.aload_n 0, 1) := by decide +kernel
theorem dX7_init_75 : decode cX7_init 75 = .ok (.getfield 34, 3) := by decide +kernel
theorem dX7_init_78 : decode cX7_init 78 = .ok (.invokespecial 51, 3) := by decide +kernel
theorem dX7_init_81 : decode cX7_init 81 = .ok (.putfield 54, 3) := by decide +kernel
theorem dX7_init_84 : decode cX7_init 84 = .ok (.aload_n 0, 1) := by decide +kernel
theorem dX7_init_85 : decode cX7_init 85 = .ok (.new 58, 3) := by decide +kernel
theorem dX7_init_88 : decode cX7_init 88 = .ok (.dup, 1) := by decide +kernel
theorem dX7_init_89 : decode cX7_init 89 = .ok (.aload_n 0, 1) := by decide +kernel
theorem dX7_init_90 : decode cX7_init 90 = .ok (.getfield 34, 3) := by decide +kernel
theorem dX7_init_93 : decode cX7_init 93 = .ok (.invokespecial 60, 3) := by decide +kernel
theorem dX7_init_96 : decode cX7_init 96 = .ok (.putfield 61, 3) := by decide +kernel
theorem dX7_init_99 : decode cX7_init 99 = .ok (.iconst 0, 1) := by decide +kernel
theorem dX7_init_100 : decode cX7_init 100 = .ok (.istore_n 1, 1) := by decide +kernel
theorem dX7_init_101 : decode cX7_init 101 = .ok (.iload_n 1, 1) := by decide +kernel
theorem dX7_init_102 : decode cX7_init 102 = .ok (.bipush 8, 2) := by decide +kernel
theorem dX7_init_104 : decode cX7_init 104 = .ok (.if_icmp .ge 22, 3) := by decide +kernel
theorem dX7_init_107 : decode cX7_init 107 = .ok (.aload_n 0, 1) := by decide +kernel
theorem dX7_init_108 : decode cX7_init 108 = .ok (.getfield 11, 3) := by decide +kernel
theorem dX7_init_111 : decode cX7_init 111 = .ok (.iload_n 1, 1) := by decide +kernel
theorem dX7_init_112 : decode cX7_init 112 = .ok (.new 9, 3) := by decide +kernel
theorem dX7_init_115 : decode cX7_init 115 = .ok (.dup, 1) := by decide +kernel
theorem dX7_init_116 : decode cX7_init 116 = .ok (.invokespecial 65, 3) := by decide +kernel
theorem dX7_init_119 : decode cX7_init 119 = .ok (.aastore, 1) := by decide +kernel
theorem dX7_init_120 : decode cX7_init 120 = .ok (.iinc 1 1, 3) := by decide +kernel
theorem dX7_init_123 : decode cX7_init 123 = .ok (.goto (-22), 3) := by decide +kernel
theorem dX7_init_126 : decode cX7_init 126 = .ok (.iconst 0, 1) := by decide +kernel
theorem dX7_init_127 : decode cX7_init 127 = .ok (.istore_n 1, 1) := by decide +kernel
theorem dX7_init_128 : decode cX7_init 128 = .ok (.iload_n 1, 1) := by decide +kernel
theorem dX7_init_129 : decode cX7_init 129 = .ok (.iconst 2, 1) := by decide +kernel
theorem dX7_init_130 : decode cX7_init 130 = .ok (.if_icmp .ge 22, 3) := by decide +kernel
theorem dX7_init_133 : decode cX7_init 133 = .ok (.aload_n 0, 1) := by decide +kernel
theorem dX7_init_134 : decode cX7_init 134 = .ok (.getfield 38, 3) := by decide +kernel
theorem dX7_init_137 : decode cX7_init 137 = .ok (.iload_n 1, 1) := by decide +kernel
theorem dX7_init_138 : decode cX7_init 138 = .ok (.new 31, 3) := by decide +kernel
theorem dX7_init_141 : decode cX7_init 141 = .ok (.dup, 1) := by decide +kernel
theorem dX7_init_142 : decode cX7_init 142 = .ok (.invokespecial 33, 3) := by decide +kernel
theorem dX7_init_145 : decode cX7_init 145 = .ok (.aastore, 1) := by decide +kernel
theorem dX7_init_146 : decode cX7_init 146 = .ok (.iinc 1 1, 3) := by decide +kernel
theorem dX7_init_149 : decode cX7_init 149 = .ok (.goto (-21), 3) := by decide +kernel
theorem dX7_init_152 : decode cX7_init 152 = .ok (.return_, 1) := by decide +kernel
theorem dX7_row_0 : decode cX7_row 0 = .ok (.iload_n 1, 1) := by decide +kernel
theorem dX7_row_1 : decode cX7_row 1 = .ok (.invokestatic 66, 3) := by decide +kernel
theorem dX7_row_4 : decode cX7_row 4 = .ok (.ifCond .eq 18, 3) := by decide +kernel
theorem dX7_row_7 : decode cX7_row 7 = .ok (.iload_n 2, 1) := by decide +kernel
theorem dX7_row_8 : decode cX7_row 8 = .ok (.ifCond .lt 14, 3) := by decide +kernel
theorem dX7_row_11 : decode cX7_row 11 = .ok (.iload_n 2, 1) := by decide +kernel
theorem dX7_row_12 : decode cX7_row 12 = .ok (.iconst 3, 1) := by decide +kernel
theorem dX7_row_13 : decode cX7_row 13 = .ok (.if_icmp .ge 9, 3) := by decide +kernel
theorem dX7_row_16 : decode cX7_row 16 = .ok (.iload_n 3, 1) := by decide +kernel
theorem dX7_row_17 : decode cX7_row 17 = .ok (.bipush 40, 2) := by decide +kernel
theorem dX7_row_19 : decode cX7_row 19 = .ok (.if_icmp .le 6, 3) := by decide +kernel
theorem dX7_row_22 : decode cX7_row 22 = .ok (.ldc 70, 2) := by decide +kernel
theorem dX7_row_24 : decode cX7_row 24 = .ok (.ireturn, 1) := by decide +kernel
theorem dX7_row_25 : decode cX7_row 25 = .ok (.iload_n 3, 1) := by decide +kernel
theorem dX7_row_26 : decode cX7_row 26 = .ok (.ifCond .ge 9, 3) := by decide +kernel
theorem dX7_row_29 : decode cX7_row 29 = .ok (.aload_n 0, 1) := by decide +kernel
theorem dX7_row_30 : decode cX7_row 30 = .ok (.iconst 4, 1) := by decide +kernel
theorem dX7_row_31 : decode cX7_row 31 = .ok (.invokevirtual 71, 3) := by decide +kernel
theorem dX7_row_34 : decode cX7_row 34 = .ok (.ireturn, 1) := by decide +kernel
theorem dX7_row_35 : decode cX7_row 35 = .ok (.aload_n 0, 1) := by decide +kernel
theorem dX7_row_36 : decode cX7_row 36 = .ok (.getfield 11, 3) := by decide +kernel
theorem dX7_row_39 : decode cX7_row 39 = .ok (.iload_n 1, 1) := by decide +kernel
theorem dX7_row_40 : decode cX7_row 40 = .ok (.aaload, 1) := by decide +kernel
theorem dX7_row_41 : decode cX7_row 41 = .ok (.iload_n 2, 1) := by decide +kernel
theorem dX7_row_42 : decode cX7_row 42 = .ok (.iload_n 3, 1) := by decide +kernel
theorem dX7_row_43 : decode cX7_row 43 = .ok (.invokevirtual 75, 3) := by decide +kernel
theorem dX7_row_46 : decode cX7_row 46 = .ok (.aload_n 0, 1) := by decide +kernel
theorem dX7_row_47 : decode cX7_row 47 = .ok (.iconst 0, 1) := by decide +kernel
theorem dX7_row_48 : decode cX7_row 48 = .ok (.putfield 79, 3) := by decide +kernel
theorem dX7_row_51 : decode cX7_row 51 = .ok (.iload_n 3, 1) := by decide +kernel
theorem dX7_row_52 : decode cX7_row 52 = .ok (.ireturn, 1) := by decide +kernel
theorem dX7_set_0 : decode cX7_set 0 = .ok (.iload_n 1, 1) := by decide +kernel
theorem dX7_set_1 : decode cX7_set 1 = .ok (.invokestatic 66, 3) := by decide +kernel
theorem dX7_set_4 : decode cX7_set 4 = .ok (.ifCond .ne 6, 3) := by decide +kernel
theorem dX7_set_7 : decode cX7_set 7 = .ok (.ldc 70, 2) := by decide +kernel
theorem dX7_set_9 : decode cX7_set 9 = .ok (.ireturn, 1) := by decide +kernel
theorem dX7_set_10 : decode cX7_set 10 = .ok (.aload_n 0, 1) := by decide +kernel
theorem dX7_set_11 : decode cX7_set 11 = .ok (.getfield 11, 3) := by decide +kernel
theorem dX7_set_14 : decode cX7_set 14 = .ok (.iload_n 1, 1) := by decide +kernel
theorem dX7_set_15 : decode cX7_set 15 = .ok (.aaload, 1) := by decide +kernel
theorem dX7_set_16 : decode cX7_set 16 = .ok (.astore 4, 2) := by decide +kernel
theorem dX7_set_18 : decode cX7_set 18 = .ok (.aload 4, 2) := by decide +kernel
theorem dX7_set_20 : decode cX7_set 20 = .ok (.getfield 83, 3) := by decide +kernel
theorem dX7_set_23 : decode cX7_set 23 = .ok (.ifCond .ne 9, 3) := by decide +kernel
theorem dX7_set_26 : decode cX7_set 26 = .ok (.aload_n 0, 1) := by decide +kernel
theorem dX7_set_27 : decode cX7_set 27 = .ok (.iconst 1, 1) := by decide +kernel
theorem dX7_set_28 : decode cX7_set 28 = .ok (.invokevirtual 71, 3) := by decide +kernel
theorem dX7_set_31 : decode cX7_set 31 = .ok (.ireturn, 1) := by decide +kernel
theorem dX7_set_32 : decode cX7_set 32 = .ok (.aload 4, 2) := by decide +kernel
theorem dX7_set_34 : decode cX7_set 34 = .ok (.iload_n 2, 1) := by decide +kernel
theorem dX7_set_35 : decode cX7_set 35 = .ok (.iconst 1, 1) := by decide +kernel
theorem dX7_set_36 : decode cX7_set 36 = .ok (.invokevirtual 87, 3) := by decide +kernel
theorem dX7_set_39 : decode cX7_set 39 = .ok (.ifCond .ne 9, 3) := by decide +kernel
theorem dX7_set_42 : decode cX7_set 42 = .ok (.aload_n 0, 1) := by decide +kernel
theorem dX7_set_43 : decode cX7_set 43 = .ok (.iconst 2, 1) := by decide +kernel
theorem dX7_set_44 : decode cX7_set 44 = .ok (.invokevirtual 71, 3) := by decide +kernel
theorem dX7_set_47 : decode cX7_set 47 = .ok (.ireturn, 1) := by decide +kernel
theorem dX7_set_48 : decode cX7_set 48 = .ok (.aload_n 0, 1) := by decide +kernel
theorem dX7_set_49 : decode cX7_set 49 = .ok (.iconst 0, 1) := by decide +kernel
theorem dX7_set_50 : decode cX7_set 50 = .ok (.putfield 79, 3) := by decide +kernel
theorem dX7_set_53 : decode cX7_set 53 = .ok (.aload 4, 2) := by decide +kernel
theorem dX7_set_55 : decode cX7_set 55 = .ok (.iload_n 2, 1) := by decide +kernel
theorem dX7_set_56 : decode cX7_set 56 = .ok (.iload_n 3, 1) := by decide +kernel
theorem dX7_set_57 : decode cX7_set 57 = .ok (.invokevirtual 91, 3) := by decide +kernel
theorem dX7_set_60 : decode cX7_set 60 = .ok (.ireturn, 1) := by decide +kernel
theorem dX7_copy_0 : decode cX7_copy 0 = .ok (.iload_n 1, 1) := by decide +kernel
theorem dX7_copy_1 : decode cX7_copy 1 = .ok (.invokestatic 66, 3) := by decide +kernel
theorem dX7_copy_4 : decode cX7_copy 4 = .ok (.ifCond .eq 10, 3) := by decide +kernel
theorem dX7_copy_7 : decode cX7_copy 7 = .ok (.iload_n 3, 1) := by decide +kernel
theorem dX7_copy_8 : decode cX7_copy 8 = .ok (.invokestatic 66, 3) := by decide +kernel
theorem dX7_copy_11 : decode cX7_copy 11 = .ok (.ifCond .ne 6, 3) := by decide +kernel
theorem dX7_copy_14 : decode cX7_copy 14 = .ok (.ldc 70, 2) := by decide +kernel
theorem dX7_copy_16 : decode cX7_copy 16 = .ok (.ireturn, 1) := by decide +kernel
theorem dX7_copy_17 : decode cX7_copy 17 = .ok (.aload_n 0, 1) := by decide +kernel
theorem dX7_copy_18 : decode cX7_copy 18 = .ok (.getfield 11, 3) := by decide +kernel
theorem dX7_copy_21 : decode cX7_copy 21 = .ok (.iload_n 1, 1) := by decide +kernel
theorem dX7_copy_22 : decode cX7_copy 22 = .ok (.aaload, 1) := by decide +kernel
theorem dX7_copy_23 : decode cX7_copy 23 = .ok (.astore 6, 2) := by decide +kernel
theorem dX7_copy_25 : decode cX7_copy 25 = .ok (.aload_n 0, 1) := by decide +kernel
theorem dX7_copy_26 : decode cX7_copy 26 = .ok (.getfield 11, 3) := by decide +kernel
theorem dX7_copy_29 : decode cX7_copy 29 = .ok (.iload_n 3, 1) := by decide +kernel
theorem dX7_copy_30 : decode cX7_copy 30 = .ok (.aaload, 1) := by decide +kernel
theorem dX7_copy_31 : decode cX7_copy 31 = .ok (.astore 7, 2) := by decide +kernel
theorem dX7_copy_33 : decode cX7_copy 33 = .ok (.aload 6, 2) := by decide +kernel
theorem dX7_copy_35 : decode cX7_copy 35 = .ok (.getfield 83, 3) := by decide +kernel
theorem dX7_copy_38 : decode cX7_copy 38 = .ok (.ifCond .eq 11, 3) := by decide +kernel
theorem dX7_copy_41 : decode cX7_copy 41 = .ok (.aload 7, 2) := by decide +kernel
theorem dX7_copy_43 : decode cX7_copy 43 = .ok (.getfield 83, 3) := by decide +kernel
theorem dX7_copy_46 : decode cX7_copy 46 = .ok (.ifCond .ne 9, 3) := by decide +kernel
theorem dX7_copy_49 : decode cX7_copy 49 = .ok (.aload_n 0, 1) := by decide +kernel
theorem dX7_copy_50 : decode cX7_copy 50 = .ok (.iconst 1, 1) := by decide +kernel
theorem dX7_copy_51 : decode cX7_copy 51 = .ok (.invokevirtual 71, 3) := by decide +kernel
theorem dX7_copy_54 : decode cX7_copy 54 = .ok (.ireturn, 1) := by decide +kernel
theorem dX7_copy_55 : decode cX7_copy 55 = .ok (.aload 6, 2) := by decide +kernel
theorem dX7_copy_57 : decode cX7_copy 57 = .ok (.getfield 95, 3) := by decide +kernel
theorem dX7_copy_60 : decode cX7_copy 60 = .ok (.aload 7, 2) := by decide +kernel
theorem dX7_copy_62 : decode cX7_copy 62 = .ok (.getfield 95, 3) := by decide +kernel
theorem dX7_copy_65 : decode cX7_copy 65 = .ok (.if_icmp .eq 9, 3) := by decide +kernel
theorem dX7_copy_68 : decode cX7_copy 68 = .ok (.aload_n 0, 1) := by decide +kernel
theorem dX7_copy_69 : decode cX7_copy 69 = .ok (.iconst 5, 1) := by decide +kernel
theorem dX7_copy_70 : decode cX7_copy 70 = .ok (.invokevirtual 71, 3) := by decide +kernel
theorem dX7_copy_73 : decode cX7_copy 73 = .ok (.ireturn, 1) := by decide +kernel
theorem dX7_copy_74 : decode cX7_copy 74 = .ok (.aload 6, 2) := by decide +kernel
theorem dX7_copy_76 : decode cX7_copy 76 = .ok (.iload_n 2, 1) := by decide +kernel
theorem dX7_copy_77 : decode cX7_copy 77 = .ok (.iload 5, 2) := by decide +kernel
theorem dX7_copy_79 : decode cX7_copy 79 = .ok (.invokevirtual 87, 3) := by decide +kernel
theorem dX7_copy_82 : decode cX7_copy 82 = .ok (.ifCond .eq 15, 3) := by decide +kernel
theorem dX7_copy_85 : decode cX7_copy 85 = .ok (.aload 7, 2) := by decide +kernel
theorem dX7_copy_87 : decode cX7_copy 87 = .ok (.iload 4, 2) := by decide +kernel
theorem dX7_copy_89 : decode cX7_copy 89 = .ok (.iload 5, 2) := by decide +kernel
theorem dX7_copy_91 : decode cX7_copy 91 = .ok (.invokevirtual 87, 3) := by decide +kernel
theorem dX7_copy_94 : decode cX7_copy 94 = .ok (.ifCond .ne 9, 3) := by decide +kernel
theorem dX7_copy_97 : decode cX7_copy 97 = .ok (.aload_n 0, 1) := by decide +kernel
theorem dX7_copy_98 : decode cX7_copy 98 = .ok (.iconst 2, 1) := by decide +kernel
theorem dX7_copy_99 : decode cX7_copy 99 = .ok (.invokevirtual 71, 3) := by decide +kernel
theorem dX7_copy_102 : decode cX7_copy 102 = .ok (.ireturn, 1) := by decide +kernel
theorem dX7_copy_103 : decode cX7_copy 103 = .ok (.aload 6, 2) := by decide +kernel
theorem dX7_copy_105 : decode cX7_copy 105 = .ok (.getfield 98, 3) := by decide +kernel
theorem dX7_copy_108 : decode cX7_copy 108 = .ok (.iload_n 2, 1) := by decide +kernel
theorem dX7_copy_109 : decode cX7_copy 109 = .ok (.aload 7, 2) := by decide +kernel
theorem dX7_copy_111 : decode cX7_copy 111 = .ok (.getfield 98, 3) := by decide +kernel
theorem dX7_copy_114 : decode cX7_copy 114 = .ok (.iload 4, 2) := by decide +kernel
theorem dX7_copy_116 : decode cX7_copy 116 = .ok (.iload 5, 2) := by decide +kernel
theorem dX7_copy_118 : decode cX7_copy 118 = .ok (.invokestatic 102, 3) := by decide +kernel
theorem dX7_copy_121 : decode cX7_copy 121 = .ok (.aload_n 0, 1) := by decide +kernel
theorem dX7_copy_122 : decode cX7_copy 122 = .ok (.iconst 0, 1) := by decide +kernel
theorem dX7_copy_123 : decode cX7_copy 123 = .ok (.putfield 79, 3) := by decide +kernel
theorem dX7_copy_126 : decode cX7_copy 126 = .ok (.iload 5, 2) := by decide +kernel
theorem dX7_copy_128 : decode cX7_copy 128 = .ok (.ireturn, 1) := by decide +kernel
theorem dX7_drop_0 : decode cX7_drop 0 = .ok (.iload_n 1, 1) := by decide +kernel
theorem dX7_drop_1 : decode cX7_drop 1 = .ok (.invokestatic 66, 3) := by decide +kernel
theorem dX7_drop_4 : decode cX7_drop 4 = .ok (.ifCond .ne 6, 3) := by decide +kernel
theorem dX7_drop_7 : decode cX7_drop 7 = .ok (.ldc 70, 2) := by decide +kernel
theorem dX7_drop_9 : decode cX7_drop 9 = .ok (.ireturn, 1) := by decide +kernel
theorem dX7_drop_10 : decode cX7_drop 10 = .ok (.aload_n 0, 1) := by decide +kernel
theorem dX7_drop_11 : decode cX7_drop 11 = .ok (.getfield 11, 3) := by decide +kernel
theorem dX7_drop_14 : decode cX7_drop 14 = .ok (.iload_n 1, 1) := by decide +kernel
theorem dX7_drop_15 : decode cX7_drop 15 = .ok (.aaload, 1) := by decide +kernel
theorem dX7_drop_16 : decode cX7_drop 16 = .ok (.getfield 83, 3) := by decide +kernel
theorem dX7_drop_19 : decode cX7_drop 19 = .ok (.ifCond .ne 9, 3) := by decide +kernel
theorem dX7_drop_22 : decode cX7_drop 22 = .ok (.aload_n 0, 1) := by decide +kernel
theorem dX7_drop_23 : decode cX7_drop 23 = .ok (.iconst 1, 1) := by decide +kernel
theorem dX7_drop_24 : decode cX7_drop 24 = .ok (.invokevirtual 71, 3) := by decide +kernel
theorem dX7_drop_27 : decode cX7_drop 27 = .ok (.ireturn, 1) := by decide +kernel
theorem dX7_drop_28 : decode cX7_drop 28 = .ok (.aload_n 0, 1) := by decide +kernel
theorem dX7_drop_29 : decode cX7_drop 29 = .ok (.getfield 11, 3) := by decide +kernel
theorem dX7_drop_32 : decode cX7_drop 32 = .ok (.iload_n 1, 1) := by decide +kernel
theorem dX7_drop_33 : decode cX7_drop 33 = .ok (.aaload, 1) := by decide +kernel
theorem dX7_drop_34 : decode cX7_drop 34 = .ok (.iconst 0, 1) := by decide +kernel
theorem dX7_drop_35 : decode cX7_drop 35 = .ok (.putfield 83, 3) := by decide +kernel
theorem dX7_drop_38 : decode cX7_drop 38 = .ok (.aload_n 0, 1) := by decide +kernel
theorem dX7_drop_39 : decode cX7_drop 39 = .ok (.iconst 0, 1) := by decide +kernel
theorem dX7_drop_40 : decode cX7_drop 40 = .ok (.putfield 79, 3) := by decide +kernel
theorem dX7_drop_43 : decode cX7_drop 43 = .ok (.aload_n 0, 1) := by decide +kernel
theorem dX7_drop_44 : decode cX7_drop 44 = .ok (.getfield 11, 3) := by decide +kernel
theorem dX7_drop_47 : decode cX7_drop 47 = .ok (.iload_n 1, 1) := by decide +kernel
theorem dX7_drop_48 : decode cX7_drop 48 = .ok (.aaload, 1) := by decide +kernel
theorem dX7_drop_49 : decode cX7_drop 49 = .ok (.getfield 108, 3) := by decide +kernel
theorem dX7_drop_52 : decode cX7_drop 52 = .ok (.ireturn, 1) := by decide +kernel
theorem dX7_feed_0 : decode cX7_feed 0 = .ok (.iload_n 3, 1) := by decide +kernel
theorem dX7_feed_1 : decode cX7_feed 1 = .ok (.iconst 1, 1) := by decide +kernel
theorem dX7_feed_2 : decode cX7_feed 2 = .ok (.if_icmp .lt 9, 3) := by decide +kernel
theorem dX7_feed_5 : decode cX7_feed 5 = .ok (.iload_n 3, 1) := by decide +kernel
theorem dX7_feed_6 : decode cX7_feed 6 = .ok (.bipush 8, 2) := by decide +kernel
theorem dX7_feed_8 : decode cX7_feed 8 = .ok (.if_icmp .le 6, 3) := by decide +kernel
theorem dX7_feed_11 : decode cX7_feed 11 = .ok (.ldc 70, 2) := by decide +kernel
theorem dX7_feed_13 : decode cX7_feed 13 = .ok (.ireturn, 1) := by decide +kernel
theorem dX7_feed_14 : decode cX7_feed 14 = .ok (.iload_n 3, 1) := by decide +kernel
theorem dX7_feed_15 : decode cX7_feed 15 = .ok (.sipush 400, 3) := by decide +kernel
theorem dX7_feed_18 : decode cX7_feed 18 = .ok (.aload_n 0, 1) := by decide +kernel
theorem dX7_feed_19 : decode cX7_feed 19 = .ok (.getfield 18, 3) := by decide +kernel
theorem dX7_feed_22 : decode cX7_feed 22 = .ok (.getfield 111, 3) := by decide +kernel
theorem dX7_feed_25 : decode cX7_feed 25 = .ok (.isub, 1) := by decide +kernel
theorem dX7_feed_26 : decode cX7_feed 26 = .ok (.if_icmp .le 6, 3) := by decide +kernel
theorem dX7_feed_29 : decode cX7_feed 29 = .ok (.ldc 112, 2) := by decide +kernel
theorem dX7_feed_31 : decode cX7_feed 31 = .ok (.ireturn, 1) := by decide +kernel
theorem dX7_feed_32 : decode cX7_feed 32 = .ok (.aload_n 0, 1) := by decide +kernel
theorem dX7_feed_33 : decode cX7_feed 33 = .ok (.getfield 18, 3) := by decide +kernel
theorem dX7_feed_36 : decode cX7_feed 36 = .ok (.lload_n 1, 1) := by decide +kernel
theorem dX7_feed_37 : decode cX7_feed 37 = .ok (.iload_n 3, 1) := by decide +kernel
theorem dX7_feed_38 : decode cX7_feed 38 = .ok (.invokevirtual 113, 3) := by decide +kernel
theorem dX7_feed_41 : decode cX7_feed 41 = .ok (.aload_n 0, 1) := by decide +kernel
theorem dX7_feed_42 : decode cX7_feed 42 = .ok (.getfield 18, 3) := by decide +kernel
theorem dX7_feed_45 : decode cX7_feed 45 = .ok (.getfield 111, 3) := by decide +kernel
theorem dX7_feed_48 : decode cX7_feed 48 = .ok (.ireturn, 1) := by decide +kernel
theorem dX7_house_0 : decode cX7_house 0 = .ok (.aload_n 0, 1) := by decide +kernel
theorem dX7_house_1 : decode cX7_house 1 = .ok (.getfield 27, 3) := by decide +kernel
theorem dX7_house_4 : decode cX7_house 4 = .ok (.invokevirtual 117, 3) := by decide +kernel
theorem dX7_house_7 : decode cX7_house 7 = .ok (.istore_n 1, 1) := by decide +kernel
theorem dX7_house_8 : decode cX7_house 8 = .ok (.aload_n 0, 1) := by decide +kernel
theorem dX7_house_9 : decode cX7_house 9 = .ok (.getfield 18, 3) := by decide +kernel
theorem dX7_house_12 : decode cX7_house 12 = .ok (.getfield 121, 3) := by decide +kernel
theorem dX7_house_15 : decode cX7_house 15 = .ok (.istore_n 2, 1) := by decide +kernel
theorem dX7_house_16 : decode cX7_house 16 = .ok (.aload_n 0, 1) := by decide +kernel
theorem dX7_house_17 : decode cX7_house 17 = .ok (.getfield 18, 3) := by decide +kernel
theorem dX7_house_20 : decode cX7_house 20 = .ok (.iconst 0, 1) := by decide +kernel
theorem dX7_house_21 : decode cX7_house 21 = .ok (.putfield 111, 3) := by decide +kernel
theorem dX7_house_24 : decode cX7_house 24 = .ok (.iload_n 1, 1) := by decide +kernel
theorem dX7_house_25 : decode cX7_house 25 = .ok (.ifCond .ne 19, 3) := by decide +kernel
theorem dX7_house_28 : decode cX7_house 28 = .ok (.aload_n 0, 1) := by decide +kernel
theorem dX7_house_29 : decode cX7_house 29 = .ok (.aload_n 0, 1) := by decide +kernel
theorem dX7_house_30 : decode cX7_house 30 = .ok (.getfield 27, 3) := by decide +kernel
theorem dX7_house_33 : decode cX7_house 33 = .ok (.getfield 124, 3) := by decide +kernel
theorem dX7_house_36 : decode cX7_house 36 = .ok (.putfield 127, 3) := by decide +kernel
theorem dX7_house_39 : decode cX7_house 39 = .ok (.ldc 128, 2) := by decide +kernel
theorem dX7_house_41 : decode cX7_house 41 = .ok (.iload_n 2, 1) := by decide +kernel
theorem dX7_house_42 : decode cX7_house 42 = .ok (.isub, 1) := by decide +kernel
theorem dX7_house_43 : decode cX7_house 43 = .ok (.ireturn, 1) := by decide +kernel
theorem dX7_house_44 : decode cX7_house 44 = .ok (.aload_n 0, 1) := by decide +kernel
theorem dX7_house_45 : decode cX7_house 45 = .ok (.getfield 34, 3) := by decide +kernel
theorem dX7_house_48 : decode cX7_house 48 = .ok (.aload_n 0, 1) := by decide +kernel
theorem dX7_house_49 : decode cX7_house 49 = .ok (.getfield 27, 3) := by decide +kernel
theorem dX7_house_52 : decode cX7_house 52 = .ok (.getfield 129, 3) := by decide +kernel
theorem dX7_house_55 : decode cX7_house 55 = .ok (.invokevirtual 132, 3) := by decide +kernel
theorem dX7_house_58 : decode cX7_house 58 = .ok (.aload_n 0, 1) := by decide +kernel
theorem dX7_house_59 : decode cX7_house 59 = .ok (.getfield 45, 3) := by decide +kernel
theorem dX7_house_62 : decode cX7_house 62 = .ok (.invokevirtual 135, 3) := by decide +kernel
theorem dX7_house_65 : decode cX7_house 65 = .ok (.aload_n 0, 1) := by decide +kernel
theorem dX7_house_66 : decode cX7_house 66 = .ok (.getfield 34, 3) := by decide +kernel
theorem dX7_house_69 : decode cX7_house 69 = .ok (.getfield 138, 3) := by decide +kernel
theorem dX7_house_72 : decode cX7_house 72 = .ok (.ireturn, 1) := by decide +kernel
theorem dX7_fault_0 : decode cX7_fault 0 = .ok (.aload_n 0, 1) := by decide +kernel
theorem dX7_fault_1 : decode cX7_fault 1 = .ok (.getfield 127, 3) := by decide +kernel
theorem dX7_fault_4 : decode cX7_fault 4 = .ok (.ireturn, 1) := by decide +kernel
theorem dX7_bell_0 : decode cX7_bell 0 = .ok (.aload_n 0, 1) := by decide +kernel
theorem dX7_bell_1 : decode cX7_bell 1 = .ok (.getfield 34, 3) := by decide +kernel
theorem dX7_bell_4 : decode cX7_bell 4 = .ok (.getfield 138, 3) := by decide +kernel
theorem dX7_bell_7 : decode cX7_bell 7 = .ok (.ifCond .ne 6, 3) := by decide +kernel
theorem dX7_bell_10 : decode cX7_bell 10 = .ok (.ldc 141, 2) := by decide +kernel
theorem dX7_bell_12 : decode cX7_bell 12 = .ok (.ireturn, 1) := by decide +kernel
theorem dX7_bell_13 : decode cX7_bell 13 = .ok (.aload_n 0, 1) := by decide +kernel
theorem dX7_bell_14 : decode cX7_bell 14 = .ok (.getfield 34, 3) := by decide +kernel
theorem dX7_bell_17 : decode cX7_bell 17 = .ok (.getfield 142, 3) := by decide +kernel
theorem dX7_bell_20 : decode cX7_bell 20 = .ok (.sipush 9999, 3) := by decide +kernel
theorem dX7_bell_23 : decode cX7_bell 23 = .ok (.if_icmp .lt 6, 3) := by decide +kernel
theorem dX7_bell_26 : decode cX7_bell 26 = .ok (.ldc 112, 2) := by decide +kernel
theorem dX7_bell_28 : decode cX7_bell 28 = .ok (.ireturn, 1) := by decide +kernel
theorem dX7_bell_29 : decode cX7_bell 29 = .ok (.aload_n 0, 1) := by decide +kernel
theorem dX7_bell_30 : decode cX7_bell 30 = .ok (.getfield 45, 3) := by decide +kernel
theorem dX7_bell_33 : decode cX7_bell 33 = .ok (.aload_n 0, 1) := by decide +kernel
theorem dX7_bell_34 : decode cX7_bell 34 = .ok (.getfield 34, 3) := by decide +kernel
theorem dX7_bell_37 : decode cX7_bell 37 = .ok (.invokevirtual 145, 3) := by decide +kernel
theorem dX7_bell_40 : decode cX7_bell 40 = .ok (.aload_n 0, 1) := by decide +kernel
theorem dX7_bell_41 : decode cX7_bell 41 = .ok (.getfield 34, 3) := by decide +kernel
theorem dX7_bell_44 : decode cX7_bell 44 = .ok (.invokevirtual 148, 3) := by decide +kernel
theorem dX7_bell_47 : decode cX7_bell 47 = .ok (.ireturn, 1) := by decide +kernel
theorem dX7_bells_0 : decode cX7_bells 0 = .ok (.aload_n 0, 1) := by decide +kernel
theorem dX7_bells_1 : decode cX7_bells 1 = .ok (.getfield 34, 3) := by decide +kernel
theorem dX7_bells_4 : decode cX7_bells 4 = .ok (.getfield 138, 3) := by decide +kernel
theorem dX7_bells_7 : decode cX7_bells 7 = .ok (.ifCond .ne 6, 3) := by decide +kernel
theorem dX7_bells_10 : decode cX7_bells 10 = .ok (.ldc 141, 2) := by decide +kernel
theorem dX7_bells_12 : decode cX7_bells 12 = .ok (.ireturn, 1) := by decide +kernel
theorem dX7_bells_13 : decode cX7_bells 13 = .ok (.iload_n 1, 1) := by decide +kernel
theorem dX7_bells_14 : decode cX7_bells 14 = .ok (.invokestatic 66, 3) := by decide +kernel
theorem dX7_bells_17 : decode cX7_bells 17 = .ok (.ifCond .eq 14, 3) := by decide +kernel
theorem dX7_bells_20 : decode cX7_bells 20 = .ok (.iload_n 3, 1) := by decide +kernel
theorem dX7_bells_21 : decode cX7_bells 21 = .ok (.iconst 1, 1) := by decide +kernel
theorem dX7_bells_22 : decode cX7_bells 22 = .ok (.if_icmp .lt 9, 3) := by decide +kernel
theorem dX7_bells_25 : decode cX7_bells 25 = .ok (.iload_n 3, 1) := by decide +kernel
theorem dX7_bells_26 : decode cX7_bells 26 = .ok (.bipush 24, 2) := by decide +kernel
theorem dX7_bells_28 : decode cX7_bells 28 = .ok (.if_icmp .le 6, 3) := by decide +kernel
theorem dX7_bells_31 : decode cX7_bells 31 = .ok (.ldc 70, 2) := by decide +kernel
theorem dX7_bells_33 : decode cX7_bells 33 = .ok (.ireturn, 1) := by decide +kernel
theorem dX7_bells_34 : decode cX7_bells 34 = .ok (.aload_n 0, 1) := by decide +kernel
theorem dX7_bells_35 : decode cX7_bells 35 = .ok (.getfield 11, 3) := by decide +kernel
theorem dX7_bells_38 : decode cX7_bells 38 = .ok (.iload_n 1, 1) := by decide +kernel
theorem dX7_bells_39 : decode cX7_bells 39 = .ok (.aaload, 1) := by decide +kernel
theorem dX7_bells_40 : decode cX7_bells 40 = .ok (.astore 4, 2) := by decide +kernel
theorem dX7_bells_42 : decode cX7_bells 42 = .ok (.aload 4, 2) := by decide +kernel
theorem dX7_bells_44 : decode cX7_bells 44 = .ok (.getfield 83, 3) := by decide +kernel
theorem dX7_bells_47 : decode cX7_bells 47 = .ok (.ifCond .ne 9, 3) := by decide +kernel
theorem dX7_bells_50 : decode cX7_bells 50 = .ok (.aload_n 0, 1) := by decide +kernel
theorem dX7_bells_51 : decode cX7_bells 51 = .ok (.iconst 1, 1) := by decide +kernel
theorem dX7_bells_52 : decode cX7_bells 52 = .ok (.invokevirtual 71, 3) := by decide +kernel
theorem dX7_bells_55 : decode cX7_bells 55 = .ok (.ireturn, 1) := by decide +kernel
theorem dX7_bells_56 : decode cX7_bells 56 = .ok (.aload 4, 2) := by decide +kernel
theorem dX7_bells_58 : decode cX7_bells 58 = .ok (.iload_n 2, 1) := by decide +kernel
theorem dX7_bells_59 : decode cX7_bells 59 = .ok (.iload_n 3, 1) := by decide +kernel
theorem dX7_bells_60 : decode cX7_bells 60 = .ok (.invokevirtual 87, 3) := by decide +kernel
theorem dX7_bells_63 : decode cX7_bells 63 = .ok (.ifCond .ne 9, 3) := by decide +kernel
theorem dX7_bells_66 : decode cX7_bells 66 = .ok (.aload_n 0, 1) := by decide +kernel
theorem dX7_bells_67 : decode cX7_bells 67 = .ok (.iconst 2, 1) := by decide +kernel
theorem dX7_bells_68 : decode cX7_bells 68 = .ok (.invokevirtual 71, 3) := by decide +kernel
theorem dX7_bells_71 : decode cX7_bells 71 = .ok (.ireturn, 1) := by decide +kernel
theorem dX7_bells_72 : decode cX7_bells 72 = .ok (.aload 4, 2) := by decide +kernel
theorem dX7_bells_74 : decode cX7_bells 74 = .ok (.iload_n 2, 1) := by decide +kernel
theorem dX7_bells_75 : decode cX7_bells 75 = .ok (.iload_n 3, 1) := by decide +kernel
theorem dX7_bells_76 : decode cX7_bells 76 = .ok (.iconst 1, 1) := by decide +kernel
theorem dX7_bells_77 : decode cX7_bells 77 = .ok (.aload_n 0, 1) := by decide +kernel
theorem dX7_bells_78 : decode cX7_bells 78 = .ok (.getfield 34, 3) := by decide +kernel
theorem dX7_bells_81 : decode cX7_bells 81 = .ok (.getfield 152, 3) := by decide +kernel
theorem dX7_bells_84 : decode cX7_bells 84 = .ok (.ishl, 1) := by decide +kernel
theorem dX7_bells_85 : decode cX7_bells 85 = .ok (.invokevirtual 155, 3) := by decide +kernel
theorem dX7_bells_88 : decode cX7_bells 88 = .ok (.ifCond .ne 6, 3) := by decide +kernel
theorem dX7_bells_91 : decode cX7_bells 91 = .ok (.ldc 70, 2) := by decide +kernel
theorem dX7_bells_93 : decode cX7_bells 93 = .ok (.ireturn, 1) := by decide +kernel
theorem dX7_bells_94 : decode cX7_bells 94 = .ok (.aload_n 0, 1) := by decide +kernel
theorem dX7_bells_95 : decode cX7_bells 95 = .ok (.getfield 34, 3) := by decide +kernel
theorem dX7_bells_98 : decode cX7_bells 98 = .ok (.getfield 142, 3) := by decide +kernel
theorem dX7_bells_101 : decode cX7_bells 101 = .ok (.sipush 9999, 3) := by decide +kernel
theorem dX7_bells_104 : decode cX7_bells 104 = .ok (.iload_n 3, 1) := by decide +kernel
theorem dX7_bells_105 : decode cX7_bells 105 = .ok (.isub, 1) := by decide +kernel
theorem dX7_bells_106 : decode cX7_bells 106 = .ok (.if_icmp .gt 14, 3) := by decide +kernel
theorem dX7_bells_109 : decode cX7_bells 109 = .ok (.aload_n 0, 1) := by decide +kernel
theorem dX7_bells_110 : decode cX7_bells 110 = .ok (.aload 4, 2) := by decide +kernel
theorem dX7_bells_112 : decode cX7_bells 112 = .ok (.iload_n 2, 1) := by decide +kernel
theorem dX7_bells_113 : decode cX7_bells 113 = .ok (.iload_n 3, 1) := by decide +kernel
theorem dX7_bells_114 : decode cX7_bells 114 = .ok (.invokevirtual 159, 3) := by decide +kernel
theorem dX7_bells_117 : decode cX7_bells 117 = .ok (.ifCond .eq 6, 3) := by decide +kernel
theorem dX7_bells_120 : decode cX7_bells 120 = .ok (.ldc 112, 2) := by decide +kernel
theorem dX7_bells_122 : decode cX7_bells 122 = .ok (.ireturn, 1) := by decide +kernel
theorem dX7_bells_123 : decode cX7_bells 123 = .ok (.iconst 0, 1) := by decide +kernel
theorem dX7_bells_124 : decode cX7_bells 124 = .ok (.istore 5, 2) := by decide +kernel
theorem dX7_bells_126 : decode cX7_bells 126 = .ok (.iload 5, 2) := by decide +kernel
theorem dX7_bells_128 : decode cX7_bells 128 = .ok (.iload_n 3, 1) := by decide +kernel
theorem dX7_bells_129 : decode cX7_bells 129 = .ok (.if_icmp .ge 45, 3) := by decide +kernel
theorem dX7_bells_132 : decode cX7_bells 132 = .ok (.aload_n 0, 1) := by decide +kernel
theorem dX7_bells_133 : decode cX7_bells 133 = .ok (.getfield 45, 3) := by decide +kernel
theorem dX7_bells_136 : decode cX7_bells 136 = .ok (.aload_n 0, 1) := by decide +kernel
theorem dX7_bells_137 : decode cX7_bells 137 = .ok (.getfield 34, 3) := by decide +kernel
theorem dX7_bells_140 : decode cX7_bells 140 = .ok (.invokevirtual 145, 3) := by decide +kernel
theorem dX7_bells_143 : decode cX7_bells 143 = .ok (.aload_n 0, 1) := by decide +kernel
theorem dX7_bells_144 : decode cX7_bells 144 = .ok (.getfield 34, 3) := by decide +kernel
theorem dX7_bells_147 : decode cX7_bells 147 = .ok (.invokevirtual 148, 3) := by decide +kernel
theorem dX7_bells_150 : decode cX7_bells 150 = .ok (.pop, 1) := by decide +kernel
theorem dX7_bells_151 : decode cX7_bells 151 = .ok (.aload_n 0, 1) := by decide +kernel
theorem dX7_bells_152 : decode cX7_bells 152 = .ok (.getfield 34, 3) := by decide +kernel
theorem dX7_bells_155 : decode cX7_bells 155 = .ok (.aload 4, 2) := by decide +kernel
theorem dX7_bells_157 : decode cX7_bells 157 = .ok (.getfield 98, 3) := by decide +kernel
theorem dX7_bells_160 : decode cX7_bells 160 = .ok (.iload_n 2, 1) := by decide +kernel
theorem dX7_bells_161 : decode cX7_bells 161 = .ok (.iload 5, 2) := by decide +kernel
theorem dX7_bells_163 : decode cX7_bells 163 = .ok (.iadd, 1) := by decide +kernel
theorem dX7_bells_164 : decode cX7_bells 164 = .ok (.iaload, 1) := by decide +kernel
theorem dX7_bells_165 : decode cX7_bells 165 = .ok (.invokevirtual 163, 3) := by decide +kernel
theorem dX7_bells_168 : decode cX7_bells 168 = .ok (.iinc 5 1, 3) := by decide +kernel
theorem dX7_bells_171 : decode cX7_bells 171 = .ok (.goto (-45), 3) := by decide +kernel
theorem dX7_bells_174 : decode cX7_bells 174 = .ok (.aload_n 0, 1) := by decide +kernel
theorem dX7_bells_175 : decode cX7_bells 175 = .ok (.iconst 0, 1) := by decide +kernel
theorem dX7_bells_176 : decode cX7_bells 176 = .ok (.putfield 79, 3) := by decide +kernel
theorem dX7_bells_179 : decode cX7_bells 179 = .ok (.aload_n 0, 1) := by decide +kernel
theorem dX7_bells_180 : decode cX7_bells 180 = .ok (.getfield 34, 3) := by decide +kernel
theorem dX7_bells_183 : decode cX7_bells 183 = .ok (.invokevirtual 167, 3) := by decide +kernel
theorem dX7_bells_186 : decode cX7_bells 186 = .ok (.ireturn, 1) := by decide +kernel
theorem dX7_door_0 : decode cX7_door 0 = .ok (.aload_n 0, 1) := by decide +kernel
theorem dX7_door_1 : decode cX7_door 1 = .ok (.getfield 34, 3) := by decide +kernel
theorem dX7_door_4 : decode cX7_door 4 = .ok (.iload_n 1, 1) := by decide +kernel
theorem dX7_door_5 : decode cX7_door 5 = .ok (.invokevirtual 170, 3) := by decide +kernel
theorem dX7_door_8 : decode cX7_door 8 = .ok (.ifCond .eq 28, 3) := by decide +kernel
theorem dX7_door_11 : decode cX7_door 11 = .ok (.aload_n 0, 1) := by decide +kernel
theorem dX7_door_12 : decode cX7_door 12 = .ok (.getfield 34, 3) := by decide +kernel
theorem dX7_door_15 : decode cX7_door 15 = .ok (.iload_n 2, 1) := by decide +kernel
theorem dX7_door_16 : decode cX7_door 16 = .ok (.invokevirtual 170, 3) := by decide +kernel
theorem dX7_door_19 : decode cX7_door 19 = .ok (.ifCond .eq 17, 3) := by decide +kernel
theorem dX7_door_22 : decode cX7_door 22 = .ok (.iload_n 1, 1) := by decide +kernel
theorem dX7_door_23 : decode cX7_door 23 = .ok (.iload_n 2, 1) := by decide +kernel
theorem dX7_door_24 : decode cX7_door 24 = .ok (.if_icmp .eq 12, 3) := by decide +kernel
theorem dX7_door_27 : decode cX7_door 27 = .ok (.iload_n 3, 1) := by decide +kernel
theorem dX7_door_28 : decode cX7_door 28 = .ok (.ifCond .lt 8, 3) := by decide +kernel
theorem dX7_door_31 : decode cX7_door 31 = .ok (.iload_n 3, 1) := by decide +kernel
theorem dX7_door_32 : decode cX7_door 32 = .ok (.iconst 1, 1) := by decide +kernel
theorem dX7_door_33 : decode cX7_door 33 = .ok (.if_icmp .le 6, 3) := by decide +kernel
theorem dX7_door_36 : decode cX7_door 36 = .ok (.ldc 70, 2) := by decide +kernel
theorem dX7_door_38 : decode cX7_door 38 = .ok (.ireturn, 1) := by decide +kernel
theorem dX7_door_39 : decode cX7_door 39 = .ok (.aload_n 0, 1) := by decide +kernel
theorem dX7_door_40 : decode cX7_door 40 = .ok (.getfield 34, 3) := by decide +kernel
theorem dX7_door_43 : decode cX7_door 43 = .ok (.iload_n 1, 1) := by decide +kernel
theorem dX7_door_44 : decode cX7_door 44 = .ok (.iload_n 2, 1) := by decide +kernel
theorem dX7_door_45 : decode cX7_door 45 = .ok (.invokevirtual 173, 3) := by decide +kernel
theorem dX7_door_48 : decode cX7_door 48 = .ok (.istore 4, 2) := by decide +kernel
theorem dX7_door_50 : decode cX7_door 50 = .ok (.aload_n 0, 1) := by decide +kernel
theorem dX7_door_51 : decode cX7_door 51 = .ok (.getfield 45, 3) := by decide +kernel
theorem dX7_door_54 : decode cX7_door 54 = .ok (.aload_n 0, 1) := by decide +kernel
theorem dX7_door_55 : decode cX7_door 55 = .ok (.getfield 34, 3) := by decide +kernel
theorem dX7_door_58 : decode cX7_door 58 = .ok (.invokevirtual 145, 3) := by decide +kernel
theorem dX7_door_61 : decode cX7_door 61 = .ok (.aload_n 0, 1) := by decide +kernel
theorem dX7_door_62 : decode cX7_door 62 = .ok (.getfield 34, 3) := by decide +kernel
theorem dX7_door_65 : decode cX7_door 65 = .ok (.iload_n 1, 1) := by decide +kernel
theorem dX7_door_66 : decode cX7_door 66 = .ok (.iload_n 2, 1) := by decide +kernel
theorem dX7_door_67 : decode cX7_door 67 = .ok (.iload_n 3, 1) := by decide +kernel
theorem dX7_door_68 : decode cX7_door 68 = .ok (.invokevirtual 176, 3) := by decide +kernel
theorem dX7_door_71 : decode cX7_door 71 = .ok (.iload 4, 2) := by decide +kernel
theorem dX7_door_73 : decode cX7_door 73 = .ok (.ireturn, 1) := by decide +kernel
theorem dX7_heads_0 : decode cX7_heads 0 = .ok (.aload_n 0, 1) := by decide +kernel
theorem dX7_heads_1 : decode cX7_heads 1 = .ok (.getfield 34, 3) := by decide +kernel
theorem dX7_heads_4 : decode cX7_heads 4 = .ok (.iload_n 1, 1) := by decide +kernel
theorem dX7_heads_5 : decode cX7_heads 5 = .ok (.invokevirtual 180, 3) := by decide +kernel
theorem dX7_heads_8 : decode cX7_heads 8 = .ok (.ifCond .eq 14, 3) := by decide +kernel
theorem dX7_heads_11 : decode cX7_heads 11 = .ok (.iload_n 2, 1) := by decide +kernel
theorem dX7_heads_12 : decode cX7_heads 12 = .ok (.iconst 1, 1) := by decide +kernel
theorem dX7_heads_13 : decode cX7_heads 13 = .ok (.if_icmp .lt 9, 3) := by decide +kernel
theorem dX7_heads_16 : decode cX7_heads 16 = .ok (.iload_n 2, 1) := by decide +kernel
theorem dX7_heads_17 : decode cX7_heads 17 = .ok (.bipush 99, 2) := by decide +kernel
theorem dX7_heads_19 : decode cX7_heads 19 = .ok (.if_icmp .le 6, 3) := by decide +kernel
theorem dX7_heads_22 : decode cX7_heads 22 = .ok (.ldc 70, 2) := by decide +kernel
theorem dX7_heads_24 : decode cX7_heads 24 = .ok (.ireturn, 1) := by decide +kernel
theorem dX7_heads_25 : decode cX7_heads 25 = .ok (.aload_n 0, 1) := by decide +kernel
theorem dX7_heads_26 : decode cX7_heads 26 = .ok (.getfield 34, 3) := by decide +kernel
theorem dX7_heads_29 : decode cX7_heads 29 = .ok (.getfield 183, 3) := by decide +kernel
theorem dX7_heads_32 : decode cX7_heads 32 = .ok (.iload_n 1, 1) := by decide +kernel
theorem dX7_heads_33 : decode cX7_heads 33 = .ok (.iaload, 1) := by decide +kernel
theorem dX7_heads_34 : decode cX7_heads 34 = .ok (.istore_n 3, 1) := by decide +kernel
theorem dX7_heads_35 : decode cX7_heads 35 = .ok (.aload_n 0, 1) := by decide +kernel
theorem dX7_heads_36 : decode cX7_heads 36 = .ok (.getfield 45, 3) := by decide +kernel
theorem dX7_heads_39 : decode cX7_heads 39 = .ok (.aload_n 0, 1) := by decide +kernel
theorem dX7_heads_40 : decode cX7_heads 40 = .ok (.getfield 34, 3) := by decide +kernel
theorem dX7_heads_43 : decode cX7_heads 43 = .ok (.invokevirtual 145, 3) := by decide +kernel
theorem dX7_heads_46 : decode cX7_heads 46 = .ok (.aload_n 0, 1) := by decide +kernel
theorem dX7_heads_47 : decode cX7_heads 47 = .ok (.getfield 34, 3) := by decide +kernel
theorem dX7_heads_50 : decode cX7_heads 50 = .ok (.getfield 183, 3) := by decide +kernel
theorem dX7_heads_53 : decode cX7_heads 53 = .ok (.iload_n 1, 1) := by decide +kernel
theorem dX7_heads_54 : decode cX7_heads 54 = .ok (.iload_n 2, 1) := by decide +kernel
theorem dX7_heads_55 : decode cX7_heads 55 = .ok (.iastore, 1) := by decide +kernel
theorem dX7_heads_56 : decode cX7_heads 56 = .ok (.iload_n 3, 1) := by decide +kernel
theorem dX7_heads_57 : decode cX7_heads 57 = .ok (.ireturn, 1) := by decide +kernel
theorem dX7_undo_0 : decode cX7_undo 0 = .ok (.aload_n 0, 1) := by decide +kernel
theorem dX7_undo_1 : decode cX7_undo 1 = .ok (.getfield 45, 3) := by decide +kernel
theorem dX7_undo_4 : decode cX7_undo 4 = .ok (.getfield 186, 3) := by decide +kernel
theorem dX7_undo_7 : decode cX7_undo 7 = .ok (.ifCond .ne 6, 3) := by decide +kernel
theorem dX7_undo_10 : decode cX7_undo 10 = .ok (.ldc 141, 2) := by decide +kernel
theorem dX7_undo_12 : decode cX7_undo 12 = .ok (.ireturn, 1) := by decide +kernel
theorem dX7_undo_13 : decode cX7_undo 13 = .ok (.aload_n 0, 1) := by decide +kernel
theorem dX7_undo_14 : decode cX7_undo 14 = .ok (.getfield 45, 3) := by decide +kernel
theorem dX7_undo_17 : decode cX7_undo 17 = .ok (.aload_n 0, 1) := by decide +kernel
theorem dX7_undo_18 : decode cX7_undo 18 = .ok (.getfield 34, 3) := by decide +kernel
theorem dX7_undo_21 : decode cX7_undo 21 = .ok (.invokevirtual 189, 3) := by decide +kernel
theorem dX7_undo_24 : decode cX7_undo 24 = .ok (.aload_n 0, 1) := by decide +kernel
theorem dX7_undo_25 : decode cX7_undo 25 = .ok (.getfield 45, 3) := by decide +kernel
theorem dX7_undo_28 : decode cX7_undo 28 = .ok (.getfield 186, 3) := by decide +kernel
theorem dX7_undo_31 : decode cX7_undo 31 = .ok (.ireturn, 1) := by decide +kernel
theorem dX7_crowd_0 : decode cX7_crowd 0 = .ok (.aload_n 0, 1) := by decide +kernel
theorem dX7_crowd_1 : decode cX7_crowd 1 = .ok (.getfield 34, 3) := by decide +kernel
theorem dX7_crowd_4 : decode cX7_crowd 4 = .ok (.iload_n 1, 1) := by decide +kernel
theorem dX7_crowd_5 : decode cX7_crowd 5 = .ok (.invokevirtual 180, 3) := by decide +kernel
theorem dX7_crowd_8 : decode cX7_crowd 8 = .ok (.ifCond .eq 12, 3) := by decide +kernel
theorem dX7_crowd_11 : decode cX7_crowd 11 = .ok (.iload_n 2, 1) := by decide +kernel
theorem dX7_crowd_12 : decode cX7_crowd 12 = .ok (.ifCond .lt 8, 3) := by decide +kernel
theorem dX7_crowd_15 : decode cX7_crowd 15 = .ok (.iload_n 2, 1) := by decide +kernel
theorem dX7_crowd_16 : decode cX7_crowd 16 = .ok (.iconst 1, 1) := by decide +kernel
theorem dX7_crowd_17 : decode cX7_crowd 17 = .ok (.if_icmp .le 6, 3) := by decide +kernel
theorem dX7_crowd_20 : decode cX7_crowd 20 = .ok (.ldc 70, 2) := by decide +kernel
theorem dX7_crowd_22 : decode cX7_crowd 22 = .ok (.ireturn, 1) := by decide +kernel
theorem dX7_crowd_23 : decode cX7_crowd 23 = .ok (.iload_n 2, 1) := by decide +kernel
theorem dX7_crowd_24 : decode cX7_crowd 24 = .ok (.ifCond .ne 15, 3) := by decide +kernel
theorem dX7_crowd_27 : decode cX7_crowd 27 = .ok (.aload_n 0, 1) := by decide +kernel
theorem dX7_crowd_28 : decode cX7_crowd 28 = .ok (.getfield 34, 3) := by decide +kernel
theorem dX7_crowd_31 : decode cX7_crowd 31 = .ok (.getfield 192, 3) := by decide +kernel
theorem dX7_crowd_34 : decode cX7_crowd 34 = .ok (.iload_n 1, 1) := by decide +kernel
theorem dX7_crowd_35 : decode cX7_crowd 35 = .ok (.iaload, 1) := by decide +kernel
theorem dX7_crowd_36 : decode cX7_crowd 36 = .ok (.goto 12, 3) := by decide +kernel
theorem dX7_crowd_39 : decode cX7_crowd 39 = .ok (.aload_n 0, 1) := by decide +kernel
theorem dX7_crowd_40 : decode cX7_crowd 40 = .ok (.getfield 34, 3) := by decide +kernel
theorem dX7_crowd_43 : decode cX7_crowd 43 = .ok (.getfield 183, 3) := by decide +kernel
theorem dX7_crowd_46 : decode cX7_crowd 46 = .ok (.iload_n 1, 1) := by decide +kernel
theorem dX7_crowd_47 : decode cX7_crowd 47 = .ok (.iaload, 1) := by decide +kernel
theorem dX7_crowd_48 : decode cX7_crowd 48 = .ok (.ireturn, 1) := by decide +kernel
theorem dX7_room_0 : decode cX7_room 0 = .ok (.aload_n 0, 1) := by decide +kernel
theorem dX7_room_1 : decode cX7_room 1 = .ok (.getfield 34, 3) := by decide +kernel
theorem dX7_room_4 : decode cX7_room 4 = .ok (.iload_n 1, 1) := by decide +kernel
theorem dX7_room_5 : decode cX7_room 5 = .ok (.invokevirtual 170, 3) := by decide +kernel
theorem dX7_room_8 : decode cX7_room 8 = .ok (.ifCond .eq 12, 3) := by decide +kernel
theorem dX7_room_11 : decode cX7_room 11 = .ok (.iload_n 2, 1) := by decide +kernel
theorem dX7_room_12 : decode cX7_room 12 = .ok (.ifCond .lt 8, 3) := by decide +kernel
theorem dX7_room_15 : decode cX7_room 15 = .ok (.iload_n 2, 1) := by decide +kernel
theorem dX7_room_16 : decode cX7_room 16 = .ok (.iconst 2, 1) := by decide +kernel
theorem dX7_room_17 : decode cX7_room 17 = .ok (.if_icmp .le 6, 3) := by decide +kernel
theorem dX7_room_20 : decode cX7_room 20 = .ok (.ldc 70, 2) := by decide +kernel
theorem dX7_room_22 : decode cX7_room 22 = .ok (.ireturn, 1) := by decide +kernel
theorem dX7_room_23 : decode cX7_room 23 = .ok (.iload_n 2, 1) := by decide +kernel
theorem dX7_room_24 : decode cX7_room 24 = .ok (.ifCond .ne 13, 3) := by decide +kernel
theorem dX7_room_27 : decode cX7_room 27 = .ok (.aload_n 0, 1) := by decide +kernel
theorem dX7_room_28 : decode cX7_room 28 = .ok (.getfield 34, 3) := by decide +kernel
theorem dX7_room_31 : decode cX7_room 31 = .ok (.getfield 195, 3) := by decide +kernel
theorem dX7_room_34 : decode cX7_room 34 = .ok (.iload_n 1, 1) := by decide +kernel
theorem dX7_room_35 : decode cX7_room 35 = .ok (.iaload, 1) := by decide +kernel
theorem dX7_room_36 : decode cX7_room 36 = .ok (.ireturn, 1) := by decide +kernel
theorem dX7_room_37 : decode cX7_room 37 = .ok (.iload_n 2, 1) := by decide +kernel
theorem dX7_room_38 : decode cX7_room 38 = .ok (.iconst 1, 1) := by decide +kernel
theorem dX7_room_39 : decode cX7_room 39 = .ok (.if_icmp .ne 14, 3) := by decide +kernel
theorem dX7_room_42 : decode cX7_room 42 = .ok (.aload_n 0, 1) := by decide +kernel
theorem dX7_room_43 : decode cX7_room 43 = .ok (.getfield 34, 3) := by decide +kernel
theorem dX7_room_46 : decode cX7_room 46 = .ok (.iload_n 1, 1) := by decide +kernel
theorem dX7_room_47 : decode cX7_room 47 = .ok (.invokevirtual 198, 3) := by decide +kernel
theorem dX7_room_50 : decode cX7_room 50 = .ok (.goto 12, 3) := by decide +kernel
theorem dX7_room_53 : decode cX7_room 53 = .ok (.aload_n 0, 1) := by decide +kernel
theorem dX7_room_54 : decode cX7_room 54 = .ok (.getfield 34, 3) := by decide +kernel
theorem dX7_room_57 : decode cX7_room 57 = .ok (.getfield 201, 3) := by decide +kernel
theorem dX7_room_60 : decode cX7_room 60 = .ok (.iload_n 1, 1) := by decide +kernel
theorem dX7_room_61 : decode cX7_room 61 = .ok (.iaload, 1) := by decide +kernel
theorem dX7_room_62 : decode cX7_room 62 = .ok (.ireturn, 1) := by decide +kernel
theorem dX7_ahead_0 : decode cX7_ahead 0 = .ok (.aload_n 0, 1) := by decide +kernel
theorem dX7_ahead_1 : decode cX7_ahead 1 = .ok (.getfield 34, 3) := by decide +kernel
theorem dX7_ahead_4 : decode cX7_ahead 4 = .ok (.iload_n 1, 1) := by decide +kernel
theorem dX7_ahead_5 : decode cX7_ahead 5 = .ok (.invokevirtual 180, 3) := by decide +kernel
theorem dX7_ahead_8 : decode cX7_ahead 8 = .ok (.ifCond .eq 13, 3) := by decide +kernel
theorem dX7_ahead_11 : decode cX7_ahead 11 = .ok (.iload_n 2, 1) := by decide +kernel
theorem dX7_ahead_12 : decode cX7_ahead 12 = .ok (.ifCond .lt 9, 3) := by decide +kernel
theorem dX7_ahead_15 : decode cX7_ahead 15 = .ok (.iload_n 2, 1) := by decide +kernel
theorem dX7_ahead_16 : decode cX7_ahead 16 = .ok (.bipush 60, 2) := by decide +kernel
theorem dX7_ahead_18 : decode cX7_ahead 18 = .ok (.if_icmp .le 6, 3) := by decide +kernel
theorem dX7_ahead_21 : decode cX7_ahead 21 = .ok (.ldc 70, 2) := by decide +kernel
theorem dX7_ahead_23 : decode cX7_ahead 23 = .ok (.ireturn, 1) := by decide +kernel
theorem dX7_ahead_24 : decode cX7_ahead 24 = .ok (.aload_n 0, 1) := by decide +kernel
theorem dX7_ahead_25 : decode cX7_ahead 25 = .ok (.getfield 54, 3) := by decide +kernel
theorem dX7_ahead_28 : decode cX7_ahead 28 = .ok (.iload_n 1, 1) := by decide +kernel
theorem dX7_ahead_29 : decode cX7_ahead 29 = .ok (.iload_n 2, 1) := by decide +kernel
theorem dX7_ahead_30 : decode cX7_ahead 30 = .ok (.invokevirtual 204, 3) := by decide +kernel
theorem dX7_ahead_33 : decode cX7_ahead 33 = .ok (.ireturn, 1) := by decide +kernel
theorem dX7_roomAhead_0 : decode cX7_roomAhead 0 = .ok (.aload_n 0, 1) := by decide +kernel
theorem dX7_roomAhead_1 : decode cX7_roomAhead 1 = .ok (.getfield 34, 3) := by decide +kernel
theorem dX7_roomAhead_4 : decode cX7_roomAhead 4 = .ok (.iload_n 1, 1) := by decide +kernel
theorem dX7_roomAhead_5 : decode cX7_roomAhead 5 = .ok (.invokevirtual 170, 3) := by decide +kernel
theorem dX7_roomAhead_8 : decode cX7_roomAhead 8 = .ok (.ifCond .eq 22, 3) := by decide +kernel
theorem dX7_roomAhead_11 : decode cX7_roomAhead 11 = .ok (.iload_n 2, 1) := by decide +kernel
theorem dX7_roomAhead_12 : decode cX7_roomAhead 12 = .ok (.ifCond .lt 18, 3) := by decide +kernel
theorem dX7_roomAhead_15 : decode cX7_roomAhead 15 = .ok (.iload_n 2, 1) := by decide +kernel
theorem dX7_roomAhead_16 : decode cX7_roomAhead 16 = .ok (.bipush 60, 2) := by decide +kernel
theorem dX7_roomAhead_18 : decode cX7_roomAhead 18 = .ok (.if_icmp .gt 12, 3) := by decide +kernel
theorem dX7_roomAhead_21 : decode cX7_roomAhead 21 = .ok (.iload_n 3, 1) := by decide +kernel
theorem dX7_roomAhead_22 : decode cX7_roomAhead 22 = .ok (.ifCond .lt 8, 3) := by decide +kernel
theorem dX7_roomAhead_25 : decode cX7_roomAhead 25 = .ok (.iload_n 3, 1) := by decide +kernel
theorem dX7_roomAhead_26 : decode cX7_roomAhead 26 = .ok (.iconst 1, 1) := by decide +kernel
theorem dX7_roomAhead_27 : decode cX7_roomAhead 27 = .ok (.if_icmp .le 6, 3) := by decide +kernel
theorem dX7_roomAhead_30 : decode cX7_roomAhead 30 = .ok (.ldc 70, 2) := by decide +kernel
theorem dX7_roomAhead_32 : decode cX7_roomAhead 32 = .ok (.ireturn, 1) := by decide +kernel
theorem dX7_roomAhead_33 : decode cX7_roomAhead 33 = .ok (.iload_n 3, 1) := by decide +kernel
theorem dX7_roomAhead_34 : decode cX7_roomAhead 34 = .ok (.ifCond .ne 15, 3) := by decide +kernel
theorem dX7_roomAhead_37 : decode cX7_roomAhead 37 = .ok (.aload_n 0, 1) := by decide +kernel
theorem dX7_roomAhead_38 : decode cX7_roomAhead 38 = .ok (.getfield 54, 3) := by decide +kernel
theorem dX7_roomAhead_41 : decode cX7_roomAhead 41 = .ok (.iload_n 1, 1) := by decide +kernel
theorem dX7_roomAhead_42 : decode cX7_roomAhead 42 = .ok (.iload_n 2, 1) := by decide +kernel
theorem dX7_roomAhead_43 : decode cX7_roomAhead 43 = .ok (.invokevirtual 207, 3) := by decide +kernel
theorem dX7_roomAhead_46 : decode cX7_roomAhead 46 = .ok (.goto 12, 3) := by decide +kernel
theorem dX7_roomAhead_49 : decode cX7_roomAhead 49 = .ok (.aload_n 0, 1) := by decide +kernel
theorem dX7_roomAhead_50 : decode cX7_roomAhead 50 = .ok (.getfield 54, 3) := by decide +kernel
theorem dX7_roomAhead_53 : decode cX7_roomAhead 53 = .ok (.iload_n 1, 1) := by decide +kernel
theorem dX7_roomAhead_54 : decode cX7_roomAhead 54 = .ok (.iload_n 2, 1) := by decide +kernel
theorem dX7_roomAhead_55 : decode cX7_roomAhead 55 = .ok (.invokevirtual 210, 3) := by decide +kernel
theorem dX7_roomAhead_58 : decode cX7_roomAhead 58 = .ok (.ireturn, 1) := by decide +kernel
theorem dX7_rest_0 : decode cX7_rest 0 = .ok (.aload_n 0, 1) := by decide +kernel
theorem dX7_rest_1 : decode cX7_rest 1 = .ok (.getfield 34, 3) := by decide +kernel
theorem dX7_rest_4 : decode cX7_rest 4 = .ok (.getfield 138, 3) := by decide +kernel
theorem dX7_rest_7 : decode cX7_rest 7 = .ok (.ifCond .ne 6, 3) := by decide +kernel
theorem dX7_rest_10 : decode cX7_rest 10 = .ok (.ldc 141, 2) := by decide +kernel
theorem dX7_rest_12 : decode cX7_rest 12 = .ok (.ireturn, 1) := by decide +kernel
theorem dX7_rest_13 : decode cX7_rest 13 = .ok (.iload_n 1, 1) := by decide +kernel
theorem dX7_rest_14 : decode cX7_rest 14 = .ok (.ifCond .lt 8, 3) := by decide +kernel
theorem dX7_rest_17 : decode cX7_rest 17 = .ok (.iload_n 1, 1) := by decide +kernel
theorem dX7_rest_18 : decode cX7_rest 18 = .ok (.iconst 1, 1) := by decide +kernel
theorem dX7_rest_19 : decode cX7_rest 19 = .ok (.if_icmp .le 6, 3) := by decide +kernel
theorem dX7_rest_22 : decode cX7_rest 22 = .ok (.ldc 70, 2) := by decide +kernel
theorem dX7_rest_24 : decode cX7_rest 24 = .ok (.ireturn, 1) := by decide +kernel
theorem dX7_rest_25 : decode cX7_rest 25 = .ok (.iload_n 1, 1) := by decide +kernel
theorem dX7_rest_26 : decode cX7_rest 26 = .ok (.ifCond .ne 13, 3) := by decide +kernel
theorem dX7_rest_29 : decode cX7_rest 29 = .ok (.aload_n 0, 1) := by decide +kernel
theorem dX7_rest_30 : decode cX7_rest 30 = .ok (.getfield 54, 3) := by decide +kernel
theorem dX7_rest_33 : decode cX7_rest 33 = .ok (.invokevirtual 213, 3) := by decide +kernel
theorem dX7_rest_36 : decode cX7_rest 36 = .ok (.goto 10, 3) := by decide +kernel
theorem dX7_rest_39 : decode cX7_rest 39 = .ok (.aload_n 0, 1) := by decide +kernel
theorem dX7_rest_40 : decode cX7_rest 40 = .ok (.getfield 54, 3) := by decide +kernel
theorem dX7_rest_43 : decode cX7_rest 43 = .ok (.invokevirtual 216, 3) := by decide +kernel
theorem dX7_rest_46 : decode cX7_rest 46 = .ok (.ireturn, 1) := by decide +kernel
theorem dX7_hired_0 : decode cX7_hired 0 = .ok (.aload_n 0, 1) := by decide +kernel
theorem dX7_hired_1 : decode cX7_hired 1 = .ok (.iload_n 1, 1) := by decide +kernel
theorem dX7_hired_2 : decode cX7_hired 2 = .ok (.iload_n 2, 1) := by decide +kernel
theorem dX7_hired_3 : decode cX7_hired 3 = .ok (.iload_n 3, 1) := by decide +kernel
theorem dX7_hired_4 : decode cX7_hired 4 = .ok (.iconst 0, 1) := by decide +kernel
theorem dX7_hired_5 : decode cX7_hired 5 = .ok (.invokevirtual 219, 3) := by decide +kernel
theorem dX7_hired_8 : decode cX7_hired 8 = .ok (.ireturn, 1) := by decide +kernel
theorem dX7_empty_0 : decode cX7_empty 0 = .ok (.aload_n 0, 1) := by decide +kernel
theorem dX7_empty_1 : decode cX7_empty 1 = .ok (.iload_n 1, 1) := by decide +kernel
theorem dX7_empty_2 : decode cX7_empty 2 = .ok (.iload_n 2, 1) := by decide +kernel
theorem dX7_empty_3 : decode cX7_empty 3 = .ok (.iload_n 3, 1) := by decide +kernel
theorem dX7_empty_4 : decode cX7_empty 4 = .ok (.iconst 1, 1) := by decide +kernel
theorem dX7_empty_5 : decode cX7_empty 5 = .ok (.invokevirtual 219, 3) := by decide +kernel
theorem dX7_empty_8 : decode cX7_empty 8 = .ok (.ireturn, 1) := by decide +kernel
theorem dX7_apart_0 : decode cX7_apart 0 = .ok (.aload_n 0, 1) := by decide +kernel
theorem dX7_apart_1 : decode cX7_apart 1 = .ok (.getfield 34, 3) := by decide +kernel
theorem dX7_apart_4 : decode cX7_apart 4 = .ok (.iload_n 1, 1) := by decide +kernel
theorem dX7_apart_5 : decode cX7_apart 5 = .ok (.invokevirtual 180, 3) := by decide +kernel
theorem dX7_apart_8 : decode cX7_apart 8 = .ok (.ifCond .eq 30, 3) := by decide +kernel
theorem dX7_apart_11 : decode cX7_apart 11 = .ok (.aload_n 0, 1) := by decide +kernel
theorem dX7_apart_12 : decode cX7_apart 12 = .ok (.getfield 34, 3) := by decide +kernel
theorem dX7_apart_15 : decode cX7_apart 15 = .ok (.iload_n 2, 1) := by decide +kernel
theorem dX7_apart_16 : decode cX7_apart 16 = .ok (.invokevirtual 180, 3) := by decide +kernel
theorem dX7_apart_19 : decode cX7_apart 19 = .ok (.ifCond .eq 19, 3) := by decide +kernel
theorem dX7_apart_22 : decode cX7_apart 22 = .ok (.iload_n 1, 1) := by decide +kernel
theorem dX7_apart_23 : decode cX7_apart 23 = .ok (.iload_n 2, 1) := by decide +kernel
theorem dX7_apart_24 : decode cX7_apart 24 = .ok (.if_icmp .eq 14, 3) := by decide +kernel
theorem dX7_apart_27 : decode cX7_apart 27 = .ok (.iload_n 3, 1) := by decide +kernel
theorem dX7_apart_28 : decode cX7_apart 28 = .ok (.iconst 1, 1) := by decide +kernel
theorem dX7_apart_29 : decode cX7_apart 29 = .ok (.if_icmp .lt 9, 3) := by decide +kernel
theorem dX7_apart_32 : decode cX7_apart 32 = .ok (.iload_n 3, 1) := by decide +kernel
theorem dX7_apart_33 : decode cX7_apart 33 = .ok (.bipush 60, 2) := by decide +kernel
theorem dX7_apart_35 : decode cX7_apart 35 = .ok (.if_icmp .le 6, 3) := by decide +kernel
theorem dX7_apart_38 : decode cX7_apart 38 = .ok (.ldc 70, 2) := by decide +kernel
theorem dX7_apart_40 : decode cX7_apart 40 = .ok (.ireturn, 1) := by decide +kernel
theorem dX7_apart_41 : decode cX7_apart 41 = .ok (.aload_n 0, 1) := by decide +kernel
theorem dX7_apart_42 : decode cX7_apart 42 = .ok (.getfield 54, 3) := by decide +kernel
theorem dX7_apart_45 : decode cX7_apart 45 = .ok (.iload_n 1, 1) := by decide +kernel
theorem dX7_apart_46 : decode cX7_apart 46 = .ok (.iload_n 2, 1) := by decide +kernel
theorem dX7_apart_47 : decode cX7_apart 47 = .ok (.iload_n 3, 1) := by decide +kernel
theorem dX7_apart_48 : decode cX7_apart 48 = .ok (.invokevirtual 223, 3) := by decide +kernel
theorem dX7_apart_51 : decode cX7_apart 51 = .ok (.ireturn, 1) := by decide +kernel
theorem dX7_began_0 : decode cX7_began 0 = .ok (.aload_n 0, 1) := by decide +kernel
theorem dX7_began_1 : decode cX7_began 1 = .ok (.getfield 34, 3) := by decide +kernel
theorem dX7_began_4 : decode cX7_began 4 = .ok (.getfield 138, 3) := by decide +kernel
theorem dX7_began_7 : decode cX7_began 7 = .ok (.ifCond .ne 6, 3) := by decide +kernel
theorem dX7_began_10 : decode cX7_began 10 = .ok (.ldc 141, 2) := by decide +kernel
theorem dX7_began_12 : decode cX7_began 12 = .ok (.ireturn, 1) := by decide +kernel
theorem dX7_began_13 : decode cX7_began 13 = .ok (.iload_n 1, 1) := by decide +kernel
theorem dX7_began_14 : decode cX7_began 14 = .ok (.iconst (-1), 1) := by decide +kernel
theorem dX7_began_15 : decode cX7_began 15 = .ok (.if_icmp .eq 14, 3) := by decide +kernel
theorem dX7_began_18 : decode cX7_began 18 = .ok (.aload_n 0, 1) := by decide +kernel
theorem dX7_began_19 : decode cX7_began 19 = .ok (.getfield 34, 3) := by decide +kernel
theorem dX7_began_22 : decode cX7_began 22 = .ok (.iload_n 1, 1) := by decide +kernel
theorem dX7_began_23 : decode cX7_began 23 = .ok (.invokevirtual 180, 3) := by decide +kernel
theorem dX7_began_26 : decode cX7_began 26 = .ok (.ifCond .eq 13, 3) := by decide +kernel
theorem dX7_began_29 : decode cX7_began 29 = .ok (.iload_n 2, 1) := by decide +kernel
theorem dX7_began_30 : decode cX7_began 30 = .ok (.ifCond .lt 9, 3) := by decide +kernel
theorem dX7_began_33 : decode cX7_began 33 = .ok (.iload_n 2, 1) := by decide +kernel
theorem dX7_began_34 : decode cX7_began 34 = .ok (.bipush 9, 2) := by decide +kernel
theorem dX7_began_36 : decode cX7_began 36 = .ok (.if_icmp .le 6, 3) := by decide +kernel
theorem dX7_began_39 : decode cX7_began 39 = .ok (.ldc 70, 2) := by decide +kernel
theorem dX7_began_41 : decode cX7_began 41 = .ok (.ireturn, 1) := by decide +kernel
theorem dX7_began_42 : decode cX7_began 42 = .ok (.aload_n 0, 1) := by decide +kernel
end
section
/-! decode rows: X7 -/
theorem dX7_began_43 : decode cX7_began 43 = .ok (.getfield 54, 3) := by decide +kernel
theorem dX7_began_46 : decode cX7_began 46 = .ok (.iload_n 2, 1) := by decide +kernel
theorem dX7_began_47 : decode cX7_began 47 = .ok (.invokevirtual 227, 3) := by decide +kernel
theorem dX7_began_50 : decode cX7_began 50 = .ok (.iload_n 1, 1) := by decide +kernel
theorem dX7_began_51 : decode cX7_began 51 = .ok (.iconst (-1), 1) := by decide +kernel
theorem dX7_began_52 : decode cX7_began 52 = .ok (.if_icmp .ne 11, 3) := by decide +kernel
theorem dX7_began_55 : decode cX7_began 55 = .ok (.aload_n 0, 1) := by decide +kernel
theorem dX7_began_56 : decode cX7_began 56 = .ok (.getfield 54, 3) := by decide +kernel
theorem dX7_began_59 : decode cX7_began 59 = .ok (.getfield 230, 3) := by decide +kernel
theorem dX7_began_62 : decode cX7_began 62 = .ok (.ireturn, 1) := by decide +kernel
theorem dX7_began_63 : decode cX7_began 63 = .ok (.aload_n 0, 1) := by decide +kernel
theorem dX7_began_64 : decode cX7_began 64 = .ok (.getfield 54, 3) := by decide +kernel
theorem dX7_began_67 : decode cX7_began 67 = .ok (.getfield 230, 3) := by decide +kernel
theorem dX7_began_70 : decode cX7_began 70 = .ok (.ifCond .ne 8, 3) := by decide +kernel
theorem dX7_began_73 : decode cX7_began 73 = .ok (.ldc 233, 2) := by decide +kernel
theorem dX7_began_75 : decode cX7_began 75 = .ok (.goto 12, 3) := by decide +kernel
theorem dX7_began_78 : decode cX7_began 78 = .ok (.aload_n 0, 1) := by decide +kernel
theorem dX7_began_79 : decode cX7_began 79 = .ok (.getfield 54, 3) := by decide +kernel
theorem dX7_began_82 : decode cX7_began 82 = .ok (.getfield 234, 3) := by decide +kernel
theorem dX7_began_85 : decode cX7_began 85 = .ok (.iload_n 1, 1) := by decide +kernel
theorem dX7_began_86 : decode cX7_began 86 = .ok (.iaload, 1) := by decide +kernel
theorem dX7_began_87 : decode cX7_began 87 = .ok (.ireturn, 1) := by decide +kernel
theorem dX7_image_0 : decode cX7_image 0 = .ok (.iload_n 1, 1) := by decide +kernel
theorem dX7_image_1 : decode cX7_image 1 = .ok (.ifCond .lt 8, 3) := by decide +kernel
theorem dX7_image_4 : decode cX7_image 4 = .ok (.iload_n 1, 1) := by decide +kernel
theorem dX7_image_5 : decode cX7_image 5 = .ok (.iconst 2, 1) := by decide +kernel
theorem dX7_image_6 : decode cX7_image 6 = .ok (.if_icmp .lt 6, 3) := by decide +kernel
theorem dX7_image_9 : decode cX7_image 9 = .ok (.ldc 70, 2) := by decide +kernel
theorem dX7_image_11 : decode cX7_image 11 = .ok (.ireturn, 1) := by decide +kernel
theorem dX7_image_12 : decode cX7_image 12 = .ok (.aload_n 0, 1) := by decide +kernel
theorem dX7_image_13 : decode cX7_image 13 = .ok (.getfield 34, 3) := by decide +kernel
theorem dX7_image_16 : decode cX7_image 16 = .ok (.getfield 138, 3) := by decide +kernel
theorem dX7_image_19 : decode cX7_image 19 = .ok (.ifCond .ne 6, 3) := by decide +kernel
theorem dX7_image_22 : decode cX7_image 22 = .ok (.ldc 141, 2) := by decide +kernel
theorem dX7_image_24 : decode cX7_image 24 = .ok (.ireturn, 1) := by decide +kernel
theorem dX7_image_25 : decode cX7_image 25 = .ok (.aload_n 0, 1) := by decide +kernel
theorem dX7_image_26 : decode cX7_image 26 = .ok (.getfield 38, 3) := by decide +kernel
theorem dX7_image_29 : decode cX7_image 29 = .ok (.iload_n 1, 1) := by decide +kernel
theorem dX7_image_30 : decode cX7_image 30 = .ok (.aaload, 1) := by decide +kernel
theorem dX7_image_31 : decode cX7_image 31 = .ok (.aload_n 0, 1) := by decide +kernel
theorem dX7_image_32 : decode cX7_image 32 = .ok (.getfield 34, 3) := by decide +kernel
theorem dX7_image_35 : decode cX7_image 35 = .ok (.invokevirtual 132, 3) := by decide +kernel
theorem dX7_image_38 : decode cX7_image 38 = .ok (.iconst 1, 1) := by decide +kernel
theorem dX7_image_39 : decode cX7_image 39 = .ok (.ireturn, 1) := by decide +kernel
theorem dX7_restore_0 : decode cX7_restore 0 = .ok (.iload_n 1, 1) := by decide +kernel
theorem dX7_restore_1 : decode cX7_restore 1 = .ok (.ifCond .lt 8, 3) := by decide +kernel
theorem dX7_restore_4 : decode cX7_restore 4 = .ok (.iload_n 1, 1) := by decide +kernel
theorem dX7_restore_5 : decode cX7_restore 5 = .ok (.iconst 2, 1) := by decide +kernel
theorem dX7_restore_6 : decode cX7_restore 6 = .ok (.if_icmp .lt 6, 3) := by decide +kernel
theorem dX7_restore_9 : decode cX7_restore 9 = .ok (.ldc 70, 2) := by decide +kernel
theorem dX7_restore_11 : decode cX7_restore 11 = .ok (.ireturn, 1) := by decide +kernel
theorem dX7_restore_12 : decode cX7_restore 12 = .ok (.aload_n 0, 1) := by decide +kernel
theorem dX7_restore_13 : decode cX7_restore 13 = .ok (.getfield 38, 3) := by decide +kernel
theorem dX7_restore_16 : decode cX7_restore 16 = .ok (.iload_n 1, 1) := by decide +kernel
theorem dX7_restore_17 : decode cX7_restore 17 = .ok (.aaload, 1) := by decide +kernel
theorem dX7_restore_18 : decode cX7_restore 18 = .ok (.getfield 138, 3) := by decide +kernel
theorem dX7_restore_21 : decode cX7_restore 21 = .ok (.ifCond .ne 6, 3) := by decide +kernel
theorem dX7_restore_24 : decode cX7_restore 24 = .ok (.ldc 141, 2) := by decide +kernel
theorem dX7_restore_26 : decode cX7_restore 26 = .ok (.ireturn, 1) := by decide +kernel
theorem dX7_restore_27 : decode cX7_restore 27 = .ok (.aload_n 0, 1) := by decide +kernel
theorem dX7_restore_28 : decode cX7_restore 28 = .ok (.getfield 34, 3) := by decide +kernel
theorem dX7_restore_31 : decode cX7_restore 31 = .ok (.aload_n 0, 1) := by decide +kernel
theorem dX7_restore_32 : decode cX7_restore 32 = .ok (.getfield 38, 3) := by decide +kernel
theorem dX7_restore_35 : decode cX7_restore 35 = .ok (.iload_n 1, 1) := by decide +kernel
theorem dX7_restore_36 : decode cX7_restore 36 = .ok (.aaload, 1) := by decide +kernel
theorem dX7_restore_37 : decode cX7_restore 37 = .ok (.invokevirtual 132, 3) := by decide +kernel
theorem dX7_restore_40 : decode cX7_restore 40 = .ok (.aload_n 0, 1) := by decide +kernel
theorem dX7_restore_41 : decode cX7_restore 41 = .ok (.getfield 45, 3) := by decide +kernel
theorem dX7_restore_44 : decode cX7_restore 44 = .ok (.invokevirtual 135, 3) := by decide +kernel
theorem dX7_restore_47 : decode cX7_restore 47 = .ok (.iconst 1, 1) := by decide +kernel
theorem dX7_restore_48 : decode cX7_restore 48 = .ok (.ireturn, 1) := by decide +kernel
theorem dX7_kind_0 : decode cX7_kind 0 = .ok (.aload_n 0, 1) := by decide +kernel
theorem dX7_kind_1 : decode cX7_kind 1 = .ok (.getfield 34, 3) := by decide +kernel
theorem dX7_kind_4 : decode cX7_kind 4 = .ok (.iload_n 1, 1) := by decide +kernel
theorem dX7_kind_5 : decode cX7_kind 5 = .ok (.invokevirtual 180, 3) := by decide +kernel
theorem dX7_kind_8 : decode cX7_kind 8 = .ok (.ifCond .eq 15, 3) := by decide +kernel
theorem dX7_kind_11 : decode cX7_kind 11 = .ok (.aload_n 0, 1) := by decide +kernel
theorem dX7_kind_12 : decode cX7_kind 12 = .ok (.getfield 34, 3) := by decide +kernel
theorem dX7_kind_15 : decode cX7_kind 15 = .ok (.getfield 237, 3) := by decide +kernel
theorem dX7_kind_18 : decode cX7_kind 18 = .ok (.iload_n 1, 1) := by decide +kernel
theorem dX7_kind_19 : decode cX7_kind 19 = .ok (.iaload, 1) := by decide +kernel
theorem dX7_kind_20 : decode cX7_kind 20 = .ok (.goto 5, 3) := by decide +kernel
theorem dX7_kind_23 : decode cX7_kind 23 = .ok (.ldc 70, 2) := by decide +kernel
theorem dX7_kind_25 : decode cX7_kind 25 = .ok (.ireturn, 1) := by decide +kernel
theorem dX7_as_0 : decode cX7_as 0 = .ok (.aload_n 0, 1) := by decide +kernel
theorem dX7_as_1 : decode cX7_as 1 = .ok (.getfield 34, 3) := by decide +kernel
theorem dX7_as_4 : decode cX7_as 4 = .ok (.iload_n 1, 1) := by decide +kernel
theorem dX7_as_5 : decode cX7_as 5 = .ok (.invokevirtual 180, 3) := by decide +kernel
theorem dX7_as_8 : decode cX7_as 8 = .ok (.ifCond .eq 12, 3) := by decide +kernel
theorem dX7_as_11 : decode cX7_as 11 = .ok (.iload_n 2, 1) := by decide +kernel
theorem dX7_as_12 : decode cX7_as 12 = .ok (.ifCond .lt 8, 3) := by decide +kernel
theorem dX7_as_15 : decode cX7_as 15 = .ok (.iload_n 2, 1) := by decide +kernel
theorem dX7_as_16 : decode cX7_as 16 = .ok (.iconst 5, 1) := by decide +kernel
theorem dX7_as_17 : decode cX7_as 17 = .ok (.if_icmp .le 6, 3) := by decide +kernel
theorem dX7_as_20 : decode cX7_as 20 = .ok (.ldc 70, 2) := by decide +kernel
theorem dX7_as_22 : decode cX7_as 22 = .ok (.ireturn, 1) := by decide +kernel
theorem dX7_as_23 : decode cX7_as 23 = .ok (.aload_n 0, 1) := by decide +kernel
theorem dX7_as_24 : decode cX7_as 24 = .ok (.getfield 34, 3) := by decide +kernel
theorem dX7_as_27 : decode cX7_as 27 = .ok (.getfield 237, 3) := by decide +kernel
theorem dX7_as_30 : decode cX7_as 30 = .ok (.iload_n 1, 1) := by decide +kernel
theorem dX7_as_31 : decode cX7_as 31 = .ok (.iaload, 1) := by decide +kernel
theorem dX7_as_32 : decode cX7_as 32 = .ok (.iload_n 2, 1) := by decide +kernel
theorem dX7_as_33 : decode cX7_as 33 = .ok (.invokestatic 240, 3) := by decide +kernel
theorem dX7_as_36 : decode cX7_as 36 = .ok (.ifCond .ne 9, 3) := by decide +kernel
theorem dX7_as_39 : decode cX7_as 39 = .ok (.aload_n 0, 1) := by decide +kernel
theorem dX7_as_40 : decode cX7_as 40 = .ok (.iconst 3, 1) := by decide +kernel
theorem dX7_as_41 : decode cX7_as 41 = .ok (.invokevirtual 71, 3) := by decide +kernel
theorem dX7_as_44 : decode cX7_as 44 = .ok (.ireturn, 1) := by decide +kernel
theorem dX7_as_45 : decode cX7_as 45 = .ok (.aload_n 0, 1) := by decide +kernel
theorem dX7_as_46 : decode cX7_as 46 = .ok (.iconst 0, 1) := by decide +kernel
theorem dX7_as_47 : decode cX7_as 47 = .ok (.putfield 79, 3) := by decide +kernel
theorem dX7_as_50 : decode cX7_as 50 = .ok (.iload_n 1, 1) := by decide +kernel
theorem dX7_as_51 : decode cX7_as 51 = .ok (.ireturn, 1) := by decide +kernel
theorem dX7_ask_0 : decode cX7_ask 0 = .ok (.aload_n 0, 1) := by decide +kernel
theorem dX7_ask_1 : decode cX7_ask 1 = .ok (.getfield 34, 3) := by decide +kernel
theorem dX7_ask_4 : decode cX7_ask 4 = .ok (.iload_n 1, 1) := by decide +kernel
theorem dX7_ask_5 : decode cX7_ask 5 = .ok (.invokevirtual 180, 3) := by decide +kernel
theorem dX7_ask_8 : decode cX7_ask 8 = .ok (.ifCond .eq 12, 3) := by decide +kernel
theorem dX7_ask_11 : decode cX7_ask 11 = .ok (.iload_n 2, 1) := by decide +kernel
theorem dX7_ask_12 : decode cX7_ask 12 = .ok (.ifCond .lt 8, 3) := by decide +kernel
theorem dX7_ask_15 : decode cX7_ask 15 = .ok (.iload_n 2, 1) := by decide +kernel
theorem dX7_ask_16 : decode cX7_ask 16 = .ok (.iconst 1, 1) := by decide +kernel
theorem dX7_ask_17 : decode cX7_ask 17 = .ok (.if_icmp .le 6, 3) := by decide +kernel
theorem dX7_ask_20 : decode cX7_ask 20 = .ok (.ldc 70, 2) := by decide +kernel
theorem dX7_ask_22 : decode cX7_ask 22 = .ok (.ireturn, 1) := by decide +kernel
theorem dX7_ask_23 : decode cX7_ask 23 = .ok (.aload_n 0, 1) := by decide +kernel
theorem dX7_ask_24 : decode cX7_ask 24 = .ok (.getfield 61, 3) := by decide +kernel
theorem dX7_ask_27 : decode cX7_ask 27 = .ok (.iload_n 1, 1) := by decide +kernel
theorem dX7_ask_28 : decode cX7_ask 28 = .ok (.iload_n 2, 1) := by decide +kernel
theorem dX7_ask_29 : decode cX7_ask 29 = .ok (.invokevirtual 243, 3) := by decide +kernel
theorem dX7_ask_32 : decode cX7_ask 32 = .ok (.ireturn, 1) := by decide +kernel
theorem dX7_trace_0 : decode cX7_trace 0 = .ok (.iload_n 1, 1) := by decide +kernel
theorem dX7_trace_1 : decode cX7_trace 1 = .ok (.ifCond .lt 14, 3) := by decide +kernel
theorem dX7_trace_4 : decode cX7_trace 4 = .ok (.iload_n 1, 1) := by decide +kernel
theorem dX7_trace_5 : decode cX7_trace 5 = .ok (.aload_n 0, 1) := by decide +kernel
theorem dX7_trace_6 : decode cX7_trace 6 = .ok (.getfield 61, 3) := by decide +kernel
theorem dX7_trace_9 : decode cX7_trace 9 = .ok (.getfield 246, 3) := by decide +kernel
theorem dX7_trace_12 : decode cX7_trace 12 = .ok (.if_icmp .lt 8, 3) := by decide +kernel
theorem dX7_trace_15 : decode cX7_trace 15 = .ok (.ldc 233, 2) := by decide +kernel
theorem dX7_trace_17 : decode cX7_trace 17 = .ok (.goto 12, 3) := by decide +kernel
theorem dX7_trace_20 : decode cX7_trace 20 = .ok (.aload_n 0, 1) := by decide +kernel
theorem dX7_trace_21 : decode cX7_trace 21 = .ok (.getfield 61, 3) := by decide +kernel
theorem dX7_trace_24 : decode cX7_trace 24 = .ok (.getfield 249, 3) := by decide +kernel
theorem dX7_trace_27 : decode cX7_trace 27 = .ok (.iload_n 1, 1) := by decide +kernel
theorem dX7_trace_28 : decode cX7_trace 28 = .ok (.iaload, 1) := by decide +kernel
theorem dX7_trace_29 : decode cX7_trace 29 = .ok (.ireturn, 1) := by decide +kernel
theorem dX7_count_0 : decode cX7_count 0 = .ok (.iload_n 1, 1) := by decide +kernel
theorem dX7_count_1 : decode cX7_count 1 = .ok (.tableswitch 96 0 6 #[43, 48, 56, 64, 72, 80, 88], 43) := by decide +kernel
theorem dX7_count_44 : decode cX7_count 44 = .ok (.aload_n 0, 1) := by decide +kernel
theorem dX7_count_45 : decode cX7_count 45 = .ok (.invokevirtual 252, 3) := by decide +kernel
theorem dX7_count_48 : decode cX7_count 48 = .ok (.ireturn, 1) := by decide +kernel
theorem dX7_count_49 : decode cX7_count 49 = .ok (.aload_n 0, 1) := by decide +kernel
theorem dX7_count_50 : decode cX7_count 50 = .ok (.getfield 34, 3) := by decide +kernel
theorem dX7_count_53 : decode cX7_count 53 = .ok (.getfield 138, 3) := by decide +kernel
theorem dX7_count_56 : decode cX7_count 56 = .ok (.ireturn, 1) := by decide +kernel
theorem dX7_count_57 : decode cX7_count 57 = .ok (.aload_n 0, 1) := by decide +kernel
theorem dX7_count_58 : decode cX7_count 58 = .ok (.getfield 34, 3) := by decide +kernel
theorem dX7_count_61 : decode cX7_count 61 = .ok (.getfield 152, 3) := by decide +kernel
theorem dX7_count_64 : decode cX7_count 64 = .ok (.ireturn, 1) := by decide +kernel
theorem dX7_count_65 : decode cX7_count 65 = .ok (.aload_n 0, 1) := by decide +kernel
theorem dX7_count_66 : decode cX7_count 66 = .ok (.getfield 34, 3) := by decide +kernel
theorem dX7_count_69 : decode cX7_count 69 = .ok (.getfield 142, 3) := by decide +kernel
theorem dX7_count_72 : decode cX7_count 72 = .ok (.ireturn, 1) := by decide +kernel
theorem dX7_count_73 : decode cX7_count 73 = .ok (.aload_n 0, 1) := by decide +kernel
theorem dX7_count_74 : decode cX7_count 74 = .ok (.getfield 45, 3) := by decide +kernel
theorem dX7_count_77 : decode cX7_count 77 = .ok (.getfield 186, 3) := by decide +kernel
theorem dX7_count_80 : decode cX7_count 80 = .ok (.ireturn, 1) := by decide +kernel
theorem dX7_count_81 : decode cX7_count 81 = .ok (.aload_n 0, 1) := by decide +kernel
theorem dX7_count_82 : decode cX7_count 82 = .ok (.getfield 34, 3) := by decide +kernel
theorem dX7_count_85 : decode cX7_count 85 = .ok (.invokevirtual 167, 3) := by decide +kernel
theorem dX7_count_88 : decode cX7_count 88 = .ok (.ireturn, 1) := by decide +kernel
theorem dX7_count_89 : decode cX7_count 89 = .ok (.aload_n 0, 1) := by decide +kernel
theorem dX7_count_90 : decode cX7_count 90 = .ok (.getfield 18, 3) := by decide +kernel
theorem dX7_count_93 : decode cX7_count 93 = .ok (.getfield 111, 3) := by decide +kernel
theorem dX7_count_96 : decode cX7_count 96 = .ok (.ireturn, 1) := by decide +kernel
theorem dX7_count_97 : decode cX7_count 97 = .ok (.ldc 70, 2) := by decide +kernel
theorem dX7_count_99 : decode cX7_count 99 = .ok (.ireturn, 1) := by decide +kernel
theorem dX7_status_0 : decode cX7_status 0 = .ok (.aload_n 0, 1) := by decide +kernel
theorem dX7_status_1 : decode cX7_status 1 = .ok (.getfield 79, 3) := by decide +kernel
theorem dX7_status_4 : decode cX7_status 4 = .ok (.ireturn, 1) := by decide +kernel
theorem dX7_isRow_0 : decode cX7_isRow 0 = .ok (.iload_n 0, 1) := by decide +kernel
theorem dX7_isRow_1 : decode cX7_isRow 1 = .ok (.ifCond .lt 13, 3) := by decide +kernel
theorem dX7_isRow_4 : decode cX7_isRow 4 = .ok (.iload_n 0, 1) := by decide +kernel
theorem dX7_isRow_5 : decode cX7_isRow 5 = .ok (.bipush 8, 2) := by decide +kernel
theorem dX7_isRow_7 : decode cX7_isRow 7 = .ok (.if_icmp .ge 7, 3) := by decide +kernel
theorem dX7_isRow_10 : decode cX7_isRow 10 = .ok (.iconst 1, 1) := by decide +kernel
theorem dX7_isRow_11 : decode cX7_isRow 11 = .ok (.goto 4, 3) := by decide +kernel
theorem dX7_isRow_14 : decode cX7_isRow 14 = .ok (.iconst 0, 1) := by decide +kernel
theorem dX7_isRow_15 : decode cX7_isRow 15 = .ok (.ireturn, 1) := by decide +kernel
theorem dX7_found_0 : decode cX7_found 0 = .ok (.aload_n 0, 1) := by decide +kernel
theorem dX7_found_1 : decode cX7_found 1 = .ok (.iload_n 1, 1) := by decide +kernel
theorem dX7_found_2 : decode cX7_found 2 = .ok (.putfield 79, 3) := by decide +kernel
theorem dX7_found_5 : decode cX7_found 5 = .ok (.ldc 255, 2) := by decide +kernel
theorem dX7_found_7 : decode cX7_found 7 = .ok (.iload_n 1, 1) := by decide +kernel
theorem dX7_found_8 : decode cX7_found 8 = .ok (.isub, 1) := by decide +kernel
theorem dX7_found_9 : decode cX7_found 9 = .ok (.ireturn, 1) := by decide +kernel
theorem dX7_countRows_0 : decode cX7_countRows 0 = .ok (.iconst 0, 1) := by decide +kernel
theorem dX7_countRows_1 : decode cX7_countRows 1 = .ok (.istore_n 1, 1) := by decide +kernel
theorem dX7_countRows_2 : decode cX7_countRows 2 = .ok (.iconst 0, 1) := by decide +kernel
theorem dX7_countRows_3 : decode cX7_countRows 3 = .ok (.istore_n 2, 1) := by decide +kernel
theorem dX7_countRows_4 : decode cX7_countRows 4 = .ok (.iload_n 2, 1) := by decide +kernel
theorem dX7_countRows_5 : decode cX7_countRows 5 = .ok (.bipush 8, 2) := by decide +kernel
theorem dX7_countRows_7 : decode cX7_countRows 7 = .ok (.if_icmp .ge 24, 3) := by decide +kernel
theorem dX7_countRows_10 : decode cX7_countRows 10 = .ok (.aload_n 0, 1) := by decide +kernel
theorem dX7_countRows_11 : decode cX7_countRows 11 = .ok (.getfield 11, 3) := by decide +kernel
theorem dX7_countRows_14 : decode cX7_countRows 14 = .ok (.iload_n 2, 1) := by decide +kernel
theorem dX7_countRows_15 : decode cX7_countRows 15 = .ok (.aaload, 1) := by decide +kernel
theorem dX7_countRows_16 : decode cX7_countRows 16 = .ok (.getfield 83, 3) := by decide +kernel
theorem dX7_countRows_19 : decode cX7_countRows 19 = .ok (.ifCond .eq 6, 3) := by decide +kernel
theorem dX7_countRows_22 : decode cX7_countRows 22 = .ok (.iinc 1 1, 3) := by decide +kernel
theorem dX7_countRows_25 : decode cX7_countRows 25 = .ok (.iinc 2 1, 3) := by decide +kernel
theorem dX7_countRows_28 : decode cX7_countRows 28 = .ok (.goto (-24), 3) := by decide +kernel
theorem dX7_countRows_31 : decode cX7_countRows 31 = .ok (.iload_n 1, 1) := by decide +kernel
theorem dX7_countRows_32 : decode cX7_countRows 32 = .ok (.ireturn, 1) := by decide +kernel
theorem dX7_tooManyHeads_0 : decode cX7_tooManyHeads 0 = .ok (.iconst 0, 1) := by decide +kernel
theorem dX7_tooManyHeads_1 : decode cX7_tooManyHeads 1 = .ok (.istore 4, 2) := by decide +kernel
theorem dX7_tooManyHeads_3 : decode cX7_tooManyHeads 3 = .ok (.iload 4, 2) := by decide +kernel
theorem dX7_tooManyHeads_5 : decode cX7_tooManyHeads 5 = .ok (.aload_n 0, 1) := by decide +kernel
theorem dX7_tooManyHeads_6 : decode cX7_tooManyHeads 6 = .ok (.getfield 34, 3) := by decide +kernel
theorem dX7_tooManyHeads_9 : decode cX7_tooManyHeads 9 = .ok (.getfield 152, 3) := by decide +kernel
theorem dX7_tooManyHeads_12 : decode cX7_tooManyHeads 12 = .ok (.if_icmp .ge 35, 3) := by decide +kernel
theorem dX7_tooManyHeads_15 : decode cX7_tooManyHeads 15 = .ok (.aload_n 0, 1) := by decide +kernel
theorem dX7_tooManyHeads_16 : decode cX7_tooManyHeads 16 = .ok (.getfield 34, 3) := by decide +kernel
theorem dX7_tooManyHeads_19 : decode cX7_tooManyHeads 19 = .ok (.getfield 183, 3) := by decide +kernel
theorem dX7_tooManyHeads_22 : decode cX7_tooManyHeads 22 = .ok (.iload 4, 2) := by decide +kernel
theorem dX7_tooManyHeads_24 : decode cX7_tooManyHeads 24 = .ok (.iaload, 1) := by decide +kernel
theorem dX7_tooManyHeads_25 : decode cX7_tooManyHeads 25 = .ok (.aload_n 1, 1) := by decide +kernel
theorem dX7_tooManyHeads_26 : decode cX7_tooManyHeads 26 = .ok (.iload_n 2, 1) := by decide +kernel
theorem dX7_tooManyHeads_27 : decode cX7_tooManyHeads 27 = .ok (.iload_n 3, 1) := by decide +kernel
theorem dX7_tooManyHeads_28 : decode cX7_tooManyHeads 28 = .ok (.iload 4, 2) := by decide +kernel
theorem dX7_tooManyHeads_30 : decode cX7_tooManyHeads 30 = .ok (.invokevirtual 256, 3) := by decide +kernel
theorem dX7_tooManyHeads_33 : decode cX7_tooManyHeads 33 = .ok (.iadd, 1) := by decide +kernel
theorem dX7_tooManyHeads_34 : decode cX7_tooManyHeads 34 = .ok (.bipush 99, 2) := by decide +kernel
theorem dX7_tooManyHeads_36 : decode cX7_tooManyHeads 36 = .ok (.if_icmp .le 5, 3) := by decide +kernel
theorem dX7_tooManyHeads_39 : decode cX7_tooManyHeads 39 = .ok (.iconst 1, 1) := by decide +kernel
theorem dX7_tooManyHeads_40 : decode cX7_tooManyHeads 40 = .ok (.ireturn, 1) := by decide +kernel
theorem dX7_tooManyHeads_41 : decode cX7_tooManyHeads 41 = .ok (.iinc 4 1, 3) := by decide +kernel
theorem dX7_tooManyHeads_44 : decode cX7_tooManyHeads 44 = .ok (.goto (-41), 3) := by decide +kernel
theorem dX7_tooManyHeads_47 : decode cX7_tooManyHeads 47 = .ok (.iconst 0, 1) := by decide +kernel
theorem dX7_tooManyHeads_48 : decode cX7_tooManyHeads 48 = .ok (.ireturn, 1) := by decide +kernel
theorem dX7_fewest_0 : decode cX7_fewest 0 = .ok (.aload_n 0, 1) := by decide +kernel
theorem dX7_fewest_1 : decode cX7_fewest 1 = .ok (.getfield 34, 3) := by decide +kernel
theorem dX7_fewest_4 : decode cX7_fewest 4 = .ok (.iload_n 1, 1) := by decide +kernel
theorem dX7_fewest_5 : decode cX7_fewest 5 = .ok (.invokevirtual 170, 3) := by decide +kernel
theorem dX7_fewest_8 : decode cX7_fewest 8 = .ok (.ifCond .eq 23, 3) := by decide +kernel
theorem dX7_fewest_11 : decode cX7_fewest 11 = .ok (.iload_n 2, 1) := by decide +kernel
theorem dX7_fewest_12 : decode cX7_fewest 12 = .ok (.iconst 1, 1) := by decide +kernel
theorem dX7_fewest_13 : decode cX7_fewest 13 = .ok (.if_icmp .lt 18, 3) := by decide +kernel
theorem dX7_fewest_16 : decode cX7_fewest 16 = .ok (.iload_n 2, 1) := by decide +kernel
theorem dX7_fewest_17 : decode cX7_fewest 17 = .ok (.bipush 20, 2) := by decide +kernel
theorem dX7_fewest_19 : decode cX7_fewest 19 = .ok (.if_icmp .gt 12, 3) := by decide +kernel
theorem dX7_fewest_22 : decode cX7_fewest 22 = .ok (.iload_n 3, 1) := by decide +kernel
theorem dX7_fewest_23 : decode cX7_fewest 23 = .ok (.ifCond .lt 8, 3) := by decide +kernel
theorem dX7_fewest_26 : decode cX7_fewest 26 = .ok (.iload_n 3, 1) := by decide +kernel
theorem dX7_fewest_27 : decode cX7_fewest 27 = .ok (.iconst 1, 1) := by decide +kernel
theorem dX7_fewest_28 : decode cX7_fewest 28 = .ok (.if_icmp .le 6, 3) := by decide +kernel
theorem dX7_fewest_31 : decode cX7_fewest 31 = .ok (.ldc 70, 2) := by decide +kernel
theorem dX7_fewest_33 : decode cX7_fewest 33 = .ok (.ireturn, 1) := by decide +kernel
theorem dX7_fewest_34 : decode cX7_fewest 34 = .ok (.aload_n 0, 1) := by decide +kernel
theorem dX7_fewest_35 : decode cX7_fewest 35 = .ok (.getfield 54, 3) := by decide +kernel
theorem dX7_fewest_38 : decode cX7_fewest 38 = .ok (.iload_n 1, 1) := by decide +kernel
theorem dX7_fewest_39 : decode cX7_fewest 39 = .ok (.iload_n 2, 1) := by decide +kernel
theorem dX7_fewest_40 : decode cX7_fewest 40 = .ok (.iload 4, 2) := by decide +kernel
theorem dX7_fewest_42 : decode cX7_fewest 42 = .ok (.invokevirtual 259, 3) := by decide +kernel
theorem dX7_fewest_45 : decode cX7_fewest 45 = .ok (.ifCond .ne 6, 3) := by decide +kernel
theorem dX7_fewest_48 : decode cX7_fewest 48 = .ok (.ldc 233, 2) := by decide +kernel
theorem dX7_fewest_50 : decode cX7_fewest 50 = .ok (.ireturn, 1) := by decide +kernel
theorem dX7_fewest_51 : decode cX7_fewest 51 = .ok (.iload_n 3, 1) := by decide +kernel
theorem dX7_fewest_52 : decode cX7_fewest 52 = .ok (.ifCond .ne 13, 3) := by decide +kernel
theorem dX7_fewest_55 : decode cX7_fewest 55 = .ok (.aload_n 0, 1) := by decide +kernel
theorem dX7_fewest_56 : decode cX7_fewest 56 = .ok (.getfield 54, 3) := by decide +kernel
theorem dX7_fewest_59 : decode cX7_fewest 59 = .ok (.getfield 263, 3) := by decide +kernel
theorem dX7_fewest_62 : decode cX7_fewest 62 = .ok (.goto 10, 3) := by decide +kernel
theorem dX7_fewest_65 : decode cX7_fewest 65 = .ok (.aload_n 0, 1) := by decide +kernel
theorem dX7_fewest_66 : decode cX7_fewest 66 = .ok (.getfield 54, 3) := by decide +kernel
theorem dX7_fewest_69 : decode cX7_fewest 69 = .ok (.getfield 266, 3) := by decide +kernel
theorem dX7_fewest_72 : decode cX7_fewest 72 = .ok (.ireturn, 1) := by decide +kernel
theorem dX7_isA_0 : decode cX7_isA 0 = .ok (.iload_n 0, 1) := by decide +kernel
theorem dX7_isA_1 : decode cX7_isA 1 = .ok (.istore_n 2, 1) := by decide +kernel
theorem dX7_isA_2 : decode cX7_isA 2 = .ok (.iconst 0, 1) := by decide +kernel
theorem dX7_isA_3 : decode cX7_isA 3 = .ok (.istore_n 3, 1) := by decide +kernel
theorem dX7_isA_4 : decode cX7_isA 4 = .ok (.iload_n 3, 1) := by decide +kernel
theorem dX7_isA_5 : decode cX7_isA 5 = .ok (.getstatic 269, 3) := by decide +kernel
theorem dX7_isA_8 : decode cX7_isA 8 = .ok (.arraylength, 1) := by decide +kernel
theorem dX7_isA_9 : decode cX7_isA 9 = .ok (.if_icmp .ge 24, 3) := by decide +kernel
theorem dX7_isA_12 : decode cX7_isA 12 = .ok (.iload_n 2, 1) := by decide +kernel
theorem dX7_isA_13 : decode cX7_isA 13 = .ok (.iload_n 1, 1) := by decide +kernel
theorem dX7_isA_14 : decode cX7_isA 14 = .ok (.if_icmp .eq 19, 3) := by decide +kernel
theorem dX7_isA_17 : decode cX7_isA 17 = .ok (.iload_n 2, 1) := by decide +kernel
theorem dX7_isA_18 : decode cX7_isA 18 = .ok (.ifCond .le 15, 3) := by decide +kernel
theorem dX7_isA_21 : decode cX7_isA 21 = .ok (.getstatic 269, 3) := by decide +kernel
theorem dX7_isA_24 : decode cX7_isA 24 = .ok (.iload_n 2, 1) := by decide +kernel
theorem dX7_isA_25 : decode cX7_isA 25 = .ok (.iaload, 1) := by decide +kernel
theorem dX7_isA_26 : decode cX7_isA 26 = .ok (.istore_n 2, 1) := by decide +kernel
theorem dX7_isA_27 : decode cX7_isA 27 = .ok (.iinc 3 1, 3) := by decide +kernel
theorem dX7_isA_30 : decode cX7_isA 30 = .ok (.goto (-26), 3) := by decide +kernel
theorem dX7_isA_33 : decode cX7_isA 33 = .ok (.iload_n 2, 1) := by decide +kernel
theorem dX7_isA_34 : decode cX7_isA 34 = .ok (.iload_n 1, 1) := by decide +kernel
theorem dX7_isA_35 : decode cX7_isA 35 = .ok (.if_icmp .ne 7, 3) := by decide +kernel
theorem dX7_isA_38 : decode cX7_isA 38 = .ok (.iconst 1, 1) := by decide +kernel
theorem dX7_isA_39 : decode cX7_isA 39 = .ok (.goto 4, 3) := by decide +kernel
theorem dX7_isA_42 : decode cX7_isA 42 = .ok (.iconst 0, 1) := by decide +kernel
theorem dX7_isA_43 : decode cX7_isA 43 = .ok (.ireturn, 1) := by decide +kernel
end
section
/-! decode rows: X8 -/
theorem dX8_init_0 : decode cX8_init 0 = .ok (.aload_n 0, 1) := by decide +kernel
theorem dX8_init_1 : decode cX8_init 1 = .ok (.invokespecial 1, 3) := by decide +kernel
theorem dX8_init_4 : decode cX8_init 4 = .ok (.aload_n 0, 1) := by decide +kernel
theorem dX8_init_5 : decode cX8_init 5 = .ok (.bipush 8, 2) := by decide +kernel
theorem dX8_init_7 : decode cX8_init 7 = .ok (.newarray .int, 2) := by decide +kernel
theorem dX8_init_9 : decode cX8_init 9 = .ok (.dup, 1) := by decide +kernel
theorem dX8_init_10 : decode cX8_init 10 = .ok (.iconst 0, 1) := by decide +kernel
theorem dX8_init_11 : decode cX8_init 11 = .ok (.iconst (-1), 1) := by decide +kernel
theorem dX8_init_12 : decode cX8_init 12 = .ok (.iastore, 1) := by decide +kernel
theorem dX8_init_13 : decode cX8_init 13 = .ok (.dup, 1) := by decide +kernel
theorem dX8_init_14 : decode cX8_init 14 = .ok (.iconst 1, 1) := by decide +kernel
theorem dX8_init_15 : decode cX8_init 15 = .ok (.iconst (-1), 1) := by decide +kernel
theorem dX8_init_16 : decode cX8_init 16 = .ok (.iastore, 1) := by decide +kernel
theorem dX8_init_17 : decode cX8_init 17 = .ok (.dup, 1) := by decide +kernel
theorem dX8_init_18 : decode cX8_init 18 = .ok (.iconst 2, 1) := by decide +kernel
theorem dX8_init_19 : decode cX8_init 19 = .ok (.iconst (-1), 1) := by decide +kernel
theorem dX8_init_20 : decode cX8_init 20 = .ok (.iastore, 1) := by decide +kernel
theorem dX8_init_21 : decode cX8_init 21 = .ok (.dup, 1) := by decide +kernel
theorem dX8_init_22 : decode cX8_init 22 = .ok (.iconst 3, 1) := by decide +kernel
theorem dX8_init_23 : decode cX8_init 23 = .ok (.iconst (-1), 1) := by decide +kernel
theorem dX8_init_24 : decode cX8_init 24 = .ok (.iastore, 1) := by decide +kernel
theorem dX8_init_25 : decode cX8_init 25 = .ok (.dup, 1) := by decide +kernel
theorem dX8_init_26 : decode cX8_init 26 = .ok (.iconst 4, 1) := by decide +kernel
theorem dX8_init_27 : decode cX8_init 27 = .ok (.iconst (-1), 1) := by decide +kernel
theorem dX8_init_28 : decode cX8_init 28 = .ok (.iastore, 1) := by decide +kernel
theorem dX8_init_29 : decode cX8_init 29 = .ok (.dup, 1) := by decide +kernel
theorem dX8_init_30 : decode cX8_init 30 = .ok (.iconst 5, 1) := by decide +kernel
theorem dX8_init_31 : decode cX8_init 31 = .ok (.iconst (-1), 1) := by decide +kernel
theorem dX8_init_32 : decode cX8_init 32 = .ok (.iastore, 1) := by decide +kernel
theorem dX8_init_33 : decode cX8_init 33 = .ok (.dup, 1) := by decide +kernel
theorem dX8_init_34 : decode cX8_init 34 = .ok (.bipush 6, 2) := by decide +kernel
theorem dX8_init_36 : decode cX8_init 36 = .ok (.iconst (-1), 1) := by decide +kernel
theorem dX8_init_37 : decode cX8_init 37 = .ok (.iastore, 1) := by decide +kernel
theorem dX8_init_38 : decode cX8_init 38 = .ok (.dup, 1) := by decide +kernel
theorem dX8_init_39 : decode cX8_init 39 = .ok (.bipush 7, 2) := by decide +kernel
theorem dX8_init_41 : decode cX8_init 41 = .ok (.iconst (-1), 1) := by decide +kernel
theorem dX8_init_42 : decode cX8_init 42 = .ok (.iastore, 1) := by decide +kernel
theorem dX8_init_43 : decode cX8_init 43 = .ok (.putfield 7, 3) := by decide +kernel
theorem dX8_init_46 : decode cX8_init 46 = .ok (.aload_n 0, 1) := by decide +kernel
theorem dX8_init_47 : decode cX8_init 47 = .ok (.bipush 8, 2) := by decide +kernel
theorem dX8_init_49 : decode cX8_init 49 = .ok (.newarray .int, 2) := by decide +kernel
theorem dX8_init_51 : decode cX8_init 51 = .ok (.putfield 13, 3) := by decide +kernel
theorem dX8_init_54 : decode cX8_init 54 = .ok (.aload_n 0, 1) := by decide +kernel
theorem dX8_init_55 : decode cX8_init 55 = .ok (.sipush 320, 3) := by decide +kernel
theorem dX8_init_58 : decode cX8_init 58 = .ok (.newarray .int, 2) := by decide +kernel
theorem dX8_init_60 : decode cX8_init 60 = .ok (.putfield 16, 3) := by decide +kernel
theorem dX8_init_63 : decode cX8_init 63 = .ok (.aload_n 0, 1) := by decide +kernel
theorem dX8_init_64 : decode cX8_init 64 = .ok (.bipush 37, 2) := by decide +kernel
theorem dX8_init_66 : decode cX8_init 66 = .ok (.newarray .int, 2) := by decide +kernel
theorem dX8_init_68 : decode cX8_init 68 = .ok (.putfield 19, 3) := by decide +kernel
theorem dX8_init_71 : decode cX8_init 71 = .ok (.aload_n 0, 1) := by decide +kernel
theorem dX8_init_72 : decode cX8_init 72 = .ok (.bipush 37, 2) := by decide +kernel
theorem dX8_init_74 : decode cX8_init 74 = .ok (.newarray .int, 2) := by decide +kernel
theorem dX8_init_76 : decode cX8_init 76 = .ok (.putfield 22, 3) := by decide +kernel
theorem dX8_init_79 : decode cX8_init 79 = .ok (.aload_n 0, 1) := by decide +kernel
theorem dX8_init_80 : decode cX8_init 80 = .ok (.sipush 888, 3) := by decide +kernel
theorem dX8_init_83 : decode cX8_init 83 = .ok (.newarray .int, 2) := by decide +kernel
theorem dX8_init_85 : decode cX8_init 85 = .ok (.putfield 25, 3) := by decide +kernel
theorem dX8_init_88 : decode cX8_init 88 = .ok (.aload_n 0, 1) := by decide +kernel
theorem dX8_init_89 : decode cX8_init 89 = .ok (.sipush 400, 3) := by decide +kernel
theorem dX8_init_92 : decode cX8_init 92 = .ok (.newarray .int, 2) := by decide +kernel
theorem dX8_init_94 : decode cX8_init 94 = .ok (.putfield 28, 3) := by decide +kernel
theorem dX8_init_97 : decode cX8_init 97 = .ok (.aload_n 0, 1) := by decide +kernel
theorem dX8_init_98 : decode cX8_init 98 = .ok (.iconst 5, 1) := by decide +kernel
theorem dX8_init_99 : decode cX8_init 99 = .ok (.newarray .int, 2) := by decide +kernel
theorem dX8_init_101 : decode cX8_init 101 = .ok (.putfield 31, 3) := by decide +kernel
theorem dX8_init_104 : decode cX8_init 104 = .ok (.aload_n 0, 1) := by decide +kernel
theorem dX8_init_105 : decode cX8_init 105 = .ok (.iconst 5, 1) := by decide +kernel
theorem dX8_init_106 : decode cX8_init 106 = .ok (.newarray .int, 2) := by decide +kernel
theorem dX8_init_108 : decode cX8_init 108 = .ok (.putfield 34, 3) := by decide +kernel
theorem dX8_init_111 : decode cX8_init 111 = .ok (.aload_n 0, 1) := by decide +kernel
theorem dX8_init_112 : decode cX8_init 112 = .ok (.bipush 6, 2) := by decide +kernel
theorem dX8_init_114 : decode cX8_init 114 = .ok (.newarray .int, 2) := by decide +kernel
theorem dX8_init_116 : decode cX8_init 116 = .ok (.putfield 37, 3) := by decide +kernel
theorem dX8_init_119 : decode cX8_init 119 = .ok (.aload_n 0, 1) := by decide +kernel
theorem dX8_init_120 : decode cX8_init 120 = .ok (.bipush 6, 2) := by decide +kernel
theorem dX8_init_122 : decode cX8_init 122 = .ok (.newarray .int, 2) := by decide +kernel
theorem dX8_init_124 : decode cX8_init 124 = .ok (.putfield 40, 3) := by decide +kernel
theorem dX8_init_127 : decode cX8_init 127 = .ok (.aload_n 0, 1) := by decide +kernel
theorem dX8_init_128 : decode cX8_init 128 = .ok (.bipush 6, 2) := by decide +kernel
theorem dX8_init_130 : decode cX8_init 130 = .ok (.newarray .int, 2) := by decide +kernel
theorem dX8_init_132 : decode cX8_init 132 = .ok (.putfield 43, 3) := by decide +kernel
theorem dX8_init_135 : decode cX8_init 135 = .ok (.aload_n 0, 1) := by decide +kernel
theorem dX8_init_136 : decode cX8_init 136 = .ok (.bipush 6, 2) := by decide +kernel
theorem dX8_init_138 : decode cX8_init 138 = .ok (.newarray .int, 2) := by decide +kernel
theorem dX8_init_140 : decode cX8_init 140 = .ok (.putfield 46, 3) := by decide +kernel
theorem dX8_init_143 : decode cX8_init 143 = .ok (.aload_n 0, 1) := by decide +kernel
theorem dX8_init_144 : decode cX8_init 144 = .ok (.iconst 2, 1) := by decide +kernel
theorem dX8_init_145 : decode cX8_init 145 = .ok (.newarray .boolean, 2) := by decide +kernel
theorem dX8_init_147 : decode cX8_init 147 = .ok (.putfield 49, 3) := by decide +kernel
theorem dX8_init_150 : decode cX8_init 150 = .ok (.aload_n 0, 1) := by decide +kernel
theorem dX8_init_151 : decode cX8_init 151 = .ok (.bipush 74, 2) := by decide +kernel
theorem dX8_init_153 : decode cX8_init 153 = .ok (.newarray .int, 2) := by decide +kernel
theorem dX8_init_155 : decode cX8_init 155 = .ok (.putfield 53, 3) := by decide +kernel
theorem dX8_init_158 : decode cX8_init 158 = .ok (.aload_n 0, 1) := by decide +kernel
theorem dX8_init_159 : decode cX8_init 159 = .ok (.bipush 16, 2) := by decide +kernel
theorem dX8_init_161 : decode cX8_init 161 = .ok (.newarray .int, 2) := by decide +kernel
theorem dX8_init_163 : decode cX8_init 163 = .ok (.putfield 56, 3) := by decide +kernel
theorem dX8_init_166 : decode cX8_init 166 = .ok (.return_, 1) := by decide +kernel
theorem dX8_in_0 : decode cX8_in 0 = .ok (.lload_n 0, 1) := by decide +kernel
theorem dX8_in_1 : decode cX8_in 1 = .ok (.lload_n 2, 1) := by decide +kernel
theorem dX8_in_2 : decode cX8_in 2 = .ok (.lcmp, 1) := by decide +kernel
theorem dX8_in_3 : decode cX8_in 3 = .ok (.ifCond .lt 14, 3) := by decide +kernel
theorem dX8_in_6 : decode cX8_in 6 = .ok (.lload_n 0, 1) := by decide +kernel
theorem dX8_in_7 : decode cX8_in 7 = .ok (.lload 4, 2) := by decide +kernel
theorem dX8_in_9 : decode cX8_in 9 = .ok (.lcmp, 1) := by decide +kernel
theorem dX8_in_10 : decode cX8_in 10 = .ok (.ifCond .gt 7, 3) := by decide +kernel
theorem dX8_in_13 : decode cX8_in 13 = .ok (.iconst 1, 1) := by decide +kernel
theorem dX8_in_14 : decode cX8_in 14 = .ok (.goto 4, 3) := by decide +kernel
theorem dX8_in_17 : decode cX8_in 17 = .ok (.iconst 0, 1) := by decide +kernel
theorem dX8_in_18 : decode cX8_in 18 = .ok (.ireturn, 1) := by decide +kernel
theorem dX8_finding_0 : decode cX8_finding 0 = .ok (.aload_n 0, 1) := by decide +kernel
theorem dX8_finding_1 : decode cX8_finding 1 = .ok (.iload_n 1, 1) := by decide +kernel
theorem dX8_finding_2 : decode cX8_finding 2 = .ok (.putfield 63, 3) := by decide +kernel
theorem dX8_finding_5 : decode cX8_finding 5 = .ok (.ldc 66, 2) := by decide +kernel
theorem dX8_finding_7 : decode cX8_finding 7 = .ok (.iload_n 1, 1) := by decide +kernel
theorem dX8_finding_8 : decode cX8_finding 8 = .ok (.isub, 1) := by decide +kernel
theorem dX8_finding_9 : decode cX8_finding 9 = .ok (.ireturn, 1) := by decide +kernel
theorem dX8_isRow_0 : decode cX8_isRow 0 = .ok (.iload_n 0, 1) := by decide +kernel
theorem dX8_isRow_1 : decode cX8_isRow 1 = .ok (.i2l, 1) := by decide +kernel
theorem dX8_isRow_2 : decode cX8_isRow 2 = .ok (.lconst 0, 1) := by decide +kernel
theorem dX8_isRow_3 : decode cX8_isRow 3 = .ok (.ldc2_w 67, 3) := by decide +kernel
theorem dX8_isRow_6 : decode cX8_isRow 6 = .ok (.invokestatic 69, 3) := by decide +kernel
theorem dX8_isRow_9 : decode cX8_isRow 9 = .ok (.ireturn, 1) := by decide +kernel
theorem dX8_row_0 : decode cX8_row 0 = .ok (.aload_n 0, 1) := by decide +kernel
theorem dX8_row_1 : decode cX8_row 1 = .ok (.iconst 0, 1) := by decide +kernel
theorem dX8_row_2 : decode cX8_row 2 = .ok (.putfield 59, 3) := by decide +kernel
theorem dX8_row_5 : decode cX8_row 5 = .ok (.iload_n 1, 1) := by decide +kernel
theorem dX8_row_6 : decode cX8_row 6 = .ok (.invokestatic 73, 3) := by decide +kernel
theorem dX8_row_9 : decode cX8_row 9 = .ok (.ifCond .eq 21, 3) := by decide +kernel
theorem dX8_row_12 : decode cX8_row 12 = .ok (.iload_n 2, 1) := by decide +kernel
theorem dX8_row_13 : decode cX8_row 13 = .ok (.i2l, 1) := by decide +kernel
theorem dX8_row_14 : decode cX8_row 14 = .ok (.lconst 0, 1) := by decide +kernel
theorem dX8_row_15 : decode cX8_row 15 = .ok (.ldc2_w 77, 3) := by decide +kernel
theorem dX8_row_18 : decode cX8_row 18 = .ok (.invokestatic 69, 3) := by decide +kernel
theorem dX8_row_21 : decode cX8_row 21 = .ok (.ifCond .eq 9, 3) := by decide +kernel
theorem dX8_row_24 : decode cX8_row 24 = .ok (.iload_n 3, 1) := by decide +kernel
theorem dX8_row_25 : decode cX8_row 25 = .ok (.bipush 40, 2) := by decide +kernel
theorem dX8_row_27 : decode cX8_row 27 = .ok (.if_icmp .le 6, 3) := by decide +kernel
theorem dX8_row_30 : decode cX8_row 30 = .ok (.ldc 79, 2) := by decide +kernel
theorem dX8_row_32 : decode cX8_row 32 = .ok (.ireturn, 1) := by decide +kernel
theorem dX8_row_33 : decode cX8_row 33 = .ok (.aload_n 0, 1) := by decide +kernel
theorem dX8_row_34 : decode cX8_row 34 = .ok (.iconst 0, 1) := by decide +kernel
theorem dX8_row_35 : decode cX8_row 35 = .ok (.putfield 63, 3) := by decide +kernel
theorem dX8_row_38 : decode cX8_row 38 = .ok (.iload_n 3, 1) := by decide +kernel
theorem dX8_row_39 : decode cX8_row 39 = .ok (.ifCond .ge 9, 3) := by decide +kernel
theorem dX8_row_42 : decode cX8_row 42 = .ok (.aload_n 0, 1) := by decide +kernel
theorem dX8_row_43 : decode cX8_row 43 = .ok (.iconst 4, 1) := by decide +kernel
theorem dX8_row_44 : decode cX8_row 44 = .ok (.invokevirtual 80, 3) := by decide +kernel
theorem dX8_row_47 : decode cX8_row 47 = .ok (.ireturn, 1) := by decide +kernel
theorem dX8_row_48 : decode cX8_row 48 = .ok (.aload_n 0, 1) := by decide +kernel
theorem dX8_row_49 : decode cX8_row 49 = .ok (.getfield 7, 3) := by decide +kernel
theorem dX8_row_52 : decode cX8_row 52 = .ok (.iload_n 1, 1) := by decide +kernel
theorem dX8_row_53 : decode cX8_row 53 = .ok (.iload_n 2, 1) := by decide +kernel
theorem dX8_row_54 : decode cX8_row 54 = .ok (.iastore, 1) := by decide +kernel
theorem dX8_row_55 : decode cX8_row 55 = .ok (.aload_n 0, 1) := by decide +kernel
theorem dX8_row_56 : decode cX8_row 56 = .ok (.getfield 13, 3) := by decide +kernel
theorem dX8_row_59 : decode cX8_row 59 = .ok (.iload_n 1, 1) := by decide +kernel
theorem dX8_row_60 : decode cX8_row 60 = .ok (.iload_n 3, 1) := by decide +kernel
theorem dX8_row_61 : decode cX8_row 61 = .ok (.iastore, 1) := by decide +kernel
theorem dX8_row_62 : decode cX8_row 62 = .ok (.iconst 0, 1) := by decide +kernel
theorem dX8_row_63 : decode cX8_row 63 = .ok (.istore 4, 2) := by decide +kernel
theorem dX8_row_65 : decode cX8_row 65 = .ok (.iload 4, 2) := by decide +kernel
theorem dX8_row_67 : decode cX8_row 67 = .ok (.bipush 40, 2) := by decide +kernel
theorem dX8_row_69 : decode cX8_row 69 = .ok (.if_icmp .ge 22, 3) := by decide +kernel
theorem dX8_row_72 : decode cX8_row 72 = .ok (.aload_n 0, 1) := by decide +kernel
theorem dX8_row_73 : decode cX8_row 73 = .ok (.getfield 16, 3) := by decide +kernel
theorem dX8_row_76 : decode cX8_row 76 = .ok (.bipush 40, 2) := by decide +kernel
theorem dX8_row_78 : decode cX8_row 78 = .ok (.iload_n 1, 1) := by decide +kernel
theorem dX8_row_79 : decode cX8_row 79 = .ok (.imul, 1) := by decide +kernel
theorem dX8_row_80 : decode cX8_row 80 = .ok (.iload 4, 2) := by decide +kernel
theorem dX8_row_82 : decode cX8_row 82 = .ok (.iadd, 1) := by decide +kernel
theorem dX8_row_83 : decode cX8_row 83 = .ok (.iconst 0, 1) := by decide +kernel
theorem dX8_row_84 : decode cX8_row 84 = .ok (.iastore, 1) := by decide +kernel
theorem dX8_row_85 : decode cX8_row 85 = .ok (.iinc 4 1, 3) := by decide +kernel
theorem dX8_row_88 : decode cX8_row 88 = .ok (.goto (-23), 3) := by decide +kernel
theorem dX8_row_91 : decode cX8_row 91 = .ok (.iload_n 3, 1) := by decide +kernel
theorem dX8_row_92 : decode cX8_row 92 = .ok (.ireturn, 1) := by decide +kernel
theorem dX8_set_0 : decode cX8_set 0 = .ok (.aload_n 0, 1) := by decide +kernel
theorem dX8_set_1 : decode cX8_set 1 = .ok (.iconst 0, 1) := by decide +kernel
theorem dX8_set_2 : decode cX8_set 2 = .ok (.putfield 59, 3) := by decide +kernel
theorem dX8_set_5 : decode cX8_set 5 = .ok (.iload_n 1, 1) := by decide +kernel
theorem dX8_set_6 : decode cX8_set 6 = .ok (.invokestatic 73, 3) := by decide +kernel
theorem dX8_set_9 : decode cX8_set 9 = .ok (.ifCond .ne 6, 3) := by decide +kernel
theorem dX8_set_12 : decode cX8_set 12 = .ok (.ldc 79, 2) := by decide +kernel
theorem dX8_set_14 : decode cX8_set 14 = .ok (.ireturn, 1) := by decide +kernel
theorem dX8_set_15 : decode cX8_set 15 = .ok (.aload_n 0, 1) := by decide +kernel
theorem dX8_set_16 : decode cX8_set 16 = .ok (.iconst 0, 1) := by decide +kernel
theorem dX8_set_17 : decode cX8_set 17 = .ok (.putfield 63, 3) := by decide +kernel
theorem dX8_set_20 : decode cX8_set 20 = .ok (.aload_n 0, 1) := by decide +kernel
theorem dX8_set_21 : decode cX8_set 21 = .ok (.getfield 7, 3) := by decide +kernel
theorem dX8_set_24 : decode cX8_set 24 = .ok (.iload_n 1, 1) := by decide +kernel
theorem dX8_set_25 : decode cX8_set 25 = .ok (.iaload, 1) := by decide +kernel
theorem dX8_set_26 : decode cX8_set 26 = .ok (.ifCond .ge 9, 3) := by decide +kernel
theorem dX8_set_29 : decode cX8_set 29 = .ok (.aload_n 0, 1) := by decide +kernel
theorem dX8_set_30 : decode cX8_set 30 = .ok (.iconst 1, 1) := by decide +kernel
theorem dX8_set_31 : decode cX8_set 31 = .ok (.invokevirtual 80, 3) := by decide +kernel
theorem dX8_set_34 : decode cX8_set 34 = .ok (.ireturn, 1) := by decide +kernel
theorem dX8_set_35 : decode cX8_set 35 = .ok (.iload_n 2, 1) := by decide +kernel
theorem dX8_set_36 : decode cX8_set 36 = .ok (.i2l, 1) := by decide +kernel
theorem dX8_set_37 : decode cX8_set 37 = .ok (.lconst 0, 1) := by decide +kernel
theorem dX8_set_38 : decode cX8_set 38 = .ok (.aload_n 0, 1) := by decide +kernel
theorem dX8_set_39 : decode cX8_set 39 = .ok (.getfield 13, 3) := by decide +kernel
theorem dX8_set_42 : decode cX8_set 42 = .ok (.iload_n 1, 1) := by decide +kernel
theorem dX8_set_43 : decode cX8_set 43 = .ok (.iaload, 1) := by decide +kernel
theorem dX8_set_44 : decode cX8_set 44 = .ok (.iconst 1, 1) := by decide +kernel
theorem dX8_set_45 : decode cX8_set 45 = .ok (.isub, 1) := by decide +kernel
theorem dX8_set_46 : decode cX8_set 46 = .ok (.i2l, 1) := by decide +kernel
theorem dX8_set_47 : decode cX8_set 47 = .ok (.invokestatic 69, 3) := by decide +kernel
theorem dX8_set_50 : decode cX8_set 50 = .ok (.ifCond .ne 9, 3) := by decide +kernel
theorem dX8_set_53 : decode cX8_set 53 = .ok (.aload_n 0, 1) := by decide +kernel
theorem dX8_set_54 : decode cX8_set 54 = .ok (.iconst 2, 1) := by decide +kernel
theorem dX8_set_55 : decode cX8_set 55 = .ok (.invokevirtual 80, 3) := by decide +kernel
theorem dX8_set_58 : decode cX8_set 58 = .ok (.ireturn, 1) := by decide +kernel
theorem dX8_set_59 : decode cX8_set 59 = .ok (.aload_n 0, 1) := by decide +kernel
theorem dX8_set_60 : decode cX8_set 60 = .ok (.getfield 16, 3) := by decide +kernel
theorem dX8_set_63 : decode cX8_set 63 = .ok (.bipush 40, 2) := by decide +kernel
theorem dX8_set_65 : decode cX8_set 65 = .ok (.iload_n 1, 1) := by decide +kernel
theorem dX8_set_66 : decode cX8_set 66 = .ok (.imul, 1) := by decide +kernel
theorem dX8_set_67 : decode cX8_set 67 = .ok (.iload_n 2, 1) := by decide +kernel
theorem dX8_set_68 : decode cX8_set 68 = .ok (.iadd, 1) := by decide +kernel
theorem dX8_set_69 : decode cX8_set 69 = .ok (.aload_n 0, 1) := by decide +kernel
theorem dX8_set_70 : decode cX8_set 70 = .ok (.getfield 7, 3) := by decide +kernel
theorem dX8_set_73 : decode cX8_set 73 = .ok (.iload_n 1, 1) := by decide +kernel
theorem dX8_set_74 : decode cX8_set 74 = .ok (.iaload, 1) := by decide +kernel
theorem dX8_set_75 : decode cX8_set 75 = .ok (.ifCond .ne 8, 3) := by decide +kernel
theorem dX8_set_78 : decode cX8_set 78 = .ok (.iload_n 3, 1) := by decide +kernel
theorem dX8_set_79 : decode cX8_set 79 = .ok (.i2b, 1) := by decide +kernel
theorem dX8_set_80 : decode cX8_set 80 = .ok (.goto 19, 3) := by decide +kernel
theorem dX8_set_83 : decode cX8_set 83 = .ok (.aload_n 0, 1) := by decide +kernel
theorem dX8_set_84 : decode cX8_set 84 = .ok (.getfield 7, 3) := by decide +kernel
theorem dX8_set_87 : decode cX8_set 87 = .ok (.iload_n 1, 1) := by decide +kernel
theorem dX8_set_88 : decode cX8_set 88 = .ok (.iaload, 1) := by decide +kernel
theorem dX8_set_89 : decode cX8_set 89 = .ok (.iconst 1, 1) := by decide +kernel
theorem dX8_set_90 : decode cX8_set 90 = .ok (.if_icmp .ne 8, 3) := by decide +kernel
theorem dX8_set_93 : decode cX8_set 93 = .ok (.iload_n 3, 1) := by decide +kernel
theorem dX8_set_94 : decode cX8_set 94 = .ok (.i2s, 1) := by decide +kernel
theorem dX8_set_95 : decode cX8_set 95 = .ok (.goto 4, 3) := by decide +kernel
theorem dX8_set_98 : decode cX8_set 98 = .ok (.iload_n 3, 1) := by decide +kernel
theorem dX8_set_99 : decode cX8_set 99 = .ok (.iastore, 1) := by decide +kernel
theorem dX8_set_100 : decode cX8_set 100 = .ok (.aload_n 0, 1) := by decide +kernel
theorem dX8_set_101 : decode cX8_set 101 = .ok (.getfield 16, 3) := by decide +kernel
theorem dX8_set_104 : decode cX8_set 104 = .ok (.bipush 40, 2) := by decide +kernel
theorem dX8_set_106 : decode cX8_set 106 = .ok (.iload_n 1, 1) := by decide +kernel
theorem dX8_set_107 : decode cX8_set 107 = .ok (.imul, 1) := by decide +kernel
theorem dX8_set_108 : decode cX8_set 108 = .ok (.iload_n 2, 1) := by decide +kernel
theorem dX8_set_109 : decode cX8_set 109 = .ok (.iadd, 1) := by decide +kernel
theorem dX8_set_110 : decode cX8_set 110 = .ok (.iaload, 1) := by decide +kernel
theorem dX8_set_111 : decode cX8_set 111 = .ok (.ireturn, 1) := by decide +kernel
theorem dX8_copy_0 : decode cX8_copy 0 = .ok (.aload_n 0, 1) := by decide +kernel
theorem dX8_copy_1 : decode cX8_copy 1 = .ok (.iconst 0, 1) := by decide +kernel
theorem dX8_copy_2 : decode cX8_copy 2 = .ok (.putfield 59, 3) := by decide +kernel
theorem dX8_copy_5 : decode cX8_copy 5 = .ok (.iload_n 1, 1) := by decide +kernel
theorem dX8_copy_6 : decode cX8_copy 6 = .ok (.invokestatic 73, 3) := by decide +kernel
theorem dX8_copy_9 : decode cX8_copy 9 = .ok (.ifCond .eq 10, 3) := by decide +kernel
theorem dX8_copy_12 : decode cX8_copy 12 = .ok (.iload_n 3, 1) := by decide +kernel
theorem dX8_copy_13 : decode cX8_copy 13 = .ok (.invokestatic 73, 3) := by decide +kernel
theorem dX8_copy_16 : decode cX8_copy 16 = .ok (.ifCond .ne 6, 3) := by decide +kernel
theorem dX8_copy_19 : decode cX8_copy 19 = .ok (.ldc 79, 2) := by decide +kernel
theorem dX8_copy_21 : decode cX8_copy 21 = .ok (.ireturn, 1) := by decide +kernel
theorem dX8_copy_22 : decode cX8_copy 22 = .ok (.aload_n 0, 1) := by decide +kernel
theorem dX8_copy_23 : decode cX8_copy 23 = .ok (.iconst 0, 1) := by decide +kernel
theorem dX8_copy_24 : decode cX8_copy 24 = .ok (.putfield 63, 3) := by decide +kernel
theorem dX8_copy_27 : decode cX8_copy 27 = .ok (.aload_n 0, 1) := by decide +kernel
theorem dX8_copy_28 : decode cX8_copy 28 = .ok (.getfield 7, 3) := by decide +kernel
theorem dX8_copy_31 : decode cX8_copy 31 = .ok (.iload_n 1, 1) := by decide +kernel
theorem dX8_copy_32 : decode cX8_copy 32 = .ok (.iaload, 1) := by decide +kernel
theorem dX8_copy_33 : decode cX8_copy 33 = .ok (.ifCond .lt 12, 3) := by decide +kernel
theorem dX8_copy_36 : decode cX8_copy 36 = .ok (.aload_n 0, 1) := by decide +kernel
theorem dX8_copy_37 : decode cX8_copy 37 = .ok (.getfield 7, 3) := by decide +kernel
theorem dX8_copy_40 : decode cX8_copy 40 = .ok (.iload_n 3, 1) := by decide +kernel
theorem dX8_copy_41 : decode cX8_copy 41 = .ok (.iaload, 1) := by decide +kernel
theorem dX8_copy_42 : decode cX8_copy 42 = .ok (.ifCond .ge 9, 3) := by decide +kernel
theorem dX8_copy_45 : decode cX8_copy 45 = .ok (.aload_n 0, 1) := by decide +kernel
theorem dX8_copy_46 : decode cX8_copy 46 = .ok (.iconst 1, 1) := by decide +kernel
theorem dX8_copy_47 : decode cX8_copy 47 = .ok (.invokevirtual 80, 3) := by decide +kernel
theorem dX8_copy_50 : decode cX8_copy 50 = .ok (.ireturn, 1) := by decide +kernel
theorem dX8_copy_51 : decode cX8_copy 51 = .ok (.aload_n 0, 1) := by decide +kernel
theorem dX8_copy_52 : decode cX8_copy 52 = .ok (.getfield 7, 3) := by decide +kernel
theorem dX8_copy_55 : decode cX8_copy 55 = .ok (.iload_n 1, 1) := by decide +kernel
theorem dX8_copy_56 : decode cX8_copy 56 = .ok (.iaload, 1) := by decide +kernel
theorem dX8_copy_57 : decode cX8_copy 57 = .ok (.aload_n 0, 1) := by decide +kernel
theorem dX8_copy_58 : decode cX8_copy 58 = .ok (.getfield 7, 3) := by decide +kernel
theorem dX8_copy_61 : decode cX8_copy 61 = .ok (.iload_n 3, 1) := by decide +kernel
theorem dX8_copy_62 : decode cX8_copy 62 = .ok (.iaload, 1) := by decide +kernel
theorem dX8_copy_63 : decode cX8_copy 63 = .ok (.if_icmp .eq 9, 3) := by decide +kernel
theorem dX8_copy_66 : decode cX8_copy 66 = .ok (.aload_n 0, 1) := by decide +kernel
theorem dX8_copy_67 : decode cX8_copy 67 = .ok (.iconst 5, 1) := by decide +kernel
theorem dX8_copy_68 : decode cX8_copy 68 = .ok (.invokevirtual 80, 3) := by decide +kernel
theorem dX8_copy_71 : decode cX8_copy 71 = .ok (.ireturn, 1) := by decide +kernel
theorem dX8_copy_72 : decode cX8_copy 72 = .ok (.iload_n 2, 1) := by decide +kernel
theorem dX8_copy_73 : decode cX8_copy 73 = .ok (.ifCond .lt 48, 3) := by decide +kernel
theorem dX8_copy_76 : decode cX8_copy 76 = .ok (.iload 4, 2) := by decide +kernel
theorem dX8_copy_78 : decode cX8_copy 78 = .ok (.ifCond .lt 43, 3) := by decide +kernel
theorem dX8_copy_81 : decode cX8_copy 81 = .ok (.iload 5, 2) := by decide +kernel
theorem dX8_copy_83 : decode cX8_copy 83 = .ok (.ifCond .lt 38, 3) := by decide +kernel
theorem dX8_copy_86 : decode cX8_copy 86 = .ok (.iload_n 2, 1) := by decide +kernel
theorem dX8_copy_87 : decode cX8_copy 87 = .ok (.i2l, 1) := by decide +kernel
theorem dX8_copy_88 : decode cX8_copy 88 = .ok (.iload 5, 2) := by decide +kernel
theorem dX8_copy_90 : decode cX8_copy 90 = .ok (.i2l, 1) := by decide +kernel
theorem dX8_copy_91 : decode cX8_copy 91 = .ok (.ladd, 1) := by decide +kernel
theorem dX8_copy_92 : decode cX8_copy 92 = .ok (.aload_n 0, 1) := by decide +kernel
theorem dX8_copy_93 : decode cX8_copy 93 = .ok (.getfield 13, 3) := by decide +kernel
theorem dX8_copy_96 : decode cX8_copy 96 = .ok (.iload_n 1, 1) := by decide +kernel
theorem dX8_copy_97 : decode cX8_copy 97 = .ok (.iaload, 1) := by decide +kernel
theorem dX8_copy_98 : decode cX8_copy 98 = .ok (.i2l, 1) := by decide +kernel
theorem dX8_copy_99 : decode cX8_copy 99 = .ok (.lcmp, 1) := by decide +kernel
theorem dX8_copy_100 : decode cX8_copy 100 = .ok (.ifCond .gt 21, 3) := by decide +kernel
theorem dX8_copy_103 : decode cX8_copy 103 = .ok (.iload 4, 2) := by decide +kernel
theorem dX8_copy_105 : decode cX8_copy 105 = .ok (.i2l, 1) := by decide +kernel
theorem dX8_copy_106 : decode cX8_copy 106 = .ok (.iload 5, 2) := by decide +kernel
theorem dX8_copy_108 : decode cX8_copy 108 = .ok (.i2l, 1) := by decide +kernel
theorem dX8_copy_109 : decode cX8_copy 109 = .ok (.ladd, 1) := by decide +kernel
theorem dX8_copy_110 : decode cX8_copy 110 = .ok (.aload_n 0, 1) := by decide +kernel
theorem dX8_copy_111 : decode cX8_copy 111 = .ok (.getfield 13, 3) := by decide +kernel
theorem dX8_copy_114 : decode cX8_copy 114 = .ok (.iload_n 3, 1) := by decide +kernel
theorem dX8_copy_115 : decode cX8_copy 115 = .ok (.iaload, 1) := by decide +kernel
theorem dX8_copy_116 : decode cX8_copy 116 = .ok (.i2l, 1) := by decide +kernel
theorem dX8_copy_117 : decode cX8_copy 117 = .ok (.lcmp, 1) := by decide +kernel
theorem dX8_copy_118 : decode cX8_copy 118 = .ok (.ifCond .le 9, 3) := by decide +kernel
theorem dX8_copy_121 : decode cX8_copy 121 = .ok (.aload_n 0, 1) := by decide +kernel
theorem dX8_copy_122 : decode cX8_copy 122 = .ok (.iconst 2, 1) := by decide +kernel
theorem dX8_copy_123 : decode cX8_copy 123 = .ok (.invokevirtual 80, 3) := by decide +kernel
theorem dX8_copy_126 : decode cX8_copy 126 = .ok (.ireturn, 1) := by decide +kernel
theorem dX8_copy_127 : decode cX8_copy 127 = .ok (.iload_n 2, 1) := by decide +kernel
theorem dX8_copy_128 : decode cX8_copy 128 = .ok (.iload 4, 2) := by decide +kernel
theorem dX8_copy_130 : decode cX8_copy 130 = .ok (.if_icmp .lt 7, 3) := by decide +kernel
theorem dX8_copy_133 : decode cX8_copy 133 = .ok (.iconst 1, 1) := by decide +kernel
theorem dX8_copy_134 : decode cX8_copy 134 = .ok (.goto 4, 3) := by decide +kernel
theorem dX8_copy_137 : decode cX8_copy 137 = .ok (.iconst 0, 1) := by decide +kernel
theorem dX8_copy_138 : decode cX8_copy 138 = .ok (.istore 6, 2) := by decide +kernel
theorem dX8_copy_140 : decode cX8_copy 140 = .ok (.iconst 0, 1) := by decide +kernel
theorem dX8_copy_141 : decode cX8_copy 141 = .ok (.istore 7, 2) := by decide +kernel
theorem dX8_copy_143 : decode cX8_copy 143 = .ok (.iload 7, 2) := by decide +kernel
theorem dX8_copy_145 : decode cX8_copy 145 = .ok (.iload 5, 2) := by decide +kernel
theorem dX8_copy_147 : decode cX8_copy 147 = .ok (.if_icmp .ge 57, 3) := by decide +kernel
theorem dX8_copy_150 : decode cX8_copy 150 = .ok (.iload 6, 2) := by decide +kernel
theorem dX8_copy_152 : decode cX8_copy 152 = .ok (.ifCond .eq 8, 3) := by decide +kernel
theorem dX8_copy_155 : decode cX8_copy 155 = .ok (.iload 7, 2) := by decide +kernel
theorem dX8_copy_157 : decode cX8_copy 157 = .ok (.goto 10, 3) := by decide +kernel
theorem dX8_copy_160 : decode cX8_copy 160 = .ok (.iload 5, 2) := by decide +kernel
theorem dX8_copy_162 : decode cX8_copy 162 = .ok (.iconst 1, 1) := by decide +kernel
theorem dX8_copy_163 : decode cX8_copy 163 = .ok (.isub, 1) := by decide +kernel
theorem dX8_copy_164 : decode cX8_copy 164 = .ok (.iload 7, 2) := by decide +kernel
theorem dX8_copy_166 : decode cX8_copy 166 = .ok (.isub, 1) := by decide +kernel
theorem dX8_copy_167 : decode cX8_copy 167 = .ok (.istore 8, 2) := by decide +kernel
theorem dX8_copy_169 : decode cX8_copy 169 = .ok (.aload_n 0, 1) := by decide +kernel
theorem dX8_copy_170 : decode cX8_copy 170 = .ok (.getfield 16, 3) := by decide +kernel
theorem dX8_copy_173 : decode cX8_copy 173 = .ok (.bipush 40, 2) := by decide +kernel
theorem dX8_copy_175 : decode cX8_copy 175 = .ok (.iload_n 3, 1) := by decide +kernel
theorem dX8_copy_176 : decode cX8_copy 176 = .ok (.imul, 1) := by decide +kernel
theorem dX8_copy_177 : decode cX8_copy 177 = .ok (.iload 4, 2) := by decide +kernel
theorem dX8_copy_179 : decode cX8_copy 179 = .ok (.iadd, 1) := by decide +kernel
theorem dX8_copy_180 : decode cX8_copy 180 = .ok (.iload 8, 2) := by decide +kernel
theorem dX8_copy_182 : decode cX8_copy 182 = .ok (.iadd, 1) := by decide +kernel
theorem dX8_copy_183 : decode cX8_copy 183 = .ok (.aload_n 0, 1) := by decide +kernel
theorem dX8_copy_184 : decode cX8_copy 184 = .ok (.getfield 16, 3) := by decide +kernel
theorem dX8_copy_187 : decode cX8_copy 187 = .ok (.bipush 40, 2) := by decide +kernel
theorem dX8_copy_189 : decode cX8_copy 189 = .ok (.iload_n 1, 1) := by decide +kernel
theorem dX8_copy_190 : decode cX8_copy 190 = .ok (.imul, 1) := by decide +kernel
theorem dX8_copy_191 : decode cX8_copy 191 = .ok (.iload_n 2, 1) := by decide +kernel
theorem dX8_copy_192 : decode cX8_copy 192 = .ok (.iadd, 1) := by decide +kernel
theorem dX8_copy_193 : decode cX8_copy 193 = .ok (.iload 8, 2) := by decide +kernel
theorem dX8_copy_195 : decode cX8_copy 195 = .ok (.iadd, 1) := by decide +kernel
theorem dX8_copy_196 : decode cX8_copy 196 = .ok (.iaload, 1) := by decide +kernel
theorem dX8_copy_197 : decode cX8_copy 197 = .ok (.iastore, 1) := by decide +kernel
theorem dX8_copy_198 : decode cX8_copy 198 = .ok (.iinc 7 1, 3) := by decide +kernel
theorem dX8_copy_201 : decode cX8_copy 201 = .ok (.goto (-58), 3) := by decide +kernel
theorem dX8_copy_204 : decode cX8_copy 204 = .ok (.iload 5, 2) := by decide +kernel
theorem dX8_copy_206 : decode cX8_copy 206 = .ok (.ireturn, 1) := by decide +kernel
theorem dX8_drop_0 : decode cX8_drop 0 = .ok (.aload_n 0, 1) := by decide +kernel
theorem dX8_drop_1 : decode cX8_drop 1 = .ok (.iconst 0, 1) := by decide +kernel
theorem dX8_drop_2 : decode cX8_drop 2 = .ok (.putfield 59, 3) := by decide +kernel
theorem dX8_drop_5 : decode cX8_drop 5 = .ok (.iload_n 1, 1) := by decide +kernel
theorem dX8_drop_6 : decode cX8_drop 6 = .ok (.invokestatic 73, 3) := by decide +kernel
theorem dX8_drop_9 : decode cX8_drop 9 = .ok (.ifCond .ne 6, 3) := by decide +kernel
theorem dX8_drop_12 : decode cX8_drop 12 = .ok (.ldc 79, 2) := by decide +kernel
theorem dX8_drop_14 : decode cX8_drop 14 = .ok (.ireturn, 1) := by decide +kernel
theorem dX8_drop_15 : decode cX8_drop 15 = .ok (.aload_n 0, 1) := by decide +kernel
theorem dX8_drop_16 : decode cX8_drop 16 = .ok (.iconst 0, 1) := by decide +kernel
theorem dX8_drop_17 : decode cX8_drop 17 = .ok (.putfield 63, 3) := by decide +kernel
theorem dX8_drop_20 : decode cX8_drop 20 = .ok (.aload_n 0, 1) := by decide +kernel
theorem dX8_drop_21 : decode cX8_drop 21 = .ok (.getfield 7, 3) := by decide +kernel
theorem dX8_drop_24 : decode cX8_drop 24 = .ok (.iload_n 1, 1) := by decide +kernel
theorem dX8_drop_25 : decode cX8_drop 25 = .ok (.iaload, 1) := by decide +kernel
theorem dX8_drop_26 : decode cX8_drop 26 = .ok (.ifCond .ge 9, 3) := by decide +kernel
theorem dX8_drop_29 : decode cX8_drop 29 = .ok (.aload_n 0, 1) := by decide +kernel
theorem dX8_drop_30 : decode cX8_drop 30 = .ok (.iconst 1, 1) := by decide +kernel
theorem dX8_drop_31 : decode cX8_drop 31 = .ok (.invokevirtual 80, 3) := by decide +kernel
theorem dX8_drop_34 : decode cX8_drop 34 = .ok (.ireturn, 1) := by decide +kernel
theorem dX8_drop_35 : decode cX8_drop 35 = .ok (.aload_n 0, 1) := by decide +kernel
theorem dX8_drop_36 : decode cX8_drop 36 = .ok (.getfield 7, 3) := by decide +kernel
theorem dX8_drop_39 : decode cX8_drop 39 = .ok (.iload_n 1, 1) := by decide +kernel
theorem dX8_drop_40 : decode cX8_drop 40 = .ok (.iconst (-1), 1) := by decide +kernel
theorem dX8_drop_41 : decode cX8_drop 41 = .ok (.iastore, 1) := by decide +kernel
theorem dX8_drop_42 : decode cX8_drop 42 = .ok (.aload_n 0, 1) := by decide +kernel
theorem dX8_drop_43 : decode cX8_drop 43 = .ok (.getfield 13, 3) := by decide +kernel
theorem dX8_drop_46 : decode cX8_drop 46 = .ok (.iload_n 1, 1) := by decide +kernel
theorem dX8_drop_47 : decode cX8_drop 47 = .ok (.iaload, 1) := by decide +kernel
theorem dX8_drop_48 : decode cX8_drop 48 = .ok (.ireturn, 1) := by decide +kernel
theorem dX8_feed_0 : decode cX8_feed 0 = .ok (.aload_n 0, 1) := by decide +kernel
theorem dX8_feed_1 : decode cX8_feed 1 = .ok (.iconst 0, 1) := by decide +kernel
theorem dX8_feed_2 : decode cX8_feed 2 = .ok (.putfield 59, 3) := by decide +kernel
theorem dX8_feed_5 : decode cX8_feed 5 = .ok (.iload_n 3, 1) := by decide +kernel
theorem dX8_feed_6 : decode cX8_feed 6 = .ok (.i2l, 1) := by decide +kernel
theorem dX8_feed_7 : decode cX8_feed 7 = .ok (.lconst 1, 1) := by decide +kernel
theorem dX8_feed_8 : decode cX8_feed 8 = .ok (.ldc2_w 84, 3) := by decide +kernel
theorem dX8_feed_11 : decode cX8_feed 11 = .ok (.invokestatic 69, 3) := by decide +kernel
theorem dX8_feed_14 : decode cX8_feed 14 = .ok (.ifCond .ne 6, 3) := by decide +kernel
theorem dX8_feed_17 : decode cX8_feed 17 = .ok (.ldc 79, 2) := by decide +kernel
theorem dX8_feed_19 : decode cX8_feed 19 = .ok (.ireturn, 1) := by decide +kernel
theorem dX8_feed_20 : decode cX8_feed 20 = .ok (.aload_n 0, 1) := by decide +kernel
theorem dX8_feed_21 : decode cX8_feed 21 = .ok (.getfield 86, 3) := by decide +kernel
theorem dX8_feed_24 : decode cX8_feed 24 = .ok (.iload_n 3, 1) := by decide +kernel
theorem dX8_feed_25 : decode cX8_feed 25 = .ok (.iadd, 1) := by decide +kernel
theorem dX8_feed_26 : decode cX8_feed 26 = .ok (.sipush 400, 3) := by decide +kernel
theorem dX8_feed_29 : decode cX8_feed 29 = .ok (.if_icmp .le 6, 3) := by decide +kernel
theorem dX8_feed_32 : decode cX8_feed 32 = .ok (.ldc 89, 2) := by decide +kernel
theorem dX8_feed_34 : decode cX8_feed 34 = .ok (.ireturn, 1) := by decide +kernel
theorem dX8_feed_35 : decode cX8_feed 35 = .ok (.iload_n 3, 1) := by decide +kernel
theorem dX8_feed_36 : decode cX8_feed 36 = .ok (.iconst 1, 1) := by decide +kernel
theorem dX8_feed_37 : decode cX8_feed 37 = .ok (.isub, 1) := by decide +kernel
theorem dX8_feed_38 : decode cX8_feed 38 = .ok (.istore 4, 2) := by decide +kernel
theorem dX8_feed_40 : decode cX8_feed 40 = .ok (.iload 4, 2) := by decide +kernel
theorem dX8_feed_42 : decode cX8_feed 42 = .ok (.ifCond .lt 40, 3) := by decide +kernel
theorem dX8_feed_45 : decode cX8_feed 45 = .ok (.aload_n 0, 1) := by decide +kernel
theorem dX8_feed_46 : decode cX8_feed 46 = .ok (.getfield 28, 3) := by decide +kernel
theorem dX8_feed_49 : decode cX8_feed 49 = .ok (.aload_n 0, 1) := by decide +kernel
theorem dX8_feed_50 : decode cX8_feed 50 = .ok (.getfield 86, 3) := by decide +kernel
theorem dX8_feed_53 : decode cX8_feed 53 = .ok (.lload_n 1, 1) := by decide +kernel
theorem dX8_feed_54 : decode cX8_feed 54 = .ok (.bipush 8, 2) := by decide +kernel
theorem dX8_feed_56 : decode cX8_feed 56 = .ok (.iload 4, 2) := by decide +kernel
theorem dX8_feed_58 : decode cX8_feed 58 = .ok (.imul, 1) := by decide +kernel
theorem dX8_feed_59 : decode cX8_feed 59 = .ok (.lshr, 1) := by decide +kernel
theorem dX8_feed_60 : decode cX8_feed 60 = .ok (.ldc2_w 90, 3) := by decide +kernel
theorem dX8_feed_63 : decode cX8_feed 63 = .ok (.land, 1) := by decide +kernel
theorem dX8_feed_64 : decode cX8_feed 64 = .ok (.l2i, 1) := by decide +kernel
theorem dX8_feed_65 : decode cX8_feed 65 = .ok (.iastore, 1) := by decide +kernel
theorem dX8_feed_66 : decode cX8_feed 66 = .ok (.aload_n 0, 1) := by decide +kernel
theorem dX8_feed_67 : decode cX8_feed 67 = .ok (.dup, 1) := by decide +kernel
theorem dX8_feed_68 : decode cX8_feed 68 = .ok (.getfield 86, 3) := by decide +kernel
theorem dX8_feed_71 : decode cX8_feed 71 = .ok (.iconst 1, 1) := by decide +kernel
theorem dX8_feed_72 : decode cX8_feed 72 = .ok (.iadd, 1) := by decide +kernel
theorem dX8_feed_73 : decode cX8_feed 73 = .ok (.putfield 86, 3) := by decide +kernel
theorem dX8_feed_76 : decode cX8_feed 76 = .ok (.iinc 4 (-1), 3) := by decide +kernel
theorem dX8_feed_79 : decode cX8_feed 79 = .ok (.goto (-39), 3) := by decide +kernel
theorem dX8_feed_82 : decode cX8_feed 82 = .ok (.aload_n 0, 1) := by decide +kernel
theorem dX8_feed_83 : decode cX8_feed 83 = .ok (.getfield 86, 3) := by decide +kernel
theorem dX8_feed_86 : decode cX8_feed 86 = .ok (.ireturn, 1) := by decide +kernel
theorem dX8_byteAt_0 : decode cX8_byteAt 0 = .ok (.iload_n 1, 1) := by decide +kernel
theorem dX8_byteAt_1 : decode cX8_byteAt 1 = .ok (.aload_n 0, 1) := by decide +kernel
theorem dX8_byteAt_2 : decode cX8_byteAt 2 = .ok (.getfield 92, 3) := by decide +kernel
theorem dX8_byteAt_5 : decode cX8_byteAt 5 = .ok (.if_icmp .ge 12, 3) := by decide +kernel
theorem dX8_byteAt_8 : decode cX8_byteAt 8 = .ok (.aload_n 0, 1) := by decide +kernel
theorem dX8_byteAt_9 : decode cX8_byteAt 9 = .ok (.getfield 28, 3) := by decide +kernel
theorem dX8_byteAt_12 : decode cX8_byteAt 12 = .ok (.iload_n 1, 1) := by decide +kernel
theorem dX8_byteAt_13 : decode cX8_byteAt 13 = .ok (.iaload, 1) := by decide +kernel
theorem dX8_byteAt_14 : decode cX8_byteAt 14 = .ok (.goto 5, 3) := by decide +kernel
theorem dX8_byteAt_17 : decode cX8_byteAt 17 = .ok (.ldc 95, 2) := by decide +kernel
theorem dX8_byteAt_19 : decode cX8_byteAt 19 = .ok (.ireturn, 1) := by decide +kernel
theorem dX8_isLetter_0 : decode cX8_isLetter 0 = .ok (.iload_n 0, 1) := by decide +kernel
theorem dX8_isLetter_1 : decode cX8_isLetter 1 = .ok (.bipush 97, 2) := by decide +kernel
theorem dX8_isLetter_3 : decode cX8_isLetter 3 = .ok (.if_icmp .lt 13, 3) := by decide +kernel
theorem dX8_isLetter_6 : decode cX8_isLetter 6 = .ok (.iload_n 0, 1) := by decide +kernel
theorem dX8_isLetter_7 : decode cX8_isLetter 7 = .ok (.bipush 122, 2) := by decide +kernel
theorem dX8_isLetter_9 : decode cX8_isLetter 9 = .ok (.if_icmp .gt 7, 3) := by decide +kernel
theorem dX8_isLetter_12 : decode cX8_isLetter 12 = .ok (.iconst 1, 1) := by decide +kernel
theorem dX8_isLetter_13 : decode cX8_isLetter 13 = .ok (.goto 4, 3) := by decide +kernel
theorem dX8_isLetter_16 : decode cX8_isLetter 16 = .ok (.iconst 0, 1) := by decide +kernel
theorem dX8_isLetter_17 : decode cX8_isLetter 17 = .ok (.ireturn, 1) := by decide +kernel
theorem dX8_isFigure_0 : decode cX8_isFigure 0 = .ok (.iload_n 0, 1) := by decide +kernel
theorem dX8_isFigure_1 : decode cX8_isFigure 1 = .ok (.bipush 48, 2) := by decide +kernel
theorem dX8_isFigure_3 : decode cX8_isFigure 3 = .ok (.if_icmp .lt 13, 3) := by decide +kernel
theorem dX8_isFigure_6 : decode cX8_isFigure 6 = .ok (.iload_n 0, 1) := by decide +kernel
theorem dX8_isFigure_7 : decode cX8_isFigure 7 = .ok (.bipush 57, 2) := by decide +kernel
theorem dX8_isFigure_9 : decode cX8_isFigure 9 = .ok (.if_icmp .gt 7, 3) := by decide +kernel
theorem dX8_isFigure_12 : decode cX8_isFigure 12 = .ok (.iconst 1, 1) := by decide +kernel
theorem dX8_isFigure_13 : decode cX8_isFigure 13 = .ok (.goto 4, 3) := by decide +kernel
theorem dX8_isFigure_16 : decode cX8_isFigure 16 = .ok (.iconst 0, 1) := by decide +kernel
theorem dX8_isFigure_17 : decode cX8_isFigure 17 = .ok (.ireturn, 1) := by decide +kernel
theorem dX8_next_0 : decode cX8_next 0 = .ok (.aload_n 0, 1) := by decide +kernel
theorem dX8_next_1 : decode cX8_next 1 = .ok (.aload_n 0, 1) := by decide +kernel
theorem dX8_next_2 : decode cX8_next 2 = .ok (.getfield 96, 3) := by decide +kernel
theorem dX8_next_5 : decode cX8_next 5 = .ok (.invokevirtual 99, 3) := by decide +kernel
theorem dX8_next_8 : decode cX8_next 8 = .ok (.bipush 32, 2) := by decide +kernel
theorem dX8_next_10 : decode cX8_next 10 = .ok (.if_icmp .eq 16, 3) := by decide +kernel
theorem dX8_next_13 : decode cX8_next 13 = .ok (.aload_n 0, 1) := by decide +kernel
theorem dX8_next_14 : decode cX8_next 14 = .ok (.aload_n 0, 1) := by decide +kernel
theorem dX8_next_15 : decode cX8_next 15 = .ok (.getfield 96, 3) := by decide +kernel
theorem dX8_next_18 : decode cX8_next 18 = .ok (.invokevirtual 99, 3) := by decide +kernel
theorem dX8_next_21 : decode cX8_next 21 = .ok (.bipush 10, 2) := by decide +kernel
theorem dX8_next_23 : decode cX8_next 23 = .ok (.if_icmp .ne 16, 3) := by decide +kernel
theorem dX8_next_26 : decode cX8_next 26 = .ok (.aload_n 0, 1) := by decide +kernel
theorem dX8_next_27 : decode cX8_next 27 = .ok (.dup, 1) := by decide +kernel
theorem dX8_next_28 : decode cX8_next 28 = .ok (.getfield 96, 3) := by decide +kernel
theorem dX8_next_31 : decode cX8_next 31 = .ok (.iconst 1, 1) := by decide +kernel
theorem dX8_next_32 : decode cX8_next 32 = .ok (.iadd, 1) := by decide +kernel
theorem dX8_next_33 : decode cX8_next 33 = .ok (.putfield 96, 3) := by decide +kernel
theorem dX8_next_36 : decode cX8_next 36 = .ok (.goto (-36), 3) := by decide +kernel
theorem dX8_next_39 : decode cX8_next 39 = .ok (.aload_n 0, 1) := by decide +kernel
theorem dX8_next_40 : decode cX8_next 40 = .ok (.aload_n 0, 1) := by decide +kernel
theorem dX8_next_41 : decode cX8_next 41 = .ok (.getfield 96, 3) := by decide +kernel
theorem dX8_next_44 : decode cX8_next 44 = .ok (.putfield 102, 3) := by decide +kernel
theorem dX8_next_47 : decode cX8_next 47 = .ok (.aload_n 0, 1) := by decide +kernel
theorem dX8_next_48 : decode cX8_next 48 = .ok (.aload_n 0, 1) := by decide +kernel
theorem dX8_next_49 : decode cX8_next 49 = .ok (.getfield 96, 3) := by decide +kernel
theorem dX8_next_52 : decode cX8_next 52 = .ok (.invokevirtual 99, 3) := by decide +kernel
theorem dX8_next_55 : decode cX8_next 55 = .ok (.istore_n 1, 1) := by decide +kernel
theorem dX8_next_56 : decode cX8_next 56 = .ok (.iload_n 1, 1) := by decide +kernel
theorem dX8_next_57 : decode cX8_next 57 = .ok (.ldc 95, 2) := by decide +kernel
theorem dX8_next_59 : decode cX8_next 59 = .ok (.if_icmp .ne 11, 3) := by decide +kernel
theorem dX8_next_62 : decode cX8_next 62 = .ok (.aload_n 0, 1) := by decide +kernel
theorem dX8_next_63 : decode cX8_next 63 = .ok (.iconst 1, 1) := by decide +kernel
theorem dX8_next_64 : decode cX8_next 64 = .ok (.putfield 105, 3) := by decide +kernel
theorem dX8_next_67 : decode cX8_next 67 = .ok (.goto 129, 3) := by decide +kernel
theorem dX8_next_70 : decode cX8_next 70 = .ok (.iload_n 1, 1) := by decide +kernel
theorem dX8_next_71 : decode cX8_next 71 = .ok (.invokestatic 108, 3) := by decide +kernel
theorem dX8_next_74 : decode cX8_next 74 = .ok (.ifCond .eq 38, 3) := by decide +kernel
theorem dX8_next_77 : decode cX8_next 77 = .ok (.aload_n 0, 1) := by decide +kernel
theorem dX8_next_78 : decode cX8_next 78 = .ok (.aload_n 0, 1) := by decide +kernel
theorem dX8_next_79 : decode cX8_next 79 = .ok (.getfield 96, 3) := by decide +kernel
theorem dX8_next_82 : decode cX8_next 82 = .ok (.invokevirtual 99, 3) := by decide +kernel
theorem dX8_next_85 : decode cX8_next 85 = .ok (.invokestatic 108, 3) := by decide +kernel
theorem dX8_next_88 : decode cX8_next 88 = .ok (.ifCond .eq 16, 3) := by decide +kernel
theorem dX8_next_91 : decode cX8_next 91 = .ok (.aload_n 0, 1) := by decide +kernel
theorem dX8_next_92 : decode cX8_next 92 = .ok (.dup, 1) := by decide +kernel
theorem dX8_next_93 : decode cX8_next 93 = .ok (.getfield 96, 3) := by decide +kernel
theorem dX8_next_96 : decode cX8_next 96 = .ok (.iconst 1, 1) := by decide +kernel
theorem dX8_next_97 : decode cX8_next 97 = .ok (.iadd, 1) := by decide +kernel
theorem dX8_next_98 : decode cX8_next 98 = .ok (.putfield 96, 3) := by decide +kernel
theorem dX8_next_101 : decode cX8_next 101 = .ok (.goto (-24), 3) := by decide +kernel
theorem dX8_next_104 : decode cX8_next 104 = .ok (.aload_n 0, 1) := by decide +kernel
theorem dX8_next_105 : decode cX8_next 105 = .ok (.iconst 2, 1) := by decide +kernel
theorem dX8_next_106 : decode cX8_next 106 = .ok (.putfield 105, 3) := by decide +kernel
theorem dX8_next_109 : decode cX8_next 109 = .ok (.goto 87, 3) := by decide +kernel
theorem dX8_next_112 : decode cX8_next 112 = .ok (.iload_n 1, 1) := by decide +kernel
theorem dX8_next_113 : decode cX8_next 113 = .ok (.invokestatic 111, 3) := by decide +kernel
theorem dX8_next_116 : decode cX8_next 116 = .ok (.ifCond .eq 55, 3) := by decide +kernel
theorem dX8_next_119 : decode cX8_next 119 = .ok (.aload_n 0, 1) := by decide +kernel
theorem dX8_next_120 : decode cX8_next 120 = .ok (.aload_n 0, 1) := by decide +kernel
theorem dX8_next_121 : decode cX8_next 121 = .ok (.getfield 96, 3) := by decide +kernel
theorem dX8_next_124 : decode cX8_next 124 = .ok (.invokevirtual 99, 3) := by decide +kernel
theorem dX8_next_127 : decode cX8_next 127 = .ok (.invokestatic 111, 3) := by decide +kernel
theorem dX8_next_130 : decode cX8_next 130 = .ok (.ifCond .eq 16, 3) := by decide +kernel
theorem dX8_next_133 : decode cX8_next 133 = .ok (.aload_n 0, 1) := by decide +kernel
theorem dX8_next_134 : decode cX8_next 134 = .ok (.dup, 1) := by decide +kernel
theorem dX8_next_135 : decode cX8_next 135 = .ok (.getfield 96, 3) := by decide +kernel
theorem dX8_next_138 : decode cX8_next 138 = .ok (.iconst 1, 1) := by decide +kernel
theorem dX8_next_139 : decode cX8_next 139 = .ok (.iadd, 1) := by decide +kernel
theorem dX8_next_140 : decode cX8_next 140 = .ok (.putfield 96, 3) := by decide +kernel
theorem dX8_next_143 : decode cX8_next 143 = .ok (.goto (-24), 3) := by decide +kernel
theorem dX8_next_146 : decode cX8_next 146 = .ok (.aload_n 0, 1) := by decide +kernel
theorem dX8_next_147 : decode cX8_next 147 = .ok (.aload_n 0, 1) := by decide +kernel
theorem dX8_next_148 : decode cX8_next 148 = .ok (.getfield 96, 3) := by decide +kernel
theorem dX8_next_151 : decode cX8_next 151 = .ok (.aload_n 0, 1) := by decide +kernel
theorem dX8_next_152 : decode cX8_next 152 = .ok (.getfield 102, 3) := by decide +kernel
theorem dX8_next_155 : decode cX8_next 155 = .ok (.isub, 1) := by decide +kernel
theorem dX8_next_156 : decode cX8_next 156 = .ok (.iconst 3, 1) := by decide +kernel
theorem dX8_next_157 : decode cX8_next 157 = .ok (.if_icmp .le 7, 3) := by decide +kernel
theorem dX8_next_160 : decode cX8_next 160 = .ok (.iconst 0, 1) := by decide +kernel
theorem dX8_next_161 : decode cX8_next 161 = .ok (.goto 4, 3) := by decide +kernel
theorem dX8_next_164 : decode cX8_next 164 = .ok (.iconst 3, 1) := by decide +kernel
theorem dX8_next_165 : decode cX8_next 165 = .ok (.putfield 105, 3) := by decide +kernel
theorem dX8_next_168 : decode cX8_next 168 = .ok (.goto 28, 3) := by decide +kernel
theorem dX8_next_171 : decode cX8_next 171 = .ok (.aload_n 0, 1) := by decide +kernel
theorem dX8_next_172 : decode cX8_next 172 = .ok (.dup, 1) := by decide +kernel
theorem dX8_next_173 : decode cX8_next 173 = .ok (.getfield 96, 3) := by decide +kernel
theorem dX8_next_176 : decode cX8_next 176 = .ok (.iconst 1, 1) := by decide +kernel
theorem dX8_next_177 : decode cX8_next 177 = .ok (.iadd, 1) := by decide +kernel
theorem dX8_next_178 : decode cX8_next 178 = .ok (.putfield 96, 3) := by decide +kernel
theorem dX8_next_181 : decode cX8_next 181 = .ok (.aload_n 0, 1) := by decide +kernel
theorem dX8_next_182 : decode cX8_next 182 = .ok (.iload_n 1, 1) := by decide +kernel
theorem dX8_next_183 : decode cX8_next 183 = .ok (.bipush 59, 2) := by decide +kernel
theorem dX8_next_185 : decode cX8_next 185 = .ok (.if_icmp .ne 7, 3) := by decide +kernel
theorem dX8_next_188 : decode cX8_next 188 = .ok (.iconst 4, 1) := by decide +kernel
theorem dX8_next_189 : decode cX8_next 189 = .ok (.goto 4, 3) := by decide +kernel
theorem dX8_next_192 : decode cX8_next 192 = .ok (.iconst 0, 1) := by decide +kernel
theorem dX8_next_193 : decode cX8_next 193 = .ok (.putfield 105, 3) := by decide +kernel
theorem dX8_next_196 : decode cX8_next 196 = .ok (.aload_n 0, 1) := by decide +kernel
theorem dX8_next_197 : decode cX8_next 197 = .ok (.aload_n 0, 1) := by decide +kernel
theorem dX8_next_198 : decode cX8_next 198 = .ok (.getfield 96, 3) := by decide +kernel
theorem dX8_next_201 : decode cX8_next 201 = .ok (.putfield 114, 3) := by decide +kernel
theorem dX8_next_204 : decode cX8_next 204 = .ok (.return_, 1) := by decide +kernel
theorem dX8_begin_0 : decode cX8_begin 0 = .ok (.aload_n 0, 1) := by decide +kernel
theorem dX8_begin_1 : decode cX8_begin 1 = .ok (.aload_n 0, 1) := by decide +kernel
theorem dX8_begin_2 : decode cX8_begin 2 = .ok (.getfield 86, 3) := by decide +kernel
theorem dX8_begin_5 : decode cX8_begin 5 = .ok (.putfield 92, 3) := by decide +kernel
theorem dX8_begin_8 : decode cX8_begin 8 = .ok (.aload_n 0, 1) := by decide +kernel
theorem dX8_begin_9 : decode cX8_begin 9 = .ok (.iconst 0, 1) := by decide +kernel
theorem dX8_begin_10 : decode cX8_begin 10 = .ok (.putfield 86, 3) := by decide +kernel
theorem dX8_begin_13 : decode cX8_begin 13 = .ok (.aload_n 0, 1) := by decide +kernel
theorem dX8_begin_14 : decode cX8_begin 14 = .ok (.iconst 0, 1) := by decide +kernel
theorem dX8_begin_15 : decode cX8_begin 15 = .ok (.putfield 96, 3) := by decide +kernel
theorem dX8_begin_18 : decode cX8_begin 18 = .ok (.aload_n 0, 1) := by decide +kernel
theorem dX8_begin_19 : decode cX8_begin 19 = .ok (.iconst 0, 1) := by decide +kernel
theorem dX8_begin_20 : decode cX8_begin 20 = .ok (.putfield 117, 3) := by decide +kernel
theorem dX8_begin_23 : decode cX8_begin 23 = .ok (.aload_n 0, 1) := by decide +kernel
theorem dX8_begin_24 : decode cX8_begin 24 = .ok (.invokevirtual 120, 3) := by decide +kernel
theorem dX8_begin_27 : decode cX8_begin 27 = .ok (.return_, 1) := by decide +kernel
theorem dX8_bad_0 : decode cX8_bad 0 = .ok (.aload_n 0, 1) := by decide +kernel
theorem dX8_bad_1 : decode cX8_bad 1 = .ok (.getfield 117, 3) := by decide +kernel
theorem dX8_bad_4 : decode cX8_bad 4 = .ok (.ifCond .ne 16, 3) := by decide +kernel
theorem dX8_bad_7 : decode cX8_bad 7 = .ok (.aload_n 0, 1) := by decide +kernel
theorem dX8_bad_8 : decode cX8_bad 8 = .ok (.iload_n 1, 1) := by decide +kernel
theorem dX8_bad_9 : decode cX8_bad 9 = .ok (.putfield 117, 3) := by decide +kernel
theorem dX8_bad_12 : decode cX8_bad 12 = .ok (.aload_n 0, 1) := by decide +kernel
theorem dX8_bad_13 : decode cX8_bad 13 = .ok (.aload_n 0, 1) := by decide +kernel
theorem dX8_bad_14 : decode cX8_bad 14 = .ok (.getfield 102, 3) := by decide +kernel
theorem dX8_bad_17 : decode cX8_bad 17 = .ok (.putfield 123, 3) := by decide +kernel
theorem dX8_bad_20 : decode cX8_bad 20 = .ok (.return_, 1) := by decide +kernel
theorem dX8_must_0 : decode cX8_must 0 = .ok (.iload_n 1, 1) := by decide +kernel
theorem dX8_must_1 : decode cX8_must 1 = .ok (.ifCond .ne 8, 3) := by decide +kernel
theorem dX8_must_4 : decode cX8_must 4 = .ok (.aload_n 0, 1) := by decide +kernel
theorem dX8_must_5 : decode cX8_must 5 = .ok (.iconst 1, 1) := by decide +kernel
theorem dX8_must_6 : decode cX8_must 6 = .ok (.invokevirtual 126, 3) := by decide +kernel
theorem dX8_must_9 : decode cX8_must 9 = .ok (.aload_n 0, 1) := by decide +kernel
theorem dX8_must_10 : decode cX8_must 10 = .ok (.getfield 117, 3) := by decide +kernel
theorem dX8_must_13 : decode cX8_must 13 = .ok (.ifCond .ne 7, 3) := by decide +kernel
theorem dX8_must_16 : decode cX8_must 16 = .ok (.aload_n 0, 1) := by decide +kernel
theorem dX8_must_17 : decode cX8_must 17 = .ok (.invokevirtual 120, 3) := by decide +kernel
theorem dX8_must_20 : decode cX8_must 20 = .ok (.return_, 1) := by decide +kernel
theorem dX8_name_0 : decode cX8_name 0 = .ok (.lconst 0, 1) := by decide +kernel
theorem dX8_name_1 : decode cX8_name 1 = .ok (.lstore_n 1, 1) := by decide +kernel
theorem dX8_name_2 : decode cX8_name 2 = .ok (.aload_n 0, 1) := by decide +kernel
theorem dX8_name_3 : decode cX8_name 3 = .ok (.getfield 102, 3) := by decide +kernel
theorem dX8_name_6 : decode cX8_name 6 = .ok (.istore_n 3, 1) := by decide +kernel
theorem dX8_name_7 : decode cX8_name 7 = .ok (.iload_n 3, 1) := by decide +kernel
theorem dX8_name_8 : decode cX8_name 8 = .ok (.aload_n 0, 1) := by decide +kernel
theorem dX8_name_9 : decode cX8_name 9 = .ok (.getfield 114, 3) := by decide +kernel
theorem dX8_name_12 : decode cX8_name 12 = .ok (.if_icmp .ge 44, 3) := by decide +kernel
theorem dX8_name_15 : decode cX8_name 15 = .ok (.aload_n 0, 1) := by decide +kernel
theorem dX8_name_16 : decode cX8_name 16 = .ok (.getfield 105, 3) := by decide +kernel
theorem dX8_name_19 : decode cX8_name 19 = .ok (.iconst 2, 1) := by decide +kernel
theorem dX8_name_20 : decode cX8_name 20 = .ok (.if_icmp .ne 36, 3) := by decide +kernel
theorem dX8_name_23 : decode cX8_name 23 = .ok (.aload_n 0, 1) := by decide +kernel
theorem dX8_name_24 : decode cX8_name 24 = .ok (.getfield 114, 3) := by decide +kernel
theorem dX8_name_27 : decode cX8_name 27 = .ok (.aload_n 0, 1) := by decide +kernel
theorem dX8_name_28 : decode cX8_name 28 = .ok (.getfield 102, 3) := by decide +kernel
theorem dX8_name_31 : decode cX8_name 31 = .ok (.isub, 1) := by decide +kernel
theorem dX8_name_32 : decode cX8_name 32 = .ok (.bipush 8, 2) := by decide +kernel
theorem dX8_name_34 : decode cX8_name 34 = .ok (.if_icmp .ge 22, 3) := by decide +kernel
theorem dX8_name_37 : decode cX8_name 37 = .ok (.lload_n 1, 1) := by decide +kernel
theorem dX8_name_38 : decode cX8_name 38 = .ok (.bipush 8, 2) := by decide +kernel
theorem dX8_name_40 : decode cX8_name 40 = .ok (.lshl, 1) := by decide +kernel
theorem dX8_name_41 : decode cX8_name 41 = .ok (.aload_n 0, 1) := by decide +kernel
theorem dX8_name_42 : decode cX8_name 42 = .ok (.getfield 28, 3) := by decide +kernel
theorem dX8_name_45 : decode cX8_name 45 = .ok (.iload_n 3, 1) := by decide +kernel
theorem dX8_name_46 : decode cX8_name 46 = .ok (.iaload, 1) := by decide +kernel
theorem dX8_name_47 : decode cX8_name 47 = .ok (.i2l, 1) := by decide +kernel
theorem dX8_name_48 : decode cX8_name 48 = .ok (.lor, 1) := by decide +kernel
theorem dX8_name_49 : decode cX8_name 49 = .ok (.lstore_n 1, 1) := by decide +kernel
theorem dX8_name_50 : decode cX8_name 50 = .ok (.iinc 3 1, 3) := by decide +kernel
theorem dX8_name_53 : decode cX8_name 53 = .ok (.goto (-46), 3) := by decide +kernel
theorem dX8_name_56 : decode cX8_name 56 = .ok (.aload_n 0, 1) := by decide +kernel
theorem dX8_name_57 : decode cX8_name 57 = .ok (.getfield 117, 3) := by decide +kernel
theorem dX8_name_60 : decode cX8_name 60 = .ok (.ifCond .ne 7, 3) := by decide +kernel
theorem dX8_name_63 : decode cX8_name 63 = .ok (.lload_n 1, 1) := by decide +kernel
theorem dX8_name_64 : decode cX8_name 64 = .ok (.goto 4, 3) := by decide +kernel
theorem dX8_name_67 : decode cX8_name 67 = .ok (.lconst 0, 1) := by decide +kernel
theorem dX8_name_68 : decode cX8_name 68 = .ok (.lreturn, 1) := by decide +kernel
theorem dX8_figures_0 : decode cX8_figures 0 = .ok (.iconst 0, 1) := by decide +kernel
theorem dX8_figures_1 : decode cX8_figures 1 = .ok (.istore_n 1, 1) := by decide +kernel
theorem dX8_figures_2 : decode cX8_figures 2 = .ok (.aload_n 0, 1) := by decide +kernel
theorem dX8_figures_3 : decode cX8_figures 3 = .ok (.getfield 102, 3) := by decide +kernel
theorem dX8_figures_6 : decode cX8_figures 6 = .ok (.istore_n 2, 1) := by decide +kernel
theorem dX8_figures_7 : decode cX8_figures 7 = .ok (.iload_n 2, 1) := by decide +kernel
theorem dX8_figures_8 : decode cX8_figures 8 = .ok (.aload_n 0, 1) := by decide +kernel
theorem dX8_figures_9 : decode cX8_figures 9 = .ok (.getfield 114, 3) := by decide +kernel
theorem dX8_figures_12 : decode cX8_figures 12 = .ok (.if_icmp .ge 32, 3) := by decide +kernel
theorem dX8_figures_15 : decode cX8_figures 15 = .ok (.aload_n 0, 1) := by decide +kernel
theorem dX8_figures_16 : decode cX8_figures 16 = .ok (.getfield 105, 3) := by decide +kernel
theorem dX8_figures_19 : decode cX8_figures 19 = .ok (.iconst 3, 1) := by decide +kernel
theorem dX8_figures_20 : decode cX8_figures 20 = .ok (.if_icmp .ne 24, 3) := by decide +kernel
theorem dX8_figures_23 : decode cX8_figures 23 = .ok (.bipush 10, 2) := by decide +kernel
theorem dX8_figures_25 : decode cX8_figures 25 = .ok (.iload_n 1, 1) := by decide +kernel
theorem dX8_figures_26 : decode cX8_figures 26 = .ok (.imul, 1) := by decide +kernel
theorem dX8_figures_27 : decode cX8_figures 27 = .ok (.aload_n 0, 1) := by decide +kernel
theorem dX8_figures_28 : decode cX8_figures 28 = .ok (.getfield 28, 3) := by decide +kernel
theorem dX8_figures_31 : decode cX8_figures 31 = .ok (.iload_n 2, 1) := by decide +kernel
theorem dX8_figures_32 : decode cX8_figures 32 = .ok (.iaload, 1) := by decide +kernel
theorem dX8_figures_33 : decode cX8_figures 33 = .ok (.iadd, 1) := by decide +kernel
theorem dX8_figures_34 : decode cX8_figures 34 = .ok (.bipush 48, 2) := by decide +kernel
theorem dX8_figures_36 : decode cX8_figures 36 = .ok (.isub, 1) := by decide +kernel
theorem dX8_figures_37 : decode cX8_figures 37 = .ok (.istore_n 1, 1) := by decide +kernel
theorem dX8_figures_38 : decode cX8_figures 38 = .ok (.iinc 2 1, 3) := by decide +kernel
theorem dX8_figures_41 : decode cX8_figures 41 = .ok (.goto (-34), 3) := by decide +kernel
theorem dX8_figures_44 : decode cX8_figures 44 = .ok (.iload_n 1, 1) := by decide +kernel
theorem dX8_figures_45 : decode cX8_figures 45 = .ok (.ireturn, 1) := by decide +kernel
theorem dX8_number_0 : decode cX8_number 0 = .ok (.aload_n 0, 1) := by decide +kernel
theorem dX8_number_1 : decode cX8_number 1 = .ok (.getfield 117, 3) := by decide +kernel
theorem dX8_number_4 : decode cX8_number 4 = .ok (.ifCond .le 5, 3) := by decide +kernel
theorem dX8_number_7 : decode cX8_number 7 = .ok (.iconst 0, 1) := by decide +kernel
theorem dX8_number_8 : decode cX8_number 8 = .ok (.ireturn, 1) := by decide +kernel
theorem dX8_number_9 : decode cX8_number 9 = .ok (.aload_n 0, 1) := by decide +kernel
theorem dX8_number_10 : decode cX8_number 10 = .ok (.invokevirtual 130, 3) := by decide +kernel
theorem dX8_number_13 : decode cX8_number 13 = .ok (.istore_n 3, 1) := by decide +kernel
theorem dX8_number_14 : decode cX8_number 14 = .ok (.aload_n 0, 1) := by decide +kernel
theorem dX8_number_15 : decode cX8_number 15 = .ok (.getfield 105, 3) := by decide +kernel
theorem dX8_number_18 : decode cX8_number 18 = .ok (.iconst 3, 1) := by decide +kernel
theorem dX8_number_19 : decode cX8_number 19 = .ok (.if_icmp .ne 20, 3) := by decide +kernel
end
section
/-! decode rows: X8 -/
theorem dX8_number_22 : decode cX8_number 22 = .ok (.iload_n 3, 1) := by decide +kernel
theorem dX8_number_23 : decode cX8_number 23 = .ok (.i2l, 1) := by decide +kernel
theorem dX8_number_24 : decode cX8_number 24 = .ok (.iload_n 1, 1) := by decide +kernel
theorem dX8_number_25 : decode cX8_number 25 = .ok (.i2l, 1) := by decide +kernel
theorem dX8_number_26 : decode cX8_number 26 = .ok (.iload_n 2, 1) := by decide +kernel
theorem dX8_number_27 : decode cX8_number 27 = .ok (.i2l, 1) := by decide +kernel
theorem dX8_number_28 : decode cX8_number 28 = .ok (.invokestatic 69, 3) := by decide +kernel
theorem dX8_number_31 : decode cX8_number 31 = .ok (.ifCond .ne 8, 3) := by decide +kernel
theorem dX8_number_34 : decode cX8_number 34 = .ok (.aload_n 0, 1) := by decide +kernel
theorem dX8_number_35 : decode cX8_number 35 = .ok (.iconst 2, 1) := by decide +kernel
theorem dX8_number_36 : decode cX8_number 36 = .ok (.invokevirtual 126, 3) := by decide +kernel
theorem dX8_number_39 : decode cX8_number 39 = .ok (.aload_n 0, 1) := by decide +kernel
theorem dX8_number_40 : decode cX8_number 40 = .ok (.aload_n 0, 1) := by decide +kernel
theorem dX8_number_41 : decode cX8_number 41 = .ok (.getfield 105, 3) := by decide +kernel
theorem dX8_number_44 : decode cX8_number 44 = .ok (.iconst 3, 1) := by decide +kernel
theorem dX8_number_45 : decode cX8_number 45 = .ok (.if_icmp .ne 7, 3) := by decide +kernel
theorem dX8_number_48 : decode cX8_number 48 = .ok (.iconst 1, 1) := by decide +kernel
theorem dX8_number_49 : decode cX8_number 49 = .ok (.goto 4, 3) := by decide +kernel
theorem dX8_number_52 : decode cX8_number 52 = .ok (.iconst 0, 1) := by decide +kernel
theorem dX8_number_53 : decode cX8_number 53 = .ok (.invokevirtual 134, 3) := by decide +kernel
theorem dX8_number_56 : decode cX8_number 56 = .ok (.iload_n 3, 1) := by decide +kernel
theorem dX8_number_57 : decode cX8_number 57 = .ok (.ireturn, 1) := by decide +kernel
theorem dX8_kindBy_0 : decode cX8_kindBy 0 = .ok (.lload_n 0, 1) := by decide +kernel
theorem dX8_kindBy_1 : decode cX8_kindBy 1 = .ok (.ldc2_w 138, 3) := by decide +kernel
theorem dX8_kindBy_4 : decode cX8_kindBy 4 = .ok (.lcmp, 1) := by decide +kernel
theorem dX8_kindBy_5 : decode cX8_kindBy 5 = .ok (.ifCond .ne 7, 3) := by decide +kernel
theorem dX8_kindBy_8 : decode cX8_kindBy 8 = .ok (.iconst 1, 1) := by decide +kernel
theorem dX8_kindBy_9 : decode cX8_kindBy 9 = .ok (.goto 53, 3) := by decide +kernel
theorem dX8_kindBy_12 : decode cX8_kindBy 12 = .ok (.lload_n 0, 1) := by decide +kernel
theorem dX8_kindBy_13 : decode cX8_kindBy 13 = .ok (.ldc2_w 140, 3) := by decide +kernel
theorem dX8_kindBy_16 : decode cX8_kindBy 16 = .ok (.lcmp, 1) := by decide +kernel
theorem dX8_kindBy_17 : decode cX8_kindBy 17 = .ok (.ifCond .ne 7, 3) := by decide +kernel
theorem dX8_kindBy_20 : decode cX8_kindBy 20 = .ok (.iconst 5, 1) := by decide +kernel
theorem dX8_kindBy_21 : decode cX8_kindBy 21 = .ok (.goto 41, 3) := by decide +kernel
theorem dX8_kindBy_24 : decode cX8_kindBy 24 = .ok (.lload_n 0, 1) := by decide +kernel
theorem dX8_kindBy_25 : decode cX8_kindBy 25 = .ok (.ldc2_w 142, 3) := by decide +kernel
theorem dX8_kindBy_28 : decode cX8_kindBy 28 = .ok (.lcmp, 1) := by decide +kernel
theorem dX8_kindBy_29 : decode cX8_kindBy 29 = .ok (.ifCond .ne 7, 3) := by decide +kernel
theorem dX8_kindBy_32 : decode cX8_kindBy 32 = .ok (.iconst 2, 1) := by decide +kernel
theorem dX8_kindBy_33 : decode cX8_kindBy 33 = .ok (.goto 29, 3) := by decide +kernel
theorem dX8_kindBy_36 : decode cX8_kindBy 36 = .ok (.lload_n 0, 1) := by decide +kernel
theorem dX8_kindBy_37 : decode cX8_kindBy 37 = .ok (.ldc2_w 144, 3) := by decide +kernel
theorem dX8_kindBy_40 : decode cX8_kindBy 40 = .ok (.lcmp, 1) := by decide +kernel
theorem dX8_kindBy_41 : decode cX8_kindBy 41 = .ok (.ifCond .ne 7, 3) := by decide +kernel
theorem dX8_kindBy_44 : decode cX8_kindBy 44 = .ok (.iconst 3, 1) := by decide +kernel
theorem dX8_kindBy_45 : decode cX8_kindBy 45 = .ok (.goto 17, 3) := by decide +kernel
theorem dX8_kindBy_48 : decode cX8_kindBy 48 = .ok (.lload_n 0, 1) := by decide +kernel
theorem dX8_kindBy_49 : decode cX8_kindBy 49 = .ok (.ldc2_w 146, 3) := by decide +kernel
theorem dX8_kindBy_52 : decode cX8_kindBy 52 = .ok (.lcmp, 1) := by decide +kernel
theorem dX8_kindBy_53 : decode cX8_kindBy 53 = .ok (.ifCond .ne 7, 3) := by decide +kernel
theorem dX8_kindBy_56 : decode cX8_kindBy 56 = .ok (.iconst 4, 1) := by decide +kernel
theorem dX8_kindBy_57 : decode cX8_kindBy 57 = .ok (.goto 5, 3) := by decide +kernel
theorem dX8_kindBy_60 : decode cX8_kindBy 60 = .ok (.ldc 95, 2) := by decide +kernel
theorem dX8_kindBy_62 : decode cX8_kindBy 62 = .ok (.ireturn, 1) := by decide +kernel
theorem dX8_mustEnd_0 : decode cX8_mustEnd 0 = .ok (.aload_n 0, 1) := by decide +kernel
theorem dX8_mustEnd_1 : decode cX8_mustEnd 1 = .ok (.getfield 117, 3) := by decide +kernel
theorem dX8_mustEnd_4 : decode cX8_mustEnd 4 = .ok (.ifCond .ne 20, 3) := by decide +kernel
theorem dX8_mustEnd_7 : decode cX8_mustEnd 7 = .ok (.aload_n 0, 1) := by decide +kernel
theorem dX8_mustEnd_8 : decode cX8_mustEnd 8 = .ok (.aload_n 0, 1) := by decide +kernel
theorem dX8_mustEnd_9 : decode cX8_mustEnd 9 = .ok (.getfield 105, 3) := by decide +kernel
theorem dX8_mustEnd_12 : decode cX8_mustEnd 12 = .ok (.iconst 4, 1) := by decide +kernel
theorem dX8_mustEnd_13 : decode cX8_mustEnd 13 = .ok (.if_icmp .ne 7, 3) := by decide +kernel
theorem dX8_mustEnd_16 : decode cX8_mustEnd 16 = .ok (.iconst 1, 1) := by decide +kernel
theorem dX8_mustEnd_17 : decode cX8_mustEnd 17 = .ok (.goto 4, 3) := by decide +kernel
theorem dX8_mustEnd_20 : decode cX8_mustEnd 20 = .ok (.iconst 0, 1) := by decide +kernel
theorem dX8_mustEnd_21 : decode cX8_mustEnd 21 = .ok (.invokevirtual 134, 3) := by decide +kernel
theorem dX8_mustEnd_24 : decode cX8_mustEnd 24 = .ok (.return_, 1) := by decide +kernel
theorem dX8_begins_0 : decode cX8_begins 0 = .ok (.aload_n 0, 1) := by decide +kernel
theorem dX8_begins_1 : decode cX8_begins 1 = .ok (.getfield 22, 3) := by decide +kernel
theorem dX8_begins_4 : decode cX8_begins 4 = .ok (.iload_n 1, 1) := by decide +kernel
theorem dX8_begins_5 : decode cX8_begins 5 = .ok (.iaload, 1) := by decide +kernel
theorem dX8_begins_6 : decode cX8_begins 6 = .ok (.iload_n 2, 1) := by decide +kernel
theorem dX8_begins_7 : decode cX8_begins 7 = .ok (.if_icmp .ne 8, 3) := by decide +kernel
theorem dX8_begins_10 : decode cX8_begins 10 = .ok (.aload_n 0, 1) := by decide +kernel
theorem dX8_begins_11 : decode cX8_begins 11 = .ok (.iconst 3, 1) := by decide +kernel
theorem dX8_begins_12 : decode cX8_begins 12 = .ok (.invokevirtual 126, 3) := by decide +kernel
theorem dX8_begins_15 : decode cX8_begins 15 = .ok (.aload_n 0, 1) := by decide +kernel
theorem dX8_begins_16 : decode cX8_begins 16 = .ok (.iconst 1, 1) := by decide +kernel
theorem dX8_begins_17 : decode cX8_begins 17 = .ok (.invokevirtual 134, 3) := by decide +kernel
theorem dX8_begins_20 : decode cX8_begins 20 = .ok (.return_, 1) := by decide +kernel
theorem dX8_readRoom_0 : decode cX8_readRoom 0 = .ok (.aload_n 0, 1) := by decide +kernel
theorem dX8_readRoom_1 : decode cX8_readRoom 1 = .ok (.iconst 0, 1) := by decide +kernel
theorem dX8_readRoom_2 : decode cX8_readRoom 2 = .ok (.bipush 6, 2) := by decide +kernel
theorem dX8_readRoom_4 : decode cX8_readRoom 4 = .ok (.invokevirtual 148, 3) := by decide +kernel
theorem dX8_readRoom_7 : decode cX8_readRoom 7 = .ok (.aload_n 0, 1) := by decide +kernel
theorem dX8_readRoom_8 : decode cX8_readRoom 8 = .ok (.iconst 0, 1) := by decide +kernel
theorem dX8_readRoom_9 : decode cX8_readRoom 9 = .ok (.bipush 99, 2) := by decide +kernel
theorem dX8_readRoom_11 : decode cX8_readRoom 11 = .ok (.invokevirtual 152, 3) := by decide +kernel
theorem dX8_readRoom_14 : decode cX8_readRoom 14 = .ok (.istore_n 1, 1) := by decide +kernel
theorem dX8_readRoom_15 : decode cX8_readRoom 15 = .ok (.aload_n 0, 1) := by decide +kernel
theorem dX8_readRoom_16 : decode cX8_readRoom 16 = .ok (.invokevirtual 156, 3) := by decide +kernel
theorem dX8_readRoom_19 : decode cX8_readRoom 19 = .ok (.aload_n 0, 1) := by decide +kernel
theorem dX8_readRoom_20 : decode cX8_readRoom 20 = .ok (.getfield 117, 3) := by decide +kernel
theorem dX8_readRoom_23 : decode cX8_readRoom 23 = .ok (.ifCond .ne 27, 3) := by decide +kernel
theorem dX8_readRoom_26 : decode cX8_readRoom 26 = .ok (.aload_n 0, 1) := by decide +kernel
theorem dX8_readRoom_27 : decode cX8_readRoom 27 = .ok (.getfield 22, 3) := by decide +kernel
theorem dX8_readRoom_30 : decode cX8_readRoom 30 = .ok (.iconst 4, 1) := by decide +kernel
theorem dX8_readRoom_31 : decode cX8_readRoom 31 = .ok (.aload_n 0, 1) := by decide +kernel
theorem dX8_readRoom_32 : decode cX8_readRoom 32 = .ok (.getfield 22, 3) := by decide +kernel
theorem dX8_readRoom_35 : decode cX8_readRoom 35 = .ok (.iconst 0, 1) := by decide +kernel
theorem dX8_readRoom_36 : decode cX8_readRoom 36 = .ok (.iaload, 1) := by decide +kernel
theorem dX8_readRoom_37 : decode cX8_readRoom 37 = .ok (.iadd, 1) := by decide +kernel
theorem dX8_readRoom_38 : decode cX8_readRoom 38 = .ok (.iload_n 1, 1) := by decide +kernel
theorem dX8_readRoom_39 : decode cX8_readRoom 39 = .ok (.iastore, 1) := by decide +kernel
theorem dX8_readRoom_40 : decode cX8_readRoom 40 = .ok (.aload_n 0, 1) := by decide +kernel
theorem dX8_readRoom_41 : decode cX8_readRoom 41 = .ok (.getfield 22, 3) := by decide +kernel
theorem dX8_readRoom_44 : decode cX8_readRoom 44 = .ok (.iconst 0, 1) := by decide +kernel
theorem dX8_readRoom_45 : decode cX8_readRoom 45 = .ok (.dup2, 1) := by decide +kernel
theorem dX8_readRoom_46 : decode cX8_readRoom 46 = .ok (.iaload, 1) := by decide +kernel
theorem dX8_readRoom_47 : decode cX8_readRoom 47 = .ok (.iconst 1, 1) := by decide +kernel
theorem dX8_readRoom_48 : decode cX8_readRoom 48 = .ok (.iadd, 1) := by decide +kernel
theorem dX8_readRoom_49 : decode cX8_readRoom 49 = .ok (.iastore, 1) := by decide +kernel
theorem dX8_readRoom_50 : decode cX8_readRoom 50 = .ok (.return_, 1) := by decide +kernel
theorem dX8_readDoor_0 : decode cX8_readDoor 0 = .ok (.aload_n 0, 1) := by decide +kernel
theorem dX8_readDoor_1 : decode cX8_readDoor 1 = .ok (.iconst 1, 1) := by decide +kernel
theorem dX8_readDoor_2 : decode cX8_readDoor 2 = .ok (.bipush 12, 2) := by decide +kernel
theorem dX8_readDoor_4 : decode cX8_readDoor 4 = .ok (.invokevirtual 148, 3) := by decide +kernel
theorem dX8_readDoor_7 : decode cX8_readDoor 7 = .ok (.aload_n 0, 1) := by decide +kernel
theorem dX8_readDoor_8 : decode cX8_readDoor 8 = .ok (.iconst 0, 1) := by decide +kernel
theorem dX8_readDoor_9 : decode cX8_readDoor 9 = .ok (.aload_n 0, 1) := by decide +kernel
theorem dX8_readDoor_10 : decode cX8_readDoor 10 = .ok (.getfield 22, 3) := by decide +kernel
theorem dX8_readDoor_13 : decode cX8_readDoor 13 = .ok (.iconst 0, 1) := by decide +kernel
theorem dX8_readDoor_14 : decode cX8_readDoor 14 = .ok (.iaload, 1) := by decide +kernel
theorem dX8_readDoor_15 : decode cX8_readDoor 15 = .ok (.iconst 1, 1) := by decide +kernel
theorem dX8_readDoor_16 : decode cX8_readDoor 16 = .ok (.isub, 1) := by decide +kernel
theorem dX8_readDoor_17 : decode cX8_readDoor 17 = .ok (.invokevirtual 152, 3) := by decide +kernel
theorem dX8_readDoor_20 : decode cX8_readDoor 20 = .ok (.istore_n 1, 1) := by decide +kernel
theorem dX8_readDoor_21 : decode cX8_readDoor 21 = .ok (.aload_n 0, 1) := by decide +kernel
theorem dX8_readDoor_22 : decode cX8_readDoor 22 = .ok (.getfield 117, 3) := by decide +kernel
theorem dX8_readDoor_25 : decode cX8_readDoor 25 = .ok (.ifCond .ne 24, 3) := by decide +kernel
theorem dX8_readDoor_28 : decode cX8_readDoor 28 = .ok (.aload_n 0, 1) := by decide +kernel
theorem dX8_readDoor_29 : decode cX8_readDoor 29 = .ok (.getfield 105, 3) := by decide +kernel
theorem dX8_readDoor_32 : decode cX8_readDoor 32 = .ok (.iconst 3, 1) := by decide +kernel
theorem dX8_readDoor_33 : decode cX8_readDoor 33 = .ok (.if_icmp .ne 16, 3) := by decide +kernel
theorem dX8_readDoor_36 : decode cX8_readDoor 36 = .ok (.aload_n 0, 1) := by decide +kernel
theorem dX8_readDoor_37 : decode cX8_readDoor 37 = .ok (.invokevirtual 130, 3) := by decide +kernel
theorem dX8_readDoor_40 : decode cX8_readDoor 40 = .ok (.iload_n 1, 1) := by decide +kernel
theorem dX8_readDoor_41 : decode cX8_readDoor 41 = .ok (.if_icmp .ne 8, 3) := by decide +kernel
theorem dX8_readDoor_44 : decode cX8_readDoor 44 = .ok (.aload_n 0, 1) := by decide +kernel
theorem dX8_readDoor_45 : decode cX8_readDoor 45 = .ok (.iconst 2, 1) := by decide +kernel
theorem dX8_readDoor_46 : decode cX8_readDoor 46 = .ok (.invokevirtual 126, 3) := by decide +kernel
theorem dX8_readDoor_49 : decode cX8_readDoor 49 = .ok (.aload_n 0, 1) := by decide +kernel
theorem dX8_readDoor_50 : decode cX8_readDoor 50 = .ok (.iconst 0, 1) := by decide +kernel
theorem dX8_readDoor_51 : decode cX8_readDoor 51 = .ok (.aload_n 0, 1) := by decide +kernel
theorem dX8_readDoor_52 : decode cX8_readDoor 52 = .ok (.getfield 22, 3) := by decide +kernel
theorem dX8_readDoor_55 : decode cX8_readDoor 55 = .ok (.iconst 0, 1) := by decide +kernel
theorem dX8_readDoor_56 : decode cX8_readDoor 56 = .ok (.iaload, 1) := by decide +kernel
theorem dX8_readDoor_57 : decode cX8_readDoor 57 = .ok (.iconst 1, 1) := by decide +kernel
theorem dX8_readDoor_58 : decode cX8_readDoor 58 = .ok (.isub, 1) := by decide +kernel
theorem dX8_readDoor_59 : decode cX8_readDoor 59 = .ok (.invokevirtual 152, 3) := by decide +kernel
theorem dX8_readDoor_62 : decode cX8_readDoor 62 = .ok (.istore_n 2, 1) := by decide +kernel
theorem dX8_readDoor_63 : decode cX8_readDoor 63 = .ok (.aload_n 0, 1) := by decide +kernel
theorem dX8_readDoor_64 : decode cX8_readDoor 64 = .ok (.invokevirtual 156, 3) := by decide +kernel
theorem dX8_readDoor_67 : decode cX8_readDoor 67 = .ok (.aload_n 0, 1) := by decide +kernel
theorem dX8_readDoor_68 : decode cX8_readDoor 68 = .ok (.getfield 117, 3) := by decide +kernel
theorem dX8_readDoor_71 : decode cX8_readDoor 71 = .ok (.ifCond .ne 43, 3) := by decide +kernel
theorem dX8_readDoor_74 : decode cX8_readDoor 74 = .ok (.aload_n 0, 1) := by decide +kernel
theorem dX8_readDoor_75 : decode cX8_readDoor 75 = .ok (.getfield 22, 3) := by decide +kernel
theorem dX8_readDoor_78 : decode cX8_readDoor 78 = .ok (.bipush 10, 2) := by decide +kernel
theorem dX8_readDoor_80 : decode cX8_readDoor 80 = .ok (.iload_n 1, 1) := by decide +kernel
theorem dX8_readDoor_81 : decode cX8_readDoor 81 = .ok (.iadd, 1) := by decide +kernel
theorem dX8_readDoor_82 : decode cX8_readDoor 82 = .ok (.dup2, 1) := by decide +kernel
theorem dX8_readDoor_83 : decode cX8_readDoor 83 = .ok (.iaload, 1) := by decide +kernel
theorem dX8_readDoor_84 : decode cX8_readDoor 84 = .ok (.iconst 1, 1) := by decide +kernel
theorem dX8_readDoor_85 : decode cX8_readDoor 85 = .ok (.iload_n 2, 1) := by decide +kernel
theorem dX8_readDoor_86 : decode cX8_readDoor 86 = .ok (.ishl, 1) := by decide +kernel
theorem dX8_readDoor_87 : decode cX8_readDoor 87 = .ok (.ior, 1) := by decide +kernel
theorem dX8_readDoor_88 : decode cX8_readDoor 88 = .ok (.iastore, 1) := by decide +kernel
theorem dX8_readDoor_89 : decode cX8_readDoor 89 = .ok (.aload_n 0, 1) := by decide +kernel
theorem dX8_readDoor_90 : decode cX8_readDoor 90 = .ok (.getfield 22, 3) := by decide +kernel
theorem dX8_readDoor_93 : decode cX8_readDoor 93 = .ok (.bipush 10, 2) := by decide +kernel
theorem dX8_readDoor_95 : decode cX8_readDoor 95 = .ok (.iload_n 2, 1) := by decide +kernel
theorem dX8_readDoor_96 : decode cX8_readDoor 96 = .ok (.iadd, 1) := by decide +kernel
theorem dX8_readDoor_97 : decode cX8_readDoor 97 = .ok (.dup2, 1) := by decide +kernel
theorem dX8_readDoor_98 : decode cX8_readDoor 98 = .ok (.iaload, 1) := by decide +kernel
theorem dX8_readDoor_99 : decode cX8_readDoor 99 = .ok (.iconst 1, 1) := by decide +kernel
theorem dX8_readDoor_100 : decode cX8_readDoor 100 = .ok (.iload_n 1, 1) := by decide +kernel
theorem dX8_readDoor_101 : decode cX8_readDoor 101 = .ok (.ishl, 1) := by decide +kernel
theorem dX8_readDoor_102 : decode cX8_readDoor 102 = .ok (.ior, 1) := by decide +kernel
theorem dX8_readDoor_103 : decode cX8_readDoor 103 = .ok (.iastore, 1) := by decide +kernel
theorem dX8_readDoor_104 : decode cX8_readDoor 104 = .ok (.aload_n 0, 1) := by decide +kernel
theorem dX8_readDoor_105 : decode cX8_readDoor 105 = .ok (.getfield 22, 3) := by decide +kernel
theorem dX8_readDoor_108 : decode cX8_readDoor 108 = .ok (.iconst 1, 1) := by decide +kernel
theorem dX8_readDoor_109 : decode cX8_readDoor 109 = .ok (.dup2, 1) := by decide +kernel
theorem dX8_readDoor_110 : decode cX8_readDoor 110 = .ok (.iaload, 1) := by decide +kernel
theorem dX8_readDoor_111 : decode cX8_readDoor 111 = .ok (.iconst 1, 1) := by decide +kernel
theorem dX8_readDoor_112 : decode cX8_readDoor 112 = .ok (.iadd, 1) := by decide +kernel
theorem dX8_readDoor_113 : decode cX8_readDoor 113 = .ok (.iastore, 1) := by decide +kernel
theorem dX8_readDoor_114 : decode cX8_readDoor 114 = .ok (.return_, 1) := by decide +kernel
theorem dX8_readCrowd_0 : decode cX8_readCrowd 0 = .ok (.aload_n 0, 1) := by decide +kernel
theorem dX8_readCrowd_1 : decode cX8_readCrowd 1 = .ok (.iconst 2, 1) := by decide +kernel
theorem dX8_readCrowd_2 : decode cX8_readCrowd 2 = .ok (.iconst 5, 1) := by decide +kernel
theorem dX8_readCrowd_3 : decode cX8_readCrowd 3 = .ok (.invokevirtual 148, 3) := by decide +kernel
theorem dX8_readCrowd_6 : decode cX8_readCrowd 6 = .ok (.aload_n 0, 1) := by decide +kernel
theorem dX8_readCrowd_7 : decode cX8_readCrowd 7 = .ok (.invokevirtual 159, 3) := by decide +kernel
theorem dX8_readCrowd_10 : decode cX8_readCrowd 10 = .ok (.invokestatic 163, 3) := by decide +kernel
theorem dX8_readCrowd_13 : decode cX8_readCrowd 13 = .ok (.istore_n 1, 1) := by decide +kernel
theorem dX8_readCrowd_14 : decode cX8_readCrowd 14 = .ok (.aload_n 0, 1) := by decide +kernel
theorem dX8_readCrowd_15 : decode cX8_readCrowd 15 = .ok (.getfield 117, 3) := by decide +kernel
theorem dX8_readCrowd_18 : decode cX8_readCrowd 18 = .ok (.ifCond .ne 18, 3) := by decide +kernel
theorem dX8_readCrowd_21 : decode cX8_readCrowd 21 = .ok (.aload_n 0, 1) := by decide +kernel
theorem dX8_readCrowd_22 : decode cX8_readCrowd 22 = .ok (.iload_n 1, 1) := by decide +kernel
theorem dX8_readCrowd_23 : decode cX8_readCrowd 23 = .ok (.ldc 95, 2) := by decide +kernel
theorem dX8_readCrowd_25 : decode cX8_readCrowd 25 = .ok (.if_icmp .eq 7, 3) := by decide +kernel
theorem dX8_readCrowd_28 : decode cX8_readCrowd 28 = .ok (.iconst 1, 1) := by decide +kernel
theorem dX8_readCrowd_29 : decode cX8_readCrowd 29 = .ok (.goto 4, 3) := by decide +kernel
theorem dX8_readCrowd_32 : decode cX8_readCrowd 32 = .ok (.iconst 0, 1) := by decide +kernel
theorem dX8_readCrowd_33 : decode cX8_readCrowd 33 = .ok (.invokevirtual 134, 3) := by decide +kernel
theorem dX8_readCrowd_36 : decode cX8_readCrowd 36 = .ok (.aload_n 0, 1) := by decide +kernel
theorem dX8_readCrowd_37 : decode cX8_readCrowd 37 = .ok (.iconst 0, 1) := by decide +kernel
theorem dX8_readCrowd_38 : decode cX8_readCrowd 38 = .ok (.aload_n 0, 1) := by decide +kernel
theorem dX8_readCrowd_39 : decode cX8_readCrowd 39 = .ok (.getfield 22, 3) := by decide +kernel
theorem dX8_readCrowd_42 : decode cX8_readCrowd 42 = .ok (.iconst 0, 1) := by decide +kernel
theorem dX8_readCrowd_43 : decode cX8_readCrowd 43 = .ok (.iaload, 1) := by decide +kernel
theorem dX8_readCrowd_44 : decode cX8_readCrowd 44 = .ok (.iconst 1, 1) := by decide +kernel
theorem dX8_readCrowd_45 : decode cX8_readCrowd 45 = .ok (.isub, 1) := by decide +kernel
theorem dX8_readCrowd_46 : decode cX8_readCrowd 46 = .ok (.invokevirtual 152, 3) := by decide +kernel
theorem dX8_readCrowd_49 : decode cX8_readCrowd 49 = .ok (.istore_n 2, 1) := by decide +kernel
theorem dX8_readCrowd_50 : decode cX8_readCrowd 50 = .ok (.aload_n 0, 1) := by decide +kernel
theorem dX8_readCrowd_51 : decode cX8_readCrowd 51 = .ok (.iconst 1, 1) := by decide +kernel
theorem dX8_readCrowd_52 : decode cX8_readCrowd 52 = .ok (.bipush 50, 2) := by decide +kernel
theorem dX8_readCrowd_54 : decode cX8_readCrowd 54 = .ok (.invokevirtual 152, 3) := by decide +kernel
theorem dX8_readCrowd_57 : decode cX8_readCrowd 57 = .ok (.istore_n 3, 1) := by decide +kernel
theorem dX8_readCrowd_58 : decode cX8_readCrowd 58 = .ok (.aload_n 0, 1) := by decide +kernel
theorem dX8_readCrowd_59 : decode cX8_readCrowd 59 = .ok (.invokevirtual 156, 3) := by decide +kernel
theorem dX8_readCrowd_62 : decode cX8_readCrowd 62 = .ok (.aload_n 0, 1) := by decide +kernel
theorem dX8_readCrowd_63 : decode cX8_readCrowd 63 = .ok (.getfield 117, 3) := by decide +kernel
theorem dX8_readCrowd_66 : decode cX8_readCrowd 66 = .ok (.ifCond .ne 54, 3) := by decide +kernel
theorem dX8_readCrowd_69 : decode cX8_readCrowd 69 = .ok (.bipush 22, 2) := by decide +kernel
theorem dX8_readCrowd_71 : decode cX8_readCrowd 71 = .ok (.iconst 3, 1) := by decide +kernel
theorem dX8_readCrowd_72 : decode cX8_readCrowd 72 = .ok (.aload_n 0, 1) := by decide +kernel
theorem dX8_readCrowd_73 : decode cX8_readCrowd 73 = .ok (.getfield 22, 3) := by decide +kernel
theorem dX8_readCrowd_76 : decode cX8_readCrowd 76 = .ok (.iconst 2, 1) := by decide +kernel
theorem dX8_readCrowd_77 : decode cX8_readCrowd 77 = .ok (.iaload, 1) := by decide +kernel
theorem dX8_readCrowd_78 : decode cX8_readCrowd 78 = .ok (.imul, 1) := by decide +kernel
theorem dX8_readCrowd_79 : decode cX8_readCrowd 79 = .ok (.iadd, 1) := by decide +kernel
theorem dX8_readCrowd_80 : decode cX8_readCrowd 80 = .ok (.istore 4, 2) := by decide +kernel
theorem dX8_readCrowd_82 : decode cX8_readCrowd 82 = .ok (.aload_n 0, 1) := by decide +kernel
theorem dX8_readCrowd_83 : decode cX8_readCrowd 83 = .ok (.getfield 22, 3) := by decide +kernel
theorem dX8_readCrowd_86 : decode cX8_readCrowd 86 = .ok (.iload 4, 2) := by decide +kernel
theorem dX8_readCrowd_88 : decode cX8_readCrowd 88 = .ok (.iload_n 1, 1) := by decide +kernel
theorem dX8_readCrowd_89 : decode cX8_readCrowd 89 = .ok (.iastore, 1) := by decide +kernel
theorem dX8_readCrowd_90 : decode cX8_readCrowd 90 = .ok (.aload_n 0, 1) := by decide +kernel
theorem dX8_readCrowd_91 : decode cX8_readCrowd 91 = .ok (.getfield 22, 3) := by decide +kernel
theorem dX8_readCrowd_94 : decode cX8_readCrowd 94 = .ok (.iload 4, 2) := by decide +kernel
theorem dX8_readCrowd_96 : decode cX8_readCrowd 96 = .ok (.iconst 1, 1) := by decide +kernel
theorem dX8_readCrowd_97 : decode cX8_readCrowd 97 = .ok (.iadd, 1) := by decide +kernel
theorem dX8_readCrowd_98 : decode cX8_readCrowd 98 = .ok (.iload_n 2, 1) := by decide +kernel
theorem dX8_readCrowd_99 : decode cX8_readCrowd 99 = .ok (.iastore, 1) := by decide +kernel
theorem dX8_readCrowd_100 : decode cX8_readCrowd 100 = .ok (.aload_n 0, 1) := by decide +kernel
theorem dX8_readCrowd_101 : decode cX8_readCrowd 101 = .ok (.getfield 22, 3) := by decide +kernel
theorem dX8_readCrowd_104 : decode cX8_readCrowd 104 = .ok (.iload 4, 2) := by decide +kernel
theorem dX8_readCrowd_106 : decode cX8_readCrowd 106 = .ok (.iconst 2, 1) := by decide +kernel
theorem dX8_readCrowd_107 : decode cX8_readCrowd 107 = .ok (.iadd, 1) := by decide +kernel
theorem dX8_readCrowd_108 : decode cX8_readCrowd 108 = .ok (.iload_n 3, 1) := by decide +kernel
theorem dX8_readCrowd_109 : decode cX8_readCrowd 109 = .ok (.iastore, 1) := by decide +kernel
theorem dX8_readCrowd_110 : decode cX8_readCrowd 110 = .ok (.aload_n 0, 1) := by decide +kernel
theorem dX8_readCrowd_111 : decode cX8_readCrowd 111 = .ok (.getfield 22, 3) := by decide +kernel
theorem dX8_readCrowd_114 : decode cX8_readCrowd 114 = .ok (.iconst 2, 1) := by decide +kernel
theorem dX8_readCrowd_115 : decode cX8_readCrowd 115 = .ok (.dup2, 1) := by decide +kernel
theorem dX8_readCrowd_116 : decode cX8_readCrowd 116 = .ok (.iaload, 1) := by decide +kernel
theorem dX8_readCrowd_117 : decode cX8_readCrowd 117 = .ok (.iconst 1, 1) := by decide +kernel
theorem dX8_readCrowd_118 : decode cX8_readCrowd 118 = .ok (.iadd, 1) := by decide +kernel
theorem dX8_readCrowd_119 : decode cX8_readCrowd 119 = .ok (.iastore, 1) := by decide +kernel
theorem dX8_readCrowd_120 : decode cX8_readCrowd 120 = .ok (.return_, 1) := by decide +kernel
theorem dX8_house_0 : decode cX8_house 0 = .ok (.aload_n 0, 1) := by decide +kernel
theorem dX8_house_1 : decode cX8_house 1 = .ok (.iconst 0, 1) := by decide +kernel
theorem dX8_house_2 : decode cX8_house 2 = .ok (.putfield 59, 3) := by decide +kernel
theorem dX8_house_5 : decode cX8_house 5 = .ok (.aload_n 0, 1) := by decide +kernel
theorem dX8_house_6 : decode cX8_house 6 = .ok (.invokevirtual 167, 3) := by decide +kernel
theorem dX8_house_9 : decode cX8_house 9 = .ok (.iconst 0, 1) := by decide +kernel
theorem dX8_house_10 : decode cX8_house 10 = .ok (.istore_n 1, 1) := by decide +kernel
theorem dX8_house_11 : decode cX8_house 11 = .ok (.iload_n 1, 1) := by decide +kernel
theorem dX8_house_12 : decode cX8_house 12 = .ok (.bipush 37, 2) := by decide +kernel
theorem dX8_house_14 : decode cX8_house 14 = .ok (.if_icmp .ge 16, 3) := by decide +kernel
theorem dX8_house_17 : decode cX8_house 17 = .ok (.aload_n 0, 1) := by decide +kernel
theorem dX8_house_18 : decode cX8_house 18 = .ok (.getfield 22, 3) := by decide +kernel
theorem dX8_house_21 : decode cX8_house 21 = .ok (.iload_n 1, 1) := by decide +kernel
theorem dX8_house_22 : decode cX8_house 22 = .ok (.iconst 0, 1) := by decide +kernel
theorem dX8_house_23 : decode cX8_house 23 = .ok (.iastore, 1) := by decide +kernel
theorem dX8_house_24 : decode cX8_house 24 = .ok (.iinc 1 1, 3) := by decide +kernel
theorem dX8_house_27 : decode cX8_house 27 = .ok (.goto (-16), 3) := by decide +kernel
theorem dX8_house_30 : decode cX8_house 30 = .ok (.aload_n 0, 1) := by decide +kernel
theorem dX8_house_31 : decode cX8_house 31 = .ok (.invokevirtual 159, 3) := by decide +kernel
theorem dX8_house_34 : decode cX8_house 34 = .ok (.ldc2_w 170, 3) := by decide +kernel
theorem dX8_house_37 : decode cX8_house 37 = .ok (.lcmp, 1) := by decide +kernel
theorem dX8_house_38 : decode cX8_house 38 = .ok (.ifCond .eq 8, 3) := by decide +kernel
theorem dX8_house_41 : decode cX8_house 41 = .ok (.aload_n 0, 1) := by decide +kernel
theorem dX8_house_42 : decode cX8_house 42 = .ok (.iconst 1, 1) := by decide +kernel
theorem dX8_house_43 : decode cX8_house 43 = .ok (.invokevirtual 126, 3) := by decide +kernel
theorem dX8_house_46 : decode cX8_house 46 = .ok (.aload_n 0, 1) := by decide +kernel
theorem dX8_house_47 : decode cX8_house 47 = .ok (.invokevirtual 159, 3) := by decide +kernel
theorem dX8_house_50 : decode cX8_house 50 = .ok (.ldc2_w 170, 3) := by decide +kernel
theorem dX8_house_53 : decode cX8_house 53 = .ok (.lcmp, 1) := by decide +kernel
theorem dX8_house_54 : decode cX8_house 54 = .ok (.ifCond .ne 10, 3) := by decide +kernel
theorem dX8_house_57 : decode cX8_house 57 = .ok (.aload_n 0, 1) := by decide +kernel
theorem dX8_house_58 : decode cX8_house 58 = .ok (.invokevirtual 172, 3) := by decide +kernel
theorem dX8_house_61 : decode cX8_house 61 = .ok (.goto (-15), 3) := by decide +kernel
theorem dX8_house_64 : decode cX8_house 64 = .ok (.aload_n 0, 1) := by decide +kernel
theorem dX8_house_65 : decode cX8_house 65 = .ok (.invokevirtual 159, 3) := by decide +kernel
theorem dX8_house_68 : decode cX8_house 68 = .ok (.ldc2_w 175, 3) := by decide +kernel
theorem dX8_house_71 : decode cX8_house 71 = .ok (.lcmp, 1) := by decide +kernel
theorem dX8_house_72 : decode cX8_house 72 = .ok (.ifCond .ne 10, 3) := by decide +kernel
theorem dX8_house_75 : decode cX8_house 75 = .ok (.aload_n 0, 1) := by decide +kernel
theorem dX8_house_76 : decode cX8_house 76 = .ok (.invokevirtual 177, 3) := by decide +kernel
theorem dX8_house_79 : decode cX8_house 79 = .ok (.goto (-15), 3) := by decide +kernel
theorem dX8_house_82 : decode cX8_house 82 = .ok (.aload_n 0, 1) := by decide +kernel
theorem dX8_house_83 : decode cX8_house 83 = .ok (.invokevirtual 159, 3) := by decide +kernel
theorem dX8_house_86 : decode cX8_house 86 = .ok (.ldc2_w 180, 3) := by decide +kernel
theorem dX8_house_89 : decode cX8_house 89 = .ok (.lcmp, 1) := by decide +kernel
theorem dX8_house_90 : decode cX8_house 90 = .ok (.ifCond .ne 10, 3) := by decide +kernel
theorem dX8_house_93 : decode cX8_house 93 = .ok (.aload_n 0, 1) := by decide +kernel
theorem dX8_house_94 : decode cX8_house 94 = .ok (.invokevirtual 182, 3) := by decide +kernel
theorem dX8_house_97 : decode cX8_house 97 = .ok (.goto (-15), 3) := by decide +kernel
theorem dX8_house_100 : decode cX8_house 100 = .ok (.aload_n 0, 1) := by decide +kernel
theorem dX8_house_101 : decode cX8_house 101 = .ok (.getfield 117, 3) := by decide +kernel
theorem dX8_house_104 : decode cX8_house 104 = .ok (.ifCond .ne 16, 3) := by decide +kernel
theorem dX8_house_107 : decode cX8_house 107 = .ok (.aload_n 0, 1) := by decide +kernel
theorem dX8_house_108 : decode cX8_house 108 = .ok (.getfield 105, 3) := by decide +kernel
theorem dX8_house_111 : decode cX8_house 111 = .ok (.iconst 1, 1) := by decide +kernel
theorem dX8_house_112 : decode cX8_house 112 = .ok (.if_icmp .eq 8, 3) := by decide +kernel
theorem dX8_house_115 : decode cX8_house 115 = .ok (.aload_n 0, 1) := by decide +kernel
theorem dX8_house_116 : decode cX8_house 116 = .ok (.iconst 1, 1) := by decide +kernel
theorem dX8_house_117 : decode cX8_house 117 = .ok (.invokevirtual 126, 3) := by decide +kernel
theorem dX8_house_120 : decode cX8_house 120 = .ok (.aload_n 0, 1) := by decide +kernel
theorem dX8_house_121 : decode cX8_house 121 = .ok (.getfield 117, 3) := by decide +kernel
theorem dX8_house_124 : decode cX8_house 124 = .ok (.ifCond .le 19, 3) := by decide +kernel
theorem dX8_house_127 : decode cX8_house 127 = .ok (.aload_n 0, 1) := by decide +kernel
theorem dX8_house_128 : decode cX8_house 128 = .ok (.aload_n 0, 1) := by decide +kernel
theorem dX8_house_129 : decode cX8_house 129 = .ok (.getfield 117, 3) := by decide +kernel
theorem dX8_house_132 : decode cX8_house 132 = .ok (.putfield 185, 3) := by decide +kernel
theorem dX8_house_135 : decode cX8_house 135 = .ok (.ldc 188, 2) := by decide +kernel
theorem dX8_house_137 : decode cX8_house 137 = .ok (.aload_n 0, 1) := by decide +kernel
theorem dX8_house_138 : decode cX8_house 138 = .ok (.getfield 123, 3) := by decide +kernel
theorem dX8_house_141 : decode cX8_house 141 = .ok (.isub, 1) := by decide +kernel
theorem dX8_house_142 : decode cX8_house 142 = .ok (.ireturn, 1) := by decide +kernel
theorem dX8_house_143 : decode cX8_house 143 = .ok (.aload_n 0, 1) := by decide +kernel
theorem dX8_house_144 : decode cX8_house 144 = .ok (.iconst 0, 1) := by decide +kernel
theorem dX8_house_145 : decode cX8_house 145 = .ok (.putfield 189, 3) := by decide +kernel
theorem dX8_house_148 : decode cX8_house 148 = .ok (.iconst 0, 1) := by decide +kernel
theorem dX8_house_149 : decode cX8_house 149 = .ok (.istore_n 1, 1) := by decide +kernel
theorem dX8_house_150 : decode cX8_house 150 = .ok (.iload_n 1, 1) := by decide +kernel
theorem dX8_house_151 : decode cX8_house 151 = .ok (.bipush 37, 2) := by decide +kernel
theorem dX8_house_153 : decode cX8_house 153 = .ok (.if_icmp .ge 21, 3) := by decide +kernel
theorem dX8_house_156 : decode cX8_house 156 = .ok (.aload_n 0, 1) := by decide +kernel
theorem dX8_house_157 : decode cX8_house 157 = .ok (.getfield 19, 3) := by decide +kernel
theorem dX8_house_160 : decode cX8_house 160 = .ok (.iload_n 1, 1) := by decide +kernel
theorem dX8_house_161 : decode cX8_house 161 = .ok (.aload_n 0, 1) := by decide +kernel
theorem dX8_house_162 : decode cX8_house 162 = .ok (.getfield 22, 3) := by decide +kernel
theorem dX8_house_165 : decode cX8_house 165 = .ok (.iload_n 1, 1) := by decide +kernel
theorem dX8_house_166 : decode cX8_house 166 = .ok (.iaload, 1) := by decide +kernel
theorem dX8_house_167 : decode cX8_house 167 = .ok (.iastore, 1) := by decide +kernel
theorem dX8_house_168 : decode cX8_house 168 = .ok (.iinc 1 1, 3) := by decide +kernel
theorem dX8_house_171 : decode cX8_house 171 = .ok (.goto (-21), 3) := by decide +kernel
theorem dX8_house_174 : decode cX8_house 174 = .ok (.aload_n 0, 1) := by decide +kernel
theorem dX8_house_175 : decode cX8_house 175 = .ok (.getfield 19, 3) := by decide +kernel
theorem dX8_house_178 : decode cX8_house 178 = .ok (.iconst 0, 1) := by decide +kernel
theorem dX8_house_179 : decode cX8_house 179 = .ok (.iaload, 1) := by decide +kernel
theorem dX8_house_180 : decode cX8_house 180 = .ok (.ireturn, 1) := by decide +kernel
theorem dX8_fault_0 : decode cX8_fault 0 = .ok (.aload_n 0, 1) := by decide +kernel
theorem dX8_fault_1 : decode cX8_fault 1 = .ok (.iconst 0, 1) := by decide +kernel
theorem dX8_fault_2 : decode cX8_fault 2 = .ok (.putfield 59, 3) := by decide +kernel
theorem dX8_fault_5 : decode cX8_fault 5 = .ok (.aload_n 0, 1) := by decide +kernel
theorem dX8_fault_6 : decode cX8_fault 6 = .ok (.getfield 185, 3) := by decide +kernel
theorem dX8_fault_9 : decode cX8_fault 9 = .ok (.ireturn, 1) := by decide +kernel
theorem dX8_isThere_0 : decode cX8_isThere 0 = .ok (.aload_n 0, 1) := by decide +kernel
theorem dX8_isThere_1 : decode cX8_isThere 1 = .ok (.getfield 19, 3) := by decide +kernel
theorem dX8_isThere_4 : decode cX8_isThere 4 = .ok (.iconst 0, 1) := by decide +kernel
theorem dX8_isThere_5 : decode cX8_isThere 5 = .ok (.iaload, 1) := by decide +kernel
theorem dX8_isThere_6 : decode cX8_isThere 6 = .ok (.ifCond .le 7, 3) := by decide +kernel
theorem dX8_isThere_9 : decode cX8_isThere 9 = .ok (.iconst 1, 1) := by decide +kernel
theorem dX8_isThere_10 : decode cX8_isThere 10 = .ok (.goto 4, 3) := by decide +kernel
theorem dX8_isThere_13 : decode cX8_isThere 13 = .ok (.iconst 0, 1) := by decide +kernel
theorem dX8_isThere_14 : decode cX8_isThere 14 = .ok (.ireturn, 1) := by decide +kernel
theorem dX8_isRoom_0 : decode cX8_isRoom 0 = .ok (.iload_n 1, 1) := by decide +kernel
theorem dX8_isRoom_1 : decode cX8_isRoom 1 = .ok (.i2l, 1) := by decide +kernel
theorem dX8_isRoom_2 : decode cX8_isRoom 2 = .ok (.lconst 0, 1) := by decide +kernel
theorem dX8_isRoom_3 : decode cX8_isRoom 3 = .ok (.aload_n 0, 1) := by decide +kernel
theorem dX8_isRoom_4 : decode cX8_isRoom 4 = .ok (.getfield 19, 3) := by decide +kernel
theorem dX8_isRoom_7 : decode cX8_isRoom 7 = .ok (.iconst 0, 1) := by decide +kernel
theorem dX8_isRoom_8 : decode cX8_isRoom 8 = .ok (.iaload, 1) := by decide +kernel
theorem dX8_isRoom_9 : decode cX8_isRoom 9 = .ok (.iconst 1, 1) := by decide +kernel
theorem dX8_isRoom_10 : decode cX8_isRoom 10 = .ok (.isub, 1) := by decide +kernel
theorem dX8_isRoom_11 : decode cX8_isRoom 11 = .ok (.i2l, 1) := by decide +kernel
theorem dX8_isRoom_12 : decode cX8_isRoom 12 = .ok (.invokestatic 69, 3) := by decide +kernel
theorem dX8_isRoom_15 : decode cX8_isRoom 15 = .ok (.ireturn, 1) := by decide +kernel
theorem dX8_isCrowd_0 : decode cX8_isCrowd 0 = .ok (.iload_n 1, 1) := by decide +kernel
theorem dX8_isCrowd_1 : decode cX8_isCrowd 1 = .ok (.i2l, 1) := by decide +kernel
theorem dX8_isCrowd_2 : decode cX8_isCrowd 2 = .ok (.lconst 0, 1) := by decide +kernel
theorem dX8_isCrowd_3 : decode cX8_isCrowd 3 = .ok (.aload_n 0, 1) := by decide +kernel
theorem dX8_isCrowd_4 : decode cX8_isCrowd 4 = .ok (.getfield 19, 3) := by decide +kernel
theorem dX8_isCrowd_7 : decode cX8_isCrowd 7 = .ok (.iconst 2, 1) := by decide +kernel
theorem dX8_isCrowd_8 : decode cX8_isCrowd 8 = .ok (.iaload, 1) := by decide +kernel
theorem dX8_isCrowd_9 : decode cX8_isCrowd 9 = .ok (.iconst 1, 1) := by decide +kernel
theorem dX8_isCrowd_10 : decode cX8_isCrowd 10 = .ok (.isub, 1) := by decide +kernel
theorem dX8_isCrowd_11 : decode cX8_isCrowd 11 = .ok (.i2l, 1) := by decide +kernel
theorem dX8_isCrowd_12 : decode cX8_isCrowd 12 = .ok (.invokestatic 69, 3) := by decide +kernel
theorem dX8_isCrowd_15 : decode cX8_isCrowd 15 = .ok (.ireturn, 1) := by decide +kernel
theorem dX8_of_0 : decode cX8_of 0 = .ok (.aload_n 0, 1) := by decide +kernel
theorem dX8_of_1 : decode cX8_of 1 = .ok (.getfield 19, 3) := by decide +kernel
theorem dX8_of_4 : decode cX8_of 4 = .ok (.bipush 22, 2) := by decide +kernel
theorem dX8_of_6 : decode cX8_of 6 = .ok (.iconst 3, 1) := by decide +kernel
theorem dX8_of_7 : decode cX8_of 7 = .ok (.iload_n 1, 1) := by decide +kernel
theorem dX8_of_8 : decode cX8_of 8 = .ok (.imul, 1) := by decide +kernel
theorem dX8_of_9 : decode cX8_of 9 = .ok (.iadd, 1) := by decide +kernel
theorem dX8_of_10 : decode cX8_of 10 = .ok (.iload_n 2, 1) := by decide +kernel
theorem dX8_of_11 : decode cX8_of 11 = .ok (.iadd, 1) := by decide +kernel
theorem dX8_of_12 : decode cX8_of 12 = .ok (.iaload, 1) := by decide +kernel
theorem dX8_of_13 : decode cX8_of 13 = .ok (.ireturn, 1) := by decide +kernel
theorem dX8_layNow_0 : decode cX8_layNow 0 = .ok (.aload_n 0, 1) := by decide +kernel
theorem dX8_layNow_1 : decode cX8_layNow 1 = .ok (.aload_n 0, 1) := by decide +kernel
theorem dX8_layNow_2 : decode cX8_layNow 2 = .ok (.getfield 19, 3) := by decide +kernel
theorem dX8_layNow_5 : decode cX8_layNow 5 = .ok (.iconst 3, 1) := by decide +kernel
theorem dX8_layNow_6 : decode cX8_layNow 6 = .ok (.iaload, 1) := by decide +kernel
theorem dX8_layNow_7 : decode cX8_layNow 7 = .ok (.putfield 192, 3) := by decide +kernel
theorem dX8_layNow_10 : decode cX8_layNow 10 = .ok (.aload_n 0, 1) := by decide +kernel
theorem dX8_layNow_11 : decode cX8_layNow 11 = .ok (.iconst 0, 1) := by decide +kernel
theorem dX8_layNow_12 : decode cX8_layNow 12 = .ok (.putfield 195, 3) := by decide +kernel
theorem dX8_layNow_15 : decode cX8_layNow 15 = .ok (.aload_n 0, 1) := by decide +kernel
theorem dX8_layNow_16 : decode cX8_layNow 16 = .ok (.iconst 0, 1) := by decide +kernel
theorem dX8_layNow_17 : decode cX8_layNow 17 = .ok (.putfield 198, 3) := by decide +kernel
theorem dX8_layNow_20 : decode cX8_layNow 20 = .ok (.iconst 0, 1) := by decide +kernel
theorem dX8_layNow_21 : decode cX8_layNow 21 = .ok (.istore_n 1, 1) := by decide +kernel
theorem dX8_layNow_22 : decode cX8_layNow 22 = .ok (.iload_n 1, 1) := by decide +kernel
theorem dX8_layNow_23 : decode cX8_layNow 23 = .ok (.aload_n 0, 1) := by decide +kernel
theorem dX8_layNow_24 : decode cX8_layNow 24 = .ok (.getfield 19, 3) := by decide +kernel
theorem dX8_layNow_27 : decode cX8_layNow 27 = .ok (.iconst 0, 1) := by decide +kernel
theorem dX8_layNow_28 : decode cX8_layNow 28 = .ok (.iaload, 1) := by decide +kernel
theorem dX8_layNow_29 : decode cX8_layNow 29 = .ok (.if_icmp .ge 39, 3) := by decide +kernel
theorem dX8_layNow_32 : decode cX8_layNow 32 = .ok (.aload_n 0, 1) := by decide +kernel
theorem dX8_layNow_33 : decode cX8_layNow 33 = .ok (.getfield 37, 3) := by decide +kernel
theorem dX8_layNow_36 : decode cX8_layNow 36 = .ok (.iload_n 1, 1) := by decide +kernel
theorem dX8_layNow_37 : decode cX8_layNow 37 = .ok (.aload_n 0, 1) := by decide +kernel
theorem dX8_layNow_38 : decode cX8_layNow 38 = .ok (.getfield 19, 3) := by decide +kernel
theorem dX8_layNow_41 : decode cX8_layNow 41 = .ok (.bipush 10, 2) := by decide +kernel
theorem dX8_layNow_43 : decode cX8_layNow 43 = .ok (.iload_n 1, 1) := by decide +kernel
theorem dX8_layNow_44 : decode cX8_layNow 44 = .ok (.iadd, 1) := by decide +kernel
theorem dX8_layNow_45 : decode cX8_layNow 45 = .ok (.iaload, 1) := by decide +kernel
theorem dX8_layNow_46 : decode cX8_layNow 46 = .ok (.iastore, 1) := by decide +kernel
theorem dX8_layNow_47 : decode cX8_layNow 47 = .ok (.aload_n 0, 1) := by decide +kernel
theorem dX8_layNow_48 : decode cX8_layNow 48 = .ok (.getfield 46, 3) := by decide +kernel
theorem dX8_layNow_51 : decode cX8_layNow 51 = .ok (.iload_n 1, 1) := by decide +kernel
theorem dX8_layNow_52 : decode cX8_layNow 52 = .ok (.aload_n 0, 1) := by decide +kernel
theorem dX8_layNow_53 : decode cX8_layNow 53 = .ok (.getfield 19, 3) := by decide +kernel
theorem dX8_layNow_56 : decode cX8_layNow 56 = .ok (.bipush 16, 2) := by decide +kernel
theorem dX8_layNow_58 : decode cX8_layNow 58 = .ok (.iload_n 1, 1) := by decide +kernel
theorem dX8_layNow_59 : decode cX8_layNow 59 = .ok (.iadd, 1) := by decide +kernel
theorem dX8_layNow_60 : decode cX8_layNow 60 = .ok (.iaload, 1) := by decide +kernel
theorem dX8_layNow_61 : decode cX8_layNow 61 = .ok (.iastore, 1) := by decide +kernel
theorem dX8_layNow_62 : decode cX8_layNow 62 = .ok (.iinc 1 1, 3) := by decide +kernel
theorem dX8_layNow_65 : decode cX8_layNow 65 = .ok (.goto (-43), 3) := by decide +kernel
theorem dX8_layNow_68 : decode cX8_layNow 68 = .ok (.iconst 0, 1) := by decide +kernel
theorem dX8_layNow_69 : decode cX8_layNow 69 = .ok (.istore_n 1, 1) := by decide +kernel
theorem dX8_layNow_70 : decode cX8_layNow 70 = .ok (.iload_n 1, 1) := by decide +kernel
theorem dX8_layNow_71 : decode cX8_layNow 71 = .ok (.aload_n 0, 1) := by decide +kernel
theorem dX8_layNow_72 : decode cX8_layNow 72 = .ok (.getfield 19, 3) := by decide +kernel
theorem dX8_layNow_75 : decode cX8_layNow 75 = .ok (.iconst 2, 1) := by decide +kernel
theorem dX8_layNow_76 : decode cX8_layNow 76 = .ok (.iaload, 1) := by decide +kernel
theorem dX8_layNow_77 : decode cX8_layNow 77 = .ok (.if_icmp .ge 21, 3) := by decide +kernel
theorem dX8_layNow_80 : decode cX8_layNow 80 = .ok (.aload_n 0, 1) := by decide +kernel
theorem dX8_layNow_81 : decode cX8_layNow 81 = .ok (.getfield 31, 3) := by decide +kernel
theorem dX8_layNow_84 : decode cX8_layNow 84 = .ok (.iload_n 1, 1) := by decide +kernel
theorem dX8_layNow_85 : decode cX8_layNow 85 = .ok (.aload_n 0, 1) := by decide +kernel
theorem dX8_layNow_86 : decode cX8_layNow 86 = .ok (.iload_n 1, 1) := by decide +kernel
theorem dX8_layNow_87 : decode cX8_layNow 87 = .ok (.iconst 1, 1) := by decide +kernel
theorem dX8_layNow_88 : decode cX8_layNow 88 = .ok (.invokevirtual 201, 3) := by decide +kernel
theorem dX8_layNow_91 : decode cX8_layNow 91 = .ok (.iastore, 1) := by decide +kernel
theorem dX8_layNow_92 : decode cX8_layNow 92 = .ok (.iinc 1 1, 3) := by decide +kernel
theorem dX8_layNow_95 : decode cX8_layNow 95 = .ok (.goto (-25), 3) := by decide +kernel
theorem dX8_layNow_98 : decode cX8_layNow 98 = .ok (.return_, 1) := by decide +kernel
theorem dX8_layCounts_0 : decode cX8_layCounts 0 = .ok (.iconst 0, 1) := by decide +kernel
theorem dX8_layCounts_1 : decode cX8_layCounts 1 = .ok (.istore_n 1, 1) := by decide +kernel
theorem dX8_layCounts_2 : decode cX8_layCounts 2 = .ok (.iload_n 1, 1) := by decide +kernel
theorem dX8_layCounts_3 : decode cX8_layCounts 3 = .ok (.bipush 6, 2) := by decide +kernel
theorem dX8_layCounts_5 : decode cX8_layCounts 5 = .ok (.if_icmp .ge 23, 3) := by decide +kernel
theorem dX8_layCounts_8 : decode cX8_layCounts 8 = .ok (.aload_n 0, 1) := by decide +kernel
theorem dX8_layCounts_9 : decode cX8_layCounts 9 = .ok (.getfield 40, 3) := by decide +kernel
theorem dX8_layCounts_12 : decode cX8_layCounts 12 = .ok (.iload_n 1, 1) := by decide +kernel
theorem dX8_layCounts_13 : decode cX8_layCounts 13 = .ok (.iconst 0, 1) := by decide +kernel
theorem dX8_layCounts_14 : decode cX8_layCounts 14 = .ok (.iastore, 1) := by decide +kernel
theorem dX8_layCounts_15 : decode cX8_layCounts 15 = .ok (.aload_n 0, 1) := by decide +kernel
theorem dX8_layCounts_16 : decode cX8_layCounts 16 = .ok (.getfield 43, 3) := by decide +kernel
theorem dX8_layCounts_19 : decode cX8_layCounts 19 = .ok (.iload_n 1, 1) := by decide +kernel
theorem dX8_layCounts_20 : decode cX8_layCounts 20 = .ok (.iconst 0, 1) := by decide +kernel
theorem dX8_layCounts_21 : decode cX8_layCounts 21 = .ok (.iastore, 1) := by decide +kernel
theorem dX8_layCounts_22 : decode cX8_layCounts 22 = .ok (.iinc 1 1, 3) := by decide +kernel
theorem dX8_layCounts_25 : decode cX8_layCounts 25 = .ok (.goto (-23), 3) := by decide +kernel
theorem dX8_layCounts_28 : decode cX8_layCounts 28 = .ok (.aload_n 0, 1) := by decide +kernel
theorem dX8_layCounts_29 : decode cX8_layCounts 29 = .ok (.getfield 40, 3) := by decide +kernel
theorem dX8_layCounts_32 : decode cX8_layCounts 32 = .ok (.aload_n 0, 1) := by decide +kernel
theorem dX8_layCounts_33 : decode cX8_layCounts 33 = .ok (.getfield 198, 3) := by decide +kernel
theorem dX8_layCounts_36 : decode cX8_layCounts 36 = .ok (.aload_n 0, 1) := by decide +kernel
theorem dX8_layCounts_37 : decode cX8_layCounts 37 = .ok (.getfield 195, 3) := by decide +kernel
theorem dX8_layCounts_40 : decode cX8_layCounts 40 = .ok (.iastore, 1) := by decide +kernel
theorem dX8_layCounts_41 : decode cX8_layCounts 41 = .ok (.iconst 0, 1) := by decide +kernel
theorem dX8_layCounts_42 : decode cX8_layCounts 42 = .ok (.istore_n 1, 1) := by decide +kernel
theorem dX8_layCounts_43 : decode cX8_layCounts 43 = .ok (.iload_n 1, 1) := by decide +kernel
theorem dX8_layCounts_44 : decode cX8_layCounts 44 = .ok (.aload_n 0, 1) := by decide +kernel
theorem dX8_layCounts_45 : decode cX8_layCounts 45 = .ok (.getfield 19, 3) := by decide +kernel
theorem dX8_layCounts_48 : decode cX8_layCounts 48 = .ok (.iconst 2, 1) := by decide +kernel
theorem dX8_layCounts_49 : decode cX8_layCounts 49 = .ok (.iaload, 1) := by decide +kernel
theorem dX8_layCounts_50 : decode cX8_layCounts 50 = .ok (.if_icmp .ge 63, 3) := by decide +kernel
theorem dX8_layCounts_53 : decode cX8_layCounts 53 = .ok (.aload_n 0, 1) := by decide +kernel
theorem dX8_layCounts_54 : decode cX8_layCounts 54 = .ok (.getfield 40, 3) := by decide +kernel
theorem dX8_layCounts_57 : decode cX8_layCounts 57 = .ok (.aload_n 0, 1) := by decide +kernel
theorem dX8_layCounts_58 : decode cX8_layCounts 58 = .ok (.getfield 31, 3) := by decide +kernel
theorem dX8_layCounts_61 : decode cX8_layCounts 61 = .ok (.iload_n 1, 1) := by decide +kernel
theorem dX8_layCounts_62 : decode cX8_layCounts 62 = .ok (.iaload, 1) := by decide +kernel
theorem dX8_layCounts_63 : decode cX8_layCounts 63 = .ok (.dup2, 1) := by decide +kernel
theorem dX8_layCounts_64 : decode cX8_layCounts 64 = .ok (.iaload, 1) := by decide +kernel
theorem dX8_layCounts_65 : decode cX8_layCounts 65 = .ok (.aload_n 0, 1) := by decide +kernel
theorem dX8_layCounts_66 : decode cX8_layCounts 66 = .ok (.iload_n 1, 1) := by decide +kernel
theorem dX8_layCounts_67 : decode cX8_layCounts 67 = .ok (.iconst 2, 1) := by decide +kernel
theorem dX8_layCounts_68 : decode cX8_layCounts 68 = .ok (.invokevirtual 201, 3) := by decide +kernel
theorem dX8_layCounts_71 : decode cX8_layCounts 71 = .ok (.iadd, 1) := by decide +kernel
theorem dX8_layCounts_72 : decode cX8_layCounts 72 = .ok (.iastore, 1) := by decide +kernel
theorem dX8_layCounts_73 : decode cX8_layCounts 73 = .ok (.aload_n 0, 1) := by decide +kernel
theorem dX8_layCounts_74 : decode cX8_layCounts 74 = .ok (.getfield 43, 3) := by decide +kernel
theorem dX8_layCounts_77 : decode cX8_layCounts 77 = .ok (.aload_n 0, 1) := by decide +kernel
theorem dX8_layCounts_78 : decode cX8_layCounts 78 = .ok (.getfield 31, 3) := by decide +kernel
theorem dX8_layCounts_81 : decode cX8_layCounts 81 = .ok (.iload_n 1, 1) := by decide +kernel
theorem dX8_layCounts_82 : decode cX8_layCounts 82 = .ok (.iaload, 1) := by decide +kernel
theorem dX8_layCounts_83 : decode cX8_layCounts 83 = .ok (.dup2, 1) := by decide +kernel
theorem dX8_layCounts_84 : decode cX8_layCounts 84 = .ok (.iaload, 1) := by decide +kernel
theorem dX8_layCounts_85 : decode cX8_layCounts 85 = .ok (.aload_n 0, 1) := by decide +kernel
theorem dX8_layCounts_86 : decode cX8_layCounts 86 = .ok (.iload_n 1, 1) := by decide +kernel
theorem dX8_layCounts_87 : decode cX8_layCounts 87 = .ok (.iconst 0, 1) := by decide +kernel
theorem dX8_layCounts_88 : decode cX8_layCounts 88 = .ok (.invokevirtual 201, 3) := by decide +kernel
theorem dX8_layCounts_91 : decode cX8_layCounts 91 = .ok (.iconst 2, 1) := by decide +kernel
theorem dX8_layCounts_92 : decode cX8_layCounts 92 = .ok (.if_icmp .ne 12, 3) := by decide +kernel
theorem dX8_layCounts_95 : decode cX8_layCounts 95 = .ok (.aload_n 0, 1) := by decide +kernel
theorem dX8_layCounts_96 : decode cX8_layCounts 96 = .ok (.iload_n 1, 1) := by decide +kernel
theorem dX8_layCounts_97 : decode cX8_layCounts 97 = .ok (.iconst 2, 1) := by decide +kernel
theorem dX8_layCounts_98 : decode cX8_layCounts 98 = .ok (.invokevirtual 201, 3) := by decide +kernel
theorem dX8_layCounts_101 : decode cX8_layCounts 101 = .ok (.goto 4, 3) := by decide +kernel
theorem dX8_layCounts_104 : decode cX8_layCounts 104 = .ok (.iconst 0, 1) := by decide +kernel
theorem dX8_layCounts_105 : decode cX8_layCounts 105 = .ok (.iadd, 1) := by decide +kernel
theorem dX8_layCounts_106 : decode cX8_layCounts 106 = .ok (.iastore, 1) := by decide +kernel
theorem dX8_layCounts_107 : decode cX8_layCounts 107 = .ok (.iinc 1 1, 3) := by decide +kernel
theorem dX8_layCounts_110 : decode cX8_layCounts 110 = .ok (.goto (-67), 3) := by decide +kernel
theorem dX8_layCounts_113 : decode cX8_layCounts 113 = .ok (.return_, 1) := by decide +kernel
theorem dX8_draws_0 : decode cX8_draws 0 = .ok (.iload_n 1, 1) := by decide +kernel
theorem dX8_draws_1 : decode cX8_draws 1 = .ok (.tableswitch 69 2 5 #[31, 38, 69, 61], 31) := by decide +kernel
theorem dX8_draws_32 : decode cX8_draws 32 = .ok (.aload_n 0, 1) := by decide +kernel
theorem dX8_draws_33 : decode cX8_draws 33 = .ok (.getfield 43, 3) := by decide +kernel
theorem dX8_draws_36 : decode cX8_draws 36 = .ok (.iload_n 2, 1) := by decide +kernel
theorem dX8_draws_37 : decode cX8_draws 37 = .ok (.iaload, 1) := by decide +kernel
theorem dX8_draws_38 : decode cX8_draws 38 = .ok (.ireturn, 1) := by decide +kernel
theorem dX8_draws_39 : decode cX8_draws 39 = .ok (.aload_n 0, 1) := by decide +kernel
theorem dX8_draws_40 : decode cX8_draws 40 = .ok (.getfield 192, 3) := by decide +kernel
theorem dX8_draws_43 : decode cX8_draws 43 = .ok (.ifCond .ne 12, 3) := by decide +kernel
theorem dX8_draws_46 : decode cX8_draws 46 = .ok (.aload_n 0, 1) := by decide +kernel
theorem dX8_draws_47 : decode cX8_draws 47 = .ok (.getfield 40, 3) := by decide +kernel
theorem dX8_draws_50 : decode cX8_draws 50 = .ok (.iload_n 2, 1) := by decide +kernel
theorem dX8_draws_51 : decode cX8_draws 51 = .ok (.iaload, 1) := by decide +kernel
theorem dX8_draws_52 : decode cX8_draws 52 = .ok (.goto 9, 3) := by decide +kernel
theorem dX8_draws_55 : decode cX8_draws 55 = .ok (.aload_n 0, 1) := by decide +kernel
theorem dX8_draws_56 : decode cX8_draws 56 = .ok (.getfield 46, 3) := by decide +kernel
theorem dX8_draws_59 : decode cX8_draws 59 = .ok (.iload_n 2, 1) := by decide +kernel
theorem dX8_draws_60 : decode cX8_draws 60 = .ok (.iaload, 1) := by decide +kernel
theorem dX8_draws_61 : decode cX8_draws 61 = .ok (.ireturn, 1) := by decide +kernel
theorem dX8_draws_62 : decode cX8_draws 62 = .ok (.aload_n 0, 1) := by decide +kernel
theorem dX8_draws_63 : decode cX8_draws 63 = .ok (.getfield 40, 3) := by decide +kernel
theorem dX8_draws_66 : decode cX8_draws 66 = .ok (.iload_n 2, 1) := by decide +kernel
theorem dX8_draws_67 : decode cX8_draws 67 = .ok (.iaload, 1) := by decide +kernel
theorem dX8_draws_68 : decode cX8_draws 68 = .ok (.ineg, 1) := by decide +kernel
theorem dX8_draws_69 : decode cX8_draws 69 = .ok (.ireturn, 1) := by decide +kernel
theorem dX8_draws_70 : decode cX8_draws 70 = .ok (.aload_n 0, 1) := by decide +kernel
theorem dX8_draws_71 : decode cX8_draws 71 = .ok (.getfield 40, 3) := by decide +kernel
theorem dX8_draws_74 : decode cX8_draws 74 = .ok (.iload_n 2, 1) := by decide +kernel
theorem dX8_draws_75 : decode cX8_draws 75 = .ok (.iaload, 1) := by decide +kernel
theorem dX8_draws_76 : decode cX8_draws 76 = .ok (.ireturn, 1) := by decide +kernel
theorem dX8_goesTo_0 : decode cX8_goesTo 0 = .ok (.aload_n 0, 1) := by decide +kernel
theorem dX8_goesTo_1 : decode cX8_goesTo 1 = .ok (.iload_n 1, 1) := by decide +kernel
theorem dX8_goesTo_2 : decode cX8_goesTo 2 = .ok (.iconst 0, 1) := by decide +kernel
theorem dX8_goesTo_3 : decode cX8_goesTo 3 = .ok (.invokevirtual 201, 3) := by decide +kernel
theorem dX8_goesTo_6 : decode cX8_goesTo 6 = .ok (.istore_n 2, 1) := by decide +kernel
theorem dX8_goesTo_7 : decode cX8_goesTo 7 = .ok (.aload_n 0, 1) := by decide +kernel
theorem dX8_goesTo_8 : decode cX8_goesTo 8 = .ok (.getfield 31, 3) := by decide +kernel
theorem dX8_goesTo_11 : decode cX8_goesTo 11 = .ok (.iload_n 1, 1) := by decide +kernel
theorem dX8_goesTo_12 : decode cX8_goesTo 12 = .ok (.iaload, 1) := by decide +kernel
theorem dX8_goesTo_13 : decode cX8_goesTo 13 = .ok (.istore_n 3, 1) := by decide +kernel
theorem dX8_goesTo_14 : decode cX8_goesTo 14 = .ok (.iload_n 2, 1) := by decide +kernel
theorem dX8_goesTo_15 : decode cX8_goesTo 15 = .ok (.iconst 4, 1) := by decide +kernel
theorem dX8_goesTo_16 : decode cX8_goesTo 16 = .ok (.if_icmp .ne 5, 3) := by decide +kernel
theorem dX8_goesTo_19 : decode cX8_goesTo 19 = .ok (.iload_n 3, 1) := by decide +kernel
theorem dX8_goesTo_20 : decode cX8_goesTo 20 = .ok (.ireturn, 1) := by decide +kernel
theorem dX8_goesTo_21 : decode cX8_goesTo 21 = .ok (.iload_n 3, 1) := by decide +kernel
theorem dX8_goesTo_22 : decode cX8_goesTo 22 = .ok (.istore 4, 2) := by decide +kernel
theorem dX8_goesTo_24 : decode cX8_goesTo 24 = .ok (.aload_n 0, 1) := by decide +kernel
theorem dX8_goesTo_25 : decode cX8_goesTo 25 = .ok (.iload_n 2, 1) := by decide +kernel
theorem dX8_goesTo_26 : decode cX8_goesTo 26 = .ok (.iload_n 3, 1) := by decide +kernel
theorem dX8_goesTo_27 : decode cX8_goesTo 27 = .ok (.invokevirtual 204, 3) := by decide +kernel
theorem dX8_goesTo_30 : decode cX8_goesTo 30 = .ok (.istore 5, 2) := by decide +kernel
theorem dX8_goesTo_32 : decode cX8_goesTo 32 = .ok (.iconst 0, 1) := by decide +kernel
theorem dX8_goesTo_33 : decode cX8_goesTo 33 = .ok (.istore 6, 2) := by decide +kernel
theorem dX8_goesTo_35 : decode cX8_goesTo 35 = .ok (.iload 6, 2) := by decide +kernel
theorem dX8_goesTo_37 : decode cX8_goesTo 37 = .ok (.aload_n 0, 1) := by decide +kernel
theorem dX8_goesTo_38 : decode cX8_goesTo 38 = .ok (.getfield 19, 3) := by decide +kernel
theorem dX8_goesTo_41 : decode cX8_goesTo 41 = .ok (.iconst 0, 1) := by decide +kernel
theorem dX8_goesTo_42 : decode cX8_goesTo 42 = .ok (.iaload, 1) := by decide +kernel
theorem dX8_goesTo_43 : decode cX8_goesTo 43 = .ok (.if_icmp .ge 49, 3) := by decide +kernel
theorem dX8_goesTo_46 : decode cX8_goesTo 46 = .ok (.aload_n 0, 1) := by decide +kernel
theorem dX8_goesTo_47 : decode cX8_goesTo 47 = .ok (.getfield 37, 3) := by decide +kernel
theorem dX8_goesTo_50 : decode cX8_goesTo 50 = .ok (.iload_n 3, 1) := by decide +kernel
theorem dX8_goesTo_51 : decode cX8_goesTo 51 = .ok (.iaload, 1) := by decide +kernel
theorem dX8_goesTo_52 : decode cX8_goesTo 52 = .ok (.iload 6, 2) := by decide +kernel
theorem dX8_goesTo_54 : decode cX8_goesTo 54 = .ok (.ishr, 1) := by decide +kernel
theorem dX8_goesTo_55 : decode cX8_goesTo 55 = .ok (.iconst 1, 1) := by decide +kernel
theorem dX8_goesTo_56 : decode cX8_goesTo 56 = .ok (.iand, 1) := by decide +kernel
theorem dX8_goesTo_57 : decode cX8_goesTo 57 = .ok (.iconst 1, 1) := by decide +kernel
theorem dX8_goesTo_58 : decode cX8_goesTo 58 = .ok (.if_icmp .ne 28, 3) := by decide +kernel
theorem dX8_goesTo_61 : decode cX8_goesTo 61 = .ok (.aload_n 0, 1) := by decide +kernel
theorem dX8_goesTo_62 : decode cX8_goesTo 62 = .ok (.iload_n 2, 1) := by decide +kernel
theorem dX8_goesTo_63 : decode cX8_goesTo 63 = .ok (.iload 6, 2) := by decide +kernel
theorem dX8_goesTo_65 : decode cX8_goesTo 65 = .ok (.invokevirtual 204, 3) := by decide +kernel
theorem dX8_goesTo_68 : decode cX8_goesTo 68 = .ok (.iload 5, 2) := by decide +kernel
theorem dX8_goesTo_70 : decode cX8_goesTo 70 = .ok (.if_icmp .le 16, 3) := by decide +kernel
theorem dX8_goesTo_73 : decode cX8_goesTo 73 = .ok (.aload_n 0, 1) := by decide +kernel
theorem dX8_goesTo_74 : decode cX8_goesTo 74 = .ok (.iload_n 2, 1) := by decide +kernel
theorem dX8_goesTo_75 : decode cX8_goesTo 75 = .ok (.iload 6, 2) := by decide +kernel
theorem dX8_goesTo_77 : decode cX8_goesTo 77 = .ok (.invokevirtual 204, 3) := by decide +kernel
theorem dX8_goesTo_80 : decode cX8_goesTo 80 = .ok (.istore 5, 2) := by decide +kernel
theorem dX8_goesTo_82 : decode cX8_goesTo 82 = .ok (.iload 6, 2) := by decide +kernel
theorem dX8_goesTo_84 : decode cX8_goesTo 84 = .ok (.istore 4, 2) := by decide +kernel
theorem dX8_goesTo_86 : decode cX8_goesTo 86 = .ok (.iinc 6 1, 3) := by decide +kernel
theorem dX8_goesTo_89 : decode cX8_goesTo 89 = .ok (.goto (-54), 3) := by decide +kernel
theorem dX8_goesTo_92 : decode cX8_goesTo 92 = .ok (.iload 4, 2) := by decide +kernel
theorem dX8_goesTo_94 : decode cX8_goesTo 94 = .ok (.ireturn, 1) := by decide +kernel
theorem dX8_goBell_0 : decode cX8_goBell 0 = .ok (.aload_n 0, 1) := by decide +kernel
theorem dX8_goBell_1 : decode cX8_goBell 1 = .ok (.invokevirtual 207, 3) := by decide +kernel
theorem dX8_goBell_4 : decode cX8_goBell 4 = .ok (.iconst 0, 1) := by decide +kernel
theorem dX8_goBell_5 : decode cX8_goBell 5 = .ok (.istore_n 1, 1) := by decide +kernel
theorem dX8_goBell_6 : decode cX8_goBell 6 = .ok (.iconst 0, 1) := by decide +kernel
theorem dX8_goBell_7 : decode cX8_goBell 7 = .ok (.istore_n 2, 1) := by decide +kernel
theorem dX8_goBell_8 : decode cX8_goBell 8 = .ok (.iload_n 2, 1) := by decide +kernel
theorem dX8_goBell_9 : decode cX8_goBell 9 = .ok (.aload_n 0, 1) := by decide +kernel
theorem dX8_goBell_10 : decode cX8_goBell 10 = .ok (.getfield 19, 3) := by decide +kernel
theorem dX8_goBell_13 : decode cX8_goBell 13 = .ok (.iconst 2, 1) := by decide +kernel
theorem dX8_goBell_14 : decode cX8_goBell 14 = .ok (.iaload, 1) := by decide +kernel
theorem dX8_goBell_15 : decode cX8_goBell 15 = .ok (.if_icmp .ge 20, 3) := by decide +kernel
theorem dX8_goBell_18 : decode cX8_goBell 18 = .ok (.aload_n 0, 1) := by decide +kernel
theorem dX8_goBell_19 : decode cX8_goBell 19 = .ok (.getfield 34, 3) := by decide +kernel
theorem dX8_goBell_22 : decode cX8_goBell 22 = .ok (.iload_n 2, 1) := by decide +kernel
theorem dX8_goBell_23 : decode cX8_goBell 23 = .ok (.aload_n 0, 1) := by decide +kernel
theorem dX8_goBell_24 : decode cX8_goBell 24 = .ok (.iload_n 2, 1) := by decide +kernel
theorem dX8_goBell_25 : decode cX8_goBell 25 = .ok (.invokevirtual 210, 3) := by decide +kernel
theorem dX8_goBell_28 : decode cX8_goBell 28 = .ok (.iastore, 1) := by decide +kernel
theorem dX8_goBell_29 : decode cX8_goBell 29 = .ok (.iinc 2 1, 3) := by decide +kernel
theorem dX8_goBell_32 : decode cX8_goBell 32 = .ok (.goto (-24), 3) := by decide +kernel
theorem dX8_goBell_35 : decode cX8_goBell 35 = .ok (.iconst 0, 1) := by decide +kernel
theorem dX8_goBell_36 : decode cX8_goBell 36 = .ok (.istore_n 2, 1) := by decide +kernel
theorem dX8_goBell_37 : decode cX8_goBell 37 = .ok (.iload_n 2, 1) := by decide +kernel
theorem dX8_goBell_38 : decode cX8_goBell 38 = .ok (.aload_n 0, 1) := by decide +kernel
theorem dX8_goBell_39 : decode cX8_goBell 39 = .ok (.getfield 19, 3) := by decide +kernel
theorem dX8_goBell_42 : decode cX8_goBell 42 = .ok (.iconst 2, 1) := by decide +kernel
theorem dX8_goBell_43 : decode cX8_goBell 43 = .ok (.iaload, 1) := by decide +kernel
theorem dX8_goBell_44 : decode cX8_goBell 44 = .ok (.if_icmp .ge 46, 3) := by decide +kernel
theorem dX8_goBell_47 : decode cX8_goBell 47 = .ok (.iload_n 1, 1) := by decide +kernel
theorem dX8_goBell_48 : decode cX8_goBell 48 = .ok (.aload_n 0, 1) := by decide +kernel
theorem dX8_goBell_49 : decode cX8_goBell 49 = .ok (.getfield 34, 3) := by decide +kernel
theorem dX8_goBell_52 : decode cX8_goBell 52 = .ok (.iload_n 2, 1) := by decide +kernel
theorem dX8_goBell_53 : decode cX8_goBell 53 = .ok (.iaload, 1) := by decide +kernel
theorem dX8_goBell_54 : decode cX8_goBell 54 = .ok (.aload_n 0, 1) := by decide +kernel
theorem dX8_goBell_55 : decode cX8_goBell 55 = .ok (.getfield 31, 3) := by decide +kernel
theorem dX8_goBell_58 : decode cX8_goBell 58 = .ok (.iload_n 2, 1) := by decide +kernel
theorem dX8_goBell_59 : decode cX8_goBell 59 = .ok (.iaload, 1) := by decide +kernel
theorem dX8_goBell_60 : decode cX8_goBell 60 = .ok (.if_icmp .eq 9, 3) := by decide +kernel
theorem dX8_goBell_63 : decode cX8_goBell 63 = .ok (.iconst 1, 1) := by decide +kernel
theorem dX8_goBell_64 : decode cX8_goBell 64 = .ok (.iload_n 2, 1) := by decide +kernel
theorem dX8_goBell_65 : decode cX8_goBell 65 = .ok (.ishl, 1) := by decide +kernel
theorem dX8_goBell_66 : decode cX8_goBell 66 = .ok (.goto 4, 3) := by decide +kernel
theorem dX8_goBell_69 : decode cX8_goBell 69 = .ok (.iconst 0, 1) := by decide +kernel
theorem dX8_goBell_70 : decode cX8_goBell 70 = .ok (.ior, 1) := by decide +kernel
theorem dX8_goBell_71 : decode cX8_goBell 71 = .ok (.istore_n 1, 1) := by decide +kernel
theorem dX8_goBell_72 : decode cX8_goBell 72 = .ok (.aload_n 0, 1) := by decide +kernel
theorem dX8_goBell_73 : decode cX8_goBell 73 = .ok (.getfield 31, 3) := by decide +kernel
theorem dX8_goBell_76 : decode cX8_goBell 76 = .ok (.iload_n 2, 1) := by decide +kernel
theorem dX8_goBell_77 : decode cX8_goBell 77 = .ok (.aload_n 0, 1) := by decide +kernel
theorem dX8_goBell_78 : decode cX8_goBell 78 = .ok (.getfield 34, 3) := by decide +kernel
theorem dX8_goBell_81 : decode cX8_goBell 81 = .ok (.iload_n 2, 1) := by decide +kernel
theorem dX8_goBell_82 : decode cX8_goBell 82 = .ok (.iaload, 1) := by decide +kernel
theorem dX8_goBell_83 : decode cX8_goBell 83 = .ok (.iastore, 1) := by decide +kernel
theorem dX8_goBell_84 : decode cX8_goBell 84 = .ok (.iinc 2 1, 3) := by decide +kernel
theorem dX8_goBell_87 : decode cX8_goBell 87 = .ok (.goto (-50), 3) := by decide +kernel
theorem dX8_goBell_90 : decode cX8_goBell 90 = .ok (.iconst 0, 1) := by decide +kernel
theorem dX8_goBell_91 : decode cX8_goBell 91 = .ok (.istore_n 2, 1) := by decide +kernel
theorem dX8_goBell_92 : decode cX8_goBell 92 = .ok (.iload_n 2, 1) := by decide +kernel
theorem dX8_goBell_93 : decode cX8_goBell 93 = .ok (.bipush 6, 2) := by decide +kernel
theorem dX8_goBell_95 : decode cX8_goBell 95 = .ok (.if_icmp .ge 21, 3) := by decide +kernel
theorem dX8_goBell_98 : decode cX8_goBell 98 = .ok (.aload_n 0, 1) := by decide +kernel
theorem dX8_goBell_99 : decode cX8_goBell 99 = .ok (.getfield 46, 3) := by decide +kernel
theorem dX8_goBell_102 : decode cX8_goBell 102 = .ok (.iload_n 2, 1) := by decide +kernel
theorem dX8_goBell_103 : decode cX8_goBell 103 = .ok (.aload_n 0, 1) := by decide +kernel
theorem dX8_goBell_104 : decode cX8_goBell 104 = .ok (.getfield 40, 3) := by decide +kernel
theorem dX8_goBell_107 : decode cX8_goBell 107 = .ok (.iload_n 2, 1) := by decide +kernel
theorem dX8_goBell_108 : decode cX8_goBell 108 = .ok (.iaload, 1) := by decide +kernel
theorem dX8_goBell_109 : decode cX8_goBell 109 = .ok (.iastore, 1) := by decide +kernel
theorem dX8_goBell_110 : decode cX8_goBell 110 = .ok (.iinc 2 1, 3) := by decide +kernel
theorem dX8_goBell_113 : decode cX8_goBell 113 = .ok (.goto (-21), 3) := by decide +kernel
end
section
/-! decode rows: X8 -/
theorem dX8_goBell_116 : decode cX8_goBell 116 = .ok (.aload_n 0, 1) := by decide +kernel
theorem dX8_goBell_117 : decode cX8_goBell 117 = .ok (.dup, 1) := by decide +kernel
theorem dX8_goBell_118 : decode cX8_goBell 118 = .ok (.getfield 192, 3) := by decide +kernel
theorem dX8_goBell_121 : decode cX8_goBell 121 = .ok (.iconst 1, 1) := by decide +kernel
theorem dX8_goBell_122 : decode cX8_goBell 122 = .ok (.iadd, 1) := by decide +kernel
theorem dX8_goBell_123 : decode cX8_goBell 123 = .ok (.putfield 192, 3) := by decide +kernel
theorem dX8_goBell_126 : decode cX8_goBell 126 = .ok (.iload_n 1, 1) := by decide +kernel
theorem dX8_goBell_127 : decode cX8_goBell 127 = .ok (.ireturn, 1) := by decide +kernel
theorem dX8_goBells_0 : decode cX8_goBells 0 = .ok (.iconst 0, 1) := by decide +kernel
theorem dX8_goBells_1 : decode cX8_goBells 1 = .ok (.istore_n 2, 1) := by decide +kernel
theorem dX8_goBells_2 : decode cX8_goBells 2 = .ok (.iload_n 2, 1) := by decide +kernel
theorem dX8_goBells_3 : decode cX8_goBells 3 = .ok (.iload_n 1, 1) := by decide +kernel
theorem dX8_goBells_4 : decode cX8_goBells 4 = .ok (.if_icmp .ge 14, 3) := by decide +kernel
theorem dX8_goBells_7 : decode cX8_goBells 7 = .ok (.aload_n 0, 1) := by decide +kernel
theorem dX8_goBells_8 : decode cX8_goBells 8 = .ok (.invokevirtual 213, 3) := by decide +kernel
theorem dX8_goBells_11 : decode cX8_goBells 11 = .ok (.istore_n 3, 1) := by decide +kernel
theorem dX8_goBells_12 : decode cX8_goBells 12 = .ok (.iinc 2 1, 3) := by decide +kernel
theorem dX8_goBells_15 : decode cX8_goBells 15 = .ok (.goto (-13), 3) := by decide +kernel
theorem dX8_goBells_18 : decode cX8_goBells 18 = .ok (.return_, 1) := by decide +kernel
theorem dX8_keep_0 : decode cX8_keep 0 = .ok (.aload_n 0, 1) := by decide +kernel
theorem dX8_keep_1 : decode cX8_keep 1 = .ok (.getfield 189, 3) := by decide +kernel
theorem dX8_keep_4 : decode cX8_keep 4 = .ok (.bipush 24, 2) := by decide +kernel
theorem dX8_keep_6 : decode cX8_keep 6 = .ok (.if_icmp .ne 43, 3) := by decide +kernel
theorem dX8_keep_9 : decode cX8_keep 9 = .ok (.iconst 0, 1) := by decide +kernel
theorem dX8_keep_10 : decode cX8_keep 10 = .ok (.istore_n 1, 1) := by decide +kernel
theorem dX8_keep_11 : decode cX8_keep 11 = .ok (.iload_n 1, 1) := by decide +kernel
theorem dX8_keep_12 : decode cX8_keep 12 = .ok (.sipush 851, 3) := by decide +kernel
theorem dX8_keep_15 : decode cX8_keep 15 = .ok (.if_icmp .ge 24, 3) := by decide +kernel
theorem dX8_keep_18 : decode cX8_keep 18 = .ok (.aload_n 0, 1) := by decide +kernel
theorem dX8_keep_19 : decode cX8_keep 19 = .ok (.getfield 25, 3) := by decide +kernel
theorem dX8_keep_22 : decode cX8_keep 22 = .ok (.iload_n 1, 1) := by decide +kernel
theorem dX8_keep_23 : decode cX8_keep 23 = .ok (.aload_n 0, 1) := by decide +kernel
theorem dX8_keep_24 : decode cX8_keep 24 = .ok (.getfield 25, 3) := by decide +kernel
theorem dX8_keep_27 : decode cX8_keep 27 = .ok (.iload_n 1, 1) := by decide +kernel
theorem dX8_keep_28 : decode cX8_keep 28 = .ok (.bipush 37, 2) := by decide +kernel
theorem dX8_keep_30 : decode cX8_keep 30 = .ok (.iadd, 1) := by decide +kernel
theorem dX8_keep_31 : decode cX8_keep 31 = .ok (.iaload, 1) := by decide +kernel
theorem dX8_keep_32 : decode cX8_keep 32 = .ok (.iastore, 1) := by decide +kernel
theorem dX8_keep_33 : decode cX8_keep 33 = .ok (.iinc 1 1, 3) := by decide +kernel
theorem dX8_keep_36 : decode cX8_keep 36 = .ok (.goto (-25), 3) := by decide +kernel
theorem dX8_keep_39 : decode cX8_keep 39 = .ok (.aload_n 0, 1) := by decide +kernel
theorem dX8_keep_40 : decode cX8_keep 40 = .ok (.dup, 1) := by decide +kernel
theorem dX8_keep_41 : decode cX8_keep 41 = .ok (.getfield 189, 3) := by decide +kernel
theorem dX8_keep_44 : decode cX8_keep 44 = .ok (.iconst 1, 1) := by decide +kernel
theorem dX8_keep_45 : decode cX8_keep 45 = .ok (.isub, 1) := by decide +kernel
theorem dX8_keep_46 : decode cX8_keep 46 = .ok (.putfield 189, 3) := by decide +kernel
theorem dX8_keep_49 : decode cX8_keep 49 = .ok (.iconst 0, 1) := by decide +kernel
theorem dX8_keep_50 : decode cX8_keep 50 = .ok (.istore_n 1, 1) := by decide +kernel
theorem dX8_keep_51 : decode cX8_keep 51 = .ok (.iload_n 1, 1) := by decide +kernel
theorem dX8_keep_52 : decode cX8_keep 52 = .ok (.bipush 37, 2) := by decide +kernel
theorem dX8_keep_54 : decode cX8_keep 54 = .ok (.if_icmp .ge 29, 3) := by decide +kernel
theorem dX8_keep_57 : decode cX8_keep 57 = .ok (.aload_n 0, 1) := by decide +kernel
theorem dX8_keep_58 : decode cX8_keep 58 = .ok (.getfield 25, 3) := by decide +kernel
theorem dX8_keep_61 : decode cX8_keep 61 = .ok (.bipush 37, 2) := by decide +kernel
theorem dX8_keep_63 : decode cX8_keep 63 = .ok (.aload_n 0, 1) := by decide +kernel
theorem dX8_keep_64 : decode cX8_keep 64 = .ok (.getfield 189, 3) := by decide +kernel
theorem dX8_keep_67 : decode cX8_keep 67 = .ok (.imul, 1) := by decide +kernel
theorem dX8_keep_68 : decode cX8_keep 68 = .ok (.iload_n 1, 1) := by decide +kernel
theorem dX8_keep_69 : decode cX8_keep 69 = .ok (.iadd, 1) := by decide +kernel
theorem dX8_keep_70 : decode cX8_keep 70 = .ok (.aload_n 0, 1) := by decide +kernel
theorem dX8_keep_71 : decode cX8_keep 71 = .ok (.getfield 19, 3) := by decide +kernel
theorem dX8_keep_74 : decode cX8_keep 74 = .ok (.iload_n 1, 1) := by decide +kernel
theorem dX8_keep_75 : decode cX8_keep 75 = .ok (.iaload, 1) := by decide +kernel
theorem dX8_keep_76 : decode cX8_keep 76 = .ok (.iastore, 1) := by decide +kernel
theorem dX8_keep_77 : decode cX8_keep 77 = .ok (.iinc 1 1, 3) := by decide +kernel
theorem dX8_keep_80 : decode cX8_keep 80 = .ok (.goto (-29), 3) := by decide +kernel
theorem dX8_keep_83 : decode cX8_keep 83 = .ok (.aload_n 0, 1) := by decide +kernel
theorem dX8_keep_84 : decode cX8_keep 84 = .ok (.dup, 1) := by decide +kernel
theorem dX8_keep_85 : decode cX8_keep 85 = .ok (.getfield 189, 3) := by decide +kernel
theorem dX8_keep_88 : decode cX8_keep 88 = .ok (.iconst 1, 1) := by decide +kernel
theorem dX8_keep_89 : decode cX8_keep 89 = .ok (.iadd, 1) := by decide +kernel
theorem dX8_keep_90 : decode cX8_keep 90 = .ok (.putfield 189, 3) := by decide +kernel
theorem dX8_keep_93 : decode cX8_keep 93 = .ok (.return_, 1) := by decide +kernel
theorem dX8_ring_0 : decode cX8_ring 0 = .ok (.aload_n 0, 1) := by decide +kernel
theorem dX8_ring_1 : decode cX8_ring 1 = .ok (.invokevirtual 216, 3) := by decide +kernel
theorem dX8_ring_4 : decode cX8_ring 4 = .ok (.aload_n 0, 1) := by decide +kernel
theorem dX8_ring_5 : decode cX8_ring 5 = .ok (.invokevirtual 219, 3) := by decide +kernel
theorem dX8_ring_8 : decode cX8_ring 8 = .ok (.aload_n 0, 1) := by decide +kernel
theorem dX8_ring_9 : decode cX8_ring 9 = .ok (.invokevirtual 213, 3) := by decide +kernel
theorem dX8_ring_12 : decode cX8_ring 12 = .ok (.istore_n 1, 1) := by decide +kernel
theorem dX8_ring_13 : decode cX8_ring 13 = .ok (.aload_n 0, 1) := by decide +kernel
theorem dX8_ring_14 : decode cX8_ring 14 = .ok (.getfield 19, 3) := by decide +kernel
theorem dX8_ring_17 : decode cX8_ring 17 = .ok (.iconst 3, 1) := by decide +kernel
theorem dX8_ring_18 : decode cX8_ring 18 = .ok (.dup2, 1) := by decide +kernel
theorem dX8_ring_19 : decode cX8_ring 19 = .ok (.iaload, 1) := by decide +kernel
theorem dX8_ring_20 : decode cX8_ring 20 = .ok (.iconst 1, 1) := by decide +kernel
theorem dX8_ring_21 : decode cX8_ring 21 = .ok (.iadd, 1) := by decide +kernel
theorem dX8_ring_22 : decode cX8_ring 22 = .ok (.iastore, 1) := by decide +kernel
theorem dX8_ring_23 : decode cX8_ring 23 = .ok (.iconst 0, 1) := by decide +kernel
theorem dX8_ring_24 : decode cX8_ring 24 = .ok (.istore_n 2, 1) := by decide +kernel
theorem dX8_ring_25 : decode cX8_ring 25 = .ok (.iload_n 2, 1) := by decide +kernel
theorem dX8_ring_26 : decode cX8_ring 26 = .ok (.aload_n 0, 1) := by decide +kernel
theorem dX8_ring_27 : decode cX8_ring 27 = .ok (.getfield 19, 3) := by decide +kernel
theorem dX8_ring_30 : decode cX8_ring 30 = .ok (.iconst 0, 1) := by decide +kernel
theorem dX8_ring_31 : decode cX8_ring 31 = .ok (.iaload, 1) := by decide +kernel
theorem dX8_ring_32 : decode cX8_ring 32 = .ok (.if_icmp .ge 24, 3) := by decide +kernel
theorem dX8_ring_35 : decode cX8_ring 35 = .ok (.aload_n 0, 1) := by decide +kernel
theorem dX8_ring_36 : decode cX8_ring 36 = .ok (.getfield 19, 3) := by decide +kernel
theorem dX8_ring_39 : decode cX8_ring 39 = .ok (.bipush 16, 2) := by decide +kernel
theorem dX8_ring_41 : decode cX8_ring 41 = .ok (.iload_n 2, 1) := by decide +kernel
theorem dX8_ring_42 : decode cX8_ring 42 = .ok (.iadd, 1) := by decide +kernel
theorem dX8_ring_43 : decode cX8_ring 43 = .ok (.aload_n 0, 1) := by decide +kernel
theorem dX8_ring_44 : decode cX8_ring 44 = .ok (.getfield 46, 3) := by decide +kernel
theorem dX8_ring_47 : decode cX8_ring 47 = .ok (.iload_n 2, 1) := by decide +kernel
theorem dX8_ring_48 : decode cX8_ring 48 = .ok (.iaload, 1) := by decide +kernel
theorem dX8_ring_49 : decode cX8_ring 49 = .ok (.iastore, 1) := by decide +kernel
theorem dX8_ring_50 : decode cX8_ring 50 = .ok (.iinc 2 1, 3) := by decide +kernel
theorem dX8_ring_53 : decode cX8_ring 53 = .ok (.goto (-28), 3) := by decide +kernel
theorem dX8_ring_56 : decode cX8_ring 56 = .ok (.iconst 0, 1) := by decide +kernel
theorem dX8_ring_57 : decode cX8_ring 57 = .ok (.istore_n 2, 1) := by decide +kernel
theorem dX8_ring_58 : decode cX8_ring 58 = .ok (.iload_n 2, 1) := by decide +kernel
theorem dX8_ring_59 : decode cX8_ring 59 = .ok (.aload_n 0, 1) := by decide +kernel
theorem dX8_ring_60 : decode cX8_ring 60 = .ok (.getfield 19, 3) := by decide +kernel
theorem dX8_ring_63 : decode cX8_ring 63 = .ok (.iconst 2, 1) := by decide +kernel
theorem dX8_ring_64 : decode cX8_ring 64 = .ok (.iaload, 1) := by decide +kernel
theorem dX8_ring_65 : decode cX8_ring 65 = .ok (.if_icmp .ge 28, 3) := by decide +kernel
theorem dX8_ring_68 : decode cX8_ring 68 = .ok (.aload_n 0, 1) := by decide +kernel
theorem dX8_ring_69 : decode cX8_ring 69 = .ok (.getfield 19, 3) := by decide +kernel
theorem dX8_ring_72 : decode cX8_ring 72 = .ok (.bipush 22, 2) := by decide +kernel
theorem dX8_ring_74 : decode cX8_ring 74 = .ok (.iconst 3, 1) := by decide +kernel
theorem dX8_ring_75 : decode cX8_ring 75 = .ok (.iload_n 2, 1) := by decide +kernel
theorem dX8_ring_76 : decode cX8_ring 76 = .ok (.imul, 1) := by decide +kernel
theorem dX8_ring_77 : decode cX8_ring 77 = .ok (.iadd, 1) := by decide +kernel
theorem dX8_ring_78 : decode cX8_ring 78 = .ok (.iconst 1, 1) := by decide +kernel
theorem dX8_ring_79 : decode cX8_ring 79 = .ok (.iadd, 1) := by decide +kernel
theorem dX8_ring_80 : decode cX8_ring 80 = .ok (.aload_n 0, 1) := by decide +kernel
theorem dX8_ring_81 : decode cX8_ring 81 = .ok (.getfield 31, 3) := by decide +kernel
theorem dX8_ring_84 : decode cX8_ring 84 = .ok (.iload_n 2, 1) := by decide +kernel
theorem dX8_ring_85 : decode cX8_ring 85 = .ok (.iaload, 1) := by decide +kernel
theorem dX8_ring_86 : decode cX8_ring 86 = .ok (.iastore, 1) := by decide +kernel
theorem dX8_ring_87 : decode cX8_ring 87 = .ok (.iinc 2 1, 3) := by decide +kernel
theorem dX8_ring_90 : decode cX8_ring 90 = .ok (.goto (-32), 3) := by decide +kernel
theorem dX8_ring_93 : decode cX8_ring 93 = .ok (.iload_n 1, 1) := by decide +kernel
theorem dX8_ring_94 : decode cX8_ring 94 = .ok (.ireturn, 1) := by decide +kernel
theorem dX8_bell_0 : decode cX8_bell 0 = .ok (.aload_n 0, 1) := by decide +kernel
theorem dX8_bell_1 : decode cX8_bell 1 = .ok (.iconst 0, 1) := by decide +kernel
theorem dX8_bell_2 : decode cX8_bell 2 = .ok (.putfield 59, 3) := by decide +kernel
theorem dX8_bell_5 : decode cX8_bell 5 = .ok (.aload_n 0, 1) := by decide +kernel
theorem dX8_bell_6 : decode cX8_bell 6 = .ok (.invokevirtual 222, 3) := by decide +kernel
theorem dX8_bell_9 : decode cX8_bell 9 = .ok (.ifCond .ne 6, 3) := by decide +kernel
theorem dX8_bell_12 : decode cX8_bell 12 = .ok (.ldc 226, 2) := by decide +kernel
theorem dX8_bell_14 : decode cX8_bell 14 = .ok (.ireturn, 1) := by decide +kernel
theorem dX8_bell_15 : decode cX8_bell 15 = .ok (.aload_n 0, 1) := by decide +kernel
theorem dX8_bell_16 : decode cX8_bell 16 = .ok (.getfield 19, 3) := by decide +kernel
theorem dX8_bell_19 : decode cX8_bell 19 = .ok (.iconst 3, 1) := by decide +kernel
theorem dX8_bell_20 : decode cX8_bell 20 = .ok (.iaload, 1) := by decide +kernel
theorem dX8_bell_21 : decode cX8_bell 21 = .ok (.sipush 9999, 3) := by decide +kernel
theorem dX8_bell_24 : decode cX8_bell 24 = .ok (.if_icmp .ne 8, 3) := by decide +kernel
theorem dX8_bell_27 : decode cX8_bell 27 = .ok (.ldc 89, 2) := by decide +kernel
theorem dX8_bell_29 : decode cX8_bell 29 = .ok (.goto 7, 3) := by decide +kernel
theorem dX8_bell_32 : decode cX8_bell 32 = .ok (.aload_n 0, 1) := by decide +kernel
theorem dX8_bell_33 : decode cX8_bell 33 = .ok (.invokevirtual 227, 3) := by decide +kernel
theorem dX8_bell_36 : decode cX8_bell 36 = .ok (.ireturn, 1) := by decide +kernel
theorem dX8_headsOfAll_0 : decode cX8_headsOfAll 0 = .ok (.iconst 0, 1) := by decide +kernel
theorem dX8_headsOfAll_1 : decode cX8_headsOfAll 1 = .ok (.istore_n 1, 1) := by decide +kernel
theorem dX8_headsOfAll_2 : decode cX8_headsOfAll 2 = .ok (.iconst 0, 1) := by decide +kernel
theorem dX8_headsOfAll_3 : decode cX8_headsOfAll 3 = .ok (.istore_n 2, 1) := by decide +kernel
theorem dX8_headsOfAll_4 : decode cX8_headsOfAll 4 = .ok (.iload_n 2, 1) := by decide +kernel
theorem dX8_headsOfAll_5 : decode cX8_headsOfAll 5 = .ok (.aload_n 0, 1) := by decide +kernel
theorem dX8_headsOfAll_6 : decode cX8_headsOfAll 6 = .ok (.getfield 19, 3) := by decide +kernel
theorem dX8_headsOfAll_9 : decode cX8_headsOfAll 9 = .ok (.iconst 2, 1) := by decide +kernel
theorem dX8_headsOfAll_10 : decode cX8_headsOfAll 10 = .ok (.iaload, 1) := by decide +kernel
theorem dX8_headsOfAll_11 : decode cX8_headsOfAll 11 = .ok (.if_icmp .ge 18, 3) := by decide +kernel
theorem dX8_headsOfAll_14 : decode cX8_headsOfAll 14 = .ok (.iload_n 1, 1) := by decide +kernel
theorem dX8_headsOfAll_15 : decode cX8_headsOfAll 15 = .ok (.aload_n 0, 1) := by decide +kernel
theorem dX8_headsOfAll_16 : decode cX8_headsOfAll 16 = .ok (.iload_n 2, 1) := by decide +kernel
theorem dX8_headsOfAll_17 : decode cX8_headsOfAll 17 = .ok (.iconst 2, 1) := by decide +kernel
theorem dX8_headsOfAll_18 : decode cX8_headsOfAll 18 = .ok (.invokevirtual 201, 3) := by decide +kernel
theorem dX8_headsOfAll_21 : decode cX8_headsOfAll 21 = .ok (.iadd, 1) := by decide +kernel
theorem dX8_headsOfAll_22 : decode cX8_headsOfAll 22 = .ok (.istore_n 1, 1) := by decide +kernel
theorem dX8_headsOfAll_23 : decode cX8_headsOfAll 23 = .ok (.iinc 2 1, 3) := by decide +kernel
theorem dX8_headsOfAll_26 : decode cX8_headsOfAll 26 = .ok (.goto (-22), 3) := by decide +kernel
theorem dX8_headsOfAll_29 : decode cX8_headsOfAll 29 = .ok (.iload_n 1, 1) := by decide +kernel
theorem dX8_headsOfAll_30 : decode cX8_headsOfAll 30 = .ok (.ireturn, 1) := by decide +kernel
theorem dX8_haveRoom_0 : decode cX8_haveRoom 0 = .ok (.aload_n 0, 1) := by decide +kernel
theorem dX8_haveRoom_1 : decode cX8_haveRoom 1 = .ok (.getfield 19, 3) := by decide +kernel
theorem dX8_haveRoom_4 : decode cX8_haveRoom 4 = .ok (.iconst 3, 1) := by decide +kernel
theorem dX8_haveRoom_5 : decode cX8_haveRoom 5 = .ok (.iaload, 1) := by decide +kernel
theorem dX8_haveRoom_6 : decode cX8_haveRoom 6 = .ok (.iload_n 2, 1) := by decide +kernel
theorem dX8_haveRoom_7 : decode cX8_haveRoom 7 = .ok (.iadd, 1) := by decide +kernel
theorem dX8_haveRoom_8 : decode cX8_haveRoom 8 = .ok (.sipush 9999, 3) := by decide +kernel
theorem dX8_haveRoom_11 : decode cX8_haveRoom 11 = .ok (.if_icmp .gt 7, 3) := by decide +kernel
theorem dX8_haveRoom_14 : decode cX8_haveRoom 14 = .ok (.iconst 1, 1) := by decide +kernel
theorem dX8_haveRoom_15 : decode cX8_haveRoom 15 = .ok (.goto 4, 3) := by decide +kernel
theorem dX8_haveRoom_18 : decode cX8_haveRoom 18 = .ok (.iconst 0, 1) := by decide +kernel
theorem dX8_haveRoom_19 : decode cX8_haveRoom 19 = .ok (.istore_n 3, 1) := by decide +kernel
theorem dX8_haveRoom_20 : decode cX8_haveRoom 20 = .ok (.iconst 0, 1) := by decide +kernel
theorem dX8_haveRoom_21 : decode cX8_haveRoom 21 = .ok (.istore 4, 2) := by decide +kernel
theorem dX8_haveRoom_23 : decode cX8_haveRoom 23 = .ok (.iload 4, 2) := by decide +kernel
theorem dX8_haveRoom_25 : decode cX8_haveRoom 25 = .ok (.aload_n 0, 1) := by decide +kernel
theorem dX8_haveRoom_26 : decode cX8_haveRoom 26 = .ok (.getfield 19, 3) := by decide +kernel
theorem dX8_haveRoom_29 : decode cX8_haveRoom 29 = .ok (.iconst 2, 1) := by decide +kernel
theorem dX8_haveRoom_30 : decode cX8_haveRoom 30 = .ok (.iaload, 1) := by decide +kernel
theorem dX8_haveRoom_31 : decode cX8_haveRoom 31 = .ok (.if_icmp .ge 69, 3) := by decide +kernel
theorem dX8_haveRoom_34 : decode cX8_haveRoom 34 = .ok (.aload_n 0, 1) := by decide +kernel
theorem dX8_haveRoom_35 : decode cX8_haveRoom 35 = .ok (.iload 4, 2) := by decide +kernel
theorem dX8_haveRoom_37 : decode cX8_haveRoom 37 = .ok (.iconst 2, 1) := by decide +kernel
theorem dX8_haveRoom_38 : decode cX8_haveRoom 38 = .ok (.invokevirtual 201, 3) := by decide +kernel
theorem dX8_haveRoom_41 : decode cX8_haveRoom 41 = .ok (.istore 5, 2) := by decide +kernel
theorem dX8_haveRoom_43 : decode cX8_haveRoom 43 = .ok (.iconst 0, 1) := by decide +kernel
theorem dX8_haveRoom_44 : decode cX8_haveRoom 44 = .ok (.istore 6, 2) := by decide +kernel
theorem dX8_haveRoom_46 : decode cX8_haveRoom 46 = .ok (.iload 6, 2) := by decide +kernel
theorem dX8_haveRoom_48 : decode cX8_haveRoom 48 = .ok (.iload_n 2, 1) := by decide +kernel
theorem dX8_haveRoom_49 : decode cX8_haveRoom 49 = .ok (.if_icmp .ge 28, 3) := by decide +kernel
theorem dX8_haveRoom_52 : decode cX8_haveRoom 52 = .ok (.iload 5, 2) := by decide +kernel
theorem dX8_haveRoom_54 : decode cX8_haveRoom 54 = .ok (.aload_n 0, 1) := by decide +kernel
theorem dX8_haveRoom_55 : decode cX8_haveRoom 55 = .ok (.getfield 16, 3) := by decide +kernel
theorem dX8_haveRoom_58 : decode cX8_haveRoom 58 = .ok (.iload_n 1, 1) := by decide +kernel
theorem dX8_haveRoom_59 : decode cX8_haveRoom 59 = .ok (.iload 6, 2) := by decide +kernel
theorem dX8_haveRoom_61 : decode cX8_haveRoom 61 = .ok (.iadd, 1) := by decide +kernel
theorem dX8_haveRoom_62 : decode cX8_haveRoom 62 = .ok (.iaload, 1) := by decide +kernel
theorem dX8_haveRoom_63 : decode cX8_haveRoom 63 = .ok (.iload 4, 2) := by decide +kernel
theorem dX8_haveRoom_65 : decode cX8_haveRoom 65 = .ok (.ishr, 1) := by decide +kernel
theorem dX8_haveRoom_66 : decode cX8_haveRoom 66 = .ok (.iconst 1, 1) := by decide +kernel
theorem dX8_haveRoom_67 : decode cX8_haveRoom 67 = .ok (.iand, 1) := by decide +kernel
theorem dX8_haveRoom_68 : decode cX8_haveRoom 68 = .ok (.iadd, 1) := by decide +kernel
theorem dX8_haveRoom_69 : decode cX8_haveRoom 69 = .ok (.istore 5, 2) := by decide +kernel
theorem dX8_haveRoom_71 : decode cX8_haveRoom 71 = .ok (.iinc 6 1, 3) := by decide +kernel
theorem dX8_haveRoom_74 : decode cX8_haveRoom 74 = .ok (.goto (-28), 3) := by decide +kernel
theorem dX8_haveRoom_77 : decode cX8_haveRoom 77 = .ok (.iload_n 3, 1) := by decide +kernel
theorem dX8_haveRoom_78 : decode cX8_haveRoom 78 = .ok (.ifCond .eq 14, 3) := by decide +kernel
theorem dX8_haveRoom_81 : decode cX8_haveRoom 81 = .ok (.iload 5, 2) := by decide +kernel
theorem dX8_haveRoom_83 : decode cX8_haveRoom 83 = .ok (.bipush 99, 2) := by decide +kernel
theorem dX8_haveRoom_85 : decode cX8_haveRoom 85 = .ok (.if_icmp .gt 7, 3) := by decide +kernel
theorem dX8_haveRoom_88 : decode cX8_haveRoom 88 = .ok (.iconst 1, 1) := by decide +kernel
theorem dX8_haveRoom_89 : decode cX8_haveRoom 89 = .ok (.goto 4, 3) := by decide +kernel
theorem dX8_haveRoom_92 : decode cX8_haveRoom 92 = .ok (.iconst 0, 1) := by decide +kernel
theorem dX8_haveRoom_93 : decode cX8_haveRoom 93 = .ok (.istore_n 3, 1) := by decide +kernel
theorem dX8_haveRoom_94 : decode cX8_haveRoom 94 = .ok (.iinc 4 1, 3) := by decide +kernel
theorem dX8_haveRoom_97 : decode cX8_haveRoom 97 = .ok (.goto (-74), 3) := by decide +kernel
theorem dX8_haveRoom_100 : decode cX8_haveRoom 100 = .ok (.iload_n 3, 1) := by decide +kernel
theorem dX8_haveRoom_101 : decode cX8_haveRoom 101 = .ok (.ireturn, 1) := by decide +kernel
theorem dX8_bells_0 : decode cX8_bells 0 = .ok (.aload_n 0, 1) := by decide +kernel
theorem dX8_bells_1 : decode cX8_bells 1 = .ok (.iconst 0, 1) := by decide +kernel
theorem dX8_bells_2 : decode cX8_bells 2 = .ok (.putfield 59, 3) := by decide +kernel
theorem dX8_bells_5 : decode cX8_bells 5 = .ok (.aload_n 0, 1) := by decide +kernel
theorem dX8_bells_6 : decode cX8_bells 6 = .ok (.invokevirtual 222, 3) := by decide +kernel
theorem dX8_bells_9 : decode cX8_bells 9 = .ok (.ifCond .ne 6, 3) := by decide +kernel
theorem dX8_bells_12 : decode cX8_bells 12 = .ok (.ldc 226, 2) := by decide +kernel
theorem dX8_bells_14 : decode cX8_bells 14 = .ok (.ireturn, 1) := by decide +kernel
theorem dX8_bells_15 : decode cX8_bells 15 = .ok (.iload_n 1, 1) := by decide +kernel
theorem dX8_bells_16 : decode cX8_bells 16 = .ok (.invokestatic 73, 3) := by decide +kernel
theorem dX8_bells_19 : decode cX8_bells 19 = .ok (.ifCond .eq 15, 3) := by decide +kernel
theorem dX8_bells_22 : decode cX8_bells 22 = .ok (.iload_n 3, 1) := by decide +kernel
theorem dX8_bells_23 : decode cX8_bells 23 = .ok (.i2l, 1) := by decide +kernel
theorem dX8_bells_24 : decode cX8_bells 24 = .ok (.lconst 1, 1) := by decide +kernel
theorem dX8_bells_25 : decode cX8_bells 25 = .ok (.ldc2_w 230, 3) := by decide +kernel
theorem dX8_bells_28 : decode cX8_bells 28 = .ok (.invokestatic 69, 3) := by decide +kernel
theorem dX8_bells_31 : decode cX8_bells 31 = .ok (.ifCond .ne 6, 3) := by decide +kernel
theorem dX8_bells_34 : decode cX8_bells 34 = .ok (.ldc 79, 2) := by decide +kernel
theorem dX8_bells_36 : decode cX8_bells 36 = .ok (.ireturn, 1) := by decide +kernel
theorem dX8_bells_37 : decode cX8_bells 37 = .ok (.aload_n 0, 1) := by decide +kernel
theorem dX8_bells_38 : decode cX8_bells 38 = .ok (.getfield 7, 3) := by decide +kernel
theorem dX8_bells_41 : decode cX8_bells 41 = .ok (.iload_n 1, 1) := by decide +kernel
theorem dX8_bells_42 : decode cX8_bells 42 = .ok (.iaload, 1) := by decide +kernel
theorem dX8_bells_43 : decode cX8_bells 43 = .ok (.ifCond .ge 9, 3) := by decide +kernel
theorem dX8_bells_46 : decode cX8_bells 46 = .ok (.aload_n 0, 1) := by decide +kernel
theorem dX8_bells_47 : decode cX8_bells 47 = .ok (.iconst 1, 1) := by decide +kernel
theorem dX8_bells_48 : decode cX8_bells 48 = .ok (.invokevirtual 80, 3) := by decide +kernel
theorem dX8_bells_51 : decode cX8_bells 51 = .ok (.ireturn, 1) := by decide +kernel
theorem dX8_bells_52 : decode cX8_bells 52 = .ok (.iload_n 2, 1) := by decide +kernel
theorem dX8_bells_53 : decode cX8_bells 53 = .ok (.ifCond .lt 19, 3) := by decide +kernel
theorem dX8_bells_56 : decode cX8_bells 56 = .ok (.iload_n 2, 1) := by decide +kernel
theorem dX8_bells_57 : decode cX8_bells 57 = .ok (.i2l, 1) := by decide +kernel
theorem dX8_bells_58 : decode cX8_bells 58 = .ok (.iload_n 3, 1) := by decide +kernel
theorem dX8_bells_59 : decode cX8_bells 59 = .ok (.i2l, 1) := by decide +kernel
theorem dX8_bells_60 : decode cX8_bells 60 = .ok (.ladd, 1) := by decide +kernel
theorem dX8_bells_61 : decode cX8_bells 61 = .ok (.aload_n 0, 1) := by decide +kernel
theorem dX8_bells_62 : decode cX8_bells 62 = .ok (.getfield 13, 3) := by decide +kernel
theorem dX8_bells_65 : decode cX8_bells 65 = .ok (.iload_n 1, 1) := by decide +kernel
theorem dX8_bells_66 : decode cX8_bells 66 = .ok (.iaload, 1) := by decide +kernel
theorem dX8_bells_67 : decode cX8_bells 67 = .ok (.i2l, 1) := by decide +kernel
theorem dX8_bells_68 : decode cX8_bells 68 = .ok (.lcmp, 1) := by decide +kernel
theorem dX8_bells_69 : decode cX8_bells 69 = .ok (.ifCond .le 9, 3) := by decide +kernel
theorem dX8_bells_72 : decode cX8_bells 72 = .ok (.aload_n 0, 1) := by decide +kernel
theorem dX8_bells_73 : decode cX8_bells 73 = .ok (.iconst 2, 1) := by decide +kernel
theorem dX8_bells_74 : decode cX8_bells 74 = .ok (.invokevirtual 80, 3) := by decide +kernel
theorem dX8_bells_77 : decode cX8_bells 77 = .ok (.ireturn, 1) := by decide +kernel
theorem dX8_bells_78 : decode cX8_bells 78 = .ok (.bipush 40, 2) := by decide +kernel
theorem dX8_bells_80 : decode cX8_bells 80 = .ok (.iload_n 1, 1) := by decide +kernel
theorem dX8_bells_81 : decode cX8_bells 81 = .ok (.imul, 1) := by decide +kernel
theorem dX8_bells_82 : decode cX8_bells 82 = .ok (.iload_n 2, 1) := by decide +kernel
theorem dX8_bells_83 : decode cX8_bells 83 = .ok (.iadd, 1) := by decide +kernel
theorem dX8_bells_84 : decode cX8_bells 84 = .ok (.istore 4, 2) := by decide +kernel
theorem dX8_bells_86 : decode cX8_bells 86 = .ok (.iconst 0, 1) := by decide +kernel
theorem dX8_bells_87 : decode cX8_bells 87 = .ok (.istore 5, 2) := by decide +kernel
theorem dX8_bells_89 : decode cX8_bells 89 = .ok (.iload 5, 2) := by decide +kernel
theorem dX8_bells_91 : decode cX8_bells 91 = .ok (.iload_n 3, 1) := by decide +kernel
theorem dX8_bells_92 : decode cX8_bells 92 = .ok (.if_icmp .ge 41, 3) := by decide +kernel
theorem dX8_bells_95 : decode cX8_bells 95 = .ok (.aload_n 0, 1) := by decide +kernel
theorem dX8_bells_96 : decode cX8_bells 96 = .ok (.getfield 16, 3) := by decide +kernel
theorem dX8_bells_99 : decode cX8_bells 99 = .ok (.iload 4, 2) := by decide +kernel
theorem dX8_bells_101 : decode cX8_bells 101 = .ok (.iload 5, 2) := by decide +kernel
theorem dX8_bells_103 : decode cX8_bells 103 = .ok (.iadd, 1) := by decide +kernel
theorem dX8_bells_104 : decode cX8_bells 104 = .ok (.iaload, 1) := by decide +kernel
theorem dX8_bells_105 : decode cX8_bells 105 = .ok (.i2l, 1) := by decide +kernel
theorem dX8_bells_106 : decode cX8_bells 106 = .ok (.lconst 0, 1) := by decide +kernel
theorem dX8_bells_107 : decode cX8_bells 107 = .ok (.iconst 1, 1) := by decide +kernel
theorem dX8_bells_108 : decode cX8_bells 108 = .ok (.aload_n 0, 1) := by decide +kernel
theorem dX8_bells_109 : decode cX8_bells 109 = .ok (.getfield 19, 3) := by decide +kernel
theorem dX8_bells_112 : decode cX8_bells 112 = .ok (.iconst 2, 1) := by decide +kernel
theorem dX8_bells_113 : decode cX8_bells 113 = .ok (.iaload, 1) := by decide +kernel
theorem dX8_bells_114 : decode cX8_bells 114 = .ok (.ishl, 1) := by decide +kernel
theorem dX8_bells_115 : decode cX8_bells 115 = .ok (.iconst 1, 1) := by decide +kernel
theorem dX8_bells_116 : decode cX8_bells 116 = .ok (.isub, 1) := by decide +kernel
theorem dX8_bells_117 : decode cX8_bells 117 = .ok (.i2l, 1) := by decide +kernel
theorem dX8_bells_118 : decode cX8_bells 118 = .ok (.invokestatic 69, 3) := by decide +kernel
theorem dX8_bells_121 : decode cX8_bells 121 = .ok (.ifCond .ne 6, 3) := by decide +kernel
theorem dX8_bells_124 : decode cX8_bells 124 = .ok (.ldc 79, 2) := by decide +kernel
theorem dX8_bells_126 : decode cX8_bells 126 = .ok (.ireturn, 1) := by decide +kernel
theorem dX8_bells_127 : decode cX8_bells 127 = .ok (.iinc 5 1, 3) := by decide +kernel
theorem dX8_bells_130 : decode cX8_bells 130 = .ok (.goto (-41), 3) := by decide +kernel
theorem dX8_bells_133 : decode cX8_bells 133 = .ok (.aload_n 0, 1) := by decide +kernel
theorem dX8_bells_134 : decode cX8_bells 134 = .ok (.iload 4, 2) := by decide +kernel
theorem dX8_bells_136 : decode cX8_bells 136 = .ok (.iload_n 3, 1) := by decide +kernel
theorem dX8_bells_137 : decode cX8_bells 137 = .ok (.invokevirtual 232, 3) := by decide +kernel
theorem dX8_bells_140 : decode cX8_bells 140 = .ok (.ifCond .ne 6, 3) := by decide +kernel
theorem dX8_bells_143 : decode cX8_bells 143 = .ok (.ldc 89, 2) := by decide +kernel
theorem dX8_bells_145 : decode cX8_bells 145 = .ok (.ireturn, 1) := by decide +kernel
theorem dX8_bells_146 : decode cX8_bells 146 = .ok (.aload_n 0, 1) := by decide +kernel
theorem dX8_bells_147 : decode cX8_bells 147 = .ok (.iconst 0, 1) := by decide +kernel
theorem dX8_bells_148 : decode cX8_bells 148 = .ok (.putfield 63, 3) := by decide +kernel
theorem dX8_bells_151 : decode cX8_bells 151 = .ok (.iconst 0, 1) := by decide +kernel
theorem dX8_bells_152 : decode cX8_bells 152 = .ok (.istore 5, 2) := by decide +kernel
theorem dX8_bells_154 : decode cX8_bells 154 = .ok (.iload 5, 2) := by decide +kernel
theorem dX8_bells_156 : decode cX8_bells 156 = .ok (.iload_n 3, 1) := by decide +kernel
theorem dX8_bells_157 : decode cX8_bells 157 = .ok (.if_icmp .ge 67, 3) := by decide +kernel
theorem dX8_bells_160 : decode cX8_bells 160 = .ok (.aload_n 0, 1) := by decide +kernel
theorem dX8_bells_161 : decode cX8_bells 161 = .ok (.invokevirtual 227, 3) := by decide +kernel
theorem dX8_bells_164 : decode cX8_bells 164 = .ok (.istore 6, 2) := by decide +kernel
theorem dX8_bells_166 : decode cX8_bells 166 = .ok (.iconst 0, 1) := by decide +kernel
theorem dX8_bells_167 : decode cX8_bells 167 = .ok (.istore 7, 2) := by decide +kernel
theorem dX8_bells_169 : decode cX8_bells 169 = .ok (.iload 7, 2) := by decide +kernel
theorem dX8_bells_171 : decode cX8_bells 171 = .ok (.aload_n 0, 1) := by decide +kernel
theorem dX8_bells_172 : decode cX8_bells 172 = .ok (.getfield 19, 3) := by decide +kernel
theorem dX8_bells_175 : decode cX8_bells 175 = .ok (.iconst 2, 1) := by decide +kernel
theorem dX8_bells_176 : decode cX8_bells 176 = .ok (.iaload, 1) := by decide +kernel
theorem dX8_bells_177 : decode cX8_bells 177 = .ok (.if_icmp .ge 41, 3) := by decide +kernel
theorem dX8_bells_180 : decode cX8_bells 180 = .ok (.aload_n 0, 1) := by decide +kernel
theorem dX8_bells_181 : decode cX8_bells 181 = .ok (.getfield 19, 3) := by decide +kernel
theorem dX8_bells_184 : decode cX8_bells 184 = .ok (.bipush 22, 2) := by decide +kernel
theorem dX8_bells_186 : decode cX8_bells 186 = .ok (.iconst 3, 1) := by decide +kernel
theorem dX8_bells_187 : decode cX8_bells 187 = .ok (.iload 7, 2) := by decide +kernel
theorem dX8_bells_189 : decode cX8_bells 189 = .ok (.imul, 1) := by decide +kernel
theorem dX8_bells_190 : decode cX8_bells 190 = .ok (.iadd, 1) := by decide +kernel
theorem dX8_bells_191 : decode cX8_bells 191 = .ok (.iconst 2, 1) := by decide +kernel
theorem dX8_bells_192 : decode cX8_bells 192 = .ok (.iadd, 1) := by decide +kernel
theorem dX8_bells_193 : decode cX8_bells 193 = .ok (.dup2, 1) := by decide +kernel
theorem dX8_bells_194 : decode cX8_bells 194 = .ok (.iaload, 1) := by decide +kernel
theorem dX8_bells_195 : decode cX8_bells 195 = .ok (.aload_n 0, 1) := by decide +kernel
theorem dX8_bells_196 : decode cX8_bells 196 = .ok (.getfield 16, 3) := by decide +kernel
theorem dX8_bells_199 : decode cX8_bells 199 = .ok (.iload 4, 2) := by decide +kernel
theorem dX8_bells_201 : decode cX8_bells 201 = .ok (.iload 5, 2) := by decide +kernel
theorem dX8_bells_203 : decode cX8_bells 203 = .ok (.iadd, 1) := by decide +kernel
theorem dX8_bells_204 : decode cX8_bells 204 = .ok (.iaload, 1) := by decide +kernel
theorem dX8_bells_205 : decode cX8_bells 205 = .ok (.iload 7, 2) := by decide +kernel
theorem dX8_bells_207 : decode cX8_bells 207 = .ok (.ishr, 1) := by decide +kernel
theorem dX8_bells_208 : decode cX8_bells 208 = .ok (.iconst 1, 1) := by decide +kernel
theorem dX8_bells_209 : decode cX8_bells 209 = .ok (.iand, 1) := by decide +kernel
theorem dX8_bells_210 : decode cX8_bells 210 = .ok (.iadd, 1) := by decide +kernel
theorem dX8_bells_211 : decode cX8_bells 211 = .ok (.iastore, 1) := by decide +kernel
theorem dX8_bells_212 : decode cX8_bells 212 = .ok (.iinc 7 1, 3) := by decide +kernel
theorem dX8_bells_215 : decode cX8_bells 215 = .ok (.goto (-46), 3) := by decide +kernel
theorem dX8_bells_218 : decode cX8_bells 218 = .ok (.iinc 5 1, 3) := by decide +kernel
theorem dX8_bells_221 : decode cX8_bells 221 = .ok (.goto (-67), 3) := by decide +kernel
theorem dX8_bells_224 : decode cX8_bells 224 = .ok (.aload_n 0, 1) := by decide +kernel
theorem dX8_bells_225 : decode cX8_bells 225 = .ok (.invokevirtual 236, 3) := by decide +kernel
theorem dX8_bells_228 : decode cX8_bells 228 = .ok (.ireturn, 1) := by decide +kernel
theorem dX8_door_0 : decode cX8_door 0 = .ok (.aload_n 0, 1) := by decide +kernel
theorem dX8_door_1 : decode cX8_door 1 = .ok (.iconst 0, 1) := by decide +kernel
theorem dX8_door_2 : decode cX8_door 2 = .ok (.putfield 59, 3) := by decide +kernel
theorem dX8_door_5 : decode cX8_door 5 = .ok (.aload_n 0, 1) := by decide +kernel
theorem dX8_door_6 : decode cX8_door 6 = .ok (.iload_n 1, 1) := by decide +kernel
theorem dX8_door_7 : decode cX8_door 7 = .ok (.invokevirtual 239, 3) := by decide +kernel
theorem dX8_door_10 : decode cX8_door 10 = .ok (.ifCond .eq 26, 3) := by decide +kernel
theorem dX8_door_13 : decode cX8_door 13 = .ok (.aload_n 0, 1) := by decide +kernel
theorem dX8_door_14 : decode cX8_door 14 = .ok (.iload_n 2, 1) := by decide +kernel
theorem dX8_door_15 : decode cX8_door 15 = .ok (.invokevirtual 239, 3) := by decide +kernel
theorem dX8_door_18 : decode cX8_door 18 = .ok (.ifCond .eq 18, 3) := by decide +kernel
theorem dX8_door_21 : decode cX8_door 21 = .ok (.iload_n 1, 1) := by decide +kernel
theorem dX8_door_22 : decode cX8_door 22 = .ok (.iload_n 2, 1) := by decide +kernel
theorem dX8_door_23 : decode cX8_door 23 = .ok (.if_icmp .eq 13, 3) := by decide +kernel
theorem dX8_door_26 : decode cX8_door 26 = .ok (.iload_n 3, 1) := by decide +kernel
theorem dX8_door_27 : decode cX8_door 27 = .ok (.i2l, 1) := by decide +kernel
theorem dX8_door_28 : decode cX8_door 28 = .ok (.lconst 0, 1) := by decide +kernel
theorem dX8_door_29 : decode cX8_door 29 = .ok (.lconst 1, 1) := by decide +kernel
theorem dX8_door_30 : decode cX8_door 30 = .ok (.invokestatic 69, 3) := by decide +kernel
theorem dX8_door_33 : decode cX8_door 33 = .ok (.ifCond .ne 6, 3) := by decide +kernel
theorem dX8_door_36 : decode cX8_door 36 = .ok (.ldc 79, 2) := by decide +kernel
theorem dX8_door_38 : decode cX8_door 38 = .ok (.ireturn, 1) := by decide +kernel
theorem dX8_door_39 : decode cX8_door 39 = .ok (.aload_n 0, 1) := by decide +kernel
theorem dX8_door_40 : decode cX8_door 40 = .ok (.invokevirtual 216, 3) := by decide +kernel
theorem dX8_door_43 : decode cX8_door 43 = .ok (.aload_n 0, 1) := by decide +kernel
theorem dX8_door_44 : decode cX8_door 44 = .ok (.getfield 19, 3) := by decide +kernel
theorem dX8_door_47 : decode cX8_door 47 = .ok (.bipush 10, 2) := by decide +kernel
theorem dX8_door_49 : decode cX8_door 49 = .ok (.iload_n 1, 1) := by decide +kernel
theorem dX8_door_50 : decode cX8_door 50 = .ok (.iadd, 1) := by decide +kernel
theorem dX8_door_51 : decode cX8_door 51 = .ok (.iaload, 1) := by decide +kernel
theorem dX8_door_52 : decode cX8_door 52 = .ok (.iload_n 2, 1) := by decide +kernel
theorem dX8_door_53 : decode cX8_door 53 = .ok (.ishr, 1) := by decide +kernel
theorem dX8_door_54 : decode cX8_door 54 = .ok (.iconst 1, 1) := by decide +kernel
theorem dX8_door_55 : decode cX8_door 55 = .ok (.iand, 1) := by decide +kernel
theorem dX8_door_56 : decode cX8_door 56 = .ok (.istore 4, 2) := by decide +kernel
theorem dX8_door_58 : decode cX8_door 58 = .ok (.aload_n 0, 1) := by decide +kernel
theorem dX8_door_59 : decode cX8_door 59 = .ok (.getfield 19, 3) := by decide +kernel
theorem dX8_door_62 : decode cX8_door 62 = .ok (.bipush 10, 2) := by decide +kernel
theorem dX8_door_64 : decode cX8_door 64 = .ok (.iload_n 1, 1) := by decide +kernel
theorem dX8_door_65 : decode cX8_door 65 = .ok (.iadd, 1) := by decide +kernel
theorem dX8_door_66 : decode cX8_door 66 = .ok (.aload_n 0, 1) := by decide +kernel
theorem dX8_door_67 : decode cX8_door 67 = .ok (.getfield 19, 3) := by decide +kernel
theorem dX8_door_70 : decode cX8_door 70 = .ok (.bipush 10, 2) := by decide +kernel
theorem dX8_door_72 : decode cX8_door 72 = .ok (.iload_n 1, 1) := by decide +kernel
theorem dX8_door_73 : decode cX8_door 73 = .ok (.iadd, 1) := by decide +kernel
theorem dX8_door_74 : decode cX8_door 74 = .ok (.iaload, 1) := by decide +kernel
theorem dX8_door_75 : decode cX8_door 75 = .ok (.iconst 1, 1) := by decide +kernel
theorem dX8_door_76 : decode cX8_door 76 = .ok (.iload_n 2, 1) := by decide +kernel
theorem dX8_door_77 : decode cX8_door 77 = .ok (.ishl, 1) := by decide +kernel
theorem dX8_door_78 : decode cX8_door 78 = .ok (.iconst (-1), 1) := by decide +kernel
theorem dX8_door_79 : decode cX8_door 79 = .ok (.ixor, 1) := by decide +kernel
theorem dX8_door_80 : decode cX8_door 80 = .ok (.iand, 1) := by decide +kernel
theorem dX8_door_81 : decode cX8_door 81 = .ok (.iload_n 3, 1) := by decide +kernel
theorem dX8_door_82 : decode cX8_door 82 = .ok (.iload_n 2, 1) := by decide +kernel
theorem dX8_door_83 : decode cX8_door 83 = .ok (.ishl, 1) := by decide +kernel
theorem dX8_door_84 : decode cX8_door 84 = .ok (.ior, 1) := by decide +kernel
theorem dX8_door_85 : decode cX8_door 85 = .ok (.iastore, 1) := by decide +kernel
theorem dX8_door_86 : decode cX8_door 86 = .ok (.aload_n 0, 1) := by decide +kernel
theorem dX8_door_87 : decode cX8_door 87 = .ok (.getfield 19, 3) := by decide +kernel
theorem dX8_door_90 : decode cX8_door 90 = .ok (.bipush 10, 2) := by decide +kernel
theorem dX8_door_92 : decode cX8_door 92 = .ok (.iload_n 2, 1) := by decide +kernel
theorem dX8_door_93 : decode cX8_door 93 = .ok (.iadd, 1) := by decide +kernel
theorem dX8_door_94 : decode cX8_door 94 = .ok (.aload_n 0, 1) := by decide +kernel
theorem dX8_door_95 : decode cX8_door 95 = .ok (.getfield 19, 3) := by decide +kernel
theorem dX8_door_98 : decode cX8_door 98 = .ok (.bipush 10, 2) := by decide +kernel
theorem dX8_door_100 : decode cX8_door 100 = .ok (.iload_n 2, 1) := by decide +kernel
theorem dX8_door_101 : decode cX8_door 101 = .ok (.iadd, 1) := by decide +kernel
theorem dX8_door_102 : decode cX8_door 102 = .ok (.iaload, 1) := by decide +kernel
theorem dX8_door_103 : decode cX8_door 103 = .ok (.iconst 1, 1) := by decide +kernel
theorem dX8_door_104 : decode cX8_door 104 = .ok (.iload_n 1, 1) := by decide +kernel
theorem dX8_door_105 : decode cX8_door 105 = .ok (.ishl, 1) := by decide +kernel
theorem dX8_door_106 : decode cX8_door 106 = .ok (.iconst (-1), 1) := by decide +kernel
theorem dX8_door_107 : decode cX8_door 107 = .ok (.ixor, 1) := by decide +kernel
theorem dX8_door_108 : decode cX8_door 108 = .ok (.iand, 1) := by decide +kernel
theorem dX8_door_109 : decode cX8_door 109 = .ok (.iload_n 3, 1) := by decide +kernel
theorem dX8_door_110 : decode cX8_door 110 = .ok (.iload_n 1, 1) := by decide +kernel
theorem dX8_door_111 : decode cX8_door 111 = .ok (.ishl, 1) := by decide +kernel
theorem dX8_door_112 : decode cX8_door 112 = .ok (.ior, 1) := by decide +kernel
theorem dX8_door_113 : decode cX8_door 113 = .ok (.iastore, 1) := by decide +kernel
theorem dX8_door_114 : decode cX8_door 114 = .ok (.iload 4, 2) := by decide +kernel
theorem dX8_door_116 : decode cX8_door 116 = .ok (.ireturn, 1) := by decide +kernel
theorem dX8_heads_0 : decode cX8_heads 0 = .ok (.aload_n 0, 1) := by decide +kernel
theorem dX8_heads_1 : decode cX8_heads 1 = .ok (.iconst 0, 1) := by decide +kernel
theorem dX8_heads_2 : decode cX8_heads 2 = .ok (.putfield 59, 3) := by decide +kernel
theorem dX8_heads_5 : decode cX8_heads 5 = .ok (.aload_n 0, 1) := by decide +kernel
theorem dX8_heads_6 : decode cX8_heads 6 = .ok (.iload_n 1, 1) := by decide +kernel
theorem dX8_heads_7 : decode cX8_heads 7 = .ok (.invokevirtual 242, 3) := by decide +kernel
theorem dX8_heads_10 : decode cX8_heads 10 = .ok (.ifCond .eq 15, 3) := by decide +kernel
theorem dX8_heads_13 : decode cX8_heads 13 = .ok (.iload_n 2, 1) := by decide +kernel
theorem dX8_heads_14 : decode cX8_heads 14 = .ok (.i2l, 1) := by decide +kernel
theorem dX8_heads_15 : decode cX8_heads 15 = .ok (.lconst 1, 1) := by decide +kernel
theorem dX8_heads_16 : decode cX8_heads 16 = .ok (.ldc2_w 245, 3) := by decide +kernel
theorem dX8_heads_19 : decode cX8_heads 19 = .ok (.invokestatic 69, 3) := by decide +kernel
theorem dX8_heads_22 : decode cX8_heads 22 = .ok (.ifCond .ne 6, 3) := by decide +kernel
theorem dX8_heads_25 : decode cX8_heads 25 = .ok (.ldc 79, 2) := by decide +kernel
theorem dX8_heads_27 : decode cX8_heads 27 = .ok (.ireturn, 1) := by decide +kernel
theorem dX8_heads_28 : decode cX8_heads 28 = .ok (.aload_n 0, 1) := by decide +kernel
theorem dX8_heads_29 : decode cX8_heads 29 = .ok (.invokevirtual 216, 3) := by decide +kernel
theorem dX8_heads_32 : decode cX8_heads 32 = .ok (.aload_n 0, 1) := by decide +kernel
theorem dX8_heads_33 : decode cX8_heads 33 = .ok (.iload_n 1, 1) := by decide +kernel
theorem dX8_heads_34 : decode cX8_heads 34 = .ok (.iconst 2, 1) := by decide +kernel
theorem dX8_heads_35 : decode cX8_heads 35 = .ok (.invokevirtual 201, 3) := by decide +kernel
theorem dX8_heads_38 : decode cX8_heads 38 = .ok (.istore_n 3, 1) := by decide +kernel
theorem dX8_heads_39 : decode cX8_heads 39 = .ok (.aload_n 0, 1) := by decide +kernel
theorem dX8_heads_40 : decode cX8_heads 40 = .ok (.getfield 19, 3) := by decide +kernel
theorem dX8_heads_43 : decode cX8_heads 43 = .ok (.bipush 22, 2) := by decide +kernel
theorem dX8_heads_45 : decode cX8_heads 45 = .ok (.iconst 3, 1) := by decide +kernel
theorem dX8_heads_46 : decode cX8_heads 46 = .ok (.iload_n 1, 1) := by decide +kernel
theorem dX8_heads_47 : decode cX8_heads 47 = .ok (.imul, 1) := by decide +kernel
theorem dX8_heads_48 : decode cX8_heads 48 = .ok (.iadd, 1) := by decide +kernel
theorem dX8_heads_49 : decode cX8_heads 49 = .ok (.iconst 2, 1) := by decide +kernel
theorem dX8_heads_50 : decode cX8_heads 50 = .ok (.iadd, 1) := by decide +kernel
theorem dX8_heads_51 : decode cX8_heads 51 = .ok (.iload_n 2, 1) := by decide +kernel
theorem dX8_heads_52 : decode cX8_heads 52 = .ok (.iastore, 1) := by decide +kernel
theorem dX8_heads_53 : decode cX8_heads 53 = .ok (.iload_n 3, 1) := by decide +kernel
theorem dX8_heads_54 : decode cX8_heads 54 = .ok (.ireturn, 1) := by decide +kernel
theorem dX8_undo_0 : decode cX8_undo 0 = .ok (.aload_n 0, 1) := by decide +kernel
theorem dX8_undo_1 : decode cX8_undo 1 = .ok (.iconst 0, 1) := by decide +kernel
theorem dX8_undo_2 : decode cX8_undo 2 = .ok (.putfield 59, 3) := by decide +kernel
theorem dX8_undo_5 : decode cX8_undo 5 = .ok (.aload_n 0, 1) := by decide +kernel
theorem dX8_undo_6 : decode cX8_undo 6 = .ok (.getfield 189, 3) := by decide +kernel
theorem dX8_undo_9 : decode cX8_undo 9 = .ok (.ifCond .ne 6, 3) := by decide +kernel
theorem dX8_undo_12 : decode cX8_undo 12 = .ok (.ldc 226, 2) := by decide +kernel
theorem dX8_undo_14 : decode cX8_undo 14 = .ok (.ireturn, 1) := by decide +kernel
theorem dX8_undo_15 : decode cX8_undo 15 = .ok (.aload_n 0, 1) := by decide +kernel
theorem dX8_undo_16 : decode cX8_undo 16 = .ok (.dup, 1) := by decide +kernel
theorem dX8_undo_17 : decode cX8_undo 17 = .ok (.getfield 189, 3) := by decide +kernel
theorem dX8_undo_20 : decode cX8_undo 20 = .ok (.iconst 1, 1) := by decide +kernel
theorem dX8_undo_21 : decode cX8_undo 21 = .ok (.isub, 1) := by decide +kernel
theorem dX8_undo_22 : decode cX8_undo 22 = .ok (.putfield 189, 3) := by decide +kernel
theorem dX8_undo_25 : decode cX8_undo 25 = .ok (.iconst 0, 1) := by decide +kernel
theorem dX8_undo_26 : decode cX8_undo 26 = .ok (.istore_n 1, 1) := by decide +kernel
theorem dX8_undo_27 : decode cX8_undo 27 = .ok (.iload_n 1, 1) := by decide +kernel
theorem dX8_undo_28 : decode cX8_undo 28 = .ok (.bipush 37, 2) := by decide +kernel
theorem dX8_undo_30 : decode cX8_undo 30 = .ok (.if_icmp .ge 29, 3) := by decide +kernel
theorem dX8_undo_33 : decode cX8_undo 33 = .ok (.aload_n 0, 1) := by decide +kernel
theorem dX8_undo_34 : decode cX8_undo 34 = .ok (.getfield 19, 3) := by decide +kernel
theorem dX8_undo_37 : decode cX8_undo 37 = .ok (.iload_n 1, 1) := by decide +kernel
theorem dX8_undo_38 : decode cX8_undo 38 = .ok (.aload_n 0, 1) := by decide +kernel
theorem dX8_undo_39 : decode cX8_undo 39 = .ok (.getfield 25, 3) := by decide +kernel
theorem dX8_undo_42 : decode cX8_undo 42 = .ok (.bipush 37, 2) := by decide +kernel
theorem dX8_undo_44 : decode cX8_undo 44 = .ok (.aload_n 0, 1) := by decide +kernel
theorem dX8_undo_45 : decode cX8_undo 45 = .ok (.getfield 189, 3) := by decide +kernel
theorem dX8_undo_48 : decode cX8_undo 48 = .ok (.imul, 1) := by decide +kernel
theorem dX8_undo_49 : decode cX8_undo 49 = .ok (.iload_n 1, 1) := by decide +kernel
theorem dX8_undo_50 : decode cX8_undo 50 = .ok (.iadd, 1) := by decide +kernel
theorem dX8_undo_51 : decode cX8_undo 51 = .ok (.iaload, 1) := by decide +kernel
theorem dX8_undo_52 : decode cX8_undo 52 = .ok (.iastore, 1) := by decide +kernel
theorem dX8_undo_53 : decode cX8_undo 53 = .ok (.iinc 1 1, 3) := by decide +kernel
theorem dX8_undo_56 : decode cX8_undo 56 = .ok (.goto (-29), 3) := by decide +kernel
theorem dX8_undo_59 : decode cX8_undo 59 = .ok (.aload_n 0, 1) := by decide +kernel
theorem dX8_undo_60 : decode cX8_undo 60 = .ok (.getfield 189, 3) := by decide +kernel
theorem dX8_undo_63 : decode cX8_undo 63 = .ok (.ireturn, 1) := by decide +kernel
theorem dX8_crowd_0 : decode cX8_crowd 0 = .ok (.aload_n 0, 1) := by decide +kernel
theorem dX8_crowd_1 : decode cX8_crowd 1 = .ok (.iconst 0, 1) := by decide +kernel
theorem dX8_crowd_2 : decode cX8_crowd 2 = .ok (.putfield 59, 3) := by decide +kernel
theorem dX8_crowd_5 : decode cX8_crowd 5 = .ok (.aload_n 0, 1) := by decide +kernel
theorem dX8_crowd_6 : decode cX8_crowd 6 = .ok (.iload_n 1, 1) := by decide +kernel
theorem dX8_crowd_7 : decode cX8_crowd 7 = .ok (.invokevirtual 242, 3) := by decide +kernel
theorem dX8_crowd_10 : decode cX8_crowd 10 = .ok (.ifCond .eq 24, 3) := by decide +kernel
theorem dX8_crowd_13 : decode cX8_crowd 13 = .ok (.iload_n 2, 1) := by decide +kernel
theorem dX8_crowd_14 : decode cX8_crowd 14 = .ok (.i2l, 1) := by decide +kernel
theorem dX8_crowd_15 : decode cX8_crowd 15 = .ok (.lconst 0, 1) := by decide +kernel
theorem dX8_crowd_16 : decode cX8_crowd 16 = .ok (.lconst 1, 1) := by decide +kernel
theorem dX8_crowd_17 : decode cX8_crowd 17 = .ok (.invokestatic 69, 3) := by decide +kernel
theorem dX8_crowd_20 : decode cX8_crowd 20 = .ok (.ifCond .eq 14, 3) := by decide +kernel
theorem dX8_crowd_23 : decode cX8_crowd 23 = .ok (.aload_n 0, 1) := by decide +kernel
theorem dX8_crowd_24 : decode cX8_crowd 24 = .ok (.iload_n 1, 1) := by decide +kernel
theorem dX8_crowd_25 : decode cX8_crowd 25 = .ok (.iconst 1, 1) := by decide +kernel
theorem dX8_crowd_26 : decode cX8_crowd 26 = .ok (.iload_n 2, 1) := by decide +kernel
theorem dX8_crowd_27 : decode cX8_crowd 27 = .ok (.iadd, 1) := by decide +kernel
theorem dX8_crowd_28 : decode cX8_crowd 28 = .ok (.invokevirtual 201, 3) := by decide +kernel
theorem dX8_crowd_31 : decode cX8_crowd 31 = .ok (.goto 5, 3) := by decide +kernel
theorem dX8_crowd_34 : decode cX8_crowd 34 = .ok (.ldc 79, 2) := by decide +kernel
theorem dX8_crowd_36 : decode cX8_crowd 36 = .ok (.ireturn, 1) := by decide +kernel
theorem dX8_room_0 : decode cX8_room 0 = .ok (.aload_n 0, 1) := by decide +kernel
theorem dX8_room_1 : decode cX8_room 1 = .ok (.iconst 0, 1) := by decide +kernel
theorem dX8_room_2 : decode cX8_room 2 = .ok (.putfield 59, 3) := by decide +kernel
theorem dX8_room_5 : decode cX8_room 5 = .ok (.aload_n 0, 1) := by decide +kernel
theorem dX8_room_6 : decode cX8_room 6 = .ok (.iload_n 1, 1) := by decide +kernel
theorem dX8_room_7 : decode cX8_room 7 = .ok (.invokevirtual 239, 3) := by decide +kernel
theorem dX8_room_10 : decode cX8_room 10 = .ok (.ifCond .eq 15, 3) := by decide +kernel
theorem dX8_room_13 : decode cX8_room 13 = .ok (.iload_n 2, 1) := by decide +kernel
theorem dX8_room_14 : decode cX8_room 14 = .ok (.i2l, 1) := by decide +kernel
theorem dX8_room_15 : decode cX8_room 15 = .ok (.lconst 0, 1) := by decide +kernel
theorem dX8_room_16 : decode cX8_room 16 = .ok (.ldc2_w 77, 3) := by decide +kernel
theorem dX8_room_19 : decode cX8_room 19 = .ok (.invokestatic 69, 3) := by decide +kernel
theorem dX8_room_22 : decode cX8_room 22 = .ok (.ifCond .ne 6, 3) := by decide +kernel
theorem dX8_room_25 : decode cX8_room 25 = .ok (.ldc 79, 2) := by decide +kernel
theorem dX8_room_27 : decode cX8_room 27 = .ok (.ireturn, 1) := by decide +kernel
theorem dX8_room_28 : decode cX8_room 28 = .ok (.aload_n 0, 1) := by decide +kernel
theorem dX8_room_29 : decode cX8_room 29 = .ok (.invokevirtual 219, 3) := by decide +kernel
theorem dX8_room_32 : decode cX8_room 32 = .ok (.aload_n 0, 1) := by decide +kernel
theorem dX8_room_33 : decode cX8_room 33 = .ok (.invokevirtual 207, 3) := by decide +kernel
theorem dX8_room_36 : decode cX8_room 36 = .ok (.iload_n 2, 1) := by decide +kernel
theorem dX8_room_37 : decode cX8_room 37 = .ok (.ifCond .ne 14, 3) := by decide +kernel
theorem dX8_room_40 : decode cX8_room 40 = .ok (.aload_n 0, 1) := by decide +kernel
theorem dX8_room_41 : decode cX8_room 41 = .ok (.getfield 19, 3) := by decide +kernel
theorem dX8_room_44 : decode cX8_room 44 = .ok (.iconst 4, 1) := by decide +kernel
theorem dX8_room_45 : decode cX8_room 45 = .ok (.iload_n 1, 1) := by decide +kernel
theorem dX8_room_46 : decode cX8_room 46 = .ok (.iadd, 1) := by decide +kernel
theorem dX8_room_47 : decode cX8_room 47 = .ok (.iaload, 1) := by decide +kernel
theorem dX8_room_48 : decode cX8_room 48 = .ok (.goto 26, 3) := by decide +kernel
theorem dX8_room_51 : decode cX8_room 51 = .ok (.iload_n 2, 1) := by decide +kernel
theorem dX8_room_52 : decode cX8_room 52 = .ok (.iconst 1, 1) := by decide +kernel
theorem dX8_room_53 : decode cX8_room 53 = .ok (.if_icmp .ne 12, 3) := by decide +kernel
theorem dX8_room_56 : decode cX8_room 56 = .ok (.aload_n 0, 1) := by decide +kernel
theorem dX8_room_57 : decode cX8_room 57 = .ok (.getfield 40, 3) := by decide +kernel
theorem dX8_room_60 : decode cX8_room 60 = .ok (.iload_n 1, 1) := by decide +kernel
theorem dX8_room_61 : decode cX8_room 61 = .ok (.iaload, 1) := by decide +kernel
theorem dX8_room_62 : decode cX8_room 62 = .ok (.goto 12, 3) := by decide +kernel
theorem dX8_room_65 : decode cX8_room 65 = .ok (.aload_n 0, 1) := by decide +kernel
theorem dX8_room_66 : decode cX8_room 66 = .ok (.getfield 19, 3) := by decide +kernel
theorem dX8_room_69 : decode cX8_room 69 = .ok (.bipush 10, 2) := by decide +kernel
theorem dX8_room_71 : decode cX8_room 71 = .ok (.iload_n 1, 1) := by decide +kernel
theorem dX8_room_72 : decode cX8_room 72 = .ok (.iadd, 1) := by decide +kernel
theorem dX8_room_73 : decode cX8_room 73 = .ok (.iaload, 1) := by decide +kernel
theorem dX8_room_74 : decode cX8_room 74 = .ok (.ireturn, 1) := by decide +kernel
theorem dX8_ahead_0 : decode cX8_ahead 0 = .ok (.aload_n 0, 1) := by decide +kernel
theorem dX8_ahead_1 : decode cX8_ahead 1 = .ok (.iconst 0, 1) := by decide +kernel
theorem dX8_ahead_2 : decode cX8_ahead 2 = .ok (.putfield 59, 3) := by decide +kernel
theorem dX8_ahead_5 : decode cX8_ahead 5 = .ok (.aload_n 0, 1) := by decide +kernel
theorem dX8_ahead_6 : decode cX8_ahead 6 = .ok (.iload_n 1, 1) := by decide +kernel
theorem dX8_ahead_7 : decode cX8_ahead 7 = .ok (.invokevirtual 242, 3) := by decide +kernel
theorem dX8_ahead_10 : decode cX8_ahead 10 = .ok (.ifCond .eq 15, 3) := by decide +kernel
theorem dX8_ahead_13 : decode cX8_ahead 13 = .ok (.iload_n 2, 1) := by decide +kernel
theorem dX8_ahead_14 : decode cX8_ahead 14 = .ok (.i2l, 1) := by decide +kernel
theorem dX8_ahead_15 : decode cX8_ahead 15 = .ok (.lconst 0, 1) := by decide +kernel
theorem dX8_ahead_16 : decode cX8_ahead 16 = .ok (.ldc2_w 247, 3) := by decide +kernel
theorem dX8_ahead_19 : decode cX8_ahead 19 = .ok (.invokestatic 69, 3) := by decide +kernel
theorem dX8_ahead_22 : decode cX8_ahead 22 = .ok (.ifCond .ne 6, 3) := by decide +kernel
theorem dX8_ahead_25 : decode cX8_ahead 25 = .ok (.ldc 79, 2) := by decide +kernel
theorem dX8_ahead_27 : decode cX8_ahead 27 = .ok (.ireturn, 1) := by decide +kernel
theorem dX8_ahead_28 : decode cX8_ahead 28 = .ok (.aload_n 0, 1) := by decide +kernel
theorem dX8_ahead_29 : decode cX8_ahead 29 = .ok (.invokevirtual 219, 3) := by decide +kernel
theorem dX8_ahead_32 : decode cX8_ahead 32 = .ok (.aload_n 0, 1) := by decide +kernel
theorem dX8_ahead_33 : decode cX8_ahead 33 = .ok (.iload_n 2, 1) := by decide +kernel
theorem dX8_ahead_34 : decode cX8_ahead 34 = .ok (.invokevirtual 249, 3) := by decide +kernel
theorem dX8_ahead_37 : decode cX8_ahead 37 = .ok (.aload_n 0, 1) := by decide +kernel
theorem dX8_ahead_38 : decode cX8_ahead 38 = .ok (.getfield 31, 3) := by decide +kernel
theorem dX8_ahead_41 : decode cX8_ahead 41 = .ok (.iload_n 1, 1) := by decide +kernel
theorem dX8_ahead_42 : decode cX8_ahead 42 = .ok (.iaload, 1) := by decide +kernel
theorem dX8_ahead_43 : decode cX8_ahead 43 = .ok (.ireturn, 1) := by decide +kernel
theorem dX8_roomAhead_0 : decode cX8_roomAhead 0 = .ok (.aload_n 0, 1) := by decide +kernel
theorem dX8_roomAhead_1 : decode cX8_roomAhead 1 = .ok (.iconst 0, 1) := by decide +kernel
theorem dX8_roomAhead_2 : decode cX8_roomAhead 2 = .ok (.putfield 59, 3) := by decide +kernel
theorem dX8_roomAhead_5 : decode cX8_roomAhead 5 = .ok (.aload_n 0, 1) := by decide +kernel
theorem dX8_roomAhead_6 : decode cX8_roomAhead 6 = .ok (.iload_n 1, 1) := by decide +kernel
theorem dX8_roomAhead_7 : decode cX8_roomAhead 7 = .ok (.invokevirtual 239, 3) := by decide +kernel
theorem dX8_roomAhead_10 : decode cX8_roomAhead 10 = .ok (.ifCond .eq 25, 3) := by decide +kernel
theorem dX8_roomAhead_13 : decode cX8_roomAhead 13 = .ok (.iload_n 2, 1) := by decide +kernel
theorem dX8_roomAhead_14 : decode cX8_roomAhead 14 = .ok (.i2l, 1) := by decide +kernel
theorem dX8_roomAhead_15 : decode cX8_roomAhead 15 = .ok (.lconst 0, 1) := by decide +kernel
theorem dX8_roomAhead_16 : decode cX8_roomAhead 16 = .ok (.ldc2_w 247, 3) := by decide +kernel
theorem dX8_roomAhead_19 : decode cX8_roomAhead 19 = .ok (.invokestatic 69, 3) := by decide +kernel
theorem dX8_roomAhead_22 : decode cX8_roomAhead 22 = .ok (.ifCond .eq 13, 3) := by decide +kernel
theorem dX8_roomAhead_25 : decode cX8_roomAhead 25 = .ok (.iload_n 3, 1) := by decide +kernel
theorem dX8_roomAhead_26 : decode cX8_roomAhead 26 = .ok (.i2l, 1) := by decide +kernel
theorem dX8_roomAhead_27 : decode cX8_roomAhead 27 = .ok (.lconst 0, 1) := by decide +kernel
theorem dX8_roomAhead_28 : decode cX8_roomAhead 28 = .ok (.lconst 1, 1) := by decide +kernel
theorem dX8_roomAhead_29 : decode cX8_roomAhead 29 = .ok (.invokestatic 69, 3) := by decide +kernel
theorem dX8_roomAhead_32 : decode cX8_roomAhead 32 = .ok (.ifCond .ne 6, 3) := by decide +kernel
theorem dX8_roomAhead_35 : decode cX8_roomAhead 35 = .ok (.ldc 79, 2) := by decide +kernel
theorem dX8_roomAhead_37 : decode cX8_roomAhead 37 = .ok (.ireturn, 1) := by decide +kernel
theorem dX8_roomAhead_38 : decode cX8_roomAhead 38 = .ok (.aload_n 0, 1) := by decide +kernel
theorem dX8_roomAhead_39 : decode cX8_roomAhead 39 = .ok (.invokevirtual 219, 3) := by decide +kernel
theorem dX8_roomAhead_42 : decode cX8_roomAhead 42 = .ok (.iconst 0, 1) := by decide +kernel
theorem dX8_roomAhead_43 : decode cX8_roomAhead 43 = .ok (.istore 4, 2) := by decide +kernel
theorem dX8_roomAhead_45 : decode cX8_roomAhead 45 = .ok (.iconst 0, 1) := by decide +kernel
theorem dX8_roomAhead_46 : decode cX8_roomAhead 46 = .ok (.istore 5, 2) := by decide +kernel
theorem dX8_roomAhead_48 : decode cX8_roomAhead 48 = .ok (.iload 5, 2) := by decide +kernel
theorem dX8_roomAhead_50 : decode cX8_roomAhead 50 = .ok (.iload_n 2, 1) := by decide +kernel
theorem dX8_roomAhead_51 : decode cX8_roomAhead 51 = .ok (.if_icmp .ge 58, 3) := by decide +kernel
theorem dX8_roomAhead_54 : decode cX8_roomAhead 54 = .ok (.aload_n 0, 1) := by decide +kernel
theorem dX8_roomAhead_55 : decode cX8_roomAhead 55 = .ok (.invokevirtual 213, 3) := by decide +kernel
theorem dX8_roomAhead_58 : decode cX8_roomAhead 58 = .ok (.istore 6, 2) := by decide +kernel
theorem dX8_roomAhead_60 : decode cX8_roomAhead 60 = .ok (.aload_n 0, 1) := by decide +kernel
theorem dX8_roomAhead_61 : decode cX8_roomAhead 61 = .ok (.invokevirtual 207, 3) := by decide +kernel
theorem dX8_roomAhead_64 : decode cX8_roomAhead 64 = .ok (.iload 4, 2) := by decide +kernel
theorem dX8_roomAhead_66 : decode cX8_roomAhead 66 = .ok (.aload_n 0, 1) := by decide +kernel
theorem dX8_roomAhead_67 : decode cX8_roomAhead 67 = .ok (.getfield 40, 3) := by decide +kernel
theorem dX8_roomAhead_70 : decode cX8_roomAhead 70 = .ok (.iload_n 1, 1) := by decide +kernel
theorem dX8_roomAhead_71 : decode cX8_roomAhead 71 = .ok (.iaload, 1) := by decide +kernel
theorem dX8_roomAhead_72 : decode cX8_roomAhead 72 = .ok (.aload_n 0, 1) := by decide +kernel
theorem dX8_roomAhead_73 : decode cX8_roomAhead 73 = .ok (.getfield 19, 3) := by decide +kernel
theorem dX8_roomAhead_76 : decode cX8_roomAhead 76 = .ok (.iconst 4, 1) := by decide +kernel
theorem dX8_roomAhead_77 : decode cX8_roomAhead 77 = .ok (.iload_n 1, 1) := by decide +kernel
theorem dX8_roomAhead_78 : decode cX8_roomAhead 78 = .ok (.iadd, 1) := by decide +kernel
theorem dX8_roomAhead_79 : decode cX8_roomAhead 79 = .ok (.iaload, 1) := by decide +kernel
theorem dX8_roomAhead_80 : decode cX8_roomAhead 80 = .ok (.if_icmp .ge 12, 3) := by decide +kernel
theorem dX8_roomAhead_83 : decode cX8_roomAhead 83 = .ok (.aload_n 0, 1) := by decide +kernel
theorem dX8_roomAhead_84 : decode cX8_roomAhead 84 = .ok (.getfield 40, 3) := by decide +kernel
theorem dX8_roomAhead_87 : decode cX8_roomAhead 87 = .ok (.iload_n 1, 1) := by decide +kernel
theorem dX8_roomAhead_88 : decode cX8_roomAhead 88 = .ok (.iaload, 1) := by decide +kernel
theorem dX8_roomAhead_89 : decode cX8_roomAhead 89 = .ok (.goto 11, 3) := by decide +kernel
theorem dX8_roomAhead_92 : decode cX8_roomAhead 92 = .ok (.aload_n 0, 1) := by decide +kernel
theorem dX8_roomAhead_93 : decode cX8_roomAhead 93 = .ok (.getfield 19, 3) := by decide +kernel
theorem dX8_roomAhead_96 : decode cX8_roomAhead 96 = .ok (.iconst 4, 1) := by decide +kernel
theorem dX8_roomAhead_97 : decode cX8_roomAhead 97 = .ok (.iload_n 1, 1) := by decide +kernel
theorem dX8_roomAhead_98 : decode cX8_roomAhead 98 = .ok (.iadd, 1) := by decide +kernel
theorem dX8_roomAhead_99 : decode cX8_roomAhead 99 = .ok (.iaload, 1) := by decide +kernel
theorem dX8_roomAhead_100 : decode cX8_roomAhead 100 = .ok (.iadd, 1) := by decide +kernel
theorem dX8_roomAhead_101 : decode cX8_roomAhead 101 = .ok (.istore 4, 2) := by decide +kernel
theorem dX8_roomAhead_103 : decode cX8_roomAhead 103 = .ok (.iinc 5 1, 3) := by decide +kernel
theorem dX8_roomAhead_106 : decode cX8_roomAhead 106 = .ok (.goto (-58), 3) := by decide +kernel
theorem dX8_roomAhead_109 : decode cX8_roomAhead 109 = .ok (.aload_n 0, 1) := by decide +kernel
theorem dX8_roomAhead_110 : decode cX8_roomAhead 110 = .ok (.invokevirtual 207, 3) := by decide +kernel
theorem dX8_roomAhead_113 : decode cX8_roomAhead 113 = .ok (.iload_n 3, 1) := by decide +kernel
theorem dX8_roomAhead_114 : decode cX8_roomAhead 114 = .ok (.ifCond .ne 12, 3) := by decide +kernel
theorem dX8_roomAhead_117 : decode cX8_roomAhead 117 = .ok (.aload_n 0, 1) := by decide +kernel
theorem dX8_roomAhead_118 : decode cX8_roomAhead 118 = .ok (.getfield 40, 3) := by decide +kernel
theorem dX8_roomAhead_121 : decode cX8_roomAhead 121 = .ok (.iload_n 1, 1) := by decide +kernel
theorem dX8_roomAhead_122 : decode cX8_roomAhead 122 = .ok (.iaload, 1) := by decide +kernel
theorem dX8_roomAhead_123 : decode cX8_roomAhead 123 = .ok (.goto 5, 3) := by decide +kernel
theorem dX8_roomAhead_126 : decode cX8_roomAhead 126 = .ok (.iload 4, 2) := by decide +kernel
theorem dX8_roomAhead_128 : decode cX8_roomAhead 128 = .ok (.ireturn, 1) := by decide +kernel
theorem dX8_restIn_0 : decode cX8_restIn 0 = .ok (.iconst 0, 1) := by decide +kernel
theorem dX8_restIn_1 : decode cX8_restIn 1 = .ok (.istore_n 1, 1) := by decide +kernel
theorem dX8_restIn_2 : decode cX8_restIn 2 = .ok (.iconst 0, 1) := by decide +kernel
theorem dX8_restIn_3 : decode cX8_restIn 3 = .ok (.istore_n 2, 1) := by decide +kernel
theorem dX8_restIn_4 : decode cX8_restIn 4 = .ok (.iload_n 2, 1) := by decide +kernel
theorem dX8_restIn_5 : decode cX8_restIn 5 = .ok (.bipush 61, 2) := by decide +kernel
theorem dX8_restIn_7 : decode cX8_restIn 7 = .ok (.if_icmp .gt 33, 3) := by decide +kernel
theorem dX8_restIn_10 : decode cX8_restIn 10 = .ok (.aload_n 0, 1) := by decide +kernel
theorem dX8_restIn_11 : decode cX8_restIn 11 = .ok (.invokevirtual 213, 3) := by decide +kernel
theorem dX8_restIn_14 : decode cX8_restIn 14 = .ok (.ifCond .ne 9, 3) := by decide +kernel
theorem dX8_restIn_17 : decode cX8_restIn 17 = .ok (.iload_n 1, 1) := by decide +kernel
theorem dX8_restIn_18 : decode cX8_restIn 18 = .ok (.iconst 1, 1) := by decide +kernel
theorem dX8_restIn_19 : decode cX8_restIn 19 = .ok (.iadd, 1) := by decide +kernel
theorem dX8_restIn_20 : decode cX8_restIn 20 = .ok (.goto 4, 3) := by decide +kernel
theorem dX8_restIn_23 : decode cX8_restIn 23 = .ok (.iconst 0, 1) := by decide +kernel
theorem dX8_restIn_24 : decode cX8_restIn 24 = .ok (.istore_n 1, 1) := by decide +kernel
end
section
/-! decode rows: X8 -/
theorem dX8_restIn_25 : decode cX8_restIn 25 = .ok (.iload_n 1, 1) := by decide +kernel
theorem dX8_restIn_26 : decode cX8_restIn 26 = .ok (.iconst 2, 1) := by decide +kernel
theorem dX8_restIn_27 : decode cX8_restIn 27 = .ok (.if_icmp .ne 7, 3) := by decide +kernel
theorem dX8_restIn_30 : decode cX8_restIn 30 = .ok (.iload_n 2, 1) := by decide +kernel
theorem dX8_restIn_31 : decode cX8_restIn 31 = .ok (.iconst 1, 1) := by decide +kernel
theorem dX8_restIn_32 : decode cX8_restIn 32 = .ok (.isub, 1) := by decide +kernel
theorem dX8_restIn_33 : decode cX8_restIn 33 = .ok (.ireturn, 1) := by decide +kernel
theorem dX8_restIn_34 : decode cX8_restIn 34 = .ok (.iinc 2 1, 3) := by decide +kernel
theorem dX8_restIn_37 : decode cX8_restIn 37 = .ok (.goto (-33), 3) := by decide +kernel
theorem dX8_restIn_40 : decode cX8_restIn 40 = .ok (.ldc 95, 2) := by decide +kernel
theorem dX8_restIn_42 : decode cX8_restIn 42 = .ok (.ireturn, 1) := by decide +kernel
theorem dX8_ringIn_0 : decode cX8_ringIn 0 = .ok (.iconst 1, 1) := by decide +kernel
theorem dX8_ringIn_1 : decode cX8_ringIn 1 = .ok (.istore_n 1, 1) := by decide +kernel
theorem dX8_ringIn_2 : decode cX8_ringIn 2 = .ok (.iload_n 1, 1) := by decide +kernel
theorem dX8_ringIn_3 : decode cX8_ringIn 3 = .ok (.bipush 60, 2) := by decide +kernel
theorem dX8_ringIn_5 : decode cX8_ringIn 5 = .ok (.if_icmp .gt 69, 3) := by decide +kernel
theorem dX8_ringIn_8 : decode cX8_ringIn 8 = .ok (.aload_n 0, 1) := by decide +kernel
theorem dX8_ringIn_9 : decode cX8_ringIn 9 = .ok (.invokevirtual 213, 3) := by decide +kernel
theorem dX8_ringIn_12 : decode cX8_ringIn 12 = .ok (.istore_n 2, 1) := by decide +kernel
theorem dX8_ringIn_13 : decode cX8_ringIn 13 = .ok (.iconst 1, 1) := by decide +kernel
theorem dX8_ringIn_14 : decode cX8_ringIn 14 = .ok (.istore_n 3, 1) := by decide +kernel
theorem dX8_ringIn_15 : decode cX8_ringIn 15 = .ok (.iconst 0, 1) := by decide +kernel
theorem dX8_ringIn_16 : decode cX8_ringIn 16 = .ok (.istore 4, 2) := by decide +kernel
theorem dX8_ringIn_18 : decode cX8_ringIn 18 = .ok (.iload 4, 2) := by decide +kernel
theorem dX8_ringIn_20 : decode cX8_ringIn 20 = .ok (.aload_n 0, 1) := by decide +kernel
theorem dX8_ringIn_21 : decode cX8_ringIn 21 = .ok (.getfield 19, 3) := by decide +kernel
theorem dX8_ringIn_24 : decode cX8_ringIn 24 = .ok (.iconst 2, 1) := by decide +kernel
theorem dX8_ringIn_25 : decode cX8_ringIn 25 = .ok (.iaload, 1) := by decide +kernel
theorem dX8_ringIn_26 : decode cX8_ringIn 26 = .ok (.if_icmp .ge 36, 3) := by decide +kernel
theorem dX8_ringIn_29 : decode cX8_ringIn 29 = .ok (.iload_n 3, 1) := by decide +kernel
theorem dX8_ringIn_30 : decode cX8_ringIn 30 = .ok (.ifCond .eq 24, 3) := by decide +kernel
theorem dX8_ringIn_33 : decode cX8_ringIn 33 = .ok (.aload_n 0, 1) := by decide +kernel
theorem dX8_ringIn_34 : decode cX8_ringIn 34 = .ok (.getfield 31, 3) := by decide +kernel
theorem dX8_ringIn_37 : decode cX8_ringIn 37 = .ok (.iload 4, 2) := by decide +kernel
theorem dX8_ringIn_39 : decode cX8_ringIn 39 = .ok (.iaload, 1) := by decide +kernel
theorem dX8_ringIn_40 : decode cX8_ringIn 40 = .ok (.aload_n 0, 1) := by decide +kernel
theorem dX8_ringIn_41 : decode cX8_ringIn 41 = .ok (.iload 4, 2) := by decide +kernel
theorem dX8_ringIn_43 : decode cX8_ringIn 43 = .ok (.iconst 1, 1) := by decide +kernel
theorem dX8_ringIn_44 : decode cX8_ringIn 44 = .ok (.invokevirtual 201, 3) := by decide +kernel
theorem dX8_ringIn_47 : decode cX8_ringIn 47 = .ok (.if_icmp .ne 7, 3) := by decide +kernel
theorem dX8_ringIn_50 : decode cX8_ringIn 50 = .ok (.iconst 1, 1) := by decide +kernel
theorem dX8_ringIn_51 : decode cX8_ringIn 51 = .ok (.goto 4, 3) := by decide +kernel
theorem dX8_ringIn_54 : decode cX8_ringIn 54 = .ok (.iconst 0, 1) := by decide +kernel
theorem dX8_ringIn_55 : decode cX8_ringIn 55 = .ok (.istore_n 3, 1) := by decide +kernel
theorem dX8_ringIn_56 : decode cX8_ringIn 56 = .ok (.iinc 4 1, 3) := by decide +kernel
theorem dX8_ringIn_59 : decode cX8_ringIn 59 = .ok (.goto (-41), 3) := by decide +kernel
theorem dX8_ringIn_62 : decode cX8_ringIn 62 = .ok (.iload_n 3, 1) := by decide +kernel
theorem dX8_ringIn_63 : decode cX8_ringIn 63 = .ok (.ifCond .eq 5, 3) := by decide +kernel
theorem dX8_ringIn_66 : decode cX8_ringIn 66 = .ok (.iload_n 1, 1) := by decide +kernel
theorem dX8_ringIn_67 : decode cX8_ringIn 67 = .ok (.ireturn, 1) := by decide +kernel
theorem dX8_ringIn_68 : decode cX8_ringIn 68 = .ok (.iinc 1 1, 3) := by decide +kernel
theorem dX8_ringIn_71 : decode cX8_ringIn 71 = .ok (.goto (-69), 3) := by decide +kernel
theorem dX8_ringIn_74 : decode cX8_ringIn 74 = .ok (.ldc 95, 2) := by decide +kernel
theorem dX8_ringIn_76 : decode cX8_ringIn 76 = .ok (.ireturn, 1) := by decide +kernel
theorem dX8_rest_0 : decode cX8_rest 0 = .ok (.aload_n 0, 1) := by decide +kernel
theorem dX8_rest_1 : decode cX8_rest 1 = .ok (.iconst 0, 1) := by decide +kernel
theorem dX8_rest_2 : decode cX8_rest 2 = .ok (.putfield 59, 3) := by decide +kernel
theorem dX8_rest_5 : decode cX8_rest 5 = .ok (.aload_n 0, 1) := by decide +kernel
theorem dX8_rest_6 : decode cX8_rest 6 = .ok (.invokevirtual 222, 3) := by decide +kernel
theorem dX8_rest_9 : decode cX8_rest 9 = .ok (.ifCond .ne 6, 3) := by decide +kernel
theorem dX8_rest_12 : decode cX8_rest 12 = .ok (.ldc 226, 2) := by decide +kernel
theorem dX8_rest_14 : decode cX8_rest 14 = .ok (.ireturn, 1) := by decide +kernel
theorem dX8_rest_15 : decode cX8_rest 15 = .ok (.iload_n 1, 1) := by decide +kernel
theorem dX8_rest_16 : decode cX8_rest 16 = .ok (.i2l, 1) := by decide +kernel
theorem dX8_rest_17 : decode cX8_rest 17 = .ok (.lconst 0, 1) := by decide +kernel
theorem dX8_rest_18 : decode cX8_rest 18 = .ok (.lconst 1, 1) := by decide +kernel
theorem dX8_rest_19 : decode cX8_rest 19 = .ok (.invokestatic 69, 3) := by decide +kernel
theorem dX8_rest_22 : decode cX8_rest 22 = .ok (.ifCond .ne 6, 3) := by decide +kernel
theorem dX8_rest_25 : decode cX8_rest 25 = .ok (.ldc 79, 2) := by decide +kernel
theorem dX8_rest_27 : decode cX8_rest 27 = .ok (.ireturn, 1) := by decide +kernel
theorem dX8_rest_28 : decode cX8_rest 28 = .ok (.aload_n 0, 1) := by decide +kernel
theorem dX8_rest_29 : decode cX8_rest 29 = .ok (.invokevirtual 219, 3) := by decide +kernel
theorem dX8_rest_32 : decode cX8_rest 32 = .ok (.iload_n 1, 1) := by decide +kernel
theorem dX8_rest_33 : decode cX8_rest 33 = .ok (.ifCond .ne 10, 3) := by decide +kernel
theorem dX8_rest_36 : decode cX8_rest 36 = .ok (.aload_n 0, 1) := by decide +kernel
theorem dX8_rest_37 : decode cX8_rest 37 = .ok (.invokevirtual 252, 3) := by decide +kernel
theorem dX8_rest_40 : decode cX8_rest 40 = .ok (.goto 7, 3) := by decide +kernel
theorem dX8_rest_43 : decode cX8_rest 43 = .ok (.aload_n 0, 1) := by decide +kernel
theorem dX8_rest_44 : decode cX8_rest 44 = .ok (.invokevirtual 255, 3) := by decide +kernel
theorem dX8_rest_47 : decode cX8_rest 47 = .ok (.ireturn, 1) := by decide +kernel
theorem dX8_layHired_0 : decode cX8_layHired 0 = .ok (.aload_n 0, 1) := by decide +kernel
theorem dX8_layHired_1 : decode cX8_layHired 1 = .ok (.invokevirtual 219, 3) := by decide +kernel
theorem dX8_layHired_4 : decode cX8_layHired 4 = .ok (.aload_n 0, 1) := by decide +kernel
theorem dX8_layHired_5 : decode cX8_layHired 5 = .ok (.iload_n 1, 1) := by decide +kernel
theorem dX8_layHired_6 : decode cX8_layHired 6 = .ok (.putfield 198, 3) := by decide +kernel
theorem dX8_layHired_9 : decode cX8_layHired 9 = .ok (.aload_n 0, 1) := by decide +kernel
theorem dX8_layHired_10 : decode cX8_layHired 10 = .ok (.iload_n 2, 1) := by decide +kernel
theorem dX8_layHired_11 : decode cX8_layHired 11 = .ok (.putfield 195, 3) := by decide +kernel
theorem dX8_layHired_14 : decode cX8_layHired 14 = .ok (.aload_n 0, 1) := by decide +kernel
theorem dX8_layHired_15 : decode cX8_layHired 15 = .ok (.getfield 46, 3) := by decide +kernel
theorem dX8_layHired_18 : decode cX8_layHired 18 = .ok (.iload_n 1, 1) := by decide +kernel
theorem dX8_layHired_19 : decode cX8_layHired 19 = .ok (.dup2, 1) := by decide +kernel
theorem dX8_layHired_20 : decode cX8_layHired 20 = .ok (.iaload, 1) := by decide +kernel
theorem dX8_layHired_21 : decode cX8_layHired 21 = .ok (.iload_n 2, 1) := by decide +kernel
theorem dX8_layHired_22 : decode cX8_layHired 22 = .ok (.iadd, 1) := by decide +kernel
theorem dX8_layHired_23 : decode cX8_layHired 23 = .ok (.iastore, 1) := by decide +kernel
theorem dX8_layHired_24 : decode cX8_layHired 24 = .ok (.return_, 1) := by decide +kernel
theorem dX8_isSo_0 : decode cX8_isSo 0 = .ok (.iconst 1, 1) := by decide +kernel
theorem dX8_isSo_1 : decode cX8_isSo 1 = .ok (.istore_n 3, 1) := by decide +kernel
theorem dX8_isSo_2 : decode cX8_isSo 2 = .ok (.iconst 0, 1) := by decide +kernel
theorem dX8_isSo_3 : decode cX8_isSo 3 = .ok (.istore 4, 2) := by decide +kernel
theorem dX8_isSo_5 : decode cX8_isSo 5 = .ok (.iload 4, 2) := by decide +kernel
theorem dX8_isSo_7 : decode cX8_isSo 7 = .ok (.aload_n 0, 1) := by decide +kernel
theorem dX8_isSo_8 : decode cX8_isSo 8 = .ok (.getfield 19, 3) := by decide +kernel
theorem dX8_isSo_11 : decode cX8_isSo 11 = .ok (.iconst 2, 1) := by decide +kernel
theorem dX8_isSo_12 : decode cX8_isSo 12 = .ok (.iaload, 1) := by decide +kernel
theorem dX8_isSo_13 : decode cX8_isSo 13 = .ok (.if_icmp .ge 59, 3) := by decide +kernel
theorem dX8_isSo_16 : decode cX8_isSo 16 = .ok (.iload_n 3, 1) := by decide +kernel
theorem dX8_isSo_17 : decode cX8_isSo 17 = .ok (.ifCond .eq 47, 3) := by decide +kernel
theorem dX8_isSo_20 : decode cX8_isSo 20 = .ok (.iload_n 2, 1) := by decide +kernel
theorem dX8_isSo_21 : decode cX8_isSo 21 = .ok (.ifCond .eq 17, 3) := by decide +kernel
theorem dX8_isSo_24 : decode cX8_isSo 24 = .ok (.aload_n 0, 1) := by decide +kernel
theorem dX8_isSo_25 : decode cX8_isSo 25 = .ok (.getfield 31, 3) := by decide +kernel
theorem dX8_isSo_28 : decode cX8_isSo 28 = .ok (.iload 4, 2) := by decide +kernel
theorem dX8_isSo_30 : decode cX8_isSo 30 = .ok (.iaload, 1) := by decide +kernel
theorem dX8_isSo_31 : decode cX8_isSo 31 = .ok (.iload_n 1, 1) := by decide +kernel
theorem dX8_isSo_32 : decode cX8_isSo 32 = .ok (.if_icmp .eq 32, 3) := by decide +kernel
theorem dX8_isSo_35 : decode cX8_isSo 35 = .ok (.goto 25, 3) := by decide +kernel
theorem dX8_isSo_38 : decode cX8_isSo 38 = .ok (.aload_n 0, 1) := by decide +kernel
theorem dX8_isSo_39 : decode cX8_isSo 39 = .ok (.getfield 31, 3) := by decide +kernel
theorem dX8_isSo_42 : decode cX8_isSo 42 = .ok (.iload 4, 2) := by decide +kernel
theorem dX8_isSo_44 : decode cX8_isSo 44 = .ok (.iaload, 1) := by decide +kernel
theorem dX8_isSo_45 : decode cX8_isSo 45 = .ok (.iload_n 1, 1) := by decide +kernel
theorem dX8_isSo_46 : decode cX8_isSo 46 = .ok (.if_icmp .eq 14, 3) := by decide +kernel
theorem dX8_isSo_49 : decode cX8_isSo 49 = .ok (.aload_n 0, 1) := by decide +kernel
theorem dX8_isSo_50 : decode cX8_isSo 50 = .ok (.iload 4, 2) := by decide +kernel
theorem dX8_isSo_52 : decode cX8_isSo 52 = .ok (.iconst 0, 1) := by decide +kernel
theorem dX8_isSo_53 : decode cX8_isSo 53 = .ok (.invokevirtual 201, 3) := by decide +kernel
theorem dX8_isSo_56 : decode cX8_isSo 56 = .ok (.iconst 4, 1) := by decide +kernel
theorem dX8_isSo_57 : decode cX8_isSo 57 = .ok (.if_icmp .ne 7, 3) := by decide +kernel
theorem dX8_isSo_60 : decode cX8_isSo 60 = .ok (.iconst 1, 1) := by decide +kernel
theorem dX8_isSo_61 : decode cX8_isSo 61 = .ok (.goto 4, 3) := by decide +kernel
theorem dX8_isSo_64 : decode cX8_isSo 64 = .ok (.iconst 0, 1) := by decide +kernel
theorem dX8_isSo_65 : decode cX8_isSo 65 = .ok (.istore_n 3, 1) := by decide +kernel
theorem dX8_isSo_66 : decode cX8_isSo 66 = .ok (.iinc 4 1, 3) := by decide +kernel
theorem dX8_isSo_69 : decode cX8_isSo 69 = .ok (.goto (-64), 3) := by decide +kernel
theorem dX8_isSo_72 : decode cX8_isSo 72 = .ok (.iload_n 3, 1) := by decide +kernel
theorem dX8_isSo_73 : decode cX8_isSo 73 = .ok (.ireturn, 1) := by decide +kernel
theorem dX8_hire_0 : decode cX8_hire 0 = .ok (.iconst 0, 1) := by decide +kernel
theorem dX8_hire_1 : decode cX8_hire 1 = .ok (.istore 5, 2) := by decide +kernel
theorem dX8_hire_3 : decode cX8_hire 3 = .ok (.iload 5, 2) := by decide +kernel
theorem dX8_hire_5 : decode cX8_hire 5 = .ok (.bipush 60, 2) := by decide +kernel
theorem dX8_hire_7 : decode cX8_hire 7 = .ok (.if_icmp .gt 90, 3) := by decide +kernel
theorem dX8_hire_10 : decode cX8_hire 10 = .ok (.iconst 0, 1) := by decide +kernel
theorem dX8_hire_11 : decode cX8_hire 11 = .ok (.istore 6, 2) := by decide +kernel
theorem dX8_hire_13 : decode cX8_hire 13 = .ok (.iload 6, 2) := by decide +kernel
theorem dX8_hire_15 : decode cX8_hire 15 = .ok (.aload_n 0, 1) := by decide +kernel
theorem dX8_hire_16 : decode cX8_hire 16 = .ok (.getfield 19, 3) := by decide +kernel
theorem dX8_hire_19 : decode cX8_hire 19 = .ok (.iconst 0, 1) := by decide +kernel
theorem dX8_hire_20 : decode cX8_hire 20 = .ok (.iaload, 1) := by decide +kernel
theorem dX8_hire_21 : decode cX8_hire 21 = .ok (.if_icmp .ge 70, 3) := by decide +kernel
theorem dX8_hire_24 : decode cX8_hire 24 = .ok (.iload 5, 2) := by decide +kernel
theorem dX8_hire_26 : decode cX8_hire 26 = .ok (.ifCond .gt 8, 3) := by decide +kernel
theorem dX8_hire_29 : decode cX8_hire 29 = .ok (.iload 6, 2) := by decide +kernel
theorem dX8_hire_31 : decode cX8_hire 31 = .ok (.ifCond .ne 60, 3) := by decide +kernel
theorem dX8_hire_34 : decode cX8_hire 34 = .ok (.iload 5, 2) := by decide +kernel
theorem dX8_hire_36 : decode cX8_hire 36 = .ok (.ifCond .eq 14, 3) := by decide +kernel
theorem dX8_hire_39 : decode cX8_hire 39 = .ok (.iload 4, 2) := by decide +kernel
theorem dX8_hire_41 : decode cX8_hire 41 = .ok (.ifCond .eq 9, 3) := by decide +kernel
theorem dX8_hire_44 : decode cX8_hire 44 = .ok (.iload 6, 2) := by decide +kernel
theorem dX8_hire_46 : decode cX8_hire 46 = .ok (.iload_n 1, 1) := by decide +kernel
theorem dX8_hire_47 : decode cX8_hire 47 = .ok (.if_icmp .eq 38, 3) := by decide +kernel
theorem dX8_hire_50 : decode cX8_hire 50 = .ok (.aload_n 0, 1) := by decide +kernel
theorem dX8_hire_51 : decode cX8_hire 51 = .ok (.iload 6, 2) := by decide +kernel
theorem dX8_hire_53 : decode cX8_hire 53 = .ok (.iload 5, 2) := by decide +kernel
theorem dX8_hire_55 : decode cX8_hire 55 = .ok (.invokevirtual 258, 3) := by decide +kernel
theorem dX8_hire_58 : decode cX8_hire 58 = .ok (.aload_n 0, 1) := by decide +kernel
theorem dX8_hire_59 : decode cX8_hire 59 = .ok (.iload_n 2, 1) := by decide +kernel
theorem dX8_hire_60 : decode cX8_hire 60 = .ok (.invokevirtual 249, 3) := by decide +kernel
theorem dX8_hire_63 : decode cX8_hire 63 = .ok (.aload_n 0, 1) := by decide +kernel
theorem dX8_hire_64 : decode cX8_hire 64 = .ok (.iload_n 1, 1) := by decide +kernel
theorem dX8_hire_65 : decode cX8_hire 65 = .ok (.iload 4, 2) := by decide +kernel
theorem dX8_hire_67 : decode cX8_hire 67 = .ok (.invokevirtual 261, 3) := by decide +kernel
theorem dX8_hire_70 : decode cX8_hire 70 = .ok (.ifCond .eq 15, 3) := by decide +kernel
theorem dX8_hire_73 : decode cX8_hire 73 = .ok (.iload_n 3, 1) := by decide +kernel
theorem dX8_hire_74 : decode cX8_hire 74 = .ok (.ifCond .ne 8, 3) := by decide +kernel
theorem dX8_hire_77 : decode cX8_hire 77 = .ok (.iload 5, 2) := by decide +kernel
theorem dX8_hire_79 : decode cX8_hire 79 = .ok (.goto 5, 3) := by decide +kernel
theorem dX8_hire_82 : decode cX8_hire 82 = .ok (.iload 6, 2) := by decide +kernel
theorem dX8_hire_84 : decode cX8_hire 84 = .ok (.ireturn, 1) := by decide +kernel
theorem dX8_hire_85 : decode cX8_hire 85 = .ok (.iinc 6 1, 3) := by decide +kernel
theorem dX8_hire_88 : decode cX8_hire 88 = .ok (.goto (-75), 3) := by decide +kernel
theorem dX8_hire_91 : decode cX8_hire 91 = .ok (.iinc 5 1, 3) := by decide +kernel
theorem dX8_hire_94 : decode cX8_hire 94 = .ok (.goto (-91), 3) := by decide +kernel
theorem dX8_hire_97 : decode cX8_hire 97 = .ok (.ldc 95, 2) := by decide +kernel
theorem dX8_hire_99 : decode cX8_hire 99 = .ok (.ireturn, 1) := by decide +kernel
theorem dX8_hired_0 : decode cX8_hired 0 = .ok (.aload_n 0, 1) := by decide +kernel
theorem dX8_hired_1 : decode cX8_hired 1 = .ok (.iconst 0, 1) := by decide +kernel
theorem dX8_hired_2 : decode cX8_hired 2 = .ok (.putfield 59, 3) := by decide +kernel
theorem dX8_hired_5 : decode cX8_hired 5 = .ok (.aload_n 0, 1) := by decide +kernel
theorem dX8_hired_6 : decode cX8_hired 6 = .ok (.iload_n 1, 1) := by decide +kernel
theorem dX8_hired_7 : decode cX8_hired 7 = .ok (.invokevirtual 239, 3) := by decide +kernel
theorem dX8_hired_10 : decode cX8_hired 10 = .ok (.ifCond .eq 36, 3) := by decide +kernel
theorem dX8_hired_13 : decode cX8_hired 13 = .ok (.iload_n 2, 1) := by decide +kernel
theorem dX8_hired_14 : decode cX8_hired 14 = .ok (.i2l, 1) := by decide +kernel
theorem dX8_hired_15 : decode cX8_hired 15 = .ok (.lconst 1, 1) := by decide +kernel
theorem dX8_hired_16 : decode cX8_hired 16 = .ok (.ldc2_w 265, 3) := by decide +kernel
theorem dX8_hired_19 : decode cX8_hired 19 = .ok (.invokestatic 69, 3) := by decide +kernel
theorem dX8_hired_22 : decode cX8_hired 22 = .ok (.ifCond .eq 24, 3) := by decide +kernel
theorem dX8_hired_25 : decode cX8_hired 25 = .ok (.iload_n 3, 1) := by decide +kernel
theorem dX8_hired_26 : decode cX8_hired 26 = .ok (.i2l, 1) := by decide +kernel
theorem dX8_hired_27 : decode cX8_hired 27 = .ok (.lconst 0, 1) := by decide +kernel
theorem dX8_hired_28 : decode cX8_hired 28 = .ok (.lconst 1, 1) := by decide +kernel
theorem dX8_hired_29 : decode cX8_hired 29 = .ok (.invokestatic 69, 3) := by decide +kernel
theorem dX8_hired_32 : decode cX8_hired 32 = .ok (.ifCond .eq 14, 3) := by decide +kernel
theorem dX8_hired_35 : decode cX8_hired 35 = .ok (.aload_n 0, 1) := by decide +kernel
theorem dX8_hired_36 : decode cX8_hired 36 = .ok (.iload_n 1, 1) := by decide +kernel
theorem dX8_hired_37 : decode cX8_hired 37 = .ok (.iload_n 2, 1) := by decide +kernel
theorem dX8_hired_38 : decode cX8_hired 38 = .ok (.iload_n 3, 1) := by decide +kernel
theorem dX8_hired_39 : decode cX8_hired 39 = .ok (.iconst 0, 1) := by decide +kernel
theorem dX8_hired_40 : decode cX8_hired 40 = .ok (.invokevirtual 267, 3) := by decide +kernel
theorem dX8_hired_43 : decode cX8_hired 43 = .ok (.goto 5, 3) := by decide +kernel
theorem dX8_hired_46 : decode cX8_hired 46 = .ok (.ldc 79, 2) := by decide +kernel
theorem dX8_hired_48 : decode cX8_hired 48 = .ok (.ireturn, 1) := by decide +kernel
theorem dX8_empty_0 : decode cX8_empty 0 = .ok (.aload_n 0, 1) := by decide +kernel
theorem dX8_empty_1 : decode cX8_empty 1 = .ok (.iconst 0, 1) := by decide +kernel
theorem dX8_empty_2 : decode cX8_empty 2 = .ok (.putfield 59, 3) := by decide +kernel
theorem dX8_empty_5 : decode cX8_empty 5 = .ok (.aload_n 0, 1) := by decide +kernel
theorem dX8_empty_6 : decode cX8_empty 6 = .ok (.iload_n 1, 1) := by decide +kernel
theorem dX8_empty_7 : decode cX8_empty 7 = .ok (.invokevirtual 239, 3) := by decide +kernel
theorem dX8_empty_10 : decode cX8_empty 10 = .ok (.ifCond .eq 36, 3) := by decide +kernel
theorem dX8_empty_13 : decode cX8_empty 13 = .ok (.iload_n 2, 1) := by decide +kernel
theorem dX8_empty_14 : decode cX8_empty 14 = .ok (.i2l, 1) := by decide +kernel
theorem dX8_empty_15 : decode cX8_empty 15 = .ok (.lconst 1, 1) := by decide +kernel
theorem dX8_empty_16 : decode cX8_empty 16 = .ok (.ldc2_w 265, 3) := by decide +kernel
theorem dX8_empty_19 : decode cX8_empty 19 = .ok (.invokestatic 69, 3) := by decide +kernel
theorem dX8_empty_22 : decode cX8_empty 22 = .ok (.ifCond .eq 24, 3) := by decide +kernel
theorem dX8_empty_25 : decode cX8_empty 25 = .ok (.iload_n 3, 1) := by decide +kernel
theorem dX8_empty_26 : decode cX8_empty 26 = .ok (.i2l, 1) := by decide +kernel
theorem dX8_empty_27 : decode cX8_empty 27 = .ok (.lconst 0, 1) := by decide +kernel
theorem dX8_empty_28 : decode cX8_empty 28 = .ok (.lconst 1, 1) := by decide +kernel
theorem dX8_empty_29 : decode cX8_empty 29 = .ok (.invokestatic 69, 3) := by decide +kernel
theorem dX8_empty_32 : decode cX8_empty 32 = .ok (.ifCond .eq 14, 3) := by decide +kernel
theorem dX8_empty_35 : decode cX8_empty 35 = .ok (.aload_n 0, 1) := by decide +kernel
theorem dX8_empty_36 : decode cX8_empty 36 = .ok (.iload_n 1, 1) := by decide +kernel
theorem dX8_empty_37 : decode cX8_empty 37 = .ok (.iload_n 2, 1) := by decide +kernel
theorem dX8_empty_38 : decode cX8_empty 38 = .ok (.iload_n 3, 1) := by decide +kernel
theorem dX8_empty_39 : decode cX8_empty 39 = .ok (.iconst 1, 1) := by decide +kernel
theorem dX8_empty_40 : decode cX8_empty 40 = .ok (.invokevirtual 267, 3) := by decide +kernel
theorem dX8_empty_43 : decode cX8_empty 43 = .ok (.goto 5, 3) := by decide +kernel
theorem dX8_empty_46 : decode cX8_empty 46 = .ok (.ldc 79, 2) := by decide +kernel
theorem dX8_empty_48 : decode cX8_empty 48 = .ok (.ireturn, 1) := by decide +kernel
theorem dX8_areApart_0 : decode cX8_areApart 0 = .ok (.aload_n 0, 1) := by decide +kernel
theorem dX8_areApart_1 : decode cX8_areApart 1 = .ok (.invokevirtual 219, 3) := by decide +kernel
theorem dX8_areApart_4 : decode cX8_areApart 4 = .ok (.iload 4, 2) := by decide +kernel
theorem dX8_areApart_6 : decode cX8_areApart 6 = .ok (.ldc 95, 2) := by decide +kernel
theorem dX8_areApart_8 : decode cX8_areApart 8 = .ok (.if_icmp .eq 47, 3) := by decide +kernel
theorem dX8_areApart_11 : decode cX8_areApart 11 = .ok (.aload_n 0, 1) := by decide +kernel
theorem dX8_areApart_12 : decode cX8_areApart 12 = .ok (.getfield 37, 3) := by decide +kernel
theorem dX8_areApart_15 : decode cX8_areApart 15 = .ok (.iload 4, 2) := by decide +kernel
theorem dX8_areApart_17 : decode cX8_areApart 17 = .ok (.bipush 6, 2) := by decide +kernel
theorem dX8_areApart_19 : decode cX8_areApart 19 = .ok (.idiv, 1) := by decide +kernel
theorem dX8_areApart_20 : decode cX8_areApart 20 = .ok (.dup2, 1) := by decide +kernel
theorem dX8_areApart_21 : decode cX8_areApart 21 = .ok (.iaload, 1) := by decide +kernel
theorem dX8_areApart_22 : decode cX8_areApart 22 = .ok (.iconst 1, 1) := by decide +kernel
theorem dX8_areApart_23 : decode cX8_areApart 23 = .ok (.iload 4, 2) := by decide +kernel
theorem dX8_areApart_25 : decode cX8_areApart 25 = .ok (.bipush 6, 2) := by decide +kernel
theorem dX8_areApart_27 : decode cX8_areApart 27 = .ok (.irem, 1) := by decide +kernel
theorem dX8_areApart_28 : decode cX8_areApart 28 = .ok (.ishl, 1) := by decide +kernel
theorem dX8_areApart_29 : decode cX8_areApart 29 = .ok (.iconst (-1), 1) := by decide +kernel
theorem dX8_areApart_30 : decode cX8_areApart 30 = .ok (.ixor, 1) := by decide +kernel
theorem dX8_areApart_31 : decode cX8_areApart 31 = .ok (.iand, 1) := by decide +kernel
theorem dX8_areApart_32 : decode cX8_areApart 32 = .ok (.iastore, 1) := by decide +kernel
theorem dX8_areApart_33 : decode cX8_areApart 33 = .ok (.aload_n 0, 1) := by decide +kernel
theorem dX8_areApart_34 : decode cX8_areApart 34 = .ok (.getfield 37, 3) := by decide +kernel
theorem dX8_areApart_37 : decode cX8_areApart 37 = .ok (.iload 4, 2) := by decide +kernel
theorem dX8_areApart_39 : decode cX8_areApart 39 = .ok (.bipush 6, 2) := by decide +kernel
theorem dX8_areApart_41 : decode cX8_areApart 41 = .ok (.irem, 1) := by decide +kernel
theorem dX8_areApart_42 : decode cX8_areApart 42 = .ok (.dup2, 1) := by decide +kernel
theorem dX8_areApart_43 : decode cX8_areApart 43 = .ok (.iaload, 1) := by decide +kernel
theorem dX8_areApart_44 : decode cX8_areApart 44 = .ok (.iconst 1, 1) := by decide +kernel
theorem dX8_areApart_45 : decode cX8_areApart 45 = .ok (.iload 4, 2) := by decide +kernel
theorem dX8_areApart_47 : decode cX8_areApart 47 = .ok (.bipush 6, 2) := by decide +kernel
theorem dX8_areApart_49 : decode cX8_areApart 49 = .ok (.idiv, 1) := by decide +kernel
theorem dX8_areApart_50 : decode cX8_areApart 50 = .ok (.ishl, 1) := by decide +kernel
theorem dX8_areApart_51 : decode cX8_areApart 51 = .ok (.iconst (-1), 1) := by decide +kernel
theorem dX8_areApart_52 : decode cX8_areApart 52 = .ok (.ixor, 1) := by decide +kernel
theorem dX8_areApart_53 : decode cX8_areApart 53 = .ok (.iand, 1) := by decide +kernel
theorem dX8_areApart_54 : decode cX8_areApart 54 = .ok (.iastore, 1) := by decide +kernel
theorem dX8_areApart_55 : decode cX8_areApart 55 = .ok (.iconst 1, 1) := by decide +kernel
theorem dX8_areApart_56 : decode cX8_areApart 56 = .ok (.istore 5, 2) := by decide +kernel
theorem dX8_areApart_58 : decode cX8_areApart 58 = .ok (.iconst 0, 1) := by decide +kernel
theorem dX8_areApart_59 : decode cX8_areApart 59 = .ok (.istore 6, 2) := by decide +kernel
theorem dX8_areApart_61 : decode cX8_areApart 61 = .ok (.iload 6, 2) := by decide +kernel
theorem dX8_areApart_63 : decode cX8_areApart 63 = .ok (.iload_n 3, 1) := by decide +kernel
theorem dX8_areApart_64 : decode cX8_areApart 64 = .ok (.if_icmp .ge 42, 3) := by decide +kernel
theorem dX8_areApart_67 : decode cX8_areApart 67 = .ok (.iload 5, 2) := by decide +kernel
theorem dX8_areApart_69 : decode cX8_areApart 69 = .ok (.ifCond .eq 37, 3) := by decide +kernel
theorem dX8_areApart_72 : decode cX8_areApart 72 = .ok (.aload_n 0, 1) := by decide +kernel
theorem dX8_areApart_73 : decode cX8_areApart 73 = .ok (.invokevirtual 213, 3) := by decide +kernel
theorem dX8_areApart_76 : decode cX8_areApart 76 = .ok (.istore 7, 2) := by decide +kernel
theorem dX8_areApart_78 : decode cX8_areApart 78 = .ok (.aload_n 0, 1) := by decide +kernel
theorem dX8_areApart_79 : decode cX8_areApart 79 = .ok (.getfield 31, 3) := by decide +kernel
theorem dX8_areApart_82 : decode cX8_areApart 82 = .ok (.iload_n 1, 1) := by decide +kernel
theorem dX8_areApart_83 : decode cX8_areApart 83 = .ok (.iaload, 1) := by decide +kernel
theorem dX8_areApart_84 : decode cX8_areApart 84 = .ok (.aload_n 0, 1) := by decide +kernel
theorem dX8_areApart_85 : decode cX8_areApart 85 = .ok (.getfield 31, 3) := by decide +kernel
theorem dX8_areApart_88 : decode cX8_areApart 88 = .ok (.iload_n 2, 1) := by decide +kernel
theorem dX8_areApart_89 : decode cX8_areApart 89 = .ok (.iaload, 1) := by decide +kernel
theorem dX8_areApart_90 : decode cX8_areApart 90 = .ok (.if_icmp .eq 7, 3) := by decide +kernel
theorem dX8_areApart_93 : decode cX8_areApart 93 = .ok (.iconst 1, 1) := by decide +kernel
theorem dX8_areApart_94 : decode cX8_areApart 94 = .ok (.goto 4, 3) := by decide +kernel
theorem dX8_areApart_97 : decode cX8_areApart 97 = .ok (.iconst 0, 1) := by decide +kernel
theorem dX8_areApart_98 : decode cX8_areApart 98 = .ok (.istore 5, 2) := by decide +kernel
theorem dX8_areApart_100 : decode cX8_areApart 100 = .ok (.iinc 6 1, 3) := by decide +kernel
theorem dX8_areApart_103 : decode cX8_areApart 103 = .ok (.goto (-42), 3) := by decide +kernel
theorem dX8_areApart_106 : decode cX8_areApart 106 = .ok (.iload 5, 2) := by decide +kernel
theorem dX8_areApart_108 : decode cX8_areApart 108 = .ok (.ireturn, 1) := by decide +kernel
theorem dX8_apart_0 : decode cX8_apart 0 = .ok (.aload_n 0, 1) := by decide +kernel
theorem dX8_apart_1 : decode cX8_apart 1 = .ok (.iconst 0, 1) := by decide +kernel
theorem dX8_apart_2 : decode cX8_apart 2 = .ok (.putfield 59, 3) := by decide +kernel
theorem dX8_apart_5 : decode cX8_apart 5 = .ok (.aload_n 0, 1) := by decide +kernel
theorem dX8_apart_6 : decode cX8_apart 6 = .ok (.iload_n 1, 1) := by decide +kernel
theorem dX8_apart_7 : decode cX8_apart 7 = .ok (.invokevirtual 242, 3) := by decide +kernel
theorem dX8_apart_10 : decode cX8_apart 10 = .ok (.ifCond .eq 28, 3) := by decide +kernel
theorem dX8_apart_13 : decode cX8_apart 13 = .ok (.aload_n 0, 1) := by decide +kernel
theorem dX8_apart_14 : decode cX8_apart 14 = .ok (.iload_n 2, 1) := by decide +kernel
theorem dX8_apart_15 : decode cX8_apart 15 = .ok (.invokevirtual 242, 3) := by decide +kernel
theorem dX8_apart_18 : decode cX8_apart 18 = .ok (.ifCond .eq 20, 3) := by decide +kernel
theorem dX8_apart_21 : decode cX8_apart 21 = .ok (.iload_n 1, 1) := by decide +kernel
theorem dX8_apart_22 : decode cX8_apart 22 = .ok (.iload_n 2, 1) := by decide +kernel
theorem dX8_apart_23 : decode cX8_apart 23 = .ok (.if_icmp .eq 15, 3) := by decide +kernel
theorem dX8_apart_26 : decode cX8_apart 26 = .ok (.iload_n 3, 1) := by decide +kernel
theorem dX8_apart_27 : decode cX8_apart 27 = .ok (.i2l, 1) := by decide +kernel
theorem dX8_apart_28 : decode cX8_apart 28 = .ok (.lconst 1, 1) := by decide +kernel
theorem dX8_apart_29 : decode cX8_apart 29 = .ok (.ldc2_w 247, 3) := by decide +kernel
theorem dX8_apart_32 : decode cX8_apart 32 = .ok (.invokestatic 69, 3) := by decide +kernel
theorem dX8_apart_35 : decode cX8_apart 35 = .ok (.ifCond .ne 6, 3) := by decide +kernel
theorem dX8_apart_38 : decode cX8_apart 38 = .ok (.ldc 79, 2) := by decide +kernel
theorem dX8_apart_40 : decode cX8_apart 40 = .ok (.ireturn, 1) := by decide +kernel
theorem dX8_apart_41 : decode cX8_apart 41 = .ok (.aload_n 0, 1) := by decide +kernel
theorem dX8_apart_42 : decode cX8_apart 42 = .ok (.iload_n 1, 1) := by decide +kernel
theorem dX8_apart_43 : decode cX8_apart 43 = .ok (.iload_n 2, 1) := by decide +kernel
theorem dX8_apart_44 : decode cX8_apart 44 = .ok (.iload_n 3, 1) := by decide +kernel
theorem dX8_apart_45 : decode cX8_apart 45 = .ok (.ldc 95, 2) := by decide +kernel
theorem dX8_apart_47 : decode cX8_apart 47 = .ok (.invokevirtual 271, 3) := by decide +kernel
theorem dX8_apart_50 : decode cX8_apart 50 = .ok (.ifCond .eq 5, 3) := by decide +kernel
theorem dX8_apart_53 : decode cX8_apart 53 = .ok (.iconst (-1), 1) := by decide +kernel
theorem dX8_apart_54 : decode cX8_apart 54 = .ok (.ireturn, 1) := by decide +kernel
theorem dX8_apart_55 : decode cX8_apart 55 = .ok (.iconst 0, 1) := by decide +kernel
theorem dX8_apart_56 : decode cX8_apart 56 = .ok (.istore 4, 2) := by decide +kernel
theorem dX8_apart_58 : decode cX8_apart 58 = .ok (.iload 4, 2) := by decide +kernel
theorem dX8_apart_60 : decode cX8_apart 60 = .ok (.bipush 36, 2) := by decide +kernel
theorem dX8_apart_62 : decode cX8_apart 62 = .ok (.if_icmp .ge 74, 3) := by decide +kernel
theorem dX8_apart_65 : decode cX8_apart 65 = .ok (.iload 4, 2) := by decide +kernel
theorem dX8_apart_67 : decode cX8_apart 67 = .ok (.bipush 6, 2) := by decide +kernel
theorem dX8_apart_69 : decode cX8_apart 69 = .ok (.idiv, 1) := by decide +kernel
theorem dX8_apart_70 : decode cX8_apart 70 = .ok (.iload 4, 2) := by decide +kernel
theorem dX8_apart_72 : decode cX8_apart 72 = .ok (.bipush 6, 2) := by decide +kernel
theorem dX8_apart_74 : decode cX8_apart 74 = .ok (.irem, 1) := by decide +kernel
theorem dX8_apart_75 : decode cX8_apart 75 = .ok (.if_icmp .ge 32, 3) := by decide +kernel
theorem dX8_apart_78 : decode cX8_apart 78 = .ok (.aload_n 0, 1) := by decide +kernel
theorem dX8_apart_79 : decode cX8_apart 79 = .ok (.getfield 19, 3) := by decide +kernel
theorem dX8_apart_82 : decode cX8_apart 82 = .ok (.bipush 10, 2) := by decide +kernel
theorem dX8_apart_84 : decode cX8_apart 84 = .ok (.iload 4, 2) := by decide +kernel
theorem dX8_apart_86 : decode cX8_apart 86 = .ok (.bipush 6, 2) := by decide +kernel
theorem dX8_apart_88 : decode cX8_apart 88 = .ok (.idiv, 1) := by decide +kernel
theorem dX8_apart_89 : decode cX8_apart 89 = .ok (.iadd, 1) := by decide +kernel
theorem dX8_apart_90 : decode cX8_apart 90 = .ok (.iaload, 1) := by decide +kernel
theorem dX8_apart_91 : decode cX8_apart 91 = .ok (.iload 4, 2) := by decide +kernel
theorem dX8_apart_93 : decode cX8_apart 93 = .ok (.bipush 6, 2) := by decide +kernel
theorem dX8_apart_95 : decode cX8_apart 95 = .ok (.irem, 1) := by decide +kernel
theorem dX8_apart_96 : decode cX8_apart 96 = .ok (.ishr, 1) := by decide +kernel
theorem dX8_apart_97 : decode cX8_apart 97 = .ok (.iconst 1, 1) := by decide +kernel
theorem dX8_apart_98 : decode cX8_apart 98 = .ok (.iand, 1) := by decide +kernel
theorem dX8_apart_99 : decode cX8_apart 99 = .ok (.iconst 1, 1) := by decide +kernel
theorem dX8_apart_100 : decode cX8_apart 100 = .ok (.if_icmp .ne 7, 3) := by decide +kernel
theorem dX8_apart_103 : decode cX8_apart 103 = .ok (.iconst 1, 1) := by decide +kernel
theorem dX8_apart_104 : decode cX8_apart 104 = .ok (.goto 4, 3) := by decide +kernel
theorem dX8_apart_107 : decode cX8_apart 107 = .ok (.iconst 0, 1) := by decide +kernel
theorem dX8_apart_108 : decode cX8_apart 108 = .ok (.istore 5, 2) := by decide +kernel
theorem dX8_apart_110 : decode cX8_apart 110 = .ok (.iload 5, 2) := by decide +kernel
theorem dX8_apart_112 : decode cX8_apart 112 = .ok (.ifCond .eq 18, 3) := by decide +kernel
theorem dX8_apart_115 : decode cX8_apart 115 = .ok (.aload_n 0, 1) := by decide +kernel
theorem dX8_apart_116 : decode cX8_apart 116 = .ok (.iload_n 1, 1) := by decide +kernel
theorem dX8_apart_117 : decode cX8_apart 117 = .ok (.iload_n 2, 1) := by decide +kernel
theorem dX8_apart_118 : decode cX8_apart 118 = .ok (.iload_n 3, 1) := by decide +kernel
theorem dX8_apart_119 : decode cX8_apart 119 = .ok (.iload 4, 2) := by decide +kernel
theorem dX8_apart_121 : decode cX8_apart 121 = .ok (.invokevirtual 271, 3) := by decide +kernel
theorem dX8_apart_124 : decode cX8_apart 124 = .ok (.ifCond .eq 6, 3) := by decide +kernel
theorem dX8_apart_127 : decode cX8_apart 127 = .ok (.iload 4, 2) := by decide +kernel
theorem dX8_apart_129 : decode cX8_apart 129 = .ok (.ireturn, 1) := by decide +kernel
theorem dX8_apart_130 : decode cX8_apart 130 = .ok (.iinc 4 1, 3) := by decide +kernel
theorem dX8_apart_133 : decode cX8_apart 133 = .ok (.goto (-75), 3) := by decide +kernel
theorem dX8_apart_136 : decode cX8_apart 136 = .ok (.ldc 95, 2) := by decide +kernel
theorem dX8_apart_138 : decode cX8_apart 138 = .ok (.ireturn, 1) := by decide +kernel
theorem dX8_layBegan_0 : decode cX8_layBegan 0 = .ok (.aload_n 0, 1) := by decide +kernel
theorem dX8_layBegan_1 : decode cX8_layBegan 1 = .ok (.invokevirtual 219, 3) := by decide +kernel
theorem dX8_layBegan_4 : decode cX8_layBegan 4 = .ok (.aload_n 0, 1) := by decide +kernel
theorem dX8_layBegan_5 : decode cX8_layBegan 5 = .ok (.iconst 0, 1) := by decide +kernel
theorem dX8_layBegan_6 : decode cX8_layBegan 6 = .ok (.putfield 192, 3) := by decide +kernel
theorem dX8_layBegan_9 : decode cX8_layBegan 9 = .ok (.iload_n 1, 1) := by decide +kernel
theorem dX8_layBegan_10 : decode cX8_layBegan 10 = .ok (.istore_n 2, 1) := by decide +kernel
theorem dX8_layBegan_11 : decode cX8_layBegan 11 = .ok (.aload_n 0, 1) := by decide +kernel
theorem dX8_layBegan_12 : decode cX8_layBegan 12 = .ok (.getfield 19, 3) := by decide +kernel
theorem dX8_layBegan_15 : decode cX8_layBegan 15 = .ok (.iconst 2, 1) := by decide +kernel
theorem dX8_layBegan_16 : decode cX8_layBegan 16 = .ok (.iaload, 1) := by decide +kernel
theorem dX8_layBegan_17 : decode cX8_layBegan 17 = .ok (.iconst 1, 1) := by decide +kernel
theorem dX8_layBegan_18 : decode cX8_layBegan 18 = .ok (.isub, 1) := by decide +kernel
theorem dX8_layBegan_19 : decode cX8_layBegan 19 = .ok (.istore_n 3, 1) := by decide +kernel
theorem dX8_layBegan_20 : decode cX8_layBegan 20 = .ok (.iload_n 3, 1) := by decide +kernel
theorem dX8_layBegan_21 : decode cX8_layBegan 21 = .ok (.ifCond .lt 32, 3) := by decide +kernel
theorem dX8_layBegan_24 : decode cX8_layBegan 24 = .ok (.aload_n 0, 1) := by decide +kernel
theorem dX8_layBegan_25 : decode cX8_layBegan 25 = .ok (.getfield 31, 3) := by decide +kernel
theorem dX8_layBegan_28 : decode cX8_layBegan 28 = .ok (.iload_n 3, 1) := by decide +kernel
theorem dX8_layBegan_29 : decode cX8_layBegan 29 = .ok (.iload_n 2, 1) := by decide +kernel
theorem dX8_layBegan_30 : decode cX8_layBegan 30 = .ok (.aload_n 0, 1) := by decide +kernel
theorem dX8_layBegan_31 : decode cX8_layBegan 31 = .ok (.getfield 19, 3) := by decide +kernel
theorem dX8_layBegan_34 : decode cX8_layBegan 34 = .ok (.iconst 0, 1) := by decide +kernel
theorem dX8_layBegan_35 : decode cX8_layBegan 35 = .ok (.iaload, 1) := by decide +kernel
theorem dX8_layBegan_36 : decode cX8_layBegan 36 = .ok (.irem, 1) := by decide +kernel
theorem dX8_layBegan_37 : decode cX8_layBegan 37 = .ok (.iastore, 1) := by decide +kernel
theorem dX8_layBegan_38 : decode cX8_layBegan 38 = .ok (.iload_n 2, 1) := by decide +kernel
theorem dX8_layBegan_39 : decode cX8_layBegan 39 = .ok (.aload_n 0, 1) := by decide +kernel
theorem dX8_layBegan_40 : decode cX8_layBegan 40 = .ok (.getfield 19, 3) := by decide +kernel
theorem dX8_layBegan_43 : decode cX8_layBegan 43 = .ok (.iconst 0, 1) := by decide +kernel
theorem dX8_layBegan_44 : decode cX8_layBegan 44 = .ok (.iaload, 1) := by decide +kernel
theorem dX8_layBegan_45 : decode cX8_layBegan 45 = .ok (.idiv, 1) := by decide +kernel
theorem dX8_layBegan_46 : decode cX8_layBegan 46 = .ok (.istore_n 2, 1) := by decide +kernel
theorem dX8_layBegan_47 : decode cX8_layBegan 47 = .ok (.iinc 3 (-1), 3) := by decide +kernel
theorem dX8_layBegan_50 : decode cX8_layBegan 50 = .ok (.goto (-30), 3) := by decide +kernel
theorem dX8_layBegan_53 : decode cX8_layBegan 53 = .ok (.return_, 1) := by decide +kernel
theorem dX8_began_0 : decode cX8_began 0 = .ok (.aload_n 0, 1) := by decide +kernel
theorem dX8_began_1 : decode cX8_began 1 = .ok (.iconst 0, 1) := by decide +kernel
theorem dX8_began_2 : decode cX8_began 2 = .ok (.putfield 59, 3) := by decide +kernel
theorem dX8_began_5 : decode cX8_began 5 = .ok (.aload_n 0, 1) := by decide +kernel
theorem dX8_began_6 : decode cX8_began 6 = .ok (.invokevirtual 222, 3) := by decide +kernel
theorem dX8_began_9 : decode cX8_began 9 = .ok (.ifCond .ne 6, 3) := by decide +kernel
theorem dX8_began_12 : decode cX8_began 12 = .ok (.ldc 226, 2) := by decide +kernel
theorem dX8_began_14 : decode cX8_began 14 = .ok (.ireturn, 1) := by decide +kernel
theorem dX8_began_15 : decode cX8_began 15 = .ok (.iload_n 1, 1) := by decide +kernel
theorem dX8_began_16 : decode cX8_began 16 = .ok (.i2l, 1) := by decide +kernel
theorem dX8_began_17 : decode cX8_began 17 = .ok (.ldc2_w 275, 3) := by decide +kernel
theorem dX8_began_20 : decode cX8_began 20 = .ok (.aload_n 0, 1) := by decide +kernel
theorem dX8_began_21 : decode cX8_began 21 = .ok (.getfield 19, 3) := by decide +kernel
theorem dX8_began_24 : decode cX8_began 24 = .ok (.iconst 2, 1) := by decide +kernel
theorem dX8_began_25 : decode cX8_began 25 = .ok (.iaload, 1) := by decide +kernel
theorem dX8_began_26 : decode cX8_began 26 = .ok (.iconst 1, 1) := by decide +kernel
theorem dX8_began_27 : decode cX8_began 27 = .ok (.isub, 1) := by decide +kernel
theorem dX8_began_28 : decode cX8_began 28 = .ok (.i2l, 1) := by decide +kernel
theorem dX8_began_29 : decode cX8_began 29 = .ok (.invokestatic 69, 3) := by decide +kernel
theorem dX8_began_32 : decode cX8_began 32 = .ok (.ifCond .eq 15, 3) := by decide +kernel
theorem dX8_began_35 : decode cX8_began 35 = .ok (.iload_n 2, 1) := by decide +kernel
theorem dX8_began_36 : decode cX8_began 36 = .ok (.i2l, 1) := by decide +kernel
theorem dX8_began_37 : decode cX8_began 37 = .ok (.lconst 0, 1) := by decide +kernel
theorem dX8_began_38 : decode cX8_began 38 = .ok (.ldc2_w 277, 3) := by decide +kernel
theorem dX8_began_41 : decode cX8_began 41 = .ok (.invokestatic 69, 3) := by decide +kernel
theorem dX8_began_44 : decode cX8_began 44 = .ok (.ifCond .ne 6, 3) := by decide +kernel
theorem dX8_began_47 : decode cX8_began 47 = .ok (.ldc 79, 2) := by decide +kernel
theorem dX8_began_49 : decode cX8_began 49 = .ok (.ireturn, 1) := by decide +kernel
theorem dX8_began_50 : decode cX8_began 50 = .ok (.iconst 1, 1) := by decide +kernel
theorem dX8_began_51 : decode cX8_began 51 = .ok (.istore_n 3, 1) := by decide +kernel
theorem dX8_began_52 : decode cX8_began 52 = .ok (.iconst 0, 1) := by decide +kernel
theorem dX8_began_53 : decode cX8_began 53 = .ok (.istore 4, 2) := by decide +kernel
theorem dX8_began_55 : decode cX8_began 55 = .ok (.iload 4, 2) := by decide +kernel
theorem dX8_began_57 : decode cX8_began 57 = .ok (.aload_n 0, 1) := by decide +kernel
theorem dX8_began_58 : decode cX8_began 58 = .ok (.getfield 19, 3) := by decide +kernel
theorem dX8_began_61 : decode cX8_began 61 = .ok (.iconst 2, 1) := by decide +kernel
theorem dX8_began_62 : decode cX8_began 62 = .ok (.iaload, 1) := by decide +kernel
theorem dX8_began_63 : decode cX8_began 63 = .ok (.if_icmp .ge 18, 3) := by decide +kernel
theorem dX8_began_66 : decode cX8_began 66 = .ok (.iload_n 3, 1) := by decide +kernel
theorem dX8_began_67 : decode cX8_began 67 = .ok (.aload_n 0, 1) := by decide +kernel
theorem dX8_began_68 : decode cX8_began 68 = .ok (.getfield 19, 3) := by decide +kernel
theorem dX8_began_71 : decode cX8_began 71 = .ok (.iconst 0, 1) := by decide +kernel
theorem dX8_began_72 : decode cX8_began 72 = .ok (.iaload, 1) := by decide +kernel
theorem dX8_began_73 : decode cX8_began 73 = .ok (.imul, 1) := by decide +kernel
theorem dX8_began_74 : decode cX8_began 74 = .ok (.istore_n 3, 1) := by decide +kernel
theorem dX8_began_75 : decode cX8_began 75 = .ok (.iinc 4 1, 3) := by decide +kernel
theorem dX8_began_78 : decode cX8_began 78 = .ok (.goto (-23), 3) := by decide +kernel
theorem dX8_began_81 : decode cX8_began 81 = .ok (.iconst 0, 1) := by decide +kernel
theorem dX8_began_82 : decode cX8_began 82 = .ok (.istore 4, 2) := by decide +kernel
theorem dX8_began_84 : decode cX8_began 84 = .ok (.ldc 95, 2) := by decide +kernel
theorem dX8_began_86 : decode cX8_began 86 = .ok (.istore 5, 2) := by decide +kernel
theorem dX8_began_88 : decode cX8_began 88 = .ok (.iconst 0, 1) := by decide +kernel
theorem dX8_began_89 : decode cX8_began 89 = .ok (.istore 6, 2) := by decide +kernel
theorem dX8_began_91 : decode cX8_began 91 = .ok (.iload 6, 2) := by decide +kernel
theorem dX8_began_93 : decode cX8_began 93 = .ok (.iload_n 3, 1) := by decide +kernel
theorem dX8_began_94 : decode cX8_began 94 = .ok (.if_icmp .ge 108, 3) := by decide +kernel
theorem dX8_began_97 : decode cX8_began 97 = .ok (.aload_n 0, 1) := by decide +kernel
theorem dX8_began_98 : decode cX8_began 98 = .ok (.iload 6, 2) := by decide +kernel
theorem dX8_began_100 : decode cX8_began 100 = .ok (.invokevirtual 279, 3) := by decide +kernel
theorem dX8_began_103 : decode cX8_began 103 = .ok (.aload_n 0, 1) := by decide +kernel
theorem dX8_began_104 : decode cX8_began 104 = .ok (.iload_n 2, 1) := by decide +kernel
theorem dX8_began_105 : decode cX8_began 105 = .ok (.invokevirtual 249, 3) := by decide +kernel
theorem dX8_began_108 : decode cX8_began 108 = .ok (.iconst 1, 1) := by decide +kernel
theorem dX8_began_109 : decode cX8_began 109 = .ok (.istore 7, 2) := by decide +kernel
theorem dX8_began_111 : decode cX8_began 111 = .ok (.iconst 0, 1) := by decide +kernel
theorem dX8_began_112 : decode cX8_began 112 = .ok (.istore 8, 2) := by decide +kernel
theorem dX8_began_114 : decode cX8_began 114 = .ok (.iload 8, 2) := by decide +kernel
theorem dX8_began_116 : decode cX8_began 116 = .ok (.aload_n 0, 1) := by decide +kernel
theorem dX8_began_117 : decode cX8_began 117 = .ok (.getfield 19, 3) := by decide +kernel
theorem dX8_began_120 : decode cX8_began 120 = .ok (.iconst 2, 1) := by decide +kernel
theorem dX8_began_121 : decode cX8_began 121 = .ok (.iaload, 1) := by decide +kernel
theorem dX8_began_122 : decode cX8_began 122 = .ok (.if_icmp .ge 38, 3) := by decide +kernel
theorem dX8_began_125 : decode cX8_began 125 = .ok (.iload 7, 2) := by decide +kernel
theorem dX8_began_127 : decode cX8_began 127 = .ok (.ifCond .eq 24, 3) := by decide +kernel
theorem dX8_began_130 : decode cX8_began 130 = .ok (.aload_n 0, 1) := by decide +kernel
theorem dX8_began_131 : decode cX8_began 131 = .ok (.getfield 31, 3) := by decide +kernel
theorem dX8_began_134 : decode cX8_began 134 = .ok (.iload 8, 2) := by decide +kernel
theorem dX8_began_136 : decode cX8_began 136 = .ok (.iaload, 1) := by decide +kernel
theorem dX8_began_137 : decode cX8_began 137 = .ok (.aload_n 0, 1) := by decide +kernel
theorem dX8_began_138 : decode cX8_began 138 = .ok (.iload 8, 2) := by decide +kernel
theorem dX8_began_140 : decode cX8_began 140 = .ok (.iconst 1, 1) := by decide +kernel
theorem dX8_began_141 : decode cX8_began 141 = .ok (.invokevirtual 201, 3) := by decide +kernel
theorem dX8_began_144 : decode cX8_began 144 = .ok (.if_icmp .ne 7, 3) := by decide +kernel
theorem dX8_began_147 : decode cX8_began 147 = .ok (.iconst 1, 1) := by decide +kernel
theorem dX8_began_148 : decode cX8_began 148 = .ok (.goto 4, 3) := by decide +kernel
theorem dX8_began_151 : decode cX8_began 151 = .ok (.iconst 0, 1) := by decide +kernel
theorem dX8_began_152 : decode cX8_began 152 = .ok (.istore 7, 2) := by decide +kernel
theorem dX8_began_154 : decode cX8_began 154 = .ok (.iinc 8 1, 3) := by decide +kernel
theorem dX8_began_157 : decode cX8_began 157 = .ok (.goto (-43), 3) := by decide +kernel
theorem dX8_began_160 : decode cX8_began 160 = .ok (.iload 4, 2) := by decide +kernel
theorem dX8_began_162 : decode cX8_began 162 = .ok (.iload 7, 2) := by decide +kernel
theorem dX8_began_164 : decode cX8_began 164 = .ok (.ifCond .eq 7, 3) := by decide +kernel
theorem dX8_began_167 : decode cX8_began 167 = .ok (.iconst 1, 1) := by decide +kernel
theorem dX8_began_168 : decode cX8_began 168 = .ok (.goto 4, 3) := by decide +kernel
theorem dX8_began_171 : decode cX8_began 171 = .ok (.iconst 0, 1) := by decide +kernel
theorem dX8_began_172 : decode cX8_began 172 = .ok (.iadd, 1) := by decide +kernel
theorem dX8_began_173 : decode cX8_began 173 = .ok (.istore 4, 2) := by decide +kernel
theorem dX8_began_175 : decode cX8_began 175 = .ok (.iload 7, 2) := by decide +kernel
theorem dX8_began_177 : decode cX8_began 177 = .ok (.ifCond .eq 15, 3) := by decide +kernel
theorem dX8_began_180 : decode cX8_began 180 = .ok (.iload 5, 2) := by decide +kernel
theorem dX8_began_182 : decode cX8_began 182 = .ok (.ldc 95, 2) := by decide +kernel
theorem dX8_began_184 : decode cX8_began 184 = .ok (.if_icmp .ne 8, 3) := by decide +kernel
theorem dX8_began_187 : decode cX8_began 187 = .ok (.iload 6, 2) := by decide +kernel
theorem dX8_began_189 : decode cX8_began 189 = .ok (.goto 5, 3) := by decide +kernel
theorem dX8_began_192 : decode cX8_began 192 = .ok (.iload 5, 2) := by decide +kernel
theorem dX8_began_194 : decode cX8_began 194 = .ok (.istore 5, 2) := by decide +kernel
theorem dX8_began_196 : decode cX8_began 196 = .ok (.iinc 6 1, 3) := by decide +kernel
theorem dX8_began_199 : decode cX8_began 199 = .ok (.goto (-108), 3) := by decide +kernel
theorem dX8_began_202 : decode cX8_began 202 = .ok (.iload_n 1, 1) := by decide +kernel
theorem dX8_began_203 : decode cX8_began 203 = .ok (.ifCond .lt 10, 3) := by decide +kernel
theorem dX8_began_206 : decode cX8_began 206 = .ok (.iload 5, 2) := by decide +kernel
theorem dX8_began_208 : decode cX8_began 208 = .ok (.ldc 95, 2) := by decide +kernel
theorem dX8_began_210 : decode cX8_began 210 = .ok (.if_icmp .ne 15, 3) := by decide +kernel
theorem dX8_began_213 : decode cX8_began 213 = .ok (.iload_n 1, 1) := by decide +kernel
theorem dX8_began_214 : decode cX8_began 214 = .ok (.ifCond .ge 8, 3) := by decide +kernel
theorem dX8_began_217 : decode cX8_began 217 = .ok (.iload 4, 2) := by decide +kernel
theorem dX8_began_219 : decode cX8_began 219 = .ok (.goto 5, 3) := by decide +kernel
theorem dX8_began_222 : decode cX8_began 222 = .ok (.ldc 95, 2) := by decide +kernel
theorem dX8_began_224 : decode cX8_began 224 = .ok (.ireturn, 1) := by decide +kernel
theorem dX8_began_225 : decode cX8_began 225 = .ok (.aload_n 0, 1) := by decide +kernel
theorem dX8_began_226 : decode cX8_began 226 = .ok (.iload 5, 2) := by decide +kernel
theorem dX8_began_228 : decode cX8_began 228 = .ok (.invokevirtual 279, 3) := by decide +kernel
theorem dX8_began_231 : decode cX8_began 231 = .ok (.aload_n 0, 1) := by decide +kernel
theorem dX8_began_232 : decode cX8_began 232 = .ok (.getfield 31, 3) := by decide +kernel
theorem dX8_began_235 : decode cX8_began 235 = .ok (.iload_n 1, 1) := by decide +kernel
theorem dX8_began_236 : decode cX8_began 236 = .ok (.iaload, 1) := by decide +kernel
theorem dX8_began_237 : decode cX8_began 237 = .ok (.ireturn, 1) := by decide +kernel
theorem dX8_image_0 : decode cX8_image 0 = .ok (.aload_n 0, 1) := by decide +kernel
theorem dX8_image_1 : decode cX8_image 1 = .ok (.iconst 0, 1) := by decide +kernel
theorem dX8_image_2 : decode cX8_image 2 = .ok (.putfield 59, 3) := by decide +kernel
theorem dX8_image_5 : decode cX8_image 5 = .ok (.iload_n 1, 1) := by decide +kernel
theorem dX8_image_6 : decode cX8_image 6 = .ok (.i2l, 1) := by decide +kernel
theorem dX8_image_7 : decode cX8_image 7 = .ok (.lconst 0, 1) := by decide +kernel
theorem dX8_image_8 : decode cX8_image 8 = .ok (.lconst 1, 1) := by decide +kernel
theorem dX8_image_9 : decode cX8_image 9 = .ok (.invokestatic 69, 3) := by decide +kernel
theorem dX8_image_12 : decode cX8_image 12 = .ok (.ifCond .ne 6, 3) := by decide +kernel
theorem dX8_image_15 : decode cX8_image 15 = .ok (.ldc 79, 2) := by decide +kernel
theorem dX8_image_17 : decode cX8_image 17 = .ok (.ireturn, 1) := by decide +kernel
theorem dX8_image_18 : decode cX8_image 18 = .ok (.aload_n 0, 1) := by decide +kernel
theorem dX8_image_19 : decode cX8_image 19 = .ok (.invokevirtual 222, 3) := by decide +kernel
theorem dX8_image_22 : decode cX8_image 22 = .ok (.ifCond .ne 6, 3) := by decide +kernel
theorem dX8_image_25 : decode cX8_image 25 = .ok (.ldc 226, 2) := by decide +kernel
theorem dX8_image_27 : decode cX8_image 27 = .ok (.ireturn, 1) := by decide +kernel
theorem dX8_image_28 : decode cX8_image 28 = .ok (.iconst 0, 1) := by decide +kernel
theorem dX8_image_29 : decode cX8_image 29 = .ok (.istore_n 2, 1) := by decide +kernel
theorem dX8_image_30 : decode cX8_image 30 = .ok (.iload_n 2, 1) := by decide +kernel
theorem dX8_image_31 : decode cX8_image 31 = .ok (.bipush 37, 2) := by decide +kernel
theorem dX8_image_33 : decode cX8_image 33 = .ok (.if_icmp .ge 26, 3) := by decide +kernel
theorem dX8_image_36 : decode cX8_image 36 = .ok (.aload_n 0, 1) := by decide +kernel
theorem dX8_image_37 : decode cX8_image 37 = .ok (.getfield 53, 3) := by decide +kernel
theorem dX8_image_40 : decode cX8_image 40 = .ok (.bipush 37, 2) := by decide +kernel
theorem dX8_image_42 : decode cX8_image 42 = .ok (.iload_n 1, 1) := by decide +kernel
theorem dX8_image_43 : decode cX8_image 43 = .ok (.imul, 1) := by decide +kernel
theorem dX8_image_44 : decode cX8_image 44 = .ok (.iload_n 2, 1) := by decide +kernel
theorem dX8_image_45 : decode cX8_image 45 = .ok (.iadd, 1) := by decide +kernel
theorem dX8_image_46 : decode cX8_image 46 = .ok (.aload_n 0, 1) := by decide +kernel
theorem dX8_image_47 : decode cX8_image 47 = .ok (.getfield 19, 3) := by decide +kernel
theorem dX8_image_50 : decode cX8_image 50 = .ok (.iload_n 2, 1) := by decide +kernel
theorem dX8_image_51 : decode cX8_image 51 = .ok (.iaload, 1) := by decide +kernel
theorem dX8_image_52 : decode cX8_image 52 = .ok (.iastore, 1) := by decide +kernel
theorem dX8_image_53 : decode cX8_image 53 = .ok (.iinc 2 1, 3) := by decide +kernel
theorem dX8_image_56 : decode cX8_image 56 = .ok (.goto (-26), 3) := by decide +kernel
theorem dX8_image_59 : decode cX8_image 59 = .ok (.aload_n 0, 1) := by decide +kernel
theorem dX8_image_60 : decode cX8_image 60 = .ok (.getfield 49, 3) := by decide +kernel
theorem dX8_image_63 : decode cX8_image 63 = .ok (.iload_n 1, 1) := by decide +kernel
theorem dX8_image_64 : decode cX8_image 64 = .ok (.iconst 1, 1) := by decide +kernel
theorem dX8_image_65 : decode cX8_image 65 = .ok (.bastore, 1) := by decide +kernel
theorem dX8_image_66 : decode cX8_image 66 = .ok (.iconst 1, 1) := by decide +kernel
theorem dX8_image_67 : decode cX8_image 67 = .ok (.ireturn, 1) := by decide +kernel
theorem dX8_restore_0 : decode cX8_restore 0 = .ok (.aload_n 0, 1) := by decide +kernel
theorem dX8_restore_1 : decode cX8_restore 1 = .ok (.iconst 0, 1) := by decide +kernel
theorem dX8_restore_2 : decode cX8_restore 2 = .ok (.putfield 59, 3) := by decide +kernel
theorem dX8_restore_5 : decode cX8_restore 5 = .ok (.iload_n 1, 1) := by decide +kernel
theorem dX8_restore_6 : decode cX8_restore 6 = .ok (.i2l, 1) := by decide +kernel
theorem dX8_restore_7 : decode cX8_restore 7 = .ok (.lconst 0, 1) := by decide +kernel
theorem dX8_restore_8 : decode cX8_restore 8 = .ok (.lconst 1, 1) := by decide +kernel
theorem dX8_restore_9 : decode cX8_restore 9 = .ok (.invokestatic 69, 3) := by decide +kernel
theorem dX8_restore_12 : decode cX8_restore 12 = .ok (.ifCond .ne 6, 3) := by decide +kernel
theorem dX8_restore_15 : decode cX8_restore 15 = .ok (.ldc 79, 2) := by decide +kernel
theorem dX8_restore_17 : decode cX8_restore 17 = .ok (.ireturn, 1) := by decide +kernel
theorem dX8_restore_18 : decode cX8_restore 18 = .ok (.aload_n 0, 1) := by decide +kernel
theorem dX8_restore_19 : decode cX8_restore 19 = .ok (.getfield 49, 3) := by decide +kernel
theorem dX8_restore_22 : decode cX8_restore 22 = .ok (.iload_n 1, 1) := by decide +kernel
theorem dX8_restore_23 : decode cX8_restore 23 = .ok (.baload, 1) := by decide +kernel
theorem dX8_restore_24 : decode cX8_restore 24 = .ok (.ifCond .ne 6, 3) := by decide +kernel
theorem dX8_restore_27 : decode cX8_restore 27 = .ok (.ldc 226, 2) := by decide +kernel
theorem dX8_restore_29 : decode cX8_restore 29 = .ok (.ireturn, 1) := by decide +kernel
theorem dX8_restore_30 : decode cX8_restore 30 = .ok (.iconst 0, 1) := by decide +kernel
theorem dX8_restore_31 : decode cX8_restore 31 = .ok (.istore_n 2, 1) := by decide +kernel
theorem dX8_restore_32 : decode cX8_restore 32 = .ok (.iload_n 2, 1) := by decide +kernel
theorem dX8_restore_33 : decode cX8_restore 33 = .ok (.bipush 37, 2) := by decide +kernel
theorem dX8_restore_35 : decode cX8_restore 35 = .ok (.if_icmp .ge 26, 3) := by decide +kernel
theorem dX8_restore_38 : decode cX8_restore 38 = .ok (.aload_n 0, 1) := by decide +kernel
theorem dX8_restore_39 : decode cX8_restore 39 = .ok (.getfield 19, 3) := by decide +kernel
theorem dX8_restore_42 : decode cX8_restore 42 = .ok (.iload_n 2, 1) := by decide +kernel
theorem dX8_restore_43 : decode cX8_restore 43 = .ok (.aload_n 0, 1) := by decide +kernel
theorem dX8_restore_44 : decode cX8_restore 44 = .ok (.getfield 53, 3) := by decide +kernel
theorem dX8_restore_47 : decode cX8_restore 47 = .ok (.bipush 37, 2) := by decide +kernel
theorem dX8_restore_49 : decode cX8_restore 49 = .ok (.iload_n 1, 1) := by decide +kernel
theorem dX8_restore_50 : decode cX8_restore 50 = .ok (.imul, 1) := by decide +kernel
theorem dX8_restore_51 : decode cX8_restore 51 = .ok (.iload_n 2, 1) := by decide +kernel
theorem dX8_restore_52 : decode cX8_restore 52 = .ok (.iadd, 1) := by decide +kernel
theorem dX8_restore_53 : decode cX8_restore 53 = .ok (.iaload, 1) := by decide +kernel
theorem dX8_restore_54 : decode cX8_restore 54 = .ok (.iastore, 1) := by decide +kernel
theorem dX8_restore_55 : decode cX8_restore 55 = .ok (.iinc 2 1, 3) := by decide +kernel
theorem dX8_restore_58 : decode cX8_restore 58 = .ok (.goto (-26), 3) := by decide +kernel
theorem dX8_restore_61 : decode cX8_restore 61 = .ok (.aload_n 0, 1) := by decide +kernel
theorem dX8_restore_62 : decode cX8_restore 62 = .ok (.iconst 0, 1) := by decide +kernel
theorem dX8_restore_63 : decode cX8_restore 63 = .ok (.putfield 189, 3) := by decide +kernel
theorem dX8_restore_66 : decode cX8_restore 66 = .ok (.iconst 1, 1) := by decide +kernel
theorem dX8_restore_67 : decode cX8_restore 67 = .ok (.ireturn, 1) := by decide +kernel
theorem dX8_isOf_0 : decode cX8_isOf 0 = .ok (.iload_n 1, 1) := by decide +kernel
theorem dX8_isOf_1 : decode cX8_isOf 1 = .ok (.ifCond .eq 28, 3) := by decide +kernel
theorem dX8_isOf_4 : decode cX8_isOf 4 = .ok (.iload_n 0, 1) := by decide +kernel
theorem dX8_isOf_5 : decode cX8_isOf 5 = .ok (.iload_n 1, 1) := by decide +kernel
theorem dX8_isOf_6 : decode cX8_isOf 6 = .ok (.if_icmp .eq 23, 3) := by decide +kernel
theorem dX8_isOf_9 : decode cX8_isOf 9 = .ok (.iload_n 1, 1) := by decide +kernel
theorem dX8_isOf_10 : decode cX8_isOf 10 = .ok (.iconst 1, 1) := by decide +kernel
theorem dX8_isOf_11 : decode cX8_isOf 11 = .ok (.if_icmp .ne 8, 3) := by decide +kernel
theorem dX8_isOf_14 : decode cX8_isOf 14 = .ok (.iload_n 0, 1) := by decide +kernel
theorem dX8_isOf_15 : decode cX8_isOf 15 = .ok (.iconst 4, 1) := by decide +kernel
theorem dX8_isOf_16 : decode cX8_isOf 16 = .ok (.if_icmp .lt 13, 3) := by decide +kernel
theorem dX8_isOf_19 : decode cX8_isOf 19 = .ok (.iload_n 1, 1) := by decide +kernel
theorem dX8_isOf_20 : decode cX8_isOf 20 = .ok (.iconst 4, 1) := by decide +kernel
theorem dX8_isOf_21 : decode cX8_isOf 21 = .ok (.if_icmp .ne 12, 3) := by decide +kernel
theorem dX8_isOf_24 : decode cX8_isOf 24 = .ok (.iload_n 0, 1) := by decide +kernel
theorem dX8_isOf_25 : decode cX8_isOf 25 = .ok (.iconst 5, 1) := by decide +kernel
theorem dX8_isOf_26 : decode cX8_isOf 26 = .ok (.if_icmp .ne 7, 3) := by decide +kernel
theorem dX8_isOf_29 : decode cX8_isOf 29 = .ok (.iconst 1, 1) := by decide +kernel
theorem dX8_isOf_30 : decode cX8_isOf 30 = .ok (.goto 4, 3) := by decide +kernel
theorem dX8_isOf_33 : decode cX8_isOf 33 = .ok (.iconst 0, 1) := by decide +kernel
theorem dX8_isOf_34 : decode cX8_isOf 34 = .ok (.ireturn, 1) := by decide +kernel
theorem dX8_kind_0 : decode cX8_kind 0 = .ok (.aload_n 0, 1) := by decide +kernel
theorem dX8_kind_1 : decode cX8_kind 1 = .ok (.iconst 0, 1) := by decide +kernel
theorem dX8_kind_2 : decode cX8_kind 2 = .ok (.putfield 59, 3) := by decide +kernel
theorem dX8_kind_5 : decode cX8_kind 5 = .ok (.aload_n 0, 1) := by decide +kernel
theorem dX8_kind_6 : decode cX8_kind 6 = .ok (.iload_n 1, 1) := by decide +kernel
theorem dX8_kind_7 : decode cX8_kind 7 = .ok (.invokevirtual 242, 3) := by decide +kernel
theorem dX8_kind_10 : decode cX8_kind 10 = .ok (.ifCond .eq 12, 3) := by decide +kernel
theorem dX8_kind_13 : decode cX8_kind 13 = .ok (.aload_n 0, 1) := by decide +kernel
theorem dX8_kind_14 : decode cX8_kind 14 = .ok (.iload_n 1, 1) := by decide +kernel
theorem dX8_kind_15 : decode cX8_kind 15 = .ok (.iconst 0, 1) := by decide +kernel
theorem dX8_kind_16 : decode cX8_kind 16 = .ok (.invokevirtual 201, 3) := by decide +kernel
theorem dX8_kind_19 : decode cX8_kind 19 = .ok (.goto 5, 3) := by decide +kernel
theorem dX8_kind_22 : decode cX8_kind 22 = .ok (.ldc 79, 2) := by decide +kernel
theorem dX8_kind_24 : decode cX8_kind 24 = .ok (.ireturn, 1) := by decide +kernel
theorem dX8_as_0 : decode cX8_as 0 = .ok (.aload_n 0, 1) := by decide +kernel
theorem dX8_as_1 : decode cX8_as 1 = .ok (.iconst 0, 1) := by decide +kernel
theorem dX8_as_2 : decode cX8_as 2 = .ok (.putfield 59, 3) := by decide +kernel
theorem dX8_as_5 : decode cX8_as 5 = .ok (.aload_n 0, 1) := by decide +kernel
theorem dX8_as_6 : decode cX8_as 6 = .ok (.iload_n 1, 1) := by decide +kernel
theorem dX8_as_7 : decode cX8_as 7 = .ok (.invokevirtual 242, 3) := by decide +kernel
theorem dX8_as_10 : decode cX8_as 10 = .ok (.ifCond .eq 15, 3) := by decide +kernel
theorem dX8_as_13 : decode cX8_as 13 = .ok (.iload_n 2, 1) := by decide +kernel
theorem dX8_as_14 : decode cX8_as 14 = .ok (.i2l, 1) := by decide +kernel
theorem dX8_as_15 : decode cX8_as 15 = .ok (.lconst 0, 1) := by decide +kernel
theorem dX8_as_16 : decode cX8_as 16 = .ok (.ldc2_w 282, 3) := by decide +kernel
theorem dX8_as_19 : decode cX8_as 19 = .ok (.invokestatic 69, 3) := by decide +kernel
theorem dX8_as_22 : decode cX8_as 22 = .ok (.ifCond .ne 6, 3) := by decide +kernel
theorem dX8_as_25 : decode cX8_as 25 = .ok (.ldc 79, 2) := by decide +kernel
theorem dX8_as_27 : decode cX8_as 27 = .ok (.ireturn, 1) := by decide +kernel
theorem dX8_as_28 : decode cX8_as 28 = .ok (.aload_n 0, 1) := by decide +kernel
theorem dX8_as_29 : decode cX8_as 29 = .ok (.iconst 0, 1) := by decide +kernel
theorem dX8_as_30 : decode cX8_as 30 = .ok (.putfield 63, 3) := by decide +kernel
theorem dX8_as_33 : decode cX8_as 33 = .ok (.aload_n 0, 1) := by decide +kernel
theorem dX8_as_34 : decode cX8_as 34 = .ok (.iload_n 1, 1) := by decide +kernel
theorem dX8_as_35 : decode cX8_as 35 = .ok (.iconst 0, 1) := by decide +kernel
theorem dX8_as_36 : decode cX8_as 36 = .ok (.invokevirtual 201, 3) := by decide +kernel
theorem dX8_as_39 : decode cX8_as 39 = .ok (.iload_n 2, 1) := by decide +kernel
theorem dX8_as_40 : decode cX8_as 40 = .ok (.invokestatic 284, 3) := by decide +kernel
theorem dX8_as_43 : decode cX8_as 43 = .ok (.ifCond .eq 7, 3) := by decide +kernel
theorem dX8_as_46 : decode cX8_as 46 = .ok (.iload_n 1, 1) := by decide +kernel
theorem dX8_as_47 : decode cX8_as 47 = .ok (.goto 8, 3) := by decide +kernel
theorem dX8_as_50 : decode cX8_as 50 = .ok (.aload_n 0, 1) := by decide +kernel
theorem dX8_as_51 : decode cX8_as 51 = .ok (.iconst 3, 1) := by decide +kernel
theorem dX8_as_52 : decode cX8_as 52 = .ok (.invokevirtual 80, 3) := by decide +kernel
theorem dX8_as_55 : decode cX8_as 55 = .ok (.ireturn, 1) := by decide +kernel
theorem dX8_stepped_0 : decode cX8_stepped 0 = .ok (.aload_n 0, 1) := by decide +kernel
end
section
/-! decode rows: X8 -/
theorem dX8_stepped_1 : decode cX8_stepped 1 = .ok (.getfield 287, 3) := by decide +kernel
theorem dX8_stepped_4 : decode cX8_stepped 4 = .ok (.bipush 16, 2) := by decide +kernel
theorem dX8_stepped_6 : decode cX8_stepped 6 = .ok (.if_icmp .ge 23, 3) := by decide +kernel
theorem dX8_stepped_9 : decode cX8_stepped 9 = .ok (.aload_n 0, 1) := by decide +kernel
theorem dX8_stepped_10 : decode cX8_stepped 10 = .ok (.getfield 56, 3) := by decide +kernel
theorem dX8_stepped_13 : decode cX8_stepped 13 = .ok (.aload_n 0, 1) := by decide +kernel
theorem dX8_stepped_14 : decode cX8_stepped 14 = .ok (.getfield 287, 3) := by decide +kernel
theorem dX8_stepped_17 : decode cX8_stepped 17 = .ok (.iload_n 1, 1) := by decide +kernel
theorem dX8_stepped_18 : decode cX8_stepped 18 = .ok (.iastore, 1) := by decide +kernel
theorem dX8_stepped_19 : decode cX8_stepped 19 = .ok (.aload_n 0, 1) := by decide +kernel
theorem dX8_stepped_20 : decode cX8_stepped 20 = .ok (.dup, 1) := by decide +kernel
theorem dX8_stepped_21 : decode cX8_stepped 21 = .ok (.getfield 287, 3) := by decide +kernel
theorem dX8_stepped_24 : decode cX8_stepped 24 = .ok (.iconst 1, 1) := by decide +kernel
theorem dX8_stepped_25 : decode cX8_stepped 25 = .ok (.iadd, 1) := by decide +kernel
theorem dX8_stepped_26 : decode cX8_stepped 26 = .ok (.putfield 287, 3) := by decide +kernel
theorem dX8_stepped_29 : decode cX8_stepped 29 = .ok (.return_, 1) := by decide +kernel
theorem dX8_plainSize_0 : decode cX8_plainSize 0 = .ok (.aload_n 0, 1) := by decide +kernel
theorem dX8_plainSize_1 : decode cX8_plainSize 1 = .ok (.bipush 10, 2) := by decide +kernel
theorem dX8_plainSize_3 : decode cX8_plainSize 3 = .ok (.invokevirtual 290, 3) := by decide +kernel
theorem dX8_plainSize_6 : decode cX8_plainSize 6 = .ok (.aload_n 0, 1) := by decide +kernel
theorem dX8_plainSize_7 : decode cX8_plainSize 7 = .ok (.iload_n 1, 1) := by decide +kernel
theorem dX8_plainSize_8 : decode cX8_plainSize 8 = .ok (.iconst 2, 1) := by decide +kernel
theorem dX8_plainSize_9 : decode cX8_plainSize 9 = .ok (.invokevirtual 201, 3) := by decide +kernel
theorem dX8_plainSize_12 : decode cX8_plainSize 12 = .ok (.ireturn, 1) := by decide +kernel
theorem dX8_staySize_0 : decode cX8_staySize 0 = .ok (.aload_n 0, 1) := by decide +kernel
theorem dX8_staySize_1 : decode cX8_staySize 1 = .ok (.iload_n 1, 1) := by decide +kernel
theorem dX8_staySize_2 : decode cX8_staySize 2 = .ok (.iconst 0, 1) := by decide +kernel
theorem dX8_staySize_3 : decode cX8_staySize 3 = .ok (.invokevirtual 201, 3) := by decide +kernel
theorem dX8_staySize_6 : decode cX8_staySize 6 = .ok (.iconst 5, 1) := by decide +kernel
theorem dX8_staySize_7 : decode cX8_staySize 7 = .ok (.if_icmp .ne 9, 3) := by decide +kernel
theorem dX8_staySize_10 : decode cX8_staySize 10 = .ok (.aload_n 0, 1) := by decide +kernel
theorem dX8_staySize_11 : decode cX8_staySize 11 = .ok (.bipush 14, 2) := by decide +kernel
theorem dX8_staySize_13 : decode cX8_staySize 13 = .ok (.invokevirtual 290, 3) := by decide +kernel
theorem dX8_staySize_16 : decode cX8_staySize 16 = .ok (.aload_n 0, 1) := by decide +kernel
theorem dX8_staySize_17 : decode cX8_staySize 17 = .ok (.bipush 13, 2) := by decide +kernel
theorem dX8_staySize_19 : decode cX8_staySize 19 = .ok (.invokevirtual 290, 3) := by decide +kernel
theorem dX8_staySize_22 : decode cX8_staySize 22 = .ok (.aload_n 0, 1) := by decide +kernel
theorem dX8_staySize_23 : decode cX8_staySize 23 = .ok (.iload_n 1, 1) := by decide +kernel
theorem dX8_staySize_24 : decode cX8_staySize 24 = .ok (.invokevirtual 293, 3) := by decide +kernel
theorem dX8_staySize_27 : decode cX8_staySize 27 = .ok (.bipush 100, 2) := by decide +kernel
theorem dX8_staySize_29 : decode cX8_staySize 29 = .ok (.isub, 1) := by decide +kernel
theorem dX8_staySize_30 : decode cX8_staySize 30 = .ok (.istore_n 2, 1) := by decide +kernel
theorem dX8_staySize_31 : decode cX8_staySize 31 = .ok (.aload_n 0, 1) := by decide +kernel
theorem dX8_staySize_32 : decode cX8_staySize 32 = .ok (.iload_n 1, 1) := by decide +kernel
theorem dX8_staySize_33 : decode cX8_staySize 33 = .ok (.iconst 0, 1) := by decide +kernel
theorem dX8_staySize_34 : decode cX8_staySize 34 = .ok (.invokevirtual 201, 3) := by decide +kernel
theorem dX8_staySize_37 : decode cX8_staySize 37 = .ok (.iconst 5, 1) := by decide +kernel
theorem dX8_staySize_38 : decode cX8_staySize 38 = .ok (.if_icmp .ne 9, 3) := by decide +kernel
theorem dX8_staySize_41 : decode cX8_staySize 41 = .ok (.iconst 2, 1) := by decide +kernel
theorem dX8_staySize_42 : decode cX8_staySize 42 = .ok (.iload_n 2, 1) := by decide +kernel
theorem dX8_staySize_43 : decode cX8_staySize 43 = .ok (.imul, 1) := by decide +kernel
theorem dX8_staySize_44 : decode cX8_staySize 44 = .ok (.goto 4, 3) := by decide +kernel
theorem dX8_staySize_47 : decode cX8_staySize 47 = .ok (.iload_n 2, 1) := by decide +kernel
theorem dX8_staySize_48 : decode cX8_staySize 48 = .ok (.ireturn, 1) := by decide +kernel
theorem dX8_markOf_0 : decode cX8_markOf 0 = .ok (.aload_n 0, 1) := by decide +kernel
theorem dX8_markOf_1 : decode cX8_markOf 1 = .ok (.iload_n 1, 1) := by decide +kernel
theorem dX8_markOf_2 : decode cX8_markOf 2 = .ok (.iconst 0, 1) := by decide +kernel
theorem dX8_markOf_3 : decode cX8_markOf 3 = .ok (.invokevirtual 201, 3) := by decide +kernel
theorem dX8_markOf_6 : decode cX8_markOf 6 = .ok (.istore_n 2, 1) := by decide +kernel
theorem dX8_markOf_7 : decode cX8_markOf 7 = .ok (.iload_n 2, 1) := by decide +kernel
theorem dX8_markOf_8 : decode cX8_markOf 8 = .ok (.iconst 4, 1) := by decide +kernel
theorem dX8_markOf_9 : decode cX8_markOf 9 = .ok (.if_icmp .lt 23, 3) := by decide +kernel
theorem dX8_markOf_12 : decode cX8_markOf 12 = .ok (.aload_n 0, 1) := by decide +kernel
theorem dX8_markOf_13 : decode cX8_markOf 13 = .ok (.bipush 23, 2) := by decide +kernel
theorem dX8_markOf_15 : decode cX8_markOf 15 = .ok (.invokevirtual 290, 3) := by decide +kernel
theorem dX8_markOf_18 : decode cX8_markOf 18 = .ok (.aload_n 0, 1) := by decide +kernel
theorem dX8_markOf_19 : decode cX8_markOf 19 = .ok (.bipush 20, 2) := by decide +kernel
theorem dX8_markOf_21 : decode cX8_markOf 21 = .ok (.invokevirtual 290, 3) := by decide +kernel
theorem dX8_markOf_24 : decode cX8_markOf 24 = .ok (.iload_n 1, 1) := by decide +kernel
theorem dX8_markOf_25 : decode cX8_markOf 25 = .ok (.aload_n 0, 1) := by decide +kernel
theorem dX8_markOf_26 : decode cX8_markOf 26 = .ok (.iload_n 1, 1) := by decide +kernel
theorem dX8_markOf_27 : decode cX8_markOf 27 = .ok (.invokevirtual 296, 3) := by decide +kernel
theorem dX8_markOf_30 : decode cX8_markOf 30 = .ok (.isub, 1) := by decide +kernel
theorem dX8_markOf_31 : decode cX8_markOf 31 = .ok (.ireturn, 1) := by decide +kernel
theorem dX8_markOf_32 : decode cX8_markOf 32 = .ok (.iload_n 2, 1) := by decide +kernel
theorem dX8_markOf_33 : decode cX8_markOf 33 = .ok (.iconst 1, 1) := by decide +kernel
theorem dX8_markOf_34 : decode cX8_markOf 34 = .ok (.if_icmp .eq 19, 3) := by decide +kernel
theorem dX8_markOf_37 : decode cX8_markOf 37 = .ok (.aload_n 0, 1) := by decide +kernel
theorem dX8_markOf_38 : decode cX8_markOf 38 = .ok (.iload_n 2, 1) := by decide +kernel
theorem dX8_markOf_39 : decode cX8_markOf 39 = .ok (.iconst 3, 1) := by decide +kernel
theorem dX8_markOf_40 : decode cX8_markOf 40 = .ok (.if_icmp .ne 8, 3) := by decide +kernel
theorem dX8_markOf_43 : decode cX8_markOf 43 = .ok (.bipush 22, 2) := by decide +kernel
theorem dX8_markOf_45 : decode cX8_markOf 45 = .ok (.goto 5, 3) := by decide +kernel
theorem dX8_markOf_48 : decode cX8_markOf 48 = .ok (.bipush 24, 2) := by decide +kernel
theorem dX8_markOf_50 : decode cX8_markOf 50 = .ok (.invokevirtual 290, 3) := by decide +kernel
theorem dX8_markOf_53 : decode cX8_markOf 53 = .ok (.aload_n 0, 1) := by decide +kernel
theorem dX8_markOf_54 : decode cX8_markOf 54 = .ok (.bipush 21, 2) := by decide +kernel
theorem dX8_markOf_56 : decode cX8_markOf 56 = .ok (.invokevirtual 290, 3) := by decide +kernel
theorem dX8_markOf_59 : decode cX8_markOf 59 = .ok (.aload_n 0, 1) := by decide +kernel
theorem dX8_markOf_60 : decode cX8_markOf 60 = .ok (.bipush 20, 2) := by decide +kernel
theorem dX8_markOf_62 : decode cX8_markOf 62 = .ok (.invokevirtual 290, 3) := by decide +kernel
theorem dX8_markOf_65 : decode cX8_markOf 65 = .ok (.iload_n 1, 1) := by decide +kernel
theorem dX8_markOf_66 : decode cX8_markOf 66 = .ok (.aload_n 0, 1) := by decide +kernel
theorem dX8_markOf_67 : decode cX8_markOf 67 = .ok (.iload_n 1, 1) := by decide +kernel
theorem dX8_markOf_68 : decode cX8_markOf 68 = .ok (.iconst 1, 1) := by decide +kernel
theorem dX8_markOf_69 : decode cX8_markOf 69 = .ok (.invokevirtual 201, 3) := by decide +kernel
theorem dX8_markOf_72 : decode cX8_markOf 72 = .ok (.iadd, 1) := by decide +kernel
theorem dX8_markOf_73 : decode cX8_markOf 73 = .ok (.istore_n 3, 1) := by decide +kernel
theorem dX8_markOf_74 : decode cX8_markOf 74 = .ok (.iload_n 2, 1) := by decide +kernel
theorem dX8_markOf_75 : decode cX8_markOf 75 = .ok (.iconst 1, 1) := by decide +kernel
theorem dX8_markOf_76 : decode cX8_markOf 76 = .ok (.if_icmp .ne 7, 3) := by decide +kernel
theorem dX8_markOf_79 : decode cX8_markOf 79 = .ok (.iload_n 3, 1) := by decide +kernel
theorem dX8_markOf_80 : decode cX8_markOf 80 = .ok (.goto 19, 3) := by decide +kernel
theorem dX8_markOf_83 : decode cX8_markOf 83 = .ok (.iload_n 2, 1) := by decide +kernel
theorem dX8_markOf_84 : decode cX8_markOf 84 = .ok (.iconst 3, 1) := by decide +kernel
theorem dX8_markOf_85 : decode cX8_markOf 85 = .ok (.if_icmp .ne 11, 3) := by decide +kernel
theorem dX8_markOf_88 : decode cX8_markOf 88 = .ok (.iload_n 3, 1) := by decide +kernel
theorem dX8_markOf_89 : decode cX8_markOf 89 = .ok (.sipush 1000, 3) := by decide +kernel
theorem dX8_markOf_92 : decode cX8_markOf 92 = .ok (.isub, 1) := by decide +kernel
theorem dX8_markOf_93 : decode cX8_markOf 93 = .ok (.goto 6, 3) := by decide +kernel
theorem dX8_markOf_96 : decode cX8_markOf 96 = .ok (.iconst 2, 1) := by decide +kernel
theorem dX8_markOf_97 : decode cX8_markOf 97 = .ok (.iload_n 3, 1) := by decide +kernel
theorem dX8_markOf_98 : decode cX8_markOf 98 = .ok (.imul, 1) := by decide +kernel
theorem dX8_markOf_99 : decode cX8_markOf 99 = .ok (.ireturn, 1) := by decide +kernel
theorem dX8_sizeOf_0 : decode cX8_sizeOf 0 = .ok (.aload_n 0, 1) := by decide +kernel
theorem dX8_sizeOf_1 : decode cX8_sizeOf 1 = .ok (.iload_n 1, 1) := by decide +kernel
theorem dX8_sizeOf_2 : decode cX8_sizeOf 2 = .ok (.iconst 0, 1) := by decide +kernel
theorem dX8_sizeOf_3 : decode cX8_sizeOf 3 = .ok (.invokevirtual 201, 3) := by decide +kernel
theorem dX8_sizeOf_6 : decode cX8_sizeOf 6 = .ok (.istore_n 2, 1) := by decide +kernel
theorem dX8_sizeOf_7 : decode cX8_sizeOf 7 = .ok (.iload_n 2, 1) := by decide +kernel
theorem dX8_sizeOf_8 : decode cX8_sizeOf 8 = .ok (.iconst 4, 1) := by decide +kernel
theorem dX8_sizeOf_9 : decode cX8_sizeOf 9 = .ok (.if_icmp .lt 9, 3) := by decide +kernel
theorem dX8_sizeOf_12 : decode cX8_sizeOf 12 = .ok (.aload_n 0, 1) := by decide +kernel
theorem dX8_sizeOf_13 : decode cX8_sizeOf 13 = .ok (.iload_n 1, 1) := by decide +kernel
theorem dX8_sizeOf_14 : decode cX8_sizeOf 14 = .ok (.invokevirtual 296, 3) := by decide +kernel
theorem dX8_sizeOf_17 : decode cX8_sizeOf 17 = .ok (.ireturn, 1) := by decide +kernel
theorem dX8_sizeOf_18 : decode cX8_sizeOf 18 = .ok (.iload_n 2, 1) := by decide +kernel
theorem dX8_sizeOf_19 : decode cX8_sizeOf 19 = .ok (.iconst 2, 1) := by decide +kernel
theorem dX8_sizeOf_20 : decode cX8_sizeOf 20 = .ok (.if_icmp .ne 9, 3) := by decide +kernel
theorem dX8_sizeOf_23 : decode cX8_sizeOf 23 = .ok (.aload_n 0, 1) := by decide +kernel
theorem dX8_sizeOf_24 : decode cX8_sizeOf 24 = .ok (.bipush 12, 2) := by decide +kernel
theorem dX8_sizeOf_26 : decode cX8_sizeOf 26 = .ok (.invokevirtual 290, 3) := by decide +kernel
theorem dX8_sizeOf_29 : decode cX8_sizeOf 29 = .ok (.aload_n 0, 1) := by decide +kernel
theorem dX8_sizeOf_30 : decode cX8_sizeOf 30 = .ok (.bipush 11, 2) := by decide +kernel
theorem dX8_sizeOf_32 : decode cX8_sizeOf 32 = .ok (.invokevirtual 290, 3) := by decide +kernel
theorem dX8_sizeOf_35 : decode cX8_sizeOf 35 = .ok (.aload_n 0, 1) := by decide +kernel
theorem dX8_sizeOf_36 : decode cX8_sizeOf 36 = .ok (.iload_n 1, 1) := by decide +kernel
theorem dX8_sizeOf_37 : decode cX8_sizeOf 37 = .ok (.invokevirtual 293, 3) := by decide +kernel
theorem dX8_sizeOf_40 : decode cX8_sizeOf 40 = .ok (.istore_n 3, 1) := by decide +kernel
theorem dX8_sizeOf_41 : decode cX8_sizeOf 41 = .ok (.iload_n 3, 1) := by decide +kernel
theorem dX8_sizeOf_42 : decode cX8_sizeOf 42 = .ok (.aload_n 0, 1) := by decide +kernel
theorem dX8_sizeOf_43 : decode cX8_sizeOf 43 = .ok (.iload_n 1, 1) := by decide +kernel
theorem dX8_sizeOf_44 : decode cX8_sizeOf 44 = .ok (.invokevirtual 299, 3) := by decide +kernel
theorem dX8_sizeOf_47 : decode cX8_sizeOf 47 = .ok (.iadd, 1) := by decide +kernel
theorem dX8_sizeOf_48 : decode cX8_sizeOf 48 = .ok (.istore_n 3, 1) := by decide +kernel
theorem dX8_sizeOf_49 : decode cX8_sizeOf 49 = .ok (.iload_n 2, 1) := by decide +kernel
theorem dX8_sizeOf_50 : decode cX8_sizeOf 50 = .ok (.iconst 2, 1) := by decide +kernel
theorem dX8_sizeOf_51 : decode cX8_sizeOf 51 = .ok (.if_icmp .ne 8, 3) := by decide +kernel
theorem dX8_sizeOf_54 : decode cX8_sizeOf 54 = .ok (.iload_n 3, 1) := by decide +kernel
theorem dX8_sizeOf_55 : decode cX8_sizeOf 55 = .ok (.ineg, 1) := by decide +kernel
theorem dX8_sizeOf_56 : decode cX8_sizeOf 56 = .ok (.goto 4, 3) := by decide +kernel
theorem dX8_sizeOf_59 : decode cX8_sizeOf 59 = .ok (.iload_n 3, 1) := by decide +kernel
theorem dX8_sizeOf_60 : decode cX8_sizeOf 60 = .ok (.ireturn, 1) := by decide +kernel
theorem dX8_ask_0 : decode cX8_ask 0 = .ok (.aload_n 0, 1) := by decide +kernel
theorem dX8_ask_1 : decode cX8_ask 1 = .ok (.iconst 0, 1) := by decide +kernel
theorem dX8_ask_2 : decode cX8_ask 2 = .ok (.putfield 59, 3) := by decide +kernel
theorem dX8_ask_5 : decode cX8_ask 5 = .ok (.aload_n 0, 1) := by decide +kernel
theorem dX8_ask_6 : decode cX8_ask 6 = .ok (.iload_n 1, 1) := by decide +kernel
theorem dX8_ask_7 : decode cX8_ask 7 = .ok (.invokevirtual 242, 3) := by decide +kernel
theorem dX8_ask_10 : decode cX8_ask 10 = .ok (.ifCond .eq 13, 3) := by decide +kernel
theorem dX8_ask_13 : decode cX8_ask 13 = .ok (.iload_n 2, 1) := by decide +kernel
theorem dX8_ask_14 : decode cX8_ask 14 = .ok (.i2l, 1) := by decide +kernel
theorem dX8_ask_15 : decode cX8_ask 15 = .ok (.lconst 0, 1) := by decide +kernel
theorem dX8_ask_16 : decode cX8_ask 16 = .ok (.lconst 1, 1) := by decide +kernel
theorem dX8_ask_17 : decode cX8_ask 17 = .ok (.invokestatic 69, 3) := by decide +kernel
theorem dX8_ask_20 : decode cX8_ask 20 = .ok (.ifCond .ne 6, 3) := by decide +kernel
theorem dX8_ask_23 : decode cX8_ask 23 = .ok (.ldc 79, 2) := by decide +kernel
theorem dX8_ask_25 : decode cX8_ask 25 = .ok (.ireturn, 1) := by decide +kernel
theorem dX8_ask_26 : decode cX8_ask 26 = .ok (.aload_n 0, 1) := by decide +kernel
theorem dX8_ask_27 : decode cX8_ask 27 = .ok (.iconst 0, 1) := by decide +kernel
theorem dX8_ask_28 : decode cX8_ask 28 = .ok (.putfield 287, 3) := by decide +kernel
theorem dX8_ask_31 : decode cX8_ask 31 = .ok (.iload_n 2, 1) := by decide +kernel
theorem dX8_ask_32 : decode cX8_ask 32 = .ok (.ifCond .ne 11, 3) := by decide +kernel
theorem dX8_ask_35 : decode cX8_ask 35 = .ok (.aload_n 0, 1) := by decide +kernel
theorem dX8_ask_36 : decode cX8_ask 36 = .ok (.iload_n 1, 1) := by decide +kernel
theorem dX8_ask_37 : decode cX8_ask 37 = .ok (.invokevirtual 302, 3) := by decide +kernel
theorem dX8_ask_40 : decode cX8_ask 40 = .ok (.goto 8, 3) := by decide +kernel
theorem dX8_ask_43 : decode cX8_ask 43 = .ok (.aload_n 0, 1) := by decide +kernel
theorem dX8_ask_44 : decode cX8_ask 44 = .ok (.iload_n 1, 1) := by decide +kernel
theorem dX8_ask_45 : decode cX8_ask 45 = .ok (.invokevirtual 299, 3) := by decide +kernel
theorem dX8_ask_48 : decode cX8_ask 48 = .ok (.ireturn, 1) := by decide +kernel
theorem dX8_trace_0 : decode cX8_trace 0 = .ok (.aload_n 0, 1) := by decide +kernel
theorem dX8_trace_1 : decode cX8_trace 1 = .ok (.iconst 0, 1) := by decide +kernel
theorem dX8_trace_2 : decode cX8_trace 2 = .ok (.putfield 59, 3) := by decide +kernel
theorem dX8_trace_5 : decode cX8_trace 5 = .ok (.iload_n 1, 1) := by decide +kernel
theorem dX8_trace_6 : decode cX8_trace 6 = .ok (.i2l, 1) := by decide +kernel
theorem dX8_trace_7 : decode cX8_trace 7 = .ok (.lconst 0, 1) := by decide +kernel
theorem dX8_trace_8 : decode cX8_trace 8 = .ok (.aload_n 0, 1) := by decide +kernel
theorem dX8_trace_9 : decode cX8_trace 9 = .ok (.getfield 287, 3) := by decide +kernel
theorem dX8_trace_12 : decode cX8_trace 12 = .ok (.iconst 1, 1) := by decide +kernel
theorem dX8_trace_13 : decode cX8_trace 13 = .ok (.isub, 1) := by decide +kernel
theorem dX8_trace_14 : decode cX8_trace 14 = .ok (.i2l, 1) := by decide +kernel
theorem dX8_trace_15 : decode cX8_trace 15 = .ok (.invokestatic 69, 3) := by decide +kernel
theorem dX8_trace_18 : decode cX8_trace 18 = .ok (.ifCond .eq 12, 3) := by decide +kernel
theorem dX8_trace_21 : decode cX8_trace 21 = .ok (.aload_n 0, 1) := by decide +kernel
theorem dX8_trace_22 : decode cX8_trace 22 = .ok (.getfield 56, 3) := by decide +kernel
theorem dX8_trace_25 : decode cX8_trace 25 = .ok (.iload_n 1, 1) := by decide +kernel
theorem dX8_trace_26 : decode cX8_trace 26 = .ok (.iaload, 1) := by decide +kernel
theorem dX8_trace_27 : decode cX8_trace 27 = .ok (.goto 5, 3) := by decide +kernel
theorem dX8_trace_30 : decode cX8_trace 30 = .ok (.ldc 95, 2) := by decide +kernel
theorem dX8_trace_32 : decode cX8_trace 32 = .ok (.ireturn, 1) := by decide +kernel
theorem dX8_count_0 : decode cX8_count 0 = .ok (.aload_n 0, 1) := by decide +kernel
theorem dX8_count_1 : decode cX8_count 1 = .ok (.iconst 0, 1) := by decide +kernel
theorem dX8_count_2 : decode cX8_count 2 = .ok (.putfield 59, 3) := by decide +kernel
theorem dX8_count_5 : decode cX8_count 5 = .ok (.iconst 0, 1) := by decide +kernel
theorem dX8_count_6 : decode cX8_count 6 = .ok (.istore_n 2, 1) := by decide +kernel
theorem dX8_count_7 : decode cX8_count 7 = .ok (.iload_n 1, 1) := by decide +kernel
theorem dX8_count_8 : decode cX8_count 8 = .ok (.tableswitch 113 0 6 #[44, 77, 84, 91, 98, 103, 108], 44) := by decide +kernel
theorem dX8_count_52 : decode cX8_count 52 = .ok (.iconst 0, 1) := by decide +kernel
theorem dX8_count_53 : decode cX8_count 53 = .ok (.istore_n 3, 1) := by decide +kernel
theorem dX8_count_54 : decode cX8_count 54 = .ok (.iload_n 3, 1) := by decide +kernel
theorem dX8_count_55 : decode cX8_count 55 = .ok (.bipush 8, 2) := by decide +kernel
theorem dX8_count_57 : decode cX8_count 57 = .ok (.if_icmp .ge 26, 3) := by decide +kernel
theorem dX8_count_60 : decode cX8_count 60 = .ok (.iload_n 2, 1) := by decide +kernel
theorem dX8_count_61 : decode cX8_count 61 = .ok (.aload_n 0, 1) := by decide +kernel
theorem dX8_count_62 : decode cX8_count 62 = .ok (.getfield 7, 3) := by decide +kernel
theorem dX8_count_65 : decode cX8_count 65 = .ok (.iload_n 3, 1) := by decide +kernel
theorem dX8_count_66 : decode cX8_count 66 = .ok (.iaload, 1) := by decide +kernel
theorem dX8_count_67 : decode cX8_count 67 = .ok (.ifCond .lt 7, 3) := by decide +kernel
theorem dX8_count_70 : decode cX8_count 70 = .ok (.iconst 1, 1) := by decide +kernel
theorem dX8_count_71 : decode cX8_count 71 = .ok (.goto 4, 3) := by decide +kernel
theorem dX8_count_74 : decode cX8_count 74 = .ok (.iconst 0, 1) := by decide +kernel
theorem dX8_count_75 : decode cX8_count 75 = .ok (.iadd, 1) := by decide +kernel
theorem dX8_count_76 : decode cX8_count 76 = .ok (.istore_n 2, 1) := by decide +kernel
theorem dX8_count_77 : decode cX8_count 77 = .ok (.iinc 3 1, 3) := by decide +kernel
theorem dX8_count_80 : decode cX8_count 80 = .ok (.goto (-26), 3) := by decide +kernel
theorem dX8_count_83 : decode cX8_count 83 = .ok (.iload_n 2, 1) := by decide +kernel
theorem dX8_count_84 : decode cX8_count 84 = .ok (.ireturn, 1) := by decide +kernel
theorem dX8_count_85 : decode cX8_count 85 = .ok (.aload_n 0, 1) := by decide +kernel
theorem dX8_count_86 : decode cX8_count 86 = .ok (.getfield 19, 3) := by decide +kernel
theorem dX8_count_89 : decode cX8_count 89 = .ok (.iconst 0, 1) := by decide +kernel
theorem dX8_count_90 : decode cX8_count 90 = .ok (.iaload, 1) := by decide +kernel
theorem dX8_count_91 : decode cX8_count 91 = .ok (.ireturn, 1) := by decide +kernel
theorem dX8_count_92 : decode cX8_count 92 = .ok (.aload_n 0, 1) := by decide +kernel
theorem dX8_count_93 : decode cX8_count 93 = .ok (.getfield 19, 3) := by decide +kernel
theorem dX8_count_96 : decode cX8_count 96 = .ok (.iconst 2, 1) := by decide +kernel
theorem dX8_count_97 : decode cX8_count 97 = .ok (.iaload, 1) := by decide +kernel
theorem dX8_count_98 : decode cX8_count 98 = .ok (.ireturn, 1) := by decide +kernel
theorem dX8_count_99 : decode cX8_count 99 = .ok (.aload_n 0, 1) := by decide +kernel
theorem dX8_count_100 : decode cX8_count 100 = .ok (.getfield 19, 3) := by decide +kernel
theorem dX8_count_103 : decode cX8_count 103 = .ok (.iconst 3, 1) := by decide +kernel
theorem dX8_count_104 : decode cX8_count 104 = .ok (.iaload, 1) := by decide +kernel
theorem dX8_count_105 : decode cX8_count 105 = .ok (.ireturn, 1) := by decide +kernel
theorem dX8_count_106 : decode cX8_count 106 = .ok (.aload_n 0, 1) := by decide +kernel
theorem dX8_count_107 : decode cX8_count 107 = .ok (.getfield 189, 3) := by decide +kernel
theorem dX8_count_110 : decode cX8_count 110 = .ok (.ireturn, 1) := by decide +kernel
theorem dX8_count_111 : decode cX8_count 111 = .ok (.aload_n 0, 1) := by decide +kernel
theorem dX8_count_112 : decode cX8_count 112 = .ok (.invokevirtual 236, 3) := by decide +kernel
theorem dX8_count_115 : decode cX8_count 115 = .ok (.ireturn, 1) := by decide +kernel
theorem dX8_count_116 : decode cX8_count 116 = .ok (.aload_n 0, 1) := by decide +kernel
theorem dX8_count_117 : decode cX8_count 117 = .ok (.getfield 86, 3) := by decide +kernel
theorem dX8_count_120 : decode cX8_count 120 = .ok (.ireturn, 1) := by decide +kernel
theorem dX8_count_121 : decode cX8_count 121 = .ok (.ldc 79, 2) := by decide +kernel
theorem dX8_count_123 : decode cX8_count 123 = .ok (.ireturn, 1) := by decide +kernel
theorem dX8_status_0 : decode cX8_status 0 = .ok (.aload_n 0, 1) := by decide +kernel
theorem dX8_status_1 : decode cX8_status 1 = .ok (.iconst 0, 1) := by decide +kernel
theorem dX8_status_2 : decode cX8_status 2 = .ok (.putfield 59, 3) := by decide +kernel
theorem dX8_status_5 : decode cX8_status 5 = .ok (.aload_n 0, 1) := by decide +kernel
theorem dX8_status_6 : decode cX8_status 6 = .ok (.getfield 63, 3) := by decide +kernel
theorem dX8_status_9 : decode cX8_status 9 = .ok (.ireturn, 1) := by decide +kernel
end
section
/-! decode rows: L -/
theorem dL_law_0 : decode cL_law 0 = .ok (.new 7, 3) := by decide +kernel
theorem dL_law_3 : decode cL_law 3 = .ok (.dup, 1) := by decide +kernel
theorem dL_law_4 : decode cL_law 4 = .ok (.invokespecial 9, 3) := by decide +kernel
theorem dL_law_7 : decode cL_law 7 = .ok (.astore_n 1, 1) := by decide +kernel
theorem dL_law_8 : decode cL_law 8 = .ok (.new 10, 3) := by decide +kernel
theorem dL_law_11 : decode cL_law 11 = .ok (.dup, 1) := by decide +kernel
theorem dL_law_12 : decode cL_law 12 = .ok (.invokespecial 12, 3) := by decide +kernel
theorem dL_law_15 : decode cL_law 15 = .ok (.astore_n 2, 1) := by decide +kernel
theorem dL_law_16 : decode cL_law 16 = .ok (.iconst 0, 1) := by decide +kernel
theorem dL_law_17 : decode cL_law 17 = .ok (.istore_n 3, 1) := by decide +kernel
theorem dL_law_18 : decode cL_law 18 = .ok (.iload_n 3, 1) := by decide +kernel
theorem dL_law_19 : decode cL_law 19 = .ok (.aload_n 0, 1) := by decide +kernel
theorem dL_law_20 : decode cL_law 20 = .ok (.arraylength, 1) := by decide +kernel
theorem dL_law_21 : decode cL_law 21 = .ok (.bipush 6, 2) := by decide +kernel
theorem dL_law_23 : decode cL_law 23 = .ok (.isub, 1) := by decide +kernel
theorem dL_law_24 : decode cL_law 24 = .ok (.if_icmp .gt 1073, 3) := by decide +kernel
theorem dL_law_27 : decode cL_law 27 = .ok (.aload_n 0, 1) := by decide +kernel
theorem dL_law_28 : decode cL_law 28 = .ok (.iload_n 3, 1) := by decide +kernel
theorem dL_law_29 : decode cL_law 29 = .ok (.iaload, 1) := by decide +kernel
theorem dL_law_30 : decode cL_law 30 = .ok (.bipush 31, 2) := by decide +kernel
theorem dL_law_32 : decode cL_law 32 = .ok (.iand, 1) := by decide +kernel
theorem dL_law_33 : decode cL_law 33 = .ok (.tableswitch 1058 0 28 #[131, 174, 217, 280, 303, 366, 379, 392, 405, 448, 491, 524, 537, 570, 603, 636, 679, 702, 745, 788, 831, 864, 887, 910, 933, 966, 999, 1022, 1045], 131) := by decide +kernel
theorem dL_law_164 : decode cL_law 164 = .ok (.aload_n 1, 1) := by decide +kernel
theorem dL_law_165 : decode cL_law 165 = .ok (.aload_n 0, 1) := by decide +kernel
theorem dL_law_166 : decode cL_law 166 = .ok (.iload_n 3, 1) := by decide +kernel
theorem dL_law_167 : decode cL_law 167 = .ok (.iconst 1, 1) := by decide +kernel
theorem dL_law_168 : decode cL_law 168 = .ok (.iadd, 1) := by decide +kernel
theorem dL_law_169 : decode cL_law 169 = .ok (.iaload, 1) := by decide +kernel
theorem dL_law_170 : decode cL_law 170 = .ok (.aload_n 0, 1) := by decide +kernel
theorem dL_law_171 : decode cL_law 171 = .ok (.iload_n 3, 1) := by decide +kernel
theorem dL_law_172 : decode cL_law 172 = .ok (.iconst 2, 1) := by decide +kernel
theorem dL_law_173 : decode cL_law 173 = .ok (.iadd, 1) := by decide +kernel
theorem dL_law_174 : decode cL_law 174 = .ok (.iaload, 1) := by decide +kernel
theorem dL_law_175 : decode cL_law 175 = .ok (.aload_n 0, 1) := by decide +kernel
theorem dL_law_176 : decode cL_law 176 = .ok (.iload_n 3, 1) := by decide +kernel
theorem dL_law_177 : decode cL_law 177 = .ok (.iconst 3, 1) := by decide +kernel
theorem dL_law_178 : decode cL_law 178 = .ok (.iadd, 1) := by decide +kernel
theorem dL_law_179 : decode cL_law 179 = .ok (.iaload, 1) := by decide +kernel
theorem dL_law_180 : decode cL_law 180 = .ok (.invokevirtual 13, 3) := by decide +kernel
theorem dL_law_183 : decode cL_law 183 = .ok (.aload_n 2, 1) := by decide +kernel
theorem dL_law_184 : decode cL_law 184 = .ok (.aload_n 0, 1) := by decide +kernel
theorem dL_law_185 : decode cL_law 185 = .ok (.iload_n 3, 1) := by decide +kernel
theorem dL_law_186 : decode cL_law 186 = .ok (.iconst 1, 1) := by decide +kernel
theorem dL_law_187 : decode cL_law 187 = .ok (.iadd, 1) := by decide +kernel
theorem dL_law_188 : decode cL_law 188 = .ok (.iaload, 1) := by decide +kernel
theorem dL_law_189 : decode cL_law 189 = .ok (.aload_n 0, 1) := by decide +kernel
theorem dL_law_190 : decode cL_law 190 = .ok (.iload_n 3, 1) := by decide +kernel
theorem dL_law_191 : decode cL_law 191 = .ok (.iconst 2, 1) := by decide +kernel
theorem dL_law_192 : decode cL_law 192 = .ok (.iadd, 1) := by decide +kernel
theorem dL_law_193 : decode cL_law 193 = .ok (.iaload, 1) := by decide +kernel
theorem dL_law_194 : decode cL_law 194 = .ok (.aload_n 0, 1) := by decide +kernel
theorem dL_law_195 : decode cL_law 195 = .ok (.iload_n 3, 1) := by decide +kernel
theorem dL_law_196 : decode cL_law 196 = .ok (.iconst 3, 1) := by decide +kernel
theorem dL_law_197 : decode cL_law 197 = .ok (.iadd, 1) := by decide +kernel
theorem dL_law_198 : decode cL_law 198 = .ok (.iaload, 1) := by decide +kernel
theorem dL_law_199 : decode cL_law 199 = .ok (.invokevirtual 17, 3) := by decide +kernel
theorem dL_law_202 : decode cL_law 202 = .ok (.if_icmp .eq 889, 3) := by decide +kernel
theorem dL_law_205 : decode cL_law 205 = .ok (.iconst 0, 1) := by decide +kernel
theorem dL_law_206 : decode cL_law 206 = .ok (.ireturn, 1) := by decide +kernel
theorem dL_law_207 : decode cL_law 207 = .ok (.aload_n 1, 1) := by decide +kernel
theorem dL_law_208 : decode cL_law 208 = .ok (.aload_n 0, 1) := by decide +kernel
theorem dL_law_209 : decode cL_law 209 = .ok (.iload_n 3, 1) := by decide +kernel
theorem dL_law_210 : decode cL_law 210 = .ok (.iconst 1, 1) := by decide +kernel
theorem dL_law_211 : decode cL_law 211 = .ok (.iadd, 1) := by decide +kernel
theorem dL_law_212 : decode cL_law 212 = .ok (.iaload, 1) := by decide +kernel
theorem dL_law_213 : decode cL_law 213 = .ok (.aload_n 0, 1) := by decide +kernel
theorem dL_law_214 : decode cL_law 214 = .ok (.iload_n 3, 1) := by decide +kernel
theorem dL_law_215 : decode cL_law 215 = .ok (.iconst 2, 1) := by decide +kernel
theorem dL_law_216 : decode cL_law 216 = .ok (.iadd, 1) := by decide +kernel
theorem dL_law_217 : decode cL_law 217 = .ok (.iaload, 1) := by decide +kernel
theorem dL_law_218 : decode cL_law 218 = .ok (.aload_n 0, 1) := by decide +kernel
theorem dL_law_219 : decode cL_law 219 = .ok (.iload_n 3, 1) := by decide +kernel
theorem dL_law_220 : decode cL_law 220 = .ok (.iconst 3, 1) := by decide +kernel
theorem dL_law_221 : decode cL_law 221 = .ok (.iadd, 1) := by decide +kernel
theorem dL_law_222 : decode cL_law 222 = .ok (.iaload, 1) := by decide +kernel
theorem dL_law_223 : decode cL_law 223 = .ok (.invokevirtual 18, 3) := by decide +kernel
theorem dL_law_226 : decode cL_law 226 = .ok (.aload_n 2, 1) := by decide +kernel
theorem dL_law_227 : decode cL_law 227 = .ok (.aload_n 0, 1) := by decide +kernel
theorem dL_law_228 : decode cL_law 228 = .ok (.iload_n 3, 1) := by decide +kernel
theorem dL_law_229 : decode cL_law 229 = .ok (.iconst 1, 1) := by decide +kernel
theorem dL_law_230 : decode cL_law 230 = .ok (.iadd, 1) := by decide +kernel
theorem dL_law_231 : decode cL_law 231 = .ok (.iaload, 1) := by decide +kernel
theorem dL_law_232 : decode cL_law 232 = .ok (.aload_n 0, 1) := by decide +kernel
theorem dL_law_233 : decode cL_law 233 = .ok (.iload_n 3, 1) := by decide +kernel
theorem dL_law_234 : decode cL_law 234 = .ok (.iconst 2, 1) := by decide +kernel
theorem dL_law_235 : decode cL_law 235 = .ok (.iadd, 1) := by decide +kernel
theorem dL_law_236 : decode cL_law 236 = .ok (.iaload, 1) := by decide +kernel
theorem dL_law_237 : decode cL_law 237 = .ok (.aload_n 0, 1) := by decide +kernel
theorem dL_law_238 : decode cL_law 238 = .ok (.iload_n 3, 1) := by decide +kernel
theorem dL_law_239 : decode cL_law 239 = .ok (.iconst 3, 1) := by decide +kernel
theorem dL_law_240 : decode cL_law 240 = .ok (.iadd, 1) := by decide +kernel
theorem dL_law_241 : decode cL_law 241 = .ok (.iaload, 1) := by decide +kernel
theorem dL_law_242 : decode cL_law 242 = .ok (.invokevirtual 21, 3) := by decide +kernel
theorem dL_law_245 : decode cL_law 245 = .ok (.if_icmp .eq 846, 3) := by decide +kernel
theorem dL_law_248 : decode cL_law 248 = .ok (.iconst 0, 1) := by decide +kernel
theorem dL_law_249 : decode cL_law 249 = .ok (.ireturn, 1) := by decide +kernel
theorem dL_law_250 : decode cL_law 250 = .ok (.aload_n 1, 1) := by decide +kernel
theorem dL_law_251 : decode cL_law 251 = .ok (.aload_n 0, 1) := by decide +kernel
theorem dL_law_252 : decode cL_law 252 = .ok (.iload_n 3, 1) := by decide +kernel
theorem dL_law_253 : decode cL_law 253 = .ok (.iconst 1, 1) := by decide +kernel
theorem dL_law_254 : decode cL_law 254 = .ok (.iadd, 1) := by decide +kernel
theorem dL_law_255 : decode cL_law 255 = .ok (.iaload, 1) := by decide +kernel
theorem dL_law_256 : decode cL_law 256 = .ok (.aload_n 0, 1) := by decide +kernel
theorem dL_law_257 : decode cL_law 257 = .ok (.iload_n 3, 1) := by decide +kernel
theorem dL_law_258 : decode cL_law 258 = .ok (.iconst 2, 1) := by decide +kernel
theorem dL_law_259 : decode cL_law 259 = .ok (.iadd, 1) := by decide +kernel
theorem dL_law_260 : decode cL_law 260 = .ok (.iaload, 1) := by decide +kernel
theorem dL_law_261 : decode cL_law 261 = .ok (.aload_n 0, 1) := by decide +kernel
theorem dL_law_262 : decode cL_law 262 = .ok (.iload_n 3, 1) := by decide +kernel
theorem dL_law_263 : decode cL_law 263 = .ok (.iconst 3, 1) := by decide +kernel
theorem dL_law_264 : decode cL_law 264 = .ok (.iadd, 1) := by decide +kernel
theorem dL_law_265 : decode cL_law 265 = .ok (.iaload, 1) := by decide +kernel
theorem dL_law_266 : decode cL_law 266 = .ok (.aload_n 0, 1) := by decide +kernel
theorem dL_law_267 : decode cL_law 267 = .ok (.iload_n 3, 1) := by decide +kernel
theorem dL_law_268 : decode cL_law 268 = .ok (.iconst 4, 1) := by decide +kernel
theorem dL_law_269 : decode cL_law 269 = .ok (.iadd, 1) := by decide +kernel
theorem dL_law_270 : decode cL_law 270 = .ok (.iaload, 1) := by decide +kernel
theorem dL_law_271 : decode cL_law 271 = .ok (.aload_n 0, 1) := by decide +kernel
theorem dL_law_272 : decode cL_law 272 = .ok (.iload_n 3, 1) := by decide +kernel
theorem dL_law_273 : decode cL_law 273 = .ok (.iconst 5, 1) := by decide +kernel
theorem dL_law_274 : decode cL_law 274 = .ok (.iadd, 1) := by decide +kernel
theorem dL_law_275 : decode cL_law 275 = .ok (.iaload, 1) := by decide +kernel
theorem dL_law_276 : decode cL_law 276 = .ok (.invokevirtual 22, 3) := by decide +kernel
theorem dL_law_279 : decode cL_law 279 = .ok (.aload_n 2, 1) := by decide +kernel
theorem dL_law_280 : decode cL_law 280 = .ok (.aload_n 0, 1) := by decide +kernel
theorem dL_law_281 : decode cL_law 281 = .ok (.iload_n 3, 1) := by decide +kernel
theorem dL_law_282 : decode cL_law 282 = .ok (.iconst 1, 1) := by decide +kernel
theorem dL_law_283 : decode cL_law 283 = .ok (.iadd, 1) := by decide +kernel
theorem dL_law_284 : decode cL_law 284 = .ok (.iaload, 1) := by decide +kernel
theorem dL_law_285 : decode cL_law 285 = .ok (.aload_n 0, 1) := by decide +kernel
theorem dL_law_286 : decode cL_law 286 = .ok (.iload_n 3, 1) := by decide +kernel
theorem dL_law_287 : decode cL_law 287 = .ok (.iconst 2, 1) := by decide +kernel
theorem dL_law_288 : decode cL_law 288 = .ok (.iadd, 1) := by decide +kernel
theorem dL_law_289 : decode cL_law 289 = .ok (.iaload, 1) := by decide +kernel
theorem dL_law_290 : decode cL_law 290 = .ok (.aload_n 0, 1) := by decide +kernel
theorem dL_law_291 : decode cL_law 291 = .ok (.iload_n 3, 1) := by decide +kernel
theorem dL_law_292 : decode cL_law 292 = .ok (.iconst 3, 1) := by decide +kernel
theorem dL_law_293 : decode cL_law 293 = .ok (.iadd, 1) := by decide +kernel
theorem dL_law_294 : decode cL_law 294 = .ok (.iaload, 1) := by decide +kernel
theorem dL_law_295 : decode cL_law 295 = .ok (.aload_n 0, 1) := by decide +kernel
theorem dL_law_296 : decode cL_law 296 = .ok (.iload_n 3, 1) := by decide +kernel
theorem dL_law_297 : decode cL_law 297 = .ok (.iconst 4, 1) := by decide +kernel
theorem dL_law_298 : decode cL_law 298 = .ok (.iadd, 1) := by decide +kernel
theorem dL_law_299 : decode cL_law 299 = .ok (.iaload, 1) := by decide +kernel
theorem dL_law_300 : decode cL_law 300 = .ok (.aload_n 0, 1) := by decide +kernel
theorem dL_law_301 : decode cL_law 301 = .ok (.iload_n 3, 1) := by decide +kernel
theorem dL_law_302 : decode cL_law 302 = .ok (.iconst 5, 1) := by decide +kernel
theorem dL_law_303 : decode cL_law 303 = .ok (.iadd, 1) := by decide +kernel
theorem dL_law_304 : decode cL_law 304 = .ok (.iaload, 1) := by decide +kernel
theorem dL_law_305 : decode cL_law 305 = .ok (.invokevirtual 26, 3) := by decide +kernel
theorem dL_law_308 : decode cL_law 308 = .ok (.if_icmp .eq 783, 3) := by decide +kernel
theorem dL_law_311 : decode cL_law 311 = .ok (.iconst 0, 1) := by decide +kernel
theorem dL_law_312 : decode cL_law 312 = .ok (.ireturn, 1) := by decide +kernel
theorem dL_law_313 : decode cL_law 313 = .ok (.aload_n 1, 1) := by decide +kernel
theorem dL_law_314 : decode cL_law 314 = .ok (.aload_n 0, 1) := by decide +kernel
theorem dL_law_315 : decode cL_law 315 = .ok (.iload_n 3, 1) := by decide +kernel
theorem dL_law_316 : decode cL_law 316 = .ok (.iconst 1, 1) := by decide +kernel
theorem dL_law_317 : decode cL_law 317 = .ok (.iadd, 1) := by decide +kernel
theorem dL_law_318 : decode cL_law 318 = .ok (.iaload, 1) := by decide +kernel
theorem dL_law_319 : decode cL_law 319 = .ok (.invokevirtual 27, 3) := by decide +kernel
theorem dL_law_322 : decode cL_law 322 = .ok (.aload_n 2, 1) := by decide +kernel
theorem dL_law_323 : decode cL_law 323 = .ok (.aload_n 0, 1) := by decide +kernel
theorem dL_law_324 : decode cL_law 324 = .ok (.iload_n 3, 1) := by decide +kernel
theorem dL_law_325 : decode cL_law 325 = .ok (.iconst 1, 1) := by decide +kernel
theorem dL_law_326 : decode cL_law 326 = .ok (.iadd, 1) := by decide +kernel
theorem dL_law_327 : decode cL_law 327 = .ok (.iaload, 1) := by decide +kernel
theorem dL_law_328 : decode cL_law 328 = .ok (.invokevirtual 31, 3) := by decide +kernel
theorem dL_law_331 : decode cL_law 331 = .ok (.if_icmp .eq 760, 3) := by decide +kernel
theorem dL_law_334 : decode cL_law 334 = .ok (.iconst 0, 1) := by decide +kernel
theorem dL_law_335 : decode cL_law 335 = .ok (.ireturn, 1) := by decide +kernel
theorem dL_law_336 : decode cL_law 336 = .ok (.aload_n 1, 1) := by decide +kernel
theorem dL_law_337 : decode cL_law 337 = .ok (.aload_n 0, 1) := by decide +kernel
theorem dL_law_338 : decode cL_law 338 = .ok (.iload_n 3, 1) := by decide +kernel
theorem dL_law_339 : decode cL_law 339 = .ok (.iconst 1, 1) := by decide +kernel
theorem dL_law_340 : decode cL_law 340 = .ok (.iadd, 1) := by decide +kernel
theorem dL_law_341 : decode cL_law 341 = .ok (.iaload, 1) := by decide +kernel
theorem dL_law_342 : decode cL_law 342 = .ok (.i2l, 1) := by decide +kernel
theorem dL_law_343 : decode cL_law 343 = .ok (.bipush 32, 2) := by decide +kernel
theorem dL_law_345 : decode cL_law 345 = .ok (.lshl, 1) := by decide +kernel
theorem dL_law_346 : decode cL_law 346 = .ok (.aload_n 0, 1) := by decide +kernel
theorem dL_law_347 : decode cL_law 347 = .ok (.iload_n 3, 1) := by decide +kernel
theorem dL_law_348 : decode cL_law 348 = .ok (.iconst 2, 1) := by decide +kernel
theorem dL_law_349 : decode cL_law 349 = .ok (.iadd, 1) := by decide +kernel
theorem dL_law_350 : decode cL_law 350 = .ok (.iaload, 1) := by decide +kernel
theorem dL_law_351 : decode cL_law 351 = .ok (.i2l, 1) := by decide +kernel
theorem dL_law_352 : decode cL_law 352 = .ok (.ldc2_w 32, 3) := by decide +kernel
theorem dL_law_355 : decode cL_law 355 = .ok (.land, 1) := by decide +kernel
theorem dL_law_356 : decode cL_law 356 = .ok (.lor, 1) := by decide +kernel
theorem dL_law_357 : decode cL_law 357 = .ok (.aload_n 0, 1) := by decide +kernel
theorem dL_law_358 : decode cL_law 358 = .ok (.iload_n 3, 1) := by decide +kernel
theorem dL_law_359 : decode cL_law 359 = .ok (.iconst 3, 1) := by decide +kernel
theorem dL_law_360 : decode cL_law 360 = .ok (.iadd, 1) := by decide +kernel
theorem dL_law_361 : decode cL_law 361 = .ok (.iaload, 1) := by decide +kernel
theorem dL_law_362 : decode cL_law 362 = .ok (.invokevirtual 34, 3) := by decide +kernel
theorem dL_law_365 : decode cL_law 365 = .ok (.aload_n 2, 1) := by decide +kernel
theorem dL_law_366 : decode cL_law 366 = .ok (.aload_n 0, 1) := by decide +kernel
theorem dL_law_367 : decode cL_law 367 = .ok (.iload_n 3, 1) := by decide +kernel
theorem dL_law_368 : decode cL_law 368 = .ok (.iconst 1, 1) := by decide +kernel
theorem dL_law_369 : decode cL_law 369 = .ok (.iadd, 1) := by decide +kernel
theorem dL_law_370 : decode cL_law 370 = .ok (.iaload, 1) := by decide +kernel
theorem dL_law_371 : decode cL_law 371 = .ok (.i2l, 1) := by decide +kernel
theorem dL_law_372 : decode cL_law 372 = .ok (.bipush 32, 2) := by decide +kernel
theorem dL_law_374 : decode cL_law 374 = .ok (.lshl, 1) := by decide +kernel
theorem dL_law_375 : decode cL_law 375 = .ok (.aload_n 0, 1) := by decide +kernel
theorem dL_law_376 : decode cL_law 376 = .ok (.iload_n 3, 1) := by decide +kernel
theorem dL_law_377 : decode cL_law 377 = .ok (.iconst 2, 1) := by decide +kernel
theorem dL_law_378 : decode cL_law 378 = .ok (.iadd, 1) := by decide +kernel
theorem dL_law_379 : decode cL_law 379 = .ok (.iaload, 1) := by decide +kernel
theorem dL_law_380 : decode cL_law 380 = .ok (.i2l, 1) := by decide +kernel
theorem dL_law_381 : decode cL_law 381 = .ok (.ldc2_w 32, 3) := by decide +kernel
theorem dL_law_384 : decode cL_law 384 = .ok (.land, 1) := by decide +kernel
theorem dL_law_385 : decode cL_law 385 = .ok (.lor, 1) := by decide +kernel
theorem dL_law_386 : decode cL_law 386 = .ok (.aload_n 0, 1) := by decide +kernel
theorem dL_law_387 : decode cL_law 387 = .ok (.iload_n 3, 1) := by decide +kernel
theorem dL_law_388 : decode cL_law 388 = .ok (.iconst 3, 1) := by decide +kernel
theorem dL_law_389 : decode cL_law 389 = .ok (.iadd, 1) := by decide +kernel
theorem dL_law_390 : decode cL_law 390 = .ok (.iaload, 1) := by decide +kernel
theorem dL_law_391 : decode cL_law 391 = .ok (.invokevirtual 38, 3) := by decide +kernel
theorem dL_law_394 : decode cL_law 394 = .ok (.if_icmp .eq 697, 3) := by decide +kernel
theorem dL_law_397 : decode cL_law 397 = .ok (.iconst 0, 1) := by decide +kernel
theorem dL_law_398 : decode cL_law 398 = .ok (.ireturn, 1) := by decide +kernel
theorem dL_law_399 : decode cL_law 399 = .ok (.aload_n 1, 1) := by decide +kernel
theorem dL_law_400 : decode cL_law 400 = .ok (.invokevirtual 39, 3) := by decide +kernel
theorem dL_law_403 : decode cL_law 403 = .ok (.aload_n 2, 1) := by decide +kernel
theorem dL_law_404 : decode cL_law 404 = .ok (.invokevirtual 43, 3) := by decide +kernel
theorem dL_law_407 : decode cL_law 407 = .ok (.if_icmp .eq 684, 3) := by decide +kernel
theorem dL_law_410 : decode cL_law 410 = .ok (.iconst 0, 1) := by decide +kernel
theorem dL_law_411 : decode cL_law 411 = .ok (.ireturn, 1) := by decide +kernel
theorem dL_law_412 : decode cL_law 412 = .ok (.aload_n 1, 1) := by decide +kernel
theorem dL_law_413 : decode cL_law 413 = .ok (.invokevirtual 44, 3) := by decide +kernel
theorem dL_law_416 : decode cL_law 416 = .ok (.aload_n 2, 1) := by decide +kernel
theorem dL_law_417 : decode cL_law 417 = .ok (.invokevirtual 47, 3) := by decide +kernel
theorem dL_law_420 : decode cL_law 420 = .ok (.if_icmp .eq 671, 3) := by decide +kernel
theorem dL_law_423 : decode cL_law 423 = .ok (.iconst 0, 1) := by decide +kernel
theorem dL_law_424 : decode cL_law 424 = .ok (.ireturn, 1) := by decide +kernel
theorem dL_law_425 : decode cL_law 425 = .ok (.aload_n 1, 1) := by decide +kernel
theorem dL_law_426 : decode cL_law 426 = .ok (.invokevirtual 48, 3) := by decide +kernel
theorem dL_law_429 : decode cL_law 429 = .ok (.aload_n 2, 1) := by decide +kernel
theorem dL_law_430 : decode cL_law 430 = .ok (.invokevirtual 51, 3) := by decide +kernel
theorem dL_law_433 : decode cL_law 433 = .ok (.if_icmp .eq 658, 3) := by decide +kernel
theorem dL_law_436 : decode cL_law 436 = .ok (.iconst 0, 1) := by decide +kernel
theorem dL_law_437 : decode cL_law 437 = .ok (.ireturn, 1) := by decide +kernel
theorem dL_law_438 : decode cL_law 438 = .ok (.aload_n 1, 1) := by decide +kernel
theorem dL_law_439 : decode cL_law 439 = .ok (.aload_n 0, 1) := by decide +kernel
theorem dL_law_440 : decode cL_law 440 = .ok (.iload_n 3, 1) := by decide +kernel
theorem dL_law_441 : decode cL_law 441 = .ok (.iconst 1, 1) := by decide +kernel
theorem dL_law_442 : decode cL_law 442 = .ok (.iadd, 1) := by decide +kernel
theorem dL_law_443 : decode cL_law 443 = .ok (.iaload, 1) := by decide +kernel
theorem dL_law_444 : decode cL_law 444 = .ok (.aload_n 0, 1) := by decide +kernel
theorem dL_law_445 : decode cL_law 445 = .ok (.iload_n 3, 1) := by decide +kernel
theorem dL_law_446 : decode cL_law 446 = .ok (.iconst 2, 1) := by decide +kernel
theorem dL_law_447 : decode cL_law 447 = .ok (.iadd, 1) := by decide +kernel
theorem dL_law_448 : decode cL_law 448 = .ok (.iaload, 1) := by decide +kernel
theorem dL_law_449 : decode cL_law 449 = .ok (.aload_n 0, 1) := by decide +kernel
theorem dL_law_450 : decode cL_law 450 = .ok (.iload_n 3, 1) := by decide +kernel
theorem dL_law_451 : decode cL_law 451 = .ok (.iconst 3, 1) := by decide +kernel
theorem dL_law_452 : decode cL_law 452 = .ok (.iadd, 1) := by decide +kernel
theorem dL_law_453 : decode cL_law 453 = .ok (.iaload, 1) := by decide +kernel
theorem dL_law_454 : decode cL_law 454 = .ok (.invokevirtual 52, 3) := by decide +kernel
theorem dL_law_457 : decode cL_law 457 = .ok (.aload_n 2, 1) := by decide +kernel
theorem dL_law_458 : decode cL_law 458 = .ok (.aload_n 0, 1) := by decide +kernel
theorem dL_law_459 : decode cL_law 459 = .ok (.iload_n 3, 1) := by decide +kernel
theorem dL_law_460 : decode cL_law 460 = .ok (.iconst 1, 1) := by decide +kernel
theorem dL_law_461 : decode cL_law 461 = .ok (.iadd, 1) := by decide +kernel
theorem dL_law_462 : decode cL_law 462 = .ok (.iaload, 1) := by decide +kernel
theorem dL_law_463 : decode cL_law 463 = .ok (.aload_n 0, 1) := by decide +kernel
theorem dL_law_464 : decode cL_law 464 = .ok (.iload_n 3, 1) := by decide +kernel
theorem dL_law_465 : decode cL_law 465 = .ok (.iconst 2, 1) := by decide +kernel
theorem dL_law_466 : decode cL_law 466 = .ok (.iadd, 1) := by decide +kernel
theorem dL_law_467 : decode cL_law 467 = .ok (.iaload, 1) := by decide +kernel
theorem dL_law_468 : decode cL_law 468 = .ok (.aload_n 0, 1) := by decide +kernel
theorem dL_law_469 : decode cL_law 469 = .ok (.iload_n 3, 1) := by decide +kernel
theorem dL_law_470 : decode cL_law 470 = .ok (.iconst 3, 1) := by decide +kernel
theorem dL_law_471 : decode cL_law 471 = .ok (.iadd, 1) := by decide +kernel
theorem dL_law_472 : decode cL_law 472 = .ok (.iaload, 1) := by decide +kernel
theorem dL_law_473 : decode cL_law 473 = .ok (.invokevirtual 55, 3) := by decide +kernel
theorem dL_law_476 : decode cL_law 476 = .ok (.if_icmp .eq 615, 3) := by decide +kernel
theorem dL_law_479 : decode cL_law 479 = .ok (.iconst 0, 1) := by decide +kernel
theorem dL_law_480 : decode cL_law 480 = .ok (.ireturn, 1) := by decide +kernel
theorem dL_law_481 : decode cL_law 481 = .ok (.aload_n 1, 1) := by decide +kernel
theorem dL_law_482 : decode cL_law 482 = .ok (.aload_n 0, 1) := by decide +kernel
theorem dL_law_483 : decode cL_law 483 = .ok (.iload_n 3, 1) := by decide +kernel
theorem dL_law_484 : decode cL_law 484 = .ok (.iconst 1, 1) := by decide +kernel
theorem dL_law_485 : decode cL_law 485 = .ok (.iadd, 1) := by decide +kernel
theorem dL_law_486 : decode cL_law 486 = .ok (.iaload, 1) := by decide +kernel
theorem dL_law_487 : decode cL_law 487 = .ok (.aload_n 0, 1) := by decide +kernel
theorem dL_law_488 : decode cL_law 488 = .ok (.iload_n 3, 1) := by decide +kernel
theorem dL_law_489 : decode cL_law 489 = .ok (.iconst 2, 1) := by decide +kernel
theorem dL_law_490 : decode cL_law 490 = .ok (.iadd, 1) := by decide +kernel
theorem dL_law_491 : decode cL_law 491 = .ok (.iaload, 1) := by decide +kernel
theorem dL_law_492 : decode cL_law 492 = .ok (.aload_n 0, 1) := by decide +kernel
theorem dL_law_493 : decode cL_law 493 = .ok (.iload_n 3, 1) := by decide +kernel
theorem dL_law_494 : decode cL_law 494 = .ok (.iconst 3, 1) := by decide +kernel
theorem dL_law_495 : decode cL_law 495 = .ok (.iadd, 1) := by decide +kernel
theorem dL_law_496 : decode cL_law 496 = .ok (.iaload, 1) := by decide +kernel
theorem dL_law_497 : decode cL_law 497 = .ok (.invokevirtual 56, 3) := by decide +kernel
theorem dL_law_500 : decode cL_law 500 = .ok (.aload_n 2, 1) := by decide +kernel
theorem dL_law_501 : decode cL_law 501 = .ok (.aload_n 0, 1) := by decide +kernel
theorem dL_law_502 : decode cL_law 502 = .ok (.iload_n 3, 1) := by decide +kernel
theorem dL_law_503 : decode cL_law 503 = .ok (.iconst 1, 1) := by decide +kernel
theorem dL_law_504 : decode cL_law 504 = .ok (.iadd, 1) := by decide +kernel
theorem dL_law_505 : decode cL_law 505 = .ok (.iaload, 1) := by decide +kernel
theorem dL_law_506 : decode cL_law 506 = .ok (.aload_n 0, 1) := by decide +kernel
theorem dL_law_507 : decode cL_law 507 = .ok (.iload_n 3, 1) := by decide +kernel
theorem dL_law_508 : decode cL_law 508 = .ok (.iconst 2, 1) := by decide +kernel
theorem dL_law_509 : decode cL_law 509 = .ok (.iadd, 1) := by decide +kernel
theorem dL_law_510 : decode cL_law 510 = .ok (.iaload, 1) := by decide +kernel
theorem dL_law_511 : decode cL_law 511 = .ok (.aload_n 0, 1) := by decide +kernel
theorem dL_law_512 : decode cL_law 512 = .ok (.iload_n 3, 1) := by decide +kernel
theorem dL_law_513 : decode cL_law 513 = .ok (.iconst 3, 1) := by decide +kernel
theorem dL_law_514 : decode cL_law 514 = .ok (.iadd, 1) := by decide +kernel
theorem dL_law_515 : decode cL_law 515 = .ok (.iaload, 1) := by decide +kernel
theorem dL_law_516 : decode cL_law 516 = .ok (.invokevirtual 59, 3) := by decide +kernel
theorem dL_law_519 : decode cL_law 519 = .ok (.if_icmp .eq 572, 3) := by decide +kernel
theorem dL_law_522 : decode cL_law 522 = .ok (.iconst 0, 1) := by decide +kernel
theorem dL_law_523 : decode cL_law 523 = .ok (.ireturn, 1) := by decide +kernel
theorem dL_law_524 : decode cL_law 524 = .ok (.aload_n 1, 1) := by decide +kernel
theorem dL_law_525 : decode cL_law 525 = .ok (.aload_n 0, 1) := by decide +kernel
theorem dL_law_526 : decode cL_law 526 = .ok (.iload_n 3, 1) := by decide +kernel
theorem dL_law_527 : decode cL_law 527 = .ok (.iconst 1, 1) := by decide +kernel
theorem dL_law_528 : decode cL_law 528 = .ok (.iadd, 1) := by decide +kernel
theorem dL_law_529 : decode cL_law 529 = .ok (.iaload, 1) := by decide +kernel
theorem dL_law_530 : decode cL_law 530 = .ok (.aload_n 0, 1) := by decide +kernel
theorem dL_law_531 : decode cL_law 531 = .ok (.iload_n 3, 1) := by decide +kernel
theorem dL_law_532 : decode cL_law 532 = .ok (.iconst 2, 1) := by decide +kernel
theorem dL_law_533 : decode cL_law 533 = .ok (.iadd, 1) := by decide +kernel
theorem dL_law_534 : decode cL_law 534 = .ok (.iaload, 1) := by decide +kernel
theorem dL_law_535 : decode cL_law 535 = .ok (.invokevirtual 60, 3) := by decide +kernel
theorem dL_law_538 : decode cL_law 538 = .ok (.aload_n 2, 1) := by decide +kernel
theorem dL_law_539 : decode cL_law 539 = .ok (.aload_n 0, 1) := by decide +kernel
theorem dL_law_540 : decode cL_law 540 = .ok (.iload_n 3, 1) := by decide +kernel
theorem dL_law_541 : decode cL_law 541 = .ok (.iconst 1, 1) := by decide +kernel
theorem dL_law_542 : decode cL_law 542 = .ok (.iadd, 1) := by decide +kernel
theorem dL_law_543 : decode cL_law 543 = .ok (.iaload, 1) := by decide +kernel
theorem dL_law_544 : decode cL_law 544 = .ok (.aload_n 0, 1) := by decide +kernel
theorem dL_law_545 : decode cL_law 545 = .ok (.iload_n 3, 1) := by decide +kernel
theorem dL_law_546 : decode cL_law 546 = .ok (.iconst 2, 1) := by decide +kernel
theorem dL_law_547 : decode cL_law 547 = .ok (.iadd, 1) := by decide +kernel
theorem dL_law_548 : decode cL_law 548 = .ok (.iaload, 1) := by decide +kernel
theorem dL_law_549 : decode cL_law 549 = .ok (.invokevirtual 64, 3) := by decide +kernel
theorem dL_law_552 : decode cL_law 552 = .ok (.if_icmp .eq 539, 3) := by decide +kernel
theorem dL_law_555 : decode cL_law 555 = .ok (.iconst 0, 1) := by decide +kernel
theorem dL_law_556 : decode cL_law 556 = .ok (.ireturn, 1) := by decide +kernel
theorem dL_law_557 : decode cL_law 557 = .ok (.aload_n 1, 1) := by decide +kernel
theorem dL_law_558 : decode cL_law 558 = .ok (.invokevirtual 65, 3) := by decide +kernel
theorem dL_law_561 : decode cL_law 561 = .ok (.aload_n 2, 1) := by decide +kernel
theorem dL_law_562 : decode cL_law 562 = .ok (.invokevirtual 68, 3) := by decide +kernel
theorem dL_law_565 : decode cL_law 565 = .ok (.if_icmp .eq 526, 3) := by decide +kernel
theorem dL_law_568 : decode cL_law 568 = .ok (.iconst 0, 1) := by decide +kernel
theorem dL_law_569 : decode cL_law 569 = .ok (.ireturn, 1) := by decide +kernel
theorem dL_law_570 : decode cL_law 570 = .ok (.aload_n 1, 1) := by decide +kernel
theorem dL_law_571 : decode cL_law 571 = .ok (.aload_n 0, 1) := by decide +kernel
theorem dL_law_572 : decode cL_law 572 = .ok (.iload_n 3, 1) := by decide +kernel
theorem dL_law_573 : decode cL_law 573 = .ok (.iconst 1, 1) := by decide +kernel
theorem dL_law_574 : decode cL_law 574 = .ok (.iadd, 1) := by decide +kernel
theorem dL_law_575 : decode cL_law 575 = .ok (.iaload, 1) := by decide +kernel
theorem dL_law_576 : decode cL_law 576 = .ok (.aload_n 0, 1) := by decide +kernel
theorem dL_law_577 : decode cL_law 577 = .ok (.iload_n 3, 1) := by decide +kernel
theorem dL_law_578 : decode cL_law 578 = .ok (.iconst 2, 1) := by decide +kernel
theorem dL_law_579 : decode cL_law 579 = .ok (.iadd, 1) := by decide +kernel
theorem dL_law_580 : decode cL_law 580 = .ok (.iaload, 1) := by decide +kernel
theorem dL_law_581 : decode cL_law 581 = .ok (.invokevirtual 69, 3) := by decide +kernel
theorem dL_law_584 : decode cL_law 584 = .ok (.aload_n 2, 1) := by decide +kernel
theorem dL_law_585 : decode cL_law 585 = .ok (.aload_n 0, 1) := by decide +kernel
theorem dL_law_586 : decode cL_law 586 = .ok (.iload_n 3, 1) := by decide +kernel
theorem dL_law_587 : decode cL_law 587 = .ok (.iconst 1, 1) := by decide +kernel
theorem dL_law_588 : decode cL_law 588 = .ok (.iadd, 1) := by decide +kernel
theorem dL_law_589 : decode cL_law 589 = .ok (.iaload, 1) := by decide +kernel
theorem dL_law_590 : decode cL_law 590 = .ok (.aload_n 0, 1) := by decide +kernel
theorem dL_law_591 : decode cL_law 591 = .ok (.iload_n 3, 1) := by decide +kernel
theorem dL_law_592 : decode cL_law 592 = .ok (.iconst 2, 1) := by decide +kernel
theorem dL_law_593 : decode cL_law 593 = .ok (.iadd, 1) := by decide +kernel
theorem dL_law_594 : decode cL_law 594 = .ok (.iaload, 1) := by decide +kernel
theorem dL_law_595 : decode cL_law 595 = .ok (.invokevirtual 72, 3) := by decide +kernel
theorem dL_law_598 : decode cL_law 598 = .ok (.if_icmp .eq 493, 3) := by decide +kernel
theorem dL_law_601 : decode cL_law 601 = .ok (.iconst 0, 1) := by decide +kernel
theorem dL_law_602 : decode cL_law 602 = .ok (.ireturn, 1) := by decide +kernel
theorem dL_law_603 : decode cL_law 603 = .ok (.aload_n 1, 1) := by decide +kernel
theorem dL_law_604 : decode cL_law 604 = .ok (.aload_n 0, 1) := by decide +kernel
theorem dL_law_605 : decode cL_law 605 = .ok (.iload_n 3, 1) := by decide +kernel
theorem dL_law_606 : decode cL_law 606 = .ok (.iconst 1, 1) := by decide +kernel
theorem dL_law_607 : decode cL_law 607 = .ok (.iadd, 1) := by decide +kernel
theorem dL_law_608 : decode cL_law 608 = .ok (.iaload, 1) := by decide +kernel
theorem dL_law_609 : decode cL_law 609 = .ok (.aload_n 0, 1) := by decide +kernel
theorem dL_law_610 : decode cL_law 610 = .ok (.iload_n 3, 1) := by decide +kernel
theorem dL_law_611 : decode cL_law 611 = .ok (.iconst 2, 1) := by decide +kernel
theorem dL_law_612 : decode cL_law 612 = .ok (.iadd, 1) := by decide +kernel
theorem dL_law_613 : decode cL_law 613 = .ok (.iaload, 1) := by decide +kernel
theorem dL_law_614 : decode cL_law 614 = .ok (.invokevirtual 73, 3) := by decide +kernel
theorem dL_law_617 : decode cL_law 617 = .ok (.aload_n 2, 1) := by decide +kernel
theorem dL_law_618 : decode cL_law 618 = .ok (.aload_n 0, 1) := by decide +kernel
theorem dL_law_619 : decode cL_law 619 = .ok (.iload_n 3, 1) := by decide +kernel
theorem dL_law_620 : decode cL_law 620 = .ok (.iconst 1, 1) := by decide +kernel
theorem dL_law_621 : decode cL_law 621 = .ok (.iadd, 1) := by decide +kernel
theorem dL_law_622 : decode cL_law 622 = .ok (.iaload, 1) := by decide +kernel
theorem dL_law_623 : decode cL_law 623 = .ok (.aload_n 0, 1) := by decide +kernel
theorem dL_law_624 : decode cL_law 624 = .ok (.iload_n 3, 1) := by decide +kernel
theorem dL_law_625 : decode cL_law 625 = .ok (.iconst 2, 1) := by decide +kernel
theorem dL_law_626 : decode cL_law 626 = .ok (.iadd, 1) := by decide +kernel
theorem dL_law_627 : decode cL_law 627 = .ok (.iaload, 1) := by decide +kernel
theorem dL_law_628 : decode cL_law 628 = .ok (.invokevirtual 76, 3) := by decide +kernel
theorem dL_law_631 : decode cL_law 631 = .ok (.if_icmp .eq 460, 3) := by decide +kernel
theorem dL_law_634 : decode cL_law 634 = .ok (.iconst 0, 1) := by decide +kernel
theorem dL_law_635 : decode cL_law 635 = .ok (.ireturn, 1) := by decide +kernel
theorem dL_law_636 : decode cL_law 636 = .ok (.aload_n 1, 1) := by decide +kernel
theorem dL_law_637 : decode cL_law 637 = .ok (.aload_n 0, 1) := by decide +kernel
theorem dL_law_638 : decode cL_law 638 = .ok (.iload_n 3, 1) := by decide +kernel
theorem dL_law_639 : decode cL_law 639 = .ok (.iconst 1, 1) := by decide +kernel
theorem dL_law_640 : decode cL_law 640 = .ok (.iadd, 1) := by decide +kernel
theorem dL_law_641 : decode cL_law 641 = .ok (.iaload, 1) := by decide +kernel
theorem dL_law_642 : decode cL_law 642 = .ok (.aload_n 0, 1) := by decide +kernel
theorem dL_law_643 : decode cL_law 643 = .ok (.iload_n 3, 1) := by decide +kernel
theorem dL_law_644 : decode cL_law 644 = .ok (.iconst 2, 1) := by decide +kernel
theorem dL_law_645 : decode cL_law 645 = .ok (.iadd, 1) := by decide +kernel
theorem dL_law_646 : decode cL_law 646 = .ok (.iaload, 1) := by decide +kernel
theorem dL_law_647 : decode cL_law 647 = .ok (.invokevirtual 77, 3) := by decide +kernel
theorem dL_law_650 : decode cL_law 650 = .ok (.aload_n 2, 1) := by decide +kernel
theorem dL_law_651 : decode cL_law 651 = .ok (.aload_n 0, 1) := by decide +kernel
theorem dL_law_652 : decode cL_law 652 = .ok (.iload_n 3, 1) := by decide +kernel
theorem dL_law_653 : decode cL_law 653 = .ok (.iconst 1, 1) := by decide +kernel
theorem dL_law_654 : decode cL_law 654 = .ok (.iadd, 1) := by decide +kernel
theorem dL_law_655 : decode cL_law 655 = .ok (.iaload, 1) := by decide +kernel
theorem dL_law_656 : decode cL_law 656 = .ok (.aload_n 0, 1) := by decide +kernel
theorem dL_law_657 : decode cL_law 657 = .ok (.iload_n 3, 1) := by decide +kernel
theorem dL_law_658 : decode cL_law 658 = .ok (.iconst 2, 1) := by decide +kernel
theorem dL_law_659 : decode cL_law 659 = .ok (.iadd, 1) := by decide +kernel
theorem dL_law_660 : decode cL_law 660 = .ok (.iaload, 1) := by decide +kernel
theorem dL_law_661 : decode cL_law 661 = .ok (.invokevirtual 80, 3) := by decide +kernel
theorem dL_law_664 : decode cL_law 664 = .ok (.if_icmp .eq 427, 3) := by decide +kernel
theorem dL_law_667 : decode cL_law 667 = .ok (.iconst 0, 1) := by decide +kernel
theorem dL_law_668 : decode cL_law 668 = .ok (.ireturn, 1) := by decide +kernel
theorem dL_law_669 : decode cL_law 669 = .ok (.aload_n 1, 1) := by decide +kernel
theorem dL_law_670 : decode cL_law 670 = .ok (.aload_n 0, 1) := by decide +kernel
theorem dL_law_671 : decode cL_law 671 = .ok (.iload_n 3, 1) := by decide +kernel
theorem dL_law_672 : decode cL_law 672 = .ok (.iconst 1, 1) := by decide +kernel
theorem dL_law_673 : decode cL_law 673 = .ok (.iadd, 1) := by decide +kernel
theorem dL_law_674 : decode cL_law 674 = .ok (.iaload, 1) := by decide +kernel
theorem dL_law_675 : decode cL_law 675 = .ok (.aload_n 0, 1) := by decide +kernel
theorem dL_law_676 : decode cL_law 676 = .ok (.iload_n 3, 1) := by decide +kernel
theorem dL_law_677 : decode cL_law 677 = .ok (.iconst 2, 1) := by decide +kernel
theorem dL_law_678 : decode cL_law 678 = .ok (.iadd, 1) := by decide +kernel
theorem dL_law_679 : decode cL_law 679 = .ok (.iaload, 1) := by decide +kernel
theorem dL_law_680 : decode cL_law 680 = .ok (.aload_n 0, 1) := by decide +kernel
theorem dL_law_681 : decode cL_law 681 = .ok (.iload_n 3, 1) := by decide +kernel
theorem dL_law_682 : decode cL_law 682 = .ok (.iconst 3, 1) := by decide +kernel
theorem dL_law_683 : decode cL_law 683 = .ok (.iadd, 1) := by decide +kernel
theorem dL_law_684 : decode cL_law 684 = .ok (.iaload, 1) := by decide +kernel
theorem dL_law_685 : decode cL_law 685 = .ok (.invokevirtual 81, 3) := by decide +kernel
theorem dL_law_688 : decode cL_law 688 = .ok (.aload_n 2, 1) := by decide +kernel
theorem dL_law_689 : decode cL_law 689 = .ok (.aload_n 0, 1) := by decide +kernel
theorem dL_law_690 : decode cL_law 690 = .ok (.iload_n 3, 1) := by decide +kernel
theorem dL_law_691 : decode cL_law 691 = .ok (.iconst 1, 1) := by decide +kernel
theorem dL_law_692 : decode cL_law 692 = .ok (.iadd, 1) := by decide +kernel
theorem dL_law_693 : decode cL_law 693 = .ok (.iaload, 1) := by decide +kernel
theorem dL_law_694 : decode cL_law 694 = .ok (.aload_n 0, 1) := by decide +kernel
theorem dL_law_695 : decode cL_law 695 = .ok (.iload_n 3, 1) := by decide +kernel
theorem dL_law_696 : decode cL_law 696 = .ok (.iconst 2, 1) := by decide +kernel
theorem dL_law_697 : decode cL_law 697 = .ok (.iadd, 1) := by decide +kernel
theorem dL_law_698 : decode cL_law 698 = .ok (.iaload, 1) := by decide +kernel
theorem dL_law_699 : decode cL_law 699 = .ok (.aload_n 0, 1) := by decide +kernel
theorem dL_law_700 : decode cL_law 700 = .ok (.iload_n 3, 1) := by decide +kernel
theorem dL_law_701 : decode cL_law 701 = .ok (.iconst 3, 1) := by decide +kernel
theorem dL_law_702 : decode cL_law 702 = .ok (.iadd, 1) := by decide +kernel
theorem dL_law_703 : decode cL_law 703 = .ok (.iaload, 1) := by decide +kernel
theorem dL_law_704 : decode cL_law 704 = .ok (.invokevirtual 84, 3) := by decide +kernel
theorem dL_law_707 : decode cL_law 707 = .ok (.if_icmp .eq 384, 3) := by decide +kernel
theorem dL_law_710 : decode cL_law 710 = .ok (.iconst 0, 1) := by decide +kernel
theorem dL_law_711 : decode cL_law 711 = .ok (.ireturn, 1) := by decide +kernel
theorem dL_law_712 : decode cL_law 712 = .ok (.aload_n 1, 1) := by decide +kernel
theorem dL_law_713 : decode cL_law 713 = .ok (.aload_n 0, 1) := by decide +kernel
theorem dL_law_714 : decode cL_law 714 = .ok (.iload_n 3, 1) := by decide +kernel
theorem dL_law_715 : decode cL_law 715 = .ok (.iconst 1, 1) := by decide +kernel
theorem dL_law_716 : decode cL_law 716 = .ok (.iadd, 1) := by decide +kernel
theorem dL_law_717 : decode cL_law 717 = .ok (.iaload, 1) := by decide +kernel
theorem dL_law_718 : decode cL_law 718 = .ok (.invokevirtual 85, 3) := by decide +kernel
theorem dL_law_721 : decode cL_law 721 = .ok (.aload_n 2, 1) := by decide +kernel
theorem dL_law_722 : decode cL_law 722 = .ok (.aload_n 0, 1) := by decide +kernel
theorem dL_law_723 : decode cL_law 723 = .ok (.iload_n 3, 1) := by decide +kernel
theorem dL_law_724 : decode cL_law 724 = .ok (.iconst 1, 1) := by decide +kernel
theorem dL_law_725 : decode cL_law 725 = .ok (.iadd, 1) := by decide +kernel
theorem dL_law_726 : decode cL_law 726 = .ok (.iaload, 1) := by decide +kernel
theorem dL_law_727 : decode cL_law 727 = .ok (.invokevirtual 88, 3) := by decide +kernel
theorem dL_law_730 : decode cL_law 730 = .ok (.if_icmp .eq 361, 3) := by decide +kernel
theorem dL_law_733 : decode cL_law 733 = .ok (.iconst 0, 1) := by decide +kernel
theorem dL_law_734 : decode cL_law 734 = .ok (.ireturn, 1) := by decide +kernel
theorem dL_law_735 : decode cL_law 735 = .ok (.aload_n 1, 1) := by decide +kernel
theorem dL_law_736 : decode cL_law 736 = .ok (.aload_n 0, 1) := by decide +kernel
theorem dL_law_737 : decode cL_law 737 = .ok (.iload_n 3, 1) := by decide +kernel
theorem dL_law_738 : decode cL_law 738 = .ok (.iconst 1, 1) := by decide +kernel
theorem dL_law_739 : decode cL_law 739 = .ok (.iadd, 1) := by decide +kernel
theorem dL_law_740 : decode cL_law 740 = .ok (.iaload, 1) := by decide +kernel
theorem dL_law_741 : decode cL_law 741 = .ok (.aload_n 0, 1) := by decide +kernel
theorem dL_law_742 : decode cL_law 742 = .ok (.iload_n 3, 1) := by decide +kernel
theorem dL_law_743 : decode cL_law 743 = .ok (.iconst 2, 1) := by decide +kernel
theorem dL_law_744 : decode cL_law 744 = .ok (.iadd, 1) := by decide +kernel
theorem dL_law_745 : decode cL_law 745 = .ok (.iaload, 1) := by decide +kernel
theorem dL_law_746 : decode cL_law 746 = .ok (.aload_n 0, 1) := by decide +kernel
theorem dL_law_747 : decode cL_law 747 = .ok (.iload_n 3, 1) := by decide +kernel
theorem dL_law_748 : decode cL_law 748 = .ok (.iconst 3, 1) := by decide +kernel
theorem dL_law_749 : decode cL_law 749 = .ok (.iadd, 1) := by decide +kernel
theorem dL_law_750 : decode cL_law 750 = .ok (.iaload, 1) := by decide +kernel
theorem dL_law_751 : decode cL_law 751 = .ok (.invokevirtual 89, 3) := by decide +kernel
theorem dL_law_754 : decode cL_law 754 = .ok (.aload_n 2, 1) := by decide +kernel
theorem dL_law_755 : decode cL_law 755 = .ok (.aload_n 0, 1) := by decide +kernel
theorem dL_law_756 : decode cL_law 756 = .ok (.iload_n 3, 1) := by decide +kernel
theorem dL_law_757 : decode cL_law 757 = .ok (.iconst 1, 1) := by decide +kernel
theorem dL_law_758 : decode cL_law 758 = .ok (.iadd, 1) := by decide +kernel
theorem dL_law_759 : decode cL_law 759 = .ok (.iaload, 1) := by decide +kernel
theorem dL_law_760 : decode cL_law 760 = .ok (.aload_n 0, 1) := by decide +kernel
theorem dL_law_761 : decode cL_law 761 = .ok (.iload_n 3, 1) := by decide +kernel
theorem dL_law_762 : decode cL_law 762 = .ok (.iconst 2, 1) := by decide +kernel
theorem dL_law_763 : decode cL_law 763 = .ok (.iadd, 1) := by decide +kernel
theorem dL_law_764 : decode cL_law 764 = .ok (.iaload, 1) := by decide +kernel
theorem dL_law_765 : decode cL_law 765 = .ok (.aload_n 0, 1) := by decide +kernel
theorem dL_law_766 : decode cL_law 766 = .ok (.iload_n 3, 1) := by decide +kernel
theorem dL_law_767 : decode cL_law 767 = .ok (.iconst 3, 1) := by decide +kernel
theorem dL_law_768 : decode cL_law 768 = .ok (.iadd, 1) := by decide +kernel
theorem dL_law_769 : decode cL_law 769 = .ok (.iaload, 1) := by decide +kernel
theorem dL_law_770 : decode cL_law 770 = .ok (.invokevirtual 92, 3) := by decide +kernel
theorem dL_law_773 : decode cL_law 773 = .ok (.if_icmp .eq 318, 3) := by decide +kernel
theorem dL_law_776 : decode cL_law 776 = .ok (.iconst 0, 1) := by decide +kernel
theorem dL_law_777 : decode cL_law 777 = .ok (.ireturn, 1) := by decide +kernel
theorem dL_law_778 : decode cL_law 778 = .ok (.aload_n 1, 1) := by decide +kernel
theorem dL_law_779 : decode cL_law 779 = .ok (.aload_n 0, 1) := by decide +kernel
theorem dL_law_780 : decode cL_law 780 = .ok (.iload_n 3, 1) := by decide +kernel
theorem dL_law_781 : decode cL_law 781 = .ok (.iconst 1, 1) := by decide +kernel
theorem dL_law_782 : decode cL_law 782 = .ok (.iadd, 1) := by decide +kernel
theorem dL_law_783 : decode cL_law 783 = .ok (.iaload, 1) := by decide +kernel
theorem dL_law_784 : decode cL_law 784 = .ok (.aload_n 0, 1) := by decide +kernel
theorem dL_law_785 : decode cL_law 785 = .ok (.iload_n 3, 1) := by decide +kernel
theorem dL_law_786 : decode cL_law 786 = .ok (.iconst 2, 1) := by decide +kernel
theorem dL_law_787 : decode cL_law 787 = .ok (.iadd, 1) := by decide +kernel
theorem dL_law_788 : decode cL_law 788 = .ok (.iaload, 1) := by decide +kernel
theorem dL_law_789 : decode cL_law 789 = .ok (.aload_n 0, 1) := by decide +kernel
theorem dL_law_790 : decode cL_law 790 = .ok (.iload_n 3, 1) := by decide +kernel
theorem dL_law_791 : decode cL_law 791 = .ok (.iconst 3, 1) := by decide +kernel
theorem dL_law_792 : decode cL_law 792 = .ok (.iadd, 1) := by decide +kernel
theorem dL_law_793 : decode cL_law 793 = .ok (.iaload, 1) := by decide +kernel
theorem dL_law_794 : decode cL_law 794 = .ok (.invokevirtual 93, 3) := by decide +kernel
theorem dL_law_797 : decode cL_law 797 = .ok (.aload_n 2, 1) := by decide +kernel
theorem dL_law_798 : decode cL_law 798 = .ok (.aload_n 0, 1) := by decide +kernel
theorem dL_law_799 : decode cL_law 799 = .ok (.iload_n 3, 1) := by decide +kernel
theorem dL_law_800 : decode cL_law 800 = .ok (.iconst 1, 1) := by decide +kernel
theorem dL_law_801 : decode cL_law 801 = .ok (.iadd, 1) := by decide +kernel
theorem dL_law_802 : decode cL_law 802 = .ok (.iaload, 1) := by decide +kernel
theorem dL_law_803 : decode cL_law 803 = .ok (.aload_n 0, 1) := by decide +kernel
theorem dL_law_804 : decode cL_law 804 = .ok (.iload_n 3, 1) := by decide +kernel
theorem dL_law_805 : decode cL_law 805 = .ok (.iconst 2, 1) := by decide +kernel
theorem dL_law_806 : decode cL_law 806 = .ok (.iadd, 1) := by decide +kernel
theorem dL_law_807 : decode cL_law 807 = .ok (.iaload, 1) := by decide +kernel
theorem dL_law_808 : decode cL_law 808 = .ok (.aload_n 0, 1) := by decide +kernel
theorem dL_law_809 : decode cL_law 809 = .ok (.iload_n 3, 1) := by decide +kernel
theorem dL_law_810 : decode cL_law 810 = .ok (.iconst 3, 1) := by decide +kernel
theorem dL_law_811 : decode cL_law 811 = .ok (.iadd, 1) := by decide +kernel
theorem dL_law_812 : decode cL_law 812 = .ok (.iaload, 1) := by decide +kernel
theorem dL_law_813 : decode cL_law 813 = .ok (.invokevirtual 96, 3) := by decide +kernel
theorem dL_law_816 : decode cL_law 816 = .ok (.if_icmp .eq 275, 3) := by decide +kernel
theorem dL_law_819 : decode cL_law 819 = .ok (.iconst 0, 1) := by decide +kernel
theorem dL_law_820 : decode cL_law 820 = .ok (.ireturn, 1) := by decide +kernel
theorem dL_law_821 : decode cL_law 821 = .ok (.aload_n 1, 1) := by decide +kernel
theorem dL_law_822 : decode cL_law 822 = .ok (.aload_n 0, 1) := by decide +kernel
theorem dL_law_823 : decode cL_law 823 = .ok (.iload_n 3, 1) := by decide +kernel
theorem dL_law_824 : decode cL_law 824 = .ok (.iconst 1, 1) := by decide +kernel
theorem dL_law_825 : decode cL_law 825 = .ok (.iadd, 1) := by decide +kernel
theorem dL_law_826 : decode cL_law 826 = .ok (.iaload, 1) := by decide +kernel
theorem dL_law_827 : decode cL_law 827 = .ok (.aload_n 0, 1) := by decide +kernel
theorem dL_law_828 : decode cL_law 828 = .ok (.iload_n 3, 1) := by decide +kernel
theorem dL_law_829 : decode cL_law 829 = .ok (.iconst 2, 1) := by decide +kernel
theorem dL_law_830 : decode cL_law 830 = .ok (.iadd, 1) := by decide +kernel
theorem dL_law_831 : decode cL_law 831 = .ok (.iaload, 1) := by decide +kernel
theorem dL_law_832 : decode cL_law 832 = .ok (.aload_n 0, 1) := by decide +kernel
theorem dL_law_833 : decode cL_law 833 = .ok (.iload_n 3, 1) := by decide +kernel
theorem dL_law_834 : decode cL_law 834 = .ok (.iconst 3, 1) := by decide +kernel
theorem dL_law_835 : decode cL_law 835 = .ok (.iadd, 1) := by decide +kernel
theorem dL_law_836 : decode cL_law 836 = .ok (.iaload, 1) := by decide +kernel
theorem dL_law_837 : decode cL_law 837 = .ok (.invokevirtual 97, 3) := by decide +kernel
theorem dL_law_840 : decode cL_law 840 = .ok (.aload_n 2, 1) := by decide +kernel
theorem dL_law_841 : decode cL_law 841 = .ok (.aload_n 0, 1) := by decide +kernel
theorem dL_law_842 : decode cL_law 842 = .ok (.iload_n 3, 1) := by decide +kernel
theorem dL_law_843 : decode cL_law 843 = .ok (.iconst 1, 1) := by decide +kernel
theorem dL_law_844 : decode cL_law 844 = .ok (.iadd, 1) := by decide +kernel
theorem dL_law_845 : decode cL_law 845 = .ok (.iaload, 1) := by decide +kernel
theorem dL_law_846 : decode cL_law 846 = .ok (.aload_n 0, 1) := by decide +kernel
theorem dL_law_847 : decode cL_law 847 = .ok (.iload_n 3, 1) := by decide +kernel
theorem dL_law_848 : decode cL_law 848 = .ok (.iconst 2, 1) := by decide +kernel
theorem dL_law_849 : decode cL_law 849 = .ok (.iadd, 1) := by decide +kernel
theorem dL_law_850 : decode cL_law 850 = .ok (.iaload, 1) := by decide +kernel
theorem dL_law_851 : decode cL_law 851 = .ok (.aload_n 0, 1) := by decide +kernel
theorem dL_law_852 : decode cL_law 852 = .ok (.iload_n 3, 1) := by decide +kernel
theorem dL_law_853 : decode cL_law 853 = .ok (.iconst 3, 1) := by decide +kernel
theorem dL_law_854 : decode cL_law 854 = .ok (.iadd, 1) := by decide +kernel
theorem dL_law_855 : decode cL_law 855 = .ok (.iaload, 1) := by decide +kernel
theorem dL_law_856 : decode cL_law 856 = .ok (.invokevirtual 100, 3) := by decide +kernel
theorem dL_law_859 : decode cL_law 859 = .ok (.if_icmp .eq 232, 3) := by decide +kernel
theorem dL_law_862 : decode cL_law 862 = .ok (.iconst 0, 1) := by decide +kernel
theorem dL_law_863 : decode cL_law 863 = .ok (.ireturn, 1) := by decide +kernel
theorem dL_law_864 : decode cL_law 864 = .ok (.aload_n 1, 1) := by decide +kernel
theorem dL_law_865 : decode cL_law 865 = .ok (.aload_n 0, 1) := by decide +kernel
theorem dL_law_866 : decode cL_law 866 = .ok (.iload_n 3, 1) := by decide +kernel
theorem dL_law_867 : decode cL_law 867 = .ok (.iconst 1, 1) := by decide +kernel
theorem dL_law_868 : decode cL_law 868 = .ok (.iadd, 1) := by decide +kernel
theorem dL_law_869 : decode cL_law 869 = .ok (.iaload, 1) := by decide +kernel
theorem dL_law_870 : decode cL_law 870 = .ok (.aload_n 0, 1) := by decide +kernel
theorem dL_law_871 : decode cL_law 871 = .ok (.iload_n 3, 1) := by decide +kernel
theorem dL_law_872 : decode cL_law 872 = .ok (.iconst 2, 1) := by decide +kernel
theorem dL_law_873 : decode cL_law 873 = .ok (.iadd, 1) := by decide +kernel
theorem dL_law_874 : decode cL_law 874 = .ok (.iaload, 1) := by decide +kernel
theorem dL_law_875 : decode cL_law 875 = .ok (.invokevirtual 101, 3) := by decide +kernel
theorem dL_law_878 : decode cL_law 878 = .ok (.aload_n 2, 1) := by decide +kernel
theorem dL_law_879 : decode cL_law 879 = .ok (.aload_n 0, 1) := by decide +kernel
theorem dL_law_880 : decode cL_law 880 = .ok (.iload_n 3, 1) := by decide +kernel
theorem dL_law_881 : decode cL_law 881 = .ok (.iconst 1, 1) := by decide +kernel
theorem dL_law_882 : decode cL_law 882 = .ok (.iadd, 1) := by decide +kernel
theorem dL_law_883 : decode cL_law 883 = .ok (.iaload, 1) := by decide +kernel
theorem dL_law_884 : decode cL_law 884 = .ok (.aload_n 0, 1) := by decide +kernel
theorem dL_law_885 : decode cL_law 885 = .ok (.iload_n 3, 1) := by decide +kernel
theorem dL_law_886 : decode cL_law 886 = .ok (.iconst 2, 1) := by decide +kernel
theorem dL_law_887 : decode cL_law 887 = .ok (.iadd, 1) := by decide +kernel
theorem dL_law_888 : decode cL_law 888 = .ok (.iaload, 1) := by decide +kernel
theorem dL_law_889 : decode cL_law 889 = .ok (.invokevirtual 104, 3) := by decide +kernel
theorem dL_law_892 : decode cL_law 892 = .ok (.if_icmp .eq 199, 3) := by decide +kernel
theorem dL_law_895 : decode cL_law 895 = .ok (.iconst 0, 1) := by decide +kernel
theorem dL_law_896 : decode cL_law 896 = .ok (.ireturn, 1) := by decide +kernel
theorem dL_law_897 : decode cL_law 897 = .ok (.aload_n 1, 1) := by decide +kernel
theorem dL_law_898 : decode cL_law 898 = .ok (.aload_n 0, 1) := by decide +kernel
theorem dL_law_899 : decode cL_law 899 = .ok (.iload_n 3, 1) := by decide +kernel
theorem dL_law_900 : decode cL_law 900 = .ok (.iconst 1, 1) := by decide +kernel
theorem dL_law_901 : decode cL_law 901 = .ok (.iadd, 1) := by decide +kernel
theorem dL_law_902 : decode cL_law 902 = .ok (.iaload, 1) := by decide +kernel
theorem dL_law_903 : decode cL_law 903 = .ok (.invokevirtual 105, 3) := by decide +kernel
theorem dL_law_906 : decode cL_law 906 = .ok (.aload_n 2, 1) := by decide +kernel
theorem dL_law_907 : decode cL_law 907 = .ok (.aload_n 0, 1) := by decide +kernel
theorem dL_law_908 : decode cL_law 908 = .ok (.iload_n 3, 1) := by decide +kernel
theorem dL_law_909 : decode cL_law 909 = .ok (.iconst 1, 1) := by decide +kernel
theorem dL_law_910 : decode cL_law 910 = .ok (.iadd, 1) := by decide +kernel
theorem dL_law_911 : decode cL_law 911 = .ok (.iaload, 1) := by decide +kernel
theorem dL_law_912 : decode cL_law 912 = .ok (.invokevirtual 108, 3) := by decide +kernel
theorem dL_law_915 : decode cL_law 915 = .ok (.if_icmp .eq 176, 3) := by decide +kernel
theorem dL_law_918 : decode cL_law 918 = .ok (.iconst 0, 1) := by decide +kernel
theorem dL_law_919 : decode cL_law 919 = .ok (.ireturn, 1) := by decide +kernel
theorem dL_law_920 : decode cL_law 920 = .ok (.aload_n 1, 1) := by decide +kernel
theorem dL_law_921 : decode cL_law 921 = .ok (.aload_n 0, 1) := by decide +kernel
theorem dL_law_922 : decode cL_law 922 = .ok (.iload_n 3, 1) := by decide +kernel
theorem dL_law_923 : decode cL_law 923 = .ok (.iconst 1, 1) := by decide +kernel
theorem dL_law_924 : decode cL_law 924 = .ok (.iadd, 1) := by decide +kernel
theorem dL_law_925 : decode cL_law 925 = .ok (.iaload, 1) := by decide +kernel
theorem dL_law_926 : decode cL_law 926 = .ok (.invokevirtual 109, 3) := by decide +kernel
theorem dL_law_929 : decode cL_law 929 = .ok (.aload_n 2, 1) := by decide +kernel
theorem dL_law_930 : decode cL_law 930 = .ok (.aload_n 0, 1) := by decide +kernel
theorem dL_law_931 : decode cL_law 931 = .ok (.iload_n 3, 1) := by decide +kernel
theorem dL_law_932 : decode cL_law 932 = .ok (.iconst 1, 1) := by decide +kernel
theorem dL_law_933 : decode cL_law 933 = .ok (.iadd, 1) := by decide +kernel
theorem dL_law_934 : decode cL_law 934 = .ok (.iaload, 1) := by decide +kernel
theorem dL_law_935 : decode cL_law 935 = .ok (.invokevirtual 112, 3) := by decide +kernel
theorem dL_law_938 : decode cL_law 938 = .ok (.if_icmp .eq 153, 3) := by decide +kernel
theorem dL_law_941 : decode cL_law 941 = .ok (.iconst 0, 1) := by decide +kernel
theorem dL_law_942 : decode cL_law 942 = .ok (.ireturn, 1) := by decide +kernel
theorem dL_law_943 : decode cL_law 943 = .ok (.aload_n 1, 1) := by decide +kernel
theorem dL_law_944 : decode cL_law 944 = .ok (.aload_n 0, 1) := by decide +kernel
theorem dL_law_945 : decode cL_law 945 = .ok (.iload_n 3, 1) := by decide +kernel
theorem dL_law_946 : decode cL_law 946 = .ok (.iconst 1, 1) := by decide +kernel
theorem dL_law_947 : decode cL_law 947 = .ok (.iadd, 1) := by decide +kernel
theorem dL_law_948 : decode cL_law 948 = .ok (.iaload, 1) := by decide +kernel
theorem dL_law_949 : decode cL_law 949 = .ok (.invokevirtual 113, 3) := by decide +kernel
theorem dL_law_952 : decode cL_law 952 = .ok (.aload_n 2, 1) := by decide +kernel
theorem dL_law_953 : decode cL_law 953 = .ok (.aload_n 0, 1) := by decide +kernel
theorem dL_law_954 : decode cL_law 954 = .ok (.iload_n 3, 1) := by decide +kernel
theorem dL_law_955 : decode cL_law 955 = .ok (.iconst 1, 1) := by decide +kernel
theorem dL_law_956 : decode cL_law 956 = .ok (.iadd, 1) := by decide +kernel
theorem dL_law_957 : decode cL_law 957 = .ok (.iaload, 1) := by decide +kernel
theorem dL_law_958 : decode cL_law 958 = .ok (.invokevirtual 116, 3) := by decide +kernel
theorem dL_law_961 : decode cL_law 961 = .ok (.if_icmp .eq 130, 3) := by decide +kernel
theorem dL_law_964 : decode cL_law 964 = .ok (.iconst 0, 1) := by decide +kernel
theorem dL_law_965 : decode cL_law 965 = .ok (.ireturn, 1) := by decide +kernel
theorem dL_law_966 : decode cL_law 966 = .ok (.aload_n 1, 1) := by decide +kernel
theorem dL_law_967 : decode cL_law 967 = .ok (.aload_n 0, 1) := by decide +kernel
theorem dL_law_968 : decode cL_law 968 = .ok (.iload_n 3, 1) := by decide +kernel
theorem dL_law_969 : decode cL_law 969 = .ok (.iconst 1, 1) := by decide +kernel
theorem dL_law_970 : decode cL_law 970 = .ok (.iadd, 1) := by decide +kernel
theorem dL_law_971 : decode cL_law 971 = .ok (.iaload, 1) := by decide +kernel
theorem dL_law_972 : decode cL_law 972 = .ok (.aload_n 0, 1) := by decide +kernel
theorem dL_law_973 : decode cL_law 973 = .ok (.iload_n 3, 1) := by decide +kernel
theorem dL_law_974 : decode cL_law 974 = .ok (.iconst 2, 1) := by decide +kernel
theorem dL_law_975 : decode cL_law 975 = .ok (.iadd, 1) := by decide +kernel
theorem dL_law_976 : decode cL_law 976 = .ok (.iaload, 1) := by decide +kernel
theorem dL_law_977 : decode cL_law 977 = .ok (.invokevirtual 117, 3) := by decide +kernel
theorem dL_law_980 : decode cL_law 980 = .ok (.aload_n 2, 1) := by decide +kernel
theorem dL_law_981 : decode cL_law 981 = .ok (.aload_n 0, 1) := by decide +kernel
theorem dL_law_982 : decode cL_law 982 = .ok (.iload_n 3, 1) := by decide +kernel
theorem dL_law_983 : decode cL_law 983 = .ok (.iconst 1, 1) := by decide +kernel
theorem dL_law_984 : decode cL_law 984 = .ok (.iadd, 1) := by decide +kernel
theorem dL_law_985 : decode cL_law 985 = .ok (.iaload, 1) := by decide +kernel
theorem dL_law_986 : decode cL_law 986 = .ok (.aload_n 0, 1) := by decide +kernel
theorem dL_law_987 : decode cL_law 987 = .ok (.iload_n 3, 1) := by decide +kernel
theorem dL_law_988 : decode cL_law 988 = .ok (.iconst 2, 1) := by decide +kernel
theorem dL_law_989 : decode cL_law 989 = .ok (.iadd, 1) := by decide +kernel
theorem dL_law_990 : decode cL_law 990 = .ok (.iaload, 1) := by decide +kernel
theorem dL_law_991 : decode cL_law 991 = .ok (.invokevirtual 120, 3) := by decide +kernel
theorem dL_law_994 : decode cL_law 994 = .ok (.if_icmp .eq 97, 3) := by decide +kernel
theorem dL_law_997 : decode cL_law 997 = .ok (.iconst 0, 1) := by decide +kernel
end
section
/-! decode rows: L -/
theorem dL_law_998 : decode cL_law 998 = .ok (.ireturn, 1) := by decide +kernel
theorem dL_law_999 : decode cL_law 999 = .ok (.aload_n 1, 1) := by decide +kernel
theorem dL_law_1000 : decode cL_law 1000 = .ok (.aload_n 0, 1) := by decide +kernel
theorem dL_law_1001 : decode cL_law 1001 = .ok (.iload_n 3, 1) := by decide +kernel
theorem dL_law_1002 : decode cL_law 1002 = .ok (.iconst 1, 1) := by decide +kernel
theorem dL_law_1003 : decode cL_law 1003 = .ok (.iadd, 1) := by decide +kernel
theorem dL_law_1004 : decode cL_law 1004 = .ok (.iaload, 1) := by decide +kernel
theorem dL_law_1005 : decode cL_law 1005 = .ok (.aload_n 0, 1) := by decide +kernel
theorem dL_law_1006 : decode cL_law 1006 = .ok (.iload_n 3, 1) := by decide +kernel
theorem dL_law_1007 : decode cL_law 1007 = .ok (.iconst 2, 1) := by decide +kernel
theorem dL_law_1008 : decode cL_law 1008 = .ok (.iadd, 1) := by decide +kernel
theorem dL_law_1009 : decode cL_law 1009 = .ok (.iaload, 1) := by decide +kernel
theorem dL_law_1010 : decode cL_law 1010 = .ok (.invokevirtual 121, 3) := by decide +kernel
theorem dL_law_1013 : decode cL_law 1013 = .ok (.aload_n 2, 1) := by decide +kernel
theorem dL_law_1014 : decode cL_law 1014 = .ok (.aload_n 0, 1) := by decide +kernel
theorem dL_law_1015 : decode cL_law 1015 = .ok (.iload_n 3, 1) := by decide +kernel
theorem dL_law_1016 : decode cL_law 1016 = .ok (.iconst 1, 1) := by decide +kernel
theorem dL_law_1017 : decode cL_law 1017 = .ok (.iadd, 1) := by decide +kernel
theorem dL_law_1018 : decode cL_law 1018 = .ok (.iaload, 1) := by decide +kernel
theorem dL_law_1019 : decode cL_law 1019 = .ok (.aload_n 0, 1) := by decide +kernel
theorem dL_law_1020 : decode cL_law 1020 = .ok (.iload_n 3, 1) := by decide +kernel
theorem dL_law_1021 : decode cL_law 1021 = .ok (.iconst 2, 1) := by decide +kernel
theorem dL_law_1022 : decode cL_law 1022 = .ok (.iadd, 1) := by decide +kernel
theorem dL_law_1023 : decode cL_law 1023 = .ok (.iaload, 1) := by decide +kernel
theorem dL_law_1024 : decode cL_law 1024 = .ok (.invokevirtual 124, 3) := by decide +kernel
theorem dL_law_1027 : decode cL_law 1027 = .ok (.if_icmp .eq 64, 3) := by decide +kernel
theorem dL_law_1030 : decode cL_law 1030 = .ok (.iconst 0, 1) := by decide +kernel
theorem dL_law_1031 : decode cL_law 1031 = .ok (.ireturn, 1) := by decide +kernel
theorem dL_law_1032 : decode cL_law 1032 = .ok (.aload_n 1, 1) := by decide +kernel
theorem dL_law_1033 : decode cL_law 1033 = .ok (.aload_n 0, 1) := by decide +kernel
theorem dL_law_1034 : decode cL_law 1034 = .ok (.iload_n 3, 1) := by decide +kernel
theorem dL_law_1035 : decode cL_law 1035 = .ok (.iconst 1, 1) := by decide +kernel
theorem dL_law_1036 : decode cL_law 1036 = .ok (.iadd, 1) := by decide +kernel
theorem dL_law_1037 : decode cL_law 1037 = .ok (.iaload, 1) := by decide +kernel
theorem dL_law_1038 : decode cL_law 1038 = .ok (.invokevirtual 125, 3) := by decide +kernel
theorem dL_law_1041 : decode cL_law 1041 = .ok (.aload_n 2, 1) := by decide +kernel
theorem dL_law_1042 : decode cL_law 1042 = .ok (.aload_n 0, 1) := by decide +kernel
theorem dL_law_1043 : decode cL_law 1043 = .ok (.iload_n 3, 1) := by decide +kernel
theorem dL_law_1044 : decode cL_law 1044 = .ok (.iconst 1, 1) := by decide +kernel
theorem dL_law_1045 : decode cL_law 1045 = .ok (.iadd, 1) := by decide +kernel
theorem dL_law_1046 : decode cL_law 1046 = .ok (.iaload, 1) := by decide +kernel
theorem dL_law_1047 : decode cL_law 1047 = .ok (.invokevirtual 128, 3) := by decide +kernel
theorem dL_law_1050 : decode cL_law 1050 = .ok (.if_icmp .eq 41, 3) := by decide +kernel
theorem dL_law_1053 : decode cL_law 1053 = .ok (.iconst 0, 1) := by decide +kernel
theorem dL_law_1054 : decode cL_law 1054 = .ok (.ireturn, 1) := by decide +kernel
theorem dL_law_1055 : decode cL_law 1055 = .ok (.aload_n 1, 1) := by decide +kernel
theorem dL_law_1056 : decode cL_law 1056 = .ok (.aload_n 0, 1) := by decide +kernel
theorem dL_law_1057 : decode cL_law 1057 = .ok (.iload_n 3, 1) := by decide +kernel
theorem dL_law_1058 : decode cL_law 1058 = .ok (.iconst 1, 1) := by decide +kernel
theorem dL_law_1059 : decode cL_law 1059 = .ok (.iadd, 1) := by decide +kernel
theorem dL_law_1060 : decode cL_law 1060 = .ok (.iaload, 1) := by decide +kernel
theorem dL_law_1061 : decode cL_law 1061 = .ok (.invokevirtual 129, 3) := by decide +kernel
theorem dL_law_1064 : decode cL_law 1064 = .ok (.aload_n 2, 1) := by decide +kernel
theorem dL_law_1065 : decode cL_law 1065 = .ok (.aload_n 0, 1) := by decide +kernel
theorem dL_law_1066 : decode cL_law 1066 = .ok (.iload_n 3, 1) := by decide +kernel
theorem dL_law_1067 : decode cL_law 1067 = .ok (.iconst 1, 1) := by decide +kernel
theorem dL_law_1068 : decode cL_law 1068 = .ok (.iadd, 1) := by decide +kernel
theorem dL_law_1069 : decode cL_law 1069 = .ok (.iaload, 1) := by decide +kernel
theorem dL_law_1070 : decode cL_law 1070 = .ok (.invokevirtual 132, 3) := by decide +kernel
theorem dL_law_1073 : decode cL_law 1073 = .ok (.if_icmp .eq 18, 3) := by decide +kernel
theorem dL_law_1076 : decode cL_law 1076 = .ok (.iconst 0, 1) := by decide +kernel
theorem dL_law_1077 : decode cL_law 1077 = .ok (.ireturn, 1) := by decide +kernel
theorem dL_law_1078 : decode cL_law 1078 = .ok (.aload_n 1, 1) := by decide +kernel
theorem dL_law_1079 : decode cL_law 1079 = .ok (.invokevirtual 133, 3) := by decide +kernel
theorem dL_law_1082 : decode cL_law 1082 = .ok (.aload_n 2, 1) := by decide +kernel
theorem dL_law_1083 : decode cL_law 1083 = .ok (.invokevirtual 136, 3) := by decide +kernel
theorem dL_law_1086 : decode cL_law 1086 = .ok (.if_icmp .eq 5, 3) := by decide +kernel
theorem dL_law_1089 : decode cL_law 1089 = .ok (.iconst 0, 1) := by decide +kernel
theorem dL_law_1090 : decode cL_law 1090 = .ok (.ireturn, 1) := by decide +kernel
theorem dL_law_1091 : decode cL_law 1091 = .ok (.iinc 3 6, 3) := by decide +kernel
theorem dL_law_1094 : decode cL_law 1094 = .ok (.goto (-1076), 3) := by decide +kernel
theorem dL_law_1097 : decode cL_law 1097 = .ok (.iconst 1, 1) := by decide +kernel
theorem dL_law_1098 : decode cL_law 1098 = .ok (.ireturn, 1) := by decide +kernel
end
section
abbrev EG : Type := va_G × (Nat → Nat) × Launch
abbrev MD : Type := MethodName × ByteArray × Nat × Option FieldType
abbrev mX0_init : MD := (yX0_init, cX0_init, 1, none)
abbrev mX0_keep : MD := (yX0_keep, cX0_keep, 3, none)
abbrev mX0_takeBack : MD := (yX0_takeBack, cX0_takeBack, 3, none)
abbrev mX0_forgetAll : MD := (yX0_forgetAll, cX0_forgetAll, 1, none)
abbrev mX1_init : MD := (yX1_init, cX1_init, 2, none)
abbrev mX1_nearestBody : MD := (yX1_nearestBody, cX1_nearestBody, 4, (some .int))
abbrev mX1_leave : MD := (yX1_leave, cX1_leave, 2, none)
abbrev mX1_answer : MD := (yX1_answer, cX1_answer, 5, (some .int))
abbrev mX1_runBody : MD := (yX1_runBody, cX1_runBody, 4, (some .int))
abbrev mX1_askAnew : MD := (yX1_askAnew, cX1_askAnew, 3, (some .int))
abbrev mX3_init : MD := (yX3_init, cX3_init, 1, none)
abbrev mX2_init : MD := (yX2_init, cX2_init, 2, none)
abbrev mX3_take : MD := (yX3_take, cX3_take, 2, none)
abbrev mX3_countHeads : MD := (yX3_countHeads, cX3_countHeads, 2, none)
abbrev mX3_goalOf : MD := (yX3_goalOf, cX3_goalOf, 8, (some .int))
abbrev mX3_ring : MD := (yX3_ring, cX3_ring, 3, (some .int))
abbrev mX2_ringTimes : MD := (yX2_ringTimes, cX2_ringTimes, 3, none)
abbrev mX2_whereBehind : MD := (yX2_whereBehind, cX2_whereBehind, 3, (some .int))
abbrev mX3_headsIn : MD := (yX3_headsIn, cX3_headsIn, 4, (some .int))
abbrev mX2_headsBehind : MD := (yX2_headsBehind, cX2_headsBehind, 3, (some .int))
abbrev mX2_worth : MD := (yX2_worth, cX2_worth, 5, (some .int))
abbrev mX2_bellsToRest : MD := (yX2_bellsToRest, cX2_bellsToRest, 3, (some .int))
abbrev mX2_allAsNow : MD := (yX2_allAsNow, cX2_allAsNow, 2, (some .boolean))
abbrev mX2_bellsToRing : MD := (yX2_bellsToRing, cX2_bellsToRing, 2, (some .int))
abbrev mX3_hire : MD := (yX3_hire, cX3_hire, 3, none)
abbrev mX2_succeeds : MD := (yX2_succeeds, cX2_succeeds, 8, (some .boolean))
abbrev mX2_findHired : MD := (yX2_findHired, cX2_findHired, 8, (some .boolean))
abbrev mX2_meet : MD := (yX2_meet, cX2_meet, 5, (some .boolean))
abbrev mX3_doorBetween : MD := (yX3_doorBetween, cX3_doorBetween, 3, (some .int))
abbrev mX3_putDoor : MD := (yX3_putDoor, cX3_putDoor, 4, none)
abbrev mX2_partedBy : MD := (yX2_partedBy, cX2_partedBy, 6, (some .boolean))
abbrev mX2_doorToShut : MD := (yX2_doorToShut, cX2_doorToShut, 6, (some .int))
abbrev mX2_seenFrom : MD := (yX2_seenFrom, cX2_seenFrom, 4, (some .int))
abbrev mX2_findSources : MD := (yX2_findSources, cX2_findSources, 5, none)
abbrev mX2_canBegin : MD := (yX2_canBegin, cX2_canBegin, 5, (some .boolean))
abbrev mX2_countWay : MD := (yX2_countWay, cX2_countWay, 2, none)
abbrev mX2_findBeginnings : MD := (yX2_findBeginnings, cX2_findBeginnings, 4, none)
abbrev mX3_clear : MD := (yX3_clear, cX3_clear, 2, none)
abbrev mX3_isRoom : MD := (yX3_isRoom, cX3_isRoom, 2, (some .boolean))
abbrev mX3_isCrowd : MD := (yX3_isCrowd, cX3_isCrowd, 2, (some .boolean))
abbrev mX3_allHeads : MD := (yX3_allHeads, cX3_allHeads, 3, (some .int))
abbrev mX3_addHeads : MD := (yX3_addHeads, cX3_addHeads, 3, none)
abbrev mX4_init : MD := (yX4_init, cX4_init, 2, none)
abbrev mX6_isBlank : MD := (yX6_isBlank, cX6_isBlank, 1, (some .boolean))
abbrev mX6_isLetter : MD := (yX6_isLetter, cX6_isLetter, 1, (some .boolean))
abbrev mX6_passLetters : MD := (yX6_passLetters, cX6_passLetters, 1, none)
abbrev mX6_isFigure : MD := (yX6_isFigure, cX6_isFigure, 1, (some .boolean))
abbrev mX6_passFigures : MD := (yX6_passFigures, cX6_passFigures, 1, none)
abbrev mX6_step : MD := (yX6_step, cX6_step, 1, none)
abbrev mX6_rewind : MD := (yX6_rewind, cX6_rewind, 1, none)
abbrev mX6_isWord : MD := (yX6_isWord, cX6_isWord, 3, (some .boolean))
abbrev mX4_failed : MD := (yX4_failed, cX4_failed, 2, (some .boolean))
abbrev mX4_readWord : MD := (yX4_readWord, cX4_readWord, 3, (some .boolean))
abbrev mX4_readNumber : MD := (yX4_readNumber, cX4_readNumber, 4, (some .boolean))
abbrev mX4_readEnd : MD := (yX4_readEnd, cX4_readEnd, 1, (some .boolean))
abbrev mX4_readRoom : MD := (yX4_readRoom, cX4_readRoom, 2, (some .boolean))
abbrev mX4_readDoor : MD := (yX4_readDoor, cX4_readDoor, 3, (some .boolean))
abbrev mX4_sortNamed : MD := (yX4_sortNamed, cX4_sortNamed, 1, (some .int))
abbrev mX4_readCrowd : MD := (yX4_readCrowd, cX4_readCrowd, 4, (some .boolean))
abbrev mX4_readPart : MD := (yX4_readPart, cX4_readPart, 1, (some .boolean))
abbrev mX4_readTape : MD := (yX4_readTape, cX4_readTape, 3, (some .boolean))
abbrev mX5_init : MD := (yX5_init, cX5_init, 1, none)
abbrev mX5_make : MD := (yX5_make, cX5_make, 4, none)
abbrev mX5_holds : MD := (yX5_holds, cX5_holds, 3, (some .boolean))
abbrev mX5_put : MD := (yX5_put, cX5_put, 4, (some .int))
abbrev mX5_holdsSets : MD := (yX5_holdsSets, cX5_holdsSets, 5, (some .boolean))
abbrev mX5_countBit : MD := (yX5_countBit, cX5_countBit, 6, (some .int))
abbrev mX6_init : MD := (yX6_init, cX6_init, 1, none)
abbrev mX6_append : MD := (yX6_append, cX6_append, 5, none)
abbrev mX7_init : MD := (yX7_init, cX7_init, 2, none)
abbrev mX7_isRow : MD := (yX7_isRow, cX7_isRow, 1, (some .boolean))
abbrev mX7_found : MD := (yX7_found, cX7_found, 2, (some .int))
abbrev mX7_row : MD := (yX7_row, cX7_row, 4, (some .int))
abbrev mX7_set : MD := (yX7_set, cX7_set, 5, (some .int))
abbrev mX7_copy : MD := (yX7_copy, cX7_copy, 8, (some .int))
abbrev mX7_drop : MD := (yX7_drop, cX7_drop, 2, (some .int))
abbrev mX7_feed : MD := (yX7_feed, cX7_feed, 4, (some .int))
abbrev mX7_house : MD := (yX7_house, cX7_house, 3, (some .int))
abbrev mX7_fault : MD := (yX7_fault, cX7_fault, 1, (some .int))
abbrev mX7_bell : MD := (yX7_bell, cX7_bell, 1, (some .int))
abbrev mX7_tooManyHeads : MD := (yX7_tooManyHeads, cX7_tooManyHeads, 5, (some .boolean))
abbrev mX7_bells : MD := (yX7_bells, cX7_bells, 6, (some .int))
abbrev mX7_door : MD := (yX7_door, cX7_door, 5, (some .int))
abbrev mX7_heads : MD := (yX7_heads, cX7_heads, 4, (some .int))
abbrev mX7_undo : MD := (yX7_undo, cX7_undo, 1, (some .int))
abbrev mX7_crowd : MD := (yX7_crowd, cX7_crowd, 3, (some .int))
abbrev mX7_room : MD := (yX7_room, cX7_room, 3, (some .int))
abbrev mX7_ahead : MD := (yX7_ahead, cX7_ahead, 3, (some .int))
abbrev mX7_roomAhead : MD := (yX7_roomAhead, cX7_roomAhead, 4, (some .int))
abbrev mX7_rest : MD := (yX7_rest, cX7_rest, 2, (some .int))
abbrev mX7_fewest : MD := (yX7_fewest, cX7_fewest, 5, (some .int))
abbrev mX7_hired : MD := (yX7_hired, cX7_hired, 4, (some .int))
abbrev mX7_empty : MD := (yX7_empty, cX7_empty, 4, (some .int))
abbrev mX7_apart : MD := (yX7_apart, cX7_apart, 4, (some .int))
abbrev mX7_began : MD := (yX7_began, cX7_began, 3, (some .int))
abbrev mX7_image : MD := (yX7_image, cX7_image, 2, (some .int))
abbrev mX7_restore : MD := (yX7_restore, cX7_restore, 2, (some .int))
abbrev mX7_kind : MD := (yX7_kind, cX7_kind, 2, (some .int))
abbrev mX7_isA : MD := (yX7_isA, cX7_isA, 4, (some .boolean))
abbrev mX7_as : MD := (yX7_as, cX7_as, 3, (some .int))
abbrev mX7_ask : MD := (yX7_ask, cX7_ask, 3, (some .int))
abbrev mX7_trace : MD := (yX7_trace, cX7_trace, 2, (some .int))
abbrev mX7_countRows : MD := (yX7_countRows, cX7_countRows, 3, (some .int))
abbrev mX7_count : MD := (yX7_count, cX7_count, 2, (some .int))
abbrev mX7_status : MD := (yX7_status, cX7_status, 1, (some .int))
abbrev mX8_init : MD := (yX8_init, cX8_init, 1, none)
abbrev mX8_in : MD := (yX8_in, cX8_in, 6, (some .boolean))
abbrev mX8_finding : MD := (yX8_finding, cX8_finding, 2, (some .int))
abbrev mX8_isRow : MD := (yX8_isRow, cX8_isRow, 1, (some .boolean))
abbrev mX8_row : MD := (yX8_row, cX8_row, 5, (some .int))
abbrev mX8_set : MD := (yX8_set, cX8_set, 4, (some .int))
abbrev mX8_copy : MD := (yX8_copy, cX8_copy, 9, (some .int))
abbrev mX8_drop : MD := (yX8_drop, cX8_drop, 2, (some .int))
abbrev mX8_feed : MD := (yX8_feed, cX8_feed, 5, (some .int))
abbrev mX8_byteAt : MD := (yX8_byteAt, cX8_byteAt, 2, (some .int))
abbrev mX8_isLetter : MD := (yX8_isLetter, cX8_isLetter, 1, (some .boolean))
abbrev mX8_isFigure : MD := (yX8_isFigure, cX8_isFigure, 1, (some .boolean))
abbrev mX8_next : MD := (yX8_next, cX8_next, 2, none)
abbrev mX8_begin : MD := (yX8_begin, cX8_begin, 1, none)
abbrev mX8_bad : MD := (yX8_bad, cX8_bad, 2, none)
abbrev mX8_must : MD := (yX8_must, cX8_must, 2, none)
abbrev mX8_name : MD := (yX8_name, cX8_name, 4, (some .long))
abbrev mX8_figures : MD := (yX8_figures, cX8_figures, 3, (some .int))
abbrev mX8_number : MD := (yX8_number, cX8_number, 4, (some .int))
abbrev mX8_kindBy : MD := (yX8_kindBy, cX8_kindBy, 2, (some .int))
abbrev mX8_mustEnd : MD := (yX8_mustEnd, cX8_mustEnd, 1, none)
abbrev mX8_begins : MD := (yX8_begins, cX8_begins, 3, none)
abbrev mX8_readRoom : MD := (yX8_readRoom, cX8_readRoom, 2, none)
abbrev mX8_readDoor : MD := (yX8_readDoor, cX8_readDoor, 3, none)
abbrev mX8_readCrowd : MD := (yX8_readCrowd, cX8_readCrowd, 5, none)
abbrev mX8_house : MD := (yX8_house, cX8_house, 2, (some .int))
abbrev mX8_fault : MD := (yX8_fault, cX8_fault, 1, (some .int))
abbrev mX8_isThere : MD := (yX8_isThere, cX8_isThere, 1, (some .boolean))
abbrev mX8_isRoom : MD := (yX8_isRoom, cX8_isRoom, 2, (some .boolean))
abbrev mX8_isCrowd : MD := (yX8_isCrowd, cX8_isCrowd, 2, (some .boolean))
abbrev mX8_of : MD := (yX8_of, cX8_of, 3, (some .int))
abbrev mX8_layNow : MD := (yX8_layNow, cX8_layNow, 2, none)
abbrev mX8_layCounts : MD := (yX8_layCounts, cX8_layCounts, 2, none)
abbrev mX8_draws : MD := (yX8_draws, cX8_draws, 3, (some .int))
abbrev mX8_goesTo : MD := (yX8_goesTo, cX8_goesTo, 7, (some .int))
abbrev mX8_goBell : MD := (yX8_goBell, cX8_goBell, 3, (some .int))
abbrev mX8_goBells : MD := (yX8_goBells, cX8_goBells, 4, none)
abbrev mX8_keep : MD := (yX8_keep, cX8_keep, 2, none)
abbrev mX8_ring : MD := (yX8_ring, cX8_ring, 3, (some .int))
abbrev mX8_bell : MD := (yX8_bell, cX8_bell, 1, (some .int))
abbrev mX8_headsOfAll : MD := (yX8_headsOfAll, cX8_headsOfAll, 3, (some .int))
abbrev mX8_haveRoom : MD := (yX8_haveRoom, cX8_haveRoom, 7, (some .boolean))
abbrev mX8_bells : MD := (yX8_bells, cX8_bells, 8, (some .int))
abbrev mX8_door : MD := (yX8_door, cX8_door, 5, (some .int))
abbrev mX8_heads : MD := (yX8_heads, cX8_heads, 4, (some .int))
abbrev mX8_undo : MD := (yX8_undo, cX8_undo, 2, (some .int))
abbrev mX8_crowd : MD := (yX8_crowd, cX8_crowd, 3, (some .int))
abbrev mX8_room : MD := (yX8_room, cX8_room, 3, (some .int))
abbrev mX8_ahead : MD := (yX8_ahead, cX8_ahead, 3, (some .int))
abbrev mX8_roomAhead : MD := (yX8_roomAhead, cX8_roomAhead, 7, (some .int))
abbrev mX8_restIn : MD := (yX8_restIn, cX8_restIn, 3, (some .int))
abbrev mX8_ringIn : MD := (yX8_ringIn, cX8_ringIn, 5, (some .int))
abbrev mX8_rest : MD := (yX8_rest, cX8_rest, 2, (some .int))
abbrev mX8_layHired : MD := (yX8_layHired, cX8_layHired, 3, none)
abbrev mX8_isSo : MD := (yX8_isSo, cX8_isSo, 5, (some .boolean))
abbrev mX8_hire : MD := (yX8_hire, cX8_hire, 7, (some .int))
abbrev mX8_hired : MD := (yX8_hired, cX8_hired, 4, (some .int))
abbrev mX8_empty : MD := (yX8_empty, cX8_empty, 4, (some .int))
abbrev mX8_areApart : MD := (yX8_areApart, cX8_areApart, 8, (some .boolean))
abbrev mX8_apart : MD := (yX8_apart, cX8_apart, 6, (some .int))
abbrev mX8_layBegan : MD := (yX8_layBegan, cX8_layBegan, 4, none)
abbrev mX8_began : MD := (yX8_began, cX8_began, 9, (some .int))
abbrev mX8_image : MD := (yX8_image, cX8_image, 3, (some .int))
abbrev mX8_restore : MD := (yX8_restore, cX8_restore, 3, (some .int))
abbrev mX8_isOf : MD := (yX8_isOf, cX8_isOf, 2, (some .boolean))
abbrev mX8_kind : MD := (yX8_kind, cX8_kind, 2, (some .int))
abbrev mX8_as : MD := (yX8_as, cX8_as, 3, (some .int))
abbrev mX8_stepped : MD := (yX8_stepped, cX8_stepped, 2, none)
abbrev mX8_plainSize : MD := (yX8_plainSize, cX8_plainSize, 2, (some .int))
abbrev mX8_staySize : MD := (yX8_staySize, cX8_staySize, 3, (some .int))
abbrev mX8_markOf : MD := (yX8_markOf, cX8_markOf, 4, (some .int))
abbrev mX8_sizeOf : MD := (yX8_sizeOf, cX8_sizeOf, 4, (some .int))
abbrev mX8_ask : MD := (yX8_ask, cX8_ask, 3, (some .int))
abbrev mX8_trace : MD := (yX8_trace, cX8_trace, 2, (some .int))
abbrev mX8_count : MD := (yX8_count, cX8_count, 4, (some .int))
abbrev mX8_status : MD := (yX8_status, cX8_status, 1, (some .int))
end
section
/-! THE THIN LAYER: one judgement V of an activation (its world, locals, stack, place in the code), contracts Ctr of methods, over the kit's W and Met. -/
abbrev MX : Type := Program × Env × State × MethodId × Array Value × List Frame × Method × Code × (Nat → Prop)
abbrev PO : Type := Option Value → va_W → Prop
abbrev RQ : Type := Nat × Nat × Nat
abbrev ZX : Type := PO × Nat × MX
abbrev zO (Z : ZX) : PO := Z.1
abbrev zn (Z : ZX) : Nat := Z.2.1
abbrev zp (Z : ZX) : Program := Z.2.2.1
abbrev ze (Z : ZX) : Env := Z.2.2.2.1
abbrev zs (Z : ZX) : State := Z.2.2.2.2.1
abbrev zm (Z : ZX) : MethodId := Z.2.2.2.2.2.1
abbrev za (Z : ZX) : Array Value := Z.2.2.2.2.2.2.1
abbrev zb (Z : ZX) : List Frame := Z.2.2.2.2.2.2.2.1
abbrev zh (Z : ZX) : Method := Z.2.2.2.2.2.2.2.2.1
abbrev zc (Z : ZX) : Code := Z.2.2.2.2.2.2.2.2.2.1
abbrev zA (Z : ZX) : Nat → Prop := Z.2.2.2.2.2.2.2.2.2.2
def isNest : Cond → Bool
  | .methodLinkNest .. => true
  | .fieldLinkNest .. => true
  | _ => false
def gw : List Cond := lw_tbl.filter goodWord
def rmQ (q : RQ) : Room := { frames := q.1, cells := q.2.1, slots := q.2.2, locals := 64 * q.1 }
abbrev clsX : List vw_C := [(RX0, TX0, 3), (RX1, TX1, 3), (RX2, TX2, 7), (RX3, TX3, 14), (RX4, TX4, 5), (RX5, TX5, 4), (RX6, TX6, 6), (RX7, TX7, 10), (RX8, TX8, 32)]
abbrev tysX (E : EG) : List (ClassId × FieldType) := [(E.1.1 100, .int), (E.1.1 101, .object RX5), (E.1.1 102, .object RX3), (E.1.1 103, .boolean)]
def namP (k : Nat) : String := match k with
  | 0 => "PARENT"
  | 1 => "SIZE_BODY"
  | _ => "MARK_BODY"
def tabP (k : Nat) : Nat → Int32 := fun j => (([[0, 0, 1, 1, 0, 4], [10, 11, 12, 0, 13, 14], [20, 21, 24, 22, 23, 0]] : List (List Int32)).getD k []).getD j 0
def idxS : List Nat := [47, 53, 86, 111, 113, 115, 117, 119]
def txtS : List String := ["room", "door", "crowd", "most", "like", "late", "stay", "few"]
def lenS : List Nat := [4, 4, 5, 4, 4, 4, 4, 3]
def bytS : List (List Int32) := [[114, 111, 111, 109], [100, 111, 111, 114], [99, 114, 111, 119, 100], [109, 111, 115, 116], [108, 105, 107, 101], [108, 97, 116, 101], [115, 116, 97, 121], [102, 101, 119]]
/-- what stays all the time: the classes, the nest words, the constant arrays, the constant texts -/
def GS (E : EG) (A : Nat → Prop) (U : State) (H : Heap) : Prop :=
  va_K E.1 clsX (tysX E) U ∧ (∀ w ∈ lw_tbl, isNest w = true → va_Nw w U) ∧ (∀ i, i < 3 → va_Z RX7 (namP i) "[I" (.ref (E.2.1 i)) A U H ∧ va_T .int (E.2.1 i) 6 (fun j => .int (tabP i j)) A U H) ∧
  vk_S 8 lenS bytS (fun i => E.2.1 (10 + i)) (fun i => E.2.1 (20 + i)) A U H ∧ ∀ i, i < 8 → vk_R RX4 (idxS.getD i 0) (txtS.getD i "") (E.2.1 (10 + i)) U
theorem nestWarm {s U : State} (hW : s.WarmedH U.vm) {w : Cond} (hw : isNest w = true) (h : va_Nw w s) : va_Nw w U := by
  cases w with
  | methodLinkNest a i x h2 => exact va_Nw.warmM hW h
  | fieldLinkNest a i b n d h2 => exact va_Nw.warmF hW h
  | _ => cases hw
theorem nestSame {s U : State} (hv : s.vm = U.vm) {w : Cond} (hw : isNest w = true) (h : va_Nw w s) : va_Nw w U := by
  cases w with
  | methodLinkNest a i x h2 => exact va_Nw.same rfl hv h
  | fieldLinkNest a i b n d h2 => exact va_Nw.same rfl hv h
  | _ => cases hw
theorem GS.go {E : EG} {A A' : Nat → Prop} {s U : State} {H0 H : Heap} {locs : List Loc} (h : GS E A s H0) (hS : va_S A H0 H locs) (hW : s.WarmedH U.vm) (hA : ∀ q, A' q → A q) : GS E A' U H := by
  obtain ⟨h1, h2, h3, h4, h5⟩ := h
  refine ⟨va_K.moved hW.alike h1, fun w hw hn => nestWarm hW hn (h2 w hw hn), fun i hi => ?_, ?_, fun i hi => (h5 i hi).warm hW⟩
  · obtain ⟨q1, q2⟩ := h3 i hi
    exact ⟨((q1.kept hS.2.1).moved hW.alike).narrow hA, ((q2.kept hS.2.1).moved hW.alike).narrow hA⟩
  · exact ((h4.kept hS.2.1).moved hW.alike).narrow hA
theorem GS.same {E : EG} {A : Nat → Prop} {s U : State} {H : Heap} (h : GS E A s H) (hv : s.vm = U.vm) : GS E A U H := by
  have hal : s.vm.Alike U.vm := by rw [hv]; exact Vm.Alike.refl _
  obtain ⟨h1, h2, h3, h4, h5⟩ := h
  refine ⟨va_K.moved hal h1, fun w hw hn => nestSame hv hn (h2 w hw hn), fun i hi => ?_, h4.moved hal, fun i hi => vk_R.same hv.symm (h5 i hi)⟩
  obtain ⟨q1, q2⟩ := h3 i hi
  exact ⟨q1.moved hal, q2.moved hal⟩
/-- a method's end -/
def QQ (E : EG) (n : Nat) (post : PO) (A : Nat → Prop) : Array Value → State → Outcome → State → Prop := fun _ st oc t => (∃ (r : Option Value) (w : va_W), oc = .returned r ∧ post r w ∧ n ≤ w.length ∧ va_P E.1 clsX w t.heap ∧ va_D A w) ∧ va_F A st t
def PP (E : EG) (sz : Nat) (ws : va_W) : State → Prop := fun U => U.heap.size = sz ∧ va_P E.1 clsX ws U.heap ∧ va_D (fun _ => True) ws ∧ GS E (va_A ws sz) U U.heap
/-- a method's contract -/
def Ctr (E : EG) (M : MD) (q : RQ) (av : List Value) (ws : va_W) (post : PO) : Prop :=
  ∀ sz : Nat, Met E.2.2 M.1 (.code M.1 M.2.1 M.2.2.1 M.2.2.2 :: gw) (rmQ q) (va_Pc av (PP E sz ws)) (QQ E ws.length post (va_A ws sz)) q.2.1 q.2.2 (va_A ws sz)
/-- what is known in an activation -/
def CX (E : EG) (M : MD) (q : RQ) (Z : ZX) : Prop :=
  (zp Z).tables.exec = Jvm.exec ∧ (zc Z).code = M.2.1 ∧ (zc Z).maxLocals = M.2.2.1 ∧ (zh Z).sig.returnType = M.2.2.2 ∧ (zs Z).vm.findClass M.1.cls = some (zm Z).cls ∧ (∀ w ∈ gw, w.before (za Z) (zs Z) = true) ∧ (zh Z).locks = false ∧
  (∀ q, (zs Z).heap.size ≤ q → zA Z q) ∧ GS E (zA Z) (zs Z) (zs Z).heap ∧ (M.1.name = "<init>" → (zh Z).name = "<init>")
def V (E : EG) (M : MD) (q : RQ) (Z : ZX) (k n : Nat) (ws : va_W) (ls : List (Nat × Value)) (st : List Value) (pc : Nat) : Prop :=
  ∀ (H : Heap) (locs : List Loc) (lv : Array Slot), va_P E.1 clsX ws H → va_D (zA Z) ws → va_S (zA Z) (zs Z).heap H locs → lv_has lv M.2.2.1 ls →
    W (zp Z) E.2.2 (ze Z) (rmQ q) (zs Z) (zm Z) (za Z) (zb Z) (zh Z) (zc Z) H locs k n (MQ (zb Z) (QQ E (zn Z) (zO Z) (zA Z)) (za Z) (zs Z) q.2.1 q.2.2 (zA Z)) (F0 (zm Z) pc lv st)
theorem Ctr.of {E : EG} {M : MD} {q : RQ} {av : List Value} {ws : va_W} {post : PO} (hy : plainName M.1.cls = true) (hn : (lg_sl av).length ≤ M.2.2.1)
    (body : ∀ Z : ZX, zO Z = post → zn Z = ws.length → CX E M q Z → V E M q Z 0 0 ws (lv_args 0 av) [] 0) : Ctr E M q av ws post := by
  intro sz
  refine Met.ofW (cc := M.2.1) (maxL := M.2.2.1) (ret := M.2.2.2) hy rfl ?_
  intro p e s m args below meth c s₁ B hml hv
  obtain ⟨rfl, hsz, hP, hD0, hG⟩ := hv
  subst hsz
  have hts := atoms_spec (ws := .code M.1 M.2.1 M.2.2.1 M.2.2.2 :: gw) B.pre
  have hD := hD0.self (sz := s.heap.size)
  have K := body (post, ws.length, (p, e, s, m, av.toArray, below, meth, c, va_A ws s.heap.size)) rfl rfl ⟨B.exec, B.bytes, hml, B.returns, findClass_of_methodNamed B.named, fun w hw => hts w (List.mem_cons_of_mem _ hw), B.notSynchronized, fun q h => Or.inr h, hG, fun h => (name_of_methodNamed B.named B.method).1.trans h⟩ s.heap [] _ hP hD va_S.rf (lv_entry av hn)
  rw [lg_entry_eq]
  exact K
theorem gw_mem {w : Cond} (h : w ∈ lw_tbl) (hg : goodWord w = true) : w ∈ gw := List.mem_filter.mpr ⟨h, hg⟩
theorem gw_good {y : MethodName} {b : ByteArray} {n : Nat} {r : Option FieldType} (h : Cond.code y b n r ∈ gw) : GoodIn gw (.code y b n r :: gw) := by
  intro w hw
  rcases List.mem_cons.mp hw with rfl | hw
  · exact ⟨h, good_of_word (List.mem_filter.mp h).2⟩
  · exact ⟨hw, good_of_word (List.mem_filter.mp hw).2⟩
theorem lk_mem {l : List (Nat × Value)} {i : Nat} {v : Value} (hk : l.lookup i = some v) : (i, v) ∈ l := by
  induction l with
  | nil => cases hk
  | cons a l ih =>
    obtain ⟨a1, a2⟩ := a
    simp only [List.lookup] at hk
    split at hk
    · rename_i e
      cases hk
      rw [eq_of_beq e]
      exact List.mem_cons_self
    · exact List.mem_cons_of_mem _ (ih hk)
theorem lk_at {lv : Array Slot} {nL : Nat} {l : List (Nat × Value)} (h : lv_has lv nL l) {i : Nat} {v : Value} (hk : l.lookup i = some v) : lv[i]? = some (.val v) := h.2.2 (i, v) (lk_mem hk)
/-- a field's link in a class: slot kf of class ci -/
def FL (own : String) (index ci kf : Nat) : Prop := ∃ (C : String) (T : u_T) (N : Nat), clsX[ci]? = some (C, T, N) ∧ kf < N ∧ (∀ w ∈ u_ws C T N, w ∈ gw) ∧ Cond.fieldLink own index (T kf).1 (T kf).2.1 (T kf).2.2.1 ∈ gw
/-- the same with what a store needs: it isn't final, its type -/
def FS (own : String) (index ci kf : Nat) (ty : FieldType) : Prop := ∃ (C : String) (T : u_T) (N : Nat) (ty0 : Nat → FieldType), clsX[ci]? = some (C, T, N) ∧ kf < N ∧ (∀ w ∈ u_ws C T N, w ∈ gw) ∧ Cond.fieldLink own index (T kf).1 (T kf).2.1 (T kf).2.2.1 ∈ gw ∧
  (∀ k, k < N → parseFieldDescriptor (T k).2.2.1 = some (ty0 k)) ∧ (∀ a, a < N → ∀ b, b < N → a ≠ b → (T a).2.1 ≠ (T b).2.1) ∧ (T kf).2.2.2 = false ∧ ty0 kf = ty
section ROWS
variable {E : EG} {M : MD} {q : RQ} {Z : ZX} {k n pc : Nat} {ws : va_W} {ls : List (Nat × Value)} {st : List Value}
theorem mr_iconst (C : CX E M q Z) {i : Int} (v : Int32) (pc' : Nat) (d : decode M.2.1 pc = .ok (.iconst i, 1)) (hp : pc + 1 = pc') (hv : Int32.ofInt i = v) (kk : V E M q Z k n ws ls (.int v :: st) pc') : V E M q Z k n ws ls st pc := by
  subst hp
  exact fun H locs lv hP hD hS hl => lv_iconst C.1 C.2.1 d hv (kk H locs lv hP hD hS hl)
theorem mr_bipush (C : CX E M q Z) {i : Int} (v : Int32) (pc' : Nat) (d : decode M.2.1 pc = .ok (.bipush i, 2)) (hp : pc + 2 = pc') (hv : (Int8.ofInt i).toInt32 = v) (kk : V E M q Z k n ws ls (.int v :: st) pc') : V E M q Z k n ws ls st pc := by
  subst hp
  exact fun H locs lv hP hD hS hl => lv_bipush C.1 C.2.1 d hv (kk H locs lv hP hD hS hl)
theorem mr_sipush (C : CX E M q Z) {i : Int} (v : Int32) (pc' : Nat) (d : decode M.2.1 pc = .ok (.sipush i, 3)) (hp : pc + 3 = pc') (hv : (Int16.ofInt i).toInt32 = v) (kk : V E M q Z k n ws ls (.int v :: st) pc') : V E M q Z k n ws ls st pc := by
  subst hp
  exact fun H locs lv hP hD hS hl => lv_sipush C.1 C.2.1 d hv (kk H locs lv hP hD hS hl)
theorem mr_lconst (C : CX E M q Z) {i : Fin 2} (v : Int64) (pc' : Nat) (d : decode M.2.1 pc = .ok (.lconst i, 1)) (hp : pc + 1 = pc') (hv : Int64.ofNat (i : Nat) = v) (kk : V E M q Z k n ws ls (.long v :: st) pc') : V E M q Z k n ws ls st pc := by
  subst hp
  exact fun H locs lv hP hD hS hl => lv_lconst C.1 C.2.1 d hv (kk H locs lv hP hD hS hl)
theorem mr_ldc (C : CX E M q Z) {i : Nat} {v : Int32} (pc' : Nat) (d : decode M.2.1 pc = .ok (.ldc i, 2)) (hp : pc + 2 = pc') (hw : Cond.constant M.1.cls i v ∈ gw) (kk : V E M q Z k n ws ls (.int v :: st) pc') : V E M q Z k n ws ls st pc := by
  subst hp
  exact fun H locs lv hP hD hS hl => lv_ldc C.1 C.2.1 C.2.2.2.2.1 (C.2.2.2.2.2.1 _ hw) d (kk H locs lv hP hD hS hl)
theorem mr_ldc2 (C : CX E M q Z) {i : Nat} {v : Int64} (pc' : Nat) (d : decode M.2.1 pc = .ok (.ldc2_w i, 3)) (hp : pc + 3 = pc') (hw : Cond.constantLong M.1.cls i v ∈ gw) (kk : V E M q Z k n ws ls (.long v :: st) pc') : V E M q Z k n ws ls st pc := by
  subst hp
  exact fun H locs lv hP hD hS hl => lv_ldc2 C.1 C.2.1 C.2.2.2.2.1 (C.2.2.2.2.2.1 _ hw) d (kk H locs lv hP hD hS hl)
theorem mr_iload_n (C : CX E M q Z) {i : Fin 4} {x : Int32} (pc' : Nat) (d : decode M.2.1 pc = .ok (.iload_n i, 1)) (hp : pc + 1 = pc') (hl0 : ls.lookup (i : Nat) = some (.int x)) (kk : V E M q Z k n ws ls (.int x :: st) pc') : V E M q Z k n ws ls st pc := by
  subst hp
  exact fun H locs lv hP hD hS hl => lv_iload_n C.1 C.2.1 d rfl (lk_at hl hl0) (kk H locs lv hP hD hS hl)
theorem mr_iload (C : CX E M q Z) {i : Nat} {x : Int32} (pc' : Nat) (d : decode M.2.1 pc = .ok (.iload i, 2)) (hp : pc + 2 = pc') (hl0 : ls.lookup i = some (.int x)) (kk : V E M q Z k n ws ls (.int x :: st) pc') : V E M q Z k n ws ls st pc := by
  subst hp
  exact fun H locs lv hP hD hS hl => lv_iload C.1 C.2.1 d (lk_at hl hl0) (kk H locs lv hP hD hS hl)
theorem mr_aload_n (C : CX E M q Z) {i : Fin 4} {x : Nat} (pc' : Nat) (d : decode M.2.1 pc = .ok (.aload_n i, 1)) (hp : pc + 1 = pc') (hl0 : ls.lookup (i : Nat) = some (.ref x)) (kk : V E M q Z k n ws ls (.ref x :: st) pc') : V E M q Z k n ws ls st pc := by
  subst hp
  exact fun H locs lv hP hD hS hl => lv_aload_n C.1 C.2.1 d rfl (lk_at hl hl0) (kk H locs lv hP hD hS hl)
theorem mr_aload (C : CX E M q Z) {i : Nat} {x : Nat} (pc' : Nat) (d : decode M.2.1 pc = .ok (.aload i, 2)) (hp : pc + 2 = pc') (hl0 : ls.lookup i = some (.ref x)) (kk : V E M q Z k n ws ls (.ref x :: st) pc') : V E M q Z k n ws ls st pc := by
  subst hp
  exact fun H locs lv hP hD hS hl => lv_aload C.1 C.2.1 d (lk_at hl hl0) (kk H locs lv hP hD hS hl)
theorem mr_lload_n (C : CX E M q Z) {i : Fin 4} {x : Int64} (pc' : Nat) (d : decode M.2.1 pc = .ok (.lload_n i, 1)) (hp : pc + 1 = pc') (hl0 : ls.lookup (i : Nat) = some (.long x)) (kk : V E M q Z k n ws ls (.long x :: st) pc') : V E M q Z k n ws ls st pc := by
  subst hp
  exact fun H locs lv hP hD hS hl => lv_lload_n C.1 C.2.1 d rfl (lk_at hl hl0) (kk H locs lv hP hD hS hl)
theorem mr_lload (C : CX E M q Z) {i : Nat} {x : Int64} (pc' : Nat) (d : decode M.2.1 pc = .ok (.lload i, 2)) (hp : pc + 2 = pc') (hl0 : ls.lookup i = some (.long x)) (kk : V E M q Z k n ws ls (.long x :: st) pc') : V E M q Z k n ws ls st pc := by
  subst hp
  exact fun H locs lv hP hD hS hl => lv_lload C.1 C.2.1 d (lk_at hl hl0) (kk H locs lv hP hD hS hl)
theorem mr_istore_n (C : CX E M q Z) {j : Fin 4} {i : Nat} {x : Int32} (pc' : Nat) (d : decode M.2.1 pc = .ok (.istore_n j, 1)) (hp : pc + 1 = pc') (hi : (j : Nat) = i) (hb : i < M.2.2.1) (kk : V E M q Z k n ws ((i, .int x) :: ls.filter (fun q => !(q.1 == i) && !(q.1 + 1 == i && q.2.category == 2))) st pc') : V E M q Z k n ws ls (.int x :: st) pc := by
  subst hp
  exact fun H locs lv hP hD hS hl => lv_istore_n C.1 C.2.1 d hi hl hb rfl (fun lv hl => kk H locs lv hP hD hS hl)
theorem mr_istore (C : CX E M q Z) {i : Nat} {x : Int32} (pc' : Nat) (d : decode M.2.1 pc = .ok (.istore i, 2)) (hp : pc + 2 = pc') (hb : i < M.2.2.1) (kk : V E M q Z k n ws ((i, .int x) :: ls.filter (fun q => !(q.1 == i) && !(q.1 + 1 == i && q.2.category == 2))) st pc') : V E M q Z k n ws ls (.int x :: st) pc := by
  subst hp
  exact fun H locs lv hP hD hS hl => lv_istore C.1 C.2.1 d hl hb rfl (fun lv hl => kk H locs lv hP hD hS hl)
theorem mr_astore_n (C : CX E M q Z) {j : Fin 4} {i : Nat} {x : Nat} (pc' : Nat) (d : decode M.2.1 pc = .ok (.astore_n j, 1)) (hp : pc + 1 = pc') (hi : (j : Nat) = i) (hb : i < M.2.2.1) (kk : V E M q Z k n ws ((i, .ref x) :: ls.filter (fun q => !(q.1 == i) && !(q.1 + 1 == i && q.2.category == 2))) st pc') : V E M q Z k n ws ls (.ref x :: st) pc := by
  subst hp
  exact fun H locs lv hP hD hS hl => lv_astore_n C.1 C.2.1 d hi hl hb rfl (fun lv hl => kk H locs lv hP hD hS hl)
theorem mr_astore (C : CX E M q Z) {i : Nat} {x : Nat} (pc' : Nat) (d : decode M.2.1 pc = .ok (.astore i, 2)) (hp : pc + 2 = pc') (hb : i < M.2.2.1) (kk : V E M q Z k n ws ((i, .ref x) :: ls.filter (fun q => !(q.1 == i) && !(q.1 + 1 == i && q.2.category == 2))) st pc') : V E M q Z k n ws ls (.ref x :: st) pc := by
  subst hp
  exact fun H locs lv hP hD hS hl => lv_astore C.1 C.2.1 d hl hb rfl (fun lv hl => kk H locs lv hP hD hS hl)
theorem mr_lstore_n (C : CX E M q Z) {j : Fin 4} {i : Nat} {x : Int64} (pc' : Nat) (d : decode M.2.1 pc = .ok (.lstore_n j, 1)) (hp : pc + 1 = pc') (hi : (j : Nat) = i) (hb : i + 1 < M.2.2.1) (kk : V E M q Z k n ws ((i, .long x) :: ls.filter (fun q => !(q.1 == i) && (!(q.1 == i + 1) && !(q.1 + 1 == i && q.2.category == 2)))) st pc') : V E M q Z k n ws ls (.long x :: st) pc := by
  subst hp
  exact fun H locs lv hP hD hS hl => lv_lstore_n C.1 C.2.1 d hi hl hb rfl (fun lv hl => kk H locs lv hP hD hS hl)
theorem mr_lstore (C : CX E M q Z) {i : Nat} {x : Int64} (pc' : Nat) (d : decode M.2.1 pc = .ok (.lstore i, 2)) (hp : pc + 2 = pc') (hb : i + 1 < M.2.2.1) (kk : V E M q Z k n ws ((i, .long x) :: ls.filter (fun q => !(q.1 == i) && (!(q.1 == i + 1) && !(q.1 + 1 == i && q.2.category == 2)))) st pc') : V E M q Z k n ws ls (.long x :: st) pc := by
  subst hp
  exact fun H locs lv hP hD hS hl => lv_lstore C.1 C.2.1 d hl hb rfl (fun lv hl => kk H locs lv hP hD hS hl)
theorem mr_iadd (C : CX E M q Z) {x y : Int32} (v : Int32) (pc' : Nat) (d : decode M.2.1 pc = .ok (.iadd, 1)) (hp : pc + 1 = pc') (hv : x + y = v) (kk : V E M q Z k n ws ls (.int v :: st) pc') : V E M q Z k n ws ls (.int y :: .int x :: st) pc := by
  subst hp; subst hv
  exact fun H locs lv hP hD hS hl => lv_iadd C.1 C.2.1 d (kk H locs lv hP hD hS hl)
theorem mr_isub (C : CX E M q Z) {x y : Int32} (v : Int32) (pc' : Nat) (d : decode M.2.1 pc = .ok (.isub, 1)) (hp : pc + 1 = pc') (hv : x - y = v) (kk : V E M q Z k n ws ls (.int v :: st) pc') : V E M q Z k n ws ls (.int y :: .int x :: st) pc := by
  subst hp; subst hv
  exact fun H locs lv hP hD hS hl => lv_isub C.1 C.2.1 d (kk H locs lv hP hD hS hl)
theorem mr_imul (C : CX E M q Z) {x y : Int32} (v : Int32) (pc' : Nat) (d : decode M.2.1 pc = .ok (.imul, 1)) (hp : pc + 1 = pc') (hv : x * y = v) (kk : V E M q Z k n ws ls (.int v :: st) pc') : V E M q Z k n ws ls (.int y :: .int x :: st) pc := by
  subst hp; subst hv
  exact fun H locs lv hP hD hS hl => lv_imul C.1 C.2.1 d (kk H locs lv hP hD hS hl)
theorem mr_iand (C : CX E M q Z) {x y : Int32} (v : Int32) (pc' : Nat) (d : decode M.2.1 pc = .ok (.iand, 1)) (hp : pc + 1 = pc') (hv : x &&& y = v) (kk : V E M q Z k n ws ls (.int v :: st) pc') : V E M q Z k n ws ls (.int y :: .int x :: st) pc := by
  subst hp; subst hv
  exact fun H locs lv hP hD hS hl => lv_iand C.1 C.2.1 d (kk H locs lv hP hD hS hl)
theorem mr_ior (C : CX E M q Z) {x y : Int32} (v : Int32) (pc' : Nat) (d : decode M.2.1 pc = .ok (.ior, 1)) (hp : pc + 1 = pc') (hv : x ||| y = v) (kk : V E M q Z k n ws ls (.int v :: st) pc') : V E M q Z k n ws ls (.int y :: .int x :: st) pc := by
  subst hp; subst hv
  exact fun H locs lv hP hD hS hl => lv_ior C.1 C.2.1 d (kk H locs lv hP hD hS hl)
theorem mr_ixor (C : CX E M q Z) {x y : Int32} (v : Int32) (pc' : Nat) (d : decode M.2.1 pc = .ok (.ixor, 1)) (hp : pc + 1 = pc') (hv : x ^^^ y = v) (kk : V E M q Z k n ws ls (.int v :: st) pc') : V E M q Z k n ws ls (.int y :: .int x :: st) pc := by
  subst hp; subst hv
  exact fun H locs lv hP hD hS hl => lv_ixor C.1 C.2.1 d (kk H locs lv hP hD hS hl)
theorem mr_ishl (C : CX E M q Z) {x y : Int32} (v : Int32) (pc' : Nat) (d : decode M.2.1 pc = .ok (.ishl, 1)) (hp : pc + 1 = pc') (hv : x <<< (y &&& 31) = v) (kk : V E M q Z k n ws ls (.int v :: st) pc') : V E M q Z k n ws ls (.int y :: .int x :: st) pc := by
  subst hp; subst hv
  exact fun H locs lv hP hD hS hl => lv_ishl C.1 C.2.1 d (kk H locs lv hP hD hS hl)
theorem mr_ishr (C : CX E M q Z) {x y : Int32} (v : Int32) (pc' : Nat) (d : decode M.2.1 pc = .ok (.ishr, 1)) (hp : pc + 1 = pc') (hv : x >>> (y &&& 31) = v) (kk : V E M q Z k n ws ls (.int v :: st) pc') : V E M q Z k n ws ls (.int y :: .int x :: st) pc := by
  subst hp; subst hv
  exact fun H locs lv hP hD hS hl => lv_ishr C.1 C.2.1 d (kk H locs lv hP hD hS hl)
theorem mr_irem (C : CX E M q Z) {x y : Int32} (v : Int32) (pc' : Nat) (d : decode M.2.1 pc = .ok (.irem, 1)) (hp : pc + 1 = pc') (hy : ¬ y = 0) (hv : x - x / y * y = v) (kk : V E M q Z k n ws ls (.int v :: st) pc') : V E M q Z k n ws ls (.int y :: .int x :: st) pc := by
  subst hp; subst hv
  exact fun H locs lv hP hD hS hl => lv_irem C.1 C.2.1 d hy (kk H locs lv hP hD hS hl)
theorem mr_idiv (C : CX E M q Z) {x y : Int32} (v : Int32) (pc' : Nat) (d : decode M.2.1 pc = .ok (.idiv, 1)) (hp : pc + 1 = pc') (hy : ¬ y = 0) (hv : x / y = v) (kk : V E M q Z k n ws ls (.int v :: st) pc') : V E M q Z k n ws ls (.int y :: .int x :: st) pc := by
  subst hp; subst hv
  exact fun H locs lv hP hD hS hl => lv_idiv C.1 C.2.1 d hy (kk H locs lv hP hD hS hl)
theorem mr_ladd (C : CX E M q Z) {x y : Int64} (v : Int64) (pc' : Nat) (d : decode M.2.1 pc = .ok (.ladd, 1)) (hp : pc + 1 = pc') (hv : x + y = v) (kk : V E M q Z k n ws ls (.long v :: st) pc') : V E M q Z k n ws ls (.long y :: .long x :: st) pc := by
  subst hp; subst hv
  exact fun H locs lv hP hD hS hl => lv_ladd C.1 C.2.1 d (kk H locs lv hP hD hS hl)
theorem mr_land (C : CX E M q Z) {x y : Int64} (v : Int64) (pc' : Nat) (d : decode M.2.1 pc = .ok (.land, 1)) (hp : pc + 1 = pc') (hv : x &&& y = v) (kk : V E M q Z k n ws ls (.long v :: st) pc') : V E M q Z k n ws ls (.long y :: .long x :: st) pc := by
  subst hp; subst hv
  exact fun H locs lv hP hD hS hl => lv_land C.1 C.2.1 d (kk H locs lv hP hD hS hl)
theorem mr_lor (C : CX E M q Z) {x y : Int64} (v : Int64) (pc' : Nat) (d : decode M.2.1 pc = .ok (.lor, 1)) (hp : pc + 1 = pc') (hv : x ||| y = v) (kk : V E M q Z k n ws ls (.long v :: st) pc') : V E M q Z k n ws ls (.long y :: .long x :: st) pc := by
  subst hp; subst hv
  exact fun H locs lv hP hD hS hl => lv_lor C.1 C.2.1 d (kk H locs lv hP hD hS hl)
theorem mr_lshl (C : CX E M q Z) {x : Int64} {y : Int32} (v : Int64) (pc' : Nat) (d : decode M.2.1 pc = .ok (.lshl, 1)) (hp : pc + 1 = pc') (hv : x <<< (y.toInt64 &&& 63) = v) (kk : V E M q Z k n ws ls (.long v :: st) pc') : V E M q Z k n ws ls (.int y :: .long x :: st) pc := by
  subst hp
  exact fun H locs lv hP hD hS hl => lv_lshl C.1 C.2.1 d hv (kk H locs lv hP hD hS hl)
theorem mr_lshr (C : CX E M q Z) {x : Int64} {y : Int32} (v : Int64) (pc' : Nat) (d : decode M.2.1 pc = .ok (.lshr, 1)) (hp : pc + 1 = pc') (hv : x >>> (y.toInt64 &&& 63) = v) (kk : V E M q Z k n ws ls (.long v :: st) pc') : V E M q Z k n ws ls (.int y :: .long x :: st) pc := by
  subst hp
  exact fun H locs lv hP hD hS hl => lv_lshr C.1 C.2.1 d hv (kk H locs lv hP hD hS hl)
theorem mr_lushr (C : CX E M q Z) {x : Int64} {y : Int32} (v : Int64) (pc' : Nat) (d : decode M.2.1 pc = .ok (.lushr, 1)) (hp : pc + 1 = pc') (hv : (x.toUInt64 >>> (y.toInt64.toUInt64 &&& Int64.toUInt64 63)).toInt64 = v) (kk : V E M q Z k n ws ls (.long v :: st) pc') : V E M q Z k n ws ls (.int y :: .long x :: st) pc := by
  subst hp
  exact fun H locs lv hP hD hS hl => lv_lushr C.1 C.2.1 d hv (kk H locs lv hP hD hS hl)
theorem mr_ineg (C : CX E M q Z) {x : Int32} (pc' : Nat) (d : decode M.2.1 pc = .ok (.ineg, 1)) (hp : pc + 1 = pc')  (kk : V E M q Z k n ws ls (.int (-x) :: st) pc') : V E M q Z k n ws ls (.int x :: st) pc := by
  subst hp
  exact fun H locs lv hP hD hS hl => lv_ineg C.1 C.2.1 d  (kk H locs lv hP hD hS hl)
theorem mr_i2l (C : CX E M q Z) {x : Int32} (v : Int64) (pc' : Nat) (d : decode M.2.1 pc = .ok (.i2l, 1)) (hp : pc + 1 = pc') (hv : x.toInt64 = v) (kk : V E M q Z k n ws ls (.long v :: st) pc') : V E M q Z k n ws ls (.int x :: st) pc := by
  subst hp
  exact fun H locs lv hP hD hS hl => lv_i2l C.1 C.2.1 d hv (kk H locs lv hP hD hS hl)
theorem mr_l2i (C : CX E M q Z) {x : Int64} (v : Int32) (pc' : Nat) (d : decode M.2.1 pc = .ok (.l2i, 1)) (hp : pc + 1 = pc') (hv : x.toInt32 = v) (kk : V E M q Z k n ws ls (.int v :: st) pc') : V E M q Z k n ws ls (.long x :: st) pc := by
  subst hp
  exact fun H locs lv hP hD hS hl => lv_l2i C.1 C.2.1 d hv (kk H locs lv hP hD hS hl)
theorem mr_i2b (C : CX E M q Z) {x : Int32} (v : Int32) (pc' : Nat) (d : decode M.2.1 pc = .ok (.i2b, 1)) (hp : pc + 1 = pc') (hv : x.toInt8.toInt32 = v) (kk : V E M q Z k n ws ls (.int v :: st) pc') : V E M q Z k n ws ls (.int x :: st) pc := by
  subst hp
  exact fun H locs lv hP hD hS hl => lv_i2b C.1 C.2.1 d hv (kk H locs lv hP hD hS hl)
theorem mr_i2s (C : CX E M q Z) {x : Int32} (v : Int32) (pc' : Nat) (d : decode M.2.1 pc = .ok (.i2s, 1)) (hp : pc + 1 = pc') (hv : x.toInt16.toInt32 = v) (kk : V E M q Z k n ws ls (.int v :: st) pc') : V E M q Z k n ws ls (.int x :: st) pc := by
  subst hp
  exact fun H locs lv hP hD hS hl => lv_i2s C.1 C.2.1 d hv (kk H locs lv hP hD hS hl)
theorem mr_dup (C : CX E M q Z) {va : Value} (pc' : Nat) (d : decode M.2.1 pc = .ok (.dup, 1)) (hp : pc + 1 = pc') (h1 : va.category = 1) (kk : V E M q Z k n ws ls (va :: va :: st) pc') : V E M q Z k n ws ls (va :: st) pc := by
  subst hp
  exact fun H locs lv hP hD hS hl => lv_dup C.1 C.2.1 d h1 (kk H locs lv hP hD hS hl)
theorem mr_pop (C : CX E M q Z) {va : Value} (pc' : Nat) (d : decode M.2.1 pc = .ok (.pop, 1)) (hp : pc + 1 = pc') (h1 : va.category = 1) (kk : V E M q Z k n ws ls st pc') : V E M q Z k n ws ls (va :: st) pc := by
  subst hp
  exact fun H locs lv hP hD hS hl => lv_pop C.1 C.2.1 d h1 (kk H locs lv hP hD hS hl)
theorem mr_dup2 (C : CX E M q Z) {va vb : Value} (pc' : Nat) (d : decode M.2.1 pc = .ok (.dup2, 1)) (hp : pc + 1 = pc') (h1 : va.category = 1) (h2 : vb.category = 1) (kk : V E M q Z k n ws ls (va :: vb :: va :: vb :: st) pc') : V E M q Z k n ws ls (va :: vb :: st) pc := by
  subst hp
  exact fun H locs lv hP hD hS hl => lv_dup2_11 C.1 C.2.1 d h1 h2 (kk H locs lv hP hD hS hl)
theorem mr_dup_x1 (C : CX E M q Z) {va vb : Value} (pc' : Nat) (d : decode M.2.1 pc = .ok (.dup_x1, 1)) (hp : pc + 1 = pc') (h1 : va.category = 1) (h2 : vb.category = 1) (kk : V E M q Z k n ws ls (va :: vb :: va :: st) pc') : V E M q Z k n ws ls (va :: vb :: st) pc := by
  subst hp
  exact fun H locs lv hP hD hS hl => lv_dup_x1 C.1 C.2.1 d h1 h2 (kk H locs lv hP hD hS hl)
theorem mr_dup_x2 (C : CX E M q Z) {va vb vd : Value} (pc' : Nat) (d : decode M.2.1 pc = .ok (.dup_x2, 1)) (hp : pc + 1 = pc') (h1 : va.category = 1) (h2 : vb.category = 1) (h3 : vd.category = 1) (kk : V E M q Z k n ws ls (va :: vb :: vd :: va :: st) pc') : V E M q Z k n ws ls (va :: vb :: vd :: st) pc := by
  subst hp
  exact fun H locs lv hP hD hS hl => lv_dup_x2 C.1 C.2.1 d h1 h2 h3 (kk H locs lv hP hD hS hl)
theorem mr_ifeq (C : CX E M q Z) {x : Int32} {off : Int} (tgt pc' : Nat) (d : decode M.2.1 pc = .ok (.ifCond .eq off, 3)) (ht : (pc : Int) + off = (tgt : Int)) (hp : pc + 3 = pc') (kt : x = 0 → V E M q Z k n ws ls st tgt) (kf : ¬ (x = 0) → V E M q Z k n ws ls st pc') : V E M q Z k n ws ls (.int x :: st) pc := by
  subst hp
  exact fun H locs lv hP hD hS hl => lv_if_eq C.1 C.2.1 d ht (fun h => kt h H locs lv hP hD hS hl) (fun h => kf h H locs lv hP hD hS hl)
theorem mr_icmpeq (C : CX E M q Z) {x y : Int32} {off : Int} (tgt pc' : Nat) (d : decode M.2.1 pc = .ok (.if_icmp .eq off, 3)) (ht : (pc : Int) + off = (tgt : Int)) (hp : pc + 3 = pc') (kt : x = y → V E M q Z k n ws ls st tgt) (kf : ¬ (x = y) → V E M q Z k n ws ls st pc') : V E M q Z k n ws ls (.int y :: .int x :: st) pc := by
  subst hp
  exact fun H locs lv hP hD hS hl => lv_icmp_eq C.1 C.2.1 d ht (fun h => kt h H locs lv hP hD hS hl) (fun h => kf h H locs lv hP hD hS hl)
theorem mr_ifne (C : CX E M q Z) {x : Int32} {off : Int} (tgt pc' : Nat) (d : decode M.2.1 pc = .ok (.ifCond .ne off, 3)) (ht : (pc : Int) + off = (tgt : Int)) (hp : pc + 3 = pc') (kt : x ≠ 0 → V E M q Z k n ws ls st tgt) (kf : x = 0 → V E M q Z k n ws ls st pc') : V E M q Z k n ws ls (.int x :: st) pc := by
  subst hp
  exact fun H locs lv hP hD hS hl => lv_if_ne C.1 C.2.1 d ht (fun h => kt h H locs lv hP hD hS hl) (fun h => kf h H locs lv hP hD hS hl)
theorem mr_icmpne (C : CX E M q Z) {x y : Int32} {off : Int} (tgt pc' : Nat) (d : decode M.2.1 pc = .ok (.if_icmp .ne off, 3)) (ht : (pc : Int) + off = (tgt : Int)) (hp : pc + 3 = pc') (kt : x ≠ y → V E M q Z k n ws ls st tgt) (kf : x = y → V E M q Z k n ws ls st pc') : V E M q Z k n ws ls (.int y :: .int x :: st) pc := by
  subst hp
  exact fun H locs lv hP hD hS hl => lv_icmp_ne C.1 C.2.1 d ht (fun h => kt h H locs lv hP hD hS hl) (fun h => kf h H locs lv hP hD hS hl)
theorem mr_iflt (C : CX E M q Z) {x : Int32} {off : Int} (tgt pc' : Nat) (d : decode M.2.1 pc = .ok (.ifCond .lt off, 3)) (ht : (pc : Int) + off = (tgt : Int)) (hp : pc + 3 = pc') (kt : x < 0 → V E M q Z k n ws ls st tgt) (kf : ¬ (x < 0) → V E M q Z k n ws ls st pc') : V E M q Z k n ws ls (.int x :: st) pc := by
  subst hp
  exact fun H locs lv hP hD hS hl => lv_if_lt C.1 C.2.1 d ht (fun h => kt h H locs lv hP hD hS hl) (fun h => kf h H locs lv hP hD hS hl)
theorem mr_icmplt (C : CX E M q Z) {x y : Int32} {off : Int} (tgt pc' : Nat) (d : decode M.2.1 pc = .ok (.if_icmp .lt off, 3)) (ht : (pc : Int) + off = (tgt : Int)) (hp : pc + 3 = pc') (kt : x < y → V E M q Z k n ws ls st tgt) (kf : ¬ (x < y) → V E M q Z k n ws ls st pc') : V E M q Z k n ws ls (.int y :: .int x :: st) pc := by
  subst hp
  exact fun H locs lv hP hD hS hl => lv_icmp_lt C.1 C.2.1 d ht (fun h => kt h H locs lv hP hD hS hl) (fun h => kf h H locs lv hP hD hS hl)
theorem mr_ifge (C : CX E M q Z) {x : Int32} {off : Int} (tgt pc' : Nat) (d : decode M.2.1 pc = .ok (.ifCond .ge off, 3)) (ht : (pc : Int) + off = (tgt : Int)) (hp : pc + 3 = pc') (kt : 0 ≤ x → V E M q Z k n ws ls st tgt) (kf : ¬ (0 ≤ x) → V E M q Z k n ws ls st pc') : V E M q Z k n ws ls (.int x :: st) pc := by
  subst hp
  exact fun H locs lv hP hD hS hl => lv_if_ge C.1 C.2.1 d ht (fun h => kt h H locs lv hP hD hS hl) (fun h => kf h H locs lv hP hD hS hl)
theorem mr_icmpge (C : CX E M q Z) {x y : Int32} {off : Int} (tgt pc' : Nat) (d : decode M.2.1 pc = .ok (.if_icmp .ge off, 3)) (ht : (pc : Int) + off = (tgt : Int)) (hp : pc + 3 = pc') (kt : y ≤ x → V E M q Z k n ws ls st tgt) (kf : ¬ (y ≤ x) → V E M q Z k n ws ls st pc') : V E M q Z k n ws ls (.int y :: .int x :: st) pc := by
  subst hp
  exact fun H locs lv hP hD hS hl => lv_icmp_ge C.1 C.2.1 d ht (fun h => kt h H locs lv hP hD hS hl) (fun h => kf h H locs lv hP hD hS hl)
theorem mr_ifgt (C : CX E M q Z) {x : Int32} {off : Int} (tgt pc' : Nat) (d : decode M.2.1 pc = .ok (.ifCond .gt off, 3)) (ht : (pc : Int) + off = (tgt : Int)) (hp : pc + 3 = pc') (kt : 0 < x → V E M q Z k n ws ls st tgt) (kf : ¬ (0 < x) → V E M q Z k n ws ls st pc') : V E M q Z k n ws ls (.int x :: st) pc := by
  subst hp
  exact fun H locs lv hP hD hS hl => lv_if_gt C.1 C.2.1 d ht (fun h => kt h H locs lv hP hD hS hl) (fun h => kf h H locs lv hP hD hS hl)
theorem mr_icmpgt (C : CX E M q Z) {x y : Int32} {off : Int} (tgt pc' : Nat) (d : decode M.2.1 pc = .ok (.if_icmp .gt off, 3)) (ht : (pc : Int) + off = (tgt : Int)) (hp : pc + 3 = pc') (kt : y < x → V E M q Z k n ws ls st tgt) (kf : ¬ (y < x) → V E M q Z k n ws ls st pc') : V E M q Z k n ws ls (.int y :: .int x :: st) pc := by
  subst hp
  exact fun H locs lv hP hD hS hl => lv_icmp_gt C.1 C.2.1 d ht (fun h => kt h H locs lv hP hD hS hl) (fun h => kf h H locs lv hP hD hS hl)
theorem mr_ifle (C : CX E M q Z) {x : Int32} {off : Int} (tgt pc' : Nat) (d : decode M.2.1 pc = .ok (.ifCond .le off, 3)) (ht : (pc : Int) + off = (tgt : Int)) (hp : pc + 3 = pc') (kt : x ≤ 0 → V E M q Z k n ws ls st tgt) (kf : ¬ (x ≤ 0) → V E M q Z k n ws ls st pc') : V E M q Z k n ws ls (.int x :: st) pc := by
  subst hp
  exact fun H locs lv hP hD hS hl => lv_if_le C.1 C.2.1 d ht (fun h => kt h H locs lv hP hD hS hl) (fun h => kf h H locs lv hP hD hS hl)
theorem mr_icmple (C : CX E M q Z) {x y : Int32} {off : Int} (tgt pc' : Nat) (d : decode M.2.1 pc = .ok (.if_icmp .le off, 3)) (ht : (pc : Int) + off = (tgt : Int)) (hp : pc + 3 = pc') (kt : x ≤ y → V E M q Z k n ws ls st tgt) (kf : ¬ (x ≤ y) → V E M q Z k n ws ls st pc') : V E M q Z k n ws ls (.int y :: .int x :: st) pc := by
  subst hp
  exact fun H locs lv hP hD hS hl => lv_icmp_le C.1 C.2.1 d ht (fun h => kt h H locs lv hP hD hS hl) (fun h => kf h H locs lv hP hD hS hl)
theorem mr_goto (C : CX E M q Z) {off : Int} (tgt : Nat) (d : decode M.2.1 pc = .ok (.goto off, 3)) (ht : (pc : Int) + off = (tgt : Int)) (kk : V E M q Z k n ws ls st tgt) : V E M q Z k n ws ls st pc := fun H locs lv hP hD hS hl => lv_goto C.1 C.2.1 d ht (kk H locs lv hP hD hS hl)
theorem mr_iinc (C : CX E M q Z) {i : Nat} {z : Int} {x : Int32} (v : Int32) (pc' : Nat) (d : decode M.2.1 pc = .ok (.iinc i z, 3)) (hp : pc + 3 = pc') (hl0 : ls.lookup i = some (.int x)) (hb : i < M.2.2.1) (hv : x + Int32.ofInt z = v) (kk : V E M q Z k n ws ((i, .int v) :: ls.filter (fun q => !(q.1 == i) && !(q.1 + 1 == i && q.2.category == 2))) st pc') : V E M q Z k n ws ls st pc := by
  subst hp
  intro H locs lv hP hD hS hl
  obtain ⟨j, hj⟩ := List.getElem?_of_mem (lk_mem hl0)
  exact lv_iinc C.1 C.2.1 d hl (k := j) hj hv hb rfl (fun lv hl => kk H locs lv hP hD hS hl)
end ROWS
end
section
/-! the thin layer, 2: fields, arrays, returns, calls -/
section ROWS2
variable {E : EG} {M : MD} {q : RQ} {Z : ZX} {k n pc : Nat} {ws : va_W} {ls : List (Nat × Value)} {st : List Value} {a : Nat}
theorem mr_get (C : CX E M q Z) {i : Nat} {ci kf : Nat} (q0 : Nat) {fs : List Value} {v : Value} (pc' : Nat) (d : decode M.2.1 pc = .ok (.getfield i, 3)) (hp : pc + 3 = pc') (hf : FL M.1.cls i ci kf) (he : ws[q0]? = some (a, .inr (ci, fs))) (hv : fs[kf]? = some v) (kk : V E M q Z k n ws ls (v :: st) pc') : V E M q Z k n ws ls (.ref a :: st) pc := by
  subst hp
  obtain ⟨C0, T, N, h1, h2, h3, h4⟩ := hf
  exact fun H locs lv hP hD hS hl => va_get (D := E.1) C.1 C.2.1 C.2.2.2.2.2.1 h3 C.2.2.2.2.1 C.2.2.2.2.2.2.2.2.1.1 hP q0 he h1 kf h2 (C.2.2.2.2.2.1 _ h4) (fun _ h9 => h9) hv d (kk H locs lv hP hD hS hl)
theorem mr_put (C : CX E M q Z) {i : Nat} {ci kf : Nat} {ty : FieldType} (q0 : Nat) {fs : List Value} {v : Value} (pc' : Nat) (d : decode M.2.1 pc = .ok (.putfield i, 3)) (hp : pc + 3 = pc') (hf : FS M.1.cls i ci kf ty) (he : ws[q0]? = some (a, .inr (ci, fs))) (hn : narrow ty v = v) (hfit : fits ty v = true) (hlen : kf < fs.length) (kk : V E M q Z k n (ws.set q0 (a, .inr (ci, fs.set kf v))) ls st pc') : V E M q Z k n ws ls (v :: .ref a :: st) pc := by
  subst hp
  obtain ⟨C0, T, N, ty0, h1, h2, h3, h4, h5, h6, h7, h8⟩ := hf
  exact fun H locs lv hP hD hS hl => va_put (D := E.1) C.1 C.2.1 C.2.2.2.2.2.1 h3 ty0 h5 h6 C.2.2.2.2.1 C.2.2.2.2.2.2.2.2.1.1 hP hD hS q0 he h1 kf h2 (C.2.2.2.2.2.1 _ h4) (fun _ h9 => h9) h7 ((h5 kf h2).trans (by rw [h8])) hn hfit hlen d (fun H1 locs1 hP hD hS => kk H1 locs1 lv hP hD hS hl)
/-- a final field in its constructor -/
def FF (own : String) (index ci kf : Nat) (ty : FieldType) : Prop := ∃ (C : String) (T : u_T) (N : Nat) (ty0 : Nat → FieldType), clsX[ci]? = some (C, T, N) ∧ kf < N ∧ (∀ w ∈ u_ws C T N, w ∈ gw) ∧ Cond.fieldLink own index (T kf).1 (T kf).2.1 (T kf).2.2.1 ∈ gw ∧
  (∀ k, k < N → parseFieldDescriptor (T k).2.2.1 = some (ty0 k)) ∧ (∀ a, a < N → ∀ b, b < N → a ≠ b → (T a).2.1 ≠ (T b).2.1) ∧ (T kf).2.2.2 = true ∧ (T kf).1 = own ∧ ty0 kf = ty
theorem mr_putF (C : CX E M q Z) (hin : M.1.name = "<init>") {i : Nat} {ci kf : Nat} {ty : FieldType} (q0 : Nat) {fs : List Value} {v : Value} (pc' : Nat) (d : decode M.2.1 pc = .ok (.putfield i, 3)) (hp : pc + 3 = pc') (hf : FF M.1.cls i ci kf ty) (he : ws[q0]? = some (a, .inr (ci, fs))) (hn : narrow ty v = v) (hfit : fits ty v = true) (hlen : kf < fs.length) (kk : V E M q Z k n (ws.set q0 (a, .inr (ci, fs.set kf v))) ls st pc') : V E M q Z k n ws ls (v :: .ref a :: st) pc := by
  subst hp
  obtain ⟨C0, T, N, ty0, h1, h2, h3, h4, h5, h6, h7, h9, h8⟩ := hf
  exact fun H locs lv hP hD hS hl => va_putF (D := E.1) C.1 C.2.1 C.2.2.2.2.2.1 h3 ty0 h5 h6 C.2.2.2.2.1 C.2.2.2.2.2.2.2.2.1.1 hP hD hS q0 he h1 kf h2 (C.2.2.2.2.2.1 _ h4) (fun _ h9 => h9) h7 (C.2.2.2.2.2.2.2.2.2 hin) h9 ((h5 kf h2).trans (by rw [h8])) hn hfit hlen d (fun H1 locs1 hP hD hS => kk H1 locs1 lv hP hD hS hl)
theorem nI_cl {j : Nat} {N : Nat} (h : j < N) (hN : N < 2 ^ 31) : (nI j).toNatClampNeg = j := nI_clamp (Nat.lt_trans h hN)
theorem mr_iald (C : CX E M q Z) (q0 j : Nat) {N : Nat} {f : Nat → Int32} {x : Int32} (pc' : Nat) (d : decode M.2.1 pc = .ok (.iaload, 1)) (hp : pc + 1 = pc') (he : ws[q0]? = some (a, .inl (E.1.1 100, N, .inl f))) (hx : x = nI j) (hj : j < N) (hN : N < 2 ^ 31) (kk : V E M q Z k n ws ls (.int (f j) :: st) pc') : V E M q Z k n ws ls (.int x :: .ref a :: st) pc := by
  subst hp; subst hx
  intro H locs lv hP hD hS hl
  refine va_iald (D := E.1) C.1 C.2.1 C.2.2.2.2.2.2.2.2.1.1 hP q0 0 he rfl (vp_in_nI hj hN) d ?_
  rw [nI_cl hj hN]
  exact kk H locs lv hP hD hS hl
theorem mr_iast (C : CX E M q Z) (q0 j : Nat) {N : Nat} {f : Nat → Int32} {x y : Int32} (pc' : Nat) (d : decode M.2.1 pc = .ok (.iastore, 1)) (hp : pc + 1 = pc') (he : ws[q0]? = some (a, .inl (E.1.1 100, N, .inl f))) (hx : x = nI j) (hj : j < N) (hN : N < 2 ^ 31) (kk : V E M q Z k n (ws.set q0 (a, .inl (E.1.1 100, N, .inl (upd f j y)))) ls st pc') : V E M q Z k n ws ls (.int y :: .int x :: .ref a :: st) pc := by
  subst hp; subst hx
  intro H locs lv hP hD hS hl
  refine va_iast (D := E.1) C.1 C.2.1 C.2.2.2.2.2.2.2.2.1.1 hP hD hS q0 0 he rfl (vp_in_nI hj hN) d ?_
  rw [nI_cl hj hN]
  exact fun H1 locs1 hP hD hS => kk H1 locs1 lv hP hD hS hl
theorem mr_zald (C : CX E M q Z) (q0 j : Nat) {N : Nat} {f : Nat → Int32} {x : Int32} (pc' : Nat) (d : decode M.2.1 pc = .ok (.baload, 1)) (hp : pc + 1 = pc') (he : ws[q0]? = some (a, .inl (E.1.1 103, N, .inl f))) (hx : x = nI j) (hj : j < N) (hN : N < 2 ^ 31) (kk : V E M q Z k n ws ls (.int (f j) :: st) pc') : V E M q Z k n ws ls (.int x :: .ref a :: st) pc := by
  subst hp; subst hx
  intro H locs lv hP hD hS hl
  refine va_zald (D := E.1) C.1 C.2.1 C.2.2.2.2.2.2.2.2.1.1 hP q0 3 he rfl (vp_in_nI hj hN) d ?_
  rw [nI_cl hj hN]
  exact kk H locs lv hP hD hS hl
theorem mr_zast (C : CX E M q Z) (q0 j : Nat) {N : Nat} {f : Nat → Int32} {x y : Int32} (pc' : Nat) (d : decode M.2.1 pc = .ok (.bastore, 1)) (hp : pc + 1 = pc') (he : ws[q0]? = some (a, .inl (E.1.1 103, N, .inl f))) (hx : x = nI j) (hj : j < N) (hN : N < 2 ^ 31) (kk : V E M q Z k n (ws.set q0 (a, .inl (E.1.1 103, N, .inl (upd f j (vp_nar .boolean y))))) ls st pc') : V E M q Z k n ws ls (.int y :: .int x :: .ref a :: st) pc := by
  subst hp; subst hx
  intro H locs lv hP hD hS hl
  refine va_zast (D := E.1) C.1 C.2.1 C.2.2.2.2.2.2.2.2.1.1 hP hD hS q0 3 he rfl (vp_in_nI hj hN) d ?_
  rw [nI_cl hj hN]
  exact fun H1 locs1 hP hD hS => kk H1 locs1 lv hP hD hS hl
theorem mr_aald (C : CX E M q Z) (q0 j t0 : Nat) {N : Nat} {cA : ClassId} {C0 : String} {f : Nat → Option Nat} {x : Int32} (v : Nat) (pc' : Nat) (d : decode M.2.1 pc = .ok (.aaload, 1)) (hp : pc + 1 = pc') (he : ws[q0]? = some (a, .inl (cA, N, .inr (.inr (.inr (.inr f)))))) (ht : (tysX E)[t0]? = some (cA, .object C0)) (hx : x = nI j) (hj : j < N) (hN : N < 2 ^ 31) (hv : f j = some v) (kk : V E M q Z k n ws ls (.ref v :: st) pc') : V E M q Z k n ws ls (.int x :: .ref a :: st) pc := by
  subst hp; subst hx
  intro H locs lv hP hD hS hl
  refine va_aldq (D := E.1) C.1 C.2.1 C.2.2.2.2.2.2.2.2.1.1 hP q0 t0 he ht (vp_in_nI hj hN) d ?_
  rw [nI_cl hj hN, hv]
  exact kk H locs lv hP hD hS hl
theorem mr_aast (C : CX E M q Z) (q0 j t0 qk ci : Nat) {N v : Nat} {cA : ClassId} {r : vw_C} {vs : List Value} {f : Nat → Option Nat} {x : Int32} (pc' : Nat) (d : decode M.2.1 pc = .ok (.aastore, 1)) (hp : pc + 1 = pc') (he : ws[q0]? = some (a, .inl (cA, N, .inr (.inr (.inr (.inr f)))))) (ht : (tysX E)[t0]? = some (cA, .object r.1)) (hv : ws[qk]? = some (v, .inr (ci, vs))) (hc : clsX[ci]? = some r) (hx : x = nI j) (hj : j < N) (hN : N < 2 ^ 31) (kk : V E M q Z k n (ws.set q0 (a, .inl (cA, N, .inr (.inr (.inr (.inr (va_up f j (some v)))))))) ls st pc') : V E M q Z k n ws ls (.ref v :: .int x :: .ref a :: st) pc := by
  subst hp; subst hx
  intro H locs lv hP hD hS hl
  refine va_astq (D := E.1) C.1 C.2.1 C.2.2.2.2.2.2.2.2.1.1 hP hD hS q0 t0 qk ci he ht hv hc (vp_in_nI hj hN) d ?_
  rw [nI_cl hj hN]
  exact fun H1 locs1 hP hD hS => kk H1 locs1 lv hP hD hS hl
theorem mr_alen (C : CX E M q Z) (q0 : Nat) {N : Nat} {f : Nat → Int32} (pc' : Nat) (d : decode M.2.1 pc = .ok (.arraylength, 1)) (hp : pc + 1 = pc') (he : ws[q0]? = some (a, .inl (E.1.1 100, N, .inl f))) (kk : V E M q Z k n ws ls (.int (nI N) :: st) pc') : V E M q Z k n ws ls (.ref a :: st) pc := by
  subst hp
  exact fun H locs lv hP hD hS hl => va_alen (D := E.1) C.1 C.2.1 C.2.2.2.2.2.2.2.2.1.1 hP q0 0 he (ty := .int) rfl rfl d (kk H locs lv hP hD hS hl)
/-- another look at the same place: the world, the locals (some of them), the stack -/
theorem mr_at {ws' : va_W} {ls' : List (Nat × Value)} {st' : List Value} (kk : V E M q Z k n ws' ls' st' pc) (h1 : ws = ws') (h2 : ls'.map (fun q => ls.lookup q.1) = ls'.map (fun q => some q.2)) (h3 : st = st') : V E M q Z k n ws ls st pc := by
  subst h1; subst h3
  intro H locs lv hP hD hS hl
  refine kk H locs lv hP hD hS ⟨hl.1, hl.2.1, fun x hx => ?_⟩
  obtain ⟨i, hi⟩ := List.getElem?_of_mem hx
  have e1 : (ls'.map (fun q => ls.lookup q.1))[i]? = some (ls.lookup x.1) := by rw [List.getElem?_map, hi]; rfl
  rw [h2, List.getElem?_map, hi] at e1
  exact lk_at hl (Option.some.inj e1).symm
/-- returns -/
theorem mr_iret (C : CX E M q Z) {v : Int32} (d : decode M.2.1 pc = .ok (.ireturn, 1)) {ty : FieldType} (hr : M.2.2.2 = some ty) (hn : narrow ty (.int v) = .int v) (hk : k ≤ q.2.1) (hn2 : n ≤ q.2.2) (hlen : zn Z ≤ ws.length) (hq : zO Z (some (.int v)) ws) : V E M q Z k n ws ls [.int v] pc := by
  intro H locs lv hP hD hS hl
  refine W.widen (k := q.2.1) (n := q.2.2) hk hn2 ?_
  exact W.zret C.1 C.2.1 (C.2.2.2.1.trans hr) hn (fun t ht hW => ⟨⟨_, ws, rfl, hq, hlen, by rw [ht]; exact hP, hD⟩, hS.F ht⟩) hS.2.2 d C.2.2.2.2.2.2.1
theorem mr_lret (C : CX E M q Z) {v : Int64} (d : decode M.2.1 pc = .ok (.lreturn, 1)) (hr : M.2.2.2 = some .long) (hk : k ≤ q.2.1) (hn2 : n ≤ q.2.2) (hlen : zn Z ≤ ws.length) (hq : zO Z (some (.long v)) ws) : V E M q Z k n ws ls [.long v] pc := by
  intro H locs lv hP hD hS hl
  refine W.widen (k := q.2.1) (n := q.2.2) hk hn2 ?_
  exact W.lret C.1 C.2.1 (C.2.2.2.1.trans hr) (fun t ht hW => ⟨⟨_, ws, rfl, hq, hlen, by rw [ht]; exact hP, hD⟩, hS.F ht⟩) hS.2.2 d C.2.2.2.2.2.2.1
theorem mr_vret (C : CX E M q Z) (d : decode M.2.1 pc = .ok (.return_, 1)) (hr : M.2.2.2 = none) (hk : k ≤ q.2.1) (hn2 : n ≤ q.2.2) (hlen : zn Z ≤ ws.length) (hq : zO Z none ws) : V E M q Z k n ws ls [] pc := by
  intro H locs lv hP hD hS hl
  refine W.widen (k := q.2.1) (n := q.2.2) hk hn2 ?_
  exact W.vret C.1 C.2.1 (C.2.2.2.1.trans hr) (fun t ht hW => ⟨⟨_, ws, rfl, hq, hlen, by rw [ht]; exact hP, hD⟩, hS.F ht⟩) hS.2.2 d C.2.2.2.2.2.2.1
end ROWS2
/-! a callee's world put back -/
def wput (ws : va_W) : List Nat → va_W → va_W
  | i :: is, c :: w1 => wput (ws.set i c) is w1
  | [], w1 => ws ++ w1
  | _, [] => ws
theorem wput_get : ∀ (is : List Nat) (ws w1 : va_W), va_nd is = true → (∀ i ∈ is, i < ws.length) → is.length ≤ w1.length → ∀ (x : Nat) (c : Nat × va_E), (wput ws is w1)[x]? = some c →
    (∃ t : Nat, is[t]? = some x ∧ w1[t]? = some c) ∨ (x ∉ is ∧ x < ws.length ∧ ws[x]? = some c) ∨ (ws.length ≤ x ∧ w1[is.length + (x - ws.length)]? = some c)
  | [], ws, w1, _, _, _, x, c, h => by
    unfold wput at h
    by_cases hx : x < ws.length
    · rw [List.getElem?_append_left hx] at h
      exact Or.inr (Or.inl ⟨by simp, hx, h⟩)
    · rw [List.getElem?_append_right (by omega)] at h
      exact Or.inr (Or.inr ⟨by omega, by simpa using h⟩)
  | i :: is, ws, [], _, _, hl, _, _, _ => by simp at hl
  | i :: is, ws, c1 :: w1, hn, hi, hl, x, c, h => by
    unfold wput at h
    simp only [va_nd, Bool.and_eq_true, decide_eq_true_eq] at hn
    have hi0 : i < ws.length := hi i List.mem_cons_self
    rcases wput_get is (ws.set i c1) w1 hn.2 (fun j hj => by rw [List.length_set]; exact hi j (List.mem_cons_of_mem _ hj)) (by simp only [List.length_cons] at hl; omega) x c h with ⟨t, h1, h2⟩ | ⟨h1, h2, h3⟩ | ⟨h1, h2⟩
    · exact Or.inl ⟨t + 1, by simpa using h1, by simpa using h2⟩
    · rw [List.length_set] at h2
      by_cases hx : x = i
      · subst hx
        rw [List.getElem?_set_self hi0] at h3
        exact Or.inl ⟨0, by simp, by simpa using h3⟩
      · rw [List.getElem?_set_ne (Ne.symm hx)] at h3
        exact Or.inr (Or.inl ⟨by simp [h1, hx], h2, h3⟩)
    · rw [List.length_set] at h1 h2
      exact Or.inr (Or.inr ⟨h1, by rw [List.length_cons, show is.length + 1 + (x - ws.length) = is.length + (x - ws.length) + 1 by omega, List.getElem?_cons_succ]; exact h2⟩)
theorem nd_inj {is : List Nat} (h : va_nd is = true) {i j x : Nat} (h1 : is[i]? = some x) (h2 : is[j]? = some x) : i = j := va_nd_inj is h i j x h1 h2
theorem wput_join {A0 : Nat → Prop} {D : va_G} {cl : List vw_C} {ws wc w1 : va_W} {H H1 : Heap} (hP : va_P D cl ws H) (hD : va_D A0 ws) (isC : List Nat) (hC : isC.map (fun i => ws[i]?) = wc.map some) (hn : va_nd isC = true)
    (hk : ∀ q : Nat, q < H.size → ¬ va_A wc H.size q → H1[q]? = H[q]?) (hF : ∀ q, va_A wc H.size q → A0 q) (hlen : wc.length ≤ w1.length) (hP1 : va_P D cl w1 H1) (hD1 : va_D (va_A wc H.size) w1) : va_P D cl (wput ws isC w1) H1 ∧ va_D A0 (wput ws isC w1) := by
  have hle : isC.length = wc.length := by have := congrArg List.length hC; simpa using this
  have hin : ∀ i ∈ isC, i < ws.length := by
    intro i hi
    obtain ⟨t, ht⟩ := List.getElem?_of_mem hi
    have h1 : (isC.map (fun i => ws[i]?))[t]? = some (ws[i]?) := by rw [List.getElem?_map, ht]; rfl
    rw [hC, List.getElem?_map] at h1
    cases hw : wc[t]? with
    | none => rw [hw] at h1; cases h1
    | some c => rw [hw] at h1; exact (List.getElem?_eq_some_iff.mp (Option.some.inj h1).symm).1
  have hget := wput_get isC ws w1 hn hin (by omega)
  have apart : ∀ (x : Nat) (c : Nat × va_E), x ∉ isC → ws[x]? = some c → c.1 < H.size ∧ ¬ va_A wc H.size c.1 := by
    intro x c hx hc
    have hl := (hP x c hc).lt
    refine ⟨hl, fun h => ?_⟩
    rcases h with ⟨t, e, h⟩ | h
    · have h1 : (isC.map (fun i => ws[i]?))[t]? = some (some (c.1, e)) := by rw [hC, List.getElem?_map, h]; rfl
      rw [List.getElem?_map] at h1
      cases hi : isC[t]? with
      | none => rw [hi] at h1; cases h1
      | some j =>
        rw [hi] at h1
        have hj : ws[j]? = some (c.1, e) := Option.some.inj h1
        have := hD.1 x j c (c.1, e) hc hj rfl
        subst this
        exact hx (List.mem_of_getElem? hi)
    · omega
  refine ⟨fun x c hx => ?_, fun x y p r hx hy he => ?_, fun x c hx => ?_⟩
  · rcases hget x c hx with ⟨t, h1, h2⟩ | ⟨h1, h2, h3⟩ | ⟨h1, h2⟩
    · exact hP1 _ _ h2
    · obtain ⟨g1, g2⟩ := apart x c h1 h3
      exact (hP x c h3).kept (hk _ g1 g2)
    · exact hP1 _ _ h2
  · rcases hget x p hx with ⟨t, h1, h2⟩ | ⟨h1, h2, h3⟩ | ⟨h1, h2⟩ <;> rcases hget y r hy with ⟨u, g1, g2⟩ | ⟨g1, g2, g3⟩ | ⟨g1, g2⟩
    · have := hD1.1 t u p r h2 g2 he
      subst this
      exact Option.some.inj (h1.symm.trans g1)
    · exact absurd (by rw [← he]; exact hD1.2 t p h2) (apart y r g1 g3).2
    · have := hD1.1 t _ p r h2 g2 he
      have ht := (List.getElem?_eq_some_iff.mp h1).1
      omega
    · exact absurd (by rw [he]; exact hD1.2 u r g2) (apart x p h1 h3).2
    · exact hD.1 x y p r h3 g3 he
    · exact absurd (by rw [he]; exact hD1.2 _ r g2) (apart x p h1 h3).2
    · have := hD1.1 _ u p r h2 g2 he
      have ht := (List.getElem?_eq_some_iff.mp g1).1
      omega
    · exact absurd (by rw [← he]; exact hD1.2 _ p h2) (apart y r g1 g3).2
    · have := hD1.1 _ _ p r h2 g2 he
      omega
  · rcases hget x c hx with ⟨t, h1, h2⟩ | ⟨h1, h2, h3⟩ | ⟨h1, h2⟩
    · exact hF _ (hD1.2 t c h2)
    · exact hD.2 x c h3
    · exact hF _ (hD1.2 _ c h2)
end
section
/-! the thin layer, 3: calls -/
def MK (M : MD) (np : Nat) : Prop := Cond.code M.1 M.2.1 M.2.2.1 M.2.2.2 ∈ gw ∧ Cond.initialized M.1.cls ∈ gw ∧ M.1.cls ≠ "java/lang/invoke/MethodHandle" ∧ M.1.cls ≠ "java/lang/invoke/VarHandle" ∧ (parseMethodDescriptor M.1.desc).map (fun d => d.parameters.length) = some np
def MKi (M : MD) : Prop := Cond.instanceMethod M.1 ∈ gw ∧ Cond.selects M.1.cls M.1 M.1 ∈ gw
theorem PP_blind {E : EG} {sz : Nat} {ws : va_W} {av : List Value} : FrameBlind (va_Pc av (PP E sz ws)) := fun _ _ _ _ h => ⟨h.1, h.2.1, h.2.2.1, h.2.2.2.1, GS.same h.2.2.2.2 rfl⟩
section ROWS3
variable {E : EG} {M : MD} {q : RQ} {Z : ZX} {k n pc : Nat} {ws : va_W} {ls : List (Nat × Value)} {st : List Value}
/-- a callee's world, cut out of ours -/
abbrev CUT (ws : va_W) (isC : List Nat) (wc : va_W) : Prop := isC.map (fun i => ws[i]?) = wc.map some
theorem cut_P {D : va_G} {cl : List vw_C} {ws wc : va_W} {H : Heap} {isC : List Nat} (hC : CUT ws isC wc) (h : va_P D cl ws H) : va_P D cl wc H := by
  intro t c hc
  have h1 : (isC.map (fun i => ws[i]?))[t]? = some (some c) := by rw [hC, List.getElem?_map, hc]; rfl
  rw [List.getElem?_map] at h1
  cases hi : isC[t]? with
  | none => rw [hi] at h1; cases h1
  | some i => rw [hi] at h1; exact h i c (Option.some.inj h1)
theorem call_pre (C : CX E M q Z) {av : List Value} {wc : va_W} {isC : List Nat} (hC : CUT ws isC wc) (hnd : va_nd isC = true) {H : Heap} {locs : List Loc} (hP : va_P E.1 clsX ws H) (hD : va_D (zA Z) ws) (hS : va_S (zA Z) (zs Z).heap H locs) :
    (∀ x, va_A wc H.size x → zA Z x) ∧ ∀ U : State, U.heap = H → (zs Z).WarmedH U.vm → va_Pc av (PP E H.size wc) av.toArray U := by
  have hF := va_free hD hS C.2.2.2.2.2.2.2.1 isC hC
  refine ⟨hF, fun U hU hW => ⟨rfl, by rw [hU], by rw [hU]; exact cut_P hC hP, (hD.sub isC hnd hC).weaken (fun _ _ _ _ => trivial), ?_⟩⟩
  rw [hU]
  exact C.2.2.2.2.2.2.2.2.1.go hS hW hF
theorem call_go {q' : RQ} {wc : va_W} {post : PO} {a : Array Value} {isC : List Nat} {rest : List Value} {H : Heap} {locs : List Loc} {lv : Array Slot} (hC : CUT ws isC wc) (hnd : va_nd isC = true) (hP : va_P E.1 clsX ws H) (hD : va_D (zA Z) ws) (hS : va_S (zA Z) (zs Z).heap H locs) (hl : lv_has lv M.2.2.1 ls) (hF : ∀ x, va_A wc H.size x → zA Z x)
    (hr : va_Run (zp Z) E.2.2 (ze Z) (rmQ q) (zs Z) (zm Z) (za Z) (zb Z) (zh Z) (zc Z) H locs k n q'.2.1 q'.2.2 (F0 (zm Z) pc lv st) rest (QQ E wc.length post (va_A wc H.size) a) (va_A wc H.size))
    (kk : ∀ (r : Option Value) (w1 : va_W), post r w1 → V E M q Z (k + q'.2.1) (n + q'.2.2) (wput ws isC w1) ls (r.toList ++ rest) (pc + 3)) :
    W (zp Z) E.2.2 (ze Z) (rmQ q) (zs Z) (zm Z) (za Z) (zb Z) (zh Z) (zc Z) H locs k n (MQ (zb Z) (QQ E (zn Z) (zO Z) (zA Z)) (za Z) (zs Z) q.2.1 q.2.2 (zA Z)) (F0 (zm Z) pc lv st) := by
  intro T hT X
  obtain ⟨v, st₀, t, T', L, h0, X', hL, e1, e2, ⟨⟨r, w, hv, hp, hlen, hP1, hD1⟩, hz, hk⟩, hst⟩ := hr T hT X
  cases hv
  rw [h0] at hz hk
  rw [← e1] at hz hk hP1
  obtain ⟨j1, j2⟩ := wput_join hP hD isC hC hnd (fun x h1 h2 => hk x h1 h2) hF hlen hP1 hD1
  obtain ⟨t2, a1, b1⟩ := kk v w hp T'.heap (locs ++ L) lv j1 j2 ⟨Nat.le_trans hS.1 hz, fun x h1 h2 => by rw [hk x (Nat.lt_of_lt_of_le h1 hS.1) (fun z => h2 (hF x z))]; exact hS.2.1 x h1 h2, fun x hx => by
      rcases List.mem_append.mp hx with h | h
      · exact hS.2.2 x h
      · exact hF _ (hL x h)⟩ hl T' rfl X'
  exact ⟨t2, hst t2 a1, b1⟩
theorem call_B (C : CX E M q Z) {M' : MD} {q' : RQ} {i np : Nat} (hmk : MK M' np) (hlk : Cond.methodLink M.1.cls i M'.1 ∈ gw) (hfr : q'.1 + 1 ≤ q.1) (hloc : 8 + (M'.2.2.1 + 11) + 64 * q'.1 ≤ 64 * q.1) :
    CallB (rmQ q) (zs Z) (za Z) M.1.cls i M'.1 M'.2.1 M'.2.2.1 M'.2.2.2 (.code M'.1 M'.2.1 M'.2.2.1 M'.2.2.2 :: gw) (rmQ q') q'.2.1 q'.2.2 np :=
  callB_of np C.2.2.2.2.2.1 (gw_good hmk.1) rfl rfl rfl (C.2.2.2.2.2.1 _ hmk.2.1) (C.2.2.2.2.2.1 _ hlk) ⟨hmk.2.2.1, hmk.2.2.2.1, hmk.2.2.2.2⟩ ⟨hfr, hloc⟩
theorem mr_callV (C : CX E M q Z) {M' : MD} {q' : RQ} {av : List Value} {wc : va_W} {post : PO} (hM : Ctr E M' q' av wc post) {i np : Nat} (isC : List Nat) (q0 ci : Nat) {b : Addr} {As rest fs : List Value} {T : u_T} {N : Nat} (pc' : Nat) (d : decode M.2.1 pc = .ok (.invokevirtual i, 3)) (hp : pc + 3 = pc') (hmk : MK M' np) (hmi : MKi M') (hlk : Cond.methodLink M.1.cls i M'.1 ∈ gw)
    (hav : av = .ref b :: As) (hst : st = As.reverse ++ .ref b :: rest) (hnp : As.length = np) (hC : CUT ws isC wc) (hnd : va_nd isC = true) (hrest : (rest.map fun v => v.category).sum ≤ 8) (hfr : q'.1 + 1 ≤ q.1) (hloc : 8 + (M'.2.2.1 + 11) + 64 * q'.1 ≤ 64 * q.1) (hcl : k + q'.2.1 ≤ q.2.1 ∧ n + q'.2.2 ≤ q.2.2)
    (hre : ws[q0]? = some (b, .inr (ci, fs))) (hci : clsX[ci]? = some (M'.1.cls, T, N))
    (kk : ∀ (r : Option Value) (w1 : va_W), post r w1 → V E M q Z (k + q'.2.1) (n + q'.2.2) (wput ws isC w1) ls (r.toList ++ rest) pc') : V E M q Z k n ws ls st pc := by
  subst hp; subst hav; subst hst
  intro H locs lv hP hD hS hl
  obtain ⟨hF, hPc⟩ := call_pre (av := .ref b :: As) C hC hnd hP hD hS
  refine call_go hC hnd hP hD hS hl hF (va_runV (own := M.1.cls) (As := As) (rest := rest) ⟨C.1, C.2.1, C.2.2.1, C.2.2.2.2.1, C.2.2.2.2.2.1⟩ (hM H.size) ⟨call_B C hmk hlk hfr hloc, C.2.2.2.2.2.1 _ hmi.1, C.2.2.2.2.2.1 _ hmi.2⟩ ⟨PP_blind, va_recv C.2.2.2.2.2.2.2.2.1.1 hP (ci := ci) (q0 := q0) hci hre, hPc⟩ rfl hnp hl.1 rfl (lv_room hrest) d hcl) kk
theorem mr_callS (C : CX E M q Z) {M' : MD} {q' : RQ} {av : List Value} {wc : va_W} {post : PO} (hM : Ctr E M' q' av wc post) {i np : Nat} (isC : List Nat) {rest : List Value} (pc' : Nat) (d : decode M.2.1 pc = .ok (.invokestatic i, 3)) (hp : pc + 3 = pc') (hmk : MK M' np) (hms : Cond.static M'.1 ∈ gw) (hlk : Cond.methodLink M.1.cls i M'.1 ∈ gw)
    (hst : st = av.reverse ++ rest) (hnp : av.length = np) (hC : CUT ws isC wc) (hnd : va_nd isC = true) (hrest : (rest.map fun v => v.category).sum ≤ 8) (hfr : q'.1 + 1 ≤ q.1) (hloc : 8 + (M'.2.2.1 + 11) + 64 * q'.1 ≤ 64 * q.1) (hcl : k + q'.2.1 ≤ q.2.1 ∧ n + q'.2.2 ≤ q.2.2)
    (kk : ∀ (r : Option Value) (w1 : va_W), post r w1 → V E M q Z (k + q'.2.1) (n + q'.2.2) (wput ws isC w1) ls (r.toList ++ rest) pc') : V E M q Z k n ws ls st pc := by
  subst hp; subst hst
  intro H locs lv hP hD hS hl
  obtain ⟨hF, hPc⟩ := call_pre (av := av) C hC hnd hP hD hS
  refine call_go hC hnd hP hD hS hl hF (va_runS (own := M.1.cls) (As := av) (rest := rest) ⟨C.1, C.2.1, C.2.2.1, C.2.2.2.2.1, C.2.2.2.2.2.1⟩ (hM H.size) ⟨call_B C hmk hlk hfr hloc, C.2.2.2.2.2.1 _ hms⟩ ⟨PP_blind, hPc⟩ rfl hnp hl.1 rfl (lv_room hrest) d hcl) kk
theorem mr_callI (C : CX E M q Z) {M' : MD} {q' : RQ} {av : List Value} {wc : va_W} {post : PO} (hM : Ctr E M' q' av wc post) {i np : Nat} (isC : List Nat) {b : Addr} {As rest : List Value} (pc' : Nat) (d : decode M.2.1 pc = .ok (.invokespecial i, 3)) (hp : pc + 3 = pc') (hmk : MK M' np) (hret : M'.2.2.2 = none) (hy1 : M'.1.name = "<init>") (hmi : Cond.instanceMethod M'.1 ∈ gw) (hlk : Cond.methodLink M.1.cls i M'.1 ∈ gw)
    (hav : av = .ref b :: As) (hst : st = As.reverse ++ .ref b :: rest) (hnp : As.length = np) (hC : CUT ws isC wc) (hnd : va_nd isC = true) (hrest : (rest.map fun v => v.category).sum ≤ 8) (hfr : q'.1 + 1 ≤ q.1) (hloc : 8 + (M'.2.2.1 + 11) + 64 * q'.1 ≤ 64 * q.1) (hcl : k + q'.2.1 ≤ q.2.1 ∧ n + q'.2.2 ≤ q.2.2)
    (kk : ∀ (r : Option Value) (w1 : va_W), post r w1 → V E M q Z (k + q'.2.1) (n + q'.2.2) (wput ws isC w1) ls (r.toList ++ rest) pc') : V E M q Z k n ws ls st pc := by
  subst hp; subst hav; subst hst
  intro H locs lv hP hD hS hl
  obtain ⟨hF, hPc⟩ := call_pre (av := .ref b :: As) C hC hnd hP hD hS
  have hB := call_B (q' := q') C hmk hlk hfr hloc
  have hM2 := hM H.size
  rw [hret] at hB hM2
  refine call_go hC hnd hP hD hS hl hF (va_runI (own := M.1.cls) (As := As) (rest := rest) ⟨C.1, C.2.1, C.2.2.1, C.2.2.2.2.1, C.2.2.2.2.2.1⟩ hM2 ⟨hB, hy1, C.2.2.2.2.2.1 _ hmi⟩ ⟨PP_blind, hPc⟩ rfl hnp hl.1 rfl (lv_room hrest) d hcl) kk
/-- a private constructor of a nest mate -/
theorem mr_callIN (C : CX E M q Z) {M' : MD} {q' : RQ} {av : List Value} {wc : va_W} {post : PO} (hM : Ctr E M' q' av wc post) {i np : Nat} {host : String} (isC : List Nat) {b : Addr} {As rest : List Value} (pc' : Nat) (d : decode M.2.1 pc = .ok (.invokespecial i, 3)) (hp : pc + 3 = pc') (hmk : MK M' np) (hret : M'.2.2.2 = none) (hy1 : M'.1.name = "<init>") (hmi : Cond.instanceMethod M'.1 ∈ gw) (hlk : Cond.methodLinkNest M.1.cls i M'.1 host ∈ lw_tbl)
    (hav : av = .ref b :: As) (hst : st = As.reverse ++ .ref b :: rest) (hnp : As.length = np) (hC : CUT ws isC wc) (hnd : va_nd isC = true) (hrest : (rest.map fun v => v.category).sum ≤ 8) (hfr : q'.1 + 1 ≤ q.1) (hloc : 8 + (M'.2.2.1 + 11) + 64 * q'.1 ≤ 64 * q.1) (hcl : k + q'.2.1 ≤ q.2.1 ∧ n + q'.2.2 ≤ q.2.2)
    (kk : ∀ (r : Option Value) (w1 : va_W), post r w1 → V E M q Z (k + q'.2.1) (n + q'.2.2) (wput ws isC w1) ls (r.toList ++ rest) pc') : V E M q Z k n ws ls st pc := by
  subst hp; subst hav; subst hst
  intro H locs lv hP hD hS hl
  obtain ⟨hF, hPc⟩ := call_pre (av := .ref b :: As) C hC hnd hP hD hS
  have hM2 := hM H.size
  have hK := hmk.1
  rw [hret] at hM2 hK
  refine call_go hC hnd hP hD hS hl hF (va_runIN (own := M.1.cls) (host := host) (As := As) (rest := rest) ⟨C.1, C.2.1, C.2.2.1, C.2.2.2.2.1, C.2.2.2.2.2.1⟩ hM2 ⟨va_cnB np C.2.2.2.2.2.1 (gw_good hK) rfl rfl rfl (C.2.2.2.2.2.2.2.2.1.2.1 _ hlk rfl) (C.2.2.2.2.2.1 _ hmk.2.1) ⟨hmk.2.2.1, hmk.2.2.2.1, hmk.2.2.2.2⟩ ⟨hfr, hloc⟩, hy1, C.2.2.2.2.2.1 _ hmi⟩ ⟨PP_blind, hPc⟩ rfl hnp hl.1 rfl (lv_room hrest) d hcl) kk
/-- Object() -/
theorem mr_objI (C : CX E M q Z) {i : Nat} {a : Addr} (pc' : Nat) (d : decode M.2.1 pc = .ok (.invokespecial i, 3)) (hp : pc + 3 = pc') (hlk : Cond.methodLink M.1.cls i objectInit ∈ gw) (hin : Cond.instanceMethod objectInit ∈ gw) (hco : Cond.code objectInit ⟨#[0xb1]⟩ 1 none ∈ gw) (hrest : (st.map fun v => v.category).sum ≤ 8) (hq : 1 ≤ q.1) (kk : V E M q Z k n ws ls st pc') : V E M q Z k n ws ls (.ref a :: st) pc := by
  subst hp
  intro H locs lv hP hD hS hl
  refine W.objInit C.1 C.2.1 C.2.2.2.2.1 (C.2.2.2.2.2.1 _ hlk) (C.2.2.2.2.2.1 _ hin) (C.2.2.2.2.2.1 _ hco) rfl (by rw [C.2.2.1]; exact hl.1) rfl d hq ?_ (kk H locs lv hP hD hS hl)
  have h1 := lv_room (m := zm Z) (pc := pc) (ls := lv) (rest := Value.ref a :: st) hrest
  show _ + 12 ≤ 64 * q.1
  omega
end ROWS3
end
section
/-! the links of fields -/
theorem iw0 : ∀ w ∈ u_ws RX0 TX0 3, w ∈ gw := by
  have h : (u_ws RX0 TX0 3).all (fun w => decide (w ∈ lw_tbl) && goodWord w) = true := by decide +kernel
  intro w hw
  have h1 := List.all_eq_true.mp h w hw
  simp only [Bool.and_eq_true, decide_eq_true_eq] at h1
  exact gw_mem h1.1 h1.2
theorem iw1 : ∀ w ∈ u_ws RX1 TX1 3, w ∈ gw := by
  have h : (u_ws RX1 TX1 3).all (fun w => decide (w ∈ lw_tbl) && goodWord w) = true := by decide +kernel
  intro w hw
  have h1 := List.all_eq_true.mp h w hw
  simp only [Bool.and_eq_true, decide_eq_true_eq] at h1
  exact gw_mem h1.1 h1.2
theorem iw2 : ∀ w ∈ u_ws RX2 TX2 7, w ∈ gw := by
  have h : (u_ws RX2 TX2 7).all (fun w => decide (w ∈ lw_tbl) && goodWord w) = true := by decide +kernel
  intro w hw
  have h1 := List.all_eq_true.mp h w hw
  simp only [Bool.and_eq_true, decide_eq_true_eq] at h1
  exact gw_mem h1.1 h1.2
theorem iw3 : ∀ w ∈ u_ws RX3 TX3 14, w ∈ gw := by
  have h : (u_ws RX3 TX3 14).all (fun w => decide (w ∈ lw_tbl) && goodWord w) = true := by decide +kernel
  intro w hw
  have h1 := List.all_eq_true.mp h w hw
  simp only [Bool.and_eq_true, decide_eq_true_eq] at h1
  exact gw_mem h1.1 h1.2
theorem iw4 : ∀ w ∈ u_ws RX4 TX4 5, w ∈ gw := by
  have h : (u_ws RX4 TX4 5).all (fun w => decide (w ∈ lw_tbl) && goodWord w) = true := by decide +kernel
  intro w hw
  have h1 := List.all_eq_true.mp h w hw
  simp only [Bool.and_eq_true, decide_eq_true_eq] at h1
  exact gw_mem h1.1 h1.2
theorem iw5 : ∀ w ∈ u_ws RX5 TX5 4, w ∈ gw := by
  have h : (u_ws RX5 TX5 4).all (fun w => decide (w ∈ lw_tbl) && goodWord w) = true := by decide +kernel
  intro w hw
  have h1 := List.all_eq_true.mp h w hw
  simp only [Bool.and_eq_true, decide_eq_true_eq] at h1
  exact gw_mem h1.1 h1.2
theorem iw6 : ∀ w ∈ u_ws RX6 TX6 6, w ∈ gw := by
  have h : (u_ws RX6 TX6 6).all (fun w => decide (w ∈ lw_tbl) && goodWord w) = true := by decide +kernel
  intro w hw
  have h1 := List.all_eq_true.mp h w hw
  simp only [Bool.and_eq_true, decide_eq_true_eq] at h1
  exact gw_mem h1.1 h1.2
theorem iw7 : ∀ w ∈ u_ws RX7 TX7 10, w ∈ gw := by
  have h : (u_ws RX7 TX7 10).all (fun w => decide (w ∈ lw_tbl) && goodWord w) = true := by decide +kernel
  intro w hw
  have h1 := List.all_eq_true.mp h w hw
  simp only [Bool.and_eq_true, decide_eq_true_eq] at h1
  exact gw_mem h1.1 h1.2
theorem iw8 : ∀ w ∈ u_ws RX8 TX8 32, w ∈ gw := by
  have h : (u_ws RX8 TX8 32).all (fun w => decide (w ∈ lw_tbl) && goodWord w) = true := by decide +kernel
  intro w hw
  have h1 := List.all_eq_true.mp h w hw
  simp only [Bool.and_eq_true, decide_eq_true_eq] at h1
  exact gw_mem h1.1 h1.2
theorem fl_X6_9 : FL RX6 9 6 0 := ⟨RX6, TX6, 6, rfl, by decide, iw6, gw_mem (by decide +kernel) rfl⟩
theorem ff_X6_9 : FF RX6 9 6 0 (tyX6 0) := ⟨RX6, TX6, 6, tyX6, rfl, by decide, iw6, gw_mem (by decide +kernel) rfl, tyX6_ok, nmX6, rfl, rfl, rfl⟩
theorem fl_X6_15 : FL RX6 15 6 1 := ⟨RX6, TX6, 6, rfl, by decide, iw6, gw_mem (by decide +kernel) rfl⟩
theorem fs_X6_15 : FS RX6 15 6 1 .int := ⟨RX6, TX6, 6, tyX6, rfl, by decide, iw6, gw_mem (by decide +kernel) rfl, tyX6_ok, nmX6, rfl, rfl⟩
theorem fl_X7_111 : FL RX7 111 6 1 := ⟨RX6, TX6, 6, rfl, by decide, iw6, gw_mem (by decide +kernel) rfl⟩
theorem fs_X7_111 : FS RX7 111 6 1 .int := ⟨RX6, TX6, 6, tyX6, rfl, by decide, iw6, gw_mem (by decide +kernel) rfl, tyX6_ok, nmX6, rfl, rfl⟩
theorem fl_X4_41 : FL RX4 41 6 2 := ⟨RX6, TX6, 6, rfl, by decide, iw6, gw_mem (by decide +kernel) rfl⟩
theorem fs_X4_41 : FS RX4 41 6 2 .int := ⟨RX6, TX6, 6, tyX6, rfl, by decide, iw6, gw_mem (by decide +kernel) rfl, tyX6_ok, nmX6, rfl, rfl⟩
theorem fl_X6_32 : FL RX6 32 6 2 := ⟨RX6, TX6, 6, rfl, by decide, iw6, gw_mem (by decide +kernel) rfl⟩
theorem fs_X6_32 : FS RX6 32 6 2 .int := ⟨RX6, TX6, 6, tyX6, rfl, by decide, iw6, gw_mem (by decide +kernel) rfl, tyX6_ok, nmX6, rfl, rfl⟩
theorem fl_X6_29 : FL RX6 29 6 3 := ⟨RX6, TX6, 6, rfl, by decide, iw6, gw_mem (by decide +kernel) rfl⟩
theorem fs_X6_29 : FS RX6 29 6 3 .int := ⟨RX6, TX6, 6, tyX6, rfl, by decide, iw6, gw_mem (by decide +kernel) rfl, tyX6_ok, nmX6, rfl, rfl⟩
theorem fl_X7_121 : FL RX7 121 6 3 := ⟨RX6, TX6, 6, rfl, by decide, iw6, gw_mem (by decide +kernel) rfl⟩
theorem fs_X7_121 : FS RX7 121 6 3 .int := ⟨RX6, TX6, 6, tyX6, rfl, by decide, iw6, gw_mem (by decide +kernel) rfl, tyX6_ok, nmX6, rfl, rfl⟩
theorem fl_X6_19 : FL RX6 19 6 4 := ⟨RX6, TX6, 6, rfl, by decide, iw6, gw_mem (by decide +kernel) rfl⟩
theorem fs_X6_19 : FS RX6 19 6 4 .int := ⟨RX6, TX6, 6, tyX6, rfl, by decide, iw6, gw_mem (by decide +kernel) rfl, tyX6_ok, nmX6, rfl, rfl⟩
theorem fl_X4_68 : FL RX4 68 6 5 := ⟨RX6, TX6, 6, rfl, by decide, iw6, gw_mem (by decide +kernel) rfl⟩
theorem fs_X4_68 : FS RX4 68 6 5 .int := ⟨RX6, TX6, 6, tyX6, rfl, by decide, iw6, gw_mem (by decide +kernel) rfl, tyX6_ok, nmX6, rfl, rfl⟩
theorem fl_X6_57 : FL RX6 57 6 5 := ⟨RX6, TX6, 6, rfl, by decide, iw6, gw_mem (by decide +kernel) rfl⟩
theorem fs_X6_57 : FS RX6 57 6 5 .int := ⟨RX6, TX6, 6, tyX6, rfl, by decide, iw6, gw_mem (by decide +kernel) rfl, tyX6_ok, nmX6, rfl, rfl⟩
theorem fl_X3_9 : FL RX3 9 3 0 := ⟨RX3, TX3, 14, rfl, by decide, iw3, gw_mem (by decide +kernel) rfl⟩
theorem ff_X3_9 : FF RX3 9 3 0 (tyX3 0) := ⟨RX3, TX3, 14, tyX3, rfl, by decide, iw3, gw_mem (by decide +kernel) rfl, tyX3_ok, nmX3, rfl, rfl, rfl⟩
theorem fl_X2_47 : FL RX2 47 3 0 := ⟨RX3, TX3, 14, rfl, by decide, iw3, gw_mem (by decide +kernel) rfl⟩
theorem fl_X4_78 : FL RX4 78 3 0 := ⟨RX3, TX3, 14, rfl, by decide, iw3, gw_mem (by decide +kernel) rfl⟩
theorem fl_X7_195 : FL RX7 195 3 0 := ⟨RX3, TX3, 14, rfl, by decide, iw3, gw_mem (by decide +kernel) rfl⟩
theorem fl_X3_15 : FL RX3 15 3 1 := ⟨RX3, TX3, 14, rfl, by decide, iw3, gw_mem (by decide +kernel) rfl⟩
theorem ff_X3_15 : FF RX3 15 3 1 (tyX3 1) := ⟨RX3, TX3, 14, tyX3, rfl, by decide, iw3, gw_mem (by decide +kernel) rfl, tyX3_ok, nmX3, rfl, rfl, rfl⟩
theorem fl_X0_19 : FL RX0 19 3 1 := ⟨RX3, TX3, 14, rfl, by decide, iw3, gw_mem (by decide +kernel) rfl⟩
theorem fl_X7_201 : FL RX7 201 3 1 := ⟨RX3, TX3, 14, rfl, by decide, iw3, gw_mem (by decide +kernel) rfl⟩
theorem fl_X2_119 : FL RX2 119 3 1 := ⟨RX3, TX3, 14, rfl, by decide, iw3, gw_mem (by decide +kernel) rfl⟩
theorem fl_X3_18 : FL RX3 18 3 2 := ⟨RX3, TX3, 14, rfl, by decide, iw3, gw_mem (by decide +kernel) rfl⟩
theorem ff_X3_18 : FF RX3 18 3 2 (tyX3 2) := ⟨RX3, TX3, 14, tyX3, rfl, by decide, iw3, gw_mem (by decide +kernel) rfl, tyX3_ok, nmX3, rfl, rfl, rfl⟩
theorem fl_X0_30 : FL RX0 30 3 2 := ⟨RX3, TX3, 14, rfl, by decide, iw3, gw_mem (by decide +kernel) rfl⟩
theorem fl_X3_21 : FL RX3 21 3 3 := ⟨RX3, TX3, 14, rfl, by decide, iw3, gw_mem (by decide +kernel) rfl⟩
theorem ff_X3_21 : FF RX3 21 3 3 (tyX3 3) := ⟨RX3, TX3, 14, tyX3, rfl, by decide, iw3, gw_mem (by decide +kernel) rfl, tyX3_ok, nmX3, rfl, rfl, rfl⟩
theorem fl_X1_25 : FL RX1 25 3 3 := ⟨RX3, TX3, 14, rfl, by decide, iw3, gw_mem (by decide +kernel) rfl⟩
theorem fl_X4_102 : FL RX4 102 3 3 := ⟨RX3, TX3, 14, rfl, by decide, iw3, gw_mem (by decide +kernel) rfl⟩
theorem fl_X2_109 : FL RX2 109 3 3 := ⟨RX3, TX3, 14, rfl, by decide, iw3, gw_mem (by decide +kernel) rfl⟩
theorem fl_X7_237 : FL RX7 237 3 3 := ⟨RX3, TX3, 14, rfl, by decide, iw3, gw_mem (by decide +kernel) rfl⟩
theorem fl_X3_24 : FL RX3 24 3 4 := ⟨RX3, TX3, 14, rfl, by decide, iw3, gw_mem (by decide +kernel) rfl⟩
theorem ff_X3_24 : FF RX3 24 3 4 (tyX3 4) := ⟨RX3, TX3, 14, tyX3, rfl, by decide, iw3, gw_mem (by decide +kernel) rfl, tyX3_ok, nmX3, rfl, rfl, rfl⟩
theorem fl_X2_36 : FL RX2 36 3 4 := ⟨RX3, TX3, 14, rfl, by decide, iw3, gw_mem (by decide +kernel) rfl⟩
theorem fl_X0_33 : FL RX0 33 3 4 := ⟨RX3, TX3, 14, rfl, by decide, iw3, gw_mem (by decide +kernel) rfl⟩
theorem fl_X1_52 : FL RX1 52 3 4 := ⟨RX3, TX3, 14, rfl, by decide, iw3, gw_mem (by decide +kernel) rfl⟩
theorem fl_X4_105 : FL RX4 105 3 4 := ⟨RX3, TX3, 14, rfl, by decide, iw3, gw_mem (by decide +kernel) rfl⟩
theorem fl_X7_192 : FL RX7 192 3 4 := ⟨RX3, TX3, 14, rfl, by decide, iw3, gw_mem (by decide +kernel) rfl⟩
theorem fl_X3_27 : FL RX3 27 3 5 := ⟨RX3, TX3, 14, rfl, by decide, iw3, gw_mem (by decide +kernel) rfl⟩
theorem ff_X3_27 : FF RX3 27 3 5 (tyX3 5) := ⟨RX3, TX3, 14, tyX3, rfl, by decide, iw3, gw_mem (by decide +kernel) rfl, tyX3_ok, nmX3, rfl, rfl, rfl⟩
theorem fl_X0_36 : FL RX0 36 3 5 := ⟨RX3, TX3, 14, rfl, by decide, iw3, gw_mem (by decide +kernel) rfl⟩
theorem fl_X1_49 : FL RX1 49 3 5 := ⟨RX3, TX3, 14, rfl, by decide, iw3, gw_mem (by decide +kernel) rfl⟩
theorem fl_X4_108 : FL RX4 108 3 5 := ⟨RX3, TX3, 14, rfl, by decide, iw3, gw_mem (by decide +kernel) rfl⟩
theorem fl_X7_183 : FL RX7 183 3 5 := ⟨RX3, TX3, 14, rfl, by decide, iw3, gw_mem (by decide +kernel) rfl⟩
theorem fl_X3_39 : FL RX3 39 3 6 := ⟨RX3, TX3, 14, rfl, by decide, iw3, gw_mem (by decide +kernel) rfl⟩
theorem fs_X3_39 : FS RX3 39 3 6 .int := ⟨RX3, TX3, 14, tyX3, rfl, by decide, iw3, gw_mem (by decide +kernel) rfl, tyX3_ok, nmX3, rfl, rfl⟩
theorem fl_X4_61 : FL RX4 61 3 6 := ⟨RX3, TX3, 14, rfl, by decide, iw3, gw_mem (by decide +kernel) rfl⟩
theorem fs_X4_61 : FS RX4 61 3 6 .int := ⟨RX3, TX3, 14, tyX3, rfl, by decide, iw3, gw_mem (by decide +kernel) rfl, tyX3_ok, nmX3, rfl, rfl⟩
theorem fl_X2_61 : FL RX2 61 3 6 := ⟨RX3, TX3, 14, rfl, by decide, iw3, gw_mem (by decide +kernel) rfl⟩
theorem fs_X2_61 : FS RX2 61 3 6 .int := ⟨RX3, TX3, 14, tyX3, rfl, by decide, iw3, gw_mem (by decide +kernel) rfl, tyX3_ok, nmX3, rfl, rfl⟩
theorem fl_X7_138 : FL RX7 138 3 6 := ⟨RX3, TX3, 14, rfl, by decide, iw3, gw_mem (by decide +kernel) rfl⟩
theorem fs_X7_138 : FS RX7 138 3 6 .int := ⟨RX3, TX3, 14, tyX3, rfl, by decide, iw3, gw_mem (by decide +kernel) rfl, tyX3_ok, nmX3, rfl, rfl⟩
theorem fl_X3_43 : FL RX3 43 3 7 := ⟨RX3, TX3, 14, rfl, by decide, iw3, gw_mem (by decide +kernel) rfl⟩
theorem fs_X3_43 : FS RX3 43 3 7 .int := ⟨RX3, TX3, 14, tyX3, rfl, by decide, iw3, gw_mem (by decide +kernel) rfl, tyX3_ok, nmX3, rfl, rfl⟩
theorem fl_X4_88 : FL RX4 88 3 7 := ⟨RX3, TX3, 14, rfl, by decide, iw3, gw_mem (by decide +kernel) rfl⟩
theorem fs_X4_88 : FS RX4 88 3 7 .int := ⟨RX3, TX3, 14, tyX3, rfl, by decide, iw3, gw_mem (by decide +kernel) rfl, tyX3_ok, nmX3, rfl, rfl⟩
theorem fl_X2_92 : FL RX2 92 3 7 := ⟨RX3, TX3, 14, rfl, by decide, iw3, gw_mem (by decide +kernel) rfl⟩
theorem fs_X2_92 : FS RX2 92 3 7 .int := ⟨RX3, TX3, 14, tyX3, rfl, by decide, iw3, gw_mem (by decide +kernel) rfl, tyX3_ok, nmX3, rfl, rfl⟩
theorem fl_X7_152 : FL RX7 152 3 7 := ⟨RX3, TX3, 14, rfl, by decide, iw3, gw_mem (by decide +kernel) rfl⟩
theorem fs_X7_152 : FS RX7 152 3 7 .int := ⟨RX3, TX3, 14, tyX3, rfl, by decide, iw3, gw_mem (by decide +kernel) rfl, tyX3_ok, nmX3, rfl, rfl⟩
theorem fl_X0_39 : FL RX0 39 3 8 := ⟨RX3, TX3, 14, rfl, by decide, iw3, gw_mem (by decide +kernel) rfl⟩
theorem fs_X0_39 : FS RX0 39 3 8 .int := ⟨RX3, TX3, 14, tyX3, rfl, by decide, iw3, gw_mem (by decide +kernel) rfl, tyX3_ok, nmX3, rfl, rfl⟩
theorem fl_X3_46 : FL RX3 46 3 8 := ⟨RX3, TX3, 14, rfl, by decide, iw3, gw_mem (by decide +kernel) rfl⟩
theorem fs_X3_46 : FS RX3 46 3 8 .int := ⟨RX3, TX3, 14, tyX3, rfl, by decide, iw3, gw_mem (by decide +kernel) rfl, tyX3_ok, nmX3, rfl, rfl⟩
theorem fl_X7_142 : FL RX7 142 3 8 := ⟨RX3, TX3, 14, rfl, by decide, iw3, gw_mem (by decide +kernel) rfl⟩
theorem fs_X7_142 : FS RX7 142 3 8 .int := ⟨RX3, TX3, 14, tyX3, rfl, by decide, iw3, gw_mem (by decide +kernel) rfl, tyX3_ok, nmX3, rfl, rfl⟩
theorem fl_X2_99 : FL RX2 99 3 8 := ⟨RX3, TX3, 14, rfl, by decide, iw3, gw_mem (by decide +kernel) rfl⟩
theorem fs_X2_99 : FS RX2 99 3 8 .int := ⟨RX3, TX3, 14, tyX3, rfl, by decide, iw3, gw_mem (by decide +kernel) rfl, tyX3_ok, nmX3, rfl, rfl⟩
theorem fl_X3_49 : FL RX3 49 3 9 := ⟨RX3, TX3, 14, rfl, by decide, iw3, gw_mem (by decide +kernel) rfl⟩
theorem fs_X3_49 : FS RX3 49 3 9 .int := ⟨RX3, TX3, 14, tyX3, rfl, by decide, iw3, gw_mem (by decide +kernel) rfl, tyX3_ok, nmX3, rfl, rfl⟩
theorem fl_X3_58 : FL RX3 58 3 10 := ⟨RX3, TX3, 14, rfl, by decide, iw3, gw_mem (by decide +kernel) rfl⟩
theorem fs_X3_58 : FS RX3 58 3 10 .int := ⟨RX3, TX3, 14, tyX3, rfl, by decide, iw3, gw_mem (by decide +kernel) rfl, tyX3_ok, nmX3, rfl, rfl⟩
theorem fl_X3_30 : FL RX3 30 3 11 := ⟨RX3, TX3, 14, rfl, by decide, iw3, gw_mem (by decide +kernel) rfl⟩
theorem ff_X3_30 : FF RX3 30 3 11 (tyX3 11) := ⟨RX3, TX3, 14, tyX3, rfl, by decide, iw3, gw_mem (by decide +kernel) rfl, tyX3_ok, nmX3, rfl, rfl, rfl⟩
theorem fl_X3_33 : FL RX3 33 3 12 := ⟨RX3, TX3, 14, rfl, by decide, iw3, gw_mem (by decide +kernel) rfl⟩
theorem ff_X3_33 : FF RX3 33 3 12 (tyX3 12) := ⟨RX3, TX3, 14, tyX3, rfl, by decide, iw3, gw_mem (by decide +kernel) rfl, tyX3_ok, nmX3, rfl, rfl, rfl⟩
theorem fl_X3_36 : FL RX3 36 3 13 := ⟨RX3, TX3, 14, rfl, by decide, iw3, gw_mem (by decide +kernel) rfl⟩
theorem ff_X3_36 : FF RX3 36 3 13 (tyX3 13) := ⟨RX3, TX3, 14, tyX3, rfl, by decide, iw3, gw_mem (by decide +kernel) rfl, tyX3_ok, nmX3, rfl, rfl, rfl⟩
theorem fl_X4_18 : FL RX4 18 4 0 := ⟨RX4, TX4, 5, rfl, by decide, iw4, gw_mem (by decide +kernel) rfl⟩
theorem ff_X4_18 : FF RX4 18 4 0 (tyX4 0) := ⟨RX4, TX4, 5, tyX4, rfl, by decide, iw4, gw_mem (by decide +kernel) rfl, tyX4_ok, nmX4, rfl, rfl, rfl⟩
theorem fl_X4_12 : FL RX4 12 4 1 := ⟨RX4, TX4, 5, rfl, by decide, iw4, gw_mem (by decide +kernel) rfl⟩
theorem ff_X4_12 : FF RX4 12 4 1 (tyX4 1) := ⟨RX4, TX4, 5, tyX4, rfl, by decide, iw4, gw_mem (by decide +kernel) rfl, tyX4_ok, nmX4, rfl, rfl, rfl⟩
theorem fl_X7_129 : FL RX7 129 4 1 := ⟨RX4, TX4, 5, rfl, by decide, iw4, gw_mem (by decide +kernel) rfl⟩
theorem fl_X4_25 : FL RX4 25 4 2 := ⟨RX4, TX4, 5, rfl, by decide, iw4, gw_mem (by decide +kernel) rfl⟩
theorem fs_X4_25 : FS RX4 25 4 2 .int := ⟨RX4, TX4, 5, tyX4, rfl, by decide, iw4, gw_mem (by decide +kernel) rfl, tyX4_ok, nmX4, rfl, rfl⟩
theorem fl_X4_29 : FL RX4 29 4 3 := ⟨RX4, TX4, 5, rfl, by decide, iw4, gw_mem (by decide +kernel) rfl⟩
theorem fs_X4_29 : FS RX4 29 4 3 .int := ⟨RX4, TX4, 5, tyX4, rfl, by decide, iw4, gw_mem (by decide +kernel) rfl, tyX4_ok, nmX4, rfl, rfl⟩
theorem fl_X7_124 : FL RX7 124 4 4 := ⟨RX4, TX4, 5, rfl, by decide, iw4, gw_mem (by decide +kernel) rfl⟩
theorem fs_X7_124 : FS RX7 124 4 4 .int := ⟨RX4, TX4, 5, tyX4, rfl, by decide, iw4, gw_mem (by decide +kernel) rfl, tyX4_ok, nmX4, rfl, rfl⟩
theorem fl_X4_121 : FL RX4 121 4 4 := ⟨RX4, TX4, 5, rfl, by decide, iw4, gw_mem (by decide +kernel) rfl⟩
theorem fs_X4_121 : FS RX4 121 4 4 .int := ⟨RX4, TX4, 5, tyX4, rfl, by decide, iw4, gw_mem (by decide +kernel) rfl, tyX4_ok, nmX4, rfl, rfl⟩
theorem fl_X0_11 : FL RX0 11 0 0 := ⟨RX0, TX0, 3, rfl, by decide, iw0, gw_mem (by decide +kernel) rfl⟩
theorem ff_X0_11 : FF RX0 11 0 0 (tyX0 0) := ⟨RX0, TX0, 3, tyX0, rfl, by decide, iw0, gw_mem (by decide +kernel) rfl, tyX0_ok, nmX0, rfl, rfl, rfl⟩
theorem fl_X0_42 : FL RX0 42 0 1 := ⟨RX0, TX0, 3, rfl, by decide, iw0, gw_mem (by decide +kernel) rfl⟩
theorem fs_X0_42 : FS RX0 42 0 1 .int := ⟨RX0, TX0, 3, tyX0, rfl, by decide, iw0, gw_mem (by decide +kernel) rfl, tyX0_ok, nmX0, rfl, rfl⟩
theorem fl_X7_186 : FL RX7 186 0 1 := ⟨RX0, TX0, 3, rfl, by decide, iw0, gw_mem (by decide +kernel) rfl⟩
theorem fs_X7_186 : FS RX7 186 0 1 .int := ⟨RX0, TX0, 3, tyX0, rfl, by decide, iw0, gw_mem (by decide +kernel) rfl, tyX0_ok, nmX0, rfl, rfl⟩
theorem fl_X0_15 : FL RX0 15 0 2 := ⟨RX0, TX0, 3, rfl, by decide, iw0, gw_mem (by decide +kernel) rfl⟩
theorem fs_X0_15 : FS RX0 15 0 2 .int := ⟨RX0, TX0, 3, tyX0, rfl, by decide, iw0, gw_mem (by decide +kernel) rfl, tyX0_ok, nmX0, rfl, rfl⟩
theorem fl_X2_25 : FL RX2 25 2 0 := ⟨RX2, TX2, 7, rfl, by decide, iw2, gw_mem (by decide +kernel) rfl⟩
theorem ff_X2_25 : FF RX2 25 2 0 (tyX2 0) := ⟨RX2, TX2, 7, tyX2, rfl, by decide, iw2, gw_mem (by decide +kernel) rfl, tyX2_ok, nmX2, rfl, rfl, rfl⟩
theorem fl_X2_12 : FL RX2 12 2 1 := ⟨RX2, TX2, 7, rfl, by decide, iw2, gw_mem (by decide +kernel) rfl⟩
theorem ff_X2_12 : FF RX2 12 2 1 (tyX2 1) := ⟨RX2, TX2, 7, tyX2, rfl, by decide, iw2, gw_mem (by decide +kernel) rfl, tyX2_ok, nmX2, rfl, rfl, rfl⟩
theorem fl_X2_69 : FL RX2 69 2 2 := ⟨RX2, TX2, 7, rfl, by decide, iw2, gw_mem (by decide +kernel) rfl⟩
theorem fs_X2_69 : FS RX2 69 2 2 .int := ⟨RX2, TX2, 7, tyX2, rfl, by decide, iw2, gw_mem (by decide +kernel) rfl, tyX2_ok, nmX2, rfl, rfl⟩
theorem fl_X7_263 : FL RX7 263 2 2 := ⟨RX2, TX2, 7, rfl, by decide, iw2, gw_mem (by decide +kernel) rfl⟩
theorem fs_X7_263 : FS RX7 263 2 2 .int := ⟨RX2, TX2, 7, tyX2, rfl, by decide, iw2, gw_mem (by decide +kernel) rfl, tyX2_ok, nmX2, rfl, rfl⟩
theorem fl_X2_72 : FL RX2 72 2 3 := ⟨RX2, TX2, 7, rfl, by decide, iw2, gw_mem (by decide +kernel) rfl⟩
theorem fs_X2_72 : FS RX2 72 2 3 .int := ⟨RX2, TX2, 7, tyX2, rfl, by decide, iw2, gw_mem (by decide +kernel) rfl, tyX2_ok, nmX2, rfl, rfl⟩
theorem fl_X7_266 : FL RX7 266 2 3 := ⟨RX2, TX2, 7, rfl, by decide, iw2, gw_mem (by decide +kernel) rfl⟩
theorem fs_X7_266 : FS RX7 266 2 3 .int := ⟨RX2, TX2, 7, tyX2, rfl, by decide, iw2, gw_mem (by decide +kernel) rfl, tyX2_ok, nmX2, rfl, rfl⟩
theorem fl_X2_86 : FL RX2 86 2 4 := ⟨RX2, TX2, 7, rfl, by decide, iw2, gw_mem (by decide +kernel) rfl⟩
theorem fs_X2_86 : FS RX2 86 2 4 .int := ⟨RX2, TX2, 7, tyX2, rfl, by decide, iw2, gw_mem (by decide +kernel) rfl, tyX2_ok, nmX2, rfl, rfl⟩
theorem fl_X7_230 : FL RX7 230 2 4 := ⟨RX2, TX2, 7, rfl, by decide, iw2, gw_mem (by decide +kernel) rfl⟩
theorem fs_X7_230 : FS RX7 230 2 4 .int := ⟨RX2, TX2, 7, tyX2, rfl, by decide, iw2, gw_mem (by decide +kernel) rfl, tyX2_ok, nmX2, rfl, rfl⟩
theorem fl_X2_18 : FL RX2 18 2 5 := ⟨RX2, TX2, 7, rfl, by decide, iw2, gw_mem (by decide +kernel) rfl⟩
theorem ff_X2_18 : FF RX2 18 2 5 (tyX2 5) := ⟨RX2, TX2, 7, tyX2, rfl, by decide, iw2, gw_mem (by decide +kernel) rfl, tyX2_ok, nmX2, rfl, rfl, rfl⟩
theorem fl_X7_234 : FL RX7 234 2 5 := ⟨RX2, TX2, 7, rfl, by decide, iw2, gw_mem (by decide +kernel) rfl⟩
theorem fl_X2_22 : FL RX2 22 2 6 := ⟨RX2, TX2, 7, rfl, by decide, iw2, gw_mem (by decide +kernel) rfl⟩
theorem ff_X2_22 : FF RX2 22 2 6 (tyX2 6) := ⟨RX2, TX2, 7, tyX2, rfl, by decide, iw2, gw_mem (by decide +kernel) rfl, tyX2_ok, nmX2, rfl, rfl, rfl⟩
theorem fl_X1_13 : FL RX1 13 1 0 := ⟨RX1, TX1, 3, rfl, by decide, iw1, gw_mem (by decide +kernel) rfl⟩
theorem ff_X1_13 : FF RX1 13 1 0 (tyX1 0) := ⟨RX1, TX1, 3, tyX1, rfl, by decide, iw1, gw_mem (by decide +kernel) rfl, tyX1_ok, nmX1, rfl, rfl, rfl⟩
theorem fl_X1_9 : FL RX1 9 1 1 := ⟨RX1, TX1, 3, rfl, by decide, iw1, gw_mem (by decide +kernel) rfl⟩
theorem ff_X1_9 : FF RX1 9 1 1 (tyX1 1) := ⟨RX1, TX1, 3, tyX1, rfl, by decide, iw1, gw_mem (by decide +kernel) rfl, tyX1_ok, nmX1, rfl, rfl, rfl⟩
theorem fl_X7_249 : FL RX7 249 1 1 := ⟨RX1, TX1, 3, rfl, by decide, iw1, gw_mem (by decide +kernel) rfl⟩
theorem fl_X1_17 : FL RX1 17 1 2 := ⟨RX1, TX1, 3, rfl, by decide, iw1, gw_mem (by decide +kernel) rfl⟩
theorem fs_X1_17 : FS RX1 17 1 2 .int := ⟨RX1, TX1, 3, tyX1, rfl, by decide, iw1, gw_mem (by decide +kernel) rfl, tyX1_ok, nmX1, rfl, rfl⟩
theorem fl_X7_246 : FL RX7 246 1 2 := ⟨RX1, TX1, 3, rfl, by decide, iw1, gw_mem (by decide +kernel) rfl⟩
theorem fs_X7_246 : FS RX7 246 1 2 .int := ⟨RX1, TX1, 3, tyX1, rfl, by decide, iw1, gw_mem (by decide +kernel) rfl, tyX1_ok, nmX1, rfl, rfl⟩
theorem fl_X5_9 : FL RX5 9 5 0 := ⟨RX5, TX5, 4, rfl, by decide, iw5, gw_mem (by decide +kernel) rfl⟩
theorem ff_X5_9 : FF RX5 9 5 0 (tyX5 0) := ⟨RX5, TX5, 4, tyX5, rfl, by decide, iw5, gw_mem (by decide +kernel) rfl, tyX5_ok, nmX5, rfl, rfl, rfl⟩
theorem fl_X7_98 : FL RX7 98 5 0 := ⟨RX5, TX5, 4, rfl, by decide, iw5, gw_mem (by decide +kernel) rfl⟩
theorem fl_X5_15 : FL RX5 15 5 1 := ⟨RX5, TX5, 4, rfl, by decide, iw5, gw_mem (by decide +kernel) rfl⟩
theorem fs_X5_15 : FS RX5 15 5 1 .boolean := ⟨RX5, TX5, 4, tyX5, rfl, by decide, iw5, gw_mem (by decide +kernel) rfl, tyX5_ok, nmX5, rfl, rfl⟩
theorem fl_X7_83 : FL RX7 83 5 1 := ⟨RX5, TX5, 4, rfl, by decide, iw5, gw_mem (by decide +kernel) rfl⟩
theorem fs_X7_83 : FS RX7 83 5 1 .boolean := ⟨RX5, TX5, 4, tyX5, rfl, by decide, iw5, gw_mem (by decide +kernel) rfl, tyX5_ok, nmX5, rfl, rfl⟩
theorem fl_X5_19 : FL RX5 19 5 2 := ⟨RX5, TX5, 4, rfl, by decide, iw5, gw_mem (by decide +kernel) rfl⟩
theorem fs_X5_19 : FS RX5 19 5 2 .int := ⟨RX5, TX5, 4, tyX5, rfl, by decide, iw5, gw_mem (by decide +kernel) rfl, tyX5_ok, nmX5, rfl, rfl⟩
theorem fl_X7_95 : FL RX7 95 5 2 := ⟨RX5, TX5, 4, rfl, by decide, iw5, gw_mem (by decide +kernel) rfl⟩
theorem fs_X7_95 : FS RX7 95 5 2 .int := ⟨RX5, TX5, 4, tyX5, rfl, by decide, iw5, gw_mem (by decide +kernel) rfl, tyX5_ok, nmX5, rfl, rfl⟩
theorem fl_X5_23 : FL RX5 23 5 3 := ⟨RX5, TX5, 4, rfl, by decide, iw5, gw_mem (by decide +kernel) rfl⟩
theorem fs_X5_23 : FS RX5 23 5 3 .int := ⟨RX5, TX5, 4, tyX5, rfl, by decide, iw5, gw_mem (by decide +kernel) rfl, tyX5_ok, nmX5, rfl, rfl⟩
theorem fl_X7_108 : FL RX7 108 5 3 := ⟨RX5, TX5, 4, rfl, by decide, iw5, gw_mem (by decide +kernel) rfl⟩
theorem fs_X7_108 : FS RX7 108 5 3 .int := ⟨RX5, TX5, 4, tyX5, rfl, by decide, iw5, gw_mem (by decide +kernel) rfl, tyX5_ok, nmX5, rfl, rfl⟩
theorem fl_X7_11 : FL RX7 11 7 0 := ⟨RX7, TX7, 10, rfl, by decide, iw7, gw_mem (by decide +kernel) rfl⟩
theorem ff_X7_11 : FF RX7 11 7 0 (tyX7 0) := ⟨RX7, TX7, 10, tyX7, rfl, by decide, iw7, gw_mem (by decide +kernel) rfl, tyX7_ok, nmX7, rfl, rfl, rfl⟩
theorem fl_X7_18 : FL RX7 18 7 1 := ⟨RX7, TX7, 10, rfl, by decide, iw7, gw_mem (by decide +kernel) rfl⟩
theorem ff_X7_18 : FF RX7 18 7 1 (tyX7 1) := ⟨RX7, TX7, 10, tyX7, rfl, by decide, iw7, gw_mem (by decide +kernel) rfl, tyX7_ok, nmX7, rfl, rfl, rfl⟩
theorem fl_X7_27 : FL RX7 27 7 2 := ⟨RX7, TX7, 10, rfl, by decide, iw7, gw_mem (by decide +kernel) rfl⟩
theorem ff_X7_27 : FF RX7 27 7 2 (tyX7 2) := ⟨RX7, TX7, 10, tyX7, rfl, by decide, iw7, gw_mem (by decide +kernel) rfl, tyX7_ok, nmX7, rfl, rfl, rfl⟩
theorem fl_X7_34 : FL RX7 34 7 3 := ⟨RX7, TX7, 10, rfl, by decide, iw7, gw_mem (by decide +kernel) rfl⟩
theorem ff_X7_34 : FF RX7 34 7 3 (tyX7 3) := ⟨RX7, TX7, 10, tyX7, rfl, by decide, iw7, gw_mem (by decide +kernel) rfl, tyX7_ok, nmX7, rfl, rfl, rfl⟩
theorem fl_X7_38 : FL RX7 38 7 4 := ⟨RX7, TX7, 10, rfl, by decide, iw7, gw_mem (by decide +kernel) rfl⟩
theorem ff_X7_38 : FF RX7 38 7 4 (tyX7 4) := ⟨RX7, TX7, 10, tyX7, rfl, by decide, iw7, gw_mem (by decide +kernel) rfl, tyX7_ok, nmX7, rfl, rfl, rfl⟩
theorem fl_X7_45 : FL RX7 45 7 5 := ⟨RX7, TX7, 10, rfl, by decide, iw7, gw_mem (by decide +kernel) rfl⟩
theorem ff_X7_45 : FF RX7 45 7 5 (tyX7 5) := ⟨RX7, TX7, 10, tyX7, rfl, by decide, iw7, gw_mem (by decide +kernel) rfl, tyX7_ok, nmX7, rfl, rfl, rfl⟩
theorem fl_X7_54 : FL RX7 54 7 6 := ⟨RX7, TX7, 10, rfl, by decide, iw7, gw_mem (by decide +kernel) rfl⟩
theorem ff_X7_54 : FF RX7 54 7 6 (tyX7 6) := ⟨RX7, TX7, 10, tyX7, rfl, by decide, iw7, gw_mem (by decide +kernel) rfl, tyX7_ok, nmX7, rfl, rfl, rfl⟩
theorem fl_X7_61 : FL RX7 61 7 7 := ⟨RX7, TX7, 10, rfl, by decide, iw7, gw_mem (by decide +kernel) rfl⟩
theorem ff_X7_61 : FF RX7 61 7 7 (tyX7 7) := ⟨RX7, TX7, 10, tyX7, rfl, by decide, iw7, gw_mem (by decide +kernel) rfl, tyX7_ok, nmX7, rfl, rfl, rfl⟩
theorem fl_X7_127 : FL RX7 127 7 8 := ⟨RX7, TX7, 10, rfl, by decide, iw7, gw_mem (by decide +kernel) rfl⟩
theorem fs_X7_127 : FS RX7 127 7 8 .int := ⟨RX7, TX7, 10, tyX7, rfl, by decide, iw7, gw_mem (by decide +kernel) rfl, tyX7_ok, nmX7, rfl, rfl⟩
theorem fl_X7_79 : FL RX7 79 7 9 := ⟨RX7, TX7, 10, rfl, by decide, iw7, gw_mem (by decide +kernel) rfl⟩
theorem fs_X7_79 : FS RX7 79 7 9 .int := ⟨RX7, TX7, 10, tyX7, rfl, by decide, iw7, gw_mem (by decide +kernel) rfl, tyX7_ok, nmX7, rfl, rfl⟩
theorem fl_X8_59 : FL RX8 59 8 0 := ⟨RX8, TX8, 32, rfl, by decide, iw8, gw_mem (by decide +kernel) rfl⟩
theorem fs_X8_59 : FS RX8 59 8 0 .int := ⟨RX8, TX8, 32, tyX8, rfl, by decide, iw8, gw_mem (by decide +kernel) rfl, tyX8_ok, nmX8, rfl, rfl⟩
theorem fl_X8_63 : FL RX8 63 8 1 := ⟨RX8, TX8, 32, rfl, by decide, iw8, gw_mem (by decide +kernel) rfl⟩
theorem fs_X8_63 : FS RX8 63 8 1 .int := ⟨RX8, TX8, 32, tyX8, rfl, by decide, iw8, gw_mem (by decide +kernel) rfl, tyX8_ok, nmX8, rfl, rfl⟩
theorem fl_X8_7 : FL RX8 7 8 2 := ⟨RX8, TX8, 32, rfl, by decide, iw8, gw_mem (by decide +kernel) rfl⟩
theorem ff_X8_7 : FF RX8 7 8 2 (tyX8 2) := ⟨RX8, TX8, 32, tyX8, rfl, by decide, iw8, gw_mem (by decide +kernel) rfl, tyX8_ok, nmX8, rfl, rfl, rfl⟩
theorem fl_X8_13 : FL RX8 13 8 3 := ⟨RX8, TX8, 32, rfl, by decide, iw8, gw_mem (by decide +kernel) rfl⟩
theorem ff_X8_13 : FF RX8 13 8 3 (tyX8 3) := ⟨RX8, TX8, 32, tyX8, rfl, by decide, iw8, gw_mem (by decide +kernel) rfl, tyX8_ok, nmX8, rfl, rfl, rfl⟩
theorem fl_X8_16 : FL RX8 16 8 4 := ⟨RX8, TX8, 32, rfl, by decide, iw8, gw_mem (by decide +kernel) rfl⟩
theorem ff_X8_16 : FF RX8 16 8 4 (tyX8 4) := ⟨RX8, TX8, 32, tyX8, rfl, by decide, iw8, gw_mem (by decide +kernel) rfl, tyX8_ok, nmX8, rfl, rfl, rfl⟩
theorem fl_X8_19 : FL RX8 19 8 5 := ⟨RX8, TX8, 32, rfl, by decide, iw8, gw_mem (by decide +kernel) rfl⟩
theorem ff_X8_19 : FF RX8 19 8 5 (tyX8 5) := ⟨RX8, TX8, 32, tyX8, rfl, by decide, iw8, gw_mem (by decide +kernel) rfl, tyX8_ok, nmX8, rfl, rfl, rfl⟩
theorem fl_X8_22 : FL RX8 22 8 6 := ⟨RX8, TX8, 32, rfl, by decide, iw8, gw_mem (by decide +kernel) rfl⟩
theorem ff_X8_22 : FF RX8 22 8 6 (tyX8 6) := ⟨RX8, TX8, 32, tyX8, rfl, by decide, iw8, gw_mem (by decide +kernel) rfl, tyX8_ok, nmX8, rfl, rfl, rfl⟩
theorem fl_X8_25 : FL RX8 25 8 7 := ⟨RX8, TX8, 32, rfl, by decide, iw8, gw_mem (by decide +kernel) rfl⟩
theorem ff_X8_25 : FF RX8 25 8 7 (tyX8 7) := ⟨RX8, TX8, 32, tyX8, rfl, by decide, iw8, gw_mem (by decide +kernel) rfl, tyX8_ok, nmX8, rfl, rfl, rfl⟩
theorem fl_X8_189 : FL RX8 189 8 8 := ⟨RX8, TX8, 32, rfl, by decide, iw8, gw_mem (by decide +kernel) rfl⟩
theorem fs_X8_189 : FS RX8 189 8 8 .int := ⟨RX8, TX8, 32, tyX8, rfl, by decide, iw8, gw_mem (by decide +kernel) rfl, tyX8_ok, nmX8, rfl, rfl⟩
theorem fl_X8_28 : FL RX8 28 8 9 := ⟨RX8, TX8, 32, rfl, by decide, iw8, gw_mem (by decide +kernel) rfl⟩
theorem ff_X8_28 : FF RX8 28 8 9 (tyX8 9) := ⟨RX8, TX8, 32, tyX8, rfl, by decide, iw8, gw_mem (by decide +kernel) rfl, tyX8_ok, nmX8, rfl, rfl, rfl⟩
theorem fl_X8_86 : FL RX8 86 8 10 := ⟨RX8, TX8, 32, rfl, by decide, iw8, gw_mem (by decide +kernel) rfl⟩
theorem fs_X8_86 : FS RX8 86 8 10 .int := ⟨RX8, TX8, 32, tyX8, rfl, by decide, iw8, gw_mem (by decide +kernel) rfl, tyX8_ok, nmX8, rfl, rfl⟩
theorem fl_X8_185 : FL RX8 185 8 11 := ⟨RX8, TX8, 32, rfl, by decide, iw8, gw_mem (by decide +kernel) rfl⟩
theorem fs_X8_185 : FS RX8 185 8 11 .int := ⟨RX8, TX8, 32, tyX8, rfl, by decide, iw8, gw_mem (by decide +kernel) rfl, tyX8_ok, nmX8, rfl, rfl⟩
theorem fl_X8_92 : FL RX8 92 8 12 := ⟨RX8, TX8, 32, rfl, by decide, iw8, gw_mem (by decide +kernel) rfl⟩
theorem fs_X8_92 : FS RX8 92 8 12 .int := ⟨RX8, TX8, 32, tyX8, rfl, by decide, iw8, gw_mem (by decide +kernel) rfl, tyX8_ok, nmX8, rfl, rfl⟩
theorem fl_X8_96 : FL RX8 96 8 13 := ⟨RX8, TX8, 32, rfl, by decide, iw8, gw_mem (by decide +kernel) rfl⟩
theorem fs_X8_96 : FS RX8 96 8 13 .int := ⟨RX8, TX8, 32, tyX8, rfl, by decide, iw8, gw_mem (by decide +kernel) rfl, tyX8_ok, nmX8, rfl, rfl⟩
theorem fl_X8_105 : FL RX8 105 8 14 := ⟨RX8, TX8, 32, rfl, by decide, iw8, gw_mem (by decide +kernel) rfl⟩
theorem fs_X8_105 : FS RX8 105 8 14 .int := ⟨RX8, TX8, 32, tyX8, rfl, by decide, iw8, gw_mem (by decide +kernel) rfl, tyX8_ok, nmX8, rfl, rfl⟩
theorem fl_X8_102 : FL RX8 102 8 15 := ⟨RX8, TX8, 32, rfl, by decide, iw8, gw_mem (by decide +kernel) rfl⟩
theorem fs_X8_102 : FS RX8 102 8 15 .int := ⟨RX8, TX8, 32, tyX8, rfl, by decide, iw8, gw_mem (by decide +kernel) rfl, tyX8_ok, nmX8, rfl, rfl⟩
theorem fl_X8_114 : FL RX8 114 8 16 := ⟨RX8, TX8, 32, rfl, by decide, iw8, gw_mem (by decide +kernel) rfl⟩
theorem fs_X8_114 : FS RX8 114 8 16 .int := ⟨RX8, TX8, 32, tyX8, rfl, by decide, iw8, gw_mem (by decide +kernel) rfl, tyX8_ok, nmX8, rfl, rfl⟩
theorem fl_X8_117 : FL RX8 117 8 17 := ⟨RX8, TX8, 32, rfl, by decide, iw8, gw_mem (by decide +kernel) rfl⟩
theorem fs_X8_117 : FS RX8 117 8 17 .int := ⟨RX8, TX8, 32, tyX8, rfl, by decide, iw8, gw_mem (by decide +kernel) rfl, tyX8_ok, nmX8, rfl, rfl⟩
theorem fl_X8_123 : FL RX8 123 8 18 := ⟨RX8, TX8, 32, rfl, by decide, iw8, gw_mem (by decide +kernel) rfl⟩
theorem fs_X8_123 : FS RX8 123 8 18 .int := ⟨RX8, TX8, 32, tyX8, rfl, by decide, iw8, gw_mem (by decide +kernel) rfl, tyX8_ok, nmX8, rfl, rfl⟩
theorem fl_X8_31 : FL RX8 31 8 19 := ⟨RX8, TX8, 32, rfl, by decide, iw8, gw_mem (by decide +kernel) rfl⟩
theorem ff_X8_31 : FF RX8 31 8 19 (tyX8 19) := ⟨RX8, TX8, 32, tyX8, rfl, by decide, iw8, gw_mem (by decide +kernel) rfl, tyX8_ok, nmX8, rfl, rfl, rfl⟩
theorem fl_X8_34 : FL RX8 34 8 20 := ⟨RX8, TX8, 32, rfl, by decide, iw8, gw_mem (by decide +kernel) rfl⟩
theorem ff_X8_34 : FF RX8 34 8 20 (tyX8 20) := ⟨RX8, TX8, 32, tyX8, rfl, by decide, iw8, gw_mem (by decide +kernel) rfl, tyX8_ok, nmX8, rfl, rfl, rfl⟩
theorem fl_X8_37 : FL RX8 37 8 21 := ⟨RX8, TX8, 32, rfl, by decide, iw8, gw_mem (by decide +kernel) rfl⟩
theorem ff_X8_37 : FF RX8 37 8 21 (tyX8 21) := ⟨RX8, TX8, 32, tyX8, rfl, by decide, iw8, gw_mem (by decide +kernel) rfl, tyX8_ok, nmX8, rfl, rfl, rfl⟩
theorem fl_X8_40 : FL RX8 40 8 22 := ⟨RX8, TX8, 32, rfl, by decide, iw8, gw_mem (by decide +kernel) rfl⟩
theorem ff_X8_40 : FF RX8 40 8 22 (tyX8 22) := ⟨RX8, TX8, 32, tyX8, rfl, by decide, iw8, gw_mem (by decide +kernel) rfl, tyX8_ok, nmX8, rfl, rfl, rfl⟩
theorem fl_X8_43 : FL RX8 43 8 23 := ⟨RX8, TX8, 32, rfl, by decide, iw8, gw_mem (by decide +kernel) rfl⟩
theorem ff_X8_43 : FF RX8 43 8 23 (tyX8 23) := ⟨RX8, TX8, 32, tyX8, rfl, by decide, iw8, gw_mem (by decide +kernel) rfl, tyX8_ok, nmX8, rfl, rfl, rfl⟩
theorem fl_X8_46 : FL RX8 46 8 24 := ⟨RX8, TX8, 32, rfl, by decide, iw8, gw_mem (by decide +kernel) rfl⟩
theorem ff_X8_46 : FF RX8 46 8 24 (tyX8 24) := ⟨RX8, TX8, 32, tyX8, rfl, by decide, iw8, gw_mem (by decide +kernel) rfl, tyX8_ok, nmX8, rfl, rfl, rfl⟩
theorem fl_X8_192 : FL RX8 192 8 25 := ⟨RX8, TX8, 32, rfl, by decide, iw8, gw_mem (by decide +kernel) rfl⟩
theorem fs_X8_192 : FS RX8 192 8 25 .int := ⟨RX8, TX8, 32, tyX8, rfl, by decide, iw8, gw_mem (by decide +kernel) rfl, tyX8_ok, nmX8, rfl, rfl⟩
theorem fl_X8_198 : FL RX8 198 8 26 := ⟨RX8, TX8, 32, rfl, by decide, iw8, gw_mem (by decide +kernel) rfl⟩
theorem fs_X8_198 : FS RX8 198 8 26 .int := ⟨RX8, TX8, 32, tyX8, rfl, by decide, iw8, gw_mem (by decide +kernel) rfl, tyX8_ok, nmX8, rfl, rfl⟩
theorem fl_X8_195 : FL RX8 195 8 27 := ⟨RX8, TX8, 32, rfl, by decide, iw8, gw_mem (by decide +kernel) rfl⟩
theorem fs_X8_195 : FS RX8 195 8 27 .int := ⟨RX8, TX8, 32, tyX8, rfl, by decide, iw8, gw_mem (by decide +kernel) rfl, tyX8_ok, nmX8, rfl, rfl⟩
theorem fl_X8_49 : FL RX8 49 8 28 := ⟨RX8, TX8, 32, rfl, by decide, iw8, gw_mem (by decide +kernel) rfl⟩
theorem ff_X8_49 : FF RX8 49 8 28 (tyX8 28) := ⟨RX8, TX8, 32, tyX8, rfl, by decide, iw8, gw_mem (by decide +kernel) rfl, tyX8_ok, nmX8, rfl, rfl, rfl⟩
theorem fl_X8_53 : FL RX8 53 8 29 := ⟨RX8, TX8, 32, rfl, by decide, iw8, gw_mem (by decide +kernel) rfl⟩
theorem ff_X8_53 : FF RX8 53 8 29 (tyX8 29) := ⟨RX8, TX8, 32, tyX8, rfl, by decide, iw8, gw_mem (by decide +kernel) rfl, tyX8_ok, nmX8, rfl, rfl, rfl⟩
theorem fl_X8_56 : FL RX8 56 8 30 := ⟨RX8, TX8, 32, rfl, by decide, iw8, gw_mem (by decide +kernel) rfl⟩
theorem ff_X8_56 : FF RX8 56 8 30 (tyX8 30) := ⟨RX8, TX8, 32, tyX8, rfl, by decide, iw8, gw_mem (by decide +kernel) rfl, tyX8_ok, nmX8, rfl, rfl, rfl⟩
theorem fl_X8_287 : FL RX8 287 8 31 := ⟨RX8, TX8, 32, rfl, by decide, iw8, gw_mem (by decide +kernel) rfl⟩
theorem fs_X8_287 : FS RX8 287 8 31 .int := ⟨RX8, TX8, 32, tyX8, rfl, by decide, iw8, gw_mem (by decide +kernel) rfl, tyX8_ok, nmX8, rfl, rfl⟩
end
section
/-! the methods in the tables -/
theorem mk_X0_init : MK mX0_init 0 := ⟨gw_mem (by decide +kernel) rfl, gw_mem (by decide +kernel) rfl, by decide +kernel, by decide +kernel, by decide +kernel⟩
theorem mi_X0_init : Cond.instanceMethod yX0_init ∈ gw := gw_mem (by decide +kernel) rfl
theorem mk_X0_keep : MK mX0_keep 1 := ⟨gw_mem (by decide +kernel) rfl, gw_mem (by decide +kernel) rfl, by decide +kernel, by decide +kernel, by decide +kernel⟩
theorem mi_X0_keep : MKi mX0_keep := ⟨gw_mem (by decide +kernel) rfl, gw_mem (by decide +kernel) rfl⟩
theorem mk_X0_takeBack : MK mX0_takeBack 1 := ⟨gw_mem (by decide +kernel) rfl, gw_mem (by decide +kernel) rfl, by decide +kernel, by decide +kernel, by decide +kernel⟩
theorem mi_X0_takeBack : MKi mX0_takeBack := ⟨gw_mem (by decide +kernel) rfl, gw_mem (by decide +kernel) rfl⟩
theorem mk_X0_forgetAll : MK mX0_forgetAll 0 := ⟨gw_mem (by decide +kernel) rfl, gw_mem (by decide +kernel) rfl, by decide +kernel, by decide +kernel, by decide +kernel⟩
theorem mi_X0_forgetAll : MKi mX0_forgetAll := ⟨gw_mem (by decide +kernel) rfl, gw_mem (by decide +kernel) rfl⟩
theorem mk_X1_init : MK mX1_init 1 := ⟨gw_mem (by decide +kernel) rfl, gw_mem (by decide +kernel) rfl, by decide +kernel, by decide +kernel, by decide +kernel⟩
theorem mi_X1_init : Cond.instanceMethod yX1_init ∈ gw := gw_mem (by decide +kernel) rfl
theorem mk_X1_nearestBody : MK mX1_nearestBody 2 := ⟨gw_mem (by decide +kernel) rfl, gw_mem (by decide +kernel) rfl, by decide +kernel, by decide +kernel, by decide +kernel⟩
theorem ms_X1_nearestBody : Cond.static yX1_nearestBody ∈ gw := gw_mem (by decide +kernel) rfl
theorem mk_X1_leave : MK mX1_leave 1 := ⟨gw_mem (by decide +kernel) rfl, gw_mem (by decide +kernel) rfl, by decide +kernel, by decide +kernel, by decide +kernel⟩
theorem mi_X1_leave : MKi mX1_leave := ⟨gw_mem (by decide +kernel) rfl, gw_mem (by decide +kernel) rfl⟩
theorem mk_X1_answer : MK mX1_answer 3 := ⟨gw_mem (by decide +kernel) rfl, gw_mem (by decide +kernel) rfl, by decide +kernel, by decide +kernel, by decide +kernel⟩
theorem mi_X1_answer : MKi mX1_answer := ⟨gw_mem (by decide +kernel) rfl, gw_mem (by decide +kernel) rfl⟩
theorem mk_X1_runBody : MK mX1_runBody 3 := ⟨gw_mem (by decide +kernel) rfl, gw_mem (by decide +kernel) rfl, by decide +kernel, by decide +kernel, by decide +kernel⟩
theorem mi_X1_runBody : MKi mX1_runBody := ⟨gw_mem (by decide +kernel) rfl, gw_mem (by decide +kernel) rfl⟩
theorem mk_X1_askAnew : MK mX1_askAnew 2 := ⟨gw_mem (by decide +kernel) rfl, gw_mem (by decide +kernel) rfl, by decide +kernel, by decide +kernel, by decide +kernel⟩
theorem mi_X1_askAnew : MKi mX1_askAnew := ⟨gw_mem (by decide +kernel) rfl, gw_mem (by decide +kernel) rfl⟩
theorem mk_X3_init : MK mX3_init 0 := ⟨gw_mem (by decide +kernel) rfl, gw_mem (by decide +kernel) rfl, by decide +kernel, by decide +kernel, by decide +kernel⟩
theorem mi_X3_init : Cond.instanceMethod yX3_init ∈ gw := gw_mem (by decide +kernel) rfl
theorem mk_X2_init : MK mX2_init 1 := ⟨gw_mem (by decide +kernel) rfl, gw_mem (by decide +kernel) rfl, by decide +kernel, by decide +kernel, by decide +kernel⟩
theorem mi_X2_init : Cond.instanceMethod yX2_init ∈ gw := gw_mem (by decide +kernel) rfl
theorem mk_X3_take : MK mX3_take 1 := ⟨gw_mem (by decide +kernel) rfl, gw_mem (by decide +kernel) rfl, by decide +kernel, by decide +kernel, by decide +kernel⟩
theorem mi_X3_take : MKi mX3_take := ⟨gw_mem (by decide +kernel) rfl, gw_mem (by decide +kernel) rfl⟩
theorem mk_X3_countHeads : MK mX3_countHeads 0 := ⟨gw_mem (by decide +kernel) rfl, gw_mem (by decide +kernel) rfl, by decide +kernel, by decide +kernel, by decide +kernel⟩
theorem mi_X3_countHeads : MKi mX3_countHeads := ⟨gw_mem (by decide +kernel) rfl, gw_mem (by decide +kernel) rfl⟩
theorem mk_X3_goalOf : MK mX3_goalOf 1 := ⟨gw_mem (by decide +kernel) rfl, gw_mem (by decide +kernel) rfl, by decide +kernel, by decide +kernel, by decide +kernel⟩
theorem mi_X3_goalOf : MKi mX3_goalOf := ⟨gw_mem (by decide +kernel) rfl, gw_mem (by decide +kernel) rfl⟩
theorem mk_X3_ring : MK mX3_ring 0 := ⟨gw_mem (by decide +kernel) rfl, gw_mem (by decide +kernel) rfl, by decide +kernel, by decide +kernel, by decide +kernel⟩
theorem mi_X3_ring : MKi mX3_ring := ⟨gw_mem (by decide +kernel) rfl, gw_mem (by decide +kernel) rfl⟩
theorem mk_X2_ringTimes : MK mX2_ringTimes 1 := ⟨gw_mem (by decide +kernel) rfl, gw_mem (by decide +kernel) rfl, by decide +kernel, by decide +kernel, by decide +kernel⟩
theorem mi_X2_ringTimes : MKi mX2_ringTimes := ⟨gw_mem (by decide +kernel) rfl, gw_mem (by decide +kernel) rfl⟩
theorem mk_X2_whereBehind : MK mX2_whereBehind 2 := ⟨gw_mem (by decide +kernel) rfl, gw_mem (by decide +kernel) rfl, by decide +kernel, by decide +kernel, by decide +kernel⟩
theorem mi_X2_whereBehind : MKi mX2_whereBehind := ⟨gw_mem (by decide +kernel) rfl, gw_mem (by decide +kernel) rfl⟩
theorem mk_X3_headsIn : MK mX3_headsIn 1 := ⟨gw_mem (by decide +kernel) rfl, gw_mem (by decide +kernel) rfl, by decide +kernel, by decide +kernel, by decide +kernel⟩
theorem mi_X3_headsIn : MKi mX3_headsIn := ⟨gw_mem (by decide +kernel) rfl, gw_mem (by decide +kernel) rfl⟩
theorem mk_X2_headsBehind : MK mX2_headsBehind 2 := ⟨gw_mem (by decide +kernel) rfl, gw_mem (by decide +kernel) rfl, by decide +kernel, by decide +kernel, by decide +kernel⟩
theorem mi_X2_headsBehind : MKi mX2_headsBehind := ⟨gw_mem (by decide +kernel) rfl, gw_mem (by decide +kernel) rfl⟩
theorem mk_X2_worth : MK mX2_worth 2 := ⟨gw_mem (by decide +kernel) rfl, gw_mem (by decide +kernel) rfl, by decide +kernel, by decide +kernel, by decide +kernel⟩
theorem mi_X2_worth : MKi mX2_worth := ⟨gw_mem (by decide +kernel) rfl, gw_mem (by decide +kernel) rfl⟩
theorem mk_X2_bellsToRest : MK mX2_bellsToRest 0 := ⟨gw_mem (by decide +kernel) rfl, gw_mem (by decide +kernel) rfl, by decide +kernel, by decide +kernel, by decide +kernel⟩
theorem mi_X2_bellsToRest : MKi mX2_bellsToRest := ⟨gw_mem (by decide +kernel) rfl, gw_mem (by decide +kernel) rfl⟩
theorem mk_X2_allAsNow : MK mX2_allAsNow 0 := ⟨gw_mem (by decide +kernel) rfl, gw_mem (by decide +kernel) rfl, by decide +kernel, by decide +kernel, by decide +kernel⟩
theorem mi_X2_allAsNow : MKi mX2_allAsNow := ⟨gw_mem (by decide +kernel) rfl, gw_mem (by decide +kernel) rfl⟩
theorem mk_X2_bellsToRing : MK mX2_bellsToRing 0 := ⟨gw_mem (by decide +kernel) rfl, gw_mem (by decide +kernel) rfl, by decide +kernel, by decide +kernel, by decide +kernel⟩
theorem mi_X2_bellsToRing : MKi mX2_bellsToRing := ⟨gw_mem (by decide +kernel) rfl, gw_mem (by decide +kernel) rfl⟩
theorem mk_X3_hire : MK mX3_hire 2 := ⟨gw_mem (by decide +kernel) rfl, gw_mem (by decide +kernel) rfl, by decide +kernel, by decide +kernel, by decide +kernel⟩
theorem mi_X3_hire : MKi mX3_hire := ⟨gw_mem (by decide +kernel) rfl, gw_mem (by decide +kernel) rfl⟩
theorem mk_X2_succeeds : MK mX2_succeeds 5 := ⟨gw_mem (by decide +kernel) rfl, gw_mem (by decide +kernel) rfl, by decide +kernel, by decide +kernel, by decide +kernel⟩
theorem mi_X2_succeeds : MKi mX2_succeeds := ⟨gw_mem (by decide +kernel) rfl, gw_mem (by decide +kernel) rfl⟩
theorem mk_X2_findHired : MK mX2_findHired 3 := ⟨gw_mem (by decide +kernel) rfl, gw_mem (by decide +kernel) rfl, by decide +kernel, by decide +kernel, by decide +kernel⟩
theorem mi_X2_findHired : MKi mX2_findHired := ⟨gw_mem (by decide +kernel) rfl, gw_mem (by decide +kernel) rfl⟩
theorem mk_X2_meet : MK mX2_meet 3 := ⟨gw_mem (by decide +kernel) rfl, gw_mem (by decide +kernel) rfl, by decide +kernel, by decide +kernel, by decide +kernel⟩
theorem mi_X2_meet : MKi mX2_meet := ⟨gw_mem (by decide +kernel) rfl, gw_mem (by decide +kernel) rfl⟩
theorem mk_X3_doorBetween : MK mX3_doorBetween 2 := ⟨gw_mem (by decide +kernel) rfl, gw_mem (by decide +kernel) rfl, by decide +kernel, by decide +kernel, by decide +kernel⟩
theorem mi_X3_doorBetween : MKi mX3_doorBetween := ⟨gw_mem (by decide +kernel) rfl, gw_mem (by decide +kernel) rfl⟩
theorem mk_X3_putDoor : MK mX3_putDoor 3 := ⟨gw_mem (by decide +kernel) rfl, gw_mem (by decide +kernel) rfl, by decide +kernel, by decide +kernel, by decide +kernel⟩
theorem mi_X3_putDoor : MKi mX3_putDoor := ⟨gw_mem (by decide +kernel) rfl, gw_mem (by decide +kernel) rfl⟩
theorem mk_X2_partedBy : MK mX2_partedBy 5 := ⟨gw_mem (by decide +kernel) rfl, gw_mem (by decide +kernel) rfl, by decide +kernel, by decide +kernel, by decide +kernel⟩
theorem mi_X2_partedBy : MKi mX2_partedBy := ⟨gw_mem (by decide +kernel) rfl, gw_mem (by decide +kernel) rfl⟩
theorem mk_X2_doorToShut : MK mX2_doorToShut 3 := ⟨gw_mem (by decide +kernel) rfl, gw_mem (by decide +kernel) rfl, by decide +kernel, by decide +kernel, by decide +kernel⟩
theorem mi_X2_doorToShut : MKi mX2_doorToShut := ⟨gw_mem (by decide +kernel) rfl, gw_mem (by decide +kernel) rfl⟩
theorem mk_X2_seenFrom : MK mX2_seenFrom 1 := ⟨gw_mem (by decide +kernel) rfl, gw_mem (by decide +kernel) rfl, by decide +kernel, by decide +kernel, by decide +kernel⟩
theorem mi_X2_seenFrom : MKi mX2_seenFrom := ⟨gw_mem (by decide +kernel) rfl, gw_mem (by decide +kernel) rfl⟩
theorem mk_X2_findSources : MK mX2_findSources 1 := ⟨gw_mem (by decide +kernel) rfl, gw_mem (by decide +kernel) rfl, by decide +kernel, by decide +kernel, by decide +kernel⟩
theorem mi_X2_findSources : MKi mX2_findSources := ⟨gw_mem (by decide +kernel) rfl, gw_mem (by decide +kernel) rfl⟩
theorem mk_X2_canBegin : MK mX2_canBegin 1 := ⟨gw_mem (by decide +kernel) rfl, gw_mem (by decide +kernel) rfl, by decide +kernel, by decide +kernel, by decide +kernel⟩
theorem mi_X2_canBegin : MKi mX2_canBegin := ⟨gw_mem (by decide +kernel) rfl, gw_mem (by decide +kernel) rfl⟩
theorem mk_X2_countWay : MK mX2_countWay 1 := ⟨gw_mem (by decide +kernel) rfl, gw_mem (by decide +kernel) rfl, by decide +kernel, by decide +kernel, by decide +kernel⟩
theorem mi_X2_countWay : MKi mX2_countWay := ⟨gw_mem (by decide +kernel) rfl, gw_mem (by decide +kernel) rfl⟩
theorem mk_X2_findBeginnings : MK mX2_findBeginnings 1 := ⟨gw_mem (by decide +kernel) rfl, gw_mem (by decide +kernel) rfl, by decide +kernel, by decide +kernel, by decide +kernel⟩
theorem mi_X2_findBeginnings : MKi mX2_findBeginnings := ⟨gw_mem (by decide +kernel) rfl, gw_mem (by decide +kernel) rfl⟩
theorem mk_X3_clear : MK mX3_clear 0 := ⟨gw_mem (by decide +kernel) rfl, gw_mem (by decide +kernel) rfl, by decide +kernel, by decide +kernel, by decide +kernel⟩
theorem mi_X3_clear : MKi mX3_clear := ⟨gw_mem (by decide +kernel) rfl, gw_mem (by decide +kernel) rfl⟩
theorem mk_X3_isRoom : MK mX3_isRoom 1 := ⟨gw_mem (by decide +kernel) rfl, gw_mem (by decide +kernel) rfl, by decide +kernel, by decide +kernel, by decide +kernel⟩
theorem mi_X3_isRoom : MKi mX3_isRoom := ⟨gw_mem (by decide +kernel) rfl, gw_mem (by decide +kernel) rfl⟩
theorem mk_X3_isCrowd : MK mX3_isCrowd 1 := ⟨gw_mem (by decide +kernel) rfl, gw_mem (by decide +kernel) rfl, by decide +kernel, by decide +kernel, by decide +kernel⟩
theorem mi_X3_isCrowd : MKi mX3_isCrowd := ⟨gw_mem (by decide +kernel) rfl, gw_mem (by decide +kernel) rfl⟩
theorem mk_X3_allHeads : MK mX3_allHeads 0 := ⟨gw_mem (by decide +kernel) rfl, gw_mem (by decide +kernel) rfl, by decide +kernel, by decide +kernel, by decide +kernel⟩
theorem mi_X3_allHeads : MKi mX3_allHeads := ⟨gw_mem (by decide +kernel) rfl, gw_mem (by decide +kernel) rfl⟩
theorem mk_X3_addHeads : MK mX3_addHeads 1 := ⟨gw_mem (by decide +kernel) rfl, gw_mem (by decide +kernel) rfl, by decide +kernel, by decide +kernel, by decide +kernel⟩
theorem mi_X3_addHeads : MKi mX3_addHeads := ⟨gw_mem (by decide +kernel) rfl, gw_mem (by decide +kernel) rfl⟩
theorem mk_X4_init : MK mX4_init 1 := ⟨gw_mem (by decide +kernel) rfl, gw_mem (by decide +kernel) rfl, by decide +kernel, by decide +kernel, by decide +kernel⟩
theorem mi_X4_init : Cond.instanceMethod yX4_init ∈ gw := gw_mem (by decide +kernel) rfl
theorem mk_X6_isBlank : MK mX6_isBlank 1 := ⟨gw_mem (by decide +kernel) rfl, gw_mem (by decide +kernel) rfl, by decide +kernel, by decide +kernel, by decide +kernel⟩
theorem ms_X6_isBlank : Cond.static yX6_isBlank ∈ gw := gw_mem (by decide +kernel) rfl
theorem mk_X6_isLetter : MK mX6_isLetter 1 := ⟨gw_mem (by decide +kernel) rfl, gw_mem (by decide +kernel) rfl, by decide +kernel, by decide +kernel, by decide +kernel⟩
theorem ms_X6_isLetter : Cond.static yX6_isLetter ∈ gw := gw_mem (by decide +kernel) rfl
theorem mk_X6_passLetters : MK mX6_passLetters 0 := ⟨gw_mem (by decide +kernel) rfl, gw_mem (by decide +kernel) rfl, by decide +kernel, by decide +kernel, by decide +kernel⟩
theorem mi_X6_passLetters : MKi mX6_passLetters := ⟨gw_mem (by decide +kernel) rfl, gw_mem (by decide +kernel) rfl⟩
theorem mk_X6_isFigure : MK mX6_isFigure 1 := ⟨gw_mem (by decide +kernel) rfl, gw_mem (by decide +kernel) rfl, by decide +kernel, by decide +kernel, by decide +kernel⟩
theorem ms_X6_isFigure : Cond.static yX6_isFigure ∈ gw := gw_mem (by decide +kernel) rfl
theorem mk_X6_passFigures : MK mX6_passFigures 0 := ⟨gw_mem (by decide +kernel) rfl, gw_mem (by decide +kernel) rfl, by decide +kernel, by decide +kernel, by decide +kernel⟩
theorem mi_X6_passFigures : MKi mX6_passFigures := ⟨gw_mem (by decide +kernel) rfl, gw_mem (by decide +kernel) rfl⟩
theorem mk_X6_step : MK mX6_step 0 := ⟨gw_mem (by decide +kernel) rfl, gw_mem (by decide +kernel) rfl, by decide +kernel, by decide +kernel, by decide +kernel⟩
theorem mi_X6_step : MKi mX6_step := ⟨gw_mem (by decide +kernel) rfl, gw_mem (by decide +kernel) rfl⟩
theorem mk_X6_rewind : MK mX6_rewind 0 := ⟨gw_mem (by decide +kernel) rfl, gw_mem (by decide +kernel) rfl, by decide +kernel, by decide +kernel, by decide +kernel⟩
theorem mi_X6_rewind : MKi mX6_rewind := ⟨gw_mem (by decide +kernel) rfl, gw_mem (by decide +kernel) rfl⟩
theorem mk_X6_isWord : MK mX6_isWord 1 := ⟨gw_mem (by decide +kernel) rfl, gw_mem (by decide +kernel) rfl, by decide +kernel, by decide +kernel, by decide +kernel⟩
theorem mi_X6_isWord : MKi mX6_isWord := ⟨gw_mem (by decide +kernel) rfl, gw_mem (by decide +kernel) rfl⟩
theorem mk_X4_failed : MK mX4_failed 1 := ⟨gw_mem (by decide +kernel) rfl, gw_mem (by decide +kernel) rfl, by decide +kernel, by decide +kernel, by decide +kernel⟩
theorem mi_X4_failed : MKi mX4_failed := ⟨gw_mem (by decide +kernel) rfl, gw_mem (by decide +kernel) rfl⟩
theorem mk_X4_readWord : MK mX4_readWord 2 := ⟨gw_mem (by decide +kernel) rfl, gw_mem (by decide +kernel) rfl, by decide +kernel, by decide +kernel, by decide +kernel⟩
theorem mi_X4_readWord : MKi mX4_readWord := ⟨gw_mem (by decide +kernel) rfl, gw_mem (by decide +kernel) rfl⟩
theorem mk_X4_readNumber : MK mX4_readNumber 3 := ⟨gw_mem (by decide +kernel) rfl, gw_mem (by decide +kernel) rfl, by decide +kernel, by decide +kernel, by decide +kernel⟩
theorem mi_X4_readNumber : MKi mX4_readNumber := ⟨gw_mem (by decide +kernel) rfl, gw_mem (by decide +kernel) rfl⟩
theorem mk_X4_readEnd : MK mX4_readEnd 0 := ⟨gw_mem (by decide +kernel) rfl, gw_mem (by decide +kernel) rfl, by decide +kernel, by decide +kernel, by decide +kernel⟩
theorem mi_X4_readEnd : MKi mX4_readEnd := ⟨gw_mem (by decide +kernel) rfl, gw_mem (by decide +kernel) rfl⟩
theorem mk_X4_readRoom : MK mX4_readRoom 0 := ⟨gw_mem (by decide +kernel) rfl, gw_mem (by decide +kernel) rfl, by decide +kernel, by decide +kernel, by decide +kernel⟩
theorem mi_X4_readRoom : MKi mX4_readRoom := ⟨gw_mem (by decide +kernel) rfl, gw_mem (by decide +kernel) rfl⟩
theorem mk_X4_readDoor : MK mX4_readDoor 0 := ⟨gw_mem (by decide +kernel) rfl, gw_mem (by decide +kernel) rfl, by decide +kernel, by decide +kernel, by decide +kernel⟩
theorem mi_X4_readDoor : MKi mX4_readDoor := ⟨gw_mem (by decide +kernel) rfl, gw_mem (by decide +kernel) rfl⟩
theorem mk_X4_sortNamed : MK mX4_sortNamed 0 := ⟨gw_mem (by decide +kernel) rfl, gw_mem (by decide +kernel) rfl, by decide +kernel, by decide +kernel, by decide +kernel⟩
theorem mi_X4_sortNamed : MKi mX4_sortNamed := ⟨gw_mem (by decide +kernel) rfl, gw_mem (by decide +kernel) rfl⟩
theorem mk_X4_readCrowd : MK mX4_readCrowd 0 := ⟨gw_mem (by decide +kernel) rfl, gw_mem (by decide +kernel) rfl, by decide +kernel, by decide +kernel, by decide +kernel⟩
theorem mi_X4_readCrowd : MKi mX4_readCrowd := ⟨gw_mem (by decide +kernel) rfl, gw_mem (by decide +kernel) rfl⟩
theorem mk_X4_readPart : MK mX4_readPart 0 := ⟨gw_mem (by decide +kernel) rfl, gw_mem (by decide +kernel) rfl, by decide +kernel, by decide +kernel, by decide +kernel⟩
theorem mi_X4_readPart : MKi mX4_readPart := ⟨gw_mem (by decide +kernel) rfl, gw_mem (by decide +kernel) rfl⟩
theorem mk_X4_readTape : MK mX4_readTape 0 := ⟨gw_mem (by decide +kernel) rfl, gw_mem (by decide +kernel) rfl, by decide +kernel, by decide +kernel, by decide +kernel⟩
theorem mi_X4_readTape : MKi mX4_readTape := ⟨gw_mem (by decide +kernel) rfl, gw_mem (by decide +kernel) rfl⟩
theorem mk_X5_init : MK mX5_init 0 := ⟨gw_mem (by decide +kernel) rfl, gw_mem (by decide +kernel) rfl, by decide +kernel, by decide +kernel, by decide +kernel⟩
theorem mi_X5_init : Cond.instanceMethod yX5_init ∈ gw := gw_mem (by decide +kernel) rfl
theorem mk_X5_make : MK mX5_make 2 := ⟨gw_mem (by decide +kernel) rfl, gw_mem (by decide +kernel) rfl, by decide +kernel, by decide +kernel, by decide +kernel⟩
theorem mi_X5_make : MKi mX5_make := ⟨gw_mem (by decide +kernel) rfl, gw_mem (by decide +kernel) rfl⟩
theorem mk_X5_holds : MK mX5_holds 2 := ⟨gw_mem (by decide +kernel) rfl, gw_mem (by decide +kernel) rfl, by decide +kernel, by decide +kernel, by decide +kernel⟩
theorem mi_X5_holds : MKi mX5_holds := ⟨gw_mem (by decide +kernel) rfl, gw_mem (by decide +kernel) rfl⟩
theorem mk_X5_put : MK mX5_put 2 := ⟨gw_mem (by decide +kernel) rfl, gw_mem (by decide +kernel) rfl, by decide +kernel, by decide +kernel, by decide +kernel⟩
theorem mi_X5_put : MKi mX5_put := ⟨gw_mem (by decide +kernel) rfl, gw_mem (by decide +kernel) rfl⟩
theorem mk_X5_holdsSets : MK mX5_holdsSets 3 := ⟨gw_mem (by decide +kernel) rfl, gw_mem (by decide +kernel) rfl, by decide +kernel, by decide +kernel, by decide +kernel⟩
theorem mi_X5_holdsSets : MKi mX5_holdsSets := ⟨gw_mem (by decide +kernel) rfl, gw_mem (by decide +kernel) rfl⟩
theorem mk_X5_countBit : MK mX5_countBit 3 := ⟨gw_mem (by decide +kernel) rfl, gw_mem (by decide +kernel) rfl, by decide +kernel, by decide +kernel, by decide +kernel⟩
theorem mi_X5_countBit : MKi mX5_countBit := ⟨gw_mem (by decide +kernel) rfl, gw_mem (by decide +kernel) rfl⟩
theorem mk_X6_init : MK mX6_init 0 := ⟨gw_mem (by decide +kernel) rfl, gw_mem (by decide +kernel) rfl, by decide +kernel, by decide +kernel, by decide +kernel⟩
theorem mi_X6_init : Cond.instanceMethod yX6_init ∈ gw := gw_mem (by decide +kernel) rfl
theorem mk_X6_append : MK mX6_append 2 := ⟨gw_mem (by decide +kernel) rfl, gw_mem (by decide +kernel) rfl, by decide +kernel, by decide +kernel, by decide +kernel⟩
theorem mi_X6_append : MKi mX6_append := ⟨gw_mem (by decide +kernel) rfl, gw_mem (by decide +kernel) rfl⟩
theorem mk_X7_init : MK mX7_init 0 := ⟨gw_mem (by decide +kernel) rfl, gw_mem (by decide +kernel) rfl, by decide +kernel, by decide +kernel, by decide +kernel⟩
theorem mi_X7_init : Cond.instanceMethod yX7_init ∈ gw := gw_mem (by decide +kernel) rfl
theorem mk_X7_isRow : MK mX7_isRow 1 := ⟨gw_mem (by decide +kernel) rfl, gw_mem (by decide +kernel) rfl, by decide +kernel, by decide +kernel, by decide +kernel⟩
theorem ms_X7_isRow : Cond.static yX7_isRow ∈ gw := gw_mem (by decide +kernel) rfl
theorem mk_X7_found : MK mX7_found 1 := ⟨gw_mem (by decide +kernel) rfl, gw_mem (by decide +kernel) rfl, by decide +kernel, by decide +kernel, by decide +kernel⟩
theorem mi_X7_found : MKi mX7_found := ⟨gw_mem (by decide +kernel) rfl, gw_mem (by decide +kernel) rfl⟩
theorem mk_X7_row : MK mX7_row 3 := ⟨gw_mem (by decide +kernel) rfl, gw_mem (by decide +kernel) rfl, by decide +kernel, by decide +kernel, by decide +kernel⟩
theorem mi_X7_row : MKi mX7_row := ⟨gw_mem (by decide +kernel) rfl, gw_mem (by decide +kernel) rfl⟩
theorem mk_X7_set : MK mX7_set 3 := ⟨gw_mem (by decide +kernel) rfl, gw_mem (by decide +kernel) rfl, by decide +kernel, by decide +kernel, by decide +kernel⟩
theorem mi_X7_set : MKi mX7_set := ⟨gw_mem (by decide +kernel) rfl, gw_mem (by decide +kernel) rfl⟩
theorem mk_X7_copy : MK mX7_copy 5 := ⟨gw_mem (by decide +kernel) rfl, gw_mem (by decide +kernel) rfl, by decide +kernel, by decide +kernel, by decide +kernel⟩
theorem mi_X7_copy : MKi mX7_copy := ⟨gw_mem (by decide +kernel) rfl, gw_mem (by decide +kernel) rfl⟩
theorem mk_X7_drop : MK mX7_drop 1 := ⟨gw_mem (by decide +kernel) rfl, gw_mem (by decide +kernel) rfl, by decide +kernel, by decide +kernel, by decide +kernel⟩
theorem mi_X7_drop : MKi mX7_drop := ⟨gw_mem (by decide +kernel) rfl, gw_mem (by decide +kernel) rfl⟩
theorem mk_X7_feed : MK mX7_feed 2 := ⟨gw_mem (by decide +kernel) rfl, gw_mem (by decide +kernel) rfl, by decide +kernel, by decide +kernel, by decide +kernel⟩
theorem mi_X7_feed : MKi mX7_feed := ⟨gw_mem (by decide +kernel) rfl, gw_mem (by decide +kernel) rfl⟩
theorem mk_X7_house : MK mX7_house 0 := ⟨gw_mem (by decide +kernel) rfl, gw_mem (by decide +kernel) rfl, by decide +kernel, by decide +kernel, by decide +kernel⟩
theorem mi_X7_house : MKi mX7_house := ⟨gw_mem (by decide +kernel) rfl, gw_mem (by decide +kernel) rfl⟩
theorem mk_X7_fault : MK mX7_fault 0 := ⟨gw_mem (by decide +kernel) rfl, gw_mem (by decide +kernel) rfl, by decide +kernel, by decide +kernel, by decide +kernel⟩
theorem mi_X7_fault : MKi mX7_fault := ⟨gw_mem (by decide +kernel) rfl, gw_mem (by decide +kernel) rfl⟩
theorem mk_X7_bell : MK mX7_bell 0 := ⟨gw_mem (by decide +kernel) rfl, gw_mem (by decide +kernel) rfl, by decide +kernel, by decide +kernel, by decide +kernel⟩
theorem mi_X7_bell : MKi mX7_bell := ⟨gw_mem (by decide +kernel) rfl, gw_mem (by decide +kernel) rfl⟩
theorem mk_X7_tooManyHeads : MK mX7_tooManyHeads 3 := ⟨gw_mem (by decide +kernel) rfl, gw_mem (by decide +kernel) rfl, by decide +kernel, by decide +kernel, by decide +kernel⟩
theorem mi_X7_tooManyHeads : MKi mX7_tooManyHeads := ⟨gw_mem (by decide +kernel) rfl, gw_mem (by decide +kernel) rfl⟩
theorem mk_X7_bells : MK mX7_bells 3 := ⟨gw_mem (by decide +kernel) rfl, gw_mem (by decide +kernel) rfl, by decide +kernel, by decide +kernel, by decide +kernel⟩
theorem mi_X7_bells : MKi mX7_bells := ⟨gw_mem (by decide +kernel) rfl, gw_mem (by decide +kernel) rfl⟩
theorem mk_X7_door : MK mX7_door 3 := ⟨gw_mem (by decide +kernel) rfl, gw_mem (by decide +kernel) rfl, by decide +kernel, by decide +kernel, by decide +kernel⟩
theorem mi_X7_door : MKi mX7_door := ⟨gw_mem (by decide +kernel) rfl, gw_mem (by decide +kernel) rfl⟩
theorem mk_X7_heads : MK mX7_heads 2 := ⟨gw_mem (by decide +kernel) rfl, gw_mem (by decide +kernel) rfl, by decide +kernel, by decide +kernel, by decide +kernel⟩
theorem mi_X7_heads : MKi mX7_heads := ⟨gw_mem (by decide +kernel) rfl, gw_mem (by decide +kernel) rfl⟩
theorem mk_X7_undo : MK mX7_undo 0 := ⟨gw_mem (by decide +kernel) rfl, gw_mem (by decide +kernel) rfl, by decide +kernel, by decide +kernel, by decide +kernel⟩
theorem mi_X7_undo : MKi mX7_undo := ⟨gw_mem (by decide +kernel) rfl, gw_mem (by decide +kernel) rfl⟩
theorem mk_X7_crowd : MK mX7_crowd 2 := ⟨gw_mem (by decide +kernel) rfl, gw_mem (by decide +kernel) rfl, by decide +kernel, by decide +kernel, by decide +kernel⟩
theorem mi_X7_crowd : MKi mX7_crowd := ⟨gw_mem (by decide +kernel) rfl, gw_mem (by decide +kernel) rfl⟩
theorem mk_X7_room : MK mX7_room 2 := ⟨gw_mem (by decide +kernel) rfl, gw_mem (by decide +kernel) rfl, by decide +kernel, by decide +kernel, by decide +kernel⟩
theorem mi_X7_room : MKi mX7_room := ⟨gw_mem (by decide +kernel) rfl, gw_mem (by decide +kernel) rfl⟩
theorem mk_X7_ahead : MK mX7_ahead 2 := ⟨gw_mem (by decide +kernel) rfl, gw_mem (by decide +kernel) rfl, by decide +kernel, by decide +kernel, by decide +kernel⟩
theorem mi_X7_ahead : MKi mX7_ahead := ⟨gw_mem (by decide +kernel) rfl, gw_mem (by decide +kernel) rfl⟩
theorem mk_X7_roomAhead : MK mX7_roomAhead 3 := ⟨gw_mem (by decide +kernel) rfl, gw_mem (by decide +kernel) rfl, by decide +kernel, by decide +kernel, by decide +kernel⟩
theorem mi_X7_roomAhead : MKi mX7_roomAhead := ⟨gw_mem (by decide +kernel) rfl, gw_mem (by decide +kernel) rfl⟩
theorem mk_X7_rest : MK mX7_rest 1 := ⟨gw_mem (by decide +kernel) rfl, gw_mem (by decide +kernel) rfl, by decide +kernel, by decide +kernel, by decide +kernel⟩
theorem mi_X7_rest : MKi mX7_rest := ⟨gw_mem (by decide +kernel) rfl, gw_mem (by decide +kernel) rfl⟩
theorem mk_X7_fewest : MK mX7_fewest 4 := ⟨gw_mem (by decide +kernel) rfl, gw_mem (by decide +kernel) rfl, by decide +kernel, by decide +kernel, by decide +kernel⟩
theorem mi_X7_fewest : MKi mX7_fewest := ⟨gw_mem (by decide +kernel) rfl, gw_mem (by decide +kernel) rfl⟩
theorem mk_X7_hired : MK mX7_hired 3 := ⟨gw_mem (by decide +kernel) rfl, gw_mem (by decide +kernel) rfl, by decide +kernel, by decide +kernel, by decide +kernel⟩
theorem mi_X7_hired : MKi mX7_hired := ⟨gw_mem (by decide +kernel) rfl, gw_mem (by decide +kernel) rfl⟩
theorem mk_X7_empty : MK mX7_empty 3 := ⟨gw_mem (by decide +kernel) rfl, gw_mem (by decide +kernel) rfl, by decide +kernel, by decide +kernel, by decide +kernel⟩
theorem mi_X7_empty : MKi mX7_empty := ⟨gw_mem (by decide +kernel) rfl, gw_mem (by decide +kernel) rfl⟩
theorem mk_X7_apart : MK mX7_apart 3 := ⟨gw_mem (by decide +kernel) rfl, gw_mem (by decide +kernel) rfl, by decide +kernel, by decide +kernel, by decide +kernel⟩
theorem mi_X7_apart : MKi mX7_apart := ⟨gw_mem (by decide +kernel) rfl, gw_mem (by decide +kernel) rfl⟩
theorem mk_X7_began : MK mX7_began 2 := ⟨gw_mem (by decide +kernel) rfl, gw_mem (by decide +kernel) rfl, by decide +kernel, by decide +kernel, by decide +kernel⟩
theorem mi_X7_began : MKi mX7_began := ⟨gw_mem (by decide +kernel) rfl, gw_mem (by decide +kernel) rfl⟩
theorem mk_X7_image : MK mX7_image 1 := ⟨gw_mem (by decide +kernel) rfl, gw_mem (by decide +kernel) rfl, by decide +kernel, by decide +kernel, by decide +kernel⟩
theorem mi_X7_image : MKi mX7_image := ⟨gw_mem (by decide +kernel) rfl, gw_mem (by decide +kernel) rfl⟩
theorem mk_X7_restore : MK mX7_restore 1 := ⟨gw_mem (by decide +kernel) rfl, gw_mem (by decide +kernel) rfl, by decide +kernel, by decide +kernel, by decide +kernel⟩
theorem mi_X7_restore : MKi mX7_restore := ⟨gw_mem (by decide +kernel) rfl, gw_mem (by decide +kernel) rfl⟩
theorem mk_X7_kind : MK mX7_kind 1 := ⟨gw_mem (by decide +kernel) rfl, gw_mem (by decide +kernel) rfl, by decide +kernel, by decide +kernel, by decide +kernel⟩
theorem mi_X7_kind : MKi mX7_kind := ⟨gw_mem (by decide +kernel) rfl, gw_mem (by decide +kernel) rfl⟩
theorem mk_X7_isA : MK mX7_isA 2 := ⟨gw_mem (by decide +kernel) rfl, gw_mem (by decide +kernel) rfl, by decide +kernel, by decide +kernel, by decide +kernel⟩
theorem ms_X7_isA : Cond.static yX7_isA ∈ gw := gw_mem (by decide +kernel) rfl
theorem mk_X7_as : MK mX7_as 2 := ⟨gw_mem (by decide +kernel) rfl, gw_mem (by decide +kernel) rfl, by decide +kernel, by decide +kernel, by decide +kernel⟩
theorem mi_X7_as : MKi mX7_as := ⟨gw_mem (by decide +kernel) rfl, gw_mem (by decide +kernel) rfl⟩
theorem mk_X7_ask : MK mX7_ask 2 := ⟨gw_mem (by decide +kernel) rfl, gw_mem (by decide +kernel) rfl, by decide +kernel, by decide +kernel, by decide +kernel⟩
theorem mi_X7_ask : MKi mX7_ask := ⟨gw_mem (by decide +kernel) rfl, gw_mem (by decide +kernel) rfl⟩
theorem mk_X7_trace : MK mX7_trace 1 := ⟨gw_mem (by decide +kernel) rfl, gw_mem (by decide +kernel) rfl, by decide +kernel, by decide +kernel, by decide +kernel⟩
theorem mi_X7_trace : MKi mX7_trace := ⟨gw_mem (by decide +kernel) rfl, gw_mem (by decide +kernel) rfl⟩
theorem mk_X7_countRows : MK mX7_countRows 0 := ⟨gw_mem (by decide +kernel) rfl, gw_mem (by decide +kernel) rfl, by decide +kernel, by decide +kernel, by decide +kernel⟩
theorem mi_X7_countRows : MKi mX7_countRows := ⟨gw_mem (by decide +kernel) rfl, gw_mem (by decide +kernel) rfl⟩
theorem mk_X7_count : MK mX7_count 1 := ⟨gw_mem (by decide +kernel) rfl, gw_mem (by decide +kernel) rfl, by decide +kernel, by decide +kernel, by decide +kernel⟩
theorem mi_X7_count : MKi mX7_count := ⟨gw_mem (by decide +kernel) rfl, gw_mem (by decide +kernel) rfl⟩
theorem mk_X7_status : MK mX7_status 0 := ⟨gw_mem (by decide +kernel) rfl, gw_mem (by decide +kernel) rfl, by decide +kernel, by decide +kernel, by decide +kernel⟩
theorem mi_X7_status : MKi mX7_status := ⟨gw_mem (by decide +kernel) rfl, gw_mem (by decide +kernel) rfl⟩
theorem mk_X8_init : MK mX8_init 0 := ⟨gw_mem (by decide +kernel) rfl, gw_mem (by decide +kernel) rfl, by decide +kernel, by decide +kernel, by decide +kernel⟩
theorem mi_X8_init : Cond.instanceMethod yX8_init ∈ gw := gw_mem (by decide +kernel) rfl
theorem mk_X8_in : MK mX8_in 3 := ⟨gw_mem (by decide +kernel) rfl, gw_mem (by decide +kernel) rfl, by decide +kernel, by decide +kernel, by decide +kernel⟩
theorem ms_X8_in : Cond.static yX8_in ∈ gw := gw_mem (by decide +kernel) rfl
theorem mk_X8_finding : MK mX8_finding 1 := ⟨gw_mem (by decide +kernel) rfl, gw_mem (by decide +kernel) rfl, by decide +kernel, by decide +kernel, by decide +kernel⟩
theorem mi_X8_finding : MKi mX8_finding := ⟨gw_mem (by decide +kernel) rfl, gw_mem (by decide +kernel) rfl⟩
theorem mk_X8_isRow : MK mX8_isRow 1 := ⟨gw_mem (by decide +kernel) rfl, gw_mem (by decide +kernel) rfl, by decide +kernel, by decide +kernel, by decide +kernel⟩
theorem ms_X8_isRow : Cond.static yX8_isRow ∈ gw := gw_mem (by decide +kernel) rfl
theorem mk_X8_row : MK mX8_row 3 := ⟨gw_mem (by decide +kernel) rfl, gw_mem (by decide +kernel) rfl, by decide +kernel, by decide +kernel, by decide +kernel⟩
theorem mi_X8_row : MKi mX8_row := ⟨gw_mem (by decide +kernel) rfl, gw_mem (by decide +kernel) rfl⟩
theorem mk_X8_set : MK mX8_set 3 := ⟨gw_mem (by decide +kernel) rfl, gw_mem (by decide +kernel) rfl, by decide +kernel, by decide +kernel, by decide +kernel⟩
theorem mi_X8_set : MKi mX8_set := ⟨gw_mem (by decide +kernel) rfl, gw_mem (by decide +kernel) rfl⟩
theorem mk_X8_copy : MK mX8_copy 5 := ⟨gw_mem (by decide +kernel) rfl, gw_mem (by decide +kernel) rfl, by decide +kernel, by decide +kernel, by decide +kernel⟩
theorem mi_X8_copy : MKi mX8_copy := ⟨gw_mem (by decide +kernel) rfl, gw_mem (by decide +kernel) rfl⟩
theorem mk_X8_drop : MK mX8_drop 1 := ⟨gw_mem (by decide +kernel) rfl, gw_mem (by decide +kernel) rfl, by decide +kernel, by decide +kernel, by decide +kernel⟩
theorem mi_X8_drop : MKi mX8_drop := ⟨gw_mem (by decide +kernel) rfl, gw_mem (by decide +kernel) rfl⟩
theorem mk_X8_feed : MK mX8_feed 2 := ⟨gw_mem (by decide +kernel) rfl, gw_mem (by decide +kernel) rfl, by decide +kernel, by decide +kernel, by decide +kernel⟩
theorem mi_X8_feed : MKi mX8_feed := ⟨gw_mem (by decide +kernel) rfl, gw_mem (by decide +kernel) rfl⟩
theorem mk_X8_byteAt : MK mX8_byteAt 1 := ⟨gw_mem (by decide +kernel) rfl, gw_mem (by decide +kernel) rfl, by decide +kernel, by decide +kernel, by decide +kernel⟩
theorem mi_X8_byteAt : MKi mX8_byteAt := ⟨gw_mem (by decide +kernel) rfl, gw_mem (by decide +kernel) rfl⟩
theorem mk_X8_isLetter : MK mX8_isLetter 1 := ⟨gw_mem (by decide +kernel) rfl, gw_mem (by decide +kernel) rfl, by decide +kernel, by decide +kernel, by decide +kernel⟩
theorem ms_X8_isLetter : Cond.static yX8_isLetter ∈ gw := gw_mem (by decide +kernel) rfl
theorem mk_X8_isFigure : MK mX8_isFigure 1 := ⟨gw_mem (by decide +kernel) rfl, gw_mem (by decide +kernel) rfl, by decide +kernel, by decide +kernel, by decide +kernel⟩
theorem ms_X8_isFigure : Cond.static yX8_isFigure ∈ gw := gw_mem (by decide +kernel) rfl
theorem mk_X8_next : MK mX8_next 0 := ⟨gw_mem (by decide +kernel) rfl, gw_mem (by decide +kernel) rfl, by decide +kernel, by decide +kernel, by decide +kernel⟩
theorem mi_X8_next : MKi mX8_next := ⟨gw_mem (by decide +kernel) rfl, gw_mem (by decide +kernel) rfl⟩
theorem mk_X8_begin : MK mX8_begin 0 := ⟨gw_mem (by decide +kernel) rfl, gw_mem (by decide +kernel) rfl, by decide +kernel, by decide +kernel, by decide +kernel⟩
theorem mi_X8_begin : MKi mX8_begin := ⟨gw_mem (by decide +kernel) rfl, gw_mem (by decide +kernel) rfl⟩
theorem mk_X8_bad : MK mX8_bad 1 := ⟨gw_mem (by decide +kernel) rfl, gw_mem (by decide +kernel) rfl, by decide +kernel, by decide +kernel, by decide +kernel⟩
theorem mi_X8_bad : MKi mX8_bad := ⟨gw_mem (by decide +kernel) rfl, gw_mem (by decide +kernel) rfl⟩
theorem mk_X8_must : MK mX8_must 1 := ⟨gw_mem (by decide +kernel) rfl, gw_mem (by decide +kernel) rfl, by decide +kernel, by decide +kernel, by decide +kernel⟩
theorem mi_X8_must : MKi mX8_must := ⟨gw_mem (by decide +kernel) rfl, gw_mem (by decide +kernel) rfl⟩
theorem mk_X8_name : MK mX8_name 0 := ⟨gw_mem (by decide +kernel) rfl, gw_mem (by decide +kernel) rfl, by decide +kernel, by decide +kernel, by decide +kernel⟩
theorem mi_X8_name : MKi mX8_name := ⟨gw_mem (by decide +kernel) rfl, gw_mem (by decide +kernel) rfl⟩
theorem mk_X8_figures : MK mX8_figures 0 := ⟨gw_mem (by decide +kernel) rfl, gw_mem (by decide +kernel) rfl, by decide +kernel, by decide +kernel, by decide +kernel⟩
theorem mi_X8_figures : MKi mX8_figures := ⟨gw_mem (by decide +kernel) rfl, gw_mem (by decide +kernel) rfl⟩
theorem mk_X8_number : MK mX8_number 2 := ⟨gw_mem (by decide +kernel) rfl, gw_mem (by decide +kernel) rfl, by decide +kernel, by decide +kernel, by decide +kernel⟩
theorem mi_X8_number : MKi mX8_number := ⟨gw_mem (by decide +kernel) rfl, gw_mem (by decide +kernel) rfl⟩
theorem mk_X8_kindBy : MK mX8_kindBy 1 := ⟨gw_mem (by decide +kernel) rfl, gw_mem (by decide +kernel) rfl, by decide +kernel, by decide +kernel, by decide +kernel⟩
theorem ms_X8_kindBy : Cond.static yX8_kindBy ∈ gw := gw_mem (by decide +kernel) rfl
theorem mk_X8_mustEnd : MK mX8_mustEnd 0 := ⟨gw_mem (by decide +kernel) rfl, gw_mem (by decide +kernel) rfl, by decide +kernel, by decide +kernel, by decide +kernel⟩
theorem mi_X8_mustEnd : MKi mX8_mustEnd := ⟨gw_mem (by decide +kernel) rfl, gw_mem (by decide +kernel) rfl⟩
theorem mk_X8_begins : MK mX8_begins 2 := ⟨gw_mem (by decide +kernel) rfl, gw_mem (by decide +kernel) rfl, by decide +kernel, by decide +kernel, by decide +kernel⟩
theorem mi_X8_begins : MKi mX8_begins := ⟨gw_mem (by decide +kernel) rfl, gw_mem (by decide +kernel) rfl⟩
theorem mk_X8_readRoom : MK mX8_readRoom 0 := ⟨gw_mem (by decide +kernel) rfl, gw_mem (by decide +kernel) rfl, by decide +kernel, by decide +kernel, by decide +kernel⟩
theorem mi_X8_readRoom : MKi mX8_readRoom := ⟨gw_mem (by decide +kernel) rfl, gw_mem (by decide +kernel) rfl⟩
theorem mk_X8_readDoor : MK mX8_readDoor 0 := ⟨gw_mem (by decide +kernel) rfl, gw_mem (by decide +kernel) rfl, by decide +kernel, by decide +kernel, by decide +kernel⟩
theorem mi_X8_readDoor : MKi mX8_readDoor := ⟨gw_mem (by decide +kernel) rfl, gw_mem (by decide +kernel) rfl⟩
theorem mk_X8_readCrowd : MK mX8_readCrowd 0 := ⟨gw_mem (by decide +kernel) rfl, gw_mem (by decide +kernel) rfl, by decide +kernel, by decide +kernel, by decide +kernel⟩
theorem mi_X8_readCrowd : MKi mX8_readCrowd := ⟨gw_mem (by decide +kernel) rfl, gw_mem (by decide +kernel) rfl⟩
theorem mk_X8_house : MK mX8_house 0 := ⟨gw_mem (by decide +kernel) rfl, gw_mem (by decide +kernel) rfl, by decide +kernel, by decide +kernel, by decide +kernel⟩
theorem mi_X8_house : MKi mX8_house := ⟨gw_mem (by decide +kernel) rfl, gw_mem (by decide +kernel) rfl⟩
theorem mk_X8_fault : MK mX8_fault 0 := ⟨gw_mem (by decide +kernel) rfl, gw_mem (by decide +kernel) rfl, by decide +kernel, by decide +kernel, by decide +kernel⟩
theorem mi_X8_fault : MKi mX8_fault := ⟨gw_mem (by decide +kernel) rfl, gw_mem (by decide +kernel) rfl⟩
theorem mk_X8_isThere : MK mX8_isThere 0 := ⟨gw_mem (by decide +kernel) rfl, gw_mem (by decide +kernel) rfl, by decide +kernel, by decide +kernel, by decide +kernel⟩
theorem mi_X8_isThere : MKi mX8_isThere := ⟨gw_mem (by decide +kernel) rfl, gw_mem (by decide +kernel) rfl⟩
theorem mk_X8_isRoom : MK mX8_isRoom 1 := ⟨gw_mem (by decide +kernel) rfl, gw_mem (by decide +kernel) rfl, by decide +kernel, by decide +kernel, by decide +kernel⟩
theorem mi_X8_isRoom : MKi mX8_isRoom := ⟨gw_mem (by decide +kernel) rfl, gw_mem (by decide +kernel) rfl⟩
theorem mk_X8_isCrowd : MK mX8_isCrowd 1 := ⟨gw_mem (by decide +kernel) rfl, gw_mem (by decide +kernel) rfl, by decide +kernel, by decide +kernel, by decide +kernel⟩
theorem mi_X8_isCrowd : MKi mX8_isCrowd := ⟨gw_mem (by decide +kernel) rfl, gw_mem (by decide +kernel) rfl⟩
theorem mk_X8_of : MK mX8_of 2 := ⟨gw_mem (by decide +kernel) rfl, gw_mem (by decide +kernel) rfl, by decide +kernel, by decide +kernel, by decide +kernel⟩
theorem mi_X8_of : MKi mX8_of := ⟨gw_mem (by decide +kernel) rfl, gw_mem (by decide +kernel) rfl⟩
theorem mk_X8_layNow : MK mX8_layNow 0 := ⟨gw_mem (by decide +kernel) rfl, gw_mem (by decide +kernel) rfl, by decide +kernel, by decide +kernel, by decide +kernel⟩
theorem mi_X8_layNow : MKi mX8_layNow := ⟨gw_mem (by decide +kernel) rfl, gw_mem (by decide +kernel) rfl⟩
theorem mk_X8_layCounts : MK mX8_layCounts 0 := ⟨gw_mem (by decide +kernel) rfl, gw_mem (by decide +kernel) rfl, by decide +kernel, by decide +kernel, by decide +kernel⟩
theorem mi_X8_layCounts : MKi mX8_layCounts := ⟨gw_mem (by decide +kernel) rfl, gw_mem (by decide +kernel) rfl⟩
theorem mk_X8_draws : MK mX8_draws 2 := ⟨gw_mem (by decide +kernel) rfl, gw_mem (by decide +kernel) rfl, by decide +kernel, by decide +kernel, by decide +kernel⟩
theorem mi_X8_draws : MKi mX8_draws := ⟨gw_mem (by decide +kernel) rfl, gw_mem (by decide +kernel) rfl⟩
theorem mk_X8_goesTo : MK mX8_goesTo 1 := ⟨gw_mem (by decide +kernel) rfl, gw_mem (by decide +kernel) rfl, by decide +kernel, by decide +kernel, by decide +kernel⟩
theorem mi_X8_goesTo : MKi mX8_goesTo := ⟨gw_mem (by decide +kernel) rfl, gw_mem (by decide +kernel) rfl⟩
theorem mk_X8_goBell : MK mX8_goBell 0 := ⟨gw_mem (by decide +kernel) rfl, gw_mem (by decide +kernel) rfl, by decide +kernel, by decide +kernel, by decide +kernel⟩
theorem mi_X8_goBell : MKi mX8_goBell := ⟨gw_mem (by decide +kernel) rfl, gw_mem (by decide +kernel) rfl⟩
theorem mk_X8_goBells : MK mX8_goBells 1 := ⟨gw_mem (by decide +kernel) rfl, gw_mem (by decide +kernel) rfl, by decide +kernel, by decide +kernel, by decide +kernel⟩
theorem mi_X8_goBells : MKi mX8_goBells := ⟨gw_mem (by decide +kernel) rfl, gw_mem (by decide +kernel) rfl⟩
theorem mk_X8_keep : MK mX8_keep 0 := ⟨gw_mem (by decide +kernel) rfl, gw_mem (by decide +kernel) rfl, by decide +kernel, by decide +kernel, by decide +kernel⟩
theorem mi_X8_keep : MKi mX8_keep := ⟨gw_mem (by decide +kernel) rfl, gw_mem (by decide +kernel) rfl⟩
theorem mk_X8_ring : MK mX8_ring 0 := ⟨gw_mem (by decide +kernel) rfl, gw_mem (by decide +kernel) rfl, by decide +kernel, by decide +kernel, by decide +kernel⟩
theorem mi_X8_ring : MKi mX8_ring := ⟨gw_mem (by decide +kernel) rfl, gw_mem (by decide +kernel) rfl⟩
theorem mk_X8_bell : MK mX8_bell 0 := ⟨gw_mem (by decide +kernel) rfl, gw_mem (by decide +kernel) rfl, by decide +kernel, by decide +kernel, by decide +kernel⟩
theorem mi_X8_bell : MKi mX8_bell := ⟨gw_mem (by decide +kernel) rfl, gw_mem (by decide +kernel) rfl⟩
theorem mk_X8_headsOfAll : MK mX8_headsOfAll 0 := ⟨gw_mem (by decide +kernel) rfl, gw_mem (by decide +kernel) rfl, by decide +kernel, by decide +kernel, by decide +kernel⟩
theorem mi_X8_headsOfAll : MKi mX8_headsOfAll := ⟨gw_mem (by decide +kernel) rfl, gw_mem (by decide +kernel) rfl⟩
theorem mk_X8_haveRoom : MK mX8_haveRoom 2 := ⟨gw_mem (by decide +kernel) rfl, gw_mem (by decide +kernel) rfl, by decide +kernel, by decide +kernel, by decide +kernel⟩
theorem mi_X8_haveRoom : MKi mX8_haveRoom := ⟨gw_mem (by decide +kernel) rfl, gw_mem (by decide +kernel) rfl⟩
theorem mk_X8_bells : MK mX8_bells 3 := ⟨gw_mem (by decide +kernel) rfl, gw_mem (by decide +kernel) rfl, by decide +kernel, by decide +kernel, by decide +kernel⟩
theorem mi_X8_bells : MKi mX8_bells := ⟨gw_mem (by decide +kernel) rfl, gw_mem (by decide +kernel) rfl⟩
theorem mk_X8_door : MK mX8_door 3 := ⟨gw_mem (by decide +kernel) rfl, gw_mem (by decide +kernel) rfl, by decide +kernel, by decide +kernel, by decide +kernel⟩
theorem mi_X8_door : MKi mX8_door := ⟨gw_mem (by decide +kernel) rfl, gw_mem (by decide +kernel) rfl⟩
theorem mk_X8_heads : MK mX8_heads 2 := ⟨gw_mem (by decide +kernel) rfl, gw_mem (by decide +kernel) rfl, by decide +kernel, by decide +kernel, by decide +kernel⟩
theorem mi_X8_heads : MKi mX8_heads := ⟨gw_mem (by decide +kernel) rfl, gw_mem (by decide +kernel) rfl⟩
theorem mk_X8_undo : MK mX8_undo 0 := ⟨gw_mem (by decide +kernel) rfl, gw_mem (by decide +kernel) rfl, by decide +kernel, by decide +kernel, by decide +kernel⟩
theorem mi_X8_undo : MKi mX8_undo := ⟨gw_mem (by decide +kernel) rfl, gw_mem (by decide +kernel) rfl⟩
theorem mk_X8_crowd : MK mX8_crowd 2 := ⟨gw_mem (by decide +kernel) rfl, gw_mem (by decide +kernel) rfl, by decide +kernel, by decide +kernel, by decide +kernel⟩
theorem mi_X8_crowd : MKi mX8_crowd := ⟨gw_mem (by decide +kernel) rfl, gw_mem (by decide +kernel) rfl⟩
theorem mk_X8_room : MK mX8_room 2 := ⟨gw_mem (by decide +kernel) rfl, gw_mem (by decide +kernel) rfl, by decide +kernel, by decide +kernel, by decide +kernel⟩
theorem mi_X8_room : MKi mX8_room := ⟨gw_mem (by decide +kernel) rfl, gw_mem (by decide +kernel) rfl⟩
theorem mk_X8_ahead : MK mX8_ahead 2 := ⟨gw_mem (by decide +kernel) rfl, gw_mem (by decide +kernel) rfl, by decide +kernel, by decide +kernel, by decide +kernel⟩
theorem mi_X8_ahead : MKi mX8_ahead := ⟨gw_mem (by decide +kernel) rfl, gw_mem (by decide +kernel) rfl⟩
theorem mk_X8_roomAhead : MK mX8_roomAhead 3 := ⟨gw_mem (by decide +kernel) rfl, gw_mem (by decide +kernel) rfl, by decide +kernel, by decide +kernel, by decide +kernel⟩
theorem mi_X8_roomAhead : MKi mX8_roomAhead := ⟨gw_mem (by decide +kernel) rfl, gw_mem (by decide +kernel) rfl⟩
theorem mk_X8_restIn : MK mX8_restIn 0 := ⟨gw_mem (by decide +kernel) rfl, gw_mem (by decide +kernel) rfl, by decide +kernel, by decide +kernel, by decide +kernel⟩
theorem mi_X8_restIn : MKi mX8_restIn := ⟨gw_mem (by decide +kernel) rfl, gw_mem (by decide +kernel) rfl⟩
theorem mk_X8_ringIn : MK mX8_ringIn 0 := ⟨gw_mem (by decide +kernel) rfl, gw_mem (by decide +kernel) rfl, by decide +kernel, by decide +kernel, by decide +kernel⟩
theorem mi_X8_ringIn : MKi mX8_ringIn := ⟨gw_mem (by decide +kernel) rfl, gw_mem (by decide +kernel) rfl⟩
theorem mk_X8_rest : MK mX8_rest 1 := ⟨gw_mem (by decide +kernel) rfl, gw_mem (by decide +kernel) rfl, by decide +kernel, by decide +kernel, by decide +kernel⟩
theorem mi_X8_rest : MKi mX8_rest := ⟨gw_mem (by decide +kernel) rfl, gw_mem (by decide +kernel) rfl⟩
theorem mk_X8_layHired : MK mX8_layHired 2 := ⟨gw_mem (by decide +kernel) rfl, gw_mem (by decide +kernel) rfl, by decide +kernel, by decide +kernel, by decide +kernel⟩
theorem mi_X8_layHired : MKi mX8_layHired := ⟨gw_mem (by decide +kernel) rfl, gw_mem (by decide +kernel) rfl⟩
theorem mk_X8_isSo : MK mX8_isSo 2 := ⟨gw_mem (by decide +kernel) rfl, gw_mem (by decide +kernel) rfl, by decide +kernel, by decide +kernel, by decide +kernel⟩
theorem mi_X8_isSo : MKi mX8_isSo := ⟨gw_mem (by decide +kernel) rfl, gw_mem (by decide +kernel) rfl⟩
theorem mk_X8_hire : MK mX8_hire 4 := ⟨gw_mem (by decide +kernel) rfl, gw_mem (by decide +kernel) rfl, by decide +kernel, by decide +kernel, by decide +kernel⟩
theorem mi_X8_hire : MKi mX8_hire := ⟨gw_mem (by decide +kernel) rfl, gw_mem (by decide +kernel) rfl⟩
theorem mk_X8_hired : MK mX8_hired 3 := ⟨gw_mem (by decide +kernel) rfl, gw_mem (by decide +kernel) rfl, by decide +kernel, by decide +kernel, by decide +kernel⟩
theorem mi_X8_hired : MKi mX8_hired := ⟨gw_mem (by decide +kernel) rfl, gw_mem (by decide +kernel) rfl⟩
theorem mk_X8_empty : MK mX8_empty 3 := ⟨gw_mem (by decide +kernel) rfl, gw_mem (by decide +kernel) rfl, by decide +kernel, by decide +kernel, by decide +kernel⟩
theorem mi_X8_empty : MKi mX8_empty := ⟨gw_mem (by decide +kernel) rfl, gw_mem (by decide +kernel) rfl⟩
theorem mk_X8_areApart : MK mX8_areApart 4 := ⟨gw_mem (by decide +kernel) rfl, gw_mem (by decide +kernel) rfl, by decide +kernel, by decide +kernel, by decide +kernel⟩
theorem mi_X8_areApart : MKi mX8_areApart := ⟨gw_mem (by decide +kernel) rfl, gw_mem (by decide +kernel) rfl⟩
theorem mk_X8_apart : MK mX8_apart 3 := ⟨gw_mem (by decide +kernel) rfl, gw_mem (by decide +kernel) rfl, by decide +kernel, by decide +kernel, by decide +kernel⟩
theorem mi_X8_apart : MKi mX8_apart := ⟨gw_mem (by decide +kernel) rfl, gw_mem (by decide +kernel) rfl⟩
theorem mk_X8_layBegan : MK mX8_layBegan 1 := ⟨gw_mem (by decide +kernel) rfl, gw_mem (by decide +kernel) rfl, by decide +kernel, by decide +kernel, by decide +kernel⟩
theorem mi_X8_layBegan : MKi mX8_layBegan := ⟨gw_mem (by decide +kernel) rfl, gw_mem (by decide +kernel) rfl⟩
theorem mk_X8_began : MK mX8_began 2 := ⟨gw_mem (by decide +kernel) rfl, gw_mem (by decide +kernel) rfl, by decide +kernel, by decide +kernel, by decide +kernel⟩
theorem mi_X8_began : MKi mX8_began := ⟨gw_mem (by decide +kernel) rfl, gw_mem (by decide +kernel) rfl⟩
theorem mk_X8_image : MK mX8_image 1 := ⟨gw_mem (by decide +kernel) rfl, gw_mem (by decide +kernel) rfl, by decide +kernel, by decide +kernel, by decide +kernel⟩
theorem mi_X8_image : MKi mX8_image := ⟨gw_mem (by decide +kernel) rfl, gw_mem (by decide +kernel) rfl⟩
theorem mk_X8_restore : MK mX8_restore 1 := ⟨gw_mem (by decide +kernel) rfl, gw_mem (by decide +kernel) rfl, by decide +kernel, by decide +kernel, by decide +kernel⟩
theorem mi_X8_restore : MKi mX8_restore := ⟨gw_mem (by decide +kernel) rfl, gw_mem (by decide +kernel) rfl⟩
theorem mk_X8_isOf : MK mX8_isOf 2 := ⟨gw_mem (by decide +kernel) rfl, gw_mem (by decide +kernel) rfl, by decide +kernel, by decide +kernel, by decide +kernel⟩
theorem ms_X8_isOf : Cond.static yX8_isOf ∈ gw := gw_mem (by decide +kernel) rfl
theorem mk_X8_kind : MK mX8_kind 1 := ⟨gw_mem (by decide +kernel) rfl, gw_mem (by decide +kernel) rfl, by decide +kernel, by decide +kernel, by decide +kernel⟩
theorem mi_X8_kind : MKi mX8_kind := ⟨gw_mem (by decide +kernel) rfl, gw_mem (by decide +kernel) rfl⟩
theorem mk_X8_as : MK mX8_as 2 := ⟨gw_mem (by decide +kernel) rfl, gw_mem (by decide +kernel) rfl, by decide +kernel, by decide +kernel, by decide +kernel⟩
theorem mi_X8_as : MKi mX8_as := ⟨gw_mem (by decide +kernel) rfl, gw_mem (by decide +kernel) rfl⟩
theorem mk_X8_stepped : MK mX8_stepped 1 := ⟨gw_mem (by decide +kernel) rfl, gw_mem (by decide +kernel) rfl, by decide +kernel, by decide +kernel, by decide +kernel⟩
theorem mi_X8_stepped : MKi mX8_stepped := ⟨gw_mem (by decide +kernel) rfl, gw_mem (by decide +kernel) rfl⟩
theorem mk_X8_plainSize : MK mX8_plainSize 1 := ⟨gw_mem (by decide +kernel) rfl, gw_mem (by decide +kernel) rfl, by decide +kernel, by decide +kernel, by decide +kernel⟩
theorem mi_X8_plainSize : MKi mX8_plainSize := ⟨gw_mem (by decide +kernel) rfl, gw_mem (by decide +kernel) rfl⟩
theorem mk_X8_staySize : MK mX8_staySize 1 := ⟨gw_mem (by decide +kernel) rfl, gw_mem (by decide +kernel) rfl, by decide +kernel, by decide +kernel, by decide +kernel⟩
theorem mi_X8_staySize : MKi mX8_staySize := ⟨gw_mem (by decide +kernel) rfl, gw_mem (by decide +kernel) rfl⟩
theorem mk_X8_markOf : MK mX8_markOf 1 := ⟨gw_mem (by decide +kernel) rfl, gw_mem (by decide +kernel) rfl, by decide +kernel, by decide +kernel, by decide +kernel⟩
theorem mi_X8_markOf : MKi mX8_markOf := ⟨gw_mem (by decide +kernel) rfl, gw_mem (by decide +kernel) rfl⟩
theorem mk_X8_sizeOf : MK mX8_sizeOf 1 := ⟨gw_mem (by decide +kernel) rfl, gw_mem (by decide +kernel) rfl, by decide +kernel, by decide +kernel, by decide +kernel⟩
theorem mi_X8_sizeOf : MKi mX8_sizeOf := ⟨gw_mem (by decide +kernel) rfl, gw_mem (by decide +kernel) rfl⟩
theorem mk_X8_ask : MK mX8_ask 2 := ⟨gw_mem (by decide +kernel) rfl, gw_mem (by decide +kernel) rfl, by decide +kernel, by decide +kernel, by decide +kernel⟩
theorem mi_X8_ask : MKi mX8_ask := ⟨gw_mem (by decide +kernel) rfl, gw_mem (by decide +kernel) rfl⟩
theorem mk_X8_trace : MK mX8_trace 1 := ⟨gw_mem (by decide +kernel) rfl, gw_mem (by decide +kernel) rfl, by decide +kernel, by decide +kernel, by decide +kernel⟩
theorem mi_X8_trace : MKi mX8_trace := ⟨gw_mem (by decide +kernel) rfl, gw_mem (by decide +kernel) rfl⟩
theorem mk_X8_count : MK mX8_count 1 := ⟨gw_mem (by decide +kernel) rfl, gw_mem (by decide +kernel) rfl, by decide +kernel, by decide +kernel, by decide +kernel⟩
theorem mi_X8_count : MKi mX8_count := ⟨gw_mem (by decide +kernel) rfl, gw_mem (by decide +kernel) rfl⟩
theorem mk_X8_status : MK mX8_status 0 := ⟨gw_mem (by decide +kernel) rfl, gw_mem (by decide +kernel) rfl, by decide +kernel, by decide +kernel, by decide +kernel⟩
theorem mi_X8_status : MKi mX8_status := ⟨gw_mem (by decide +kernel) rfl, gw_mem (by decide +kernel) rfl⟩
end
section
/-! links of methods, constants -/
def R_law : String := "MostRoomsLaw"
theorem ml_L_9 : Cond.methodLink R_law 9 yX7_init ∈ gw := gw_mem (by decide +kernel) rfl
theorem ml_X7_1 : Cond.methodLink RX7 1 objectInit ∈ gw := gw_mem (by decide +kernel) rfl
theorem ml_X6_3 : Cond.methodLink RX6 3 objectInit ∈ gw := gw_mem (by decide +kernel) rfl
theorem ml_X7_24 : Cond.methodLink RX7 24 yX4_init ∈ gw := gw_mem (by decide +kernel) rfl
theorem ml_X4_3 : Cond.methodLink RX4 3 objectInit ∈ gw := gw_mem (by decide +kernel) rfl
theorem ml_X3_3 : Cond.methodLink RX3 3 objectInit ∈ gw := gw_mem (by decide +kernel) rfl
theorem ml_X0_5 : Cond.methodLink RX0 5 objectInit ∈ gw := gw_mem (by decide +kernel) rfl
theorem ml_X7_51 : Cond.methodLink RX7 51 yX2_init ∈ gw := gw_mem (by decide +kernel) rfl
theorem ml_X2_3 : Cond.methodLink RX2 3 objectInit ∈ gw := gw_mem (by decide +kernel) rfl
theorem ml_X7_60 : Cond.methodLink RX7 60 yX1_init ∈ gw := gw_mem (by decide +kernel) rfl
theorem ml_X1_1 : Cond.methodLink RX1 1 objectInit ∈ gw := gw_mem (by decide +kernel) rfl
theorem ml_X5_3 : Cond.methodLink RX5 3 objectInit ∈ gw := gw_mem (by decide +kernel) rfl
theorem ml_L_13 : Cond.methodLink R_law 13 yX7_row ∈ gw := gw_mem (by decide +kernel) rfl
theorem ml_X7_66 : Cond.methodLink RX7 66 yX7_isRow ∈ gw := gw_mem (by decide +kernel) rfl
theorem ml_X7_71 : Cond.methodLink RX7 71 yX7_found ∈ gw := gw_mem (by decide +kernel) rfl
theorem ml_X7_75 : Cond.methodLink RX7 75 yX5_make ∈ gw := gw_mem (by decide +kernel) rfl
theorem ml_L_18 : Cond.methodLink R_law 18 yX7_set ∈ gw := gw_mem (by decide +kernel) rfl
theorem ml_X7_87 : Cond.methodLink RX7 87 yX5_holds ∈ gw := gw_mem (by decide +kernel) rfl
theorem ml_X7_91 : Cond.methodLink RX7 91 yX5_put ∈ gw := gw_mem (by decide +kernel) rfl
theorem ml_L_22 : Cond.methodLink R_law 22 yX7_copy ∈ gw := gw_mem (by decide +kernel) rfl
theorem ml_X7_102 : Cond.methodLink RX7 102 arraycopyName ∈ gw := gw_mem (by decide +kernel) rfl
theorem ml_L_27 : Cond.methodLink R_law 27 yX7_drop ∈ gw := gw_mem (by decide +kernel) rfl
theorem ml_L_34 : Cond.methodLink R_law 34 yX7_feed ∈ gw := gw_mem (by decide +kernel) rfl
theorem ml_X7_113 : Cond.methodLink RX7 113 yX6_append ∈ gw := gw_mem (by decide +kernel) rfl
theorem ml_L_39 : Cond.methodLink R_law 39 yX7_house ∈ gw := gw_mem (by decide +kernel) rfl
theorem ml_X7_117 : Cond.methodLink RX7 117 yX4_readTape ∈ gw := gw_mem (by decide +kernel) rfl
theorem ml_X4_22 : Cond.methodLink RX4 22 yX3_clear ∈ gw := gw_mem (by decide +kernel) rfl
theorem ml_X4_32 : Cond.methodLink RX4 32 yX6_rewind ∈ gw := gw_mem (by decide +kernel) rfl
theorem ml_X6_22 : Cond.methodLink RX6 22 yX6_step ∈ gw := gw_mem (by decide +kernel) rfl
theorem ml_X6_25 : Cond.methodLink RX6 25 yX6_isBlank ∈ gw := gw_mem (by decide +kernel) rfl
theorem ml_X6_35 : Cond.methodLink RX6 35 yX6_isLetter ∈ gw := gw_mem (by decide +kernel) rfl
theorem ml_X6_38 : Cond.methodLink RX6 38 yX6_passLetters ∈ gw := gw_mem (by decide +kernel) rfl
theorem ml_X6_41 : Cond.methodLink RX6 41 yX6_isFigure ∈ gw := gw_mem (by decide +kernel) rfl
theorem ml_X6_44 : Cond.methodLink RX6 44 yX6_passFigures ∈ gw := gw_mem (by decide +kernel) rfl
theorem ml_X4_37 : Cond.methodLink RX4 37 yX4_readRoom ∈ gw := gw_mem (by decide +kernel) rfl
theorem ml_X4_64 : Cond.methodLink RX4 64 yX4_readWord ∈ gw := gw_mem (by decide +kernel) rfl
theorem ml_X4_49 : Cond.methodLink RX4 49 yX6_isWord ∈ gw := gw_mem (by decide +kernel) rfl
theorem ml_X6_47 : Cond.methodLink RX6 47 ⟨"java/lang/String", "length", "()I"⟩ ∈ gw := gw_mem (by decide +kernel) rfl
theorem ml_X6_53 : Cond.methodLink RX6 53 ⟨"java/lang/String", "charAt", "(I)C"⟩ ∈ gw := gw_mem (by decide +kernel) rfl
theorem ml_X4_95 : Cond.methodLink RX4 95 yX4_failed ∈ gw := gw_mem (by decide +kernel) rfl
theorem ml_X4_99 : Cond.methodLink RX4 99 yX6_step ∈ gw := gw_mem (by decide +kernel) rfl
theorem ml_X4_71 : Cond.methodLink RX4 71 yX4_readNumber ∈ gw := gw_mem (by decide +kernel) rfl
theorem ml_X4_75 : Cond.methodLink RX4 75 yX4_readEnd ∈ gw := gw_mem (by decide +kernel) rfl
theorem ml_X4_44 : Cond.methodLink RX4 44 yX4_readPart ∈ gw := gw_mem (by decide +kernel) rfl
theorem ml_X4_55 : Cond.methodLink RX4 55 yX4_readDoor ∈ gw := gw_mem (by decide +kernel) rfl
theorem ml_X4_82 : Cond.methodLink RX4 82 yX3_putDoor ∈ gw := gw_mem (by decide +kernel) rfl
theorem ml_X4_58 : Cond.methodLink RX4 58 yX4_readCrowd ∈ gw := gw_mem (by decide +kernel) rfl
theorem ml_X4_91 : Cond.methodLink RX4 91 yX4_sortNamed ∈ gw := gw_mem (by decide +kernel) rfl
theorem ml_X7_132 : Cond.methodLink RX7 132 yX3_take ∈ gw := gw_mem (by decide +kernel) rfl
theorem ml_X3_52 : Cond.methodLink RX3 52 arraycopyName ∈ gw := gw_mem (by decide +kernel) rfl
theorem ml_X7_135 : Cond.methodLink RX7 135 yX0_forgetAll ∈ gw := gw_mem (by decide +kernel) rfl
theorem ml_L_44 : Cond.methodLink R_law 44 yX7_fault ∈ gw := gw_mem (by decide +kernel) rfl
theorem ml_L_48 : Cond.methodLink R_law 48 yX7_bell ∈ gw := gw_mem (by decide +kernel) rfl
theorem ml_X7_145 : Cond.methodLink RX7 145 yX0_keep ∈ gw := gw_mem (by decide +kernel) rfl
theorem ml_X0_24 : Cond.methodLink RX0 24 arraycopyName ∈ gw := gw_mem (by decide +kernel) rfl
theorem ml_X0_45 : Cond.methodLink RX0 45 Lib.Math.min.name ∈ gw := gw_mem (by decide +kernel) rfl
theorem ml_X7_148 : Cond.methodLink RX7 148 yX3_ring ∈ gw := gw_mem (by decide +kernel) rfl
theorem ml_X3_61 : Cond.methodLink RX3 61 yX3_countHeads ∈ gw := gw_mem (by decide +kernel) rfl
theorem ml_X3_64 : Cond.methodLink RX3 64 yX3_goalOf ∈ gw := gw_mem (by decide +kernel) rfl
theorem ml_L_52 : Cond.methodLink R_law 52 yX7_bells ∈ gw := gw_mem (by decide +kernel) rfl
theorem ml_X7_155 : Cond.methodLink RX7 155 yX5_holdsSets ∈ gw := gw_mem (by decide +kernel) rfl
theorem ml_X7_159 : Cond.methodLink RX7 159 yX7_tooManyHeads ∈ gw := gw_mem (by decide +kernel) rfl
theorem ml_X7_256 : Cond.methodLink RX7 256 yX5_countBit ∈ gw := gw_mem (by decide +kernel) rfl
theorem ml_X7_163 : Cond.methodLink RX7 163 yX3_addHeads ∈ gw := gw_mem (by decide +kernel) rfl
theorem ml_X7_167 : Cond.methodLink RX7 167 yX3_allHeads ∈ gw := gw_mem (by decide +kernel) rfl
theorem ml_L_56 : Cond.methodLink R_law 56 yX7_door ∈ gw := gw_mem (by decide +kernel) rfl
theorem ml_X7_170 : Cond.methodLink RX7 170 yX3_isRoom ∈ gw := gw_mem (by decide +kernel) rfl
theorem ml_X7_173 : Cond.methodLink RX7 173 yX3_doorBetween ∈ gw := gw_mem (by decide +kernel) rfl
theorem ml_X7_176 : Cond.methodLink RX7 176 yX3_putDoor ∈ gw := gw_mem (by decide +kernel) rfl
theorem ml_L_60 : Cond.methodLink R_law 60 yX7_heads ∈ gw := gw_mem (by decide +kernel) rfl
theorem ml_X7_180 : Cond.methodLink RX7 180 yX3_isCrowd ∈ gw := gw_mem (by decide +kernel) rfl
theorem ml_L_65 : Cond.methodLink R_law 65 yX7_undo ∈ gw := gw_mem (by decide +kernel) rfl
theorem ml_X7_189 : Cond.methodLink RX7 189 yX0_takeBack ∈ gw := gw_mem (by decide +kernel) rfl
theorem ml_L_69 : Cond.methodLink R_law 69 yX7_crowd ∈ gw := gw_mem (by decide +kernel) rfl
theorem ml_L_73 : Cond.methodLink R_law 73 yX7_room ∈ gw := gw_mem (by decide +kernel) rfl
theorem ml_X7_198 : Cond.methodLink RX7 198 yX3_headsIn ∈ gw := gw_mem (by decide +kernel) rfl
theorem ml_L_77 : Cond.methodLink R_law 77 yX7_ahead ∈ gw := gw_mem (by decide +kernel) rfl
theorem ml_X7_204 : Cond.methodLink RX7 204 yX2_whereBehind ∈ gw := gw_mem (by decide +kernel) rfl
theorem ml_X2_28 : Cond.methodLink RX2 28 yX3_take ∈ gw := gw_mem (by decide +kernel) rfl
theorem ml_X2_32 : Cond.methodLink RX2 32 yX2_ringTimes ∈ gw := gw_mem (by decide +kernel) rfl
theorem ml_X2_43 : Cond.methodLink RX2 43 yX3_ring ∈ gw := gw_mem (by decide +kernel) rfl
theorem ml_L_81 : Cond.methodLink R_law 81 yX7_roomAhead ∈ gw := gw_mem (by decide +kernel) rfl
theorem ml_X7_207 : Cond.methodLink RX7 207 yX2_headsBehind ∈ gw := gw_mem (by decide +kernel) rfl
theorem ml_X2_39 : Cond.methodLink RX2 39 yX3_headsIn ∈ gw := gw_mem (by decide +kernel) rfl
theorem ml_X7_210 : Cond.methodLink RX7 210 yX2_worth ∈ gw := gw_mem (by decide +kernel) rfl
theorem ml_X2_50 : Cond.methodLink RX2 50 Lib.Math.min.name ∈ gw := gw_mem (by decide +kernel) rfl
theorem ml_L_85 : Cond.methodLink R_law 85 yX7_rest ∈ gw := gw_mem (by decide +kernel) rfl
theorem ml_X7_213 : Cond.methodLink RX7 213 yX2_bellsToRest ∈ gw := gw_mem (by decide +kernel) rfl
theorem ml_X7_216 : Cond.methodLink RX7 216 yX2_bellsToRing ∈ gw := gw_mem (by decide +kernel) rfl
theorem ml_X2_57 : Cond.methodLink RX2 57 yX2_allAsNow ∈ gw := gw_mem (by decide +kernel) rfl
theorem ml_L_89 : Cond.methodLink R_law 89 yX7_hired ∈ gw := gw_mem (by decide +kernel) rfl
theorem ml_X7_219 : Cond.methodLink RX7 219 yX7_fewest ∈ gw := gw_mem (by decide +kernel) rfl
theorem ml_X7_259 : Cond.methodLink RX7 259 yX2_findHired ∈ gw := gw_mem (by decide +kernel) rfl
theorem ml_X2_65 : Cond.methodLink RX2 65 yX2_succeeds ∈ gw := gw_mem (by decide +kernel) rfl
theorem ml_X2_105 : Cond.methodLink RX2 105 yX3_hire ∈ gw := gw_mem (by decide +kernel) rfl
theorem ml_L_93 : Cond.methodLink R_law 93 yX7_empty ∈ gw := gw_mem (by decide +kernel) rfl
theorem ml_L_97 : Cond.methodLink R_law 97 yX7_apart ∈ gw := gw_mem (by decide +kernel) rfl
theorem ml_X7_223 : Cond.methodLink RX7 223 yX2_doorToShut ∈ gw := gw_mem (by decide +kernel) rfl
theorem ml_X2_75 : Cond.methodLink RX2 75 yX2_meet ∈ gw := gw_mem (by decide +kernel) rfl
theorem ml_X2_79 : Cond.methodLink RX2 79 yX3_doorBetween ∈ gw := gw_mem (by decide +kernel) rfl
theorem ml_X2_82 : Cond.methodLink RX2 82 yX2_partedBy ∈ gw := gw_mem (by decide +kernel) rfl
theorem ml_X2_112 : Cond.methodLink RX2 112 yX3_putDoor ∈ gw := gw_mem (by decide +kernel) rfl
theorem ml_L_101 : Cond.methodLink R_law 101 yX7_began ∈ gw := gw_mem (by decide +kernel) rfl
theorem ml_X7_227 : Cond.methodLink RX7 227 yX2_findBeginnings ∈ gw := gw_mem (by decide +kernel) rfl
theorem ml_X2_89 : Cond.methodLink RX2 89 yX2_findSources ∈ gw := gw_mem (by decide +kernel) rfl
theorem ml_X2_116 : Cond.methodLink RX2 116 yX2_seenFrom ∈ gw := gw_mem (by decide +kernel) rfl
theorem ml_X2_95 : Cond.methodLink RX2 95 yX2_canBegin ∈ gw := gw_mem (by decide +kernel) rfl
theorem ml_X2_102 : Cond.methodLink RX2 102 yX2_countWay ∈ gw := gw_mem (by decide +kernel) rfl
theorem ml_X2_122 : Cond.methodLink RX2 122 arraycopyName ∈ gw := gw_mem (by decide +kernel) rfl
theorem ml_L_105 : Cond.methodLink R_law 105 yX7_image ∈ gw := gw_mem (by decide +kernel) rfl
theorem ml_L_109 : Cond.methodLink R_law 109 yX7_restore ∈ gw := gw_mem (by decide +kernel) rfl
theorem ml_L_113 : Cond.methodLink R_law 113 yX7_kind ∈ gw := gw_mem (by decide +kernel) rfl
theorem ml_L_117 : Cond.methodLink R_law 117 yX7_as ∈ gw := gw_mem (by decide +kernel) rfl
theorem ml_X7_240 : Cond.methodLink RX7 240 yX7_isA ∈ gw := gw_mem (by decide +kernel) rfl
theorem ml_L_121 : Cond.methodLink R_law 121 yX7_ask ∈ gw := gw_mem (by decide +kernel) rfl
theorem ml_X7_243 : Cond.methodLink RX7 243 yX1_askAnew ∈ gw := gw_mem (by decide +kernel) rfl
theorem ml_X1_21 : Cond.methodLink RX1 21 yX1_answer ∈ gw := gw_mem (by decide +kernel) rfl
theorem ml_X1_38 : Cond.methodLink RX1 38 yX1_nearestBody ∈ gw := gw_mem (by decide +kernel) rfl
theorem ml_X1_42 : Cond.methodLink RX1 42 yX1_runBody ∈ gw := gw_mem (by decide +kernel) rfl
theorem ml_X1_45 : Cond.methodLink RX1 45 yX1_leave ∈ gw := gw_mem (by decide +kernel) rfl
theorem ml_L_125 : Cond.methodLink R_law 125 yX7_trace ∈ gw := gw_mem (by decide +kernel) rfl
theorem ml_L_129 : Cond.methodLink R_law 129 yX7_count ∈ gw := gw_mem (by decide +kernel) rfl
theorem ml_X7_252 : Cond.methodLink RX7 252 yX7_countRows ∈ gw := gw_mem (by decide +kernel) rfl
theorem ml_L_133 : Cond.methodLink R_law 133 yX7_status ∈ gw := gw_mem (by decide +kernel) rfl
theorem ml_L_12 : Cond.methodLink R_law 12 yX8_init ∈ gw := gw_mem (by decide +kernel) rfl
theorem ml_X8_1 : Cond.methodLink RX8 1 objectInit ∈ gw := gw_mem (by decide +kernel) rfl
theorem ml_L_17 : Cond.methodLink R_law 17 yX8_row ∈ gw := gw_mem (by decide +kernel) rfl
theorem ml_X8_73 : Cond.methodLink RX8 73 yX8_isRow ∈ gw := gw_mem (by decide +kernel) rfl
theorem ml_X8_69 : Cond.methodLink RX8 69 yX8_in ∈ gw := gw_mem (by decide +kernel) rfl
theorem ml_X8_80 : Cond.methodLink RX8 80 yX8_finding ∈ gw := gw_mem (by decide +kernel) rfl
theorem ml_L_21 : Cond.methodLink R_law 21 yX8_set ∈ gw := gw_mem (by decide +kernel) rfl
theorem ml_L_26 : Cond.methodLink R_law 26 yX8_copy ∈ gw := gw_mem (by decide +kernel) rfl
theorem ml_L_31 : Cond.methodLink R_law 31 yX8_drop ∈ gw := gw_mem (by decide +kernel) rfl
theorem ml_L_38 : Cond.methodLink R_law 38 yX8_feed ∈ gw := gw_mem (by decide +kernel) rfl
theorem ml_L_43 : Cond.methodLink R_law 43 yX8_house ∈ gw := gw_mem (by decide +kernel) rfl
theorem ml_X8_167 : Cond.methodLink RX8 167 yX8_begin ∈ gw := gw_mem (by decide +kernel) rfl
theorem ml_X8_120 : Cond.methodLink RX8 120 yX8_next ∈ gw := gw_mem (by decide +kernel) rfl
theorem ml_X8_99 : Cond.methodLink RX8 99 yX8_byteAt ∈ gw := gw_mem (by decide +kernel) rfl
theorem ml_X8_108 : Cond.methodLink RX8 108 yX8_isLetter ∈ gw := gw_mem (by decide +kernel) rfl
theorem ml_X8_111 : Cond.methodLink RX8 111 yX8_isFigure ∈ gw := gw_mem (by decide +kernel) rfl
theorem ml_X8_159 : Cond.methodLink RX8 159 yX8_name ∈ gw := gw_mem (by decide +kernel) rfl
theorem ml_X8_126 : Cond.methodLink RX8 126 yX8_bad ∈ gw := gw_mem (by decide +kernel) rfl
theorem ml_X8_172 : Cond.methodLink RX8 172 yX8_readRoom ∈ gw := gw_mem (by decide +kernel) rfl
theorem ml_X8_148 : Cond.methodLink RX8 148 yX8_begins ∈ gw := gw_mem (by decide +kernel) rfl
theorem ml_X8_134 : Cond.methodLink RX8 134 yX8_must ∈ gw := gw_mem (by decide +kernel) rfl
theorem ml_X8_152 : Cond.methodLink RX8 152 yX8_number ∈ gw := gw_mem (by decide +kernel) rfl
theorem ml_X8_130 : Cond.methodLink RX8 130 yX8_figures ∈ gw := gw_mem (by decide +kernel) rfl
theorem ml_X8_156 : Cond.methodLink RX8 156 yX8_mustEnd ∈ gw := gw_mem (by decide +kernel) rfl
theorem ml_X8_177 : Cond.methodLink RX8 177 yX8_readDoor ∈ gw := gw_mem (by decide +kernel) rfl
theorem ml_X8_182 : Cond.methodLink RX8 182 yX8_readCrowd ∈ gw := gw_mem (by decide +kernel) rfl
theorem ml_X8_163 : Cond.methodLink RX8 163 yX8_kindBy ∈ gw := gw_mem (by decide +kernel) rfl
theorem ml_L_47 : Cond.methodLink R_law 47 yX8_fault ∈ gw := gw_mem (by decide +kernel) rfl
theorem ml_L_51 : Cond.methodLink R_law 51 yX8_bell ∈ gw := gw_mem (by decide +kernel) rfl
theorem ml_X8_222 : Cond.methodLink RX8 222 yX8_isThere ∈ gw := gw_mem (by decide +kernel) rfl
theorem ml_X8_227 : Cond.methodLink RX8 227 yX8_ring ∈ gw := gw_mem (by decide +kernel) rfl
theorem ml_X8_216 : Cond.methodLink RX8 216 yX8_keep ∈ gw := gw_mem (by decide +kernel) rfl
theorem ml_X8_219 : Cond.methodLink RX8 219 yX8_layNow ∈ gw := gw_mem (by decide +kernel) rfl
theorem ml_X8_201 : Cond.methodLink RX8 201 yX8_of ∈ gw := gw_mem (by decide +kernel) rfl
theorem ml_X8_213 : Cond.methodLink RX8 213 yX8_goBell ∈ gw := gw_mem (by decide +kernel) rfl
theorem ml_X8_207 : Cond.methodLink RX8 207 yX8_layCounts ∈ gw := gw_mem (by decide +kernel) rfl
theorem ml_X8_210 : Cond.methodLink RX8 210 yX8_goesTo ∈ gw := gw_mem (by decide +kernel) rfl
theorem ml_X8_204 : Cond.methodLink RX8 204 yX8_draws ∈ gw := gw_mem (by decide +kernel) rfl
theorem ml_L_55 : Cond.methodLink R_law 55 yX8_bells ∈ gw := gw_mem (by decide +kernel) rfl
theorem ml_X8_232 : Cond.methodLink RX8 232 yX8_haveRoom ∈ gw := gw_mem (by decide +kernel) rfl
theorem ml_X8_236 : Cond.methodLink RX8 236 yX8_headsOfAll ∈ gw := gw_mem (by decide +kernel) rfl
theorem ml_L_59 : Cond.methodLink R_law 59 yX8_door ∈ gw := gw_mem (by decide +kernel) rfl
theorem ml_X8_239 : Cond.methodLink RX8 239 yX8_isRoom ∈ gw := gw_mem (by decide +kernel) rfl
theorem ml_L_64 : Cond.methodLink R_law 64 yX8_heads ∈ gw := gw_mem (by decide +kernel) rfl
theorem ml_X8_242 : Cond.methodLink RX8 242 yX8_isCrowd ∈ gw := gw_mem (by decide +kernel) rfl
theorem ml_L_68 : Cond.methodLink R_law 68 yX8_undo ∈ gw := gw_mem (by decide +kernel) rfl
theorem ml_L_72 : Cond.methodLink R_law 72 yX8_crowd ∈ gw := gw_mem (by decide +kernel) rfl
theorem ml_L_76 : Cond.methodLink R_law 76 yX8_room ∈ gw := gw_mem (by decide +kernel) rfl
theorem ml_L_80 : Cond.methodLink R_law 80 yX8_ahead ∈ gw := gw_mem (by decide +kernel) rfl
theorem ml_X8_249 : Cond.methodLink RX8 249 yX8_goBells ∈ gw := gw_mem (by decide +kernel) rfl
theorem ml_L_84 : Cond.methodLink R_law 84 yX8_roomAhead ∈ gw := gw_mem (by decide +kernel) rfl
theorem ml_L_88 : Cond.methodLink R_law 88 yX8_rest ∈ gw := gw_mem (by decide +kernel) rfl
theorem ml_X8_252 : Cond.methodLink RX8 252 yX8_restIn ∈ gw := gw_mem (by decide +kernel) rfl
theorem ml_X8_255 : Cond.methodLink RX8 255 yX8_ringIn ∈ gw := gw_mem (by decide +kernel) rfl
theorem ml_L_92 : Cond.methodLink R_law 92 yX8_hired ∈ gw := gw_mem (by decide +kernel) rfl
theorem ml_X8_267 : Cond.methodLink RX8 267 yX8_hire ∈ gw := gw_mem (by decide +kernel) rfl
theorem ml_X8_258 : Cond.methodLink RX8 258 yX8_layHired ∈ gw := gw_mem (by decide +kernel) rfl
theorem ml_X8_261 : Cond.methodLink RX8 261 yX8_isSo ∈ gw := gw_mem (by decide +kernel) rfl
theorem ml_L_96 : Cond.methodLink R_law 96 yX8_empty ∈ gw := gw_mem (by decide +kernel) rfl
theorem ml_L_100 : Cond.methodLink R_law 100 yX8_apart ∈ gw := gw_mem (by decide +kernel) rfl
theorem ml_X8_271 : Cond.methodLink RX8 271 yX8_areApart ∈ gw := gw_mem (by decide +kernel) rfl
theorem ml_L_104 : Cond.methodLink R_law 104 yX8_began ∈ gw := gw_mem (by decide +kernel) rfl
theorem ml_X8_279 : Cond.methodLink RX8 279 yX8_layBegan ∈ gw := gw_mem (by decide +kernel) rfl
theorem ml_L_108 : Cond.methodLink R_law 108 yX8_image ∈ gw := gw_mem (by decide +kernel) rfl
theorem ml_L_112 : Cond.methodLink R_law 112 yX8_restore ∈ gw := gw_mem (by decide +kernel) rfl
theorem ml_L_116 : Cond.methodLink R_law 116 yX8_kind ∈ gw := gw_mem (by decide +kernel) rfl
theorem ml_L_120 : Cond.methodLink R_law 120 yX8_as ∈ gw := gw_mem (by decide +kernel) rfl
theorem ml_X8_284 : Cond.methodLink RX8 284 yX8_isOf ∈ gw := gw_mem (by decide +kernel) rfl
theorem ml_L_124 : Cond.methodLink R_law 124 yX8_ask ∈ gw := gw_mem (by decide +kernel) rfl
theorem ml_X8_302 : Cond.methodLink RX8 302 yX8_sizeOf ∈ gw := gw_mem (by decide +kernel) rfl
theorem ml_X8_296 : Cond.methodLink RX8 296 yX8_staySize ∈ gw := gw_mem (by decide +kernel) rfl
theorem ml_X8_290 : Cond.methodLink RX8 290 yX8_stepped ∈ gw := gw_mem (by decide +kernel) rfl
theorem ml_X8_293 : Cond.methodLink RX8 293 yX8_plainSize ∈ gw := gw_mem (by decide +kernel) rfl
theorem ml_X8_299 : Cond.methodLink RX8 299 yX8_markOf ∈ gw := gw_mem (by decide +kernel) rfl
theorem ml_L_128 : Cond.methodLink R_law 128 yX8_trace ∈ gw := gw_mem (by decide +kernel) rfl
theorem ml_L_132 : Cond.methodLink R_law 132 yX8_count ∈ gw := gw_mem (by decide +kernel) rfl
theorem ml_L_136 : Cond.methodLink R_law 136 yX8_status ∈ gw := gw_mem (by decide +kernel) rfl
theorem mn_X7_17 : Cond.methodLinkNest RX7 17 yX6_init "MostRooms" ∈ lw_tbl := by decide +kernel
theorem mn_X4_11 : Cond.methodLinkNest RX4 11 yX3_init "MostRooms" ∈ lw_tbl := by decide +kernel
theorem mn_X7_33 : Cond.methodLinkNest RX7 33 yX3_init "MostRooms" ∈ lw_tbl := by decide +kernel
theorem mn_X7_44 : Cond.methodLinkNest RX7 44 yX0_init "MostRooms" ∈ lw_tbl := by decide +kernel
theorem mn_X2_11 : Cond.methodLinkNest RX2 11 yX3_init "MostRooms" ∈ lw_tbl := by decide +kernel
theorem mn_X7_65 : Cond.methodLinkNest RX7 65 yX5_init "MostRooms" ∈ lw_tbl := by decide +kernel
theorem kc_X7_70 : Cond.constant RX7 70 (-1000001) ∈ gw := gw_mem (by decide +kernel) rfl
theorem kc_X7_255 : Cond.constant RX7 255 (-1000010) ∈ gw := gw_mem (by decide +kernel) rfl
theorem kc_X7_112 : Cond.constant RX7 112 (-1000003) ∈ gw := gw_mem (by decide +kernel) rfl
theorem kc_X7_128 : Cond.constant RX7 128 (-1000100) ∈ gw := gw_mem (by decide +kernel) rfl
theorem kc_X7_141 : Cond.constant RX7 141 (-1000002) ∈ gw := gw_mem (by decide +kernel) rfl
theorem kc_X2_56 : Cond.constant RX2 56 (-1000000) ∈ gw := gw_mem (by decide +kernel) rfl
theorem kc_X7_233 : Cond.constant RX7 233 (-1000000) ∈ gw := gw_mem (by decide +kernel) rfl
theorem kc_X8_67 : Cond.constantLong RX8 67 (7) ∈ gw := gw_mem (by decide +kernel) rfl
theorem kc_X8_77 : Cond.constantLong RX8 77 (2) ∈ gw := gw_mem (by decide +kernel) rfl
theorem kc_X8_79 : Cond.constant RX8 79 (-1000001) ∈ gw := gw_mem (by decide +kernel) rfl
theorem kc_X8_66 : Cond.constant RX8 66 (-1000010) ∈ gw := gw_mem (by decide +kernel) rfl
theorem kc_X8_84 : Cond.constantLong RX8 84 (8) ∈ gw := gw_mem (by decide +kernel) rfl
theorem kc_X8_89 : Cond.constant RX8 89 (-1000003) ∈ gw := gw_mem (by decide +kernel) rfl
theorem kc_X8_90 : Cond.constantLong RX8 90 (255) ∈ gw := gw_mem (by decide +kernel) rfl
theorem kc_X8_95 : Cond.constant RX8 95 (-1000000) ∈ gw := gw_mem (by decide +kernel) rfl
theorem kc_X8_170 : Cond.constantLong RX8 170 (1919905645) ∈ gw := gw_mem (by decide +kernel) rfl
theorem kc_X8_175 : Cond.constantLong RX8 175 (1685024626) ∈ gw := gw_mem (by decide +kernel) rfl
theorem kc_X8_180 : Cond.constantLong RX8 180 (427121669988) ∈ gw := gw_mem (by decide +kernel) rfl
theorem kc_X8_138 : Cond.constantLong RX8 138 (1836020596) ∈ gw := gw_mem (by decide +kernel) rfl
theorem kc_X8_140 : Cond.constantLong RX8 140 (6710647) ∈ gw := gw_mem (by decide +kernel) rfl
theorem kc_X8_142 : Cond.constantLong RX8 142 (1818848101) ∈ gw := gw_mem (by decide +kernel) rfl
theorem kc_X8_144 : Cond.constantLong RX8 144 (1818326117) ∈ gw := gw_mem (by decide +kernel) rfl
theorem kc_X8_146 : Cond.constantLong RX8 146 (1937006969) ∈ gw := gw_mem (by decide +kernel) rfl
theorem kc_X8_188 : Cond.constant RX8 188 (-1000100) ∈ gw := gw_mem (by decide +kernel) rfl
theorem kc_X8_226 : Cond.constant RX8 226 (-1000002) ∈ gw := gw_mem (by decide +kernel) rfl
theorem kc_X8_230 : Cond.constantLong RX8 230 (24) ∈ gw := gw_mem (by decide +kernel) rfl
theorem kc_X8_245 : Cond.constantLong RX8 245 (99) ∈ gw := gw_mem (by decide +kernel) rfl
theorem kc_X8_247 : Cond.constantLong RX8 247 (60) ∈ gw := gw_mem (by decide +kernel) rfl
theorem kc_X8_265 : Cond.constantLong RX8 265 (20) ∈ gw := gw_mem (by decide +kernel) rfl
theorem kc_X8_275 : Cond.constantLong RX8 275 (-1) ∈ gw := gw_mem (by decide +kernel) rfl
theorem kc_X8_277 : Cond.constantLong RX8 277 (9) ∈ gw := gw_mem (by decide +kernel) rfl
theorem kc_X8_282 : Cond.constantLong RX8 282 (5) ∈ gw := gw_mem (by decide +kernel) rfl
theorem kc_L_32 : Cond.constantLong R_law 32 (4294967295) ∈ gw := gw_mem (by decide +kernel) rfl
theorem gw_oi : Cond.instanceMethod objectInit ∈ gw := gw_mem (by decide +kernel) rfl
theorem gw_oc : Cond.code objectInit ⟨#[0xb1]⟩ 1 none ∈ gw := gw_mem (by decide +kernel) rfl
end
section
/-! the thin layer, 4: arraycopy, Math.min, compares of longs, switches -/
theorem gw_ac1 : Cond.native arraycopyName ∈ gw := gw_mem (by decide +kernel) rfl
theorem gw_ac2 : Cond.static arraycopyName ∈ gw := gw_mem (by decide +kernel) rfl
theorem gw_ac3 : Cond.initialized "java/lang/System" ∈ gw := gw_mem (by decide +kernel) rfl
theorem gw_mm1 : Cond.static Lib.Math.min.name ∈ gw := gw_mem (by decide +kernel) rfl
theorem gw_mm2 : Cond.initialized "java/lang/Math" ∈ gw := gw_mem (by decide +kernel) rfl
theorem gw_mm3 : Cond.code Lib.Math.min.name Lib.Math.min.code 2 (some .int) ∈ gw := gw_mem (by decide +kernel) rfl
section ROWS4
variable {E : EG} {M : MD} {q : RQ} {Z : ZX} {k n pc : Nat} {ws : va_W} {ls : List (Nat × Value)} {st : List Value}
theorem mr_copy (C : CX E M q Z) (q0 q1 sp dp m : Nat) {i : Nat} {a0 a1 n0 n1 : Nat} {f g : Nat → Int32} {x y z : Int32} (pc' : Nat) (d : decode M.2.1 pc = .ok (.invokestatic i, 3)) (hp : pc + 3 = pc') (hlk : Cond.methodLink M.1.cls i arraycopyName ∈ gw)
    (h0 : ws[q0]? = some (a0, .inl (E.1.1 100, n0, .inl f))) (h1 : ws[q1]? = some (a1, .inl (E.1.1 100, n1, .inl g))) (hx : x = nI m) (hy : y = nI dp) (hz : z = nI sp) (b0 : sp + m ≤ n0) (b1 : dp + m ≤ n1) (B0 : n0 < 2 ^ 31) (B1 : n1 < 2 ^ 31) (hst : (st.map fun v => v.category).sum ≤ 8) (hq : 1 ≤ q.1)
    (kk : V E M q Z k n (ws.set q1 (a1, .inl (E.1.1 100, n1, .inl (va_cpy f g sp dp m)))) ls st pc') : V E M q Z k n ws ls (.int x :: .int y :: .ref a1 :: .int z :: .ref a0 :: st) pc := by
  subst hp; subst hx; subst hy; subst hz
  have e1 : (nI m).toNatClampNeg = m := nI_clamp (by omega)
  have e2 : (nI dp).toNatClampNeg = dp := nI_clamp (by omega)
  have e3 : (nI sp).toNatClampNeg = sp := nI_clamp (by omega)
  intro H locs lv hP hD hS hl
  refine va_copyi (D := E.1) C.1 C.2.1 (by rw [C.2.2.1]; exact hl.1.symm) C.2.2.2.2.1 (C.2.2.2.2.2.1 _ hlk) (C.2.2.2.2.2.1 _ gw_ac1) (C.2.2.2.2.2.1 _ gw_ac2) (C.2.2.2.2.2.1 _ gw_ac3) C.2.2.2.2.2.2.2.2.1.1 hP hD hS q0 q1 0 0 h0 h1 (ty := .int) rfl rfl rfl (nI_pos (by omega)) (nI_pos (by omega)) (nI_pos (by omega)) (by rw [e1, e3]; exact b0) (by rw [e1, e2]; exact b1) (fun _ _ => rfl) hq ?_ d ?_
  · show _ ≤ 64 * q.1
    have : nativeFrameWords "java/lang/System" "arraycopy" 5 + 11 ≤ 56 := by decide +kernel
    omega
  · rw [e1, e2, e3]
    exact fun H1 locs1 hP hD hS => kk H1 locs1 lv hP hD hS hl
theorem mr_min (C : CX E M q Z) {i : Nat} {x y : Int32} (pc' : Nat) (d : decode M.2.1 pc = .ok (.invokestatic i, 3)) (hp : pc + 3 = pc') (hlk : Cond.methodLink M.1.cls i Lib.Math.min.name ∈ gw) (hst : (st.map fun v => v.category).sum ≤ 8) (hq : 1 ≤ q.1) (hc : k ≤ q.2.1) (hs : n ≤ q.2.2)
    (kk : V E M q Z k n ws ls (.int (if y < x then y else x) :: st) pc') : V E M q Z k n ws ls (.int y :: .int x :: st) pc := by
  subst hp
  intro H locs lv hP hD hS hl
  refine va_mmin C.1 C.2.1 (by rw [C.2.2.1]; exact hl.1.symm) C.2.2.2.2.1 (C.2.2.2.2.2.1 _ hlk) (C.2.2.2.2.2.1 _ gw_mm1) (C.2.2.2.2.2.1 _ gw_mm2) (C.2.2.2.2.2.1 _ gw_mm3) hq ?_ hc hs d (kk H locs lv hP hD hS hl)
  show _ ≤ 64 * q.1
  omega
theorem mr_lcmp (C : CX E M q Z) {x y : Int64} (pc' : Nat) (d : decode M.2.1 pc = .ok (.lcmp, 1)) (hp : pc + 1 = pc') (kk : V E M q Z k n ws ls (.int (lg_cmp x y) :: st) pc') : V E M q Z k n ws ls (.long y :: .long x :: st) pc := by
  subst hp
  exact fun H locs lv hP hD hS hl => W.lcmp C.1 C.2.1 d (kk H locs lv hP hD hS hl)
theorem mr_tabIn (C : CX E M q Z) {dflt lo hi : Int} {offs : Array Int} {len : Nat} {x : Int32} {off : Int} (tgt : Nat) (d : decode M.2.1 pc = .ok (.tableswitch dflt lo hi offs, len)) (h1 : ¬ x.toInt < lo) (h2 : ¬ hi < x.toInt) (ho : offs[(x.toInt - lo).toNat]? = some off) (ht : (pc : Int) + off = (tgt : Int)) (kk : V E M q Z k n ws ls st tgt) : V E M q Z k n ws ls (.int x :: st) pc :=
  fun H locs lv hP hD hS hl => lv_tableIn C.1 C.2.1 d h1 h2 ho ht (kk H locs lv hP hD hS hl)
theorem mr_tabOut (C : CX E M q Z) {dflt lo hi : Int} {offs : Array Int} {len : Nat} {x : Int32} (tgt : Nat) (d : decode M.2.1 pc = .ok (.tableswitch dflt lo hi offs, len)) (h : x.toInt < lo ∨ hi < x.toInt) (ht : (pc : Int) + dflt = (tgt : Int)) (kk : V E M q Z k n ws ls st tgt) : V E M q Z k n ws ls (.int x :: st) pc :=
  fun H locs lv hP hD hS hl => lv_tableOut C.1 C.2.1 d h ht (kk H locs lv hP hD hS hl)
end ROWS4
end
section
/-! worlds -/
abbrev FN : Type := Nat → Int32
/-- an int array of n places -/
abbrev iA (E : EG) (n : Nat) (f : FN) : va_E := .inl (E.1.1 100, n, .inl f)
/-- a House at b .. b+9: itself, seats, seen, before, sort, at (lo), heads, in, alike, goals -/
def wH (E : EG) (a : Nat → Nat) (b : Nat) (se sn be so lo he inn al go : FN) (ro cr gn gu gr : Int32) : va_W :=
  [(a b, .inr (3, [.ref (a (b + 1)), .ref (a (b + 2)), .ref (a (b + 3)), .ref (a (b + 4)), .ref (a (b + 5)), .ref (a (b + 6)), .int ro, .int cr, .int gn, .int gu, .int gr, .ref (a (b + 7)), .ref (a (b + 8)), .ref (a (b + 9))])),
   (a (b + 1), iA E 6 se), (a (b + 2), iA E 6 sn), (a (b + 3), iA E 6 be), (a (b + 4), iA E 5 so), (a (b + 5), iA E 5 lo), (a (b + 6), iA E 5 he), (a (b + 7), iA E 6 inn), (a (b + 8), iA E 6 al), (a (b + 9), iA E 5 go)]
/-- a Row at b, b+1 -/
def wR (E : EG) (a : Nat → Nat) (b : Nat) (it : FN) (th ln sz : Int32) : va_W := [(a b, .inr (5, [.ref (a (b + 1)), .int th, .int ln, .int sz])), (a (b + 1), iA E 40 it)]
/-- a Tape at b, b+1 -/
def wT (E : EG) (a : Nat → Nat) (b : Nat) (by_ : FN) (sz tk sr nx vl : Int32) : va_W := [(a b, .inr (6, [.ref (a (b + 1)), .int sz, .int tk, .int sr, .int nx, .int vl])), (a (b + 1), iA E 400 by_)]
/-- Acts at b, b+1 -/
def wA (E : EG) (a : Nat → Nat) (b : Nat) (kp : FN) (hd nx : Int32) : va_W := [(a b, .inr (0, [.ref (a (b + 1)), .int hd, .int nx])), (a (b + 1), iA E 552 kp)]
/-- two functions agree below n -/
def Ag {α : Type} (n : Nat) (f g : Nat → α) : Prop := ∀ j, j < n → f j = g j
def bI (p : Prop) [Decidable p] : Int32 := if p then 1 else 0
theorem bI_t {p : Prop} [Decidable p] (h : p) : nI 1 = bI p := by simp [bI, h]; rfl
theorem bI_f {p : Prop} [Decidable p] (h : ¬ p) : nI 0 = bI p := by simp [bI, h]; rfl
theorem bI_ne {p : Prop} [Decidable p] : bI p ≠ 0 ↔ p := by unfold bI; split <;> simp_all
theorem bI_eq {p : Prop} [Decidable p] : bI p = 0 ↔ ¬ p := by unfold bI; split <;> simp_all
theorem bI_cong {p q : Prop} [Decidable p] [Decidable q] (h : p ↔ q) : bI p = bI q := by unfold bI; simp only [h]
theorem bI_nar {p : Prop} [Decidable p] : narrow .boolean (.int (bI p)) = .int (bI p) := by unfold bI; split <;> rfl
theorem up_s {f : FN} {j : Nat} {x : Int32} : upd f j x j = x := pk_us
theorem up_n {f : FN} {i j : Nat} {x : Int32} (h : i ≠ j) : upd f j x i = f i := pk_un h
theorem up_at (f : FN) (j : Nat) (x : Int32) (i : Nat) : upd f j x i = if i = j then x else f i := rfl
theorem one_mul32 (x : Int32) : nI 1 * x = x := Int32.one_mul x
theorem neg_one_mul32 (x : Int32) : (-1) * x = - x := by first | (rw [Int32.neg_mul, Int32.one_mul]) | simp | grind
/-- a loop, counted up -/
theorem lp_up {P : Nat → Prop} (N : Nat) (hs : ∀ i, i ≤ N → (i < N → P (i + 1)) → P i) : ∀ i, i ≤ N → P i := by
  have key : ∀ d i, i + d = N → P i := by
    intro d
    induction d with
    | zero => intro i h; exact hs i (by omega) (fun h2 => absurd h2 (by omega))
    | succ d ih => intro i h; exact hs i (by omega) (fun _ => ih (i + 1) (by omega))
  exact fun i h => key (N - i) i (by omega)
theorem nn_01 : ¬ (nI 0 = nI 1) := by decide
theorem nn_02 : ¬ (nI 0 = nI 2) := by decide
theorem nn_03 : ¬ (nI 0 = nI 3) := by decide
theorem nn_04 : ¬ (nI 0 = nI 4) := by decide
theorem nn_05 : ¬ (nI 0 = nI 5) := by decide
theorem nn_10 : ¬ (nI 1 = nI 0) := by decide
theorem nn_12 : ¬ (nI 1 = nI 2) := by decide
theorem nn_13 : ¬ (nI 1 = nI 3) := by decide
theorem nn_14 : ¬ (nI 1 = nI 4) := by decide
theorem nn_15 : ¬ (nI 1 = nI 5) := by decide
theorem nn_20 : ¬ (nI 2 = nI 0) := by decide
theorem nn_21 : ¬ (nI 2 = nI 1) := by decide
theorem nn_23 : ¬ (nI 2 = nI 3) := by decide
theorem nn_24 : ¬ (nI 2 = nI 4) := by decide
theorem nn_25 : ¬ (nI 2 = nI 5) := by decide
theorem nn_30 : ¬ (nI 3 = nI 0) := by decide
theorem nn_31 : ¬ (nI 3 = nI 1) := by decide
theorem nn_32 : ¬ (nI 3 = nI 2) := by decide
theorem nn_34 : ¬ (nI 3 = nI 4) := by decide
theorem nn_35 : ¬ (nI 3 = nI 5) := by decide
theorem nn_40 : ¬ (nI 4 = nI 0) := by decide
theorem nn_41 : ¬ (nI 4 = nI 1) := by decide
theorem nn_42 : ¬ (nI 4 = nI 2) := by decide
theorem nn_43 : ¬ (nI 4 = nI 3) := by decide
theorem nn_45 : ¬ (nI 4 = nI 5) := by decide
theorem nn_50 : ¬ (nI 5 = nI 0) := by decide
theorem nn_51 : ¬ (nI 5 = nI 1) := by decide
theorem nn_52 : ¬ (nI 5 = nI 2) := by decide
theorem nn_53 : ¬ (nI 5 = nI 3) := by decide
theorem nn_54 : ¬ (nI 5 = nI 4) := by decide
/-- sums of heads -/
def sumH (lo he : FN) (r : Int32) : Nat → Int32
  | 0 => nI 0
  | c + 1 => if lo c = r then sumH lo he r c + he c else sumH lo he r c
def sumA (he : FN) : Nat → Int32
  | 0 => nI 0
  | c + 1 => sumA he c + he c
/-- how many are in each room: g at first, then the crowds one by one -/
def cntS (g : FN) (l : Nat → Nat) (h : FN) : Nat → FN
  | 0 => g
  | c + 1 => fun r => if r = l c then cntS g l h c r + h c else cntS g l h c r
theorem cntS_up {g h f : FN} {l : Nat → Nat} {c n : Nat} {y : Int32} (hf : Ag n f (cntS g l h c)) (hy : y = f (l c) + h c) (hl : l c < n) : Ag n (upd f (l c) y) (cntS g l h (c + 1)) := by
  intro r hr
  rw [up_at]
  show _ = if r = l c then _ else _
  by_cases e : r = l c
  · subst e; simp only [if_true]; rw [hy, hf _ hl]
  · simp only [e, if_false]; exact hf r hr
theorem cntS_0 {g h f : FN} {l : Nat → Nat} {c n : Nat} (hf : Ag n f (cntS g l h c)) (hy : h c = 0) : Ag n f (cntS g l h (c + 1)) := by
  intro r hr
  show _ = if r = l c then _ else _
  rw [hf r hr, hy]
  split <;> simp
def gst (gu : Int32) (gr : Nat) : FN := fun r => if r = gr then gu else nI 0
/-- heads of the like ones alone -/
def hLike (so he : FN) : FN := fun c => if so c = nI 2 then he c else 0
/-- what a kind goes by -/
def drawS (inn al be : FN) (gn : Nat) (k : Int32) : FN := fun r => if k = nI 2 then al r else if k = nI 3 ∧ 0 < gn then be r else if k = nI 5 then - inn r else inn r
def bestS (d : FN) (m : Int32) (own : Nat) : Nat → Nat
  | 0 => own
  | r + 1 => if (m >>> (nI r &&& 31)) &&& nI 1 = nI 1 ∧ d (bestS d m own r) < d r then r else bestS d m own r
theorem bestS_lt {d : FN} {m : Int32} {own : Nat} : ∀ r, own < 6 → r ≤ 6 → bestS d m own r < 6
  | 0, h, _ => h
  | r + 1, h, hr => by
    unfold bestS
    split
    · omega
    · exact bestS_lt r h (by omega)
/-- where a crowd goes -/
def goalS (d : FN) (m : Int32) (k : Int32) (own R : Nat) : Nat := if k = nI 4 then own else bestS d m own R
theorem goalS_lt {d : FN} {m k : Int32} {own R : Nat} (h : own < 6) (hR : R ≤ 6) : goalS d m k own R < 6 := by
  unfold goalS
  split
  · exact h
  · exact bestS_lt R h hR
theorem bestS_cong {d d' : FN} {m : Int32} {own : Nat} (h : Ag 6 d d') (ho : own < 6) : ∀ r, r ≤ 6 → bestS d m own r = bestS d' m own r
  | 0, _ => rfl
  | r + 1, hr => by
    unfold bestS
    rw [bestS_cong h ho r (by omega), h r (by omega), h _ (bestS_lt r ho (by omega))]
theorem drawS_ag {f f' g g' be : FN} {G : Nat} {k : Int32} (h1 : Ag 6 f f') (h2 : Ag 6 g g') : Ag 6 (drawS f g be G k) (drawS f' g' be G k) := by
  intro r hr
  unfold drawS
  rw [h1 r hr, h2 r hr]
/-- where crowd c goes at a bell -/
def goS (gu : Int32) (g R K G : Nat) (sn be so : FN) (l : Nat → Nat) (he : FN) (c : Nat) : Nat :=
  goalS (drawS (cntS (gst gu g) l he K) (cntS (fun _ => nI 0) l (hLike so he) K) be G (so c)) (sn (l c)) (so c) (l c) R
theorem goS_of {gu : Int32} {g R K G : Nat} {sn be so he f1 f2 : FN} {l : Nat → Nat} {c : Nat} (h1 : Ag 6 f1 (cntS (gst gu g) l he K)) (h2 : Ag 6 f2 (cntS (fun _ => nI 0) l (hLike so he) K)) (hl : l c < 6) (hR : R ≤ 6) :
    goalS (drawS f1 f2 be G (so c)) (sn (l c)) (so c) (l c) R = goS gu g R K G sn be so l he c := by
  unfold goS goalS
  rw [bestS_cong (drawS_ag h1 h2) hl R hR]
theorem goS_lt {gu : Int32} {g R K G : Nat} {sn be so he : FN} {l : Nat → Nat} {c : Nat} (hl : l c < 6) (hR : R ≤ 6) : goS gu g R K G sn be so l he c < 6 := goalS_lt hl hR
theorem cpy_ag (f g : FN) (n : Nat) : Ag n (va_cpy f g 0 0 n) f := fun j hj => by rw [pk_cpy_in (by omega) (by omega)]; congr 1; omega
/-- the crowds that went -/
def wentS (l g : Nat → Nat) : Nat → Int32
  | 0 => nI 0
  | c + 1 => if g c = l c then wentS l g c else wentS l g c ||| (nI 1 <<< (nI c &&& 31))
end
section
/-! House: small methods -/
set_option maxRecDepth 20000 in
set_option maxHeartbeats 4000000 in
theorem c_isRoom (E : EG) (a : Nat → Nat) (b : Nat) (se sn be so lo he inn al go : FN) (ro cr gn gu gr : Int32) (x : Int32) : Ctr E mX3_isRoom (1, 0, 0) [.ref (a b), .int x] (wH E a b se sn be so lo he inn al go ro cr gn gu gr) (fun v w => v = some (.int (bI (¬ x < 0 ∧ x < ro))) ∧ w = wH E a b se sn be so lo he inn al go ro cr gn gu gr) := by
  refine Ctr.of (by decide) (Nat.le_of_ble_eq_true rfl) ?_
  intro Z hO hn C
  have hlen : zn Z ≤ 10 := by rw [hn]; exact Nat.le_of_ble_eq_true rfl
  refine mr_iload_n C 1 dX3_isRoom_0 rfl rfl ?_
  refine mr_iflt C 16 4 dX3_isRoom_1 (by decide) rfl (fun c_1 => ?_) (fun c_1 => ?_)
  · refine mr_iconst C (nI 0) 17 dX3_isRoom_16 rfl rfl ?_
    refine mr_iret C dX3_isRoom_17 rfl rfl (by decide) (by decide) hlen ?_
    rw [hO]
    exact ⟨congrArg (fun z => some (Value.int z)) (bI_f (fun h => by first | exact absurd h.1 (fun k => k c_1) | exact absurd h.2 (Int32.not_lt.mpr c_9))), rfl⟩
  · refine mr_iload_n C 5 dX3_isRoom_4 rfl rfl ?_
    refine mr_aload_n C 6 dX3_isRoom_5 rfl rfl ?_
    refine mr_get C 0 9 dX3_isRoom_6 rfl fl_X3_39 rfl rfl ?_
    refine mr_icmpge C 16 12 dX3_isRoom_9 (by decide) rfl (fun c_9 => ?_) (fun c_9 => ?_)
    · refine mr_iconst C (nI 0) 17 dX3_isRoom_16 rfl rfl ?_
      refine mr_iret C dX3_isRoom_17 rfl rfl (by decide) (by decide) hlen ?_
      rw [hO]
      exact ⟨congrArg (fun z => some (Value.int z)) (bI_f (fun h => by first | exact absurd h.1 (fun k => k c_1) | exact absurd h.2 (Int32.not_lt.mpr c_9))), rfl⟩
    · refine mr_iconst C (nI 1) 13 dX3_isRoom_12 rfl rfl ?_
      refine mr_goto C 17 dX3_isRoom_13 (by decide) ?_
      refine mr_iret C dX3_isRoom_17 rfl rfl (by decide) (by decide) hlen ?_
      rw [hO]
      exact ⟨congrArg (fun z => some (Value.int z)) (bI_t ⟨c_1, Int32.not_le.mp c_9⟩), rfl⟩

set_option maxRecDepth 20000 in
set_option maxHeartbeats 4000000 in
theorem c_isCrowd (E : EG) (a : Nat → Nat) (b : Nat) (se sn be so lo he inn al go : FN) (ro cr gn gu gr : Int32) (x : Int32) : Ctr E mX3_isCrowd (1, 0, 0) [.ref (a b), .int x] (wH E a b se sn be so lo he inn al go ro cr gn gu gr) (fun v w => v = some (.int (bI (¬ x < 0 ∧ x < cr))) ∧ w = wH E a b se sn be so lo he inn al go ro cr gn gu gr) := by
  refine Ctr.of (by decide) (Nat.le_of_ble_eq_true rfl) ?_
  intro Z hO hn C
  have hlen : zn Z ≤ 10 := by rw [hn]; exact Nat.le_of_ble_eq_true rfl
  refine mr_iload_n C 1 dX3_isCrowd_0 rfl rfl ?_
  refine mr_iflt C 16 4 dX3_isCrowd_1 (by decide) rfl (fun c_1 => ?_) (fun c_1 => ?_)
  · refine mr_iconst C (nI 0) 17 dX3_isCrowd_16 rfl rfl ?_
    refine mr_iret C dX3_isCrowd_17 rfl rfl (by decide) (by decide) hlen ?_
    rw [hO]
    exact ⟨congrArg (fun z => some (Value.int z)) (bI_f (fun h => by first | exact absurd h.1 (fun k => k c_1) | exact absurd h.2 (Int32.not_lt.mpr c_9))), rfl⟩
  · refine mr_iload_n C 5 dX3_isCrowd_4 rfl rfl ?_
    refine mr_aload_n C 6 dX3_isCrowd_5 rfl rfl ?_
    refine mr_get C 0 9 dX3_isCrowd_6 rfl fl_X3_43 rfl rfl ?_
    refine mr_icmpge C 16 12 dX3_isCrowd_9 (by decide) rfl (fun c_9 => ?_) (fun c_9 => ?_)
    · refine mr_iconst C (nI 0) 17 dX3_isCrowd_16 rfl rfl ?_
      refine mr_iret C dX3_isCrowd_17 rfl rfl (by decide) (by decide) hlen ?_
      rw [hO]
      exact ⟨congrArg (fun z => some (Value.int z)) (bI_f (fun h => by first | exact absurd h.1 (fun k => k c_1) | exact absurd h.2 (Int32.not_lt.mpr c_9))), rfl⟩
    · refine mr_iconst C (nI 1) 13 dX3_isCrowd_12 rfl rfl ?_
      refine mr_goto C 17 dX3_isCrowd_13 (by decide) ?_
      refine mr_iret C dX3_isCrowd_17 rfl rfl (by decide) (by decide) hlen ?_
      rw [hO]
      exact ⟨congrArg (fun z => some (Value.int z)) (bI_t ⟨c_1, Int32.not_le.mp c_9⟩), rfl⟩

set_option maxRecDepth 20000 in
set_option maxHeartbeats 4000000 in
theorem c_doorBetween (E : EG) (a : Nat → Nat) (b : Nat) (se sn be so lo he inn al go : FN) (ro cr gn gu gr : Int32) (x y : Nat) (hx : x < 6) : Ctr E mX3_doorBetween (1, 0, 0) [.ref (a b), .int (nI x), .int (nI y)] (wH E a b se sn be so lo he inn al go ro cr gn gu gr) (fun v w => v = some (.int ((sn x >>> (nI y &&& 31)) &&& nI 1)) ∧ w = wH E a b se sn be so lo he inn al go ro cr gn gu gr) := by
  refine Ctr.of (by decide) (Nat.le_of_ble_eq_true rfl) ?_
  intro Z hO hn C
  have hlen : zn Z ≤ 10 := by rw [hn]; exact Nat.le_of_ble_eq_true rfl
  refine mr_aload_n C 1 dX3_doorBetween_0 rfl rfl ?_
  refine mr_get C 0 4 dX3_doorBetween_1 rfl fl_X3_15 rfl rfl ?_
  refine mr_iload_n C 5 dX3_doorBetween_4 rfl rfl ?_
  refine mr_iald C 2 x 6 dX3_doorBetween_5 rfl rfl rfl (by omega) (by decide) ?_
  refine mr_iload_n C 7 dX3_doorBetween_6 rfl rfl ?_
  refine mr_ishr C _ 8 dX3_doorBetween_7 rfl rfl ?_
  refine mr_iconst C (nI 1) 9 dX3_doorBetween_8 rfl rfl ?_
  refine mr_iand C _ 10 dX3_doorBetween_9 rfl rfl ?_
  refine mr_iret C dX3_doorBetween_10 rfl rfl (by decide) (by decide) hlen ?_
  rw [hO]
  exact ⟨rfl, rfl⟩

/-- a door put into the masks -/
def dr1 (sn : FN) (x y : Nat) (z : Int32) : FN := upd sn x ((sn x &&& ((nI 1 <<< (nI y &&& 31)) ^^^ (-1))) ||| (z <<< (nI y &&& 31)))
def drS (sn : FN) (x y : Nat) (z : Int32) : FN := dr1 (dr1 sn x y z) y x z
set_option maxRecDepth 20000 in
set_option maxHeartbeats 4000000 in
theorem c_putDoor (E : EG) (a : Nat → Nat) (b : Nat) (se sn be so lo he inn al go : FN) (ro cr gn gu gr : Int32) (x y : Nat) (z : Int32) (hx : x < 6) (hy : y < 6) : Ctr E mX3_putDoor (1, 0, 0) [.ref (a b), .int (nI x), .int (nI y), .int z] (wH E a b se sn be so lo he inn al go ro cr gn gu gr) (fun v w => v = none ∧ w = wH E a b se (drS sn x y z) be so lo he inn al go ro cr gn gu gr) := by
  refine Ctr.of (by decide) (Nat.le_of_ble_eq_true rfl) ?_
  intro Z hO hn C
  have hlen : zn Z ≤ 10 := by rw [hn]; exact Nat.le_of_ble_eq_true rfl
  refine mr_aload_n C 1 dX3_putDoor_0 rfl rfl ?_
  refine mr_get C 0 4 dX3_putDoor_1 rfl fl_X3_15 rfl rfl ?_
  refine mr_iload_n C 5 dX3_putDoor_4 rfl rfl ?_
  refine mr_aload_n C 6 dX3_putDoor_5 rfl rfl ?_
  refine mr_get C 0 9 dX3_putDoor_6 rfl fl_X3_15 rfl rfl ?_
  refine mr_iload_n C 10 dX3_putDoor_9 rfl rfl ?_
  refine mr_iald C 2 x 11 dX3_putDoor_10 rfl rfl rfl (by omega) (by decide) ?_
  refine mr_iconst C (nI 1) 12 dX3_putDoor_11 rfl rfl ?_
  refine mr_iload_n C 13 dX3_putDoor_12 rfl rfl ?_
  refine mr_ishl C _ 14 dX3_putDoor_13 rfl rfl ?_
  refine mr_iconst C (-1) 15 dX3_putDoor_14 rfl rfl ?_
  refine mr_ixor C _ 16 dX3_putDoor_15 rfl rfl ?_
  refine mr_iand C _ 17 dX3_putDoor_16 rfl rfl ?_
  refine mr_iload_n C 18 dX3_putDoor_17 rfl rfl ?_
  refine mr_iload_n C 19 dX3_putDoor_18 rfl rfl ?_
  refine mr_ishl C _ 20 dX3_putDoor_19 rfl rfl ?_
  refine mr_ior C _ 21 dX3_putDoor_20 rfl rfl ?_
  refine mr_iast C 2 x 22 dX3_putDoor_21 rfl rfl rfl (by omega) (by decide) ?_
  refine mr_aload_n C 23 dX3_putDoor_22 rfl rfl ?_
  refine mr_get C 0 26 dX3_putDoor_23 rfl fl_X3_15 rfl rfl ?_
  refine mr_iload_n C 27 dX3_putDoor_26 rfl rfl ?_
  refine mr_aload_n C 28 dX3_putDoor_27 rfl rfl ?_
  refine mr_get C 0 31 dX3_putDoor_28 rfl fl_X3_15 rfl rfl ?_
  refine mr_iload_n C 32 dX3_putDoor_31 rfl rfl ?_
  refine mr_iald C 2 y 33 dX3_putDoor_32 rfl rfl rfl (by omega) (by decide) ?_
  refine mr_iconst C (nI 1) 34 dX3_putDoor_33 rfl rfl ?_
  refine mr_iload_n C 35 dX3_putDoor_34 rfl rfl ?_
  refine mr_ishl C _ 36 dX3_putDoor_35 rfl rfl ?_
  refine mr_iconst C (-1) 37 dX3_putDoor_36 rfl rfl ?_
  refine mr_ixor C _ 38 dX3_putDoor_37 rfl rfl ?_
  refine mr_iand C _ 39 dX3_putDoor_38 rfl rfl ?_
  refine mr_iload_n C 40 dX3_putDoor_39 rfl rfl ?_
  refine mr_iload_n C 41 dX3_putDoor_40 rfl rfl ?_
  refine mr_ishl C _ 42 dX3_putDoor_41 rfl rfl ?_
  refine mr_ior C _ 43 dX3_putDoor_42 rfl rfl ?_
  refine mr_iast C 2 y 44 dX3_putDoor_43 rfl rfl rfl (by omega) (by decide) ?_
  refine mr_vret C dX3_putDoor_44 rfl (by decide) (by decide) hlen ?_
  rw [hO]
  exact ⟨rfl, rfl⟩

set_option maxRecDepth 20000 in
set_option maxHeartbeats 4000000 in
theorem c_headsIn (E : EG) (a : Nat → Nat) (b : Nat) (se sn be so lo he inn al go : FN) (ro gn gu gr : Int32) (K : Nat) (hK : K ≤ 5) (x : Int32) : Ctr E mX3_headsIn (1, 0, 0) [.ref (a b), .int x] (wH E a b se sn be so lo he inn al go ro (nI K) gn gu gr) (fun v w => v = some (.int (sumH lo he x K)) ∧ w = wH E a b se sn be so lo he inn al go ro (nI K) gn gu gr) := by
  refine Ctr.of (by decide) (Nat.le_of_ble_eq_true rfl) ?_
  intro Z hO hn C
  have hlen : zn Z ≤ 10 := by rw [hn]; exact Nat.le_of_ble_eq_true rfl
  have L : ∀ i, i ≤ K → V E mX3_headsIn (1, 0, 0) Z 0 0 (wH E a b se sn be so lo he inn al go ro (nI K) gn gu gr) [(0, .ref (a b)), (1, .int x), (2, .int (sumH lo he x i)), (3, .int (nI i))] [] 4 := by
    refine lp_up K ?_
    intro i hi ih
    refine mr_iload_n C 5 dX3_headsIn_4 rfl rfl ?_
    refine mr_aload_n C 6 dX3_headsIn_5 rfl rfl ?_
    refine mr_get C 0 9 dX3_headsIn_6 rfl fl_X3_43 rfl rfl ?_
    refine mr_icmpge C 37 12 dX3_headsIn_9 (by decide) rfl (fun c_9 => ?_) (fun c_9 => ?_)
    · rw [nI_leI (by omega) (by omega)] at c_9
      refine mr_iload_n C 38 dX3_headsIn_37 rfl rfl ?_
      refine mr_iret C dX3_headsIn_38 rfl rfl (by decide) (by decide) hlen ?_
      rw [hO]
      obtain rfl : i = K := by omega
      exact ⟨rfl, rfl⟩
    · rw [nI_leI (by omega) (by omega)] at c_9
      refine mr_aload_n C 13 dX3_headsIn_12 rfl rfl ?_
      refine mr_get C 0 16 dX3_headsIn_13 rfl fl_X3_24 rfl rfl ?_
      refine mr_iload_n C 17 dX3_headsIn_16 rfl rfl ?_
      refine mr_iald C 5 i 18 dX3_headsIn_17 rfl rfl rfl (by omega) (by decide) ?_
      refine mr_iload_n C 19 dX3_headsIn_18 rfl rfl ?_
      refine mr_icmpne C 31 22 dX3_headsIn_19 (by decide) rfl (fun c_19 => ?_) (fun c_19 => ?_)
      · have e : sumH lo he x (i + 1) = sumH lo he x i := if_neg c_19
        rw [e] at ih
        refine mr_iinc C (nI (i + 1)) 34 dX3_headsIn_31 rfl rfl (by decide) (nI_add i 1) ?_
        refine mr_goto C 4 dX3_headsIn_34 (by decide) ?_
        exact mr_at (ih (by omega)) rfl rfl rfl
      · have e : sumH lo he x (i + 1) = sumH lo he x i + he i := if_pos c_19
        rw [e] at ih
        refine mr_iload_n C 23 dX3_headsIn_22 rfl rfl ?_
        refine mr_aload_n C 24 dX3_headsIn_23 rfl rfl ?_
        refine mr_get C 0 27 dX3_headsIn_24 rfl fl_X3_27 rfl rfl ?_
        refine mr_iload_n C 28 dX3_headsIn_27 rfl rfl ?_
        refine mr_iald C 6 i 29 dX3_headsIn_28 rfl rfl rfl (by omega) (by decide) ?_
        refine mr_iadd C _ 30 dX3_headsIn_29 rfl rfl ?_
        refine mr_istore_n C 31 dX3_headsIn_30 rfl rfl (by decide) ?_
        refine mr_iinc C (nI (i + 1)) 34 dX3_headsIn_31 rfl rfl (by decide) (nI_add i 1) ?_
        refine mr_goto C 4 dX3_headsIn_34 (by decide) ?_
        exact mr_at (ih (by omega)) rfl rfl rfl
  refine mr_iconst C (nI 0) 1 dX3_headsIn_0 rfl rfl ?_
  refine mr_istore_n C 2 dX3_headsIn_1 rfl rfl (by decide) ?_
  refine mr_iconst C (nI 0) 3 dX3_headsIn_2 rfl rfl ?_
  refine mr_istore_n C 4 dX3_headsIn_3 rfl rfl (by decide) ?_
  exact mr_at (L 0 (Nat.zero_le _)) rfl rfl rfl

set_option maxRecDepth 20000 in
set_option maxHeartbeats 4000000 in
theorem c_allHeads (E : EG) (a : Nat → Nat) (b : Nat) (se sn be so lo he inn al go : FN) (ro gn gu gr : Int32) (K : Nat) (hK : K ≤ 5) : Ctr E mX3_allHeads (1, 0, 0) [.ref (a b)] (wH E a b se sn be so lo he inn al go ro (nI K) gn gu gr) (fun v w => v = some (.int (sumA he K)) ∧ w = wH E a b se sn be so lo he inn al go ro (nI K) gn gu gr) := by
  refine Ctr.of (by decide) (Nat.le_of_ble_eq_true rfl) ?_
  intro Z hO hn C
  have hlen : zn Z ≤ 10 := by rw [hn]; exact Nat.le_of_ble_eq_true rfl
  have L : ∀ i, i ≤ K → V E mX3_allHeads (1, 0, 0) Z 0 0 (wH E a b se sn be so lo he inn al go ro (nI K) gn gu gr) [(0, .ref (a b)), (1, .int (sumA he i)), (2, .int (nI i))] [] 4 := by
    refine lp_up K ?_
    intro i hi ih
    refine mr_iload_n C 5 dX3_allHeads_4 rfl rfl ?_
    refine mr_aload_n C 6 dX3_allHeads_5 rfl rfl ?_
    refine mr_get C 0 9 dX3_allHeads_6 rfl fl_X3_43 rfl rfl ?_
    refine mr_icmpge C 27 12 dX3_allHeads_9 (by decide) rfl (fun c_9 => ?_) (fun c_9 => ?_)
    · rw [nI_leI (by omega) (by omega)] at c_9
      refine mr_iload_n C 28 dX3_allHeads_27 rfl rfl ?_
      refine mr_iret C dX3_allHeads_28 rfl rfl (by decide) (by decide) hlen ?_
      rw [hO]
      obtain rfl : i = K := by omega
      exact ⟨rfl, rfl⟩
    · rw [nI_leI (by omega) (by omega)] at c_9
      refine mr_iload_n C 13 dX3_allHeads_12 rfl rfl ?_
      refine mr_aload_n C 14 dX3_allHeads_13 rfl rfl ?_
      refine mr_get C 0 17 dX3_allHeads_14 rfl fl_X3_27 rfl rfl ?_
      refine mr_iload_n C 18 dX3_allHeads_17 rfl rfl ?_
      refine mr_iald C 6 i 19 dX3_allHeads_18 rfl rfl rfl (by omega) (by decide) ?_
      refine mr_iadd C _ 20 dX3_allHeads_19 rfl rfl ?_
      refine mr_istore_n C 21 dX3_allHeads_20 rfl rfl (by decide) ?_
      refine mr_iinc C (nI (i + 1)) 24 dX3_allHeads_21 rfl rfl (by decide) (nI_add i 1) ?_
      refine mr_goto C 4 dX3_allHeads_24 (by decide) ?_
      exact mr_at (ih (by omega)) rfl rfl rfl
  refine mr_iconst C (nI 0) 1 dX3_allHeads_0 rfl rfl ?_
  refine mr_istore_n C 2 dX3_allHeads_1 rfl rfl (by decide) ?_
  refine mr_iconst C (nI 0) 3 dX3_allHeads_2 rfl rfl ?_
  refine mr_istore_n C 4 dX3_allHeads_3 rfl rfl (by decide) ?_
  exact mr_at (L 0 (Nat.zero_le _)) rfl rfl rfl
end
section
/-! House: more methods -/
def adH (he : FN) (x : Int32) : FN := fun c => he c + ((x >>> (nI c &&& 31)) &&& nI 1)
set_option maxRecDepth 20000 in
set_option maxHeartbeats 4000000 in
theorem c_addHeads (E : EG) (a : Nat → Nat) (b : Nat) (se sn be so lo he inn al go : FN) (ro gn gu gr : Int32) (K : Nat) (hK : K ≤ 5) (x : Int32) : Ctr E mX3_addHeads (1, 0, 0) [.ref (a b), .int x] (wH E a b se sn be so lo he inn al go ro (nI K) gn gu gr) (fun v w => ∃ f : FN, v = none ∧ w = wH E a b se sn be so lo f inn al go ro (nI K) gn gu gr ∧ ∀ j, j < K → f j = adH he x j) := by
  refine Ctr.of (by decide) (Nat.le_of_ble_eq_true rfl) ?_
  intro Z hO hn C
  have hlen : zn Z ≤ 10 := by rw [hn]; exact Nat.le_of_ble_eq_true rfl
  have L : ∀ i, i ≤ K → ∀ f : FN, (∀ j, j < 5 → f j = if j < i then adH he x j else he j) → V E mX3_addHeads (1, 0, 0) Z 0 0 (wH E a b se sn be so lo f inn al go ro (nI K) gn gu gr) [(0, .ref (a b)), (1, .int x), (2, .int (nI i))] [] 2 := by
    refine lp_up K ?_
    intro i hi ih f hf
    refine mr_iload_n C 3 dX3_addHeads_2 rfl rfl ?_
    refine mr_aload_n C 4 dX3_addHeads_3 rfl rfl ?_
    refine mr_get C 0 7 dX3_addHeads_4 rfl fl_X3_43 rfl rfl ?_
    refine mr_icmpge C 30 10 dX3_addHeads_7 (by decide) rfl (fun c_7 => ?_) (fun c_7 => ?_)
    · rw [nI_leI (by omega) (by omega)] at c_7
      refine mr_vret C dX3_addHeads_30 rfl (by decide) (by decide) hlen ?_
      rw [hO]
      obtain rfl : i = K := by omega
      exact ⟨f, rfl, rfl, fun j hj => by rw [hf j (by omega), if_pos hj]⟩
    · rw [nI_leI (by omega) (by omega)] at c_7
      refine mr_aload_n C 11 dX3_addHeads_10 rfl rfl ?_
      refine mr_get C 0 14 dX3_addHeads_11 rfl fl_X3_27 rfl rfl ?_
      refine mr_iload_n C 15 dX3_addHeads_14 rfl rfl ?_
      refine mr_dup2 C 16 dX3_addHeads_15 rfl rfl rfl ?_
      refine mr_iald C 6 i 17 dX3_addHeads_16 rfl rfl rfl (by omega) (by decide) ?_
      refine mr_iload_n C 18 dX3_addHeads_17 rfl rfl ?_
      refine mr_iload_n C 19 dX3_addHeads_18 rfl rfl ?_
      refine mr_ishr C _ 20 dX3_addHeads_19 rfl rfl ?_
      refine mr_iconst C (nI 1) 21 dX3_addHeads_20 rfl rfl ?_
      refine mr_iand C _ 22 dX3_addHeads_21 rfl rfl ?_
      refine mr_iadd C _ 23 dX3_addHeads_22 rfl rfl ?_
      refine mr_iast C 6 i 24 dX3_addHeads_23 rfl rfl rfl (by omega) (by decide) ?_
      refine mr_iinc C (nI (i + 1)) 27 dX3_addHeads_24 rfl rfl (by decide) (nI_add i 1) ?_
      refine mr_goto C 2 dX3_addHeads_27 (by decide) ?_
      refine mr_at (ih (by omega) _ ?_) rfl rfl rfl
      intro j hj
      rw [up_at, hf i (by omega), if_neg (by omega : ¬ i < i)]
      by_cases e : j = i
      · subst e
        rw [if_pos rfl, if_pos (by omega)]
        rfl
      · rw [if_neg e, hf j hj]
        by_cases e2 : j < i
        · rw [if_pos e2, if_pos (by omega)]
        · rw [if_neg e2, if_neg (by omega)]
  refine mr_iconst C (nI 0) 1 dX3_addHeads_0 rfl rfl ?_
  refine mr_istore_n C 2 dX3_addHeads_1 rfl rfl (by decide) ?_
  exact mr_at (L 0 (Nat.zero_le _) he (fun j _ => rfl)) rfl rfl rfl

set_option maxRecDepth 20000 in
set_option maxHeartbeats 4000000 in
theorem c_hire (E : EG) (a : Nat → Nat) (b : Nat) (se sn be so lo he inn al go : FN) (ro cr gn gu gr : Int32) (x : Int32) (g : Nat) (hg : g < 6) : Ctr E mX3_hire (1, 0, 0) [.ref (a b), .int x, .int (nI g)] (wH E a b se sn be so lo he inn al go ro cr gn gu gr) (fun v w => v = none ∧ w = wH E a b se sn (upd be g (be g + x)) so lo he inn al go ro cr gn x (nI g)) := by
  refine Ctr.of (by decide) (Nat.le_of_ble_eq_true rfl) ?_
  intro Z hO hn C
  have hlen : zn Z ≤ 10 := by rw [hn]; exact Nat.le_of_ble_eq_true rfl
  refine mr_aload_n C 1 dX3_hire_0 rfl rfl ?_
  refine mr_iload_n C 2 dX3_hire_1 rfl rfl ?_
  refine mr_put C 0 5 dX3_hire_2 rfl fs_X3_49 rfl rfl rfl (Nat.le_of_ble_eq_true rfl) ?_
  refine mr_aload_n C 6 dX3_hire_5 rfl rfl ?_
  refine mr_iload_n C 7 dX3_hire_6 rfl rfl ?_
  refine mr_put C 0 10 dX3_hire_7 rfl fs_X3_58 rfl rfl rfl (Nat.le_of_ble_eq_true rfl) ?_
  refine mr_aload_n C 11 dX3_hire_10 rfl rfl ?_
  refine mr_get C 0 14 dX3_hire_11 rfl fl_X3_18 rfl rfl ?_
  refine mr_iload_n C 15 dX3_hire_14 rfl rfl ?_
  refine mr_dup2 C 16 dX3_hire_15 rfl rfl rfl ?_
  refine mr_iald C 3 g 17 dX3_hire_16 rfl rfl rfl (by omega) (by decide) ?_
  refine mr_iload_n C 18 dX3_hire_17 rfl rfl ?_
  refine mr_iadd C _ 19 dX3_hire_18 rfl rfl ?_
  refine mr_iast C 3 g 20 dX3_hire_19 rfl rfl rfl (by omega) (by decide) ?_
  refine mr_vret C dX3_hire_20 rfl (by decide) (by decide) hlen ?_
  rw [hO]
  exact ⟨rfl, rfl⟩

set_option maxRecDepth 20000 in
set_option maxHeartbeats 4000000 in
theorem c_clear (E : EG) (a : Nat → Nat) (b : Nat) (se sn be so lo he inn al go : FN) (ro cr gn gu gr : Int32) : Ctr E mX3_clear (1, 0, 0) [.ref (a b)] (wH E a b se sn be so lo he inn al go ro cr gn gu gr) (fun v w => ∃ f : FN, v = none ∧ w = wH E a b se f be so lo he inn al go (nI 0) (nI 0) gn gu gr ∧ ∀ j, j < 6 → f j = nI 0) := by
  refine Ctr.of (by decide) (Nat.le_of_ble_eq_true rfl) ?_
  intro Z hO hn C
  have hlen : zn Z ≤ 10 := by rw [hn]; exact Nat.le_of_ble_eq_true rfl
  have L : ∀ i, i ≤ 6 → ∀ f : FN, (∀ j, j < i → f j = nI 0) → V E mX3_clear (1, 0, 0) Z 0 0 (wH E a b se f be so lo he inn al go (nI 0) (nI 0) gn gu gr) [(0, .ref (a b)), (1, .int (nI i))] [] 12 := by
    refine lp_up 6 ?_
    intro i hi ih f hf
    refine mr_iload_n C 13 dX3_clear_12 rfl rfl ?_
    refine mr_bipush C (nI 6) 15 dX3_clear_13 rfl rfl ?_
    refine mr_icmpge C 31 18 dX3_clear_15 (by decide) rfl (fun c_15 => ?_) (fun c_15 => ?_)
    · rw [nI_leI (by omega) (by omega)] at c_15
      refine mr_vret C dX3_clear_31 rfl (by decide) (by decide) hlen ?_
      rw [hO]
      exact ⟨f, rfl, rfl, fun j hj => hf j (by omega)⟩
    · rw [nI_leI (by omega) (by omega)] at c_15
      refine mr_aload_n C 19 dX3_clear_18 rfl rfl ?_
      refine mr_get C 0 22 dX3_clear_19 rfl fl_X3_15 rfl rfl ?_
      refine mr_iload_n C 23 dX3_clear_22 rfl rfl ?_
      refine mr_iconst C (nI 0) 24 dX3_clear_23 rfl rfl ?_
      refine mr_iast C 2 i 25 dX3_clear_24 rfl rfl rfl (by omega) (by decide) ?_
      refine mr_iinc C (nI (i + 1)) 28 dX3_clear_25 rfl rfl (by decide) (nI_add i 1) ?_
      refine mr_goto C 12 dX3_clear_28 (by decide) ?_
      refine mr_at (ih (by omega) _ ?_) rfl rfl rfl
      intro j hj
      rw [up_at]
      by_cases e : j = i
      · rw [if_pos e]
      · rw [if_neg e]; exact hf j (by omega)
  refine mr_aload_n C 1 dX3_clear_0 rfl rfl ?_
  refine mr_iconst C (nI 0) 2 dX3_clear_1 rfl rfl ?_
  refine mr_put C 0 5 dX3_clear_2 rfl fs_X3_39 rfl rfl rfl (Nat.le_of_ble_eq_true rfl) ?_
  refine mr_aload_n C 6 dX3_clear_5 rfl rfl ?_
  refine mr_iconst C (nI 0) 7 dX3_clear_6 rfl rfl ?_
  refine mr_put C 0 10 dX3_clear_7 rfl fs_X3_43 rfl rfl rfl (Nat.le_of_ble_eq_true rfl) ?_
  refine mr_iconst C (nI 0) 11 dX3_clear_10 rfl rfl ?_
  refine mr_istore_n C 12 dX3_clear_11 rfl rfl (by decide) ?_
  exact mr_at (L 0 (Nat.zero_le _) sn (fun j h => absurd h (Nat.not_lt_zero j))) rfl rfl rfl

set_option maxRecDepth 20000 in
set_option maxHeartbeats 4000000 in
theorem c_countHeads (E : EG) (a : Nat → Nat) (b : Nat) (se sn be so lo he inn al go : FN) (ro gn gu : Int32) (K g : Nat) (l : Nat → Nat) (hK : K ≤ 5) (hg : g < 6) (hlo : ∀ c, c < K → lo c = nI (l c) ∧ l c < 6) : Ctr E mX3_countHeads (1, 0, 0) [.ref (a b)] (wH E a b se sn be so lo he inn al go ro (nI K) gn gu (nI g)) (fun v w => ∃ f1 f2 : FN, v = none ∧ w = wH E a b se sn be so lo he f1 f2 go ro (nI K) gn gu (nI g) ∧ Ag 6 f1 (cntS (gst gu g) l he K) ∧ Ag 6 f2 (cntS (fun _ => nI 0) l (hLike so he) K)) := by
  refine Ctr.of (by decide) (Nat.le_of_ble_eq_true rfl) ?_
  intro Z hO hn C
  have hlen : zn Z ≤ 10 := by rw [hn]; exact Nat.le_of_ble_eq_true rfl
  have L2 : ∀ i, i ≤ K → ∀ f1 f2 : FN, Ag 6 f1 (cntS (gst gu g) l he i) → Ag 6 f2 (cntS (fun _ => nI 0) l (hLike so he) i) → V E mX3_countHeads (1, 0, 0) Z 0 0 (wH E a b se sn be so lo he f1 f2 go ro (nI K) gn gu (nI g)) [(0, .ref (a b)), (1, .int (nI i))] [] 46 := by
    refine lp_up K ?_
    intro i hi ih f1 f2 hf1 hf2
    refine mr_iload_n C 47 dX3_countHeads_46 rfl rfl ?_
    refine mr_aload_n C 48 dX3_countHeads_47 rfl rfl ?_
    refine mr_get C 0 51 dX3_countHeads_48 rfl fl_X3_43 rfl rfl ?_
    refine mr_icmpge C 110 54 dX3_countHeads_51 (by decide) rfl (fun c_51 => ?_) (fun c_51 => ?_)
    · rw [nI_leI (by omega) (by omega)] at c_51
      refine mr_vret C dX3_countHeads_110 rfl (by decide) (by decide) hlen ?_
      rw [hO]
      obtain rfl : i = K := by omega
      exact ⟨f1, f2, rfl, rfl, hf1, hf2⟩
    · rw [nI_leI (by omega) (by omega)] at c_51
      refine mr_aload_n C 55 dX3_countHeads_54 rfl rfl ?_
      refine mr_get C 0 58 dX3_countHeads_55 rfl fl_X3_30 rfl rfl ?_
      refine mr_aload_n C 59 dX3_countHeads_58 rfl rfl ?_
      refine mr_get C 0 62 dX3_countHeads_59 rfl fl_X3_24 rfl rfl ?_
      refine mr_iload_n C 63 dX3_countHeads_62 rfl rfl ?_
      refine mr_iald C 5 i 64 dX3_countHeads_63 rfl rfl rfl (by omega) (by decide) ?_
      refine mr_dup2 C 65 dX3_countHeads_64 rfl rfl rfl ?_
      refine mr_iald C 7 (l i) 66 dX3_countHeads_65 rfl rfl (hlo i (by omega)).1 (hlo i (by omega)).2 (by decide) ?_
      refine mr_aload_n C 67 dX3_countHeads_66 rfl rfl ?_
      refine mr_get C 0 70 dX3_countHeads_67 rfl fl_X3_27 rfl rfl ?_
      refine mr_iload_n C 71 dX3_countHeads_70 rfl rfl ?_
      refine mr_iald C 6 i 72 dX3_countHeads_71 rfl rfl rfl (by omega) (by decide) ?_
      refine mr_iadd C _ 73 dX3_countHeads_72 rfl rfl ?_
      refine mr_iast C 7 (l i) 74 dX3_countHeads_73 rfl rfl (hlo i (by omega)).1 (hlo i (by omega)).2 (by decide) ?_
      refine mr_aload_n C 75 dX3_countHeads_74 rfl rfl ?_
      refine mr_get C 0 78 dX3_countHeads_75 rfl fl_X3_21 rfl rfl ?_
      refine mr_iload_n C 79 dX3_countHeads_78 rfl rfl ?_
      refine mr_iald C 4 i 80 dX3_countHeads_79 rfl rfl rfl (by omega) (by decide) ?_
      refine mr_iconst C (nI 2) 81 dX3_countHeads_80 rfl rfl ?_
      refine mr_icmpne C 104 84 dX3_countHeads_81 (by decide) rfl (fun c_81 => ?_) (fun c_81 => ?_)
      · have hL : hLike so he i = 0 := if_neg c_81
        refine mr_iinc C (nI (i + 1)) 107 dX3_countHeads_104 rfl rfl (by decide) (nI_add i 1) ?_
        refine mr_goto C 46 dX3_countHeads_107 (by decide) ?_
        refine mr_at (ih (by omega) _ _ ?_ ?_) rfl rfl rfl
        · exact cntS_up hf1 rfl (hlo i (by omega)).2
        · exact cntS_0 hf2 hL
      · have hL : hLike so he i = he i := if_pos c_81
        refine mr_aload_n C 85 dX3_countHeads_84 rfl rfl ?_
        refine mr_get C 0 88 dX3_countHeads_85 rfl fl_X3_33 rfl rfl ?_
        refine mr_aload_n C 89 dX3_countHeads_88 rfl rfl ?_
        refine mr_get C 0 92 dX3_countHeads_89 rfl fl_X3_24 rfl rfl ?_
        refine mr_iload_n C 93 dX3_countHeads_92 rfl rfl ?_
        refine mr_iald C 5 i 94 dX3_countHeads_93 rfl rfl rfl (by omega) (by decide) ?_
        refine mr_dup2 C 95 dX3_countHeads_94 rfl rfl rfl ?_
        refine mr_iald C 8 (l i) 96 dX3_countHeads_95 rfl rfl (hlo i (by omega)).1 (hlo i (by omega)).2 (by decide) ?_
        refine mr_aload_n C 97 dX3_countHeads_96 rfl rfl ?_
        refine mr_get C 0 100 dX3_countHeads_97 rfl fl_X3_27 rfl rfl ?_
        refine mr_iload_n C 101 dX3_countHeads_100 rfl rfl ?_
        refine mr_iald C 6 i 102 dX3_countHeads_101 rfl rfl rfl (by omega) (by decide) ?_
        refine mr_iadd C _ 103 dX3_countHeads_102 rfl rfl ?_
        refine mr_iast C 8 (l i) 104 dX3_countHeads_103 rfl rfl (hlo i (by omega)).1 (hlo i (by omega)).2 (by decide) ?_
        refine mr_iinc C (nI (i + 1)) 107 dX3_countHeads_104 rfl rfl (by decide) (nI_add i 1) ?_
        refine mr_goto C 46 dX3_countHeads_107 (by decide) ?_
        refine mr_at (ih (by omega) _ _ ?_ ?_) rfl rfl rfl
        · exact cntS_up hf1 rfl (hlo i (by omega)).2
        · exact cntS_up hf2 (by rw [hL]) (hlo i (by omega)).2
  have L1 : ∀ i, i ≤ 6 → ∀ f1 f2 : FN, (∀ j, j < i → f1 j = nI 0 ∧ f2 j = nI 0) → V E mX3_countHeads (1, 0, 0) Z 0 0 (wH E a b se sn be so lo he f1 f2 go ro (nI K) gn gu (nI g)) [(0, .ref (a b)), (1, .int (nI i))] [] 2 := by
    refine lp_up 6 ?_
    intro i hi ih f1 f2 hf
    refine mr_iload_n C 3 dX3_countHeads_2 rfl rfl ?_
    refine mr_bipush C (nI 6) 5 dX3_countHeads_3 rfl rfl ?_
    refine mr_icmpge C 28 8 dX3_countHeads_5 (by decide) rfl (fun c_5 => ?_) (fun c_5 => ?_)
    · rw [nI_leI (by omega) (by omega)] at c_5
      refine mr_aload_n C 29 dX3_countHeads_28 rfl rfl ?_
      refine mr_get C 0 32 dX3_countHeads_29 rfl fl_X3_30 rfl rfl ?_
      refine mr_aload_n C 33 dX3_countHeads_32 rfl rfl ?_
      refine mr_get C 0 36 dX3_countHeads_33 rfl fl_X3_58 rfl rfl ?_
      refine mr_dup2 C 37 dX3_countHeads_36 rfl rfl rfl ?_
      refine mr_iald C 7 g 38 dX3_countHeads_37 rfl rfl rfl (by omega) (by decide) ?_
      refine mr_aload_n C 39 dX3_countHeads_38 rfl rfl ?_
      refine mr_get C 0 42 dX3_countHeads_39 rfl fl_X3_49 rfl rfl ?_
      refine mr_iadd C _ 43 dX3_countHeads_42 rfl rfl ?_
      refine mr_iast C 7 g 44 dX3_countHeads_43 rfl rfl rfl (by omega) (by decide) ?_
      refine mr_iconst C (nI 0) 45 dX3_countHeads_44 rfl rfl ?_
      refine mr_istore_n C 46 dX3_countHeads_45 rfl rfl (by decide) ?_
      obtain rfl : i = 6 := by omega
      refine mr_at (L2 0 (Nat.zero_le _) _ f2 ?_ (fun j hj => (hf j hj).2)) rfl rfl rfl
      intro j hj
      rw [up_at]
      show _ = gst gu g j
      unfold gst
      by_cases e : j = g
      · rw [if_pos e, if_pos e, (hf g hg).1]
        exact Int32.zero_add _
      · rw [if_neg e, if_neg e]; exact (hf j hj).1
    · rw [nI_leI (by omega) (by omega)] at c_5
      refine mr_aload_n C 9 dX3_countHeads_8 rfl rfl ?_
      refine mr_get C 0 12 dX3_countHeads_9 rfl fl_X3_30 rfl rfl ?_
      refine mr_iload_n C 13 dX3_countHeads_12 rfl rfl ?_
      refine mr_iconst C (nI 0) 14 dX3_countHeads_13 rfl rfl ?_
      refine mr_iast C 7 i 15 dX3_countHeads_14 rfl rfl rfl (by omega) (by decide) ?_
      refine mr_aload_n C 16 dX3_countHeads_15 rfl rfl ?_
      refine mr_get C 0 19 dX3_countHeads_16 rfl fl_X3_33 rfl rfl ?_
      refine mr_iload_n C 20 dX3_countHeads_19 rfl rfl ?_
      refine mr_iconst C (nI 0) 21 dX3_countHeads_20 rfl rfl ?_
      refine mr_iast C 8 i 22 dX3_countHeads_21 rfl rfl rfl (by omega) (by decide) ?_
      refine mr_iinc C (nI (i + 1)) 25 dX3_countHeads_22 rfl rfl (by decide) (nI_add i 1) ?_
      refine mr_goto C 2 dX3_countHeads_25 (by decide) ?_
      refine mr_at (ih (by omega) _ _ ?_) rfl rfl rfl
      intro j hj
      rw [up_at, up_at]
      by_cases e : j = i
      · rw [if_pos e, if_pos e]; exact ⟨rfl, rfl⟩
      · rw [if_neg e, if_neg e]; exact hf j (by omega)
  refine mr_iconst C (nI 0) 1 dX3_countHeads_0 rfl rfl ?_
  refine mr_istore_n C 2 dX3_countHeads_1 rfl rfl (by decide) ?_
  exact mr_at (L1 0 (Nat.zero_le _) inn al (fun j h => absurd h (Nat.not_lt_zero j))) rfl rfl rfl

set_option maxRecDepth 20000 in
set_option maxHeartbeats 4000000 in
theorem c_goalOf (E : EG) (a : Nat → Nat) (b : Nat) (se sn be so lo he inn al go : FN) (cr gu gr : Int32) (R G c own : Nat) (hR : R ≤ 6) (hG : G < 2 ^ 30) (hc : c < 5) (ho : own < 6) (ho2 : lo c = nI own) : Ctr E mX3_goalOf (1, 0, 0) [.ref (a b), .int (nI c)] (wH E a b se sn be so lo he inn al go (nI R) cr (nI G) gu gr) (fun v w => v = some (.int (nI (goalS (drawS inn al be G (so c)) (sn own) (so c) own R))) ∧ w = wH E a b se sn be so lo he inn al go (nI R) cr (nI G) gu gr) := by
  refine Ctr.of (by decide) (Nat.le_of_ble_eq_true rfl) ?_
  intro Z hO hn C
  have hlen : zn Z ≤ 10 := by rw [hn]; exact Nat.le_of_ble_eq_true rfl
  have L : ∀ (p : Nat) (f D : FN) (s : Int32), (wH E a b se sn be so lo he inn al go (nI R) cr (nI G) gu gr)[p]? = some (a (b + p), iA E 6 f) → (∀ r, r < 6 → s * f r = D r) → D = drawS inn al be G (so c) → ¬ so c = nI 4 → ∀ i, i ≤ R → V E mX3_goalOf (1, 0, 0) Z 0 0 (wH E a b se sn be so lo he inn al go (nI R) cr (nI G) gu gr) [(0, .ref (a b)), (1, .int (nI c)), (2, .int (nI own)), (3, .int (so c)), (4, .ref (a (b + p))), (5, .int s), (6, .int (nI (bestS D (sn own) own i))), (7, .int (nI i))] [] 76 := by
    intro p f D s hp hD hDe hk
    refine lp_up R ?_
    intro i hi ih
    refine mr_iload C 78 dX3_goalOf_76 rfl rfl ?_
    refine mr_aload_n C 79 dX3_goalOf_78 rfl rfl ?_
    refine mr_get C 0 82 dX3_goalOf_79 rfl fl_X3_39 rfl rfl ?_
    refine mr_icmpge C 129 85 dX3_goalOf_82 (by decide) rfl (fun c_82 => ?_) (fun c_82 => ?_)
    · rw [nI_leI (by omega) (by omega)] at c_82
      refine mr_iload C 131 dX3_goalOf_129 rfl rfl ?_
      refine mr_iret C dX3_goalOf_131 rfl rfl (by decide) (by decide) hlen ?_
      rw [hO]
      obtain rfl : i = R := by omega
      exact ⟨congrArg (fun z => some (Value.int (nI z))) (by rw [hDe]; exact (if_neg hk).symm), rfl⟩
    · rw [nI_leI (by omega) (by omega)] at c_82
      refine mr_aload_n C 86 dX3_goalOf_85 rfl rfl ?_
      refine mr_get C 0 89 dX3_goalOf_86 rfl fl_X3_15 rfl rfl ?_
      refine mr_iload_n C 90 dX3_goalOf_89 rfl rfl ?_
      refine mr_iald C 2 own 91 dX3_goalOf_90 rfl rfl rfl (by omega) (by decide) ?_
      refine mr_iload C 93 dX3_goalOf_91 rfl rfl ?_
      refine mr_ishr C _ 94 dX3_goalOf_93 rfl rfl ?_
      refine mr_iconst C (nI 1) 95 dX3_goalOf_94 rfl rfl ?_
      refine mr_iand C _ 96 dX3_goalOf_95 rfl rfl ?_
      refine mr_iconst C (nI 1) 97 dX3_goalOf_96 rfl rfl ?_
      refine mr_icmpne C 123 100 dX3_goalOf_97 (by decide) rfl (fun c_97 => ?_) (fun c_97 => ?_)
      · have e : bestS D (sn own) own (i + 1) = bestS D (sn own) own i := if_neg (fun h => c_97 h.1)
        rw [e] at ih
        refine mr_iinc C (nI (i + 1)) 126 dX3_goalOf_123 rfl rfl (by decide) (nI_add i 1) ?_
        refine mr_goto C 76 dX3_goalOf_126 (by decide) ?_
        exact mr_at (ih (by omega)) rfl rfl rfl
      · refine mr_iload C 102 dX3_goalOf_100 rfl rfl ?_
        refine mr_aload C 104 dX3_goalOf_102 rfl rfl ?_
        refine mr_iload C 106 dX3_goalOf_104 rfl rfl ?_
        refine mr_iald C p i 107 dX3_goalOf_106 rfl hp rfl (by omega) (by decide) ?_
        refine mr_imul C _ 108 dX3_goalOf_107 rfl rfl ?_
        refine mr_iload C 110 dX3_goalOf_108 rfl rfl ?_
        refine mr_aload C 112 dX3_goalOf_110 rfl rfl ?_
        refine mr_iload C 114 dX3_goalOf_112 rfl rfl ?_
        refine mr_iald C p (bestS D (sn own) own i) 115 dX3_goalOf_114 rfl hp rfl (bestS_lt i ho (by omega)) (by decide) ?_
        refine mr_imul C _ 116 dX3_goalOf_115 rfl rfl ?_
        refine mr_icmple C 123 119 dX3_goalOf_116 (by decide) rfl (fun c_116 => ?_) (fun c_116 => ?_)
        · rw [hD i (by omega), hD _ (bestS_lt i ho (by omega))] at c_116
          have e : bestS D (sn own) own (i + 1) = bestS D (sn own) own i := if_neg (fun h => (Int32.not_lt.mpr c_116) h.2)
          rw [e] at ih
          refine mr_iinc C (nI (i + 1)) 126 dX3_goalOf_123 rfl rfl (by decide) (nI_add i 1) ?_
          refine mr_goto C 76 dX3_goalOf_126 (by decide) ?_
          exact mr_at (ih (by omega)) rfl rfl rfl
        · rw [hD i (by omega), hD _ (bestS_lt i ho (by omega))] at c_116
          have e : bestS D (sn own) own (i + 1) = i := if_pos ⟨c_97, Int32.not_le.mp c_116⟩
          rw [e] at ih
          refine mr_iload C 121 dX3_goalOf_119 rfl rfl ?_
          refine mr_istore C 123 dX3_goalOf_121 rfl (by decide) ?_
          refine mr_iinc C (nI (i + 1)) 126 dX3_goalOf_123 rfl rfl (by decide) (nI_add i 1) ?_
          refine mr_goto C 76 dX3_goalOf_126 (by decide) ?_
          exact mr_at (ih (by omega)) rfl rfl rfl
  refine mr_aload_n C 1 dX3_goalOf_0 rfl rfl ?_
  refine mr_get C 0 4 dX3_goalOf_1 rfl fl_X3_24 rfl rfl ?_
  refine mr_iload_n C 5 dX3_goalOf_4 rfl rfl ?_
  refine mr_iald C 5 c 6 dX3_goalOf_5 rfl rfl rfl (by omega) (by decide) ?_
  rw [ho2]
  refine mr_istore_n C 7 dX3_goalOf_6 rfl rfl (by decide) ?_
  refine mr_aload_n C 8 dX3_goalOf_7 rfl rfl ?_
  refine mr_get C 0 11 dX3_goalOf_8 rfl fl_X3_21 rfl rfl ?_
  refine mr_iload_n C 12 dX3_goalOf_11 rfl rfl ?_
  refine mr_iald C 4 c 13 dX3_goalOf_12 rfl rfl rfl (by omega) (by decide) ?_
  refine mr_istore_n C 14 dX3_goalOf_13 rfl rfl (by decide) ?_
  refine mr_iload_n C 15 dX3_goalOf_14 rfl rfl ?_
  refine mr_iconst C (nI 4) 16 dX3_goalOf_15 rfl rfl ?_
  refine mr_icmpne C 21 19 dX3_goalOf_16 (by decide) rfl (fun c_16 => ?_) (fun c_16 => ?_)
  · refine mr_iload_n C 22 dX3_goalOf_21 rfl rfl ?_
    refine mr_iconst C (nI 2) 23 dX3_goalOf_22 rfl rfl ?_
    refine mr_icmpne C 33 26 dX3_goalOf_23 (by decide) rfl (fun c_23 => ?_) (fun c_23 => ?_)
    · refine mr_iload_n C 34 dX3_goalOf_33 rfl rfl ?_
      refine mr_iconst C (nI 3) 35 dX3_goalOf_34 rfl rfl ?_
      refine mr_icmpne C 52 38 dX3_goalOf_35 (by decide) rfl (fun c_35 => ?_) (fun c_35 => ?_)
      · refine mr_aload_n C 53 dX3_goalOf_52 rfl rfl ?_
        refine mr_get C 0 56 dX3_goalOf_53 rfl fl_X3_30 rfl rfl ?_
        refine mr_astore C 58 dX3_goalOf_56 rfl (by decide) ?_
        refine mr_iload_n C 59 dX3_goalOf_58 rfl rfl ?_
        refine mr_iconst C (nI 5) 60 dX3_goalOf_59 rfl rfl ?_
        refine mr_icmpne C 67 63 dX3_goalOf_60 (by decide) rfl (fun c_60 => ?_) (fun c_60 => ?_)
        · refine mr_iconst C (nI 1) 68 dX3_goalOf_67 rfl rfl ?_
          refine mr_istore C 70 dX3_goalOf_68 rfl (by decide) ?_
          refine mr_iload_n C 71 dX3_goalOf_70 rfl rfl ?_
          refine mr_istore C 73 dX3_goalOf_71 rfl (by decide) ?_
          refine mr_iconst C (nI 0) 74 dX3_goalOf_73 rfl rfl ?_
          refine mr_istore C 76 dX3_goalOf_74 rfl (by decide) ?_
          exact mr_at (L 7 inn inn _ rfl (fun r _ => one_mul32 _) (by funext r; exact ((if_neg c_23).trans ((if_neg (fun h => c_35 h.1)).trans (if_neg c_60))).symm) c_16 0 (Nat.zero_le _)) rfl rfl rfl
        · refine mr_iconst C (-1) 64 dX3_goalOf_63 rfl rfl ?_
          refine mr_goto C 68 dX3_goalOf_64 (by decide) ?_
          refine mr_istore C 70 dX3_goalOf_68 rfl (by decide) ?_
          refine mr_iload_n C 71 dX3_goalOf_70 rfl rfl ?_
          refine mr_istore C 73 dX3_goalOf_71 rfl (by decide) ?_
          refine mr_iconst C (nI 0) 74 dX3_goalOf_73 rfl rfl ?_
          refine mr_istore C 76 dX3_goalOf_74 rfl (by decide) ?_
          exact mr_at (L 7 inn (fun r => - inn r) _ rfl (fun r _ => neg_one_mul32 _) (by funext r; exact ((if_neg c_23).trans ((if_neg (fun h => c_35 h.1)).trans (if_pos c_60))).symm) c_16 0 (Nat.zero_le _)) rfl rfl rfl
      · refine mr_aload_n C 39 dX3_goalOf_38 rfl rfl ?_
        refine mr_get C 0 42 dX3_goalOf_39 rfl fl_X3_46 rfl rfl ?_
        refine mr_ifle C 52 45 dX3_goalOf_42 (by decide) rfl (fun c_42 => ?_) (fun c_42 => ?_)
        · have c_42 : ¬ 0 < G := fun h => absurd c_42 (Int32.not_le.mpr (nI_lt h (by omega)))
          refine mr_aload_n C 53 dX3_goalOf_52 rfl rfl ?_
          refine mr_get C 0 56 dX3_goalOf_53 rfl fl_X3_30 rfl rfl ?_
          refine mr_astore C 58 dX3_goalOf_56 rfl (by decide) ?_
          refine mr_iload_n C 59 dX3_goalOf_58 rfl rfl ?_
          refine mr_iconst C (nI 5) 60 dX3_goalOf_59 rfl rfl ?_
          refine mr_icmpne C 67 63 dX3_goalOf_60 (by decide) rfl (fun c_60 => ?_) (fun c_60 => ?_)
          · refine mr_iconst C (nI 1) 68 dX3_goalOf_67 rfl rfl ?_
            refine mr_istore C 70 dX3_goalOf_68 rfl (by decide) ?_
            refine mr_iload_n C 71 dX3_goalOf_70 rfl rfl ?_
            refine mr_istore C 73 dX3_goalOf_71 rfl (by decide) ?_
            refine mr_iconst C (nI 0) 74 dX3_goalOf_73 rfl rfl ?_
            refine mr_istore C 76 dX3_goalOf_74 rfl (by decide) ?_
            exact mr_at (L 7 inn inn _ rfl (fun r _ => one_mul32 _) (by funext r; exact ((if_neg c_23).trans ((if_neg (fun h => c_42 h.2)).trans (if_neg c_60))).symm) c_16 0 (Nat.zero_le _)) rfl rfl rfl
          · refine mr_iconst C (-1) 64 dX3_goalOf_63 rfl rfl ?_
            refine mr_goto C 68 dX3_goalOf_64 (by decide) ?_
            refine mr_istore C 70 dX3_goalOf_68 rfl (by decide) ?_
            refine mr_iload_n C 71 dX3_goalOf_70 rfl rfl ?_
            refine mr_istore C 73 dX3_goalOf_71 rfl (by decide) ?_
            refine mr_iconst C (nI 0) 74 dX3_goalOf_73 rfl rfl ?_
            refine mr_istore C 76 dX3_goalOf_74 rfl (by decide) ?_
            exact absurd (c_35.symm.trans c_60) (by decide)
        · have c_42 : 0 < G := by
            rcases Nat.eq_zero_or_pos G with h | h
            · subst h; exact absurd (Int32.le_refl _) c_42
            · exact h
          refine mr_aload_n C 46 dX3_goalOf_45 rfl rfl ?_
          refine mr_get C 0 49 dX3_goalOf_46 rfl fl_X3_18 rfl rfl ?_
          refine mr_goto C 56 dX3_goalOf_49 (by decide) ?_
          refine mr_astore C 58 dX3_goalOf_56 rfl (by decide) ?_
          refine mr_iload_n C 59 dX3_goalOf_58 rfl rfl ?_
          refine mr_iconst C (nI 5) 60 dX3_goalOf_59 rfl rfl ?_
          refine mr_icmpne C 67 63 dX3_goalOf_60 (by decide) rfl (fun c_60 => ?_) (fun c_60 => ?_)
          · refine mr_iconst C (nI 1) 68 dX3_goalOf_67 rfl rfl ?_
            refine mr_istore C 70 dX3_goalOf_68 rfl (by decide) ?_
            refine mr_iload_n C 71 dX3_goalOf_70 rfl rfl ?_
            refine mr_istore C 73 dX3_goalOf_71 rfl (by decide) ?_
            refine mr_iconst C (nI 0) 74 dX3_goalOf_73 rfl rfl ?_
            refine mr_istore C 76 dX3_goalOf_74 rfl (by decide) ?_
            exact mr_at (L 3 be be _ rfl (fun r _ => one_mul32 _) (by funext r; exact ((if_neg c_23).trans (if_pos ⟨c_35, c_42⟩)).symm) c_16 0 (Nat.zero_le _)) rfl rfl rfl
          · refine mr_iconst C (-1) 64 dX3_goalOf_63 rfl rfl ?_
            refine mr_goto C 68 dX3_goalOf_64 (by decide) ?_
            refine mr_istore C 70 dX3_goalOf_68 rfl (by decide) ?_
            refine mr_iload_n C 71 dX3_goalOf_70 rfl rfl ?_
            refine mr_istore C 73 dX3_goalOf_71 rfl (by decide) ?_
            refine mr_iconst C (nI 0) 74 dX3_goalOf_73 rfl rfl ?_
            refine mr_istore C 76 dX3_goalOf_74 rfl (by decide) ?_
            exact absurd (c_35.symm.trans c_60) (by decide)
    · refine mr_aload_n C 27 dX3_goalOf_26 rfl rfl ?_
      refine mr_get C 0 30 dX3_goalOf_27 rfl fl_X3_33 rfl rfl ?_
      refine mr_goto C 56 dX3_goalOf_30 (by decide) ?_
      refine mr_astore C 58 dX3_goalOf_56 rfl (by decide) ?_
      refine mr_iload_n C 59 dX3_goalOf_58 rfl rfl ?_
      refine mr_iconst C (nI 5) 60 dX3_goalOf_59 rfl rfl ?_
      refine mr_icmpne C 67 63 dX3_goalOf_60 (by decide) rfl (fun c_60 => ?_) (fun c_60 => ?_)
      · refine mr_iconst C (nI 1) 68 dX3_goalOf_67 rfl rfl ?_
        refine mr_istore C 70 dX3_goalOf_68 rfl (by decide) ?_
        refine mr_iload_n C 71 dX3_goalOf_70 rfl rfl ?_
        refine mr_istore C 73 dX3_goalOf_71 rfl (by decide) ?_
        refine mr_iconst C (nI 0) 74 dX3_goalOf_73 rfl rfl ?_
        refine mr_istore C 76 dX3_goalOf_74 rfl (by decide) ?_
        exact mr_at (L 8 al al _ rfl (fun r _ => one_mul32 _) (by funext r; exact (if_pos c_23).symm) c_16 0 (Nat.zero_le _)) rfl rfl rfl
      · refine mr_iconst C (-1) 64 dX3_goalOf_63 rfl rfl ?_
        refine mr_goto C 68 dX3_goalOf_64 (by decide) ?_
        refine mr_istore C 70 dX3_goalOf_68 rfl (by decide) ?_
        refine mr_iload_n C 71 dX3_goalOf_70 rfl rfl ?_
        refine mr_istore C 73 dX3_goalOf_71 rfl (by decide) ?_
        refine mr_iconst C (nI 0) 74 dX3_goalOf_73 rfl rfl ?_
        refine mr_istore C 76 dX3_goalOf_74 rfl (by decide) ?_
        exact absurd (c_23.symm.trans c_60) (by decide)
  · refine mr_iload_n C 20 dX3_goalOf_19 rfl rfl ?_
    refine mr_iret C dX3_goalOf_20 rfl rfl (by decide) (by decide) hlen ?_
    rw [hO]
    exact ⟨congrArg (fun z => some (Value.int (nI z))) (if_pos c_16).symm, rfl⟩
end
section
/-! House: a bell, a copy -/
theorem mr_w {E : EG} {M : MD} {q : RQ} {Z : ZX} {k n pc : Nat} {ws ws' : va_W} {ls : List (Nat × Value)} {st : List Value} (h : ws = ws') (kk : V E M q Z k n ws' ls st pc) : V E M q Z k n ws ls st pc := h ▸ kk
set_option maxRecDepth 20000 in
set_option maxHeartbeats 4000000 in
theorem c_ring (E : EG) (a : Nat → Nat) (b : Nat) (se sn be so lo he inn al go : FN) (gu : Int32) (R K G g : Nat) (l : Nat → Nat) (hR : R ≤ 6) (hK : K ≤ 5) (hG : G < 2 ^ 30) (hg : g < 6) (hlo : ∀ c, c < K → lo c = nI (l c) ∧ l c < 6) : Ctr E mX3_ring (2, 0, 0) [.ref (a b)] (wH E a b se sn be so lo he inn al go (nI R) (nI K) (nI G) gu (nI g)) (fun v w => ∃ be1 lo1 f1 f2 h : FN, v = some (.int (wentS l (goS gu g R K G sn be so l he) K)) ∧ w = wH E a b se sn be1 so lo1 he f1 f2 h (nI R) (nI K) (nI (G + 1)) gu (nI g) ∧ Ag 6 be1 (cntS (gst gu g) l he K) ∧ ∀ c, c < K → lo1 c = nI (goS gu g R K G sn be so l he c)) := by
  refine Ctr.of (by decide) (Nat.le_of_ble_eq_true rfl) ?_
  intro Z hO hn C
  have hlen : zn Z ≤ 10 := by rw [hn]; exact Nat.le_of_ble_eq_true rfl
  have L2 : ∀ f1 f2 h : FN, Ag 6 f1 (cntS (gst gu g) l he K) → (∀ c, c < K → h c = nI (goS gu g R K G sn be so l he c)) → ∀ i, i ≤ K → ∀ f : FN, (∀ j, j < K → f j = if j < i then nI (goS gu g R K G sn be so l he j) else nI (l j)) → V E mX3_ring (2, 0, 0) Z 0 0 (wH E a b se sn (va_cpy f1 be 0 0 6) so f he f1 f2 h (nI R) (nI K) (nI (G + 1)) gu (nI g)) [(0, .ref (a b)), (1, .int (wentS l (goS gu g R K G sn be so l he) i)), (2, .int (nI i))] [] 60 := by
    intro f1 f2 h hf1 hh
    refine lp_up K ?_
    intro i hi ih f hf
    refine mr_iload_n C 61 dX3_ring_60 rfl rfl ?_
    refine mr_aload_n C 62 dX3_ring_61 rfl rfl ?_
    refine mr_get C 0 65 dX3_ring_62 rfl fl_X3_43 rfl rfl ?_
    refine mr_icmpge C 107 68 dX3_ring_65 (by decide) rfl (fun c_65 => ?_) (fun c_65 => ?_)
    · rw [nI_leI (by omega) (by omega)] at c_65
      refine mr_iload_n C 108 dX3_ring_107 rfl rfl ?_
      refine mr_iret C dX3_ring_108 rfl rfl (by decide) (by decide) hlen ?_
      rw [hO]
      obtain rfl : i = K := by omega
      exact ⟨_, f, f1, f2, h, rfl, rfl, fun r hr => (cpy_ag f1 be 6 r hr).trans (hf1 r hr), fun c hc => by rw [hf c hc, if_pos hc]⟩
    · rw [nI_leI (by omega) (by omega)] at c_65
      refine mr_aload_n C 69 dX3_ring_68 rfl rfl ?_
      refine mr_get C 0 72 dX3_ring_69 rfl fl_X3_36 rfl rfl ?_
      refine mr_iload_n C 73 dX3_ring_72 rfl rfl ?_
      refine mr_iald C 9 i 74 dX3_ring_73 rfl rfl rfl (by omega) (by decide) ?_
      refine mr_aload_n C 75 dX3_ring_74 rfl rfl ?_
      refine mr_get C 0 78 dX3_ring_75 rfl fl_X3_24 rfl rfl ?_
      refine mr_iload_n C 79 dX3_ring_78 rfl rfl ?_
      refine mr_iald C 5 i 80 dX3_ring_79 rfl rfl rfl (by omega) (by decide) ?_
      refine mr_icmpeq C 101 83 dX3_ring_80 (by decide) rfl (fun c_80 => ?_) (fun c_80 => ?_)
      · rw [hh i (by omega), hf i (by omega), if_neg (Nat.lt_irrefl i), nI_eq (Nat.lt_trans (goS_lt (hlo i (by omega)).2 hR) (by decide)) (Nat.lt_trans (hlo i (by omega)).2 (by decide))] at c_80
        have e : wentS l (goS gu g R K G sn be so l he) (i + 1) = wentS l (goS gu g R K G sn be so l he) i := if_pos c_80
        rw [e] at ih
        refine mr_iinc C (nI (i + 1)) 104 dX3_ring_101 rfl rfl (by decide) (nI_add i 1) ?_
        refine mr_goto C 60 dX3_ring_104 (by decide) ?_
        refine mr_at (ih (by omega) _ ?_) rfl rfl rfl
        intro j hj
        rw [hf j hj]
        by_cases e : j = i
        · subst e; rw [if_neg (by omega), if_pos (by omega), c_80]
        · by_cases e2 : j < i
          · rw [if_pos e2, if_pos (by omega)]
          · rw [if_neg e2, if_neg (by omega)]
      · rw [hh i (by omega), hf i (by omega), if_neg (Nat.lt_irrefl i), nI_eq (Nat.lt_trans (goS_lt (hlo i (by omega)).2 hR) (by decide)) (Nat.lt_trans (hlo i (by omega)).2 (by decide))] at c_80
        have e : wentS l (goS gu g R K G sn be so l he) (i + 1) = wentS l (goS gu g R K G sn be so l he) i ||| (nI 1 <<< (nI i &&& 31)) := if_neg c_80
        rw [e] at ih
        refine mr_iload_n C 84 dX3_ring_83 rfl rfl ?_
        refine mr_iconst C (nI 1) 85 dX3_ring_84 rfl rfl ?_
        refine mr_iload_n C 86 dX3_ring_85 rfl rfl ?_
        refine mr_ishl C _ 87 dX3_ring_86 rfl rfl ?_
        refine mr_ior C _ 88 dX3_ring_87 rfl rfl ?_
        refine mr_istore_n C 89 dX3_ring_88 rfl rfl (by decide) ?_
        refine mr_aload_n C 90 dX3_ring_89 rfl rfl ?_
        refine mr_get C 0 93 dX3_ring_90 rfl fl_X3_24 rfl rfl ?_
        refine mr_iload_n C 94 dX3_ring_93 rfl rfl ?_
        refine mr_aload_n C 95 dX3_ring_94 rfl rfl ?_
        refine mr_get C 0 98 dX3_ring_95 rfl fl_X3_36 rfl rfl ?_
        refine mr_iload_n C 99 dX3_ring_98 rfl rfl ?_
        refine mr_iald C 9 i 100 dX3_ring_99 rfl rfl rfl (by omega) (by decide) ?_
        refine mr_iast C 5 i 101 dX3_ring_100 rfl rfl rfl (by omega) (by decide) ?_
        refine mr_iinc C (nI (i + 1)) 104 dX3_ring_101 rfl rfl (by decide) (nI_add i 1) ?_
        refine mr_goto C 60 dX3_ring_104 (by decide) ?_
        refine mr_at (ih (by omega) _ ?_) rfl rfl rfl
        intro j hj
        rw [up_at]
        by_cases e : j = i
        · rw [if_pos e, if_pos (by omega), hh i (by omega), e]
        · rw [if_neg e, hf j hj]
          by_cases e2 : j < i
          · rw [if_pos e2, if_pos (by omega)]
          · rw [if_neg e2, if_neg (by omega)]
  have L1 : ∀ f1 f2 : FN, Ag 6 f1 (cntS (gst gu g) l he K) → Ag 6 f2 (cntS (fun _ => nI 0) l (hLike so he) K) → ∀ i, i ≤ K → ∀ h : FN, (∀ j, j < i → h j = nI (goS gu g R K G sn be so l he j)) → V E mX3_ring (2, 0, 0) Z 0 0 (wH E a b se sn be so lo he f1 f2 h (nI R) (nI K) (nI G) gu (nI g)) [(0, .ref (a b)), (1, .int (nI i))] [] 6 := by
    intro f1 f2 hf1 hf2
    refine lp_up K ?_
    intro i hi ih h hh
    refine mr_iload_n C 7 dX3_ring_6 rfl rfl ?_
    refine mr_aload_n C 8 dX3_ring_7 rfl rfl ?_
    refine mr_get C 0 11 dX3_ring_8 rfl fl_X3_43 rfl rfl ?_
    refine mr_icmpge C 31 14 dX3_ring_11 (by decide) rfl (fun c_11 => ?_) (fun c_11 => ?_)
    · rw [nI_leI (by omega) (by omega)] at c_11
      refine mr_aload_n C 32 dX3_ring_31 rfl rfl ?_
      refine mr_get C 0 35 dX3_ring_32 rfl fl_X3_30 rfl rfl ?_
      refine mr_iconst C (nI 0) 36 dX3_ring_35 rfl rfl ?_
      refine mr_aload_n C 37 dX3_ring_36 rfl rfl ?_
      refine mr_get C 0 40 dX3_ring_37 rfl fl_X3_18 rfl rfl ?_
      refine mr_iconst C (nI 0) 41 dX3_ring_40 rfl rfl ?_
      refine mr_bipush C (nI 6) 43 dX3_ring_41 rfl rfl ?_
      refine mr_copy C 7 3 0 0 6 46 dX3_ring_43 rfl ml_X3_52 rfl rfl rfl rfl rfl (by omega) (by omega) (by decide) (by decide) (Nat.le_of_ble_eq_true rfl) (by decide) ?_
      refine mr_aload_n C 47 dX3_ring_46 rfl rfl ?_
      refine mr_dup C 48 dX3_ring_47 rfl rfl ?_
      refine mr_get C 0 51 dX3_ring_48 rfl fl_X3_46 rfl rfl ?_
      refine mr_iconst C (nI 1) 52 dX3_ring_51 rfl rfl ?_
      refine mr_iadd C (nI (G + 1)) 53 dX3_ring_52 rfl (nI_add _ _) ?_
      refine mr_put C 0 56 dX3_ring_53 rfl fs_X3_46 rfl rfl rfl (Nat.le_of_ble_eq_true rfl) ?_
      refine mr_iconst C (nI 0) 57 dX3_ring_56 rfl rfl ?_
      refine mr_istore_n C 58 dX3_ring_57 rfl rfl (by decide) ?_
      refine mr_iconst C (nI 0) 59 dX3_ring_58 rfl rfl ?_
      refine mr_istore_n C 60 dX3_ring_59 rfl rfl (by decide) ?_
      obtain rfl : i = K := by omega
      refine mr_at (L2 f1 f2 h hf1 hh 0 (Nat.zero_le _) lo ?_) rfl rfl rfl
      intro j hj
      rw [if_neg (Nat.not_lt_zero j)]; exact (hlo j hj).1
    · rw [nI_leI (by omega) (by omega)] at c_11
      refine mr_aload_n C 15 dX3_ring_14 rfl rfl ?_
      refine mr_get C 0 18 dX3_ring_15 rfl fl_X3_36 rfl rfl ?_
      refine mr_iload_n C 19 dX3_ring_18 rfl rfl ?_
      refine mr_aload_n C 20 dX3_ring_19 rfl rfl ?_
      refine mr_iload_n C 21 dX3_ring_20 rfl rfl ?_
      refine mr_callV C (c_goalOf E a b se sn be so lo he f1 f2 h (nI K) gu (nI g) R G i (l i) hR hG (by omega) (hlo i (by omega)).2 (hlo i (by omega)).1) [0, 1, 2, 3, 4, 5, 6, 7, 8, 9] 0 3 24 dX3_ring_21 rfl mk_X3_goalOf mi_X3_goalOf ml_X3_64 rfl rfl rfl rfl rfl (Nat.le_of_ble_eq_true rfl) (by decide) (by decide) (by decide) rfl rfl (fun r w1 hpost => ?_)
      obtain ⟨rfl, rfl⟩ := hpost
      refine mr_w (ws' := wH E a b se sn be so lo he f1 f2 h (nI R) (nI K) (nI G) gu (nI g)) rfl ?_
      rw [goS_of hf1 hf2 (hlo i (by omega)).2 hR]
      refine mr_iast C 9 i 25 dX3_ring_24 rfl rfl rfl (by omega) (by decide) ?_
      refine mr_iinc C (nI (i + 1)) 28 dX3_ring_25 rfl rfl (by decide) (nI_add i 1) ?_
      refine mr_goto C 6 dX3_ring_28 (by decide) ?_
      refine mr_at (ih (by omega) _ ?_) rfl rfl rfl
      intro j hj
      rw [up_at]
      by_cases e : j = i
      · rw [if_pos e, e]
      · rw [if_neg e]; exact hh j (by omega)
  refine mr_aload_n C 1 dX3_ring_0 rfl rfl ?_
  refine mr_callV C (c_countHeads E a b se sn be so lo he inn al go (nI R) (nI G) gu K g l hK hg hlo) [0, 1, 2, 3, 4, 5, 6, 7, 8, 9] 0 3 4 dX3_ring_1 rfl mk_X3_countHeads mi_X3_countHeads ml_X3_61 rfl rfl rfl rfl rfl (Nat.le_of_ble_eq_true rfl) (by decide) (by decide) (by decide) rfl rfl (fun r w1 hpost => ?_)
  obtain ⟨f1, f2, rfl, rfl, hf1, hf2⟩ := hpost
  refine mr_w (ws' := wH E a b se sn be so lo he f1 f2 go (nI R) (nI K) (nI G) gu (nI g)) rfl ?_
  refine mr_iconst C (nI 0) 5 dX3_ring_4 rfl rfl ?_
  refine mr_istore_n C 6 dX3_ring_5 rfl rfl (by decide) ?_
  exact mr_at (L1 f1 f2 hf1 hf2 0 (Nat.zero_le _) go (fun j h => absurd h (Nat.not_lt_zero j))) rfl rfl rfl

set_option maxRecDepth 20000 in
set_option maxHeartbeats 4000000 in
theorem c_take (E : EG) (a : Nat → Nat) (b b2 : Nat) (se sn be so lo he inn al go se2 sn2 be2 so2 lo2 he2 inn2 al2 go2 : FN) (ro cr gn gu gr ro2 cr2 gn2 gu2 gr2 : Int32) : Ctr E mX3_take (2, 0, 0) [.ref (a b), .ref (a b2)] (wH E a b se sn be so lo he inn al go ro cr gn gu gr ++ wH E a b2 se2 sn2 be2 so2 lo2 he2 inn2 al2 go2 ro2 cr2 gn2 gu2 gr2) (fun v w => ∃ f1 f2 f3 f4 f5 f6 : FN, v = none ∧ w = wH E a b f1 f2 f3 f4 f5 f6 inn al go ro2 cr2 gn2 (nI 0) gr ++ wH E a b2 se2 sn2 be2 so2 lo2 he2 inn2 al2 go2 ro2 cr2 gn2 gu2 gr2 ∧ Ag 6 f1 se2 ∧ Ag 6 f2 sn2 ∧ Ag 6 f3 be2 ∧ Ag 5 f4 so2 ∧ Ag 5 f5 lo2 ∧ Ag 5 f6 he2) := by
  refine Ctr.of (by decide) (Nat.le_of_ble_eq_true rfl) ?_
  intro Z hO hn C
  have hlen : zn Z ≤ 20 := by rw [hn]; exact Nat.le_of_ble_eq_true rfl
  refine mr_aload_n C 1 dX3_take_0 rfl rfl ?_
  refine mr_aload_n C 2 dX3_take_1 rfl rfl ?_
  refine mr_get C 10 5 dX3_take_2 rfl fl_X3_39 rfl rfl ?_
  refine mr_put C 0 8 dX3_take_5 rfl fs_X3_39 rfl rfl rfl (Nat.le_of_ble_eq_true rfl) ?_
  refine mr_aload_n C 9 dX3_take_8 rfl rfl ?_
  refine mr_aload_n C 10 dX3_take_9 rfl rfl ?_
  refine mr_get C 10 13 dX3_take_10 rfl fl_X3_43 rfl rfl ?_
  refine mr_put C 0 16 dX3_take_13 rfl fs_X3_43 rfl rfl rfl (Nat.le_of_ble_eq_true rfl) ?_
  refine mr_aload_n C 17 dX3_take_16 rfl rfl ?_
  refine mr_aload_n C 18 dX3_take_17 rfl rfl ?_
  refine mr_get C 10 21 dX3_take_18 rfl fl_X3_46 rfl rfl ?_
  refine mr_put C 0 24 dX3_take_21 rfl fs_X3_46 rfl rfl rfl (Nat.le_of_ble_eq_true rfl) ?_
  refine mr_aload_n C 25 dX3_take_24 rfl rfl ?_
  refine mr_iconst C (nI 0) 26 dX3_take_25 rfl rfl ?_
  refine mr_put C 0 29 dX3_take_26 rfl fs_X3_49 rfl rfl rfl (Nat.le_of_ble_eq_true rfl) ?_
  refine mr_aload_n C 30 dX3_take_29 rfl rfl ?_
  refine mr_get C 10 33 dX3_take_30 rfl fl_X3_9 rfl rfl ?_
  refine mr_iconst C (nI 0) 34 dX3_take_33 rfl rfl ?_
  refine mr_aload_n C 35 dX3_take_34 rfl rfl ?_
  refine mr_get C 0 38 dX3_take_35 rfl fl_X3_9 rfl rfl ?_
  refine mr_iconst C (nI 0) 39 dX3_take_38 rfl rfl ?_
  refine mr_bipush C (nI 6) 41 dX3_take_39 rfl rfl ?_
  refine mr_copy C 11 1 0 0 6 44 dX3_take_41 rfl ml_X3_52 rfl rfl rfl rfl rfl (by omega) (by omega) (by decide) (by decide) (Nat.le_of_ble_eq_true rfl) (by decide) ?_
  refine mr_aload_n C 45 dX3_take_44 rfl rfl ?_
  refine mr_get C 10 48 dX3_take_45 rfl fl_X3_15 rfl rfl ?_
  refine mr_iconst C (nI 0) 49 dX3_take_48 rfl rfl ?_
  refine mr_aload_n C 50 dX3_take_49 rfl rfl ?_
  refine mr_get C 0 53 dX3_take_50 rfl fl_X3_15 rfl rfl ?_
  refine mr_iconst C (nI 0) 54 dX3_take_53 rfl rfl ?_
  refine mr_bipush C (nI 6) 56 dX3_take_54 rfl rfl ?_
  refine mr_copy C 12 2 0 0 6 59 dX3_take_56 rfl ml_X3_52 rfl rfl rfl rfl rfl (by omega) (by omega) (by decide) (by decide) (Nat.le_of_ble_eq_true rfl) (by decide) ?_
  refine mr_aload_n C 60 dX3_take_59 rfl rfl ?_
  refine mr_get C 10 63 dX3_take_60 rfl fl_X3_18 rfl rfl ?_
  refine mr_iconst C (nI 0) 64 dX3_take_63 rfl rfl ?_
  refine mr_aload_n C 65 dX3_take_64 rfl rfl ?_
  refine mr_get C 0 68 dX3_take_65 rfl fl_X3_18 rfl rfl ?_
  refine mr_iconst C (nI 0) 69 dX3_take_68 rfl rfl ?_
  refine mr_bipush C (nI 6) 71 dX3_take_69 rfl rfl ?_
  refine mr_copy C 13 3 0 0 6 74 dX3_take_71 rfl ml_X3_52 rfl rfl rfl rfl rfl (by omega) (by omega) (by decide) (by decide) (Nat.le_of_ble_eq_true rfl) (by decide) ?_
  refine mr_aload_n C 75 dX3_take_74 rfl rfl ?_
  refine mr_get C 10 78 dX3_take_75 rfl fl_X3_21 rfl rfl ?_
  refine mr_iconst C (nI 0) 79 dX3_take_78 rfl rfl ?_
  refine mr_aload_n C 80 dX3_take_79 rfl rfl ?_
  refine mr_get C 0 83 dX3_take_80 rfl fl_X3_21 rfl rfl ?_
  refine mr_iconst C (nI 0) 84 dX3_take_83 rfl rfl ?_
  refine mr_iconst C (nI 5) 85 dX3_take_84 rfl rfl ?_
  refine mr_copy C 14 4 0 0 5 88 dX3_take_85 rfl ml_X3_52 rfl rfl rfl rfl rfl (by omega) (by omega) (by decide) (by decide) (Nat.le_of_ble_eq_true rfl) (by decide) ?_
  refine mr_aload_n C 89 dX3_take_88 rfl rfl ?_
  refine mr_get C 10 92 dX3_take_89 rfl fl_X3_24 rfl rfl ?_
  refine mr_iconst C (nI 0) 93 dX3_take_92 rfl rfl ?_
  refine mr_aload_n C 94 dX3_take_93 rfl rfl ?_
  refine mr_get C 0 97 dX3_take_94 rfl fl_X3_24 rfl rfl ?_
  refine mr_iconst C (nI 0) 98 dX3_take_97 rfl rfl ?_
  refine mr_iconst C (nI 5) 99 dX3_take_98 rfl rfl ?_
  refine mr_copy C 15 5 0 0 5 102 dX3_take_99 rfl ml_X3_52 rfl rfl rfl rfl rfl (by omega) (by omega) (by decide) (by decide) (Nat.le_of_ble_eq_true rfl) (by decide) ?_
  refine mr_aload_n C 103 dX3_take_102 rfl rfl ?_
  refine mr_get C 10 106 dX3_take_103 rfl fl_X3_27 rfl rfl ?_
  refine mr_iconst C (nI 0) 107 dX3_take_106 rfl rfl ?_
  refine mr_aload_n C 108 dX3_take_107 rfl rfl ?_
  refine mr_get C 0 111 dX3_take_108 rfl fl_X3_27 rfl rfl ?_
  refine mr_iconst C (nI 0) 112 dX3_take_111 rfl rfl ?_
  refine mr_iconst C (nI 5) 113 dX3_take_112 rfl rfl ?_
  refine mr_copy C 16 6 0 0 5 116 dX3_take_113 rfl ml_X3_52 rfl rfl rfl rfl rfl (by omega) (by omega) (by decide) (by decide) (Nat.le_of_ble_eq_true rfl) (by decide) ?_
  refine mr_vret C dX3_take_116 rfl (by decide) (by decide) hlen ?_
  rw [hO]
  exact ⟨_, _, _, _, _, _, rfl, rfl, cpy_ag _ _ 6, cpy_ag _ _ 6, cpy_ag _ _ 6, cpy_ag _ _ 5, cpy_ag _ _ 5, cpy_ag _ _ 5⟩
end
section
/-! Row -/
set_option maxRecDepth 20000 in
set_option maxHeartbeats 4000000 in
theorem c_make (E : EG) (a : Nat → Nat) (b : Nat) (it : FN) (th ln sz x : Int32) (m : Nat) (hm : m ≤ 40) : Ctr E mX5_make (1, 0, 0) [.ref (a b), .int x, .int (nI m)] (wR E a b it th ln sz) (fun v w => ∃ f : FN, v = none ∧ w = wR E a b f (nI 1) x (nI m) ∧ ∀ j, j < m → f j = nI 0) := by
  refine Ctr.of (by decide) (Nat.le_of_ble_eq_true rfl) ?_
  intro Z hO hn C
  have hlen : zn Z ≤ 2 := by rw [hn]; exact Nat.le_of_ble_eq_true rfl
  have L : ∀ i, i ≤ m → ∀ f : FN, (∀ j, j < i → f j = nI 0) → V E mX5_make (1, 0, 0) Z 0 0 (wR E a b f (nI 1) x (nI m)) [(0, .ref (a b)), (1, .int x), (2, .int (nI m)), (3, .int (nI i))] [] 17 := by
    refine lp_up m ?_
    intro i hi ih f hf
    refine mr_iload_n C 18 dX5_make_17 rfl rfl ?_
    refine mr_iload_n C 19 dX5_make_18 rfl rfl ?_
    refine mr_icmpge C 35 22 dX5_make_19 (by decide) rfl (fun c_19 => ?_) (fun c_19 => ?_)
    · rw [nI_leI (by omega) (by omega)] at c_19
      refine mr_vret C dX5_make_35 rfl (by decide) (by decide) hlen ?_
      rw [hO]
      exact ⟨f, rfl, rfl, fun j hj => hf j (by omega)⟩
    · rw [nI_leI (by omega) (by omega)] at c_19
      refine mr_aload_n C 23 dX5_make_22 rfl rfl ?_
      refine mr_get C 0 26 dX5_make_23 rfl fl_X5_9 rfl rfl ?_
      refine mr_iload_n C 27 dX5_make_26 rfl rfl ?_
      refine mr_iconst C (nI 0) 28 dX5_make_27 rfl rfl ?_
      refine mr_iast C 1 i 29 dX5_make_28 rfl rfl rfl (by omega) (by decide) ?_
      refine mr_iinc C (nI (i + 1)) 32 dX5_make_29 rfl rfl (by decide) (nI_add i 1) ?_
      refine mr_goto C 17 dX5_make_32 (by decide) ?_
      refine mr_at (ih (by omega) _ ?_) rfl rfl rfl
      intro j hj
      rw [up_at]
      by_cases e : j = i
      · rw [if_pos e]
      · rw [if_neg e]; exact hf j (by omega)
  refine mr_aload_n C 1 dX5_make_0 rfl rfl ?_
  refine mr_iconst C (nI 1) 2 dX5_make_1 rfl rfl ?_
  refine mr_put C 0 5 dX5_make_2 rfl fs_X5_15 rfl rfl rfl (Nat.le_of_ble_eq_true rfl) ?_
  refine mr_aload_n C 6 dX5_make_5 rfl rfl ?_
  refine mr_iload_n C 7 dX5_make_6 rfl rfl ?_
  refine mr_put C 0 10 dX5_make_7 rfl fs_X5_19 rfl rfl rfl (Nat.le_of_ble_eq_true rfl) ?_
  refine mr_aload_n C 11 dX5_make_10 rfl rfl ?_
  refine mr_iload_n C 12 dX5_make_11 rfl rfl ?_
  refine mr_put C 0 15 dX5_make_12 rfl fs_X5_23 rfl rfl rfl (Nat.le_of_ble_eq_true rfl) ?_
  refine mr_iconst C (nI 0) 16 dX5_make_15 rfl rfl ?_
  refine mr_istore_n C 17 dX5_make_16 rfl rfl (by decide) ?_
  exact mr_at (L 0 (Nat.zero_le _) it (fun j h => absurd h (Nat.not_lt_zero j))) rfl rfl rfl

set_option maxRecDepth 20000 in
set_option maxHeartbeats 4000000 in
theorem c_holds (E : EG) (a : Nat → Nat) (b : Nat) (it : FN) (th ln sz i n : Int32) : Ctr E mX5_holds (1, 0, 0) [.ref (a b), .int i, .int n] (wR E a b it th ln sz) (fun v w => v = some (.int (bI (¬ n < 0 ∧ ¬ i < 0 ∧ n ≤ sz ∧ i ≤ sz - n))) ∧ w = wR E a b it th ln sz) := by
  refine Ctr.of (by decide) (Nat.le_of_ble_eq_true rfl) ?_
  intro Z hO hn C
  have hlen : zn Z ≤ 2 := by rw [hn]; exact Nat.le_of_ble_eq_true rfl
  refine mr_iload_n C 1 dX5_holds_0 rfl rfl ?_
  refine mr_iflt C 30 4 dX5_holds_1 (by decide) rfl (fun c_1 => ?_) (fun c_1 => ?_)
  · refine mr_iconst C (nI 0) 31 dX5_holds_30 rfl rfl ?_
    refine mr_iret C dX5_holds_31 rfl rfl (by decide) (by decide) hlen ?_
    rw [hO]
    exact ⟨congrArg (fun z => some (Value.int z)) (bI_f (fun h => h.1 c_1)), rfl⟩
  · refine mr_iload_n C 5 dX5_holds_4 rfl rfl ?_
    refine mr_iflt C 30 8 dX5_holds_5 (by decide) rfl (fun c_5 => ?_) (fun c_5 => ?_)
    · refine mr_iconst C (nI 0) 31 dX5_holds_30 rfl rfl ?_
      refine mr_iret C dX5_holds_31 rfl rfl (by decide) (by decide) hlen ?_
      rw [hO]
      exact ⟨congrArg (fun z => some (Value.int z)) (bI_f (fun h => h.2.1 c_5)), rfl⟩
    · refine mr_iload_n C 9 dX5_holds_8 rfl rfl ?_
      refine mr_aload_n C 10 dX5_holds_9 rfl rfl ?_
      refine mr_get C 0 13 dX5_holds_10 rfl fl_X5_23 rfl rfl ?_
      refine mr_icmpgt C 30 16 dX5_holds_13 (by decide) rfl (fun c_13 => ?_) (fun c_13 => ?_)
      · refine mr_iconst C (nI 0) 31 dX5_holds_30 rfl rfl ?_
        refine mr_iret C dX5_holds_31 rfl rfl (by decide) (by decide) hlen ?_
        rw [hO]
        exact ⟨congrArg (fun z => some (Value.int z)) (bI_f (fun h => Int32.not_lt.mpr h.2.2.1 c_13)), rfl⟩
      · refine mr_iload_n C 17 dX5_holds_16 rfl rfl ?_
        refine mr_aload_n C 18 dX5_holds_17 rfl rfl ?_
        refine mr_get C 0 21 dX5_holds_18 rfl fl_X5_23 rfl rfl ?_
        refine mr_iload_n C 22 dX5_holds_21 rfl rfl ?_
        refine mr_isub C _ 23 dX5_holds_22 rfl rfl ?_
        refine mr_icmpgt C 30 26 dX5_holds_23 (by decide) rfl (fun c_23 => ?_) (fun c_23 => ?_)
        · refine mr_iconst C (nI 0) 31 dX5_holds_30 rfl rfl ?_
          refine mr_iret C dX5_holds_31 rfl rfl (by decide) (by decide) hlen ?_
          rw [hO]
          exact ⟨congrArg (fun z => some (Value.int z)) (bI_f (fun h => Int32.not_lt.mpr h.2.2.2 c_23)), rfl⟩
        · refine mr_iconst C (nI 1) 27 dX5_holds_26 rfl rfl ?_
          refine mr_goto C 31 dX5_holds_27 (by decide) ?_
          refine mr_iret C dX5_holds_31 rfl rfl (by decide) (by decide) hlen ?_
          rw [hO]
          exact ⟨congrArg (fun z => some (Value.int z)) (bI_t ⟨c_1, c_5, Int32.not_lt.mp c_13, Int32.not_lt.mp c_23⟩), rfl⟩

def kpS (ln v : Int32) : Int32 := if ln = 0 then v.toInt8.toInt32 else if ln = nI 1 then v.toInt16.toInt32 else v
set_option maxRecDepth 20000 in
set_option maxHeartbeats 4000000 in
theorem c_put (E : EG) (a : Nat → Nat) (b : Nat) (it : FN) (th ln sz x : Int32) (j : Nat) (hj : j < 40) : Ctr E mX5_put (1, 0, 0) [.ref (a b), .int (nI j), .int x] (wR E a b it th ln sz) (fun v w => v = some (.int (kpS ln x)) ∧ w = wR E a b (upd it j (kpS ln x)) th ln sz) := by
  refine Ctr.of (by decide) (Nat.le_of_ble_eq_true rfl) ?_
  intro Z hO hn C
  have hlen : zn Z ≤ 2 := by rw [hn]; exact Nat.le_of_ble_eq_true rfl
  refine mr_aload_n C 1 dX5_put_0 rfl rfl ?_
  refine mr_get C 0 4 dX5_put_1 rfl fl_X5_19 rfl rfl ?_
  refine mr_ifne C 12 7 dX5_put_4 (by decide) rfl (fun c_4 => ?_) (fun c_4 => ?_)
  · refine mr_aload_n C 13 dX5_put_12 rfl rfl ?_
    refine mr_get C 0 16 dX5_put_13 rfl fl_X5_19 rfl rfl ?_
    refine mr_iconst C (nI 1) 17 dX5_put_16 rfl rfl ?_
    refine mr_icmpne C 25 20 dX5_put_17 (by decide) rfl (fun c_17 => ?_) (fun c_17 => ?_)
    · refine mr_iload_n C 26 dX5_put_25 rfl rfl ?_
      refine mr_istore_n C 27 dX5_put_26 rfl rfl (by decide) ?_
      refine mr_aload_n C 28 dX5_put_27 rfl rfl ?_
      refine mr_get C 0 31 dX5_put_28 rfl fl_X5_9 rfl rfl ?_
      refine mr_iload_n C 32 dX5_put_31 rfl rfl ?_
      refine mr_iload_n C 33 dX5_put_32 rfl rfl ?_
      refine mr_iast C 1 j 34 dX5_put_33 rfl rfl rfl (by omega) (by decide) ?_
      refine mr_iload_n C 35 dX5_put_34 rfl rfl ?_
      refine mr_iret C dX5_put_35 rfl rfl (by decide) (by decide) hlen ?_
      rw [hO]
      have e : kpS ln x = _ := (if_neg c_4).trans (if_neg c_17)
      exact ⟨congrArg (fun z => some (Value.int z)) e.symm, by rw [e]; rfl⟩
    · refine mr_iload_n C 21 dX5_put_20 rfl rfl ?_
      refine mr_i2s C _ 22 dX5_put_21 rfl rfl ?_
      refine mr_goto C 26 dX5_put_22 (by decide) ?_
      refine mr_istore_n C 27 dX5_put_26 rfl rfl (by decide) ?_
      refine mr_aload_n C 28 dX5_put_27 rfl rfl ?_
      refine mr_get C 0 31 dX5_put_28 rfl fl_X5_9 rfl rfl ?_
      refine mr_iload_n C 32 dX5_put_31 rfl rfl ?_
      refine mr_iload_n C 33 dX5_put_32 rfl rfl ?_
      refine mr_iast C 1 j 34 dX5_put_33 rfl rfl rfl (by omega) (by decide) ?_
      refine mr_iload_n C 35 dX5_put_34 rfl rfl ?_
      refine mr_iret C dX5_put_35 rfl rfl (by decide) (by decide) hlen ?_
      rw [hO]
      have e : kpS ln x = _ := (if_neg c_4).trans (if_pos c_17)
      exact ⟨congrArg (fun z => some (Value.int z)) e.symm, by rw [e]; rfl⟩
  · refine mr_iload_n C 8 dX5_put_7 rfl rfl ?_
    refine mr_i2b C _ 9 dX5_put_8 rfl rfl ?_
    refine mr_goto C 26 dX5_put_9 (by decide) ?_
    refine mr_istore_n C 27 dX5_put_26 rfl rfl (by decide) ?_
    refine mr_aload_n C 28 dX5_put_27 rfl rfl ?_
    refine mr_get C 0 31 dX5_put_28 rfl fl_X5_9 rfl rfl ?_
    refine mr_iload_n C 32 dX5_put_31 rfl rfl ?_
    refine mr_iload_n C 33 dX5_put_32 rfl rfl ?_
    refine mr_iast C 1 j 34 dX5_put_33 rfl rfl rfl (by omega) (by decide) ?_
    refine mr_iload_n C 35 dX5_put_34 rfl rfl ?_
    refine mr_iret C dX5_put_35 rfl rfl (by decide) (by decide) hlen ?_
    rw [hO]
    have e : kpS ln x = _ := if_pos c_4
    exact ⟨congrArg (fun z => some (Value.int z)) e.symm, by rw [e]; rfl⟩

set_option maxRecDepth 20000 in
set_option maxHeartbeats 4000000 in
theorem c_holdsSets (E : EG) (a : Nat → Nat) (b : Nat) (it : FN) (th ln sz e : Int32) (x m : Nat) (hm : x + m ≤ 40) : Ctr E mX5_holdsSets (1, 0, 0) [.ref (a b), .int (nI x), .int (nI m), .int e] (wR E a b it th ln sz) (fun v w => v = some (.int (bI (∀ j, j < m → ¬ it (x + j) < 0 ∧ it (x + j) < e))) ∧ w = wR E a b it th ln sz) := by
  refine Ctr.of (by decide) (Nat.le_of_ble_eq_true rfl) ?_
  intro Z hO hn C
  have hlen : zn Z ≤ 2 := by rw [hn]; exact Nat.le_of_ble_eq_true rfl
  have L : ∀ i, i ≤ m → (∀ j, j < i → ¬ it (x + j) < 0 ∧ it (x + j) < e) → V E mX5_holdsSets (1, 0, 0) Z 0 0 (wR E a b it th ln sz) [(0, .ref (a b)), (1, .int (nI x)), (2, .int (nI m)), (3, .int e), (4, .int (nI (x + i)))] [] 3 := by
    refine lp_up m ?_
    intro i hi ih hf
    refine mr_iload C 5 dX5_holdsSets_3 rfl rfl ?_
    refine mr_iload_n C 6 dX5_holdsSets_5 rfl rfl ?_
    refine mr_iload_n C 7 dX5_holdsSets_6 rfl rfl ?_
    refine mr_iadd C (nI (x + m)) 8 dX5_holdsSets_7 rfl (nI_add _ _) ?_
    refine mr_icmpge C 40 11 dX5_holdsSets_8 (by decide) rfl (fun c_8 => ?_) (fun c_8 => ?_)
    · rw [nI_leI (by omega) (by omega)] at c_8
      refine mr_iconst C (nI 1) 41 dX5_holdsSets_40 rfl rfl ?_
      refine mr_iret C dX5_holdsSets_41 rfl rfl (by decide) (by decide) hlen ?_
      rw [hO]
      obtain rfl : i = m := by omega
      exact ⟨congrArg (fun z => some (Value.int z)) (bI_t hf), rfl⟩
    · rw [nI_leI (by omega) (by omega)] at c_8
      refine mr_aload_n C 12 dX5_holdsSets_11 rfl rfl ?_
      refine mr_get C 0 15 dX5_holdsSets_12 rfl fl_X5_9 rfl rfl ?_
      refine mr_iload C 17 dX5_holdsSets_15 rfl rfl ?_
      refine mr_iald C 1 (x + i) 18 dX5_holdsSets_17 rfl rfl rfl (by omega) (by decide) ?_
      refine mr_iflt C 32 21 dX5_holdsSets_18 (by decide) rfl (fun c_18 => ?_) (fun c_18 => ?_)
      · refine mr_iconst C (nI 0) 33 dX5_holdsSets_32 rfl rfl ?_
        refine mr_iret C dX5_holdsSets_33 rfl rfl (by decide) (by decide) hlen ?_
        rw [hO]
        exact ⟨congrArg (fun z => some (Value.int z)) (bI_f (fun h => (h i (by omega)).1 c_18)), rfl⟩
      · refine mr_aload_n C 22 dX5_holdsSets_21 rfl rfl ?_
        refine mr_get C 0 25 dX5_holdsSets_22 rfl fl_X5_9 rfl rfl ?_
        refine mr_iload C 27 dX5_holdsSets_25 rfl rfl ?_
        refine mr_iald C 1 (x + i) 28 dX5_holdsSets_27 rfl rfl rfl (by omega) (by decide) ?_
        refine mr_iload_n C 29 dX5_holdsSets_28 rfl rfl ?_
        refine mr_icmplt C 34 32 dX5_holdsSets_29 (by decide) rfl (fun c_29 => ?_) (fun c_29 => ?_)
        · refine mr_iinc C (nI (x + i + 1)) 37 dX5_holdsSets_34 rfl rfl (by decide) (nI_add (x + i) 1) ?_
          refine mr_goto C 3 dX5_holdsSets_37 (by decide) ?_
          refine mr_at (ih (by omega) ?_) rfl rfl rfl
          intro j hj
          by_cases e2 : j = i
          · subst e2; exact ⟨c_18, c_29⟩
          · exact hf j (by omega)
        · refine mr_iconst C (nI 0) 33 dX5_holdsSets_32 rfl rfl ?_
          refine mr_iret C dX5_holdsSets_33 rfl rfl (by decide) (by decide) hlen ?_
          rw [hO]
          exact ⟨congrArg (fun z => some (Value.int z)) (bI_f (fun h => c_29 (h i (by omega)).2)), rfl⟩
  refine mr_iload_n C 1 dX5_holdsSets_0 rfl rfl ?_
  refine mr_istore C 3 dX5_holdsSets_1 rfl (by decide) ?_
  exact mr_at (L 0 (Nat.zero_le _) (fun j h => absurd h (Nat.not_lt_zero j))) rfl rfl rfl

def cbS (it : FN) (x : Nat) (b : Int32) : Nat → Int32
  | 0 => nI 0
  | m + 1 => cbS it x b m + ((it (x + m) >>> (b &&& 31)) &&& nI 1)
set_option maxRecDepth 20000 in
set_option maxHeartbeats 4000000 in
theorem c_countBit (E : EG) (a : Nat → Nat) (b : Nat) (it : FN) (th ln sz e : Int32) (x m : Nat) (hm : x + m ≤ 40) : Ctr E mX5_countBit (1, 0, 0) [.ref (a b), .int (nI x), .int (nI m), .int e] (wR E a b it th ln sz) (fun v w => v = some (.int (cbS it x e m)) ∧ w = wR E a b it th ln sz) := by
  refine Ctr.of (by decide) (Nat.le_of_ble_eq_true rfl) ?_
  intro Z hO hn C
  have hlen : zn Z ≤ 2 := by rw [hn]; exact Nat.le_of_ble_eq_true rfl
  have L : ∀ i, i ≤ m → V E mX5_countBit (1, 0, 0) Z 0 0 (wR E a b it th ln sz) [(0, .ref (a b)), (1, .int (nI x)), (2, .int (nI m)), (3, .int e), (4, .int (cbS it x e i)), (5, .int (nI (x + i)))] [] 6 := by
    refine lp_up m ?_
    intro i hi ih
    refine mr_iload C 8 dX5_countBit_6 rfl rfl ?_
    refine mr_iload_n C 9 dX5_countBit_8 rfl rfl ?_
    refine mr_iload_n C 10 dX5_countBit_9 rfl rfl ?_
    refine mr_iadd C (nI (x + m)) 11 dX5_countBit_10 rfl (nI_add _ _) ?_
    refine mr_icmpge C 36 14 dX5_countBit_11 (by decide) rfl (fun c_11 => ?_) (fun c_11 => ?_)
    · rw [nI_leI (by omega) (by omega)] at c_11
      refine mr_iload C 38 dX5_countBit_36 rfl rfl ?_
      refine mr_iret C dX5_countBit_38 rfl rfl (by decide) (by decide) hlen ?_
      rw [hO]
      obtain rfl : i = m := by omega
      exact ⟨rfl, rfl⟩
    · rw [nI_leI (by omega) (by omega)] at c_11
      refine mr_iload C 16 dX5_countBit_14 rfl rfl ?_
      refine mr_aload_n C 17 dX5_countBit_16 rfl rfl ?_
      refine mr_get C 0 20 dX5_countBit_17 rfl fl_X5_9 rfl rfl ?_
      refine mr_iload C 22 dX5_countBit_20 rfl rfl ?_
      refine mr_iald C 1 (x + i) 23 dX5_countBit_22 rfl rfl rfl (by omega) (by decide) ?_
      refine mr_iload_n C 24 dX5_countBit_23 rfl rfl ?_
      refine mr_ishr C _ 25 dX5_countBit_24 rfl rfl ?_
      refine mr_iconst C (nI 1) 26 dX5_countBit_25 rfl rfl ?_
      refine mr_iand C _ 27 dX5_countBit_26 rfl rfl ?_
      refine mr_iadd C _ 28 dX5_countBit_27 rfl rfl ?_
      refine mr_istore C 30 dX5_countBit_28 rfl (by decide) ?_
      refine mr_iinc C (nI (x + i + 1)) 33 dX5_countBit_30 rfl rfl (by decide) (nI_add (x + i) 1) ?_
      refine mr_goto C 6 dX5_countBit_33 (by decide) ?_
      exact mr_at (ih (by omega)) rfl rfl rfl
  refine mr_iconst C (nI 0) 1 dX5_countBit_0 rfl rfl ?_
  refine mr_istore C 3 dX5_countBit_1 rfl (by decide) ?_
  refine mr_iload_n C 4 dX5_countBit_3 rfl rfl ?_
  refine mr_istore C 6 dX5_countBit_4 rfl (by decide) ?_
  exact mr_at (L 0 (Nat.zero_le _)) rfl rfl rfl
end
section
/-! Acts -/
/-- slot x holds a house's doors, counts, places, heads, bells -/
def SL (kp : FN) (x : Nat) (sn be lo he : FN) (gn : Int32) : Prop :=
  (∀ j, j < 6 → kp (x * 23 + j) = sn j) ∧ (∀ j, j < 6 → kp (x * 23 + 6 + j) = be j) ∧ (∀ j, j < 5 → kp (x * 23 + 12 + j) = lo j) ∧ (∀ j, j < 5 → kp (x * 23 + 17 + j) = he j) ∧ kp (x * 23 + 22) = gn
def kpPut (kp : FN) (x : Nat) (sn be lo he : FN) (gn : Int32) : FN := upd (va_cpy he (va_cpy lo (va_cpy be (va_cpy sn kp 0 (x * 23 + 0) 6) 0 (x * 23 + 6) 6) 0 (x * 23 + 12) 5) 0 (x * 23 + 17) 5) (x * 23 + 22) gn
theorem kpPut_SL (kp : FN) (x : Nat) (sn be lo he : FN) (gn : Int32) : SL (kpPut kp x sn be lo he gn) x sn be lo he gn := by
  unfold kpPut
  refine ⟨fun j hj => ?_, fun j hj => ?_, fun j hj => ?_, fun j hj => ?_, up_s⟩
  · rw [up_n (by omega), pk_cpy_out (by omega), pk_cpy_out (by omega), pk_cpy_out (by omega), pk_cpy_in (by omega) (by omega)]
    congr 1; omega
  · rw [up_n (by omega), pk_cpy_out (by omega), pk_cpy_out (by omega), pk_cpy_in (by omega) (by omega)]
    congr 1; omega
  · rw [up_n (by omega), pk_cpy_out (by omega), pk_cpy_in (by omega) (by omega)]
    congr 1; omega
  · rw [up_n (by omega), pk_cpy_in (by omega) (by omega)]
    congr 1; omega
theorem kpPut_out (kp : FN) (x : Nat) (sn be lo he : FN) (gn : Int32) {i : Nat} (h : i < x * 23 ∨ x * 23 + 23 ≤ i) : kpPut kp x sn be lo he gn i = kp i := by
  unfold kpPut
  rw [up_n (by omega), pk_cpy_out (by omega), pk_cpy_out (by omega), pk_cpy_out (by omega), pk_cpy_out (by omega)]
theorem SL_far {kp kp' : FN} {x : Nat} {sn be lo he : FN} {gn : Int32} (h : SL kp x sn be lo he gn) (hk : ∀ i, x * 23 ≤ i → i < x * 23 + 23 → kp' i = kp i) : SL kp' x sn be lo he gn := by
  obtain ⟨h1, h2, h3, h4, h5⟩ := h
  refine ⟨fun j hj => ?_, fun j hj => ?_, fun j hj => ?_, fun j hj => ?_, ?_⟩
  · rw [hk _ (by omega) (by omega)]; exact h1 j hj
  · rw [hk _ (by omega) (by omega)]; exact h2 j hj
  · rw [hk _ (by omega) (by omega)]; exact h3 j hj
  · rw [hk _ (by omega) (by omega)]; exact h4 j hj
  · rw [hk _ (by omega) (by omega)]; exact h5
theorem minI {a b : Nat} (ha : a < 2 ^ 31) (hb : b < 2 ^ 31) : (if nI b < nI a then nI b else nI a) = nI (min a b) := by
  by_cases h : b < a
  · rw [if_pos ((nI_ltI hb ha).mpr h), Nat.min_eq_right (by omega)]
  · rw [if_neg (mt (nI_ltI hb ha).mp h), Nat.min_eq_left (by omega)]
set_option maxRecDepth 20000 in
set_option maxHeartbeats 4000000 in
theorem c_keep (E : EG) (a : Nat → Nat) (b b2 : Nat) (kp : FN) (x h : Nat) (se sn be so lo he inn al go : FN) (ro cr gn gu gr : Int32) (hx : x < 24) (hh : h ≤ 24) : Ctr E mX0_keep (2, 0, 0) [.ref (a b), .ref (a b2)] (wA E a b kp (nI h) (nI x) ++ wH E a b2 se sn be so lo he inn al go ro cr gn gu gr) (fun v w => v = none ∧ w = wA E a b (kpPut kp x sn be lo he gn) (nI (min (h + 1) 24)) (nI (if x + 1 < 24 then x + 1 else 0)) ++ wH E a b2 se sn be so lo he inn al go ro cr gn gu gr) := by
  refine Ctr.of (by decide) (Nat.le_of_ble_eq_true rfl) ?_
  intro Z hO hn C
  have hlen : zn Z ≤ 12 := by rw [hn]; exact Nat.le_of_ble_eq_true rfl
  refine mr_aload_n C 1 dX0_keep_0 rfl rfl ?_
  refine mr_get C 0 4 dX0_keep_1 rfl fl_X0_15 rfl rfl ?_
  refine mr_bipush C (nI 23) 6 dX0_keep_4 rfl rfl ?_
  refine mr_imul C (nI (x * 23)) 7 dX0_keep_6 rfl (pk_mul _ _) ?_
  refine mr_istore_n C 8 dX0_keep_7 rfl rfl (by decide) ?_
  refine mr_aload_n C 9 dX0_keep_8 rfl rfl ?_
  refine mr_get C 2 12 dX0_keep_9 rfl fl_X0_19 rfl rfl ?_
  refine mr_iconst C (nI 0) 13 dX0_keep_12 rfl rfl ?_
  refine mr_aload_n C 14 dX0_keep_13 rfl rfl ?_
  refine mr_get C 0 17 dX0_keep_14 rfl fl_X0_11 rfl rfl ?_
  refine mr_iload_n C 18 dX0_keep_17 rfl rfl ?_
  refine mr_iconst C (nI 0) 19 dX0_keep_18 rfl rfl ?_
  refine mr_iadd C (nI ((x * 23) + 0)) 20 dX0_keep_19 rfl (nI_add _ _) ?_
  refine mr_bipush C (nI 6) 22 dX0_keep_20 rfl rfl ?_
  refine mr_copy C 4 1 0 ((x * 23) + 0) 6 25 dX0_keep_22 rfl ml_X0_24 rfl rfl rfl rfl rfl (by omega) (by omega) (by decide) (by decide) (Nat.le_of_ble_eq_true rfl) (by decide) ?_
  refine mr_aload_n C 26 dX0_keep_25 rfl rfl ?_
  refine mr_get C 2 29 dX0_keep_26 rfl fl_X0_30 rfl rfl ?_
  refine mr_iconst C (nI 0) 30 dX0_keep_29 rfl rfl ?_
  refine mr_aload_n C 31 dX0_keep_30 rfl rfl ?_
  refine mr_get C 0 34 dX0_keep_31 rfl fl_X0_11 rfl rfl ?_
  refine mr_iload_n C 35 dX0_keep_34 rfl rfl ?_
  refine mr_bipush C (nI 6) 37 dX0_keep_35 rfl rfl ?_
  refine mr_iadd C (nI ((x * 23) + 6)) 38 dX0_keep_37 rfl (nI_add _ _) ?_
  refine mr_bipush C (nI 6) 40 dX0_keep_38 rfl rfl ?_
  refine mr_copy C 5 1 0 ((x * 23) + 6) 6 43 dX0_keep_40 rfl ml_X0_24 rfl rfl rfl rfl rfl (by omega) (by omega) (by decide) (by decide) (Nat.le_of_ble_eq_true rfl) (by decide) ?_
  refine mr_aload_n C 44 dX0_keep_43 rfl rfl ?_
  refine mr_get C 2 47 dX0_keep_44 rfl fl_X0_33 rfl rfl ?_
  refine mr_iconst C (nI 0) 48 dX0_keep_47 rfl rfl ?_
  refine mr_aload_n C 49 dX0_keep_48 rfl rfl ?_
  refine mr_get C 0 52 dX0_keep_49 rfl fl_X0_11 rfl rfl ?_
  refine mr_iload_n C 53 dX0_keep_52 rfl rfl ?_
  refine mr_bipush C (nI 12) 55 dX0_keep_53 rfl rfl ?_
  refine mr_iadd C (nI ((x * 23) + 12)) 56 dX0_keep_55 rfl (nI_add _ _) ?_
  refine mr_iconst C (nI 5) 57 dX0_keep_56 rfl rfl ?_
  refine mr_copy C 7 1 0 ((x * 23) + 12) 5 60 dX0_keep_57 rfl ml_X0_24 rfl rfl rfl rfl rfl (by omega) (by omega) (by decide) (by decide) (Nat.le_of_ble_eq_true rfl) (by decide) ?_
  refine mr_aload_n C 61 dX0_keep_60 rfl rfl ?_
  refine mr_get C 2 64 dX0_keep_61 rfl fl_X0_36 rfl rfl ?_
  refine mr_iconst C (nI 0) 65 dX0_keep_64 rfl rfl ?_
  refine mr_aload_n C 66 dX0_keep_65 rfl rfl ?_
  refine mr_get C 0 69 dX0_keep_66 rfl fl_X0_11 rfl rfl ?_
  refine mr_iload_n C 70 dX0_keep_69 rfl rfl ?_
  refine mr_bipush C (nI 17) 72 dX0_keep_70 rfl rfl ?_
  refine mr_iadd C (nI ((x * 23) + 17)) 73 dX0_keep_72 rfl (nI_add _ _) ?_
  refine mr_iconst C (nI 5) 74 dX0_keep_73 rfl rfl ?_
  refine mr_copy C 8 1 0 ((x * 23) + 17) 5 77 dX0_keep_74 rfl ml_X0_24 rfl rfl rfl rfl rfl (by omega) (by omega) (by decide) (by decide) (Nat.le_of_ble_eq_true rfl) (by decide) ?_
  refine mr_aload_n C 78 dX0_keep_77 rfl rfl ?_
  refine mr_get C 0 81 dX0_keep_78 rfl fl_X0_11 rfl rfl ?_
  refine mr_iload_n C 82 dX0_keep_81 rfl rfl ?_
  refine mr_bipush C (nI 22) 84 dX0_keep_82 rfl rfl ?_
  refine mr_iadd C (nI ((x * 23) + 22)) 85 dX0_keep_84 rfl (nI_add _ _) ?_
  refine mr_aload_n C 86 dX0_keep_85 rfl rfl ?_
  refine mr_get C 2 89 dX0_keep_86 rfl fl_X0_39 rfl rfl ?_
  refine mr_iast C 1 ((x * 23) + 22) 90 dX0_keep_89 rfl rfl rfl (by omega) (by decide) ?_
  refine mr_aload_n C 91 dX0_keep_90 rfl rfl ?_
  refine mr_aload_n C 92 dX0_keep_91 rfl rfl ?_
  refine mr_get C 0 95 dX0_keep_92 rfl fl_X0_15 rfl rfl ?_
  refine mr_iconst C (nI 1) 96 dX0_keep_95 rfl rfl ?_
  refine mr_iadd C (nI (x + 1)) 97 dX0_keep_96 rfl (nI_add _ _) ?_
  refine mr_bipush C (nI 24) 99 dX0_keep_97 rfl rfl ?_
  refine mr_icmpge C 111 102 dX0_keep_99 (by decide) rfl (fun c_99 => ?_) (fun c_99 => ?_)
  · rw [nI_leI (by omega) (by omega)] at c_99
    refine mr_iconst C (nI 0) 112 dX0_keep_111 rfl rfl ?_
    refine mr_put C 0 115 dX0_keep_112 rfl fs_X0_15 rfl rfl rfl (Nat.le_of_ble_eq_true rfl) ?_
    refine mr_aload_n C 116 dX0_keep_115 rfl rfl ?_
    refine mr_aload_n C 117 dX0_keep_116 rfl rfl ?_
    refine mr_get C 0 120 dX0_keep_117 rfl fl_X0_42 rfl rfl ?_
    refine mr_iconst C (nI 1) 121 dX0_keep_120 rfl rfl ?_
    refine mr_iadd C (nI (h + 1)) 122 dX0_keep_121 rfl (nI_add _ _) ?_
    refine mr_bipush C (nI 24) 124 dX0_keep_122 rfl rfl ?_
    refine mr_min C 127 dX0_keep_124 rfl ml_X0_45 (Nat.le_of_ble_eq_true rfl) (by decide) (by decide) (by decide) ?_
    refine mr_put C 0 130 dX0_keep_127 rfl fs_X0_42 rfl rfl rfl (Nat.le_of_ble_eq_true rfl) ?_
    refine mr_vret C dX0_keep_130 rfl (by decide) (by decide) hlen ?_
    rw [hO]
    have e : (if x + 1 < 24 then x + 1 else 0) = 0 := if_neg (by omega)
    rw [e, ← minI (a := h + 1) (b := 24) (by omega) (by omega)]
    exact ⟨rfl, rfl⟩
  · rw [nI_leI (by omega) (by omega)] at c_99
    refine mr_aload_n C 103 dX0_keep_102 rfl rfl ?_
    refine mr_get C 0 106 dX0_keep_103 rfl fl_X0_15 rfl rfl ?_
    refine mr_iconst C (nI 1) 107 dX0_keep_106 rfl rfl ?_
    refine mr_iadd C (nI (x + 1)) 108 dX0_keep_107 rfl (nI_add _ _) ?_
    refine mr_goto C 112 dX0_keep_108 (by decide) ?_
    refine mr_put C 0 115 dX0_keep_112 rfl fs_X0_15 rfl rfl rfl (Nat.le_of_ble_eq_true rfl) ?_
    refine mr_aload_n C 116 dX0_keep_115 rfl rfl ?_
    refine mr_aload_n C 117 dX0_keep_116 rfl rfl ?_
    refine mr_get C 0 120 dX0_keep_117 rfl fl_X0_42 rfl rfl ?_
    refine mr_iconst C (nI 1) 121 dX0_keep_120 rfl rfl ?_
    refine mr_iadd C (nI (h + 1)) 122 dX0_keep_121 rfl (nI_add _ _) ?_
    refine mr_bipush C (nI 24) 124 dX0_keep_122 rfl rfl ?_
    refine mr_min C 127 dX0_keep_124 rfl ml_X0_45 (Nat.le_of_ble_eq_true rfl) (by decide) (by decide) (by decide) ?_
    refine mr_put C 0 130 dX0_keep_127 rfl fs_X0_42 rfl rfl rfl (Nat.le_of_ble_eq_true rfl) ?_
    refine mr_vret C dX0_keep_130 rfl (by decide) (by decide) hlen ?_
    rw [hO]
    have e : (if x + 1 < 24 then x + 1 else 0) = x + 1 := if_pos (by omega)
    rw [e, ← minI (a := h + 1) (b := 24) (by omega) (by omega)]
    exact ⟨rfl, rfl⟩

set_option maxRecDepth 20000 in
set_option maxHeartbeats 4000000 in
theorem c_takeBack (E : EG) (a : Nat → Nat) (b b2 : Nat) (kp : FN) (x h y : Nat) (se sn be so lo he inn al go : FN) (ro cr gn gu gr : Int32) (sn2 be2 lo2 he2 : FN) (gn2 : Int32) (hx : x < 24) (hh : h ≤ 24) (h1 : 1 ≤ h) (hy : y = if 0 < x then x - 1 else 23) (hs : SL kp y sn2 be2 lo2 he2 gn2) : Ctr E mX0_takeBack (2, 0, 0) [.ref (a b), .ref (a b2)] (wA E a b kp (nI h) (nI x) ++ wH E a b2 se sn be so lo he inn al go ro cr gn gu gr) (fun v w => ∃ f1 f2 f3 f4 : FN, v = none ∧ w = wA E a b kp (nI (h - 1)) (nI y) ++ wH E a b2 se f1 f2 so f3 f4 inn al go ro cr (kp (y * 23 + 22)) gu gr ∧ Ag 6 f1 sn2 ∧ Ag 6 f2 be2 ∧ Ag 5 f3 lo2 ∧ Ag 5 f4 he2) := by
  refine Ctr.of (by decide) (Nat.le_of_ble_eq_true rfl) ?_
  intro Z hO hn C
  have hlen : zn Z ≤ 12 := by rw [hn]; exact Nat.le_of_ble_eq_true rfl
  have hy24 : y < 24 := by rw [hy]; split <;> omega
  have L : V E mX0_takeBack (2, 0, 0) Z 0 0 (wA E a b kp (nI h) (nI x) ++ wH E a b2 se sn be so lo he inn al go ro cr gn gu gr) [(0, .ref (a b)), (1, .ref (a b2))] [.int (nI y), .ref (a b)] 19 := by
    refine mr_put C 0 22 dX0_takeBack_19 rfl fs_X0_15 rfl rfl rfl (Nat.le_of_ble_eq_true rfl) ?_
    refine mr_aload_n C 23 dX0_takeBack_22 rfl rfl ?_
    refine mr_dup C 24 dX0_takeBack_23 rfl rfl ?_
    refine mr_get C 0 27 dX0_takeBack_24 rfl fl_X0_42 rfl rfl ?_
    refine mr_iconst C (nI 1) 28 dX0_takeBack_27 rfl rfl ?_
    refine mr_isub C (nI (h - 1)) 29 dX0_takeBack_28 rfl (pk_sub (by omega)) ?_
    refine mr_put C 0 32 dX0_takeBack_29 rfl fs_X0_42 rfl rfl rfl (Nat.le_of_ble_eq_true rfl) ?_
    refine mr_aload_n C 33 dX0_takeBack_32 rfl rfl ?_
    refine mr_get C 0 36 dX0_takeBack_33 rfl fl_X0_15 rfl rfl ?_
    refine mr_bipush C (nI 23) 38 dX0_takeBack_36 rfl rfl ?_
    refine mr_imul C (nI (y * 23)) 39 dX0_takeBack_38 rfl (pk_mul _ _) ?_
    refine mr_istore_n C 40 dX0_takeBack_39 rfl rfl (by decide) ?_
    refine mr_aload_n C 41 dX0_takeBack_40 rfl rfl ?_
    refine mr_get C 0 44 dX0_takeBack_41 rfl fl_X0_11 rfl rfl ?_
    refine mr_iload_n C 45 dX0_takeBack_44 rfl rfl ?_
    refine mr_iconst C (nI 0) 46 dX0_takeBack_45 rfl rfl ?_
    refine mr_iadd C (nI ((y * 23) + 0)) 47 dX0_takeBack_46 rfl (nI_add _ _) ?_
    refine mr_aload_n C 48 dX0_takeBack_47 rfl rfl ?_
    refine mr_get C 2 51 dX0_takeBack_48 rfl fl_X0_19 rfl rfl ?_
    refine mr_iconst C (nI 0) 52 dX0_takeBack_51 rfl rfl ?_
    refine mr_bipush C (nI 6) 54 dX0_takeBack_52 rfl rfl ?_
    refine mr_copy C 1 4 ((y * 23) + 0) 0 6 57 dX0_takeBack_54 rfl ml_X0_24 rfl rfl rfl rfl rfl (by omega) (by omega) (by decide) (by decide) (Nat.le_of_ble_eq_true rfl) (by decide) ?_
    refine mr_aload_n C 58 dX0_takeBack_57 rfl rfl ?_
    refine mr_get C 0 61 dX0_takeBack_58 rfl fl_X0_11 rfl rfl ?_
    refine mr_iload_n C 62 dX0_takeBack_61 rfl rfl ?_
    refine mr_bipush C (nI 6) 64 dX0_takeBack_62 rfl rfl ?_
    refine mr_iadd C (nI ((y * 23) + 6)) 65 dX0_takeBack_64 rfl (nI_add _ _) ?_
    refine mr_aload_n C 66 dX0_takeBack_65 rfl rfl ?_
    refine mr_get C 2 69 dX0_takeBack_66 rfl fl_X0_30 rfl rfl ?_
    refine mr_iconst C (nI 0) 70 dX0_takeBack_69 rfl rfl ?_
    refine mr_bipush C (nI 6) 72 dX0_takeBack_70 rfl rfl ?_
    refine mr_copy C 1 5 ((y * 23) + 6) 0 6 75 dX0_takeBack_72 rfl ml_X0_24 rfl rfl rfl rfl rfl (by omega) (by omega) (by decide) (by decide) (Nat.le_of_ble_eq_true rfl) (by decide) ?_
    refine mr_aload_n C 76 dX0_takeBack_75 rfl rfl ?_
    refine mr_get C 0 79 dX0_takeBack_76 rfl fl_X0_11 rfl rfl ?_
    refine mr_iload_n C 80 dX0_takeBack_79 rfl rfl ?_
    refine mr_bipush C (nI 12) 82 dX0_takeBack_80 rfl rfl ?_
    refine mr_iadd C (nI ((y * 23) + 12)) 83 dX0_takeBack_82 rfl (nI_add _ _) ?_
    refine mr_aload_n C 84 dX0_takeBack_83 rfl rfl ?_
    refine mr_get C 2 87 dX0_takeBack_84 rfl fl_X0_33 rfl rfl ?_
    refine mr_iconst C (nI 0) 88 dX0_takeBack_87 rfl rfl ?_
    refine mr_iconst C (nI 5) 89 dX0_takeBack_88 rfl rfl ?_
    refine mr_copy C 1 7 ((y * 23) + 12) 0 5 92 dX0_takeBack_89 rfl ml_X0_24 rfl rfl rfl rfl rfl (by omega) (by omega) (by decide) (by decide) (Nat.le_of_ble_eq_true rfl) (by decide) ?_
    refine mr_aload_n C 93 dX0_takeBack_92 rfl rfl ?_
    refine mr_get C 0 96 dX0_takeBack_93 rfl fl_X0_11 rfl rfl ?_
    refine mr_iload_n C 97 dX0_takeBack_96 rfl rfl ?_
    refine mr_bipush C (nI 17) 99 dX0_takeBack_97 rfl rfl ?_
    refine mr_iadd C (nI ((y * 23) + 17)) 100 dX0_takeBack_99 rfl (nI_add _ _) ?_
    refine mr_aload_n C 101 dX0_takeBack_100 rfl rfl ?_
    refine mr_get C 2 104 dX0_takeBack_101 rfl fl_X0_36 rfl rfl ?_
    refine mr_iconst C (nI 0) 105 dX0_takeBack_104 rfl rfl ?_
    refine mr_iconst C (nI 5) 106 dX0_takeBack_105 rfl rfl ?_
    refine mr_copy C 1 8 ((y * 23) + 17) 0 5 109 dX0_takeBack_106 rfl ml_X0_24 rfl rfl rfl rfl rfl (by omega) (by omega) (by decide) (by decide) (Nat.le_of_ble_eq_true rfl) (by decide) ?_
    refine mr_aload_n C 110 dX0_takeBack_109 rfl rfl ?_
    refine mr_aload_n C 111 dX0_takeBack_110 rfl rfl ?_
    refine mr_get C 0 114 dX0_takeBack_111 rfl fl_X0_11 rfl rfl ?_
    refine mr_iload_n C 115 dX0_takeBack_114 rfl rfl ?_
    refine mr_bipush C (nI 22) 117 dX0_takeBack_115 rfl rfl ?_
    refine mr_iadd C (nI ((y * 23) + 22)) 118 dX0_takeBack_117 rfl (nI_add _ _) ?_
    refine mr_iald C 1 ((y * 23) + 22) 119 dX0_takeBack_118 rfl rfl rfl (by omega) (by decide) ?_
    refine mr_put C 2 122 dX0_takeBack_119 rfl fs_X0_39 rfl rfl rfl (Nat.le_of_ble_eq_true rfl) ?_
    refine mr_vret C dX0_takeBack_122 rfl (by decide) (by decide) hlen ?_
    rw [hO]
    refine ⟨_, _, _, _, rfl, rfl, ?_, ?_, ?_, ?_⟩
    · intro j hj
      rw [pk_cpy_in (by omega) (by omega), ← hs.1 j hj]
      congr 1 <;> omega
    · intro j hj
      rw [pk_cpy_in (by omega) (by omega), ← hs.2.1 j hj]
      congr 1 <;> omega
    · intro j hj
      rw [pk_cpy_in (by omega) (by omega), ← hs.2.2.1 j hj]
      congr 1 <;> omega
    · intro j hj
      rw [pk_cpy_in (by omega) (by omega), ← hs.2.2.2.1 j hj]
      congr 1 <;> omega
  refine mr_aload_n C 1 dX0_takeBack_0 rfl rfl ?_
  refine mr_aload_n C 2 dX0_takeBack_1 rfl rfl ?_
  refine mr_get C 0 5 dX0_takeBack_2 rfl fl_X0_15 rfl rfl ?_
  refine mr_ifle C 17 8 dX0_takeBack_5 (by decide) rfl (fun c_5 => ?_) (fun c_5 => ?_)
  · have c_5 : ¬ 0 < x := fun h => absurd c_5 (Int32.not_le.mpr (nI_lt h (by omega)))
    refine mr_bipush C (nI 23) 19 dX0_takeBack_17 rfl rfl ?_
    have e : y = 23 := by rw [hy]; exact if_neg (by omega)
    rw [e] at L
    exact mr_at L rfl rfl rfl
  · have c_5 : 0 < x := by
      rcases Nat.eq_zero_or_pos x with h | h
      · subst h; exact absurd (Int32.le_refl _) c_5
      · exact h
    refine mr_aload_n C 9 dX0_takeBack_8 rfl rfl ?_
    refine mr_get C 0 12 dX0_takeBack_9 rfl fl_X0_15 rfl rfl ?_
    refine mr_iconst C (nI 1) 13 dX0_takeBack_12 rfl rfl ?_
    refine mr_isub C (nI (x - 1)) 14 dX0_takeBack_13 rfl (pk_sub (by omega)) ?_
    refine mr_goto C 19 dX0_takeBack_14 (by decide) ?_
    have e : y = x - 1 := by rw [hy]; exact if_pos (by omega)
    rw [e] at L
    exact mr_at L rfl rfl rfl

set_option maxRecDepth 20000 in
set_option maxHeartbeats 4000000 in
theorem c_forgetAll (E : EG) (a : Nat → Nat) (b : Nat) (kp : FN) (hd nx : Int32) : Ctr E mX0_forgetAll (1, 0, 0) [.ref (a b)] (wA E a b kp hd nx) (fun v w => v = none ∧ w = wA E a b kp (nI 0) (nI 0)) := by
  refine Ctr.of (by decide) (Nat.le_of_ble_eq_true rfl) ?_
  intro Z hO hn C
  have hlen : zn Z ≤ 2 := by rw [hn]; exact Nat.le_of_ble_eq_true rfl
  refine mr_aload_n C 1 dX0_forgetAll_0 rfl rfl ?_
  refine mr_iconst C (nI 0) 2 dX0_forgetAll_1 rfl rfl ?_
  refine mr_put C 0 5 dX0_forgetAll_2 rfl fs_X0_42 rfl rfl rfl (Nat.le_of_ble_eq_true rfl) ?_
  refine mr_aload_n C 6 dX0_forgetAll_5 rfl rfl ?_
  refine mr_iconst C (nI 0) 7 dX0_forgetAll_6 rfl rfl ?_
  refine mr_put C 0 10 dX0_forgetAll_7 rfl fs_X0_15 rfl rfl rfl (Nat.le_of_ble_eq_true rfl) ?_
  refine mr_vret C dX0_forgetAll_10 rfl (by decide) (by decide) hlen ?_
  rw [hO]
  exact ⟨rfl, rfl⟩
end
section
/-! Tape -/
abbrev pB (x : Int32) : Prop := x = nI 32 ∨ x = nI 10
abbrev pL (x : Int32) : Prop := nI 97 ≤ x ∧ x ≤ nI 122
abbrev pF (x : Int32) : Prop := nI 48 ≤ x ∧ x ≤ nI 57
/-- from p on, while P holds, d places at most -/
def scn (P : Int32 → Prop) [DecidablePred P] (t : FN) : Nat → Nat → Nat
  | 0, p => p
  | d + 1, p => if P (t p) then scn P t d (p + 1) else p
theorem scn_t {P : Int32 → Prop} [DecidablePred P] {t : FN} {S p : Nat} (hp : p < S) (h : P (t p)) : scn P t (S - p) p = scn P t (S - (p + 1)) (p + 1) := by
  obtain ⟨d, hd⟩ : ∃ d, S - p = d + 1 := ⟨S - p - 1, by omega⟩
  rw [hd, show S - (p + 1) = d by omega]
  exact if_pos h
theorem scn_f {P : Int32 → Prop} [DecidablePred P] {t : FN} {S p : Nat} (hp : p < S) (h : ¬ P (t p)) : scn P t (S - p) p = p := by
  obtain ⟨d, hd⟩ : ∃ d, S - p = d + 1 := ⟨S - p - 1, by omega⟩
  rw [hd]
  exact if_neg h
theorem scn_e {P : Int32 → Prop} [DecidablePred P] {t : FN} {S p : Nat} (hp : S ≤ p) : scn P t (S - p) p = p := by
  rw [show S - p = 0 by omega]; rfl
theorem scn_in {P : Int32 → Prop} [DecidablePred P] {t : FN} : ∀ d p, p ≤ scn P t d p ∧ scn P t d p ≤ p + d
  | 0, p => ⟨Nat.le_refl _, Nat.le_refl _⟩
  | d + 1, p => by
    have := scn_in (P := P) (t := t) d (p + 1)
    unfold scn
    split <;> omega
theorem scn_le {P : Int32 → Prop} [DecidablePred P] {t : FN} {S p : Nat} (h : p ≤ S) : p ≤ scn P t (S - p) p ∧ scn P t (S - p) p ≤ S := by
  have := scn_in (P := P) (t := t) (S - p) p
  omega
theorem subl (s k : Nat) : nI (s + k) - nI s = nI k := by rw [pk_sub (by omega)]; congr 1; omega
/-- the number that k figures tell -/
def valS (t : FN) (s : Nat) : Nat → Int32
  | 0 => nI 0
  | k + 1 => valS t s k * nI 10 + t (s + k) - nI 48
/-- the token behind p: where it starts, its kind, where it ends -/
def stS (t : FN) (S p : Nat) : Nat := scn pB t (S - p) p
def tkS (t : FN) (S p : Nat) : Nat := if S ≤ stS t S p then 0 else if pL (t (stS t S p)) then 1 else if pF (t (stS t S p)) then (if scn pF t (S - stS t S p) (stS t S p) - stS t S p ≤ 3 then 2 else 4) else if t (stS t S p) = nI 59 then 3 else 4
def nxS (t : FN) (S p : Nat) : Nat := if S ≤ stS t S p then stS t S p else if pL (t (stS t S p)) then scn pL t (S - stS t S p) (stS t S p) else if pF (t (stS t S p)) then scn pF t (S - stS t S p) (stS t S p) else stS t S p + 1
theorem stS_le {t : FN} {S p : Nat} (h : p ≤ S) : p ≤ stS t S p ∧ stS t S p ≤ S := scn_le h
theorem nxS_le {t : FN} {S p : Nat} (h : p ≤ S) : stS t S p ≤ nxS t S p ∧ nxS t S p ≤ S := by
  have h1 := stS_le (t := t) h
  unfold nxS
  split
  · omega
  · split
    · exact scn_le h1.2
    · split
      · exact scn_le h1.2
      · omega
set_option maxRecDepth 20000 in
set_option maxHeartbeats 4000000 in
theorem c_isBlank (E : EG) (x : Int32) : Ctr E mX6_isBlank (0, 0, 0) [.int x] ([]) (fun v w => v = some (.int (bI (pB x))) ∧ w = []) := by
  refine Ctr.of (by decide) (Nat.le_of_ble_eq_true rfl) ?_
  intro Z hO hn C
  have hlen : zn Z ≤ 0 := by rw [hn]; exact Nat.le_of_ble_eq_true rfl
  refine mr_iload_n C 1 dX6_isBlank_0 rfl rfl ?_
  refine mr_bipush C (nI 32) 3 dX6_isBlank_1 rfl rfl ?_
  refine mr_icmpeq C 12 6 dX6_isBlank_3 (by decide) rfl (fun c_3 => ?_) (fun c_3 => ?_)
  · refine mr_iconst C (nI 1) 13 dX6_isBlank_12 rfl rfl ?_
    refine mr_goto C 17 dX6_isBlank_13 (by decide) ?_
    refine mr_iret C dX6_isBlank_17 rfl rfl (by decide) (by decide) hlen ?_
    rw [hO]
    exact ⟨congrArg (fun z => some (Value.int z)) (bI_t (Or.inl c_3)), rfl⟩
  · refine mr_iload_n C 7 dX6_isBlank_6 rfl rfl ?_
    refine mr_bipush C (nI 10) 9 dX6_isBlank_7 rfl rfl ?_
    refine mr_icmpne C 16 12 dX6_isBlank_9 (by decide) rfl (fun c_9 => ?_) (fun c_9 => ?_)
    · refine mr_iconst C (nI 0) 17 dX6_isBlank_16 rfl rfl ?_
      refine mr_iret C dX6_isBlank_17 rfl rfl (by decide) (by decide) hlen ?_
      rw [hO]
      exact ⟨congrArg (fun z => some (Value.int z)) (bI_f (fun h => h.elim c_3 c_9)), rfl⟩
    · refine mr_iconst C (nI 1) 13 dX6_isBlank_12 rfl rfl ?_
      refine mr_goto C 17 dX6_isBlank_13 (by decide) ?_
      refine mr_iret C dX6_isBlank_17 rfl rfl (by decide) (by decide) hlen ?_
      rw [hO]
      exact ⟨congrArg (fun z => some (Value.int z)) (bI_t (Or.inr c_9)), rfl⟩

set_option maxRecDepth 20000 in
set_option maxHeartbeats 4000000 in
theorem c_isLetter (E : EG) (x : Int32) : Ctr E mX6_isLetter (0, 0, 0) [.int x] ([]) (fun v w => v = some (.int (bI (pL x))) ∧ w = []) := by
  refine Ctr.of (by decide) (Nat.le_of_ble_eq_true rfl) ?_
  intro Z hO hn C
  have hlen : zn Z ≤ 0 := by rw [hn]; exact Nat.le_of_ble_eq_true rfl
  refine mr_iload_n C 1 dX6_isLetter_0 rfl rfl ?_
  refine mr_bipush C (nI 97) 3 dX6_isLetter_1 rfl rfl ?_
  refine mr_icmplt C 16 6 dX6_isLetter_3 (by decide) rfl (fun c_3 => ?_) (fun c_3 => ?_)
  · refine mr_iconst C (nI 0) 17 dX6_isLetter_16 rfl rfl ?_
    refine mr_iret C dX6_isLetter_17 rfl rfl (by decide) (by decide) hlen ?_
    rw [hO]
    exact ⟨congrArg (fun z => some (Value.int z)) (bI_f (fun h => Int32.not_lt.mpr h.1 c_3)), rfl⟩
  · refine mr_iload_n C 7 dX6_isLetter_6 rfl rfl ?_
    refine mr_bipush C (nI 122) 9 dX6_isLetter_7 rfl rfl ?_
    refine mr_icmpgt C 16 12 dX6_isLetter_9 (by decide) rfl (fun c_9 => ?_) (fun c_9 => ?_)
    · refine mr_iconst C (nI 0) 17 dX6_isLetter_16 rfl rfl ?_
      refine mr_iret C dX6_isLetter_17 rfl rfl (by decide) (by decide) hlen ?_
      rw [hO]
      exact ⟨congrArg (fun z => some (Value.int z)) (bI_f (fun h => Int32.not_lt.mpr h.2 c_9)), rfl⟩
    · refine mr_iconst C (nI 1) 13 dX6_isLetter_12 rfl rfl ?_
      refine mr_goto C 17 dX6_isLetter_13 (by decide) ?_
      refine mr_iret C dX6_isLetter_17 rfl rfl (by decide) (by decide) hlen ?_
      rw [hO]
      exact ⟨congrArg (fun z => some (Value.int z)) (bI_t ⟨Int32.not_lt.mp c_3, Int32.not_lt.mp c_9⟩), rfl⟩

set_option maxRecDepth 20000 in
set_option maxHeartbeats 4000000 in
theorem c_isFigure (E : EG) (x : Int32) : Ctr E mX6_isFigure (0, 0, 0) [.int x] ([]) (fun v w => v = some (.int (bI (pF x))) ∧ w = []) := by
  refine Ctr.of (by decide) (Nat.le_of_ble_eq_true rfl) ?_
  intro Z hO hn C
  have hlen : zn Z ≤ 0 := by rw [hn]; exact Nat.le_of_ble_eq_true rfl
  refine mr_iload_n C 1 dX6_isFigure_0 rfl rfl ?_
  refine mr_bipush C (nI 48) 3 dX6_isFigure_1 rfl rfl ?_
  refine mr_icmplt C 16 6 dX6_isFigure_3 (by decide) rfl (fun c_3 => ?_) (fun c_3 => ?_)
  · refine mr_iconst C (nI 0) 17 dX6_isFigure_16 rfl rfl ?_
    refine mr_iret C dX6_isFigure_17 rfl rfl (by decide) (by decide) hlen ?_
    rw [hO]
    exact ⟨congrArg (fun z => some (Value.int z)) (bI_f (fun h => Int32.not_lt.mpr h.1 c_3)), rfl⟩
  · refine mr_iload_n C 7 dX6_isFigure_6 rfl rfl ?_
    refine mr_bipush C (nI 57) 9 dX6_isFigure_7 rfl rfl ?_
    refine mr_icmpgt C 16 12 dX6_isFigure_9 (by decide) rfl (fun c_9 => ?_) (fun c_9 => ?_)
    · refine mr_iconst C (nI 0) 17 dX6_isFigure_16 rfl rfl ?_
      refine mr_iret C dX6_isFigure_17 rfl rfl (by decide) (by decide) hlen ?_
      rw [hO]
      exact ⟨congrArg (fun z => some (Value.int z)) (bI_f (fun h => Int32.not_lt.mpr h.2 c_9)), rfl⟩
    · refine mr_iconst C (nI 1) 13 dX6_isFigure_12 rfl rfl ?_
      refine mr_goto C 17 dX6_isFigure_13 (by decide) ?_
      refine mr_iret C dX6_isFigure_17 rfl rfl (by decide) (by decide) hlen ?_
      rw [hO]
      exact ⟨congrArg (fun z => some (Value.int z)) (bI_t ⟨Int32.not_lt.mp c_3, Int32.not_lt.mp c_9⟩), rfl⟩

def byS (w : Int64) (k : Nat) : Int32 := ((w.toUInt64 >>> ((nI (8 * k)).toInt64.toUInt64 &&& Int64.toUInt64 63)).toInt64).toInt32 &&& nI 255
theorem sub1 (k : Nat) : nI k + Int32.ofInt (-1) = nI k - nI 1 := by
  rw [Int32.sub_eq_add_neg]; rfl
set_option maxRecDepth 20000 in
set_option maxHeartbeats 4000000 in
theorem c_append (E : EG) (a : Nat → Nat) (b : Nat) (t : FN) (tk sr nx vl : Int32) (w : Int64) (S m : Nat) (hm : m ≤ 8) (hS : S + m ≤ 400) : Ctr E mX6_append (1, 0, 0) [.ref (a b), .long w, .int (nI m)] (wT E a b t (nI S) tk sr nx vl) (fun v w1 => ∃ f : FN, v = none ∧ w1 = wT E a b f (nI (S + m)) tk sr nx vl ∧ (∀ j, j < S → f j = t j) ∧ ∀ j, j < m → f (S + j) = byS w (m - 1 - j)) := by
  refine Ctr.of (by decide) (Nat.le_of_ble_eq_true rfl) ?_
  intro Z hO hn C
  have hlen : zn Z ≤ 2 := by rw [hn]; exact Nat.le_of_ble_eq_true rfl
  have L : ∀ i, i ≤ m → ∀ f : FN, (∀ j, j < S → f j = t j) → (∀ j, j < i → f (S + j) = byS w (m - 1 - j)) → V E mX6_append (1, 0, 0) Z 0 0 (wT E a b f (nI (S + i)) tk sr nx vl) [(0, .ref (a b)), (1, .long w), (3, .int (nI m)), (4, .int (nI (m - i) - nI 1))] [] 5 := by
    refine lp_up m ?_
    intro i hi ih f hf1 hf2
    refine mr_iload C 7 dX6_append_5 rfl rfl ?_
    refine mr_iflt C 47 10 dX6_append_7 (by decide) rfl (fun c_7 => ?_) (fun c_7 => ?_)
    · refine mr_vret C dX6_append_47 rfl (by decide) (by decide) hlen ?_
      rw [hO]
      have hi : i = m := by
        rcases Nat.lt_or_ge i m with h | h
        · exact absurd (by rw [pk_sub (by omega : 1 ≤ m - i)] at c_7; exact c_7) (nI_pos (by omega))
        · omega
      subst hi
      exact ⟨f, rfl, rfl, hf1, hf2⟩
    · have hi2 : i < m := by
        rcases Nat.lt_or_ge i m with h | h
        · exact h
        · exact absurd (by rw [show m - i = 0 by omega]; decide) c_7
      refine mr_aload_n C 11 dX6_append_10 rfl rfl ?_
      refine mr_get C 0 14 dX6_append_11 rfl fl_X6_9 rfl rfl ?_
      refine mr_aload_n C 15 dX6_append_14 rfl rfl ?_
      refine mr_get C 0 18 dX6_append_15 rfl fl_X6_15 rfl rfl ?_
      refine mr_lload_n C 19 dX6_append_18 rfl rfl ?_
      refine mr_bipush C (nI 8) 21 dX6_append_19 rfl rfl ?_
      refine mr_iload C 23 dX6_append_21 rfl rfl ?_
      refine mr_imul C (nI (8 * (m - i - 1))) 24 dX6_append_23 rfl (by rw [pk_sub (by omega)]; exact pk_mul 8 _) ?_
      refine mr_lushr C _ 25 dX6_append_24 rfl rfl ?_
      refine mr_l2i C _ 26 dX6_append_25 rfl rfl ?_
      refine mr_sipush C (nI 255) 29 dX6_append_26 rfl rfl ?_
      refine mr_iand C _ 30 dX6_append_29 rfl rfl ?_
      refine mr_iast C 1 (S + i) 31 dX6_append_30 rfl rfl rfl (by omega) (by decide) ?_
      refine mr_aload_n C 32 dX6_append_31 rfl rfl ?_
      refine mr_dup C 33 dX6_append_32 rfl rfl ?_
      refine mr_get C 0 36 dX6_append_33 rfl fl_X6_15 rfl rfl ?_
      refine mr_iconst C (nI 1) 37 dX6_append_36 rfl rfl ?_
      refine mr_iadd C (nI ((S + i) + 1)) 38 dX6_append_37 rfl (nI_add _ _) ?_
      refine mr_put C 0 41 dX6_append_38 rfl fs_X6_15 rfl rfl rfl (Nat.le_of_ble_eq_true rfl) ?_
      refine mr_iinc C (nI (m - (i + 1)) - nI 1) 44 dX6_append_41 rfl rfl (by decide) (by rw [pk_sub (by omega : 1 ≤ m - i), show m - i - 1 = m - (i + 1) by omega]; exact sub1 _) ?_
      refine mr_goto C 5 dX6_append_44 (by decide) ?_
      refine mr_at (ih (by omega) _ ?_ ?_) rfl rfl rfl
      · intro j hj; rw [up_n (by omega)]; exact hf1 j hj
      · intro j hj
        rw [up_at]
        by_cases e : j = i
        · subst e; rw [if_pos rfl, show m - 1 - j = m - j - 1 by omega]; rfl
        · rw [if_neg (by omega)]; exact hf2 j (by omega)
  refine mr_iload_n C 1 dX6_append_0 rfl rfl ?_
  refine mr_iconst C (nI 1) 2 dX6_append_1 rfl rfl ?_
  refine mr_isub C _ 3 dX6_append_2 rfl rfl ?_
  refine mr_istore C 5 dX6_append_3 rfl (by decide) ?_
  exact mr_at (L 0 (Nat.zero_le _) t (fun j _ => rfl) (fun j h => absurd h (Nat.not_lt_zero j))) rfl rfl rfl

set_option maxRecDepth 20000 in
set_option maxHeartbeats 4000000 in
theorem c_passLetters (E : EG) (a : Nat → Nat) (b : Nat) (t : FN) (tk sr vl : Int32) (S p0 : Nat) (hS : S ≤ 400) (hp0 : p0 ≤ S) : Ctr E mX6_passLetters (1, 0, 0) [.ref (a b)] (wT E a b t (nI S) tk sr (nI p0) vl) (fun v w => v = none ∧ w = wT E a b t (nI S) (nI 1) sr (nI (scn pL t (S - p0) p0)) vl) := by
  refine Ctr.of (by decide) (Nat.le_of_ble_eq_true rfl) ?_
  intro Z hO hn C
  have hlen : zn Z ≤ 2 := by rw [hn]; exact Nat.le_of_ble_eq_true rfl
  generalize he0 : scn pL t (S - p0) p0 = e at hO
  have L : ∀ p, p ≤ S → scn pL t (S - p) p = e → V E mX6_passLetters (1, 0, 0) Z 0 0 (wT E a b t (nI S) (nI 1) sr (nI p) vl) [(0, .ref (a b))] [] 5 := by
    refine lp_up S ?_
    intro p hp ih he
    refine mr_aload_n C 6 dX6_passLetters_5 rfl rfl ?_
    refine mr_get C 0 9 dX6_passLetters_6 rfl fl_X6_19 rfl rfl ?_
    refine mr_aload_n C 10 dX6_passLetters_9 rfl rfl ?_
    refine mr_get C 0 13 dX6_passLetters_10 rfl fl_X6_15 rfl rfl ?_
    refine mr_icmpge C 44 16 dX6_passLetters_13 (by decide) rfl (fun c_13 => ?_) (fun c_13 => ?_)
    · rw [nI_leI (by omega) (by omega)] at c_13
      refine mr_vret C dX6_passLetters_44 rfl (by decide) (by decide) hlen ?_
      rw [hO]
      rw [scn_e c_13] at he
      subst he
      exact ⟨rfl, rfl⟩
    · rw [nI_leI (by omega) (by omega), Nat.not_le] at c_13
      refine mr_aload_n C 17 dX6_passLetters_16 rfl rfl ?_
      refine mr_get C 0 20 dX6_passLetters_17 rfl fl_X6_9 rfl rfl ?_
      refine mr_aload_n C 21 dX6_passLetters_20 rfl rfl ?_
      refine mr_get C 0 24 dX6_passLetters_21 rfl fl_X6_19 rfl rfl ?_
      refine mr_iald C 1 p 25 dX6_passLetters_24 rfl rfl rfl (by omega) (by decide) ?_
      refine mr_callS C (c_isLetter E (t p)) [] 28 dX6_passLetters_25 rfl mk_X6_isLetter ms_X6_isLetter ml_X6_35 rfl rfl rfl rfl (Nat.le_of_ble_eq_true rfl) (by decide) (by decide) (by decide) (fun r w1 hpost => ?_)
      obtain ⟨rfl, rfl⟩ := hpost
      refine mr_w (ws' := wT E a b t (nI S) (nI 1) sr (nI p) vl) rfl ?_
      refine mr_ifeq C 44 31 dX6_passLetters_28 (by decide) rfl (fun c_28 => ?_) (fun c_28 => ?_)
      · rw [bI_eq] at c_28
        refine mr_vret C dX6_passLetters_44 rfl (by decide) (by decide) hlen ?_
        rw [hO]
        rw [scn_f (by omega) c_28] at he
        subst he
        exact ⟨rfl, rfl⟩
      · rw [← Ne, bI_ne] at c_28
        refine mr_aload_n C 32 dX6_passLetters_31 rfl rfl ?_
        refine mr_dup C 33 dX6_passLetters_32 rfl rfl ?_
        refine mr_get C 0 36 dX6_passLetters_33 rfl fl_X6_19 rfl rfl ?_
        refine mr_iconst C (nI 1) 37 dX6_passLetters_36 rfl rfl ?_
        refine mr_iadd C (nI (p + 1)) 38 dX6_passLetters_37 rfl (nI_add _ _) ?_
        refine mr_put C 0 41 dX6_passLetters_38 rfl fs_X6_19 rfl rfl rfl (Nat.le_of_ble_eq_true rfl) ?_
        refine mr_goto C 5 dX6_passLetters_41 (by decide) ?_
        rw [scn_t c_13 c_28] at he
        exact mr_at (ih c_13 he) rfl rfl rfl
  refine mr_aload_n C 1 dX6_passLetters_0 rfl rfl ?_
  refine mr_iconst C (nI 1) 2 dX6_passLetters_1 rfl rfl ?_
  refine mr_put C 0 5 dX6_passLetters_2 rfl fs_X6_32 rfl rfl rfl (Nat.le_of_ble_eq_true rfl) ?_
  exact mr_at (L p0 hp0 he0) rfl rfl rfl

set_option maxRecDepth 20000 in
set_option maxHeartbeats 4000000 in
theorem c_passFigures (E : EG) (a : Nat → Nat) (b : Nat) (t : FN) (tk vl : Int32) (S s : Nat) (hS : S ≤ 400) (hs : s ≤ S) : Ctr E mX6_passFigures (1, 0, 0) [.ref (a b)] (wT E a b t (nI S) tk (nI s) (nI s) vl) (fun v w => v = none ∧ w = wT E a b t (nI S) (nI (if scn pF t (S - s) s - s ≤ 3 then 2 else 4)) (nI s) (nI (scn pF t (S - s) s)) (valS t s (min (scn pF t (S - s) s - s) 3))) := by
  refine Ctr.of (by decide) (Nat.le_of_ble_eq_true rfl) ?_
  intro Z hO hn C
  have hlen : zn Z ≤ 2 := by rw [hn]; exact Nat.le_of_ble_eq_true rfl
  generalize he0 : scn pF t (S - s) s = e at hO
  have LE : ∀ k, s + k ≤ S → s + k = e → V E mX6_passFigures (1, 0, 0) Z 0 0 (wT E a b t (nI S) tk (nI s) (nI (s + k)) (valS t s (min k 3))) [(0, .ref (a b))] [] 81 := by
    intro k hk hek
    have e4 : e - s = k := by omega
    rw [e4, ← hek] at hO
    refine mr_aload_n C 82 dX6_passFigures_81 rfl rfl ?_
    refine mr_aload_n C 83 dX6_passFigures_82 rfl rfl ?_
    refine mr_get C 0 86 dX6_passFigures_83 rfl fl_X6_19 rfl rfl ?_
    refine mr_aload_n C 87 dX6_passFigures_86 rfl rfl ?_
    refine mr_get C 0 90 dX6_passFigures_87 rfl fl_X6_29 rfl rfl ?_
    refine mr_isub C (nI k) 91 dX6_passFigures_90 rfl (subl s k) ?_
    refine mr_iconst C (nI 3) 92 dX6_passFigures_91 rfl rfl ?_
    refine mr_icmpgt C 99 95 dX6_passFigures_92 (by decide) rfl (fun c_92 => ?_) (fun c_92 => ?_)
    · rw [nI_ltI (by omega) (by omega)] at c_92
      refine mr_iconst C (nI 4) 100 dX6_passFigures_99 rfl rfl ?_
      refine mr_put C 0 103 dX6_passFigures_100 rfl fs_X6_32 rfl rfl rfl (Nat.le_of_ble_eq_true rfl) ?_
      refine mr_vret C dX6_passFigures_103 rfl (by decide) (by decide) hlen ?_
      rw [hO]
      have e : s + k = s + k := rfl
      refine ⟨rfl, ?_⟩
      rw [if_neg (by omega)]
      rfl
    · rw [nI_ltI (by omega) (by omega)] at c_92
      refine mr_iconst C (nI 2) 96 dX6_passFigures_95 rfl rfl ?_
      refine mr_goto C 100 dX6_passFigures_96 (by decide) ?_
      refine mr_put C 0 103 dX6_passFigures_100 rfl fs_X6_32 rfl rfl rfl (Nat.le_of_ble_eq_true rfl) ?_
      refine mr_vret C dX6_passFigures_103 rfl (by decide) (by decide) hlen ?_
      rw [hO]
      have e : s + k = s + k := rfl
      refine ⟨rfl, ?_⟩
      rw [if_pos (by omega)]
      rfl
  have L : ∀ k, k ≤ S - s → scn pF t (S - (s + k)) (s + k) = e → V E mX6_passFigures (1, 0, 0) Z 0 0 (wT E a b t (nI S) tk (nI s) (nI (s + k)) (valS t s (min k 3))) [(0, .ref (a b))] [] 5 := by
    refine lp_up (S - s) ?_
    intro k hk0 ih he
    have hk : s + k ≤ S := by omega
    refine mr_aload_n C 6 dX6_passFigures_5 rfl rfl ?_
    refine mr_get C 0 9 dX6_passFigures_6 rfl fl_X6_19 rfl rfl ?_
    refine mr_aload_n C 10 dX6_passFigures_9 rfl rfl ?_
    refine mr_get C 0 13 dX6_passFigures_10 rfl fl_X6_15 rfl rfl ?_
    refine mr_icmpge C 81 16 dX6_passFigures_13 (by decide) rfl (fun c_13 => ?_) (fun c_13 => ?_)
    · rw [nI_leI (by omega) (by omega)] at c_13
      rw [scn_e c_13] at he
      exact LE k hk he
    · rw [nI_leI (by omega) (by omega), Nat.not_le] at c_13
      refine mr_aload_n C 17 dX6_passFigures_16 rfl rfl ?_
      refine mr_get C 0 20 dX6_passFigures_17 rfl fl_X6_9 rfl rfl ?_
      refine mr_aload_n C 21 dX6_passFigures_20 rfl rfl ?_
      refine mr_get C 0 24 dX6_passFigures_21 rfl fl_X6_19 rfl rfl ?_
      refine mr_iald C 1 (s + k) 25 dX6_passFigures_24 rfl rfl rfl (by omega) (by decide) ?_
      refine mr_callS C (c_isFigure E (t (s + k))) [] 28 dX6_passFigures_25 rfl mk_X6_isFigure ms_X6_isFigure ml_X6_41 rfl rfl rfl rfl (Nat.le_of_ble_eq_true rfl) (by decide) (by decide) (by decide) (fun r w1 hpost => ?_)
      obtain ⟨rfl, rfl⟩ := hpost
      refine mr_w (ws' := wT E a b t (nI S) tk (nI s) (nI (s + k)) (valS t s (min k 3))) rfl ?_
      refine mr_ifeq C 81 31 dX6_passFigures_28 (by decide) rfl (fun c_28 => ?_) (fun c_28 => ?_)
      · rw [bI_eq] at c_28
        rw [scn_f (by omega) c_28] at he
        exact LE k hk he
      · rw [← Ne, bI_ne] at c_28
        refine mr_aload_n C 32 dX6_passFigures_31 rfl rfl ?_
        refine mr_get C 0 35 dX6_passFigures_32 rfl fl_X6_19 rfl rfl ?_
        refine mr_aload_n C 36 dX6_passFigures_35 rfl rfl ?_
        refine mr_get C 0 39 dX6_passFigures_36 rfl fl_X6_29 rfl rfl ?_
        refine mr_isub C (nI k) 40 dX6_passFigures_39 rfl (subl s k) ?_
        refine mr_iconst C (nI 3) 41 dX6_passFigures_40 rfl rfl ?_
        refine mr_icmpge C 68 44 dX6_passFigures_41 (by decide) rfl (fun c_41 => ?_) (fun c_41 => ?_)
        · rw [nI_leI (by omega) (by omega)] at c_41
          refine mr_aload_n C 69 dX6_passFigures_68 rfl rfl ?_
          refine mr_dup C 70 dX6_passFigures_69 rfl rfl ?_
          refine mr_get C 0 73 dX6_passFigures_70 rfl fl_X6_19 rfl rfl ?_
          refine mr_iconst C (nI 1) 74 dX6_passFigures_73 rfl rfl ?_
          refine mr_iadd C (nI ((s + k) + 1)) 75 dX6_passFigures_74 rfl (nI_add _ _) ?_
          refine mr_put C 0 78 dX6_passFigures_75 rfl fs_X6_19 rfl rfl rfl (Nat.le_of_ble_eq_true rfl) ?_
          refine mr_goto C 5 dX6_passFigures_78 (by decide) ?_
          rw [scn_t c_13 c_28] at he
          have e3 : valS t s (min (k + 1) 3) = valS t s (min k 3) := by rw [show min (k + 1) 3 = min k 3 by omega]
          have ih2 := ih (by omega) he
          rw [e3] at ih2
          exact mr_at ih2 rfl rfl rfl
        · rw [nI_leI (by omega) (by omega)] at c_41
          refine mr_aload_n C 45 dX6_passFigures_44 rfl rfl ?_
          refine mr_aload_n C 46 dX6_passFigures_45 rfl rfl ?_
          refine mr_get C 0 49 dX6_passFigures_46 rfl fl_X6_57 rfl rfl ?_
          refine mr_bipush C (nI 10) 51 dX6_passFigures_49 rfl rfl ?_
          refine mr_imul C _ 52 dX6_passFigures_51 rfl rfl ?_
          refine mr_aload_n C 53 dX6_passFigures_52 rfl rfl ?_
          refine mr_get C 0 56 dX6_passFigures_53 rfl fl_X6_9 rfl rfl ?_
          refine mr_aload_n C 57 dX6_passFigures_56 rfl rfl ?_
          refine mr_get C 0 60 dX6_passFigures_57 rfl fl_X6_19 rfl rfl ?_
          refine mr_iald C 1 (s + k) 61 dX6_passFigures_60 rfl rfl rfl (by omega) (by decide) ?_
          refine mr_iadd C _ 62 dX6_passFigures_61 rfl rfl ?_
          refine mr_bipush C (nI 48) 64 dX6_passFigures_62 rfl rfl ?_
          refine mr_isub C _ 65 dX6_passFigures_64 rfl rfl ?_
          refine mr_put C 0 68 dX6_passFigures_65 rfl fs_X6_57 rfl rfl rfl (Nat.le_of_ble_eq_true rfl) ?_
          refine mr_aload_n C 69 dX6_passFigures_68 rfl rfl ?_
          refine mr_dup C 70 dX6_passFigures_69 rfl rfl ?_
          refine mr_get C 0 73 dX6_passFigures_70 rfl fl_X6_19 rfl rfl ?_
          refine mr_iconst C (nI 1) 74 dX6_passFigures_73 rfl rfl ?_
          refine mr_iadd C (nI ((s + k) + 1)) 75 dX6_passFigures_74 rfl (nI_add _ _) ?_
          refine mr_put C 0 78 dX6_passFigures_75 rfl fs_X6_19 rfl rfl rfl (Nat.le_of_ble_eq_true rfl) ?_
          refine mr_goto C 5 dX6_passFigures_78 (by decide) ?_
          rw [scn_t c_13 c_28] at he
          have e3 : valS t s (min (k + 1) 3) = valS t s (min k 3) * nI 10 + t (s + k) - nI 48 := by rw [show min (k + 1) 3 = min k 3 + 1 by omega, show min k 3 = k by omega]; rfl
          have ih2 := ih (by omega) he
          rw [e3] at ih2
          exact mr_at ih2 rfl rfl rfl
  refine mr_aload_n C 1 dX6_passFigures_0 rfl rfl ?_
  refine mr_iconst C (nI 0) 2 dX6_passFigures_1 rfl rfl ?_
  refine mr_put C 0 5 dX6_passFigures_2 rfl fs_X6_57 rfl rfl rfl (Nat.le_of_ble_eq_true rfl) ?_
  exact mr_at (L 0 (Nat.zero_le _) he0) rfl rfl rfl
end
section
/-! Tape: a step -/
set_option maxRecDepth 20000 in
set_option maxHeartbeats 4000000 in
theorem c_step (E : EG) (a : Nat → Nat) (b : Nat) (t : FN) (tk sr vl : Int32) (S p0 : Nat) (hS : S ≤ 400) (hp0 : p0 ≤ S) : Ctr E mX6_step (2, 0, 0) [.ref (a b)] (wT E a b t (nI S) tk sr (nI p0) vl) (fun v w => ∃ vl2 : Int32, v = none ∧ w = wT E a b t (nI S) (nI (tkS t S p0)) (nI (stS t S p0)) (nI (nxS t S p0)) vl2 ∧ (tkS t S p0 = 2 → vl2 = valS t (stS t S p0) (nxS t S p0 - stS t S p0))) := by
  refine Ctr.of (by decide) (Nat.le_of_ble_eq_true rfl) ?_
  intro Z hO hn C
  have hlen : zn Z ≤ 2 := by rw [hn]; exact Nat.le_of_ble_eq_true rfl
  generalize he0 : stS t S p0 = s at hO
  have hs : s ≤ S := by rw [← he0]; exact (stS_le hp0).2
  have LE : s ≤ S → V E mX6_step (2, 0, 0) Z 0 0 (wT E a b t (nI S) tk sr (nI s) vl) [(0, .ref (a b))] [] 39 := by
    intro _
    refine mr_aload_n C 40 dX6_step_39 rfl rfl ?_
    refine mr_aload_n C 41 dX6_step_40 rfl rfl ?_
    refine mr_get C 0 44 dX6_step_41 rfl fl_X6_19 rfl rfl ?_
    refine mr_put C 0 47 dX6_step_44 rfl fs_X6_29 rfl rfl rfl (Nat.le_of_ble_eq_true rfl) ?_
    refine mr_aload_n C 48 dX6_step_47 rfl rfl ?_
    refine mr_get C 0 51 dX6_step_48 rfl fl_X6_19 rfl rfl ?_
    refine mr_aload_n C 52 dX6_step_51 rfl rfl ?_
    refine mr_get C 0 55 dX6_step_52 rfl fl_X6_15 rfl rfl ?_
    refine mr_icmplt C 66 58 dX6_step_55 (by decide) rfl (fun c_55 => ?_) (fun c_55 => ?_)
    · rw [nI_ltI (by omega) (by omega)] at c_55
      refine mr_aload_n C 67 dX6_step_66 rfl rfl ?_
      refine mr_get C 0 70 dX6_step_67 rfl fl_X6_9 rfl rfl ?_
      refine mr_aload_n C 71 dX6_step_70 rfl rfl ?_
      refine mr_get C 0 74 dX6_step_71 rfl fl_X6_19 rfl rfl ?_
      refine mr_iald C 1 s 75 dX6_step_74 rfl rfl rfl (by omega) (by decide) ?_
      refine mr_callS C (c_isLetter E (t s)) [] 78 dX6_step_75 rfl mk_X6_isLetter ms_X6_isLetter ml_X6_35 rfl rfl rfl rfl (Nat.le_of_ble_eq_true rfl) (by decide) (by decide) (by decide) (fun r w1 hpost => ?_)
      obtain ⟨rfl, rfl⟩ := hpost
      refine mr_w (ws' := wT E a b t (nI S) tk (nI s) (nI s) vl) rfl ?_
      refine mr_ifeq C 88 81 dX6_step_78 (by decide) rfl (fun c_78 => ?_) (fun c_78 => ?_)
      · rw [bI_eq] at c_78
        refine mr_aload_n C 89 dX6_step_88 rfl rfl ?_
        refine mr_get C 0 92 dX6_step_89 rfl fl_X6_9 rfl rfl ?_
        refine mr_aload_n C 93 dX6_step_92 rfl rfl ?_
        refine mr_get C 0 96 dX6_step_93 rfl fl_X6_19 rfl rfl ?_
        refine mr_iald C 1 s 97 dX6_step_96 rfl rfl rfl (by omega) (by decide) ?_
        refine mr_callS C (c_isFigure E (t s)) [] 100 dX6_step_97 rfl mk_X6_isFigure ms_X6_isFigure ml_X6_41 rfl rfl rfl rfl (Nat.le_of_ble_eq_true rfl) (by decide) (by decide) (by decide) (fun r w1 hpost => ?_)
        obtain ⟨rfl, rfl⟩ := hpost
        refine mr_w (ws' := wT E a b t (nI S) tk (nI s) (nI s) vl) rfl ?_
        refine mr_ifeq C 110 103 dX6_step_100 (by decide) rfl (fun c_100 => ?_) (fun c_100 => ?_)
        · rw [bI_eq] at c_100
          refine mr_aload_n C 111 dX6_step_110 rfl rfl ?_
          refine mr_aload_n C 112 dX6_step_111 rfl rfl ?_
          refine mr_get C 0 115 dX6_step_112 rfl fl_X6_9 rfl rfl ?_
          refine mr_aload_n C 116 dX6_step_115 rfl rfl ?_
          refine mr_get C 0 119 dX6_step_116 rfl fl_X6_19 rfl rfl ?_
          refine mr_iald C 1 s 120 dX6_step_119 rfl rfl rfl (by omega) (by decide) ?_
          refine mr_bipush C (nI 59) 122 dX6_step_120 rfl rfl ?_
          refine mr_icmpne C 129 125 dX6_step_122 (by decide) rfl (fun c_122 => ?_) (fun c_122 => ?_)
          · refine mr_iconst C (nI 4) 130 dX6_step_129 rfl rfl ?_
            refine mr_put C 0 133 dX6_step_130 rfl fs_X6_32 rfl rfl rfl (Nat.le_of_ble_eq_true rfl) ?_
            refine mr_aload_n C 134 dX6_step_133 rfl rfl ?_
            refine mr_dup C 135 dX6_step_134 rfl rfl ?_
            refine mr_get C 0 138 dX6_step_135 rfl fl_X6_19 rfl rfl ?_
            refine mr_iconst C (nI 1) 139 dX6_step_138 rfl rfl ?_
            refine mr_iadd C (nI (s + 1)) 140 dX6_step_139 rfl (nI_add _ _) ?_
            refine mr_put C 0 143 dX6_step_140 rfl fs_X6_19 rfl rfl rfl (Nat.le_of_ble_eq_true rfl) ?_
            refine mr_vret C dX6_step_143 rfl (by decide) (by decide) hlen ?_
            rw [hO]
            have ht : tkS t S p0 = 4 := by unfold tkS; rw [he0]; exact (if_neg (by omega)).trans ((if_neg c_78).trans ((if_neg c_100).trans (if_neg c_122)))
            have hnx : nxS t S p0 = s + 1 := by unfold nxS; rw [he0]; exact (if_neg (by omega)).trans ((if_neg c_78).trans (if_neg c_100))
            rw [ht, hnx]
            refine ⟨_, rfl, rfl, ?_⟩
            intro h; omega
          · refine mr_iconst C (nI 3) 126 dX6_step_125 rfl rfl ?_
            refine mr_goto C 130 dX6_step_126 (by decide) ?_
            refine mr_put C 0 133 dX6_step_130 rfl fs_X6_32 rfl rfl rfl (Nat.le_of_ble_eq_true rfl) ?_
            refine mr_aload_n C 134 dX6_step_133 rfl rfl ?_
            refine mr_dup C 135 dX6_step_134 rfl rfl ?_
            refine mr_get C 0 138 dX6_step_135 rfl fl_X6_19 rfl rfl ?_
            refine mr_iconst C (nI 1) 139 dX6_step_138 rfl rfl ?_
            refine mr_iadd C (nI (s + 1)) 140 dX6_step_139 rfl (nI_add _ _) ?_
            refine mr_put C 0 143 dX6_step_140 rfl fs_X6_19 rfl rfl rfl (Nat.le_of_ble_eq_true rfl) ?_
            refine mr_vret C dX6_step_143 rfl (by decide) (by decide) hlen ?_
            rw [hO]
            have ht : tkS t S p0 = 3 := by unfold tkS; rw [he0]; exact (if_neg (by omega)).trans ((if_neg c_78).trans ((if_neg c_100).trans (if_pos c_122)))
            have hnx : nxS t S p0 = s + 1 := by unfold nxS; rw [he0]; exact (if_neg (by omega)).trans ((if_neg c_78).trans (if_neg c_100))
            rw [ht, hnx]
            refine ⟨_, rfl, rfl, ?_⟩
            intro h; omega
        · rw [← Ne, bI_ne] at c_100
          refine mr_aload_n C 104 dX6_step_103 rfl rfl ?_
          refine mr_callV C (c_passFigures E a b t tk vl S s hS hs) [0, 1] 0 6 107 dX6_step_104 rfl mk_X6_passFigures mi_X6_passFigures ml_X6_44 rfl rfl rfl rfl rfl (Nat.le_of_ble_eq_true rfl) (by decide) (by decide) (by decide) rfl rfl (fun r w1 hpost => ?_)
          obtain ⟨rfl, rfl⟩ := hpost
          refine mr_w (ws' := wT E a b t (nI S) (nI (if scn pF t (S - s) s - s ≤ 3 then 2 else 4)) (nI s) (nI (scn pF t (S - s) s)) (valS t s (min (scn pF t (S - s) s - s) 3))) rfl ?_
          refine mr_goto C 143 dX6_step_107 (by decide) ?_
          refine mr_vret C dX6_step_143 rfl (by decide) (by decide) hlen ?_
          rw [hO]
          have ht : tkS t S p0 = (if scn pF t (S - s) s - s ≤ 3 then 2 else 4) := by unfold tkS; rw [he0]; exact (if_neg (by omega)).trans ((if_neg c_78).trans (if_pos c_100))
          have hnx : nxS t S p0 = scn pF t (S - s) s := by unfold nxS; rw [he0]; exact (if_neg (by omega)).trans ((if_neg c_78).trans (if_pos c_100))
          rw [ht, hnx]
          refine ⟨_, rfl, rfl, ?_⟩
          intro h
          have h3 : scn pF t (S - s) s - s ≤ 3 := by
            rcases Nat.lt_or_ge 3 (scn pF t (S - s) s - s) with k | k
            · rw [if_neg (by omega)] at h; omega
            · exact k
          rw [Nat.min_eq_left h3]
      · rw [← Ne, bI_ne] at c_78
        refine mr_aload_n C 82 dX6_step_81 rfl rfl ?_
        refine mr_callV C (c_passLetters E a b t tk (nI s) vl S s hS hs) [0, 1] 0 6 85 dX6_step_82 rfl mk_X6_passLetters mi_X6_passLetters ml_X6_38 rfl rfl rfl rfl rfl (Nat.le_of_ble_eq_true rfl) (by decide) (by decide) (by decide) rfl rfl (fun r w1 hpost => ?_)
        obtain ⟨rfl, rfl⟩ := hpost
        refine mr_w (ws' := wT E a b t (nI S) (nI 1) (nI s) (nI (scn pL t (S - s) s)) vl) rfl ?_
        refine mr_goto C 143 dX6_step_85 (by decide) ?_
        refine mr_vret C dX6_step_143 rfl (by decide) (by decide) hlen ?_
        rw [hO]
        have ht : tkS t S p0 = 1 := by unfold tkS; rw [he0]; exact (if_neg (by omega)).trans (if_pos c_78)
        have hnx : nxS t S p0 = scn pL t (S - s) s := by unfold nxS; rw [he0]; exact (if_neg (by omega)).trans (if_pos c_78)
        rw [ht, hnx]
        refine ⟨_, rfl, rfl, ?_⟩
        intro h; omega
    · rw [nI_ltI (by omega) (by omega), Nat.not_lt] at c_55
      refine mr_aload_n C 59 dX6_step_58 rfl rfl ?_
      refine mr_iconst C (nI 0) 60 dX6_step_59 rfl rfl ?_
      refine mr_put C 0 63 dX6_step_60 rfl fs_X6_32 rfl rfl rfl (Nat.le_of_ble_eq_true rfl) ?_
      refine mr_goto C 143 dX6_step_63 (by decide) ?_
      refine mr_vret C dX6_step_143 rfl (by decide) (by decide) hlen ?_
      rw [hO]
      have ht : tkS t S p0 = 0 := by unfold tkS; rw [he0]; exact if_pos (by omega)
      have hnx : nxS t S p0 = s := by unfold nxS; rw [he0]; exact if_pos (by omega)
      rw [ht, hnx]
      refine ⟨_, rfl, rfl, ?_⟩
      intro h; omega
  have L : ∀ p, p ≤ S → scn pB t (S - p) p = s → V E mX6_step (2, 0, 0) Z 0 0 (wT E a b t (nI S) tk sr (nI p) vl) [(0, .ref (a b))] [] 0 := by
    refine lp_up S ?_
    intro p hp ih he
    refine mr_aload_n C 1 dX6_step_0 rfl rfl ?_
    refine mr_get C 0 4 dX6_step_1 rfl fl_X6_19 rfl rfl ?_
    refine mr_aload_n C 5 dX6_step_4 rfl rfl ?_
    refine mr_get C 0 8 dX6_step_5 rfl fl_X6_15 rfl rfl ?_
    refine mr_icmpge C 39 11 dX6_step_8 (by decide) rfl (fun c_8 => ?_) (fun c_8 => ?_)
    · rw [nI_leI (by omega) (by omega)] at c_8
      rw [scn_e c_8] at he
      subst he
      exact LE (by omega)
    · rw [nI_leI (by omega) (by omega), Nat.not_le] at c_8
      refine mr_aload_n C 12 dX6_step_11 rfl rfl ?_
      refine mr_get C 0 15 dX6_step_12 rfl fl_X6_9 rfl rfl ?_
      refine mr_aload_n C 16 dX6_step_15 rfl rfl ?_
      refine mr_get C 0 19 dX6_step_16 rfl fl_X6_19 rfl rfl ?_
      refine mr_iald C 1 p 20 dX6_step_19 rfl rfl rfl (by omega) (by decide) ?_
      refine mr_callS C (c_isBlank E (t p)) [] 23 dX6_step_20 rfl mk_X6_isBlank ms_X6_isBlank ml_X6_25 rfl rfl rfl rfl (Nat.le_of_ble_eq_true rfl) (by decide) (by decide) (by decide) (fun r w1 hpost => ?_)
      obtain ⟨rfl, rfl⟩ := hpost
      refine mr_w (ws' := wT E a b t (nI S) tk sr (nI p) vl) rfl ?_
      refine mr_ifeq C 39 26 dX6_step_23 (by decide) rfl (fun c_23 => ?_) (fun c_23 => ?_)
      · rw [bI_eq] at c_23
        rw [scn_f (by omega) c_23] at he
        subst he
        exact LE (by omega)
      · rw [← Ne, bI_ne] at c_23
        refine mr_aload_n C 27 dX6_step_26 rfl rfl ?_
        refine mr_dup C 28 dX6_step_27 rfl rfl ?_
        refine mr_get C 0 31 dX6_step_28 rfl fl_X6_19 rfl rfl ?_
        refine mr_iconst C (nI 1) 32 dX6_step_31 rfl rfl ?_
        refine mr_iadd C (nI (p + 1)) 33 dX6_step_32 rfl (nI_add _ _) ?_
        refine mr_put C 0 36 dX6_step_33 rfl fs_X6_19 rfl rfl rfl (Nat.le_of_ble_eq_true rfl) ?_
        refine mr_goto C 0 dX6_step_36 (by decide) ?_
        rw [scn_t c_8 c_23] at he
        exact mr_at (ih c_8 he) rfl rfl rfl
  exact mr_at (L p0 hp0 he0) rfl rfl rfl

set_option maxRecDepth 20000 in
set_option maxHeartbeats 4000000 in
theorem c_rewind (E : EG) (a : Nat → Nat) (b : Nat) (t : FN) (tk sr nx vl : Int32) (S : Nat) (hS : S ≤ 400) : Ctr E mX6_rewind (3, 0, 0) [.ref (a b)] (wT E a b t (nI S) tk sr nx vl) (fun v w => ∃ vl2 : Int32, v = none ∧ w = wT E a b t (nI S) (nI (tkS t S 0)) (nI (stS t S 0)) (nI (nxS t S 0)) vl2 ∧ (tkS t S 0 = 2 → vl2 = valS t (stS t S 0) (nxS t S 0 - stS t S 0))) := by
  refine Ctr.of (by decide) (Nat.le_of_ble_eq_true rfl) ?_
  intro Z hO hn C
  have hlen : zn Z ≤ 2 := by rw [hn]; exact Nat.le_of_ble_eq_true rfl
  refine mr_aload_n C 1 dX6_rewind_0 rfl rfl ?_
  refine mr_iconst C (nI 0) 2 dX6_rewind_1 rfl rfl ?_
  refine mr_put C 0 5 dX6_rewind_2 rfl fs_X6_19 rfl rfl rfl (Nat.le_of_ble_eq_true rfl) ?_
  refine mr_aload_n C 6 dX6_rewind_5 rfl rfl ?_
  refine mr_callV C (c_step E a b t tk sr vl S 0 hS (Nat.zero_le _)) [0, 1] 0 6 9 dX6_rewind_6 rfl mk_X6_step mi_X6_step ml_X6_22 rfl rfl rfl rfl rfl (Nat.le_of_ble_eq_true rfl) (by decide) (by decide) (by decide) rfl rfl (fun r w1 hpost => ?_)
  obtain ⟨vl2, rfl, rfl, hv⟩ := hpost
  refine mr_w (ws' := wT E a b t (nI S) (nI (tkS t S 0)) (nI (stS t S 0)) (nI (nxS t S 0)) vl2) rfl ?_
  refine mr_vret C dX6_rewind_9 rfl (by decide) (by decide) hlen ?_
  rw [hO]
  exact ⟨_, rfl, rfl, hv⟩
end
