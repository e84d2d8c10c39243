section
-- ===== PART A: goes FIRST, ahead of the names: the tables' words, and 'selects' of the private methods out of them =====
/-- a private method of a class that the tables say can be made, by its rows of tables_1 -/
def lw_okq (q : MethodName × Nat) : Prop := (q.1.cls ≠ "java/lang/invoke/MethodHandle" ∧ q.1.cls ≠ "java/lang/invoke/VarHandle") ∧ Cond.instantiable q.1.cls q.2 ∈ tables_1 ∧ Cond.privateMethod q.1 ∈ tables_1 ∧ Cond.instanceMethod q.1 ∈ tables_1
theorem lw_p0 : lw_okq (⟨"ColdGuest", "finding", "(I)I"⟩, 10) := ⟨⟨by decide +kernel, by decide +kernel⟩, List.mem_of_getElem? (i := 13) (by decide +kernel), List.mem_of_getElem? (i := 239) (by decide +kernel), List.mem_of_getElem? (i := 240) (by decide +kernel)⟩
theorem lw_p1 : lw_okq (⟨"ColdGuest", "noFinding", "(I)I"⟩, 10) := ⟨⟨by decide +kernel, by decide +kernel⟩, List.mem_of_getElem? (i := 13) (by decide +kernel), List.mem_of_getElem? (i := 248) (by decide +kernel), List.mem_of_getElem? (i := 249) (by decide +kernel)⟩
theorem lw_p2 : lw_okq (⟨"ColdGuest$Tape", "readLaw", "(LColdGuest$House;)Z"⟩, 5) := ⟨⟨by decide +kernel, by decide +kernel⟩, List.mem_of_getElem? (i := 38) (by decide +kernel), List.mem_of_getElem? (i := 319) (by decide +kernel), List.mem_of_getElem? (i := 320) (by decide +kernel)⟩
theorem lw_p3 : lw_okq (⟨"ColdGuest$Tape", "takeSign", "(I)Z"⟩, 5) := ⟨⟨by decide +kernel, by decide +kernel⟩, List.mem_of_getElem? (i := 38) (by decide +kernel), List.mem_of_getElem? (i := 323) (by decide +kernel), List.mem_of_getElem? (i := 324) (by decide +kernel)⟩
theorem lw_p4 : lw_okq (⟨"ColdGuest$Tape", "next", "()I"⟩, 5) := ⟨⟨by decide +kernel, by decide +kernel⟩, List.mem_of_getElem? (i := 38) (by decide +kernel), List.mem_of_getElem? (i := 327) (by decide +kernel), List.mem_of_getElem? (i := 328) (by decide +kernel)⟩
theorem lw_p5 : lw_okq (⟨"ColdGuest$Tape", "fail", "(I)Z"⟩, 5) := ⟨⟨by decide +kernel, by decide +kernel⟩, List.mem_of_getElem? (i := 38) (by decide +kernel), List.mem_of_getElem? (i := 331) (by decide +kernel), List.mem_of_getElem? (i := 332) (by decide +kernel)⟩
theorem lw_p6 : lw_okq (⟨"ColdGuest$Tape", "takeNumber", "(II)I"⟩, 5) := ⟨⟨by decide +kernel, by decide +kernel⟩, List.mem_of_getElem? (i := 38) (by decide +kernel), List.mem_of_getElem? (i := 335) (by decide +kernel), List.mem_of_getElem? (i := 336) (by decide +kernel)⟩
theorem lw_p7 : lw_okq (⟨"ColdGuest$Tape", "figuresAhead", "()I"⟩, 5) := ⟨⟨by decide +kernel, by decide +kernel⟩, List.mem_of_getElem? (i := 38) (by decide +kernel), List.mem_of_getElem? (i := 339) (by decide +kernel), List.mem_of_getElem? (i := 340) (by decide +kernel)⟩
theorem lw_p8 : lw_okq (⟨"ColdGuest$Tape", "readDoors", "(LColdGuest$House;)Z"⟩, 5) := ⟨⟨by decide +kernel, by decide +kernel⟩, List.mem_of_getElem? (i := 38) (by decide +kernel), List.mem_of_getElem? (i := 347) (by decide +kernel), List.mem_of_getElem? (i := 348) (by decide +kernel)⟩
theorem lw_p9 : lw_okq (⟨"ColdGuest$Tape", "readDoor", "(LColdGuest$House;)Z"⟩, 5) := ⟨⟨by decide +kernel, by decide +kernel⟩, List.mem_of_getElem? (i := 38) (by decide +kernel), List.mem_of_getElem? (i := 351) (by decide +kernel), List.mem_of_getElem? (i := 352) (by decide +kernel)⟩
theorem lw_p10 : lw_okq (⟨"ColdGuest$Tape", "readSitters", "(LColdGuest$House;)Z"⟩, 5) := ⟨⟨by decide +kernel, by decide +kernel⟩, List.mem_of_getElem? (i := 38) (by decide +kernel), List.mem_of_getElem? (i := 359) (by decide +kernel), List.mem_of_getElem? (i := 360) (by decide +kernel)⟩
theorem lw_p11 : lw_okq (⟨"ColdGuest$Tape", "readSitter", "(LColdGuest$House;)Z"⟩, 5) := ⟨⟨by decide +kernel, by decide +kernel⟩, List.mem_of_getElem? (i := 38) (by decide +kernel), List.mem_of_getElem? (i := 363) (by decide +kernel), List.mem_of_getElem? (i := 364) (by decide +kernel)⟩
theorem lw_p12 : lw_okq (⟨"ColdGuest$House", "passDoors", "(II)V"⟩, 14) := ⟨⟨by decide +kernel, by decide +kernel⟩, List.mem_of_getElem? (i := 63) (by decide +kernel), List.mem_of_getElem? (i := 429) (by decide +kernel), List.mem_of_getElem? (i := 430) (by decide +kernel)⟩
theorem lw_p13 : lw_okq (⟨"ColdGuest$House", "flow", "(IIII)V"⟩, 14) := ⟨⟨by decide +kernel, by decide +kernel⟩, List.mem_of_getElem? (i := 63) (by decide +kernel), List.mem_of_getElem? (i := 437) (by decide +kernel), List.mem_of_getElem? (i := 438) (by decide +kernel)⟩
theorem lw_p14 : lw_okq (⟨"ColdGuest$House", "passSitters", "()V"⟩, 14) := ⟨⟨by decide +kernel, by decide +kernel⟩, List.mem_of_getElem? (i := 63) (by decide +kernel), List.mem_of_getElem? (i := 441) (by decide +kernel), List.mem_of_getElem? (i := 442) (by decide +kernel)⟩
theorem lw_p15 : lw_okq (⟨"ColdGuest$Seer", "tell", "(II)V"⟩, 5) := ⟨⟨by decide +kernel, by decide +kernel⟩, List.mem_of_getElem? (i := 157) (by decide +kernel), List.mem_of_getElem? (i := 528) (by decide +kernel), List.mem_of_getElem? (i := 529) (by decide +kernel)⟩
def lw_privs_1 : List (MethodName × Nat) := [(⟨"ColdGuest", "finding", "(I)I"⟩, 10), (⟨"ColdGuest", "noFinding", "(I)I"⟩, 10), (⟨"ColdGuest$Tape", "readLaw", "(LColdGuest$House;)Z"⟩, 5), (⟨"ColdGuest$Tape", "takeSign", "(I)Z"⟩, 5), (⟨"ColdGuest$Tape", "next", "()I"⟩, 5), (⟨"ColdGuest$Tape", "fail", "(I)Z"⟩, 5), (⟨"ColdGuest$Tape", "takeNumber", "(II)I"⟩, 5), (⟨"ColdGuest$Tape", "figuresAhead", "()I"⟩, 5), (⟨"ColdGuest$Tape", "readDoors", "(LColdGuest$House;)Z"⟩, 5), (⟨"ColdGuest$Tape", "readDoor", "(LColdGuest$House;)Z"⟩, 5), (⟨"ColdGuest$Tape", "readSitters", "(LColdGuest$House;)Z"⟩, 5), (⟨"ColdGuest$Tape", "readSitter", "(LColdGuest$House;)Z"⟩, 5), (⟨"ColdGuest$House", "passDoors", "(II)V"⟩, 14), (⟨"ColdGuest$House", "flow", "(IIII)V"⟩, 14), (⟨"ColdGuest$House", "passSitters", "()V"⟩, 14), (⟨"ColdGuest$Seer", "tell", "(II)V"⟩, 5)]
theorem lw_r1 : ∀ q ∈ lw_privs_1, lw_okq q := List.forall_mem_cons.mpr ⟨lw_p0, List.forall_mem_cons.mpr ⟨lw_p1, List.forall_mem_cons.mpr ⟨lw_p2, List.forall_mem_cons.mpr ⟨lw_p3, List.forall_mem_cons.mpr ⟨lw_p4, List.forall_mem_cons.mpr ⟨lw_p5, List.forall_mem_cons.mpr ⟨lw_p6, List.forall_mem_cons.mpr ⟨lw_p7, List.forall_mem_cons.mpr ⟨lw_p8, List.forall_mem_cons.mpr ⟨lw_p9, List.forall_mem_cons.mpr ⟨lw_p10, List.forall_mem_cons.mpr ⟨lw_p11, List.forall_mem_cons.mpr ⟨lw_p12, List.forall_mem_cons.mpr ⟨lw_p13, List.forall_mem_cons.mpr ⟨lw_p14, List.forall_mem_cons.mpr ⟨lw_p15, fun _ h => absurd h List.not_mem_nil⟩⟩⟩⟩⟩⟩⟩⟩⟩⟩⟩⟩⟩⟩⟩⟩
theorem lw_p16 : lw_okq (⟨"ColdGuest$Seer", "lookWithMoved", "(LColdGuest$House;II)V"⟩, 5) := ⟨⟨by decide +kernel, by decide +kernel⟩, List.mem_of_getElem? (i := 157) (by decide +kernel), List.mem_of_getElem? (i := 560) (by decide +kernel), List.mem_of_getElem? (i := 561) (by decide +kernel)⟩
theorem lw_p17 : lw_okq (⟨"ColdGuest$Seer", "isColdAndWarm", "(III)Z"⟩, 5) := ⟨⟨by decide +kernel, by decide +kernel⟩, List.mem_of_getElem? (i := 157) (by decide +kernel), List.mem_of_getElem? (i := 565) (by decide +kernel), List.mem_of_getElem? (i := 566) (by decide +kernel)⟩
theorem lw_p18 : lw_okq (⟨"ColdGuest$Seer", "hoursUntil", "(III)I"⟩, 5) := ⟨⟨by decide +kernel, by decide +kernel⟩, List.mem_of_getElem? (i := 157) (by decide +kernel), List.mem_of_getElem? (i := 585) (by decide +kernel), List.mem_of_getElem? (i := 586) (by decide +kernel)⟩
theorem lw_p19 : lw_okq (⟨"ColdGuest$Seer", "isAsTold", "(LColdGuest$Rows;III)Z"⟩, 5) := ⟨⟨by decide +kernel, by decide +kernel⟩, List.mem_of_getElem? (i := 157) (by decide +kernel), List.mem_of_getElem? (i := 597) (by decide +kernel), List.mem_of_getElem? (i := 598) (by decide +kernel)⟩
theorem lw_p20 : lw_okq (⟨"ColdGuest$Seer", "tellFraction", "(JJ)V"⟩, 5) := ⟨⟨by decide +kernel, by decide +kernel⟩, List.mem_of_getElem? (i := 157) (by decide +kernel), List.mem_of_getElem? (i := 655) (by decide +kernel), List.mem_of_getElem? (i := 656) (by decide +kernel)⟩
theorem lw_p21 : lw_okq (⟨"ColdGuest", "imageOf", "(I)LColdGuest$House;"⟩, 10) := ⟨⟨by decide +kernel, by decide +kernel⟩, List.mem_of_getElem? (i := 13) (by decide +kernel), List.mem_of_getElem? (i := 681) (by decide +kernel), List.mem_of_getElem? (i := 682) (by decide +kernel)⟩
theorem lw_p22 : lw_okq (⟨"ColdGuest$Asker", "readerSize", "(LColdGuest$House;I)I"⟩, 2) := ⟨⟨by decide +kernel, by decide +kernel⟩, List.mem_of_getElem? (i := 184) (by decide +kernel), List.mem_of_getElem? (i := 712) (by decide +kernel), List.mem_of_getElem? (i := 713) (by decide +kernel)⟩
theorem lw_p23 : lw_okq (⟨"ColdGuest$Asker", "begin", "(I)V"⟩, 2) := ⟨⟨by decide +kernel, by decide +kernel⟩, List.mem_of_getElem? (i := 184) (by decide +kernel), List.mem_of_getElem? (i := 716) (by decide +kernel), List.mem_of_getElem? (i := 717) (by decide +kernel)⟩
theorem lw_p24 : lw_okq (⟨"ColdGuest$Asker", "lentSize", "(LColdGuest$House;I)I"⟩, 2) := ⟨⟨by decide +kernel, by decide +kernel⟩, List.mem_of_getElem? (i := 184) (by decide +kernel), List.mem_of_getElem? (i := 720) (by decide +kernel), List.mem_of_getElem? (i := 721) (by decide +kernel)⟩
theorem lw_p25 : lw_okq (⟨"ColdGuest$Asker", "markOfReaders", "(LColdGuest$House;I)I"⟩, 2) := ⟨⟨by decide +kernel, by decide +kernel⟩, List.mem_of_getElem? (i := 184) (by decide +kernel), List.mem_of_getElem? (i := 724) (by decide +kernel), List.mem_of_getElem? (i := 725) (by decide +kernel)⟩
theorem lw_p26 : lw_okq (⟨"ColdGuest$Asker", "readerMark", "(LColdGuest$House;I)I"⟩, 2) := ⟨⟨by decide +kernel, by decide +kernel⟩, List.mem_of_getElem? (i := 184) (by decide +kernel), List.mem_of_getElem? (i := 728) (by decide +kernel), List.mem_of_getElem? (i := 729) (by decide +kernel)⟩
theorem lw_p27 : lw_okq (⟨"ColdGuest$Asker", "lentMark", "(I)I"⟩, 2) := ⟨⟨by decide +kernel, by decide +kernel⟩, List.mem_of_getElem? (i := 184) (by decide +kernel), List.mem_of_getElem? (i := 732) (by decide +kernel), List.mem_of_getElem? (i := 733) (by decide +kernel)⟩
theorem lw_p28 : lw_okq (⟨"ColdGuest$Asker", "sizeOfFires", "(LColdGuest$House;I)I"⟩, 2) := ⟨⟨by decide +kernel, by decide +kernel⟩, List.mem_of_getElem? (i := 184) (by decide +kernel), List.mem_of_getElem? (i := 736) (by decide +kernel), List.mem_of_getElem? (i := 737) (by decide +kernel)⟩
theorem lw_p29 : lw_okq (⟨"ColdGuest$Asker", "fireSize", "(LColdGuest$House;I)I"⟩, 2) := ⟨⟨by decide +kernel, by decide +kernel⟩, List.mem_of_getElem? (i := 184) (by decide +kernel), List.mem_of_getElem? (i := 740) (by decide +kernel), List.mem_of_getElem? (i := 741) (by decide +kernel)⟩
theorem lw_p30 : lw_okq (⟨"ColdGuest$Asker", "fireMark", "(LColdGuest$House;I)I"⟩, 2) := ⟨⟨by decide +kernel, by decide +kernel⟩, List.mem_of_getElem? (i := 184) (by decide +kernel), List.mem_of_getElem? (i := 748) (by decide +kernel), List.mem_of_getElem? (i := 749) (by decide +kernel)⟩
theorem lw_p31 : lw_okq (⟨"ColdGuestModel", "find", "(I)I"⟩, 23) := ⟨⟨by decide +kernel, by decide +kernel⟩, List.mem_of_getElem? (i := 773) (by decide +kernel), List.mem_of_getElem? (i := 863) (by decide +kernel), List.mem_of_getElem? (i := 864) (by decide +kernel)⟩
def lw_privs_2 : List (MethodName × Nat) := [(⟨"ColdGuest$Seer", "lookWithMoved", "(LColdGuest$House;II)V"⟩, 5), (⟨"ColdGuest$Seer", "isColdAndWarm", "(III)Z"⟩, 5), (⟨"ColdGuest$Seer", "hoursUntil", "(III)I"⟩, 5), (⟨"ColdGuest$Seer", "isAsTold", "(LColdGuest$Rows;III)Z"⟩, 5), (⟨"ColdGuest$Seer", "tellFraction", "(JJ)V"⟩, 5), (⟨"ColdGuest", "imageOf", "(I)LColdGuest$House;"⟩, 10), (⟨"ColdGuest$Asker", "readerSize", "(LColdGuest$House;I)I"⟩, 2), (⟨"ColdGuest$Asker", "begin", "(I)V"⟩, 2), (⟨"ColdGuest$Asker", "lentSize", "(LColdGuest$House;I)I"⟩, 2), (⟨"ColdGuest$Asker", "markOfReaders", "(LColdGuest$House;I)I"⟩, 2), (⟨"ColdGuest$Asker", "readerMark", "(LColdGuest$House;I)I"⟩, 2), (⟨"ColdGuest$Asker", "lentMark", "(I)I"⟩, 2), (⟨"ColdGuest$Asker", "sizeOfFires", "(LColdGuest$House;I)I"⟩, 2), (⟨"ColdGuest$Asker", "fireSize", "(LColdGuest$House;I)I"⟩, 2), (⟨"ColdGuest$Asker", "fireMark", "(LColdGuest$House;I)I"⟩, 2), (⟨"ColdGuestModel", "find", "(I)I"⟩, 23)]
theorem lw_r2 : ∀ q ∈ lw_privs_2, lw_okq q := List.forall_mem_cons.mpr ⟨lw_p16, List.forall_mem_cons.mpr ⟨lw_p17, List.forall_mem_cons.mpr ⟨lw_p18, List.forall_mem_cons.mpr ⟨lw_p19, List.forall_mem_cons.mpr ⟨lw_p20, List.forall_mem_cons.mpr ⟨lw_p21, List.forall_mem_cons.mpr ⟨lw_p22, List.forall_mem_cons.mpr ⟨lw_p23, List.forall_mem_cons.mpr ⟨lw_p24, List.forall_mem_cons.mpr ⟨lw_p25, List.forall_mem_cons.mpr ⟨lw_p26, List.forall_mem_cons.mpr ⟨lw_p27, List.forall_mem_cons.mpr ⟨lw_p28, List.forall_mem_cons.mpr ⟨lw_p29, List.forall_mem_cons.mpr ⟨lw_p30, List.forall_mem_cons.mpr ⟨lw_p31, fun _ h => absurd h List.not_mem_nil⟩⟩⟩⟩⟩⟩⟩⟩⟩⟩⟩⟩⟩⟩⟩⟩
theorem lw_p32 : lw_okq (⟨"ColdGuestModel", "well", "(I)I"⟩, 23) := ⟨⟨by decide +kernel, by decide +kernel⟩, List.mem_of_getElem? (i := 773) (by decide +kernel), List.mem_of_getElem? (i := 868) (by decide +kernel), List.mem_of_getElem? (i := 869) (by decide +kernel)⟩
theorem lw_p33 : lw_okq (⟨"ColdGuestModel", "readHouse", "()Z"⟩, 23) := ⟨⟨by decide +kernel, by decide +kernel⟩, List.mem_of_getElem? (i := 773) (by decide +kernel), List.mem_of_getElem? (i := 897) (by decide +kernel), List.mem_of_getElem? (i := 898) (by decide +kernel)⟩
theorem lw_p34 : lw_okq (⟨"ColdGuestModel", "nextToken", "()V"⟩, 23) := ⟨⟨by decide +kernel, by decide +kernel⟩, List.mem_of_getElem? (i := 773) (by decide +kernel), List.mem_of_getElem? (i := 901) (by decide +kernel), List.mem_of_getElem? (i := 902) (by decide +kernel)⟩
theorem lw_p35 : lw_okq (⟨"ColdGuestModel", "takes", "(I)Z"⟩, 23) := ⟨⟨by decide +kernel, by decide +kernel⟩, List.mem_of_getElem? (i := 773) (by decide +kernel), List.mem_of_getElem? (i := 909) (by decide +kernel), List.mem_of_getElem? (i := 910) (by decide +kernel)⟩
theorem lw_p36 : lw_okq (⟨"ColdGuestModel", "isLetter", "(I)Z"⟩, 23) := ⟨⟨by decide +kernel, by decide +kernel⟩, List.mem_of_getElem? (i := 773) (by decide +kernel), List.mem_of_getElem? (i := 913) (by decide +kernel), List.mem_of_getElem? (i := 914) (by decide +kernel)⟩
theorem lw_p37 : lw_okq (⟨"ColdGuestModel", "faults", "(I)Z"⟩, 23) := ⟨⟨by decide +kernel, by decide +kernel⟩, List.mem_of_getElem? (i := 773) (by decide +kernel), List.mem_of_getElem? (i := 917) (by decide +kernel), List.mem_of_getElem? (i := 918) (by decide +kernel)⟩
theorem lw_p38 : lw_okq (⟨"ColdGuestModel", "takesNumber", "(IIII)Z"⟩, 23) := ⟨⟨by decide +kernel, by decide +kernel⟩, List.mem_of_getElem? (i := 773) (by decide +kernel), List.mem_of_getElem? (i := 921) (by decide +kernel), List.mem_of_getElem? (i := 922) (by decide +kernel)⟩
theorem lw_p39 : lw_okq (⟨"ColdGuestModel", "readSitter", "(I)Z"⟩, 23) := ⟨⟨by decide +kernel, by decide +kernel⟩, List.mem_of_getElem? (i := 773) (by decide +kernel), List.mem_of_getElem? (i := 925) (by decide +kernel), List.mem_of_getElem? (i := 926) (by decide +kernel)⟩
theorem lw_p40 : lw_okq (⟨"ColdGuestModel", "readDoor", "()Z"⟩, 23) := ⟨⟨by decide +kernel, by decide +kernel⟩, List.mem_of_getElem? (i := 773) (by decide +kernel), List.mem_of_getElem? (i := 929) (by decide +kernel), List.mem_of_getElem? (i := 930) (by decide +kernel)⟩
theorem lw_p41 : lw_okq (⟨"ColdGuestModel", "note", "()V"⟩, 23) := ⟨⟨by decide +kernel, by decide +kernel⟩, List.mem_of_getElem? (i := 773) (by decide +kernel), List.mem_of_getElem? (i := 948) (by decide +kernel), List.mem_of_getElem? (i := 949) (by decide +kernel)⟩
theorem lw_p42 : lw_okq (⟨"ColdGuestModel", "oneHour", "()V"⟩, 23) := ⟨⟨by decide +kernel, by decide +kernel⟩, List.mem_of_getElem? (i := 773) (by decide +kernel), List.mem_of_getElem? (i := 952) (by decide +kernel), List.mem_of_getElem? (i := 953) (by decide +kernel)⟩
theorem lw_p43 : lw_okq (⟨"ColdGuestModel", "flow", "(II)V"⟩, 23) := ⟨⟨by decide +kernel, by decide +kernel⟩, List.mem_of_getElem? (i := 773) (by decide +kernel), List.mem_of_getElem? (i := 959) (by decide +kernel), List.mem_of_getElem? (i := 960) (by decide +kernel)⟩
theorem lw_p44 : lw_okq (⟨"ColdGuestModel", "isKept", "(IZ)Z"⟩, 23) := ⟨⟨by decide +kernel, by decide +kernel⟩, List.mem_of_getElem? (i := 773) (by decide +kernel), List.mem_of_getElem? (i := 963) (by decide +kernel), List.mem_of_getElem? (i := 964) (by decide +kernel)⟩
theorem lw_p45 : lw_okq (⟨"ColdGuestModel", "allCold", "()I"⟩, 23) := ⟨⟨by decide +kernel, by decide +kernel⟩, List.mem_of_getElem? (i := 773) (by decide +kernel), List.mem_of_getElem? (i := 967) (by decide +kernel), List.mem_of_getElem? (i := 968) (by decide +kernel)⟩
theorem lw_p46 : lw_okq (⟨"ColdGuestModel", "isDoor", "(I)Z"⟩, 23) := ⟨⟨by decide +kernel, by decide +kernel⟩, List.mem_of_getElem? (i := 773) (by decide +kernel), List.mem_of_getElem? (i := 975) (by decide +kernel), List.mem_of_getElem? (i := 976) (by decide +kernel)⟩
theorem lw_p47 : lw_okq (⟨"ColdGuestModel", "openDoors", "()I"⟩, 23) := ⟨⟨by decide +kernel, by decide +kernel⟩, List.mem_of_getElem? (i := 773) (by decide +kernel), List.mem_of_getElem? (i := 979) (by decide +kernel), List.mem_of_getElem? (i := 980) (by decide +kernel)⟩
def lw_privs_3 : List (MethodName × Nat) := [(⟨"ColdGuestModel", "well", "(I)I"⟩, 23), (⟨"ColdGuestModel", "readHouse", "()Z"⟩, 23), (⟨"ColdGuestModel", "nextToken", "()V"⟩, 23), (⟨"ColdGuestModel", "takes", "(I)Z"⟩, 23), (⟨"ColdGuestModel", "isLetter", "(I)Z"⟩, 23), (⟨"ColdGuestModel", "faults", "(I)Z"⟩, 23), (⟨"ColdGuestModel", "takesNumber", "(IIII)Z"⟩, 23), (⟨"ColdGuestModel", "readSitter", "(I)Z"⟩, 23), (⟨"ColdGuestModel", "readDoor", "()Z"⟩, 23), (⟨"ColdGuestModel", "note", "()V"⟩, 23), (⟨"ColdGuestModel", "oneHour", "()V"⟩, 23), (⟨"ColdGuestModel", "flow", "(II)V"⟩, 23), (⟨"ColdGuestModel", "isKept", "(IZ)Z"⟩, 23), (⟨"ColdGuestModel", "allCold", "()I"⟩, 23), (⟨"ColdGuestModel", "isDoor", "(I)Z"⟩, 23), (⟨"ColdGuestModel", "openDoors", "()I"⟩, 23)]
theorem lw_r3 : ∀ q ∈ lw_privs_3, lw_okq q := List.forall_mem_cons.mpr ⟨lw_p32, List.forall_mem_cons.mpr ⟨lw_p33, List.forall_mem_cons.mpr ⟨lw_p34, List.forall_mem_cons.mpr ⟨lw_p35, List.forall_mem_cons.mpr ⟨lw_p36, List.forall_mem_cons.mpr ⟨lw_p37, List.forall_mem_cons.mpr ⟨lw_p38, List.forall_mem_cons.mpr ⟨lw_p39, List.forall_mem_cons.mpr ⟨lw_p40, List.forall_mem_cons.mpr ⟨lw_p41, List.forall_mem_cons.mpr ⟨lw_p42, List.forall_mem_cons.mpr ⟨lw_p43, List.forall_mem_cons.mpr ⟨lw_p44, List.forall_mem_cons.mpr ⟨lw_p45, List.forall_mem_cons.mpr ⟨lw_p46, List.forall_mem_cons.mpr ⟨lw_p47, fun _ h => absurd h List.not_mem_nil⟩⟩⟩⟩⟩⟩⟩⟩⟩⟩⟩⟩⟩⟩⟩⟩
theorem lw_p48 : lw_okq (⟨"ColdGuestModel", "isSitter", "(I)Z"⟩, 23) := ⟨⟨by decide +kernel, by decide +kernel⟩, List.mem_of_getElem? (i := 773) (by decide +kernel), List.mem_of_getElem? (i := 987) (by decide +kernel), List.mem_of_getElem? (i := 988) (by decide +kernel)⟩
theorem lw_p49 : lw_okq (⟨"ColdGuestModel", "isRoom", "(I)Z"⟩, 23) := ⟨⟨by decide +kernel, by decide +kernel⟩, List.mem_of_getElem? (i := 773) (by decide +kernel), List.mem_of_getElem? (i := 991) (by decide +kernel), List.mem_of_getElem? (i := 992) (by decide +kernel)⟩
theorem lw_p50 : lw_okq (⟨"ColdGuestModel", "isCold", "(I)Z"⟩, 23) := ⟨⟨by decide +kernel, by decide +kernel⟩, List.mem_of_getElem? (i := 773) (by decide +kernel), List.mem_of_getElem? (i := 1008) (by decide +kernel), List.mem_of_getElem? (i := 1009) (by decide +kernel)⟩
theorem lw_p51 : lw_okq (⟨"ColdGuestModel", "putAside", "()V"⟩, 23) := ⟨⟨by decide +kernel, by decide +kernel⟩, List.mem_of_getElem? (i := 773) (by decide +kernel), List.mem_of_getElem? (i := 1017) (by decide +kernel), List.mem_of_getElem? (i := 1018) (by decide +kernel)⟩
theorem lw_p52 : lw_okq (⟨"ColdGuestModel", "goOn", "(I)V"⟩, 23) := ⟨⟨by decide +kernel, by decide +kernel⟩, List.mem_of_getElem? (i := 773) (by decide +kernel), List.mem_of_getElem? (i := 1021) (by decide +kernel), List.mem_of_getElem? (i := 1022) (by decide +kernel)⟩
theorem lw_p53 : lw_okq (⟨"ColdGuestModel", "takeBack", "()V"⟩, 23) := ⟨⟨by decide +kernel, by decide +kernel⟩, List.mem_of_getElem? (i := 773) (by decide +kernel), List.mem_of_getElem? (i := 1025) (by decide +kernel), List.mem_of_getElem? (i := 1026) (by decide +kernel)⟩
theorem lw_p54 : lw_okq (⟨"ColdGuestModel", "firstCold", "()I"⟩, 23) := ⟨⟨by decide +kernel, by decide +kernel⟩, List.mem_of_getElem? (i := 773) (by decide +kernel), List.mem_of_getElem? (i := 1037) (by decide +kernel), List.mem_of_getElem? (i := 1038) (by decide +kernel)⟩
theorem lw_p55 : lw_okq (⟨"ColdGuestModel", "areRooms", "(I)Z"⟩, 23) := ⟨⟨by decide +kernel, by decide +kernel⟩, List.mem_of_getElem? (i := 773) (by decide +kernel), List.mem_of_getElem? (i := 1046) (by decide +kernel), List.mem_of_getElem? (i := 1047) (by decide +kernel)⟩
theorem lw_p56 : lw_okq (⟨"ColdGuestModel", "turn", "(I)V"⟩, 23) := ⟨⟨by decide +kernel, by decide +kernel⟩, List.mem_of_getElem? (i := 773) (by decide +kernel), List.mem_of_getElem? (i := 1054) (by decide +kernel), List.mem_of_getElem? (i := 1055) (by decide +kernel)⟩
theorem lw_p57 : lw_okq (⟨"ColdGuestModel", "coldRooms", "(I)I"⟩, 23) := ⟨⟨by decide +kernel, by decide +kernel⟩, List.mem_of_getElem? (i := 773) (by decide +kernel), List.mem_of_getElem? (i := 1061) (by decide +kernel), List.mem_of_getElem? (i := 1062) (by decide +kernel)⟩
theorem lw_p58 : lw_okq (⟨"ColdGuestModel", "coldIn", "(II)I"⟩, 23) := ⟨⟨by decide +kernel, by decide +kernel⟩, List.mem_of_getElem? (i := 773) (by decide +kernel), List.mem_of_getElem? (i := 1073) (by decide +kernel), List.mem_of_getElem? (i := 1074) (by decide +kernel)⟩
theorem lw_p59 : lw_okq (⟨"ColdGuestModel", "lacks", "(III)I"⟩, 23) := ⟨⟨by decide +kernel, by decide +kernel⟩, List.mem_of_getElem? (i := 773) (by decide +kernel), List.mem_of_getElem? (i := 1082) (by decide +kernel), List.mem_of_getElem? (i := 1083) (by decide +kernel)⟩
theorem lw_p60 : lw_okq (⟨"ColdGuestModel", "isSo", "(II)Z"⟩, 23) := ⟨⟨by decide +kernel, by decide +kernel⟩, List.mem_of_getElem? (i := 773) (by decide +kernel), List.mem_of_getElem? (i := 1086) (by decide +kernel), List.mem_of_getElem? (i := 1087) (by decide +kernel)⟩
theorem lw_p61 : lw_okq (⟨"ColdGuestModel", "reachBy", "(II)I"⟩, 23) := ⟨⟨by decide +kernel, by decide +kernel⟩, List.mem_of_getElem? (i := 773) (by decide +kernel), List.mem_of_getElem? (i := 1098) (by decide +kernel), List.mem_of_getElem? (i := 1099) (by decide +kernel)⟩
theorem lw_p62 : lw_okq (⟨"ColdGuestModel", "sizeOf", "(I)I"⟩, 23) := ⟨⟨by decide +kernel, by decide +kernel⟩, List.mem_of_getElem? (i := 773) (by decide +kernel), List.mem_of_getElem? (i := 1148) (by decide +kernel), List.mem_of_getElem? (i := 1149) (by decide +kernel)⟩
theorem lw_p63 : lw_okq (⟨"ColdGuestModel", "begin", "(I)V"⟩, 23) := ⟨⟨by decide +kernel, by decide +kernel⟩, List.mem_of_getElem? (i := 773) (by decide +kernel), List.mem_of_getElem? (i := 1152) (by decide +kernel), List.mem_of_getElem? (i := 1153) (by decide +kernel)⟩
def lw_privs_4 : List (MethodName × Nat) := [(⟨"ColdGuestModel", "isSitter", "(I)Z"⟩, 23), (⟨"ColdGuestModel", "isRoom", "(I)Z"⟩, 23), (⟨"ColdGuestModel", "isCold", "(I)Z"⟩, 23), (⟨"ColdGuestModel", "putAside", "()V"⟩, 23), (⟨"ColdGuestModel", "goOn", "(I)V"⟩, 23), (⟨"ColdGuestModel", "takeBack", "()V"⟩, 23), (⟨"ColdGuestModel", "firstCold", "()I"⟩, 23), (⟨"ColdGuestModel", "areRooms", "(I)Z"⟩, 23), (⟨"ColdGuestModel", "turn", "(I)V"⟩, 23), (⟨"ColdGuestModel", "coldRooms", "(I)I"⟩, 23), (⟨"ColdGuestModel", "coldIn", "(II)I"⟩, 23), (⟨"ColdGuestModel", "lacks", "(III)I"⟩, 23), (⟨"ColdGuestModel", "isSo", "(II)Z"⟩, 23), (⟨"ColdGuestModel", "reachBy", "(II)I"⟩, 23), (⟨"ColdGuestModel", "sizeOf", "(I)I"⟩, 23), (⟨"ColdGuestModel", "begin", "(I)V"⟩, 23)]
theorem lw_r4 : ∀ q ∈ lw_privs_4, lw_okq q := List.forall_mem_cons.mpr ⟨lw_p48, List.forall_mem_cons.mpr ⟨lw_p49, List.forall_mem_cons.mpr ⟨lw_p50, List.forall_mem_cons.mpr ⟨lw_p51, List.forall_mem_cons.mpr ⟨lw_p52, List.forall_mem_cons.mpr ⟨lw_p53, List.forall_mem_cons.mpr ⟨lw_p54, List.forall_mem_cons.mpr ⟨lw_p55, List.forall_mem_cons.mpr ⟨lw_p56, List.forall_mem_cons.mpr ⟨lw_p57, List.forall_mem_cons.mpr ⟨lw_p58, List.forall_mem_cons.mpr ⟨lw_p59, List.forall_mem_cons.mpr ⟨lw_p60, List.forall_mem_cons.mpr ⟨lw_p61, List.forall_mem_cons.mpr ⟨lw_p62, List.forall_mem_cons.mpr ⟨lw_p63, fun _ h => absurd h List.not_mem_nil⟩⟩⟩⟩⟩⟩⟩⟩⟩⟩⟩⟩⟩⟩⟩⟩
theorem lw_p64 : lw_okq (⟨"ColdGuestModel", "readSize", "(I)I"⟩, 23) := ⟨⟨by decide +kernel, by decide +kernel⟩, List.mem_of_getElem? (i := 773) (by decide +kernel), List.mem_of_getElem? (i := 1156) (by decide +kernel), List.mem_of_getElem? (i := 1157) (by decide +kernel)⟩
theorem lw_p65 : lw_okq (⟨"ColdGuestModel", "lent", "(II)I"⟩, 23) := ⟨⟨by decide +kernel, by decide +kernel⟩, List.mem_of_getElem? (i := 773) (by decide +kernel), List.mem_of_getElem? (i := 1160) (by decide +kernel), List.mem_of_getElem? (i := 1161) (by decide +kernel)⟩
theorem lw_p66 : lw_okq (⟨"ColdGuestModel", "markOf", "(I)I"⟩, 23) := ⟨⟨by decide +kernel, by decide +kernel⟩, List.mem_of_getElem? (i := 773) (by decide +kernel), List.mem_of_getElem? (i := 1164) (by decide +kernel), List.mem_of_getElem? (i := 1165) (by decide +kernel)⟩
theorem lw_p67 : lw_okq (⟨"ColdGuestModel", "readMark", "(I)I"⟩, 23) := ⟨⟨by decide +kernel, by decide +kernel⟩, List.mem_of_getElem? (i := 773) (by decide +kernel), List.mem_of_getElem? (i := 1168) (by decide +kernel), List.mem_of_getElem? (i := 1169) (by decide +kernel)⟩
theorem lw_p68 : lw_okq (⟨"ColdGuestModel", "sizeOfFire", "(I)I"⟩, 23) := ⟨⟨by decide +kernel, by decide +kernel⟩, List.mem_of_getElem? (i := 773) (by decide +kernel), List.mem_of_getElem? (i := 1172) (by decide +kernel), List.mem_of_getElem? (i := 1173) (by decide +kernel)⟩
theorem lw_p69 : lw_okq (⟨"ColdGuestModel", "fireSize", "(I)I"⟩, 23) := ⟨⟨by decide +kernel, by decide +kernel⟩, List.mem_of_getElem? (i := 773) (by decide +kernel), List.mem_of_getElem? (i := 1176) (by decide +kernel), List.mem_of_getElem? (i := 1177) (by decide +kernel)⟩
def lw_privs_5 : List (MethodName × Nat) := [(⟨"ColdGuestModel", "readSize", "(I)I"⟩, 23), (⟨"ColdGuestModel", "lent", "(II)I"⟩, 23), (⟨"ColdGuestModel", "markOf", "(I)I"⟩, 23), (⟨"ColdGuestModel", "readMark", "(I)I"⟩, 23), (⟨"ColdGuestModel", "sizeOfFire", "(I)I"⟩, 23), (⟨"ColdGuestModel", "fireSize", "(I)I"⟩, 23)]
theorem lw_r5 : ∀ q ∈ lw_privs_5, lw_okq q := List.forall_mem_cons.mpr ⟨lw_p64, List.forall_mem_cons.mpr ⟨lw_p65, List.forall_mem_cons.mpr ⟨lw_p66, List.forall_mem_cons.mpr ⟨lw_p67, List.forall_mem_cons.mpr ⟨lw_p68, List.forall_mem_cons.mpr ⟨lw_p69, fun _ h => absurd h List.not_mem_nil⟩⟩⟩⟩⟩⟩
def lw_privs : List (MethodName × Nat) := lw_privs_1 ++ (lw_privs_2 ++ (lw_privs_3 ++ (lw_privs_4 ++ (lw_privs_5))))
def lw_tbl : List Cond := k2_sels lw_privs ++ tables_1
theorem lw_privs_ok : ∀ q ∈ lw_privs, lw_okq q := by
  show ∀ q ∈ lw_privs_1 ++ (lw_privs_2 ++ (lw_privs_3 ++ (lw_privs_4 ++ (lw_privs_5)))), lw_okq q
  exact List.forall_mem_append.mpr ⟨lw_r1, List.forall_mem_append.mpr ⟨lw_r2, List.forall_mem_append.mpr ⟨lw_r3, List.forall_mem_append.mpr ⟨lw_r4, lw_r5⟩⟩⟩⟩
end
section
def RX0 : String := "ColdGuest$Asker"
def TX0 : u_T := fun k => match k with
  | 0 => ("ColdGuest$Asker", "traced", "[I", true)
  | _ => ("ColdGuest$Asker", "length", "I", false)
def tyX0 : Nat → FieldType := fun k => match k with
  | 0 => .array .int
  | _ => .int
abbrev wsX00 : List Cond := u_ws RX0 TX0 2
theorem nmX0 : ∀ a, a < 2 → ∀ b, b < 2 → a ≠ b → (TX0 a).2.1 ≠ (TX0 b).2.1 := by decide +kernel
theorem tyX0_ok : ∀ k, k < 2 → parseFieldDescriptor (TX0 k).2.2.1 = some (tyX0 k) := by decide +kernel
abbrev cX0_init : ByteArray := prog_2_method_1_code
def yX0_init : MethodName := ⟨RX0, "<init>", "()V"⟩
abbrev cX0_startAnew : ByteArray := prog_2_method_2_code
def yX0_startAnew : MethodName := ⟨RX0, "startAnew", "()V"⟩
abbrev cX0_bodyAt : ByteArray := prog_2_method_3_code
def yX0_bodyAt : MethodName := ⟨RX0, "bodyAt", "(I)I"⟩
abbrev cX0_begin : ByteArray := prog_2_method_4_code
def yX0_begin : MethodName := ⟨RX0, "begin", "(I)V"⟩
abbrev cX0_sizeOf : ByteArray := prog_2_method_5_code
def yX0_sizeOf : MethodName := ⟨RX0, "sizeOf", "(LColdGuest$House;I)I"⟩
abbrev cX0_markOf : ByteArray := prog_2_method_6_code
def yX0_markOf : MethodName := ⟨RX0, "markOf", "(LColdGuest$House;I)I"⟩
abbrev cX0_sizeOfFires : ByteArray := prog_2_method_7_code
def yX0_sizeOfFires : MethodName := ⟨RX0, "sizeOfFires", "(LColdGuest$House;I)I"⟩
abbrev cX0_markOfReaders : ByteArray := prog_2_method_8_code
def yX0_markOfReaders : MethodName := ⟨RX0, "markOfReaders", "(LColdGuest$House;I)I"⟩
abbrev cX0_lentSize : ByteArray := prog_2_method_9_code
def yX0_lentSize : MethodName := ⟨RX0, "lentSize", "(LColdGuest$House;I)I"⟩
abbrev cX0_readerSize : ByteArray := prog_2_method_10_code
def yX0_readerSize : MethodName := ⟨RX0, "readerSize", "(LColdGuest$House;I)I"⟩
abbrev cX0_fireSize : ByteArray := prog_2_method_11_code
def yX0_fireSize : MethodName := ⟨RX0, "fireSize", "(LColdGuest$House;I)I"⟩
abbrev cX0_lentMark : ByteArray := prog_2_method_12_code
def yX0_lentMark : MethodName := ⟨RX0, "lentMark", "(I)I"⟩
abbrev cX0_readerMark : ByteArray := prog_2_method_13_code
def yX0_readerMark : MethodName := ⟨RX0, "readerMark", "(LColdGuest$House;I)I"⟩
abbrev cX0_fireMark : ByteArray := prog_2_method_14_code
def yX0_fireMark : MethodName := ⟨RX0, "fireMark", "(LColdGuest$House;I)I"⟩
def RX1 : String := "ColdGuest$House"
def TX1 : u_T := fun k => match k with
  | 0 => ("ColdGuest$House", "rooms", "I", false)
  | 1 => ("ColdGuest$House", "in", "I", false)
  | 2 => ("ColdGuest$House", "parts", "I", false)
  | 3 => ("ColdGuest$House", "limit", "I", false)
  | 4 => ("ColdGuest$House", "hour", "I", false)
  | 5 => ("ColdGuest$House", "doors", "I", false)
  | 6 => ("ColdGuest$House", "open", "I", false)
  | 7 => ("ColdGuest$House", "sitters", "I", false)
  | 8 => ("ColdGuest$House", "oneSide", "[I", true)
  | 9 => ("ColdGuest$House", "otherSide", "[I", true)
  | 10 => ("ColdGuest$House", "kinds", "[I", true)
  | 11 => ("ColdGuest$House", "places", "[I", true)
  | 12 => ("ColdGuest$House", "forces", "[I", true)
  | _ => ("ColdGuest$House", "cold", "[I", true)
def tyX1 : Nat → FieldType := fun k => match k with
  | 0 => .int
  | 1 => .int
  | 2 => .int
  | 3 => .int
  | 4 => .int
  | 5 => .int
  | 6 => .int
  | 7 => .int
  | 8 => .array .int
  | 9 => .array .int
  | 10 => .array .int
  | 11 => .array .int
  | 12 => .array .int
  | _ => .array .int
abbrev wsX10 : List Cond := u_ws RX1 TX1 14
theorem nmX1 : ∀ a, a < 14 → ∀ b, b < 14 → a ≠ b → (TX1 a).2.1 ≠ (TX1 b).2.1 := by decide +kernel
theorem tyX1_ok : ∀ k, k < 14 → parseFieldDescriptor (TX1 k).2.2.1 = some (tyX1 k) := by decide +kernel
abbrev cX1_init : ByteArray := prog_3_method_1_code
def yX1_init : MethodName := ⟨RX1, "<init>", "()V"⟩
abbrev cX1_stands : ByteArray := prog_3_method_2_code
def yX1_stands : MethodName := ⟨RX1, "stands", "()Z"⟩
abbrev cX1_hasRoom : ByteArray := prog_3_method_3_code
def yX1_hasRoom : MethodName := ⟨RX1, "hasRoom", "(I)Z"⟩
abbrev cX1_hasRooms : ByteArray := prog_3_method_4_code
def yX1_hasRooms : MethodName := ⟨RX1, "hasRooms", "(I)Z"⟩
abbrev cX1_hasDoor : ByteArray := prog_3_method_5_code
def yX1_hasDoor : MethodName := ⟨RX1, "hasDoor", "(I)Z"⟩
abbrev cX1_hasSitter : ByteArray := prog_3_method_6_code
def yX1_hasSitter : MethodName := ⟨RX1, "hasSitter", "(I)Z"⟩
abbrev cX1_clear : ByteArray := prog_3_method_7_code
def yX1_clear : MethodName := ⟨RX1, "clear", "()V"⟩
abbrev cX1_setLaw : ByteArray := prog_3_method_8_code
def yX1_setLaw : MethodName := ⟨RX1, "setLaw", "(IIII)V"⟩
abbrev cX1_addDoor : ByteArray := prog_3_method_9_code
def yX1_addDoor : MethodName := ⟨RX1, "addDoor", "(IIZ)V"⟩
abbrev cX1_addSitter : ByteArray := prog_3_method_10_code
def yX1_addSitter : MethodName := ⟨RX1, "addSitter", "(III)V"⟩
abbrev cX1_become : ByteArray := prog_3_method_11_code
def yX1_become : MethodName := ⟨RX1, "become", "(LColdGuest$House;)V"⟩
abbrev cX1_passHour : ByteArray := prog_3_method_12_code
def yX1_passHour : MethodName := ⟨RX1, "passHour", "()V"⟩
abbrev cX1_passHours : ByteArray := prog_3_method_13_code
def yX1_passHours : MethodName := ⟨RX1, "passHours", "(I)V"⟩
abbrev cX1_passDoors : ByteArray := prog_3_method_14_code
def yX1_passDoors : MethodName := ⟨RX1, "passDoors", "(II)V"⟩
abbrev cX1_passSitters : ByteArray := prog_3_method_15_code
def yX1_passSitters : MethodName := ⟨RX1, "passSitters", "()V"⟩
abbrev cX1_flow : ByteArray := prog_3_method_16_code
def yX1_flow : MethodName := ⟨RX1, "flow", "(IIII)V"⟩
abbrev cX1_chill : ByteArray := prog_3_method_17_code
def yX1_chill : MethodName := ⟨RX1, "chill", "(II)I"⟩
abbrev cX1_isA : ByteArray := prog_3_method_18_code
def yX1_isA : MethodName := ⟨RX1, "isA", "(II)Z"⟩
abbrev cX1_roomsWith : ByteArray := prog_3_method_19_code
def yX1_roomsWith : MethodName := ⟨RX1, "roomsWith", "(I)I"⟩
abbrev cX1_sittersIn : ByteArray := prog_3_method_20_code
def yX1_sittersIn : MethodName := ⟨RX1, "sittersIn", "(I)I"⟩
abbrev cX1_doorsOf : ByteArray := prog_3_method_21_code
def yX1_doorsOf : MethodName := ⟨RX1, "doorsOf", "(I)I"⟩
abbrev cX1_isOpen : ByteArray := prog_3_method_22_code
def yX1_isOpen : MethodName := ⟨RX1, "isOpen", "(I)Z"⟩
abbrev cX1_moveDoors : ByteArray := prog_3_method_23_code
def yX1_moveDoors : MethodName := ⟨RX1, "moveDoors", "(I)V"⟩
abbrev cX1_roomsLedTo : ByteArray := prog_3_method_24_code
def yX1_roomsLedTo : MethodName := ⟨RX1, "roomsLedTo", "(II)I"⟩
abbrev cX1_allCold : ByteArray := prog_3_method_25_code
def yX1_allCold : MethodName := ⟨RX1, "allCold", "()I"⟩
abbrev cX1_isShivering : ByteArray := prog_3_method_26_code
def yX1_isShivering : MethodName := ⟨RX1, "isShivering", "(I)Z"⟩
abbrev cX1_firstShivering : ByteArray := prog_3_method_27_code
def yX1_firstShivering : MethodName := ⟨RX1, "firstShivering", "()I"⟩
def RX2 : String := "ColdGuest$Past"
def TX2 : u_T := fun k => match k with
  | 0 => ("ColdGuest$Past", "was", "[I", true)
  | 1 => ("ColdGuest$Past", "oldest", "I", false)
  | _ => ("ColdGuest$Past", "held", "I", false)
def tyX2 : Nat → FieldType := fun k => match k with
  | 0 => .array .int
  | 1 => .int
  | _ => .int
abbrev wsX20 : List Cond := u_ws RX2 TX2 3
theorem nmX2 : ∀ a, a < 3 → ∀ b, b < 3 → a ≠ b → (TX2 a).2.1 ≠ (TX2 b).2.1 := by decide +kernel
theorem tyX2_ok : ∀ k, k < 3 → parseFieldDescriptor (TX2 k).2.2.1 = some (tyX2 k) := by decide +kernel
abbrev cX2_init : ByteArray := prog_4_method_1_code
def yX2_init : MethodName := ⟨RX2, "<init>", "()V"⟩
abbrev cX2_forget : ByteArray := prog_4_method_2_code
def yX2_forget : MethodName := ⟨RX2, "forget", "()V"⟩
abbrev cX2_keep : ByteArray := prog_4_method_3_code
def yX2_keep : MethodName := ⟨RX2, "keep", "(LColdGuest$House;)V"⟩
abbrev cX2_takeBack : ByteArray := prog_4_method_4_code
def yX2_takeBack : MethodName := ⟨RX2, "takeBack", "(LColdGuest$House;)V"⟩
def RX3 : String := "ColdGuest$Rows"
def TX3 : u_T := fun k => match k with
  | 0 => ("ColdGuest$Rows", "items", "[I", true)
  | 1 => ("ColdGuest$Rows", "lanes", "[I", true)
  | _ => ("ColdGuest$Rows", "sizes", "[I", true)
def tyX3 : Nat → FieldType := fun k => match k with
  | 0 => .array .int
  | 1 => .array .int
  | _ => .array .int
abbrev wsX30 : List Cond := u_ws RX3 TX3 3
theorem nmX3 : ∀ a, a < 3 → ∀ b, b < 3 → a ≠ b → (TX3 a).2.1 ≠ (TX3 b).2.1 := by decide +kernel
theorem tyX3_ok : ∀ k, k < 3 → parseFieldDescriptor (TX3 k).2.2.1 = some (tyX3 k) := by decide +kernel
abbrev cX3_init : ByteArray := prog_5_method_1_code
def yX3_init : MethodName := ⟨RX3, "<init>", "()V"⟩
abbrev cX3_isRow : ByteArray := prog_5_method_2_code
def yX3_isRow : MethodName := ⟨RX3, "isRow", "(I)Z"⟩
abbrev cX3_isMissing : ByteArray := prog_5_method_3_code
def yX3_isMissing : MethodName := ⟨RX3, "isMissing", "(I)Z"⟩
abbrev cX3_sameLane : ByteArray := prog_5_method_4_code
def yX3_sameLane : MethodName := ⟨RX3, "sameLane", "(II)Z"⟩
abbrev cX3_hasPlaces : ByteArray := prog_5_method_5_code
def yX3_hasPlaces : MethodName := ⟨RX3, "hasPlaces", "(III)Z"⟩
abbrev cX3_lay : ByteArray := prog_5_method_6_code
def yX3_lay : MethodName := ⟨RX3, "lay", "(III)V"⟩
abbrev cX3_put : ByteArray := prog_5_method_7_code
def yX3_put : MethodName := ⟨RX3, "put", "(III)I"⟩
abbrev cX3_item : ByteArray := prog_5_method_8_code
def yX3_item : MethodName := ⟨RX3, "item", "(II)I"⟩
abbrev cX3_carry : ByteArray := prog_5_method_9_code
def yX3_carry : MethodName := ⟨RX3, "carry", "(IIIII)V"⟩
abbrev cX3_takeAway : ByteArray := prog_5_method_10_code
def yX3_takeAway : MethodName := ⟨RX3, "takeAway", "(I)I"⟩
abbrev cX3_howMany : ByteArray := prog_5_method_11_code
def yX3_howMany : MethodName := ⟨RX3, "howMany", "()I"⟩
abbrev cX3_lowestBits : ByteArray := prog_5_method_12_code
def yX3_lowestBits : MethodName := ⟨RX3, "lowestBits", "(II)I"⟩
def RX4 : String := "ColdGuest$Seer"
def TX4 : u_T := fun k => match k with
  | 0 => ("ColdGuest$Seer", "trial", "LColdGuest$House;", true)
  | 1 => ("ColdGuest$Seer", "first", "I", false)
  | 2 => ("ColdGuest$Seer", "second", "I", false)
  | 3 => ("ColdGuest$Seer", "above", "J", false)
  | _ => ("ColdGuest$Seer", "below", "J", false)
def tyX4 : Nat → FieldType := fun k => match k with
  | 0 => .object "ColdGuest$House"
  | 1 => .int
  | 2 => .int
  | 3 => .long
  | _ => .long
abbrev wsX40 : List Cond := u_ws RX4 TX4 5
theorem nmX4 : ∀ a, a < 5 → ∀ b, b < 5 → a ≠ b → (TX4 a).2.1 ≠ (TX4 b).2.1 := by decide +kernel
theorem tyX4_ok : ∀ k, k < 5 → parseFieldDescriptor (TX4 k).2.2.1 = some (tyX4 k) := by decide +kernel
abbrev cX4_init : ByteArray := prog_6_method_1_code
def yX4_init : MethodName := ⟨RX4, "<init>", "()V"⟩
abbrev cX4_told : ByteArray := prog_6_method_2_code
def yX4_told : MethodName := ⟨RX4, "told", "(I)I"⟩
abbrev cX4_tell : ByteArray := prog_6_method_3_code
def yX4_tell : MethodName := ⟨RX4, "tell", "(II)V"⟩
abbrev cX4_look : ByteArray := prog_6_method_4_code
def yX4_look : MethodName := ⟨RX4, "look", "(LColdGuest$House;I)V"⟩
abbrev cX4_findShiver : ByteArray := prog_6_method_5_code
def yX4_findShiver : MethodName := ⟨RX4, "findShiver", "(LColdGuest$House;I)V"⟩
abbrev cX4_findDoorsToMove : ByteArray := prog_6_method_6_code
def yX4_findDoorsToMove : MethodName := ⟨RX4, "findDoorsToMove", "(LColdGuest$House;IIII)V"⟩
abbrev cX4_lookWithMoved : ByteArray := prog_6_method_7_code
def yX4_lookWithMoved : MethodName := ⟨RX4, "lookWithMoved", "(LColdGuest$House;II)V"⟩
abbrev cX4_isColdAndWarm : ByteArray := prog_6_method_8_code
def yX4_isColdAndWarm : MethodName := ⟨RX4, "isColdAndWarm", "(III)Z"⟩
abbrev cX4_findSeat : ByteArray := prog_6_method_9_code
def yX4_findSeat : MethodName := ⟨RX4, "findSeat", "(LColdGuest$House;III)V"⟩
abbrev cX4_findSoonest : ByteArray := prog_6_method_10_code
def yX4_findSoonest : MethodName := ⟨RX4, "findSoonest", "(LColdGuest$House;III)V"⟩
abbrev cX4_hoursUntil : ByteArray := prog_6_method_11_code
def yX4_hoursUntil : MethodName := ⟨RX4, "hoursUntil", "(III)I"⟩
abbrev cX4_roomsItCameInto : ByteArray := prog_6_method_12_code
def yX4_roomsItCameInto : MethodName := ⟨RX4, "roomsItCameInto", "(LColdGuest$House;LColdGuest$Rows;III)I"⟩
abbrev cX4_kindsItMayBe : ByteArray := prog_6_method_13_code
def yX4_kindsItMayBe : MethodName := ⟨RX4, "kindsItMayBe", "(LColdGuest$House;ILColdGuest$Rows;III)I"⟩
abbrev cX4_isAsTold : ByteArray := prog_6_method_14_code
def yX4_isAsTold : MethodName := ⟨RX4, "isAsTold", "(LColdGuest$Rows;III)Z"⟩
abbrev cX4_findDoorsToShut : ByteArray := prog_6_method_15_code
def yX4_findDoorsToShut : MethodName := ⟨RX4, "findDoorsToShut", "(LColdGuest$House;II)V"⟩
abbrev cX4_isPartedBy : ByteArray := prog_6_method_16_code
def yX4_isPartedBy : MethodName := ⟨RX4, "isPartedBy", "(LColdGuest$House;III)Z"⟩
abbrev cX4_findColdest : ByteArray := prog_6_method_17_code
def yX4_findColdest : MethodName := ⟨RX4, "findColdest", "(LColdGuest$House;I)V"⟩
abbrev cX4_findOdds : ByteArray := prog_6_method_18_code
def yX4_findOdds : MethodName := ⟨RX4, "findOdds", "(LColdGuest$House;II)V"⟩
abbrev cX4_tellFraction : ByteArray := prog_6_method_19_code
def yX4_tellFraction : MethodName := ⟨RX4, "tellFraction", "(JJ)V"⟩
abbrev cX4_power : ByteArray := prog_6_method_20_code
def yX4_power : MethodName := ⟨RX4, "power", "(II)J"⟩
abbrev cX4_divisorOfBoth : ByteArray := prog_6_method_21_code
def yX4_divisorOfBoth : MethodName := ⟨RX4, "divisorOfBoth", "(JJ)J"⟩
abbrev cX4_drawHours : ByteArray := prog_6_method_22_code
def yX4_drawHours : MethodName := ⟨RX4, "drawHours", "(LColdGuest$House;II)V"⟩
def RX5 : String := "ColdGuest$Tape"
def TX5 : u_T := fun k => match k with
  | 0 => ("ColdGuest$Tape", "bytes", "[I", true)
  | 1 => ("ColdGuest$Tape", "at", "I", false)
  | 2 => ("ColdGuest$Tape", "length", "I", false)
  | 3 => ("ColdGuest$Tape", "faultFound", "I", false)
  | _ => ("ColdGuest$Tape", "faultPlace", "I", false)
def tyX5 : Nat → FieldType := fun k => match k with
  | 0 => .array .int
  | 1 => .int
  | 2 => .int
  | 3 => .int
  | _ => .int
abbrev wsX50 : List Cond := u_ws RX5 TX5 5
theorem nmX5 : ∀ a, a < 5 → ∀ b, b < 5 → a ≠ b → (TX5 a).2.1 ≠ (TX5 b).2.1 := by decide +kernel
theorem tyX5_ok : ∀ k, k < 5 → parseFieldDescriptor (TX5 k).2.2.1 = some (tyX5 k) := by decide +kernel
abbrev cX5_init : ByteArray := prog_7_method_1_code
def yX5_init : MethodName := ⟨RX5, "<init>", "()V"⟩
abbrev cX5_isFull : ByteArray := prog_7_method_2_code
def yX5_isFull : MethodName := ⟨RX5, "isFull", "()Z"⟩
abbrev cX5_append : ByteArray := prog_7_method_3_code
def yX5_append : MethodName := ⟨RX5, "append", "(I)I"⟩
abbrev cX5_empty : ByteArray := prog_7_method_4_code
def yX5_empty : MethodName := ⟨RX5, "empty", "()V"⟩
abbrev cX5_readInto : ByteArray := prog_7_method_5_code
def yX5_readInto : MethodName := ⟨RX5, "readInto", "(LColdGuest$House;)Z"⟩
abbrev cX5_readLaw : ByteArray := prog_7_method_6_code
def yX5_readLaw : MethodName := ⟨RX5, "readLaw", "(LColdGuest$House;)Z"⟩
abbrev cX5_readDoors : ByteArray := prog_7_method_7_code
def yX5_readDoors : MethodName := ⟨RX5, "readDoors", "(LColdGuest$House;)Z"⟩
abbrev cX5_readDoor : ByteArray := prog_7_method_8_code
def yX5_readDoor : MethodName := ⟨RX5, "readDoor", "(LColdGuest$House;)Z"⟩
abbrev cX5_readSitters : ByteArray := prog_7_method_9_code
def yX5_readSitters : MethodName := ⟨RX5, "readSitters", "(LColdGuest$House;)Z"⟩
abbrev cX5_readSitter : ByteArray := prog_7_method_10_code
def yX5_readSitter : MethodName := ⟨RX5, "readSitter", "(LColdGuest$House;)Z"⟩
abbrev cX5_kindOfLetter : ByteArray := prog_7_method_11_code
def yX5_kindOfLetter : MethodName := ⟨RX5, "kindOfLetter", "(I)I"⟩
abbrev cX5_takeSign : ByteArray := prog_7_method_12_code
def yX5_takeSign : MethodName := ⟨RX5, "takeSign", "(I)Z"⟩
abbrev cX5_takeNumber : ByteArray := prog_7_method_13_code
def yX5_takeNumber : MethodName := ⟨RX5, "takeNumber", "(II)I"⟩
abbrev cX5_figuresAhead : ByteArray := prog_7_method_14_code
def yX5_figuresAhead : MethodName := ⟨RX5, "figuresAhead", "()I"⟩
abbrev cX5_next : ByteArray := prog_7_method_15_code
def yX5_next : MethodName := ⟨RX5, "next", "()I"⟩
abbrev cX5_fail : ByteArray := prog_7_method_16_code
def yX5_fail : MethodName := ⟨RX5, "fail", "(I)Z"⟩
def RX6 : String := "ColdGuest"
def TX6 : u_T := fun k => match k with
  | 0 => ("ColdGuest", "rows", "LColdGuest$Rows;", true)
  | 1 => ("ColdGuest", "tape", "LColdGuest$Tape;", true)
  | 2 => ("ColdGuest", "now", "LColdGuest$House;", true)
  | 3 => ("ColdGuest", "past", "LColdGuest$Past;", true)
  | 4 => ("ColdGuest", "seer", "LColdGuest$Seer;", true)
  | 5 => ("ColdGuest", "asker", "LColdGuest$Asker;", true)
  | 6 => ("ColdGuest", "firstImage", "LColdGuest$House;", true)
  | 7 => ("ColdGuest", "secondImage", "LColdGuest$House;", true)
  | 8 => ("ColdGuest", "latestFault", "I", false)
  | _ => ("ColdGuest", "latestFinding", "I", false)
def tyX6 : Nat → FieldType := fun k => match k with
  | 0 => .object "ColdGuest$Rows"
  | 1 => .object "ColdGuest$Tape"
  | 2 => .object "ColdGuest$House"
  | 3 => .object "ColdGuest$Past"
  | 4 => .object "ColdGuest$Seer"
  | 5 => .object "ColdGuest$Asker"
  | 6 => .object "ColdGuest$House"
  | 7 => .object "ColdGuest$House"
  | 8 => .int
  | _ => .int
abbrev wsX60 : List Cond := u_ws RX6 TX6 10
theorem nmX6 : ∀ a, a < 10 → ∀ b, b < 10 → a ≠ b → (TX6 a).2.1 ≠ (TX6 b).2.1 := by decide +kernel
theorem tyX6_ok : ∀ k, k < 10 → parseFieldDescriptor (TX6 k).2.2.1 = some (tyX6 k) := by decide +kernel
abbrev cX6_init : ByteArray := prog_1_method_1_code
def yX6_init : MethodName := ⟨RX6, "<init>", "()V"⟩
abbrev cX6_row : ByteArray := prog_1_method_2_code
def yX6_row : MethodName := ⟨RX6, "row", "(III)I"⟩
abbrev cX6_set : ByteArray := prog_1_method_3_code
def yX6_set : MethodName := ⟨RX6, "set", "(III)I"⟩
abbrev cX6_copy : ByteArray := prog_1_method_4_code
def yX6_copy : MethodName := ⟨RX6, "copy", "(IIIII)I"⟩
abbrev cX6_drop : ByteArray := prog_1_method_5_code
def yX6_drop : MethodName := ⟨RX6, "drop", "(I)I"⟩
abbrev cX6_feed : ByteArray := prog_1_method_6_code
def yX6_feed : MethodName := ⟨RX6, "feed", "(I)I"⟩
abbrev cX6_house : ByteArray := prog_1_method_7_code
def yX6_house : MethodName := ⟨RX6, "house", "()I"⟩
abbrev cX6_fault : ByteArray := prog_1_method_8_code
def yX6_fault : MethodName := ⟨RX6, "fault", "()I"⟩
abbrev cX6_undo : ByteArray := prog_1_method_9_code
def yX6_undo : MethodName := ⟨RX6, "undo", "()I"⟩
abbrev cX6_hours : ByteArray := prog_1_method_10_code
def yX6_hours : MethodName := ⟨RX6, "hours", "(I)I"⟩
abbrev cX6_door : ByteArray := prog_1_method_11_code
def yX6_door : MethodName := ⟨RX6, "door", "(II)I"⟩
abbrev cX6_sit : ByteArray := prog_1_method_12_code
def yX6_sit : MethodName := ⟨RX6, "sit", "(II)I"⟩
abbrev cX6_room : ByteArray := prog_1_method_13_code
def yX6_room : MethodName := ⟨RX6, "room", "(II)I"⟩
abbrev cX6_doorHas : ByteArray := prog_1_method_14_code
def yX6_doorHas : MethodName := ⟨RX6, "doorHas", "(II)I"⟩
abbrev cX6_sitter : ByteArray := prog_1_method_15_code
def yX6_sitter : MethodName := ⟨RX6, "sitter", "(II)I"⟩
abbrev cX6_ahead : ByteArray := prog_1_method_16_code
def yX6_ahead : MethodName := ⟨RX6, "ahead", "(II)I"⟩
abbrev cX6_allAhead : ByteArray := prog_1_method_17_code
def yX6_allAhead : MethodName := ⟨RX6, "allAhead", "(I)I"⟩
abbrev cX6_shivers : ByteArray := prog_1_method_18_code
def yX6_shivers : MethodName := ⟨RX6, "shivers", "(I)I"⟩
abbrev cX6_moved : ByteArray := prog_1_method_19_code
def yX6_moved : MethodName := ⟨RX6, "moved", "(IIIII)I"⟩
abbrev cX6_sitWhere : ByteArray := prog_1_method_20_code
def yX6_sitWhere : MethodName := ⟨RX6, "sitWhere", "(IIII)I"⟩
abbrev cX6_led : ByteArray := prog_1_method_21_code
def yX6_led : MethodName := ⟨RX6, "led", "(III)I"⟩
abbrev cX6_came : ByteArray := prog_1_method_22_code
def yX6_came : MethodName := ⟨RX6, "came", "(III)I"⟩
abbrev cX6_who : ByteArray := prog_1_method_23_code
def yX6_who : MethodName := ⟨RX6, "who", "(IIII)I"⟩
abbrev cX6_parted : ByteArray := prog_1_method_24_code
def yX6_parted : MethodName := ⟨RX6, "parted", "(III)I"⟩
abbrev cX6_coldest : ByteArray := prog_1_method_25_code
def yX6_coldest : MethodName := ⟨RX6, "coldest", "(II)I"⟩
abbrev cX6_guest : ByteArray := prog_1_method_26_code
def yX6_guest : MethodName := ⟨RX6, "guest", "(I)I"⟩
abbrev cX6_wind : ByteArray := prog_1_method_27_code
def yX6_wind : MethodName := ⟨RX6, "wind", "(III)J"⟩
abbrev cX6_drawn : ByteArray := prog_1_method_28_code
def yX6_drawn : MethodName := ⟨RX6, "drawn", "(III)I"⟩
abbrev cX6_image : ByteArray := prog_1_method_29_code
def yX6_image : MethodName := ⟨RX6, "image", "(I)I"⟩
abbrev cX6_restore : ByteArray := prog_1_method_30_code
def yX6_restore : MethodName := ⟨RX6, "restore", "(I)I"⟩
abbrev cX6_kind : ByteArray := prog_1_method_31_code
def yX6_kind : MethodName := ⟨RX6, "kind", "(I)I"⟩
abbrev cX6_as : ByteArray := prog_1_method_32_code
def yX6_as : MethodName := ⟨RX6, "as", "(II)I"⟩
abbrev cX6_ask : ByteArray := prog_1_method_33_code
def yX6_ask : MethodName := ⟨RX6, "ask", "(II)I"⟩
abbrev cX6_trace : ByteArray := prog_1_method_34_code
def yX6_trace : MethodName := ⟨RX6, "trace", "(I)I"⟩
abbrev cX6_count : ByteArray := prog_1_method_35_code
def yX6_count : MethodName := ⟨RX6, "count", "(I)I"⟩
abbrev cX6_status : ByteArray := prog_1_method_36_code
def yX6_status : MethodName := ⟨RX6, "status", "()I"⟩
abbrev cX6_finding : ByteArray := prog_1_method_37_code
def yX6_finding : MethodName := ⟨RX6, "finding", "(I)I"⟩
abbrev cX6_noFinding : ByteArray := prog_1_method_38_code
def yX6_noFinding : MethodName := ⟨RX6, "noFinding", "(I)I"⟩
abbrev cX6_imageOf : ByteArray := prog_1_method_39_code
def yX6_imageOf : MethodName := ⟨RX6, "imageOf", "(I)LColdGuest$House;"⟩
abbrev cX6_within : ByteArray := prog_1_method_40_code
def yX6_within : MethodName := ⟨RX6, "within", "(III)Z"⟩
def RX7 : String := "ColdGuestModel"
def TX7 : u_T := fun k => match k with
  | 0 => ("ColdGuestModel", "lanes", "[I", true)
  | 1 => ("ColdGuestModel", "sizes", "[I", true)
  | 2 => ("ColdGuestModel", "items", "[I", true)
  | 3 => ("ColdGuestModel", "status", "I", false)
  | 4 => ("ColdGuestModel", "isThere", "Z", false)
  | 5 => ("ColdGuestModel", "st", "[I", true)
  | 6 => ("ColdGuestModel", "moved", "[I", true)
  | 7 => ("ColdGuestModel", "tape", "[I", true)
  | 8 => ("ColdGuestModel", "bytes", "I", false)
  | 9 => ("ColdGuestModel", "latest", "I", false)
  | 10 => ("ColdGuestModel", "place", "I", false)
  | 11 => ("ColdGuestModel", "token", "I", false)
  | 12 => ("ColdGuestModel", "value", "I", false)
  | 13 => ("ColdGuestModel", "begins", "I", false)
  | 14 => ("ColdGuestModel", "wrong", "I", false)
  | 15 => ("ColdGuestModel", "read", "[I", true)
  | 16 => ("ColdGuestModel", "acts", "[I", true)
  | 17 => ("ColdGuestModel", "actMany", "I", false)
  | 18 => ("ColdGuestModel", "aside", "[I", true)
  | 19 => ("ColdGuestModel", "isHeld", "[Z", true)
  | 20 => ("ColdGuestModel", "kept", "[I", true)
  | 21 => ("ColdGuestModel", "trace", "[I", true)
  | _ => ("ColdGuestModel", "traced", "I", false)
def tyX7 : Nat → FieldType := fun k => match k with
  | 0 => .array .int
  | 1 => .array .int
  | 2 => .array .int
  | 3 => .int
  | 4 => .boolean
  | 5 => .array .int
  | 6 => .array .int
  | 7 => .array .int
  | 8 => .int
  | 9 => .int
  | 10 => .int
  | 11 => .int
  | 12 => .int
  | 13 => .int
  | 14 => .int
  | 15 => .array .int
  | 16 => .array .int
  | 17 => .int
  | 18 => .array .int
  | 19 => .array .boolean
  | 20 => .array .int
  | 21 => .array .int
  | _ => .int
abbrev wsX70 : List Cond := u_ws RX7 TX7 23
theorem nmX7 : ∀ a, a < 23 → ∀ b, b < 23 → a ≠ b → (TX7 a).2.1 ≠ (TX7 b).2.1 := by decide +kernel
theorem tyX7_ok : ∀ k, k < 23 → parseFieldDescriptor (TX7 k).2.2.1 = some (tyX7 k) := by decide +kernel
abbrev cX7_init : ByteArray := prog_9_method_1_code
def yX7_init : MethodName := ⟨RX7, "<init>", "()V"⟩
abbrev cX7_in : ByteArray := prog_9_method_2_code
def yX7_in : MethodName := ⟨RX7, "in", "(JJJ)Z"⟩
abbrev cX7_has : ByteArray := prog_9_method_3_code
def yX7_has : MethodName := ⟨RX7, "has", "(II)Z"⟩
abbrev cX7_ones : ByteArray := prog_9_method_4_code
def yX7_ones : MethodName := ⟨RX7, "ones", "(I)I"⟩
abbrev cX7_find : ByteArray := prog_9_method_5_code
def yX7_find : MethodName := ⟨RX7, "find", "(I)I"⟩
abbrev cX7_well : ByteArray := prog_9_method_6_code
def yX7_well : MethodName := ⟨RX7, "well", "(I)I"⟩
abbrev cX7_isRow : ByteArray := prog_9_method_7_code
def yX7_isRow : MethodName := ⟨RX7, "isRow", "(I)Z"⟩
abbrev cX7_row : ByteArray := prog_9_method_8_code
def yX7_row : MethodName := ⟨RX7, "row", "(III)I"⟩
abbrev cX7_asLane : ByteArray := prog_9_method_9_code
def yX7_asLane : MethodName := ⟨RX7, "asLane", "(II)I"⟩
abbrev cX7_set : ByteArray := prog_9_method_10_code
def yX7_set : MethodName := ⟨RX7, "set", "(III)I"⟩
abbrev cX7_copy : ByteArray := prog_9_method_11_code
def yX7_copy : MethodName := ⟨RX7, "copy", "(IIIII)I"⟩
abbrev cX7_drop : ByteArray := prog_9_method_12_code
def yX7_drop : MethodName := ⟨RX7, "drop", "(I)I"⟩
abbrev cX7_feed : ByteArray := prog_9_method_13_code
def yX7_feed : MethodName := ⟨RX7, "feed", "(I)I"⟩
abbrev cX7_nextToken : ByteArray := prog_9_method_14_code
def yX7_nextToken : MethodName := ⟨RX7, "nextToken", "()V"⟩
abbrev cX7_faults : ByteArray := prog_9_method_15_code
def yX7_faults : MethodName := ⟨RX7, "faults", "(I)Z"⟩
abbrev cX7_isLetter : ByteArray := prog_9_method_16_code
def yX7_isLetter : MethodName := ⟨RX7, "isLetter", "(I)Z"⟩
abbrev cX7_takes : ByteArray := prog_9_method_17_code
def yX7_takes : MethodName := ⟨RX7, "takes", "(I)Z"⟩
abbrev cX7_takesNumber : ByteArray := prog_9_method_18_code
def yX7_takesNumber : MethodName := ⟨RX7, "takesNumber", "(IIII)Z"⟩
abbrev cX7_readDoor : ByteArray := prog_9_method_19_code
def yX7_readDoor : MethodName := ⟨RX7, "readDoor", "()Z"⟩
abbrev cX7_readSitter : ByteArray := prog_9_method_20_code
def yX7_readSitter : MethodName := ⟨RX7, "readSitter", "(I)Z"⟩
abbrev cX7_readHouse : ByteArray := prog_9_method_21_code
def yX7_readHouse : MethodName := ⟨RX7, "readHouse", "()Z"⟩
abbrev cX7_house : ByteArray := prog_9_method_22_code
def yX7_house : MethodName := ⟨RX7, "house", "()I"⟩
abbrev cX7_fault : ByteArray := prog_9_method_23_code
def yX7_fault : MethodName := ⟨RX7, "fault", "()I"⟩
abbrev cX7_note : ByteArray := prog_9_method_24_code
def yX7_note : MethodName := ⟨RX7, "note", "()V"⟩
abbrev cX7_undo : ByteArray := prog_9_method_25_code
def yX7_undo : MethodName := ⟨RX7, "undo", "()I"⟩
abbrev cX7_bound : ByteArray := prog_9_method_26_code
def yX7_bound : MethodName := ⟨RX7, "bound", "(I)I"⟩
abbrev cX7_isKept : ByteArray := prog_9_method_27_code
def yX7_isKept : MethodName := ⟨RX7, "isKept", "(IZ)Z"⟩
abbrev cX7_flow : ByteArray := prog_9_method_28_code
def yX7_flow : MethodName := ⟨RX7, "flow", "(II)V"⟩
abbrev cX7_oneHour : ByteArray := prog_9_method_29_code
def yX7_oneHour : MethodName := ⟨RX7, "oneHour", "()V"⟩
abbrev cX7_allCold : ByteArray := prog_9_method_30_code
def yX7_allCold : MethodName := ⟨RX7, "allCold", "()I"⟩
abbrev cX7_hours : ByteArray := prog_9_method_31_code
def yX7_hours : MethodName := ⟨RX7, "hours", "(I)I"⟩
abbrev cX7_isDoor : ByteArray := prog_9_method_32_code
def yX7_isDoor : MethodName := ⟨RX7, "isDoor", "(I)Z"⟩
abbrev cX7_isRoom : ByteArray := prog_9_method_33_code
def yX7_isRoom : MethodName := ⟨RX7, "isRoom", "(I)Z"⟩
abbrev cX7_isSitter : ByteArray := prog_9_method_34_code
def yX7_isSitter : MethodName := ⟨RX7, "isSitter", "(I)Z"⟩
abbrev cX7_openDoors : ByteArray := prog_9_method_35_code
def yX7_openDoors : MethodName := ⟨RX7, "openDoors", "()I"⟩
abbrev cX7_door : ByteArray := prog_9_method_36_code
def yX7_door : MethodName := ⟨RX7, "door", "(II)I"⟩
abbrev cX7_sit : ByteArray := prog_9_method_37_code
def yX7_sit : MethodName := ⟨RX7, "sit", "(II)I"⟩
abbrev cX7_room : ByteArray := prog_9_method_38_code
def yX7_room : MethodName := ⟨RX7, "room", "(II)I"⟩
abbrev cX7_doorHas : ByteArray := prog_9_method_39_code
def yX7_doorHas : MethodName := ⟨RX7, "doorHas", "(II)I"⟩
abbrev cX7_isCold : ByteArray := prog_9_method_40_code
def yX7_isCold : MethodName := ⟨RX7, "isCold", "(I)Z"⟩
abbrev cX7_sitter : ByteArray := prog_9_method_41_code
def yX7_sitter : MethodName := ⟨RX7, "sitter", "(II)I"⟩
abbrev cX7_putAside : ByteArray := prog_9_method_42_code
def yX7_putAside : MethodName := ⟨RX7, "putAside", "()V"⟩
abbrev cX7_takeBack : ByteArray := prog_9_method_43_code
def yX7_takeBack : MethodName := ⟨RX7, "takeBack", "()V"⟩
abbrev cX7_goOn : ByteArray := prog_9_method_44_code
def yX7_goOn : MethodName := ⟨RX7, "goOn", "(I)V"⟩
abbrev cX7_ahead : ByteArray := prog_9_method_45_code
def yX7_ahead : MethodName := ⟨RX7, "ahead", "(II)I"⟩
abbrev cX7_allAhead : ByteArray := prog_9_method_46_code
def yX7_allAhead : MethodName := ⟨RX7, "allAhead", "(I)I"⟩
abbrev cX7_firstCold : ByteArray := prog_9_method_47_code
def yX7_firstCold : MethodName := ⟨RX7, "firstCold", "()I"⟩
abbrev cX7_shivers : ByteArray := prog_9_method_48_code
def yX7_shivers : MethodName := ⟨RX7, "shivers", "(I)I"⟩
abbrev cX7_areRooms : ByteArray := prog_9_method_49_code
def yX7_areRooms : MethodName := ⟨RX7, "areRooms", "(I)Z"⟩
abbrev cX7_turn : ByteArray := prog_9_method_50_code
def yX7_turn : MethodName := ⟨RX7, "turn", "(I)V"⟩
abbrev cX7_coldRooms : ByteArray := prog_9_method_51_code
def yX7_coldRooms : MethodName := ⟨RX7, "coldRooms", "(I)I"⟩
abbrev cX7_moved : ByteArray := prog_9_method_52_code
def yX7_moved : MethodName := ⟨RX7, "moved", "(IIIII)I"⟩
abbrev cX7_sitWhere : ByteArray := prog_9_method_53_code
def yX7_sitWhere : MethodName := ⟨RX7, "sitWhere", "(IIII)I"⟩
abbrev cX7_coldIn : ByteArray := prog_9_method_54_code
def yX7_coldIn : MethodName := ⟨RX7, "coldIn", "(II)I"⟩
abbrev cX7_led : ByteArray := prog_9_method_55_code
def yX7_led : MethodName := ⟨RX7, "led", "(III)I"⟩
abbrev cX7_lacks : ByteArray := prog_9_method_56_code
def yX7_lacks : MethodName := ⟨RX7, "lacks", "(III)I"⟩
abbrev cX7_isSo : ByteArray := prog_9_method_57_code
def yX7_isSo : MethodName := ⟨RX7, "isSo", "(II)Z"⟩
abbrev cX7_came : ByteArray := prog_9_method_58_code
def yX7_came : MethodName := ⟨RX7, "came", "(III)I"⟩
abbrev cX7_who : ByteArray := prog_9_method_59_code
def yX7_who : MethodName := ⟨RX7, "who", "(IIII)I"⟩
abbrev cX7_reachBy : ByteArray := prog_9_method_60_code
def yX7_reachBy : MethodName := ⟨RX7, "reachBy", "(II)I"⟩
abbrev cX7_parted : ByteArray := prog_9_method_61_code
def yX7_parted : MethodName := ⟨RX7, "parted", "(III)I"⟩
abbrev cX7_coldest : ByteArray := prog_9_method_62_code
def yX7_coldest : MethodName := ⟨RX7, "coldest", "(II)I"⟩
abbrev cX7_guest : ByteArray := prog_9_method_63_code
def yX7_guest : MethodName := ⟨RX7, "guest", "(I)I"⟩
abbrev cX7_wind : ByteArray := prog_9_method_64_code
def yX7_wind : MethodName := ⟨RX7, "wind", "(III)J"⟩
abbrev cX7_drawn : ByteArray := prog_9_method_65_code
def yX7_drawn : MethodName := ⟨RX7, "drawn", "(III)I"⟩
abbrev cX7_image : ByteArray := prog_9_method_66_code
def yX7_image : MethodName := ⟨RX7, "image", "(I)I"⟩
abbrev cX7_restore : ByteArray := prog_9_method_67_code
def yX7_restore : MethodName := ⟨RX7, "restore", "(I)I"⟩
abbrev cX7_kind : ByteArray := prog_9_method_68_code
def yX7_kind : MethodName := ⟨RX7, "kind", "(I)I"⟩
abbrev cX7_isKind : ByteArray := prog_9_method_69_code
def yX7_isKind : MethodName := ⟨RX7, "isKind", "(II)Z"⟩
abbrev cX7_as : ByteArray := prog_9_method_70_code
def yX7_as : MethodName := ⟨RX7, "as", "(II)I"⟩
abbrev cX7_begin : ByteArray := prog_9_method_71_code
def yX7_begin : MethodName := ⟨RX7, "begin", "(I)V"⟩
abbrev cX7_lent : ByteArray := prog_9_method_72_code
def yX7_lent : MethodName := ⟨RX7, "lent", "(II)I"⟩
abbrev cX7_readMark : ByteArray := prog_9_method_73_code
def yX7_readMark : MethodName := ⟨RX7, "readMark", "(I)I"⟩
abbrev cX7_fireSize : ByteArray := prog_9_method_74_code
def yX7_fireSize : MethodName := ⟨RX7, "fireSize", "(I)I"⟩
abbrev cX7_sizeOfFire : ByteArray := prog_9_method_75_code
def yX7_sizeOfFire : MethodName := ⟨RX7, "sizeOfFire", "(I)I"⟩
abbrev cX7_markOf : ByteArray := prog_9_method_76_code
def yX7_markOf : MethodName := ⟨RX7, "markOf", "(I)I"⟩
abbrev cX7_readSize : ByteArray := prog_9_method_77_code
def yX7_readSize : MethodName := ⟨RX7, "readSize", "(I)I"⟩
abbrev cX7_sizeOf : ByteArray := prog_9_method_78_code
def yX7_sizeOf : MethodName := ⟨RX7, "sizeOf", "(I)I"⟩
abbrev cX7_ask : ByteArray := prog_9_method_79_code
def yX7_ask : MethodName := ⟨RX7, "ask", "(II)I"⟩
abbrev cX7_trace : ByteArray := prog_9_method_80_code
def yX7_trace : MethodName := ⟨RX7, "trace", "(I)I"⟩
abbrev cX7_count : ByteArray := prog_9_method_81_code
def yX7_count : MethodName := ⟨RX7, "count", "(I)I"⟩
abbrev cX7_status : ByteArray := prog_9_method_82_code
def yX7_status : MethodName := ⟨RX7, "status", "()I"⟩
def RJ6 : String := "java/lang/Integer"
def TJ6 : u_T := fun k => match k with
  | _ => ("", "", "", false)
def tyJ6 : Nat → FieldType := fun k => match k with
  | _ => .int
abbrev wsJ60 : List Cond := u_ws RJ6 TJ6 0
theorem nmJ6 : ∀ a, a < 0 → ∀ b, b < 0 → a ≠ b → (TJ6 a).2.1 ≠ (TJ6 b).2.1 := by decide +kernel
theorem tyJ6_ok : ∀ k, k < 0 → parseFieldDescriptor (TJ6 k).2.2.1 = some (tyJ6 k) := by decide +kernel
abbrev cJ6_bitCount_0f7a4 : ByteArray := prog_10_method_49_code
def yJ6_bitCount_0f7a4 : MethodName := ⟨RJ6, "bitCount", "(I)I"⟩
def RJ9 : String := "java/lang/Math"
def TJ9 : u_T := fun k => match k with
  | _ => ("", "", "", false)
def tyJ9 : Nat → FieldType := fun k => match k with
  | _ => .int
abbrev wsJ90 : List Cond := u_ws RJ9 TJ9 0
theorem nmJ9 : ∀ a, a < 0 → ∀ b, b < 0 → a ≠ b → (TJ9 a).2.1 ≠ (TJ9 b).2.1 := by decide +kernel
theorem tyJ9_ok : ∀ k, k < 0 → parseFieldDescriptor (TJ9 k).2.2.1 = some (tyJ9 k) := by decide +kernel
abbrev cJ9_max_7cf53 : ByteArray := prog_11_method_65_code
def yJ9_max_7cf53 : MethodName := ⟨RJ9, "max", "(II)I"⟩
abbrev cJ9_max_f86c9 : ByteArray := prog_11_method_66_code
def yJ9_max_f86c9 : MethodName := ⟨RJ9, "max", "(JJ)J"⟩
abbrev cJ9_min_7cf53 : ByteArray := prog_11_method_69_code
def yJ9_min_7cf53 : MethodName := ⟨RJ9, "min", "(II)I"⟩
def RJ10 : String := "java/lang/System"
def TJ10 : u_T := fun k => match k with
  | _ => ("", "", "", false)
def tyJ10 : Nat → FieldType := fun k => match k with
  | _ => .int
abbrev wsJ100 : List Cond := u_ws RJ10 TJ10 0
theorem nmJ10 : ∀ a, a < 0 → ∀ b, b < 0 → a ≠ b → (TJ10 a).2.1 ≠ (TJ10 b).2.1 := by decide +kernel
theorem tyJ10_ok : ∀ k, k < 0 → parseFieldDescriptor (TJ10 k).2.2.1 = some (tyJ10 k) := by decide +kernel
abbrev cL_law : ByteArray := code
end
section
theorem dX0_init_0 : decode cX0_init 0 = .ok (.aload_n 0, 1) := by decide +kernel
theorem dX0_init_1 : decode cX0_init 1 = .ok (.invokespecial 3, 3) := by decide +kernel
theorem dX0_init_4 : decode cX0_init 4 = .ok (.aload_n 0, 1) := by decide +kernel
theorem dX0_init_5 : decode cX0_init 5 = .ok (.bipush 16, 2) := by decide +kernel
theorem dX0_init_7 : decode cX0_init 7 = .ok (.newarray .int, 2) := by decide +kernel
theorem dX0_init_9 : decode cX0_init 9 = .ok (.putfield 11, 3) := by decide +kernel
theorem dX0_init_12 : decode cX0_init 12 = .ok (.return_, 1) := by decide +kernel
theorem dX0_startAnew_0 : decode cX0_startAnew 0 = .ok (.aload_n 0, 1) := by decide +kernel
theorem dX0_startAnew_1 : decode cX0_startAnew 1 = .ok (.iconst 0, 1) := by decide +kernel
theorem dX0_startAnew_2 : decode cX0_startAnew 2 = .ok (.putfield 15, 3) := by decide +kernel
theorem dX0_startAnew_5 : decode cX0_startAnew 5 = .ok (.return_, 1) := by decide +kernel
theorem dX0_bodyAt_0 : decode cX0_bodyAt 0 = .ok (.iload_n 1, 1) := by decide +kernel
theorem dX0_bodyAt_1 : decode cX0_bodyAt 1 = .ok (.ifCond .lt 20, 3) := by decide +kernel
theorem dX0_bodyAt_4 : decode cX0_bodyAt 4 = .ok (.iload_n 1, 1) := by decide +kernel
theorem dX0_bodyAt_5 : decode cX0_bodyAt 5 = .ok (.aload_n 0, 1) := by decide +kernel
theorem dX0_bodyAt_6 : decode cX0_bodyAt 6 = .ok (.getfield 15, 3) := by decide +kernel
theorem dX0_bodyAt_9 : decode cX0_bodyAt 9 = .ok (.if_icmp .ge 12, 3) := by decide +kernel
theorem dX0_bodyAt_12 : decode cX0_bodyAt 12 = .ok (.aload_n 0, 1) := by decide +kernel
theorem dX0_bodyAt_13 : decode cX0_bodyAt 13 = .ok (.getfield 11, 3) := by decide +kernel
theorem dX0_bodyAt_16 : decode cX0_bodyAt 16 = .ok (.iload_n 1, 1) := by decide +kernel
theorem dX0_bodyAt_17 : decode cX0_bodyAt 17 = .ok (.iaload, 1) := by decide +kernel
theorem dX0_bodyAt_18 : decode cX0_bodyAt 18 = .ok (.goto 5, 3) := by decide +kernel
theorem dX0_bodyAt_21 : decode cX0_bodyAt 21 = .ok (.ldc 19, 2) := by decide +kernel
theorem dX0_bodyAt_23 : decode cX0_bodyAt 23 = .ok (.ireturn, 1) := by decide +kernel
theorem dX0_begin_0 : decode cX0_begin 0 = .ok (.aload_n 0, 1) := by decide +kernel
theorem dX0_begin_1 : decode cX0_begin 1 = .ok (.getfield 15, 3) := by decide +kernel
theorem dX0_begin_4 : decode cX0_begin 4 = .ok (.bipush 16, 2) := by decide +kernel
theorem dX0_begin_6 : decode cX0_begin 6 = .ok (.if_icmp .ge 23, 3) := by decide +kernel
theorem dX0_begin_9 : decode cX0_begin 9 = .ok (.aload_n 0, 1) := by decide +kernel
theorem dX0_begin_10 : decode cX0_begin 10 = .ok (.getfield 11, 3) := by decide +kernel
theorem dX0_begin_13 : decode cX0_begin 13 = .ok (.aload_n 0, 1) := by decide +kernel
theorem dX0_begin_14 : decode cX0_begin 14 = .ok (.getfield 15, 3) := by decide +kernel
theorem dX0_begin_17 : decode cX0_begin 17 = .ok (.iload_n 1, 1) := by decide +kernel
theorem dX0_begin_18 : decode cX0_begin 18 = .ok (.iastore, 1) := by decide +kernel
theorem dX0_begin_19 : decode cX0_begin 19 = .ok (.aload_n 0, 1) := by decide +kernel
theorem dX0_begin_20 : decode cX0_begin 20 = .ok (.dup, 1) := by decide +kernel
theorem dX0_begin_21 : decode cX0_begin 21 = .ok (.getfield 15, 3) := by decide +kernel
theorem dX0_begin_24 : decode cX0_begin 24 = .ok (.iconst 1, 1) := by decide +kernel
theorem dX0_begin_25 : decode cX0_begin 25 = .ok (.iadd, 1) := by decide +kernel
theorem dX0_begin_26 : decode cX0_begin 26 = .ok (.putfield 15, 3) := by decide +kernel
theorem dX0_begin_29 : decode cX0_begin 29 = .ok (.return_, 1) := by decide +kernel
theorem dX0_sizeOf_0 : decode cX0_sizeOf 0 = .ok (.aload_n 1, 1) := by decide +kernel
theorem dX0_sizeOf_1 : decode cX0_sizeOf 1 = .ok (.getfield 20, 3) := by decide +kernel
theorem dX0_sizeOf_4 : decode cX0_sizeOf 4 = .ok (.iload_n 2, 1) := by decide +kernel
theorem dX0_sizeOf_5 : decode cX0_sizeOf 5 = .ok (.iaload, 1) := by decide +kernel
theorem dX0_sizeOf_6 : decode cX0_sizeOf 6 = .ok (.tableswitch 62 1 5 #[34, 41, 34, 55, 55], 34) := by decide +kernel
theorem dX0_sizeOf_40 : decode cX0_sizeOf 40 = .ok (.aload_n 0, 1) := by decide +kernel
theorem dX0_sizeOf_41 : decode cX0_sizeOf 41 = .ok (.aload_n 1, 1) := by decide +kernel
theorem dX0_sizeOf_42 : decode cX0_sizeOf 42 = .ok (.iload_n 2, 1) := by decide +kernel
theorem dX0_sizeOf_43 : decode cX0_sizeOf 43 = .ok (.invokevirtual 25, 3) := by decide +kernel
theorem dX0_sizeOf_46 : decode cX0_sizeOf 46 = .ok (.ireturn, 1) := by decide +kernel
theorem dX0_sizeOf_47 : decode cX0_sizeOf 47 = .ok (.aload_n 0, 1) := by decide +kernel
theorem dX0_sizeOf_48 : decode cX0_sizeOf 48 = .ok (.bipush 12, 2) := by decide +kernel
theorem dX0_sizeOf_50 : decode cX0_sizeOf 50 = .ok (.invokevirtual 29, 3) := by decide +kernel
theorem dX0_sizeOf_53 : decode cX0_sizeOf 53 = .ok (.aload_n 0, 1) := by decide +kernel
theorem dX0_sizeOf_54 : decode cX0_sizeOf 54 = .ok (.aload_n 1, 1) := by decide +kernel
theorem dX0_sizeOf_55 : decode cX0_sizeOf 55 = .ok (.iload_n 2, 1) := by decide +kernel
theorem dX0_sizeOf_56 : decode cX0_sizeOf 56 = .ok (.invokevirtual 25, 3) := by decide +kernel
theorem dX0_sizeOf_59 : decode cX0_sizeOf 59 = .ok (.ineg, 1) := by decide +kernel
theorem dX0_sizeOf_60 : decode cX0_sizeOf 60 = .ok (.ireturn, 1) := by decide +kernel
theorem dX0_sizeOf_61 : decode cX0_sizeOf 61 = .ok (.aload_n 0, 1) := by decide +kernel
theorem dX0_sizeOf_62 : decode cX0_sizeOf 62 = .ok (.aload_n 1, 1) := by decide +kernel
theorem dX0_sizeOf_63 : decode cX0_sizeOf 63 = .ok (.iload_n 2, 1) := by decide +kernel
theorem dX0_sizeOf_64 : decode cX0_sizeOf 64 = .ok (.invokevirtual 33, 3) := by decide +kernel
theorem dX0_sizeOf_67 : decode cX0_sizeOf 67 = .ok (.ireturn, 1) := by decide +kernel
theorem dX0_sizeOf_68 : decode cX0_sizeOf 68 = .ok (.aload_n 0, 1) := by decide +kernel
theorem dX0_sizeOf_69 : decode cX0_sizeOf 69 = .ok (.aload_n 1, 1) := by decide +kernel
theorem dX0_sizeOf_70 : decode cX0_sizeOf 70 = .ok (.iload_n 2, 1) := by decide +kernel
theorem dX0_sizeOf_71 : decode cX0_sizeOf 71 = .ok (.invokevirtual 36, 3) := by decide +kernel
theorem dX0_sizeOf_74 : decode cX0_sizeOf 74 = .ok (.ireturn, 1) := by decide +kernel
theorem dX0_markOf_0 : decode cX0_markOf 0 = .ok (.aload_n 1, 1) := by decide +kernel
theorem dX0_markOf_1 : decode cX0_markOf 1 = .ok (.getfield 20, 3) := by decide +kernel
theorem dX0_markOf_4 : decode cX0_markOf 4 = .ok (.iload_n 2, 1) := by decide +kernel
theorem dX0_markOf_5 : decode cX0_markOf 5 = .ok (.iaload, 1) := by decide +kernel
theorem dX0_markOf_6 : decode cX0_markOf 6 = .ok (.tableswitch 48 1 5 #[34, 34, 34, 41, 41], 34) := by decide +kernel
theorem dX0_markOf_40 : decode cX0_markOf 40 = .ok (.aload_n 0, 1) := by decide +kernel
theorem dX0_markOf_41 : decode cX0_markOf 41 = .ok (.aload_n 1, 1) := by decide +kernel
theorem dX0_markOf_42 : decode cX0_markOf 42 = .ok (.iload_n 2, 1) := by decide +kernel
theorem dX0_markOf_43 : decode cX0_markOf 43 = .ok (.invokevirtual 39, 3) := by decide +kernel
theorem dX0_markOf_46 : decode cX0_markOf 46 = .ok (.ireturn, 1) := by decide +kernel
theorem dX0_markOf_47 : decode cX0_markOf 47 = .ok (.aload_n 0, 1) := by decide +kernel
theorem dX0_markOf_48 : decode cX0_markOf 48 = .ok (.aload_n 1, 1) := by decide +kernel
theorem dX0_markOf_49 : decode cX0_markOf 49 = .ok (.iload_n 2, 1) := by decide +kernel
theorem dX0_markOf_50 : decode cX0_markOf 50 = .ok (.invokevirtual 42, 3) := by decide +kernel
theorem dX0_markOf_53 : decode cX0_markOf 53 = .ok (.ireturn, 1) := by decide +kernel
theorem dX0_markOf_54 : decode cX0_markOf 54 = .ok (.aload_n 0, 1) := by decide +kernel
theorem dX0_markOf_55 : decode cX0_markOf 55 = .ok (.iload_n 2, 1) := by decide +kernel
theorem dX0_markOf_56 : decode cX0_markOf 56 = .ok (.invokevirtual 45, 3) := by decide +kernel
theorem dX0_markOf_59 : decode cX0_markOf 59 = .ok (.ireturn, 1) := by decide +kernel
theorem dX0_sizeOfFires_0 : decode cX0_sizeOfFires 0 = .ok (.aload_n 1, 1) := by decide +kernel
theorem dX0_sizeOfFires_1 : decode cX0_sizeOfFires 1 = .ok (.getfield 20, 3) := by decide +kernel
theorem dX0_sizeOfFires_4 : decode cX0_sizeOfFires 4 = .ok (.iload_n 2, 1) := by decide +kernel
theorem dX0_sizeOfFires_5 : decode cX0_sizeOfFires 5 = .ok (.iaload, 1) := by decide +kernel
theorem dX0_sizeOfFires_6 : decode cX0_sizeOfFires 6 = .ok (.iconst 5, 1) := by decide +kernel
theorem dX0_sizeOfFires_7 : decode cX0_sizeOfFires 7 = .ok (.if_icmp .ne 18, 3) := by decide +kernel
theorem dX0_sizeOfFires_10 : decode cX0_sizeOfFires 10 = .ok (.aload_n 0, 1) := by decide +kernel
theorem dX0_sizeOfFires_11 : decode cX0_sizeOfFires 11 = .ok (.bipush 14, 2) := by decide +kernel
theorem dX0_sizeOfFires_13 : decode cX0_sizeOfFires 13 = .ok (.invokevirtual 29, 3) := by decide +kernel
theorem dX0_sizeOfFires_16 : decode cX0_sizeOfFires 16 = .ok (.iconst 2, 1) := by decide +kernel
theorem dX0_sizeOfFires_17 : decode cX0_sizeOfFires 17 = .ok (.aload_n 0, 1) := by decide +kernel
theorem dX0_sizeOfFires_18 : decode cX0_sizeOfFires 18 = .ok (.aload_n 1, 1) := by decide +kernel
theorem dX0_sizeOfFires_19 : decode cX0_sizeOfFires 19 = .ok (.iload_n 2, 1) := by decide +kernel
theorem dX0_sizeOfFires_20 : decode cX0_sizeOfFires 20 = .ok (.invokevirtual 49, 3) := by decide +kernel
theorem dX0_sizeOfFires_23 : decode cX0_sizeOfFires 23 = .ok (.imul, 1) := by decide +kernel
theorem dX0_sizeOfFires_24 : decode cX0_sizeOfFires 24 = .ok (.ireturn, 1) := by decide +kernel
theorem dX0_sizeOfFires_25 : decode cX0_sizeOfFires 25 = .ok (.aload_n 0, 1) := by decide +kernel
theorem dX0_sizeOfFires_26 : decode cX0_sizeOfFires 26 = .ok (.aload_n 1, 1) := by decide +kernel
theorem dX0_sizeOfFires_27 : decode cX0_sizeOfFires 27 = .ok (.iload_n 2, 1) := by decide +kernel
theorem dX0_sizeOfFires_28 : decode cX0_sizeOfFires 28 = .ok (.invokevirtual 49, 3) := by decide +kernel
theorem dX0_sizeOfFires_31 : decode cX0_sizeOfFires 31 = .ok (.ireturn, 1) := by decide +kernel
theorem dX0_markOfReaders_0 : decode cX0_markOfReaders 0 = .ok (.aload_n 1, 1) := by decide +kernel
theorem dX0_markOfReaders_1 : decode cX0_markOfReaders 1 = .ok (.getfield 20, 3) := by decide +kernel
theorem dX0_markOfReaders_4 : decode cX0_markOfReaders 4 = .ok (.iload_n 2, 1) := by decide +kernel
theorem dX0_markOfReaders_5 : decode cX0_markOfReaders 5 = .ok (.iaload, 1) := by decide +kernel
theorem dX0_markOfReaders_6 : decode cX0_markOfReaders 6 = .ok (.lookupswitch 58 #[(2, 26), (3, 41)], 26) := by decide +kernel
theorem dX0_markOfReaders_32 : decode cX0_markOfReaders 32 = .ok (.aload_n 0, 1) := by decide +kernel
theorem dX0_markOfReaders_33 : decode cX0_markOfReaders 33 = .ok (.bipush 24, 2) := by decide +kernel
theorem dX0_markOfReaders_35 : decode cX0_markOfReaders 35 = .ok (.invokevirtual 29, 3) := by decide +kernel
theorem dX0_markOfReaders_38 : decode cX0_markOfReaders 38 = .ok (.iconst 2, 1) := by decide +kernel
theorem dX0_markOfReaders_39 : decode cX0_markOfReaders 39 = .ok (.aload_n 0, 1) := by decide +kernel
theorem dX0_markOfReaders_40 : decode cX0_markOfReaders 40 = .ok (.aload_n 1, 1) := by decide +kernel
theorem dX0_markOfReaders_41 : decode cX0_markOfReaders 41 = .ok (.iload_n 2, 1) := by decide +kernel
theorem dX0_markOfReaders_42 : decode cX0_markOfReaders 42 = .ok (.invokevirtual 52, 3) := by decide +kernel
theorem dX0_markOfReaders_45 : decode cX0_markOfReaders 45 = .ok (.imul, 1) := by decide +kernel
theorem dX0_markOfReaders_46 : decode cX0_markOfReaders 46 = .ok (.ireturn, 1) := by decide +kernel
theorem dX0_markOfReaders_47 : decode cX0_markOfReaders 47 = .ok (.aload_n 0, 1) := by decide +kernel
theorem dX0_markOfReaders_48 : decode cX0_markOfReaders 48 = .ok (.bipush 22, 2) := by decide +kernel
theorem dX0_markOfReaders_50 : decode cX0_markOfReaders 50 = .ok (.invokevirtual 29, 3) := by decide +kernel
theorem dX0_markOfReaders_53 : decode cX0_markOfReaders 53 = .ok (.aload_n 0, 1) := by decide +kernel
theorem dX0_markOfReaders_54 : decode cX0_markOfReaders 54 = .ok (.aload_n 1, 1) := by decide +kernel
theorem dX0_markOfReaders_55 : decode cX0_markOfReaders 55 = .ok (.iload_n 2, 1) := by decide +kernel
theorem dX0_markOfReaders_56 : decode cX0_markOfReaders 56 = .ok (.invokevirtual 52, 3) := by decide +kernel
theorem dX0_markOfReaders_59 : decode cX0_markOfReaders 59 = .ok (.sipush 1000, 3) := by decide +kernel
theorem dX0_markOfReaders_62 : decode cX0_markOfReaders 62 = .ok (.isub, 1) := by decide +kernel
theorem dX0_markOfReaders_63 : decode cX0_markOfReaders 63 = .ok (.ireturn, 1) := by decide +kernel
theorem dX0_markOfReaders_64 : decode cX0_markOfReaders 64 = .ok (.aload_n 0, 1) := by decide +kernel
theorem dX0_markOfReaders_65 : decode cX0_markOfReaders 65 = .ok (.aload_n 1, 1) := by decide +kernel
theorem dX0_markOfReaders_66 : decode cX0_markOfReaders 66 = .ok (.iload_n 2, 1) := by decide +kernel
theorem dX0_markOfReaders_67 : decode cX0_markOfReaders 67 = .ok (.invokevirtual 52, 3) := by decide +kernel
theorem dX0_markOfReaders_70 : decode cX0_markOfReaders 70 = .ok (.ireturn, 1) := by decide +kernel
theorem dX0_lentSize_0 : decode cX0_lentSize 0 = .ok (.aload_n 0, 1) := by decide +kernel
theorem dX0_lentSize_1 : decode cX0_lentSize 1 = .ok (.bipush 10, 2) := by decide +kernel
theorem dX0_lentSize_3 : decode cX0_lentSize 3 = .ok (.invokevirtual 29, 3) := by decide +kernel
theorem dX0_lentSize_6 : decode cX0_lentSize 6 = .ok (.aload_n 1, 1) := by decide +kernel
theorem dX0_lentSize_7 : decode cX0_lentSize 7 = .ok (.getfield 55, 3) := by decide +kernel
theorem dX0_lentSize_10 : decode cX0_lentSize 10 = .ok (.iload_n 2, 1) := by decide +kernel
theorem dX0_lentSize_11 : decode cX0_lentSize 11 = .ok (.iaload, 1) := by decide +kernel
theorem dX0_lentSize_12 : decode cX0_lentSize 12 = .ok (.ireturn, 1) := by decide +kernel
theorem dX0_readerSize_0 : decode cX0_readerSize 0 = .ok (.aload_n 0, 1) := by decide +kernel
theorem dX0_readerSize_1 : decode cX0_readerSize 1 = .ok (.bipush 11, 2) := by decide +kernel
theorem dX0_readerSize_3 : decode cX0_readerSize 3 = .ok (.invokevirtual 29, 3) := by decide +kernel
theorem dX0_readerSize_6 : decode cX0_readerSize 6 = .ok (.aload_n 0, 1) := by decide +kernel
theorem dX0_readerSize_7 : decode cX0_readerSize 7 = .ok (.aload_n 1, 1) := by decide +kernel
theorem dX0_readerSize_8 : decode cX0_readerSize 8 = .ok (.iload_n 2, 1) := by decide +kernel
theorem dX0_readerSize_9 : decode cX0_readerSize 9 = .ok (.invokevirtual 36, 3) := by decide +kernel
theorem dX0_readerSize_12 : decode cX0_readerSize 12 = .ok (.istore_n 3, 1) := by decide +kernel
theorem dX0_readerSize_13 : decode cX0_readerSize 13 = .ok (.iload_n 3, 1) := by decide +kernel
theorem dX0_readerSize_14 : decode cX0_readerSize 14 = .ok (.aload_n 0, 1) := by decide +kernel
theorem dX0_readerSize_15 : decode cX0_readerSize 15 = .ok (.aload_n 1, 1) := by decide +kernel
theorem dX0_readerSize_16 : decode cX0_readerSize 16 = .ok (.iload_n 2, 1) := by decide +kernel
theorem dX0_readerSize_17 : decode cX0_readerSize 17 = .ok (.invokevirtual 39, 3) := by decide +kernel
theorem dX0_readerSize_20 : decode cX0_readerSize 20 = .ok (.iadd, 1) := by decide +kernel
theorem dX0_readerSize_21 : decode cX0_readerSize 21 = .ok (.ireturn, 1) := by decide +kernel
theorem dX0_fireSize_0 : decode cX0_fireSize 0 = .ok (.aload_n 0, 1) := by decide +kernel
theorem dX0_fireSize_1 : decode cX0_fireSize 1 = .ok (.bipush 13, 2) := by decide +kernel
theorem dX0_fireSize_3 : decode cX0_fireSize 3 = .ok (.invokevirtual 29, 3) := by decide +kernel
theorem dX0_fireSize_6 : decode cX0_fireSize 6 = .ok (.aload_n 0, 1) := by decide +kernel
theorem dX0_fireSize_7 : decode cX0_fireSize 7 = .ok (.aload_n 1, 1) := by decide +kernel
theorem dX0_fireSize_8 : decode cX0_fireSize 8 = .ok (.iload_n 2, 1) := by decide +kernel
theorem dX0_fireSize_9 : decode cX0_fireSize 9 = .ok (.invokevirtual 36, 3) := by decide +kernel
theorem dX0_fireSize_12 : decode cX0_fireSize 12 = .ok (.bipush 100, 2) := by decide +kernel
theorem dX0_fireSize_14 : decode cX0_fireSize 14 = .ok (.isub, 1) := by decide +kernel
theorem dX0_fireSize_15 : decode cX0_fireSize 15 = .ok (.ireturn, 1) := by decide +kernel
theorem dX0_lentMark_0 : decode cX0_lentMark 0 = .ok (.aload_n 0, 1) := by decide +kernel
theorem dX0_lentMark_1 : decode cX0_lentMark 1 = .ok (.bipush 20, 2) := by decide +kernel
theorem dX0_lentMark_3 : decode cX0_lentMark 3 = .ok (.invokevirtual 29, 3) := by decide +kernel
theorem dX0_lentMark_6 : decode cX0_lentMark 6 = .ok (.iload_n 1, 1) := by decide +kernel
theorem dX0_lentMark_7 : decode cX0_lentMark 7 = .ok (.ireturn, 1) := by decide +kernel
theorem dX0_readerMark_0 : decode cX0_readerMark 0 = .ok (.aload_n 0, 1) := by decide +kernel
theorem dX0_readerMark_1 : decode cX0_readerMark 1 = .ok (.bipush 21, 2) := by decide +kernel
theorem dX0_readerMark_3 : decode cX0_readerMark 3 = .ok (.invokevirtual 29, 3) := by decide +kernel
theorem dX0_readerMark_6 : decode cX0_readerMark 6 = .ok (.aload_n 0, 1) := by decide +kernel
theorem dX0_readerMark_7 : decode cX0_readerMark 7 = .ok (.iload_n 2, 1) := by decide +kernel
theorem dX0_readerMark_8 : decode cX0_readerMark 8 = .ok (.invokevirtual 45, 3) := by decide +kernel
theorem dX0_readerMark_11 : decode cX0_readerMark 11 = .ok (.aload_n 1, 1) := by decide +kernel
theorem dX0_readerMark_12 : decode cX0_readerMark 12 = .ok (.getfield 58, 3) := by decide +kernel
theorem dX0_readerMark_15 : decode cX0_readerMark 15 = .ok (.iload_n 2, 1) := by decide +kernel
theorem dX0_readerMark_16 : decode cX0_readerMark 16 = .ok (.iaload, 1) := by decide +kernel
theorem dX0_readerMark_17 : decode cX0_readerMark 17 = .ok (.iadd, 1) := by decide +kernel
theorem dX0_readerMark_18 : decode cX0_readerMark 18 = .ok (.ireturn, 1) := by decide +kernel
theorem dX0_fireMark_0 : decode cX0_fireMark 0 = .ok (.aload_n 0, 1) := by decide +kernel
theorem dX0_fireMark_1 : decode cX0_fireMark 1 = .ok (.bipush 23, 2) := by decide +kernel
theorem dX0_fireMark_3 : decode cX0_fireMark 3 = .ok (.invokevirtual 29, 3) := by decide +kernel
theorem dX0_fireMark_6 : decode cX0_fireMark 6 = .ok (.aload_n 0, 1) := by decide +kernel
theorem dX0_fireMark_7 : decode cX0_fireMark 7 = .ok (.iload_n 2, 1) := by decide +kernel
theorem dX0_fireMark_8 : decode cX0_fireMark 8 = .ok (.invokevirtual 45, 3) := by decide +kernel
theorem dX0_fireMark_11 : decode cX0_fireMark 11 = .ok (.istore_n 3, 1) := by decide +kernel
theorem dX0_fireMark_12 : decode cX0_fireMark 12 = .ok (.iload_n 3, 1) := by decide +kernel
theorem dX0_fireMark_13 : decode cX0_fireMark 13 = .ok (.aload_n 0, 1) := by decide +kernel
theorem dX0_fireMark_14 : decode cX0_fireMark 14 = .ok (.aload_n 1, 1) := by decide +kernel
theorem dX0_fireMark_15 : decode cX0_fireMark 15 = .ok (.iload_n 2, 1) := by decide +kernel
theorem dX0_fireMark_16 : decode cX0_fireMark 16 = .ok (.invokevirtual 33, 3) := by decide +kernel
theorem dX0_fireMark_19 : decode cX0_fireMark 19 = .ok (.isub, 1) := by decide +kernel
theorem dX0_fireMark_20 : decode cX0_fireMark 20 = .ok (.ireturn, 1) := by decide +kernel
theorem dX1_init_0 : decode cX1_init 0 = .ok (.aload_n 0, 1) := by decide +kernel
theorem dX1_init_1 : decode cX1_init 1 = .ok (.invokespecial 5, 3) := by decide +kernel
theorem dX1_init_4 : decode cX1_init 4 = .ok (.aload_n 0, 1) := by decide +kernel
theorem dX1_init_5 : decode cX1_init 5 = .ok (.bipush 8, 2) := by decide +kernel
theorem dX1_init_7 : decode cX1_init 7 = .ok (.newarray .int, 2) := by decide +kernel
theorem dX1_init_9 : decode cX1_init 9 = .ok (.putfield 11, 3) := by decide +kernel
theorem dX1_init_12 : decode cX1_init 12 = .ok (.aload_n 0, 1) := by decide +kernel
theorem dX1_init_13 : decode cX1_init 13 = .ok (.bipush 8, 2) := by decide +kernel
theorem dX1_init_15 : decode cX1_init 15 = .ok (.newarray .int, 2) := by decide +kernel
theorem dX1_init_17 : decode cX1_init 17 = .ok (.putfield 15, 3) := by decide +kernel
theorem dX1_init_20 : decode cX1_init 20 = .ok (.aload_n 0, 1) := by decide +kernel
theorem dX1_init_21 : decode cX1_init 21 = .ok (.iconst 5, 1) := by decide +kernel
theorem dX1_init_22 : decode cX1_init 22 = .ok (.newarray .int, 2) := by decide +kernel
theorem dX1_init_24 : decode cX1_init 24 = .ok (.putfield 18, 3) := by decide +kernel
theorem dX1_init_27 : decode cX1_init 27 = .ok (.aload_n 0, 1) := by decide +kernel
theorem dX1_init_28 : decode cX1_init 28 = .ok (.iconst 5, 1) := by decide +kernel
theorem dX1_init_29 : decode cX1_init 29 = .ok (.newarray .int, 2) := by decide +kernel
theorem dX1_init_31 : decode cX1_init 31 = .ok (.putfield 21, 3) := by decide +kernel
theorem dX1_init_34 : decode cX1_init 34 = .ok (.aload_n 0, 1) := by decide +kernel
theorem dX1_init_35 : decode cX1_init 35 = .ok (.iconst 5, 1) := by decide +kernel
theorem dX1_init_36 : decode cX1_init 36 = .ok (.newarray .int, 2) := by decide +kernel
theorem dX1_init_38 : decode cX1_init 38 = .ok (.putfield 24, 3) := by decide +kernel
theorem dX1_init_41 : decode cX1_init 41 = .ok (.aload_n 0, 1) := by decide +kernel
theorem dX1_init_42 : decode cX1_init 42 = .ok (.bipush 6, 2) := by decide +kernel
theorem dX1_init_44 : decode cX1_init 44 = .ok (.newarray .int, 2) := by decide +kernel
theorem dX1_init_46 : decode cX1_init 46 = .ok (.putfield 27, 3) := by decide +kernel
theorem dX1_init_49 : decode cX1_init 49 = .ok (.return_, 1) := by decide +kernel
theorem dX1_stands_0 : decode cX1_stands 0 = .ok (.aload_n 0, 1) := by decide +kernel
theorem dX1_stands_1 : decode cX1_stands 1 = .ok (.getfield 30, 3) := by decide +kernel
theorem dX1_stands_4 : decode cX1_stands 4 = .ok (.ifCond .le 7, 3) := by decide +kernel
theorem dX1_stands_7 : decode cX1_stands 7 = .ok (.iconst 1, 1) := by decide +kernel
theorem dX1_stands_8 : decode cX1_stands 8 = .ok (.goto 4, 3) := by decide +kernel
theorem dX1_stands_11 : decode cX1_stands 11 = .ok (.iconst 0, 1) := by decide +kernel
theorem dX1_stands_12 : decode cX1_stands 12 = .ok (.ireturn, 1) := by decide +kernel
theorem dX1_hasRoom_0 : decode cX1_hasRoom 0 = .ok (.iload_n 1, 1) := by decide +kernel
theorem dX1_hasRoom_1 : decode cX1_hasRoom 1 = .ok (.ifCond .lt 15, 3) := by decide +kernel
theorem dX1_hasRoom_4 : decode cX1_hasRoom 4 = .ok (.iload_n 1, 1) := by decide +kernel
theorem dX1_hasRoom_5 : decode cX1_hasRoom 5 = .ok (.aload_n 0, 1) := by decide +kernel
theorem dX1_hasRoom_6 : decode cX1_hasRoom 6 = .ok (.getfield 30, 3) := by decide +kernel
theorem dX1_hasRoom_9 : decode cX1_hasRoom 9 = .ok (.if_icmp .ge 7, 3) := by decide +kernel
theorem dX1_hasRoom_12 : decode cX1_hasRoom 12 = .ok (.iconst 1, 1) := by decide +kernel
theorem dX1_hasRoom_13 : decode cX1_hasRoom 13 = .ok (.goto 4, 3) := by decide +kernel
theorem dX1_hasRoom_16 : decode cX1_hasRoom 16 = .ok (.iconst 0, 1) := by decide +kernel
theorem dX1_hasRoom_17 : decode cX1_hasRoom 17 = .ok (.ireturn, 1) := by decide +kernel
theorem dX1_hasRooms_0 : decode cX1_hasRooms 0 = .ok (.iload_n 1, 1) := by decide +kernel
theorem dX1_hasRooms_1 : decode cX1_hasRooms 1 = .ok (.ifCond .lt 17, 3) := by decide +kernel
theorem dX1_hasRooms_4 : decode cX1_hasRooms 4 = .ok (.iload_n 1, 1) := by decide +kernel
theorem dX1_hasRooms_5 : decode cX1_hasRooms 5 = .ok (.iconst 1, 1) := by decide +kernel
theorem dX1_hasRooms_6 : decode cX1_hasRooms 6 = .ok (.aload_n 0, 1) := by decide +kernel
theorem dX1_hasRooms_7 : decode cX1_hasRooms 7 = .ok (.getfield 30, 3) := by decide +kernel
theorem dX1_hasRooms_10 : decode cX1_hasRooms 10 = .ok (.ishl, 1) := by decide +kernel
theorem dX1_hasRooms_11 : decode cX1_hasRooms 11 = .ok (.if_icmp .ge 7, 3) := by decide +kernel
theorem dX1_hasRooms_14 : decode cX1_hasRooms 14 = .ok (.iconst 1, 1) := by decide +kernel
theorem dX1_hasRooms_15 : decode cX1_hasRooms 15 = .ok (.goto 4, 3) := by decide +kernel
theorem dX1_hasRooms_18 : decode cX1_hasRooms 18 = .ok (.iconst 0, 1) := by decide +kernel
theorem dX1_hasRooms_19 : decode cX1_hasRooms 19 = .ok (.ireturn, 1) := by decide +kernel
theorem dX1_hasDoor_0 : decode cX1_hasDoor 0 = .ok (.iload_n 1, 1) := by decide +kernel
theorem dX1_hasDoor_1 : decode cX1_hasDoor 1 = .ok (.ifCond .lt 15, 3) := by decide +kernel
theorem dX1_hasDoor_4 : decode cX1_hasDoor 4 = .ok (.iload_n 1, 1) := by decide +kernel
theorem dX1_hasDoor_5 : decode cX1_hasDoor 5 = .ok (.aload_n 0, 1) := by decide +kernel
theorem dX1_hasDoor_6 : decode cX1_hasDoor 6 = .ok (.getfield 34, 3) := by decide +kernel
theorem dX1_hasDoor_9 : decode cX1_hasDoor 9 = .ok (.if_icmp .ge 7, 3) := by decide +kernel
theorem dX1_hasDoor_12 : decode cX1_hasDoor 12 = .ok (.iconst 1, 1) := by decide +kernel
theorem dX1_hasDoor_13 : decode cX1_hasDoor 13 = .ok (.goto 4, 3) := by decide +kernel
theorem dX1_hasDoor_16 : decode cX1_hasDoor 16 = .ok (.iconst 0, 1) := by decide +kernel
theorem dX1_hasDoor_17 : decode cX1_hasDoor 17 = .ok (.ireturn, 1) := by decide +kernel
theorem dX1_hasSitter_0 : decode cX1_hasSitter 0 = .ok (.iload_n 1, 1) := by decide +kernel
theorem dX1_hasSitter_1 : decode cX1_hasSitter 1 = .ok (.ifCond .lt 15, 3) := by decide +kernel
theorem dX1_hasSitter_4 : decode cX1_hasSitter 4 = .ok (.iload_n 1, 1) := by decide +kernel
theorem dX1_hasSitter_5 : decode cX1_hasSitter 5 = .ok (.aload_n 0, 1) := by decide +kernel
theorem dX1_hasSitter_6 : decode cX1_hasSitter 6 = .ok (.getfield 37, 3) := by decide +kernel
theorem dX1_hasSitter_9 : decode cX1_hasSitter 9 = .ok (.if_icmp .ge 7, 3) := by decide +kernel
theorem dX1_hasSitter_12 : decode cX1_hasSitter 12 = .ok (.iconst 1, 1) := by decide +kernel
theorem dX1_hasSitter_13 : decode cX1_hasSitter 13 = .ok (.goto 4, 3) := by decide +kernel
theorem dX1_hasSitter_16 : decode cX1_hasSitter 16 = .ok (.iconst 0, 1) := by decide +kernel
theorem dX1_hasSitter_17 : decode cX1_hasSitter 17 = .ok (.ireturn, 1) := by decide +kernel
theorem dX1_clear_0 : decode cX1_clear 0 = .ok (.aload_n 0, 1) := by decide +kernel
theorem dX1_clear_1 : decode cX1_clear 1 = .ok (.iconst 0, 1) := by decide +kernel
theorem dX1_clear_2 : decode cX1_clear 2 = .ok (.putfield 30, 3) := by decide +kernel
theorem dX1_clear_5 : decode cX1_clear 5 = .ok (.aload_n 0, 1) := by decide +kernel
theorem dX1_clear_6 : decode cX1_clear 6 = .ok (.iconst 0, 1) := by decide +kernel
theorem dX1_clear_7 : decode cX1_clear 7 = .ok (.putfield 40, 3) := by decide +kernel
theorem dX1_clear_10 : decode cX1_clear 10 = .ok (.aload_n 0, 1) := by decide +kernel
theorem dX1_clear_11 : decode cX1_clear 11 = .ok (.iconst 0, 1) := by decide +kernel
theorem dX1_clear_12 : decode cX1_clear 12 = .ok (.putfield 34, 3) := by decide +kernel
theorem dX1_clear_15 : decode cX1_clear 15 = .ok (.aload_n 0, 1) := by decide +kernel
theorem dX1_clear_16 : decode cX1_clear 16 = .ok (.iconst 0, 1) := by decide +kernel
theorem dX1_clear_17 : decode cX1_clear 17 = .ok (.putfield 43, 3) := by decide +kernel
theorem dX1_clear_20 : decode cX1_clear 20 = .ok (.aload_n 0, 1) := by decide +kernel
theorem dX1_clear_21 : decode cX1_clear 21 = .ok (.iconst 0, 1) := by decide +kernel
theorem dX1_clear_22 : decode cX1_clear 22 = .ok (.putfield 37, 3) := by decide +kernel
theorem dX1_clear_25 : decode cX1_clear 25 = .ok (.iconst 0, 1) := by decide +kernel
theorem dX1_clear_26 : decode cX1_clear 26 = .ok (.istore_n 1, 1) := by decide +kernel
theorem dX1_clear_27 : decode cX1_clear 27 = .ok (.iload_n 1, 1) := by decide +kernel
theorem dX1_clear_28 : decode cX1_clear 28 = .ok (.bipush 6, 2) := by decide +kernel
theorem dX1_clear_30 : decode cX1_clear 30 = .ok (.if_icmp .ge 16, 3) := by decide +kernel
theorem dX1_clear_33 : decode cX1_clear 33 = .ok (.aload_n 0, 1) := by decide +kernel
theorem dX1_clear_34 : decode cX1_clear 34 = .ok (.getfield 27, 3) := by decide +kernel
theorem dX1_clear_37 : decode cX1_clear 37 = .ok (.iload_n 1, 1) := by decide +kernel
theorem dX1_clear_38 : decode cX1_clear 38 = .ok (.iconst 0, 1) := by decide +kernel
theorem dX1_clear_39 : decode cX1_clear 39 = .ok (.iastore, 1) := by decide +kernel
theorem dX1_clear_40 : decode cX1_clear 40 = .ok (.iinc 1 1, 3) := by decide +kernel
theorem dX1_clear_43 : decode cX1_clear 43 = .ok (.goto (-16), 3) := by decide +kernel
theorem dX1_clear_46 : decode cX1_clear 46 = .ok (.return_, 1) := by decide +kernel
theorem dX1_setLaw_0 : decode cX1_setLaw 0 = .ok (.aload_n 0, 1) := by decide +kernel
theorem dX1_setLaw_1 : decode cX1_setLaw 1 = .ok (.iload_n 1, 1) := by decide +kernel
theorem dX1_setLaw_2 : decode cX1_setLaw 2 = .ok (.putfield 30, 3) := by decide +kernel
theorem dX1_setLaw_5 : decode cX1_setLaw 5 = .ok (.aload_n 0, 1) := by decide +kernel
theorem dX1_setLaw_6 : decode cX1_setLaw 6 = .ok (.iload_n 2, 1) := by decide +kernel
theorem dX1_setLaw_7 : decode cX1_setLaw 7 = .ok (.putfield 46, 3) := by decide +kernel
theorem dX1_setLaw_10 : decode cX1_setLaw 10 = .ok (.aload_n 0, 1) := by decide +kernel
theorem dX1_setLaw_11 : decode cX1_setLaw 11 = .ok (.iload_n 3, 1) := by decide +kernel
theorem dX1_setLaw_12 : decode cX1_setLaw 12 = .ok (.putfield 49, 3) := by decide +kernel
theorem dX1_setLaw_15 : decode cX1_setLaw 15 = .ok (.aload_n 0, 1) := by decide +kernel
theorem dX1_setLaw_16 : decode cX1_setLaw 16 = .ok (.iload 4, 2) := by decide +kernel
theorem dX1_setLaw_18 : decode cX1_setLaw 18 = .ok (.putfield 52, 3) := by decide +kernel
theorem dX1_setLaw_21 : decode cX1_setLaw 21 = .ok (.return_, 1) := by decide +kernel
theorem dX1_addDoor_0 : decode cX1_addDoor 0 = .ok (.aload_n 0, 1) := by decide +kernel
theorem dX1_addDoor_1 : decode cX1_addDoor 1 = .ok (.getfield 11, 3) := by decide +kernel
theorem dX1_addDoor_4 : decode cX1_addDoor 4 = .ok (.aload_n 0, 1) := by decide +kernel
theorem dX1_addDoor_5 : decode cX1_addDoor 5 = .ok (.getfield 34, 3) := by decide +kernel
theorem dX1_addDoor_8 : decode cX1_addDoor 8 = .ok (.iload_n 1, 1) := by decide +kernel
theorem dX1_addDoor_9 : decode cX1_addDoor 9 = .ok (.iastore, 1) := by decide +kernel
theorem dX1_addDoor_10 : decode cX1_addDoor 10 = .ok (.aload_n 0, 1) := by decide +kernel
theorem dX1_addDoor_11 : decode cX1_addDoor 11 = .ok (.getfield 15, 3) := by decide +kernel
theorem dX1_addDoor_14 : decode cX1_addDoor 14 = .ok (.aload_n 0, 1) := by decide +kernel
theorem dX1_addDoor_15 : decode cX1_addDoor 15 = .ok (.getfield 34, 3) := by decide +kernel
theorem dX1_addDoor_18 : decode cX1_addDoor 18 = .ok (.iload_n 2, 1) := by decide +kernel
theorem dX1_addDoor_19 : decode cX1_addDoor 19 = .ok (.iastore, 1) := by decide +kernel
theorem dX1_addDoor_20 : decode cX1_addDoor 20 = .ok (.iload_n 3, 1) := by decide +kernel
theorem dX1_addDoor_21 : decode cX1_addDoor 21 = .ok (.ifCond .eq 18, 3) := by decide +kernel
theorem dX1_addDoor_24 : decode cX1_addDoor 24 = .ok (.aload_n 0, 1) := by decide +kernel
theorem dX1_addDoor_25 : decode cX1_addDoor 25 = .ok (.dup, 1) := by decide +kernel
theorem dX1_addDoor_26 : decode cX1_addDoor 26 = .ok (.getfield 43, 3) := by decide +kernel
theorem dX1_addDoor_29 : decode cX1_addDoor 29 = .ok (.iconst 1, 1) := by decide +kernel
theorem dX1_addDoor_30 : decode cX1_addDoor 30 = .ok (.aload_n 0, 1) := by decide +kernel
theorem dX1_addDoor_31 : decode cX1_addDoor 31 = .ok (.getfield 34, 3) := by decide +kernel
theorem dX1_addDoor_34 : decode cX1_addDoor 34 = .ok (.ishl, 1) := by decide +kernel
theorem dX1_addDoor_35 : decode cX1_addDoor 35 = .ok (.ior, 1) := by decide +kernel
theorem dX1_addDoor_36 : decode cX1_addDoor 36 = .ok (.putfield 43, 3) := by decide +kernel
theorem dX1_addDoor_39 : decode cX1_addDoor 39 = .ok (.aload_n 0, 1) := by decide +kernel
theorem dX1_addDoor_40 : decode cX1_addDoor 40 = .ok (.dup, 1) := by decide +kernel
theorem dX1_addDoor_41 : decode cX1_addDoor 41 = .ok (.getfield 34, 3) := by decide +kernel
theorem dX1_addDoor_44 : decode cX1_addDoor 44 = .ok (.iconst 1, 1) := by decide +kernel
theorem dX1_addDoor_45 : decode cX1_addDoor 45 = .ok (.iadd, 1) := by decide +kernel
theorem dX1_addDoor_46 : decode cX1_addDoor 46 = .ok (.putfield 34, 3) := by decide +kernel
theorem dX1_addDoor_49 : decode cX1_addDoor 49 = .ok (.return_, 1) := by decide +kernel
theorem dX1_addSitter_0 : decode cX1_addSitter 0 = .ok (.aload_n 0, 1) := by decide +kernel
theorem dX1_addSitter_1 : decode cX1_addSitter 1 = .ok (.getfield 18, 3) := by decide +kernel
theorem dX1_addSitter_4 : decode cX1_addSitter 4 = .ok (.aload_n 0, 1) := by decide +kernel
theorem dX1_addSitter_5 : decode cX1_addSitter 5 = .ok (.getfield 37, 3) := by decide +kernel
theorem dX1_addSitter_8 : decode cX1_addSitter 8 = .ok (.iload_n 1, 1) := by decide +kernel
theorem dX1_addSitter_9 : decode cX1_addSitter 9 = .ok (.iastore, 1) := by decide +kernel
theorem dX1_addSitter_10 : decode cX1_addSitter 10 = .ok (.aload_n 0, 1) := by decide +kernel
theorem dX1_addSitter_11 : decode cX1_addSitter 11 = .ok (.getfield 21, 3) := by decide +kernel
theorem dX1_addSitter_14 : decode cX1_addSitter 14 = .ok (.aload_n 0, 1) := by decide +kernel
theorem dX1_addSitter_15 : decode cX1_addSitter 15 = .ok (.getfield 37, 3) := by decide +kernel
theorem dX1_addSitter_18 : decode cX1_addSitter 18 = .ok (.iload_n 2, 1) := by decide +kernel
theorem dX1_addSitter_19 : decode cX1_addSitter 19 = .ok (.iastore, 1) := by decide +kernel
theorem dX1_addSitter_20 : decode cX1_addSitter 20 = .ok (.aload_n 0, 1) := by decide +kernel
theorem dX1_addSitter_21 : decode cX1_addSitter 21 = .ok (.getfield 24, 3) := by decide +kernel
theorem dX1_addSitter_24 : decode cX1_addSitter 24 = .ok (.aload_n 0, 1) := by decide +kernel
theorem dX1_addSitter_25 : decode cX1_addSitter 25 = .ok (.getfield 37, 3) := by decide +kernel
theorem dX1_addSitter_28 : decode cX1_addSitter 28 = .ok (.iload_n 3, 1) := by decide +kernel
theorem dX1_addSitter_29 : decode cX1_addSitter 29 = .ok (.iastore, 1) := by decide +kernel
theorem dX1_addSitter_30 : decode cX1_addSitter 30 = .ok (.aload_n 0, 1) := by decide +kernel
theorem dX1_addSitter_31 : decode cX1_addSitter 31 = .ok (.dup, 1) := by decide +kernel
theorem dX1_addSitter_32 : decode cX1_addSitter 32 = .ok (.getfield 37, 3) := by decide +kernel
theorem dX1_addSitter_35 : decode cX1_addSitter 35 = .ok (.iconst 1, 1) := by decide +kernel
theorem dX1_addSitter_36 : decode cX1_addSitter 36 = .ok (.iadd, 1) := by decide +kernel
theorem dX1_addSitter_37 : decode cX1_addSitter 37 = .ok (.putfield 37, 3) := by decide +kernel
theorem dX1_addSitter_40 : decode cX1_addSitter 40 = .ok (.return_, 1) := by decide +kernel
theorem dX1_become_0 : decode cX1_become 0 = .ok (.aload_n 0, 1) := by decide +kernel
theorem dX1_become_1 : decode cX1_become 1 = .ok (.aload_n 1, 1) := by decide +kernel
theorem dX1_become_2 : decode cX1_become 2 = .ok (.getfield 30, 3) := by decide +kernel
theorem dX1_become_5 : decode cX1_become 5 = .ok (.putfield 30, 3) := by decide +kernel
theorem dX1_become_8 : decode cX1_become 8 = .ok (.aload_n 0, 1) := by decide +kernel
theorem dX1_become_9 : decode cX1_become 9 = .ok (.aload_n 1, 1) := by decide +kernel
theorem dX1_become_10 : decode cX1_become 10 = .ok (.getfield 46, 3) := by decide +kernel
theorem dX1_become_13 : decode cX1_become 13 = .ok (.putfield 46, 3) := by decide +kernel
theorem dX1_become_16 : decode cX1_become 16 = .ok (.aload_n 0, 1) := by decide +kernel
theorem dX1_become_17 : decode cX1_become 17 = .ok (.aload_n 1, 1) := by decide +kernel
theorem dX1_become_18 : decode cX1_become 18 = .ok (.getfield 49, 3) := by decide +kernel
theorem dX1_become_21 : decode cX1_become 21 = .ok (.putfield 49, 3) := by decide +kernel
theorem dX1_become_24 : decode cX1_become 24 = .ok (.aload_n 0, 1) := by decide +kernel
theorem dX1_become_25 : decode cX1_become 25 = .ok (.aload_n 1, 1) := by decide +kernel
theorem dX1_become_26 : decode cX1_become 26 = .ok (.getfield 52, 3) := by decide +kernel
theorem dX1_become_29 : decode cX1_become 29 = .ok (.putfield 52, 3) := by decide +kernel
theorem dX1_become_32 : decode cX1_become 32 = .ok (.aload_n 0, 1) := by decide +kernel
theorem dX1_become_33 : decode cX1_become 33 = .ok (.aload_n 1, 1) := by decide +kernel
theorem dX1_become_34 : decode cX1_become 34 = .ok (.getfield 40, 3) := by decide +kernel
theorem dX1_become_37 : decode cX1_become 37 = .ok (.putfield 40, 3) := by decide +kernel
theorem dX1_become_40 : decode cX1_become 40 = .ok (.aload_n 0, 1) := by decide +kernel
theorem dX1_become_41 : decode cX1_become 41 = .ok (.aload_n 1, 1) := by decide +kernel
theorem dX1_become_42 : decode cX1_become 42 = .ok (.getfield 34, 3) := by decide +kernel
theorem dX1_become_45 : decode cX1_become 45 = .ok (.putfield 34, 3) := by decide +kernel
theorem dX1_become_48 : decode cX1_become 48 = .ok (.aload_n 0, 1) := by decide +kernel
theorem dX1_become_49 : decode cX1_become 49 = .ok (.aload_n 1, 1) := by decide +kernel
theorem dX1_become_50 : decode cX1_become 50 = .ok (.getfield 43, 3) := by decide +kernel
theorem dX1_become_53 : decode cX1_become 53 = .ok (.putfield 43, 3) := by decide +kernel
theorem dX1_become_56 : decode cX1_become 56 = .ok (.aload_n 0, 1) := by decide +kernel
theorem dX1_become_57 : decode cX1_become 57 = .ok (.aload_n 1, 1) := by decide +kernel
theorem dX1_become_58 : decode cX1_become 58 = .ok (.getfield 37, 3) := by decide +kernel
theorem dX1_become_61 : decode cX1_become 61 = .ok (.putfield 37, 3) := by decide +kernel
theorem dX1_become_64 : decode cX1_become 64 = .ok (.aload_n 1, 1) := by decide +kernel
theorem dX1_become_65 : decode cX1_become 65 = .ok (.getfield 11, 3) := by decide +kernel
theorem dX1_become_68 : decode cX1_become 68 = .ok (.iconst 0, 1) := by decide +kernel
theorem dX1_become_69 : decode cX1_become 69 = .ok (.aload_n 0, 1) := by decide +kernel
theorem dX1_become_70 : decode cX1_become 70 = .ok (.getfield 11, 3) := by decide +kernel
theorem dX1_become_73 : decode cX1_become 73 = .ok (.iconst 0, 1) := by decide +kernel
theorem dX1_become_74 : decode cX1_become 74 = .ok (.bipush 8, 2) := by decide +kernel
theorem dX1_become_76 : decode cX1_become 76 = .ok (.invokestatic 55, 3) := by decide +kernel
theorem dX1_become_79 : decode cX1_become 79 = .ok (.aload_n 1, 1) := by decide +kernel
theorem dX1_become_80 : decode cX1_become 80 = .ok (.getfield 15, 3) := by decide +kernel
theorem dX1_become_83 : decode cX1_become 83 = .ok (.iconst 0, 1) := by decide +kernel
theorem dX1_become_84 : decode cX1_become 84 = .ok (.aload_n 0, 1) := by decide +kernel
theorem dX1_become_85 : decode cX1_become 85 = .ok (.getfield 15, 3) := by decide +kernel
theorem dX1_become_88 : decode cX1_become 88 = .ok (.iconst 0, 1) := by decide +kernel
theorem dX1_become_89 : decode cX1_become 89 = .ok (.bipush 8, 2) := by decide +kernel
theorem dX1_become_91 : decode cX1_become 91 = .ok (.invokestatic 55, 3) := by decide +kernel
theorem dX1_become_94 : decode cX1_become 94 = .ok (.aload_n 1, 1) := by decide +kernel
theorem dX1_become_95 : decode cX1_become 95 = .ok (.getfield 18, 3) := by decide +kernel
theorem dX1_become_98 : decode cX1_become 98 = .ok (.iconst 0, 1) := by decide +kernel
theorem dX1_become_99 : decode cX1_become 99 = .ok (.aload_n 0, 1) := by decide +kernel
theorem dX1_become_100 : decode cX1_become 100 = .ok (.getfield 18, 3) := by decide +kernel
theorem dX1_become_103 : decode cX1_become 103 = .ok (.iconst 0, 1) := by decide +kernel
theorem dX1_become_104 : decode cX1_become 104 = .ok (.iconst 5, 1) := by decide +kernel
theorem dX1_become_105 : decode cX1_become 105 = .ok (.invokestatic 55, 3) := by decide +kernel
theorem dX1_become_108 : decode cX1_become 108 = .ok (.aload_n 1, 1) := by decide +kernel
theorem dX1_become_109 : decode cX1_become 109 = .ok (.getfield 21, 3) := by decide +kernel
theorem dX1_become_112 : decode cX1_become 112 = .ok (.iconst 0, 1) := by decide +kernel
theorem dX1_become_113 : decode cX1_become 113 = .ok (.aload_n 0, 1) := by decide +kernel
theorem dX1_become_114 : decode cX1_become 114 = .ok (.getfield 21, 3) := by decide +kernel
theorem dX1_become_117 : decode cX1_become 117 = .ok (.iconst 0, 1) := by decide +kernel
theorem dX1_become_118 : decode cX1_become 118 = .ok (.iconst 5, 1) := by decide +kernel
theorem dX1_become_119 : decode cX1_become 119 = .ok (.invokestatic 55, 3) := by decide +kernel
theorem dX1_become_122 : decode cX1_become 122 = .ok (.aload_n 1, 1) := by decide +kernel
theorem dX1_become_123 : decode cX1_become 123 = .ok (.getfield 24, 3) := by decide +kernel
theorem dX1_become_126 : decode cX1_become 126 = .ok (.iconst 0, 1) := by decide +kernel
theorem dX1_become_127 : decode cX1_become 127 = .ok (.aload_n 0, 1) := by decide +kernel
theorem dX1_become_128 : decode cX1_become 128 = .ok (.getfield 24, 3) := by decide +kernel
theorem dX1_become_131 : decode cX1_become 131 = .ok (.iconst 0, 1) := by decide +kernel
theorem dX1_become_132 : decode cX1_become 132 = .ok (.iconst 5, 1) := by decide +kernel
theorem dX1_become_133 : decode cX1_become 133 = .ok (.invokestatic 55, 3) := by decide +kernel
theorem dX1_become_136 : decode cX1_become 136 = .ok (.aload_n 1, 1) := by decide +kernel
theorem dX1_become_137 : decode cX1_become 137 = .ok (.getfield 27, 3) := by decide +kernel
theorem dX1_become_140 : decode cX1_become 140 = .ok (.iconst 0, 1) := by decide +kernel
theorem dX1_become_141 : decode cX1_become 141 = .ok (.aload_n 0, 1) := by decide +kernel
theorem dX1_become_142 : decode cX1_become 142 = .ok (.getfield 27, 3) := by decide +kernel
theorem dX1_become_145 : decode cX1_become 145 = .ok (.iconst 0, 1) := by decide +kernel
theorem dX1_become_146 : decode cX1_become 146 = .ok (.bipush 6, 2) := by decide +kernel
theorem dX1_become_148 : decode cX1_become 148 = .ok (.invokestatic 55, 3) := by decide +kernel
theorem dX1_become_151 : decode cX1_become 151 = .ok (.return_, 1) := by decide +kernel
theorem dX1_passHour_0 : decode cX1_passHour 0 = .ok (.aload_n 0, 1) := by decide +kernel
theorem dX1_passHour_1 : decode cX1_passHour 1 = .ok (.iconst 1, 1) := by decide +kernel
theorem dX1_passHour_2 : decode cX1_passHour 2 = .ok (.invokevirtual 61, 3) := by decide +kernel
theorem dX1_passHour_5 : decode cX1_passHour 5 = .ok (.return_, 1) := by decide +kernel
theorem dX1_passHours_0 : decode cX1_passHours 0 = .ok (.aload_n 0, 1) := by decide +kernel
theorem dX1_passHours_1 : decode cX1_passHours 1 = .ok (.bipush 14, 2) := by decide +kernel
theorem dX1_passHours_3 : decode cX1_passHours 3 = .ok (.invokevirtual 65, 3) := by decide +kernel
theorem dX1_passHours_6 : decode cX1_passHours 6 = .ok (.istore_n 2, 1) := by decide +kernel
theorem dX1_passHours_7 : decode cX1_passHours 7 = .ok (.aload_n 0, 1) := by decide +kernel
theorem dX1_passHours_8 : decode cX1_passHours 8 = .ok (.iconst 4, 1) := by decide +kernel
theorem dX1_passHours_9 : decode cX1_passHours 9 = .ok (.invokevirtual 65, 3) := by decide +kernel
theorem dX1_passHours_12 : decode cX1_passHours 12 = .ok (.istore_n 3, 1) := by decide +kernel
theorem dX1_passHours_13 : decode cX1_passHours 13 = .ok (.iconst 0, 1) := by decide +kernel
theorem dX1_passHours_14 : decode cX1_passHours 14 = .ok (.istore 4, 2) := by decide +kernel
theorem dX1_passHours_16 : decode cX1_passHours 16 = .ok (.iload 4, 2) := by decide +kernel
theorem dX1_passHours_18 : decode cX1_passHours 18 = .ok (.iload_n 1, 1) := by decide +kernel
theorem dX1_passHours_19 : decode cX1_passHours 19 = .ok (.if_icmp .ge 58, 3) := by decide +kernel
theorem dX1_passHours_22 : decode cX1_passHours 22 = .ok (.aload_n 0, 1) := by decide +kernel
theorem dX1_passHours_23 : decode cX1_passHours 23 = .ok (.getfield 27, 3) := by decide +kernel
theorem dX1_passHours_26 : decode cX1_passHours 26 = .ok (.aload_n 0, 1) := by decide +kernel
theorem dX1_passHours_27 : decode cX1_passHours 27 = .ok (.getfield 46, 3) := by decide +kernel
theorem dX1_passHours_30 : decode cX1_passHours 30 = .ok (.sipush 999, 3) := by decide +kernel
theorem dX1_passHours_33 : decode cX1_passHours 33 = .ok (.aload_n 0, 1) := by decide +kernel
theorem dX1_passHours_34 : decode cX1_passHours 34 = .ok (.getfield 27, 3) := by decide +kernel
theorem dX1_passHours_37 : decode cX1_passHours 37 = .ok (.aload_n 0, 1) := by decide +kernel
theorem dX1_passHours_38 : decode cX1_passHours 38 = .ok (.getfield 46, 3) := by decide +kernel
theorem dX1_passHours_41 : decode cX1_passHours 41 = .ok (.iaload, 1) := by decide +kernel
theorem dX1_passHours_42 : decode cX1_passHours 42 = .ok (.aload_n 0, 1) := by decide +kernel
theorem dX1_passHours_43 : decode cX1_passHours 43 = .ok (.getfield 49, 3) := by decide +kernel
theorem dX1_passHours_46 : decode cX1_passHours 46 = .ok (.iadd, 1) := by decide +kernel
theorem dX1_passHours_47 : decode cX1_passHours 47 = .ok (.invokestatic 69, 3) := by decide +kernel
theorem dX1_passHours_50 : decode cX1_passHours 50 = .ok (.iastore, 1) := by decide +kernel
theorem dX1_passHours_51 : decode cX1_passHours 51 = .ok (.aload_n 0, 1) := by decide +kernel
theorem dX1_passHours_52 : decode cX1_passHours 52 = .ok (.iload_n 2, 1) := by decide +kernel
theorem dX1_passHours_53 : decode cX1_passHours 53 = .ok (.iload_n 3, 1) := by decide +kernel
theorem dX1_passHours_54 : decode cX1_passHours 54 = .ok (.invokevirtual 75, 3) := by decide +kernel
theorem dX1_passHours_57 : decode cX1_passHours 57 = .ok (.aload_n 0, 1) := by decide +kernel
theorem dX1_passHours_58 : decode cX1_passHours 58 = .ok (.invokevirtual 79, 3) := by decide +kernel
theorem dX1_passHours_61 : decode cX1_passHours 61 = .ok (.aload_n 0, 1) := by decide +kernel
theorem dX1_passHours_62 : decode cX1_passHours 62 = .ok (.dup, 1) := by decide +kernel
theorem dX1_passHours_63 : decode cX1_passHours 63 = .ok (.getfield 40, 3) := by decide +kernel
theorem dX1_passHours_66 : decode cX1_passHours 66 = .ok (.iconst 1, 1) := by decide +kernel
theorem dX1_passHours_67 : decode cX1_passHours 67 = .ok (.iadd, 1) := by decide +kernel
theorem dX1_passHours_68 : decode cX1_passHours 68 = .ok (.putfield 40, 3) := by decide +kernel
theorem dX1_passHours_71 : decode cX1_passHours 71 = .ok (.iinc 4 1, 3) := by decide +kernel
theorem dX1_passHours_74 : decode cX1_passHours 74 = .ok (.goto (-58), 3) := by decide +kernel
theorem dX1_passHours_77 : decode cX1_passHours 77 = .ok (.return_, 1) := by decide +kernel
theorem dX1_passDoors_0 : decode cX1_passDoors 0 = .ok (.iconst 0, 1) := by decide +kernel
theorem dX1_passDoors_1 : decode cX1_passDoors 1 = .ok (.istore_n 3, 1) := by decide +kernel
theorem dX1_passDoors_2 : decode cX1_passDoors 2 = .ok (.iload_n 3, 1) := by decide +kernel
theorem dX1_passDoors_3 : decode cX1_passDoors 3 = .ok (.aload_n 0, 1) := by decide +kernel
theorem dX1_passDoors_4 : decode cX1_passDoors 4 = .ok (.getfield 34, 3) := by decide +kernel
theorem dX1_passDoors_7 : decode cX1_passDoors 7 = .ok (.if_icmp .ge 35, 3) := by decide +kernel
theorem dX1_passDoors_10 : decode cX1_passDoors 10 = .ok (.aload_n 0, 1) := by decide +kernel
theorem dX1_passDoors_11 : decode cX1_passDoors 11 = .ok (.iload_n 3, 1) := by decide +kernel
theorem dX1_passDoors_12 : decode cX1_passDoors 12 = .ok (.invokevirtual 82, 3) := by decide +kernel
theorem dX1_passDoors_15 : decode cX1_passDoors 15 = .ok (.ifCond .eq 21, 3) := by decide +kernel
theorem dX1_passDoors_18 : decode cX1_passDoors 18 = .ok (.aload_n 0, 1) := by decide +kernel
theorem dX1_passDoors_19 : decode cX1_passDoors 19 = .ok (.aload_n 0, 1) := by decide +kernel
theorem dX1_passDoors_20 : decode cX1_passDoors 20 = .ok (.getfield 11, 3) := by decide +kernel
theorem dX1_passDoors_23 : decode cX1_passDoors 23 = .ok (.iload_n 3, 1) := by decide +kernel
theorem dX1_passDoors_24 : decode cX1_passDoors 24 = .ok (.iaload, 1) := by decide +kernel
theorem dX1_passDoors_25 : decode cX1_passDoors 25 = .ok (.aload_n 0, 1) := by decide +kernel
theorem dX1_passDoors_26 : decode cX1_passDoors 26 = .ok (.getfield 15, 3) := by decide +kernel
theorem dX1_passDoors_29 : decode cX1_passDoors 29 = .ok (.iload_n 3, 1) := by decide +kernel
theorem dX1_passDoors_30 : decode cX1_passDoors 30 = .ok (.iaload, 1) := by decide +kernel
theorem dX1_passDoors_31 : decode cX1_passDoors 31 = .ok (.iload_n 1, 1) := by decide +kernel
theorem dX1_passDoors_32 : decode cX1_passDoors 32 = .ok (.iload_n 2, 1) := by decide +kernel
theorem dX1_passDoors_33 : decode cX1_passDoors 33 = .ok (.invokevirtual 86, 3) := by decide +kernel
theorem dX1_passDoors_36 : decode cX1_passDoors 36 = .ok (.iinc 3 1, 3) := by decide +kernel
theorem dX1_passDoors_39 : decode cX1_passDoors 39 = .ok (.goto (-37), 3) := by decide +kernel
theorem dX1_passDoors_42 : decode cX1_passDoors 42 = .ok (.return_, 1) := by decide +kernel
theorem dX1_passSitters_0 : decode cX1_passSitters 0 = .ok (.iconst 0, 1) := by decide +kernel
theorem dX1_passSitters_1 : decode cX1_passSitters 1 = .ok (.istore_n 1, 1) := by decide +kernel
theorem dX1_passSitters_2 : decode cX1_passSitters 2 = .ok (.iload_n 1, 1) := by decide +kernel
theorem dX1_passSitters_3 : decode cX1_passSitters 3 = .ok (.aload_n 0, 1) := by decide +kernel
theorem dX1_passSitters_4 : decode cX1_passSitters 4 = .ok (.getfield 37, 3) := by decide +kernel
theorem dX1_passSitters_7 : decode cX1_passSitters 7 = .ok (.if_icmp .ge 56, 3) := by decide +kernel
theorem dX1_passSitters_10 : decode cX1_passSitters 10 = .ok (.aload_n 0, 1) := by decide +kernel
theorem dX1_passSitters_11 : decode cX1_passSitters 11 = .ok (.getfield 21, 3) := by decide +kernel
theorem dX1_passSitters_14 : decode cX1_passSitters 14 = .ok (.iload_n 1, 1) := by decide +kernel
theorem dX1_passSitters_15 : decode cX1_passSitters 15 = .ok (.iaload, 1) := by decide +kernel
theorem dX1_passSitters_16 : decode cX1_passSitters 16 = .ok (.istore_n 2, 1) := by decide +kernel
theorem dX1_passSitters_17 : decode cX1_passSitters 17 = .ok (.aload_n 0, 1) := by decide +kernel
theorem dX1_passSitters_18 : decode cX1_passSitters 18 = .ok (.getfield 27, 3) := by decide +kernel
theorem dX1_passSitters_21 : decode cX1_passSitters 21 = .ok (.iload_n 2, 1) := by decide +kernel
theorem dX1_passSitters_22 : decode cX1_passSitters 22 = .ok (.iaload, 1) := by decide +kernel
theorem dX1_passSitters_23 : decode cX1_passSitters 23 = .ok (.aload_n 0, 1) := by decide +kernel
theorem dX1_passSitters_24 : decode cX1_passSitters 24 = .ok (.getfield 18, 3) := by decide +kernel
theorem dX1_passSitters_27 : decode cX1_passSitters 27 = .ok (.iload_n 1, 1) := by decide +kernel
theorem dX1_passSitters_28 : decode cX1_passSitters 28 = .ok (.iaload, 1) := by decide +kernel
theorem dX1_passSitters_29 : decode cX1_passSitters 29 = .ok (.aload_n 0, 1) := by decide +kernel
theorem dX1_passSitters_30 : decode cX1_passSitters 30 = .ok (.getfield 24, 3) := by decide +kernel
theorem dX1_passSitters_33 : decode cX1_passSitters 33 = .ok (.iload_n 1, 1) := by decide +kernel
theorem dX1_passSitters_34 : decode cX1_passSitters 34 = .ok (.iaload, 1) := by decide +kernel
theorem dX1_passSitters_35 : decode cX1_passSitters 35 = .ok (.invokestatic 90, 3) := by decide +kernel
theorem dX1_passSitters_38 : decode cX1_passSitters 38 = .ok (.iadd, 1) := by decide +kernel
theorem dX1_passSitters_39 : decode cX1_passSitters 39 = .ok (.istore_n 3, 1) := by decide +kernel
theorem dX1_passSitters_40 : decode cX1_passSitters 40 = .ok (.aload_n 0, 1) := by decide +kernel
theorem dX1_passSitters_41 : decode cX1_passSitters 41 = .ok (.getfield 27, 3) := by decide +kernel
theorem dX1_passSitters_44 : decode cX1_passSitters 44 = .ok (.iload_n 2, 1) := by decide +kernel
theorem dX1_passSitters_45 : decode cX1_passSitters 45 = .ok (.iconst 0, 1) := by decide +kernel
theorem dX1_passSitters_46 : decode cX1_passSitters 46 = .ok (.sipush 999, 3) := by decide +kernel
theorem dX1_passSitters_49 : decode cX1_passSitters 49 = .ok (.iload_n 3, 1) := by decide +kernel
theorem dX1_passSitters_50 : decode cX1_passSitters 50 = .ok (.invokestatic 69, 3) := by decide +kernel
theorem dX1_passSitters_53 : decode cX1_passSitters 53 = .ok (.invokestatic 93, 3) := by decide +kernel
theorem dX1_passSitters_56 : decode cX1_passSitters 56 = .ok (.iastore, 1) := by decide +kernel
theorem dX1_passSitters_57 : decode cX1_passSitters 57 = .ok (.iinc 1 1, 3) := by decide +kernel
theorem dX1_passSitters_60 : decode cX1_passSitters 60 = .ok (.goto (-58), 3) := by decide +kernel
theorem dX1_passSitters_63 : decode cX1_passSitters 63 = .ok (.return_, 1) := by decide +kernel
theorem dX1_flow_0 : decode cX1_flow 0 = .ok (.aload_n 0, 1) := by decide +kernel
theorem dX1_flow_1 : decode cX1_flow 1 = .ok (.getfield 27, 3) := by decide +kernel
theorem dX1_flow_4 : decode cX1_flow 4 = .ok (.iload_n 1, 1) := by decide +kernel
theorem dX1_flow_5 : decode cX1_flow 5 = .ok (.iaload, 1) := by decide +kernel
theorem dX1_flow_6 : decode cX1_flow 6 = .ok (.aload_n 0, 1) := by decide +kernel
theorem dX1_flow_7 : decode cX1_flow 7 = .ok (.getfield 27, 3) := by decide +kernel
theorem dX1_flow_10 : decode cX1_flow 10 = .ok (.iload_n 2, 1) := by decide +kernel
theorem dX1_flow_11 : decode cX1_flow 11 = .ok (.iaload, 1) := by decide +kernel
theorem dX1_flow_12 : decode cX1_flow 12 = .ok (.if_icmp .le 7, 3) := by decide +kernel
theorem dX1_flow_15 : decode cX1_flow 15 = .ok (.iload_n 1, 1) := by decide +kernel
theorem dX1_flow_16 : decode cX1_flow 16 = .ok (.goto 4, 3) := by decide +kernel
theorem dX1_flow_19 : decode cX1_flow 19 = .ok (.iload_n 2, 1) := by decide +kernel
theorem dX1_flow_20 : decode cX1_flow 20 = .ok (.istore 5, 2) := by decide +kernel
theorem dX1_flow_22 : decode cX1_flow 22 = .ok (.iload 5, 2) := by decide +kernel
theorem dX1_flow_24 : decode cX1_flow 24 = .ok (.iload_n 1, 1) := by decide +kernel
theorem dX1_flow_25 : decode cX1_flow 25 = .ok (.if_icmp .ne 7, 3) := by decide +kernel
theorem dX1_flow_28 : decode cX1_flow 28 = .ok (.iload_n 2, 1) := by decide +kernel
theorem dX1_flow_29 : decode cX1_flow 29 = .ok (.goto 4, 3) := by decide +kernel
theorem dX1_flow_32 : decode cX1_flow 32 = .ok (.iload_n 1, 1) := by decide +kernel
theorem dX1_flow_33 : decode cX1_flow 33 = .ok (.istore 6, 2) := by decide +kernel
theorem dX1_flow_35 : decode cX1_flow 35 = .ok (.iload 4, 2) := by decide +kernel
theorem dX1_flow_37 : decode cX1_flow 37 = .ok (.iload 5, 2) := by decide +kernel
theorem dX1_flow_39 : decode cX1_flow 39 = .ok (.ishr, 1) := by decide +kernel
theorem dX1_flow_40 : decode cX1_flow 40 = .ok (.iconst 1, 1) := by decide +kernel
theorem dX1_flow_41 : decode cX1_flow 41 = .ok (.iand, 1) := by decide +kernel
theorem dX1_flow_42 : decode cX1_flow 42 = .ok (.ifCond .eq 4, 3) := by decide +kernel
theorem dX1_flow_45 : decode cX1_flow 45 = .ok (.return_, 1) := by decide +kernel
theorem dX1_flow_46 : decode cX1_flow 46 = .ok (.aload_n 0, 1) := by decide +kernel
theorem dX1_flow_47 : decode cX1_flow 47 = .ok (.getfield 27, 3) := by decide +kernel
theorem dX1_flow_50 : decode cX1_flow 50 = .ok (.iload 5, 2) := by decide +kernel
theorem dX1_flow_52 : decode cX1_flow 52 = .ok (.iaload, 1) := by decide +kernel
theorem dX1_flow_53 : decode cX1_flow 53 = .ok (.aload_n 0, 1) := by decide +kernel
theorem dX1_flow_54 : decode cX1_flow 54 = .ok (.getfield 27, 3) := by decide +kernel
theorem dX1_flow_57 : decode cX1_flow 57 = .ok (.iload 6, 2) := by decide +kernel
theorem dX1_flow_59 : decode cX1_flow 59 = .ok (.iaload, 1) := by decide +kernel
theorem dX1_flow_60 : decode cX1_flow 60 = .ok (.isub, 1) := by decide +kernel
theorem dX1_flow_61 : decode cX1_flow 61 = .ok (.iconst 4, 1) := by decide +kernel
theorem dX1_flow_62 : decode cX1_flow 62 = .ok (.idiv, 1) := by decide +kernel
theorem dX1_flow_63 : decode cX1_flow 63 = .ok (.istore 7, 2) := by decide +kernel
theorem dX1_flow_65 : decode cX1_flow 65 = .ok (.iload_n 3, 1) := by decide +kernel
theorem dX1_flow_66 : decode cX1_flow 66 = .ok (.iload 5, 2) := by decide +kernel
theorem dX1_flow_68 : decode cX1_flow 68 = .ok (.ishr, 1) := by decide +kernel
theorem dX1_flow_69 : decode cX1_flow 69 = .ok (.iconst 1, 1) := by decide +kernel
theorem dX1_flow_70 : decode cX1_flow 70 = .ok (.iand, 1) := by decide +kernel
theorem dX1_flow_71 : decode cX1_flow 71 = .ok (.ifCond .eq 9, 3) := by decide +kernel
theorem dX1_flow_74 : decode cX1_flow 74 = .ok (.iload 7, 2) := by decide +kernel
theorem dX1_flow_76 : decode cX1_flow 76 = .ok (.iconst 2, 1) := by decide +kernel
theorem dX1_flow_77 : decode cX1_flow 77 = .ok (.idiv, 1) := by decide +kernel
theorem dX1_flow_78 : decode cX1_flow 78 = .ok (.istore 7, 2) := by decide +kernel
theorem dX1_flow_80 : decode cX1_flow 80 = .ok (.aload_n 0, 1) := by decide +kernel
theorem dX1_flow_81 : decode cX1_flow 81 = .ok (.getfield 27, 3) := by decide +kernel
theorem dX1_flow_84 : decode cX1_flow 84 = .ok (.iload 5, 2) := by decide +kernel
theorem dX1_flow_86 : decode cX1_flow 86 = .ok (.dup2, 1) := by decide +kernel
theorem dX1_flow_87 : decode cX1_flow 87 = .ok (.iaload, 1) := by decide +kernel
theorem dX1_flow_88 : decode cX1_flow 88 = .ok (.iload 7, 2) := by decide +kernel
theorem dX1_flow_90 : decode cX1_flow 90 = .ok (.isub, 1) := by decide +kernel
theorem dX1_flow_91 : decode cX1_flow 91 = .ok (.iastore, 1) := by decide +kernel
theorem dX1_flow_92 : decode cX1_flow 92 = .ok (.aload_n 0, 1) := by decide +kernel
theorem dX1_flow_93 : decode cX1_flow 93 = .ok (.getfield 27, 3) := by decide +kernel
theorem dX1_flow_96 : decode cX1_flow 96 = .ok (.iload 6, 2) := by decide +kernel
theorem dX1_flow_98 : decode cX1_flow 98 = .ok (.dup2, 1) := by decide +kernel
theorem dX1_flow_99 : decode cX1_flow 99 = .ok (.iaload, 1) := by decide +kernel
theorem dX1_flow_100 : decode cX1_flow 100 = .ok (.iload 7, 2) := by decide +kernel
theorem dX1_flow_102 : decode cX1_flow 102 = .ok (.iadd, 1) := by decide +kernel
theorem dX1_flow_103 : decode cX1_flow 103 = .ok (.iastore, 1) := by decide +kernel
theorem dX1_flow_104 : decode cX1_flow 104 = .ok (.return_, 1) := by decide +kernel
theorem dX1_chill_0 : decode cX1_chill 0 = .ok (.iload_n 0, 1) := by decide +kernel
theorem dX1_chill_1 : decode cX1_chill 1 = .ok (.tableswitch 37 3 5 #[27, 30, 35], 27) := by decide +kernel
theorem dX1_chill_28 : decode cX1_chill 28 = .ok (.iload_n 1, 1) := by decide +kernel
theorem dX1_chill_29 : decode cX1_chill 29 = .ok (.ineg, 1) := by decide +kernel
theorem dX1_chill_30 : decode cX1_chill 30 = .ok (.ireturn, 1) := by decide +kernel
theorem dX1_chill_31 : decode cX1_chill 31 = .ok (.bipush (-2), 2) := by decide +kernel
theorem dX1_chill_33 : decode cX1_chill 33 = .ok (.iload_n 1, 1) := by decide +kernel
theorem dX1_chill_34 : decode cX1_chill 34 = .ok (.imul, 1) := by decide +kernel
theorem dX1_chill_35 : decode cX1_chill 35 = .ok (.ireturn, 1) := by decide +kernel
theorem dX1_chill_36 : decode cX1_chill 36 = .ok (.iload_n 1, 1) := by decide +kernel
theorem dX1_chill_37 : decode cX1_chill 37 = .ok (.ireturn, 1) := by decide +kernel
theorem dX1_chill_38 : decode cX1_chill 38 = .ok (.iconst 0, 1) := by decide +kernel
theorem dX1_chill_39 : decode cX1_chill 39 = .ok (.ireturn, 1) := by decide +kernel
theorem dX1_isA_0 : decode cX1_isA 0 = .ok (.iload_n 1, 1) := by decide +kernel
theorem dX1_isA_1 : decode cX1_isA 1 = .ok (.ifCond .eq 8, 3) := by decide +kernel
theorem dX1_isA_4 : decode cX1_isA 4 = .ok (.iload_n 0, 1) := by decide +kernel
theorem dX1_isA_5 : decode cX1_isA 5 = .ok (.iload_n 1, 1) := by decide +kernel
theorem dX1_isA_6 : decode cX1_isA 6 = .ok (.if_icmp .ne 5, 3) := by decide +kernel
theorem dX1_isA_9 : decode cX1_isA 9 = .ok (.iconst 1, 1) := by decide +kernel
theorem dX1_isA_10 : decode cX1_isA 10 = .ok (.ireturn, 1) := by decide +kernel
theorem dX1_isA_11 : decode cX1_isA 11 = .ok (.iload_n 1, 1) := by decide +kernel
theorem dX1_isA_12 : decode cX1_isA 12 = .ok (.iconst 1, 1) := by decide +kernel
theorem dX1_isA_13 : decode cX1_isA 13 = .ok (.if_icmp .ne 19, 3) := by decide +kernel
theorem dX1_isA_16 : decode cX1_isA 16 = .ok (.iload_n 0, 1) := by decide +kernel
theorem dX1_isA_17 : decode cX1_isA 17 = .ok (.iconst 2, 1) := by decide +kernel
theorem dX1_isA_18 : decode cX1_isA 18 = .ok (.if_icmp .eq 8, 3) := by decide +kernel
theorem dX1_isA_21 : decode cX1_isA 21 = .ok (.iload_n 0, 1) := by decide +kernel
theorem dX1_isA_22 : decode cX1_isA 22 = .ok (.iconst 3, 1) := by decide +kernel
theorem dX1_isA_23 : decode cX1_isA 23 = .ok (.if_icmp .ne 7, 3) := by decide +kernel
theorem dX1_isA_26 : decode cX1_isA 26 = .ok (.iconst 1, 1) := by decide +kernel
theorem dX1_isA_27 : decode cX1_isA 27 = .ok (.goto 4, 3) := by decide +kernel
theorem dX1_isA_30 : decode cX1_isA 30 = .ok (.iconst 0, 1) := by decide +kernel
theorem dX1_isA_31 : decode cX1_isA 31 = .ok (.ireturn, 1) := by decide +kernel
theorem dX1_isA_32 : decode cX1_isA 32 = .ok (.iload_n 1, 1) := by decide +kernel
theorem dX1_isA_33 : decode cX1_isA 33 = .ok (.iconst 4, 1) := by decide +kernel
theorem dX1_isA_34 : decode cX1_isA 34 = .ok (.if_icmp .ne 12, 3) := by decide +kernel
theorem dX1_isA_37 : decode cX1_isA 37 = .ok (.iload_n 0, 1) := by decide +kernel
theorem dX1_isA_38 : decode cX1_isA 38 = .ok (.iconst 5, 1) := by decide +kernel
theorem dX1_isA_39 : decode cX1_isA 39 = .ok (.if_icmp .ne 7, 3) := by decide +kernel
theorem dX1_isA_42 : decode cX1_isA 42 = .ok (.iconst 1, 1) := by decide +kernel
theorem dX1_isA_43 : decode cX1_isA 43 = .ok (.goto 4, 3) := by decide +kernel
theorem dX1_isA_46 : decode cX1_isA 46 = .ok (.iconst 0, 1) := by decide +kernel
theorem dX1_isA_47 : decode cX1_isA 47 = .ok (.ireturn, 1) := by decide +kernel
theorem dX1_roomsWith_0 : decode cX1_roomsWith 0 = .ok (.iconst 0, 1) := by decide +kernel
theorem dX1_roomsWith_1 : decode cX1_roomsWith 1 = .ok (.istore_n 2, 1) := by decide +kernel
theorem dX1_roomsWith_2 : decode cX1_roomsWith 2 = .ok (.iconst 0, 1) := by decide +kernel
theorem dX1_roomsWith_3 : decode cX1_roomsWith 3 = .ok (.istore_n 3, 1) := by decide +kernel
theorem dX1_roomsWith_4 : decode cX1_roomsWith 4 = .ok (.iload_n 3, 1) := by decide +kernel
theorem dX1_roomsWith_5 : decode cX1_roomsWith 5 = .ok (.aload_n 0, 1) := by decide +kernel
theorem dX1_roomsWith_6 : decode cX1_roomsWith 6 = .ok (.getfield 37, 3) := by decide +kernel
theorem dX1_roomsWith_9 : decode cX1_roomsWith 9 = .ok (.if_icmp .ge 33, 3) := by decide +kernel
theorem dX1_roomsWith_12 : decode cX1_roomsWith 12 = .ok (.iload_n 1, 1) := by decide +kernel
theorem dX1_roomsWith_13 : decode cX1_roomsWith 13 = .ok (.aload_n 0, 1) := by decide +kernel
theorem dX1_roomsWith_14 : decode cX1_roomsWith 14 = .ok (.getfield 18, 3) := by decide +kernel
theorem dX1_roomsWith_17 : decode cX1_roomsWith 17 = .ok (.iload_n 3, 1) := by decide +kernel
theorem dX1_roomsWith_18 : decode cX1_roomsWith 18 = .ok (.iaload, 1) := by decide +kernel
theorem dX1_roomsWith_19 : decode cX1_roomsWith 19 = .ok (.ishr, 1) := by decide +kernel
theorem dX1_roomsWith_20 : decode cX1_roomsWith 20 = .ok (.iconst 1, 1) := by decide +kernel
theorem dX1_roomsWith_21 : decode cX1_roomsWith 21 = .ok (.iand, 1) := by decide +kernel
theorem dX1_roomsWith_22 : decode cX1_roomsWith 22 = .ok (.ifCond .eq 14, 3) := by decide +kernel
theorem dX1_roomsWith_25 : decode cX1_roomsWith 25 = .ok (.iload_n 2, 1) := by decide +kernel
theorem dX1_roomsWith_26 : decode cX1_roomsWith 26 = .ok (.iconst 1, 1) := by decide +kernel
theorem dX1_roomsWith_27 : decode cX1_roomsWith 27 = .ok (.aload_n 0, 1) := by decide +kernel
theorem dX1_roomsWith_28 : decode cX1_roomsWith 28 = .ok (.getfield 21, 3) := by decide +kernel
theorem dX1_roomsWith_31 : decode cX1_roomsWith 31 = .ok (.iload_n 3, 1) := by decide +kernel
theorem dX1_roomsWith_32 : decode cX1_roomsWith 32 = .ok (.iaload, 1) := by decide +kernel
theorem dX1_roomsWith_33 : decode cX1_roomsWith 33 = .ok (.ishl, 1) := by decide +kernel
theorem dX1_roomsWith_34 : decode cX1_roomsWith 34 = .ok (.ior, 1) := by decide +kernel
theorem dX1_roomsWith_35 : decode cX1_roomsWith 35 = .ok (.istore_n 2, 1) := by decide +kernel
theorem dX1_roomsWith_36 : decode cX1_roomsWith 36 = .ok (.iinc 3 1, 3) := by decide +kernel
theorem dX1_roomsWith_39 : decode cX1_roomsWith 39 = .ok (.goto (-35), 3) := by decide +kernel
theorem dX1_roomsWith_42 : decode cX1_roomsWith 42 = .ok (.iload_n 2, 1) := by decide +kernel
theorem dX1_roomsWith_43 : decode cX1_roomsWith 43 = .ok (.ireturn, 1) := by decide +kernel
theorem dX1_sittersIn_0 : decode cX1_sittersIn 0 = .ok (.iconst 0, 1) := by decide +kernel
theorem dX1_sittersIn_1 : decode cX1_sittersIn 1 = .ok (.istore_n 2, 1) := by decide +kernel
theorem dX1_sittersIn_2 : decode cX1_sittersIn 2 = .ok (.iconst 0, 1) := by decide +kernel
theorem dX1_sittersIn_3 : decode cX1_sittersIn 3 = .ok (.istore_n 3, 1) := by decide +kernel
theorem dX1_sittersIn_4 : decode cX1_sittersIn 4 = .ok (.iload_n 3, 1) := by decide +kernel
theorem dX1_sittersIn_5 : decode cX1_sittersIn 5 = .ok (.aload_n 0, 1) := by decide +kernel
theorem dX1_sittersIn_6 : decode cX1_sittersIn 6 = .ok (.getfield 37, 3) := by decide +kernel
theorem dX1_sittersIn_9 : decode cX1_sittersIn 9 = .ok (.if_icmp .ge 25, 3) := by decide +kernel
theorem dX1_sittersIn_12 : decode cX1_sittersIn 12 = .ok (.aload_n 0, 1) := by decide +kernel
theorem dX1_sittersIn_13 : decode cX1_sittersIn 13 = .ok (.getfield 21, 3) := by decide +kernel
theorem dX1_sittersIn_16 : decode cX1_sittersIn 16 = .ok (.iload_n 3, 1) := by decide +kernel
theorem dX1_sittersIn_17 : decode cX1_sittersIn 17 = .ok (.iaload, 1) := by decide +kernel
theorem dX1_sittersIn_18 : decode cX1_sittersIn 18 = .ok (.iload_n 1, 1) := by decide +kernel
theorem dX1_sittersIn_19 : decode cX1_sittersIn 19 = .ok (.if_icmp .ne 9, 3) := by decide +kernel
theorem dX1_sittersIn_22 : decode cX1_sittersIn 22 = .ok (.iload_n 2, 1) := by decide +kernel
theorem dX1_sittersIn_23 : decode cX1_sittersIn 23 = .ok (.iconst 1, 1) := by decide +kernel
theorem dX1_sittersIn_24 : decode cX1_sittersIn 24 = .ok (.iload_n 3, 1) := by decide +kernel
theorem dX1_sittersIn_25 : decode cX1_sittersIn 25 = .ok (.ishl, 1) := by decide +kernel
theorem dX1_sittersIn_26 : decode cX1_sittersIn 26 = .ok (.ior, 1) := by decide +kernel
theorem dX1_sittersIn_27 : decode cX1_sittersIn 27 = .ok (.istore_n 2, 1) := by decide +kernel
theorem dX1_sittersIn_28 : decode cX1_sittersIn 28 = .ok (.iinc 3 1, 3) := by decide +kernel
theorem dX1_sittersIn_31 : decode cX1_sittersIn 31 = .ok (.goto (-27), 3) := by decide +kernel
theorem dX1_sittersIn_34 : decode cX1_sittersIn 34 = .ok (.iload_n 2, 1) := by decide +kernel
theorem dX1_sittersIn_35 : decode cX1_sittersIn 35 = .ok (.ireturn, 1) := by decide +kernel
theorem dX1_doorsOf_0 : decode cX1_doorsOf 0 = .ok (.iconst 0, 1) := by decide +kernel
theorem dX1_doorsOf_1 : decode cX1_doorsOf 1 = .ok (.istore_n 2, 1) := by decide +kernel
theorem dX1_doorsOf_2 : decode cX1_doorsOf 2 = .ok (.iconst 0, 1) := by decide +kernel
theorem dX1_doorsOf_3 : decode cX1_doorsOf 3 = .ok (.istore_n 3, 1) := by decide +kernel
theorem dX1_doorsOf_4 : decode cX1_doorsOf 4 = .ok (.iload_n 3, 1) := by decide +kernel
theorem dX1_doorsOf_5 : decode cX1_doorsOf 5 = .ok (.aload_n 0, 1) := by decide +kernel
theorem dX1_doorsOf_6 : decode cX1_doorsOf 6 = .ok (.getfield 34, 3) := by decide +kernel
theorem dX1_doorsOf_9 : decode cX1_doorsOf 9 = .ok (.if_icmp .ge 35, 3) := by decide +kernel
theorem dX1_doorsOf_12 : decode cX1_doorsOf 12 = .ok (.aload_n 0, 1) := by decide +kernel
theorem dX1_doorsOf_13 : decode cX1_doorsOf 13 = .ok (.getfield 11, 3) := by decide +kernel
theorem dX1_doorsOf_16 : decode cX1_doorsOf 16 = .ok (.iload_n 3, 1) := by decide +kernel
theorem dX1_doorsOf_17 : decode cX1_doorsOf 17 = .ok (.iaload, 1) := by decide +kernel
theorem dX1_doorsOf_18 : decode cX1_doorsOf 18 = .ok (.iload_n 1, 1) := by decide +kernel
theorem dX1_doorsOf_19 : decode cX1_doorsOf 19 = .ok (.if_icmp .eq 13, 3) := by decide +kernel
theorem dX1_doorsOf_22 : decode cX1_doorsOf 22 = .ok (.aload_n 0, 1) := by decide +kernel
theorem dX1_doorsOf_23 : decode cX1_doorsOf 23 = .ok (.getfield 15, 3) := by decide +kernel
theorem dX1_doorsOf_26 : decode cX1_doorsOf 26 = .ok (.iload_n 3, 1) := by decide +kernel
theorem dX1_doorsOf_27 : decode cX1_doorsOf 27 = .ok (.iaload, 1) := by decide +kernel
theorem dX1_doorsOf_28 : decode cX1_doorsOf 28 = .ok (.iload_n 1, 1) := by decide +kernel
theorem dX1_doorsOf_29 : decode cX1_doorsOf 29 = .ok (.if_icmp .ne 9, 3) := by decide +kernel
theorem dX1_doorsOf_32 : decode cX1_doorsOf 32 = .ok (.iload_n 2, 1) := by decide +kernel
theorem dX1_doorsOf_33 : decode cX1_doorsOf 33 = .ok (.iconst 1, 1) := by decide +kernel
theorem dX1_doorsOf_34 : decode cX1_doorsOf 34 = .ok (.iload_n 3, 1) := by decide +kernel
theorem dX1_doorsOf_35 : decode cX1_doorsOf 35 = .ok (.ishl, 1) := by decide +kernel
theorem dX1_doorsOf_36 : decode cX1_doorsOf 36 = .ok (.ior, 1) := by decide +kernel
theorem dX1_doorsOf_37 : decode cX1_doorsOf 37 = .ok (.istore_n 2, 1) := by decide +kernel
theorem dX1_doorsOf_38 : decode cX1_doorsOf 38 = .ok (.iinc 3 1, 3) := by decide +kernel
theorem dX1_doorsOf_41 : decode cX1_doorsOf 41 = .ok (.goto (-37), 3) := by decide +kernel
theorem dX1_doorsOf_44 : decode cX1_doorsOf 44 = .ok (.iload_n 2, 1) := by decide +kernel
theorem dX1_doorsOf_45 : decode cX1_doorsOf 45 = .ok (.ireturn, 1) := by decide +kernel
theorem dX1_isOpen_0 : decode cX1_isOpen 0 = .ok (.aload_n 0, 1) := by decide +kernel
theorem dX1_isOpen_1 : decode cX1_isOpen 1 = .ok (.getfield 43, 3) := by decide +kernel
theorem dX1_isOpen_4 : decode cX1_isOpen 4 = .ok (.iload_n 1, 1) := by decide +kernel
theorem dX1_isOpen_5 : decode cX1_isOpen 5 = .ok (.ishr, 1) := by decide +kernel
theorem dX1_isOpen_6 : decode cX1_isOpen 6 = .ok (.iconst 1, 1) := by decide +kernel
theorem dX1_isOpen_7 : decode cX1_isOpen 7 = .ok (.iand, 1) := by decide +kernel
theorem dX1_isOpen_8 : decode cX1_isOpen 8 = .ok (.ifCond .eq 7, 3) := by decide +kernel
theorem dX1_isOpen_11 : decode cX1_isOpen 11 = .ok (.iconst 1, 1) := by decide +kernel
theorem dX1_isOpen_12 : decode cX1_isOpen 12 = .ok (.goto 4, 3) := by decide +kernel
theorem dX1_isOpen_15 : decode cX1_isOpen 15 = .ok (.iconst 0, 1) := by decide +kernel
theorem dX1_isOpen_16 : decode cX1_isOpen 16 = .ok (.ireturn, 1) := by decide +kernel
theorem dX1_moveDoors_0 : decode cX1_moveDoors 0 = .ok (.aload_n 0, 1) := by decide +kernel
theorem dX1_moveDoors_1 : decode cX1_moveDoors 1 = .ok (.dup, 1) := by decide +kernel
theorem dX1_moveDoors_2 : decode cX1_moveDoors 2 = .ok (.getfield 43, 3) := by decide +kernel
theorem dX1_moveDoors_5 : decode cX1_moveDoors 5 = .ok (.iload_n 1, 1) := by decide +kernel
theorem dX1_moveDoors_6 : decode cX1_moveDoors 6 = .ok (.ixor, 1) := by decide +kernel
theorem dX1_moveDoors_7 : decode cX1_moveDoors 7 = .ok (.putfield 43, 3) := by decide +kernel
theorem dX1_moveDoors_10 : decode cX1_moveDoors 10 = .ok (.return_, 1) := by decide +kernel
theorem dX1_roomsLedTo_0 : decode cX1_roomsLedTo 0 = .ok (.iconst 1, 1) := by decide +kernel
theorem dX1_roomsLedTo_1 : decode cX1_roomsLedTo 1 = .ok (.iload_n 1, 1) := by decide +kernel
theorem dX1_roomsLedTo_2 : decode cX1_roomsLedTo 2 = .ok (.ishl, 1) := by decide +kernel
theorem dX1_roomsLedTo_3 : decode cX1_roomsLedTo 3 = .ok (.istore_n 3, 1) := by decide +kernel
theorem dX1_roomsLedTo_4 : decode cX1_roomsLedTo 4 = .ok (.iconst 1, 1) := by decide +kernel
theorem dX1_roomsLedTo_5 : decode cX1_roomsLedTo 5 = .ok (.istore 4, 2) := by decide +kernel
theorem dX1_roomsLedTo_7 : decode cX1_roomsLedTo 7 = .ok (.iload 4, 2) := by decide +kernel
theorem dX1_roomsLedTo_9 : decode cX1_roomsLedTo 9 = .ok (.aload_n 0, 1) := by decide +kernel
theorem dX1_roomsLedTo_10 : decode cX1_roomsLedTo 10 = .ok (.getfield 30, 3) := by decide +kernel
theorem dX1_roomsLedTo_13 : decode cX1_roomsLedTo 13 = .ok (.if_icmp .ge 69, 3) := by decide +kernel
theorem dX1_roomsLedTo_16 : decode cX1_roomsLedTo 16 = .ok (.iconst 0, 1) := by decide +kernel
theorem dX1_roomsLedTo_17 : decode cX1_roomsLedTo 17 = .ok (.istore 5, 2) := by decide +kernel
theorem dX1_roomsLedTo_19 : decode cX1_roomsLedTo 19 = .ok (.iload 5, 2) := by decide +kernel
theorem dX1_roomsLedTo_21 : decode cX1_roomsLedTo 21 = .ok (.aload_n 0, 1) := by decide +kernel
theorem dX1_roomsLedTo_22 : decode cX1_roomsLedTo 22 = .ok (.getfield 34, 3) := by decide +kernel
theorem dX1_roomsLedTo_25 : decode cX1_roomsLedTo 25 = .ok (.if_icmp .ge 51, 3) := by decide +kernel
theorem dX1_roomsLedTo_28 : decode cX1_roomsLedTo 28 = .ok (.iconst 1, 1) := by decide +kernel
theorem dX1_roomsLedTo_29 : decode cX1_roomsLedTo 29 = .ok (.aload_n 0, 1) := by decide +kernel
theorem dX1_roomsLedTo_30 : decode cX1_roomsLedTo 30 = .ok (.getfield 11, 3) := by decide +kernel
theorem dX1_roomsLedTo_33 : decode cX1_roomsLedTo 33 = .ok (.iload 5, 2) := by decide +kernel
theorem dX1_roomsLedTo_35 : decode cX1_roomsLedTo 35 = .ok (.iaload, 1) := by decide +kernel
theorem dX1_roomsLedTo_36 : decode cX1_roomsLedTo 36 = .ok (.ishl, 1) := by decide +kernel
theorem dX1_roomsLedTo_37 : decode cX1_roomsLedTo 37 = .ok (.iconst 1, 1) := by decide +kernel
theorem dX1_roomsLedTo_38 : decode cX1_roomsLedTo 38 = .ok (.aload_n 0, 1) := by decide +kernel
theorem dX1_roomsLedTo_39 : decode cX1_roomsLedTo 39 = .ok (.getfield 15, 3) := by decide +kernel
theorem dX1_roomsLedTo_42 : decode cX1_roomsLedTo 42 = .ok (.iload 5, 2) := by decide +kernel
theorem dX1_roomsLedTo_44 : decode cX1_roomsLedTo 44 = .ok (.iaload, 1) := by decide +kernel
theorem dX1_roomsLedTo_45 : decode cX1_roomsLedTo 45 = .ok (.ishl, 1) := by decide +kernel
theorem dX1_roomsLedTo_46 : decode cX1_roomsLedTo 46 = .ok (.ior, 1) := by decide +kernel
theorem dX1_roomsLedTo_47 : decode cX1_roomsLedTo 47 = .ok (.istore 6, 2) := by decide +kernel
theorem dX1_roomsLedTo_49 : decode cX1_roomsLedTo 49 = .ok (.iload_n 2, 1) := by decide +kernel
theorem dX1_roomsLedTo_50 : decode cX1_roomsLedTo 50 = .ok (.iload 5, 2) := by decide +kernel
theorem dX1_roomsLedTo_52 : decode cX1_roomsLedTo 52 = .ok (.ishr, 1) := by decide +kernel
theorem dX1_roomsLedTo_53 : decode cX1_roomsLedTo 53 = .ok (.iconst 1, 1) := by decide +kernel
theorem dX1_roomsLedTo_54 : decode cX1_roomsLedTo 54 = .ok (.iand, 1) := by decide +kernel
theorem dX1_roomsLedTo_55 : decode cX1_roomsLedTo 55 = .ok (.ifCond .eq 15, 3) := by decide +kernel
theorem dX1_roomsLedTo_58 : decode cX1_roomsLedTo 58 = .ok (.iload_n 3, 1) := by decide +kernel
theorem dX1_roomsLedTo_59 : decode cX1_roomsLedTo 59 = .ok (.iload 6, 2) := by decide +kernel
theorem dX1_roomsLedTo_61 : decode cX1_roomsLedTo 61 = .ok (.iand, 1) := by decide +kernel
theorem dX1_roomsLedTo_62 : decode cX1_roomsLedTo 62 = .ok (.ifCond .eq 8, 3) := by decide +kernel
theorem dX1_roomsLedTo_65 : decode cX1_roomsLedTo 65 = .ok (.iload_n 3, 1) := by decide +kernel
theorem dX1_roomsLedTo_66 : decode cX1_roomsLedTo 66 = .ok (.iload 6, 2) := by decide +kernel
theorem dX1_roomsLedTo_68 : decode cX1_roomsLedTo 68 = .ok (.ior, 1) := by decide +kernel
theorem dX1_roomsLedTo_69 : decode cX1_roomsLedTo 69 = .ok (.istore_n 3, 1) := by decide +kernel
theorem dX1_roomsLedTo_70 : decode cX1_roomsLedTo 70 = .ok (.iinc 5 1, 3) := by decide +kernel
theorem dX1_roomsLedTo_73 : decode cX1_roomsLedTo 73 = .ok (.goto (-54), 3) := by decide +kernel
theorem dX1_roomsLedTo_76 : decode cX1_roomsLedTo 76 = .ok (.iinc 4 1, 3) := by decide +kernel
theorem dX1_roomsLedTo_79 : decode cX1_roomsLedTo 79 = .ok (.goto (-72), 3) := by decide +kernel
theorem dX1_roomsLedTo_82 : decode cX1_roomsLedTo 82 = .ok (.iload_n 3, 1) := by decide +kernel
theorem dX1_roomsLedTo_83 : decode cX1_roomsLedTo 83 = .ok (.ireturn, 1) := by decide +kernel
theorem dX1_allCold_0 : decode cX1_allCold 0 = .ok (.iconst 0, 1) := by decide +kernel
theorem dX1_allCold_1 : decode cX1_allCold 1 = .ok (.istore_n 1, 1) := by decide +kernel
theorem dX1_allCold_2 : decode cX1_allCold 2 = .ok (.iconst 0, 1) := by decide +kernel
theorem dX1_allCold_3 : decode cX1_allCold 3 = .ok (.istore_n 2, 1) := by decide +kernel
theorem dX1_allCold_4 : decode cX1_allCold 4 = .ok (.iload_n 2, 1) := by decide +kernel
theorem dX1_allCold_5 : decode cX1_allCold 5 = .ok (.aload_n 0, 1) := by decide +kernel
theorem dX1_allCold_6 : decode cX1_allCold 6 = .ok (.getfield 30, 3) := by decide +kernel
theorem dX1_allCold_9 : decode cX1_allCold 9 = .ok (.if_icmp .ge 18, 3) := by decide +kernel
theorem dX1_allCold_12 : decode cX1_allCold 12 = .ok (.iload_n 1, 1) := by decide +kernel
theorem dX1_allCold_13 : decode cX1_allCold 13 = .ok (.aload_n 0, 1) := by decide +kernel
theorem dX1_allCold_14 : decode cX1_allCold 14 = .ok (.getfield 27, 3) := by decide +kernel
theorem dX1_allCold_17 : decode cX1_allCold 17 = .ok (.iload_n 2, 1) := by decide +kernel
theorem dX1_allCold_18 : decode cX1_allCold 18 = .ok (.iaload, 1) := by decide +kernel
theorem dX1_allCold_19 : decode cX1_allCold 19 = .ok (.iadd, 1) := by decide +kernel
theorem dX1_allCold_20 : decode cX1_allCold 20 = .ok (.istore_n 1, 1) := by decide +kernel
theorem dX1_allCold_21 : decode cX1_allCold 21 = .ok (.iinc 2 1, 3) := by decide +kernel
theorem dX1_allCold_24 : decode cX1_allCold 24 = .ok (.goto (-20), 3) := by decide +kernel
theorem dX1_allCold_27 : decode cX1_allCold 27 = .ok (.iload_n 1, 1) := by decide +kernel
theorem dX1_allCold_28 : decode cX1_allCold 28 = .ok (.ireturn, 1) := by decide +kernel
theorem dX1_isShivering_0 : decode cX1_isShivering 0 = .ok (.aload_n 0, 1) := by decide +kernel
theorem dX1_isShivering_1 : decode cX1_isShivering 1 = .ok (.getfield 27, 3) := by decide +kernel
theorem dX1_isShivering_4 : decode cX1_isShivering 4 = .ok (.aload_n 0, 1) := by decide +kernel
theorem dX1_isShivering_5 : decode cX1_isShivering 5 = .ok (.getfield 21, 3) := by decide +kernel
theorem dX1_isShivering_8 : decode cX1_isShivering 8 = .ok (.iload_n 1, 1) := by decide +kernel
theorem dX1_isShivering_9 : decode cX1_isShivering 9 = .ok (.iaload, 1) := by decide +kernel
theorem dX1_isShivering_10 : decode cX1_isShivering 10 = .ok (.iaload, 1) := by decide +kernel
theorem dX1_isShivering_11 : decode cX1_isShivering 11 = .ok (.aload_n 0, 1) := by decide +kernel
theorem dX1_isShivering_12 : decode cX1_isShivering 12 = .ok (.getfield 52, 3) := by decide +kernel
theorem dX1_isShivering_15 : decode cX1_isShivering 15 = .ok (.if_icmp .le 7, 3) := by decide +kernel
theorem dX1_isShivering_18 : decode cX1_isShivering 18 = .ok (.iconst 1, 1) := by decide +kernel
theorem dX1_isShivering_19 : decode cX1_isShivering 19 = .ok (.goto 4, 3) := by decide +kernel
theorem dX1_isShivering_22 : decode cX1_isShivering 22 = .ok (.iconst 0, 1) := by decide +kernel
theorem dX1_isShivering_23 : decode cX1_isShivering 23 = .ok (.ireturn, 1) := by decide +kernel
theorem dX1_firstShivering_0 : decode cX1_firstShivering 0 = .ok (.iconst 0, 1) := by decide +kernel
theorem dX1_firstShivering_1 : decode cX1_firstShivering 1 = .ok (.istore_n 1, 1) := by decide +kernel
theorem dX1_firstShivering_2 : decode cX1_firstShivering 2 = .ok (.iload_n 1, 1) := by decide +kernel
theorem dX1_firstShivering_3 : decode cX1_firstShivering 3 = .ok (.aload_n 0, 1) := by decide +kernel
theorem dX1_firstShivering_4 : decode cX1_firstShivering 4 = .ok (.getfield 37, 3) := by decide +kernel
theorem dX1_firstShivering_7 : decode cX1_firstShivering 7 = .ok (.if_icmp .ge 19, 3) := by decide +kernel
theorem dX1_firstShivering_10 : decode cX1_firstShivering 10 = .ok (.aload_n 0, 1) := by decide +kernel
theorem dX1_firstShivering_11 : decode cX1_firstShivering 11 = .ok (.iload_n 1, 1) := by decide +kernel
theorem dX1_firstShivering_12 : decode cX1_firstShivering 12 = .ok (.invokevirtual 96, 3) := by decide +kernel
theorem dX1_firstShivering_15 : decode cX1_firstShivering 15 = .ok (.ifCond .eq 5, 3) := by decide +kernel
theorem dX1_firstShivering_18 : decode cX1_firstShivering 18 = .ok (.iload_n 1, 1) := by decide +kernel
theorem dX1_firstShivering_19 : decode cX1_firstShivering 19 = .ok (.ireturn, 1) := by decide +kernel
theorem dX1_firstShivering_20 : decode cX1_firstShivering 20 = .ok (.iinc 1 1, 3) := by decide +kernel
theorem dX1_firstShivering_23 : decode cX1_firstShivering 23 = .ok (.goto (-21), 3) := by decide +kernel
theorem dX1_firstShivering_26 : decode cX1_firstShivering 26 = .ok (.iconst (-1), 1) := by decide +kernel
theorem dX1_firstShivering_27 : decode cX1_firstShivering 27 = .ok (.ireturn, 1) := by decide +kernel
theorem dX2_init_0 : decode cX2_init 0 = .ok (.aload_n 0, 1) := by decide +kernel
theorem dX2_init_1 : decode cX2_init 1 = .ok (.invokespecial 5, 3) := by decide +kernel
theorem dX2_init_4 : decode cX2_init 4 = .ok (.aload_n 0, 1) := by decide +kernel
theorem dX2_init_5 : decode cX2_init 5 = .ok (.sipush 312, 3) := by decide +kernel
theorem dX2_init_8 : decode cX2_init 8 = .ok (.newarray .int, 2) := by decide +kernel
theorem dX2_init_10 : decode cX2_init 10 = .ok (.putfield 11, 3) := by decide +kernel
theorem dX2_init_13 : decode cX2_init 13 = .ok (.return_, 1) := by decide +kernel
theorem dX2_forget_0 : decode cX2_forget 0 = .ok (.aload_n 0, 1) := by decide +kernel
theorem dX2_forget_1 : decode cX2_forget 1 = .ok (.iconst 0, 1) := by decide +kernel
theorem dX2_forget_2 : decode cX2_forget 2 = .ok (.putfield 15, 3) := by decide +kernel
theorem dX2_forget_5 : decode cX2_forget 5 = .ok (.return_, 1) := by decide +kernel
theorem dX2_keep_0 : decode cX2_keep 0 = .ok (.aload_n 0, 1) := by decide +kernel
theorem dX2_keep_1 : decode cX2_keep 1 = .ok (.getfield 19, 3) := by decide +kernel
theorem dX2_keep_4 : decode cX2_keep 4 = .ok (.aload_n 0, 1) := by decide +kernel
theorem dX2_keep_5 : decode cX2_keep 5 = .ok (.getfield 15, 3) := by decide +kernel
theorem dX2_keep_8 : decode cX2_keep 8 = .ok (.iadd, 1) := by decide +kernel
theorem dX2_keep_9 : decode cX2_keep 9 = .ok (.bipush 24, 2) := by decide +kernel
theorem dX2_keep_11 : decode cX2_keep 11 = .ok (.irem, 1) := by decide +kernel
theorem dX2_keep_12 : decode cX2_keep 12 = .ok (.bipush 13, 2) := by decide +kernel
theorem dX2_keep_14 : decode cX2_keep 14 = .ok (.imul, 1) := by decide +kernel
theorem dX2_keep_15 : decode cX2_keep 15 = .ok (.istore_n 2, 1) := by decide +kernel
theorem dX2_keep_16 : decode cX2_keep 16 = .ok (.aload_n 0, 1) := by decide +kernel
theorem dX2_keep_17 : decode cX2_keep 17 = .ok (.getfield 11, 3) := by decide +kernel
theorem dX2_keep_20 : decode cX2_keep 20 = .ok (.iload_n 2, 1) := by decide +kernel
theorem dX2_keep_21 : decode cX2_keep 21 = .ok (.iconst 0, 1) := by decide +kernel
theorem dX2_keep_22 : decode cX2_keep 22 = .ok (.iadd, 1) := by decide +kernel
theorem dX2_keep_23 : decode cX2_keep 23 = .ok (.aload_n 1, 1) := by decide +kernel
theorem dX2_keep_24 : decode cX2_keep 24 = .ok (.getfield 22, 3) := by decide +kernel
theorem dX2_keep_27 : decode cX2_keep 27 = .ok (.iastore, 1) := by decide +kernel
theorem dX2_keep_28 : decode cX2_keep 28 = .ok (.aload_n 0, 1) := by decide +kernel
theorem dX2_keep_29 : decode cX2_keep 29 = .ok (.getfield 11, 3) := by decide +kernel
theorem dX2_keep_32 : decode cX2_keep 32 = .ok (.iload_n 2, 1) := by decide +kernel
theorem dX2_keep_33 : decode cX2_keep 33 = .ok (.iconst 1, 1) := by decide +kernel
theorem dX2_keep_34 : decode cX2_keep 34 = .ok (.iadd, 1) := by decide +kernel
theorem dX2_keep_35 : decode cX2_keep 35 = .ok (.aload_n 1, 1) := by decide +kernel
theorem dX2_keep_36 : decode cX2_keep 36 = .ok (.getfield 25, 3) := by decide +kernel
theorem dX2_keep_39 : decode cX2_keep 39 = .ok (.iastore, 1) := by decide +kernel
theorem dX2_keep_40 : decode cX2_keep 40 = .ok (.aload_n 1, 1) := by decide +kernel
theorem dX2_keep_41 : decode cX2_keep 41 = .ok (.getfield 28, 3) := by decide +kernel
theorem dX2_keep_44 : decode cX2_keep 44 = .ok (.iconst 0, 1) := by decide +kernel
theorem dX2_keep_45 : decode cX2_keep 45 = .ok (.aload_n 0, 1) := by decide +kernel
theorem dX2_keep_46 : decode cX2_keep 46 = .ok (.getfield 11, 3) := by decide +kernel
theorem dX2_keep_49 : decode cX2_keep 49 = .ok (.iload_n 2, 1) := by decide +kernel
theorem dX2_keep_50 : decode cX2_keep 50 = .ok (.iconst 2, 1) := by decide +kernel
theorem dX2_keep_51 : decode cX2_keep 51 = .ok (.iadd, 1) := by decide +kernel
theorem dX2_keep_52 : decode cX2_keep 52 = .ok (.bipush 6, 2) := by decide +kernel
theorem dX2_keep_54 : decode cX2_keep 54 = .ok (.invokestatic 31, 3) := by decide +kernel
theorem dX2_keep_57 : decode cX2_keep 57 = .ok (.aload_n 1, 1) := by decide +kernel
theorem dX2_keep_58 : decode cX2_keep 58 = .ok (.getfield 37, 3) := by decide +kernel
theorem dX2_keep_61 : decode cX2_keep 61 = .ok (.iconst 0, 1) := by decide +kernel
theorem dX2_keep_62 : decode cX2_keep 62 = .ok (.aload_n 0, 1) := by decide +kernel
theorem dX2_keep_63 : decode cX2_keep 63 = .ok (.getfield 11, 3) := by decide +kernel
theorem dX2_keep_66 : decode cX2_keep 66 = .ok (.iload_n 2, 1) := by decide +kernel
theorem dX2_keep_67 : decode cX2_keep 67 = .ok (.bipush 8, 2) := by decide +kernel
theorem dX2_keep_69 : decode cX2_keep 69 = .ok (.iadd, 1) := by decide +kernel
theorem dX2_keep_70 : decode cX2_keep 70 = .ok (.iconst 5, 1) := by decide +kernel
theorem dX2_keep_71 : decode cX2_keep 71 = .ok (.invokestatic 31, 3) := by decide +kernel
theorem dX2_keep_74 : decode cX2_keep 74 = .ok (.aload_n 0, 1) := by decide +kernel
theorem dX2_keep_75 : decode cX2_keep 75 = .ok (.getfield 15, 3) := by decide +kernel
theorem dX2_keep_78 : decode cX2_keep 78 = .ok (.bipush 24, 2) := by decide +kernel
theorem dX2_keep_80 : decode cX2_keep 80 = .ok (.if_icmp .ge 16, 3) := by decide +kernel
theorem dX2_keep_83 : decode cX2_keep 83 = .ok (.aload_n 0, 1) := by decide +kernel
theorem dX2_keep_84 : decode cX2_keep 84 = .ok (.dup, 1) := by decide +kernel
theorem dX2_keep_85 : decode cX2_keep 85 = .ok (.getfield 15, 3) := by decide +kernel
theorem dX2_keep_88 : decode cX2_keep 88 = .ok (.iconst 1, 1) := by decide +kernel
theorem dX2_keep_89 : decode cX2_keep 89 = .ok (.iadd, 1) := by decide +kernel
theorem dX2_keep_90 : decode cX2_keep 90 = .ok (.putfield 15, 3) := by decide +kernel
theorem dX2_keep_93 : decode cX2_keep 93 = .ok (.goto 16, 3) := by decide +kernel
theorem dX2_keep_96 : decode cX2_keep 96 = .ok (.aload_n 0, 1) := by decide +kernel
theorem dX2_keep_97 : decode cX2_keep 97 = .ok (.aload_n 0, 1) := by decide +kernel
theorem dX2_keep_98 : decode cX2_keep 98 = .ok (.getfield 19, 3) := by decide +kernel
theorem dX2_keep_101 : decode cX2_keep 101 = .ok (.iconst 1, 1) := by decide +kernel
theorem dX2_keep_102 : decode cX2_keep 102 = .ok (.iadd, 1) := by decide +kernel
theorem dX2_keep_103 : decode cX2_keep 103 = .ok (.bipush 24, 2) := by decide +kernel
theorem dX2_keep_105 : decode cX2_keep 105 = .ok (.irem, 1) := by decide +kernel
theorem dX2_keep_106 : decode cX2_keep 106 = .ok (.putfield 19, 3) := by decide +kernel
theorem dX2_keep_109 : decode cX2_keep 109 = .ok (.return_, 1) := by decide +kernel
theorem dX2_takeBack_0 : decode cX2_takeBack 0 = .ok (.aload_n 0, 1) := by decide +kernel
theorem dX2_takeBack_1 : decode cX2_takeBack 1 = .ok (.getfield 15, 3) := by decide +kernel
theorem dX2_takeBack_4 : decode cX2_takeBack 4 = .ok (.ifCond .ne 4, 3) := by decide +kernel
theorem dX2_takeBack_7 : decode cX2_takeBack 7 = .ok (.return_, 1) := by decide +kernel
theorem dX2_takeBack_8 : decode cX2_takeBack 8 = .ok (.aload_n 0, 1) := by decide +kernel
theorem dX2_takeBack_9 : decode cX2_takeBack 9 = .ok (.dup, 1) := by decide +kernel
theorem dX2_takeBack_10 : decode cX2_takeBack 10 = .ok (.getfield 15, 3) := by decide +kernel
theorem dX2_takeBack_13 : decode cX2_takeBack 13 = .ok (.iconst 1, 1) := by decide +kernel
theorem dX2_takeBack_14 : decode cX2_takeBack 14 = .ok (.isub, 1) := by decide +kernel
theorem dX2_takeBack_15 : decode cX2_takeBack 15 = .ok (.putfield 15, 3) := by decide +kernel
theorem dX2_takeBack_18 : decode cX2_takeBack 18 = .ok (.aload_n 0, 1) := by decide +kernel
theorem dX2_takeBack_19 : decode cX2_takeBack 19 = .ok (.getfield 19, 3) := by decide +kernel
theorem dX2_takeBack_22 : decode cX2_takeBack 22 = .ok (.aload_n 0, 1) := by decide +kernel
theorem dX2_takeBack_23 : decode cX2_takeBack 23 = .ok (.getfield 15, 3) := by decide +kernel
theorem dX2_takeBack_26 : decode cX2_takeBack 26 = .ok (.iadd, 1) := by decide +kernel
theorem dX2_takeBack_27 : decode cX2_takeBack 27 = .ok (.bipush 24, 2) := by decide +kernel
theorem dX2_takeBack_29 : decode cX2_takeBack 29 = .ok (.irem, 1) := by decide +kernel
theorem dX2_takeBack_30 : decode cX2_takeBack 30 = .ok (.bipush 13, 2) := by decide +kernel
theorem dX2_takeBack_32 : decode cX2_takeBack 32 = .ok (.imul, 1) := by decide +kernel
theorem dX2_takeBack_33 : decode cX2_takeBack 33 = .ok (.istore_n 2, 1) := by decide +kernel
theorem dX2_takeBack_34 : decode cX2_takeBack 34 = .ok (.aload_n 1, 1) := by decide +kernel
theorem dX2_takeBack_35 : decode cX2_takeBack 35 = .ok (.aload_n 0, 1) := by decide +kernel
theorem dX2_takeBack_36 : decode cX2_takeBack 36 = .ok (.getfield 11, 3) := by decide +kernel
theorem dX2_takeBack_39 : decode cX2_takeBack 39 = .ok (.iload_n 2, 1) := by decide +kernel
theorem dX2_takeBack_40 : decode cX2_takeBack 40 = .ok (.iconst 0, 1) := by decide +kernel
theorem dX2_takeBack_41 : decode cX2_takeBack 41 = .ok (.iadd, 1) := by decide +kernel
theorem dX2_takeBack_42 : decode cX2_takeBack 42 = .ok (.iaload, 1) := by decide +kernel
theorem dX2_takeBack_43 : decode cX2_takeBack 43 = .ok (.putfield 22, 3) := by decide +kernel
theorem dX2_takeBack_46 : decode cX2_takeBack 46 = .ok (.aload_n 1, 1) := by decide +kernel
theorem dX2_takeBack_47 : decode cX2_takeBack 47 = .ok (.aload_n 0, 1) := by decide +kernel
theorem dX2_takeBack_48 : decode cX2_takeBack 48 = .ok (.getfield 11, 3) := by decide +kernel
theorem dX2_takeBack_51 : decode cX2_takeBack 51 = .ok (.iload_n 2, 1) := by decide +kernel
theorem dX2_takeBack_52 : decode cX2_takeBack 52 = .ok (.iconst 1, 1) := by decide +kernel
theorem dX2_takeBack_53 : decode cX2_takeBack 53 = .ok (.iadd, 1) := by decide +kernel
theorem dX2_takeBack_54 : decode cX2_takeBack 54 = .ok (.iaload, 1) := by decide +kernel
theorem dX2_takeBack_55 : decode cX2_takeBack 55 = .ok (.putfield 25, 3) := by decide +kernel
theorem dX2_takeBack_58 : decode cX2_takeBack 58 = .ok (.aload_n 0, 1) := by decide +kernel
theorem dX2_takeBack_59 : decode cX2_takeBack 59 = .ok (.getfield 11, 3) := by decide +kernel
theorem dX2_takeBack_62 : decode cX2_takeBack 62 = .ok (.iload_n 2, 1) := by decide +kernel
theorem dX2_takeBack_63 : decode cX2_takeBack 63 = .ok (.iconst 2, 1) := by decide +kernel
theorem dX2_takeBack_64 : decode cX2_takeBack 64 = .ok (.iadd, 1) := by decide +kernel
theorem dX2_takeBack_65 : decode cX2_takeBack 65 = .ok (.aload_n 1, 1) := by decide +kernel
theorem dX2_takeBack_66 : decode cX2_takeBack 66 = .ok (.getfield 28, 3) := by decide +kernel
theorem dX2_takeBack_69 : decode cX2_takeBack 69 = .ok (.iconst 0, 1) := by decide +kernel
theorem dX2_takeBack_70 : decode cX2_takeBack 70 = .ok (.bipush 6, 2) := by decide +kernel
theorem dX2_takeBack_72 : decode cX2_takeBack 72 = .ok (.invokestatic 31, 3) := by decide +kernel
end
section
theorem dX2_takeBack_75 : decode cX2_takeBack 75 = .ok (.aload_n 0, 1) := by decide +kernel
theorem dX2_takeBack_76 : decode cX2_takeBack 76 = .ok (.getfield 11, 3) := by decide +kernel
theorem dX2_takeBack_79 : decode cX2_takeBack 79 = .ok (.iload_n 2, 1) := by decide +kernel
theorem dX2_takeBack_80 : decode cX2_takeBack 80 = .ok (.bipush 8, 2) := by decide +kernel
theorem dX2_takeBack_82 : decode cX2_takeBack 82 = .ok (.iadd, 1) := by decide +kernel
theorem dX2_takeBack_83 : decode cX2_takeBack 83 = .ok (.aload_n 1, 1) := by decide +kernel
theorem dX2_takeBack_84 : decode cX2_takeBack 84 = .ok (.getfield 37, 3) := by decide +kernel
theorem dX2_takeBack_87 : decode cX2_takeBack 87 = .ok (.iconst 0, 1) := by decide +kernel
theorem dX2_takeBack_88 : decode cX2_takeBack 88 = .ok (.iconst 5, 1) := by decide +kernel
theorem dX2_takeBack_89 : decode cX2_takeBack 89 = .ok (.invokestatic 31, 3) := by decide +kernel
theorem dX2_takeBack_92 : decode cX2_takeBack 92 = .ok (.return_, 1) := by decide +kernel
theorem dX3_init_0 : decode cX3_init 0 = .ok (.aload_n 0, 1) := by decide +kernel
theorem dX3_init_1 : decode cX3_init 1 = .ok (.invokespecial 1, 3) := by decide +kernel
theorem dX3_init_4 : decode cX3_init 4 = .ok (.aload_n 0, 1) := by decide +kernel
theorem dX3_init_5 : decode cX3_init 5 = .ok (.sipush 320, 3) := by decide +kernel
theorem dX3_init_8 : decode cX3_init 8 = .ok (.newarray .int, 2) := by decide +kernel
theorem dX3_init_10 : decode cX3_init 10 = .ok (.putfield 9, 3) := by decide +kernel
theorem dX3_init_13 : decode cX3_init 13 = .ok (.aload_n 0, 1) := by decide +kernel
theorem dX3_init_14 : decode cX3_init 14 = .ok (.bipush 8, 2) := by decide +kernel
theorem dX3_init_16 : decode cX3_init 16 = .ok (.newarray .int, 2) := by decide +kernel
theorem dX3_init_18 : decode cX3_init 18 = .ok (.putfield 13, 3) := by decide +kernel
theorem dX3_init_21 : decode cX3_init 21 = .ok (.aload_n 0, 1) := by decide +kernel
theorem dX3_init_22 : decode cX3_init 22 = .ok (.bipush 8, 2) := by decide +kernel
theorem dX3_init_24 : decode cX3_init 24 = .ok (.newarray .int, 2) := by decide +kernel
theorem dX3_init_26 : decode cX3_init 26 = .ok (.putfield 16, 3) := by decide +kernel
theorem dX3_init_29 : decode cX3_init 29 = .ok (.iconst 0, 1) := by decide +kernel
theorem dX3_init_30 : decode cX3_init 30 = .ok (.istore_n 1, 1) := by decide +kernel
theorem dX3_init_31 : decode cX3_init 31 = .ok (.iload_n 1, 1) := by decide +kernel
theorem dX3_init_32 : decode cX3_init 32 = .ok (.bipush 8, 2) := by decide +kernel
theorem dX3_init_34 : decode cX3_init 34 = .ok (.if_icmp .ge 16, 3) := by decide +kernel
theorem dX3_init_37 : decode cX3_init 37 = .ok (.aload_n 0, 1) := by decide +kernel
theorem dX3_init_38 : decode cX3_init 38 = .ok (.getfield 16, 3) := by decide +kernel
theorem dX3_init_41 : decode cX3_init 41 = .ok (.iload_n 1, 1) := by decide +kernel
theorem dX3_init_42 : decode cX3_init 42 = .ok (.iconst (-1), 1) := by decide +kernel
theorem dX3_init_43 : decode cX3_init 43 = .ok (.iastore, 1) := by decide +kernel
theorem dX3_init_44 : decode cX3_init 44 = .ok (.iinc 1 1, 3) := by decide +kernel
theorem dX3_init_47 : decode cX3_init 47 = .ok (.goto (-16), 3) := by decide +kernel
theorem dX3_init_50 : decode cX3_init 50 = .ok (.return_, 1) := by decide +kernel
theorem dX3_isRow_0 : decode cX3_isRow 0 = .ok (.iload_n 0, 1) := by decide +kernel
theorem dX3_isRow_1 : decode cX3_isRow 1 = .ok (.ifCond .lt 13, 3) := by decide +kernel
theorem dX3_isRow_4 : decode cX3_isRow 4 = .ok (.iload_n 0, 1) := by decide +kernel
theorem dX3_isRow_5 : decode cX3_isRow 5 = .ok (.bipush 8, 2) := by decide +kernel
theorem dX3_isRow_7 : decode cX3_isRow 7 = .ok (.if_icmp .ge 7, 3) := by decide +kernel
theorem dX3_isRow_10 : decode cX3_isRow 10 = .ok (.iconst 1, 1) := by decide +kernel
theorem dX3_isRow_11 : decode cX3_isRow 11 = .ok (.goto 4, 3) := by decide +kernel
theorem dX3_isRow_14 : decode cX3_isRow 14 = .ok (.iconst 0, 1) := by decide +kernel
theorem dX3_isRow_15 : decode cX3_isRow 15 = .ok (.ireturn, 1) := by decide +kernel
theorem dX3_isMissing_0 : decode cX3_isMissing 0 = .ok (.aload_n 0, 1) := by decide +kernel
theorem dX3_isMissing_1 : decode cX3_isMissing 1 = .ok (.getfield 16, 3) := by decide +kernel
theorem dX3_isMissing_4 : decode cX3_isMissing 4 = .ok (.iload_n 1, 1) := by decide +kernel
theorem dX3_isMissing_5 : decode cX3_isMissing 5 = .ok (.iaload, 1) := by decide +kernel
theorem dX3_isMissing_6 : decode cX3_isMissing 6 = .ok (.iconst (-1), 1) := by decide +kernel
theorem dX3_isMissing_7 : decode cX3_isMissing 7 = .ok (.if_icmp .ne 7, 3) := by decide +kernel
theorem dX3_isMissing_10 : decode cX3_isMissing 10 = .ok (.iconst 1, 1) := by decide +kernel
theorem dX3_isMissing_11 : decode cX3_isMissing 11 = .ok (.goto 4, 3) := by decide +kernel
theorem dX3_isMissing_14 : decode cX3_isMissing 14 = .ok (.iconst 0, 1) := by decide +kernel
theorem dX3_isMissing_15 : decode cX3_isMissing 15 = .ok (.ireturn, 1) := by decide +kernel
theorem dX3_sameLane_0 : decode cX3_sameLane 0 = .ok (.aload_n 0, 1) := by decide +kernel
theorem dX3_sameLane_1 : decode cX3_sameLane 1 = .ok (.getfield 13, 3) := by decide +kernel
theorem dX3_sameLane_4 : decode cX3_sameLane 4 = .ok (.iload_n 1, 1) := by decide +kernel
theorem dX3_sameLane_5 : decode cX3_sameLane 5 = .ok (.iaload, 1) := by decide +kernel
theorem dX3_sameLane_6 : decode cX3_sameLane 6 = .ok (.aload_n 0, 1) := by decide +kernel
theorem dX3_sameLane_7 : decode cX3_sameLane 7 = .ok (.getfield 13, 3) := by decide +kernel
theorem dX3_sameLane_10 : decode cX3_sameLane 10 = .ok (.iload_n 2, 1) := by decide +kernel
theorem dX3_sameLane_11 : decode cX3_sameLane 11 = .ok (.iaload, 1) := by decide +kernel
theorem dX3_sameLane_12 : decode cX3_sameLane 12 = .ok (.if_icmp .ne 7, 3) := by decide +kernel
theorem dX3_sameLane_15 : decode cX3_sameLane 15 = .ok (.iconst 1, 1) := by decide +kernel
theorem dX3_sameLane_16 : decode cX3_sameLane 16 = .ok (.goto 4, 3) := by decide +kernel
theorem dX3_sameLane_19 : decode cX3_sameLane 19 = .ok (.iconst 0, 1) := by decide +kernel
theorem dX3_sameLane_20 : decode cX3_sameLane 20 = .ok (.ireturn, 1) := by decide +kernel
theorem dX3_hasPlaces_0 : decode cX3_hasPlaces 0 = .ok (.iload_n 2, 1) := by decide +kernel
theorem dX3_hasPlaces_1 : decode cX3_hasPlaces 1 = .ok (.ifCond .lt 33, 3) := by decide +kernel
theorem dX3_hasPlaces_4 : decode cX3_hasPlaces 4 = .ok (.iload_n 3, 1) := by decide +kernel
theorem dX3_hasPlaces_5 : decode cX3_hasPlaces 5 = .ok (.ifCond .lt 29, 3) := by decide +kernel
theorem dX3_hasPlaces_8 : decode cX3_hasPlaces 8 = .ok (.iload_n 2, 1) := by decide +kernel
theorem dX3_hasPlaces_9 : decode cX3_hasPlaces 9 = .ok (.aload_n 0, 1) := by decide +kernel
theorem dX3_hasPlaces_10 : decode cX3_hasPlaces 10 = .ok (.getfield 16, 3) := by decide +kernel
theorem dX3_hasPlaces_13 : decode cX3_hasPlaces 13 = .ok (.iload_n 1, 1) := by decide +kernel
theorem dX3_hasPlaces_14 : decode cX3_hasPlaces 14 = .ok (.iaload, 1) := by decide +kernel
theorem dX3_hasPlaces_15 : decode cX3_hasPlaces 15 = .ok (.if_icmp .gt 19, 3) := by decide +kernel
theorem dX3_hasPlaces_18 : decode cX3_hasPlaces 18 = .ok (.iload_n 3, 1) := by decide +kernel
theorem dX3_hasPlaces_19 : decode cX3_hasPlaces 19 = .ok (.aload_n 0, 1) := by decide +kernel
theorem dX3_hasPlaces_20 : decode cX3_hasPlaces 20 = .ok (.getfield 16, 3) := by decide +kernel
theorem dX3_hasPlaces_23 : decode cX3_hasPlaces 23 = .ok (.iload_n 1, 1) := by decide +kernel
theorem dX3_hasPlaces_24 : decode cX3_hasPlaces 24 = .ok (.iaload, 1) := by decide +kernel
theorem dX3_hasPlaces_25 : decode cX3_hasPlaces 25 = .ok (.iload_n 2, 1) := by decide +kernel
theorem dX3_hasPlaces_26 : decode cX3_hasPlaces 26 = .ok (.isub, 1) := by decide +kernel
theorem dX3_hasPlaces_27 : decode cX3_hasPlaces 27 = .ok (.if_icmp .gt 7, 3) := by decide +kernel
theorem dX3_hasPlaces_30 : decode cX3_hasPlaces 30 = .ok (.iconst 1, 1) := by decide +kernel
theorem dX3_hasPlaces_31 : decode cX3_hasPlaces 31 = .ok (.goto 4, 3) := by decide +kernel
theorem dX3_hasPlaces_34 : decode cX3_hasPlaces 34 = .ok (.iconst 0, 1) := by decide +kernel
theorem dX3_hasPlaces_35 : decode cX3_hasPlaces 35 = .ok (.ireturn, 1) := by decide +kernel
theorem dX3_lay_0 : decode cX3_lay 0 = .ok (.aload_n 0, 1) := by decide +kernel
theorem dX3_lay_1 : decode cX3_lay 1 = .ok (.getfield 13, 3) := by decide +kernel
theorem dX3_lay_4 : decode cX3_lay 4 = .ok (.iload_n 1, 1) := by decide +kernel
theorem dX3_lay_5 : decode cX3_lay 5 = .ok (.iload_n 2, 1) := by decide +kernel
theorem dX3_lay_6 : decode cX3_lay 6 = .ok (.iastore, 1) := by decide +kernel
theorem dX3_lay_7 : decode cX3_lay 7 = .ok (.aload_n 0, 1) := by decide +kernel
theorem dX3_lay_8 : decode cX3_lay 8 = .ok (.getfield 16, 3) := by decide +kernel
theorem dX3_lay_11 : decode cX3_lay 11 = .ok (.iload_n 1, 1) := by decide +kernel
theorem dX3_lay_12 : decode cX3_lay 12 = .ok (.iload_n 3, 1) := by decide +kernel
theorem dX3_lay_13 : decode cX3_lay 13 = .ok (.iastore, 1) := by decide +kernel
theorem dX3_lay_14 : decode cX3_lay 14 = .ok (.iconst 0, 1) := by decide +kernel
theorem dX3_lay_15 : decode cX3_lay 15 = .ok (.istore 4, 2) := by decide +kernel
theorem dX3_lay_17 : decode cX3_lay 17 = .ok (.iload 4, 2) := by decide +kernel
theorem dX3_lay_19 : decode cX3_lay 19 = .ok (.iload_n 3, 1) := by decide +kernel
theorem dX3_lay_20 : decode cX3_lay 20 = .ok (.if_icmp .ge 22, 3) := by decide +kernel
theorem dX3_lay_23 : decode cX3_lay 23 = .ok (.aload_n 0, 1) := by decide +kernel
theorem dX3_lay_24 : decode cX3_lay 24 = .ok (.getfield 9, 3) := by decide +kernel
theorem dX3_lay_27 : decode cX3_lay 27 = .ok (.iload_n 1, 1) := by decide +kernel
theorem dX3_lay_28 : decode cX3_lay 28 = .ok (.bipush 40, 2) := by decide +kernel
theorem dX3_lay_30 : decode cX3_lay 30 = .ok (.imul, 1) := by decide +kernel
theorem dX3_lay_31 : decode cX3_lay 31 = .ok (.iload 4, 2) := by decide +kernel
theorem dX3_lay_33 : decode cX3_lay 33 = .ok (.iadd, 1) := by decide +kernel
theorem dX3_lay_34 : decode cX3_lay 34 = .ok (.iconst 0, 1) := by decide +kernel
theorem dX3_lay_35 : decode cX3_lay 35 = .ok (.iastore, 1) := by decide +kernel
theorem dX3_lay_36 : decode cX3_lay 36 = .ok (.iinc 4 1, 3) := by decide +kernel
theorem dX3_lay_39 : decode cX3_lay 39 = .ok (.goto (-22), 3) := by decide +kernel
theorem dX3_lay_42 : decode cX3_lay 42 = .ok (.return_, 1) := by decide +kernel
theorem dX3_put_0 : decode cX3_put 0 = .ok (.aload_n 0, 1) := by decide +kernel
theorem dX3_put_1 : decode cX3_put 1 = .ok (.getfield 13, 3) := by decide +kernel
theorem dX3_put_4 : decode cX3_put 4 = .ok (.iload_n 1, 1) := by decide +kernel
theorem dX3_put_5 : decode cX3_put 5 = .ok (.iaload, 1) := by decide +kernel
theorem dX3_put_6 : decode cX3_put 6 = .ok (.iload_n 3, 1) := by decide +kernel
theorem dX3_put_7 : decode cX3_put 7 = .ok (.invokestatic 19, 3) := by decide +kernel
theorem dX3_put_10 : decode cX3_put 10 = .ok (.istore 4, 2) := by decide +kernel
theorem dX3_put_12 : decode cX3_put 12 = .ok (.aload_n 0, 1) := by decide +kernel
theorem dX3_put_13 : decode cX3_put 13 = .ok (.getfield 9, 3) := by decide +kernel
theorem dX3_put_16 : decode cX3_put 16 = .ok (.iload_n 1, 1) := by decide +kernel
theorem dX3_put_17 : decode cX3_put 17 = .ok (.bipush 40, 2) := by decide +kernel
theorem dX3_put_19 : decode cX3_put 19 = .ok (.imul, 1) := by decide +kernel
theorem dX3_put_20 : decode cX3_put 20 = .ok (.iload_n 2, 1) := by decide +kernel
theorem dX3_put_21 : decode cX3_put 21 = .ok (.iadd, 1) := by decide +kernel
theorem dX3_put_22 : decode cX3_put 22 = .ok (.iload 4, 2) := by decide +kernel
theorem dX3_put_24 : decode cX3_put 24 = .ok (.iastore, 1) := by decide +kernel
theorem dX3_put_25 : decode cX3_put 25 = .ok (.iload 4, 2) := by decide +kernel
theorem dX3_put_27 : decode cX3_put 27 = .ok (.ireturn, 1) := by decide +kernel
theorem dX3_item_0 : decode cX3_item 0 = .ok (.aload_n 0, 1) := by decide +kernel
theorem dX3_item_1 : decode cX3_item 1 = .ok (.getfield 9, 3) := by decide +kernel
theorem dX3_item_4 : decode cX3_item 4 = .ok (.iload_n 1, 1) := by decide +kernel
theorem dX3_item_5 : decode cX3_item 5 = .ok (.bipush 40, 2) := by decide +kernel
theorem dX3_item_7 : decode cX3_item 7 = .ok (.imul, 1) := by decide +kernel
theorem dX3_item_8 : decode cX3_item 8 = .ok (.iload_n 2, 1) := by decide +kernel
theorem dX3_item_9 : decode cX3_item 9 = .ok (.iadd, 1) := by decide +kernel
theorem dX3_item_10 : decode cX3_item 10 = .ok (.iaload, 1) := by decide +kernel
theorem dX3_item_11 : decode cX3_item 11 = .ok (.ireturn, 1) := by decide +kernel
theorem dX3_carry_0 : decode cX3_carry 0 = .ok (.aload_n 0, 1) := by decide +kernel
theorem dX3_carry_1 : decode cX3_carry 1 = .ok (.getfield 9, 3) := by decide +kernel
theorem dX3_carry_4 : decode cX3_carry 4 = .ok (.iload_n 1, 1) := by decide +kernel
theorem dX3_carry_5 : decode cX3_carry 5 = .ok (.bipush 40, 2) := by decide +kernel
theorem dX3_carry_7 : decode cX3_carry 7 = .ok (.imul, 1) := by decide +kernel
theorem dX3_carry_8 : decode cX3_carry 8 = .ok (.iload_n 2, 1) := by decide +kernel
theorem dX3_carry_9 : decode cX3_carry 9 = .ok (.iadd, 1) := by decide +kernel
theorem dX3_carry_10 : decode cX3_carry 10 = .ok (.aload_n 0, 1) := by decide +kernel
theorem dX3_carry_11 : decode cX3_carry 11 = .ok (.getfield 9, 3) := by decide +kernel
theorem dX3_carry_14 : decode cX3_carry 14 = .ok (.iload_n 3, 1) := by decide +kernel
theorem dX3_carry_15 : decode cX3_carry 15 = .ok (.bipush 40, 2) := by decide +kernel
theorem dX3_carry_17 : decode cX3_carry 17 = .ok (.imul, 1) := by decide +kernel
theorem dX3_carry_18 : decode cX3_carry 18 = .ok (.iload 4, 2) := by decide +kernel
theorem dX3_carry_20 : decode cX3_carry 20 = .ok (.iadd, 1) := by decide +kernel
theorem dX3_carry_21 : decode cX3_carry 21 = .ok (.iload 5, 2) := by decide +kernel
theorem dX3_carry_23 : decode cX3_carry 23 = .ok (.invokestatic 23, 3) := by decide +kernel
theorem dX3_carry_26 : decode cX3_carry 26 = .ok (.return_, 1) := by decide +kernel
theorem dX3_takeAway_0 : decode cX3_takeAway 0 = .ok (.aload_n 0, 1) := by decide +kernel
theorem dX3_takeAway_1 : decode cX3_takeAway 1 = .ok (.getfield 16, 3) := by decide +kernel
theorem dX3_takeAway_4 : decode cX3_takeAway 4 = .ok (.iload_n 1, 1) := by decide +kernel
theorem dX3_takeAway_5 : decode cX3_takeAway 5 = .ok (.iaload, 1) := by decide +kernel
theorem dX3_takeAway_6 : decode cX3_takeAway 6 = .ok (.istore_n 2, 1) := by decide +kernel
theorem dX3_takeAway_7 : decode cX3_takeAway 7 = .ok (.aload_n 0, 1) := by decide +kernel
theorem dX3_takeAway_8 : decode cX3_takeAway 8 = .ok (.getfield 16, 3) := by decide +kernel
theorem dX3_takeAway_11 : decode cX3_takeAway 11 = .ok (.iload_n 1, 1) := by decide +kernel
theorem dX3_takeAway_12 : decode cX3_takeAway 12 = .ok (.iconst (-1), 1) := by decide +kernel
theorem dX3_takeAway_13 : decode cX3_takeAway 13 = .ok (.iastore, 1) := by decide +kernel
theorem dX3_takeAway_14 : decode cX3_takeAway 14 = .ok (.iload_n 2, 1) := by decide +kernel
theorem dX3_takeAway_15 : decode cX3_takeAway 15 = .ok (.ireturn, 1) := by decide +kernel
theorem dX3_howMany_0 : decode cX3_howMany 0 = .ok (.iconst 0, 1) := by decide +kernel
theorem dX3_howMany_1 : decode cX3_howMany 1 = .ok (.istore_n 1, 1) := by decide +kernel
theorem dX3_howMany_2 : decode cX3_howMany 2 = .ok (.iconst 0, 1) := by decide +kernel
theorem dX3_howMany_3 : decode cX3_howMany 3 = .ok (.istore_n 2, 1) := by decide +kernel
theorem dX3_howMany_4 : decode cX3_howMany 4 = .ok (.iload_n 2, 1) := by decide +kernel
theorem dX3_howMany_5 : decode cX3_howMany 5 = .ok (.bipush 8, 2) := by decide +kernel
theorem dX3_howMany_7 : decode cX3_howMany 7 = .ok (.if_icmp .ge 22, 3) := by decide +kernel
theorem dX3_howMany_10 : decode cX3_howMany 10 = .ok (.aload_n 0, 1) := by decide +kernel
theorem dX3_howMany_11 : decode cX3_howMany 11 = .ok (.getfield 16, 3) := by decide +kernel
theorem dX3_howMany_14 : decode cX3_howMany 14 = .ok (.iload_n 2, 1) := by decide +kernel
theorem dX3_howMany_15 : decode cX3_howMany 15 = .ok (.iaload, 1) := by decide +kernel
theorem dX3_howMany_16 : decode cX3_howMany 16 = .ok (.iconst (-1), 1) := by decide +kernel
theorem dX3_howMany_17 : decode cX3_howMany 17 = .ok (.if_icmp .eq 6, 3) := by decide +kernel
theorem dX3_howMany_20 : decode cX3_howMany 20 = .ok (.iinc 1 1, 3) := by decide +kernel
theorem dX3_howMany_23 : decode cX3_howMany 23 = .ok (.iinc 2 1, 3) := by decide +kernel
theorem dX3_howMany_26 : decode cX3_howMany 26 = .ok (.goto (-22), 3) := by decide +kernel
theorem dX3_howMany_29 : decode cX3_howMany 29 = .ok (.iload_n 1, 1) := by decide +kernel
theorem dX3_howMany_30 : decode cX3_howMany 30 = .ok (.ireturn, 1) := by decide +kernel
theorem dX3_lowestBits_0 : decode cX3_lowestBits 0 = .ok (.iload_n 0, 1) := by decide +kernel
theorem dX3_lowestBits_1 : decode cX3_lowestBits 1 = .ok (.lookupswitch 33 #[(0, 27), (1, 30)], 27) := by decide +kernel
theorem dX3_lowestBits_28 : decode cX3_lowestBits 28 = .ok (.iload_n 1, 1) := by decide +kernel
theorem dX3_lowestBits_29 : decode cX3_lowestBits 29 = .ok (.i2b, 1) := by decide +kernel
theorem dX3_lowestBits_30 : decode cX3_lowestBits 30 = .ok (.ireturn, 1) := by decide +kernel
theorem dX3_lowestBits_31 : decode cX3_lowestBits 31 = .ok (.iload_n 1, 1) := by decide +kernel
theorem dX3_lowestBits_32 : decode cX3_lowestBits 32 = .ok (.i2s, 1) := by decide +kernel
theorem dX3_lowestBits_33 : decode cX3_lowestBits 33 = .ok (.ireturn, 1) := by decide +kernel
theorem dX3_lowestBits_34 : decode cX3_lowestBits 34 = .ok (.iload_n 1, 1) := by decide +kernel
theorem dX3_lowestBits_35 : decode cX3_lowestBits 35 = .ok (.ireturn, 1) := by decide +kernel
theorem dX4_init_0 : decode cX4_init 0 = .ok (.aload_n 0, 1) := by decide +kernel
theorem dX4_init_1 : decode cX4_init 1 = .ok (.invokespecial 3, 3) := by decide +kernel
theorem dX4_init_4 : decode cX4_init 4 = .ok (.aload_n 0, 1) := by decide +kernel
theorem dX4_init_5 : decode cX4_init 5 = .ok (.new 9, 3) := by decide +kernel
theorem dX4_init_8 : decode cX4_init 8 = .ok (.dup, 1) := by decide +kernel
theorem dX4_init_9 : decode cX4_init 9 = .ok (.invokespecial 11, 3) := by decide +kernel
theorem dX4_init_12 : decode cX4_init 12 = .ok (.putfield 12, 3) := by decide +kernel
theorem dX4_init_15 : decode cX4_init 15 = .ok (.return_, 1) := by decide +kernel
theorem dX4_told_0 : decode cX4_told 0 = .ok (.iload_n 1, 1) := by decide +kernel
theorem dX4_told_1 : decode cX4_told 1 = .ok (.ifCond .ne 10, 3) := by decide +kernel
theorem dX4_told_4 : decode cX4_told 4 = .ok (.aload_n 0, 1) := by decide +kernel
theorem dX4_told_5 : decode cX4_told 5 = .ok (.getfield 18, 3) := by decide +kernel
theorem dX4_told_8 : decode cX4_told 8 = .ok (.goto 7, 3) := by decide +kernel
theorem dX4_told_11 : decode cX4_told 11 = .ok (.aload_n 0, 1) := by decide +kernel
theorem dX4_told_12 : decode cX4_told 12 = .ok (.getfield 22, 3) := by decide +kernel
theorem dX4_told_15 : decode cX4_told 15 = .ok (.ireturn, 1) := by decide +kernel
theorem dX4_tell_0 : decode cX4_tell 0 = .ok (.aload_n 0, 1) := by decide +kernel
theorem dX4_tell_1 : decode cX4_tell 1 = .ok (.iload_n 1, 1) := by decide +kernel
theorem dX4_tell_2 : decode cX4_tell 2 = .ok (.putfield 18, 3) := by decide +kernel
theorem dX4_tell_5 : decode cX4_tell 5 = .ok (.aload_n 0, 1) := by decide +kernel
theorem dX4_tell_6 : decode cX4_tell 6 = .ok (.iload_n 2, 1) := by decide +kernel
theorem dX4_tell_7 : decode cX4_tell 7 = .ok (.putfield 22, 3) := by decide +kernel
theorem dX4_tell_10 : decode cX4_tell 10 = .ok (.return_, 1) := by decide +kernel
theorem dX4_look_0 : decode cX4_look 0 = .ok (.aload_n 0, 1) := by decide +kernel
theorem dX4_look_1 : decode cX4_look 1 = .ok (.getfield 12, 3) := by decide +kernel
theorem dX4_look_4 : decode cX4_look 4 = .ok (.aload_n 1, 1) := by decide +kernel
theorem dX4_look_5 : decode cX4_look 5 = .ok (.invokevirtual 25, 3) := by decide +kernel
theorem dX4_look_8 : decode cX4_look 8 = .ok (.aload_n 0, 1) := by decide +kernel
theorem dX4_look_9 : decode cX4_look 9 = .ok (.getfield 12, 3) := by decide +kernel
theorem dX4_look_12 : decode cX4_look 12 = .ok (.iload_n 2, 1) := by decide +kernel
theorem dX4_look_13 : decode cX4_look 13 = .ok (.invokevirtual 29, 3) := by decide +kernel
theorem dX4_look_16 : decode cX4_look 16 = .ok (.return_, 1) := by decide +kernel
theorem dX4_findShiver_0 : decode cX4_findShiver 0 = .ok (.aload_n 0, 1) := by decide +kernel
theorem dX4_findShiver_1 : decode cX4_findShiver 1 = .ok (.ldc 33, 2) := by decide +kernel
theorem dX4_findShiver_3 : decode cX4_findShiver 3 = .ok (.ldc 33, 2) := by decide +kernel
theorem dX4_findShiver_5 : decode cX4_findShiver 5 = .ok (.invokevirtual 34, 3) := by decide +kernel
theorem dX4_findShiver_8 : decode cX4_findShiver 8 = .ok (.aload_n 0, 1) := by decide +kernel
theorem dX4_findShiver_9 : decode cX4_findShiver 9 = .ok (.getfield 12, 3) := by decide +kernel
theorem dX4_findShiver_12 : decode cX4_findShiver 12 = .ok (.aload_n 1, 1) := by decide +kernel
theorem dX4_findShiver_13 : decode cX4_findShiver 13 = .ok (.invokevirtual 25, 3) := by decide +kernel
theorem dX4_findShiver_16 : decode cX4_findShiver 16 = .ok (.iconst 0, 1) := by decide +kernel
theorem dX4_findShiver_17 : decode cX4_findShiver 17 = .ok (.istore_n 3, 1) := by decide +kernel
theorem dX4_findShiver_18 : decode cX4_findShiver 18 = .ok (.iload_n 3, 1) := by decide +kernel
theorem dX4_findShiver_19 : decode cX4_findShiver 19 = .ok (.iload_n 2, 1) := by decide +kernel
theorem dX4_findShiver_20 : decode cX4_findShiver 20 = .ok (.if_icmp .gt 39, 3) := by decide +kernel
theorem dX4_findShiver_23 : decode cX4_findShiver 23 = .ok (.aload_n 0, 1) := by decide +kernel
theorem dX4_findShiver_24 : decode cX4_findShiver 24 = .ok (.getfield 12, 3) := by decide +kernel
theorem dX4_findShiver_27 : decode cX4_findShiver 27 = .ok (.invokevirtual 38, 3) := by decide +kernel
theorem dX4_findShiver_30 : decode cX4_findShiver 30 = .ok (.istore 4, 2) := by decide +kernel
theorem dX4_findShiver_32 : decode cX4_findShiver 32 = .ok (.iload 4, 2) := by decide +kernel
theorem dX4_findShiver_34 : decode cX4_findShiver 34 = .ok (.iconst (-1), 1) := by decide +kernel
theorem dX4_findShiver_35 : decode cX4_findShiver 35 = .ok (.if_icmp .eq 11, 3) := by decide +kernel
theorem dX4_findShiver_38 : decode cX4_findShiver 38 = .ok (.aload_n 0, 1) := by decide +kernel
theorem dX4_findShiver_39 : decode cX4_findShiver 39 = .ok (.iload_n 3, 1) := by decide +kernel
theorem dX4_findShiver_40 : decode cX4_findShiver 40 = .ok (.iload 4, 2) := by decide +kernel
theorem dX4_findShiver_42 : decode cX4_findShiver 42 = .ok (.invokevirtual 34, 3) := by decide +kernel
theorem dX4_findShiver_45 : decode cX4_findShiver 45 = .ok (.return_, 1) := by decide +kernel
theorem dX4_findShiver_46 : decode cX4_findShiver 46 = .ok (.aload_n 0, 1) := by decide +kernel
theorem dX4_findShiver_47 : decode cX4_findShiver 47 = .ok (.getfield 12, 3) := by decide +kernel
theorem dX4_findShiver_50 : decode cX4_findShiver 50 = .ok (.invokevirtual 42, 3) := by decide +kernel
theorem dX4_findShiver_53 : decode cX4_findShiver 53 = .ok (.iinc 3 1, 3) := by decide +kernel
theorem dX4_findShiver_56 : decode cX4_findShiver 56 = .ok (.goto (-38), 3) := by decide +kernel
theorem dX4_findShiver_59 : decode cX4_findShiver 59 = .ok (.return_, 1) := by decide +kernel
theorem dX4_findDoorsToMove_0 : decode cX4_findDoorsToMove 0 = .ok (.aload_n 0, 1) := by decide +kernel
theorem dX4_findDoorsToMove_1 : decode cX4_findDoorsToMove 1 = .ok (.ldc 33, 2) := by decide +kernel
theorem dX4_findDoorsToMove_3 : decode cX4_findDoorsToMove 3 = .ok (.ldc 33, 2) := by decide +kernel
theorem dX4_findDoorsToMove_5 : decode cX4_findDoorsToMove 5 = .ok (.invokevirtual 34, 3) := by decide +kernel
theorem dX4_findDoorsToMove_8 : decode cX4_findDoorsToMove 8 = .ok (.iconst 1, 1) := by decide +kernel
theorem dX4_findDoorsToMove_9 : decode cX4_findDoorsToMove 9 = .ok (.aload_n 1, 1) := by decide +kernel
theorem dX4_findDoorsToMove_10 : decode cX4_findDoorsToMove 10 = .ok (.getfield 45, 3) := by decide +kernel
theorem dX4_findDoorsToMove_13 : decode cX4_findDoorsToMove 13 = .ok (.ishl, 1) := by decide +kernel
theorem dX4_findDoorsToMove_14 : decode cX4_findDoorsToMove 14 = .ok (.istore 6, 2) := by decide +kernel
theorem dX4_findDoorsToMove_16 : decode cX4_findDoorsToMove 16 = .ok (.iconst 0, 1) := by decide +kernel
theorem dX4_findDoorsToMove_17 : decode cX4_findDoorsToMove 17 = .ok (.istore 7, 2) := by decide +kernel
theorem dX4_findDoorsToMove_19 : decode cX4_findDoorsToMove 19 = .ok (.iload 7, 2) := by decide +kernel
theorem dX4_findDoorsToMove_21 : decode cX4_findDoorsToMove 21 = .ok (.aload_n 1, 1) := by decide +kernel
theorem dX4_findDoorsToMove_22 : decode cX4_findDoorsToMove 22 = .ok (.getfield 45, 3) := by decide +kernel
theorem dX4_findDoorsToMove_25 : decode cX4_findDoorsToMove 25 = .ok (.if_icmp .gt 67, 3) := by decide +kernel
theorem dX4_findDoorsToMove_28 : decode cX4_findDoorsToMove 28 = .ok (.iconst 0, 1) := by decide +kernel
theorem dX4_findDoorsToMove_29 : decode cX4_findDoorsToMove 29 = .ok (.istore 8, 2) := by decide +kernel
theorem dX4_findDoorsToMove_31 : decode cX4_findDoorsToMove 31 = .ok (.iload 8, 2) := by decide +kernel
theorem dX4_findDoorsToMove_33 : decode cX4_findDoorsToMove 33 = .ok (.iload 6, 2) := by decide +kernel
theorem dX4_findDoorsToMove_35 : decode cX4_findDoorsToMove 35 = .ok (.if_icmp .ge 51, 3) := by decide +kernel
theorem dX4_findDoorsToMove_38 : decode cX4_findDoorsToMove 38 = .ok (.iload 8, 2) := by decide +kernel
theorem dX4_findDoorsToMove_40 : decode cX4_findDoorsToMove 40 = .ok (.invokestatic 48, 3) := by decide +kernel
theorem dX4_findDoorsToMove_43 : decode cX4_findDoorsToMove 43 = .ok (.iload 7, 2) := by decide +kernel
theorem dX4_findDoorsToMove_45 : decode cX4_findDoorsToMove 45 = .ok (.if_icmp .eq 6, 3) := by decide +kernel
theorem dX4_findDoorsToMove_48 : decode cX4_findDoorsToMove 48 = .ok (.goto 32, 3) := by decide +kernel
theorem dX4_findDoorsToMove_51 : decode cX4_findDoorsToMove 51 = .ok (.aload_n 0, 1) := by decide +kernel
theorem dX4_findDoorsToMove_52 : decode cX4_findDoorsToMove 52 = .ok (.aload_n 1, 1) := by decide +kernel
theorem dX4_findDoorsToMove_53 : decode cX4_findDoorsToMove 53 = .ok (.iload 8, 2) := by decide +kernel
theorem dX4_findDoorsToMove_55 : decode cX4_findDoorsToMove 55 = .ok (.iload 5, 2) := by decide +kernel
theorem dX4_findDoorsToMove_57 : decode cX4_findDoorsToMove 57 = .ok (.invokevirtual 54, 3) := by decide +kernel
theorem dX4_findDoorsToMove_60 : decode cX4_findDoorsToMove 60 = .ok (.aload_n 0, 1) := by decide +kernel
theorem dX4_findDoorsToMove_61 : decode cX4_findDoorsToMove 61 = .ok (.iload_n 2, 1) := by decide +kernel
theorem dX4_findDoorsToMove_62 : decode cX4_findDoorsToMove 62 = .ok (.iload_n 3, 1) := by decide +kernel
theorem dX4_findDoorsToMove_63 : decode cX4_findDoorsToMove 63 = .ok (.iload 4, 2) := by decide +kernel
theorem dX4_findDoorsToMove_65 : decode cX4_findDoorsToMove 65 = .ok (.invokevirtual 58, 3) := by decide +kernel
theorem dX4_findDoorsToMove_68 : decode cX4_findDoorsToMove 68 = .ok (.ifCond .eq 12, 3) := by decide +kernel
theorem dX4_findDoorsToMove_71 : decode cX4_findDoorsToMove 71 = .ok (.aload_n 0, 1) := by decide +kernel
theorem dX4_findDoorsToMove_72 : decode cX4_findDoorsToMove 72 = .ok (.iload 7, 2) := by decide +kernel
theorem dX4_findDoorsToMove_74 : decode cX4_findDoorsToMove 74 = .ok (.iload 8, 2) := by decide +kernel
theorem dX4_findDoorsToMove_76 : decode cX4_findDoorsToMove 76 = .ok (.invokevirtual 34, 3) := by decide +kernel
theorem dX4_findDoorsToMove_79 : decode cX4_findDoorsToMove 79 = .ok (.return_, 1) := by decide +kernel
theorem dX4_findDoorsToMove_80 : decode cX4_findDoorsToMove 80 = .ok (.iinc 8 1, 3) := by decide +kernel
theorem dX4_findDoorsToMove_83 : decode cX4_findDoorsToMove 83 = .ok (.goto (-52), 3) := by decide +kernel
theorem dX4_findDoorsToMove_86 : decode cX4_findDoorsToMove 86 = .ok (.iinc 7 1, 3) := by decide +kernel
theorem dX4_findDoorsToMove_89 : decode cX4_findDoorsToMove 89 = .ok (.goto (-70), 3) := by decide +kernel
theorem dX4_findDoorsToMove_92 : decode cX4_findDoorsToMove 92 = .ok (.return_, 1) := by decide +kernel
theorem dX4_lookWithMoved_0 : decode cX4_lookWithMoved 0 = .ok (.aload_n 0, 1) := by decide +kernel
theorem dX4_lookWithMoved_1 : decode cX4_lookWithMoved 1 = .ok (.getfield 12, 3) := by decide +kernel
theorem dX4_lookWithMoved_4 : decode cX4_lookWithMoved 4 = .ok (.aload_n 1, 1) := by decide +kernel
theorem dX4_lookWithMoved_5 : decode cX4_lookWithMoved 5 = .ok (.invokevirtual 25, 3) := by decide +kernel
theorem dX4_lookWithMoved_8 : decode cX4_lookWithMoved 8 = .ok (.aload_n 0, 1) := by decide +kernel
theorem dX4_lookWithMoved_9 : decode cX4_lookWithMoved 9 = .ok (.getfield 12, 3) := by decide +kernel
theorem dX4_lookWithMoved_12 : decode cX4_lookWithMoved 12 = .ok (.iload_n 2, 1) := by decide +kernel
theorem dX4_lookWithMoved_13 : decode cX4_lookWithMoved 13 = .ok (.invokevirtual 62, 3) := by decide +kernel
theorem dX4_lookWithMoved_16 : decode cX4_lookWithMoved 16 = .ok (.aload_n 0, 1) := by decide +kernel
theorem dX4_lookWithMoved_17 : decode cX4_lookWithMoved 17 = .ok (.getfield 12, 3) := by decide +kernel
theorem dX4_lookWithMoved_20 : decode cX4_lookWithMoved 20 = .ok (.iload_n 3, 1) := by decide +kernel
theorem dX4_lookWithMoved_21 : decode cX4_lookWithMoved 21 = .ok (.invokevirtual 29, 3) := by decide +kernel
theorem dX4_lookWithMoved_24 : decode cX4_lookWithMoved 24 = .ok (.return_, 1) := by decide +kernel
theorem dX4_isColdAndWarm_0 : decode cX4_isColdAndWarm 0 = .ok (.iconst 0, 1) := by decide +kernel
theorem dX4_isColdAndWarm_1 : decode cX4_isColdAndWarm 1 = .ok (.istore 4, 2) := by decide +kernel
theorem dX4_isColdAndWarm_3 : decode cX4_isColdAndWarm 3 = .ok (.iload 4, 2) := by decide +kernel
theorem dX4_isColdAndWarm_5 : decode cX4_isColdAndWarm 5 = .ok (.aload_n 0, 1) := by decide +kernel
theorem dX4_isColdAndWarm_6 : decode cX4_isColdAndWarm 6 = .ok (.getfield 12, 3) := by decide +kernel
theorem dX4_isColdAndWarm_9 : decode cX4_isColdAndWarm 9 = .ok (.getfield 65, 3) := by decide +kernel
theorem dX4_isColdAndWarm_12 : decode cX4_isColdAndWarm 12 = .ok (.if_icmp .ge 42, 3) := by decide +kernel
theorem dX4_isColdAndWarm_15 : decode cX4_isColdAndWarm 15 = .ok (.aload_n 0, 1) := by decide +kernel
theorem dX4_isColdAndWarm_16 : decode cX4_isColdAndWarm 16 = .ok (.getfield 12, 3) := by decide +kernel
theorem dX4_isColdAndWarm_19 : decode cX4_isColdAndWarm 19 = .ok (.getfield 68, 3) := by decide +kernel
theorem dX4_isColdAndWarm_22 : decode cX4_isColdAndWarm 22 = .ok (.iload 4, 2) := by decide +kernel
theorem dX4_isColdAndWarm_24 : decode cX4_isColdAndWarm 24 = .ok (.iaload, 1) := by decide +kernel
theorem dX4_isColdAndWarm_25 : decode cX4_isColdAndWarm 25 = .ok (.iload_n 3, 1) := by decide +kernel
theorem dX4_isColdAndWarm_26 : decode cX4_isColdAndWarm 26 = .ok (.if_icmp .lt 7, 3) := by decide +kernel
theorem dX4_isColdAndWarm_29 : decode cX4_isColdAndWarm 29 = .ok (.iload_n 2, 1) := by decide +kernel
theorem dX4_isColdAndWarm_30 : decode cX4_isColdAndWarm 30 = .ok (.goto 4, 3) := by decide +kernel
theorem dX4_isColdAndWarm_33 : decode cX4_isColdAndWarm 33 = .ok (.iload_n 1, 1) := by decide +kernel
theorem dX4_isColdAndWarm_34 : decode cX4_isColdAndWarm 34 = .ok (.istore 5, 2) := by decide +kernel
theorem dX4_isColdAndWarm_36 : decode cX4_isColdAndWarm 36 = .ok (.iload 5, 2) := by decide +kernel
theorem dX4_isColdAndWarm_38 : decode cX4_isColdAndWarm 38 = .ok (.iload 4, 2) := by decide +kernel
theorem dX4_isColdAndWarm_40 : decode cX4_isColdAndWarm 40 = .ok (.ishr, 1) := by decide +kernel
theorem dX4_isColdAndWarm_41 : decode cX4_isColdAndWarm 41 = .ok (.iconst 1, 1) := by decide +kernel
theorem dX4_isColdAndWarm_42 : decode cX4_isColdAndWarm 42 = .ok (.iand, 1) := by decide +kernel
theorem dX4_isColdAndWarm_43 : decode cX4_isColdAndWarm 43 = .ok (.ifCond .eq 5, 3) := by decide +kernel
theorem dX4_isColdAndWarm_46 : decode cX4_isColdAndWarm 46 = .ok (.iconst 0, 1) := by decide +kernel
theorem dX4_isColdAndWarm_47 : decode cX4_isColdAndWarm 47 = .ok (.ireturn, 1) := by decide +kernel
theorem dX4_isColdAndWarm_48 : decode cX4_isColdAndWarm 48 = .ok (.iinc 4 1, 3) := by decide +kernel
theorem dX4_isColdAndWarm_51 : decode cX4_isColdAndWarm 51 = .ok (.goto (-48), 3) := by decide +kernel
theorem dX4_isColdAndWarm_54 : decode cX4_isColdAndWarm 54 = .ok (.iconst 1, 1) := by decide +kernel
theorem dX4_isColdAndWarm_55 : decode cX4_isColdAndWarm 55 = .ok (.ireturn, 1) := by decide +kernel
theorem dX4_findSeat_0 : decode cX4_findSeat 0 = .ok (.aload_n 0, 1) := by decide +kernel
theorem dX4_findSeat_1 : decode cX4_findSeat 1 = .ok (.ldc 33, 2) := by decide +kernel
theorem dX4_findSeat_3 : decode cX4_findSeat 3 = .ok (.ldc 33, 2) := by decide +kernel
theorem dX4_findSeat_5 : decode cX4_findSeat 5 = .ok (.invokevirtual 34, 3) := by decide +kernel
theorem dX4_findSeat_8 : decode cX4_findSeat 8 = .ok (.iconst 0, 1) := by decide +kernel
theorem dX4_findSeat_9 : decode cX4_findSeat 9 = .ok (.istore 5, 2) := by decide +kernel
theorem dX4_findSeat_11 : decode cX4_findSeat 11 = .ok (.iload 5, 2) := by decide +kernel
theorem dX4_findSeat_13 : decode cX4_findSeat 13 = .ok (.aload_n 1, 1) := by decide +kernel
theorem dX4_findSeat_14 : decode cX4_findSeat 14 = .ok (.getfield 65, 3) := by decide +kernel
theorem dX4_findSeat_17 : decode cX4_findSeat 17 = .ok (.if_icmp .ge 77, 3) := by decide +kernel
theorem dX4_findSeat_20 : decode cX4_findSeat 20 = .ok (.aload_n 0, 1) := by decide +kernel
theorem dX4_findSeat_21 : decode cX4_findSeat 21 = .ok (.getfield 12, 3) := by decide +kernel
theorem dX4_findSeat_24 : decode cX4_findSeat 24 = .ok (.aload_n 1, 1) := by decide +kernel
theorem dX4_findSeat_25 : decode cX4_findSeat 25 = .ok (.invokevirtual 25, 3) := by decide +kernel
theorem dX4_findSeat_28 : decode cX4_findSeat 28 = .ok (.aload_n 0, 1) := by decide +kernel
theorem dX4_findSeat_29 : decode cX4_findSeat 29 = .ok (.getfield 12, 3) := by decide +kernel
theorem dX4_findSeat_32 : decode cX4_findSeat 32 = .ok (.getfield 72, 3) := by decide +kernel
theorem dX4_findSeat_35 : decode cX4_findSeat 35 = .ok (.iload_n 2, 1) := by decide +kernel
theorem dX4_findSeat_36 : decode cX4_findSeat 36 = .ok (.iload 5, 2) := by decide +kernel
theorem dX4_findSeat_38 : decode cX4_findSeat 38 = .ok (.iastore, 1) := by decide +kernel
theorem dX4_findSeat_39 : decode cX4_findSeat 39 = .ok (.aload_n 0, 1) := by decide +kernel
theorem dX4_findSeat_40 : decode cX4_findSeat 40 = .ok (.getfield 12, 3) := by decide +kernel
theorem dX4_findSeat_43 : decode cX4_findSeat 43 = .ok (.iload 4, 2) := by decide +kernel
theorem dX4_findSeat_45 : decode cX4_findSeat 45 = .ok (.invokevirtual 29, 3) := by decide +kernel
theorem dX4_findSeat_48 : decode cX4_findSeat 48 = .ok (.aload_n 0, 1) := by decide +kernel
theorem dX4_findSeat_49 : decode cX4_findSeat 49 = .ok (.getfield 18, 3) := by decide +kernel
theorem dX4_findSeat_52 : decode cX4_findSeat 52 = .ok (.ldc 33, 2) := by decide +kernel
theorem dX4_findSeat_54 : decode cX4_findSeat 54 = .ok (.if_icmp .eq 19, 3) := by decide +kernel
theorem dX4_findSeat_57 : decode cX4_findSeat 57 = .ok (.aload_n 0, 1) := by decide +kernel
theorem dX4_findSeat_58 : decode cX4_findSeat 58 = .ok (.getfield 12, 3) := by decide +kernel
theorem dX4_findSeat_61 : decode cX4_findSeat 61 = .ok (.getfield 68, 3) := by decide +kernel
theorem dX4_findSeat_64 : decode cX4_findSeat 64 = .ok (.iload_n 3, 1) := by decide +kernel
theorem dX4_findSeat_65 : decode cX4_findSeat 65 = .ok (.iaload, 1) := by decide +kernel
theorem dX4_findSeat_66 : decode cX4_findSeat 66 = .ok (.aload_n 0, 1) := by decide +kernel
theorem dX4_findSeat_67 : decode cX4_findSeat 67 = .ok (.getfield 22, 3) := by decide +kernel
theorem dX4_findSeat_70 : decode cX4_findSeat 70 = .ok (.if_icmp .ge 18, 3) := by decide +kernel
theorem dX4_findSeat_73 : decode cX4_findSeat 73 = .ok (.aload_n 0, 1) := by decide +kernel
theorem dX4_findSeat_74 : decode cX4_findSeat 74 = .ok (.iload 5, 2) := by decide +kernel
theorem dX4_findSeat_76 : decode cX4_findSeat 76 = .ok (.aload_n 0, 1) := by decide +kernel
theorem dX4_findSeat_77 : decode cX4_findSeat 77 = .ok (.getfield 12, 3) := by decide +kernel
theorem dX4_findSeat_80 : decode cX4_findSeat 80 = .ok (.getfield 68, 3) := by decide +kernel
theorem dX4_findSeat_83 : decode cX4_findSeat 83 = .ok (.iload_n 3, 1) := by decide +kernel
theorem dX4_findSeat_84 : decode cX4_findSeat 84 = .ok (.iaload, 1) := by decide +kernel
theorem dX4_findSeat_85 : decode cX4_findSeat 85 = .ok (.invokevirtual 34, 3) := by decide +kernel
theorem dX4_findSeat_88 : decode cX4_findSeat 88 = .ok (.iinc 5 1, 3) := by decide +kernel
theorem dX4_findSeat_91 : decode cX4_findSeat 91 = .ok (.goto (-80), 3) := by decide +kernel
theorem dX4_findSeat_94 : decode cX4_findSeat 94 = .ok (.return_, 1) := by decide +kernel
theorem dX4_findSoonest_0 : decode cX4_findSoonest 0 = .ok (.aload_n 0, 1) := by decide +kernel
theorem dX4_findSoonest_1 : decode cX4_findSoonest 1 = .ok (.getfield 12, 3) := by decide +kernel
theorem dX4_findSoonest_4 : decode cX4_findSoonest 4 = .ok (.aload_n 1, 1) := by decide +kernel
theorem dX4_findSoonest_5 : decode cX4_findSoonest 5 = .ok (.invokevirtual 25, 3) := by decide +kernel
theorem dX4_findSoonest_8 : decode cX4_findSoonest 8 = .ok (.aload_n 0, 1) := by decide +kernel
theorem dX4_findSoonest_9 : decode cX4_findSoonest 9 = .ok (.aload_n 0, 1) := by decide +kernel
theorem dX4_findSoonest_10 : decode cX4_findSoonest 10 = .ok (.iload_n 2, 1) := by decide +kernel
theorem dX4_findSoonest_11 : decode cX4_findSoonest 11 = .ok (.iload_n 3, 1) := by decide +kernel
theorem dX4_findSoonest_12 : decode cX4_findSoonest 12 = .ok (.iload 4, 2) := by decide +kernel
theorem dX4_findSoonest_14 : decode cX4_findSoonest 14 = .ok (.invokevirtual 75, 3) := by decide +kernel
theorem dX4_findSoonest_17 : decode cX4_findSoonest 17 = .ok (.ldc 33, 2) := by decide +kernel
theorem dX4_findSoonest_19 : decode cX4_findSoonest 19 = .ok (.invokevirtual 34, 3) := by decide +kernel
theorem dX4_findSoonest_22 : decode cX4_findSoonest 22 = .ok (.iconst 0, 1) := by decide +kernel
theorem dX4_findSoonest_23 : decode cX4_findSoonest 23 = .ok (.istore 5, 2) := by decide +kernel
theorem dX4_findSoonest_25 : decode cX4_findSoonest 25 = .ok (.iload 5, 2) := by decide +kernel
theorem dX4_findSoonest_27 : decode cX4_findSoonest 27 = .ok (.aload_n 1, 1) := by decide +kernel
theorem dX4_findSoonest_28 : decode cX4_findSoonest 28 = .ok (.getfield 79, 3) := by decide +kernel
theorem dX4_findSoonest_31 : decode cX4_findSoonest 31 = .ok (.if_icmp .ge 100, 3) := by decide +kernel
theorem dX4_findSoonest_34 : decode cX4_findSoonest 34 = .ok (.iconst 0, 1) := by decide +kernel
theorem dX4_findSoonest_35 : decode cX4_findSoonest 35 = .ok (.istore 6, 2) := by decide +kernel
theorem dX4_findSoonest_37 : decode cX4_findSoonest 37 = .ok (.iload 6, 2) := by decide +kernel
theorem dX4_findSoonest_39 : decode cX4_findSoonest 39 = .ok (.aload_n 1, 1) := by decide +kernel
theorem dX4_findSoonest_40 : decode cX4_findSoonest 40 = .ok (.getfield 65, 3) := by decide +kernel
theorem dX4_findSoonest_43 : decode cX4_findSoonest 43 = .ok (.if_icmp .ge 82, 3) := by decide +kernel
theorem dX4_findSoonest_46 : decode cX4_findSoonest 46 = .ok (.aload_n 0, 1) := by decide +kernel
theorem dX4_findSoonest_47 : decode cX4_findSoonest 47 = .ok (.getfield 18, 3) := by decide +kernel
theorem dX4_findSoonest_50 : decode cX4_findSoonest 50 = .ok (.ldc 33, 2) := by decide +kernel
theorem dX4_findSoonest_52 : decode cX4_findSoonest 52 = .ok (.if_icmp .ne 8, 3) := by decide +kernel
theorem dX4_findSoonest_55 : decode cX4_findSoonest 55 = .ok (.iload 4, 2) := by decide +kernel
theorem dX4_findSoonest_57 : decode cX4_findSoonest 57 = .ok (.goto 9, 3) := by decide +kernel
theorem dX4_findSoonest_60 : decode cX4_findSoonest 60 = .ok (.aload_n 0, 1) := by decide +kernel
theorem dX4_findSoonest_61 : decode cX4_findSoonest 61 = .ok (.getfield 18, 3) := by decide +kernel
theorem dX4_findSoonest_64 : decode cX4_findSoonest 64 = .ok (.iconst 1, 1) := by decide +kernel
theorem dX4_findSoonest_65 : decode cX4_findSoonest 65 = .ok (.isub, 1) := by decide +kernel
theorem dX4_findSoonest_66 : decode cX4_findSoonest 66 = .ok (.istore 7, 2) := by decide +kernel
theorem dX4_findSoonest_68 : decode cX4_findSoonest 68 = .ok (.aload_n 0, 1) := by decide +kernel
theorem dX4_findSoonest_69 : decode cX4_findSoonest 69 = .ok (.getfield 12, 3) := by decide +kernel
theorem dX4_findSoonest_72 : decode cX4_findSoonest 72 = .ok (.aload_n 1, 1) := by decide +kernel
theorem dX4_findSoonest_73 : decode cX4_findSoonest 73 = .ok (.invokevirtual 25, 3) := by decide +kernel
theorem dX4_findSoonest_76 : decode cX4_findSoonest 76 = .ok (.aload_n 0, 1) := by decide +kernel
theorem dX4_findSoonest_77 : decode cX4_findSoonest 77 = .ok (.getfield 12, 3) := by decide +kernel
theorem dX4_findSoonest_80 : decode cX4_findSoonest 80 = .ok (.getfield 72, 3) := by decide +kernel
theorem dX4_findSoonest_83 : decode cX4_findSoonest 83 = .ok (.iload 5, 2) := by decide +kernel
theorem dX4_findSoonest_85 : decode cX4_findSoonest 85 = .ok (.iload 6, 2) := by decide +kernel
theorem dX4_findSoonest_87 : decode cX4_findSoonest 87 = .ok (.iastore, 1) := by decide +kernel
theorem dX4_findSoonest_88 : decode cX4_findSoonest 88 = .ok (.aload_n 0, 1) := by decide +kernel
theorem dX4_findSoonest_89 : decode cX4_findSoonest 89 = .ok (.iload_n 2, 1) := by decide +kernel
theorem dX4_findSoonest_90 : decode cX4_findSoonest 90 = .ok (.iload_n 3, 1) := by decide +kernel
theorem dX4_findSoonest_91 : decode cX4_findSoonest 91 = .ok (.iload 7, 2) := by decide +kernel
theorem dX4_findSoonest_93 : decode cX4_findSoonest 93 = .ok (.invokevirtual 75, 3) := by decide +kernel
theorem dX4_findSoonest_96 : decode cX4_findSoonest 96 = .ok (.istore 8, 2) := by decide +kernel
theorem dX4_findSoonest_98 : decode cX4_findSoonest 98 = .ok (.iload 8, 2) := by decide +kernel
theorem dX4_findSoonest_100 : decode cX4_findSoonest 100 = .ok (.ldc 33, 2) := by decide +kernel
theorem dX4_findSoonest_102 : decode cX4_findSoonest 102 = .ok (.if_icmp .eq 17, 3) := by decide +kernel
theorem dX4_findSoonest_105 : decode cX4_findSoonest 105 = .ok (.aload_n 0, 1) := by decide +kernel
theorem dX4_findSoonest_106 : decode cX4_findSoonest 106 = .ok (.iload 8, 2) := by decide +kernel
theorem dX4_findSoonest_108 : decode cX4_findSoonest 108 = .ok (.bipush 10, 2) := by decide +kernel
theorem dX4_findSoonest_110 : decode cX4_findSoonest 110 = .ok (.iload 5, 2) := by decide +kernel
theorem dX4_findSoonest_112 : decode cX4_findSoonest 112 = .ok (.imul, 1) := by decide +kernel
theorem dX4_findSoonest_113 : decode cX4_findSoonest 113 = .ok (.iload 6, 2) := by decide +kernel
theorem dX4_findSoonest_115 : decode cX4_findSoonest 115 = .ok (.iadd, 1) := by decide +kernel
theorem dX4_findSoonest_116 : decode cX4_findSoonest 116 = .ok (.invokevirtual 34, 3) := by decide +kernel
theorem dX4_findSoonest_119 : decode cX4_findSoonest 119 = .ok (.iinc 6 1, 3) := by decide +kernel
theorem dX4_findSoonest_122 : decode cX4_findSoonest 122 = .ok (.goto (-85), 3) := by decide +kernel
theorem dX4_findSoonest_125 : decode cX4_findSoonest 125 = .ok (.iinc 5 1, 3) := by decide +kernel
theorem dX4_findSoonest_128 : decode cX4_findSoonest 128 = .ok (.goto (-103), 3) := by decide +kernel
theorem dX4_findSoonest_131 : decode cX4_findSoonest 131 = .ok (.return_, 1) := by decide +kernel
theorem dX4_hoursUntil_0 : decode cX4_hoursUntil 0 = .ok (.iconst 0, 1) := by decide +kernel
theorem dX4_hoursUntil_1 : decode cX4_hoursUntil 1 = .ok (.istore 4, 2) := by decide +kernel
theorem dX4_hoursUntil_3 : decode cX4_hoursUntil 3 = .ok (.iload 4, 2) := by decide +kernel
theorem dX4_hoursUntil_5 : decode cX4_hoursUntil 5 = .ok (.iload_n 3, 1) := by decide +kernel
theorem dX4_hoursUntil_6 : decode cX4_hoursUntil 6 = .ok (.if_icmp .gt 32, 3) := by decide +kernel
theorem dX4_hoursUntil_9 : decode cX4_hoursUntil 9 = .ok (.aload_n 0, 1) := by decide +kernel
theorem dX4_hoursUntil_10 : decode cX4_hoursUntil 10 = .ok (.getfield 12, 3) := by decide +kernel
theorem dX4_hoursUntil_13 : decode cX4_hoursUntil 13 = .ok (.getfield 68, 3) := by decide +kernel
theorem dX4_hoursUntil_16 : decode cX4_hoursUntil 16 = .ok (.iload_n 1, 1) := by decide +kernel
theorem dX4_hoursUntil_17 : decode cX4_hoursUntil 17 = .ok (.iaload, 1) := by decide +kernel
theorem dX4_hoursUntil_18 : decode cX4_hoursUntil 18 = .ok (.iload_n 2, 1) := by decide +kernel
theorem dX4_hoursUntil_19 : decode cX4_hoursUntil 19 = .ok (.if_icmp .lt 6, 3) := by decide +kernel
theorem dX4_hoursUntil_22 : decode cX4_hoursUntil 22 = .ok (.iload 4, 2) := by decide +kernel
theorem dX4_hoursUntil_24 : decode cX4_hoursUntil 24 = .ok (.ireturn, 1) := by decide +kernel
theorem dX4_hoursUntil_25 : decode cX4_hoursUntil 25 = .ok (.aload_n 0, 1) := by decide +kernel
theorem dX4_hoursUntil_26 : decode cX4_hoursUntil 26 = .ok (.getfield 12, 3) := by decide +kernel
theorem dX4_hoursUntil_29 : decode cX4_hoursUntil 29 = .ok (.invokevirtual 42, 3) := by decide +kernel
theorem dX4_hoursUntil_32 : decode cX4_hoursUntil 32 = .ok (.iinc 4 1, 3) := by decide +kernel
theorem dX4_hoursUntil_35 : decode cX4_hoursUntil 35 = .ok (.goto (-32), 3) := by decide +kernel
theorem dX4_hoursUntil_38 : decode cX4_hoursUntil 38 = .ok (.ldc 33, 2) := by decide +kernel
theorem dX4_hoursUntil_40 : decode cX4_hoursUntil 40 = .ok (.ireturn, 1) := by decide +kernel
theorem dX4_roomsItCameInto_0 : decode cX4_roomsItCameInto 0 = .ok (.iconst 0, 1) := by decide +kernel
theorem dX4_roomsItCameInto_1 : decode cX4_roomsItCameInto 1 = .ok (.istore 6, 2) := by decide +kernel
theorem dX4_roomsItCameInto_3 : decode cX4_roomsItCameInto 3 = .ok (.iconst 0, 1) := by decide +kernel
theorem dX4_roomsItCameInto_4 : decode cX4_roomsItCameInto 4 = .ok (.istore 7, 2) := by decide +kernel
theorem dX4_roomsItCameInto_6 : decode cX4_roomsItCameInto 6 = .ok (.iload 7, 2) := by decide +kernel
theorem dX4_roomsItCameInto_8 : decode cX4_roomsItCameInto 8 = .ok (.aload_n 1, 1) := by decide +kernel
theorem dX4_roomsItCameInto_9 : decode cX4_roomsItCameInto 9 = .ok (.getfield 65, 3) := by decide +kernel
theorem dX4_roomsItCameInto_12 : decode cX4_roomsItCameInto 12 = .ok (.if_icmp .ge 48, 3) := by decide +kernel
theorem dX4_roomsItCameInto_15 : decode cX4_roomsItCameInto 15 = .ok (.aload_n 0, 1) := by decide +kernel
theorem dX4_roomsItCameInto_16 : decode cX4_roomsItCameInto 16 = .ok (.getfield 12, 3) := by decide +kernel
theorem dX4_roomsItCameInto_19 : decode cX4_roomsItCameInto 19 = .ok (.aload_n 1, 1) := by decide +kernel
theorem dX4_roomsItCameInto_20 : decode cX4_roomsItCameInto 20 = .ok (.invokevirtual 25, 3) := by decide +kernel
theorem dX4_roomsItCameInto_23 : decode cX4_roomsItCameInto 23 = .ok (.aload_n 0, 1) := by decide +kernel
theorem dX4_roomsItCameInto_24 : decode cX4_roomsItCameInto 24 = .ok (.getfield 12, 3) := by decide +kernel
theorem dX4_roomsItCameInto_27 : decode cX4_roomsItCameInto 27 = .ok (.iload 7, 2) := by decide +kernel
theorem dX4_roomsItCameInto_29 : decode cX4_roomsItCameInto 29 = .ok (.putfield 82, 3) := by decide +kernel
theorem dX4_roomsItCameInto_32 : decode cX4_roomsItCameInto 32 = .ok (.aload_n 0, 1) := by decide +kernel
theorem dX4_roomsItCameInto_33 : decode cX4_roomsItCameInto 33 = .ok (.aload_n 2, 1) := by decide +kernel
theorem dX4_roomsItCameInto_34 : decode cX4_roomsItCameInto 34 = .ok (.iload_n 3, 1) := by decide +kernel
theorem dX4_roomsItCameInto_35 : decode cX4_roomsItCameInto 35 = .ok (.iload 4, 2) := by decide +kernel
theorem dX4_roomsItCameInto_37 : decode cX4_roomsItCameInto 37 = .ok (.iload 5, 2) := by decide +kernel
theorem dX4_roomsItCameInto_39 : decode cX4_roomsItCameInto 39 = .ok (.invokevirtual 85, 3) := by decide +kernel
theorem dX4_roomsItCameInto_42 : decode cX4_roomsItCameInto 42 = .ok (.ifCond .eq 12, 3) := by decide +kernel
theorem dX4_roomsItCameInto_45 : decode cX4_roomsItCameInto 45 = .ok (.iload 6, 2) := by decide +kernel
theorem dX4_roomsItCameInto_47 : decode cX4_roomsItCameInto 47 = .ok (.iconst 1, 1) := by decide +kernel
theorem dX4_roomsItCameInto_48 : decode cX4_roomsItCameInto 48 = .ok (.iload 7, 2) := by decide +kernel
theorem dX4_roomsItCameInto_50 : decode cX4_roomsItCameInto 50 = .ok (.ishl, 1) := by decide +kernel
theorem dX4_roomsItCameInto_51 : decode cX4_roomsItCameInto 51 = .ok (.ior, 1) := by decide +kernel
theorem dX4_roomsItCameInto_52 : decode cX4_roomsItCameInto 52 = .ok (.istore 6, 2) := by decide +kernel
theorem dX4_roomsItCameInto_54 : decode cX4_roomsItCameInto 54 = .ok (.iinc 7 1, 3) := by decide +kernel
theorem dX4_roomsItCameInto_57 : decode cX4_roomsItCameInto 57 = .ok (.goto (-51), 3) := by decide +kernel
theorem dX4_roomsItCameInto_60 : decode cX4_roomsItCameInto 60 = .ok (.iload 6, 2) := by decide +kernel
theorem dX4_roomsItCameInto_62 : decode cX4_roomsItCameInto 62 = .ok (.ireturn, 1) := by decide +kernel
theorem dX4_kindsItMayBe_0 : decode cX4_kindsItMayBe 0 = .ok (.iconst 0, 1) := by decide +kernel
theorem dX4_kindsItMayBe_1 : decode cX4_kindsItMayBe 1 = .ok (.istore 7, 2) := by decide +kernel
theorem dX4_kindsItMayBe_3 : decode cX4_kindsItMayBe 3 = .ok (.iconst 1, 1) := by decide +kernel
theorem dX4_kindsItMayBe_4 : decode cX4_kindsItMayBe 4 = .ok (.istore 8, 2) := by decide +kernel
theorem dX4_kindsItMayBe_6 : decode cX4_kindsItMayBe 6 = .ok (.iload 8, 2) := by decide +kernel
theorem dX4_kindsItMayBe_8 : decode cX4_kindsItMayBe 8 = .ok (.iconst 5, 1) := by decide +kernel
theorem dX4_kindsItMayBe_9 : decode cX4_kindsItMayBe 9 = .ok (.if_icmp .gt 51, 3) := by decide +kernel
theorem dX4_kindsItMayBe_12 : decode cX4_kindsItMayBe 12 = .ok (.aload_n 0, 1) := by decide +kernel
theorem dX4_kindsItMayBe_13 : decode cX4_kindsItMayBe 13 = .ok (.getfield 12, 3) := by decide +kernel
theorem dX4_kindsItMayBe_16 : decode cX4_kindsItMayBe 16 = .ok (.aload_n 1, 1) := by decide +kernel
theorem dX4_kindsItMayBe_17 : decode cX4_kindsItMayBe 17 = .ok (.invokevirtual 25, 3) := by decide +kernel
theorem dX4_kindsItMayBe_20 : decode cX4_kindsItMayBe 20 = .ok (.aload_n 0, 1) := by decide +kernel
theorem dX4_kindsItMayBe_21 : decode cX4_kindsItMayBe 21 = .ok (.getfield 12, 3) := by decide +kernel
theorem dX4_kindsItMayBe_24 : decode cX4_kindsItMayBe 24 = .ok (.getfield 89, 3) := by decide +kernel
theorem dX4_kindsItMayBe_27 : decode cX4_kindsItMayBe 27 = .ok (.iload_n 2, 1) := by decide +kernel
theorem dX4_kindsItMayBe_28 : decode cX4_kindsItMayBe 28 = .ok (.iload 8, 2) := by decide +kernel
theorem dX4_kindsItMayBe_30 : decode cX4_kindsItMayBe 30 = .ok (.iastore, 1) := by decide +kernel
theorem dX4_kindsItMayBe_31 : decode cX4_kindsItMayBe 31 = .ok (.aload_n 0, 1) := by decide +kernel
theorem dX4_kindsItMayBe_32 : decode cX4_kindsItMayBe 32 = .ok (.aload_n 3, 1) := by decide +kernel
theorem dX4_kindsItMayBe_33 : decode cX4_kindsItMayBe 33 = .ok (.iload 4, 2) := by decide +kernel
theorem dX4_kindsItMayBe_35 : decode cX4_kindsItMayBe 35 = .ok (.iload 5, 2) := by decide +kernel
theorem dX4_kindsItMayBe_37 : decode cX4_kindsItMayBe 37 = .ok (.iload 6, 2) := by decide +kernel
theorem dX4_kindsItMayBe_39 : decode cX4_kindsItMayBe 39 = .ok (.invokevirtual 85, 3) := by decide +kernel
theorem dX4_kindsItMayBe_42 : decode cX4_kindsItMayBe 42 = .ok (.ifCond .eq 12, 3) := by decide +kernel
theorem dX4_kindsItMayBe_45 : decode cX4_kindsItMayBe 45 = .ok (.iload 7, 2) := by decide +kernel
theorem dX4_kindsItMayBe_47 : decode cX4_kindsItMayBe 47 = .ok (.iconst 1, 1) := by decide +kernel
theorem dX4_kindsItMayBe_48 : decode cX4_kindsItMayBe 48 = .ok (.iload 8, 2) := by decide +kernel
theorem dX4_kindsItMayBe_50 : decode cX4_kindsItMayBe 50 = .ok (.ishl, 1) := by decide +kernel
theorem dX4_kindsItMayBe_51 : decode cX4_kindsItMayBe 51 = .ok (.ior, 1) := by decide +kernel
theorem dX4_kindsItMayBe_52 : decode cX4_kindsItMayBe 52 = .ok (.istore 7, 2) := by decide +kernel
theorem dX4_kindsItMayBe_54 : decode cX4_kindsItMayBe 54 = .ok (.iinc 8 1, 3) := by decide +kernel
theorem dX4_kindsItMayBe_57 : decode cX4_kindsItMayBe 57 = .ok (.goto (-51), 3) := by decide +kernel
theorem dX4_kindsItMayBe_60 : decode cX4_kindsItMayBe 60 = .ok (.iload 7, 2) := by decide +kernel
theorem dX4_kindsItMayBe_62 : decode cX4_kindsItMayBe 62 = .ok (.ireturn, 1) := by decide +kernel
theorem dX4_isAsTold_0 : decode cX4_isAsTold 0 = .ok (.iload_n 3, 1) := by decide +kernel
theorem dX4_isAsTold_1 : decode cX4_isAsTold 1 = .ok (.istore 5, 2) := by decide +kernel
theorem dX4_isAsTold_3 : decode cX4_isAsTold 3 = .ok (.iconst 0, 1) := by decide +kernel
theorem dX4_isAsTold_4 : decode cX4_isAsTold 4 = .ok (.istore 6, 2) := by decide +kernel
theorem dX4_isAsTold_6 : decode cX4_isAsTold 6 = .ok (.iload 6, 2) := by decide +kernel
theorem dX4_isAsTold_8 : decode cX4_isAsTold 8 = .ok (.iload 4, 2) := by decide +kernel
theorem dX4_isAsTold_10 : decode cX4_isAsTold 10 = .ok (.if_icmp .ge 62, 3) := by decide +kernel
theorem dX4_isAsTold_13 : decode cX4_isAsTold 13 = .ok (.aload_n 0, 1) := by decide +kernel
theorem dX4_isAsTold_14 : decode cX4_isAsTold 14 = .ok (.getfield 12, 3) := by decide +kernel
theorem dX4_isAsTold_17 : decode cX4_isAsTold 17 = .ok (.invokevirtual 42, 3) := by decide +kernel
theorem dX4_isAsTold_20 : decode cX4_isAsTold 20 = .ok (.iconst 0, 1) := by decide +kernel
theorem dX4_isAsTold_21 : decode cX4_isAsTold 21 = .ok (.istore 7, 2) := by decide +kernel
theorem dX4_isAsTold_23 : decode cX4_isAsTold 23 = .ok (.iload 7, 2) := by decide +kernel
theorem dX4_isAsTold_25 : decode cX4_isAsTold 25 = .ok (.aload_n 0, 1) := by decide +kernel
theorem dX4_isAsTold_26 : decode cX4_isAsTold 26 = .ok (.getfield 12, 3) := by decide +kernel
theorem dX4_isAsTold_29 : decode cX4_isAsTold 29 = .ok (.getfield 65, 3) := by decide +kernel
theorem dX4_isAsTold_32 : decode cX4_isAsTold 32 = .ok (.if_icmp .ge 34, 3) := by decide +kernel
theorem dX4_isAsTold_35 : decode cX4_isAsTold 35 = .ok (.aload_n 1, 1) := by decide +kernel
theorem dX4_isAsTold_36 : decode cX4_isAsTold 36 = .ok (.iload_n 2, 1) := by decide +kernel
theorem dX4_isAsTold_37 : decode cX4_isAsTold 37 = .ok (.iload 5, 2) := by decide +kernel
theorem dX4_isAsTold_39 : decode cX4_isAsTold 39 = .ok (.invokevirtual 92, 3) := by decide +kernel
theorem dX4_isAsTold_42 : decode cX4_isAsTold 42 = .ok (.aload_n 0, 1) := by decide +kernel
theorem dX4_isAsTold_43 : decode cX4_isAsTold 43 = .ok (.getfield 12, 3) := by decide +kernel
theorem dX4_isAsTold_46 : decode cX4_isAsTold 46 = .ok (.getfield 68, 3) := by decide +kernel
theorem dX4_isAsTold_49 : decode cX4_isAsTold 49 = .ok (.iload 7, 2) := by decide +kernel
theorem dX4_isAsTold_51 : decode cX4_isAsTold 51 = .ok (.iaload, 1) := by decide +kernel
theorem dX4_isAsTold_52 : decode cX4_isAsTold 52 = .ok (.if_icmp .eq 5, 3) := by decide +kernel
theorem dX4_isAsTold_55 : decode cX4_isAsTold 55 = .ok (.iconst 0, 1) := by decide +kernel
theorem dX4_isAsTold_56 : decode cX4_isAsTold 56 = .ok (.ireturn, 1) := by decide +kernel
theorem dX4_isAsTold_57 : decode cX4_isAsTold 57 = .ok (.iinc 5 1, 3) := by decide +kernel
theorem dX4_isAsTold_60 : decode cX4_isAsTold 60 = .ok (.iinc 7 1, 3) := by decide +kernel
theorem dX4_isAsTold_63 : decode cX4_isAsTold 63 = .ok (.goto (-40), 3) := by decide +kernel
theorem dX4_isAsTold_66 : decode cX4_isAsTold 66 = .ok (.iinc 6 1, 3) := by decide +kernel
theorem dX4_isAsTold_69 : decode cX4_isAsTold 69 = .ok (.goto (-63), 3) := by decide +kernel
theorem dX4_isAsTold_72 : decode cX4_isAsTold 72 = .ok (.iconst 1, 1) := by decide +kernel
theorem dX4_isAsTold_73 : decode cX4_isAsTold 73 = .ok (.ireturn, 1) := by decide +kernel
theorem dX4_findDoorsToShut_0 : decode cX4_findDoorsToShut 0 = .ok (.aload_n 0, 1) := by decide +kernel
theorem dX4_findDoorsToShut_1 : decode cX4_findDoorsToShut 1 = .ok (.ldc 33, 2) := by decide +kernel
theorem dX4_findDoorsToShut_3 : decode cX4_findDoorsToShut 3 = .ok (.ldc 33, 2) := by decide +kernel
theorem dX4_findDoorsToShut_5 : decode cX4_findDoorsToShut 5 = .ok (.invokevirtual 34, 3) := by decide +kernel
theorem dX4_findDoorsToShut_8 : decode cX4_findDoorsToShut 8 = .ok (.iload_n 2, 1) := by decide +kernel
theorem dX4_findDoorsToShut_9 : decode cX4_findDoorsToShut 9 = .ok (.iload_n 3, 1) := by decide +kernel
theorem dX4_findDoorsToShut_10 : decode cX4_findDoorsToShut 10 = .ok (.if_icmp .ne 4, 3) := by decide +kernel
theorem dX4_findDoorsToShut_13 : decode cX4_findDoorsToShut 13 = .ok (.return_, 1) := by decide +kernel
theorem dX4_findDoorsToShut_14 : decode cX4_findDoorsToShut 14 = .ok (.iconst 1, 1) := by decide +kernel
theorem dX4_findDoorsToShut_15 : decode cX4_findDoorsToShut 15 = .ok (.aload_n 1, 1) := by decide +kernel
theorem dX4_findDoorsToShut_16 : decode cX4_findDoorsToShut 16 = .ok (.getfield 45, 3) := by decide +kernel
theorem dX4_findDoorsToShut_19 : decode cX4_findDoorsToShut 19 = .ok (.ishl, 1) := by decide +kernel
theorem dX4_findDoorsToShut_20 : decode cX4_findDoorsToShut 20 = .ok (.istore 4, 2) := by decide +kernel
theorem dX4_findDoorsToShut_22 : decode cX4_findDoorsToShut 22 = .ok (.iconst 0, 1) := by decide +kernel
theorem dX4_findDoorsToShut_23 : decode cX4_findDoorsToShut 23 = .ok (.istore 5, 2) := by decide +kernel
theorem dX4_findDoorsToShut_25 : decode cX4_findDoorsToShut 25 = .ok (.iload 5, 2) := by decide +kernel
theorem dX4_findDoorsToShut_27 : decode cX4_findDoorsToShut 27 = .ok (.iload 4, 2) := by decide +kernel
theorem dX4_findDoorsToShut_29 : decode cX4_findDoorsToShut 29 = .ok (.if_icmp .ge 77, 3) := by decide +kernel
theorem dX4_findDoorsToShut_32 : decode cX4_findDoorsToShut 32 = .ok (.iload 5, 2) := by decide +kernel
theorem dX4_findDoorsToShut_34 : decode cX4_findDoorsToShut 34 = .ok (.invokestatic 48, 3) := by decide +kernel
theorem dX4_findDoorsToShut_37 : decode cX4_findDoorsToShut 37 = .ok (.istore 6, 2) := by decide +kernel
theorem dX4_findDoorsToShut_39 : decode cX4_findDoorsToShut 39 = .ok (.aload_n 0, 1) := by decide +kernel
theorem dX4_findDoorsToShut_40 : decode cX4_findDoorsToShut 40 = .ok (.getfield 18, 3) := by decide +kernel
theorem dX4_findDoorsToShut_43 : decode cX4_findDoorsToShut 43 = .ok (.ldc 33, 2) := by decide +kernel
theorem dX4_findDoorsToShut_45 : decode cX4_findDoorsToShut 45 = .ok (.if_icmp .eq 12, 3) := by decide +kernel
theorem dX4_findDoorsToShut_48 : decode cX4_findDoorsToShut 48 = .ok (.iload 6, 2) := by decide +kernel
theorem dX4_findDoorsToShut_50 : decode cX4_findDoorsToShut 50 = .ok (.aload_n 0, 1) := by decide +kernel
theorem dX4_findDoorsToShut_51 : decode cX4_findDoorsToShut 51 = .ok (.getfield 18, 3) := by decide +kernel
theorem dX4_findDoorsToShut_54 : decode cX4_findDoorsToShut 54 = .ok (.if_icmp .ge 7, 3) := by decide +kernel
theorem dX4_findDoorsToShut_57 : decode cX4_findDoorsToShut 57 = .ok (.iconst 1, 1) := by decide +kernel
theorem dX4_findDoorsToShut_58 : decode cX4_findDoorsToShut 58 = .ok (.goto 4, 3) := by decide +kernel
theorem dX4_findDoorsToShut_61 : decode cX4_findDoorsToShut 61 = .ok (.iconst 0, 1) := by decide +kernel
theorem dX4_findDoorsToShut_62 : decode cX4_findDoorsToShut 62 = .ok (.istore 7, 2) := by decide +kernel
theorem dX4_findDoorsToShut_64 : decode cX4_findDoorsToShut 64 = .ok (.iload 7, 2) := by decide +kernel
theorem dX4_findDoorsToShut_66 : decode cX4_findDoorsToShut 66 = .ok (.ifCond .eq 34, 3) := by decide +kernel
theorem dX4_findDoorsToShut_69 : decode cX4_findDoorsToShut 69 = .ok (.iload 5, 2) := by decide +kernel
theorem dX4_findDoorsToShut_71 : decode cX4_findDoorsToShut 71 = .ok (.aload_n 1, 1) := by decide +kernel
theorem dX4_findDoorsToShut_72 : decode cX4_findDoorsToShut 72 = .ok (.getfield 98, 3) := by decide +kernel
theorem dX4_findDoorsToShut_75 : decode cX4_findDoorsToShut 75 = .ok (.iconst (-1), 1) := by decide +kernel
theorem dX4_findDoorsToShut_76 : decode cX4_findDoorsToShut 76 = .ok (.ixor, 1) := by decide +kernel
theorem dX4_findDoorsToShut_77 : decode cX4_findDoorsToShut 77 = .ok (.iand, 1) := by decide +kernel
theorem dX4_findDoorsToShut_78 : decode cX4_findDoorsToShut 78 = .ok (.ifCond .ne 22, 3) := by decide +kernel
theorem dX4_findDoorsToShut_81 : decode cX4_findDoorsToShut 81 = .ok (.aload_n 1, 1) := by decide +kernel
theorem dX4_findDoorsToShut_82 : decode cX4_findDoorsToShut 82 = .ok (.iload 5, 2) := by decide +kernel
theorem dX4_findDoorsToShut_84 : decode cX4_findDoorsToShut 84 = .ok (.iload_n 2, 1) := by decide +kernel
theorem dX4_findDoorsToShut_85 : decode cX4_findDoorsToShut 85 = .ok (.iload_n 3, 1) := by decide +kernel
theorem dX4_findDoorsToShut_86 : decode cX4_findDoorsToShut 86 = .ok (.invokestatic 101, 3) := by decide +kernel
theorem dX4_findDoorsToShut_89 : decode cX4_findDoorsToShut 89 = .ok (.ifCond .eq 11, 3) := by decide +kernel
theorem dX4_findDoorsToShut_92 : decode cX4_findDoorsToShut 92 = .ok (.aload_n 0, 1) := by decide +kernel
theorem dX4_findDoorsToShut_93 : decode cX4_findDoorsToShut 93 = .ok (.iload 6, 2) := by decide +kernel
theorem dX4_findDoorsToShut_95 : decode cX4_findDoorsToShut 95 = .ok (.iload 5, 2) := by decide +kernel
theorem dX4_findDoorsToShut_97 : decode cX4_findDoorsToShut 97 = .ok (.invokevirtual 34, 3) := by decide +kernel
theorem dX4_findDoorsToShut_100 : decode cX4_findDoorsToShut 100 = .ok (.iinc 5 1, 3) := by decide +kernel
theorem dX4_findDoorsToShut_103 : decode cX4_findDoorsToShut 103 = .ok (.goto (-78), 3) := by decide +kernel
theorem dX4_findDoorsToShut_106 : decode cX4_findDoorsToShut 106 = .ok (.return_, 1) := by decide +kernel
theorem dX4_isPartedBy_0 : decode cX4_isPartedBy 0 = .ok (.aload_n 0, 1) := by decide +kernel
theorem dX4_isPartedBy_1 : decode cX4_isPartedBy 1 = .ok (.iload_n 2, 1) := by decide +kernel
theorem dX4_isPartedBy_2 : decode cX4_isPartedBy 2 = .ok (.aload_n 0, 1) := by decide +kernel
theorem dX4_isPartedBy_3 : decode cX4_isPartedBy 3 = .ok (.getfield 98, 3) := by decide +kernel
theorem dX4_isPartedBy_6 : decode cX4_isPartedBy 6 = .ok (.iload_n 1, 1) := by decide +kernel
theorem dX4_isPartedBy_7 : decode cX4_isPartedBy 7 = .ok (.iconst (-1), 1) := by decide +kernel
theorem dX4_isPartedBy_8 : decode cX4_isPartedBy 8 = .ok (.ixor, 1) := by decide +kernel
theorem dX4_isPartedBy_9 : decode cX4_isPartedBy 9 = .ok (.iand, 1) := by decide +kernel
theorem dX4_isPartedBy_10 : decode cX4_isPartedBy 10 = .ok (.invokevirtual 105, 3) := by decide +kernel
theorem dX4_isPartedBy_13 : decode cX4_isPartedBy 13 = .ok (.iload_n 3, 1) := by decide +kernel
theorem dX4_isPartedBy_14 : decode cX4_isPartedBy 14 = .ok (.ishr, 1) := by decide +kernel
theorem dX4_isPartedBy_15 : decode cX4_isPartedBy 15 = .ok (.iconst 1, 1) := by decide +kernel
theorem dX4_isPartedBy_16 : decode cX4_isPartedBy 16 = .ok (.iand, 1) := by decide +kernel
theorem dX4_isPartedBy_17 : decode cX4_isPartedBy 17 = .ok (.ifCond .ne 7, 3) := by decide +kernel
theorem dX4_isPartedBy_20 : decode cX4_isPartedBy 20 = .ok (.iconst 1, 1) := by decide +kernel
theorem dX4_isPartedBy_21 : decode cX4_isPartedBy 21 = .ok (.goto 4, 3) := by decide +kernel
theorem dX4_isPartedBy_24 : decode cX4_isPartedBy 24 = .ok (.iconst 0, 1) := by decide +kernel
theorem dX4_isPartedBy_25 : decode cX4_isPartedBy 25 = .ok (.ireturn, 1) := by decide +kernel
theorem dX4_findColdest_0 : decode cX4_findColdest 0 = .ok (.aload_n 0, 1) := by decide +kernel
theorem dX4_findColdest_1 : decode cX4_findColdest 1 = .ok (.aload_n 1, 1) := by decide +kernel
theorem dX4_findColdest_2 : decode cX4_findColdest 2 = .ok (.iload_n 2, 1) := by decide +kernel
theorem dX4_findColdest_3 : decode cX4_findColdest 3 = .ok (.invokevirtual 108, 3) := by decide +kernel
theorem dX4_findColdest_6 : decode cX4_findColdest 6 = .ok (.aload_n 0, 1) := by decide +kernel
theorem dX4_findColdest_7 : decode cX4_findColdest 7 = .ok (.iconst 0, 1) := by decide +kernel
theorem dX4_findColdest_8 : decode cX4_findColdest 8 = .ok (.aload_n 0, 1) := by decide +kernel
theorem dX4_findColdest_9 : decode cX4_findColdest 9 = .ok (.getfield 12, 3) := by decide +kernel
theorem dX4_findColdest_12 : decode cX4_findColdest 12 = .ok (.getfield 68, 3) := by decide +kernel
theorem dX4_findColdest_15 : decode cX4_findColdest 15 = .ok (.iconst 0, 1) := by decide +kernel
theorem dX4_findColdest_16 : decode cX4_findColdest 16 = .ok (.iaload, 1) := by decide +kernel
theorem dX4_findColdest_17 : decode cX4_findColdest 17 = .ok (.invokevirtual 34, 3) := by decide +kernel
theorem dX4_findColdest_20 : decode cX4_findColdest 20 = .ok (.iconst 1, 1) := by decide +kernel
theorem dX4_findColdest_21 : decode cX4_findColdest 21 = .ok (.istore_n 3, 1) := by decide +kernel
theorem dX4_findColdest_22 : decode cX4_findColdest 22 = .ok (.iload_n 3, 1) := by decide +kernel
theorem dX4_findColdest_23 : decode cX4_findColdest 23 = .ok (.aload_n 0, 1) := by decide +kernel
theorem dX4_findColdest_24 : decode cX4_findColdest 24 = .ok (.getfield 12, 3) := by decide +kernel
theorem dX4_findColdest_27 : decode cX4_findColdest 27 = .ok (.getfield 65, 3) := by decide +kernel
theorem dX4_findColdest_30 : decode cX4_findColdest 30 = .ok (.if_icmp .ge 39, 3) := by decide +kernel
theorem dX4_findColdest_33 : decode cX4_findColdest 33 = .ok (.aload_n 0, 1) := by decide +kernel
theorem dX4_findColdest_34 : decode cX4_findColdest 34 = .ok (.getfield 12, 3) := by decide +kernel
theorem dX4_findColdest_37 : decode cX4_findColdest 37 = .ok (.getfield 68, 3) := by decide +kernel
theorem dX4_findColdest_40 : decode cX4_findColdest 40 = .ok (.iload_n 3, 1) := by decide +kernel
theorem dX4_findColdest_41 : decode cX4_findColdest 41 = .ok (.iaload, 1) := by decide +kernel
theorem dX4_findColdest_42 : decode cX4_findColdest 42 = .ok (.aload_n 0, 1) := by decide +kernel
theorem dX4_findColdest_43 : decode cX4_findColdest 43 = .ok (.getfield 22, 3) := by decide +kernel
theorem dX4_findColdest_46 : decode cX4_findColdest 46 = .ok (.if_icmp .le 17, 3) := by decide +kernel
theorem dX4_findColdest_49 : decode cX4_findColdest 49 = .ok (.aload_n 0, 1) := by decide +kernel
theorem dX4_findColdest_50 : decode cX4_findColdest 50 = .ok (.iload_n 3, 1) := by decide +kernel
theorem dX4_findColdest_51 : decode cX4_findColdest 51 = .ok (.aload_n 0, 1) := by decide +kernel
theorem dX4_findColdest_52 : decode cX4_findColdest 52 = .ok (.getfield 12, 3) := by decide +kernel
theorem dX4_findColdest_55 : decode cX4_findColdest 55 = .ok (.getfield 68, 3) := by decide +kernel
theorem dX4_findColdest_58 : decode cX4_findColdest 58 = .ok (.iload_n 3, 1) := by decide +kernel
theorem dX4_findColdest_59 : decode cX4_findColdest 59 = .ok (.iaload, 1) := by decide +kernel
theorem dX4_findColdest_60 : decode cX4_findColdest 60 = .ok (.invokevirtual 34, 3) := by decide +kernel
theorem dX4_findColdest_63 : decode cX4_findColdest 63 = .ok (.iinc 3 1, 3) := by decide +kernel
theorem dX4_findColdest_66 : decode cX4_findColdest 66 = .ok (.goto (-44), 3) := by decide +kernel
theorem dX4_findColdest_69 : decode cX4_findColdest 69 = .ok (.return_, 1) := by decide +kernel
theorem dX4_findOdds_0 : decode cX4_findOdds 0 = .ok (.aload_n 1, 1) := by decide +kernel
theorem dX4_findOdds_1 : decode cX4_findOdds 1 = .ok (.getfield 98, 3) := by decide +kernel
theorem dX4_findOdds_4 : decode cX4_findOdds 4 = .ok (.invokestatic 48, 3) := by decide +kernel
theorem dX4_findOdds_7 : decode cX4_findOdds 7 = .ok (.istore 4, 2) := by decide +kernel
theorem dX4_findOdds_9 : decode cX4_findOdds 9 = .ok (.iconst 1, 1) := by decide +kernel
theorem dX4_findOdds_10 : decode cX4_findOdds 10 = .ok (.aload_n 1, 1) := by decide +kernel
theorem dX4_findOdds_11 : decode cX4_findOdds 11 = .ok (.getfield 45, 3) := by decide +kernel
theorem dX4_findOdds_14 : decode cX4_findOdds 14 = .ok (.ishl, 1) := by decide +kernel
theorem dX4_findOdds_15 : decode cX4_findOdds 15 = .ok (.istore 5, 2) := by decide +kernel
theorem dX4_findOdds_17 : decode cX4_findOdds 17 = .ok (.lconst 0, 1) := by decide +kernel
theorem dX4_findOdds_18 : decode cX4_findOdds 18 = .ok (.lstore 6, 2) := by decide +kernel
theorem dX4_findOdds_20 : decode cX4_findOdds 20 = .ok (.iconst 0, 1) := by decide +kernel
theorem dX4_findOdds_21 : decode cX4_findOdds 21 = .ok (.istore 8, 2) := by decide +kernel
theorem dX4_findOdds_23 : decode cX4_findOdds 23 = .ok (.iload 8, 2) := by decide +kernel
theorem dX4_findOdds_25 : decode cX4_findOdds 25 = .ok (.iload 5, 2) := by decide +kernel
theorem dX4_findOdds_27 : decode cX4_findOdds 27 = .ok (.if_icmp .ge 82, 3) := by decide +kernel
theorem dX4_findOdds_30 : decode cX4_findOdds 30 = .ok (.iload 8, 2) := by decide +kernel
theorem dX4_findOdds_32 : decode cX4_findOdds 32 = .ok (.aload_n 1, 1) := by decide +kernel
theorem dX4_findOdds_33 : decode cX4_findOdds 33 = .ok (.getfield 98, 3) := by decide +kernel
theorem dX4_findOdds_36 : decode cX4_findOdds 36 = .ok (.iconst (-1), 1) := by decide +kernel
theorem dX4_findOdds_37 : decode cX4_findOdds 37 = .ok (.ixor, 1) := by decide +kernel
theorem dX4_findOdds_38 : decode cX4_findOdds 38 = .ok (.iand, 1) := by decide +kernel
theorem dX4_findOdds_39 : decode cX4_findOdds 39 = .ok (.ifCond .eq 6, 3) := by decide +kernel
theorem dX4_findOdds_42 : decode cX4_findOdds 42 = .ok (.goto 61, 3) := by decide +kernel
theorem dX4_findOdds_45 : decode cX4_findOdds 45 = .ok (.aload_n 0, 1) := by decide +kernel
theorem dX4_findOdds_46 : decode cX4_findOdds 46 = .ok (.aload_n 1, 1) := by decide +kernel
theorem dX4_findOdds_47 : decode cX4_findOdds 47 = .ok (.iload 8, 2) := by decide +kernel
theorem dX4_findOdds_49 : decode cX4_findOdds 49 = .ok (.iconst 1, 1) := by decide +kernel
theorem dX4_findOdds_50 : decode cX4_findOdds 50 = .ok (.invokevirtual 54, 3) := by decide +kernel
theorem dX4_findOdds_53 : decode cX4_findOdds 53 = .ok (.aload_n 0, 1) := by decide +kernel
theorem dX4_findOdds_54 : decode cX4_findOdds 54 = .ok (.getfield 12, 3) := by decide +kernel
theorem dX4_findOdds_57 : decode cX4_findOdds 57 = .ok (.getfield 68, 3) := by decide +kernel
theorem dX4_findOdds_60 : decode cX4_findOdds 60 = .ok (.iload_n 2, 1) := by decide +kernel
theorem dX4_findOdds_61 : decode cX4_findOdds 61 = .ok (.iaload, 1) := by decide +kernel
theorem dX4_findOdds_62 : decode cX4_findOdds 62 = .ok (.aload_n 0, 1) := by decide +kernel
theorem dX4_findOdds_63 : decode cX4_findOdds 63 = .ok (.getfield 12, 3) := by decide +kernel
theorem dX4_findOdds_66 : decode cX4_findOdds 66 = .ok (.getfield 112, 3) := by decide +kernel
theorem dX4_findOdds_69 : decode cX4_findOdds 69 = .ok (.if_icmp .le 34, 3) := by decide +kernel
theorem dX4_findOdds_72 : decode cX4_findOdds 72 = .ok (.iload 8, 2) := by decide +kernel
theorem dX4_findOdds_74 : decode cX4_findOdds 74 = .ok (.invokestatic 48, 3) := by decide +kernel
theorem dX4_findOdds_77 : decode cX4_findOdds 77 = .ok (.istore 9, 2) := by decide +kernel
theorem dX4_findOdds_79 : decode cX4_findOdds 79 = .ok (.lload 6, 2) := by decide +kernel
theorem dX4_findOdds_81 : decode cX4_findOdds 81 = .ok (.iload_n 3, 1) := by decide +kernel
theorem dX4_findOdds_82 : decode cX4_findOdds 82 = .ok (.iload 9, 2) := by decide +kernel
theorem dX4_findOdds_84 : decode cX4_findOdds 84 = .ok (.invokestatic 115, 3) := by decide +kernel
theorem dX4_findOdds_87 : decode cX4_findOdds 87 = .ok (.bipush 10, 2) := by decide +kernel
theorem dX4_findOdds_89 : decode cX4_findOdds 89 = .ok (.iload_n 3, 1) := by decide +kernel
theorem dX4_findOdds_90 : decode cX4_findOdds 90 = .ok (.isub, 1) := by decide +kernel
theorem dX4_findOdds_91 : decode cX4_findOdds 91 = .ok (.iload 4, 2) := by decide +kernel
theorem dX4_findOdds_93 : decode cX4_findOdds 93 = .ok (.iload 9, 2) := by decide +kernel
theorem dX4_findOdds_95 : decode cX4_findOdds 95 = .ok (.isub, 1) := by decide +kernel
theorem dX4_findOdds_96 : decode cX4_findOdds 96 = .ok (.invokestatic 115, 3) := by decide +kernel
theorem dX4_findOdds_99 : decode cX4_findOdds 99 = .ok (.lmul, 1) := by decide +kernel
theorem dX4_findOdds_100 : decode cX4_findOdds 100 = .ok (.ladd, 1) := by decide +kernel
theorem dX4_findOdds_101 : decode cX4_findOdds 101 = .ok (.lstore 6, 2) := by decide +kernel
theorem dX4_findOdds_103 : decode cX4_findOdds 103 = .ok (.iinc 8 1, 3) := by decide +kernel
theorem dX4_findOdds_106 : decode cX4_findOdds 106 = .ok (.goto (-83), 3) := by decide +kernel
theorem dX4_findOdds_109 : decode cX4_findOdds 109 = .ok (.aload_n 0, 1) := by decide +kernel
theorem dX4_findOdds_110 : decode cX4_findOdds 110 = .ok (.lload 6, 2) := by decide +kernel
theorem dX4_findOdds_112 : decode cX4_findOdds 112 = .ok (.bipush 10, 2) := by decide +kernel
theorem dX4_findOdds_114 : decode cX4_findOdds 114 = .ok (.iload 4, 2) := by decide +kernel
theorem dX4_findOdds_116 : decode cX4_findOdds 116 = .ok (.invokestatic 115, 3) := by decide +kernel
theorem dX4_findOdds_119 : decode cX4_findOdds 119 = .ok (.invokevirtual 119, 3) := by decide +kernel
theorem dX4_findOdds_122 : decode cX4_findOdds 122 = .ok (.return_, 1) := by decide +kernel
theorem dX4_tellFraction_0 : decode cX4_tellFraction 0 = .ok (.lconst 1, 1) := by decide +kernel
theorem dX4_tellFraction_1 : decode cX4_tellFraction 1 = .ok (.lload_n 3, 1) := by decide +kernel
theorem dX4_tellFraction_2 : decode cX4_tellFraction 2 = .ok (.lload_n 1, 1) := by decide +kernel
theorem dX4_tellFraction_3 : decode cX4_tellFraction 3 = .ok (.invokestatic 123, 3) := by decide +kernel
theorem dX4_tellFraction_6 : decode cX4_tellFraction 6 = .ok (.invokestatic 127, 3) := by decide +kernel
theorem dX4_tellFraction_9 : decode cX4_tellFraction 9 = .ok (.lstore 5, 2) := by decide +kernel
theorem dX4_tellFraction_11 : decode cX4_tellFraction 11 = .ok (.aload_n 0, 1) := by decide +kernel
theorem dX4_tellFraction_12 : decode cX4_tellFraction 12 = .ok (.lload_n 1, 1) := by decide +kernel
theorem dX4_tellFraction_13 : decode cX4_tellFraction 13 = .ok (.lload 5, 2) := by decide +kernel
theorem dX4_tellFraction_15 : decode cX4_tellFraction 15 = .ok (.ldiv, 1) := by decide +kernel
theorem dX4_tellFraction_16 : decode cX4_tellFraction 16 = .ok (.putfield 132, 3) := by decide +kernel
theorem dX4_tellFraction_19 : decode cX4_tellFraction 19 = .ok (.aload_n 0, 1) := by decide +kernel
theorem dX4_tellFraction_20 : decode cX4_tellFraction 20 = .ok (.lload_n 3, 1) := by decide +kernel
theorem dX4_tellFraction_21 : decode cX4_tellFraction 21 = .ok (.lload 5, 2) := by decide +kernel
theorem dX4_tellFraction_23 : decode cX4_tellFraction 23 = .ok (.ldiv, 1) := by decide +kernel
theorem dX4_tellFraction_24 : decode cX4_tellFraction 24 = .ok (.putfield 136, 3) := by decide +kernel
theorem dX4_tellFraction_27 : decode cX4_tellFraction 27 = .ok (.return_, 1) := by decide +kernel
theorem dX4_power_0 : decode cX4_power 0 = .ok (.lconst 1, 1) := by decide +kernel
theorem dX4_power_1 : decode cX4_power 1 = .ok (.lstore_n 2, 1) := by decide +kernel
theorem dX4_power_2 : decode cX4_power 2 = .ok (.iconst 0, 1) := by decide +kernel
theorem dX4_power_3 : decode cX4_power 3 = .ok (.istore 4, 2) := by decide +kernel
theorem dX4_power_5 : decode cX4_power 5 = .ok (.iload 4, 2) := by decide +kernel
theorem dX4_power_7 : decode cX4_power 7 = .ok (.iload_n 1, 1) := by decide +kernel
theorem dX4_power_8 : decode cX4_power 8 = .ok (.if_icmp .ge 14, 3) := by decide +kernel
theorem dX4_power_11 : decode cX4_power 11 = .ok (.lload_n 2, 1) := by decide +kernel
theorem dX4_power_12 : decode cX4_power 12 = .ok (.iload_n 0, 1) := by decide +kernel
theorem dX4_power_13 : decode cX4_power 13 = .ok (.i2l, 1) := by decide +kernel
theorem dX4_power_14 : decode cX4_power 14 = .ok (.lmul, 1) := by decide +kernel
theorem dX4_power_15 : decode cX4_power 15 = .ok (.lstore_n 2, 1) := by decide +kernel
theorem dX4_power_16 : decode cX4_power 16 = .ok (.iinc 4 1, 3) := by decide +kernel
theorem dX4_power_19 : decode cX4_power 19 = .ok (.goto (-14), 3) := by decide +kernel
theorem dX4_power_22 : decode cX4_power 22 = .ok (.lload_n 2, 1) := by decide +kernel
theorem dX4_power_23 : decode cX4_power 23 = .ok (.lreturn, 1) := by decide +kernel
theorem dX4_divisorOfBoth_0 : decode cX4_divisorOfBoth 0 = .ok (.lload_n 0, 1) := by decide +kernel
theorem dX4_divisorOfBoth_1 : decode cX4_divisorOfBoth 1 = .ok (.lstore 4, 2) := by decide +kernel
theorem dX4_divisorOfBoth_3 : decode cX4_divisorOfBoth 3 = .ok (.lload_n 2, 1) := by decide +kernel
theorem dX4_divisorOfBoth_4 : decode cX4_divisorOfBoth 4 = .ok (.lstore 6, 2) := by decide +kernel
theorem dX4_divisorOfBoth_6 : decode cX4_divisorOfBoth 6 = .ok (.iconst 0, 1) := by decide +kernel
theorem dX4_divisorOfBoth_7 : decode cX4_divisorOfBoth 7 = .ok (.istore 8, 2) := by decide +kernel
theorem dX4_divisorOfBoth_9 : decode cX4_divisorOfBoth 9 = .ok (.iload 8, 2) := by decide +kernel
theorem dX4_divisorOfBoth_11 : decode cX4_divisorOfBoth 11 = .ok (.bipush 64, 2) := by decide +kernel
theorem dX4_divisorOfBoth_13 : decode cX4_divisorOfBoth 13 = .ok (.if_icmp .ge 31, 3) := by decide +kernel
theorem dX4_divisorOfBoth_16 : decode cX4_divisorOfBoth 16 = .ok (.lload 6, 2) := by decide +kernel
theorem dX4_divisorOfBoth_18 : decode cX4_divisorOfBoth 18 = .ok (.lconst 0, 1) := by decide +kernel
theorem dX4_divisorOfBoth_19 : decode cX4_divisorOfBoth 19 = .ok (.lcmp, 1) := by decide +kernel
theorem dX4_divisorOfBoth_20 : decode cX4_divisorOfBoth 20 = .ok (.ifCond .eq 24, 3) := by decide +kernel
theorem dX4_divisorOfBoth_23 : decode cX4_divisorOfBoth 23 = .ok (.lload 4, 2) := by decide +kernel
theorem dX4_divisorOfBoth_25 : decode cX4_divisorOfBoth 25 = .ok (.lload 6, 2) := by decide +kernel
theorem dX4_divisorOfBoth_27 : decode cX4_divisorOfBoth 27 = .ok (.lrem, 1) := by decide +kernel
theorem dX4_divisorOfBoth_28 : decode cX4_divisorOfBoth 28 = .ok (.lstore 9, 2) := by decide +kernel
theorem dX4_divisorOfBoth_30 : decode cX4_divisorOfBoth 30 = .ok (.lload 6, 2) := by decide +kernel
theorem dX4_divisorOfBoth_32 : decode cX4_divisorOfBoth 32 = .ok (.lstore 4, 2) := by decide +kernel
theorem dX4_divisorOfBoth_34 : decode cX4_divisorOfBoth 34 = .ok (.lload 9, 2) := by decide +kernel
theorem dX4_divisorOfBoth_36 : decode cX4_divisorOfBoth 36 = .ok (.lstore 6, 2) := by decide +kernel
theorem dX4_divisorOfBoth_38 : decode cX4_divisorOfBoth 38 = .ok (.iinc 8 1, 3) := by decide +kernel
theorem dX4_divisorOfBoth_41 : decode cX4_divisorOfBoth 41 = .ok (.goto (-32), 3) := by decide +kernel
theorem dX4_divisorOfBoth_44 : decode cX4_divisorOfBoth 44 = .ok (.lload 4, 2) := by decide +kernel
theorem dX4_divisorOfBoth_46 : decode cX4_divisorOfBoth 46 = .ok (.lreturn, 1) := by decide +kernel
theorem dX4_drawHours_0 : decode cX4_drawHours 0 = .ok (.aload_n 0, 1) := by decide +kernel
theorem dX4_drawHours_1 : decode cX4_drawHours 1 = .ok (.getfield 12, 3) := by decide +kernel
theorem dX4_drawHours_4 : decode cX4_drawHours 4 = .ok (.aload_n 1, 1) := by decide +kernel
theorem dX4_drawHours_5 : decode cX4_drawHours 5 = .ok (.invokevirtual 25, 3) := by decide +kernel
theorem dX4_drawHours_8 : decode cX4_drawHours 8 = .ok (.iload_n 3, 1) := by decide +kernel
theorem dX4_drawHours_9 : decode cX4_drawHours 9 = .ok (.i2l, 1) := by decide +kernel
theorem dX4_drawHours_10 : decode cX4_drawHours 10 = .ok (.lstore 4, 2) := by decide +kernel
theorem dX4_drawHours_12 : decode cX4_drawHours 12 = .ok (.iconst 0, 1) := by decide +kernel
theorem dX4_drawHours_13 : decode cX4_drawHours 13 = .ok (.istore 6, 2) := by decide +kernel
theorem dX4_drawHours_15 : decode cX4_drawHours 15 = .ok (.iconst 0, 1) := by decide +kernel
theorem dX4_drawHours_16 : decode cX4_drawHours 16 = .ok (.istore 7, 2) := by decide +kernel
theorem dX4_drawHours_18 : decode cX4_drawHours 18 = .ok (.iload 7, 2) := by decide +kernel
theorem dX4_drawHours_20 : decode cX4_drawHours 20 = .ok (.iload_n 2, 1) := by decide +kernel
theorem dX4_drawHours_21 : decode cX4_drawHours 21 = .ok (.if_icmp .ge 73, 3) := by decide +kernel
theorem dX4_drawHours_24 : decode cX4_drawHours 24 = .ok (.lload 4, 2) := by decide +kernel
theorem dX4_drawHours_26 : decode cX4_drawHours 26 = .ok (.ldc2_w 139, 3) := by decide +kernel
theorem dX4_drawHours_29 : decode cX4_drawHours 29 = .ok (.lmul, 1) := by decide +kernel
theorem dX4_drawHours_30 : decode cX4_drawHours 30 = .ok (.ldc2_w 141, 3) := by decide +kernel
theorem dX4_drawHours_33 : decode cX4_drawHours 33 = .ok (.lrem, 1) := by decide +kernel
theorem dX4_drawHours_34 : decode cX4_drawHours 34 = .ok (.lstore 4, 2) := by decide +kernel
theorem dX4_drawHours_36 : decode cX4_drawHours 36 = .ok (.aload_n 0, 1) := by decide +kernel
theorem dX4_drawHours_37 : decode cX4_drawHours 37 = .ok (.getfield 12, 3) := by decide +kernel
theorem dX4_drawHours_40 : decode cX4_drawHours 40 = .ok (.getfield 45, 3) := by decide +kernel
theorem dX4_drawHours_43 : decode cX4_drawHours 43 = .ok (.ifCond .le 24, 3) := by decide +kernel
theorem dX4_drawHours_46 : decode cX4_drawHours 46 = .ok (.aload_n 0, 1) := by decide +kernel
theorem dX4_drawHours_47 : decode cX4_drawHours 47 = .ok (.getfield 12, 3) := by decide +kernel
theorem dX4_drawHours_50 : decode cX4_drawHours 50 = .ok (.iconst 1, 1) := by decide +kernel
theorem dX4_drawHours_51 : decode cX4_drawHours 51 = .ok (.lload 4, 2) := by decide +kernel
theorem dX4_drawHours_53 : decode cX4_drawHours 53 = .ok (.aload_n 0, 1) := by decide +kernel
theorem dX4_drawHours_54 : decode cX4_drawHours 54 = .ok (.getfield 12, 3) := by decide +kernel
theorem dX4_drawHours_57 : decode cX4_drawHours 57 = .ok (.getfield 45, 3) := by decide +kernel
theorem dX4_drawHours_60 : decode cX4_drawHours 60 = .ok (.i2l, 1) := by decide +kernel
theorem dX4_drawHours_61 : decode cX4_drawHours 61 = .ok (.lrem, 1) := by decide +kernel
theorem dX4_drawHours_62 : decode cX4_drawHours 62 = .ok (.l2i, 1) := by decide +kernel
theorem dX4_drawHours_63 : decode cX4_drawHours 63 = .ok (.ishl, 1) := by decide +kernel
theorem dX4_drawHours_64 : decode cX4_drawHours 64 = .ok (.invokevirtual 62, 3) := by decide +kernel
theorem dX4_drawHours_67 : decode cX4_drawHours 67 = .ok (.aload_n 0, 1) := by decide +kernel
theorem dX4_drawHours_68 : decode cX4_drawHours 68 = .ok (.getfield 12, 3) := by decide +kernel
theorem dX4_drawHours_71 : decode cX4_drawHours 71 = .ok (.invokevirtual 42, 3) := by decide +kernel
theorem dX4_drawHours_74 : decode cX4_drawHours 74 = .ok (.aload_n 0, 1) := by decide +kernel
theorem dX4_drawHours_75 : decode cX4_drawHours 75 = .ok (.getfield 12, 3) := by decide +kernel
theorem dX4_drawHours_78 : decode cX4_drawHours 78 = .ok (.invokevirtual 38, 3) := by decide +kernel
theorem dX4_drawHours_81 : decode cX4_drawHours 81 = .ok (.iconst (-1), 1) := by decide +kernel
theorem dX4_drawHours_82 : decode cX4_drawHours 82 = .ok (.if_icmp .eq 6, 3) := by decide +kernel
theorem dX4_drawHours_85 : decode cX4_drawHours 85 = .ok (.iinc 6 1, 3) := by decide +kernel
theorem dX4_drawHours_88 : decode cX4_drawHours 88 = .ok (.iinc 7 1, 3) := by decide +kernel
theorem dX4_drawHours_91 : decode cX4_drawHours 91 = .ok (.goto (-73), 3) := by decide +kernel
theorem dX4_drawHours_94 : decode cX4_drawHours 94 = .ok (.aload_n 0, 1) := by decide +kernel
theorem dX4_drawHours_95 : decode cX4_drawHours 95 = .ok (.aload_n 0, 1) := by decide +kernel
theorem dX4_drawHours_96 : decode cX4_drawHours 96 = .ok (.getfield 12, 3) := by decide +kernel
theorem dX4_drawHours_99 : decode cX4_drawHours 99 = .ok (.invokevirtual 143, 3) := by decide +kernel
theorem dX4_drawHours_102 : decode cX4_drawHours 102 = .ok (.iload 6, 2) := by decide +kernel
theorem dX4_drawHours_104 : decode cX4_drawHours 104 = .ok (.invokevirtual 34, 3) := by decide +kernel
theorem dX4_drawHours_107 : decode cX4_drawHours 107 = .ok (.return_, 1) := by decide +kernel
theorem dX5_init_0 : decode cX5_init 0 = .ok (.aload_n 0, 1) := by decide +kernel
theorem dX5_init_1 : decode cX5_init 1 = .ok (.invokespecial 1, 3) := by decide +kernel
theorem dX5_init_4 : decode cX5_init 4 = .ok (.aload_n 0, 1) := by decide +kernel
theorem dX5_init_5 : decode cX5_init 5 = .ok (.bipush 120, 2) := by decide +kernel
theorem dX5_init_7 : decode cX5_init 7 = .ok (.newarray .int, 2) := by decide +kernel
theorem dX5_init_9 : decode cX5_init 9 = .ok (.putfield 9, 3) := by decide +kernel
theorem dX5_init_12 : decode cX5_init 12 = .ok (.return_, 1) := by decide +kernel
theorem dX5_isFull_0 : decode cX5_isFull 0 = .ok (.aload_n 0, 1) := by decide +kernel
theorem dX5_isFull_1 : decode cX5_isFull 1 = .ok (.getfield 13, 3) := by decide +kernel
theorem dX5_isFull_4 : decode cX5_isFull 4 = .ok (.bipush 120, 2) := by decide +kernel
theorem dX5_isFull_6 : decode cX5_isFull 6 = .ok (.if_icmp .lt 7, 3) := by decide +kernel
theorem dX5_isFull_9 : decode cX5_isFull 9 = .ok (.iconst 1, 1) := by decide +kernel
theorem dX5_isFull_10 : decode cX5_isFull 10 = .ok (.goto 4, 3) := by decide +kernel
theorem dX5_isFull_13 : decode cX5_isFull 13 = .ok (.iconst 0, 1) := by decide +kernel
theorem dX5_isFull_14 : decode cX5_isFull 14 = .ok (.ireturn, 1) := by decide +kernel
theorem dX5_append_0 : decode cX5_append 0 = .ok (.aload_n 0, 1) := by decide +kernel
theorem dX5_append_1 : decode cX5_append 1 = .ok (.getfield 9, 3) := by decide +kernel
theorem dX5_append_4 : decode cX5_append 4 = .ok (.aload_n 0, 1) := by decide +kernel
theorem dX5_append_5 : decode cX5_append 5 = .ok (.getfield 13, 3) := by decide +kernel
theorem dX5_append_8 : decode cX5_append 8 = .ok (.iload_n 1, 1) := by decide +kernel
theorem dX5_append_9 : decode cX5_append 9 = .ok (.iastore, 1) := by decide +kernel
theorem dX5_append_10 : decode cX5_append 10 = .ok (.aload_n 0, 1) := by decide +kernel
theorem dX5_append_11 : decode cX5_append 11 = .ok (.dup, 1) := by decide +kernel
theorem dX5_append_12 : decode cX5_append 12 = .ok (.getfield 13, 3) := by decide +kernel
theorem dX5_append_15 : decode cX5_append 15 = .ok (.iconst 1, 1) := by decide +kernel
theorem dX5_append_16 : decode cX5_append 16 = .ok (.iadd, 1) := by decide +kernel
theorem dX5_append_17 : decode cX5_append 17 = .ok (.putfield 13, 3) := by decide +kernel
theorem dX5_append_20 : decode cX5_append 20 = .ok (.aload_n 0, 1) := by decide +kernel
theorem dX5_append_21 : decode cX5_append 21 = .ok (.getfield 13, 3) := by decide +kernel
theorem dX5_append_24 : decode cX5_append 24 = .ok (.ireturn, 1) := by decide +kernel
theorem dX5_empty_0 : decode cX5_empty 0 = .ok (.aload_n 0, 1) := by decide +kernel
theorem dX5_empty_1 : decode cX5_empty 1 = .ok (.iconst 0, 1) := by decide +kernel
theorem dX5_empty_2 : decode cX5_empty 2 = .ok (.putfield 13, 3) := by decide +kernel
theorem dX5_empty_5 : decode cX5_empty 5 = .ok (.return_, 1) := by decide +kernel
theorem dX5_readInto_0 : decode cX5_readInto 0 = .ok (.aload_n 0, 1) := by decide +kernel
theorem dX5_readInto_1 : decode cX5_readInto 1 = .ok (.iconst 0, 1) := by decide +kernel
theorem dX5_readInto_2 : decode cX5_readInto 2 = .ok (.putfield 17, 3) := by decide +kernel
theorem dX5_readInto_5 : decode cX5_readInto 5 = .ok (.aload_n 1, 1) := by decide +kernel
theorem dX5_readInto_6 : decode cX5_readInto 6 = .ok (.invokevirtual 20, 3) := by decide +kernel
theorem dX5_readInto_9 : decode cX5_readInto 9 = .ok (.aload_n 0, 1) := by decide +kernel
theorem dX5_readInto_10 : decode cX5_readInto 10 = .ok (.aload_n 1, 1) := by decide +kernel
theorem dX5_readInto_11 : decode cX5_readInto 11 = .ok (.invokevirtual 25, 3) := by decide +kernel
theorem dX5_readInto_14 : decode cX5_readInto 14 = .ok (.ifCond .eq 23, 3) := by decide +kernel
theorem dX5_readInto_17 : decode cX5_readInto 17 = .ok (.aload_n 0, 1) := by decide +kernel
theorem dX5_readInto_18 : decode cX5_readInto 18 = .ok (.aload_n 1, 1) := by decide +kernel
theorem dX5_readInto_19 : decode cX5_readInto 19 = .ok (.invokevirtual 29, 3) := by decide +kernel
theorem dX5_readInto_22 : decode cX5_readInto 22 = .ok (.ifCond .eq 15, 3) := by decide +kernel
theorem dX5_readInto_25 : decode cX5_readInto 25 = .ok (.aload_n 0, 1) := by decide +kernel
theorem dX5_readInto_26 : decode cX5_readInto 26 = .ok (.aload_n 1, 1) := by decide +kernel
theorem dX5_readInto_27 : decode cX5_readInto 27 = .ok (.invokevirtual 32, 3) := by decide +kernel
theorem dX5_readInto_30 : decode cX5_readInto 30 = .ok (.ifCond .eq 7, 3) := by decide +kernel
theorem dX5_readInto_33 : decode cX5_readInto 33 = .ok (.iconst 1, 1) := by decide +kernel
theorem dX5_readInto_34 : decode cX5_readInto 34 = .ok (.goto 4, 3) := by decide +kernel
theorem dX5_readInto_37 : decode cX5_readInto 37 = .ok (.iconst 0, 1) := by decide +kernel
theorem dX5_readInto_38 : decode cX5_readInto 38 = .ok (.ireturn, 1) := by decide +kernel
theorem dX5_readLaw_0 : decode cX5_readLaw 0 = .ok (.aload_n 0, 1) := by decide +kernel
theorem dX5_readLaw_1 : decode cX5_readLaw 1 = .ok (.bipush 110, 2) := by decide +kernel
theorem dX5_readLaw_3 : decode cX5_readLaw 3 = .ok (.invokevirtual 35, 3) := by decide +kernel
theorem dX5_readLaw_6 : decode cX5_readLaw 6 = .ok (.ifCond .ne 5, 3) := by decide +kernel
theorem dX5_readLaw_9 : decode cX5_readLaw 9 = .ok (.iconst 0, 1) := by decide +kernel
theorem dX5_readLaw_10 : decode cX5_readLaw 10 = .ok (.ireturn, 1) := by decide +kernel
theorem dX5_readLaw_11 : decode cX5_readLaw 11 = .ok (.aload_n 0, 1) := by decide +kernel
theorem dX5_readLaw_12 : decode cX5_readLaw 12 = .ok (.iconst 1, 1) := by decide +kernel
theorem dX5_readLaw_13 : decode cX5_readLaw 13 = .ok (.bipush 6, 2) := by decide +kernel
theorem dX5_readLaw_15 : decode cX5_readLaw 15 = .ok (.invokevirtual 39, 3) := by decide +kernel
theorem dX5_readLaw_18 : decode cX5_readLaw 18 = .ok (.istore_n 2, 1) := by decide +kernel
theorem dX5_readLaw_19 : decode cX5_readLaw 19 = .ok (.iload_n 2, 1) := by decide +kernel
theorem dX5_readLaw_20 : decode cX5_readLaw 20 = .ok (.iconst (-1), 1) := by decide +kernel
theorem dX5_readLaw_21 : decode cX5_readLaw 21 = .ok (.if_icmp .eq 12, 3) := by decide +kernel
theorem dX5_readLaw_24 : decode cX5_readLaw 24 = .ok (.aload_n 0, 1) := by decide +kernel
theorem dX5_readLaw_25 : decode cX5_readLaw 25 = .ok (.bipush 44, 2) := by decide +kernel
theorem dX5_readLaw_27 : decode cX5_readLaw 27 = .ok (.invokevirtual 35, 3) := by decide +kernel
theorem dX5_readLaw_30 : decode cX5_readLaw 30 = .ok (.ifCond .ne 5, 3) := by decide +kernel
theorem dX5_readLaw_33 : decode cX5_readLaw 33 = .ok (.iconst 0, 1) := by decide +kernel
theorem dX5_readLaw_34 : decode cX5_readLaw 34 = .ok (.ireturn, 1) := by decide +kernel
theorem dX5_readLaw_35 : decode cX5_readLaw 35 = .ok (.aload_n 0, 1) := by decide +kernel
theorem dX5_readLaw_36 : decode cX5_readLaw 36 = .ok (.iconst 0, 1) := by decide +kernel
theorem dX5_readLaw_37 : decode cX5_readLaw 37 = .ok (.iload_n 2, 1) := by decide +kernel
theorem dX5_readLaw_38 : decode cX5_readLaw 38 = .ok (.iconst 1, 1) := by decide +kernel
theorem dX5_readLaw_39 : decode cX5_readLaw 39 = .ok (.isub, 1) := by decide +kernel
theorem dX5_readLaw_40 : decode cX5_readLaw 40 = .ok (.invokevirtual 39, 3) := by decide +kernel
theorem dX5_readLaw_43 : decode cX5_readLaw 43 = .ok (.istore_n 3, 1) := by decide +kernel
theorem dX5_readLaw_44 : decode cX5_readLaw 44 = .ok (.iload_n 3, 1) := by decide +kernel
theorem dX5_readLaw_45 : decode cX5_readLaw 45 = .ok (.iconst (-1), 1) := by decide +kernel
theorem dX5_readLaw_46 : decode cX5_readLaw 46 = .ok (.if_icmp .eq 12, 3) := by decide +kernel
theorem dX5_readLaw_49 : decode cX5_readLaw 49 = .ok (.aload_n 0, 1) := by decide +kernel
theorem dX5_readLaw_50 : decode cX5_readLaw 50 = .ok (.bipush 44, 2) := by decide +kernel
theorem dX5_readLaw_52 : decode cX5_readLaw 52 = .ok (.invokevirtual 35, 3) := by decide +kernel
theorem dX5_readLaw_55 : decode cX5_readLaw 55 = .ok (.ifCond .ne 5, 3) := by decide +kernel
theorem dX5_readLaw_58 : decode cX5_readLaw 58 = .ok (.iconst 0, 1) := by decide +kernel
theorem dX5_readLaw_59 : decode cX5_readLaw 59 = .ok (.ireturn, 1) := by decide +kernel
theorem dX5_readLaw_60 : decode cX5_readLaw 60 = .ok (.aload_n 0, 1) := by decide +kernel
theorem dX5_readLaw_61 : decode cX5_readLaw 61 = .ok (.iconst 0, 1) := by decide +kernel
theorem dX5_readLaw_62 : decode cX5_readLaw 62 = .ok (.bipush 40, 2) := by decide +kernel
theorem dX5_readLaw_64 : decode cX5_readLaw 64 = .ok (.invokevirtual 39, 3) := by decide +kernel
theorem dX5_readLaw_67 : decode cX5_readLaw 67 = .ok (.istore 4, 2) := by decide +kernel
theorem dX5_readLaw_69 : decode cX5_readLaw 69 = .ok (.iload 4, 2) := by decide +kernel
theorem dX5_readLaw_71 : decode cX5_readLaw 71 = .ok (.iconst (-1), 1) := by decide +kernel
theorem dX5_readLaw_72 : decode cX5_readLaw 72 = .ok (.if_icmp .eq 12, 3) := by decide +kernel
theorem dX5_readLaw_75 : decode cX5_readLaw 75 = .ok (.aload_n 0, 1) := by decide +kernel
theorem dX5_readLaw_76 : decode cX5_readLaw 76 = .ok (.bipush 44, 2) := by decide +kernel
theorem dX5_readLaw_78 : decode cX5_readLaw 78 = .ok (.invokevirtual 35, 3) := by decide +kernel
theorem dX5_readLaw_81 : decode cX5_readLaw 81 = .ok (.ifCond .ne 5, 3) := by decide +kernel
theorem dX5_readLaw_84 : decode cX5_readLaw 84 = .ok (.iconst 0, 1) := by decide +kernel
theorem dX5_readLaw_85 : decode cX5_readLaw 85 = .ok (.ireturn, 1) := by decide +kernel
theorem dX5_readLaw_86 : decode cX5_readLaw 86 = .ok (.aload_n 0, 1) := by decide +kernel
theorem dX5_readLaw_87 : decode cX5_readLaw 87 = .ok (.iconst 0, 1) := by decide +kernel
theorem dX5_readLaw_88 : decode cX5_readLaw 88 = .ok (.bipush 99, 2) := by decide +kernel
theorem dX5_readLaw_90 : decode cX5_readLaw 90 = .ok (.invokevirtual 39, 3) := by decide +kernel
theorem dX5_readLaw_93 : decode cX5_readLaw 93 = .ok (.istore 5, 2) := by decide +kernel
theorem dX5_readLaw_95 : decode cX5_readLaw 95 = .ok (.iload 5, 2) := by decide +kernel
theorem dX5_readLaw_97 : decode cX5_readLaw 97 = .ok (.iconst (-1), 1) := by decide +kernel
theorem dX5_readLaw_98 : decode cX5_readLaw 98 = .ok (.if_icmp .eq 12, 3) := by decide +kernel
theorem dX5_readLaw_101 : decode cX5_readLaw 101 = .ok (.aload_n 0, 1) := by decide +kernel
theorem dX5_readLaw_102 : decode cX5_readLaw 102 = .ok (.bipush 59, 2) := by decide +kernel
theorem dX5_readLaw_104 : decode cX5_readLaw 104 = .ok (.invokevirtual 35, 3) := by decide +kernel
theorem dX5_readLaw_107 : decode cX5_readLaw 107 = .ok (.ifCond .ne 5, 3) := by decide +kernel
theorem dX5_readLaw_110 : decode cX5_readLaw 110 = .ok (.iconst 0, 1) := by decide +kernel
theorem dX5_readLaw_111 : decode cX5_readLaw 111 = .ok (.ireturn, 1) := by decide +kernel
theorem dX5_readLaw_112 : decode cX5_readLaw 112 = .ok (.aload_n 1, 1) := by decide +kernel
end
section
theorem dX5_readLaw_113 : decode cX5_readLaw 113 = .ok (.iload_n 2, 1) := by decide +kernel
theorem dX5_readLaw_114 : decode cX5_readLaw 114 = .ok (.iload_n 3, 1) := by decide +kernel
theorem dX5_readLaw_115 : decode cX5_readLaw 115 = .ok (.iload 4, 2) := by decide +kernel
theorem dX5_readLaw_117 : decode cX5_readLaw 117 = .ok (.iload 5, 2) := by decide +kernel
theorem dX5_readLaw_119 : decode cX5_readLaw 119 = .ok (.invokevirtual 43, 3) := by decide +kernel
theorem dX5_readLaw_122 : decode cX5_readLaw 122 = .ok (.iconst 1, 1) := by decide +kernel
theorem dX5_readLaw_123 : decode cX5_readLaw 123 = .ok (.ireturn, 1) := by decide +kernel
theorem dX5_readDoors_0 : decode cX5_readDoors 0 = .ok (.iconst 0, 1) := by decide +kernel
theorem dX5_readDoors_1 : decode cX5_readDoors 1 = .ok (.istore_n 2, 1) := by decide +kernel
theorem dX5_readDoors_2 : decode cX5_readDoors 2 = .ok (.iload_n 2, 1) := by decide +kernel
theorem dX5_readDoors_3 : decode cX5_readDoors 3 = .ok (.bipush 8, 2) := by decide +kernel
theorem dX5_readDoors_5 : decode cX5_readDoors 5 = .ok (.if_icmp .ge 30, 3) := by decide +kernel
theorem dX5_readDoors_8 : decode cX5_readDoors 8 = .ok (.aload_n 0, 1) := by decide +kernel
theorem dX5_readDoors_9 : decode cX5_readDoors 9 = .ok (.invokevirtual 47, 3) := by decide +kernel
theorem dX5_readDoors_12 : decode cX5_readDoors 12 = .ok (.bipush 100, 2) := by decide +kernel
theorem dX5_readDoors_14 : decode cX5_readDoors 14 = .ok (.if_icmp .eq 5, 3) := by decide +kernel
theorem dX5_readDoors_17 : decode cX5_readDoors 17 = .ok (.iconst 1, 1) := by decide +kernel
theorem dX5_readDoors_18 : decode cX5_readDoors 18 = .ok (.ireturn, 1) := by decide +kernel
theorem dX5_readDoors_19 : decode cX5_readDoors 19 = .ok (.aload_n 0, 1) := by decide +kernel
theorem dX5_readDoors_20 : decode cX5_readDoors 20 = .ok (.aload_n 1, 1) := by decide +kernel
theorem dX5_readDoors_21 : decode cX5_readDoors 21 = .ok (.invokevirtual 51, 3) := by decide +kernel
theorem dX5_readDoors_24 : decode cX5_readDoors 24 = .ok (.ifCond .ne 5, 3) := by decide +kernel
theorem dX5_readDoors_27 : decode cX5_readDoors 27 = .ok (.iconst 0, 1) := by decide +kernel
theorem dX5_readDoors_28 : decode cX5_readDoors 28 = .ok (.ireturn, 1) := by decide +kernel
theorem dX5_readDoors_29 : decode cX5_readDoors 29 = .ok (.iinc 2 1, 3) := by decide +kernel
theorem dX5_readDoors_32 : decode cX5_readDoors 32 = .ok (.goto (-30), 3) := by decide +kernel
theorem dX5_readDoors_35 : decode cX5_readDoors 35 = .ok (.aload_n 0, 1) := by decide +kernel
theorem dX5_readDoors_36 : decode cX5_readDoors 36 = .ok (.invokevirtual 47, 3) := by decide +kernel
theorem dX5_readDoors_39 : decode cX5_readDoors 39 = .ok (.bipush 100, 2) := by decide +kernel
theorem dX5_readDoors_41 : decode cX5_readDoors 41 = .ok (.if_icmp .ne 11, 3) := by decide +kernel
theorem dX5_readDoors_44 : decode cX5_readDoors 44 = .ok (.aload_n 0, 1) := by decide +kernel
theorem dX5_readDoors_45 : decode cX5_readDoors 45 = .ok (.iconst 3, 1) := by decide +kernel
theorem dX5_readDoors_46 : decode cX5_readDoors 46 = .ok (.invokevirtual 54, 3) := by decide +kernel
theorem dX5_readDoors_49 : decode cX5_readDoors 49 = .ok (.ifCond .eq 7, 3) := by decide +kernel
theorem dX5_readDoors_52 : decode cX5_readDoors 52 = .ok (.iconst 1, 1) := by decide +kernel
theorem dX5_readDoors_53 : decode cX5_readDoors 53 = .ok (.goto 4, 3) := by decide +kernel
theorem dX5_readDoors_56 : decode cX5_readDoors 56 = .ok (.iconst 0, 1) := by decide +kernel
theorem dX5_readDoors_57 : decode cX5_readDoors 57 = .ok (.ireturn, 1) := by decide +kernel
theorem dX5_readDoor_0 : decode cX5_readDoor 0 = .ok (.aload_n 0, 1) := by decide +kernel
theorem dX5_readDoor_1 : decode cX5_readDoor 1 = .ok (.dup, 1) := by decide +kernel
theorem dX5_readDoor_2 : decode cX5_readDoor 2 = .ok (.getfield 17, 3) := by decide +kernel
theorem dX5_readDoor_5 : decode cX5_readDoor 5 = .ok (.iconst 1, 1) := by decide +kernel
theorem dX5_readDoor_6 : decode cX5_readDoor 6 = .ok (.iadd, 1) := by decide +kernel
theorem dX5_readDoor_7 : decode cX5_readDoor 7 = .ok (.putfield 17, 3) := by decide +kernel
theorem dX5_readDoor_10 : decode cX5_readDoor 10 = .ok (.aload_n 0, 1) := by decide +kernel
theorem dX5_readDoor_11 : decode cX5_readDoor 11 = .ok (.iconst 0, 1) := by decide +kernel
theorem dX5_readDoor_12 : decode cX5_readDoor 12 = .ok (.aload_n 1, 1) := by decide +kernel
theorem dX5_readDoor_13 : decode cX5_readDoor 13 = .ok (.getfield 57, 3) := by decide +kernel
theorem dX5_readDoor_16 : decode cX5_readDoor 16 = .ok (.iconst 1, 1) := by decide +kernel
theorem dX5_readDoor_17 : decode cX5_readDoor 17 = .ok (.isub, 1) := by decide +kernel
theorem dX5_readDoor_18 : decode cX5_readDoor 18 = .ok (.invokevirtual 39, 3) := by decide +kernel
theorem dX5_readDoor_21 : decode cX5_readDoor 21 = .ok (.istore_n 2, 1) := by decide +kernel
theorem dX5_readDoor_22 : decode cX5_readDoor 22 = .ok (.iload_n 2, 1) := by decide +kernel
theorem dX5_readDoor_23 : decode cX5_readDoor 23 = .ok (.iconst (-1), 1) := by decide +kernel
theorem dX5_readDoor_24 : decode cX5_readDoor 24 = .ok (.if_icmp .eq 12, 3) := by decide +kernel
theorem dX5_readDoor_27 : decode cX5_readDoor 27 = .ok (.aload_n 0, 1) := by decide +kernel
theorem dX5_readDoor_28 : decode cX5_readDoor 28 = .ok (.bipush 44, 2) := by decide +kernel
theorem dX5_readDoor_30 : decode cX5_readDoor 30 = .ok (.invokevirtual 35, 3) := by decide +kernel
theorem dX5_readDoor_33 : decode cX5_readDoor 33 = .ok (.ifCond .ne 5, 3) := by decide +kernel
theorem dX5_readDoor_36 : decode cX5_readDoor 36 = .ok (.iconst 0, 1) := by decide +kernel
theorem dX5_readDoor_37 : decode cX5_readDoor 37 = .ok (.ireturn, 1) := by decide +kernel
theorem dX5_readDoor_38 : decode cX5_readDoor 38 = .ok (.aload_n 0, 1) := by decide +kernel
theorem dX5_readDoor_39 : decode cX5_readDoor 39 = .ok (.getfield 17, 3) := by decide +kernel
theorem dX5_readDoor_42 : decode cX5_readDoor 42 = .ok (.istore_n 3, 1) := by decide +kernel
theorem dX5_readDoor_43 : decode cX5_readDoor 43 = .ok (.aload_n 0, 1) := by decide +kernel
theorem dX5_readDoor_44 : decode cX5_readDoor 44 = .ok (.iconst 0, 1) := by decide +kernel
theorem dX5_readDoor_45 : decode cX5_readDoor 45 = .ok (.aload_n 1, 1) := by decide +kernel
theorem dX5_readDoor_46 : decode cX5_readDoor 46 = .ok (.getfield 57, 3) := by decide +kernel
theorem dX5_readDoor_49 : decode cX5_readDoor 49 = .ok (.iconst 1, 1) := by decide +kernel
theorem dX5_readDoor_50 : decode cX5_readDoor 50 = .ok (.isub, 1) := by decide +kernel
theorem dX5_readDoor_51 : decode cX5_readDoor 51 = .ok (.invokevirtual 39, 3) := by decide +kernel
theorem dX5_readDoor_54 : decode cX5_readDoor 54 = .ok (.istore 4, 2) := by decide +kernel
theorem dX5_readDoor_56 : decode cX5_readDoor 56 = .ok (.iload 4, 2) := by decide +kernel
theorem dX5_readDoor_58 : decode cX5_readDoor 58 = .ok (.iconst (-1), 1) := by decide +kernel
theorem dX5_readDoor_59 : decode cX5_readDoor 59 = .ok (.if_icmp .ne 5, 3) := by decide +kernel
theorem dX5_readDoor_62 : decode cX5_readDoor 62 = .ok (.iconst 0, 1) := by decide +kernel
theorem dX5_readDoor_63 : decode cX5_readDoor 63 = .ok (.ireturn, 1) := by decide +kernel
theorem dX5_readDoor_64 : decode cX5_readDoor 64 = .ok (.iload 4, 2) := by decide +kernel
theorem dX5_readDoor_66 : decode cX5_readDoor 66 = .ok (.iload_n 2, 1) := by decide +kernel
theorem dX5_readDoor_67 : decode cX5_readDoor 67 = .ok (.if_icmp .ne 14, 3) := by decide +kernel
theorem dX5_readDoor_70 : decode cX5_readDoor 70 = .ok (.aload_n 0, 1) := by decide +kernel
theorem dX5_readDoor_71 : decode cX5_readDoor 71 = .ok (.iload_n 3, 1) := by decide +kernel
theorem dX5_readDoor_72 : decode cX5_readDoor 72 = .ok (.putfield 17, 3) := by decide +kernel
theorem dX5_readDoor_75 : decode cX5_readDoor 75 = .ok (.aload_n 0, 1) := by decide +kernel
theorem dX5_readDoor_76 : decode cX5_readDoor 76 = .ok (.iconst 2, 1) := by decide +kernel
theorem dX5_readDoor_77 : decode cX5_readDoor 77 = .ok (.invokevirtual 54, 3) := by decide +kernel
theorem dX5_readDoor_80 : decode cX5_readDoor 80 = .ok (.ireturn, 1) := by decide +kernel
theorem dX5_readDoor_81 : decode cX5_readDoor 81 = .ok (.aload_n 0, 1) := by decide +kernel
theorem dX5_readDoor_82 : decode cX5_readDoor 82 = .ok (.bipush 44, 2) := by decide +kernel
theorem dX5_readDoor_84 : decode cX5_readDoor 84 = .ok (.invokevirtual 35, 3) := by decide +kernel
theorem dX5_readDoor_87 : decode cX5_readDoor 87 = .ok (.ifCond .ne 5, 3) := by decide +kernel
theorem dX5_readDoor_90 : decode cX5_readDoor 90 = .ok (.iconst 0, 1) := by decide +kernel
theorem dX5_readDoor_91 : decode cX5_readDoor 91 = .ok (.ireturn, 1) := by decide +kernel
theorem dX5_readDoor_92 : decode cX5_readDoor 92 = .ok (.aload_n 0, 1) := by decide +kernel
theorem dX5_readDoor_93 : decode cX5_readDoor 93 = .ok (.iconst 0, 1) := by decide +kernel
theorem dX5_readDoor_94 : decode cX5_readDoor 94 = .ok (.iconst 1, 1) := by decide +kernel
theorem dX5_readDoor_95 : decode cX5_readDoor 95 = .ok (.invokevirtual 39, 3) := by decide +kernel
theorem dX5_readDoor_98 : decode cX5_readDoor 98 = .ok (.istore 5, 2) := by decide +kernel
theorem dX5_readDoor_100 : decode cX5_readDoor 100 = .ok (.iload 5, 2) := by decide +kernel
theorem dX5_readDoor_102 : decode cX5_readDoor 102 = .ok (.iconst (-1), 1) := by decide +kernel
theorem dX5_readDoor_103 : decode cX5_readDoor 103 = .ok (.if_icmp .eq 12, 3) := by decide +kernel
theorem dX5_readDoor_106 : decode cX5_readDoor 106 = .ok (.aload_n 0, 1) := by decide +kernel
theorem dX5_readDoor_107 : decode cX5_readDoor 107 = .ok (.bipush 59, 2) := by decide +kernel
theorem dX5_readDoor_109 : decode cX5_readDoor 109 = .ok (.invokevirtual 35, 3) := by decide +kernel
theorem dX5_readDoor_112 : decode cX5_readDoor 112 = .ok (.ifCond .ne 5, 3) := by decide +kernel
theorem dX5_readDoor_115 : decode cX5_readDoor 115 = .ok (.iconst 0, 1) := by decide +kernel
theorem dX5_readDoor_116 : decode cX5_readDoor 116 = .ok (.ireturn, 1) := by decide +kernel
theorem dX5_readDoor_117 : decode cX5_readDoor 117 = .ok (.aload_n 1, 1) := by decide +kernel
theorem dX5_readDoor_118 : decode cX5_readDoor 118 = .ok (.iload_n 2, 1) := by decide +kernel
theorem dX5_readDoor_119 : decode cX5_readDoor 119 = .ok (.iload 4, 2) := by decide +kernel
theorem dX5_readDoor_121 : decode cX5_readDoor 121 = .ok (.iload 5, 2) := by decide +kernel
theorem dX5_readDoor_123 : decode cX5_readDoor 123 = .ok (.iconst 1, 1) := by decide +kernel
theorem dX5_readDoor_124 : decode cX5_readDoor 124 = .ok (.if_icmp .ne 7, 3) := by decide +kernel
theorem dX5_readDoor_127 : decode cX5_readDoor 127 = .ok (.iconst 1, 1) := by decide +kernel
theorem dX5_readDoor_128 : decode cX5_readDoor 128 = .ok (.goto 4, 3) := by decide +kernel
theorem dX5_readDoor_131 : decode cX5_readDoor 131 = .ok (.iconst 0, 1) := by decide +kernel
theorem dX5_readDoor_132 : decode cX5_readDoor 132 = .ok (.invokevirtual 60, 3) := by decide +kernel
theorem dX5_readDoor_135 : decode cX5_readDoor 135 = .ok (.iconst 1, 1) := by decide +kernel
theorem dX5_readDoor_136 : decode cX5_readDoor 136 = .ok (.ireturn, 1) := by decide +kernel
theorem dX5_readSitters_0 : decode cX5_readSitters 0 = .ok (.iconst 0, 1) := by decide +kernel
theorem dX5_readSitters_1 : decode cX5_readSitters 1 = .ok (.istore_n 2, 1) := by decide +kernel
theorem dX5_readSitters_2 : decode cX5_readSitters 2 = .ok (.iload_n 2, 1) := by decide +kernel
theorem dX5_readSitters_3 : decode cX5_readSitters 3 = .ok (.iconst 5, 1) := by decide +kernel
theorem dX5_readSitters_4 : decode cX5_readSitters 4 = .ok (.if_icmp .ge 29, 3) := by decide +kernel
theorem dX5_readSitters_7 : decode cX5_readSitters 7 = .ok (.aload_n 0, 1) := by decide +kernel
theorem dX5_readSitters_8 : decode cX5_readSitters 8 = .ok (.invokevirtual 47, 3) := by decide +kernel
theorem dX5_readSitters_11 : decode cX5_readSitters 11 = .ok (.iconst (-1), 1) := by decide +kernel
theorem dX5_readSitters_12 : decode cX5_readSitters 12 = .ok (.if_icmp .ne 5, 3) := by decide +kernel
theorem dX5_readSitters_15 : decode cX5_readSitters 15 = .ok (.iconst 1, 1) := by decide +kernel
theorem dX5_readSitters_16 : decode cX5_readSitters 16 = .ok (.ireturn, 1) := by decide +kernel
theorem dX5_readSitters_17 : decode cX5_readSitters 17 = .ok (.aload_n 0, 1) := by decide +kernel
theorem dX5_readSitters_18 : decode cX5_readSitters 18 = .ok (.aload_n 1, 1) := by decide +kernel
theorem dX5_readSitters_19 : decode cX5_readSitters 19 = .ok (.invokevirtual 64, 3) := by decide +kernel
theorem dX5_readSitters_22 : decode cX5_readSitters 22 = .ok (.ifCond .ne 5, 3) := by decide +kernel
theorem dX5_readSitters_25 : decode cX5_readSitters 25 = .ok (.iconst 0, 1) := by decide +kernel
theorem dX5_readSitters_26 : decode cX5_readSitters 26 = .ok (.ireturn, 1) := by decide +kernel
theorem dX5_readSitters_27 : decode cX5_readSitters 27 = .ok (.iinc 2 1, 3) := by decide +kernel
theorem dX5_readSitters_30 : decode cX5_readSitters 30 = .ok (.goto (-28), 3) := by decide +kernel
theorem dX5_readSitters_33 : decode cX5_readSitters 33 = .ok (.aload_n 0, 1) := by decide +kernel
theorem dX5_readSitters_34 : decode cX5_readSitters 34 = .ok (.invokevirtual 47, 3) := by decide +kernel
theorem dX5_readSitters_37 : decode cX5_readSitters 37 = .ok (.iconst (-1), 1) := by decide +kernel
theorem dX5_readSitters_38 : decode cX5_readSitters 38 = .ok (.if_icmp .ne 5, 3) := by decide +kernel
theorem dX5_readSitters_41 : decode cX5_readSitters 41 = .ok (.iconst 1, 1) := by decide +kernel
theorem dX5_readSitters_42 : decode cX5_readSitters 42 = .ok (.ireturn, 1) := by decide +kernel
theorem dX5_readSitters_43 : decode cX5_readSitters 43 = .ok (.aload_n 0, 1) := by decide +kernel
theorem dX5_readSitters_44 : decode cX5_readSitters 44 = .ok (.aload_n 0, 1) := by decide +kernel
theorem dX5_readSitters_45 : decode cX5_readSitters 45 = .ok (.invokevirtual 47, 3) := by decide +kernel
theorem dX5_readSitters_48 : decode cX5_readSitters 48 = .ok (.invokestatic 67, 3) := by decide +kernel
theorem dX5_readSitters_51 : decode cX5_readSitters 51 = .ok (.ifCond .ne 7, 3) := by decide +kernel
theorem dX5_readSitters_54 : decode cX5_readSitters 54 = .ok (.iconst 1, 1) := by decide +kernel
theorem dX5_readSitters_55 : decode cX5_readSitters 55 = .ok (.goto 4, 3) := by decide +kernel
theorem dX5_readSitters_58 : decode cX5_readSitters 58 = .ok (.iconst 3, 1) := by decide +kernel
theorem dX5_readSitters_59 : decode cX5_readSitters 59 = .ok (.invokevirtual 54, 3) := by decide +kernel
theorem dX5_readSitters_62 : decode cX5_readSitters 62 = .ok (.ireturn, 1) := by decide +kernel
theorem dX5_readSitter_0 : decode cX5_readSitter 0 = .ok (.aload_n 0, 1) := by decide +kernel
theorem dX5_readSitter_1 : decode cX5_readSitter 1 = .ok (.invokevirtual 47, 3) := by decide +kernel
theorem dX5_readSitter_4 : decode cX5_readSitter 4 = .ok (.invokestatic 67, 3) := by decide +kernel
theorem dX5_readSitter_7 : decode cX5_readSitter 7 = .ok (.istore_n 2, 1) := by decide +kernel
theorem dX5_readSitter_8 : decode cX5_readSitter 8 = .ok (.iload_n 2, 1) := by decide +kernel
theorem dX5_readSitter_9 : decode cX5_readSitter 9 = .ok (.ifCond .ne 9, 3) := by decide +kernel
theorem dX5_readSitter_12 : decode cX5_readSitter 12 = .ok (.aload_n 0, 1) := by decide +kernel
theorem dX5_readSitter_13 : decode cX5_readSitter 13 = .ok (.iconst 1, 1) := by decide +kernel
theorem dX5_readSitter_14 : decode cX5_readSitter 14 = .ok (.invokevirtual 54, 3) := by decide +kernel
theorem dX5_readSitter_17 : decode cX5_readSitter 17 = .ok (.ireturn, 1) := by decide +kernel
theorem dX5_readSitter_18 : decode cX5_readSitter 18 = .ok (.aload_n 0, 1) := by decide +kernel
theorem dX5_readSitter_19 : decode cX5_readSitter 19 = .ok (.dup, 1) := by decide +kernel
theorem dX5_readSitter_20 : decode cX5_readSitter 20 = .ok (.getfield 17, 3) := by decide +kernel
theorem dX5_readSitter_23 : decode cX5_readSitter 23 = .ok (.iconst 1, 1) := by decide +kernel
theorem dX5_readSitter_24 : decode cX5_readSitter 24 = .ok (.iadd, 1) := by decide +kernel
theorem dX5_readSitter_25 : decode cX5_readSitter 25 = .ok (.putfield 17, 3) := by decide +kernel
theorem dX5_readSitter_28 : decode cX5_readSitter 28 = .ok (.aload_n 0, 1) := by decide +kernel
theorem dX5_readSitter_29 : decode cX5_readSitter 29 = .ok (.iconst 0, 1) := by decide +kernel
theorem dX5_readSitter_30 : decode cX5_readSitter 30 = .ok (.aload_n 1, 1) := by decide +kernel
theorem dX5_readSitter_31 : decode cX5_readSitter 31 = .ok (.getfield 57, 3) := by decide +kernel
theorem dX5_readSitter_34 : decode cX5_readSitter 34 = .ok (.iconst 1, 1) := by decide +kernel
theorem dX5_readSitter_35 : decode cX5_readSitter 35 = .ok (.isub, 1) := by decide +kernel
theorem dX5_readSitter_36 : decode cX5_readSitter 36 = .ok (.invokevirtual 39, 3) := by decide +kernel
theorem dX5_readSitter_39 : decode cX5_readSitter 39 = .ok (.istore_n 3, 1) := by decide +kernel
theorem dX5_readSitter_40 : decode cX5_readSitter 40 = .ok (.iload_n 3, 1) := by decide +kernel
theorem dX5_readSitter_41 : decode cX5_readSitter 41 = .ok (.iconst (-1), 1) := by decide +kernel
theorem dX5_readSitter_42 : decode cX5_readSitter 42 = .ok (.if_icmp .eq 12, 3) := by decide +kernel
theorem dX5_readSitter_45 : decode cX5_readSitter 45 = .ok (.aload_n 0, 1) := by decide +kernel
theorem dX5_readSitter_46 : decode cX5_readSitter 46 = .ok (.bipush 44, 2) := by decide +kernel
theorem dX5_readSitter_48 : decode cX5_readSitter 48 = .ok (.invokevirtual 35, 3) := by decide +kernel
theorem dX5_readSitter_51 : decode cX5_readSitter 51 = .ok (.ifCond .ne 5, 3) := by decide +kernel
theorem dX5_readSitter_54 : decode cX5_readSitter 54 = .ok (.iconst 0, 1) := by decide +kernel
theorem dX5_readSitter_55 : decode cX5_readSitter 55 = .ok (.ireturn, 1) := by decide +kernel
theorem dX5_readSitter_56 : decode cX5_readSitter 56 = .ok (.aload_n 0, 1) := by decide +kernel
theorem dX5_readSitter_57 : decode cX5_readSitter 57 = .ok (.iconst 0, 1) := by decide +kernel
theorem dX5_readSitter_58 : decode cX5_readSitter 58 = .ok (.bipush 20, 2) := by decide +kernel
theorem dX5_readSitter_60 : decode cX5_readSitter 60 = .ok (.invokevirtual 39, 3) := by decide +kernel
theorem dX5_readSitter_63 : decode cX5_readSitter 63 = .ok (.istore 4, 2) := by decide +kernel
theorem dX5_readSitter_65 : decode cX5_readSitter 65 = .ok (.iload 4, 2) := by decide +kernel
theorem dX5_readSitter_67 : decode cX5_readSitter 67 = .ok (.iconst (-1), 1) := by decide +kernel
theorem dX5_readSitter_68 : decode cX5_readSitter 68 = .ok (.if_icmp .eq 12, 3) := by decide +kernel
theorem dX5_readSitter_71 : decode cX5_readSitter 71 = .ok (.aload_n 0, 1) := by decide +kernel
theorem dX5_readSitter_72 : decode cX5_readSitter 72 = .ok (.bipush 59, 2) := by decide +kernel
theorem dX5_readSitter_74 : decode cX5_readSitter 74 = .ok (.invokevirtual 35, 3) := by decide +kernel
theorem dX5_readSitter_77 : decode cX5_readSitter 77 = .ok (.ifCond .ne 5, 3) := by decide +kernel
theorem dX5_readSitter_80 : decode cX5_readSitter 80 = .ok (.iconst 0, 1) := by decide +kernel
theorem dX5_readSitter_81 : decode cX5_readSitter 81 = .ok (.ireturn, 1) := by decide +kernel
theorem dX5_readSitter_82 : decode cX5_readSitter 82 = .ok (.aload_n 1, 1) := by decide +kernel
theorem dX5_readSitter_83 : decode cX5_readSitter 83 = .ok (.iload_n 2, 1) := by decide +kernel
theorem dX5_readSitter_84 : decode cX5_readSitter 84 = .ok (.iload_n 3, 1) := by decide +kernel
theorem dX5_readSitter_85 : decode cX5_readSitter 85 = .ok (.iload 4, 2) := by decide +kernel
theorem dX5_readSitter_87 : decode cX5_readSitter 87 = .ok (.invokevirtual 71, 3) := by decide +kernel
theorem dX5_readSitter_90 : decode cX5_readSitter 90 = .ok (.iconst 1, 1) := by decide +kernel
theorem dX5_readSitter_91 : decode cX5_readSitter 91 = .ok (.ireturn, 1) := by decide +kernel
theorem dX5_kindOfLetter_0 : decode cX5_kindOfLetter 0 = .ok (.iload_n 0, 1) := by decide +kernel
theorem dX5_kindOfLetter_1 : decode cX5_kindOfLetter 1 = .ok (.tableswitch 85 102 116 #[81, 85, 85, 83, 85, 85, 85, 85, 85, 85, 77, 85, 75, 85, 79], 75) := by decide +kernel
theorem dX5_kindOfLetter_76 : decode cX5_kindOfLetter 76 = .ok (.iconst 1, 1) := by decide +kernel
theorem dX5_kindOfLetter_77 : decode cX5_kindOfLetter 77 = .ok (.ireturn, 1) := by decide +kernel
theorem dX5_kindOfLetter_78 : decode cX5_kindOfLetter 78 = .ok (.iconst 2, 1) := by decide +kernel
theorem dX5_kindOfLetter_79 : decode cX5_kindOfLetter 79 = .ok (.ireturn, 1) := by decide +kernel
theorem dX5_kindOfLetter_80 : decode cX5_kindOfLetter 80 = .ok (.iconst 3, 1) := by decide +kernel
theorem dX5_kindOfLetter_81 : decode cX5_kindOfLetter 81 = .ok (.ireturn, 1) := by decide +kernel
theorem dX5_kindOfLetter_82 : decode cX5_kindOfLetter 82 = .ok (.iconst 4, 1) := by decide +kernel
theorem dX5_kindOfLetter_83 : decode cX5_kindOfLetter 83 = .ok (.ireturn, 1) := by decide +kernel
theorem dX5_kindOfLetter_84 : decode cX5_kindOfLetter 84 = .ok (.iconst 5, 1) := by decide +kernel
theorem dX5_kindOfLetter_85 : decode cX5_kindOfLetter 85 = .ok (.ireturn, 1) := by decide +kernel
theorem dX5_kindOfLetter_86 : decode cX5_kindOfLetter 86 = .ok (.iconst 0, 1) := by decide +kernel
theorem dX5_kindOfLetter_87 : decode cX5_kindOfLetter 87 = .ok (.ireturn, 1) := by decide +kernel
theorem dX5_takeSign_0 : decode cX5_takeSign 0 = .ok (.aload_n 0, 1) := by decide +kernel
theorem dX5_takeSign_1 : decode cX5_takeSign 1 = .ok (.invokevirtual 47, 3) := by decide +kernel
theorem dX5_takeSign_4 : decode cX5_takeSign 4 = .ok (.iload_n 1, 1) := by decide +kernel
theorem dX5_takeSign_5 : decode cX5_takeSign 5 = .ok (.if_icmp .eq 9, 3) := by decide +kernel
theorem dX5_takeSign_8 : decode cX5_takeSign 8 = .ok (.aload_n 0, 1) := by decide +kernel
theorem dX5_takeSign_9 : decode cX5_takeSign 9 = .ok (.iconst 1, 1) := by decide +kernel
theorem dX5_takeSign_10 : decode cX5_takeSign 10 = .ok (.invokevirtual 54, 3) := by decide +kernel
theorem dX5_takeSign_13 : decode cX5_takeSign 13 = .ok (.ireturn, 1) := by decide +kernel
theorem dX5_takeSign_14 : decode cX5_takeSign 14 = .ok (.aload_n 0, 1) := by decide +kernel
theorem dX5_takeSign_15 : decode cX5_takeSign 15 = .ok (.dup, 1) := by decide +kernel
theorem dX5_takeSign_16 : decode cX5_takeSign 16 = .ok (.getfield 17, 3) := by decide +kernel
theorem dX5_takeSign_19 : decode cX5_takeSign 19 = .ok (.iconst 1, 1) := by decide +kernel
theorem dX5_takeSign_20 : decode cX5_takeSign 20 = .ok (.iadd, 1) := by decide +kernel
theorem dX5_takeSign_21 : decode cX5_takeSign 21 = .ok (.putfield 17, 3) := by decide +kernel
theorem dX5_takeSign_24 : decode cX5_takeSign 24 = .ok (.iconst 1, 1) := by decide +kernel
theorem dX5_takeSign_25 : decode cX5_takeSign 25 = .ok (.ireturn, 1) := by decide +kernel
theorem dX5_takeNumber_0 : decode cX5_takeNumber 0 = .ok (.aload_n 0, 1) := by decide +kernel
theorem dX5_takeNumber_1 : decode cX5_takeNumber 1 = .ok (.invokevirtual 75, 3) := by decide +kernel
theorem dX5_takeNumber_4 : decode cX5_takeNumber 4 = .ok (.istore_n 3, 1) := by decide +kernel
theorem dX5_takeNumber_5 : decode cX5_takeNumber 5 = .ok (.iload_n 3, 1) := by decide +kernel
theorem dX5_takeNumber_6 : decode cX5_takeNumber 6 = .ok (.ifCond .eq 8, 3) := by decide +kernel
theorem dX5_takeNumber_9 : decode cX5_takeNumber 9 = .ok (.iload_n 3, 1) := by decide +kernel
theorem dX5_takeNumber_10 : decode cX5_takeNumber 10 = .ok (.iconst 2, 1) := by decide +kernel
theorem dX5_takeNumber_11 : decode cX5_takeNumber 11 = .ok (.if_icmp .le 11, 3) := by decide +kernel
theorem dX5_takeNumber_14 : decode cX5_takeNumber 14 = .ok (.aload_n 0, 1) := by decide +kernel
theorem dX5_takeNumber_15 : decode cX5_takeNumber 15 = .ok (.iconst 1, 1) := by decide +kernel
theorem dX5_takeNumber_16 : decode cX5_takeNumber 16 = .ok (.invokevirtual 54, 3) := by decide +kernel
theorem dX5_takeNumber_19 : decode cX5_takeNumber 19 = .ok (.pop, 1) := by decide +kernel
theorem dX5_takeNumber_20 : decode cX5_takeNumber 20 = .ok (.iconst (-1), 1) := by decide +kernel
theorem dX5_takeNumber_21 : decode cX5_takeNumber 21 = .ok (.ireturn, 1) := by decide +kernel
theorem dX5_takeNumber_22 : decode cX5_takeNumber 22 = .ok (.iconst 0, 1) := by decide +kernel
theorem dX5_takeNumber_23 : decode cX5_takeNumber 23 = .ok (.istore 4, 2) := by decide +kernel
theorem dX5_takeNumber_25 : decode cX5_takeNumber 25 = .ok (.iconst 0, 1) := by decide +kernel
theorem dX5_takeNumber_26 : decode cX5_takeNumber 26 = .ok (.istore 5, 2) := by decide +kernel
theorem dX5_takeNumber_28 : decode cX5_takeNumber 28 = .ok (.iload 5, 2) := by decide +kernel
theorem dX5_takeNumber_30 : decode cX5_takeNumber 30 = .ok (.iload_n 3, 1) := by decide +kernel
theorem dX5_takeNumber_31 : decode cX5_takeNumber 31 = .ok (.if_icmp .ge 32, 3) := by decide +kernel
theorem dX5_takeNumber_34 : decode cX5_takeNumber 34 = .ok (.iload 4, 2) := by decide +kernel
theorem dX5_takeNumber_36 : decode cX5_takeNumber 36 = .ok (.bipush 10, 2) := by decide +kernel
theorem dX5_takeNumber_38 : decode cX5_takeNumber 38 = .ok (.imul, 1) := by decide +kernel
theorem dX5_takeNumber_39 : decode cX5_takeNumber 39 = .ok (.aload_n 0, 1) := by decide +kernel
theorem dX5_takeNumber_40 : decode cX5_takeNumber 40 = .ok (.getfield 9, 3) := by decide +kernel
theorem dX5_takeNumber_43 : decode cX5_takeNumber 43 = .ok (.aload_n 0, 1) := by decide +kernel
theorem dX5_takeNumber_44 : decode cX5_takeNumber 44 = .ok (.getfield 17, 3) := by decide +kernel
theorem dX5_takeNumber_47 : decode cX5_takeNumber 47 = .ok (.iload 5, 2) := by decide +kernel
theorem dX5_takeNumber_49 : decode cX5_takeNumber 49 = .ok (.iadd, 1) := by decide +kernel
theorem dX5_takeNumber_50 : decode cX5_takeNumber 50 = .ok (.iaload, 1) := by decide +kernel
theorem dX5_takeNumber_51 : decode cX5_takeNumber 51 = .ok (.iadd, 1) := by decide +kernel
theorem dX5_takeNumber_52 : decode cX5_takeNumber 52 = .ok (.bipush 48, 2) := by decide +kernel
theorem dX5_takeNumber_54 : decode cX5_takeNumber 54 = .ok (.isub, 1) := by decide +kernel
theorem dX5_takeNumber_55 : decode cX5_takeNumber 55 = .ok (.istore 4, 2) := by decide +kernel
theorem dX5_takeNumber_57 : decode cX5_takeNumber 57 = .ok (.iinc 5 1, 3) := by decide +kernel
theorem dX5_takeNumber_60 : decode cX5_takeNumber 60 = .ok (.goto (-32), 3) := by decide +kernel
theorem dX5_takeNumber_63 : decode cX5_takeNumber 63 = .ok (.iload 4, 2) := by decide +kernel
theorem dX5_takeNumber_65 : decode cX5_takeNumber 65 = .ok (.iload_n 1, 1) := by decide +kernel
theorem dX5_takeNumber_66 : decode cX5_takeNumber 66 = .ok (.if_icmp .lt 9, 3) := by decide +kernel
theorem dX5_takeNumber_69 : decode cX5_takeNumber 69 = .ok (.iload 4, 2) := by decide +kernel
theorem dX5_takeNumber_71 : decode cX5_takeNumber 71 = .ok (.iload_n 2, 1) := by decide +kernel
theorem dX5_takeNumber_72 : decode cX5_takeNumber 72 = .ok (.if_icmp .le 11, 3) := by decide +kernel
theorem dX5_takeNumber_75 : decode cX5_takeNumber 75 = .ok (.aload_n 0, 1) := by decide +kernel
theorem dX5_takeNumber_76 : decode cX5_takeNumber 76 = .ok (.iconst 2, 1) := by decide +kernel
theorem dX5_takeNumber_77 : decode cX5_takeNumber 77 = .ok (.invokevirtual 54, 3) := by decide +kernel
theorem dX5_takeNumber_80 : decode cX5_takeNumber 80 = .ok (.pop, 1) := by decide +kernel
theorem dX5_takeNumber_81 : decode cX5_takeNumber 81 = .ok (.iconst (-1), 1) := by decide +kernel
theorem dX5_takeNumber_82 : decode cX5_takeNumber 82 = .ok (.ireturn, 1) := by decide +kernel
theorem dX5_takeNumber_83 : decode cX5_takeNumber 83 = .ok (.aload_n 0, 1) := by decide +kernel
theorem dX5_takeNumber_84 : decode cX5_takeNumber 84 = .ok (.dup, 1) := by decide +kernel
theorem dX5_takeNumber_85 : decode cX5_takeNumber 85 = .ok (.getfield 17, 3) := by decide +kernel
theorem dX5_takeNumber_88 : decode cX5_takeNumber 88 = .ok (.iload_n 3, 1) := by decide +kernel
theorem dX5_takeNumber_89 : decode cX5_takeNumber 89 = .ok (.iadd, 1) := by decide +kernel
theorem dX5_takeNumber_90 : decode cX5_takeNumber 90 = .ok (.putfield 17, 3) := by decide +kernel
theorem dX5_takeNumber_93 : decode cX5_takeNumber 93 = .ok (.iload 4, 2) := by decide +kernel
theorem dX5_takeNumber_95 : decode cX5_takeNumber 95 = .ok (.ireturn, 1) := by decide +kernel
theorem dX5_figuresAhead_0 : decode cX5_figuresAhead 0 = .ok (.aload_n 0, 1) := by decide +kernel
theorem dX5_figuresAhead_1 : decode cX5_figuresAhead 1 = .ok (.getfield 17, 3) := by decide +kernel
theorem dX5_figuresAhead_4 : decode cX5_figuresAhead 4 = .ok (.istore_n 1, 1) := by decide +kernel
theorem dX5_figuresAhead_5 : decode cX5_figuresAhead 5 = .ok (.iload_n 1, 1) := by decide +kernel
theorem dX5_figuresAhead_6 : decode cX5_figuresAhead 6 = .ok (.aload_n 0, 1) := by decide +kernel
theorem dX5_figuresAhead_7 : decode cX5_figuresAhead 7 = .ok (.getfield 13, 3) := by decide +kernel
theorem dX5_figuresAhead_10 : decode cX5_figuresAhead 10 = .ok (.if_icmp .ge 31, 3) := by decide +kernel
theorem dX5_figuresAhead_13 : decode cX5_figuresAhead 13 = .ok (.aload_n 0, 1) := by decide +kernel
theorem dX5_figuresAhead_14 : decode cX5_figuresAhead 14 = .ok (.getfield 9, 3) := by decide +kernel
theorem dX5_figuresAhead_17 : decode cX5_figuresAhead 17 = .ok (.iload_n 1, 1) := by decide +kernel
theorem dX5_figuresAhead_18 : decode cX5_figuresAhead 18 = .ok (.iaload, 1) := by decide +kernel
theorem dX5_figuresAhead_19 : decode cX5_figuresAhead 19 = .ok (.bipush 48, 2) := by decide +kernel
theorem dX5_figuresAhead_21 : decode cX5_figuresAhead 21 = .ok (.if_icmp .lt 20, 3) := by decide +kernel
theorem dX5_figuresAhead_24 : decode cX5_figuresAhead 24 = .ok (.aload_n 0, 1) := by decide +kernel
theorem dX5_figuresAhead_25 : decode cX5_figuresAhead 25 = .ok (.getfield 9, 3) := by decide +kernel
theorem dX5_figuresAhead_28 : decode cX5_figuresAhead 28 = .ok (.iload_n 1, 1) := by decide +kernel
theorem dX5_figuresAhead_29 : decode cX5_figuresAhead 29 = .ok (.iaload, 1) := by decide +kernel
theorem dX5_figuresAhead_30 : decode cX5_figuresAhead 30 = .ok (.bipush 57, 2) := by decide +kernel
theorem dX5_figuresAhead_32 : decode cX5_figuresAhead 32 = .ok (.if_icmp .gt 9, 3) := by decide +kernel
theorem dX5_figuresAhead_35 : decode cX5_figuresAhead 35 = .ok (.iinc 1 1, 3) := by decide +kernel
theorem dX5_figuresAhead_38 : decode cX5_figuresAhead 38 = .ok (.goto (-33), 3) := by decide +kernel
theorem dX5_figuresAhead_41 : decode cX5_figuresAhead 41 = .ok (.iload_n 1, 1) := by decide +kernel
theorem dX5_figuresAhead_42 : decode cX5_figuresAhead 42 = .ok (.aload_n 0, 1) := by decide +kernel
theorem dX5_figuresAhead_43 : decode cX5_figuresAhead 43 = .ok (.getfield 17, 3) := by decide +kernel
theorem dX5_figuresAhead_46 : decode cX5_figuresAhead 46 = .ok (.isub, 1) := by decide +kernel
theorem dX5_figuresAhead_47 : decode cX5_figuresAhead 47 = .ok (.ireturn, 1) := by decide +kernel
theorem dX5_next_0 : decode cX5_next 0 = .ok (.aload_n 0, 1) := by decide +kernel
theorem dX5_next_1 : decode cX5_next 1 = .ok (.getfield 17, 3) := by decide +kernel
theorem dX5_next_4 : decode cX5_next 4 = .ok (.aload_n 0, 1) := by decide +kernel
theorem dX5_next_5 : decode cX5_next 5 = .ok (.getfield 13, 3) := by decide +kernel
theorem dX5_next_8 : decode cX5_next 8 = .ok (.if_icmp .ge 15, 3) := by decide +kernel
theorem dX5_next_11 : decode cX5_next 11 = .ok (.aload_n 0, 1) := by decide +kernel
theorem dX5_next_12 : decode cX5_next 12 = .ok (.getfield 9, 3) := by decide +kernel
theorem dX5_next_15 : decode cX5_next 15 = .ok (.aload_n 0, 1) := by decide +kernel
theorem dX5_next_16 : decode cX5_next 16 = .ok (.getfield 17, 3) := by decide +kernel
theorem dX5_next_19 : decode cX5_next 19 = .ok (.iaload, 1) := by decide +kernel
theorem dX5_next_20 : decode cX5_next 20 = .ok (.goto 4, 3) := by decide +kernel
theorem dX5_next_23 : decode cX5_next 23 = .ok (.iconst (-1), 1) := by decide +kernel
theorem dX5_next_24 : decode cX5_next 24 = .ok (.ireturn, 1) := by decide +kernel
theorem dX5_fail_0 : decode cX5_fail 0 = .ok (.aload_n 0, 1) := by decide +kernel
theorem dX5_fail_1 : decode cX5_fail 1 = .ok (.iload_n 1, 1) := by decide +kernel
theorem dX5_fail_2 : decode cX5_fail 2 = .ok (.putfield 78, 3) := by decide +kernel
theorem dX5_fail_5 : decode cX5_fail 5 = .ok (.aload_n 0, 1) := by decide +kernel
theorem dX5_fail_6 : decode cX5_fail 6 = .ok (.aload_n 0, 1) := by decide +kernel
theorem dX5_fail_7 : decode cX5_fail 7 = .ok (.getfield 17, 3) := by decide +kernel
theorem dX5_fail_10 : decode cX5_fail 10 = .ok (.putfield 81, 3) := by decide +kernel
theorem dX5_fail_13 : decode cX5_fail 13 = .ok (.iconst 0, 1) := by decide +kernel
theorem dX5_fail_14 : decode cX5_fail 14 = .ok (.ireturn, 1) := by decide +kernel
theorem dX6_init_0 : decode cX6_init 0 = .ok (.aload_n 0, 1) := by decide +kernel
theorem dX6_init_1 : decode cX6_init 1 = .ok (.invokespecial 1, 3) := by decide +kernel
theorem dX6_init_4 : decode cX6_init 4 = .ok (.aload_n 0, 1) := by decide +kernel
theorem dX6_init_5 : decode cX6_init 5 = .ok (.new 7, 3) := by decide +kernel
theorem dX6_init_8 : decode cX6_init 8 = .ok (.dup, 1) := by decide +kernel
theorem dX6_init_9 : decode cX6_init 9 = .ok (.invokespecial 9, 3) := by decide +kernel
theorem dX6_init_12 : decode cX6_init 12 = .ok (.putfield 10, 3) := by decide +kernel
theorem dX6_init_15 : decode cX6_init 15 = .ok (.aload_n 0, 1) := by decide +kernel
theorem dX6_init_16 : decode cX6_init 16 = .ok (.new 16, 3) := by decide +kernel
theorem dX6_init_19 : decode cX6_init 19 = .ok (.dup, 1) := by decide +kernel
theorem dX6_init_20 : decode cX6_init 20 = .ok (.invokespecial 18, 3) := by decide +kernel
theorem dX6_init_23 : decode cX6_init 23 = .ok (.putfield 19, 3) := by decide +kernel
theorem dX6_init_26 : decode cX6_init 26 = .ok (.aload_n 0, 1) := by decide +kernel
theorem dX6_init_27 : decode cX6_init 27 = .ok (.new 23, 3) := by decide +kernel
theorem dX6_init_30 : decode cX6_init 30 = .ok (.dup, 1) := by decide +kernel
theorem dX6_init_31 : decode cX6_init 31 = .ok (.invokespecial 25, 3) := by decide +kernel
theorem dX6_init_34 : decode cX6_init 34 = .ok (.putfield 26, 3) := by decide +kernel
theorem dX6_init_37 : decode cX6_init 37 = .ok (.aload_n 0, 1) := by decide +kernel
theorem dX6_init_38 : decode cX6_init 38 = .ok (.new 30, 3) := by decide +kernel
theorem dX6_init_41 : decode cX6_init 41 = .ok (.dup, 1) := by decide +kernel
theorem dX6_init_42 : decode cX6_init 42 = .ok (.invokespecial 32, 3) := by decide +kernel
theorem dX6_init_45 : decode cX6_init 45 = .ok (.putfield 33, 3) := by decide +kernel
theorem dX6_init_48 : decode cX6_init 48 = .ok (.aload_n 0, 1) := by decide +kernel
theorem dX6_init_49 : decode cX6_init 49 = .ok (.new 37, 3) := by decide +kernel
theorem dX6_init_52 : decode cX6_init 52 = .ok (.dup, 1) := by decide +kernel
theorem dX6_init_53 : decode cX6_init 53 = .ok (.invokespecial 39, 3) := by decide +kernel
theorem dX6_init_56 : decode cX6_init 56 = .ok (.putfield 40, 3) := by decide +kernel
theorem dX6_init_59 : decode cX6_init 59 = .ok (.aload_n 0, 1) := by decide +kernel
theorem dX6_init_60 : decode cX6_init 60 = .ok (.new 44, 3) := by decide +kernel
theorem dX6_init_63 : decode cX6_init 63 = .ok (.dup, 1) := by decide +kernel
theorem dX6_init_64 : decode cX6_init 64 = .ok (.invokespecial 46, 3) := by decide +kernel
theorem dX6_init_67 : decode cX6_init 67 = .ok (.putfield 47, 3) := by decide +kernel
theorem dX6_init_70 : decode cX6_init 70 = .ok (.aload_n 0, 1) := by decide +kernel
theorem dX6_init_71 : decode cX6_init 71 = .ok (.new 23, 3) := by decide +kernel
theorem dX6_init_74 : decode cX6_init 74 = .ok (.dup, 1) := by decide +kernel
theorem dX6_init_75 : decode cX6_init 75 = .ok (.invokespecial 25, 3) := by decide +kernel
theorem dX6_init_78 : decode cX6_init 78 = .ok (.putfield 51, 3) := by decide +kernel
theorem dX6_init_81 : decode cX6_init 81 = .ok (.aload_n 0, 1) := by decide +kernel
theorem dX6_init_82 : decode cX6_init 82 = .ok (.new 23, 3) := by decide +kernel
theorem dX6_init_85 : decode cX6_init 85 = .ok (.dup, 1) := by decide +kernel
theorem dX6_init_86 : decode cX6_init 86 = .ok (.invokespecial 25, 3) := by decide +kernel
theorem dX6_init_89 : decode cX6_init 89 = .ok (.putfield 54, 3) := by decide +kernel
theorem dX6_init_92 : decode cX6_init 92 = .ok (.return_, 1) := by decide +kernel
theorem dX6_row_0 : decode cX6_row 0 = .ok (.iload_n 1, 1) := by decide +kernel
theorem dX6_row_1 : decode cX6_row 1 = .ok (.invokestatic 57, 3) := by decide +kernel
theorem dX6_row_4 : decode cX6_row 4 = .ok (.ifCond .eq 18, 3) := by decide +kernel
theorem dX6_row_7 : decode cX6_row 7 = .ok (.iload_n 2, 1) := by decide +kernel
theorem dX6_row_8 : decode cX6_row 8 = .ok (.iconst 0, 1) := by decide +kernel
theorem dX6_row_9 : decode cX6_row 9 = .ok (.iconst 2, 1) := by decide +kernel
theorem dX6_row_10 : decode cX6_row 10 = .ok (.invokestatic 61, 3) := by decide +kernel
theorem dX6_row_13 : decode cX6_row 13 = .ok (.ifCond .eq 9, 3) := by decide +kernel
theorem dX6_row_16 : decode cX6_row 16 = .ok (.iload_n 3, 1) := by decide +kernel
theorem dX6_row_17 : decode cX6_row 17 = .ok (.bipush 40, 2) := by decide +kernel
theorem dX6_row_19 : decode cX6_row 19 = .ok (.if_icmp .le 6, 3) := by decide +kernel
theorem dX6_row_22 : decode cX6_row 22 = .ok (.ldc 65, 2) := by decide +kernel
theorem dX6_row_24 : decode cX6_row 24 = .ok (.ireturn, 1) := by decide +kernel
theorem dX6_row_25 : decode cX6_row 25 = .ok (.iload_n 3, 1) := by decide +kernel
theorem dX6_row_26 : decode cX6_row 26 = .ok (.ifCond .ge 9, 3) := by decide +kernel
theorem dX6_row_29 : decode cX6_row 29 = .ok (.aload_n 0, 1) := by decide +kernel
theorem dX6_row_30 : decode cX6_row 30 = .ok (.iconst 4, 1) := by decide +kernel
theorem dX6_row_31 : decode cX6_row 31 = .ok (.invokevirtual 66, 3) := by decide +kernel
theorem dX6_row_34 : decode cX6_row 34 = .ok (.ireturn, 1) := by decide +kernel
theorem dX6_row_35 : decode cX6_row 35 = .ok (.aload_n 0, 1) := by decide +kernel
theorem dX6_row_36 : decode cX6_row 36 = .ok (.getfield 10, 3) := by decide +kernel
theorem dX6_row_39 : decode cX6_row 39 = .ok (.iload_n 1, 1) := by decide +kernel
theorem dX6_row_40 : decode cX6_row 40 = .ok (.iload_n 2, 1) := by decide +kernel
theorem dX6_row_41 : decode cX6_row 41 = .ok (.iload_n 3, 1) := by decide +kernel
theorem dX6_row_42 : decode cX6_row 42 = .ok (.invokevirtual 70, 3) := by decide +kernel
theorem dX6_row_45 : decode cX6_row 45 = .ok (.aload_n 0, 1) := by decide +kernel
theorem dX6_row_46 : decode cX6_row 46 = .ok (.iload_n 3, 1) := by decide +kernel
theorem dX6_row_47 : decode cX6_row 47 = .ok (.invokevirtual 74, 3) := by decide +kernel
theorem dX6_row_50 : decode cX6_row 50 = .ok (.ireturn, 1) := by decide +kernel
theorem dX6_set_0 : decode cX6_set 0 = .ok (.iload_n 1, 1) := by decide +kernel
theorem dX6_set_1 : decode cX6_set 1 = .ok (.invokestatic 57, 3) := by decide +kernel
theorem dX6_set_4 : decode cX6_set 4 = .ok (.ifCond .ne 6, 3) := by decide +kernel
theorem dX6_set_7 : decode cX6_set 7 = .ok (.ldc 65, 2) := by decide +kernel
theorem dX6_set_9 : decode cX6_set 9 = .ok (.ireturn, 1) := by decide +kernel
theorem dX6_set_10 : decode cX6_set 10 = .ok (.aload_n 0, 1) := by decide +kernel
theorem dX6_set_11 : decode cX6_set 11 = .ok (.getfield 10, 3) := by decide +kernel
theorem dX6_set_14 : decode cX6_set 14 = .ok (.iload_n 1, 1) := by decide +kernel
theorem dX6_set_15 : decode cX6_set 15 = .ok (.invokevirtual 77, 3) := by decide +kernel
theorem dX6_set_18 : decode cX6_set 18 = .ok (.ifCond .eq 9, 3) := by decide +kernel
theorem dX6_set_21 : decode cX6_set 21 = .ok (.aload_n 0, 1) := by decide +kernel
theorem dX6_set_22 : decode cX6_set 22 = .ok (.iconst 1, 1) := by decide +kernel
theorem dX6_set_23 : decode cX6_set 23 = .ok (.invokevirtual 66, 3) := by decide +kernel
theorem dX6_set_26 : decode cX6_set 26 = .ok (.ireturn, 1) := by decide +kernel
theorem dX6_set_27 : decode cX6_set 27 = .ok (.aload_n 0, 1) := by decide +kernel
theorem dX6_set_28 : decode cX6_set 28 = .ok (.getfield 10, 3) := by decide +kernel
theorem dX6_set_31 : decode cX6_set 31 = .ok (.iload_n 1, 1) := by decide +kernel
theorem dX6_set_32 : decode cX6_set 32 = .ok (.iload_n 2, 1) := by decide +kernel
theorem dX6_set_33 : decode cX6_set 33 = .ok (.iconst 1, 1) := by decide +kernel
theorem dX6_set_34 : decode cX6_set 34 = .ok (.invokevirtual 80, 3) := by decide +kernel
theorem dX6_set_37 : decode cX6_set 37 = .ok (.ifCond .ne 9, 3) := by decide +kernel
theorem dX6_set_40 : decode cX6_set 40 = .ok (.aload_n 0, 1) := by decide +kernel
theorem dX6_set_41 : decode cX6_set 41 = .ok (.iconst 2, 1) := by decide +kernel
theorem dX6_set_42 : decode cX6_set 42 = .ok (.invokevirtual 66, 3) := by decide +kernel
theorem dX6_set_45 : decode cX6_set 45 = .ok (.ireturn, 1) := by decide +kernel
theorem dX6_set_46 : decode cX6_set 46 = .ok (.aload_n 0, 1) := by decide +kernel
theorem dX6_set_47 : decode cX6_set 47 = .ok (.aload_n 0, 1) := by decide +kernel
theorem dX6_set_48 : decode cX6_set 48 = .ok (.getfield 10, 3) := by decide +kernel
theorem dX6_set_51 : decode cX6_set 51 = .ok (.iload_n 1, 1) := by decide +kernel
theorem dX6_set_52 : decode cX6_set 52 = .ok (.iload_n 2, 1) := by decide +kernel
theorem dX6_set_53 : decode cX6_set 53 = .ok (.iload_n 3, 1) := by decide +kernel
theorem dX6_set_54 : decode cX6_set 54 = .ok (.invokevirtual 83, 3) := by decide +kernel
theorem dX6_set_57 : decode cX6_set 57 = .ok (.invokevirtual 74, 3) := by decide +kernel
theorem dX6_set_60 : decode cX6_set 60 = .ok (.ireturn, 1) := by decide +kernel
theorem dX6_copy_0 : decode cX6_copy 0 = .ok (.iload_n 1, 1) := by decide +kernel
theorem dX6_copy_1 : decode cX6_copy 1 = .ok (.invokestatic 57, 3) := by decide +kernel
theorem dX6_copy_4 : decode cX6_copy 4 = .ok (.ifCond .eq 10, 3) := by decide +kernel
theorem dX6_copy_7 : decode cX6_copy 7 = .ok (.iload_n 3, 1) := by decide +kernel
theorem dX6_copy_8 : decode cX6_copy 8 = .ok (.invokestatic 57, 3) := by decide +kernel
theorem dX6_copy_11 : decode cX6_copy 11 = .ok (.ifCond .ne 6, 3) := by decide +kernel
theorem dX6_copy_14 : decode cX6_copy 14 = .ok (.ldc 65, 2) := by decide +kernel
theorem dX6_copy_16 : decode cX6_copy 16 = .ok (.ireturn, 1) := by decide +kernel
theorem dX6_copy_17 : decode cX6_copy 17 = .ok (.aload_n 0, 1) := by decide +kernel
theorem dX6_copy_18 : decode cX6_copy 18 = .ok (.getfield 10, 3) := by decide +kernel
theorem dX6_copy_21 : decode cX6_copy 21 = .ok (.iload_n 1, 1) := by decide +kernel
theorem dX6_copy_22 : decode cX6_copy 22 = .ok (.invokevirtual 77, 3) := by decide +kernel
theorem dX6_copy_25 : decode cX6_copy 25 = .ok (.ifCond .ne 14, 3) := by decide +kernel
theorem dX6_copy_28 : decode cX6_copy 28 = .ok (.aload_n 0, 1) := by decide +kernel
theorem dX6_copy_29 : decode cX6_copy 29 = .ok (.getfield 10, 3) := by decide +kernel
theorem dX6_copy_32 : decode cX6_copy 32 = .ok (.iload_n 3, 1) := by decide +kernel
theorem dX6_copy_33 : decode cX6_copy 33 = .ok (.invokevirtual 77, 3) := by decide +kernel
theorem dX6_copy_36 : decode cX6_copy 36 = .ok (.ifCond .eq 9, 3) := by decide +kernel
theorem dX6_copy_39 : decode cX6_copy 39 = .ok (.aload_n 0, 1) := by decide +kernel
theorem dX6_copy_40 : decode cX6_copy 40 = .ok (.iconst 1, 1) := by decide +kernel
theorem dX6_copy_41 : decode cX6_copy 41 = .ok (.invokevirtual 66, 3) := by decide +kernel
theorem dX6_copy_44 : decode cX6_copy 44 = .ok (.ireturn, 1) := by decide +kernel
theorem dX6_copy_45 : decode cX6_copy 45 = .ok (.aload_n 0, 1) := by decide +kernel
theorem dX6_copy_46 : decode cX6_copy 46 = .ok (.getfield 10, 3) := by decide +kernel
theorem dX6_copy_49 : decode cX6_copy 49 = .ok (.iload_n 1, 1) := by decide +kernel
theorem dX6_copy_50 : decode cX6_copy 50 = .ok (.iload_n 3, 1) := by decide +kernel
theorem dX6_copy_51 : decode cX6_copy 51 = .ok (.invokevirtual 87, 3) := by decide +kernel
theorem dX6_copy_54 : decode cX6_copy 54 = .ok (.ifCond .ne 9, 3) := by decide +kernel
theorem dX6_copy_57 : decode cX6_copy 57 = .ok (.aload_n 0, 1) := by decide +kernel
theorem dX6_copy_58 : decode cX6_copy 58 = .ok (.iconst 5, 1) := by decide +kernel
theorem dX6_copy_59 : decode cX6_copy 59 = .ok (.invokevirtual 66, 3) := by decide +kernel
theorem dX6_copy_62 : decode cX6_copy 62 = .ok (.ireturn, 1) := by decide +kernel
theorem dX6_copy_63 : decode cX6_copy 63 = .ok (.aload_n 0, 1) := by decide +kernel
theorem dX6_copy_64 : decode cX6_copy 64 = .ok (.getfield 10, 3) := by decide +kernel
theorem dX6_copy_67 : decode cX6_copy 67 = .ok (.iload_n 1, 1) := by decide +kernel
theorem dX6_copy_68 : decode cX6_copy 68 = .ok (.iload_n 2, 1) := by decide +kernel
theorem dX6_copy_69 : decode cX6_copy 69 = .ok (.iload 5, 2) := by decide +kernel
theorem dX6_copy_71 : decode cX6_copy 71 = .ok (.invokevirtual 80, 3) := by decide +kernel
theorem dX6_copy_74 : decode cX6_copy 74 = .ok (.ifCond .eq 18, 3) := by decide +kernel
theorem dX6_copy_77 : decode cX6_copy 77 = .ok (.aload_n 0, 1) := by decide +kernel
theorem dX6_copy_78 : decode cX6_copy 78 = .ok (.getfield 10, 3) := by decide +kernel
theorem dX6_copy_81 : decode cX6_copy 81 = .ok (.iload_n 3, 1) := by decide +kernel
theorem dX6_copy_82 : decode cX6_copy 82 = .ok (.iload 4, 2) := by decide +kernel
theorem dX6_copy_84 : decode cX6_copy 84 = .ok (.iload 5, 2) := by decide +kernel
theorem dX6_copy_86 : decode cX6_copy 86 = .ok (.invokevirtual 80, 3) := by decide +kernel
theorem dX6_copy_89 : decode cX6_copy 89 = .ok (.ifCond .ne 9, 3) := by decide +kernel
theorem dX6_copy_92 : decode cX6_copy 92 = .ok (.aload_n 0, 1) := by decide +kernel
theorem dX6_copy_93 : decode cX6_copy 93 = .ok (.iconst 2, 1) := by decide +kernel
theorem dX6_copy_94 : decode cX6_copy 94 = .ok (.invokevirtual 66, 3) := by decide +kernel
theorem dX6_copy_97 : decode cX6_copy 97 = .ok (.ireturn, 1) := by decide +kernel
theorem dX6_copy_98 : decode cX6_copy 98 = .ok (.aload_n 0, 1) := by decide +kernel
theorem dX6_copy_99 : decode cX6_copy 99 = .ok (.getfield 10, 3) := by decide +kernel
theorem dX6_copy_102 : decode cX6_copy 102 = .ok (.iload_n 1, 1) := by decide +kernel
theorem dX6_copy_103 : decode cX6_copy 103 = .ok (.iload_n 2, 1) := by decide +kernel
theorem dX6_copy_104 : decode cX6_copy 104 = .ok (.iload_n 3, 1) := by decide +kernel
theorem dX6_copy_105 : decode cX6_copy 105 = .ok (.iload 4, 2) := by decide +kernel
theorem dX6_copy_107 : decode cX6_copy 107 = .ok (.iload 5, 2) := by decide +kernel
theorem dX6_copy_109 : decode cX6_copy 109 = .ok (.invokevirtual 91, 3) := by decide +kernel
theorem dX6_copy_112 : decode cX6_copy 112 = .ok (.aload_n 0, 1) := by decide +kernel
theorem dX6_copy_113 : decode cX6_copy 113 = .ok (.iload 5, 2) := by decide +kernel
theorem dX6_copy_115 : decode cX6_copy 115 = .ok (.invokevirtual 74, 3) := by decide +kernel
theorem dX6_copy_118 : decode cX6_copy 118 = .ok (.ireturn, 1) := by decide +kernel
theorem dX6_drop_0 : decode cX6_drop 0 = .ok (.iload_n 1, 1) := by decide +kernel
theorem dX6_drop_1 : decode cX6_drop 1 = .ok (.invokestatic 57, 3) := by decide +kernel
theorem dX6_drop_4 : decode cX6_drop 4 = .ok (.ifCond .ne 6, 3) := by decide +kernel
theorem dX6_drop_7 : decode cX6_drop 7 = .ok (.ldc 65, 2) := by decide +kernel
theorem dX6_drop_9 : decode cX6_drop 9 = .ok (.ireturn, 1) := by decide +kernel
theorem dX6_drop_10 : decode cX6_drop 10 = .ok (.aload_n 0, 1) := by decide +kernel
theorem dX6_drop_11 : decode cX6_drop 11 = .ok (.getfield 10, 3) := by decide +kernel
theorem dX6_drop_14 : decode cX6_drop 14 = .ok (.iload_n 1, 1) := by decide +kernel
theorem dX6_drop_15 : decode cX6_drop 15 = .ok (.invokevirtual 77, 3) := by decide +kernel
theorem dX6_drop_18 : decode cX6_drop 18 = .ok (.ifCond .eq 9, 3) := by decide +kernel
theorem dX6_drop_21 : decode cX6_drop 21 = .ok (.aload_n 0, 1) := by decide +kernel
theorem dX6_drop_22 : decode cX6_drop 22 = .ok (.iconst 1, 1) := by decide +kernel
theorem dX6_drop_23 : decode cX6_drop 23 = .ok (.invokevirtual 66, 3) := by decide +kernel
theorem dX6_drop_26 : decode cX6_drop 26 = .ok (.ireturn, 1) := by decide +kernel
theorem dX6_drop_27 : decode cX6_drop 27 = .ok (.aload_n 0, 1) := by decide +kernel
theorem dX6_drop_28 : decode cX6_drop 28 = .ok (.aload_n 0, 1) := by decide +kernel
theorem dX6_drop_29 : decode cX6_drop 29 = .ok (.getfield 10, 3) := by decide +kernel
theorem dX6_drop_32 : decode cX6_drop 32 = .ok (.iload_n 1, 1) := by decide +kernel
theorem dX6_drop_33 : decode cX6_drop 33 = .ok (.invokevirtual 95, 3) := by decide +kernel
theorem dX6_drop_36 : decode cX6_drop 36 = .ok (.invokevirtual 74, 3) := by decide +kernel
theorem dX6_drop_39 : decode cX6_drop 39 = .ok (.ireturn, 1) := by decide +kernel
theorem dX6_feed_0 : decode cX6_feed 0 = .ok (.iload_n 1, 1) := by decide +kernel
theorem dX6_feed_1 : decode cX6_feed 1 = .ok (.iconst 0, 1) := by decide +kernel
theorem dX6_feed_2 : decode cX6_feed 2 = .ok (.sipush 255, 3) := by decide +kernel
theorem dX6_feed_5 : decode cX6_feed 5 = .ok (.invokestatic 61, 3) := by decide +kernel
theorem dX6_feed_8 : decode cX6_feed 8 = .ok (.ifCond .ne 6, 3) := by decide +kernel
theorem dX6_feed_11 : decode cX6_feed 11 = .ok (.ldc 65, 2) := by decide +kernel
theorem dX6_feed_13 : decode cX6_feed 13 = .ok (.ireturn, 1) := by decide +kernel
theorem dX6_feed_14 : decode cX6_feed 14 = .ok (.aload_n 0, 1) := by decide +kernel
theorem dX6_feed_15 : decode cX6_feed 15 = .ok (.getfield 19, 3) := by decide +kernel
theorem dX6_feed_18 : decode cX6_feed 18 = .ok (.invokevirtual 98, 3) := by decide +kernel
theorem dX6_feed_21 : decode cX6_feed 21 = .ok (.ifCond .eq 8, 3) := by decide +kernel
theorem dX6_feed_24 : decode cX6_feed 24 = .ok (.ldc 102, 2) := by decide +kernel
theorem dX6_feed_26 : decode cX6_feed 26 = .ok (.goto 11, 3) := by decide +kernel
theorem dX6_feed_29 : decode cX6_feed 29 = .ok (.aload_n 0, 1) := by decide +kernel
theorem dX6_feed_30 : decode cX6_feed 30 = .ok (.getfield 19, 3) := by decide +kernel
theorem dX6_feed_33 : decode cX6_feed 33 = .ok (.iload_n 1, 1) := by decide +kernel
theorem dX6_feed_34 : decode cX6_feed 34 = .ok (.invokevirtual 103, 3) := by decide +kernel
theorem dX6_feed_37 : decode cX6_feed 37 = .ok (.ireturn, 1) := by decide +kernel
theorem dX6_house_0 : decode cX6_house 0 = .ok (.aload_n 0, 1) := by decide +kernel
theorem dX6_house_1 : decode cX6_house 1 = .ok (.getfield 40, 3) := by decide +kernel
theorem dX6_house_4 : decode cX6_house 4 = .ok (.getfield 106, 3) := by decide +kernel
theorem dX6_house_7 : decode cX6_house 7 = .ok (.astore_n 1, 1) := by decide +kernel
theorem dX6_house_8 : decode cX6_house 8 = .ok (.aload_n 0, 1) := by decide +kernel
theorem dX6_house_9 : decode cX6_house 9 = .ok (.getfield 19, 3) := by decide +kernel
theorem dX6_house_12 : decode cX6_house 12 = .ok (.aload_n 1, 1) := by decide +kernel
theorem dX6_house_13 : decode cX6_house 13 = .ok (.invokevirtual 109, 3) := by decide +kernel
theorem dX6_house_16 : decode cX6_house 16 = .ok (.istore_n 2, 1) := by decide +kernel
theorem dX6_house_17 : decode cX6_house 17 = .ok (.aload_n 0, 1) := by decide +kernel
theorem dX6_house_18 : decode cX6_house 18 = .ok (.getfield 19, 3) := by decide +kernel
theorem dX6_house_21 : decode cX6_house 21 = .ok (.invokevirtual 113, 3) := by decide +kernel
theorem dX6_house_24 : decode cX6_house 24 = .ok (.iload_n 2, 1) := by decide +kernel
theorem dX6_house_25 : decode cX6_house 25 = .ok (.ifCond .ne 25, 3) := by decide +kernel
theorem dX6_house_28 : decode cX6_house 28 = .ok (.aload_n 0, 1) := by decide +kernel
theorem dX6_house_29 : decode cX6_house 29 = .ok (.aload_n 0, 1) := by decide +kernel
theorem dX6_house_30 : decode cX6_house 30 = .ok (.getfield 19, 3) := by decide +kernel
theorem dX6_house_33 : decode cX6_house 33 = .ok (.getfield 116, 3) := by decide +kernel
theorem dX6_house_36 : decode cX6_house 36 = .ok (.putfield 120, 3) := by decide +kernel
theorem dX6_house_39 : decode cX6_house 39 = .ok (.ldc 123, 2) := by decide +kernel
theorem dX6_house_41 : decode cX6_house 41 = .ok (.aload_n 0, 1) := by decide +kernel
theorem dX6_house_42 : decode cX6_house 42 = .ok (.getfield 19, 3) := by decide +kernel
theorem dX6_house_45 : decode cX6_house 45 = .ok (.getfield 124, 3) := by decide +kernel
theorem dX6_house_48 : decode cX6_house 48 = .ok (.isub, 1) := by decide +kernel
theorem dX6_house_49 : decode cX6_house 49 = .ok (.ireturn, 1) := by decide +kernel
theorem dX6_house_50 : decode cX6_house 50 = .ok (.aload_n 0, 1) := by decide +kernel
theorem dX6_house_51 : decode cX6_house 51 = .ok (.getfield 26, 3) := by decide +kernel
theorem dX6_house_54 : decode cX6_house 54 = .ok (.aload_n 1, 1) := by decide +kernel
theorem dX6_house_55 : decode cX6_house 55 = .ok (.invokevirtual 127, 3) := by decide +kernel
theorem dX6_house_58 : decode cX6_house 58 = .ok (.aload_n 0, 1) := by decide +kernel
theorem dX6_house_59 : decode cX6_house 59 = .ok (.getfield 33, 3) := by decide +kernel
theorem dX6_house_62 : decode cX6_house 62 = .ok (.invokevirtual 131, 3) := by decide +kernel
theorem dX6_house_65 : decode cX6_house 65 = .ok (.aload_n 0, 1) := by decide +kernel
theorem dX6_house_66 : decode cX6_house 66 = .ok (.getfield 26, 3) := by decide +kernel
theorem dX6_house_69 : decode cX6_house 69 = .ok (.getfield 134, 3) := by decide +kernel
theorem dX6_house_72 : decode cX6_house 72 = .ok (.ireturn, 1) := by decide +kernel
theorem dX6_fault_0 : decode cX6_fault 0 = .ok (.aload_n 0, 1) := by decide +kernel
theorem dX6_fault_1 : decode cX6_fault 1 = .ok (.getfield 120, 3) := by decide +kernel
theorem dX6_fault_4 : decode cX6_fault 4 = .ok (.ireturn, 1) := by decide +kernel
theorem dX6_undo_0 : decode cX6_undo 0 = .ok (.aload_n 0, 1) := by decide +kernel
theorem dX6_undo_1 : decode cX6_undo 1 = .ok (.getfield 33, 3) := by decide +kernel
theorem dX6_undo_4 : decode cX6_undo 4 = .ok (.getfield 137, 3) := by decide +kernel
theorem dX6_undo_7 : decode cX6_undo 7 = .ok (.ifCond .ne 6, 3) := by decide +kernel
theorem dX6_undo_10 : decode cX6_undo 10 = .ok (.ldc 140, 2) := by decide +kernel
theorem dX6_undo_12 : decode cX6_undo 12 = .ok (.ireturn, 1) := by decide +kernel
theorem dX6_undo_13 : decode cX6_undo 13 = .ok (.aload_n 0, 1) := by decide +kernel
theorem dX6_undo_14 : decode cX6_undo 14 = .ok (.getfield 33, 3) := by decide +kernel
theorem dX6_undo_17 : decode cX6_undo 17 = .ok (.aload_n 0, 1) := by decide +kernel
theorem dX6_undo_18 : decode cX6_undo 18 = .ok (.getfield 26, 3) := by decide +kernel
theorem dX6_undo_21 : decode cX6_undo 21 = .ok (.invokevirtual 141, 3) := by decide +kernel
theorem dX6_undo_24 : decode cX6_undo 24 = .ok (.aload_n 0, 1) := by decide +kernel
theorem dX6_undo_25 : decode cX6_undo 25 = .ok (.getfield 33, 3) := by decide +kernel
theorem dX6_undo_28 : decode cX6_undo 28 = .ok (.getfield 137, 3) := by decide +kernel
theorem dX6_undo_31 : decode cX6_undo 31 = .ok (.ireturn, 1) := by decide +kernel
theorem dX6_hours_0 : decode cX6_hours 0 = .ok (.aload_n 0, 1) := by decide +kernel
theorem dX6_hours_1 : decode cX6_hours 1 = .ok (.getfield 26, 3) := by decide +kernel
theorem dX6_hours_4 : decode cX6_hours 4 = .ok (.invokevirtual 144, 3) := by decide +kernel
theorem dX6_hours_7 : decode cX6_hours 7 = .ok (.ifCond .ne 6, 3) := by decide +kernel
theorem dX6_hours_10 : decode cX6_hours 10 = .ok (.ldc 140, 2) := by decide +kernel
theorem dX6_hours_12 : decode cX6_hours 12 = .ok (.ireturn, 1) := by decide +kernel
theorem dX6_hours_13 : decode cX6_hours 13 = .ok (.iload_n 1, 1) := by decide +kernel
theorem dX6_hours_14 : decode cX6_hours 14 = .ok (.iconst 1, 1) := by decide +kernel
theorem dX6_hours_15 : decode cX6_hours 15 = .ok (.bipush 24, 2) := by decide +kernel
theorem dX6_hours_17 : decode cX6_hours 17 = .ok (.invokestatic 61, 3) := by decide +kernel
theorem dX6_hours_20 : decode cX6_hours 20 = .ok (.ifCond .ne 6, 3) := by decide +kernel
theorem dX6_hours_23 : decode cX6_hours 23 = .ok (.ldc 65, 2) := by decide +kernel
theorem dX6_hours_25 : decode cX6_hours 25 = .ok (.ireturn, 1) := by decide +kernel
theorem dX6_hours_26 : decode cX6_hours 26 = .ok (.aload_n 0, 1) := by decide +kernel
theorem dX6_hours_27 : decode cX6_hours 27 = .ok (.getfield 26, 3) := by decide +kernel
theorem dX6_hours_30 : decode cX6_hours 30 = .ok (.getfield 147, 3) := by decide +kernel
theorem dX6_hours_33 : decode cX6_hours 33 = .ok (.iload_n 1, 1) := by decide +kernel
theorem dX6_hours_34 : decode cX6_hours 34 = .ok (.iadd, 1) := by decide +kernel
theorem dX6_hours_35 : decode cX6_hours 35 = .ok (.sipush 999, 3) := by decide +kernel
theorem dX6_hours_38 : decode cX6_hours 38 = .ok (.if_icmp .le 6, 3) := by decide +kernel
theorem dX6_hours_41 : decode cX6_hours 41 = .ok (.ldc 102, 2) := by decide +kernel
theorem dX6_hours_43 : decode cX6_hours 43 = .ok (.ireturn, 1) := by decide +kernel
theorem dX6_hours_44 : decode cX6_hours 44 = .ok (.iconst 0, 1) := by decide +kernel
theorem dX6_hours_45 : decode cX6_hours 45 = .ok (.istore_n 2, 1) := by decide +kernel
theorem dX6_hours_46 : decode cX6_hours 46 = .ok (.iload_n 2, 1) := by decide +kernel
theorem dX6_hours_47 : decode cX6_hours 47 = .ok (.iload_n 1, 1) := by decide +kernel
theorem dX6_hours_48 : decode cX6_hours 48 = .ok (.if_icmp .ge 27, 3) := by decide +kernel
theorem dX6_hours_51 : decode cX6_hours 51 = .ok (.aload_n 0, 1) := by decide +kernel
theorem dX6_hours_52 : decode cX6_hours 52 = .ok (.getfield 33, 3) := by decide +kernel
theorem dX6_hours_55 : decode cX6_hours 55 = .ok (.aload_n 0, 1) := by decide +kernel
theorem dX6_hours_56 : decode cX6_hours 56 = .ok (.getfield 26, 3) := by decide +kernel
theorem dX6_hours_59 : decode cX6_hours 59 = .ok (.invokevirtual 150, 3) := by decide +kernel
theorem dX6_hours_62 : decode cX6_hours 62 = .ok (.aload_n 0, 1) := by decide +kernel
theorem dX6_hours_63 : decode cX6_hours 63 = .ok (.getfield 26, 3) := by decide +kernel
theorem dX6_hours_66 : decode cX6_hours 66 = .ok (.invokevirtual 153, 3) := by decide +kernel
theorem dX6_hours_69 : decode cX6_hours 69 = .ok (.iinc 2 1, 3) := by decide +kernel
theorem dX6_hours_72 : decode cX6_hours 72 = .ok (.goto (-26), 3) := by decide +kernel
theorem dX6_hours_75 : decode cX6_hours 75 = .ok (.aload_n 0, 1) := by decide +kernel
theorem dX6_hours_76 : decode cX6_hours 76 = .ok (.getfield 26, 3) := by decide +kernel
theorem dX6_hours_79 : decode cX6_hours 79 = .ok (.invokevirtual 156, 3) := by decide +kernel
theorem dX6_hours_82 : decode cX6_hours 82 = .ok (.ireturn, 1) := by decide +kernel
theorem dX6_door_0 : decode cX6_door 0 = .ok (.aload_n 0, 1) := by decide +kernel
theorem dX6_door_1 : decode cX6_door 1 = .ok (.getfield 26, 3) := by decide +kernel
theorem dX6_door_4 : decode cX6_door 4 = .ok (.iload_n 1, 1) := by decide +kernel
theorem dX6_door_5 : decode cX6_door 5 = .ok (.invokevirtual 160, 3) := by decide +kernel
theorem dX6_door_8 : decode cX6_door 8 = .ok (.ifCond .eq 12, 3) := by decide +kernel
theorem dX6_door_11 : decode cX6_door 11 = .ok (.iload_n 2, 1) := by decide +kernel
theorem dX6_door_12 : decode cX6_door 12 = .ok (.iconst 0, 1) := by decide +kernel
theorem dX6_door_13 : decode cX6_door 13 = .ok (.iconst 1, 1) := by decide +kernel
theorem dX6_door_14 : decode cX6_door 14 = .ok (.invokestatic 61, 3) := by decide +kernel
theorem dX6_door_17 : decode cX6_door 17 = .ok (.ifCond .ne 6, 3) := by decide +kernel
theorem dX6_door_20 : decode cX6_door 20 = .ok (.ldc 65, 2) := by decide +kernel
theorem dX6_door_22 : decode cX6_door 22 = .ok (.ireturn, 1) := by decide +kernel
theorem dX6_door_23 : decode cX6_door 23 = .ok (.aload_n 0, 1) := by decide +kernel
theorem dX6_door_24 : decode cX6_door 24 = .ok (.getfield 26, 3) := by decide +kernel
theorem dX6_door_27 : decode cX6_door 27 = .ok (.iload_n 1, 1) := by decide +kernel
theorem dX6_door_28 : decode cX6_door 28 = .ok (.invokevirtual 163, 3) := by decide +kernel
theorem dX6_door_31 : decode cX6_door 31 = .ok (.iload_n 2, 1) := by decide +kernel
theorem dX6_door_32 : decode cX6_door 32 = .ok (.iconst 1, 1) := by decide +kernel
theorem dX6_door_33 : decode cX6_door 33 = .ok (.if_icmp .ne 7, 3) := by decide +kernel
theorem dX6_door_36 : decode cX6_door 36 = .ok (.iconst 1, 1) := by decide +kernel
theorem dX6_door_37 : decode cX6_door 37 = .ok (.goto 4, 3) := by decide +kernel
theorem dX6_door_40 : decode cX6_door 40 = .ok (.iconst 0, 1) := by decide +kernel
theorem dX6_door_41 : decode cX6_door 41 = .ok (.if_icmp .ne 6, 3) := by decide +kernel
theorem dX6_door_44 : decode cX6_door 44 = .ok (.ldc 140, 2) := by decide +kernel
theorem dX6_door_46 : decode cX6_door 46 = .ok (.ireturn, 1) := by decide +kernel
theorem dX6_door_47 : decode cX6_door 47 = .ok (.aload_n 0, 1) := by decide +kernel
theorem dX6_door_48 : decode cX6_door 48 = .ok (.getfield 33, 3) := by decide +kernel
theorem dX6_door_51 : decode cX6_door 51 = .ok (.aload_n 0, 1) := by decide +kernel
theorem dX6_door_52 : decode cX6_door 52 = .ok (.getfield 26, 3) := by decide +kernel
theorem dX6_door_55 : decode cX6_door 55 = .ok (.invokevirtual 150, 3) := by decide +kernel
theorem dX6_door_58 : decode cX6_door 58 = .ok (.aload_n 0, 1) := by decide +kernel
theorem dX6_door_59 : decode cX6_door 59 = .ok (.getfield 26, 3) := by decide +kernel
theorem dX6_door_62 : decode cX6_door 62 = .ok (.iconst 1, 1) := by decide +kernel
theorem dX6_door_63 : decode cX6_door 63 = .ok (.iload_n 1, 1) := by decide +kernel
theorem dX6_door_64 : decode cX6_door 64 = .ok (.ishl, 1) := by decide +kernel
theorem dX6_door_65 : decode cX6_door 65 = .ok (.invokevirtual 166, 3) := by decide +kernel
theorem dX6_door_68 : decode cX6_door 68 = .ok (.aload_n 0, 1) := by decide +kernel
theorem dX6_door_69 : decode cX6_door 69 = .ok (.getfield 26, 3) := by decide +kernel
theorem dX6_door_72 : decode cX6_door 72 = .ok (.getfield 170, 3) := by decide +kernel
theorem dX6_door_75 : decode cX6_door 75 = .ok (.ireturn, 1) := by decide +kernel
theorem dX6_sit_0 : decode cX6_sit 0 = .ok (.aload_n 0, 1) := by decide +kernel
theorem dX6_sit_1 : decode cX6_sit 1 = .ok (.getfield 26, 3) := by decide +kernel
theorem dX6_sit_4 : decode cX6_sit 4 = .ok (.iload_n 1, 1) := by decide +kernel
theorem dX6_sit_5 : decode cX6_sit 5 = .ok (.invokevirtual 173, 3) := by decide +kernel
theorem dX6_sit_8 : decode cX6_sit 8 = .ok (.ifCond .eq 14, 3) := by decide +kernel
theorem dX6_sit_11 : decode cX6_sit 11 = .ok (.aload_n 0, 1) := by decide +kernel
theorem dX6_sit_12 : decode cX6_sit 12 = .ok (.getfield 26, 3) := by decide +kernel
theorem dX6_sit_15 : decode cX6_sit 15 = .ok (.iload_n 2, 1) := by decide +kernel
theorem dX6_sit_16 : decode cX6_sit 16 = .ok (.invokevirtual 176, 3) := by decide +kernel
theorem dX6_sit_19 : decode cX6_sit 19 = .ok (.ifCond .ne 6, 3) := by decide +kernel
theorem dX6_sit_22 : decode cX6_sit 22 = .ok (.ldc 65, 2) := by decide +kernel
theorem dX6_sit_24 : decode cX6_sit 24 = .ok (.ireturn, 1) := by decide +kernel
theorem dX6_sit_25 : decode cX6_sit 25 = .ok (.aload_n 0, 1) := by decide +kernel
theorem dX6_sit_26 : decode cX6_sit 26 = .ok (.getfield 26, 3) := by decide +kernel
theorem dX6_sit_29 : decode cX6_sit 29 = .ok (.getfield 179, 3) := by decide +kernel
theorem dX6_sit_32 : decode cX6_sit 32 = .ok (.iload_n 1, 1) := by decide +kernel
theorem dX6_sit_33 : decode cX6_sit 33 = .ok (.iaload, 1) := by decide +kernel
theorem dX6_sit_34 : decode cX6_sit 34 = .ok (.istore_n 3, 1) := by decide +kernel
theorem dX6_sit_35 : decode cX6_sit 35 = .ok (.iload_n 3, 1) := by decide +kernel
theorem dX6_sit_36 : decode cX6_sit 36 = .ok (.iload_n 2, 1) := by decide +kernel
theorem dX6_sit_37 : decode cX6_sit 37 = .ok (.if_icmp .ne 6, 3) := by decide +kernel
theorem dX6_sit_40 : decode cX6_sit 40 = .ok (.ldc 140, 2) := by decide +kernel
theorem dX6_sit_42 : decode cX6_sit 42 = .ok (.ireturn, 1) := by decide +kernel
theorem dX6_sit_43 : decode cX6_sit 43 = .ok (.aload_n 0, 1) := by decide +kernel
theorem dX6_sit_44 : decode cX6_sit 44 = .ok (.getfield 33, 3) := by decide +kernel
theorem dX6_sit_47 : decode cX6_sit 47 = .ok (.aload_n 0, 1) := by decide +kernel
theorem dX6_sit_48 : decode cX6_sit 48 = .ok (.getfield 26, 3) := by decide +kernel
theorem dX6_sit_51 : decode cX6_sit 51 = .ok (.invokevirtual 150, 3) := by decide +kernel
theorem dX6_sit_54 : decode cX6_sit 54 = .ok (.aload_n 0, 1) := by decide +kernel
theorem dX6_sit_55 : decode cX6_sit 55 = .ok (.getfield 26, 3) := by decide +kernel
theorem dX6_sit_58 : decode cX6_sit 58 = .ok (.getfield 179, 3) := by decide +kernel
theorem dX6_sit_61 : decode cX6_sit 61 = .ok (.iload_n 1, 1) := by decide +kernel
theorem dX6_sit_62 : decode cX6_sit 62 = .ok (.iload_n 2, 1) := by decide +kernel
theorem dX6_sit_63 : decode cX6_sit 63 = .ok (.iastore, 1) := by decide +kernel
theorem dX6_sit_64 : decode cX6_sit 64 = .ok (.iload_n 3, 1) := by decide +kernel
theorem dX6_sit_65 : decode cX6_sit 65 = .ok (.ireturn, 1) := by decide +kernel
theorem dX6_room_0 : decode cX6_room 0 = .ok (.aload_n 0, 1) := by decide +kernel
theorem dX6_room_1 : decode cX6_room 1 = .ok (.getfield 26, 3) := by decide +kernel
theorem dX6_room_4 : decode cX6_room 4 = .ok (.invokevirtual 144, 3) := by decide +kernel
theorem dX6_room_7 : decode cX6_room 7 = .ok (.ifCond .ne 6, 3) := by decide +kernel
theorem dX6_room_10 : decode cX6_room 10 = .ok (.ldc 140, 2) := by decide +kernel
theorem dX6_room_12 : decode cX6_room 12 = .ok (.ireturn, 1) := by decide +kernel
theorem dX6_room_13 : decode cX6_room 13 = .ok (.aload_n 0, 1) := by decide +kernel
theorem dX6_room_14 : decode cX6_room 14 = .ok (.getfield 26, 3) := by decide +kernel
theorem dX6_room_17 : decode cX6_room 17 = .ok (.iload_n 1, 1) := by decide +kernel
theorem dX6_room_18 : decode cX6_room 18 = .ok (.invokevirtual 176, 3) := by decide +kernel
theorem dX6_room_21 : decode cX6_room 21 = .ok (.ifCond .ne 6, 3) := by decide +kernel
theorem dX6_room_24 : decode cX6_room 24 = .ok (.ldc 65, 2) := by decide +kernel
theorem dX6_room_26 : decode cX6_room 26 = .ok (.ireturn, 1) := by decide +kernel
theorem dX6_room_27 : decode cX6_room 27 = .ok (.iload_n 2, 1) := by decide +kernel
theorem dX6_room_28 : decode cX6_room 28 = .ok (.tableswitch 91 0 4 #[36, 46, 55, 69, 82], 36) := by decide +kernel
theorem dX6_room_64 : decode cX6_room 64 = .ok (.aload_n 0, 1) := by decide +kernel
theorem dX6_room_65 : decode cX6_room 65 = .ok (.getfield 26, 3) := by decide +kernel
theorem dX6_room_68 : decode cX6_room 68 = .ok (.getfield 183, 3) := by decide +kernel
theorem dX6_room_71 : decode cX6_room 71 = .ok (.iload_n 1, 1) := by decide +kernel
theorem dX6_room_72 : decode cX6_room 72 = .ok (.iaload, 1) := by decide +kernel
theorem dX6_room_73 : decode cX6_room 73 = .ok (.ireturn, 1) := by decide +kernel
theorem dX6_room_74 : decode cX6_room 74 = .ok (.aload_n 0, 1) := by decide +kernel
theorem dX6_room_75 : decode cX6_room 75 = .ok (.getfield 26, 3) := by decide +kernel
theorem dX6_room_78 : decode cX6_room 78 = .ok (.iload_n 1, 1) := by decide +kernel
theorem dX6_room_79 : decode cX6_room 79 = .ok (.invokevirtual 186, 3) := by decide +kernel
theorem dX6_room_82 : decode cX6_room 82 = .ok (.ireturn, 1) := by decide +kernel
theorem dX6_room_83 : decode cX6_room 83 = .ok (.aload_n 0, 1) := by decide +kernel
theorem dX6_room_84 : decode cX6_room 84 = .ok (.getfield 26, 3) := by decide +kernel
theorem dX6_room_87 : decode cX6_room 87 = .ok (.bipush 14, 2) := by decide +kernel
theorem dX6_room_89 : decode cX6_room 89 = .ok (.invokevirtual 189, 3) := by decide +kernel
theorem dX6_room_92 : decode cX6_room 92 = .ok (.iload_n 1, 1) := by decide +kernel
theorem dX6_room_93 : decode cX6_room 93 = .ok (.ishr, 1) := by decide +kernel
theorem dX6_room_94 : decode cX6_room 94 = .ok (.iconst 1, 1) := by decide +kernel
theorem dX6_room_95 : decode cX6_room 95 = .ok (.iand, 1) := by decide +kernel
theorem dX6_room_96 : decode cX6_room 96 = .ok (.ireturn, 1) := by decide +kernel
theorem dX6_room_97 : decode cX6_room 97 = .ok (.aload_n 0, 1) := by decide +kernel
theorem dX6_room_98 : decode cX6_room 98 = .ok (.getfield 26, 3) := by decide +kernel
theorem dX6_room_101 : decode cX6_room 101 = .ok (.iconst 4, 1) := by decide +kernel
theorem dX6_room_102 : decode cX6_room 102 = .ok (.invokevirtual 189, 3) := by decide +kernel
theorem dX6_room_105 : decode cX6_room 105 = .ok (.iload_n 1, 1) := by decide +kernel
theorem dX6_room_106 : decode cX6_room 106 = .ok (.ishr, 1) := by decide +kernel
theorem dX6_room_107 : decode cX6_room 107 = .ok (.iconst 1, 1) := by decide +kernel
theorem dX6_room_108 : decode cX6_room 108 = .ok (.iand, 1) := by decide +kernel
theorem dX6_room_109 : decode cX6_room 109 = .ok (.ireturn, 1) := by decide +kernel
theorem dX6_room_110 : decode cX6_room 110 = .ok (.aload_n 0, 1) := by decide +kernel
theorem dX6_room_111 : decode cX6_room 111 = .ok (.getfield 26, 3) := by decide +kernel
theorem dX6_room_114 : decode cX6_room 114 = .ok (.iload_n 1, 1) := by decide +kernel
theorem dX6_room_115 : decode cX6_room 115 = .ok (.invokevirtual 192, 3) := by decide +kernel
theorem dX6_room_118 : decode cX6_room 118 = .ok (.ireturn, 1) := by decide +kernel
theorem dX6_room_119 : decode cX6_room 119 = .ok (.ldc 65, 2) := by decide +kernel
theorem dX6_room_121 : decode cX6_room 121 = .ok (.ireturn, 1) := by decide +kernel
theorem dX6_doorHas_0 : decode cX6_doorHas 0 = .ok (.aload_n 0, 1) := by decide +kernel
theorem dX6_doorHas_1 : decode cX6_doorHas 1 = .ok (.getfield 26, 3) := by decide +kernel
theorem dX6_doorHas_4 : decode cX6_doorHas 4 = .ok (.iload_n 1, 1) := by decide +kernel
theorem dX6_doorHas_5 : decode cX6_doorHas 5 = .ok (.invokevirtual 160, 3) := by decide +kernel
theorem dX6_doorHas_8 : decode cX6_doorHas 8 = .ok (.ifCond .ne 6, 3) := by decide +kernel
theorem dX6_doorHas_11 : decode cX6_doorHas 11 = .ok (.ldc 65, 2) := by decide +kernel
theorem dX6_doorHas_13 : decode cX6_doorHas 13 = .ok (.ireturn, 1) := by decide +kernel
theorem dX6_doorHas_14 : decode cX6_doorHas 14 = .ok (.iload_n 2, 1) := by decide +kernel
theorem dX6_doorHas_15 : decode cX6_doorHas 15 = .ok (.tableswitch 62 0 2 #[25, 35, 45], 25) := by decide +kernel
theorem dX6_doorHas_40 : decode cX6_doorHas 40 = .ok (.aload_n 0, 1) := by decide +kernel
theorem dX6_doorHas_41 : decode cX6_doorHas 41 = .ok (.getfield 26, 3) := by decide +kernel
theorem dX6_doorHas_44 : decode cX6_doorHas 44 = .ok (.getfield 195, 3) := by decide +kernel
theorem dX6_doorHas_47 : decode cX6_doorHas 47 = .ok (.iload_n 1, 1) := by decide +kernel
theorem dX6_doorHas_48 : decode cX6_doorHas 48 = .ok (.iaload, 1) := by decide +kernel
theorem dX6_doorHas_49 : decode cX6_doorHas 49 = .ok (.ireturn, 1) := by decide +kernel
theorem dX6_doorHas_50 : decode cX6_doorHas 50 = .ok (.aload_n 0, 1) := by decide +kernel
theorem dX6_doorHas_51 : decode cX6_doorHas 51 = .ok (.getfield 26, 3) := by decide +kernel
theorem dX6_doorHas_54 : decode cX6_doorHas 54 = .ok (.getfield 198, 3) := by decide +kernel
theorem dX6_doorHas_57 : decode cX6_doorHas 57 = .ok (.iload_n 1, 1) := by decide +kernel
theorem dX6_doorHas_58 : decode cX6_doorHas 58 = .ok (.iaload, 1) := by decide +kernel
theorem dX6_doorHas_59 : decode cX6_doorHas 59 = .ok (.ireturn, 1) := by decide +kernel
theorem dX6_doorHas_60 : decode cX6_doorHas 60 = .ok (.aload_n 0, 1) := by decide +kernel
theorem dX6_doorHas_61 : decode cX6_doorHas 61 = .ok (.getfield 26, 3) := by decide +kernel
theorem dX6_doorHas_64 : decode cX6_doorHas 64 = .ok (.iload_n 1, 1) := by decide +kernel
theorem dX6_doorHas_65 : decode cX6_doorHas 65 = .ok (.invokevirtual 163, 3) := by decide +kernel
theorem dX6_doorHas_68 : decode cX6_doorHas 68 = .ok (.ifCond .eq 7, 3) := by decide +kernel
theorem dX6_doorHas_71 : decode cX6_doorHas 71 = .ok (.iconst 1, 1) := by decide +kernel
theorem dX6_doorHas_72 : decode cX6_doorHas 72 = .ok (.goto 4, 3) := by decide +kernel
theorem dX6_doorHas_75 : decode cX6_doorHas 75 = .ok (.iconst 0, 1) := by decide +kernel
theorem dX6_doorHas_76 : decode cX6_doorHas 76 = .ok (.ireturn, 1) := by decide +kernel
theorem dX6_doorHas_77 : decode cX6_doorHas 77 = .ok (.ldc 65, 2) := by decide +kernel
theorem dX6_doorHas_79 : decode cX6_doorHas 79 = .ok (.ireturn, 1) := by decide +kernel
theorem dX6_sitter_0 : decode cX6_sitter 0 = .ok (.aload_n 0, 1) := by decide +kernel
theorem dX6_sitter_1 : decode cX6_sitter 1 = .ok (.getfield 26, 3) := by decide +kernel
theorem dX6_sitter_4 : decode cX6_sitter 4 = .ok (.iload_n 1, 1) := by decide +kernel
theorem dX6_sitter_5 : decode cX6_sitter 5 = .ok (.invokevirtual 173, 3) := by decide +kernel
theorem dX6_sitter_8 : decode cX6_sitter 8 = .ok (.ifCond .ne 6, 3) := by decide +kernel
theorem dX6_sitter_11 : decode cX6_sitter 11 = .ok (.ldc 65, 2) := by decide +kernel
theorem dX6_sitter_13 : decode cX6_sitter 13 = .ok (.ireturn, 1) := by decide +kernel
theorem dX6_sitter_14 : decode cX6_sitter 14 = .ok (.iload_n 2, 1) := by decide +kernel
theorem dX6_sitter_15 : decode cX6_sitter 15 = .ok (.tableswitch 62 0 2 #[25, 35, 45], 25) := by decide +kernel
theorem dX6_sitter_40 : decode cX6_sitter 40 = .ok (.aload_n 0, 1) := by decide +kernel
theorem dX6_sitter_41 : decode cX6_sitter 41 = .ok (.getfield 26, 3) := by decide +kernel
theorem dX6_sitter_44 : decode cX6_sitter 44 = .ok (.getfield 179, 3) := by decide +kernel
theorem dX6_sitter_47 : decode cX6_sitter 47 = .ok (.iload_n 1, 1) := by decide +kernel
theorem dX6_sitter_48 : decode cX6_sitter 48 = .ok (.iaload, 1) := by decide +kernel
theorem dX6_sitter_49 : decode cX6_sitter 49 = .ok (.ireturn, 1) := by decide +kernel
theorem dX6_sitter_50 : decode cX6_sitter 50 = .ok (.aload_n 0, 1) := by decide +kernel
theorem dX6_sitter_51 : decode cX6_sitter 51 = .ok (.getfield 26, 3) := by decide +kernel
theorem dX6_sitter_54 : decode cX6_sitter 54 = .ok (.getfield 201, 3) := by decide +kernel
theorem dX6_sitter_57 : decode cX6_sitter 57 = .ok (.iload_n 1, 1) := by decide +kernel
theorem dX6_sitter_58 : decode cX6_sitter 58 = .ok (.iaload, 1) := by decide +kernel
theorem dX6_sitter_59 : decode cX6_sitter 59 = .ok (.ireturn, 1) := by decide +kernel
theorem dX6_sitter_60 : decode cX6_sitter 60 = .ok (.aload_n 0, 1) := by decide +kernel
theorem dX6_sitter_61 : decode cX6_sitter 61 = .ok (.getfield 26, 3) := by decide +kernel
theorem dX6_sitter_64 : decode cX6_sitter 64 = .ok (.iload_n 1, 1) := by decide +kernel
theorem dX6_sitter_65 : decode cX6_sitter 65 = .ok (.invokevirtual 204, 3) := by decide +kernel
theorem dX6_sitter_68 : decode cX6_sitter 68 = .ok (.ifCond .eq 7, 3) := by decide +kernel
theorem dX6_sitter_71 : decode cX6_sitter 71 = .ok (.iconst 1, 1) := by decide +kernel
theorem dX6_sitter_72 : decode cX6_sitter 72 = .ok (.goto 4, 3) := by decide +kernel
theorem dX6_sitter_75 : decode cX6_sitter 75 = .ok (.iconst 0, 1) := by decide +kernel
theorem dX6_sitter_76 : decode cX6_sitter 76 = .ok (.ireturn, 1) := by decide +kernel
theorem dX6_sitter_77 : decode cX6_sitter 77 = .ok (.ldc 65, 2) := by decide +kernel
theorem dX6_sitter_79 : decode cX6_sitter 79 = .ok (.ireturn, 1) := by decide +kernel
theorem dX6_ahead_0 : decode cX6_ahead 0 = .ok (.aload_n 0, 1) := by decide +kernel
theorem dX6_ahead_1 : decode cX6_ahead 1 = .ok (.getfield 26, 3) := by decide +kernel
theorem dX6_ahead_4 : decode cX6_ahead 4 = .ok (.invokevirtual 144, 3) := by decide +kernel
theorem dX6_ahead_7 : decode cX6_ahead 7 = .ok (.ifCond .ne 6, 3) := by decide +kernel
theorem dX6_ahead_10 : decode cX6_ahead 10 = .ok (.ldc 140, 2) := by decide +kernel
theorem dX6_ahead_12 : decode cX6_ahead 12 = .ok (.ireturn, 1) := by decide +kernel
theorem dX6_ahead_13 : decode cX6_ahead 13 = .ok (.iload_n 1, 1) := by decide +kernel
theorem dX6_ahead_14 : decode cX6_ahead 14 = .ok (.iconst 0, 1) := by decide +kernel
theorem dX6_ahead_15 : decode cX6_ahead 15 = .ok (.bipush 60, 2) := by decide +kernel
theorem dX6_ahead_17 : decode cX6_ahead 17 = .ok (.invokestatic 61, 3) := by decide +kernel
theorem dX6_ahead_20 : decode cX6_ahead 20 = .ok (.ifCond .eq 14, 3) := by decide +kernel
theorem dX6_ahead_23 : decode cX6_ahead 23 = .ok (.aload_n 0, 1) := by decide +kernel
theorem dX6_ahead_24 : decode cX6_ahead 24 = .ok (.getfield 26, 3) := by decide +kernel
theorem dX6_ahead_27 : decode cX6_ahead 27 = .ok (.iload_n 2, 1) := by decide +kernel
theorem dX6_ahead_28 : decode cX6_ahead 28 = .ok (.invokevirtual 176, 3) := by decide +kernel
theorem dX6_ahead_31 : decode cX6_ahead 31 = .ok (.ifCond .ne 6, 3) := by decide +kernel
theorem dX6_ahead_34 : decode cX6_ahead 34 = .ok (.ldc 65, 2) := by decide +kernel
theorem dX6_ahead_36 : decode cX6_ahead 36 = .ok (.ireturn, 1) := by decide +kernel
theorem dX6_ahead_37 : decode cX6_ahead 37 = .ok (.aload_n 0, 1) := by decide +kernel
theorem dX6_ahead_38 : decode cX6_ahead 38 = .ok (.getfield 40, 3) := by decide +kernel
theorem dX6_ahead_41 : decode cX6_ahead 41 = .ok (.aload_n 0, 1) := by decide +kernel
theorem dX6_ahead_42 : decode cX6_ahead 42 = .ok (.getfield 26, 3) := by decide +kernel
theorem dX6_ahead_45 : decode cX6_ahead 45 = .ok (.iload_n 1, 1) := by decide +kernel
theorem dX6_ahead_46 : decode cX6_ahead 46 = .ok (.invokevirtual 207, 3) := by decide +kernel
theorem dX6_ahead_49 : decode cX6_ahead 49 = .ok (.aload_n 0, 1) := by decide +kernel
theorem dX6_ahead_50 : decode cX6_ahead 50 = .ok (.getfield 40, 3) := by decide +kernel
theorem dX6_ahead_53 : decode cX6_ahead 53 = .ok (.getfield 106, 3) := by decide +kernel
theorem dX6_ahead_56 : decode cX6_ahead 56 = .ok (.getfield 183, 3) := by decide +kernel
theorem dX6_ahead_59 : decode cX6_ahead 59 = .ok (.iload_n 2, 1) := by decide +kernel
theorem dX6_ahead_60 : decode cX6_ahead 60 = .ok (.iaload, 1) := by decide +kernel
theorem dX6_ahead_61 : decode cX6_ahead 61 = .ok (.ireturn, 1) := by decide +kernel
theorem dX6_allAhead_0 : decode cX6_allAhead 0 = .ok (.aload_n 0, 1) := by decide +kernel
theorem dX6_allAhead_1 : decode cX6_allAhead 1 = .ok (.getfield 26, 3) := by decide +kernel
theorem dX6_allAhead_4 : decode cX6_allAhead 4 = .ok (.invokevirtual 144, 3) := by decide +kernel
theorem dX6_allAhead_7 : decode cX6_allAhead 7 = .ok (.ifCond .ne 6, 3) := by decide +kernel
theorem dX6_allAhead_10 : decode cX6_allAhead 10 = .ok (.ldc 140, 2) := by decide +kernel
theorem dX6_allAhead_12 : decode cX6_allAhead 12 = .ok (.ireturn, 1) := by decide +kernel
theorem dX6_allAhead_13 : decode cX6_allAhead 13 = .ok (.iload_n 1, 1) := by decide +kernel
theorem dX6_allAhead_14 : decode cX6_allAhead 14 = .ok (.iconst 0, 1) := by decide +kernel
theorem dX6_allAhead_15 : decode cX6_allAhead 15 = .ok (.bipush 60, 2) := by decide +kernel
theorem dX6_allAhead_17 : decode cX6_allAhead 17 = .ok (.invokestatic 61, 3) := by decide +kernel
theorem dX6_allAhead_20 : decode cX6_allAhead 20 = .ok (.ifCond .ne 6, 3) := by decide +kernel
theorem dX6_allAhead_23 : decode cX6_allAhead 23 = .ok (.ldc 65, 2) := by decide +kernel
theorem dX6_allAhead_25 : decode cX6_allAhead 25 = .ok (.ireturn, 1) := by decide +kernel
theorem dX6_allAhead_26 : decode cX6_allAhead 26 = .ok (.aload_n 0, 1) := by decide +kernel
theorem dX6_allAhead_27 : decode cX6_allAhead 27 = .ok (.getfield 40, 3) := by decide +kernel
theorem dX6_allAhead_30 : decode cX6_allAhead 30 = .ok (.aload_n 0, 1) := by decide +kernel
theorem dX6_allAhead_31 : decode cX6_allAhead 31 = .ok (.getfield 26, 3) := by decide +kernel
theorem dX6_allAhead_34 : decode cX6_allAhead 34 = .ok (.iload_n 1, 1) := by decide +kernel
theorem dX6_allAhead_35 : decode cX6_allAhead 35 = .ok (.invokevirtual 207, 3) := by decide +kernel
theorem dX6_allAhead_38 : decode cX6_allAhead 38 = .ok (.aload_n 0, 1) := by decide +kernel
theorem dX6_allAhead_39 : decode cX6_allAhead 39 = .ok (.getfield 40, 3) := by decide +kernel
theorem dX6_allAhead_42 : decode cX6_allAhead 42 = .ok (.getfield 106, 3) := by decide +kernel
theorem dX6_allAhead_45 : decode cX6_allAhead 45 = .ok (.invokevirtual 156, 3) := by decide +kernel
theorem dX6_allAhead_48 : decode cX6_allAhead 48 = .ok (.ireturn, 1) := by decide +kernel
theorem dX6_shivers_0 : decode cX6_shivers 0 = .ok (.aload_n 0, 1) := by decide +kernel
theorem dX6_shivers_1 : decode cX6_shivers 1 = .ok (.getfield 26, 3) := by decide +kernel
theorem dX6_shivers_4 : decode cX6_shivers 4 = .ok (.invokevirtual 144, 3) := by decide +kernel
theorem dX6_shivers_7 : decode cX6_shivers 7 = .ok (.ifCond .ne 6, 3) := by decide +kernel
theorem dX6_shivers_10 : decode cX6_shivers 10 = .ok (.ldc 140, 2) := by decide +kernel
theorem dX6_shivers_12 : decode cX6_shivers 12 = .ok (.ireturn, 1) := by decide +kernel
theorem dX6_shivers_13 : decode cX6_shivers 13 = .ok (.iload_n 1, 1) := by decide +kernel
theorem dX6_shivers_14 : decode cX6_shivers 14 = .ok (.iconst 0, 1) := by decide +kernel
theorem dX6_shivers_15 : decode cX6_shivers 15 = .ok (.iconst 1, 1) := by decide +kernel
theorem dX6_shivers_16 : decode cX6_shivers 16 = .ok (.invokestatic 61, 3) := by decide +kernel
theorem dX6_shivers_19 : decode cX6_shivers 19 = .ok (.ifCond .ne 6, 3) := by decide +kernel
theorem dX6_shivers_22 : decode cX6_shivers 22 = .ok (.ldc 65, 2) := by decide +kernel
theorem dX6_shivers_24 : decode cX6_shivers 24 = .ok (.ireturn, 1) := by decide +kernel
theorem dX6_shivers_25 : decode cX6_shivers 25 = .ok (.aload_n 0, 1) := by decide +kernel
theorem dX6_shivers_26 : decode cX6_shivers 26 = .ok (.getfield 40, 3) := by decide +kernel
theorem dX6_shivers_29 : decode cX6_shivers 29 = .ok (.aload_n 0, 1) := by decide +kernel
theorem dX6_shivers_30 : decode cX6_shivers 30 = .ok (.getfield 26, 3) := by decide +kernel
theorem dX6_shivers_33 : decode cX6_shivers 33 = .ok (.bipush 60, 2) := by decide +kernel
theorem dX6_shivers_35 : decode cX6_shivers 35 = .ok (.invokevirtual 211, 3) := by decide +kernel
theorem dX6_shivers_38 : decode cX6_shivers 38 = .ok (.aload_n 0, 1) := by decide +kernel
theorem dX6_shivers_39 : decode cX6_shivers 39 = .ok (.getfield 40, 3) := by decide +kernel
theorem dX6_shivers_42 : decode cX6_shivers 42 = .ok (.iload_n 1, 1) := by decide +kernel
theorem dX6_shivers_43 : decode cX6_shivers 43 = .ok (.invokevirtual 214, 3) := by decide +kernel
theorem dX6_shivers_46 : decode cX6_shivers 46 = .ok (.ireturn, 1) := by decide +kernel
theorem dX6_moved_0 : decode cX6_moved 0 = .ok (.aload_n 0, 1) := by decide +kernel
theorem dX6_moved_1 : decode cX6_moved 1 = .ok (.getfield 26, 3) := by decide +kernel
theorem dX6_moved_4 : decode cX6_moved 4 = .ok (.invokevirtual 144, 3) := by decide +kernel
theorem dX6_moved_7 : decode cX6_moved 7 = .ok (.ifCond .ne 6, 3) := by decide +kernel
theorem dX6_moved_10 : decode cX6_moved 10 = .ok (.ldc 140, 2) := by decide +kernel
theorem dX6_moved_12 : decode cX6_moved 12 = .ok (.ireturn, 1) := by decide +kernel
theorem dX6_moved_13 : decode cX6_moved 13 = .ok (.aload_n 0, 1) := by decide +kernel
theorem dX6_moved_14 : decode cX6_moved 14 = .ok (.getfield 26, 3) := by decide +kernel
theorem dX6_moved_17 : decode cX6_moved 17 = .ok (.iload_n 1, 1) := by decide +kernel
theorem dX6_moved_18 : decode cX6_moved 18 = .ok (.invokevirtual 217, 3) := by decide +kernel
theorem dX6_moved_21 : decode cX6_moved 21 = .ok (.ifCond .eq 20, 3) := by decide +kernel
theorem dX6_moved_24 : decode cX6_moved 24 = .ok (.aload_n 0, 1) := by decide +kernel
theorem dX6_moved_25 : decode cX6_moved 25 = .ok (.getfield 26, 3) := by decide +kernel
theorem dX6_moved_28 : decode cX6_moved 28 = .ok (.iload_n 2, 1) := by decide +kernel
theorem dX6_moved_29 : decode cX6_moved 29 = .ok (.invokevirtual 217, 3) := by decide +kernel
theorem dX6_moved_32 : decode cX6_moved 32 = .ok (.ifCond .eq 9, 3) := by decide +kernel
theorem dX6_moved_35 : decode cX6_moved 35 = .ok (.iload_n 1, 1) := by decide +kernel
theorem dX6_moved_36 : decode cX6_moved 36 = .ok (.iload_n 2, 1) := by decide +kernel
theorem dX6_moved_37 : decode cX6_moved 37 = .ok (.iand, 1) := by decide +kernel
theorem dX6_moved_38 : decode cX6_moved 38 = .ok (.ifCond .eq 6, 3) := by decide +kernel
theorem dX6_moved_41 : decode cX6_moved 41 = .ok (.ldc 65, 2) := by decide +kernel
theorem dX6_moved_43 : decode cX6_moved 43 = .ok (.ireturn, 1) := by decide +kernel
theorem dX6_moved_44 : decode cX6_moved 44 = .ok (.iload_n 3, 1) := by decide +kernel
theorem dX6_moved_45 : decode cX6_moved 45 = .ok (.iconst 1, 1) := by decide +kernel
theorem dX6_moved_46 : decode cX6_moved 46 = .ok (.sipush 999, 3) := by decide +kernel
theorem dX6_moved_49 : decode cX6_moved 49 = .ok (.invokestatic 61, 3) := by decide +kernel
theorem dX6_moved_52 : decode cX6_moved 52 = .ok (.ifCond .eq 24, 3) := by decide +kernel
theorem dX6_moved_55 : decode cX6_moved 55 = .ok (.iload 4, 2) := by decide +kernel
theorem dX6_moved_57 : decode cX6_moved 57 = .ok (.iconst 1, 1) := by decide +kernel
theorem dX6_moved_58 : decode cX6_moved 58 = .ok (.bipush 24, 2) := by decide +kernel
theorem dX6_moved_60 : decode cX6_moved 60 = .ok (.invokestatic 61, 3) := by decide +kernel
theorem dX6_moved_63 : decode cX6_moved 63 = .ok (.ifCond .eq 13, 3) := by decide +kernel
theorem dX6_moved_66 : decode cX6_moved 66 = .ok (.iload 5, 2) := by decide +kernel
theorem dX6_moved_68 : decode cX6_moved 68 = .ok (.iconst 0, 1) := by decide +kernel
theorem dX6_moved_69 : decode cX6_moved 69 = .ok (.iconst 1, 1) := by decide +kernel
theorem dX6_moved_70 : decode cX6_moved 70 = .ok (.invokestatic 61, 3) := by decide +kernel
theorem dX6_moved_73 : decode cX6_moved 73 = .ok (.ifCond .ne 6, 3) := by decide +kernel
theorem dX6_moved_76 : decode cX6_moved 76 = .ok (.ldc 65, 2) := by decide +kernel
theorem dX6_moved_78 : decode cX6_moved 78 = .ok (.ireturn, 1) := by decide +kernel
theorem dX6_moved_79 : decode cX6_moved 79 = .ok (.aload_n 0, 1) := by decide +kernel
theorem dX6_moved_80 : decode cX6_moved 80 = .ok (.getfield 40, 3) := by decide +kernel
theorem dX6_moved_83 : decode cX6_moved 83 = .ok (.aload_n 0, 1) := by decide +kernel
theorem dX6_moved_84 : decode cX6_moved 84 = .ok (.getfield 26, 3) := by decide +kernel
theorem dX6_moved_87 : decode cX6_moved 87 = .ok (.iload_n 1, 1) := by decide +kernel
theorem dX6_moved_88 : decode cX6_moved 88 = .ok (.iload_n 2, 1) := by decide +kernel
theorem dX6_moved_89 : decode cX6_moved 89 = .ok (.iload_n 3, 1) := by decide +kernel
theorem dX6_moved_90 : decode cX6_moved 90 = .ok (.iload 4, 2) := by decide +kernel
theorem dX6_moved_92 : decode cX6_moved 92 = .ok (.invokevirtual 220, 3) := by decide +kernel
theorem dX6_moved_95 : decode cX6_moved 95 = .ok (.aload_n 0, 1) := by decide +kernel
theorem dX6_moved_96 : decode cX6_moved 96 = .ok (.getfield 40, 3) := by decide +kernel
theorem dX6_moved_99 : decode cX6_moved 99 = .ok (.iload 5, 2) := by decide +kernel
theorem dX6_moved_101 : decode cX6_moved 101 = .ok (.invokevirtual 214, 3) := by decide +kernel
theorem dX6_moved_104 : decode cX6_moved 104 = .ok (.ireturn, 1) := by decide +kernel
theorem dX6_sitWhere_0 : decode cX6_sitWhere 0 = .ok (.aload_n 0, 1) := by decide +kernel
theorem dX6_sitWhere_1 : decode cX6_sitWhere 1 = .ok (.getfield 26, 3) := by decide +kernel
theorem dX6_sitWhere_4 : decode cX6_sitWhere 4 = .ok (.iload_n 1, 1) := by decide +kernel
theorem dX6_sitWhere_5 : decode cX6_sitWhere 5 = .ok (.invokevirtual 173, 3) := by decide +kernel
theorem dX6_sitWhere_8 : decode cX6_sitWhere 8 = .ok (.ifCond .eq 14, 3) := by decide +kernel
theorem dX6_sitWhere_11 : decode cX6_sitWhere 11 = .ok (.aload_n 0, 1) := by decide +kernel
theorem dX6_sitWhere_12 : decode cX6_sitWhere 12 = .ok (.getfield 26, 3) := by decide +kernel
theorem dX6_sitWhere_15 : decode cX6_sitWhere 15 = .ok (.iload_n 2, 1) := by decide +kernel
theorem dX6_sitWhere_16 : decode cX6_sitWhere 16 = .ok (.invokevirtual 176, 3) := by decide +kernel
theorem dX6_sitWhere_19 : decode cX6_sitWhere 19 = .ok (.ifCond .ne 6, 3) := by decide +kernel
theorem dX6_sitWhere_22 : decode cX6_sitWhere 22 = .ok (.ldc 65, 2) := by decide +kernel
theorem dX6_sitWhere_24 : decode cX6_sitWhere 24 = .ok (.ireturn, 1) := by decide +kernel
theorem dX6_sitWhere_25 : decode cX6_sitWhere 25 = .ok (.iload_n 3, 1) := by decide +kernel
theorem dX6_sitWhere_26 : decode cX6_sitWhere 26 = .ok (.iconst 1, 1) := by decide +kernel
theorem dX6_sitWhere_27 : decode cX6_sitWhere 27 = .ok (.bipush 24, 2) := by decide +kernel
theorem dX6_sitWhere_29 : decode cX6_sitWhere 29 = .ok (.invokestatic 61, 3) := by decide +kernel
theorem dX6_sitWhere_32 : decode cX6_sitWhere 32 = .ok (.ifCond .eq 13, 3) := by decide +kernel
theorem dX6_sitWhere_35 : decode cX6_sitWhere 35 = .ok (.iload 4, 2) := by decide +kernel
theorem dX6_sitWhere_37 : decode cX6_sitWhere 37 = .ok (.iconst 0, 1) := by decide +kernel
theorem dX6_sitWhere_38 : decode cX6_sitWhere 38 = .ok (.iconst 1, 1) := by decide +kernel
theorem dX6_sitWhere_39 : decode cX6_sitWhere 39 = .ok (.invokestatic 61, 3) := by decide +kernel
theorem dX6_sitWhere_42 : decode cX6_sitWhere 42 = .ok (.ifCond .ne 6, 3) := by decide +kernel
theorem dX6_sitWhere_45 : decode cX6_sitWhere 45 = .ok (.ldc 65, 2) := by decide +kernel
theorem dX6_sitWhere_47 : decode cX6_sitWhere 47 = .ok (.ireturn, 1) := by decide +kernel
theorem dX6_sitWhere_48 : decode cX6_sitWhere 48 = .ok (.aload_n 0, 1) := by decide +kernel
theorem dX6_sitWhere_49 : decode cX6_sitWhere 49 = .ok (.getfield 40, 3) := by decide +kernel
theorem dX6_sitWhere_52 : decode cX6_sitWhere 52 = .ok (.aload_n 0, 1) := by decide +kernel
theorem dX6_sitWhere_53 : decode cX6_sitWhere 53 = .ok (.getfield 26, 3) := by decide +kernel
theorem dX6_sitWhere_56 : decode cX6_sitWhere 56 = .ok (.iload_n 1, 1) := by decide +kernel
theorem dX6_sitWhere_57 : decode cX6_sitWhere 57 = .ok (.iload_n 2, 1) := by decide +kernel
theorem dX6_sitWhere_58 : decode cX6_sitWhere 58 = .ok (.iload_n 3, 1) := by decide +kernel
theorem dX6_sitWhere_59 : decode cX6_sitWhere 59 = .ok (.invokevirtual 224, 3) := by decide +kernel
end
section
theorem dX6_sitWhere_62 : decode cX6_sitWhere 62 = .ok (.aload_n 0, 1) := by decide +kernel
theorem dX6_sitWhere_63 : decode cX6_sitWhere 63 = .ok (.getfield 40, 3) := by decide +kernel
theorem dX6_sitWhere_66 : decode cX6_sitWhere 66 = .ok (.iload 4, 2) := by decide +kernel
theorem dX6_sitWhere_68 : decode cX6_sitWhere 68 = .ok (.invokevirtual 214, 3) := by decide +kernel
theorem dX6_sitWhere_71 : decode cX6_sitWhere 71 = .ok (.ireturn, 1) := by decide +kernel
theorem dX6_led_0 : decode cX6_led 0 = .ok (.aload_n 0, 1) := by decide +kernel
theorem dX6_led_1 : decode cX6_led 1 = .ok (.getfield 26, 3) := by decide +kernel
theorem dX6_led_4 : decode cX6_led 4 = .ok (.invokevirtual 144, 3) := by decide +kernel
theorem dX6_led_7 : decode cX6_led 7 = .ok (.ifCond .ne 6, 3) := by decide +kernel
theorem dX6_led_10 : decode cX6_led 10 = .ok (.ldc 140, 2) := by decide +kernel
theorem dX6_led_12 : decode cX6_led 12 = .ok (.ireturn, 1) := by decide +kernel
theorem dX6_led_13 : decode cX6_led 13 = .ok (.aload_n 0, 1) := by decide +kernel
theorem dX6_led_14 : decode cX6_led 14 = .ok (.getfield 26, 3) := by decide +kernel
theorem dX6_led_17 : decode cX6_led 17 = .ok (.iload_n 1, 1) := by decide +kernel
theorem dX6_led_18 : decode cX6_led 18 = .ok (.invokevirtual 176, 3) := by decide +kernel
theorem dX6_led_21 : decode cX6_led 21 = .ok (.ifCond .eq 23, 3) := by decide +kernel
theorem dX6_led_24 : decode cX6_led 24 = .ok (.iload_n 2, 1) := by decide +kernel
theorem dX6_led_25 : decode cX6_led 25 = .ok (.iconst 1, 1) := by decide +kernel
theorem dX6_led_26 : decode cX6_led 26 = .ok (.sipush 999, 3) := by decide +kernel
theorem dX6_led_29 : decode cX6_led 29 = .ok (.invokestatic 61, 3) := by decide +kernel
theorem dX6_led_32 : decode cX6_led 32 = .ok (.ifCond .eq 12, 3) := by decide +kernel
theorem dX6_led_35 : decode cX6_led 35 = .ok (.iload_n 3, 1) := by decide +kernel
theorem dX6_led_36 : decode cX6_led 36 = .ok (.iconst 0, 1) := by decide +kernel
theorem dX6_led_37 : decode cX6_led 37 = .ok (.iconst 1, 1) := by decide +kernel
theorem dX6_led_38 : decode cX6_led 38 = .ok (.invokestatic 61, 3) := by decide +kernel
theorem dX6_led_41 : decode cX6_led 41 = .ok (.ifCond .ne 6, 3) := by decide +kernel
theorem dX6_led_44 : decode cX6_led 44 = .ok (.ldc 65, 2) := by decide +kernel
theorem dX6_led_46 : decode cX6_led 46 = .ok (.ireturn, 1) := by decide +kernel
theorem dX6_led_47 : decode cX6_led 47 = .ok (.aload_n 0, 1) := by decide +kernel
theorem dX6_led_48 : decode cX6_led 48 = .ok (.getfield 40, 3) := by decide +kernel
theorem dX6_led_51 : decode cX6_led 51 = .ok (.aload_n 0, 1) := by decide +kernel
theorem dX6_led_52 : decode cX6_led 52 = .ok (.getfield 26, 3) := by decide +kernel
theorem dX6_led_55 : decode cX6_led 55 = .ok (.iload_n 1, 1) := by decide +kernel
theorem dX6_led_56 : decode cX6_led 56 = .ok (.iload_n 2, 1) := by decide +kernel
theorem dX6_led_57 : decode cX6_led 57 = .ok (.bipush 40, 2) := by decide +kernel
theorem dX6_led_59 : decode cX6_led 59 = .ok (.invokevirtual 228, 3) := by decide +kernel
theorem dX6_led_62 : decode cX6_led 62 = .ok (.aload_n 0, 1) := by decide +kernel
theorem dX6_led_63 : decode cX6_led 63 = .ok (.getfield 40, 3) := by decide +kernel
theorem dX6_led_66 : decode cX6_led 66 = .ok (.iload_n 3, 1) := by decide +kernel
theorem dX6_led_67 : decode cX6_led 67 = .ok (.invokevirtual 214, 3) := by decide +kernel
theorem dX6_led_70 : decode cX6_led 70 = .ok (.ireturn, 1) := by decide +kernel
theorem dX6_came_0 : decode cX6_came 0 = .ok (.aload_n 0, 1) := by decide +kernel
theorem dX6_came_1 : decode cX6_came 1 = .ok (.getfield 26, 3) := by decide +kernel
theorem dX6_came_4 : decode cX6_came 4 = .ok (.invokevirtual 144, 3) := by decide +kernel
theorem dX6_came_7 : decode cX6_came 7 = .ok (.ifCond .ne 6, 3) := by decide +kernel
theorem dX6_came_10 : decode cX6_came 10 = .ok (.ldc 140, 2) := by decide +kernel
theorem dX6_came_12 : decode cX6_came 12 = .ok (.ireturn, 1) := by decide +kernel
theorem dX6_came_13 : decode cX6_came 13 = .ok (.iload_n 1, 1) := by decide +kernel
theorem dX6_came_14 : decode cX6_came 14 = .ok (.invokestatic 57, 3) := by decide +kernel
theorem dX6_came_17 : decode cX6_came 17 = .ok (.ifCond .eq 13, 3) := by decide +kernel
theorem dX6_came_20 : decode cX6_came 20 = .ok (.iload_n 3, 1) := by decide +kernel
theorem dX6_came_21 : decode cX6_came 21 = .ok (.iconst 1, 1) := by decide +kernel
theorem dX6_came_22 : decode cX6_came 22 = .ok (.bipush 6, 2) := by decide +kernel
theorem dX6_came_24 : decode cX6_came 24 = .ok (.invokestatic 61, 3) := by decide +kernel
theorem dX6_came_27 : decode cX6_came 27 = .ok (.ifCond .ne 6, 3) := by decide +kernel
theorem dX6_came_30 : decode cX6_came 30 = .ok (.ldc 65, 2) := by decide +kernel
theorem dX6_came_32 : decode cX6_came 32 = .ok (.ireturn, 1) := by decide +kernel
theorem dX6_came_33 : decode cX6_came 33 = .ok (.aload_n 0, 1) := by decide +kernel
theorem dX6_came_34 : decode cX6_came 34 = .ok (.getfield 10, 3) := by decide +kernel
theorem dX6_came_37 : decode cX6_came 37 = .ok (.iload_n 1, 1) := by decide +kernel
theorem dX6_came_38 : decode cX6_came 38 = .ok (.invokevirtual 77, 3) := by decide +kernel
theorem dX6_came_41 : decode cX6_came 41 = .ok (.ifCond .eq 9, 3) := by decide +kernel
theorem dX6_came_44 : decode cX6_came 44 = .ok (.aload_n 0, 1) := by decide +kernel
theorem dX6_came_45 : decode cX6_came 45 = .ok (.iconst 1, 1) := by decide +kernel
theorem dX6_came_46 : decode cX6_came 46 = .ok (.invokevirtual 66, 3) := by decide +kernel
theorem dX6_came_49 : decode cX6_came 49 = .ok (.ireturn, 1) := by decide +kernel
theorem dX6_came_50 : decode cX6_came 50 = .ok (.aload_n 0, 1) := by decide +kernel
theorem dX6_came_51 : decode cX6_came 51 = .ok (.getfield 10, 3) := by decide +kernel
theorem dX6_came_54 : decode cX6_came 54 = .ok (.iload_n 1, 1) := by decide +kernel
theorem dX6_came_55 : decode cX6_came 55 = .ok (.iload_n 2, 1) := by decide +kernel
theorem dX6_came_56 : decode cX6_came 56 = .ok (.iload_n 3, 1) := by decide +kernel
theorem dX6_came_57 : decode cX6_came 57 = .ok (.aload_n 0, 1) := by decide +kernel
theorem dX6_came_58 : decode cX6_came 58 = .ok (.getfield 26, 3) := by decide +kernel
theorem dX6_came_61 : decode cX6_came 61 = .ok (.getfield 231, 3) := by decide +kernel
theorem dX6_came_64 : decode cX6_came 64 = .ok (.imul, 1) := by decide +kernel
theorem dX6_came_65 : decode cX6_came 65 = .ok (.invokevirtual 80, 3) := by decide +kernel
theorem dX6_came_68 : decode cX6_came 68 = .ok (.ifCond .ne 9, 3) := by decide +kernel
theorem dX6_came_71 : decode cX6_came 71 = .ok (.aload_n 0, 1) := by decide +kernel
theorem dX6_came_72 : decode cX6_came 72 = .ok (.iconst 2, 1) := by decide +kernel
theorem dX6_came_73 : decode cX6_came 73 = .ok (.invokevirtual 66, 3) := by decide +kernel
theorem dX6_came_76 : decode cX6_came 76 = .ok (.ireturn, 1) := by decide +kernel
theorem dX6_came_77 : decode cX6_came 77 = .ok (.aload_n 0, 1) := by decide +kernel
theorem dX6_came_78 : decode cX6_came 78 = .ok (.aload_n 0, 1) := by decide +kernel
theorem dX6_came_79 : decode cX6_came 79 = .ok (.getfield 40, 3) := by decide +kernel
theorem dX6_came_82 : decode cX6_came 82 = .ok (.aload_n 0, 1) := by decide +kernel
theorem dX6_came_83 : decode cX6_came 83 = .ok (.getfield 26, 3) := by decide +kernel
theorem dX6_came_86 : decode cX6_came 86 = .ok (.aload_n 0, 1) := by decide +kernel
theorem dX6_came_87 : decode cX6_came 87 = .ok (.getfield 10, 3) := by decide +kernel
theorem dX6_came_90 : decode cX6_came 90 = .ok (.iload_n 1, 1) := by decide +kernel
theorem dX6_came_91 : decode cX6_came 91 = .ok (.iload_n 2, 1) := by decide +kernel
theorem dX6_came_92 : decode cX6_came 92 = .ok (.iload_n 3, 1) := by decide +kernel
theorem dX6_came_93 : decode cX6_came 93 = .ok (.invokevirtual 234, 3) := by decide +kernel
theorem dX6_came_96 : decode cX6_came 96 = .ok (.invokevirtual 74, 3) := by decide +kernel
theorem dX6_came_99 : decode cX6_came 99 = .ok (.ireturn, 1) := by decide +kernel
theorem dX6_who_0 : decode cX6_who 0 = .ok (.aload_n 0, 1) := by decide +kernel
theorem dX6_who_1 : decode cX6_who 1 = .ok (.getfield 26, 3) := by decide +kernel
theorem dX6_who_4 : decode cX6_who 4 = .ok (.iload_n 1, 1) := by decide +kernel
theorem dX6_who_5 : decode cX6_who 5 = .ok (.invokevirtual 173, 3) := by decide +kernel
theorem dX6_who_8 : decode cX6_who 8 = .ok (.ifCond .eq 21, 3) := by decide +kernel
theorem dX6_who_11 : decode cX6_who 11 = .ok (.iload_n 2, 1) := by decide +kernel
theorem dX6_who_12 : decode cX6_who 12 = .ok (.invokestatic 57, 3) := by decide +kernel
theorem dX6_who_15 : decode cX6_who 15 = .ok (.ifCond .eq 14, 3) := by decide +kernel
theorem dX6_who_18 : decode cX6_who 18 = .ok (.iload 4, 2) := by decide +kernel
theorem dX6_who_20 : decode cX6_who 20 = .ok (.iconst 1, 1) := by decide +kernel
theorem dX6_who_21 : decode cX6_who 21 = .ok (.bipush 6, 2) := by decide +kernel
theorem dX6_who_23 : decode cX6_who 23 = .ok (.invokestatic 61, 3) := by decide +kernel
theorem dX6_who_26 : decode cX6_who 26 = .ok (.ifCond .ne 6, 3) := by decide +kernel
theorem dX6_who_29 : decode cX6_who 29 = .ok (.ldc 65, 2) := by decide +kernel
theorem dX6_who_31 : decode cX6_who 31 = .ok (.ireturn, 1) := by decide +kernel
theorem dX6_who_32 : decode cX6_who 32 = .ok (.aload_n 0, 1) := by decide +kernel
theorem dX6_who_33 : decode cX6_who 33 = .ok (.getfield 10, 3) := by decide +kernel
theorem dX6_who_36 : decode cX6_who 36 = .ok (.iload_n 2, 1) := by decide +kernel
theorem dX6_who_37 : decode cX6_who 37 = .ok (.invokevirtual 77, 3) := by decide +kernel
theorem dX6_who_40 : decode cX6_who 40 = .ok (.ifCond .eq 9, 3) := by decide +kernel
theorem dX6_who_43 : decode cX6_who 43 = .ok (.aload_n 0, 1) := by decide +kernel
theorem dX6_who_44 : decode cX6_who 44 = .ok (.iconst 1, 1) := by decide +kernel
theorem dX6_who_45 : decode cX6_who 45 = .ok (.invokevirtual 66, 3) := by decide +kernel
theorem dX6_who_48 : decode cX6_who 48 = .ok (.ireturn, 1) := by decide +kernel
theorem dX6_who_49 : decode cX6_who 49 = .ok (.aload_n 0, 1) := by decide +kernel
theorem dX6_who_50 : decode cX6_who 50 = .ok (.getfield 10, 3) := by decide +kernel
theorem dX6_who_53 : decode cX6_who 53 = .ok (.iload_n 2, 1) := by decide +kernel
theorem dX6_who_54 : decode cX6_who 54 = .ok (.iload_n 3, 1) := by decide +kernel
theorem dX6_who_55 : decode cX6_who 55 = .ok (.iload 4, 2) := by decide +kernel
theorem dX6_who_57 : decode cX6_who 57 = .ok (.aload_n 0, 1) := by decide +kernel
theorem dX6_who_58 : decode cX6_who 58 = .ok (.getfield 26, 3) := by decide +kernel
theorem dX6_who_61 : decode cX6_who 61 = .ok (.getfield 231, 3) := by decide +kernel
theorem dX6_who_64 : decode cX6_who 64 = .ok (.imul, 1) := by decide +kernel
theorem dX6_who_65 : decode cX6_who 65 = .ok (.invokevirtual 80, 3) := by decide +kernel
theorem dX6_who_68 : decode cX6_who 68 = .ok (.ifCond .ne 9, 3) := by decide +kernel
theorem dX6_who_71 : decode cX6_who 71 = .ok (.aload_n 0, 1) := by decide +kernel
theorem dX6_who_72 : decode cX6_who 72 = .ok (.iconst 2, 1) := by decide +kernel
theorem dX6_who_73 : decode cX6_who 73 = .ok (.invokevirtual 66, 3) := by decide +kernel
theorem dX6_who_76 : decode cX6_who 76 = .ok (.ireturn, 1) := by decide +kernel
theorem dX6_who_77 : decode cX6_who 77 = .ok (.aload_n 0, 1) := by decide +kernel
theorem dX6_who_78 : decode cX6_who 78 = .ok (.aload_n 0, 1) := by decide +kernel
theorem dX6_who_79 : decode cX6_who 79 = .ok (.getfield 40, 3) := by decide +kernel
theorem dX6_who_82 : decode cX6_who 82 = .ok (.aload_n 0, 1) := by decide +kernel
theorem dX6_who_83 : decode cX6_who 83 = .ok (.getfield 26, 3) := by decide +kernel
theorem dX6_who_86 : decode cX6_who 86 = .ok (.iload_n 1, 1) := by decide +kernel
theorem dX6_who_87 : decode cX6_who 87 = .ok (.aload_n 0, 1) := by decide +kernel
theorem dX6_who_88 : decode cX6_who 88 = .ok (.getfield 10, 3) := by decide +kernel
theorem dX6_who_91 : decode cX6_who 91 = .ok (.iload_n 2, 1) := by decide +kernel
theorem dX6_who_92 : decode cX6_who 92 = .ok (.iload_n 3, 1) := by decide +kernel
theorem dX6_who_93 : decode cX6_who 93 = .ok (.iload 4, 2) := by decide +kernel
theorem dX6_who_95 : decode cX6_who 95 = .ok (.invokevirtual 238, 3) := by decide +kernel
theorem dX6_who_98 : decode cX6_who 98 = .ok (.invokevirtual 74, 3) := by decide +kernel
theorem dX6_who_101 : decode cX6_who 101 = .ok (.ireturn, 1) := by decide +kernel
theorem dX6_parted_0 : decode cX6_parted 0 = .ok (.aload_n 0, 1) := by decide +kernel
theorem dX6_parted_1 : decode cX6_parted 1 = .ok (.getfield 26, 3) := by decide +kernel
theorem dX6_parted_4 : decode cX6_parted 4 = .ok (.invokevirtual 144, 3) := by decide +kernel
theorem dX6_parted_7 : decode cX6_parted 7 = .ok (.ifCond .ne 6, 3) := by decide +kernel
theorem dX6_parted_10 : decode cX6_parted 10 = .ok (.ldc 140, 2) := by decide +kernel
theorem dX6_parted_12 : decode cX6_parted 12 = .ok (.ireturn, 1) := by decide +kernel
theorem dX6_parted_13 : decode cX6_parted 13 = .ok (.aload_n 0, 1) := by decide +kernel
theorem dX6_parted_14 : decode cX6_parted 14 = .ok (.getfield 26, 3) := by decide +kernel
theorem dX6_parted_17 : decode cX6_parted 17 = .ok (.iload_n 1, 1) := by decide +kernel
theorem dX6_parted_18 : decode cX6_parted 18 = .ok (.invokevirtual 176, 3) := by decide +kernel
theorem dX6_parted_21 : decode cX6_parted 21 = .ok (.ifCond .eq 23, 3) := by decide +kernel
theorem dX6_parted_24 : decode cX6_parted 24 = .ok (.aload_n 0, 1) := by decide +kernel
theorem dX6_parted_25 : decode cX6_parted 25 = .ok (.getfield 26, 3) := by decide +kernel
theorem dX6_parted_28 : decode cX6_parted 28 = .ok (.iload_n 2, 1) := by decide +kernel
theorem dX6_parted_29 : decode cX6_parted 29 = .ok (.invokevirtual 176, 3) := by decide +kernel
theorem dX6_parted_32 : decode cX6_parted 32 = .ok (.ifCond .eq 12, 3) := by decide +kernel
theorem dX6_parted_35 : decode cX6_parted 35 = .ok (.iload_n 3, 1) := by decide +kernel
theorem dX6_parted_36 : decode cX6_parted 36 = .ok (.iconst 0, 1) := by decide +kernel
theorem dX6_parted_37 : decode cX6_parted 37 = .ok (.iconst 1, 1) := by decide +kernel
theorem dX6_parted_38 : decode cX6_parted 38 = .ok (.invokestatic 61, 3) := by decide +kernel
theorem dX6_parted_41 : decode cX6_parted 41 = .ok (.ifCond .ne 6, 3) := by decide +kernel
theorem dX6_parted_44 : decode cX6_parted 44 = .ok (.ldc 65, 2) := by decide +kernel
theorem dX6_parted_46 : decode cX6_parted 46 = .ok (.ireturn, 1) := by decide +kernel
theorem dX6_parted_47 : decode cX6_parted 47 = .ok (.aload_n 0, 1) := by decide +kernel
theorem dX6_parted_48 : decode cX6_parted 48 = .ok (.getfield 40, 3) := by decide +kernel
theorem dX6_parted_51 : decode cX6_parted 51 = .ok (.aload_n 0, 1) := by decide +kernel
theorem dX6_parted_52 : decode cX6_parted 52 = .ok (.getfield 26, 3) := by decide +kernel
theorem dX6_parted_55 : decode cX6_parted 55 = .ok (.iload_n 1, 1) := by decide +kernel
theorem dX6_parted_56 : decode cX6_parted 56 = .ok (.iload_n 2, 1) := by decide +kernel
theorem dX6_parted_57 : decode cX6_parted 57 = .ok (.invokevirtual 242, 3) := by decide +kernel
theorem dX6_parted_60 : decode cX6_parted 60 = .ok (.aload_n 0, 1) := by decide +kernel
theorem dX6_parted_61 : decode cX6_parted 61 = .ok (.getfield 40, 3) := by decide +kernel
theorem dX6_parted_64 : decode cX6_parted 64 = .ok (.iload_n 3, 1) := by decide +kernel
theorem dX6_parted_65 : decode cX6_parted 65 = .ok (.invokevirtual 214, 3) := by decide +kernel
theorem dX6_parted_68 : decode cX6_parted 68 = .ok (.ireturn, 1) := by decide +kernel
theorem dX6_coldest_0 : decode cX6_coldest 0 = .ok (.aload_n 0, 1) := by decide +kernel
theorem dX6_coldest_1 : decode cX6_coldest 1 = .ok (.getfield 26, 3) := by decide +kernel
theorem dX6_coldest_4 : decode cX6_coldest 4 = .ok (.invokevirtual 144, 3) := by decide +kernel
theorem dX6_coldest_7 : decode cX6_coldest 7 = .ok (.ifCond .ne 6, 3) := by decide +kernel
theorem dX6_coldest_10 : decode cX6_coldest 10 = .ok (.ldc 140, 2) := by decide +kernel
theorem dX6_coldest_12 : decode cX6_coldest 12 = .ok (.ireturn, 1) := by decide +kernel
theorem dX6_coldest_13 : decode cX6_coldest 13 = .ok (.iload_n 1, 1) := by decide +kernel
theorem dX6_coldest_14 : decode cX6_coldest 14 = .ok (.iconst 0, 1) := by decide +kernel
theorem dX6_coldest_15 : decode cX6_coldest 15 = .ok (.bipush 60, 2) := by decide +kernel
theorem dX6_coldest_17 : decode cX6_coldest 17 = .ok (.invokestatic 61, 3) := by decide +kernel
theorem dX6_coldest_20 : decode cX6_coldest 20 = .ok (.ifCond .eq 12, 3) := by decide +kernel
theorem dX6_coldest_23 : decode cX6_coldest 23 = .ok (.iload_n 2, 1) := by decide +kernel
theorem dX6_coldest_24 : decode cX6_coldest 24 = .ok (.iconst 0, 1) := by decide +kernel
theorem dX6_coldest_25 : decode cX6_coldest 25 = .ok (.iconst 1, 1) := by decide +kernel
theorem dX6_coldest_26 : decode cX6_coldest 26 = .ok (.invokestatic 61, 3) := by decide +kernel
theorem dX6_coldest_29 : decode cX6_coldest 29 = .ok (.ifCond .ne 6, 3) := by decide +kernel
theorem dX6_coldest_32 : decode cX6_coldest 32 = .ok (.ldc 65, 2) := by decide +kernel
theorem dX6_coldest_34 : decode cX6_coldest 34 = .ok (.ireturn, 1) := by decide +kernel
theorem dX6_coldest_35 : decode cX6_coldest 35 = .ok (.aload_n 0, 1) := by decide +kernel
theorem dX6_coldest_36 : decode cX6_coldest 36 = .ok (.getfield 40, 3) := by decide +kernel
theorem dX6_coldest_39 : decode cX6_coldest 39 = .ok (.aload_n 0, 1) := by decide +kernel
theorem dX6_coldest_40 : decode cX6_coldest 40 = .ok (.getfield 26, 3) := by decide +kernel
theorem dX6_coldest_43 : decode cX6_coldest 43 = .ok (.iload_n 1, 1) := by decide +kernel
theorem dX6_coldest_44 : decode cX6_coldest 44 = .ok (.invokevirtual 246, 3) := by decide +kernel
theorem dX6_coldest_47 : decode cX6_coldest 47 = .ok (.aload_n 0, 1) := by decide +kernel
theorem dX6_coldest_48 : decode cX6_coldest 48 = .ok (.getfield 40, 3) := by decide +kernel
theorem dX6_coldest_51 : decode cX6_coldest 51 = .ok (.iload_n 2, 1) := by decide +kernel
theorem dX6_coldest_52 : decode cX6_coldest 52 = .ok (.invokevirtual 214, 3) := by decide +kernel
theorem dX6_coldest_55 : decode cX6_coldest 55 = .ok (.ireturn, 1) := by decide +kernel
theorem dX6_guest_0 : decode cX6_guest 0 = .ok (.aload_n 0, 1) := by decide +kernel
theorem dX6_guest_1 : decode cX6_guest 1 = .ok (.getfield 26, 3) := by decide +kernel
theorem dX6_guest_4 : decode cX6_guest 4 = .ok (.invokevirtual 144, 3) := by decide +kernel
theorem dX6_guest_7 : decode cX6_guest 7 = .ok (.ifCond .ne 6, 3) := by decide +kernel
theorem dX6_guest_10 : decode cX6_guest 10 = .ok (.ldc 140, 2) := by decide +kernel
theorem dX6_guest_12 : decode cX6_guest 12 = .ok (.ireturn, 1) := by decide +kernel
theorem dX6_guest_13 : decode cX6_guest 13 = .ok (.aload_n 0, 1) := by decide +kernel
theorem dX6_guest_14 : decode cX6_guest 14 = .ok (.getfield 26, 3) := by decide +kernel
theorem dX6_guest_17 : decode cX6_guest 17 = .ok (.iload_n 1, 1) := by decide +kernel
theorem dX6_guest_18 : decode cX6_guest 18 = .ok (.invokevirtual 176, 3) := by decide +kernel
theorem dX6_guest_21 : decode cX6_guest 21 = .ok (.ifCond .eq 21, 3) := by decide +kernel
theorem dX6_guest_24 : decode cX6_guest 24 = .ok (.aload_n 0, 1) := by decide +kernel
theorem dX6_guest_25 : decode cX6_guest 25 = .ok (.getfield 26, 3) := by decide +kernel
theorem dX6_guest_28 : decode cX6_guest 28 = .ok (.iload_n 1, 1) := by decide +kernel
theorem dX6_guest_29 : decode cX6_guest 29 = .ok (.aload_n 0, 1) := by decide +kernel
theorem dX6_guest_30 : decode cX6_guest 30 = .ok (.getfield 26, 3) := by decide +kernel
theorem dX6_guest_33 : decode cX6_guest 33 = .ok (.getfield 170, 3) := by decide +kernel
theorem dX6_guest_36 : decode cX6_guest 36 = .ok (.invokevirtual 249, 3) := by decide +kernel
theorem dX6_guest_39 : decode cX6_guest 39 = .ok (.goto 5, 3) := by decide +kernel
theorem dX6_guest_42 : decode cX6_guest 42 = .ok (.ldc 65, 2) := by decide +kernel
theorem dX6_guest_44 : decode cX6_guest 44 = .ok (.ireturn, 1) := by decide +kernel
theorem dX6_wind_0 : decode cX6_wind 0 = .ok (.aload_n 0, 1) := by decide +kernel
theorem dX6_wind_1 : decode cX6_wind 1 = .ok (.getfield 26, 3) := by decide +kernel
theorem dX6_wind_4 : decode cX6_wind 4 = .ok (.invokevirtual 144, 3) := by decide +kernel
theorem dX6_wind_7 : decode cX6_wind 7 = .ok (.ifCond .ne 7, 3) := by decide +kernel
theorem dX6_wind_10 : decode cX6_wind 10 = .ok (.ldc2_w 253, 3) := by decide +kernel
theorem dX6_wind_13 : decode cX6_wind 13 = .ok (.lreturn, 1) := by decide +kernel
theorem dX6_wind_14 : decode cX6_wind 14 = .ok (.aload_n 0, 1) := by decide +kernel
theorem dX6_wind_15 : decode cX6_wind 15 = .ok (.getfield 26, 3) := by decide +kernel
theorem dX6_wind_18 : decode cX6_wind 18 = .ok (.iload_n 1, 1) := by decide +kernel
theorem dX6_wind_19 : decode cX6_wind 19 = .ok (.invokevirtual 176, 3) := by decide +kernel
theorem dX6_wind_22 : decode cX6_wind 22 = .ok (.ifCond .eq 22, 3) := by decide +kernel
theorem dX6_wind_25 : decode cX6_wind 25 = .ok (.iload_n 2, 1) := by decide +kernel
theorem dX6_wind_26 : decode cX6_wind 26 = .ok (.iconst 0, 1) := by decide +kernel
theorem dX6_wind_27 : decode cX6_wind 27 = .ok (.bipush 10, 2) := by decide +kernel
theorem dX6_wind_29 : decode cX6_wind 29 = .ok (.invokestatic 61, 3) := by decide +kernel
theorem dX6_wind_32 : decode cX6_wind 32 = .ok (.ifCond .eq 12, 3) := by decide +kernel
theorem dX6_wind_35 : decode cX6_wind 35 = .ok (.iload_n 3, 1) := by decide +kernel
theorem dX6_wind_36 : decode cX6_wind 36 = .ok (.iconst 0, 1) := by decide +kernel
theorem dX6_wind_37 : decode cX6_wind 37 = .ok (.iconst 1, 1) := by decide +kernel
theorem dX6_wind_38 : decode cX6_wind 38 = .ok (.invokestatic 61, 3) := by decide +kernel
theorem dX6_wind_41 : decode cX6_wind 41 = .ok (.ifCond .ne 7, 3) := by decide +kernel
theorem dX6_wind_44 : decode cX6_wind 44 = .ok (.ldc2_w 255, 3) := by decide +kernel
theorem dX6_wind_47 : decode cX6_wind 47 = .ok (.lreturn, 1) := by decide +kernel
theorem dX6_wind_48 : decode cX6_wind 48 = .ok (.aload_n 0, 1) := by decide +kernel
theorem dX6_wind_49 : decode cX6_wind 49 = .ok (.getfield 40, 3) := by decide +kernel
theorem dX6_wind_52 : decode cX6_wind 52 = .ok (.aload_n 0, 1) := by decide +kernel
theorem dX6_wind_53 : decode cX6_wind 53 = .ok (.getfield 26, 3) := by decide +kernel
theorem dX6_wind_56 : decode cX6_wind 56 = .ok (.iload_n 1, 1) := by decide +kernel
theorem dX6_wind_57 : decode cX6_wind 57 = .ok (.iload_n 2, 1) := by decide +kernel
theorem dX6_wind_58 : decode cX6_wind 58 = .ok (.invokevirtual 257, 3) := by decide +kernel
theorem dX6_wind_61 : decode cX6_wind 61 = .ok (.iload_n 3, 1) := by decide +kernel
theorem dX6_wind_62 : decode cX6_wind 62 = .ok (.ifCond .ne 13, 3) := by decide +kernel
theorem dX6_wind_65 : decode cX6_wind 65 = .ok (.aload_n 0, 1) := by decide +kernel
theorem dX6_wind_66 : decode cX6_wind 66 = .ok (.getfield 40, 3) := by decide +kernel
theorem dX6_wind_69 : decode cX6_wind 69 = .ok (.getfield 260, 3) := by decide +kernel
theorem dX6_wind_72 : decode cX6_wind 72 = .ok (.goto 10, 3) := by decide +kernel
theorem dX6_wind_75 : decode cX6_wind 75 = .ok (.aload_n 0, 1) := by decide +kernel
theorem dX6_wind_76 : decode cX6_wind 76 = .ok (.getfield 40, 3) := by decide +kernel
theorem dX6_wind_79 : decode cX6_wind 79 = .ok (.getfield 264, 3) := by decide +kernel
theorem dX6_wind_82 : decode cX6_wind 82 = .ok (.lreturn, 1) := by decide +kernel
theorem dX6_drawn_0 : decode cX6_drawn 0 = .ok (.aload_n 0, 1) := by decide +kernel
theorem dX6_drawn_1 : decode cX6_drawn 1 = .ok (.getfield 26, 3) := by decide +kernel
theorem dX6_drawn_4 : decode cX6_drawn 4 = .ok (.invokevirtual 144, 3) := by decide +kernel
theorem dX6_drawn_7 : decode cX6_drawn 7 = .ok (.ifCond .ne 6, 3) := by decide +kernel
theorem dX6_drawn_10 : decode cX6_drawn 10 = .ok (.ldc 140, 2) := by decide +kernel
theorem dX6_drawn_12 : decode cX6_drawn 12 = .ok (.ireturn, 1) := by decide +kernel
theorem dX6_drawn_13 : decode cX6_drawn 13 = .ok (.iload_n 1, 1) := by decide +kernel
theorem dX6_drawn_14 : decode cX6_drawn 14 = .ok (.iconst 0, 1) := by decide +kernel
theorem dX6_drawn_15 : decode cX6_drawn 15 = .ok (.bipush 60, 2) := by decide +kernel
theorem dX6_drawn_17 : decode cX6_drawn 17 = .ok (.invokestatic 61, 3) := by decide +kernel
theorem dX6_drawn_20 : decode cX6_drawn 20 = .ok (.ifCond .eq 23, 3) := by decide +kernel
theorem dX6_drawn_23 : decode cX6_drawn 23 = .ok (.iload_n 2, 1) := by decide +kernel
theorem dX6_drawn_24 : decode cX6_drawn 24 = .ok (.iconst 1, 1) := by decide +kernel
theorem dX6_drawn_25 : decode cX6_drawn 25 = .ok (.ldc_w 267, 3) := by decide +kernel
theorem dX6_drawn_28 : decode cX6_drawn 28 = .ok (.invokestatic 61, 3) := by decide +kernel
theorem dX6_drawn_31 : decode cX6_drawn 31 = .ok (.ifCond .eq 12, 3) := by decide +kernel
theorem dX6_drawn_34 : decode cX6_drawn 34 = .ok (.iload_n 3, 1) := by decide +kernel
theorem dX6_drawn_35 : decode cX6_drawn 35 = .ok (.iconst 0, 1) := by decide +kernel
theorem dX6_drawn_36 : decode cX6_drawn 36 = .ok (.iconst 1, 1) := by decide +kernel
theorem dX6_drawn_37 : decode cX6_drawn 37 = .ok (.invokestatic 61, 3) := by decide +kernel
theorem dX6_drawn_40 : decode cX6_drawn 40 = .ok (.ifCond .ne 6, 3) := by decide +kernel
theorem dX6_drawn_43 : decode cX6_drawn 43 = .ok (.ldc 65, 2) := by decide +kernel
theorem dX6_drawn_45 : decode cX6_drawn 45 = .ok (.ireturn, 1) := by decide +kernel
theorem dX6_drawn_46 : decode cX6_drawn 46 = .ok (.aload_n 0, 1) := by decide +kernel
theorem dX6_drawn_47 : decode cX6_drawn 47 = .ok (.getfield 40, 3) := by decide +kernel
theorem dX6_drawn_50 : decode cX6_drawn 50 = .ok (.aload_n 0, 1) := by decide +kernel
theorem dX6_drawn_51 : decode cX6_drawn 51 = .ok (.getfield 26, 3) := by decide +kernel
theorem dX6_drawn_54 : decode cX6_drawn 54 = .ok (.iload_n 1, 1) := by decide +kernel
theorem dX6_drawn_55 : decode cX6_drawn 55 = .ok (.iload_n 2, 1) := by decide +kernel
theorem dX6_drawn_56 : decode cX6_drawn 56 = .ok (.invokevirtual 268, 3) := by decide +kernel
theorem dX6_drawn_59 : decode cX6_drawn 59 = .ok (.aload_n 0, 1) := by decide +kernel
theorem dX6_drawn_60 : decode cX6_drawn 60 = .ok (.getfield 40, 3) := by decide +kernel
theorem dX6_drawn_63 : decode cX6_drawn 63 = .ok (.iload_n 3, 1) := by decide +kernel
theorem dX6_drawn_64 : decode cX6_drawn 64 = .ok (.invokevirtual 214, 3) := by decide +kernel
theorem dX6_drawn_67 : decode cX6_drawn 67 = .ok (.ireturn, 1) := by decide +kernel
theorem dX6_image_0 : decode cX6_image 0 = .ok (.iload_n 1, 1) := by decide +kernel
theorem dX6_image_1 : decode cX6_image 1 = .ok (.iconst 0, 1) := by decide +kernel
theorem dX6_image_2 : decode cX6_image 2 = .ok (.iconst 1, 1) := by decide +kernel
theorem dX6_image_3 : decode cX6_image 3 = .ok (.invokestatic 61, 3) := by decide +kernel
theorem dX6_image_6 : decode cX6_image 6 = .ok (.ifCond .ne 6, 3) := by decide +kernel
theorem dX6_image_9 : decode cX6_image 9 = .ok (.ldc 65, 2) := by decide +kernel
theorem dX6_image_11 : decode cX6_image 11 = .ok (.ireturn, 1) := by decide +kernel
theorem dX6_image_12 : decode cX6_image 12 = .ok (.aload_n 0, 1) := by decide +kernel
theorem dX6_image_13 : decode cX6_image 13 = .ok (.getfield 26, 3) := by decide +kernel
theorem dX6_image_16 : decode cX6_image 16 = .ok (.invokevirtual 144, 3) := by decide +kernel
theorem dX6_image_19 : decode cX6_image 19 = .ok (.ifCond .ne 6, 3) := by decide +kernel
theorem dX6_image_22 : decode cX6_image 22 = .ok (.ldc 140, 2) := by decide +kernel
theorem dX6_image_24 : decode cX6_image 24 = .ok (.ireturn, 1) := by decide +kernel
theorem dX6_image_25 : decode cX6_image 25 = .ok (.aload_n 0, 1) := by decide +kernel
theorem dX6_image_26 : decode cX6_image 26 = .ok (.iload_n 1, 1) := by decide +kernel
theorem dX6_image_27 : decode cX6_image 27 = .ok (.invokevirtual 271, 3) := by decide +kernel
theorem dX6_image_30 : decode cX6_image 30 = .ok (.aload_n 0, 1) := by decide +kernel
theorem dX6_image_31 : decode cX6_image 31 = .ok (.getfield 26, 3) := by decide +kernel
theorem dX6_image_34 : decode cX6_image 34 = .ok (.invokevirtual 127, 3) := by decide +kernel
theorem dX6_image_37 : decode cX6_image 37 = .ok (.iconst 1, 1) := by decide +kernel
theorem dX6_image_38 : decode cX6_image 38 = .ok (.ireturn, 1) := by decide +kernel
theorem dX6_restore_0 : decode cX6_restore 0 = .ok (.iload_n 1, 1) := by decide +kernel
theorem dX6_restore_1 : decode cX6_restore 1 = .ok (.iconst 0, 1) := by decide +kernel
theorem dX6_restore_2 : decode cX6_restore 2 = .ok (.iconst 1, 1) := by decide +kernel
theorem dX6_restore_3 : decode cX6_restore 3 = .ok (.invokestatic 61, 3) := by decide +kernel
theorem dX6_restore_6 : decode cX6_restore 6 = .ok (.ifCond .ne 6, 3) := by decide +kernel
theorem dX6_restore_9 : decode cX6_restore 9 = .ok (.ldc 65, 2) := by decide +kernel
theorem dX6_restore_11 : decode cX6_restore 11 = .ok (.ireturn, 1) := by decide +kernel
theorem dX6_restore_12 : decode cX6_restore 12 = .ok (.aload_n 0, 1) := by decide +kernel
theorem dX6_restore_13 : decode cX6_restore 13 = .ok (.iload_n 1, 1) := by decide +kernel
theorem dX6_restore_14 : decode cX6_restore 14 = .ok (.invokevirtual 271, 3) := by decide +kernel
theorem dX6_restore_17 : decode cX6_restore 17 = .ok (.invokevirtual 144, 3) := by decide +kernel
theorem dX6_restore_20 : decode cX6_restore 20 = .ok (.ifCond .ne 6, 3) := by decide +kernel
theorem dX6_restore_23 : decode cX6_restore 23 = .ok (.ldc 140, 2) := by decide +kernel
theorem dX6_restore_25 : decode cX6_restore 25 = .ok (.ireturn, 1) := by decide +kernel
theorem dX6_restore_26 : decode cX6_restore 26 = .ok (.aload_n 0, 1) := by decide +kernel
theorem dX6_restore_27 : decode cX6_restore 27 = .ok (.getfield 26, 3) := by decide +kernel
theorem dX6_restore_30 : decode cX6_restore 30 = .ok (.aload_n 0, 1) := by decide +kernel
theorem dX6_restore_31 : decode cX6_restore 31 = .ok (.iload_n 1, 1) := by decide +kernel
theorem dX6_restore_32 : decode cX6_restore 32 = .ok (.invokevirtual 271, 3) := by decide +kernel
theorem dX6_restore_35 : decode cX6_restore 35 = .ok (.invokevirtual 127, 3) := by decide +kernel
theorem dX6_restore_38 : decode cX6_restore 38 = .ok (.aload_n 0, 1) := by decide +kernel
theorem dX6_restore_39 : decode cX6_restore 39 = .ok (.getfield 33, 3) := by decide +kernel
theorem dX6_restore_42 : decode cX6_restore 42 = .ok (.invokevirtual 131, 3) := by decide +kernel
theorem dX6_restore_45 : decode cX6_restore 45 = .ok (.iconst 1, 1) := by decide +kernel
theorem dX6_restore_46 : decode cX6_restore 46 = .ok (.ireturn, 1) := by decide +kernel
theorem dX6_kind_0 : decode cX6_kind 0 = .ok (.aload_n 0, 1) := by decide +kernel
theorem dX6_kind_1 : decode cX6_kind 1 = .ok (.getfield 26, 3) := by decide +kernel
theorem dX6_kind_4 : decode cX6_kind 4 = .ok (.iload_n 1, 1) := by decide +kernel
theorem dX6_kind_5 : decode cX6_kind 5 = .ok (.invokevirtual 173, 3) := by decide +kernel
theorem dX6_kind_8 : decode cX6_kind 8 = .ok (.ifCond .eq 15, 3) := by decide +kernel
theorem dX6_kind_11 : decode cX6_kind 11 = .ok (.aload_n 0, 1) := by decide +kernel
theorem dX6_kind_12 : decode cX6_kind 12 = .ok (.getfield 26, 3) := by decide +kernel
theorem dX6_kind_15 : decode cX6_kind 15 = .ok (.getfield 275, 3) := by decide +kernel
theorem dX6_kind_18 : decode cX6_kind 18 = .ok (.iload_n 1, 1) := by decide +kernel
theorem dX6_kind_19 : decode cX6_kind 19 = .ok (.iaload, 1) := by decide +kernel
theorem dX6_kind_20 : decode cX6_kind 20 = .ok (.goto 5, 3) := by decide +kernel
theorem dX6_kind_23 : decode cX6_kind 23 = .ok (.ldc 65, 2) := by decide +kernel
theorem dX6_kind_25 : decode cX6_kind 25 = .ok (.ireturn, 1) := by decide +kernel
theorem dX6_as_0 : decode cX6_as 0 = .ok (.aload_n 0, 1) := by decide +kernel
theorem dX6_as_1 : decode cX6_as 1 = .ok (.getfield 26, 3) := by decide +kernel
theorem dX6_as_4 : decode cX6_as 4 = .ok (.iload_n 1, 1) := by decide +kernel
theorem dX6_as_5 : decode cX6_as 5 = .ok (.invokevirtual 173, 3) := by decide +kernel
theorem dX6_as_8 : decode cX6_as 8 = .ok (.ifCond .eq 12, 3) := by decide +kernel
theorem dX6_as_11 : decode cX6_as 11 = .ok (.iload_n 2, 1) := by decide +kernel
theorem dX6_as_12 : decode cX6_as 12 = .ok (.iconst 0, 1) := by decide +kernel
theorem dX6_as_13 : decode cX6_as 13 = .ok (.iconst 5, 1) := by decide +kernel
theorem dX6_as_14 : decode cX6_as 14 = .ok (.invokestatic 61, 3) := by decide +kernel
theorem dX6_as_17 : decode cX6_as 17 = .ok (.ifCond .ne 6, 3) := by decide +kernel
theorem dX6_as_20 : decode cX6_as 20 = .ok (.ldc 65, 2) := by decide +kernel
theorem dX6_as_22 : decode cX6_as 22 = .ok (.ireturn, 1) := by decide +kernel
theorem dX6_as_23 : decode cX6_as 23 = .ok (.aload_n 0, 1) := by decide +kernel
theorem dX6_as_24 : decode cX6_as 24 = .ok (.getfield 26, 3) := by decide +kernel
theorem dX6_as_27 : decode cX6_as 27 = .ok (.getfield 275, 3) := by decide +kernel
theorem dX6_as_30 : decode cX6_as 30 = .ok (.iload_n 1, 1) := by decide +kernel
theorem dX6_as_31 : decode cX6_as 31 = .ok (.iaload, 1) := by decide +kernel
theorem dX6_as_32 : decode cX6_as 32 = .ok (.iload_n 2, 1) := by decide +kernel
theorem dX6_as_33 : decode cX6_as 33 = .ok (.invokestatic 278, 3) := by decide +kernel
theorem dX6_as_36 : decode cX6_as 36 = .ok (.ifCond .eq 11, 3) := by decide +kernel
theorem dX6_as_39 : decode cX6_as 39 = .ok (.aload_n 0, 1) := by decide +kernel
theorem dX6_as_40 : decode cX6_as 40 = .ok (.iload_n 1, 1) := by decide +kernel
theorem dX6_as_41 : decode cX6_as 41 = .ok (.invokevirtual 74, 3) := by decide +kernel
theorem dX6_as_44 : decode cX6_as 44 = .ok (.goto 8, 3) := by decide +kernel
theorem dX6_as_47 : decode cX6_as 47 = .ok (.aload_n 0, 1) := by decide +kernel
theorem dX6_as_48 : decode cX6_as 48 = .ok (.iconst 3, 1) := by decide +kernel
theorem dX6_as_49 : decode cX6_as 49 = .ok (.invokevirtual 66, 3) := by decide +kernel
theorem dX6_as_52 : decode cX6_as 52 = .ok (.ireturn, 1) := by decide +kernel
theorem dX6_ask_0 : decode cX6_ask 0 = .ok (.aload_n 0, 1) := by decide +kernel
theorem dX6_ask_1 : decode cX6_ask 1 = .ok (.getfield 26, 3) := by decide +kernel
theorem dX6_ask_4 : decode cX6_ask 4 = .ok (.iload_n 1, 1) := by decide +kernel
theorem dX6_ask_5 : decode cX6_ask 5 = .ok (.invokevirtual 173, 3) := by decide +kernel
theorem dX6_ask_8 : decode cX6_ask 8 = .ok (.ifCond .eq 12, 3) := by decide +kernel
theorem dX6_ask_11 : decode cX6_ask 11 = .ok (.iload_n 2, 1) := by decide +kernel
theorem dX6_ask_12 : decode cX6_ask 12 = .ok (.iconst 0, 1) := by decide +kernel
theorem dX6_ask_13 : decode cX6_ask 13 = .ok (.iconst 1, 1) := by decide +kernel
theorem dX6_ask_14 : decode cX6_ask 14 = .ok (.invokestatic 61, 3) := by decide +kernel
theorem dX6_ask_17 : decode cX6_ask 17 = .ok (.ifCond .ne 6, 3) := by decide +kernel
theorem dX6_ask_20 : decode cX6_ask 20 = .ok (.ldc 65, 2) := by decide +kernel
theorem dX6_ask_22 : decode cX6_ask 22 = .ok (.ireturn, 1) := by decide +kernel
theorem dX6_ask_23 : decode cX6_ask 23 = .ok (.aload_n 0, 1) := by decide +kernel
theorem dX6_ask_24 : decode cX6_ask 24 = .ok (.getfield 47, 3) := by decide +kernel
theorem dX6_ask_27 : decode cX6_ask 27 = .ok (.invokevirtual 281, 3) := by decide +kernel
theorem dX6_ask_30 : decode cX6_ask 30 = .ok (.iload_n 2, 1) := by decide +kernel
theorem dX6_ask_31 : decode cX6_ask 31 = .ok (.ifCond .ne 18, 3) := by decide +kernel
theorem dX6_ask_34 : decode cX6_ask 34 = .ok (.aload_n 0, 1) := by decide +kernel
theorem dX6_ask_35 : decode cX6_ask 35 = .ok (.getfield 47, 3) := by decide +kernel
theorem dX6_ask_38 : decode cX6_ask 38 = .ok (.aload_n 0, 1) := by decide +kernel
theorem dX6_ask_39 : decode cX6_ask 39 = .ok (.getfield 26, 3) := by decide +kernel
theorem dX6_ask_42 : decode cX6_ask 42 = .ok (.iload_n 1, 1) := by decide +kernel
theorem dX6_ask_43 : decode cX6_ask 43 = .ok (.invokevirtual 284, 3) := by decide +kernel
theorem dX6_ask_46 : decode cX6_ask 46 = .ok (.goto 15, 3) := by decide +kernel
theorem dX6_ask_49 : decode cX6_ask 49 = .ok (.aload_n 0, 1) := by decide +kernel
theorem dX6_ask_50 : decode cX6_ask 50 = .ok (.getfield 47, 3) := by decide +kernel
theorem dX6_ask_53 : decode cX6_ask 53 = .ok (.aload_n 0, 1) := by decide +kernel
theorem dX6_ask_54 : decode cX6_ask 54 = .ok (.getfield 26, 3) := by decide +kernel
theorem dX6_ask_57 : decode cX6_ask 57 = .ok (.iload_n 1, 1) := by decide +kernel
theorem dX6_ask_58 : decode cX6_ask 58 = .ok (.invokevirtual 288, 3) := by decide +kernel
theorem dX6_ask_61 : decode cX6_ask 61 = .ok (.ireturn, 1) := by decide +kernel
theorem dX6_trace_0 : decode cX6_trace 0 = .ok (.aload_n 0, 1) := by decide +kernel
theorem dX6_trace_1 : decode cX6_trace 1 = .ok (.getfield 47, 3) := by decide +kernel
theorem dX6_trace_4 : decode cX6_trace 4 = .ok (.iload_n 1, 1) := by decide +kernel
theorem dX6_trace_5 : decode cX6_trace 5 = .ok (.invokevirtual 291, 3) := by decide +kernel
theorem dX6_trace_8 : decode cX6_trace 8 = .ok (.ireturn, 1) := by decide +kernel
theorem dX6_count_0 : decode cX6_count 0 = .ok (.iload_n 1, 1) := by decide +kernel
theorem dX6_count_1 : decode cX6_count 1 = .ok (.tableswitch 123 0 8 #[51, 59, 67, 75, 83, 91, 99, 107, 115], 51) := by decide +kernel
theorem dX6_count_52 : decode cX6_count 52 = .ok (.aload_n 0, 1) := by decide +kernel
theorem dX6_count_53 : decode cX6_count 53 = .ok (.getfield 10, 3) := by decide +kernel
theorem dX6_count_56 : decode cX6_count 56 = .ok (.invokevirtual 294, 3) := by decide +kernel
theorem dX6_count_59 : decode cX6_count 59 = .ok (.ireturn, 1) := by decide +kernel
theorem dX6_count_60 : decode cX6_count 60 = .ok (.aload_n 0, 1) := by decide +kernel
theorem dX6_count_61 : decode cX6_count 61 = .ok (.getfield 26, 3) := by decide +kernel
theorem dX6_count_64 : decode cX6_count 64 = .ok (.getfield 231, 3) := by decide +kernel
theorem dX6_count_67 : decode cX6_count 67 = .ok (.ireturn, 1) := by decide +kernel
theorem dX6_count_68 : decode cX6_count 68 = .ok (.aload_n 0, 1) := by decide +kernel
theorem dX6_count_69 : decode cX6_count 69 = .ok (.getfield 26, 3) := by decide +kernel
theorem dX6_count_72 : decode cX6_count 72 = .ok (.getfield 297, 3) := by decide +kernel
theorem dX6_count_75 : decode cX6_count 75 = .ok (.ireturn, 1) := by decide +kernel
theorem dX6_count_76 : decode cX6_count 76 = .ok (.aload_n 0, 1) := by decide +kernel
theorem dX6_count_77 : decode cX6_count 77 = .ok (.getfield 26, 3) := by decide +kernel
theorem dX6_count_80 : decode cX6_count 80 = .ok (.getfield 134, 3) := by decide +kernel
theorem dX6_count_83 : decode cX6_count 83 = .ok (.ireturn, 1) := by decide +kernel
theorem dX6_count_84 : decode cX6_count 84 = .ok (.aload_n 0, 1) := by decide +kernel
theorem dX6_count_85 : decode cX6_count 85 = .ok (.getfield 26, 3) := by decide +kernel
theorem dX6_count_88 : decode cX6_count 88 = .ok (.getfield 147, 3) := by decide +kernel
theorem dX6_count_91 : decode cX6_count 91 = .ok (.ireturn, 1) := by decide +kernel
theorem dX6_count_92 : decode cX6_count 92 = .ok (.aload_n 0, 1) := by decide +kernel
theorem dX6_count_93 : decode cX6_count 93 = .ok (.getfield 26, 3) := by decide +kernel
theorem dX6_count_96 : decode cX6_count 96 = .ok (.invokevirtual 156, 3) := by decide +kernel
theorem dX6_count_99 : decode cX6_count 99 = .ok (.ireturn, 1) := by decide +kernel
theorem dX6_count_100 : decode cX6_count 100 = .ok (.aload_n 0, 1) := by decide +kernel
theorem dX6_count_101 : decode cX6_count 101 = .ok (.getfield 26, 3) := by decide +kernel
theorem dX6_count_104 : decode cX6_count 104 = .ok (.getfield 170, 3) := by decide +kernel
theorem dX6_count_107 : decode cX6_count 107 = .ok (.ireturn, 1) := by decide +kernel
theorem dX6_count_108 : decode cX6_count 108 = .ok (.aload_n 0, 1) := by decide +kernel
theorem dX6_count_109 : decode cX6_count 109 = .ok (.getfield 33, 3) := by decide +kernel
theorem dX6_count_112 : decode cX6_count 112 = .ok (.getfield 137, 3) := by decide +kernel
theorem dX6_count_115 : decode cX6_count 115 = .ok (.ireturn, 1) := by decide +kernel
theorem dX6_count_116 : decode cX6_count 116 = .ok (.aload_n 0, 1) := by decide +kernel
theorem dX6_count_117 : decode cX6_count 117 = .ok (.getfield 19, 3) := by decide +kernel
theorem dX6_count_120 : decode cX6_count 120 = .ok (.getfield 300, 3) := by decide +kernel
theorem dX6_count_123 : decode cX6_count 123 = .ok (.ireturn, 1) := by decide +kernel
theorem dX6_count_124 : decode cX6_count 124 = .ok (.ldc 65, 2) := by decide +kernel
theorem dX6_count_126 : decode cX6_count 126 = .ok (.ireturn, 1) := by decide +kernel
theorem dX6_status_0 : decode cX6_status 0 = .ok (.aload_n 0, 1) := by decide +kernel
theorem dX6_status_1 : decode cX6_status 1 = .ok (.getfield 303, 3) := by decide +kernel
theorem dX6_status_4 : decode cX6_status 4 = .ok (.ireturn, 1) := by decide +kernel
theorem dX6_finding_0 : decode cX6_finding 0 = .ok (.aload_n 0, 1) := by decide +kernel
theorem dX6_finding_1 : decode cX6_finding 1 = .ok (.iload_n 1, 1) := by decide +kernel
theorem dX6_finding_2 : decode cX6_finding 2 = .ok (.putfield 303, 3) := by decide +kernel
theorem dX6_finding_5 : decode cX6_finding 5 = .ok (.ldc_w 306, 3) := by decide +kernel
theorem dX6_finding_8 : decode cX6_finding 8 = .ok (.iload_n 1, 1) := by decide +kernel
theorem dX6_finding_9 : decode cX6_finding 9 = .ok (.isub, 1) := by decide +kernel
theorem dX6_finding_10 : decode cX6_finding 10 = .ok (.ireturn, 1) := by decide +kernel
theorem dX6_noFinding_0 : decode cX6_noFinding 0 = .ok (.aload_n 0, 1) := by decide +kernel
theorem dX6_noFinding_1 : decode cX6_noFinding 1 = .ok (.iconst 0, 1) := by decide +kernel
theorem dX6_noFinding_2 : decode cX6_noFinding 2 = .ok (.putfield 303, 3) := by decide +kernel
theorem dX6_noFinding_5 : decode cX6_noFinding 5 = .ok (.iload_n 1, 1) := by decide +kernel
theorem dX6_noFinding_6 : decode cX6_noFinding 6 = .ok (.ireturn, 1) := by decide +kernel
theorem dX6_imageOf_0 : decode cX6_imageOf 0 = .ok (.iload_n 1, 1) := by decide +kernel
theorem dX6_imageOf_1 : decode cX6_imageOf 1 = .ok (.ifCond .ne 10, 3) := by decide +kernel
theorem dX6_imageOf_4 : decode cX6_imageOf 4 = .ok (.aload_n 0, 1) := by decide +kernel
theorem dX6_imageOf_5 : decode cX6_imageOf 5 = .ok (.getfield 51, 3) := by decide +kernel
theorem dX6_imageOf_8 : decode cX6_imageOf 8 = .ok (.goto 7, 3) := by decide +kernel
theorem dX6_imageOf_11 : decode cX6_imageOf 11 = .ok (.aload_n 0, 1) := by decide +kernel
theorem dX6_imageOf_12 : decode cX6_imageOf 12 = .ok (.getfield 54, 3) := by decide +kernel
theorem dX6_imageOf_15 : decode cX6_imageOf 15 = .ok (.areturn, 1) := by decide +kernel
theorem dX6_within_0 : decode cX6_within 0 = .ok (.iload_n 0, 1) := by decide +kernel
theorem dX6_within_1 : decode cX6_within 1 = .ok (.iload_n 1, 1) := by decide +kernel
theorem dX6_within_2 : decode cX6_within 2 = .ok (.if_icmp .lt 12, 3) := by decide +kernel
theorem dX6_within_5 : decode cX6_within 5 = .ok (.iload_n 0, 1) := by decide +kernel
theorem dX6_within_6 : decode cX6_within 6 = .ok (.iload_n 2, 1) := by decide +kernel
theorem dX6_within_7 : decode cX6_within 7 = .ok (.if_icmp .gt 7, 3) := by decide +kernel
theorem dX6_within_10 : decode cX6_within 10 = .ok (.iconst 1, 1) := by decide +kernel
theorem dX6_within_11 : decode cX6_within 11 = .ok (.goto 4, 3) := by decide +kernel
theorem dX6_within_14 : decode cX6_within 14 = .ok (.iconst 0, 1) := by decide +kernel
theorem dX6_within_15 : decode cX6_within 15 = .ok (.ireturn, 1) := by decide +kernel
theorem dX7_init_0 : decode cX7_init 0 = .ok (.aload_n 0, 1) := by decide +kernel
theorem dX7_init_1 : decode cX7_init 1 = .ok (.invokespecial 1, 3) := by decide +kernel
theorem dX7_init_4 : decode cX7_init 4 = .ok (.aload_n 0, 1) := by decide +kernel
theorem dX7_init_5 : decode cX7_init 5 = .ok (.bipush 8, 2) := by decide +kernel
theorem dX7_init_7 : decode cX7_init 7 = .ok (.newarray .int, 2) := by decide +kernel
theorem dX7_init_9 : decode cX7_init 9 = .ok (.putfield 7, 3) := by decide +kernel
theorem dX7_init_12 : decode cX7_init 12 = .ok (.aload_n 0, 1) := by decide +kernel
theorem dX7_init_13 : decode cX7_init 13 = .ok (.bipush 8, 2) := by decide +kernel
theorem dX7_init_15 : decode cX7_init 15 = .ok (.newarray .int, 2) := by decide +kernel
theorem dX7_init_17 : decode cX7_init 17 = .ok (.putfield 13, 3) := by decide +kernel
theorem dX7_init_20 : decode cX7_init 20 = .ok (.aload_n 0, 1) := by decide +kernel
theorem dX7_init_21 : decode cX7_init 21 = .ok (.sipush 320, 3) := by decide +kernel
theorem dX7_init_24 : decode cX7_init 24 = .ok (.newarray .int, 2) := by decide +kernel
theorem dX7_init_26 : decode cX7_init 26 = .ok (.putfield 16, 3) := by decide +kernel
theorem dX7_init_29 : decode cX7_init 29 = .ok (.aload_n 0, 1) := by decide +kernel
theorem dX7_init_30 : decode cX7_init 30 = .ok (.bipush 52, 2) := by decide +kernel
theorem dX7_init_32 : decode cX7_init 32 = .ok (.newarray .int, 2) := by decide +kernel
theorem dX7_init_34 : decode cX7_init 34 = .ok (.putfield 19, 3) := by decide +kernel
theorem dX7_init_37 : decode cX7_init 37 = .ok (.aload_n 0, 1) := by decide +kernel
theorem dX7_init_38 : decode cX7_init 38 = .ok (.bipush 40, 2) := by decide +kernel
theorem dX7_init_40 : decode cX7_init 40 = .ok (.newarray .int, 2) := by decide +kernel
theorem dX7_init_42 : decode cX7_init 42 = .ok (.putfield 22, 3) := by decide +kernel
theorem dX7_init_45 : decode cX7_init 45 = .ok (.aload_n 0, 1) := by decide +kernel
theorem dX7_init_46 : decode cX7_init 46 = .ok (.bipush 120, 2) := by decide +kernel
theorem dX7_init_48 : decode cX7_init 48 = .ok (.newarray .int, 2) := by decide +kernel
theorem dX7_init_50 : decode cX7_init 50 = .ok (.putfield 25, 3) := by decide +kernel
theorem dX7_init_53 : decode cX7_init 53 = .ok (.aload_n 0, 1) := by decide +kernel
theorem dX7_init_54 : decode cX7_init 54 = .ok (.bipush 52, 2) := by decide +kernel
theorem dX7_init_56 : decode cX7_init 56 = .ok (.newarray .int, 2) := by decide +kernel
theorem dX7_init_58 : decode cX7_init 58 = .ok (.putfield 28, 3) := by decide +kernel
theorem dX7_init_61 : decode cX7_init 61 = .ok (.aload_n 0, 1) := by decide +kernel
theorem dX7_init_62 : decode cX7_init 62 = .ok (.sipush 1248, 3) := by decide +kernel
theorem dX7_init_65 : decode cX7_init 65 = .ok (.newarray .int, 2) := by decide +kernel
theorem dX7_init_67 : decode cX7_init 67 = .ok (.putfield 31, 3) := by decide +kernel
theorem dX7_init_70 : decode cX7_init 70 = .ok (.aload_n 0, 1) := by decide +kernel
theorem dX7_init_71 : decode cX7_init 71 = .ok (.bipush 52, 2) := by decide +kernel
theorem dX7_init_73 : decode cX7_init 73 = .ok (.newarray .int, 2) := by decide +kernel
theorem dX7_init_75 : decode cX7_init 75 = .ok (.putfield 34, 3) := by decide +kernel
theorem dX7_init_78 : decode cX7_init 78 = .ok (.aload_n 0, 1) := by decide +kernel
theorem dX7_init_79 : decode cX7_init 79 = .ok (.iconst 2, 1) := by decide +kernel
theorem dX7_init_80 : decode cX7_init 80 = .ok (.newarray .boolean, 2) := by decide +kernel
theorem dX7_init_82 : decode cX7_init 82 = .ok (.putfield 37, 3) := by decide +kernel
theorem dX7_init_85 : decode cX7_init 85 = .ok (.aload_n 0, 1) := by decide +kernel
theorem dX7_init_86 : decode cX7_init 86 = .ok (.bipush 104, 2) := by decide +kernel
theorem dX7_init_88 : decode cX7_init 88 = .ok (.newarray .int, 2) := by decide +kernel
theorem dX7_init_90 : decode cX7_init 90 = .ok (.putfield 41, 3) := by decide +kernel
theorem dX7_init_93 : decode cX7_init 93 = .ok (.aload_n 0, 1) := by decide +kernel
theorem dX7_init_94 : decode cX7_init 94 = .ok (.bipush 16, 2) := by decide +kernel
theorem dX7_init_96 : decode cX7_init 96 = .ok (.newarray .int, 2) := by decide +kernel
theorem dX7_init_98 : decode cX7_init 98 = .ok (.putfield 44, 3) := by decide +kernel
theorem dX7_init_101 : decode cX7_init 101 = .ok (.iconst 0, 1) := by decide +kernel
theorem dX7_init_102 : decode cX7_init 102 = .ok (.istore_n 1, 1) := by decide +kernel
theorem dX7_init_103 : decode cX7_init 103 = .ok (.iload_n 1, 1) := by decide +kernel
theorem dX7_init_104 : decode cX7_init 104 = .ok (.bipush 8, 2) := by decide +kernel
theorem dX7_init_106 : decode cX7_init 106 = .ok (.if_icmp .ge 16, 3) := by decide +kernel
theorem dX7_init_109 : decode cX7_init 109 = .ok (.aload_n 0, 1) := by decide +kernel
theorem dX7_init_110 : decode cX7_init 110 = .ok (.getfield 13, 3) := by decide +kernel
theorem dX7_init_113 : decode cX7_init 113 = .ok (.iload_n 1, 1) := by decide +kernel
theorem dX7_init_114 : decode cX7_init 114 = .ok (.iconst (-1), 1) := by decide +kernel
theorem dX7_init_115 : decode cX7_init 115 = .ok (.iastore, 1) := by decide +kernel
theorem dX7_init_116 : decode cX7_init 116 = .ok (.iinc 1 1, 3) := by decide +kernel
theorem dX7_init_119 : decode cX7_init 119 = .ok (.goto (-16), 3) := by decide +kernel
theorem dX7_init_122 : decode cX7_init 122 = .ok (.return_, 1) := by decide +kernel
theorem dX7_in_0 : decode cX7_in 0 = .ok (.lload_n 0, 1) := by decide +kernel
theorem dX7_in_1 : decode cX7_in 1 = .ok (.lload_n 2, 1) := by decide +kernel
theorem dX7_in_2 : decode cX7_in 2 = .ok (.lcmp, 1) := by decide +kernel
theorem dX7_in_3 : decode cX7_in 3 = .ok (.ifCond .lt 14, 3) := by decide +kernel
theorem dX7_in_6 : decode cX7_in 6 = .ok (.lload_n 0, 1) := by decide +kernel
theorem dX7_in_7 : decode cX7_in 7 = .ok (.lload 4, 2) := by decide +kernel
theorem dX7_in_9 : decode cX7_in 9 = .ok (.lcmp, 1) := by decide +kernel
theorem dX7_in_10 : decode cX7_in 10 = .ok (.ifCond .gt 7, 3) := by decide +kernel
theorem dX7_in_13 : decode cX7_in 13 = .ok (.iconst 1, 1) := by decide +kernel
theorem dX7_in_14 : decode cX7_in 14 = .ok (.goto 4, 3) := by decide +kernel
theorem dX7_in_17 : decode cX7_in 17 = .ok (.iconst 0, 1) := by decide +kernel
theorem dX7_in_18 : decode cX7_in 18 = .ok (.ireturn, 1) := by decide +kernel
theorem dX7_has_0 : decode cX7_has 0 = .ok (.iload_n 0, 1) := by decide +kernel
theorem dX7_has_1 : decode cX7_has 1 = .ok (.iload_n 1, 1) := by decide +kernel
theorem dX7_has_2 : decode cX7_has 2 = .ok (.ishr, 1) := by decide +kernel
theorem dX7_has_3 : decode cX7_has 3 = .ok (.iconst 1, 1) := by decide +kernel
theorem dX7_has_4 : decode cX7_has 4 = .ok (.iand, 1) := by decide +kernel
theorem dX7_has_5 : decode cX7_has 5 = .ok (.iconst 1, 1) := by decide +kernel
theorem dX7_has_6 : decode cX7_has 6 = .ok (.if_icmp .ne 7, 3) := by decide +kernel
theorem dX7_has_9 : decode cX7_has 9 = .ok (.iconst 1, 1) := by decide +kernel
theorem dX7_has_10 : decode cX7_has 10 = .ok (.goto 4, 3) := by decide +kernel
theorem dX7_has_13 : decode cX7_has 13 = .ok (.iconst 0, 1) := by decide +kernel
theorem dX7_has_14 : decode cX7_has 14 = .ok (.ireturn, 1) := by decide +kernel
theorem dX7_ones_0 : decode cX7_ones 0 = .ok (.iconst 0, 1) := by decide +kernel
theorem dX7_ones_1 : decode cX7_ones 1 = .ok (.istore_n 1, 1) := by decide +kernel
theorem dX7_ones_2 : decode cX7_ones 2 = .ok (.iload_n 0, 1) := by decide +kernel
theorem dX7_ones_3 : decode cX7_ones 3 = .ok (.istore_n 2, 1) := by decide +kernel
theorem dX7_ones_4 : decode cX7_ones 4 = .ok (.iload_n 2, 1) := by decide +kernel
theorem dX7_ones_5 : decode cX7_ones 5 = .ok (.ifCond .eq 15, 3) := by decide +kernel
theorem dX7_ones_8 : decode cX7_ones 8 = .ok (.iinc 1 1, 3) := by decide +kernel
theorem dX7_ones_11 : decode cX7_ones 11 = .ok (.iload_n 2, 1) := by decide +kernel
theorem dX7_ones_12 : decode cX7_ones 12 = .ok (.iload_n 2, 1) := by decide +kernel
theorem dX7_ones_13 : decode cX7_ones 13 = .ok (.iconst 1, 1) := by decide +kernel
theorem dX7_ones_14 : decode cX7_ones 14 = .ok (.isub, 1) := by decide +kernel
theorem dX7_ones_15 : decode cX7_ones 15 = .ok (.iand, 1) := by decide +kernel
theorem dX7_ones_16 : decode cX7_ones 16 = .ok (.istore_n 2, 1) := by decide +kernel
theorem dX7_ones_17 : decode cX7_ones 17 = .ok (.goto (-13), 3) := by decide +kernel
theorem dX7_ones_20 : decode cX7_ones 20 = .ok (.iload_n 1, 1) := by decide +kernel
theorem dX7_ones_21 : decode cX7_ones 21 = .ok (.ireturn, 1) := by decide +kernel
theorem dX7_find_0 : decode cX7_find 0 = .ok (.aload_n 0, 1) := by decide +kernel
theorem dX7_find_1 : decode cX7_find 1 = .ok (.iload_n 1, 1) := by decide +kernel
theorem dX7_find_2 : decode cX7_find 2 = .ok (.putfield 47, 3) := by decide +kernel
theorem dX7_find_5 : decode cX7_find 5 = .ok (.ldc 51, 2) := by decide +kernel
theorem dX7_find_7 : decode cX7_find 7 = .ok (.iload_n 1, 1) := by decide +kernel
theorem dX7_find_8 : decode cX7_find 8 = .ok (.isub, 1) := by decide +kernel
theorem dX7_find_9 : decode cX7_find 9 = .ok (.ireturn, 1) := by decide +kernel
theorem dX7_well_0 : decode cX7_well 0 = .ok (.aload_n 0, 1) := by decide +kernel
theorem dX7_well_1 : decode cX7_well 1 = .ok (.iconst 0, 1) := by decide +kernel
theorem dX7_well_2 : decode cX7_well 2 = .ok (.putfield 47, 3) := by decide +kernel
theorem dX7_well_5 : decode cX7_well 5 = .ok (.iload_n 1, 1) := by decide +kernel
theorem dX7_well_6 : decode cX7_well 6 = .ok (.ireturn, 1) := by decide +kernel
theorem dX7_isRow_0 : decode cX7_isRow 0 = .ok (.iload_n 0, 1) := by decide +kernel
theorem dX7_isRow_1 : decode cX7_isRow 1 = .ok (.i2l, 1) := by decide +kernel
theorem dX7_isRow_2 : decode cX7_isRow 2 = .ok (.lconst 0, 1) := by decide +kernel
theorem dX7_isRow_3 : decode cX7_isRow 3 = .ok (.ldc2_w 52, 3) := by decide +kernel
theorem dX7_isRow_6 : decode cX7_isRow 6 = .ok (.invokestatic 54, 3) := by decide +kernel
theorem dX7_isRow_9 : decode cX7_isRow 9 = .ok (.ireturn, 1) := by decide +kernel
theorem dX7_row_0 : decode cX7_row 0 = .ok (.iload_n 1, 1) := by decide +kernel
theorem dX7_row_1 : decode cX7_row 1 = .ok (.invokestatic 58, 3) := by decide +kernel
theorem dX7_row_4 : decode cX7_row 4 = .ok (.ifCond .eq 21, 3) := by decide +kernel
theorem dX7_row_7 : decode cX7_row 7 = .ok (.iload_n 2, 1) := by decide +kernel
theorem dX7_row_8 : decode cX7_row 8 = .ok (.i2l, 1) := by decide +kernel
theorem dX7_row_9 : decode cX7_row 9 = .ok (.lconst 0, 1) := by decide +kernel
theorem dX7_row_10 : decode cX7_row 10 = .ok (.ldc2_w 62, 3) := by decide +kernel
theorem dX7_row_13 : decode cX7_row 13 = .ok (.invokestatic 54, 3) := by decide +kernel
theorem dX7_row_16 : decode cX7_row 16 = .ok (.ifCond .eq 9, 3) := by decide +kernel
theorem dX7_row_19 : decode cX7_row 19 = .ok (.iload_n 3, 1) := by decide +kernel
theorem dX7_row_20 : decode cX7_row 20 = .ok (.bipush 40, 2) := by decide +kernel
theorem dX7_row_22 : decode cX7_row 22 = .ok (.if_icmp .le 6, 3) := by decide +kernel
theorem dX7_row_25 : decode cX7_row 25 = .ok (.ldc 64, 2) := by decide +kernel
theorem dX7_row_27 : decode cX7_row 27 = .ok (.ireturn, 1) := by decide +kernel
theorem dX7_row_28 : decode cX7_row 28 = .ok (.iload_n 3, 1) := by decide +kernel
theorem dX7_row_29 : decode cX7_row 29 = .ok (.ifCond .ge 9, 3) := by decide +kernel
theorem dX7_row_32 : decode cX7_row 32 = .ok (.aload_n 0, 1) := by decide +kernel
theorem dX7_row_33 : decode cX7_row 33 = .ok (.iconst 4, 1) := by decide +kernel
theorem dX7_row_34 : decode cX7_row 34 = .ok (.invokevirtual 65, 3) := by decide +kernel
theorem dX7_row_37 : decode cX7_row 37 = .ok (.ireturn, 1) := by decide +kernel
theorem dX7_row_38 : decode cX7_row 38 = .ok (.aload_n 0, 1) := by decide +kernel
theorem dX7_row_39 : decode cX7_row 39 = .ok (.getfield 7, 3) := by decide +kernel
theorem dX7_row_42 : decode cX7_row 42 = .ok (.iload_n 1, 1) := by decide +kernel
theorem dX7_row_43 : decode cX7_row 43 = .ok (.iload_n 2, 1) := by decide +kernel
theorem dX7_row_44 : decode cX7_row 44 = .ok (.iastore, 1) := by decide +kernel
theorem dX7_row_45 : decode cX7_row 45 = .ok (.aload_n 0, 1) := by decide +kernel
theorem dX7_row_46 : decode cX7_row 46 = .ok (.getfield 13, 3) := by decide +kernel
theorem dX7_row_49 : decode cX7_row 49 = .ok (.iload_n 1, 1) := by decide +kernel
theorem dX7_row_50 : decode cX7_row 50 = .ok (.iload_n 3, 1) := by decide +kernel
theorem dX7_row_51 : decode cX7_row 51 = .ok (.iastore, 1) := by decide +kernel
theorem dX7_row_52 : decode cX7_row 52 = .ok (.iconst 0, 1) := by decide +kernel
theorem dX7_row_53 : decode cX7_row 53 = .ok (.istore 4, 2) := by decide +kernel
theorem dX7_row_55 : decode cX7_row 55 = .ok (.iload 4, 2) := by decide +kernel
theorem dX7_row_57 : decode cX7_row 57 = .ok (.bipush 40, 2) := by decide +kernel
theorem dX7_row_59 : decode cX7_row 59 = .ok (.if_icmp .ge 22, 3) := by decide +kernel
theorem dX7_row_62 : decode cX7_row 62 = .ok (.aload_n 0, 1) := by decide +kernel
theorem dX7_row_63 : decode cX7_row 63 = .ok (.getfield 16, 3) := by decide +kernel
theorem dX7_row_66 : decode cX7_row 66 = .ok (.bipush 40, 2) := by decide +kernel
theorem dX7_row_68 : decode cX7_row 68 = .ok (.iload_n 1, 1) := by decide +kernel
theorem dX7_row_69 : decode cX7_row 69 = .ok (.imul, 1) := by decide +kernel
theorem dX7_row_70 : decode cX7_row 70 = .ok (.iload 4, 2) := by decide +kernel
theorem dX7_row_72 : decode cX7_row 72 = .ok (.iadd, 1) := by decide +kernel
theorem dX7_row_73 : decode cX7_row 73 = .ok (.iconst 0, 1) := by decide +kernel
theorem dX7_row_74 : decode cX7_row 74 = .ok (.iastore, 1) := by decide +kernel
theorem dX7_row_75 : decode cX7_row 75 = .ok (.iinc 4 1, 3) := by decide +kernel
theorem dX7_row_78 : decode cX7_row 78 = .ok (.goto (-23), 3) := by decide +kernel
theorem dX7_row_81 : decode cX7_row 81 = .ok (.aload_n 0, 1) := by decide +kernel
theorem dX7_row_82 : decode cX7_row 82 = .ok (.iload_n 3, 1) := by decide +kernel
theorem dX7_row_83 : decode cX7_row 83 = .ok (.invokevirtual 69, 3) := by decide +kernel
theorem dX7_row_86 : decode cX7_row 86 = .ok (.ireturn, 1) := by decide +kernel
theorem dX7_asLane_0 : decode cX7_asLane 0 = .ok (.iload_n 0, 1) := by decide +kernel
theorem dX7_asLane_1 : decode cX7_asLane 1 = .ok (.ifCond .ne 13, 3) := by decide +kernel
theorem dX7_asLane_4 : decode cX7_asLane 4 = .ok (.iload_n 1, 1) := by decide +kernel
theorem dX7_asLane_5 : decode cX7_asLane 5 = .ok (.bipush 24, 2) := by decide +kernel
theorem dX7_asLane_7 : decode cX7_asLane 7 = .ok (.ishl, 1) := by decide +kernel
theorem dX7_asLane_8 : decode cX7_asLane 8 = .ok (.bipush 24, 2) := by decide +kernel
theorem dX7_asLane_10 : decode cX7_asLane 10 = .ok (.ishr, 1) := by decide +kernel
theorem dX7_asLane_11 : decode cX7_asLane 11 = .ok (.goto 19, 3) := by decide +kernel
theorem dX7_asLane_14 : decode cX7_asLane 14 = .ok (.iload_n 0, 1) := by decide +kernel
theorem dX7_asLane_15 : decode cX7_asLane 15 = .ok (.iconst 1, 1) := by decide +kernel
theorem dX7_asLane_16 : decode cX7_asLane 16 = .ok (.if_icmp .ne 13, 3) := by decide +kernel
theorem dX7_asLane_19 : decode cX7_asLane 19 = .ok (.iload_n 1, 1) := by decide +kernel
theorem dX7_asLane_20 : decode cX7_asLane 20 = .ok (.bipush 16, 2) := by decide +kernel
theorem dX7_asLane_22 : decode cX7_asLane 22 = .ok (.ishl, 1) := by decide +kernel
theorem dX7_asLane_23 : decode cX7_asLane 23 = .ok (.bipush 16, 2) := by decide +kernel
theorem dX7_asLane_25 : decode cX7_asLane 25 = .ok (.ishr, 1) := by decide +kernel
theorem dX7_asLane_26 : decode cX7_asLane 26 = .ok (.goto 4, 3) := by decide +kernel
theorem dX7_asLane_29 : decode cX7_asLane 29 = .ok (.iload_n 1, 1) := by decide +kernel
theorem dX7_asLane_30 : decode cX7_asLane 30 = .ok (.ireturn, 1) := by decide +kernel
theorem dX7_set_0 : decode cX7_set 0 = .ok (.iload_n 1, 1) := by decide +kernel
theorem dX7_set_1 : decode cX7_set 1 = .ok (.invokestatic 58, 3) := by decide +kernel
theorem dX7_set_4 : decode cX7_set 4 = .ok (.ifCond .ne 6, 3) := by decide +kernel
theorem dX7_set_7 : decode cX7_set 7 = .ok (.ldc 64, 2) := by decide +kernel
theorem dX7_set_9 : decode cX7_set 9 = .ok (.ireturn, 1) := by decide +kernel
theorem dX7_set_10 : decode cX7_set 10 = .ok (.aload_n 0, 1) := by decide +kernel
theorem dX7_set_11 : decode cX7_set 11 = .ok (.getfield 13, 3) := by decide +kernel
theorem dX7_set_14 : decode cX7_set 14 = .ok (.iload_n 1, 1) := by decide +kernel
theorem dX7_set_15 : decode cX7_set 15 = .ok (.iaload, 1) := by decide +kernel
theorem dX7_set_16 : decode cX7_set 16 = .ok (.ifCond .ge 9, 3) := by decide +kernel
theorem dX7_set_19 : decode cX7_set 19 = .ok (.aload_n 0, 1) := by decide +kernel
theorem dX7_set_20 : decode cX7_set 20 = .ok (.iconst 1, 1) := by decide +kernel
theorem dX7_set_21 : decode cX7_set 21 = .ok (.invokevirtual 65, 3) := by decide +kernel
theorem dX7_set_24 : decode cX7_set 24 = .ok (.ireturn, 1) := by decide +kernel
theorem dX7_set_25 : decode cX7_set 25 = .ok (.iload_n 2, 1) := by decide +kernel
theorem dX7_set_26 : decode cX7_set 26 = .ok (.i2l, 1) := by decide +kernel
theorem dX7_set_27 : decode cX7_set 27 = .ok (.lconst 0, 1) := by decide +kernel
theorem dX7_set_28 : decode cX7_set 28 = .ok (.aload_n 0, 1) := by decide +kernel
theorem dX7_set_29 : decode cX7_set 29 = .ok (.getfield 13, 3) := by decide +kernel
theorem dX7_set_32 : decode cX7_set 32 = .ok (.iload_n 1, 1) := by decide +kernel
theorem dX7_set_33 : decode cX7_set 33 = .ok (.iaload, 1) := by decide +kernel
theorem dX7_set_34 : decode cX7_set 34 = .ok (.iconst 1, 1) := by decide +kernel
theorem dX7_set_35 : decode cX7_set 35 = .ok (.isub, 1) := by decide +kernel
theorem dX7_set_36 : decode cX7_set 36 = .ok (.i2l, 1) := by decide +kernel
theorem dX7_set_37 : decode cX7_set 37 = .ok (.invokestatic 54, 3) := by decide +kernel
theorem dX7_set_40 : decode cX7_set 40 = .ok (.ifCond .ne 9, 3) := by decide +kernel
theorem dX7_set_43 : decode cX7_set 43 = .ok (.aload_n 0, 1) := by decide +kernel
theorem dX7_set_44 : decode cX7_set 44 = .ok (.iconst 2, 1) := by decide +kernel
theorem dX7_set_45 : decode cX7_set 45 = .ok (.invokevirtual 65, 3) := by decide +kernel
theorem dX7_set_48 : decode cX7_set 48 = .ok (.ireturn, 1) := by decide +kernel
theorem dX7_set_49 : decode cX7_set 49 = .ok (.aload_n 0, 1) := by decide +kernel
theorem dX7_set_50 : decode cX7_set 50 = .ok (.getfield 16, 3) := by decide +kernel
theorem dX7_set_53 : decode cX7_set 53 = .ok (.bipush 40, 2) := by decide +kernel
theorem dX7_set_55 : decode cX7_set 55 = .ok (.iload_n 1, 1) := by decide +kernel
theorem dX7_set_56 : decode cX7_set 56 = .ok (.imul, 1) := by decide +kernel
theorem dX7_set_57 : decode cX7_set 57 = .ok (.iload_n 2, 1) := by decide +kernel
theorem dX7_set_58 : decode cX7_set 58 = .ok (.iadd, 1) := by decide +kernel
theorem dX7_set_59 : decode cX7_set 59 = .ok (.aload_n 0, 1) := by decide +kernel
theorem dX7_set_60 : decode cX7_set 60 = .ok (.getfield 7, 3) := by decide +kernel
theorem dX7_set_63 : decode cX7_set 63 = .ok (.iload_n 1, 1) := by decide +kernel
theorem dX7_set_64 : decode cX7_set 64 = .ok (.iaload, 1) := by decide +kernel
theorem dX7_set_65 : decode cX7_set 65 = .ok (.iload_n 3, 1) := by decide +kernel
theorem dX7_set_66 : decode cX7_set 66 = .ok (.invokestatic 72, 3) := by decide +kernel
theorem dX7_set_69 : decode cX7_set 69 = .ok (.iastore, 1) := by decide +kernel
theorem dX7_set_70 : decode cX7_set 70 = .ok (.aload_n 0, 1) := by decide +kernel
theorem dX7_set_71 : decode cX7_set 71 = .ok (.aload_n 0, 1) := by decide +kernel
theorem dX7_set_72 : decode cX7_set 72 = .ok (.getfield 16, 3) := by decide +kernel
theorem dX7_set_75 : decode cX7_set 75 = .ok (.bipush 40, 2) := by decide +kernel
theorem dX7_set_77 : decode cX7_set 77 = .ok (.iload_n 1, 1) := by decide +kernel
theorem dX7_set_78 : decode cX7_set 78 = .ok (.imul, 1) := by decide +kernel
theorem dX7_set_79 : decode cX7_set 79 = .ok (.iload_n 2, 1) := by decide +kernel
theorem dX7_set_80 : decode cX7_set 80 = .ok (.iadd, 1) := by decide +kernel
theorem dX7_set_81 : decode cX7_set 81 = .ok (.iaload, 1) := by decide +kernel
theorem dX7_set_82 : decode cX7_set 82 = .ok (.invokevirtual 69, 3) := by decide +kernel
theorem dX7_set_85 : decode cX7_set 85 = .ok (.ireturn, 1) := by decide +kernel
theorem dX7_copy_0 : decode cX7_copy 0 = .ok (.iload_n 1, 1) := by decide +kernel
theorem dX7_copy_1 : decode cX7_copy 1 = .ok (.invokestatic 58, 3) := by decide +kernel
theorem dX7_copy_4 : decode cX7_copy 4 = .ok (.ifCond .eq 10, 3) := by decide +kernel
theorem dX7_copy_7 : decode cX7_copy 7 = .ok (.iload_n 3, 1) := by decide +kernel
theorem dX7_copy_8 : decode cX7_copy 8 = .ok (.invokestatic 58, 3) := by decide +kernel
theorem dX7_copy_11 : decode cX7_copy 11 = .ok (.ifCond .ne 6, 3) := by decide +kernel
theorem dX7_copy_14 : decode cX7_copy 14 = .ok (.ldc 64, 2) := by decide +kernel
theorem dX7_copy_16 : decode cX7_copy 16 = .ok (.ireturn, 1) := by decide +kernel
theorem dX7_copy_17 : decode cX7_copy 17 = .ok (.aload_n 0, 1) := by decide +kernel
theorem dX7_copy_18 : decode cX7_copy 18 = .ok (.getfield 13, 3) := by decide +kernel
theorem dX7_copy_21 : decode cX7_copy 21 = .ok (.iload_n 1, 1) := by decide +kernel
theorem dX7_copy_22 : decode cX7_copy 22 = .ok (.iaload, 1) := by decide +kernel
theorem dX7_copy_23 : decode cX7_copy 23 = .ok (.ifCond .lt 12, 3) := by decide +kernel
theorem dX7_copy_26 : decode cX7_copy 26 = .ok (.aload_n 0, 1) := by decide +kernel
theorem dX7_copy_27 : decode cX7_copy 27 = .ok (.getfield 13, 3) := by decide +kernel
theorem dX7_copy_30 : decode cX7_copy 30 = .ok (.iload_n 3, 1) := by decide +kernel
theorem dX7_copy_31 : decode cX7_copy 31 = .ok (.iaload, 1) := by decide +kernel
theorem dX7_copy_32 : decode cX7_copy 32 = .ok (.ifCond .ge 9, 3) := by decide +kernel
theorem dX7_copy_35 : decode cX7_copy 35 = .ok (.aload_n 0, 1) := by decide +kernel
theorem dX7_copy_36 : decode cX7_copy 36 = .ok (.iconst 1, 1) := by decide +kernel
theorem dX7_copy_37 : decode cX7_copy 37 = .ok (.invokevirtual 65, 3) := by decide +kernel
theorem dX7_copy_40 : decode cX7_copy 40 = .ok (.ireturn, 1) := by decide +kernel
theorem dX7_copy_41 : decode cX7_copy 41 = .ok (.aload_n 0, 1) := by decide +kernel
theorem dX7_copy_42 : decode cX7_copy 42 = .ok (.getfield 7, 3) := by decide +kernel
theorem dX7_copy_45 : decode cX7_copy 45 = .ok (.iload_n 1, 1) := by decide +kernel
theorem dX7_copy_46 : decode cX7_copy 46 = .ok (.iaload, 1) := by decide +kernel
theorem dX7_copy_47 : decode cX7_copy 47 = .ok (.aload_n 0, 1) := by decide +kernel
theorem dX7_copy_48 : decode cX7_copy 48 = .ok (.getfield 7, 3) := by decide +kernel
theorem dX7_copy_51 : decode cX7_copy 51 = .ok (.iload_n 3, 1) := by decide +kernel
theorem dX7_copy_52 : decode cX7_copy 52 = .ok (.iaload, 1) := by decide +kernel
theorem dX7_copy_53 : decode cX7_copy 53 = .ok (.if_icmp .eq 9, 3) := by decide +kernel
theorem dX7_copy_56 : decode cX7_copy 56 = .ok (.aload_n 0, 1) := by decide +kernel
theorem dX7_copy_57 : decode cX7_copy 57 = .ok (.iconst 5, 1) := by decide +kernel
theorem dX7_copy_58 : decode cX7_copy 58 = .ok (.invokevirtual 65, 3) := by decide +kernel
theorem dX7_copy_61 : decode cX7_copy 61 = .ok (.ireturn, 1) := by decide +kernel
theorem dX7_copy_62 : decode cX7_copy 62 = .ok (.iload 5, 2) := by decide +kernel
theorem dX7_copy_64 : decode cX7_copy 64 = .ok (.ifCond .lt 44, 3) := by decide +kernel
theorem dX7_copy_67 : decode cX7_copy 67 = .ok (.iload_n 2, 1) := by decide +kernel
theorem dX7_copy_68 : decode cX7_copy 68 = .ok (.i2l, 1) := by decide +kernel
theorem dX7_copy_69 : decode cX7_copy 69 = .ok (.lconst 0, 1) := by decide +kernel
theorem dX7_copy_70 : decode cX7_copy 70 = .ok (.aload_n 0, 1) := by decide +kernel
theorem dX7_copy_71 : decode cX7_copy 71 = .ok (.getfield 13, 3) := by decide +kernel
theorem dX7_copy_74 : decode cX7_copy 74 = .ok (.iload_n 1, 1) := by decide +kernel
theorem dX7_copy_75 : decode cX7_copy 75 = .ok (.iaload, 1) := by decide +kernel
theorem dX7_copy_76 : decode cX7_copy 76 = .ok (.i2l, 1) := by decide +kernel
theorem dX7_copy_77 : decode cX7_copy 77 = .ok (.iload 5, 2) := by decide +kernel
theorem dX7_copy_79 : decode cX7_copy 79 = .ok (.i2l, 1) := by decide +kernel
theorem dX7_copy_80 : decode cX7_copy 80 = .ok (.lsub, 1) := by decide +kernel
theorem dX7_copy_81 : decode cX7_copy 81 = .ok (.invokestatic 54, 3) := by decide +kernel
theorem dX7_copy_84 : decode cX7_copy 84 = .ok (.ifCond .eq 24, 3) := by decide +kernel
theorem dX7_copy_87 : decode cX7_copy 87 = .ok (.iload 4, 2) := by decide +kernel
theorem dX7_copy_89 : decode cX7_copy 89 = .ok (.i2l, 1) := by decide +kernel
theorem dX7_copy_90 : decode cX7_copy 90 = .ok (.lconst 0, 1) := by decide +kernel
theorem dX7_copy_91 : decode cX7_copy 91 = .ok (.aload_n 0, 1) := by decide +kernel
theorem dX7_copy_92 : decode cX7_copy 92 = .ok (.getfield 13, 3) := by decide +kernel
theorem dX7_copy_95 : decode cX7_copy 95 = .ok (.iload_n 3, 1) := by decide +kernel
theorem dX7_copy_96 : decode cX7_copy 96 = .ok (.iaload, 1) := by decide +kernel
theorem dX7_copy_97 : decode cX7_copy 97 = .ok (.i2l, 1) := by decide +kernel
theorem dX7_copy_98 : decode cX7_copy 98 = .ok (.iload 5, 2) := by decide +kernel
theorem dX7_copy_100 : decode cX7_copy 100 = .ok (.i2l, 1) := by decide +kernel
theorem dX7_copy_101 : decode cX7_copy 101 = .ok (.lsub, 1) := by decide +kernel
theorem dX7_copy_102 : decode cX7_copy 102 = .ok (.invokestatic 54, 3) := by decide +kernel
theorem dX7_copy_105 : decode cX7_copy 105 = .ok (.ifCond .ne 9, 3) := by decide +kernel
theorem dX7_copy_108 : decode cX7_copy 108 = .ok (.aload_n 0, 1) := by decide +kernel
theorem dX7_copy_109 : decode cX7_copy 109 = .ok (.iconst 2, 1) := by decide +kernel
theorem dX7_copy_110 : decode cX7_copy 110 = .ok (.invokevirtual 65, 3) := by decide +kernel
theorem dX7_copy_113 : decode cX7_copy 113 = .ok (.ireturn, 1) := by decide +kernel
theorem dX7_copy_114 : decode cX7_copy 114 = .ok (.iconst 0, 1) := by decide +kernel
theorem dX7_copy_115 : decode cX7_copy 115 = .ok (.istore 6, 2) := by decide +kernel
theorem dX7_copy_117 : decode cX7_copy 117 = .ok (.iload 6, 2) := by decide +kernel
theorem dX7_copy_119 : decode cX7_copy 119 = .ok (.iload 5, 2) := by decide +kernel
theorem dX7_copy_121 : decode cX7_copy 121 = .ok (.if_icmp .ge 30, 3) := by decide +kernel
theorem dX7_copy_124 : decode cX7_copy 124 = .ok (.aload_n 0, 1) := by decide +kernel
theorem dX7_copy_125 : decode cX7_copy 125 = .ok (.getfield 22, 3) := by decide +kernel
theorem dX7_copy_128 : decode cX7_copy 128 = .ok (.iload 6, 2) := by decide +kernel
theorem dX7_copy_130 : decode cX7_copy 130 = .ok (.aload_n 0, 1) := by decide +kernel
theorem dX7_copy_131 : decode cX7_copy 131 = .ok (.getfield 16, 3) := by decide +kernel
theorem dX7_copy_134 : decode cX7_copy 134 = .ok (.bipush 40, 2) := by decide +kernel
theorem dX7_copy_136 : decode cX7_copy 136 = .ok (.iload_n 1, 1) := by decide +kernel
theorem dX7_copy_137 : decode cX7_copy 137 = .ok (.imul, 1) := by decide +kernel
theorem dX7_copy_138 : decode cX7_copy 138 = .ok (.iload_n 2, 1) := by decide +kernel
theorem dX7_copy_139 : decode cX7_copy 139 = .ok (.iadd, 1) := by decide +kernel
theorem dX7_copy_140 : decode cX7_copy 140 = .ok (.iload 6, 2) := by decide +kernel
theorem dX7_copy_142 : decode cX7_copy 142 = .ok (.iadd, 1) := by decide +kernel
theorem dX7_copy_143 : decode cX7_copy 143 = .ok (.iaload, 1) := by decide +kernel
theorem dX7_copy_144 : decode cX7_copy 144 = .ok (.iastore, 1) := by decide +kernel
theorem dX7_copy_145 : decode cX7_copy 145 = .ok (.iinc 6 1, 3) := by decide +kernel
theorem dX7_copy_148 : decode cX7_copy 148 = .ok (.goto (-31), 3) := by decide +kernel
theorem dX7_copy_151 : decode cX7_copy 151 = .ok (.iconst 0, 1) := by decide +kernel
theorem dX7_copy_152 : decode cX7_copy 152 = .ok (.istore 6, 2) := by decide +kernel
theorem dX7_copy_154 : decode cX7_copy 154 = .ok (.iload 6, 2) := by decide +kernel
theorem dX7_copy_156 : decode cX7_copy 156 = .ok (.iload 5, 2) := by decide +kernel
theorem dX7_copy_158 : decode cX7_copy 158 = .ok (.if_icmp .ge 31, 3) := by decide +kernel
theorem dX7_copy_161 : decode cX7_copy 161 = .ok (.aload_n 0, 1) := by decide +kernel
theorem dX7_copy_162 : decode cX7_copy 162 = .ok (.getfield 16, 3) := by decide +kernel
theorem dX7_copy_165 : decode cX7_copy 165 = .ok (.bipush 40, 2) := by decide +kernel
theorem dX7_copy_167 : decode cX7_copy 167 = .ok (.iload_n 3, 1) := by decide +kernel
theorem dX7_copy_168 : decode cX7_copy 168 = .ok (.imul, 1) := by decide +kernel
theorem dX7_copy_169 : decode cX7_copy 169 = .ok (.iload 4, 2) := by decide +kernel
theorem dX7_copy_171 : decode cX7_copy 171 = .ok (.iadd, 1) := by decide +kernel
theorem dX7_copy_172 : decode cX7_copy 172 = .ok (.iload 6, 2) := by decide +kernel
theorem dX7_copy_174 : decode cX7_copy 174 = .ok (.iadd, 1) := by decide +kernel
theorem dX7_copy_175 : decode cX7_copy 175 = .ok (.aload_n 0, 1) := by decide +kernel
theorem dX7_copy_176 : decode cX7_copy 176 = .ok (.getfield 22, 3) := by decide +kernel
theorem dX7_copy_179 : decode cX7_copy 179 = .ok (.iload 6, 2) := by decide +kernel
theorem dX7_copy_181 : decode cX7_copy 181 = .ok (.iaload, 1) := by decide +kernel
theorem dX7_copy_182 : decode cX7_copy 182 = .ok (.iastore, 1) := by decide +kernel
theorem dX7_copy_183 : decode cX7_copy 183 = .ok (.iinc 6 1, 3) := by decide +kernel
theorem dX7_copy_186 : decode cX7_copy 186 = .ok (.goto (-32), 3) := by decide +kernel
theorem dX7_copy_189 : decode cX7_copy 189 = .ok (.aload_n 0, 1) := by decide +kernel
theorem dX7_copy_190 : decode cX7_copy 190 = .ok (.iload 5, 2) := by decide +kernel
theorem dX7_copy_192 : decode cX7_copy 192 = .ok (.invokevirtual 69, 3) := by decide +kernel
theorem dX7_copy_195 : decode cX7_copy 195 = .ok (.ireturn, 1) := by decide +kernel
theorem dX7_drop_0 : decode cX7_drop 0 = .ok (.iload_n 1, 1) := by decide +kernel
theorem dX7_drop_1 : decode cX7_drop 1 = .ok (.invokestatic 58, 3) := by decide +kernel
theorem dX7_drop_4 : decode cX7_drop 4 = .ok (.ifCond .ne 6, 3) := by decide +kernel
theorem dX7_drop_7 : decode cX7_drop 7 = .ok (.ldc 64, 2) := by decide +kernel
theorem dX7_drop_9 : decode cX7_drop 9 = .ok (.ireturn, 1) := by decide +kernel
theorem dX7_drop_10 : decode cX7_drop 10 = .ok (.aload_n 0, 1) := by decide +kernel
theorem dX7_drop_11 : decode cX7_drop 11 = .ok (.getfield 13, 3) := by decide +kernel
theorem dX7_drop_14 : decode cX7_drop 14 = .ok (.iload_n 1, 1) := by decide +kernel
theorem dX7_drop_15 : decode cX7_drop 15 = .ok (.iaload, 1) := by decide +kernel
theorem dX7_drop_16 : decode cX7_drop 16 = .ok (.ifCond .ge 9, 3) := by decide +kernel
theorem dX7_drop_19 : decode cX7_drop 19 = .ok (.aload_n 0, 1) := by decide +kernel
theorem dX7_drop_20 : decode cX7_drop 20 = .ok (.iconst 1, 1) := by decide +kernel
theorem dX7_drop_21 : decode cX7_drop 21 = .ok (.invokevirtual 65, 3) := by decide +kernel
theorem dX7_drop_24 : decode cX7_drop 24 = .ok (.ireturn, 1) := by decide +kernel
theorem dX7_drop_25 : decode cX7_drop 25 = .ok (.aload_n 0, 1) := by decide +kernel
theorem dX7_drop_26 : decode cX7_drop 26 = .ok (.getfield 13, 3) := by decide +kernel
theorem dX7_drop_29 : decode cX7_drop 29 = .ok (.iload_n 1, 1) := by decide +kernel
theorem dX7_drop_30 : decode cX7_drop 30 = .ok (.iaload, 1) := by decide +kernel
theorem dX7_drop_31 : decode cX7_drop 31 = .ok (.istore_n 2, 1) := by decide +kernel
theorem dX7_drop_32 : decode cX7_drop 32 = .ok (.aload_n 0, 1) := by decide +kernel
theorem dX7_drop_33 : decode cX7_drop 33 = .ok (.getfield 13, 3) := by decide +kernel
theorem dX7_drop_36 : decode cX7_drop 36 = .ok (.iload_n 1, 1) := by decide +kernel
theorem dX7_drop_37 : decode cX7_drop 37 = .ok (.iconst (-1), 1) := by decide +kernel
theorem dX7_drop_38 : decode cX7_drop 38 = .ok (.iastore, 1) := by decide +kernel
theorem dX7_drop_39 : decode cX7_drop 39 = .ok (.aload_n 0, 1) := by decide +kernel
theorem dX7_drop_40 : decode cX7_drop 40 = .ok (.iload_n 2, 1) := by decide +kernel
theorem dX7_drop_41 : decode cX7_drop 41 = .ok (.invokevirtual 69, 3) := by decide +kernel
theorem dX7_drop_44 : decode cX7_drop 44 = .ok (.ireturn, 1) := by decide +kernel
theorem dX7_feed_0 : decode cX7_feed 0 = .ok (.iload_n 1, 1) := by decide +kernel
theorem dX7_feed_1 : decode cX7_feed 1 = .ok (.i2l, 1) := by decide +kernel
theorem dX7_feed_2 : decode cX7_feed 2 = .ok (.lconst 0, 1) := by decide +kernel
theorem dX7_feed_3 : decode cX7_feed 3 = .ok (.ldc2_w 76, 3) := by decide +kernel
theorem dX7_feed_6 : decode cX7_feed 6 = .ok (.invokestatic 54, 3) := by decide +kernel
theorem dX7_feed_9 : decode cX7_feed 9 = .ok (.ifCond .ne 6, 3) := by decide +kernel
theorem dX7_feed_12 : decode cX7_feed 12 = .ok (.ldc 64, 2) := by decide +kernel
theorem dX7_feed_14 : decode cX7_feed 14 = .ok (.ireturn, 1) := by decide +kernel
theorem dX7_feed_15 : decode cX7_feed 15 = .ok (.aload_n 0, 1) := by decide +kernel
theorem dX7_feed_16 : decode cX7_feed 16 = .ok (.getfield 78, 3) := by decide +kernel
theorem dX7_feed_19 : decode cX7_feed 19 = .ok (.bipush 120, 2) := by decide +kernel
theorem dX7_feed_21 : decode cX7_feed 21 = .ok (.if_icmp .ne 6, 3) := by decide +kernel
theorem dX7_feed_24 : decode cX7_feed 24 = .ok (.ldc 81, 2) := by decide +kernel
theorem dX7_feed_26 : decode cX7_feed 26 = .ok (.ireturn, 1) := by decide +kernel
theorem dX7_feed_27 : decode cX7_feed 27 = .ok (.aload_n 0, 1) := by decide +kernel
theorem dX7_feed_28 : decode cX7_feed 28 = .ok (.getfield 25, 3) := by decide +kernel
theorem dX7_feed_31 : decode cX7_feed 31 = .ok (.aload_n 0, 1) := by decide +kernel
theorem dX7_feed_32 : decode cX7_feed 32 = .ok (.getfield 78, 3) := by decide +kernel
theorem dX7_feed_35 : decode cX7_feed 35 = .ok (.iload_n 1, 1) := by decide +kernel
theorem dX7_feed_36 : decode cX7_feed 36 = .ok (.iastore, 1) := by decide +kernel
theorem dX7_feed_37 : decode cX7_feed 37 = .ok (.aload_n 0, 1) := by decide +kernel
theorem dX7_feed_38 : decode cX7_feed 38 = .ok (.dup, 1) := by decide +kernel
theorem dX7_feed_39 : decode cX7_feed 39 = .ok (.getfield 78, 3) := by decide +kernel
theorem dX7_feed_42 : decode cX7_feed 42 = .ok (.iconst 1, 1) := by decide +kernel
theorem dX7_feed_43 : decode cX7_feed 43 = .ok (.iadd, 1) := by decide +kernel
theorem dX7_feed_44 : decode cX7_feed 44 = .ok (.putfield 78, 3) := by decide +kernel
theorem dX7_feed_47 : decode cX7_feed 47 = .ok (.aload_n 0, 1) := by decide +kernel
theorem dX7_feed_48 : decode cX7_feed 48 = .ok (.getfield 78, 3) := by decide +kernel
theorem dX7_feed_51 : decode cX7_feed 51 = .ok (.ireturn, 1) := by decide +kernel
theorem dX7_nextToken_0 : decode cX7_nextToken 0 = .ok (.aload_n 0, 1) := by decide +kernel
theorem dX7_nextToken_1 : decode cX7_nextToken 1 = .ok (.aload_n 0, 1) := by decide +kernel
theorem dX7_nextToken_2 : decode cX7_nextToken 2 = .ok (.getfield 82, 3) := by decide +kernel
theorem dX7_nextToken_5 : decode cX7_nextToken 5 = .ok (.putfield 85, 3) := by decide +kernel
theorem dX7_nextToken_8 : decode cX7_nextToken 8 = .ok (.aload_n 0, 1) := by decide +kernel
theorem dX7_nextToken_9 : decode cX7_nextToken 9 = .ok (.aload_n 0, 1) := by decide +kernel
theorem dX7_nextToken_10 : decode cX7_nextToken 10 = .ok (.getfield 82, 3) := by decide +kernel
theorem dX7_nextToken_13 : decode cX7_nextToken 13 = .ok (.aload_n 0, 1) := by decide +kernel
theorem dX7_nextToken_14 : decode cX7_nextToken 14 = .ok (.getfield 78, 3) := by decide +kernel
theorem dX7_nextToken_17 : decode cX7_nextToken 17 = .ok (.if_icmp .ne 7, 3) := by decide +kernel
theorem dX7_nextToken_20 : decode cX7_nextToken 20 = .ok (.iconst 3, 1) := by decide +kernel
theorem dX7_nextToken_21 : decode cX7_nextToken 21 = .ok (.goto 4, 3) := by decide +kernel
theorem dX7_nextToken_24 : decode cX7_nextToken 24 = .ok (.iconst 0, 1) := by decide +kernel
theorem dX7_nextToken_25 : decode cX7_nextToken 25 = .ok (.putfield 88, 3) := by decide +kernel
theorem dX7_nextToken_28 : decode cX7_nextToken 28 = .ok (.aload_n 0, 1) := by decide +kernel
theorem dX7_nextToken_29 : decode cX7_nextToken 29 = .ok (.iconst 0, 1) := by decide +kernel
theorem dX7_nextToken_30 : decode cX7_nextToken 30 = .ok (.putfield 91, 3) := by decide +kernel
theorem dX7_nextToken_33 : decode cX7_nextToken 33 = .ok (.aload_n 0, 1) := by decide +kernel
theorem dX7_nextToken_34 : decode cX7_nextToken 34 = .ok (.getfield 82, 3) := by decide +kernel
theorem dX7_nextToken_37 : decode cX7_nextToken 37 = .ok (.aload_n 0, 1) := by decide +kernel
theorem dX7_nextToken_38 : decode cX7_nextToken 38 = .ok (.getfield 78, 3) := by decide +kernel
theorem dX7_nextToken_41 : decode cX7_nextToken 41 = .ok (.if_icmp .ge 78, 3) := by decide +kernel
theorem dX7_nextToken_44 : decode cX7_nextToken 44 = .ok (.aload_n 0, 1) := by decide +kernel
theorem dX7_nextToken_45 : decode cX7_nextToken 45 = .ok (.getfield 25, 3) := by decide +kernel
theorem dX7_nextToken_48 : decode cX7_nextToken 48 = .ok (.aload_n 0, 1) := by decide +kernel
theorem dX7_nextToken_49 : decode cX7_nextToken 49 = .ok (.getfield 82, 3) := by decide +kernel
theorem dX7_nextToken_52 : decode cX7_nextToken 52 = .ok (.iaload, 1) := by decide +kernel
theorem dX7_nextToken_53 : decode cX7_nextToken 53 = .ok (.i2l, 1) := by decide +kernel
theorem dX7_nextToken_54 : decode cX7_nextToken 54 = .ok (.ldc2_w 94, 3) := by decide +kernel
theorem dX7_nextToken_57 : decode cX7_nextToken 57 = .ok (.ldc2_w 96, 3) := by decide +kernel
theorem dX7_nextToken_60 : decode cX7_nextToken 60 = .ok (.invokestatic 54, 3) := by decide +kernel
theorem dX7_nextToken_63 : decode cX7_nextToken 63 = .ok (.ifCond .eq 56, 3) := by decide +kernel
theorem dX7_nextToken_66 : decode cX7_nextToken 66 = .ok (.aload_n 0, 1) := by decide +kernel
theorem dX7_nextToken_67 : decode cX7_nextToken 67 = .ok (.aload_n 0, 1) := by decide +kernel
theorem dX7_nextToken_68 : decode cX7_nextToken 68 = .ok (.getfield 91, 3) := by decide +kernel
theorem dX7_nextToken_71 : decode cX7_nextToken 71 = .ok (.bipush 99, 2) := by decide +kernel
theorem dX7_nextToken_73 : decode cX7_nextToken 73 = .ok (.if_icmp .le 10, 3) := by decide +kernel
theorem dX7_nextToken_76 : decode cX7_nextToken 76 = .ok (.aload_n 0, 1) := by decide +kernel
theorem dX7_nextToken_77 : decode cX7_nextToken 77 = .ok (.getfield 91, 3) := by decide +kernel
theorem dX7_nextToken_80 : decode cX7_nextToken 80 = .ok (.goto 23, 3) := by decide +kernel
theorem dX7_nextToken_83 : decode cX7_nextToken 83 = .ok (.bipush 10, 2) := by decide +kernel
theorem dX7_nextToken_85 : decode cX7_nextToken 85 = .ok (.aload_n 0, 1) := by decide +kernel
theorem dX7_nextToken_86 : decode cX7_nextToken 86 = .ok (.getfield 91, 3) := by decide +kernel
theorem dX7_nextToken_89 : decode cX7_nextToken 89 = .ok (.imul, 1) := by decide +kernel
theorem dX7_nextToken_90 : decode cX7_nextToken 90 = .ok (.aload_n 0, 1) := by decide +kernel
theorem dX7_nextToken_91 : decode cX7_nextToken 91 = .ok (.getfield 25, 3) := by decide +kernel
theorem dX7_nextToken_94 : decode cX7_nextToken 94 = .ok (.aload_n 0, 1) := by decide +kernel
theorem dX7_nextToken_95 : decode cX7_nextToken 95 = .ok (.getfield 82, 3) := by decide +kernel
theorem dX7_nextToken_98 : decode cX7_nextToken 98 = .ok (.iaload, 1) := by decide +kernel
theorem dX7_nextToken_99 : decode cX7_nextToken 99 = .ok (.iadd, 1) := by decide +kernel
theorem dX7_nextToken_100 : decode cX7_nextToken 100 = .ok (.bipush 48, 2) := by decide +kernel
theorem dX7_nextToken_102 : decode cX7_nextToken 102 = .ok (.isub, 1) := by decide +kernel
theorem dX7_nextToken_103 : decode cX7_nextToken 103 = .ok (.putfield 91, 3) := by decide +kernel
theorem dX7_nextToken_106 : decode cX7_nextToken 106 = .ok (.aload_n 0, 1) := by decide +kernel
theorem dX7_nextToken_107 : decode cX7_nextToken 107 = .ok (.dup, 1) := by decide +kernel
theorem dX7_nextToken_108 : decode cX7_nextToken 108 = .ok (.getfield 82, 3) := by decide +kernel
theorem dX7_nextToken_111 : decode cX7_nextToken 111 = .ok (.iconst 1, 1) := by decide +kernel
theorem dX7_nextToken_112 : decode cX7_nextToken 112 = .ok (.iadd, 1) := by decide +kernel
theorem dX7_nextToken_113 : decode cX7_nextToken 113 = .ok (.putfield 82, 3) := by decide +kernel
theorem dX7_nextToken_116 : decode cX7_nextToken 116 = .ok (.goto (-83), 3) := by decide +kernel
theorem dX7_nextToken_119 : decode cX7_nextToken 119 = .ok (.aload_n 0, 1) := by decide +kernel
theorem dX7_nextToken_120 : decode cX7_nextToken 120 = .ok (.getfield 82, 3) := by decide +kernel
theorem dX7_nextToken_123 : decode cX7_nextToken 123 = .ok (.aload_n 0, 1) := by decide +kernel
theorem dX7_nextToken_124 : decode cX7_nextToken 124 = .ok (.getfield 85, 3) := by decide +kernel
theorem dX7_nextToken_127 : decode cX7_nextToken 127 = .ok (.if_icmp .le 28, 3) := by decide +kernel
theorem dX7_nextToken_130 : decode cX7_nextToken 130 = .ok (.aload_n 0, 1) := by decide +kernel
theorem dX7_nextToken_131 : decode cX7_nextToken 131 = .ok (.aload_n 0, 1) := by decide +kernel
theorem dX7_nextToken_132 : decode cX7_nextToken 132 = .ok (.getfield 82, 3) := by decide +kernel
theorem dX7_nextToken_135 : decode cX7_nextToken 135 = .ok (.aload_n 0, 1) := by decide +kernel
theorem dX7_nextToken_136 : decode cX7_nextToken 136 = .ok (.getfield 85, 3) := by decide +kernel
theorem dX7_nextToken_139 : decode cX7_nextToken 139 = .ok (.isub, 1) := by decide +kernel
theorem dX7_nextToken_140 : decode cX7_nextToken 140 = .ok (.iconst 2, 1) := by decide +kernel
theorem dX7_nextToken_141 : decode cX7_nextToken 141 = .ok (.if_icmp .le 7, 3) := by decide +kernel
theorem dX7_nextToken_144 : decode cX7_nextToken 144 = .ok (.iconst 0, 1) := by decide +kernel
theorem dX7_nextToken_145 : decode cX7_nextToken 145 = .ok (.goto 4, 3) := by decide +kernel
theorem dX7_nextToken_148 : decode cX7_nextToken 148 = .ok (.iconst 2, 1) := by decide +kernel
theorem dX7_nextToken_149 : decode cX7_nextToken 149 = .ok (.putfield 88, 3) := by decide +kernel
theorem dX7_nextToken_152 : decode cX7_nextToken 152 = .ok (.goto 77, 3) := by decide +kernel
theorem dX7_nextToken_155 : decode cX7_nextToken 155 = .ok (.aload_n 0, 1) := by decide +kernel
theorem dX7_nextToken_156 : decode cX7_nextToken 156 = .ok (.getfield 88, 3) := by decide +kernel
theorem dX7_nextToken_159 : decode cX7_nextToken 159 = .ok (.ifCond .ne 70, 3) := by decide +kernel
theorem dX7_nextToken_162 : decode cX7_nextToken 162 = .ok (.aload_n 0, 1) := by decide +kernel
theorem dX7_nextToken_163 : decode cX7_nextToken 163 = .ok (.aload_n 0, 1) := by decide +kernel
end
section
theorem dX7_nextToken_164 : decode cX7_nextToken 164 = .ok (.getfield 25, 3) := by decide +kernel
theorem dX7_nextToken_167 : decode cX7_nextToken 167 = .ok (.aload_n 0, 1) := by decide +kernel
theorem dX7_nextToken_168 : decode cX7_nextToken 168 = .ok (.getfield 82, 3) := by decide +kernel
theorem dX7_nextToken_171 : decode cX7_nextToken 171 = .ok (.iaload, 1) := by decide +kernel
theorem dX7_nextToken_172 : decode cX7_nextToken 172 = .ok (.putfield 91, 3) := by decide +kernel
theorem dX7_nextToken_175 : decode cX7_nextToken 175 = .ok (.aload_n 0, 1) := by decide +kernel
theorem dX7_nextToken_176 : decode cX7_nextToken 176 = .ok (.aload_n 0, 1) := by decide +kernel
theorem dX7_nextToken_177 : decode cX7_nextToken 177 = .ok (.getfield 91, 3) := by decide +kernel
theorem dX7_nextToken_180 : decode cX7_nextToken 180 = .ok (.i2l, 1) := by decide +kernel
theorem dX7_nextToken_181 : decode cX7_nextToken 181 = .ok (.ldc2_w 98, 3) := by decide +kernel
theorem dX7_nextToken_184 : decode cX7_nextToken 184 = .ok (.ldc2_w 100, 3) := by decide +kernel
theorem dX7_nextToken_187 : decode cX7_nextToken 187 = .ok (.invokestatic 54, 3) := by decide +kernel
theorem dX7_nextToken_190 : decode cX7_nextToken 190 = .ok (.ifCond .ne 21, 3) := by decide +kernel
theorem dX7_nextToken_193 : decode cX7_nextToken 193 = .ok (.aload_n 0, 1) := by decide +kernel
theorem dX7_nextToken_194 : decode cX7_nextToken 194 = .ok (.getfield 91, 3) := by decide +kernel
theorem dX7_nextToken_197 : decode cX7_nextToken 197 = .ok (.bipush 44, 2) := by decide +kernel
theorem dX7_nextToken_199 : decode cX7_nextToken 199 = .ok (.if_icmp .eq 12, 3) := by decide +kernel
theorem dX7_nextToken_202 : decode cX7_nextToken 202 = .ok (.aload_n 0, 1) := by decide +kernel
theorem dX7_nextToken_203 : decode cX7_nextToken 203 = .ok (.getfield 91, 3) := by decide +kernel
theorem dX7_nextToken_206 : decode cX7_nextToken 206 = .ok (.bipush 59, 2) := by decide +kernel
theorem dX7_nextToken_208 : decode cX7_nextToken 208 = .ok (.if_icmp .ne 7, 3) := by decide +kernel
theorem dX7_nextToken_211 : decode cX7_nextToken 211 = .ok (.iconst 1, 1) := by decide +kernel
theorem dX7_nextToken_212 : decode cX7_nextToken 212 = .ok (.goto 4, 3) := by decide +kernel
theorem dX7_nextToken_215 : decode cX7_nextToken 215 = .ok (.iconst 0, 1) := by decide +kernel
theorem dX7_nextToken_216 : decode cX7_nextToken 216 = .ok (.putfield 88, 3) := by decide +kernel
theorem dX7_nextToken_219 : decode cX7_nextToken 219 = .ok (.aload_n 0, 1) := by decide +kernel
theorem dX7_nextToken_220 : decode cX7_nextToken 220 = .ok (.dup, 1) := by decide +kernel
theorem dX7_nextToken_221 : decode cX7_nextToken 221 = .ok (.getfield 82, 3) := by decide +kernel
theorem dX7_nextToken_224 : decode cX7_nextToken 224 = .ok (.iconst 1, 1) := by decide +kernel
theorem dX7_nextToken_225 : decode cX7_nextToken 225 = .ok (.iadd, 1) := by decide +kernel
theorem dX7_nextToken_226 : decode cX7_nextToken 226 = .ok (.putfield 82, 3) := by decide +kernel
theorem dX7_nextToken_229 : decode cX7_nextToken 229 = .ok (.return_, 1) := by decide +kernel
theorem dX7_faults_0 : decode cX7_faults 0 = .ok (.aload_n 0, 1) := by decide +kernel
theorem dX7_faults_1 : decode cX7_faults 1 = .ok (.iload_n 1, 1) := by decide +kernel
theorem dX7_faults_2 : decode cX7_faults 2 = .ok (.putfield 102, 3) := by decide +kernel
theorem dX7_faults_5 : decode cX7_faults 5 = .ok (.iconst 0, 1) := by decide +kernel
theorem dX7_faults_6 : decode cX7_faults 6 = .ok (.ireturn, 1) := by decide +kernel
theorem dX7_isLetter_0 : decode cX7_isLetter 0 = .ok (.aload_n 0, 1) := by decide +kernel
theorem dX7_isLetter_1 : decode cX7_isLetter 1 = .ok (.getfield 88, 3) := by decide +kernel
theorem dX7_isLetter_4 : decode cX7_isLetter 4 = .ok (.iconst 1, 1) := by decide +kernel
theorem dX7_isLetter_5 : decode cX7_isLetter 5 = .ok (.if_icmp .ne 15, 3) := by decide +kernel
theorem dX7_isLetter_8 : decode cX7_isLetter 8 = .ok (.aload_n 0, 1) := by decide +kernel
theorem dX7_isLetter_9 : decode cX7_isLetter 9 = .ok (.getfield 91, 3) := by decide +kernel
theorem dX7_isLetter_12 : decode cX7_isLetter 12 = .ok (.iload_n 1, 1) := by decide +kernel
theorem dX7_isLetter_13 : decode cX7_isLetter 13 = .ok (.if_icmp .ne 7, 3) := by decide +kernel
theorem dX7_isLetter_16 : decode cX7_isLetter 16 = .ok (.iconst 1, 1) := by decide +kernel
theorem dX7_isLetter_17 : decode cX7_isLetter 17 = .ok (.goto 4, 3) := by decide +kernel
theorem dX7_isLetter_20 : decode cX7_isLetter 20 = .ok (.iconst 0, 1) := by decide +kernel
theorem dX7_isLetter_21 : decode cX7_isLetter 21 = .ok (.ireturn, 1) := by decide +kernel
theorem dX7_takes_0 : decode cX7_takes 0 = .ok (.aload_n 0, 1) := by decide +kernel
theorem dX7_takes_1 : decode cX7_takes 1 = .ok (.iload_n 1, 1) := by decide +kernel
theorem dX7_takes_2 : decode cX7_takes 2 = .ok (.invokevirtual 105, 3) := by decide +kernel
theorem dX7_takes_5 : decode cX7_takes 5 = .ok (.ifCond .ne 9, 3) := by decide +kernel
theorem dX7_takes_8 : decode cX7_takes 8 = .ok (.aload_n 0, 1) := by decide +kernel
theorem dX7_takes_9 : decode cX7_takes 9 = .ok (.iconst 1, 1) := by decide +kernel
theorem dX7_takes_10 : decode cX7_takes 10 = .ok (.invokevirtual 108, 3) := by decide +kernel
theorem dX7_takes_13 : decode cX7_takes 13 = .ok (.ireturn, 1) := by decide +kernel
theorem dX7_takes_14 : decode cX7_takes 14 = .ok (.aload_n 0, 1) := by decide +kernel
theorem dX7_takes_15 : decode cX7_takes 15 = .ok (.invokevirtual 111, 3) := by decide +kernel
theorem dX7_takes_18 : decode cX7_takes 18 = .ok (.iconst 1, 1) := by decide +kernel
theorem dX7_takes_19 : decode cX7_takes 19 = .ok (.ireturn, 1) := by decide +kernel
theorem dX7_takesNumber_0 : decode cX7_takesNumber 0 = .ok (.aload_n 0, 1) := by decide +kernel
theorem dX7_takesNumber_1 : decode cX7_takesNumber 1 = .ok (.getfield 88, 3) := by decide +kernel
theorem dX7_takesNumber_4 : decode cX7_takesNumber 4 = .ok (.iconst 2, 1) := by decide +kernel
theorem dX7_takesNumber_5 : decode cX7_takesNumber 5 = .ok (.if_icmp .ne 18, 3) := by decide +kernel
theorem dX7_takesNumber_8 : decode cX7_takesNumber 8 = .ok (.aload_n 0, 1) := by decide +kernel
theorem dX7_takesNumber_9 : decode cX7_takesNumber 9 = .ok (.getfield 91, 3) := by decide +kernel
theorem dX7_takesNumber_12 : decode cX7_takesNumber 12 = .ok (.i2l, 1) := by decide +kernel
theorem dX7_takesNumber_13 : decode cX7_takesNumber 13 = .ok (.iload_n 1, 1) := by decide +kernel
theorem dX7_takesNumber_14 : decode cX7_takesNumber 14 = .ok (.i2l, 1) := by decide +kernel
theorem dX7_takesNumber_15 : decode cX7_takesNumber 15 = .ok (.iload_n 2, 1) := by decide +kernel
theorem dX7_takesNumber_16 : decode cX7_takesNumber 16 = .ok (.i2l, 1) := by decide +kernel
theorem dX7_takesNumber_17 : decode cX7_takesNumber 17 = .ok (.invokestatic 54, 3) := by decide +kernel
theorem dX7_takesNumber_20 : decode cX7_takesNumber 20 = .ok (.ifCond .ne 21, 3) := by decide +kernel
theorem dX7_takesNumber_23 : decode cX7_takesNumber 23 = .ok (.aload_n 0, 1) := by decide +kernel
theorem dX7_takesNumber_24 : decode cX7_takesNumber 24 = .ok (.aload_n 0, 1) := by decide +kernel
theorem dX7_takesNumber_25 : decode cX7_takesNumber 25 = .ok (.getfield 88, 3) := by decide +kernel
theorem dX7_takesNumber_28 : decode cX7_takesNumber 28 = .ok (.iconst 2, 1) := by decide +kernel
theorem dX7_takesNumber_29 : decode cX7_takesNumber 29 = .ok (.if_icmp .ne 7, 3) := by decide +kernel
theorem dX7_takesNumber_32 : decode cX7_takesNumber 32 = .ok (.iconst 2, 1) := by decide +kernel
theorem dX7_takesNumber_33 : decode cX7_takesNumber 33 = .ok (.goto 4, 3) := by decide +kernel
theorem dX7_takesNumber_36 : decode cX7_takesNumber 36 = .ok (.iconst 1, 1) := by decide +kernel
theorem dX7_takesNumber_37 : decode cX7_takesNumber 37 = .ok (.invokevirtual 108, 3) := by decide +kernel
theorem dX7_takesNumber_40 : decode cX7_takesNumber 40 = .ok (.ireturn, 1) := by decide +kernel
theorem dX7_takesNumber_41 : decode cX7_takesNumber 41 = .ok (.aload_n 0, 1) := by decide +kernel
theorem dX7_takesNumber_42 : decode cX7_takesNumber 42 = .ok (.getfield 28, 3) := by decide +kernel
theorem dX7_takesNumber_45 : decode cX7_takesNumber 45 = .ok (.iload_n 3, 1) := by decide +kernel
theorem dX7_takesNumber_46 : decode cX7_takesNumber 46 = .ok (.aload_n 0, 1) := by decide +kernel
theorem dX7_takesNumber_47 : decode cX7_takesNumber 47 = .ok (.getfield 91, 3) := by decide +kernel
theorem dX7_takesNumber_50 : decode cX7_takesNumber 50 = .ok (.iastore, 1) := by decide +kernel
theorem dX7_takesNumber_51 : decode cX7_takesNumber 51 = .ok (.aload_n 0, 1) := by decide +kernel
theorem dX7_takesNumber_52 : decode cX7_takesNumber 52 = .ok (.invokevirtual 111, 3) := by decide +kernel
theorem dX7_takesNumber_55 : decode cX7_takesNumber 55 = .ok (.aload_n 0, 1) := by decide +kernel
theorem dX7_takesNumber_56 : decode cX7_takesNumber 56 = .ok (.iload 4, 2) := by decide +kernel
theorem dX7_takesNumber_58 : decode cX7_takesNumber 58 = .ok (.invokevirtual 114, 3) := by decide +kernel
theorem dX7_takesNumber_61 : decode cX7_takesNumber 61 = .ok (.ireturn, 1) := by decide +kernel
theorem dX7_readDoor_0 : decode cX7_readDoor 0 = .ok (.aload_n 0, 1) := by decide +kernel
theorem dX7_readDoor_1 : decode cX7_readDoor 1 = .ok (.getfield 28, 3) := by decide +kernel
theorem dX7_readDoor_4 : decode cX7_readDoor 4 = .ok (.iconst 4, 1) := by decide +kernel
theorem dX7_readDoor_5 : decode cX7_readDoor 5 = .ok (.iaload, 1) := by decide +kernel
theorem dX7_readDoor_6 : decode cX7_readDoor 6 = .ok (.istore_n 1, 1) := by decide +kernel
theorem dX7_readDoor_7 : decode cX7_readDoor 7 = .ok (.iload_n 1, 1) := by decide +kernel
theorem dX7_readDoor_8 : decode cX7_readDoor 8 = .ok (.bipush 8, 2) := by decide +kernel
theorem dX7_readDoor_10 : decode cX7_readDoor 10 = .ok (.if_icmp .eq 12, 3) := by decide +kernel
theorem dX7_readDoor_13 : decode cX7_readDoor 13 = .ok (.aload_n 0, 1) := by decide +kernel
theorem dX7_readDoor_14 : decode cX7_readDoor 14 = .ok (.getfield 28, 3) := by decide +kernel
theorem dX7_readDoor_17 : decode cX7_readDoor 17 = .ok (.iconst 5, 1) := by decide +kernel
theorem dX7_readDoor_18 : decode cX7_readDoor 18 = .ok (.iaload, 1) := by decide +kernel
theorem dX7_readDoor_19 : decode cX7_readDoor 19 = .ok (.ifCond .le 22, 3) := by decide +kernel
theorem dX7_readDoor_22 : decode cX7_readDoor 22 = .ok (.aload_n 0, 1) := by decide +kernel
theorem dX7_readDoor_23 : decode cX7_readDoor 23 = .ok (.aload_n 0, 1) := by decide +kernel
theorem dX7_readDoor_24 : decode cX7_readDoor 24 = .ok (.getfield 28, 3) := by decide +kernel
theorem dX7_readDoor_27 : decode cX7_readDoor 27 = .ok (.iconst 5, 1) := by decide +kernel
theorem dX7_readDoor_28 : decode cX7_readDoor 28 = .ok (.iaload, 1) := by decide +kernel
theorem dX7_readDoor_29 : decode cX7_readDoor 29 = .ok (.ifCond .le 7, 3) := by decide +kernel
theorem dX7_readDoor_32 : decode cX7_readDoor 32 = .ok (.iconst 1, 1) := by decide +kernel
theorem dX7_readDoor_33 : decode cX7_readDoor 33 = .ok (.goto 4, 3) := by decide +kernel
theorem dX7_readDoor_36 : decode cX7_readDoor 36 = .ok (.iconst 3, 1) := by decide +kernel
theorem dX7_readDoor_37 : decode cX7_readDoor 37 = .ok (.invokevirtual 108, 3) := by decide +kernel
theorem dX7_readDoor_40 : decode cX7_readDoor 40 = .ok (.ireturn, 1) := by decide +kernel
theorem dX7_readDoor_41 : decode cX7_readDoor 41 = .ok (.aload_n 0, 1) := by decide +kernel
theorem dX7_readDoor_42 : decode cX7_readDoor 42 = .ok (.invokevirtual 111, 3) := by decide +kernel
theorem dX7_readDoor_45 : decode cX7_readDoor 45 = .ok (.aload_n 0, 1) := by decide +kernel
theorem dX7_readDoor_46 : decode cX7_readDoor 46 = .ok (.iconst 0, 1) := by decide +kernel
theorem dX7_readDoor_47 : decode cX7_readDoor 47 = .ok (.aload_n 0, 1) := by decide +kernel
theorem dX7_readDoor_48 : decode cX7_readDoor 48 = .ok (.getfield 28, 3) := by decide +kernel
theorem dX7_readDoor_51 : decode cX7_readDoor 51 = .ok (.iconst 0, 1) := by decide +kernel
theorem dX7_readDoor_52 : decode cX7_readDoor 52 = .ok (.iaload, 1) := by decide +kernel
theorem dX7_readDoor_53 : decode cX7_readDoor 53 = .ok (.iconst 1, 1) := by decide +kernel
theorem dX7_readDoor_54 : decode cX7_readDoor 54 = .ok (.isub, 1) := by decide +kernel
theorem dX7_readDoor_55 : decode cX7_readDoor 55 = .ok (.bipush 13, 2) := by decide +kernel
theorem dX7_readDoor_57 : decode cX7_readDoor 57 = .ok (.iload_n 1, 1) := by decide +kernel
theorem dX7_readDoor_58 : decode cX7_readDoor 58 = .ok (.iadd, 1) := by decide +kernel
theorem dX7_readDoor_59 : decode cX7_readDoor 59 = .ok (.bipush 44, 2) := by decide +kernel
theorem dX7_readDoor_61 : decode cX7_readDoor 61 = .ok (.invokevirtual 117, 3) := by decide +kernel
theorem dX7_readDoor_64 : decode cX7_readDoor 64 = .ok (.ifCond .ne 5, 3) := by decide +kernel
theorem dX7_readDoor_67 : decode cX7_readDoor 67 = .ok (.iconst 0, 1) := by decide +kernel
theorem dX7_readDoor_68 : decode cX7_readDoor 68 = .ok (.ireturn, 1) := by decide +kernel
theorem dX7_readDoor_69 : decode cX7_readDoor 69 = .ok (.aload_n 0, 1) := by decide +kernel
theorem dX7_readDoor_70 : decode cX7_readDoor 70 = .ok (.getfield 88, 3) := by decide +kernel
theorem dX7_readDoor_73 : decode cX7_readDoor 73 = .ok (.iconst 2, 1) := by decide +kernel
theorem dX7_readDoor_74 : decode cX7_readDoor 74 = .ok (.if_icmp .ne 25, 3) := by decide +kernel
theorem dX7_readDoor_77 : decode cX7_readDoor 77 = .ok (.aload_n 0, 1) := by decide +kernel
theorem dX7_readDoor_78 : decode cX7_readDoor 78 = .ok (.getfield 91, 3) := by decide +kernel
theorem dX7_readDoor_81 : decode cX7_readDoor 81 = .ok (.aload_n 0, 1) := by decide +kernel
theorem dX7_readDoor_82 : decode cX7_readDoor 82 = .ok (.getfield 28, 3) := by decide +kernel
theorem dX7_readDoor_85 : decode cX7_readDoor 85 = .ok (.bipush 13, 2) := by decide +kernel
theorem dX7_readDoor_87 : decode cX7_readDoor 87 = .ok (.iload_n 1, 1) := by decide +kernel
theorem dX7_readDoor_88 : decode cX7_readDoor 88 = .ok (.iadd, 1) := by decide +kernel
theorem dX7_readDoor_89 : decode cX7_readDoor 89 = .ok (.iaload, 1) := by decide +kernel
theorem dX7_readDoor_90 : decode cX7_readDoor 90 = .ok (.if_icmp .ne 9, 3) := by decide +kernel
theorem dX7_readDoor_93 : decode cX7_readDoor 93 = .ok (.aload_n 0, 1) := by decide +kernel
theorem dX7_readDoor_94 : decode cX7_readDoor 94 = .ok (.iconst 2, 1) := by decide +kernel
theorem dX7_readDoor_95 : decode cX7_readDoor 95 = .ok (.invokevirtual 108, 3) := by decide +kernel
theorem dX7_readDoor_98 : decode cX7_readDoor 98 = .ok (.ireturn, 1) := by decide +kernel
theorem dX7_readDoor_99 : decode cX7_readDoor 99 = .ok (.aload_n 0, 1) := by decide +kernel
theorem dX7_readDoor_100 : decode cX7_readDoor 100 = .ok (.getfield 28, 3) := by decide +kernel
theorem dX7_readDoor_103 : decode cX7_readDoor 103 = .ok (.iconst 4, 1) := by decide +kernel
theorem dX7_readDoor_104 : decode cX7_readDoor 104 = .ok (.dup2, 1) := by decide +kernel
theorem dX7_readDoor_105 : decode cX7_readDoor 105 = .ok (.iaload, 1) := by decide +kernel
theorem dX7_readDoor_106 : decode cX7_readDoor 106 = .ok (.iconst 1, 1) := by decide +kernel
theorem dX7_readDoor_107 : decode cX7_readDoor 107 = .ok (.iadd, 1) := by decide +kernel
theorem dX7_readDoor_108 : decode cX7_readDoor 108 = .ok (.iastore, 1) := by decide +kernel
theorem dX7_readDoor_109 : decode cX7_readDoor 109 = .ok (.aload_n 0, 1) := by decide +kernel
theorem dX7_readDoor_110 : decode cX7_readDoor 110 = .ok (.iconst 0, 1) := by decide +kernel
theorem dX7_readDoor_111 : decode cX7_readDoor 111 = .ok (.aload_n 0, 1) := by decide +kernel
theorem dX7_readDoor_112 : decode cX7_readDoor 112 = .ok (.getfield 28, 3) := by decide +kernel
theorem dX7_readDoor_115 : decode cX7_readDoor 115 = .ok (.iconst 0, 1) := by decide +kernel
theorem dX7_readDoor_116 : decode cX7_readDoor 116 = .ok (.iaload, 1) := by decide +kernel
theorem dX7_readDoor_117 : decode cX7_readDoor 117 = .ok (.iconst 1, 1) := by decide +kernel
theorem dX7_readDoor_118 : decode cX7_readDoor 118 = .ok (.isub, 1) := by decide +kernel
theorem dX7_readDoor_119 : decode cX7_readDoor 119 = .ok (.bipush 21, 2) := by decide +kernel
theorem dX7_readDoor_121 : decode cX7_readDoor 121 = .ok (.iload_n 1, 1) := by decide +kernel
theorem dX7_readDoor_122 : decode cX7_readDoor 122 = .ok (.iadd, 1) := by decide +kernel
theorem dX7_readDoor_123 : decode cX7_readDoor 123 = .ok (.bipush 44, 2) := by decide +kernel
theorem dX7_readDoor_125 : decode cX7_readDoor 125 = .ok (.invokevirtual 117, 3) := by decide +kernel
theorem dX7_readDoor_128 : decode cX7_readDoor 128 = .ok (.ifCond .eq 22, 3) := by decide +kernel
theorem dX7_readDoor_131 : decode cX7_readDoor 131 = .ok (.aload_n 0, 1) := by decide +kernel
theorem dX7_readDoor_132 : decode cX7_readDoor 132 = .ok (.iconst 0, 1) := by decide +kernel
theorem dX7_readDoor_133 : decode cX7_readDoor 133 = .ok (.iconst 1, 1) := by decide +kernel
theorem dX7_readDoor_134 : decode cX7_readDoor 134 = .ok (.bipush 29, 2) := by decide +kernel
theorem dX7_readDoor_136 : decode cX7_readDoor 136 = .ok (.iload_n 1, 1) := by decide +kernel
theorem dX7_readDoor_137 : decode cX7_readDoor 137 = .ok (.iadd, 1) := by decide +kernel
theorem dX7_readDoor_138 : decode cX7_readDoor 138 = .ok (.bipush 59, 2) := by decide +kernel
theorem dX7_readDoor_140 : decode cX7_readDoor 140 = .ok (.invokevirtual 117, 3) := by decide +kernel
theorem dX7_readDoor_143 : decode cX7_readDoor 143 = .ok (.ifCond .eq 7, 3) := by decide +kernel
theorem dX7_readDoor_146 : decode cX7_readDoor 146 = .ok (.iconst 1, 1) := by decide +kernel
theorem dX7_readDoor_147 : decode cX7_readDoor 147 = .ok (.goto 4, 3) := by decide +kernel
theorem dX7_readDoor_150 : decode cX7_readDoor 150 = .ok (.iconst 0, 1) := by decide +kernel
theorem dX7_readDoor_151 : decode cX7_readDoor 151 = .ok (.ireturn, 1) := by decide +kernel
theorem dX7_readSitter_0 : decode cX7_readSitter 0 = .ok (.aload_n 0, 1) := by decide +kernel
theorem dX7_readSitter_1 : decode cX7_readSitter 1 = .ok (.getfield 28, 3) := by decide +kernel
theorem dX7_readSitter_4 : decode cX7_readSitter 4 = .ok (.iconst 5, 1) := by decide +kernel
theorem dX7_readSitter_5 : decode cX7_readSitter 5 = .ok (.iaload, 1) := by decide +kernel
theorem dX7_readSitter_6 : decode cX7_readSitter 6 = .ok (.istore_n 2, 1) := by decide +kernel
theorem dX7_readSitter_7 : decode cX7_readSitter 7 = .ok (.iload_n 2, 1) := by decide +kernel
theorem dX7_readSitter_8 : decode cX7_readSitter 8 = .ok (.iconst 5, 1) := by decide +kernel
theorem dX7_readSitter_9 : decode cX7_readSitter 9 = .ok (.if_icmp .ne 9, 3) := by decide +kernel
theorem dX7_readSitter_12 : decode cX7_readSitter 12 = .ok (.aload_n 0, 1) := by decide +kernel
theorem dX7_readSitter_13 : decode cX7_readSitter 13 = .ok (.iconst 3, 1) := by decide +kernel
theorem dX7_readSitter_14 : decode cX7_readSitter 14 = .ok (.invokevirtual 108, 3) := by decide +kernel
theorem dX7_readSitter_17 : decode cX7_readSitter 17 = .ok (.ireturn, 1) := by decide +kernel
theorem dX7_readSitter_18 : decode cX7_readSitter 18 = .ok (.aload_n 0, 1) := by decide +kernel
theorem dX7_readSitter_19 : decode cX7_readSitter 19 = .ok (.invokevirtual 111, 3) := by decide +kernel
theorem dX7_readSitter_22 : decode cX7_readSitter 22 = .ok (.aload_n 0, 1) := by decide +kernel
theorem dX7_readSitter_23 : decode cX7_readSitter 23 = .ok (.getfield 28, 3) := by decide +kernel
theorem dX7_readSitter_26 : decode cX7_readSitter 26 = .ok (.bipush 37, 2) := by decide +kernel
theorem dX7_readSitter_28 : decode cX7_readSitter 28 = .ok (.iload_n 2, 1) := by decide +kernel
theorem dX7_readSitter_29 : decode cX7_readSitter 29 = .ok (.iadd, 1) := by decide +kernel
theorem dX7_readSitter_30 : decode cX7_readSitter 30 = .ok (.iload_n 1, 1) := by decide +kernel
theorem dX7_readSitter_31 : decode cX7_readSitter 31 = .ok (.iastore, 1) := by decide +kernel
theorem dX7_readSitter_32 : decode cX7_readSitter 32 = .ok (.aload_n 0, 1) := by decide +kernel
theorem dX7_readSitter_33 : decode cX7_readSitter 33 = .ok (.getfield 28, 3) := by decide +kernel
theorem dX7_readSitter_36 : decode cX7_readSitter 36 = .ok (.iconst 5, 1) := by decide +kernel
theorem dX7_readSitter_37 : decode cX7_readSitter 37 = .ok (.dup2, 1) := by decide +kernel
theorem dX7_readSitter_38 : decode cX7_readSitter 38 = .ok (.iaload, 1) := by decide +kernel
theorem dX7_readSitter_39 : decode cX7_readSitter 39 = .ok (.iconst 1, 1) := by decide +kernel
theorem dX7_readSitter_40 : decode cX7_readSitter 40 = .ok (.iadd, 1) := by decide +kernel
theorem dX7_readSitter_41 : decode cX7_readSitter 41 = .ok (.iastore, 1) := by decide +kernel
theorem dX7_readSitter_42 : decode cX7_readSitter 42 = .ok (.aload_n 0, 1) := by decide +kernel
theorem dX7_readSitter_43 : decode cX7_readSitter 43 = .ok (.iconst 0, 1) := by decide +kernel
theorem dX7_readSitter_44 : decode cX7_readSitter 44 = .ok (.aload_n 0, 1) := by decide +kernel
theorem dX7_readSitter_45 : decode cX7_readSitter 45 = .ok (.getfield 28, 3) := by decide +kernel
theorem dX7_readSitter_48 : decode cX7_readSitter 48 = .ok (.iconst 0, 1) := by decide +kernel
theorem dX7_readSitter_49 : decode cX7_readSitter 49 = .ok (.iaload, 1) := by decide +kernel
theorem dX7_readSitter_50 : decode cX7_readSitter 50 = .ok (.iconst 1, 1) := by decide +kernel
theorem dX7_readSitter_51 : decode cX7_readSitter 51 = .ok (.isub, 1) := by decide +kernel
theorem dX7_readSitter_52 : decode cX7_readSitter 52 = .ok (.bipush 42, 2) := by decide +kernel
theorem dX7_readSitter_54 : decode cX7_readSitter 54 = .ok (.iload_n 2, 1) := by decide +kernel
theorem dX7_readSitter_55 : decode cX7_readSitter 55 = .ok (.iadd, 1) := by decide +kernel
theorem dX7_readSitter_56 : decode cX7_readSitter 56 = .ok (.bipush 44, 2) := by decide +kernel
theorem dX7_readSitter_58 : decode cX7_readSitter 58 = .ok (.invokevirtual 117, 3) := by decide +kernel
theorem dX7_readSitter_61 : decode cX7_readSitter 61 = .ok (.ifCond .eq 23, 3) := by decide +kernel
theorem dX7_readSitter_64 : decode cX7_readSitter 64 = .ok (.aload_n 0, 1) := by decide +kernel
theorem dX7_readSitter_65 : decode cX7_readSitter 65 = .ok (.iconst 0, 1) := by decide +kernel
theorem dX7_readSitter_66 : decode cX7_readSitter 66 = .ok (.bipush 20, 2) := by decide +kernel
theorem dX7_readSitter_68 : decode cX7_readSitter 68 = .ok (.bipush 47, 2) := by decide +kernel
theorem dX7_readSitter_70 : decode cX7_readSitter 70 = .ok (.iload_n 2, 1) := by decide +kernel
theorem dX7_readSitter_71 : decode cX7_readSitter 71 = .ok (.iadd, 1) := by decide +kernel
theorem dX7_readSitter_72 : decode cX7_readSitter 72 = .ok (.bipush 59, 2) := by decide +kernel
theorem dX7_readSitter_74 : decode cX7_readSitter 74 = .ok (.invokevirtual 117, 3) := by decide +kernel
theorem dX7_readSitter_77 : decode cX7_readSitter 77 = .ok (.ifCond .eq 7, 3) := by decide +kernel
theorem dX7_readSitter_80 : decode cX7_readSitter 80 = .ok (.iconst 1, 1) := by decide +kernel
theorem dX7_readSitter_81 : decode cX7_readSitter 81 = .ok (.goto 4, 3) := by decide +kernel
theorem dX7_readSitter_84 : decode cX7_readSitter 84 = .ok (.iconst 0, 1) := by decide +kernel
theorem dX7_readSitter_85 : decode cX7_readSitter 85 = .ok (.ireturn, 1) := by decide +kernel
theorem dX7_readHouse_0 : decode cX7_readHouse 0 = .ok (.aload_n 0, 1) := by decide +kernel
theorem dX7_readHouse_1 : decode cX7_readHouse 1 = .ok (.iconst 0, 1) := by decide +kernel
theorem dX7_readHouse_2 : decode cX7_readHouse 2 = .ok (.putfield 82, 3) := by decide +kernel
theorem dX7_readHouse_5 : decode cX7_readHouse 5 = .ok (.iconst 0, 1) := by decide +kernel
theorem dX7_readHouse_6 : decode cX7_readHouse 6 = .ok (.istore_n 1, 1) := by decide +kernel
theorem dX7_readHouse_7 : decode cX7_readHouse 7 = .ok (.iload_n 1, 1) := by decide +kernel
theorem dX7_readHouse_8 : decode cX7_readHouse 8 = .ok (.bipush 52, 2) := by decide +kernel
theorem dX7_readHouse_10 : decode cX7_readHouse 10 = .ok (.if_icmp .ge 16, 3) := by decide +kernel
theorem dX7_readHouse_13 : decode cX7_readHouse 13 = .ok (.aload_n 0, 1) := by decide +kernel
theorem dX7_readHouse_14 : decode cX7_readHouse 14 = .ok (.getfield 28, 3) := by decide +kernel
theorem dX7_readHouse_17 : decode cX7_readHouse 17 = .ok (.iload_n 1, 1) := by decide +kernel
theorem dX7_readHouse_18 : decode cX7_readHouse 18 = .ok (.iconst 0, 1) := by decide +kernel
theorem dX7_readHouse_19 : decode cX7_readHouse 19 = .ok (.iastore, 1) := by decide +kernel
theorem dX7_readHouse_20 : decode cX7_readHouse 20 = .ok (.iinc 1 1, 3) := by decide +kernel
theorem dX7_readHouse_23 : decode cX7_readHouse 23 = .ok (.goto (-16), 3) := by decide +kernel
theorem dX7_readHouse_26 : decode cX7_readHouse 26 = .ok (.aload_n 0, 1) := by decide +kernel
theorem dX7_readHouse_27 : decode cX7_readHouse 27 = .ok (.invokevirtual 111, 3) := by decide +kernel
theorem dX7_readHouse_30 : decode cX7_readHouse 30 = .ok (.aload_n 0, 1) := by decide +kernel
theorem dX7_readHouse_31 : decode cX7_readHouse 31 = .ok (.bipush 110, 2) := by decide +kernel
theorem dX7_readHouse_33 : decode cX7_readHouse 33 = .ok (.invokevirtual 114, 3) := by decide +kernel
theorem dX7_readHouse_36 : decode cX7_readHouse 36 = .ok (.ifCond .eq 61, 3) := by decide +kernel
theorem dX7_readHouse_39 : decode cX7_readHouse 39 = .ok (.aload_n 0, 1) := by decide +kernel
theorem dX7_readHouse_40 : decode cX7_readHouse 40 = .ok (.iconst 1, 1) := by decide +kernel
theorem dX7_readHouse_41 : decode cX7_readHouse 41 = .ok (.bipush 6, 2) := by decide +kernel
theorem dX7_readHouse_43 : decode cX7_readHouse 43 = .ok (.iconst 0, 1) := by decide +kernel
theorem dX7_readHouse_44 : decode cX7_readHouse 44 = .ok (.bipush 44, 2) := by decide +kernel
theorem dX7_readHouse_46 : decode cX7_readHouse 46 = .ok (.invokevirtual 117, 3) := by decide +kernel
theorem dX7_readHouse_49 : decode cX7_readHouse 49 = .ok (.ifCond .eq 48, 3) := by decide +kernel
theorem dX7_readHouse_52 : decode cX7_readHouse 52 = .ok (.aload_n 0, 1) := by decide +kernel
theorem dX7_readHouse_53 : decode cX7_readHouse 53 = .ok (.iconst 0, 1) := by decide +kernel
theorem dX7_readHouse_54 : decode cX7_readHouse 54 = .ok (.aload_n 0, 1) := by decide +kernel
theorem dX7_readHouse_55 : decode cX7_readHouse 55 = .ok (.getfield 28, 3) := by decide +kernel
theorem dX7_readHouse_58 : decode cX7_readHouse 58 = .ok (.iconst 0, 1) := by decide +kernel
theorem dX7_readHouse_59 : decode cX7_readHouse 59 = .ok (.iaload, 1) := by decide +kernel
theorem dX7_readHouse_60 : decode cX7_readHouse 60 = .ok (.iconst 1, 1) := by decide +kernel
theorem dX7_readHouse_61 : decode cX7_readHouse 61 = .ok (.isub, 1) := by decide +kernel
theorem dX7_readHouse_62 : decode cX7_readHouse 62 = .ok (.iconst 1, 1) := by decide +kernel
theorem dX7_readHouse_63 : decode cX7_readHouse 63 = .ok (.bipush 44, 2) := by decide +kernel
theorem dX7_readHouse_65 : decode cX7_readHouse 65 = .ok (.invokevirtual 117, 3) := by decide +kernel
theorem dX7_readHouse_68 : decode cX7_readHouse 68 = .ok (.ifCond .eq 29, 3) := by decide +kernel
theorem dX7_readHouse_71 : decode cX7_readHouse 71 = .ok (.aload_n 0, 1) := by decide +kernel
theorem dX7_readHouse_72 : decode cX7_readHouse 72 = .ok (.iconst 0, 1) := by decide +kernel
theorem dX7_readHouse_73 : decode cX7_readHouse 73 = .ok (.bipush 40, 2) := by decide +kernel
theorem dX7_readHouse_75 : decode cX7_readHouse 75 = .ok (.iconst 2, 1) := by decide +kernel
theorem dX7_readHouse_76 : decode cX7_readHouse 76 = .ok (.bipush 44, 2) := by decide +kernel
theorem dX7_readHouse_78 : decode cX7_readHouse 78 = .ok (.invokevirtual 117, 3) := by decide +kernel
theorem dX7_readHouse_81 : decode cX7_readHouse 81 = .ok (.ifCond .eq 16, 3) := by decide +kernel
theorem dX7_readHouse_84 : decode cX7_readHouse 84 = .ok (.aload_n 0, 1) := by decide +kernel
theorem dX7_readHouse_85 : decode cX7_readHouse 85 = .ok (.iconst 0, 1) := by decide +kernel
theorem dX7_readHouse_86 : decode cX7_readHouse 86 = .ok (.bipush 99, 2) := by decide +kernel
theorem dX7_readHouse_88 : decode cX7_readHouse 88 = .ok (.iconst 3, 1) := by decide +kernel
theorem dX7_readHouse_89 : decode cX7_readHouse 89 = .ok (.bipush 59, 2) := by decide +kernel
theorem dX7_readHouse_91 : decode cX7_readHouse 91 = .ok (.invokevirtual 117, 3) := by decide +kernel
theorem dX7_readHouse_94 : decode cX7_readHouse 94 = .ok (.ifCond .ne 5, 3) := by decide +kernel
theorem dX7_readHouse_97 : decode cX7_readHouse 97 = .ok (.iconst 0, 1) := by decide +kernel
theorem dX7_readHouse_98 : decode cX7_readHouse 98 = .ok (.ireturn, 1) := by decide +kernel
theorem dX7_readHouse_99 : decode cX7_readHouse 99 = .ok (.iconst 1, 1) := by decide +kernel
theorem dX7_readHouse_100 : decode cX7_readHouse 100 = .ok (.istore_n 1, 1) := by decide +kernel
theorem dX7_readHouse_101 : decode cX7_readHouse 101 = .ok (.iload_n 1, 1) := by decide +kernel
theorem dX7_readHouse_102 : decode cX7_readHouse 102 = .ok (.ifCond .eq 115, 3) := by decide +kernel
theorem dX7_readHouse_105 : decode cX7_readHouse 105 = .ok (.aload_n 0, 1) := by decide +kernel
theorem dX7_readHouse_106 : decode cX7_readHouse 106 = .ok (.getfield 88, 3) := by decide +kernel
theorem dX7_readHouse_109 : decode cX7_readHouse 109 = .ok (.iconst 3, 1) := by decide +kernel
theorem dX7_readHouse_110 : decode cX7_readHouse 110 = .ok (.if_icmp .eq 107, 3) := by decide +kernel
theorem dX7_readHouse_113 : decode cX7_readHouse 113 = .ok (.aload_n 0, 1) := by decide +kernel
theorem dX7_readHouse_114 : decode cX7_readHouse 114 = .ok (.bipush 114, 2) := by decide +kernel
theorem dX7_readHouse_116 : decode cX7_readHouse 116 = .ok (.invokevirtual 105, 3) := by decide +kernel
theorem dX7_readHouse_119 : decode cX7_readHouse 119 = .ok (.ifCond .eq 7, 3) := by decide +kernel
theorem dX7_readHouse_122 : decode cX7_readHouse 122 = .ok (.iconst 1, 1) := by decide +kernel
theorem dX7_readHouse_123 : decode cX7_readHouse 123 = .ok (.goto 56, 3) := by decide +kernel
theorem dX7_readHouse_126 : decode cX7_readHouse 126 = .ok (.aload_n 0, 1) := by decide +kernel
theorem dX7_readHouse_127 : decode cX7_readHouse 127 = .ok (.bipush 112, 2) := by decide +kernel
theorem dX7_readHouse_129 : decode cX7_readHouse 129 = .ok (.invokevirtual 105, 3) := by decide +kernel
theorem dX7_readHouse_132 : decode cX7_readHouse 132 = .ok (.ifCond .eq 7, 3) := by decide +kernel
theorem dX7_readHouse_135 : decode cX7_readHouse 135 = .ok (.iconst 2, 1) := by decide +kernel
theorem dX7_readHouse_136 : decode cX7_readHouse 136 = .ok (.goto 43, 3) := by decide +kernel
theorem dX7_readHouse_139 : decode cX7_readHouse 139 = .ok (.aload_n 0, 1) := by decide +kernel
theorem dX7_readHouse_140 : decode cX7_readHouse 140 = .ok (.bipush 116, 2) := by decide +kernel
theorem dX7_readHouse_142 : decode cX7_readHouse 142 = .ok (.invokevirtual 105, 3) := by decide +kernel
theorem dX7_readHouse_145 : decode cX7_readHouse 145 = .ok (.ifCond .eq 7, 3) := by decide +kernel
theorem dX7_readHouse_148 : decode cX7_readHouse 148 = .ok (.iconst 3, 1) := by decide +kernel
theorem dX7_readHouse_149 : decode cX7_readHouse 149 = .ok (.goto 30, 3) := by decide +kernel
theorem dX7_readHouse_152 : decode cX7_readHouse 152 = .ok (.aload_n 0, 1) := by decide +kernel
theorem dX7_readHouse_153 : decode cX7_readHouse 153 = .ok (.bipush 102, 2) := by decide +kernel
theorem dX7_readHouse_155 : decode cX7_readHouse 155 = .ok (.invokevirtual 105, 3) := by decide +kernel
theorem dX7_readHouse_158 : decode cX7_readHouse 158 = .ok (.ifCond .eq 7, 3) := by decide +kernel
theorem dX7_readHouse_161 : decode cX7_readHouse 161 = .ok (.iconst 4, 1) := by decide +kernel
theorem dX7_readHouse_162 : decode cX7_readHouse 162 = .ok (.goto 17, 3) := by decide +kernel
theorem dX7_readHouse_165 : decode cX7_readHouse 165 = .ok (.aload_n 0, 1) := by decide +kernel
theorem dX7_readHouse_166 : decode cX7_readHouse 166 = .ok (.bipush 105, 2) := by decide +kernel
theorem dX7_readHouse_168 : decode cX7_readHouse 168 = .ok (.invokevirtual 105, 3) := by decide +kernel
theorem dX7_readHouse_171 : decode cX7_readHouse 171 = .ok (.ifCond .eq 7, 3) := by decide +kernel
theorem dX7_readHouse_174 : decode cX7_readHouse 174 = .ok (.iconst 5, 1) := by decide +kernel
theorem dX7_readHouse_175 : decode cX7_readHouse 175 = .ok (.goto 4, 3) := by decide +kernel
theorem dX7_readHouse_178 : decode cX7_readHouse 178 = .ok (.iconst 0, 1) := by decide +kernel
theorem dX7_readHouse_179 : decode cX7_readHouse 179 = .ok (.istore_n 2, 1) := by decide +kernel
theorem dX7_readHouse_180 : decode cX7_readHouse 180 = .ok (.iload_n 2, 1) := by decide +kernel
theorem dX7_readHouse_181 : decode cX7_readHouse 181 = .ok (.ifCond .le 11, 3) := by decide +kernel
theorem dX7_readHouse_184 : decode cX7_readHouse 184 = .ok (.aload_n 0, 1) := by decide +kernel
theorem dX7_readHouse_185 : decode cX7_readHouse 185 = .ok (.iload_n 2, 1) := by decide +kernel
theorem dX7_readHouse_186 : decode cX7_readHouse 186 = .ok (.invokevirtual 121, 3) := by decide +kernel
theorem dX7_readHouse_189 : decode cX7_readHouse 189 = .ok (.goto 24, 3) := by decide +kernel
theorem dX7_readHouse_192 : decode cX7_readHouse 192 = .ok (.aload_n 0, 1) := by decide +kernel
theorem dX7_readHouse_193 : decode cX7_readHouse 193 = .ok (.bipush 100, 2) := by decide +kernel
theorem dX7_readHouse_195 : decode cX7_readHouse 195 = .ok (.invokevirtual 105, 3) := by decide +kernel
theorem dX7_readHouse_198 : decode cX7_readHouse 198 = .ok (.ifCond .eq 10, 3) := by decide +kernel
theorem dX7_readHouse_201 : decode cX7_readHouse 201 = .ok (.aload_n 0, 1) := by decide +kernel
theorem dX7_readHouse_202 : decode cX7_readHouse 202 = .ok (.invokevirtual 124, 3) := by decide +kernel
theorem dX7_readHouse_205 : decode cX7_readHouse 205 = .ok (.goto 8, 3) := by decide +kernel
theorem dX7_readHouse_208 : decode cX7_readHouse 208 = .ok (.aload_n 0, 1) := by decide +kernel
theorem dX7_readHouse_209 : decode cX7_readHouse 209 = .ok (.iconst 1, 1) := by decide +kernel
theorem dX7_readHouse_210 : decode cX7_readHouse 210 = .ok (.invokevirtual 108, 3) := by decide +kernel
theorem dX7_readHouse_213 : decode cX7_readHouse 213 = .ok (.istore_n 1, 1) := by decide +kernel
theorem dX7_readHouse_214 : decode cX7_readHouse 214 = .ok (.goto (-113), 3) := by decide +kernel
theorem dX7_readHouse_217 : decode cX7_readHouse 217 = .ok (.iload_n 1, 1) := by decide +kernel
theorem dX7_readHouse_218 : decode cX7_readHouse 218 = .ok (.ireturn, 1) := by decide +kernel
theorem dX7_house_0 : decode cX7_house 0 = .ok (.aload_n 0, 1) := by decide +kernel
theorem dX7_house_1 : decode cX7_house 1 = .ok (.invokevirtual 128, 3) := by decide +kernel
theorem dX7_house_4 : decode cX7_house 4 = .ok (.istore_n 1, 1) := by decide +kernel
theorem dX7_house_5 : decode cX7_house 5 = .ok (.aload_n 0, 1) := by decide +kernel
theorem dX7_house_6 : decode cX7_house 6 = .ok (.iconst 0, 1) := by decide +kernel
theorem dX7_house_7 : decode cX7_house 7 = .ok (.putfield 78, 3) := by decide +kernel
theorem dX7_house_10 : decode cX7_house 10 = .ok (.iload_n 1, 1) := by decide +kernel
theorem dX7_house_11 : decode cX7_house 11 = .ok (.ifCond .ne 19, 3) := by decide +kernel
theorem dX7_house_14 : decode cX7_house 14 = .ok (.aload_n 0, 1) := by decide +kernel
theorem dX7_house_15 : decode cX7_house 15 = .ok (.aload_n 0, 1) := by decide +kernel
theorem dX7_house_16 : decode cX7_house 16 = .ok (.getfield 102, 3) := by decide +kernel
theorem dX7_house_19 : decode cX7_house 19 = .ok (.putfield 131, 3) := by decide +kernel
theorem dX7_house_22 : decode cX7_house 22 = .ok (.ldc 134, 2) := by decide +kernel
theorem dX7_house_24 : decode cX7_house 24 = .ok (.aload_n 0, 1) := by decide +kernel
theorem dX7_house_25 : decode cX7_house 25 = .ok (.getfield 85, 3) := by decide +kernel
theorem dX7_house_28 : decode cX7_house 28 = .ok (.isub, 1) := by decide +kernel
theorem dX7_house_29 : decode cX7_house 29 = .ok (.ireturn, 1) := by decide +kernel
theorem dX7_house_30 : decode cX7_house 30 = .ok (.iconst 0, 1) := by decide +kernel
theorem dX7_house_31 : decode cX7_house 31 = .ok (.istore_n 2, 1) := by decide +kernel
theorem dX7_house_32 : decode cX7_house 32 = .ok (.iload_n 2, 1) := by decide +kernel
theorem dX7_house_33 : decode cX7_house 33 = .ok (.bipush 52, 2) := by decide +kernel
theorem dX7_house_35 : decode cX7_house 35 = .ok (.if_icmp .ge 21, 3) := by decide +kernel
theorem dX7_house_38 : decode cX7_house 38 = .ok (.aload_n 0, 1) := by decide +kernel
theorem dX7_house_39 : decode cX7_house 39 = .ok (.getfield 19, 3) := by decide +kernel
theorem dX7_house_42 : decode cX7_house 42 = .ok (.iload_n 2, 1) := by decide +kernel
theorem dX7_house_43 : decode cX7_house 43 = .ok (.aload_n 0, 1) := by decide +kernel
theorem dX7_house_44 : decode cX7_house 44 = .ok (.getfield 28, 3) := by decide +kernel
theorem dX7_house_47 : decode cX7_house 47 = .ok (.iload_n 2, 1) := by decide +kernel
theorem dX7_house_48 : decode cX7_house 48 = .ok (.iaload, 1) := by decide +kernel
theorem dX7_house_49 : decode cX7_house 49 = .ok (.iastore, 1) := by decide +kernel
theorem dX7_house_50 : decode cX7_house 50 = .ok (.iinc 2 1, 3) := by decide +kernel
theorem dX7_house_53 : decode cX7_house 53 = .ok (.goto (-21), 3) := by decide +kernel
theorem dX7_house_56 : decode cX7_house 56 = .ok (.aload_n 0, 1) := by decide +kernel
theorem dX7_house_57 : decode cX7_house 57 = .ok (.iconst 1, 1) := by decide +kernel
theorem dX7_house_58 : decode cX7_house 58 = .ok (.putfield 135, 3) := by decide +kernel
theorem dX7_house_61 : decode cX7_house 61 = .ok (.aload_n 0, 1) := by decide +kernel
theorem dX7_house_62 : decode cX7_house 62 = .ok (.iconst 0, 1) := by decide +kernel
theorem dX7_house_63 : decode cX7_house 63 = .ok (.putfield 139, 3) := by decide +kernel
theorem dX7_house_66 : decode cX7_house 66 = .ok (.aload_n 0, 1) := by decide +kernel
theorem dX7_house_67 : decode cX7_house 67 = .ok (.getfield 19, 3) := by decide +kernel
theorem dX7_house_70 : decode cX7_house 70 = .ok (.iconst 5, 1) := by decide +kernel
theorem dX7_house_71 : decode cX7_house 71 = .ok (.iaload, 1) := by decide +kernel
theorem dX7_house_72 : decode cX7_house 72 = .ok (.ireturn, 1) := by decide +kernel
theorem dX7_fault_0 : decode cX7_fault 0 = .ok (.aload_n 0, 1) := by decide +kernel
theorem dX7_fault_1 : decode cX7_fault 1 = .ok (.getfield 131, 3) := by decide +kernel
theorem dX7_fault_4 : decode cX7_fault 4 = .ok (.ireturn, 1) := by decide +kernel
theorem dX7_note_0 : decode cX7_note 0 = .ok (.aload_n 0, 1) := by decide +kernel
theorem dX7_note_1 : decode cX7_note 1 = .ok (.getfield 139, 3) := by decide +kernel
theorem dX7_note_4 : decode cX7_note 4 = .ok (.bipush 24, 2) := by decide +kernel
theorem dX7_note_6 : decode cX7_note 6 = .ok (.if_icmp .ne 43, 3) := by decide +kernel
theorem dX7_note_9 : decode cX7_note 9 = .ok (.iconst 0, 1) := by decide +kernel
theorem dX7_note_10 : decode cX7_note 10 = .ok (.istore_n 1, 1) := by decide +kernel
theorem dX7_note_11 : decode cX7_note 11 = .ok (.iload_n 1, 1) := by decide +kernel
theorem dX7_note_12 : decode cX7_note 12 = .ok (.sipush 1196, 3) := by decide +kernel
theorem dX7_note_15 : decode cX7_note 15 = .ok (.if_icmp .ge 24, 3) := by decide +kernel
theorem dX7_note_18 : decode cX7_note 18 = .ok (.aload_n 0, 1) := by decide +kernel
theorem dX7_note_19 : decode cX7_note 19 = .ok (.getfield 31, 3) := by decide +kernel
theorem dX7_note_22 : decode cX7_note 22 = .ok (.iload_n 1, 1) := by decide +kernel
theorem dX7_note_23 : decode cX7_note 23 = .ok (.aload_n 0, 1) := by decide +kernel
theorem dX7_note_24 : decode cX7_note 24 = .ok (.getfield 31, 3) := by decide +kernel
theorem dX7_note_27 : decode cX7_note 27 = .ok (.iload_n 1, 1) := by decide +kernel
theorem dX7_note_28 : decode cX7_note 28 = .ok (.bipush 52, 2) := by decide +kernel
theorem dX7_note_30 : decode cX7_note 30 = .ok (.iadd, 1) := by decide +kernel
theorem dX7_note_31 : decode cX7_note 31 = .ok (.iaload, 1) := by decide +kernel
theorem dX7_note_32 : decode cX7_note 32 = .ok (.iastore, 1) := by decide +kernel
theorem dX7_note_33 : decode cX7_note 33 = .ok (.iinc 1 1, 3) := by decide +kernel
theorem dX7_note_36 : decode cX7_note 36 = .ok (.goto (-25), 3) := by decide +kernel
theorem dX7_note_39 : decode cX7_note 39 = .ok (.aload_n 0, 1) := by decide +kernel
theorem dX7_note_40 : decode cX7_note 40 = .ok (.dup, 1) := by decide +kernel
theorem dX7_note_41 : decode cX7_note 41 = .ok (.getfield 139, 3) := by decide +kernel
theorem dX7_note_44 : decode cX7_note 44 = .ok (.iconst 1, 1) := by decide +kernel
theorem dX7_note_45 : decode cX7_note 45 = .ok (.isub, 1) := by decide +kernel
theorem dX7_note_46 : decode cX7_note 46 = .ok (.putfield 139, 3) := by decide +kernel
theorem dX7_note_49 : decode cX7_note 49 = .ok (.iconst 0, 1) := by decide +kernel
theorem dX7_note_50 : decode cX7_note 50 = .ok (.istore_n 1, 1) := by decide +kernel
theorem dX7_note_51 : decode cX7_note 51 = .ok (.iload_n 1, 1) := by decide +kernel
theorem dX7_note_52 : decode cX7_note 52 = .ok (.bipush 52, 2) := by decide +kernel
theorem dX7_note_54 : decode cX7_note 54 = .ok (.if_icmp .ge 29, 3) := by decide +kernel
theorem dX7_note_57 : decode cX7_note 57 = .ok (.aload_n 0, 1) := by decide +kernel
theorem dX7_note_58 : decode cX7_note 58 = .ok (.getfield 31, 3) := by decide +kernel
theorem dX7_note_61 : decode cX7_note 61 = .ok (.bipush 52, 2) := by decide +kernel
theorem dX7_note_63 : decode cX7_note 63 = .ok (.aload_n 0, 1) := by decide +kernel
theorem dX7_note_64 : decode cX7_note 64 = .ok (.getfield 139, 3) := by decide +kernel
theorem dX7_note_67 : decode cX7_note 67 = .ok (.imul, 1) := by decide +kernel
theorem dX7_note_68 : decode cX7_note 68 = .ok (.iload_n 1, 1) := by decide +kernel
theorem dX7_note_69 : decode cX7_note 69 = .ok (.iadd, 1) := by decide +kernel
theorem dX7_note_70 : decode cX7_note 70 = .ok (.aload_n 0, 1) := by decide +kernel
theorem dX7_note_71 : decode cX7_note 71 = .ok (.getfield 19, 3) := by decide +kernel
theorem dX7_note_74 : decode cX7_note 74 = .ok (.iload_n 1, 1) := by decide +kernel
theorem dX7_note_75 : decode cX7_note 75 = .ok (.iaload, 1) := by decide +kernel
theorem dX7_note_76 : decode cX7_note 76 = .ok (.iastore, 1) := by decide +kernel
theorem dX7_note_77 : decode cX7_note 77 = .ok (.iinc 1 1, 3) := by decide +kernel
theorem dX7_note_80 : decode cX7_note 80 = .ok (.goto (-29), 3) := by decide +kernel
theorem dX7_note_83 : decode cX7_note 83 = .ok (.aload_n 0, 1) := by decide +kernel
theorem dX7_note_84 : decode cX7_note 84 = .ok (.dup, 1) := by decide +kernel
theorem dX7_note_85 : decode cX7_note 85 = .ok (.getfield 139, 3) := by decide +kernel
theorem dX7_note_88 : decode cX7_note 88 = .ok (.iconst 1, 1) := by decide +kernel
theorem dX7_note_89 : decode cX7_note 89 = .ok (.iadd, 1) := by decide +kernel
theorem dX7_note_90 : decode cX7_note 90 = .ok (.putfield 139, 3) := by decide +kernel
theorem dX7_note_93 : decode cX7_note 93 = .ok (.return_, 1) := by decide +kernel
theorem dX7_undo_0 : decode cX7_undo 0 = .ok (.aload_n 0, 1) := by decide +kernel
theorem dX7_undo_1 : decode cX7_undo 1 = .ok (.getfield 139, 3) := by decide +kernel
theorem dX7_undo_4 : decode cX7_undo 4 = .ok (.ifCond .ne 6, 3) := by decide +kernel
theorem dX7_undo_7 : decode cX7_undo 7 = .ok (.ldc 142, 2) := by decide +kernel
theorem dX7_undo_9 : decode cX7_undo 9 = .ok (.ireturn, 1) := by decide +kernel
theorem dX7_undo_10 : decode cX7_undo 10 = .ok (.aload_n 0, 1) := by decide +kernel
theorem dX7_undo_11 : decode cX7_undo 11 = .ok (.dup, 1) := by decide +kernel
theorem dX7_undo_12 : decode cX7_undo 12 = .ok (.getfield 139, 3) := by decide +kernel
theorem dX7_undo_15 : decode cX7_undo 15 = .ok (.iconst 1, 1) := by decide +kernel
theorem dX7_undo_16 : decode cX7_undo 16 = .ok (.isub, 1) := by decide +kernel
theorem dX7_undo_17 : decode cX7_undo 17 = .ok (.putfield 139, 3) := by decide +kernel
theorem dX7_undo_20 : decode cX7_undo 20 = .ok (.iconst 0, 1) := by decide +kernel
theorem dX7_undo_21 : decode cX7_undo 21 = .ok (.istore_n 1, 1) := by decide +kernel
theorem dX7_undo_22 : decode cX7_undo 22 = .ok (.iload_n 1, 1) := by decide +kernel
theorem dX7_undo_23 : decode cX7_undo 23 = .ok (.bipush 52, 2) := by decide +kernel
theorem dX7_undo_25 : decode cX7_undo 25 = .ok (.if_icmp .ge 29, 3) := by decide +kernel
theorem dX7_undo_28 : decode cX7_undo 28 = .ok (.aload_n 0, 1) := by decide +kernel
theorem dX7_undo_29 : decode cX7_undo 29 = .ok (.getfield 19, 3) := by decide +kernel
theorem dX7_undo_32 : decode cX7_undo 32 = .ok (.iload_n 1, 1) := by decide +kernel
theorem dX7_undo_33 : decode cX7_undo 33 = .ok (.aload_n 0, 1) := by decide +kernel
theorem dX7_undo_34 : decode cX7_undo 34 = .ok (.getfield 31, 3) := by decide +kernel
theorem dX7_undo_37 : decode cX7_undo 37 = .ok (.bipush 52, 2) := by decide +kernel
theorem dX7_undo_39 : decode cX7_undo 39 = .ok (.aload_n 0, 1) := by decide +kernel
theorem dX7_undo_40 : decode cX7_undo 40 = .ok (.getfield 139, 3) := by decide +kernel
theorem dX7_undo_43 : decode cX7_undo 43 = .ok (.imul, 1) := by decide +kernel
theorem dX7_undo_44 : decode cX7_undo 44 = .ok (.iload_n 1, 1) := by decide +kernel
theorem dX7_undo_45 : decode cX7_undo 45 = .ok (.iadd, 1) := by decide +kernel
theorem dX7_undo_46 : decode cX7_undo 46 = .ok (.iaload, 1) := by decide +kernel
theorem dX7_undo_47 : decode cX7_undo 47 = .ok (.iastore, 1) := by decide +kernel
theorem dX7_undo_48 : decode cX7_undo 48 = .ok (.iinc 1 1, 3) := by decide +kernel
theorem dX7_undo_51 : decode cX7_undo 51 = .ok (.goto (-29), 3) := by decide +kernel
theorem dX7_undo_54 : decode cX7_undo 54 = .ok (.aload_n 0, 1) := by decide +kernel
theorem dX7_undo_55 : decode cX7_undo 55 = .ok (.getfield 139, 3) := by decide +kernel
theorem dX7_undo_58 : decode cX7_undo 58 = .ok (.ireturn, 1) := by decide +kernel
theorem dX7_bound_0 : decode cX7_bound 0 = .ok (.iload_n 0, 1) := by decide +kernel
theorem dX7_bound_1 : decode cX7_bound 1 = .ok (.ifCond .ge 7, 3) := by decide +kernel
theorem dX7_bound_4 : decode cX7_bound 4 = .ok (.iconst 0, 1) := by decide +kernel
theorem dX7_bound_5 : decode cX7_bound 5 = .ok (.goto 17, 3) := by decide +kernel
theorem dX7_bound_8 : decode cX7_bound 8 = .ok (.iload_n 0, 1) := by decide +kernel
theorem dX7_bound_9 : decode cX7_bound 9 = .ok (.sipush 999, 3) := by decide +kernel
theorem dX7_bound_12 : decode cX7_bound 12 = .ok (.if_icmp .le 9, 3) := by decide +kernel
theorem dX7_bound_15 : decode cX7_bound 15 = .ok (.sipush 999, 3) := by decide +kernel
theorem dX7_bound_18 : decode cX7_bound 18 = .ok (.goto 4, 3) := by decide +kernel
theorem dX7_bound_21 : decode cX7_bound 21 = .ok (.iload_n 0, 1) := by decide +kernel
theorem dX7_bound_22 : decode cX7_bound 22 = .ok (.ireturn, 1) := by decide +kernel
theorem dX7_isKept_0 : decode cX7_isKept 0 = .ok (.iconst 0, 1) := by decide +kernel
theorem dX7_isKept_1 : decode cX7_isKept 1 = .ok (.istore_n 3, 1) := by decide +kernel
theorem dX7_isKept_2 : decode cX7_isKept 2 = .ok (.iconst 0, 1) := by decide +kernel
theorem dX7_isKept_3 : decode cX7_isKept 3 = .ok (.istore 4, 2) := by decide +kernel
theorem dX7_isKept_5 : decode cX7_isKept 5 = .ok (.iload 4, 2) := by decide +kernel
theorem dX7_isKept_7 : decode cX7_isKept 7 = .ok (.aload_n 0, 1) := by decide +kernel
theorem dX7_isKept_8 : decode cX7_isKept 8 = .ok (.getfield 19, 3) := by decide +kernel
theorem dX7_isKept_11 : decode cX7_isKept 11 = .ok (.iconst 5, 1) := by decide +kernel
theorem dX7_isKept_12 : decode cX7_isKept 12 = .ok (.iaload, 1) := by decide +kernel
theorem dX7_isKept_13 : decode cX7_isKept 13 = .ok (.if_icmp .ge 61, 3) := by decide +kernel
theorem dX7_isKept_16 : decode cX7_isKept 16 = .ok (.aload_n 0, 1) := by decide +kernel
theorem dX7_isKept_17 : decode cX7_isKept 17 = .ok (.getfield 19, 3) := by decide +kernel
theorem dX7_isKept_20 : decode cX7_isKept 20 = .ok (.bipush 37, 2) := by decide +kernel
theorem dX7_isKept_22 : decode cX7_isKept 22 = .ok (.iload 4, 2) := by decide +kernel
theorem dX7_isKept_24 : decode cX7_isKept 24 = .ok (.iadd, 1) := by decide +kernel
theorem dX7_isKept_25 : decode cX7_isKept 25 = .ok (.iaload, 1) := by decide +kernel
theorem dX7_isKept_26 : decode cX7_isKept 26 = .ok (.istore 5, 2) := by decide +kernel
theorem dX7_isKept_28 : decode cX7_isKept 28 = .ok (.iload_n 3, 1) := by decide +kernel
theorem dX7_isKept_29 : decode cX7_isKept 29 = .ok (.ifCond .ne 33, 3) := by decide +kernel
theorem dX7_isKept_32 : decode cX7_isKept 32 = .ok (.aload_n 0, 1) := by decide +kernel
theorem dX7_isKept_33 : decode cX7_isKept 33 = .ok (.getfield 19, 3) := by decide +kernel
theorem dX7_isKept_36 : decode cX7_isKept 36 = .ok (.bipush 42, 2) := by decide +kernel
theorem dX7_isKept_38 : decode cX7_isKept 38 = .ok (.iload 4, 2) := by decide +kernel
theorem dX7_isKept_40 : decode cX7_isKept 40 = .ok (.iadd, 1) := by decide +kernel
theorem dX7_isKept_41 : decode cX7_isKept 41 = .ok (.iaload, 1) := by decide +kernel
theorem dX7_isKept_42 : decode cX7_isKept 42 = .ok (.iload_n 1, 1) := by decide +kernel
theorem dX7_isKept_43 : decode cX7_isKept 43 = .ok (.if_icmp .ne 23, 3) := by decide +kernel
theorem dX7_isKept_46 : decode cX7_isKept 46 = .ok (.iload 5, 2) := by decide +kernel
theorem dX7_isKept_48 : decode cX7_isKept 48 = .ok (.iconst 2, 1) := by decide +kernel
theorem dX7_isKept_49 : decode cX7_isKept 49 = .ok (.if_icmp .eq 13, 3) := by decide +kernel
theorem dX7_isKept_52 : decode cX7_isKept 52 = .ok (.iload_n 2, 1) := by decide +kernel
theorem dX7_isKept_53 : decode cX7_isKept 53 = .ok (.ifCond .ne 13, 3) := by decide +kernel
theorem dX7_isKept_56 : decode cX7_isKept 56 = .ok (.iload 5, 2) := by decide +kernel
theorem dX7_isKept_58 : decode cX7_isKept 58 = .ok (.iconst 4, 1) := by decide +kernel
theorem dX7_isKept_59 : decode cX7_isKept 59 = .ok (.if_icmp .ge 7, 3) := by decide +kernel
theorem dX7_isKept_62 : decode cX7_isKept 62 = .ok (.iconst 1, 1) := by decide +kernel
theorem dX7_isKept_63 : decode cX7_isKept 63 = .ok (.goto 4, 3) := by decide +kernel
theorem dX7_isKept_66 : decode cX7_isKept 66 = .ok (.iconst 0, 1) := by decide +kernel
theorem dX7_isKept_67 : decode cX7_isKept 67 = .ok (.istore_n 3, 1) := by decide +kernel
theorem dX7_isKept_68 : decode cX7_isKept 68 = .ok (.iinc 4 1, 3) := by decide +kernel
theorem dX7_isKept_71 : decode cX7_isKept 71 = .ok (.goto (-66), 3) := by decide +kernel
theorem dX7_isKept_74 : decode cX7_isKept 74 = .ok (.iload_n 3, 1) := by decide +kernel
theorem dX7_isKept_75 : decode cX7_isKept 75 = .ok (.ireturn, 1) := by decide +kernel
theorem dX7_flow_0 : decode cX7_flow 0 = .ok (.aload_n 0, 1) := by decide +kernel
theorem dX7_flow_1 : decode cX7_flow 1 = .ok (.getfield 19, 3) := by decide +kernel
theorem dX7_flow_4 : decode cX7_flow 4 = .ok (.bipush 7, 2) := by decide +kernel
theorem dX7_flow_6 : decode cX7_flow 6 = .ok (.iload_n 1, 1) := by decide +kernel
theorem dX7_flow_7 : decode cX7_flow 7 = .ok (.iadd, 1) := by decide +kernel
theorem dX7_flow_8 : decode cX7_flow 8 = .ok (.iaload, 1) := by decide +kernel
theorem dX7_flow_9 : decode cX7_flow 9 = .ok (.aload_n 0, 1) := by decide +kernel
theorem dX7_flow_10 : decode cX7_flow 10 = .ok (.getfield 19, 3) := by decide +kernel
theorem dX7_flow_13 : decode cX7_flow 13 = .ok (.bipush 7, 2) := by decide +kernel
theorem dX7_flow_15 : decode cX7_flow 15 = .ok (.iload_n 2, 1) := by decide +kernel
theorem dX7_flow_16 : decode cX7_flow 16 = .ok (.iadd, 1) := by decide +kernel
theorem dX7_flow_17 : decode cX7_flow 17 = .ok (.iaload, 1) := by decide +kernel
theorem dX7_flow_18 : decode cX7_flow 18 = .ok (.isub, 1) := by decide +kernel
theorem dX7_flow_19 : decode cX7_flow 19 = .ok (.iconst 4, 1) := by decide +kernel
theorem dX7_flow_20 : decode cX7_flow 20 = .ok (.idiv, 1) := by decide +kernel
theorem dX7_flow_21 : decode cX7_flow 21 = .ok (.istore_n 3, 1) := by decide +kernel
theorem dX7_flow_22 : decode cX7_flow 22 = .ok (.aload_n 0, 1) := by decide +kernel
theorem dX7_flow_23 : decode cX7_flow 23 = .ok (.iload_n 1, 1) := by decide +kernel
theorem dX7_flow_24 : decode cX7_flow 24 = .ok (.iconst 1, 1) := by decide +kernel
theorem dX7_flow_25 : decode cX7_flow 25 = .ok (.invokevirtual 143, 3) := by decide +kernel
theorem dX7_flow_28 : decode cX7_flow 28 = .ok (.ifCond .eq 7, 3) := by decide +kernel
theorem dX7_flow_31 : decode cX7_flow 31 = .ok (.iconst 0, 1) := by decide +kernel
theorem dX7_flow_32 : decode cX7_flow 32 = .ok (.goto 19, 3) := by decide +kernel
theorem dX7_flow_35 : decode cX7_flow 35 = .ok (.aload_n 0, 1) := by decide +kernel
theorem dX7_flow_36 : decode cX7_flow 36 = .ok (.iload_n 1, 1) := by decide +kernel
theorem dX7_flow_37 : decode cX7_flow 37 = .ok (.iconst 0, 1) := by decide +kernel
theorem dX7_flow_38 : decode cX7_flow 38 = .ok (.invokevirtual 143, 3) := by decide +kernel
theorem dX7_flow_41 : decode cX7_flow 41 = .ok (.ifCond .eq 9, 3) := by decide +kernel
theorem dX7_flow_44 : decode cX7_flow 44 = .ok (.iload_n 3, 1) := by decide +kernel
theorem dX7_flow_45 : decode cX7_flow 45 = .ok (.iconst 2, 1) := by decide +kernel
theorem dX7_flow_46 : decode cX7_flow 46 = .ok (.idiv, 1) := by decide +kernel
theorem dX7_flow_47 : decode cX7_flow 47 = .ok (.goto 4, 3) := by decide +kernel
theorem dX7_flow_50 : decode cX7_flow 50 = .ok (.iload_n 3, 1) := by decide +kernel
theorem dX7_flow_51 : decode cX7_flow 51 = .ok (.istore_n 3, 1) := by decide +kernel
theorem dX7_flow_52 : decode cX7_flow 52 = .ok (.aload_n 0, 1) := by decide +kernel
theorem dX7_flow_53 : decode cX7_flow 53 = .ok (.getfield 19, 3) := by decide +kernel
theorem dX7_flow_56 : decode cX7_flow 56 = .ok (.bipush 7, 2) := by decide +kernel
theorem dX7_flow_58 : decode cX7_flow 58 = .ok (.iload_n 1, 1) := by decide +kernel
theorem dX7_flow_59 : decode cX7_flow 59 = .ok (.iadd, 1) := by decide +kernel
theorem dX7_flow_60 : decode cX7_flow 60 = .ok (.dup2, 1) := by decide +kernel
theorem dX7_flow_61 : decode cX7_flow 61 = .ok (.iaload, 1) := by decide +kernel
theorem dX7_flow_62 : decode cX7_flow 62 = .ok (.iload_n 3, 1) := by decide +kernel
theorem dX7_flow_63 : decode cX7_flow 63 = .ok (.isub, 1) := by decide +kernel
theorem dX7_flow_64 : decode cX7_flow 64 = .ok (.iastore, 1) := by decide +kernel
theorem dX7_flow_65 : decode cX7_flow 65 = .ok (.aload_n 0, 1) := by decide +kernel
theorem dX7_flow_66 : decode cX7_flow 66 = .ok (.getfield 19, 3) := by decide +kernel
theorem dX7_flow_69 : decode cX7_flow 69 = .ok (.bipush 7, 2) := by decide +kernel
theorem dX7_flow_71 : decode cX7_flow 71 = .ok (.iload_n 2, 1) := by decide +kernel
theorem dX7_flow_72 : decode cX7_flow 72 = .ok (.iadd, 1) := by decide +kernel
theorem dX7_flow_73 : decode cX7_flow 73 = .ok (.dup2, 1) := by decide +kernel
theorem dX7_flow_74 : decode cX7_flow 74 = .ok (.iaload, 1) := by decide +kernel
theorem dX7_flow_75 : decode cX7_flow 75 = .ok (.iload_n 3, 1) := by decide +kernel
theorem dX7_flow_76 : decode cX7_flow 76 = .ok (.iadd, 1) := by decide +kernel
theorem dX7_flow_77 : decode cX7_flow 77 = .ok (.iastore, 1) := by decide +kernel
theorem dX7_flow_78 : decode cX7_flow 78 = .ok (.return_, 1) := by decide +kernel
theorem dX7_oneHour_0 : decode cX7_oneHour 0 = .ok (.aload_n 0, 1) := by decide +kernel
theorem dX7_oneHour_1 : decode cX7_oneHour 1 = .ok (.getfield 19, 3) := by decide +kernel
theorem dX7_oneHour_4 : decode cX7_oneHour 4 = .ok (.bipush 7, 2) := by decide +kernel
theorem dX7_oneHour_6 : decode cX7_oneHour 6 = .ok (.aload_n 0, 1) := by decide +kernel
theorem dX7_oneHour_7 : decode cX7_oneHour 7 = .ok (.getfield 19, 3) := by decide +kernel
theorem dX7_oneHour_10 : decode cX7_oneHour 10 = .ok (.iconst 1, 1) := by decide +kernel
theorem dX7_oneHour_11 : decode cX7_oneHour 11 = .ok (.iaload, 1) := by decide +kernel
theorem dX7_oneHour_12 : decode cX7_oneHour 12 = .ok (.iadd, 1) := by decide +kernel
theorem dX7_oneHour_13 : decode cX7_oneHour 13 = .ok (.aload_n 0, 1) := by decide +kernel
theorem dX7_oneHour_14 : decode cX7_oneHour 14 = .ok (.getfield 19, 3) := by decide +kernel
theorem dX7_oneHour_17 : decode cX7_oneHour 17 = .ok (.bipush 7, 2) := by decide +kernel
theorem dX7_oneHour_19 : decode cX7_oneHour 19 = .ok (.aload_n 0, 1) := by decide +kernel
theorem dX7_oneHour_20 : decode cX7_oneHour 20 = .ok (.getfield 19, 3) := by decide +kernel
theorem dX7_oneHour_23 : decode cX7_oneHour 23 = .ok (.iconst 1, 1) := by decide +kernel
theorem dX7_oneHour_24 : decode cX7_oneHour 24 = .ok (.iaload, 1) := by decide +kernel
theorem dX7_oneHour_25 : decode cX7_oneHour 25 = .ok (.iadd, 1) := by decide +kernel
theorem dX7_oneHour_26 : decode cX7_oneHour 26 = .ok (.iaload, 1) := by decide +kernel
theorem dX7_oneHour_27 : decode cX7_oneHour 27 = .ok (.aload_n 0, 1) := by decide +kernel
theorem dX7_oneHour_28 : decode cX7_oneHour 28 = .ok (.getfield 19, 3) := by decide +kernel
theorem dX7_oneHour_31 : decode cX7_oneHour 31 = .ok (.iconst 2, 1) := by decide +kernel
theorem dX7_oneHour_32 : decode cX7_oneHour 32 = .ok (.iaload, 1) := by decide +kernel
theorem dX7_oneHour_33 : decode cX7_oneHour 33 = .ok (.iadd, 1) := by decide +kernel
theorem dX7_oneHour_34 : decode cX7_oneHour 34 = .ok (.invokestatic 147, 3) := by decide +kernel
theorem dX7_oneHour_37 : decode cX7_oneHour 37 = .ok (.iastore, 1) := by decide +kernel
theorem dX7_oneHour_38 : decode cX7_oneHour 38 = .ok (.iconst 0, 1) := by decide +kernel
theorem dX7_oneHour_39 : decode cX7_oneHour 39 = .ok (.istore_n 1, 1) := by decide +kernel
theorem dX7_oneHour_40 : decode cX7_oneHour 40 = .ok (.iload_n 1, 1) := by decide +kernel
theorem dX7_oneHour_41 : decode cX7_oneHour 41 = .ok (.aload_n 0, 1) := by decide +kernel
theorem dX7_oneHour_42 : decode cX7_oneHour 42 = .ok (.getfield 19, 3) := by decide +kernel
theorem dX7_oneHour_45 : decode cX7_oneHour 45 = .ok (.iconst 4, 1) := by decide +kernel
theorem dX7_oneHour_46 : decode cX7_oneHour 46 = .ok (.iaload, 1) := by decide +kernel
theorem dX7_oneHour_47 : decode cX7_oneHour 47 = .ok (.if_icmp .ge 91, 3) := by decide +kernel
theorem dX7_oneHour_50 : decode cX7_oneHour 50 = .ok (.aload_n 0, 1) := by decide +kernel
theorem dX7_oneHour_51 : decode cX7_oneHour 51 = .ok (.getfield 19, 3) := by decide +kernel
theorem dX7_oneHour_54 : decode cX7_oneHour 54 = .ok (.bipush 13, 2) := by decide +kernel
theorem dX7_oneHour_56 : decode cX7_oneHour 56 = .ok (.iload_n 1, 1) := by decide +kernel
theorem dX7_oneHour_57 : decode cX7_oneHour 57 = .ok (.iadd, 1) := by decide +kernel
theorem dX7_oneHour_58 : decode cX7_oneHour 58 = .ok (.iaload, 1) := by decide +kernel
theorem dX7_oneHour_59 : decode cX7_oneHour 59 = .ok (.istore_n 2, 1) := by decide +kernel
theorem dX7_oneHour_60 : decode cX7_oneHour 60 = .ok (.aload_n 0, 1) := by decide +kernel
theorem dX7_oneHour_61 : decode cX7_oneHour 61 = .ok (.getfield 19, 3) := by decide +kernel
theorem dX7_oneHour_64 : decode cX7_oneHour 64 = .ok (.bipush 21, 2) := by decide +kernel
theorem dX7_oneHour_66 : decode cX7_oneHour 66 = .ok (.iload_n 1, 1) := by decide +kernel
theorem dX7_oneHour_67 : decode cX7_oneHour 67 = .ok (.iadd, 1) := by decide +kernel
theorem dX7_oneHour_68 : decode cX7_oneHour 68 = .ok (.iaload, 1) := by decide +kernel
theorem dX7_oneHour_69 : decode cX7_oneHour 69 = .ok (.istore_n 3, 1) := by decide +kernel
theorem dX7_oneHour_70 : decode cX7_oneHour 70 = .ok (.aload_n 0, 1) := by decide +kernel
theorem dX7_oneHour_71 : decode cX7_oneHour 71 = .ok (.getfield 19, 3) := by decide +kernel
theorem dX7_oneHour_74 : decode cX7_oneHour 74 = .ok (.bipush 29, 2) := by decide +kernel
theorem dX7_oneHour_76 : decode cX7_oneHour 76 = .ok (.iload_n 1, 1) := by decide +kernel
theorem dX7_oneHour_77 : decode cX7_oneHour 77 = .ok (.iadd, 1) := by decide +kernel
theorem dX7_oneHour_78 : decode cX7_oneHour 78 = .ok (.iaload, 1) := by decide +kernel
theorem dX7_oneHour_79 : decode cX7_oneHour 79 = .ok (.iconst 1, 1) := by decide +kernel
theorem dX7_oneHour_80 : decode cX7_oneHour 80 = .ok (.if_icmp .ne 33, 3) := by decide +kernel
theorem dX7_oneHour_83 : decode cX7_oneHour 83 = .ok (.aload_n 0, 1) := by decide +kernel
theorem dX7_oneHour_84 : decode cX7_oneHour 84 = .ok (.getfield 19, 3) := by decide +kernel
theorem dX7_oneHour_87 : decode cX7_oneHour 87 = .ok (.bipush 7, 2) := by decide +kernel
theorem dX7_oneHour_89 : decode cX7_oneHour 89 = .ok (.iload_n 2, 1) := by decide +kernel
theorem dX7_oneHour_90 : decode cX7_oneHour 90 = .ok (.iadd, 1) := by decide +kernel
theorem dX7_oneHour_91 : decode cX7_oneHour 91 = .ok (.iaload, 1) := by decide +kernel
theorem dX7_oneHour_92 : decode cX7_oneHour 92 = .ok (.aload_n 0, 1) := by decide +kernel
theorem dX7_oneHour_93 : decode cX7_oneHour 93 = .ok (.getfield 19, 3) := by decide +kernel
theorem dX7_oneHour_96 : decode cX7_oneHour 96 = .ok (.bipush 7, 2) := by decide +kernel
theorem dX7_oneHour_98 : decode cX7_oneHour 98 = .ok (.iload_n 3, 1) := by decide +kernel
theorem dX7_oneHour_99 : decode cX7_oneHour 99 = .ok (.iadd, 1) := by decide +kernel
theorem dX7_oneHour_100 : decode cX7_oneHour 100 = .ok (.iaload, 1) := by decide +kernel
theorem dX7_oneHour_101 : decode cX7_oneHour 101 = .ok (.if_icmp .le 12, 3) := by decide +kernel
theorem dX7_oneHour_104 : decode cX7_oneHour 104 = .ok (.aload_n 0, 1) := by decide +kernel
theorem dX7_oneHour_105 : decode cX7_oneHour 105 = .ok (.iload_n 2, 1) := by decide +kernel
theorem dX7_oneHour_106 : decode cX7_oneHour 106 = .ok (.iload_n 3, 1) := by decide +kernel
theorem dX7_oneHour_107 : decode cX7_oneHour 107 = .ok (.invokevirtual 150, 3) := by decide +kernel
theorem dX7_oneHour_110 : decode cX7_oneHour 110 = .ok (.goto 22, 3) := by decide +kernel
theorem dX7_oneHour_113 : decode cX7_oneHour 113 = .ok (.aload_n 0, 1) := by decide +kernel
theorem dX7_oneHour_114 : decode cX7_oneHour 114 = .ok (.getfield 19, 3) := by decide +kernel
theorem dX7_oneHour_117 : decode cX7_oneHour 117 = .ok (.bipush 29, 2) := by decide +kernel
theorem dX7_oneHour_119 : decode cX7_oneHour 119 = .ok (.iload_n 1, 1) := by decide +kernel
theorem dX7_oneHour_120 : decode cX7_oneHour 120 = .ok (.iadd, 1) := by decide +kernel
theorem dX7_oneHour_121 : decode cX7_oneHour 121 = .ok (.iaload, 1) := by decide +kernel
theorem dX7_oneHour_122 : decode cX7_oneHour 122 = .ok (.iconst 1, 1) := by decide +kernel
theorem dX7_oneHour_123 : decode cX7_oneHour 123 = .ok (.if_icmp .ne 9, 3) := by decide +kernel
theorem dX7_oneHour_126 : decode cX7_oneHour 126 = .ok (.aload_n 0, 1) := by decide +kernel
theorem dX7_oneHour_127 : decode cX7_oneHour 127 = .ok (.iload_n 3, 1) := by decide +kernel
theorem dX7_oneHour_128 : decode cX7_oneHour 128 = .ok (.iload_n 2, 1) := by decide +kernel
theorem dX7_oneHour_129 : decode cX7_oneHour 129 = .ok (.invokevirtual 150, 3) := by decide +kernel
theorem dX7_oneHour_132 : decode cX7_oneHour 132 = .ok (.iinc 1 1, 3) := by decide +kernel
theorem dX7_oneHour_135 : decode cX7_oneHour 135 = .ok (.goto (-95), 3) := by decide +kernel
theorem dX7_oneHour_138 : decode cX7_oneHour 138 = .ok (.iconst 0, 1) := by decide +kernel
theorem dX7_oneHour_139 : decode cX7_oneHour 139 = .ok (.istore_n 1, 1) := by decide +kernel
theorem dX7_oneHour_140 : decode cX7_oneHour 140 = .ok (.iload_n 1, 1) := by decide +kernel
theorem dX7_oneHour_141 : decode cX7_oneHour 141 = .ok (.aload_n 0, 1) := by decide +kernel
theorem dX7_oneHour_142 : decode cX7_oneHour 142 = .ok (.getfield 19, 3) := by decide +kernel
theorem dX7_oneHour_145 : decode cX7_oneHour 145 = .ok (.iconst 5, 1) := by decide +kernel
theorem dX7_oneHour_146 : decode cX7_oneHour 146 = .ok (.iaload, 1) := by decide +kernel
theorem dX7_oneHour_147 : decode cX7_oneHour 147 = .ok (.if_icmp .ge 93, 3) := by decide +kernel
theorem dX7_oneHour_150 : decode cX7_oneHour 150 = .ok (.aload_n 0, 1) := by decide +kernel
theorem dX7_oneHour_151 : decode cX7_oneHour 151 = .ok (.getfield 19, 3) := by decide +kernel
theorem dX7_oneHour_154 : decode cX7_oneHour 154 = .ok (.bipush 37, 2) := by decide +kernel
theorem dX7_oneHour_156 : decode cX7_oneHour 156 = .ok (.iload_n 1, 1) := by decide +kernel
theorem dX7_oneHour_157 : decode cX7_oneHour 157 = .ok (.iadd, 1) := by decide +kernel
theorem dX7_oneHour_158 : decode cX7_oneHour 158 = .ok (.iaload, 1) := by decide +kernel
theorem dX7_oneHour_159 : decode cX7_oneHour 159 = .ok (.istore_n 2, 1) := by decide +kernel
theorem dX7_oneHour_160 : decode cX7_oneHour 160 = .ok (.aload_n 0, 1) := by decide +kernel
theorem dX7_oneHour_161 : decode cX7_oneHour 161 = .ok (.getfield 19, 3) := by decide +kernel
theorem dX7_oneHour_164 : decode cX7_oneHour 164 = .ok (.bipush 47, 2) := by decide +kernel
theorem dX7_oneHour_166 : decode cX7_oneHour 166 = .ok (.iload_n 1, 1) := by decide +kernel
theorem dX7_oneHour_167 : decode cX7_oneHour 167 = .ok (.iadd, 1) := by decide +kernel
theorem dX7_oneHour_168 : decode cX7_oneHour 168 = .ok (.iaload, 1) := by decide +kernel
theorem dX7_oneHour_169 : decode cX7_oneHour 169 = .ok (.istore_n 3, 1) := by decide +kernel
theorem dX7_oneHour_170 : decode cX7_oneHour 170 = .ok (.bipush 7, 2) := by decide +kernel
theorem dX7_oneHour_172 : decode cX7_oneHour 172 = .ok (.aload_n 0, 1) := by decide +kernel
theorem dX7_oneHour_173 : decode cX7_oneHour 173 = .ok (.getfield 19, 3) := by decide +kernel
theorem dX7_oneHour_176 : decode cX7_oneHour 176 = .ok (.bipush 42, 2) := by decide +kernel
theorem dX7_oneHour_178 : decode cX7_oneHour 178 = .ok (.iload_n 1, 1) := by decide +kernel
theorem dX7_oneHour_179 : decode cX7_oneHour 179 = .ok (.iadd, 1) := by decide +kernel
theorem dX7_oneHour_180 : decode cX7_oneHour 180 = .ok (.iaload, 1) := by decide +kernel
theorem dX7_oneHour_181 : decode cX7_oneHour 181 = .ok (.iadd, 1) := by decide +kernel
theorem dX7_oneHour_182 : decode cX7_oneHour 182 = .ok (.istore 4, 2) := by decide +kernel
theorem dX7_oneHour_184 : decode cX7_oneHour 184 = .ok (.aload_n 0, 1) := by decide +kernel
theorem dX7_oneHour_185 : decode cX7_oneHour 185 = .ok (.getfield 19, 3) := by decide +kernel
theorem dX7_oneHour_188 : decode cX7_oneHour 188 = .ok (.iload 4, 2) := by decide +kernel
theorem dX7_oneHour_190 : decode cX7_oneHour 190 = .ok (.aload_n 0, 1) := by decide +kernel
theorem dX7_oneHour_191 : decode cX7_oneHour 191 = .ok (.getfield 19, 3) := by decide +kernel
theorem dX7_oneHour_194 : decode cX7_oneHour 194 = .ok (.iload 4, 2) := by decide +kernel
theorem dX7_oneHour_196 : decode cX7_oneHour 196 = .ok (.iaload, 1) := by decide +kernel
theorem dX7_oneHour_197 : decode cX7_oneHour 197 = .ok (.iload_n 2, 1) := by decide +kernel
theorem dX7_oneHour_198 : decode cX7_oneHour 198 = .ok (.iconst 5, 1) := by decide +kernel
theorem dX7_oneHour_199 : decode cX7_oneHour 199 = .ok (.if_icmp .ne 7, 3) := by decide +kernel
theorem dX7_oneHour_202 : decode cX7_oneHour 202 = .ok (.iload_n 3, 1) := by decide +kernel
theorem dX7_oneHour_203 : decode cX7_oneHour 203 = .ok (.goto 26, 3) := by decide +kernel
theorem dX7_oneHour_206 : decode cX7_oneHour 206 = .ok (.iload_n 2, 1) := by decide +kernel
theorem dX7_oneHour_207 : decode cX7_oneHour 207 = .ok (.iconst 4, 1) := by decide +kernel
theorem dX7_oneHour_208 : decode cX7_oneHour 208 = .ok (.if_icmp .ne 10, 3) := by decide +kernel
theorem dX7_oneHour_211 : decode cX7_oneHour 211 = .ok (.bipush (-2), 2) := by decide +kernel
theorem dX7_oneHour_213 : decode cX7_oneHour 213 = .ok (.iload_n 3, 1) := by decide +kernel
theorem dX7_oneHour_214 : decode cX7_oneHour 214 = .ok (.imul, 1) := by decide +kernel
theorem dX7_oneHour_215 : decode cX7_oneHour 215 = .ok (.goto 14, 3) := by decide +kernel
theorem dX7_oneHour_218 : decode cX7_oneHour 218 = .ok (.iload_n 2, 1) := by decide +kernel
theorem dX7_oneHour_219 : decode cX7_oneHour 219 = .ok (.iconst 3, 1) := by decide +kernel
theorem dX7_oneHour_220 : decode cX7_oneHour 220 = .ok (.if_icmp .ne 8, 3) := by decide +kernel
theorem dX7_oneHour_223 : decode cX7_oneHour 223 = .ok (.iload_n 3, 1) := by decide +kernel
theorem dX7_oneHour_224 : decode cX7_oneHour 224 = .ok (.ineg, 1) := by decide +kernel
theorem dX7_oneHour_225 : decode cX7_oneHour 225 = .ok (.goto 4, 3) := by decide +kernel
theorem dX7_oneHour_228 : decode cX7_oneHour 228 = .ok (.iconst 0, 1) := by decide +kernel
theorem dX7_oneHour_229 : decode cX7_oneHour 229 = .ok (.iadd, 1) := by decide +kernel
theorem dX7_oneHour_230 : decode cX7_oneHour 230 = .ok (.invokestatic 147, 3) := by decide +kernel
theorem dX7_oneHour_233 : decode cX7_oneHour 233 = .ok (.iastore, 1) := by decide +kernel
theorem dX7_oneHour_234 : decode cX7_oneHour 234 = .ok (.iinc 1 1, 3) := by decide +kernel
theorem dX7_oneHour_237 : decode cX7_oneHour 237 = .ok (.goto (-97), 3) := by decide +kernel
theorem dX7_oneHour_240 : decode cX7_oneHour 240 = .ok (.aload_n 0, 1) := by decide +kernel
theorem dX7_oneHour_241 : decode cX7_oneHour 241 = .ok (.getfield 19, 3) := by decide +kernel
theorem dX7_oneHour_244 : decode cX7_oneHour 244 = .ok (.bipush 6, 2) := by decide +kernel
theorem dX7_oneHour_246 : decode cX7_oneHour 246 = .ok (.dup2, 1) := by decide +kernel
theorem dX7_oneHour_247 : decode cX7_oneHour 247 = .ok (.iaload, 1) := by decide +kernel
theorem dX7_oneHour_248 : decode cX7_oneHour 248 = .ok (.iconst 1, 1) := by decide +kernel
theorem dX7_oneHour_249 : decode cX7_oneHour 249 = .ok (.iadd, 1) := by decide +kernel
theorem dX7_oneHour_250 : decode cX7_oneHour 250 = .ok (.iastore, 1) := by decide +kernel
theorem dX7_oneHour_251 : decode cX7_oneHour 251 = .ok (.return_, 1) := by decide +kernel
theorem dX7_allCold_0 : decode cX7_allCold 0 = .ok (.iconst 0, 1) := by decide +kernel
theorem dX7_allCold_1 : decode cX7_allCold 1 = .ok (.istore_n 1, 1) := by decide +kernel
theorem dX7_allCold_2 : decode cX7_allCold 2 = .ok (.iconst 0, 1) := by decide +kernel
theorem dX7_allCold_3 : decode cX7_allCold 3 = .ok (.istore_n 2, 1) := by decide +kernel
theorem dX7_allCold_4 : decode cX7_allCold 4 = .ok (.iload_n 2, 1) := by decide +kernel
theorem dX7_allCold_5 : decode cX7_allCold 5 = .ok (.aload_n 0, 1) := by decide +kernel
theorem dX7_allCold_6 : decode cX7_allCold 6 = .ok (.getfield 19, 3) := by decide +kernel
theorem dX7_allCold_9 : decode cX7_allCold 9 = .ok (.iconst 0, 1) := by decide +kernel
theorem dX7_allCold_10 : decode cX7_allCold 10 = .ok (.iaload, 1) := by decide +kernel
theorem dX7_allCold_11 : decode cX7_allCold 11 = .ok (.if_icmp .ge 21, 3) := by decide +kernel
theorem dX7_allCold_14 : decode cX7_allCold 14 = .ok (.iload_n 1, 1) := by decide +kernel
theorem dX7_allCold_15 : decode cX7_allCold 15 = .ok (.aload_n 0, 1) := by decide +kernel
theorem dX7_allCold_16 : decode cX7_allCold 16 = .ok (.getfield 19, 3) := by decide +kernel
theorem dX7_allCold_19 : decode cX7_allCold 19 = .ok (.bipush 7, 2) := by decide +kernel
theorem dX7_allCold_21 : decode cX7_allCold 21 = .ok (.iload_n 2, 1) := by decide +kernel
theorem dX7_allCold_22 : decode cX7_allCold 22 = .ok (.iadd, 1) := by decide +kernel
theorem dX7_allCold_23 : decode cX7_allCold 23 = .ok (.iaload, 1) := by decide +kernel
theorem dX7_allCold_24 : decode cX7_allCold 24 = .ok (.iadd, 1) := by decide +kernel
theorem dX7_allCold_25 : decode cX7_allCold 25 = .ok (.istore_n 1, 1) := by decide +kernel
theorem dX7_allCold_26 : decode cX7_allCold 26 = .ok (.iinc 2 1, 3) := by decide +kernel
theorem dX7_allCold_29 : decode cX7_allCold 29 = .ok (.goto (-25), 3) := by decide +kernel
theorem dX7_allCold_32 : decode cX7_allCold 32 = .ok (.iload_n 1, 1) := by decide +kernel
theorem dX7_allCold_33 : decode cX7_allCold 33 = .ok (.ireturn, 1) := by decide +kernel
theorem dX7_hours_0 : decode cX7_hours 0 = .ok (.aload_n 0, 1) := by decide +kernel
theorem dX7_hours_1 : decode cX7_hours 1 = .ok (.getfield 135, 3) := by decide +kernel
theorem dX7_hours_4 : decode cX7_hours 4 = .ok (.ifCond .ne 6, 3) := by decide +kernel
theorem dX7_hours_7 : decode cX7_hours 7 = .ok (.ldc 142, 2) := by decide +kernel
theorem dX7_hours_9 : decode cX7_hours 9 = .ok (.ireturn, 1) := by decide +kernel
theorem dX7_hours_10 : decode cX7_hours 10 = .ok (.iload_n 1, 1) := by decide +kernel
theorem dX7_hours_11 : decode cX7_hours 11 = .ok (.i2l, 1) := by decide +kernel
theorem dX7_hours_12 : decode cX7_hours 12 = .ok (.lconst 1, 1) := by decide +kernel
theorem dX7_hours_13 : decode cX7_hours 13 = .ok (.ldc2_w 154, 3) := by decide +kernel
theorem dX7_hours_16 : decode cX7_hours 16 = .ok (.invokestatic 54, 3) := by decide +kernel
theorem dX7_hours_19 : decode cX7_hours 19 = .ok (.ifCond .ne 6, 3) := by decide +kernel
theorem dX7_hours_22 : decode cX7_hours 22 = .ok (.ldc 64, 2) := by decide +kernel
theorem dX7_hours_24 : decode cX7_hours 24 = .ok (.ireturn, 1) := by decide +kernel
theorem dX7_hours_25 : decode cX7_hours 25 = .ok (.aload_n 0, 1) := by decide +kernel
theorem dX7_hours_26 : decode cX7_hours 26 = .ok (.getfield 19, 3) := by decide +kernel
theorem dX7_hours_29 : decode cX7_hours 29 = .ok (.bipush 6, 2) := by decide +kernel
theorem dX7_hours_31 : decode cX7_hours 31 = .ok (.iaload, 1) := by decide +kernel
theorem dX7_hours_32 : decode cX7_hours 32 = .ok (.iload_n 1, 1) := by decide +kernel
theorem dX7_hours_33 : decode cX7_hours 33 = .ok (.iadd, 1) := by decide +kernel
theorem dX7_hours_34 : decode cX7_hours 34 = .ok (.sipush 999, 3) := by decide +kernel
theorem dX7_hours_37 : decode cX7_hours 37 = .ok (.if_icmp .le 6, 3) := by decide +kernel
theorem dX7_hours_40 : decode cX7_hours 40 = .ok (.ldc 81, 2) := by decide +kernel
theorem dX7_hours_42 : decode cX7_hours 42 = .ok (.ireturn, 1) := by decide +kernel
theorem dX7_hours_43 : decode cX7_hours 43 = .ok (.iconst 0, 1) := by decide +kernel
theorem dX7_hours_44 : decode cX7_hours 44 = .ok (.istore_n 2, 1) := by decide +kernel
theorem dX7_hours_45 : decode cX7_hours 45 = .ok (.iload_n 2, 1) := by decide +kernel
theorem dX7_hours_46 : decode cX7_hours 46 = .ok (.iload_n 1, 1) := by decide +kernel
theorem dX7_hours_47 : decode cX7_hours 47 = .ok (.if_icmp .ge 17, 3) := by decide +kernel
theorem dX7_hours_50 : decode cX7_hours 50 = .ok (.aload_n 0, 1) := by decide +kernel
theorem dX7_hours_51 : decode cX7_hours 51 = .ok (.invokevirtual 156, 3) := by decide +kernel
theorem dX7_hours_54 : decode cX7_hours 54 = .ok (.aload_n 0, 1) := by decide +kernel
theorem dX7_hours_55 : decode cX7_hours 55 = .ok (.invokevirtual 159, 3) := by decide +kernel
theorem dX7_hours_58 : decode cX7_hours 58 = .ok (.iinc 2 1, 3) := by decide +kernel
theorem dX7_hours_61 : decode cX7_hours 61 = .ok (.goto (-16), 3) := by decide +kernel
theorem dX7_hours_64 : decode cX7_hours 64 = .ok (.aload_n 0, 1) := by decide +kernel
theorem dX7_hours_65 : decode cX7_hours 65 = .ok (.invokevirtual 162, 3) := by decide +kernel
theorem dX7_hours_68 : decode cX7_hours 68 = .ok (.ireturn, 1) := by decide +kernel
theorem dX7_isDoor_0 : decode cX7_isDoor 0 = .ok (.iload_n 1, 1) := by decide +kernel
theorem dX7_isDoor_1 : decode cX7_isDoor 1 = .ok (.i2l, 1) := by decide +kernel
theorem dX7_isDoor_2 : decode cX7_isDoor 2 = .ok (.lconst 0, 1) := by decide +kernel
theorem dX7_isDoor_3 : decode cX7_isDoor 3 = .ok (.aload_n 0, 1) := by decide +kernel
theorem dX7_isDoor_4 : decode cX7_isDoor 4 = .ok (.getfield 19, 3) := by decide +kernel
theorem dX7_isDoor_7 : decode cX7_isDoor 7 = .ok (.iconst 4, 1) := by decide +kernel
theorem dX7_isDoor_8 : decode cX7_isDoor 8 = .ok (.iaload, 1) := by decide +kernel
theorem dX7_isDoor_9 : decode cX7_isDoor 9 = .ok (.iconst 1, 1) := by decide +kernel
theorem dX7_isDoor_10 : decode cX7_isDoor 10 = .ok (.isub, 1) := by decide +kernel
theorem dX7_isDoor_11 : decode cX7_isDoor 11 = .ok (.i2l, 1) := by decide +kernel
theorem dX7_isDoor_12 : decode cX7_isDoor 12 = .ok (.invokestatic 54, 3) := by decide +kernel
theorem dX7_isDoor_15 : decode cX7_isDoor 15 = .ok (.ireturn, 1) := by decide +kernel
theorem dX7_isRoom_0 : decode cX7_isRoom 0 = .ok (.iload_n 1, 1) := by decide +kernel
theorem dX7_isRoom_1 : decode cX7_isRoom 1 = .ok (.i2l, 1) := by decide +kernel
theorem dX7_isRoom_2 : decode cX7_isRoom 2 = .ok (.lconst 0, 1) := by decide +kernel
theorem dX7_isRoom_3 : decode cX7_isRoom 3 = .ok (.aload_n 0, 1) := by decide +kernel
theorem dX7_isRoom_4 : decode cX7_isRoom 4 = .ok (.getfield 19, 3) := by decide +kernel
theorem dX7_isRoom_7 : decode cX7_isRoom 7 = .ok (.iconst 0, 1) := by decide +kernel
theorem dX7_isRoom_8 : decode cX7_isRoom 8 = .ok (.iaload, 1) := by decide +kernel
theorem dX7_isRoom_9 : decode cX7_isRoom 9 = .ok (.iconst 1, 1) := by decide +kernel
theorem dX7_isRoom_10 : decode cX7_isRoom 10 = .ok (.isub, 1) := by decide +kernel
theorem dX7_isRoom_11 : decode cX7_isRoom 11 = .ok (.i2l, 1) := by decide +kernel
theorem dX7_isRoom_12 : decode cX7_isRoom 12 = .ok (.invokestatic 54, 3) := by decide +kernel
theorem dX7_isRoom_15 : decode cX7_isRoom 15 = .ok (.ireturn, 1) := by decide +kernel
theorem dX7_isSitter_0 : decode cX7_isSitter 0 = .ok (.iload_n 1, 1) := by decide +kernel
theorem dX7_isSitter_1 : decode cX7_isSitter 1 = .ok (.i2l, 1) := by decide +kernel
theorem dX7_isSitter_2 : decode cX7_isSitter 2 = .ok (.lconst 0, 1) := by decide +kernel
theorem dX7_isSitter_3 : decode cX7_isSitter 3 = .ok (.aload_n 0, 1) := by decide +kernel
theorem dX7_isSitter_4 : decode cX7_isSitter 4 = .ok (.getfield 19, 3) := by decide +kernel
theorem dX7_isSitter_7 : decode cX7_isSitter 7 = .ok (.iconst 5, 1) := by decide +kernel
theorem dX7_isSitter_8 : decode cX7_isSitter 8 = .ok (.iaload, 1) := by decide +kernel
theorem dX7_isSitter_9 : decode cX7_isSitter 9 = .ok (.iconst 1, 1) := by decide +kernel
theorem dX7_isSitter_10 : decode cX7_isSitter 10 = .ok (.isub, 1) := by decide +kernel
theorem dX7_isSitter_11 : decode cX7_isSitter 11 = .ok (.i2l, 1) := by decide +kernel
theorem dX7_isSitter_12 : decode cX7_isSitter 12 = .ok (.invokestatic 54, 3) := by decide +kernel
theorem dX7_isSitter_15 : decode cX7_isSitter 15 = .ok (.ireturn, 1) := by decide +kernel
theorem dX7_openDoors_0 : decode cX7_openDoors 0 = .ok (.iconst 0, 1) := by decide +kernel
theorem dX7_openDoors_1 : decode cX7_openDoors 1 = .ok (.istore_n 1, 1) := by decide +kernel
theorem dX7_openDoors_2 : decode cX7_openDoors 2 = .ok (.iconst 0, 1) := by decide +kernel
theorem dX7_openDoors_3 : decode cX7_openDoors 3 = .ok (.istore_n 2, 1) := by decide +kernel
theorem dX7_openDoors_4 : decode cX7_openDoors 4 = .ok (.iload_n 2, 1) := by decide +kernel
theorem dX7_openDoors_5 : decode cX7_openDoors 5 = .ok (.aload_n 0, 1) := by decide +kernel
theorem dX7_openDoors_6 : decode cX7_openDoors 6 = .ok (.getfield 19, 3) := by decide +kernel
theorem dX7_openDoors_9 : decode cX7_openDoors 9 = .ok (.iconst 4, 1) := by decide +kernel
theorem dX7_openDoors_10 : decode cX7_openDoors 10 = .ok (.iaload, 1) := by decide +kernel
theorem dX7_openDoors_11 : decode cX7_openDoors 11 = .ok (.if_icmp .ge 23, 3) := by decide +kernel
theorem dX7_openDoors_14 : decode cX7_openDoors 14 = .ok (.iload_n 1, 1) := by decide +kernel
theorem dX7_openDoors_15 : decode cX7_openDoors 15 = .ok (.aload_n 0, 1) := by decide +kernel
theorem dX7_openDoors_16 : decode cX7_openDoors 16 = .ok (.getfield 19, 3) := by decide +kernel
theorem dX7_openDoors_19 : decode cX7_openDoors 19 = .ok (.bipush 29, 2) := by decide +kernel
theorem dX7_openDoors_21 : decode cX7_openDoors 21 = .ok (.iload_n 2, 1) := by decide +kernel
theorem dX7_openDoors_22 : decode cX7_openDoors 22 = .ok (.iadd, 1) := by decide +kernel
theorem dX7_openDoors_23 : decode cX7_openDoors 23 = .ok (.iaload, 1) := by decide +kernel
theorem dX7_openDoors_24 : decode cX7_openDoors 24 = .ok (.iload_n 2, 1) := by decide +kernel
theorem dX7_openDoors_25 : decode cX7_openDoors 25 = .ok (.ishl, 1) := by decide +kernel
theorem dX7_openDoors_26 : decode cX7_openDoors 26 = .ok (.ior, 1) := by decide +kernel
theorem dX7_openDoors_27 : decode cX7_openDoors 27 = .ok (.istore_n 1, 1) := by decide +kernel
theorem dX7_openDoors_28 : decode cX7_openDoors 28 = .ok (.iinc 2 1, 3) := by decide +kernel
theorem dX7_openDoors_31 : decode cX7_openDoors 31 = .ok (.goto (-27), 3) := by decide +kernel
theorem dX7_openDoors_34 : decode cX7_openDoors 34 = .ok (.iload_n 1, 1) := by decide +kernel
theorem dX7_openDoors_35 : decode cX7_openDoors 35 = .ok (.ireturn, 1) := by decide +kernel
theorem dX7_door_0 : decode cX7_door 0 = .ok (.aload_n 0, 1) := by decide +kernel
theorem dX7_door_1 : decode cX7_door 1 = .ok (.iload_n 1, 1) := by decide +kernel
theorem dX7_door_2 : decode cX7_door 2 = .ok (.invokevirtual 166, 3) := by decide +kernel
theorem dX7_door_5 : decode cX7_door 5 = .ok (.ifCond .eq 13, 3) := by decide +kernel
theorem dX7_door_8 : decode cX7_door 8 = .ok (.iload_n 2, 1) := by decide +kernel
theorem dX7_door_9 : decode cX7_door 9 = .ok (.i2l, 1) := by decide +kernel
theorem dX7_door_10 : decode cX7_door 10 = .ok (.lconst 0, 1) := by decide +kernel
theorem dX7_door_11 : decode cX7_door 11 = .ok (.lconst 1, 1) := by decide +kernel
theorem dX7_door_12 : decode cX7_door 12 = .ok (.invokestatic 54, 3) := by decide +kernel
theorem dX7_door_15 : decode cX7_door 15 = .ok (.ifCond .ne 6, 3) := by decide +kernel
theorem dX7_door_18 : decode cX7_door 18 = .ok (.ldc 64, 2) := by decide +kernel
theorem dX7_door_20 : decode cX7_door 20 = .ok (.ireturn, 1) := by decide +kernel
theorem dX7_door_21 : decode cX7_door 21 = .ok (.aload_n 0, 1) := by decide +kernel
theorem dX7_door_22 : decode cX7_door 22 = .ok (.getfield 19, 3) := by decide +kernel
theorem dX7_door_25 : decode cX7_door 25 = .ok (.bipush 29, 2) := by decide +kernel
theorem dX7_door_27 : decode cX7_door 27 = .ok (.iload_n 1, 1) := by decide +kernel
theorem dX7_door_28 : decode cX7_door 28 = .ok (.iadd, 1) := by decide +kernel
theorem dX7_door_29 : decode cX7_door 29 = .ok (.iaload, 1) := by decide +kernel
theorem dX7_door_30 : decode cX7_door 30 = .ok (.iload_n 2, 1) := by decide +kernel
theorem dX7_door_31 : decode cX7_door 31 = .ok (.if_icmp .ne 6, 3) := by decide +kernel
theorem dX7_door_34 : decode cX7_door 34 = .ok (.ldc 142, 2) := by decide +kernel
theorem dX7_door_36 : decode cX7_door 36 = .ok (.ireturn, 1) := by decide +kernel
theorem dX7_door_37 : decode cX7_door 37 = .ok (.aload_n 0, 1) := by decide +kernel
theorem dX7_door_38 : decode cX7_door 38 = .ok (.invokevirtual 156, 3) := by decide +kernel
theorem dX7_door_41 : decode cX7_door 41 = .ok (.aload_n 0, 1) := by decide +kernel
theorem dX7_door_42 : decode cX7_door 42 = .ok (.getfield 19, 3) := by decide +kernel
theorem dX7_door_45 : decode cX7_door 45 = .ok (.bipush 29, 2) := by decide +kernel
theorem dX7_door_47 : decode cX7_door 47 = .ok (.iload_n 1, 1) := by decide +kernel
theorem dX7_door_48 : decode cX7_door 48 = .ok (.iadd, 1) := by decide +kernel
theorem dX7_door_49 : decode cX7_door 49 = .ok (.iload_n 2, 1) := by decide +kernel
theorem dX7_door_50 : decode cX7_door 50 = .ok (.iastore, 1) := by decide +kernel
theorem dX7_door_51 : decode cX7_door 51 = .ok (.aload_n 0, 1) := by decide +kernel
theorem dX7_door_52 : decode cX7_door 52 = .ok (.invokevirtual 169, 3) := by decide +kernel
theorem dX7_door_55 : decode cX7_door 55 = .ok (.ireturn, 1) := by decide +kernel
theorem dX7_sit_0 : decode cX7_sit 0 = .ok (.aload_n 0, 1) := by decide +kernel
theorem dX7_sit_1 : decode cX7_sit 1 = .ok (.iload_n 1, 1) := by decide +kernel
theorem dX7_sit_2 : decode cX7_sit 2 = .ok (.invokevirtual 172, 3) := by decide +kernel
theorem dX7_sit_5 : decode cX7_sit 5 = .ok (.ifCond .eq 11, 3) := by decide +kernel
theorem dX7_sit_8 : decode cX7_sit 8 = .ok (.aload_n 0, 1) := by decide +kernel
theorem dX7_sit_9 : decode cX7_sit 9 = .ok (.iload_n 2, 1) := by decide +kernel
theorem dX7_sit_10 : decode cX7_sit 10 = .ok (.invokevirtual 175, 3) := by decide +kernel
theorem dX7_sit_13 : decode cX7_sit 13 = .ok (.ifCond .ne 6, 3) := by decide +kernel
theorem dX7_sit_16 : decode cX7_sit 16 = .ok (.ldc 64, 2) := by decide +kernel
theorem dX7_sit_18 : decode cX7_sit 18 = .ok (.ireturn, 1) := by decide +kernel
theorem dX7_sit_19 : decode cX7_sit 19 = .ok (.aload_n 0, 1) := by decide +kernel
theorem dX7_sit_20 : decode cX7_sit 20 = .ok (.getfield 19, 3) := by decide +kernel
theorem dX7_sit_23 : decode cX7_sit 23 = .ok (.bipush 42, 2) := by decide +kernel
theorem dX7_sit_25 : decode cX7_sit 25 = .ok (.iload_n 1, 1) := by decide +kernel
theorem dX7_sit_26 : decode cX7_sit 26 = .ok (.iadd, 1) := by decide +kernel
theorem dX7_sit_27 : decode cX7_sit 27 = .ok (.iaload, 1) := by decide +kernel
theorem dX7_sit_28 : decode cX7_sit 28 = .ok (.istore_n 3, 1) := by decide +kernel
theorem dX7_sit_29 : decode cX7_sit 29 = .ok (.iload_n 3, 1) := by decide +kernel
theorem dX7_sit_30 : decode cX7_sit 30 = .ok (.iload_n 2, 1) := by decide +kernel
theorem dX7_sit_31 : decode cX7_sit 31 = .ok (.if_icmp .ne 6, 3) := by decide +kernel
theorem dX7_sit_34 : decode cX7_sit 34 = .ok (.ldc 142, 2) := by decide +kernel
theorem dX7_sit_36 : decode cX7_sit 36 = .ok (.ireturn, 1) := by decide +kernel
theorem dX7_sit_37 : decode cX7_sit 37 = .ok (.aload_n 0, 1) := by decide +kernel
theorem dX7_sit_38 : decode cX7_sit 38 = .ok (.invokevirtual 156, 3) := by decide +kernel
theorem dX7_sit_41 : decode cX7_sit 41 = .ok (.aload_n 0, 1) := by decide +kernel
theorem dX7_sit_42 : decode cX7_sit 42 = .ok (.getfield 19, 3) := by decide +kernel
theorem dX7_sit_45 : decode cX7_sit 45 = .ok (.bipush 42, 2) := by decide +kernel
theorem dX7_sit_47 : decode cX7_sit 47 = .ok (.iload_n 1, 1) := by decide +kernel
theorem dX7_sit_48 : decode cX7_sit 48 = .ok (.iadd, 1) := by decide +kernel
theorem dX7_sit_49 : decode cX7_sit 49 = .ok (.iload_n 2, 1) := by decide +kernel
theorem dX7_sit_50 : decode cX7_sit 50 = .ok (.iastore, 1) := by decide +kernel
theorem dX7_sit_51 : decode cX7_sit 51 = .ok (.iload_n 3, 1) := by decide +kernel
theorem dX7_sit_52 : decode cX7_sit 52 = .ok (.ireturn, 1) := by decide +kernel
theorem dX7_room_0 : decode cX7_room 0 = .ok (.aload_n 0, 1) := by decide +kernel
theorem dX7_room_1 : decode cX7_room 1 = .ok (.getfield 135, 3) := by decide +kernel
theorem dX7_room_4 : decode cX7_room 4 = .ok (.ifCond .ne 6, 3) := by decide +kernel
theorem dX7_room_7 : decode cX7_room 7 = .ok (.ldc 142, 2) := by decide +kernel
theorem dX7_room_9 : decode cX7_room 9 = .ok (.ireturn, 1) := by decide +kernel
theorem dX7_room_10 : decode cX7_room 10 = .ok (.aload_n 0, 1) := by decide +kernel
theorem dX7_room_11 : decode cX7_room 11 = .ok (.iload_n 1, 1) := by decide +kernel
theorem dX7_room_12 : decode cX7_room 12 = .ok (.invokevirtual 175, 3) := by decide +kernel
theorem dX7_room_15 : decode cX7_room 15 = .ok (.ifCond .eq 15, 3) := by decide +kernel
theorem dX7_room_18 : decode cX7_room 18 = .ok (.iload_n 2, 1) := by decide +kernel
theorem dX7_room_19 : decode cX7_room 19 = .ok (.i2l, 1) := by decide +kernel
theorem dX7_room_20 : decode cX7_room 20 = .ok (.lconst 0, 1) := by decide +kernel
theorem dX7_room_21 : decode cX7_room 21 = .ok (.ldc2_w 178, 3) := by decide +kernel
theorem dX7_room_24 : decode cX7_room 24 = .ok (.invokestatic 54, 3) := by decide +kernel
theorem dX7_room_27 : decode cX7_room 27 = .ok (.ifCond .ne 6, 3) := by decide +kernel
theorem dX7_room_30 : decode cX7_room 30 = .ok (.ldc 64, 2) := by decide +kernel
theorem dX7_room_32 : decode cX7_room 32 = .ok (.ireturn, 1) := by decide +kernel
theorem dX7_room_33 : decode cX7_room 33 = .ok (.iconst 0, 1) := by decide +kernel
theorem dX7_room_34 : decode cX7_room 34 = .ok (.istore_n 3, 1) := by decide +kernel
theorem dX7_room_35 : decode cX7_room 35 = .ok (.iconst 0, 1) := by decide +kernel
theorem dX7_room_36 : decode cX7_room 36 = .ok (.istore 4, 2) := by decide +kernel
theorem dX7_room_38 : decode cX7_room 38 = .ok (.iload 4, 2) := by decide +kernel
theorem dX7_room_40 : decode cX7_room 40 = .ok (.aload_n 0, 1) := by decide +kernel
theorem dX7_room_41 : decode cX7_room 41 = .ok (.getfield 19, 3) := by decide +kernel
theorem dX7_room_44 : decode cX7_room 44 = .ok (.iconst 5, 1) := by decide +kernel
theorem dX7_room_45 : decode cX7_room 45 = .ok (.iaload, 1) := by decide +kernel
theorem dX7_room_46 : decode cX7_room 46 = .ok (.if_icmp .ge 34, 3) := by decide +kernel
theorem dX7_room_49 : decode cX7_room 49 = .ok (.iload_n 3, 1) := by decide +kernel
theorem dX7_room_50 : decode cX7_room 50 = .ok (.aload_n 0, 1) := by decide +kernel
theorem dX7_room_51 : decode cX7_room 51 = .ok (.getfield 19, 3) := by decide +kernel
theorem dX7_room_54 : decode cX7_room 54 = .ok (.bipush 42, 2) := by decide +kernel
theorem dX7_room_56 : decode cX7_room 56 = .ok (.iload 4, 2) := by decide +kernel
theorem dX7_room_58 : decode cX7_room 58 = .ok (.iadd, 1) := by decide +kernel
theorem dX7_room_59 : decode cX7_room 59 = .ok (.iaload, 1) := by decide +kernel
theorem dX7_room_60 : decode cX7_room 60 = .ok (.iload_n 1, 1) := by decide +kernel
theorem dX7_room_61 : decode cX7_room 61 = .ok (.if_icmp .ne 10, 3) := by decide +kernel
theorem dX7_room_64 : decode cX7_room 64 = .ok (.iconst 1, 1) := by decide +kernel
theorem dX7_room_65 : decode cX7_room 65 = .ok (.iload 4, 2) := by decide +kernel
theorem dX7_room_67 : decode cX7_room 67 = .ok (.ishl, 1) := by decide +kernel
theorem dX7_room_68 : decode cX7_room 68 = .ok (.goto 4, 3) := by decide +kernel
theorem dX7_room_71 : decode cX7_room 71 = .ok (.iconst 0, 1) := by decide +kernel
theorem dX7_room_72 : decode cX7_room 72 = .ok (.ior, 1) := by decide +kernel
theorem dX7_room_73 : decode cX7_room 73 = .ok (.istore_n 3, 1) := by decide +kernel
theorem dX7_room_74 : decode cX7_room 74 = .ok (.iinc 4 1, 3) := by decide +kernel
theorem dX7_room_77 : decode cX7_room 77 = .ok (.goto (-39), 3) := by decide +kernel
theorem dX7_room_80 : decode cX7_room 80 = .ok (.iconst 0, 1) := by decide +kernel
theorem dX7_room_81 : decode cX7_room 81 = .ok (.istore 4, 2) := by decide +kernel
theorem dX7_room_83 : decode cX7_room 83 = .ok (.iconst 0, 1) := by decide +kernel
theorem dX7_room_84 : decode cX7_room 84 = .ok (.istore 5, 2) := by decide +kernel
theorem dX7_room_86 : decode cX7_room 86 = .ok (.iload 5, 2) := by decide +kernel
end
section
theorem dX7_room_88 : decode cX7_room 88 = .ok (.aload_n 0, 1) := by decide +kernel
theorem dX7_room_89 : decode cX7_room 89 = .ok (.getfield 19, 3) := by decide +kernel
theorem dX7_room_92 : decode cX7_room 92 = .ok (.iconst 4, 1) := by decide +kernel
theorem dX7_room_93 : decode cX7_room 93 = .ok (.iaload, 1) := by decide +kernel
theorem dX7_room_94 : decode cX7_room 94 = .ok (.if_icmp .ge 50, 3) := by decide +kernel
theorem dX7_room_97 : decode cX7_room 97 = .ok (.iload 4, 2) := by decide +kernel
theorem dX7_room_99 : decode cX7_room 99 = .ok (.aload_n 0, 1) := by decide +kernel
theorem dX7_room_100 : decode cX7_room 100 = .ok (.getfield 19, 3) := by decide +kernel
theorem dX7_room_103 : decode cX7_room 103 = .ok (.bipush 13, 2) := by decide +kernel
theorem dX7_room_105 : decode cX7_room 105 = .ok (.iload 5, 2) := by decide +kernel
theorem dX7_room_107 : decode cX7_room 107 = .ok (.iadd, 1) := by decide +kernel
theorem dX7_room_108 : decode cX7_room 108 = .ok (.iaload, 1) := by decide +kernel
theorem dX7_room_109 : decode cX7_room 109 = .ok (.iload_n 1, 1) := by decide +kernel
theorem dX7_room_110 : decode cX7_room 110 = .ok (.if_icmp .eq 17, 3) := by decide +kernel
theorem dX7_room_113 : decode cX7_room 113 = .ok (.aload_n 0, 1) := by decide +kernel
theorem dX7_room_114 : decode cX7_room 114 = .ok (.getfield 19, 3) := by decide +kernel
theorem dX7_room_117 : decode cX7_room 117 = .ok (.bipush 21, 2) := by decide +kernel
theorem dX7_room_119 : decode cX7_room 119 = .ok (.iload 5, 2) := by decide +kernel
theorem dX7_room_121 : decode cX7_room 121 = .ok (.iadd, 1) := by decide +kernel
theorem dX7_room_122 : decode cX7_room 122 = .ok (.iaload, 1) := by decide +kernel
theorem dX7_room_123 : decode cX7_room 123 = .ok (.iload_n 1, 1) := by decide +kernel
theorem dX7_room_124 : decode cX7_room 124 = .ok (.if_icmp .ne 10, 3) := by decide +kernel
theorem dX7_room_127 : decode cX7_room 127 = .ok (.iconst 1, 1) := by decide +kernel
theorem dX7_room_128 : decode cX7_room 128 = .ok (.iload 5, 2) := by decide +kernel
theorem dX7_room_130 : decode cX7_room 130 = .ok (.ishl, 1) := by decide +kernel
theorem dX7_room_131 : decode cX7_room 131 = .ok (.goto 4, 3) := by decide +kernel
theorem dX7_room_134 : decode cX7_room 134 = .ok (.iconst 0, 1) := by decide +kernel
theorem dX7_room_135 : decode cX7_room 135 = .ok (.ior, 1) := by decide +kernel
theorem dX7_room_136 : decode cX7_room 136 = .ok (.istore 4, 2) := by decide +kernel
theorem dX7_room_138 : decode cX7_room 138 = .ok (.iinc 5 1, 3) := by decide +kernel
theorem dX7_room_141 : decode cX7_room 141 = .ok (.goto (-55), 3) := by decide +kernel
theorem dX7_room_144 : decode cX7_room 144 = .ok (.iload_n 2, 1) := by decide +kernel
theorem dX7_room_145 : decode cX7_room 145 = .ok (.tableswitch 73 0 3 #[31, 41, 43, 58], 31) := by decide +kernel
theorem dX7_room_176 : decode cX7_room 176 = .ok (.aload_n 0, 1) := by decide +kernel
theorem dX7_room_177 : decode cX7_room 177 = .ok (.getfield 19, 3) := by decide +kernel
theorem dX7_room_180 : decode cX7_room 180 = .ok (.bipush 7, 2) := by decide +kernel
theorem dX7_room_182 : decode cX7_room 182 = .ok (.iload_n 1, 1) := by decide +kernel
theorem dX7_room_183 : decode cX7_room 183 = .ok (.iadd, 1) := by decide +kernel
theorem dX7_room_184 : decode cX7_room 184 = .ok (.iaload, 1) := by decide +kernel
theorem dX7_room_185 : decode cX7_room 185 = .ok (.ireturn, 1) := by decide +kernel
theorem dX7_room_186 : decode cX7_room 186 = .ok (.iload_n 3, 1) := by decide +kernel
theorem dX7_room_187 : decode cX7_room 187 = .ok (.ireturn, 1) := by decide +kernel
theorem dX7_room_188 : decode cX7_room 188 = .ok (.aload_n 0, 1) := by decide +kernel
theorem dX7_room_189 : decode cX7_room 189 = .ok (.iload_n 1, 1) := by decide +kernel
theorem dX7_room_190 : decode cX7_room 190 = .ok (.iconst 0, 1) := by decide +kernel
theorem dX7_room_191 : decode cX7_room 191 = .ok (.invokevirtual 143, 3) := by decide +kernel
theorem dX7_room_194 : decode cX7_room 194 = .ok (.ifCond .eq 7, 3) := by decide +kernel
theorem dX7_room_197 : decode cX7_room 197 = .ok (.iconst 1, 1) := by decide +kernel
theorem dX7_room_198 : decode cX7_room 198 = .ok (.goto 4, 3) := by decide +kernel
theorem dX7_room_201 : decode cX7_room 201 = .ok (.iconst 0, 1) := by decide +kernel
theorem dX7_room_202 : decode cX7_room 202 = .ok (.ireturn, 1) := by decide +kernel
theorem dX7_room_203 : decode cX7_room 203 = .ok (.aload_n 0, 1) := by decide +kernel
theorem dX7_room_204 : decode cX7_room 204 = .ok (.iload_n 1, 1) := by decide +kernel
theorem dX7_room_205 : decode cX7_room 205 = .ok (.iconst 1, 1) := by decide +kernel
theorem dX7_room_206 : decode cX7_room 206 = .ok (.invokevirtual 143, 3) := by decide +kernel
theorem dX7_room_209 : decode cX7_room 209 = .ok (.ifCond .eq 7, 3) := by decide +kernel
theorem dX7_room_212 : decode cX7_room 212 = .ok (.iconst 1, 1) := by decide +kernel
theorem dX7_room_213 : decode cX7_room 213 = .ok (.goto 4, 3) := by decide +kernel
theorem dX7_room_216 : decode cX7_room 216 = .ok (.iconst 0, 1) := by decide +kernel
theorem dX7_room_217 : decode cX7_room 217 = .ok (.ireturn, 1) := by decide +kernel
theorem dX7_room_218 : decode cX7_room 218 = .ok (.iload 4, 2) := by decide +kernel
theorem dX7_room_220 : decode cX7_room 220 = .ok (.ireturn, 1) := by decide +kernel
theorem dX7_doorHas_0 : decode cX7_doorHas 0 = .ok (.aload_n 0, 1) := by decide +kernel
theorem dX7_doorHas_1 : decode cX7_doorHas 1 = .ok (.iload_n 1, 1) := by decide +kernel
theorem dX7_doorHas_2 : decode cX7_doorHas 2 = .ok (.invokevirtual 166, 3) := by decide +kernel
theorem dX7_doorHas_5 : decode cX7_doorHas 5 = .ok (.ifCond .eq 15, 3) := by decide +kernel
theorem dX7_doorHas_8 : decode cX7_doorHas 8 = .ok (.iload_n 2, 1) := by decide +kernel
theorem dX7_doorHas_9 : decode cX7_doorHas 9 = .ok (.i2l, 1) := by decide +kernel
theorem dX7_doorHas_10 : decode cX7_doorHas 10 = .ok (.lconst 0, 1) := by decide +kernel
theorem dX7_doorHas_11 : decode cX7_doorHas 11 = .ok (.ldc2_w 62, 3) := by decide +kernel
theorem dX7_doorHas_14 : decode cX7_doorHas 14 = .ok (.invokestatic 54, 3) := by decide +kernel
theorem dX7_doorHas_17 : decode cX7_doorHas 17 = .ok (.ifCond .ne 6, 3) := by decide +kernel
theorem dX7_doorHas_20 : decode cX7_doorHas 20 = .ok (.ldc 64, 2) := by decide +kernel
theorem dX7_doorHas_22 : decode cX7_doorHas 22 = .ok (.ireturn, 1) := by decide +kernel
theorem dX7_doorHas_23 : decode cX7_doorHas 23 = .ok (.iload_n 2, 1) := by decide +kernel
theorem dX7_doorHas_24 : decode cX7_doorHas 24 = .ok (.ifCond .ne 15, 3) := by decide +kernel
theorem dX7_doorHas_27 : decode cX7_doorHas 27 = .ok (.aload_n 0, 1) := by decide +kernel
theorem dX7_doorHas_28 : decode cX7_doorHas 28 = .ok (.getfield 19, 3) := by decide +kernel
theorem dX7_doorHas_31 : decode cX7_doorHas 31 = .ok (.bipush 13, 2) := by decide +kernel
theorem dX7_doorHas_33 : decode cX7_doorHas 33 = .ok (.iload_n 1, 1) := by decide +kernel
theorem dX7_doorHas_34 : decode cX7_doorHas 34 = .ok (.iadd, 1) := by decide +kernel
theorem dX7_doorHas_35 : decode cX7_doorHas 35 = .ok (.iaload, 1) := by decide +kernel
theorem dX7_doorHas_36 : decode cX7_doorHas 36 = .ok (.goto 29, 3) := by decide +kernel
theorem dX7_doorHas_39 : decode cX7_doorHas 39 = .ok (.iload_n 2, 1) := by decide +kernel
theorem dX7_doorHas_40 : decode cX7_doorHas 40 = .ok (.iconst 1, 1) := by decide +kernel
theorem dX7_doorHas_41 : decode cX7_doorHas 41 = .ok (.if_icmp .ne 15, 3) := by decide +kernel
theorem dX7_doorHas_44 : decode cX7_doorHas 44 = .ok (.aload_n 0, 1) := by decide +kernel
theorem dX7_doorHas_45 : decode cX7_doorHas 45 = .ok (.getfield 19, 3) := by decide +kernel
theorem dX7_doorHas_48 : decode cX7_doorHas 48 = .ok (.bipush 21, 2) := by decide +kernel
theorem dX7_doorHas_50 : decode cX7_doorHas 50 = .ok (.iload_n 1, 1) := by decide +kernel
theorem dX7_doorHas_51 : decode cX7_doorHas 51 = .ok (.iadd, 1) := by decide +kernel
theorem dX7_doorHas_52 : decode cX7_doorHas 52 = .ok (.iaload, 1) := by decide +kernel
theorem dX7_doorHas_53 : decode cX7_doorHas 53 = .ok (.goto 12, 3) := by decide +kernel
theorem dX7_doorHas_56 : decode cX7_doorHas 56 = .ok (.aload_n 0, 1) := by decide +kernel
theorem dX7_doorHas_57 : decode cX7_doorHas 57 = .ok (.getfield 19, 3) := by decide +kernel
theorem dX7_doorHas_60 : decode cX7_doorHas 60 = .ok (.bipush 29, 2) := by decide +kernel
theorem dX7_doorHas_62 : decode cX7_doorHas 62 = .ok (.iload_n 1, 1) := by decide +kernel
theorem dX7_doorHas_63 : decode cX7_doorHas 63 = .ok (.iadd, 1) := by decide +kernel
theorem dX7_doorHas_64 : decode cX7_doorHas 64 = .ok (.iaload, 1) := by decide +kernel
theorem dX7_doorHas_65 : decode cX7_doorHas 65 = .ok (.ireturn, 1) := by decide +kernel
theorem dX7_isCold_0 : decode cX7_isCold 0 = .ok (.aload_n 0, 1) := by decide +kernel
theorem dX7_isCold_1 : decode cX7_isCold 1 = .ok (.getfield 19, 3) := by decide +kernel
theorem dX7_isCold_4 : decode cX7_isCold 4 = .ok (.bipush 7, 2) := by decide +kernel
theorem dX7_isCold_6 : decode cX7_isCold 6 = .ok (.aload_n 0, 1) := by decide +kernel
theorem dX7_isCold_7 : decode cX7_isCold 7 = .ok (.getfield 19, 3) := by decide +kernel
theorem dX7_isCold_10 : decode cX7_isCold 10 = .ok (.bipush 42, 2) := by decide +kernel
theorem dX7_isCold_12 : decode cX7_isCold 12 = .ok (.iload_n 1, 1) := by decide +kernel
theorem dX7_isCold_13 : decode cX7_isCold 13 = .ok (.iadd, 1) := by decide +kernel
theorem dX7_isCold_14 : decode cX7_isCold 14 = .ok (.iaload, 1) := by decide +kernel
theorem dX7_isCold_15 : decode cX7_isCold 15 = .ok (.iadd, 1) := by decide +kernel
theorem dX7_isCold_16 : decode cX7_isCold 16 = .ok (.iaload, 1) := by decide +kernel
theorem dX7_isCold_17 : decode cX7_isCold 17 = .ok (.aload_n 0, 1) := by decide +kernel
theorem dX7_isCold_18 : decode cX7_isCold 18 = .ok (.getfield 19, 3) := by decide +kernel
theorem dX7_isCold_21 : decode cX7_isCold 21 = .ok (.iconst 3, 1) := by decide +kernel
theorem dX7_isCold_22 : decode cX7_isCold 22 = .ok (.iaload, 1) := by decide +kernel
theorem dX7_isCold_23 : decode cX7_isCold 23 = .ok (.if_icmp .le 7, 3) := by decide +kernel
theorem dX7_isCold_26 : decode cX7_isCold 26 = .ok (.iconst 1, 1) := by decide +kernel
theorem dX7_isCold_27 : decode cX7_isCold 27 = .ok (.goto 4, 3) := by decide +kernel
theorem dX7_isCold_30 : decode cX7_isCold 30 = .ok (.iconst 0, 1) := by decide +kernel
theorem dX7_isCold_31 : decode cX7_isCold 31 = .ok (.ireturn, 1) := by decide +kernel
theorem dX7_sitter_0 : decode cX7_sitter 0 = .ok (.aload_n 0, 1) := by decide +kernel
theorem dX7_sitter_1 : decode cX7_sitter 1 = .ok (.iload_n 1, 1) := by decide +kernel
theorem dX7_sitter_2 : decode cX7_sitter 2 = .ok (.invokevirtual 172, 3) := by decide +kernel
theorem dX7_sitter_5 : decode cX7_sitter 5 = .ok (.ifCond .eq 15, 3) := by decide +kernel
theorem dX7_sitter_8 : decode cX7_sitter 8 = .ok (.iload_n 2, 1) := by decide +kernel
theorem dX7_sitter_9 : decode cX7_sitter 9 = .ok (.i2l, 1) := by decide +kernel
theorem dX7_sitter_10 : decode cX7_sitter 10 = .ok (.lconst 0, 1) := by decide +kernel
theorem dX7_sitter_11 : decode cX7_sitter 11 = .ok (.ldc2_w 62, 3) := by decide +kernel
theorem dX7_sitter_14 : decode cX7_sitter 14 = .ok (.invokestatic 54, 3) := by decide +kernel
theorem dX7_sitter_17 : decode cX7_sitter 17 = .ok (.ifCond .ne 6, 3) := by decide +kernel
theorem dX7_sitter_20 : decode cX7_sitter 20 = .ok (.ldc 64, 2) := by decide +kernel
theorem dX7_sitter_22 : decode cX7_sitter 22 = .ok (.ireturn, 1) := by decide +kernel
theorem dX7_sitter_23 : decode cX7_sitter 23 = .ok (.iload_n 2, 1) := by decide +kernel
theorem dX7_sitter_24 : decode cX7_sitter 24 = .ok (.ifCond .ne 15, 3) := by decide +kernel
theorem dX7_sitter_27 : decode cX7_sitter 27 = .ok (.aload_n 0, 1) := by decide +kernel
theorem dX7_sitter_28 : decode cX7_sitter 28 = .ok (.getfield 19, 3) := by decide +kernel
theorem dX7_sitter_31 : decode cX7_sitter 31 = .ok (.bipush 42, 2) := by decide +kernel
theorem dX7_sitter_33 : decode cX7_sitter 33 = .ok (.iload_n 1, 1) := by decide +kernel
theorem dX7_sitter_34 : decode cX7_sitter 34 = .ok (.iadd, 1) := by decide +kernel
theorem dX7_sitter_35 : decode cX7_sitter 35 = .ok (.iaload, 1) := by decide +kernel
theorem dX7_sitter_36 : decode cX7_sitter 36 = .ok (.goto 33, 3) := by decide +kernel
theorem dX7_sitter_39 : decode cX7_sitter 39 = .ok (.iload_n 2, 1) := by decide +kernel
theorem dX7_sitter_40 : decode cX7_sitter 40 = .ok (.iconst 1, 1) := by decide +kernel
theorem dX7_sitter_41 : decode cX7_sitter 41 = .ok (.if_icmp .ne 15, 3) := by decide +kernel
theorem dX7_sitter_44 : decode cX7_sitter 44 = .ok (.aload_n 0, 1) := by decide +kernel
theorem dX7_sitter_45 : decode cX7_sitter 45 = .ok (.getfield 19, 3) := by decide +kernel
theorem dX7_sitter_48 : decode cX7_sitter 48 = .ok (.bipush 47, 2) := by decide +kernel
theorem dX7_sitter_50 : decode cX7_sitter 50 = .ok (.iload_n 1, 1) := by decide +kernel
theorem dX7_sitter_51 : decode cX7_sitter 51 = .ok (.iadd, 1) := by decide +kernel
theorem dX7_sitter_52 : decode cX7_sitter 52 = .ok (.iaload, 1) := by decide +kernel
theorem dX7_sitter_53 : decode cX7_sitter 53 = .ok (.goto 16, 3) := by decide +kernel
theorem dX7_sitter_56 : decode cX7_sitter 56 = .ok (.aload_n 0, 1) := by decide +kernel
theorem dX7_sitter_57 : decode cX7_sitter 57 = .ok (.iload_n 1, 1) := by decide +kernel
theorem dX7_sitter_58 : decode cX7_sitter 58 = .ok (.invokevirtual 180, 3) := by decide +kernel
theorem dX7_sitter_61 : decode cX7_sitter 61 = .ok (.ifCond .eq 7, 3) := by decide +kernel
theorem dX7_sitter_64 : decode cX7_sitter 64 = .ok (.iconst 1, 1) := by decide +kernel
theorem dX7_sitter_65 : decode cX7_sitter 65 = .ok (.goto 4, 3) := by decide +kernel
theorem dX7_sitter_68 : decode cX7_sitter 68 = .ok (.iconst 0, 1) := by decide +kernel
theorem dX7_sitter_69 : decode cX7_sitter 69 = .ok (.ireturn, 1) := by decide +kernel
theorem dX7_putAside_0 : decode cX7_putAside 0 = .ok (.iconst 0, 1) := by decide +kernel
theorem dX7_putAside_1 : decode cX7_putAside 1 = .ok (.istore_n 1, 1) := by decide +kernel
theorem dX7_putAside_2 : decode cX7_putAside 2 = .ok (.iload_n 1, 1) := by decide +kernel
theorem dX7_putAside_3 : decode cX7_putAside 3 = .ok (.bipush 52, 2) := by decide +kernel
theorem dX7_putAside_5 : decode cX7_putAside 5 = .ok (.if_icmp .ge 21, 3) := by decide +kernel
theorem dX7_putAside_8 : decode cX7_putAside 8 = .ok (.aload_n 0, 1) := by decide +kernel
theorem dX7_putAside_9 : decode cX7_putAside 9 = .ok (.getfield 34, 3) := by decide +kernel
theorem dX7_putAside_12 : decode cX7_putAside 12 = .ok (.iload_n 1, 1) := by decide +kernel
theorem dX7_putAside_13 : decode cX7_putAside 13 = .ok (.aload_n 0, 1) := by decide +kernel
theorem dX7_putAside_14 : decode cX7_putAside 14 = .ok (.getfield 19, 3) := by decide +kernel
theorem dX7_putAside_17 : decode cX7_putAside 17 = .ok (.iload_n 1, 1) := by decide +kernel
theorem dX7_putAside_18 : decode cX7_putAside 18 = .ok (.iaload, 1) := by decide +kernel
theorem dX7_putAside_19 : decode cX7_putAside 19 = .ok (.iastore, 1) := by decide +kernel
theorem dX7_putAside_20 : decode cX7_putAside 20 = .ok (.iinc 1 1, 3) := by decide +kernel
theorem dX7_putAside_23 : decode cX7_putAside 23 = .ok (.goto (-21), 3) := by decide +kernel
theorem dX7_putAside_26 : decode cX7_putAside 26 = .ok (.return_, 1) := by decide +kernel
theorem dX7_takeBack_0 : decode cX7_takeBack 0 = .ok (.iconst 0, 1) := by decide +kernel
theorem dX7_takeBack_1 : decode cX7_takeBack 1 = .ok (.istore_n 1, 1) := by decide +kernel
theorem dX7_takeBack_2 : decode cX7_takeBack 2 = .ok (.iload_n 1, 1) := by decide +kernel
theorem dX7_takeBack_3 : decode cX7_takeBack 3 = .ok (.bipush 52, 2) := by decide +kernel
theorem dX7_takeBack_5 : decode cX7_takeBack 5 = .ok (.if_icmp .ge 21, 3) := by decide +kernel
theorem dX7_takeBack_8 : decode cX7_takeBack 8 = .ok (.aload_n 0, 1) := by decide +kernel
theorem dX7_takeBack_9 : decode cX7_takeBack 9 = .ok (.getfield 19, 3) := by decide +kernel
theorem dX7_takeBack_12 : decode cX7_takeBack 12 = .ok (.iload_n 1, 1) := by decide +kernel
theorem dX7_takeBack_13 : decode cX7_takeBack 13 = .ok (.aload_n 0, 1) := by decide +kernel
theorem dX7_takeBack_14 : decode cX7_takeBack 14 = .ok (.getfield 34, 3) := by decide +kernel
theorem dX7_takeBack_17 : decode cX7_takeBack 17 = .ok (.iload_n 1, 1) := by decide +kernel
theorem dX7_takeBack_18 : decode cX7_takeBack 18 = .ok (.iaload, 1) := by decide +kernel
theorem dX7_takeBack_19 : decode cX7_takeBack 19 = .ok (.iastore, 1) := by decide +kernel
theorem dX7_takeBack_20 : decode cX7_takeBack 20 = .ok (.iinc 1 1, 3) := by decide +kernel
theorem dX7_takeBack_23 : decode cX7_takeBack 23 = .ok (.goto (-21), 3) := by decide +kernel
theorem dX7_takeBack_26 : decode cX7_takeBack 26 = .ok (.return_, 1) := by decide +kernel
theorem dX7_goOn_0 : decode cX7_goOn 0 = .ok (.iconst 0, 1) := by decide +kernel
theorem dX7_goOn_1 : decode cX7_goOn 1 = .ok (.istore_n 2, 1) := by decide +kernel
theorem dX7_goOn_2 : decode cX7_goOn 2 = .ok (.iload_n 2, 1) := by decide +kernel
theorem dX7_goOn_3 : decode cX7_goOn 3 = .ok (.iload_n 1, 1) := by decide +kernel
theorem dX7_goOn_4 : decode cX7_goOn 4 = .ok (.if_icmp .ge 13, 3) := by decide +kernel
theorem dX7_goOn_7 : decode cX7_goOn 7 = .ok (.aload_n 0, 1) := by decide +kernel
theorem dX7_goOn_8 : decode cX7_goOn 8 = .ok (.invokevirtual 159, 3) := by decide +kernel
theorem dX7_goOn_11 : decode cX7_goOn 11 = .ok (.iinc 2 1, 3) := by decide +kernel
theorem dX7_goOn_14 : decode cX7_goOn 14 = .ok (.goto (-12), 3) := by decide +kernel
theorem dX7_goOn_17 : decode cX7_goOn 17 = .ok (.return_, 1) := by decide +kernel
theorem dX7_ahead_0 : decode cX7_ahead 0 = .ok (.aload_n 0, 1) := by decide +kernel
theorem dX7_ahead_1 : decode cX7_ahead 1 = .ok (.getfield 135, 3) := by decide +kernel
theorem dX7_ahead_4 : decode cX7_ahead 4 = .ok (.ifCond .ne 6, 3) := by decide +kernel
theorem dX7_ahead_7 : decode cX7_ahead 7 = .ok (.ldc 142, 2) := by decide +kernel
theorem dX7_ahead_9 : decode cX7_ahead 9 = .ok (.ireturn, 1) := by decide +kernel
theorem dX7_ahead_10 : decode cX7_ahead 10 = .ok (.iload_n 1, 1) := by decide +kernel
theorem dX7_ahead_11 : decode cX7_ahead 11 = .ok (.i2l, 1) := by decide +kernel
theorem dX7_ahead_12 : decode cX7_ahead 12 = .ok (.lconst 0, 1) := by decide +kernel
theorem dX7_ahead_13 : decode cX7_ahead 13 = .ok (.ldc2_w 183, 3) := by decide +kernel
theorem dX7_ahead_16 : decode cX7_ahead 16 = .ok (.invokestatic 54, 3) := by decide +kernel
theorem dX7_ahead_19 : decode cX7_ahead 19 = .ok (.ifCond .eq 11, 3) := by decide +kernel
theorem dX7_ahead_22 : decode cX7_ahead 22 = .ok (.aload_n 0, 1) := by decide +kernel
theorem dX7_ahead_23 : decode cX7_ahead 23 = .ok (.iload_n 2, 1) := by decide +kernel
theorem dX7_ahead_24 : decode cX7_ahead 24 = .ok (.invokevirtual 175, 3) := by decide +kernel
theorem dX7_ahead_27 : decode cX7_ahead 27 = .ok (.ifCond .ne 6, 3) := by decide +kernel
theorem dX7_ahead_30 : decode cX7_ahead 30 = .ok (.ldc 64, 2) := by decide +kernel
theorem dX7_ahead_32 : decode cX7_ahead 32 = .ok (.ireturn, 1) := by decide +kernel
theorem dX7_ahead_33 : decode cX7_ahead 33 = .ok (.aload_n 0, 1) := by decide +kernel
theorem dX7_ahead_34 : decode cX7_ahead 34 = .ok (.invokevirtual 185, 3) := by decide +kernel
theorem dX7_ahead_37 : decode cX7_ahead 37 = .ok (.aload_n 0, 1) := by decide +kernel
theorem dX7_ahead_38 : decode cX7_ahead 38 = .ok (.iload_n 1, 1) := by decide +kernel
theorem dX7_ahead_39 : decode cX7_ahead 39 = .ok (.invokevirtual 188, 3) := by decide +kernel
theorem dX7_ahead_42 : decode cX7_ahead 42 = .ok (.aload_n 0, 1) := by decide +kernel
theorem dX7_ahead_43 : decode cX7_ahead 43 = .ok (.getfield 19, 3) := by decide +kernel
theorem dX7_ahead_46 : decode cX7_ahead 46 = .ok (.bipush 7, 2) := by decide +kernel
theorem dX7_ahead_48 : decode cX7_ahead 48 = .ok (.iload_n 2, 1) := by decide +kernel
theorem dX7_ahead_49 : decode cX7_ahead 49 = .ok (.iadd, 1) := by decide +kernel
theorem dX7_ahead_50 : decode cX7_ahead 50 = .ok (.iaload, 1) := by decide +kernel
theorem dX7_ahead_51 : decode cX7_ahead 51 = .ok (.istore_n 3, 1) := by decide +kernel
theorem dX7_ahead_52 : decode cX7_ahead 52 = .ok (.aload_n 0, 1) := by decide +kernel
theorem dX7_ahead_53 : decode cX7_ahead 53 = .ok (.invokevirtual 192, 3) := by decide +kernel
theorem dX7_ahead_56 : decode cX7_ahead 56 = .ok (.iload_n 3, 1) := by decide +kernel
theorem dX7_ahead_57 : decode cX7_ahead 57 = .ok (.ireturn, 1) := by decide +kernel
theorem dX7_allAhead_0 : decode cX7_allAhead 0 = .ok (.aload_n 0, 1) := by decide +kernel
theorem dX7_allAhead_1 : decode cX7_allAhead 1 = .ok (.getfield 135, 3) := by decide +kernel
theorem dX7_allAhead_4 : decode cX7_allAhead 4 = .ok (.ifCond .ne 6, 3) := by decide +kernel
theorem dX7_allAhead_7 : decode cX7_allAhead 7 = .ok (.ldc 142, 2) := by decide +kernel
theorem dX7_allAhead_9 : decode cX7_allAhead 9 = .ok (.ireturn, 1) := by decide +kernel
theorem dX7_allAhead_10 : decode cX7_allAhead 10 = .ok (.iload_n 1, 1) := by decide +kernel
theorem dX7_allAhead_11 : decode cX7_allAhead 11 = .ok (.i2l, 1) := by decide +kernel
theorem dX7_allAhead_12 : decode cX7_allAhead 12 = .ok (.lconst 0, 1) := by decide +kernel
theorem dX7_allAhead_13 : decode cX7_allAhead 13 = .ok (.ldc2_w 183, 3) := by decide +kernel
theorem dX7_allAhead_16 : decode cX7_allAhead 16 = .ok (.invokestatic 54, 3) := by decide +kernel
theorem dX7_allAhead_19 : decode cX7_allAhead 19 = .ok (.ifCond .ne 6, 3) := by decide +kernel
theorem dX7_allAhead_22 : decode cX7_allAhead 22 = .ok (.ldc 64, 2) := by decide +kernel
theorem dX7_allAhead_24 : decode cX7_allAhead 24 = .ok (.ireturn, 1) := by decide +kernel
theorem dX7_allAhead_25 : decode cX7_allAhead 25 = .ok (.aload_n 0, 1) := by decide +kernel
theorem dX7_allAhead_26 : decode cX7_allAhead 26 = .ok (.invokevirtual 185, 3) := by decide +kernel
theorem dX7_allAhead_29 : decode cX7_allAhead 29 = .ok (.aload_n 0, 1) := by decide +kernel
theorem dX7_allAhead_30 : decode cX7_allAhead 30 = .ok (.iload_n 1, 1) := by decide +kernel
theorem dX7_allAhead_31 : decode cX7_allAhead 31 = .ok (.invokevirtual 188, 3) := by decide +kernel
theorem dX7_allAhead_34 : decode cX7_allAhead 34 = .ok (.aload_n 0, 1) := by decide +kernel
theorem dX7_allAhead_35 : decode cX7_allAhead 35 = .ok (.invokevirtual 162, 3) := by decide +kernel
theorem dX7_allAhead_38 : decode cX7_allAhead 38 = .ok (.istore_n 2, 1) := by decide +kernel
theorem dX7_allAhead_39 : decode cX7_allAhead 39 = .ok (.aload_n 0, 1) := by decide +kernel
theorem dX7_allAhead_40 : decode cX7_allAhead 40 = .ok (.invokevirtual 192, 3) := by decide +kernel
theorem dX7_allAhead_43 : decode cX7_allAhead 43 = .ok (.iload_n 2, 1) := by decide +kernel
theorem dX7_allAhead_44 : decode cX7_allAhead 44 = .ok (.ireturn, 1) := by decide +kernel
theorem dX7_firstCold_0 : decode cX7_firstCold 0 = .ok (.iconst 0, 1) := by decide +kernel
theorem dX7_firstCold_1 : decode cX7_firstCold 1 = .ok (.istore_n 1, 1) := by decide +kernel
theorem dX7_firstCold_2 : decode cX7_firstCold 2 = .ok (.iload_n 1, 1) := by decide +kernel
theorem dX7_firstCold_3 : decode cX7_firstCold 3 = .ok (.aload_n 0, 1) := by decide +kernel
theorem dX7_firstCold_4 : decode cX7_firstCold 4 = .ok (.getfield 19, 3) := by decide +kernel
theorem dX7_firstCold_7 : decode cX7_firstCold 7 = .ok (.iconst 5, 1) := by decide +kernel
theorem dX7_firstCold_8 : decode cX7_firstCold 8 = .ok (.iaload, 1) := by decide +kernel
theorem dX7_firstCold_9 : decode cX7_firstCold 9 = .ok (.if_icmp .ge 19, 3) := by decide +kernel
theorem dX7_firstCold_12 : decode cX7_firstCold 12 = .ok (.aload_n 0, 1) := by decide +kernel
theorem dX7_firstCold_13 : decode cX7_firstCold 13 = .ok (.iload_n 1, 1) := by decide +kernel
theorem dX7_firstCold_14 : decode cX7_firstCold 14 = .ok (.invokevirtual 180, 3) := by decide +kernel
theorem dX7_firstCold_17 : decode cX7_firstCold 17 = .ok (.ifCond .eq 5, 3) := by decide +kernel
theorem dX7_firstCold_20 : decode cX7_firstCold 20 = .ok (.iload_n 1, 1) := by decide +kernel
theorem dX7_firstCold_21 : decode cX7_firstCold 21 = .ok (.ireturn, 1) := by decide +kernel
theorem dX7_firstCold_22 : decode cX7_firstCold 22 = .ok (.iinc 1 1, 3) := by decide +kernel
theorem dX7_firstCold_25 : decode cX7_firstCold 25 = .ok (.goto (-23), 3) := by decide +kernel
theorem dX7_firstCold_28 : decode cX7_firstCold 28 = .ok (.iconst (-1), 1) := by decide +kernel
theorem dX7_firstCold_29 : decode cX7_firstCold 29 = .ok (.ireturn, 1) := by decide +kernel
theorem dX7_shivers_0 : decode cX7_shivers 0 = .ok (.aload_n 0, 1) := by decide +kernel
theorem dX7_shivers_1 : decode cX7_shivers 1 = .ok (.getfield 135, 3) := by decide +kernel
theorem dX7_shivers_4 : decode cX7_shivers 4 = .ok (.ifCond .ne 6, 3) := by decide +kernel
theorem dX7_shivers_7 : decode cX7_shivers 7 = .ok (.ldc 142, 2) := by decide +kernel
theorem dX7_shivers_9 : decode cX7_shivers 9 = .ok (.ireturn, 1) := by decide +kernel
theorem dX7_shivers_10 : decode cX7_shivers 10 = .ok (.iload_n 1, 1) := by decide +kernel
theorem dX7_shivers_11 : decode cX7_shivers 11 = .ok (.i2l, 1) := by decide +kernel
theorem dX7_shivers_12 : decode cX7_shivers 12 = .ok (.lconst 0, 1) := by decide +kernel
theorem dX7_shivers_13 : decode cX7_shivers 13 = .ok (.lconst 1, 1) := by decide +kernel
theorem dX7_shivers_14 : decode cX7_shivers 14 = .ok (.invokestatic 54, 3) := by decide +kernel
theorem dX7_shivers_17 : decode cX7_shivers 17 = .ok (.ifCond .ne 6, 3) := by decide +kernel
theorem dX7_shivers_20 : decode cX7_shivers 20 = .ok (.ldc 64, 2) := by decide +kernel
theorem dX7_shivers_22 : decode cX7_shivers 22 = .ok (.ireturn, 1) := by decide +kernel
theorem dX7_shivers_23 : decode cX7_shivers 23 = .ok (.aload_n 0, 1) := by decide +kernel
theorem dX7_shivers_24 : decode cX7_shivers 24 = .ok (.invokevirtual 185, 3) := by decide +kernel
theorem dX7_shivers_27 : decode cX7_shivers 27 = .ok (.iconst 0, 1) := by decide +kernel
theorem dX7_shivers_28 : decode cX7_shivers 28 = .ok (.istore_n 2, 1) := by decide +kernel
theorem dX7_shivers_29 : decode cX7_shivers 29 = .ok (.aload_n 0, 1) := by decide +kernel
theorem dX7_shivers_30 : decode cX7_shivers 30 = .ok (.invokevirtual 195, 3) := by decide +kernel
theorem dX7_shivers_33 : decode cX7_shivers 33 = .ok (.istore_n 3, 1) := by decide +kernel
theorem dX7_shivers_34 : decode cX7_shivers 34 = .ok (.iload_n 3, 1) := by decide +kernel
theorem dX7_shivers_35 : decode cX7_shivers 35 = .ok (.ifCond .ge 24, 3) := by decide +kernel
theorem dX7_shivers_38 : decode cX7_shivers 38 = .ok (.iload_n 2, 1) := by decide +kernel
theorem dX7_shivers_39 : decode cX7_shivers 39 = .ok (.bipush 60, 2) := by decide +kernel
theorem dX7_shivers_41 : decode cX7_shivers 41 = .ok (.if_icmp .ge 18, 3) := by decide +kernel
theorem dX7_shivers_44 : decode cX7_shivers 44 = .ok (.aload_n 0, 1) := by decide +kernel
theorem dX7_shivers_45 : decode cX7_shivers 45 = .ok (.invokevirtual 159, 3) := by decide +kernel
theorem dX7_shivers_48 : decode cX7_shivers 48 = .ok (.iinc 2 1, 3) := by decide +kernel
theorem dX7_shivers_51 : decode cX7_shivers 51 = .ok (.aload_n 0, 1) := by decide +kernel
theorem dX7_shivers_52 : decode cX7_shivers 52 = .ok (.invokevirtual 195, 3) := by decide +kernel
theorem dX7_shivers_55 : decode cX7_shivers 55 = .ok (.istore_n 3, 1) := by decide +kernel
theorem dX7_shivers_56 : decode cX7_shivers 56 = .ok (.goto (-22), 3) := by decide +kernel
theorem dX7_shivers_59 : decode cX7_shivers 59 = .ok (.aload_n 0, 1) := by decide +kernel
theorem dX7_shivers_60 : decode cX7_shivers 60 = .ok (.invokevirtual 192, 3) := by decide +kernel
theorem dX7_shivers_63 : decode cX7_shivers 63 = .ok (.iload_n 3, 1) := by decide +kernel
theorem dX7_shivers_64 : decode cX7_shivers 64 = .ok (.ifCond .ge 8, 3) := by decide +kernel
theorem dX7_shivers_67 : decode cX7_shivers 67 = .ok (.ldc 198, 2) := by decide +kernel
theorem dX7_shivers_69 : decode cX7_shivers 69 = .ok (.goto 12, 3) := by decide +kernel
theorem dX7_shivers_72 : decode cX7_shivers 72 = .ok (.iload_n 1, 1) := by decide +kernel
theorem dX7_shivers_73 : decode cX7_shivers 73 = .ok (.ifCond .ne 7, 3) := by decide +kernel
theorem dX7_shivers_76 : decode cX7_shivers 76 = .ok (.iload_n 2, 1) := by decide +kernel
theorem dX7_shivers_77 : decode cX7_shivers 77 = .ok (.goto 4, 3) := by decide +kernel
theorem dX7_shivers_80 : decode cX7_shivers 80 = .ok (.iload_n 3, 1) := by decide +kernel
theorem dX7_shivers_81 : decode cX7_shivers 81 = .ok (.ireturn, 1) := by decide +kernel
theorem dX7_areRooms_0 : decode cX7_areRooms 0 = .ok (.iload_n 1, 1) := by decide +kernel
theorem dX7_areRooms_1 : decode cX7_areRooms 1 = .ok (.i2l, 1) := by decide +kernel
theorem dX7_areRooms_2 : decode cX7_areRooms 2 = .ok (.lconst 0, 1) := by decide +kernel
theorem dX7_areRooms_3 : decode cX7_areRooms 3 = .ok (.iconst 1, 1) := by decide +kernel
theorem dX7_areRooms_4 : decode cX7_areRooms 4 = .ok (.aload_n 0, 1) := by decide +kernel
theorem dX7_areRooms_5 : decode cX7_areRooms 5 = .ok (.getfield 19, 3) := by decide +kernel
theorem dX7_areRooms_8 : decode cX7_areRooms 8 = .ok (.iconst 0, 1) := by decide +kernel
theorem dX7_areRooms_9 : decode cX7_areRooms 9 = .ok (.iaload, 1) := by decide +kernel
theorem dX7_areRooms_10 : decode cX7_areRooms 10 = .ok (.ishl, 1) := by decide +kernel
theorem dX7_areRooms_11 : decode cX7_areRooms 11 = .ok (.iconst 1, 1) := by decide +kernel
theorem dX7_areRooms_12 : decode cX7_areRooms 12 = .ok (.isub, 1) := by decide +kernel
theorem dX7_areRooms_13 : decode cX7_areRooms 13 = .ok (.i2l, 1) := by decide +kernel
theorem dX7_areRooms_14 : decode cX7_areRooms 14 = .ok (.invokestatic 54, 3) := by decide +kernel
theorem dX7_areRooms_17 : decode cX7_areRooms 17 = .ok (.ireturn, 1) := by decide +kernel
theorem dX7_turn_0 : decode cX7_turn 0 = .ok (.iconst 0, 1) := by decide +kernel
theorem dX7_turn_1 : decode cX7_turn 1 = .ok (.istore_n 2, 1) := by decide +kernel
theorem dX7_turn_2 : decode cX7_turn 2 = .ok (.iload_n 2, 1) := by decide +kernel
theorem dX7_turn_3 : decode cX7_turn 3 = .ok (.aload_n 0, 1) := by decide +kernel
theorem dX7_turn_4 : decode cX7_turn 4 = .ok (.getfield 19, 3) := by decide +kernel
theorem dX7_turn_7 : decode cX7_turn 7 = .ok (.iconst 4, 1) := by decide +kernel
theorem dX7_turn_8 : decode cX7_turn 8 = .ok (.iaload, 1) := by decide +kernel
theorem dX7_turn_9 : decode cX7_turn 9 = .ok (.if_icmp .ge 49, 3) := by decide +kernel
theorem dX7_turn_12 : decode cX7_turn 12 = .ok (.aload_n 0, 1) := by decide +kernel
theorem dX7_turn_13 : decode cX7_turn 13 = .ok (.getfield 19, 3) := by decide +kernel
theorem dX7_turn_16 : decode cX7_turn 16 = .ok (.bipush 29, 2) := by decide +kernel
theorem dX7_turn_18 : decode cX7_turn 18 = .ok (.iload_n 2, 1) := by decide +kernel
theorem dX7_turn_19 : decode cX7_turn 19 = .ok (.iadd, 1) := by decide +kernel
theorem dX7_turn_20 : decode cX7_turn 20 = .ok (.iload_n 1, 1) := by decide +kernel
theorem dX7_turn_21 : decode cX7_turn 21 = .ok (.iload_n 2, 1) := by decide +kernel
theorem dX7_turn_22 : decode cX7_turn 22 = .ok (.invokestatic 199, 3) := by decide +kernel
theorem dX7_turn_25 : decode cX7_turn 25 = .ok (.ifCond .eq 17, 3) := by decide +kernel
theorem dX7_turn_28 : decode cX7_turn 28 = .ok (.iconst 1, 1) := by decide +kernel
theorem dX7_turn_29 : decode cX7_turn 29 = .ok (.aload_n 0, 1) := by decide +kernel
theorem dX7_turn_30 : decode cX7_turn 30 = .ok (.getfield 19, 3) := by decide +kernel
theorem dX7_turn_33 : decode cX7_turn 33 = .ok (.bipush 29, 2) := by decide +kernel
theorem dX7_turn_35 : decode cX7_turn 35 = .ok (.iload_n 2, 1) := by decide +kernel
theorem dX7_turn_36 : decode cX7_turn 36 = .ok (.iadd, 1) := by decide +kernel
theorem dX7_turn_37 : decode cX7_turn 37 = .ok (.iaload, 1) := by decide +kernel
theorem dX7_turn_38 : decode cX7_turn 38 = .ok (.isub, 1) := by decide +kernel
theorem dX7_turn_39 : decode cX7_turn 39 = .ok (.goto 12, 3) := by decide +kernel
theorem dX7_turn_42 : decode cX7_turn 42 = .ok (.aload_n 0, 1) := by decide +kernel
theorem dX7_turn_43 : decode cX7_turn 43 = .ok (.getfield 19, 3) := by decide +kernel
theorem dX7_turn_46 : decode cX7_turn 46 = .ok (.bipush 29, 2) := by decide +kernel
theorem dX7_turn_48 : decode cX7_turn 48 = .ok (.iload_n 2, 1) := by decide +kernel
theorem dX7_turn_49 : decode cX7_turn 49 = .ok (.iadd, 1) := by decide +kernel
theorem dX7_turn_50 : decode cX7_turn 50 = .ok (.iaload, 1) := by decide +kernel
theorem dX7_turn_51 : decode cX7_turn 51 = .ok (.iastore, 1) := by decide +kernel
theorem dX7_turn_52 : decode cX7_turn 52 = .ok (.iinc 2 1, 3) := by decide +kernel
theorem dX7_turn_55 : decode cX7_turn 55 = .ok (.goto (-53), 3) := by decide +kernel
theorem dX7_turn_58 : decode cX7_turn 58 = .ok (.return_, 1) := by decide +kernel
theorem dX7_coldRooms_0 : decode cX7_coldRooms 0 = .ok (.iconst 0, 1) := by decide +kernel
theorem dX7_coldRooms_1 : decode cX7_coldRooms 1 = .ok (.istore_n 2, 1) := by decide +kernel
theorem dX7_coldRooms_2 : decode cX7_coldRooms 2 = .ok (.iconst 0, 1) := by decide +kernel
theorem dX7_coldRooms_3 : decode cX7_coldRooms 3 = .ok (.istore_n 3, 1) := by decide +kernel
theorem dX7_coldRooms_4 : decode cX7_coldRooms 4 = .ok (.iload_n 3, 1) := by decide +kernel
theorem dX7_coldRooms_5 : decode cX7_coldRooms 5 = .ok (.aload_n 0, 1) := by decide +kernel
theorem dX7_coldRooms_6 : decode cX7_coldRooms 6 = .ok (.getfield 19, 3) := by decide +kernel
theorem dX7_coldRooms_9 : decode cX7_coldRooms 9 = .ok (.iconst 0, 1) := by decide +kernel
theorem dX7_coldRooms_10 : decode cX7_coldRooms 10 = .ok (.iaload, 1) := by decide +kernel
theorem dX7_coldRooms_11 : decode cX7_coldRooms 11 = .ok (.if_icmp .ge 32, 3) := by decide +kernel
theorem dX7_coldRooms_14 : decode cX7_coldRooms 14 = .ok (.iload_n 2, 1) := by decide +kernel
theorem dX7_coldRooms_15 : decode cX7_coldRooms 15 = .ok (.aload_n 0, 1) := by decide +kernel
theorem dX7_coldRooms_16 : decode cX7_coldRooms 16 = .ok (.getfield 19, 3) := by decide +kernel
theorem dX7_coldRooms_19 : decode cX7_coldRooms 19 = .ok (.bipush 7, 2) := by decide +kernel
theorem dX7_coldRooms_21 : decode cX7_coldRooms 21 = .ok (.iload_n 3, 1) := by decide +kernel
theorem dX7_coldRooms_22 : decode cX7_coldRooms 22 = .ok (.iadd, 1) := by decide +kernel
theorem dX7_coldRooms_23 : decode cX7_coldRooms 23 = .ok (.iaload, 1) := by decide +kernel
theorem dX7_coldRooms_24 : decode cX7_coldRooms 24 = .ok (.iload_n 1, 1) := by decide +kernel
theorem dX7_coldRooms_25 : decode cX7_coldRooms 25 = .ok (.if_icmp .lt 9, 3) := by decide +kernel
theorem dX7_coldRooms_28 : decode cX7_coldRooms 28 = .ok (.iconst 1, 1) := by decide +kernel
theorem dX7_coldRooms_29 : decode cX7_coldRooms 29 = .ok (.iload_n 3, 1) := by decide +kernel
theorem dX7_coldRooms_30 : decode cX7_coldRooms 30 = .ok (.ishl, 1) := by decide +kernel
theorem dX7_coldRooms_31 : decode cX7_coldRooms 31 = .ok (.goto 4, 3) := by decide +kernel
theorem dX7_coldRooms_34 : decode cX7_coldRooms 34 = .ok (.iconst 0, 1) := by decide +kernel
theorem dX7_coldRooms_35 : decode cX7_coldRooms 35 = .ok (.ior, 1) := by decide +kernel
theorem dX7_coldRooms_36 : decode cX7_coldRooms 36 = .ok (.istore_n 2, 1) := by decide +kernel
theorem dX7_coldRooms_37 : decode cX7_coldRooms 37 = .ok (.iinc 3 1, 3) := by decide +kernel
theorem dX7_coldRooms_40 : decode cX7_coldRooms 40 = .ok (.goto (-36), 3) := by decide +kernel
theorem dX7_coldRooms_43 : decode cX7_coldRooms 43 = .ok (.iload_n 2, 1) := by decide +kernel
theorem dX7_coldRooms_44 : decode cX7_coldRooms 44 = .ok (.ireturn, 1) := by decide +kernel
theorem dX7_moved_0 : decode cX7_moved 0 = .ok (.aload_n 0, 1) := by decide +kernel
theorem dX7_moved_1 : decode cX7_moved 1 = .ok (.getfield 135, 3) := by decide +kernel
theorem dX7_moved_4 : decode cX7_moved 4 = .ok (.ifCond .ne 6, 3) := by decide +kernel
theorem dX7_moved_7 : decode cX7_moved 7 = .ok (.ldc 142, 2) := by decide +kernel
theorem dX7_moved_9 : decode cX7_moved 9 = .ok (.ireturn, 1) := by decide +kernel
theorem dX7_moved_10 : decode cX7_moved 10 = .ok (.aload_n 0, 1) := by decide +kernel
theorem dX7_moved_11 : decode cX7_moved 11 = .ok (.iload_n 1, 1) := by decide +kernel
theorem dX7_moved_12 : decode cX7_moved 12 = .ok (.invokevirtual 203, 3) := by decide +kernel
theorem dX7_moved_15 : decode cX7_moved 15 = .ok (.ifCond .eq 53, 3) := by decide +kernel
theorem dX7_moved_18 : decode cX7_moved 18 = .ok (.aload_n 0, 1) := by decide +kernel
theorem dX7_moved_19 : decode cX7_moved 19 = .ok (.iload_n 2, 1) := by decide +kernel
theorem dX7_moved_20 : decode cX7_moved 20 = .ok (.invokevirtual 203, 3) := by decide +kernel
theorem dX7_moved_23 : decode cX7_moved 23 = .ok (.ifCond .eq 45, 3) := by decide +kernel
theorem dX7_moved_26 : decode cX7_moved 26 = .ok (.iload_n 1, 1) := by decide +kernel
theorem dX7_moved_27 : decode cX7_moved 27 = .ok (.iload_n 2, 1) := by decide +kernel
theorem dX7_moved_28 : decode cX7_moved 28 = .ok (.iand, 1) := by decide +kernel
theorem dX7_moved_29 : decode cX7_moved 29 = .ok (.ifCond .ne 39, 3) := by decide +kernel
theorem dX7_moved_32 : decode cX7_moved 32 = .ok (.iload_n 3, 1) := by decide +kernel
theorem dX7_moved_33 : decode cX7_moved 33 = .ok (.i2l, 1) := by decide +kernel
theorem dX7_moved_34 : decode cX7_moved 34 = .ok (.lconst 1, 1) := by decide +kernel
theorem dX7_moved_35 : decode cX7_moved 35 = .ok (.ldc2_w 206, 3) := by decide +kernel
theorem dX7_moved_38 : decode cX7_moved 38 = .ok (.invokestatic 54, 3) := by decide +kernel
theorem dX7_moved_41 : decode cX7_moved 41 = .ok (.ifCond .eq 27, 3) := by decide +kernel
theorem dX7_moved_44 : decode cX7_moved 44 = .ok (.iload 4, 2) := by decide +kernel
theorem dX7_moved_46 : decode cX7_moved 46 = .ok (.i2l, 1) := by decide +kernel
theorem dX7_moved_47 : decode cX7_moved 47 = .ok (.lconst 1, 1) := by decide +kernel
theorem dX7_moved_48 : decode cX7_moved 48 = .ok (.ldc2_w 154, 3) := by decide +kernel
theorem dX7_moved_51 : decode cX7_moved 51 = .ok (.invokestatic 54, 3) := by decide +kernel
theorem dX7_moved_54 : decode cX7_moved 54 = .ok (.ifCond .eq 14, 3) := by decide +kernel
theorem dX7_moved_57 : decode cX7_moved 57 = .ok (.iload 5, 2) := by decide +kernel
theorem dX7_moved_59 : decode cX7_moved 59 = .ok (.i2l, 1) := by decide +kernel
theorem dX7_moved_60 : decode cX7_moved 60 = .ok (.lconst 0, 1) := by decide +kernel
theorem dX7_moved_61 : decode cX7_moved 61 = .ok (.lconst 1, 1) := by decide +kernel
theorem dX7_moved_62 : decode cX7_moved 62 = .ok (.invokestatic 54, 3) := by decide +kernel
theorem dX7_moved_65 : decode cX7_moved 65 = .ok (.ifCond .ne 6, 3) := by decide +kernel
theorem dX7_moved_68 : decode cX7_moved 68 = .ok (.ldc 64, 2) := by decide +kernel
theorem dX7_moved_70 : decode cX7_moved 70 = .ok (.ireturn, 1) := by decide +kernel
theorem dX7_moved_71 : decode cX7_moved 71 = .ok (.aload_n 0, 1) := by decide +kernel
theorem dX7_moved_72 : decode cX7_moved 72 = .ok (.invokevirtual 185, 3) := by decide +kernel
theorem dX7_moved_75 : decode cX7_moved 75 = .ok (.iconst (-1), 1) := by decide +kernel
theorem dX7_moved_76 : decode cX7_moved 76 = .ok (.istore 6, 2) := by decide +kernel
theorem dX7_moved_78 : decode cX7_moved 78 = .ok (.iconst 0, 1) := by decide +kernel
theorem dX7_moved_79 : decode cX7_moved 79 = .ok (.istore 7, 2) := by decide +kernel
theorem dX7_moved_81 : decode cX7_moved 81 = .ok (.iload 7, 2) := by decide +kernel
theorem dX7_moved_83 : decode cX7_moved 83 = .ok (.iconst 1, 1) := by decide +kernel
theorem dX7_moved_84 : decode cX7_moved 84 = .ok (.aload_n 0, 1) := by decide +kernel
theorem dX7_moved_85 : decode cX7_moved 85 = .ok (.getfield 19, 3) := by decide +kernel
theorem dX7_moved_88 : decode cX7_moved 88 = .ok (.iconst 4, 1) := by decide +kernel
theorem dX7_moved_89 : decode cX7_moved 89 = .ok (.iaload, 1) := by decide +kernel
theorem dX7_moved_90 : decode cX7_moved 90 = .ok (.ishl, 1) := by decide +kernel
theorem dX7_moved_91 : decode cX7_moved 91 = .ok (.if_icmp .ge 75, 3) := by decide +kernel
theorem dX7_moved_94 : decode cX7_moved 94 = .ok (.iload 6, 2) := by decide +kernel
theorem dX7_moved_96 : decode cX7_moved 96 = .ok (.ifCond .lt 16, 3) := by decide +kernel
theorem dX7_moved_99 : decode cX7_moved 99 = .ok (.iload 7, 2) := by decide +kernel
theorem dX7_moved_101 : decode cX7_moved 101 = .ok (.invokestatic 208, 3) := by decide +kernel
theorem dX7_moved_104 : decode cX7_moved 104 = .ok (.iload 6, 2) := by decide +kernel
theorem dX7_moved_106 : decode cX7_moved 106 = .ok (.invokestatic 208, 3) := by decide +kernel
theorem dX7_moved_109 : decode cX7_moved 109 = .ok (.if_icmp .ge 51, 3) := by decide +kernel
theorem dX7_moved_112 : decode cX7_moved 112 = .ok (.aload_n 0, 1) := by decide +kernel
theorem dX7_moved_113 : decode cX7_moved 113 = .ok (.iload 7, 2) := by decide +kernel
theorem dX7_moved_115 : decode cX7_moved 115 = .ok (.invokevirtual 211, 3) := by decide +kernel
theorem dX7_moved_118 : decode cX7_moved 118 = .ok (.aload_n 0, 1) := by decide +kernel
theorem dX7_moved_119 : decode cX7_moved 119 = .ok (.iload 4, 2) := by decide +kernel
theorem dX7_moved_121 : decode cX7_moved 121 = .ok (.invokevirtual 188, 3) := by decide +kernel
theorem dX7_moved_124 : decode cX7_moved 124 = .ok (.aload_n 0, 1) := by decide +kernel
theorem dX7_moved_125 : decode cX7_moved 125 = .ok (.iload_n 3, 1) := by decide +kernel
theorem dX7_moved_126 : decode cX7_moved 126 = .ok (.invokevirtual 214, 3) := by decide +kernel
theorem dX7_moved_129 : decode cX7_moved 129 = .ok (.istore 8, 2) := by decide +kernel
theorem dX7_moved_131 : decode cX7_moved 131 = .ok (.iload_n 1, 1) := by decide +kernel
theorem dX7_moved_132 : decode cX7_moved 132 = .ok (.iload 8, 2) := by decide +kernel
theorem dX7_moved_134 : decode cX7_moved 134 = .ok (.iconst (-1), 1) := by decide +kernel
theorem dX7_moved_135 : decode cX7_moved 135 = .ok (.ixor, 1) := by decide +kernel
theorem dX7_moved_136 : decode cX7_moved 136 = .ok (.iand, 1) := by decide +kernel
theorem dX7_moved_137 : decode cX7_moved 137 = .ok (.ifCond .ne 15, 3) := by decide +kernel
theorem dX7_moved_140 : decode cX7_moved 140 = .ok (.iload_n 2, 1) := by decide +kernel
theorem dX7_moved_141 : decode cX7_moved 141 = .ok (.iload 8, 2) := by decide +kernel
theorem dX7_moved_143 : decode cX7_moved 143 = .ok (.iand, 1) := by decide +kernel
theorem dX7_moved_144 : decode cX7_moved 144 = .ok (.ifCond .ne 8, 3) := by decide +kernel
theorem dX7_moved_147 : decode cX7_moved 147 = .ok (.iload 7, 2) := by decide +kernel
theorem dX7_moved_149 : decode cX7_moved 149 = .ok (.goto 5, 3) := by decide +kernel
theorem dX7_moved_152 : decode cX7_moved 152 = .ok (.iload 6, 2) := by decide +kernel
theorem dX7_moved_154 : decode cX7_moved 154 = .ok (.istore 6, 2) := by decide +kernel
theorem dX7_moved_156 : decode cX7_moved 156 = .ok (.aload_n 0, 1) := by decide +kernel
theorem dX7_moved_157 : decode cX7_moved 157 = .ok (.invokevirtual 192, 3) := by decide +kernel
theorem dX7_moved_160 : decode cX7_moved 160 = .ok (.iinc 7 1, 3) := by decide +kernel
theorem dX7_moved_163 : decode cX7_moved 163 = .ok (.goto (-82), 3) := by decide +kernel
theorem dX7_moved_166 : decode cX7_moved 166 = .ok (.iload 6, 2) := by decide +kernel
theorem dX7_moved_168 : decode cX7_moved 168 = .ok (.ifCond .ge 8, 3) := by decide +kernel
theorem dX7_moved_171 : decode cX7_moved 171 = .ok (.ldc 198, 2) := by decide +kernel
theorem dX7_moved_173 : decode cX7_moved 173 = .ok (.goto 18, 3) := by decide +kernel
theorem dX7_moved_176 : decode cX7_moved 176 = .ok (.iload 5, 2) := by decide +kernel
theorem dX7_moved_178 : decode cX7_moved 178 = .ok (.ifCond .ne 11, 3) := by decide +kernel
theorem dX7_moved_181 : decode cX7_moved 181 = .ok (.iload 6, 2) := by decide +kernel
theorem dX7_moved_183 : decode cX7_moved 183 = .ok (.invokestatic 208, 3) := by decide +kernel
theorem dX7_moved_186 : decode cX7_moved 186 = .ok (.goto 5, 3) := by decide +kernel
theorem dX7_moved_189 : decode cX7_moved 189 = .ok (.iload 6, 2) := by decide +kernel
theorem dX7_moved_191 : decode cX7_moved 191 = .ok (.ireturn, 1) := by decide +kernel
theorem dX7_sitWhere_0 : decode cX7_sitWhere 0 = .ok (.aload_n 0, 1) := by decide +kernel
theorem dX7_sitWhere_1 : decode cX7_sitWhere 1 = .ok (.iload_n 1, 1) := by decide +kernel
theorem dX7_sitWhere_2 : decode cX7_sitWhere 2 = .ok (.invokevirtual 172, 3) := by decide +kernel
theorem dX7_sitWhere_5 : decode cX7_sitWhere 5 = .ok (.ifCond .eq 34, 3) := by decide +kernel
theorem dX7_sitWhere_8 : decode cX7_sitWhere 8 = .ok (.aload_n 0, 1) := by decide +kernel
theorem dX7_sitWhere_9 : decode cX7_sitWhere 9 = .ok (.iload_n 2, 1) := by decide +kernel
theorem dX7_sitWhere_10 : decode cX7_sitWhere 10 = .ok (.invokevirtual 175, 3) := by decide +kernel
theorem dX7_sitWhere_13 : decode cX7_sitWhere 13 = .ok (.ifCond .eq 26, 3) := by decide +kernel
theorem dX7_sitWhere_16 : decode cX7_sitWhere 16 = .ok (.iload_n 3, 1) := by decide +kernel
theorem dX7_sitWhere_17 : decode cX7_sitWhere 17 = .ok (.i2l, 1) := by decide +kernel
theorem dX7_sitWhere_18 : decode cX7_sitWhere 18 = .ok (.lconst 1, 1) := by decide +kernel
theorem dX7_sitWhere_19 : decode cX7_sitWhere 19 = .ok (.ldc2_w 154, 3) := by decide +kernel
theorem dX7_sitWhere_22 : decode cX7_sitWhere 22 = .ok (.invokestatic 54, 3) := by decide +kernel
theorem dX7_sitWhere_25 : decode cX7_sitWhere 25 = .ok (.ifCond .eq 14, 3) := by decide +kernel
theorem dX7_sitWhere_28 : decode cX7_sitWhere 28 = .ok (.iload 4, 2) := by decide +kernel
theorem dX7_sitWhere_30 : decode cX7_sitWhere 30 = .ok (.i2l, 1) := by decide +kernel
theorem dX7_sitWhere_31 : decode cX7_sitWhere 31 = .ok (.lconst 0, 1) := by decide +kernel
theorem dX7_sitWhere_32 : decode cX7_sitWhere 32 = .ok (.lconst 1, 1) := by decide +kernel
theorem dX7_sitWhere_33 : decode cX7_sitWhere 33 = .ok (.invokestatic 54, 3) := by decide +kernel
theorem dX7_sitWhere_36 : decode cX7_sitWhere 36 = .ok (.ifCond .ne 6, 3) := by decide +kernel
theorem dX7_sitWhere_39 : decode cX7_sitWhere 39 = .ok (.ldc 64, 2) := by decide +kernel
theorem dX7_sitWhere_41 : decode cX7_sitWhere 41 = .ok (.ireturn, 1) := by decide +kernel
theorem dX7_sitWhere_42 : decode cX7_sitWhere 42 = .ok (.aload_n 0, 1) := by decide +kernel
theorem dX7_sitWhere_43 : decode cX7_sitWhere 43 = .ok (.invokevirtual 185, 3) := by decide +kernel
theorem dX7_sitWhere_46 : decode cX7_sitWhere 46 = .ok (.iconst (-1), 1) := by decide +kernel
theorem dX7_sitWhere_47 : decode cX7_sitWhere 47 = .ok (.istore 5, 2) := by decide +kernel
theorem dX7_sitWhere_49 : decode cX7_sitWhere 49 = .ok (.iconst 0, 1) := by decide +kernel
theorem dX7_sitWhere_50 : decode cX7_sitWhere 50 = .ok (.istore 6, 2) := by decide +kernel
theorem dX7_sitWhere_52 : decode cX7_sitWhere 52 = .ok (.iconst 0, 1) := by decide +kernel
theorem dX7_sitWhere_53 : decode cX7_sitWhere 53 = .ok (.istore 7, 2) := by decide +kernel
theorem dX7_sitWhere_55 : decode cX7_sitWhere 55 = .ok (.iload 7, 2) := by decide +kernel
theorem dX7_sitWhere_57 : decode cX7_sitWhere 57 = .ok (.aload_n 0, 1) := by decide +kernel
theorem dX7_sitWhere_58 : decode cX7_sitWhere 58 = .ok (.getfield 19, 3) := by decide +kernel
theorem dX7_sitWhere_61 : decode cX7_sitWhere 61 = .ok (.iconst 0, 1) := by decide +kernel
theorem dX7_sitWhere_62 : decode cX7_sitWhere 62 = .ok (.iaload, 1) := by decide +kernel
theorem dX7_sitWhere_63 : decode cX7_sitWhere 63 = .ok (.if_icmp .ge 60, 3) := by decide +kernel
theorem dX7_sitWhere_66 : decode cX7_sitWhere 66 = .ok (.aload_n 0, 1) := by decide +kernel
theorem dX7_sitWhere_67 : decode cX7_sitWhere 67 = .ok (.getfield 19, 3) := by decide +kernel
theorem dX7_sitWhere_70 : decode cX7_sitWhere 70 = .ok (.bipush 42, 2) := by decide +kernel
theorem dX7_sitWhere_72 : decode cX7_sitWhere 72 = .ok (.iload_n 1, 1) := by decide +kernel
theorem dX7_sitWhere_73 : decode cX7_sitWhere 73 = .ok (.iadd, 1) := by decide +kernel
theorem dX7_sitWhere_74 : decode cX7_sitWhere 74 = .ok (.iload 7, 2) := by decide +kernel
theorem dX7_sitWhere_76 : decode cX7_sitWhere 76 = .ok (.iastore, 1) := by decide +kernel
theorem dX7_sitWhere_77 : decode cX7_sitWhere 77 = .ok (.aload_n 0, 1) := by decide +kernel
theorem dX7_sitWhere_78 : decode cX7_sitWhere 78 = .ok (.iload_n 3, 1) := by decide +kernel
theorem dX7_sitWhere_79 : decode cX7_sitWhere 79 = .ok (.invokevirtual 188, 3) := by decide +kernel
theorem dX7_sitWhere_82 : decode cX7_sitWhere 82 = .ok (.aload_n 0, 1) := by decide +kernel
theorem dX7_sitWhere_83 : decode cX7_sitWhere 83 = .ok (.getfield 19, 3) := by decide +kernel
theorem dX7_sitWhere_86 : decode cX7_sitWhere 86 = .ok (.bipush 7, 2) := by decide +kernel
theorem dX7_sitWhere_88 : decode cX7_sitWhere 88 = .ok (.iload_n 2, 1) := by decide +kernel
theorem dX7_sitWhere_89 : decode cX7_sitWhere 89 = .ok (.iadd, 1) := by decide +kernel
theorem dX7_sitWhere_90 : decode cX7_sitWhere 90 = .ok (.iaload, 1) := by decide +kernel
theorem dX7_sitWhere_91 : decode cX7_sitWhere 91 = .ok (.istore 8, 2) := by decide +kernel
theorem dX7_sitWhere_93 : decode cX7_sitWhere 93 = .ok (.aload_n 0, 1) := by decide +kernel
theorem dX7_sitWhere_94 : decode cX7_sitWhere 94 = .ok (.invokevirtual 192, 3) := by decide +kernel
theorem dX7_sitWhere_97 : decode cX7_sitWhere 97 = .ok (.iload 5, 2) := by decide +kernel
theorem dX7_sitWhere_99 : decode cX7_sitWhere 99 = .ok (.ifCond .lt 10, 3) := by decide +kernel
theorem dX7_sitWhere_102 : decode cX7_sitWhere 102 = .ok (.iload 8, 2) := by decide +kernel
theorem dX7_sitWhere_104 : decode cX7_sitWhere 104 = .ok (.iload 6, 2) := by decide +kernel
theorem dX7_sitWhere_106 : decode cX7_sitWhere 106 = .ok (.if_icmp .ge 11, 3) := by decide +kernel
theorem dX7_sitWhere_109 : decode cX7_sitWhere 109 = .ok (.iload 7, 2) := by decide +kernel
theorem dX7_sitWhere_111 : decode cX7_sitWhere 111 = .ok (.istore 5, 2) := by decide +kernel
theorem dX7_sitWhere_113 : decode cX7_sitWhere 113 = .ok (.iload 8, 2) := by decide +kernel
theorem dX7_sitWhere_115 : decode cX7_sitWhere 115 = .ok (.istore 6, 2) := by decide +kernel
theorem dX7_sitWhere_117 : decode cX7_sitWhere 117 = .ok (.iinc 7 1, 3) := by decide +kernel
theorem dX7_sitWhere_120 : decode cX7_sitWhere 120 = .ok (.goto (-65), 3) := by decide +kernel
theorem dX7_sitWhere_123 : decode cX7_sitWhere 123 = .ok (.iload 4, 2) := by decide +kernel
theorem dX7_sitWhere_125 : decode cX7_sitWhere 125 = .ok (.ifCond .ne 8, 3) := by decide +kernel
theorem dX7_sitWhere_128 : decode cX7_sitWhere 128 = .ok (.iload 5, 2) := by decide +kernel
theorem dX7_sitWhere_130 : decode cX7_sitWhere 130 = .ok (.goto 5, 3) := by decide +kernel
theorem dX7_sitWhere_133 : decode cX7_sitWhere 133 = .ok (.iload 6, 2) := by decide +kernel
theorem dX7_sitWhere_135 : decode cX7_sitWhere 135 = .ok (.ireturn, 1) := by decide +kernel
theorem dX7_coldIn_0 : decode cX7_coldIn 0 = .ok (.iconst 0, 1) := by decide +kernel
theorem dX7_coldIn_1 : decode cX7_coldIn 1 = .ok (.istore_n 3, 1) := by decide +kernel
theorem dX7_coldIn_2 : decode cX7_coldIn 2 = .ok (.aload_n 0, 1) := by decide +kernel
theorem dX7_coldIn_3 : decode cX7_coldIn 3 = .ok (.getfield 19, 3) := by decide +kernel
theorem dX7_coldIn_6 : decode cX7_coldIn 6 = .ok (.bipush 7, 2) := by decide +kernel
theorem dX7_coldIn_8 : decode cX7_coldIn 8 = .ok (.iload_n 1, 1) := by decide +kernel
theorem dX7_coldIn_9 : decode cX7_coldIn 9 = .ok (.iadd, 1) := by decide +kernel
theorem dX7_coldIn_10 : decode cX7_coldIn 10 = .ok (.iaload, 1) := by decide +kernel
theorem dX7_coldIn_11 : decode cX7_coldIn 11 = .ok (.iload_n 2, 1) := by decide +kernel
theorem dX7_coldIn_12 : decode cX7_coldIn 12 = .ok (.if_icmp .ge 19, 3) := by decide +kernel
theorem dX7_coldIn_15 : decode cX7_coldIn 15 = .ok (.iload_n 3, 1) := by decide +kernel
theorem dX7_coldIn_16 : decode cX7_coldIn 16 = .ok (.bipush 40, 2) := by decide +kernel
theorem dX7_coldIn_18 : decode cX7_coldIn 18 = .ok (.if_icmp .gt 13, 3) := by decide +kernel
theorem dX7_coldIn_21 : decode cX7_coldIn 21 = .ok (.aload_n 0, 1) := by decide +kernel
theorem dX7_coldIn_22 : decode cX7_coldIn 22 = .ok (.invokevirtual 159, 3) := by decide +kernel
theorem dX7_coldIn_25 : decode cX7_coldIn 25 = .ok (.iinc 3 1, 3) := by decide +kernel
theorem dX7_coldIn_28 : decode cX7_coldIn 28 = .ok (.goto (-26), 3) := by decide +kernel
theorem dX7_coldIn_31 : decode cX7_coldIn 31 = .ok (.aload_n 0, 1) := by decide +kernel
theorem dX7_coldIn_32 : decode cX7_coldIn 32 = .ok (.invokevirtual 192, 3) := by decide +kernel
theorem dX7_coldIn_35 : decode cX7_coldIn 35 = .ok (.iload_n 3, 1) := by decide +kernel
theorem dX7_coldIn_36 : decode cX7_coldIn 36 = .ok (.ireturn, 1) := by decide +kernel
theorem dX7_led_0 : decode cX7_led 0 = .ok (.aload_n 0, 1) := by decide +kernel
theorem dX7_led_1 : decode cX7_led 1 = .ok (.getfield 135, 3) := by decide +kernel
theorem dX7_led_4 : decode cX7_led 4 = .ok (.ifCond .ne 6, 3) := by decide +kernel
theorem dX7_led_7 : decode cX7_led 7 = .ok (.ldc 142, 2) := by decide +kernel
theorem dX7_led_9 : decode cX7_led 9 = .ok (.ireturn, 1) := by decide +kernel
theorem dX7_led_10 : decode cX7_led 10 = .ok (.aload_n 0, 1) := by decide +kernel
theorem dX7_led_11 : decode cX7_led 11 = .ok (.iload_n 1, 1) := by decide +kernel
theorem dX7_led_12 : decode cX7_led 12 = .ok (.invokevirtual 175, 3) := by decide +kernel
theorem dX7_led_15 : decode cX7_led 15 = .ok (.ifCond .eq 25, 3) := by decide +kernel
theorem dX7_led_18 : decode cX7_led 18 = .ok (.iload_n 2, 1) := by decide +kernel
theorem dX7_led_19 : decode cX7_led 19 = .ok (.i2l, 1) := by decide +kernel
theorem dX7_led_20 : decode cX7_led 20 = .ok (.lconst 1, 1) := by decide +kernel
theorem dX7_led_21 : decode cX7_led 21 = .ok (.ldc2_w 206, 3) := by decide +kernel
theorem dX7_led_24 : decode cX7_led 24 = .ok (.invokestatic 54, 3) := by decide +kernel
theorem dX7_led_27 : decode cX7_led 27 = .ok (.ifCond .eq 13, 3) := by decide +kernel
theorem dX7_led_30 : decode cX7_led 30 = .ok (.iload_n 3, 1) := by decide +kernel
theorem dX7_led_31 : decode cX7_led 31 = .ok (.i2l, 1) := by decide +kernel
theorem dX7_led_32 : decode cX7_led 32 = .ok (.lconst 0, 1) := by decide +kernel
theorem dX7_led_33 : decode cX7_led 33 = .ok (.lconst 1, 1) := by decide +kernel
theorem dX7_led_34 : decode cX7_led 34 = .ok (.invokestatic 54, 3) := by decide +kernel
theorem dX7_led_37 : decode cX7_led 37 = .ok (.ifCond .ne 6, 3) := by decide +kernel
theorem dX7_led_40 : decode cX7_led 40 = .ok (.ldc 64, 2) := by decide +kernel
theorem dX7_led_42 : decode cX7_led 42 = .ok (.ireturn, 1) := by decide +kernel
theorem dX7_led_43 : decode cX7_led 43 = .ok (.aload_n 0, 1) := by decide +kernel
theorem dX7_led_44 : decode cX7_led 44 = .ok (.invokevirtual 185, 3) := by decide +kernel
theorem dX7_led_47 : decode cX7_led 47 = .ok (.aload_n 0, 1) := by decide +kernel
theorem dX7_led_48 : decode cX7_led 48 = .ok (.iload_n 1, 1) := by decide +kernel
theorem dX7_led_49 : decode cX7_led 49 = .ok (.iload_n 2, 1) := by decide +kernel
theorem dX7_led_50 : decode cX7_led 50 = .ok (.invokevirtual 217, 3) := by decide +kernel
theorem dX7_led_53 : decode cX7_led 53 = .ok (.istore 4, 2) := by decide +kernel
theorem dX7_led_55 : decode cX7_led 55 = .ok (.ldc 198, 2) := by decide +kernel
theorem dX7_led_57 : decode cX7_led 57 = .ok (.istore 5, 2) := by decide +kernel
theorem dX7_led_59 : decode cX7_led 59 = .ok (.iconst 0, 1) := by decide +kernel
theorem dX7_led_60 : decode cX7_led 60 = .ok (.istore 6, 2) := by decide +kernel
theorem dX7_led_62 : decode cX7_led 62 = .ok (.iload 6, 2) := by decide +kernel
theorem dX7_led_64 : decode cX7_led 64 = .ok (.aload_n 0, 1) := by decide +kernel
theorem dX7_led_65 : decode cX7_led 65 = .ok (.getfield 19, 3) := by decide +kernel
theorem dX7_led_68 : decode cX7_led 68 = .ok (.iconst 5, 1) := by decide +kernel
theorem dX7_led_69 : decode cX7_led 69 = .ok (.iaload, 1) := by decide +kernel
theorem dX7_led_70 : decode cX7_led 70 = .ok (.aload_n 0, 1) := by decide +kernel
theorem dX7_led_71 : decode cX7_led 71 = .ok (.getfield 19, 3) := by decide +kernel
theorem dX7_led_74 : decode cX7_led 74 = .ok (.iconst 0, 1) := by decide +kernel
theorem dX7_led_75 : decode cX7_led 75 = .ok (.iaload, 1) := by decide +kernel
theorem dX7_led_76 : decode cX7_led 76 = .ok (.imul, 1) := by decide +kernel
theorem dX7_led_77 : decode cX7_led 77 = .ok (.if_icmp .ge 78, 3) := by decide +kernel
theorem dX7_led_80 : decode cX7_led 80 = .ok (.aload_n 0, 1) := by decide +kernel
theorem dX7_led_81 : decode cX7_led 81 = .ok (.getfield 19, 3) := by decide +kernel
theorem dX7_led_84 : decode cX7_led 84 = .ok (.bipush 42, 2) := by decide +kernel
theorem dX7_led_86 : decode cX7_led 86 = .ok (.iload 6, 2) := by decide +kernel
theorem dX7_led_88 : decode cX7_led 88 = .ok (.aload_n 0, 1) := by decide +kernel
theorem dX7_led_89 : decode cX7_led 89 = .ok (.getfield 19, 3) := by decide +kernel
theorem dX7_led_92 : decode cX7_led 92 = .ok (.iconst 0, 1) := by decide +kernel
theorem dX7_led_93 : decode cX7_led 93 = .ok (.iaload, 1) := by decide +kernel
theorem dX7_led_94 : decode cX7_led 94 = .ok (.idiv, 1) := by decide +kernel
theorem dX7_led_95 : decode cX7_led 95 = .ok (.iadd, 1) := by decide +kernel
theorem dX7_led_96 : decode cX7_led 96 = .ok (.iload 6, 2) := by decide +kernel
theorem dX7_led_98 : decode cX7_led 98 = .ok (.aload_n 0, 1) := by decide +kernel
theorem dX7_led_99 : decode cX7_led 99 = .ok (.getfield 19, 3) := by decide +kernel
theorem dX7_led_102 : decode cX7_led 102 = .ok (.iconst 0, 1) := by decide +kernel
theorem dX7_led_103 : decode cX7_led 103 = .ok (.iaload, 1) := by decide +kernel
theorem dX7_led_104 : decode cX7_led 104 = .ok (.irem, 1) := by decide +kernel
theorem dX7_led_105 : decode cX7_led 105 = .ok (.iastore, 1) := by decide +kernel
theorem dX7_led_106 : decode cX7_led 106 = .ok (.aload_n 0, 1) := by decide +kernel
theorem dX7_led_107 : decode cX7_led 107 = .ok (.iload_n 1, 1) := by decide +kernel
theorem dX7_led_108 : decode cX7_led 108 = .ok (.iload_n 2, 1) := by decide +kernel
theorem dX7_led_109 : decode cX7_led 109 = .ok (.invokevirtual 217, 3) := by decide +kernel
theorem dX7_led_112 : decode cX7_led 112 = .ok (.istore 7, 2) := by decide +kernel
theorem dX7_led_114 : decode cX7_led 114 = .ok (.iload 7, 2) := by decide +kernel
theorem dX7_led_116 : decode cX7_led 116 = .ok (.iload 4, 2) := by decide +kernel
theorem dX7_led_118 : decode cX7_led 118 = .ok (.if_icmp .ge 31, 3) := by decide +kernel
theorem dX7_led_121 : decode cX7_led 121 = .ok (.iload 7, 2) := by decide +kernel
theorem dX7_led_123 : decode cX7_led 123 = .ok (.istore 4, 2) := by decide +kernel
theorem dX7_led_125 : decode cX7_led 125 = .ok (.bipush 10, 2) := by decide +kernel
theorem dX7_led_127 : decode cX7_led 127 = .ok (.iload 6, 2) := by decide +kernel
theorem dX7_led_129 : decode cX7_led 129 = .ok (.aload_n 0, 1) := by decide +kernel
theorem dX7_led_130 : decode cX7_led 130 = .ok (.getfield 19, 3) := by decide +kernel
theorem dX7_led_133 : decode cX7_led 133 = .ok (.iconst 0, 1) := by decide +kernel
theorem dX7_led_134 : decode cX7_led 134 = .ok (.iaload, 1) := by decide +kernel
theorem dX7_led_135 : decode cX7_led 135 = .ok (.idiv, 1) := by decide +kernel
theorem dX7_led_136 : decode cX7_led 136 = .ok (.imul, 1) := by decide +kernel
theorem dX7_led_137 : decode cX7_led 137 = .ok (.iload 6, 2) := by decide +kernel
theorem dX7_led_139 : decode cX7_led 139 = .ok (.aload_n 0, 1) := by decide +kernel
theorem dX7_led_140 : decode cX7_led 140 = .ok (.getfield 19, 3) := by decide +kernel
theorem dX7_led_143 : decode cX7_led 143 = .ok (.iconst 0, 1) := by decide +kernel
theorem dX7_led_144 : decode cX7_led 144 = .ok (.iaload, 1) := by decide +kernel
theorem dX7_led_145 : decode cX7_led 145 = .ok (.irem, 1) := by decide +kernel
theorem dX7_led_146 : decode cX7_led 146 = .ok (.iadd, 1) := by decide +kernel
theorem dX7_led_147 : decode cX7_led 147 = .ok (.istore 5, 2) := by decide +kernel
theorem dX7_led_149 : decode cX7_led 149 = .ok (.iinc 6 1, 3) := by decide +kernel
theorem dX7_led_152 : decode cX7_led 152 = .ok (.goto (-90), 3) := by decide +kernel
theorem dX7_led_155 : decode cX7_led 155 = .ok (.iload 4, 2) := by decide +kernel
theorem dX7_led_157 : decode cX7_led 157 = .ok (.bipush 40, 2) := by decide +kernel
theorem dX7_led_159 : decode cX7_led 159 = .ok (.if_icmp .le 8, 3) := by decide +kernel
theorem dX7_led_162 : decode cX7_led 162 = .ok (.ldc 198, 2) := by decide +kernel
theorem dX7_led_164 : decode cX7_led 164 = .ok (.goto 14, 3) := by decide +kernel
theorem dX7_led_167 : decode cX7_led 167 = .ok (.iload_n 3, 1) := by decide +kernel
theorem dX7_led_168 : decode cX7_led 168 = .ok (.ifCond .ne 8, 3) := by decide +kernel
theorem dX7_led_171 : decode cX7_led 171 = .ok (.iload 4, 2) := by decide +kernel
theorem dX7_led_173 : decode cX7_led 173 = .ok (.goto 5, 3) := by decide +kernel
theorem dX7_led_176 : decode cX7_led 176 = .ok (.iload 5, 2) := by decide +kernel
theorem dX7_led_178 : decode cX7_led 178 = .ok (.ireturn, 1) := by decide +kernel
theorem dX7_lacks_0 : decode cX7_lacks 0 = .ok (.aload_n 0, 1) := by decide +kernel
theorem dX7_lacks_1 : decode cX7_lacks 1 = .ok (.getfield 13, 3) := by decide +kernel
theorem dX7_lacks_4 : decode cX7_lacks 4 = .ok (.iload_n 1, 1) := by decide +kernel
theorem dX7_lacks_5 : decode cX7_lacks 5 = .ok (.iaload, 1) := by decide +kernel
theorem dX7_lacks_6 : decode cX7_lacks 6 = .ok (.ifCond .ge 9, 3) := by decide +kernel
theorem dX7_lacks_9 : decode cX7_lacks 9 = .ok (.aload_n 0, 1) := by decide +kernel
theorem dX7_lacks_10 : decode cX7_lacks 10 = .ok (.iconst 1, 1) := by decide +kernel
theorem dX7_lacks_11 : decode cX7_lacks 11 = .ok (.invokevirtual 65, 3) := by decide +kernel
theorem dX7_lacks_14 : decode cX7_lacks 14 = .ok (.ireturn, 1) := by decide +kernel
theorem dX7_lacks_15 : decode cX7_lacks 15 = .ok (.iload_n 2, 1) := by decide +kernel
theorem dX7_lacks_16 : decode cX7_lacks 16 = .ok (.i2l, 1) := by decide +kernel
theorem dX7_lacks_17 : decode cX7_lacks 17 = .ok (.lconst 0, 1) := by decide +kernel
theorem dX7_lacks_18 : decode cX7_lacks 18 = .ok (.aload_n 0, 1) := by decide +kernel
theorem dX7_lacks_19 : decode cX7_lacks 19 = .ok (.getfield 13, 3) := by decide +kernel
theorem dX7_lacks_22 : decode cX7_lacks 22 = .ok (.iload_n 1, 1) := by decide +kernel
theorem dX7_lacks_23 : decode cX7_lacks 23 = .ok (.iaload, 1) := by decide +kernel
theorem dX7_lacks_24 : decode cX7_lacks 24 = .ok (.iload_n 3, 1) := by decide +kernel
theorem dX7_lacks_25 : decode cX7_lacks 25 = .ok (.isub, 1) := by decide +kernel
theorem dX7_lacks_26 : decode cX7_lacks 26 = .ok (.i2l, 1) := by decide +kernel
theorem dX7_lacks_27 : decode cX7_lacks 27 = .ok (.invokestatic 54, 3) := by decide +kernel
theorem dX7_lacks_30 : decode cX7_lacks 30 = .ok (.ifCond .eq 7, 3) := by decide +kernel
theorem dX7_lacks_33 : decode cX7_lacks 33 = .ok (.iconst 0, 1) := by decide +kernel
theorem dX7_lacks_34 : decode cX7_lacks 34 = .ok (.goto 8, 3) := by decide +kernel
theorem dX7_lacks_37 : decode cX7_lacks 37 = .ok (.aload_n 0, 1) := by decide +kernel
theorem dX7_lacks_38 : decode cX7_lacks 38 = .ok (.iconst 2, 1) := by decide +kernel
theorem dX7_lacks_39 : decode cX7_lacks 39 = .ok (.invokevirtual 65, 3) := by decide +kernel
theorem dX7_lacks_42 : decode cX7_lacks 42 = .ok (.ireturn, 1) := by decide +kernel
theorem dX7_isSo_0 : decode cX7_isSo 0 = .ok (.iconst 1, 1) := by decide +kernel
theorem dX7_isSo_1 : decode cX7_isSo 1 = .ok (.istore_n 3, 1) := by decide +kernel
theorem dX7_isSo_2 : decode cX7_isSo 2 = .ok (.iconst 0, 1) := by decide +kernel
theorem dX7_isSo_3 : decode cX7_isSo 3 = .ok (.istore 4, 2) := by decide +kernel
theorem dX7_isSo_5 : decode cX7_isSo 5 = .ok (.iload 4, 2) := by decide +kernel
theorem dX7_isSo_7 : decode cX7_isSo 7 = .ok (.iload_n 2, 1) := by decide +kernel
theorem dX7_isSo_8 : decode cX7_isSo 8 = .ok (.aload_n 0, 1) := by decide +kernel
theorem dX7_isSo_9 : decode cX7_isSo 9 = .ok (.getfield 19, 3) := by decide +kernel
theorem dX7_isSo_12 : decode cX7_isSo 12 = .ok (.iconst 0, 1) := by decide +kernel
theorem dX7_isSo_13 : decode cX7_isSo 13 = .ok (.iaload, 1) := by decide +kernel
theorem dX7_isSo_14 : decode cX7_isSo 14 = .ok (.imul, 1) := by decide +kernel
theorem dX7_isSo_15 : decode cX7_isSo 15 = .ok (.if_icmp .ge 64, 3) := by decide +kernel
theorem dX7_isSo_18 : decode cX7_isSo 18 = .ok (.iload 4, 2) := by decide +kernel
theorem dX7_isSo_20 : decode cX7_isSo 20 = .ok (.aload_n 0, 1) := by decide +kernel
theorem dX7_isSo_21 : decode cX7_isSo 21 = .ok (.getfield 19, 3) := by decide +kernel
theorem dX7_isSo_24 : decode cX7_isSo 24 = .ok (.iconst 0, 1) := by decide +kernel
theorem dX7_isSo_25 : decode cX7_isSo 25 = .ok (.iaload, 1) := by decide +kernel
theorem dX7_isSo_26 : decode cX7_isSo 26 = .ok (.irem, 1) := by decide +kernel
theorem dX7_isSo_27 : decode cX7_isSo 27 = .ok (.ifCond .ne 7, 3) := by decide +kernel
theorem dX7_isSo_30 : decode cX7_isSo 30 = .ok (.aload_n 0, 1) := by decide +kernel
theorem dX7_isSo_31 : decode cX7_isSo 31 = .ok (.invokevirtual 159, 3) := by decide +kernel
theorem dX7_isSo_34 : decode cX7_isSo 34 = .ok (.iload_n 3, 1) := by decide +kernel
theorem dX7_isSo_35 : decode cX7_isSo 35 = .ok (.ifCond .eq 36, 3) := by decide +kernel
theorem dX7_isSo_38 : decode cX7_isSo 38 = .ok (.aload_n 0, 1) := by decide +kernel
theorem dX7_isSo_39 : decode cX7_isSo 39 = .ok (.getfield 16, 3) := by decide +kernel
theorem dX7_isSo_42 : decode cX7_isSo 42 = .ok (.iload_n 1, 1) := by decide +kernel
theorem dX7_isSo_43 : decode cX7_isSo 43 = .ok (.iload 4, 2) := by decide +kernel
theorem dX7_isSo_45 : decode cX7_isSo 45 = .ok (.iadd, 1) := by decide +kernel
theorem dX7_isSo_46 : decode cX7_isSo 46 = .ok (.iaload, 1) := by decide +kernel
theorem dX7_isSo_47 : decode cX7_isSo 47 = .ok (.aload_n 0, 1) := by decide +kernel
theorem dX7_isSo_48 : decode cX7_isSo 48 = .ok (.getfield 19, 3) := by decide +kernel
theorem dX7_isSo_51 : decode cX7_isSo 51 = .ok (.bipush 7, 2) := by decide +kernel
theorem dX7_isSo_53 : decode cX7_isSo 53 = .ok (.iload 4, 2) := by decide +kernel
theorem dX7_isSo_55 : decode cX7_isSo 55 = .ok (.aload_n 0, 1) := by decide +kernel
theorem dX7_isSo_56 : decode cX7_isSo 56 = .ok (.getfield 19, 3) := by decide +kernel
theorem dX7_isSo_59 : decode cX7_isSo 59 = .ok (.iconst 0, 1) := by decide +kernel
theorem dX7_isSo_60 : decode cX7_isSo 60 = .ok (.iaload, 1) := by decide +kernel
theorem dX7_isSo_61 : decode cX7_isSo 61 = .ok (.irem, 1) := by decide +kernel
theorem dX7_isSo_62 : decode cX7_isSo 62 = .ok (.iadd, 1) := by decide +kernel
theorem dX7_isSo_63 : decode cX7_isSo 63 = .ok (.iaload, 1) := by decide +kernel
theorem dX7_isSo_64 : decode cX7_isSo 64 = .ok (.if_icmp .ne 7, 3) := by decide +kernel
theorem dX7_isSo_67 : decode cX7_isSo 67 = .ok (.iconst 1, 1) := by decide +kernel
theorem dX7_isSo_68 : decode cX7_isSo 68 = .ok (.goto 4, 3) := by decide +kernel
theorem dX7_isSo_71 : decode cX7_isSo 71 = .ok (.iconst 0, 1) := by decide +kernel
theorem dX7_isSo_72 : decode cX7_isSo 72 = .ok (.istore_n 3, 1) := by decide +kernel
theorem dX7_isSo_73 : decode cX7_isSo 73 = .ok (.iinc 4 1, 3) := by decide +kernel
theorem dX7_isSo_76 : decode cX7_isSo 76 = .ok (.goto (-71), 3) := by decide +kernel
theorem dX7_isSo_79 : decode cX7_isSo 79 = .ok (.aload_n 0, 1) := by decide +kernel
theorem dX7_isSo_80 : decode cX7_isSo 80 = .ok (.invokevirtual 192, 3) := by decide +kernel
theorem dX7_isSo_83 : decode cX7_isSo 83 = .ok (.iload_n 3, 1) := by decide +kernel
theorem dX7_isSo_84 : decode cX7_isSo 84 = .ok (.ireturn, 1) := by decide +kernel
theorem dX7_came_0 : decode cX7_came 0 = .ok (.aload_n 0, 1) := by decide +kernel
theorem dX7_came_1 : decode cX7_came 1 = .ok (.getfield 135, 3) := by decide +kernel
theorem dX7_came_4 : decode cX7_came 4 = .ok (.ifCond .ne 6, 3) := by decide +kernel
theorem dX7_came_7 : decode cX7_came 7 = .ok (.ldc 142, 2) := by decide +kernel
theorem dX7_came_9 : decode cX7_came 9 = .ok (.ireturn, 1) := by decide +kernel
theorem dX7_came_10 : decode cX7_came 10 = .ok (.iload_n 1, 1) := by decide +kernel
theorem dX7_came_11 : decode cX7_came 11 = .ok (.invokestatic 58, 3) := by decide +kernel
theorem dX7_came_14 : decode cX7_came 14 = .ok (.ifCond .eq 15, 3) := by decide +kernel
theorem dX7_came_17 : decode cX7_came 17 = .ok (.iload_n 3, 1) := by decide +kernel
theorem dX7_came_18 : decode cX7_came 18 = .ok (.i2l, 1) := by decide +kernel
theorem dX7_came_19 : decode cX7_came 19 = .ok (.lconst 1, 1) := by decide +kernel
theorem dX7_came_20 : decode cX7_came 20 = .ok (.ldc2_w 220, 3) := by decide +kernel
theorem dX7_came_23 : decode cX7_came 23 = .ok (.invokestatic 54, 3) := by decide +kernel
theorem dX7_came_26 : decode cX7_came 26 = .ok (.ifCond .ne 6, 3) := by decide +kernel
theorem dX7_came_29 : decode cX7_came 29 = .ok (.ldc 64, 2) := by decide +kernel
theorem dX7_came_31 : decode cX7_came 31 = .ok (.ireturn, 1) := by decide +kernel
theorem dX7_came_32 : decode cX7_came 32 = .ok (.aload_n 0, 1) := by decide +kernel
theorem dX7_came_33 : decode cX7_came 33 = .ok (.iload_n 1, 1) := by decide +kernel
theorem dX7_came_34 : decode cX7_came 34 = .ok (.iload_n 2, 1) := by decide +kernel
theorem dX7_came_35 : decode cX7_came 35 = .ok (.iload_n 3, 1) := by decide +kernel
theorem dX7_came_36 : decode cX7_came 36 = .ok (.aload_n 0, 1) := by decide +kernel
theorem dX7_came_37 : decode cX7_came 37 = .ok (.getfield 19, 3) := by decide +kernel
theorem dX7_came_40 : decode cX7_came 40 = .ok (.iconst 0, 1) := by decide +kernel
theorem dX7_came_41 : decode cX7_came 41 = .ok (.iaload, 1) := by decide +kernel
theorem dX7_came_42 : decode cX7_came 42 = .ok (.imul, 1) := by decide +kernel
theorem dX7_came_43 : decode cX7_came 43 = .ok (.invokevirtual 222, 3) := by decide +kernel
theorem dX7_came_46 : decode cX7_came 46 = .ok (.istore 4, 2) := by decide +kernel
theorem dX7_came_48 : decode cX7_came 48 = .ok (.iload 4, 2) := by decide +kernel
theorem dX7_came_50 : decode cX7_came 50 = .ok (.ifCond .ge 6, 3) := by decide +kernel
theorem dX7_came_53 : decode cX7_came 53 = .ok (.iload 4, 2) := by decide +kernel
theorem dX7_came_55 : decode cX7_came 55 = .ok (.ireturn, 1) := by decide +kernel
theorem dX7_came_56 : decode cX7_came 56 = .ok (.aload_n 0, 1) := by decide +kernel
theorem dX7_came_57 : decode cX7_came 57 = .ok (.invokevirtual 185, 3) := by decide +kernel
theorem dX7_came_60 : decode cX7_came 60 = .ok (.iconst 0, 1) := by decide +kernel
theorem dX7_came_61 : decode cX7_came 61 = .ok (.istore 5, 2) := by decide +kernel
theorem dX7_came_63 : decode cX7_came 63 = .ok (.iconst 0, 1) := by decide +kernel
theorem dX7_came_64 : decode cX7_came 64 = .ok (.istore 6, 2) := by decide +kernel
theorem dX7_came_66 : decode cX7_came 66 = .ok (.iload 6, 2) := by decide +kernel
theorem dX7_came_68 : decode cX7_came 68 = .ok (.aload_n 0, 1) := by decide +kernel
theorem dX7_came_69 : decode cX7_came 69 = .ok (.getfield 34, 3) := by decide +kernel
theorem dX7_came_72 : decode cX7_came 72 = .ok (.iconst 0, 1) := by decide +kernel
theorem dX7_came_73 : decode cX7_came 73 = .ok (.iaload, 1) := by decide +kernel
theorem dX7_came_74 : decode cX7_came 74 = .ok (.if_icmp .ge 44, 3) := by decide +kernel
theorem dX7_came_77 : decode cX7_came 77 = .ok (.aload_n 0, 1) := by decide +kernel
theorem dX7_came_78 : decode cX7_came 78 = .ok (.getfield 19, 3) := by decide +kernel
theorem dX7_came_81 : decode cX7_came 81 = .ok (.iconst 1, 1) := by decide +kernel
theorem dX7_came_82 : decode cX7_came 82 = .ok (.iload 6, 2) := by decide +kernel
theorem dX7_came_84 : decode cX7_came 84 = .ok (.iastore, 1) := by decide +kernel
theorem dX7_came_85 : decode cX7_came 85 = .ok (.iload 5, 2) := by decide +kernel
theorem dX7_came_87 : decode cX7_came 87 = .ok (.aload_n 0, 1) := by decide +kernel
theorem dX7_came_88 : decode cX7_came 88 = .ok (.bipush 40, 2) := by decide +kernel
theorem dX7_came_90 : decode cX7_came 90 = .ok (.iload_n 1, 1) := by decide +kernel
theorem dX7_came_91 : decode cX7_came 91 = .ok (.imul, 1) := by decide +kernel
theorem dX7_came_92 : decode cX7_came 92 = .ok (.iload_n 2, 1) := by decide +kernel
theorem dX7_came_93 : decode cX7_came 93 = .ok (.iadd, 1) := by decide +kernel
theorem dX7_came_94 : decode cX7_came 94 = .ok (.iload_n 3, 1) := by decide +kernel
theorem dX7_came_95 : decode cX7_came 95 = .ok (.invokevirtual 226, 3) := by decide +kernel
theorem dX7_came_98 : decode cX7_came 98 = .ok (.ifCond .eq 10, 3) := by decide +kernel
theorem dX7_came_101 : decode cX7_came 101 = .ok (.iconst 1, 1) := by decide +kernel
theorem dX7_came_102 : decode cX7_came 102 = .ok (.iload 6, 2) := by decide +kernel
theorem dX7_came_104 : decode cX7_came 104 = .ok (.ishl, 1) := by decide +kernel
theorem dX7_came_105 : decode cX7_came 105 = .ok (.goto 4, 3) := by decide +kernel
theorem dX7_came_108 : decode cX7_came 108 = .ok (.iconst 0, 1) := by decide +kernel
theorem dX7_came_109 : decode cX7_came 109 = .ok (.ior, 1) := by decide +kernel
theorem dX7_came_110 : decode cX7_came 110 = .ok (.istore 5, 2) := by decide +kernel
theorem dX7_came_112 : decode cX7_came 112 = .ok (.iinc 6 1, 3) := by decide +kernel
theorem dX7_came_115 : decode cX7_came 115 = .ok (.goto (-49), 3) := by decide +kernel
theorem dX7_came_118 : decode cX7_came 118 = .ok (.aload_n 0, 1) := by decide +kernel
theorem dX7_came_119 : decode cX7_came 119 = .ok (.iload 5, 2) := by decide +kernel
theorem dX7_came_121 : decode cX7_came 121 = .ok (.invokevirtual 69, 3) := by decide +kernel
theorem dX7_came_124 : decode cX7_came 124 = .ok (.ireturn, 1) := by decide +kernel
theorem dX7_who_0 : decode cX7_who 0 = .ok (.aload_n 0, 1) := by decide +kernel
theorem dX7_who_1 : decode cX7_who 1 = .ok (.iload_n 1, 1) := by decide +kernel
theorem dX7_who_2 : decode cX7_who 2 = .ok (.invokevirtual 172, 3) := by decide +kernel
theorem dX7_who_5 : decode cX7_who 5 = .ok (.ifCond .eq 23, 3) := by decide +kernel
theorem dX7_who_8 : decode cX7_who 8 = .ok (.iload_n 2, 1) := by decide +kernel
theorem dX7_who_9 : decode cX7_who 9 = .ok (.invokestatic 58, 3) := by decide +kernel
theorem dX7_who_12 : decode cX7_who 12 = .ok (.ifCond .eq 16, 3) := by decide +kernel
theorem dX7_who_15 : decode cX7_who 15 = .ok (.iload 4, 2) := by decide +kernel
theorem dX7_who_17 : decode cX7_who 17 = .ok (.i2l, 1) := by decide +kernel
theorem dX7_who_18 : decode cX7_who 18 = .ok (.lconst 1, 1) := by decide +kernel
theorem dX7_who_19 : decode cX7_who 19 = .ok (.ldc2_w 220, 3) := by decide +kernel
theorem dX7_who_22 : decode cX7_who 22 = .ok (.invokestatic 54, 3) := by decide +kernel
theorem dX7_who_25 : decode cX7_who 25 = .ok (.ifCond .ne 6, 3) := by decide +kernel
theorem dX7_who_28 : decode cX7_who 28 = .ok (.ldc 64, 2) := by decide +kernel
theorem dX7_who_30 : decode cX7_who 30 = .ok (.ireturn, 1) := by decide +kernel
theorem dX7_who_31 : decode cX7_who 31 = .ok (.aload_n 0, 1) := by decide +kernel
theorem dX7_who_32 : decode cX7_who 32 = .ok (.iload_n 2, 1) := by decide +kernel
theorem dX7_who_33 : decode cX7_who 33 = .ok (.iload_n 3, 1) := by decide +kernel
theorem dX7_who_34 : decode cX7_who 34 = .ok (.iload 4, 2) := by decide +kernel
theorem dX7_who_36 : decode cX7_who 36 = .ok (.aload_n 0, 1) := by decide +kernel
theorem dX7_who_37 : decode cX7_who 37 = .ok (.getfield 19, 3) := by decide +kernel
theorem dX7_who_40 : decode cX7_who 40 = .ok (.iconst 0, 1) := by decide +kernel
theorem dX7_who_41 : decode cX7_who 41 = .ok (.iaload, 1) := by decide +kernel
theorem dX7_who_42 : decode cX7_who 42 = .ok (.imul, 1) := by decide +kernel
theorem dX7_who_43 : decode cX7_who 43 = .ok (.invokevirtual 222, 3) := by decide +kernel
theorem dX7_who_46 : decode cX7_who 46 = .ok (.istore 5, 2) := by decide +kernel
theorem dX7_who_48 : decode cX7_who 48 = .ok (.iload 5, 2) := by decide +kernel
theorem dX7_who_50 : decode cX7_who 50 = .ok (.ifCond .ge 6, 3) := by decide +kernel
theorem dX7_who_53 : decode cX7_who 53 = .ok (.iload 5, 2) := by decide +kernel
theorem dX7_who_55 : decode cX7_who 55 = .ok (.ireturn, 1) := by decide +kernel
theorem dX7_who_56 : decode cX7_who 56 = .ok (.aload_n 0, 1) := by decide +kernel
theorem dX7_who_57 : decode cX7_who 57 = .ok (.invokevirtual 185, 3) := by decide +kernel
theorem dX7_who_60 : decode cX7_who 60 = .ok (.iconst 0, 1) := by decide +kernel
theorem dX7_who_61 : decode cX7_who 61 = .ok (.istore 6, 2) := by decide +kernel
theorem dX7_who_63 : decode cX7_who 63 = .ok (.iconst 1, 1) := by decide +kernel
theorem dX7_who_64 : decode cX7_who 64 = .ok (.istore 7, 2) := by decide +kernel
theorem dX7_who_66 : decode cX7_who 66 = .ok (.iload 7, 2) := by decide +kernel
theorem dX7_who_68 : decode cX7_who 68 = .ok (.iconst 5, 1) := by decide +kernel
theorem dX7_who_69 : decode cX7_who 69 = .ok (.if_icmp .gt 48, 3) := by decide +kernel
theorem dX7_who_72 : decode cX7_who 72 = .ok (.aload_n 0, 1) := by decide +kernel
theorem dX7_who_73 : decode cX7_who 73 = .ok (.getfield 19, 3) := by decide +kernel
theorem dX7_who_76 : decode cX7_who 76 = .ok (.bipush 37, 2) := by decide +kernel
theorem dX7_who_78 : decode cX7_who 78 = .ok (.iload_n 1, 1) := by decide +kernel
theorem dX7_who_79 : decode cX7_who 79 = .ok (.iadd, 1) := by decide +kernel
theorem dX7_who_80 : decode cX7_who 80 = .ok (.iload 7, 2) := by decide +kernel
theorem dX7_who_82 : decode cX7_who 82 = .ok (.iastore, 1) := by decide +kernel
theorem dX7_who_83 : decode cX7_who 83 = .ok (.iload 6, 2) := by decide +kernel
theorem dX7_who_85 : decode cX7_who 85 = .ok (.aload_n 0, 1) := by decide +kernel
theorem dX7_who_86 : decode cX7_who 86 = .ok (.bipush 40, 2) := by decide +kernel
theorem dX7_who_88 : decode cX7_who 88 = .ok (.iload_n 2, 1) := by decide +kernel
theorem dX7_who_89 : decode cX7_who 89 = .ok (.imul, 1) := by decide +kernel
theorem dX7_who_90 : decode cX7_who 90 = .ok (.iload_n 3, 1) := by decide +kernel
theorem dX7_who_91 : decode cX7_who 91 = .ok (.iadd, 1) := by decide +kernel
theorem dX7_who_92 : decode cX7_who 92 = .ok (.iload 4, 2) := by decide +kernel
theorem dX7_who_94 : decode cX7_who 94 = .ok (.invokevirtual 226, 3) := by decide +kernel
theorem dX7_who_97 : decode cX7_who 97 = .ok (.ifCond .eq 10, 3) := by decide +kernel
theorem dX7_who_100 : decode cX7_who 100 = .ok (.iconst 1, 1) := by decide +kernel
theorem dX7_who_101 : decode cX7_who 101 = .ok (.iload 7, 2) := by decide +kernel
theorem dX7_who_103 : decode cX7_who 103 = .ok (.ishl, 1) := by decide +kernel
theorem dX7_who_104 : decode cX7_who 104 = .ok (.goto 4, 3) := by decide +kernel
theorem dX7_who_107 : decode cX7_who 107 = .ok (.iconst 0, 1) := by decide +kernel
theorem dX7_who_108 : decode cX7_who 108 = .ok (.ior, 1) := by decide +kernel
theorem dX7_who_109 : decode cX7_who 109 = .ok (.istore 6, 2) := by decide +kernel
theorem dX7_who_111 : decode cX7_who 111 = .ok (.iinc 7 1, 3) := by decide +kernel
theorem dX7_who_114 : decode cX7_who 114 = .ok (.goto (-48), 3) := by decide +kernel
theorem dX7_who_117 : decode cX7_who 117 = .ok (.aload_n 0, 1) := by decide +kernel
theorem dX7_who_118 : decode cX7_who 118 = .ok (.iload 6, 2) := by decide +kernel
theorem dX7_who_120 : decode cX7_who 120 = .ok (.invokevirtual 69, 3) := by decide +kernel
theorem dX7_who_123 : decode cX7_who 123 = .ok (.ireturn, 1) := by decide +kernel
theorem dX7_reachBy_0 : decode cX7_reachBy 0 = .ok (.iconst 1, 1) := by decide +kernel
theorem dX7_reachBy_1 : decode cX7_reachBy 1 = .ok (.iload_n 1, 1) := by decide +kernel
theorem dX7_reachBy_2 : decode cX7_reachBy 2 = .ok (.ishl, 1) := by decide +kernel
theorem dX7_reachBy_3 : decode cX7_reachBy 3 = .ok (.istore_n 3, 1) := by decide +kernel
theorem dX7_reachBy_4 : decode cX7_reachBy 4 = .ok (.iconst 0, 1) := by decide +kernel
theorem dX7_reachBy_5 : decode cX7_reachBy 5 = .ok (.istore 4, 2) := by decide +kernel
theorem dX7_reachBy_7 : decode cX7_reachBy 7 = .ok (.iload 4, 2) := by decide +kernel
theorem dX7_reachBy_9 : decode cX7_reachBy 9 = .ok (.bipush 64, 2) := by decide +kernel
theorem dX7_reachBy_11 : decode cX7_reachBy 11 = .ok (.if_icmp .ge 97, 3) := by decide +kernel
theorem dX7_reachBy_14 : decode cX7_reachBy 14 = .ok (.iload 4, 2) := by decide +kernel
theorem dX7_reachBy_16 : decode cX7_reachBy 16 = .ok (.bipush 8, 2) := by decide +kernel
theorem dX7_reachBy_18 : decode cX7_reachBy 18 = .ok (.irem, 1) := by decide +kernel
theorem dX7_reachBy_19 : decode cX7_reachBy 19 = .ok (.istore 5, 2) := by decide +kernel
theorem dX7_reachBy_21 : decode cX7_reachBy 21 = .ok (.iload_n 2, 1) := by decide +kernel
theorem dX7_reachBy_22 : decode cX7_reachBy 22 = .ok (.iload 5, 2) := by decide +kernel
theorem dX7_reachBy_24 : decode cX7_reachBy 24 = .ok (.invokestatic 199, 3) := by decide +kernel
theorem dX7_reachBy_27 : decode cX7_reachBy 27 = .ok (.ifCond .eq 75, 3) := by decide +kernel
theorem dX7_reachBy_30 : decode cX7_reachBy 30 = .ok (.iload_n 3, 1) := by decide +kernel
theorem dX7_reachBy_31 : decode cX7_reachBy 31 = .ok (.iload_n 3, 1) := by decide +kernel
theorem dX7_reachBy_32 : decode cX7_reachBy 32 = .ok (.aload_n 0, 1) := by decide +kernel
theorem dX7_reachBy_33 : decode cX7_reachBy 33 = .ok (.getfield 19, 3) := by decide +kernel
theorem dX7_reachBy_36 : decode cX7_reachBy 36 = .ok (.bipush 13, 2) := by decide +kernel
theorem dX7_reachBy_38 : decode cX7_reachBy 38 = .ok (.iload 5, 2) := by decide +kernel
theorem dX7_reachBy_40 : decode cX7_reachBy 40 = .ok (.iadd, 1) := by decide +kernel
theorem dX7_reachBy_41 : decode cX7_reachBy 41 = .ok (.iaload, 1) := by decide +kernel
theorem dX7_reachBy_42 : decode cX7_reachBy 42 = .ok (.invokestatic 199, 3) := by decide +kernel
theorem dX7_reachBy_45 : decode cX7_reachBy 45 = .ok (.ifCond .eq 18, 3) := by decide +kernel
theorem dX7_reachBy_48 : decode cX7_reachBy 48 = .ok (.iconst 1, 1) := by decide +kernel
theorem dX7_reachBy_49 : decode cX7_reachBy 49 = .ok (.aload_n 0, 1) := by decide +kernel
theorem dX7_reachBy_50 : decode cX7_reachBy 50 = .ok (.getfield 19, 3) := by decide +kernel
theorem dX7_reachBy_53 : decode cX7_reachBy 53 = .ok (.bipush 21, 2) := by decide +kernel
theorem dX7_reachBy_55 : decode cX7_reachBy 55 = .ok (.iload 5, 2) := by decide +kernel
theorem dX7_reachBy_57 : decode cX7_reachBy 57 = .ok (.iadd, 1) := by decide +kernel
theorem dX7_reachBy_58 : decode cX7_reachBy 58 = .ok (.iaload, 1) := by decide +kernel
theorem dX7_reachBy_59 : decode cX7_reachBy 59 = .ok (.ishl, 1) := by decide +kernel
theorem dX7_reachBy_60 : decode cX7_reachBy 60 = .ok (.goto 4, 3) := by decide +kernel
theorem dX7_reachBy_63 : decode cX7_reachBy 63 = .ok (.iconst 0, 1) := by decide +kernel
theorem dX7_reachBy_64 : decode cX7_reachBy 64 = .ok (.ior, 1) := by decide +kernel
theorem dX7_reachBy_65 : decode cX7_reachBy 65 = .ok (.istore_n 3, 1) := by decide +kernel
theorem dX7_reachBy_66 : decode cX7_reachBy 66 = .ok (.iload_n 3, 1) := by decide +kernel
theorem dX7_reachBy_67 : decode cX7_reachBy 67 = .ok (.iload_n 3, 1) := by decide +kernel
theorem dX7_reachBy_68 : decode cX7_reachBy 68 = .ok (.aload_n 0, 1) := by decide +kernel
theorem dX7_reachBy_69 : decode cX7_reachBy 69 = .ok (.getfield 19, 3) := by decide +kernel
theorem dX7_reachBy_72 : decode cX7_reachBy 72 = .ok (.bipush 21, 2) := by decide +kernel
theorem dX7_reachBy_74 : decode cX7_reachBy 74 = .ok (.iload 5, 2) := by decide +kernel
theorem dX7_reachBy_76 : decode cX7_reachBy 76 = .ok (.iadd, 1) := by decide +kernel
theorem dX7_reachBy_77 : decode cX7_reachBy 77 = .ok (.iaload, 1) := by decide +kernel
theorem dX7_reachBy_78 : decode cX7_reachBy 78 = .ok (.invokestatic 199, 3) := by decide +kernel
theorem dX7_reachBy_81 : decode cX7_reachBy 81 = .ok (.ifCond .eq 18, 3) := by decide +kernel
theorem dX7_reachBy_84 : decode cX7_reachBy 84 = .ok (.iconst 1, 1) := by decide +kernel
theorem dX7_reachBy_85 : decode cX7_reachBy 85 = .ok (.aload_n 0, 1) := by decide +kernel
theorem dX7_reachBy_86 : decode cX7_reachBy 86 = .ok (.getfield 19, 3) := by decide +kernel
theorem dX7_reachBy_89 : decode cX7_reachBy 89 = .ok (.bipush 13, 2) := by decide +kernel
theorem dX7_reachBy_91 : decode cX7_reachBy 91 = .ok (.iload 5, 2) := by decide +kernel
theorem dX7_reachBy_93 : decode cX7_reachBy 93 = .ok (.iadd, 1) := by decide +kernel
theorem dX7_reachBy_94 : decode cX7_reachBy 94 = .ok (.iaload, 1) := by decide +kernel
theorem dX7_reachBy_95 : decode cX7_reachBy 95 = .ok (.ishl, 1) := by decide +kernel
theorem dX7_reachBy_96 : decode cX7_reachBy 96 = .ok (.goto 4, 3) := by decide +kernel
theorem dX7_reachBy_99 : decode cX7_reachBy 99 = .ok (.iconst 0, 1) := by decide +kernel
theorem dX7_reachBy_100 : decode cX7_reachBy 100 = .ok (.ior, 1) := by decide +kernel
theorem dX7_reachBy_101 : decode cX7_reachBy 101 = .ok (.istore_n 3, 1) := by decide +kernel
theorem dX7_reachBy_102 : decode cX7_reachBy 102 = .ok (.iinc 4 1, 3) := by decide +kernel
theorem dX7_reachBy_105 : decode cX7_reachBy 105 = .ok (.goto (-98), 3) := by decide +kernel
theorem dX7_reachBy_108 : decode cX7_reachBy 108 = .ok (.iload_n 3, 1) := by decide +kernel
theorem dX7_reachBy_109 : decode cX7_reachBy 109 = .ok (.ireturn, 1) := by decide +kernel
theorem dX7_parted_0 : decode cX7_parted 0 = .ok (.aload_n 0, 1) := by decide +kernel
theorem dX7_parted_1 : decode cX7_parted 1 = .ok (.getfield 135, 3) := by decide +kernel
theorem dX7_parted_4 : decode cX7_parted 4 = .ok (.ifCond .ne 6, 3) := by decide +kernel
theorem dX7_parted_7 : decode cX7_parted 7 = .ok (.ldc 142, 2) := by decide +kernel
theorem dX7_parted_9 : decode cX7_parted 9 = .ok (.ireturn, 1) := by decide +kernel
theorem dX7_parted_10 : decode cX7_parted 10 = .ok (.aload_n 0, 1) := by decide +kernel
theorem dX7_parted_11 : decode cX7_parted 11 = .ok (.iload_n 1, 1) := by decide +kernel
theorem dX7_parted_12 : decode cX7_parted 12 = .ok (.invokevirtual 175, 3) := by decide +kernel
theorem dX7_parted_15 : decode cX7_parted 15 = .ok (.ifCond .eq 21, 3) := by decide +kernel
theorem dX7_parted_18 : decode cX7_parted 18 = .ok (.aload_n 0, 1) := by decide +kernel
theorem dX7_parted_19 : decode cX7_parted 19 = .ok (.iload_n 2, 1) := by decide +kernel
theorem dX7_parted_20 : decode cX7_parted 20 = .ok (.invokevirtual 175, 3) := by decide +kernel
theorem dX7_parted_23 : decode cX7_parted 23 = .ok (.ifCond .eq 13, 3) := by decide +kernel
theorem dX7_parted_26 : decode cX7_parted 26 = .ok (.iload_n 3, 1) := by decide +kernel
theorem dX7_parted_27 : decode cX7_parted 27 = .ok (.i2l, 1) := by decide +kernel
theorem dX7_parted_28 : decode cX7_parted 28 = .ok (.lconst 0, 1) := by decide +kernel
theorem dX7_parted_29 : decode cX7_parted 29 = .ok (.lconst 1, 1) := by decide +kernel
theorem dX7_parted_30 : decode cX7_parted 30 = .ok (.invokestatic 54, 3) := by decide +kernel
theorem dX7_parted_33 : decode cX7_parted 33 = .ok (.ifCond .ne 6, 3) := by decide +kernel
theorem dX7_parted_36 : decode cX7_parted 36 = .ok (.ldc 64, 2) := by decide +kernel
theorem dX7_parted_38 : decode cX7_parted 38 = .ok (.ireturn, 1) := by decide +kernel
theorem dX7_parted_39 : decode cX7_parted 39 = .ok (.iload_n 1, 1) := by decide +kernel
theorem dX7_parted_40 : decode cX7_parted 40 = .ok (.iload_n 2, 1) := by decide +kernel
theorem dX7_parted_41 : decode cX7_parted 41 = .ok (.if_icmp .ne 6, 3) := by decide +kernel
theorem dX7_parted_44 : decode cX7_parted 44 = .ok (.ldc 198, 2) := by decide +kernel
end
section
theorem dX7_parted_46 : decode cX7_parted 46 = .ok (.ireturn, 1) := by decide +kernel
theorem dX7_parted_47 : decode cX7_parted 47 = .ok (.aload_n 0, 1) := by decide +kernel
theorem dX7_parted_48 : decode cX7_parted 48 = .ok (.invokevirtual 169, 3) := by decide +kernel
theorem dX7_parted_51 : decode cX7_parted 51 = .ok (.istore 4, 2) := by decide +kernel
theorem dX7_parted_53 : decode cX7_parted 53 = .ok (.iconst (-1), 1) := by decide +kernel
theorem dX7_parted_54 : decode cX7_parted 54 = .ok (.istore 5, 2) := by decide +kernel
theorem dX7_parted_56 : decode cX7_parted 56 = .ok (.iconst 0, 1) := by decide +kernel
theorem dX7_parted_57 : decode cX7_parted 57 = .ok (.istore 6, 2) := by decide +kernel
theorem dX7_parted_59 : decode cX7_parted 59 = .ok (.iload 6, 2) := by decide +kernel
theorem dX7_parted_61 : decode cX7_parted 61 = .ok (.iconst 1, 1) := by decide +kernel
theorem dX7_parted_62 : decode cX7_parted 62 = .ok (.aload_n 0, 1) := by decide +kernel
theorem dX7_parted_63 : decode cX7_parted 63 = .ok (.getfield 19, 3) := by decide +kernel
theorem dX7_parted_66 : decode cX7_parted 66 = .ok (.iconst 4, 1) := by decide +kernel
theorem dX7_parted_67 : decode cX7_parted 67 = .ok (.iaload, 1) := by decide +kernel
theorem dX7_parted_68 : decode cX7_parted 68 = .ok (.ishl, 1) := by decide +kernel
theorem dX7_parted_69 : decode cX7_parted 69 = .ok (.if_icmp .ge 72, 3) := by decide +kernel
theorem dX7_parted_72 : decode cX7_parted 72 = .ok (.iload 5, 2) := by decide +kernel
theorem dX7_parted_74 : decode cX7_parted 74 = .ok (.ifCond .lt 16, 3) := by decide +kernel
theorem dX7_parted_77 : decode cX7_parted 77 = .ok (.iload 6, 2) := by decide +kernel
theorem dX7_parted_79 : decode cX7_parted 79 = .ok (.invokestatic 208, 3) := by decide +kernel
theorem dX7_parted_82 : decode cX7_parted 82 = .ok (.iload 5, 2) := by decide +kernel
theorem dX7_parted_84 : decode cX7_parted 84 = .ok (.invokestatic 208, 3) := by decide +kernel
theorem dX7_parted_87 : decode cX7_parted 87 = .ok (.if_icmp .ge 7, 3) := by decide +kernel
theorem dX7_parted_90 : decode cX7_parted 90 = .ok (.iconst 1, 1) := by decide +kernel
theorem dX7_parted_91 : decode cX7_parted 91 = .ok (.goto 4, 3) := by decide +kernel
theorem dX7_parted_94 : decode cX7_parted 94 = .ok (.iconst 0, 1) := by decide +kernel
theorem dX7_parted_95 : decode cX7_parted 95 = .ok (.istore 7, 2) := by decide +kernel
theorem dX7_parted_97 : decode cX7_parted 97 = .ok (.iload 7, 2) := by decide +kernel
theorem dX7_parted_99 : decode cX7_parted 99 = .ok (.ifCond .eq 36, 3) := by decide +kernel
theorem dX7_parted_102 : decode cX7_parted 102 = .ok (.iload 6, 2) := by decide +kernel
theorem dX7_parted_104 : decode cX7_parted 104 = .ok (.iload 4, 2) := by decide +kernel
theorem dX7_parted_106 : decode cX7_parted 106 = .ok (.iconst (-1), 1) := by decide +kernel
theorem dX7_parted_107 : decode cX7_parted 107 = .ok (.ixor, 1) := by decide +kernel
theorem dX7_parted_108 : decode cX7_parted 108 = .ok (.iand, 1) := by decide +kernel
theorem dX7_parted_109 : decode cX7_parted 109 = .ok (.ifCond .ne 26, 3) := by decide +kernel
theorem dX7_parted_112 : decode cX7_parted 112 = .ok (.aload_n 0, 1) := by decide +kernel
theorem dX7_parted_113 : decode cX7_parted 113 = .ok (.iload_n 1, 1) := by decide +kernel
theorem dX7_parted_114 : decode cX7_parted 114 = .ok (.iload 4, 2) := by decide +kernel
theorem dX7_parted_116 : decode cX7_parted 116 = .ok (.iload 6, 2) := by decide +kernel
theorem dX7_parted_118 : decode cX7_parted 118 = .ok (.iconst (-1), 1) := by decide +kernel
theorem dX7_parted_119 : decode cX7_parted 119 = .ok (.ixor, 1) := by decide +kernel
theorem dX7_parted_120 : decode cX7_parted 120 = .ok (.iand, 1) := by decide +kernel
theorem dX7_parted_121 : decode cX7_parted 121 = .ok (.invokevirtual 229, 3) := by decide +kernel
theorem dX7_parted_124 : decode cX7_parted 124 = .ok (.iload_n 2, 1) := by decide +kernel
theorem dX7_parted_125 : decode cX7_parted 125 = .ok (.invokestatic 199, 3) := by decide +kernel
theorem dX7_parted_128 : decode cX7_parted 128 = .ok (.ifCond .ne 7, 3) := by decide +kernel
theorem dX7_parted_131 : decode cX7_parted 131 = .ok (.iload 6, 2) := by decide +kernel
theorem dX7_parted_133 : decode cX7_parted 133 = .ok (.istore 5, 2) := by decide +kernel
theorem dX7_parted_135 : decode cX7_parted 135 = .ok (.iinc 6 1, 3) := by decide +kernel
theorem dX7_parted_138 : decode cX7_parted 138 = .ok (.goto (-79), 3) := by decide +kernel
theorem dX7_parted_141 : decode cX7_parted 141 = .ok (.iload_n 3, 1) := by decide +kernel
theorem dX7_parted_142 : decode cX7_parted 142 = .ok (.ifCond .ne 11, 3) := by decide +kernel
theorem dX7_parted_145 : decode cX7_parted 145 = .ok (.iload 5, 2) := by decide +kernel
theorem dX7_parted_147 : decode cX7_parted 147 = .ok (.invokestatic 208, 3) := by decide +kernel
theorem dX7_parted_150 : decode cX7_parted 150 = .ok (.goto 5, 3) := by decide +kernel
theorem dX7_parted_153 : decode cX7_parted 153 = .ok (.iload 5, 2) := by decide +kernel
theorem dX7_parted_155 : decode cX7_parted 155 = .ok (.ireturn, 1) := by decide +kernel
theorem dX7_coldest_0 : decode cX7_coldest 0 = .ok (.aload_n 0, 1) := by decide +kernel
theorem dX7_coldest_1 : decode cX7_coldest 1 = .ok (.getfield 135, 3) := by decide +kernel
theorem dX7_coldest_4 : decode cX7_coldest 4 = .ok (.ifCond .ne 6, 3) := by decide +kernel
theorem dX7_coldest_7 : decode cX7_coldest 7 = .ok (.ldc 142, 2) := by decide +kernel
theorem dX7_coldest_9 : decode cX7_coldest 9 = .ok (.ireturn, 1) := by decide +kernel
theorem dX7_coldest_10 : decode cX7_coldest 10 = .ok (.iload_n 1, 1) := by decide +kernel
theorem dX7_coldest_11 : decode cX7_coldest 11 = .ok (.i2l, 1) := by decide +kernel
theorem dX7_coldest_12 : decode cX7_coldest 12 = .ok (.lconst 0, 1) := by decide +kernel
theorem dX7_coldest_13 : decode cX7_coldest 13 = .ok (.ldc2_w 183, 3) := by decide +kernel
theorem dX7_coldest_16 : decode cX7_coldest 16 = .ok (.invokestatic 54, 3) := by decide +kernel
theorem dX7_coldest_19 : decode cX7_coldest 19 = .ok (.ifCond .eq 13, 3) := by decide +kernel
theorem dX7_coldest_22 : decode cX7_coldest 22 = .ok (.iload_n 2, 1) := by decide +kernel
theorem dX7_coldest_23 : decode cX7_coldest 23 = .ok (.i2l, 1) := by decide +kernel
theorem dX7_coldest_24 : decode cX7_coldest 24 = .ok (.lconst 0, 1) := by decide +kernel
theorem dX7_coldest_25 : decode cX7_coldest 25 = .ok (.lconst 1, 1) := by decide +kernel
theorem dX7_coldest_26 : decode cX7_coldest 26 = .ok (.invokestatic 54, 3) := by decide +kernel
theorem dX7_coldest_29 : decode cX7_coldest 29 = .ok (.ifCond .ne 6, 3) := by decide +kernel
theorem dX7_coldest_32 : decode cX7_coldest 32 = .ok (.ldc 64, 2) := by decide +kernel
theorem dX7_coldest_34 : decode cX7_coldest 34 = .ok (.ireturn, 1) := by decide +kernel
theorem dX7_coldest_35 : decode cX7_coldest 35 = .ok (.aload_n 0, 1) := by decide +kernel
theorem dX7_coldest_36 : decode cX7_coldest 36 = .ok (.invokevirtual 185, 3) := by decide +kernel
theorem dX7_coldest_39 : decode cX7_coldest 39 = .ok (.aload_n 0, 1) := by decide +kernel
theorem dX7_coldest_40 : decode cX7_coldest 40 = .ok (.iload_n 1, 1) := by decide +kernel
theorem dX7_coldest_41 : decode cX7_coldest 41 = .ok (.invokevirtual 188, 3) := by decide +kernel
theorem dX7_coldest_44 : decode cX7_coldest 44 = .ok (.iconst 0, 1) := by decide +kernel
theorem dX7_coldest_45 : decode cX7_coldest 45 = .ok (.istore_n 3, 1) := by decide +kernel
theorem dX7_coldest_46 : decode cX7_coldest 46 = .ok (.iconst 1, 1) := by decide +kernel
theorem dX7_coldest_47 : decode cX7_coldest 47 = .ok (.istore 4, 2) := by decide +kernel
theorem dX7_coldest_49 : decode cX7_coldest 49 = .ok (.iload 4, 2) := by decide +kernel
theorem dX7_coldest_51 : decode cX7_coldest 51 = .ok (.aload_n 0, 1) := by decide +kernel
theorem dX7_coldest_52 : decode cX7_coldest 52 = .ok (.getfield 19, 3) := by decide +kernel
theorem dX7_coldest_55 : decode cX7_coldest 55 = .ok (.iconst 0, 1) := by decide +kernel
theorem dX7_coldest_56 : decode cX7_coldest 56 = .ok (.iaload, 1) := by decide +kernel
theorem dX7_coldest_57 : decode cX7_coldest 57 = .ok (.if_icmp .ge 38, 3) := by decide +kernel
theorem dX7_coldest_60 : decode cX7_coldest 60 = .ok (.aload_n 0, 1) := by decide +kernel
theorem dX7_coldest_61 : decode cX7_coldest 61 = .ok (.getfield 19, 3) := by decide +kernel
theorem dX7_coldest_64 : decode cX7_coldest 64 = .ok (.bipush 7, 2) := by decide +kernel
theorem dX7_coldest_66 : decode cX7_coldest 66 = .ok (.iload 4, 2) := by decide +kernel
theorem dX7_coldest_68 : decode cX7_coldest 68 = .ok (.iadd, 1) := by decide +kernel
theorem dX7_coldest_69 : decode cX7_coldest 69 = .ok (.iaload, 1) := by decide +kernel
theorem dX7_coldest_70 : decode cX7_coldest 70 = .ok (.aload_n 0, 1) := by decide +kernel
theorem dX7_coldest_71 : decode cX7_coldest 71 = .ok (.getfield 19, 3) := by decide +kernel
theorem dX7_coldest_74 : decode cX7_coldest 74 = .ok (.bipush 7, 2) := by decide +kernel
theorem dX7_coldest_76 : decode cX7_coldest 76 = .ok (.iload_n 3, 1) := by decide +kernel
theorem dX7_coldest_77 : decode cX7_coldest 77 = .ok (.iadd, 1) := by decide +kernel
theorem dX7_coldest_78 : decode cX7_coldest 78 = .ok (.iaload, 1) := by decide +kernel
theorem dX7_coldest_79 : decode cX7_coldest 79 = .ok (.if_icmp .le 8, 3) := by decide +kernel
theorem dX7_coldest_82 : decode cX7_coldest 82 = .ok (.iload 4, 2) := by decide +kernel
theorem dX7_coldest_84 : decode cX7_coldest 84 = .ok (.goto 4, 3) := by decide +kernel
theorem dX7_coldest_87 : decode cX7_coldest 87 = .ok (.iload_n 3, 1) := by decide +kernel
theorem dX7_coldest_88 : decode cX7_coldest 88 = .ok (.istore_n 3, 1) := by decide +kernel
theorem dX7_coldest_89 : decode cX7_coldest 89 = .ok (.iinc 4 1, 3) := by decide +kernel
theorem dX7_coldest_92 : decode cX7_coldest 92 = .ok (.goto (-43), 3) := by decide +kernel
theorem dX7_coldest_95 : decode cX7_coldest 95 = .ok (.aload_n 0, 1) := by decide +kernel
theorem dX7_coldest_96 : decode cX7_coldest 96 = .ok (.getfield 19, 3) := by decide +kernel
theorem dX7_coldest_99 : decode cX7_coldest 99 = .ok (.bipush 7, 2) := by decide +kernel
theorem dX7_coldest_101 : decode cX7_coldest 101 = .ok (.iload_n 3, 1) := by decide +kernel
theorem dX7_coldest_102 : decode cX7_coldest 102 = .ok (.iadd, 1) := by decide +kernel
theorem dX7_coldest_103 : decode cX7_coldest 103 = .ok (.iaload, 1) := by decide +kernel
theorem dX7_coldest_104 : decode cX7_coldest 104 = .ok (.istore 4, 2) := by decide +kernel
theorem dX7_coldest_106 : decode cX7_coldest 106 = .ok (.aload_n 0, 1) := by decide +kernel
theorem dX7_coldest_107 : decode cX7_coldest 107 = .ok (.invokevirtual 192, 3) := by decide +kernel
theorem dX7_coldest_110 : decode cX7_coldest 110 = .ok (.iload_n 2, 1) := by decide +kernel
theorem dX7_coldest_111 : decode cX7_coldest 111 = .ok (.ifCond .ne 7, 3) := by decide +kernel
theorem dX7_coldest_114 : decode cX7_coldest 114 = .ok (.iload_n 3, 1) := by decide +kernel
theorem dX7_coldest_115 : decode cX7_coldest 115 = .ok (.goto 5, 3) := by decide +kernel
theorem dX7_coldest_118 : decode cX7_coldest 118 = .ok (.iload 4, 2) := by decide +kernel
theorem dX7_coldest_120 : decode cX7_coldest 120 = .ok (.ireturn, 1) := by decide +kernel
theorem dX7_guest_0 : decode cX7_guest 0 = .ok (.aload_n 0, 1) := by decide +kernel
theorem dX7_guest_1 : decode cX7_guest 1 = .ok (.getfield 135, 3) := by decide +kernel
theorem dX7_guest_4 : decode cX7_guest 4 = .ok (.ifCond .ne 6, 3) := by decide +kernel
theorem dX7_guest_7 : decode cX7_guest 7 = .ok (.ldc 142, 2) := by decide +kernel
theorem dX7_guest_9 : decode cX7_guest 9 = .ok (.ireturn, 1) := by decide +kernel
theorem dX7_guest_10 : decode cX7_guest 10 = .ok (.aload_n 0, 1) := by decide +kernel
theorem dX7_guest_11 : decode cX7_guest 11 = .ok (.iload_n 1, 1) := by decide +kernel
theorem dX7_guest_12 : decode cX7_guest 12 = .ok (.invokevirtual 175, 3) := by decide +kernel
theorem dX7_guest_15 : decode cX7_guest 15 = .ok (.ifCond .eq 15, 3) := by decide +kernel
theorem dX7_guest_18 : decode cX7_guest 18 = .ok (.aload_n 0, 1) := by decide +kernel
theorem dX7_guest_19 : decode cX7_guest 19 = .ok (.iload_n 1, 1) := by decide +kernel
theorem dX7_guest_20 : decode cX7_guest 20 = .ok (.aload_n 0, 1) := by decide +kernel
theorem dX7_guest_21 : decode cX7_guest 21 = .ok (.invokevirtual 169, 3) := by decide +kernel
theorem dX7_guest_24 : decode cX7_guest 24 = .ok (.invokevirtual 229, 3) := by decide +kernel
theorem dX7_guest_27 : decode cX7_guest 27 = .ok (.goto 5, 3) := by decide +kernel
theorem dX7_guest_30 : decode cX7_guest 30 = .ok (.ldc 64, 2) := by decide +kernel
theorem dX7_guest_32 : decode cX7_guest 32 = .ok (.ireturn, 1) := by decide +kernel
theorem dX7_wind_0 : decode cX7_wind 0 = .ok (.aload_n 0, 1) := by decide +kernel
theorem dX7_wind_1 : decode cX7_wind 1 = .ok (.getfield 135, 3) := by decide +kernel
theorem dX7_wind_4 : decode cX7_wind 4 = .ok (.ifCond .ne 7, 3) := by decide +kernel
theorem dX7_wind_7 : decode cX7_wind 7 = .ok (.ldc2_w 232, 3) := by decide +kernel
theorem dX7_wind_10 : decode cX7_wind 10 = .ok (.lreturn, 1) := by decide +kernel
theorem dX7_wind_11 : decode cX7_wind 11 = .ok (.aload_n 0, 1) := by decide +kernel
theorem dX7_wind_12 : decode cX7_wind 12 = .ok (.iload_n 1, 1) := by decide +kernel
theorem dX7_wind_13 : decode cX7_wind 13 = .ok (.invokevirtual 175, 3) := by decide +kernel
theorem dX7_wind_16 : decode cX7_wind 16 = .ok (.ifCond .eq 25, 3) := by decide +kernel
theorem dX7_wind_19 : decode cX7_wind 19 = .ok (.iload_n 2, 1) := by decide +kernel
theorem dX7_wind_20 : decode cX7_wind 20 = .ok (.i2l, 1) := by decide +kernel
theorem dX7_wind_21 : decode cX7_wind 21 = .ok (.lconst 0, 1) := by decide +kernel
theorem dX7_wind_22 : decode cX7_wind 22 = .ok (.ldc2_w 234, 3) := by decide +kernel
theorem dX7_wind_25 : decode cX7_wind 25 = .ok (.invokestatic 54, 3) := by decide +kernel
theorem dX7_wind_28 : decode cX7_wind 28 = .ok (.ifCond .eq 13, 3) := by decide +kernel
theorem dX7_wind_31 : decode cX7_wind 31 = .ok (.iload_n 3, 1) := by decide +kernel
theorem dX7_wind_32 : decode cX7_wind 32 = .ok (.i2l, 1) := by decide +kernel
theorem dX7_wind_33 : decode cX7_wind 33 = .ok (.lconst 0, 1) := by decide +kernel
theorem dX7_wind_34 : decode cX7_wind 34 = .ok (.lconst 1, 1) := by decide +kernel
theorem dX7_wind_35 : decode cX7_wind 35 = .ok (.invokestatic 54, 3) := by decide +kernel
theorem dX7_wind_38 : decode cX7_wind 38 = .ok (.ifCond .ne 7, 3) := by decide +kernel
theorem dX7_wind_41 : decode cX7_wind 41 = .ok (.ldc2_w 236, 3) := by decide +kernel
theorem dX7_wind_44 : decode cX7_wind 44 = .ok (.lreturn, 1) := by decide +kernel
theorem dX7_wind_45 : decode cX7_wind 45 = .ok (.aload_n 0, 1) := by decide +kernel
theorem dX7_wind_46 : decode cX7_wind 46 = .ok (.invokevirtual 185, 3) := by decide +kernel
theorem dX7_wind_49 : decode cX7_wind 49 = .ok (.aload_n 0, 1) := by decide +kernel
theorem dX7_wind_50 : decode cX7_wind 50 = .ok (.invokevirtual 169, 3) := by decide +kernel
theorem dX7_wind_53 : decode cX7_wind 53 = .ok (.istore 4, 2) := by decide +kernel
theorem dX7_wind_55 : decode cX7_wind 55 = .ok (.lconst 0, 1) := by decide +kernel
theorem dX7_wind_56 : decode cX7_wind 56 = .ok (.lstore 5, 2) := by decide +kernel
theorem dX7_wind_58 : decode cX7_wind 58 = .ok (.lconst 1, 1) := by decide +kernel
theorem dX7_wind_59 : decode cX7_wind 59 = .ok (.lstore 7, 2) := by decide +kernel
theorem dX7_wind_61 : decode cX7_wind 61 = .ok (.iconst 0, 1) := by decide +kernel
theorem dX7_wind_62 : decode cX7_wind 62 = .ok (.istore 9, 2) := by decide +kernel
theorem dX7_wind_64 : decode cX7_wind 64 = .ok (.iload 9, 2) := by decide +kernel
theorem dX7_wind_66 : decode cX7_wind 66 = .ok (.iload 4, 2) := by decide +kernel
theorem dX7_wind_68 : decode cX7_wind 68 = .ok (.invokestatic 208, 3) := by decide +kernel
theorem dX7_wind_71 : decode cX7_wind 71 = .ok (.if_icmp .ge 17, 3) := by decide +kernel
theorem dX7_wind_74 : decode cX7_wind 74 = .ok (.lload 7, 2) := by decide +kernel
theorem dX7_wind_76 : decode cX7_wind 76 = .ok (.ldc2_w 234, 3) := by decide +kernel
theorem dX7_wind_79 : decode cX7_wind 79 = .ok (.lmul, 1) := by decide +kernel
theorem dX7_wind_80 : decode cX7_wind 80 = .ok (.lstore 7, 2) := by decide +kernel
theorem dX7_wind_82 : decode cX7_wind 82 = .ok (.iinc 9 1, 3) := by decide +kernel
theorem dX7_wind_85 : decode cX7_wind 85 = .ok (.goto (-21), 3) := by decide +kernel
theorem dX7_wind_88 : decode cX7_wind 88 = .ok (.iconst 0, 1) := by decide +kernel
theorem dX7_wind_89 : decode cX7_wind 89 = .ok (.istore 9, 2) := by decide +kernel
theorem dX7_wind_91 : decode cX7_wind 91 = .ok (.iload 9, 2) := by decide +kernel
theorem dX7_wind_93 : decode cX7_wind 93 = .ok (.iconst 1, 1) := by decide +kernel
theorem dX7_wind_94 : decode cX7_wind 94 = .ok (.aload_n 0, 1) := by decide +kernel
theorem dX7_wind_95 : decode cX7_wind 95 = .ok (.getfield 19, 3) := by decide +kernel
theorem dX7_wind_98 : decode cX7_wind 98 = .ok (.iconst 4, 1) := by decide +kernel
theorem dX7_wind_99 : decode cX7_wind 99 = .ok (.iaload, 1) := by decide +kernel
theorem dX7_wind_100 : decode cX7_wind 100 = .ok (.ishl, 1) := by decide +kernel
theorem dX7_wind_101 : decode cX7_wind 101 = .ok (.if_icmp .ge 124, 3) := by decide +kernel
theorem dX7_wind_104 : decode cX7_wind 104 = .ok (.iload 9, 2) := by decide +kernel
theorem dX7_wind_106 : decode cX7_wind 106 = .ok (.iload 4, 2) := by decide +kernel
theorem dX7_wind_108 : decode cX7_wind 108 = .ok (.iconst (-1), 1) := by decide +kernel
theorem dX7_wind_109 : decode cX7_wind 109 = .ok (.ixor, 1) := by decide +kernel
theorem dX7_wind_110 : decode cX7_wind 110 = .ok (.iand, 1) := by decide +kernel
theorem dX7_wind_111 : decode cX7_wind 111 = .ok (.ifCond .ne 108, 3) := by decide +kernel
theorem dX7_wind_114 : decode cX7_wind 114 = .ok (.lconst 1, 1) := by decide +kernel
theorem dX7_wind_115 : decode cX7_wind 115 = .ok (.lstore 10, 2) := by decide +kernel
theorem dX7_wind_117 : decode cX7_wind 117 = .ok (.iconst 0, 1) := by decide +kernel
theorem dX7_wind_118 : decode cX7_wind 118 = .ok (.istore 12, 2) := by decide +kernel
theorem dX7_wind_120 : decode cX7_wind 120 = .ok (.iload 12, 2) := by decide +kernel
theorem dX7_wind_122 : decode cX7_wind 122 = .ok (.aload_n 0, 1) := by decide +kernel
theorem dX7_wind_123 : decode cX7_wind 123 = .ok (.getfield 19, 3) := by decide +kernel
theorem dX7_wind_126 : decode cX7_wind 126 = .ok (.iconst 4, 1) := by decide +kernel
theorem dX7_wind_127 : decode cX7_wind 127 = .ok (.iaload, 1) := by decide +kernel
theorem dX7_wind_128 : decode cX7_wind 128 = .ok (.if_icmp .ge 48, 3) := by decide +kernel
theorem dX7_wind_131 : decode cX7_wind 131 = .ok (.lload 10, 2) := by decide +kernel
theorem dX7_wind_133 : decode cX7_wind 133 = .ok (.iload 9, 2) := by decide +kernel
theorem dX7_wind_135 : decode cX7_wind 135 = .ok (.iload 12, 2) := by decide +kernel
theorem dX7_wind_137 : decode cX7_wind 137 = .ok (.invokestatic 199, 3) := by decide +kernel
theorem dX7_wind_140 : decode cX7_wind 140 = .ok (.ifCond .eq 8, 3) := by decide +kernel
theorem dX7_wind_143 : decode cX7_wind 143 = .ok (.iload_n 2, 1) := by decide +kernel
theorem dX7_wind_144 : decode cX7_wind 144 = .ok (.i2l, 1) := by decide +kernel
theorem dX7_wind_145 : decode cX7_wind 145 = .ok (.goto 22, 3) := by decide +kernel
theorem dX7_wind_148 : decode cX7_wind 148 = .ok (.iload 4, 2) := by decide +kernel
theorem dX7_wind_150 : decode cX7_wind 150 = .ok (.iload 12, 2) := by decide +kernel
theorem dX7_wind_152 : decode cX7_wind 152 = .ok (.invokestatic 199, 3) := by decide +kernel
theorem dX7_wind_155 : decode cX7_wind 155 = .ok (.ifCond .eq 11, 3) := by decide +kernel
theorem dX7_wind_158 : decode cX7_wind 158 = .ok (.bipush 10, 2) := by decide +kernel
theorem dX7_wind_160 : decode cX7_wind 160 = .ok (.iload_n 2, 1) := by decide +kernel
theorem dX7_wind_161 : decode cX7_wind 161 = .ok (.isub, 1) := by decide +kernel
theorem dX7_wind_162 : decode cX7_wind 162 = .ok (.i2l, 1) := by decide +kernel
theorem dX7_wind_163 : decode cX7_wind 163 = .ok (.goto 4, 3) := by decide +kernel
theorem dX7_wind_166 : decode cX7_wind 166 = .ok (.lconst 1, 1) := by decide +kernel
theorem dX7_wind_167 : decode cX7_wind 167 = .ok (.lmul, 1) := by decide +kernel
theorem dX7_wind_168 : decode cX7_wind 168 = .ok (.lstore 10, 2) := by decide +kernel
theorem dX7_wind_170 : decode cX7_wind 170 = .ok (.iinc 12 1, 3) := by decide +kernel
theorem dX7_wind_173 : decode cX7_wind 173 = .ok (.goto (-53), 3) := by decide +kernel
theorem dX7_wind_176 : decode cX7_wind 176 = .ok (.aload_n 0, 1) := by decide +kernel
theorem dX7_wind_177 : decode cX7_wind 177 = .ok (.iload 9, 2) := by decide +kernel
theorem dX7_wind_179 : decode cX7_wind 179 = .ok (.invokevirtual 211, 3) := by decide +kernel
theorem dX7_wind_182 : decode cX7_wind 182 = .ok (.aload_n 0, 1) := by decide +kernel
theorem dX7_wind_183 : decode cX7_wind 183 = .ok (.invokevirtual 159, 3) := by decide +kernel
theorem dX7_wind_186 : decode cX7_wind 186 = .ok (.lload 5, 2) := by decide +kernel
theorem dX7_wind_188 : decode cX7_wind 188 = .ok (.aload_n 0, 1) := by decide +kernel
theorem dX7_wind_189 : decode cX7_wind 189 = .ok (.getfield 19, 3) := by decide +kernel
theorem dX7_wind_192 : decode cX7_wind 192 = .ok (.bipush 7, 2) := by decide +kernel
theorem dX7_wind_194 : decode cX7_wind 194 = .ok (.iload_n 1, 1) := by decide +kernel
theorem dX7_wind_195 : decode cX7_wind 195 = .ok (.iadd, 1) := by decide +kernel
theorem dX7_wind_196 : decode cX7_wind 196 = .ok (.iaload, 1) := by decide +kernel
theorem dX7_wind_197 : decode cX7_wind 197 = .ok (.aload_n 0, 1) := by decide +kernel
theorem dX7_wind_198 : decode cX7_wind 198 = .ok (.getfield 19, 3) := by decide +kernel
theorem dX7_wind_201 : decode cX7_wind 201 = .ok (.iconst 3, 1) := by decide +kernel
theorem dX7_wind_202 : decode cX7_wind 202 = .ok (.iaload, 1) := by decide +kernel
theorem dX7_wind_203 : decode cX7_wind 203 = .ok (.if_icmp .le 8, 3) := by decide +kernel
theorem dX7_wind_206 : decode cX7_wind 206 = .ok (.lload 10, 2) := by decide +kernel
theorem dX7_wind_208 : decode cX7_wind 208 = .ok (.goto 4, 3) := by decide +kernel
theorem dX7_wind_211 : decode cX7_wind 211 = .ok (.lconst 0, 1) := by decide +kernel
theorem dX7_wind_212 : decode cX7_wind 212 = .ok (.ladd, 1) := by decide +kernel
theorem dX7_wind_213 : decode cX7_wind 213 = .ok (.lstore 5, 2) := by decide +kernel
theorem dX7_wind_215 : decode cX7_wind 215 = .ok (.aload_n 0, 1) := by decide +kernel
theorem dX7_wind_216 : decode cX7_wind 216 = .ok (.invokevirtual 192, 3) := by decide +kernel
theorem dX7_wind_219 : decode cX7_wind 219 = .ok (.iinc 9 1, 3) := by decide +kernel
theorem dX7_wind_222 : decode cX7_wind 222 = .ok (.goto (-131), 3) := by decide +kernel
theorem dX7_wind_225 : decode cX7_wind 225 = .ok (.lload 5, 2) := by decide +kernel
theorem dX7_wind_227 : decode cX7_wind 227 = .ok (.lstore 9, 2) := by decide +kernel
theorem dX7_wind_229 : decode cX7_wind 229 = .ok (.lload 7, 2) := by decide +kernel
theorem dX7_wind_231 : decode cX7_wind 231 = .ok (.lstore 11, 2) := by decide +kernel
theorem dX7_wind_233 : decode cX7_wind 233 = .ok (.lload 11, 2) := by decide +kernel
theorem dX7_wind_235 : decode cX7_wind 235 = .ok (.lconst 0, 1) := by decide +kernel
theorem dX7_wind_236 : decode cX7_wind 236 = .ok (.lcmp, 1) := by decide +kernel
theorem dX7_wind_237 : decode cX7_wind 237 = .ok (.ifCond .eq 21, 3) := by decide +kernel
theorem dX7_wind_240 : decode cX7_wind 240 = .ok (.lload 9, 2) := by decide +kernel
theorem dX7_wind_242 : decode cX7_wind 242 = .ok (.lload 11, 2) := by decide +kernel
theorem dX7_wind_244 : decode cX7_wind 244 = .ok (.lrem, 1) := by decide +kernel
theorem dX7_wind_245 : decode cX7_wind 245 = .ok (.lstore 13, 2) := by decide +kernel
theorem dX7_wind_247 : decode cX7_wind 247 = .ok (.lload 11, 2) := by decide +kernel
theorem dX7_wind_249 : decode cX7_wind 249 = .ok (.lstore 9, 2) := by decide +kernel
theorem dX7_wind_251 : decode cX7_wind 251 = .ok (.lload 13, 2) := by decide +kernel
theorem dX7_wind_253 : decode cX7_wind 253 = .ok (.lstore 11, 2) := by decide +kernel
theorem dX7_wind_255 : decode cX7_wind 255 = .ok (.goto (-22), 3) := by decide +kernel
theorem dX7_wind_258 : decode cX7_wind 258 = .ok (.iload_n 3, 1) := by decide +kernel
theorem dX7_wind_259 : decode cX7_wind 259 = .ok (.ifCond .ne 11, 3) := by decide +kernel
theorem dX7_wind_262 : decode cX7_wind 262 = .ok (.lload 5, 2) := by decide +kernel
theorem dX7_wind_264 : decode cX7_wind 264 = .ok (.lload 9, 2) := by decide +kernel
theorem dX7_wind_266 : decode cX7_wind 266 = .ok (.ldiv, 1) := by decide +kernel
theorem dX7_wind_267 : decode cX7_wind 267 = .ok (.goto 8, 3) := by decide +kernel
theorem dX7_wind_270 : decode cX7_wind 270 = .ok (.lload 7, 2) := by decide +kernel
theorem dX7_wind_272 : decode cX7_wind 272 = .ok (.lload 9, 2) := by decide +kernel
theorem dX7_wind_274 : decode cX7_wind 274 = .ok (.ldiv, 1) := by decide +kernel
theorem dX7_wind_275 : decode cX7_wind 275 = .ok (.lreturn, 1) := by decide +kernel
theorem dX7_drawn_0 : decode cX7_drawn 0 = .ok (.aload_n 0, 1) := by decide +kernel
theorem dX7_drawn_1 : decode cX7_drawn 1 = .ok (.getfield 135, 3) := by decide +kernel
theorem dX7_drawn_4 : decode cX7_drawn 4 = .ok (.ifCond .ne 6, 3) := by decide +kernel
theorem dX7_drawn_7 : decode cX7_drawn 7 = .ok (.ldc 142, 2) := by decide +kernel
theorem dX7_drawn_9 : decode cX7_drawn 9 = .ok (.ireturn, 1) := by decide +kernel
theorem dX7_drawn_10 : decode cX7_drawn 10 = .ok (.iload_n 1, 1) := by decide +kernel
theorem dX7_drawn_11 : decode cX7_drawn 11 = .ok (.i2l, 1) := by decide +kernel
theorem dX7_drawn_12 : decode cX7_drawn 12 = .ok (.lconst 0, 1) := by decide +kernel
theorem dX7_drawn_13 : decode cX7_drawn 13 = .ok (.ldc2_w 183, 3) := by decide +kernel
theorem dX7_drawn_16 : decode cX7_drawn 16 = .ok (.invokestatic 54, 3) := by decide +kernel
theorem dX7_drawn_19 : decode cX7_drawn 19 = .ok (.ifCond .eq 25, 3) := by decide +kernel
theorem dX7_drawn_22 : decode cX7_drawn 22 = .ok (.iload_n 2, 1) := by decide +kernel
theorem dX7_drawn_23 : decode cX7_drawn 23 = .ok (.i2l, 1) := by decide +kernel
theorem dX7_drawn_24 : decode cX7_drawn 24 = .ok (.lconst 1, 1) := by decide +kernel
theorem dX7_drawn_25 : decode cX7_drawn 25 = .ok (.ldc2_w 238, 3) := by decide +kernel
theorem dX7_drawn_28 : decode cX7_drawn 28 = .ok (.invokestatic 54, 3) := by decide +kernel
theorem dX7_drawn_31 : decode cX7_drawn 31 = .ok (.ifCond .eq 13, 3) := by decide +kernel
theorem dX7_drawn_34 : decode cX7_drawn 34 = .ok (.iload_n 3, 1) := by decide +kernel
theorem dX7_drawn_35 : decode cX7_drawn 35 = .ok (.i2l, 1) := by decide +kernel
theorem dX7_drawn_36 : decode cX7_drawn 36 = .ok (.lconst 0, 1) := by decide +kernel
theorem dX7_drawn_37 : decode cX7_drawn 37 = .ok (.lconst 1, 1) := by decide +kernel
theorem dX7_drawn_38 : decode cX7_drawn 38 = .ok (.invokestatic 54, 3) := by decide +kernel
theorem dX7_drawn_41 : decode cX7_drawn 41 = .ok (.ifCond .ne 6, 3) := by decide +kernel
theorem dX7_drawn_44 : decode cX7_drawn 44 = .ok (.ldc 64, 2) := by decide +kernel
theorem dX7_drawn_46 : decode cX7_drawn 46 = .ok (.ireturn, 1) := by decide +kernel
theorem dX7_drawn_47 : decode cX7_drawn 47 = .ok (.aload_n 0, 1) := by decide +kernel
theorem dX7_drawn_48 : decode cX7_drawn 48 = .ok (.invokevirtual 185, 3) := by decide +kernel
theorem dX7_drawn_51 : decode cX7_drawn 51 = .ok (.iload_n 2, 1) := by decide +kernel
theorem dX7_drawn_52 : decode cX7_drawn 52 = .ok (.i2l, 1) := by decide +kernel
theorem dX7_drawn_53 : decode cX7_drawn 53 = .ok (.lstore 4, 2) := by decide +kernel
theorem dX7_drawn_55 : decode cX7_drawn 55 = .ok (.iconst 0, 1) := by decide +kernel
theorem dX7_drawn_56 : decode cX7_drawn 56 = .ok (.istore 6, 2) := by decide +kernel
theorem dX7_drawn_58 : decode cX7_drawn 58 = .ok (.iconst 0, 1) := by decide +kernel
theorem dX7_drawn_59 : decode cX7_drawn 59 = .ok (.istore 7, 2) := by decide +kernel
theorem dX7_drawn_61 : decode cX7_drawn 61 = .ok (.iload 7, 2) := by decide +kernel
theorem dX7_drawn_63 : decode cX7_drawn 63 = .ok (.iload_n 1, 1) := by decide +kernel
theorem dX7_drawn_64 : decode cX7_drawn 64 = .ok (.if_icmp .ge 68, 3) := by decide +kernel
theorem dX7_drawn_67 : decode cX7_drawn 67 = .ok (.lload 4, 2) := by decide +kernel
theorem dX7_drawn_69 : decode cX7_drawn 69 = .ok (.ldc2_w 240, 3) := by decide +kernel
theorem dX7_drawn_72 : decode cX7_drawn 72 = .ok (.lmul, 1) := by decide +kernel
theorem dX7_drawn_73 : decode cX7_drawn 73 = .ok (.ldc2_w 242, 3) := by decide +kernel
theorem dX7_drawn_76 : decode cX7_drawn 76 = .ok (.lrem, 1) := by decide +kernel
theorem dX7_drawn_77 : decode cX7_drawn 77 = .ok (.lstore 4, 2) := by decide +kernel
theorem dX7_drawn_79 : decode cX7_drawn 79 = .ok (.aload_n 0, 1) := by decide +kernel
theorem dX7_drawn_80 : decode cX7_drawn 80 = .ok (.getfield 19, 3) := by decide +kernel
theorem dX7_drawn_83 : decode cX7_drawn 83 = .ok (.iconst 4, 1) := by decide +kernel
theorem dX7_drawn_84 : decode cX7_drawn 84 = .ok (.iaload, 1) := by decide +kernel
theorem dX7_drawn_85 : decode cX7_drawn 85 = .ok (.ifCond .le 20, 3) := by decide +kernel
theorem dX7_drawn_88 : decode cX7_drawn 88 = .ok (.aload_n 0, 1) := by decide +kernel
theorem dX7_drawn_89 : decode cX7_drawn 89 = .ok (.iconst 1, 1) := by decide +kernel
theorem dX7_drawn_90 : decode cX7_drawn 90 = .ok (.lload 4, 2) := by decide +kernel
theorem dX7_drawn_92 : decode cX7_drawn 92 = .ok (.aload_n 0, 1) := by decide +kernel
theorem dX7_drawn_93 : decode cX7_drawn 93 = .ok (.getfield 19, 3) := by decide +kernel
theorem dX7_drawn_96 : decode cX7_drawn 96 = .ok (.iconst 4, 1) := by decide +kernel
theorem dX7_drawn_97 : decode cX7_drawn 97 = .ok (.iaload, 1) := by decide +kernel
theorem dX7_drawn_98 : decode cX7_drawn 98 = .ok (.i2l, 1) := by decide +kernel
theorem dX7_drawn_99 : decode cX7_drawn 99 = .ok (.lrem, 1) := by decide +kernel
theorem dX7_drawn_100 : decode cX7_drawn 100 = .ok (.l2i, 1) := by decide +kernel
theorem dX7_drawn_101 : decode cX7_drawn 101 = .ok (.ishl, 1) := by decide +kernel
theorem dX7_drawn_102 : decode cX7_drawn 102 = .ok (.invokevirtual 211, 3) := by decide +kernel
theorem dX7_drawn_105 : decode cX7_drawn 105 = .ok (.aload_n 0, 1) := by decide +kernel
theorem dX7_drawn_106 : decode cX7_drawn 106 = .ok (.invokevirtual 159, 3) := by decide +kernel
theorem dX7_drawn_109 : decode cX7_drawn 109 = .ok (.iload 6, 2) := by decide +kernel
theorem dX7_drawn_111 : decode cX7_drawn 111 = .ok (.aload_n 0, 1) := by decide +kernel
theorem dX7_drawn_112 : decode cX7_drawn 112 = .ok (.invokevirtual 195, 3) := by decide +kernel
theorem dX7_drawn_115 : decode cX7_drawn 115 = .ok (.ifCond .ge 7, 3) := by decide +kernel
theorem dX7_drawn_118 : decode cX7_drawn 118 = .ok (.iconst 0, 1) := by decide +kernel
theorem dX7_drawn_119 : decode cX7_drawn 119 = .ok (.goto 4, 3) := by decide +kernel
theorem dX7_drawn_122 : decode cX7_drawn 122 = .ok (.iconst 1, 1) := by decide +kernel
theorem dX7_drawn_123 : decode cX7_drawn 123 = .ok (.iadd, 1) := by decide +kernel
theorem dX7_drawn_124 : decode cX7_drawn 124 = .ok (.istore 6, 2) := by decide +kernel
theorem dX7_drawn_126 : decode cX7_drawn 126 = .ok (.iinc 7 1, 3) := by decide +kernel
theorem dX7_drawn_129 : decode cX7_drawn 129 = .ok (.goto (-68), 3) := by decide +kernel
theorem dX7_drawn_132 : decode cX7_drawn 132 = .ok (.aload_n 0, 1) := by decide +kernel
theorem dX7_drawn_133 : decode cX7_drawn 133 = .ok (.invokevirtual 162, 3) := by decide +kernel
theorem dX7_drawn_136 : decode cX7_drawn 136 = .ok (.istore 7, 2) := by decide +kernel
theorem dX7_drawn_138 : decode cX7_drawn 138 = .ok (.aload_n 0, 1) := by decide +kernel
theorem dX7_drawn_139 : decode cX7_drawn 139 = .ok (.invokevirtual 192, 3) := by decide +kernel
theorem dX7_drawn_142 : decode cX7_drawn 142 = .ok (.iload_n 3, 1) := by decide +kernel
theorem dX7_drawn_143 : decode cX7_drawn 143 = .ok (.ifCond .ne 8, 3) := by decide +kernel
theorem dX7_drawn_146 : decode cX7_drawn 146 = .ok (.iload 7, 2) := by decide +kernel
theorem dX7_drawn_148 : decode cX7_drawn 148 = .ok (.goto 5, 3) := by decide +kernel
theorem dX7_drawn_151 : decode cX7_drawn 151 = .ok (.iload 6, 2) := by decide +kernel
theorem dX7_drawn_153 : decode cX7_drawn 153 = .ok (.ireturn, 1) := by decide +kernel
theorem dX7_image_0 : decode cX7_image 0 = .ok (.iload_n 1, 1) := by decide +kernel
theorem dX7_image_1 : decode cX7_image 1 = .ok (.i2l, 1) := by decide +kernel
theorem dX7_image_2 : decode cX7_image 2 = .ok (.lconst 0, 1) := by decide +kernel
theorem dX7_image_3 : decode cX7_image 3 = .ok (.lconst 1, 1) := by decide +kernel
theorem dX7_image_4 : decode cX7_image 4 = .ok (.invokestatic 54, 3) := by decide +kernel
theorem dX7_image_7 : decode cX7_image 7 = .ok (.ifCond .ne 6, 3) := by decide +kernel
theorem dX7_image_10 : decode cX7_image 10 = .ok (.ldc 64, 2) := by decide +kernel
theorem dX7_image_12 : decode cX7_image 12 = .ok (.ireturn, 1) := by decide +kernel
theorem dX7_image_13 : decode cX7_image 13 = .ok (.aload_n 0, 1) := by decide +kernel
theorem dX7_image_14 : decode cX7_image 14 = .ok (.getfield 135, 3) := by decide +kernel
theorem dX7_image_17 : decode cX7_image 17 = .ok (.ifCond .ne 6, 3) := by decide +kernel
theorem dX7_image_20 : decode cX7_image 20 = .ok (.ldc 142, 2) := by decide +kernel
theorem dX7_image_22 : decode cX7_image 22 = .ok (.ireturn, 1) := by decide +kernel
theorem dX7_image_23 : decode cX7_image 23 = .ok (.iconst 0, 1) := by decide +kernel
theorem dX7_image_24 : decode cX7_image 24 = .ok (.istore_n 2, 1) := by decide +kernel
theorem dX7_image_25 : decode cX7_image 25 = .ok (.iload_n 2, 1) := by decide +kernel
theorem dX7_image_26 : decode cX7_image 26 = .ok (.bipush 52, 2) := by decide +kernel
theorem dX7_image_28 : decode cX7_image 28 = .ok (.if_icmp .ge 26, 3) := by decide +kernel
theorem dX7_image_31 : decode cX7_image 31 = .ok (.aload_n 0, 1) := by decide +kernel
theorem dX7_image_32 : decode cX7_image 32 = .ok (.getfield 41, 3) := by decide +kernel
theorem dX7_image_35 : decode cX7_image 35 = .ok (.bipush 52, 2) := by decide +kernel
theorem dX7_image_37 : decode cX7_image 37 = .ok (.iload_n 1, 1) := by decide +kernel
theorem dX7_image_38 : decode cX7_image 38 = .ok (.imul, 1) := by decide +kernel
theorem dX7_image_39 : decode cX7_image 39 = .ok (.iload_n 2, 1) := by decide +kernel
theorem dX7_image_40 : decode cX7_image 40 = .ok (.iadd, 1) := by decide +kernel
theorem dX7_image_41 : decode cX7_image 41 = .ok (.aload_n 0, 1) := by decide +kernel
theorem dX7_image_42 : decode cX7_image 42 = .ok (.getfield 19, 3) := by decide +kernel
theorem dX7_image_45 : decode cX7_image 45 = .ok (.iload_n 2, 1) := by decide +kernel
theorem dX7_image_46 : decode cX7_image 46 = .ok (.iaload, 1) := by decide +kernel
theorem dX7_image_47 : decode cX7_image 47 = .ok (.iastore, 1) := by decide +kernel
theorem dX7_image_48 : decode cX7_image 48 = .ok (.iinc 2 1, 3) := by decide +kernel
theorem dX7_image_51 : decode cX7_image 51 = .ok (.goto (-26), 3) := by decide +kernel
theorem dX7_image_54 : decode cX7_image 54 = .ok (.aload_n 0, 1) := by decide +kernel
theorem dX7_image_55 : decode cX7_image 55 = .ok (.getfield 37, 3) := by decide +kernel
theorem dX7_image_58 : decode cX7_image 58 = .ok (.iload_n 1, 1) := by decide +kernel
theorem dX7_image_59 : decode cX7_image 59 = .ok (.iconst 1, 1) := by decide +kernel
theorem dX7_image_60 : decode cX7_image 60 = .ok (.bastore, 1) := by decide +kernel
theorem dX7_image_61 : decode cX7_image 61 = .ok (.iconst 1, 1) := by decide +kernel
theorem dX7_image_62 : decode cX7_image 62 = .ok (.ireturn, 1) := by decide +kernel
theorem dX7_restore_0 : decode cX7_restore 0 = .ok (.iload_n 1, 1) := by decide +kernel
theorem dX7_restore_1 : decode cX7_restore 1 = .ok (.i2l, 1) := by decide +kernel
theorem dX7_restore_2 : decode cX7_restore 2 = .ok (.lconst 0, 1) := by decide +kernel
theorem dX7_restore_3 : decode cX7_restore 3 = .ok (.lconst 1, 1) := by decide +kernel
theorem dX7_restore_4 : decode cX7_restore 4 = .ok (.invokestatic 54, 3) := by decide +kernel
theorem dX7_restore_7 : decode cX7_restore 7 = .ok (.ifCond .ne 6, 3) := by decide +kernel
theorem dX7_restore_10 : decode cX7_restore 10 = .ok (.ldc 64, 2) := by decide +kernel
theorem dX7_restore_12 : decode cX7_restore 12 = .ok (.ireturn, 1) := by decide +kernel
theorem dX7_restore_13 : decode cX7_restore 13 = .ok (.aload_n 0, 1) := by decide +kernel
theorem dX7_restore_14 : decode cX7_restore 14 = .ok (.getfield 37, 3) := by decide +kernel
theorem dX7_restore_17 : decode cX7_restore 17 = .ok (.iload_n 1, 1) := by decide +kernel
theorem dX7_restore_18 : decode cX7_restore 18 = .ok (.baload, 1) := by decide +kernel
theorem dX7_restore_19 : decode cX7_restore 19 = .ok (.ifCond .ne 6, 3) := by decide +kernel
theorem dX7_restore_22 : decode cX7_restore 22 = .ok (.ldc 142, 2) := by decide +kernel
theorem dX7_restore_24 : decode cX7_restore 24 = .ok (.ireturn, 1) := by decide +kernel
theorem dX7_restore_25 : decode cX7_restore 25 = .ok (.iconst 0, 1) := by decide +kernel
theorem dX7_restore_26 : decode cX7_restore 26 = .ok (.istore_n 2, 1) := by decide +kernel
theorem dX7_restore_27 : decode cX7_restore 27 = .ok (.iload_n 2, 1) := by decide +kernel
theorem dX7_restore_28 : decode cX7_restore 28 = .ok (.bipush 52, 2) := by decide +kernel
theorem dX7_restore_30 : decode cX7_restore 30 = .ok (.if_icmp .ge 26, 3) := by decide +kernel
theorem dX7_restore_33 : decode cX7_restore 33 = .ok (.aload_n 0, 1) := by decide +kernel
theorem dX7_restore_34 : decode cX7_restore 34 = .ok (.getfield 19, 3) := by decide +kernel
theorem dX7_restore_37 : decode cX7_restore 37 = .ok (.iload_n 2, 1) := by decide +kernel
theorem dX7_restore_38 : decode cX7_restore 38 = .ok (.aload_n 0, 1) := by decide +kernel
theorem dX7_restore_39 : decode cX7_restore 39 = .ok (.getfield 41, 3) := by decide +kernel
theorem dX7_restore_42 : decode cX7_restore 42 = .ok (.bipush 52, 2) := by decide +kernel
theorem dX7_restore_44 : decode cX7_restore 44 = .ok (.iload_n 1, 1) := by decide +kernel
theorem dX7_restore_45 : decode cX7_restore 45 = .ok (.imul, 1) := by decide +kernel
theorem dX7_restore_46 : decode cX7_restore 46 = .ok (.iload_n 2, 1) := by decide +kernel
theorem dX7_restore_47 : decode cX7_restore 47 = .ok (.iadd, 1) := by decide +kernel
theorem dX7_restore_48 : decode cX7_restore 48 = .ok (.iaload, 1) := by decide +kernel
theorem dX7_restore_49 : decode cX7_restore 49 = .ok (.iastore, 1) := by decide +kernel
theorem dX7_restore_50 : decode cX7_restore 50 = .ok (.iinc 2 1, 3) := by decide +kernel
theorem dX7_restore_53 : decode cX7_restore 53 = .ok (.goto (-26), 3) := by decide +kernel
theorem dX7_restore_56 : decode cX7_restore 56 = .ok (.aload_n 0, 1) := by decide +kernel
theorem dX7_restore_57 : decode cX7_restore 57 = .ok (.iconst 0, 1) := by decide +kernel
theorem dX7_restore_58 : decode cX7_restore 58 = .ok (.putfield 139, 3) := by decide +kernel
theorem dX7_restore_61 : decode cX7_restore 61 = .ok (.iconst 1, 1) := by decide +kernel
theorem dX7_restore_62 : decode cX7_restore 62 = .ok (.ireturn, 1) := by decide +kernel
theorem dX7_kind_0 : decode cX7_kind 0 = .ok (.aload_n 0, 1) := by decide +kernel
theorem dX7_kind_1 : decode cX7_kind 1 = .ok (.iload_n 1, 1) := by decide +kernel
theorem dX7_kind_2 : decode cX7_kind 2 = .ok (.invokevirtual 172, 3) := by decide +kernel
theorem dX7_kind_5 : decode cX7_kind 5 = .ok (.ifCond .eq 15, 3) := by decide +kernel
theorem dX7_kind_8 : decode cX7_kind 8 = .ok (.aload_n 0, 1) := by decide +kernel
theorem dX7_kind_9 : decode cX7_kind 9 = .ok (.getfield 19, 3) := by decide +kernel
theorem dX7_kind_12 : decode cX7_kind 12 = .ok (.bipush 37, 2) := by decide +kernel
theorem dX7_kind_14 : decode cX7_kind 14 = .ok (.iload_n 1, 1) := by decide +kernel
theorem dX7_kind_15 : decode cX7_kind 15 = .ok (.iadd, 1) := by decide +kernel
theorem dX7_kind_16 : decode cX7_kind 16 = .ok (.iaload, 1) := by decide +kernel
theorem dX7_kind_17 : decode cX7_kind 17 = .ok (.goto 5, 3) := by decide +kernel
theorem dX7_kind_20 : decode cX7_kind 20 = .ok (.ldc 64, 2) := by decide +kernel
theorem dX7_kind_22 : decode cX7_kind 22 = .ok (.ireturn, 1) := by decide +kernel
theorem dX7_isKind_0 : decode cX7_isKind 0 = .ok (.iload_n 1, 1) := by decide +kernel
theorem dX7_isKind_1 : decode cX7_isKind 1 = .ok (.ifCond .eq 28, 3) := by decide +kernel
theorem dX7_isKind_4 : decode cX7_isKind 4 = .ok (.iload_n 0, 1) := by decide +kernel
theorem dX7_isKind_5 : decode cX7_isKind 5 = .ok (.iload_n 1, 1) := by decide +kernel
theorem dX7_isKind_6 : decode cX7_isKind 6 = .ok (.if_icmp .eq 23, 3) := by decide +kernel
theorem dX7_isKind_9 : decode cX7_isKind 9 = .ok (.iload_n 1, 1) := by decide +kernel
theorem dX7_isKind_10 : decode cX7_isKind 10 = .ok (.iconst 1, 1) := by decide +kernel
theorem dX7_isKind_11 : decode cX7_isKind 11 = .ok (.if_icmp .ne 8, 3) := by decide +kernel
theorem dX7_isKind_14 : decode cX7_isKind 14 = .ok (.iload_n 0, 1) := by decide +kernel
theorem dX7_isKind_15 : decode cX7_isKind 15 = .ok (.iconst 4, 1) := by decide +kernel
theorem dX7_isKind_16 : decode cX7_isKind 16 = .ok (.if_icmp .lt 13, 3) := by decide +kernel
theorem dX7_isKind_19 : decode cX7_isKind 19 = .ok (.iload_n 1, 1) := by decide +kernel
theorem dX7_isKind_20 : decode cX7_isKind 20 = .ok (.iconst 4, 1) := by decide +kernel
theorem dX7_isKind_21 : decode cX7_isKind 21 = .ok (.if_icmp .ne 12, 3) := by decide +kernel
theorem dX7_isKind_24 : decode cX7_isKind 24 = .ok (.iload_n 0, 1) := by decide +kernel
theorem dX7_isKind_25 : decode cX7_isKind 25 = .ok (.iconst 5, 1) := by decide +kernel
theorem dX7_isKind_26 : decode cX7_isKind 26 = .ok (.if_icmp .ne 7, 3) := by decide +kernel
theorem dX7_isKind_29 : decode cX7_isKind 29 = .ok (.iconst 1, 1) := by decide +kernel
theorem dX7_isKind_30 : decode cX7_isKind 30 = .ok (.goto 4, 3) := by decide +kernel
theorem dX7_isKind_33 : decode cX7_isKind 33 = .ok (.iconst 0, 1) := by decide +kernel
theorem dX7_isKind_34 : decode cX7_isKind 34 = .ok (.ireturn, 1) := by decide +kernel
theorem dX7_as_0 : decode cX7_as 0 = .ok (.aload_n 0, 1) := by decide +kernel
theorem dX7_as_1 : decode cX7_as 1 = .ok (.iload_n 1, 1) := by decide +kernel
theorem dX7_as_2 : decode cX7_as 2 = .ok (.invokevirtual 172, 3) := by decide +kernel
theorem dX7_as_5 : decode cX7_as 5 = .ok (.ifCond .eq 15, 3) := by decide +kernel
theorem dX7_as_8 : decode cX7_as 8 = .ok (.iload_n 2, 1) := by decide +kernel
theorem dX7_as_9 : decode cX7_as 9 = .ok (.i2l, 1) := by decide +kernel
theorem dX7_as_10 : decode cX7_as 10 = .ok (.lconst 0, 1) := by decide +kernel
theorem dX7_as_11 : decode cX7_as 11 = .ok (.ldc2_w 244, 3) := by decide +kernel
theorem dX7_as_14 : decode cX7_as 14 = .ok (.invokestatic 54, 3) := by decide +kernel
theorem dX7_as_17 : decode cX7_as 17 = .ok (.ifCond .ne 6, 3) := by decide +kernel
theorem dX7_as_20 : decode cX7_as 20 = .ok (.ldc 64, 2) := by decide +kernel
theorem dX7_as_22 : decode cX7_as 22 = .ok (.ireturn, 1) := by decide +kernel
theorem dX7_as_23 : decode cX7_as 23 = .ok (.aload_n 0, 1) := by decide +kernel
theorem dX7_as_24 : decode cX7_as 24 = .ok (.getfield 19, 3) := by decide +kernel
theorem dX7_as_27 : decode cX7_as 27 = .ok (.bipush 37, 2) := by decide +kernel
theorem dX7_as_29 : decode cX7_as 29 = .ok (.iload_n 1, 1) := by decide +kernel
theorem dX7_as_30 : decode cX7_as 30 = .ok (.iadd, 1) := by decide +kernel
theorem dX7_as_31 : decode cX7_as 31 = .ok (.iaload, 1) := by decide +kernel
theorem dX7_as_32 : decode cX7_as 32 = .ok (.iload_n 2, 1) := by decide +kernel
theorem dX7_as_33 : decode cX7_as 33 = .ok (.invokestatic 246, 3) := by decide +kernel
theorem dX7_as_36 : decode cX7_as 36 = .ok (.ifCond .eq 11, 3) := by decide +kernel
theorem dX7_as_39 : decode cX7_as 39 = .ok (.aload_n 0, 1) := by decide +kernel
theorem dX7_as_40 : decode cX7_as 40 = .ok (.iload_n 1, 1) := by decide +kernel
theorem dX7_as_41 : decode cX7_as 41 = .ok (.invokevirtual 69, 3) := by decide +kernel
theorem dX7_as_44 : decode cX7_as 44 = .ok (.goto 8, 3) := by decide +kernel
theorem dX7_as_47 : decode cX7_as 47 = .ok (.aload_n 0, 1) := by decide +kernel
theorem dX7_as_48 : decode cX7_as 48 = .ok (.iconst 3, 1) := by decide +kernel
theorem dX7_as_49 : decode cX7_as 49 = .ok (.invokevirtual 65, 3) := by decide +kernel
theorem dX7_as_52 : decode cX7_as 52 = .ok (.ireturn, 1) := by decide +kernel
theorem dX7_begin_0 : decode cX7_begin 0 = .ok (.aload_n 0, 1) := by decide +kernel
theorem dX7_begin_1 : decode cX7_begin 1 = .ok (.getfield 249, 3) := by decide +kernel
theorem dX7_begin_4 : decode cX7_begin 4 = .ok (.bipush 16, 2) := by decide +kernel
theorem dX7_begin_6 : decode cX7_begin 6 = .ok (.if_icmp .ge 23, 3) := by decide +kernel
theorem dX7_begin_9 : decode cX7_begin 9 = .ok (.aload_n 0, 1) := by decide +kernel
theorem dX7_begin_10 : decode cX7_begin 10 = .ok (.getfield 44, 3) := by decide +kernel
theorem dX7_begin_13 : decode cX7_begin 13 = .ok (.aload_n 0, 1) := by decide +kernel
theorem dX7_begin_14 : decode cX7_begin 14 = .ok (.getfield 249, 3) := by decide +kernel
theorem dX7_begin_17 : decode cX7_begin 17 = .ok (.iload_n 1, 1) := by decide +kernel
theorem dX7_begin_18 : decode cX7_begin 18 = .ok (.iastore, 1) := by decide +kernel
theorem dX7_begin_19 : decode cX7_begin 19 = .ok (.aload_n 0, 1) := by decide +kernel
theorem dX7_begin_20 : decode cX7_begin 20 = .ok (.dup, 1) := by decide +kernel
theorem dX7_begin_21 : decode cX7_begin 21 = .ok (.getfield 249, 3) := by decide +kernel
theorem dX7_begin_24 : decode cX7_begin 24 = .ok (.iconst 1, 1) := by decide +kernel
theorem dX7_begin_25 : decode cX7_begin 25 = .ok (.iadd, 1) := by decide +kernel
theorem dX7_begin_26 : decode cX7_begin 26 = .ok (.putfield 249, 3) := by decide +kernel
theorem dX7_begin_29 : decode cX7_begin 29 = .ok (.return_, 1) := by decide +kernel
theorem dX7_lent_0 : decode cX7_lent 0 = .ok (.aload_n 0, 1) := by decide +kernel
theorem dX7_lent_1 : decode cX7_lent 1 = .ok (.iload_n 2, 1) := by decide +kernel
theorem dX7_lent_2 : decode cX7_lent 2 = .ok (.invokevirtual 252, 3) := by decide +kernel
theorem dX7_lent_5 : decode cX7_lent 5 = .ok (.iload_n 2, 1) := by decide +kernel
theorem dX7_lent_6 : decode cX7_lent 6 = .ok (.bipush 10, 2) := by decide +kernel
theorem dX7_lent_8 : decode cX7_lent 8 = .ok (.if_icmp .ne 15, 3) := by decide +kernel
theorem dX7_lent_11 : decode cX7_lent 11 = .ok (.aload_n 0, 1) := by decide +kernel
theorem dX7_lent_12 : decode cX7_lent 12 = .ok (.getfield 19, 3) := by decide +kernel
theorem dX7_lent_15 : decode cX7_lent 15 = .ok (.bipush 47, 2) := by decide +kernel
theorem dX7_lent_17 : decode cX7_lent 17 = .ok (.iload_n 1, 1) := by decide +kernel
theorem dX7_lent_18 : decode cX7_lent 18 = .ok (.iadd, 1) := by decide +kernel
theorem dX7_lent_19 : decode cX7_lent 19 = .ok (.iaload, 1) := by decide +kernel
theorem dX7_lent_20 : decode cX7_lent 20 = .ok (.goto 4, 3) := by decide +kernel
theorem dX7_lent_23 : decode cX7_lent 23 = .ok (.iload_n 1, 1) := by decide +kernel
theorem dX7_lent_24 : decode cX7_lent 24 = .ok (.ireturn, 1) := by decide +kernel
theorem dX7_readMark_0 : decode cX7_readMark 0 = .ok (.aload_n 0, 1) := by decide +kernel
theorem dX7_readMark_1 : decode cX7_readMark 1 = .ok (.bipush 21, 2) := by decide +kernel
theorem dX7_readMark_3 : decode cX7_readMark 3 = .ok (.invokevirtual 252, 3) := by decide +kernel
theorem dX7_readMark_6 : decode cX7_readMark 6 = .ok (.aload_n 0, 1) := by decide +kernel
theorem dX7_readMark_7 : decode cX7_readMark 7 = .ok (.iload_n 1, 1) := by decide +kernel
theorem dX7_readMark_8 : decode cX7_readMark 8 = .ok (.bipush 20, 2) := by decide +kernel
theorem dX7_readMark_10 : decode cX7_readMark 10 = .ok (.invokevirtual 255, 3) := by decide +kernel
theorem dX7_readMark_13 : decode cX7_readMark 13 = .ok (.aload_n 0, 1) := by decide +kernel
theorem dX7_readMark_14 : decode cX7_readMark 14 = .ok (.getfield 19, 3) := by decide +kernel
theorem dX7_readMark_17 : decode cX7_readMark 17 = .ok (.bipush 42, 2) := by decide +kernel
theorem dX7_readMark_19 : decode cX7_readMark 19 = .ok (.iload_n 1, 1) := by decide +kernel
theorem dX7_readMark_20 : decode cX7_readMark 20 = .ok (.iadd, 1) := by decide +kernel
theorem dX7_readMark_21 : decode cX7_readMark 21 = .ok (.iaload, 1) := by decide +kernel
theorem dX7_readMark_22 : decode cX7_readMark 22 = .ok (.iadd, 1) := by decide +kernel
theorem dX7_readMark_23 : decode cX7_readMark 23 = .ok (.ireturn, 1) := by decide +kernel
theorem dX7_fireSize_0 : decode cX7_fireSize 0 = .ok (.aload_n 0, 1) := by decide +kernel
theorem dX7_fireSize_1 : decode cX7_fireSize 1 = .ok (.bipush 13, 2) := by decide +kernel
theorem dX7_fireSize_3 : decode cX7_fireSize 3 = .ok (.invokevirtual 252, 3) := by decide +kernel
theorem dX7_fireSize_6 : decode cX7_fireSize 6 = .ok (.aload_n 0, 1) := by decide +kernel
theorem dX7_fireSize_7 : decode cX7_fireSize 7 = .ok (.iload_n 1, 1) := by decide +kernel
theorem dX7_fireSize_8 : decode cX7_fireSize 8 = .ok (.bipush 10, 2) := by decide +kernel
theorem dX7_fireSize_10 : decode cX7_fireSize 10 = .ok (.invokevirtual 255, 3) := by decide +kernel
theorem dX7_fireSize_13 : decode cX7_fireSize 13 = .ok (.bipush 100, 2) := by decide +kernel
theorem dX7_fireSize_15 : decode cX7_fireSize 15 = .ok (.isub, 1) := by decide +kernel
theorem dX7_fireSize_16 : decode cX7_fireSize 16 = .ok (.ireturn, 1) := by decide +kernel
theorem dX7_sizeOfFire_0 : decode cX7_sizeOfFire 0 = .ok (.aload_n 0, 1) := by decide +kernel
theorem dX7_sizeOfFire_1 : decode cX7_sizeOfFire 1 = .ok (.getfield 19, 3) := by decide +kernel
theorem dX7_sizeOfFire_4 : decode cX7_sizeOfFire 4 = .ok (.bipush 37, 2) := by decide +kernel
theorem dX7_sizeOfFire_6 : decode cX7_sizeOfFire 6 = .ok (.iload_n 1, 1) := by decide +kernel
theorem dX7_sizeOfFire_7 : decode cX7_sizeOfFire 7 = .ok (.iadd, 1) := by decide +kernel
theorem dX7_sizeOfFire_8 : decode cX7_sizeOfFire 8 = .ok (.iaload, 1) := by decide +kernel
theorem dX7_sizeOfFire_9 : decode cX7_sizeOfFire 9 = .ok (.iconst 5, 1) := by decide +kernel
theorem dX7_sizeOfFire_10 : decode cX7_sizeOfFire 10 = .ok (.if_icmp .ne 17, 3) := by decide +kernel
theorem dX7_sizeOfFire_13 : decode cX7_sizeOfFire 13 = .ok (.aload_n 0, 1) := by decide +kernel
theorem dX7_sizeOfFire_14 : decode cX7_sizeOfFire 14 = .ok (.bipush 14, 2) := by decide +kernel
theorem dX7_sizeOfFire_16 : decode cX7_sizeOfFire 16 = .ok (.invokevirtual 252, 3) := by decide +kernel
theorem dX7_sizeOfFire_19 : decode cX7_sizeOfFire 19 = .ok (.iconst 2, 1) := by decide +kernel
theorem dX7_sizeOfFire_20 : decode cX7_sizeOfFire 20 = .ok (.aload_n 0, 1) := by decide +kernel
theorem dX7_sizeOfFire_21 : decode cX7_sizeOfFire 21 = .ok (.iload_n 1, 1) := by decide +kernel
theorem dX7_sizeOfFire_22 : decode cX7_sizeOfFire 22 = .ok (.invokevirtual 258, 3) := by decide +kernel
theorem dX7_sizeOfFire_25 : decode cX7_sizeOfFire 25 = .ok (.imul, 1) := by decide +kernel
theorem dX7_sizeOfFire_26 : decode cX7_sizeOfFire 26 = .ok (.ireturn, 1) := by decide +kernel
theorem dX7_sizeOfFire_27 : decode cX7_sizeOfFire 27 = .ok (.aload_n 0, 1) := by decide +kernel
theorem dX7_sizeOfFire_28 : decode cX7_sizeOfFire 28 = .ok (.iload_n 1, 1) := by decide +kernel
theorem dX7_sizeOfFire_29 : decode cX7_sizeOfFire 29 = .ok (.invokevirtual 258, 3) := by decide +kernel
theorem dX7_sizeOfFire_32 : decode cX7_sizeOfFire 32 = .ok (.ireturn, 1) := by decide +kernel
theorem dX7_markOf_0 : decode cX7_markOf 0 = .ok (.aload_n 0, 1) := by decide +kernel
theorem dX7_markOf_1 : decode cX7_markOf 1 = .ok (.getfield 19, 3) := by decide +kernel
theorem dX7_markOf_4 : decode cX7_markOf 4 = .ok (.bipush 37, 2) := by decide +kernel
theorem dX7_markOf_6 : decode cX7_markOf 6 = .ok (.iload_n 1, 1) := by decide +kernel
theorem dX7_markOf_7 : decode cX7_markOf 7 = .ok (.iadd, 1) := by decide +kernel
theorem dX7_markOf_8 : decode cX7_markOf 8 = .ok (.iaload, 1) := by decide +kernel
theorem dX7_markOf_9 : decode cX7_markOf 9 = .ok (.istore_n 2, 1) := by decide +kernel
theorem dX7_markOf_10 : decode cX7_markOf 10 = .ok (.iload_n 2, 1) := by decide +kernel
theorem dX7_markOf_11 : decode cX7_markOf 11 = .ok (.iconst 2, 1) := by decide +kernel
theorem dX7_markOf_12 : decode cX7_markOf 12 = .ok (.if_icmp .ne 17, 3) := by decide +kernel
theorem dX7_markOf_15 : decode cX7_markOf 15 = .ok (.aload_n 0, 1) := by decide +kernel
theorem dX7_markOf_16 : decode cX7_markOf 16 = .ok (.bipush 24, 2) := by decide +kernel
theorem dX7_markOf_18 : decode cX7_markOf 18 = .ok (.invokevirtual 252, 3) := by decide +kernel
theorem dX7_markOf_21 : decode cX7_markOf 21 = .ok (.iconst 2, 1) := by decide +kernel
theorem dX7_markOf_22 : decode cX7_markOf 22 = .ok (.aload_n 0, 1) := by decide +kernel
theorem dX7_markOf_23 : decode cX7_markOf 23 = .ok (.iload_n 1, 1) := by decide +kernel
theorem dX7_markOf_24 : decode cX7_markOf 24 = .ok (.invokevirtual 261, 3) := by decide +kernel
theorem dX7_markOf_27 : decode cX7_markOf 27 = .ok (.imul, 1) := by decide +kernel
theorem dX7_markOf_28 : decode cX7_markOf 28 = .ok (.ireturn, 1) := by decide +kernel
theorem dX7_markOf_29 : decode cX7_markOf 29 = .ok (.iload_n 2, 1) := by decide +kernel
theorem dX7_markOf_30 : decode cX7_markOf 30 = .ok (.iconst 3, 1) := by decide +kernel
theorem dX7_markOf_31 : decode cX7_markOf 31 = .ok (.if_icmp .ne 19, 3) := by decide +kernel
theorem dX7_markOf_34 : decode cX7_markOf 34 = .ok (.aload_n 0, 1) := by decide +kernel
theorem dX7_markOf_35 : decode cX7_markOf 35 = .ok (.bipush 22, 2) := by decide +kernel
theorem dX7_markOf_37 : decode cX7_markOf 37 = .ok (.invokevirtual 252, 3) := by decide +kernel
theorem dX7_markOf_40 : decode cX7_markOf 40 = .ok (.aload_n 0, 1) := by decide +kernel
theorem dX7_markOf_41 : decode cX7_markOf 41 = .ok (.iload_n 1, 1) := by decide +kernel
theorem dX7_markOf_42 : decode cX7_markOf 42 = .ok (.invokevirtual 261, 3) := by decide +kernel
theorem dX7_markOf_45 : decode cX7_markOf 45 = .ok (.sipush 1000, 3) := by decide +kernel
theorem dX7_markOf_48 : decode cX7_markOf 48 = .ok (.isub, 1) := by decide +kernel
theorem dX7_markOf_49 : decode cX7_markOf 49 = .ok (.ireturn, 1) := by decide +kernel
theorem dX7_markOf_50 : decode cX7_markOf 50 = .ok (.iload_n 2, 1) := by decide +kernel
theorem dX7_markOf_51 : decode cX7_markOf 51 = .ok (.iconst 1, 1) := by decide +kernel
theorem dX7_markOf_52 : decode cX7_markOf 52 = .ok (.if_icmp .ne 9, 3) := by decide +kernel
theorem dX7_markOf_55 : decode cX7_markOf 55 = .ok (.aload_n 0, 1) := by decide +kernel
theorem dX7_markOf_56 : decode cX7_markOf 56 = .ok (.iload_n 1, 1) := by decide +kernel
theorem dX7_markOf_57 : decode cX7_markOf 57 = .ok (.invokevirtual 261, 3) := by decide +kernel
theorem dX7_markOf_60 : decode cX7_markOf 60 = .ok (.ireturn, 1) := by decide +kernel
theorem dX7_markOf_61 : decode cX7_markOf 61 = .ok (.aload_n 0, 1) := by decide +kernel
theorem dX7_markOf_62 : decode cX7_markOf 62 = .ok (.bipush 23, 2) := by decide +kernel
theorem dX7_markOf_64 : decode cX7_markOf 64 = .ok (.invokevirtual 252, 3) := by decide +kernel
theorem dX7_markOf_67 : decode cX7_markOf 67 = .ok (.aload_n 0, 1) := by decide +kernel
theorem dX7_markOf_68 : decode cX7_markOf 68 = .ok (.iload_n 1, 1) := by decide +kernel
theorem dX7_markOf_69 : decode cX7_markOf 69 = .ok (.bipush 20, 2) := by decide +kernel
theorem dX7_markOf_71 : decode cX7_markOf 71 = .ok (.invokevirtual 255, 3) := by decide +kernel
theorem dX7_markOf_74 : decode cX7_markOf 74 = .ok (.istore_n 3, 1) := by decide +kernel
theorem dX7_markOf_75 : decode cX7_markOf 75 = .ok (.iload_n 3, 1) := by decide +kernel
theorem dX7_markOf_76 : decode cX7_markOf 76 = .ok (.aload_n 0, 1) := by decide +kernel
theorem dX7_markOf_77 : decode cX7_markOf 77 = .ok (.iload_n 1, 1) := by decide +kernel
theorem dX7_markOf_78 : decode cX7_markOf 78 = .ok (.invokevirtual 264, 3) := by decide +kernel
theorem dX7_markOf_81 : decode cX7_markOf 81 = .ok (.isub, 1) := by decide +kernel
theorem dX7_markOf_82 : decode cX7_markOf 82 = .ok (.ireturn, 1) := by decide +kernel
theorem dX7_readSize_0 : decode cX7_readSize 0 = .ok (.aload_n 0, 1) := by decide +kernel
theorem dX7_readSize_1 : decode cX7_readSize 1 = .ok (.bipush 11, 2) := by decide +kernel
theorem dX7_readSize_3 : decode cX7_readSize 3 = .ok (.invokevirtual 252, 3) := by decide +kernel
theorem dX7_readSize_6 : decode cX7_readSize 6 = .ok (.aload_n 0, 1) := by decide +kernel
theorem dX7_readSize_7 : decode cX7_readSize 7 = .ok (.iload_n 1, 1) := by decide +kernel
theorem dX7_readSize_8 : decode cX7_readSize 8 = .ok (.bipush 10, 2) := by decide +kernel
theorem dX7_readSize_10 : decode cX7_readSize 10 = .ok (.invokevirtual 255, 3) := by decide +kernel
theorem dX7_readSize_13 : decode cX7_readSize 13 = .ok (.istore_n 2, 1) := by decide +kernel
theorem dX7_readSize_14 : decode cX7_readSize 14 = .ok (.iload_n 2, 1) := by decide +kernel
theorem dX7_readSize_15 : decode cX7_readSize 15 = .ok (.aload_n 0, 1) := by decide +kernel
theorem dX7_readSize_16 : decode cX7_readSize 16 = .ok (.iload_n 1, 1) := by decide +kernel
theorem dX7_readSize_17 : decode cX7_readSize 17 = .ok (.invokevirtual 267, 3) := by decide +kernel
theorem dX7_readSize_20 : decode cX7_readSize 20 = .ok (.iadd, 1) := by decide +kernel
theorem dX7_readSize_21 : decode cX7_readSize 21 = .ok (.ireturn, 1) := by decide +kernel
theorem dX7_sizeOf_0 : decode cX7_sizeOf 0 = .ok (.aload_n 0, 1) := by decide +kernel
theorem dX7_sizeOf_1 : decode cX7_sizeOf 1 = .ok (.getfield 19, 3) := by decide +kernel
theorem dX7_sizeOf_4 : decode cX7_sizeOf 4 = .ok (.bipush 37, 2) := by decide +kernel
theorem dX7_sizeOf_6 : decode cX7_sizeOf 6 = .ok (.iload_n 1, 1) := by decide +kernel
theorem dX7_sizeOf_7 : decode cX7_sizeOf 7 = .ok (.iadd, 1) := by decide +kernel
theorem dX7_sizeOf_8 : decode cX7_sizeOf 8 = .ok (.iaload, 1) := by decide +kernel
theorem dX7_sizeOf_9 : decode cX7_sizeOf 9 = .ok (.istore_n 2, 1) := by decide +kernel
theorem dX7_sizeOf_10 : decode cX7_sizeOf 10 = .ok (.iload_n 2, 1) := by decide +kernel
theorem dX7_sizeOf_11 : decode cX7_sizeOf 11 = .ok (.iconst 2, 1) := by decide +kernel
theorem dX7_sizeOf_12 : decode cX7_sizeOf 12 = .ok (.if_icmp .ne 16, 3) := by decide +kernel
theorem dX7_sizeOf_15 : decode cX7_sizeOf 15 = .ok (.aload_n 0, 1) := by decide +kernel
theorem dX7_sizeOf_16 : decode cX7_sizeOf 16 = .ok (.bipush 12, 2) := by decide +kernel
theorem dX7_sizeOf_18 : decode cX7_sizeOf 18 = .ok (.invokevirtual 252, 3) := by decide +kernel
theorem dX7_sizeOf_21 : decode cX7_sizeOf 21 = .ok (.aload_n 0, 1) := by decide +kernel
theorem dX7_sizeOf_22 : decode cX7_sizeOf 22 = .ok (.iload_n 1, 1) := by decide +kernel
theorem dX7_sizeOf_23 : decode cX7_sizeOf 23 = .ok (.invokevirtual 270, 3) := by decide +kernel
theorem dX7_sizeOf_26 : decode cX7_sizeOf 26 = .ok (.ineg, 1) := by decide +kernel
theorem dX7_sizeOf_27 : decode cX7_sizeOf 27 = .ok (.ireturn, 1) := by decide +kernel
theorem dX7_sizeOf_28 : decode cX7_sizeOf 28 = .ok (.iload_n 2, 1) := by decide +kernel
theorem dX7_sizeOf_29 : decode cX7_sizeOf 29 = .ok (.iconst 4, 1) := by decide +kernel
theorem dX7_sizeOf_30 : decode cX7_sizeOf 30 = .ok (.if_icmp .lt 11, 3) := by decide +kernel
theorem dX7_sizeOf_33 : decode cX7_sizeOf 33 = .ok (.aload_n 0, 1) := by decide +kernel
theorem dX7_sizeOf_34 : decode cX7_sizeOf 34 = .ok (.iload_n 1, 1) := by decide +kernel
theorem dX7_sizeOf_35 : decode cX7_sizeOf 35 = .ok (.invokevirtual 264, 3) := by decide +kernel
theorem dX7_sizeOf_38 : decode cX7_sizeOf 38 = .ok (.goto 8, 3) := by decide +kernel
theorem dX7_sizeOf_41 : decode cX7_sizeOf 41 = .ok (.aload_n 0, 1) := by decide +kernel
theorem dX7_sizeOf_42 : decode cX7_sizeOf 42 = .ok (.iload_n 1, 1) := by decide +kernel
theorem dX7_sizeOf_43 : decode cX7_sizeOf 43 = .ok (.invokevirtual 270, 3) := by decide +kernel
theorem dX7_sizeOf_46 : decode cX7_sizeOf 46 = .ok (.ireturn, 1) := by decide +kernel
theorem dX7_ask_0 : decode cX7_ask 0 = .ok (.aload_n 0, 1) := by decide +kernel
theorem dX7_ask_1 : decode cX7_ask 1 = .ok (.iload_n 1, 1) := by decide +kernel
theorem dX7_ask_2 : decode cX7_ask 2 = .ok (.invokevirtual 172, 3) := by decide +kernel
theorem dX7_ask_5 : decode cX7_ask 5 = .ok (.ifCond .eq 13, 3) := by decide +kernel
theorem dX7_ask_8 : decode cX7_ask 8 = .ok (.iload_n 2, 1) := by decide +kernel
theorem dX7_ask_9 : decode cX7_ask 9 = .ok (.i2l, 1) := by decide +kernel
theorem dX7_ask_10 : decode cX7_ask 10 = .ok (.lconst 0, 1) := by decide +kernel
theorem dX7_ask_11 : decode cX7_ask 11 = .ok (.lconst 1, 1) := by decide +kernel
theorem dX7_ask_12 : decode cX7_ask 12 = .ok (.invokestatic 54, 3) := by decide +kernel
theorem dX7_ask_15 : decode cX7_ask 15 = .ok (.ifCond .ne 6, 3) := by decide +kernel
theorem dX7_ask_18 : decode cX7_ask 18 = .ok (.ldc 64, 2) := by decide +kernel
theorem dX7_ask_20 : decode cX7_ask 20 = .ok (.ireturn, 1) := by decide +kernel
theorem dX7_ask_21 : decode cX7_ask 21 = .ok (.aload_n 0, 1) := by decide +kernel
theorem dX7_ask_22 : decode cX7_ask 22 = .ok (.iconst 0, 1) := by decide +kernel
theorem dX7_ask_23 : decode cX7_ask 23 = .ok (.putfield 249, 3) := by decide +kernel
theorem dX7_ask_26 : decode cX7_ask 26 = .ok (.iload_n 2, 1) := by decide +kernel
theorem dX7_ask_27 : decode cX7_ask 27 = .ok (.ifCond .ne 11, 3) := by decide +kernel
theorem dX7_ask_30 : decode cX7_ask 30 = .ok (.aload_n 0, 1) := by decide +kernel
theorem dX7_ask_31 : decode cX7_ask 31 = .ok (.iload_n 1, 1) := by decide +kernel
theorem dX7_ask_32 : decode cX7_ask 32 = .ok (.invokevirtual 273, 3) := by decide +kernel
theorem dX7_ask_35 : decode cX7_ask 35 = .ok (.goto 8, 3) := by decide +kernel
theorem dX7_ask_38 : decode cX7_ask 38 = .ok (.aload_n 0, 1) := by decide +kernel
theorem dX7_ask_39 : decode cX7_ask 39 = .ok (.iload_n 1, 1) := by decide +kernel
theorem dX7_ask_40 : decode cX7_ask 40 = .ok (.invokevirtual 267, 3) := by decide +kernel
theorem dX7_ask_43 : decode cX7_ask 43 = .ok (.ireturn, 1) := by decide +kernel
theorem dX7_trace_0 : decode cX7_trace 0 = .ok (.iload_n 1, 1) := by decide +kernel
theorem dX7_trace_1 : decode cX7_trace 1 = .ok (.i2l, 1) := by decide +kernel
theorem dX7_trace_2 : decode cX7_trace 2 = .ok (.lconst 0, 1) := by decide +kernel
theorem dX7_trace_3 : decode cX7_trace 3 = .ok (.aload_n 0, 1) := by decide +kernel
theorem dX7_trace_4 : decode cX7_trace 4 = .ok (.getfield 249, 3) := by decide +kernel
theorem dX7_trace_7 : decode cX7_trace 7 = .ok (.iconst 1, 1) := by decide +kernel
theorem dX7_trace_8 : decode cX7_trace 8 = .ok (.isub, 1) := by decide +kernel
theorem dX7_trace_9 : decode cX7_trace 9 = .ok (.i2l, 1) := by decide +kernel
theorem dX7_trace_10 : decode cX7_trace 10 = .ok (.invokestatic 54, 3) := by decide +kernel
theorem dX7_trace_13 : decode cX7_trace 13 = .ok (.ifCond .eq 12, 3) := by decide +kernel
theorem dX7_trace_16 : decode cX7_trace 16 = .ok (.aload_n 0, 1) := by decide +kernel
theorem dX7_trace_17 : decode cX7_trace 17 = .ok (.getfield 44, 3) := by decide +kernel
theorem dX7_trace_20 : decode cX7_trace 20 = .ok (.iload_n 1, 1) := by decide +kernel
theorem dX7_trace_21 : decode cX7_trace 21 = .ok (.iaload, 1) := by decide +kernel
theorem dX7_trace_22 : decode cX7_trace 22 = .ok (.goto 5, 3) := by decide +kernel
theorem dX7_trace_25 : decode cX7_trace 25 = .ok (.ldc 198, 2) := by decide +kernel
theorem dX7_trace_27 : decode cX7_trace 27 = .ok (.ireturn, 1) := by decide +kernel
theorem dX7_count_0 : decode cX7_count 0 = .ok (.iconst 0, 1) := by decide +kernel
theorem dX7_count_1 : decode cX7_count 1 = .ok (.istore_n 2, 1) := by decide +kernel
theorem dX7_count_2 : decode cX7_count 2 = .ok (.iconst 0, 1) := by decide +kernel
theorem dX7_count_3 : decode cX7_count 3 = .ok (.istore_n 3, 1) := by decide +kernel
theorem dX7_count_4 : decode cX7_count 4 = .ok (.iload_n 3, 1) := by decide +kernel
theorem dX7_count_5 : decode cX7_count 5 = .ok (.bipush 8, 2) := by decide +kernel
theorem dX7_count_7 : decode cX7_count 7 = .ok (.if_icmp .ge 26, 3) := by decide +kernel
theorem dX7_count_10 : decode cX7_count 10 = .ok (.iload_n 2, 1) := by decide +kernel
theorem dX7_count_11 : decode cX7_count 11 = .ok (.aload_n 0, 1) := by decide +kernel
theorem dX7_count_12 : decode cX7_count 12 = .ok (.getfield 13, 3) := by decide +kernel
theorem dX7_count_15 : decode cX7_count 15 = .ok (.iload_n 3, 1) := by decide +kernel
theorem dX7_count_16 : decode cX7_count 16 = .ok (.iaload, 1) := by decide +kernel
theorem dX7_count_17 : decode cX7_count 17 = .ok (.ifCond .lt 7, 3) := by decide +kernel
theorem dX7_count_20 : decode cX7_count 20 = .ok (.iconst 1, 1) := by decide +kernel
theorem dX7_count_21 : decode cX7_count 21 = .ok (.goto 4, 3) := by decide +kernel
theorem dX7_count_24 : decode cX7_count 24 = .ok (.iconst 0, 1) := by decide +kernel
theorem dX7_count_25 : decode cX7_count 25 = .ok (.iadd, 1) := by decide +kernel
theorem dX7_count_26 : decode cX7_count 26 = .ok (.istore_n 2, 1) := by decide +kernel
theorem dX7_count_27 : decode cX7_count 27 = .ok (.iinc 3 1, 3) := by decide +kernel
theorem dX7_count_30 : decode cX7_count 30 = .ok (.goto (-26), 3) := by decide +kernel
theorem dX7_count_33 : decode cX7_count 33 = .ok (.iload_n 1, 1) := by decide +kernel
theorem dX7_count_34 : decode cX7_count 34 = .ok (.tableswitch 101 0 8 #[50, 52, 59, 66, 73, 81, 86, 91, 96], 50) := by decide +kernel
theorem dX7_count_84 : decode cX7_count 84 = .ok (.iload_n 2, 1) := by decide +kernel
theorem dX7_count_85 : decode cX7_count 85 = .ok (.ireturn, 1) := by decide +kernel
theorem dX7_count_86 : decode cX7_count 86 = .ok (.aload_n 0, 1) := by decide +kernel
theorem dX7_count_87 : decode cX7_count 87 = .ok (.getfield 19, 3) := by decide +kernel
theorem dX7_count_90 : decode cX7_count 90 = .ok (.iconst 0, 1) := by decide +kernel
theorem dX7_count_91 : decode cX7_count 91 = .ok (.iaload, 1) := by decide +kernel
theorem dX7_count_92 : decode cX7_count 92 = .ok (.ireturn, 1) := by decide +kernel
theorem dX7_count_93 : decode cX7_count 93 = .ok (.aload_n 0, 1) := by decide +kernel
theorem dX7_count_94 : decode cX7_count 94 = .ok (.getfield 19, 3) := by decide +kernel
theorem dX7_count_97 : decode cX7_count 97 = .ok (.iconst 4, 1) := by decide +kernel
theorem dX7_count_98 : decode cX7_count 98 = .ok (.iaload, 1) := by decide +kernel
theorem dX7_count_99 : decode cX7_count 99 = .ok (.ireturn, 1) := by decide +kernel
theorem dX7_count_100 : decode cX7_count 100 = .ok (.aload_n 0, 1) := by decide +kernel
theorem dX7_count_101 : decode cX7_count 101 = .ok (.getfield 19, 3) := by decide +kernel
theorem dX7_count_104 : decode cX7_count 104 = .ok (.iconst 5, 1) := by decide +kernel
theorem dX7_count_105 : decode cX7_count 105 = .ok (.iaload, 1) := by decide +kernel
theorem dX7_count_106 : decode cX7_count 106 = .ok (.ireturn, 1) := by decide +kernel
theorem dX7_count_107 : decode cX7_count 107 = .ok (.aload_n 0, 1) := by decide +kernel
theorem dX7_count_108 : decode cX7_count 108 = .ok (.getfield 19, 3) := by decide +kernel
theorem dX7_count_111 : decode cX7_count 111 = .ok (.bipush 6, 2) := by decide +kernel
theorem dX7_count_113 : decode cX7_count 113 = .ok (.iaload, 1) := by decide +kernel
theorem dX7_count_114 : decode cX7_count 114 = .ok (.ireturn, 1) := by decide +kernel
theorem dX7_count_115 : decode cX7_count 115 = .ok (.aload_n 0, 1) := by decide +kernel
theorem dX7_count_116 : decode cX7_count 116 = .ok (.invokevirtual 162, 3) := by decide +kernel
theorem dX7_count_119 : decode cX7_count 119 = .ok (.ireturn, 1) := by decide +kernel
theorem dX7_count_120 : decode cX7_count 120 = .ok (.aload_n 0, 1) := by decide +kernel
theorem dX7_count_121 : decode cX7_count 121 = .ok (.invokevirtual 169, 3) := by decide +kernel
theorem dX7_count_124 : decode cX7_count 124 = .ok (.ireturn, 1) := by decide +kernel
theorem dX7_count_125 : decode cX7_count 125 = .ok (.aload_n 0, 1) := by decide +kernel
theorem dX7_count_126 : decode cX7_count 126 = .ok (.getfield 139, 3) := by decide +kernel
theorem dX7_count_129 : decode cX7_count 129 = .ok (.ireturn, 1) := by decide +kernel
theorem dX7_count_130 : decode cX7_count 130 = .ok (.aload_n 0, 1) := by decide +kernel
theorem dX7_count_131 : decode cX7_count 131 = .ok (.getfield 78, 3) := by decide +kernel
theorem dX7_count_134 : decode cX7_count 134 = .ok (.ireturn, 1) := by decide +kernel
theorem dX7_count_135 : decode cX7_count 135 = .ok (.ldc 64, 2) := by decide +kernel
theorem dX7_count_137 : decode cX7_count 137 = .ok (.ireturn, 1) := by decide +kernel
theorem dX7_status_0 : decode cX7_status 0 = .ok (.aload_n 0, 1) := by decide +kernel
theorem dX7_status_1 : decode cX7_status 1 = .ok (.getfield 47, 3) := by decide +kernel
theorem dX7_status_4 : decode cX7_status 4 = .ok (.ireturn, 1) := by decide +kernel
theorem dJ6_bitCount_0f7a4_0 : decode cJ6_bitCount_0f7a4 0 = .ok (.iload_n 0, 1) := by decide +kernel
theorem dJ6_bitCount_0f7a4_1 : decode cJ6_bitCount_0f7a4 1 = .ok (.iload_n 0, 1) := by decide +kernel
theorem dJ6_bitCount_0f7a4_2 : decode cJ6_bitCount_0f7a4 2 = .ok (.iconst 1, 1) := by decide +kernel
theorem dJ6_bitCount_0f7a4_3 : decode cJ6_bitCount_0f7a4 3 = .ok (.iushr, 1) := by decide +kernel
theorem dJ6_bitCount_0f7a4_4 : decode cJ6_bitCount_0f7a4 4 = .ok (.ldc_w 265, 3) := by decide +kernel
theorem dJ6_bitCount_0f7a4_7 : decode cJ6_bitCount_0f7a4 7 = .ok (.iand, 1) := by decide +kernel
theorem dJ6_bitCount_0f7a4_8 : decode cJ6_bitCount_0f7a4 8 = .ok (.isub, 1) := by decide +kernel
theorem dJ6_bitCount_0f7a4_9 : decode cJ6_bitCount_0f7a4 9 = .ok (.istore_n 0, 1) := by decide +kernel
theorem dJ6_bitCount_0f7a4_10 : decode cJ6_bitCount_0f7a4 10 = .ok (.iload_n 0, 1) := by decide +kernel
theorem dJ6_bitCount_0f7a4_11 : decode cJ6_bitCount_0f7a4 11 = .ok (.ldc_w 266, 3) := by decide +kernel
theorem dJ6_bitCount_0f7a4_14 : decode cJ6_bitCount_0f7a4 14 = .ok (.iand, 1) := by decide +kernel
theorem dJ6_bitCount_0f7a4_15 : decode cJ6_bitCount_0f7a4 15 = .ok (.iload_n 0, 1) := by decide +kernel
theorem dJ6_bitCount_0f7a4_16 : decode cJ6_bitCount_0f7a4 16 = .ok (.iconst 2, 1) := by decide +kernel
theorem dJ6_bitCount_0f7a4_17 : decode cJ6_bitCount_0f7a4 17 = .ok (.iushr, 1) := by decide +kernel
theorem dJ6_bitCount_0f7a4_18 : decode cJ6_bitCount_0f7a4 18 = .ok (.ldc_w 266, 3) := by decide +kernel
theorem dJ6_bitCount_0f7a4_21 : decode cJ6_bitCount_0f7a4 21 = .ok (.iand, 1) := by decide +kernel
theorem dJ6_bitCount_0f7a4_22 : decode cJ6_bitCount_0f7a4 22 = .ok (.iadd, 1) := by decide +kernel
theorem dJ6_bitCount_0f7a4_23 : decode cJ6_bitCount_0f7a4 23 = .ok (.istore_n 0, 1) := by decide +kernel
theorem dJ6_bitCount_0f7a4_24 : decode cJ6_bitCount_0f7a4 24 = .ok (.iload_n 0, 1) := by decide +kernel
theorem dJ6_bitCount_0f7a4_25 : decode cJ6_bitCount_0f7a4 25 = .ok (.iload_n 0, 1) := by decide +kernel
theorem dJ6_bitCount_0f7a4_26 : decode cJ6_bitCount_0f7a4 26 = .ok (.iconst 4, 1) := by decide +kernel
theorem dJ6_bitCount_0f7a4_27 : decode cJ6_bitCount_0f7a4 27 = .ok (.iushr, 1) := by decide +kernel
theorem dJ6_bitCount_0f7a4_28 : decode cJ6_bitCount_0f7a4 28 = .ok (.iadd, 1) := by decide +kernel
theorem dJ6_bitCount_0f7a4_29 : decode cJ6_bitCount_0f7a4 29 = .ok (.ldc_w 267, 3) := by decide +kernel
theorem dJ6_bitCount_0f7a4_32 : decode cJ6_bitCount_0f7a4 32 = .ok (.iand, 1) := by decide +kernel
theorem dJ6_bitCount_0f7a4_33 : decode cJ6_bitCount_0f7a4 33 = .ok (.istore_n 0, 1) := by decide +kernel
theorem dJ6_bitCount_0f7a4_34 : decode cJ6_bitCount_0f7a4 34 = .ok (.iload_n 0, 1) := by decide +kernel
theorem dJ6_bitCount_0f7a4_35 : decode cJ6_bitCount_0f7a4 35 = .ok (.iload_n 0, 1) := by decide +kernel
theorem dJ6_bitCount_0f7a4_36 : decode cJ6_bitCount_0f7a4 36 = .ok (.bipush 8, 2) := by decide +kernel
theorem dJ6_bitCount_0f7a4_38 : decode cJ6_bitCount_0f7a4 38 = .ok (.iushr, 1) := by decide +kernel
theorem dJ6_bitCount_0f7a4_39 : decode cJ6_bitCount_0f7a4 39 = .ok (.iadd, 1) := by decide +kernel
theorem dJ6_bitCount_0f7a4_40 : decode cJ6_bitCount_0f7a4 40 = .ok (.istore_n 0, 1) := by decide +kernel
theorem dJ6_bitCount_0f7a4_41 : decode cJ6_bitCount_0f7a4 41 = .ok (.iload_n 0, 1) := by decide +kernel
theorem dJ6_bitCount_0f7a4_42 : decode cJ6_bitCount_0f7a4 42 = .ok (.iload_n 0, 1) := by decide +kernel
theorem dJ6_bitCount_0f7a4_43 : decode cJ6_bitCount_0f7a4 43 = .ok (.bipush 16, 2) := by decide +kernel
theorem dJ6_bitCount_0f7a4_45 : decode cJ6_bitCount_0f7a4 45 = .ok (.iushr, 1) := by decide +kernel
theorem dJ6_bitCount_0f7a4_46 : decode cJ6_bitCount_0f7a4 46 = .ok (.iadd, 1) := by decide +kernel
theorem dJ6_bitCount_0f7a4_47 : decode cJ6_bitCount_0f7a4 47 = .ok (.istore_n 0, 1) := by decide +kernel
theorem dJ6_bitCount_0f7a4_48 : decode cJ6_bitCount_0f7a4 48 = .ok (.iload_n 0, 1) := by decide +kernel
theorem dJ6_bitCount_0f7a4_49 : decode cJ6_bitCount_0f7a4 49 = .ok (.bipush 63, 2) := by decide +kernel
theorem dJ6_bitCount_0f7a4_51 : decode cJ6_bitCount_0f7a4 51 = .ok (.iand, 1) := by decide +kernel
theorem dJ6_bitCount_0f7a4_52 : decode cJ6_bitCount_0f7a4 52 = .ok (.ireturn, 1) := by decide +kernel
theorem dJ9_max_7cf53_0 : decode cJ9_max_7cf53 0 = .ok (.iload_n 0, 1) := by decide +kernel
theorem dJ9_max_7cf53_1 : decode cJ9_max_7cf53 1 = .ok (.iload_n 1, 1) := by decide +kernel
theorem dJ9_max_7cf53_2 : decode cJ9_max_7cf53 2 = .ok (.if_icmp .lt 7, 3) := by decide +kernel
theorem dJ9_max_7cf53_5 : decode cJ9_max_7cf53 5 = .ok (.iload_n 0, 1) := by decide +kernel
theorem dJ9_max_7cf53_6 : decode cJ9_max_7cf53 6 = .ok (.goto 4, 3) := by decide +kernel
theorem dJ9_max_7cf53_9 : decode cJ9_max_7cf53 9 = .ok (.iload_n 1, 1) := by decide +kernel
theorem dJ9_max_7cf53_10 : decode cJ9_max_7cf53 10 = .ok (.ireturn, 1) := by decide +kernel
theorem dJ9_max_f86c9_0 : decode cJ9_max_f86c9 0 = .ok (.lload_n 0, 1) := by decide +kernel
theorem dJ9_max_f86c9_1 : decode cJ9_max_f86c9 1 = .ok (.lload_n 2, 1) := by decide +kernel
theorem dJ9_max_f86c9_2 : decode cJ9_max_f86c9 2 = .ok (.lcmp, 1) := by decide +kernel
theorem dJ9_max_f86c9_3 : decode cJ9_max_f86c9 3 = .ok (.ifCond .lt 7, 3) := by decide +kernel
theorem dJ9_max_f86c9_6 : decode cJ9_max_f86c9 6 = .ok (.lload_n 0, 1) := by decide +kernel
theorem dJ9_max_f86c9_7 : decode cJ9_max_f86c9 7 = .ok (.goto 4, 3) := by decide +kernel
theorem dJ9_max_f86c9_10 : decode cJ9_max_f86c9 10 = .ok (.lload_n 2, 1) := by decide +kernel
theorem dJ9_max_f86c9_11 : decode cJ9_max_f86c9 11 = .ok (.lreturn, 1) := by decide +kernel
theorem dJ9_min_7cf53_0 : decode cJ9_min_7cf53 0 = .ok (.iload_n 0, 1) := by decide +kernel
theorem dJ9_min_7cf53_1 : decode cJ9_min_7cf53 1 = .ok (.iload_n 1, 1) := by decide +kernel
theorem dJ9_min_7cf53_2 : decode cJ9_min_7cf53 2 = .ok (.if_icmp .gt 7, 3) := by decide +kernel
theorem dJ9_min_7cf53_5 : decode cJ9_min_7cf53 5 = .ok (.iload_n 0, 1) := by decide +kernel
theorem dJ9_min_7cf53_6 : decode cJ9_min_7cf53 6 = .ok (.goto 4, 3) := by decide +kernel
theorem dJ9_min_7cf53_9 : decode cJ9_min_7cf53 9 = .ok (.iload_n 1, 1) := by decide +kernel
theorem dJ9_min_7cf53_10 : decode cJ9_min_7cf53 10 = .ok (.ireturn, 1) := by decide +kernel
theorem dL_law_0 : decode cL_law 0 = .ok (.new 7, 3) := by decide +kernel
theorem dL_law_3 : decode cL_law 3 = .ok (.dup, 1) := by decide +kernel
theorem dL_law_4 : decode cL_law 4 = .ok (.invokespecial 9, 3) := by decide +kernel
theorem dL_law_7 : decode cL_law 7 = .ok (.astore_n 1, 1) := by decide +kernel
theorem dL_law_8 : decode cL_law 8 = .ok (.new 10, 3) := by decide +kernel
theorem dL_law_11 : decode cL_law 11 = .ok (.dup, 1) := by decide +kernel
theorem dL_law_12 : decode cL_law 12 = .ok (.invokespecial 12, 3) := by decide +kernel
theorem dL_law_15 : decode cL_law 15 = .ok (.astore_n 2, 1) := by decide +kernel
theorem dL_law_16 : decode cL_law 16 = .ok (.iconst 0, 1) := by decide +kernel
theorem dL_law_17 : decode cL_law 17 = .ok (.istore_n 3, 1) := by decide +kernel
theorem dL_law_18 : decode cL_law 18 = .ok (.iload_n 3, 1) := by decide +kernel
theorem dL_law_19 : decode cL_law 19 = .ok (.aload_n 0, 1) := by decide +kernel
theorem dL_law_20 : decode cL_law 20 = .ok (.arraylength, 1) := by decide +kernel
theorem dL_law_21 : decode cL_law 21 = .ok (.bipush 6, 2) := by decide +kernel
theorem dL_law_23 : decode cL_law 23 = .ok (.isub, 1) := by decide +kernel
theorem dL_law_24 : decode cL_law 24 = .ok (.if_icmp .gt 1306, 3) := by decide +kernel
theorem dL_law_27 : decode cL_law 27 = .ok (.aload_n 0, 1) := by decide +kernel
theorem dL_law_28 : decode cL_law 28 = .ok (.iload_n 3, 1) := by decide +kernel
theorem dL_law_29 : decode cL_law 29 = .ok (.iaload, 1) := by decide +kernel
theorem dL_law_30 : decode cL_law 30 = .ok (.bipush 63, 2) := by decide +kernel
theorem dL_law_32 : decode cL_law 32 = .ok (.iand, 1) := by decide +kernel
theorem dL_law_33 : decode cL_law 33 = .ok (.tableswitch 1291 0 34 #[155, 198, 241, 304, 327, 350, 363, 376, 389, 412, 445, 478, 511, 544, 577, 610, 633, 656, 719, 772, 815, 858, 911, 954, 987, 1010, 1054, 1097, 1120, 1143, 1166, 1199, 1232, 1255, 1278], 155) := by decide +kernel
theorem dL_law_188 : decode cL_law 188 = .ok (.aload_n 1, 1) := by decide +kernel
theorem dL_law_189 : decode cL_law 189 = .ok (.aload_n 0, 1) := by decide +kernel
theorem dL_law_190 : decode cL_law 190 = .ok (.iload_n 3, 1) := by decide +kernel
theorem dL_law_191 : decode cL_law 191 = .ok (.iconst 1, 1) := by decide +kernel
theorem dL_law_192 : decode cL_law 192 = .ok (.iadd, 1) := by decide +kernel
theorem dL_law_193 : decode cL_law 193 = .ok (.iaload, 1) := by decide +kernel
theorem dL_law_194 : decode cL_law 194 = .ok (.aload_n 0, 1) := by decide +kernel
theorem dL_law_195 : decode cL_law 195 = .ok (.iload_n 3, 1) := by decide +kernel
theorem dL_law_196 : decode cL_law 196 = .ok (.iconst 2, 1) := by decide +kernel
theorem dL_law_197 : decode cL_law 197 = .ok (.iadd, 1) := by decide +kernel
theorem dL_law_198 : decode cL_law 198 = .ok (.iaload, 1) := by decide +kernel
theorem dL_law_199 : decode cL_law 199 = .ok (.aload_n 0, 1) := by decide +kernel
theorem dL_law_200 : decode cL_law 200 = .ok (.iload_n 3, 1) := by decide +kernel
theorem dL_law_201 : decode cL_law 201 = .ok (.iconst 3, 1) := by decide +kernel
theorem dL_law_202 : decode cL_law 202 = .ok (.iadd, 1) := by decide +kernel
theorem dL_law_203 : decode cL_law 203 = .ok (.iaload, 1) := by decide +kernel
theorem dL_law_204 : decode cL_law 204 = .ok (.invokevirtual 13, 3) := by decide +kernel
theorem dL_law_207 : decode cL_law 207 = .ok (.aload_n 2, 1) := by decide +kernel
theorem dL_law_208 : decode cL_law 208 = .ok (.aload_n 0, 1) := by decide +kernel
theorem dL_law_209 : decode cL_law 209 = .ok (.iload_n 3, 1) := by decide +kernel
theorem dL_law_210 : decode cL_law 210 = .ok (.iconst 1, 1) := by decide +kernel
theorem dL_law_211 : decode cL_law 211 = .ok (.iadd, 1) := by decide +kernel
theorem dL_law_212 : decode cL_law 212 = .ok (.iaload, 1) := by decide +kernel
theorem dL_law_213 : decode cL_law 213 = .ok (.aload_n 0, 1) := by decide +kernel
theorem dL_law_214 : decode cL_law 214 = .ok (.iload_n 3, 1) := by decide +kernel
theorem dL_law_215 : decode cL_law 215 = .ok (.iconst 2, 1) := by decide +kernel
theorem dL_law_216 : decode cL_law 216 = .ok (.iadd, 1) := by decide +kernel
theorem dL_law_217 : decode cL_law 217 = .ok (.iaload, 1) := by decide +kernel
theorem dL_law_218 : decode cL_law 218 = .ok (.aload_n 0, 1) := by decide +kernel
theorem dL_law_219 : decode cL_law 219 = .ok (.iload_n 3, 1) := by decide +kernel
theorem dL_law_220 : decode cL_law 220 = .ok (.iconst 3, 1) := by decide +kernel
theorem dL_law_221 : decode cL_law 221 = .ok (.iadd, 1) := by decide +kernel
theorem dL_law_222 : decode cL_law 222 = .ok (.iaload, 1) := by decide +kernel
theorem dL_law_223 : decode cL_law 223 = .ok (.invokevirtual 17, 3) := by decide +kernel
theorem dL_law_226 : decode cL_law 226 = .ok (.if_icmp .eq 1098, 3) := by decide +kernel
theorem dL_law_229 : decode cL_law 229 = .ok (.iconst 0, 1) := by decide +kernel
theorem dL_law_230 : decode cL_law 230 = .ok (.ireturn, 1) := by decide +kernel
theorem dL_law_231 : decode cL_law 231 = .ok (.aload_n 1, 1) := by decide +kernel
theorem dL_law_232 : decode cL_law 232 = .ok (.aload_n 0, 1) := by decide +kernel
theorem dL_law_233 : decode cL_law 233 = .ok (.iload_n 3, 1) := by decide +kernel
theorem dL_law_234 : decode cL_law 234 = .ok (.iconst 1, 1) := by decide +kernel
theorem dL_law_235 : decode cL_law 235 = .ok (.iadd, 1) := by decide +kernel
theorem dL_law_236 : decode cL_law 236 = .ok (.iaload, 1) := by decide +kernel
theorem dL_law_237 : decode cL_law 237 = .ok (.aload_n 0, 1) := by decide +kernel
theorem dL_law_238 : decode cL_law 238 = .ok (.iload_n 3, 1) := by decide +kernel
theorem dL_law_239 : decode cL_law 239 = .ok (.iconst 2, 1) := by decide +kernel
theorem dL_law_240 : decode cL_law 240 = .ok (.iadd, 1) := by decide +kernel
theorem dL_law_241 : decode cL_law 241 = .ok (.iaload, 1) := by decide +kernel
theorem dL_law_242 : decode cL_law 242 = .ok (.aload_n 0, 1) := by decide +kernel
theorem dL_law_243 : decode cL_law 243 = .ok (.iload_n 3, 1) := by decide +kernel
theorem dL_law_244 : decode cL_law 244 = .ok (.iconst 3, 1) := by decide +kernel
theorem dL_law_245 : decode cL_law 245 = .ok (.iadd, 1) := by decide +kernel
theorem dL_law_246 : decode cL_law 246 = .ok (.iaload, 1) := by decide +kernel
theorem dL_law_247 : decode cL_law 247 = .ok (.invokevirtual 18, 3) := by decide +kernel
theorem dL_law_250 : decode cL_law 250 = .ok (.aload_n 2, 1) := by decide +kernel
theorem dL_law_251 : decode cL_law 251 = .ok (.aload_n 0, 1) := by decide +kernel
theorem dL_law_252 : decode cL_law 252 = .ok (.iload_n 3, 1) := by decide +kernel
theorem dL_law_253 : decode cL_law 253 = .ok (.iconst 1, 1) := by decide +kernel
theorem dL_law_254 : decode cL_law 254 = .ok (.iadd, 1) := by decide +kernel
theorem dL_law_255 : decode cL_law 255 = .ok (.iaload, 1) := by decide +kernel
theorem dL_law_256 : decode cL_law 256 = .ok (.aload_n 0, 1) := by decide +kernel
theorem dL_law_257 : decode cL_law 257 = .ok (.iload_n 3, 1) := by decide +kernel
theorem dL_law_258 : decode cL_law 258 = .ok (.iconst 2, 1) := by decide +kernel
theorem dL_law_259 : decode cL_law 259 = .ok (.iadd, 1) := by decide +kernel
theorem dL_law_260 : decode cL_law 260 = .ok (.iaload, 1) := by decide +kernel
theorem dL_law_261 : decode cL_law 261 = .ok (.aload_n 0, 1) := by decide +kernel
theorem dL_law_262 : decode cL_law 262 = .ok (.iload_n 3, 1) := by decide +kernel
theorem dL_law_263 : decode cL_law 263 = .ok (.iconst 3, 1) := by decide +kernel
theorem dL_law_264 : decode cL_law 264 = .ok (.iadd, 1) := by decide +kernel
theorem dL_law_265 : decode cL_law 265 = .ok (.iaload, 1) := by decide +kernel
theorem dL_law_266 : decode cL_law 266 = .ok (.invokevirtual 21, 3) := by decide +kernel
theorem dL_law_269 : decode cL_law 269 = .ok (.if_icmp .eq 1055, 3) := by decide +kernel
theorem dL_law_272 : decode cL_law 272 = .ok (.iconst 0, 1) := by decide +kernel
theorem dL_law_273 : decode cL_law 273 = .ok (.ireturn, 1) := by decide +kernel
theorem dL_law_274 : decode cL_law 274 = .ok (.aload_n 1, 1) := by decide +kernel
theorem dL_law_275 : decode cL_law 275 = .ok (.aload_n 0, 1) := by decide +kernel
theorem dL_law_276 : decode cL_law 276 = .ok (.iload_n 3, 1) := by decide +kernel
theorem dL_law_277 : decode cL_law 277 = .ok (.iconst 1, 1) := by decide +kernel
theorem dL_law_278 : decode cL_law 278 = .ok (.iadd, 1) := by decide +kernel
theorem dL_law_279 : decode cL_law 279 = .ok (.iaload, 1) := by decide +kernel
theorem dL_law_280 : decode cL_law 280 = .ok (.aload_n 0, 1) := by decide +kernel
theorem dL_law_281 : decode cL_law 281 = .ok (.iload_n 3, 1) := by decide +kernel
theorem dL_law_282 : decode cL_law 282 = .ok (.iconst 2, 1) := by decide +kernel
theorem dL_law_283 : decode cL_law 283 = .ok (.iadd, 1) := by decide +kernel
theorem dL_law_284 : decode cL_law 284 = .ok (.iaload, 1) := by decide +kernel
theorem dL_law_285 : decode cL_law 285 = .ok (.aload_n 0, 1) := by decide +kernel
theorem dL_law_286 : decode cL_law 286 = .ok (.iload_n 3, 1) := by decide +kernel
theorem dL_law_287 : decode cL_law 287 = .ok (.iconst 3, 1) := by decide +kernel
theorem dL_law_288 : decode cL_law 288 = .ok (.iadd, 1) := by decide +kernel
theorem dL_law_289 : decode cL_law 289 = .ok (.iaload, 1) := by decide +kernel
theorem dL_law_290 : decode cL_law 290 = .ok (.aload_n 0, 1) := by decide +kernel
theorem dL_law_291 : decode cL_law 291 = .ok (.iload_n 3, 1) := by decide +kernel
theorem dL_law_292 : decode cL_law 292 = .ok (.iconst 4, 1) := by decide +kernel
theorem dL_law_293 : decode cL_law 293 = .ok (.iadd, 1) := by decide +kernel
theorem dL_law_294 : decode cL_law 294 = .ok (.iaload, 1) := by decide +kernel
theorem dL_law_295 : decode cL_law 295 = .ok (.aload_n 0, 1) := by decide +kernel
theorem dL_law_296 : decode cL_law 296 = .ok (.iload_n 3, 1) := by decide +kernel
theorem dL_law_297 : decode cL_law 297 = .ok (.iconst 5, 1) := by decide +kernel
theorem dL_law_298 : decode cL_law 298 = .ok (.iadd, 1) := by decide +kernel
theorem dL_law_299 : decode cL_law 299 = .ok (.iaload, 1) := by decide +kernel
theorem dL_law_300 : decode cL_law 300 = .ok (.invokevirtual 22, 3) := by decide +kernel
theorem dL_law_303 : decode cL_law 303 = .ok (.aload_n 2, 1) := by decide +kernel
theorem dL_law_304 : decode cL_law 304 = .ok (.aload_n 0, 1) := by decide +kernel
theorem dL_law_305 : decode cL_law 305 = .ok (.iload_n 3, 1) := by decide +kernel
theorem dL_law_306 : decode cL_law 306 = .ok (.iconst 1, 1) := by decide +kernel
theorem dL_law_307 : decode cL_law 307 = .ok (.iadd, 1) := by decide +kernel
theorem dL_law_308 : decode cL_law 308 = .ok (.iaload, 1) := by decide +kernel
theorem dL_law_309 : decode cL_law 309 = .ok (.aload_n 0, 1) := by decide +kernel
theorem dL_law_310 : decode cL_law 310 = .ok (.iload_n 3, 1) := by decide +kernel
theorem dL_law_311 : decode cL_law 311 = .ok (.iconst 2, 1) := by decide +kernel
theorem dL_law_312 : decode cL_law 312 = .ok (.iadd, 1) := by decide +kernel
theorem dL_law_313 : decode cL_law 313 = .ok (.iaload, 1) := by decide +kernel
theorem dL_law_314 : decode cL_law 314 = .ok (.aload_n 0, 1) := by decide +kernel
theorem dL_law_315 : decode cL_law 315 = .ok (.iload_n 3, 1) := by decide +kernel
theorem dL_law_316 : decode cL_law 316 = .ok (.iconst 3, 1) := by decide +kernel
theorem dL_law_317 : decode cL_law 317 = .ok (.iadd, 1) := by decide +kernel
theorem dL_law_318 : decode cL_law 318 = .ok (.iaload, 1) := by decide +kernel
theorem dL_law_319 : decode cL_law 319 = .ok (.aload_n 0, 1) := by decide +kernel
theorem dL_law_320 : decode cL_law 320 = .ok (.iload_n 3, 1) := by decide +kernel
theorem dL_law_321 : decode cL_law 321 = .ok (.iconst 4, 1) := by decide +kernel
theorem dL_law_322 : decode cL_law 322 = .ok (.iadd, 1) := by decide +kernel
theorem dL_law_323 : decode cL_law 323 = .ok (.iaload, 1) := by decide +kernel
theorem dL_law_324 : decode cL_law 324 = .ok (.aload_n 0, 1) := by decide +kernel
theorem dL_law_325 : decode cL_law 325 = .ok (.iload_n 3, 1) := by decide +kernel
theorem dL_law_326 : decode cL_law 326 = .ok (.iconst 5, 1) := by decide +kernel
theorem dL_law_327 : decode cL_law 327 = .ok (.iadd, 1) := by decide +kernel
end
section
theorem dL_law_328 : decode cL_law 328 = .ok (.iaload, 1) := by decide +kernel
theorem dL_law_329 : decode cL_law 329 = .ok (.invokevirtual 26, 3) := by decide +kernel
theorem dL_law_332 : decode cL_law 332 = .ok (.if_icmp .eq 992, 3) := by decide +kernel
theorem dL_law_335 : decode cL_law 335 = .ok (.iconst 0, 1) := by decide +kernel
theorem dL_law_336 : decode cL_law 336 = .ok (.ireturn, 1) := by decide +kernel
theorem dL_law_337 : decode cL_law 337 = .ok (.aload_n 1, 1) := by decide +kernel
theorem dL_law_338 : decode cL_law 338 = .ok (.aload_n 0, 1) := by decide +kernel
theorem dL_law_339 : decode cL_law 339 = .ok (.iload_n 3, 1) := by decide +kernel
theorem dL_law_340 : decode cL_law 340 = .ok (.iconst 1, 1) := by decide +kernel
theorem dL_law_341 : decode cL_law 341 = .ok (.iadd, 1) := by decide +kernel
theorem dL_law_342 : decode cL_law 342 = .ok (.iaload, 1) := by decide +kernel
theorem dL_law_343 : decode cL_law 343 = .ok (.invokevirtual 27, 3) := by decide +kernel
theorem dL_law_346 : decode cL_law 346 = .ok (.aload_n 2, 1) := by decide +kernel
theorem dL_law_347 : decode cL_law 347 = .ok (.aload_n 0, 1) := by decide +kernel
theorem dL_law_348 : decode cL_law 348 = .ok (.iload_n 3, 1) := by decide +kernel
theorem dL_law_349 : decode cL_law 349 = .ok (.iconst 1, 1) := by decide +kernel
theorem dL_law_350 : decode cL_law 350 = .ok (.iadd, 1) := by decide +kernel
theorem dL_law_351 : decode cL_law 351 = .ok (.iaload, 1) := by decide +kernel
theorem dL_law_352 : decode cL_law 352 = .ok (.invokevirtual 31, 3) := by decide +kernel
theorem dL_law_355 : decode cL_law 355 = .ok (.if_icmp .eq 969, 3) := by decide +kernel
theorem dL_law_358 : decode cL_law 358 = .ok (.iconst 0, 1) := by decide +kernel
theorem dL_law_359 : decode cL_law 359 = .ok (.ireturn, 1) := by decide +kernel
theorem dL_law_360 : decode cL_law 360 = .ok (.aload_n 1, 1) := by decide +kernel
theorem dL_law_361 : decode cL_law 361 = .ok (.aload_n 0, 1) := by decide +kernel
theorem dL_law_362 : decode cL_law 362 = .ok (.iload_n 3, 1) := by decide +kernel
theorem dL_law_363 : decode cL_law 363 = .ok (.iconst 1, 1) := by decide +kernel
theorem dL_law_364 : decode cL_law 364 = .ok (.iadd, 1) := by decide +kernel
theorem dL_law_365 : decode cL_law 365 = .ok (.iaload, 1) := by decide +kernel
theorem dL_law_366 : decode cL_law 366 = .ok (.invokevirtual 32, 3) := by decide +kernel
theorem dL_law_369 : decode cL_law 369 = .ok (.aload_n 2, 1) := by decide +kernel
theorem dL_law_370 : decode cL_law 370 = .ok (.aload_n 0, 1) := by decide +kernel
theorem dL_law_371 : decode cL_law 371 = .ok (.iload_n 3, 1) := by decide +kernel
theorem dL_law_372 : decode cL_law 372 = .ok (.iconst 1, 1) := by decide +kernel
theorem dL_law_373 : decode cL_law 373 = .ok (.iadd, 1) := by decide +kernel
theorem dL_law_374 : decode cL_law 374 = .ok (.iaload, 1) := by decide +kernel
theorem dL_law_375 : decode cL_law 375 = .ok (.invokevirtual 35, 3) := by decide +kernel
theorem dL_law_378 : decode cL_law 378 = .ok (.if_icmp .eq 946, 3) := by decide +kernel
theorem dL_law_381 : decode cL_law 381 = .ok (.iconst 0, 1) := by decide +kernel
theorem dL_law_382 : decode cL_law 382 = .ok (.ireturn, 1) := by decide +kernel
theorem dL_law_383 : decode cL_law 383 = .ok (.aload_n 1, 1) := by decide +kernel
theorem dL_law_384 : decode cL_law 384 = .ok (.invokevirtual 36, 3) := by decide +kernel
theorem dL_law_387 : decode cL_law 387 = .ok (.aload_n 2, 1) := by decide +kernel
theorem dL_law_388 : decode cL_law 388 = .ok (.invokevirtual 40, 3) := by decide +kernel
theorem dL_law_391 : decode cL_law 391 = .ok (.if_icmp .eq 933, 3) := by decide +kernel
theorem dL_law_394 : decode cL_law 394 = .ok (.iconst 0, 1) := by decide +kernel
theorem dL_law_395 : decode cL_law 395 = .ok (.ireturn, 1) := by decide +kernel
theorem dL_law_396 : decode cL_law 396 = .ok (.aload_n 1, 1) := by decide +kernel
theorem dL_law_397 : decode cL_law 397 = .ok (.invokevirtual 41, 3) := by decide +kernel
theorem dL_law_400 : decode cL_law 400 = .ok (.aload_n 2, 1) := by decide +kernel
theorem dL_law_401 : decode cL_law 401 = .ok (.invokevirtual 44, 3) := by decide +kernel
theorem dL_law_404 : decode cL_law 404 = .ok (.if_icmp .eq 920, 3) := by decide +kernel
theorem dL_law_407 : decode cL_law 407 = .ok (.iconst 0, 1) := by decide +kernel
theorem dL_law_408 : decode cL_law 408 = .ok (.ireturn, 1) := by decide +kernel
theorem dL_law_409 : decode cL_law 409 = .ok (.aload_n 1, 1) := by decide +kernel
theorem dL_law_410 : decode cL_law 410 = .ok (.invokevirtual 45, 3) := by decide +kernel
theorem dL_law_413 : decode cL_law 413 = .ok (.aload_n 2, 1) := by decide +kernel
theorem dL_law_414 : decode cL_law 414 = .ok (.invokevirtual 48, 3) := by decide +kernel
theorem dL_law_417 : decode cL_law 417 = .ok (.if_icmp .eq 907, 3) := by decide +kernel
theorem dL_law_420 : decode cL_law 420 = .ok (.iconst 0, 1) := by decide +kernel
theorem dL_law_421 : decode cL_law 421 = .ok (.ireturn, 1) := by decide +kernel
theorem dL_law_422 : decode cL_law 422 = .ok (.aload_n 1, 1) := by decide +kernel
theorem dL_law_423 : decode cL_law 423 = .ok (.aload_n 0, 1) := by decide +kernel
theorem dL_law_424 : decode cL_law 424 = .ok (.iload_n 3, 1) := by decide +kernel
theorem dL_law_425 : decode cL_law 425 = .ok (.iconst 1, 1) := by decide +kernel
theorem dL_law_426 : decode cL_law 426 = .ok (.iadd, 1) := by decide +kernel
theorem dL_law_427 : decode cL_law 427 = .ok (.iaload, 1) := by decide +kernel
theorem dL_law_428 : decode cL_law 428 = .ok (.invokevirtual 49, 3) := by decide +kernel
theorem dL_law_431 : decode cL_law 431 = .ok (.aload_n 2, 1) := by decide +kernel
theorem dL_law_432 : decode cL_law 432 = .ok (.aload_n 0, 1) := by decide +kernel
theorem dL_law_433 : decode cL_law 433 = .ok (.iload_n 3, 1) := by decide +kernel
theorem dL_law_434 : decode cL_law 434 = .ok (.iconst 1, 1) := by decide +kernel
theorem dL_law_435 : decode cL_law 435 = .ok (.iadd, 1) := by decide +kernel
theorem dL_law_436 : decode cL_law 436 = .ok (.iaload, 1) := by decide +kernel
theorem dL_law_437 : decode cL_law 437 = .ok (.invokevirtual 52, 3) := by decide +kernel
theorem dL_law_440 : decode cL_law 440 = .ok (.if_icmp .eq 884, 3) := by decide +kernel
theorem dL_law_443 : decode cL_law 443 = .ok (.iconst 0, 1) := by decide +kernel
theorem dL_law_444 : decode cL_law 444 = .ok (.ireturn, 1) := by decide +kernel
theorem dL_law_445 : decode cL_law 445 = .ok (.aload_n 1, 1) := by decide +kernel
theorem dL_law_446 : decode cL_law 446 = .ok (.aload_n 0, 1) := by decide +kernel
theorem dL_law_447 : decode cL_law 447 = .ok (.iload_n 3, 1) := by decide +kernel
theorem dL_law_448 : decode cL_law 448 = .ok (.iconst 1, 1) := by decide +kernel
theorem dL_law_449 : decode cL_law 449 = .ok (.iadd, 1) := by decide +kernel
theorem dL_law_450 : decode cL_law 450 = .ok (.iaload, 1) := by decide +kernel
theorem dL_law_451 : decode cL_law 451 = .ok (.aload_n 0, 1) := by decide +kernel
theorem dL_law_452 : decode cL_law 452 = .ok (.iload_n 3, 1) := by decide +kernel
theorem dL_law_453 : decode cL_law 453 = .ok (.iconst 2, 1) := by decide +kernel
theorem dL_law_454 : decode cL_law 454 = .ok (.iadd, 1) := by decide +kernel
theorem dL_law_455 : decode cL_law 455 = .ok (.iaload, 1) := by decide +kernel
theorem dL_law_456 : decode cL_law 456 = .ok (.invokevirtual 53, 3) := by decide +kernel
theorem dL_law_459 : decode cL_law 459 = .ok (.aload_n 2, 1) := by decide +kernel
theorem dL_law_460 : decode cL_law 460 = .ok (.aload_n 0, 1) := by decide +kernel
theorem dL_law_461 : decode cL_law 461 = .ok (.iload_n 3, 1) := by decide +kernel
theorem dL_law_462 : decode cL_law 462 = .ok (.iconst 1, 1) := by decide +kernel
theorem dL_law_463 : decode cL_law 463 = .ok (.iadd, 1) := by decide +kernel
theorem dL_law_464 : decode cL_law 464 = .ok (.iaload, 1) := by decide +kernel
theorem dL_law_465 : decode cL_law 465 = .ok (.aload_n 0, 1) := by decide +kernel
theorem dL_law_466 : decode cL_law 466 = .ok (.iload_n 3, 1) := by decide +kernel
theorem dL_law_467 : decode cL_law 467 = .ok (.iconst 2, 1) := by decide +kernel
theorem dL_law_468 : decode cL_law 468 = .ok (.iadd, 1) := by decide +kernel
theorem dL_law_469 : decode cL_law 469 = .ok (.iaload, 1) := by decide +kernel
theorem dL_law_470 : decode cL_law 470 = .ok (.invokevirtual 57, 3) := by decide +kernel
theorem dL_law_473 : decode cL_law 473 = .ok (.if_icmp .eq 851, 3) := by decide +kernel
theorem dL_law_476 : decode cL_law 476 = .ok (.iconst 0, 1) := by decide +kernel
theorem dL_law_477 : decode cL_law 477 = .ok (.ireturn, 1) := by decide +kernel
theorem dL_law_478 : decode cL_law 478 = .ok (.aload_n 1, 1) := by decide +kernel
theorem dL_law_479 : decode cL_law 479 = .ok (.aload_n 0, 1) := by decide +kernel
theorem dL_law_480 : decode cL_law 480 = .ok (.iload_n 3, 1) := by decide +kernel
theorem dL_law_481 : decode cL_law 481 = .ok (.iconst 1, 1) := by decide +kernel
theorem dL_law_482 : decode cL_law 482 = .ok (.iadd, 1) := by decide +kernel
theorem dL_law_483 : decode cL_law 483 = .ok (.iaload, 1) := by decide +kernel
theorem dL_law_484 : decode cL_law 484 = .ok (.aload_n 0, 1) := by decide +kernel
theorem dL_law_485 : decode cL_law 485 = .ok (.iload_n 3, 1) := by decide +kernel
theorem dL_law_486 : decode cL_law 486 = .ok (.iconst 2, 1) := by decide +kernel
theorem dL_law_487 : decode cL_law 487 = .ok (.iadd, 1) := by decide +kernel
theorem dL_law_488 : decode cL_law 488 = .ok (.iaload, 1) := by decide +kernel
theorem dL_law_489 : decode cL_law 489 = .ok (.invokevirtual 58, 3) := by decide +kernel
theorem dL_law_492 : decode cL_law 492 = .ok (.aload_n 2, 1) := by decide +kernel
theorem dL_law_493 : decode cL_law 493 = .ok (.aload_n 0, 1) := by decide +kernel
theorem dL_law_494 : decode cL_law 494 = .ok (.iload_n 3, 1) := by decide +kernel
theorem dL_law_495 : decode cL_law 495 = .ok (.iconst 1, 1) := by decide +kernel
theorem dL_law_496 : decode cL_law 496 = .ok (.iadd, 1) := by decide +kernel
theorem dL_law_497 : decode cL_law 497 = .ok (.iaload, 1) := by decide +kernel
theorem dL_law_498 : decode cL_law 498 = .ok (.aload_n 0, 1) := by decide +kernel
theorem dL_law_499 : decode cL_law 499 = .ok (.iload_n 3, 1) := by decide +kernel
theorem dL_law_500 : decode cL_law 500 = .ok (.iconst 2, 1) := by decide +kernel
theorem dL_law_501 : decode cL_law 501 = .ok (.iadd, 1) := by decide +kernel
theorem dL_law_502 : decode cL_law 502 = .ok (.iaload, 1) := by decide +kernel
theorem dL_law_503 : decode cL_law 503 = .ok (.invokevirtual 61, 3) := by decide +kernel
theorem dL_law_506 : decode cL_law 506 = .ok (.if_icmp .eq 818, 3) := by decide +kernel
theorem dL_law_509 : decode cL_law 509 = .ok (.iconst 0, 1) := by decide +kernel
theorem dL_law_510 : decode cL_law 510 = .ok (.ireturn, 1) := by decide +kernel
theorem dL_law_511 : decode cL_law 511 = .ok (.aload_n 1, 1) := by decide +kernel
theorem dL_law_512 : decode cL_law 512 = .ok (.aload_n 0, 1) := by decide +kernel
theorem dL_law_513 : decode cL_law 513 = .ok (.iload_n 3, 1) := by decide +kernel
theorem dL_law_514 : decode cL_law 514 = .ok (.iconst 1, 1) := by decide +kernel
theorem dL_law_515 : decode cL_law 515 = .ok (.iadd, 1) := by decide +kernel
theorem dL_law_516 : decode cL_law 516 = .ok (.iaload, 1) := by decide +kernel
theorem dL_law_517 : decode cL_law 517 = .ok (.aload_n 0, 1) := by decide +kernel
theorem dL_law_518 : decode cL_law 518 = .ok (.iload_n 3, 1) := by decide +kernel
theorem dL_law_519 : decode cL_law 519 = .ok (.iconst 2, 1) := by decide +kernel
theorem dL_law_520 : decode cL_law 520 = .ok (.iadd, 1) := by decide +kernel
theorem dL_law_521 : decode cL_law 521 = .ok (.iaload, 1) := by decide +kernel
theorem dL_law_522 : decode cL_law 522 = .ok (.invokevirtual 62, 3) := by decide +kernel
theorem dL_law_525 : decode cL_law 525 = .ok (.aload_n 2, 1) := by decide +kernel
theorem dL_law_526 : decode cL_law 526 = .ok (.aload_n 0, 1) := by decide +kernel
theorem dL_law_527 : decode cL_law 527 = .ok (.iload_n 3, 1) := by decide +kernel
theorem dL_law_528 : decode cL_law 528 = .ok (.iconst 1, 1) := by decide +kernel
theorem dL_law_529 : decode cL_law 529 = .ok (.iadd, 1) := by decide +kernel
theorem dL_law_530 : decode cL_law 530 = .ok (.iaload, 1) := by decide +kernel
theorem dL_law_531 : decode cL_law 531 = .ok (.aload_n 0, 1) := by decide +kernel
theorem dL_law_532 : decode cL_law 532 = .ok (.iload_n 3, 1) := by decide +kernel
theorem dL_law_533 : decode cL_law 533 = .ok (.iconst 2, 1) := by decide +kernel
theorem dL_law_534 : decode cL_law 534 = .ok (.iadd, 1) := by decide +kernel
theorem dL_law_535 : decode cL_law 535 = .ok (.iaload, 1) := by decide +kernel
theorem dL_law_536 : decode cL_law 536 = .ok (.invokevirtual 65, 3) := by decide +kernel
theorem dL_law_539 : decode cL_law 539 = .ok (.if_icmp .eq 785, 3) := by decide +kernel
theorem dL_law_542 : decode cL_law 542 = .ok (.iconst 0, 1) := by decide +kernel
theorem dL_law_543 : decode cL_law 543 = .ok (.ireturn, 1) := by decide +kernel
theorem dL_law_544 : decode cL_law 544 = .ok (.aload_n 1, 1) := by decide +kernel
theorem dL_law_545 : decode cL_law 545 = .ok (.aload_n 0, 1) := by decide +kernel
theorem dL_law_546 : decode cL_law 546 = .ok (.iload_n 3, 1) := by decide +kernel
theorem dL_law_547 : decode cL_law 547 = .ok (.iconst 1, 1) := by decide +kernel
theorem dL_law_548 : decode cL_law 548 = .ok (.iadd, 1) := by decide +kernel
theorem dL_law_549 : decode cL_law 549 = .ok (.iaload, 1) := by decide +kernel
theorem dL_law_550 : decode cL_law 550 = .ok (.aload_n 0, 1) := by decide +kernel
theorem dL_law_551 : decode cL_law 551 = .ok (.iload_n 3, 1) := by decide +kernel
theorem dL_law_552 : decode cL_law 552 = .ok (.iconst 2, 1) := by decide +kernel
theorem dL_law_553 : decode cL_law 553 = .ok (.iadd, 1) := by decide +kernel
theorem dL_law_554 : decode cL_law 554 = .ok (.iaload, 1) := by decide +kernel
theorem dL_law_555 : decode cL_law 555 = .ok (.invokevirtual 66, 3) := by decide +kernel
theorem dL_law_558 : decode cL_law 558 = .ok (.aload_n 2, 1) := by decide +kernel
theorem dL_law_559 : decode cL_law 559 = .ok (.aload_n 0, 1) := by decide +kernel
theorem dL_law_560 : decode cL_law 560 = .ok (.iload_n 3, 1) := by decide +kernel
theorem dL_law_561 : decode cL_law 561 = .ok (.iconst 1, 1) := by decide +kernel
theorem dL_law_562 : decode cL_law 562 = .ok (.iadd, 1) := by decide +kernel
theorem dL_law_563 : decode cL_law 563 = .ok (.iaload, 1) := by decide +kernel
theorem dL_law_564 : decode cL_law 564 = .ok (.aload_n 0, 1) := by decide +kernel
theorem dL_law_565 : decode cL_law 565 = .ok (.iload_n 3, 1) := by decide +kernel
theorem dL_law_566 : decode cL_law 566 = .ok (.iconst 2, 1) := by decide +kernel
theorem dL_law_567 : decode cL_law 567 = .ok (.iadd, 1) := by decide +kernel
theorem dL_law_568 : decode cL_law 568 = .ok (.iaload, 1) := by decide +kernel
theorem dL_law_569 : decode cL_law 569 = .ok (.invokevirtual 69, 3) := by decide +kernel
theorem dL_law_572 : decode cL_law 572 = .ok (.if_icmp .eq 752, 3) := by decide +kernel
theorem dL_law_575 : decode cL_law 575 = .ok (.iconst 0, 1) := by decide +kernel
theorem dL_law_576 : decode cL_law 576 = .ok (.ireturn, 1) := by decide +kernel
theorem dL_law_577 : decode cL_law 577 = .ok (.aload_n 1, 1) := by decide +kernel
theorem dL_law_578 : decode cL_law 578 = .ok (.aload_n 0, 1) := by decide +kernel
theorem dL_law_579 : decode cL_law 579 = .ok (.iload_n 3, 1) := by decide +kernel
theorem dL_law_580 : decode cL_law 580 = .ok (.iconst 1, 1) := by decide +kernel
theorem dL_law_581 : decode cL_law 581 = .ok (.iadd, 1) := by decide +kernel
theorem dL_law_582 : decode cL_law 582 = .ok (.iaload, 1) := by decide +kernel
theorem dL_law_583 : decode cL_law 583 = .ok (.aload_n 0, 1) := by decide +kernel
theorem dL_law_584 : decode cL_law 584 = .ok (.iload_n 3, 1) := by decide +kernel
theorem dL_law_585 : decode cL_law 585 = .ok (.iconst 2, 1) := by decide +kernel
theorem dL_law_586 : decode cL_law 586 = .ok (.iadd, 1) := by decide +kernel
theorem dL_law_587 : decode cL_law 587 = .ok (.iaload, 1) := by decide +kernel
theorem dL_law_588 : decode cL_law 588 = .ok (.invokevirtual 70, 3) := by decide +kernel
theorem dL_law_591 : decode cL_law 591 = .ok (.aload_n 2, 1) := by decide +kernel
theorem dL_law_592 : decode cL_law 592 = .ok (.aload_n 0, 1) := by decide +kernel
theorem dL_law_593 : decode cL_law 593 = .ok (.iload_n 3, 1) := by decide +kernel
theorem dL_law_594 : decode cL_law 594 = .ok (.iconst 1, 1) := by decide +kernel
theorem dL_law_595 : decode cL_law 595 = .ok (.iadd, 1) := by decide +kernel
theorem dL_law_596 : decode cL_law 596 = .ok (.iaload, 1) := by decide +kernel
theorem dL_law_597 : decode cL_law 597 = .ok (.aload_n 0, 1) := by decide +kernel
theorem dL_law_598 : decode cL_law 598 = .ok (.iload_n 3, 1) := by decide +kernel
theorem dL_law_599 : decode cL_law 599 = .ok (.iconst 2, 1) := by decide +kernel
theorem dL_law_600 : decode cL_law 600 = .ok (.iadd, 1) := by decide +kernel
theorem dL_law_601 : decode cL_law 601 = .ok (.iaload, 1) := by decide +kernel
theorem dL_law_602 : decode cL_law 602 = .ok (.invokevirtual 73, 3) := by decide +kernel
theorem dL_law_605 : decode cL_law 605 = .ok (.if_icmp .eq 719, 3) := by decide +kernel
theorem dL_law_608 : decode cL_law 608 = .ok (.iconst 0, 1) := by decide +kernel
theorem dL_law_609 : decode cL_law 609 = .ok (.ireturn, 1) := by decide +kernel
theorem dL_law_610 : decode cL_law 610 = .ok (.aload_n 1, 1) := by decide +kernel
theorem dL_law_611 : decode cL_law 611 = .ok (.aload_n 0, 1) := by decide +kernel
theorem dL_law_612 : decode cL_law 612 = .ok (.iload_n 3, 1) := by decide +kernel
theorem dL_law_613 : decode cL_law 613 = .ok (.iconst 1, 1) := by decide +kernel
theorem dL_law_614 : decode cL_law 614 = .ok (.iadd, 1) := by decide +kernel
theorem dL_law_615 : decode cL_law 615 = .ok (.iaload, 1) := by decide +kernel
theorem dL_law_616 : decode cL_law 616 = .ok (.aload_n 0, 1) := by decide +kernel
theorem dL_law_617 : decode cL_law 617 = .ok (.iload_n 3, 1) := by decide +kernel
theorem dL_law_618 : decode cL_law 618 = .ok (.iconst 2, 1) := by decide +kernel
theorem dL_law_619 : decode cL_law 619 = .ok (.iadd, 1) := by decide +kernel
theorem dL_law_620 : decode cL_law 620 = .ok (.iaload, 1) := by decide +kernel
theorem dL_law_621 : decode cL_law 621 = .ok (.invokevirtual 74, 3) := by decide +kernel
theorem dL_law_624 : decode cL_law 624 = .ok (.aload_n 2, 1) := by decide +kernel
theorem dL_law_625 : decode cL_law 625 = .ok (.aload_n 0, 1) := by decide +kernel
theorem dL_law_626 : decode cL_law 626 = .ok (.iload_n 3, 1) := by decide +kernel
theorem dL_law_627 : decode cL_law 627 = .ok (.iconst 1, 1) := by decide +kernel
theorem dL_law_628 : decode cL_law 628 = .ok (.iadd, 1) := by decide +kernel
theorem dL_law_629 : decode cL_law 629 = .ok (.iaload, 1) := by decide +kernel
theorem dL_law_630 : decode cL_law 630 = .ok (.aload_n 0, 1) := by decide +kernel
theorem dL_law_631 : decode cL_law 631 = .ok (.iload_n 3, 1) := by decide +kernel
theorem dL_law_632 : decode cL_law 632 = .ok (.iconst 2, 1) := by decide +kernel
theorem dL_law_633 : decode cL_law 633 = .ok (.iadd, 1) := by decide +kernel
theorem dL_law_634 : decode cL_law 634 = .ok (.iaload, 1) := by decide +kernel
theorem dL_law_635 : decode cL_law 635 = .ok (.invokevirtual 77, 3) := by decide +kernel
theorem dL_law_638 : decode cL_law 638 = .ok (.if_icmp .eq 686, 3) := by decide +kernel
theorem dL_law_641 : decode cL_law 641 = .ok (.iconst 0, 1) := by decide +kernel
theorem dL_law_642 : decode cL_law 642 = .ok (.ireturn, 1) := by decide +kernel
theorem dL_law_643 : decode cL_law 643 = .ok (.aload_n 1, 1) := by decide +kernel
theorem dL_law_644 : decode cL_law 644 = .ok (.aload_n 0, 1) := by decide +kernel
theorem dL_law_645 : decode cL_law 645 = .ok (.iload_n 3, 1) := by decide +kernel
theorem dL_law_646 : decode cL_law 646 = .ok (.iconst 1, 1) := by decide +kernel
theorem dL_law_647 : decode cL_law 647 = .ok (.iadd, 1) := by decide +kernel
theorem dL_law_648 : decode cL_law 648 = .ok (.iaload, 1) := by decide +kernel
theorem dL_law_649 : decode cL_law 649 = .ok (.invokevirtual 78, 3) := by decide +kernel
theorem dL_law_652 : decode cL_law 652 = .ok (.aload_n 2, 1) := by decide +kernel
theorem dL_law_653 : decode cL_law 653 = .ok (.aload_n 0, 1) := by decide +kernel
theorem dL_law_654 : decode cL_law 654 = .ok (.iload_n 3, 1) := by decide +kernel
theorem dL_law_655 : decode cL_law 655 = .ok (.iconst 1, 1) := by decide +kernel
theorem dL_law_656 : decode cL_law 656 = .ok (.iadd, 1) := by decide +kernel
theorem dL_law_657 : decode cL_law 657 = .ok (.iaload, 1) := by decide +kernel
theorem dL_law_658 : decode cL_law 658 = .ok (.invokevirtual 81, 3) := by decide +kernel
theorem dL_law_661 : decode cL_law 661 = .ok (.if_icmp .eq 663, 3) := by decide +kernel
theorem dL_law_664 : decode cL_law 664 = .ok (.iconst 0, 1) := by decide +kernel
theorem dL_law_665 : decode cL_law 665 = .ok (.ireturn, 1) := by decide +kernel
theorem dL_law_666 : decode cL_law 666 = .ok (.aload_n 1, 1) := by decide +kernel
theorem dL_law_667 : decode cL_law 667 = .ok (.aload_n 0, 1) := by decide +kernel
theorem dL_law_668 : decode cL_law 668 = .ok (.iload_n 3, 1) := by decide +kernel
theorem dL_law_669 : decode cL_law 669 = .ok (.iconst 1, 1) := by decide +kernel
theorem dL_law_670 : decode cL_law 670 = .ok (.iadd, 1) := by decide +kernel
theorem dL_law_671 : decode cL_law 671 = .ok (.iaload, 1) := by decide +kernel
theorem dL_law_672 : decode cL_law 672 = .ok (.invokevirtual 82, 3) := by decide +kernel
theorem dL_law_675 : decode cL_law 675 = .ok (.aload_n 2, 1) := by decide +kernel
theorem dL_law_676 : decode cL_law 676 = .ok (.aload_n 0, 1) := by decide +kernel
theorem dL_law_677 : decode cL_law 677 = .ok (.iload_n 3, 1) := by decide +kernel
theorem dL_law_678 : decode cL_law 678 = .ok (.iconst 1, 1) := by decide +kernel
theorem dL_law_679 : decode cL_law 679 = .ok (.iadd, 1) := by decide +kernel
theorem dL_law_680 : decode cL_law 680 = .ok (.iaload, 1) := by decide +kernel
theorem dL_law_681 : decode cL_law 681 = .ok (.invokevirtual 85, 3) := by decide +kernel
theorem dL_law_684 : decode cL_law 684 = .ok (.if_icmp .eq 640, 3) := by decide +kernel
theorem dL_law_687 : decode cL_law 687 = .ok (.iconst 0, 1) := by decide +kernel
theorem dL_law_688 : decode cL_law 688 = .ok (.ireturn, 1) := by decide +kernel
theorem dL_law_689 : decode cL_law 689 = .ok (.aload_n 1, 1) := by decide +kernel
theorem dL_law_690 : decode cL_law 690 = .ok (.aload_n 0, 1) := by decide +kernel
theorem dL_law_691 : decode cL_law 691 = .ok (.iload_n 3, 1) := by decide +kernel
theorem dL_law_692 : decode cL_law 692 = .ok (.iconst 1, 1) := by decide +kernel
theorem dL_law_693 : decode cL_law 693 = .ok (.iadd, 1) := by decide +kernel
theorem dL_law_694 : decode cL_law 694 = .ok (.iaload, 1) := by decide +kernel
theorem dL_law_695 : decode cL_law 695 = .ok (.aload_n 0, 1) := by decide +kernel
theorem dL_law_696 : decode cL_law 696 = .ok (.iload_n 3, 1) := by decide +kernel
theorem dL_law_697 : decode cL_law 697 = .ok (.iconst 2, 1) := by decide +kernel
theorem dL_law_698 : decode cL_law 698 = .ok (.iadd, 1) := by decide +kernel
theorem dL_law_699 : decode cL_law 699 = .ok (.iaload, 1) := by decide +kernel
theorem dL_law_700 : decode cL_law 700 = .ok (.aload_n 0, 1) := by decide +kernel
theorem dL_law_701 : decode cL_law 701 = .ok (.iload_n 3, 1) := by decide +kernel
theorem dL_law_702 : decode cL_law 702 = .ok (.iconst 3, 1) := by decide +kernel
theorem dL_law_703 : decode cL_law 703 = .ok (.iadd, 1) := by decide +kernel
theorem dL_law_704 : decode cL_law 704 = .ok (.iaload, 1) := by decide +kernel
theorem dL_law_705 : decode cL_law 705 = .ok (.aload_n 0, 1) := by decide +kernel
theorem dL_law_706 : decode cL_law 706 = .ok (.iload_n 3, 1) := by decide +kernel
theorem dL_law_707 : decode cL_law 707 = .ok (.iconst 4, 1) := by decide +kernel
theorem dL_law_708 : decode cL_law 708 = .ok (.iadd, 1) := by decide +kernel
theorem dL_law_709 : decode cL_law 709 = .ok (.iaload, 1) := by decide +kernel
theorem dL_law_710 : decode cL_law 710 = .ok (.aload_n 0, 1) := by decide +kernel
theorem dL_law_711 : decode cL_law 711 = .ok (.iload_n 3, 1) := by decide +kernel
theorem dL_law_712 : decode cL_law 712 = .ok (.iconst 5, 1) := by decide +kernel
theorem dL_law_713 : decode cL_law 713 = .ok (.iadd, 1) := by decide +kernel
theorem dL_law_714 : decode cL_law 714 = .ok (.iaload, 1) := by decide +kernel
theorem dL_law_715 : decode cL_law 715 = .ok (.invokevirtual 86, 3) := by decide +kernel
theorem dL_law_718 : decode cL_law 718 = .ok (.aload_n 2, 1) := by decide +kernel
theorem dL_law_719 : decode cL_law 719 = .ok (.aload_n 0, 1) := by decide +kernel
theorem dL_law_720 : decode cL_law 720 = .ok (.iload_n 3, 1) := by decide +kernel
theorem dL_law_721 : decode cL_law 721 = .ok (.iconst 1, 1) := by decide +kernel
theorem dL_law_722 : decode cL_law 722 = .ok (.iadd, 1) := by decide +kernel
theorem dL_law_723 : decode cL_law 723 = .ok (.iaload, 1) := by decide +kernel
theorem dL_law_724 : decode cL_law 724 = .ok (.aload_n 0, 1) := by decide +kernel
theorem dL_law_725 : decode cL_law 725 = .ok (.iload_n 3, 1) := by decide +kernel
theorem dL_law_726 : decode cL_law 726 = .ok (.iconst 2, 1) := by decide +kernel
theorem dL_law_727 : decode cL_law 727 = .ok (.iadd, 1) := by decide +kernel
theorem dL_law_728 : decode cL_law 728 = .ok (.iaload, 1) := by decide +kernel
theorem dL_law_729 : decode cL_law 729 = .ok (.aload_n 0, 1) := by decide +kernel
theorem dL_law_730 : decode cL_law 730 = .ok (.iload_n 3, 1) := by decide +kernel
theorem dL_law_731 : decode cL_law 731 = .ok (.iconst 3, 1) := by decide +kernel
theorem dL_law_732 : decode cL_law 732 = .ok (.iadd, 1) := by decide +kernel
theorem dL_law_733 : decode cL_law 733 = .ok (.iaload, 1) := by decide +kernel
theorem dL_law_734 : decode cL_law 734 = .ok (.aload_n 0, 1) := by decide +kernel
theorem dL_law_735 : decode cL_law 735 = .ok (.iload_n 3, 1) := by decide +kernel
theorem dL_law_736 : decode cL_law 736 = .ok (.iconst 4, 1) := by decide +kernel
theorem dL_law_737 : decode cL_law 737 = .ok (.iadd, 1) := by decide +kernel
theorem dL_law_738 : decode cL_law 738 = .ok (.iaload, 1) := by decide +kernel
theorem dL_law_739 : decode cL_law 739 = .ok (.aload_n 0, 1) := by decide +kernel
theorem dL_law_740 : decode cL_law 740 = .ok (.iload_n 3, 1) := by decide +kernel
theorem dL_law_741 : decode cL_law 741 = .ok (.iconst 5, 1) := by decide +kernel
theorem dL_law_742 : decode cL_law 742 = .ok (.iadd, 1) := by decide +kernel
theorem dL_law_743 : decode cL_law 743 = .ok (.iaload, 1) := by decide +kernel
theorem dL_law_744 : decode cL_law 744 = .ok (.invokevirtual 89, 3) := by decide +kernel
theorem dL_law_747 : decode cL_law 747 = .ok (.if_icmp .eq 577, 3) := by decide +kernel
theorem dL_law_750 : decode cL_law 750 = .ok (.iconst 0, 1) := by decide +kernel
theorem dL_law_751 : decode cL_law 751 = .ok (.ireturn, 1) := by decide +kernel
theorem dL_law_752 : decode cL_law 752 = .ok (.aload_n 1, 1) := by decide +kernel
theorem dL_law_753 : decode cL_law 753 = .ok (.aload_n 0, 1) := by decide +kernel
theorem dL_law_754 : decode cL_law 754 = .ok (.iload_n 3, 1) := by decide +kernel
theorem dL_law_755 : decode cL_law 755 = .ok (.iconst 1, 1) := by decide +kernel
theorem dL_law_756 : decode cL_law 756 = .ok (.iadd, 1) := by decide +kernel
theorem dL_law_757 : decode cL_law 757 = .ok (.iaload, 1) := by decide +kernel
theorem dL_law_758 : decode cL_law 758 = .ok (.aload_n 0, 1) := by decide +kernel
theorem dL_law_759 : decode cL_law 759 = .ok (.iload_n 3, 1) := by decide +kernel
theorem dL_law_760 : decode cL_law 760 = .ok (.iconst 2, 1) := by decide +kernel
theorem dL_law_761 : decode cL_law 761 = .ok (.iadd, 1) := by decide +kernel
theorem dL_law_762 : decode cL_law 762 = .ok (.iaload, 1) := by decide +kernel
theorem dL_law_763 : decode cL_law 763 = .ok (.aload_n 0, 1) := by decide +kernel
theorem dL_law_764 : decode cL_law 764 = .ok (.iload_n 3, 1) := by decide +kernel
theorem dL_law_765 : decode cL_law 765 = .ok (.iconst 3, 1) := by decide +kernel
theorem dL_law_766 : decode cL_law 766 = .ok (.iadd, 1) := by decide +kernel
theorem dL_law_767 : decode cL_law 767 = .ok (.iaload, 1) := by decide +kernel
theorem dL_law_768 : decode cL_law 768 = .ok (.aload_n 0, 1) := by decide +kernel
theorem dL_law_769 : decode cL_law 769 = .ok (.iload_n 3, 1) := by decide +kernel
theorem dL_law_770 : decode cL_law 770 = .ok (.iconst 4, 1) := by decide +kernel
theorem dL_law_771 : decode cL_law 771 = .ok (.iadd, 1) := by decide +kernel
theorem dL_law_772 : decode cL_law 772 = .ok (.iaload, 1) := by decide +kernel
theorem dL_law_773 : decode cL_law 773 = .ok (.invokevirtual 90, 3) := by decide +kernel
theorem dL_law_776 : decode cL_law 776 = .ok (.aload_n 2, 1) := by decide +kernel
theorem dL_law_777 : decode cL_law 777 = .ok (.aload_n 0, 1) := by decide +kernel
theorem dL_law_778 : decode cL_law 778 = .ok (.iload_n 3, 1) := by decide +kernel
theorem dL_law_779 : decode cL_law 779 = .ok (.iconst 1, 1) := by decide +kernel
theorem dL_law_780 : decode cL_law 780 = .ok (.iadd, 1) := by decide +kernel
theorem dL_law_781 : decode cL_law 781 = .ok (.iaload, 1) := by decide +kernel
theorem dL_law_782 : decode cL_law 782 = .ok (.aload_n 0, 1) := by decide +kernel
theorem dL_law_783 : decode cL_law 783 = .ok (.iload_n 3, 1) := by decide +kernel
theorem dL_law_784 : decode cL_law 784 = .ok (.iconst 2, 1) := by decide +kernel
theorem dL_law_785 : decode cL_law 785 = .ok (.iadd, 1) := by decide +kernel
theorem dL_law_786 : decode cL_law 786 = .ok (.iaload, 1) := by decide +kernel
theorem dL_law_787 : decode cL_law 787 = .ok (.aload_n 0, 1) := by decide +kernel
theorem dL_law_788 : decode cL_law 788 = .ok (.iload_n 3, 1) := by decide +kernel
theorem dL_law_789 : decode cL_law 789 = .ok (.iconst 3, 1) := by decide +kernel
theorem dL_law_790 : decode cL_law 790 = .ok (.iadd, 1) := by decide +kernel
theorem dL_law_791 : decode cL_law 791 = .ok (.iaload, 1) := by decide +kernel
theorem dL_law_792 : decode cL_law 792 = .ok (.aload_n 0, 1) := by decide +kernel
theorem dL_law_793 : decode cL_law 793 = .ok (.iload_n 3, 1) := by decide +kernel
theorem dL_law_794 : decode cL_law 794 = .ok (.iconst 4, 1) := by decide +kernel
theorem dL_law_795 : decode cL_law 795 = .ok (.iadd, 1) := by decide +kernel
theorem dL_law_796 : decode cL_law 796 = .ok (.iaload, 1) := by decide +kernel
theorem dL_law_797 : decode cL_law 797 = .ok (.invokevirtual 94, 3) := by decide +kernel
theorem dL_law_800 : decode cL_law 800 = .ok (.if_icmp .eq 524, 3) := by decide +kernel
theorem dL_law_803 : decode cL_law 803 = .ok (.iconst 0, 1) := by decide +kernel
theorem dL_law_804 : decode cL_law 804 = .ok (.ireturn, 1) := by decide +kernel
theorem dL_law_805 : decode cL_law 805 = .ok (.aload_n 1, 1) := by decide +kernel
theorem dL_law_806 : decode cL_law 806 = .ok (.aload_n 0, 1) := by decide +kernel
theorem dL_law_807 : decode cL_law 807 = .ok (.iload_n 3, 1) := by decide +kernel
theorem dL_law_808 : decode cL_law 808 = .ok (.iconst 1, 1) := by decide +kernel
theorem dL_law_809 : decode cL_law 809 = .ok (.iadd, 1) := by decide +kernel
theorem dL_law_810 : decode cL_law 810 = .ok (.iaload, 1) := by decide +kernel
theorem dL_law_811 : decode cL_law 811 = .ok (.aload_n 0, 1) := by decide +kernel
theorem dL_law_812 : decode cL_law 812 = .ok (.iload_n 3, 1) := by decide +kernel
theorem dL_law_813 : decode cL_law 813 = .ok (.iconst 2, 1) := by decide +kernel
theorem dL_law_814 : decode cL_law 814 = .ok (.iadd, 1) := by decide +kernel
theorem dL_law_815 : decode cL_law 815 = .ok (.iaload, 1) := by decide +kernel
theorem dL_law_816 : decode cL_law 816 = .ok (.aload_n 0, 1) := by decide +kernel
theorem dL_law_817 : decode cL_law 817 = .ok (.iload_n 3, 1) := by decide +kernel
theorem dL_law_818 : decode cL_law 818 = .ok (.iconst 3, 1) := by decide +kernel
theorem dL_law_819 : decode cL_law 819 = .ok (.iadd, 1) := by decide +kernel
theorem dL_law_820 : decode cL_law 820 = .ok (.iaload, 1) := by decide +kernel
theorem dL_law_821 : decode cL_law 821 = .ok (.invokevirtual 95, 3) := by decide +kernel
theorem dL_law_824 : decode cL_law 824 = .ok (.aload_n 2, 1) := by decide +kernel
theorem dL_law_825 : decode cL_law 825 = .ok (.aload_n 0, 1) := by decide +kernel
theorem dL_law_826 : decode cL_law 826 = .ok (.iload_n 3, 1) := by decide +kernel
theorem dL_law_827 : decode cL_law 827 = .ok (.iconst 1, 1) := by decide +kernel
theorem dL_law_828 : decode cL_law 828 = .ok (.iadd, 1) := by decide +kernel
theorem dL_law_829 : decode cL_law 829 = .ok (.iaload, 1) := by decide +kernel
theorem dL_law_830 : decode cL_law 830 = .ok (.aload_n 0, 1) := by decide +kernel
theorem dL_law_831 : decode cL_law 831 = .ok (.iload_n 3, 1) := by decide +kernel
theorem dL_law_832 : decode cL_law 832 = .ok (.iconst 2, 1) := by decide +kernel
theorem dL_law_833 : decode cL_law 833 = .ok (.iadd, 1) := by decide +kernel
theorem dL_law_834 : decode cL_law 834 = .ok (.iaload, 1) := by decide +kernel
theorem dL_law_835 : decode cL_law 835 = .ok (.aload_n 0, 1) := by decide +kernel
theorem dL_law_836 : decode cL_law 836 = .ok (.iload_n 3, 1) := by decide +kernel
theorem dL_law_837 : decode cL_law 837 = .ok (.iconst 3, 1) := by decide +kernel
theorem dL_law_838 : decode cL_law 838 = .ok (.iadd, 1) := by decide +kernel
theorem dL_law_839 : decode cL_law 839 = .ok (.iaload, 1) := by decide +kernel
theorem dL_law_840 : decode cL_law 840 = .ok (.invokevirtual 98, 3) := by decide +kernel
theorem dL_law_843 : decode cL_law 843 = .ok (.if_icmp .eq 481, 3) := by decide +kernel
theorem dL_law_846 : decode cL_law 846 = .ok (.iconst 0, 1) := by decide +kernel
theorem dL_law_847 : decode cL_law 847 = .ok (.ireturn, 1) := by decide +kernel
theorem dL_law_848 : decode cL_law 848 = .ok (.aload_n 1, 1) := by decide +kernel
theorem dL_law_849 : decode cL_law 849 = .ok (.aload_n 0, 1) := by decide +kernel
theorem dL_law_850 : decode cL_law 850 = .ok (.iload_n 3, 1) := by decide +kernel
theorem dL_law_851 : decode cL_law 851 = .ok (.iconst 1, 1) := by decide +kernel
theorem dL_law_852 : decode cL_law 852 = .ok (.iadd, 1) := by decide +kernel
theorem dL_law_853 : decode cL_law 853 = .ok (.iaload, 1) := by decide +kernel
theorem dL_law_854 : decode cL_law 854 = .ok (.aload_n 0, 1) := by decide +kernel
theorem dL_law_855 : decode cL_law 855 = .ok (.iload_n 3, 1) := by decide +kernel
theorem dL_law_856 : decode cL_law 856 = .ok (.iconst 2, 1) := by decide +kernel
theorem dL_law_857 : decode cL_law 857 = .ok (.iadd, 1) := by decide +kernel
theorem dL_law_858 : decode cL_law 858 = .ok (.iaload, 1) := by decide +kernel
theorem dL_law_859 : decode cL_law 859 = .ok (.aload_n 0, 1) := by decide +kernel
theorem dL_law_860 : decode cL_law 860 = .ok (.iload_n 3, 1) := by decide +kernel
theorem dL_law_861 : decode cL_law 861 = .ok (.iconst 3, 1) := by decide +kernel
theorem dL_law_862 : decode cL_law 862 = .ok (.iadd, 1) := by decide +kernel
theorem dL_law_863 : decode cL_law 863 = .ok (.iaload, 1) := by decide +kernel
theorem dL_law_864 : decode cL_law 864 = .ok (.invokevirtual 99, 3) := by decide +kernel
theorem dL_law_867 : decode cL_law 867 = .ok (.aload_n 2, 1) := by decide +kernel
theorem dL_law_868 : decode cL_law 868 = .ok (.aload_n 0, 1) := by decide +kernel
theorem dL_law_869 : decode cL_law 869 = .ok (.iload_n 3, 1) := by decide +kernel
theorem dL_law_870 : decode cL_law 870 = .ok (.iconst 1, 1) := by decide +kernel
theorem dL_law_871 : decode cL_law 871 = .ok (.iadd, 1) := by decide +kernel
theorem dL_law_872 : decode cL_law 872 = .ok (.iaload, 1) := by decide +kernel
theorem dL_law_873 : decode cL_law 873 = .ok (.aload_n 0, 1) := by decide +kernel
theorem dL_law_874 : decode cL_law 874 = .ok (.iload_n 3, 1) := by decide +kernel
theorem dL_law_875 : decode cL_law 875 = .ok (.iconst 2, 1) := by decide +kernel
theorem dL_law_876 : decode cL_law 876 = .ok (.iadd, 1) := by decide +kernel
theorem dL_law_877 : decode cL_law 877 = .ok (.iaload, 1) := by decide +kernel
theorem dL_law_878 : decode cL_law 878 = .ok (.aload_n 0, 1) := by decide +kernel
theorem dL_law_879 : decode cL_law 879 = .ok (.iload_n 3, 1) := by decide +kernel
theorem dL_law_880 : decode cL_law 880 = .ok (.iconst 3, 1) := by decide +kernel
theorem dL_law_881 : decode cL_law 881 = .ok (.iadd, 1) := by decide +kernel
theorem dL_law_882 : decode cL_law 882 = .ok (.iaload, 1) := by decide +kernel
theorem dL_law_883 : decode cL_law 883 = .ok (.invokevirtual 102, 3) := by decide +kernel
theorem dL_law_886 : decode cL_law 886 = .ok (.if_icmp .eq 438, 3) := by decide +kernel
theorem dL_law_889 : decode cL_law 889 = .ok (.iconst 0, 1) := by decide +kernel
theorem dL_law_890 : decode cL_law 890 = .ok (.ireturn, 1) := by decide +kernel
theorem dL_law_891 : decode cL_law 891 = .ok (.aload_n 1, 1) := by decide +kernel
theorem dL_law_892 : decode cL_law 892 = .ok (.aload_n 0, 1) := by decide +kernel
theorem dL_law_893 : decode cL_law 893 = .ok (.iload_n 3, 1) := by decide +kernel
theorem dL_law_894 : decode cL_law 894 = .ok (.iconst 1, 1) := by decide +kernel
theorem dL_law_895 : decode cL_law 895 = .ok (.iadd, 1) := by decide +kernel
theorem dL_law_896 : decode cL_law 896 = .ok (.iaload, 1) := by decide +kernel
theorem dL_law_897 : decode cL_law 897 = .ok (.aload_n 0, 1) := by decide +kernel
theorem dL_law_898 : decode cL_law 898 = .ok (.iload_n 3, 1) := by decide +kernel
theorem dL_law_899 : decode cL_law 899 = .ok (.iconst 2, 1) := by decide +kernel
theorem dL_law_900 : decode cL_law 900 = .ok (.iadd, 1) := by decide +kernel
theorem dL_law_901 : decode cL_law 901 = .ok (.iaload, 1) := by decide +kernel
theorem dL_law_902 : decode cL_law 902 = .ok (.aload_n 0, 1) := by decide +kernel
theorem dL_law_903 : decode cL_law 903 = .ok (.iload_n 3, 1) := by decide +kernel
theorem dL_law_904 : decode cL_law 904 = .ok (.iconst 3, 1) := by decide +kernel
theorem dL_law_905 : decode cL_law 905 = .ok (.iadd, 1) := by decide +kernel
theorem dL_law_906 : decode cL_law 906 = .ok (.iaload, 1) := by decide +kernel
theorem dL_law_907 : decode cL_law 907 = .ok (.aload_n 0, 1) := by decide +kernel
theorem dL_law_908 : decode cL_law 908 = .ok (.iload_n 3, 1) := by decide +kernel
theorem dL_law_909 : decode cL_law 909 = .ok (.iconst 4, 1) := by decide +kernel
theorem dL_law_910 : decode cL_law 910 = .ok (.iadd, 1) := by decide +kernel
theorem dL_law_911 : decode cL_law 911 = .ok (.iaload, 1) := by decide +kernel
theorem dL_law_912 : decode cL_law 912 = .ok (.invokevirtual 103, 3) := by decide +kernel
theorem dL_law_915 : decode cL_law 915 = .ok (.aload_n 2, 1) := by decide +kernel
theorem dL_law_916 : decode cL_law 916 = .ok (.aload_n 0, 1) := by decide +kernel
theorem dL_law_917 : decode cL_law 917 = .ok (.iload_n 3, 1) := by decide +kernel
theorem dL_law_918 : decode cL_law 918 = .ok (.iconst 1, 1) := by decide +kernel
theorem dL_law_919 : decode cL_law 919 = .ok (.iadd, 1) := by decide +kernel
theorem dL_law_920 : decode cL_law 920 = .ok (.iaload, 1) := by decide +kernel
theorem dL_law_921 : decode cL_law 921 = .ok (.aload_n 0, 1) := by decide +kernel
theorem dL_law_922 : decode cL_law 922 = .ok (.iload_n 3, 1) := by decide +kernel
theorem dL_law_923 : decode cL_law 923 = .ok (.iconst 2, 1) := by decide +kernel
theorem dL_law_924 : decode cL_law 924 = .ok (.iadd, 1) := by decide +kernel
theorem dL_law_925 : decode cL_law 925 = .ok (.iaload, 1) := by decide +kernel
theorem dL_law_926 : decode cL_law 926 = .ok (.aload_n 0, 1) := by decide +kernel
theorem dL_law_927 : decode cL_law 927 = .ok (.iload_n 3, 1) := by decide +kernel
theorem dL_law_928 : decode cL_law 928 = .ok (.iconst 3, 1) := by decide +kernel
theorem dL_law_929 : decode cL_law 929 = .ok (.iadd, 1) := by decide +kernel
theorem dL_law_930 : decode cL_law 930 = .ok (.iaload, 1) := by decide +kernel
theorem dL_law_931 : decode cL_law 931 = .ok (.aload_n 0, 1) := by decide +kernel
theorem dL_law_932 : decode cL_law 932 = .ok (.iload_n 3, 1) := by decide +kernel
theorem dL_law_933 : decode cL_law 933 = .ok (.iconst 4, 1) := by decide +kernel
theorem dL_law_934 : decode cL_law 934 = .ok (.iadd, 1) := by decide +kernel
theorem dL_law_935 : decode cL_law 935 = .ok (.iaload, 1) := by decide +kernel
theorem dL_law_936 : decode cL_law 936 = .ok (.invokevirtual 106, 3) := by decide +kernel
theorem dL_law_939 : decode cL_law 939 = .ok (.if_icmp .eq 385, 3) := by decide +kernel
theorem dL_law_942 : decode cL_law 942 = .ok (.iconst 0, 1) := by decide +kernel
theorem dL_law_943 : decode cL_law 943 = .ok (.ireturn, 1) := by decide +kernel
theorem dL_law_944 : decode cL_law 944 = .ok (.aload_n 1, 1) := by decide +kernel
theorem dL_law_945 : decode cL_law 945 = .ok (.aload_n 0, 1) := by decide +kernel
theorem dL_law_946 : decode cL_law 946 = .ok (.iload_n 3, 1) := by decide +kernel
theorem dL_law_947 : decode cL_law 947 = .ok (.iconst 1, 1) := by decide +kernel
theorem dL_law_948 : decode cL_law 948 = .ok (.iadd, 1) := by decide +kernel
theorem dL_law_949 : decode cL_law 949 = .ok (.iaload, 1) := by decide +kernel
theorem dL_law_950 : decode cL_law 950 = .ok (.aload_n 0, 1) := by decide +kernel
theorem dL_law_951 : decode cL_law 951 = .ok (.iload_n 3, 1) := by decide +kernel
theorem dL_law_952 : decode cL_law 952 = .ok (.iconst 2, 1) := by decide +kernel
theorem dL_law_953 : decode cL_law 953 = .ok (.iadd, 1) := by decide +kernel
theorem dL_law_954 : decode cL_law 954 = .ok (.iaload, 1) := by decide +kernel
theorem dL_law_955 : decode cL_law 955 = .ok (.aload_n 0, 1) := by decide +kernel
theorem dL_law_956 : decode cL_law 956 = .ok (.iload_n 3, 1) := by decide +kernel
theorem dL_law_957 : decode cL_law 957 = .ok (.iconst 3, 1) := by decide +kernel
theorem dL_law_958 : decode cL_law 958 = .ok (.iadd, 1) := by decide +kernel
theorem dL_law_959 : decode cL_law 959 = .ok (.iaload, 1) := by decide +kernel
theorem dL_law_960 : decode cL_law 960 = .ok (.invokevirtual 107, 3) := by decide +kernel
theorem dL_law_963 : decode cL_law 963 = .ok (.aload_n 2, 1) := by decide +kernel
theorem dL_law_964 : decode cL_law 964 = .ok (.aload_n 0, 1) := by decide +kernel
theorem dL_law_965 : decode cL_law 965 = .ok (.iload_n 3, 1) := by decide +kernel
theorem dL_law_966 : decode cL_law 966 = .ok (.iconst 1, 1) := by decide +kernel
theorem dL_law_967 : decode cL_law 967 = .ok (.iadd, 1) := by decide +kernel
theorem dL_law_968 : decode cL_law 968 = .ok (.iaload, 1) := by decide +kernel
theorem dL_law_969 : decode cL_law 969 = .ok (.aload_n 0, 1) := by decide +kernel
theorem dL_law_970 : decode cL_law 970 = .ok (.iload_n 3, 1) := by decide +kernel
theorem dL_law_971 : decode cL_law 971 = .ok (.iconst 2, 1) := by decide +kernel
theorem dL_law_972 : decode cL_law 972 = .ok (.iadd, 1) := by decide +kernel
theorem dL_law_973 : decode cL_law 973 = .ok (.iaload, 1) := by decide +kernel
theorem dL_law_974 : decode cL_law 974 = .ok (.aload_n 0, 1) := by decide +kernel
theorem dL_law_975 : decode cL_law 975 = .ok (.iload_n 3, 1) := by decide +kernel
theorem dL_law_976 : decode cL_law 976 = .ok (.iconst 3, 1) := by decide +kernel
theorem dL_law_977 : decode cL_law 977 = .ok (.iadd, 1) := by decide +kernel
theorem dL_law_978 : decode cL_law 978 = .ok (.iaload, 1) := by decide +kernel
theorem dL_law_979 : decode cL_law 979 = .ok (.invokevirtual 110, 3) := by decide +kernel
theorem dL_law_982 : decode cL_law 982 = .ok (.if_icmp .eq 342, 3) := by decide +kernel
theorem dL_law_985 : decode cL_law 985 = .ok (.iconst 0, 1) := by decide +kernel
theorem dL_law_986 : decode cL_law 986 = .ok (.ireturn, 1) := by decide +kernel
theorem dL_law_987 : decode cL_law 987 = .ok (.aload_n 1, 1) := by decide +kernel
theorem dL_law_988 : decode cL_law 988 = .ok (.aload_n 0, 1) := by decide +kernel
theorem dL_law_989 : decode cL_law 989 = .ok (.iload_n 3, 1) := by decide +kernel
theorem dL_law_990 : decode cL_law 990 = .ok (.iconst 1, 1) := by decide +kernel
theorem dL_law_991 : decode cL_law 991 = .ok (.iadd, 1) := by decide +kernel
theorem dL_law_992 : decode cL_law 992 = .ok (.iaload, 1) := by decide +kernel
theorem dL_law_993 : decode cL_law 993 = .ok (.aload_n 0, 1) := by decide +kernel
theorem dL_law_994 : decode cL_law 994 = .ok (.iload_n 3, 1) := by decide +kernel
theorem dL_law_995 : decode cL_law 995 = .ok (.iconst 2, 1) := by decide +kernel
theorem dL_law_996 : decode cL_law 996 = .ok (.iadd, 1) := by decide +kernel
theorem dL_law_997 : decode cL_law 997 = .ok (.iaload, 1) := by decide +kernel
theorem dL_law_998 : decode cL_law 998 = .ok (.invokevirtual 111, 3) := by decide +kernel
theorem dL_law_1001 : decode cL_law 1001 = .ok (.aload_n 2, 1) := by decide +kernel
theorem dL_law_1002 : decode cL_law 1002 = .ok (.aload_n 0, 1) := by decide +kernel
theorem dL_law_1003 : decode cL_law 1003 = .ok (.iload_n 3, 1) := by decide +kernel
theorem dL_law_1004 : decode cL_law 1004 = .ok (.iconst 1, 1) := by decide +kernel
theorem dL_law_1005 : decode cL_law 1005 = .ok (.iadd, 1) := by decide +kernel
theorem dL_law_1006 : decode cL_law 1006 = .ok (.iaload, 1) := by decide +kernel
theorem dL_law_1007 : decode cL_law 1007 = .ok (.aload_n 0, 1) := by decide +kernel
theorem dL_law_1008 : decode cL_law 1008 = .ok (.iload_n 3, 1) := by decide +kernel
theorem dL_law_1009 : decode cL_law 1009 = .ok (.iconst 2, 1) := by decide +kernel
theorem dL_law_1010 : decode cL_law 1010 = .ok (.iadd, 1) := by decide +kernel
theorem dL_law_1011 : decode cL_law 1011 = .ok (.iaload, 1) := by decide +kernel
theorem dL_law_1012 : decode cL_law 1012 = .ok (.invokevirtual 114, 3) := by decide +kernel
theorem dL_law_1015 : decode cL_law 1015 = .ok (.if_icmp .eq 309, 3) := by decide +kernel
theorem dL_law_1018 : decode cL_law 1018 = .ok (.iconst 0, 1) := by decide +kernel
theorem dL_law_1019 : decode cL_law 1019 = .ok (.ireturn, 1) := by decide +kernel
theorem dL_law_1020 : decode cL_law 1020 = .ok (.aload_n 1, 1) := by decide +kernel
theorem dL_law_1021 : decode cL_law 1021 = .ok (.aload_n 0, 1) := by decide +kernel
theorem dL_law_1022 : decode cL_law 1022 = .ok (.iload_n 3, 1) := by decide +kernel
theorem dL_law_1023 : decode cL_law 1023 = .ok (.iconst 1, 1) := by decide +kernel
theorem dL_law_1024 : decode cL_law 1024 = .ok (.iadd, 1) := by decide +kernel
theorem dL_law_1025 : decode cL_law 1025 = .ok (.iaload, 1) := by decide +kernel
theorem dL_law_1026 : decode cL_law 1026 = .ok (.invokevirtual 115, 3) := by decide +kernel
theorem dL_law_1029 : decode cL_law 1029 = .ok (.aload_n 2, 1) := by decide +kernel
theorem dL_law_1030 : decode cL_law 1030 = .ok (.aload_n 0, 1) := by decide +kernel
theorem dL_law_1031 : decode cL_law 1031 = .ok (.iload_n 3, 1) := by decide +kernel
theorem dL_law_1032 : decode cL_law 1032 = .ok (.iconst 1, 1) := by decide +kernel
theorem dL_law_1033 : decode cL_law 1033 = .ok (.iadd, 1) := by decide +kernel
theorem dL_law_1034 : decode cL_law 1034 = .ok (.iaload, 1) := by decide +kernel
theorem dL_law_1035 : decode cL_law 1035 = .ok (.invokevirtual 118, 3) := by decide +kernel
theorem dL_law_1038 : decode cL_law 1038 = .ok (.if_icmp .eq 286, 3) := by decide +kernel
theorem dL_law_1041 : decode cL_law 1041 = .ok (.iconst 0, 1) := by decide +kernel
theorem dL_law_1042 : decode cL_law 1042 = .ok (.ireturn, 1) := by decide +kernel
theorem dL_law_1043 : decode cL_law 1043 = .ok (.aload_n 1, 1) := by decide +kernel
theorem dL_law_1044 : decode cL_law 1044 = .ok (.aload_n 0, 1) := by decide +kernel
theorem dL_law_1045 : decode cL_law 1045 = .ok (.iload_n 3, 1) := by decide +kernel
theorem dL_law_1046 : decode cL_law 1046 = .ok (.iconst 1, 1) := by decide +kernel
theorem dL_law_1047 : decode cL_law 1047 = .ok (.iadd, 1) := by decide +kernel
theorem dL_law_1048 : decode cL_law 1048 = .ok (.iaload, 1) := by decide +kernel
theorem dL_law_1049 : decode cL_law 1049 = .ok (.aload_n 0, 1) := by decide +kernel
theorem dL_law_1050 : decode cL_law 1050 = .ok (.iload_n 3, 1) := by decide +kernel
theorem dL_law_1051 : decode cL_law 1051 = .ok (.iconst 2, 1) := by decide +kernel
theorem dL_law_1052 : decode cL_law 1052 = .ok (.iadd, 1) := by decide +kernel
theorem dL_law_1053 : decode cL_law 1053 = .ok (.iaload, 1) := by decide +kernel
theorem dL_law_1054 : decode cL_law 1054 = .ok (.aload_n 0, 1) := by decide +kernel
theorem dL_law_1055 : decode cL_law 1055 = .ok (.iload_n 3, 1) := by decide +kernel
theorem dL_law_1056 : decode cL_law 1056 = .ok (.iconst 3, 1) := by decide +kernel
theorem dL_law_1057 : decode cL_law 1057 = .ok (.iadd, 1) := by decide +kernel
theorem dL_law_1058 : decode cL_law 1058 = .ok (.iaload, 1) := by decide +kernel
theorem dL_law_1059 : decode cL_law 1059 = .ok (.invokevirtual 119, 3) := by decide +kernel
theorem dL_law_1062 : decode cL_law 1062 = .ok (.aload_n 2, 1) := by decide +kernel
theorem dL_law_1063 : decode cL_law 1063 = .ok (.aload_n 0, 1) := by decide +kernel
theorem dL_law_1064 : decode cL_law 1064 = .ok (.iload_n 3, 1) := by decide +kernel
theorem dL_law_1065 : decode cL_law 1065 = .ok (.iconst 1, 1) := by decide +kernel
theorem dL_law_1066 : decode cL_law 1066 = .ok (.iadd, 1) := by decide +kernel
theorem dL_law_1067 : decode cL_law 1067 = .ok (.iaload, 1) := by decide +kernel
theorem dL_law_1068 : decode cL_law 1068 = .ok (.aload_n 0, 1) := by decide +kernel
theorem dL_law_1069 : decode cL_law 1069 = .ok (.iload_n 3, 1) := by decide +kernel
theorem dL_law_1070 : decode cL_law 1070 = .ok (.iconst 2, 1) := by decide +kernel
theorem dL_law_1071 : decode cL_law 1071 = .ok (.iadd, 1) := by decide +kernel
theorem dL_law_1072 : decode cL_law 1072 = .ok (.iaload, 1) := by decide +kernel
theorem dL_law_1073 : decode cL_law 1073 = .ok (.aload_n 0, 1) := by decide +kernel
theorem dL_law_1074 : decode cL_law 1074 = .ok (.iload_n 3, 1) := by decide +kernel
theorem dL_law_1075 : decode cL_law 1075 = .ok (.iconst 3, 1) := by decide +kernel
theorem dL_law_1076 : decode cL_law 1076 = .ok (.iadd, 1) := by decide +kernel
theorem dL_law_1077 : decode cL_law 1077 = .ok (.iaload, 1) := by decide +kernel
theorem dL_law_1078 : decode cL_law 1078 = .ok (.invokevirtual 123, 3) := by decide +kernel
theorem dL_law_1081 : decode cL_law 1081 = .ok (.lcmp, 1) := by decide +kernel
theorem dL_law_1082 : decode cL_law 1082 = .ok (.ifCond .eq 242, 3) := by decide +kernel
theorem dL_law_1085 : decode cL_law 1085 = .ok (.iconst 0, 1) := by decide +kernel
theorem dL_law_1086 : decode cL_law 1086 = .ok (.ireturn, 1) := by decide +kernel
theorem dL_law_1087 : decode cL_law 1087 = .ok (.aload_n 1, 1) := by decide +kernel
theorem dL_law_1088 : decode cL_law 1088 = .ok (.aload_n 0, 1) := by decide +kernel
theorem dL_law_1089 : decode cL_law 1089 = .ok (.iload_n 3, 1) := by decide +kernel
theorem dL_law_1090 : decode cL_law 1090 = .ok (.iconst 1, 1) := by decide +kernel
theorem dL_law_1091 : decode cL_law 1091 = .ok (.iadd, 1) := by decide +kernel
theorem dL_law_1092 : decode cL_law 1092 = .ok (.iaload, 1) := by decide +kernel
theorem dL_law_1093 : decode cL_law 1093 = .ok (.aload_n 0, 1) := by decide +kernel
theorem dL_law_1094 : decode cL_law 1094 = .ok (.iload_n 3, 1) := by decide +kernel
theorem dL_law_1095 : decode cL_law 1095 = .ok (.iconst 2, 1) := by decide +kernel
theorem dL_law_1096 : decode cL_law 1096 = .ok (.iadd, 1) := by decide +kernel
theorem dL_law_1097 : decode cL_law 1097 = .ok (.iaload, 1) := by decide +kernel
theorem dL_law_1098 : decode cL_law 1098 = .ok (.aload_n 0, 1) := by decide +kernel
theorem dL_law_1099 : decode cL_law 1099 = .ok (.iload_n 3, 1) := by decide +kernel
theorem dL_law_1100 : decode cL_law 1100 = .ok (.iconst 3, 1) := by decide +kernel
theorem dL_law_1101 : decode cL_law 1101 = .ok (.iadd, 1) := by decide +kernel
theorem dL_law_1102 : decode cL_law 1102 = .ok (.iaload, 1) := by decide +kernel
theorem dL_law_1103 : decode cL_law 1103 = .ok (.invokevirtual 124, 3) := by decide +kernel
theorem dL_law_1106 : decode cL_law 1106 = .ok (.aload_n 2, 1) := by decide +kernel
theorem dL_law_1107 : decode cL_law 1107 = .ok (.aload_n 0, 1) := by decide +kernel
theorem dL_law_1108 : decode cL_law 1108 = .ok (.iload_n 3, 1) := by decide +kernel
theorem dL_law_1109 : decode cL_law 1109 = .ok (.iconst 1, 1) := by decide +kernel
theorem dL_law_1110 : decode cL_law 1110 = .ok (.iadd, 1) := by decide +kernel
theorem dL_law_1111 : decode cL_law 1111 = .ok (.iaload, 1) := by decide +kernel
theorem dL_law_1112 : decode cL_law 1112 = .ok (.aload_n 0, 1) := by decide +kernel
theorem dL_law_1113 : decode cL_law 1113 = .ok (.iload_n 3, 1) := by decide +kernel
theorem dL_law_1114 : decode cL_law 1114 = .ok (.iconst 2, 1) := by decide +kernel
theorem dL_law_1115 : decode cL_law 1115 = .ok (.iadd, 1) := by decide +kernel
theorem dL_law_1116 : decode cL_law 1116 = .ok (.iaload, 1) := by decide +kernel
theorem dL_law_1117 : decode cL_law 1117 = .ok (.aload_n 0, 1) := by decide +kernel
theorem dL_law_1118 : decode cL_law 1118 = .ok (.iload_n 3, 1) := by decide +kernel
theorem dL_law_1119 : decode cL_law 1119 = .ok (.iconst 3, 1) := by decide +kernel
theorem dL_law_1120 : decode cL_law 1120 = .ok (.iadd, 1) := by decide +kernel
theorem dL_law_1121 : decode cL_law 1121 = .ok (.iaload, 1) := by decide +kernel
theorem dL_law_1122 : decode cL_law 1122 = .ok (.invokevirtual 127, 3) := by decide +kernel
theorem dL_law_1125 : decode cL_law 1125 = .ok (.if_icmp .eq 199, 3) := by decide +kernel
theorem dL_law_1128 : decode cL_law 1128 = .ok (.iconst 0, 1) := by decide +kernel
theorem dL_law_1129 : decode cL_law 1129 = .ok (.ireturn, 1) := by decide +kernel
theorem dL_law_1130 : decode cL_law 1130 = .ok (.aload_n 1, 1) := by decide +kernel
theorem dL_law_1131 : decode cL_law 1131 = .ok (.aload_n 0, 1) := by decide +kernel
theorem dL_law_1132 : decode cL_law 1132 = .ok (.iload_n 3, 1) := by decide +kernel
theorem dL_law_1133 : decode cL_law 1133 = .ok (.iconst 1, 1) := by decide +kernel
theorem dL_law_1134 : decode cL_law 1134 = .ok (.iadd, 1) := by decide +kernel
theorem dL_law_1135 : decode cL_law 1135 = .ok (.iaload, 1) := by decide +kernel
theorem dL_law_1136 : decode cL_law 1136 = .ok (.invokevirtual 128, 3) := by decide +kernel
theorem dL_law_1139 : decode cL_law 1139 = .ok (.aload_n 2, 1) := by decide +kernel
theorem dL_law_1140 : decode cL_law 1140 = .ok (.aload_n 0, 1) := by decide +kernel
theorem dL_law_1141 : decode cL_law 1141 = .ok (.iload_n 3, 1) := by decide +kernel
theorem dL_law_1142 : decode cL_law 1142 = .ok (.iconst 1, 1) := by decide +kernel
theorem dL_law_1143 : decode cL_law 1143 = .ok (.iadd, 1) := by decide +kernel
theorem dL_law_1144 : decode cL_law 1144 = .ok (.iaload, 1) := by decide +kernel
theorem dL_law_1145 : decode cL_law 1145 = .ok (.invokevirtual 131, 3) := by decide +kernel
theorem dL_law_1148 : decode cL_law 1148 = .ok (.if_icmp .eq 176, 3) := by decide +kernel
theorem dL_law_1151 : decode cL_law 1151 = .ok (.iconst 0, 1) := by decide +kernel
theorem dL_law_1152 : decode cL_law 1152 = .ok (.ireturn, 1) := by decide +kernel
theorem dL_law_1153 : decode cL_law 1153 = .ok (.aload_n 1, 1) := by decide +kernel
theorem dL_law_1154 : decode cL_law 1154 = .ok (.aload_n 0, 1) := by decide +kernel
theorem dL_law_1155 : decode cL_law 1155 = .ok (.iload_n 3, 1) := by decide +kernel
theorem dL_law_1156 : decode cL_law 1156 = .ok (.iconst 1, 1) := by decide +kernel
theorem dL_law_1157 : decode cL_law 1157 = .ok (.iadd, 1) := by decide +kernel
theorem dL_law_1158 : decode cL_law 1158 = .ok (.iaload, 1) := by decide +kernel
theorem dL_law_1159 : decode cL_law 1159 = .ok (.invokevirtual 132, 3) := by decide +kernel
theorem dL_law_1162 : decode cL_law 1162 = .ok (.aload_n 2, 1) := by decide +kernel
theorem dL_law_1163 : decode cL_law 1163 = .ok (.aload_n 0, 1) := by decide +kernel
theorem dL_law_1164 : decode cL_law 1164 = .ok (.iload_n 3, 1) := by decide +kernel
theorem dL_law_1165 : decode cL_law 1165 = .ok (.iconst 1, 1) := by decide +kernel
theorem dL_law_1166 : decode cL_law 1166 = .ok (.iadd, 1) := by decide +kernel
theorem dL_law_1167 : decode cL_law 1167 = .ok (.iaload, 1) := by decide +kernel
theorem dL_law_1168 : decode cL_law 1168 = .ok (.invokevirtual 135, 3) := by decide +kernel
theorem dL_law_1171 : decode cL_law 1171 = .ok (.if_icmp .eq 153, 3) := by decide +kernel
theorem dL_law_1174 : decode cL_law 1174 = .ok (.iconst 0, 1) := by decide +kernel
theorem dL_law_1175 : decode cL_law 1175 = .ok (.ireturn, 1) := by decide +kernel
theorem dL_law_1176 : decode cL_law 1176 = .ok (.aload_n 1, 1) := by decide +kernel
theorem dL_law_1177 : decode cL_law 1177 = .ok (.aload_n 0, 1) := by decide +kernel
theorem dL_law_1178 : decode cL_law 1178 = .ok (.iload_n 3, 1) := by decide +kernel
theorem dL_law_1179 : decode cL_law 1179 = .ok (.iconst 1, 1) := by decide +kernel
theorem dL_law_1180 : decode cL_law 1180 = .ok (.iadd, 1) := by decide +kernel
theorem dL_law_1181 : decode cL_law 1181 = .ok (.iaload, 1) := by decide +kernel
theorem dL_law_1182 : decode cL_law 1182 = .ok (.invokevirtual 136, 3) := by decide +kernel
theorem dL_law_1185 : decode cL_law 1185 = .ok (.aload_n 2, 1) := by decide +kernel
theorem dL_law_1186 : decode cL_law 1186 = .ok (.aload_n 0, 1) := by decide +kernel
theorem dL_law_1187 : decode cL_law 1187 = .ok (.iload_n 3, 1) := by decide +kernel
theorem dL_law_1188 : decode cL_law 1188 = .ok (.iconst 1, 1) := by decide +kernel
theorem dL_law_1189 : decode cL_law 1189 = .ok (.iadd, 1) := by decide +kernel
theorem dL_law_1190 : decode cL_law 1190 = .ok (.iaload, 1) := by decide +kernel
theorem dL_law_1191 : decode cL_law 1191 = .ok (.invokevirtual 139, 3) := by decide +kernel
theorem dL_law_1194 : decode cL_law 1194 = .ok (.if_icmp .eq 130, 3) := by decide +kernel
theorem dL_law_1197 : decode cL_law 1197 = .ok (.iconst 0, 1) := by decide +kernel
theorem dL_law_1198 : decode cL_law 1198 = .ok (.ireturn, 1) := by decide +kernel
theorem dL_law_1199 : decode cL_law 1199 = .ok (.aload_n 1, 1) := by decide +kernel
theorem dL_law_1200 : decode cL_law 1200 = .ok (.aload_n 0, 1) := by decide +kernel
theorem dL_law_1201 : decode cL_law 1201 = .ok (.iload_n 3, 1) := by decide +kernel
theorem dL_law_1202 : decode cL_law 1202 = .ok (.iconst 1, 1) := by decide +kernel
theorem dL_law_1203 : decode cL_law 1203 = .ok (.iadd, 1) := by decide +kernel
theorem dL_law_1204 : decode cL_law 1204 = .ok (.iaload, 1) := by decide +kernel
theorem dL_law_1205 : decode cL_law 1205 = .ok (.aload_n 0, 1) := by decide +kernel
theorem dL_law_1206 : decode cL_law 1206 = .ok (.iload_n 3, 1) := by decide +kernel
theorem dL_law_1207 : decode cL_law 1207 = .ok (.iconst 2, 1) := by decide +kernel
theorem dL_law_1208 : decode cL_law 1208 = .ok (.iadd, 1) := by decide +kernel
theorem dL_law_1209 : decode cL_law 1209 = .ok (.iaload, 1) := by decide +kernel
theorem dL_law_1210 : decode cL_law 1210 = .ok (.invokevirtual 140, 3) := by decide +kernel
theorem dL_law_1213 : decode cL_law 1213 = .ok (.aload_n 2, 1) := by decide +kernel
theorem dL_law_1214 : decode cL_law 1214 = .ok (.aload_n 0, 1) := by decide +kernel
theorem dL_law_1215 : decode cL_law 1215 = .ok (.iload_n 3, 1) := by decide +kernel
theorem dL_law_1216 : decode cL_law 1216 = .ok (.iconst 1, 1) := by decide +kernel
theorem dL_law_1217 : decode cL_law 1217 = .ok (.iadd, 1) := by decide +kernel
theorem dL_law_1218 : decode cL_law 1218 = .ok (.iaload, 1) := by decide +kernel
theorem dL_law_1219 : decode cL_law 1219 = .ok (.aload_n 0, 1) := by decide +kernel
theorem dL_law_1220 : decode cL_law 1220 = .ok (.iload_n 3, 1) := by decide +kernel
theorem dL_law_1221 : decode cL_law 1221 = .ok (.iconst 2, 1) := by decide +kernel
theorem dL_law_1222 : decode cL_law 1222 = .ok (.iadd, 1) := by decide +kernel
theorem dL_law_1223 : decode cL_law 1223 = .ok (.iaload, 1) := by decide +kernel
theorem dL_law_1224 : decode cL_law 1224 = .ok (.invokevirtual 143, 3) := by decide +kernel
theorem dL_law_1227 : decode cL_law 1227 = .ok (.if_icmp .eq 97, 3) := by decide +kernel
theorem dL_law_1230 : decode cL_law 1230 = .ok (.iconst 0, 1) := by decide +kernel
theorem dL_law_1231 : decode cL_law 1231 = .ok (.ireturn, 1) := by decide +kernel
theorem dL_law_1232 : decode cL_law 1232 = .ok (.aload_n 1, 1) := by decide +kernel
theorem dL_law_1233 : decode cL_law 1233 = .ok (.aload_n 0, 1) := by decide +kernel
theorem dL_law_1234 : decode cL_law 1234 = .ok (.iload_n 3, 1) := by decide +kernel
theorem dL_law_1235 : decode cL_law 1235 = .ok (.iconst 1, 1) := by decide +kernel
theorem dL_law_1236 : decode cL_law 1236 = .ok (.iadd, 1) := by decide +kernel
theorem dL_law_1237 : decode cL_law 1237 = .ok (.iaload, 1) := by decide +kernel
theorem dL_law_1238 : decode cL_law 1238 = .ok (.aload_n 0, 1) := by decide +kernel
theorem dL_law_1239 : decode cL_law 1239 = .ok (.iload_n 3, 1) := by decide +kernel
theorem dL_law_1240 : decode cL_law 1240 = .ok (.iconst 2, 1) := by decide +kernel
theorem dL_law_1241 : decode cL_law 1241 = .ok (.iadd, 1) := by decide +kernel
theorem dL_law_1242 : decode cL_law 1242 = .ok (.iaload, 1) := by decide +kernel
theorem dL_law_1243 : decode cL_law 1243 = .ok (.invokevirtual 144, 3) := by decide +kernel
theorem dL_law_1246 : decode cL_law 1246 = .ok (.aload_n 2, 1) := by decide +kernel
theorem dL_law_1247 : decode cL_law 1247 = .ok (.aload_n 0, 1) := by decide +kernel
theorem dL_law_1248 : decode cL_law 1248 = .ok (.iload_n 3, 1) := by decide +kernel
theorem dL_law_1249 : decode cL_law 1249 = .ok (.iconst 1, 1) := by decide +kernel
theorem dL_law_1250 : decode cL_law 1250 = .ok (.iadd, 1) := by decide +kernel
theorem dL_law_1251 : decode cL_law 1251 = .ok (.iaload, 1) := by decide +kernel
theorem dL_law_1252 : decode cL_law 1252 = .ok (.aload_n 0, 1) := by decide +kernel
theorem dL_law_1253 : decode cL_law 1253 = .ok (.iload_n 3, 1) := by decide +kernel
theorem dL_law_1254 : decode cL_law 1254 = .ok (.iconst 2, 1) := by decide +kernel
theorem dL_law_1255 : decode cL_law 1255 = .ok (.iadd, 1) := by decide +kernel
theorem dL_law_1256 : decode cL_law 1256 = .ok (.iaload, 1) := by decide +kernel
theorem dL_law_1257 : decode cL_law 1257 = .ok (.invokevirtual 147, 3) := by decide +kernel
theorem dL_law_1260 : decode cL_law 1260 = .ok (.if_icmp .eq 64, 3) := by decide +kernel
theorem dL_law_1263 : decode cL_law 1263 = .ok (.iconst 0, 1) := by decide +kernel
theorem dL_law_1264 : decode cL_law 1264 = .ok (.ireturn, 1) := by decide +kernel
theorem dL_law_1265 : decode cL_law 1265 = .ok (.aload_n 1, 1) := by decide +kernel
theorem dL_law_1266 : decode cL_law 1266 = .ok (.aload_n 0, 1) := by decide +kernel
theorem dL_law_1267 : decode cL_law 1267 = .ok (.iload_n 3, 1) := by decide +kernel
theorem dL_law_1268 : decode cL_law 1268 = .ok (.iconst 1, 1) := by decide +kernel
theorem dL_law_1269 : decode cL_law 1269 = .ok (.iadd, 1) := by decide +kernel
theorem dL_law_1270 : decode cL_law 1270 = .ok (.iaload, 1) := by decide +kernel
theorem dL_law_1271 : decode cL_law 1271 = .ok (.invokevirtual 148, 3) := by decide +kernel
theorem dL_law_1274 : decode cL_law 1274 = .ok (.aload_n 2, 1) := by decide +kernel
theorem dL_law_1275 : decode cL_law 1275 = .ok (.aload_n 0, 1) := by decide +kernel
theorem dL_law_1276 : decode cL_law 1276 = .ok (.iload_n 3, 1) := by decide +kernel
theorem dL_law_1277 : decode cL_law 1277 = .ok (.iconst 1, 1) := by decide +kernel
theorem dL_law_1278 : decode cL_law 1278 = .ok (.iadd, 1) := by decide +kernel
theorem dL_law_1279 : decode cL_law 1279 = .ok (.iaload, 1) := by decide +kernel
theorem dL_law_1280 : decode cL_law 1280 = .ok (.invokevirtual 151, 3) := by decide +kernel
theorem dL_law_1283 : decode cL_law 1283 = .ok (.if_icmp .eq 41, 3) := by decide +kernel
theorem dL_law_1286 : decode cL_law 1286 = .ok (.iconst 0, 1) := by decide +kernel
theorem dL_law_1287 : decode cL_law 1287 = .ok (.ireturn, 1) := by decide +kernel
theorem dL_law_1288 : decode cL_law 1288 = .ok (.aload_n 1, 1) := by decide +kernel
theorem dL_law_1289 : decode cL_law 1289 = .ok (.aload_n 0, 1) := by decide +kernel
theorem dL_law_1290 : decode cL_law 1290 = .ok (.iload_n 3, 1) := by decide +kernel
theorem dL_law_1291 : decode cL_law 1291 = .ok (.iconst 1, 1) := by decide +kernel
theorem dL_law_1292 : decode cL_law 1292 = .ok (.iadd, 1) := by decide +kernel
theorem dL_law_1293 : decode cL_law 1293 = .ok (.iaload, 1) := by decide +kernel
theorem dL_law_1294 : decode cL_law 1294 = .ok (.invokevirtual 152, 3) := by decide +kernel
theorem dL_law_1297 : decode cL_law 1297 = .ok (.aload_n 2, 1) := by decide +kernel
theorem dL_law_1298 : decode cL_law 1298 = .ok (.aload_n 0, 1) := by decide +kernel
theorem dL_law_1299 : decode cL_law 1299 = .ok (.iload_n 3, 1) := by decide +kernel
theorem dL_law_1300 : decode cL_law 1300 = .ok (.iconst 1, 1) := by decide +kernel
theorem dL_law_1301 : decode cL_law 1301 = .ok (.iadd, 1) := by decide +kernel
theorem dL_law_1302 : decode cL_law 1302 = .ok (.iaload, 1) := by decide +kernel
theorem dL_law_1303 : decode cL_law 1303 = .ok (.invokevirtual 155, 3) := by decide +kernel
theorem dL_law_1306 : decode cL_law 1306 = .ok (.if_icmp .eq 18, 3) := by decide +kernel
theorem dL_law_1309 : decode cL_law 1309 = .ok (.iconst 0, 1) := by decide +kernel
theorem dL_law_1310 : decode cL_law 1310 = .ok (.ireturn, 1) := by decide +kernel
theorem dL_law_1311 : decode cL_law 1311 = .ok (.aload_n 1, 1) := by decide +kernel
theorem dL_law_1312 : decode cL_law 1312 = .ok (.invokevirtual 156, 3) := by decide +kernel
theorem dL_law_1315 : decode cL_law 1315 = .ok (.aload_n 2, 1) := by decide +kernel
theorem dL_law_1316 : decode cL_law 1316 = .ok (.invokevirtual 159, 3) := by decide +kernel
theorem dL_law_1319 : decode cL_law 1319 = .ok (.if_icmp .eq 5, 3) := by decide +kernel
theorem dL_law_1322 : decode cL_law 1322 = .ok (.iconst 0, 1) := by decide +kernel
theorem dL_law_1323 : decode cL_law 1323 = .ok (.ireturn, 1) := by decide +kernel
theorem dL_law_1324 : decode cL_law 1324 = .ok (.iinc 3 6, 3) := by decide +kernel
theorem dL_law_1327 : decode cL_law 1327 = .ok (.goto (-1309), 3) := by decide +kernel
theorem dL_law_1330 : decode cL_law 1330 = .ok (.iconst 1, 1) := by decide +kernel
theorem dL_law_1331 : decode cL_law 1331 = .ok (.ireturn, 1) := by decide +kernel
end
section
/-- those of the tables' words that hold in every callee -/
def gt : List Cond := lw_tbl.filter (fun w => k2_isCode w || goodWord w)
abbrev Sto : Type := Nat → Nat → Int32
abbrev Stl : Type := Nat → Int64
/-- launch, the cells' addresses, the classes' numbers, the array classes -/
abbrev EE : Type := Launch × (Nat → Nat) × va_G × ClassId × ClassId
/-- the machine's own: program, environment, start, method, arguments, frames below, method, code, cells, slots, end -/
abbrev XX : Type := Program × Env × State × MethodId × Array Value × List Frame × Method × Code × Nat × Nat × (State → Prop)
def kdl : List Nat := [6,3,8,8,8,5,8, 1,8,8,8,8,8,8, 2,8, 4, 1,8,8,8,8,8,8, 0,8, 1,8,8,8,8,8,8, 1,8,8,8,8,8,8, 7,8,8,8,8,8,8,8,8,8,9,8,8]
def lnl : List Nat := [10,3,320,8,8,5,120, 14,8,8,5,5,5,6, 3,312, 5, 14,8,8,5,5,5,6, 2,16, 14,8,8,5,5,5,6, 14,8,8,5,5,5,6, 23,8,8,320,52,40,120,52,1248,52,2,104,16]
/-- a cell's kind: 0 to 7 a class's object, 8 ints, 9 booleans -/
def kd (k : Nat) : Nat := kdl.getD k 10
def ln (k : Nat) : Nat := lnl.getD k 0
abbrev cls : List vw_C := [(RX0, TX0, 2), (RX1, TX1, 14), (RX2, TX2, 3), (RX3, TX3, 3), (RX4, TX4, 5), (RX5, TX5, 5), (RX6, TX6, 10), (RX7, TX7, 23)]
def fldsOf (E : EE) (σ : Sto) (τ : Stl) (k : Nat) : Nat → List Value
  | 0 => [.ref (E.2.1 (k+1)), .int (σ k 1)]
  | 1 => [.int (σ k 0), .int (σ k 1), .int (σ k 2), .int (σ k 3), .int (σ k 4), .int (σ k 5), .int (σ k 6), .int (σ k 7), .ref (E.2.1 (k+1)), .ref (E.2.1 (k+2)), .ref (E.2.1 (k+3)), .ref (E.2.1 (k+4)), .ref (E.2.1 (k+5)), .ref (E.2.1 (k+6))]
  | 2 => [.ref (E.2.1 (k+1)), .int (σ k 1), .int (σ k 2)]
  | 3 => [.ref (E.2.1 (k+1)), .ref (E.2.1 (k+2)), .ref (E.2.1 (k+3))]
  | 4 => [.ref (E.2.1 (k+1)), .int (σ k 1), .int (σ k 2), .long (τ 0), .long (τ 1)]
  | 5 => [.ref (E.2.1 (k+1)), .int (σ k 1), .int (σ k 2), .int (σ k 3), .int (σ k 4)]
  | 6 => [.ref (E.2.1 (k+1)), .ref (E.2.1 (k+5)), .ref (E.2.1 (k+7)), .ref (E.2.1 (k+14)), .ref (E.2.1 (k+16)), .ref (E.2.1 (k+24)), .ref (E.2.1 (k+26)), .ref (E.2.1 (k+33)), .int (σ k 8), .int (σ k 9)]
  | _ => [.ref (E.2.1 (k+1)), .ref (E.2.1 (k+2)), .ref (E.2.1 (k+3)), .int (σ k 3), .int (σ k 4), .ref (E.2.1 (k+4)), .ref (E.2.1 (k+5)), .ref (E.2.1 (k+6)), .int (σ k 8), .int (σ k 9), .int (σ k 10), .int (σ k 11), .int (σ k 12), .int (σ k 13), .int (σ k 14), .ref (E.2.1 (k+7)), .ref (E.2.1 (k+8)), .int (σ k 17), .ref (E.2.1 (k+9)), .ref (E.2.1 (k+10)), .ref (E.2.1 (k+11)), .ref (E.2.1 (k+12)), .int (σ k 22)]
def ent (E : EE) (σ : Sto) (τ : Stl) (k : Nat) : va_E := if kd k = 8 then .inl (E.2.2.2.1, ln k, .inl (σ k)) else if kd k < 8 then .inr (kd k, fldsOf E σ τ k (kd k)) else .inl (E.2.2.2.2, ln k, .inl (σ k))
def wr (E : EE) (lo n : Nat) (σ : Sto) (τ : Stl) : va_W := (List.range' lo n).map (fun k => (E.2.1 k, ent E σ τ k))
def AA (E : EE) (lo n : Nat) : Nat → Prop := fun q => ∃ k, lo ≤ k ∧ k < lo + n ∧ q = E.2.1 k
def inj (E : EE) (lo n : Nat) : Prop := ∀ i j, lo ≤ i → i < lo + n → lo ≤ j → j < lo + n → E.2.1 i = E.2.1 j → i = j
abbrev tyl (E : EE) : List (ClassId × FieldType) := [(E.2.2.2.1, FieldType.int), (E.2.2.2.2, FieldType.boolean)]
theorem ent_obj {E : EE} {σ : Sto} {τ : Stl} {k c : Nat} (h : kd k = c) (hc : c < 8) : ent E σ τ k = .inr (c, fldsOf E σ τ k c) := by
  subst h
  unfold ent
  rw [if_neg (by omega), if_pos hc]
theorem ent_int {E : EE} {σ : Sto} {τ : Stl} {k : Nat} (h : kd k = 8) : ent E σ τ k = .inl (E.2.2.2.1, ln k, .inl (σ k)) := by
  unfold ent
  rw [if_pos h]
theorem ent_bool {E : EE} {σ : Sto} {τ : Stl} {k : Nat} (h : kd k = 9) : ent E σ τ k = .inl (E.2.2.2.2, ln k, .inl (σ k)) := by
  unfold ent
  rw [if_neg (by omega), if_neg (by omega)]
theorem wr_get {E : EE} {lo n : Nat} {σ : Sto} {τ : Stl} {k : Nat} (h1 : lo ≤ k) (h2 : k < lo + n) : (wr E lo n σ τ)[k - lo]? = some (E.2.1 k, ent E σ τ k) := by
  have h3 : (List.range' lo n)[k - lo]? = some k := by
    rw [List.getElem?_range' (by omega)]
    congr 1
    omega
  unfold wr
  rw [List.getElem?_map, h3]
  rfl
theorem wr_at {E : EE} {lo n : Nat} {σ : Sto} {τ : Stl} {i : Nat} {q : Nat × va_E} (h : (wr E lo n σ τ)[i]? = some q) : i < n ∧ q = (E.2.1 (lo + i), ent E σ τ (lo + i)) := by
  have hi : i < n := by
    have := (List.getElem?_eq_some_iff.mp h).1
    simpa [wr] using this
  have := wr_get (E := E) (σ := σ) (τ := τ) (show lo ≤ lo + i by omega) (show lo + i < lo + n by omega)
  rw [show lo + i - lo = i by omega, h] at this
  exact ⟨hi, Option.some.inj this⟩
theorem wr_D {E : EE} {lo n : Nat} {σ : Sto} {τ : Stl} (h : inj E lo n) : va_D (AA E lo n) (wr E lo n σ τ) := by
  refine ⟨fun i j p q hi hj hpq => ?_, fun k q hk => ?_⟩
  · obtain ⟨a1, a2⟩ := wr_at hi
    obtain ⟨b1, b2⟩ := wr_at hj
    rw [a2, b2] at hpq
    have := h (lo + i) (lo + j) (by omega) (by omega) (by omega) (by omega) hpq
    omega
  · obtain ⟨a1, a2⟩ := wr_at hk
    rw [a2]
    exact ⟨lo + k, by omega, by omega, rfl⟩
/-- a cell's contents set -/
def upc (σ : Sto) (k : Nat) (f : Nat → Int32) : Sto := fun a => if a = k then f else σ a
theorem upc_same (σ : Sto) (k : Nat) (f : Nat → Int32) : upc σ k f k = f := if_pos rfl
theorem upc_ne {σ : Sto} {k a : Nat} {f : Nat → Int32} (h : a ≠ k) : upc σ k f a = σ a := if_neg h
theorem upd_same (f : Nat → Int32) (k : Nat) (x : Int32) : upd f k x k = x := if_pos rfl
theorem upd_ne {f : Nat → Int32} {k j : Nat} {x : Int32} (h : j ≠ k) : upd f k x j = f j := if_neg h
theorem wr_set {E : EE} {lo n : Nat} {σ σ' : Sto} {τ τ' : Stl} {k : Nat} {e : va_E} (h1 : lo ≤ k) (h2 : k < lo + n) (he : ent E σ' τ' k = e) (ho : ∀ a, a ≠ k → ent E σ' τ' a = ent E σ τ a) : (wr E lo n σ τ).set (k - lo) (E.2.1 k, e) = wr E lo n σ' τ' := by
  subst he
  apply List.ext_getElem?
  intro i
  by_cases hi : i = k - lo
  · subst hi
    rw [List.getElem?_set_self (by simp [wr]; omega), wr_get h1 h2]
  · rw [List.getElem?_set_ne (Ne.symm hi)]
    by_cases hn : i < n
    · have a1 := wr_get (E := E) (σ := σ) (τ := τ) (show lo ≤ lo + i by omega) (show lo + i < lo + n by omega)
      have a2 := wr_get (E := E) (σ := σ') (τ := τ') (show lo ≤ lo + i by omega) (show lo + i < lo + n by omega)
      rw [show lo + i - lo = i by omega] at a1 a2
      rw [a1, a2, ho _ (by omega)]
    · rw [List.getElem?_eq_none (by simp [wr]; omega), List.getElem?_eq_none (by simp [wr]; omega)]
theorem flds_off {E : EE} {σ : Sto} {τ : Stl} {k a : Nat} {f : Nat → Int32} (h : a ≠ k) (c : Nat) : fldsOf E (upc σ k f) τ a c = fldsOf E σ τ a c := by
  unfold fldsOf
  simp only [upc_ne h]
theorem ent_off {E : EE} {σ : Sto} {τ : Stl} {k a : Nat} {f : Nat → Int32} (h : a ≠ k) : ent E (upc σ k f) τ a = ent E σ τ a := by
  unfold ent
  rw [upc_ne h, flds_off h]
/-- the locals: those that are listed are held -/
def lh (la : Array Slot) (nL : Nat) (ls : List (Option Value)) : Prop := la.size = nL ∧ lv_wf la ∧ ∀ (i : Nat) (v : Value), ls[i]? = some (some v) → la[i]? = some (.val v)
def lvOf (ls : List (Option Value)) : List (Nat × Value) := (List.range ls.length).filterMap (fun i => (ls[i]?.join).map (fun v => (i, v)))
theorem lvOf_mem {ls : List (Option Value)} {i : Nat} {v : Value} : (i, v) ∈ lvOf ls ↔ ls[i]? = some (some v) := by
  unfold lvOf
  rw [List.mem_filterMap]
  constructor
  · rintro ⟨a, ha, h⟩
    cases hj : ls[a]? with
    | none => rw [hj] at h; cases h
    | some o =>
      cases o with
      | none => rw [hj] at h; cases h
      | some w =>
        rw [hj] at h
        have : (a, w) = (i, v) := Option.some.inj h
        cases this
        exact hj
  · intro h
    refine ⟨i, List.mem_range.mpr (List.getElem?_eq_some_iff.mp h).1, ?_⟩
    rw [h]
    rfl
theorem lh_has {la : Array Slot} {nL : Nat} {ls : List (Option Value)} (h : lh la nL ls) : lv_has la nL (lvOf ls) := ⟨h.1, h.2.1, fun q hq => h.2.2 q.1 q.2 (lvOf_mem.mp hq)⟩
/-- no long's second half lies at i -/
def okS (ls : List (Option Value)) : Nat → Bool
  | 0 => true
  | i + 1 => match ls[i]? with
    | some (some v) => v.category == 1
    | _ => true
theorem okS_ne {ls : List (Option Value)} {i j : Nat} {v : Value} (h : okS ls i = true) (hj : ls[j]? = some (some v)) (e : j + 1 = i) : (v.category == 2) = false := by
  subst e
  simp only [okS, hj] at h
  have := eq_of_beq h
  rw [this]
  rfl
theorem lh_set {la : Array Slot} {nL i : Nat} {ls : List (Option Value)} {v : Value} (hs : okS ls i = true) (h : lv_has la nL ((i, v) :: (lvOf ls).filter (fun q => !(q.1 == i) && !(q.1 + 1 == i && q.2.category == 2)))) : lh la nL (ls.set i (some v)) := by
  refine ⟨h.1, h.2.1, fun j w hj => ?_⟩
  by_cases e : j = i
  · subst e
    have hl : j < ls.length := by
      have := (List.getElem?_eq_some_iff.mp hj).1
      simpa using this
    rw [List.getElem?_set_self hl] at hj
    have hvw : v = w := Option.some.inj (Option.some.inj hj)
    subst hvw
    exact h.2.2 (j, v) List.mem_cons_self
  · rw [List.getElem?_set_ne (Ne.symm e)] at hj
    refine h.2.2 (j, w) (List.mem_cons_of_mem _ (List.mem_filter.mpr ⟨lvOf_mem.mpr hj, ?_⟩))
    have e1 : (j == i) = false := by simp [e]
    by_cases e2 : j + 1 = i
    · have := okS_ne hs hj e2
      simp [e1, this]
    · simp [e1, e2]
theorem lh_set2 {la : Array Slot} {nL i : Nat} {ls : List (Option Value)} {v : Value} (hs : okS ls i = true) (h : lv_has la nL ((i, v) :: (lvOf ls).filter (fun q => !(q.1 == i) && (!(q.1 == i + 1) && !(q.1 + 1 == i && q.2.category == 2))))) : lh la nL ((ls.set i (some v)).set (i + 1) none) := by
  refine ⟨h.1, h.2.1, fun j w hj => ?_⟩
  by_cases e3 : j = i + 1
  · subst e3
    rw [List.getElem?_set] at hj
    split at hj
    · split at hj <;> cases hj
    · exact absurd rfl (by assumption)
  · rw [List.getElem?_set_ne (Ne.symm e3)] at hj
    by_cases e : j = i
    · subst e
      have hl : j < ls.length := by
        have := (List.getElem?_eq_some_iff.mp hj).1
        simpa using this
      rw [List.getElem?_set_self hl] at hj
      have hvw : v = w := Option.some.inj (Option.some.inj hj)
      subst hvw
      exact h.2.2 (j, v) List.mem_cons_self
    · rw [List.getElem?_set_ne (Ne.symm e)] at hj
      refine h.2.2 (j, w) (List.mem_cons_of_mem _ (List.mem_filter.mpr ⟨lvOf_mem.mpr hj, ?_⟩))
      have e1 : (j == i) = false := by simp [e]
      have e4 : (j == i + 1) = false := by simp [e3]
      by_cases e2 : j + 1 = i
      · have := okS_ne hs hj e2
        simp [e1, e4, this]
      · simp [e1, e4, e2]
/-- a method's end: its answer and the store behind it -/
def Qo (E : EE) (lo n : Nat) (Po : Option Value → Sto → Stl → Prop) : Array Value → State → Outcome → State → Prop := fun _ st oc t => (∃ r σ τ, oc = .returned r ∧ Po r σ τ ∧ va_P E.2.2.1 cls (wr E lo n σ τ) t.heap) ∧ va_F (AA E lo n) st t
def CX (E : EE) (lo n : Nat) (R : Room) (X : XX) (cc : ByteArray) (own : String) (nL : Nat) (ret : Option FieldType) (Po : Option Value → Sto → Stl → Prop) : Prop :=
  X.1.tables.exec = Jvm.exec ∧ X.2.2.2.2.2.2.2.1.code = cc ∧ X.2.2.2.2.2.2.2.1.maxLocals = nL ∧ X.2.2.1.vm.findClass own = some X.2.2.2.1.cls ∧ (∀ w ∈ gt, w.before X.2.2.2.2.1 X.2.2.1 = true) ∧ va_K E.2.2.1 cls (tyl E) X.2.2.1 ∧ inj E lo n ∧ X.2.2.2.2.2.2.1.sig.returnType = ret ∧ X.2.2.2.2.2.2.1.locks = false ∧ (X.2.2.2.2.2.2.2.2.1 ≤ R.cells ∧ X.2.2.2.2.2.2.2.2.2.1 ≤ R.slots) ∧ ((∃ r σ τ, Po r σ τ) → X.2.2.2.2.2.2.2.2.2.2 = MQ X.2.2.2.2.2.1 (Qo E lo n Po) X.2.2.2.2.1 X.2.2.1 X.2.2.2.2.2.2.2.2.1 X.2.2.2.2.2.2.2.2.2.1 (AA E lo n))
abbrev WX (E : EE) (R : Room) (X : XX) (H : Heap) (locs : List Loc) (g : JFrame) : Prop := W X.1 E.1 X.2.1 R X.2.2.1 X.2.2.2.1 X.2.2.2.2.1 X.2.2.2.2.2.1 X.2.2.2.2.2.2.1 X.2.2.2.2.2.2.2.1 H locs X.2.2.2.2.2.2.2.2.1 X.2.2.2.2.2.2.2.2.2.1 X.2.2.2.2.2.2.2.2.2.2 g
/-- at pc, with these locals, this stack, this store: the machine comes to the end that Po names -/
def G (E : EE) (lo n : Nat) (R : Room) (X : XX) (cc : ByteArray) (own : String) (nL : Nat) (ret : Option FieldType) (Po : Option Value → Sto → Stl → Prop) (pc : Nat) (ls : List (Option Value)) (st : List Value) (σ : Sto) (τ : Stl) : Prop :=
  CX E lo n R X cc own nL ret Po → ∀ (H : Heap) (locs : List Loc) (la : Array Slot), va_P E.2.2.1 cls (wr E lo n σ τ) H → va_S (AA E lo n) X.2.2.1.heap H locs → lh la nL ls → WX E R X H locs (F0 X.2.2.2.1 pc la st)
section ROWS
variable {E : EE} {lo n : Nat} {R : Room} {X : XX} {cc : ByteArray} {own : String} {nL : Nat} {ret : Option FieldType} {Po : Option Value → Sto → Stl → Prop} {pc q : Nat} {ls : List (Option Value)} {st : List Value} {σ : Sto} {τ : Stl}

theorem g_iconst {i : Int} {v : Int32} (hd : decode cc pc = .ok (.iconst i, 1)) (hv : Int32.ofInt i = v) (hq : pc + 1 = q) (k : G E lo n R X cc own nL ret Po q ls (.int v :: st) σ τ) : G E lo n R X cc own nL ret Po pc ls (st) σ τ := by
  subst hq
  exact fun hX H locs la hP hS hl => lv_iconst hX.1 hX.2.1 hd hv (k hX H locs la hP hS hl)
theorem g_bipush {i : Int} {v : Int32} (hd : decode cc pc = .ok (.bipush i, 2)) (hv : (Int8.ofInt i).toInt32 = v) (hq : pc + 2 = q) (k : G E lo n R X cc own nL ret Po q ls (.int v :: st) σ τ) : G E lo n R X cc own nL ret Po pc ls (st) σ τ := by
  subst hq
  exact fun hX H locs la hP hS hl => lv_bipush hX.1 hX.2.1 hd hv (k hX H locs la hP hS hl)
theorem g_sipush {i : Int} {v : Int32} (hd : decode cc pc = .ok (.sipush i, 3)) (hv : (Int16.ofInt i).toInt32 = v) (hq : pc + 3 = q) (k : G E lo n R X cc own nL ret Po q ls (.int v :: st) σ τ) : G E lo n R X cc own nL ret Po pc ls (st) σ τ := by
  subst hq
  exact fun hX H locs la hP hS hl => lv_sipush hX.1 hX.2.1 hd hv (k hX H locs la hP hS hl)
theorem g_lconst {i : Fin 2} {v : Int64} (hd : decode cc pc = .ok (.lconst i, 1)) (hv : Int64.ofNat (i : Nat) = v) (hq : pc + 1 = q) (k : G E lo n R X cc own nL ret Po q ls (.long v :: st) σ τ) : G E lo n R X cc own nL ret Po pc ls (st) σ τ := by
  subst hq
  exact fun hX H locs la hP hS hl => lv_lconst hX.1 hX.2.1 hd hv (k hX H locs la hP hS hl)
theorem g_iload_n {i : Fin 4} {x : Int32} (hd : decode cc pc = .ok (.iload_n i, 1)) (hv : ls[(i : Nat)]? = some (some (.int x))) (hq : pc + 1 = q) (k : G E lo n R X cc own nL ret Po q ls (.int x :: st) σ τ) : G E lo n R X cc own nL ret Po pc ls (st) σ τ := by
  subst hq
  exact fun hX H locs la hP hS hl => lv_iload_n hX.1 hX.2.1 hd rfl (hl.2.2 _ _ hv) (k hX H locs la hP hS hl)
theorem g_iload {i : Nat} {x : Int32} (hd : decode cc pc = .ok (.iload i, 2)) (hv : ls[i]? = some (some (.int x))) (hq : pc + 2 = q) (k : G E lo n R X cc own nL ret Po q ls (.int x :: st) σ τ) : G E lo n R X cc own nL ret Po pc ls (st) σ τ := by
  subst hq
  exact fun hX H locs la hP hS hl => lv_iload hX.1 hX.2.1 hd (hl.2.2 _ _ hv) (k hX H locs la hP hS hl)
theorem g_lload_n {i : Fin 4} {x : Int64} (hd : decode cc pc = .ok (.lload_n i, 1)) (hv : ls[(i : Nat)]? = some (some (.long x))) (hq : pc + 1 = q) (k : G E lo n R X cc own nL ret Po q ls (.long x :: st) σ τ) : G E lo n R X cc own nL ret Po pc ls (st) σ τ := by
  subst hq
  exact fun hX H locs la hP hS hl => lv_lload_n hX.1 hX.2.1 hd rfl (hl.2.2 _ _ hv) (k hX H locs la hP hS hl)
theorem g_lload {i : Nat} {x : Int64} (hd : decode cc pc = .ok (.lload i, 2)) (hv : ls[i]? = some (some (.long x))) (hq : pc + 2 = q) (k : G E lo n R X cc own nL ret Po q ls (.long x :: st) σ τ) : G E lo n R X cc own nL ret Po pc ls (st) σ τ := by
  subst hq
  exact fun hX H locs la hP hS hl => lv_lload hX.1 hX.2.1 hd (hl.2.2 _ _ hv) (k hX H locs la hP hS hl)
theorem g_aload_n {i : Fin 4} {x : Nat} (hd : decode cc pc = .ok (.aload_n i, 1)) (hv : ls[(i : Nat)]? = some (some (.ref x))) (hq : pc + 1 = q) (k : G E lo n R X cc own nL ret Po q ls (.ref x :: st) σ τ) : G E lo n R X cc own nL ret Po pc ls (st) σ τ := by
  subst hq
  exact fun hX H locs la hP hS hl => lv_aload_n hX.1 hX.2.1 hd rfl (hl.2.2 _ _ hv) (k hX H locs la hP hS hl)
theorem g_iadd {x y : Int32} (hd : decode cc pc = .ok (.iadd, 1))  (hq : pc + 1 = q) (k : G E lo n R X cc own nL ret Po q ls (.int (x + y) :: st) σ τ) : G E lo n R X cc own nL ret Po pc ls (.int y :: .int x :: st) σ τ := by
  subst hq
  exact fun hX H locs la hP hS hl => lv_iadd hX.1 hX.2.1 hd (k hX H locs la hP hS hl)
theorem g_isub {x y : Int32} (hd : decode cc pc = .ok (.isub, 1))  (hq : pc + 1 = q) (k : G E lo n R X cc own nL ret Po q ls (.int (x - y) :: st) σ τ) : G E lo n R X cc own nL ret Po pc ls (.int y :: .int x :: st) σ τ := by
  subst hq
  exact fun hX H locs la hP hS hl => lv_isub hX.1 hX.2.1 hd (k hX H locs la hP hS hl)
theorem g_imul {x y : Int32} (hd : decode cc pc = .ok (.imul, 1))  (hq : pc + 1 = q) (k : G E lo n R X cc own nL ret Po q ls (.int (x * y) :: st) σ τ) : G E lo n R X cc own nL ret Po pc ls (.int y :: .int x :: st) σ τ := by
  subst hq
  exact fun hX H locs la hP hS hl => lv_imul hX.1 hX.2.1 hd (k hX H locs la hP hS hl)
theorem g_iand {x y : Int32} (hd : decode cc pc = .ok (.iand, 1))  (hq : pc + 1 = q) (k : G E lo n R X cc own nL ret Po q ls (.int (x &&& y) :: st) σ τ) : G E lo n R X cc own nL ret Po pc ls (.int y :: .int x :: st) σ τ := by
  subst hq
  exact fun hX H locs la hP hS hl => lv_iand hX.1 hX.2.1 hd (k hX H locs la hP hS hl)
theorem g_ior {x y : Int32} (hd : decode cc pc = .ok (.ior, 1))  (hq : pc + 1 = q) (k : G E lo n R X cc own nL ret Po q ls (.int (x ||| y) :: st) σ τ) : G E lo n R X cc own nL ret Po pc ls (.int y :: .int x :: st) σ τ := by
  subst hq
  exact fun hX H locs la hP hS hl => lv_ior hX.1 hX.2.1 hd (k hX H locs la hP hS hl)
theorem g_ixor {x y : Int32} (hd : decode cc pc = .ok (.ixor, 1))  (hq : pc + 1 = q) (k : G E lo n R X cc own nL ret Po q ls (.int (x ^^^ y) :: st) σ τ) : G E lo n R X cc own nL ret Po pc ls (.int y :: .int x :: st) σ τ := by
  subst hq
  exact fun hX H locs la hP hS hl => lv_ixor hX.1 hX.2.1 hd (k hX H locs la hP hS hl)
theorem g_ladd {x y : Int64} (hd : decode cc pc = .ok (.ladd, 1))  (hq : pc + 1 = q) (k : G E lo n R X cc own nL ret Po q ls (.long (x + y) :: st) σ τ) : G E lo n R X cc own nL ret Po pc ls (.long y :: .long x :: st) σ τ := by
  subst hq
  exact fun hX H locs la hP hS hl => lv_ladd hX.1 hX.2.1 hd (k hX H locs la hP hS hl)
theorem g_lsub {x y : Int64} (hd : decode cc pc = .ok (.lsub, 1))  (hq : pc + 1 = q) (k : G E lo n R X cc own nL ret Po q ls (.long (x - y) :: st) σ τ) : G E lo n R X cc own nL ret Po pc ls (.long y :: .long x :: st) σ τ := by
  subst hq
  exact fun hX H locs la hP hS hl => lv_lsub hX.1 hX.2.1 hd (k hX H locs la hP hS hl)
theorem g_lmul {x y : Int64} (hd : decode cc pc = .ok (.lmul, 1))  (hq : pc + 1 = q) (k : G E lo n R X cc own nL ret Po q ls (.long (x * y) :: st) σ τ) : G E lo n R X cc own nL ret Po pc ls (.long y :: .long x :: st) σ τ := by
  subst hq
  exact fun hX H locs la hP hS hl => lv_lmul hX.1 hX.2.1 hd (k hX H locs la hP hS hl)
theorem g_idiv {x y : Int32} (hd : decode cc pc = .ok (.idiv, 1)) (hne : ¬ y = 0) (hq : pc + 1 = q) (k : G E lo n R X cc own nL ret Po q ls (.int (x / y) :: st) σ τ) : G E lo n R X cc own nL ret Po pc ls (.int y :: .int x :: st) σ τ := by
  subst hq
  exact fun hX H locs la hP hS hl => lv_idiv hX.1 hX.2.1 hd hne (k hX H locs la hP hS hl)
theorem g_irem {x y : Int32} (hd : decode cc pc = .ok (.irem, 1)) (hne : ¬ y = 0) (hq : pc + 1 = q) (k : G E lo n R X cc own nL ret Po q ls (.int (x - x / y * y) :: st) σ τ) : G E lo n R X cc own nL ret Po pc ls (.int y :: .int x :: st) σ τ := by
  subst hq
  exact fun hX H locs la hP hS hl => lv_irem hX.1 hX.2.1 hd hne (k hX H locs la hP hS hl)
theorem g_ldiv {x y : Int64} (hd : decode cc pc = .ok (.ldiv, 1)) (hne : ¬ y = 0) (hq : pc + 1 = q) (k : G E lo n R X cc own nL ret Po q ls (.long (x / y) :: st) σ τ) : G E lo n R X cc own nL ret Po pc ls (.long y :: .long x :: st) σ τ := by
  subst hq
  exact fun hX H locs la hP hS hl => lv_ldiv hX.1 hX.2.1 hd hne (k hX H locs la hP hS hl)
theorem g_lrem {x y : Int64} (hd : decode cc pc = .ok (.lrem, 1)) (hne : ¬ y = 0) (hq : pc + 1 = q) (k : G E lo n R X cc own nL ret Po q ls (.long (x - x / y * y) :: st) σ τ) : G E lo n R X cc own nL ret Po pc ls (.long y :: .long x :: st) σ τ := by
  subst hq
  exact fun hX H locs la hP hS hl => lv_lrem hX.1 hX.2.1 hd hne (k hX H locs la hP hS hl)
theorem g_ineg {x : Int32} (hd : decode cc pc = .ok (.ineg, 1))  (hq : pc + 1 = q) (k : G E lo n R X cc own nL ret Po q ls (.int (-x) :: st) σ τ) : G E lo n R X cc own nL ret Po pc ls (.int x :: st) σ τ := by
  subst hq
  exact fun hX H locs la hP hS hl => lv_ineg hX.1 hX.2.1 hd (k hX H locs la hP hS hl)
theorem g_ishl {x y : Int32} (hd : decode cc pc = .ok (.ishl, 1))  (hq : pc + 1 = q) (k : G E lo n R X cc own nL ret Po q ls (.int (x <<< (y &&& 31)) :: st) σ τ) : G E lo n R X cc own nL ret Po pc ls (.int y :: .int x :: st) σ τ := by
  subst hq
  exact fun hX H locs la hP hS hl => lv_ishl hX.1 hX.2.1 hd (k hX H locs la hP hS hl)
theorem g_ishr {x y : Int32} (hd : decode cc pc = .ok (.ishr, 1))  (hq : pc + 1 = q) (k : G E lo n R X cc own nL ret Po q ls (.int (x >>> (y &&& 31)) :: st) σ τ) : G E lo n R X cc own nL ret Po pc ls (.int y :: .int x :: st) σ τ := by
  subst hq
  exact fun hX H locs la hP hS hl => lv_ishr hX.1 hX.2.1 hd (k hX H locs la hP hS hl)
theorem g_iushr {x y : Int32} (hd : decode cc pc = .ok (.iushr, 1))  (hq : pc + 1 = q) (k : G E lo n R X cc own nL ret Po q ls (.int (x.toUInt32 >>> (y.toUInt32 &&& Int32.toUInt32 31)).toInt32 :: st) σ τ) : G E lo n R X cc own nL ret Po pc ls (.int y :: .int x :: st) σ τ := by
  subst hq
  exact fun hX H locs la hP hS hl => lv_iushr hX.1 hX.2.1 hd rfl (k hX H locs la hP hS hl)
theorem g_i2l {x : Int32} (hd : decode cc pc = .ok (.i2l, 1))  (hq : pc + 1 = q) (k : G E lo n R X cc own nL ret Po q ls (.long x.toInt64 :: st) σ τ) : G E lo n R X cc own nL ret Po pc ls (.int x :: st) σ τ := by
  subst hq
  exact fun hX H locs la hP hS hl => lv_i2l hX.1 hX.2.1 hd rfl (k hX H locs la hP hS hl)
theorem g_l2i {x : Int64} (hd : decode cc pc = .ok (.l2i, 1))  (hq : pc + 1 = q) (k : G E lo n R X cc own nL ret Po q ls (.int x.toInt32 :: st) σ τ) : G E lo n R X cc own nL ret Po pc ls (.long x :: st) σ τ := by
  subst hq
  exact fun hX H locs la hP hS hl => lv_l2i hX.1 hX.2.1 hd rfl (k hX H locs la hP hS hl)
theorem g_i2b {x : Int32} (hd : decode cc pc = .ok (.i2b, 1))  (hq : pc + 1 = q) (k : G E lo n R X cc own nL ret Po q ls (.int x.toInt8.toInt32 :: st) σ τ) : G E lo n R X cc own nL ret Po pc ls (.int x :: st) σ τ := by
  subst hq
  exact fun hX H locs la hP hS hl => lv_i2b hX.1 hX.2.1 hd rfl (k hX H locs la hP hS hl)
theorem g_i2s {x : Int32} (hd : decode cc pc = .ok (.i2s, 1))  (hq : pc + 1 = q) (k : G E lo n R X cc own nL ret Po q ls (.int x.toInt16.toInt32 :: st) σ τ) : G E lo n R X cc own nL ret Po pc ls (.int x :: st) σ τ := by
  subst hq
  exact fun hX H locs la hP hS hl => lv_i2s hX.1 hX.2.1 hd rfl (k hX H locs la hP hS hl)
theorem g_lcmp {x y : Int64} (hd : decode cc pc = .ok (.lcmp, 1))  (hq : pc + 1 = q) (k : G E lo n R X cc own nL ret Po q ls (.int (lg_cmp x y) :: st) σ τ) : G E lo n R X cc own nL ret Po pc ls (.long y :: .long x :: st) σ τ := by
  subst hq
  exact fun hX H locs la hP hS hl => W.lcmp hX.1 hX.2.1 hd (k hX H locs la hP hS hl)
theorem g_dup {v : Value} (hd : decode cc pc = .ok (.dup, 1)) (hc : v.category = 1) (hq : pc + 1 = q) (k : G E lo n R X cc own nL ret Po q ls (v :: v :: st) σ τ) : G E lo n R X cc own nL ret Po pc ls (v :: st) σ τ := by
  subst hq
  exact fun hX H locs la hP hS hl => lv_dup hX.1 hX.2.1 hd hc (k hX H locs la hP hS hl)
theorem g_pop {v : Value} (hd : decode cc pc = .ok (.pop, 1)) (hc : v.category = 1) (hq : pc + 1 = q) (k : G E lo n R X cc own nL ret Po q ls (st) σ τ) : G E lo n R X cc own nL ret Po pc ls (v :: st) σ τ := by
  subst hq
  exact fun hX H locs la hP hS hl => lv_pop hX.1 hX.2.1 hd hc (k hX H locs la hP hS hl)
theorem g_dup2 {v w : Value} (hd : decode cc pc = .ok (.dup2, 1)) (hc : v.category = 1) (hc2 : w.category = 1) (hq : pc + 1 = q) (k : G E lo n R X cc own nL ret Po q ls (v :: w :: v :: w :: st) σ τ) : G E lo n R X cc own nL ret Po pc ls (v :: w :: st) σ τ := by
  subst hq
  exact fun hX H locs la hP hS hl => lv_dup2_11 hX.1 hX.2.1 hd hc hc2 (k hX H locs la hP hS hl)
theorem g_ldc {i : Nat} {v : Int32} (hd : decode cc pc = .ok (.ldc i, 2)) (hw : Jvm.Cond.constant own i v ∈ gt) (hq : pc + 2 = q) (k : G E lo n R X cc own nL ret Po q ls (.int v :: st) σ τ) : G E lo n R X cc own nL ret Po pc ls (st) σ τ := by
  subst hq
  exact fun hX H locs la hP hS hl => lv_ldc hX.1 hX.2.1 hX.2.2.2.1 (hX.2.2.2.2.1 _ hw) hd (k hX H locs la hP hS hl)
theorem g_ldcw {i : Nat} {v : Int32} (hd : decode cc pc = .ok (.ldc_w i, 3)) (hw : Jvm.Cond.constant own i v ∈ gt) (hq : pc + 3 = q) (k : G E lo n R X cc own nL ret Po q ls (.int v :: st) σ τ) : G E lo n R X cc own nL ret Po pc ls (st) σ τ := by
  subst hq
  exact fun hX H locs la hP hS hl => lv_ldcw hX.1 hX.2.1 hX.2.2.2.1 (hX.2.2.2.2.1 _ hw) hd (k hX H locs la hP hS hl)
theorem g_ldc2 {i : Nat} {v : Int64} (hd : decode cc pc = .ok (.ldc2_w i, 3)) (hw : Jvm.Cond.constantLong own i v ∈ gt) (hq : pc + 3 = q) (k : G E lo n R X cc own nL ret Po q ls (.long v :: st) σ τ) : G E lo n R X cc own nL ret Po pc ls (st) σ τ := by
  subst hq
  exact fun hX H locs la hP hS hl => lv_ldc2 hX.1 hX.2.1 hX.2.2.2.1 (hX.2.2.2.2.1 _ hw) hd (k hX H locs la hP hS hl)
theorem g_istore_n {i : Fin 4} {x : Int32} (hd : decode cc pc = .ok (.istore_n i, 1)) (hn : (i : Nat) < nL) (hs : okS ls (i : Nat) = true) (hq : pc + 1 = q) (k : G E lo n R X cc own nL ret Po q (ls.set (i : Nat) (some (.int x))) st σ τ) : G E lo n R X cc own nL ret Po pc ls (.int x :: st) σ τ := by
  subst hq
  exact fun hX H locs la hP hS hl => lv_istore_n hX.1 hX.2.1 hd rfl (lh_has hl) hn rfl (fun la' hl' => k hX H locs la' hP hS (lh_set hs hl'))
theorem g_istore {i : Nat} {x : Int32} (hd : decode cc pc = .ok (.istore i, 2)) (hn : i < nL) (hs : okS ls i = true) (hq : pc + 2 = q) (k : G E lo n R X cc own nL ret Po q (ls.set i (some (.int x))) st σ τ) : G E lo n R X cc own nL ret Po pc ls (.int x :: st) σ τ := by
  subst hq
  exact fun hX H locs la hP hS hl => lv_istore hX.1 hX.2.1 hd (lh_has hl) hn rfl (fun la' hl' => k hX H locs la' hP hS (lh_set hs hl'))
theorem g_astore_n {i : Fin 4} {x : Nat} (hd : decode cc pc = .ok (.astore_n i, 1)) (hn : (i : Nat) < nL) (hs : okS ls (i : Nat) = true) (hq : pc + 1 = q) (k : G E lo n R X cc own nL ret Po q (ls.set (i : Nat) (some (.ref x))) st σ τ) : G E lo n R X cc own nL ret Po pc ls (.ref x :: st) σ τ := by
  subst hq
  exact fun hX H locs la hP hS hl => lv_astore_n hX.1 hX.2.1 hd rfl (lh_has hl) hn rfl (fun la' hl' => k hX H locs la' hP hS (lh_set hs hl'))
theorem g_lstore_n {i : Fin 4} {x : Int64} (hd : decode cc pc = .ok (.lstore_n i, 1)) (hn : (i : Nat) + 1 < nL) (hs : okS ls (i : Nat) = true) (hq : pc + 1 = q) (k : G E lo n R X cc own nL ret Po q ((ls.set (i : Nat) (some (.long x))).set ((i : Nat) + 1) none) st σ τ) : G E lo n R X cc own nL ret Po pc ls (.long x :: st) σ τ := by
  subst hq
  exact fun hX H locs la hP hS hl => lv_lstore_n hX.1 hX.2.1 hd rfl (lh_has hl) hn rfl (fun la' hl' => k hX H locs la' hP hS (lh_set2 hs hl'))
theorem g_lstore {i : Nat} {x : Int64} (hd : decode cc pc = .ok (.lstore i, 2)) (hn : i + 1 < nL) (hs : okS ls i = true) (hq : pc + 2 = q) (k : G E lo n R X cc own nL ret Po q ((ls.set i (some (.long x))).set (i + 1) none) st σ τ) : G E lo n R X cc own nL ret Po pc ls (.long x :: st) σ τ := by
  subst hq
  exact fun hX H locs la hP hS hl => lv_lstore hX.1 hX.2.1 hd (lh_has hl) hn rfl (fun la' hl' => k hX H locs la' hP hS (lh_set2 hs hl'))
theorem g_iinc {i : Nat} {d : Int} {x w : Int32} (hd : decode cc pc = .ok (.iinc i d, 3)) (hv : ls[i]? = some (some (.int x))) (hw : Int32.ofInt d = w) (hn : i < nL) (hs : okS ls i = true) (hq : pc + 3 = q) (k : G E lo n R X cc own nL ret Po q (ls.set i (some (.int (x + w)))) st σ τ) : G E lo n R X cc own nL ret Po pc ls st σ τ := by
  subst hq
  subst hw
  intro hX H locs la hP hS hl
  obtain ⟨j, hj⟩ := List.getElem?_of_mem (lvOf_mem.mpr hv)
  exact lv_iinc hX.1 hX.2.1 hd (lh_has hl) hj rfl hn rfl (fun la' hl' => k hX H locs la' hP hS (lh_set hs hl'))
theorem g_goto {off : Int} {t : Nat} (hd : decode cc pc = .ok (.goto off, 3)) (ht : (pc : Int) + off = (t : Int)) (k : G E lo n R X cc own nL ret Po t ls st σ τ) : G E lo n R X cc own nL ret Po pc ls st σ τ :=
  fun hX H locs la hP hS hl => lv_goto hX.1 hX.2.1 hd ht (k hX H locs la hP hS hl)
theorem g_if_eq {x : Int32} {off : Int} {t : Nat} (hd : decode cc pc = .ok (.ifCond .eq off, 3)) (ht : (pc : Int) + off = (t : Int)) (hq : pc + 3 = q) (kt : x = 0 → G E lo n R X cc own nL ret Po t ls st σ τ) (kf : ¬ x = 0 → G E lo n R X cc own nL ret Po q ls st σ τ) : G E lo n R X cc own nL ret Po pc ls (.int x :: st) σ τ := by
  subst hq
  exact fun hX H locs la hP hS hl => lv_if_eq hX.1 hX.2.1 hd ht (fun c => kt c hX H locs la hP hS hl) (fun c => kf c hX H locs la hP hS hl)
theorem g_if_ne {x : Int32} {off : Int} {t : Nat} (hd : decode cc pc = .ok (.ifCond .ne off, 3)) (ht : (pc : Int) + off = (t : Int)) (hq : pc + 3 = q) (kt : ¬ x = 0 → G E lo n R X cc own nL ret Po t ls st σ τ) (kf : x = 0 → G E lo n R X cc own nL ret Po q ls st σ τ) : G E lo n R X cc own nL ret Po pc ls (.int x :: st) σ τ := by
  subst hq
  exact fun hX H locs la hP hS hl => lv_if_ne hX.1 hX.2.1 hd ht (fun c => kt c hX H locs la hP hS hl) (fun c => kf c hX H locs la hP hS hl)
theorem g_if_lt {x : Int32} {off : Int} {t : Nat} (hd : decode cc pc = .ok (.ifCond .lt off, 3)) (ht : (pc : Int) + off = (t : Int)) (hq : pc + 3 = q) (kt : x < 0 → G E lo n R X cc own nL ret Po t ls st σ τ) (kf : ¬ x < 0 → G E lo n R X cc own nL ret Po q ls st σ τ) : G E lo n R X cc own nL ret Po pc ls (.int x :: st) σ τ := by
  subst hq
  exact fun hX H locs la hP hS hl => lv_if_lt hX.1 hX.2.1 hd ht (fun c => kt c hX H locs la hP hS hl) (fun c => kf c hX H locs la hP hS hl)
theorem g_if_ge {x : Int32} {off : Int} {t : Nat} (hd : decode cc pc = .ok (.ifCond .ge off, 3)) (ht : (pc : Int) + off = (t : Int)) (hq : pc + 3 = q) (kt : 0 ≤ x → G E lo n R X cc own nL ret Po t ls st σ τ) (kf : ¬ 0 ≤ x → G E lo n R X cc own nL ret Po q ls st σ τ) : G E lo n R X cc own nL ret Po pc ls (.int x :: st) σ τ := by
  subst hq
  exact fun hX H locs la hP hS hl => lv_if_ge hX.1 hX.2.1 hd ht (fun c => kt c hX H locs la hP hS hl) (fun c => kf c hX H locs la hP hS hl)
theorem g_if_gt {x : Int32} {off : Int} {t : Nat} (hd : decode cc pc = .ok (.ifCond .gt off, 3)) (ht : (pc : Int) + off = (t : Int)) (hq : pc + 3 = q) (kt : 0 < x → G E lo n R X cc own nL ret Po t ls st σ τ) (kf : ¬ 0 < x → G E lo n R X cc own nL ret Po q ls st σ τ) : G E lo n R X cc own nL ret Po pc ls (.int x :: st) σ τ := by
  subst hq
  exact fun hX H locs la hP hS hl => lv_if_gt hX.1 hX.2.1 hd ht (fun c => kt c hX H locs la hP hS hl) (fun c => kf c hX H locs la hP hS hl)
theorem g_if_le {x : Int32} {off : Int} {t : Nat} (hd : decode cc pc = .ok (.ifCond .le off, 3)) (ht : (pc : Int) + off = (t : Int)) (hq : pc + 3 = q) (kt : x ≤ 0 → G E lo n R X cc own nL ret Po t ls st σ τ) (kf : ¬ x ≤ 0 → G E lo n R X cc own nL ret Po q ls st σ τ) : G E lo n R X cc own nL ret Po pc ls (.int x :: st) σ τ := by
  subst hq
  exact fun hX H locs la hP hS hl => lv_if_le hX.1 hX.2.1 hd ht (fun c => kt c hX H locs la hP hS hl) (fun c => kf c hX H locs la hP hS hl)
theorem g_icmp_eq {x y : Int32} {off : Int} {t : Nat} (hd : decode cc pc = .ok (.if_icmp .eq off, 3)) (ht : (pc : Int) + off = (t : Int)) (hq : pc + 3 = q) (kt : x = y → G E lo n R X cc own nL ret Po t ls st σ τ) (kf : ¬ x = y → G E lo n R X cc own nL ret Po q ls st σ τ) : G E lo n R X cc own nL ret Po pc ls (.int y :: .int x :: st) σ τ := by
  subst hq
  exact fun hX H locs la hP hS hl => lv_icmp_eq hX.1 hX.2.1 hd ht (fun c => kt c hX H locs la hP hS hl) (fun c => kf c hX H locs la hP hS hl)
theorem g_icmp_ne {x y : Int32} {off : Int} {t : Nat} (hd : decode cc pc = .ok (.if_icmp .ne off, 3)) (ht : (pc : Int) + off = (t : Int)) (hq : pc + 3 = q) (kt : ¬ x = y → G E lo n R X cc own nL ret Po t ls st σ τ) (kf : x = y → G E lo n R X cc own nL ret Po q ls st σ τ) : G E lo n R X cc own nL ret Po pc ls (.int y :: .int x :: st) σ τ := by
  subst hq
  exact fun hX H locs la hP hS hl => lv_icmp_ne hX.1 hX.2.1 hd ht (fun c => kt c hX H locs la hP hS hl) (fun c => kf c hX H locs la hP hS hl)
theorem g_icmp_lt {x y : Int32} {off : Int} {t : Nat} (hd : decode cc pc = .ok (.if_icmp .lt off, 3)) (ht : (pc : Int) + off = (t : Int)) (hq : pc + 3 = q) (kt : x < y → G E lo n R X cc own nL ret Po t ls st σ τ) (kf : ¬ x < y → G E lo n R X cc own nL ret Po q ls st σ τ) : G E lo n R X cc own nL ret Po pc ls (.int y :: .int x :: st) σ τ := by
  subst hq
  exact fun hX H locs la hP hS hl => lv_icmp_lt hX.1 hX.2.1 hd ht (fun c => kt c hX H locs la hP hS hl) (fun c => kf c hX H locs la hP hS hl)
theorem g_icmp_ge {x y : Int32} {off : Int} {t : Nat} (hd : decode cc pc = .ok (.if_icmp .ge off, 3)) (ht : (pc : Int) + off = (t : Int)) (hq : pc + 3 = q) (kt : y ≤ x → G E lo n R X cc own nL ret Po t ls st σ τ) (kf : ¬ y ≤ x → G E lo n R X cc own nL ret Po q ls st σ τ) : G E lo n R X cc own nL ret Po pc ls (.int y :: .int x :: st) σ τ := by
  subst hq
  exact fun hX H locs la hP hS hl => lv_icmp_ge hX.1 hX.2.1 hd ht (fun c => kt c hX H locs la hP hS hl) (fun c => kf c hX H locs la hP hS hl)
theorem g_icmp_gt {x y : Int32} {off : Int} {t : Nat} (hd : decode cc pc = .ok (.if_icmp .gt off, 3)) (ht : (pc : Int) + off = (t : Int)) (hq : pc + 3 = q) (kt : y < x → G E lo n R X cc own nL ret Po t ls st σ τ) (kf : ¬ y < x → G E lo n R X cc own nL ret Po q ls st σ τ) : G E lo n R X cc own nL ret Po pc ls (.int y :: .int x :: st) σ τ := by
  subst hq
  exact fun hX H locs la hP hS hl => lv_icmp_gt hX.1 hX.2.1 hd ht (fun c => kt c hX H locs la hP hS hl) (fun c => kf c hX H locs la hP hS hl)
theorem g_icmp_le {x y : Int32} {off : Int} {t : Nat} (hd : decode cc pc = .ok (.if_icmp .le off, 3)) (ht : (pc : Int) + off = (t : Int)) (hq : pc + 3 = q) (kt : x ≤ y → G E lo n R X cc own nL ret Po t ls st σ τ) (kf : ¬ x ≤ y → G E lo n R X cc own nL ret Po q ls st σ τ) : G E lo n R X cc own nL ret Po pc ls (.int y :: .int x :: st) σ τ := by
  subst hq
  exact fun hX H locs la hP hS hl => lv_icmp_le hX.1 hX.2.1 hd ht (fun c => kt c hX H locs la hP hS hl) (fun c => kf c hX H locs la hP hS hl)
theorem g_tabIn {dflt a b : Int} {offs : Array Int} {len : Nat} {x : Int32} {off : Int} {t : Nat} (hd : decode cc pc = .ok (.tableswitch dflt a b offs, len)) (h1 : ¬ x.toInt < a) (h2 : ¬ b < x.toInt) (ho : offs[(x.toInt - a).toNat]? = some off) (ht : (pc : Int) + off = (t : Int)) (k : G E lo n R X cc own nL ret Po t ls st σ τ) : G E lo n R X cc own nL ret Po pc ls (.int x :: st) σ τ :=
  fun hX H locs la hP hS hl => lv_tableIn hX.1 hX.2.1 hd h1 h2 ho ht (k hX H locs la hP hS hl)
theorem g_tabOut {dflt a b : Int} {offs : Array Int} {len : Nat} {x : Int32} {t : Nat} (hd : decode cc pc = .ok (.tableswitch dflt a b offs, len)) (h : x.toInt < a ∨ b < x.toInt) (ht : (pc : Int) + dflt = (t : Int)) (k : G E lo n R X cc own nL ret Po t ls st σ τ) : G E lo n R X cc own nL ret Po pc ls (.int x :: st) σ τ :=
  fun hX H locs la hP hS hl => lv_tableOut hX.1 hX.2.1 hd h ht (k hX H locs la hP hS hl)
theorem g_look {dflt : Int} {ps : Array (Int × Int)} {len : Nat} {x : Int32} {off : Int} {t : Nat} (hd : decode cc pc = .ok (.lookupswitch dflt ps, len)) (hp : (ps.toList.zip (ps.toList.drop 1)).all (fun (a, next) => a.1 < next.1) = true) (ho : Op.lookupswitch.offset ps.toList dflt x.toInt = off) (ht : (pc : Int) + off = (t : Int)) (k : G E lo n R X cc own nL ret Po t ls st σ τ) : G E lo n R X cc own nL ret Po pc ls (.int x :: st) σ τ :=
  fun hX H locs la hP hS hl => lv_lookup hX.1 hX.2.1 hd hp ho ht (k hX H locs la hP hS hl)
/-- the store may be told otherwise where the machine doesn't look -/
theorem g_store {σ' : Sto} {τ' : Stl} (h : ∀ k, lo ≤ k → k < lo + n → ∀ H, va_at E.2.2.1 cls (E.2.1 k, ent E σ τ k) H → va_at E.2.2.1 cls (E.2.1 k, ent E σ' τ' k) H) (k : G E lo n R X cc own nL ret Po pc ls st σ' τ') : G E lo n R X cc own nL ret Po pc ls st σ τ := by
  intro hX H locs la hP hS hl
  refine k hX H locs la (fun i q hi => ?_) hS hl
  obtain ⟨h1, rfl⟩ := wr_at hi
  have := hP i (E.2.1 (lo + i), ent E σ τ (lo + i)) (by
    have := wr_get (E := E) (σ := σ) (τ := τ) (show lo ≤ lo + i by omega) (show lo + i < lo + n by omega)
    rwa [show lo + i - lo = i by omega] at this)
  exact h (lo + i) (by omega) (by omega) H this
-- heap
theorem g_get {k ci : Nat} {fs : List Value} {C : String} {T : u_T} {N idx : Nat} {v : Value} (h1 : lo ≤ k) (h2 : k < lo + n) (he : ent E σ τ k = .inr (ci, fs)) (hc : cls[ci]? = some (C, T, N)) (hin : ∀ w ∈ u_ws C T N, w ∈ gt) (j : Nat) (hj : j < N) (hw : Cond.fieldLink own idx (T j).1 (T j).2.1 (T j).2.2.1 ∈ gt) (hv : fs[j]? = some v) (hd : decode cc pc = .ok (.getfield idx, 3)) (hq : pc + 3 = q) (kk : G E lo n R X cc own nL ret Po q ls (v :: st) σ τ) : G E lo n R X cc own nL ret Po pc ls (.ref (E.2.1 k) :: st) σ τ := by
  subst hq
  intro hX H locs la hP hS hl
  exact va_get hX.1 hX.2.1 hX.2.2.2.2.1 hin hX.2.2.2.1 hX.2.2.2.2.2.1 hP _ (by rw [wr_get h1 h2, he]) hc j hj (hX.2.2.2.2.1 _ hw) (fun _ h => h) hv hd (kk hX H locs la hP hS hl)
theorem g_put {k ci : Nat} {fs : List Value} {C : String} {T : u_T} {N idx : Nat} {ty : FieldType} {v : Value} {σ' : Sto} {τ' : Stl} (h1 : lo ≤ k) (h2 : k < lo + n) (he : ent E σ τ k = .inr (ci, fs)) (hc : cls[ci]? = some (C, T, N)) (hin : ∀ w ∈ u_ws C T N, w ∈ gt) (ty0 : Nat → FieldType) (hty : ∀ k, k < N → parseFieldDescriptor (T k).2.2.1 = some (ty0 k)) (hnm : ∀ a, a < N → ∀ b, b < N → a ≠ b → (T a).2.1 ≠ (T b).2.1) (j : Nat) (hj : j < N) (hl : j < fs.length) (hf : (T j).2.2.2 = false) (hpd : parseFieldDescriptor (T j).2.2.1 = some ty) (hna : narrow ty v = v) (hfi : fits ty v = true)
    (he' : ent E σ' τ' k = .inr (ci, fs.set j v)) (ho : ∀ a, a ≠ k → ent E σ' τ' a = ent E σ τ a)
    (hw : Cond.fieldLink own idx (T j).1 (T j).2.1 (T j).2.2.1 ∈ gt) (hd : decode cc pc = .ok (.putfield idx, 3)) (hq : pc + 3 = q) (kk : G E lo n R X cc own nL ret Po q ls st σ' τ') : G E lo n R X cc own nL ret Po pc ls (v :: .ref (E.2.1 k) :: st) σ τ := by
  subst hq
  intro hX H locs la hP hS hl0
  refine va_put hX.1 hX.2.1 hX.2.2.2.2.1 hin ty0 hty hnm hX.2.2.2.1 hX.2.2.2.2.2.1 hP (wr_D hX.2.2.2.2.2.2.1) hS _ (by rw [wr_get h1 h2, he]) hc j hj (hX.2.2.2.2.1 _ hw) (fun _ h => h) hf hpd hna hfi hl hd (fun H1 locs1 hP1 hD1 hS1 => ?_)
  rw [wr_set h1 h2 he' ho] at hP1
  exact kk hX H1 locs1 la hP1 hS1 hl0
theorem g_iald {k : Nat} {i : Int32} (h1 : lo ≤ k) (h2 : k < lo + n) (hk : kd k = 8) (hin : vp_in i (ln k)) (hd : decode cc pc = .ok (.iaload, 1)) (hq : pc + 1 = q) (kk : G E lo n R X cc own nL ret Po q ls (.int (σ k i.toNatClampNeg) :: st) σ τ) : G E lo n R X cc own nL ret Po pc ls (.int i :: .ref (E.2.1 k) :: st) σ τ := by
  subst hq
  intro hX H locs la hP hS hl
  exact va_iald hX.1 hX.2.1 hX.2.2.2.2.2.1 hP _ 0 (by rw [wr_get h1 h2, ent_int hk]) rfl hin hd (kk hX H locs la hP hS hl)
theorem g_zald {k : Nat} {i : Int32} (h1 : lo ≤ k) (h2 : k < lo + n) (hk : kd k = 9) (hin : vp_in i (ln k)) (hd : decode cc pc = .ok (.baload, 1)) (hq : pc + 1 = q) (kk : G E lo n R X cc own nL ret Po q ls (.int (σ k i.toNatClampNeg) :: st) σ τ) : G E lo n R X cc own nL ret Po pc ls (.int i :: .ref (E.2.1 k) :: st) σ τ := by
  subst hq
  intro hX H locs la hP hS hl
  exact va_zald hX.1 hX.2.1 hX.2.2.2.2.2.1 hP _ 1 (by rw [wr_get h1 h2, ent_bool hk]) rfl hin hd (kk hX H locs la hP hS hl)
theorem g_iast {k : Nat} {i x : Int32} (h1 : lo ≤ k) (h2 : k < lo + n) (hk : kd k = 8) (hin : vp_in i (ln k)) (hd : decode cc pc = .ok (.iastore, 1)) (hq : pc + 1 = q) (kk : G E lo n R X cc own nL ret Po q ls st (upc σ k (upd (σ k) i.toNatClampNeg x)) τ) : G E lo n R X cc own nL ret Po pc ls (.int x :: .int i :: .ref (E.2.1 k) :: st) σ τ := by
  subst hq
  intro hX H locs la hP hS hl
  refine va_iast hX.1 hX.2.1 hX.2.2.2.2.2.1 hP (wr_D hX.2.2.2.2.2.2.1) hS _ 0 (by rw [wr_get h1 h2, ent_int hk]) rfl hin hd (fun H1 locs1 hP1 hD1 hS1 => ?_)
  rw [wr_set (σ' := upc σ k (upd (σ k) i.toNatClampNeg x)) (τ' := τ) h1 h2 (by rw [ent_int hk, upc_same]) (fun a ha => ent_off ha)] at hP1
  exact kk hX H1 locs1 la hP1 hS1 hl
theorem g_zast {k : Nat} {i x : Int32} (h1 : lo ≤ k) (h2 : k < lo + n) (hk : kd k = 9) (hin : vp_in i (ln k)) (hx : vp_nar .boolean x = x) (hd : decode cc pc = .ok (.bastore, 1)) (hq : pc + 1 = q) (kk : G E lo n R X cc own nL ret Po q ls st (upc σ k (upd (σ k) i.toNatClampNeg x)) τ) : G E lo n R X cc own nL ret Po pc ls (.int x :: .int i :: .ref (E.2.1 k) :: st) σ τ := by
  subst hq
  intro hX H locs la hP hS hl
  refine va_zast hX.1 hX.2.1 hX.2.2.2.2.2.1 hP (wr_D hX.2.2.2.2.2.2.1) hS _ 1 (by rw [wr_get h1 h2, ent_bool hk]) rfl hin hd (fun H1 locs1 hP1 hD1 hS1 => ?_)
  rw [hx, wr_set (σ' := upc σ k (upd (σ k) i.toNatClampNeg x)) (τ' := τ) h1 h2 (by rw [ent_bool hk, upc_same]) (fun a ha => ent_off ha)] at hP1
  exact kk hX H1 locs1 la hP1 hS1 hl
theorem g_copy {idx k0 k1 : Nat} {sp dp w : Int32} (h1 : lo ≤ k0) (h2 : k0 < lo + n) (hk : kd k0 = 8) (h3 : lo ≤ k1) (h4 : k1 < lo + n) (hk1 : kd k1 = 8) (hw : Cond.methodLink own idx arraycopyName ∈ gt) (hw1 : Cond.native arraycopyName ∈ gt) (hw2 : Cond.static arraycopyName ∈ gt) (hw3 : Cond.initialized "java/lang/System" ∈ gt)
    (a1 : ¬ sp < 0) (a2 : ¬ dp < 0) (a3 : ¬ w < 0) (a4 : sp.toNatClampNeg + w.toNatClampNeg ≤ ln k0) (a5 : dp.toNatClampNeg + w.toNatClampNeg ≤ ln k1) (hfr : 1 ≤ R.frames) (hlo : (st.map fun v => v.category).sum + 18 ≤ R.locals) (hd : decode cc pc = .ok (.invokestatic idx, 3)) (hq : pc + 3 = q) (kk : G E lo n R X cc own nL ret Po q ls st (upc σ k1 (va_cpy (σ k0) (σ k1) sp.toNatClampNeg dp.toNatClampNeg w.toNatClampNeg)) τ) : G E lo n R X cc own nL ret Po pc ls (.int w :: .int dp :: .ref (E.2.1 k1) :: .int sp :: .ref (E.2.1 k0) :: st) σ τ := by
  subst hq
  intro hX H locs la hP hS hl
  refine va_copyi hX.1 hX.2.1 (by rw [hX.2.2.1, hl.1]) hX.2.2.2.1 (hX.2.2.2.2.1 _ hw) (hX.2.2.2.2.1 _ hw1) (hX.2.2.2.2.1 _ hw2) (hX.2.2.2.2.1 _ hw3) hX.2.2.2.2.2.1 hP (wr_D hX.2.2.2.2.2.2.1) hS _ _ 0 0 (by rw [wr_get h1 h2, ent_int hk]) (by rw [wr_get h3 h4, ent_int hk1]) rfl rfl rfl a1 a2 a3 a4 a5 (fun i hi => rfl) hfr hlo hd (fun H1 locs1 hP1 hD1 hS1 => ?_)
  rw [wr_set (σ' := upc σ k1 (va_cpy (σ k0) (σ k1) sp.toNatClampNeg dp.toNatClampNeg w.toNatClampNeg)) (τ' := τ) h3 h4 (by rw [ent_int hk1, upc_same]) (fun a ha => ent_off ha)] at hP1
  exact kk hX H1 locs1 la hP1 hS1 hl
theorem g_mmax {idx : Nat} {x y : Int32} (hw : Cond.methodLink own idx Lib.Math.max.name ∈ gt) (hw1 : Cond.static Lib.Math.max.name ∈ gt) (hw2 : Cond.initialized "java/lang/Math" ∈ gt) (hw3 : Cond.code Lib.Math.max.name Lib.Math.max.code 2 (some .int) ∈ gt) (hfr : 1 ≤ R.frames) (hlo : (st.map fun v => v.category).sum + 13 ≤ R.locals) (hd : decode cc pc = .ok (.invokestatic idx, 3)) (hq : pc + 3 = q) (kk : G E lo n R X cc own nL ret Po q ls (.int (if x < y then y else x) :: st) σ τ) : G E lo n R X cc own nL ret Po pc ls (.int y :: .int x :: st) σ τ := by
  subst hq
  intro hX H locs la hP hS hl
  exact va_mmax hX.1 hX.2.1 (by rw [hX.2.2.1, hl.1]) hX.2.2.2.1 (hX.2.2.2.2.1 _ hw) (hX.2.2.2.2.1 _ hw1) (hX.2.2.2.2.1 _ hw2) (hX.2.2.2.2.1 _ hw3) hfr hlo hX.2.2.2.2.2.2.2.2.2.1.1 hX.2.2.2.2.2.2.2.2.2.1.2 hd (kk hX H locs la hP hS hl)

theorem g_mmin {idx : Nat} {x y : Int32} (hw : Cond.methodLink own idx Lib.Math.min.name ∈ gt) (hw1 : Cond.static Lib.Math.min.name ∈ gt) (hw2 : Cond.initialized "java/lang/Math" ∈ gt) (hw3 : Cond.code Lib.Math.min.name Lib.Math.min.code 2 (some .int) ∈ gt) (hfr : 1 ≤ R.frames) (hlo : (st.map fun v => v.category).sum + 13 ≤ R.locals) (hd : decode cc pc = .ok (.invokestatic idx, 3)) (hq : pc + 3 = q) (kk : G E lo n R X cc own nL ret Po q ls (.int (if y < x then y else x) :: st) σ τ) : G E lo n R X cc own nL ret Po pc ls (.int y :: .int x :: st) σ τ := by
  subst hq
  intro hX H locs la hP hS hl
  exact va_mmin hX.1 hX.2.1 (by rw [hX.2.2.1, hl.1]) hX.2.2.2.1 (hX.2.2.2.2.1 _ hw) (hX.2.2.2.2.1 _ hw1) (hX.2.2.2.2.1 _ hw2) (hX.2.2.2.2.1 _ hw3) hfr hlo hX.2.2.2.2.2.2.2.2.2.1.1 hX.2.2.2.2.2.2.2.2.2.1.2 hd (kk hX H locs la hP hS hl)
theorem g_mmaxL {idx : Nat} {x y : Int64} (hw : Cond.methodLink own idx Lib.MathLoose.max_long.x ∈ gt) (hw1 : Cond.static Lib.MathLoose.max_long.x ∈ gt) (hw2 : Cond.initialized "java/lang/Math" ∈ gt) (hw3 : Cond.code Lib.MathLoose.max_long.x Lib.MathLoose.max_long.code 4 (some .long) ∈ gt) (hfr : 1 ≤ R.frames) (hlo : (st.map fun v => v.category).sum + 15 ≤ R.locals) (hd : decode cc pc = .ok (.invokestatic idx, 3)) (hq : pc + 3 = q) (kk : G E lo n R X cc own nL ret Po q ls (.long (if y < x then x else y) :: st) σ τ) : G E lo n R X cc own nL ret Po pc ls (.long y :: .long x :: st) σ τ := by
  subst hq
  intro hX H locs la hP hS hl
  exact va_mmax_long hX.1 hX.2.1 (by rw [hX.2.2.1, hl.1]) hX.2.2.2.1 (hX.2.2.2.2.1 _ hw) (hX.2.2.2.2.1 _ hw1) (hX.2.2.2.2.1 _ hw2) (hX.2.2.2.2.1 _ hw3) hfr hlo hX.2.2.2.2.2.2.2.2.2.1.1 hX.2.2.2.2.2.2.2.2.2.1.2 hd (kk hX H locs la hP hS hl)
-- ends
theorem g_iret {v : Int32} (hd : decode cc pc = .ok (.ireturn, 1)) (h : Po (some (.int v)) σ τ) : G E lo n R X cc own nL (some .int) Po pc ls [.int v] σ τ := by
  intro hX H locs la hP hS hl
  unfold WX
  rw [hX.2.2.2.2.2.2.2.2.2.2 ⟨_, _, _, h⟩]
  exact W.iret hX.1 hX.2.1 hX.2.2.2.2.2.2.2.1 (fun t ht hW => ⟨⟨_, _, _, rfl, h, by rw [ht]; exact hP⟩, hS.F ht⟩) hS.2.2 hd hX.2.2.2.2.2.2.2.2.1
theorem g_zret {v : Int32} (hd : decode cc pc = .ok (.ireturn, 1)) (hn : narrow .boolean (.int v) = .int v) (h : Po (some (.int v)) σ τ) : G E lo n R X cc own nL (some .boolean) Po pc ls [.int v] σ τ := by
  intro hX H locs la hP hS hl
  unfold WX
  rw [hX.2.2.2.2.2.2.2.2.2.2 ⟨_, _, _, h⟩]
  exact W.zret hX.1 hX.2.1 hX.2.2.2.2.2.2.2.1 hn (fun t ht hW => ⟨⟨_, _, _, rfl, h, by rw [ht]; exact hP⟩, hS.F ht⟩) hS.2.2 hd hX.2.2.2.2.2.2.2.2.1
theorem g_vret (hd : decode cc pc = .ok (.return_, 1)) (h : Po none σ τ) : G E lo n R X cc own nL none Po pc ls [] σ τ := by
  intro hX H locs la hP hS hl
  unfold WX
  rw [hX.2.2.2.2.2.2.2.2.2.2 ⟨_, _, _, h⟩]
  exact W.vret hX.1 hX.2.1 hX.2.2.2.2.2.2.2.1 (fun t ht hW => ⟨⟨_, _, _, rfl, h, by rw [ht]; exact hP⟩, hS.F ht⟩) hS.2.2 hd hX.2.2.2.2.2.2.2.2.1
theorem g_lret {v : Int64} (hd : decode cc pc = .ok (.lreturn, 1)) (h : Po (some (.long v)) σ τ) : G E lo n R X cc own nL (some .long) Po pc ls [.long v] σ τ := by
  intro hX H locs la hP hS hl
  unfold WX
  rw [hX.2.2.2.2.2.2.2.2.2.2 ⟨_, _, _, h⟩]
  exact W.lret hX.1 hX.2.1 hX.2.2.2.2.2.2.2.1 (fun t ht hW => ⟨⟨_, _, _, rfl, h, by rw [ht]; exact hP⟩, hS.F ht⟩) hS.2.2 hd hX.2.2.2.2.2.2.2.2.1
theorem g_aret {a : Nat} {C : String} (hd : decode cc pc = .ok (.areturn, 1)) (h : Po (some (.ref a)) σ τ) : G E lo n R X cc own nL (some (.object C)) Po pc ls [.ref a] σ τ := by
  intro hX H locs la hP hS hl
  unfold WX
  rw [hX.2.2.2.2.2.2.2.2.2.2 ⟨_, _, _, h⟩]
  exact W.aret hX.1 hX.2.1 hX.2.2.2.2.2.2.2.1 (Or.inl ⟨_, rfl⟩) (Or.inr ⟨_, rfl⟩) (fun t ht hW => ⟨⟨_, _, _, rfl, h, by rw [ht]; exact hP⟩, hS.F ht⟩) hS.2.2 hd hX.2.2.2.2.2.2.2.2.1

end ROWS
/-- a method's contract: with these arguments and this store it ends as Po says -/
def Ct (E : EE) (lo n : Nat) (y : MethodName) (cb : ByteArray) (nL : Nat) (ret : Option FieldType) (rm : Room) (as : List Value) (σ : Sto) (τ : Stl) (Po : Option Value → Sto → Stl → Prop) : Prop :=
  Met E.1 y (Cond.code y cb nL ret :: gt) rm (va_Pc as (fun U => va_P E.2.2.1 cls (wr E lo n σ τ) U.heap ∧ va_K E.2.2.1 cls (tyl E) U)) (Qo E lo n Po) 0 0 (AA E lo n)
def Pi (v : Int32) (σ : Sto) (τ : Stl) : Option Value → Sto → Stl → Prop := fun r σ' τ' => r = some (.int v) ∧ σ' = σ ∧ τ' = τ
def Pl (v : Int64) (σ : Sto) (τ : Stl) : Option Value → Sto → Stl → Prop := fun r σ' τ' => r = some (.long v) ∧ σ' = σ ∧ τ' = τ
def Pv (σ : Sto) (τ : Stl) : Option Value → Sto → Stl → Prop := fun r σ' τ' => r = none ∧ σ' = σ ∧ τ' = τ
def Pr (a : Nat) (σ : Sto) (τ : Stl) : Option Value → Sto → Stl → Prop := fun r σ' τ' => r = some (.ref a) ∧ σ' = σ ∧ τ' = τ
def fl (vs : List Value) : List (Option Value) := vs.flatMap fun v => if v.category = 2 then [some v, none] else [some v]
def lsOf (vs : List Value) (nL : Nat) : List (Option Value) := fl vs ++ List.replicate (nL - (fl vs).length) none
theorem fl_at (vs : List Value) : ∀ (i : Nat) (v : Value), (fl vs)[i]? = some (some v) → (lg_sl vs)[i]? = some (.val v) := by
  induction vs with
  | nil => intro i v h; simp [fl] at h
  | cons w vs ih =>
    intro i v h
    by_cases hc : w.category = 2
    · have e1 : fl (w :: vs) = some w :: none :: fl vs := by simp [fl, hc]
      have e2 : lg_sl (w :: vs) = .val w :: .second :: lg_sl vs := by simp [lg_sl, hc]
      rw [e1] at h
      rw [e2]
      match i, h with
      | 0, h => simp at h; simp [h]
      | 1, h => simp at h
      | i + 2, h =>
        rw [List.getElem?_cons_succ, List.getElem?_cons_succ] at h ⊢
        exact ih i v h
    · have e1 : fl (w :: vs) = some w :: fl vs := by simp [fl, hc]
      have e2 : lg_sl (w :: vs) = .val w :: lg_sl vs := by simp [lg_sl, hc]
      rw [e1] at h
      rw [e2]
      match i, h with
      | 0, h => simp at h; simp [h]
      | i + 1, h =>
        rw [List.getElem?_cons_succ] at h ⊢
        exact ih i v h
theorem ct_of {E : EE} {lo n : Nat} (hE : inj E lo n) {y : MethodName} {cb : ByteArray} {nL : Nat} {ret : Option FieldType} {rm : Room} {as : List Value} {σ : Sto} {τ : Stl} {Po : Option Value → Sto → Stl → Prop} (own : String) (ls : List (Option Value)) (hy : plainName y.cls = true) (hown : y.cls = own) (hlen : (lg_sl as).length ≤ nL) (hls : lsOf as nL = ls) (h : ∀ X : XX, G E lo n rm X cb own nL ret Po 0 ls [] σ τ) : Ct E lo n y cb nL ret rm as σ τ Po := by
  unfold Ct
  refine Met.ofW (cc := cb) (maxL := nL) (ret := ret) hy rfl ?_
  intro p e s m args below meth c s₁ B hml hv
  obtain ⟨rfl, hP, hK⟩ := hv
  have hts := atoms_spec (ws := Cond.code y cb nL ret :: gt) B.pre
  have hfc : s.vm.findClass own = some m.cls := by rw [← hown]; exact findClass_of_methodNamed B.named
  have hl := lv_entry as (n := nL) hlen
  rw [lg_entry_eq]
  refine h (p, e, s, m, as.toArray, below, meth, c, 0, 0, MQ below (Qo E lo n Po) as.toArray s 0 0 (AA E lo n)) ⟨B.exec, B.bytes, hml, hfc, fun w hw => hts w (List.mem_cons_of_mem _ hw), hK, hE, B.returns, B.notSynchronized, ⟨Nat.zero_le _, Nat.zero_le _⟩, fun _ => rfl⟩ s.heap [] _ hP va_S.rf ⟨hl.1, hl.2.1, fun i v hv => ?_⟩
  rw [← hls] at hv
  unfold lsOf at hv
  have hi : i < (fl as).length := by
    rcases Nat.lt_or_ge i (fl as).length with h | h
    · exact h
    · rw [List.getElem?_append_right h] at hv
      have := List.eq_of_mem_replicate (List.mem_of_getElem? hv)
      cases this
  rw [List.getElem?_append_left hi] at hv
  have h2 := fl_at as i v hv
  rw [List.getElem?_toArray, List.getElem?_append_left (List.getElem?_eq_some_iff.mp h2).1]
  exact h2
theorem tbl_in {w : Cond} (h : w ∈ gt) : w ∈ gt ∧ ((w.onTables && w.keeps) = true ∨ ∃ ty, w = .arrayClass ty) := by
  refine ⟨h, ?_⟩
  have h1 := (List.mem_filter.mp h).2
  simp only [Bool.or_eq_true] at h1
  rcases h1 with h2 | h2
  · cases w <;> first | (simp [k2_isCode] at h2; done) | exact Or.inl rfl
  · exact good_of_word h2
/-- what the tables say of a call -/
def LkV (own : String) (idx : Nat) (y : MethodName) (cb : ByteArray) (nL : Nat) (ret : Option FieldType) (np : Nat) : Prop := Cond.methodLink own idx y ∈ gt ∧ Cond.instanceMethod y ∈ gt ∧ Cond.selects y.cls y y ∈ gt ∧ Cond.initialized y.cls ∈ gt ∧ Cond.code y cb nL ret ∈ gt ∧ y.cls ≠ "java/lang/invoke/MethodHandle" ∧ y.cls ≠ "java/lang/invoke/VarHandle" ∧ (parseMethodDescriptor y.desc).map (fun d => d.parameters.length) = some np
def LkS (own : String) (idx : Nat) (y : MethodName) (cb : ByteArray) (nL : Nat) (ret : Option FieldType) (np : Nat) : Prop := Cond.methodLink own idx y ∈ gt ∧ Cond.static y ∈ gt ∧ Cond.initialized y.cls ∈ gt ∧ Cond.code y cb nL ret ∈ gt ∧ y.cls ≠ "java/lang/invoke/MethodHandle" ∧ y.cls ≠ "java/lang/invoke/VarHandle" ∧ (parseMethodDescriptor y.desc).map (fun d => d.parameters.length) = some np
theorem good_code {w : Cond} (h : w ∈ gt) : GoodIn gt (w :: gt) := by
  intro v hv
  rcases List.mem_cons.mp hv with rfl | hv
  · exact tbl_in h
  · exact tbl_in hv
section CALLS
variable {E : EE} {lo n : Nat} {R : Room} {X : XX} {cc : ByteArray} {own : String} {nL : Nat} {ret : Option FieldType} {Po : Option Value → Sto → Stl → Prop} {pc q : Nat} {ls : List (Option Value)} {st stk : List Value} {σ : Sto} {τ : Stl} {y : MethodName} {cb : ByteArray} {nL' : Nat} {ret' : Option FieldType} {rm : Room} {As : List Value} {Po' : Option Value → Sto → Stl → Prop} {idx np k ci : Nat}
theorem w_call {g0 : JFrame} {H : Heap} {locs : List Loc} {a : Array Value} (hr : va_Run X.1 E.1 X.2.1 R X.2.2.1 X.2.2.2.1 X.2.2.2.2.1 X.2.2.2.2.2.1 X.2.2.2.2.2.2.1 X.2.2.2.2.2.2.2.1 H locs X.2.2.2.2.2.2.2.2.1 X.2.2.2.2.2.2.2.2.2.1 0 0 g0 st (Qo E lo n Po' a) (AA E lo n)) (hS : va_S (AA E lo n) X.2.2.1.heap H locs)
    (kk : ∀ r σ' τ', Po' r σ' τ' → ∀ (H1 : Heap) (locs1 : List Loc), va_P E.2.2.1 cls (wr E lo n σ' τ') H1 → va_S (AA E lo n) X.2.2.1.heap H1 locs1 → WX E R X H1 locs1 { g0 with pc := g0.pc + 3, stack := r.toList ++ st }) : WX E R X H locs g0 := by
  intro T hT XS
  obtain ⟨v, st₀, t, T', L, h0, X', hL, e1, e2, ⟨⟨r, σ', τ', hv, hp, hb⟩, hz, hk⟩, st2⟩ := hr T hT XS
  cases hv
  rw [h0] at hz hk
  obtain ⟨t2, a1, b1⟩ := kk v σ' τ' hp T'.heap (locs ++ L) (by rw [e1]; exact hb) ⟨Nat.le_trans hS.1 (by rw [e1]; exact hz), fun q h1 h2 => by rw [e1, hk q (Nat.lt_of_lt_of_le h1 hS.1) h2]; exact hS.2.1 q h1 h2, fun q hq => by
      rcases List.mem_append.mp hq with h | h
      · exact hS.2.2 q h
      · exact hL q h⟩ T' rfl X'
  exact ⟨t2, st2 t2 a1, b1⟩
theorem pre_blind {as : List Value} : FrameBlind (va_Pc as (fun U => va_P E.2.2.1 cls (wr E lo n σ τ) U.heap ∧ va_K E.2.2.1 cls (tyl E) U)) := fun a U g mk q => by
  obtain ⟨q0, qP, qK⟩ := q
  exact ⟨q0, qP, va_K.moved (u := U) (U := U.calling g mk a) (Vm.Alike.refl U.vm) qK⟩
/-- a call of an object's method -/
theorem g_callV {qc : vw_C} (ct : Ct E lo n y cb nL' ret' rm (.ref (E.2.1 k) :: As) σ τ Po') (lk : LkV own idx y cb nL' ret' np) (h1 : lo ≤ k) (h2 : k < lo + n) (hk : kd k = ci) (hc8 : ci < 8) (hqc : cls[ci]? = some qc) (hqy : qc.1 = y.cls) (hst : stk = As.reverse ++ .ref (E.2.1 k) :: st) (hnp : As.length = np) (hrc : rm.cells = 0) (hrs : rm.slots = 0) (hW : (st.map fun v => v.category).sum ≤ 8) (hfr : rm.frames + 1 ≤ R.frames) (hlo : 8 + (nL' + 11) + rm.locals ≤ R.locals) (hd : decode cc pc = .ok (.invokevirtual idx, 3)) (hq : pc + 3 = q)
    (kk : ∀ r σ' τ', Po' r σ' τ' → G E lo n R X cc own nL ret Po q ls (r.toList ++ st) σ' τ') : G E lo n R X cc own nL ret Po pc ls stk σ τ := by
  subst hq
  subst hst
  intro hX H locs la hP hS hl
  refine w_call (va_runV (C := y.cls) (As := As) (rest := st) (n := np) ⟨hX.1, hX.2.1, hX.2.2.1, hX.2.2.2.1, hX.2.2.2.2.1⟩ ct ⟨callB_of np hX.2.2.2.2.1 (good_code lk.2.2.2.2.1) rfl hrc hrs (hX.2.2.2.2.1 _ lk.2.2.2.1) (hX.2.2.2.2.1 _ lk.1) lk.2.2.2.2.2 ⟨hfr, hlo⟩, hX.2.2.2.2.1 _ lk.2.1, hX.2.2.2.2.1 _ lk.2.2.1⟩ ⟨pre_blind, ?_, fun U hU hWm => ⟨rfl, by rw [hU]; exact hP, va_K.moved hWm.alike hX.2.2.2.2.2.1⟩⟩ rfl hnp hl.1 rfl (by show 2 * 0 + _ ≤ 8; omega) hd ⟨hX.2.2.2.2.2.2.2.2.2.1.1, hX.2.2.2.2.2.2.2.2.2.1.2⟩) hS (fun r σ' τ' hp H1 locs1 hP1 hS1 => kk r σ' τ' hp hX H1 locs1 la hP1 hS1 hl)
  rw [← hqy]
  exact va_recv hX.2.2.2.2.2.1 hP hqc (by rw [wr_get h1 h2, ent_obj hk hc8])
/-- a call of a static method -/
theorem g_callS (ct : Ct E lo n y cb nL' ret' rm As σ τ Po') (lk : LkS own idx y cb nL' ret' np) (hst : stk = As.reverse ++ st) (hnp : As.length = np) (hrc : rm.cells = 0) (hrs : rm.slots = 0) (hW : (st.map fun v => v.category).sum ≤ 8) (hfr : rm.frames + 1 ≤ R.frames) (hlo : 8 + (nL' + 11) + rm.locals ≤ R.locals) (hd : decode cc pc = .ok (.invokestatic idx, 3)) (hq : pc + 3 = q)
    (kk : ∀ r σ' τ', Po' r σ' τ' → G E lo n R X cc own nL ret Po q ls (r.toList ++ st) σ' τ') : G E lo n R X cc own nL ret Po pc ls stk σ τ := by
  subst hq
  subst hst
  intro hX H locs la hP hS hl
  exact w_call (va_runS (As := As) (rest := st) (n := np) ⟨hX.1, hX.2.1, hX.2.2.1, hX.2.2.2.1, hX.2.2.2.2.1⟩ ct ⟨callB_of np hX.2.2.2.2.1 (good_code lk.2.2.2.1) rfl hrc hrs (hX.2.2.2.2.1 _ lk.2.2.1) (hX.2.2.2.2.1 _ lk.1) lk.2.2.2.2 ⟨hfr, hlo⟩, hX.2.2.2.2.1 _ lk.2.1⟩ ⟨pre_blind, fun U hU hWm => ⟨rfl, by rw [hU]; exact hP, va_K.moved hWm.alike hX.2.2.2.2.2.1⟩⟩ rfl hnp hl.1 rfl (by show 2 * 0 + _ ≤ 8; omega) hd ⟨hX.2.2.2.2.2.2.2.2.2.1.1, hX.2.2.2.2.2.2.2.2.2.1.2⟩) hS (fun r σ' τ' hp H1 locs1 hP1 hS1 => kk r σ' τ' hp hX H1 locs1 la hP1 hS1 hl)
end CALLS
end
