theorem in_gt (i : Nat) {w : Cond} (h : lw_tbl[i]? = some w) (h2 : (k2_isCode w || goodWord w) = true) : w ∈ gt := List.mem_filter.mpr ⟨List.mem_of_getElem? h, h2⟩
def R_law : String := "ColdGuestLaw"

set_option maxRecDepth 100000 in
theorem wd_259 : Cond.fieldLink RX0 11 "ColdGuest$Asker" "traced" "[I" ∈ gt := in_gt 259 (by decide +kernel) (by decide +kernel)
set_option maxRecDepth 100000 in
theorem wd_260 : Cond.fieldLink RX0 15 "ColdGuest$Asker" "length" "I" ∈ gt := in_gt 260 (by decide +kernel) (by decide +kernel)
set_option maxRecDepth 100000 in
theorem wd_829 : Jvm.Cond.constant RX0 19 (-1000000) ∈ gt := in_gt 829 (by decide +kernel) (by decide +kernel)
set_option maxRecDepth 100000 in
theorem wd_165 : Cond.fieldLink RX0 20 "ColdGuest$House" "kinds" "[I" ∈ gt := in_gt 165 (by decide +kernel) (by decide +kernel)
set_option maxRecDepth 100000 in
theorem wd_781 : Cond.methodLink RX0 25 yX0_readerSize ∈ gt := in_gt 781 (by decide +kernel) (by decide +kernel)
set_option maxRecDepth 100000 in
theorem wd_77 : Cond.initialized RX0 ∈ gt := in_gt 77 (by decide +kernel) (by decide +kernel)
set_option maxRecDepth 100000 in
theorem wd_784 : Cond.code yX0_readerSize cX0_readerSize 4 (some FieldType.int) ∈ gt := in_gt 784 (by decide +kernel) (by decide +kernel)
set_option maxRecDepth 100000 in
theorem wd_783 : Cond.instanceMethod yX0_readerSize ∈ gt := in_gt 783 (by decide +kernel) (by decide +kernel)
set_option maxRecDepth 100000 in
theorem wd_22 : Cond.selects RX0 yX0_readerSize yX0_readerSize ∈ gt := in_gt 22 (by decide +kernel) (by decide +kernel)
theorem lk_RX0_25 : LkV RX0 25 yX0_readerSize cX0_readerSize 4 (some FieldType.int) 2 := ⟨wd_781, wd_783, wd_22, wd_77, wd_784, by decide +kernel, by decide +kernel, by decide +kernel⟩
set_option maxRecDepth 100000 in
theorem wd_785 : Cond.methodLink RX0 29 yX0_begin ∈ gt := in_gt 785 (by decide +kernel) (by decide +kernel)
set_option maxRecDepth 100000 in
theorem wd_788 : Cond.code yX0_begin cX0_begin 2 none ∈ gt := in_gt 788 (by decide +kernel) (by decide +kernel)
set_option maxRecDepth 100000 in
theorem wd_787 : Cond.instanceMethod yX0_begin ∈ gt := in_gt 787 (by decide +kernel) (by decide +kernel)
set_option maxRecDepth 100000 in
theorem wd_23 : Cond.selects RX0 yX0_begin yX0_begin ∈ gt := in_gt 23 (by decide +kernel) (by decide +kernel)
theorem lk_RX0_29 : LkV RX0 29 yX0_begin cX0_begin 2 none 1 := ⟨wd_785, wd_787, wd_23, wd_77, wd_788, by decide +kernel, by decide +kernel, by decide +kernel⟩
set_option maxRecDepth 100000 in
theorem wd_805 : Cond.methodLink RX0 33 yX0_sizeOfFires ∈ gt := in_gt 805 (by decide +kernel) (by decide +kernel)
set_option maxRecDepth 100000 in
theorem wd_808 : Cond.code yX0_sizeOfFires cX0_sizeOfFires 3 (some FieldType.int) ∈ gt := in_gt 808 (by decide +kernel) (by decide +kernel)
set_option maxRecDepth 100000 in
theorem wd_807 : Cond.instanceMethod yX0_sizeOfFires ∈ gt := in_gt 807 (by decide +kernel) (by decide +kernel)
set_option maxRecDepth 100000 in
theorem wd_28 : Cond.selects RX0 yX0_sizeOfFires yX0_sizeOfFires ∈ gt := in_gt 28 (by decide +kernel) (by decide +kernel)
theorem lk_RX0_33 : LkV RX0 33 yX0_sizeOfFires cX0_sizeOfFires 3 (some FieldType.int) 2 := ⟨wd_805, wd_807, wd_28, wd_77, wd_808, by decide +kernel, by decide +kernel, by decide +kernel⟩
set_option maxRecDepth 100000 in
theorem wd_789 : Cond.methodLink RX0 36 yX0_lentSize ∈ gt := in_gt 789 (by decide +kernel) (by decide +kernel)
set_option maxRecDepth 100000 in
theorem wd_792 : Cond.code yX0_lentSize cX0_lentSize 3 (some FieldType.int) ∈ gt := in_gt 792 (by decide +kernel) (by decide +kernel)
set_option maxRecDepth 100000 in
theorem wd_791 : Cond.instanceMethod yX0_lentSize ∈ gt := in_gt 791 (by decide +kernel) (by decide +kernel)
set_option maxRecDepth 100000 in
theorem wd_24 : Cond.selects RX0 yX0_lentSize yX0_lentSize ∈ gt := in_gt 24 (by decide +kernel) (by decide +kernel)
theorem lk_RX0_36 : LkV RX0 36 yX0_lentSize cX0_lentSize 3 (some FieldType.int) 2 := ⟨wd_789, wd_791, wd_24, wd_77, wd_792, by decide +kernel, by decide +kernel, by decide +kernel⟩
set_option maxRecDepth 100000 in
theorem wd_793 : Cond.methodLink RX0 39 yX0_markOfReaders ∈ gt := in_gt 793 (by decide +kernel) (by decide +kernel)
set_option maxRecDepth 100000 in
theorem wd_796 : Cond.code yX0_markOfReaders cX0_markOfReaders 3 (some FieldType.int) ∈ gt := in_gt 796 (by decide +kernel) (by decide +kernel)
set_option maxRecDepth 100000 in
theorem wd_795 : Cond.instanceMethod yX0_markOfReaders ∈ gt := in_gt 795 (by decide +kernel) (by decide +kernel)
set_option maxRecDepth 100000 in
theorem wd_25 : Cond.selects RX0 yX0_markOfReaders yX0_markOfReaders ∈ gt := in_gt 25 (by decide +kernel) (by decide +kernel)
theorem lk_RX0_39 : LkV RX0 39 yX0_markOfReaders cX0_markOfReaders 3 (some FieldType.int) 2 := ⟨wd_793, wd_795, wd_25, wd_77, wd_796, by decide +kernel, by decide +kernel, by decide +kernel⟩
set_option maxRecDepth 100000 in
theorem wd_817 : Cond.methodLink RX0 42 yX0_fireMark ∈ gt := in_gt 817 (by decide +kernel) (by decide +kernel)
set_option maxRecDepth 100000 in
theorem wd_820 : Cond.code yX0_fireMark cX0_fireMark 4 (some FieldType.int) ∈ gt := in_gt 820 (by decide +kernel) (by decide +kernel)
set_option maxRecDepth 100000 in
theorem wd_819 : Cond.instanceMethod yX0_fireMark ∈ gt := in_gt 819 (by decide +kernel) (by decide +kernel)
set_option maxRecDepth 100000 in
theorem wd_30 : Cond.selects RX0 yX0_fireMark yX0_fireMark ∈ gt := in_gt 30 (by decide +kernel) (by decide +kernel)
theorem lk_RX0_42 : LkV RX0 42 yX0_fireMark cX0_fireMark 4 (some FieldType.int) 2 := ⟨wd_817, wd_819, wd_30, wd_77, wd_820, by decide +kernel, by decide +kernel, by decide +kernel⟩
set_option maxRecDepth 100000 in
theorem wd_801 : Cond.methodLink RX0 45 yX0_lentMark ∈ gt := in_gt 801 (by decide +kernel) (by decide +kernel)
set_option maxRecDepth 100000 in
theorem wd_804 : Cond.code yX0_lentMark cX0_lentMark 2 (some FieldType.int) ∈ gt := in_gt 804 (by decide +kernel) (by decide +kernel)
set_option maxRecDepth 100000 in
theorem wd_803 : Cond.instanceMethod yX0_lentMark ∈ gt := in_gt 803 (by decide +kernel) (by decide +kernel)
set_option maxRecDepth 100000 in
theorem wd_27 : Cond.selects RX0 yX0_lentMark yX0_lentMark ∈ gt := in_gt 27 (by decide +kernel) (by decide +kernel)
theorem lk_RX0_45 : LkV RX0 45 yX0_lentMark cX0_lentMark 2 (some FieldType.int) 1 := ⟨wd_801, wd_803, wd_27, wd_77, wd_804, by decide +kernel, by decide +kernel, by decide +kernel⟩
set_option maxRecDepth 100000 in
theorem wd_809 : Cond.methodLink RX0 49 yX0_fireSize ∈ gt := in_gt 809 (by decide +kernel) (by decide +kernel)
set_option maxRecDepth 100000 in
theorem wd_812 : Cond.code yX0_fireSize cX0_fireSize 3 (some FieldType.int) ∈ gt := in_gt 812 (by decide +kernel) (by decide +kernel)
set_option maxRecDepth 100000 in
theorem wd_811 : Cond.instanceMethod yX0_fireSize ∈ gt := in_gt 811 (by decide +kernel) (by decide +kernel)
set_option maxRecDepth 100000 in
theorem wd_29 : Cond.selects RX0 yX0_fireSize yX0_fireSize ∈ gt := in_gt 29 (by decide +kernel) (by decide +kernel)
theorem lk_RX0_49 : LkV RX0 49 yX0_fireSize cX0_fireSize 3 (some FieldType.int) 2 := ⟨wd_809, wd_811, wd_29, wd_77, wd_812, by decide +kernel, by decide +kernel, by decide +kernel⟩
set_option maxRecDepth 100000 in
theorem wd_797 : Cond.methodLink RX0 52 yX0_readerMark ∈ gt := in_gt 797 (by decide +kernel) (by decide +kernel)
set_option maxRecDepth 100000 in
theorem wd_800 : Cond.code yX0_readerMark cX0_readerMark 3 (some FieldType.int) ∈ gt := in_gt 800 (by decide +kernel) (by decide +kernel)
set_option maxRecDepth 100000 in
theorem wd_799 : Cond.instanceMethod yX0_readerMark ∈ gt := in_gt 799 (by decide +kernel) (by decide +kernel)
set_option maxRecDepth 100000 in
theorem wd_26 : Cond.selects RX0 yX0_readerMark yX0_readerMark ∈ gt := in_gt 26 (by decide +kernel) (by decide +kernel)
theorem lk_RX0_52 : LkV RX0 52 yX0_readerMark cX0_readerMark 3 (some FieldType.int) 2 := ⟨wd_797, wd_799, wd_26, wd_77, wd_800, by decide +kernel, by decide +kernel, by decide +kernel⟩
set_option maxRecDepth 100000 in
theorem wd_174 : Cond.fieldLink RX0 55 "ColdGuest$House" "forces" "[I" ∈ gt := in_gt 174 (by decide +kernel) (by decide +kernel)
set_option maxRecDepth 100000 in
theorem wd_172 : Cond.fieldLink RX0 58 "ColdGuest$House" "places" "[I" ∈ gt := in_gt 172 (by decide +kernel) (by decide +kernel)
set_option maxRecDepth 100000 in
theorem wd_160 : Cond.fieldLink RX1 11 "ColdGuest$House" "oneSide" "[I" ∈ gt := in_gt 160 (by decide +kernel) (by decide +kernel)
set_option maxRecDepth 100000 in
theorem wd_162 : Cond.fieldLink RX1 15 "ColdGuest$House" "otherSide" "[I" ∈ gt := in_gt 162 (by decide +kernel) (by decide +kernel)
set_option maxRecDepth 100000 in
theorem wd_164 : Cond.fieldLink RX1 18 "ColdGuest$House" "kinds" "[I" ∈ gt := in_gt 164 (by decide +kernel) (by decide +kernel)
set_option maxRecDepth 100000 in
theorem wd_168 : Cond.fieldLink RX1 21 "ColdGuest$House" "places" "[I" ∈ gt := in_gt 168 (by decide +kernel) (by decide +kernel)
set_option maxRecDepth 100000 in
theorem wd_173 : Cond.fieldLink RX1 24 "ColdGuest$House" "forces" "[I" ∈ gt := in_gt 173 (by decide +kernel) (by decide +kernel)
set_option maxRecDepth 100000 in
theorem wd_176 : Cond.fieldLink RX1 27 "ColdGuest$House" "cold" "[I" ∈ gt := in_gt 176 (by decide +kernel) (by decide +kernel)
set_option maxRecDepth 100000 in
theorem wd_138 : Cond.fieldLink RX1 30 "ColdGuest$House" "rooms" "I" ∈ gt := in_gt 138 (by decide +kernel) (by decide +kernel)
set_option maxRecDepth 100000 in
theorem wd_150 : Cond.fieldLink RX1 34 "ColdGuest$House" "doors" "I" ∈ gt := in_gt 150 (by decide +kernel) (by decide +kernel)
set_option maxRecDepth 100000 in
theorem wd_157 : Cond.fieldLink RX1 37 "ColdGuest$House" "sitters" "I" ∈ gt := in_gt 157 (by decide +kernel) (by decide +kernel)
set_option maxRecDepth 100000 in
theorem wd_148 : Cond.fieldLink RX1 40 "ColdGuest$House" "hour" "I" ∈ gt := in_gt 148 (by decide +kernel) (by decide +kernel)
set_option maxRecDepth 100000 in
theorem wd_154 : Cond.fieldLink RX1 43 "ColdGuest$House" "open" "I" ∈ gt := in_gt 154 (by decide +kernel) (by decide +kernel)
set_option maxRecDepth 100000 in
theorem wd_142 : Cond.fieldLink RX1 46 "ColdGuest$House" "in" "I" ∈ gt := in_gt 142 (by decide +kernel) (by decide +kernel)
set_option maxRecDepth 100000 in
theorem wd_144 : Cond.fieldLink RX1 49 "ColdGuest$House" "parts" "I" ∈ gt := in_gt 144 (by decide +kernel) (by decide +kernel)
set_option maxRecDepth 100000 in
theorem wd_145 : Cond.fieldLink RX1 52 "ColdGuest$House" "limit" "I" ∈ gt := in_gt 145 (by decide +kernel) (by decide +kernel)
set_option maxRecDepth 100000 in
theorem wd_452 : Cond.methodLink RX1 55 arraycopyName ∈ gt := in_gt 452 (by decide +kernel) (by decide +kernel)
set_option maxRecDepth 100000 in
theorem wd_354 : Cond.native arraycopyName ∈ gt := in_gt 354 (by decide +kernel) (by decide +kernel)
set_option maxRecDepth 100000 in
theorem wd_353 : Cond.static arraycopyName ∈ gt := in_gt 353 (by decide +kernel) (by decide +kernel)
set_option maxRecDepth 100000 in
theorem wd_79 : Cond.initialized "java/lang/System" ∈ gt := in_gt 79 (by decide +kernel) (by decide +kernel)
set_option maxRecDepth 100000 in
theorem wd_487 : Cond.methodLink RX1 61 yX1_passHours ∈ gt := in_gt 487 (by decide +kernel) (by decide +kernel)
set_option maxRecDepth 100000 in
theorem wd_74 : Cond.initialized RX1 ∈ gt := in_gt 74 (by decide +kernel) (by decide +kernel)
set_option maxRecDepth 100000 in
theorem wd_490 : Cond.code yX1_passHours cX1_passHours 5 none ∈ gt := in_gt 490 (by decide +kernel) (by decide +kernel)
set_option maxRecDepth 100000 in
theorem wd_488 : Cond.instanceMethod yX1_passHours ∈ gt := in_gt 488 (by decide +kernel) (by decide +kernel)
set_option maxRecDepth 100000 in
theorem wd_489 : Cond.selects RX1 yX1_passHours yX1_passHours ∈ gt := in_gt 489 (by decide +kernel) (by decide +kernel)
theorem lk_RX1_61 : LkV RX1 61 yX1_passHours cX1_passHours 5 none 1 := ⟨wd_487, wd_488, wd_489, wd_74, wd_490, by decide +kernel, by decide +kernel, by decide +kernel⟩
set_option maxRecDepth 100000 in
theorem wd_491 : Cond.methodLink RX1 65 yX1_roomsWith ∈ gt := in_gt 491 (by decide +kernel) (by decide +kernel)
set_option maxRecDepth 100000 in
theorem wd_494 : Cond.code yX1_roomsWith cX1_roomsWith 4 (some FieldType.int) ∈ gt := in_gt 494 (by decide +kernel) (by decide +kernel)
set_option maxRecDepth 100000 in
theorem wd_492 : Cond.instanceMethod yX1_roomsWith ∈ gt := in_gt 492 (by decide +kernel) (by decide +kernel)
set_option maxRecDepth 100000 in
theorem wd_493 : Cond.selects RX1 yX1_roomsWith yX1_roomsWith ∈ gt := in_gt 493 (by decide +kernel) (by decide +kernel)
theorem lk_RX1_65 : LkV RX1 65 yX1_roomsWith cX1_roomsWith 4 (some FieldType.int) 1 := ⟨wd_491, wd_492, wd_493, wd_74, wd_494, by decide +kernel, by decide +kernel, by decide +kernel⟩
set_option maxRecDepth 100000 in
theorem wd_495 : Cond.methodLink RX1 69 Lib.Math.min.name ∈ gt := in_gt 495 (by decide +kernel) (by decide +kernel)
set_option maxRecDepth 100000 in
theorem wd_496 : Cond.static Lib.Math.min.name ∈ gt := in_gt 496 (by decide +kernel) (by decide +kernel)
set_option maxRecDepth 100000 in
theorem wd_80 : Cond.initialized "java/lang/Math" ∈ gt := in_gt 80 (by decide +kernel) (by decide +kernel)
set_option maxRecDepth 100000 in
theorem wd_497 : Cond.code Lib.Math.min.name Lib.Math.min.code 2 (some FieldType.int) ∈ gt := in_gt 497 (by decide +kernel) (by decide +kernel)
set_option maxRecDepth 100000 in
theorem wd_498 : Cond.methodLink RX1 75 yX1_passDoors ∈ gt := in_gt 498 (by decide +kernel) (by decide +kernel)
set_option maxRecDepth 100000 in
theorem wd_501 : Cond.code yX1_passDoors cX1_passDoors 4 none ∈ gt := in_gt 501 (by decide +kernel) (by decide +kernel)
set_option maxRecDepth 100000 in
theorem wd_500 : Cond.instanceMethod yX1_passDoors ∈ gt := in_gt 500 (by decide +kernel) (by decide +kernel)
set_option maxRecDepth 100000 in
theorem wd_12 : Cond.selects RX1 yX1_passDoors yX1_passDoors ∈ gt := in_gt 12 (by decide +kernel) (by decide +kernel)
theorem lk_RX1_75 : LkV RX1 75 yX1_passDoors cX1_passDoors 4 none 2 := ⟨wd_498, wd_500, wd_12, wd_74, wd_501, by decide +kernel, by decide +kernel, by decide +kernel⟩
set_option maxRecDepth 100000 in
theorem wd_510 : Cond.methodLink RX1 79 yX1_passSitters ∈ gt := in_gt 510 (by decide +kernel) (by decide +kernel)
set_option maxRecDepth 100000 in
theorem wd_513 : Cond.code yX1_passSitters cX1_passSitters 4 none ∈ gt := in_gt 513 (by decide +kernel) (by decide +kernel)
set_option maxRecDepth 100000 in
theorem wd_512 : Cond.instanceMethod yX1_passSitters ∈ gt := in_gt 512 (by decide +kernel) (by decide +kernel)
set_option maxRecDepth 100000 in
theorem wd_14 : Cond.selects RX1 yX1_passSitters yX1_passSitters ∈ gt := in_gt 14 (by decide +kernel) (by decide +kernel)
theorem lk_RX1_79 : LkV RX1 79 yX1_passSitters cX1_passSitters 4 none 0 := ⟨wd_510, wd_512, wd_14, wd_74, wd_513, by decide +kernel, by decide +kernel, by decide +kernel⟩
set_option maxRecDepth 100000 in
theorem wd_502 : Cond.methodLink RX1 82 yX1_isOpen ∈ gt := in_gt 502 (by decide +kernel) (by decide +kernel)
set_option maxRecDepth 100000 in
theorem wd_505 : Cond.code yX1_isOpen cX1_isOpen 2 (some FieldType.boolean) ∈ gt := in_gt 505 (by decide +kernel) (by decide +kernel)
set_option maxRecDepth 100000 in
theorem wd_503 : Cond.instanceMethod yX1_isOpen ∈ gt := in_gt 503 (by decide +kernel) (by decide +kernel)
set_option maxRecDepth 100000 in
theorem wd_504 : Cond.selects RX1 yX1_isOpen yX1_isOpen ∈ gt := in_gt 504 (by decide +kernel) (by decide +kernel)
theorem lk_RX1_82 : LkV RX1 82 yX1_isOpen cX1_isOpen 2 (some FieldType.boolean) 1 := ⟨wd_502, wd_503, wd_504, wd_74, wd_505, by decide +kernel, by decide +kernel, by decide +kernel⟩
set_option maxRecDepth 100000 in
theorem wd_506 : Cond.methodLink RX1 86 yX1_flow ∈ gt := in_gt 506 (by decide +kernel) (by decide +kernel)
set_option maxRecDepth 100000 in
theorem wd_509 : Cond.code yX1_flow cX1_flow 8 none ∈ gt := in_gt 509 (by decide +kernel) (by decide +kernel)
set_option maxRecDepth 100000 in
theorem wd_508 : Cond.instanceMethod yX1_flow ∈ gt := in_gt 508 (by decide +kernel) (by decide +kernel)
set_option maxRecDepth 100000 in
theorem wd_13 : Cond.selects RX1 yX1_flow yX1_flow ∈ gt := in_gt 13 (by decide +kernel) (by decide +kernel)
theorem lk_RX1_86 : LkV RX1 86 yX1_flow cX1_flow 8 none 4 := ⟨wd_506, wd_508, wd_13, wd_74, wd_509, by decide +kernel, by decide +kernel, by decide +kernel⟩
set_option maxRecDepth 100000 in
theorem wd_514 : Cond.methodLink RX1 90 yX1_chill ∈ gt := in_gt 514 (by decide +kernel) (by decide +kernel)
set_option maxRecDepth 100000 in
theorem wd_516 : Cond.code yX1_chill cX1_chill 2 (some FieldType.int) ∈ gt := in_gt 516 (by decide +kernel) (by decide +kernel)
set_option maxRecDepth 100000 in
theorem wd_515 : Cond.static yX1_chill ∈ gt := in_gt 515 (by decide +kernel) (by decide +kernel)
theorem lk_RX1_90 : LkS RX1 90 yX1_chill cX1_chill 2 (some FieldType.int) 2 := ⟨wd_514, wd_515, wd_74, wd_516, by decide +kernel, by decide +kernel, by decide +kernel⟩
set_option maxRecDepth 100000 in
theorem wd_517 : Cond.methodLink RX1 93 Lib.Math.max.name ∈ gt := in_gt 517 (by decide +kernel) (by decide +kernel)
set_option maxRecDepth 100000 in
theorem wd_518 : Cond.static Lib.Math.max.name ∈ gt := in_gt 518 (by decide +kernel) (by decide +kernel)
set_option maxRecDepth 100000 in
theorem wd_519 : Cond.code Lib.Math.max.name Lib.Math.max.code 2 (some FieldType.int) ∈ gt := in_gt 519 (by decide +kernel) (by decide +kernel)
set_option maxRecDepth 100000 in
theorem wd_605 : Cond.methodLink RX1 96 yX1_isShivering ∈ gt := in_gt 605 (by decide +kernel) (by decide +kernel)
set_option maxRecDepth 100000 in
theorem wd_573 : Cond.code yX1_isShivering cX1_isShivering 2 (some FieldType.boolean) ∈ gt := in_gt 573 (by decide +kernel) (by decide +kernel)
set_option maxRecDepth 100000 in
theorem wd_571 : Cond.instanceMethod yX1_isShivering ∈ gt := in_gt 571 (by decide +kernel) (by decide +kernel)
set_option maxRecDepth 100000 in
theorem wd_572 : Cond.selects RX1 yX1_isShivering yX1_isShivering ∈ gt := in_gt 572 (by decide +kernel) (by decide +kernel)
theorem lk_RX1_96 : LkV RX1 96 yX1_isShivering cX1_isShivering 2 (some FieldType.boolean) 1 := ⟨wd_605, wd_571, wd_572, wd_74, wd_573, by decide +kernel, by decide +kernel, by decide +kernel⟩
set_option maxRecDepth 100000 in
theorem wd_215 : Cond.fieldLink RX2 11 "ColdGuest$Past" "was" "[I" ∈ gt := in_gt 215 (by decide +kernel) (by decide +kernel)
set_option maxRecDepth 100000 in
theorem wd_217 : Cond.fieldLink RX2 15 "ColdGuest$Past" "held" "I" ∈ gt := in_gt 217 (by decide +kernel) (by decide +kernel)
set_option maxRecDepth 100000 in
theorem wd_216 : Cond.fieldLink RX2 19 "ColdGuest$Past" "oldest" "I" ∈ gt := in_gt 216 (by decide +kernel) (by decide +kernel)
set_option maxRecDepth 100000 in
theorem wd_147 : Cond.fieldLink RX2 22 "ColdGuest$House" "hour" "I" ∈ gt := in_gt 147 (by decide +kernel) (by decide +kernel)
set_option maxRecDepth 100000 in
theorem wd_153 : Cond.fieldLink RX2 25 "ColdGuest$House" "open" "I" ∈ gt := in_gt 153 (by decide +kernel) (by decide +kernel)
set_option maxRecDepth 100000 in
theorem wd_177 : Cond.fieldLink RX2 28 "ColdGuest$House" "cold" "[I" ∈ gt := in_gt 177 (by decide +kernel) (by decide +kernel)
set_option maxRecDepth 100000 in
theorem wd_470 : Cond.methodLink RX2 31 arraycopyName ∈ gt := in_gt 470 (by decide +kernel) (by decide +kernel)
set_option maxRecDepth 100000 in
theorem wd_169 : Cond.fieldLink RX2 37 "ColdGuest$House" "places" "[I" ∈ gt := in_gt 169 (by decide +kernel) (by decide +kernel)
set_option maxRecDepth 100000 in
theorem wd_96 : Cond.fieldLink RX3 9 "ColdGuest$Rows" "items" "[I" ∈ gt := in_gt 96 (by decide +kernel) (by decide +kernel)
set_option maxRecDepth 100000 in
theorem wd_97 : Cond.fieldLink RX3 13 "ColdGuest$Rows" "lanes" "[I" ∈ gt := in_gt 97 (by decide +kernel) (by decide +kernel)
set_option maxRecDepth 100000 in
theorem wd_98 : Cond.fieldLink RX3 16 "ColdGuest$Rows" "sizes" "[I" ∈ gt := in_gt 98 (by decide +kernel) (by decide +kernel)
set_option maxRecDepth 100000 in
theorem wd_337 : Cond.methodLink RX3 19 yX3_lowestBits ∈ gt := in_gt 337 (by decide +kernel) (by decide +kernel)
set_option maxRecDepth 100000 in
theorem wd_72 : Cond.initialized RX3 ∈ gt := in_gt 72 (by decide +kernel) (by decide +kernel)
set_option maxRecDepth 100000 in
theorem wd_339 : Cond.code yX3_lowestBits cX3_lowestBits 2 (some FieldType.int) ∈ gt := in_gt 339 (by decide +kernel) (by decide +kernel)
set_option maxRecDepth 100000 in
theorem wd_338 : Cond.static yX3_lowestBits ∈ gt := in_gt 338 (by decide +kernel) (by decide +kernel)
theorem lk_RX3_19 : LkS RX3 19 yX3_lowestBits cX3_lowestBits 2 (some FieldType.int) 2 := ⟨wd_337, wd_338, wd_72, wd_339, by decide +kernel, by decide +kernel, by decide +kernel⟩
set_option maxRecDepth 100000 in
theorem wd_352 : Cond.methodLink RX3 23 arraycopyName ∈ gt := in_gt 352 (by decide +kernel) (by decide +kernel)
set_option maxRecDepth 100000 in
theorem wd_234 : Cond.fieldLink RX4 12 "ColdGuest$Seer" "trial" "LColdGuest$House;" ∈ gt := in_gt 234 (by decide +kernel) (by decide +kernel)
set_option maxRecDepth 100000 in
theorem wd_236 : Cond.fieldLink RX4 18 "ColdGuest$Seer" "first" "I" ∈ gt := in_gt 236 (by decide +kernel) (by decide +kernel)
set_option maxRecDepth 100000 in
theorem wd_237 : Cond.fieldLink RX4 22 "ColdGuest$Seer" "second" "I" ∈ gt := in_gt 237 (by decide +kernel) (by decide +kernel)
set_option maxRecDepth 100000 in
theorem wd_582 : Cond.methodLink RX4 25 yX1_become ∈ gt := in_gt 582 (by decide +kernel) (by decide +kernel)
set_option maxRecDepth 100000 in
theorem wd_451 : Cond.code yX1_become cX1_become 2 none ∈ gt := in_gt 451 (by decide +kernel) (by decide +kernel)
set_option maxRecDepth 100000 in
theorem wd_449 : Cond.instanceMethod yX1_become ∈ gt := in_gt 449 (by decide +kernel) (by decide +kernel)
set_option maxRecDepth 100000 in
theorem wd_450 : Cond.selects RX1 yX1_become yX1_become ∈ gt := in_gt 450 (by decide +kernel) (by decide +kernel)
theorem lk_RX4_25 : LkV RX4 25 yX1_become cX1_become 2 none 1 := ⟨wd_582, wd_449, wd_450, wd_74, wd_451, by decide +kernel, by decide +kernel, by decide +kernel⟩
set_option maxRecDepth 100000 in
theorem wd_583 : Cond.methodLink RX4 29 yX1_passHours ∈ gt := in_gt 583 (by decide +kernel) (by decide +kernel)
theorem lk_RX4_29 : LkV RX4 29 yX1_passHours cX1_passHours 5 none 1 := ⟨wd_583, wd_488, wd_489, wd_74, wd_490, by decide +kernel, by decide +kernel, by decide +kernel⟩
set_option maxRecDepth 100000 in
theorem wd_596 : Jvm.Cond.constant RX4 33 (-1000000) ∈ gt := in_gt 596 (by decide +kernel) (by decide +kernel)
set_option maxRecDepth 100000 in
theorem wd_597 : Cond.methodLink RX4 34 yX4_tell ∈ gt := in_gt 597 (by decide +kernel) (by decide +kernel)
set_option maxRecDepth 100000 in
theorem wd_76 : Cond.initialized RX4 ∈ gt := in_gt 76 (by decide +kernel) (by decide +kernel)
set_option maxRecDepth 100000 in
theorem wd_600 : Cond.code yX4_tell cX4_tell 3 none ∈ gt := in_gt 600 (by decide +kernel) (by decide +kernel)
set_option maxRecDepth 100000 in
theorem wd_599 : Cond.instanceMethod yX4_tell ∈ gt := in_gt 599 (by decide +kernel) (by decide +kernel)
set_option maxRecDepth 100000 in
theorem wd_15 : Cond.selects RX4 yX4_tell yX4_tell ∈ gt := in_gt 15 (by decide +kernel) (by decide +kernel)
theorem lk_RX4_34 : LkV RX4 34 yX4_tell cX4_tell 3 none 2 := ⟨wd_597, wd_599, wd_15, wd_76, wd_600, by decide +kernel, by decide +kernel, by decide +kernel⟩
set_option maxRecDepth 100000 in
theorem wd_601 : Cond.methodLink RX4 38 yX1_firstShivering ∈ gt := in_gt 601 (by decide +kernel) (by decide +kernel)
set_option maxRecDepth 100000 in
theorem wd_604 : Cond.code yX1_firstShivering cX1_firstShivering 2 (some FieldType.int) ∈ gt := in_gt 604 (by decide +kernel) (by decide +kernel)
set_option maxRecDepth 100000 in
theorem wd_602 : Cond.instanceMethod yX1_firstShivering ∈ gt := in_gt 602 (by decide +kernel) (by decide +kernel)
set_option maxRecDepth 100000 in
theorem wd_603 : Cond.selects RX1 yX1_firstShivering yX1_firstShivering ∈ gt := in_gt 603 (by decide +kernel) (by decide +kernel)
theorem lk_RX4_38 : LkV RX4 38 yX1_firstShivering cX1_firstShivering 2 (some FieldType.int) 0 := ⟨wd_601, wd_602, wd_603, wd_74, wd_604, by decide +kernel, by decide +kernel, by decide +kernel⟩
set_option maxRecDepth 100000 in
theorem wd_606 : Cond.methodLink RX4 42 yX1_passHour ∈ gt := in_gt 606 (by decide +kernel) (by decide +kernel)
set_option maxRecDepth 100000 in
theorem wd_486 : Cond.code yX1_passHour cX1_passHour 1 none ∈ gt := in_gt 486 (by decide +kernel) (by decide +kernel)
set_option maxRecDepth 100000 in
theorem wd_484 : Cond.instanceMethod yX1_passHour ∈ gt := in_gt 484 (by decide +kernel) (by decide +kernel)
set_option maxRecDepth 100000 in
theorem wd_485 : Cond.selects RX1 yX1_passHour yX1_passHour ∈ gt := in_gt 485 (by decide +kernel) (by decide +kernel)
theorem lk_RX4_42 : LkV RX4 42 yX1_passHour cX1_passHour 1 none 0 := ⟨wd_606, wd_484, wd_485, wd_74, wd_486, by decide +kernel, by decide +kernel, by decide +kernel⟩
set_option maxRecDepth 100000 in
theorem wd_151 : Cond.fieldLink RX4 45 "ColdGuest$House" "doors" "I" ∈ gt := in_gt 151 (by decide +kernel) (by decide +kernel)
set_option maxRecDepth 100000 in
theorem wd_623 : Cond.methodLink RX4 48 yJ6_bitCount_0f7a4 ∈ gt := in_gt 623 (by decide +kernel) (by decide +kernel)
set_option maxRecDepth 100000 in
theorem wd_81 : Cond.initialized RJ6 ∈ gt := in_gt 81 (by decide +kernel) (by decide +kernel)
set_option maxRecDepth 100000 in
theorem wd_625 : Cond.code yJ6_bitCount_0f7a4 cJ6_bitCount_0f7a4 1 (some FieldType.int) ∈ gt := in_gt 625 (by decide +kernel) (by decide +kernel)
set_option maxRecDepth 100000 in
theorem wd_624 : Cond.static yJ6_bitCount_0f7a4 ∈ gt := in_gt 624 (by decide +kernel) (by decide +kernel)
theorem lk_RX4_48 : LkS RX4 48 yJ6_bitCount_0f7a4 cJ6_bitCount_0f7a4 1 (some FieldType.int) 1 := ⟨wd_623, wd_624, wd_81, wd_625, by decide +kernel, by decide +kernel, by decide +kernel⟩
set_option maxRecDepth 100000 in
theorem wd_629 : Cond.methodLink RX4 54 yX4_lookWithMoved ∈ gt := in_gt 629 (by decide +kernel) (by decide +kernel)
set_option maxRecDepth 100000 in
theorem wd_632 : Cond.code yX4_lookWithMoved cX4_lookWithMoved 4 none ∈ gt := in_gt 632 (by decide +kernel) (by decide +kernel)
set_option maxRecDepth 100000 in
theorem wd_631 : Cond.instanceMethod yX4_lookWithMoved ∈ gt := in_gt 631 (by decide +kernel) (by decide +kernel)
set_option maxRecDepth 100000 in
theorem wd_16 : Cond.selects RX4 yX4_lookWithMoved yX4_lookWithMoved ∈ gt := in_gt 16 (by decide +kernel) (by decide +kernel)
theorem lk_RX4_54 : LkV RX4 54 yX4_lookWithMoved cX4_lookWithMoved 4 none 3 := ⟨wd_629, wd_631, wd_16, wd_76, wd_632, by decide +kernel, by decide +kernel, by decide +kernel⟩
set_option maxRecDepth 100000 in
theorem wd_634 : Cond.methodLink RX4 58 yX4_isColdAndWarm ∈ gt := in_gt 634 (by decide +kernel) (by decide +kernel)
set_option maxRecDepth 100000 in
theorem wd_637 : Cond.code yX4_isColdAndWarm cX4_isColdAndWarm 6 (some FieldType.boolean) ∈ gt := in_gt 637 (by decide +kernel) (by decide +kernel)
set_option maxRecDepth 100000 in
theorem wd_636 : Cond.instanceMethod yX4_isColdAndWarm ∈ gt := in_gt 636 (by decide +kernel) (by decide +kernel)
set_option maxRecDepth 100000 in
theorem wd_17 : Cond.selects RX4 yX4_isColdAndWarm yX4_isColdAndWarm ∈ gt := in_gt 17 (by decide +kernel) (by decide +kernel)
theorem lk_RX4_58 : LkV RX4 58 yX4_isColdAndWarm cX4_isColdAndWarm 6 (some FieldType.boolean) 3 := ⟨wd_634, wd_636, wd_17, wd_76, wd_637, by decide +kernel, by decide +kernel, by decide +kernel⟩
set_option maxRecDepth 100000 in
theorem wd_633 : Cond.methodLink RX4 62 yX1_moveDoors ∈ gt := in_gt 633 (by decide +kernel) (by decide +kernel)
set_option maxRecDepth 100000 in
theorem wd_536 : Cond.code yX1_moveDoors cX1_moveDoors 2 none ∈ gt := in_gt 536 (by decide +kernel) (by decide +kernel)
set_option maxRecDepth 100000 in
theorem wd_534 : Cond.instanceMethod yX1_moveDoors ∈ gt := in_gt 534 (by decide +kernel) (by decide +kernel)
set_option maxRecDepth 100000 in
theorem wd_535 : Cond.selects RX1 yX1_moveDoors yX1_moveDoors ∈ gt := in_gt 535 (by decide +kernel) (by decide +kernel)
theorem lk_RX4_62 : LkV RX4 62 yX1_moveDoors cX1_moveDoors 2 none 1 := ⟨wd_633, wd_534, wd_535, wd_74, wd_536, by decide +kernel, by decide +kernel, by decide +kernel⟩
set_option maxRecDepth 100000 in
theorem wd_139 : Cond.fieldLink RX4 65 "ColdGuest$House" "rooms" "I" ∈ gt := in_gt 139 (by decide +kernel) (by decide +kernel)
set_option maxRecDepth 100000 in
theorem wd_178 : Cond.fieldLink RX4 68 "ColdGuest$House" "cold" "[I" ∈ gt := in_gt 178 (by decide +kernel) (by decide +kernel)
set_option maxRecDepth 100000 in
theorem wd_170 : Cond.fieldLink RX4 72 "ColdGuest$House" "places" "[I" ∈ gt := in_gt 170 (by decide +kernel) (by decide +kernel)
set_option maxRecDepth 100000 in
theorem wd_654 : Cond.methodLink RX4 75 yX4_hoursUntil ∈ gt := in_gt 654 (by decide +kernel) (by decide +kernel)
set_option maxRecDepth 100000 in
theorem wd_657 : Cond.code yX4_hoursUntil cX4_hoursUntil 5 (some FieldType.int) ∈ gt := in_gt 657 (by decide +kernel) (by decide +kernel)
set_option maxRecDepth 100000 in
theorem wd_656 : Cond.instanceMethod yX4_hoursUntil ∈ gt := in_gt 656 (by decide +kernel) (by decide +kernel)
set_option maxRecDepth 100000 in
theorem wd_18 : Cond.selects RX4 yX4_hoursUntil yX4_hoursUntil ∈ gt := in_gt 18 (by decide +kernel) (by decide +kernel)
theorem lk_RX4_75 : LkV RX4 75 yX4_hoursUntil cX4_hoursUntil 5 (some FieldType.int) 3 := ⟨wd_654, wd_656, wd_18, wd_76, wd_657, by decide +kernel, by decide +kernel, by decide +kernel⟩
set_option maxRecDepth 100000 in
theorem wd_159 : Cond.fieldLink RX4 79 "ColdGuest$House" "sitters" "I" ∈ gt := in_gt 159 (by decide +kernel) (by decide +kernel)
set_option maxRecDepth 100000 in
theorem wd_143 : Cond.fieldLink RX4 82 "ColdGuest$House" "in" "I" ∈ gt := in_gt 143 (by decide +kernel) (by decide +kernel)
set_option maxRecDepth 100000 in
theorem wd_666 : Cond.methodLink RX4 85 yX4_isAsTold ∈ gt := in_gt 666 (by decide +kernel) (by decide +kernel)
set_option maxRecDepth 100000 in
theorem wd_669 : Cond.code yX4_isAsTold cX4_isAsTold 8 (some FieldType.boolean) ∈ gt := in_gt 669 (by decide +kernel) (by decide +kernel)
set_option maxRecDepth 100000 in
theorem wd_668 : Cond.instanceMethod yX4_isAsTold ∈ gt := in_gt 668 (by decide +kernel) (by decide +kernel)
set_option maxRecDepth 100000 in
theorem wd_19 : Cond.selects RX4 yX4_isAsTold yX4_isAsTold ∈ gt := in_gt 19 (by decide +kernel) (by decide +kernel)
theorem lk_RX4_85 : LkV RX4 85 yX4_isAsTold cX4_isAsTold 8 (some FieldType.boolean) 4 := ⟨wd_666, wd_668, wd_19, wd_76, wd_669, by decide +kernel, by decide +kernel, by decide +kernel⟩
set_option maxRecDepth 100000 in
theorem wd_166 : Cond.fieldLink RX4 89 "ColdGuest$House" "kinds" "[I" ∈ gt := in_gt 166 (by decide +kernel) (by decide +kernel)
set_option maxRecDepth 100000 in
theorem wd_670 : Cond.methodLink RX4 92 yX3_item ∈ gt := in_gt 670 (by decide +kernel) (by decide +kernel)
set_option maxRecDepth 100000 in
theorem wd_673 : Cond.code yX3_item cX3_item 3 (some FieldType.int) ∈ gt := in_gt 673 (by decide +kernel) (by decide +kernel)
set_option maxRecDepth 100000 in
theorem wd_671 : Cond.instanceMethod yX3_item ∈ gt := in_gt 671 (by decide +kernel) (by decide +kernel)
set_option maxRecDepth 100000 in
theorem wd_672 : Cond.selects RX3 yX3_item yX3_item ∈ gt := in_gt 672 (by decide +kernel) (by decide +kernel)
theorem lk_RX4_92 : LkV RX4 92 yX3_item cX3_item 3 (some FieldType.int) 2 := ⟨wd_670, wd_671, wd_672, wd_72, wd_673, by decide +kernel, by decide +kernel, by decide +kernel⟩
set_option maxRecDepth 100000 in
theorem wd_156 : Cond.fieldLink RX4 98 "ColdGuest$House" "open" "I" ∈ gt := in_gt 156 (by decide +kernel) (by decide +kernel)
set_option maxRecDepth 100000 in
theorem wd_690 : Cond.methodLink RX4 101 yX4_isPartedBy ∈ gt := in_gt 690 (by decide +kernel) (by decide +kernel)
set_option maxRecDepth 100000 in
theorem wd_692 : Cond.code yX4_isPartedBy cX4_isPartedBy 4 (some FieldType.boolean) ∈ gt := in_gt 692 (by decide +kernel) (by decide +kernel)
set_option maxRecDepth 100000 in
theorem wd_691 : Cond.static yX4_isPartedBy ∈ gt := in_gt 691 (by decide +kernel) (by decide +kernel)
theorem lk_RX4_101 : LkS RX4 101 yX4_isPartedBy cX4_isPartedBy 4 (some FieldType.boolean) 4 := ⟨wd_690, wd_691, wd_76, wd_692, by decide +kernel, by decide +kernel, by decide +kernel⟩
set_option maxRecDepth 100000 in
theorem wd_693 : Cond.methodLink RX4 105 yX1_roomsLedTo ∈ gt := in_gt 693 (by decide +kernel) (by decide +kernel)
set_option maxRecDepth 100000 in
theorem wd_696 : Cond.code yX1_roomsLedTo cX1_roomsLedTo 7 (some FieldType.int) ∈ gt := in_gt 696 (by decide +kernel) (by decide +kernel)
set_option maxRecDepth 100000 in
theorem wd_694 : Cond.instanceMethod yX1_roomsLedTo ∈ gt := in_gt 694 (by decide +kernel) (by decide +kernel)
set_option maxRecDepth 100000 in
theorem wd_695 : Cond.selects RX1 yX1_roomsLedTo yX1_roomsLedTo ∈ gt := in_gt 695 (by decide +kernel) (by decide +kernel)
theorem lk_RX4_105 : LkV RX4 105 yX1_roomsLedTo cX1_roomsLedTo 7 (some FieldType.int) 2 := ⟨wd_693, wd_694, wd_695, wd_74, wd_696, by decide +kernel, by decide +kernel, by decide +kernel⟩
set_option maxRecDepth 100000 in
theorem wd_705 : Cond.methodLink RX4 108 yX4_look ∈ gt := in_gt 705 (by decide +kernel) (by decide +kernel)
set_option maxRecDepth 100000 in
theorem wd_581 : Cond.code yX4_look cX4_look 3 none ∈ gt := in_gt 581 (by decide +kernel) (by decide +kernel)
set_option maxRecDepth 100000 in
theorem wd_579 : Cond.instanceMethod yX4_look ∈ gt := in_gt 579 (by decide +kernel) (by decide +kernel)
set_option maxRecDepth 100000 in
theorem wd_580 : Cond.selects RX4 yX4_look yX4_look ∈ gt := in_gt 580 (by decide +kernel) (by decide +kernel)
theorem lk_RX4_108 : LkV RX4 108 yX4_look cX4_look 3 none 2 := ⟨wd_705, wd_579, wd_580, wd_76, wd_581, by decide +kernel, by decide +kernel, by decide +kernel⟩
set_option maxRecDepth 100000 in
theorem wd_146 : Cond.fieldLink RX4 112 "ColdGuest$House" "limit" "I" ∈ gt := in_gt 146 (by decide +kernel) (by decide +kernel)
set_option maxRecDepth 100000 in
theorem wd_721 : Cond.methodLink RX4 115 yX4_power ∈ gt := in_gt 721 (by decide +kernel) (by decide +kernel)
set_option maxRecDepth 100000 in
theorem wd_723 : Cond.code yX4_power cX4_power 5 (some FieldType.long) ∈ gt := in_gt 723 (by decide +kernel) (by decide +kernel)
set_option maxRecDepth 100000 in
theorem wd_722 : Cond.static yX4_power ∈ gt := in_gt 722 (by decide +kernel) (by decide +kernel)
theorem lk_RX4_115 : LkS RX4 115 yX4_power cX4_power 5 (some FieldType.long) 2 := ⟨wd_721, wd_722, wd_76, wd_723, by decide +kernel, by decide +kernel, by decide +kernel⟩
set_option maxRecDepth 100000 in
theorem wd_724 : Cond.methodLink RX4 119 yX4_tellFraction ∈ gt := in_gt 724 (by decide +kernel) (by decide +kernel)
set_option maxRecDepth 100000 in
theorem wd_727 : Cond.code yX4_tellFraction cX4_tellFraction 7 none ∈ gt := in_gt 727 (by decide +kernel) (by decide +kernel)
set_option maxRecDepth 100000 in
theorem wd_726 : Cond.instanceMethod yX4_tellFraction ∈ gt := in_gt 726 (by decide +kernel) (by decide +kernel)
set_option maxRecDepth 100000 in
theorem wd_20 : Cond.selects RX4 yX4_tellFraction yX4_tellFraction ∈ gt := in_gt 20 (by decide +kernel) (by decide +kernel)
theorem lk_RX4_119 : LkV RX4 119 yX4_tellFraction cX4_tellFraction 7 none 2 := ⟨wd_724, wd_726, wd_20, wd_76, wd_727, by decide +kernel, by decide +kernel, by decide +kernel⟩
set_option maxRecDepth 100000 in
theorem wd_728 : Cond.methodLink RX4 123 yX4_divisorOfBoth ∈ gt := in_gt 728 (by decide +kernel) (by decide +kernel)
set_option maxRecDepth 100000 in
theorem wd_730 : Cond.code yX4_divisorOfBoth cX4_divisorOfBoth 11 (some FieldType.long) ∈ gt := in_gt 730 (by decide +kernel) (by decide +kernel)
set_option maxRecDepth 100000 in
theorem wd_729 : Cond.static yX4_divisorOfBoth ∈ gt := in_gt 729 (by decide +kernel) (by decide +kernel)
theorem lk_RX4_123 : LkS RX4 123 yX4_divisorOfBoth cX4_divisorOfBoth 11 (some FieldType.long) 2 := ⟨wd_728, wd_729, wd_76, wd_730, by decide +kernel, by decide +kernel, by decide +kernel⟩
set_option maxRecDepth 100000 in
theorem wd_731 : Cond.methodLink RX4 127 Lib.MathLoose.max_long.x ∈ gt := in_gt 731 (by decide +kernel) (by decide +kernel)
set_option maxRecDepth 100000 in
theorem wd_732 : Cond.static Lib.MathLoose.max_long.x ∈ gt := in_gt 732 (by decide +kernel) (by decide +kernel)
set_option maxRecDepth 100000 in
theorem wd_733 : Cond.code Lib.MathLoose.max_long.x Lib.MathLoose.max_long.code 4 (some FieldType.long) ∈ gt := in_gt 733 (by decide +kernel) (by decide +kernel)
set_option maxRecDepth 100000 in
theorem wd_238 : Cond.fieldLink RX4 132 "ColdGuest$Seer" "above" "J" ∈ gt := in_gt 238 (by decide +kernel) (by decide +kernel)
set_option maxRecDepth 100000 in
theorem wd_240 : Cond.fieldLink RX4 136 "ColdGuest$Seer" "below" "J" ∈ gt := in_gt 240 (by decide +kernel) (by decide +kernel)
set_option maxRecDepth 100000 in
theorem wd_743 : Jvm.Cond.constantLong RX4 139 (16807) ∈ gt := in_gt 743 (by decide +kernel) (by decide +kernel)
set_option maxRecDepth 100000 in
theorem wd_744 : Jvm.Cond.constantLong RX4 141 (2147483647) ∈ gt := in_gt 744 (by decide +kernel) (by decide +kernel)
set_option maxRecDepth 100000 in
theorem wd_745 : Cond.methodLink RX4 143 yX1_allCold ∈ gt := in_gt 745 (by decide +kernel) (by decide +kernel)
set_option maxRecDepth 100000 in
theorem wd_523 : Cond.code yX1_allCold cX1_allCold 3 (some FieldType.int) ∈ gt := in_gt 523 (by decide +kernel) (by decide +kernel)
set_option maxRecDepth 100000 in
theorem wd_521 : Cond.instanceMethod yX1_allCold ∈ gt := in_gt 521 (by decide +kernel) (by decide +kernel)
set_option maxRecDepth 100000 in
theorem wd_522 : Cond.selects RX1 yX1_allCold yX1_allCold ∈ gt := in_gt 522 (by decide +kernel) (by decide +kernel)
theorem lk_RX4_143 : LkV RX4 143 yX1_allCold cX1_allCold 3 (some FieldType.int) 0 := ⟨wd_745, wd_521, wd_522, wd_74, wd_523, by decide +kernel, by decide +kernel, by decide +kernel⟩
set_option maxRecDepth 100000 in
theorem wd_113 : Cond.fieldLink RX5 9 "ColdGuest$Tape" "bytes" "[I" ∈ gt := in_gt 113 (by decide +kernel) (by decide +kernel)
set_option maxRecDepth 100000 in
theorem wd_115 : Cond.fieldLink RX5 13 "ColdGuest$Tape" "length" "I" ∈ gt := in_gt 115 (by decide +kernel) (by decide +kernel)
set_option maxRecDepth 100000 in
theorem wd_114 : Cond.fieldLink RX5 17 "ColdGuest$Tape" "at" "I" ∈ gt := in_gt 114 (by decide +kernel) (by decide +kernel)
set_option maxRecDepth 100000 in
theorem wd_384 : Cond.methodLink RX5 20 yX1_clear ∈ gt := in_gt 384 (by decide +kernel) (by decide +kernel)
set_option maxRecDepth 100000 in
theorem wd_387 : Cond.code yX1_clear cX1_clear 2 none ∈ gt := in_gt 387 (by decide +kernel) (by decide +kernel)
set_option maxRecDepth 100000 in
theorem wd_385 : Cond.instanceMethod yX1_clear ∈ gt := in_gt 385 (by decide +kernel) (by decide +kernel)
set_option maxRecDepth 100000 in
theorem wd_386 : Cond.selects RX1 yX1_clear yX1_clear ∈ gt := in_gt 386 (by decide +kernel) (by decide +kernel)
theorem lk_RX5_20 : LkV RX5 20 yX1_clear cX1_clear 2 none 0 := ⟨wd_384, wd_385, wd_386, wd_74, wd_387, by decide +kernel, by decide +kernel, by decide +kernel⟩
set_option maxRecDepth 100000 in
theorem wd_388 : Cond.methodLink RX5 25 yX5_readLaw ∈ gt := in_gt 388 (by decide +kernel) (by decide +kernel)
set_option maxRecDepth 100000 in
theorem wd_73 : Cond.initialized RX5 ∈ gt := in_gt 73 (by decide +kernel) (by decide +kernel)
set_option maxRecDepth 100000 in
theorem wd_391 : Cond.code yX5_readLaw cX5_readLaw 6 (some FieldType.boolean) ∈ gt := in_gt 391 (by decide +kernel) (by decide +kernel)
set_option maxRecDepth 100000 in
theorem wd_390 : Cond.instanceMethod yX5_readLaw ∈ gt := in_gt 390 (by decide +kernel) (by decide +kernel)
set_option maxRecDepth 100000 in
theorem wd_2 : Cond.selects RX5 yX5_readLaw yX5_readLaw ∈ gt := in_gt 2 (by decide +kernel) (by decide +kernel)
theorem lk_RX5_25 : LkV RX5 25 yX5_readLaw cX5_readLaw 6 (some FieldType.boolean) 1 := ⟨wd_388, wd_390, wd_2, wd_73, wd_391, by decide +kernel, by decide +kernel, by decide +kernel⟩
set_option maxRecDepth 100000 in
theorem wd_416 : Cond.methodLink RX5 29 yX5_readDoors ∈ gt := in_gt 416 (by decide +kernel) (by decide +kernel)
set_option maxRecDepth 100000 in
theorem wd_419 : Cond.code yX5_readDoors cX5_readDoors 3 (some FieldType.boolean) ∈ gt := in_gt 419 (by decide +kernel) (by decide +kernel)
set_option maxRecDepth 100000 in
theorem wd_418 : Cond.instanceMethod yX5_readDoors ∈ gt := in_gt 418 (by decide +kernel) (by decide +kernel)
set_option maxRecDepth 100000 in
theorem wd_8 : Cond.selects RX5 yX5_readDoors yX5_readDoors ∈ gt := in_gt 8 (by decide +kernel) (by decide +kernel)
theorem lk_RX5_29 : LkV RX5 29 yX5_readDoors cX5_readDoors 3 (some FieldType.boolean) 1 := ⟨wd_416, wd_418, wd_8, wd_73, wd_419, by decide +kernel, by decide +kernel, by decide +kernel⟩
set_option maxRecDepth 100000 in
theorem wd_428 : Cond.methodLink RX5 32 yX5_readSitters ∈ gt := in_gt 428 (by decide +kernel) (by decide +kernel)
set_option maxRecDepth 100000 in
theorem wd_431 : Cond.code yX5_readSitters cX5_readSitters 3 (some FieldType.boolean) ∈ gt := in_gt 431 (by decide +kernel) (by decide +kernel)
set_option maxRecDepth 100000 in
theorem wd_430 : Cond.instanceMethod yX5_readSitters ∈ gt := in_gt 430 (by decide +kernel) (by decide +kernel)
set_option maxRecDepth 100000 in
theorem wd_10 : Cond.selects RX5 yX5_readSitters yX5_readSitters ∈ gt := in_gt 10 (by decide +kernel) (by decide +kernel)
theorem lk_RX5_32 : LkV RX5 32 yX5_readSitters cX5_readSitters 3 (some FieldType.boolean) 1 := ⟨wd_428, wd_430, wd_10, wd_73, wd_431, by decide +kernel, by decide +kernel, by decide +kernel⟩
set_option maxRecDepth 100000 in
theorem wd_392 : Cond.methodLink RX5 35 yX5_takeSign ∈ gt := in_gt 392 (by decide +kernel) (by decide +kernel)
set_option maxRecDepth 100000 in
theorem wd_395 : Cond.code yX5_takeSign cX5_takeSign 2 (some FieldType.boolean) ∈ gt := in_gt 395 (by decide +kernel) (by decide +kernel)
set_option maxRecDepth 100000 in
theorem wd_394 : Cond.instanceMethod yX5_takeSign ∈ gt := in_gt 394 (by decide +kernel) (by decide +kernel)
set_option maxRecDepth 100000 in
theorem wd_3 : Cond.selects RX5 yX5_takeSign yX5_takeSign ∈ gt := in_gt 3 (by decide +kernel) (by decide +kernel)
theorem lk_RX5_35 : LkV RX5 35 yX5_takeSign cX5_takeSign 2 (some FieldType.boolean) 1 := ⟨wd_392, wd_394, wd_3, wd_73, wd_395, by decide +kernel, by decide +kernel, by decide +kernel⟩
set_option maxRecDepth 100000 in
theorem wd_404 : Cond.methodLink RX5 39 yX5_takeNumber ∈ gt := in_gt 404 (by decide +kernel) (by decide +kernel)
set_option maxRecDepth 100000 in
theorem wd_407 : Cond.code yX5_takeNumber cX5_takeNumber 6 (some FieldType.int) ∈ gt := in_gt 407 (by decide +kernel) (by decide +kernel)
set_option maxRecDepth 100000 in
theorem wd_406 : Cond.instanceMethod yX5_takeNumber ∈ gt := in_gt 406 (by decide +kernel) (by decide +kernel)
set_option maxRecDepth 100000 in
theorem wd_6 : Cond.selects RX5 yX5_takeNumber yX5_takeNumber ∈ gt := in_gt 6 (by decide +kernel) (by decide +kernel)
theorem lk_RX5_39 : LkV RX5 39 yX5_takeNumber cX5_takeNumber 6 (some FieldType.int) 2 := ⟨wd_404, wd_406, wd_6, wd_73, wd_407, by decide +kernel, by decide +kernel, by decide +kernel⟩
set_option maxRecDepth 100000 in
theorem wd_412 : Cond.methodLink RX5 43 yX1_setLaw ∈ gt := in_gt 412 (by decide +kernel) (by decide +kernel)
set_option maxRecDepth 100000 in
theorem wd_415 : Cond.code yX1_setLaw cX1_setLaw 5 none ∈ gt := in_gt 415 (by decide +kernel) (by decide +kernel)
set_option maxRecDepth 100000 in
theorem wd_413 : Cond.instanceMethod yX1_setLaw ∈ gt := in_gt 413 (by decide +kernel) (by decide +kernel)
set_option maxRecDepth 100000 in
theorem wd_414 : Cond.selects RX1 yX1_setLaw yX1_setLaw ∈ gt := in_gt 414 (by decide +kernel) (by decide +kernel)
theorem lk_RX5_43 : LkV RX5 43 yX1_setLaw cX1_setLaw 5 none 4 := ⟨wd_412, wd_413, wd_414, wd_74, wd_415, by decide +kernel, by decide +kernel, by decide +kernel⟩
set_option maxRecDepth 100000 in
theorem wd_396 : Cond.methodLink RX5 47 yX5_next ∈ gt := in_gt 396 (by decide +kernel) (by decide +kernel)
set_option maxRecDepth 100000 in
theorem wd_399 : Cond.code yX5_next cX5_next 1 (some FieldType.int) ∈ gt := in_gt 399 (by decide +kernel) (by decide +kernel)
set_option maxRecDepth 100000 in
theorem wd_398 : Cond.instanceMethod yX5_next ∈ gt := in_gt 398 (by decide +kernel) (by decide +kernel)
set_option maxRecDepth 100000 in
theorem wd_4 : Cond.selects RX5 yX5_next yX5_next ∈ gt := in_gt 4 (by decide +kernel) (by decide +kernel)
theorem lk_RX5_47 : LkV RX5 47 yX5_next cX5_next 1 (some FieldType.int) 0 := ⟨wd_396, wd_398, wd_4, wd_73, wd_399, by decide +kernel, by decide +kernel, by decide +kernel⟩
set_option maxRecDepth 100000 in
theorem wd_420 : Cond.methodLink RX5 51 yX5_readDoor ∈ gt := in_gt 420 (by decide +kernel) (by decide +kernel)
set_option maxRecDepth 100000 in
theorem wd_423 : Cond.code yX5_readDoor cX5_readDoor 6 (some FieldType.boolean) ∈ gt := in_gt 423 (by decide +kernel) (by decide +kernel)
set_option maxRecDepth 100000 in
theorem wd_422 : Cond.instanceMethod yX5_readDoor ∈ gt := in_gt 422 (by decide +kernel) (by decide +kernel)
set_option maxRecDepth 100000 in
theorem wd_9 : Cond.selects RX5 yX5_readDoor yX5_readDoor ∈ gt := in_gt 9 (by decide +kernel) (by decide +kernel)
theorem lk_RX5_51 : LkV RX5 51 yX5_readDoor cX5_readDoor 6 (some FieldType.boolean) 1 := ⟨wd_420, wd_422, wd_9, wd_73, wd_423, by decide +kernel, by decide +kernel, by decide +kernel⟩
set_option maxRecDepth 100000 in
theorem wd_400 : Cond.methodLink RX5 54 yX5_fail ∈ gt := in_gt 400 (by decide +kernel) (by decide +kernel)
set_option maxRecDepth 100000 in
theorem wd_403 : Cond.code yX5_fail cX5_fail 2 (some FieldType.boolean) ∈ gt := in_gt 403 (by decide +kernel) (by decide +kernel)
set_option maxRecDepth 100000 in
theorem wd_402 : Cond.instanceMethod yX5_fail ∈ gt := in_gt 402 (by decide +kernel) (by decide +kernel)
set_option maxRecDepth 100000 in
theorem wd_5 : Cond.selects RX5 yX5_fail yX5_fail ∈ gt := in_gt 5 (by decide +kernel) (by decide +kernel)
theorem lk_RX5_54 : LkV RX5 54 yX5_fail cX5_fail 2 (some FieldType.boolean) 1 := ⟨wd_400, wd_402, wd_5, wd_73, wd_403, by decide +kernel, by decide +kernel, by decide +kernel⟩
set_option maxRecDepth 100000 in
theorem wd_140 : Cond.fieldLink RX5 57 "ColdGuest$House" "rooms" "I" ∈ gt := in_gt 140 (by decide +kernel) (by decide +kernel)
set_option maxRecDepth 100000 in
theorem wd_424 : Cond.methodLink RX5 60 yX1_addDoor ∈ gt := in_gt 424 (by decide +kernel) (by decide +kernel)
set_option maxRecDepth 100000 in
theorem wd_427 : Cond.code yX1_addDoor cX1_addDoor 4 none ∈ gt := in_gt 427 (by decide +kernel) (by decide +kernel)
set_option maxRecDepth 100000 in
theorem wd_425 : Cond.instanceMethod yX1_addDoor ∈ gt := in_gt 425 (by decide +kernel) (by decide +kernel)
set_option maxRecDepth 100000 in
theorem wd_426 : Cond.selects RX1 yX1_addDoor yX1_addDoor ∈ gt := in_gt 426 (by decide +kernel) (by decide +kernel)
theorem lk_RX5_60 : LkV RX5 60 yX1_addDoor cX1_addDoor 4 none 3 := ⟨wd_424, wd_425, wd_426, wd_74, wd_427, by decide +kernel, by decide +kernel, by decide +kernel⟩
set_option maxRecDepth 100000 in
theorem wd_432 : Cond.methodLink RX5 64 yX5_readSitter ∈ gt := in_gt 432 (by decide +kernel) (by decide +kernel)
set_option maxRecDepth 100000 in
theorem wd_435 : Cond.code yX5_readSitter cX5_readSitter 5 (some FieldType.boolean) ∈ gt := in_gt 435 (by decide +kernel) (by decide +kernel)
set_option maxRecDepth 100000 in
theorem wd_434 : Cond.instanceMethod yX5_readSitter ∈ gt := in_gt 434 (by decide +kernel) (by decide +kernel)
set_option maxRecDepth 100000 in
theorem wd_11 : Cond.selects RX5 yX5_readSitter yX5_readSitter ∈ gt := in_gt 11 (by decide +kernel) (by decide +kernel)
theorem lk_RX5_64 : LkV RX5 64 yX5_readSitter cX5_readSitter 5 (some FieldType.boolean) 1 := ⟨wd_432, wd_434, wd_11, wd_73, wd_435, by decide +kernel, by decide +kernel, by decide +kernel⟩
set_option maxRecDepth 100000 in
theorem wd_436 : Cond.methodLink RX5 67 yX5_kindOfLetter ∈ gt := in_gt 436 (by decide +kernel) (by decide +kernel)
set_option maxRecDepth 100000 in
theorem wd_438 : Cond.code yX5_kindOfLetter cX5_kindOfLetter 1 (some FieldType.int) ∈ gt := in_gt 438 (by decide +kernel) (by decide +kernel)
set_option maxRecDepth 100000 in
theorem wd_437 : Cond.static yX5_kindOfLetter ∈ gt := in_gt 437 (by decide +kernel) (by decide +kernel)
theorem lk_RX5_67 : LkS RX5 67 yX5_kindOfLetter cX5_kindOfLetter 1 (some FieldType.int) 1 := ⟨wd_436, wd_437, wd_73, wd_438, by decide +kernel, by decide +kernel, by decide +kernel⟩
set_option maxRecDepth 100000 in
theorem wd_439 : Cond.methodLink RX5 71 yX1_addSitter ∈ gt := in_gt 439 (by decide +kernel) (by decide +kernel)
set_option maxRecDepth 100000 in
theorem wd_442 : Cond.code yX1_addSitter cX1_addSitter 4 none ∈ gt := in_gt 442 (by decide +kernel) (by decide +kernel)
set_option maxRecDepth 100000 in
theorem wd_440 : Cond.instanceMethod yX1_addSitter ∈ gt := in_gt 440 (by decide +kernel) (by decide +kernel)
set_option maxRecDepth 100000 in
theorem wd_441 : Cond.selects RX1 yX1_addSitter yX1_addSitter ∈ gt := in_gt 441 (by decide +kernel) (by decide +kernel)
theorem lk_RX5_71 : LkV RX5 71 yX1_addSitter cX1_addSitter 4 none 3 := ⟨wd_439, wd_440, wd_441, wd_74, wd_442, by decide +kernel, by decide +kernel, by decide +kernel⟩
set_option maxRecDepth 100000 in
theorem wd_408 : Cond.methodLink RX5 75 yX5_figuresAhead ∈ gt := in_gt 408 (by decide +kernel) (by decide +kernel)
set_option maxRecDepth 100000 in
theorem wd_411 : Cond.code yX5_figuresAhead cX5_figuresAhead 2 (some FieldType.int) ∈ gt := in_gt 411 (by decide +kernel) (by decide +kernel)
set_option maxRecDepth 100000 in
theorem wd_410 : Cond.instanceMethod yX5_figuresAhead ∈ gt := in_gt 410 (by decide +kernel) (by decide +kernel)
set_option maxRecDepth 100000 in
theorem wd_7 : Cond.selects RX5 yX5_figuresAhead yX5_figuresAhead ∈ gt := in_gt 7 (by decide +kernel) (by decide +kernel)
theorem lk_RX5_75 : LkV RX5 75 yX5_figuresAhead cX5_figuresAhead 2 (some FieldType.int) 0 := ⟨wd_408, wd_410, wd_7, wd_73, wd_411, by decide +kernel, by decide +kernel, by decide +kernel⟩
set_option maxRecDepth 100000 in
theorem wd_118 : Cond.fieldLink RX5 78 "ColdGuest$Tape" "faultFound" "I" ∈ gt := in_gt 118 (by decide +kernel) (by decide +kernel)
set_option maxRecDepth 100000 in
theorem wd_120 : Cond.fieldLink RX5 81 "ColdGuest$Tape" "faultPlace" "I" ∈ gt := in_gt 120 (by decide +kernel) (by decide +kernel)
set_option maxRecDepth 100000 in
theorem wd_266 : Cond.fieldLink RX6 10 "ColdGuest" "rows" "LColdGuest$Rows;" ∈ gt := in_gt 266 (by decide +kernel) (by decide +kernel)
set_option maxRecDepth 100000 in
theorem wd_267 : Cond.fieldLink RX6 19 "ColdGuest" "tape" "LColdGuest$Tape;" ∈ gt := in_gt 267 (by decide +kernel) (by decide +kernel)
set_option maxRecDepth 100000 in
theorem wd_268 : Cond.fieldLink RX6 26 "ColdGuest" "now" "LColdGuest$House;" ∈ gt := in_gt 268 (by decide +kernel) (by decide +kernel)
set_option maxRecDepth 100000 in
theorem wd_269 : Cond.fieldLink RX6 33 "ColdGuest" "past" "LColdGuest$Past;" ∈ gt := in_gt 269 (by decide +kernel) (by decide +kernel)
set_option maxRecDepth 100000 in
theorem wd_270 : Cond.fieldLink RX6 40 "ColdGuest" "seer" "LColdGuest$Seer;" ∈ gt := in_gt 270 (by decide +kernel) (by decide +kernel)
set_option maxRecDepth 100000 in
theorem wd_271 : Cond.fieldLink RX6 47 "ColdGuest" "asker" "LColdGuest$Asker;" ∈ gt := in_gt 271 (by decide +kernel) (by decide +kernel)
set_option maxRecDepth 100000 in
theorem wd_272 : Cond.fieldLink RX6 51 "ColdGuest" "firstImage" "LColdGuest$House;" ∈ gt := in_gt 272 (by decide +kernel) (by decide +kernel)
set_option maxRecDepth 100000 in
theorem wd_273 : Cond.fieldLink RX6 54 "ColdGuest" "secondImage" "LColdGuest$House;" ∈ gt := in_gt 273 (by decide +kernel) (by decide +kernel)
set_option maxRecDepth 100000 in
theorem wd_301 : Cond.methodLink RX6 57 yX3_isRow ∈ gt := in_gt 301 (by decide +kernel) (by decide +kernel)
set_option maxRecDepth 100000 in
theorem wd_303 : Cond.code yX3_isRow cX3_isRow 1 (some FieldType.boolean) ∈ gt := in_gt 303 (by decide +kernel) (by decide +kernel)
set_option maxRecDepth 100000 in
theorem wd_302 : Cond.static yX3_isRow ∈ gt := in_gt 302 (by decide +kernel) (by decide +kernel)
theorem lk_RX6_57 : LkS RX6 57 yX3_isRow cX3_isRow 1 (some FieldType.boolean) 1 := ⟨wd_301, wd_302, wd_72, wd_303, by decide +kernel, by decide +kernel, by decide +kernel⟩
set_option maxRecDepth 100000 in
theorem wd_304 : Cond.methodLink RX6 61 yX6_within ∈ gt := in_gt 304 (by decide +kernel) (by decide +kernel)
set_option maxRecDepth 100000 in
theorem wd_71 : Cond.initialized RX6 ∈ gt := in_gt 71 (by decide +kernel) (by decide +kernel)
set_option maxRecDepth 100000 in
theorem wd_306 : Cond.code yX6_within cX6_within 3 (some FieldType.boolean) ∈ gt := in_gt 306 (by decide +kernel) (by decide +kernel)
set_option maxRecDepth 100000 in
theorem wd_305 : Cond.static yX6_within ∈ gt := in_gt 305 (by decide +kernel) (by decide +kernel)
theorem lk_RX6_61 : LkS RX6 61 yX6_within cX6_within 3 (some FieldType.boolean) 3 := ⟨wd_304, wd_305, wd_71, wd_306, by decide +kernel, by decide +kernel, by decide +kernel⟩
set_option maxRecDepth 100000 in
theorem wd_307 : Jvm.Cond.constant RX6 65 (-1000001) ∈ gt := in_gt 307 (by decide +kernel) (by decide +kernel)
set_option maxRecDepth 100000 in
theorem wd_308 : Cond.methodLink RX6 66 yX6_finding ∈ gt := in_gt 308 (by decide +kernel) (by decide +kernel)
set_option maxRecDepth 100000 in
theorem wd_311 : Cond.code yX6_finding cX6_finding 2 (some FieldType.int) ∈ gt := in_gt 311 (by decide +kernel) (by decide +kernel)
set_option maxRecDepth 100000 in
theorem wd_310 : Cond.instanceMethod yX6_finding ∈ gt := in_gt 310 (by decide +kernel) (by decide +kernel)
set_option maxRecDepth 100000 in
theorem wd_0 : Cond.selects RX6 yX6_finding yX6_finding ∈ gt := in_gt 0 (by decide +kernel) (by decide +kernel)
theorem lk_RX6_66 : LkV RX6 66 yX6_finding cX6_finding 2 (some FieldType.int) 1 := ⟨wd_308, wd_310, wd_0, wd_71, wd_311, by decide +kernel, by decide +kernel, by decide +kernel⟩
set_option maxRecDepth 100000 in
theorem wd_313 : Cond.methodLink RX6 70 yX3_lay ∈ gt := in_gt 313 (by decide +kernel) (by decide +kernel)
set_option maxRecDepth 100000 in
theorem wd_316 : Cond.code yX3_lay cX3_lay 5 none ∈ gt := in_gt 316 (by decide +kernel) (by decide +kernel)
set_option maxRecDepth 100000 in
theorem wd_314 : Cond.instanceMethod yX3_lay ∈ gt := in_gt 314 (by decide +kernel) (by decide +kernel)
set_option maxRecDepth 100000 in
theorem wd_315 : Cond.selects RX3 yX3_lay yX3_lay ∈ gt := in_gt 315 (by decide +kernel) (by decide +kernel)
theorem lk_RX6_70 : LkV RX6 70 yX3_lay cX3_lay 5 none 3 := ⟨wd_313, wd_314, wd_315, wd_72, wd_316, by decide +kernel, by decide +kernel, by decide +kernel⟩
set_option maxRecDepth 100000 in
theorem wd_317 : Cond.methodLink RX6 74 yX6_noFinding ∈ gt := in_gt 317 (by decide +kernel) (by decide +kernel)
set_option maxRecDepth 100000 in
theorem wd_320 : Cond.code yX6_noFinding cX6_noFinding 2 (some FieldType.int) ∈ gt := in_gt 320 (by decide +kernel) (by decide +kernel)
set_option maxRecDepth 100000 in
theorem wd_319 : Cond.instanceMethod yX6_noFinding ∈ gt := in_gt 319 (by decide +kernel) (by decide +kernel)
set_option maxRecDepth 100000 in
theorem wd_1 : Cond.selects RX6 yX6_noFinding yX6_noFinding ∈ gt := in_gt 1 (by decide +kernel) (by decide +kernel)
theorem lk_RX6_74 : LkV RX6 74 yX6_noFinding cX6_noFinding 2 (some FieldType.int) 1 := ⟨wd_317, wd_319, wd_1, wd_71, wd_320, by decide +kernel, by decide +kernel, by decide +kernel⟩
set_option maxRecDepth 100000 in
theorem wd_325 : Cond.methodLink RX6 77 yX3_isMissing ∈ gt := in_gt 325 (by decide +kernel) (by decide +kernel)
set_option maxRecDepth 100000 in
theorem wd_328 : Cond.code yX3_isMissing cX3_isMissing 2 (some FieldType.boolean) ∈ gt := in_gt 328 (by decide +kernel) (by decide +kernel)
set_option maxRecDepth 100000 in
theorem wd_326 : Cond.instanceMethod yX3_isMissing ∈ gt := in_gt 326 (by decide +kernel) (by decide +kernel)
set_option maxRecDepth 100000 in
theorem wd_327 : Cond.selects RX3 yX3_isMissing yX3_isMissing ∈ gt := in_gt 327 (by decide +kernel) (by decide +kernel)
theorem lk_RX6_77 : LkV RX6 77 yX3_isMissing cX3_isMissing 2 (some FieldType.boolean) 1 := ⟨wd_325, wd_326, wd_327, wd_72, wd_328, by decide +kernel, by decide +kernel, by decide +kernel⟩
set_option maxRecDepth 100000 in
theorem wd_329 : Cond.methodLink RX6 80 yX3_hasPlaces ∈ gt := in_gt 329 (by decide +kernel) (by decide +kernel)
set_option maxRecDepth 100000 in
theorem wd_332 : Cond.code yX3_hasPlaces cX3_hasPlaces 4 (some FieldType.boolean) ∈ gt := in_gt 332 (by decide +kernel) (by decide +kernel)
set_option maxRecDepth 100000 in
theorem wd_330 : Cond.instanceMethod yX3_hasPlaces ∈ gt := in_gt 330 (by decide +kernel) (by decide +kernel)
set_option maxRecDepth 100000 in
theorem wd_331 : Cond.selects RX3 yX3_hasPlaces yX3_hasPlaces ∈ gt := in_gt 331 (by decide +kernel) (by decide +kernel)
theorem lk_RX6_80 : LkV RX6 80 yX3_hasPlaces cX3_hasPlaces 4 (some FieldType.boolean) 3 := ⟨wd_329, wd_330, wd_331, wd_72, wd_332, by decide +kernel, by decide +kernel, by decide +kernel⟩
set_option maxRecDepth 100000 in
theorem wd_333 : Cond.methodLink RX6 83 yX3_put ∈ gt := in_gt 333 (by decide +kernel) (by decide +kernel)
set_option maxRecDepth 100000 in
theorem wd_336 : Cond.code yX3_put cX3_put 5 (some FieldType.int) ∈ gt := in_gt 336 (by decide +kernel) (by decide +kernel)
set_option maxRecDepth 100000 in
theorem wd_334 : Cond.instanceMethod yX3_put ∈ gt := in_gt 334 (by decide +kernel) (by decide +kernel)
set_option maxRecDepth 100000 in
theorem wd_335 : Cond.selects RX3 yX3_put yX3_put ∈ gt := in_gt 335 (by decide +kernel) (by decide +kernel)
theorem lk_RX6_83 : LkV RX6 83 yX3_put cX3_put 5 (some FieldType.int) 3 := ⟨wd_333, wd_334, wd_335, wd_72, wd_336, by decide +kernel, by decide +kernel, by decide +kernel⟩
set_option maxRecDepth 100000 in
theorem wd_344 : Cond.methodLink RX6 87 yX3_sameLane ∈ gt := in_gt 344 (by decide +kernel) (by decide +kernel)
set_option maxRecDepth 100000 in
theorem wd_347 : Cond.code yX3_sameLane cX3_sameLane 3 (some FieldType.boolean) ∈ gt := in_gt 347 (by decide +kernel) (by decide +kernel)
set_option maxRecDepth 100000 in
theorem wd_345 : Cond.instanceMethod yX3_sameLane ∈ gt := in_gt 345 (by decide +kernel) (by decide +kernel)
set_option maxRecDepth 100000 in
theorem wd_346 : Cond.selects RX3 yX3_sameLane yX3_sameLane ∈ gt := in_gt 346 (by decide +kernel) (by decide +kernel)
theorem lk_RX6_87 : LkV RX6 87 yX3_sameLane cX3_sameLane 3 (some FieldType.boolean) 2 := ⟨wd_344, wd_345, wd_346, wd_72, wd_347, by decide +kernel, by decide +kernel, by decide +kernel⟩
set_option maxRecDepth 100000 in
theorem wd_348 : Cond.methodLink RX6 91 yX3_carry ∈ gt := in_gt 348 (by decide +kernel) (by decide +kernel)
set_option maxRecDepth 100000 in
theorem wd_351 : Cond.code yX3_carry cX3_carry 6 none ∈ gt := in_gt 351 (by decide +kernel) (by decide +kernel)
set_option maxRecDepth 100000 in
theorem wd_349 : Cond.instanceMethod yX3_carry ∈ gt := in_gt 349 (by decide +kernel) (by decide +kernel)
set_option maxRecDepth 100000 in
theorem wd_350 : Cond.selects RX3 yX3_carry yX3_carry ∈ gt := in_gt 350 (by decide +kernel) (by decide +kernel)
theorem lk_RX6_91 : LkV RX6 91 yX3_carry cX3_carry 6 none 5 := ⟨wd_348, wd_349, wd_350, wd_72, wd_351, by decide +kernel, by decide +kernel, by decide +kernel⟩
set_option maxRecDepth 100000 in
theorem wd_359 : Cond.methodLink RX6 95 yX3_takeAway ∈ gt := in_gt 359 (by decide +kernel) (by decide +kernel)
set_option maxRecDepth 100000 in
theorem wd_362 : Cond.code yX3_takeAway cX3_takeAway 3 (some FieldType.int) ∈ gt := in_gt 362 (by decide +kernel) (by decide +kernel)
set_option maxRecDepth 100000 in
theorem wd_360 : Cond.instanceMethod yX3_takeAway ∈ gt := in_gt 360 (by decide +kernel) (by decide +kernel)
set_option maxRecDepth 100000 in
theorem wd_361 : Cond.selects RX3 yX3_takeAway yX3_takeAway ∈ gt := in_gt 361 (by decide +kernel) (by decide +kernel)
theorem lk_RX6_95 : LkV RX6 95 yX3_takeAway cX3_takeAway 3 (some FieldType.int) 1 := ⟨wd_359, wd_360, wd_361, wd_72, wd_362, by decide +kernel, by decide +kernel, by decide +kernel⟩
set_option maxRecDepth 100000 in
theorem wd_367 : Cond.methodLink RX6 98 yX5_isFull ∈ gt := in_gt 367 (by decide +kernel) (by decide +kernel)
set_option maxRecDepth 100000 in
theorem wd_370 : Cond.code yX5_isFull cX5_isFull 1 (some FieldType.boolean) ∈ gt := in_gt 370 (by decide +kernel) (by decide +kernel)
set_option maxRecDepth 100000 in
theorem wd_368 : Cond.instanceMethod yX5_isFull ∈ gt := in_gt 368 (by decide +kernel) (by decide +kernel)
set_option maxRecDepth 100000 in
theorem wd_369 : Cond.selects RX5 yX5_isFull yX5_isFull ∈ gt := in_gt 369 (by decide +kernel) (by decide +kernel)
theorem lk_RX6_98 : LkV RX6 98 yX5_isFull cX5_isFull 1 (some FieldType.boolean) 0 := ⟨wd_367, wd_368, wd_369, wd_73, wd_370, by decide +kernel, by decide +kernel, by decide +kernel⟩
set_option maxRecDepth 100000 in
theorem wd_371 : Jvm.Cond.constant RX6 102 (-1000003) ∈ gt := in_gt 371 (by decide +kernel) (by decide +kernel)
set_option maxRecDepth 100000 in
theorem wd_372 : Cond.methodLink RX6 103 yX5_append ∈ gt := in_gt 372 (by decide +kernel) (by decide +kernel)
set_option maxRecDepth 100000 in
theorem wd_375 : Cond.code yX5_append cX5_append 2 (some FieldType.int) ∈ gt := in_gt 375 (by decide +kernel) (by decide +kernel)
set_option maxRecDepth 100000 in
theorem wd_373 : Cond.instanceMethod yX5_append ∈ gt := in_gt 373 (by decide +kernel) (by decide +kernel)
set_option maxRecDepth 100000 in
theorem wd_374 : Cond.selects RX5 yX5_append yX5_append ∈ gt := in_gt 374 (by decide +kernel) (by decide +kernel)
theorem lk_RX6_103 : LkV RX6 103 yX5_append cX5_append 2 (some FieldType.int) 1 := ⟨wd_372, wd_373, wd_374, wd_73, wd_375, by decide +kernel, by decide +kernel, by decide +kernel⟩
set_option maxRecDepth 100000 in
theorem wd_235 : Cond.fieldLink RX6 106 "ColdGuest$Seer" "trial" "LColdGuest$House;" ∈ gt := in_gt 235 (by decide +kernel) (by decide +kernel)
set_option maxRecDepth 100000 in
theorem wd_380 : Cond.methodLink RX6 109 yX5_readInto ∈ gt := in_gt 380 (by decide +kernel) (by decide +kernel)
set_option maxRecDepth 100000 in
theorem wd_383 : Cond.code yX5_readInto cX5_readInto 2 (some FieldType.boolean) ∈ gt := in_gt 383 (by decide +kernel) (by decide +kernel)
set_option maxRecDepth 100000 in
theorem wd_381 : Cond.instanceMethod yX5_readInto ∈ gt := in_gt 381 (by decide +kernel) (by decide +kernel)
set_option maxRecDepth 100000 in
theorem wd_382 : Cond.selects RX5 yX5_readInto yX5_readInto ∈ gt := in_gt 382 (by decide +kernel) (by decide +kernel)
theorem lk_RX6_109 : LkV RX6 109 yX5_readInto cX5_readInto 2 (some FieldType.boolean) 1 := ⟨wd_380, wd_381, wd_382, wd_73, wd_383, by decide +kernel, by decide +kernel, by decide +kernel⟩
set_option maxRecDepth 100000 in
theorem wd_443 : Cond.methodLink RX6 113 yX5_empty ∈ gt := in_gt 443 (by decide +kernel) (by decide +kernel)
set_option maxRecDepth 100000 in
theorem wd_446 : Cond.code yX5_empty cX5_empty 1 none ∈ gt := in_gt 446 (by decide +kernel) (by decide +kernel)
set_option maxRecDepth 100000 in
theorem wd_444 : Cond.instanceMethod yX5_empty ∈ gt := in_gt 444 (by decide +kernel) (by decide +kernel)
set_option maxRecDepth 100000 in
theorem wd_445 : Cond.selects RX5 yX5_empty yX5_empty ∈ gt := in_gt 445 (by decide +kernel) (by decide +kernel)
theorem lk_RX6_113 : LkV RX6 113 yX5_empty cX5_empty 1 none 0 := ⟨wd_443, wd_444, wd_445, wd_73, wd_446, by decide +kernel, by decide +kernel, by decide +kernel⟩
set_option maxRecDepth 100000 in
theorem wd_117 : Cond.fieldLink RX6 116 "ColdGuest$Tape" "faultFound" "I" ∈ gt := in_gt 117 (by decide +kernel) (by decide +kernel)
set_option maxRecDepth 100000 in
theorem wd_274 : Cond.fieldLink RX6 120 "ColdGuest" "latestFault" "I" ∈ gt := in_gt 274 (by decide +kernel) (by decide +kernel)
set_option maxRecDepth 100000 in
theorem wd_447 : Jvm.Cond.constant RX6 123 (-1000100) ∈ gt := in_gt 447 (by decide +kernel) (by decide +kernel)
set_option maxRecDepth 100000 in
theorem wd_119 : Cond.fieldLink RX6 124 "ColdGuest$Tape" "faultPlace" "I" ∈ gt := in_gt 119 (by decide +kernel) (by decide +kernel)
set_option maxRecDepth 100000 in
theorem wd_448 : Cond.methodLink RX6 127 yX1_become ∈ gt := in_gt 448 (by decide +kernel) (by decide +kernel)
theorem lk_RX6_127 : LkV RX6 127 yX1_become cX1_become 2 none 1 := ⟨wd_448, wd_449, wd_450, wd_74, wd_451, by decide +kernel, by decide +kernel, by decide +kernel⟩
set_option maxRecDepth 100000 in
theorem wd_453 : Cond.methodLink RX6 131 yX2_forget ∈ gt := in_gt 453 (by decide +kernel) (by decide +kernel)
set_option maxRecDepth 100000 in
theorem wd_75 : Cond.initialized RX2 ∈ gt := in_gt 75 (by decide +kernel) (by decide +kernel)
set_option maxRecDepth 100000 in
theorem wd_456 : Cond.code yX2_forget cX2_forget 1 none ∈ gt := in_gt 456 (by decide +kernel) (by decide +kernel)
set_option maxRecDepth 100000 in
theorem wd_454 : Cond.instanceMethod yX2_forget ∈ gt := in_gt 454 (by decide +kernel) (by decide +kernel)
set_option maxRecDepth 100000 in
theorem wd_455 : Cond.selects RX2 yX2_forget yX2_forget ∈ gt := in_gt 455 (by decide +kernel) (by decide +kernel)
theorem lk_RX6_131 : LkV RX6 131 yX2_forget cX2_forget 1 none 0 := ⟨wd_453, wd_454, wd_455, wd_75, wd_456, by decide +kernel, by decide +kernel, by decide +kernel⟩
set_option maxRecDepth 100000 in
theorem wd_158 : Cond.fieldLink RX6 134 "ColdGuest$House" "sitters" "I" ∈ gt := in_gt 158 (by decide +kernel) (by decide +kernel)
set_option maxRecDepth 100000 in
theorem wd_218 : Cond.fieldLink RX6 137 "ColdGuest$Past" "held" "I" ∈ gt := in_gt 218 (by decide +kernel) (by decide +kernel)
set_option maxRecDepth 100000 in
theorem wd_465 : Jvm.Cond.constant RX6 140 (-1000002) ∈ gt := in_gt 465 (by decide +kernel) (by decide +kernel)
set_option maxRecDepth 100000 in
theorem wd_466 : Cond.methodLink RX6 141 yX2_takeBack ∈ gt := in_gt 466 (by decide +kernel) (by decide +kernel)
set_option maxRecDepth 100000 in
theorem wd_469 : Cond.code yX2_takeBack cX2_takeBack 3 none ∈ gt := in_gt 469 (by decide +kernel) (by decide +kernel)
set_option maxRecDepth 100000 in
theorem wd_467 : Cond.instanceMethod yX2_takeBack ∈ gt := in_gt 467 (by decide +kernel) (by decide +kernel)
set_option maxRecDepth 100000 in
theorem wd_468 : Cond.selects RX2 yX2_takeBack yX2_takeBack ∈ gt := in_gt 468 (by decide +kernel) (by decide +kernel)
theorem lk_RX6_141 : LkV RX6 141 yX2_takeBack cX2_takeBack 3 none 1 := ⟨wd_466, wd_467, wd_468, wd_75, wd_469, by decide +kernel, by decide +kernel, by decide +kernel⟩
set_option maxRecDepth 100000 in
theorem wd_475 : Cond.methodLink RX6 144 yX1_stands ∈ gt := in_gt 475 (by decide +kernel) (by decide +kernel)
set_option maxRecDepth 100000 in
theorem wd_478 : Cond.code yX1_stands cX1_stands 1 (some FieldType.boolean) ∈ gt := in_gt 478 (by decide +kernel) (by decide +kernel)
set_option maxRecDepth 100000 in
theorem wd_476 : Cond.instanceMethod yX1_stands ∈ gt := in_gt 476 (by decide +kernel) (by decide +kernel)
set_option maxRecDepth 100000 in
theorem wd_477 : Cond.selects RX1 yX1_stands yX1_stands ∈ gt := in_gt 477 (by decide +kernel) (by decide +kernel)
theorem lk_RX6_144 : LkV RX6 144 yX1_stands cX1_stands 1 (some FieldType.boolean) 0 := ⟨wd_475, wd_476, wd_477, wd_74, wd_478, by decide +kernel, by decide +kernel, by decide +kernel⟩
set_option maxRecDepth 100000 in
theorem wd_149 : Cond.fieldLink RX6 147 "ColdGuest$House" "hour" "I" ∈ gt := in_gt 149 (by decide +kernel) (by decide +kernel)
set_option maxRecDepth 100000 in
theorem wd_479 : Cond.methodLink RX6 150 yX2_keep ∈ gt := in_gt 479 (by decide +kernel) (by decide +kernel)
set_option maxRecDepth 100000 in
theorem wd_482 : Cond.code yX2_keep cX2_keep 3 none ∈ gt := in_gt 482 (by decide +kernel) (by decide +kernel)
set_option maxRecDepth 100000 in
theorem wd_480 : Cond.instanceMethod yX2_keep ∈ gt := in_gt 480 (by decide +kernel) (by decide +kernel)
set_option maxRecDepth 100000 in
theorem wd_481 : Cond.selects RX2 yX2_keep yX2_keep ∈ gt := in_gt 481 (by decide +kernel) (by decide +kernel)
theorem lk_RX6_150 : LkV RX6 150 yX2_keep cX2_keep 3 none 1 := ⟨wd_479, wd_480, wd_481, wd_75, wd_482, by decide +kernel, by decide +kernel, by decide +kernel⟩
set_option maxRecDepth 100000 in
theorem wd_483 : Cond.methodLink RX6 153 yX1_passHour ∈ gt := in_gt 483 (by decide +kernel) (by decide +kernel)
theorem lk_RX6_153 : LkV RX6 153 yX1_passHour cX1_passHour 1 none 0 := ⟨wd_483, wd_484, wd_485, wd_74, wd_486, by decide +kernel, by decide +kernel, by decide +kernel⟩
set_option maxRecDepth 100000 in
theorem wd_520 : Cond.methodLink RX6 156 yX1_allCold ∈ gt := in_gt 520 (by decide +kernel) (by decide +kernel)
theorem lk_RX6_156 : LkV RX6 156 yX1_allCold cX1_allCold 3 (some FieldType.int) 0 := ⟨wd_520, wd_521, wd_522, wd_74, wd_523, by decide +kernel, by decide +kernel, by decide +kernel⟩
set_option maxRecDepth 100000 in
theorem wd_528 : Cond.methodLink RX6 160 yX1_hasDoor ∈ gt := in_gt 528 (by decide +kernel) (by decide +kernel)
set_option maxRecDepth 100000 in
theorem wd_531 : Cond.code yX1_hasDoor cX1_hasDoor 2 (some FieldType.boolean) ∈ gt := in_gt 531 (by decide +kernel) (by decide +kernel)
set_option maxRecDepth 100000 in
theorem wd_529 : Cond.instanceMethod yX1_hasDoor ∈ gt := in_gt 529 (by decide +kernel) (by decide +kernel)
set_option maxRecDepth 100000 in
theorem wd_530 : Cond.selects RX1 yX1_hasDoor yX1_hasDoor ∈ gt := in_gt 530 (by decide +kernel) (by decide +kernel)
theorem lk_RX6_160 : LkV RX6 160 yX1_hasDoor cX1_hasDoor 2 (some FieldType.boolean) 1 := ⟨wd_528, wd_529, wd_530, wd_74, wd_531, by decide +kernel, by decide +kernel, by decide +kernel⟩
set_option maxRecDepth 100000 in
theorem wd_532 : Cond.methodLink RX6 163 yX1_isOpen ∈ gt := in_gt 532 (by decide +kernel) (by decide +kernel)
theorem lk_RX6_163 : LkV RX6 163 yX1_isOpen cX1_isOpen 2 (some FieldType.boolean) 1 := ⟨wd_532, wd_503, wd_504, wd_74, wd_505, by decide +kernel, by decide +kernel, by decide +kernel⟩
set_option maxRecDepth 100000 in
theorem wd_533 : Cond.methodLink RX6 166 yX1_moveDoors ∈ gt := in_gt 533 (by decide +kernel) (by decide +kernel)
theorem lk_RX6_166 : LkV RX6 166 yX1_moveDoors cX1_moveDoors 2 none 1 := ⟨wd_533, wd_534, wd_535, wd_74, wd_536, by decide +kernel, by decide +kernel, by decide +kernel⟩
set_option maxRecDepth 100000 in
theorem wd_155 : Cond.fieldLink RX6 170 "ColdGuest$House" "open" "I" ∈ gt := in_gt 155 (by decide +kernel) (by decide +kernel)
set_option maxRecDepth 100000 in
theorem wd_541 : Cond.methodLink RX6 173 yX1_hasSitter ∈ gt := in_gt 541 (by decide +kernel) (by decide +kernel)
set_option maxRecDepth 100000 in
theorem wd_544 : Cond.code yX1_hasSitter cX1_hasSitter 2 (some FieldType.boolean) ∈ gt := in_gt 544 (by decide +kernel) (by decide +kernel)
set_option maxRecDepth 100000 in
theorem wd_542 : Cond.instanceMethod yX1_hasSitter ∈ gt := in_gt 542 (by decide +kernel) (by decide +kernel)
set_option maxRecDepth 100000 in
theorem wd_543 : Cond.selects RX1 yX1_hasSitter yX1_hasSitter ∈ gt := in_gt 543 (by decide +kernel) (by decide +kernel)
theorem lk_RX6_173 : LkV RX6 173 yX1_hasSitter cX1_hasSitter 2 (some FieldType.boolean) 1 := ⟨wd_541, wd_542, wd_543, wd_74, wd_544, by decide +kernel, by decide +kernel, by decide +kernel⟩
set_option maxRecDepth 100000 in
theorem wd_545 : Cond.methodLink RX6 176 yX1_hasRoom ∈ gt := in_gt 545 (by decide +kernel) (by decide +kernel)
set_option maxRecDepth 100000 in
theorem wd_548 : Cond.code yX1_hasRoom cX1_hasRoom 2 (some FieldType.boolean) ∈ gt := in_gt 548 (by decide +kernel) (by decide +kernel)
set_option maxRecDepth 100000 in
theorem wd_546 : Cond.instanceMethod yX1_hasRoom ∈ gt := in_gt 546 (by decide +kernel) (by decide +kernel)
set_option maxRecDepth 100000 in
theorem wd_547 : Cond.selects RX1 yX1_hasRoom yX1_hasRoom ∈ gt := in_gt 547 (by decide +kernel) (by decide +kernel)
theorem lk_RX6_176 : LkV RX6 176 yX1_hasRoom cX1_hasRoom 2 (some FieldType.boolean) 1 := ⟨wd_545, wd_546, wd_547, wd_74, wd_548, by decide +kernel, by decide +kernel, by decide +kernel⟩
set_option maxRecDepth 100000 in
theorem wd_171 : Cond.fieldLink RX6 179 "ColdGuest$House" "places" "[I" ∈ gt := in_gt 171 (by decide +kernel) (by decide +kernel)
set_option maxRecDepth 100000 in
theorem wd_179 : Cond.fieldLink RX6 183 "ColdGuest$House" "cold" "[I" ∈ gt := in_gt 179 (by decide +kernel) (by decide +kernel)
set_option maxRecDepth 100000 in
theorem wd_553 : Cond.methodLink RX6 186 yX1_sittersIn ∈ gt := in_gt 553 (by decide +kernel) (by decide +kernel)
set_option maxRecDepth 100000 in
theorem wd_556 : Cond.code yX1_sittersIn cX1_sittersIn 4 (some FieldType.int) ∈ gt := in_gt 556 (by decide +kernel) (by decide +kernel)
set_option maxRecDepth 100000 in
theorem wd_554 : Cond.instanceMethod yX1_sittersIn ∈ gt := in_gt 554 (by decide +kernel) (by decide +kernel)
set_option maxRecDepth 100000 in
theorem wd_555 : Cond.selects RX1 yX1_sittersIn yX1_sittersIn ∈ gt := in_gt 555 (by decide +kernel) (by decide +kernel)
theorem lk_RX6_186 : LkV RX6 186 yX1_sittersIn cX1_sittersIn 4 (some FieldType.int) 1 := ⟨wd_553, wd_554, wd_555, wd_74, wd_556, by decide +kernel, by decide +kernel, by decide +kernel⟩
set_option maxRecDepth 100000 in
theorem wd_557 : Cond.methodLink RX6 189 yX1_roomsWith ∈ gt := in_gt 557 (by decide +kernel) (by decide +kernel)
theorem lk_RX6_189 : LkV RX6 189 yX1_roomsWith cX1_roomsWith 4 (some FieldType.int) 1 := ⟨wd_557, wd_492, wd_493, wd_74, wd_494, by decide +kernel, by decide +kernel, by decide +kernel⟩
set_option maxRecDepth 100000 in
theorem wd_558 : Cond.methodLink RX6 192 yX1_doorsOf ∈ gt := in_gt 558 (by decide +kernel) (by decide +kernel)
set_option maxRecDepth 100000 in
theorem wd_561 : Cond.code yX1_doorsOf cX1_doorsOf 4 (some FieldType.int) ∈ gt := in_gt 561 (by decide +kernel) (by decide +kernel)
set_option maxRecDepth 100000 in
theorem wd_559 : Cond.instanceMethod yX1_doorsOf ∈ gt := in_gt 559 (by decide +kernel) (by decide +kernel)
set_option maxRecDepth 100000 in
theorem wd_560 : Cond.selects RX1 yX1_doorsOf yX1_doorsOf ∈ gt := in_gt 560 (by decide +kernel) (by decide +kernel)
theorem lk_RX6_192 : LkV RX6 192 yX1_doorsOf cX1_doorsOf 4 (some FieldType.int) 1 := ⟨wd_558, wd_559, wd_560, wd_74, wd_561, by decide +kernel, by decide +kernel, by decide +kernel⟩
set_option maxRecDepth 100000 in
theorem wd_161 : Cond.fieldLink RX6 195 "ColdGuest$House" "oneSide" "[I" ∈ gt := in_gt 161 (by decide +kernel) (by decide +kernel)
set_option maxRecDepth 100000 in
theorem wd_163 : Cond.fieldLink RX6 198 "ColdGuest$House" "otherSide" "[I" ∈ gt := in_gt 163 (by decide +kernel) (by decide +kernel)
set_option maxRecDepth 100000 in
theorem wd_175 : Cond.fieldLink RX6 201 "ColdGuest$House" "forces" "[I" ∈ gt := in_gt 175 (by decide +kernel) (by decide +kernel)
set_option maxRecDepth 100000 in
theorem wd_570 : Cond.methodLink RX6 204 yX1_isShivering ∈ gt := in_gt 570 (by decide +kernel) (by decide +kernel)
theorem lk_RX6_204 : LkV RX6 204 yX1_isShivering cX1_isShivering 2 (some FieldType.boolean) 1 := ⟨wd_570, wd_571, wd_572, wd_74, wd_573, by decide +kernel, by decide +kernel, by decide +kernel⟩
set_option maxRecDepth 100000 in
theorem wd_578 : Cond.methodLink RX6 207 yX4_look ∈ gt := in_gt 578 (by decide +kernel) (by decide +kernel)
theorem lk_RX6_207 : LkV RX6 207 yX4_look cX4_look 3 none 2 := ⟨wd_578, wd_579, wd_580, wd_76, wd_581, by decide +kernel, by decide +kernel, by decide +kernel⟩
set_option maxRecDepth 100000 in
theorem wd_592 : Cond.methodLink RX6 211 yX4_findShiver ∈ gt := in_gt 592 (by decide +kernel) (by decide +kernel)
set_option maxRecDepth 100000 in
theorem wd_595 : Cond.code yX4_findShiver cX4_findShiver 5 none ∈ gt := in_gt 595 (by decide +kernel) (by decide +kernel)
set_option maxRecDepth 100000 in
theorem wd_593 : Cond.instanceMethod yX4_findShiver ∈ gt := in_gt 593 (by decide +kernel) (by decide +kernel)
set_option maxRecDepth 100000 in
theorem wd_594 : Cond.selects RX4 yX4_findShiver yX4_findShiver ∈ gt := in_gt 594 (by decide +kernel) (by decide +kernel)
theorem lk_RX6_211 : LkV RX6 211 yX4_findShiver cX4_findShiver 5 none 2 := ⟨wd_592, wd_593, wd_594, wd_76, wd_595, by decide +kernel, by decide +kernel, by decide +kernel⟩
set_option maxRecDepth 100000 in
theorem wd_607 : Cond.methodLink RX6 214 yX4_told ∈ gt := in_gt 607 (by decide +kernel) (by decide +kernel)
set_option maxRecDepth 100000 in
theorem wd_610 : Cond.code yX4_told cX4_told 2 (some FieldType.int) ∈ gt := in_gt 610 (by decide +kernel) (by decide +kernel)
set_option maxRecDepth 100000 in
theorem wd_608 : Cond.instanceMethod yX4_told ∈ gt := in_gt 608 (by decide +kernel) (by decide +kernel)
set_option maxRecDepth 100000 in
theorem wd_609 : Cond.selects RX4 yX4_told yX4_told ∈ gt := in_gt 609 (by decide +kernel) (by decide +kernel)
theorem lk_RX6_214 : LkV RX6 214 yX4_told cX4_told 2 (some FieldType.int) 1 := ⟨wd_607, wd_608, wd_609, wd_76, wd_610, by decide +kernel, by decide +kernel, by decide +kernel⟩
set_option maxRecDepth 100000 in
theorem wd_615 : Cond.methodLink RX6 217 yX1_hasRooms ∈ gt := in_gt 615 (by decide +kernel) (by decide +kernel)
set_option maxRecDepth 100000 in
theorem wd_618 : Cond.code yX1_hasRooms cX1_hasRooms 2 (some FieldType.boolean) ∈ gt := in_gt 618 (by decide +kernel) (by decide +kernel)
set_option maxRecDepth 100000 in
theorem wd_616 : Cond.instanceMethod yX1_hasRooms ∈ gt := in_gt 616 (by decide +kernel) (by decide +kernel)
set_option maxRecDepth 100000 in
theorem wd_617 : Cond.selects RX1 yX1_hasRooms yX1_hasRooms ∈ gt := in_gt 617 (by decide +kernel) (by decide +kernel)
theorem lk_RX6_217 : LkV RX6 217 yX1_hasRooms cX1_hasRooms 2 (some FieldType.boolean) 1 := ⟨wd_615, wd_616, wd_617, wd_74, wd_618, by decide +kernel, by decide +kernel, by decide +kernel⟩
set_option maxRecDepth 100000 in
theorem wd_619 : Cond.methodLink RX6 220 yX4_findDoorsToMove ∈ gt := in_gt 619 (by decide +kernel) (by decide +kernel)
set_option maxRecDepth 100000 in
theorem wd_622 : Cond.code yX4_findDoorsToMove cX4_findDoorsToMove 9 none ∈ gt := in_gt 622 (by decide +kernel) (by decide +kernel)
set_option maxRecDepth 100000 in
theorem wd_620 : Cond.instanceMethod yX4_findDoorsToMove ∈ gt := in_gt 620 (by decide +kernel) (by decide +kernel)
set_option maxRecDepth 100000 in
theorem wd_621 : Cond.selects RX4 yX4_findDoorsToMove yX4_findDoorsToMove ∈ gt := in_gt 621 (by decide +kernel) (by decide +kernel)
theorem lk_RX6_220 : LkV RX6 220 yX4_findDoorsToMove cX4_findDoorsToMove 9 none 5 := ⟨wd_619, wd_620, wd_621, wd_76, wd_622, by decide +kernel, by decide +kernel, by decide +kernel⟩
set_option maxRecDepth 100000 in
theorem wd_642 : Cond.methodLink RX6 224 yX4_findSeat ∈ gt := in_gt 642 (by decide +kernel) (by decide +kernel)
set_option maxRecDepth 100000 in
theorem wd_645 : Cond.code yX4_findSeat cX4_findSeat 6 none ∈ gt := in_gt 645 (by decide +kernel) (by decide +kernel)
set_option maxRecDepth 100000 in
theorem wd_643 : Cond.instanceMethod yX4_findSeat ∈ gt := in_gt 643 (by decide +kernel) (by decide +kernel)
set_option maxRecDepth 100000 in
theorem wd_644 : Cond.selects RX4 yX4_findSeat yX4_findSeat ∈ gt := in_gt 644 (by decide +kernel) (by decide +kernel)
theorem lk_RX6_224 : LkV RX6 224 yX4_findSeat cX4_findSeat 6 none 4 := ⟨wd_642, wd_643, wd_644, wd_76, wd_645, by decide +kernel, by decide +kernel, by decide +kernel⟩
set_option maxRecDepth 100000 in
theorem wd_650 : Cond.methodLink RX6 228 yX4_findSoonest ∈ gt := in_gt 650 (by decide +kernel) (by decide +kernel)
set_option maxRecDepth 100000 in
theorem wd_653 : Cond.code yX4_findSoonest cX4_findSoonest 9 none ∈ gt := in_gt 653 (by decide +kernel) (by decide +kernel)
set_option maxRecDepth 100000 in
theorem wd_651 : Cond.instanceMethod yX4_findSoonest ∈ gt := in_gt 651 (by decide +kernel) (by decide +kernel)
set_option maxRecDepth 100000 in
theorem wd_652 : Cond.selects RX4 yX4_findSoonest yX4_findSoonest ∈ gt := in_gt 652 (by decide +kernel) (by decide +kernel)
theorem lk_RX6_228 : LkV RX6 228 yX4_findSoonest cX4_findSoonest 9 none 4 := ⟨wd_650, wd_651, wd_652, wd_76, wd_653, by decide +kernel, by decide +kernel, by decide +kernel⟩
set_option maxRecDepth 100000 in
theorem wd_141 : Cond.fieldLink RX6 231 "ColdGuest$House" "rooms" "I" ∈ gt := in_gt 141 (by decide +kernel) (by decide +kernel)
set_option maxRecDepth 100000 in
theorem wd_662 : Cond.methodLink RX6 234 yX4_roomsItCameInto ∈ gt := in_gt 662 (by decide +kernel) (by decide +kernel)
set_option maxRecDepth 100000 in
theorem wd_665 : Cond.code yX4_roomsItCameInto cX4_roomsItCameInto 8 (some FieldType.int) ∈ gt := in_gt 665 (by decide +kernel) (by decide +kernel)
set_option maxRecDepth 100000 in
theorem wd_663 : Cond.instanceMethod yX4_roomsItCameInto ∈ gt := in_gt 663 (by decide +kernel) (by decide +kernel)
set_option maxRecDepth 100000 in
theorem wd_664 : Cond.selects RX4 yX4_roomsItCameInto yX4_roomsItCameInto ∈ gt := in_gt 664 (by decide +kernel) (by decide +kernel)
theorem lk_RX6_234 : LkV RX6 234 yX4_roomsItCameInto cX4_roomsItCameInto 8 (some FieldType.int) 5 := ⟨wd_662, wd_663, wd_664, wd_76, wd_665, by decide +kernel, by decide +kernel, by decide +kernel⟩
set_option maxRecDepth 100000 in
theorem wd_678 : Cond.methodLink RX6 238 yX4_kindsItMayBe ∈ gt := in_gt 678 (by decide +kernel) (by decide +kernel)
set_option maxRecDepth 100000 in
theorem wd_681 : Cond.code yX4_kindsItMayBe cX4_kindsItMayBe 9 (some FieldType.int) ∈ gt := in_gt 681 (by decide +kernel) (by decide +kernel)
set_option maxRecDepth 100000 in
theorem wd_679 : Cond.instanceMethod yX4_kindsItMayBe ∈ gt := in_gt 679 (by decide +kernel) (by decide +kernel)
set_option maxRecDepth 100000 in
theorem wd_680 : Cond.selects RX4 yX4_kindsItMayBe yX4_kindsItMayBe ∈ gt := in_gt 680 (by decide +kernel) (by decide +kernel)
theorem lk_RX6_238 : LkV RX6 238 yX4_kindsItMayBe cX4_kindsItMayBe 9 (some FieldType.int) 6 := ⟨wd_678, wd_679, wd_680, wd_76, wd_681, by decide +kernel, by decide +kernel, by decide +kernel⟩
set_option maxRecDepth 100000 in
theorem wd_686 : Cond.methodLink RX6 242 yX4_findDoorsToShut ∈ gt := in_gt 686 (by decide +kernel) (by decide +kernel)
set_option maxRecDepth 100000 in
theorem wd_689 : Cond.code yX4_findDoorsToShut cX4_findDoorsToShut 8 none ∈ gt := in_gt 689 (by decide +kernel) (by decide +kernel)
set_option maxRecDepth 100000 in
theorem wd_687 : Cond.instanceMethod yX4_findDoorsToShut ∈ gt := in_gt 687 (by decide +kernel) (by decide +kernel)
set_option maxRecDepth 100000 in
theorem wd_688 : Cond.selects RX4 yX4_findDoorsToShut yX4_findDoorsToShut ∈ gt := in_gt 688 (by decide +kernel) (by decide +kernel)
theorem lk_RX6_242 : LkV RX6 242 yX4_findDoorsToShut cX4_findDoorsToShut 8 none 3 := ⟨wd_686, wd_687, wd_688, wd_76, wd_689, by decide +kernel, by decide +kernel, by decide +kernel⟩
set_option maxRecDepth 100000 in
theorem wd_701 : Cond.methodLink RX6 246 yX4_findColdest ∈ gt := in_gt 701 (by decide +kernel) (by decide +kernel)
set_option maxRecDepth 100000 in
theorem wd_704 : Cond.code yX4_findColdest cX4_findColdest 4 none ∈ gt := in_gt 704 (by decide +kernel) (by decide +kernel)
set_option maxRecDepth 100000 in
theorem wd_702 : Cond.instanceMethod yX4_findColdest ∈ gt := in_gt 702 (by decide +kernel) (by decide +kernel)
set_option maxRecDepth 100000 in
theorem wd_703 : Cond.selects RX4 yX4_findColdest yX4_findColdest ∈ gt := in_gt 703 (by decide +kernel) (by decide +kernel)
theorem lk_RX6_246 : LkV RX6 246 yX4_findColdest cX4_findColdest 4 none 2 := ⟨wd_701, wd_702, wd_703, wd_76, wd_704, by decide +kernel, by decide +kernel, by decide +kernel⟩
set_option maxRecDepth 100000 in
theorem wd_710 : Cond.methodLink RX6 249 yX1_roomsLedTo ∈ gt := in_gt 710 (by decide +kernel) (by decide +kernel)
theorem lk_RX6_249 : LkV RX6 249 yX1_roomsLedTo cX1_roomsLedTo 7 (some FieldType.int) 2 := ⟨wd_710, wd_694, wd_695, wd_74, wd_696, by decide +kernel, by decide +kernel, by decide +kernel⟩
set_option maxRecDepth 100000 in
theorem wd_715 : Jvm.Cond.constantLong RX6 253 (-1000002) ∈ gt := in_gt 715 (by decide +kernel) (by decide +kernel)
set_option maxRecDepth 100000 in
theorem wd_716 : Jvm.Cond.constantLong RX6 255 (-1000001) ∈ gt := in_gt 716 (by decide +kernel) (by decide +kernel)
set_option maxRecDepth 100000 in
theorem wd_717 : Cond.methodLink RX6 257 yX4_findOdds ∈ gt := in_gt 717 (by decide +kernel) (by decide +kernel)
set_option maxRecDepth 100000 in
theorem wd_720 : Cond.code yX4_findOdds cX4_findOdds 10 none ∈ gt := in_gt 720 (by decide +kernel) (by decide +kernel)
set_option maxRecDepth 100000 in
theorem wd_718 : Cond.instanceMethod yX4_findOdds ∈ gt := in_gt 718 (by decide +kernel) (by decide +kernel)
set_option maxRecDepth 100000 in
theorem wd_719 : Cond.selects RX4 yX4_findOdds yX4_findOdds ∈ gt := in_gt 719 (by decide +kernel) (by decide +kernel)
theorem lk_RX6_257 : LkV RX6 257 yX4_findOdds cX4_findOdds 10 none 3 := ⟨wd_717, wd_718, wd_719, wd_76, wd_720, by decide +kernel, by decide +kernel, by decide +kernel⟩
set_option maxRecDepth 100000 in
theorem wd_239 : Cond.fieldLink RX6 260 "ColdGuest$Seer" "above" "J" ∈ gt := in_gt 239 (by decide +kernel) (by decide +kernel)
set_option maxRecDepth 100000 in
theorem wd_241 : Cond.fieldLink RX6 264 "ColdGuest$Seer" "below" "J" ∈ gt := in_gt 241 (by decide +kernel) (by decide +kernel)
set_option maxRecDepth 100000 in
theorem wd_738 : Jvm.Cond.constant RX6 267 (999999) ∈ gt := in_gt 738 (by decide +kernel) (by decide +kernel)
set_option maxRecDepth 100000 in
theorem wd_739 : Cond.methodLink RX6 268 yX4_drawHours ∈ gt := in_gt 739 (by decide +kernel) (by decide +kernel)
set_option maxRecDepth 100000 in
theorem wd_742 : Cond.code yX4_drawHours cX4_drawHours 8 none ∈ gt := in_gt 742 (by decide +kernel) (by decide +kernel)
set_option maxRecDepth 100000 in
theorem wd_740 : Cond.instanceMethod yX4_drawHours ∈ gt := in_gt 740 (by decide +kernel) (by decide +kernel)
set_option maxRecDepth 100000 in
theorem wd_741 : Cond.selects RX4 yX4_drawHours yX4_drawHours ∈ gt := in_gt 741 (by decide +kernel) (by decide +kernel)
theorem lk_RX6_268 : LkV RX6 268 yX4_drawHours cX4_drawHours 8 none 3 := ⟨wd_739, wd_740, wd_741, wd_76, wd_742, by decide +kernel, by decide +kernel, by decide +kernel⟩
set_option maxRecDepth 100000 in
theorem wd_750 : Cond.methodLink RX6 271 yX6_imageOf ∈ gt := in_gt 750 (by decide +kernel) (by decide +kernel)
set_option maxRecDepth 100000 in
theorem wd_753 : Cond.code yX6_imageOf cX6_imageOf 2 (some (FieldType.object "ColdGuest$House")) ∈ gt := in_gt 753 (by decide +kernel) (by decide +kernel)
set_option maxRecDepth 100000 in
theorem wd_752 : Cond.instanceMethod yX6_imageOf ∈ gt := in_gt 752 (by decide +kernel) (by decide +kernel)
set_option maxRecDepth 100000 in
theorem wd_21 : Cond.selects RX6 yX6_imageOf yX6_imageOf ∈ gt := in_gt 21 (by decide +kernel) (by decide +kernel)
theorem lk_RX6_271 : LkV RX6 271 yX6_imageOf cX6_imageOf 2 (some (FieldType.object "ColdGuest$House")) 1 := ⟨wd_750, wd_752, wd_21, wd_71, wd_753, by decide +kernel, by decide +kernel, by decide +kernel⟩
set_option maxRecDepth 100000 in
theorem wd_167 : Cond.fieldLink RX6 275 "ColdGuest$House" "kinds" "[I" ∈ gt := in_gt 167 (by decide +kernel) (by decide +kernel)
set_option maxRecDepth 100000 in
theorem wd_766 : Cond.methodLink RX6 278 yX1_isA ∈ gt := in_gt 766 (by decide +kernel) (by decide +kernel)
set_option maxRecDepth 100000 in
theorem wd_768 : Cond.code yX1_isA cX1_isA 2 (some FieldType.boolean) ∈ gt := in_gt 768 (by decide +kernel) (by decide +kernel)
set_option maxRecDepth 100000 in
theorem wd_767 : Cond.static yX1_isA ∈ gt := in_gt 767 (by decide +kernel) (by decide +kernel)
theorem lk_RX6_278 : LkS RX6 278 yX1_isA cX1_isA 2 (some FieldType.boolean) 2 := ⟨wd_766, wd_767, wd_74, wd_768, by decide +kernel, by decide +kernel, by decide +kernel⟩
set_option maxRecDepth 100000 in
theorem wd_773 : Cond.methodLink RX6 281 yX0_startAnew ∈ gt := in_gt 773 (by decide +kernel) (by decide +kernel)
set_option maxRecDepth 100000 in
theorem wd_776 : Cond.code yX0_startAnew cX0_startAnew 1 none ∈ gt := in_gt 776 (by decide +kernel) (by decide +kernel)
set_option maxRecDepth 100000 in
theorem wd_774 : Cond.instanceMethod yX0_startAnew ∈ gt := in_gt 774 (by decide +kernel) (by decide +kernel)
set_option maxRecDepth 100000 in
theorem wd_775 : Cond.selects RX0 yX0_startAnew yX0_startAnew ∈ gt := in_gt 775 (by decide +kernel) (by decide +kernel)
theorem lk_RX6_281 : LkV RX6 281 yX0_startAnew cX0_startAnew 1 none 0 := ⟨wd_773, wd_774, wd_775, wd_77, wd_776, by decide +kernel, by decide +kernel, by decide +kernel⟩
set_option maxRecDepth 100000 in
theorem wd_777 : Cond.methodLink RX6 284 yX0_sizeOf ∈ gt := in_gt 777 (by decide +kernel) (by decide +kernel)
set_option maxRecDepth 100000 in
theorem wd_780 : Cond.code yX0_sizeOf cX0_sizeOf 3 (some FieldType.int) ∈ gt := in_gt 780 (by decide +kernel) (by decide +kernel)
set_option maxRecDepth 100000 in
theorem wd_778 : Cond.instanceMethod yX0_sizeOf ∈ gt := in_gt 778 (by decide +kernel) (by decide +kernel)
set_option maxRecDepth 100000 in
theorem wd_779 : Cond.selects RX0 yX0_sizeOf yX0_sizeOf ∈ gt := in_gt 779 (by decide +kernel) (by decide +kernel)
theorem lk_RX6_284 : LkV RX6 284 yX0_sizeOf cX0_sizeOf 3 (some FieldType.int) 2 := ⟨wd_777, wd_778, wd_779, wd_77, wd_780, by decide +kernel, by decide +kernel, by decide +kernel⟩
set_option maxRecDepth 100000 in
theorem wd_813 : Cond.methodLink RX6 288 yX0_markOf ∈ gt := in_gt 813 (by decide +kernel) (by decide +kernel)
set_option maxRecDepth 100000 in
theorem wd_816 : Cond.code yX0_markOf cX0_markOf 3 (some FieldType.int) ∈ gt := in_gt 816 (by decide +kernel) (by decide +kernel)
set_option maxRecDepth 100000 in
theorem wd_814 : Cond.instanceMethod yX0_markOf ∈ gt := in_gt 814 (by decide +kernel) (by decide +kernel)
set_option maxRecDepth 100000 in
theorem wd_815 : Cond.selects RX0 yX0_markOf yX0_markOf ∈ gt := in_gt 815 (by decide +kernel) (by decide +kernel)
theorem lk_RX6_288 : LkV RX6 288 yX0_markOf cX0_markOf 3 (some FieldType.int) 2 := ⟨wd_813, wd_814, wd_815, wd_77, wd_816, by decide +kernel, by decide +kernel, by decide +kernel⟩
set_option maxRecDepth 100000 in
theorem wd_825 : Cond.methodLink RX6 291 yX0_bodyAt ∈ gt := in_gt 825 (by decide +kernel) (by decide +kernel)
set_option maxRecDepth 100000 in
theorem wd_828 : Cond.code yX0_bodyAt cX0_bodyAt 2 (some FieldType.int) ∈ gt := in_gt 828 (by decide +kernel) (by decide +kernel)
set_option maxRecDepth 100000 in
theorem wd_826 : Cond.instanceMethod yX0_bodyAt ∈ gt := in_gt 826 (by decide +kernel) (by decide +kernel)
set_option maxRecDepth 100000 in
theorem wd_827 : Cond.selects RX0 yX0_bodyAt yX0_bodyAt ∈ gt := in_gt 827 (by decide +kernel) (by decide +kernel)
theorem lk_RX6_291 : LkV RX6 291 yX0_bodyAt cX0_bodyAt 2 (some FieldType.int) 1 := ⟨wd_825, wd_826, wd_827, wd_77, wd_828, by decide +kernel, by decide +kernel, by decide +kernel⟩
set_option maxRecDepth 100000 in
theorem wd_834 : Cond.methodLink RX6 294 yX3_howMany ∈ gt := in_gt 834 (by decide +kernel) (by decide +kernel)
set_option maxRecDepth 100000 in
theorem wd_837 : Cond.code yX3_howMany cX3_howMany 3 (some FieldType.int) ∈ gt := in_gt 837 (by decide +kernel) (by decide +kernel)
set_option maxRecDepth 100000 in
theorem wd_835 : Cond.instanceMethod yX3_howMany ∈ gt := in_gt 835 (by decide +kernel) (by decide +kernel)
set_option maxRecDepth 100000 in
theorem wd_836 : Cond.selects RX3 yX3_howMany yX3_howMany ∈ gt := in_gt 836 (by decide +kernel) (by decide +kernel)
theorem lk_RX6_294 : LkV RX6 294 yX3_howMany cX3_howMany 3 (some FieldType.int) 0 := ⟨wd_834, wd_835, wd_836, wd_72, wd_837, by decide +kernel, by decide +kernel, by decide +kernel⟩
set_option maxRecDepth 100000 in
theorem wd_152 : Cond.fieldLink RX6 297 "ColdGuest$House" "doors" "I" ∈ gt := in_gt 152 (by decide +kernel) (by decide +kernel)
set_option maxRecDepth 100000 in
theorem wd_116 : Cond.fieldLink RX6 300 "ColdGuest$Tape" "length" "I" ∈ gt := in_gt 116 (by decide +kernel) (by decide +kernel)
set_option maxRecDepth 100000 in
theorem wd_275 : Cond.fieldLink RX6 303 "ColdGuest" "latestFinding" "I" ∈ gt := in_gt 275 (by decide +kernel) (by decide +kernel)
set_option maxRecDepth 100000 in
theorem wd_312 : Jvm.Cond.constant RX6 306 (-1000010) ∈ gt := in_gt 312 (by decide +kernel) (by decide +kernel)
set_option maxRecDepth 100000 in
theorem wd_848 : Cond.fieldLink RX7 7 "ColdGuestModel" "lanes" "[I" ∈ gt := in_gt 848 (by decide +kernel) (by decide +kernel)
set_option maxRecDepth 100000 in
theorem wd_849 : Cond.fieldLink RX7 13 "ColdGuestModel" "sizes" "[I" ∈ gt := in_gt 849 (by decide +kernel) (by decide +kernel)
set_option maxRecDepth 100000 in
theorem wd_850 : Cond.fieldLink RX7 16 "ColdGuestModel" "items" "[I" ∈ gt := in_gt 850 (by decide +kernel) (by decide +kernel)
set_option maxRecDepth 100000 in
theorem wd_853 : Cond.fieldLink RX7 19 "ColdGuestModel" "st" "[I" ∈ gt := in_gt 853 (by decide +kernel) (by decide +kernel)
set_option maxRecDepth 100000 in
theorem wd_854 : Cond.fieldLink RX7 22 "ColdGuestModel" "moved" "[I" ∈ gt := in_gt 854 (by decide +kernel) (by decide +kernel)
set_option maxRecDepth 100000 in
theorem wd_855 : Cond.fieldLink RX7 25 "ColdGuestModel" "tape" "[I" ∈ gt := in_gt 855 (by decide +kernel) (by decide +kernel)
set_option maxRecDepth 100000 in
theorem wd_863 : Cond.fieldLink RX7 28 "ColdGuestModel" "read" "[I" ∈ gt := in_gt 863 (by decide +kernel) (by decide +kernel)
set_option maxRecDepth 100000 in
theorem wd_864 : Cond.fieldLink RX7 31 "ColdGuestModel" "acts" "[I" ∈ gt := in_gt 864 (by decide +kernel) (by decide +kernel)
set_option maxRecDepth 100000 in
theorem wd_866 : Cond.fieldLink RX7 34 "ColdGuestModel" "aside" "[I" ∈ gt := in_gt 866 (by decide +kernel) (by decide +kernel)
set_option maxRecDepth 100000 in
theorem wd_867 : Cond.fieldLink RX7 37 "ColdGuestModel" "isHeld" "[Z" ∈ gt := in_gt 867 (by decide +kernel) (by decide +kernel)
set_option maxRecDepth 100000 in
theorem wd_868 : Cond.fieldLink RX7 41 "ColdGuestModel" "kept" "[I" ∈ gt := in_gt 868 (by decide +kernel) (by decide +kernel)
set_option maxRecDepth 100000 in
theorem wd_869 : Cond.fieldLink RX7 44 "ColdGuestModel" "trace" "[I" ∈ gt := in_gt 869 (by decide +kernel) (by decide +kernel)
set_option maxRecDepth 100000 in
theorem wd_851 : Cond.fieldLink RX7 47 "ColdGuestModel" "status" "I" ∈ gt := in_gt 851 (by decide +kernel) (by decide +kernel)
set_option maxRecDepth 100000 in
theorem wd_936 : Jvm.Cond.constant RX7 51 (-1000010) ∈ gt := in_gt 936 (by decide +kernel) (by decide +kernel)
set_option maxRecDepth 100000 in
theorem wd_926 : Jvm.Cond.constantLong RX7 52 (7) ∈ gt := in_gt 926 (by decide +kernel) (by decide +kernel)
set_option maxRecDepth 100000 in
theorem wd_927 : Cond.methodLink RX7 54 yX7_in ∈ gt := in_gt 927 (by decide +kernel) (by decide +kernel)
set_option maxRecDepth 100000 in
theorem wd_78 : Cond.initialized RX7 ∈ gt := in_gt 78 (by decide +kernel) (by decide +kernel)
set_option maxRecDepth 100000 in
theorem wd_929 : Cond.code yX7_in cX7_in 6 (some FieldType.boolean) ∈ gt := in_gt 929 (by decide +kernel) (by decide +kernel)
set_option maxRecDepth 100000 in
theorem wd_928 : Cond.static yX7_in ∈ gt := in_gt 928 (by decide +kernel) (by decide +kernel)
theorem lk_RX7_54 : LkS RX7 54 yX7_in cX7_in 6 (some FieldType.boolean) 3 := ⟨wd_927, wd_928, wd_78, wd_929, by decide +kernel, by decide +kernel, by decide +kernel⟩
set_option maxRecDepth 100000 in
theorem wd_923 : Cond.methodLink RX7 58 yX7_isRow ∈ gt := in_gt 923 (by decide +kernel) (by decide +kernel)
set_option maxRecDepth 100000 in
theorem wd_925 : Cond.code yX7_isRow cX7_isRow 1 (some FieldType.boolean) ∈ gt := in_gt 925 (by decide +kernel) (by decide +kernel)
set_option maxRecDepth 100000 in
theorem wd_924 : Cond.static yX7_isRow ∈ gt := in_gt 924 (by decide +kernel) (by decide +kernel)
theorem lk_RX7_58 : LkS RX7 58 yX7_isRow cX7_isRow 1 (some FieldType.boolean) 1 := ⟨wd_923, wd_924, wd_78, wd_925, by decide +kernel, by decide +kernel, by decide +kernel⟩
set_option maxRecDepth 100000 in
theorem wd_930 : Jvm.Cond.constantLong RX7 62 (2) ∈ gt := in_gt 930 (by decide +kernel) (by decide +kernel)
set_option maxRecDepth 100000 in
theorem wd_931 : Jvm.Cond.constant RX7 64 (-1000001) ∈ gt := in_gt 931 (by decide +kernel) (by decide +kernel)
set_option maxRecDepth 100000 in
theorem wd_932 : Cond.methodLink RX7 65 yX7_find ∈ gt := in_gt 932 (by decide +kernel) (by decide +kernel)
set_option maxRecDepth 100000 in
theorem wd_935 : Cond.code yX7_find cX7_find 2 (some FieldType.int) ∈ gt := in_gt 935 (by decide +kernel) (by decide +kernel)
set_option maxRecDepth 100000 in
theorem wd_934 : Cond.instanceMethod yX7_find ∈ gt := in_gt 934 (by decide +kernel) (by decide +kernel)
set_option maxRecDepth 100000 in
theorem wd_31 : Cond.selects RX7 yX7_find yX7_find ∈ gt := in_gt 31 (by decide +kernel) (by decide +kernel)
theorem lk_RX7_65 : LkV RX7 65 yX7_find cX7_find 2 (some FieldType.int) 1 := ⟨wd_932, wd_934, wd_31, wd_78, wd_935, by decide +kernel, by decide +kernel, by decide +kernel⟩
set_option maxRecDepth 100000 in
theorem wd_937 : Cond.methodLink RX7 69 yX7_well ∈ gt := in_gt 937 (by decide +kernel) (by decide +kernel)
set_option maxRecDepth 100000 in
theorem wd_940 : Cond.code yX7_well cX7_well 2 (some FieldType.int) ∈ gt := in_gt 940 (by decide +kernel) (by decide +kernel)
set_option maxRecDepth 100000 in
theorem wd_939 : Cond.instanceMethod yX7_well ∈ gt := in_gt 939 (by decide +kernel) (by decide +kernel)
set_option maxRecDepth 100000 in
theorem wd_32 : Cond.selects RX7 yX7_well yX7_well ∈ gt := in_gt 32 (by decide +kernel) (by decide +kernel)
theorem lk_RX7_69 : LkV RX7 69 yX7_well cX7_well 2 (some FieldType.int) 1 := ⟨wd_937, wd_939, wd_32, wd_78, wd_940, by decide +kernel, by decide +kernel, by decide +kernel⟩
set_option maxRecDepth 100000 in
theorem wd_945 : Cond.methodLink RX7 72 yX7_asLane ∈ gt := in_gt 945 (by decide +kernel) (by decide +kernel)
set_option maxRecDepth 100000 in
theorem wd_947 : Cond.code yX7_asLane cX7_asLane 2 (some FieldType.int) ∈ gt := in_gt 947 (by decide +kernel) (by decide +kernel)
set_option maxRecDepth 100000 in
theorem wd_946 : Cond.static yX7_asLane ∈ gt := in_gt 946 (by decide +kernel) (by decide +kernel)
theorem lk_RX7_72 : LkS RX7 72 yX7_asLane cX7_asLane 2 (some FieldType.int) 2 := ⟨wd_945, wd_946, wd_78, wd_947, by decide +kernel, by decide +kernel, by decide +kernel⟩
set_option maxRecDepth 100000 in
theorem wd_960 : Jvm.Cond.constantLong RX7 76 (255) ∈ gt := in_gt 960 (by decide +kernel) (by decide +kernel)
set_option maxRecDepth 100000 in
theorem wd_856 : Cond.fieldLink RX7 78 "ColdGuestModel" "bytes" "I" ∈ gt := in_gt 856 (by decide +kernel) (by decide +kernel)
set_option maxRecDepth 100000 in
theorem wd_961 : Jvm.Cond.constant RX7 81 (-1000003) ∈ gt := in_gt 961 (by decide +kernel) (by decide +kernel)
set_option maxRecDepth 100000 in
theorem wd_858 : Cond.fieldLink RX7 82 "ColdGuestModel" "place" "I" ∈ gt := in_gt 858 (by decide +kernel) (by decide +kernel)
set_option maxRecDepth 100000 in
theorem wd_861 : Cond.fieldLink RX7 85 "ColdGuestModel" "begins" "I" ∈ gt := in_gt 861 (by decide +kernel) (by decide +kernel)
set_option maxRecDepth 100000 in
theorem wd_859 : Cond.fieldLink RX7 88 "ColdGuestModel" "token" "I" ∈ gt := in_gt 859 (by decide +kernel) (by decide +kernel)
set_option maxRecDepth 100000 in
theorem wd_860 : Cond.fieldLink RX7 91 "ColdGuestModel" "value" "I" ∈ gt := in_gt 860 (by decide +kernel) (by decide +kernel)
set_option maxRecDepth 100000 in
theorem wd_974 : Jvm.Cond.constantLong RX7 94 (48) ∈ gt := in_gt 974 (by decide +kernel) (by decide +kernel)
set_option maxRecDepth 100000 in
theorem wd_975 : Jvm.Cond.constantLong RX7 96 (57) ∈ gt := in_gt 975 (by decide +kernel) (by decide +kernel)
set_option maxRecDepth 100000 in
theorem wd_976 : Jvm.Cond.constantLong RX7 98 (97) ∈ gt := in_gt 976 (by decide +kernel) (by decide +kernel)
set_option maxRecDepth 100000 in
theorem wd_977 : Jvm.Cond.constantLong RX7 100 (122) ∈ gt := in_gt 977 (by decide +kernel) (by decide +kernel)
set_option maxRecDepth 100000 in
theorem wd_862 : Cond.fieldLink RX7 102 "ColdGuestModel" "wrong" "I" ∈ gt := in_gt 862 (by decide +kernel) (by decide +kernel)
set_option maxRecDepth 100000 in
theorem wd_982 : Cond.methodLink RX7 105 yX7_isLetter ∈ gt := in_gt 982 (by decide +kernel) (by decide +kernel)
set_option maxRecDepth 100000 in
theorem wd_985 : Cond.code yX7_isLetter cX7_isLetter 2 (some FieldType.boolean) ∈ gt := in_gt 985 (by decide +kernel) (by decide +kernel)
set_option maxRecDepth 100000 in
theorem wd_984 : Cond.instanceMethod yX7_isLetter ∈ gt := in_gt 984 (by decide +kernel) (by decide +kernel)
set_option maxRecDepth 100000 in
theorem wd_36 : Cond.selects RX7 yX7_isLetter yX7_isLetter ∈ gt := in_gt 36 (by decide +kernel) (by decide +kernel)
theorem lk_RX7_105 : LkV RX7 105 yX7_isLetter cX7_isLetter 2 (some FieldType.boolean) 1 := ⟨wd_982, wd_984, wd_36, wd_78, wd_985, by decide +kernel, by decide +kernel, by decide +kernel⟩
set_option maxRecDepth 100000 in
theorem wd_986 : Cond.methodLink RX7 108 yX7_faults ∈ gt := in_gt 986 (by decide +kernel) (by decide +kernel)
set_option maxRecDepth 100000 in
theorem wd_989 : Cond.code yX7_faults cX7_faults 2 (some FieldType.boolean) ∈ gt := in_gt 989 (by decide +kernel) (by decide +kernel)
set_option maxRecDepth 100000 in
theorem wd_988 : Cond.instanceMethod yX7_faults ∈ gt := in_gt 988 (by decide +kernel) (by decide +kernel)
set_option maxRecDepth 100000 in
theorem wd_37 : Cond.selects RX7 yX7_faults yX7_faults ∈ gt := in_gt 37 (by decide +kernel) (by decide +kernel)
theorem lk_RX7_108 : LkV RX7 108 yX7_faults cX7_faults 2 (some FieldType.boolean) 1 := ⟨wd_986, wd_988, wd_37, wd_78, wd_989, by decide +kernel, by decide +kernel, by decide +kernel⟩
set_option maxRecDepth 100000 in
theorem wd_970 : Cond.methodLink RX7 111 yX7_nextToken ∈ gt := in_gt 970 (by decide +kernel) (by decide +kernel)
set_option maxRecDepth 100000 in
theorem wd_973 : Cond.code yX7_nextToken cX7_nextToken 1 none ∈ gt := in_gt 973 (by decide +kernel) (by decide +kernel)
set_option maxRecDepth 100000 in
theorem wd_972 : Cond.instanceMethod yX7_nextToken ∈ gt := in_gt 972 (by decide +kernel) (by decide +kernel)
set_option maxRecDepth 100000 in
theorem wd_34 : Cond.selects RX7 yX7_nextToken yX7_nextToken ∈ gt := in_gt 34 (by decide +kernel) (by decide +kernel)
theorem lk_RX7_111 : LkV RX7 111 yX7_nextToken cX7_nextToken 1 none 0 := ⟨wd_970, wd_972, wd_34, wd_78, wd_973, by decide +kernel, by decide +kernel, by decide +kernel⟩
set_option maxRecDepth 100000 in
theorem wd_978 : Cond.methodLink RX7 114 yX7_takes ∈ gt := in_gt 978 (by decide +kernel) (by decide +kernel)
set_option maxRecDepth 100000 in
theorem wd_981 : Cond.code yX7_takes cX7_takes 2 (some FieldType.boolean) ∈ gt := in_gt 981 (by decide +kernel) (by decide +kernel)
set_option maxRecDepth 100000 in
theorem wd_980 : Cond.instanceMethod yX7_takes ∈ gt := in_gt 980 (by decide +kernel) (by decide +kernel)
set_option maxRecDepth 100000 in
theorem wd_35 : Cond.selects RX7 yX7_takes yX7_takes ∈ gt := in_gt 35 (by decide +kernel) (by decide +kernel)
theorem lk_RX7_114 : LkV RX7 114 yX7_takes cX7_takes 2 (some FieldType.boolean) 1 := ⟨wd_978, wd_980, wd_35, wd_78, wd_981, by decide +kernel, by decide +kernel, by decide +kernel⟩
set_option maxRecDepth 100000 in
theorem wd_990 : Cond.methodLink RX7 117 yX7_takesNumber ∈ gt := in_gt 990 (by decide +kernel) (by decide +kernel)
set_option maxRecDepth 100000 in
theorem wd_993 : Cond.code yX7_takesNumber cX7_takesNumber 5 (some FieldType.boolean) ∈ gt := in_gt 993 (by decide +kernel) (by decide +kernel)
set_option maxRecDepth 100000 in
theorem wd_992 : Cond.instanceMethod yX7_takesNumber ∈ gt := in_gt 992 (by decide +kernel) (by decide +kernel)
set_option maxRecDepth 100000 in
theorem wd_38 : Cond.selects RX7 yX7_takesNumber yX7_takesNumber ∈ gt := in_gt 38 (by decide +kernel) (by decide +kernel)
theorem lk_RX7_117 : LkV RX7 117 yX7_takesNumber cX7_takesNumber 5 (some FieldType.boolean) 4 := ⟨wd_990, wd_992, wd_38, wd_78, wd_993, by decide +kernel, by decide +kernel, by decide +kernel⟩
set_option maxRecDepth 100000 in
theorem wd_994 : Cond.methodLink RX7 121 yX7_readSitter ∈ gt := in_gt 994 (by decide +kernel) (by decide +kernel)
set_option maxRecDepth 100000 in
theorem wd_997 : Cond.code yX7_readSitter cX7_readSitter 3 (some FieldType.boolean) ∈ gt := in_gt 997 (by decide +kernel) (by decide +kernel)
set_option maxRecDepth 100000 in
theorem wd_996 : Cond.instanceMethod yX7_readSitter ∈ gt := in_gt 996 (by decide +kernel) (by decide +kernel)
set_option maxRecDepth 100000 in
theorem wd_39 : Cond.selects RX7 yX7_readSitter yX7_readSitter ∈ gt := in_gt 39 (by decide +kernel) (by decide +kernel)
theorem lk_RX7_121 : LkV RX7 121 yX7_readSitter cX7_readSitter 3 (some FieldType.boolean) 1 := ⟨wd_994, wd_996, wd_39, wd_78, wd_997, by decide +kernel, by decide +kernel, by decide +kernel⟩
set_option maxRecDepth 100000 in
theorem wd_998 : Cond.methodLink RX7 124 yX7_readDoor ∈ gt := in_gt 998 (by decide +kernel) (by decide +kernel)
set_option maxRecDepth 100000 in
theorem wd_1001 : Cond.code yX7_readDoor cX7_readDoor 2 (some FieldType.boolean) ∈ gt := in_gt 1001 (by decide +kernel) (by decide +kernel)
set_option maxRecDepth 100000 in
theorem wd_1000 : Cond.instanceMethod yX7_readDoor ∈ gt := in_gt 1000 (by decide +kernel) (by decide +kernel)
set_option maxRecDepth 100000 in
theorem wd_40 : Cond.selects RX7 yX7_readDoor yX7_readDoor ∈ gt := in_gt 40 (by decide +kernel) (by decide +kernel)
theorem lk_RX7_124 : LkV RX7 124 yX7_readDoor cX7_readDoor 2 (some FieldType.boolean) 0 := ⟨wd_998, wd_1000, wd_40, wd_78, wd_1001, by decide +kernel, by decide +kernel, by decide +kernel⟩
set_option maxRecDepth 100000 in
theorem wd_966 : Cond.methodLink RX7 128 yX7_readHouse ∈ gt := in_gt 966 (by decide +kernel) (by decide +kernel)
set_option maxRecDepth 100000 in
theorem wd_969 : Cond.code yX7_readHouse cX7_readHouse 3 (some FieldType.boolean) ∈ gt := in_gt 969 (by decide +kernel) (by decide +kernel)
set_option maxRecDepth 100000 in
theorem wd_968 : Cond.instanceMethod yX7_readHouse ∈ gt := in_gt 968 (by decide +kernel) (by decide +kernel)
set_option maxRecDepth 100000 in
theorem wd_33 : Cond.selects RX7 yX7_readHouse yX7_readHouse ∈ gt := in_gt 33 (by decide +kernel) (by decide +kernel)
theorem lk_RX7_128 : LkV RX7 128 yX7_readHouse cX7_readHouse 3 (some FieldType.boolean) 0 := ⟨wd_966, wd_968, wd_33, wd_78, wd_969, by decide +kernel, by decide +kernel, by decide +kernel⟩
set_option maxRecDepth 100000 in
theorem wd_857 : Cond.fieldLink RX7 131 "ColdGuestModel" "latest" "I" ∈ gt := in_gt 857 (by decide +kernel) (by decide +kernel)
set_option maxRecDepth 100000 in
theorem wd_1002 : Jvm.Cond.constant RX7 134 (-1000100) ∈ gt := in_gt 1002 (by decide +kernel) (by decide +kernel)
set_option maxRecDepth 100000 in
theorem wd_852 : Cond.fieldLink RX7 135 "ColdGuestModel" "isThere" "Z" ∈ gt := in_gt 852 (by decide +kernel) (by decide +kernel)
set_option maxRecDepth 100000 in
theorem wd_865 : Cond.fieldLink RX7 139 "ColdGuestModel" "actMany" "I" ∈ gt := in_gt 865 (by decide +kernel) (by decide +kernel)
set_option maxRecDepth 100000 in
theorem wd_1011 : Jvm.Cond.constant RX7 142 (-1000002) ∈ gt := in_gt 1011 (by decide +kernel) (by decide +kernel)
set_option maxRecDepth 100000 in
theorem wd_1032 : Cond.methodLink RX7 143 yX7_isKept ∈ gt := in_gt 1032 (by decide +kernel) (by decide +kernel)
set_option maxRecDepth 100000 in
theorem wd_1035 : Cond.code yX7_isKept cX7_isKept 6 (some FieldType.boolean) ∈ gt := in_gt 1035 (by decide +kernel) (by decide +kernel)
set_option maxRecDepth 100000 in
theorem wd_1034 : Cond.instanceMethod yX7_isKept ∈ gt := in_gt 1034 (by decide +kernel) (by decide +kernel)
set_option maxRecDepth 100000 in
theorem wd_44 : Cond.selects RX7 yX7_isKept yX7_isKept ∈ gt := in_gt 44 (by decide +kernel) (by decide +kernel)
theorem lk_RX7_143 : LkV RX7 143 yX7_isKept cX7_isKept 6 (some FieldType.boolean) 2 := ⟨wd_1032, wd_1034, wd_44, wd_78, wd_1035, by decide +kernel, by decide +kernel, by decide +kernel⟩
set_option maxRecDepth 100000 in
theorem wd_1025 : Cond.methodLink RX7 147 yX7_bound ∈ gt := in_gt 1025 (by decide +kernel) (by decide +kernel)
set_option maxRecDepth 100000 in
theorem wd_1027 : Cond.code yX7_bound cX7_bound 1 (some FieldType.int) ∈ gt := in_gt 1027 (by decide +kernel) (by decide +kernel)
set_option maxRecDepth 100000 in
theorem wd_1026 : Cond.static yX7_bound ∈ gt := in_gt 1026 (by decide +kernel) (by decide +kernel)
theorem lk_RX7_147 : LkS RX7 147 yX7_bound cX7_bound 1 (some FieldType.int) 1 := ⟨wd_1025, wd_1026, wd_78, wd_1027, by decide +kernel, by decide +kernel, by decide +kernel⟩
set_option maxRecDepth 100000 in
theorem wd_1028 : Cond.methodLink RX7 150 yX7_flow ∈ gt := in_gt 1028 (by decide +kernel) (by decide +kernel)
set_option maxRecDepth 100000 in
theorem wd_1031 : Cond.code yX7_flow cX7_flow 4 none ∈ gt := in_gt 1031 (by decide +kernel) (by decide +kernel)
set_option maxRecDepth 100000 in
theorem wd_1030 : Cond.instanceMethod yX7_flow ∈ gt := in_gt 1030 (by decide +kernel) (by decide +kernel)
set_option maxRecDepth 100000 in
theorem wd_43 : Cond.selects RX7 yX7_flow yX7_flow ∈ gt := in_gt 43 (by decide +kernel) (by decide +kernel)
theorem lk_RX7_150 : LkV RX7 150 yX7_flow cX7_flow 4 none 2 := ⟨wd_1028, wd_1030, wd_43, wd_78, wd_1031, by decide +kernel, by decide +kernel, by decide +kernel⟩
set_option maxRecDepth 100000 in
theorem wd_1016 : Jvm.Cond.constantLong RX7 154 (24) ∈ gt := in_gt 1016 (by decide +kernel) (by decide +kernel)
set_option maxRecDepth 100000 in
theorem wd_1017 : Cond.methodLink RX7 156 yX7_note ∈ gt := in_gt 1017 (by decide +kernel) (by decide +kernel)
set_option maxRecDepth 100000 in
theorem wd_1020 : Cond.code yX7_note cX7_note 2 none ∈ gt := in_gt 1020 (by decide +kernel) (by decide +kernel)
set_option maxRecDepth 100000 in
theorem wd_1019 : Cond.instanceMethod yX7_note ∈ gt := in_gt 1019 (by decide +kernel) (by decide +kernel)
set_option maxRecDepth 100000 in
theorem wd_41 : Cond.selects RX7 yX7_note yX7_note ∈ gt := in_gt 41 (by decide +kernel) (by decide +kernel)
theorem lk_RX7_156 : LkV RX7 156 yX7_note cX7_note 2 none 0 := ⟨wd_1017, wd_1019, wd_41, wd_78, wd_1020, by decide +kernel, by decide +kernel, by decide +kernel⟩
set_option maxRecDepth 100000 in
theorem wd_1021 : Cond.methodLink RX7 159 yX7_oneHour ∈ gt := in_gt 1021 (by decide +kernel) (by decide +kernel)
set_option maxRecDepth 100000 in
theorem wd_1024 : Cond.code yX7_oneHour cX7_oneHour 5 none ∈ gt := in_gt 1024 (by decide +kernel) (by decide +kernel)
set_option maxRecDepth 100000 in
theorem wd_1023 : Cond.instanceMethod yX7_oneHour ∈ gt := in_gt 1023 (by decide +kernel) (by decide +kernel)
set_option maxRecDepth 100000 in
theorem wd_42 : Cond.selects RX7 yX7_oneHour yX7_oneHour ∈ gt := in_gt 42 (by decide +kernel) (by decide +kernel)
theorem lk_RX7_159 : LkV RX7 159 yX7_oneHour cX7_oneHour 5 none 0 := ⟨wd_1021, wd_1023, wd_42, wd_78, wd_1024, by decide +kernel, by decide +kernel, by decide +kernel⟩
set_option maxRecDepth 100000 in
theorem wd_1036 : Cond.methodLink RX7 162 yX7_allCold ∈ gt := in_gt 1036 (by decide +kernel) (by decide +kernel)
set_option maxRecDepth 100000 in
theorem wd_1039 : Cond.code yX7_allCold cX7_allCold 3 (some FieldType.int) ∈ gt := in_gt 1039 (by decide +kernel) (by decide +kernel)
set_option maxRecDepth 100000 in
theorem wd_1038 : Cond.instanceMethod yX7_allCold ∈ gt := in_gt 1038 (by decide +kernel) (by decide +kernel)
set_option maxRecDepth 100000 in
theorem wd_45 : Cond.selects RX7 yX7_allCold yX7_allCold ∈ gt := in_gt 45 (by decide +kernel) (by decide +kernel)
theorem lk_RX7_162 : LkV RX7 162 yX7_allCold cX7_allCold 3 (some FieldType.int) 0 := ⟨wd_1036, wd_1038, wd_45, wd_78, wd_1039, by decide +kernel, by decide +kernel, by decide +kernel⟩
set_option maxRecDepth 100000 in
theorem wd_1044 : Cond.methodLink RX7 166 yX7_isDoor ∈ gt := in_gt 1044 (by decide +kernel) (by decide +kernel)
set_option maxRecDepth 100000 in
theorem wd_1047 : Cond.code yX7_isDoor cX7_isDoor 2 (some FieldType.boolean) ∈ gt := in_gt 1047 (by decide +kernel) (by decide +kernel)
set_option maxRecDepth 100000 in
theorem wd_1046 : Cond.instanceMethod yX7_isDoor ∈ gt := in_gt 1046 (by decide +kernel) (by decide +kernel)
set_option maxRecDepth 100000 in
theorem wd_46 : Cond.selects RX7 yX7_isDoor yX7_isDoor ∈ gt := in_gt 46 (by decide +kernel) (by decide +kernel)
theorem lk_RX7_166 : LkV RX7 166 yX7_isDoor cX7_isDoor 2 (some FieldType.boolean) 1 := ⟨wd_1044, wd_1046, wd_46, wd_78, wd_1047, by decide +kernel, by decide +kernel, by decide +kernel⟩
set_option maxRecDepth 100000 in
theorem wd_1048 : Cond.methodLink RX7 169 yX7_openDoors ∈ gt := in_gt 1048 (by decide +kernel) (by decide +kernel)
set_option maxRecDepth 100000 in
theorem wd_1051 : Cond.code yX7_openDoors cX7_openDoors 3 (some FieldType.int) ∈ gt := in_gt 1051 (by decide +kernel) (by decide +kernel)
set_option maxRecDepth 100000 in
theorem wd_1050 : Cond.instanceMethod yX7_openDoors ∈ gt := in_gt 1050 (by decide +kernel) (by decide +kernel)
set_option maxRecDepth 100000 in
theorem wd_47 : Cond.selects RX7 yX7_openDoors yX7_openDoors ∈ gt := in_gt 47 (by decide +kernel) (by decide +kernel)
theorem lk_RX7_169 : LkV RX7 169 yX7_openDoors cX7_openDoors 3 (some FieldType.int) 0 := ⟨wd_1048, wd_1050, wd_47, wd_78, wd_1051, by decide +kernel, by decide +kernel, by decide +kernel⟩
set_option maxRecDepth 100000 in
theorem wd_1056 : Cond.methodLink RX7 172 yX7_isSitter ∈ gt := in_gt 1056 (by decide +kernel) (by decide +kernel)
set_option maxRecDepth 100000 in
theorem wd_1059 : Cond.code yX7_isSitter cX7_isSitter 2 (some FieldType.boolean) ∈ gt := in_gt 1059 (by decide +kernel) (by decide +kernel)
set_option maxRecDepth 100000 in
theorem wd_1058 : Cond.instanceMethod yX7_isSitter ∈ gt := in_gt 1058 (by decide +kernel) (by decide +kernel)
set_option maxRecDepth 100000 in
theorem wd_48 : Cond.selects RX7 yX7_isSitter yX7_isSitter ∈ gt := in_gt 48 (by decide +kernel) (by decide +kernel)
theorem lk_RX7_172 : LkV RX7 172 yX7_isSitter cX7_isSitter 2 (some FieldType.boolean) 1 := ⟨wd_1056, wd_1058, wd_48, wd_78, wd_1059, by decide +kernel, by decide +kernel, by decide +kernel⟩
set_option maxRecDepth 100000 in
theorem wd_1060 : Cond.methodLink RX7 175 yX7_isRoom ∈ gt := in_gt 1060 (by decide +kernel) (by decide +kernel)
set_option maxRecDepth 100000 in
theorem wd_1063 : Cond.code yX7_isRoom cX7_isRoom 2 (some FieldType.boolean) ∈ gt := in_gt 1063 (by decide +kernel) (by decide +kernel)
set_option maxRecDepth 100000 in
theorem wd_1062 : Cond.instanceMethod yX7_isRoom ∈ gt := in_gt 1062 (by decide +kernel) (by decide +kernel)
set_option maxRecDepth 100000 in
theorem wd_49 : Cond.selects RX7 yX7_isRoom yX7_isRoom ∈ gt := in_gt 49 (by decide +kernel) (by decide +kernel)
theorem lk_RX7_175 : LkV RX7 175 yX7_isRoom cX7_isRoom 2 (some FieldType.boolean) 1 := ⟨wd_1060, wd_1062, wd_49, wd_78, wd_1063, by decide +kernel, by decide +kernel, by decide +kernel⟩
set_option maxRecDepth 100000 in
theorem wd_1068 : Jvm.Cond.constantLong RX7 178 (4) ∈ gt := in_gt 1068 (by decide +kernel) (by decide +kernel)
set_option maxRecDepth 100000 in
theorem wd_1077 : Cond.methodLink RX7 180 yX7_isCold ∈ gt := in_gt 1077 (by decide +kernel) (by decide +kernel)
set_option maxRecDepth 100000 in
theorem wd_1080 : Cond.code yX7_isCold cX7_isCold 2 (some FieldType.boolean) ∈ gt := in_gt 1080 (by decide +kernel) (by decide +kernel)
set_option maxRecDepth 100000 in
theorem wd_1079 : Cond.instanceMethod yX7_isCold ∈ gt := in_gt 1079 (by decide +kernel) (by decide +kernel)
set_option maxRecDepth 100000 in
theorem wd_50 : Cond.selects RX7 yX7_isCold yX7_isCold ∈ gt := in_gt 50 (by decide +kernel) (by decide +kernel)
theorem lk_RX7_180 : LkV RX7 180 yX7_isCold cX7_isCold 2 (some FieldType.boolean) 1 := ⟨wd_1077, wd_1079, wd_50, wd_78, wd_1080, by decide +kernel, by decide +kernel, by decide +kernel⟩
set_option maxRecDepth 100000 in
theorem wd_1085 : Jvm.Cond.constantLong RX7 183 (60) ∈ gt := in_gt 1085 (by decide +kernel) (by decide +kernel)
set_option maxRecDepth 100000 in
theorem wd_1086 : Cond.methodLink RX7 185 yX7_putAside ∈ gt := in_gt 1086 (by decide +kernel) (by decide +kernel)
set_option maxRecDepth 100000 in
theorem wd_1089 : Cond.code yX7_putAside cX7_putAside 2 none ∈ gt := in_gt 1089 (by decide +kernel) (by decide +kernel)
set_option maxRecDepth 100000 in
theorem wd_1088 : Cond.instanceMethod yX7_putAside ∈ gt := in_gt 1088 (by decide +kernel) (by decide +kernel)
set_option maxRecDepth 100000 in
theorem wd_51 : Cond.selects RX7 yX7_putAside yX7_putAside ∈ gt := in_gt 51 (by decide +kernel) (by decide +kernel)
theorem lk_RX7_185 : LkV RX7 185 yX7_putAside cX7_putAside 2 none 0 := ⟨wd_1086, wd_1088, wd_51, wd_78, wd_1089, by decide +kernel, by decide +kernel, by decide +kernel⟩
set_option maxRecDepth 100000 in
theorem wd_1090 : Cond.methodLink RX7 188 yX7_goOn ∈ gt := in_gt 1090 (by decide +kernel) (by decide +kernel)
set_option maxRecDepth 100000 in
theorem wd_1093 : Cond.code yX7_goOn cX7_goOn 3 none ∈ gt := in_gt 1093 (by decide +kernel) (by decide +kernel)
set_option maxRecDepth 100000 in
theorem wd_1092 : Cond.instanceMethod yX7_goOn ∈ gt := in_gt 1092 (by decide +kernel) (by decide +kernel)
set_option maxRecDepth 100000 in
theorem wd_52 : Cond.selects RX7 yX7_goOn yX7_goOn ∈ gt := in_gt 52 (by decide +kernel) (by decide +kernel)
theorem lk_RX7_188 : LkV RX7 188 yX7_goOn cX7_goOn 3 none 1 := ⟨wd_1090, wd_1092, wd_52, wd_78, wd_1093, by decide +kernel, by decide +kernel, by decide +kernel⟩
set_option maxRecDepth 100000 in
theorem wd_1094 : Cond.methodLink RX7 192 yX7_takeBack ∈ gt := in_gt 1094 (by decide +kernel) (by decide +kernel)
set_option maxRecDepth 100000 in
theorem wd_1097 : Cond.code yX7_takeBack cX7_takeBack 2 none ∈ gt := in_gt 1097 (by decide +kernel) (by decide +kernel)
set_option maxRecDepth 100000 in
theorem wd_1096 : Cond.instanceMethod yX7_takeBack ∈ gt := in_gt 1096 (by decide +kernel) (by decide +kernel)
set_option maxRecDepth 100000 in
theorem wd_53 : Cond.selects RX7 yX7_takeBack yX7_takeBack ∈ gt := in_gt 53 (by decide +kernel) (by decide +kernel)
theorem lk_RX7_192 : LkV RX7 192 yX7_takeBack cX7_takeBack 2 none 0 := ⟨wd_1094, wd_1096, wd_53, wd_78, wd_1097, by decide +kernel, by decide +kernel, by decide +kernel⟩
set_option maxRecDepth 100000 in
theorem wd_1106 : Cond.methodLink RX7 195 yX7_firstCold ∈ gt := in_gt 1106 (by decide +kernel) (by decide +kernel)
set_option maxRecDepth 100000 in
theorem wd_1109 : Cond.code yX7_firstCold cX7_firstCold 2 (some FieldType.int) ∈ gt := in_gt 1109 (by decide +kernel) (by decide +kernel)
set_option maxRecDepth 100000 in
theorem wd_1108 : Cond.instanceMethod yX7_firstCold ∈ gt := in_gt 1108 (by decide +kernel) (by decide +kernel)
set_option maxRecDepth 100000 in
theorem wd_54 : Cond.selects RX7 yX7_firstCold yX7_firstCold ∈ gt := in_gt 54 (by decide +kernel) (by decide +kernel)
theorem lk_RX7_195 : LkV RX7 195 yX7_firstCold cX7_firstCold 2 (some FieldType.int) 0 := ⟨wd_1106, wd_1108, wd_54, wd_78, wd_1109, by decide +kernel, by decide +kernel, by decide +kernel⟩
set_option maxRecDepth 100000 in
theorem wd_1110 : Jvm.Cond.constant RX7 198 (-1000000) ∈ gt := in_gt 1110 (by decide +kernel) (by decide +kernel)
set_option maxRecDepth 100000 in
theorem wd_1127 : Cond.methodLink RX7 199 yX7_has ∈ gt := in_gt 1127 (by decide +kernel) (by decide +kernel)
set_option maxRecDepth 100000 in
theorem wd_1129 : Cond.code yX7_has cX7_has 2 (some FieldType.boolean) ∈ gt := in_gt 1129 (by decide +kernel) (by decide +kernel)
set_option maxRecDepth 100000 in
theorem wd_1128 : Cond.static yX7_has ∈ gt := in_gt 1128 (by decide +kernel) (by decide +kernel)
theorem lk_RX7_199 : LkS RX7 199 yX7_has cX7_has 2 (some FieldType.boolean) 2 := ⟨wd_1127, wd_1128, wd_78, wd_1129, by decide +kernel, by decide +kernel, by decide +kernel⟩
set_option maxRecDepth 100000 in
theorem wd_1115 : Cond.methodLink RX7 203 yX7_areRooms ∈ gt := in_gt 1115 (by decide +kernel) (by decide +kernel)
set_option maxRecDepth 100000 in
theorem wd_1118 : Cond.code yX7_areRooms cX7_areRooms 2 (some FieldType.boolean) ∈ gt := in_gt 1118 (by decide +kernel) (by decide +kernel)
set_option maxRecDepth 100000 in
theorem wd_1117 : Cond.instanceMethod yX7_areRooms ∈ gt := in_gt 1117 (by decide +kernel) (by decide +kernel)
set_option maxRecDepth 100000 in
theorem wd_55 : Cond.selects RX7 yX7_areRooms yX7_areRooms ∈ gt := in_gt 55 (by decide +kernel) (by decide +kernel)
theorem lk_RX7_203 : LkV RX7 203 yX7_areRooms cX7_areRooms 2 (some FieldType.boolean) 1 := ⟨wd_1115, wd_1117, wd_55, wd_78, wd_1118, by decide +kernel, by decide +kernel, by decide +kernel⟩
set_option maxRecDepth 100000 in
theorem wd_1119 : Jvm.Cond.constantLong RX7 206 (999) ∈ gt := in_gt 1119 (by decide +kernel) (by decide +kernel)
set_option maxRecDepth 100000 in
theorem wd_1120 : Cond.methodLink RX7 208 yX7_ones ∈ gt := in_gt 1120 (by decide +kernel) (by decide +kernel)
set_option maxRecDepth 100000 in
theorem wd_1122 : Cond.code yX7_ones cX7_ones 3 (some FieldType.int) ∈ gt := in_gt 1122 (by decide +kernel) (by decide +kernel)
set_option maxRecDepth 100000 in
theorem wd_1121 : Cond.static yX7_ones ∈ gt := in_gt 1121 (by decide +kernel) (by decide +kernel)
theorem lk_RX7_208 : LkS RX7 208 yX7_ones cX7_ones 3 (some FieldType.int) 1 := ⟨wd_1120, wd_1121, wd_78, wd_1122, by decide +kernel, by decide +kernel, by decide +kernel⟩
set_option maxRecDepth 100000 in
theorem wd_1123 : Cond.methodLink RX7 211 yX7_turn ∈ gt := in_gt 1123 (by decide +kernel) (by decide +kernel)
set_option maxRecDepth 100000 in
theorem wd_1126 : Cond.code yX7_turn cX7_turn 3 none ∈ gt := in_gt 1126 (by decide +kernel) (by decide +kernel)
set_option maxRecDepth 100000 in
theorem wd_1125 : Cond.instanceMethod yX7_turn ∈ gt := in_gt 1125 (by decide +kernel) (by decide +kernel)
set_option maxRecDepth 100000 in
theorem wd_56 : Cond.selects RX7 yX7_turn yX7_turn ∈ gt := in_gt 56 (by decide +kernel) (by decide +kernel)
theorem lk_RX7_211 : LkV RX7 211 yX7_turn cX7_turn 3 none 1 := ⟨wd_1123, wd_1125, wd_56, wd_78, wd_1126, by decide +kernel, by decide +kernel, by decide +kernel⟩
set_option maxRecDepth 100000 in
theorem wd_1130 : Cond.methodLink RX7 214 yX7_coldRooms ∈ gt := in_gt 1130 (by decide +kernel) (by decide +kernel)
set_option maxRecDepth 100000 in
theorem wd_1133 : Cond.code yX7_coldRooms cX7_coldRooms 4 (some FieldType.int) ∈ gt := in_gt 1133 (by decide +kernel) (by decide +kernel)
set_option maxRecDepth 100000 in
theorem wd_1132 : Cond.instanceMethod yX7_coldRooms ∈ gt := in_gt 1132 (by decide +kernel) (by decide +kernel)
set_option maxRecDepth 100000 in
theorem wd_57 : Cond.selects RX7 yX7_coldRooms yX7_coldRooms ∈ gt := in_gt 57 (by decide +kernel) (by decide +kernel)
theorem lk_RX7_214 : LkV RX7 214 yX7_coldRooms cX7_coldRooms 4 (some FieldType.int) 1 := ⟨wd_1130, wd_1132, wd_57, wd_78, wd_1133, by decide +kernel, by decide +kernel, by decide +kernel⟩
set_option maxRecDepth 100000 in
theorem wd_1142 : Cond.methodLink RX7 217 yX7_coldIn ∈ gt := in_gt 1142 (by decide +kernel) (by decide +kernel)
set_option maxRecDepth 100000 in
theorem wd_1145 : Cond.code yX7_coldIn cX7_coldIn 4 (some FieldType.int) ∈ gt := in_gt 1145 (by decide +kernel) (by decide +kernel)
set_option maxRecDepth 100000 in
theorem wd_1144 : Cond.instanceMethod yX7_coldIn ∈ gt := in_gt 1144 (by decide +kernel) (by decide +kernel)
set_option maxRecDepth 100000 in
theorem wd_58 : Cond.selects RX7 yX7_coldIn yX7_coldIn ∈ gt := in_gt 58 (by decide +kernel) (by decide +kernel)
theorem lk_RX7_217 : LkV RX7 217 yX7_coldIn cX7_coldIn 4 (some FieldType.int) 2 := ⟨wd_1142, wd_1144, wd_58, wd_78, wd_1145, by decide +kernel, by decide +kernel, by decide +kernel⟩
set_option maxRecDepth 100000 in
theorem wd_1150 : Jvm.Cond.constantLong RX7 220 (6) ∈ gt := in_gt 1150 (by decide +kernel) (by decide +kernel)
set_option maxRecDepth 100000 in
theorem wd_1151 : Cond.methodLink RX7 222 yX7_lacks ∈ gt := in_gt 1151 (by decide +kernel) (by decide +kernel)
set_option maxRecDepth 100000 in
theorem wd_1154 : Cond.code yX7_lacks cX7_lacks 4 (some FieldType.int) ∈ gt := in_gt 1154 (by decide +kernel) (by decide +kernel)
set_option maxRecDepth 100000 in
theorem wd_1153 : Cond.instanceMethod yX7_lacks ∈ gt := in_gt 1153 (by decide +kernel) (by decide +kernel)
set_option maxRecDepth 100000 in
theorem wd_59 : Cond.selects RX7 yX7_lacks yX7_lacks ∈ gt := in_gt 59 (by decide +kernel) (by decide +kernel)
theorem lk_RX7_222 : LkV RX7 222 yX7_lacks cX7_lacks 4 (some FieldType.int) 3 := ⟨wd_1151, wd_1153, wd_59, wd_78, wd_1154, by decide +kernel, by decide +kernel, by decide +kernel⟩
set_option maxRecDepth 100000 in
theorem wd_1155 : Cond.methodLink RX7 226 yX7_isSo ∈ gt := in_gt 1155 (by decide +kernel) (by decide +kernel)
set_option maxRecDepth 100000 in
theorem wd_1158 : Cond.code yX7_isSo cX7_isSo 5 (some FieldType.boolean) ∈ gt := in_gt 1158 (by decide +kernel) (by decide +kernel)
set_option maxRecDepth 100000 in
theorem wd_1157 : Cond.instanceMethod yX7_isSo ∈ gt := in_gt 1157 (by decide +kernel) (by decide +kernel)
set_option maxRecDepth 100000 in
theorem wd_60 : Cond.selects RX7 yX7_isSo yX7_isSo ∈ gt := in_gt 60 (by decide +kernel) (by decide +kernel)
theorem lk_RX7_226 : LkV RX7 226 yX7_isSo cX7_isSo 5 (some FieldType.boolean) 2 := ⟨wd_1155, wd_1157, wd_60, wd_78, wd_1158, by decide +kernel, by decide +kernel, by decide +kernel⟩
set_option maxRecDepth 100000 in
theorem wd_1167 : Cond.methodLink RX7 229 yX7_reachBy ∈ gt := in_gt 1167 (by decide +kernel) (by decide +kernel)
set_option maxRecDepth 100000 in
theorem wd_1170 : Cond.code yX7_reachBy cX7_reachBy 6 (some FieldType.int) ∈ gt := in_gt 1170 (by decide +kernel) (by decide +kernel)
set_option maxRecDepth 100000 in
theorem wd_1169 : Cond.instanceMethod yX7_reachBy ∈ gt := in_gt 1169 (by decide +kernel) (by decide +kernel)
set_option maxRecDepth 100000 in
theorem wd_61 : Cond.selects RX7 yX7_reachBy yX7_reachBy ∈ gt := in_gt 61 (by decide +kernel) (by decide +kernel)
theorem lk_RX7_229 : LkV RX7 229 yX7_reachBy cX7_reachBy 6 (some FieldType.int) 2 := ⟨wd_1167, wd_1169, wd_61, wd_78, wd_1170, by decide +kernel, by decide +kernel, by decide +kernel⟩
set_option maxRecDepth 100000 in
theorem wd_1183 : Jvm.Cond.constantLong RX7 232 (-1000002) ∈ gt := in_gt 1183 (by decide +kernel) (by decide +kernel)
set_option maxRecDepth 100000 in
theorem wd_1184 : Jvm.Cond.constantLong RX7 234 (10) ∈ gt := in_gt 1184 (by decide +kernel) (by decide +kernel)
set_option maxRecDepth 100000 in
theorem wd_1185 : Jvm.Cond.constantLong RX7 236 (-1000001) ∈ gt := in_gt 1185 (by decide +kernel) (by decide +kernel)
set_option maxRecDepth 100000 in
theorem wd_1190 : Jvm.Cond.constantLong RX7 238 (999999) ∈ gt := in_gt 1190 (by decide +kernel) (by decide +kernel)
set_option maxRecDepth 100000 in
theorem wd_1191 : Jvm.Cond.constantLong RX7 240 (16807) ∈ gt := in_gt 1191 (by decide +kernel) (by decide +kernel)
set_option maxRecDepth 100000 in
theorem wd_1192 : Jvm.Cond.constantLong RX7 242 (2147483647) ∈ gt := in_gt 1192 (by decide +kernel) (by decide +kernel)
set_option maxRecDepth 100000 in
theorem wd_1209 : Jvm.Cond.constantLong RX7 244 (5) ∈ gt := in_gt 1209 (by decide +kernel) (by decide +kernel)
set_option maxRecDepth 100000 in
theorem wd_1210 : Cond.methodLink RX7 246 yX7_isKind ∈ gt := in_gt 1210 (by decide +kernel) (by decide +kernel)
set_option maxRecDepth 100000 in
theorem wd_1212 : Cond.code yX7_isKind cX7_isKind 2 (some FieldType.boolean) ∈ gt := in_gt 1212 (by decide +kernel) (by decide +kernel)
set_option maxRecDepth 100000 in
theorem wd_1211 : Cond.static yX7_isKind ∈ gt := in_gt 1211 (by decide +kernel) (by decide +kernel)
theorem lk_RX7_246 : LkS RX7 246 yX7_isKind cX7_isKind 2 (some FieldType.boolean) 2 := ⟨wd_1210, wd_1211, wd_78, wd_1212, by decide +kernel, by decide +kernel, by decide +kernel⟩
set_option maxRecDepth 100000 in
theorem wd_870 : Cond.fieldLink RX7 249 "ColdGuestModel" "traced" "I" ∈ gt := in_gt 870 (by decide +kernel) (by decide +kernel)
set_option maxRecDepth 100000 in
theorem wd_1221 : Cond.methodLink RX7 252 yX7_begin ∈ gt := in_gt 1221 (by decide +kernel) (by decide +kernel)
set_option maxRecDepth 100000 in
theorem wd_1224 : Cond.code yX7_begin cX7_begin 2 none ∈ gt := in_gt 1224 (by decide +kernel) (by decide +kernel)
set_option maxRecDepth 100000 in
theorem wd_1223 : Cond.instanceMethod yX7_begin ∈ gt := in_gt 1223 (by decide +kernel) (by decide +kernel)
set_option maxRecDepth 100000 in
theorem wd_63 : Cond.selects RX7 yX7_begin yX7_begin ∈ gt := in_gt 63 (by decide +kernel) (by decide +kernel)
theorem lk_RX7_252 : LkV RX7 252 yX7_begin cX7_begin 2 none 1 := ⟨wd_1221, wd_1223, wd_63, wd_78, wd_1224, by decide +kernel, by decide +kernel, by decide +kernel⟩
set_option maxRecDepth 100000 in
theorem wd_1229 : Cond.methodLink RX7 255 yX7_lent ∈ gt := in_gt 1229 (by decide +kernel) (by decide +kernel)
set_option maxRecDepth 100000 in
theorem wd_1232 : Cond.code yX7_lent cX7_lent 3 (some FieldType.int) ∈ gt := in_gt 1232 (by decide +kernel) (by decide +kernel)
set_option maxRecDepth 100000 in
theorem wd_1231 : Cond.instanceMethod yX7_lent ∈ gt := in_gt 1231 (by decide +kernel) (by decide +kernel)
set_option maxRecDepth 100000 in
theorem wd_65 : Cond.selects RX7 yX7_lent yX7_lent ∈ gt := in_gt 65 (by decide +kernel) (by decide +kernel)
theorem lk_RX7_255 : LkV RX7 255 yX7_lent cX7_lent 3 (some FieldType.int) 2 := ⟨wd_1229, wd_1231, wd_65, wd_78, wd_1232, by decide +kernel, by decide +kernel, by decide +kernel⟩
set_option maxRecDepth 100000 in
theorem wd_1245 : Cond.methodLink RX7 258 yX7_fireSize ∈ gt := in_gt 1245 (by decide +kernel) (by decide +kernel)
set_option maxRecDepth 100000 in
theorem wd_1248 : Cond.code yX7_fireSize cX7_fireSize 2 (some FieldType.int) ∈ gt := in_gt 1248 (by decide +kernel) (by decide +kernel)
set_option maxRecDepth 100000 in
theorem wd_1247 : Cond.instanceMethod yX7_fireSize ∈ gt := in_gt 1247 (by decide +kernel) (by decide +kernel)
set_option maxRecDepth 100000 in
theorem wd_69 : Cond.selects RX7 yX7_fireSize yX7_fireSize ∈ gt := in_gt 69 (by decide +kernel) (by decide +kernel)
theorem lk_RX7_258 : LkV RX7 258 yX7_fireSize cX7_fireSize 2 (some FieldType.int) 1 := ⟨wd_1245, wd_1247, wd_69, wd_78, wd_1248, by decide +kernel, by decide +kernel, by decide +kernel⟩
set_option maxRecDepth 100000 in
theorem wd_1237 : Cond.methodLink RX7 261 yX7_readMark ∈ gt := in_gt 1237 (by decide +kernel) (by decide +kernel)
set_option maxRecDepth 100000 in
theorem wd_1240 : Cond.code yX7_readMark cX7_readMark 2 (some FieldType.int) ∈ gt := in_gt 1240 (by decide +kernel) (by decide +kernel)
set_option maxRecDepth 100000 in
theorem wd_1239 : Cond.instanceMethod yX7_readMark ∈ gt := in_gt 1239 (by decide +kernel) (by decide +kernel)
set_option maxRecDepth 100000 in
theorem wd_67 : Cond.selects RX7 yX7_readMark yX7_readMark ∈ gt := in_gt 67 (by decide +kernel) (by decide +kernel)
theorem lk_RX7_261 : LkV RX7 261 yX7_readMark cX7_readMark 2 (some FieldType.int) 1 := ⟨wd_1237, wd_1239, wd_67, wd_78, wd_1240, by decide +kernel, by decide +kernel, by decide +kernel⟩
set_option maxRecDepth 100000 in
theorem wd_1241 : Cond.methodLink RX7 264 yX7_sizeOfFire ∈ gt := in_gt 1241 (by decide +kernel) (by decide +kernel)
set_option maxRecDepth 100000 in
theorem wd_1244 : Cond.code yX7_sizeOfFire cX7_sizeOfFire 2 (some FieldType.int) ∈ gt := in_gt 1244 (by decide +kernel) (by decide +kernel)
set_option maxRecDepth 100000 in
theorem wd_1243 : Cond.instanceMethod yX7_sizeOfFire ∈ gt := in_gt 1243 (by decide +kernel) (by decide +kernel)
set_option maxRecDepth 100000 in
theorem wd_68 : Cond.selects RX7 yX7_sizeOfFire yX7_sizeOfFire ∈ gt := in_gt 68 (by decide +kernel) (by decide +kernel)
theorem lk_RX7_264 : LkV RX7 264 yX7_sizeOfFire cX7_sizeOfFire 2 (some FieldType.int) 1 := ⟨wd_1241, wd_1243, wd_68, wd_78, wd_1244, by decide +kernel, by decide +kernel, by decide +kernel⟩
set_option maxRecDepth 100000 in
theorem wd_1233 : Cond.methodLink RX7 267 yX7_markOf ∈ gt := in_gt 1233 (by decide +kernel) (by decide +kernel)
set_option maxRecDepth 100000 in
theorem wd_1236 : Cond.code yX7_markOf cX7_markOf 4 (some FieldType.int) ∈ gt := in_gt 1236 (by decide +kernel) (by decide +kernel)
set_option maxRecDepth 100000 in
theorem wd_1235 : Cond.instanceMethod yX7_markOf ∈ gt := in_gt 1235 (by decide +kernel) (by decide +kernel)
set_option maxRecDepth 100000 in
theorem wd_66 : Cond.selects RX7 yX7_markOf yX7_markOf ∈ gt := in_gt 66 (by decide +kernel) (by decide +kernel)
theorem lk_RX7_267 : LkV RX7 267 yX7_markOf cX7_markOf 4 (some FieldType.int) 1 := ⟨wd_1233, wd_1235, wd_66, wd_78, wd_1236, by decide +kernel, by decide +kernel, by decide +kernel⟩
set_option maxRecDepth 100000 in
theorem wd_1225 : Cond.methodLink RX7 270 yX7_readSize ∈ gt := in_gt 1225 (by decide +kernel) (by decide +kernel)
set_option maxRecDepth 100000 in
theorem wd_1228 : Cond.code yX7_readSize cX7_readSize 3 (some FieldType.int) ∈ gt := in_gt 1228 (by decide +kernel) (by decide +kernel)
set_option maxRecDepth 100000 in
theorem wd_1227 : Cond.instanceMethod yX7_readSize ∈ gt := in_gt 1227 (by decide +kernel) (by decide +kernel)
set_option maxRecDepth 100000 in
theorem wd_64 : Cond.selects RX7 yX7_readSize yX7_readSize ∈ gt := in_gt 64 (by decide +kernel) (by decide +kernel)
theorem lk_RX7_270 : LkV RX7 270 yX7_readSize cX7_readSize 3 (some FieldType.int) 1 := ⟨wd_1225, wd_1227, wd_64, wd_78, wd_1228, by decide +kernel, by decide +kernel, by decide +kernel⟩
set_option maxRecDepth 100000 in
theorem wd_1217 : Cond.methodLink RX7 273 yX7_sizeOf ∈ gt := in_gt 1217 (by decide +kernel) (by decide +kernel)
set_option maxRecDepth 100000 in
theorem wd_1220 : Cond.code yX7_sizeOf cX7_sizeOf 3 (some FieldType.int) ∈ gt := in_gt 1220 (by decide +kernel) (by decide +kernel)
set_option maxRecDepth 100000 in
theorem wd_1219 : Cond.instanceMethod yX7_sizeOf ∈ gt := in_gt 1219 (by decide +kernel) (by decide +kernel)
set_option maxRecDepth 100000 in
theorem wd_62 : Cond.selects RX7 yX7_sizeOf yX7_sizeOf ∈ gt := in_gt 62 (by decide +kernel) (by decide +kernel)
theorem lk_RX7_273 : LkV RX7 273 yX7_sizeOf cX7_sizeOf 3 (some FieldType.int) 1 := ⟨wd_1217, wd_1219, wd_62, wd_78, wd_1220, by decide +kernel, by decide +kernel, by decide +kernel⟩
set_option maxRecDepth 100000 in
theorem wd_626 : Jvm.Cond.constant RJ6 265 (1431655765) ∈ gt := in_gt 626 (by decide +kernel) (by decide +kernel)
set_option maxRecDepth 100000 in
theorem wd_627 : Jvm.Cond.constant RJ6 266 (858993459) ∈ gt := in_gt 627 (by decide +kernel) (by decide +kernel)
set_option maxRecDepth 100000 in
theorem wd_628 : Jvm.Cond.constant RJ6 267 (252645135) ∈ gt := in_gt 628 (by decide +kernel) (by decide +kernel)
set_option maxRecDepth 100000 in
theorem wd_297 : Cond.methodLink R_law 13 yX6_row ∈ gt := in_gt 297 (by decide +kernel) (by decide +kernel)
set_option maxRecDepth 100000 in
theorem wd_300 : Cond.code yX6_row cX6_row 4 (some FieldType.int) ∈ gt := in_gt 300 (by decide +kernel) (by decide +kernel)
set_option maxRecDepth 100000 in
theorem wd_298 : Cond.instanceMethod yX6_row ∈ gt := in_gt 298 (by decide +kernel) (by decide +kernel)
set_option maxRecDepth 100000 in
theorem wd_299 : Cond.selects RX6 yX6_row yX6_row ∈ gt := in_gt 299 (by decide +kernel) (by decide +kernel)
theorem lk_R_law_13 : LkV R_law 13 yX6_row cX6_row 4 (some FieldType.int) 3 := ⟨wd_297, wd_298, wd_299, wd_71, wd_300, by decide +kernel, by decide +kernel, by decide +kernel⟩
set_option maxRecDepth 100000 in
theorem wd_919 : Cond.methodLink R_law 17 yX7_row ∈ gt := in_gt 919 (by decide +kernel) (by decide +kernel)
set_option maxRecDepth 100000 in
theorem wd_922 : Cond.code yX7_row cX7_row 5 (some FieldType.int) ∈ gt := in_gt 922 (by decide +kernel) (by decide +kernel)
set_option maxRecDepth 100000 in
theorem wd_920 : Cond.instanceMethod yX7_row ∈ gt := in_gt 920 (by decide +kernel) (by decide +kernel)
set_option maxRecDepth 100000 in
theorem wd_921 : Cond.selects RX7 yX7_row yX7_row ∈ gt := in_gt 921 (by decide +kernel) (by decide +kernel)
theorem lk_R_law_17 : LkV R_law 17 yX7_row cX7_row 5 (some FieldType.int) 3 := ⟨wd_919, wd_920, wd_921, wd_78, wd_922, by decide +kernel, by decide +kernel, by decide +kernel⟩
set_option maxRecDepth 100000 in
theorem wd_321 : Cond.methodLink R_law 18 yX6_set ∈ gt := in_gt 321 (by decide +kernel) (by decide +kernel)
set_option maxRecDepth 100000 in
theorem wd_324 : Cond.code yX6_set cX6_set 4 (some FieldType.int) ∈ gt := in_gt 324 (by decide +kernel) (by decide +kernel)
set_option maxRecDepth 100000 in
theorem wd_322 : Cond.instanceMethod yX6_set ∈ gt := in_gt 322 (by decide +kernel) (by decide +kernel)
set_option maxRecDepth 100000 in
theorem wd_323 : Cond.selects RX6 yX6_set yX6_set ∈ gt := in_gt 323 (by decide +kernel) (by decide +kernel)
theorem lk_R_law_18 : LkV R_law 18 yX6_set cX6_set 4 (some FieldType.int) 3 := ⟨wd_321, wd_322, wd_323, wd_71, wd_324, by decide +kernel, by decide +kernel, by decide +kernel⟩
set_option maxRecDepth 100000 in
theorem wd_941 : Cond.methodLink R_law 21 yX7_set ∈ gt := in_gt 941 (by decide +kernel) (by decide +kernel)
set_option maxRecDepth 100000 in
theorem wd_944 : Cond.code yX7_set cX7_set 4 (some FieldType.int) ∈ gt := in_gt 944 (by decide +kernel) (by decide +kernel)
set_option maxRecDepth 100000 in
theorem wd_942 : Cond.instanceMethod yX7_set ∈ gt := in_gt 942 (by decide +kernel) (by decide +kernel)
set_option maxRecDepth 100000 in
theorem wd_943 : Cond.selects RX7 yX7_set yX7_set ∈ gt := in_gt 943 (by decide +kernel) (by decide +kernel)
theorem lk_R_law_21 : LkV R_law 21 yX7_set cX7_set 4 (some FieldType.int) 3 := ⟨wd_941, wd_942, wd_943, wd_78, wd_944, by decide +kernel, by decide +kernel, by decide +kernel⟩
set_option maxRecDepth 100000 in
theorem wd_340 : Cond.methodLink R_law 22 yX6_copy ∈ gt := in_gt 340 (by decide +kernel) (by decide +kernel)
set_option maxRecDepth 100000 in
theorem wd_343 : Cond.code yX6_copy cX6_copy 6 (some FieldType.int) ∈ gt := in_gt 343 (by decide +kernel) (by decide +kernel)
set_option maxRecDepth 100000 in
theorem wd_341 : Cond.instanceMethod yX6_copy ∈ gt := in_gt 341 (by decide +kernel) (by decide +kernel)
set_option maxRecDepth 100000 in
theorem wd_342 : Cond.selects RX6 yX6_copy yX6_copy ∈ gt := in_gt 342 (by decide +kernel) (by decide +kernel)
theorem lk_R_law_22 : LkV R_law 22 yX6_copy cX6_copy 6 (some FieldType.int) 5 := ⟨wd_340, wd_341, wd_342, wd_71, wd_343, by decide +kernel, by decide +kernel, by decide +kernel⟩
set_option maxRecDepth 100000 in
theorem wd_948 : Cond.methodLink R_law 26 yX7_copy ∈ gt := in_gt 948 (by decide +kernel) (by decide +kernel)
set_option maxRecDepth 100000 in
theorem wd_951 : Cond.code yX7_copy cX7_copy 7 (some FieldType.int) ∈ gt := in_gt 951 (by decide +kernel) (by decide +kernel)
set_option maxRecDepth 100000 in
theorem wd_949 : Cond.instanceMethod yX7_copy ∈ gt := in_gt 949 (by decide +kernel) (by decide +kernel)
set_option maxRecDepth 100000 in
theorem wd_950 : Cond.selects RX7 yX7_copy yX7_copy ∈ gt := in_gt 950 (by decide +kernel) (by decide +kernel)
theorem lk_R_law_26 : LkV R_law 26 yX7_copy cX7_copy 7 (some FieldType.int) 5 := ⟨wd_948, wd_949, wd_950, wd_78, wd_951, by decide +kernel, by decide +kernel, by decide +kernel⟩
set_option maxRecDepth 100000 in
theorem wd_355 : Cond.methodLink R_law 27 yX6_drop ∈ gt := in_gt 355 (by decide +kernel) (by decide +kernel)
set_option maxRecDepth 100000 in
theorem wd_358 : Cond.code yX6_drop cX6_drop 2 (some FieldType.int) ∈ gt := in_gt 358 (by decide +kernel) (by decide +kernel)
set_option maxRecDepth 100000 in
theorem wd_356 : Cond.instanceMethod yX6_drop ∈ gt := in_gt 356 (by decide +kernel) (by decide +kernel)
set_option maxRecDepth 100000 in
theorem wd_357 : Cond.selects RX6 yX6_drop yX6_drop ∈ gt := in_gt 357 (by decide +kernel) (by decide +kernel)
theorem lk_R_law_27 : LkV R_law 27 yX6_drop cX6_drop 2 (some FieldType.int) 1 := ⟨wd_355, wd_356, wd_357, wd_71, wd_358, by decide +kernel, by decide +kernel, by decide +kernel⟩
set_option maxRecDepth 100000 in
theorem wd_952 : Cond.methodLink R_law 31 yX7_drop ∈ gt := in_gt 952 (by decide +kernel) (by decide +kernel)
set_option maxRecDepth 100000 in
theorem wd_955 : Cond.code yX7_drop cX7_drop 3 (some FieldType.int) ∈ gt := in_gt 955 (by decide +kernel) (by decide +kernel)
set_option maxRecDepth 100000 in
theorem wd_953 : Cond.instanceMethod yX7_drop ∈ gt := in_gt 953 (by decide +kernel) (by decide +kernel)
set_option maxRecDepth 100000 in
theorem wd_954 : Cond.selects RX7 yX7_drop yX7_drop ∈ gt := in_gt 954 (by decide +kernel) (by decide +kernel)
theorem lk_R_law_31 : LkV R_law 31 yX7_drop cX7_drop 3 (some FieldType.int) 1 := ⟨wd_952, wd_953, wd_954, wd_78, wd_955, by decide +kernel, by decide +kernel, by decide +kernel⟩
set_option maxRecDepth 100000 in
theorem wd_363 : Cond.methodLink R_law 32 yX6_feed ∈ gt := in_gt 363 (by decide +kernel) (by decide +kernel)
set_option maxRecDepth 100000 in
theorem wd_366 : Cond.code yX6_feed cX6_feed 2 (some FieldType.int) ∈ gt := in_gt 366 (by decide +kernel) (by decide +kernel)
set_option maxRecDepth 100000 in
theorem wd_364 : Cond.instanceMethod yX6_feed ∈ gt := in_gt 364 (by decide +kernel) (by decide +kernel)
set_option maxRecDepth 100000 in
theorem wd_365 : Cond.selects RX6 yX6_feed yX6_feed ∈ gt := in_gt 365 (by decide +kernel) (by decide +kernel)
theorem lk_R_law_32 : LkV R_law 32 yX6_feed cX6_feed 2 (some FieldType.int) 1 := ⟨wd_363, wd_364, wd_365, wd_71, wd_366, by decide +kernel, by decide +kernel, by decide +kernel⟩
set_option maxRecDepth 100000 in
theorem wd_956 : Cond.methodLink R_law 35 yX7_feed ∈ gt := in_gt 956 (by decide +kernel) (by decide +kernel)
set_option maxRecDepth 100000 in
theorem wd_959 : Cond.code yX7_feed cX7_feed 2 (some FieldType.int) ∈ gt := in_gt 959 (by decide +kernel) (by decide +kernel)
set_option maxRecDepth 100000 in
theorem wd_957 : Cond.instanceMethod yX7_feed ∈ gt := in_gt 957 (by decide +kernel) (by decide +kernel)
set_option maxRecDepth 100000 in
theorem wd_958 : Cond.selects RX7 yX7_feed yX7_feed ∈ gt := in_gt 958 (by decide +kernel) (by decide +kernel)
theorem lk_R_law_35 : LkV R_law 35 yX7_feed cX7_feed 2 (some FieldType.int) 1 := ⟨wd_956, wd_957, wd_958, wd_78, wd_959, by decide +kernel, by decide +kernel, by decide +kernel⟩
set_option maxRecDepth 100000 in
theorem wd_376 : Cond.methodLink R_law 36 yX6_house ∈ gt := in_gt 376 (by decide +kernel) (by decide +kernel)
set_option maxRecDepth 100000 in
theorem wd_379 : Cond.code yX6_house cX6_house 3 (some FieldType.int) ∈ gt := in_gt 379 (by decide +kernel) (by decide +kernel)
set_option maxRecDepth 100000 in
theorem wd_377 : Cond.instanceMethod yX6_house ∈ gt := in_gt 377 (by decide +kernel) (by decide +kernel)
set_option maxRecDepth 100000 in
theorem wd_378 : Cond.selects RX6 yX6_house yX6_house ∈ gt := in_gt 378 (by decide +kernel) (by decide +kernel)
theorem lk_R_law_36 : LkV R_law 36 yX6_house cX6_house 3 (some FieldType.int) 0 := ⟨wd_376, wd_377, wd_378, wd_71, wd_379, by decide +kernel, by decide +kernel, by decide +kernel⟩
set_option maxRecDepth 100000 in
theorem wd_962 : Cond.methodLink R_law 40 yX7_house ∈ gt := in_gt 962 (by decide +kernel) (by decide +kernel)
set_option maxRecDepth 100000 in
theorem wd_965 : Cond.code yX7_house cX7_house 3 (some FieldType.int) ∈ gt := in_gt 965 (by decide +kernel) (by decide +kernel)
set_option maxRecDepth 100000 in
theorem wd_963 : Cond.instanceMethod yX7_house ∈ gt := in_gt 963 (by decide +kernel) (by decide +kernel)
set_option maxRecDepth 100000 in
theorem wd_964 : Cond.selects RX7 yX7_house yX7_house ∈ gt := in_gt 964 (by decide +kernel) (by decide +kernel)
theorem lk_R_law_40 : LkV R_law 40 yX7_house cX7_house 3 (some FieldType.int) 0 := ⟨wd_962, wd_963, wd_964, wd_78, wd_965, by decide +kernel, by decide +kernel, by decide +kernel⟩
set_option maxRecDepth 100000 in
theorem wd_457 : Cond.methodLink R_law 41 yX6_fault ∈ gt := in_gt 457 (by decide +kernel) (by decide +kernel)
set_option maxRecDepth 100000 in
theorem wd_460 : Cond.code yX6_fault cX6_fault 1 (some FieldType.int) ∈ gt := in_gt 460 (by decide +kernel) (by decide +kernel)
set_option maxRecDepth 100000 in
theorem wd_458 : Cond.instanceMethod yX6_fault ∈ gt := in_gt 458 (by decide +kernel) (by decide +kernel)
set_option maxRecDepth 100000 in
theorem wd_459 : Cond.selects RX6 yX6_fault yX6_fault ∈ gt := in_gt 459 (by decide +kernel) (by decide +kernel)
theorem lk_R_law_41 : LkV R_law 41 yX6_fault cX6_fault 1 (some FieldType.int) 0 := ⟨wd_457, wd_458, wd_459, wd_71, wd_460, by decide +kernel, by decide +kernel, by decide +kernel⟩
set_option maxRecDepth 100000 in
theorem wd_1003 : Cond.methodLink R_law 44 yX7_fault ∈ gt := in_gt 1003 (by decide +kernel) (by decide +kernel)
set_option maxRecDepth 100000 in
theorem wd_1006 : Cond.code yX7_fault cX7_fault 1 (some FieldType.int) ∈ gt := in_gt 1006 (by decide +kernel) (by decide +kernel)
set_option maxRecDepth 100000 in
theorem wd_1004 : Cond.instanceMethod yX7_fault ∈ gt := in_gt 1004 (by decide +kernel) (by decide +kernel)
set_option maxRecDepth 100000 in
theorem wd_1005 : Cond.selects RX7 yX7_fault yX7_fault ∈ gt := in_gt 1005 (by decide +kernel) (by decide +kernel)
theorem lk_R_law_44 : LkV R_law 44 yX7_fault cX7_fault 1 (some FieldType.int) 0 := ⟨wd_1003, wd_1004, wd_1005, wd_78, wd_1006, by decide +kernel, by decide +kernel, by decide +kernel⟩
set_option maxRecDepth 100000 in
theorem wd_461 : Cond.methodLink R_law 45 yX6_undo ∈ gt := in_gt 461 (by decide +kernel) (by decide +kernel)
set_option maxRecDepth 100000 in
theorem wd_464 : Cond.code yX6_undo cX6_undo 1 (some FieldType.int) ∈ gt := in_gt 464 (by decide +kernel) (by decide +kernel)
set_option maxRecDepth 100000 in
theorem wd_462 : Cond.instanceMethod yX6_undo ∈ gt := in_gt 462 (by decide +kernel) (by decide +kernel)
set_option maxRecDepth 100000 in
theorem wd_463 : Cond.selects RX6 yX6_undo yX6_undo ∈ gt := in_gt 463 (by decide +kernel) (by decide +kernel)
theorem lk_R_law_45 : LkV R_law 45 yX6_undo cX6_undo 1 (some FieldType.int) 0 := ⟨wd_461, wd_462, wd_463, wd_71, wd_464, by decide +kernel, by decide +kernel, by decide +kernel⟩
set_option maxRecDepth 100000 in
theorem wd_1007 : Cond.methodLink R_law 48 yX7_undo ∈ gt := in_gt 1007 (by decide +kernel) (by decide +kernel)
set_option maxRecDepth 100000 in
theorem wd_1010 : Cond.code yX7_undo cX7_undo 2 (some FieldType.int) ∈ gt := in_gt 1010 (by decide +kernel) (by decide +kernel)
set_option maxRecDepth 100000 in
theorem wd_1008 : Cond.instanceMethod yX7_undo ∈ gt := in_gt 1008 (by decide +kernel) (by decide +kernel)
set_option maxRecDepth 100000 in
theorem wd_1009 : Cond.selects RX7 yX7_undo yX7_undo ∈ gt := in_gt 1009 (by decide +kernel) (by decide +kernel)
theorem lk_R_law_48 : LkV R_law 48 yX7_undo cX7_undo 2 (some FieldType.int) 0 := ⟨wd_1007, wd_1008, wd_1009, wd_78, wd_1010, by decide +kernel, by decide +kernel, by decide +kernel⟩
set_option maxRecDepth 100000 in
theorem wd_471 : Cond.methodLink R_law 49 yX6_hours ∈ gt := in_gt 471 (by decide +kernel) (by decide +kernel)
set_option maxRecDepth 100000 in
theorem wd_474 : Cond.code yX6_hours cX6_hours 3 (some FieldType.int) ∈ gt := in_gt 474 (by decide +kernel) (by decide +kernel)
set_option maxRecDepth 100000 in
theorem wd_472 : Cond.instanceMethod yX6_hours ∈ gt := in_gt 472 (by decide +kernel) (by decide +kernel)
set_option maxRecDepth 100000 in
theorem wd_473 : Cond.selects RX6 yX6_hours yX6_hours ∈ gt := in_gt 473 (by decide +kernel) (by decide +kernel)
theorem lk_R_law_49 : LkV R_law 49 yX6_hours cX6_hours 3 (some FieldType.int) 1 := ⟨wd_471, wd_472, wd_473, wd_71, wd_474, by decide +kernel, by decide +kernel, by decide +kernel⟩
set_option maxRecDepth 100000 in
theorem wd_1012 : Cond.methodLink R_law 52 yX7_hours ∈ gt := in_gt 1012 (by decide +kernel) (by decide +kernel)
set_option maxRecDepth 100000 in
theorem wd_1015 : Cond.code yX7_hours cX7_hours 3 (some FieldType.int) ∈ gt := in_gt 1015 (by decide +kernel) (by decide +kernel)
set_option maxRecDepth 100000 in
theorem wd_1013 : Cond.instanceMethod yX7_hours ∈ gt := in_gt 1013 (by decide +kernel) (by decide +kernel)
set_option maxRecDepth 100000 in
theorem wd_1014 : Cond.selects RX7 yX7_hours yX7_hours ∈ gt := in_gt 1014 (by decide +kernel) (by decide +kernel)
theorem lk_R_law_52 : LkV R_law 52 yX7_hours cX7_hours 3 (some FieldType.int) 1 := ⟨wd_1012, wd_1013, wd_1014, wd_78, wd_1015, by decide +kernel, by decide +kernel, by decide +kernel⟩
set_option maxRecDepth 100000 in
theorem wd_524 : Cond.methodLink R_law 53 yX6_door ∈ gt := in_gt 524 (by decide +kernel) (by decide +kernel)
set_option maxRecDepth 100000 in
theorem wd_527 : Cond.code yX6_door cX6_door 3 (some FieldType.int) ∈ gt := in_gt 527 (by decide +kernel) (by decide +kernel)
set_option maxRecDepth 100000 in
theorem wd_525 : Cond.instanceMethod yX6_door ∈ gt := in_gt 525 (by decide +kernel) (by decide +kernel)
set_option maxRecDepth 100000 in
theorem wd_526 : Cond.selects RX6 yX6_door yX6_door ∈ gt := in_gt 526 (by decide +kernel) (by decide +kernel)
theorem lk_R_law_53 : LkV R_law 53 yX6_door cX6_door 3 (some FieldType.int) 2 := ⟨wd_524, wd_525, wd_526, wd_71, wd_527, by decide +kernel, by decide +kernel, by decide +kernel⟩
set_option maxRecDepth 100000 in
theorem wd_1040 : Cond.methodLink R_law 57 yX7_door ∈ gt := in_gt 1040 (by decide +kernel) (by decide +kernel)
set_option maxRecDepth 100000 in
theorem wd_1043 : Cond.code yX7_door cX7_door 3 (some FieldType.int) ∈ gt := in_gt 1043 (by decide +kernel) (by decide +kernel)
set_option maxRecDepth 100000 in
theorem wd_1041 : Cond.instanceMethod yX7_door ∈ gt := in_gt 1041 (by decide +kernel) (by decide +kernel)
set_option maxRecDepth 100000 in
theorem wd_1042 : Cond.selects RX7 yX7_door yX7_door ∈ gt := in_gt 1042 (by decide +kernel) (by decide +kernel)
theorem lk_R_law_57 : LkV R_law 57 yX7_door cX7_door 3 (some FieldType.int) 2 := ⟨wd_1040, wd_1041, wd_1042, wd_78, wd_1043, by decide +kernel, by decide +kernel, by decide +kernel⟩
set_option maxRecDepth 100000 in
theorem wd_537 : Cond.methodLink R_law 58 yX6_sit ∈ gt := in_gt 537 (by decide +kernel) (by decide +kernel)
set_option maxRecDepth 100000 in
theorem wd_540 : Cond.code yX6_sit cX6_sit 4 (some FieldType.int) ∈ gt := in_gt 540 (by decide +kernel) (by decide +kernel)
set_option maxRecDepth 100000 in
theorem wd_538 : Cond.instanceMethod yX6_sit ∈ gt := in_gt 538 (by decide +kernel) (by decide +kernel)
set_option maxRecDepth 100000 in
theorem wd_539 : Cond.selects RX6 yX6_sit yX6_sit ∈ gt := in_gt 539 (by decide +kernel) (by decide +kernel)
theorem lk_R_law_58 : LkV R_law 58 yX6_sit cX6_sit 4 (some FieldType.int) 2 := ⟨wd_537, wd_538, wd_539, wd_71, wd_540, by decide +kernel, by decide +kernel, by decide +kernel⟩
set_option maxRecDepth 100000 in
theorem wd_1052 : Cond.methodLink R_law 61 yX7_sit ∈ gt := in_gt 1052 (by decide +kernel) (by decide +kernel)
set_option maxRecDepth 100000 in
theorem wd_1055 : Cond.code yX7_sit cX7_sit 4 (some FieldType.int) ∈ gt := in_gt 1055 (by decide +kernel) (by decide +kernel)
set_option maxRecDepth 100000 in
theorem wd_1053 : Cond.instanceMethod yX7_sit ∈ gt := in_gt 1053 (by decide +kernel) (by decide +kernel)
set_option maxRecDepth 100000 in
theorem wd_1054 : Cond.selects RX7 yX7_sit yX7_sit ∈ gt := in_gt 1054 (by decide +kernel) (by decide +kernel)
theorem lk_R_law_61 : LkV R_law 61 yX7_sit cX7_sit 4 (some FieldType.int) 2 := ⟨wd_1052, wd_1053, wd_1054, wd_78, wd_1055, by decide +kernel, by decide +kernel, by decide +kernel⟩
set_option maxRecDepth 100000 in
theorem wd_549 : Cond.methodLink R_law 62 yX6_room ∈ gt := in_gt 549 (by decide +kernel) (by decide +kernel)
set_option maxRecDepth 100000 in
theorem wd_552 : Cond.code yX6_room cX6_room 3 (some FieldType.int) ∈ gt := in_gt 552 (by decide +kernel) (by decide +kernel)
set_option maxRecDepth 100000 in
theorem wd_550 : Cond.instanceMethod yX6_room ∈ gt := in_gt 550 (by decide +kernel) (by decide +kernel)
set_option maxRecDepth 100000 in
theorem wd_551 : Cond.selects RX6 yX6_room yX6_room ∈ gt := in_gt 551 (by decide +kernel) (by decide +kernel)
theorem lk_R_law_62 : LkV R_law 62 yX6_room cX6_room 3 (some FieldType.int) 2 := ⟨wd_549, wd_550, wd_551, wd_71, wd_552, by decide +kernel, by decide +kernel, by decide +kernel⟩
set_option maxRecDepth 100000 in
theorem wd_1064 : Cond.methodLink R_law 65 yX7_room ∈ gt := in_gt 1064 (by decide +kernel) (by decide +kernel)
set_option maxRecDepth 100000 in
theorem wd_1067 : Cond.code yX7_room cX7_room 6 (some FieldType.int) ∈ gt := in_gt 1067 (by decide +kernel) (by decide +kernel)
set_option maxRecDepth 100000 in
theorem wd_1065 : Cond.instanceMethod yX7_room ∈ gt := in_gt 1065 (by decide +kernel) (by decide +kernel)
set_option maxRecDepth 100000 in
theorem wd_1066 : Cond.selects RX7 yX7_room yX7_room ∈ gt := in_gt 1066 (by decide +kernel) (by decide +kernel)
theorem lk_R_law_65 : LkV R_law 65 yX7_room cX7_room 6 (some FieldType.int) 2 := ⟨wd_1064, wd_1065, wd_1066, wd_78, wd_1067, by decide +kernel, by decide +kernel, by decide +kernel⟩
set_option maxRecDepth 100000 in
theorem wd_562 : Cond.methodLink R_law 66 yX6_doorHas ∈ gt := in_gt 562 (by decide +kernel) (by decide +kernel)
set_option maxRecDepth 100000 in
theorem wd_565 : Cond.code yX6_doorHas cX6_doorHas 3 (some FieldType.int) ∈ gt := in_gt 565 (by decide +kernel) (by decide +kernel)
set_option maxRecDepth 100000 in
theorem wd_563 : Cond.instanceMethod yX6_doorHas ∈ gt := in_gt 563 (by decide +kernel) (by decide +kernel)
set_option maxRecDepth 100000 in
theorem wd_564 : Cond.selects RX6 yX6_doorHas yX6_doorHas ∈ gt := in_gt 564 (by decide +kernel) (by decide +kernel)
theorem lk_R_law_66 : LkV R_law 66 yX6_doorHas cX6_doorHas 3 (some FieldType.int) 2 := ⟨wd_562, wd_563, wd_564, wd_71, wd_565, by decide +kernel, by decide +kernel, by decide +kernel⟩
set_option maxRecDepth 100000 in
theorem wd_1069 : Cond.methodLink R_law 69 yX7_doorHas ∈ gt := in_gt 1069 (by decide +kernel) (by decide +kernel)
set_option maxRecDepth 100000 in
theorem wd_1072 : Cond.code yX7_doorHas cX7_doorHas 3 (some FieldType.int) ∈ gt := in_gt 1072 (by decide +kernel) (by decide +kernel)
set_option maxRecDepth 100000 in
theorem wd_1070 : Cond.instanceMethod yX7_doorHas ∈ gt := in_gt 1070 (by decide +kernel) (by decide +kernel)
set_option maxRecDepth 100000 in
theorem wd_1071 : Cond.selects RX7 yX7_doorHas yX7_doorHas ∈ gt := in_gt 1071 (by decide +kernel) (by decide +kernel)
theorem lk_R_law_69 : LkV R_law 69 yX7_doorHas cX7_doorHas 3 (some FieldType.int) 2 := ⟨wd_1069, wd_1070, wd_1071, wd_78, wd_1072, by decide +kernel, by decide +kernel, by decide +kernel⟩
set_option maxRecDepth 100000 in
theorem wd_566 : Cond.methodLink R_law 70 yX6_sitter ∈ gt := in_gt 566 (by decide +kernel) (by decide +kernel)
set_option maxRecDepth 100000 in
theorem wd_569 : Cond.code yX6_sitter cX6_sitter 3 (some FieldType.int) ∈ gt := in_gt 569 (by decide +kernel) (by decide +kernel)
set_option maxRecDepth 100000 in
theorem wd_567 : Cond.instanceMethod yX6_sitter ∈ gt := in_gt 567 (by decide +kernel) (by decide +kernel)
set_option maxRecDepth 100000 in
theorem wd_568 : Cond.selects RX6 yX6_sitter yX6_sitter ∈ gt := in_gt 568 (by decide +kernel) (by decide +kernel)
theorem lk_R_law_70 : LkV R_law 70 yX6_sitter cX6_sitter 3 (some FieldType.int) 2 := ⟨wd_566, wd_567, wd_568, wd_71, wd_569, by decide +kernel, by decide +kernel, by decide +kernel⟩
set_option maxRecDepth 100000 in
theorem wd_1073 : Cond.methodLink R_law 73 yX7_sitter ∈ gt := in_gt 1073 (by decide +kernel) (by decide +kernel)
set_option maxRecDepth 100000 in
theorem wd_1076 : Cond.code yX7_sitter cX7_sitter 3 (some FieldType.int) ∈ gt := in_gt 1076 (by decide +kernel) (by decide +kernel)
set_option maxRecDepth 100000 in
theorem wd_1074 : Cond.instanceMethod yX7_sitter ∈ gt := in_gt 1074 (by decide +kernel) (by decide +kernel)
set_option maxRecDepth 100000 in
theorem wd_1075 : Cond.selects RX7 yX7_sitter yX7_sitter ∈ gt := in_gt 1075 (by decide +kernel) (by decide +kernel)
theorem lk_R_law_73 : LkV R_law 73 yX7_sitter cX7_sitter 3 (some FieldType.int) 2 := ⟨wd_1073, wd_1074, wd_1075, wd_78, wd_1076, by decide +kernel, by decide +kernel, by decide +kernel⟩
set_option maxRecDepth 100000 in
theorem wd_574 : Cond.methodLink R_law 74 yX6_ahead ∈ gt := in_gt 574 (by decide +kernel) (by decide +kernel)
set_option maxRecDepth 100000 in
theorem wd_577 : Cond.code yX6_ahead cX6_ahead 3 (some FieldType.int) ∈ gt := in_gt 577 (by decide +kernel) (by decide +kernel)
set_option maxRecDepth 100000 in
theorem wd_575 : Cond.instanceMethod yX6_ahead ∈ gt := in_gt 575 (by decide +kernel) (by decide +kernel)
set_option maxRecDepth 100000 in
theorem wd_576 : Cond.selects RX6 yX6_ahead yX6_ahead ∈ gt := in_gt 576 (by decide +kernel) (by decide +kernel)
theorem lk_R_law_74 : LkV R_law 74 yX6_ahead cX6_ahead 3 (some FieldType.int) 2 := ⟨wd_574, wd_575, wd_576, wd_71, wd_577, by decide +kernel, by decide +kernel, by decide +kernel⟩
set_option maxRecDepth 100000 in
theorem wd_1081 : Cond.methodLink R_law 77 yX7_ahead ∈ gt := in_gt 1081 (by decide +kernel) (by decide +kernel)
set_option maxRecDepth 100000 in
theorem wd_1084 : Cond.code yX7_ahead cX7_ahead 4 (some FieldType.int) ∈ gt := in_gt 1084 (by decide +kernel) (by decide +kernel)
set_option maxRecDepth 100000 in
theorem wd_1082 : Cond.instanceMethod yX7_ahead ∈ gt := in_gt 1082 (by decide +kernel) (by decide +kernel)
set_option maxRecDepth 100000 in
theorem wd_1083 : Cond.selects RX7 yX7_ahead yX7_ahead ∈ gt := in_gt 1083 (by decide +kernel) (by decide +kernel)
theorem lk_R_law_77 : LkV R_law 77 yX7_ahead cX7_ahead 4 (some FieldType.int) 2 := ⟨wd_1081, wd_1082, wd_1083, wd_78, wd_1084, by decide +kernel, by decide +kernel, by decide +kernel⟩
set_option maxRecDepth 100000 in
theorem wd_584 : Cond.methodLink R_law 78 yX6_allAhead ∈ gt := in_gt 584 (by decide +kernel) (by decide +kernel)
set_option maxRecDepth 100000 in
theorem wd_587 : Cond.code yX6_allAhead cX6_allAhead 2 (some FieldType.int) ∈ gt := in_gt 587 (by decide +kernel) (by decide +kernel)
set_option maxRecDepth 100000 in
theorem wd_585 : Cond.instanceMethod yX6_allAhead ∈ gt := in_gt 585 (by decide +kernel) (by decide +kernel)
set_option maxRecDepth 100000 in
theorem wd_586 : Cond.selects RX6 yX6_allAhead yX6_allAhead ∈ gt := in_gt 586 (by decide +kernel) (by decide +kernel)
theorem lk_R_law_78 : LkV R_law 78 yX6_allAhead cX6_allAhead 2 (some FieldType.int) 1 := ⟨wd_584, wd_585, wd_586, wd_71, wd_587, by decide +kernel, by decide +kernel, by decide +kernel⟩
set_option maxRecDepth 100000 in
theorem wd_1098 : Cond.methodLink R_law 81 yX7_allAhead ∈ gt := in_gt 1098 (by decide +kernel) (by decide +kernel)
set_option maxRecDepth 100000 in
theorem wd_1101 : Cond.code yX7_allAhead cX7_allAhead 3 (some FieldType.int) ∈ gt := in_gt 1101 (by decide +kernel) (by decide +kernel)
set_option maxRecDepth 100000 in
theorem wd_1099 : Cond.instanceMethod yX7_allAhead ∈ gt := in_gt 1099 (by decide +kernel) (by decide +kernel)
set_option maxRecDepth 100000 in
theorem wd_1100 : Cond.selects RX7 yX7_allAhead yX7_allAhead ∈ gt := in_gt 1100 (by decide +kernel) (by decide +kernel)
theorem lk_R_law_81 : LkV R_law 81 yX7_allAhead cX7_allAhead 3 (some FieldType.int) 1 := ⟨wd_1098, wd_1099, wd_1100, wd_78, wd_1101, by decide +kernel, by decide +kernel, by decide +kernel⟩
set_option maxRecDepth 100000 in
theorem wd_588 : Cond.methodLink R_law 82 yX6_shivers ∈ gt := in_gt 588 (by decide +kernel) (by decide +kernel)
set_option maxRecDepth 100000 in
theorem wd_591 : Cond.code yX6_shivers cX6_shivers 2 (some FieldType.int) ∈ gt := in_gt 591 (by decide +kernel) (by decide +kernel)
set_option maxRecDepth 100000 in
theorem wd_589 : Cond.instanceMethod yX6_shivers ∈ gt := in_gt 589 (by decide +kernel) (by decide +kernel)
set_option maxRecDepth 100000 in
theorem wd_590 : Cond.selects RX6 yX6_shivers yX6_shivers ∈ gt := in_gt 590 (by decide +kernel) (by decide +kernel)
theorem lk_R_law_82 : LkV R_law 82 yX6_shivers cX6_shivers 2 (some FieldType.int) 1 := ⟨wd_588, wd_589, wd_590, wd_71, wd_591, by decide +kernel, by decide +kernel, by decide +kernel⟩
set_option maxRecDepth 100000 in
theorem wd_1102 : Cond.methodLink R_law 85 yX7_shivers ∈ gt := in_gt 1102 (by decide +kernel) (by decide +kernel)
set_option maxRecDepth 100000 in
theorem wd_1105 : Cond.code yX7_shivers cX7_shivers 4 (some FieldType.int) ∈ gt := in_gt 1105 (by decide +kernel) (by decide +kernel)
set_option maxRecDepth 100000 in
theorem wd_1103 : Cond.instanceMethod yX7_shivers ∈ gt := in_gt 1103 (by decide +kernel) (by decide +kernel)
set_option maxRecDepth 100000 in
theorem wd_1104 : Cond.selects RX7 yX7_shivers yX7_shivers ∈ gt := in_gt 1104 (by decide +kernel) (by decide +kernel)
theorem lk_R_law_85 : LkV R_law 85 yX7_shivers cX7_shivers 4 (some FieldType.int) 1 := ⟨wd_1102, wd_1103, wd_1104, wd_78, wd_1105, by decide +kernel, by decide +kernel, by decide +kernel⟩
set_option maxRecDepth 100000 in
theorem wd_611 : Cond.methodLink R_law 86 yX6_moved ∈ gt := in_gt 611 (by decide +kernel) (by decide +kernel)
set_option maxRecDepth 100000 in
theorem wd_614 : Cond.code yX6_moved cX6_moved 6 (some FieldType.int) ∈ gt := in_gt 614 (by decide +kernel) (by decide +kernel)
set_option maxRecDepth 100000 in
theorem wd_612 : Cond.instanceMethod yX6_moved ∈ gt := in_gt 612 (by decide +kernel) (by decide +kernel)
set_option maxRecDepth 100000 in
theorem wd_613 : Cond.selects RX6 yX6_moved yX6_moved ∈ gt := in_gt 613 (by decide +kernel) (by decide +kernel)
theorem lk_R_law_86 : LkV R_law 86 yX6_moved cX6_moved 6 (some FieldType.int) 5 := ⟨wd_611, wd_612, wd_613, wd_71, wd_614, by decide +kernel, by decide +kernel, by decide +kernel⟩
set_option maxRecDepth 100000 in
theorem wd_1111 : Cond.methodLink R_law 89 yX7_moved ∈ gt := in_gt 1111 (by decide +kernel) (by decide +kernel)
set_option maxRecDepth 100000 in
theorem wd_1114 : Cond.code yX7_moved cX7_moved 9 (some FieldType.int) ∈ gt := in_gt 1114 (by decide +kernel) (by decide +kernel)
set_option maxRecDepth 100000 in
theorem wd_1112 : Cond.instanceMethod yX7_moved ∈ gt := in_gt 1112 (by decide +kernel) (by decide +kernel)
set_option maxRecDepth 100000 in
theorem wd_1113 : Cond.selects RX7 yX7_moved yX7_moved ∈ gt := in_gt 1113 (by decide +kernel) (by decide +kernel)
theorem lk_R_law_89 : LkV R_law 89 yX7_moved cX7_moved 9 (some FieldType.int) 5 := ⟨wd_1111, wd_1112, wd_1113, wd_78, wd_1114, by decide +kernel, by decide +kernel, by decide +kernel⟩
set_option maxRecDepth 100000 in
theorem wd_638 : Cond.methodLink R_law 90 yX6_sitWhere ∈ gt := in_gt 638 (by decide +kernel) (by decide +kernel)
set_option maxRecDepth 100000 in
theorem wd_641 : Cond.code yX6_sitWhere cX6_sitWhere 5 (some FieldType.int) ∈ gt := in_gt 641 (by decide +kernel) (by decide +kernel)
set_option maxRecDepth 100000 in
theorem wd_639 : Cond.instanceMethod yX6_sitWhere ∈ gt := in_gt 639 (by decide +kernel) (by decide +kernel)
set_option maxRecDepth 100000 in
theorem wd_640 : Cond.selects RX6 yX6_sitWhere yX6_sitWhere ∈ gt := in_gt 640 (by decide +kernel) (by decide +kernel)
theorem lk_R_law_90 : LkV R_law 90 yX6_sitWhere cX6_sitWhere 5 (some FieldType.int) 4 := ⟨wd_638, wd_639, wd_640, wd_71, wd_641, by decide +kernel, by decide +kernel, by decide +kernel⟩
set_option maxRecDepth 100000 in
theorem wd_1134 : Cond.methodLink R_law 94 yX7_sitWhere ∈ gt := in_gt 1134 (by decide +kernel) (by decide +kernel)
set_option maxRecDepth 100000 in
theorem wd_1137 : Cond.code yX7_sitWhere cX7_sitWhere 9 (some FieldType.int) ∈ gt := in_gt 1137 (by decide +kernel) (by decide +kernel)
set_option maxRecDepth 100000 in
theorem wd_1135 : Cond.instanceMethod yX7_sitWhere ∈ gt := in_gt 1135 (by decide +kernel) (by decide +kernel)
set_option maxRecDepth 100000 in
theorem wd_1136 : Cond.selects RX7 yX7_sitWhere yX7_sitWhere ∈ gt := in_gt 1136 (by decide +kernel) (by decide +kernel)
theorem lk_R_law_94 : LkV R_law 94 yX7_sitWhere cX7_sitWhere 9 (some FieldType.int) 4 := ⟨wd_1134, wd_1135, wd_1136, wd_78, wd_1137, by decide +kernel, by decide +kernel, by decide +kernel⟩
set_option maxRecDepth 100000 in
theorem wd_646 : Cond.methodLink R_law 95 yX6_led ∈ gt := in_gt 646 (by decide +kernel) (by decide +kernel)
set_option maxRecDepth 100000 in
theorem wd_649 : Cond.code yX6_led cX6_led 4 (some FieldType.int) ∈ gt := in_gt 649 (by decide +kernel) (by decide +kernel)
set_option maxRecDepth 100000 in
theorem wd_647 : Cond.instanceMethod yX6_led ∈ gt := in_gt 647 (by decide +kernel) (by decide +kernel)
set_option maxRecDepth 100000 in
theorem wd_648 : Cond.selects RX6 yX6_led yX6_led ∈ gt := in_gt 648 (by decide +kernel) (by decide +kernel)
theorem lk_R_law_95 : LkV R_law 95 yX6_led cX6_led 4 (some FieldType.int) 3 := ⟨wd_646, wd_647, wd_648, wd_71, wd_649, by decide +kernel, by decide +kernel, by decide +kernel⟩
set_option maxRecDepth 100000 in
theorem wd_1138 : Cond.methodLink R_law 98 yX7_led ∈ gt := in_gt 1138 (by decide +kernel) (by decide +kernel)
set_option maxRecDepth 100000 in
theorem wd_1141 : Cond.code yX7_led cX7_led 8 (some FieldType.int) ∈ gt := in_gt 1141 (by decide +kernel) (by decide +kernel)
set_option maxRecDepth 100000 in
theorem wd_1139 : Cond.instanceMethod yX7_led ∈ gt := in_gt 1139 (by decide +kernel) (by decide +kernel)
set_option maxRecDepth 100000 in
theorem wd_1140 : Cond.selects RX7 yX7_led yX7_led ∈ gt := in_gt 1140 (by decide +kernel) (by decide +kernel)
theorem lk_R_law_98 : LkV R_law 98 yX7_led cX7_led 8 (some FieldType.int) 3 := ⟨wd_1138, wd_1139, wd_1140, wd_78, wd_1141, by decide +kernel, by decide +kernel, by decide +kernel⟩
set_option maxRecDepth 100000 in
theorem wd_658 : Cond.methodLink R_law 99 yX6_came ∈ gt := in_gt 658 (by decide +kernel) (by decide +kernel)
set_option maxRecDepth 100000 in
theorem wd_661 : Cond.code yX6_came cX6_came 4 (some FieldType.int) ∈ gt := in_gt 661 (by decide +kernel) (by decide +kernel)
set_option maxRecDepth 100000 in
theorem wd_659 : Cond.instanceMethod yX6_came ∈ gt := in_gt 659 (by decide +kernel) (by decide +kernel)
set_option maxRecDepth 100000 in
theorem wd_660 : Cond.selects RX6 yX6_came yX6_came ∈ gt := in_gt 660 (by decide +kernel) (by decide +kernel)
theorem lk_R_law_99 : LkV R_law 99 yX6_came cX6_came 4 (some FieldType.int) 3 := ⟨wd_658, wd_659, wd_660, wd_71, wd_661, by decide +kernel, by decide +kernel, by decide +kernel⟩
set_option maxRecDepth 100000 in
theorem wd_1146 : Cond.methodLink R_law 102 yX7_came ∈ gt := in_gt 1146 (by decide +kernel) (by decide +kernel)
set_option maxRecDepth 100000 in
theorem wd_1149 : Cond.code yX7_came cX7_came 7 (some FieldType.int) ∈ gt := in_gt 1149 (by decide +kernel) (by decide +kernel)
set_option maxRecDepth 100000 in
theorem wd_1147 : Cond.instanceMethod yX7_came ∈ gt := in_gt 1147 (by decide +kernel) (by decide +kernel)
set_option maxRecDepth 100000 in
theorem wd_1148 : Cond.selects RX7 yX7_came yX7_came ∈ gt := in_gt 1148 (by decide +kernel) (by decide +kernel)
theorem lk_R_law_102 : LkV R_law 102 yX7_came cX7_came 7 (some FieldType.int) 3 := ⟨wd_1146, wd_1147, wd_1148, wd_78, wd_1149, by decide +kernel, by decide +kernel, by decide +kernel⟩
set_option maxRecDepth 100000 in
theorem wd_674 : Cond.methodLink R_law 103 yX6_who ∈ gt := in_gt 674 (by decide +kernel) (by decide +kernel)
set_option maxRecDepth 100000 in
theorem wd_677 : Cond.code yX6_who cX6_who 5 (some FieldType.int) ∈ gt := in_gt 677 (by decide +kernel) (by decide +kernel)
set_option maxRecDepth 100000 in
theorem wd_675 : Cond.instanceMethod yX6_who ∈ gt := in_gt 675 (by decide +kernel) (by decide +kernel)
set_option maxRecDepth 100000 in
theorem wd_676 : Cond.selects RX6 yX6_who yX6_who ∈ gt := in_gt 676 (by decide +kernel) (by decide +kernel)
theorem lk_R_law_103 : LkV R_law 103 yX6_who cX6_who 5 (some FieldType.int) 4 := ⟨wd_674, wd_675, wd_676, wd_71, wd_677, by decide +kernel, by decide +kernel, by decide +kernel⟩
set_option maxRecDepth 100000 in
theorem wd_1159 : Cond.methodLink R_law 106 yX7_who ∈ gt := in_gt 1159 (by decide +kernel) (by decide +kernel)
set_option maxRecDepth 100000 in
theorem wd_1162 : Cond.code yX7_who cX7_who 8 (some FieldType.int) ∈ gt := in_gt 1162 (by decide +kernel) (by decide +kernel)
set_option maxRecDepth 100000 in
theorem wd_1160 : Cond.instanceMethod yX7_who ∈ gt := in_gt 1160 (by decide +kernel) (by decide +kernel)
set_option maxRecDepth 100000 in
theorem wd_1161 : Cond.selects RX7 yX7_who yX7_who ∈ gt := in_gt 1161 (by decide +kernel) (by decide +kernel)
theorem lk_R_law_106 : LkV R_law 106 yX7_who cX7_who 8 (some FieldType.int) 4 := ⟨wd_1159, wd_1160, wd_1161, wd_78, wd_1162, by decide +kernel, by decide +kernel, by decide +kernel⟩
set_option maxRecDepth 100000 in
theorem wd_682 : Cond.methodLink R_law 107 yX6_parted ∈ gt := in_gt 682 (by decide +kernel) (by decide +kernel)
set_option maxRecDepth 100000 in
theorem wd_685 : Cond.code yX6_parted cX6_parted 4 (some FieldType.int) ∈ gt := in_gt 685 (by decide +kernel) (by decide +kernel)
set_option maxRecDepth 100000 in
theorem wd_683 : Cond.instanceMethod yX6_parted ∈ gt := in_gt 683 (by decide +kernel) (by decide +kernel)
set_option maxRecDepth 100000 in
theorem wd_684 : Cond.selects RX6 yX6_parted yX6_parted ∈ gt := in_gt 684 (by decide +kernel) (by decide +kernel)
theorem lk_R_law_107 : LkV R_law 107 yX6_parted cX6_parted 4 (some FieldType.int) 3 := ⟨wd_682, wd_683, wd_684, wd_71, wd_685, by decide +kernel, by decide +kernel, by decide +kernel⟩
set_option maxRecDepth 100000 in
theorem wd_1163 : Cond.methodLink R_law 110 yX7_parted ∈ gt := in_gt 1163 (by decide +kernel) (by decide +kernel)
set_option maxRecDepth 100000 in
theorem wd_1166 : Cond.code yX7_parted cX7_parted 8 (some FieldType.int) ∈ gt := in_gt 1166 (by decide +kernel) (by decide +kernel)
set_option maxRecDepth 100000 in
theorem wd_1164 : Cond.instanceMethod yX7_parted ∈ gt := in_gt 1164 (by decide +kernel) (by decide +kernel)
set_option maxRecDepth 100000 in
theorem wd_1165 : Cond.selects RX7 yX7_parted yX7_parted ∈ gt := in_gt 1165 (by decide +kernel) (by decide +kernel)
theorem lk_R_law_110 : LkV R_law 110 yX7_parted cX7_parted 8 (some FieldType.int) 3 := ⟨wd_1163, wd_1164, wd_1165, wd_78, wd_1166, by decide +kernel, by decide +kernel, by decide +kernel⟩
set_option maxRecDepth 100000 in
theorem wd_697 : Cond.methodLink R_law 111 yX6_coldest ∈ gt := in_gt 697 (by decide +kernel) (by decide +kernel)
set_option maxRecDepth 100000 in
theorem wd_700 : Cond.code yX6_coldest cX6_coldest 3 (some FieldType.int) ∈ gt := in_gt 700 (by decide +kernel) (by decide +kernel)
set_option maxRecDepth 100000 in
theorem wd_698 : Cond.instanceMethod yX6_coldest ∈ gt := in_gt 698 (by decide +kernel) (by decide +kernel)
set_option maxRecDepth 100000 in
theorem wd_699 : Cond.selects RX6 yX6_coldest yX6_coldest ∈ gt := in_gt 699 (by decide +kernel) (by decide +kernel)
theorem lk_R_law_111 : LkV R_law 111 yX6_coldest cX6_coldest 3 (some FieldType.int) 2 := ⟨wd_697, wd_698, wd_699, wd_71, wd_700, by decide +kernel, by decide +kernel, by decide +kernel⟩
set_option maxRecDepth 100000 in
theorem wd_1171 : Cond.methodLink R_law 114 yX7_coldest ∈ gt := in_gt 1171 (by decide +kernel) (by decide +kernel)
set_option maxRecDepth 100000 in
theorem wd_1174 : Cond.code yX7_coldest cX7_coldest 5 (some FieldType.int) ∈ gt := in_gt 1174 (by decide +kernel) (by decide +kernel)
set_option maxRecDepth 100000 in
theorem wd_1172 : Cond.instanceMethod yX7_coldest ∈ gt := in_gt 1172 (by decide +kernel) (by decide +kernel)
set_option maxRecDepth 100000 in
theorem wd_1173 : Cond.selects RX7 yX7_coldest yX7_coldest ∈ gt := in_gt 1173 (by decide +kernel) (by decide +kernel)
theorem lk_R_law_114 : LkV R_law 114 yX7_coldest cX7_coldest 5 (some FieldType.int) 2 := ⟨wd_1171, wd_1172, wd_1173, wd_78, wd_1174, by decide +kernel, by decide +kernel, by decide +kernel⟩
set_option maxRecDepth 100000 in
theorem wd_706 : Cond.methodLink R_law 115 yX6_guest ∈ gt := in_gt 706 (by decide +kernel) (by decide +kernel)
set_option maxRecDepth 100000 in
theorem wd_709 : Cond.code yX6_guest cX6_guest 2 (some FieldType.int) ∈ gt := in_gt 709 (by decide +kernel) (by decide +kernel)
set_option maxRecDepth 100000 in
theorem wd_707 : Cond.instanceMethod yX6_guest ∈ gt := in_gt 707 (by decide +kernel) (by decide +kernel)
set_option maxRecDepth 100000 in
theorem wd_708 : Cond.selects RX6 yX6_guest yX6_guest ∈ gt := in_gt 708 (by decide +kernel) (by decide +kernel)
theorem lk_R_law_115 : LkV R_law 115 yX6_guest cX6_guest 2 (some FieldType.int) 1 := ⟨wd_706, wd_707, wd_708, wd_71, wd_709, by decide +kernel, by decide +kernel, by decide +kernel⟩
set_option maxRecDepth 100000 in
theorem wd_1175 : Cond.methodLink R_law 118 yX7_guest ∈ gt := in_gt 1175 (by decide +kernel) (by decide +kernel)
set_option maxRecDepth 100000 in
theorem wd_1178 : Cond.code yX7_guest cX7_guest 2 (some FieldType.int) ∈ gt := in_gt 1178 (by decide +kernel) (by decide +kernel)
set_option maxRecDepth 100000 in
theorem wd_1176 : Cond.instanceMethod yX7_guest ∈ gt := in_gt 1176 (by decide +kernel) (by decide +kernel)
set_option maxRecDepth 100000 in
theorem wd_1177 : Cond.selects RX7 yX7_guest yX7_guest ∈ gt := in_gt 1177 (by decide +kernel) (by decide +kernel)
theorem lk_R_law_118 : LkV R_law 118 yX7_guest cX7_guest 2 (some FieldType.int) 1 := ⟨wd_1175, wd_1176, wd_1177, wd_78, wd_1178, by decide +kernel, by decide +kernel, by decide +kernel⟩
set_option maxRecDepth 100000 in
theorem wd_711 : Cond.methodLink R_law 119 yX6_wind ∈ gt := in_gt 711 (by decide +kernel) (by decide +kernel)
set_option maxRecDepth 100000 in
theorem wd_714 : Cond.code yX6_wind cX6_wind 4 (some FieldType.long) ∈ gt := in_gt 714 (by decide +kernel) (by decide +kernel)
set_option maxRecDepth 100000 in
theorem wd_712 : Cond.instanceMethod yX6_wind ∈ gt := in_gt 712 (by decide +kernel) (by decide +kernel)
set_option maxRecDepth 100000 in
theorem wd_713 : Cond.selects RX6 yX6_wind yX6_wind ∈ gt := in_gt 713 (by decide +kernel) (by decide +kernel)
theorem lk_R_law_119 : LkV R_law 119 yX6_wind cX6_wind 4 (some FieldType.long) 3 := ⟨wd_711, wd_712, wd_713, wd_71, wd_714, by decide +kernel, by decide +kernel, by decide +kernel⟩
set_option maxRecDepth 100000 in
theorem wd_1179 : Cond.methodLink R_law 123 yX7_wind ∈ gt := in_gt 1179 (by decide +kernel) (by decide +kernel)
set_option maxRecDepth 100000 in
theorem wd_1182 : Cond.code yX7_wind cX7_wind 15 (some FieldType.long) ∈ gt := in_gt 1182 (by decide +kernel) (by decide +kernel)
set_option maxRecDepth 100000 in
theorem wd_1180 : Cond.instanceMethod yX7_wind ∈ gt := in_gt 1180 (by decide +kernel) (by decide +kernel)
set_option maxRecDepth 100000 in
theorem wd_1181 : Cond.selects RX7 yX7_wind yX7_wind ∈ gt := in_gt 1181 (by decide +kernel) (by decide +kernel)
theorem lk_R_law_123 : LkV R_law 123 yX7_wind cX7_wind 15 (some FieldType.long) 3 := ⟨wd_1179, wd_1180, wd_1181, wd_78, wd_1182, by decide +kernel, by decide +kernel, by decide +kernel⟩
set_option maxRecDepth 100000 in
theorem wd_734 : Cond.methodLink R_law 124 yX6_drawn ∈ gt := in_gt 734 (by decide +kernel) (by decide +kernel)
set_option maxRecDepth 100000 in
theorem wd_737 : Cond.code yX6_drawn cX6_drawn 4 (some FieldType.int) ∈ gt := in_gt 737 (by decide +kernel) (by decide +kernel)
set_option maxRecDepth 100000 in
theorem wd_735 : Cond.instanceMethod yX6_drawn ∈ gt := in_gt 735 (by decide +kernel) (by decide +kernel)
set_option maxRecDepth 100000 in
theorem wd_736 : Cond.selects RX6 yX6_drawn yX6_drawn ∈ gt := in_gt 736 (by decide +kernel) (by decide +kernel)
theorem lk_R_law_124 : LkV R_law 124 yX6_drawn cX6_drawn 4 (some FieldType.int) 3 := ⟨wd_734, wd_735, wd_736, wd_71, wd_737, by decide +kernel, by decide +kernel, by decide +kernel⟩
set_option maxRecDepth 100000 in
theorem wd_1186 : Cond.methodLink R_law 127 yX7_drawn ∈ gt := in_gt 1186 (by decide +kernel) (by decide +kernel)
set_option maxRecDepth 100000 in
theorem wd_1189 : Cond.code yX7_drawn cX7_drawn 8 (some FieldType.int) ∈ gt := in_gt 1189 (by decide +kernel) (by decide +kernel)
set_option maxRecDepth 100000 in
theorem wd_1187 : Cond.instanceMethod yX7_drawn ∈ gt := in_gt 1187 (by decide +kernel) (by decide +kernel)
set_option maxRecDepth 100000 in
theorem wd_1188 : Cond.selects RX7 yX7_drawn yX7_drawn ∈ gt := in_gt 1188 (by decide +kernel) (by decide +kernel)
theorem lk_R_law_127 : LkV R_law 127 yX7_drawn cX7_drawn 8 (some FieldType.int) 3 := ⟨wd_1186, wd_1187, wd_1188, wd_78, wd_1189, by decide +kernel, by decide +kernel, by decide +kernel⟩
set_option maxRecDepth 100000 in
theorem wd_746 : Cond.methodLink R_law 128 yX6_image ∈ gt := in_gt 746 (by decide +kernel) (by decide +kernel)
set_option maxRecDepth 100000 in
theorem wd_749 : Cond.code yX6_image cX6_image 2 (some FieldType.int) ∈ gt := in_gt 749 (by decide +kernel) (by decide +kernel)
set_option maxRecDepth 100000 in
theorem wd_747 : Cond.instanceMethod yX6_image ∈ gt := in_gt 747 (by decide +kernel) (by decide +kernel)
set_option maxRecDepth 100000 in
theorem wd_748 : Cond.selects RX6 yX6_image yX6_image ∈ gt := in_gt 748 (by decide +kernel) (by decide +kernel)
theorem lk_R_law_128 : LkV R_law 128 yX6_image cX6_image 2 (some FieldType.int) 1 := ⟨wd_746, wd_747, wd_748, wd_71, wd_749, by decide +kernel, by decide +kernel, by decide +kernel⟩
set_option maxRecDepth 100000 in
theorem wd_1193 : Cond.methodLink R_law 131 yX7_image ∈ gt := in_gt 1193 (by decide +kernel) (by decide +kernel)
set_option maxRecDepth 100000 in
theorem wd_1196 : Cond.code yX7_image cX7_image 3 (some FieldType.int) ∈ gt := in_gt 1196 (by decide +kernel) (by decide +kernel)
set_option maxRecDepth 100000 in
theorem wd_1194 : Cond.instanceMethod yX7_image ∈ gt := in_gt 1194 (by decide +kernel) (by decide +kernel)
set_option maxRecDepth 100000 in
theorem wd_1195 : Cond.selects RX7 yX7_image yX7_image ∈ gt := in_gt 1195 (by decide +kernel) (by decide +kernel)
theorem lk_R_law_131 : LkV R_law 131 yX7_image cX7_image 3 (some FieldType.int) 1 := ⟨wd_1193, wd_1194, wd_1195, wd_78, wd_1196, by decide +kernel, by decide +kernel, by decide +kernel⟩
set_option maxRecDepth 100000 in
theorem wd_754 : Cond.methodLink R_law 132 yX6_restore ∈ gt := in_gt 754 (by decide +kernel) (by decide +kernel)
set_option maxRecDepth 100000 in
theorem wd_757 : Cond.code yX6_restore cX6_restore 2 (some FieldType.int) ∈ gt := in_gt 757 (by decide +kernel) (by decide +kernel)
set_option maxRecDepth 100000 in
theorem wd_755 : Cond.instanceMethod yX6_restore ∈ gt := in_gt 755 (by decide +kernel) (by decide +kernel)
set_option maxRecDepth 100000 in
theorem wd_756 : Cond.selects RX6 yX6_restore yX6_restore ∈ gt := in_gt 756 (by decide +kernel) (by decide +kernel)
theorem lk_R_law_132 : LkV R_law 132 yX6_restore cX6_restore 2 (some FieldType.int) 1 := ⟨wd_754, wd_755, wd_756, wd_71, wd_757, by decide +kernel, by decide +kernel, by decide +kernel⟩
set_option maxRecDepth 100000 in
theorem wd_1197 : Cond.methodLink R_law 135 yX7_restore ∈ gt := in_gt 1197 (by decide +kernel) (by decide +kernel)
set_option maxRecDepth 100000 in
theorem wd_1200 : Cond.code yX7_restore cX7_restore 3 (some FieldType.int) ∈ gt := in_gt 1200 (by decide +kernel) (by decide +kernel)
set_option maxRecDepth 100000 in
theorem wd_1198 : Cond.instanceMethod yX7_restore ∈ gt := in_gt 1198 (by decide +kernel) (by decide +kernel)
set_option maxRecDepth 100000 in
theorem wd_1199 : Cond.selects RX7 yX7_restore yX7_restore ∈ gt := in_gt 1199 (by decide +kernel) (by decide +kernel)
theorem lk_R_law_135 : LkV R_law 135 yX7_restore cX7_restore 3 (some FieldType.int) 1 := ⟨wd_1197, wd_1198, wd_1199, wd_78, wd_1200, by decide +kernel, by decide +kernel, by decide +kernel⟩
set_option maxRecDepth 100000 in
theorem wd_758 : Cond.methodLink R_law 136 yX6_kind ∈ gt := in_gt 758 (by decide +kernel) (by decide +kernel)
set_option maxRecDepth 100000 in
theorem wd_761 : Cond.code yX6_kind cX6_kind 2 (some FieldType.int) ∈ gt := in_gt 761 (by decide +kernel) (by decide +kernel)
set_option maxRecDepth 100000 in
theorem wd_759 : Cond.instanceMethod yX6_kind ∈ gt := in_gt 759 (by decide +kernel) (by decide +kernel)
set_option maxRecDepth 100000 in
theorem wd_760 : Cond.selects RX6 yX6_kind yX6_kind ∈ gt := in_gt 760 (by decide +kernel) (by decide +kernel)
theorem lk_R_law_136 : LkV R_law 136 yX6_kind cX6_kind 2 (some FieldType.int) 1 := ⟨wd_758, wd_759, wd_760, wd_71, wd_761, by decide +kernel, by decide +kernel, by decide +kernel⟩
set_option maxRecDepth 100000 in
theorem wd_1201 : Cond.methodLink R_law 139 yX7_kind ∈ gt := in_gt 1201 (by decide +kernel) (by decide +kernel)
set_option maxRecDepth 100000 in
theorem wd_1204 : Cond.code yX7_kind cX7_kind 2 (some FieldType.int) ∈ gt := in_gt 1204 (by decide +kernel) (by decide +kernel)
set_option maxRecDepth 100000 in
theorem wd_1202 : Cond.instanceMethod yX7_kind ∈ gt := in_gt 1202 (by decide +kernel) (by decide +kernel)
set_option maxRecDepth 100000 in
theorem wd_1203 : Cond.selects RX7 yX7_kind yX7_kind ∈ gt := in_gt 1203 (by decide +kernel) (by decide +kernel)
theorem lk_R_law_139 : LkV R_law 139 yX7_kind cX7_kind 2 (some FieldType.int) 1 := ⟨wd_1201, wd_1202, wd_1203, wd_78, wd_1204, by decide +kernel, by decide +kernel, by decide +kernel⟩
set_option maxRecDepth 100000 in
theorem wd_762 : Cond.methodLink R_law 140 yX6_as ∈ gt := in_gt 762 (by decide +kernel) (by decide +kernel)
set_option maxRecDepth 100000 in
theorem wd_765 : Cond.code yX6_as cX6_as 3 (some FieldType.int) ∈ gt := in_gt 765 (by decide +kernel) (by decide +kernel)
set_option maxRecDepth 100000 in
theorem wd_763 : Cond.instanceMethod yX6_as ∈ gt := in_gt 763 (by decide +kernel) (by decide +kernel)
set_option maxRecDepth 100000 in
theorem wd_764 : Cond.selects RX6 yX6_as yX6_as ∈ gt := in_gt 764 (by decide +kernel) (by decide +kernel)
theorem lk_R_law_140 : LkV R_law 140 yX6_as cX6_as 3 (some FieldType.int) 2 := ⟨wd_762, wd_763, wd_764, wd_71, wd_765, by decide +kernel, by decide +kernel, by decide +kernel⟩
set_option maxRecDepth 100000 in
theorem wd_1205 : Cond.methodLink R_law 143 yX7_as ∈ gt := in_gt 1205 (by decide +kernel) (by decide +kernel)
set_option maxRecDepth 100000 in
theorem wd_1208 : Cond.code yX7_as cX7_as 3 (some FieldType.int) ∈ gt := in_gt 1208 (by decide +kernel) (by decide +kernel)
set_option maxRecDepth 100000 in
theorem wd_1206 : Cond.instanceMethod yX7_as ∈ gt := in_gt 1206 (by decide +kernel) (by decide +kernel)
set_option maxRecDepth 100000 in
theorem wd_1207 : Cond.selects RX7 yX7_as yX7_as ∈ gt := in_gt 1207 (by decide +kernel) (by decide +kernel)
theorem lk_R_law_143 : LkV R_law 143 yX7_as cX7_as 3 (some FieldType.int) 2 := ⟨wd_1205, wd_1206, wd_1207, wd_78, wd_1208, by decide +kernel, by decide +kernel, by decide +kernel⟩
set_option maxRecDepth 100000 in
theorem wd_769 : Cond.methodLink R_law 144 yX6_ask ∈ gt := in_gt 769 (by decide +kernel) (by decide +kernel)
set_option maxRecDepth 100000 in
theorem wd_772 : Cond.code yX6_ask cX6_ask 3 (some FieldType.int) ∈ gt := in_gt 772 (by decide +kernel) (by decide +kernel)
set_option maxRecDepth 100000 in
theorem wd_770 : Cond.instanceMethod yX6_ask ∈ gt := in_gt 770 (by decide +kernel) (by decide +kernel)
set_option maxRecDepth 100000 in
theorem wd_771 : Cond.selects RX6 yX6_ask yX6_ask ∈ gt := in_gt 771 (by decide +kernel) (by decide +kernel)
theorem lk_R_law_144 : LkV R_law 144 yX6_ask cX6_ask 3 (some FieldType.int) 2 := ⟨wd_769, wd_770, wd_771, wd_71, wd_772, by decide +kernel, by decide +kernel, by decide +kernel⟩
set_option maxRecDepth 100000 in
theorem wd_1213 : Cond.methodLink R_law 147 yX7_ask ∈ gt := in_gt 1213 (by decide +kernel) (by decide +kernel)
set_option maxRecDepth 100000 in
theorem wd_1216 : Cond.code yX7_ask cX7_ask 3 (some FieldType.int) ∈ gt := in_gt 1216 (by decide +kernel) (by decide +kernel)
set_option maxRecDepth 100000 in
theorem wd_1214 : Cond.instanceMethod yX7_ask ∈ gt := in_gt 1214 (by decide +kernel) (by decide +kernel)
set_option maxRecDepth 100000 in
theorem wd_1215 : Cond.selects RX7 yX7_ask yX7_ask ∈ gt := in_gt 1215 (by decide +kernel) (by decide +kernel)
theorem lk_R_law_147 : LkV R_law 147 yX7_ask cX7_ask 3 (some FieldType.int) 2 := ⟨wd_1213, wd_1214, wd_1215, wd_78, wd_1216, by decide +kernel, by decide +kernel, by decide +kernel⟩
set_option maxRecDepth 100000 in
theorem wd_821 : Cond.methodLink R_law 148 yX6_trace ∈ gt := in_gt 821 (by decide +kernel) (by decide +kernel)
set_option maxRecDepth 100000 in
theorem wd_824 : Cond.code yX6_trace cX6_trace 2 (some FieldType.int) ∈ gt := in_gt 824 (by decide +kernel) (by decide +kernel)
set_option maxRecDepth 100000 in
theorem wd_822 : Cond.instanceMethod yX6_trace ∈ gt := in_gt 822 (by decide +kernel) (by decide +kernel)
set_option maxRecDepth 100000 in
theorem wd_823 : Cond.selects RX6 yX6_trace yX6_trace ∈ gt := in_gt 823 (by decide +kernel) (by decide +kernel)
theorem lk_R_law_148 : LkV R_law 148 yX6_trace cX6_trace 2 (some FieldType.int) 1 := ⟨wd_821, wd_822, wd_823, wd_71, wd_824, by decide +kernel, by decide +kernel, by decide +kernel⟩
set_option maxRecDepth 100000 in
theorem wd_1249 : Cond.methodLink R_law 151 yX7_trace ∈ gt := in_gt 1249 (by decide +kernel) (by decide +kernel)
set_option maxRecDepth 100000 in
theorem wd_1252 : Cond.code yX7_trace cX7_trace 2 (some FieldType.int) ∈ gt := in_gt 1252 (by decide +kernel) (by decide +kernel)
set_option maxRecDepth 100000 in
theorem wd_1250 : Cond.instanceMethod yX7_trace ∈ gt := in_gt 1250 (by decide +kernel) (by decide +kernel)
set_option maxRecDepth 100000 in
theorem wd_1251 : Cond.selects RX7 yX7_trace yX7_trace ∈ gt := in_gt 1251 (by decide +kernel) (by decide +kernel)
theorem lk_R_law_151 : LkV R_law 151 yX7_trace cX7_trace 2 (some FieldType.int) 1 := ⟨wd_1249, wd_1250, wd_1251, wd_78, wd_1252, by decide +kernel, by decide +kernel, by decide +kernel⟩
set_option maxRecDepth 100000 in
theorem wd_830 : Cond.methodLink R_law 152 yX6_count ∈ gt := in_gt 830 (by decide +kernel) (by decide +kernel)
set_option maxRecDepth 100000 in
theorem wd_833 : Cond.code yX6_count cX6_count 2 (some FieldType.int) ∈ gt := in_gt 833 (by decide +kernel) (by decide +kernel)
set_option maxRecDepth 100000 in
theorem wd_831 : Cond.instanceMethod yX6_count ∈ gt := in_gt 831 (by decide +kernel) (by decide +kernel)
set_option maxRecDepth 100000 in
theorem wd_832 : Cond.selects RX6 yX6_count yX6_count ∈ gt := in_gt 832 (by decide +kernel) (by decide +kernel)
theorem lk_R_law_152 : LkV R_law 152 yX6_count cX6_count 2 (some FieldType.int) 1 := ⟨wd_830, wd_831, wd_832, wd_71, wd_833, by decide +kernel, by decide +kernel, by decide +kernel⟩
set_option maxRecDepth 100000 in
theorem wd_1253 : Cond.methodLink R_law 155 yX7_count ∈ gt := in_gt 1253 (by decide +kernel) (by decide +kernel)
set_option maxRecDepth 100000 in
theorem wd_1256 : Cond.code yX7_count cX7_count 4 (some FieldType.int) ∈ gt := in_gt 1256 (by decide +kernel) (by decide +kernel)
set_option maxRecDepth 100000 in
theorem wd_1254 : Cond.instanceMethod yX7_count ∈ gt := in_gt 1254 (by decide +kernel) (by decide +kernel)
set_option maxRecDepth 100000 in
theorem wd_1255 : Cond.selects RX7 yX7_count yX7_count ∈ gt := in_gt 1255 (by decide +kernel) (by decide +kernel)
theorem lk_R_law_155 : LkV R_law 155 yX7_count cX7_count 4 (some FieldType.int) 1 := ⟨wd_1253, wd_1254, wd_1255, wd_78, wd_1256, by decide +kernel, by decide +kernel, by decide +kernel⟩
set_option maxRecDepth 100000 in
theorem wd_838 : Cond.methodLink R_law 156 yX6_status ∈ gt := in_gt 838 (by decide +kernel) (by decide +kernel)
set_option maxRecDepth 100000 in
theorem wd_841 : Cond.code yX6_status cX6_status 1 (some FieldType.int) ∈ gt := in_gt 841 (by decide +kernel) (by decide +kernel)
set_option maxRecDepth 100000 in
theorem wd_839 : Cond.instanceMethod yX6_status ∈ gt := in_gt 839 (by decide +kernel) (by decide +kernel)
set_option maxRecDepth 100000 in
theorem wd_840 : Cond.selects RX6 yX6_status yX6_status ∈ gt := in_gt 840 (by decide +kernel) (by decide +kernel)
theorem lk_R_law_156 : LkV R_law 156 yX6_status cX6_status 1 (some FieldType.int) 0 := ⟨wd_838, wd_839, wd_840, wd_71, wd_841, by decide +kernel, by decide +kernel, by decide +kernel⟩
set_option maxRecDepth 100000 in
theorem wd_1257 : Cond.methodLink R_law 159 yX7_status ∈ gt := in_gt 1257 (by decide +kernel) (by decide +kernel)
set_option maxRecDepth 100000 in
theorem wd_1260 : Cond.code yX7_status cX7_status 1 (some FieldType.int) ∈ gt := in_gt 1260 (by decide +kernel) (by decide +kernel)
set_option maxRecDepth 100000 in
theorem wd_1258 : Cond.instanceMethod yX7_status ∈ gt := in_gt 1258 (by decide +kernel) (by decide +kernel)
set_option maxRecDepth 100000 in
theorem wd_1259 : Cond.selects RX7 yX7_status yX7_status ∈ gt := in_gt 1259 (by decide +kernel) (by decide +kernel)
theorem lk_R_law_159 : LkV R_law 159 yX7_status cX7_status 1 (some FieldType.int) 0 := ⟨wd_1257, wd_1258, wd_1259, wd_78, wd_1260, by decide +kernel, by decide +kernel, by decide +kernel⟩
