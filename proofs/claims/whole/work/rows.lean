section
/-- a private method of a class that the tables say can be made, by its rows of tables_1 -/
def lw_okq (q : MethodName × Nat) : Prop := (q.1.cls ≠ "java/lang/invoke/MethodHandle" ∧ q.1.cls ≠ "java/lang/invoke/VarHandle") ∧ Cond.instantiable q.1.cls q.2 ∈ tables_1 ∧ Cond.privateMethod q.1 ∈ tables_1 ∧ Cond.instanceMethod q.1 ∈ tables_1
theorem lw_p0 : lw_okq (⟨"LastSentence$Text", "skipBlanks", "()V"⟩, 5) := ⟨⟨by decide +kernel, by decide +kernel⟩, List.mem_of_getElem? (i := 23) (by decide +kernel), List.mem_of_getElem? (i := 310) (by decide +kernel), List.mem_of_getElem? (i := 311) (by decide +kernel)⟩
theorem lw_p1 : lw_okq (⟨"LastSentence$Text", "readClause", "(LLastSentence$House;)V"⟩, 5) := ⟨⟨by decide +kernel, by decide +kernel⟩, List.mem_of_getElem? (i := 23) (by decide +kernel), List.mem_of_getElem? (i := 314) (by decide +kernel), List.mem_of_getElem? (i := 315) (by decide +kernel)⟩
theorem lw_p2 : lw_okq (⟨"LastSentence$Text", "fail", "(II)V"⟩, 5) := ⟨⟨by decide +kernel, by decide +kernel⟩, List.mem_of_getElem? (i := 23) (by decide +kernel), List.mem_of_getElem? (i := 318) (by decide +kernel), List.mem_of_getElem? (i := 319) (by decide +kernel)⟩
theorem lw_p3 : lw_okq (⟨"LastSentence$Text", "readNight", "(LLastSentence$House;I)V"⟩, 5) := ⟨⟨by decide +kernel, by decide +kernel⟩, List.mem_of_getElem? (i := 23) (by decide +kernel), List.mem_of_getElem? (i := 322) (by decide +kernel), List.mem_of_getElem? (i := 323) (by decide +kernel)⟩
theorem lw_p4 : lw_okq (⟨"LastSentence$Text", "failIf", "(ZII)V"⟩, 5) := ⟨⟨by decide +kernel, by decide +kernel⟩, List.mem_of_getElem? (i := 23) (by decide +kernel), List.mem_of_getElem? (i := 326) (by decide +kernel), List.mem_of_getElem? (i := 327) (by decide +kernel)⟩
theorem lw_p5 : lw_okq (⟨"LastSentence$Text", "readNumber", "(II)I"⟩, 5) := ⟨⟨by decide +kernel, by decide +kernel⟩, List.mem_of_getElem? (i := 23) (by decide +kernel), List.mem_of_getElem? (i := 330) (by decide +kernel), List.mem_of_getElem? (i := 331) (by decide +kernel)⟩
theorem lw_p6 : lw_okq (⟨"LastSentence$Text", "readEnd", "()Z"⟩, 5) := ⟨⟨by decide +kernel, by decide +kernel⟩, List.mem_of_getElem? (i := 23) (by decide +kernel), List.mem_of_getElem? (i := 334) (by decide +kernel), List.mem_of_getElem? (i := 335) (by decide +kernel)⟩
theorem lw_p7 : lw_okq (⟨"LastSentence$Text", "readRoom", "(LLastSentence$House;I)V"⟩, 5) := ⟨⟨by decide +kernel, by decide +kernel⟩, List.mem_of_getElem? (i := 23) (by decide +kernel), List.mem_of_getElem? (i := 338) (by decide +kernel), List.mem_of_getElem? (i := 339) (by decide +kernel)⟩
theorem lw_p8 : lw_okq (⟨"LastSentence$Text", "readDoor", "(LLastSentence$House;I)V"⟩, 5) := ⟨⟨by decide +kernel, by decide +kernel⟩, List.mem_of_getElem? (i := 23) (by decide +kernel), List.mem_of_getElem? (i := 346) (by decide +kernel), List.mem_of_getElem? (i := 347) (by decide +kernel)⟩
theorem lw_p9 : lw_okq (⟨"LastSentence$Text", "readHeir", "(LLastSentence$House;I)V"⟩, 5) := ⟨⟨by decide +kernel, by decide +kernel⟩, List.mem_of_getElem? (i := 23) (by decide +kernel), List.mem_of_getElem? (i := 354) (by decide +kernel), List.mem_of_getElem? (i := 355) (by decide +kernel)⟩
theorem lw_p10 : lw_okq (⟨"LastSentence$House", "shorten", "([[IIII)V"⟩, 13) := ⟨⟨by decide +kernel, by decide +kernel⟩, List.mem_of_getElem? (i := 49) (by decide +kernel), List.mem_of_getElem? (i := 366) (by decide +kernel), List.mem_of_getElem? (i := 367) (by decide +kernel)⟩
theorem lw_p11 : lw_okq (⟨"LastSentence$House", "shortenByRoomsBetween", "([[I)V"⟩, 13) := ⟨⟨by decide +kernel, by decide +kernel⟩, List.mem_of_getElem? (i := 49) (by decide +kernel), List.mem_of_getElem? (i := 370) (by decide +kernel), List.mem_of_getElem? (i := 371) (by decide +kernel)⟩
theorem lw_p12 : lw_okq (⟨"LastSentence$Night", "clearNight", "()V"⟩, 8) := ⟨⟨by decide +kernel, by decide +kernel⟩, List.mem_of_getElem? (i := 126) (by decide +kernel), List.mem_of_getElem? (i := 384) (by decide +kernel), List.mem_of_getElem? (i := 385) (by decide +kernel)⟩
theorem lw_p13 : lw_okq (⟨"LastSentence", "forgetImages", "()V"⟩, 13) := ⟨⟨by decide +kernel, by decide +kernel⟩, List.mem_of_getElem? (i := 15) (by decide +kernel), List.mem_of_getElem? (i := 392) (by decide +kernel), List.mem_of_getElem? (i := 393) (by decide +kernel)⟩
theorem lw_p14 : lw_okq (⟨"LastSentence$Night", "isSure", "(I)Z"⟩, 8) := ⟨⟨by decide +kernel, by decide +kernel⟩, List.mem_of_getElem? (i := 126) (by decide +kernel), List.mem_of_getElem? (i := 420) (by decide +kernel), List.mem_of_getElem? (i := 421) (by decide +kernel)⟩
theorem lw_p15 : lw_okq (⟨"LastSentence", "refusalOfHours", "(I)I"⟩, 13) := ⟨⟨by decide +kernel, by decide +kernel⟩, List.mem_of_getElem? (i := 15) (by decide +kernel), List.mem_of_getElem? (i := 537) (by decide +kernel), List.mem_of_getElem? (i := 538) (by decide +kernel)⟩
def lw_privs_1 : List (MethodName × Nat) := [(⟨"LastSentence$Text", "skipBlanks", "()V"⟩, 5), (⟨"LastSentence$Text", "readClause", "(LLastSentence$House;)V"⟩, 5), (⟨"LastSentence$Text", "fail", "(II)V"⟩, 5), (⟨"LastSentence$Text", "readNight", "(LLastSentence$House;I)V"⟩, 5), (⟨"LastSentence$Text", "failIf", "(ZII)V"⟩, 5), (⟨"LastSentence$Text", "readNumber", "(II)I"⟩, 5), (⟨"LastSentence$Text", "readEnd", "()Z"⟩, 5), (⟨"LastSentence$Text", "readRoom", "(LLastSentence$House;I)V"⟩, 5), (⟨"LastSentence$Text", "readDoor", "(LLastSentence$House;I)V"⟩, 5), (⟨"LastSentence$Text", "readHeir", "(LLastSentence$House;I)V"⟩, 5), (⟨"LastSentence$House", "shorten", "([[IIII)V"⟩, 13), (⟨"LastSentence$House", "shortenByRoomsBetween", "([[I)V"⟩, 13), (⟨"LastSentence$Night", "clearNight", "()V"⟩, 8), (⟨"LastSentence", "forgetImages", "()V"⟩, 13), (⟨"LastSentence$Night", "isSure", "(I)Z"⟩, 8), (⟨"LastSentence", "refusalOfHours", "(I)I"⟩, 13)]
theorem lw_r1 : ∀ q ∈ lw_privs_1, lw_okq q := List.forall_mem_cons.mpr ⟨lw_p0, List.forall_mem_cons.mpr ⟨lw_p1, List.forall_mem_cons.mpr ⟨lw_p2, List.forall_mem_cons.mpr ⟨lw_p3, List.forall_mem_cons.mpr ⟨lw_p4, List.forall_mem_cons.mpr ⟨lw_p5, List.forall_mem_cons.mpr ⟨lw_p6, List.forall_mem_cons.mpr ⟨lw_p7, List.forall_mem_cons.mpr ⟨lw_p8, List.forall_mem_cons.mpr ⟨lw_p9, List.forall_mem_cons.mpr ⟨lw_p10, List.forall_mem_cons.mpr ⟨lw_p11, List.forall_mem_cons.mpr ⟨lw_p12, List.forall_mem_cons.mpr ⟨lw_p13, List.forall_mem_cons.mpr ⟨lw_p14, List.forall_mem_cons.mpr ⟨lw_p15, fun _ h => absurd h List.not_mem_nil⟩⟩⟩⟩⟩⟩⟩⟩⟩⟩⟩⟩⟩⟩⟩⟩
theorem lw_p16 : lw_okq (⟨"LastSentence", "actByDraw", "()V"⟩, 13) := ⟨⟨by decide +kernel, by decide +kernel⟩, List.mem_of_getElem? (i := 15) (by decide +kernel), List.mem_of_getElem? (i := 570) (by decide +kernel), List.mem_of_getElem? (i := 571) (by decide +kernel)⟩
theorem lw_p17 : lw_okq (⟨"LastSentence", "draw", "(I)I"⟩, 13) := ⟨⟨by decide +kernel, by decide +kernel⟩, List.mem_of_getElem? (i := 15) (by decide +kernel), List.mem_of_getElem? (i := 574) (by decide +kernel), List.mem_of_getElem? (i := 575) (by decide +kernel)⟩
theorem lw_p18 : lw_okq (⟨"LastSentence", "goByDraw", "(I)V"⟩, 13) := ⟨⟨by decide +kernel, by decide +kernel⟩, List.mem_of_getElem? (i := 15) (by decide +kernel), List.mem_of_getElem? (i := 582) (by decide +kernel), List.mem_of_getElem? (i := 583) (by decide +kernel)⟩
theorem lw_p19 : lw_okq (⟨"LastSentence$Planner", "missingOf", "(LLastSentence$House;LLastSentence$Night;II)I"⟩, 4) := ⟨⟨by decide +kernel, by decide +kernel⟩, List.mem_of_getElem? (i := 189) (by decide +kernel), List.mem_of_getElem? (i := 617) (by decide +kernel), List.mem_of_getElem? (i := 618) (by decide +kernel)⟩
theorem lw_p20 : lw_okq (⟨"LastSentence$Planner", "beginAtMorning", "(LLastSentence$House;I)V"⟩, 4) := ⟨⟨by decide +kernel, by decide +kernel⟩, List.mem_of_getElem? (i := 189) (by decide +kernel), List.mem_of_getElem? (i := 624) (by decide +kernel), List.mem_of_getElem? (i := 625) (by decide +kernel)⟩
theorem lw_p21 : lw_okq (⟨"LastSentence$Planner", "goOrStay", "(LLastSentence$House;I)V"⟩, 4) := ⟨⟨by decide +kernel, by decide +kernel⟩, List.mem_of_getElem? (i := 189) (by decide +kernel), List.mem_of_getElem? (i := 628) (by decide +kernel), List.mem_of_getElem? (i := 629) (by decide +kernel)⟩
theorem lw_p22 : lw_okq (⟨"LastSentence$Planner", "sayOrNot", "(III)V"⟩, 4) := ⟨⟨by decide +kernel, by decide +kernel⟩, List.mem_of_getElem? (i := 189) (by decide +kernel), List.mem_of_getElem? (i := 634) (by decide +kernel), List.mem_of_getElem? (i := 635) (by decide +kernel)⟩
theorem lw_p23 : lw_okq (⟨"LastSentence$Planner", "winnable", "(JI)J"⟩, 4) := ⟨⟨by decide +kernel, by decide +kernel⟩, List.mem_of_getElem? (i := 189) (by decide +kernel), List.mem_of_getElem? (i := 638) (by decide +kernel), List.mem_of_getElem? (i := 639) (by decide +kernel)⟩
theorem lw_p24 : lw_okq (⟨"LastSentence$Planner", "take", "(IIII)V"⟩, 4) := ⟨⟨by decide +kernel, by decide +kernel⟩, List.mem_of_getElem? (i := 189) (by decide +kernel), List.mem_of_getElem? (i := 644) (by decide +kernel), List.mem_of_getElem? (i := 645) (by decide +kernel)⟩
theorem lw_p25 : lw_okq (⟨"LastSentence$Seen", "fits", "(I)Z"⟩, 3) := ⟨⟨by decide +kernel, by decide +kernel⟩, List.mem_of_getElem? (i := 214) (by decide +kernel), List.mem_of_getElem? (i := 675) (by decide +kernel), List.mem_of_getElem? (i := 676) (by decide +kernel)⟩
theorem lw_p26 : lw_okq (⟨"LastSentence$Seen", "greaterPart", "(LLastSentence$House;LLastSentence$Night;II)I"⟩, 3) := ⟨⟨by decide +kernel, by decide +kernel⟩, List.mem_of_getElem? (i := 214) (by decide +kernel), List.mem_of_getElem? (i := 689) (by decide +kernel), List.mem_of_getElem? (i := 690) (by decide +kernel)⟩
theorem lw_p27 : lw_okq (⟨"LastSentenceModel", "readManor", "()V"⟩, 39) := ⟨⟨by decide +kernel, by decide +kernel⟩, List.mem_of_getElem? (i := 730) (by decide +kernel), List.mem_of_getElem? (i := 867) (by decide +kernel), List.mem_of_getElem? (i := 868) (by decide +kernel)⟩
theorem lw_p28 : lw_okq (⟨"LastSentenceModel", "skips", "()V"⟩, 39) := ⟨⟨by decide +kernel, by decide +kernel⟩, List.mem_of_getElem? (i := 730) (by decide +kernel), List.mem_of_getElem? (i := 871) (by decide +kernel), List.mem_of_getElem? (i := 872) (by decide +kernel)⟩
theorem lw_p29 : lw_okq (⟨"LastSentenceModel", "here", "()I"⟩, 39) := ⟨⟨by decide +kernel, by decide +kernel⟩, List.mem_of_getElem? (i := 730) (by decide +kernel), List.mem_of_getElem? (i := 875) (by decide +kernel), List.mem_of_getElem? (i := 876) (by decide +kernel)⟩
theorem lw_p30 : lw_okq (⟨"LastSentenceModel", "readClause", "()V"⟩, 39) := ⟨⟨by decide +kernel, by decide +kernel⟩, List.mem_of_getElem? (i := 730) (by decide +kernel), List.mem_of_getElem? (i := 879) (by decide +kernel), List.mem_of_getElem? (i := 880) (by decide +kernel)⟩
theorem lw_p31 : lw_okq (⟨"LastSentenceModel", "number", "(III)I"⟩, 39) := ⟨⟨by decide +kernel, by decide +kernel⟩, List.mem_of_getElem? (i := 730) (by decide +kernel), List.mem_of_getElem? (i := 883) (by decide +kernel), List.mem_of_getElem? (i := 884) (by decide +kernel)⟩
def lw_privs_2 : List (MethodName × Nat) := [(⟨"LastSentence", "actByDraw", "()V"⟩, 13), (⟨"LastSentence", "draw", "(I)I"⟩, 13), (⟨"LastSentence", "goByDraw", "(I)V"⟩, 13), (⟨"LastSentence$Planner", "missingOf", "(LLastSentence$House;LLastSentence$Night;II)I"⟩, 4), (⟨"LastSentence$Planner", "beginAtMorning", "(LLastSentence$House;I)V"⟩, 4), (⟨"LastSentence$Planner", "goOrStay", "(LLastSentence$House;I)V"⟩, 4), (⟨"LastSentence$Planner", "sayOrNot", "(III)V"⟩, 4), (⟨"LastSentence$Planner", "winnable", "(JI)J"⟩, 4), (⟨"LastSentence$Planner", "take", "(IIII)V"⟩, 4), (⟨"LastSentence$Seen", "fits", "(I)Z"⟩, 3), (⟨"LastSentence$Seen", "greaterPart", "(LLastSentence$House;LLastSentence$Night;II)I"⟩, 3), (⟨"LastSentenceModel", "readManor", "()V"⟩, 39), (⟨"LastSentenceModel", "skips", "()V"⟩, 39), (⟨"LastSentenceModel", "here", "()I"⟩, 39), (⟨"LastSentenceModel", "readClause", "()V"⟩, 39), (⟨"LastSentenceModel", "number", "(III)I"⟩, 39)]
theorem lw_r2 : ∀ q ∈ lw_privs_2, lw_okq q := List.forall_mem_cons.mpr ⟨lw_p16, List.forall_mem_cons.mpr ⟨lw_p17, List.forall_mem_cons.mpr ⟨lw_p18, List.forall_mem_cons.mpr ⟨lw_p19, List.forall_mem_cons.mpr ⟨lw_p20, List.forall_mem_cons.mpr ⟨lw_p21, List.forall_mem_cons.mpr ⟨lw_p22, List.forall_mem_cons.mpr ⟨lw_p23, List.forall_mem_cons.mpr ⟨lw_p24, List.forall_mem_cons.mpr ⟨lw_p25, List.forall_mem_cons.mpr ⟨lw_p26, List.forall_mem_cons.mpr ⟨lw_p27, List.forall_mem_cons.mpr ⟨lw_p28, List.forall_mem_cons.mpr ⟨lw_p29, List.forall_mem_cons.mpr ⟨lw_p30, List.forall_mem_cons.mpr ⟨lw_p31, fun _ h => absurd h List.not_mem_nil⟩⟩⟩⟩⟩⟩⟩⟩⟩⟩⟩⟩⟩⟩⟩⟩
theorem lw_p32 : lw_okq (⟨"LastSentenceModel", "fails", "(I)V"⟩, 39) := ⟨⟨by decide +kernel, by decide +kernel⟩, List.mem_of_getElem? (i := 730) (by decide +kernel), List.mem_of_getElem? (i := 887) (by decide +kernel), List.mem_of_getElem? (i := 888) (by decide +kernel)⟩
theorem lw_p33 : lw_okq (⟨"LastSentenceModel", "ends", "()V"⟩, 39) := ⟨⟨by decide +kernel, by decide +kernel⟩, List.mem_of_getElem? (i := 730) (by decide +kernel), List.mem_of_getElem? (i := 891) (by decide +kernel), List.mem_of_getElem? (i := 892) (by decide +kernel)⟩
theorem lw_p34 : lw_okq (⟨"LastSentenceModel", "readRoom", "()V"⟩, 39) := ⟨⟨by decide +kernel, by decide +kernel⟩, List.mem_of_getElem? (i := 730) (by decide +kernel), List.mem_of_getElem? (i := 895) (by decide +kernel), List.mem_of_getElem? (i := 896) (by decide +kernel)⟩
theorem lw_p35 : lw_okq (⟨"LastSentenceModel", "readDoor", "()V"⟩, 39) := ⟨⟨by decide +kernel, by decide +kernel⟩, List.mem_of_getElem? (i := 730) (by decide +kernel), List.mem_of_getElem? (i := 899) (by decide +kernel), List.mem_of_getElem? (i := 900) (by decide +kernel)⟩
theorem lw_p36 : lw_okq (⟨"LastSentenceModel", "readHeir", "()V"⟩, 39) := ⟨⟨by decide +kernel, by decide +kernel⟩, List.mem_of_getElem? (i := 730) (by decide +kernel), List.mem_of_getElem? (i := 903) (by decide +kernel), List.mem_of_getElem? (i := 904) (by decide +kernel)⟩
theorem lw_p37 : lw_okq (⟨"LastSentenceModel", "laysWalls", "()V"⟩, 39) := ⟨⟨by decide +kernel, by decide +kernel⟩, List.mem_of_getElem? (i := 730) (by decide +kernel), List.mem_of_getElem? (i := 910) (by decide +kernel), List.mem_of_getElem? (i := 911) (by decide +kernel)⟩
theorem lw_p38 : lw_okq (⟨"LastSentenceModel", "passes", "(III)V"⟩, 39) := ⟨⟨by decide +kernel, by decide +kernel⟩, List.mem_of_getElem? (i := 730) (by decide +kernel), List.mem_of_getElem? (i := 914) (by decide +kernel), List.mem_of_getElem? (i := 915) (by decide +kernel)⟩
theorem lw_p39 : lw_okq (⟨"LastSentenceModel", "litOf", "()I"⟩, 39) := ⟨⟨by decide +kernel, by decide +kernel⟩, List.mem_of_getElem? (i := 730) (by decide +kernel), List.mem_of_getElem? (i := 926) (by decide +kernel), List.mem_of_getElem? (i := 927) (by decide +kernel)⟩
theorem lw_p40 : lw_okq (⟨"LastSentenceModel", "isLit", "([III)Z"⟩, 39) := ⟨⟨by decide +kernel, by decide +kernel⟩, List.mem_of_getElem? (i := 730) (by decide +kernel), List.mem_of_getElem? (i := 930) (by decide +kernel), List.mem_of_getElem? (i := 931) (by decide +kernel)⟩
theorem lw_p41 : lw_okq (⟨"LastSentenceModel", "sureOnes", "()I"⟩, 39) := ⟨⟨by decide +kernel, by decide +kernel⟩, List.mem_of_getElem? (i := 730) (by decide +kernel), List.mem_of_getElem? (i := 934) (by decide +kernel), List.mem_of_getElem? (i := 935) (by decide +kernel)⟩
theorem lw_p42 : lw_okq (⟨"LastSentenceModel", "willBy", "(II)I"⟩, 39) := ⟨⟨by decide +kernel, by decide +kernel⟩, List.mem_of_getElem? (i := 730) (by decide +kernel), List.mem_of_getElem? (i := 938) (by decide +kernel), List.mem_of_getElem? (i := 939) (by decide +kernel)⟩
theorem lw_p43 : lw_okq (⟨"LastSentenceModel", "holder", "()I"⟩, 39) := ⟨⟨by decide +kernel, by decide +kernel⟩, List.mem_of_getElem? (i := 730) (by decide +kernel), List.mem_of_getElem? (i := 942) (by decide +kernel), List.mem_of_getElem? (i := 943) (by decide +kernel)⟩
theorem lw_p44 : lw_okq (⟨"LastSentenceModel", "hasRooms", "(I)I"⟩, 39) := ⟨⟨by decide +kernel, by decide +kernel⟩, List.mem_of_getElem? (i := 730) (by decide +kernel), List.mem_of_getElem? (i := 946) (by decide +kernel), List.mem_of_getElem? (i := 947) (by decide +kernel)⟩
theorem lw_p45 : lw_okq (⟨"LastSentenceModel", "isRoom", "(I)Z"⟩, 39) := ⟨⟨by decide +kernel, by decide +kernel⟩, List.mem_of_getElem? (i := 730) (by decide +kernel), List.mem_of_getElem? (i := 957) (by decide +kernel), List.mem_of_getElem? (i := 958) (by decide +kernel)⟩
theorem lw_p46 : lw_okq (⟨"LastSentenceModel", "worthOf", "(I)I"⟩, 39) := ⟨⟨by decide +kernel, by decide +kernel⟩, List.mem_of_getElem? (i := 730) (by decide +kernel), List.mem_of_getElem? (i := 962) (by decide +kernel), List.mem_of_getElem? (i := 963) (by decide +kernel)⟩
theorem lw_p47 : lw_okq (⟨"LastSentenceModel", "hearsFrom", "(II)I"⟩, 39) := ⟨⟨by decide +kernel, by decide +kernel⟩, List.mem_of_getElem? (i := 730) (by decide +kernel), List.mem_of_getElem? (i := 966) (by decide +kernel), List.mem_of_getElem? (i := 967) (by decide +kernel)⟩
def lw_privs_3 : List (MethodName × Nat) := [(⟨"LastSentenceModel", "fails", "(I)V"⟩, 39), (⟨"LastSentenceModel", "ends", "()V"⟩, 39), (⟨"LastSentenceModel", "readRoom", "()V"⟩, 39), (⟨"LastSentenceModel", "readDoor", "()V"⟩, 39), (⟨"LastSentenceModel", "readHeir", "()V"⟩, 39), (⟨"LastSentenceModel", "laysWalls", "()V"⟩, 39), (⟨"LastSentenceModel", "passes", "(III)V"⟩, 39), (⟨"LastSentenceModel", "litOf", "()I"⟩, 39), (⟨"LastSentenceModel", "isLit", "([III)Z"⟩, 39), (⟨"LastSentenceModel", "sureOnes", "()I"⟩, 39), (⟨"LastSentenceModel", "willBy", "(II)I"⟩, 39), (⟨"LastSentenceModel", "holder", "()I"⟩, 39), (⟨"LastSentenceModel", "hasRooms", "(I)I"⟩, 39), (⟨"LastSentenceModel", "isRoom", "(I)Z"⟩, 39), (⟨"LastSentenceModel", "worthOf", "(I)I"⟩, 39), (⟨"LastSentenceModel", "hearsFrom", "(II)I"⟩, 39)]
theorem lw_r3 : ∀ q ∈ lw_privs_3, lw_okq q := List.forall_mem_cons.mpr ⟨lw_p32, List.forall_mem_cons.mpr ⟨lw_p33, List.forall_mem_cons.mpr ⟨lw_p34, List.forall_mem_cons.mpr ⟨lw_p35, List.forall_mem_cons.mpr ⟨lw_p36, List.forall_mem_cons.mpr ⟨lw_p37, List.forall_mem_cons.mpr ⟨lw_p38, List.forall_mem_cons.mpr ⟨lw_p39, List.forall_mem_cons.mpr ⟨lw_p40, List.forall_mem_cons.mpr ⟨lw_p41, List.forall_mem_cons.mpr ⟨lw_p42, List.forall_mem_cons.mpr ⟨lw_p43, List.forall_mem_cons.mpr ⟨lw_p44, List.forall_mem_cons.mpr ⟨lw_p45, List.forall_mem_cons.mpr ⟨lw_p46, List.forall_mem_cons.mpr ⟨lw_p47, fun _ h => absurd h List.not_mem_nil⟩⟩⟩⟩⟩⟩⟩⟩⟩⟩⟩⟩⟩⟩⟩⟩
theorem lw_p48 : lw_okq (⟨"LastSentenceModel", "isDoor", "(I)Z"⟩, 39) := ⟨⟨by decide +kernel, by decide +kernel⟩, List.mem_of_getElem? (i := 730) (by decide +kernel), List.mem_of_getElem? (i := 977) (by decide +kernel), List.mem_of_getElem? (i := 978) (by decide +kernel)⟩
theorem lw_p49 : lw_okq (⟨"LastSentenceModel", "isHeir", "(I)Z"⟩, 39) := ⟨⟨by decide +kernel, by decide +kernel⟩, List.mem_of_getElem? (i := 730) (by decide +kernel), List.mem_of_getElem? (i := 985) (by decide +kernel), List.mem_of_getElem? (i := 986) (by decide +kernel)⟩
theorem lw_p50 : lw_okq (⟨"LastSentenceModel", "countsOf", "(I)I"⟩, 39) := ⟨⟨by decide +kernel, by decide +kernel⟩, List.mem_of_getElem? (i := 730) (by decide +kernel), List.mem_of_getElem? (i := 989) (by decide +kernel), List.mem_of_getElem? (i := 990) (by decide +kernel)⟩
theorem lw_p51 : lw_okq (⟨"LastSentenceModel", "wordedOf", "(I)I"⟩, 39) := ⟨⟨by decide +kernel, by decide +kernel⟩, List.mem_of_getElem? (i := 730) (by decide +kernel), List.mem_of_getElem? (i := 993) (by decide +kernel), List.mem_of_getElem? (i := 994) (by decide +kernel)⟩
theorem lw_p52 : lw_okq (⟨"LastSentenceModel", "countsIn", "(IIIII)I"⟩, 39) := ⟨⟨by decide +kernel, by decide +kernel⟩, List.mem_of_getElem? (i := 730) (by decide +kernel), List.mem_of_getElem? (i := 997) (by decide +kernel), List.mem_of_getElem? (i := 998) (by decide +kernel)⟩
theorem lw_p53 : lw_okq (⟨"LastSentenceModel", "whoseOf", "(II)I"⟩, 39) := ⟨⟨by decide +kernel, by decide +kernel⟩, List.mem_of_getElem? (i := 730) (by decide +kernel), List.mem_of_getElem? (i := 1001) (by decide +kernel), List.mem_of_getElem? (i := 1002) (by decide +kernel)⟩
theorem lw_p54 : lw_okq (⟨"LastSentenceModel", "notes", "()V"⟩, 39) := ⟨⟨by decide +kernel, by decide +kernel⟩, List.mem_of_getElem? (i := 730) (by decide +kernel), List.mem_of_getElem? (i := 1010) (by decide +kernel), List.mem_of_getElem? (i := 1011) (by decide +kernel)⟩
theorem lw_p55 : lw_okq (⟨"LastSentenceModel", "says", "(I)V"⟩, 39) := ⟨⟨by decide +kernel, by decide +kernel⟩, List.mem_of_getElem? (i := 730) (by decide +kernel), List.mem_of_getElem? (i := 1014) (by decide +kernel), List.mem_of_getElem? (i := 1015) (by decide +kernel)⟩
theorem lw_p56 : lw_okq (⟨"LastSentenceModel", "behind", "(II)I"⟩, 39) := ⟨⟨by decide +kernel, by decide +kernel⟩, List.mem_of_getElem? (i := 730) (by decide +kernel), List.mem_of_getElem? (i := 1022) (by decide +kernel), List.mem_of_getElem? (i := 1023) (by decide +kernel)⟩
theorem lw_p57 : lw_okq (⟨"LastSentenceModel", "hourOn", "()V"⟩, 39) := ⟨⟨by decide +kernel, by decide +kernel⟩, List.mem_of_getElem? (i := 730) (by decide +kernel), List.mem_of_getElem? (i := 1031) (by decide +kernel), List.mem_of_getElem? (i := 1032) (by decide +kernel)⟩
theorem lw_p58 : lw_okq (⟨"LastSentenceModel", "drawn", "()V"⟩, 39) := ⟨⟨by decide +kernel, by decide +kernel⟩, List.mem_of_getElem? (i := 730) (by decide +kernel), List.mem_of_getElem? (i := 1051) (by decide +kernel), List.mem_of_getElem? (i := 1052) (by decide +kernel)⟩
theorem lw_p59 : lw_okq (⟨"LastSentenceModel", "draw", "(I)I"⟩, 39) := ⟨⟨by decide +kernel, by decide +kernel⟩, List.mem_of_getElem? (i := 730) (by decide +kernel), List.mem_of_getElem? (i := 1055) (by decide +kernel), List.mem_of_getElem? (i := 1056) (by decide +kernel)⟩
theorem lw_p60 : lw_okq (⟨"LastSentenceModel", "wonOf", "(I)I"⟩, 39) := ⟨⟨by decide +kernel, by decide +kernel⟩, List.mem_of_getElem? (i := 730) (by decide +kernel), List.mem_of_getElem? (i := 1079) (by decide +kernel), List.mem_of_getElem? (i := 1080) (by decide +kernel)⟩
theorem lw_p61 : lw_okq (⟨"LastSentenceModel", "laysFew", "(II)V"⟩, 39) := ⟨⟨by decide +kernel, by decide +kernel⟩, List.mem_of_getElem? (i := 730) (by decide +kernel), List.mem_of_getElem? (i := 1083) (by decide +kernel), List.mem_of_getElem? (i := 1084) (by decide +kernel)⟩
theorem lw_p62 : lw_okq (⟨"LastSentenceModel", "goesOn", "(III)I"⟩, 39) := ⟨⟨by decide +kernel, by decide +kernel⟩, List.mem_of_getElem? (i := 730) (by decide +kernel), List.mem_of_getElem? (i := 1090) (by decide +kernel), List.mem_of_getElem? (i := 1091) (by decide +kernel)⟩
theorem lw_p63 : lw_okq (⟨"LastSentenceModel", "saysIn", "(IIII)I"⟩, 39) := ⟨⟨by decide +kernel, by decide +kernel⟩, List.mem_of_getElem? (i := 730) (by decide +kernel), List.mem_of_getElem? (i := 1094) (by decide +kernel), List.mem_of_getElem? (i := 1095) (by decide +kernel)⟩
def lw_privs_4 : List (MethodName × Nat) := [(⟨"LastSentenceModel", "isDoor", "(I)Z"⟩, 39), (⟨"LastSentenceModel", "isHeir", "(I)Z"⟩, 39), (⟨"LastSentenceModel", "countsOf", "(I)I"⟩, 39), (⟨"LastSentenceModel", "wordedOf", "(I)I"⟩, 39), (⟨"LastSentenceModel", "countsIn", "(IIIII)I"⟩, 39), (⟨"LastSentenceModel", "whoseOf", "(II)I"⟩, 39), (⟨"LastSentenceModel", "notes", "()V"⟩, 39), (⟨"LastSentenceModel", "says", "(I)V"⟩, 39), (⟨"LastSentenceModel", "behind", "(II)I"⟩, 39), (⟨"LastSentenceModel", "hourOn", "()V"⟩, 39), (⟨"LastSentenceModel", "drawn", "()V"⟩, 39), (⟨"LastSentenceModel", "draw", "(I)I"⟩, 39), (⟨"LastSentenceModel", "wonOf", "(I)I"⟩, 39), (⟨"LastSentenceModel", "laysFew", "(II)V"⟩, 39), (⟨"LastSentenceModel", "goesOn", "(III)I"⟩, 39), (⟨"LastSentenceModel", "saysIn", "(IIII)I"⟩, 39)]
theorem lw_r4 : ∀ q ∈ lw_privs_4, lw_okq q := List.forall_mem_cons.mpr ⟨lw_p48, List.forall_mem_cons.mpr ⟨lw_p49, List.forall_mem_cons.mpr ⟨lw_p50, List.forall_mem_cons.mpr ⟨lw_p51, List.forall_mem_cons.mpr ⟨lw_p52, List.forall_mem_cons.mpr ⟨lw_p53, List.forall_mem_cons.mpr ⟨lw_p54, List.forall_mem_cons.mpr ⟨lw_p55, List.forall_mem_cons.mpr ⟨lw_p56, List.forall_mem_cons.mpr ⟨lw_p57, List.forall_mem_cons.mpr ⟨lw_p58, List.forall_mem_cons.mpr ⟨lw_p59, List.forall_mem_cons.mpr ⟨lw_p60, List.forall_mem_cons.mpr ⟨lw_p61, List.forall_mem_cons.mpr ⟨lw_p62, List.forall_mem_cons.mpr ⟨lw_p63, fun _ h => absurd h List.not_mem_nil⟩⟩⟩⟩⟩⟩⟩⟩⟩⟩⟩⟩⟩⟩⟩⟩
theorem lw_p64 : lw_okq (⟨"LastSentenceModel", "latestOf", "(III)I"⟩, 39) := ⟨⟨by decide +kernel, by decide +kernel⟩, List.mem_of_getElem? (i := 730) (by decide +kernel), List.mem_of_getElem? (i := 1098) (by decide +kernel), List.mem_of_getElem? (i := 1099) (by decide +kernel)⟩
def lw_privs_5 : List (MethodName × Nat) := [(⟨"LastSentenceModel", "latestOf", "(III)I"⟩, 39)]
theorem lw_r5 : ∀ q ∈ lw_privs_5, lw_okq q := List.forall_mem_cons.mpr ⟨lw_p64, fun _ h => absurd h List.not_mem_nil⟩
def lw_privs : List (MethodName × Nat) := lw_privs_1 ++ (lw_privs_2 ++ (lw_privs_3 ++ (lw_privs_4 ++ (lw_privs_5))))
def lw_tbl : List Cond := k2_sels lw_privs ++ tables_1
theorem lw_privs_ok : ∀ q ∈ lw_privs, lw_okq q := by
  show ∀ q ∈ lw_privs_1 ++ (lw_privs_2 ++ (lw_privs_3 ++ (lw_privs_4 ++ (lw_privs_5)))), lw_okq q
  exact List.forall_mem_append.mpr ⟨lw_r1, List.forall_mem_append.mpr ⟨lw_r2, List.forall_mem_append.mpr ⟨lw_r3, List.forall_mem_append.mpr ⟨lw_r4, lw_r5⟩⟩⟩⟩
end
section
def RX0 : String := "LastSentence$Book"
def TX0 : u_T := fun k => match k with
  | 0 => ("LastSentence$Book", "count", "I", false)
  | 1 => ("LastSentence$Book", "rooms", "[I", true)
  | _ => ("LastSentence$Book", "heirs", "[I", true)
def tyX0 : Nat → FieldType := fun k => match k with
  | 0 => .int
  | 1 => .array .int
  | _ => .array .int
theorem nmX0 : ∀ a, a < 3 → ∀ b, b < 3 → a ≠ b → (TX0 a).2.1 ≠ (TX0 b).2.1 := by decide +kernel
theorem tyX0_ok : ∀ k, k < 3 → parseFieldDescriptor (TX0 k).2.2.1 = some (tyX0 k) := by decide +kernel
abbrev cX0_init : ByteArray := prog_2_method_1_code
def yX0_init : MethodName := ⟨RX0, "<init>", "()V"⟩
abbrev cX0_append : ByteArray := prog_2_method_2_code
def yX0_append : MethodName := ⟨RX0, "append", "(II)Z"⟩
abbrev cX0_firstWrong : ByteArray := prog_2_method_3_code
def yX0_firstWrong : MethodName := ⟨RX0, "firstWrong", "(LLastSentence$Night;)I"⟩
def RX1 : String := "LastSentence$House"
def TX1 : u_T := fun k => match k with
  | 0 => ("LastSentence$House", "nightHours", "I", false)
  | 1 => ("LastSentence$House", "rooms", "I", false)
  | 2 => ("LastSentence$House", "doors", "I", false)
  | 3 => ("LastSentence$House", "heirs", "I", false)
  | 4 => ("LastSentence$House", "burns", "[I", true)
  | 5 => ("LastSentence$House", "oneSide", "[I", true)
  | 6 => ("LastSentence$House", "otherSide", "[I", true)
  | 7 => ("LastSentence$House", "thick", "[I", true)
  | 8 => ("LastSentence$House", "kind", "[I", true)
  | 9 => ("LastSentence$House", "voice", "[I", true)
  | 10 => ("LastSentence$House", "start", "[I", true)
  | 11 => ("LastSentence$House", "walls", "[[I", true)
  | _ => ("LastSentence$House", "ways", "[[I", true)
def tyX1 : Nat → FieldType := fun k => match k with
  | 0 => .int
  | 1 => .int
  | 2 => .int
  | 3 => .int
  | 4 => .array .int
  | 5 => .array .int
  | 6 => .array .int
  | 7 => .array .int
  | 8 => .array .int
  | 9 => .array .int
  | 10 => .array .int
  | 11 => .array (.array .int)
  | _ => .array (.array .int)
theorem nmX1 : ∀ a, a < 13 → ∀ b, b < 13 → a ≠ b → (TX1 a).2.1 ≠ (TX1 b).2.1 := by decide +kernel
theorem tyX1_ok : ∀ k, k < 13 → parseFieldDescriptor (TX1 k).2.2.1 = some (tyX1 k) := by decide +kernel
abbrev cX1_init : ByteArray := prog_3_method_1_code
def yX1_init : MethodName := ⟨RX1, "<init>", "()V"⟩
abbrev cX1_empty : ByteArray := prog_3_method_2_code
def yX1_empty : MethodName := ⟨RX1, "empty", "()V"⟩
abbrev cX1_addRoom : ByteArray := prog_3_method_3_code
def yX1_addRoom : MethodName := ⟨RX1, "addRoom", "(I)V"⟩
abbrev cX1_addDoor : ByteArray := prog_3_method_4_code
def yX1_addDoor : MethodName := ⟨RX1, "addDoor", "(III)V"⟩
abbrev cX1_addHeir : ByteArray := prog_3_method_5_code
def yX1_addHeir : MethodName := ⟨RX1, "addHeir", "(III)V"⟩
abbrev cX1_hasRoom : ByteArray := prog_3_method_6_code
def yX1_hasRoom : MethodName := ⟨RX1, "hasRoom", "(I)Z"⟩
abbrev cX1_hasRooms : ByteArray := prog_3_method_7_code
def yX1_hasRooms : MethodName := ⟨RX1, "hasRooms", "(I)Z"⟩
abbrev cX1_hasDoor : ByteArray := prog_3_method_8_code
def yX1_hasDoor : MethodName := ⟨RX1, "hasDoor", "(I)Z"⟩
abbrev cX1_hasHeir : ByteArray := prog_3_method_9_code
def yX1_hasHeir : MethodName := ⟨RX1, "hasHeir", "(I)Z"⟩
abbrev cX1_behind : ByteArray := prog_3_method_10_code
def yX1_behind : MethodName := ⟨RX1, "behind", "(II)I"⟩
abbrev cX1_isEarly : ByteArray := prog_3_method_11_code
def yX1_isEarly : MethodName := ⟨RX1, "isEarly", "(I)Z"⟩
abbrev cX1_nameOf : ByteArray := prog_3_method_12_code
def yX1_nameOf : MethodName := ⟨RX1, "nameOf", "(II)I"⟩
abbrev cX1_isHeard : ByteArray := prog_3_method_13_code
def yX1_isHeard : MethodName := ⟨RX1, "isHeard", "(III)Z"⟩
abbrev cX1_heardFrom : ByteArray := prog_3_method_14_code
def yX1_heardFrom : MethodName := ⟨RX1, "heardFrom", "(II)I"⟩
abbrev cX1_measure : ByteArray := prog_3_method_15_code
def yX1_measure : MethodName := ⟨RX1, "measure", "()V"⟩
abbrev cX1_shorten : ByteArray := prog_3_method_16_code
def yX1_shorten : MethodName := ⟨RX1, "shorten", "([[IIII)V"⟩
abbrev cX1_shortenByRoomsBetween : ByteArray := prog_3_method_17_code
def yX1_shortenByRoomsBetween : MethodName := ⟨RX1, "shortenByRoomsBetween", "([[I)V"⟩
def RX2 : String := "LastSentence$Night"
def TX2 : u_T := fun k => match k with
  | 0 => ("LastSentence$Night", "hours", "I", false)
  | 1 => ("LastSentence$Night", "nights", "I", false)
  | 2 => ("LastSentence$Night", "sayings", "I", false)
  | 3 => ("LastSentence$Night", "outs", "I", false)
  | 4 => ("LastSentence$Night", "burns", "[I", true)
  | 5 => ("LastSentence$Night", "owner", "[I", true)
  | 6 => ("LastSentence$Night", "place", "[I", true)
  | _ => ("LastSentence$Night", "last", "[[I", true)
def tyX2 : Nat → FieldType := fun k => match k with
  | 0 => .int
  | 1 => .int
  | 2 => .int
  | 3 => .int
  | 4 => .array .int
  | 5 => .array .int
  | 6 => .array .int
  | _ => .array (.array .int)
theorem nmX2 : ∀ a, a < 8 → ∀ b, b < 8 → a ≠ b → (TX2 a).2.1 ≠ (TX2 b).2.1 := by decide +kernel
theorem tyX2_ok : ∀ k, k < 8 → parseFieldDescriptor (TX2 k).2.2.1 = some (tyX2 k) := by decide +kernel
abbrev cX2_init : ByteArray := prog_4_method_1_code
def yX2_init : MethodName := ⟨RX2, "<init>", "()V"⟩
abbrev cX2_begin : ByteArray := prog_4_method_2_code
def yX2_begin : MethodName := ⟨RX2, "begin", "(LLastSentence$House;)V"⟩
abbrev cX2_copyFrom : ByteArray := prog_4_method_3_code
def yX2_copyFrom : MethodName := ⟨RX2, "copyFrom", "(LLastSentence$Night;)V"⟩
abbrev cX2_clearNight : ByteArray := prog_4_method_4_code
def yX2_clearNight : MethodName := ⟨RX2, "clearNight", "()V"⟩
abbrev cX2_passHour : ByteArray := prog_4_method_5_code
def yX2_passHour : MethodName := ⟨RX2, "passHour", "(LLastSentence$House;)V"⟩
abbrev cX2_isOut : ByteArray := prog_4_method_6_code
def yX2_isOut : MethodName := ⟨RX2, "isOut", "(I)Z"⟩
abbrev cX2_putOut : ByteArray := prog_4_method_7_code
def yX2_putOut : MethodName := ⟨RX2, "putOut", "(I)V"⟩
abbrev cX2_lightAgain : ByteArray := prog_4_method_8_code
def yX2_lightAgain : MethodName := ⟨RX2, "lightAgain", "(I)V"⟩
abbrev cX2_isLitAt : ByteArray := prog_4_method_9_code
def yX2_isLitAt : MethodName := ⟨RX2, "isLitAt", "(II)Z"⟩
abbrev cX2_litAt : ByteArray := prog_4_method_10_code
def yX2_litAt : MethodName := ⟨RX2, "litAt", "(LLastSentence$House;I)I"⟩
abbrev cX2_hears : ByteArray := prog_4_method_11_code
def yX2_hears : MethodName := ⟨RX2, "hears", "(LLastSentence$House;I)I"⟩
abbrev cX2_reached : ByteArray := prog_4_method_12_code
def yX2_reached : MethodName := ⟨RX2, "reached", "(LLastSentence$House;IIII)I"⟩
abbrev cX2_counts : ByteArray := prog_4_method_13_code
def yX2_counts : MethodName := ⟨RX2, "counts", "(LLastSentence$House;I)I"⟩
abbrev cX2_speak : ByteArray := prog_4_method_14_code
def yX2_speak : MethodName := ⟨RX2, "speak", "(LLastSentence$House;I)V"⟩
abbrev cX2_will : ByteArray := prog_4_method_15_code
def yX2_will : MethodName := ⟨RX2, "will", "(II)I"⟩
abbrev cX2_sure : ByteArray := prog_4_method_16_code
def yX2_sure : MethodName := ⟨RX2, "sure", "(LLastSentence$House;)I"⟩
abbrev cX2_isSure : ByteArray := prog_4_method_17_code
def yX2_isSure : MethodName := ⟨RX2, "isSure", "(I)Z"⟩
abbrev cX2_worth : ByteArray := prog_4_method_18_code
def yX2_worth : MethodName := ⟨RX2, "worth", "(LLastSentence$House;I)I"⟩
abbrev cX2_holdings : ByteArray := prog_4_method_19_code
def yX2_holdings : MethodName := ⟨RX2, "holdings", "(LLastSentence$House;I)I"⟩
abbrev cX2_holder : ByteArray := prog_4_method_20_code
def yX2_holder : MethodName := ⟨RX2, "holder", "(LLastSentence$House;)I"⟩
def RX3 : String := "LastSentence$Planner"
def TX3 : u_T := fun k => match k with
  | 0 => ("LastSentence$Planner", "fewestSayings", "I", false)
  | 1 => ("LastSentence$Planner", "latestHour", "I", false)
  | 2 => ("LastSentence$Planner", "before", "[[J", true)
  | _ => ("LastSentence$Planner", "between", "[[J", true)
def tyX3 : Nat → FieldType := fun k => match k with
  | 0 => .int
  | 1 => .int
  | 2 => .array (.array .long)
  | _ => .array (.array .long)
theorem nmX3 : ∀ a, a < 4 → ∀ b, b < 4 → a ≠ b → (TX3 a).2.1 ≠ (TX3 b).2.1 := by decide +kernel
theorem tyX3_ok : ∀ k, k < 4 → parseFieldDescriptor (TX3 k).2.2.1 = some (tyX3 k) := by decide +kernel
abbrev cX3_init : ByteArray := prog_5_method_1_code
def yX3_init : MethodName := ⟨RX3, "<init>", "()V"⟩
abbrev cX3_plan : ByteArray := prog_5_method_2_code
def yX3_plan : MethodName := ⟨RX3, "plan", "(LLastSentence$House;LLastSentence$Night;II)V"⟩
abbrev cX3_missingOf : ByteArray := prog_5_method_3_code
def yX3_missingOf : MethodName := ⟨RX3, "missingOf", "(LLastSentence$House;LLastSentence$Night;II)I"⟩
abbrev cX3_beginAtMorning : ByteArray := prog_5_method_4_code
def yX3_beginAtMorning : MethodName := ⟨RX3, "beginAtMorning", "(LLastSentence$House;I)V"⟩
abbrev cX3_goOrStay : ByteArray := prog_5_method_5_code
def yX3_goOrStay : MethodName := ⟨RX3, "goOrStay", "(LLastSentence$House;I)V"⟩
abbrev cX3_sayOrNot : ByteArray := prog_5_method_6_code
def yX3_sayOrNot : MethodName := ⟨RX3, "sayOrNot", "(III)V"⟩
abbrev cX3_winnable : ByteArray := prog_5_method_7_code
def yX3_winnable : MethodName := ⟨RX3, "winnable", "(JI)J"⟩
abbrev cX3_take : ByteArray := prog_5_method_8_code
def yX3_take : MethodName := ⟨RX3, "take", "(IIII)V"⟩
def RX4 : String := "LastSentence$Seen"
def TX4 : u_T := fun k => match k with
  | 0 => ("LastSentence$Seen", "count", "I", false)
  | 1 => ("LastSentence$Seen", "rooms", "[I", true)
  | _ => ("LastSentence$Seen", "heard", "[Z", true)
def tyX4 : Nat → FieldType := fun k => match k with
  | 0 => .int
  | 1 => .array .int
  | _ => .array .boolean
theorem nmX4 : ∀ a, a < 3 → ∀ b, b < 3 → a ≠ b → (TX4 a).2.1 ≠ (TX4 b).2.1 := by decide +kernel
theorem tyX4_ok : ∀ k, k < 3 → parseFieldDescriptor (TX4 k).2.2.1 = some (tyX4 k) := by decide +kernel
abbrev cX4_init : ByteArray := prog_6_method_1_code
def yX4_init : MethodName := ⟨RX4, "<init>", "()V"⟩
abbrev cX4_append : ByteArray := prog_6_method_2_code
def yX4_append : MethodName := ⟨RX4, "append", "(IZ)Z"⟩
abbrev cX4_suspects : ByteArray := prog_6_method_3_code
def yX4_suspects : MethodName := ⟨RX4, "suspects", "(LLastSentence$House;LLastSentence$Night;)I"⟩
abbrev cX4_fits : ByteArray := prog_6_method_4_code
def yX4_fits : MethodName := ⟨RX4, "fits", "(I)Z"⟩
abbrev cX4_bestRoom : ByteArray := prog_6_method_5_code
def yX4_bestRoom : MethodName := ⟨RX4, "bestRoom", "(LLastSentence$House;LLastSentence$Night;)I"⟩
abbrev cX4_greaterPart : ByteArray := prog_6_method_6_code
def yX4_greaterPart : MethodName := ⟨RX4, "greaterPart", "(LLastSentence$House;LLastSentence$Night;II)I"⟩
def RX5 : String := "LastSentence$Text"
def TX5 : u_T := fun k => match k with
  | 0 => ("LastSentence$Text", "letters", "[I", true)
  | 1 => ("LastSentence$Text", "length", "I", false)
  | 2 => ("LastSentence$Text", "faultKind", "I", false)
  | 3 => ("LastSentence$Text", "faultAt", "I", false)
  | _ => ("LastSentence$Text", "at", "I", false)
def tyX5 : Nat → FieldType := fun k => match k with
  | 0 => .array .int
  | 1 => .int
  | 2 => .int
  | 3 => .int
  | _ => .int
theorem nmX5 : ∀ a, a < 5 → ∀ b, b < 5 → a ≠ b → (TX5 a).2.1 ≠ (TX5 b).2.1 := by decide +kernel
theorem tyX5_ok : ∀ k, k < 5 → parseFieldDescriptor (TX5 k).2.2.1 = some (tyX5 k) := by decide +kernel
abbrev cX5_init : ByteArray := prog_7_method_1_code
def yX5_init : MethodName := ⟨RX5, "<init>", "()V"⟩
abbrev cX5_append : ByteArray := prog_7_method_2_code
def yX5_append : MethodName := ⟨RX5, "append", "(I)Z"⟩
abbrev cX5_readInto : ByteArray := prog_7_method_3_code
def yX5_readInto : MethodName := ⟨RX5, "readInto", "(LLastSentence$House;)V"⟩
abbrev cX5_readClause : ByteArray := prog_7_method_4_code
def yX5_readClause : MethodName := ⟨RX5, "readClause", "(LLastSentence$House;)V"⟩
abbrev cX5_readNight : ByteArray := prog_7_method_5_code
def yX5_readNight : MethodName := ⟨RX5, "readNight", "(LLastSentence$House;I)V"⟩
abbrev cX5_readRoom : ByteArray := prog_7_method_6_code
def yX5_readRoom : MethodName := ⟨RX5, "readRoom", "(LLastSentence$House;I)V"⟩
abbrev cX5_readDoor : ByteArray := prog_7_method_7_code
def yX5_readDoor : MethodName := ⟨RX5, "readDoor", "(LLastSentence$House;I)V"⟩
abbrev cX5_readHeir : ByteArray := prog_7_method_8_code
def yX5_readHeir : MethodName := ⟨RX5, "readHeir", "(LLastSentence$House;I)V"⟩
abbrev cX5_readNumber : ByteArray := prog_7_method_9_code
def yX5_readNumber : MethodName := ⟨RX5, "readNumber", "(II)I"⟩
abbrev cX5_readEnd : ByteArray := prog_7_method_10_code
def yX5_readEnd : MethodName := ⟨RX5, "readEnd", "()Z"⟩
abbrev cX5_skipBlanks : ByteArray := prog_7_method_11_code
def yX5_skipBlanks : MethodName := ⟨RX5, "skipBlanks", "()V"⟩
abbrev cX5_failIf : ByteArray := prog_7_method_12_code
def yX5_failIf : MethodName := ⟨RX5, "failIf", "(ZII)V"⟩
abbrev cX5_fail : ByteArray := prog_7_method_13_code
def yX5_fail : MethodName := ⟨RX5, "fail", "(II)V"⟩
def RX6 : String := "LastSentence$Trail"
def TX6 : u_T := fun k => match k with
  | 0 => ("LastSentence$Trail", "states", "[LLastSentence$Night;", true)
  | 1 => ("LastSentence$Trail", "count", "I", false)
  | _ => ("LastSentence$Trail", "next", "I", false)
def tyX6 : Nat → FieldType := fun k => match k with
  | 0 => .array (.object "LastSentence$Night")
  | 1 => .int
  | _ => .int
theorem nmX6 : ∀ a, a < 3 → ∀ b, b < 3 → a ≠ b → (TX6 a).2.1 ≠ (TX6 b).2.1 := by decide +kernel
theorem tyX6_ok : ∀ k, k < 3 → parseFieldDescriptor (TX6 k).2.2.1 = some (tyX6 k) := by decide +kernel
abbrev cX6_init : ByteArray := prog_8_method_1_code
def yX6_init : MethodName := ⟨RX6, "<init>", "()V"⟩
abbrev cX6_clear : ByteArray := prog_8_method_2_code
def yX6_clear : MethodName := ⟨RX6, "clear", "()V"⟩
abbrev cX6_remember : ByteArray := prog_8_method_3_code
def yX6_remember : MethodName := ⟨RX6, "remember", "(LLastSentence$Night;)V"⟩
abbrev cX6_takeBack : ByteArray := prog_8_method_4_code
def yX6_takeBack : MethodName := ⟨RX6, "takeBack", "(ILLastSentence$Night;)V"⟩
def RX7 : String := "LastSentence"
def TX7 : u_T := fun k => match k with
  | 0 => ("LastSentence", "text", "LLastSentence$Text;", true)
  | 1 => ("LastSentence", "house", "LLastSentence$House;", false)
  | 2 => ("LastSentence", "draft", "LLastSentence$House;", false)
  | 3 => ("LastSentence", "night", "LLastSentence$Night;", true)
  | 4 => ("LastSentence", "trail", "LLastSentence$Trail;", true)
  | 5 => ("LastSentence", "images", "[LLastSentence$Night;", true)
  | 6 => ("LastSentence", "imageSeeds", "[I", true)
  | 7 => ("LastSentence", "kept", "[Z", true)
  | 8 => ("LastSentence", "planner", "LLastSentence$Planner;", true)
  | 9 => ("LastSentence", "seen", "LLastSentence$Seen;", true)
  | 10 => ("LastSentence", "book", "LLastSentence$Book;", true)
  | 11 => ("LastSentence", "drawSeed", "I", false)
  | _ => ("LastSentence", "latestFault", "I", false)
def tyX7 : Nat → FieldType := fun k => match k with
  | 0 => .object "LastSentence$Text"
  | 1 => .object "LastSentence$House"
  | 2 => .object "LastSentence$House"
  | 3 => .object "LastSentence$Night"
  | 4 => .object "LastSentence$Trail"
  | 5 => .array (.object "LastSentence$Night")
  | 6 => .array .int
  | 7 => .array .boolean
  | 8 => .object "LastSentence$Planner"
  | 9 => .object "LastSentence$Seen"
  | 10 => .object "LastSentence$Book"
  | 11 => .int
  | _ => .int
theorem nmX7 : ∀ a, a < 13 → ∀ b, b < 13 → a ≠ b → (TX7 a).2.1 ≠ (TX7 b).2.1 := by decide +kernel
theorem tyX7_ok : ∀ k, k < 13 → parseFieldDescriptor (TX7 k).2.2.1 = some (tyX7 k) := by decide +kernel
abbrev cX7_init : ByteArray := prog_1_method_1_code
def yX7_init : MethodName := ⟨RX7, "<init>", "()V"⟩
abbrev cX7_feed : ByteArray := prog_1_method_2_code
def yX7_feed : MethodName := ⟨RX7, "feed", "(I)I"⟩
abbrev cX7_manor : ByteArray := prog_1_method_3_code
def yX7_manor : MethodName := ⟨RX7, "manor", "()I"⟩
abbrev cX7_fault : ByteArray := prog_1_method_4_code
def yX7_fault : MethodName := ⟨RX7, "fault", "()I"⟩
abbrev cX7_told : ByteArray := prog_1_method_5_code
def yX7_told : MethodName := ⟨RX7, "told", "(I)I"⟩
abbrev cX7_room : ByteArray := prog_1_method_6_code
def yX7_room : MethodName := ⟨RX7, "room", "(II)I"⟩
abbrev cX7_door : ByteArray := prog_1_method_7_code
def yX7_door : MethodName := ⟨RX7, "door", "(II)I"⟩
abbrev cX7_heir : ByteArray := prog_1_method_8_code
def yX7_heir : MethodName := ⟨RX7, "heir", "(II)I"⟩
abbrev cX7_say : ByteArray := prog_1_method_9_code
def yX7_say : MethodName := ⟨RX7, "say", "(I)I"⟩
abbrev cX7_go : ByteArray := prog_1_method_10_code
def yX7_go : MethodName := ⟨RX7, "go", "(II)I"⟩
abbrev cX7_hour : ByteArray := prog_1_method_11_code
def yX7_hour : MethodName := ⟨RX7, "hour", "(I)I"⟩
abbrev cX7_out : ByteArray := prog_1_method_12_code
def yX7_out : MethodName := ⟨RX7, "out", "(I)I"⟩
abbrev cX7_light : ByteArray := prog_1_method_13_code
def yX7_light : MethodName := ⟨RX7, "light", "(I)I"⟩
abbrev cX7_candle : ByteArray := prog_1_method_14_code
def yX7_candle : MethodName := ⟨RX7, "candle", "(II)I"⟩
abbrev cX7_drift : ByteArray := prog_1_method_15_code
def yX7_drift : MethodName := ⟨RX7, "drift", "(I)I"⟩
abbrev cX7_undo : ByteArray := prog_1_method_16_code
def yX7_undo : MethodName := ⟨RX7, "undo", "(I)I"⟩
abbrev cX7_refusalOfHours : ByteArray := prog_1_method_17_code
def yX7_refusalOfHours : MethodName := ⟨RX7, "refusalOfHours", "(I)I"⟩
abbrev cX7_actByDraw : ByteArray := prog_1_method_18_code
def yX7_actByDraw : MethodName := ⟨RX7, "actByDraw", "()V"⟩
abbrev cX7_goByDraw : ByteArray := prog_1_method_19_code
def yX7_goByDraw : MethodName := ⟨RX7, "goByDraw", "(I)V"⟩
abbrev cX7_draw : ByteArray := prog_1_method_20_code
def yX7_draw : MethodName := ⟨RX7, "draw", "(I)I"⟩
abbrev cX7_wall : ByteArray := prog_1_method_21_code
def yX7_wall : MethodName := ⟨RX7, "wall", "(II)I"⟩
abbrev cX7_way : ByteArray := prog_1_method_22_code
def yX7_way : MethodName := ⟨RX7, "way", "(II)I"⟩
abbrev cX7_fewest : ByteArray := prog_1_method_23_code
def yX7_fewest : MethodName := ⟨RX7, "fewest", "(III)I"⟩
abbrev cX7_reading : ByteArray := prog_1_method_24_code
def yX7_reading : MethodName := ⟨RX7, "reading", "(II)I"⟩
abbrev cX7_quiet : ByteArray := prog_1_method_25_code
def yX7_quiet : MethodName := ⟨RX7, "quiet", "(II)I"⟩
abbrev cX7_see : ByteArray := prog_1_method_26_code
def yX7_see : MethodName := ⟨RX7, "see", "(IZ)I"⟩
abbrev cX7_couldBe : ByteArray := prog_1_method_27_code
def yX7_couldBe : MethodName := ⟨RX7, "couldBe", "()I"⟩
abbrev cX7_ask : ByteArray := prog_1_method_28_code
def yX7_ask : MethodName := ⟨RX7, "ask", "()I"⟩
abbrev cX7_write : ByteArray := prog_1_method_29_code
def yX7_write : MethodName := ⟨RX7, "write", "(II)I"⟩
abbrev cX7_judge : ByteArray := prog_1_method_30_code
def yX7_judge : MethodName := ⟨RX7, "judge", "()I"⟩
abbrev cX7_tear : ByteArray := prog_1_method_31_code
def yX7_tear : MethodName := ⟨RX7, "tear", "()I"⟩
abbrev cX7_seed : ByteArray := prog_1_method_32_code
def yX7_seed : MethodName := ⟨RX7, "seed", "(I)I"⟩
abbrev cX7_keep : ByteArray := prog_1_method_33_code
def yX7_keep : MethodName := ⟨RX7, "keep", "(I)I"⟩
abbrev cX7_goBack : ByteArray := prog_1_method_34_code
def yX7_goBack : MethodName := ⟨RX7, "goBack", "(I)I"⟩
abbrev cX7_forgetImages : ByteArray := prog_1_method_35_code
def yX7_forgetImages : MethodName := ⟨RX7, "forgetImages", "()V"⟩
def RX8 : String := "LastSentenceModel"
def TX8 : u_T := fun k => match k with
  | 0 => ("LastSentenceModel", "text", "[I", true)
  | 1 => ("LastSentenceModel", "length", "I", false)
  | 2 => ("LastSentenceModel", "faultAt", "I", false)
  | 3 => ("LastSentenceModel", "hours", "I", false)
  | 4 => ("LastSentenceModel", "rooms", "I", false)
  | 5 => ("LastSentenceModel", "doors", "I", false)
  | 6 => ("LastSentenceModel", "heirs", "I", false)
  | 7 => ("LastSentenceModel", "doorA", "[I", true)
  | 8 => ("LastSentenceModel", "doorB", "[I", true)
  | 9 => ("LastSentenceModel", "thick", "[I", true)
  | 10 => ("LastSentenceModel", "kind", "[I", true)
  | 11 => ("LastSentenceModel", "voice", "[I", true)
  | 12 => ("LastSentenceModel", "walls", "[I", true)
  | 13 => ("LastSentenceModel", "ways", "[I", true)
  | 14 => ("LastSentenceModel", "st", "[I", true)
  | 15 => ("LastSentenceModel", "deeds", "[I", true)
  | 16 => ("LastSentenceModel", "deedsMany", "I", false)
  | 17 => ("LastSentenceModel", "seed", "J", false)
  | 18 => ("LastSentenceModel", "images", "[I", true)
  | 19 => ("LastSentenceModel", "seeds", "[J", true)
  | 20 => ("LastSentenceModel", "isKept", "[Z", true)
  | 21 => ("LastSentenceModel", "seen", "[I", true)
  | 22 => ("LastSentenceModel", "seenMany", "I", false)
  | 23 => ("LastSentenceModel", "book", "[I", true)
  | 24 => ("LastSentenceModel", "bookMany", "I", false)
  | 25 => ("LastSentenceModel", "place", "I", false)
  | 26 => ("LastSentenceModel", "wrong", "I", false)
  | 27 => ("LastSentenceModel", "wrongAt", "I", false)
  | 28 => ("LastSentenceModel", "readHours", "I", false)
  | 29 => ("LastSentenceModel", "readRooms", "I", false)
  | 30 => ("LastSentenceModel", "readDoors", "I", false)
  | 31 => ("LastSentenceModel", "readHeirs", "I", false)
  | 32 => ("LastSentenceModel", "readA", "[I", true)
  | 33 => ("LastSentenceModel", "readB", "[I", true)
  | 34 => ("LastSentenceModel", "readThick", "[I", true)
  | 35 => ("LastSentenceModel", "readKind", "[I", true)
  | 36 => ("LastSentenceModel", "readVoice", "[I", true)
  | 37 => ("LastSentenceModel", "read", "[I", true)
  | _ => ("LastSentenceModel", "few", "[I", true)
def tyX8 : Nat → FieldType := fun k => match k with
  | 0 => .array .int
  | 1 => .int
  | 2 => .int
  | 3 => .int
  | 4 => .int
  | 5 => .int
  | 6 => .int
  | 7 => .array .int
  | 8 => .array .int
  | 9 => .array .int
  | 10 => .array .int
  | 11 => .array .int
  | 12 => .array .int
  | 13 => .array .int
  | 14 => .array .int
  | 15 => .array .int
  | 16 => .int
  | 17 => .long
  | 18 => .array .int
  | 19 => .array .long
  | 20 => .array .boolean
  | 21 => .array .int
  | 22 => .int
  | 23 => .array .int
  | 24 => .int
  | 25 => .int
  | 26 => .int
  | 27 => .int
  | 28 => .int
  | 29 => .int
  | 30 => .int
  | 31 => .int
  | 32 => .array .int
  | 33 => .array .int
  | 34 => .array .int
  | 35 => .array .int
  | 36 => .array .int
  | 37 => .array .int
  | _ => .array .int
theorem nmX8 : ∀ a, a < 39 → ∀ b, b < 39 → a ≠ b → (TX8 a).2.1 ≠ (TX8 b).2.1 := by decide +kernel
theorem tyX8_ok : ∀ k, k < 39 → parseFieldDescriptor (TX8 k).2.2.1 = some (tyX8 k) := by decide +kernel
abbrev cX8_init : ByteArray := prog_10_method_1_code
def yX8_init : MethodName := ⟨RX8, "<init>", "()V"⟩
abbrev cX8_in : ByteArray := prog_10_method_3_code
def yX8_in : MethodName := ⟨RX8, "in", "(III)Z"⟩
abbrev cX8_has : ByteArray := prog_10_method_4_code
def yX8_has : MethodName := ⟨RX8, "has", "(II)Z"⟩
abbrev cX8_bits : ByteArray := prog_10_method_5_code
def yX8_bits : MethodName := ⟨RX8, "bits", "(I)I"⟩
abbrev cX8_bring : ByteArray := prog_10_method_6_code
def yX8_bring : MethodName := ⟨RX8, "bring", "([II[III)V"⟩
abbrev cX8_isRoom : ByteArray := prog_10_method_7_code
def yX8_isRoom : MethodName := ⟨RX8, "isRoom", "(I)Z"⟩
abbrev cX8_isHeir : ByteArray := prog_10_method_8_code
def yX8_isHeir : MethodName := ⟨RX8, "isHeir", "(I)Z"⟩
abbrev cX8_isDoor : ByteArray := prog_10_method_9_code
def yX8_isDoor : MethodName := ⟨RX8, "isDoor", "(I)Z"⟩
abbrev cX8_feed : ByteArray := prog_10_method_10_code
def yX8_feed : MethodName := ⟨RX8, "feed", "(I)I"⟩
abbrev cX8_here : ByteArray := prog_10_method_11_code
def yX8_here : MethodName := ⟨RX8, "here", "()I"⟩
abbrev cX8_skips : ByteArray := prog_10_method_12_code
def yX8_skips : MethodName := ⟨RX8, "skips", "()V"⟩
abbrev cX8_fails : ByteArray := prog_10_method_13_code
def yX8_fails : MethodName := ⟨RX8, "fails", "(I)V"⟩
abbrev cX8_number : ByteArray := prog_10_method_14_code
def yX8_number : MethodName := ⟨RX8, "number", "(III)I"⟩
abbrev cX8_ends : ByteArray := prog_10_method_15_code
def yX8_ends : MethodName := ⟨RX8, "ends", "()V"⟩
abbrev cX8_readRoom : ByteArray := prog_10_method_16_code
def yX8_readRoom : MethodName := ⟨RX8, "readRoom", "()V"⟩
abbrev cX8_readDoor : ByteArray := prog_10_method_17_code
def yX8_readDoor : MethodName := ⟨RX8, "readDoor", "()V"⟩
abbrev cX8_readHeir : ByteArray := prog_10_method_18_code
def yX8_readHeir : MethodName := ⟨RX8, "readHeir", "()V"⟩
abbrev cX8_readClause : ByteArray := prog_10_method_19_code
def yX8_readClause : MethodName := ⟨RX8, "readClause", "()V"⟩
abbrev cX8_readManor : ByteArray := prog_10_method_20_code
def yX8_readManor : MethodName := ⟨RX8, "readManor", "()V"⟩
abbrev cX8_manor : ByteArray := prog_10_method_21_code
def yX8_manor : MethodName := ⟨RX8, "manor", "()I"⟩
abbrev cX8_fault : ByteArray := prog_10_method_22_code
def yX8_fault : MethodName := ⟨RX8, "fault", "()I"⟩
abbrev cX8_passes : ByteArray := prog_10_method_23_code
def yX8_passes : MethodName := ⟨RX8, "passes", "(III)V"⟩
abbrev cX8_laysWalls : ByteArray := prog_10_method_24_code
def yX8_laysWalls : MethodName := ⟨RX8, "laysWalls", "()V"⟩
abbrev cX8_isLit : ByteArray := prog_10_method_25_code
def yX8_isLit : MethodName := ⟨RX8, "isLit", "([III)Z"⟩
abbrev cX8_litOf : ByteArray := prog_10_method_26_code
def yX8_litOf : MethodName := ⟨RX8, "litOf", "()I"⟩
abbrev cX8_hearsFrom : ByteArray := prog_10_method_27_code
def yX8_hearsFrom : MethodName := ⟨RX8, "hearsFrom", "(II)I"⟩
abbrev cX8_countsIn : ByteArray := prog_10_method_28_code
def yX8_countsIn : MethodName := ⟨RX8, "countsIn", "(IIIII)I"⟩
abbrev cX8_whoseOf : ByteArray := prog_10_method_29_code
def yX8_whoseOf : MethodName := ⟨RX8, "whoseOf", "(II)I"⟩
abbrev cX8_wordedOf : ByteArray := prog_10_method_30_code
def yX8_wordedOf : MethodName := ⟨RX8, "wordedOf", "(I)I"⟩
abbrev cX8_countsOf : ByteArray := prog_10_method_31_code
def yX8_countsOf : MethodName := ⟨RX8, "countsOf", "(I)I"⟩
abbrev cX8_says : ByteArray := prog_10_method_32_code
def yX8_says : MethodName := ⟨RX8, "says", "(I)V"⟩
abbrev cX8_hourOn : ByteArray := prog_10_method_33_code
def yX8_hourOn : MethodName := ⟨RX8, "hourOn", "()V"⟩
abbrev cX8_willBy : ByteArray := prog_10_method_34_code
def yX8_willBy : MethodName := ⟨RX8, "willBy", "(II)I"⟩
abbrev cX8_sureOnes : ByteArray := prog_10_method_35_code
def yX8_sureOnes : MethodName := ⟨RX8, "sureOnes", "()I"⟩
abbrev cX8_hasRooms : ByteArray := prog_10_method_36_code
def yX8_hasRooms : MethodName := ⟨RX8, "hasRooms", "(I)I"⟩
abbrev cX8_holder : ByteArray := prog_10_method_37_code
def yX8_holder : MethodName := ⟨RX8, "holder", "()I"⟩
abbrev cX8_told : ByteArray := prog_10_method_38_code
def yX8_told : MethodName := ⟨RX8, "told", "(I)I"⟩
abbrev cX8_worthOf : ByteArray := prog_10_method_39_code
def yX8_worthOf : MethodName := ⟨RX8, "worthOf", "(I)I"⟩
abbrev cX8_room : ByteArray := prog_10_method_40_code
def yX8_room : MethodName := ⟨RX8, "room", "(II)I"⟩
abbrev cX8_door : ByteArray := prog_10_method_41_code
def yX8_door : MethodName := ⟨RX8, "door", "(II)I"⟩
abbrev cX8_heir : ByteArray := prog_10_method_42_code
def yX8_heir : MethodName := ⟨RX8, "heir", "(II)I"⟩
abbrev cX8_notes : ByteArray := prog_10_method_43_code
def yX8_notes : MethodName := ⟨RX8, "notes", "()V"⟩
abbrev cX8_say : ByteArray := prog_10_method_44_code
def yX8_say : MethodName := ⟨RX8, "say", "(I)I"⟩
abbrev cX8_behind : ByteArray := prog_10_method_45_code
def yX8_behind : MethodName := ⟨RX8, "behind", "(II)I"⟩
abbrev cX8_go : ByteArray := prog_10_method_46_code
def yX8_go : MethodName := ⟨RX8, "go", "(II)I"⟩
abbrev cX8_hour : ByteArray := prog_10_method_47_code
def yX8_hour : MethodName := ⟨RX8, "hour", "(I)I"⟩
abbrev cX8_out : ByteArray := prog_10_method_48_code
def yX8_out : MethodName := ⟨RX8, "out", "(I)I"⟩
abbrev cX8_light : ByteArray := prog_10_method_49_code
def yX8_light : MethodName := ⟨RX8, "light", "(I)I"⟩
abbrev cX8_candle : ByteArray := prog_10_method_50_code
def yX8_candle : MethodName := ⟨RX8, "candle", "(II)I"⟩
abbrev cX8_draw : ByteArray := prog_10_method_51_code
def yX8_draw : MethodName := ⟨RX8, "draw", "(I)I"⟩
abbrev cX8_drawn : ByteArray := prog_10_method_52_code
def yX8_drawn : MethodName := ⟨RX8, "drawn", "()V"⟩
abbrev cX8_drift : ByteArray := prog_10_method_53_code
def yX8_drift : MethodName := ⟨RX8, "drift", "(I)I"⟩
abbrev cX8_undo : ByteArray := prog_10_method_54_code
def yX8_undo : MethodName := ⟨RX8, "undo", "(I)I"⟩
abbrev cX8_wall : ByteArray := prog_10_method_55_code
def yX8_wall : MethodName := ⟨RX8, "wall", "(II)I"⟩
abbrev cX8_way : ByteArray := prog_10_method_56_code
def yX8_way : MethodName := ⟨RX8, "way", "(II)I"⟩
abbrev cX8_at : ByteArray := prog_10_method_57_code
def yX8_at : MethodName := ⟨RX8, "at", "(III)I"⟩
abbrev cX8_goesOn : ByteArray := prog_10_method_58_code
def yX8_goesOn : MethodName := ⟨RX8, "goesOn", "(III)I"⟩
abbrev cX8_saysIn : ByteArray := prog_10_method_59_code
def yX8_saysIn : MethodName := ⟨RX8, "saysIn", "(IIII)I"⟩
abbrev cX8_laysFew : ByteArray := prog_10_method_60_code
def yX8_laysFew : MethodName := ⟨RX8, "laysFew", "(II)V"⟩
abbrev cX8_wonOf : ByteArray := prog_10_method_61_code
def yX8_wonOf : MethodName := ⟨RX8, "wonOf", "(I)I"⟩
abbrev cX8_latestOf : ByteArray := prog_10_method_62_code
def yX8_latestOf : MethodName := ⟨RX8, "latestOf", "(III)I"⟩
abbrev cX8_fewest : ByteArray := prog_10_method_63_code
def yX8_fewest : MethodName := ⟨RX8, "fewest", "(III)I"⟩
abbrev cX8_reading : ByteArray := prog_10_method_64_code
def yX8_reading : MethodName := ⟨RX8, "reading", "(II)I"⟩
abbrev cX8_quiet : ByteArray := prog_10_method_65_code
def yX8_quiet : MethodName := ⟨RX8, "quiet", "(II)I"⟩
abbrev cX8_see : ByteArray := prog_10_method_66_code
def yX8_see : MethodName := ⟨RX8, "see", "(IZ)I"⟩
abbrev cX8_couldBe : ByteArray := prog_10_method_67_code
def yX8_couldBe : MethodName := ⟨RX8, "couldBe", "()I"⟩
abbrev cX8_ask : ByteArray := prog_10_method_68_code
def yX8_ask : MethodName := ⟨RX8, "ask", "()I"⟩
abbrev cX8_write : ByteArray := prog_10_method_69_code
def yX8_write : MethodName := ⟨RX8, "write", "(II)I"⟩
abbrev cX8_judge : ByteArray := prog_10_method_70_code
def yX8_judge : MethodName := ⟨RX8, "judge", "()I"⟩
abbrev cX8_tear : ByteArray := prog_10_method_71_code
def yX8_tear : MethodName := ⟨RX8, "tear", "()I"⟩
abbrev cX8_seed : ByteArray := prog_10_method_72_code
def yX8_seed : MethodName := ⟨RX8, "seed", "(I)I"⟩
abbrev cX8_keep : ByteArray := prog_10_method_73_code
def yX8_keep : MethodName := ⟨RX8, "keep", "(I)I"⟩
abbrev cX8_goBack : ByteArray := prog_10_method_74_code
def yX8_goBack : MethodName := ⟨RX8, "goBack", "(I)I"⟩
def RJ6 : String := "java/lang/Integer"
def TJ6 : u_T := fun k => match k with
  | _ => ("", "", "", false)
def tyJ6 : Nat → FieldType := fun k => match k with
  | _ => .int
theorem nmJ6 : ∀ a, a < 0 → ∀ b, b < 0 → a ≠ b → (TJ6 a).2.1 ≠ (TJ6 b).2.1 := by decide +kernel
theorem tyJ6_ok : ∀ k, k < 0 → parseFieldDescriptor (TJ6 k).2.2.1 = some (tyJ6 k) := by decide +kernel
abbrev cJ6_bitCount_0f7a4 : ByteArray := prog_11_method_49_code
def yJ6_bitCount_0f7a4 : MethodName := ⟨RJ6, "bitCount", "(I)I"⟩
def RJ9 : String := "java/lang/Math"
def TJ9 : u_T := fun k => match k with
  | _ => ("", "", "", false)
def tyJ9 : Nat → FieldType := fun k => match k with
  | _ => .int
theorem nmJ9 : ∀ a, a < 0 → ∀ b, b < 0 → a ≠ b → (TJ9 a).2.1 ≠ (TJ9 b).2.1 := by decide +kernel
theorem tyJ9_ok : ∀ k, k < 0 → parseFieldDescriptor (TJ9 k).2.2.1 = some (tyJ9 k) := by decide +kernel
abbrev cJ9_floorMod_7cf53 : ByteArray := prog_12_method_50_code
def yJ9_floorMod_7cf53 : MethodName := ⟨RJ9, "floorMod", "(II)I"⟩
abbrev cJ9_max_7cf53 : ByteArray := prog_12_method_65_code
def yJ9_max_7cf53 : MethodName := ⟨RJ9, "max", "(II)I"⟩
abbrev cJ9_min_7cf53 : ByteArray := prog_12_method_69_code
def yJ9_min_7cf53 : MethodName := ⟨RJ9, "min", "(II)I"⟩
def RJ10 : String := "java/lang/System"
def TJ10 : u_T := fun k => match k with
  | _ => ("", "", "", false)
def tyJ10 : Nat → FieldType := fun k => match k with
  | _ => .int
theorem nmJ10 : ∀ a, a < 0 → ∀ b, b < 0 → a ≠ b → (TJ10 a).2.1 ≠ (TJ10 b).2.1 := by decide +kernel
theorem tyJ10_ok : ∀ k, k < 0 → parseFieldDescriptor (TJ10 k).2.2.1 = some (tyJ10 k) := by decide +kernel
def RJ7 : String := "java/util/Arrays"
def TJ7 : u_T := fun k => match k with
  | _ => ("", "", "", false)
def tyJ7 : Nat → FieldType := fun k => match k with
  | _ => .int
theorem nmJ7 : ∀ a, a < 0 → ∀ b, b < 0 → a ≠ b → (TJ7 a).2.1 ≠ (TJ7 b).2.1 := by decide +kernel
theorem tyJ7_ok : ∀ k, k < 0 → parseFieldDescriptor (TJ7 k).2.2.1 = some (tyJ7 k) := by decide +kernel
abbrev cJ7_fill_53178 : ByteArray := prog_14_method_103_code
def yJ7_fill_53178 : MethodName := ⟨RJ7, "fill", "([II)V"⟩
def RL : String := "LastSentenceLaw"
abbrev cL_law : ByteArray := code
def yL_law : MethodName := ⟨RL, "law", "([I)Z"⟩
abbrev vwCl : List vw_C := [(RX0, TX0, 3), (RX1, TX1, 13), (RX2, TX2, 8), (RX3, TX3, 4), (RX4, TX4, 3), (RX5, TX5, 5), (RX6, TX6, 3), (RX7, TX7, 13), (RX8, TX8, 39)]
end
section
theorem dX0_init_0 : decode cX0_init 0 = .ok (.aload_n 0, 1) := by decide +kernel
theorem dX0_init_1 : decode cX0_init 1 = .ok (.invokespecial 3, 3) := by decide +kernel
theorem dX0_init_4 : decode cX0_init 4 = .ok (.aload_n 0, 1) := by decide +kernel
theorem dX0_init_5 : decode cX0_init 5 = .ok (.iconst 0, 1) := by decide +kernel
theorem dX0_init_6 : decode cX0_init 6 = .ok (.putfield 9, 3) := by decide +kernel
theorem dX0_init_9 : decode cX0_init 9 = .ok (.aload_n 0, 1) := by decide +kernel
theorem dX0_init_10 : decode cX0_init 10 = .ok (.bipush 20, 2) := by decide +kernel
theorem dX0_init_12 : decode cX0_init 12 = .ok (.newarray .int, 2) := by decide +kernel
theorem dX0_init_14 : decode cX0_init 14 = .ok (.putfield 15, 3) := by decide +kernel
theorem dX0_init_17 : decode cX0_init 17 = .ok (.aload_n 0, 1) := by decide +kernel
theorem dX0_init_18 : decode cX0_init 18 = .ok (.bipush 20, 2) := by decide +kernel
theorem dX0_init_20 : decode cX0_init 20 = .ok (.newarray .int, 2) := by decide +kernel
theorem dX0_init_22 : decode cX0_init 22 = .ok (.putfield 19, 3) := by decide +kernel
theorem dX0_init_25 : decode cX0_init 25 = .ok (.return_, 1) := by decide +kernel
theorem dX0_append_0 : decode cX0_append 0 = .ok (.aload_n 0, 1) := by decide +kernel
theorem dX0_append_1 : decode cX0_append 1 = .ok (.getfield 9, 3) := by decide +kernel
theorem dX0_append_4 : decode cX0_append 4 = .ok (.bipush 20, 2) := by decide +kernel
theorem dX0_append_6 : decode cX0_append 6 = .ok (.if_icmp .lt 5, 3) := by decide +kernel
theorem dX0_append_9 : decode cX0_append 9 = .ok (.iconst 0, 1) := by decide +kernel
theorem dX0_append_10 : decode cX0_append 10 = .ok (.ireturn, 1) := by decide +kernel
theorem dX0_append_11 : decode cX0_append 11 = .ok (.aload_n 0, 1) := by decide +kernel
theorem dX0_append_12 : decode cX0_append 12 = .ok (.getfield 15, 3) := by decide +kernel
theorem dX0_append_15 : decode cX0_append 15 = .ok (.aload_n 0, 1) := by decide +kernel
theorem dX0_append_16 : decode cX0_append 16 = .ok (.getfield 9, 3) := by decide +kernel
theorem dX0_append_19 : decode cX0_append 19 = .ok (.iload_n 1, 1) := by decide +kernel
theorem dX0_append_20 : decode cX0_append 20 = .ok (.iastore, 1) := by decide +kernel
theorem dX0_append_21 : decode cX0_append 21 = .ok (.aload_n 0, 1) := by decide +kernel
theorem dX0_append_22 : decode cX0_append 22 = .ok (.getfield 19, 3) := by decide +kernel
theorem dX0_append_25 : decode cX0_append 25 = .ok (.aload_n 0, 1) := by decide +kernel
theorem dX0_append_26 : decode cX0_append 26 = .ok (.getfield 9, 3) := by decide +kernel
theorem dX0_append_29 : decode cX0_append 29 = .ok (.iload_n 2, 1) := by decide +kernel
theorem dX0_append_30 : decode cX0_append 30 = .ok (.iastore, 1) := by decide +kernel
theorem dX0_append_31 : decode cX0_append 31 = .ok (.aload_n 0, 1) := by decide +kernel
theorem dX0_append_32 : decode cX0_append 32 = .ok (.dup, 1) := by decide +kernel
theorem dX0_append_33 : decode cX0_append 33 = .ok (.getfield 9, 3) := by decide +kernel
theorem dX0_append_36 : decode cX0_append 36 = .ok (.iconst 1, 1) := by decide +kernel
theorem dX0_append_37 : decode cX0_append 37 = .ok (.iadd, 1) := by decide +kernel
theorem dX0_append_38 : decode cX0_append 38 = .ok (.putfield 9, 3) := by decide +kernel
theorem dX0_append_41 : decode cX0_append 41 = .ok (.iconst 1, 1) := by decide +kernel
theorem dX0_append_42 : decode cX0_append 42 = .ok (.ireturn, 1) := by decide +kernel
theorem dX0_firstWrong_0 : decode cX0_firstWrong 0 = .ok (.iconst 0, 1) := by decide +kernel
theorem dX0_firstWrong_1 : decode cX0_firstWrong 1 = .ok (.istore_n 2, 1) := by decide +kernel
theorem dX0_firstWrong_2 : decode cX0_firstWrong 2 = .ok (.iload_n 2, 1) := by decide +kernel
theorem dX0_firstWrong_3 : decode cX0_firstWrong 3 = .ok (.aload_n 0, 1) := by decide +kernel
theorem dX0_firstWrong_4 : decode cX0_firstWrong 4 = .ok (.getfield 9, 3) := by decide +kernel
theorem dX0_firstWrong_7 : decode cX0_firstWrong 7 = .ok (.if_icmp .ge 31, 3) := by decide +kernel
theorem dX0_firstWrong_10 : decode cX0_firstWrong 10 = .ok (.aload_n 1, 1) := by decide +kernel
theorem dX0_firstWrong_11 : decode cX0_firstWrong 11 = .ok (.getfield 22, 3) := by decide +kernel
theorem dX0_firstWrong_14 : decode cX0_firstWrong 14 = .ok (.aload_n 0, 1) := by decide +kernel
theorem dX0_firstWrong_15 : decode cX0_firstWrong 15 = .ok (.getfield 15, 3) := by decide +kernel
theorem dX0_firstWrong_18 : decode cX0_firstWrong 18 = .ok (.iload_n 2, 1) := by decide +kernel
theorem dX0_firstWrong_19 : decode cX0_firstWrong 19 = .ok (.iaload, 1) := by decide +kernel
theorem dX0_firstWrong_20 : decode cX0_firstWrong 20 = .ok (.iaload, 1) := by decide +kernel
theorem dX0_firstWrong_21 : decode cX0_firstWrong 21 = .ok (.aload_n 0, 1) := by decide +kernel
theorem dX0_firstWrong_22 : decode cX0_firstWrong 22 = .ok (.getfield 19, 3) := by decide +kernel
theorem dX0_firstWrong_25 : decode cX0_firstWrong 25 = .ok (.iload_n 2, 1) := by decide +kernel
theorem dX0_firstWrong_26 : decode cX0_firstWrong 26 = .ok (.iaload, 1) := by decide +kernel
theorem dX0_firstWrong_27 : decode cX0_firstWrong 27 = .ok (.if_icmp .eq 5, 3) := by decide +kernel
theorem dX0_firstWrong_30 : decode cX0_firstWrong 30 = .ok (.iload_n 2, 1) := by decide +kernel
theorem dX0_firstWrong_31 : decode cX0_firstWrong 31 = .ok (.ireturn, 1) := by decide +kernel
theorem dX0_firstWrong_32 : decode cX0_firstWrong 32 = .ok (.iinc 2 1, 3) := by decide +kernel
theorem dX0_firstWrong_35 : decode cX0_firstWrong 35 = .ok (.goto (-33), 3) := by decide +kernel
theorem dX0_firstWrong_38 : decode cX0_firstWrong 38 = .ok (.iconst (-1), 1) := by decide +kernel
theorem dX0_firstWrong_39 : decode cX0_firstWrong 39 = .ok (.ireturn, 1) := by decide +kernel
theorem dX1_init_0 : decode cX1_init 0 = .ok (.aload_n 0, 1) := by decide +kernel
theorem dX1_init_1 : decode cX1_init 1 = .ok (.invokespecial 3, 3) := by decide +kernel
theorem dX1_init_4 : decode cX1_init 4 = .ok (.aload_n 0, 1) := by decide +kernel
theorem dX1_init_5 : decode cX1_init 5 = .ok (.iconst 0, 1) := by decide +kernel
theorem dX1_init_6 : decode cX1_init 6 = .ok (.putfield 9, 3) := by decide +kernel
theorem dX1_init_9 : decode cX1_init 9 = .ok (.aload_n 0, 1) := by decide +kernel
theorem dX1_init_10 : decode cX1_init 10 = .ok (.iconst 0, 1) := by decide +kernel
theorem dX1_init_11 : decode cX1_init 11 = .ok (.putfield 15, 3) := by decide +kernel
theorem dX1_init_14 : decode cX1_init 14 = .ok (.aload_n 0, 1) := by decide +kernel
theorem dX1_init_15 : decode cX1_init 15 = .ok (.iconst 0, 1) := by decide +kernel
theorem dX1_init_16 : decode cX1_init 16 = .ok (.putfield 18, 3) := by decide +kernel
theorem dX1_init_19 : decode cX1_init 19 = .ok (.aload_n 0, 1) := by decide +kernel
theorem dX1_init_20 : decode cX1_init 20 = .ok (.iconst 0, 1) := by decide +kernel
theorem dX1_init_21 : decode cX1_init 21 = .ok (.putfield 21, 3) := by decide +kernel
theorem dX1_init_24 : decode cX1_init 24 = .ok (.aload_n 0, 1) := by decide +kernel
theorem dX1_init_25 : decode cX1_init 25 = .ok (.bipush 6, 2) := by decide +kernel
theorem dX1_init_27 : decode cX1_init 27 = .ok (.newarray .int, 2) := by decide +kernel
theorem dX1_init_29 : decode cX1_init 29 = .ok (.putfield 24, 3) := by decide +kernel
theorem dX1_init_32 : decode cX1_init 32 = .ok (.aload_n 0, 1) := by decide +kernel
theorem dX1_init_33 : decode cX1_init 33 = .ok (.bipush 8, 2) := by decide +kernel
theorem dX1_init_35 : decode cX1_init 35 = .ok (.newarray .int, 2) := by decide +kernel
theorem dX1_init_37 : decode cX1_init 37 = .ok (.putfield 28, 3) := by decide +kernel
theorem dX1_init_40 : decode cX1_init 40 = .ok (.aload_n 0, 1) := by decide +kernel
theorem dX1_init_41 : decode cX1_init 41 = .ok (.bipush 8, 2) := by decide +kernel
theorem dX1_init_43 : decode cX1_init 43 = .ok (.newarray .int, 2) := by decide +kernel
theorem dX1_init_45 : decode cX1_init 45 = .ok (.putfield 31, 3) := by decide +kernel
theorem dX1_init_48 : decode cX1_init 48 = .ok (.aload_n 0, 1) := by decide +kernel
theorem dX1_init_49 : decode cX1_init 49 = .ok (.bipush 8, 2) := by decide +kernel
theorem dX1_init_51 : decode cX1_init 51 = .ok (.newarray .int, 2) := by decide +kernel
theorem dX1_init_53 : decode cX1_init 53 = .ok (.putfield 34, 3) := by decide +kernel
theorem dX1_init_56 : decode cX1_init 56 = .ok (.aload_n 0, 1) := by decide +kernel
theorem dX1_init_57 : decode cX1_init 57 = .ok (.bipush 6, 2) := by decide +kernel
theorem dX1_init_59 : decode cX1_init 59 = .ok (.newarray .int, 2) := by decide +kernel
theorem dX1_init_61 : decode cX1_init 61 = .ok (.putfield 37, 3) := by decide +kernel
theorem dX1_init_64 : decode cX1_init 64 = .ok (.aload_n 0, 1) := by decide +kernel
theorem dX1_init_65 : decode cX1_init 65 = .ok (.bipush 6, 2) := by decide +kernel
theorem dX1_init_67 : decode cX1_init 67 = .ok (.newarray .int, 2) := by decide +kernel
theorem dX1_init_69 : decode cX1_init 69 = .ok (.putfield 40, 3) := by decide +kernel
theorem dX1_init_72 : decode cX1_init 72 = .ok (.aload_n 0, 1) := by decide +kernel
theorem dX1_init_73 : decode cX1_init 73 = .ok (.bipush 6, 2) := by decide +kernel
theorem dX1_init_75 : decode cX1_init 75 = .ok (.newarray .int, 2) := by decide +kernel
theorem dX1_init_77 : decode cX1_init 77 = .ok (.putfield 43, 3) := by decide +kernel
theorem dX1_init_80 : decode cX1_init 80 = .ok (.aload_n 0, 1) := by decide +kernel
theorem dX1_init_81 : decode cX1_init 81 = .ok (.bipush 6, 2) := by decide +kernel
theorem dX1_init_83 : decode cX1_init 83 = .ok (.bipush 6, 2) := by decide +kernel
theorem dX1_init_85 : decode cX1_init 85 = .ok (.multianewarray 46 2, 4) := by decide +kernel
theorem dX1_init_89 : decode cX1_init 89 = .ok (.putfield 48, 3) := by decide +kernel
theorem dX1_init_92 : decode cX1_init 92 = .ok (.aload_n 0, 1) := by decide +kernel
theorem dX1_init_93 : decode cX1_init 93 = .ok (.bipush 6, 2) := by decide +kernel
theorem dX1_init_95 : decode cX1_init 95 = .ok (.bipush 6, 2) := by decide +kernel
theorem dX1_init_97 : decode cX1_init 97 = .ok (.multianewarray 46 2, 4) := by decide +kernel
theorem dX1_init_101 : decode cX1_init 101 = .ok (.putfield 51, 3) := by decide +kernel
theorem dX1_init_104 : decode cX1_init 104 = .ok (.return_, 1) := by decide +kernel
theorem dX1_empty_0 : decode cX1_empty 0 = .ok (.aload_n 0, 1) := by decide +kernel
theorem dX1_empty_1 : decode cX1_empty 1 = .ok (.iconst 0, 1) := by decide +kernel
theorem dX1_empty_2 : decode cX1_empty 2 = .ok (.putfield 9, 3) := by decide +kernel
theorem dX1_empty_5 : decode cX1_empty 5 = .ok (.aload_n 0, 1) := by decide +kernel
theorem dX1_empty_6 : decode cX1_empty 6 = .ok (.iconst 0, 1) := by decide +kernel
theorem dX1_empty_7 : decode cX1_empty 7 = .ok (.putfield 15, 3) := by decide +kernel
theorem dX1_empty_10 : decode cX1_empty 10 = .ok (.aload_n 0, 1) := by decide +kernel
theorem dX1_empty_11 : decode cX1_empty 11 = .ok (.iconst 0, 1) := by decide +kernel
theorem dX1_empty_12 : decode cX1_empty 12 = .ok (.putfield 18, 3) := by decide +kernel
theorem dX1_empty_15 : decode cX1_empty 15 = .ok (.aload_n 0, 1) := by decide +kernel
theorem dX1_empty_16 : decode cX1_empty 16 = .ok (.iconst 0, 1) := by decide +kernel
theorem dX1_empty_17 : decode cX1_empty 17 = .ok (.putfield 21, 3) := by decide +kernel
theorem dX1_empty_20 : decode cX1_empty 20 = .ok (.return_, 1) := by decide +kernel
theorem dX1_addRoom_0 : decode cX1_addRoom 0 = .ok (.aload_n 0, 1) := by decide +kernel
theorem dX1_addRoom_1 : decode cX1_addRoom 1 = .ok (.getfield 15, 3) := by decide +kernel
theorem dX1_addRoom_4 : decode cX1_addRoom 4 = .ok (.bipush 6, 2) := by decide +kernel
theorem dX1_addRoom_6 : decode cX1_addRoom 6 = .ok (.if_icmp .ge 23, 3) := by decide +kernel
theorem dX1_addRoom_9 : decode cX1_addRoom 9 = .ok (.aload_n 0, 1) := by decide +kernel
theorem dX1_addRoom_10 : decode cX1_addRoom 10 = .ok (.getfield 24, 3) := by decide +kernel
theorem dX1_addRoom_13 : decode cX1_addRoom 13 = .ok (.aload_n 0, 1) := by decide +kernel
theorem dX1_addRoom_14 : decode cX1_addRoom 14 = .ok (.getfield 15, 3) := by decide +kernel
theorem dX1_addRoom_17 : decode cX1_addRoom 17 = .ok (.iload_n 1, 1) := by decide +kernel
theorem dX1_addRoom_18 : decode cX1_addRoom 18 = .ok (.iastore, 1) := by decide +kernel
theorem dX1_addRoom_19 : decode cX1_addRoom 19 = .ok (.aload_n 0, 1) := by decide +kernel
theorem dX1_addRoom_20 : decode cX1_addRoom 20 = .ok (.dup, 1) := by decide +kernel
theorem dX1_addRoom_21 : decode cX1_addRoom 21 = .ok (.getfield 15, 3) := by decide +kernel
theorem dX1_addRoom_24 : decode cX1_addRoom 24 = .ok (.iconst 1, 1) := by decide +kernel
theorem dX1_addRoom_25 : decode cX1_addRoom 25 = .ok (.iadd, 1) := by decide +kernel
theorem dX1_addRoom_26 : decode cX1_addRoom 26 = .ok (.putfield 15, 3) := by decide +kernel
theorem dX1_addRoom_29 : decode cX1_addRoom 29 = .ok (.return_, 1) := by decide +kernel
theorem dX1_addDoor_0 : decode cX1_addDoor 0 = .ok (.aload_n 0, 1) := by decide +kernel
theorem dX1_addDoor_1 : decode cX1_addDoor 1 = .ok (.getfield 18, 3) := by decide +kernel
theorem dX1_addDoor_4 : decode cX1_addDoor 4 = .ok (.bipush 8, 2) := by decide +kernel
theorem dX1_addDoor_6 : decode cX1_addDoor 6 = .ok (.if_icmp .ge 43, 3) := by decide +kernel
theorem dX1_addDoor_9 : decode cX1_addDoor 9 = .ok (.aload_n 0, 1) := by decide +kernel
theorem dX1_addDoor_10 : decode cX1_addDoor 10 = .ok (.getfield 28, 3) := by decide +kernel
theorem dX1_addDoor_13 : decode cX1_addDoor 13 = .ok (.aload_n 0, 1) := by decide +kernel
theorem dX1_addDoor_14 : decode cX1_addDoor 14 = .ok (.getfield 18, 3) := by decide +kernel
theorem dX1_addDoor_17 : decode cX1_addDoor 17 = .ok (.iload_n 1, 1) := by decide +kernel
theorem dX1_addDoor_18 : decode cX1_addDoor 18 = .ok (.iastore, 1) := by decide +kernel
theorem dX1_addDoor_19 : decode cX1_addDoor 19 = .ok (.aload_n 0, 1) := by decide +kernel
theorem dX1_addDoor_20 : decode cX1_addDoor 20 = .ok (.getfield 31, 3) := by decide +kernel
theorem dX1_addDoor_23 : decode cX1_addDoor 23 = .ok (.aload_n 0, 1) := by decide +kernel
theorem dX1_addDoor_24 : decode cX1_addDoor 24 = .ok (.getfield 18, 3) := by decide +kernel
theorem dX1_addDoor_27 : decode cX1_addDoor 27 = .ok (.iload_n 2, 1) := by decide +kernel
theorem dX1_addDoor_28 : decode cX1_addDoor 28 = .ok (.iastore, 1) := by decide +kernel
theorem dX1_addDoor_29 : decode cX1_addDoor 29 = .ok (.aload_n 0, 1) := by decide +kernel
theorem dX1_addDoor_30 : decode cX1_addDoor 30 = .ok (.getfield 34, 3) := by decide +kernel
theorem dX1_addDoor_33 : decode cX1_addDoor 33 = .ok (.aload_n 0, 1) := by decide +kernel
theorem dX1_addDoor_34 : decode cX1_addDoor 34 = .ok (.getfield 18, 3) := by decide +kernel
theorem dX1_addDoor_37 : decode cX1_addDoor 37 = .ok (.iload_n 3, 1) := by decide +kernel
theorem dX1_addDoor_38 : decode cX1_addDoor 38 = .ok (.iastore, 1) := by decide +kernel
theorem dX1_addDoor_39 : decode cX1_addDoor 39 = .ok (.aload_n 0, 1) := by decide +kernel
theorem dX1_addDoor_40 : decode cX1_addDoor 40 = .ok (.dup, 1) := by decide +kernel
theorem dX1_addDoor_41 : decode cX1_addDoor 41 = .ok (.getfield 18, 3) := by decide +kernel
theorem dX1_addDoor_44 : decode cX1_addDoor 44 = .ok (.iconst 1, 1) := by decide +kernel
theorem dX1_addDoor_45 : decode cX1_addDoor 45 = .ok (.iadd, 1) := by decide +kernel
theorem dX1_addDoor_46 : decode cX1_addDoor 46 = .ok (.putfield 18, 3) := by decide +kernel
theorem dX1_addDoor_49 : decode cX1_addDoor 49 = .ok (.return_, 1) := by decide +kernel
theorem dX1_addHeir_0 : decode cX1_addHeir 0 = .ok (.aload_n 0, 1) := by decide +kernel
theorem dX1_addHeir_1 : decode cX1_addHeir 1 = .ok (.getfield 21, 3) := by decide +kernel
theorem dX1_addHeir_4 : decode cX1_addHeir 4 = .ok (.bipush 6, 2) := by decide +kernel
theorem dX1_addHeir_6 : decode cX1_addHeir 6 = .ok (.if_icmp .ge 43, 3) := by decide +kernel
theorem dX1_addHeir_9 : decode cX1_addHeir 9 = .ok (.aload_n 0, 1) := by decide +kernel
theorem dX1_addHeir_10 : decode cX1_addHeir 10 = .ok (.getfield 37, 3) := by decide +kernel
theorem dX1_addHeir_13 : decode cX1_addHeir 13 = .ok (.aload_n 0, 1) := by decide +kernel
theorem dX1_addHeir_14 : decode cX1_addHeir 14 = .ok (.getfield 21, 3) := by decide +kernel
theorem dX1_addHeir_17 : decode cX1_addHeir 17 = .ok (.iload_n 1, 1) := by decide +kernel
theorem dX1_addHeir_18 : decode cX1_addHeir 18 = .ok (.iastore, 1) := by decide +kernel
theorem dX1_addHeir_19 : decode cX1_addHeir 19 = .ok (.aload_n 0, 1) := by decide +kernel
theorem dX1_addHeir_20 : decode cX1_addHeir 20 = .ok (.getfield 40, 3) := by decide +kernel
theorem dX1_addHeir_23 : decode cX1_addHeir 23 = .ok (.aload_n 0, 1) := by decide +kernel
theorem dX1_addHeir_24 : decode cX1_addHeir 24 = .ok (.getfield 21, 3) := by decide +kernel
theorem dX1_addHeir_27 : decode cX1_addHeir 27 = .ok (.iload_n 2, 1) := by decide +kernel
theorem dX1_addHeir_28 : decode cX1_addHeir 28 = .ok (.iastore, 1) := by decide +kernel
theorem dX1_addHeir_29 : decode cX1_addHeir 29 = .ok (.aload_n 0, 1) := by decide +kernel
theorem dX1_addHeir_30 : decode cX1_addHeir 30 = .ok (.getfield 43, 3) := by decide +kernel
theorem dX1_addHeir_33 : decode cX1_addHeir 33 = .ok (.aload_n 0, 1) := by decide +kernel
theorem dX1_addHeir_34 : decode cX1_addHeir 34 = .ok (.getfield 21, 3) := by decide +kernel
theorem dX1_addHeir_37 : decode cX1_addHeir 37 = .ok (.iload_n 3, 1) := by decide +kernel
theorem dX1_addHeir_38 : decode cX1_addHeir 38 = .ok (.iastore, 1) := by decide +kernel
theorem dX1_addHeir_39 : decode cX1_addHeir 39 = .ok (.aload_n 0, 1) := by decide +kernel
theorem dX1_addHeir_40 : decode cX1_addHeir 40 = .ok (.dup, 1) := by decide +kernel
theorem dX1_addHeir_41 : decode cX1_addHeir 41 = .ok (.getfield 21, 3) := by decide +kernel
theorem dX1_addHeir_44 : decode cX1_addHeir 44 = .ok (.iconst 1, 1) := by decide +kernel
theorem dX1_addHeir_45 : decode cX1_addHeir 45 = .ok (.iadd, 1) := by decide +kernel
theorem dX1_addHeir_46 : decode cX1_addHeir 46 = .ok (.putfield 21, 3) := by decide +kernel
theorem dX1_addHeir_49 : decode cX1_addHeir 49 = .ok (.return_, 1) := by decide +kernel
theorem dX1_hasRoom_0 : decode cX1_hasRoom 0 = .ok (.iload_n 1, 1) := by decide +kernel
theorem dX1_hasRoom_1 : decode cX1_hasRoom 1 = .ok (.ifCond .lt 15, 3) := by decide +kernel
theorem dX1_hasRoom_4 : decode cX1_hasRoom 4 = .ok (.iload_n 1, 1) := by decide +kernel
theorem dX1_hasRoom_5 : decode cX1_hasRoom 5 = .ok (.aload_n 0, 1) := by decide +kernel
theorem dX1_hasRoom_6 : decode cX1_hasRoom 6 = .ok (.getfield 15, 3) := by decide +kernel
theorem dX1_hasRoom_9 : decode cX1_hasRoom 9 = .ok (.if_icmp .ge 7, 3) := by decide +kernel
theorem dX1_hasRoom_12 : decode cX1_hasRoom 12 = .ok (.iconst 1, 1) := by decide +kernel
theorem dX1_hasRoom_13 : decode cX1_hasRoom 13 = .ok (.goto 4, 3) := by decide +kernel
theorem dX1_hasRoom_16 : decode cX1_hasRoom 16 = .ok (.iconst 0, 1) := by decide +kernel
theorem dX1_hasRoom_17 : decode cX1_hasRoom 17 = .ok (.ireturn, 1) := by decide +kernel
theorem dX1_hasRooms_0 : decode cX1_hasRooms 0 = .ok (.iload_n 1, 1) := by decide +kernel
theorem dX1_hasRooms_1 : decode cX1_hasRooms 1 = .ok (.ifCond .lt 17, 3) := by decide +kernel
theorem dX1_hasRooms_4 : decode cX1_hasRooms 4 = .ok (.iload_n 1, 1) := by decide +kernel
theorem dX1_hasRooms_5 : decode cX1_hasRooms 5 = .ok (.iconst 1, 1) := by decide +kernel
theorem dX1_hasRooms_6 : decode cX1_hasRooms 6 = .ok (.aload_n 0, 1) := by decide +kernel
theorem dX1_hasRooms_7 : decode cX1_hasRooms 7 = .ok (.getfield 15, 3) := by decide +kernel
theorem dX1_hasRooms_10 : decode cX1_hasRooms 10 = .ok (.ishl, 1) := by decide +kernel
theorem dX1_hasRooms_11 : decode cX1_hasRooms 11 = .ok (.if_icmp .ge 7, 3) := by decide +kernel
theorem dX1_hasRooms_14 : decode cX1_hasRooms 14 = .ok (.iconst 1, 1) := by decide +kernel
theorem dX1_hasRooms_15 : decode cX1_hasRooms 15 = .ok (.goto 4, 3) := by decide +kernel
theorem dX1_hasRooms_18 : decode cX1_hasRooms 18 = .ok (.iconst 0, 1) := by decide +kernel
theorem dX1_hasRooms_19 : decode cX1_hasRooms 19 = .ok (.ireturn, 1) := by decide +kernel
theorem dX1_hasDoor_0 : decode cX1_hasDoor 0 = .ok (.iload_n 1, 1) := by decide +kernel
theorem dX1_hasDoor_1 : decode cX1_hasDoor 1 = .ok (.ifCond .lt 15, 3) := by decide +kernel
theorem dX1_hasDoor_4 : decode cX1_hasDoor 4 = .ok (.iload_n 1, 1) := by decide +kernel
theorem dX1_hasDoor_5 : decode cX1_hasDoor 5 = .ok (.aload_n 0, 1) := by decide +kernel
theorem dX1_hasDoor_6 : decode cX1_hasDoor 6 = .ok (.getfield 18, 3) := by decide +kernel
theorem dX1_hasDoor_9 : decode cX1_hasDoor 9 = .ok (.if_icmp .ge 7, 3) := by decide +kernel
theorem dX1_hasDoor_12 : decode cX1_hasDoor 12 = .ok (.iconst 1, 1) := by decide +kernel
theorem dX1_hasDoor_13 : decode cX1_hasDoor 13 = .ok (.goto 4, 3) := by decide +kernel
theorem dX1_hasDoor_16 : decode cX1_hasDoor 16 = .ok (.iconst 0, 1) := by decide +kernel
theorem dX1_hasDoor_17 : decode cX1_hasDoor 17 = .ok (.ireturn, 1) := by decide +kernel
theorem dX1_hasHeir_0 : decode cX1_hasHeir 0 = .ok (.iload_n 1, 1) := by decide +kernel
theorem dX1_hasHeir_1 : decode cX1_hasHeir 1 = .ok (.ifCond .lt 15, 3) := by decide +kernel
theorem dX1_hasHeir_4 : decode cX1_hasHeir 4 = .ok (.iload_n 1, 1) := by decide +kernel
theorem dX1_hasHeir_5 : decode cX1_hasHeir 5 = .ok (.aload_n 0, 1) := by decide +kernel
theorem dX1_hasHeir_6 : decode cX1_hasHeir 6 = .ok (.getfield 21, 3) := by decide +kernel
theorem dX1_hasHeir_9 : decode cX1_hasHeir 9 = .ok (.if_icmp .ge 7, 3) := by decide +kernel
theorem dX1_hasHeir_12 : decode cX1_hasHeir 12 = .ok (.iconst 1, 1) := by decide +kernel
theorem dX1_hasHeir_13 : decode cX1_hasHeir 13 = .ok (.goto 4, 3) := by decide +kernel
theorem dX1_hasHeir_16 : decode cX1_hasHeir 16 = .ok (.iconst 0, 1) := by decide +kernel
theorem dX1_hasHeir_17 : decode cX1_hasHeir 17 = .ok (.ireturn, 1) := by decide +kernel
theorem dX1_behind_0 : decode cX1_behind 0 = .ok (.aload_n 0, 1) := by decide +kernel
theorem dX1_behind_1 : decode cX1_behind 1 = .ok (.getfield 28, 3) := by decide +kernel
theorem dX1_behind_4 : decode cX1_behind 4 = .ok (.iload_n 1, 1) := by decide +kernel
theorem dX1_behind_5 : decode cX1_behind 5 = .ok (.iaload, 1) := by decide +kernel
theorem dX1_behind_6 : decode cX1_behind 6 = .ok (.iload_n 2, 1) := by decide +kernel
theorem dX1_behind_7 : decode cX1_behind 7 = .ok (.if_icmp .ne 10, 3) := by decide +kernel
theorem dX1_behind_10 : decode cX1_behind 10 = .ok (.aload_n 0, 1) := by decide +kernel
theorem dX1_behind_11 : decode cX1_behind 11 = .ok (.getfield 31, 3) := by decide +kernel
theorem dX1_behind_14 : decode cX1_behind 14 = .ok (.iload_n 1, 1) := by decide +kernel
theorem dX1_behind_15 : decode cX1_behind 15 = .ok (.iaload, 1) := by decide +kernel
theorem dX1_behind_16 : decode cX1_behind 16 = .ok (.ireturn, 1) := by decide +kernel
theorem dX1_behind_17 : decode cX1_behind 17 = .ok (.aload_n 0, 1) := by decide +kernel
theorem dX1_behind_18 : decode cX1_behind 18 = .ok (.getfield 31, 3) := by decide +kernel
theorem dX1_behind_21 : decode cX1_behind 21 = .ok (.iload_n 1, 1) := by decide +kernel
theorem dX1_behind_22 : decode cX1_behind 22 = .ok (.iaload, 1) := by decide +kernel
theorem dX1_behind_23 : decode cX1_behind 23 = .ok (.iload_n 2, 1) := by decide +kernel
theorem dX1_behind_24 : decode cX1_behind 24 = .ok (.if_icmp .ne 12, 3) := by decide +kernel
theorem dX1_behind_27 : decode cX1_behind 27 = .ok (.aload_n 0, 1) := by decide +kernel
theorem dX1_behind_28 : decode cX1_behind 28 = .ok (.getfield 28, 3) := by decide +kernel
theorem dX1_behind_31 : decode cX1_behind 31 = .ok (.iload_n 1, 1) := by decide +kernel
theorem dX1_behind_32 : decode cX1_behind 32 = .ok (.iaload, 1) := by decide +kernel
theorem dX1_behind_33 : decode cX1_behind 33 = .ok (.goto 4, 3) := by decide +kernel
theorem dX1_behind_36 : decode cX1_behind 36 = .ok (.iconst (-1), 1) := by decide +kernel
theorem dX1_behind_37 : decode cX1_behind 37 = .ok (.ireturn, 1) := by decide +kernel
theorem dX1_isEarly_0 : decode cX1_isEarly 0 = .ok (.iload_n 1, 1) := by decide +kernel
theorem dX1_isEarly_1 : decode cX1_isEarly 1 = .ok (.aload_n 0, 1) := by decide +kernel
theorem dX1_isEarly_2 : decode cX1_isEarly 2 = .ok (.getfield 9, 3) := by decide +kernel
theorem dX1_isEarly_5 : decode cX1_isEarly 5 = .ok (.iconst 2, 1) := by decide +kernel
theorem dX1_isEarly_6 : decode cX1_isEarly 6 = .ok (.idiv, 1) := by decide +kernel
theorem dX1_isEarly_7 : decode cX1_isEarly 7 = .ok (.if_icmp .ge 7, 3) := by decide +kernel
theorem dX1_isEarly_10 : decode cX1_isEarly 10 = .ok (.iconst 1, 1) := by decide +kernel
theorem dX1_isEarly_11 : decode cX1_isEarly 11 = .ok (.goto 4, 3) := by decide +kernel
theorem dX1_isEarly_14 : decode cX1_isEarly 14 = .ok (.iconst 0, 1) := by decide +kernel
theorem dX1_isEarly_15 : decode cX1_isEarly 15 = .ok (.ireturn, 1) := by decide +kernel
theorem dX1_nameOf_0 : decode cX1_nameOf 0 = .ok (.aload_n 0, 1) := by decide +kernel
theorem dX1_nameOf_1 : decode cX1_nameOf 1 = .ok (.getfield 37, 3) := by decide +kernel
theorem dX1_nameOf_4 : decode cX1_nameOf 4 = .ok (.iload_n 1, 1) := by decide +kernel
theorem dX1_nameOf_5 : decode cX1_nameOf 5 = .ok (.iaload, 1) := by decide +kernel
theorem dX1_nameOf_6 : decode cX1_nameOf 6 = .ok (.iconst 2, 1) := by decide +kernel
theorem dX1_nameOf_7 : decode cX1_nameOf 7 = .ok (.if_icmp .ne 12, 3) := by decide +kernel
theorem dX1_nameOf_10 : decode cX1_nameOf 10 = .ok (.iload_n 2, 1) := by decide +kernel
theorem dX1_nameOf_11 : decode cX1_nameOf 11 = .ok (.iconst 3, 1) := by decide +kernel
theorem dX1_nameOf_12 : decode cX1_nameOf 12 = .ok (.if_icmp .eq 7, 3) := by decide +kernel
theorem dX1_nameOf_15 : decode cX1_nameOf 15 = .ok (.iconst 0, 1) := by decide +kernel
theorem dX1_nameOf_16 : decode cX1_nameOf 16 = .ok (.goto 4, 3) := by decide +kernel
theorem dX1_nameOf_19 : decode cX1_nameOf 19 = .ok (.iload_n 1, 1) := by decide +kernel
theorem dX1_nameOf_20 : decode cX1_nameOf 20 = .ok (.ireturn, 1) := by decide +kernel
theorem dX1_isHeard_0 : decode cX1_isHeard 0 = .ok (.aload_n 0, 1) := by decide +kernel
theorem dX1_isHeard_1 : decode cX1_isHeard 1 = .ok (.getfield 48, 3) := by decide +kernel
theorem dX1_isHeard_4 : decode cX1_isHeard 4 = .ok (.iload_n 2, 1) := by decide +kernel
theorem dX1_isHeard_5 : decode cX1_isHeard 5 = .ok (.aaload, 1) := by decide +kernel
theorem dX1_isHeard_6 : decode cX1_isHeard 6 = .ok (.iload_n 3, 1) := by decide +kernel
theorem dX1_isHeard_7 : decode cX1_isHeard 7 = .ok (.iaload, 1) := by decide +kernel
theorem dX1_isHeard_8 : decode cX1_isHeard 8 = .ok (.aload_n 0, 1) := by decide +kernel
theorem dX1_isHeard_9 : decode cX1_isHeard 9 = .ok (.getfield 40, 3) := by decide +kernel
theorem dX1_isHeard_12 : decode cX1_isHeard 12 = .ok (.iload_n 1, 1) := by decide +kernel
theorem dX1_isHeard_13 : decode cX1_isHeard 13 = .ok (.iaload, 1) := by decide +kernel
theorem dX1_isHeard_14 : decode cX1_isHeard 14 = .ok (.if_icmp .ge 7, 3) := by decide +kernel
theorem dX1_isHeard_17 : decode cX1_isHeard 17 = .ok (.iconst 1, 1) := by decide +kernel
theorem dX1_isHeard_18 : decode cX1_isHeard 18 = .ok (.goto 4, 3) := by decide +kernel
theorem dX1_isHeard_21 : decode cX1_isHeard 21 = .ok (.iconst 0, 1) := by decide +kernel
theorem dX1_isHeard_22 : decode cX1_isHeard 22 = .ok (.ireturn, 1) := by decide +kernel
theorem dX1_heardFrom_0 : decode cX1_heardFrom 0 = .ok (.iconst 0, 1) := by decide +kernel
theorem dX1_heardFrom_1 : decode cX1_heardFrom 1 = .ok (.istore_n 3, 1) := by decide +kernel
theorem dX1_heardFrom_2 : decode cX1_heardFrom 2 = .ok (.iconst 0, 1) := by decide +kernel
theorem dX1_heardFrom_3 : decode cX1_heardFrom 3 = .ok (.istore 4, 2) := by decide +kernel
theorem dX1_heardFrom_5 : decode cX1_heardFrom 5 = .ok (.iload 4, 2) := by decide +kernel
theorem dX1_heardFrom_7 : decode cX1_heardFrom 7 = .ok (.aload_n 0, 1) := by decide +kernel
theorem dX1_heardFrom_8 : decode cX1_heardFrom 8 = .ok (.getfield 15, 3) := by decide +kernel
theorem dX1_heardFrom_11 : decode cX1_heardFrom 11 = .ok (.if_icmp .ge 27, 3) := by decide +kernel
theorem dX1_heardFrom_14 : decode cX1_heardFrom 14 = .ok (.aload_n 0, 1) := by decide +kernel
theorem dX1_heardFrom_15 : decode cX1_heardFrom 15 = .ok (.iload_n 1, 1) := by decide +kernel
theorem dX1_heardFrom_16 : decode cX1_heardFrom 16 = .ok (.iload_n 2, 1) := by decide +kernel
theorem dX1_heardFrom_17 : decode cX1_heardFrom 17 = .ok (.iload 4, 2) := by decide +kernel
theorem dX1_heardFrom_19 : decode cX1_heardFrom 19 = .ok (.invokevirtual 54, 3) := by decide +kernel
theorem dX1_heardFrom_22 : decode cX1_heardFrom 22 = .ok (.ifCond .eq 10, 3) := by decide +kernel
theorem dX1_heardFrom_25 : decode cX1_heardFrom 25 = .ok (.iload_n 3, 1) := by decide +kernel
theorem dX1_heardFrom_26 : decode cX1_heardFrom 26 = .ok (.iconst 1, 1) := by decide +kernel
theorem dX1_heardFrom_27 : decode cX1_heardFrom 27 = .ok (.iload 4, 2) := by decide +kernel
theorem dX1_heardFrom_29 : decode cX1_heardFrom 29 = .ok (.ishl, 1) := by decide +kernel
theorem dX1_heardFrom_30 : decode cX1_heardFrom 30 = .ok (.ior, 1) := by decide +kernel
theorem dX1_heardFrom_31 : decode cX1_heardFrom 31 = .ok (.istore_n 3, 1) := by decide +kernel
theorem dX1_heardFrom_32 : decode cX1_heardFrom 32 = .ok (.iinc 4 1, 3) := by decide +kernel
theorem dX1_heardFrom_35 : decode cX1_heardFrom 35 = .ok (.goto (-30), 3) := by decide +kernel
theorem dX1_heardFrom_38 : decode cX1_heardFrom 38 = .ok (.iload_n 3, 1) := by decide +kernel
theorem dX1_heardFrom_39 : decode cX1_heardFrom 39 = .ok (.ireturn, 1) := by decide +kernel
theorem dX1_measure_0 : decode cX1_measure 0 = .ok (.iconst 0, 1) := by decide +kernel
theorem dX1_measure_1 : decode cX1_measure 1 = .ok (.istore_n 1, 1) := by decide +kernel
theorem dX1_measure_2 : decode cX1_measure 2 = .ok (.iload_n 1, 1) := by decide +kernel
theorem dX1_measure_3 : decode cX1_measure 3 = .ok (.aload_n 0, 1) := by decide +kernel
theorem dX1_measure_4 : decode cX1_measure 4 = .ok (.getfield 15, 3) := by decide +kernel
theorem dX1_measure_7 : decode cX1_measure 7 = .ok (.if_icmp .ge 63, 3) := by decide +kernel
theorem dX1_measure_10 : decode cX1_measure 10 = .ok (.iconst 0, 1) := by decide +kernel
theorem dX1_measure_11 : decode cX1_measure 11 = .ok (.istore_n 2, 1) := by decide +kernel
theorem dX1_measure_12 : decode cX1_measure 12 = .ok (.iload_n 2, 1) := by decide +kernel
theorem dX1_measure_13 : decode cX1_measure 13 = .ok (.aload_n 0, 1) := by decide +kernel
theorem dX1_measure_14 : decode cX1_measure 14 = .ok (.getfield 15, 3) := by decide +kernel
theorem dX1_measure_17 : decode cX1_measure 17 = .ok (.if_icmp .ge 47, 3) := by decide +kernel
theorem dX1_measure_20 : decode cX1_measure 20 = .ok (.aload_n 0, 1) := by decide +kernel
theorem dX1_measure_21 : decode cX1_measure 21 = .ok (.getfield 48, 3) := by decide +kernel
theorem dX1_measure_24 : decode cX1_measure 24 = .ok (.iload_n 1, 1) := by decide +kernel
theorem dX1_measure_25 : decode cX1_measure 25 = .ok (.aaload, 1) := by decide +kernel
theorem dX1_measure_26 : decode cX1_measure 26 = .ok (.iload_n 2, 1) := by decide +kernel
theorem dX1_measure_27 : decode cX1_measure 27 = .ok (.iload_n 1, 1) := by decide +kernel
theorem dX1_measure_28 : decode cX1_measure 28 = .ok (.iload_n 2, 1) := by decide +kernel
theorem dX1_measure_29 : decode cX1_measure 29 = .ok (.if_icmp .ne 7, 3) := by decide +kernel
theorem dX1_measure_32 : decode cX1_measure 32 = .ok (.iconst 0, 1) := by decide +kernel
theorem dX1_measure_33 : decode cX1_measure 33 = .ok (.goto 5, 3) := by decide +kernel
theorem dX1_measure_36 : decode cX1_measure 36 = .ok (.bipush 99, 2) := by decide +kernel
theorem dX1_measure_38 : decode cX1_measure 38 = .ok (.iastore, 1) := by decide +kernel
theorem dX1_measure_39 : decode cX1_measure 39 = .ok (.aload_n 0, 1) := by decide +kernel
theorem dX1_measure_40 : decode cX1_measure 40 = .ok (.getfield 51, 3) := by decide +kernel
theorem dX1_measure_43 : decode cX1_measure 43 = .ok (.iload_n 1, 1) := by decide +kernel
theorem dX1_measure_44 : decode cX1_measure 44 = .ok (.aaload, 1) := by decide +kernel
theorem dX1_measure_45 : decode cX1_measure 45 = .ok (.iload_n 2, 1) := by decide +kernel
theorem dX1_measure_46 : decode cX1_measure 46 = .ok (.iload_n 1, 1) := by decide +kernel
theorem dX1_measure_47 : decode cX1_measure 47 = .ok (.iload_n 2, 1) := by decide +kernel
theorem dX1_measure_48 : decode cX1_measure 48 = .ok (.if_icmp .ne 7, 3) := by decide +kernel
theorem dX1_measure_51 : decode cX1_measure 51 = .ok (.iconst 0, 1) := by decide +kernel
theorem dX1_measure_52 : decode cX1_measure 52 = .ok (.goto 5, 3) := by decide +kernel
theorem dX1_measure_55 : decode cX1_measure 55 = .ok (.bipush 99, 2) := by decide +kernel
theorem dX1_measure_57 : decode cX1_measure 57 = .ok (.iastore, 1) := by decide +kernel
theorem dX1_measure_58 : decode cX1_measure 58 = .ok (.iinc 2 1, 3) := by decide +kernel
theorem dX1_measure_61 : decode cX1_measure 61 = .ok (.goto (-49), 3) := by decide +kernel
theorem dX1_measure_64 : decode cX1_measure 64 = .ok (.iinc 1 1, 3) := by decide +kernel
theorem dX1_measure_67 : decode cX1_measure 67 = .ok (.goto (-65), 3) := by decide +kernel
theorem dX1_measure_70 : decode cX1_measure 70 = .ok (.iconst 0, 1) := by decide +kernel
theorem dX1_measure_71 : decode cX1_measure 71 = .ok (.istore_n 1, 1) := by decide +kernel
theorem dX1_measure_72 : decode cX1_measure 72 = .ok (.iload_n 1, 1) := by decide +kernel
theorem dX1_measure_73 : decode cX1_measure 73 = .ok (.aload_n 0, 1) := by decide +kernel
theorem dX1_measure_74 : decode cX1_measure 74 = .ok (.getfield 18, 3) := by decide +kernel
theorem dX1_measure_77 : decode cX1_measure 77 = .ok (.if_icmp .ge 56, 3) := by decide +kernel
theorem dX1_measure_80 : decode cX1_measure 80 = .ok (.aload_n 0, 1) := by decide +kernel
theorem dX1_measure_81 : decode cX1_measure 81 = .ok (.aload_n 0, 1) := by decide +kernel
theorem dX1_measure_82 : decode cX1_measure 82 = .ok (.getfield 48, 3) := by decide +kernel
theorem dX1_measure_85 : decode cX1_measure 85 = .ok (.aload_n 0, 1) := by decide +kernel
theorem dX1_measure_86 : decode cX1_measure 86 = .ok (.getfield 28, 3) := by decide +kernel
theorem dX1_measure_89 : decode cX1_measure 89 = .ok (.iload_n 1, 1) := by decide +kernel
theorem dX1_measure_90 : decode cX1_measure 90 = .ok (.iaload, 1) := by decide +kernel
theorem dX1_measure_91 : decode cX1_measure 91 = .ok (.aload_n 0, 1) := by decide +kernel
theorem dX1_measure_92 : decode cX1_measure 92 = .ok (.getfield 31, 3) := by decide +kernel
theorem dX1_measure_95 : decode cX1_measure 95 = .ok (.iload_n 1, 1) := by decide +kernel
theorem dX1_measure_96 : decode cX1_measure 96 = .ok (.iaload, 1) := by decide +kernel
theorem dX1_measure_97 : decode cX1_measure 97 = .ok (.aload_n 0, 1) := by decide +kernel
theorem dX1_measure_98 : decode cX1_measure 98 = .ok (.getfield 34, 3) := by decide +kernel
theorem dX1_measure_101 : decode cX1_measure 101 = .ok (.iload_n 1, 1) := by decide +kernel
theorem dX1_measure_102 : decode cX1_measure 102 = .ok (.iaload, 1) := by decide +kernel
theorem dX1_measure_103 : decode cX1_measure 103 = .ok (.invokevirtual 58, 3) := by decide +kernel
theorem dX1_measure_106 : decode cX1_measure 106 = .ok (.aload_n 0, 1) := by decide +kernel
theorem dX1_measure_107 : decode cX1_measure 107 = .ok (.aload_n 0, 1) := by decide +kernel
theorem dX1_measure_108 : decode cX1_measure 108 = .ok (.getfield 51, 3) := by decide +kernel
theorem dX1_measure_111 : decode cX1_measure 111 = .ok (.aload_n 0, 1) := by decide +kernel
theorem dX1_measure_112 : decode cX1_measure 112 = .ok (.getfield 28, 3) := by decide +kernel
theorem dX1_measure_115 : decode cX1_measure 115 = .ok (.iload_n 1, 1) := by decide +kernel
theorem dX1_measure_116 : decode cX1_measure 116 = .ok (.iaload, 1) := by decide +kernel
theorem dX1_measure_117 : decode cX1_measure 117 = .ok (.aload_n 0, 1) := by decide +kernel
theorem dX1_measure_118 : decode cX1_measure 118 = .ok (.getfield 31, 3) := by decide +kernel
theorem dX1_measure_121 : decode cX1_measure 121 = .ok (.iload_n 1, 1) := by decide +kernel
theorem dX1_measure_122 : decode cX1_measure 122 = .ok (.iaload, 1) := by decide +kernel
theorem dX1_measure_123 : decode cX1_measure 123 = .ok (.iconst 1, 1) := by decide +kernel
theorem dX1_measure_124 : decode cX1_measure 124 = .ok (.invokevirtual 58, 3) := by decide +kernel
theorem dX1_measure_127 : decode cX1_measure 127 = .ok (.iinc 1 1, 3) := by decide +kernel
theorem dX1_measure_130 : decode cX1_measure 130 = .ok (.goto (-58), 3) := by decide +kernel
theorem dX1_measure_133 : decode cX1_measure 133 = .ok (.aload_n 0, 1) := by decide +kernel
theorem dX1_measure_134 : decode cX1_measure 134 = .ok (.aload_n 0, 1) := by decide +kernel
theorem dX1_measure_135 : decode cX1_measure 135 = .ok (.getfield 48, 3) := by decide +kernel
theorem dX1_measure_138 : decode cX1_measure 138 = .ok (.invokevirtual 62, 3) := by decide +kernel
theorem dX1_measure_141 : decode cX1_measure 141 = .ok (.aload_n 0, 1) := by decide +kernel
theorem dX1_measure_142 : decode cX1_measure 142 = .ok (.aload_n 0, 1) := by decide +kernel
theorem dX1_measure_143 : decode cX1_measure 143 = .ok (.getfield 51, 3) := by decide +kernel
theorem dX1_measure_146 : decode cX1_measure 146 = .ok (.invokevirtual 62, 3) := by decide +kernel
theorem dX1_measure_149 : decode cX1_measure 149 = .ok (.return_, 1) := by decide +kernel
theorem dX1_shorten_0 : decode cX1_shorten 0 = .ok (.iload 4, 2) := by decide +kernel
theorem dX1_shorten_2 : decode cX1_shorten 2 = .ok (.aload_n 1, 1) := by decide +kernel
theorem dX1_shorten_3 : decode cX1_shorten 3 = .ok (.iload_n 2, 1) := by decide +kernel
theorem dX1_shorten_4 : decode cX1_shorten 4 = .ok (.aaload, 1) := by decide +kernel
theorem dX1_shorten_5 : decode cX1_shorten 5 = .ok (.iload_n 3, 1) := by decide +kernel
theorem dX1_shorten_6 : decode cX1_shorten 6 = .ok (.iaload, 1) := by decide +kernel
theorem dX1_shorten_7 : decode cX1_shorten 7 = .ok (.if_icmp .ge 17, 3) := by decide +kernel
theorem dX1_shorten_10 : decode cX1_shorten 10 = .ok (.aload_n 1, 1) := by decide +kernel
theorem dX1_shorten_11 : decode cX1_shorten 11 = .ok (.iload_n 2, 1) := by decide +kernel
theorem dX1_shorten_12 : decode cX1_shorten 12 = .ok (.aaload, 1) := by decide +kernel
theorem dX1_shorten_13 : decode cX1_shorten 13 = .ok (.iload_n 3, 1) := by decide +kernel
theorem dX1_shorten_14 : decode cX1_shorten 14 = .ok (.iload 4, 2) := by decide +kernel
theorem dX1_shorten_16 : decode cX1_shorten 16 = .ok (.iastore, 1) := by decide +kernel
theorem dX1_shorten_17 : decode cX1_shorten 17 = .ok (.aload_n 1, 1) := by decide +kernel
theorem dX1_shorten_18 : decode cX1_shorten 18 = .ok (.iload_n 3, 1) := by decide +kernel
theorem dX1_shorten_19 : decode cX1_shorten 19 = .ok (.aaload, 1) := by decide +kernel
theorem dX1_shorten_20 : decode cX1_shorten 20 = .ok (.iload_n 2, 1) := by decide +kernel
theorem dX1_shorten_21 : decode cX1_shorten 21 = .ok (.iload 4, 2) := by decide +kernel
theorem dX1_shorten_23 : decode cX1_shorten 23 = .ok (.iastore, 1) := by decide +kernel
theorem dX1_shorten_24 : decode cX1_shorten 24 = .ok (.return_, 1) := by decide +kernel
theorem dX1_shortenByRoomsBetween_0 : decode cX1_shortenByRoomsBetween 0 = .ok (.iconst 0, 1) := by decide +kernel
theorem dX1_shortenByRoomsBetween_1 : decode cX1_shortenByRoomsBetween 1 = .ok (.istore_n 2, 1) := by decide +kernel
theorem dX1_shortenByRoomsBetween_2 : decode cX1_shortenByRoomsBetween 2 = .ok (.iload_n 2, 1) := by decide +kernel
theorem dX1_shortenByRoomsBetween_3 : decode cX1_shortenByRoomsBetween 3 = .ok (.aload_n 0, 1) := by decide +kernel
theorem dX1_shortenByRoomsBetween_4 : decode cX1_shortenByRoomsBetween 4 = .ok (.getfield 15, 3) := by decide +kernel
theorem dX1_shortenByRoomsBetween_7 : decode cX1_shortenByRoomsBetween 7 = .ok (.if_icmp .ge 63, 3) := by decide +kernel
theorem dX1_shortenByRoomsBetween_10 : decode cX1_shortenByRoomsBetween 10 = .ok (.iconst 0, 1) := by decide +kernel
theorem dX1_shortenByRoomsBetween_11 : decode cX1_shortenByRoomsBetween 11 = .ok (.istore_n 3, 1) := by decide +kernel
theorem dX1_shortenByRoomsBetween_12 : decode cX1_shortenByRoomsBetween 12 = .ok (.iload_n 3, 1) := by decide +kernel
theorem dX1_shortenByRoomsBetween_13 : decode cX1_shortenByRoomsBetween 13 = .ok (.aload_n 0, 1) := by decide +kernel
theorem dX1_shortenByRoomsBetween_14 : decode cX1_shortenByRoomsBetween 14 = .ok (.getfield 15, 3) := by decide +kernel
theorem dX1_shortenByRoomsBetween_17 : decode cX1_shortenByRoomsBetween 17 = .ok (.if_icmp .ge 47, 3) := by decide +kernel
theorem dX1_shortenByRoomsBetween_20 : decode cX1_shortenByRoomsBetween 20 = .ok (.iconst 0, 1) := by decide +kernel
theorem dX1_shortenByRoomsBetween_21 : decode cX1_shortenByRoomsBetween 21 = .ok (.istore 4, 2) := by decide +kernel
theorem dX1_shortenByRoomsBetween_23 : decode cX1_shortenByRoomsBetween 23 = .ok (.iload 4, 2) := by decide +kernel
theorem dX1_shortenByRoomsBetween_25 : decode cX1_shortenByRoomsBetween 25 = .ok (.aload_n 0, 1) := by decide +kernel
theorem dX1_shortenByRoomsBetween_26 : decode cX1_shortenByRoomsBetween 26 = .ok (.getfield 15, 3) := by decide +kernel
theorem dX1_shortenByRoomsBetween_29 : decode cX1_shortenByRoomsBetween 29 = .ok (.if_icmp .ge 29, 3) := by decide +kernel
theorem dX1_shortenByRoomsBetween_32 : decode cX1_shortenByRoomsBetween 32 = .ok (.aload_n 0, 1) := by decide +kernel
theorem dX1_shortenByRoomsBetween_33 : decode cX1_shortenByRoomsBetween 33 = .ok (.aload_n 1, 1) := by decide +kernel
theorem dX1_shortenByRoomsBetween_34 : decode cX1_shortenByRoomsBetween 34 = .ok (.iload_n 3, 1) := by decide +kernel
theorem dX1_shortenByRoomsBetween_35 : decode cX1_shortenByRoomsBetween 35 = .ok (.iload 4, 2) := by decide +kernel
theorem dX1_shortenByRoomsBetween_37 : decode cX1_shortenByRoomsBetween 37 = .ok (.aload_n 1, 1) := by decide +kernel
theorem dX1_shortenByRoomsBetween_38 : decode cX1_shortenByRoomsBetween 38 = .ok (.iload_n 3, 1) := by decide +kernel
theorem dX1_shortenByRoomsBetween_39 : decode cX1_shortenByRoomsBetween 39 = .ok (.aaload, 1) := by decide +kernel
theorem dX1_shortenByRoomsBetween_40 : decode cX1_shortenByRoomsBetween 40 = .ok (.iload_n 2, 1) := by decide +kernel
theorem dX1_shortenByRoomsBetween_41 : decode cX1_shortenByRoomsBetween 41 = .ok (.iaload, 1) := by decide +kernel
theorem dX1_shortenByRoomsBetween_42 : decode cX1_shortenByRoomsBetween 42 = .ok (.aload_n 1, 1) := by decide +kernel
theorem dX1_shortenByRoomsBetween_43 : decode cX1_shortenByRoomsBetween 43 = .ok (.iload_n 2, 1) := by decide +kernel
theorem dX1_shortenByRoomsBetween_44 : decode cX1_shortenByRoomsBetween 44 = .ok (.aaload, 1) := by decide +kernel
theorem dX1_shortenByRoomsBetween_45 : decode cX1_shortenByRoomsBetween 45 = .ok (.iload 4, 2) := by decide +kernel
theorem dX1_shortenByRoomsBetween_47 : decode cX1_shortenByRoomsBetween 47 = .ok (.iaload, 1) := by decide +kernel
theorem dX1_shortenByRoomsBetween_48 : decode cX1_shortenByRoomsBetween 48 = .ok (.iadd, 1) := by decide +kernel
theorem dX1_shortenByRoomsBetween_49 : decode cX1_shortenByRoomsBetween 49 = .ok (.invokevirtual 58, 3) := by decide +kernel
theorem dX1_shortenByRoomsBetween_52 : decode cX1_shortenByRoomsBetween 52 = .ok (.iinc 4 1, 3) := by decide +kernel
theorem dX1_shortenByRoomsBetween_55 : decode cX1_shortenByRoomsBetween 55 = .ok (.goto (-32), 3) := by decide +kernel
theorem dX1_shortenByRoomsBetween_58 : decode cX1_shortenByRoomsBetween 58 = .ok (.iinc 3 1, 3) := by decide +kernel
theorem dX1_shortenByRoomsBetween_61 : decode cX1_shortenByRoomsBetween 61 = .ok (.goto (-49), 3) := by decide +kernel
theorem dX1_shortenByRoomsBetween_64 : decode cX1_shortenByRoomsBetween 64 = .ok (.iinc 2 1, 3) := by decide +kernel
theorem dX1_shortenByRoomsBetween_67 : decode cX1_shortenByRoomsBetween 67 = .ok (.goto (-65), 3) := by decide +kernel
theorem dX1_shortenByRoomsBetween_70 : decode cX1_shortenByRoomsBetween 70 = .ok (.return_, 1) := by decide +kernel
theorem dX2_init_0 : decode cX2_init 0 = .ok (.aload_n 0, 1) := by decide +kernel
theorem dX2_init_1 : decode cX2_init 1 = .ok (.invokespecial 3, 3) := by decide +kernel
theorem dX2_init_4 : decode cX2_init 4 = .ok (.aload_n 0, 1) := by decide +kernel
theorem dX2_init_5 : decode cX2_init 5 = .ok (.iconst 0, 1) := by decide +kernel
theorem dX2_init_6 : decode cX2_init 6 = .ok (.putfield 9, 3) := by decide +kernel
theorem dX2_init_9 : decode cX2_init 9 = .ok (.aload_n 0, 1) := by decide +kernel
theorem dX2_init_10 : decode cX2_init 10 = .ok (.iconst 0, 1) := by decide +kernel
theorem dX2_init_11 : decode cX2_init 11 = .ok (.putfield 15, 3) := by decide +kernel
theorem dX2_init_14 : decode cX2_init 14 = .ok (.aload_n 0, 1) := by decide +kernel
theorem dX2_init_15 : decode cX2_init 15 = .ok (.iconst 0, 1) := by decide +kernel
theorem dX2_init_16 : decode cX2_init 16 = .ok (.putfield 18, 3) := by decide +kernel
theorem dX2_init_19 : decode cX2_init 19 = .ok (.aload_n 0, 1) := by decide +kernel
theorem dX2_init_20 : decode cX2_init 20 = .ok (.iconst 0, 1) := by decide +kernel
theorem dX2_init_21 : decode cX2_init 21 = .ok (.putfield 21, 3) := by decide +kernel
theorem dX2_init_24 : decode cX2_init 24 = .ok (.aload_n 0, 1) := by decide +kernel
theorem dX2_init_25 : decode cX2_init 25 = .ok (.bipush 6, 2) := by decide +kernel
theorem dX2_init_27 : decode cX2_init 27 = .ok (.newarray .int, 2) := by decide +kernel
theorem dX2_init_29 : decode cX2_init 29 = .ok (.putfield 24, 3) := by decide +kernel
theorem dX2_init_32 : decode cX2_init 32 = .ok (.aload_n 0, 1) := by decide +kernel
theorem dX2_init_33 : decode cX2_init 33 = .ok (.bipush 6, 2) := by decide +kernel
theorem dX2_init_35 : decode cX2_init 35 = .ok (.newarray .int, 2) := by decide +kernel
theorem dX2_init_37 : decode cX2_init 37 = .ok (.putfield 28, 3) := by decide +kernel
theorem dX2_init_40 : decode cX2_init 40 = .ok (.aload_n 0, 1) := by decide +kernel
theorem dX2_init_41 : decode cX2_init 41 = .ok (.bipush 6, 2) := by decide +kernel
theorem dX2_init_43 : decode cX2_init 43 = .ok (.newarray .int, 2) := by decide +kernel
theorem dX2_init_45 : decode cX2_init 45 = .ok (.putfield 31, 3) := by decide +kernel
theorem dX2_init_48 : decode cX2_init 48 = .ok (.aload_n 0, 1) := by decide +kernel
theorem dX2_init_49 : decode cX2_init 49 = .ok (.iconst 4, 1) := by decide +kernel
theorem dX2_init_50 : decode cX2_init 50 = .ok (.bipush 6, 2) := by decide +kernel
theorem dX2_init_52 : decode cX2_init 52 = .ok (.multianewarray 34 2, 4) := by decide +kernel
theorem dX2_init_56 : decode cX2_init 56 = .ok (.putfield 36, 3) := by decide +kernel
theorem dX2_init_59 : decode cX2_init 59 = .ok (.return_, 1) := by decide +kernel
theorem dX2_begin_0 : decode cX2_begin 0 = .ok (.aload_n 0, 1) := by decide +kernel
theorem dX2_begin_1 : decode cX2_begin 1 = .ok (.iconst 0, 1) := by decide +kernel
theorem dX2_begin_2 : decode cX2_begin 2 = .ok (.putfield 9, 3) := by decide +kernel
theorem dX2_begin_5 : decode cX2_begin 5 = .ok (.aload_n 0, 1) := by decide +kernel
theorem dX2_begin_6 : decode cX2_begin 6 = .ok (.iconst 0, 1) := by decide +kernel
theorem dX2_begin_7 : decode cX2_begin 7 = .ok (.putfield 15, 3) := by decide +kernel
theorem dX2_begin_10 : decode cX2_begin 10 = .ok (.aload_n 0, 1) := by decide +kernel
theorem dX2_begin_11 : decode cX2_begin 11 = .ok (.iconst 0, 1) := by decide +kernel
theorem dX2_begin_12 : decode cX2_begin 12 = .ok (.putfield 18, 3) := by decide +kernel
theorem dX2_begin_15 : decode cX2_begin 15 = .ok (.aload_n 1, 1) := by decide +kernel
theorem dX2_begin_16 : decode cX2_begin 16 = .ok (.getfield 39, 3) := by decide +kernel
theorem dX2_begin_19 : decode cX2_begin 19 = .ok (.iconst 0, 1) := by decide +kernel
theorem dX2_begin_20 : decode cX2_begin 20 = .ok (.aload_n 0, 1) := by decide +kernel
theorem dX2_begin_21 : decode cX2_begin 21 = .ok (.getfield 24, 3) := by decide +kernel
theorem dX2_begin_24 : decode cX2_begin 24 = .ok (.iconst 0, 1) := by decide +kernel
theorem dX2_begin_25 : decode cX2_begin 25 = .ok (.bipush 6, 2) := by decide +kernel
theorem dX2_begin_27 : decode cX2_begin 27 = .ok (.invokestatic 42, 3) := by decide +kernel
theorem dX2_begin_30 : decode cX2_begin 30 = .ok (.aload_n 1, 1) := by decide +kernel
theorem dX2_begin_31 : decode cX2_begin 31 = .ok (.getfield 48, 3) := by decide +kernel
theorem dX2_begin_34 : decode cX2_begin 34 = .ok (.iconst 0, 1) := by decide +kernel
theorem dX2_begin_35 : decode cX2_begin 35 = .ok (.aload_n 0, 1) := by decide +kernel
theorem dX2_begin_36 : decode cX2_begin 36 = .ok (.getfield 31, 3) := by decide +kernel
theorem dX2_begin_39 : decode cX2_begin 39 = .ok (.iconst 0, 1) := by decide +kernel
theorem dX2_begin_40 : decode cX2_begin 40 = .ok (.bipush 6, 2) := by decide +kernel
theorem dX2_begin_42 : decode cX2_begin 42 = .ok (.invokestatic 42, 3) := by decide +kernel
theorem dX2_begin_45 : decode cX2_begin 45 = .ok (.aload_n 0, 1) := by decide +kernel
theorem dX2_begin_46 : decode cX2_begin 46 = .ok (.getfield 28, 3) := by decide +kernel
theorem dX2_begin_49 : decode cX2_begin 49 = .ok (.iconst (-1), 1) := by decide +kernel
theorem dX2_begin_50 : decode cX2_begin 50 = .ok (.invokestatic 51, 3) := by decide +kernel
theorem dX2_begin_53 : decode cX2_begin 53 = .ok (.aload_n 0, 1) := by decide +kernel
theorem dX2_begin_54 : decode cX2_begin 54 = .ok (.invokevirtual 57, 3) := by decide +kernel
theorem dX2_begin_57 : decode cX2_begin 57 = .ok (.return_, 1) := by decide +kernel
theorem dX2_copyFrom_0 : decode cX2_copyFrom 0 = .ok (.aload_n 0, 1) := by decide +kernel
theorem dX2_copyFrom_1 : decode cX2_copyFrom 1 = .ok (.aload_n 1, 1) := by decide +kernel
theorem dX2_copyFrom_2 : decode cX2_copyFrom 2 = .ok (.getfield 9, 3) := by decide +kernel
theorem dX2_copyFrom_5 : decode cX2_copyFrom 5 = .ok (.putfield 9, 3) := by decide +kernel
theorem dX2_copyFrom_8 : decode cX2_copyFrom 8 = .ok (.aload_n 0, 1) := by decide +kernel
theorem dX2_copyFrom_9 : decode cX2_copyFrom 9 = .ok (.aload_n 1, 1) := by decide +kernel
theorem dX2_copyFrom_10 : decode cX2_copyFrom 10 = .ok (.getfield 15, 3) := by decide +kernel
theorem dX2_copyFrom_13 : decode cX2_copyFrom 13 = .ok (.putfield 15, 3) := by decide +kernel
theorem dX2_copyFrom_16 : decode cX2_copyFrom 16 = .ok (.aload_n 0, 1) := by decide +kernel
theorem dX2_copyFrom_17 : decode cX2_copyFrom 17 = .ok (.aload_n 1, 1) := by decide +kernel
theorem dX2_copyFrom_18 : decode cX2_copyFrom 18 = .ok (.getfield 18, 3) := by decide +kernel
theorem dX2_copyFrom_21 : decode cX2_copyFrom 21 = .ok (.putfield 18, 3) := by decide +kernel
theorem dX2_copyFrom_24 : decode cX2_copyFrom 24 = .ok (.aload_n 0, 1) := by decide +kernel
theorem dX2_copyFrom_25 : decode cX2_copyFrom 25 = .ok (.aload_n 1, 1) := by decide +kernel
theorem dX2_copyFrom_26 : decode cX2_copyFrom 26 = .ok (.getfield 21, 3) := by decide +kernel
theorem dX2_copyFrom_29 : decode cX2_copyFrom 29 = .ok (.putfield 21, 3) := by decide +kernel
theorem dX2_copyFrom_32 : decode cX2_copyFrom 32 = .ok (.aload_n 1, 1) := by decide +kernel
theorem dX2_copyFrom_33 : decode cX2_copyFrom 33 = .ok (.getfield 24, 3) := by decide +kernel
theorem dX2_copyFrom_36 : decode cX2_copyFrom 36 = .ok (.iconst 0, 1) := by decide +kernel
theorem dX2_copyFrom_37 : decode cX2_copyFrom 37 = .ok (.aload_n 0, 1) := by decide +kernel
theorem dX2_copyFrom_38 : decode cX2_copyFrom 38 = .ok (.getfield 24, 3) := by decide +kernel
theorem dX2_copyFrom_41 : decode cX2_copyFrom 41 = .ok (.iconst 0, 1) := by decide +kernel
theorem dX2_copyFrom_42 : decode cX2_copyFrom 42 = .ok (.bipush 6, 2) := by decide +kernel
theorem dX2_copyFrom_44 : decode cX2_copyFrom 44 = .ok (.invokestatic 42, 3) := by decide +kernel
theorem dX2_copyFrom_47 : decode cX2_copyFrom 47 = .ok (.aload_n 1, 1) := by decide +kernel
theorem dX2_copyFrom_48 : decode cX2_copyFrom 48 = .ok (.getfield 28, 3) := by decide +kernel
theorem dX2_copyFrom_51 : decode cX2_copyFrom 51 = .ok (.iconst 0, 1) := by decide +kernel
theorem dX2_copyFrom_52 : decode cX2_copyFrom 52 = .ok (.aload_n 0, 1) := by decide +kernel
theorem dX2_copyFrom_53 : decode cX2_copyFrom 53 = .ok (.getfield 28, 3) := by decide +kernel
theorem dX2_copyFrom_56 : decode cX2_copyFrom 56 = .ok (.iconst 0, 1) := by decide +kernel
theorem dX2_copyFrom_57 : decode cX2_copyFrom 57 = .ok (.bipush 6, 2) := by decide +kernel
theorem dX2_copyFrom_59 : decode cX2_copyFrom 59 = .ok (.invokestatic 42, 3) := by decide +kernel
theorem dX2_copyFrom_62 : decode cX2_copyFrom 62 = .ok (.aload_n 1, 1) := by decide +kernel
theorem dX2_copyFrom_63 : decode cX2_copyFrom 63 = .ok (.getfield 31, 3) := by decide +kernel
theorem dX2_copyFrom_66 : decode cX2_copyFrom 66 = .ok (.iconst 0, 1) := by decide +kernel
theorem dX2_copyFrom_67 : decode cX2_copyFrom 67 = .ok (.aload_n 0, 1) := by decide +kernel
theorem dX2_copyFrom_68 : decode cX2_copyFrom 68 = .ok (.getfield 31, 3) := by decide +kernel
theorem dX2_copyFrom_71 : decode cX2_copyFrom 71 = .ok (.iconst 0, 1) := by decide +kernel
theorem dX2_copyFrom_72 : decode cX2_copyFrom 72 = .ok (.bipush 6, 2) := by decide +kernel
theorem dX2_copyFrom_74 : decode cX2_copyFrom 74 = .ok (.invokestatic 42, 3) := by decide +kernel
theorem dX2_copyFrom_77 : decode cX2_copyFrom 77 = .ok (.iconst 0, 1) := by decide +kernel
theorem dX2_copyFrom_78 : decode cX2_copyFrom 78 = .ok (.istore_n 2, 1) := by decide +kernel
theorem dX2_copyFrom_79 : decode cX2_copyFrom 79 = .ok (.iload_n 2, 1) := by decide +kernel
theorem dX2_copyFrom_80 : decode cX2_copyFrom 80 = .ok (.iconst 4, 1) := by decide +kernel
theorem dX2_copyFrom_81 : decode cX2_copyFrom 81 = .ok (.if_icmp .ge 28, 3) := by decide +kernel
theorem dX2_copyFrom_84 : decode cX2_copyFrom 84 = .ok (.aload_n 1, 1) := by decide +kernel
theorem dX2_copyFrom_85 : decode cX2_copyFrom 85 = .ok (.getfield 36, 3) := by decide +kernel
theorem dX2_copyFrom_88 : decode cX2_copyFrom 88 = .ok (.iload_n 2, 1) := by decide +kernel
theorem dX2_copyFrom_89 : decode cX2_copyFrom 89 = .ok (.aaload, 1) := by decide +kernel
theorem dX2_copyFrom_90 : decode cX2_copyFrom 90 = .ok (.iconst 0, 1) := by decide +kernel
theorem dX2_copyFrom_91 : decode cX2_copyFrom 91 = .ok (.aload_n 0, 1) := by decide +kernel
theorem dX2_copyFrom_92 : decode cX2_copyFrom 92 = .ok (.getfield 36, 3) := by decide +kernel
theorem dX2_copyFrom_95 : decode cX2_copyFrom 95 = .ok (.iload_n 2, 1) := by decide +kernel
theorem dX2_copyFrom_96 : decode cX2_copyFrom 96 = .ok (.aaload, 1) := by decide +kernel
theorem dX2_copyFrom_97 : decode cX2_copyFrom 97 = .ok (.iconst 0, 1) := by decide +kernel
theorem dX2_copyFrom_98 : decode cX2_copyFrom 98 = .ok (.bipush 6, 2) := by decide +kernel
theorem dX2_copyFrom_100 : decode cX2_copyFrom 100 = .ok (.invokestatic 42, 3) := by decide +kernel
theorem dX2_copyFrom_103 : decode cX2_copyFrom 103 = .ok (.iinc 2 1, 3) := by decide +kernel
theorem dX2_copyFrom_106 : decode cX2_copyFrom 106 = .ok (.goto (-27), 3) := by decide +kernel
theorem dX2_copyFrom_109 : decode cX2_copyFrom 109 = .ok (.return_, 1) := by decide +kernel
theorem dX2_clearNight_0 : decode cX2_clearNight 0 = .ok (.aload_n 0, 1) := by decide +kernel
theorem dX2_clearNight_1 : decode cX2_clearNight 1 = .ok (.iconst 0, 1) := by decide +kernel
theorem dX2_clearNight_2 : decode cX2_clearNight 2 = .ok (.putfield 21, 3) := by decide +kernel
theorem dX2_clearNight_5 : decode cX2_clearNight 5 = .ok (.iconst 0, 1) := by decide +kernel
theorem dX2_clearNight_6 : decode cX2_clearNight 6 = .ok (.istore_n 1, 1) := by decide +kernel
theorem dX2_clearNight_7 : decode cX2_clearNight 7 = .ok (.iload_n 1, 1) := by decide +kernel
theorem dX2_clearNight_8 : decode cX2_clearNight 8 = .ok (.iconst 4, 1) := by decide +kernel
theorem dX2_clearNight_9 : decode cX2_clearNight 9 = .ok (.if_icmp .ge 19, 3) := by decide +kernel
theorem dX2_clearNight_12 : decode cX2_clearNight 12 = .ok (.aload_n 0, 1) := by decide +kernel
theorem dX2_clearNight_13 : decode cX2_clearNight 13 = .ok (.getfield 36, 3) := by decide +kernel
theorem dX2_clearNight_16 : decode cX2_clearNight 16 = .ok (.iload_n 1, 1) := by decide +kernel
theorem dX2_clearNight_17 : decode cX2_clearNight 17 = .ok (.aaload, 1) := by decide +kernel
theorem dX2_clearNight_18 : decode cX2_clearNight 18 = .ok (.iconst (-1), 1) := by decide +kernel
theorem dX2_clearNight_19 : decode cX2_clearNight 19 = .ok (.invokestatic 51, 3) := by decide +kernel
theorem dX2_clearNight_22 : decode cX2_clearNight 22 = .ok (.iinc 1 1, 3) := by decide +kernel
theorem dX2_clearNight_25 : decode cX2_clearNight 25 = .ok (.goto (-18), 3) := by decide +kernel
theorem dX2_clearNight_28 : decode cX2_clearNight 28 = .ok (.return_, 1) := by decide +kernel
theorem dX2_passHour_0 : decode cX2_passHour 0 = .ok (.aload_n 0, 1) := by decide +kernel
theorem dX2_passHour_1 : decode cX2_passHour 1 = .ok (.dup, 1) := by decide +kernel
theorem dX2_passHour_2 : decode cX2_passHour 2 = .ok (.getfield 9, 3) := by decide +kernel
theorem dX2_passHour_5 : decode cX2_passHour 5 = .ok (.iconst 1, 1) := by decide +kernel
theorem dX2_passHour_6 : decode cX2_passHour 6 = .ok (.iadd, 1) := by decide +kernel
theorem dX2_passHour_7 : decode cX2_passHour 7 = .ok (.putfield 9, 3) := by decide +kernel
theorem dX2_passHour_10 : decode cX2_passHour 10 = .ok (.aload_n 0, 1) := by decide +kernel
theorem dX2_passHour_11 : decode cX2_passHour 11 = .ok (.getfield 9, 3) := by decide +kernel
theorem dX2_passHour_14 : decode cX2_passHour 14 = .ok (.aload_n 1, 1) := by decide +kernel
theorem dX2_passHour_15 : decode cX2_passHour 15 = .ok (.getfield 60, 3) := by decide +kernel
theorem dX2_passHour_18 : decode cX2_passHour 18 = .ok (.if_icmp .ge 4, 3) := by decide +kernel
theorem dX2_passHour_21 : decode cX2_passHour 21 = .ok (.return_, 1) := by decide +kernel
theorem dX2_passHour_22 : decode cX2_passHour 22 = .ok (.iconst 0, 1) := by decide +kernel
theorem dX2_passHour_23 : decode cX2_passHour 23 = .ok (.istore_n 2, 1) := by decide +kernel
theorem dX2_passHour_24 : decode cX2_passHour 24 = .ok (.iload_n 2, 1) := by decide +kernel
theorem dX2_passHour_25 : decode cX2_passHour 25 = .ok (.aload_n 1, 1) := by decide +kernel
theorem dX2_passHour_26 : decode cX2_passHour 26 = .ok (.getfield 63, 3) := by decide +kernel
theorem dX2_passHour_29 : decode cX2_passHour 29 = .ok (.if_icmp .ge 21, 3) := by decide +kernel
theorem dX2_passHour_32 : decode cX2_passHour 32 = .ok (.aload_n 0, 1) := by decide +kernel
theorem dX2_passHour_33 : decode cX2_passHour 33 = .ok (.getfield 28, 3) := by decide +kernel
theorem dX2_passHour_36 : decode cX2_passHour 36 = .ok (.iload_n 2, 1) := by decide +kernel
theorem dX2_passHour_37 : decode cX2_passHour 37 = .ok (.aload_n 0, 1) := by decide +kernel
theorem dX2_passHour_38 : decode cX2_passHour 38 = .ok (.iload_n 2, 1) := by decide +kernel
theorem dX2_passHour_39 : decode cX2_passHour 39 = .ok (.iconst 0, 1) := by decide +kernel
theorem dX2_passHour_40 : decode cX2_passHour 40 = .ok (.invokevirtual 66, 3) := by decide +kernel
theorem dX2_passHour_43 : decode cX2_passHour 43 = .ok (.iastore, 1) := by decide +kernel
theorem dX2_passHour_44 : decode cX2_passHour 44 = .ok (.iinc 2 1, 3) := by decide +kernel
theorem dX2_passHour_47 : decode cX2_passHour 47 = .ok (.goto (-23), 3) := by decide +kernel
theorem dX2_passHour_50 : decode cX2_passHour 50 = .ok (.aload_n 0, 1) := by decide +kernel
theorem dX2_passHour_51 : decode cX2_passHour 51 = .ok (.invokevirtual 57, 3) := by decide +kernel
theorem dX2_passHour_54 : decode cX2_passHour 54 = .ok (.aload_n 0, 1) := by decide +kernel
theorem dX2_passHour_55 : decode cX2_passHour 55 = .ok (.iconst 0, 1) := by decide +kernel
theorem dX2_passHour_56 : decode cX2_passHour 56 = .ok (.putfield 9, 3) := by decide +kernel
theorem dX2_passHour_59 : decode cX2_passHour 59 = .ok (.aload_n 0, 1) := by decide +kernel
theorem dX2_passHour_60 : decode cX2_passHour 60 = .ok (.dup, 1) := by decide +kernel
theorem dX2_passHour_61 : decode cX2_passHour 61 = .ok (.getfield 15, 3) := by decide +kernel
theorem dX2_passHour_64 : decode cX2_passHour 64 = .ok (.iconst 1, 1) := by decide +kernel
theorem dX2_passHour_65 : decode cX2_passHour 65 = .ok (.iadd, 1) := by decide +kernel
theorem dX2_passHour_66 : decode cX2_passHour 66 = .ok (.putfield 15, 3) := by decide +kernel
theorem dX2_passHour_69 : decode cX2_passHour 69 = .ok (.return_, 1) := by decide +kernel
theorem dX2_isOut_0 : decode cX2_isOut 0 = .ok (.aload_n 0, 1) := by decide +kernel
theorem dX2_isOut_1 : decode cX2_isOut 1 = .ok (.getfield 21, 3) := by decide +kernel
theorem dX2_isOut_4 : decode cX2_isOut 4 = .ok (.iload_n 1, 1) := by decide +kernel
theorem dX2_isOut_5 : decode cX2_isOut 5 = .ok (.ishr, 1) := by decide +kernel
theorem dX2_isOut_6 : decode cX2_isOut 6 = .ok (.iconst 1, 1) := by decide +kernel
theorem dX2_isOut_7 : decode cX2_isOut 7 = .ok (.iand, 1) := by decide +kernel
theorem dX2_isOut_8 : decode cX2_isOut 8 = .ok (.ifCond .eq 7, 3) := by decide +kernel
theorem dX2_isOut_11 : decode cX2_isOut 11 = .ok (.iconst 1, 1) := by decide +kernel
theorem dX2_isOut_12 : decode cX2_isOut 12 = .ok (.goto 4, 3) := by decide +kernel
theorem dX2_isOut_15 : decode cX2_isOut 15 = .ok (.iconst 0, 1) := by decide +kernel
theorem dX2_isOut_16 : decode cX2_isOut 16 = .ok (.ireturn, 1) := by decide +kernel
theorem dX2_putOut_0 : decode cX2_putOut 0 = .ok (.aload_n 0, 1) := by decide +kernel
theorem dX2_putOut_1 : decode cX2_putOut 1 = .ok (.dup, 1) := by decide +kernel
theorem dX2_putOut_2 : decode cX2_putOut 2 = .ok (.getfield 21, 3) := by decide +kernel
theorem dX2_putOut_5 : decode cX2_putOut 5 = .ok (.iconst 1, 1) := by decide +kernel
theorem dX2_putOut_6 : decode cX2_putOut 6 = .ok (.iload_n 1, 1) := by decide +kernel
theorem dX2_putOut_7 : decode cX2_putOut 7 = .ok (.ishl, 1) := by decide +kernel
theorem dX2_putOut_8 : decode cX2_putOut 8 = .ok (.ior, 1) := by decide +kernel
theorem dX2_putOut_9 : decode cX2_putOut 9 = .ok (.putfield 21, 3) := by decide +kernel
theorem dX2_putOut_12 : decode cX2_putOut 12 = .ok (.return_, 1) := by decide +kernel
theorem dX2_lightAgain_0 : decode cX2_lightAgain 0 = .ok (.aload_n 0, 1) := by decide +kernel
theorem dX2_lightAgain_1 : decode cX2_lightAgain 1 = .ok (.dup, 1) := by decide +kernel
theorem dX2_lightAgain_2 : decode cX2_lightAgain 2 = .ok (.getfield 21, 3) := by decide +kernel
theorem dX2_lightAgain_5 : decode cX2_lightAgain 5 = .ok (.iconst 1, 1) := by decide +kernel
theorem dX2_lightAgain_6 : decode cX2_lightAgain 6 = .ok (.iload_n 1, 1) := by decide +kernel
theorem dX2_lightAgain_7 : decode cX2_lightAgain 7 = .ok (.ishl, 1) := by decide +kernel
theorem dX2_lightAgain_8 : decode cX2_lightAgain 8 = .ok (.iconst (-1), 1) := by decide +kernel
theorem dX2_lightAgain_9 : decode cX2_lightAgain 9 = .ok (.ixor, 1) := by decide +kernel
theorem dX2_lightAgain_10 : decode cX2_lightAgain 10 = .ok (.iand, 1) := by decide +kernel
theorem dX2_lightAgain_11 : decode cX2_lightAgain 11 = .ok (.putfield 21, 3) := by decide +kernel
theorem dX2_lightAgain_14 : decode cX2_lightAgain 14 = .ok (.return_, 1) := by decide +kernel
theorem dX2_isLitAt_0 : decode cX2_isLitAt 0 = .ok (.iload_n 2, 1) := by decide +kernel
theorem dX2_isLitAt_1 : decode cX2_isLitAt 1 = .ok (.aload_n 0, 1) := by decide +kernel
theorem dX2_isLitAt_2 : decode cX2_isLitAt 2 = .ok (.getfield 24, 3) := by decide +kernel
theorem dX2_isLitAt_5 : decode cX2_isLitAt 5 = .ok (.iload_n 1, 1) := by decide +kernel
theorem dX2_isLitAt_6 : decode cX2_isLitAt 6 = .ok (.iaload, 1) := by decide +kernel
theorem dX2_isLitAt_7 : decode cX2_isLitAt 7 = .ok (.if_icmp .ge 15, 3) := by decide +kernel
theorem dX2_isLitAt_10 : decode cX2_isLitAt 10 = .ok (.aload_n 0, 1) := by decide +kernel
theorem dX2_isLitAt_11 : decode cX2_isLitAt 11 = .ok (.iload_n 1, 1) := by decide +kernel
theorem dX2_isLitAt_12 : decode cX2_isLitAt 12 = .ok (.invokevirtual 70, 3) := by decide +kernel
theorem dX2_isLitAt_15 : decode cX2_isLitAt 15 = .ok (.ifCond .ne 7, 3) := by decide +kernel
theorem dX2_isLitAt_18 : decode cX2_isLitAt 18 = .ok (.iconst 1, 1) := by decide +kernel
theorem dX2_isLitAt_19 : decode cX2_isLitAt 19 = .ok (.goto 4, 3) := by decide +kernel
theorem dX2_isLitAt_22 : decode cX2_isLitAt 22 = .ok (.iconst 0, 1) := by decide +kernel
theorem dX2_isLitAt_23 : decode cX2_isLitAt 23 = .ok (.ireturn, 1) := by decide +kernel
theorem dX2_litAt_0 : decode cX2_litAt 0 = .ok (.iconst 0, 1) := by decide +kernel
theorem dX2_litAt_1 : decode cX2_litAt 1 = .ok (.istore_n 3, 1) := by decide +kernel
theorem dX2_litAt_2 : decode cX2_litAt 2 = .ok (.iconst 0, 1) := by decide +kernel
theorem dX2_litAt_3 : decode cX2_litAt 3 = .ok (.istore 4, 2) := by decide +kernel
theorem dX2_litAt_5 : decode cX2_litAt 5 = .ok (.iload 4, 2) := by decide +kernel
theorem dX2_litAt_7 : decode cX2_litAt 7 = .ok (.aload_n 1, 1) := by decide +kernel
theorem dX2_litAt_8 : decode cX2_litAt 8 = .ok (.getfield 63, 3) := by decide +kernel
theorem dX2_litAt_11 : decode cX2_litAt 11 = .ok (.if_icmp .ge 26, 3) := by decide +kernel
theorem dX2_litAt_14 : decode cX2_litAt 14 = .ok (.aload_n 0, 1) := by decide +kernel
theorem dX2_litAt_15 : decode cX2_litAt 15 = .ok (.iload 4, 2) := by decide +kernel
theorem dX2_litAt_17 : decode cX2_litAt 17 = .ok (.iload_n 2, 1) := by decide +kernel
theorem dX2_litAt_18 : decode cX2_litAt 18 = .ok (.invokevirtual 74, 3) := by decide +kernel
theorem dX2_litAt_21 : decode cX2_litAt 21 = .ok (.ifCond .eq 10, 3) := by decide +kernel
theorem dX2_litAt_24 : decode cX2_litAt 24 = .ok (.iload_n 3, 1) := by decide +kernel
theorem dX2_litAt_25 : decode cX2_litAt 25 = .ok (.iconst 1, 1) := by decide +kernel
theorem dX2_litAt_26 : decode cX2_litAt 26 = .ok (.iload 4, 2) := by decide +kernel
theorem dX2_litAt_28 : decode cX2_litAt 28 = .ok (.ishl, 1) := by decide +kernel
theorem dX2_litAt_29 : decode cX2_litAt 29 = .ok (.ior, 1) := by decide +kernel
theorem dX2_litAt_30 : decode cX2_litAt 30 = .ok (.istore_n 3, 1) := by decide +kernel
theorem dX2_litAt_31 : decode cX2_litAt 31 = .ok (.iinc 4 1, 3) := by decide +kernel
theorem dX2_litAt_34 : decode cX2_litAt 34 = .ok (.goto (-29), 3) := by decide +kernel
theorem dX2_litAt_37 : decode cX2_litAt 37 = .ok (.iload_n 3, 1) := by decide +kernel
theorem dX2_litAt_38 : decode cX2_litAt 38 = .ok (.ireturn, 1) := by decide +kernel
theorem dX2_hears_0 : decode cX2_hears 0 = .ok (.aload_n 1, 1) := by decide +kernel
theorem dX2_hears_1 : decode cX2_hears 1 = .ok (.iload_n 2, 1) := by decide +kernel
theorem dX2_hears_2 : decode cX2_hears 2 = .ok (.aload_n 0, 1) := by decide +kernel
theorem dX2_hears_3 : decode cX2_hears 3 = .ok (.getfield 31, 3) := by decide +kernel
theorem dX2_hears_6 : decode cX2_hears 6 = .ok (.iload_n 2, 1) := by decide +kernel
theorem dX2_hears_7 : decode cX2_hears 7 = .ok (.iaload, 1) := by decide +kernel
theorem dX2_hears_8 : decode cX2_hears 8 = .ok (.invokevirtual 78, 3) := by decide +kernel
theorem dX2_hears_11 : decode cX2_hears 11 = .ok (.ireturn, 1) := by decide +kernel
theorem dX2_reached_0 : decode cX2_reached 0 = .ok (.aload_n 1, 1) := by decide +kernel
theorem dX2_reached_1 : decode cX2_reached 1 = .ok (.getfield 81, 3) := by decide +kernel
theorem dX2_reached_4 : decode cX2_reached 4 = .ok (.iload_n 2, 1) := by decide +kernel
theorem dX2_reached_5 : decode cX2_reached 5 = .ok (.iaload, 1) := by decide +kernel
theorem dX2_reached_6 : decode cX2_reached 6 = .ok (.istore 6, 2) := by decide +kernel
theorem dX2_reached_8 : decode cX2_reached 8 = .ok (.aload_n 1, 1) := by decide +kernel
theorem dX2_reached_9 : decode cX2_reached 9 = .ok (.iload 4, 2) := by decide +kernel
theorem dX2_reached_11 : decode cX2_reached 11 = .ok (.invokevirtual 84, 3) := by decide +kernel
theorem dX2_reached_14 : decode cX2_reached 14 = .ok (.ifCond .eq 17, 3) := by decide +kernel
theorem dX2_reached_17 : decode cX2_reached 17 = .ok (.iload 6, 2) := by decide +kernel
theorem dX2_reached_19 : decode cX2_reached 19 = .ok (.iconst 1, 1) := by decide +kernel
theorem dX2_reached_20 : decode cX2_reached 20 = .ok (.if_icmp .eq 9, 3) := by decide +kernel
theorem dX2_reached_23 : decode cX2_reached 23 = .ok (.iload 5, 2) := by decide +kernel
theorem dX2_reached_25 : decode cX2_reached 25 = .ok (.iconst 2, 1) := by decide +kernel
theorem dX2_reached_26 : decode cX2_reached 26 = .ok (.if_icmp .ne 5, 3) := by decide +kernel
theorem dX2_reached_29 : decode cX2_reached 29 = .ok (.iconst 0, 1) := by decide +kernel
theorem dX2_reached_30 : decode cX2_reached 30 = .ok (.ireturn, 1) := by decide +kernel
theorem dX2_reached_31 : decode cX2_reached 31 = .ok (.iload 6, 2) := by decide +kernel
theorem dX2_reached_33 : decode cX2_reached 33 = .ok (.iconst 3, 1) := by decide +kernel
theorem dX2_reached_34 : decode cX2_reached 34 = .ok (.if_icmp .ne 7, 3) := by decide +kernel
theorem dX2_reached_37 : decode cX2_reached 37 = .ok (.iconst 1, 1) := by decide +kernel
theorem dX2_reached_38 : decode cX2_reached 38 = .ok (.iload_n 3, 1) := by decide +kernel
theorem dX2_reached_39 : decode cX2_reached 39 = .ok (.ishl, 1) := by decide +kernel
theorem dX2_reached_40 : decode cX2_reached 40 = .ok (.ireturn, 1) := by decide +kernel
theorem dX2_reached_41 : decode cX2_reached 41 = .ok (.iload 6, 2) := by decide +kernel
theorem dX2_reached_43 : decode cX2_reached 43 = .ok (.iconst 4, 1) := by decide +kernel
theorem dX2_reached_44 : decode cX2_reached 44 = .ok (.if_icmp .ne 34, 3) := by decide +kernel
theorem dX2_reached_47 : decode cX2_reached 47 = .ok (.aload_n 0, 1) := by decide +kernel
theorem dX2_reached_48 : decode cX2_reached 48 = .ok (.iload_n 3, 1) := by decide +kernel
theorem dX2_reached_49 : decode cX2_reached 49 = .ok (.iload 4, 2) := by decide +kernel
theorem dX2_reached_51 : decode cX2_reached 51 = .ok (.invokevirtual 74, 3) := by decide +kernel
theorem dX2_reached_54 : decode cX2_reached 54 = .ok (.ifCond .eq 22, 3) := by decide +kernel
theorem dX2_reached_57 : decode cX2_reached 57 = .ok (.aload_n 0, 1) := by decide +kernel
theorem dX2_reached_58 : decode cX2_reached 58 = .ok (.getfield 36, 3) := by decide +kernel
theorem dX2_reached_61 : decode cX2_reached 61 = .ok (.iload 5, 2) := by decide +kernel
theorem dX2_reached_63 : decode cX2_reached 63 = .ok (.aaload, 1) := by decide +kernel
theorem dX2_reached_64 : decode cX2_reached 64 = .ok (.iload_n 3, 1) := by decide +kernel
theorem dX2_reached_65 : decode cX2_reached 65 = .ok (.iaload, 1) := by decide +kernel
theorem dX2_reached_66 : decode cX2_reached 66 = .ok (.iconst (-1), 1) := by decide +kernel
theorem dX2_reached_67 : decode cX2_reached 67 = .ok (.if_icmp .eq 9, 3) := by decide +kernel
theorem dX2_reached_70 : decode cX2_reached 70 = .ok (.iconst 1, 1) := by decide +kernel
theorem dX2_reached_71 : decode cX2_reached 71 = .ok (.iload_n 3, 1) := by decide +kernel
theorem dX2_reached_72 : decode cX2_reached 72 = .ok (.ishl, 1) := by decide +kernel
theorem dX2_reached_73 : decode cX2_reached 73 = .ok (.goto 4, 3) := by decide +kernel
theorem dX2_reached_76 : decode cX2_reached 76 = .ok (.iconst 0, 1) := by decide +kernel
theorem dX2_reached_77 : decode cX2_reached 77 = .ok (.ireturn, 1) := by decide +kernel
theorem dX2_reached_78 : decode cX2_reached 78 = .ok (.iload 5, 2) := by decide +kernel
theorem dX2_reached_80 : decode cX2_reached 80 = .ok (.iconst 1, 1) := by decide +kernel
theorem dX2_reached_81 : decode cX2_reached 81 = .ok (.if_icmp .ne 9, 3) := by decide +kernel
theorem dX2_reached_84 : decode cX2_reached 84 = .ok (.iconst 1, 1) := by decide +kernel
theorem dX2_reached_85 : decode cX2_reached 85 = .ok (.iload_n 3, 1) := by decide +kernel
theorem dX2_reached_86 : decode cX2_reached 86 = .ok (.ishl, 1) := by decide +kernel
theorem dX2_reached_87 : decode cX2_reached 87 = .ok (.goto 9, 3) := by decide +kernel
theorem dX2_reached_90 : decode cX2_reached 90 = .ok (.aload_n 1, 1) := by decide +kernel
theorem dX2_reached_91 : decode cX2_reached 91 = .ok (.iload_n 2, 1) := by decide +kernel
theorem dX2_reached_92 : decode cX2_reached 92 = .ok (.iload_n 3, 1) := by decide +kernel
theorem dX2_reached_93 : decode cX2_reached 93 = .ok (.invokevirtual 78, 3) := by decide +kernel
theorem dX2_reached_96 : decode cX2_reached 96 = .ok (.istore 7, 2) := by decide +kernel
theorem dX2_reached_98 : decode cX2_reached 98 = .ok (.iload 7, 2) := by decide +kernel
theorem dX2_reached_100 : decode cX2_reached 100 = .ok (.aload_n 0, 1) := by decide +kernel
theorem dX2_reached_101 : decode cX2_reached 101 = .ok (.aload_n 1, 1) := by decide +kernel
theorem dX2_reached_102 : decode cX2_reached 102 = .ok (.iload 4, 2) := by decide +kernel
theorem dX2_reached_104 : decode cX2_reached 104 = .ok (.invokevirtual 87, 3) := by decide +kernel
theorem dX2_reached_107 : decode cX2_reached 107 = .ok (.iand, 1) := by decide +kernel
theorem dX2_reached_108 : decode cX2_reached 108 = .ok (.ireturn, 1) := by decide +kernel
theorem dX2_counts_0 : decode cX2_counts 0 = .ok (.aload_n 0, 1) := by decide +kernel
theorem dX2_counts_1 : decode cX2_counts 1 = .ok (.aload_n 1, 1) := by decide +kernel
theorem dX2_counts_2 : decode cX2_counts 2 = .ok (.iload_n 2, 1) := by decide +kernel
theorem dX2_counts_3 : decode cX2_counts 3 = .ok (.aload_n 0, 1) := by decide +kernel
theorem dX2_counts_4 : decode cX2_counts 4 = .ok (.getfield 31, 3) := by decide +kernel
theorem dX2_counts_7 : decode cX2_counts 7 = .ok (.iload_n 2, 1) := by decide +kernel
theorem dX2_counts_8 : decode cX2_counts 8 = .ok (.iaload, 1) := by decide +kernel
theorem dX2_counts_9 : decode cX2_counts 9 = .ok (.aload_n 0, 1) := by decide +kernel
theorem dX2_counts_10 : decode cX2_counts 10 = .ok (.getfield 9, 3) := by decide +kernel
theorem dX2_counts_13 : decode cX2_counts 13 = .ok (.iconst 0, 1) := by decide +kernel
theorem dX2_counts_14 : decode cX2_counts 14 = .ok (.invokevirtual 91, 3) := by decide +kernel
theorem dX2_counts_17 : decode cX2_counts 17 = .ok (.istore_n 3, 1) := by decide +kernel
theorem dX2_counts_18 : decode cX2_counts 18 = .ok (.aload_n 1, 1) := by decide +kernel
theorem dX2_counts_19 : decode cX2_counts 19 = .ok (.iload_n 2, 1) := by decide +kernel
theorem dX2_counts_20 : decode cX2_counts 20 = .ok (.iconst 0, 1) := by decide +kernel
theorem dX2_counts_21 : decode cX2_counts 21 = .ok (.invokevirtual 95, 3) := by decide +kernel
theorem dX2_counts_24 : decode cX2_counts 24 = .ok (.istore 4, 2) := by decide +kernel
theorem dX2_counts_26 : decode cX2_counts 26 = .ok (.iconst 0, 1) := by decide +kernel
theorem dX2_counts_27 : decode cX2_counts 27 = .ok (.istore 5, 2) := by decide +kernel
theorem dX2_counts_29 : decode cX2_counts 29 = .ok (.iload 5, 2) := by decide +kernel
theorem dX2_counts_31 : decode cX2_counts 31 = .ok (.aload_n 1, 1) := by decide +kernel
theorem dX2_counts_32 : decode cX2_counts 32 = .ok (.getfield 63, 3) := by decide +kernel
theorem dX2_counts_35 : decode cX2_counts 35 = .ok (.if_icmp .ge 32, 3) := by decide +kernel
theorem dX2_counts_38 : decode cX2_counts 38 = .ok (.aload_n 0, 1) := by decide +kernel
theorem dX2_counts_39 : decode cX2_counts 39 = .ok (.getfield 36, 3) := by decide +kernel
theorem dX2_counts_42 : decode cX2_counts 42 = .ok (.iconst 0, 1) := by decide +kernel
theorem dX2_counts_43 : decode cX2_counts 43 = .ok (.aaload, 1) := by decide +kernel
theorem dX2_counts_44 : decode cX2_counts 44 = .ok (.iload 5, 2) := by decide +kernel
theorem dX2_counts_46 : decode cX2_counts 46 = .ok (.iaload, 1) := by decide +kernel
theorem dX2_counts_47 : decode cX2_counts 47 = .ok (.iload 4, 2) := by decide +kernel
theorem dX2_counts_49 : decode cX2_counts 49 = .ok (.if_icmp .ne 12, 3) := by decide +kernel
theorem dX2_counts_52 : decode cX2_counts 52 = .ok (.iload_n 3, 1) := by decide +kernel
theorem dX2_counts_53 : decode cX2_counts 53 = .ok (.iconst 1, 1) := by decide +kernel
theorem dX2_counts_54 : decode cX2_counts 54 = .ok (.iload 5, 2) := by decide +kernel
theorem dX2_counts_56 : decode cX2_counts 56 = .ok (.ishl, 1) := by decide +kernel
theorem dX2_counts_57 : decode cX2_counts 57 = .ok (.iconst (-1), 1) := by decide +kernel
theorem dX2_counts_58 : decode cX2_counts 58 = .ok (.ixor, 1) := by decide +kernel
theorem dX2_counts_59 : decode cX2_counts 59 = .ok (.iand, 1) := by decide +kernel
theorem dX2_counts_60 : decode cX2_counts 60 = .ok (.istore_n 3, 1) := by decide +kernel
theorem dX2_counts_61 : decode cX2_counts 61 = .ok (.iinc 5 1, 3) := by decide +kernel
theorem dX2_counts_64 : decode cX2_counts 64 = .ok (.goto (-35), 3) := by decide +kernel
theorem dX2_counts_67 : decode cX2_counts 67 = .ok (.iload_n 3, 1) := by decide +kernel
theorem dX2_counts_68 : decode cX2_counts 68 = .ok (.ireturn, 1) := by decide +kernel
theorem dX2_speak_0 : decode cX2_speak 0 = .ok (.iconst 0, 1) := by decide +kernel
theorem dX2_speak_1 : decode cX2_speak 1 = .ok (.istore_n 3, 1) := by decide +kernel
theorem dX2_speak_2 : decode cX2_speak 2 = .ok (.iload_n 3, 1) := by decide +kernel
theorem dX2_speak_3 : decode cX2_speak 3 = .ok (.iconst 4, 1) := by decide +kernel
theorem dX2_speak_4 : decode cX2_speak 4 = .ok (.if_icmp .ge 71, 3) := by decide +kernel
theorem dX2_speak_7 : decode cX2_speak 7 = .ok (.aload_n 0, 1) := by decide +kernel
theorem dX2_speak_8 : decode cX2_speak 8 = .ok (.aload_n 1, 1) := by decide +kernel
theorem dX2_speak_9 : decode cX2_speak 9 = .ok (.iload_n 2, 1) := by decide +kernel
theorem dX2_speak_10 : decode cX2_speak 10 = .ok (.aload_n 0, 1) := by decide +kernel
theorem dX2_speak_11 : decode cX2_speak 11 = .ok (.getfield 31, 3) := by decide +kernel
theorem dX2_speak_14 : decode cX2_speak 14 = .ok (.iload_n 2, 1) := by decide +kernel
theorem dX2_speak_15 : decode cX2_speak 15 = .ok (.iaload, 1) := by decide +kernel
theorem dX2_speak_16 : decode cX2_speak 16 = .ok (.aload_n 0, 1) := by decide +kernel
theorem dX2_speak_17 : decode cX2_speak 17 = .ok (.getfield 9, 3) := by decide +kernel
theorem dX2_speak_20 : decode cX2_speak 20 = .ok (.iload_n 3, 1) := by decide +kernel
theorem dX2_speak_21 : decode cX2_speak 21 = .ok (.invokevirtual 91, 3) := by decide +kernel
theorem dX2_speak_24 : decode cX2_speak 24 = .ok (.istore 4, 2) := by decide +kernel
theorem dX2_speak_26 : decode cX2_speak 26 = .ok (.iconst 0, 1) := by decide +kernel
theorem dX2_speak_27 : decode cX2_speak 27 = .ok (.istore 5, 2) := by decide +kernel
theorem dX2_speak_29 : decode cX2_speak 29 = .ok (.iload 5, 2) := by decide +kernel
theorem dX2_speak_31 : decode cX2_speak 31 = .ok (.aload_n 1, 1) := by decide +kernel
theorem dX2_speak_32 : decode cX2_speak 32 = .ok (.getfield 63, 3) := by decide +kernel
theorem dX2_speak_35 : decode cX2_speak 35 = .ok (.if_icmp .ge 34, 3) := by decide +kernel
theorem dX2_speak_38 : decode cX2_speak 38 = .ok (.iload 4, 2) := by decide +kernel
theorem dX2_speak_40 : decode cX2_speak 40 = .ok (.iload 5, 2) := by decide +kernel
theorem dX2_speak_42 : decode cX2_speak 42 = .ok (.ishr, 1) := by decide +kernel
theorem dX2_speak_43 : decode cX2_speak 43 = .ok (.iconst 1, 1) := by decide +kernel
theorem dX2_speak_44 : decode cX2_speak 44 = .ok (.iand, 1) := by decide +kernel
theorem dX2_speak_45 : decode cX2_speak 45 = .ok (.ifCond .eq 18, 3) := by decide +kernel
theorem dX2_speak_48 : decode cX2_speak 48 = .ok (.aload_n 0, 1) := by decide +kernel
theorem dX2_speak_49 : decode cX2_speak 49 = .ok (.getfield 36, 3) := by decide +kernel
theorem dX2_speak_52 : decode cX2_speak 52 = .ok (.iload_n 3, 1) := by decide +kernel
theorem dX2_speak_53 : decode cX2_speak 53 = .ok (.aaload, 1) := by decide +kernel
theorem dX2_speak_54 : decode cX2_speak 54 = .ok (.iload 5, 2) := by decide +kernel
theorem dX2_speak_56 : decode cX2_speak 56 = .ok (.aload_n 1, 1) := by decide +kernel
theorem dX2_speak_57 : decode cX2_speak 57 = .ok (.iload_n 2, 1) := by decide +kernel
theorem dX2_speak_58 : decode cX2_speak 58 = .ok (.iload_n 3, 1) := by decide +kernel
theorem dX2_speak_59 : decode cX2_speak 59 = .ok (.invokevirtual 95, 3) := by decide +kernel
theorem dX2_speak_62 : decode cX2_speak 62 = .ok (.iastore, 1) := by decide +kernel
theorem dX2_speak_63 : decode cX2_speak 63 = .ok (.iinc 5 1, 3) := by decide +kernel
theorem dX2_speak_66 : decode cX2_speak 66 = .ok (.goto (-37), 3) := by decide +kernel
theorem dX2_speak_69 : decode cX2_speak 69 = .ok (.iinc 3 1, 3) := by decide +kernel
theorem dX2_speak_72 : decode cX2_speak 72 = .ok (.goto (-70), 3) := by decide +kernel
theorem dX2_speak_75 : decode cX2_speak 75 = .ok (.aload_n 0, 1) := by decide +kernel
theorem dX2_speak_76 : decode cX2_speak 76 = .ok (.dup, 1) := by decide +kernel
theorem dX2_speak_77 : decode cX2_speak 77 = .ok (.getfield 18, 3) := by decide +kernel
theorem dX2_speak_80 : decode cX2_speak 80 = .ok (.iconst 1, 1) := by decide +kernel
theorem dX2_speak_81 : decode cX2_speak 81 = .ok (.iadd, 1) := by decide +kernel
theorem dX2_speak_82 : decode cX2_speak 82 = .ok (.putfield 18, 3) := by decide +kernel
theorem dX2_speak_85 : decode cX2_speak 85 = .ok (.return_, 1) := by decide +kernel
theorem dX2_will_0 : decode cX2_will 0 = .ok (.aload_n 0, 1) := by decide +kernel
theorem dX2_will_1 : decode cX2_will 1 = .ok (.getfield 36, 3) := by decide +kernel
theorem dX2_will_4 : decode cX2_will 4 = .ok (.iload_n 2, 1) := by decide +kernel
theorem dX2_will_5 : decode cX2_will 5 = .ok (.aaload, 1) := by decide +kernel
theorem dX2_will_6 : decode cX2_will 6 = .ok (.iload_n 1, 1) := by decide +kernel
theorem dX2_will_7 : decode cX2_will 7 = .ok (.iaload, 1) := by decide +kernel
theorem dX2_will_8 : decode cX2_will 8 = .ok (.iconst (-1), 1) := by decide +kernel
theorem dX2_will_9 : decode cX2_will 9 = .ok (.if_icmp .eq 14, 3) := by decide +kernel
theorem dX2_will_12 : decode cX2_will 12 = .ok (.aload_n 0, 1) := by decide +kernel
theorem dX2_will_13 : decode cX2_will 13 = .ok (.getfield 36, 3) := by decide +kernel
theorem dX2_will_16 : decode cX2_will 16 = .ok (.iload_n 2, 1) := by decide +kernel
theorem dX2_will_17 : decode cX2_will 17 = .ok (.aaload, 1) := by decide +kernel
theorem dX2_will_18 : decode cX2_will 18 = .ok (.iload_n 1, 1) := by decide +kernel
theorem dX2_will_19 : decode cX2_will 19 = .ok (.iaload, 1) := by decide +kernel
theorem dX2_will_20 : decode cX2_will 20 = .ok (.goto 9, 3) := by decide +kernel
theorem dX2_will_23 : decode cX2_will 23 = .ok (.aload_n 0, 1) := by decide +kernel
theorem dX2_will_24 : decode cX2_will 24 = .ok (.getfield 28, 3) := by decide +kernel
theorem dX2_will_27 : decode cX2_will 27 = .ok (.iload_n 1, 1) := by decide +kernel
theorem dX2_will_28 : decode cX2_will 28 = .ok (.iaload, 1) := by decide +kernel
theorem dX2_will_29 : decode cX2_will 29 = .ok (.ireturn, 1) := by decide +kernel
theorem dX2_sure_0 : decode cX2_sure 0 = .ok (.iconst 0, 1) := by decide +kernel
theorem dX2_sure_1 : decode cX2_sure 1 = .ok (.istore_n 2, 1) := by decide +kernel
theorem dX2_sure_2 : decode cX2_sure 2 = .ok (.iconst 0, 1) := by decide +kernel
theorem dX2_sure_3 : decode cX2_sure 3 = .ok (.istore_n 3, 1) := by decide +kernel
theorem dX2_sure_4 : decode cX2_sure 4 = .ok (.iload_n 3, 1) := by decide +kernel
theorem dX2_sure_5 : decode cX2_sure 5 = .ok (.aload_n 1, 1) := by decide +kernel
theorem dX2_sure_6 : decode cX2_sure 6 = .ok (.getfield 63, 3) := by decide +kernel
theorem dX2_sure_9 : decode cX2_sure 9 = .ok (.if_icmp .ge 23, 3) := by decide +kernel
theorem dX2_sure_12 : decode cX2_sure 12 = .ok (.aload_n 0, 1) := by decide +kernel
theorem dX2_sure_13 : decode cX2_sure 13 = .ok (.iload_n 3, 1) := by decide +kernel
theorem dX2_sure_14 : decode cX2_sure 14 = .ok (.invokevirtual 98, 3) := by decide +kernel
theorem dX2_sure_17 : decode cX2_sure 17 = .ok (.ifCond .eq 9, 3) := by decide +kernel
theorem dX2_sure_20 : decode cX2_sure 20 = .ok (.iload_n 2, 1) := by decide +kernel
theorem dX2_sure_21 : decode cX2_sure 21 = .ok (.iconst 1, 1) := by decide +kernel
theorem dX2_sure_22 : decode cX2_sure 22 = .ok (.iload_n 3, 1) := by decide +kernel
theorem dX2_sure_23 : decode cX2_sure 23 = .ok (.ishl, 1) := by decide +kernel
theorem dX2_sure_24 : decode cX2_sure 24 = .ok (.ior, 1) := by decide +kernel
theorem dX2_sure_25 : decode cX2_sure 25 = .ok (.istore_n 2, 1) := by decide +kernel
theorem dX2_sure_26 : decode cX2_sure 26 = .ok (.iinc 3 1, 3) := by decide +kernel
theorem dX2_sure_29 : decode cX2_sure 29 = .ok (.goto (-25), 3) := by decide +kernel
theorem dX2_sure_32 : decode cX2_sure 32 = .ok (.iload_n 2, 1) := by decide +kernel
theorem dX2_sure_33 : decode cX2_sure 33 = .ok (.ireturn, 1) := by decide +kernel
theorem dX2_isSure_0 : decode cX2_isSure 0 = .ok (.aload_n 0, 1) := by decide +kernel
theorem dX2_isSure_1 : decode cX2_isSure 1 = .ok (.iload_n 1, 1) := by decide +kernel
theorem dX2_isSure_2 : decode cX2_isSure 2 = .ok (.iconst 0, 1) := by decide +kernel
theorem dX2_isSure_3 : decode cX2_isSure 3 = .ok (.invokevirtual 66, 3) := by decide +kernel
theorem dX2_isSure_6 : decode cX2_isSure 6 = .ok (.istore_n 2, 1) := by decide +kernel
theorem dX2_isSure_7 : decode cX2_isSure 7 = .ok (.iconst 0, 1) := by decide +kernel
theorem dX2_isSure_8 : decode cX2_isSure 8 = .ok (.istore_n 3, 1) := by decide +kernel
theorem dX2_isSure_9 : decode cX2_isSure 9 = .ok (.iload_n 3, 1) := by decide +kernel
theorem dX2_isSure_10 : decode cX2_isSure 10 = .ok (.iconst 4, 1) := by decide +kernel
theorem dX2_isSure_11 : decode cX2_isSure 11 = .ok (.if_icmp .ge 21, 3) := by decide +kernel
theorem dX2_isSure_14 : decode cX2_isSure 14 = .ok (.aload_n 0, 1) := by decide +kernel
theorem dX2_isSure_15 : decode cX2_isSure 15 = .ok (.iload_n 1, 1) := by decide +kernel
theorem dX2_isSure_16 : decode cX2_isSure 16 = .ok (.iload_n 3, 1) := by decide +kernel
theorem dX2_isSure_17 : decode cX2_isSure 17 = .ok (.invokevirtual 66, 3) := by decide +kernel
theorem dX2_isSure_20 : decode cX2_isSure 20 = .ok (.iload_n 2, 1) := by decide +kernel
theorem dX2_isSure_21 : decode cX2_isSure 21 = .ok (.if_icmp .eq 5, 3) := by decide +kernel
theorem dX2_isSure_24 : decode cX2_isSure 24 = .ok (.iconst 0, 1) := by decide +kernel
theorem dX2_isSure_25 : decode cX2_isSure 25 = .ok (.ireturn, 1) := by decide +kernel
theorem dX2_isSure_26 : decode cX2_isSure 26 = .ok (.iinc 3 1, 3) := by decide +kernel
theorem dX2_isSure_29 : decode cX2_isSure 29 = .ok (.goto (-20), 3) := by decide +kernel
theorem dX2_isSure_32 : decode cX2_isSure 32 = .ok (.iload_n 2, 1) := by decide +kernel
theorem dX2_isSure_33 : decode cX2_isSure 33 = .ok (.iconst (-1), 1) := by decide +kernel
theorem dX2_isSure_34 : decode cX2_isSure 34 = .ok (.if_icmp .eq 7, 3) := by decide +kernel
theorem dX2_isSure_37 : decode cX2_isSure 37 = .ok (.iconst 1, 1) := by decide +kernel
theorem dX2_isSure_38 : decode cX2_isSure 38 = .ok (.goto 4, 3) := by decide +kernel
theorem dX2_isSure_41 : decode cX2_isSure 41 = .ok (.iconst 0, 1) := by decide +kernel
theorem dX2_isSure_42 : decode cX2_isSure 42 = .ok (.ireturn, 1) := by decide +kernel
theorem dX2_worth_0 : decode cX2_worth 0 = .ok (.iconst 0, 1) := by decide +kernel
theorem dX2_worth_1 : decode cX2_worth 1 = .ok (.istore_n 3, 1) := by decide +kernel
theorem dX2_worth_2 : decode cX2_worth 2 = .ok (.iconst 0, 1) := by decide +kernel
theorem dX2_worth_3 : decode cX2_worth 3 = .ok (.istore 4, 2) := by decide +kernel
theorem dX2_worth_5 : decode cX2_worth 5 = .ok (.iload 4, 2) := by decide +kernel
theorem dX2_worth_7 : decode cX2_worth 7 = .ok (.aload_n 1, 1) := by decide +kernel
theorem dX2_worth_8 : decode cX2_worth 8 = .ok (.getfield 101, 3) := by decide +kernel
theorem dX2_worth_11 : decode cX2_worth 11 = .ok (.if_icmp .ge 29, 3) := by decide +kernel
theorem dX2_worth_14 : decode cX2_worth 14 = .ok (.aload_n 1, 1) := by decide +kernel
theorem dX2_worth_15 : decode cX2_worth 15 = .ok (.iload 4, 2) := by decide +kernel
theorem dX2_worth_17 : decode cX2_worth 17 = .ok (.aload_n 0, 1) := by decide +kernel
theorem dX2_worth_18 : decode cX2_worth 18 = .ok (.getfield 31, 3) := by decide +kernel
theorem dX2_worth_21 : decode cX2_worth 21 = .ok (.iload 4, 2) := by decide +kernel
theorem dX2_worth_23 : decode cX2_worth 23 = .ok (.iaload, 1) := by decide +kernel
theorem dX2_worth_24 : decode cX2_worth 24 = .ok (.iload_n 2, 1) := by decide +kernel
theorem dX2_worth_25 : decode cX2_worth 25 = .ok (.invokevirtual 104, 3) := by decide +kernel
theorem dX2_worth_28 : decode cX2_worth 28 = .ok (.ifCond .eq 6, 3) := by decide +kernel
theorem dX2_worth_31 : decode cX2_worth 31 = .ok (.iinc 3 1, 3) := by decide +kernel
theorem dX2_worth_34 : decode cX2_worth 34 = .ok (.iinc 4 1, 3) := by decide +kernel
theorem dX2_worth_37 : decode cX2_worth 37 = .ok (.goto (-32), 3) := by decide +kernel
theorem dX2_worth_40 : decode cX2_worth 40 = .ok (.iload_n 3, 1) := by decide +kernel
theorem dX2_worth_41 : decode cX2_worth 41 = .ok (.ireturn, 1) := by decide +kernel
theorem dX2_holdings_0 : decode cX2_holdings 0 = .ok (.iconst 0, 1) := by decide +kernel
theorem dX2_holdings_1 : decode cX2_holdings 1 = .ok (.istore_n 3, 1) := by decide +kernel
theorem dX2_holdings_2 : decode cX2_holdings 2 = .ok (.iconst 0, 1) := by decide +kernel
theorem dX2_holdings_3 : decode cX2_holdings 3 = .ok (.istore 4, 2) := by decide +kernel
theorem dX2_holdings_5 : decode cX2_holdings 5 = .ok (.iload 4, 2) := by decide +kernel
theorem dX2_holdings_7 : decode cX2_holdings 7 = .ok (.aload_n 1, 1) := by decide +kernel
theorem dX2_holdings_8 : decode cX2_holdings 8 = .ok (.getfield 63, 3) := by decide +kernel
theorem dX2_holdings_11 : decode cX2_holdings 11 = .ok (.if_icmp .ge 27, 3) := by decide +kernel
theorem dX2_holdings_14 : decode cX2_holdings 14 = .ok (.aload_n 0, 1) := by decide +kernel
theorem dX2_holdings_15 : decode cX2_holdings 15 = .ok (.getfield 28, 3) := by decide +kernel
theorem dX2_holdings_18 : decode cX2_holdings 18 = .ok (.iload 4, 2) := by decide +kernel
theorem dX2_holdings_20 : decode cX2_holdings 20 = .ok (.iaload, 1) := by decide +kernel
theorem dX2_holdings_21 : decode cX2_holdings 21 = .ok (.iload_n 2, 1) := by decide +kernel
theorem dX2_holdings_22 : decode cX2_holdings 22 = .ok (.if_icmp .ne 10, 3) := by decide +kernel
theorem dX2_holdings_25 : decode cX2_holdings 25 = .ok (.iload_n 3, 1) := by decide +kernel
theorem dX2_holdings_26 : decode cX2_holdings 26 = .ok (.iconst 1, 1) := by decide +kernel
theorem dX2_holdings_27 : decode cX2_holdings 27 = .ok (.iload 4, 2) := by decide +kernel
theorem dX2_holdings_29 : decode cX2_holdings 29 = .ok (.ishl, 1) := by decide +kernel
theorem dX2_holdings_30 : decode cX2_holdings 30 = .ok (.ior, 1) := by decide +kernel
theorem dX2_holdings_31 : decode cX2_holdings 31 = .ok (.istore_n 3, 1) := by decide +kernel
theorem dX2_holdings_32 : decode cX2_holdings 32 = .ok (.iinc 4 1, 3) := by decide +kernel
theorem dX2_holdings_35 : decode cX2_holdings 35 = .ok (.goto (-30), 3) := by decide +kernel
theorem dX2_holdings_38 : decode cX2_holdings 38 = .ok (.iload_n 3, 1) := by decide +kernel
theorem dX2_holdings_39 : decode cX2_holdings 39 = .ok (.ireturn, 1) := by decide +kernel
theorem dX2_holder_0 : decode cX2_holder 0 = .ok (.iconst (-1), 1) := by decide +kernel
theorem dX2_holder_1 : decode cX2_holder 1 = .ok (.istore_n 2, 1) := by decide +kernel
theorem dX2_holder_2 : decode cX2_holder 2 = .ok (.iconst 0, 1) := by decide +kernel
theorem dX2_holder_3 : decode cX2_holder 3 = .ok (.istore_n 3, 1) := by decide +kernel
theorem dX2_holder_4 : decode cX2_holder 4 = .ok (.iconst 0, 1) := by decide +kernel
theorem dX2_holder_5 : decode cX2_holder 5 = .ok (.istore 4, 2) := by decide +kernel
theorem dX2_holder_7 : decode cX2_holder 7 = .ok (.iload 4, 2) := by decide +kernel
theorem dX2_holder_9 : decode cX2_holder 9 = .ok (.aload_n 1, 1) := by decide +kernel
theorem dX2_holder_10 : decode cX2_holder 10 = .ok (.getfield 101, 3) := by decide +kernel
theorem dX2_holder_13 : decode cX2_holder 13 = .ok (.if_icmp .ge 33, 3) := by decide +kernel
theorem dX2_holder_16 : decode cX2_holder 16 = .ok (.aload_n 0, 1) := by decide +kernel
theorem dX2_holder_17 : decode cX2_holder 17 = .ok (.aload_n 1, 1) := by decide +kernel
theorem dX2_holder_18 : decode cX2_holder 18 = .ok (.iload 4, 2) := by decide +kernel
theorem dX2_holder_20 : decode cX2_holder 20 = .ok (.invokevirtual 108, 3) := by decide +kernel
theorem dX2_holder_23 : decode cX2_holder 23 = .ok (.invokestatic 111, 3) := by decide +kernel
theorem dX2_holder_26 : decode cX2_holder 26 = .ok (.istore 5, 2) := by decide +kernel
theorem dX2_holder_28 : decode cX2_holder 28 = .ok (.iload 5, 2) := by decide +kernel
theorem dX2_holder_30 : decode cX2_holder 30 = .ok (.iload_n 3, 1) := by decide +kernel
theorem dX2_holder_31 : decode cX2_holder 31 = .ok (.if_icmp .le 9, 3) := by decide +kernel
theorem dX2_holder_34 : decode cX2_holder 34 = .ok (.iload 5, 2) := by decide +kernel
theorem dX2_holder_36 : decode cX2_holder 36 = .ok (.istore_n 3, 1) := by decide +kernel
theorem dX2_holder_37 : decode cX2_holder 37 = .ok (.iload 4, 2) := by decide +kernel
theorem dX2_holder_39 : decode cX2_holder 39 = .ok (.istore_n 2, 1) := by decide +kernel
theorem dX2_holder_40 : decode cX2_holder 40 = .ok (.iinc 4 1, 3) := by decide +kernel
theorem dX2_holder_43 : decode cX2_holder 43 = .ok (.goto (-36), 3) := by decide +kernel
theorem dX2_holder_46 : decode cX2_holder 46 = .ok (.iload_n 2, 1) := by decide +kernel
theorem dX2_holder_47 : decode cX2_holder 47 = .ok (.ireturn, 1) := by decide +kernel
theorem dX3_init_0 : decode cX3_init 0 = .ok (.aload_n 0, 1) := by decide +kernel
theorem dX3_init_1 : decode cX3_init 1 = .ok (.invokespecial 3, 3) := by decide +kernel
theorem dX3_init_4 : decode cX3_init 4 = .ok (.aload_n 0, 1) := by decide +kernel
theorem dX3_init_5 : decode cX3_init 5 = .ok (.iconst (-1), 1) := by decide +kernel
theorem dX3_init_6 : decode cX3_init 6 = .ok (.putfield 9, 3) := by decide +kernel
theorem dX3_init_9 : decode cX3_init 9 = .ok (.aload_n 0, 1) := by decide +kernel
theorem dX3_init_10 : decode cX3_init 10 = .ok (.iconst (-1), 1) := by decide +kernel
theorem dX3_init_11 : decode cX3_init 11 = .ok (.putfield 15, 3) := by decide +kernel
theorem dX3_init_14 : decode cX3_init 14 = .ok (.aload_n 0, 1) := by decide +kernel
theorem dX3_init_15 : decode cX3_init 15 = .ok (.bipush 6, 2) := by decide +kernel
theorem dX3_init_17 : decode cX3_init 17 = .ok (.bipush 7, 2) := by decide +kernel
theorem dX3_init_19 : decode cX3_init 19 = .ok (.multianewarray 18 2, 4) := by decide +kernel
theorem dX3_init_23 : decode cX3_init 23 = .ok (.putfield 20, 3) := by decide +kernel
theorem dX3_init_26 : decode cX3_init 26 = .ok (.aload_n 0, 1) := by decide +kernel
theorem dX3_init_27 : decode cX3_init 27 = .ok (.bipush 6, 2) := by decide +kernel
theorem dX3_init_29 : decode cX3_init 29 = .ok (.bipush 7, 2) := by decide +kernel
theorem dX3_init_31 : decode cX3_init 31 = .ok (.multianewarray 18 2, 4) := by decide +kernel
theorem dX3_init_35 : decode cX3_init 35 = .ok (.putfield 23, 3) := by decide +kernel
theorem dX3_init_38 : decode cX3_init 38 = .ok (.return_, 1) := by decide +kernel
theorem dX3_plan_0 : decode cX3_plan 0 = .ok (.aload_n 0, 1) := by decide +kernel
theorem dX3_plan_1 : decode cX3_plan 1 = .ok (.aload_n 1, 1) := by decide +kernel
theorem dX3_plan_2 : decode cX3_plan 2 = .ok (.aload_n 2, 1) := by decide +kernel
theorem dX3_plan_3 : decode cX3_plan 3 = .ok (.iload_n 3, 1) := by decide +kernel
theorem dX3_plan_4 : decode cX3_plan 4 = .ok (.iload 4, 2) := by decide +kernel
theorem dX3_plan_6 : decode cX3_plan 6 = .ok (.invokevirtual 26, 3) := by decide +kernel
theorem dX3_plan_9 : decode cX3_plan 9 = .ok (.istore 5, 2) := by decide +kernel
theorem dX3_plan_11 : decode cX3_plan 11 = .ok (.aload_n 0, 1) := by decide +kernel
theorem dX3_plan_12 : decode cX3_plan 12 = .ok (.iload 5, 2) := by decide +kernel
theorem dX3_plan_14 : decode cX3_plan 14 = .ok (.ifCond .ne 7, 3) := by decide +kernel
theorem dX3_plan_17 : decode cX3_plan 17 = .ok (.iconst 0, 1) := by decide +kernel
theorem dX3_plan_18 : decode cX3_plan 18 = .ok (.goto 4, 3) := by decide +kernel
theorem dX3_plan_21 : decode cX3_plan 21 = .ok (.iconst (-1), 1) := by decide +kernel
theorem dX3_plan_22 : decode cX3_plan 22 = .ok (.putfield 9, 3) := by decide +kernel
theorem dX3_plan_25 : decode cX3_plan 25 = .ok (.aload_n 0, 1) := by decide +kernel
theorem dX3_plan_26 : decode cX3_plan 26 = .ok (.iconst (-1), 1) := by decide +kernel
theorem dX3_plan_27 : decode cX3_plan 27 = .ok (.putfield 15, 3) := by decide +kernel
theorem dX3_plan_30 : decode cX3_plan 30 = .ok (.iload 5, 2) := by decide +kernel
theorem dX3_plan_32 : decode cX3_plan 32 = .ok (.ifCond .ne 4, 3) := by decide +kernel
theorem dX3_plan_35 : decode cX3_plan 35 = .ok (.return_, 1) := by decide +kernel
theorem dX3_plan_36 : decode cX3_plan 36 = .ok (.iload 5, 2) := by decide +kernel
theorem dX3_plan_38 : decode cX3_plan 38 = .ok (.invokestatic 30, 3) := by decide +kernel
theorem dX3_plan_41 : decode cX3_plan 41 = .ok (.istore 6, 2) := by decide +kernel
theorem dX3_plan_43 : decode cX3_plan 43 = .ok (.aload_n 0, 1) := by decide +kernel
theorem dX3_plan_44 : decode cX3_plan 44 = .ok (.aload_n 1, 1) := by decide +kernel
theorem dX3_plan_45 : decode cX3_plan 45 = .ok (.iload 6, 2) := by decide +kernel
theorem dX3_plan_47 : decode cX3_plan 47 = .ok (.invokevirtual 36, 3) := by decide +kernel
theorem dX3_plan_50 : decode cX3_plan 50 = .ok (.aload_n 1, 1) := by decide +kernel
theorem dX3_plan_51 : decode cX3_plan 51 = .ok (.getfield 40, 3) := by decide +kernel
theorem dX3_plan_54 : decode cX3_plan 54 = .ok (.iconst 1, 1) := by decide +kernel
theorem dX3_plan_55 : decode cX3_plan 55 = .ok (.isub, 1) := by decide +kernel
theorem dX3_plan_56 : decode cX3_plan 56 = .ok (.istore 7, 2) := by decide +kernel
theorem dX3_plan_58 : decode cX3_plan 58 = .ok (.iload 7, 2) := by decide +kernel
theorem dX3_plan_60 : decode cX3_plan 60 = .ok (.aload_n 2, 1) := by decide +kernel
theorem dX3_plan_61 : decode cX3_plan 61 = .ok (.getfield 45, 3) := by decide +kernel
theorem dX3_plan_64 : decode cX3_plan 64 = .ok (.if_icmp .lt 89, 3) := by decide +kernel
theorem dX3_plan_67 : decode cX3_plan 67 = .ok (.aload_n 0, 1) := by decide +kernel
theorem dX3_plan_68 : decode cX3_plan 68 = .ok (.aload_n 1, 1) := by decide +kernel
theorem dX3_plan_69 : decode cX3_plan 69 = .ok (.iload 6, 2) := by decide +kernel
theorem dX3_plan_71 : decode cX3_plan 71 = .ok (.invokevirtual 50, 3) := by decide +kernel
theorem dX3_plan_74 : decode cX3_plan 74 = .ok (.iconst 0, 1) := by decide +kernel
theorem dX3_plan_75 : decode cX3_plan 75 = .ok (.istore 8, 2) := by decide +kernel
theorem dX3_plan_77 : decode cX3_plan 77 = .ok (.iload 8, 2) := by decide +kernel
theorem dX3_plan_79 : decode cX3_plan 79 = .ok (.aload_n 1, 1) := by decide +kernel
theorem dX3_plan_80 : decode cX3_plan 80 = .ok (.getfield 53, 3) := by decide +kernel
theorem dX3_plan_83 : decode cX3_plan 83 = .ok (.if_icmp .ge 64, 3) := by decide +kernel
theorem dX3_plan_86 : decode cX3_plan 86 = .ok (.aload_n 0, 1) := by decide +kernel
theorem dX3_plan_87 : decode cX3_plan 87 = .ok (.iload 8, 2) := by decide +kernel
theorem dX3_plan_89 : decode cX3_plan 89 = .ok (.aload_n 2, 1) := by decide +kernel
theorem dX3_plan_90 : decode cX3_plan 90 = .ok (.aload_n 1, 1) := by decide +kernel
theorem dX3_plan_91 : decode cX3_plan 91 = .ok (.iload_n 3, 1) := by decide +kernel
theorem dX3_plan_92 : decode cX3_plan 92 = .ok (.iload 8, 2) := by decide +kernel
theorem dX3_plan_94 : decode cX3_plan 94 = .ok (.iload 7, 2) := by decide +kernel
theorem dX3_plan_96 : decode cX3_plan 96 = .ok (.iconst 0, 1) := by decide +kernel
theorem dX3_plan_97 : decode cX3_plan 97 = .ok (.invokevirtual 56, 3) := by decide +kernel
theorem dX3_plan_100 : decode cX3_plan 100 = .ok (.iload 6, 2) := by decide +kernel
theorem dX3_plan_102 : decode cX3_plan 102 = .ok (.invokevirtual 60, 3) := by decide +kernel
theorem dX3_plan_105 : decode cX3_plan 105 = .ok (.aload_n 1, 1) := by decide +kernel
theorem dX3_plan_106 : decode cX3_plan 106 = .ok (.getfield 64, 3) := by decide +kernel
theorem dX3_plan_109 : decode cX3_plan 109 = .ok (.aload_n 2, 1) := by decide +kernel
theorem dX3_plan_110 : decode cX3_plan 110 = .ok (.getfield 68, 3) := by decide +kernel
theorem dX3_plan_113 : decode cX3_plan 113 = .ok (.iload_n 3, 1) := by decide +kernel
theorem dX3_plan_114 : decode cX3_plan 114 = .ok (.iaload, 1) := by decide +kernel
theorem dX3_plan_115 : decode cX3_plan 115 = .ok (.aaload, 1) := by decide +kernel
theorem dX3_plan_116 : decode cX3_plan 116 = .ok (.iload 8, 2) := by decide +kernel
theorem dX3_plan_118 : decode cX3_plan 118 = .ok (.iaload, 1) := by decide +kernel
theorem dX3_plan_119 : decode cX3_plan 119 = .ok (.iload 7, 2) := by decide +kernel
theorem dX3_plan_121 : decode cX3_plan 121 = .ok (.aload_n 2, 1) := by decide +kernel
theorem dX3_plan_122 : decode cX3_plan 122 = .ok (.getfield 45, 3) := by decide +kernel
theorem dX3_plan_125 : decode cX3_plan 125 = .ok (.isub, 1) := by decide +kernel
theorem dX3_plan_126 : decode cX3_plan 126 = .ok (.if_icmp .gt 15, 3) := by decide +kernel
theorem dX3_plan_129 : decode cX3_plan 129 = .ok (.aload_n 0, 1) := by decide +kernel
theorem dX3_plan_130 : decode cX3_plan 130 = .ok (.iload 8, 2) := by decide +kernel
theorem dX3_plan_132 : decode cX3_plan 132 = .ok (.iload 5, 2) := by decide +kernel
theorem dX3_plan_134 : decode cX3_plan 134 = .ok (.iload 6, 2) := by decide +kernel
theorem dX3_plan_136 : decode cX3_plan 136 = .ok (.iload 7, 2) := by decide +kernel
theorem dX3_plan_138 : decode cX3_plan 138 = .ok (.invokevirtual 72, 3) := by decide +kernel
theorem dX3_plan_141 : decode cX3_plan 141 = .ok (.iinc 8 1, 3) := by decide +kernel
theorem dX3_plan_144 : decode cX3_plan 144 = .ok (.goto (-67), 3) := by decide +kernel
theorem dX3_plan_147 : decode cX3_plan 147 = .ok (.iinc 7 (-1), 3) := by decide +kernel
theorem dX3_plan_150 : decode cX3_plan 150 = .ok (.goto (-92), 3) := by decide +kernel
theorem dX3_plan_153 : decode cX3_plan 153 = .ok (.return_, 1) := by decide +kernel
theorem dX3_missingOf_0 : decode cX3_missingOf 0 = .ok (.iconst 0, 1) := by decide +kernel
theorem dX3_missingOf_1 : decode cX3_missingOf 1 = .ok (.istore 5, 2) := by decide +kernel
theorem dX3_missingOf_3 : decode cX3_missingOf 3 = .ok (.iconst 0, 1) := by decide +kernel
theorem dX3_missingOf_4 : decode cX3_missingOf 4 = .ok (.istore 6, 2) := by decide +kernel
theorem dX3_missingOf_6 : decode cX3_missingOf 6 = .ok (.iload 6, 2) := by decide +kernel
theorem dX3_missingOf_8 : decode cX3_missingOf 8 = .ok (.aload_n 1, 1) := by decide +kernel
theorem dX3_missingOf_9 : decode cX3_missingOf 9 = .ok (.getfield 53, 3) := by decide +kernel
theorem dX3_missingOf_12 : decode cX3_missingOf 12 = .ok (.if_icmp .ge 44, 3) := by decide +kernel
theorem dX3_missingOf_15 : decode cX3_missingOf 15 = .ok (.iload 4, 2) := by decide +kernel
theorem dX3_missingOf_17 : decode cX3_missingOf 17 = .ok (.iload 6, 2) := by decide +kernel
theorem dX3_missingOf_19 : decode cX3_missingOf 19 = .ok (.ishr, 1) := by decide +kernel
theorem dX3_missingOf_20 : decode cX3_missingOf 20 = .ok (.iconst 1, 1) := by decide +kernel
theorem dX3_missingOf_21 : decode cX3_missingOf 21 = .ok (.iand, 1) := by decide +kernel
theorem dX3_missingOf_22 : decode cX3_missingOf 22 = .ok (.ifCond .eq 28, 3) := by decide +kernel
theorem dX3_missingOf_25 : decode cX3_missingOf 25 = .ok (.aload_n 2, 1) := by decide +kernel
theorem dX3_missingOf_26 : decode cX3_missingOf 26 = .ok (.iload 6, 2) := by decide +kernel
theorem dX3_missingOf_28 : decode cX3_missingOf 28 = .ok (.iconst 0, 1) := by decide +kernel
theorem dX3_missingOf_29 : decode cX3_missingOf 29 = .ok (.invokevirtual 76, 3) := by decide +kernel
theorem dX3_missingOf_32 : decode cX3_missingOf 32 = .ok (.aload_n 1, 1) := by decide +kernel
theorem dX3_missingOf_33 : decode cX3_missingOf 33 = .ok (.iload_n 3, 1) := by decide +kernel
theorem dX3_missingOf_34 : decode cX3_missingOf 34 = .ok (.iconst 0, 1) := by decide +kernel
theorem dX3_missingOf_35 : decode cX3_missingOf 35 = .ok (.invokevirtual 80, 3) := by decide +kernel
theorem dX3_missingOf_38 : decode cX3_missingOf 38 = .ok (.if_icmp .eq 12, 3) := by decide +kernel
theorem dX3_missingOf_41 : decode cX3_missingOf 41 = .ok (.iload 5, 2) := by decide +kernel
theorem dX3_missingOf_43 : decode cX3_missingOf 43 = .ok (.iconst 1, 1) := by decide +kernel
theorem dX3_missingOf_44 : decode cX3_missingOf 44 = .ok (.iload 6, 2) := by decide +kernel
theorem dX3_missingOf_46 : decode cX3_missingOf 46 = .ok (.ishl, 1) := by decide +kernel
theorem dX3_missingOf_47 : decode cX3_missingOf 47 = .ok (.ior, 1) := by decide +kernel
theorem dX3_missingOf_48 : decode cX3_missingOf 48 = .ok (.istore 5, 2) := by decide +kernel
theorem dX3_missingOf_50 : decode cX3_missingOf 50 = .ok (.iinc 6 1, 3) := by decide +kernel
theorem dX3_missingOf_53 : decode cX3_missingOf 53 = .ok (.goto (-47), 3) := by decide +kernel
theorem dX3_missingOf_56 : decode cX3_missingOf 56 = .ok (.iload 5, 2) := by decide +kernel
theorem dX3_missingOf_58 : decode cX3_missingOf 58 = .ok (.ireturn, 1) := by decide +kernel
theorem dX3_beginAtMorning_0 : decode cX3_beginAtMorning 0 = .ok (.iconst 0, 1) := by decide +kernel
theorem dX3_beginAtMorning_1 : decode cX3_beginAtMorning 1 = .ok (.istore_n 3, 1) := by decide +kernel
theorem dX3_beginAtMorning_2 : decode cX3_beginAtMorning 2 = .ok (.iload_n 3, 1) := by decide +kernel
theorem dX3_beginAtMorning_3 : decode cX3_beginAtMorning 3 = .ok (.aload_n 1, 1) := by decide +kernel
theorem dX3_beginAtMorning_4 : decode cX3_beginAtMorning 4 = .ok (.getfield 53, 3) := by decide +kernel
theorem dX3_beginAtMorning_7 : decode cX3_beginAtMorning 7 = .ok (.if_icmp .ge 34, 3) := by decide +kernel
theorem dX3_beginAtMorning_10 : decode cX3_beginAtMorning 10 = .ok (.iconst 0, 1) := by decide +kernel
theorem dX3_beginAtMorning_11 : decode cX3_beginAtMorning 11 = .ok (.istore 4, 2) := by decide +kernel
theorem dX3_beginAtMorning_13 : decode cX3_beginAtMorning 13 = .ok (.iload 4, 2) := by decide +kernel
theorem dX3_beginAtMorning_15 : decode cX3_beginAtMorning 15 = .ok (.iload_n 2, 1) := by decide +kernel
theorem dX3_beginAtMorning_16 : decode cX3_beginAtMorning 16 = .ok (.if_icmp .gt 19, 3) := by decide +kernel
theorem dX3_beginAtMorning_19 : decode cX3_beginAtMorning 19 = .ok (.aload_n 0, 1) := by decide +kernel
theorem dX3_beginAtMorning_20 : decode cX3_beginAtMorning 20 = .ok (.getfield 20, 3) := by decide +kernel
theorem dX3_beginAtMorning_23 : decode cX3_beginAtMorning 23 = .ok (.iload_n 3, 1) := by decide +kernel
theorem dX3_beginAtMorning_24 : decode cX3_beginAtMorning 24 = .ok (.aaload, 1) := by decide +kernel
theorem dX3_beginAtMorning_25 : decode cX3_beginAtMorning 25 = .ok (.iload 4, 2) := by decide +kernel
theorem dX3_beginAtMorning_27 : decode cX3_beginAtMorning 27 = .ok (.lconst 1, 1) := by decide +kernel
theorem dX3_beginAtMorning_28 : decode cX3_beginAtMorning 28 = .ok (.lastore, 1) := by decide +kernel
theorem dX3_beginAtMorning_29 : decode cX3_beginAtMorning 29 = .ok (.iinc 4 1, 3) := by decide +kernel
theorem dX3_beginAtMorning_32 : decode cX3_beginAtMorning 32 = .ok (.goto (-19), 3) := by decide +kernel
theorem dX3_beginAtMorning_35 : decode cX3_beginAtMorning 35 = .ok (.iinc 3 1, 3) := by decide +kernel
theorem dX3_beginAtMorning_38 : decode cX3_beginAtMorning 38 = .ok (.goto (-36), 3) := by decide +kernel
theorem dX3_beginAtMorning_41 : decode cX3_beginAtMorning 41 = .ok (.return_, 1) := by decide +kernel
theorem dX3_goOrStay_0 : decode cX3_goOrStay 0 = .ok (.iconst 0, 1) := by decide +kernel
theorem dX3_goOrStay_1 : decode cX3_goOrStay 1 = .ok (.istore_n 3, 1) := by decide +kernel
theorem dX3_goOrStay_2 : decode cX3_goOrStay 2 = .ok (.iload_n 3, 1) := by decide +kernel
theorem dX3_goOrStay_3 : decode cX3_goOrStay 3 = .ok (.aload_n 1, 1) := by decide +kernel
theorem dX3_goOrStay_4 : decode cX3_goOrStay 4 = .ok (.getfield 53, 3) := by decide +kernel
theorem dX3_goOrStay_7 : decode cX3_goOrStay 7 = .ok (.if_icmp .ge 29, 3) := by decide +kernel
end
section
theorem dX3_goOrStay_10 : decode cX3_goOrStay 10 = .ok (.aload_n 0, 1) := by decide +kernel
theorem dX3_goOrStay_11 : decode cX3_goOrStay 11 = .ok (.getfield 20, 3) := by decide +kernel
theorem dX3_goOrStay_14 : decode cX3_goOrStay 14 = .ok (.iload_n 3, 1) := by decide +kernel
theorem dX3_goOrStay_15 : decode cX3_goOrStay 15 = .ok (.aaload, 1) := by decide +kernel
theorem dX3_goOrStay_16 : decode cX3_goOrStay 16 = .ok (.iconst 0, 1) := by decide +kernel
theorem dX3_goOrStay_17 : decode cX3_goOrStay 17 = .ok (.aload_n 0, 1) := by decide +kernel
theorem dX3_goOrStay_18 : decode cX3_goOrStay 18 = .ok (.getfield 23, 3) := by decide +kernel
theorem dX3_goOrStay_21 : decode cX3_goOrStay 21 = .ok (.iload_n 3, 1) := by decide +kernel
theorem dX3_goOrStay_22 : decode cX3_goOrStay 22 = .ok (.aaload, 1) := by decide +kernel
theorem dX3_goOrStay_23 : decode cX3_goOrStay 23 = .ok (.iconst 0, 1) := by decide +kernel
theorem dX3_goOrStay_24 : decode cX3_goOrStay 24 = .ok (.iload_n 2, 1) := by decide +kernel
theorem dX3_goOrStay_25 : decode cX3_goOrStay 25 = .ok (.iconst 1, 1) := by decide +kernel
theorem dX3_goOrStay_26 : decode cX3_goOrStay 26 = .ok (.iadd, 1) := by decide +kernel
theorem dX3_goOrStay_27 : decode cX3_goOrStay 27 = .ok (.invokestatic 83, 3) := by decide +kernel
theorem dX3_goOrStay_30 : decode cX3_goOrStay 30 = .ok (.iinc 3 1, 3) := by decide +kernel
theorem dX3_goOrStay_33 : decode cX3_goOrStay 33 = .ok (.goto (-31), 3) := by decide +kernel
theorem dX3_goOrStay_36 : decode cX3_goOrStay 36 = .ok (.iconst 0, 1) := by decide +kernel
theorem dX3_goOrStay_37 : decode cX3_goOrStay 37 = .ok (.istore_n 3, 1) := by decide +kernel
theorem dX3_goOrStay_38 : decode cX3_goOrStay 38 = .ok (.iload_n 3, 1) := by decide +kernel
theorem dX3_goOrStay_39 : decode cX3_goOrStay 39 = .ok (.aload_n 1, 1) := by decide +kernel
theorem dX3_goOrStay_40 : decode cX3_goOrStay 40 = .ok (.getfield 89, 3) := by decide +kernel
theorem dX3_goOrStay_43 : decode cX3_goOrStay 43 = .ok (.if_icmp .ge 86, 3) := by decide +kernel
theorem dX3_goOrStay_46 : decode cX3_goOrStay 46 = .ok (.aload_n 1, 1) := by decide +kernel
theorem dX3_goOrStay_47 : decode cX3_goOrStay 47 = .ok (.getfield 92, 3) := by decide +kernel
theorem dX3_goOrStay_50 : decode cX3_goOrStay 50 = .ok (.iload_n 3, 1) := by decide +kernel
theorem dX3_goOrStay_51 : decode cX3_goOrStay 51 = .ok (.iaload, 1) := by decide +kernel
theorem dX3_goOrStay_52 : decode cX3_goOrStay 52 = .ok (.istore 4, 2) := by decide +kernel
theorem dX3_goOrStay_54 : decode cX3_goOrStay 54 = .ok (.aload_n 1, 1) := by decide +kernel
theorem dX3_goOrStay_55 : decode cX3_goOrStay 55 = .ok (.getfield 95, 3) := by decide +kernel
theorem dX3_goOrStay_58 : decode cX3_goOrStay 58 = .ok (.iload_n 3, 1) := by decide +kernel
theorem dX3_goOrStay_59 : decode cX3_goOrStay 59 = .ok (.iaload, 1) := by decide +kernel
theorem dX3_goOrStay_60 : decode cX3_goOrStay 60 = .ok (.istore 5, 2) := by decide +kernel
theorem dX3_goOrStay_62 : decode cX3_goOrStay 62 = .ok (.iconst 0, 1) := by decide +kernel
theorem dX3_goOrStay_63 : decode cX3_goOrStay 63 = .ok (.istore 6, 2) := by decide +kernel
theorem dX3_goOrStay_65 : decode cX3_goOrStay 65 = .ok (.iload 6, 2) := by decide +kernel
theorem dX3_goOrStay_67 : decode cX3_goOrStay 67 = .ok (.iload_n 2, 1) := by decide +kernel
theorem dX3_goOrStay_68 : decode cX3_goOrStay 68 = .ok (.if_icmp .gt 55, 3) := by decide +kernel
theorem dX3_goOrStay_71 : decode cX3_goOrStay 71 = .ok (.aload_n 0, 1) := by decide +kernel
theorem dX3_goOrStay_72 : decode cX3_goOrStay 72 = .ok (.getfield 23, 3) := by decide +kernel
theorem dX3_goOrStay_75 : decode cX3_goOrStay 75 = .ok (.iload 4, 2) := by decide +kernel
theorem dX3_goOrStay_77 : decode cX3_goOrStay 77 = .ok (.aaload, 1) := by decide +kernel
theorem dX3_goOrStay_78 : decode cX3_goOrStay 78 = .ok (.iload 6, 2) := by decide +kernel
theorem dX3_goOrStay_80 : decode cX3_goOrStay 80 = .ok (.dup2, 1) := by decide +kernel
theorem dX3_goOrStay_81 : decode cX3_goOrStay 81 = .ok (.laload, 1) := by decide +kernel
theorem dX3_goOrStay_82 : decode cX3_goOrStay 82 = .ok (.aload_n 0, 1) := by decide +kernel
theorem dX3_goOrStay_83 : decode cX3_goOrStay 83 = .ok (.getfield 20, 3) := by decide +kernel
theorem dX3_goOrStay_86 : decode cX3_goOrStay 86 = .ok (.iload 5, 2) := by decide +kernel
theorem dX3_goOrStay_88 : decode cX3_goOrStay 88 = .ok (.aaload, 1) := by decide +kernel
theorem dX3_goOrStay_89 : decode cX3_goOrStay 89 = .ok (.iload 6, 2) := by decide +kernel
theorem dX3_goOrStay_91 : decode cX3_goOrStay 91 = .ok (.laload, 1) := by decide +kernel
theorem dX3_goOrStay_92 : decode cX3_goOrStay 92 = .ok (.lor, 1) := by decide +kernel
theorem dX3_goOrStay_93 : decode cX3_goOrStay 93 = .ok (.lastore, 1) := by decide +kernel
theorem dX3_goOrStay_94 : decode cX3_goOrStay 94 = .ok (.aload_n 0, 1) := by decide +kernel
theorem dX3_goOrStay_95 : decode cX3_goOrStay 95 = .ok (.getfield 23, 3) := by decide +kernel
theorem dX3_goOrStay_98 : decode cX3_goOrStay 98 = .ok (.iload 5, 2) := by decide +kernel
theorem dX3_goOrStay_100 : decode cX3_goOrStay 100 = .ok (.aaload, 1) := by decide +kernel
theorem dX3_goOrStay_101 : decode cX3_goOrStay 101 = .ok (.iload 6, 2) := by decide +kernel
theorem dX3_goOrStay_103 : decode cX3_goOrStay 103 = .ok (.dup2, 1) := by decide +kernel
theorem dX3_goOrStay_104 : decode cX3_goOrStay 104 = .ok (.laload, 1) := by decide +kernel
theorem dX3_goOrStay_105 : decode cX3_goOrStay 105 = .ok (.aload_n 0, 1) := by decide +kernel
theorem dX3_goOrStay_106 : decode cX3_goOrStay 106 = .ok (.getfield 20, 3) := by decide +kernel
theorem dX3_goOrStay_109 : decode cX3_goOrStay 109 = .ok (.iload 4, 2) := by decide +kernel
theorem dX3_goOrStay_111 : decode cX3_goOrStay 111 = .ok (.aaload, 1) := by decide +kernel
theorem dX3_goOrStay_112 : decode cX3_goOrStay 112 = .ok (.iload 6, 2) := by decide +kernel
theorem dX3_goOrStay_114 : decode cX3_goOrStay 114 = .ok (.laload, 1) := by decide +kernel
theorem dX3_goOrStay_115 : decode cX3_goOrStay 115 = .ok (.lor, 1) := by decide +kernel
theorem dX3_goOrStay_116 : decode cX3_goOrStay 116 = .ok (.lastore, 1) := by decide +kernel
theorem dX3_goOrStay_117 : decode cX3_goOrStay 117 = .ok (.iinc 6 1, 3) := by decide +kernel
theorem dX3_goOrStay_120 : decode cX3_goOrStay 120 = .ok (.goto (-55), 3) := by decide +kernel
theorem dX3_goOrStay_123 : decode cX3_goOrStay 123 = .ok (.iinc 3 1, 3) := by decide +kernel
theorem dX3_goOrStay_126 : decode cX3_goOrStay 126 = .ok (.goto (-88), 3) := by decide +kernel
theorem dX3_goOrStay_129 : decode cX3_goOrStay 129 = .ok (.return_, 1) := by decide +kernel
theorem dX3_sayOrNot_0 : decode cX3_sayOrNot 0 = .ok (.iconst 1, 1) := by decide +kernel
theorem dX3_sayOrNot_1 : decode cX3_sayOrNot 1 = .ok (.istore 4, 2) := by decide +kernel
theorem dX3_sayOrNot_3 : decode cX3_sayOrNot 3 = .ok (.iload 4, 2) := by decide +kernel
theorem dX3_sayOrNot_5 : decode cX3_sayOrNot 5 = .ok (.iload_n 3, 1) := by decide +kernel
theorem dX3_sayOrNot_6 : decode cX3_sayOrNot 6 = .ok (.if_icmp .gt 44, 3) := by decide +kernel
theorem dX3_sayOrNot_9 : decode cX3_sayOrNot 9 = .ok (.aload_n 0, 1) := by decide +kernel
theorem dX3_sayOrNot_10 : decode cX3_sayOrNot 10 = .ok (.getfield 20, 3) := by decide +kernel
theorem dX3_sayOrNot_13 : decode cX3_sayOrNot 13 = .ok (.iload_n 1, 1) := by decide +kernel
theorem dX3_sayOrNot_14 : decode cX3_sayOrNot 14 = .ok (.aaload, 1) := by decide +kernel
theorem dX3_sayOrNot_15 : decode cX3_sayOrNot 15 = .ok (.iload 4, 2) := by decide +kernel
theorem dX3_sayOrNot_17 : decode cX3_sayOrNot 17 = .ok (.aload_n 0, 1) := by decide +kernel
theorem dX3_sayOrNot_18 : decode cX3_sayOrNot 18 = .ok (.getfield 23, 3) := by decide +kernel
theorem dX3_sayOrNot_21 : decode cX3_sayOrNot 21 = .ok (.iload_n 1, 1) := by decide +kernel
theorem dX3_sayOrNot_22 : decode cX3_sayOrNot 22 = .ok (.aaload, 1) := by decide +kernel
theorem dX3_sayOrNot_23 : decode cX3_sayOrNot 23 = .ok (.iload 4, 2) := by decide +kernel
theorem dX3_sayOrNot_25 : decode cX3_sayOrNot 25 = .ok (.laload, 1) := by decide +kernel
theorem dX3_sayOrNot_26 : decode cX3_sayOrNot 26 = .ok (.aload_n 0, 1) := by decide +kernel
theorem dX3_sayOrNot_27 : decode cX3_sayOrNot 27 = .ok (.aload_n 0, 1) := by decide +kernel
theorem dX3_sayOrNot_28 : decode cX3_sayOrNot 28 = .ok (.getfield 23, 3) := by decide +kernel
theorem dX3_sayOrNot_31 : decode cX3_sayOrNot 31 = .ok (.iload_n 1, 1) := by decide +kernel
theorem dX3_sayOrNot_32 : decode cX3_sayOrNot 32 = .ok (.aaload, 1) := by decide +kernel
theorem dX3_sayOrNot_33 : decode cX3_sayOrNot 33 = .ok (.iload 4, 2) := by decide +kernel
theorem dX3_sayOrNot_35 : decode cX3_sayOrNot 35 = .ok (.iconst 1, 1) := by decide +kernel
theorem dX3_sayOrNot_36 : decode cX3_sayOrNot 36 = .ok (.isub, 1) := by decide +kernel
theorem dX3_sayOrNot_37 : decode cX3_sayOrNot 37 = .ok (.laload, 1) := by decide +kernel
theorem dX3_sayOrNot_38 : decode cX3_sayOrNot 38 = .ok (.iload_n 2, 1) := by decide +kernel
theorem dX3_sayOrNot_39 : decode cX3_sayOrNot 39 = .ok (.invokevirtual 98, 3) := by decide +kernel
theorem dX3_sayOrNot_42 : decode cX3_sayOrNot 42 = .ok (.lor, 1) := by decide +kernel
theorem dX3_sayOrNot_43 : decode cX3_sayOrNot 43 = .ok (.lastore, 1) := by decide +kernel
theorem dX3_sayOrNot_44 : decode cX3_sayOrNot 44 = .ok (.iinc 4 1, 3) := by decide +kernel
theorem dX3_sayOrNot_47 : decode cX3_sayOrNot 47 = .ok (.goto (-44), 3) := by decide +kernel
theorem dX3_sayOrNot_50 : decode cX3_sayOrNot 50 = .ok (.return_, 1) := by decide +kernel
theorem dX3_winnable_0 : decode cX3_winnable 0 = .ok (.lload_n 1, 1) := by decide +kernel
theorem dX3_winnable_1 : decode cX3_winnable 1 = .ok (.lstore 4, 2) := by decide +kernel
theorem dX3_winnable_3 : decode cX3_winnable 3 = .ok (.iconst 0, 1) := by decide +kernel
theorem dX3_winnable_4 : decode cX3_winnable 4 = .ok (.istore 6, 2) := by decide +kernel
theorem dX3_winnable_6 : decode cX3_winnable 6 = .ok (.iload 6, 2) := by decide +kernel
theorem dX3_winnable_8 : decode cX3_winnable 8 = .ok (.bipush 6, 2) := by decide +kernel
theorem dX3_winnable_10 : decode cX3_winnable 10 = .ok (.if_icmp .ge 41, 3) := by decide +kernel
theorem dX3_winnable_13 : decode cX3_winnable 13 = .ok (.iload_n 3, 1) := by decide +kernel
theorem dX3_winnable_14 : decode cX3_winnable 14 = .ok (.iload 6, 2) := by decide +kernel
theorem dX3_winnable_16 : decode cX3_winnable 16 = .ok (.ishr, 1) := by decide +kernel
theorem dX3_winnable_17 : decode cX3_winnable 17 = .ok (.iconst 1, 1) := by decide +kernel
theorem dX3_winnable_18 : decode cX3_winnable 18 = .ok (.iand, 1) := by decide +kernel
theorem dX3_winnable_19 : decode cX3_winnable 19 = .ok (.ifCond .eq 26, 3) := by decide +kernel
theorem dX3_winnable_22 : decode cX3_winnable 22 = .ok (.lload 4, 2) := by decide +kernel
theorem dX3_winnable_24 : decode cX3_winnable 24 = .ok (.getstatic 102, 3) := by decide +kernel
theorem dX3_winnable_27 : decode cX3_winnable 27 = .ok (.iload 6, 2) := by decide +kernel
theorem dX3_winnable_29 : decode cX3_winnable 29 = .ok (.laload, 1) := by decide +kernel
theorem dX3_winnable_30 : decode cX3_winnable 30 = .ok (.land, 1) := by decide +kernel
theorem dX3_winnable_31 : decode cX3_winnable 31 = .ok (.lstore 4, 2) := by decide +kernel
theorem dX3_winnable_33 : decode cX3_winnable 33 = .ok (.lload 4, 2) := by decide +kernel
theorem dX3_winnable_35 : decode cX3_winnable 35 = .ok (.lload 4, 2) := by decide +kernel
theorem dX3_winnable_37 : decode cX3_winnable 37 = .ok (.iconst 1, 1) := by decide +kernel
theorem dX3_winnable_38 : decode cX3_winnable 38 = .ok (.iload 6, 2) := by decide +kernel
theorem dX3_winnable_40 : decode cX3_winnable 40 = .ok (.ishl, 1) := by decide +kernel
theorem dX3_winnable_41 : decode cX3_winnable 41 = .ok (.lshl, 1) := by decide +kernel
theorem dX3_winnable_42 : decode cX3_winnable 42 = .ok (.lor, 1) := by decide +kernel
theorem dX3_winnable_43 : decode cX3_winnable 43 = .ok (.lstore 4, 2) := by decide +kernel
theorem dX3_winnable_45 : decode cX3_winnable 45 = .ok (.iinc 6 1, 3) := by decide +kernel
theorem dX3_winnable_48 : decode cX3_winnable 48 = .ok (.goto (-42), 3) := by decide +kernel
theorem dX3_winnable_51 : decode cX3_winnable 51 = .ok (.lload 4, 2) := by decide +kernel
theorem dX3_winnable_53 : decode cX3_winnable 53 = .ok (.lreturn, 1) := by decide +kernel
theorem dX3_take_0 : decode cX3_take 0 = .ok (.iconst 1, 1) := by decide +kernel
theorem dX3_take_1 : decode cX3_take 1 = .ok (.istore 5, 2) := by decide +kernel
theorem dX3_take_3 : decode cX3_take 3 = .ok (.iload 5, 2) := by decide +kernel
theorem dX3_take_5 : decode cX3_take 5 = .ok (.iload_n 3, 1) := by decide +kernel
theorem dX3_take_6 : decode cX3_take 6 = .ok (.if_icmp .gt 57, 3) := by decide +kernel
theorem dX3_take_9 : decode cX3_take 9 = .ok (.aload_n 0, 1) := by decide +kernel
theorem dX3_take_10 : decode cX3_take 10 = .ok (.getfield 20, 3) := by decide +kernel
theorem dX3_take_13 : decode cX3_take 13 = .ok (.iload_n 1, 1) := by decide +kernel
theorem dX3_take_14 : decode cX3_take 14 = .ok (.aaload, 1) := by decide +kernel
theorem dX3_take_15 : decode cX3_take 15 = .ok (.iload 5, 2) := by decide +kernel
theorem dX3_take_17 : decode cX3_take 17 = .ok (.laload, 1) := by decide +kernel
theorem dX3_take_18 : decode cX3_take 18 = .ok (.iload_n 2, 1) := by decide +kernel
theorem dX3_take_19 : decode cX3_take 19 = .ok (.lushr, 1) := by decide +kernel
theorem dX3_take_20 : decode cX3_take 20 = .ok (.lconst 1, 1) := by decide +kernel
theorem dX3_take_21 : decode cX3_take 21 = .ok (.land, 1) := by decide +kernel
theorem dX3_take_22 : decode cX3_take 22 = .ok (.lconst 0, 1) := by decide +kernel
theorem dX3_take_23 : decode cX3_take 23 = .ok (.lcmp, 1) := by decide +kernel
theorem dX3_take_24 : decode cX3_take 24 = .ok (.ifCond .eq 33, 3) := by decide +kernel
theorem dX3_take_27 : decode cX3_take 27 = .ok (.aload_n 0, 1) := by decide +kernel
theorem dX3_take_28 : decode cX3_take 28 = .ok (.getfield 9, 3) := by decide +kernel
theorem dX3_take_31 : decode cX3_take 31 = .ok (.iconst (-1), 1) := by decide +kernel
theorem dX3_take_32 : decode cX3_take 32 = .ok (.if_icmp .eq 12, 3) := by decide +kernel
theorem dX3_take_35 : decode cX3_take 35 = .ok (.iload 5, 2) := by decide +kernel
theorem dX3_take_37 : decode cX3_take 37 = .ok (.aload_n 0, 1) := by decide +kernel
theorem dX3_take_38 : decode cX3_take 38 = .ok (.getfield 9, 3) := by decide +kernel
theorem dX3_take_41 : decode cX3_take 41 = .ok (.if_icmp .ge 16, 3) := by decide +kernel
theorem dX3_take_44 : decode cX3_take 44 = .ok (.aload_n 0, 1) := by decide +kernel
theorem dX3_take_45 : decode cX3_take 45 = .ok (.iload 5, 2) := by decide +kernel
theorem dX3_take_47 : decode cX3_take 47 = .ok (.putfield 9, 3) := by decide +kernel
theorem dX3_take_50 : decode cX3_take 50 = .ok (.aload_n 0, 1) := by decide +kernel
theorem dX3_take_51 : decode cX3_take 51 = .ok (.iload 4, 2) := by decide +kernel
theorem dX3_take_53 : decode cX3_take 53 = .ok (.putfield 15, 3) := by decide +kernel
theorem dX3_take_56 : decode cX3_take 56 = .ok (.return_, 1) := by decide +kernel
theorem dX3_take_57 : decode cX3_take 57 = .ok (.iinc 5 1, 3) := by decide +kernel
theorem dX3_take_60 : decode cX3_take 60 = .ok (.goto (-57), 3) := by decide +kernel
theorem dX3_take_63 : decode cX3_take 63 = .ok (.return_, 1) := by decide +kernel
theorem dX4_init_0 : decode cX4_init 0 = .ok (.aload_n 0, 1) := by decide +kernel
theorem dX4_init_1 : decode cX4_init 1 = .ok (.invokespecial 3, 3) := by decide +kernel
theorem dX4_init_4 : decode cX4_init 4 = .ok (.aload_n 0, 1) := by decide +kernel
theorem dX4_init_5 : decode cX4_init 5 = .ok (.iconst 0, 1) := by decide +kernel
theorem dX4_init_6 : decode cX4_init 6 = .ok (.putfield 9, 3) := by decide +kernel
theorem dX4_init_9 : decode cX4_init 9 = .ok (.aload_n 0, 1) := by decide +kernel
theorem dX4_init_10 : decode cX4_init 10 = .ok (.bipush 6, 2) := by decide +kernel
theorem dX4_init_12 : decode cX4_init 12 = .ok (.newarray .int, 2) := by decide +kernel
theorem dX4_init_14 : decode cX4_init 14 = .ok (.putfield 15, 3) := by decide +kernel
theorem dX4_init_17 : decode cX4_init 17 = .ok (.aload_n 0, 1) := by decide +kernel
theorem dX4_init_18 : decode cX4_init 18 = .ok (.bipush 6, 2) := by decide +kernel
theorem dX4_init_20 : decode cX4_init 20 = .ok (.newarray .boolean, 2) := by decide +kernel
theorem dX4_init_22 : decode cX4_init 22 = .ok (.putfield 19, 3) := by decide +kernel
theorem dX4_init_25 : decode cX4_init 25 = .ok (.return_, 1) := by decide +kernel
theorem dX4_append_0 : decode cX4_append 0 = .ok (.aload_n 0, 1) := by decide +kernel
theorem dX4_append_1 : decode cX4_append 1 = .ok (.getfield 9, 3) := by decide +kernel
theorem dX4_append_4 : decode cX4_append 4 = .ok (.bipush 6, 2) := by decide +kernel
theorem dX4_append_6 : decode cX4_append 6 = .ok (.if_icmp .lt 5, 3) := by decide +kernel
theorem dX4_append_9 : decode cX4_append 9 = .ok (.iconst 0, 1) := by decide +kernel
theorem dX4_append_10 : decode cX4_append 10 = .ok (.ireturn, 1) := by decide +kernel
theorem dX4_append_11 : decode cX4_append 11 = .ok (.aload_n 0, 1) := by decide +kernel
theorem dX4_append_12 : decode cX4_append 12 = .ok (.getfield 15, 3) := by decide +kernel
theorem dX4_append_15 : decode cX4_append 15 = .ok (.aload_n 0, 1) := by decide +kernel
theorem dX4_append_16 : decode cX4_append 16 = .ok (.getfield 9, 3) := by decide +kernel
theorem dX4_append_19 : decode cX4_append 19 = .ok (.iload_n 1, 1) := by decide +kernel
theorem dX4_append_20 : decode cX4_append 20 = .ok (.iastore, 1) := by decide +kernel
theorem dX4_append_21 : decode cX4_append 21 = .ok (.aload_n 0, 1) := by decide +kernel
theorem dX4_append_22 : decode cX4_append 22 = .ok (.getfield 19, 3) := by decide +kernel
theorem dX4_append_25 : decode cX4_append 25 = .ok (.aload_n 0, 1) := by decide +kernel
theorem dX4_append_26 : decode cX4_append 26 = .ok (.getfield 9, 3) := by decide +kernel
theorem dX4_append_29 : decode cX4_append 29 = .ok (.iload_n 2, 1) := by decide +kernel
theorem dX4_append_30 : decode cX4_append 30 = .ok (.bastore, 1) := by decide +kernel
theorem dX4_append_31 : decode cX4_append 31 = .ok (.aload_n 0, 1) := by decide +kernel
theorem dX4_append_32 : decode cX4_append 32 = .ok (.dup, 1) := by decide +kernel
theorem dX4_append_33 : decode cX4_append 33 = .ok (.getfield 9, 3) := by decide +kernel
theorem dX4_append_36 : decode cX4_append 36 = .ok (.iconst 1, 1) := by decide +kernel
theorem dX4_append_37 : decode cX4_append 37 = .ok (.iadd, 1) := by decide +kernel
theorem dX4_append_38 : decode cX4_append 38 = .ok (.putfield 9, 3) := by decide +kernel
theorem dX4_append_41 : decode cX4_append 41 = .ok (.iconst 1, 1) := by decide +kernel
theorem dX4_append_42 : decode cX4_append 42 = .ok (.ireturn, 1) := by decide +kernel
theorem dX4_suspects_0 : decode cX4_suspects 0 = .ok (.iconst 0, 1) := by decide +kernel
theorem dX4_suspects_1 : decode cX4_suspects 1 = .ok (.istore_n 3, 1) := by decide +kernel
theorem dX4_suspects_2 : decode cX4_suspects 2 = .ok (.iconst 0, 1) := by decide +kernel
theorem dX4_suspects_3 : decode cX4_suspects 3 = .ok (.istore 4, 2) := by decide +kernel
theorem dX4_suspects_5 : decode cX4_suspects 5 = .ok (.iload 4, 2) := by decide +kernel
theorem dX4_suspects_7 : decode cX4_suspects 7 = .ok (.aload_n 1, 1) := by decide +kernel
theorem dX4_suspects_8 : decode cX4_suspects 8 = .ok (.getfield 23, 3) := by decide +kernel
theorem dX4_suspects_11 : decode cX4_suspects 11 = .ok (.if_icmp .ge 30, 3) := by decide +kernel
theorem dX4_suspects_14 : decode cX4_suspects 14 = .ok (.aload_n 0, 1) := by decide +kernel
theorem dX4_suspects_15 : decode cX4_suspects 15 = .ok (.aload_n 2, 1) := by decide +kernel
theorem dX4_suspects_16 : decode cX4_suspects 16 = .ok (.aload_n 1, 1) := by decide +kernel
theorem dX4_suspects_17 : decode cX4_suspects 17 = .ok (.iload 4, 2) := by decide +kernel
theorem dX4_suspects_19 : decode cX4_suspects 19 = .ok (.invokevirtual 28, 3) := by decide +kernel
theorem dX4_suspects_22 : decode cX4_suspects 22 = .ok (.invokevirtual 34, 3) := by decide +kernel
theorem dX4_suspects_25 : decode cX4_suspects 25 = .ok (.ifCond .eq 10, 3) := by decide +kernel
theorem dX4_suspects_28 : decode cX4_suspects 28 = .ok (.iload_n 3, 1) := by decide +kernel
theorem dX4_suspects_29 : decode cX4_suspects 29 = .ok (.iconst 1, 1) := by decide +kernel
theorem dX4_suspects_30 : decode cX4_suspects 30 = .ok (.iload 4, 2) := by decide +kernel
theorem dX4_suspects_32 : decode cX4_suspects 32 = .ok (.ishl, 1) := by decide +kernel
theorem dX4_suspects_33 : decode cX4_suspects 33 = .ok (.ior, 1) := by decide +kernel
theorem dX4_suspects_34 : decode cX4_suspects 34 = .ok (.istore_n 3, 1) := by decide +kernel
theorem dX4_suspects_35 : decode cX4_suspects 35 = .ok (.iinc 4 1, 3) := by decide +kernel
theorem dX4_suspects_38 : decode cX4_suspects 38 = .ok (.goto (-33), 3) := by decide +kernel
theorem dX4_suspects_41 : decode cX4_suspects 41 = .ok (.iload_n 3, 1) := by decide +kernel
theorem dX4_suspects_42 : decode cX4_suspects 42 = .ok (.ireturn, 1) := by decide +kernel
theorem dX4_fits_0 : decode cX4_fits 0 = .ok (.iconst 0, 1) := by decide +kernel
theorem dX4_fits_1 : decode cX4_fits 1 = .ok (.istore_n 2, 1) := by decide +kernel
theorem dX4_fits_2 : decode cX4_fits 2 = .ok (.iload_n 2, 1) := by decide +kernel
theorem dX4_fits_3 : decode cX4_fits 3 = .ok (.aload_n 0, 1) := by decide +kernel
theorem dX4_fits_4 : decode cX4_fits 4 = .ok (.getfield 9, 3) := by decide +kernel
theorem dX4_fits_7 : decode cX4_fits 7 = .ok (.if_icmp .ge 40, 3) := by decide +kernel
theorem dX4_fits_10 : decode cX4_fits 10 = .ok (.iload_n 1, 1) := by decide +kernel
theorem dX4_fits_11 : decode cX4_fits 11 = .ok (.aload_n 0, 1) := by decide +kernel
theorem dX4_fits_12 : decode cX4_fits 12 = .ok (.getfield 15, 3) := by decide +kernel
theorem dX4_fits_15 : decode cX4_fits 15 = .ok (.iload_n 2, 1) := by decide +kernel
theorem dX4_fits_16 : decode cX4_fits 16 = .ok (.iaload, 1) := by decide +kernel
theorem dX4_fits_17 : decode cX4_fits 17 = .ok (.ishr, 1) := by decide +kernel
theorem dX4_fits_18 : decode cX4_fits 18 = .ok (.iconst 1, 1) := by decide +kernel
theorem dX4_fits_19 : decode cX4_fits 19 = .ok (.iand, 1) := by decide +kernel
theorem dX4_fits_20 : decode cX4_fits 20 = .ok (.ifCond .eq 7, 3) := by decide +kernel
theorem dX4_fits_23 : decode cX4_fits 23 = .ok (.iconst 1, 1) := by decide +kernel
theorem dX4_fits_24 : decode cX4_fits 24 = .ok (.goto 4, 3) := by decide +kernel
theorem dX4_fits_27 : decode cX4_fits 27 = .ok (.iconst 0, 1) := by decide +kernel
theorem dX4_fits_28 : decode cX4_fits 28 = .ok (.istore_n 3, 1) := by decide +kernel
theorem dX4_fits_29 : decode cX4_fits 29 = .ok (.iload_n 3, 1) := by decide +kernel
theorem dX4_fits_30 : decode cX4_fits 30 = .ok (.aload_n 0, 1) := by decide +kernel
theorem dX4_fits_31 : decode cX4_fits 31 = .ok (.getfield 19, 3) := by decide +kernel
theorem dX4_fits_34 : decode cX4_fits 34 = .ok (.iload_n 2, 1) := by decide +kernel
theorem dX4_fits_35 : decode cX4_fits 35 = .ok (.baload, 1) := by decide +kernel
theorem dX4_fits_36 : decode cX4_fits 36 = .ok (.if_icmp .eq 5, 3) := by decide +kernel
theorem dX4_fits_39 : decode cX4_fits 39 = .ok (.iconst 0, 1) := by decide +kernel
theorem dX4_fits_40 : decode cX4_fits 40 = .ok (.ireturn, 1) := by decide +kernel
theorem dX4_fits_41 : decode cX4_fits 41 = .ok (.iinc 2 1, 3) := by decide +kernel
theorem dX4_fits_44 : decode cX4_fits 44 = .ok (.goto (-42), 3) := by decide +kernel
theorem dX4_fits_47 : decode cX4_fits 47 = .ok (.iconst 1, 1) := by decide +kernel
theorem dX4_fits_48 : decode cX4_fits 48 = .ok (.ireturn, 1) := by decide +kernel
theorem dX4_bestRoom_0 : decode cX4_bestRoom 0 = .ok (.aload_n 0, 1) := by decide +kernel
theorem dX4_bestRoom_1 : decode cX4_bestRoom 1 = .ok (.aload_n 1, 1) := by decide +kernel
theorem dX4_bestRoom_2 : decode cX4_bestRoom 2 = .ok (.aload_n 2, 1) := by decide +kernel
theorem dX4_bestRoom_3 : decode cX4_bestRoom 3 = .ok (.invokevirtual 38, 3) := by decide +kernel
theorem dX4_bestRoom_6 : decode cX4_bestRoom 6 = .ok (.istore_n 3, 1) := by decide +kernel
theorem dX4_bestRoom_7 : decode cX4_bestRoom 7 = .ok (.iconst (-1), 1) := by decide +kernel
theorem dX4_bestRoom_8 : decode cX4_bestRoom 8 = .ok (.istore 4, 2) := by decide +kernel
theorem dX4_bestRoom_10 : decode cX4_bestRoom 10 = .ok (.iload_n 3, 1) := by decide +kernel
theorem dX4_bestRoom_11 : decode cX4_bestRoom 11 = .ok (.invokestatic 42, 3) := by decide +kernel
theorem dX4_bestRoom_14 : decode cX4_bestRoom 14 = .ok (.istore 5, 2) := by decide +kernel
theorem dX4_bestRoom_16 : decode cX4_bestRoom 16 = .ok (.iconst 0, 1) := by decide +kernel
theorem dX4_bestRoom_17 : decode cX4_bestRoom 17 = .ok (.istore 6, 2) := by decide +kernel
theorem dX4_bestRoom_19 : decode cX4_bestRoom 19 = .ok (.iload 6, 2) := by decide +kernel
theorem dX4_bestRoom_21 : decode cX4_bestRoom 21 = .ok (.aload_n 1, 1) := by decide +kernel
theorem dX4_bestRoom_22 : decode cX4_bestRoom 22 = .ok (.getfield 48, 3) := by decide +kernel
theorem dX4_bestRoom_25 : decode cX4_bestRoom 25 = .ok (.if_icmp .ge 35, 3) := by decide +kernel
theorem dX4_bestRoom_28 : decode cX4_bestRoom 28 = .ok (.aload_n 0, 1) := by decide +kernel
theorem dX4_bestRoom_29 : decode cX4_bestRoom 29 = .ok (.aload_n 1, 1) := by decide +kernel
theorem dX4_bestRoom_30 : decode cX4_bestRoom 30 = .ok (.aload_n 2, 1) := by decide +kernel
theorem dX4_bestRoom_31 : decode cX4_bestRoom 31 = .ok (.iload_n 3, 1) := by decide +kernel
theorem dX4_bestRoom_32 : decode cX4_bestRoom 32 = .ok (.iload 6, 2) := by decide +kernel
theorem dX4_bestRoom_34 : decode cX4_bestRoom 34 = .ok (.invokevirtual 50, 3) := by decide +kernel
theorem dX4_bestRoom_37 : decode cX4_bestRoom 37 = .ok (.istore 7, 2) := by decide +kernel
theorem dX4_bestRoom_39 : decode cX4_bestRoom 39 = .ok (.iload 7, 2) := by decide +kernel
theorem dX4_bestRoom_41 : decode cX4_bestRoom 41 = .ok (.iload 5, 2) := by decide +kernel
theorem dX4_bestRoom_43 : decode cX4_bestRoom 43 = .ok (.if_icmp .ge 11, 3) := by decide +kernel
theorem dX4_bestRoom_46 : decode cX4_bestRoom 46 = .ok (.iload 7, 2) := by decide +kernel
theorem dX4_bestRoom_48 : decode cX4_bestRoom 48 = .ok (.istore 5, 2) := by decide +kernel
theorem dX4_bestRoom_50 : decode cX4_bestRoom 50 = .ok (.iload 6, 2) := by decide +kernel
theorem dX4_bestRoom_52 : decode cX4_bestRoom 52 = .ok (.istore 4, 2) := by decide +kernel
theorem dX4_bestRoom_54 : decode cX4_bestRoom 54 = .ok (.iinc 6 1, 3) := by decide +kernel
theorem dX4_bestRoom_57 : decode cX4_bestRoom 57 = .ok (.goto (-38), 3) := by decide +kernel
theorem dX4_bestRoom_60 : decode cX4_bestRoom 60 = .ok (.iload 4, 2) := by decide +kernel
theorem dX4_bestRoom_62 : decode cX4_bestRoom 62 = .ok (.ireturn, 1) := by decide +kernel
theorem dX4_greaterPart_0 : decode cX4_greaterPart 0 = .ok (.iconst 0, 1) := by decide +kernel
theorem dX4_greaterPart_1 : decode cX4_greaterPart 1 = .ok (.istore 5, 2) := by decide +kernel
theorem dX4_greaterPart_3 : decode cX4_greaterPart 3 = .ok (.iconst 0, 1) := by decide +kernel
theorem dX4_greaterPart_4 : decode cX4_greaterPart 4 = .ok (.istore 6, 2) := by decide +kernel
theorem dX4_greaterPart_6 : decode cX4_greaterPart 6 = .ok (.iload 6, 2) := by decide +kernel
theorem dX4_greaterPart_8 : decode cX4_greaterPart 8 = .ok (.aload_n 1, 1) := by decide +kernel
theorem dX4_greaterPart_9 : decode cX4_greaterPart 9 = .ok (.getfield 23, 3) := by decide +kernel
theorem dX4_greaterPart_12 : decode cX4_greaterPart 12 = .ok (.if_icmp .ge 39, 3) := by decide +kernel
theorem dX4_greaterPart_15 : decode cX4_greaterPart 15 = .ok (.iload_n 3, 1) := by decide +kernel
theorem dX4_greaterPart_16 : decode cX4_greaterPart 16 = .ok (.iload 6, 2) := by decide +kernel
theorem dX4_greaterPart_18 : decode cX4_greaterPart 18 = .ok (.ishr, 1) := by decide +kernel
theorem dX4_greaterPart_19 : decode cX4_greaterPart 19 = .ok (.iconst 1, 1) := by decide +kernel
theorem dX4_greaterPart_20 : decode cX4_greaterPart 20 = .ok (.iand, 1) := by decide +kernel
theorem dX4_greaterPart_21 : decode cX4_greaterPart 21 = .ok (.ifCond .eq 24, 3) := by decide +kernel
theorem dX4_greaterPart_24 : decode cX4_greaterPart 24 = .ok (.aload_n 1, 1) := by decide +kernel
theorem dX4_greaterPart_25 : decode cX4_greaterPart 25 = .ok (.iload 6, 2) := by decide +kernel
theorem dX4_greaterPart_27 : decode cX4_greaterPart 27 = .ok (.aload_n 2, 1) := by decide +kernel
theorem dX4_greaterPart_28 : decode cX4_greaterPart 28 = .ok (.getfield 54, 3) := by decide +kernel
theorem dX4_greaterPart_31 : decode cX4_greaterPart 31 = .ok (.iload 6, 2) := by decide +kernel
theorem dX4_greaterPart_33 : decode cX4_greaterPart 33 = .ok (.iaload, 1) := by decide +kernel
theorem dX4_greaterPart_34 : decode cX4_greaterPart 34 = .ok (.iload 4, 2) := by decide +kernel
theorem dX4_greaterPart_36 : decode cX4_greaterPart 36 = .ok (.invokevirtual 57, 3) := by decide +kernel
theorem dX4_greaterPart_39 : decode cX4_greaterPart 39 = .ok (.ifCond .eq 6, 3) := by decide +kernel
theorem dX4_greaterPart_42 : decode cX4_greaterPart 42 = .ok (.iinc 5 1, 3) := by decide +kernel
theorem dX4_greaterPart_45 : decode cX4_greaterPart 45 = .ok (.iinc 6 1, 3) := by decide +kernel
theorem dX4_greaterPart_48 : decode cX4_greaterPart 48 = .ok (.goto (-42), 3) := by decide +kernel
theorem dX4_greaterPart_51 : decode cX4_greaterPart 51 = .ok (.iload 5, 2) := by decide +kernel
theorem dX4_greaterPart_53 : decode cX4_greaterPart 53 = .ok (.iload_n 3, 1) := by decide +kernel
theorem dX4_greaterPart_54 : decode cX4_greaterPart 54 = .ok (.invokestatic 42, 3) := by decide +kernel
theorem dX4_greaterPart_57 : decode cX4_greaterPart 57 = .ok (.iload 5, 2) := by decide +kernel
theorem dX4_greaterPart_59 : decode cX4_greaterPart 59 = .ok (.isub, 1) := by decide +kernel
theorem dX4_greaterPart_60 : decode cX4_greaterPart 60 = .ok (.invokestatic 61, 3) := by decide +kernel
theorem dX4_greaterPart_63 : decode cX4_greaterPart 63 = .ok (.ireturn, 1) := by decide +kernel
theorem dX5_init_0 : decode cX5_init 0 = .ok (.aload_n 0, 1) := by decide +kernel
theorem dX5_init_1 : decode cX5_init 1 = .ok (.invokespecial 3, 3) := by decide +kernel
theorem dX5_init_4 : decode cX5_init 4 = .ok (.aload_n 0, 1) := by decide +kernel
theorem dX5_init_5 : decode cX5_init 5 = .ok (.sipush 240, 3) := by decide +kernel
theorem dX5_init_8 : decode cX5_init 8 = .ok (.newarray .int, 2) := by decide +kernel
theorem dX5_init_10 : decode cX5_init 10 = .ok (.putfield 9, 3) := by decide +kernel
theorem dX5_init_13 : decode cX5_init 13 = .ok (.aload_n 0, 1) := by decide +kernel
theorem dX5_init_14 : decode cX5_init 14 = .ok (.iconst 0, 1) := by decide +kernel
theorem dX5_init_15 : decode cX5_init 15 = .ok (.putfield 15, 3) := by decide +kernel
theorem dX5_init_18 : decode cX5_init 18 = .ok (.aload_n 0, 1) := by decide +kernel
theorem dX5_init_19 : decode cX5_init 19 = .ok (.iconst 0, 1) := by decide +kernel
theorem dX5_init_20 : decode cX5_init 20 = .ok (.putfield 19, 3) := by decide +kernel
theorem dX5_init_23 : decode cX5_init 23 = .ok (.aload_n 0, 1) := by decide +kernel
theorem dX5_init_24 : decode cX5_init 24 = .ok (.iconst (-1), 1) := by decide +kernel
theorem dX5_init_25 : decode cX5_init 25 = .ok (.putfield 22, 3) := by decide +kernel
theorem dX5_init_28 : decode cX5_init 28 = .ok (.aload_n 0, 1) := by decide +kernel
theorem dX5_init_29 : decode cX5_init 29 = .ok (.iconst 0, 1) := by decide +kernel
theorem dX5_init_30 : decode cX5_init 30 = .ok (.putfield 25, 3) := by decide +kernel
theorem dX5_init_33 : decode cX5_init 33 = .ok (.return_, 1) := by decide +kernel
theorem dX5_append_0 : decode cX5_append 0 = .ok (.aload_n 0, 1) := by decide +kernel
theorem dX5_append_1 : decode cX5_append 1 = .ok (.getfield 15, 3) := by decide +kernel
theorem dX5_append_4 : decode cX5_append 4 = .ok (.sipush 240, 3) := by decide +kernel
theorem dX5_append_7 : decode cX5_append 7 = .ok (.if_icmp .lt 5, 3) := by decide +kernel
theorem dX5_append_10 : decode cX5_append 10 = .ok (.iconst 0, 1) := by decide +kernel
theorem dX5_append_11 : decode cX5_append 11 = .ok (.ireturn, 1) := by decide +kernel
theorem dX5_append_12 : decode cX5_append 12 = .ok (.aload_n 0, 1) := by decide +kernel
theorem dX5_append_13 : decode cX5_append 13 = .ok (.getfield 9, 3) := by decide +kernel
theorem dX5_append_16 : decode cX5_append 16 = .ok (.aload_n 0, 1) := by decide +kernel
theorem dX5_append_17 : decode cX5_append 17 = .ok (.getfield 15, 3) := by decide +kernel
theorem dX5_append_20 : decode cX5_append 20 = .ok (.iload_n 1, 1) := by decide +kernel
theorem dX5_append_21 : decode cX5_append 21 = .ok (.iastore, 1) := by decide +kernel
theorem dX5_append_22 : decode cX5_append 22 = .ok (.aload_n 0, 1) := by decide +kernel
theorem dX5_append_23 : decode cX5_append 23 = .ok (.dup, 1) := by decide +kernel
theorem dX5_append_24 : decode cX5_append 24 = .ok (.getfield 15, 3) := by decide +kernel
theorem dX5_append_27 : decode cX5_append 27 = .ok (.iconst 1, 1) := by decide +kernel
theorem dX5_append_28 : decode cX5_append 28 = .ok (.iadd, 1) := by decide +kernel
theorem dX5_append_29 : decode cX5_append 29 = .ok (.putfield 15, 3) := by decide +kernel
theorem dX5_append_32 : decode cX5_append 32 = .ok (.iconst 1, 1) := by decide +kernel
theorem dX5_append_33 : decode cX5_append 33 = .ok (.ireturn, 1) := by decide +kernel
theorem dX5_readInto_0 : decode cX5_readInto 0 = .ok (.aload_n 1, 1) := by decide +kernel
theorem dX5_readInto_1 : decode cX5_readInto 1 = .ok (.invokevirtual 28, 3) := by decide +kernel
theorem dX5_readInto_4 : decode cX5_readInto 4 = .ok (.aload_n 0, 1) := by decide +kernel
theorem dX5_readInto_5 : decode cX5_readInto 5 = .ok (.iconst 0, 1) := by decide +kernel
theorem dX5_readInto_6 : decode cX5_readInto 6 = .ok (.putfield 19, 3) := by decide +kernel
theorem dX5_readInto_9 : decode cX5_readInto 9 = .ok (.aload_n 0, 1) := by decide +kernel
theorem dX5_readInto_10 : decode cX5_readInto 10 = .ok (.iconst (-1), 1) := by decide +kernel
theorem dX5_readInto_11 : decode cX5_readInto 11 = .ok (.putfield 22, 3) := by decide +kernel
theorem dX5_readInto_14 : decode cX5_readInto 14 = .ok (.aload_n 0, 1) := by decide +kernel
theorem dX5_readInto_15 : decode cX5_readInto 15 = .ok (.iconst 0, 1) := by decide +kernel
theorem dX5_readInto_16 : decode cX5_readInto 16 = .ok (.putfield 25, 3) := by decide +kernel
theorem dX5_readInto_19 : decode cX5_readInto 19 = .ok (.aload_n 0, 1) := by decide +kernel
theorem dX5_readInto_20 : decode cX5_readInto 20 = .ok (.invokevirtual 33, 3) := by decide +kernel
theorem dX5_readInto_23 : decode cX5_readInto 23 = .ok (.iconst 0, 1) := by decide +kernel
theorem dX5_readInto_24 : decode cX5_readInto 24 = .ok (.istore_n 2, 1) := by decide +kernel
theorem dX5_readInto_25 : decode cX5_readInto 25 = .ok (.iload_n 2, 1) := by decide +kernel
theorem dX5_readInto_26 : decode cX5_readInto 26 = .ok (.sipush 240, 3) := by decide +kernel
theorem dX5_readInto_29 : decode cX5_readInto 29 = .ok (.if_icmp .ge 36, 3) := by decide +kernel
theorem dX5_readInto_32 : decode cX5_readInto 32 = .ok (.aload_n 0, 1) := by decide +kernel
theorem dX5_readInto_33 : decode cX5_readInto 33 = .ok (.getfield 25, 3) := by decide +kernel
theorem dX5_readInto_36 : decode cX5_readInto 36 = .ok (.aload_n 0, 1) := by decide +kernel
theorem dX5_readInto_37 : decode cX5_readInto 37 = .ok (.getfield 15, 3) := by decide +kernel
theorem dX5_readInto_40 : decode cX5_readInto 40 = .ok (.if_icmp .ge 25, 3) := by decide +kernel
theorem dX5_readInto_43 : decode cX5_readInto 43 = .ok (.aload_n 0, 1) := by decide +kernel
theorem dX5_readInto_44 : decode cX5_readInto 44 = .ok (.getfield 19, 3) := by decide +kernel
theorem dX5_readInto_47 : decode cX5_readInto 47 = .ok (.ifCond .ne 18, 3) := by decide +kernel
theorem dX5_readInto_50 : decode cX5_readInto 50 = .ok (.aload_n 0, 1) := by decide +kernel
theorem dX5_readInto_51 : decode cX5_readInto 51 = .ok (.aload_n 1, 1) := by decide +kernel
theorem dX5_readInto_52 : decode cX5_readInto 52 = .ok (.invokevirtual 36, 3) := by decide +kernel
theorem dX5_readInto_55 : decode cX5_readInto 55 = .ok (.aload_n 0, 1) := by decide +kernel
theorem dX5_readInto_56 : decode cX5_readInto 56 = .ok (.invokevirtual 33, 3) := by decide +kernel
theorem dX5_readInto_59 : decode cX5_readInto 59 = .ok (.iinc 2 1, 3) := by decide +kernel
theorem dX5_readInto_62 : decode cX5_readInto 62 = .ok (.goto (-37), 3) := by decide +kernel
theorem dX5_readInto_65 : decode cX5_readInto 65 = .ok (.return_, 1) := by decide +kernel
theorem dX5_readClause_0 : decode cX5_readClause 0 = .ok (.aload_n 0, 1) := by decide +kernel
theorem dX5_readClause_1 : decode cX5_readClause 1 = .ok (.getfield 25, 3) := by decide +kernel
theorem dX5_readClause_4 : decode cX5_readClause 4 = .ok (.istore_n 2, 1) := by decide +kernel
theorem dX5_readClause_5 : decode cX5_readClause 5 = .ok (.aload_n 0, 1) := by decide +kernel
theorem dX5_readClause_6 : decode cX5_readClause 6 = .ok (.getfield 9, 3) := by decide +kernel
theorem dX5_readClause_9 : decode cX5_readClause 9 = .ok (.iload_n 2, 1) := by decide +kernel
theorem dX5_readClause_10 : decode cX5_readClause 10 = .ok (.iaload, 1) := by decide +kernel
theorem dX5_readClause_11 : decode cX5_readClause 11 = .ok (.istore_n 3, 1) := by decide +kernel
theorem dX5_readClause_12 : decode cX5_readClause 12 = .ok (.aload_n 0, 1) := by decide +kernel
theorem dX5_readClause_13 : decode cX5_readClause 13 = .ok (.dup, 1) := by decide +kernel
theorem dX5_readClause_14 : decode cX5_readClause 14 = .ok (.getfield 25, 3) := by decide +kernel
theorem dX5_readClause_17 : decode cX5_readClause 17 = .ok (.iconst 1, 1) := by decide +kernel
theorem dX5_readClause_18 : decode cX5_readClause 18 = .ok (.iadd, 1) := by decide +kernel
theorem dX5_readClause_19 : decode cX5_readClause 19 = .ok (.putfield 25, 3) := by decide +kernel
theorem dX5_readClause_22 : decode cX5_readClause 22 = .ok (.iload_n 3, 1) := by decide +kernel
theorem dX5_readClause_23 : decode cX5_readClause 23 = .ok (.bipush 110, 2) := by decide +kernel
theorem dX5_readClause_25 : decode cX5_readClause 25 = .ok (.if_icmp .eq 17, 3) := by decide +kernel
theorem dX5_readClause_28 : decode cX5_readClause 28 = .ok (.aload_n 1, 1) := by decide +kernel
theorem dX5_readClause_29 : decode cX5_readClause 29 = .ok (.getfield 40, 3) := by decide +kernel
theorem dX5_readClause_32 : decode cX5_readClause 32 = .ok (.ifCond .ne 10, 3) := by decide +kernel
theorem dX5_readClause_35 : decode cX5_readClause 35 = .ok (.aload_n 0, 1) := by decide +kernel
theorem dX5_readClause_36 : decode cX5_readClause 36 = .ok (.iconst 1, 1) := by decide +kernel
theorem dX5_readClause_37 : decode cX5_readClause 37 = .ok (.iload_n 2, 1) := by decide +kernel
theorem dX5_readClause_38 : decode cX5_readClause 38 = .ok (.invokevirtual 43, 3) := by decide +kernel
theorem dX5_readClause_41 : decode cX5_readClause 41 = .ok (.return_, 1) := by decide +kernel
theorem dX5_readClause_42 : decode cX5_readClause 42 = .ok (.iload_n 3, 1) := by decide +kernel
theorem dX5_readClause_43 : decode cX5_readClause 43 = .ok (.lookupswitch 77 #[(100, 59), (110, 41), (112, 68), (114, 50)], 41) := by decide +kernel
theorem dX5_readClause_84 : decode cX5_readClause 84 = .ok (.aload_n 0, 1) := by decide +kernel
theorem dX5_readClause_85 : decode cX5_readClause 85 = .ok (.aload_n 1, 1) := by decide +kernel
theorem dX5_readClause_86 : decode cX5_readClause 86 = .ok (.iload_n 2, 1) := by decide +kernel
theorem dX5_readClause_87 : decode cX5_readClause 87 = .ok (.invokevirtual 47, 3) := by decide +kernel
theorem dX5_readClause_90 : decode cX5_readClause 90 = .ok (.goto 36, 3) := by decide +kernel
theorem dX5_readClause_93 : decode cX5_readClause 93 = .ok (.aload_n 0, 1) := by decide +kernel
theorem dX5_readClause_94 : decode cX5_readClause 94 = .ok (.aload_n 1, 1) := by decide +kernel
theorem dX5_readClause_95 : decode cX5_readClause 95 = .ok (.iload_n 2, 1) := by decide +kernel
theorem dX5_readClause_96 : decode cX5_readClause 96 = .ok (.invokevirtual 51, 3) := by decide +kernel
theorem dX5_readClause_99 : decode cX5_readClause 99 = .ok (.goto 27, 3) := by decide +kernel
theorem dX5_readClause_102 : decode cX5_readClause 102 = .ok (.aload_n 0, 1) := by decide +kernel
theorem dX5_readClause_103 : decode cX5_readClause 103 = .ok (.aload_n 1, 1) := by decide +kernel
theorem dX5_readClause_104 : decode cX5_readClause 104 = .ok (.iload_n 2, 1) := by decide +kernel
theorem dX5_readClause_105 : decode cX5_readClause 105 = .ok (.invokevirtual 54, 3) := by decide +kernel
theorem dX5_readClause_108 : decode cX5_readClause 108 = .ok (.goto 18, 3) := by decide +kernel
theorem dX5_readClause_111 : decode cX5_readClause 111 = .ok (.aload_n 0, 1) := by decide +kernel
theorem dX5_readClause_112 : decode cX5_readClause 112 = .ok (.aload_n 1, 1) := by decide +kernel
theorem dX5_readClause_113 : decode cX5_readClause 113 = .ok (.iload_n 2, 1) := by decide +kernel
theorem dX5_readClause_114 : decode cX5_readClause 114 = .ok (.invokevirtual 57, 3) := by decide +kernel
theorem dX5_readClause_117 : decode cX5_readClause 117 = .ok (.goto 9, 3) := by decide +kernel
theorem dX5_readClause_120 : decode cX5_readClause 120 = .ok (.aload_n 0, 1) := by decide +kernel
theorem dX5_readClause_121 : decode cX5_readClause 121 = .ok (.iconst 1, 1) := by decide +kernel
theorem dX5_readClause_122 : decode cX5_readClause 122 = .ok (.iload_n 2, 1) := by decide +kernel
theorem dX5_readClause_123 : decode cX5_readClause 123 = .ok (.invokevirtual 43, 3) := by decide +kernel
theorem dX5_readClause_126 : decode cX5_readClause 126 = .ok (.return_, 1) := by decide +kernel
theorem dX5_readNight_0 : decode cX5_readNight 0 = .ok (.aload_n 0, 1) := by decide +kernel
theorem dX5_readNight_1 : decode cX5_readNight 1 = .ok (.aload_n 1, 1) := by decide +kernel
theorem dX5_readNight_2 : decode cX5_readNight 2 = .ok (.getfield 40, 3) := by decide +kernel
theorem dX5_readNight_5 : decode cX5_readNight 5 = .ok (.ifCond .eq 7, 3) := by decide +kernel
theorem dX5_readNight_8 : decode cX5_readNight 8 = .ok (.iconst 1, 1) := by decide +kernel
theorem dX5_readNight_9 : decode cX5_readNight 9 = .ok (.goto 4, 3) := by decide +kernel
theorem dX5_readNight_12 : decode cX5_readNight 12 = .ok (.iconst 0, 1) := by decide +kernel
theorem dX5_readNight_13 : decode cX5_readNight 13 = .ok (.iconst 3, 1) := by decide +kernel
theorem dX5_readNight_14 : decode cX5_readNight 14 = .ok (.iload_n 2, 1) := by decide +kernel
theorem dX5_readNight_15 : decode cX5_readNight 15 = .ok (.invokevirtual 60, 3) := by decide +kernel
theorem dX5_readNight_18 : decode cX5_readNight 18 = .ok (.aload_n 0, 1) := by decide +kernel
theorem dX5_readNight_19 : decode cX5_readNight 19 = .ok (.iconst 1, 1) := by decide +kernel
theorem dX5_readNight_20 : decode cX5_readNight 20 = .ok (.bipush 20, 2) := by decide +kernel
theorem dX5_readNight_22 : decode cX5_readNight 22 = .ok (.invokevirtual 64, 3) := by decide +kernel
theorem dX5_readNight_25 : decode cX5_readNight 25 = .ok (.istore_n 3, 1) := by decide +kernel
theorem dX5_readNight_26 : decode cX5_readNight 26 = .ok (.aload_n 0, 1) := by decide +kernel
theorem dX5_readNight_27 : decode cX5_readNight 27 = .ok (.invokevirtual 68, 3) := by decide +kernel
theorem dX5_readNight_30 : decode cX5_readNight 30 = .ok (.ifCond .eq 8, 3) := by decide +kernel
theorem dX5_readNight_33 : decode cX5_readNight 33 = .ok (.aload_n 1, 1) := by decide +kernel
theorem dX5_readNight_34 : decode cX5_readNight 34 = .ok (.iload_n 3, 1) := by decide +kernel
theorem dX5_readNight_35 : decode cX5_readNight 35 = .ok (.putfield 40, 3) := by decide +kernel
theorem dX5_readNight_38 : decode cX5_readNight 38 = .ok (.return_, 1) := by decide +kernel
theorem dX5_readRoom_0 : decode cX5_readRoom 0 = .ok (.aload_n 0, 1) := by decide +kernel
theorem dX5_readRoom_1 : decode cX5_readRoom 1 = .ok (.aload_n 1, 1) := by decide +kernel
theorem dX5_readRoom_2 : decode cX5_readRoom 2 = .ok (.getfield 72, 3) := by decide +kernel
theorem dX5_readRoom_5 : decode cX5_readRoom 5 = .ok (.bipush 6, 2) := by decide +kernel
theorem dX5_readRoom_7 : decode cX5_readRoom 7 = .ok (.if_icmp .lt 7, 3) := by decide +kernel
theorem dX5_readRoom_10 : decode cX5_readRoom 10 = .ok (.iconst 1, 1) := by decide +kernel
theorem dX5_readRoom_11 : decode cX5_readRoom 11 = .ok (.goto 4, 3) := by decide +kernel
theorem dX5_readRoom_14 : decode cX5_readRoom 14 = .ok (.iconst 0, 1) := by decide +kernel
theorem dX5_readRoom_15 : decode cX5_readRoom 15 = .ok (.iconst 3, 1) := by decide +kernel
theorem dX5_readRoom_16 : decode cX5_readRoom 16 = .ok (.iload_n 2, 1) := by decide +kernel
theorem dX5_readRoom_17 : decode cX5_readRoom 17 = .ok (.invokevirtual 60, 3) := by decide +kernel
theorem dX5_readRoom_20 : decode cX5_readRoom 20 = .ok (.aload_n 0, 1) := by decide +kernel
theorem dX5_readRoom_21 : decode cX5_readRoom 21 = .ok (.iconst 0, 1) := by decide +kernel
theorem dX5_readRoom_22 : decode cX5_readRoom 22 = .ok (.bipush 20, 2) := by decide +kernel
theorem dX5_readRoom_24 : decode cX5_readRoom 24 = .ok (.invokevirtual 64, 3) := by decide +kernel
theorem dX5_readRoom_27 : decode cX5_readRoom 27 = .ok (.istore_n 3, 1) := by decide +kernel
theorem dX5_readRoom_28 : decode cX5_readRoom 28 = .ok (.aload_n 0, 1) := by decide +kernel
theorem dX5_readRoom_29 : decode cX5_readRoom 29 = .ok (.invokevirtual 68, 3) := by decide +kernel
theorem dX5_readRoom_32 : decode cX5_readRoom 32 = .ok (.ifCond .eq 8, 3) := by decide +kernel
theorem dX5_readRoom_35 : decode cX5_readRoom 35 = .ok (.aload_n 1, 1) := by decide +kernel
theorem dX5_readRoom_36 : decode cX5_readRoom 36 = .ok (.iload_n 3, 1) := by decide +kernel
theorem dX5_readRoom_37 : decode cX5_readRoom 37 = .ok (.invokevirtual 75, 3) := by decide +kernel
theorem dX5_readRoom_40 : decode cX5_readRoom 40 = .ok (.return_, 1) := by decide +kernel
theorem dX5_readDoor_0 : decode cX5_readDoor 0 = .ok (.aload_n 0, 1) := by decide +kernel
theorem dX5_readDoor_1 : decode cX5_readDoor 1 = .ok (.aload_n 1, 1) := by decide +kernel
theorem dX5_readDoor_2 : decode cX5_readDoor 2 = .ok (.getfield 79, 3) := by decide +kernel
theorem dX5_readDoor_5 : decode cX5_readDoor 5 = .ok (.bipush 8, 2) := by decide +kernel
theorem dX5_readDoor_7 : decode cX5_readDoor 7 = .ok (.if_icmp .lt 7, 3) := by decide +kernel
theorem dX5_readDoor_10 : decode cX5_readDoor 10 = .ok (.iconst 1, 1) := by decide +kernel
theorem dX5_readDoor_11 : decode cX5_readDoor 11 = .ok (.goto 4, 3) := by decide +kernel
theorem dX5_readDoor_14 : decode cX5_readDoor 14 = .ok (.iconst 0, 1) := by decide +kernel
theorem dX5_readDoor_15 : decode cX5_readDoor 15 = .ok (.iconst 3, 1) := by decide +kernel
theorem dX5_readDoor_16 : decode cX5_readDoor 16 = .ok (.iload_n 2, 1) := by decide +kernel
theorem dX5_readDoor_17 : decode cX5_readDoor 17 = .ok (.invokevirtual 60, 3) := by decide +kernel
theorem dX5_readDoor_20 : decode cX5_readDoor 20 = .ok (.aload_n 0, 1) := by decide +kernel
theorem dX5_readDoor_21 : decode cX5_readDoor 21 = .ok (.iconst 0, 1) := by decide +kernel
theorem dX5_readDoor_22 : decode cX5_readDoor 22 = .ok (.aload_n 1, 1) := by decide +kernel
theorem dX5_readDoor_23 : decode cX5_readDoor 23 = .ok (.getfield 72, 3) := by decide +kernel
theorem dX5_readDoor_26 : decode cX5_readDoor 26 = .ok (.iconst 1, 1) := by decide +kernel
theorem dX5_readDoor_27 : decode cX5_readDoor 27 = .ok (.isub, 1) := by decide +kernel
theorem dX5_readDoor_28 : decode cX5_readDoor 28 = .ok (.invokevirtual 64, 3) := by decide +kernel
theorem dX5_readDoor_31 : decode cX5_readDoor 31 = .ok (.istore_n 3, 1) := by decide +kernel
theorem dX5_readDoor_32 : decode cX5_readDoor 32 = .ok (.aload_n 0, 1) := by decide +kernel
theorem dX5_readDoor_33 : decode cX5_readDoor 33 = .ok (.invokevirtual 33, 3) := by decide +kernel
theorem dX5_readDoor_36 : decode cX5_readDoor 36 = .ok (.aload_n 0, 1) := by decide +kernel
theorem dX5_readDoor_37 : decode cX5_readDoor 37 = .ok (.getfield 25, 3) := by decide +kernel
theorem dX5_readDoor_40 : decode cX5_readDoor 40 = .ok (.istore 4, 2) := by decide +kernel
theorem dX5_readDoor_42 : decode cX5_readDoor 42 = .ok (.aload_n 0, 1) := by decide +kernel
theorem dX5_readDoor_43 : decode cX5_readDoor 43 = .ok (.iconst 0, 1) := by decide +kernel
theorem dX5_readDoor_44 : decode cX5_readDoor 44 = .ok (.aload_n 1, 1) := by decide +kernel
theorem dX5_readDoor_45 : decode cX5_readDoor 45 = .ok (.getfield 72, 3) := by decide +kernel
theorem dX5_readDoor_48 : decode cX5_readDoor 48 = .ok (.iconst 1, 1) := by decide +kernel
theorem dX5_readDoor_49 : decode cX5_readDoor 49 = .ok (.isub, 1) := by decide +kernel
theorem dX5_readDoor_50 : decode cX5_readDoor 50 = .ok (.invokevirtual 64, 3) := by decide +kernel
theorem dX5_readDoor_53 : decode cX5_readDoor 53 = .ok (.istore 5, 2) := by decide +kernel
theorem dX5_readDoor_55 : decode cX5_readDoor 55 = .ok (.aload_n 0, 1) := by decide +kernel
theorem dX5_readDoor_56 : decode cX5_readDoor 56 = .ok (.iload_n 3, 1) := by decide +kernel
theorem dX5_readDoor_57 : decode cX5_readDoor 57 = .ok (.iload 5, 2) := by decide +kernel
theorem dX5_readDoor_59 : decode cX5_readDoor 59 = .ok (.if_icmp .ne 7, 3) := by decide +kernel
theorem dX5_readDoor_62 : decode cX5_readDoor 62 = .ok (.iconst 1, 1) := by decide +kernel
theorem dX5_readDoor_63 : decode cX5_readDoor 63 = .ok (.goto 4, 3) := by decide +kernel
theorem dX5_readDoor_66 : decode cX5_readDoor 66 = .ok (.iconst 0, 1) := by decide +kernel
theorem dX5_readDoor_67 : decode cX5_readDoor 67 = .ok (.iconst 4, 1) := by decide +kernel
theorem dX5_readDoor_68 : decode cX5_readDoor 68 = .ok (.iload 4, 2) := by decide +kernel
theorem dX5_readDoor_70 : decode cX5_readDoor 70 = .ok (.invokevirtual 60, 3) := by decide +kernel
theorem dX5_readDoor_73 : decode cX5_readDoor 73 = .ok (.aload_n 0, 1) := by decide +kernel
theorem dX5_readDoor_74 : decode cX5_readDoor 74 = .ok (.iconst 0, 1) := by decide +kernel
theorem dX5_readDoor_75 : decode cX5_readDoor 75 = .ok (.bipush 9, 2) := by decide +kernel
theorem dX5_readDoor_77 : decode cX5_readDoor 77 = .ok (.invokevirtual 64, 3) := by decide +kernel
theorem dX5_readDoor_80 : decode cX5_readDoor 80 = .ok (.istore 6, 2) := by decide +kernel
theorem dX5_readDoor_82 : decode cX5_readDoor 82 = .ok (.aload_n 0, 1) := by decide +kernel
theorem dX5_readDoor_83 : decode cX5_readDoor 83 = .ok (.invokevirtual 68, 3) := by decide +kernel
theorem dX5_readDoor_86 : decode cX5_readDoor 86 = .ok (.ifCond .eq 12, 3) := by decide +kernel
theorem dX5_readDoor_89 : decode cX5_readDoor 89 = .ok (.aload_n 1, 1) := by decide +kernel
theorem dX5_readDoor_90 : decode cX5_readDoor 90 = .ok (.iload_n 3, 1) := by decide +kernel
theorem dX5_readDoor_91 : decode cX5_readDoor 91 = .ok (.iload 5, 2) := by decide +kernel
theorem dX5_readDoor_93 : decode cX5_readDoor 93 = .ok (.iload 6, 2) := by decide +kernel
theorem dX5_readDoor_95 : decode cX5_readDoor 95 = .ok (.invokevirtual 82, 3) := by decide +kernel
theorem dX5_readDoor_98 : decode cX5_readDoor 98 = .ok (.return_, 1) := by decide +kernel
theorem dX5_readHeir_0 : decode cX5_readHeir 0 = .ok (.aload_n 0, 1) := by decide +kernel
theorem dX5_readHeir_1 : decode cX5_readHeir 1 = .ok (.aload_n 1, 1) := by decide +kernel
theorem dX5_readHeir_2 : decode cX5_readHeir 2 = .ok (.getfield 86, 3) := by decide +kernel
theorem dX5_readHeir_5 : decode cX5_readHeir 5 = .ok (.bipush 6, 2) := by decide +kernel
theorem dX5_readHeir_7 : decode cX5_readHeir 7 = .ok (.if_icmp .lt 7, 3) := by decide +kernel
theorem dX5_readHeir_10 : decode cX5_readHeir 10 = .ok (.iconst 1, 1) := by decide +kernel
theorem dX5_readHeir_11 : decode cX5_readHeir 11 = .ok (.goto 4, 3) := by decide +kernel
theorem dX5_readHeir_14 : decode cX5_readHeir 14 = .ok (.iconst 0, 1) := by decide +kernel
theorem dX5_readHeir_15 : decode cX5_readHeir 15 = .ok (.iconst 3, 1) := by decide +kernel
theorem dX5_readHeir_16 : decode cX5_readHeir 16 = .ok (.iload_n 2, 1) := by decide +kernel
theorem dX5_readHeir_17 : decode cX5_readHeir 17 = .ok (.invokevirtual 60, 3) := by decide +kernel
theorem dX5_readHeir_20 : decode cX5_readHeir 20 = .ok (.aload_n 0, 1) := by decide +kernel
theorem dX5_readHeir_21 : decode cX5_readHeir 21 = .ok (.iconst 0, 1) := by decide +kernel
theorem dX5_readHeir_22 : decode cX5_readHeir 22 = .ok (.iconst 4, 1) := by decide +kernel
theorem dX5_readHeir_23 : decode cX5_readHeir 23 = .ok (.invokevirtual 64, 3) := by decide +kernel
theorem dX5_readHeir_26 : decode cX5_readHeir 26 = .ok (.istore_n 3, 1) := by decide +kernel
theorem dX5_readHeir_27 : decode cX5_readHeir 27 = .ok (.aload_n 0, 1) := by decide +kernel
theorem dX5_readHeir_28 : decode cX5_readHeir 28 = .ok (.iconst 1, 1) := by decide +kernel
theorem dX5_readHeir_29 : decode cX5_readHeir 29 = .ok (.bipush 20, 2) := by decide +kernel
theorem dX5_readHeir_31 : decode cX5_readHeir 31 = .ok (.invokevirtual 64, 3) := by decide +kernel
theorem dX5_readHeir_34 : decode cX5_readHeir 34 = .ok (.istore 4, 2) := by decide +kernel
theorem dX5_readHeir_36 : decode cX5_readHeir 36 = .ok (.aload_n 0, 1) := by decide +kernel
theorem dX5_readHeir_37 : decode cX5_readHeir 37 = .ok (.iconst 0, 1) := by decide +kernel
theorem dX5_readHeir_38 : decode cX5_readHeir 38 = .ok (.aload_n 1, 1) := by decide +kernel
theorem dX5_readHeir_39 : decode cX5_readHeir 39 = .ok (.getfield 72, 3) := by decide +kernel
theorem dX5_readHeir_42 : decode cX5_readHeir 42 = .ok (.iconst 1, 1) := by decide +kernel
theorem dX5_readHeir_43 : decode cX5_readHeir 43 = .ok (.isub, 1) := by decide +kernel
theorem dX5_readHeir_44 : decode cX5_readHeir 44 = .ok (.invokevirtual 64, 3) := by decide +kernel
theorem dX5_readHeir_47 : decode cX5_readHeir 47 = .ok (.istore 5, 2) := by decide +kernel
theorem dX5_readHeir_49 : decode cX5_readHeir 49 = .ok (.aload_n 0, 1) := by decide +kernel
theorem dX5_readHeir_50 : decode cX5_readHeir 50 = .ok (.invokevirtual 68, 3) := by decide +kernel
theorem dX5_readHeir_53 : decode cX5_readHeir 53 = .ok (.ifCond .eq 12, 3) := by decide +kernel
theorem dX5_readHeir_56 : decode cX5_readHeir 56 = .ok (.aload_n 1, 1) := by decide +kernel
theorem dX5_readHeir_57 : decode cX5_readHeir 57 = .ok (.iload_n 3, 1) := by decide +kernel
theorem dX5_readHeir_58 : decode cX5_readHeir 58 = .ok (.iload 4, 2) := by decide +kernel
theorem dX5_readHeir_60 : decode cX5_readHeir 60 = .ok (.iload 5, 2) := by decide +kernel
theorem dX5_readHeir_62 : decode cX5_readHeir 62 = .ok (.invokevirtual 89, 3) := by decide +kernel
theorem dX5_readHeir_65 : decode cX5_readHeir 65 = .ok (.return_, 1) := by decide +kernel
theorem dX5_readNumber_0 : decode cX5_readNumber 0 = .ok (.aload_n 0, 1) := by decide +kernel
theorem dX5_readNumber_1 : decode cX5_readNumber 1 = .ok (.invokevirtual 33, 3) := by decide +kernel
theorem dX5_readNumber_4 : decode cX5_readNumber 4 = .ok (.aload_n 0, 1) := by decide +kernel
theorem dX5_readNumber_5 : decode cX5_readNumber 5 = .ok (.getfield 25, 3) := by decide +kernel
theorem dX5_readNumber_8 : decode cX5_readNumber 8 = .ok (.istore_n 3, 1) := by decide +kernel
theorem dX5_readNumber_9 : decode cX5_readNumber 9 = .ok (.iconst 0, 1) := by decide +kernel
theorem dX5_readNumber_10 : decode cX5_readNumber 10 = .ok (.istore 4, 2) := by decide +kernel
theorem dX5_readNumber_12 : decode cX5_readNumber 12 = .ok (.aload_n 0, 1) := by decide +kernel
theorem dX5_readNumber_13 : decode cX5_readNumber 13 = .ok (.getfield 25, 3) := by decide +kernel
theorem dX5_readNumber_16 : decode cX5_readNumber 16 = .ok (.aload_n 0, 1) := by decide +kernel
theorem dX5_readNumber_17 : decode cX5_readNumber 17 = .ok (.getfield 15, 3) := by decide +kernel
theorem dX5_readNumber_20 : decode cX5_readNumber 20 = .ok (.if_icmp .ge 74, 3) := by decide +kernel
theorem dX5_readNumber_23 : decode cX5_readNumber 23 = .ok (.aload_n 0, 1) := by decide +kernel
theorem dX5_readNumber_24 : decode cX5_readNumber 24 = .ok (.getfield 9, 3) := by decide +kernel
theorem dX5_readNumber_27 : decode cX5_readNumber 27 = .ok (.aload_n 0, 1) := by decide +kernel
theorem dX5_readNumber_28 : decode cX5_readNumber 28 = .ok (.getfield 25, 3) := by decide +kernel
theorem dX5_readNumber_31 : decode cX5_readNumber 31 = .ok (.iaload, 1) := by decide +kernel
theorem dX5_readNumber_32 : decode cX5_readNumber 32 = .ok (.bipush 48, 2) := by decide +kernel
theorem dX5_readNumber_34 : decode cX5_readNumber 34 = .ok (.if_icmp .lt 60, 3) := by decide +kernel
theorem dX5_readNumber_37 : decode cX5_readNumber 37 = .ok (.aload_n 0, 1) := by decide +kernel
theorem dX5_readNumber_38 : decode cX5_readNumber 38 = .ok (.getfield 9, 3) := by decide +kernel
theorem dX5_readNumber_41 : decode cX5_readNumber 41 = .ok (.aload_n 0, 1) := by decide +kernel
theorem dX5_readNumber_42 : decode cX5_readNumber 42 = .ok (.getfield 25, 3) := by decide +kernel
theorem dX5_readNumber_45 : decode cX5_readNumber 45 = .ok (.iaload, 1) := by decide +kernel
theorem dX5_readNumber_46 : decode cX5_readNumber 46 = .ok (.bipush 57, 2) := by decide +kernel
theorem dX5_readNumber_48 : decode cX5_readNumber 48 = .ok (.if_icmp .gt 46, 3) := by decide +kernel
theorem dX5_readNumber_51 : decode cX5_readNumber 51 = .ok (.aload_n 0, 1) := by decide +kernel
theorem dX5_readNumber_52 : decode cX5_readNumber 52 = .ok (.getfield 25, 3) := by decide +kernel
theorem dX5_readNumber_55 : decode cX5_readNumber 55 = .ok (.iload_n 3, 1) := by decide +kernel
theorem dX5_readNumber_56 : decode cX5_readNumber 56 = .ok (.isub, 1) := by decide +kernel
theorem dX5_readNumber_57 : decode cX5_readNumber 57 = .ok (.iconst 3, 1) := by decide +kernel
theorem dX5_readNumber_58 : decode cX5_readNumber 58 = .ok (.if_icmp .ge 23, 3) := by decide +kernel
theorem dX5_readNumber_61 : decode cX5_readNumber 61 = .ok (.iload 4, 2) := by decide +kernel
theorem dX5_readNumber_63 : decode cX5_readNumber 63 = .ok (.bipush 10, 2) := by decide +kernel
theorem dX5_readNumber_65 : decode cX5_readNumber 65 = .ok (.imul, 1) := by decide +kernel
theorem dX5_readNumber_66 : decode cX5_readNumber 66 = .ok (.aload_n 0, 1) := by decide +kernel
theorem dX5_readNumber_67 : decode cX5_readNumber 67 = .ok (.getfield 9, 3) := by decide +kernel
theorem dX5_readNumber_70 : decode cX5_readNumber 70 = .ok (.aload_n 0, 1) := by decide +kernel
theorem dX5_readNumber_71 : decode cX5_readNumber 71 = .ok (.getfield 25, 3) := by decide +kernel
theorem dX5_readNumber_74 : decode cX5_readNumber 74 = .ok (.iaload, 1) := by decide +kernel
theorem dX5_readNumber_75 : decode cX5_readNumber 75 = .ok (.iadd, 1) := by decide +kernel
theorem dX5_readNumber_76 : decode cX5_readNumber 76 = .ok (.bipush 48, 2) := by decide +kernel
theorem dX5_readNumber_78 : decode cX5_readNumber 78 = .ok (.isub, 1) := by decide +kernel
theorem dX5_readNumber_79 : decode cX5_readNumber 79 = .ok (.istore 4, 2) := by decide +kernel
theorem dX5_readNumber_81 : decode cX5_readNumber 81 = .ok (.aload_n 0, 1) := by decide +kernel
theorem dX5_readNumber_82 : decode cX5_readNumber 82 = .ok (.dup, 1) := by decide +kernel
theorem dX5_readNumber_83 : decode cX5_readNumber 83 = .ok (.getfield 25, 3) := by decide +kernel
theorem dX5_readNumber_86 : decode cX5_readNumber 86 = .ok (.iconst 1, 1) := by decide +kernel
theorem dX5_readNumber_87 : decode cX5_readNumber 87 = .ok (.iadd, 1) := by decide +kernel
theorem dX5_readNumber_88 : decode cX5_readNumber 88 = .ok (.putfield 25, 3) := by decide +kernel
theorem dX5_readNumber_91 : decode cX5_readNumber 91 = .ok (.goto (-79), 3) := by decide +kernel
theorem dX5_readNumber_94 : decode cX5_readNumber 94 = .ok (.aload_n 0, 1) := by decide +kernel
theorem dX5_readNumber_95 : decode cX5_readNumber 95 = .ok (.getfield 25, 3) := by decide +kernel
theorem dX5_readNumber_98 : decode cX5_readNumber 98 = .ok (.iload_n 3, 1) := by decide +kernel
theorem dX5_readNumber_99 : decode cX5_readNumber 99 = .ok (.isub, 1) := by decide +kernel
theorem dX5_readNumber_100 : decode cX5_readNumber 100 = .ok (.istore 5, 2) := by decide +kernel
theorem dX5_readNumber_102 : decode cX5_readNumber 102 = .ok (.aload_n 0, 1) := by decide +kernel
theorem dX5_readNumber_103 : decode cX5_readNumber 103 = .ok (.iload 5, 2) := by decide +kernel
theorem dX5_readNumber_105 : decode cX5_readNumber 105 = .ok (.ifCond .ne 7, 3) := by decide +kernel
theorem dX5_readNumber_108 : decode cX5_readNumber 108 = .ok (.iconst 1, 1) := by decide +kernel
theorem dX5_readNumber_109 : decode cX5_readNumber 109 = .ok (.goto 4, 3) := by decide +kernel
theorem dX5_readNumber_112 : decode cX5_readNumber 112 = .ok (.iconst 0, 1) := by decide +kernel
theorem dX5_readNumber_113 : decode cX5_readNumber 113 = .ok (.iconst 1, 1) := by decide +kernel
theorem dX5_readNumber_114 : decode cX5_readNumber 114 = .ok (.iload_n 3, 1) := by decide +kernel
theorem dX5_readNumber_115 : decode cX5_readNumber 115 = .ok (.invokevirtual 60, 3) := by decide +kernel
theorem dX5_readNumber_118 : decode cX5_readNumber 118 = .ok (.aload_n 0, 1) := by decide +kernel
theorem dX5_readNumber_119 : decode cX5_readNumber 119 = .ok (.iload 5, 2) := by decide +kernel
theorem dX5_readNumber_121 : decode cX5_readNumber 121 = .ok (.iconst 3, 1) := by decide +kernel
theorem dX5_readNumber_122 : decode cX5_readNumber 122 = .ok (.if_icmp .gt 15, 3) := by decide +kernel
theorem dX5_readNumber_125 : decode cX5_readNumber 125 = .ok (.iload 4, 2) := by decide +kernel
theorem dX5_readNumber_127 : decode cX5_readNumber 127 = .ok (.iload_n 1, 1) := by decide +kernel
theorem dX5_readNumber_128 : decode cX5_readNumber 128 = .ok (.if_icmp .lt 9, 3) := by decide +kernel
theorem dX5_readNumber_131 : decode cX5_readNumber 131 = .ok (.iload 4, 2) := by decide +kernel
theorem dX5_readNumber_133 : decode cX5_readNumber 133 = .ok (.iload_n 2, 1) := by decide +kernel
theorem dX5_readNumber_134 : decode cX5_readNumber 134 = .ok (.if_icmp .le 7, 3) := by decide +kernel
theorem dX5_readNumber_137 : decode cX5_readNumber 137 = .ok (.iconst 1, 1) := by decide +kernel
theorem dX5_readNumber_138 : decode cX5_readNumber 138 = .ok (.goto 4, 3) := by decide +kernel
theorem dX5_readNumber_141 : decode cX5_readNumber 141 = .ok (.iconst 0, 1) := by decide +kernel
theorem dX5_readNumber_142 : decode cX5_readNumber 142 = .ok (.iconst 2, 1) := by decide +kernel
theorem dX5_readNumber_143 : decode cX5_readNumber 143 = .ok (.iload_n 3, 1) := by decide +kernel
theorem dX5_readNumber_144 : decode cX5_readNumber 144 = .ok (.invokevirtual 60, 3) := by decide +kernel
theorem dX5_readNumber_147 : decode cX5_readNumber 147 = .ok (.iload 4, 2) := by decide +kernel
theorem dX5_readNumber_149 : decode cX5_readNumber 149 = .ok (.ireturn, 1) := by decide +kernel
theorem dX5_readEnd_0 : decode cX5_readEnd 0 = .ok (.aload_n 0, 1) := by decide +kernel
theorem dX5_readEnd_1 : decode cX5_readEnd 1 = .ok (.invokevirtual 33, 3) := by decide +kernel
theorem dX5_readEnd_4 : decode cX5_readEnd 4 = .ok (.aload_n 0, 1) := by decide +kernel
theorem dX5_readEnd_5 : decode cX5_readEnd 5 = .ok (.aload_n 0, 1) := by decide +kernel
theorem dX5_readEnd_6 : decode cX5_readEnd 6 = .ok (.getfield 25, 3) := by decide +kernel
theorem dX5_readEnd_9 : decode cX5_readEnd 9 = .ok (.aload_n 0, 1) := by decide +kernel
theorem dX5_readEnd_10 : decode cX5_readEnd 10 = .ok (.getfield 15, 3) := by decide +kernel
theorem dX5_readEnd_13 : decode cX5_readEnd 13 = .ok (.if_icmp .ge 17, 3) := by decide +kernel
theorem dX5_readEnd_16 : decode cX5_readEnd 16 = .ok (.aload_n 0, 1) := by decide +kernel
theorem dX5_readEnd_17 : decode cX5_readEnd 17 = .ok (.getfield 9, 3) := by decide +kernel
theorem dX5_readEnd_20 : decode cX5_readEnd 20 = .ok (.aload_n 0, 1) := by decide +kernel
theorem dX5_readEnd_21 : decode cX5_readEnd 21 = .ok (.getfield 25, 3) := by decide +kernel
theorem dX5_readEnd_24 : decode cX5_readEnd 24 = .ok (.iaload, 1) := by decide +kernel
theorem dX5_readEnd_25 : decode cX5_readEnd 25 = .ok (.bipush 59, 2) := by decide +kernel
theorem dX5_readEnd_27 : decode cX5_readEnd 27 = .ok (.if_icmp .eq 7, 3) := by decide +kernel
theorem dX5_readEnd_30 : decode cX5_readEnd 30 = .ok (.iconst 1, 1) := by decide +kernel
theorem dX5_readEnd_31 : decode cX5_readEnd 31 = .ok (.goto 4, 3) := by decide +kernel
theorem dX5_readEnd_34 : decode cX5_readEnd 34 = .ok (.iconst 0, 1) := by decide +kernel
theorem dX5_readEnd_35 : decode cX5_readEnd 35 = .ok (.iconst 1, 1) := by decide +kernel
theorem dX5_readEnd_36 : decode cX5_readEnd 36 = .ok (.aload_n 0, 1) := by decide +kernel
theorem dX5_readEnd_37 : decode cX5_readEnd 37 = .ok (.getfield 25, 3) := by decide +kernel
theorem dX5_readEnd_40 : decode cX5_readEnd 40 = .ok (.invokevirtual 60, 3) := by decide +kernel
theorem dX5_readEnd_43 : decode cX5_readEnd 43 = .ok (.aload_n 0, 1) := by decide +kernel
theorem dX5_readEnd_44 : decode cX5_readEnd 44 = .ok (.dup, 1) := by decide +kernel
theorem dX5_readEnd_45 : decode cX5_readEnd 45 = .ok (.getfield 25, 3) := by decide +kernel
theorem dX5_readEnd_48 : decode cX5_readEnd 48 = .ok (.iconst 1, 1) := by decide +kernel
theorem dX5_readEnd_49 : decode cX5_readEnd 49 = .ok (.iadd, 1) := by decide +kernel
theorem dX5_readEnd_50 : decode cX5_readEnd 50 = .ok (.putfield 25, 3) := by decide +kernel
theorem dX5_readEnd_53 : decode cX5_readEnd 53 = .ok (.aload_n 0, 1) := by decide +kernel
theorem dX5_readEnd_54 : decode cX5_readEnd 54 = .ok (.getfield 19, 3) := by decide +kernel
theorem dX5_readEnd_57 : decode cX5_readEnd 57 = .ok (.ifCond .ne 7, 3) := by decide +kernel
theorem dX5_readEnd_60 : decode cX5_readEnd 60 = .ok (.iconst 1, 1) := by decide +kernel
theorem dX5_readEnd_61 : decode cX5_readEnd 61 = .ok (.goto 4, 3) := by decide +kernel
theorem dX5_readEnd_64 : decode cX5_readEnd 64 = .ok (.iconst 0, 1) := by decide +kernel
theorem dX5_readEnd_65 : decode cX5_readEnd 65 = .ok (.ireturn, 1) := by decide +kernel
theorem dX5_skipBlanks_0 : decode cX5_skipBlanks 0 = .ok (.aload_n 0, 1) := by decide +kernel
theorem dX5_skipBlanks_1 : decode cX5_skipBlanks 1 = .ok (.getfield 25, 3) := by decide +kernel
theorem dX5_skipBlanks_4 : decode cX5_skipBlanks 4 = .ok (.aload_n 0, 1) := by decide +kernel
theorem dX5_skipBlanks_5 : decode cX5_skipBlanks 5 = .ok (.getfield 15, 3) := by decide +kernel
theorem dX5_skipBlanks_8 : decode cX5_skipBlanks 8 = .ok (.if_icmp .ge 30, 3) := by decide +kernel
theorem dX5_skipBlanks_11 : decode cX5_skipBlanks 11 = .ok (.aload_n 0, 1) := by decide +kernel
theorem dX5_skipBlanks_12 : decode cX5_skipBlanks 12 = .ok (.getfield 9, 3) := by decide +kernel
theorem dX5_skipBlanks_15 : decode cX5_skipBlanks 15 = .ok (.aload_n 0, 1) := by decide +kernel
theorem dX5_skipBlanks_16 : decode cX5_skipBlanks 16 = .ok (.getfield 25, 3) := by decide +kernel
theorem dX5_skipBlanks_19 : decode cX5_skipBlanks 19 = .ok (.iaload, 1) := by decide +kernel
theorem dX5_skipBlanks_20 : decode cX5_skipBlanks 20 = .ok (.bipush 32, 2) := by decide +kernel
theorem dX5_skipBlanks_22 : decode cX5_skipBlanks 22 = .ok (.if_icmp .ne 16, 3) := by decide +kernel
theorem dX5_skipBlanks_25 : decode cX5_skipBlanks 25 = .ok (.aload_n 0, 1) := by decide +kernel
theorem dX5_skipBlanks_26 : decode cX5_skipBlanks 26 = .ok (.dup, 1) := by decide +kernel
theorem dX5_skipBlanks_27 : decode cX5_skipBlanks 27 = .ok (.getfield 25, 3) := by decide +kernel
theorem dX5_skipBlanks_30 : decode cX5_skipBlanks 30 = .ok (.iconst 1, 1) := by decide +kernel
theorem dX5_skipBlanks_31 : decode cX5_skipBlanks 31 = .ok (.iadd, 1) := by decide +kernel
theorem dX5_skipBlanks_32 : decode cX5_skipBlanks 32 = .ok (.putfield 25, 3) := by decide +kernel
theorem dX5_skipBlanks_35 : decode cX5_skipBlanks 35 = .ok (.goto (-35), 3) := by decide +kernel
theorem dX5_skipBlanks_38 : decode cX5_skipBlanks 38 = .ok (.return_, 1) := by decide +kernel
theorem dX5_failIf_0 : decode cX5_failIf 0 = .ok (.iload_n 1, 1) := by decide +kernel
theorem dX5_failIf_1 : decode cX5_failIf 1 = .ok (.ifCond .eq 9, 3) := by decide +kernel
theorem dX5_failIf_4 : decode cX5_failIf 4 = .ok (.aload_n 0, 1) := by decide +kernel
theorem dX5_failIf_5 : decode cX5_failIf 5 = .ok (.iload_n 2, 1) := by decide +kernel
theorem dX5_failIf_6 : decode cX5_failIf 6 = .ok (.iload_n 3, 1) := by decide +kernel
theorem dX5_failIf_7 : decode cX5_failIf 7 = .ok (.invokevirtual 43, 3) := by decide +kernel
theorem dX5_failIf_10 : decode cX5_failIf 10 = .ok (.return_, 1) := by decide +kernel
theorem dX5_fail_0 : decode cX5_fail 0 = .ok (.aload_n 0, 1) := by decide +kernel
theorem dX5_fail_1 : decode cX5_fail 1 = .ok (.getfield 19, 3) := by decide +kernel
theorem dX5_fail_4 : decode cX5_fail 4 = .ok (.ifCond .ne 13, 3) := by decide +kernel
theorem dX5_fail_7 : decode cX5_fail 7 = .ok (.aload_n 0, 1) := by decide +kernel
theorem dX5_fail_8 : decode cX5_fail 8 = .ok (.iload_n 1, 1) := by decide +kernel
theorem dX5_fail_9 : decode cX5_fail 9 = .ok (.putfield 19, 3) := by decide +kernel
theorem dX5_fail_12 : decode cX5_fail 12 = .ok (.aload_n 0, 1) := by decide +kernel
theorem dX5_fail_13 : decode cX5_fail 13 = .ok (.iload_n 2, 1) := by decide +kernel
theorem dX5_fail_14 : decode cX5_fail 14 = .ok (.putfield 22, 3) := by decide +kernel
theorem dX5_fail_17 : decode cX5_fail 17 = .ok (.return_, 1) := by decide +kernel
theorem dX6_init_0 : decode cX6_init 0 = .ok (.aload_n 0, 1) := by decide +kernel
theorem dX6_init_1 : decode cX6_init 1 = .ok (.invokespecial 3, 3) := by decide +kernel
theorem dX6_init_4 : decode cX6_init 4 = .ok (.aload_n 0, 1) := by decide +kernel
theorem dX6_init_5 : decode cX6_init 5 = .ok (.bipush 30, 2) := by decide +kernel
theorem dX6_init_7 : decode cX6_init 7 = .ok (.anewarray 9, 3) := by decide +kernel
theorem dX6_init_10 : decode cX6_init 10 = .ok (.putfield 11, 3) := by decide +kernel
theorem dX6_init_13 : decode cX6_init 13 = .ok (.aload_n 0, 1) := by decide +kernel
theorem dX6_init_14 : decode cX6_init 14 = .ok (.iconst 0, 1) := by decide +kernel
theorem dX6_init_15 : decode cX6_init 15 = .ok (.putfield 17, 3) := by decide +kernel
theorem dX6_init_18 : decode cX6_init 18 = .ok (.aload_n 0, 1) := by decide +kernel
theorem dX6_init_19 : decode cX6_init 19 = .ok (.iconst 0, 1) := by decide +kernel
theorem dX6_init_20 : decode cX6_init 20 = .ok (.putfield 21, 3) := by decide +kernel
theorem dX6_init_23 : decode cX6_init 23 = .ok (.iconst 0, 1) := by decide +kernel
theorem dX6_init_24 : decode cX6_init 24 = .ok (.istore_n 1, 1) := by decide +kernel
theorem dX6_init_25 : decode cX6_init 25 = .ok (.iload_n 1, 1) := by decide +kernel
theorem dX6_init_26 : decode cX6_init 26 = .ok (.bipush 30, 2) := by decide +kernel
theorem dX6_init_28 : decode cX6_init 28 = .ok (.if_icmp .ge 22, 3) := by decide +kernel
theorem dX6_init_31 : decode cX6_init 31 = .ok (.aload_n 0, 1) := by decide +kernel
theorem dX6_init_32 : decode cX6_init 32 = .ok (.getfield 11, 3) := by decide +kernel
theorem dX6_init_35 : decode cX6_init 35 = .ok (.iload_n 1, 1) := by decide +kernel
theorem dX6_init_36 : decode cX6_init 36 = .ok (.new 9, 3) := by decide +kernel
theorem dX6_init_39 : decode cX6_init 39 = .ok (.dup, 1) := by decide +kernel
theorem dX6_init_40 : decode cX6_init 40 = .ok (.invokespecial 24, 3) := by decide +kernel
theorem dX6_init_43 : decode cX6_init 43 = .ok (.aastore, 1) := by decide +kernel
theorem dX6_init_44 : decode cX6_init 44 = .ok (.iinc 1 1, 3) := by decide +kernel
theorem dX6_init_47 : decode cX6_init 47 = .ok (.goto (-22), 3) := by decide +kernel
theorem dX6_init_50 : decode cX6_init 50 = .ok (.return_, 1) := by decide +kernel
theorem dX6_clear_0 : decode cX6_clear 0 = .ok (.aload_n 0, 1) := by decide +kernel
theorem dX6_clear_1 : decode cX6_clear 1 = .ok (.iconst 0, 1) := by decide +kernel
theorem dX6_clear_2 : decode cX6_clear 2 = .ok (.putfield 17, 3) := by decide +kernel
theorem dX6_clear_5 : decode cX6_clear 5 = .ok (.aload_n 0, 1) := by decide +kernel
theorem dX6_clear_6 : decode cX6_clear 6 = .ok (.iconst 0, 1) := by decide +kernel
theorem dX6_clear_7 : decode cX6_clear 7 = .ok (.putfield 21, 3) := by decide +kernel
theorem dX6_clear_10 : decode cX6_clear 10 = .ok (.return_, 1) := by decide +kernel
theorem dX6_remember_0 : decode cX6_remember 0 = .ok (.aload_n 0, 1) := by decide +kernel
theorem dX6_remember_1 : decode cX6_remember 1 = .ok (.getfield 11, 3) := by decide +kernel
theorem dX6_remember_4 : decode cX6_remember 4 = .ok (.aload_n 0, 1) := by decide +kernel
theorem dX6_remember_5 : decode cX6_remember 5 = .ok (.getfield 21, 3) := by decide +kernel
theorem dX6_remember_8 : decode cX6_remember 8 = .ok (.aaload, 1) := by decide +kernel
theorem dX6_remember_9 : decode cX6_remember 9 = .ok (.aload_n 1, 1) := by decide +kernel
theorem dX6_remember_10 : decode cX6_remember 10 = .ok (.invokevirtual 25, 3) := by decide +kernel
theorem dX6_remember_13 : decode cX6_remember 13 = .ok (.aload_n 0, 1) := by decide +kernel
theorem dX6_remember_14 : decode cX6_remember 14 = .ok (.aload_n 0, 1) := by decide +kernel
theorem dX6_remember_15 : decode cX6_remember 15 = .ok (.getfield 21, 3) := by decide +kernel
theorem dX6_remember_18 : decode cX6_remember 18 = .ok (.iconst 1, 1) := by decide +kernel
theorem dX6_remember_19 : decode cX6_remember 19 = .ok (.iadd, 1) := by decide +kernel
theorem dX6_remember_20 : decode cX6_remember 20 = .ok (.bipush 30, 2) := by decide +kernel
theorem dX6_remember_22 : decode cX6_remember 22 = .ok (.irem, 1) := by decide +kernel
theorem dX6_remember_23 : decode cX6_remember 23 = .ok (.putfield 21, 3) := by decide +kernel
theorem dX6_remember_26 : decode cX6_remember 26 = .ok (.aload_n 0, 1) := by decide +kernel
theorem dX6_remember_27 : decode cX6_remember 27 = .ok (.aload_n 0, 1) := by decide +kernel
theorem dX6_remember_28 : decode cX6_remember 28 = .ok (.getfield 17, 3) := by decide +kernel
theorem dX6_remember_31 : decode cX6_remember 31 = .ok (.iconst 1, 1) := by decide +kernel
theorem dX6_remember_32 : decode cX6_remember 32 = .ok (.iadd, 1) := by decide +kernel
theorem dX6_remember_33 : decode cX6_remember 33 = .ok (.bipush 30, 2) := by decide +kernel
theorem dX6_remember_35 : decode cX6_remember 35 = .ok (.invokestatic 29, 3) := by decide +kernel
theorem dX6_remember_38 : decode cX6_remember 38 = .ok (.putfield 17, 3) := by decide +kernel
theorem dX6_remember_41 : decode cX6_remember 41 = .ok (.return_, 1) := by decide +kernel
theorem dX6_takeBack_0 : decode cX6_takeBack 0 = .ok (.aload_n 0, 1) := by decide +kernel
theorem dX6_takeBack_1 : decode cX6_takeBack 1 = .ok (.aload_n 0, 1) := by decide +kernel
theorem dX6_takeBack_2 : decode cX6_takeBack 2 = .ok (.getfield 21, 3) := by decide +kernel
theorem dX6_takeBack_5 : decode cX6_takeBack 5 = .ok (.iload_n 1, 1) := by decide +kernel
theorem dX6_takeBack_6 : decode cX6_takeBack 6 = .ok (.isub, 1) := by decide +kernel
theorem dX6_takeBack_7 : decode cX6_takeBack 7 = .ok (.bipush 30, 2) := by decide +kernel
theorem dX6_takeBack_9 : decode cX6_takeBack 9 = .ok (.invokestatic 35, 3) := by decide +kernel
theorem dX6_takeBack_12 : decode cX6_takeBack 12 = .ok (.putfield 21, 3) := by decide +kernel
theorem dX6_takeBack_15 : decode cX6_takeBack 15 = .ok (.aload_n 0, 1) := by decide +kernel
theorem dX6_takeBack_16 : decode cX6_takeBack 16 = .ok (.dup, 1) := by decide +kernel
theorem dX6_takeBack_17 : decode cX6_takeBack 17 = .ok (.getfield 17, 3) := by decide +kernel
theorem dX6_takeBack_20 : decode cX6_takeBack 20 = .ok (.iload_n 1, 1) := by decide +kernel
theorem dX6_takeBack_21 : decode cX6_takeBack 21 = .ok (.isub, 1) := by decide +kernel
theorem dX6_takeBack_22 : decode cX6_takeBack 22 = .ok (.putfield 17, 3) := by decide +kernel
theorem dX6_takeBack_25 : decode cX6_takeBack 25 = .ok (.aload_n 2, 1) := by decide +kernel
theorem dX6_takeBack_26 : decode cX6_takeBack 26 = .ok (.aload_n 0, 1) := by decide +kernel
theorem dX6_takeBack_27 : decode cX6_takeBack 27 = .ok (.getfield 11, 3) := by decide +kernel
theorem dX6_takeBack_30 : decode cX6_takeBack 30 = .ok (.aload_n 0, 1) := by decide +kernel
theorem dX6_takeBack_31 : decode cX6_takeBack 31 = .ok (.getfield 21, 3) := by decide +kernel
theorem dX6_takeBack_34 : decode cX6_takeBack 34 = .ok (.aaload, 1) := by decide +kernel
theorem dX6_takeBack_35 : decode cX6_takeBack 35 = .ok (.invokevirtual 25, 3) := by decide +kernel
theorem dX6_takeBack_38 : decode cX6_takeBack 38 = .ok (.return_, 1) := by decide +kernel
theorem dJ6_bitCount_0f7a4_0 : decode cJ6_bitCount_0f7a4 0 = .ok (.iload_n 0, 1) := by decide +kernel
theorem dJ6_bitCount_0f7a4_1 : decode cJ6_bitCount_0f7a4 1 = .ok (.iload_n 0, 1) := by decide +kernel
theorem dJ6_bitCount_0f7a4_2 : decode cJ6_bitCount_0f7a4 2 = .ok (.iconst 1, 1) := by decide +kernel
theorem dJ6_bitCount_0f7a4_3 : decode cJ6_bitCount_0f7a4 3 = .ok (.iushr, 1) := by decide +kernel
theorem dJ6_bitCount_0f7a4_4 : decode cJ6_bitCount_0f7a4 4 = .ok (.ldc_w 265, 3) := by decide +kernel
theorem dJ6_bitCount_0f7a4_7 : decode cJ6_bitCount_0f7a4 7 = .ok (.iand, 1) := by decide +kernel
theorem dJ6_bitCount_0f7a4_8 : decode cJ6_bitCount_0f7a4 8 = .ok (.isub, 1) := by decide +kernel
theorem dJ6_bitCount_0f7a4_9 : decode cJ6_bitCount_0f7a4 9 = .ok (.istore_n 0, 1) := by decide +kernel
theorem dJ6_bitCount_0f7a4_10 : decode cJ6_bitCount_0f7a4 10 = .ok (.iload_n 0, 1) := by decide +kernel
theorem dJ6_bitCount_0f7a4_11 : decode cJ6_bitCount_0f7a4 11 = .ok (.ldc_w 266, 3) := by decide +kernel
theorem dJ6_bitCount_0f7a4_14 : decode cJ6_bitCount_0f7a4 14 = .ok (.iand, 1) := by decide +kernel
theorem dJ6_bitCount_0f7a4_15 : decode cJ6_bitCount_0f7a4 15 = .ok (.iload_n 0, 1) := by decide +kernel
theorem dJ6_bitCount_0f7a4_16 : decode cJ6_bitCount_0f7a4 16 = .ok (.iconst 2, 1) := by decide +kernel
theorem dJ6_bitCount_0f7a4_17 : decode cJ6_bitCount_0f7a4 17 = .ok (.iushr, 1) := by decide +kernel
theorem dJ6_bitCount_0f7a4_18 : decode cJ6_bitCount_0f7a4 18 = .ok (.ldc_w 266, 3) := by decide +kernel
theorem dJ6_bitCount_0f7a4_21 : decode cJ6_bitCount_0f7a4 21 = .ok (.iand, 1) := by decide +kernel
theorem dJ6_bitCount_0f7a4_22 : decode cJ6_bitCount_0f7a4 22 = .ok (.iadd, 1) := by decide +kernel
theorem dJ6_bitCount_0f7a4_23 : decode cJ6_bitCount_0f7a4 23 = .ok (.istore_n 0, 1) := by decide +kernel
theorem dJ6_bitCount_0f7a4_24 : decode cJ6_bitCount_0f7a4 24 = .ok (.iload_n 0, 1) := by decide +kernel
theorem dJ6_bitCount_0f7a4_25 : decode cJ6_bitCount_0f7a4 25 = .ok (.iload_n 0, 1) := by decide +kernel
theorem dJ6_bitCount_0f7a4_26 : decode cJ6_bitCount_0f7a4 26 = .ok (.iconst 4, 1) := by decide +kernel
theorem dJ6_bitCount_0f7a4_27 : decode cJ6_bitCount_0f7a4 27 = .ok (.iushr, 1) := by decide +kernel
theorem dJ6_bitCount_0f7a4_28 : decode cJ6_bitCount_0f7a4 28 = .ok (.iadd, 1) := by decide +kernel
theorem dJ6_bitCount_0f7a4_29 : decode cJ6_bitCount_0f7a4 29 = .ok (.ldc_w 267, 3) := by decide +kernel
theorem dJ6_bitCount_0f7a4_32 : decode cJ6_bitCount_0f7a4 32 = .ok (.iand, 1) := by decide +kernel
theorem dJ6_bitCount_0f7a4_33 : decode cJ6_bitCount_0f7a4 33 = .ok (.istore_n 0, 1) := by decide +kernel
theorem dJ6_bitCount_0f7a4_34 : decode cJ6_bitCount_0f7a4 34 = .ok (.iload_n 0, 1) := by decide +kernel
theorem dJ6_bitCount_0f7a4_35 : decode cJ6_bitCount_0f7a4 35 = .ok (.iload_n 0, 1) := by decide +kernel
theorem dJ6_bitCount_0f7a4_36 : decode cJ6_bitCount_0f7a4 36 = .ok (.bipush 8, 2) := by decide +kernel
theorem dJ6_bitCount_0f7a4_38 : decode cJ6_bitCount_0f7a4 38 = .ok (.iushr, 1) := by decide +kernel
theorem dJ6_bitCount_0f7a4_39 : decode cJ6_bitCount_0f7a4 39 = .ok (.iadd, 1) := by decide +kernel
theorem dJ6_bitCount_0f7a4_40 : decode cJ6_bitCount_0f7a4 40 = .ok (.istore_n 0, 1) := by decide +kernel
theorem dJ6_bitCount_0f7a4_41 : decode cJ6_bitCount_0f7a4 41 = .ok (.iload_n 0, 1) := by decide +kernel
theorem dJ6_bitCount_0f7a4_42 : decode cJ6_bitCount_0f7a4 42 = .ok (.iload_n 0, 1) := by decide +kernel
theorem dJ6_bitCount_0f7a4_43 : decode cJ6_bitCount_0f7a4 43 = .ok (.bipush 16, 2) := by decide +kernel
theorem dJ6_bitCount_0f7a4_45 : decode cJ6_bitCount_0f7a4 45 = .ok (.iushr, 1) := by decide +kernel
theorem dJ6_bitCount_0f7a4_46 : decode cJ6_bitCount_0f7a4 46 = .ok (.iadd, 1) := by decide +kernel
theorem dJ6_bitCount_0f7a4_47 : decode cJ6_bitCount_0f7a4 47 = .ok (.istore_n 0, 1) := by decide +kernel
theorem dJ6_bitCount_0f7a4_48 : decode cJ6_bitCount_0f7a4 48 = .ok (.iload_n 0, 1) := by decide +kernel
theorem dJ6_bitCount_0f7a4_49 : decode cJ6_bitCount_0f7a4 49 = .ok (.bipush 63, 2) := by decide +kernel
theorem dJ6_bitCount_0f7a4_51 : decode cJ6_bitCount_0f7a4 51 = .ok (.iand, 1) := by decide +kernel
theorem dJ6_bitCount_0f7a4_52 : decode cJ6_bitCount_0f7a4 52 = .ok (.ireturn, 1) := by decide +kernel
theorem dJ7_fill_53178_0 : decode cJ7_fill_53178 0 = .ok (.iconst 0, 1) := by decide +kernel
theorem dJ7_fill_53178_1 : decode cJ7_fill_53178 1 = .ok (.istore_n 2, 1) := by decide +kernel
theorem dJ7_fill_53178_2 : decode cJ7_fill_53178 2 = .ok (.aload_n 0, 1) := by decide +kernel
theorem dJ7_fill_53178_3 : decode cJ7_fill_53178 3 = .ok (.arraylength, 1) := by decide +kernel
theorem dJ7_fill_53178_4 : decode cJ7_fill_53178 4 = .ok (.istore_n 3, 1) := by decide +kernel
theorem dJ7_fill_53178_5 : decode cJ7_fill_53178 5 = .ok (.iload_n 2, 1) := by decide +kernel
theorem dJ7_fill_53178_6 : decode cJ7_fill_53178 6 = .ok (.iload_n 3, 1) := by decide +kernel
theorem dJ7_fill_53178_7 : decode cJ7_fill_53178 7 = .ok (.if_icmp .ge 13, 3) := by decide +kernel
theorem dJ7_fill_53178_10 : decode cJ7_fill_53178 10 = .ok (.aload_n 0, 1) := by decide +kernel
theorem dJ7_fill_53178_11 : decode cJ7_fill_53178 11 = .ok (.iload_n 2, 1) := by decide +kernel
theorem dJ7_fill_53178_12 : decode cJ7_fill_53178 12 = .ok (.iload_n 1, 1) := by decide +kernel
theorem dJ7_fill_53178_13 : decode cJ7_fill_53178 13 = .ok (.iastore, 1) := by decide +kernel
theorem dJ7_fill_53178_14 : decode cJ7_fill_53178 14 = .ok (.iinc 2 1, 3) := by decide +kernel
theorem dJ7_fill_53178_17 : decode cJ7_fill_53178 17 = .ok (.goto (-12), 3) := by decide +kernel
theorem dJ7_fill_53178_20 : decode cJ7_fill_53178 20 = .ok (.return_, 1) := by decide +kernel
theorem dJ9_floorMod_7cf53_0 : decode cJ9_floorMod_7cf53 0 = .ok (.iload_n 0, 1) := by decide +kernel
theorem dJ9_floorMod_7cf53_1 : decode cJ9_floorMod_7cf53 1 = .ok (.iload_n 1, 1) := by decide +kernel
theorem dJ9_floorMod_7cf53_2 : decode cJ9_floorMod_7cf53 2 = .ok (.irem, 1) := by decide +kernel
theorem dJ9_floorMod_7cf53_3 : decode cJ9_floorMod_7cf53 3 = .ok (.istore_n 2, 1) := by decide +kernel
theorem dJ9_floorMod_7cf53_4 : decode cJ9_floorMod_7cf53 4 = .ok (.iload_n 0, 1) := by decide +kernel
theorem dJ9_floorMod_7cf53_5 : decode cJ9_floorMod_7cf53 5 = .ok (.iload_n 1, 1) := by decide +kernel
theorem dJ9_floorMod_7cf53_6 : decode cJ9_floorMod_7cf53 6 = .ok (.ixor, 1) := by decide +kernel
theorem dJ9_floorMod_7cf53_7 : decode cJ9_floorMod_7cf53 7 = .ok (.ifCond .ge 11, 3) := by decide +kernel
theorem dJ9_floorMod_7cf53_10 : decode cJ9_floorMod_7cf53 10 = .ok (.iload_n 2, 1) := by decide +kernel
theorem dJ9_floorMod_7cf53_11 : decode cJ9_floorMod_7cf53 11 = .ok (.ifCond .eq 7, 3) := by decide +kernel
theorem dJ9_floorMod_7cf53_14 : decode cJ9_floorMod_7cf53 14 = .ok (.iload_n 2, 1) := by decide +kernel
theorem dJ9_floorMod_7cf53_15 : decode cJ9_floorMod_7cf53 15 = .ok (.iload_n 1, 1) := by decide +kernel
theorem dJ9_floorMod_7cf53_16 : decode cJ9_floorMod_7cf53 16 = .ok (.iadd, 1) := by decide +kernel
theorem dJ9_floorMod_7cf53_17 : decode cJ9_floorMod_7cf53 17 = .ok (.ireturn, 1) := by decide +kernel
theorem dJ9_floorMod_7cf53_18 : decode cJ9_floorMod_7cf53 18 = .ok (.iload_n 2, 1) := by decide +kernel
theorem dJ9_floorMod_7cf53_19 : decode cJ9_floorMod_7cf53 19 = .ok (.ireturn, 1) := by decide +kernel
theorem dJ9_max_7cf53_0 : decode cJ9_max_7cf53 0 = .ok (.iload_n 0, 1) := by decide +kernel
theorem dJ9_max_7cf53_1 : decode cJ9_max_7cf53 1 = .ok (.iload_n 1, 1) := by decide +kernel
theorem dJ9_max_7cf53_2 : decode cJ9_max_7cf53 2 = .ok (.if_icmp .lt 7, 3) := by decide +kernel
theorem dJ9_max_7cf53_5 : decode cJ9_max_7cf53 5 = .ok (.iload_n 0, 1) := by decide +kernel
theorem dJ9_max_7cf53_6 : decode cJ9_max_7cf53 6 = .ok (.goto 4, 3) := by decide +kernel
theorem dJ9_max_7cf53_9 : decode cJ9_max_7cf53 9 = .ok (.iload_n 1, 1) := by decide +kernel
theorem dJ9_max_7cf53_10 : decode cJ9_max_7cf53 10 = .ok (.ireturn, 1) := by decide +kernel
theorem dJ9_min_7cf53_0 : decode cJ9_min_7cf53 0 = .ok (.iload_n 0, 1) := by decide +kernel
theorem dJ9_min_7cf53_1 : decode cJ9_min_7cf53 1 = .ok (.iload_n 1, 1) := by decide +kernel
theorem dJ9_min_7cf53_2 : decode cJ9_min_7cf53 2 = .ok (.if_icmp .gt 7, 3) := by decide +kernel
theorem dJ9_min_7cf53_5 : decode cJ9_min_7cf53 5 = .ok (.iload_n 0, 1) := by decide +kernel
theorem dJ9_min_7cf53_6 : decode cJ9_min_7cf53 6 = .ok (.goto 4, 3) := by decide +kernel
theorem dJ9_min_7cf53_9 : decode cJ9_min_7cf53 9 = .ok (.iload_n 1, 1) := by decide +kernel
theorem dJ9_min_7cf53_10 : decode cJ9_min_7cf53 10 = .ok (.ireturn, 1) := by decide +kernel
end
section
theorem dX7_init_0 : decode cX7_init 0 = .ok (.aload_n 0, 1) := by decide +kernel
theorem dX7_init_1 : decode cX7_init 1 = .ok (.invokespecial 1, 3) := by decide +kernel
theorem dX7_init_4 : decode cX7_init 4 = .ok (.aload_n 0, 1) := by decide +kernel
theorem dX7_init_5 : decode cX7_init 5 = .ok (.new 7, 3) := by decide +kernel
theorem dX7_init_8 : decode cX7_init 8 = .ok (.dup, 1) := by decide +kernel
theorem dX7_init_9 : decode cX7_init 9 = .ok (.invokespecial 9, 3) := by decide +kernel
theorem dX7_init_12 : decode cX7_init 12 = .ok (.putfield 10, 3) := by decide +kernel
theorem dX7_init_15 : decode cX7_init 15 = .ok (.aload_n 0, 1) := by decide +kernel
theorem dX7_init_16 : decode cX7_init 16 = .ok (.new 16, 3) := by decide +kernel
theorem dX7_init_19 : decode cX7_init 19 = .ok (.dup, 1) := by decide +kernel
theorem dX7_init_20 : decode cX7_init 20 = .ok (.invokespecial 18, 3) := by decide +kernel
theorem dX7_init_23 : decode cX7_init 23 = .ok (.putfield 19, 3) := by decide +kernel
theorem dX7_init_26 : decode cX7_init 26 = .ok (.aload_n 0, 1) := by decide +kernel
theorem dX7_init_27 : decode cX7_init 27 = .ok (.new 16, 3) := by decide +kernel
theorem dX7_init_30 : decode cX7_init 30 = .ok (.dup, 1) := by decide +kernel
theorem dX7_init_31 : decode cX7_init 31 = .ok (.invokespecial 18, 3) := by decide +kernel
theorem dX7_init_34 : decode cX7_init 34 = .ok (.putfield 23, 3) := by decide +kernel
theorem dX7_init_37 : decode cX7_init 37 = .ok (.aload_n 0, 1) := by decide +kernel
theorem dX7_init_38 : decode cX7_init 38 = .ok (.new 26, 3) := by decide +kernel
theorem dX7_init_41 : decode cX7_init 41 = .ok (.dup, 1) := by decide +kernel
theorem dX7_init_42 : decode cX7_init 42 = .ok (.invokespecial 28, 3) := by decide +kernel
theorem dX7_init_45 : decode cX7_init 45 = .ok (.putfield 29, 3) := by decide +kernel
theorem dX7_init_48 : decode cX7_init 48 = .ok (.aload_n 0, 1) := by decide +kernel
theorem dX7_init_49 : decode cX7_init 49 = .ok (.new 33, 3) := by decide +kernel
theorem dX7_init_52 : decode cX7_init 52 = .ok (.dup, 1) := by decide +kernel
theorem dX7_init_53 : decode cX7_init 53 = .ok (.invokespecial 35, 3) := by decide +kernel
theorem dX7_init_56 : decode cX7_init 56 = .ok (.putfield 36, 3) := by decide +kernel
theorem dX7_init_59 : decode cX7_init 59 = .ok (.aload_n 0, 1) := by decide +kernel
theorem dX7_init_60 : decode cX7_init 60 = .ok (.iconst 2, 1) := by decide +kernel
theorem dX7_init_61 : decode cX7_init 61 = .ok (.anewarray 26, 3) := by decide +kernel
theorem dX7_init_64 : decode cX7_init 64 = .ok (.putfield 40, 3) := by decide +kernel
theorem dX7_init_67 : decode cX7_init 67 = .ok (.aload_n 0, 1) := by decide +kernel
theorem dX7_init_68 : decode cX7_init 68 = .ok (.iconst 2, 1) := by decide +kernel
theorem dX7_init_69 : decode cX7_init 69 = .ok (.newarray .int, 2) := by decide +kernel
theorem dX7_init_71 : decode cX7_init 71 = .ok (.putfield 44, 3) := by decide +kernel
theorem dX7_init_74 : decode cX7_init 74 = .ok (.aload_n 0, 1) := by decide +kernel
theorem dX7_init_75 : decode cX7_init 75 = .ok (.iconst 2, 1) := by decide +kernel
theorem dX7_init_76 : decode cX7_init 76 = .ok (.newarray .boolean, 2) := by decide +kernel
theorem dX7_init_78 : decode cX7_init 78 = .ok (.putfield 48, 3) := by decide +kernel
theorem dX7_init_81 : decode cX7_init 81 = .ok (.aload_n 0, 1) := by decide +kernel
theorem dX7_init_82 : decode cX7_init 82 = .ok (.new 52, 3) := by decide +kernel
theorem dX7_init_85 : decode cX7_init 85 = .ok (.dup, 1) := by decide +kernel
theorem dX7_init_86 : decode cX7_init 86 = .ok (.invokespecial 54, 3) := by decide +kernel
theorem dX7_init_89 : decode cX7_init 89 = .ok (.putfield 55, 3) := by decide +kernel
theorem dX7_init_92 : decode cX7_init 92 = .ok (.aload_n 0, 1) := by decide +kernel
theorem dX7_init_93 : decode cX7_init 93 = .ok (.new 59, 3) := by decide +kernel
theorem dX7_init_96 : decode cX7_init 96 = .ok (.dup, 1) := by decide +kernel
theorem dX7_init_97 : decode cX7_init 97 = .ok (.invokespecial 61, 3) := by decide +kernel
theorem dX7_init_100 : decode cX7_init 100 = .ok (.putfield 62, 3) := by decide +kernel
theorem dX7_init_103 : decode cX7_init 103 = .ok (.aload_n 0, 1) := by decide +kernel
theorem dX7_init_104 : decode cX7_init 104 = .ok (.new 66, 3) := by decide +kernel
theorem dX7_init_107 : decode cX7_init 107 = .ok (.dup, 1) := by decide +kernel
theorem dX7_init_108 : decode cX7_init 108 = .ok (.invokespecial 68, 3) := by decide +kernel
theorem dX7_init_111 : decode cX7_init 111 = .ok (.putfield 69, 3) := by decide +kernel
theorem dX7_init_114 : decode cX7_init 114 = .ok (.aload_n 0, 1) := by decide +kernel
theorem dX7_init_115 : decode cX7_init 115 = .ok (.iconst 0, 1) := by decide +kernel
theorem dX7_init_116 : decode cX7_init 116 = .ok (.putfield 73, 3) := by decide +kernel
theorem dX7_init_119 : decode cX7_init 119 = .ok (.aload_n 0, 1) := by decide +kernel
theorem dX7_init_120 : decode cX7_init 120 = .ok (.iconst (-1), 1) := by decide +kernel
theorem dX7_init_121 : decode cX7_init 121 = .ok (.putfield 77, 3) := by decide +kernel
theorem dX7_init_124 : decode cX7_init 124 = .ok (.iconst 0, 1) := by decide +kernel
theorem dX7_init_125 : decode cX7_init 125 = .ok (.istore_n 1, 1) := by decide +kernel
theorem dX7_init_126 : decode cX7_init 126 = .ok (.iload_n 1, 1) := by decide +kernel
theorem dX7_init_127 : decode cX7_init 127 = .ok (.iconst 2, 1) := by decide +kernel
theorem dX7_init_128 : decode cX7_init 128 = .ok (.if_icmp .ge 22, 3) := by decide +kernel
theorem dX7_init_131 : decode cX7_init 131 = .ok (.aload_n 0, 1) := by decide +kernel
theorem dX7_init_132 : decode cX7_init 132 = .ok (.getfield 40, 3) := by decide +kernel
theorem dX7_init_135 : decode cX7_init 135 = .ok (.iload_n 1, 1) := by decide +kernel
theorem dX7_init_136 : decode cX7_init 136 = .ok (.new 26, 3) := by decide +kernel
theorem dX7_init_139 : decode cX7_init 139 = .ok (.dup, 1) := by decide +kernel
theorem dX7_init_140 : decode cX7_init 140 = .ok (.invokespecial 28, 3) := by decide +kernel
theorem dX7_init_143 : decode cX7_init 143 = .ok (.aastore, 1) := by decide +kernel
theorem dX7_init_144 : decode cX7_init 144 = .ok (.iinc 1 1, 3) := by decide +kernel
theorem dX7_init_147 : decode cX7_init 147 = .ok (.goto (-21), 3) := by decide +kernel
theorem dX7_init_150 : decode cX7_init 150 = .ok (.return_, 1) := by decide +kernel
theorem dX7_feed_0 : decode cX7_feed 0 = .ok (.iload_n 1, 1) := by decide +kernel
theorem dX7_feed_1 : decode cX7_feed 1 = .ok (.ifCond .lt 10, 3) := by decide +kernel
theorem dX7_feed_4 : decode cX7_feed 4 = .ok (.iload_n 1, 1) := by decide +kernel
theorem dX7_feed_5 : decode cX7_feed 5 = .ok (.sipush 255, 3) := by decide +kernel
theorem dX7_feed_8 : decode cX7_feed 8 = .ok (.if_icmp .le 6, 3) := by decide +kernel
theorem dX7_feed_11 : decode cX7_feed 11 = .ok (.ldc 80, 2) := by decide +kernel
theorem dX7_feed_13 : decode cX7_feed 13 = .ok (.ireturn, 1) := by decide +kernel
theorem dX7_feed_14 : decode cX7_feed 14 = .ok (.aload_n 0, 1) := by decide +kernel
theorem dX7_feed_15 : decode cX7_feed 15 = .ok (.getfield 10, 3) := by decide +kernel
theorem dX7_feed_18 : decode cX7_feed 18 = .ok (.iload_n 1, 1) := by decide +kernel
theorem dX7_feed_19 : decode cX7_feed 19 = .ok (.invokevirtual 81, 3) := by decide +kernel
theorem dX7_feed_22 : decode cX7_feed 22 = .ok (.ifCond .eq 13, 3) := by decide +kernel
theorem dX7_feed_25 : decode cX7_feed 25 = .ok (.aload_n 0, 1) := by decide +kernel
theorem dX7_feed_26 : decode cX7_feed 26 = .ok (.getfield 10, 3) := by decide +kernel
theorem dX7_feed_29 : decode cX7_feed 29 = .ok (.getfield 85, 3) := by decide +kernel
theorem dX7_feed_32 : decode cX7_feed 32 = .ok (.goto 5, 3) := by decide +kernel
theorem dX7_feed_35 : decode cX7_feed 35 = .ok (.ldc 88, 2) := by decide +kernel
theorem dX7_feed_37 : decode cX7_feed 37 = .ok (.ireturn, 1) := by decide +kernel
theorem dX7_manor_0 : decode cX7_manor 0 = .ok (.aload_n 0, 1) := by decide +kernel
theorem dX7_manor_1 : decode cX7_manor 1 = .ok (.getfield 10, 3) := by decide +kernel
theorem dX7_manor_4 : decode cX7_manor 4 = .ok (.aload_n 0, 1) := by decide +kernel
theorem dX7_manor_5 : decode cX7_manor 5 = .ok (.getfield 23, 3) := by decide +kernel
theorem dX7_manor_8 : decode cX7_manor 8 = .ok (.invokevirtual 89, 3) := by decide +kernel
theorem dX7_manor_11 : decode cX7_manor 11 = .ok (.aload_n 0, 1) := by decide +kernel
theorem dX7_manor_12 : decode cX7_manor 12 = .ok (.getfield 10, 3) := by decide +kernel
theorem dX7_manor_15 : decode cX7_manor 15 = .ok (.iconst 0, 1) := by decide +kernel
theorem dX7_manor_16 : decode cX7_manor 16 = .ok (.putfield 85, 3) := by decide +kernel
theorem dX7_manor_19 : decode cX7_manor 19 = .ok (.aload_n 0, 1) := by decide +kernel
theorem dX7_manor_20 : decode cX7_manor 20 = .ok (.aload_n 0, 1) := by decide +kernel
theorem dX7_manor_21 : decode cX7_manor 21 = .ok (.getfield 10, 3) := by decide +kernel
theorem dX7_manor_24 : decode cX7_manor 24 = .ok (.getfield 93, 3) := by decide +kernel
theorem dX7_manor_27 : decode cX7_manor 27 = .ok (.putfield 77, 3) := by decide +kernel
theorem dX7_manor_30 : decode cX7_manor 30 = .ok (.aload_n 0, 1) := by decide +kernel
theorem dX7_manor_31 : decode cX7_manor 31 = .ok (.getfield 10, 3) := by decide +kernel
theorem dX7_manor_34 : decode cX7_manor 34 = .ok (.getfield 96, 3) := by decide +kernel
theorem dX7_manor_37 : decode cX7_manor 37 = .ok (.ifCond .eq 14, 3) := by decide +kernel
theorem dX7_manor_40 : decode cX7_manor 40 = .ok (.bipush (-10), 2) := by decide +kernel
theorem dX7_manor_42 : decode cX7_manor 42 = .ok (.aload_n 0, 1) := by decide +kernel
theorem dX7_manor_43 : decode cX7_manor 43 = .ok (.getfield 10, 3) := by decide +kernel
theorem dX7_manor_46 : decode cX7_manor 46 = .ok (.getfield 96, 3) := by decide +kernel
theorem dX7_manor_49 : decode cX7_manor 49 = .ok (.isub, 1) := by decide +kernel
theorem dX7_manor_50 : decode cX7_manor 50 = .ok (.ireturn, 1) := by decide +kernel
theorem dX7_manor_51 : decode cX7_manor 51 = .ok (.aload_n 0, 1) := by decide +kernel
theorem dX7_manor_52 : decode cX7_manor 52 = .ok (.getfield 19, 3) := by decide +kernel
theorem dX7_manor_55 : decode cX7_manor 55 = .ok (.astore_n 1, 1) := by decide +kernel
theorem dX7_manor_56 : decode cX7_manor 56 = .ok (.aload_n 0, 1) := by decide +kernel
theorem dX7_manor_57 : decode cX7_manor 57 = .ok (.aload_n 0, 1) := by decide +kernel
theorem dX7_manor_58 : decode cX7_manor 58 = .ok (.getfield 23, 3) := by decide +kernel
theorem dX7_manor_61 : decode cX7_manor 61 = .ok (.putfield 19, 3) := by decide +kernel
theorem dX7_manor_64 : decode cX7_manor 64 = .ok (.aload_n 0, 1) := by decide +kernel
theorem dX7_manor_65 : decode cX7_manor 65 = .ok (.aload_n 1, 1) := by decide +kernel
theorem dX7_manor_66 : decode cX7_manor 66 = .ok (.putfield 23, 3) := by decide +kernel
theorem dX7_manor_69 : decode cX7_manor 69 = .ok (.aload_n 0, 1) := by decide +kernel
theorem dX7_manor_70 : decode cX7_manor 70 = .ok (.getfield 19, 3) := by decide +kernel
theorem dX7_manor_73 : decode cX7_manor 73 = .ok (.invokevirtual 99, 3) := by decide +kernel
theorem dX7_manor_76 : decode cX7_manor 76 = .ok (.aload_n 0, 1) := by decide +kernel
theorem dX7_manor_77 : decode cX7_manor 77 = .ok (.getfield 29, 3) := by decide +kernel
theorem dX7_manor_80 : decode cX7_manor 80 = .ok (.aload_n 0, 1) := by decide +kernel
theorem dX7_manor_81 : decode cX7_manor 81 = .ok (.getfield 19, 3) := by decide +kernel
theorem dX7_manor_84 : decode cX7_manor 84 = .ok (.invokevirtual 102, 3) := by decide +kernel
theorem dX7_manor_87 : decode cX7_manor 87 = .ok (.aload_n 0, 1) := by decide +kernel
theorem dX7_manor_88 : decode cX7_manor 88 = .ok (.getfield 36, 3) := by decide +kernel
theorem dX7_manor_91 : decode cX7_manor 91 = .ok (.invokevirtual 105, 3) := by decide +kernel
theorem dX7_manor_94 : decode cX7_manor 94 = .ok (.aload_n 0, 1) := by decide +kernel
theorem dX7_manor_95 : decode cX7_manor 95 = .ok (.invokevirtual 108, 3) := by decide +kernel
theorem dX7_manor_98 : decode cX7_manor 98 = .ok (.aload_n 0, 1) := by decide +kernel
theorem dX7_manor_99 : decode cX7_manor 99 = .ok (.getfield 62, 3) := by decide +kernel
theorem dX7_manor_102 : decode cX7_manor 102 = .ok (.iconst 0, 1) := by decide +kernel
theorem dX7_manor_103 : decode cX7_manor 103 = .ok (.putfield 111, 3) := by decide +kernel
theorem dX7_manor_106 : decode cX7_manor 106 = .ok (.aload_n 0, 1) := by decide +kernel
theorem dX7_manor_107 : decode cX7_manor 107 = .ok (.getfield 69, 3) := by decide +kernel
theorem dX7_manor_110 : decode cX7_manor 110 = .ok (.iconst 0, 1) := by decide +kernel
theorem dX7_manor_111 : decode cX7_manor 111 = .ok (.putfield 114, 3) := by decide +kernel
theorem dX7_manor_114 : decode cX7_manor 114 = .ok (.aload_n 0, 1) := by decide +kernel
theorem dX7_manor_115 : decode cX7_manor 115 = .ok (.getfield 19, 3) := by decide +kernel
theorem dX7_manor_118 : decode cX7_manor 118 = .ok (.getfield 115, 3) := by decide +kernel
theorem dX7_manor_121 : decode cX7_manor 121 = .ok (.ireturn, 1) := by decide +kernel
theorem dX7_fault_0 : decode cX7_fault 0 = .ok (.aload_n 0, 1) := by decide +kernel
theorem dX7_fault_1 : decode cX7_fault 1 = .ok (.getfield 77, 3) := by decide +kernel
theorem dX7_fault_4 : decode cX7_fault 4 = .ok (.ireturn, 1) := by decide +kernel
theorem dX7_told_0 : decode cX7_told 0 = .ok (.iload_n 1, 1) := by decide +kernel
theorem dX7_told_1 : decode cX7_told 1 = .ok (.tableswitch 202 0 13 #[71, 79, 87, 95, 103, 111, 119, 127, 135, 154, 166, 178, 186, 194], 71) := by decide +kernel
theorem dX7_told_72 : decode cX7_told 72 = .ok (.aload_n 0, 1) := by decide +kernel
theorem dX7_told_73 : decode cX7_told 73 = .ok (.getfield 19, 3) := by decide +kernel
theorem dX7_told_76 : decode cX7_told 76 = .ok (.getfield 118, 3) := by decide +kernel
theorem dX7_told_79 : decode cX7_told 79 = .ok (.ireturn, 1) := by decide +kernel
theorem dX7_told_80 : decode cX7_told 80 = .ok (.aload_n 0, 1) := by decide +kernel
theorem dX7_told_81 : decode cX7_told 81 = .ok (.getfield 19, 3) := by decide +kernel
theorem dX7_told_84 : decode cX7_told 84 = .ok (.getfield 121, 3) := by decide +kernel
theorem dX7_told_87 : decode cX7_told 87 = .ok (.ireturn, 1) := by decide +kernel
theorem dX7_told_88 : decode cX7_told 88 = .ok (.aload_n 0, 1) := by decide +kernel
theorem dX7_told_89 : decode cX7_told 89 = .ok (.getfield 19, 3) := by decide +kernel
theorem dX7_told_92 : decode cX7_told 92 = .ok (.getfield 124, 3) := by decide +kernel
theorem dX7_told_95 : decode cX7_told 95 = .ok (.ireturn, 1) := by decide +kernel
theorem dX7_told_96 : decode cX7_told 96 = .ok (.aload_n 0, 1) := by decide +kernel
theorem dX7_told_97 : decode cX7_told 97 = .ok (.getfield 19, 3) := by decide +kernel
theorem dX7_told_100 : decode cX7_told 100 = .ok (.getfield 115, 3) := by decide +kernel
theorem dX7_told_103 : decode cX7_told 103 = .ok (.ireturn, 1) := by decide +kernel
theorem dX7_told_104 : decode cX7_told 104 = .ok (.aload_n 0, 1) := by decide +kernel
theorem dX7_told_105 : decode cX7_told 105 = .ok (.getfield 10, 3) := by decide +kernel
theorem dX7_told_108 : decode cX7_told 108 = .ok (.getfield 85, 3) := by decide +kernel
theorem dX7_told_111 : decode cX7_told 111 = .ok (.ireturn, 1) := by decide +kernel
theorem dX7_told_112 : decode cX7_told 112 = .ok (.aload_n 0, 1) := by decide +kernel
theorem dX7_told_113 : decode cX7_told 113 = .ok (.getfield 29, 3) := by decide +kernel
theorem dX7_told_116 : decode cX7_told 116 = .ok (.getfield 127, 3) := by decide +kernel
theorem dX7_told_119 : decode cX7_told 119 = .ok (.ireturn, 1) := by decide +kernel
theorem dX7_told_120 : decode cX7_told 120 = .ok (.aload_n 0, 1) := by decide +kernel
theorem dX7_told_121 : decode cX7_told 121 = .ok (.getfield 29, 3) := by decide +kernel
theorem dX7_told_124 : decode cX7_told 124 = .ok (.getfield 130, 3) := by decide +kernel
theorem dX7_told_127 : decode cX7_told 127 = .ok (.ireturn, 1) := by decide +kernel
theorem dX7_told_128 : decode cX7_told 128 = .ok (.aload_n 0, 1) := by decide +kernel
theorem dX7_told_129 : decode cX7_told 129 = .ok (.getfield 29, 3) := by decide +kernel
theorem dX7_told_132 : decode cX7_told 132 = .ok (.getfield 133, 3) := by decide +kernel
theorem dX7_told_135 : decode cX7_told 135 = .ok (.ireturn, 1) := by decide +kernel
theorem dX7_told_136 : decode cX7_told 136 = .ok (.aload_n 0, 1) := by decide +kernel
theorem dX7_told_137 : decode cX7_told 137 = .ok (.getfield 29, 3) := by decide +kernel
theorem dX7_told_140 : decode cX7_told 140 = .ok (.aload_n 0, 1) := by decide +kernel
theorem dX7_told_141 : decode cX7_told 141 = .ok (.getfield 19, 3) := by decide +kernel
theorem dX7_told_144 : decode cX7_told 144 = .ok (.aload_n 0, 1) := by decide +kernel
theorem dX7_told_145 : decode cX7_told 145 = .ok (.getfield 29, 3) := by decide +kernel
theorem dX7_told_148 : decode cX7_told 148 = .ok (.getfield 127, 3) := by decide +kernel
theorem dX7_told_151 : decode cX7_told 151 = .ok (.invokevirtual 136, 3) := by decide +kernel
theorem dX7_told_154 : decode cX7_told 154 = .ok (.ireturn, 1) := by decide +kernel
theorem dX7_told_155 : decode cX7_told 155 = .ok (.aload_n 0, 1) := by decide +kernel
theorem dX7_told_156 : decode cX7_told 156 = .ok (.getfield 29, 3) := by decide +kernel
theorem dX7_told_159 : decode cX7_told 159 = .ok (.aload_n 0, 1) := by decide +kernel
theorem dX7_told_160 : decode cX7_told 160 = .ok (.getfield 19, 3) := by decide +kernel
theorem dX7_told_163 : decode cX7_told 163 = .ok (.invokevirtual 140, 3) := by decide +kernel
theorem dX7_told_166 : decode cX7_told 166 = .ok (.ireturn, 1) := by decide +kernel
theorem dX7_told_167 : decode cX7_told 167 = .ok (.aload_n 0, 1) := by decide +kernel
theorem dX7_told_168 : decode cX7_told 168 = .ok (.getfield 29, 3) := by decide +kernel
theorem dX7_told_171 : decode cX7_told 171 = .ok (.aload_n 0, 1) := by decide +kernel
theorem dX7_told_172 : decode cX7_told 172 = .ok (.getfield 19, 3) := by decide +kernel
theorem dX7_told_175 : decode cX7_told 175 = .ok (.invokevirtual 144, 3) := by decide +kernel
theorem dX7_told_178 : decode cX7_told 178 = .ok (.ireturn, 1) := by decide +kernel
theorem dX7_told_179 : decode cX7_told 179 = .ok (.aload_n 0, 1) := by decide +kernel
theorem dX7_told_180 : decode cX7_told 180 = .ok (.getfield 62, 3) := by decide +kernel
theorem dX7_told_183 : decode cX7_told 183 = .ok (.getfield 111, 3) := by decide +kernel
theorem dX7_told_186 : decode cX7_told 186 = .ok (.ireturn, 1) := by decide +kernel
theorem dX7_told_187 : decode cX7_told 187 = .ok (.aload_n 0, 1) := by decide +kernel
theorem dX7_told_188 : decode cX7_told 188 = .ok (.getfield 69, 3) := by decide +kernel
theorem dX7_told_191 : decode cX7_told 191 = .ok (.getfield 114, 3) := by decide +kernel
theorem dX7_told_194 : decode cX7_told 194 = .ok (.ireturn, 1) := by decide +kernel
theorem dX7_told_195 : decode cX7_told 195 = .ok (.aload_n 0, 1) := by decide +kernel
theorem dX7_told_196 : decode cX7_told 196 = .ok (.getfield 36, 3) := by decide +kernel
theorem dX7_told_199 : decode cX7_told 199 = .ok (.getfield 147, 3) := by decide +kernel
theorem dX7_told_202 : decode cX7_told 202 = .ok (.ireturn, 1) := by decide +kernel
theorem dX7_told_203 : decode cX7_told 203 = .ok (.ldc 80, 2) := by decide +kernel
theorem dX7_told_205 : decode cX7_told 205 = .ok (.ireturn, 1) := by decide +kernel
theorem dX7_room_0 : decode cX7_room 0 = .ok (.aload_n 0, 1) := by decide +kernel
theorem dX7_room_1 : decode cX7_room 1 = .ok (.getfield 19, 3) := by decide +kernel
theorem dX7_room_4 : decode cX7_room 4 = .ok (.iload_n 1, 1) := by decide +kernel
theorem dX7_room_5 : decode cX7_room 5 = .ok (.invokevirtual 148, 3) := by decide +kernel
theorem dX7_room_8 : decode cX7_room 8 = .ok (.ifCond .ne 6, 3) := by decide +kernel
theorem dX7_room_11 : decode cX7_room 11 = .ok (.ldc 151, 2) := by decide +kernel
theorem dX7_room_13 : decode cX7_room 13 = .ok (.ireturn, 1) := by decide +kernel
theorem dX7_room_14 : decode cX7_room 14 = .ok (.iload_n 2, 1) := by decide +kernel
theorem dX7_room_15 : decode cX7_room 15 = .ok (.tableswitch 109 0 5 #[37, 47, 64, 74, 86, 96], 37) := by decide +kernel
theorem dX7_room_52 : decode cX7_room 52 = .ok (.aload_n 0, 1) := by decide +kernel
theorem dX7_room_53 : decode cX7_room 53 = .ok (.getfield 29, 3) := by decide +kernel
theorem dX7_room_56 : decode cX7_room 56 = .ok (.getfield 152, 3) := by decide +kernel
theorem dX7_room_59 : decode cX7_room 59 = .ok (.iload_n 1, 1) := by decide +kernel
theorem dX7_room_60 : decode cX7_room 60 = .ok (.iaload, 1) := by decide +kernel
theorem dX7_room_61 : decode cX7_room 61 = .ok (.ireturn, 1) := by decide +kernel
theorem dX7_room_62 : decode cX7_room 62 = .ok (.aload_n 0, 1) := by decide +kernel
theorem dX7_room_63 : decode cX7_room 63 = .ok (.getfield 29, 3) := by decide +kernel
theorem dX7_room_66 : decode cX7_room 66 = .ok (.iload_n 1, 1) := by decide +kernel
theorem dX7_room_67 : decode cX7_room 67 = .ok (.invokevirtual 155, 3) := by decide +kernel
theorem dX7_room_70 : decode cX7_room 70 = .ok (.ifCond .eq 7, 3) := by decide +kernel
theorem dX7_room_73 : decode cX7_room 73 = .ok (.iconst 1, 1) := by decide +kernel
theorem dX7_room_74 : decode cX7_room 74 = .ok (.goto 4, 3) := by decide +kernel
theorem dX7_room_77 : decode cX7_room 77 = .ok (.iconst 0, 1) := by decide +kernel
theorem dX7_room_78 : decode cX7_room 78 = .ok (.ireturn, 1) := by decide +kernel
theorem dX7_room_79 : decode cX7_room 79 = .ok (.aload_n 0, 1) := by decide +kernel
theorem dX7_room_80 : decode cX7_room 80 = .ok (.getfield 29, 3) := by decide +kernel
theorem dX7_room_83 : decode cX7_room 83 = .ok (.getfield 158, 3) := by decide +kernel
theorem dX7_room_86 : decode cX7_room 86 = .ok (.iload_n 1, 1) := by decide +kernel
theorem dX7_room_87 : decode cX7_room 87 = .ok (.iaload, 1) := by decide +kernel
theorem dX7_room_88 : decode cX7_room 88 = .ok (.ireturn, 1) := by decide +kernel
theorem dX7_room_89 : decode cX7_room 89 = .ok (.aload_n 0, 1) := by decide +kernel
theorem dX7_room_90 : decode cX7_room 90 = .ok (.getfield 29, 3) := by decide +kernel
theorem dX7_room_93 : decode cX7_room 93 = .ok (.getfield 161, 3) := by decide +kernel
theorem dX7_room_96 : decode cX7_room 96 = .ok (.iconst 0, 1) := by decide +kernel
theorem dX7_room_97 : decode cX7_room 97 = .ok (.aaload, 1) := by decide +kernel
theorem dX7_room_98 : decode cX7_room 98 = .ok (.iload_n 1, 1) := by decide +kernel
theorem dX7_room_99 : decode cX7_room 99 = .ok (.iaload, 1) := by decide +kernel
theorem dX7_room_100 : decode cX7_room 100 = .ok (.ireturn, 1) := by decide +kernel
theorem dX7_room_101 : decode cX7_room 101 = .ok (.aload_n 0, 1) := by decide +kernel
theorem dX7_room_102 : decode cX7_room 102 = .ok (.getfield 29, 3) := by decide +kernel
theorem dX7_room_105 : decode cX7_room 105 = .ok (.iload_n 1, 1) := by decide +kernel
theorem dX7_room_106 : decode cX7_room 106 = .ok (.iconst 0, 1) := by decide +kernel
theorem dX7_room_107 : decode cX7_room 107 = .ok (.invokevirtual 165, 3) := by decide +kernel
theorem dX7_room_110 : decode cX7_room 110 = .ok (.ireturn, 1) := by decide +kernel
theorem dX7_room_111 : decode cX7_room 111 = .ok (.aload_n 0, 1) := by decide +kernel
theorem dX7_room_112 : decode cX7_room 112 = .ok (.getfield 29, 3) := by decide +kernel
theorem dX7_room_115 : decode cX7_room 115 = .ok (.aload_n 0, 1) := by decide +kernel
theorem dX7_room_116 : decode cX7_room 116 = .ok (.getfield 19, 3) := by decide +kernel
theorem dX7_room_119 : decode cX7_room 119 = .ok (.iload_n 1, 1) := by decide +kernel
theorem dX7_room_120 : decode cX7_room 120 = .ok (.invokevirtual 169, 3) := by decide +kernel
theorem dX7_room_123 : decode cX7_room 123 = .ok (.ireturn, 1) := by decide +kernel
theorem dX7_room_124 : decode cX7_room 124 = .ok (.ldc 80, 2) := by decide +kernel
theorem dX7_room_126 : decode cX7_room 126 = .ok (.ireturn, 1) := by decide +kernel
theorem dX7_door_0 : decode cX7_door 0 = .ok (.aload_n 0, 1) := by decide +kernel
theorem dX7_door_1 : decode cX7_door 1 = .ok (.getfield 19, 3) := by decide +kernel
theorem dX7_door_4 : decode cX7_door 4 = .ok (.iload_n 1, 1) := by decide +kernel
theorem dX7_door_5 : decode cX7_door 5 = .ok (.invokevirtual 172, 3) := by decide +kernel
theorem dX7_door_8 : decode cX7_door 8 = .ok (.ifCond .ne 6, 3) := by decide +kernel
theorem dX7_door_11 : decode cX7_door 11 = .ok (.ldc 151, 2) := by decide +kernel
theorem dX7_door_13 : decode cX7_door 13 = .ok (.ireturn, 1) := by decide +kernel
theorem dX7_door_14 : decode cX7_door 14 = .ok (.iload_n 2, 1) := by decide +kernel
theorem dX7_door_15 : decode cX7_door 15 = .ok (.tableswitch 55 0 2 #[25, 35, 45], 25) := by decide +kernel
theorem dX7_door_40 : decode cX7_door 40 = .ok (.aload_n 0, 1) := by decide +kernel
theorem dX7_door_41 : decode cX7_door 41 = .ok (.getfield 19, 3) := by decide +kernel
theorem dX7_door_44 : decode cX7_door 44 = .ok (.getfield 175, 3) := by decide +kernel
theorem dX7_door_47 : decode cX7_door 47 = .ok (.iload_n 1, 1) := by decide +kernel
theorem dX7_door_48 : decode cX7_door 48 = .ok (.iaload, 1) := by decide +kernel
theorem dX7_door_49 : decode cX7_door 49 = .ok (.ireturn, 1) := by decide +kernel
theorem dX7_door_50 : decode cX7_door 50 = .ok (.aload_n 0, 1) := by decide +kernel
theorem dX7_door_51 : decode cX7_door 51 = .ok (.getfield 19, 3) := by decide +kernel
theorem dX7_door_54 : decode cX7_door 54 = .ok (.getfield 178, 3) := by decide +kernel
theorem dX7_door_57 : decode cX7_door 57 = .ok (.iload_n 1, 1) := by decide +kernel
theorem dX7_door_58 : decode cX7_door 58 = .ok (.iaload, 1) := by decide +kernel
theorem dX7_door_59 : decode cX7_door 59 = .ok (.ireturn, 1) := by decide +kernel
theorem dX7_door_60 : decode cX7_door 60 = .ok (.aload_n 0, 1) := by decide +kernel
theorem dX7_door_61 : decode cX7_door 61 = .ok (.getfield 19, 3) := by decide +kernel
theorem dX7_door_64 : decode cX7_door 64 = .ok (.getfield 181, 3) := by decide +kernel
theorem dX7_door_67 : decode cX7_door 67 = .ok (.iload_n 1, 1) := by decide +kernel
theorem dX7_door_68 : decode cX7_door 68 = .ok (.iaload, 1) := by decide +kernel
theorem dX7_door_69 : decode cX7_door 69 = .ok (.ireturn, 1) := by decide +kernel
theorem dX7_door_70 : decode cX7_door 70 = .ok (.ldc 80, 2) := by decide +kernel
theorem dX7_door_72 : decode cX7_door 72 = .ok (.ireturn, 1) := by decide +kernel
theorem dX7_heir_0 : decode cX7_heir 0 = .ok (.aload_n 0, 1) := by decide +kernel
theorem dX7_heir_1 : decode cX7_heir 1 = .ok (.getfield 19, 3) := by decide +kernel
theorem dX7_heir_4 : decode cX7_heir 4 = .ok (.iload_n 1, 1) := by decide +kernel
theorem dX7_heir_5 : decode cX7_heir 5 = .ok (.invokevirtual 184, 3) := by decide +kernel
theorem dX7_heir_8 : decode cX7_heir 8 = .ok (.ifCond .ne 6, 3) := by decide +kernel
theorem dX7_heir_11 : decode cX7_heir 11 = .ok (.ldc 151, 2) := by decide +kernel
theorem dX7_heir_13 : decode cX7_heir 13 = .ok (.ireturn, 1) := by decide +kernel
theorem dX7_heir_14 : decode cX7_heir 14 = .ok (.iload_n 2, 1) := by decide +kernel
theorem dX7_heir_15 : decode cX7_heir 15 = .ok (.tableswitch 106 0 5 #[37, 47, 57, 67, 80, 93], 37) := by decide +kernel
theorem dX7_heir_52 : decode cX7_heir 52 = .ok (.aload_n 0, 1) := by decide +kernel
theorem dX7_heir_53 : decode cX7_heir 53 = .ok (.getfield 19, 3) := by decide +kernel
theorem dX7_heir_56 : decode cX7_heir 56 = .ok (.getfield 187, 3) := by decide +kernel
theorem dX7_heir_59 : decode cX7_heir 59 = .ok (.iload_n 1, 1) := by decide +kernel
theorem dX7_heir_60 : decode cX7_heir 60 = .ok (.iaload, 1) := by decide +kernel
theorem dX7_heir_61 : decode cX7_heir 61 = .ok (.ireturn, 1) := by decide +kernel
theorem dX7_heir_62 : decode cX7_heir 62 = .ok (.aload_n 0, 1) := by decide +kernel
theorem dX7_heir_63 : decode cX7_heir 63 = .ok (.getfield 19, 3) := by decide +kernel
theorem dX7_heir_66 : decode cX7_heir 66 = .ok (.getfield 190, 3) := by decide +kernel
theorem dX7_heir_69 : decode cX7_heir 69 = .ok (.iload_n 1, 1) := by decide +kernel
theorem dX7_heir_70 : decode cX7_heir 70 = .ok (.iaload, 1) := by decide +kernel
theorem dX7_heir_71 : decode cX7_heir 71 = .ok (.ireturn, 1) := by decide +kernel
theorem dX7_heir_72 : decode cX7_heir 72 = .ok (.aload_n 0, 1) := by decide +kernel
theorem dX7_heir_73 : decode cX7_heir 73 = .ok (.getfield 29, 3) := by decide +kernel
theorem dX7_heir_76 : decode cX7_heir 76 = .ok (.getfield 193, 3) := by decide +kernel
theorem dX7_heir_79 : decode cX7_heir 79 = .ok (.iload_n 1, 1) := by decide +kernel
theorem dX7_heir_80 : decode cX7_heir 80 = .ok (.iaload, 1) := by decide +kernel
theorem dX7_heir_81 : decode cX7_heir 81 = .ok (.ireturn, 1) := by decide +kernel
theorem dX7_heir_82 : decode cX7_heir 82 = .ok (.aload_n 0, 1) := by decide +kernel
theorem dX7_heir_83 : decode cX7_heir 83 = .ok (.getfield 29, 3) := by decide +kernel
theorem dX7_heir_86 : decode cX7_heir 86 = .ok (.aload_n 0, 1) := by decide +kernel
theorem dX7_heir_87 : decode cX7_heir 87 = .ok (.getfield 19, 3) := by decide +kernel
theorem dX7_heir_90 : decode cX7_heir 90 = .ok (.iload_n 1, 1) := by decide +kernel
theorem dX7_heir_91 : decode cX7_heir 91 = .ok (.invokevirtual 196, 3) := by decide +kernel
theorem dX7_heir_94 : decode cX7_heir 94 = .ok (.ireturn, 1) := by decide +kernel
theorem dX7_heir_95 : decode cX7_heir 95 = .ok (.aload_n 0, 1) := by decide +kernel
theorem dX7_heir_96 : decode cX7_heir 96 = .ok (.getfield 29, 3) := by decide +kernel
theorem dX7_heir_99 : decode cX7_heir 99 = .ok (.aload_n 0, 1) := by decide +kernel
theorem dX7_heir_100 : decode cX7_heir 100 = .ok (.getfield 19, 3) := by decide +kernel
theorem dX7_heir_103 : decode cX7_heir 103 = .ok (.iload_n 1, 1) := by decide +kernel
theorem dX7_heir_104 : decode cX7_heir 104 = .ok (.invokevirtual 199, 3) := by decide +kernel
theorem dX7_heir_107 : decode cX7_heir 107 = .ok (.ireturn, 1) := by decide +kernel
theorem dX7_heir_108 : decode cX7_heir 108 = .ok (.aload_n 0, 1) := by decide +kernel
theorem dX7_heir_109 : decode cX7_heir 109 = .ok (.getfield 29, 3) := by decide +kernel
theorem dX7_heir_112 : decode cX7_heir 112 = .ok (.aload_n 0, 1) := by decide +kernel
theorem dX7_heir_113 : decode cX7_heir 113 = .ok (.getfield 19, 3) := by decide +kernel
theorem dX7_heir_116 : decode cX7_heir 116 = .ok (.iload_n 1, 1) := by decide +kernel
theorem dX7_heir_117 : decode cX7_heir 117 = .ok (.invokevirtual 202, 3) := by decide +kernel
theorem dX7_heir_120 : decode cX7_heir 120 = .ok (.ireturn, 1) := by decide +kernel
theorem dX7_heir_121 : decode cX7_heir 121 = .ok (.ldc 80, 2) := by decide +kernel
theorem dX7_heir_123 : decode cX7_heir 123 = .ok (.ireturn, 1) := by decide +kernel
theorem dX7_say_0 : decode cX7_say 0 = .ok (.aload_n 0, 1) := by decide +kernel
theorem dX7_say_1 : decode cX7_say 1 = .ok (.getfield 19, 3) := by decide +kernel
theorem dX7_say_4 : decode cX7_say 4 = .ok (.iload_n 1, 1) := by decide +kernel
theorem dX7_say_5 : decode cX7_say 5 = .ok (.invokevirtual 184, 3) := by decide +kernel
theorem dX7_say_8 : decode cX7_say 8 = .ok (.ifCond .ne 6, 3) := by decide +kernel
theorem dX7_say_11 : decode cX7_say 11 = .ok (.ldc 151, 2) := by decide +kernel
theorem dX7_say_13 : decode cX7_say 13 = .ok (.ireturn, 1) := by decide +kernel
theorem dX7_say_14 : decode cX7_say 14 = .ok (.aload_n 0, 1) := by decide +kernel
theorem dX7_say_15 : decode cX7_say 15 = .ok (.getfield 29, 3) := by decide +kernel
theorem dX7_say_18 : decode cX7_say 18 = .ok (.getfield 133, 3) := by decide +kernel
theorem dX7_say_21 : decode cX7_say 21 = .ok (.ldc 205, 2) := by decide +kernel
theorem dX7_say_23 : decode cX7_say 23 = .ok (.if_icmp .lt 6, 3) := by decide +kernel
theorem dX7_say_26 : decode cX7_say 26 = .ok (.ldc 88, 2) := by decide +kernel
theorem dX7_say_28 : decode cX7_say 28 = .ok (.ireturn, 1) := by decide +kernel
theorem dX7_say_29 : decode cX7_say 29 = .ok (.aload_n 0, 1) := by decide +kernel
theorem dX7_say_30 : decode cX7_say 30 = .ok (.getfield 36, 3) := by decide +kernel
theorem dX7_say_33 : decode cX7_say 33 = .ok (.aload_n 0, 1) := by decide +kernel
theorem dX7_say_34 : decode cX7_say 34 = .ok (.getfield 29, 3) := by decide +kernel
theorem dX7_say_37 : decode cX7_say 37 = .ok (.invokevirtual 206, 3) := by decide +kernel
theorem dX7_say_40 : decode cX7_say 40 = .ok (.aload_n 0, 1) := by decide +kernel
theorem dX7_say_41 : decode cX7_say 41 = .ok (.getfield 29, 3) := by decide +kernel
theorem dX7_say_44 : decode cX7_say 44 = .ok (.aload_n 0, 1) := by decide +kernel
theorem dX7_say_45 : decode cX7_say 45 = .ok (.getfield 19, 3) := by decide +kernel
theorem dX7_say_48 : decode cX7_say 48 = .ok (.iload_n 1, 1) := by decide +kernel
theorem dX7_say_49 : decode cX7_say 49 = .ok (.invokevirtual 199, 3) := by decide +kernel
theorem dX7_say_52 : decode cX7_say 52 = .ok (.istore_n 2, 1) := by decide +kernel
theorem dX7_say_53 : decode cX7_say 53 = .ok (.aload_n 0, 1) := by decide +kernel
theorem dX7_say_54 : decode cX7_say 54 = .ok (.getfield 29, 3) := by decide +kernel
theorem dX7_say_57 : decode cX7_say 57 = .ok (.aload_n 0, 1) := by decide +kernel
theorem dX7_say_58 : decode cX7_say 58 = .ok (.getfield 19, 3) := by decide +kernel
theorem dX7_say_61 : decode cX7_say 61 = .ok (.iload_n 1, 1) := by decide +kernel
theorem dX7_say_62 : decode cX7_say 62 = .ok (.invokevirtual 210, 3) := by decide +kernel
theorem dX7_say_65 : decode cX7_say 65 = .ok (.iload_n 2, 1) := by decide +kernel
theorem dX7_say_66 : decode cX7_say 66 = .ok (.ireturn, 1) := by decide +kernel
theorem dX7_go_0 : decode cX7_go 0 = .ok (.aload_n 0, 1) := by decide +kernel
theorem dX7_go_1 : decode cX7_go 1 = .ok (.getfield 19, 3) := by decide +kernel
theorem dX7_go_4 : decode cX7_go 4 = .ok (.iload_n 1, 1) := by decide +kernel
theorem dX7_go_5 : decode cX7_go 5 = .ok (.invokevirtual 184, 3) := by decide +kernel
theorem dX7_go_8 : decode cX7_go 8 = .ok (.ifCond .eq 14, 3) := by decide +kernel
theorem dX7_go_11 : decode cX7_go 11 = .ok (.aload_n 0, 1) := by decide +kernel
theorem dX7_go_12 : decode cX7_go 12 = .ok (.getfield 19, 3) := by decide +kernel
theorem dX7_go_15 : decode cX7_go 15 = .ok (.iload_n 2, 1) := by decide +kernel
theorem dX7_go_16 : decode cX7_go 16 = .ok (.invokevirtual 172, 3) := by decide +kernel
theorem dX7_go_19 : decode cX7_go 19 = .ok (.ifCond .ne 6, 3) := by decide +kernel
theorem dX7_go_22 : decode cX7_go 22 = .ok (.ldc 151, 2) := by decide +kernel
theorem dX7_go_24 : decode cX7_go 24 = .ok (.ireturn, 1) := by decide +kernel
theorem dX7_go_25 : decode cX7_go 25 = .ok (.aload_n 0, 1) := by decide +kernel
theorem dX7_go_26 : decode cX7_go 26 = .ok (.getfield 19, 3) := by decide +kernel
theorem dX7_go_29 : decode cX7_go 29 = .ok (.iload_n 2, 1) := by decide +kernel
theorem dX7_go_30 : decode cX7_go 30 = .ok (.aload_n 0, 1) := by decide +kernel
theorem dX7_go_31 : decode cX7_go 31 = .ok (.getfield 29, 3) := by decide +kernel
theorem dX7_go_34 : decode cX7_go 34 = .ok (.getfield 193, 3) := by decide +kernel
theorem dX7_go_37 : decode cX7_go 37 = .ok (.iload_n 1, 1) := by decide +kernel
theorem dX7_go_38 : decode cX7_go 38 = .ok (.iaload, 1) := by decide +kernel
theorem dX7_go_39 : decode cX7_go 39 = .ok (.invokevirtual 214, 3) := by decide +kernel
theorem dX7_go_42 : decode cX7_go 42 = .ok (.istore_n 3, 1) := by decide +kernel
theorem dX7_go_43 : decode cX7_go 43 = .ok (.iload_n 3, 1) := by decide +kernel
theorem dX7_go_44 : decode cX7_go 44 = .ok (.iconst (-1), 1) := by decide +kernel
theorem dX7_go_45 : decode cX7_go 45 = .ok (.if_icmp .ne 6, 3) := by decide +kernel
theorem dX7_go_48 : decode cX7_go 48 = .ok (.ldc 217, 2) := by decide +kernel
theorem dX7_go_50 : decode cX7_go 50 = .ok (.ireturn, 1) := by decide +kernel
theorem dX7_go_51 : decode cX7_go 51 = .ok (.aload_n 0, 1) := by decide +kernel
theorem dX7_go_52 : decode cX7_go 52 = .ok (.getfield 36, 3) := by decide +kernel
theorem dX7_go_55 : decode cX7_go 55 = .ok (.aload_n 0, 1) := by decide +kernel
theorem dX7_go_56 : decode cX7_go 56 = .ok (.getfield 29, 3) := by decide +kernel
theorem dX7_go_59 : decode cX7_go 59 = .ok (.invokevirtual 206, 3) := by decide +kernel
theorem dX7_go_62 : decode cX7_go 62 = .ok (.aload_n 0, 1) := by decide +kernel
theorem dX7_go_63 : decode cX7_go 63 = .ok (.getfield 29, 3) := by decide +kernel
theorem dX7_go_66 : decode cX7_go 66 = .ok (.getfield 193, 3) := by decide +kernel
theorem dX7_go_69 : decode cX7_go 69 = .ok (.iload_n 1, 1) := by decide +kernel
theorem dX7_go_70 : decode cX7_go 70 = .ok (.iload_n 3, 1) := by decide +kernel
theorem dX7_go_71 : decode cX7_go 71 = .ok (.iastore, 1) := by decide +kernel
theorem dX7_go_72 : decode cX7_go 72 = .ok (.iload_n 3, 1) := by decide +kernel
theorem dX7_go_73 : decode cX7_go 73 = .ok (.ireturn, 1) := by decide +kernel
theorem dX7_hour_0 : decode cX7_hour 0 = .ok (.aload_n 0, 1) := by decide +kernel
theorem dX7_hour_1 : decode cX7_hour 1 = .ok (.iload_n 1, 1) := by decide +kernel
theorem dX7_hour_2 : decode cX7_hour 2 = .ok (.invokevirtual 218, 3) := by decide +kernel
theorem dX7_hour_5 : decode cX7_hour 5 = .ok (.istore_n 2, 1) := by decide +kernel
theorem dX7_hour_6 : decode cX7_hour 6 = .ok (.iload_n 2, 1) := by decide +kernel
theorem dX7_hour_7 : decode cX7_hour 7 = .ok (.ifCond .eq 5, 3) := by decide +kernel
theorem dX7_hour_10 : decode cX7_hour 10 = .ok (.iload_n 2, 1) := by decide +kernel
theorem dX7_hour_11 : decode cX7_hour 11 = .ok (.ireturn, 1) := by decide +kernel
theorem dX7_hour_12 : decode cX7_hour 12 = .ok (.iconst 0, 1) := by decide +kernel
theorem dX7_hour_13 : decode cX7_hour 13 = .ok (.istore_n 3, 1) := by decide +kernel
theorem dX7_hour_14 : decode cX7_hour 14 = .ok (.iload_n 3, 1) := by decide +kernel
theorem dX7_hour_15 : decode cX7_hour 15 = .ok (.iload_n 1, 1) := by decide +kernel
theorem dX7_hour_16 : decode cX7_hour 16 = .ok (.if_icmp .ge 31, 3) := by decide +kernel
theorem dX7_hour_19 : decode cX7_hour 19 = .ok (.aload_n 0, 1) := by decide +kernel
theorem dX7_hour_20 : decode cX7_hour 20 = .ok (.getfield 36, 3) := by decide +kernel
theorem dX7_hour_23 : decode cX7_hour 23 = .ok (.aload_n 0, 1) := by decide +kernel
theorem dX7_hour_24 : decode cX7_hour 24 = .ok (.getfield 29, 3) := by decide +kernel
theorem dX7_hour_27 : decode cX7_hour 27 = .ok (.invokevirtual 206, 3) := by decide +kernel
theorem dX7_hour_30 : decode cX7_hour 30 = .ok (.aload_n 0, 1) := by decide +kernel
theorem dX7_hour_31 : decode cX7_hour 31 = .ok (.getfield 29, 3) := by decide +kernel
theorem dX7_hour_34 : decode cX7_hour 34 = .ok (.aload_n 0, 1) := by decide +kernel
theorem dX7_hour_35 : decode cX7_hour 35 = .ok (.getfield 19, 3) := by decide +kernel
theorem dX7_hour_38 : decode cX7_hour 38 = .ok (.invokevirtual 222, 3) := by decide +kernel
theorem dX7_hour_41 : decode cX7_hour 41 = .ok (.iinc 3 1, 3) := by decide +kernel
theorem dX7_hour_44 : decode cX7_hour 44 = .ok (.goto (-30), 3) := by decide +kernel
theorem dX7_hour_47 : decode cX7_hour 47 = .ok (.aload_n 0, 1) := by decide +kernel
theorem dX7_hour_48 : decode cX7_hour 48 = .ok (.getfield 29, 3) := by decide +kernel
theorem dX7_hour_51 : decode cX7_hour 51 = .ok (.getfield 127, 3) := by decide +kernel
theorem dX7_hour_54 : decode cX7_hour 54 = .ok (.ireturn, 1) := by decide +kernel
theorem dX7_out_0 : decode cX7_out 0 = .ok (.aload_n 0, 1) := by decide +kernel
theorem dX7_out_1 : decode cX7_out 1 = .ok (.getfield 19, 3) := by decide +kernel
theorem dX7_out_4 : decode cX7_out 4 = .ok (.iload_n 1, 1) := by decide +kernel
theorem dX7_out_5 : decode cX7_out 5 = .ok (.invokevirtual 148, 3) := by decide +kernel
theorem dX7_out_8 : decode cX7_out 8 = .ok (.ifCond .ne 6, 3) := by decide +kernel
theorem dX7_out_11 : decode cX7_out 11 = .ok (.ldc 151, 2) := by decide +kernel
theorem dX7_out_13 : decode cX7_out 13 = .ok (.ireturn, 1) := by decide +kernel
theorem dX7_out_14 : decode cX7_out 14 = .ok (.aload_n 0, 1) := by decide +kernel
theorem dX7_out_15 : decode cX7_out 15 = .ok (.getfield 29, 3) := by decide +kernel
theorem dX7_out_18 : decode cX7_out 18 = .ok (.iload_n 1, 1) := by decide +kernel
theorem dX7_out_19 : decode cX7_out 19 = .ok (.invokevirtual 155, 3) := by decide +kernel
theorem dX7_out_22 : decode cX7_out 22 = .ok (.ifCond .eq 6, 3) := by decide +kernel
theorem dX7_out_25 : decode cX7_out 25 = .ok (.ldc 217, 2) := by decide +kernel
theorem dX7_out_27 : decode cX7_out 27 = .ok (.ireturn, 1) := by decide +kernel
theorem dX7_out_28 : decode cX7_out 28 = .ok (.aload_n 0, 1) := by decide +kernel
theorem dX7_out_29 : decode cX7_out 29 = .ok (.getfield 36, 3) := by decide +kernel
theorem dX7_out_32 : decode cX7_out 32 = .ok (.aload_n 0, 1) := by decide +kernel
theorem dX7_out_33 : decode cX7_out 33 = .ok (.getfield 29, 3) := by decide +kernel
theorem dX7_out_36 : decode cX7_out 36 = .ok (.invokevirtual 206, 3) := by decide +kernel
theorem dX7_out_39 : decode cX7_out 39 = .ok (.aload_n 0, 1) := by decide +kernel
theorem dX7_out_40 : decode cX7_out 40 = .ok (.getfield 29, 3) := by decide +kernel
theorem dX7_out_43 : decode cX7_out 43 = .ok (.iload_n 1, 1) := by decide +kernel
theorem dX7_out_44 : decode cX7_out 44 = .ok (.aload_n 0, 1) := by decide +kernel
theorem dX7_out_45 : decode cX7_out 45 = .ok (.getfield 29, 3) := by decide +kernel
theorem dX7_out_48 : decode cX7_out 48 = .ok (.getfield 127, 3) := by decide +kernel
theorem dX7_out_51 : decode cX7_out 51 = .ok (.invokevirtual 225, 3) := by decide +kernel
theorem dX7_out_54 : decode cX7_out 54 = .ok (.ifCond .eq 7, 3) := by decide +kernel
theorem dX7_out_57 : decode cX7_out 57 = .ok (.iconst 1, 1) := by decide +kernel
theorem dX7_out_58 : decode cX7_out 58 = .ok (.goto 4, 3) := by decide +kernel
theorem dX7_out_61 : decode cX7_out 61 = .ok (.iconst 0, 1) := by decide +kernel
theorem dX7_out_62 : decode cX7_out 62 = .ok (.istore_n 2, 1) := by decide +kernel
theorem dX7_out_63 : decode cX7_out 63 = .ok (.aload_n 0, 1) := by decide +kernel
theorem dX7_out_64 : decode cX7_out 64 = .ok (.getfield 29, 3) := by decide +kernel
theorem dX7_out_67 : decode cX7_out 67 = .ok (.iload_n 1, 1) := by decide +kernel
theorem dX7_out_68 : decode cX7_out 68 = .ok (.invokevirtual 229, 3) := by decide +kernel
theorem dX7_out_71 : decode cX7_out 71 = .ok (.iload_n 2, 1) := by decide +kernel
theorem dX7_out_72 : decode cX7_out 72 = .ok (.ireturn, 1) := by decide +kernel
theorem dX7_light_0 : decode cX7_light 0 = .ok (.aload_n 0, 1) := by decide +kernel
theorem dX7_light_1 : decode cX7_light 1 = .ok (.getfield 19, 3) := by decide +kernel
theorem dX7_light_4 : decode cX7_light 4 = .ok (.iload_n 1, 1) := by decide +kernel
theorem dX7_light_5 : decode cX7_light 5 = .ok (.invokevirtual 148, 3) := by decide +kernel
theorem dX7_light_8 : decode cX7_light 8 = .ok (.ifCond .ne 6, 3) := by decide +kernel
theorem dX7_light_11 : decode cX7_light 11 = .ok (.ldc 151, 2) := by decide +kernel
theorem dX7_light_13 : decode cX7_light 13 = .ok (.ireturn, 1) := by decide +kernel
theorem dX7_light_14 : decode cX7_light 14 = .ok (.aload_n 0, 1) := by decide +kernel
theorem dX7_light_15 : decode cX7_light 15 = .ok (.getfield 29, 3) := by decide +kernel
theorem dX7_light_18 : decode cX7_light 18 = .ok (.iload_n 1, 1) := by decide +kernel
theorem dX7_light_19 : decode cX7_light 19 = .ok (.invokevirtual 155, 3) := by decide +kernel
theorem dX7_light_22 : decode cX7_light 22 = .ok (.ifCond .ne 6, 3) := by decide +kernel
theorem dX7_light_25 : decode cX7_light 25 = .ok (.ldc 217, 2) := by decide +kernel
theorem dX7_light_27 : decode cX7_light 27 = .ok (.ireturn, 1) := by decide +kernel
theorem dX7_light_28 : decode cX7_light 28 = .ok (.aload_n 0, 1) := by decide +kernel
theorem dX7_light_29 : decode cX7_light 29 = .ok (.getfield 36, 3) := by decide +kernel
theorem dX7_light_32 : decode cX7_light 32 = .ok (.aload_n 0, 1) := by decide +kernel
theorem dX7_light_33 : decode cX7_light 33 = .ok (.getfield 29, 3) := by decide +kernel
theorem dX7_light_36 : decode cX7_light 36 = .ok (.invokevirtual 206, 3) := by decide +kernel
theorem dX7_light_39 : decode cX7_light 39 = .ok (.aload_n 0, 1) := by decide +kernel
theorem dX7_light_40 : decode cX7_light 40 = .ok (.getfield 29, 3) := by decide +kernel
theorem dX7_light_43 : decode cX7_light 43 = .ok (.iload_n 1, 1) := by decide +kernel
theorem dX7_light_44 : decode cX7_light 44 = .ok (.invokevirtual 233, 3) := by decide +kernel
theorem dX7_light_47 : decode cX7_light 47 = .ok (.aload_n 0, 1) := by decide +kernel
theorem dX7_light_48 : decode cX7_light 48 = .ok (.getfield 29, 3) := by decide +kernel
theorem dX7_light_51 : decode cX7_light 51 = .ok (.iload_n 1, 1) := by decide +kernel
theorem dX7_light_52 : decode cX7_light 52 = .ok (.aload_n 0, 1) := by decide +kernel
theorem dX7_light_53 : decode cX7_light 53 = .ok (.getfield 29, 3) := by decide +kernel
theorem dX7_light_56 : decode cX7_light 56 = .ok (.getfield 127, 3) := by decide +kernel
theorem dX7_light_59 : decode cX7_light 59 = .ok (.invokevirtual 225, 3) := by decide +kernel
theorem dX7_light_62 : decode cX7_light 62 = .ok (.ifCond .eq 7, 3) := by decide +kernel
theorem dX7_light_65 : decode cX7_light 65 = .ok (.iconst 1, 1) := by decide +kernel
theorem dX7_light_66 : decode cX7_light 66 = .ok (.goto 4, 3) := by decide +kernel
theorem dX7_light_69 : decode cX7_light 69 = .ok (.iconst 0, 1) := by decide +kernel
theorem dX7_light_70 : decode cX7_light 70 = .ok (.ireturn, 1) := by decide +kernel
theorem dX7_candle_0 : decode cX7_candle 0 = .ok (.aload_n 0, 1) := by decide +kernel
theorem dX7_candle_1 : decode cX7_candle 1 = .ok (.getfield 19, 3) := by decide +kernel
theorem dX7_candle_4 : decode cX7_candle 4 = .ok (.iload_n 1, 1) := by decide +kernel
theorem dX7_candle_5 : decode cX7_candle 5 = .ok (.invokevirtual 148, 3) := by decide +kernel
theorem dX7_candle_8 : decode cX7_candle 8 = .ok (.ifCond .ne 6, 3) := by decide +kernel
theorem dX7_candle_11 : decode cX7_candle 11 = .ok (.ldc 151, 2) := by decide +kernel
theorem dX7_candle_13 : decode cX7_candle 13 = .ok (.ireturn, 1) := by decide +kernel
theorem dX7_candle_14 : decode cX7_candle 14 = .ok (.iload_n 2, 1) := by decide +kernel
theorem dX7_candle_15 : decode cX7_candle 15 = .ok (.ifCond .lt 9, 3) := by decide +kernel
theorem dX7_candle_18 : decode cX7_candle 18 = .ok (.iload_n 2, 1) := by decide +kernel
theorem dX7_candle_19 : decode cX7_candle 19 = .ok (.bipush 20, 2) := by decide +kernel
theorem dX7_candle_21 : decode cX7_candle 21 = .ok (.if_icmp .le 6, 3) := by decide +kernel
theorem dX7_candle_24 : decode cX7_candle 24 = .ok (.ldc 80, 2) := by decide +kernel
theorem dX7_candle_26 : decode cX7_candle 26 = .ok (.ireturn, 1) := by decide +kernel
theorem dX7_candle_27 : decode cX7_candle 27 = .ok (.aload_n 0, 1) := by decide +kernel
theorem dX7_candle_28 : decode cX7_candle 28 = .ok (.getfield 36, 3) := by decide +kernel
theorem dX7_candle_31 : decode cX7_candle 31 = .ok (.aload_n 0, 1) := by decide +kernel
theorem dX7_candle_32 : decode cX7_candle 32 = .ok (.getfield 29, 3) := by decide +kernel
theorem dX7_candle_35 : decode cX7_candle 35 = .ok (.invokevirtual 206, 3) := by decide +kernel
theorem dX7_candle_38 : decode cX7_candle 38 = .ok (.aload_n 0, 1) := by decide +kernel
theorem dX7_candle_39 : decode cX7_candle 39 = .ok (.getfield 29, 3) := by decide +kernel
theorem dX7_candle_42 : decode cX7_candle 42 = .ok (.getfield 152, 3) := by decide +kernel
theorem dX7_candle_45 : decode cX7_candle 45 = .ok (.iload_n 1, 1) := by decide +kernel
theorem dX7_candle_46 : decode cX7_candle 46 = .ok (.iaload, 1) := by decide +kernel
theorem dX7_candle_47 : decode cX7_candle 47 = .ok (.istore_n 3, 1) := by decide +kernel
theorem dX7_candle_48 : decode cX7_candle 48 = .ok (.aload_n 0, 1) := by decide +kernel
theorem dX7_candle_49 : decode cX7_candle 49 = .ok (.getfield 29, 3) := by decide +kernel
theorem dX7_candle_52 : decode cX7_candle 52 = .ok (.getfield 152, 3) := by decide +kernel
theorem dX7_candle_55 : decode cX7_candle 55 = .ok (.iload_n 1, 1) := by decide +kernel
theorem dX7_candle_56 : decode cX7_candle 56 = .ok (.iload_n 2, 1) := by decide +kernel
theorem dX7_candle_57 : decode cX7_candle 57 = .ok (.iastore, 1) := by decide +kernel
theorem dX7_candle_58 : decode cX7_candle 58 = .ok (.iload_n 3, 1) := by decide +kernel
theorem dX7_candle_59 : decode cX7_candle 59 = .ok (.ireturn, 1) := by decide +kernel
theorem dX7_drift_0 : decode cX7_drift 0 = .ok (.aload_n 0, 1) := by decide +kernel
theorem dX7_drift_1 : decode cX7_drift 1 = .ok (.iload_n 1, 1) := by decide +kernel
theorem dX7_drift_2 : decode cX7_drift 2 = .ok (.invokevirtual 218, 3) := by decide +kernel
theorem dX7_drift_5 : decode cX7_drift 5 = .ok (.istore_n 2, 1) := by decide +kernel
theorem dX7_drift_6 : decode cX7_drift 6 = .ok (.iload_n 2, 1) := by decide +kernel
theorem dX7_drift_7 : decode cX7_drift 7 = .ok (.ifCond .eq 5, 3) := by decide +kernel
theorem dX7_drift_10 : decode cX7_drift 10 = .ok (.iload_n 2, 1) := by decide +kernel
theorem dX7_drift_11 : decode cX7_drift 11 = .ok (.ireturn, 1) := by decide +kernel
theorem dX7_drift_12 : decode cX7_drift 12 = .ok (.iconst 0, 1) := by decide +kernel
theorem dX7_drift_13 : decode cX7_drift 13 = .ok (.istore_n 3, 1) := by decide +kernel
theorem dX7_drift_14 : decode cX7_drift 14 = .ok (.iload_n 3, 1) := by decide +kernel
theorem dX7_drift_15 : decode cX7_drift 15 = .ok (.iload_n 1, 1) := by decide +kernel
theorem dX7_drift_16 : decode cX7_drift 16 = .ok (.if_icmp .ge 35, 3) := by decide +kernel
theorem dX7_drift_19 : decode cX7_drift 19 = .ok (.aload_n 0, 1) := by decide +kernel
theorem dX7_drift_20 : decode cX7_drift 20 = .ok (.getfield 36, 3) := by decide +kernel
theorem dX7_drift_23 : decode cX7_drift 23 = .ok (.aload_n 0, 1) := by decide +kernel
theorem dX7_drift_24 : decode cX7_drift 24 = .ok (.getfield 29, 3) := by decide +kernel
theorem dX7_drift_27 : decode cX7_drift 27 = .ok (.invokevirtual 206, 3) := by decide +kernel
theorem dX7_drift_30 : decode cX7_drift 30 = .ok (.aload_n 0, 1) := by decide +kernel
theorem dX7_drift_31 : decode cX7_drift 31 = .ok (.invokevirtual 236, 3) := by decide +kernel
theorem dX7_drift_34 : decode cX7_drift 34 = .ok (.aload_n 0, 1) := by decide +kernel
theorem dX7_drift_35 : decode cX7_drift 35 = .ok (.getfield 29, 3) := by decide +kernel
theorem dX7_drift_38 : decode cX7_drift 38 = .ok (.aload_n 0, 1) := by decide +kernel
theorem dX7_drift_39 : decode cX7_drift 39 = .ok (.getfield 19, 3) := by decide +kernel
theorem dX7_drift_42 : decode cX7_drift 42 = .ok (.invokevirtual 222, 3) := by decide +kernel
theorem dX7_drift_45 : decode cX7_drift 45 = .ok (.iinc 3 1, 3) := by decide +kernel
theorem dX7_drift_48 : decode cX7_drift 48 = .ok (.goto (-34), 3) := by decide +kernel
theorem dX7_drift_51 : decode cX7_drift 51 = .ok (.aload_n 0, 1) := by decide +kernel
theorem dX7_drift_52 : decode cX7_drift 52 = .ok (.getfield 29, 3) := by decide +kernel
theorem dX7_drift_55 : decode cX7_drift 55 = .ok (.getfield 127, 3) := by decide +kernel
theorem dX7_drift_58 : decode cX7_drift 58 = .ok (.ireturn, 1) := by decide +kernel
theorem dX7_undo_0 : decode cX7_undo 0 = .ok (.iload_n 1, 1) := by decide +kernel
theorem dX7_undo_1 : decode cX7_undo 1 = .ok (.iconst 1, 1) := by decide +kernel
theorem dX7_undo_2 : decode cX7_undo 2 = .ok (.if_icmp .lt 9, 3) := by decide +kernel
theorem dX7_undo_5 : decode cX7_undo 5 = .ok (.iload_n 1, 1) := by decide +kernel
theorem dX7_undo_6 : decode cX7_undo 6 = .ok (.bipush 30, 2) := by decide +kernel
theorem dX7_undo_8 : decode cX7_undo 8 = .ok (.if_icmp .le 6, 3) := by decide +kernel
theorem dX7_undo_11 : decode cX7_undo 11 = .ok (.ldc 80, 2) := by decide +kernel
theorem dX7_undo_13 : decode cX7_undo 13 = .ok (.ireturn, 1) := by decide +kernel
theorem dX7_undo_14 : decode cX7_undo 14 = .ok (.iload_n 1, 1) := by decide +kernel
theorem dX7_undo_15 : decode cX7_undo 15 = .ok (.aload_n 0, 1) := by decide +kernel
theorem dX7_undo_16 : decode cX7_undo 16 = .ok (.getfield 36, 3) := by decide +kernel
theorem dX7_undo_19 : decode cX7_undo 19 = .ok (.getfield 147, 3) := by decide +kernel
theorem dX7_undo_22 : decode cX7_undo 22 = .ok (.if_icmp .le 6, 3) := by decide +kernel
theorem dX7_undo_25 : decode cX7_undo 25 = .ok (.ldc 217, 2) := by decide +kernel
theorem dX7_undo_27 : decode cX7_undo 27 = .ok (.ireturn, 1) := by decide +kernel
theorem dX7_undo_28 : decode cX7_undo 28 = .ok (.aload_n 0, 1) := by decide +kernel
theorem dX7_undo_29 : decode cX7_undo 29 = .ok (.getfield 36, 3) := by decide +kernel
theorem dX7_undo_32 : decode cX7_undo 32 = .ok (.iload_n 1, 1) := by decide +kernel
theorem dX7_undo_33 : decode cX7_undo 33 = .ok (.aload_n 0, 1) := by decide +kernel
theorem dX7_undo_34 : decode cX7_undo 34 = .ok (.getfield 29, 3) := by decide +kernel
theorem dX7_undo_37 : decode cX7_undo 37 = .ok (.invokevirtual 239, 3) := by decide +kernel
theorem dX7_undo_40 : decode cX7_undo 40 = .ok (.aload_n 0, 1) := by decide +kernel
theorem dX7_undo_41 : decode cX7_undo 41 = .ok (.getfield 29, 3) := by decide +kernel
theorem dX7_undo_44 : decode cX7_undo 44 = .ok (.getfield 127, 3) := by decide +kernel
theorem dX7_undo_47 : decode cX7_undo 47 = .ok (.ireturn, 1) := by decide +kernel
theorem dX7_refusalOfHours_0 : decode cX7_refusalOfHours 0 = .ok (.iload_n 1, 1) := by decide +kernel
theorem dX7_refusalOfHours_1 : decode cX7_refusalOfHours 1 = .ok (.iconst 1, 1) := by decide +kernel
theorem dX7_refusalOfHours_2 : decode cX7_refusalOfHours 2 = .ok (.if_icmp .lt 9, 3) := by decide +kernel
theorem dX7_refusalOfHours_5 : decode cX7_refusalOfHours 5 = .ok (.iload_n 1, 1) := by decide +kernel
theorem dX7_refusalOfHours_6 : decode cX7_refusalOfHours 6 = .ok (.bipush 20, 2) := by decide +kernel
theorem dX7_refusalOfHours_8 : decode cX7_refusalOfHours 8 = .ok (.if_icmp .le 6, 3) := by decide +kernel
theorem dX7_refusalOfHours_11 : decode cX7_refusalOfHours 11 = .ok (.ldc 80, 2) := by decide +kernel
theorem dX7_refusalOfHours_13 : decode cX7_refusalOfHours 13 = .ok (.ireturn, 1) := by decide +kernel
theorem dX7_refusalOfHours_14 : decode cX7_refusalOfHours 14 = .ok (.aload_n 0, 1) := by decide +kernel
theorem dX7_refusalOfHours_15 : decode cX7_refusalOfHours 15 = .ok (.getfield 19, 3) := by decide +kernel
theorem dX7_refusalOfHours_18 : decode cX7_refusalOfHours 18 = .ok (.getfield 118, 3) := by decide +kernel
theorem dX7_refusalOfHours_21 : decode cX7_refusalOfHours 21 = .ok (.ifCond .ne 6, 3) := by decide +kernel
theorem dX7_refusalOfHours_24 : decode cX7_refusalOfHours 24 = .ok (.ldc 217, 2) := by decide +kernel
theorem dX7_refusalOfHours_26 : decode cX7_refusalOfHours 26 = .ok (.ireturn, 1) := by decide +kernel
theorem dX7_refusalOfHours_27 : decode cX7_refusalOfHours 27 = .ok (.aload_n 0, 1) := by decide +kernel
theorem dX7_refusalOfHours_28 : decode cX7_refusalOfHours 28 = .ok (.getfield 29, 3) := by decide +kernel
theorem dX7_refusalOfHours_31 : decode cX7_refusalOfHours 31 = .ok (.getfield 130, 3) := by decide +kernel
theorem dX7_refusalOfHours_34 : decode cX7_refusalOfHours 34 = .ok (.sipush 9000, 3) := by decide +kernel
theorem dX7_refusalOfHours_37 : decode cX7_refusalOfHours 37 = .ok (.if_icmp .le 8, 3) := by decide +kernel
theorem dX7_refusalOfHours_40 : decode cX7_refusalOfHours 40 = .ok (.ldc 88, 2) := by decide +kernel
theorem dX7_refusalOfHours_42 : decode cX7_refusalOfHours 42 = .ok (.goto 4, 3) := by decide +kernel
theorem dX7_refusalOfHours_45 : decode cX7_refusalOfHours 45 = .ok (.iconst 0, 1) := by decide +kernel
theorem dX7_refusalOfHours_46 : decode cX7_refusalOfHours 46 = .ok (.ireturn, 1) := by decide +kernel
theorem dX7_actByDraw_0 : decode cX7_actByDraw 0 = .ok (.aload_n 0, 1) := by decide +kernel
theorem dX7_actByDraw_1 : decode cX7_actByDraw 1 = .ok (.getfield 19, 3) := by decide +kernel
theorem dX7_actByDraw_4 : decode cX7_actByDraw 4 = .ok (.getfield 115, 3) := by decide +kernel
theorem dX7_actByDraw_7 : decode cX7_actByDraw 7 = .ok (.ifCond .ne 4, 3) := by decide +kernel
theorem dX7_actByDraw_10 : decode cX7_actByDraw 10 = .ok (.return_, 1) := by decide +kernel
theorem dX7_actByDraw_11 : decode cX7_actByDraw 11 = .ok (.aload_n 0, 1) := by decide +kernel
theorem dX7_actByDraw_12 : decode cX7_actByDraw 12 = .ok (.iconst 4, 1) := by decide +kernel
theorem dX7_actByDraw_13 : decode cX7_actByDraw 13 = .ok (.invokevirtual 243, 3) := by decide +kernel
theorem dX7_actByDraw_16 : decode cX7_actByDraw 16 = .ok (.istore_n 1, 1) := by decide +kernel
theorem dX7_actByDraw_17 : decode cX7_actByDraw 17 = .ok (.aload_n 0, 1) := by decide +kernel
theorem dX7_actByDraw_18 : decode cX7_actByDraw 18 = .ok (.aload_n 0, 1) := by decide +kernel
theorem dX7_actByDraw_19 : decode cX7_actByDraw 19 = .ok (.getfield 19, 3) := by decide +kernel
theorem dX7_actByDraw_22 : decode cX7_actByDraw 22 = .ok (.getfield 115, 3) := by decide +kernel
theorem dX7_actByDraw_25 : decode cX7_actByDraw 25 = .ok (.invokevirtual 243, 3) := by decide +kernel
theorem dX7_actByDraw_28 : decode cX7_actByDraw 28 = .ok (.istore_n 2, 1) := by decide +kernel
theorem dX7_actByDraw_29 : decode cX7_actByDraw 29 = .ok (.iload_n 1, 1) := by decide +kernel
theorem dX7_actByDraw_30 : decode cX7_actByDraw 30 = .ok (.iconst 1, 1) := by decide +kernel
theorem dX7_actByDraw_31 : decode cX7_actByDraw 31 = .ok (.if_icmp .gt 18, 3) := by decide +kernel
theorem dX7_actByDraw_34 : decode cX7_actByDraw 34 = .ok (.aload_n 0, 1) := by decide +kernel
theorem dX7_actByDraw_35 : decode cX7_actByDraw 35 = .ok (.getfield 29, 3) := by decide +kernel
theorem dX7_actByDraw_38 : decode cX7_actByDraw 38 = .ok (.aload_n 0, 1) := by decide +kernel
theorem dX7_actByDraw_39 : decode cX7_actByDraw 39 = .ok (.getfield 19, 3) := by decide +kernel
theorem dX7_actByDraw_42 : decode cX7_actByDraw 42 = .ok (.iload_n 2, 1) := by decide +kernel
theorem dX7_actByDraw_43 : decode cX7_actByDraw 43 = .ok (.invokevirtual 210, 3) := by decide +kernel
theorem dX7_actByDraw_46 : decode cX7_actByDraw 46 = .ok (.goto 32, 3) := by decide +kernel
theorem dX7_actByDraw_49 : decode cX7_actByDraw 49 = .ok (.iload_n 1, 1) := by decide +kernel
theorem dX7_actByDraw_50 : decode cX7_actByDraw 50 = .ok (.iconst 2, 1) := by decide +kernel
theorem dX7_actByDraw_51 : decode cX7_actByDraw 51 = .ok (.if_icmp .ne 11, 3) := by decide +kernel
theorem dX7_actByDraw_54 : decode cX7_actByDraw 54 = .ok (.aload_n 0, 1) := by decide +kernel
theorem dX7_actByDraw_55 : decode cX7_actByDraw 55 = .ok (.iload_n 2, 1) := by decide +kernel
theorem dX7_actByDraw_56 : decode cX7_actByDraw 56 = .ok (.invokevirtual 246, 3) := by decide +kernel
theorem dX7_actByDraw_59 : decode cX7_actByDraw 59 = .ok (.goto 19, 3) := by decide +kernel
theorem dX7_actByDraw_62 : decode cX7_actByDraw 62 = .ok (.aload_n 0, 1) := by decide +kernel
theorem dX7_actByDraw_63 : decode cX7_actByDraw 63 = .ok (.getfield 29, 3) := by decide +kernel
theorem dX7_actByDraw_66 : decode cX7_actByDraw 66 = .ok (.aload_n 0, 1) := by decide +kernel
theorem dX7_actByDraw_67 : decode cX7_actByDraw 67 = .ok (.getfield 29, 3) := by decide +kernel
theorem dX7_actByDraw_70 : decode cX7_actByDraw 70 = .ok (.getfield 193, 3) := by decide +kernel
theorem dX7_actByDraw_73 : decode cX7_actByDraw 73 = .ok (.iload_n 2, 1) := by decide +kernel
theorem dX7_actByDraw_74 : decode cX7_actByDraw 74 = .ok (.iaload, 1) := by decide +kernel
theorem dX7_actByDraw_75 : decode cX7_actByDraw 75 = .ok (.invokevirtual 229, 3) := by decide +kernel
theorem dX7_actByDraw_78 : decode cX7_actByDraw 78 = .ok (.return_, 1) := by decide +kernel
theorem dX7_goByDraw_0 : decode cX7_goByDraw 0 = .ok (.aload_n 0, 1) := by decide +kernel
theorem dX7_goByDraw_1 : decode cX7_goByDraw 1 = .ok (.getfield 19, 3) := by decide +kernel
theorem dX7_goByDraw_4 : decode cX7_goByDraw 4 = .ok (.getfield 124, 3) := by decide +kernel
theorem dX7_goByDraw_7 : decode cX7_goByDraw 7 = .ok (.ifCond .ne 4, 3) := by decide +kernel
theorem dX7_goByDraw_10 : decode cX7_goByDraw 10 = .ok (.return_, 1) := by decide +kernel
theorem dX7_goByDraw_11 : decode cX7_goByDraw 11 = .ok (.aload_n 0, 1) := by decide +kernel
theorem dX7_goByDraw_12 : decode cX7_goByDraw 12 = .ok (.getfield 19, 3) := by decide +kernel
theorem dX7_goByDraw_15 : decode cX7_goByDraw 15 = .ok (.aload_n 0, 1) := by decide +kernel
theorem dX7_goByDraw_16 : decode cX7_goByDraw 16 = .ok (.aload_n 0, 1) := by decide +kernel
theorem dX7_goByDraw_17 : decode cX7_goByDraw 17 = .ok (.getfield 19, 3) := by decide +kernel
theorem dX7_goByDraw_20 : decode cX7_goByDraw 20 = .ok (.getfield 124, 3) := by decide +kernel
theorem dX7_goByDraw_23 : decode cX7_goByDraw 23 = .ok (.invokevirtual 243, 3) := by decide +kernel
theorem dX7_goByDraw_26 : decode cX7_goByDraw 26 = .ok (.aload_n 0, 1) := by decide +kernel
theorem dX7_goByDraw_27 : decode cX7_goByDraw 27 = .ok (.getfield 29, 3) := by decide +kernel
theorem dX7_goByDraw_30 : decode cX7_goByDraw 30 = .ok (.getfield 193, 3) := by decide +kernel
theorem dX7_goByDraw_33 : decode cX7_goByDraw 33 = .ok (.iload_n 1, 1) := by decide +kernel
theorem dX7_goByDraw_34 : decode cX7_goByDraw 34 = .ok (.iaload, 1) := by decide +kernel
theorem dX7_goByDraw_35 : decode cX7_goByDraw 35 = .ok (.invokevirtual 214, 3) := by decide +kernel
theorem dX7_goByDraw_38 : decode cX7_goByDraw 38 = .ok (.istore_n 2, 1) := by decide +kernel
theorem dX7_goByDraw_39 : decode cX7_goByDraw 39 = .ok (.iload_n 2, 1) := by decide +kernel
theorem dX7_goByDraw_40 : decode cX7_goByDraw 40 = .ok (.iconst (-1), 1) := by decide +kernel
theorem dX7_goByDraw_41 : decode cX7_goByDraw 41 = .ok (.if_icmp .eq 13, 3) := by decide +kernel
theorem dX7_goByDraw_44 : decode cX7_goByDraw 44 = .ok (.aload_n 0, 1) := by decide +kernel
theorem dX7_goByDraw_45 : decode cX7_goByDraw 45 = .ok (.getfield 29, 3) := by decide +kernel
theorem dX7_goByDraw_48 : decode cX7_goByDraw 48 = .ok (.getfield 193, 3) := by decide +kernel
theorem dX7_goByDraw_51 : decode cX7_goByDraw 51 = .ok (.iload_n 1, 1) := by decide +kernel
theorem dX7_goByDraw_52 : decode cX7_goByDraw 52 = .ok (.iload_n 2, 1) := by decide +kernel
theorem dX7_goByDraw_53 : decode cX7_goByDraw 53 = .ok (.iastore, 1) := by decide +kernel
theorem dX7_goByDraw_54 : decode cX7_goByDraw 54 = .ok (.return_, 1) := by decide +kernel
theorem dX7_draw_0 : decode cX7_draw 0 = .ok (.aload_n 0, 1) := by decide +kernel
theorem dX7_draw_1 : decode cX7_draw 1 = .ok (.aload_n 0, 1) := by decide +kernel
theorem dX7_draw_2 : decode cX7_draw 2 = .ok (.getfield 73, 3) := by decide +kernel
theorem dX7_draw_5 : decode cX7_draw 5 = .ok (.i2l, 1) := by decide +kernel
theorem dX7_draw_6 : decode cX7_draw 6 = .ok (.ldc2_w 249, 3) := by decide +kernel
theorem dX7_draw_9 : decode cX7_draw 9 = .ok (.lmul, 1) := by decide +kernel
theorem dX7_draw_10 : decode cX7_draw 10 = .ok (.ldc2_w 251, 3) := by decide +kernel
theorem dX7_draw_13 : decode cX7_draw 13 = .ok (.ladd, 1) := by decide +kernel
theorem dX7_draw_14 : decode cX7_draw 14 = .ok (.ldc2_w 253, 3) := by decide +kernel
theorem dX7_draw_17 : decode cX7_draw 17 = .ok (.land, 1) := by decide +kernel
theorem dX7_draw_18 : decode cX7_draw 18 = .ok (.l2i, 1) := by decide +kernel
theorem dX7_draw_19 : decode cX7_draw 19 = .ok (.putfield 73, 3) := by decide +kernel
theorem dX7_draw_22 : decode cX7_draw 22 = .ok (.iload_n 1, 1) := by decide +kernel
theorem dX7_draw_23 : decode cX7_draw 23 = .ok (.ifCond .le 15, 3) := by decide +kernel
theorem dX7_draw_26 : decode cX7_draw 26 = .ok (.aload_n 0, 1) := by decide +kernel
theorem dX7_draw_27 : decode cX7_draw 27 = .ok (.getfield 73, 3) := by decide +kernel
theorem dX7_draw_30 : decode cX7_draw 30 = .ok (.ldc 255, 2) := by decide +kernel
theorem dX7_draw_32 : decode cX7_draw 32 = .ok (.idiv, 1) := by decide +kernel
theorem dX7_draw_33 : decode cX7_draw 33 = .ok (.iload_n 1, 1) := by decide +kernel
theorem dX7_draw_34 : decode cX7_draw 34 = .ok (.irem, 1) := by decide +kernel
theorem dX7_draw_35 : decode cX7_draw 35 = .ok (.goto 4, 3) := by decide +kernel
theorem dX7_draw_38 : decode cX7_draw 38 = .ok (.iconst 0, 1) := by decide +kernel
theorem dX7_draw_39 : decode cX7_draw 39 = .ok (.ireturn, 1) := by decide +kernel
theorem dX7_wall_0 : decode cX7_wall 0 = .ok (.aload_n 0, 1) := by decide +kernel
theorem dX7_wall_1 : decode cX7_wall 1 = .ok (.getfield 19, 3) := by decide +kernel
theorem dX7_wall_4 : decode cX7_wall 4 = .ok (.iload_n 1, 1) := by decide +kernel
theorem dX7_wall_5 : decode cX7_wall 5 = .ok (.invokevirtual 148, 3) := by decide +kernel
theorem dX7_wall_8 : decode cX7_wall 8 = .ok (.ifCond .eq 14, 3) := by decide +kernel
theorem dX7_wall_11 : decode cX7_wall 11 = .ok (.aload_n 0, 1) := by decide +kernel
theorem dX7_wall_12 : decode cX7_wall 12 = .ok (.getfield 19, 3) := by decide +kernel
theorem dX7_wall_15 : decode cX7_wall 15 = .ok (.iload_n 2, 1) := by decide +kernel
theorem dX7_wall_16 : decode cX7_wall 16 = .ok (.invokevirtual 148, 3) := by decide +kernel
theorem dX7_wall_19 : decode cX7_wall 19 = .ok (.ifCond .ne 6, 3) := by decide +kernel
theorem dX7_wall_22 : decode cX7_wall 22 = .ok (.ldc 151, 2) := by decide +kernel
theorem dX7_wall_24 : decode cX7_wall 24 = .ok (.ireturn, 1) := by decide +kernel
theorem dX7_wall_25 : decode cX7_wall 25 = .ok (.aload_n 0, 1) := by decide +kernel
theorem dX7_wall_26 : decode cX7_wall 26 = .ok (.getfield 19, 3) := by decide +kernel
theorem dX7_wall_29 : decode cX7_wall 29 = .ok (.getfield 256, 3) := by decide +kernel
theorem dX7_wall_32 : decode cX7_wall 32 = .ok (.iload_n 1, 1) := by decide +kernel
theorem dX7_wall_33 : decode cX7_wall 33 = .ok (.aaload, 1) := by decide +kernel
theorem dX7_wall_34 : decode cX7_wall 34 = .ok (.iload_n 2, 1) := by decide +kernel
theorem dX7_wall_35 : decode cX7_wall 35 = .ok (.iaload, 1) := by decide +kernel
theorem dX7_wall_36 : decode cX7_wall 36 = .ok (.ireturn, 1) := by decide +kernel
theorem dX7_way_0 : decode cX7_way 0 = .ok (.aload_n 0, 1) := by decide +kernel
theorem dX7_way_1 : decode cX7_way 1 = .ok (.getfield 19, 3) := by decide +kernel
theorem dX7_way_4 : decode cX7_way 4 = .ok (.iload_n 1, 1) := by decide +kernel
theorem dX7_way_5 : decode cX7_way 5 = .ok (.invokevirtual 148, 3) := by decide +kernel
theorem dX7_way_8 : decode cX7_way 8 = .ok (.ifCond .eq 14, 3) := by decide +kernel
theorem dX7_way_11 : decode cX7_way 11 = .ok (.aload_n 0, 1) := by decide +kernel
theorem dX7_way_12 : decode cX7_way 12 = .ok (.getfield 19, 3) := by decide +kernel
theorem dX7_way_15 : decode cX7_way 15 = .ok (.iload_n 2, 1) := by decide +kernel
theorem dX7_way_16 : decode cX7_way 16 = .ok (.invokevirtual 148, 3) := by decide +kernel
theorem dX7_way_19 : decode cX7_way 19 = .ok (.ifCond .ne 6, 3) := by decide +kernel
theorem dX7_way_22 : decode cX7_way 22 = .ok (.ldc 151, 2) := by decide +kernel
theorem dX7_way_24 : decode cX7_way 24 = .ok (.ireturn, 1) := by decide +kernel
theorem dX7_way_25 : decode cX7_way 25 = .ok (.aload_n 0, 1) := by decide +kernel
theorem dX7_way_26 : decode cX7_way 26 = .ok (.getfield 19, 3) := by decide +kernel
theorem dX7_way_29 : decode cX7_way 29 = .ok (.getfield 259, 3) := by decide +kernel
theorem dX7_way_32 : decode cX7_way 32 = .ok (.iload_n 1, 1) := by decide +kernel
theorem dX7_way_33 : decode cX7_way 33 = .ok (.aaload, 1) := by decide +kernel
theorem dX7_way_34 : decode cX7_way 34 = .ok (.iload_n 2, 1) := by decide +kernel
theorem dX7_way_35 : decode cX7_way 35 = .ok (.iaload, 1) := by decide +kernel
theorem dX7_way_36 : decode cX7_way 36 = .ok (.istore_n 3, 1) := by decide +kernel
theorem dX7_way_37 : decode cX7_way 37 = .ok (.iload_n 3, 1) := by decide +kernel
theorem dX7_way_38 : decode cX7_way 38 = .ok (.bipush 99, 2) := by decide +kernel
theorem dX7_way_40 : decode cX7_way 40 = .ok (.if_icmp .ne 7, 3) := by decide +kernel
theorem dX7_way_43 : decode cX7_way 43 = .ok (.iconst (-1), 1) := by decide +kernel
theorem dX7_way_44 : decode cX7_way 44 = .ok (.goto 4, 3) := by decide +kernel
theorem dX7_way_47 : decode cX7_way 47 = .ok (.iload_n 3, 1) := by decide +kernel
theorem dX7_way_48 : decode cX7_way 48 = .ok (.ireturn, 1) := by decide +kernel
theorem dX7_fewest_0 : decode cX7_fewest 0 = .ok (.aload_n 0, 1) := by decide +kernel
theorem dX7_fewest_1 : decode cX7_fewest 1 = .ok (.getfield 19, 3) := by decide +kernel
theorem dX7_fewest_4 : decode cX7_fewest 4 = .ok (.iload_n 1, 1) := by decide +kernel
theorem dX7_fewest_5 : decode cX7_fewest 5 = .ok (.invokevirtual 184, 3) := by decide +kernel
theorem dX7_fewest_8 : decode cX7_fewest 8 = .ok (.ifCond .eq 14, 3) := by decide +kernel
theorem dX7_fewest_11 : decode cX7_fewest 11 = .ok (.aload_n 0, 1) := by decide +kernel
theorem dX7_fewest_12 : decode cX7_fewest 12 = .ok (.getfield 19, 3) := by decide +kernel
theorem dX7_fewest_15 : decode cX7_fewest 15 = .ok (.iload_n 2, 1) := by decide +kernel
theorem dX7_fewest_16 : decode cX7_fewest 16 = .ok (.invokevirtual 262, 3) := by decide +kernel
theorem dX7_fewest_19 : decode cX7_fewest 19 = .ok (.ifCond .ne 6, 3) := by decide +kernel
theorem dX7_fewest_22 : decode cX7_fewest 22 = .ok (.ldc 151, 2) := by decide +kernel
theorem dX7_fewest_24 : decode cX7_fewest 24 = .ok (.ireturn, 1) := by decide +kernel
theorem dX7_fewest_25 : decode cX7_fewest 25 = .ok (.iload_n 3, 1) := by decide +kernel
theorem dX7_fewest_26 : decode cX7_fewest 26 = .ok (.ifCond .lt 8, 3) := by decide +kernel
theorem dX7_fewest_29 : decode cX7_fewest 29 = .ok (.iload_n 3, 1) := by decide +kernel
theorem dX7_fewest_30 : decode cX7_fewest 30 = .ok (.iconst 1, 1) := by decide +kernel
theorem dX7_fewest_31 : decode cX7_fewest 31 = .ok (.if_icmp .le 6, 3) := by decide +kernel
theorem dX7_fewest_34 : decode cX7_fewest 34 = .ok (.ldc 80, 2) := by decide +kernel
theorem dX7_fewest_36 : decode cX7_fewest 36 = .ok (.ireturn, 1) := by decide +kernel
theorem dX7_fewest_37 : decode cX7_fewest 37 = .ok (.aload_n 0, 1) := by decide +kernel
theorem dX7_fewest_38 : decode cX7_fewest 38 = .ok (.getfield 55, 3) := by decide +kernel
theorem dX7_fewest_41 : decode cX7_fewest 41 = .ok (.aload_n 0, 1) := by decide +kernel
theorem dX7_fewest_42 : decode cX7_fewest 42 = .ok (.getfield 19, 3) := by decide +kernel
theorem dX7_fewest_45 : decode cX7_fewest 45 = .ok (.aload_n 0, 1) := by decide +kernel
theorem dX7_fewest_46 : decode cX7_fewest 46 = .ok (.getfield 29, 3) := by decide +kernel
theorem dX7_fewest_49 : decode cX7_fewest 49 = .ok (.iload_n 1, 1) := by decide +kernel
theorem dX7_fewest_50 : decode cX7_fewest 50 = .ok (.iload_n 2, 1) := by decide +kernel
theorem dX7_fewest_51 : decode cX7_fewest 51 = .ok (.invokevirtual 265, 3) := by decide +kernel
theorem dX7_fewest_54 : decode cX7_fewest 54 = .ok (.iload_n 3, 1) := by decide +kernel
theorem dX7_fewest_55 : decode cX7_fewest 55 = .ok (.ifCond .ne 13, 3) := by decide +kernel
theorem dX7_fewest_58 : decode cX7_fewest 58 = .ok (.aload_n 0, 1) := by decide +kernel
theorem dX7_fewest_59 : decode cX7_fewest 59 = .ok (.getfield 55, 3) := by decide +kernel
theorem dX7_fewest_62 : decode cX7_fewest 62 = .ok (.getfield 269, 3) := by decide +kernel
theorem dX7_fewest_65 : decode cX7_fewest 65 = .ok (.goto 10, 3) := by decide +kernel
theorem dX7_fewest_68 : decode cX7_fewest 68 = .ok (.aload_n 0, 1) := by decide +kernel
theorem dX7_fewest_69 : decode cX7_fewest 69 = .ok (.getfield 55, 3) := by decide +kernel
theorem dX7_fewest_72 : decode cX7_fewest 72 = .ok (.getfield 272, 3) := by decide +kernel
theorem dX7_fewest_75 : decode cX7_fewest 75 = .ok (.ireturn, 1) := by decide +kernel
theorem dX7_reading_0 : decode cX7_reading 0 = .ok (.aload_n 0, 1) := by decide +kernel
theorem dX7_reading_1 : decode cX7_reading 1 = .ok (.getfield 19, 3) := by decide +kernel
theorem dX7_reading_4 : decode cX7_reading 4 = .ok (.iload_n 1, 1) := by decide +kernel
theorem dX7_reading_5 : decode cX7_reading 5 = .ok (.invokevirtual 148, 3) := by decide +kernel
theorem dX7_reading_8 : decode cX7_reading 8 = .ok (.ifCond .ne 6, 3) := by decide +kernel
theorem dX7_reading_11 : decode cX7_reading 11 = .ok (.ldc 151, 2) := by decide +kernel
theorem dX7_reading_13 : decode cX7_reading 13 = .ok (.ireturn, 1) := by decide +kernel
theorem dX7_reading_14 : decode cX7_reading 14 = .ok (.iload_n 2, 1) := by decide +kernel
theorem dX7_reading_15 : decode cX7_reading 15 = .ok (.ifCond .lt 8, 3) := by decide +kernel
theorem dX7_reading_18 : decode cX7_reading 18 = .ok (.iload_n 2, 1) := by decide +kernel
theorem dX7_reading_19 : decode cX7_reading 19 = .ok (.iconst 4, 1) := by decide +kernel
theorem dX7_reading_20 : decode cX7_reading 20 = .ok (.if_icmp .lt 6, 3) := by decide +kernel
theorem dX7_reading_23 : decode cX7_reading 23 = .ok (.ldc 80, 2) := by decide +kernel
theorem dX7_reading_25 : decode cX7_reading 25 = .ok (.ireturn, 1) := by decide +kernel
theorem dX7_reading_26 : decode cX7_reading 26 = .ok (.aload_n 0, 1) := by decide +kernel
theorem dX7_reading_27 : decode cX7_reading 27 = .ok (.getfield 29, 3) := by decide +kernel
theorem dX7_reading_30 : decode cX7_reading 30 = .ok (.iload_n 1, 1) := by decide +kernel
theorem dX7_reading_31 : decode cX7_reading 31 = .ok (.iload_n 2, 1) := by decide +kernel
theorem dX7_reading_32 : decode cX7_reading 32 = .ok (.invokevirtual 165, 3) := by decide +kernel
theorem dX7_reading_35 : decode cX7_reading 35 = .ok (.ireturn, 1) := by decide +kernel
theorem dX7_quiet_0 : decode cX7_quiet 0 = .ok (.iload_n 1, 1) := by decide +kernel
theorem dX7_quiet_1 : decode cX7_quiet 1 = .ok (.ifCond .lt 19, 3) := by decide +kernel
theorem dX7_quiet_4 : decode cX7_quiet 4 = .ok (.iload_n 1, 1) := by decide +kernel
theorem dX7_quiet_5 : decode cX7_quiet 5 = .ok (.bipush 60, 2) := by decide +kernel
theorem dX7_quiet_7 : decode cX7_quiet 7 = .ok (.if_icmp .gt 13, 3) := by decide +kernel
theorem dX7_quiet_10 : decode cX7_quiet 10 = .ok (.iload_n 2, 1) := by decide +kernel
theorem dX7_quiet_11 : decode cX7_quiet 11 = .ok (.ifCond .lt 9, 3) := by decide +kernel
theorem dX7_quiet_14 : decode cX7_quiet 14 = .ok (.iload_n 2, 1) := by decide +kernel
theorem dX7_quiet_15 : decode cX7_quiet 15 = .ok (.bipush 100, 2) := by decide +kernel
theorem dX7_quiet_17 : decode cX7_quiet 17 = .ok (.if_icmp .le 6, 3) := by decide +kernel
theorem dX7_quiet_20 : decode cX7_quiet 20 = .ok (.ldc 80, 2) := by decide +kernel
theorem dX7_quiet_22 : decode cX7_quiet 22 = .ok (.ireturn, 1) := by decide +kernel
theorem dX7_quiet_23 : decode cX7_quiet 23 = .ok (.ldc2_w 275, 3) := by decide +kernel
theorem dX7_quiet_26 : decode cX7_quiet 26 = .ok (.lstore_n 3, 1) := by decide +kernel
theorem dX7_quiet_27 : decode cX7_quiet 27 = .ok (.iconst 0, 1) := by decide +kernel
theorem dX7_quiet_28 : decode cX7_quiet 28 = .ok (.istore 5, 2) := by decide +kernel
theorem dX7_quiet_30 : decode cX7_quiet 30 = .ok (.iload 5, 2) := by decide +kernel
theorem dX7_quiet_32 : decode cX7_quiet 32 = .ok (.iload_n 1, 1) := by decide +kernel
theorem dX7_quiet_33 : decode cX7_quiet 33 = .ok (.if_icmp .ge 18, 3) := by decide +kernel
theorem dX7_quiet_36 : decode cX7_quiet 36 = .ok (.lload_n 3, 1) := by decide +kernel
theorem dX7_quiet_37 : decode cX7_quiet 37 = .ok (.iload_n 2, 1) := by decide +kernel
theorem dX7_quiet_38 : decode cX7_quiet 38 = .ok (.i2l, 1) := by decide +kernel
theorem dX7_quiet_39 : decode cX7_quiet 39 = .ok (.lmul, 1) := by decide +kernel
theorem dX7_quiet_40 : decode cX7_quiet 40 = .ok (.ldc2_w 277, 3) := by decide +kernel
theorem dX7_quiet_43 : decode cX7_quiet 43 = .ok (.ldiv, 1) := by decide +kernel
theorem dX7_quiet_44 : decode cX7_quiet 44 = .ok (.lstore_n 3, 1) := by decide +kernel
theorem dX7_quiet_45 : decode cX7_quiet 45 = .ok (.iinc 5 1, 3) := by decide +kernel
theorem dX7_quiet_48 : decode cX7_quiet 48 = .ok (.goto (-18), 3) := by decide +kernel
theorem dX7_quiet_51 : decode cX7_quiet 51 = .ok (.lload_n 3, 1) := by decide +kernel
theorem dX7_quiet_52 : decode cX7_quiet 52 = .ok (.l2i, 1) := by decide +kernel
theorem dX7_quiet_53 : decode cX7_quiet 53 = .ok (.ireturn, 1) := by decide +kernel
theorem dX7_see_0 : decode cX7_see 0 = .ok (.aload_n 0, 1) := by decide +kernel
theorem dX7_see_1 : decode cX7_see 1 = .ok (.getfield 19, 3) := by decide +kernel
theorem dX7_see_4 : decode cX7_see 4 = .ok (.iload_n 1, 1) := by decide +kernel
theorem dX7_see_5 : decode cX7_see 5 = .ok (.invokevirtual 148, 3) := by decide +kernel
theorem dX7_see_8 : decode cX7_see 8 = .ok (.ifCond .ne 6, 3) := by decide +kernel
theorem dX7_see_11 : decode cX7_see 11 = .ok (.ldc 151, 2) := by decide +kernel
theorem dX7_see_13 : decode cX7_see 13 = .ok (.ireturn, 1) := by decide +kernel
theorem dX7_see_14 : decode cX7_see 14 = .ok (.aload_n 0, 1) := by decide +kernel
theorem dX7_see_15 : decode cX7_see 15 = .ok (.getfield 62, 3) := by decide +kernel
theorem dX7_see_18 : decode cX7_see 18 = .ok (.iload_n 1, 1) := by decide +kernel
theorem dX7_see_19 : decode cX7_see 19 = .ok (.iload_n 2, 1) := by decide +kernel
theorem dX7_see_20 : decode cX7_see 20 = .ok (.invokevirtual 279, 3) := by decide +kernel
theorem dX7_see_23 : decode cX7_see 23 = .ok (.ifCond .eq 13, 3) := by decide +kernel
theorem dX7_see_26 : decode cX7_see 26 = .ok (.aload_n 0, 1) := by decide +kernel
theorem dX7_see_27 : decode cX7_see 27 = .ok (.getfield 62, 3) := by decide +kernel
theorem dX7_see_30 : decode cX7_see 30 = .ok (.getfield 111, 3) := by decide +kernel
theorem dX7_see_33 : decode cX7_see 33 = .ok (.goto 5, 3) := by decide +kernel
theorem dX7_see_36 : decode cX7_see 36 = .ok (.ldc 88, 2) := by decide +kernel
theorem dX7_see_38 : decode cX7_see 38 = .ok (.ireturn, 1) := by decide +kernel
theorem dX7_couldBe_0 : decode cX7_couldBe 0 = .ok (.aload_n 0, 1) := by decide +kernel
theorem dX7_couldBe_1 : decode cX7_couldBe 1 = .ok (.getfield 62, 3) := by decide +kernel
theorem dX7_couldBe_4 : decode cX7_couldBe 4 = .ok (.aload_n 0, 1) := by decide +kernel
theorem dX7_couldBe_5 : decode cX7_couldBe 5 = .ok (.getfield 19, 3) := by decide +kernel
theorem dX7_couldBe_8 : decode cX7_couldBe 8 = .ok (.aload_n 0, 1) := by decide +kernel
theorem dX7_couldBe_9 : decode cX7_couldBe 9 = .ok (.getfield 29, 3) := by decide +kernel
theorem dX7_couldBe_12 : decode cX7_couldBe 12 = .ok (.invokevirtual 282, 3) := by decide +kernel
theorem dX7_couldBe_15 : decode cX7_couldBe 15 = .ok (.ireturn, 1) := by decide +kernel
theorem dX7_ask_0 : decode cX7_ask 0 = .ok (.aload_n 0, 1) := by decide +kernel
theorem dX7_ask_1 : decode cX7_ask 1 = .ok (.getfield 62, 3) := by decide +kernel
theorem dX7_ask_4 : decode cX7_ask 4 = .ok (.aload_n 0, 1) := by decide +kernel
theorem dX7_ask_5 : decode cX7_ask 5 = .ok (.getfield 19, 3) := by decide +kernel
theorem dX7_ask_8 : decode cX7_ask 8 = .ok (.aload_n 0, 1) := by decide +kernel
theorem dX7_ask_9 : decode cX7_ask 9 = .ok (.getfield 29, 3) := by decide +kernel
theorem dX7_ask_12 : decode cX7_ask 12 = .ok (.invokevirtual 286, 3) := by decide +kernel
theorem dX7_ask_15 : decode cX7_ask 15 = .ok (.ireturn, 1) := by decide +kernel
theorem dX7_write_0 : decode cX7_write 0 = .ok (.aload_n 0, 1) := by decide +kernel
theorem dX7_write_1 : decode cX7_write 1 = .ok (.getfield 19, 3) := by decide +kernel
theorem dX7_write_4 : decode cX7_write 4 = .ok (.iload_n 1, 1) := by decide +kernel
theorem dX7_write_5 : decode cX7_write 5 = .ok (.invokevirtual 148, 3) := by decide +kernel
theorem dX7_write_8 : decode cX7_write 8 = .ok (.ifCond .eq 19, 3) := by decide +kernel
theorem dX7_write_11 : decode cX7_write 11 = .ok (.iload_n 2, 1) := by decide +kernel
theorem dX7_write_12 : decode cX7_write 12 = .ok (.iconst (-1), 1) := by decide +kernel
theorem dX7_write_13 : decode cX7_write 13 = .ok (.if_icmp .eq 17, 3) := by decide +kernel
theorem dX7_write_16 : decode cX7_write 16 = .ok (.aload_n 0, 1) := by decide +kernel
theorem dX7_write_17 : decode cX7_write 17 = .ok (.getfield 19, 3) := by decide +kernel
theorem dX7_write_20 : decode cX7_write 20 = .ok (.iload_n 2, 1) := by decide +kernel
theorem dX7_write_21 : decode cX7_write 21 = .ok (.invokevirtual 184, 3) := by decide +kernel
theorem dX7_write_24 : decode cX7_write 24 = .ok (.ifCond .ne 6, 3) := by decide +kernel
theorem dX7_write_27 : decode cX7_write 27 = .ok (.ldc 151, 2) := by decide +kernel
theorem dX7_write_29 : decode cX7_write 29 = .ok (.ireturn, 1) := by decide +kernel
theorem dX7_write_30 : decode cX7_write 30 = .ok (.aload_n 0, 1) := by decide +kernel
theorem dX7_write_31 : decode cX7_write 31 = .ok (.getfield 69, 3) := by decide +kernel
theorem dX7_write_34 : decode cX7_write 34 = .ok (.iload_n 1, 1) := by decide +kernel
theorem dX7_write_35 : decode cX7_write 35 = .ok (.iload_n 2, 1) := by decide +kernel
theorem dX7_write_36 : decode cX7_write 36 = .ok (.invokevirtual 289, 3) := by decide +kernel
theorem dX7_write_39 : decode cX7_write 39 = .ok (.ifCond .eq 13, 3) := by decide +kernel
theorem dX7_write_42 : decode cX7_write 42 = .ok (.aload_n 0, 1) := by decide +kernel
theorem dX7_write_43 : decode cX7_write 43 = .ok (.getfield 69, 3) := by decide +kernel
theorem dX7_write_46 : decode cX7_write 46 = .ok (.getfield 114, 3) := by decide +kernel
theorem dX7_write_49 : decode cX7_write 49 = .ok (.goto 5, 3) := by decide +kernel
theorem dX7_write_52 : decode cX7_write 52 = .ok (.ldc 88, 2) := by decide +kernel
theorem dX7_write_54 : decode cX7_write 54 = .ok (.ireturn, 1) := by decide +kernel
theorem dX7_judge_0 : decode cX7_judge 0 = .ok (.aload_n 0, 1) := by decide +kernel
theorem dX7_judge_1 : decode cX7_judge 1 = .ok (.getfield 69, 3) := by decide +kernel
theorem dX7_judge_4 : decode cX7_judge 4 = .ok (.aload_n 0, 1) := by decide +kernel
theorem dX7_judge_5 : decode cX7_judge 5 = .ok (.getfield 29, 3) := by decide +kernel
theorem dX7_judge_8 : decode cX7_judge 8 = .ok (.invokevirtual 291, 3) := by decide +kernel
theorem dX7_judge_11 : decode cX7_judge 11 = .ok (.ireturn, 1) := by decide +kernel
theorem dX7_tear_0 : decode cX7_tear 0 = .ok (.aload_n 0, 1) := by decide +kernel
theorem dX7_tear_1 : decode cX7_tear 1 = .ok (.getfield 62, 3) := by decide +kernel
theorem dX7_tear_4 : decode cX7_tear 4 = .ok (.getfield 111, 3) := by decide +kernel
theorem dX7_tear_7 : decode cX7_tear 7 = .ok (.aload_n 0, 1) := by decide +kernel
theorem dX7_tear_8 : decode cX7_tear 8 = .ok (.getfield 69, 3) := by decide +kernel
theorem dX7_tear_11 : decode cX7_tear 11 = .ok (.getfield 114, 3) := by decide +kernel
theorem dX7_tear_14 : decode cX7_tear 14 = .ok (.iadd, 1) := by decide +kernel
theorem dX7_tear_15 : decode cX7_tear 15 = .ok (.istore_n 1, 1) := by decide +kernel
theorem dX7_tear_16 : decode cX7_tear 16 = .ok (.aload_n 0, 1) := by decide +kernel
theorem dX7_tear_17 : decode cX7_tear 17 = .ok (.getfield 62, 3) := by decide +kernel
theorem dX7_tear_20 : decode cX7_tear 20 = .ok (.iconst 0, 1) := by decide +kernel
theorem dX7_tear_21 : decode cX7_tear 21 = .ok (.putfield 111, 3) := by decide +kernel
theorem dX7_tear_24 : decode cX7_tear 24 = .ok (.aload_n 0, 1) := by decide +kernel
theorem dX7_tear_25 : decode cX7_tear 25 = .ok (.getfield 69, 3) := by decide +kernel
theorem dX7_tear_28 : decode cX7_tear 28 = .ok (.iconst 0, 1) := by decide +kernel
theorem dX7_tear_29 : decode cX7_tear 29 = .ok (.putfield 114, 3) := by decide +kernel
theorem dX7_tear_32 : decode cX7_tear 32 = .ok (.iload_n 1, 1) := by decide +kernel
theorem dX7_tear_33 : decode cX7_tear 33 = .ok (.ireturn, 1) := by decide +kernel
theorem dX7_seed_0 : decode cX7_seed 0 = .ok (.iload_n 1, 1) := by decide +kernel
theorem dX7_seed_1 : decode cX7_seed 1 = .ok (.ifCond .ge 6, 3) := by decide +kernel
theorem dX7_seed_4 : decode cX7_seed 4 = .ok (.ldc 80, 2) := by decide +kernel
theorem dX7_seed_6 : decode cX7_seed 6 = .ok (.ireturn, 1) := by decide +kernel
theorem dX7_seed_7 : decode cX7_seed 7 = .ok (.aload_n 0, 1) := by decide +kernel
theorem dX7_seed_8 : decode cX7_seed 8 = .ok (.getfield 73, 3) := by decide +kernel
theorem dX7_seed_11 : decode cX7_seed 11 = .ok (.istore_n 2, 1) := by decide +kernel
theorem dX7_seed_12 : decode cX7_seed 12 = .ok (.aload_n 0, 1) := by decide +kernel
theorem dX7_seed_13 : decode cX7_seed 13 = .ok (.iload_n 1, 1) := by decide +kernel
theorem dX7_seed_14 : decode cX7_seed 14 = .ok (.putfield 73, 3) := by decide +kernel
theorem dX7_seed_17 : decode cX7_seed 17 = .ok (.iload_n 2, 1) := by decide +kernel
theorem dX7_seed_18 : decode cX7_seed 18 = .ok (.ireturn, 1) := by decide +kernel
theorem dX7_keep_0 : decode cX7_keep 0 = .ok (.iload_n 1, 1) := by decide +kernel
theorem dX7_keep_1 : decode cX7_keep 1 = .ok (.ifCond .lt 8, 3) := by decide +kernel
theorem dX7_keep_4 : decode cX7_keep 4 = .ok (.iload_n 1, 1) := by decide +kernel
theorem dX7_keep_5 : decode cX7_keep 5 = .ok (.iconst 2, 1) := by decide +kernel
theorem dX7_keep_6 : decode cX7_keep 6 = .ok (.if_icmp .lt 6, 3) := by decide +kernel
theorem dX7_keep_9 : decode cX7_keep 9 = .ok (.ldc 151, 2) := by decide +kernel
theorem dX7_keep_11 : decode cX7_keep 11 = .ok (.ireturn, 1) := by decide +kernel
theorem dX7_keep_12 : decode cX7_keep 12 = .ok (.aload_n 0, 1) := by decide +kernel
theorem dX7_keep_13 : decode cX7_keep 13 = .ok (.getfield 40, 3) := by decide +kernel
theorem dX7_keep_16 : decode cX7_keep 16 = .ok (.iload_n 1, 1) := by decide +kernel
theorem dX7_keep_17 : decode cX7_keep 17 = .ok (.aaload, 1) := by decide +kernel
theorem dX7_keep_18 : decode cX7_keep 18 = .ok (.aload_n 0, 1) := by decide +kernel
theorem dX7_keep_19 : decode cX7_keep 19 = .ok (.getfield 29, 3) := by decide +kernel
theorem dX7_keep_22 : decode cX7_keep 22 = .ok (.invokevirtual 295, 3) := by decide +kernel
theorem dX7_keep_25 : decode cX7_keep 25 = .ok (.aload_n 0, 1) := by decide +kernel
theorem dX7_keep_26 : decode cX7_keep 26 = .ok (.getfield 44, 3) := by decide +kernel
theorem dX7_keep_29 : decode cX7_keep 29 = .ok (.iload_n 1, 1) := by decide +kernel
theorem dX7_keep_30 : decode cX7_keep 30 = .ok (.aload_n 0, 1) := by decide +kernel
theorem dX7_keep_31 : decode cX7_keep 31 = .ok (.getfield 73, 3) := by decide +kernel
theorem dX7_keep_34 : decode cX7_keep 34 = .ok (.iastore, 1) := by decide +kernel
theorem dX7_keep_35 : decode cX7_keep 35 = .ok (.aload_n 0, 1) := by decide +kernel
theorem dX7_keep_36 : decode cX7_keep 36 = .ok (.getfield 48, 3) := by decide +kernel
theorem dX7_keep_39 : decode cX7_keep 39 = .ok (.iload_n 1, 1) := by decide +kernel
theorem dX7_keep_40 : decode cX7_keep 40 = .ok (.iconst 1, 1) := by decide +kernel
theorem dX7_keep_41 : decode cX7_keep 41 = .ok (.bastore, 1) := by decide +kernel
theorem dX7_keep_42 : decode cX7_keep 42 = .ok (.aload_n 0, 1) := by decide +kernel
theorem dX7_keep_43 : decode cX7_keep 43 = .ok (.getfield 36, 3) := by decide +kernel
theorem dX7_keep_46 : decode cX7_keep 46 = .ok (.invokevirtual 105, 3) := by decide +kernel
theorem dX7_keep_49 : decode cX7_keep 49 = .ok (.iconst 1, 1) := by decide +kernel
theorem dX7_keep_50 : decode cX7_keep 50 = .ok (.ireturn, 1) := by decide +kernel
theorem dX7_goBack_0 : decode cX7_goBack 0 = .ok (.iload_n 1, 1) := by decide +kernel
theorem dX7_goBack_1 : decode cX7_goBack 1 = .ok (.ifCond .lt 8, 3) := by decide +kernel
theorem dX7_goBack_4 : decode cX7_goBack 4 = .ok (.iload_n 1, 1) := by decide +kernel
theorem dX7_goBack_5 : decode cX7_goBack 5 = .ok (.iconst 2, 1) := by decide +kernel
theorem dX7_goBack_6 : decode cX7_goBack 6 = .ok (.if_icmp .lt 6, 3) := by decide +kernel
theorem dX7_goBack_9 : decode cX7_goBack 9 = .ok (.ldc 151, 2) := by decide +kernel
theorem dX7_goBack_11 : decode cX7_goBack 11 = .ok (.ireturn, 1) := by decide +kernel
theorem dX7_goBack_12 : decode cX7_goBack 12 = .ok (.aload_n 0, 1) := by decide +kernel
theorem dX7_goBack_13 : decode cX7_goBack 13 = .ok (.getfield 48, 3) := by decide +kernel
theorem dX7_goBack_16 : decode cX7_goBack 16 = .ok (.iload_n 1, 1) := by decide +kernel
theorem dX7_goBack_17 : decode cX7_goBack 17 = .ok (.baload, 1) := by decide +kernel
theorem dX7_goBack_18 : decode cX7_goBack 18 = .ok (.ifCond .ne 6, 3) := by decide +kernel
theorem dX7_goBack_21 : decode cX7_goBack 21 = .ok (.ldc 217, 2) := by decide +kernel
theorem dX7_goBack_23 : decode cX7_goBack 23 = .ok (.ireturn, 1) := by decide +kernel
theorem dX7_goBack_24 : decode cX7_goBack 24 = .ok (.aload_n 0, 1) := by decide +kernel
theorem dX7_goBack_25 : decode cX7_goBack 25 = .ok (.getfield 29, 3) := by decide +kernel
theorem dX7_goBack_28 : decode cX7_goBack 28 = .ok (.aload_n 0, 1) := by decide +kernel
theorem dX7_goBack_29 : decode cX7_goBack 29 = .ok (.getfield 40, 3) := by decide +kernel
theorem dX7_goBack_32 : decode cX7_goBack 32 = .ok (.iload_n 1, 1) := by decide +kernel
theorem dX7_goBack_33 : decode cX7_goBack 33 = .ok (.aaload, 1) := by decide +kernel
theorem dX7_goBack_34 : decode cX7_goBack 34 = .ok (.invokevirtual 295, 3) := by decide +kernel
theorem dX7_goBack_37 : decode cX7_goBack 37 = .ok (.aload_n 0, 1) := by decide +kernel
theorem dX7_goBack_38 : decode cX7_goBack 38 = .ok (.aload_n 0, 1) := by decide +kernel
theorem dX7_goBack_39 : decode cX7_goBack 39 = .ok (.getfield 44, 3) := by decide +kernel
theorem dX7_goBack_42 : decode cX7_goBack 42 = .ok (.iload_n 1, 1) := by decide +kernel
theorem dX7_goBack_43 : decode cX7_goBack 43 = .ok (.iaload, 1) := by decide +kernel
theorem dX7_goBack_44 : decode cX7_goBack 44 = .ok (.putfield 73, 3) := by decide +kernel
theorem dX7_goBack_47 : decode cX7_goBack 47 = .ok (.aload_n 0, 1) := by decide +kernel
theorem dX7_goBack_48 : decode cX7_goBack 48 = .ok (.getfield 36, 3) := by decide +kernel
theorem dX7_goBack_51 : decode cX7_goBack 51 = .ok (.invokevirtual 105, 3) := by decide +kernel
theorem dX7_goBack_54 : decode cX7_goBack 54 = .ok (.iconst 1, 1) := by decide +kernel
theorem dX7_goBack_55 : decode cX7_goBack 55 = .ok (.ireturn, 1) := by decide +kernel
theorem dX7_forgetImages_0 : decode cX7_forgetImages 0 = .ok (.iconst 0, 1) := by decide +kernel
theorem dX7_forgetImages_1 : decode cX7_forgetImages 1 = .ok (.istore_n 1, 1) := by decide +kernel
theorem dX7_forgetImages_2 : decode cX7_forgetImages 2 = .ok (.iload_n 1, 1) := by decide +kernel
theorem dX7_forgetImages_3 : decode cX7_forgetImages 3 = .ok (.iconst 2, 1) := by decide +kernel
theorem dX7_forgetImages_4 : decode cX7_forgetImages 4 = .ok (.if_icmp .ge 16, 3) := by decide +kernel
theorem dX7_forgetImages_7 : decode cX7_forgetImages 7 = .ok (.aload_n 0, 1) := by decide +kernel
theorem dX7_forgetImages_8 : decode cX7_forgetImages 8 = .ok (.getfield 48, 3) := by decide +kernel
theorem dX7_forgetImages_11 : decode cX7_forgetImages 11 = .ok (.iload_n 1, 1) := by decide +kernel
theorem dX7_forgetImages_12 : decode cX7_forgetImages 12 = .ok (.iconst 0, 1) := by decide +kernel
theorem dX7_forgetImages_13 : decode cX7_forgetImages 13 = .ok (.bastore, 1) := by decide +kernel
theorem dX7_forgetImages_14 : decode cX7_forgetImages 14 = .ok (.iinc 1 1, 3) := by decide +kernel
theorem dX7_forgetImages_17 : decode cX7_forgetImages 17 = .ok (.goto (-15), 3) := by decide +kernel
theorem dX7_forgetImages_20 : decode cX7_forgetImages 20 = .ok (.return_, 1) := by decide +kernel
end
section
theorem dX8_init_0 : decode cX8_init 0 = .ok (.aload_n 0, 1) := by decide +kernel
theorem dX8_init_1 : decode cX8_init 1 = .ok (.invokespecial 1, 3) := by decide +kernel
theorem dX8_init_4 : decode cX8_init 4 = .ok (.aload_n 0, 1) := by decide +kernel
theorem dX8_init_5 : decode cX8_init 5 = .ok (.sipush 240, 3) := by decide +kernel
theorem dX8_init_8 : decode cX8_init 8 = .ok (.newarray .int, 2) := by decide +kernel
theorem dX8_init_10 : decode cX8_init 10 = .ok (.putfield 7, 3) := by decide +kernel
theorem dX8_init_13 : decode cX8_init 13 = .ok (.aload_n 0, 1) := by decide +kernel
theorem dX8_init_14 : decode cX8_init 14 = .ok (.iconst (-1), 1) := by decide +kernel
theorem dX8_init_15 : decode cX8_init 15 = .ok (.putfield 13, 3) := by decide +kernel
theorem dX8_init_18 : decode cX8_init 18 = .ok (.aload_n 0, 1) := by decide +kernel
theorem dX8_init_19 : decode cX8_init 19 = .ok (.bipush 8, 2) := by decide +kernel
theorem dX8_init_21 : decode cX8_init 21 = .ok (.newarray .int, 2) := by decide +kernel
theorem dX8_init_23 : decode cX8_init 23 = .ok (.putfield 17, 3) := by decide +kernel
theorem dX8_init_26 : decode cX8_init 26 = .ok (.aload_n 0, 1) := by decide +kernel
theorem dX8_init_27 : decode cX8_init 27 = .ok (.bipush 8, 2) := by decide +kernel
theorem dX8_init_29 : decode cX8_init 29 = .ok (.newarray .int, 2) := by decide +kernel
theorem dX8_init_31 : decode cX8_init 31 = .ok (.putfield 20, 3) := by decide +kernel
theorem dX8_init_34 : decode cX8_init 34 = .ok (.aload_n 0, 1) := by decide +kernel
theorem dX8_init_35 : decode cX8_init 35 = .ok (.bipush 8, 2) := by decide +kernel
theorem dX8_init_37 : decode cX8_init 37 = .ok (.newarray .int, 2) := by decide +kernel
theorem dX8_init_39 : decode cX8_init 39 = .ok (.putfield 23, 3) := by decide +kernel
theorem dX8_init_42 : decode cX8_init 42 = .ok (.aload_n 0, 1) := by decide +kernel
theorem dX8_init_43 : decode cX8_init 43 = .ok (.bipush 6, 2) := by decide +kernel
theorem dX8_init_45 : decode cX8_init 45 = .ok (.newarray .int, 2) := by decide +kernel
theorem dX8_init_47 : decode cX8_init 47 = .ok (.putfield 26, 3) := by decide +kernel
theorem dX8_init_50 : decode cX8_init 50 = .ok (.aload_n 0, 1) := by decide +kernel
theorem dX8_init_51 : decode cX8_init 51 = .ok (.bipush 6, 2) := by decide +kernel
theorem dX8_init_53 : decode cX8_init 53 = .ok (.newarray .int, 2) := by decide +kernel
theorem dX8_init_55 : decode cX8_init 55 = .ok (.putfield 29, 3) := by decide +kernel
theorem dX8_init_58 : decode cX8_init 58 = .ok (.aload_n 0, 1) := by decide +kernel
theorem dX8_init_59 : decode cX8_init 59 = .ok (.bipush 36, 2) := by decide +kernel
theorem dX8_init_61 : decode cX8_init 61 = .ok (.newarray .int, 2) := by decide +kernel
theorem dX8_init_63 : decode cX8_init 63 = .ok (.putfield 32, 3) := by decide +kernel
theorem dX8_init_66 : decode cX8_init 66 = .ok (.aload_n 0, 1) := by decide +kernel
theorem dX8_init_67 : decode cX8_init 67 = .ok (.bipush 36, 2) := by decide +kernel
theorem dX8_init_69 : decode cX8_init 69 = .ok (.newarray .int, 2) := by decide +kernel
theorem dX8_init_71 : decode cX8_init 71 = .ok (.putfield 35, 3) := by decide +kernel
theorem dX8_init_74 : decode cX8_init 74 = .ok (.aload_n 0, 1) := by decide +kernel
theorem dX8_init_75 : decode cX8_init 75 = .ok (.bipush 51, 2) := by decide +kernel
theorem dX8_init_77 : decode cX8_init 77 = .ok (.newarray .int, 2) := by decide +kernel
theorem dX8_init_79 : decode cX8_init 79 = .ok (.putfield 38, 3) := by decide +kernel
theorem dX8_init_82 : decode cX8_init 82 = .ok (.aload_n 0, 1) := by decide +kernel
theorem dX8_init_83 : decode cX8_init 83 = .ok (.sipush 1530, 3) := by decide +kernel
theorem dX8_init_86 : decode cX8_init 86 = .ok (.newarray .int, 2) := by decide +kernel
theorem dX8_init_88 : decode cX8_init 88 = .ok (.putfield 41, 3) := by decide +kernel
theorem dX8_init_91 : decode cX8_init 91 = .ok (.aload_n 0, 1) := by decide +kernel
theorem dX8_init_92 : decode cX8_init 92 = .ok (.bipush 102, 2) := by decide +kernel
theorem dX8_init_94 : decode cX8_init 94 = .ok (.newarray .int, 2) := by decide +kernel
theorem dX8_init_96 : decode cX8_init 96 = .ok (.putfield 44, 3) := by decide +kernel
theorem dX8_init_99 : decode cX8_init 99 = .ok (.aload_n 0, 1) := by decide +kernel
theorem dX8_init_100 : decode cX8_init 100 = .ok (.iconst 2, 1) := by decide +kernel
theorem dX8_init_101 : decode cX8_init 101 = .ok (.newarray .long, 2) := by decide +kernel
theorem dX8_init_103 : decode cX8_init 103 = .ok (.putfield 47, 3) := by decide +kernel
theorem dX8_init_106 : decode cX8_init 106 = .ok (.aload_n 0, 1) := by decide +kernel
theorem dX8_init_107 : decode cX8_init 107 = .ok (.iconst 2, 1) := by decide +kernel
theorem dX8_init_108 : decode cX8_init 108 = .ok (.newarray .boolean, 2) := by decide +kernel
theorem dX8_init_110 : decode cX8_init 110 = .ok (.putfield 51, 3) := by decide +kernel
theorem dX8_init_113 : decode cX8_init 113 = .ok (.aload_n 0, 1) := by decide +kernel
theorem dX8_init_114 : decode cX8_init 114 = .ok (.bipush 12, 2) := by decide +kernel
theorem dX8_init_116 : decode cX8_init 116 = .ok (.newarray .int, 2) := by decide +kernel
theorem dX8_init_118 : decode cX8_init 118 = .ok (.putfield 55, 3) := by decide +kernel
theorem dX8_init_121 : decode cX8_init 121 = .ok (.aload_n 0, 1) := by decide +kernel
theorem dX8_init_122 : decode cX8_init 122 = .ok (.bipush 40, 2) := by decide +kernel
theorem dX8_init_124 : decode cX8_init 124 = .ok (.newarray .int, 2) := by decide +kernel
theorem dX8_init_126 : decode cX8_init 126 = .ok (.putfield 58, 3) := by decide +kernel
theorem dX8_init_129 : decode cX8_init 129 = .ok (.aload_n 0, 1) := by decide +kernel
theorem dX8_init_130 : decode cX8_init 130 = .ok (.bipush 8, 2) := by decide +kernel
theorem dX8_init_132 : decode cX8_init 132 = .ok (.newarray .int, 2) := by decide +kernel
theorem dX8_init_134 : decode cX8_init 134 = .ok (.putfield 61, 3) := by decide +kernel
theorem dX8_init_137 : decode cX8_init 137 = .ok (.aload_n 0, 1) := by decide +kernel
theorem dX8_init_138 : decode cX8_init 138 = .ok (.bipush 8, 2) := by decide +kernel
theorem dX8_init_140 : decode cX8_init 140 = .ok (.newarray .int, 2) := by decide +kernel
theorem dX8_init_142 : decode cX8_init 142 = .ok (.putfield 64, 3) := by decide +kernel
theorem dX8_init_145 : decode cX8_init 145 = .ok (.aload_n 0, 1) := by decide +kernel
theorem dX8_init_146 : decode cX8_init 146 = .ok (.bipush 8, 2) := by decide +kernel
theorem dX8_init_148 : decode cX8_init 148 = .ok (.newarray .int, 2) := by decide +kernel
theorem dX8_init_150 : decode cX8_init 150 = .ok (.putfield 67, 3) := by decide +kernel
theorem dX8_init_153 : decode cX8_init 153 = .ok (.aload_n 0, 1) := by decide +kernel
theorem dX8_init_154 : decode cX8_init 154 = .ok (.bipush 6, 2) := by decide +kernel
theorem dX8_init_156 : decode cX8_init 156 = .ok (.newarray .int, 2) := by decide +kernel
theorem dX8_init_158 : decode cX8_init 158 = .ok (.putfield 70, 3) := by decide +kernel
theorem dX8_init_161 : decode cX8_init 161 = .ok (.aload_n 0, 1) := by decide +kernel
theorem dX8_init_162 : decode cX8_init 162 = .ok (.bipush 6, 2) := by decide +kernel
theorem dX8_init_164 : decode cX8_init 164 = .ok (.newarray .int, 2) := by decide +kernel
theorem dX8_init_166 : decode cX8_init 166 = .ok (.putfield 73, 3) := by decide +kernel
theorem dX8_init_169 : decode cX8_init 169 = .ok (.aload_n 0, 1) := by decide +kernel
theorem dX8_init_170 : decode cX8_init 170 = .ok (.bipush 51, 2) := by decide +kernel
theorem dX8_init_172 : decode cX8_init 172 = .ok (.newarray .int, 2) := by decide +kernel
theorem dX8_init_174 : decode cX8_init 174 = .ok (.putfield 76, 3) := by decide +kernel
theorem dX8_init_177 : decode cX8_init 177 = .ok (.aload_n 0, 1) := by decide +kernel
theorem dX8_init_178 : decode cX8_init 178 = .ok (.sipush 8064, 3) := by decide +kernel
theorem dX8_init_181 : decode cX8_init 181 = .ok (.newarray .int, 2) := by decide +kernel
theorem dX8_init_183 : decode cX8_init 183 = .ok (.putfield 79, 3) := by decide +kernel
theorem dX8_init_186 : decode cX8_init 186 = .ok (.return_, 1) := by decide +kernel
theorem dX8_in_0 : decode cX8_in 0 = .ok (.iload_n 0, 1) := by decide +kernel
theorem dX8_in_1 : decode cX8_in 1 = .ok (.iload_n 1, 1) := by decide +kernel
theorem dX8_in_2 : decode cX8_in 2 = .ok (.if_icmp .lt 12, 3) := by decide +kernel
theorem dX8_in_5 : decode cX8_in 5 = .ok (.iload_n 0, 1) := by decide +kernel
theorem dX8_in_6 : decode cX8_in 6 = .ok (.iload_n 2, 1) := by decide +kernel
theorem dX8_in_7 : decode cX8_in 7 = .ok (.if_icmp .gt 7, 3) := by decide +kernel
theorem dX8_in_10 : decode cX8_in 10 = .ok (.iconst 1, 1) := by decide +kernel
theorem dX8_in_11 : decode cX8_in 11 = .ok (.goto 4, 3) := by decide +kernel
theorem dX8_in_14 : decode cX8_in 14 = .ok (.iconst 0, 1) := by decide +kernel
theorem dX8_in_15 : decode cX8_in 15 = .ok (.ireturn, 1) := by decide +kernel
theorem dX8_has_0 : decode cX8_has 0 = .ok (.iload_n 0, 1) := by decide +kernel
theorem dX8_has_1 : decode cX8_has 1 = .ok (.iload_n 1, 1) := by decide +kernel
theorem dX8_has_2 : decode cX8_has 2 = .ok (.ishr, 1) := by decide +kernel
theorem dX8_has_3 : decode cX8_has 3 = .ok (.iconst 1, 1) := by decide +kernel
theorem dX8_has_4 : decode cX8_has 4 = .ok (.iand, 1) := by decide +kernel
theorem dX8_has_5 : decode cX8_has 5 = .ok (.iconst 1, 1) := by decide +kernel
theorem dX8_has_6 : decode cX8_has 6 = .ok (.if_icmp .ne 7, 3) := by decide +kernel
theorem dX8_has_9 : decode cX8_has 9 = .ok (.iconst 1, 1) := by decide +kernel
theorem dX8_has_10 : decode cX8_has 10 = .ok (.goto 4, 3) := by decide +kernel
theorem dX8_has_13 : decode cX8_has 13 = .ok (.iconst 0, 1) := by decide +kernel
theorem dX8_has_14 : decode cX8_has 14 = .ok (.ireturn, 1) := by decide +kernel
theorem dX8_bits_0 : decode cX8_bits 0 = .ok (.iconst 0, 1) := by decide +kernel
theorem dX8_bits_1 : decode cX8_bits 1 = .ok (.istore_n 1, 1) := by decide +kernel
theorem dX8_bits_2 : decode cX8_bits 2 = .ok (.iload_n 0, 1) := by decide +kernel
theorem dX8_bits_3 : decode cX8_bits 3 = .ok (.istore_n 2, 1) := by decide +kernel
theorem dX8_bits_4 : decode cX8_bits 4 = .ok (.iload_n 2, 1) := by decide +kernel
theorem dX8_bits_5 : decode cX8_bits 5 = .ok (.ifCond .eq 15, 3) := by decide +kernel
theorem dX8_bits_8 : decode cX8_bits 8 = .ok (.iinc 1 1, 3) := by decide +kernel
theorem dX8_bits_11 : decode cX8_bits 11 = .ok (.iload_n 2, 1) := by decide +kernel
theorem dX8_bits_12 : decode cX8_bits 12 = .ok (.iload_n 2, 1) := by decide +kernel
theorem dX8_bits_13 : decode cX8_bits 13 = .ok (.iconst 1, 1) := by decide +kernel
theorem dX8_bits_14 : decode cX8_bits 14 = .ok (.isub, 1) := by decide +kernel
theorem dX8_bits_15 : decode cX8_bits 15 = .ok (.iand, 1) := by decide +kernel
theorem dX8_bits_16 : decode cX8_bits 16 = .ok (.istore_n 2, 1) := by decide +kernel
theorem dX8_bits_17 : decode cX8_bits 17 = .ok (.goto (-13), 3) := by decide +kernel
theorem dX8_bits_20 : decode cX8_bits 20 = .ok (.iload_n 1, 1) := by decide +kernel
theorem dX8_bits_21 : decode cX8_bits 21 = .ok (.ireturn, 1) := by decide +kernel
theorem dX8_bring_0 : decode cX8_bring 0 = .ok (.iconst 0, 1) := by decide +kernel
theorem dX8_bring_1 : decode cX8_bring 1 = .ok (.istore 5, 2) := by decide +kernel
theorem dX8_bring_3 : decode cX8_bring 3 = .ok (.iload 5, 2) := by decide +kernel
theorem dX8_bring_5 : decode cX8_bring 5 = .ok (.iload 4, 2) := by decide +kernel
theorem dX8_bring_7 : decode cX8_bring 7 = .ok (.if_icmp .ge 21, 3) := by decide +kernel
theorem dX8_bring_10 : decode cX8_bring 10 = .ok (.aload_n 2, 1) := by decide +kernel
theorem dX8_bring_11 : decode cX8_bring 11 = .ok (.iload_n 3, 1) := by decide +kernel
theorem dX8_bring_12 : decode cX8_bring 12 = .ok (.iload 5, 2) := by decide +kernel
theorem dX8_bring_14 : decode cX8_bring 14 = .ok (.iadd, 1) := by decide +kernel
theorem dX8_bring_15 : decode cX8_bring 15 = .ok (.aload_n 0, 1) := by decide +kernel
theorem dX8_bring_16 : decode cX8_bring 16 = .ok (.iload_n 1, 1) := by decide +kernel
theorem dX8_bring_17 : decode cX8_bring 17 = .ok (.iload 5, 2) := by decide +kernel
theorem dX8_bring_19 : decode cX8_bring 19 = .ok (.iadd, 1) := by decide +kernel
theorem dX8_bring_20 : decode cX8_bring 20 = .ok (.iaload, 1) := by decide +kernel
theorem dX8_bring_21 : decode cX8_bring 21 = .ok (.iastore, 1) := by decide +kernel
theorem dX8_bring_22 : decode cX8_bring 22 = .ok (.iinc 5 1, 3) := by decide +kernel
theorem dX8_bring_25 : decode cX8_bring 25 = .ok (.goto (-22), 3) := by decide +kernel
theorem dX8_bring_28 : decode cX8_bring 28 = .ok (.return_, 1) := by decide +kernel
theorem dX8_isRoom_0 : decode cX8_isRoom 0 = .ok (.iload_n 1, 1) := by decide +kernel
theorem dX8_isRoom_1 : decode cX8_isRoom 1 = .ok (.iconst 0, 1) := by decide +kernel
theorem dX8_isRoom_2 : decode cX8_isRoom 2 = .ok (.aload_n 0, 1) := by decide +kernel
theorem dX8_isRoom_3 : decode cX8_isRoom 3 = .ok (.getfield 82, 3) := by decide +kernel
theorem dX8_isRoom_6 : decode cX8_isRoom 6 = .ok (.iconst 1, 1) := by decide +kernel
theorem dX8_isRoom_7 : decode cX8_isRoom 7 = .ok (.isub, 1) := by decide +kernel
theorem dX8_isRoom_8 : decode cX8_isRoom 8 = .ok (.invokestatic 85, 3) := by decide +kernel
theorem dX8_isRoom_11 : decode cX8_isRoom 11 = .ok (.ireturn, 1) := by decide +kernel
theorem dX8_isHeir_0 : decode cX8_isHeir 0 = .ok (.iload_n 1, 1) := by decide +kernel
theorem dX8_isHeir_1 : decode cX8_isHeir 1 = .ok (.iconst 0, 1) := by decide +kernel
theorem dX8_isHeir_2 : decode cX8_isHeir 2 = .ok (.aload_n 0, 1) := by decide +kernel
theorem dX8_isHeir_3 : decode cX8_isHeir 3 = .ok (.getfield 89, 3) := by decide +kernel
theorem dX8_isHeir_6 : decode cX8_isHeir 6 = .ok (.iconst 1, 1) := by decide +kernel
theorem dX8_isHeir_7 : decode cX8_isHeir 7 = .ok (.isub, 1) := by decide +kernel
theorem dX8_isHeir_8 : decode cX8_isHeir 8 = .ok (.invokestatic 85, 3) := by decide +kernel
theorem dX8_isHeir_11 : decode cX8_isHeir 11 = .ok (.ireturn, 1) := by decide +kernel
theorem dX8_isDoor_0 : decode cX8_isDoor 0 = .ok (.iload_n 1, 1) := by decide +kernel
theorem dX8_isDoor_1 : decode cX8_isDoor 1 = .ok (.iconst 0, 1) := by decide +kernel
theorem dX8_isDoor_2 : decode cX8_isDoor 2 = .ok (.aload_n 0, 1) := by decide +kernel
theorem dX8_isDoor_3 : decode cX8_isDoor 3 = .ok (.getfield 92, 3) := by decide +kernel
theorem dX8_isDoor_6 : decode cX8_isDoor 6 = .ok (.iconst 1, 1) := by decide +kernel
theorem dX8_isDoor_7 : decode cX8_isDoor 7 = .ok (.isub, 1) := by decide +kernel
theorem dX8_isDoor_8 : decode cX8_isDoor 8 = .ok (.invokestatic 85, 3) := by decide +kernel
theorem dX8_isDoor_11 : decode cX8_isDoor 11 = .ok (.ireturn, 1) := by decide +kernel
theorem dX8_feed_0 : decode cX8_feed 0 = .ok (.iload_n 1, 1) := by decide +kernel
theorem dX8_feed_1 : decode cX8_feed 1 = .ok (.iconst 0, 1) := by decide +kernel
theorem dX8_feed_2 : decode cX8_feed 2 = .ok (.sipush 255, 3) := by decide +kernel
theorem dX8_feed_5 : decode cX8_feed 5 = .ok (.invokestatic 85, 3) := by decide +kernel
theorem dX8_feed_8 : decode cX8_feed 8 = .ok (.ifCond .ne 6, 3) := by decide +kernel
theorem dX8_feed_11 : decode cX8_feed 11 = .ok (.ldc 95, 2) := by decide +kernel
theorem dX8_feed_13 : decode cX8_feed 13 = .ok (.ireturn, 1) := by decide +kernel
theorem dX8_feed_14 : decode cX8_feed 14 = .ok (.aload_n 0, 1) := by decide +kernel
theorem dX8_feed_15 : decode cX8_feed 15 = .ok (.getfield 96, 3) := by decide +kernel
theorem dX8_feed_18 : decode cX8_feed 18 = .ok (.sipush 240, 3) := by decide +kernel
theorem dX8_feed_21 : decode cX8_feed 21 = .ok (.if_icmp .ne 6, 3) := by decide +kernel
theorem dX8_feed_24 : decode cX8_feed 24 = .ok (.ldc 99, 2) := by decide +kernel
theorem dX8_feed_26 : decode cX8_feed 26 = .ok (.ireturn, 1) := by decide +kernel
theorem dX8_feed_27 : decode cX8_feed 27 = .ok (.aload_n 0, 1) := by decide +kernel
theorem dX8_feed_28 : decode cX8_feed 28 = .ok (.getfield 7, 3) := by decide +kernel
theorem dX8_feed_31 : decode cX8_feed 31 = .ok (.aload_n 0, 1) := by decide +kernel
theorem dX8_feed_32 : decode cX8_feed 32 = .ok (.getfield 96, 3) := by decide +kernel
theorem dX8_feed_35 : decode cX8_feed 35 = .ok (.iload_n 1, 1) := by decide +kernel
theorem dX8_feed_36 : decode cX8_feed 36 = .ok (.iastore, 1) := by decide +kernel
theorem dX8_feed_37 : decode cX8_feed 37 = .ok (.aload_n 0, 1) := by decide +kernel
theorem dX8_feed_38 : decode cX8_feed 38 = .ok (.dup, 1) := by decide +kernel
theorem dX8_feed_39 : decode cX8_feed 39 = .ok (.getfield 96, 3) := by decide +kernel
theorem dX8_feed_42 : decode cX8_feed 42 = .ok (.iconst 1, 1) := by decide +kernel
theorem dX8_feed_43 : decode cX8_feed 43 = .ok (.iadd, 1) := by decide +kernel
theorem dX8_feed_44 : decode cX8_feed 44 = .ok (.putfield 96, 3) := by decide +kernel
theorem dX8_feed_47 : decode cX8_feed 47 = .ok (.aload_n 0, 1) := by decide +kernel
theorem dX8_feed_48 : decode cX8_feed 48 = .ok (.getfield 96, 3) := by decide +kernel
theorem dX8_feed_51 : decode cX8_feed 51 = .ok (.ireturn, 1) := by decide +kernel
theorem dX8_here_0 : decode cX8_here 0 = .ok (.aload_n 0, 1) := by decide +kernel
theorem dX8_here_1 : decode cX8_here 1 = .ok (.getfield 100, 3) := by decide +kernel
theorem dX8_here_4 : decode cX8_here 4 = .ok (.aload_n 0, 1) := by decide +kernel
theorem dX8_here_5 : decode cX8_here 5 = .ok (.getfield 96, 3) := by decide +kernel
theorem dX8_here_8 : decode cX8_here 8 = .ok (.if_icmp .ge 15, 3) := by decide +kernel
theorem dX8_here_11 : decode cX8_here 11 = .ok (.aload_n 0, 1) := by decide +kernel
theorem dX8_here_12 : decode cX8_here 12 = .ok (.getfield 7, 3) := by decide +kernel
theorem dX8_here_15 : decode cX8_here 15 = .ok (.aload_n 0, 1) := by decide +kernel
theorem dX8_here_16 : decode cX8_here 16 = .ok (.getfield 100, 3) := by decide +kernel
theorem dX8_here_19 : decode cX8_here 19 = .ok (.iaload, 1) := by decide +kernel
theorem dX8_here_20 : decode cX8_here 20 = .ok (.goto 4, 3) := by decide +kernel
theorem dX8_here_23 : decode cX8_here 23 = .ok (.iconst (-1), 1) := by decide +kernel
theorem dX8_here_24 : decode cX8_here 24 = .ok (.ireturn, 1) := by decide +kernel
theorem dX8_skips_0 : decode cX8_skips 0 = .ok (.aload_n 0, 1) := by decide +kernel
theorem dX8_skips_1 : decode cX8_skips 1 = .ok (.invokevirtual 103, 3) := by decide +kernel
theorem dX8_skips_4 : decode cX8_skips 4 = .ok (.bipush 32, 2) := by decide +kernel
theorem dX8_skips_6 : decode cX8_skips 6 = .ok (.if_icmp .ne 16, 3) := by decide +kernel
theorem dX8_skips_9 : decode cX8_skips 9 = .ok (.aload_n 0, 1) := by decide +kernel
theorem dX8_skips_10 : decode cX8_skips 10 = .ok (.dup, 1) := by decide +kernel
theorem dX8_skips_11 : decode cX8_skips 11 = .ok (.getfield 100, 3) := by decide +kernel
theorem dX8_skips_14 : decode cX8_skips 14 = .ok (.iconst 1, 1) := by decide +kernel
theorem dX8_skips_15 : decode cX8_skips 15 = .ok (.iadd, 1) := by decide +kernel
theorem dX8_skips_16 : decode cX8_skips 16 = .ok (.putfield 100, 3) := by decide +kernel
theorem dX8_skips_19 : decode cX8_skips 19 = .ok (.goto (-19), 3) := by decide +kernel
theorem dX8_skips_22 : decode cX8_skips 22 = .ok (.return_, 1) := by decide +kernel
theorem dX8_fails_0 : decode cX8_fails 0 = .ok (.aload_n 0, 1) := by decide +kernel
theorem dX8_fails_1 : decode cX8_fails 1 = .ok (.getfield 107, 3) := by decide +kernel
theorem dX8_fails_4 : decode cX8_fails 4 = .ok (.ifCond .ne 16, 3) := by decide +kernel
theorem dX8_fails_7 : decode cX8_fails 7 = .ok (.aload_n 0, 1) := by decide +kernel
theorem dX8_fails_8 : decode cX8_fails 8 = .ok (.iload_n 1, 1) := by decide +kernel
theorem dX8_fails_9 : decode cX8_fails 9 = .ok (.putfield 107, 3) := by decide +kernel
theorem dX8_fails_12 : decode cX8_fails 12 = .ok (.aload_n 0, 1) := by decide +kernel
theorem dX8_fails_13 : decode cX8_fails 13 = .ok (.aload_n 0, 1) := by decide +kernel
theorem dX8_fails_14 : decode cX8_fails 14 = .ok (.getfield 100, 3) := by decide +kernel
theorem dX8_fails_17 : decode cX8_fails 17 = .ok (.putfield 110, 3) := by decide +kernel
theorem dX8_fails_20 : decode cX8_fails 20 = .ok (.return_, 1) := by decide +kernel
theorem dX8_number_0 : decode cX8_number 0 = .ok (.aload_n 0, 1) := by decide +kernel
theorem dX8_number_1 : decode cX8_number 1 = .ok (.getfield 107, 3) := by decide +kernel
theorem dX8_number_4 : decode cX8_number 4 = .ok (.ifCond .eq 5, 3) := by decide +kernel
theorem dX8_number_7 : decode cX8_number 7 = .ok (.iconst 0, 1) := by decide +kernel
theorem dX8_number_8 : decode cX8_number 8 = .ok (.ireturn, 1) := by decide +kernel
theorem dX8_number_9 : decode cX8_number 9 = .ok (.aload_n 0, 1) := by decide +kernel
theorem dX8_number_10 : decode cX8_number 10 = .ok (.invokevirtual 113, 3) := by decide +kernel
theorem dX8_number_13 : decode cX8_number 13 = .ok (.iconst 0, 1) := by decide +kernel
theorem dX8_number_14 : decode cX8_number 14 = .ok (.istore 4, 2) := by decide +kernel
theorem dX8_number_16 : decode cX8_number 16 = .ok (.iconst 0, 1) := by decide +kernel
theorem dX8_number_17 : decode cX8_number 17 = .ok (.istore 5, 2) := by decide +kernel
theorem dX8_number_19 : decode cX8_number 19 = .ok (.aload_n 0, 1) := by decide +kernel
theorem dX8_number_20 : decode cX8_number 20 = .ok (.getfield 100, 3) := by decide +kernel
theorem dX8_number_23 : decode cX8_number 23 = .ok (.iload 4, 2) := by decide +kernel
theorem dX8_number_25 : decode cX8_number 25 = .ok (.iadd, 1) := by decide +kernel
theorem dX8_number_26 : decode cX8_number 26 = .ok (.aload_n 0, 1) := by decide +kernel
theorem dX8_number_27 : decode cX8_number 27 = .ok (.getfield 96, 3) := by decide +kernel
theorem dX8_number_30 : decode cX8_number 30 = .ok (.if_icmp .ge 65, 3) := by decide +kernel
theorem dX8_number_33 : decode cX8_number 33 = .ok (.aload_n 0, 1) := by decide +kernel
theorem dX8_number_34 : decode cX8_number 34 = .ok (.getfield 7, 3) := by decide +kernel
theorem dX8_number_37 : decode cX8_number 37 = .ok (.aload_n 0, 1) := by decide +kernel
theorem dX8_number_38 : decode cX8_number 38 = .ok (.getfield 100, 3) := by decide +kernel
theorem dX8_number_41 : decode cX8_number 41 = .ok (.iload 4, 2) := by decide +kernel
theorem dX8_number_43 : decode cX8_number 43 = .ok (.iadd, 1) := by decide +kernel
theorem dX8_number_44 : decode cX8_number 44 = .ok (.iaload, 1) := by decide +kernel
theorem dX8_number_45 : decode cX8_number 45 = .ok (.bipush 48, 2) := by decide +kernel
theorem dX8_number_47 : decode cX8_number 47 = .ok (.bipush 57, 2) := by decide +kernel
theorem dX8_number_49 : decode cX8_number 49 = .ok (.invokestatic 85, 3) := by decide +kernel
theorem dX8_number_52 : decode cX8_number 52 = .ok (.ifCond .eq 43, 3) := by decide +kernel
theorem dX8_number_55 : decode cX8_number 55 = .ok (.iload 4, 2) := by decide +kernel
theorem dX8_number_57 : decode cX8_number 57 = .ok (.iconst 4, 1) := by decide +kernel
theorem dX8_number_58 : decode cX8_number 58 = .ok (.if_icmp .ge 27, 3) := by decide +kernel
theorem dX8_number_61 : decode cX8_number 61 = .ok (.bipush 10, 2) := by decide +kernel
theorem dX8_number_63 : decode cX8_number 63 = .ok (.iload 5, 2) := by decide +kernel
theorem dX8_number_65 : decode cX8_number 65 = .ok (.imul, 1) := by decide +kernel
theorem dX8_number_66 : decode cX8_number 66 = .ok (.aload_n 0, 1) := by decide +kernel
theorem dX8_number_67 : decode cX8_number 67 = .ok (.getfield 7, 3) := by decide +kernel
theorem dX8_number_70 : decode cX8_number 70 = .ok (.aload_n 0, 1) := by decide +kernel
theorem dX8_number_71 : decode cX8_number 71 = .ok (.getfield 100, 3) := by decide +kernel
theorem dX8_number_74 : decode cX8_number 74 = .ok (.iload 4, 2) := by decide +kernel
theorem dX8_number_76 : decode cX8_number 76 = .ok (.iadd, 1) := by decide +kernel
theorem dX8_number_77 : decode cX8_number 77 = .ok (.iaload, 1) := by decide +kernel
theorem dX8_number_78 : decode cX8_number 78 = .ok (.iadd, 1) := by decide +kernel
theorem dX8_number_79 : decode cX8_number 79 = .ok (.bipush 48, 2) := by decide +kernel
theorem dX8_number_81 : decode cX8_number 81 = .ok (.isub, 1) := by decide +kernel
theorem dX8_number_82 : decode cX8_number 82 = .ok (.goto 5, 3) := by decide +kernel
theorem dX8_number_85 : decode cX8_number 85 = .ok (.iload 5, 2) := by decide +kernel
theorem dX8_number_87 : decode cX8_number 87 = .ok (.istore 5, 2) := by decide +kernel
theorem dX8_number_89 : decode cX8_number 89 = .ok (.iinc 4 1, 3) := by decide +kernel
theorem dX8_number_92 : decode cX8_number 92 = .ok (.goto (-73), 3) := by decide +kernel
theorem dX8_number_95 : decode cX8_number 95 = .ok (.iload 4, 2) := by decide +kernel
theorem dX8_number_97 : decode cX8_number 97 = .ok (.ifCond .ne 11, 3) := by decide +kernel
theorem dX8_number_100 : decode cX8_number 100 = .ok (.aload_n 0, 1) := by decide +kernel
theorem dX8_number_101 : decode cX8_number 101 = .ok (.iconst 1, 1) := by decide +kernel
theorem dX8_number_102 : decode cX8_number 102 = .ok (.invokevirtual 116, 3) := by decide +kernel
theorem dX8_number_105 : decode cX8_number 105 = .ok (.goto 38, 3) := by decide +kernel
theorem dX8_number_108 : decode cX8_number 108 = .ok (.iload 4, 2) := by decide +kernel
theorem dX8_number_110 : decode cX8_number 110 = .ok (.iconst 3, 1) := by decide +kernel
theorem dX8_number_111 : decode cX8_number 111 = .ok (.if_icmp .gt 13, 3) := by decide +kernel
theorem dX8_number_114 : decode cX8_number 114 = .ok (.iload 5, 2) := by decide +kernel
theorem dX8_number_116 : decode cX8_number 116 = .ok (.iload_n 1, 1) := by decide +kernel
theorem dX8_number_117 : decode cX8_number 117 = .ok (.iload_n 2, 1) := by decide +kernel
theorem dX8_number_118 : decode cX8_number 118 = .ok (.invokestatic 85, 3) := by decide +kernel
theorem dX8_number_121 : decode cX8_number 121 = .ok (.ifCond .ne 11, 3) := by decide +kernel
theorem dX8_number_124 : decode cX8_number 124 = .ok (.aload_n 0, 1) := by decide +kernel
theorem dX8_number_125 : decode cX8_number 125 = .ok (.iconst 2, 1) := by decide +kernel
theorem dX8_number_126 : decode cX8_number 126 = .ok (.invokevirtual 116, 3) := by decide +kernel
theorem dX8_number_129 : decode cX8_number 129 = .ok (.goto 14, 3) := by decide +kernel
theorem dX8_number_132 : decode cX8_number 132 = .ok (.iload 5, 2) := by decide +kernel
theorem dX8_number_134 : decode cX8_number 134 = .ok (.iload_n 3, 1) := by decide +kernel
theorem dX8_number_135 : decode cX8_number 135 = .ok (.if_icmp .ne 8, 3) := by decide +kernel
theorem dX8_number_138 : decode cX8_number 138 = .ok (.aload_n 0, 1) := by decide +kernel
theorem dX8_number_139 : decode cX8_number 139 = .ok (.iconst 4, 1) := by decide +kernel
theorem dX8_number_140 : decode cX8_number 140 = .ok (.invokevirtual 116, 3) := by decide +kernel
theorem dX8_number_143 : decode cX8_number 143 = .ok (.aload_n 0, 1) := by decide +kernel
theorem dX8_number_144 : decode cX8_number 144 = .ok (.dup, 1) := by decide +kernel
theorem dX8_number_145 : decode cX8_number 145 = .ok (.getfield 100, 3) := by decide +kernel
theorem dX8_number_148 : decode cX8_number 148 = .ok (.iload 4, 2) := by decide +kernel
theorem dX8_number_150 : decode cX8_number 150 = .ok (.iadd, 1) := by decide +kernel
theorem dX8_number_151 : decode cX8_number 151 = .ok (.putfield 100, 3) := by decide +kernel
theorem dX8_number_154 : decode cX8_number 154 = .ok (.aload_n 0, 1) := by decide +kernel
theorem dX8_number_155 : decode cX8_number 155 = .ok (.getfield 107, 3) := by decide +kernel
theorem dX8_number_158 : decode cX8_number 158 = .ok (.ifCond .eq 7, 3) := by decide +kernel
theorem dX8_number_161 : decode cX8_number 161 = .ok (.iconst 0, 1) := by decide +kernel
theorem dX8_number_162 : decode cX8_number 162 = .ok (.goto 5, 3) := by decide +kernel
theorem dX8_number_165 : decode cX8_number 165 = .ok (.iload 5, 2) := by decide +kernel
theorem dX8_number_167 : decode cX8_number 167 = .ok (.ireturn, 1) := by decide +kernel
theorem dX8_ends_0 : decode cX8_ends 0 = .ok (.aload_n 0, 1) := by decide +kernel
theorem dX8_ends_1 : decode cX8_ends 1 = .ok (.getfield 107, 3) := by decide +kernel
theorem dX8_ends_4 : decode cX8_ends 4 = .ok (.ifCond .eq 4, 3) := by decide +kernel
theorem dX8_ends_7 : decode cX8_ends 7 = .ok (.return_, 1) := by decide +kernel
theorem dX8_ends_8 : decode cX8_ends 8 = .ok (.aload_n 0, 1) := by decide +kernel
theorem dX8_ends_9 : decode cX8_ends 9 = .ok (.invokevirtual 113, 3) := by decide +kernel
theorem dX8_ends_12 : decode cX8_ends 12 = .ok (.aload_n 0, 1) := by decide +kernel
theorem dX8_ends_13 : decode cX8_ends 13 = .ok (.invokevirtual 103, 3) := by decide +kernel
theorem dX8_ends_16 : decode cX8_ends 16 = .ok (.bipush 59, 2) := by decide +kernel
theorem dX8_ends_18 : decode cX8_ends 18 = .ok (.if_icmp .ne 16, 3) := by decide +kernel
theorem dX8_ends_21 : decode cX8_ends 21 = .ok (.aload_n 0, 1) := by decide +kernel
theorem dX8_ends_22 : decode cX8_ends 22 = .ok (.dup, 1) := by decide +kernel
theorem dX8_ends_23 : decode cX8_ends 23 = .ok (.getfield 100, 3) := by decide +kernel
theorem dX8_ends_26 : decode cX8_ends 26 = .ok (.iconst 1, 1) := by decide +kernel
theorem dX8_ends_27 : decode cX8_ends 27 = .ok (.iadd, 1) := by decide +kernel
theorem dX8_ends_28 : decode cX8_ends 28 = .ok (.putfield 100, 3) := by decide +kernel
theorem dX8_ends_31 : decode cX8_ends 31 = .ok (.goto 8, 3) := by decide +kernel
theorem dX8_ends_34 : decode cX8_ends 34 = .ok (.aload_n 0, 1) := by decide +kernel
theorem dX8_ends_35 : decode cX8_ends 35 = .ok (.iconst 1, 1) := by decide +kernel
theorem dX8_ends_36 : decode cX8_ends 36 = .ok (.invokevirtual 116, 3) := by decide +kernel
theorem dX8_ends_39 : decode cX8_ends 39 = .ok (.return_, 1) := by decide +kernel
theorem dX8_readRoom_0 : decode cX8_readRoom 0 = .ok (.aload_n 0, 1) := by decide +kernel
theorem dX8_readRoom_1 : decode cX8_readRoom 1 = .ok (.getfield 76, 3) := by decide +kernel
theorem dX8_readRoom_4 : decode cX8_readRoom 4 = .ok (.iconst 3, 1) := by decide +kernel
theorem dX8_readRoom_5 : decode cX8_readRoom 5 = .ok (.aload_n 0, 1) := by decide +kernel
theorem dX8_readRoom_6 : decode cX8_readRoom 6 = .ok (.getfield 120, 3) := by decide +kernel
theorem dX8_readRoom_9 : decode cX8_readRoom 9 = .ok (.iadd, 1) := by decide +kernel
theorem dX8_readRoom_10 : decode cX8_readRoom 10 = .ok (.aload_n 0, 1) := by decide +kernel
theorem dX8_readRoom_11 : decode cX8_readRoom 11 = .ok (.iconst 0, 1) := by decide +kernel
theorem dX8_readRoom_12 : decode cX8_readRoom 12 = .ok (.bipush 20, 2) := by decide +kernel
theorem dX8_readRoom_14 : decode cX8_readRoom 14 = .ok (.iconst (-1), 1) := by decide +kernel
theorem dX8_readRoom_15 : decode cX8_readRoom 15 = .ok (.invokevirtual 123, 3) := by decide +kernel
theorem dX8_readRoom_18 : decode cX8_readRoom 18 = .ok (.iastore, 1) := by decide +kernel
theorem dX8_readRoom_19 : decode cX8_readRoom 19 = .ok (.aload_n 0, 1) := by decide +kernel
theorem dX8_readRoom_20 : decode cX8_readRoom 20 = .ok (.dup, 1) := by decide +kernel
theorem dX8_readRoom_21 : decode cX8_readRoom 21 = .ok (.getfield 120, 3) := by decide +kernel
theorem dX8_readRoom_24 : decode cX8_readRoom 24 = .ok (.iconst 1, 1) := by decide +kernel
theorem dX8_readRoom_25 : decode cX8_readRoom 25 = .ok (.iadd, 1) := by decide +kernel
theorem dX8_readRoom_26 : decode cX8_readRoom 26 = .ok (.putfield 120, 3) := by decide +kernel
theorem dX8_readRoom_29 : decode cX8_readRoom 29 = .ok (.aload_n 0, 1) := by decide +kernel
theorem dX8_readRoom_30 : decode cX8_readRoom 30 = .ok (.invokevirtual 127, 3) := by decide +kernel
theorem dX8_readRoom_33 : decode cX8_readRoom 33 = .ok (.return_, 1) := by decide +kernel
theorem dX8_readDoor_0 : decode cX8_readDoor 0 = .ok (.aload_n 0, 1) := by decide +kernel
theorem dX8_readDoor_1 : decode cX8_readDoor 1 = .ok (.getfield 130, 3) := by decide +kernel
theorem dX8_readDoor_4 : decode cX8_readDoor 4 = .ok (.istore_n 1, 1) := by decide +kernel
theorem dX8_readDoor_5 : decode cX8_readDoor 5 = .ok (.aload_n 0, 1) := by decide +kernel
theorem dX8_readDoor_6 : decode cX8_readDoor 6 = .ok (.getfield 61, 3) := by decide +kernel
theorem dX8_readDoor_9 : decode cX8_readDoor 9 = .ok (.iload_n 1, 1) := by decide +kernel
theorem dX8_readDoor_10 : decode cX8_readDoor 10 = .ok (.aload_n 0, 1) := by decide +kernel
theorem dX8_readDoor_11 : decode cX8_readDoor 11 = .ok (.iconst 0, 1) := by decide +kernel
theorem dX8_readDoor_12 : decode cX8_readDoor 12 = .ok (.aload_n 0, 1) := by decide +kernel
theorem dX8_readDoor_13 : decode cX8_readDoor 13 = .ok (.getfield 120, 3) := by decide +kernel
theorem dX8_readDoor_16 : decode cX8_readDoor 16 = .ok (.iconst 1, 1) := by decide +kernel
theorem dX8_readDoor_17 : decode cX8_readDoor 17 = .ok (.isub, 1) := by decide +kernel
theorem dX8_readDoor_18 : decode cX8_readDoor 18 = .ok (.iconst (-1), 1) := by decide +kernel
theorem dX8_readDoor_19 : decode cX8_readDoor 19 = .ok (.invokevirtual 123, 3) := by decide +kernel
theorem dX8_readDoor_22 : decode cX8_readDoor 22 = .ok (.iastore, 1) := by decide +kernel
theorem dX8_readDoor_23 : decode cX8_readDoor 23 = .ok (.aload_n 0, 1) := by decide +kernel
theorem dX8_readDoor_24 : decode cX8_readDoor 24 = .ok (.getfield 64, 3) := by decide +kernel
theorem dX8_readDoor_27 : decode cX8_readDoor 27 = .ok (.iload_n 1, 1) := by decide +kernel
theorem dX8_readDoor_28 : decode cX8_readDoor 28 = .ok (.aload_n 0, 1) := by decide +kernel
theorem dX8_readDoor_29 : decode cX8_readDoor 29 = .ok (.iconst 0, 1) := by decide +kernel
theorem dX8_readDoor_30 : decode cX8_readDoor 30 = .ok (.aload_n 0, 1) := by decide +kernel
theorem dX8_readDoor_31 : decode cX8_readDoor 31 = .ok (.getfield 120, 3) := by decide +kernel
theorem dX8_readDoor_34 : decode cX8_readDoor 34 = .ok (.iconst 1, 1) := by decide +kernel
theorem dX8_readDoor_35 : decode cX8_readDoor 35 = .ok (.isub, 1) := by decide +kernel
theorem dX8_readDoor_36 : decode cX8_readDoor 36 = .ok (.aload_n 0, 1) := by decide +kernel
theorem dX8_readDoor_37 : decode cX8_readDoor 37 = .ok (.getfield 61, 3) := by decide +kernel
theorem dX8_readDoor_40 : decode cX8_readDoor 40 = .ok (.iload_n 1, 1) := by decide +kernel
theorem dX8_readDoor_41 : decode cX8_readDoor 41 = .ok (.iaload, 1) := by decide +kernel
theorem dX8_readDoor_42 : decode cX8_readDoor 42 = .ok (.invokevirtual 123, 3) := by decide +kernel
theorem dX8_readDoor_45 : decode cX8_readDoor 45 = .ok (.iastore, 1) := by decide +kernel
theorem dX8_readDoor_46 : decode cX8_readDoor 46 = .ok (.aload_n 0, 1) := by decide +kernel
theorem dX8_readDoor_47 : decode cX8_readDoor 47 = .ok (.getfield 67, 3) := by decide +kernel
theorem dX8_readDoor_50 : decode cX8_readDoor 50 = .ok (.iload_n 1, 1) := by decide +kernel
theorem dX8_readDoor_51 : decode cX8_readDoor 51 = .ok (.aload_n 0, 1) := by decide +kernel
theorem dX8_readDoor_52 : decode cX8_readDoor 52 = .ok (.iconst 0, 1) := by decide +kernel
theorem dX8_readDoor_53 : decode cX8_readDoor 53 = .ok (.bipush 9, 2) := by decide +kernel
theorem dX8_readDoor_55 : decode cX8_readDoor 55 = .ok (.iconst (-1), 1) := by decide +kernel
theorem dX8_readDoor_56 : decode cX8_readDoor 56 = .ok (.invokevirtual 123, 3) := by decide +kernel
theorem dX8_readDoor_59 : decode cX8_readDoor 59 = .ok (.iastore, 1) := by decide +kernel
theorem dX8_readDoor_60 : decode cX8_readDoor 60 = .ok (.aload_n 0, 1) := by decide +kernel
theorem dX8_readDoor_61 : decode cX8_readDoor 61 = .ok (.dup, 1) := by decide +kernel
theorem dX8_readDoor_62 : decode cX8_readDoor 62 = .ok (.getfield 130, 3) := by decide +kernel
theorem dX8_readDoor_65 : decode cX8_readDoor 65 = .ok (.iconst 1, 1) := by decide +kernel
theorem dX8_readDoor_66 : decode cX8_readDoor 66 = .ok (.iadd, 1) := by decide +kernel
theorem dX8_readDoor_67 : decode cX8_readDoor 67 = .ok (.putfield 130, 3) := by decide +kernel
theorem dX8_readDoor_70 : decode cX8_readDoor 70 = .ok (.aload_n 0, 1) := by decide +kernel
theorem dX8_readDoor_71 : decode cX8_readDoor 71 = .ok (.invokevirtual 127, 3) := by decide +kernel
theorem dX8_readDoor_74 : decode cX8_readDoor 74 = .ok (.return_, 1) := by decide +kernel
theorem dX8_readHeir_0 : decode cX8_readHeir 0 = .ok (.aload_n 0, 1) := by decide +kernel
theorem dX8_readHeir_1 : decode cX8_readHeir 1 = .ok (.getfield 133, 3) := by decide +kernel
theorem dX8_readHeir_4 : decode cX8_readHeir 4 = .ok (.istore_n 1, 1) := by decide +kernel
theorem dX8_readHeir_5 : decode cX8_readHeir 5 = .ok (.aload_n 0, 1) := by decide +kernel
theorem dX8_readHeir_6 : decode cX8_readHeir 6 = .ok (.getfield 70, 3) := by decide +kernel
theorem dX8_readHeir_9 : decode cX8_readHeir 9 = .ok (.iload_n 1, 1) := by decide +kernel
theorem dX8_readHeir_10 : decode cX8_readHeir 10 = .ok (.aload_n 0, 1) := by decide +kernel
theorem dX8_readHeir_11 : decode cX8_readHeir 11 = .ok (.iconst 0, 1) := by decide +kernel
theorem dX8_readHeir_12 : decode cX8_readHeir 12 = .ok (.iconst 4, 1) := by decide +kernel
theorem dX8_readHeir_13 : decode cX8_readHeir 13 = .ok (.iconst (-1), 1) := by decide +kernel
theorem dX8_readHeir_14 : decode cX8_readHeir 14 = .ok (.invokevirtual 123, 3) := by decide +kernel
theorem dX8_readHeir_17 : decode cX8_readHeir 17 = .ok (.iastore, 1) := by decide +kernel
theorem dX8_readHeir_18 : decode cX8_readHeir 18 = .ok (.aload_n 0, 1) := by decide +kernel
theorem dX8_readHeir_19 : decode cX8_readHeir 19 = .ok (.getfield 73, 3) := by decide +kernel
theorem dX8_readHeir_22 : decode cX8_readHeir 22 = .ok (.iload_n 1, 1) := by decide +kernel
theorem dX8_readHeir_23 : decode cX8_readHeir 23 = .ok (.aload_n 0, 1) := by decide +kernel
theorem dX8_readHeir_24 : decode cX8_readHeir 24 = .ok (.iconst 1, 1) := by decide +kernel
theorem dX8_readHeir_25 : decode cX8_readHeir 25 = .ok (.bipush 20, 2) := by decide +kernel
theorem dX8_readHeir_27 : decode cX8_readHeir 27 = .ok (.iconst (-1), 1) := by decide +kernel
theorem dX8_readHeir_28 : decode cX8_readHeir 28 = .ok (.invokevirtual 123, 3) := by decide +kernel
theorem dX8_readHeir_31 : decode cX8_readHeir 31 = .ok (.iastore, 1) := by decide +kernel
theorem dX8_readHeir_32 : decode cX8_readHeir 32 = .ok (.aload_n 0, 1) := by decide +kernel
theorem dX8_readHeir_33 : decode cX8_readHeir 33 = .ok (.getfield 76, 3) := by decide +kernel
theorem dX8_readHeir_36 : decode cX8_readHeir 36 = .ok (.bipush 45, 2) := by decide +kernel
theorem dX8_readHeir_38 : decode cX8_readHeir 38 = .ok (.iload_n 1, 1) := by decide +kernel
theorem dX8_readHeir_39 : decode cX8_readHeir 39 = .ok (.iadd, 1) := by decide +kernel
theorem dX8_readHeir_40 : decode cX8_readHeir 40 = .ok (.aload_n 0, 1) := by decide +kernel
theorem dX8_readHeir_41 : decode cX8_readHeir 41 = .ok (.iconst 0, 1) := by decide +kernel
theorem dX8_readHeir_42 : decode cX8_readHeir 42 = .ok (.aload_n 0, 1) := by decide +kernel
theorem dX8_readHeir_43 : decode cX8_readHeir 43 = .ok (.getfield 120, 3) := by decide +kernel
theorem dX8_readHeir_46 : decode cX8_readHeir 46 = .ok (.iconst 1, 1) := by decide +kernel
theorem dX8_readHeir_47 : decode cX8_readHeir 47 = .ok (.isub, 1) := by decide +kernel
theorem dX8_readHeir_48 : decode cX8_readHeir 48 = .ok (.iconst (-1), 1) := by decide +kernel
theorem dX8_readHeir_49 : decode cX8_readHeir 49 = .ok (.invokevirtual 123, 3) := by decide +kernel
theorem dX8_readHeir_52 : decode cX8_readHeir 52 = .ok (.iastore, 1) := by decide +kernel
theorem dX8_readHeir_53 : decode cX8_readHeir 53 = .ok (.aload_n 0, 1) := by decide +kernel
theorem dX8_readHeir_54 : decode cX8_readHeir 54 = .ok (.dup, 1) := by decide +kernel
theorem dX8_readHeir_55 : decode cX8_readHeir 55 = .ok (.getfield 133, 3) := by decide +kernel
theorem dX8_readHeir_58 : decode cX8_readHeir 58 = .ok (.iconst 1, 1) := by decide +kernel
theorem dX8_readHeir_59 : decode cX8_readHeir 59 = .ok (.iadd, 1) := by decide +kernel
theorem dX8_readHeir_60 : decode cX8_readHeir 60 = .ok (.putfield 133, 3) := by decide +kernel
theorem dX8_readHeir_63 : decode cX8_readHeir 63 = .ok (.aload_n 0, 1) := by decide +kernel
theorem dX8_readHeir_64 : decode cX8_readHeir 64 = .ok (.invokevirtual 127, 3) := by decide +kernel
theorem dX8_readHeir_67 : decode cX8_readHeir 67 = .ok (.return_, 1) := by decide +kernel
theorem dX8_readClause_0 : decode cX8_readClause 0 = .ok (.aload_n 0, 1) := by decide +kernel
theorem dX8_readClause_1 : decode cX8_readClause 1 = .ok (.invokevirtual 103, 3) := by decide +kernel
theorem dX8_readClause_4 : decode cX8_readClause 4 = .ok (.istore_n 1, 1) := by decide +kernel
theorem dX8_readClause_5 : decode cX8_readClause 5 = .ok (.aload_n 0, 1) := by decide +kernel
theorem dX8_readClause_6 : decode cX8_readClause 6 = .ok (.getfield 136, 3) := by decide +kernel
theorem dX8_readClause_9 : decode cX8_readClause 9 = .ok (.ifCond .ne 7, 3) := by decide +kernel
theorem dX8_readClause_12 : decode cX8_readClause 12 = .ok (.iconst 1, 1) := by decide +kernel
theorem dX8_readClause_13 : decode cX8_readClause 13 = .ok (.goto 4, 3) := by decide +kernel
theorem dX8_readClause_16 : decode cX8_readClause 16 = .ok (.iconst 0, 1) := by decide +kernel
theorem dX8_readClause_17 : decode cX8_readClause 17 = .ok (.istore_n 2, 1) := by decide +kernel
theorem dX8_readClause_18 : decode cX8_readClause 18 = .ok (.iload_n 1, 1) := by decide +kernel
theorem dX8_readClause_19 : decode cX8_readClause 19 = .ok (.bipush 110, 2) := by decide +kernel
theorem dX8_readClause_21 : decode cX8_readClause 21 = .ok (.if_icmp .ne 36, 3) := by decide +kernel
theorem dX8_readClause_24 : decode cX8_readClause 24 = .ok (.iload_n 2, 1) := by decide +kernel
theorem dX8_readClause_25 : decode cX8_readClause 25 = .ok (.ifCond .eq 32, 3) := by decide +kernel
theorem dX8_readClause_28 : decode cX8_readClause 28 = .ok (.aload_n 0, 1) := by decide +kernel
theorem dX8_readClause_29 : decode cX8_readClause 29 = .ok (.dup, 1) := by decide +kernel
theorem dX8_readClause_30 : decode cX8_readClause 30 = .ok (.getfield 100, 3) := by decide +kernel
theorem dX8_readClause_33 : decode cX8_readClause 33 = .ok (.iconst 1, 1) := by decide +kernel
theorem dX8_readClause_34 : decode cX8_readClause 34 = .ok (.iadd, 1) := by decide +kernel
theorem dX8_readClause_35 : decode cX8_readClause 35 = .ok (.putfield 100, 3) := by decide +kernel
theorem dX8_readClause_38 : decode cX8_readClause 38 = .ok (.aload_n 0, 1) := by decide +kernel
theorem dX8_readClause_39 : decode cX8_readClause 39 = .ok (.aload_n 0, 1) := by decide +kernel
theorem dX8_readClause_40 : decode cX8_readClause 40 = .ok (.iconst 1, 1) := by decide +kernel
theorem dX8_readClause_41 : decode cX8_readClause 41 = .ok (.bipush 20, 2) := by decide +kernel
theorem dX8_readClause_43 : decode cX8_readClause 43 = .ok (.iconst (-1), 1) := by decide +kernel
theorem dX8_readClause_44 : decode cX8_readClause 44 = .ok (.invokevirtual 123, 3) := by decide +kernel
theorem dX8_readClause_47 : decode cX8_readClause 47 = .ok (.putfield 136, 3) := by decide +kernel
theorem dX8_readClause_50 : decode cX8_readClause 50 = .ok (.aload_n 0, 1) := by decide +kernel
theorem dX8_readClause_51 : decode cX8_readClause 51 = .ok (.invokevirtual 127, 3) := by decide +kernel
theorem dX8_readClause_54 : decode cX8_readClause 54 = .ok (.goto 138, 3) := by decide +kernel
theorem dX8_readClause_57 : decode cX8_readClause 57 = .ok (.iload_n 2, 1) := by decide +kernel
theorem dX8_readClause_58 : decode cX8_readClause 58 = .ok (.ifCond .ne 27, 3) := by decide +kernel
theorem dX8_readClause_61 : decode cX8_readClause 61 = .ok (.iload_n 1, 1) := by decide +kernel
theorem dX8_readClause_62 : decode cX8_readClause 62 = .ok (.bipush 110, 2) := by decide +kernel
theorem dX8_readClause_64 : decode cX8_readClause 64 = .ok (.if_icmp .eq 29, 3) := by decide +kernel
theorem dX8_readClause_67 : decode cX8_readClause 67 = .ok (.iload_n 1, 1) := by decide +kernel
theorem dX8_readClause_68 : decode cX8_readClause 68 = .ok (.bipush 114, 2) := by decide +kernel
theorem dX8_readClause_70 : decode cX8_readClause 70 = .ok (.if_icmp .eq 23, 3) := by decide +kernel
theorem dX8_readClause_73 : decode cX8_readClause 73 = .ok (.iload_n 1, 1) := by decide +kernel
theorem dX8_readClause_74 : decode cX8_readClause 74 = .ok (.bipush 100, 2) := by decide +kernel
theorem dX8_readClause_76 : decode cX8_readClause 76 = .ok (.if_icmp .eq 17, 3) := by decide +kernel
theorem dX8_readClause_79 : decode cX8_readClause 79 = .ok (.iload_n 1, 1) := by decide +kernel
theorem dX8_readClause_80 : decode cX8_readClause 80 = .ok (.bipush 112, 2) := by decide +kernel
theorem dX8_readClause_82 : decode cX8_readClause 82 = .ok (.if_icmp .eq 11, 3) := by decide +kernel
theorem dX8_readClause_85 : decode cX8_readClause 85 = .ok (.aload_n 0, 1) := by decide +kernel
theorem dX8_readClause_86 : decode cX8_readClause 86 = .ok (.iconst 1, 1) := by decide +kernel
theorem dX8_readClause_87 : decode cX8_readClause 87 = .ok (.invokevirtual 116, 3) := by decide +kernel
theorem dX8_readClause_90 : decode cX8_readClause 90 = .ok (.goto 102, 3) := by decide +kernel
theorem dX8_readClause_93 : decode cX8_readClause 93 = .ok (.iload_n 1, 1) := by decide +kernel
theorem dX8_readClause_94 : decode cX8_readClause 94 = .ok (.bipush 110, 2) := by decide +kernel
theorem dX8_readClause_96 : decode cX8_readClause 96 = .ok (.if_icmp .eq 48, 3) := by decide +kernel
theorem dX8_readClause_99 : decode cX8_readClause 99 = .ok (.iload_n 1, 1) := by decide +kernel
theorem dX8_readClause_100 : decode cX8_readClause 100 = .ok (.bipush 114, 2) := by decide +kernel
theorem dX8_readClause_102 : decode cX8_readClause 102 = .ok (.if_icmp .ne 12, 3) := by decide +kernel
theorem dX8_readClause_105 : decode cX8_readClause 105 = .ok (.aload_n 0, 1) := by decide +kernel
theorem dX8_readClause_106 : decode cX8_readClause 106 = .ok (.getfield 120, 3) := by decide +kernel
theorem dX8_readClause_109 : decode cX8_readClause 109 = .ok (.bipush 6, 2) := by decide +kernel
theorem dX8_readClause_111 : decode cX8_readClause 111 = .ok (.if_icmp .eq 33, 3) := by decide +kernel
theorem dX8_readClause_114 : decode cX8_readClause 114 = .ok (.iload_n 1, 1) := by decide +kernel
theorem dX8_readClause_115 : decode cX8_readClause 115 = .ok (.bipush 100, 2) := by decide +kernel
theorem dX8_readClause_117 : decode cX8_readClause 117 = .ok (.if_icmp .ne 12, 3) := by decide +kernel
theorem dX8_readClause_120 : decode cX8_readClause 120 = .ok (.aload_n 0, 1) := by decide +kernel
theorem dX8_readClause_121 : decode cX8_readClause 121 = .ok (.getfield 130, 3) := by decide +kernel
theorem dX8_readClause_124 : decode cX8_readClause 124 = .ok (.bipush 8, 2) := by decide +kernel
theorem dX8_readClause_126 : decode cX8_readClause 126 = .ok (.if_icmp .eq 18, 3) := by decide +kernel
theorem dX8_readClause_129 : decode cX8_readClause 129 = .ok (.iload_n 1, 1) := by decide +kernel
theorem dX8_readClause_130 : decode cX8_readClause 130 = .ok (.bipush 112, 2) := by decide +kernel
theorem dX8_readClause_132 : decode cX8_readClause 132 = .ok (.if_icmp .ne 20, 3) := by decide +kernel
theorem dX8_readClause_135 : decode cX8_readClause 135 = .ok (.aload_n 0, 1) := by decide +kernel
theorem dX8_readClause_136 : decode cX8_readClause 136 = .ok (.getfield 133, 3) := by decide +kernel
theorem dX8_readClause_139 : decode cX8_readClause 139 = .ok (.bipush 6, 2) := by decide +kernel
theorem dX8_readClause_141 : decode cX8_readClause 141 = .ok (.if_icmp .ne 11, 3) := by decide +kernel
theorem dX8_readClause_144 : decode cX8_readClause 144 = .ok (.aload_n 0, 1) := by decide +kernel
theorem dX8_readClause_145 : decode cX8_readClause 145 = .ok (.iconst 3, 1) := by decide +kernel
theorem dX8_readClause_146 : decode cX8_readClause 146 = .ok (.invokevirtual 116, 3) := by decide +kernel
theorem dX8_readClause_149 : decode cX8_readClause 149 = .ok (.goto 43, 3) := by decide +kernel
theorem dX8_readClause_152 : decode cX8_readClause 152 = .ok (.aload_n 0, 1) := by decide +kernel
theorem dX8_readClause_153 : decode cX8_readClause 153 = .ok (.dup, 1) := by decide +kernel
theorem dX8_readClause_154 : decode cX8_readClause 154 = .ok (.getfield 100, 3) := by decide +kernel
theorem dX8_readClause_157 : decode cX8_readClause 157 = .ok (.iconst 1, 1) := by decide +kernel
theorem dX8_readClause_158 : decode cX8_readClause 158 = .ok (.iadd, 1) := by decide +kernel
theorem dX8_readClause_159 : decode cX8_readClause 159 = .ok (.putfield 100, 3) := by decide +kernel
theorem dX8_readClause_162 : decode cX8_readClause 162 = .ok (.iload_n 1, 1) := by decide +kernel
theorem dX8_readClause_163 : decode cX8_readClause 163 = .ok (.bipush 114, 2) := by decide +kernel
theorem dX8_readClause_165 : decode cX8_readClause 165 = .ok (.if_icmp .ne 10, 3) := by decide +kernel
theorem dX8_readClause_168 : decode cX8_readClause 168 = .ok (.aload_n 0, 1) := by decide +kernel
theorem dX8_readClause_169 : decode cX8_readClause 169 = .ok (.invokevirtual 139, 3) := by decide +kernel
theorem dX8_readClause_172 : decode cX8_readClause 172 = .ok (.goto 20, 3) := by decide +kernel
theorem dX8_readClause_175 : decode cX8_readClause 175 = .ok (.iload_n 1, 1) := by decide +kernel
theorem dX8_readClause_176 : decode cX8_readClause 176 = .ok (.bipush 100, 2) := by decide +kernel
theorem dX8_readClause_178 : decode cX8_readClause 178 = .ok (.if_icmp .ne 10, 3) := by decide +kernel
theorem dX8_readClause_181 : decode cX8_readClause 181 = .ok (.aload_n 0, 1) := by decide +kernel
theorem dX8_readClause_182 : decode cX8_readClause 182 = .ok (.invokevirtual 142, 3) := by decide +kernel
theorem dX8_readClause_185 : decode cX8_readClause 185 = .ok (.goto 7, 3) := by decide +kernel
theorem dX8_readClause_188 : decode cX8_readClause 188 = .ok (.aload_n 0, 1) := by decide +kernel
theorem dX8_readClause_189 : decode cX8_readClause 189 = .ok (.invokevirtual 145, 3) := by decide +kernel
theorem dX8_readClause_192 : decode cX8_readClause 192 = .ok (.return_, 1) := by decide +kernel
theorem dX8_readManor_0 : decode cX8_readManor 0 = .ok (.aload_n 0, 1) := by decide +kernel
theorem dX8_readManor_1 : decode cX8_readManor 1 = .ok (.iconst 0, 1) := by decide +kernel
theorem dX8_readManor_2 : decode cX8_readManor 2 = .ok (.putfield 100, 3) := by decide +kernel
theorem dX8_readManor_5 : decode cX8_readManor 5 = .ok (.aload_n 0, 1) := by decide +kernel
theorem dX8_readManor_6 : decode cX8_readManor 6 = .ok (.iconst 0, 1) := by decide +kernel
theorem dX8_readManor_7 : decode cX8_readManor 7 = .ok (.putfield 107, 3) := by decide +kernel
theorem dX8_readManor_10 : decode cX8_readManor 10 = .ok (.aload_n 0, 1) := by decide +kernel
theorem dX8_readManor_11 : decode cX8_readManor 11 = .ok (.iconst 0, 1) := by decide +kernel
theorem dX8_readManor_12 : decode cX8_readManor 12 = .ok (.putfield 136, 3) := by decide +kernel
theorem dX8_readManor_15 : decode cX8_readManor 15 = .ok (.aload_n 0, 1) := by decide +kernel
theorem dX8_readManor_16 : decode cX8_readManor 16 = .ok (.iconst 0, 1) := by decide +kernel
theorem dX8_readManor_17 : decode cX8_readManor 17 = .ok (.putfield 120, 3) := by decide +kernel
theorem dX8_readManor_20 : decode cX8_readManor 20 = .ok (.aload_n 0, 1) := by decide +kernel
theorem dX8_readManor_21 : decode cX8_readManor 21 = .ok (.iconst 0, 1) := by decide +kernel
theorem dX8_readManor_22 : decode cX8_readManor 22 = .ok (.putfield 130, 3) := by decide +kernel
theorem dX8_readManor_25 : decode cX8_readManor 25 = .ok (.aload_n 0, 1) := by decide +kernel
theorem dX8_readManor_26 : decode cX8_readManor 26 = .ok (.iconst 0, 1) := by decide +kernel
theorem dX8_readManor_27 : decode cX8_readManor 27 = .ok (.putfield 133, 3) := by decide +kernel
theorem dX8_readManor_30 : decode cX8_readManor 30 = .ok (.iconst 0, 1) := by decide +kernel
theorem dX8_readManor_31 : decode cX8_readManor 31 = .ok (.istore_n 1, 1) := by decide +kernel
theorem dX8_readManor_32 : decode cX8_readManor 32 = .ok (.iload_n 1, 1) := by decide +kernel
theorem dX8_readManor_33 : decode cX8_readManor 33 = .ok (.bipush 51, 2) := by decide +kernel
theorem dX8_readManor_35 : decode cX8_readManor 35 = .ok (.if_icmp .ge 31, 3) := by decide +kernel
theorem dX8_readManor_38 : decode cX8_readManor 38 = .ok (.aload_n 0, 1) := by decide +kernel
theorem dX8_readManor_39 : decode cX8_readManor 39 = .ok (.getfield 76, 3) := by decide +kernel
theorem dX8_readManor_42 : decode cX8_readManor 42 = .ok (.iload_n 1, 1) := by decide +kernel
theorem dX8_readManor_43 : decode cX8_readManor 43 = .ok (.iload_n 1, 1) := by decide +kernel
theorem dX8_readManor_44 : decode cX8_readManor 44 = .ok (.bipush 15, 2) := by decide +kernel
theorem dX8_readManor_46 : decode cX8_readManor 46 = .ok (.bipush 44, 2) := by decide +kernel
theorem dX8_readManor_48 : decode cX8_readManor 48 = .ok (.invokestatic 85, 3) := by decide +kernel
theorem dX8_readManor_51 : decode cX8_readManor 51 = .ok (.ifCond .eq 7, 3) := by decide +kernel
theorem dX8_readManor_54 : decode cX8_readManor 54 = .ok (.iconst (-1), 1) := by decide +kernel
theorem dX8_readManor_55 : decode cX8_readManor 55 = .ok (.goto 4, 3) := by decide +kernel
theorem dX8_readManor_58 : decode cX8_readManor 58 = .ok (.iconst 0, 1) := by decide +kernel
theorem dX8_readManor_59 : decode cX8_readManor 59 = .ok (.iastore, 1) := by decide +kernel
theorem dX8_readManor_60 : decode cX8_readManor 60 = .ok (.iinc 1 1, 3) := by decide +kernel
theorem dX8_readManor_63 : decode cX8_readManor 63 = .ok (.goto (-31), 3) := by decide +kernel
theorem dX8_readManor_66 : decode cX8_readManor 66 = .ok (.aload_n 0, 1) := by decide +kernel
theorem dX8_readManor_67 : decode cX8_readManor 67 = .ok (.invokevirtual 113, 3) := by decide +kernel
theorem dX8_readManor_70 : decode cX8_readManor 70 = .ok (.aload_n 0, 1) := by decide +kernel
theorem dX8_readManor_71 : decode cX8_readManor 71 = .ok (.getfield 107, 3) := by decide +kernel
theorem dX8_readManor_74 : decode cX8_readManor 74 = .ok (.ifCond .ne 32, 3) := by decide +kernel
theorem dX8_readManor_77 : decode cX8_readManor 77 = .ok (.aload_n 0, 1) := by decide +kernel
theorem dX8_readManor_78 : decode cX8_readManor 78 = .ok (.getfield 100, 3) := by decide +kernel
theorem dX8_readManor_81 : decode cX8_readManor 81 = .ok (.aload_n 0, 1) := by decide +kernel
theorem dX8_readManor_82 : decode cX8_readManor 82 = .ok (.getfield 96, 3) := by decide +kernel
theorem dX8_readManor_85 : decode cX8_readManor 85 = .ok (.if_icmp .ge 21, 3) := by decide +kernel
theorem dX8_readManor_88 : decode cX8_readManor 88 = .ok (.aload_n 0, 1) := by decide +kernel
theorem dX8_readManor_89 : decode cX8_readManor 89 = .ok (.invokevirtual 148, 3) := by decide +kernel
theorem dX8_readManor_92 : decode cX8_readManor 92 = .ok (.aload_n 0, 1) := by decide +kernel
theorem dX8_readManor_93 : decode cX8_readManor 93 = .ok (.getfield 107, 3) := by decide +kernel
theorem dX8_readManor_96 : decode cX8_readManor 96 = .ok (.ifCond .ne (-26), 3) := by decide +kernel
theorem dX8_readManor_99 : decode cX8_readManor 99 = .ok (.aload_n 0, 1) := by decide +kernel
theorem dX8_readManor_100 : decode cX8_readManor 100 = .ok (.invokevirtual 113, 3) := by decide +kernel
theorem dX8_readManor_103 : decode cX8_readManor 103 = .ok (.goto (-33), 3) := by decide +kernel
theorem dX8_readManor_106 : decode cX8_readManor 106 = .ok (.return_, 1) := by decide +kernel
theorem dX8_manor_0 : decode cX8_manor 0 = .ok (.aload_n 0, 1) := by decide +kernel
theorem dX8_manor_1 : decode cX8_manor 1 = .ok (.invokevirtual 151, 3) := by decide +kernel
theorem dX8_manor_4 : decode cX8_manor 4 = .ok (.aload_n 0, 1) := by decide +kernel
theorem dX8_manor_5 : decode cX8_manor 5 = .ok (.iconst 0, 1) := by decide +kernel
theorem dX8_manor_6 : decode cX8_manor 6 = .ok (.putfield 96, 3) := by decide +kernel
theorem dX8_manor_9 : decode cX8_manor 9 = .ok (.aload_n 0, 1) := by decide +kernel
theorem dX8_manor_10 : decode cX8_manor 10 = .ok (.getfield 107, 3) := by decide +kernel
theorem dX8_manor_13 : decode cX8_manor 13 = .ok (.ifCond .eq 19, 3) := by decide +kernel
theorem dX8_manor_16 : decode cX8_manor 16 = .ok (.aload_n 0, 1) := by decide +kernel
theorem dX8_manor_17 : decode cX8_manor 17 = .ok (.aload_n 0, 1) := by decide +kernel
theorem dX8_manor_18 : decode cX8_manor 18 = .ok (.getfield 110, 3) := by decide +kernel
theorem dX8_manor_21 : decode cX8_manor 21 = .ok (.putfield 13, 3) := by decide +kernel
theorem dX8_manor_24 : decode cX8_manor 24 = .ok (.bipush (-10), 2) := by decide +kernel
theorem dX8_manor_26 : decode cX8_manor 26 = .ok (.aload_n 0, 1) := by decide +kernel
theorem dX8_manor_27 : decode cX8_manor 27 = .ok (.getfield 107, 3) := by decide +kernel
theorem dX8_manor_30 : decode cX8_manor 30 = .ok (.isub, 1) := by decide +kernel
theorem dX8_manor_31 : decode cX8_manor 31 = .ok (.ireturn, 1) := by decide +kernel
theorem dX8_manor_32 : decode cX8_manor 32 = .ok (.aload_n 0, 1) := by decide +kernel
theorem dX8_manor_33 : decode cX8_manor 33 = .ok (.iconst (-1), 1) := by decide +kernel
theorem dX8_manor_34 : decode cX8_manor 34 = .ok (.putfield 13, 3) := by decide +kernel
theorem dX8_manor_37 : decode cX8_manor 37 = .ok (.aload_n 0, 1) := by decide +kernel
theorem dX8_manor_38 : decode cX8_manor 38 = .ok (.aload_n 0, 1) := by decide +kernel
theorem dX8_manor_39 : decode cX8_manor 39 = .ok (.getfield 136, 3) := by decide +kernel
theorem dX8_manor_42 : decode cX8_manor 42 = .ok (.putfield 154, 3) := by decide +kernel
theorem dX8_manor_45 : decode cX8_manor 45 = .ok (.aload_n 0, 1) := by decide +kernel
theorem dX8_manor_46 : decode cX8_manor 46 = .ok (.aload_n 0, 1) := by decide +kernel
theorem dX8_manor_47 : decode cX8_manor 47 = .ok (.getfield 120, 3) := by decide +kernel
theorem dX8_manor_50 : decode cX8_manor 50 = .ok (.putfield 82, 3) := by decide +kernel
theorem dX8_manor_53 : decode cX8_manor 53 = .ok (.aload_n 0, 1) := by decide +kernel
theorem dX8_manor_54 : decode cX8_manor 54 = .ok (.aload_n 0, 1) := by decide +kernel
theorem dX8_manor_55 : decode cX8_manor 55 = .ok (.getfield 130, 3) := by decide +kernel
theorem dX8_manor_58 : decode cX8_manor 58 = .ok (.putfield 92, 3) := by decide +kernel
theorem dX8_manor_61 : decode cX8_manor 61 = .ok (.aload_n 0, 1) := by decide +kernel
theorem dX8_manor_62 : decode cX8_manor 62 = .ok (.aload_n 0, 1) := by decide +kernel
theorem dX8_manor_63 : decode cX8_manor 63 = .ok (.getfield 133, 3) := by decide +kernel
theorem dX8_manor_66 : decode cX8_manor 66 = .ok (.putfield 89, 3) := by decide +kernel
theorem dX8_manor_69 : decode cX8_manor 69 = .ok (.aload_n 0, 1) := by decide +kernel
theorem dX8_manor_70 : decode cX8_manor 70 = .ok (.getfield 61, 3) := by decide +kernel
theorem dX8_manor_73 : decode cX8_manor 73 = .ok (.iconst 0, 1) := by decide +kernel
theorem dX8_manor_74 : decode cX8_manor 74 = .ok (.aload_n 0, 1) := by decide +kernel
theorem dX8_manor_75 : decode cX8_manor 75 = .ok (.getfield 17, 3) := by decide +kernel
theorem dX8_manor_78 : decode cX8_manor 78 = .ok (.iconst 0, 1) := by decide +kernel
theorem dX8_manor_79 : decode cX8_manor 79 = .ok (.bipush 8, 2) := by decide +kernel
theorem dX8_manor_81 : decode cX8_manor 81 = .ok (.invokestatic 157, 3) := by decide +kernel
theorem dX8_manor_84 : decode cX8_manor 84 = .ok (.aload_n 0, 1) := by decide +kernel
theorem dX8_manor_85 : decode cX8_manor 85 = .ok (.getfield 64, 3) := by decide +kernel
theorem dX8_manor_88 : decode cX8_manor 88 = .ok (.iconst 0, 1) := by decide +kernel
theorem dX8_manor_89 : decode cX8_manor 89 = .ok (.aload_n 0, 1) := by decide +kernel
theorem dX8_manor_90 : decode cX8_manor 90 = .ok (.getfield 20, 3) := by decide +kernel
theorem dX8_manor_93 : decode cX8_manor 93 = .ok (.iconst 0, 1) := by decide +kernel
theorem dX8_manor_94 : decode cX8_manor 94 = .ok (.bipush 8, 2) := by decide +kernel
theorem dX8_manor_96 : decode cX8_manor 96 = .ok (.invokestatic 157, 3) := by decide +kernel
theorem dX8_manor_99 : decode cX8_manor 99 = .ok (.aload_n 0, 1) := by decide +kernel
theorem dX8_manor_100 : decode cX8_manor 100 = .ok (.getfield 67, 3) := by decide +kernel
theorem dX8_manor_103 : decode cX8_manor 103 = .ok (.iconst 0, 1) := by decide +kernel
theorem dX8_manor_104 : decode cX8_manor 104 = .ok (.aload_n 0, 1) := by decide +kernel
theorem dX8_manor_105 : decode cX8_manor 105 = .ok (.getfield 23, 3) := by decide +kernel
theorem dX8_manor_108 : decode cX8_manor 108 = .ok (.iconst 0, 1) := by decide +kernel
theorem dX8_manor_109 : decode cX8_manor 109 = .ok (.bipush 8, 2) := by decide +kernel
theorem dX8_manor_111 : decode cX8_manor 111 = .ok (.invokestatic 157, 3) := by decide +kernel
theorem dX8_manor_114 : decode cX8_manor 114 = .ok (.aload_n 0, 1) := by decide +kernel
theorem dX8_manor_115 : decode cX8_manor 115 = .ok (.getfield 70, 3) := by decide +kernel
theorem dX8_manor_118 : decode cX8_manor 118 = .ok (.iconst 0, 1) := by decide +kernel
theorem dX8_manor_119 : decode cX8_manor 119 = .ok (.aload_n 0, 1) := by decide +kernel
theorem dX8_manor_120 : decode cX8_manor 120 = .ok (.getfield 26, 3) := by decide +kernel
theorem dX8_manor_123 : decode cX8_manor 123 = .ok (.iconst 0, 1) := by decide +kernel
theorem dX8_manor_124 : decode cX8_manor 124 = .ok (.bipush 6, 2) := by decide +kernel
theorem dX8_manor_126 : decode cX8_manor 126 = .ok (.invokestatic 157, 3) := by decide +kernel
theorem dX8_manor_129 : decode cX8_manor 129 = .ok (.aload_n 0, 1) := by decide +kernel
theorem dX8_manor_130 : decode cX8_manor 130 = .ok (.getfield 73, 3) := by decide +kernel
theorem dX8_manor_133 : decode cX8_manor 133 = .ok (.iconst 0, 1) := by decide +kernel
theorem dX8_manor_134 : decode cX8_manor 134 = .ok (.aload_n 0, 1) := by decide +kernel
theorem dX8_manor_135 : decode cX8_manor 135 = .ok (.getfield 29, 3) := by decide +kernel
theorem dX8_manor_138 : decode cX8_manor 138 = .ok (.iconst 0, 1) := by decide +kernel
theorem dX8_manor_139 : decode cX8_manor 139 = .ok (.bipush 6, 2) := by decide +kernel
theorem dX8_manor_141 : decode cX8_manor 141 = .ok (.invokestatic 157, 3) := by decide +kernel
theorem dX8_manor_144 : decode cX8_manor 144 = .ok (.aload_n 0, 1) := by decide +kernel
theorem dX8_manor_145 : decode cX8_manor 145 = .ok (.getfield 76, 3) := by decide +kernel
theorem dX8_manor_148 : decode cX8_manor 148 = .ok (.iconst 0, 1) := by decide +kernel
theorem dX8_manor_149 : decode cX8_manor 149 = .ok (.aload_n 0, 1) := by decide +kernel
theorem dX8_manor_150 : decode cX8_manor 150 = .ok (.getfield 38, 3) := by decide +kernel
theorem dX8_manor_153 : decode cX8_manor 153 = .ok (.iconst 0, 1) := by decide +kernel
theorem dX8_manor_154 : decode cX8_manor 154 = .ok (.bipush 51, 2) := by decide +kernel
theorem dX8_manor_156 : decode cX8_manor 156 = .ok (.invokestatic 157, 3) := by decide +kernel
theorem dX8_manor_159 : decode cX8_manor 159 = .ok (.aload_n 0, 1) := by decide +kernel
theorem dX8_manor_160 : decode cX8_manor 160 = .ok (.invokevirtual 161, 3) := by decide +kernel
theorem dX8_manor_163 : decode cX8_manor 163 = .ok (.aload_n 0, 1) := by decide +kernel
theorem dX8_manor_164 : decode cX8_manor 164 = .ok (.iconst 0, 1) := by decide +kernel
theorem dX8_manor_165 : decode cX8_manor 165 = .ok (.putfield 164, 3) := by decide +kernel
theorem dX8_manor_168 : decode cX8_manor 168 = .ok (.aload_n 0, 1) := by decide +kernel
theorem dX8_manor_169 : decode cX8_manor 169 = .ok (.iconst 0, 1) := by decide +kernel
theorem dX8_manor_170 : decode cX8_manor 170 = .ok (.putfield 167, 3) := by decide +kernel
theorem dX8_manor_173 : decode cX8_manor 173 = .ok (.aload_n 0, 1) := by decide +kernel
theorem dX8_manor_174 : decode cX8_manor 174 = .ok (.iconst 0, 1) := by decide +kernel
theorem dX8_manor_175 : decode cX8_manor 175 = .ok (.putfield 170, 3) := by decide +kernel
theorem dX8_manor_178 : decode cX8_manor 178 = .ok (.aload_n 0, 1) := by decide +kernel
theorem dX8_manor_179 : decode cX8_manor 179 = .ok (.getfield 51, 3) := by decide +kernel
theorem dX8_manor_182 : decode cX8_manor 182 = .ok (.iconst 0, 1) := by decide +kernel
theorem dX8_manor_183 : decode cX8_manor 183 = .ok (.iconst 0, 1) := by decide +kernel
theorem dX8_manor_184 : decode cX8_manor 184 = .ok (.bastore, 1) := by decide +kernel
theorem dX8_manor_185 : decode cX8_manor 185 = .ok (.aload_n 0, 1) := by decide +kernel
theorem dX8_manor_186 : decode cX8_manor 186 = .ok (.getfield 51, 3) := by decide +kernel
theorem dX8_manor_189 : decode cX8_manor 189 = .ok (.iconst 1, 1) := by decide +kernel
theorem dX8_manor_190 : decode cX8_manor 190 = .ok (.iconst 0, 1) := by decide +kernel
theorem dX8_manor_191 : decode cX8_manor 191 = .ok (.bastore, 1) := by decide +kernel
theorem dX8_manor_192 : decode cX8_manor 192 = .ok (.aload_n 0, 1) := by decide +kernel
theorem dX8_manor_193 : decode cX8_manor 193 = .ok (.getfield 89, 3) := by decide +kernel
theorem dX8_manor_196 : decode cX8_manor 196 = .ok (.ireturn, 1) := by decide +kernel
theorem dX8_fault_0 : decode cX8_fault 0 = .ok (.aload_n 0, 1) := by decide +kernel
theorem dX8_fault_1 : decode cX8_fault 1 = .ok (.getfield 13, 3) := by decide +kernel
theorem dX8_fault_4 : decode cX8_fault 4 = .ok (.ireturn, 1) := by decide +kernel
theorem dX8_passes_0 : decode cX8_passes 0 = .ok (.bipush 6, 2) := by decide +kernel
theorem dX8_passes_2 : decode cX8_passes 2 = .ok (.iload_n 1, 1) := by decide +kernel
theorem dX8_passes_3 : decode cX8_passes 3 = .ok (.imul, 1) := by decide +kernel
theorem dX8_passes_4 : decode cX8_passes 4 = .ok (.iload_n 2, 1) := by decide +kernel
theorem dX8_passes_5 : decode cX8_passes 5 = .ok (.iadd, 1) := by decide +kernel
theorem dX8_passes_6 : decode cX8_passes 6 = .ok (.istore 4, 2) := by decide +kernel
theorem dX8_passes_8 : decode cX8_passes 8 = .ok (.aload_n 0, 1) := by decide +kernel
theorem dX8_passes_9 : decode cX8_passes 9 = .ok (.getfield 32, 3) := by decide +kernel
theorem dX8_passes_12 : decode cX8_passes 12 = .ok (.iload 4, 2) := by decide +kernel
theorem dX8_passes_14 : decode cX8_passes 14 = .ok (.iload_n 3, 1) := by decide +kernel
theorem dX8_passes_15 : decode cX8_passes 15 = .ok (.aload_n 0, 1) := by decide +kernel
theorem dX8_passes_16 : decode cX8_passes 16 = .ok (.getfield 32, 3) := by decide +kernel
theorem dX8_passes_19 : decode cX8_passes 19 = .ok (.iload 4, 2) := by decide +kernel
theorem dX8_passes_21 : decode cX8_passes 21 = .ok (.iaload, 1) := by decide +kernel
theorem dX8_passes_22 : decode cX8_passes 22 = .ok (.if_icmp .ge 7, 3) := by decide +kernel
theorem dX8_passes_25 : decode cX8_passes 25 = .ok (.iload_n 3, 1) := by decide +kernel
theorem dX8_passes_26 : decode cX8_passes 26 = .ok (.goto 10, 3) := by decide +kernel
theorem dX8_passes_29 : decode cX8_passes 29 = .ok (.aload_n 0, 1) := by decide +kernel
theorem dX8_passes_30 : decode cX8_passes 30 = .ok (.getfield 32, 3) := by decide +kernel
theorem dX8_passes_33 : decode cX8_passes 33 = .ok (.iload 4, 2) := by decide +kernel
theorem dX8_passes_35 : decode cX8_passes 35 = .ok (.iaload, 1) := by decide +kernel
theorem dX8_passes_36 : decode cX8_passes 36 = .ok (.iastore, 1) := by decide +kernel
theorem dX8_passes_37 : decode cX8_passes 37 = .ok (.aload_n 0, 1) := by decide +kernel
theorem dX8_passes_38 : decode cX8_passes 38 = .ok (.getfield 35, 3) := by decide +kernel
theorem dX8_passes_41 : decode cX8_passes 41 = .ok (.iload 4, 2) := by decide +kernel
theorem dX8_passes_43 : decode cX8_passes 43 = .ok (.iconst 1, 1) := by decide +kernel
theorem dX8_passes_44 : decode cX8_passes 44 = .ok (.iastore, 1) := by decide +kernel
theorem dX8_passes_45 : decode cX8_passes 45 = .ok (.return_, 1) := by decide +kernel
theorem dX8_laysWalls_0 : decode cX8_laysWalls 0 = .ok (.iconst 0, 1) := by decide +kernel
theorem dX8_laysWalls_1 : decode cX8_laysWalls 1 = .ok (.istore_n 1, 1) := by decide +kernel
theorem dX8_laysWalls_2 : decode cX8_laysWalls 2 = .ok (.iload_n 1, 1) := by decide +kernel
theorem dX8_laysWalls_3 : decode cX8_laysWalls 3 = .ok (.bipush 6, 2) := by decide +kernel
theorem dX8_laysWalls_5 : decode cX8_laysWalls 5 = .ok (.if_icmp .ge 67, 3) := by decide +kernel
theorem dX8_laysWalls_8 : decode cX8_laysWalls 8 = .ok (.iconst 0, 1) := by decide +kernel
theorem dX8_laysWalls_9 : decode cX8_laysWalls 9 = .ok (.istore_n 2, 1) := by decide +kernel
theorem dX8_laysWalls_10 : decode cX8_laysWalls 10 = .ok (.iload_n 2, 1) := by decide +kernel
theorem dX8_laysWalls_11 : decode cX8_laysWalls 11 = .ok (.bipush 6, 2) := by decide +kernel
theorem dX8_laysWalls_13 : decode cX8_laysWalls 13 = .ok (.if_icmp .ge 53, 3) := by decide +kernel
theorem dX8_laysWalls_16 : decode cX8_laysWalls 16 = .ok (.aload_n 0, 1) := by decide +kernel
theorem dX8_laysWalls_17 : decode cX8_laysWalls 17 = .ok (.getfield 32, 3) := by decide +kernel
theorem dX8_laysWalls_20 : decode cX8_laysWalls 20 = .ok (.bipush 6, 2) := by decide +kernel
theorem dX8_laysWalls_22 : decode cX8_laysWalls 22 = .ok (.iload_n 1, 1) := by decide +kernel
theorem dX8_laysWalls_23 : decode cX8_laysWalls 23 = .ok (.imul, 1) := by decide +kernel
theorem dX8_laysWalls_24 : decode cX8_laysWalls 24 = .ok (.iload_n 2, 1) := by decide +kernel
theorem dX8_laysWalls_25 : decode cX8_laysWalls 25 = .ok (.iadd, 1) := by decide +kernel
theorem dX8_laysWalls_26 : decode cX8_laysWalls 26 = .ok (.iload_n 1, 1) := by decide +kernel
theorem dX8_laysWalls_27 : decode cX8_laysWalls 27 = .ok (.iload_n 2, 1) := by decide +kernel
theorem dX8_laysWalls_28 : decode cX8_laysWalls 28 = .ok (.if_icmp .ne 7, 3) := by decide +kernel
theorem dX8_laysWalls_31 : decode cX8_laysWalls 31 = .ok (.iconst 0, 1) := by decide +kernel
theorem dX8_laysWalls_32 : decode cX8_laysWalls 32 = .ok (.goto 5, 3) := by decide +kernel
theorem dX8_laysWalls_35 : decode cX8_laysWalls 35 = .ok (.bipush 99, 2) := by decide +kernel
theorem dX8_laysWalls_37 : decode cX8_laysWalls 37 = .ok (.iastore, 1) := by decide +kernel
theorem dX8_laysWalls_38 : decode cX8_laysWalls 38 = .ok (.aload_n 0, 1) := by decide +kernel
theorem dX8_laysWalls_39 : decode cX8_laysWalls 39 = .ok (.getfield 35, 3) := by decide +kernel
theorem dX8_laysWalls_42 : decode cX8_laysWalls 42 = .ok (.bipush 6, 2) := by decide +kernel
theorem dX8_laysWalls_44 : decode cX8_laysWalls 44 = .ok (.iload_n 1, 1) := by decide +kernel
theorem dX8_laysWalls_45 : decode cX8_laysWalls 45 = .ok (.imul, 1) := by decide +kernel
theorem dX8_laysWalls_46 : decode cX8_laysWalls 46 = .ok (.iload_n 2, 1) := by decide +kernel
theorem dX8_laysWalls_47 : decode cX8_laysWalls 47 = .ok (.iadd, 1) := by decide +kernel
theorem dX8_laysWalls_48 : decode cX8_laysWalls 48 = .ok (.iload_n 1, 1) := by decide +kernel
theorem dX8_laysWalls_49 : decode cX8_laysWalls 49 = .ok (.iload_n 2, 1) := by decide +kernel
theorem dX8_laysWalls_50 : decode cX8_laysWalls 50 = .ok (.if_icmp .ne 7, 3) := by decide +kernel
theorem dX8_laysWalls_53 : decode cX8_laysWalls 53 = .ok (.iconst 0, 1) := by decide +kernel
theorem dX8_laysWalls_54 : decode cX8_laysWalls 54 = .ok (.goto 5, 3) := by decide +kernel
theorem dX8_laysWalls_57 : decode cX8_laysWalls 57 = .ok (.bipush 99, 2) := by decide +kernel
theorem dX8_laysWalls_59 : decode cX8_laysWalls 59 = .ok (.iastore, 1) := by decide +kernel
theorem dX8_laysWalls_60 : decode cX8_laysWalls 60 = .ok (.iinc 2 1, 3) := by decide +kernel
theorem dX8_laysWalls_63 : decode cX8_laysWalls 63 = .ok (.goto (-53), 3) := by decide +kernel
theorem dX8_laysWalls_66 : decode cX8_laysWalls 66 = .ok (.iinc 1 1, 3) := by decide +kernel
theorem dX8_laysWalls_69 : decode cX8_laysWalls 69 = .ok (.goto (-67), 3) := by decide +kernel
theorem dX8_laysWalls_72 : decode cX8_laysWalls 72 = .ok (.iconst 0, 1) := by decide +kernel
theorem dX8_laysWalls_73 : decode cX8_laysWalls 73 = .ok (.istore_n 1, 1) := by decide +kernel
theorem dX8_laysWalls_74 : decode cX8_laysWalls 74 = .ok (.iload_n 1, 1) := by decide +kernel
theorem dX8_laysWalls_75 : decode cX8_laysWalls 75 = .ok (.aload_n 0, 1) := by decide +kernel
theorem dX8_laysWalls_76 : decode cX8_laysWalls 76 = .ok (.getfield 92, 3) := by decide +kernel
theorem dX8_laysWalls_79 : decode cX8_laysWalls 79 = .ok (.if_icmp .ge 53, 3) := by decide +kernel
theorem dX8_laysWalls_82 : decode cX8_laysWalls 82 = .ok (.aload_n 0, 1) := by decide +kernel
theorem dX8_laysWalls_83 : decode cX8_laysWalls 83 = .ok (.aload_n 0, 1) := by decide +kernel
theorem dX8_laysWalls_84 : decode cX8_laysWalls 84 = .ok (.getfield 17, 3) := by decide +kernel
theorem dX8_laysWalls_87 : decode cX8_laysWalls 87 = .ok (.iload_n 1, 1) := by decide +kernel
theorem dX8_laysWalls_88 : decode cX8_laysWalls 88 = .ok (.iaload, 1) := by decide +kernel
theorem dX8_laysWalls_89 : decode cX8_laysWalls 89 = .ok (.aload_n 0, 1) := by decide +kernel
theorem dX8_laysWalls_90 : decode cX8_laysWalls 90 = .ok (.getfield 20, 3) := by decide +kernel
theorem dX8_laysWalls_93 : decode cX8_laysWalls 93 = .ok (.iload_n 1, 1) := by decide +kernel
theorem dX8_laysWalls_94 : decode cX8_laysWalls 94 = .ok (.iaload, 1) := by decide +kernel
theorem dX8_laysWalls_95 : decode cX8_laysWalls 95 = .ok (.aload_n 0, 1) := by decide +kernel
theorem dX8_laysWalls_96 : decode cX8_laysWalls 96 = .ok (.getfield 23, 3) := by decide +kernel
theorem dX8_laysWalls_99 : decode cX8_laysWalls 99 = .ok (.iload_n 1, 1) := by decide +kernel
theorem dX8_laysWalls_100 : decode cX8_laysWalls 100 = .ok (.iaload, 1) := by decide +kernel
theorem dX8_laysWalls_101 : decode cX8_laysWalls 101 = .ok (.invokevirtual 173, 3) := by decide +kernel
theorem dX8_laysWalls_104 : decode cX8_laysWalls 104 = .ok (.aload_n 0, 1) := by decide +kernel
theorem dX8_laysWalls_105 : decode cX8_laysWalls 105 = .ok (.aload_n 0, 1) := by decide +kernel
theorem dX8_laysWalls_106 : decode cX8_laysWalls 106 = .ok (.getfield 20, 3) := by decide +kernel
theorem dX8_laysWalls_109 : decode cX8_laysWalls 109 = .ok (.iload_n 1, 1) := by decide +kernel
theorem dX8_laysWalls_110 : decode cX8_laysWalls 110 = .ok (.iaload, 1) := by decide +kernel
theorem dX8_laysWalls_111 : decode cX8_laysWalls 111 = .ok (.aload_n 0, 1) := by decide +kernel
theorem dX8_laysWalls_112 : decode cX8_laysWalls 112 = .ok (.getfield 17, 3) := by decide +kernel
theorem dX8_laysWalls_115 : decode cX8_laysWalls 115 = .ok (.iload_n 1, 1) := by decide +kernel
theorem dX8_laysWalls_116 : decode cX8_laysWalls 116 = .ok (.iaload, 1) := by decide +kernel
theorem dX8_laysWalls_117 : decode cX8_laysWalls 117 = .ok (.aload_n 0, 1) := by decide +kernel
theorem dX8_laysWalls_118 : decode cX8_laysWalls 118 = .ok (.getfield 23, 3) := by decide +kernel
theorem dX8_laysWalls_121 : decode cX8_laysWalls 121 = .ok (.iload_n 1, 1) := by decide +kernel
theorem dX8_laysWalls_122 : decode cX8_laysWalls 122 = .ok (.iaload, 1) := by decide +kernel
theorem dX8_laysWalls_123 : decode cX8_laysWalls 123 = .ok (.invokevirtual 173, 3) := by decide +kernel
theorem dX8_laysWalls_126 : decode cX8_laysWalls 126 = .ok (.iinc 1 1, 3) := by decide +kernel
theorem dX8_laysWalls_129 : decode cX8_laysWalls 129 = .ok (.goto (-55), 3) := by decide +kernel
theorem dX8_laysWalls_132 : decode cX8_laysWalls 132 = .ok (.iconst 0, 1) := by decide +kernel
theorem dX8_laysWalls_133 : decode cX8_laysWalls 133 = .ok (.istore_n 1, 1) := by decide +kernel
theorem dX8_laysWalls_134 : decode cX8_laysWalls 134 = .ok (.iload_n 1, 1) := by decide +kernel
theorem dX8_laysWalls_135 : decode cX8_laysWalls 135 = .ok (.bipush 6, 2) := by decide +kernel
theorem dX8_laysWalls_137 : decode cX8_laysWalls 137 = .ok (.if_icmp .ge 157, 3) := by decide +kernel
theorem dX8_laysWalls_140 : decode cX8_laysWalls 140 = .ok (.iconst 0, 1) := by decide +kernel
theorem dX8_laysWalls_141 : decode cX8_laysWalls 141 = .ok (.istore_n 2, 1) := by decide +kernel
theorem dX8_laysWalls_142 : decode cX8_laysWalls 142 = .ok (.iload_n 2, 1) := by decide +kernel
theorem dX8_laysWalls_143 : decode cX8_laysWalls 143 = .ok (.bipush 6, 2) := by decide +kernel
theorem dX8_laysWalls_145 : decode cX8_laysWalls 145 = .ok (.if_icmp .ge 143, 3) := by decide +kernel
theorem dX8_laysWalls_148 : decode cX8_laysWalls 148 = .ok (.iconst 0, 1) := by decide +kernel
theorem dX8_laysWalls_149 : decode cX8_laysWalls 149 = .ok (.istore_n 3, 1) := by decide +kernel
theorem dX8_laysWalls_150 : decode cX8_laysWalls 150 = .ok (.iload_n 3, 1) := by decide +kernel
theorem dX8_laysWalls_151 : decode cX8_laysWalls 151 = .ok (.bipush 6, 2) := by decide +kernel
theorem dX8_laysWalls_153 : decode cX8_laysWalls 153 = .ok (.if_icmp .ge 129, 3) := by decide +kernel
theorem dX8_laysWalls_156 : decode cX8_laysWalls 156 = .ok (.aload_n 0, 1) := by decide +kernel
theorem dX8_laysWalls_157 : decode cX8_laysWalls 157 = .ok (.getfield 32, 3) := by decide +kernel
theorem dX8_laysWalls_160 : decode cX8_laysWalls 160 = .ok (.bipush 6, 2) := by decide +kernel
theorem dX8_laysWalls_162 : decode cX8_laysWalls 162 = .ok (.iload_n 2, 1) := by decide +kernel
theorem dX8_laysWalls_163 : decode cX8_laysWalls 163 = .ok (.imul, 1) := by decide +kernel
theorem dX8_laysWalls_164 : decode cX8_laysWalls 164 = .ok (.iload_n 1, 1) := by decide +kernel
theorem dX8_laysWalls_165 : decode cX8_laysWalls 165 = .ok (.iadd, 1) := by decide +kernel
theorem dX8_laysWalls_166 : decode cX8_laysWalls 166 = .ok (.iaload, 1) := by decide +kernel
theorem dX8_laysWalls_167 : decode cX8_laysWalls 167 = .ok (.aload_n 0, 1) := by decide +kernel
theorem dX8_laysWalls_168 : decode cX8_laysWalls 168 = .ok (.getfield 32, 3) := by decide +kernel
theorem dX8_laysWalls_171 : decode cX8_laysWalls 171 = .ok (.bipush 6, 2) := by decide +kernel
theorem dX8_laysWalls_173 : decode cX8_laysWalls 173 = .ok (.iload_n 1, 1) := by decide +kernel
theorem dX8_laysWalls_174 : decode cX8_laysWalls 174 = .ok (.imul, 1) := by decide +kernel
theorem dX8_laysWalls_175 : decode cX8_laysWalls 175 = .ok (.iload_n 3, 1) := by decide +kernel
theorem dX8_laysWalls_176 : decode cX8_laysWalls 176 = .ok (.iadd, 1) := by decide +kernel
theorem dX8_laysWalls_177 : decode cX8_laysWalls 177 = .ok (.iaload, 1) := by decide +kernel
theorem dX8_laysWalls_178 : decode cX8_laysWalls 178 = .ok (.iadd, 1) := by decide +kernel
theorem dX8_laysWalls_179 : decode cX8_laysWalls 179 = .ok (.istore 4, 2) := by decide +kernel
theorem dX8_laysWalls_181 : decode cX8_laysWalls 181 = .ok (.aload_n 0, 1) := by decide +kernel
theorem dX8_laysWalls_182 : decode cX8_laysWalls 182 = .ok (.getfield 35, 3) := by decide +kernel
theorem dX8_laysWalls_185 : decode cX8_laysWalls 185 = .ok (.bipush 6, 2) := by decide +kernel
theorem dX8_laysWalls_187 : decode cX8_laysWalls 187 = .ok (.iload_n 2, 1) := by decide +kernel
theorem dX8_laysWalls_188 : decode cX8_laysWalls 188 = .ok (.imul, 1) := by decide +kernel
theorem dX8_laysWalls_189 : decode cX8_laysWalls 189 = .ok (.iload_n 1, 1) := by decide +kernel
theorem dX8_laysWalls_190 : decode cX8_laysWalls 190 = .ok (.iadd, 1) := by decide +kernel
theorem dX8_laysWalls_191 : decode cX8_laysWalls 191 = .ok (.iaload, 1) := by decide +kernel
theorem dX8_laysWalls_192 : decode cX8_laysWalls 192 = .ok (.aload_n 0, 1) := by decide +kernel
theorem dX8_laysWalls_193 : decode cX8_laysWalls 193 = .ok (.getfield 35, 3) := by decide +kernel
theorem dX8_laysWalls_196 : decode cX8_laysWalls 196 = .ok (.bipush 6, 2) := by decide +kernel
theorem dX8_laysWalls_198 : decode cX8_laysWalls 198 = .ok (.iload_n 1, 1) := by decide +kernel
theorem dX8_laysWalls_199 : decode cX8_laysWalls 199 = .ok (.imul, 1) := by decide +kernel
theorem dX8_laysWalls_200 : decode cX8_laysWalls 200 = .ok (.iload_n 3, 1) := by decide +kernel
theorem dX8_laysWalls_201 : decode cX8_laysWalls 201 = .ok (.iadd, 1) := by decide +kernel
theorem dX8_laysWalls_202 : decode cX8_laysWalls 202 = .ok (.iaload, 1) := by decide +kernel
theorem dX8_laysWalls_203 : decode cX8_laysWalls 203 = .ok (.iadd, 1) := by decide +kernel
theorem dX8_laysWalls_204 : decode cX8_laysWalls 204 = .ok (.istore 5, 2) := by decide +kernel
theorem dX8_laysWalls_206 : decode cX8_laysWalls 206 = .ok (.bipush 6, 2) := by decide +kernel
theorem dX8_laysWalls_208 : decode cX8_laysWalls 208 = .ok (.iload_n 2, 1) := by decide +kernel
theorem dX8_laysWalls_209 : decode cX8_laysWalls 209 = .ok (.imul, 1) := by decide +kernel
theorem dX8_laysWalls_210 : decode cX8_laysWalls 210 = .ok (.iload_n 3, 1) := by decide +kernel
theorem dX8_laysWalls_211 : decode cX8_laysWalls 211 = .ok (.iadd, 1) := by decide +kernel
theorem dX8_laysWalls_212 : decode cX8_laysWalls 212 = .ok (.istore 6, 2) := by decide +kernel
theorem dX8_laysWalls_214 : decode cX8_laysWalls 214 = .ok (.aload_n 0, 1) := by decide +kernel
theorem dX8_laysWalls_215 : decode cX8_laysWalls 215 = .ok (.getfield 32, 3) := by decide +kernel
theorem dX8_laysWalls_218 : decode cX8_laysWalls 218 = .ok (.iload 6, 2) := by decide +kernel
theorem dX8_laysWalls_220 : decode cX8_laysWalls 220 = .ok (.iload 4, 2) := by decide +kernel
theorem dX8_laysWalls_222 : decode cX8_laysWalls 222 = .ok (.aload_n 0, 1) := by decide +kernel
theorem dX8_laysWalls_223 : decode cX8_laysWalls 223 = .ok (.getfield 32, 3) := by decide +kernel
theorem dX8_laysWalls_226 : decode cX8_laysWalls 226 = .ok (.iload 6, 2) := by decide +kernel
theorem dX8_laysWalls_228 : decode cX8_laysWalls 228 = .ok (.iaload, 1) := by decide +kernel
theorem dX8_laysWalls_229 : decode cX8_laysWalls 229 = .ok (.if_icmp .ge 8, 3) := by decide +kernel
theorem dX8_laysWalls_232 : decode cX8_laysWalls 232 = .ok (.iload 4, 2) := by decide +kernel
theorem dX8_laysWalls_234 : decode cX8_laysWalls 234 = .ok (.goto 10, 3) := by decide +kernel
theorem dX8_laysWalls_237 : decode cX8_laysWalls 237 = .ok (.aload_n 0, 1) := by decide +kernel
theorem dX8_laysWalls_238 : decode cX8_laysWalls 238 = .ok (.getfield 32, 3) := by decide +kernel
theorem dX8_laysWalls_241 : decode cX8_laysWalls 241 = .ok (.iload 6, 2) := by decide +kernel
theorem dX8_laysWalls_243 : decode cX8_laysWalls 243 = .ok (.iaload, 1) := by decide +kernel
theorem dX8_laysWalls_244 : decode cX8_laysWalls 244 = .ok (.iastore, 1) := by decide +kernel
theorem dX8_laysWalls_245 : decode cX8_laysWalls 245 = .ok (.aload_n 0, 1) := by decide +kernel
theorem dX8_laysWalls_246 : decode cX8_laysWalls 246 = .ok (.getfield 35, 3) := by decide +kernel
theorem dX8_laysWalls_249 : decode cX8_laysWalls 249 = .ok (.iload 6, 2) := by decide +kernel
theorem dX8_laysWalls_251 : decode cX8_laysWalls 251 = .ok (.iload 5, 2) := by decide +kernel
theorem dX8_laysWalls_253 : decode cX8_laysWalls 253 = .ok (.aload_n 0, 1) := by decide +kernel
theorem dX8_laysWalls_254 : decode cX8_laysWalls 254 = .ok (.getfield 35, 3) := by decide +kernel
theorem dX8_laysWalls_257 : decode cX8_laysWalls 257 = .ok (.iload 6, 2) := by decide +kernel
theorem dX8_laysWalls_259 : decode cX8_laysWalls 259 = .ok (.iaload, 1) := by decide +kernel
theorem dX8_laysWalls_260 : decode cX8_laysWalls 260 = .ok (.if_icmp .ge 8, 3) := by decide +kernel
theorem dX8_laysWalls_263 : decode cX8_laysWalls 263 = .ok (.iload 5, 2) := by decide +kernel
theorem dX8_laysWalls_265 : decode cX8_laysWalls 265 = .ok (.goto 10, 3) := by decide +kernel
theorem dX8_laysWalls_268 : decode cX8_laysWalls 268 = .ok (.aload_n 0, 1) := by decide +kernel
theorem dX8_laysWalls_269 : decode cX8_laysWalls 269 = .ok (.getfield 35, 3) := by decide +kernel
theorem dX8_laysWalls_272 : decode cX8_laysWalls 272 = .ok (.iload 6, 2) := by decide +kernel
theorem dX8_laysWalls_274 : decode cX8_laysWalls 274 = .ok (.iaload, 1) := by decide +kernel
theorem dX8_laysWalls_275 : decode cX8_laysWalls 275 = .ok (.iastore, 1) := by decide +kernel
theorem dX8_laysWalls_276 : decode cX8_laysWalls 276 = .ok (.iinc 3 1, 3) := by decide +kernel
theorem dX8_laysWalls_279 : decode cX8_laysWalls 279 = .ok (.goto (-129), 3) := by decide +kernel
theorem dX8_laysWalls_282 : decode cX8_laysWalls 282 = .ok (.iinc 2 1, 3) := by decide +kernel
theorem dX8_laysWalls_285 : decode cX8_laysWalls 285 = .ok (.goto (-143), 3) := by decide +kernel
theorem dX8_laysWalls_288 : decode cX8_laysWalls 288 = .ok (.iinc 1 1, 3) := by decide +kernel
theorem dX8_laysWalls_291 : decode cX8_laysWalls 291 = .ok (.goto (-157), 3) := by decide +kernel
theorem dX8_laysWalls_294 : decode cX8_laysWalls 294 = .ok (.return_, 1) := by decide +kernel
theorem dX8_isLit_0 : decode cX8_isLit 0 = .ok (.iload_n 3, 1) := by decide +kernel
theorem dX8_isLit_1 : decode cX8_isLit 1 = .ok (.aload_n 1, 1) := by decide +kernel
theorem dX8_isLit_2 : decode cX8_isLit 2 = .ok (.iconst 3, 1) := by decide +kernel
theorem dX8_isLit_3 : decode cX8_isLit 3 = .ok (.iload_n 2, 1) := by decide +kernel
theorem dX8_isLit_4 : decode cX8_isLit 4 = .ok (.iadd, 1) := by decide +kernel
theorem dX8_isLit_5 : decode cX8_isLit 5 = .ok (.iaload, 1) := by decide +kernel
theorem dX8_isLit_6 : decode cX8_isLit 6 = .ok (.if_icmp .ge 16, 3) := by decide +kernel
theorem dX8_isLit_9 : decode cX8_isLit 9 = .ok (.aload_n 1, 1) := by decide +kernel
theorem dX8_isLit_10 : decode cX8_isLit 10 = .ok (.bipush 9, 2) := by decide +kernel
theorem dX8_isLit_12 : decode cX8_isLit 12 = .ok (.iload_n 2, 1) := by decide +kernel
theorem dX8_isLit_13 : decode cX8_isLit 13 = .ok (.iadd, 1) := by decide +kernel
theorem dX8_isLit_14 : decode cX8_isLit 14 = .ok (.iaload, 1) := by decide +kernel
theorem dX8_isLit_15 : decode cX8_isLit 15 = .ok (.ifCond .ne 7, 3) := by decide +kernel
theorem dX8_isLit_18 : decode cX8_isLit 18 = .ok (.iconst 1, 1) := by decide +kernel
theorem dX8_isLit_19 : decode cX8_isLit 19 = .ok (.goto 4, 3) := by decide +kernel
theorem dX8_isLit_22 : decode cX8_isLit 22 = .ok (.iconst 0, 1) := by decide +kernel
theorem dX8_isLit_23 : decode cX8_isLit 23 = .ok (.ireturn, 1) := by decide +kernel
theorem dX8_litOf_0 : decode cX8_litOf 0 = .ok (.iconst 0, 1) := by decide +kernel
theorem dX8_litOf_1 : decode cX8_litOf 1 = .ok (.istore_n 1, 1) := by decide +kernel
theorem dX8_litOf_2 : decode cX8_litOf 2 = .ok (.iconst 0, 1) := by decide +kernel
theorem dX8_litOf_3 : decode cX8_litOf 3 = .ok (.istore_n 2, 1) := by decide +kernel
theorem dX8_litOf_4 : decode cX8_litOf 4 = .ok (.iload_n 2, 1) := by decide +kernel
theorem dX8_litOf_5 : decode cX8_litOf 5 = .ok (.aload_n 0, 1) := by decide +kernel
theorem dX8_litOf_6 : decode cX8_litOf 6 = .ok (.getfield 82, 3) := by decide +kernel
theorem dX8_litOf_9 : decode cX8_litOf 9 = .ok (.if_icmp .ge 37, 3) := by decide +kernel
theorem dX8_litOf_12 : decode cX8_litOf 12 = .ok (.iload_n 1, 1) := by decide +kernel
theorem dX8_litOf_13 : decode cX8_litOf 13 = .ok (.aload_n 0, 1) := by decide +kernel
theorem dX8_litOf_14 : decode cX8_litOf 14 = .ok (.aload_n 0, 1) := by decide +kernel
theorem dX8_litOf_15 : decode cX8_litOf 15 = .ok (.getfield 38, 3) := by decide +kernel
theorem dX8_litOf_18 : decode cX8_litOf 18 = .ok (.iload_n 2, 1) := by decide +kernel
theorem dX8_litOf_19 : decode cX8_litOf 19 = .ok (.aload_n 0, 1) := by decide +kernel
theorem dX8_litOf_20 : decode cX8_litOf 20 = .ok (.getfield 38, 3) := by decide +kernel
theorem dX8_litOf_23 : decode cX8_litOf 23 = .ok (.iconst 0, 1) := by decide +kernel
theorem dX8_litOf_24 : decode cX8_litOf 24 = .ok (.iaload, 1) := by decide +kernel
theorem dX8_litOf_25 : decode cX8_litOf 25 = .ok (.invokevirtual 177, 3) := by decide +kernel
theorem dX8_litOf_28 : decode cX8_litOf 28 = .ok (.ifCond .eq 9, 3) := by decide +kernel
theorem dX8_litOf_31 : decode cX8_litOf 31 = .ok (.iconst 1, 1) := by decide +kernel
theorem dX8_litOf_32 : decode cX8_litOf 32 = .ok (.iload_n 2, 1) := by decide +kernel
theorem dX8_litOf_33 : decode cX8_litOf 33 = .ok (.ishl, 1) := by decide +kernel
theorem dX8_litOf_34 : decode cX8_litOf 34 = .ok (.goto 4, 3) := by decide +kernel
theorem dX8_litOf_37 : decode cX8_litOf 37 = .ok (.iconst 0, 1) := by decide +kernel
theorem dX8_litOf_38 : decode cX8_litOf 38 = .ok (.ior, 1) := by decide +kernel
theorem dX8_litOf_39 : decode cX8_litOf 39 = .ok (.istore_n 1, 1) := by decide +kernel
theorem dX8_litOf_40 : decode cX8_litOf 40 = .ok (.iinc 2 1, 3) := by decide +kernel
theorem dX8_litOf_43 : decode cX8_litOf 43 = .ok (.goto (-39), 3) := by decide +kernel
theorem dX8_litOf_46 : decode cX8_litOf 46 = .ok (.iload_n 1, 1) := by decide +kernel
theorem dX8_litOf_47 : decode cX8_litOf 47 = .ok (.ireturn, 1) := by decide +kernel
theorem dX8_hearsFrom_0 : decode cX8_hearsFrom 0 = .ok (.iconst 0, 1) := by decide +kernel
theorem dX8_hearsFrom_1 : decode cX8_hearsFrom 1 = .ok (.istore_n 3, 1) := by decide +kernel
theorem dX8_hearsFrom_2 : decode cX8_hearsFrom 2 = .ok (.iconst 0, 1) := by decide +kernel
theorem dX8_hearsFrom_3 : decode cX8_hearsFrom 3 = .ok (.istore 4, 2) := by decide +kernel
theorem dX8_hearsFrom_5 : decode cX8_hearsFrom 5 = .ok (.iload 4, 2) := by decide +kernel
theorem dX8_hearsFrom_7 : decode cX8_hearsFrom 7 = .ok (.aload_n 0, 1) := by decide +kernel
theorem dX8_hearsFrom_8 : decode cX8_hearsFrom 8 = .ok (.getfield 82, 3) := by decide +kernel
theorem dX8_hearsFrom_11 : decode cX8_hearsFrom 11 = .ok (.if_icmp .ge 41, 3) := by decide +kernel
theorem dX8_hearsFrom_14 : decode cX8_hearsFrom 14 = .ok (.iload_n 3, 1) := by decide +kernel
theorem dX8_hearsFrom_15 : decode cX8_hearsFrom 15 = .ok (.aload_n 0, 1) := by decide +kernel
theorem dX8_hearsFrom_16 : decode cX8_hearsFrom 16 = .ok (.getfield 32, 3) := by decide +kernel
theorem dX8_hearsFrom_19 : decode cX8_hearsFrom 19 = .ok (.bipush 6, 2) := by decide +kernel
theorem dX8_hearsFrom_21 : decode cX8_hearsFrom 21 = .ok (.iload_n 2, 1) := by decide +kernel
theorem dX8_hearsFrom_22 : decode cX8_hearsFrom 22 = .ok (.imul, 1) := by decide +kernel
theorem dX8_hearsFrom_23 : decode cX8_hearsFrom 23 = .ok (.iload 4, 2) := by decide +kernel
theorem dX8_hearsFrom_25 : decode cX8_hearsFrom 25 = .ok (.iadd, 1) := by decide +kernel
theorem dX8_hearsFrom_26 : decode cX8_hearsFrom 26 = .ok (.iaload, 1) := by decide +kernel
theorem dX8_hearsFrom_27 : decode cX8_hearsFrom 27 = .ok (.aload_n 0, 1) := by decide +kernel
theorem dX8_hearsFrom_28 : decode cX8_hearsFrom 28 = .ok (.getfield 29, 3) := by decide +kernel
theorem dX8_hearsFrom_31 : decode cX8_hearsFrom 31 = .ok (.iload_n 1, 1) := by decide +kernel
theorem dX8_hearsFrom_32 : decode cX8_hearsFrom 32 = .ok (.iaload, 1) := by decide +kernel
theorem dX8_hearsFrom_33 : decode cX8_hearsFrom 33 = .ok (.if_icmp .ge 10, 3) := by decide +kernel
theorem dX8_hearsFrom_36 : decode cX8_hearsFrom 36 = .ok (.iconst 1, 1) := by decide +kernel
theorem dX8_hearsFrom_37 : decode cX8_hearsFrom 37 = .ok (.iload 4, 2) := by decide +kernel
theorem dX8_hearsFrom_39 : decode cX8_hearsFrom 39 = .ok (.ishl, 1) := by decide +kernel
theorem dX8_hearsFrom_40 : decode cX8_hearsFrom 40 = .ok (.goto 4, 3) := by decide +kernel
theorem dX8_hearsFrom_43 : decode cX8_hearsFrom 43 = .ok (.iconst 0, 1) := by decide +kernel
theorem dX8_hearsFrom_44 : decode cX8_hearsFrom 44 = .ok (.ior, 1) := by decide +kernel
theorem dX8_hearsFrom_45 : decode cX8_hearsFrom 45 = .ok (.istore_n 3, 1) := by decide +kernel
theorem dX8_hearsFrom_46 : decode cX8_hearsFrom 46 = .ok (.iinc 4 1, 3) := by decide +kernel
theorem dX8_hearsFrom_49 : decode cX8_hearsFrom 49 = .ok (.goto (-44), 3) := by decide +kernel
theorem dX8_hearsFrom_52 : decode cX8_hearsFrom 52 = .ok (.iload_n 3, 1) := by decide +kernel
theorem dX8_hearsFrom_53 : decode cX8_hearsFrom 53 = .ok (.ireturn, 1) := by decide +kernel
theorem dX8_countsIn_0 : decode cX8_countsIn 0 = .ok (.iload_n 3, 1) := by decide +kernel
theorem dX8_countsIn_1 : decode cX8_countsIn 1 = .ok (.aload_n 0, 1) := by decide +kernel
theorem dX8_countsIn_2 : decode cX8_countsIn 2 = .ok (.getfield 154, 3) := by decide +kernel
theorem dX8_countsIn_5 : decode cX8_countsIn 5 = .ok (.iconst 2, 1) := by decide +kernel
theorem dX8_countsIn_6 : decode cX8_countsIn 6 = .ok (.idiv, 1) := by decide +kernel
theorem dX8_countsIn_7 : decode cX8_countsIn 7 = .ok (.if_icmp .lt 7, 3) := by decide +kernel
theorem dX8_countsIn_10 : decode cX8_countsIn 10 = .ok (.iconst 1, 1) := by decide +kernel
theorem dX8_countsIn_11 : decode cX8_countsIn 11 = .ok (.goto 4, 3) := by decide +kernel
theorem dX8_countsIn_14 : decode cX8_countsIn 14 = .ok (.iconst 0, 1) := by decide +kernel
theorem dX8_countsIn_15 : decode cX8_countsIn 15 = .ok (.istore 6, 2) := by decide +kernel
theorem dX8_countsIn_17 : decode cX8_countsIn 17 = .ok (.iload 4, 2) := by decide +kernel
theorem dX8_countsIn_19 : decode cX8_countsIn 19 = .ok (.iconst 2, 1) := by decide +kernel
theorem dX8_countsIn_20 : decode cX8_countsIn 20 = .ok (.if_icmp .ne 10, 3) := by decide +kernel
theorem dX8_countsIn_23 : decode cX8_countsIn 23 = .ok (.iload 6, 2) := by decide +kernel
theorem dX8_countsIn_25 : decode cX8_countsIn 25 = .ok (.ifCond .ne 5, 3) := by decide +kernel
theorem dX8_countsIn_28 : decode cX8_countsIn 28 = .ok (.iconst 0, 1) := by decide +kernel
theorem dX8_countsIn_29 : decode cX8_countsIn 29 = .ok (.ireturn, 1) := by decide +kernel
theorem dX8_countsIn_30 : decode cX8_countsIn 30 = .ok (.aload_n 0, 1) := by decide +kernel
theorem dX8_countsIn_31 : decode cX8_countsIn 31 = .ok (.getfield 26, 3) := by decide +kernel
theorem dX8_countsIn_34 : decode cX8_countsIn 34 = .ok (.iload_n 1, 1) := by decide +kernel
theorem dX8_countsIn_35 : decode cX8_countsIn 35 = .ok (.iaload, 1) := by decide +kernel
theorem dX8_countsIn_36 : decode cX8_countsIn 36 = .ok (.iconst 3, 1) := by decide +kernel
theorem dX8_countsIn_37 : decode cX8_countsIn 37 = .ok (.if_icmp .ne 7, 3) := by decide +kernel
theorem dX8_countsIn_40 : decode cX8_countsIn 40 = .ok (.iconst 1, 1) := by decide +kernel
theorem dX8_countsIn_41 : decode cX8_countsIn 41 = .ok (.iload_n 2, 1) := by decide +kernel
theorem dX8_countsIn_42 : decode cX8_countsIn 42 = .ok (.ishl, 1) := by decide +kernel
theorem dX8_countsIn_43 : decode cX8_countsIn 43 = .ok (.ireturn, 1) := by decide +kernel
theorem dX8_countsIn_44 : decode cX8_countsIn 44 = .ok (.aload_n 0, 1) := by decide +kernel
theorem dX8_countsIn_45 : decode cX8_countsIn 45 = .ok (.getfield 26, 3) := by decide +kernel
theorem dX8_countsIn_48 : decode cX8_countsIn 48 = .ok (.iload_n 1, 1) := by decide +kernel
theorem dX8_countsIn_49 : decode cX8_countsIn 49 = .ok (.iaload, 1) := by decide +kernel
theorem dX8_countsIn_50 : decode cX8_countsIn 50 = .ok (.iconst 4, 1) := by decide +kernel
theorem dX8_countsIn_51 : decode cX8_countsIn 51 = .ok (.if_icmp .ne 33, 3) := by decide +kernel
theorem dX8_countsIn_54 : decode cX8_countsIn 54 = .ok (.aload_n 0, 1) := by decide +kernel
theorem dX8_countsIn_55 : decode cX8_countsIn 55 = .ok (.aload_n 0, 1) := by decide +kernel
theorem dX8_countsIn_56 : decode cX8_countsIn 56 = .ok (.getfield 38, 3) := by decide +kernel
theorem dX8_countsIn_59 : decode cX8_countsIn 59 = .ok (.iload_n 2, 1) := by decide +kernel
theorem dX8_countsIn_60 : decode cX8_countsIn 60 = .ok (.iload_n 3, 1) := by decide +kernel
theorem dX8_countsIn_61 : decode cX8_countsIn 61 = .ok (.invokevirtual 177, 3) := by decide +kernel
theorem dX8_countsIn_64 : decode cX8_countsIn 64 = .ok (.ifCond .eq 18, 3) := by decide +kernel
theorem dX8_countsIn_67 : decode cX8_countsIn 67 = .ok (.iload 5, 2) := by decide +kernel
theorem dX8_countsIn_69 : decode cX8_countsIn 69 = .ok (.iload_n 2, 1) := by decide +kernel
theorem dX8_countsIn_70 : decode cX8_countsIn 70 = .ok (.invokestatic 181, 3) := by decide +kernel
theorem dX8_countsIn_73 : decode cX8_countsIn 73 = .ok (.ifCond .eq 9, 3) := by decide +kernel
theorem dX8_countsIn_76 : decode cX8_countsIn 76 = .ok (.iconst 1, 1) := by decide +kernel
theorem dX8_countsIn_77 : decode cX8_countsIn 77 = .ok (.iload_n 2, 1) := by decide +kernel
theorem dX8_countsIn_78 : decode cX8_countsIn 78 = .ok (.ishl, 1) := by decide +kernel
theorem dX8_countsIn_79 : decode cX8_countsIn 79 = .ok (.goto 4, 3) := by decide +kernel
theorem dX8_countsIn_82 : decode cX8_countsIn 82 = .ok (.iconst 0, 1) := by decide +kernel
theorem dX8_countsIn_83 : decode cX8_countsIn 83 = .ok (.ireturn, 1) := by decide +kernel
theorem dX8_countsIn_84 : decode cX8_countsIn 84 = .ok (.aload_n 0, 1) := by decide +kernel
theorem dX8_countsIn_85 : decode cX8_countsIn 85 = .ok (.getfield 26, 3) := by decide +kernel
theorem dX8_countsIn_88 : decode cX8_countsIn 88 = .ok (.iload_n 1, 1) := by decide +kernel
theorem dX8_countsIn_89 : decode cX8_countsIn 89 = .ok (.iaload, 1) := by decide +kernel
theorem dX8_countsIn_90 : decode cX8_countsIn 90 = .ok (.iconst 1, 1) := by decide +kernel
theorem dX8_countsIn_91 : decode cX8_countsIn 91 = .ok (.if_icmp .ne 10, 3) := by decide +kernel
theorem dX8_countsIn_94 : decode cX8_countsIn 94 = .ok (.iload 6, 2) := by decide +kernel
theorem dX8_countsIn_96 : decode cX8_countsIn 96 = .ok (.ifCond .ne 5, 3) := by decide +kernel
theorem dX8_countsIn_99 : decode cX8_countsIn 99 = .ok (.iconst 0, 1) := by decide +kernel
theorem dX8_countsIn_100 : decode cX8_countsIn 100 = .ok (.ireturn, 1) := by decide +kernel
theorem dX8_countsIn_101 : decode cX8_countsIn 101 = .ok (.iload 4, 2) := by decide +kernel
theorem dX8_countsIn_103 : decode cX8_countsIn 103 = .ok (.iconst 1, 1) := by decide +kernel
theorem dX8_countsIn_104 : decode cX8_countsIn 104 = .ok (.if_icmp .ne 9, 3) := by decide +kernel
theorem dX8_countsIn_107 : decode cX8_countsIn 107 = .ok (.iconst 1, 1) := by decide +kernel
theorem dX8_countsIn_108 : decode cX8_countsIn 108 = .ok (.iload_n 2, 1) := by decide +kernel
theorem dX8_countsIn_109 : decode cX8_countsIn 109 = .ok (.ishl, 1) := by decide +kernel
theorem dX8_countsIn_110 : decode cX8_countsIn 110 = .ok (.goto 9, 3) := by decide +kernel
theorem dX8_countsIn_113 : decode cX8_countsIn 113 = .ok (.aload_n 0, 1) := by decide +kernel
theorem dX8_countsIn_114 : decode cX8_countsIn 114 = .ok (.iload_n 1, 1) := by decide +kernel
theorem dX8_countsIn_115 : decode cX8_countsIn 115 = .ok (.iload_n 2, 1) := by decide +kernel
theorem dX8_countsIn_116 : decode cX8_countsIn 116 = .ok (.invokevirtual 185, 3) := by decide +kernel
theorem dX8_countsIn_119 : decode cX8_countsIn 119 = .ok (.istore 7, 2) := by decide +kernel
theorem dX8_countsIn_121 : decode cX8_countsIn 121 = .ok (.iconst 0, 1) := by decide +kernel
theorem dX8_countsIn_122 : decode cX8_countsIn 122 = .ok (.istore 8, 2) := by decide +kernel
theorem dX8_countsIn_124 : decode cX8_countsIn 124 = .ok (.iconst 0, 1) := by decide +kernel
theorem dX8_countsIn_125 : decode cX8_countsIn 125 = .ok (.istore 9, 2) := by decide +kernel
theorem dX8_countsIn_127 : decode cX8_countsIn 127 = .ok (.iload 9, 2) := by decide +kernel
theorem dX8_countsIn_129 : decode cX8_countsIn 129 = .ok (.aload_n 0, 1) := by decide +kernel
theorem dX8_countsIn_130 : decode cX8_countsIn 130 = .ok (.getfield 82, 3) := by decide +kernel
theorem dX8_countsIn_133 : decode cX8_countsIn 133 = .ok (.if_icmp .ge 46, 3) := by decide +kernel
theorem dX8_countsIn_136 : decode cX8_countsIn 136 = .ok (.iload 8, 2) := by decide +kernel
theorem dX8_countsIn_138 : decode cX8_countsIn 138 = .ok (.iload 7, 2) := by decide +kernel
theorem dX8_countsIn_140 : decode cX8_countsIn 140 = .ok (.iload 9, 2) := by decide +kernel
theorem dX8_countsIn_142 : decode cX8_countsIn 142 = .ok (.invokestatic 181, 3) := by decide +kernel
theorem dX8_countsIn_145 : decode cX8_countsIn 145 = .ok (.ifCond .eq 24, 3) := by decide +kernel
theorem dX8_countsIn_148 : decode cX8_countsIn 148 = .ok (.aload_n 0, 1) := by decide +kernel
theorem dX8_countsIn_149 : decode cX8_countsIn 149 = .ok (.aload_n 0, 1) := by decide +kernel
theorem dX8_countsIn_150 : decode cX8_countsIn 150 = .ok (.getfield 38, 3) := by decide +kernel
theorem dX8_countsIn_153 : decode cX8_countsIn 153 = .ok (.iload 9, 2) := by decide +kernel
theorem dX8_countsIn_155 : decode cX8_countsIn 155 = .ok (.iload_n 3, 1) := by decide +kernel
theorem dX8_countsIn_156 : decode cX8_countsIn 156 = .ok (.invokevirtual 177, 3) := by decide +kernel
theorem dX8_countsIn_159 : decode cX8_countsIn 159 = .ok (.ifCond .eq 10, 3) := by decide +kernel
theorem dX8_countsIn_162 : decode cX8_countsIn 162 = .ok (.iconst 1, 1) := by decide +kernel
theorem dX8_countsIn_163 : decode cX8_countsIn 163 = .ok (.iload 9, 2) := by decide +kernel
theorem dX8_countsIn_165 : decode cX8_countsIn 165 = .ok (.ishl, 1) := by decide +kernel
theorem dX8_countsIn_166 : decode cX8_countsIn 166 = .ok (.goto 4, 3) := by decide +kernel
theorem dX8_countsIn_169 : decode cX8_countsIn 169 = .ok (.iconst 0, 1) := by decide +kernel
theorem dX8_countsIn_170 : decode cX8_countsIn 170 = .ok (.ior, 1) := by decide +kernel
theorem dX8_countsIn_171 : decode cX8_countsIn 171 = .ok (.istore 8, 2) := by decide +kernel
theorem dX8_countsIn_173 : decode cX8_countsIn 173 = .ok (.iinc 9 1, 3) := by decide +kernel
theorem dX8_countsIn_176 : decode cX8_countsIn 176 = .ok (.goto (-49), 3) := by decide +kernel
theorem dX8_countsIn_179 : decode cX8_countsIn 179 = .ok (.iload 8, 2) := by decide +kernel
theorem dX8_countsIn_181 : decode cX8_countsIn 181 = .ok (.ireturn, 1) := by decide +kernel
theorem dX8_whoseOf_0 : decode cX8_whoseOf 0 = .ok (.aload_n 0, 1) := by decide +kernel
theorem dX8_whoseOf_1 : decode cX8_whoseOf 1 = .ok (.getfield 26, 3) := by decide +kernel
theorem dX8_whoseOf_4 : decode cX8_whoseOf 4 = .ok (.iload_n 1, 1) := by decide +kernel
theorem dX8_whoseOf_5 : decode cX8_whoseOf 5 = .ok (.iaload, 1) := by decide +kernel
theorem dX8_whoseOf_6 : decode cX8_whoseOf 6 = .ok (.iconst 2, 1) := by decide +kernel
theorem dX8_whoseOf_7 : decode cX8_whoseOf 7 = .ok (.if_icmp .ne 12, 3) := by decide +kernel
theorem dX8_whoseOf_10 : decode cX8_whoseOf 10 = .ok (.iload_n 2, 1) := by decide +kernel
theorem dX8_whoseOf_11 : decode cX8_whoseOf 11 = .ok (.iconst 3, 1) := by decide +kernel
theorem dX8_whoseOf_12 : decode cX8_whoseOf 12 = .ok (.if_icmp .eq 7, 3) := by decide +kernel
theorem dX8_whoseOf_15 : decode cX8_whoseOf 15 = .ok (.iconst 0, 1) := by decide +kernel
theorem dX8_whoseOf_16 : decode cX8_whoseOf 16 = .ok (.goto 4, 3) := by decide +kernel
theorem dX8_whoseOf_19 : decode cX8_whoseOf 19 = .ok (.iload_n 1, 1) := by decide +kernel
theorem dX8_whoseOf_20 : decode cX8_whoseOf 20 = .ok (.ireturn, 1) := by decide +kernel
theorem dX8_wordedOf_0 : decode cX8_wordedOf 0 = .ok (.iconst 0, 1) := by decide +kernel
theorem dX8_wordedOf_1 : decode cX8_wordedOf 1 = .ok (.istore_n 2, 1) := by decide +kernel
theorem dX8_wordedOf_2 : decode cX8_wordedOf 2 = .ok (.iconst 0, 1) := by decide +kernel
theorem dX8_wordedOf_3 : decode cX8_wordedOf 3 = .ok (.istore_n 3, 1) := by decide +kernel
theorem dX8_wordedOf_4 : decode cX8_wordedOf 4 = .ok (.iload_n 3, 1) := by decide +kernel
theorem dX8_wordedOf_5 : decode cX8_wordedOf 5 = .ok (.aload_n 0, 1) := by decide +kernel
theorem dX8_wordedOf_6 : decode cX8_wordedOf 6 = .ok (.getfield 82, 3) := by decide +kernel
theorem dX8_wordedOf_9 : decode cX8_wordedOf 9 = .ok (.if_icmp .ge 36, 3) := by decide +kernel
theorem dX8_wordedOf_12 : decode cX8_wordedOf 12 = .ok (.iload_n 2, 1) := by decide +kernel
theorem dX8_wordedOf_13 : decode cX8_wordedOf 13 = .ok (.aload_n 0, 1) := by decide +kernel
theorem dX8_wordedOf_14 : decode cX8_wordedOf 14 = .ok (.getfield 38, 3) := by decide +kernel
theorem dX8_wordedOf_17 : decode cX8_wordedOf 17 = .ok (.bipush 21, 2) := by decide +kernel
theorem dX8_wordedOf_19 : decode cX8_wordedOf 19 = .ok (.bipush 6, 2) := by decide +kernel
theorem dX8_wordedOf_21 : decode cX8_wordedOf 21 = .ok (.iload_n 1, 1) := by decide +kernel
theorem dX8_wordedOf_22 : decode cX8_wordedOf 22 = .ok (.imul, 1) := by decide +kernel
theorem dX8_wordedOf_23 : decode cX8_wordedOf 23 = .ok (.iadd, 1) := by decide +kernel
theorem dX8_wordedOf_24 : decode cX8_wordedOf 24 = .ok (.iload_n 3, 1) := by decide +kernel
theorem dX8_wordedOf_25 : decode cX8_wordedOf 25 = .ok (.iadd, 1) := by decide +kernel
theorem dX8_wordedOf_26 : decode cX8_wordedOf 26 = .ok (.iaload, 1) := by decide +kernel
theorem dX8_wordedOf_27 : decode cX8_wordedOf 27 = .ok (.ifCond .lt 9, 3) := by decide +kernel
theorem dX8_wordedOf_30 : decode cX8_wordedOf 30 = .ok (.iconst 1, 1) := by decide +kernel
theorem dX8_wordedOf_31 : decode cX8_wordedOf 31 = .ok (.iload_n 3, 1) := by decide +kernel
theorem dX8_wordedOf_32 : decode cX8_wordedOf 32 = .ok (.ishl, 1) := by decide +kernel
theorem dX8_wordedOf_33 : decode cX8_wordedOf 33 = .ok (.goto 4, 3) := by decide +kernel
theorem dX8_wordedOf_36 : decode cX8_wordedOf 36 = .ok (.iconst 0, 1) := by decide +kernel
theorem dX8_wordedOf_37 : decode cX8_wordedOf 37 = .ok (.ior, 1) := by decide +kernel
theorem dX8_wordedOf_38 : decode cX8_wordedOf 38 = .ok (.istore_n 2, 1) := by decide +kernel
theorem dX8_wordedOf_39 : decode cX8_wordedOf 39 = .ok (.iinc 3 1, 3) := by decide +kernel
theorem dX8_wordedOf_42 : decode cX8_wordedOf 42 = .ok (.goto (-38), 3) := by decide +kernel
theorem dX8_wordedOf_45 : decode cX8_wordedOf 45 = .ok (.iload_n 2, 1) := by decide +kernel
theorem dX8_wordedOf_46 : decode cX8_wordedOf 46 = .ok (.ireturn, 1) := by decide +kernel
theorem dX8_countsOf_0 : decode cX8_countsOf 0 = .ok (.aload_n 0, 1) := by decide +kernel
theorem dX8_countsOf_1 : decode cX8_countsOf 1 = .ok (.iload_n 1, 1) := by decide +kernel
theorem dX8_countsOf_2 : decode cX8_countsOf 2 = .ok (.aload_n 0, 1) := by decide +kernel
theorem dX8_countsOf_3 : decode cX8_countsOf 3 = .ok (.getfield 38, 3) := by decide +kernel
theorem dX8_countsOf_6 : decode cX8_countsOf 6 = .ok (.bipush 45, 2) := by decide +kernel
theorem dX8_countsOf_8 : decode cX8_countsOf 8 = .ok (.iload_n 1, 1) := by decide +kernel
theorem dX8_countsOf_9 : decode cX8_countsOf 9 = .ok (.iadd, 1) := by decide +kernel
theorem dX8_countsOf_10 : decode cX8_countsOf 10 = .ok (.iaload, 1) := by decide +kernel
theorem dX8_countsOf_11 : decode cX8_countsOf 11 = .ok (.aload_n 0, 1) := by decide +kernel
theorem dX8_countsOf_12 : decode cX8_countsOf 12 = .ok (.getfield 38, 3) := by decide +kernel
theorem dX8_countsOf_15 : decode cX8_countsOf 15 = .ok (.iconst 0, 1) := by decide +kernel
theorem dX8_countsOf_16 : decode cX8_countsOf 16 = .ok (.iaload, 1) := by decide +kernel
theorem dX8_countsOf_17 : decode cX8_countsOf 17 = .ok (.iconst 0, 1) := by decide +kernel
theorem dX8_countsOf_18 : decode cX8_countsOf 18 = .ok (.aload_n 0, 1) := by decide +kernel
theorem dX8_countsOf_19 : decode cX8_countsOf 19 = .ok (.iconst 0, 1) := by decide +kernel
theorem dX8_countsOf_20 : decode cX8_countsOf 20 = .ok (.invokevirtual 189, 3) := by decide +kernel
theorem dX8_countsOf_23 : decode cX8_countsOf 23 = .ok (.invokevirtual 193, 3) := by decide +kernel
theorem dX8_countsOf_26 : decode cX8_countsOf 26 = .ok (.istore_n 2, 1) := by decide +kernel
theorem dX8_countsOf_27 : decode cX8_countsOf 27 = .ok (.iconst 0, 1) := by decide +kernel
theorem dX8_countsOf_28 : decode cX8_countsOf 28 = .ok (.istore_n 3, 1) := by decide +kernel
theorem dX8_countsOf_29 : decode cX8_countsOf 29 = .ok (.iconst 0, 1) := by decide +kernel
theorem dX8_countsOf_30 : decode cX8_countsOf 30 = .ok (.istore 4, 2) := by decide +kernel
theorem dX8_countsOf_32 : decode cX8_countsOf 32 = .ok (.iload 4, 2) := by decide +kernel
theorem dX8_countsOf_34 : decode cX8_countsOf 34 = .ok (.aload_n 0, 1) := by decide +kernel
theorem dX8_countsOf_35 : decode cX8_countsOf 35 = .ok (.getfield 82, 3) := by decide +kernel
theorem dX8_countsOf_38 : decode cX8_countsOf 38 = .ok (.if_icmp .ge 48, 3) := by decide +kernel
theorem dX8_countsOf_41 : decode cX8_countsOf 41 = .ok (.iload_n 3, 1) := by decide +kernel
theorem dX8_countsOf_42 : decode cX8_countsOf 42 = .ok (.iload_n 2, 1) := by decide +kernel
theorem dX8_countsOf_43 : decode cX8_countsOf 43 = .ok (.iload 4, 2) := by decide +kernel
theorem dX8_countsOf_45 : decode cX8_countsOf 45 = .ok (.invokestatic 181, 3) := by decide +kernel
theorem dX8_countsOf_48 : decode cX8_countsOf 48 = .ok (.ifCond .eq 29, 3) := by decide +kernel
theorem dX8_countsOf_51 : decode cX8_countsOf 51 = .ok (.aload_n 0, 1) := by decide +kernel
theorem dX8_countsOf_52 : decode cX8_countsOf 52 = .ok (.getfield 38, 3) := by decide +kernel
theorem dX8_countsOf_55 : decode cX8_countsOf 55 = .ok (.bipush 21, 2) := by decide +kernel
theorem dX8_countsOf_57 : decode cX8_countsOf 57 = .ok (.iload 4, 2) := by decide +kernel
theorem dX8_countsOf_59 : decode cX8_countsOf 59 = .ok (.iadd, 1) := by decide +kernel
theorem dX8_countsOf_60 : decode cX8_countsOf 60 = .ok (.iaload, 1) := by decide +kernel
theorem dX8_countsOf_61 : decode cX8_countsOf 61 = .ok (.aload_n 0, 1) := by decide +kernel
theorem dX8_countsOf_62 : decode cX8_countsOf 62 = .ok (.iload_n 1, 1) := by decide +kernel
theorem dX8_countsOf_63 : decode cX8_countsOf 63 = .ok (.iconst 0, 1) := by decide +kernel
theorem dX8_countsOf_64 : decode cX8_countsOf 64 = .ok (.invokevirtual 197, 3) := by decide +kernel
theorem dX8_countsOf_67 : decode cX8_countsOf 67 = .ok (.if_icmp .eq 10, 3) := by decide +kernel
theorem dX8_countsOf_70 : decode cX8_countsOf 70 = .ok (.iconst 1, 1) := by decide +kernel
theorem dX8_countsOf_71 : decode cX8_countsOf 71 = .ok (.iload 4, 2) := by decide +kernel
theorem dX8_countsOf_73 : decode cX8_countsOf 73 = .ok (.ishl, 1) := by decide +kernel
theorem dX8_countsOf_74 : decode cX8_countsOf 74 = .ok (.goto 4, 3) := by decide +kernel
theorem dX8_countsOf_77 : decode cX8_countsOf 77 = .ok (.iconst 0, 1) := by decide +kernel
theorem dX8_countsOf_78 : decode cX8_countsOf 78 = .ok (.ior, 1) := by decide +kernel
end
section
theorem dX8_countsOf_79 : decode cX8_countsOf 79 = .ok (.istore_n 3, 1) := by decide +kernel
theorem dX8_countsOf_80 : decode cX8_countsOf 80 = .ok (.iinc 4 1, 3) := by decide +kernel
theorem dX8_countsOf_83 : decode cX8_countsOf 83 = .ok (.goto (-51), 3) := by decide +kernel
theorem dX8_countsOf_86 : decode cX8_countsOf 86 = .ok (.iload_n 3, 1) := by decide +kernel
theorem dX8_countsOf_87 : decode cX8_countsOf 87 = .ok (.ireturn, 1) := by decide +kernel
theorem dX8_says_0 : decode cX8_says 0 = .ok (.iconst 0, 1) := by decide +kernel
theorem dX8_says_1 : decode cX8_says 1 = .ok (.istore_n 2, 1) := by decide +kernel
theorem dX8_says_2 : decode cX8_says 2 = .ok (.iload_n 2, 1) := by decide +kernel
theorem dX8_says_3 : decode cX8_says 3 = .ok (.iconst 4, 1) := by decide +kernel
theorem dX8_says_4 : decode cX8_says 4 = .ok (.if_icmp .ge 98, 3) := by decide +kernel
theorem dX8_says_7 : decode cX8_says 7 = .ok (.aload_n 0, 1) := by decide +kernel
theorem dX8_says_8 : decode cX8_says 8 = .ok (.iload_n 1, 1) := by decide +kernel
theorem dX8_says_9 : decode cX8_says 9 = .ok (.aload_n 0, 1) := by decide +kernel
theorem dX8_says_10 : decode cX8_says 10 = .ok (.getfield 38, 3) := by decide +kernel
theorem dX8_says_13 : decode cX8_says 13 = .ok (.bipush 45, 2) := by decide +kernel
theorem dX8_says_15 : decode cX8_says 15 = .ok (.iload_n 1, 1) := by decide +kernel
theorem dX8_says_16 : decode cX8_says 16 = .ok (.iadd, 1) := by decide +kernel
theorem dX8_says_17 : decode cX8_says 17 = .ok (.iaload, 1) := by decide +kernel
theorem dX8_says_18 : decode cX8_says 18 = .ok (.aload_n 0, 1) := by decide +kernel
theorem dX8_says_19 : decode cX8_says 19 = .ok (.getfield 38, 3) := by decide +kernel
theorem dX8_says_22 : decode cX8_says 22 = .ok (.iconst 0, 1) := by decide +kernel
theorem dX8_says_23 : decode cX8_says 23 = .ok (.iaload, 1) := by decide +kernel
theorem dX8_says_24 : decode cX8_says 24 = .ok (.iload_n 2, 1) := by decide +kernel
theorem dX8_says_25 : decode cX8_says 25 = .ok (.aload_n 0, 1) := by decide +kernel
theorem dX8_says_26 : decode cX8_says 26 = .ok (.iload_n 2, 1) := by decide +kernel
theorem dX8_says_27 : decode cX8_says 27 = .ok (.invokevirtual 189, 3) := by decide +kernel
theorem dX8_says_30 : decode cX8_says 30 = .ok (.invokevirtual 193, 3) := by decide +kernel
theorem dX8_says_33 : decode cX8_says 33 = .ok (.istore_n 3, 1) := by decide +kernel
theorem dX8_says_34 : decode cX8_says 34 = .ok (.iconst 0, 1) := by decide +kernel
theorem dX8_says_35 : decode cX8_says 35 = .ok (.istore 4, 2) := by decide +kernel
theorem dX8_says_37 : decode cX8_says 37 = .ok (.iload 4, 2) := by decide +kernel
theorem dX8_says_39 : decode cX8_says 39 = .ok (.aload_n 0, 1) := by decide +kernel
theorem dX8_says_40 : decode cX8_says 40 = .ok (.getfield 82, 3) := by decide +kernel
theorem dX8_says_43 : decode cX8_says 43 = .ok (.if_icmp .ge 53, 3) := by decide +kernel
theorem dX8_says_46 : decode cX8_says 46 = .ok (.bipush 21, 2) := by decide +kernel
theorem dX8_says_48 : decode cX8_says 48 = .ok (.bipush 6, 2) := by decide +kernel
theorem dX8_says_50 : decode cX8_says 50 = .ok (.iload_n 2, 1) := by decide +kernel
theorem dX8_says_51 : decode cX8_says 51 = .ok (.imul, 1) := by decide +kernel
theorem dX8_says_52 : decode cX8_says 52 = .ok (.iadd, 1) := by decide +kernel
theorem dX8_says_53 : decode cX8_says 53 = .ok (.iload 4, 2) := by decide +kernel
theorem dX8_says_55 : decode cX8_says 55 = .ok (.iadd, 1) := by decide +kernel
theorem dX8_says_56 : decode cX8_says 56 = .ok (.istore 5, 2) := by decide +kernel
theorem dX8_says_58 : decode cX8_says 58 = .ok (.aload_n 0, 1) := by decide +kernel
theorem dX8_says_59 : decode cX8_says 59 = .ok (.getfield 38, 3) := by decide +kernel
theorem dX8_says_62 : decode cX8_says 62 = .ok (.iload 5, 2) := by decide +kernel
theorem dX8_says_64 : decode cX8_says 64 = .ok (.iload_n 3, 1) := by decide +kernel
theorem dX8_says_65 : decode cX8_says 65 = .ok (.iload 4, 2) := by decide +kernel
theorem dX8_says_67 : decode cX8_says 67 = .ok (.invokestatic 181, 3) := by decide +kernel
theorem dX8_says_70 : decode cX8_says 70 = .ok (.ifCond .eq 12, 3) := by decide +kernel
theorem dX8_says_73 : decode cX8_says 73 = .ok (.aload_n 0, 1) := by decide +kernel
theorem dX8_says_74 : decode cX8_says 74 = .ok (.iload_n 1, 1) := by decide +kernel
theorem dX8_says_75 : decode cX8_says 75 = .ok (.iload_n 2, 1) := by decide +kernel
theorem dX8_says_76 : decode cX8_says 76 = .ok (.invokevirtual 197, 3) := by decide +kernel
theorem dX8_says_79 : decode cX8_says 79 = .ok (.goto 10, 3) := by decide +kernel
theorem dX8_says_82 : decode cX8_says 82 = .ok (.aload_n 0, 1) := by decide +kernel
theorem dX8_says_83 : decode cX8_says 83 = .ok (.getfield 38, 3) := by decide +kernel
theorem dX8_says_86 : decode cX8_says 86 = .ok (.iload 5, 2) := by decide +kernel
theorem dX8_says_88 : decode cX8_says 88 = .ok (.iaload, 1) := by decide +kernel
theorem dX8_says_89 : decode cX8_says 89 = .ok (.iastore, 1) := by decide +kernel
theorem dX8_says_90 : decode cX8_says 90 = .ok (.iinc 4 1, 3) := by decide +kernel
theorem dX8_says_93 : decode cX8_says 93 = .ok (.goto (-56), 3) := by decide +kernel
theorem dX8_says_96 : decode cX8_says 96 = .ok (.iinc 2 1, 3) := by decide +kernel
theorem dX8_says_99 : decode cX8_says 99 = .ok (.goto (-97), 3) := by decide +kernel
theorem dX8_says_102 : decode cX8_says 102 = .ok (.aload_n 0, 1) := by decide +kernel
theorem dX8_says_103 : decode cX8_says 103 = .ok (.getfield 38, 3) := by decide +kernel
theorem dX8_says_106 : decode cX8_says 106 = .ok (.iconst 2, 1) := by decide +kernel
theorem dX8_says_107 : decode cX8_says 107 = .ok (.dup2, 1) := by decide +kernel
theorem dX8_says_108 : decode cX8_says 108 = .ok (.iaload, 1) := by decide +kernel
theorem dX8_says_109 : decode cX8_says 109 = .ok (.iconst 1, 1) := by decide +kernel
theorem dX8_says_110 : decode cX8_says 110 = .ok (.iadd, 1) := by decide +kernel
theorem dX8_says_111 : decode cX8_says 111 = .ok (.iastore, 1) := by decide +kernel
theorem dX8_says_112 : decode cX8_says 112 = .ok (.return_, 1) := by decide +kernel
theorem dX8_hourOn_0 : decode cX8_hourOn 0 = .ok (.aload_n 0, 1) := by decide +kernel
theorem dX8_hourOn_1 : decode cX8_hourOn 1 = .ok (.getfield 38, 3) := by decide +kernel
theorem dX8_hourOn_4 : decode cX8_hourOn 4 = .ok (.iconst 0, 1) := by decide +kernel
theorem dX8_hourOn_5 : decode cX8_hourOn 5 = .ok (.dup2, 1) := by decide +kernel
theorem dX8_hourOn_6 : decode cX8_hourOn 6 = .ok (.iaload, 1) := by decide +kernel
theorem dX8_hourOn_7 : decode cX8_hourOn 7 = .ok (.iconst 1, 1) := by decide +kernel
theorem dX8_hourOn_8 : decode cX8_hourOn 8 = .ok (.iadd, 1) := by decide +kernel
theorem dX8_hourOn_9 : decode cX8_hourOn 9 = .ok (.iastore, 1) := by decide +kernel
theorem dX8_hourOn_10 : decode cX8_hourOn 10 = .ok (.aload_n 0, 1) := by decide +kernel
theorem dX8_hourOn_11 : decode cX8_hourOn 11 = .ok (.getfield 38, 3) := by decide +kernel
theorem dX8_hourOn_14 : decode cX8_hourOn 14 = .ok (.iconst 0, 1) := by decide +kernel
theorem dX8_hourOn_15 : decode cX8_hourOn 15 = .ok (.iaload, 1) := by decide +kernel
theorem dX8_hourOn_16 : decode cX8_hourOn 16 = .ok (.aload_n 0, 1) := by decide +kernel
theorem dX8_hourOn_17 : decode cX8_hourOn 17 = .ok (.getfield 154, 3) := by decide +kernel
theorem dX8_hourOn_20 : decode cX8_hourOn 20 = .ok (.if_icmp .ge 4, 3) := by decide +kernel
theorem dX8_hourOn_23 : decode cX8_hourOn 23 = .ok (.return_, 1) := by decide +kernel
theorem dX8_hourOn_24 : decode cX8_hourOn 24 = .ok (.iconst 0, 1) := by decide +kernel
theorem dX8_hourOn_25 : decode cX8_hourOn 25 = .ok (.istore_n 1, 1) := by decide +kernel
theorem dX8_hourOn_26 : decode cX8_hourOn 26 = .ok (.iload_n 1, 1) := by decide +kernel
theorem dX8_hourOn_27 : decode cX8_hourOn 27 = .ok (.aload_n 0, 1) := by decide +kernel
theorem dX8_hourOn_28 : decode cX8_hourOn 28 = .ok (.getfield 82, 3) := by decide +kernel
theorem dX8_hourOn_31 : decode cX8_hourOn 31 = .ok (.if_icmp .ge 61, 3) := by decide +kernel
theorem dX8_hourOn_34 : decode cX8_hourOn 34 = .ok (.aload_n 0, 1) := by decide +kernel
theorem dX8_hourOn_35 : decode cX8_hourOn 35 = .ok (.getfield 38, 3) := by decide +kernel
theorem dX8_hourOn_38 : decode cX8_hourOn 38 = .ok (.bipush 15, 2) := by decide +kernel
theorem dX8_hourOn_40 : decode cX8_hourOn 40 = .ok (.iload_n 1, 1) := by decide +kernel
theorem dX8_hourOn_41 : decode cX8_hourOn 41 = .ok (.iadd, 1) := by decide +kernel
theorem dX8_hourOn_42 : decode cX8_hourOn 42 = .ok (.aload_n 0, 1) := by decide +kernel
theorem dX8_hourOn_43 : decode cX8_hourOn 43 = .ok (.getfield 38, 3) := by decide +kernel
theorem dX8_hourOn_46 : decode cX8_hourOn 46 = .ok (.bipush 21, 2) := by decide +kernel
theorem dX8_hourOn_48 : decode cX8_hourOn 48 = .ok (.iload_n 1, 1) := by decide +kernel
theorem dX8_hourOn_49 : decode cX8_hourOn 49 = .ok (.iadd, 1) := by decide +kernel
theorem dX8_hourOn_50 : decode cX8_hourOn 50 = .ok (.iaload, 1) := by decide +kernel
theorem dX8_hourOn_51 : decode cX8_hourOn 51 = .ok (.ifCond .lt 15, 3) := by decide +kernel
theorem dX8_hourOn_54 : decode cX8_hourOn 54 = .ok (.aload_n 0, 1) := by decide +kernel
theorem dX8_hourOn_55 : decode cX8_hourOn 55 = .ok (.getfield 38, 3) := by decide +kernel
theorem dX8_hourOn_58 : decode cX8_hourOn 58 = .ok (.bipush 21, 2) := by decide +kernel
theorem dX8_hourOn_60 : decode cX8_hourOn 60 = .ok (.iload_n 1, 1) := by decide +kernel
theorem dX8_hourOn_61 : decode cX8_hourOn 61 = .ok (.iadd, 1) := by decide +kernel
theorem dX8_hourOn_62 : decode cX8_hourOn 62 = .ok (.iaload, 1) := by decide +kernel
theorem dX8_hourOn_63 : decode cX8_hourOn 63 = .ok (.goto 12, 3) := by decide +kernel
theorem dX8_hourOn_66 : decode cX8_hourOn 66 = .ok (.aload_n 0, 1) := by decide +kernel
theorem dX8_hourOn_67 : decode cX8_hourOn 67 = .ok (.getfield 38, 3) := by decide +kernel
theorem dX8_hourOn_70 : decode cX8_hourOn 70 = .ok (.bipush 15, 2) := by decide +kernel
theorem dX8_hourOn_72 : decode cX8_hourOn 72 = .ok (.iload_n 1, 1) := by decide +kernel
theorem dX8_hourOn_73 : decode cX8_hourOn 73 = .ok (.iadd, 1) := by decide +kernel
theorem dX8_hourOn_74 : decode cX8_hourOn 74 = .ok (.iaload, 1) := by decide +kernel
theorem dX8_hourOn_75 : decode cX8_hourOn 75 = .ok (.iastore, 1) := by decide +kernel
theorem dX8_hourOn_76 : decode cX8_hourOn 76 = .ok (.aload_n 0, 1) := by decide +kernel
theorem dX8_hourOn_77 : decode cX8_hourOn 77 = .ok (.getfield 38, 3) := by decide +kernel
theorem dX8_hourOn_80 : decode cX8_hourOn 80 = .ok (.bipush 9, 2) := by decide +kernel
theorem dX8_hourOn_82 : decode cX8_hourOn 82 = .ok (.iload_n 1, 1) := by decide +kernel
theorem dX8_hourOn_83 : decode cX8_hourOn 83 = .ok (.iadd, 1) := by decide +kernel
theorem dX8_hourOn_84 : decode cX8_hourOn 84 = .ok (.iconst 0, 1) := by decide +kernel
theorem dX8_hourOn_85 : decode cX8_hourOn 85 = .ok (.iastore, 1) := by decide +kernel
theorem dX8_hourOn_86 : decode cX8_hourOn 86 = .ok (.iinc 1 1, 3) := by decide +kernel
theorem dX8_hourOn_89 : decode cX8_hourOn 89 = .ok (.goto (-63), 3) := by decide +kernel
theorem dX8_hourOn_92 : decode cX8_hourOn 92 = .ok (.iconst 0, 1) := by decide +kernel
theorem dX8_hourOn_93 : decode cX8_hourOn 93 = .ok (.istore_n 1, 1) := by decide +kernel
theorem dX8_hourOn_94 : decode cX8_hourOn 94 = .ok (.iload_n 1, 1) := by decide +kernel
theorem dX8_hourOn_95 : decode cX8_hourOn 95 = .ok (.bipush 24, 2) := by decide +kernel
theorem dX8_hourOn_97 : decode cX8_hourOn 97 = .ok (.if_icmp .ge 19, 3) := by decide +kernel
theorem dX8_hourOn_100 : decode cX8_hourOn 100 = .ok (.aload_n 0, 1) := by decide +kernel
theorem dX8_hourOn_101 : decode cX8_hourOn 101 = .ok (.getfield 38, 3) := by decide +kernel
theorem dX8_hourOn_104 : decode cX8_hourOn 104 = .ok (.bipush 21, 2) := by decide +kernel
theorem dX8_hourOn_106 : decode cX8_hourOn 106 = .ok (.iload_n 1, 1) := by decide +kernel
theorem dX8_hourOn_107 : decode cX8_hourOn 107 = .ok (.iadd, 1) := by decide +kernel
theorem dX8_hourOn_108 : decode cX8_hourOn 108 = .ok (.iconst (-1), 1) := by decide +kernel
theorem dX8_hourOn_109 : decode cX8_hourOn 109 = .ok (.iastore, 1) := by decide +kernel
theorem dX8_hourOn_110 : decode cX8_hourOn 110 = .ok (.iinc 1 1, 3) := by decide +kernel
theorem dX8_hourOn_113 : decode cX8_hourOn 113 = .ok (.goto (-19), 3) := by decide +kernel
theorem dX8_hourOn_116 : decode cX8_hourOn 116 = .ok (.aload_n 0, 1) := by decide +kernel
theorem dX8_hourOn_117 : decode cX8_hourOn 117 = .ok (.getfield 38, 3) := by decide +kernel
theorem dX8_hourOn_120 : decode cX8_hourOn 120 = .ok (.iconst 0, 1) := by decide +kernel
theorem dX8_hourOn_121 : decode cX8_hourOn 121 = .ok (.iconst 0, 1) := by decide +kernel
theorem dX8_hourOn_122 : decode cX8_hourOn 122 = .ok (.iastore, 1) := by decide +kernel
theorem dX8_hourOn_123 : decode cX8_hourOn 123 = .ok (.aload_n 0, 1) := by decide +kernel
theorem dX8_hourOn_124 : decode cX8_hourOn 124 = .ok (.getfield 38, 3) := by decide +kernel
theorem dX8_hourOn_127 : decode cX8_hourOn 127 = .ok (.iconst 1, 1) := by decide +kernel
theorem dX8_hourOn_128 : decode cX8_hourOn 128 = .ok (.dup2, 1) := by decide +kernel
theorem dX8_hourOn_129 : decode cX8_hourOn 129 = .ok (.iaload, 1) := by decide +kernel
theorem dX8_hourOn_130 : decode cX8_hourOn 130 = .ok (.iconst 1, 1) := by decide +kernel
theorem dX8_hourOn_131 : decode cX8_hourOn 131 = .ok (.iadd, 1) := by decide +kernel
theorem dX8_hourOn_132 : decode cX8_hourOn 132 = .ok (.iastore, 1) := by decide +kernel
theorem dX8_hourOn_133 : decode cX8_hourOn 133 = .ok (.return_, 1) := by decide +kernel
theorem dX8_willBy_0 : decode cX8_willBy 0 = .ok (.aload_n 0, 1) := by decide +kernel
theorem dX8_willBy_1 : decode cX8_willBy 1 = .ok (.getfield 38, 3) := by decide +kernel
theorem dX8_willBy_4 : decode cX8_willBy 4 = .ok (.bipush 21, 2) := by decide +kernel
theorem dX8_willBy_6 : decode cX8_willBy 6 = .ok (.bipush 6, 2) := by decide +kernel
theorem dX8_willBy_8 : decode cX8_willBy 8 = .ok (.iload_n 2, 1) := by decide +kernel
theorem dX8_willBy_9 : decode cX8_willBy 9 = .ok (.imul, 1) := by decide +kernel
theorem dX8_willBy_10 : decode cX8_willBy 10 = .ok (.iadd, 1) := by decide +kernel
theorem dX8_willBy_11 : decode cX8_willBy 11 = .ok (.iload_n 1, 1) := by decide +kernel
theorem dX8_willBy_12 : decode cX8_willBy 12 = .ok (.iadd, 1) := by decide +kernel
theorem dX8_willBy_13 : decode cX8_willBy 13 = .ok (.iaload, 1) := by decide +kernel
theorem dX8_willBy_14 : decode cX8_willBy 14 = .ok (.istore_n 3, 1) := by decide +kernel
theorem dX8_willBy_15 : decode cX8_willBy 15 = .ok (.iload_n 3, 1) := by decide +kernel
theorem dX8_willBy_16 : decode cX8_willBy 16 = .ok (.ifCond .lt 7, 3) := by decide +kernel
theorem dX8_willBy_19 : decode cX8_willBy 19 = .ok (.iload_n 3, 1) := by decide +kernel
theorem dX8_willBy_20 : decode cX8_willBy 20 = .ok (.goto 12, 3) := by decide +kernel
theorem dX8_willBy_23 : decode cX8_willBy 23 = .ok (.aload_n 0, 1) := by decide +kernel
theorem dX8_willBy_24 : decode cX8_willBy 24 = .ok (.getfield 38, 3) := by decide +kernel
theorem dX8_willBy_27 : decode cX8_willBy 27 = .ok (.bipush 15, 2) := by decide +kernel
theorem dX8_willBy_29 : decode cX8_willBy 29 = .ok (.iload_n 1, 1) := by decide +kernel
theorem dX8_willBy_30 : decode cX8_willBy 30 = .ok (.iadd, 1) := by decide +kernel
theorem dX8_willBy_31 : decode cX8_willBy 31 = .ok (.iaload, 1) := by decide +kernel
theorem dX8_willBy_32 : decode cX8_willBy 32 = .ok (.ireturn, 1) := by decide +kernel
theorem dX8_sureOnes_0 : decode cX8_sureOnes 0 = .ok (.iconst 0, 1) := by decide +kernel
theorem dX8_sureOnes_1 : decode cX8_sureOnes 1 = .ok (.istore_n 1, 1) := by decide +kernel
theorem dX8_sureOnes_2 : decode cX8_sureOnes 2 = .ok (.iconst 0, 1) := by decide +kernel
theorem dX8_sureOnes_3 : decode cX8_sureOnes 3 = .ok (.istore_n 2, 1) := by decide +kernel
theorem dX8_sureOnes_4 : decode cX8_sureOnes 4 = .ok (.iload_n 2, 1) := by decide +kernel
theorem dX8_sureOnes_5 : decode cX8_sureOnes 5 = .ok (.aload_n 0, 1) := by decide +kernel
theorem dX8_sureOnes_6 : decode cX8_sureOnes 6 = .ok (.getfield 82, 3) := by decide +kernel
theorem dX8_sureOnes_9 : decode cX8_sureOnes 9 = .ok (.if_icmp .ge 79, 3) := by decide +kernel
theorem dX8_sureOnes_12 : decode cX8_sureOnes 12 = .ok (.aload_n 0, 1) := by decide +kernel
theorem dX8_sureOnes_13 : decode cX8_sureOnes 13 = .ok (.iload_n 2, 1) := by decide +kernel
theorem dX8_sureOnes_14 : decode cX8_sureOnes 14 = .ok (.iconst 0, 1) := by decide +kernel
theorem dX8_sureOnes_15 : decode cX8_sureOnes 15 = .ok (.invokevirtual 200, 3) := by decide +kernel
theorem dX8_sureOnes_18 : decode cX8_sureOnes 18 = .ok (.ifCond .lt 7, 3) := by decide +kernel
theorem dX8_sureOnes_21 : decode cX8_sureOnes 21 = .ok (.iconst 1, 1) := by decide +kernel
theorem dX8_sureOnes_22 : decode cX8_sureOnes 22 = .ok (.goto 4, 3) := by decide +kernel
theorem dX8_sureOnes_25 : decode cX8_sureOnes 25 = .ok (.iconst 0, 1) := by decide +kernel
theorem dX8_sureOnes_26 : decode cX8_sureOnes 26 = .ok (.istore_n 3, 1) := by decide +kernel
theorem dX8_sureOnes_27 : decode cX8_sureOnes 27 = .ok (.iconst 1, 1) := by decide +kernel
theorem dX8_sureOnes_28 : decode cX8_sureOnes 28 = .ok (.istore 4, 2) := by decide +kernel
theorem dX8_sureOnes_30 : decode cX8_sureOnes 30 = .ok (.iload 4, 2) := by decide +kernel
theorem dX8_sureOnes_32 : decode cX8_sureOnes 32 = .ok (.iconst 4, 1) := by decide +kernel
theorem dX8_sureOnes_33 : decode cX8_sureOnes 33 = .ok (.if_icmp .ge 35, 3) := by decide +kernel
theorem dX8_sureOnes_36 : decode cX8_sureOnes 36 = .ok (.iload_n 3, 1) := by decide +kernel
theorem dX8_sureOnes_37 : decode cX8_sureOnes 37 = .ok (.ifCond .eq 23, 3) := by decide +kernel
theorem dX8_sureOnes_40 : decode cX8_sureOnes 40 = .ok (.aload_n 0, 1) := by decide +kernel
theorem dX8_sureOnes_41 : decode cX8_sureOnes 41 = .ok (.iload_n 2, 1) := by decide +kernel
theorem dX8_sureOnes_42 : decode cX8_sureOnes 42 = .ok (.iload 4, 2) := by decide +kernel
theorem dX8_sureOnes_44 : decode cX8_sureOnes 44 = .ok (.invokevirtual 200, 3) := by decide +kernel
theorem dX8_sureOnes_47 : decode cX8_sureOnes 47 = .ok (.aload_n 0, 1) := by decide +kernel
theorem dX8_sureOnes_48 : decode cX8_sureOnes 48 = .ok (.iload_n 2, 1) := by decide +kernel
theorem dX8_sureOnes_49 : decode cX8_sureOnes 49 = .ok (.iconst 0, 1) := by decide +kernel
theorem dX8_sureOnes_50 : decode cX8_sureOnes 50 = .ok (.invokevirtual 200, 3) := by decide +kernel
theorem dX8_sureOnes_53 : decode cX8_sureOnes 53 = .ok (.if_icmp .ne 7, 3) := by decide +kernel
theorem dX8_sureOnes_56 : decode cX8_sureOnes 56 = .ok (.iconst 1, 1) := by decide +kernel
theorem dX8_sureOnes_57 : decode cX8_sureOnes 57 = .ok (.goto 4, 3) := by decide +kernel
theorem dX8_sureOnes_60 : decode cX8_sureOnes 60 = .ok (.iconst 0, 1) := by decide +kernel
theorem dX8_sureOnes_61 : decode cX8_sureOnes 61 = .ok (.istore_n 3, 1) := by decide +kernel
theorem dX8_sureOnes_62 : decode cX8_sureOnes 62 = .ok (.iinc 4 1, 3) := by decide +kernel
theorem dX8_sureOnes_65 : decode cX8_sureOnes 65 = .ok (.goto (-35), 3) := by decide +kernel
theorem dX8_sureOnes_68 : decode cX8_sureOnes 68 = .ok (.iload_n 1, 1) := by decide +kernel
theorem dX8_sureOnes_69 : decode cX8_sureOnes 69 = .ok (.iload_n 3, 1) := by decide +kernel
theorem dX8_sureOnes_70 : decode cX8_sureOnes 70 = .ok (.ifCond .eq 9, 3) := by decide +kernel
theorem dX8_sureOnes_73 : decode cX8_sureOnes 73 = .ok (.iconst 1, 1) := by decide +kernel
theorem dX8_sureOnes_74 : decode cX8_sureOnes 74 = .ok (.iload_n 2, 1) := by decide +kernel
theorem dX8_sureOnes_75 : decode cX8_sureOnes 75 = .ok (.ishl, 1) := by decide +kernel
theorem dX8_sureOnes_76 : decode cX8_sureOnes 76 = .ok (.goto 4, 3) := by decide +kernel
theorem dX8_sureOnes_79 : decode cX8_sureOnes 79 = .ok (.iconst 0, 1) := by decide +kernel
theorem dX8_sureOnes_80 : decode cX8_sureOnes 80 = .ok (.ior, 1) := by decide +kernel
theorem dX8_sureOnes_81 : decode cX8_sureOnes 81 = .ok (.istore_n 1, 1) := by decide +kernel
theorem dX8_sureOnes_82 : decode cX8_sureOnes 82 = .ok (.iinc 2 1, 3) := by decide +kernel
theorem dX8_sureOnes_85 : decode cX8_sureOnes 85 = .ok (.goto (-81), 3) := by decide +kernel
theorem dX8_sureOnes_88 : decode cX8_sureOnes 88 = .ok (.iload_n 1, 1) := by decide +kernel
theorem dX8_sureOnes_89 : decode cX8_sureOnes 89 = .ok (.ireturn, 1) := by decide +kernel
theorem dX8_hasRooms_0 : decode cX8_hasRooms 0 = .ok (.iconst 0, 1) := by decide +kernel
theorem dX8_hasRooms_1 : decode cX8_hasRooms 1 = .ok (.istore_n 2, 1) := by decide +kernel
theorem dX8_hasRooms_2 : decode cX8_hasRooms 2 = .ok (.iconst 0, 1) := by decide +kernel
theorem dX8_hasRooms_3 : decode cX8_hasRooms 3 = .ok (.istore_n 3, 1) := by decide +kernel
theorem dX8_hasRooms_4 : decode cX8_hasRooms 4 = .ok (.iload_n 3, 1) := by decide +kernel
theorem dX8_hasRooms_5 : decode cX8_hasRooms 5 = .ok (.aload_n 0, 1) := by decide +kernel
theorem dX8_hasRooms_6 : decode cX8_hasRooms 6 = .ok (.getfield 82, 3) := by decide +kernel
theorem dX8_hasRooms_9 : decode cX8_hasRooms 9 = .ok (.if_icmp .ge 32, 3) := by decide +kernel
theorem dX8_hasRooms_12 : decode cX8_hasRooms 12 = .ok (.iload_n 2, 1) := by decide +kernel
theorem dX8_hasRooms_13 : decode cX8_hasRooms 13 = .ok (.aload_n 0, 1) := by decide +kernel
theorem dX8_hasRooms_14 : decode cX8_hasRooms 14 = .ok (.getfield 38, 3) := by decide +kernel
theorem dX8_hasRooms_17 : decode cX8_hasRooms 17 = .ok (.bipush 15, 2) := by decide +kernel
theorem dX8_hasRooms_19 : decode cX8_hasRooms 19 = .ok (.iload_n 3, 1) := by decide +kernel
theorem dX8_hasRooms_20 : decode cX8_hasRooms 20 = .ok (.iadd, 1) := by decide +kernel
theorem dX8_hasRooms_21 : decode cX8_hasRooms 21 = .ok (.iaload, 1) := by decide +kernel
theorem dX8_hasRooms_22 : decode cX8_hasRooms 22 = .ok (.iload_n 1, 1) := by decide +kernel
theorem dX8_hasRooms_23 : decode cX8_hasRooms 23 = .ok (.if_icmp .ne 9, 3) := by decide +kernel
theorem dX8_hasRooms_26 : decode cX8_hasRooms 26 = .ok (.iconst 1, 1) := by decide +kernel
theorem dX8_hasRooms_27 : decode cX8_hasRooms 27 = .ok (.iload_n 3, 1) := by decide +kernel
theorem dX8_hasRooms_28 : decode cX8_hasRooms 28 = .ok (.ishl, 1) := by decide +kernel
theorem dX8_hasRooms_29 : decode cX8_hasRooms 29 = .ok (.goto 4, 3) := by decide +kernel
theorem dX8_hasRooms_32 : decode cX8_hasRooms 32 = .ok (.iconst 0, 1) := by decide +kernel
theorem dX8_hasRooms_33 : decode cX8_hasRooms 33 = .ok (.ior, 1) := by decide +kernel
theorem dX8_hasRooms_34 : decode cX8_hasRooms 34 = .ok (.istore_n 2, 1) := by decide +kernel
theorem dX8_hasRooms_35 : decode cX8_hasRooms 35 = .ok (.iinc 3 1, 3) := by decide +kernel
theorem dX8_hasRooms_38 : decode cX8_hasRooms 38 = .ok (.goto (-34), 3) := by decide +kernel
theorem dX8_hasRooms_41 : decode cX8_hasRooms 41 = .ok (.iload_n 2, 1) := by decide +kernel
theorem dX8_hasRooms_42 : decode cX8_hasRooms 42 = .ok (.ireturn, 1) := by decide +kernel
theorem dX8_holder_0 : decode cX8_holder 0 = .ok (.iconst (-1), 1) := by decide +kernel
theorem dX8_holder_1 : decode cX8_holder 1 = .ok (.istore_n 1, 1) := by decide +kernel
theorem dX8_holder_2 : decode cX8_holder 2 = .ok (.iconst 0, 1) := by decide +kernel
theorem dX8_holder_3 : decode cX8_holder 3 = .ok (.istore_n 2, 1) := by decide +kernel
theorem dX8_holder_4 : decode cX8_holder 4 = .ok (.iconst 0, 1) := by decide +kernel
theorem dX8_holder_5 : decode cX8_holder 5 = .ok (.istore_n 3, 1) := by decide +kernel
theorem dX8_holder_6 : decode cX8_holder 6 = .ok (.iload_n 3, 1) := by decide +kernel
theorem dX8_holder_7 : decode cX8_holder 7 = .ok (.aload_n 0, 1) := by decide +kernel
theorem dX8_holder_8 : decode cX8_holder 8 = .ok (.getfield 89, 3) := by decide +kernel
theorem dX8_holder_11 : decode cX8_holder 11 = .ok (.if_icmp .ge 44, 3) := by decide +kernel
theorem dX8_holder_14 : decode cX8_holder 14 = .ok (.aload_n 0, 1) := by decide +kernel
theorem dX8_holder_15 : decode cX8_holder 15 = .ok (.iload_n 3, 1) := by decide +kernel
theorem dX8_holder_16 : decode cX8_holder 16 = .ok (.invokevirtual 203, 3) := by decide +kernel
theorem dX8_holder_19 : decode cX8_holder 19 = .ok (.invokestatic 206, 3) := by decide +kernel
theorem dX8_holder_22 : decode cX8_holder 22 = .ok (.istore 4, 2) := by decide +kernel
theorem dX8_holder_24 : decode cX8_holder 24 = .ok (.iload 4, 2) := by decide +kernel
theorem dX8_holder_26 : decode cX8_holder 26 = .ok (.iload_n 2, 1) := by decide +kernel
theorem dX8_holder_27 : decode cX8_holder 27 = .ok (.if_icmp .le 7, 3) := by decide +kernel
theorem dX8_holder_30 : decode cX8_holder 30 = .ok (.iload_n 3, 1) := by decide +kernel
theorem dX8_holder_31 : decode cX8_holder 31 = .ok (.goto 4, 3) := by decide +kernel
theorem dX8_holder_34 : decode cX8_holder 34 = .ok (.iload_n 1, 1) := by decide +kernel
theorem dX8_holder_35 : decode cX8_holder 35 = .ok (.istore_n 1, 1) := by decide +kernel
theorem dX8_holder_36 : decode cX8_holder 36 = .ok (.iload 4, 2) := by decide +kernel
theorem dX8_holder_38 : decode cX8_holder 38 = .ok (.iload_n 2, 1) := by decide +kernel
theorem dX8_holder_39 : decode cX8_holder 39 = .ok (.if_icmp .le 8, 3) := by decide +kernel
theorem dX8_holder_42 : decode cX8_holder 42 = .ok (.iload 4, 2) := by decide +kernel
theorem dX8_holder_44 : decode cX8_holder 44 = .ok (.goto 4, 3) := by decide +kernel
theorem dX8_holder_47 : decode cX8_holder 47 = .ok (.iload_n 2, 1) := by decide +kernel
theorem dX8_holder_48 : decode cX8_holder 48 = .ok (.istore_n 2, 1) := by decide +kernel
theorem dX8_holder_49 : decode cX8_holder 49 = .ok (.iinc 3 1, 3) := by decide +kernel
theorem dX8_holder_52 : decode cX8_holder 52 = .ok (.goto (-46), 3) := by decide +kernel
theorem dX8_holder_55 : decode cX8_holder 55 = .ok (.iload_n 1, 1) := by decide +kernel
theorem dX8_holder_56 : decode cX8_holder 56 = .ok (.ireturn, 1) := by decide +kernel
theorem dX8_told_0 : decode cX8_told 0 = .ok (.iload_n 1, 1) := by decide +kernel
theorem dX8_told_1 : decode cX8_told 1 = .ok (.tableswitch 137 0 13 #[71, 76, 81, 86, 91, 96, 96, 96, 107, 112, 117, 122, 127, 132], 71) := by decide +kernel
theorem dX8_told_72 : decode cX8_told 72 = .ok (.aload_n 0, 1) := by decide +kernel
theorem dX8_told_73 : decode cX8_told 73 = .ok (.getfield 154, 3) := by decide +kernel
theorem dX8_told_76 : decode cX8_told 76 = .ok (.ireturn, 1) := by decide +kernel
theorem dX8_told_77 : decode cX8_told 77 = .ok (.aload_n 0, 1) := by decide +kernel
theorem dX8_told_78 : decode cX8_told 78 = .ok (.getfield 82, 3) := by decide +kernel
theorem dX8_told_81 : decode cX8_told 81 = .ok (.ireturn, 1) := by decide +kernel
theorem dX8_told_82 : decode cX8_told 82 = .ok (.aload_n 0, 1) := by decide +kernel
theorem dX8_told_83 : decode cX8_told 83 = .ok (.getfield 92, 3) := by decide +kernel
theorem dX8_told_86 : decode cX8_told 86 = .ok (.ireturn, 1) := by decide +kernel
theorem dX8_told_87 : decode cX8_told 87 = .ok (.aload_n 0, 1) := by decide +kernel
theorem dX8_told_88 : decode cX8_told 88 = .ok (.getfield 89, 3) := by decide +kernel
theorem dX8_told_91 : decode cX8_told 91 = .ok (.ireturn, 1) := by decide +kernel
theorem dX8_told_92 : decode cX8_told 92 = .ok (.aload_n 0, 1) := by decide +kernel
theorem dX8_told_93 : decode cX8_told 93 = .ok (.getfield 96, 3) := by decide +kernel
theorem dX8_told_96 : decode cX8_told 96 = .ok (.ireturn, 1) := by decide +kernel
theorem dX8_told_97 : decode cX8_told 97 = .ok (.aload_n 0, 1) := by decide +kernel
theorem dX8_told_98 : decode cX8_told 98 = .ok (.getfield 38, 3) := by decide +kernel
theorem dX8_told_101 : decode cX8_told 101 = .ok (.iconst 0, 1) := by decide +kernel
theorem dX8_told_102 : decode cX8_told 102 = .ok (.iload_n 1, 1) := by decide +kernel
theorem dX8_told_103 : decode cX8_told 103 = .ok (.iadd, 1) := by decide +kernel
theorem dX8_told_104 : decode cX8_told 104 = .ok (.iconst 5, 1) := by decide +kernel
theorem dX8_told_105 : decode cX8_told 105 = .ok (.isub, 1) := by decide +kernel
theorem dX8_told_106 : decode cX8_told 106 = .ok (.iaload, 1) := by decide +kernel
theorem dX8_told_107 : decode cX8_told 107 = .ok (.ireturn, 1) := by decide +kernel
theorem dX8_told_108 : decode cX8_told 108 = .ok (.aload_n 0, 1) := by decide +kernel
theorem dX8_told_109 : decode cX8_told 109 = .ok (.invokevirtual 209, 3) := by decide +kernel
theorem dX8_told_112 : decode cX8_told 112 = .ok (.ireturn, 1) := by decide +kernel
theorem dX8_told_113 : decode cX8_told 113 = .ok (.aload_n 0, 1) := by decide +kernel
theorem dX8_told_114 : decode cX8_told 114 = .ok (.invokevirtual 212, 3) := by decide +kernel
theorem dX8_told_117 : decode cX8_told 117 = .ok (.ireturn, 1) := by decide +kernel
theorem dX8_told_118 : decode cX8_told 118 = .ok (.aload_n 0, 1) := by decide +kernel
theorem dX8_told_119 : decode cX8_told 119 = .ok (.invokevirtual 215, 3) := by decide +kernel
theorem dX8_told_122 : decode cX8_told 122 = .ok (.ireturn, 1) := by decide +kernel
theorem dX8_told_123 : decode cX8_told 123 = .ok (.aload_n 0, 1) := by decide +kernel
theorem dX8_told_124 : decode cX8_told 124 = .ok (.getfield 167, 3) := by decide +kernel
theorem dX8_told_127 : decode cX8_told 127 = .ok (.ireturn, 1) := by decide +kernel
theorem dX8_told_128 : decode cX8_told 128 = .ok (.aload_n 0, 1) := by decide +kernel
theorem dX8_told_129 : decode cX8_told 129 = .ok (.getfield 170, 3) := by decide +kernel
theorem dX8_told_132 : decode cX8_told 132 = .ok (.ireturn, 1) := by decide +kernel
theorem dX8_told_133 : decode cX8_told 133 = .ok (.aload_n 0, 1) := by decide +kernel
theorem dX8_told_134 : decode cX8_told 134 = .ok (.getfield 164, 3) := by decide +kernel
theorem dX8_told_137 : decode cX8_told 137 = .ok (.ireturn, 1) := by decide +kernel
theorem dX8_told_138 : decode cX8_told 138 = .ok (.ldc 95, 2) := by decide +kernel
theorem dX8_told_140 : decode cX8_told 140 = .ok (.ireturn, 1) := by decide +kernel
theorem dX8_worthOf_0 : decode cX8_worthOf 0 = .ok (.iconst 0, 1) := by decide +kernel
theorem dX8_worthOf_1 : decode cX8_worthOf 1 = .ok (.istore_n 2, 1) := by decide +kernel
theorem dX8_worthOf_2 : decode cX8_worthOf 2 = .ok (.iconst 0, 1) := by decide +kernel
theorem dX8_worthOf_3 : decode cX8_worthOf 3 = .ok (.istore_n 3, 1) := by decide +kernel
theorem dX8_worthOf_4 : decode cX8_worthOf 4 = .ok (.iload_n 3, 1) := by decide +kernel
theorem dX8_worthOf_5 : decode cX8_worthOf 5 = .ok (.aload_n 0, 1) := by decide +kernel
theorem dX8_worthOf_6 : decode cX8_worthOf 6 = .ok (.getfield 89, 3) := by decide +kernel
theorem dX8_worthOf_9 : decode cX8_worthOf 9 = .ok (.if_icmp .ge 38, 3) := by decide +kernel
theorem dX8_worthOf_12 : decode cX8_worthOf 12 = .ok (.iload_n 2, 1) := by decide +kernel
theorem dX8_worthOf_13 : decode cX8_worthOf 13 = .ok (.aload_n 0, 1) := by decide +kernel
theorem dX8_worthOf_14 : decode cX8_worthOf 14 = .ok (.iload_n 3, 1) := by decide +kernel
theorem dX8_worthOf_15 : decode cX8_worthOf 15 = .ok (.aload_n 0, 1) := by decide +kernel
theorem dX8_worthOf_16 : decode cX8_worthOf 16 = .ok (.getfield 38, 3) := by decide +kernel
theorem dX8_worthOf_19 : decode cX8_worthOf 19 = .ok (.bipush 45, 2) := by decide +kernel
theorem dX8_worthOf_21 : decode cX8_worthOf 21 = .ok (.iload_n 3, 1) := by decide +kernel
theorem dX8_worthOf_22 : decode cX8_worthOf 22 = .ok (.iadd, 1) := by decide +kernel
theorem dX8_worthOf_23 : decode cX8_worthOf 23 = .ok (.iaload, 1) := by decide +kernel
theorem dX8_worthOf_24 : decode cX8_worthOf 24 = .ok (.invokevirtual 185, 3) := by decide +kernel
theorem dX8_worthOf_27 : decode cX8_worthOf 27 = .ok (.iload_n 1, 1) := by decide +kernel
theorem dX8_worthOf_28 : decode cX8_worthOf 28 = .ok (.invokestatic 181, 3) := by decide +kernel
theorem dX8_worthOf_31 : decode cX8_worthOf 31 = .ok (.ifCond .eq 7, 3) := by decide +kernel
theorem dX8_worthOf_34 : decode cX8_worthOf 34 = .ok (.iconst 1, 1) := by decide +kernel
theorem dX8_worthOf_35 : decode cX8_worthOf 35 = .ok (.goto 4, 3) := by decide +kernel
theorem dX8_worthOf_38 : decode cX8_worthOf 38 = .ok (.iconst 0, 1) := by decide +kernel
theorem dX8_worthOf_39 : decode cX8_worthOf 39 = .ok (.iadd, 1) := by decide +kernel
theorem dX8_worthOf_40 : decode cX8_worthOf 40 = .ok (.istore_n 2, 1) := by decide +kernel
theorem dX8_worthOf_41 : decode cX8_worthOf 41 = .ok (.iinc 3 1, 3) := by decide +kernel
theorem dX8_worthOf_44 : decode cX8_worthOf 44 = .ok (.goto (-40), 3) := by decide +kernel
theorem dX8_worthOf_47 : decode cX8_worthOf 47 = .ok (.iload_n 2, 1) := by decide +kernel
theorem dX8_worthOf_48 : decode cX8_worthOf 48 = .ok (.ireturn, 1) := by decide +kernel
theorem dX8_room_0 : decode cX8_room 0 = .ok (.aload_n 0, 1) := by decide +kernel
theorem dX8_room_1 : decode cX8_room 1 = .ok (.iload_n 1, 1) := by decide +kernel
theorem dX8_room_2 : decode cX8_room 2 = .ok (.invokevirtual 218, 3) := by decide +kernel
theorem dX8_room_5 : decode cX8_room 5 = .ok (.ifCond .ne 6, 3) := by decide +kernel
theorem dX8_room_8 : decode cX8_room 8 = .ok (.ldc 222, 2) := by decide +kernel
theorem dX8_room_10 : decode cX8_room 10 = .ok (.ireturn, 1) := by decide +kernel
theorem dX8_room_11 : decode cX8_room 11 = .ok (.iload_n 2, 1) := by decide +kernel
theorem dX8_room_12 : decode cX8_room 12 = .ok (.tableswitch 92 0 5 #[40, 49, 59, 69, 79, 86], 40) := by decide +kernel
theorem dX8_room_52 : decode cX8_room 52 = .ok (.aload_n 0, 1) := by decide +kernel
theorem dX8_room_53 : decode cX8_room 53 = .ok (.getfield 38, 3) := by decide +kernel
theorem dX8_room_56 : decode cX8_room 56 = .ok (.iconst 3, 1) := by decide +kernel
theorem dX8_room_57 : decode cX8_room 57 = .ok (.iload_n 1, 1) := by decide +kernel
theorem dX8_room_58 : decode cX8_room 58 = .ok (.iadd, 1) := by decide +kernel
theorem dX8_room_59 : decode cX8_room 59 = .ok (.iaload, 1) := by decide +kernel
theorem dX8_room_60 : decode cX8_room 60 = .ok (.ireturn, 1) := by decide +kernel
theorem dX8_room_61 : decode cX8_room 61 = .ok (.aload_n 0, 1) := by decide +kernel
theorem dX8_room_62 : decode cX8_room 62 = .ok (.getfield 38, 3) := by decide +kernel
theorem dX8_room_65 : decode cX8_room 65 = .ok (.bipush 9, 2) := by decide +kernel
theorem dX8_room_67 : decode cX8_room 67 = .ok (.iload_n 1, 1) := by decide +kernel
theorem dX8_room_68 : decode cX8_room 68 = .ok (.iadd, 1) := by decide +kernel
theorem dX8_room_69 : decode cX8_room 69 = .ok (.iaload, 1) := by decide +kernel
theorem dX8_room_70 : decode cX8_room 70 = .ok (.ireturn, 1) := by decide +kernel
theorem dX8_room_71 : decode cX8_room 71 = .ok (.aload_n 0, 1) := by decide +kernel
theorem dX8_room_72 : decode cX8_room 72 = .ok (.getfield 38, 3) := by decide +kernel
theorem dX8_room_75 : decode cX8_room 75 = .ok (.bipush 15, 2) := by decide +kernel
theorem dX8_room_77 : decode cX8_room 77 = .ok (.iload_n 1, 1) := by decide +kernel
theorem dX8_room_78 : decode cX8_room 78 = .ok (.iadd, 1) := by decide +kernel
theorem dX8_room_79 : decode cX8_room 79 = .ok (.iaload, 1) := by decide +kernel
theorem dX8_room_80 : decode cX8_room 80 = .ok (.ireturn, 1) := by decide +kernel
theorem dX8_room_81 : decode cX8_room 81 = .ok (.aload_n 0, 1) := by decide +kernel
theorem dX8_room_82 : decode cX8_room 82 = .ok (.getfield 38, 3) := by decide +kernel
theorem dX8_room_85 : decode cX8_room 85 = .ok (.bipush 21, 2) := by decide +kernel
theorem dX8_room_87 : decode cX8_room 87 = .ok (.iload_n 1, 1) := by decide +kernel
theorem dX8_room_88 : decode cX8_room 88 = .ok (.iadd, 1) := by decide +kernel
theorem dX8_room_89 : decode cX8_room 89 = .ok (.iaload, 1) := by decide +kernel
theorem dX8_room_90 : decode cX8_room 90 = .ok (.ireturn, 1) := by decide +kernel
theorem dX8_room_91 : decode cX8_room 91 = .ok (.aload_n 0, 1) := by decide +kernel
theorem dX8_room_92 : decode cX8_room 92 = .ok (.iload_n 1, 1) := by decide +kernel
theorem dX8_room_93 : decode cX8_room 93 = .ok (.iconst 0, 1) := by decide +kernel
theorem dX8_room_94 : decode cX8_room 94 = .ok (.invokevirtual 200, 3) := by decide +kernel
theorem dX8_room_97 : decode cX8_room 97 = .ok (.ireturn, 1) := by decide +kernel
theorem dX8_room_98 : decode cX8_room 98 = .ok (.aload_n 0, 1) := by decide +kernel
theorem dX8_room_99 : decode cX8_room 99 = .ok (.iload_n 1, 1) := by decide +kernel
theorem dX8_room_100 : decode cX8_room 100 = .ok (.invokevirtual 223, 3) := by decide +kernel
theorem dX8_room_103 : decode cX8_room 103 = .ok (.ireturn, 1) := by decide +kernel
theorem dX8_room_104 : decode cX8_room 104 = .ok (.ldc 95, 2) := by decide +kernel
theorem dX8_room_106 : decode cX8_room 106 = .ok (.ireturn, 1) := by decide +kernel
theorem dX8_door_0 : decode cX8_door 0 = .ok (.aload_n 0, 1) := by decide +kernel
theorem dX8_door_1 : decode cX8_door 1 = .ok (.iload_n 1, 1) := by decide +kernel
theorem dX8_door_2 : decode cX8_door 2 = .ok (.invokevirtual 226, 3) := by decide +kernel
theorem dX8_door_5 : decode cX8_door 5 = .ok (.ifCond .ne 6, 3) := by decide +kernel
theorem dX8_door_8 : decode cX8_door 8 = .ok (.ldc 222, 2) := by decide +kernel
theorem dX8_door_10 : decode cX8_door 10 = .ok (.ireturn, 1) := by decide +kernel
theorem dX8_door_11 : decode cX8_door 11 = .ok (.iload_n 2, 1) := by decide +kernel
theorem dX8_door_12 : decode cX8_door 12 = .ok (.ifCond .ne 12, 3) := by decide +kernel
theorem dX8_door_15 : decode cX8_door 15 = .ok (.aload_n 0, 1) := by decide +kernel
theorem dX8_door_16 : decode cX8_door 16 = .ok (.getfield 17, 3) := by decide +kernel
theorem dX8_door_19 : decode cX8_door 19 = .ok (.iload_n 1, 1) := by decide +kernel
theorem dX8_door_20 : decode cX8_door 20 = .ok (.iaload, 1) := by decide +kernel
theorem dX8_door_21 : decode cX8_door 21 = .ok (.goto 33, 3) := by decide +kernel
theorem dX8_door_24 : decode cX8_door 24 = .ok (.iload_n 2, 1) := by decide +kernel
theorem dX8_door_25 : decode cX8_door 25 = .ok (.iconst 1, 1) := by decide +kernel
theorem dX8_door_26 : decode cX8_door 26 = .ok (.if_icmp .ne 12, 3) := by decide +kernel
theorem dX8_door_29 : decode cX8_door 29 = .ok (.aload_n 0, 1) := by decide +kernel
theorem dX8_door_30 : decode cX8_door 30 = .ok (.getfield 20, 3) := by decide +kernel
theorem dX8_door_33 : decode cX8_door 33 = .ok (.iload_n 1, 1) := by decide +kernel
theorem dX8_door_34 : decode cX8_door 34 = .ok (.iaload, 1) := by decide +kernel
theorem dX8_door_35 : decode cX8_door 35 = .ok (.goto 19, 3) := by decide +kernel
theorem dX8_door_38 : decode cX8_door 38 = .ok (.iload_n 2, 1) := by decide +kernel
theorem dX8_door_39 : decode cX8_door 39 = .ok (.iconst 2, 1) := by decide +kernel
theorem dX8_door_40 : decode cX8_door 40 = .ok (.if_icmp .ne 12, 3) := by decide +kernel
theorem dX8_door_43 : decode cX8_door 43 = .ok (.aload_n 0, 1) := by decide +kernel
theorem dX8_door_44 : decode cX8_door 44 = .ok (.getfield 23, 3) := by decide +kernel
theorem dX8_door_47 : decode cX8_door 47 = .ok (.iload_n 1, 1) := by decide +kernel
theorem dX8_door_48 : decode cX8_door 48 = .ok (.iaload, 1) := by decide +kernel
theorem dX8_door_49 : decode cX8_door 49 = .ok (.goto 5, 3) := by decide +kernel
theorem dX8_door_52 : decode cX8_door 52 = .ok (.ldc 95, 2) := by decide +kernel
theorem dX8_door_54 : decode cX8_door 54 = .ok (.ireturn, 1) := by decide +kernel
theorem dX8_heir_0 : decode cX8_heir 0 = .ok (.aload_n 0, 1) := by decide +kernel
theorem dX8_heir_1 : decode cX8_heir 1 = .ok (.iload_n 1, 1) := by decide +kernel
theorem dX8_heir_2 : decode cX8_heir 2 = .ok (.invokevirtual 229, 3) := by decide +kernel
theorem dX8_heir_5 : decode cX8_heir 5 = .ok (.ifCond .ne 6, 3) := by decide +kernel
theorem dX8_heir_8 : decode cX8_heir 8 = .ok (.ldc 222, 2) := by decide +kernel
theorem dX8_heir_10 : decode cX8_heir 10 = .ok (.ireturn, 1) := by decide +kernel
theorem dX8_heir_11 : decode cX8_heir 11 = .ok (.iload_n 2, 1) := by decide +kernel
theorem dX8_heir_12 : decode cX8_heir 12 = .ok (.tableswitch 91 0 5 #[40, 47, 54, 64, 79, 85], 40) := by decide +kernel
theorem dX8_heir_52 : decode cX8_heir 52 = .ok (.aload_n 0, 1) := by decide +kernel
theorem dX8_heir_53 : decode cX8_heir 53 = .ok (.getfield 26, 3) := by decide +kernel
theorem dX8_heir_56 : decode cX8_heir 56 = .ok (.iload_n 1, 1) := by decide +kernel
theorem dX8_heir_57 : decode cX8_heir 57 = .ok (.iaload, 1) := by decide +kernel
theorem dX8_heir_58 : decode cX8_heir 58 = .ok (.ireturn, 1) := by decide +kernel
theorem dX8_heir_59 : decode cX8_heir 59 = .ok (.aload_n 0, 1) := by decide +kernel
theorem dX8_heir_60 : decode cX8_heir 60 = .ok (.getfield 29, 3) := by decide +kernel
theorem dX8_heir_63 : decode cX8_heir 63 = .ok (.iload_n 1, 1) := by decide +kernel
theorem dX8_heir_64 : decode cX8_heir 64 = .ok (.iaload, 1) := by decide +kernel
theorem dX8_heir_65 : decode cX8_heir 65 = .ok (.ireturn, 1) := by decide +kernel
theorem dX8_heir_66 : decode cX8_heir 66 = .ok (.aload_n 0, 1) := by decide +kernel
theorem dX8_heir_67 : decode cX8_heir 67 = .ok (.getfield 38, 3) := by decide +kernel
theorem dX8_heir_70 : decode cX8_heir 70 = .ok (.bipush 45, 2) := by decide +kernel
theorem dX8_heir_72 : decode cX8_heir 72 = .ok (.iload_n 1, 1) := by decide +kernel
theorem dX8_heir_73 : decode cX8_heir 73 = .ok (.iadd, 1) := by decide +kernel
theorem dX8_heir_74 : decode cX8_heir 74 = .ok (.iaload, 1) := by decide +kernel
theorem dX8_heir_75 : decode cX8_heir 75 = .ok (.ireturn, 1) := by decide +kernel
theorem dX8_heir_76 : decode cX8_heir 76 = .ok (.aload_n 0, 1) := by decide +kernel
theorem dX8_heir_77 : decode cX8_heir 77 = .ok (.iload_n 1, 1) := by decide +kernel
theorem dX8_heir_78 : decode cX8_heir 78 = .ok (.aload_n 0, 1) := by decide +kernel
theorem dX8_heir_79 : decode cX8_heir 79 = .ok (.getfield 38, 3) := by decide +kernel
theorem dX8_heir_82 : decode cX8_heir 82 = .ok (.bipush 45, 2) := by decide +kernel
theorem dX8_heir_84 : decode cX8_heir 84 = .ok (.iload_n 1, 1) := by decide +kernel
theorem dX8_heir_85 : decode cX8_heir 85 = .ok (.iadd, 1) := by decide +kernel
theorem dX8_heir_86 : decode cX8_heir 86 = .ok (.iaload, 1) := by decide +kernel
theorem dX8_heir_87 : decode cX8_heir 87 = .ok (.invokevirtual 185, 3) := by decide +kernel
theorem dX8_heir_90 : decode cX8_heir 90 = .ok (.ireturn, 1) := by decide +kernel
theorem dX8_heir_91 : decode cX8_heir 91 = .ok (.aload_n 0, 1) := by decide +kernel
theorem dX8_heir_92 : decode cX8_heir 92 = .ok (.iload_n 1, 1) := by decide +kernel
theorem dX8_heir_93 : decode cX8_heir 93 = .ok (.invokevirtual 232, 3) := by decide +kernel
theorem dX8_heir_96 : decode cX8_heir 96 = .ok (.ireturn, 1) := by decide +kernel
theorem dX8_heir_97 : decode cX8_heir 97 = .ok (.aload_n 0, 1) := by decide +kernel
theorem dX8_heir_98 : decode cX8_heir 98 = .ok (.iload_n 1, 1) := by decide +kernel
theorem dX8_heir_99 : decode cX8_heir 99 = .ok (.invokevirtual 203, 3) := by decide +kernel
theorem dX8_heir_102 : decode cX8_heir 102 = .ok (.ireturn, 1) := by decide +kernel
theorem dX8_heir_103 : decode cX8_heir 103 = .ok (.ldc 95, 2) := by decide +kernel
theorem dX8_heir_105 : decode cX8_heir 105 = .ok (.ireturn, 1) := by decide +kernel
theorem dX8_notes_0 : decode cX8_notes 0 = .ok (.aload_n 0, 1) := by decide +kernel
theorem dX8_notes_1 : decode cX8_notes 1 = .ok (.getfield 164, 3) := by decide +kernel
theorem dX8_notes_4 : decode cX8_notes 4 = .ok (.bipush 30, 2) := by decide +kernel
theorem dX8_notes_6 : decode cX8_notes 6 = .ok (.if_icmp .ne 30, 3) := by decide +kernel
theorem dX8_notes_9 : decode cX8_notes 9 = .ok (.aload_n 0, 1) := by decide +kernel
theorem dX8_notes_10 : decode cX8_notes 10 = .ok (.getfield 41, 3) := by decide +kernel
theorem dX8_notes_13 : decode cX8_notes 13 = .ok (.bipush 51, 2) := by decide +kernel
theorem dX8_notes_15 : decode cX8_notes 15 = .ok (.aload_n 0, 1) := by decide +kernel
theorem dX8_notes_16 : decode cX8_notes 16 = .ok (.getfield 41, 3) := by decide +kernel
theorem dX8_notes_19 : decode cX8_notes 19 = .ok (.iconst 0, 1) := by decide +kernel
theorem dX8_notes_20 : decode cX8_notes 20 = .ok (.sipush 1479, 3) := by decide +kernel
theorem dX8_notes_23 : decode cX8_notes 23 = .ok (.invokestatic 157, 3) := by decide +kernel
theorem dX8_notes_26 : decode cX8_notes 26 = .ok (.aload_n 0, 1) := by decide +kernel
theorem dX8_notes_27 : decode cX8_notes 27 = .ok (.dup, 1) := by decide +kernel
theorem dX8_notes_28 : decode cX8_notes 28 = .ok (.getfield 164, 3) := by decide +kernel
theorem dX8_notes_31 : decode cX8_notes 31 = .ok (.iconst 1, 1) := by decide +kernel
theorem dX8_notes_32 : decode cX8_notes 32 = .ok (.isub, 1) := by decide +kernel
theorem dX8_notes_33 : decode cX8_notes 33 = .ok (.putfield 164, 3) := by decide +kernel
theorem dX8_notes_36 : decode cX8_notes 36 = .ok (.aload_n 0, 1) := by decide +kernel
theorem dX8_notes_37 : decode cX8_notes 37 = .ok (.getfield 38, 3) := by decide +kernel
theorem dX8_notes_40 : decode cX8_notes 40 = .ok (.iconst 0, 1) := by decide +kernel
theorem dX8_notes_41 : decode cX8_notes 41 = .ok (.aload_n 0, 1) := by decide +kernel
theorem dX8_notes_42 : decode cX8_notes 42 = .ok (.getfield 41, 3) := by decide +kernel
theorem dX8_notes_45 : decode cX8_notes 45 = .ok (.bipush 51, 2) := by decide +kernel
theorem dX8_notes_47 : decode cX8_notes 47 = .ok (.aload_n 0, 1) := by decide +kernel
theorem dX8_notes_48 : decode cX8_notes 48 = .ok (.getfield 164, 3) := by decide +kernel
theorem dX8_notes_51 : decode cX8_notes 51 = .ok (.imul, 1) := by decide +kernel
theorem dX8_notes_52 : decode cX8_notes 52 = .ok (.bipush 51, 2) := by decide +kernel
theorem dX8_notes_54 : decode cX8_notes 54 = .ok (.invokestatic 157, 3) := by decide +kernel
theorem dX8_notes_57 : decode cX8_notes 57 = .ok (.aload_n 0, 1) := by decide +kernel
theorem dX8_notes_58 : decode cX8_notes 58 = .ok (.dup, 1) := by decide +kernel
theorem dX8_notes_59 : decode cX8_notes 59 = .ok (.getfield 164, 3) := by decide +kernel
theorem dX8_notes_62 : decode cX8_notes 62 = .ok (.iconst 1, 1) := by decide +kernel
theorem dX8_notes_63 : decode cX8_notes 63 = .ok (.iadd, 1) := by decide +kernel
theorem dX8_notes_64 : decode cX8_notes 64 = .ok (.putfield 164, 3) := by decide +kernel
theorem dX8_notes_67 : decode cX8_notes 67 = .ok (.return_, 1) := by decide +kernel
theorem dX8_say_0 : decode cX8_say 0 = .ok (.aload_n 0, 1) := by decide +kernel
theorem dX8_say_1 : decode cX8_say 1 = .ok (.iload_n 1, 1) := by decide +kernel
theorem dX8_say_2 : decode cX8_say 2 = .ok (.invokevirtual 229, 3) := by decide +kernel
theorem dX8_say_5 : decode cX8_say 5 = .ok (.ifCond .ne 6, 3) := by decide +kernel
theorem dX8_say_8 : decode cX8_say 8 = .ok (.ldc 222, 2) := by decide +kernel
theorem dX8_say_10 : decode cX8_say 10 = .ok (.ireturn, 1) := by decide +kernel
theorem dX8_say_11 : decode cX8_say 11 = .ok (.aload_n 0, 1) := by decide +kernel
theorem dX8_say_12 : decode cX8_say 12 = .ok (.getfield 38, 3) := by decide +kernel
theorem dX8_say_15 : decode cX8_say 15 = .ok (.iconst 2, 1) := by decide +kernel
theorem dX8_say_16 : decode cX8_say 16 = .ok (.iaload, 1) := by decide +kernel
theorem dX8_say_17 : decode cX8_say 17 = .ok (.ldc 235, 2) := by decide +kernel
theorem dX8_say_19 : decode cX8_say 19 = .ok (.if_icmp .lt 6, 3) := by decide +kernel
theorem dX8_say_22 : decode cX8_say 22 = .ok (.ldc 99, 2) := by decide +kernel
theorem dX8_say_24 : decode cX8_say 24 = .ok (.ireturn, 1) := by decide +kernel
theorem dX8_say_25 : decode cX8_say 25 = .ok (.aload_n 0, 1) := by decide +kernel
theorem dX8_say_26 : decode cX8_say 26 = .ok (.iload_n 1, 1) := by decide +kernel
theorem dX8_say_27 : decode cX8_say 27 = .ok (.invokevirtual 232, 3) := by decide +kernel
theorem dX8_say_30 : decode cX8_say 30 = .ok (.istore_n 2, 1) := by decide +kernel
theorem dX8_say_31 : decode cX8_say 31 = .ok (.aload_n 0, 1) := by decide +kernel
theorem dX8_say_32 : decode cX8_say 32 = .ok (.invokevirtual 236, 3) := by decide +kernel
theorem dX8_say_35 : decode cX8_say 35 = .ok (.aload_n 0, 1) := by decide +kernel
theorem dX8_say_36 : decode cX8_say 36 = .ok (.iload_n 1, 1) := by decide +kernel
theorem dX8_say_37 : decode cX8_say 37 = .ok (.invokevirtual 239, 3) := by decide +kernel
theorem dX8_say_40 : decode cX8_say 40 = .ok (.iload_n 2, 1) := by decide +kernel
theorem dX8_say_41 : decode cX8_say 41 = .ok (.ireturn, 1) := by decide +kernel
theorem dX8_behind_0 : decode cX8_behind 0 = .ok (.aload_n 0, 1) := by decide +kernel
theorem dX8_behind_1 : decode cX8_behind 1 = .ok (.getfield 17, 3) := by decide +kernel
theorem dX8_behind_4 : decode cX8_behind 4 = .ok (.iload_n 1, 1) := by decide +kernel
theorem dX8_behind_5 : decode cX8_behind 5 = .ok (.iaload, 1) := by decide +kernel
theorem dX8_behind_6 : decode cX8_behind 6 = .ok (.iload_n 2, 1) := by decide +kernel
theorem dX8_behind_7 : decode cX8_behind 7 = .ok (.if_icmp .ne 12, 3) := by decide +kernel
theorem dX8_behind_10 : decode cX8_behind 10 = .ok (.aload_n 0, 1) := by decide +kernel
theorem dX8_behind_11 : decode cX8_behind 11 = .ok (.getfield 20, 3) := by decide +kernel
theorem dX8_behind_14 : decode cX8_behind 14 = .ok (.iload_n 1, 1) := by decide +kernel
theorem dX8_behind_15 : decode cX8_behind 15 = .ok (.iaload, 1) := by decide +kernel
theorem dX8_behind_16 : decode cX8_behind 16 = .ok (.goto 23, 3) := by decide +kernel
theorem dX8_behind_19 : decode cX8_behind 19 = .ok (.aload_n 0, 1) := by decide +kernel
theorem dX8_behind_20 : decode cX8_behind 20 = .ok (.getfield 20, 3) := by decide +kernel
theorem dX8_behind_23 : decode cX8_behind 23 = .ok (.iload_n 1, 1) := by decide +kernel
theorem dX8_behind_24 : decode cX8_behind 24 = .ok (.iaload, 1) := by decide +kernel
theorem dX8_behind_25 : decode cX8_behind 25 = .ok (.iload_n 2, 1) := by decide +kernel
theorem dX8_behind_26 : decode cX8_behind 26 = .ok (.if_icmp .ne 12, 3) := by decide +kernel
theorem dX8_behind_29 : decode cX8_behind 29 = .ok (.aload_n 0, 1) := by decide +kernel
theorem dX8_behind_30 : decode cX8_behind 30 = .ok (.getfield 17, 3) := by decide +kernel
theorem dX8_behind_33 : decode cX8_behind 33 = .ok (.iload_n 1, 1) := by decide +kernel
theorem dX8_behind_34 : decode cX8_behind 34 = .ok (.iaload, 1) := by decide +kernel
theorem dX8_behind_35 : decode cX8_behind 35 = .ok (.goto 4, 3) := by decide +kernel
theorem dX8_behind_38 : decode cX8_behind 38 = .ok (.iconst (-1), 1) := by decide +kernel
theorem dX8_behind_39 : decode cX8_behind 39 = .ok (.ireturn, 1) := by decide +kernel
theorem dX8_go_0 : decode cX8_go 0 = .ok (.aload_n 0, 1) := by decide +kernel
theorem dX8_go_1 : decode cX8_go 1 = .ok (.iload_n 1, 1) := by decide +kernel
theorem dX8_go_2 : decode cX8_go 2 = .ok (.invokevirtual 229, 3) := by decide +kernel
theorem dX8_go_5 : decode cX8_go 5 = .ok (.ifCond .eq 11, 3) := by decide +kernel
theorem dX8_go_8 : decode cX8_go 8 = .ok (.aload_n 0, 1) := by decide +kernel
theorem dX8_go_9 : decode cX8_go 9 = .ok (.iload_n 2, 1) := by decide +kernel
theorem dX8_go_10 : decode cX8_go 10 = .ok (.invokevirtual 226, 3) := by decide +kernel
theorem dX8_go_13 : decode cX8_go 13 = .ok (.ifCond .ne 6, 3) := by decide +kernel
theorem dX8_go_16 : decode cX8_go 16 = .ok (.ldc 222, 2) := by decide +kernel
theorem dX8_go_18 : decode cX8_go 18 = .ok (.ireturn, 1) := by decide +kernel
theorem dX8_go_19 : decode cX8_go 19 = .ok (.aload_n 0, 1) := by decide +kernel
theorem dX8_go_20 : decode cX8_go 20 = .ok (.iload_n 2, 1) := by decide +kernel
theorem dX8_go_21 : decode cX8_go 21 = .ok (.aload_n 0, 1) := by decide +kernel
theorem dX8_go_22 : decode cX8_go 22 = .ok (.getfield 38, 3) := by decide +kernel
theorem dX8_go_25 : decode cX8_go 25 = .ok (.bipush 45, 2) := by decide +kernel
theorem dX8_go_27 : decode cX8_go 27 = .ok (.iload_n 1, 1) := by decide +kernel
theorem dX8_go_28 : decode cX8_go 28 = .ok (.iadd, 1) := by decide +kernel
theorem dX8_go_29 : decode cX8_go 29 = .ok (.iaload, 1) := by decide +kernel
theorem dX8_go_30 : decode cX8_go 30 = .ok (.invokevirtual 242, 3) := by decide +kernel
theorem dX8_go_33 : decode cX8_go 33 = .ok (.istore_n 3, 1) := by decide +kernel
theorem dX8_go_34 : decode cX8_go 34 = .ok (.iload_n 3, 1) := by decide +kernel
theorem dX8_go_35 : decode cX8_go 35 = .ok (.iconst (-1), 1) := by decide +kernel
theorem dX8_go_36 : decode cX8_go 36 = .ok (.if_icmp .ne 6, 3) := by decide +kernel
theorem dX8_go_39 : decode cX8_go 39 = .ok (.ldc 245, 2) := by decide +kernel
theorem dX8_go_41 : decode cX8_go 41 = .ok (.ireturn, 1) := by decide +kernel
theorem dX8_go_42 : decode cX8_go 42 = .ok (.aload_n 0, 1) := by decide +kernel
theorem dX8_go_43 : decode cX8_go 43 = .ok (.invokevirtual 236, 3) := by decide +kernel
theorem dX8_go_46 : decode cX8_go 46 = .ok (.aload_n 0, 1) := by decide +kernel
theorem dX8_go_47 : decode cX8_go 47 = .ok (.getfield 38, 3) := by decide +kernel
theorem dX8_go_50 : decode cX8_go 50 = .ok (.bipush 45, 2) := by decide +kernel
theorem dX8_go_52 : decode cX8_go 52 = .ok (.iload_n 1, 1) := by decide +kernel
theorem dX8_go_53 : decode cX8_go 53 = .ok (.iadd, 1) := by decide +kernel
theorem dX8_go_54 : decode cX8_go 54 = .ok (.iload_n 3, 1) := by decide +kernel
theorem dX8_go_55 : decode cX8_go 55 = .ok (.iastore, 1) := by decide +kernel
theorem dX8_go_56 : decode cX8_go 56 = .ok (.iload_n 3, 1) := by decide +kernel
theorem dX8_go_57 : decode cX8_go 57 = .ok (.ireturn, 1) := by decide +kernel
theorem dX8_hour_0 : decode cX8_hour 0 = .ok (.iload_n 1, 1) := by decide +kernel
theorem dX8_hour_1 : decode cX8_hour 1 = .ok (.iconst 1, 1) := by decide +kernel
theorem dX8_hour_2 : decode cX8_hour 2 = .ok (.bipush 20, 2) := by decide +kernel
theorem dX8_hour_4 : decode cX8_hour 4 = .ok (.invokestatic 85, 3) := by decide +kernel
theorem dX8_hour_7 : decode cX8_hour 7 = .ok (.ifCond .ne 6, 3) := by decide +kernel
theorem dX8_hour_10 : decode cX8_hour 10 = .ok (.ldc 95, 2) := by decide +kernel
theorem dX8_hour_12 : decode cX8_hour 12 = .ok (.ireturn, 1) := by decide +kernel
theorem dX8_hour_13 : decode cX8_hour 13 = .ok (.aload_n 0, 1) := by decide +kernel
theorem dX8_hour_14 : decode cX8_hour 14 = .ok (.getfield 154, 3) := by decide +kernel
theorem dX8_hour_17 : decode cX8_hour 17 = .ok (.ifCond .ne 6, 3) := by decide +kernel
theorem dX8_hour_20 : decode cX8_hour 20 = .ok (.ldc 245, 2) := by decide +kernel
theorem dX8_hour_22 : decode cX8_hour 22 = .ok (.ireturn, 1) := by decide +kernel
theorem dX8_hour_23 : decode cX8_hour 23 = .ok (.aload_n 0, 1) := by decide +kernel
theorem dX8_hour_24 : decode cX8_hour 24 = .ok (.getfield 38, 3) := by decide +kernel
theorem dX8_hour_27 : decode cX8_hour 27 = .ok (.iconst 1, 1) := by decide +kernel
theorem dX8_hour_28 : decode cX8_hour 28 = .ok (.iaload, 1) := by decide +kernel
theorem dX8_hour_29 : decode cX8_hour 29 = .ok (.sipush 9000, 3) := by decide +kernel
theorem dX8_hour_32 : decode cX8_hour 32 = .ok (.if_icmp .le 6, 3) := by decide +kernel
theorem dX8_hour_35 : decode cX8_hour 35 = .ok (.ldc 99, 2) := by decide +kernel
theorem dX8_hour_37 : decode cX8_hour 37 = .ok (.ireturn, 1) := by decide +kernel
theorem dX8_hour_38 : decode cX8_hour 38 = .ok (.iconst 0, 1) := by decide +kernel
theorem dX8_hour_39 : decode cX8_hour 39 = .ok (.istore_n 2, 1) := by decide +kernel
theorem dX8_hour_40 : decode cX8_hour 40 = .ok (.iload_n 2, 1) := by decide +kernel
theorem dX8_hour_41 : decode cX8_hour 41 = .ok (.iload_n 1, 1) := by decide +kernel
theorem dX8_hour_42 : decode cX8_hour 42 = .ok (.if_icmp .ge 17, 3) := by decide +kernel
theorem dX8_hour_45 : decode cX8_hour 45 = .ok (.aload_n 0, 1) := by decide +kernel
theorem dX8_hour_46 : decode cX8_hour 46 = .ok (.invokevirtual 236, 3) := by decide +kernel
theorem dX8_hour_49 : decode cX8_hour 49 = .ok (.aload_n 0, 1) := by decide +kernel
theorem dX8_hour_50 : decode cX8_hour 50 = .ok (.invokevirtual 246, 3) := by decide +kernel
theorem dX8_hour_53 : decode cX8_hour 53 = .ok (.iinc 2 1, 3) := by decide +kernel
theorem dX8_hour_56 : decode cX8_hour 56 = .ok (.goto (-16), 3) := by decide +kernel
theorem dX8_hour_59 : decode cX8_hour 59 = .ok (.aload_n 0, 1) := by decide +kernel
theorem dX8_hour_60 : decode cX8_hour 60 = .ok (.getfield 38, 3) := by decide +kernel
theorem dX8_hour_63 : decode cX8_hour 63 = .ok (.iconst 0, 1) := by decide +kernel
theorem dX8_hour_64 : decode cX8_hour 64 = .ok (.iaload, 1) := by decide +kernel
theorem dX8_hour_65 : decode cX8_hour 65 = .ok (.ireturn, 1) := by decide +kernel
theorem dX8_out_0 : decode cX8_out 0 = .ok (.aload_n 0, 1) := by decide +kernel
theorem dX8_out_1 : decode cX8_out 1 = .ok (.iload_n 1, 1) := by decide +kernel
theorem dX8_out_2 : decode cX8_out 2 = .ok (.invokevirtual 218, 3) := by decide +kernel
theorem dX8_out_5 : decode cX8_out 5 = .ok (.ifCond .ne 6, 3) := by decide +kernel
theorem dX8_out_8 : decode cX8_out 8 = .ok (.ldc 222, 2) := by decide +kernel
theorem dX8_out_10 : decode cX8_out 10 = .ok (.ireturn, 1) := by decide +kernel
theorem dX8_out_11 : decode cX8_out 11 = .ok (.aload_n 0, 1) := by decide +kernel
theorem dX8_out_12 : decode cX8_out 12 = .ok (.getfield 38, 3) := by decide +kernel
theorem dX8_out_15 : decode cX8_out 15 = .ok (.bipush 9, 2) := by decide +kernel
theorem dX8_out_17 : decode cX8_out 17 = .ok (.iload_n 1, 1) := by decide +kernel
theorem dX8_out_18 : decode cX8_out 18 = .ok (.iadd, 1) := by decide +kernel
theorem dX8_out_19 : decode cX8_out 19 = .ok (.iaload, 1) := by decide +kernel
theorem dX8_out_20 : decode cX8_out 20 = .ok (.iconst 1, 1) := by decide +kernel
theorem dX8_out_21 : decode cX8_out 21 = .ok (.if_icmp .ne 6, 3) := by decide +kernel
theorem dX8_out_24 : decode cX8_out 24 = .ok (.ldc 245, 2) := by decide +kernel
theorem dX8_out_26 : decode cX8_out 26 = .ok (.ireturn, 1) := by decide +kernel
theorem dX8_out_27 : decode cX8_out 27 = .ok (.aload_n 0, 1) := by decide +kernel
theorem dX8_out_28 : decode cX8_out 28 = .ok (.aload_n 0, 1) := by decide +kernel
theorem dX8_out_29 : decode cX8_out 29 = .ok (.getfield 38, 3) := by decide +kernel
theorem dX8_out_32 : decode cX8_out 32 = .ok (.iload_n 1, 1) := by decide +kernel
theorem dX8_out_33 : decode cX8_out 33 = .ok (.aload_n 0, 1) := by decide +kernel
theorem dX8_out_34 : decode cX8_out 34 = .ok (.getfield 38, 3) := by decide +kernel
theorem dX8_out_37 : decode cX8_out 37 = .ok (.iconst 0, 1) := by decide +kernel
theorem dX8_out_38 : decode cX8_out 38 = .ok (.iaload, 1) := by decide +kernel
theorem dX8_out_39 : decode cX8_out 39 = .ok (.invokevirtual 177, 3) := by decide +kernel
theorem dX8_out_42 : decode cX8_out 42 = .ok (.ifCond .eq 7, 3) := by decide +kernel
theorem dX8_out_45 : decode cX8_out 45 = .ok (.iconst 1, 1) := by decide +kernel
theorem dX8_out_46 : decode cX8_out 46 = .ok (.goto 4, 3) := by decide +kernel
theorem dX8_out_49 : decode cX8_out 49 = .ok (.iconst 0, 1) := by decide +kernel
theorem dX8_out_50 : decode cX8_out 50 = .ok (.istore_n 2, 1) := by decide +kernel
theorem dX8_out_51 : decode cX8_out 51 = .ok (.aload_n 0, 1) := by decide +kernel
theorem dX8_out_52 : decode cX8_out 52 = .ok (.invokevirtual 236, 3) := by decide +kernel
theorem dX8_out_55 : decode cX8_out 55 = .ok (.aload_n 0, 1) := by decide +kernel
theorem dX8_out_56 : decode cX8_out 56 = .ok (.getfield 38, 3) := by decide +kernel
theorem dX8_out_59 : decode cX8_out 59 = .ok (.bipush 9, 2) := by decide +kernel
theorem dX8_out_61 : decode cX8_out 61 = .ok (.iload_n 1, 1) := by decide +kernel
theorem dX8_out_62 : decode cX8_out 62 = .ok (.iadd, 1) := by decide +kernel
theorem dX8_out_63 : decode cX8_out 63 = .ok (.iconst 1, 1) := by decide +kernel
theorem dX8_out_64 : decode cX8_out 64 = .ok (.iastore, 1) := by decide +kernel
theorem dX8_out_65 : decode cX8_out 65 = .ok (.iload_n 2, 1) := by decide +kernel
theorem dX8_out_66 : decode cX8_out 66 = .ok (.ireturn, 1) := by decide +kernel
theorem dX8_light_0 : decode cX8_light 0 = .ok (.aload_n 0, 1) := by decide +kernel
theorem dX8_light_1 : decode cX8_light 1 = .ok (.iload_n 1, 1) := by decide +kernel
theorem dX8_light_2 : decode cX8_light 2 = .ok (.invokevirtual 218, 3) := by decide +kernel
theorem dX8_light_5 : decode cX8_light 5 = .ok (.ifCond .ne 6, 3) := by decide +kernel
theorem dX8_light_8 : decode cX8_light 8 = .ok (.ldc 222, 2) := by decide +kernel
theorem dX8_light_10 : decode cX8_light 10 = .ok (.ireturn, 1) := by decide +kernel
theorem dX8_light_11 : decode cX8_light 11 = .ok (.aload_n 0, 1) := by decide +kernel
theorem dX8_light_12 : decode cX8_light 12 = .ok (.getfield 38, 3) := by decide +kernel
theorem dX8_light_15 : decode cX8_light 15 = .ok (.bipush 9, 2) := by decide +kernel
theorem dX8_light_17 : decode cX8_light 17 = .ok (.iload_n 1, 1) := by decide +kernel
theorem dX8_light_18 : decode cX8_light 18 = .ok (.iadd, 1) := by decide +kernel
theorem dX8_light_19 : decode cX8_light 19 = .ok (.iaload, 1) := by decide +kernel
theorem dX8_light_20 : decode cX8_light 20 = .ok (.ifCond .ne 6, 3) := by decide +kernel
theorem dX8_light_23 : decode cX8_light 23 = .ok (.ldc 245, 2) := by decide +kernel
theorem dX8_light_25 : decode cX8_light 25 = .ok (.ireturn, 1) := by decide +kernel
theorem dX8_light_26 : decode cX8_light 26 = .ok (.aload_n 0, 1) := by decide +kernel
theorem dX8_light_27 : decode cX8_light 27 = .ok (.invokevirtual 236, 3) := by decide +kernel
theorem dX8_light_30 : decode cX8_light 30 = .ok (.aload_n 0, 1) := by decide +kernel
theorem dX8_light_31 : decode cX8_light 31 = .ok (.getfield 38, 3) := by decide +kernel
theorem dX8_light_34 : decode cX8_light 34 = .ok (.bipush 9, 2) := by decide +kernel
theorem dX8_light_36 : decode cX8_light 36 = .ok (.iload_n 1, 1) := by decide +kernel
theorem dX8_light_37 : decode cX8_light 37 = .ok (.iadd, 1) := by decide +kernel
theorem dX8_light_38 : decode cX8_light 38 = .ok (.iconst 0, 1) := by decide +kernel
theorem dX8_light_39 : decode cX8_light 39 = .ok (.iastore, 1) := by decide +kernel
theorem dX8_light_40 : decode cX8_light 40 = .ok (.aload_n 0, 1) := by decide +kernel
theorem dX8_light_41 : decode cX8_light 41 = .ok (.aload_n 0, 1) := by decide +kernel
theorem dX8_light_42 : decode cX8_light 42 = .ok (.getfield 38, 3) := by decide +kernel
theorem dX8_light_45 : decode cX8_light 45 = .ok (.iload_n 1, 1) := by decide +kernel
theorem dX8_light_46 : decode cX8_light 46 = .ok (.aload_n 0, 1) := by decide +kernel
theorem dX8_light_47 : decode cX8_light 47 = .ok (.getfield 38, 3) := by decide +kernel
theorem dX8_light_50 : decode cX8_light 50 = .ok (.iconst 0, 1) := by decide +kernel
theorem dX8_light_51 : decode cX8_light 51 = .ok (.iaload, 1) := by decide +kernel
theorem dX8_light_52 : decode cX8_light 52 = .ok (.invokevirtual 177, 3) := by decide +kernel
theorem dX8_light_55 : decode cX8_light 55 = .ok (.ifCond .eq 7, 3) := by decide +kernel
theorem dX8_light_58 : decode cX8_light 58 = .ok (.iconst 1, 1) := by decide +kernel
theorem dX8_light_59 : decode cX8_light 59 = .ok (.goto 4, 3) := by decide +kernel
theorem dX8_light_62 : decode cX8_light 62 = .ok (.iconst 0, 1) := by decide +kernel
theorem dX8_light_63 : decode cX8_light 63 = .ok (.ireturn, 1) := by decide +kernel
theorem dX8_candle_0 : decode cX8_candle 0 = .ok (.aload_n 0, 1) := by decide +kernel
theorem dX8_candle_1 : decode cX8_candle 1 = .ok (.iload_n 1, 1) := by decide +kernel
theorem dX8_candle_2 : decode cX8_candle 2 = .ok (.invokevirtual 218, 3) := by decide +kernel
theorem dX8_candle_5 : decode cX8_candle 5 = .ok (.ifCond .ne 6, 3) := by decide +kernel
theorem dX8_candle_8 : decode cX8_candle 8 = .ok (.ldc 222, 2) := by decide +kernel
theorem dX8_candle_10 : decode cX8_candle 10 = .ok (.ireturn, 1) := by decide +kernel
theorem dX8_candle_11 : decode cX8_candle 11 = .ok (.iload_n 2, 1) := by decide +kernel
theorem dX8_candle_12 : decode cX8_candle 12 = .ok (.iconst 0, 1) := by decide +kernel
theorem dX8_candle_13 : decode cX8_candle 13 = .ok (.bipush 20, 2) := by decide +kernel
theorem dX8_candle_15 : decode cX8_candle 15 = .ok (.invokestatic 85, 3) := by decide +kernel
theorem dX8_candle_18 : decode cX8_candle 18 = .ok (.ifCond .ne 6, 3) := by decide +kernel
theorem dX8_candle_21 : decode cX8_candle 21 = .ok (.ldc 95, 2) := by decide +kernel
theorem dX8_candle_23 : decode cX8_candle 23 = .ok (.ireturn, 1) := by decide +kernel
theorem dX8_candle_24 : decode cX8_candle 24 = .ok (.aload_n 0, 1) := by decide +kernel
theorem dX8_candle_25 : decode cX8_candle 25 = .ok (.getfield 38, 3) := by decide +kernel
theorem dX8_candle_28 : decode cX8_candle 28 = .ok (.iconst 3, 1) := by decide +kernel
theorem dX8_candle_29 : decode cX8_candle 29 = .ok (.iload_n 1, 1) := by decide +kernel
theorem dX8_candle_30 : decode cX8_candle 30 = .ok (.iadd, 1) := by decide +kernel
theorem dX8_candle_31 : decode cX8_candle 31 = .ok (.iaload, 1) := by decide +kernel
theorem dX8_candle_32 : decode cX8_candle 32 = .ok (.istore_n 3, 1) := by decide +kernel
theorem dX8_candle_33 : decode cX8_candle 33 = .ok (.aload_n 0, 1) := by decide +kernel
theorem dX8_candle_34 : decode cX8_candle 34 = .ok (.invokevirtual 236, 3) := by decide +kernel
theorem dX8_candle_37 : decode cX8_candle 37 = .ok (.aload_n 0, 1) := by decide +kernel
theorem dX8_candle_38 : decode cX8_candle 38 = .ok (.getfield 38, 3) := by decide +kernel
theorem dX8_candle_41 : decode cX8_candle 41 = .ok (.iconst 3, 1) := by decide +kernel
theorem dX8_candle_42 : decode cX8_candle 42 = .ok (.iload_n 1, 1) := by decide +kernel
theorem dX8_candle_43 : decode cX8_candle 43 = .ok (.iadd, 1) := by decide +kernel
theorem dX8_candle_44 : decode cX8_candle 44 = .ok (.iload_n 2, 1) := by decide +kernel
theorem dX8_candle_45 : decode cX8_candle 45 = .ok (.iastore, 1) := by decide +kernel
theorem dX8_candle_46 : decode cX8_candle 46 = .ok (.iload_n 3, 1) := by decide +kernel
theorem dX8_candle_47 : decode cX8_candle 47 = .ok (.ireturn, 1) := by decide +kernel
theorem dX8_draw_0 : decode cX8_draw 0 = .ok (.aload_n 0, 1) := by decide +kernel
theorem dX8_draw_1 : decode cX8_draw 1 = .ok (.aload_n 0, 1) := by decide +kernel
theorem dX8_draw_2 : decode cX8_draw 2 = .ok (.getfield 249, 3) := by decide +kernel
theorem dX8_draw_5 : decode cX8_draw 5 = .ok (.ldc2_w 253, 3) := by decide +kernel
theorem dX8_draw_8 : decode cX8_draw 8 = .ok (.lmul, 1) := by decide +kernel
theorem dX8_draw_9 : decode cX8_draw 9 = .ok (.ldc2_w 255, 3) := by decide +kernel
theorem dX8_draw_12 : decode cX8_draw 12 = .ok (.ladd, 1) := by decide +kernel
theorem dX8_draw_13 : decode cX8_draw 13 = .ok (.ldc2_w 257, 3) := by decide +kernel
theorem dX8_draw_16 : decode cX8_draw 16 = .ok (.lrem, 1) := by decide +kernel
theorem dX8_draw_17 : decode cX8_draw 17 = .ok (.putfield 249, 3) := by decide +kernel
theorem dX8_draw_20 : decode cX8_draw 20 = .ok (.aload_n 0, 1) := by decide +kernel
theorem dX8_draw_21 : decode cX8_draw 21 = .ok (.getfield 249, 3) := by decide +kernel
theorem dX8_draw_24 : decode cX8_draw 24 = .ok (.ldc2_w 259, 3) := by decide +kernel
theorem dX8_draw_27 : decode cX8_draw 27 = .ok (.ldiv, 1) := by decide +kernel
theorem dX8_draw_28 : decode cX8_draw 28 = .ok (.iload_n 1, 1) := by decide +kernel
theorem dX8_draw_29 : decode cX8_draw 29 = .ok (.i2l, 1) := by decide +kernel
theorem dX8_draw_30 : decode cX8_draw 30 = .ok (.lrem, 1) := by decide +kernel
theorem dX8_draw_31 : decode cX8_draw 31 = .ok (.l2i, 1) := by decide +kernel
theorem dX8_draw_32 : decode cX8_draw 32 = .ok (.ireturn, 1) := by decide +kernel
theorem dX8_drawn_0 : decode cX8_drawn 0 = .ok (.aload_n 0, 1) := by decide +kernel
theorem dX8_drawn_1 : decode cX8_drawn 1 = .ok (.invokevirtual 236, 3) := by decide +kernel
theorem dX8_drawn_4 : decode cX8_drawn 4 = .ok (.aload_n 0, 1) := by decide +kernel
theorem dX8_drawn_5 : decode cX8_drawn 5 = .ok (.getfield 89, 3) := by decide +kernel
theorem dX8_drawn_8 : decode cX8_drawn 8 = .ok (.ifCond .le 113, 3) := by decide +kernel
theorem dX8_drawn_11 : decode cX8_drawn 11 = .ok (.aload_n 0, 1) := by decide +kernel
theorem dX8_drawn_12 : decode cX8_drawn 12 = .ok (.iconst 4, 1) := by decide +kernel
theorem dX8_drawn_13 : decode cX8_drawn 13 = .ok (.invokevirtual 261, 3) := by decide +kernel
theorem dX8_drawn_16 : decode cX8_drawn 16 = .ok (.istore_n 1, 1) := by decide +kernel
theorem dX8_drawn_17 : decode cX8_drawn 17 = .ok (.aload_n 0, 1) := by decide +kernel
theorem dX8_drawn_18 : decode cX8_drawn 18 = .ok (.aload_n 0, 1) := by decide +kernel
theorem dX8_drawn_19 : decode cX8_drawn 19 = .ok (.getfield 89, 3) := by decide +kernel
theorem dX8_drawn_22 : decode cX8_drawn 22 = .ok (.invokevirtual 261, 3) := by decide +kernel
theorem dX8_drawn_25 : decode cX8_drawn 25 = .ok (.istore_n 2, 1) := by decide +kernel
theorem dX8_drawn_26 : decode cX8_drawn 26 = .ok (.iload_n 1, 1) := by decide +kernel
theorem dX8_drawn_27 : decode cX8_drawn 27 = .ok (.iconst 2, 1) := by decide +kernel
theorem dX8_drawn_28 : decode cX8_drawn 28 = .ok (.if_icmp .ge 11, 3) := by decide +kernel
theorem dX8_drawn_31 : decode cX8_drawn 31 = .ok (.aload_n 0, 1) := by decide +kernel
theorem dX8_drawn_32 : decode cX8_drawn 32 = .ok (.iload_n 2, 1) := by decide +kernel
theorem dX8_drawn_33 : decode cX8_drawn 33 = .ok (.invokevirtual 239, 3) := by decide +kernel
theorem dX8_drawn_36 : decode cX8_drawn 36 = .ok (.goto 85, 3) := by decide +kernel
theorem dX8_drawn_39 : decode cX8_drawn 39 = .ok (.iload_n 1, 1) := by decide +kernel
theorem dX8_drawn_40 : decode cX8_drawn 40 = .ok (.iconst 3, 1) := by decide +kernel
theorem dX8_drawn_41 : decode cX8_drawn 41 = .ok (.if_icmp .ne 24, 3) := by decide +kernel
theorem dX8_drawn_44 : decode cX8_drawn 44 = .ok (.aload_n 0, 1) := by decide +kernel
theorem dX8_drawn_45 : decode cX8_drawn 45 = .ok (.getfield 38, 3) := by decide +kernel
theorem dX8_drawn_48 : decode cX8_drawn 48 = .ok (.bipush 9, 2) := by decide +kernel
theorem dX8_drawn_50 : decode cX8_drawn 50 = .ok (.aload_n 0, 1) := by decide +kernel
theorem dX8_drawn_51 : decode cX8_drawn 51 = .ok (.getfield 38, 3) := by decide +kernel
theorem dX8_drawn_54 : decode cX8_drawn 54 = .ok (.bipush 45, 2) := by decide +kernel
theorem dX8_drawn_56 : decode cX8_drawn 56 = .ok (.iload_n 2, 1) := by decide +kernel
theorem dX8_drawn_57 : decode cX8_drawn 57 = .ok (.iadd, 1) := by decide +kernel
theorem dX8_drawn_58 : decode cX8_drawn 58 = .ok (.iaload, 1) := by decide +kernel
theorem dX8_drawn_59 : decode cX8_drawn 59 = .ok (.iadd, 1) := by decide +kernel
theorem dX8_drawn_60 : decode cX8_drawn 60 = .ok (.iconst 1, 1) := by decide +kernel
theorem dX8_drawn_61 : decode cX8_drawn 61 = .ok (.iastore, 1) := by decide +kernel
theorem dX8_drawn_62 : decode cX8_drawn 62 = .ok (.goto 59, 3) := by decide +kernel
theorem dX8_drawn_65 : decode cX8_drawn 65 = .ok (.aload_n 0, 1) := by decide +kernel
theorem dX8_drawn_66 : decode cX8_drawn 66 = .ok (.getfield 92, 3) := by decide +kernel
theorem dX8_drawn_69 : decode cX8_drawn 69 = .ok (.ifCond .le 52, 3) := by decide +kernel
theorem dX8_drawn_72 : decode cX8_drawn 72 = .ok (.aload_n 0, 1) := by decide +kernel
theorem dX8_drawn_73 : decode cX8_drawn 73 = .ok (.aload_n 0, 1) := by decide +kernel
theorem dX8_drawn_74 : decode cX8_drawn 74 = .ok (.aload_n 0, 1) := by decide +kernel
theorem dX8_drawn_75 : decode cX8_drawn 75 = .ok (.getfield 92, 3) := by decide +kernel
theorem dX8_drawn_78 : decode cX8_drawn 78 = .ok (.invokevirtual 261, 3) := by decide +kernel
theorem dX8_drawn_81 : decode cX8_drawn 81 = .ok (.aload_n 0, 1) := by decide +kernel
theorem dX8_drawn_82 : decode cX8_drawn 82 = .ok (.getfield 38, 3) := by decide +kernel
theorem dX8_drawn_85 : decode cX8_drawn 85 = .ok (.bipush 45, 2) := by decide +kernel
theorem dX8_drawn_87 : decode cX8_drawn 87 = .ok (.iload_n 2, 1) := by decide +kernel
theorem dX8_drawn_88 : decode cX8_drawn 88 = .ok (.iadd, 1) := by decide +kernel
theorem dX8_drawn_89 : decode cX8_drawn 89 = .ok (.iaload, 1) := by decide +kernel
theorem dX8_drawn_90 : decode cX8_drawn 90 = .ok (.invokevirtual 242, 3) := by decide +kernel
theorem dX8_drawn_93 : decode cX8_drawn 93 = .ok (.istore_n 3, 1) := by decide +kernel
theorem dX8_drawn_94 : decode cX8_drawn 94 = .ok (.aload_n 0, 1) := by decide +kernel
theorem dX8_drawn_95 : decode cX8_drawn 95 = .ok (.getfield 38, 3) := by decide +kernel
theorem dX8_drawn_98 : decode cX8_drawn 98 = .ok (.bipush 45, 2) := by decide +kernel
theorem dX8_drawn_100 : decode cX8_drawn 100 = .ok (.iload_n 2, 1) := by decide +kernel
theorem dX8_drawn_101 : decode cX8_drawn 101 = .ok (.iadd, 1) := by decide +kernel
theorem dX8_drawn_102 : decode cX8_drawn 102 = .ok (.iload_n 3, 1) := by decide +kernel
theorem dX8_drawn_103 : decode cX8_drawn 103 = .ok (.iconst (-1), 1) := by decide +kernel
theorem dX8_drawn_104 : decode cX8_drawn 104 = .ok (.if_icmp .ne 15, 3) := by decide +kernel
theorem dX8_drawn_107 : decode cX8_drawn 107 = .ok (.aload_n 0, 1) := by decide +kernel
theorem dX8_drawn_108 : decode cX8_drawn 108 = .ok (.getfield 38, 3) := by decide +kernel
theorem dX8_drawn_111 : decode cX8_drawn 111 = .ok (.bipush 45, 2) := by decide +kernel
theorem dX8_drawn_113 : decode cX8_drawn 113 = .ok (.iload_n 2, 1) := by decide +kernel
theorem dX8_drawn_114 : decode cX8_drawn 114 = .ok (.iadd, 1) := by decide +kernel
theorem dX8_drawn_115 : decode cX8_drawn 115 = .ok (.iaload, 1) := by decide +kernel
theorem dX8_drawn_116 : decode cX8_drawn 116 = .ok (.goto 4, 3) := by decide +kernel
theorem dX8_drawn_119 : decode cX8_drawn 119 = .ok (.iload_n 3, 1) := by decide +kernel
theorem dX8_drawn_120 : decode cX8_drawn 120 = .ok (.iastore, 1) := by decide +kernel
theorem dX8_drawn_121 : decode cX8_drawn 121 = .ok (.aload_n 0, 1) := by decide +kernel
theorem dX8_drawn_122 : decode cX8_drawn 122 = .ok (.invokevirtual 246, 3) := by decide +kernel
theorem dX8_drawn_125 : decode cX8_drawn 125 = .ok (.return_, 1) := by decide +kernel
theorem dX8_drift_0 : decode cX8_drift 0 = .ok (.iload_n 1, 1) := by decide +kernel
theorem dX8_drift_1 : decode cX8_drift 1 = .ok (.iconst 1, 1) := by decide +kernel
theorem dX8_drift_2 : decode cX8_drift 2 = .ok (.bipush 20, 2) := by decide +kernel
theorem dX8_drift_4 : decode cX8_drift 4 = .ok (.invokestatic 85, 3) := by decide +kernel
theorem dX8_drift_7 : decode cX8_drift 7 = .ok (.ifCond .ne 6, 3) := by decide +kernel
theorem dX8_drift_10 : decode cX8_drift 10 = .ok (.ldc 95, 2) := by decide +kernel
theorem dX8_drift_12 : decode cX8_drift 12 = .ok (.ireturn, 1) := by decide +kernel
theorem dX8_drift_13 : decode cX8_drift 13 = .ok (.aload_n 0, 1) := by decide +kernel
theorem dX8_drift_14 : decode cX8_drift 14 = .ok (.getfield 154, 3) := by decide +kernel
theorem dX8_drift_17 : decode cX8_drift 17 = .ok (.ifCond .ne 6, 3) := by decide +kernel
theorem dX8_drift_20 : decode cX8_drift 20 = .ok (.ldc 245, 2) := by decide +kernel
theorem dX8_drift_22 : decode cX8_drift 22 = .ok (.ireturn, 1) := by decide +kernel
theorem dX8_drift_23 : decode cX8_drift 23 = .ok (.aload_n 0, 1) := by decide +kernel
theorem dX8_drift_24 : decode cX8_drift 24 = .ok (.getfield 38, 3) := by decide +kernel
theorem dX8_drift_27 : decode cX8_drift 27 = .ok (.iconst 1, 1) := by decide +kernel
theorem dX8_drift_28 : decode cX8_drift 28 = .ok (.iaload, 1) := by decide +kernel
theorem dX8_drift_29 : decode cX8_drift 29 = .ok (.sipush 9000, 3) := by decide +kernel
theorem dX8_drift_32 : decode cX8_drift 32 = .ok (.if_icmp .le 6, 3) := by decide +kernel
theorem dX8_drift_35 : decode cX8_drift 35 = .ok (.ldc 99, 2) := by decide +kernel
theorem dX8_drift_37 : decode cX8_drift 37 = .ok (.ireturn, 1) := by decide +kernel
theorem dX8_drift_38 : decode cX8_drift 38 = .ok (.iconst 0, 1) := by decide +kernel
theorem dX8_drift_39 : decode cX8_drift 39 = .ok (.istore_n 2, 1) := by decide +kernel
theorem dX8_drift_40 : decode cX8_drift 40 = .ok (.iload_n 2, 1) := by decide +kernel
theorem dX8_drift_41 : decode cX8_drift 41 = .ok (.iload_n 1, 1) := by decide +kernel
theorem dX8_drift_42 : decode cX8_drift 42 = .ok (.if_icmp .ge 13, 3) := by decide +kernel
theorem dX8_drift_45 : decode cX8_drift 45 = .ok (.aload_n 0, 1) := by decide +kernel
theorem dX8_drift_46 : decode cX8_drift 46 = .ok (.invokevirtual 264, 3) := by decide +kernel
theorem dX8_drift_49 : decode cX8_drift 49 = .ok (.iinc 2 1, 3) := by decide +kernel
theorem dX8_drift_52 : decode cX8_drift 52 = .ok (.goto (-12), 3) := by decide +kernel
theorem dX8_drift_55 : decode cX8_drift 55 = .ok (.aload_n 0, 1) := by decide +kernel
theorem dX8_drift_56 : decode cX8_drift 56 = .ok (.getfield 38, 3) := by decide +kernel
theorem dX8_drift_59 : decode cX8_drift 59 = .ok (.iconst 0, 1) := by decide +kernel
theorem dX8_drift_60 : decode cX8_drift 60 = .ok (.iaload, 1) := by decide +kernel
theorem dX8_drift_61 : decode cX8_drift 61 = .ok (.ireturn, 1) := by decide +kernel
theorem dX8_undo_0 : decode cX8_undo 0 = .ok (.iload_n 1, 1) := by decide +kernel
theorem dX8_undo_1 : decode cX8_undo 1 = .ok (.iconst 1, 1) := by decide +kernel
theorem dX8_undo_2 : decode cX8_undo 2 = .ok (.bipush 30, 2) := by decide +kernel
theorem dX8_undo_4 : decode cX8_undo 4 = .ok (.invokestatic 85, 3) := by decide +kernel
theorem dX8_undo_7 : decode cX8_undo 7 = .ok (.ifCond .ne 6, 3) := by decide +kernel
theorem dX8_undo_10 : decode cX8_undo 10 = .ok (.ldc 95, 2) := by decide +kernel
theorem dX8_undo_12 : decode cX8_undo 12 = .ok (.ireturn, 1) := by decide +kernel
theorem dX8_undo_13 : decode cX8_undo 13 = .ok (.iload_n 1, 1) := by decide +kernel
theorem dX8_undo_14 : decode cX8_undo 14 = .ok (.aload_n 0, 1) := by decide +kernel
theorem dX8_undo_15 : decode cX8_undo 15 = .ok (.getfield 164, 3) := by decide +kernel
theorem dX8_undo_18 : decode cX8_undo 18 = .ok (.if_icmp .le 6, 3) := by decide +kernel
theorem dX8_undo_21 : decode cX8_undo 21 = .ok (.ldc 245, 2) := by decide +kernel
theorem dX8_undo_23 : decode cX8_undo 23 = .ok (.ireturn, 1) := by decide +kernel
theorem dX8_undo_24 : decode cX8_undo 24 = .ok (.aload_n 0, 1) := by decide +kernel
theorem dX8_undo_25 : decode cX8_undo 25 = .ok (.dup, 1) := by decide +kernel
theorem dX8_undo_26 : decode cX8_undo 26 = .ok (.getfield 164, 3) := by decide +kernel
theorem dX8_undo_29 : decode cX8_undo 29 = .ok (.iload_n 1, 1) := by decide +kernel
theorem dX8_undo_30 : decode cX8_undo 30 = .ok (.isub, 1) := by decide +kernel
theorem dX8_undo_31 : decode cX8_undo 31 = .ok (.putfield 164, 3) := by decide +kernel
theorem dX8_undo_34 : decode cX8_undo 34 = .ok (.aload_n 0, 1) := by decide +kernel
theorem dX8_undo_35 : decode cX8_undo 35 = .ok (.getfield 41, 3) := by decide +kernel
theorem dX8_undo_38 : decode cX8_undo 38 = .ok (.bipush 51, 2) := by decide +kernel
theorem dX8_undo_40 : decode cX8_undo 40 = .ok (.aload_n 0, 1) := by decide +kernel
theorem dX8_undo_41 : decode cX8_undo 41 = .ok (.getfield 164, 3) := by decide +kernel
theorem dX8_undo_44 : decode cX8_undo 44 = .ok (.imul, 1) := by decide +kernel
theorem dX8_undo_45 : decode cX8_undo 45 = .ok (.aload_n 0, 1) := by decide +kernel
theorem dX8_undo_46 : decode cX8_undo 46 = .ok (.getfield 38, 3) := by decide +kernel
theorem dX8_undo_49 : decode cX8_undo 49 = .ok (.iconst 0, 1) := by decide +kernel
theorem dX8_undo_50 : decode cX8_undo 50 = .ok (.bipush 51, 2) := by decide +kernel
theorem dX8_undo_52 : decode cX8_undo 52 = .ok (.invokestatic 157, 3) := by decide +kernel
theorem dX8_undo_55 : decode cX8_undo 55 = .ok (.aload_n 0, 1) := by decide +kernel
theorem dX8_undo_56 : decode cX8_undo 56 = .ok (.getfield 38, 3) := by decide +kernel
theorem dX8_undo_59 : decode cX8_undo 59 = .ok (.iconst 0, 1) := by decide +kernel
theorem dX8_undo_60 : decode cX8_undo 60 = .ok (.iaload, 1) := by decide +kernel
theorem dX8_undo_61 : decode cX8_undo 61 = .ok (.ireturn, 1) := by decide +kernel
theorem dX8_wall_0 : decode cX8_wall 0 = .ok (.aload_n 0, 1) := by decide +kernel
theorem dX8_wall_1 : decode cX8_wall 1 = .ok (.iload_n 1, 1) := by decide +kernel
theorem dX8_wall_2 : decode cX8_wall 2 = .ok (.invokevirtual 218, 3) := by decide +kernel
theorem dX8_wall_5 : decode cX8_wall 5 = .ok (.ifCond .eq 25, 3) := by decide +kernel
theorem dX8_wall_8 : decode cX8_wall 8 = .ok (.aload_n 0, 1) := by decide +kernel
theorem dX8_wall_9 : decode cX8_wall 9 = .ok (.iload_n 2, 1) := by decide +kernel
theorem dX8_wall_10 : decode cX8_wall 10 = .ok (.invokevirtual 218, 3) := by decide +kernel
theorem dX8_wall_13 : decode cX8_wall 13 = .ok (.ifCond .eq 17, 3) := by decide +kernel
theorem dX8_wall_16 : decode cX8_wall 16 = .ok (.aload_n 0, 1) := by decide +kernel
theorem dX8_wall_17 : decode cX8_wall 17 = .ok (.getfield 32, 3) := by decide +kernel
theorem dX8_wall_20 : decode cX8_wall 20 = .ok (.bipush 6, 2) := by decide +kernel
theorem dX8_wall_22 : decode cX8_wall 22 = .ok (.iload_n 1, 1) := by decide +kernel
theorem dX8_wall_23 : decode cX8_wall 23 = .ok (.imul, 1) := by decide +kernel
theorem dX8_wall_24 : decode cX8_wall 24 = .ok (.iload_n 2, 1) := by decide +kernel
theorem dX8_wall_25 : decode cX8_wall 25 = .ok (.iadd, 1) := by decide +kernel
theorem dX8_wall_26 : decode cX8_wall 26 = .ok (.iaload, 1) := by decide +kernel
theorem dX8_wall_27 : decode cX8_wall 27 = .ok (.goto 5, 3) := by decide +kernel
theorem dX8_wall_30 : decode cX8_wall 30 = .ok (.ldc 222, 2) := by decide +kernel
theorem dX8_wall_32 : decode cX8_wall 32 = .ok (.ireturn, 1) := by decide +kernel
theorem dX8_way_0 : decode cX8_way 0 = .ok (.aload_n 0, 1) := by decide +kernel
theorem dX8_way_1 : decode cX8_way 1 = .ok (.iload_n 1, 1) := by decide +kernel
theorem dX8_way_2 : decode cX8_way 2 = .ok (.invokevirtual 218, 3) := by decide +kernel
theorem dX8_way_5 : decode cX8_way 5 = .ok (.ifCond .eq 11, 3) := by decide +kernel
theorem dX8_way_8 : decode cX8_way 8 = .ok (.aload_n 0, 1) := by decide +kernel
theorem dX8_way_9 : decode cX8_way 9 = .ok (.iload_n 2, 1) := by decide +kernel
theorem dX8_way_10 : decode cX8_way 10 = .ok (.invokevirtual 218, 3) := by decide +kernel
theorem dX8_way_13 : decode cX8_way 13 = .ok (.ifCond .ne 6, 3) := by decide +kernel
theorem dX8_way_16 : decode cX8_way 16 = .ok (.ldc 222, 2) := by decide +kernel
theorem dX8_way_18 : decode cX8_way 18 = .ok (.ireturn, 1) := by decide +kernel
theorem dX8_way_19 : decode cX8_way 19 = .ok (.aload_n 0, 1) := by decide +kernel
theorem dX8_way_20 : decode cX8_way 20 = .ok (.getfield 35, 3) := by decide +kernel
theorem dX8_way_23 : decode cX8_way 23 = .ok (.bipush 6, 2) := by decide +kernel
theorem dX8_way_25 : decode cX8_way 25 = .ok (.iload_n 1, 1) := by decide +kernel
theorem dX8_way_26 : decode cX8_way 26 = .ok (.imul, 1) := by decide +kernel
theorem dX8_way_27 : decode cX8_way 27 = .ok (.iload_n 2, 1) := by decide +kernel
theorem dX8_way_28 : decode cX8_way 28 = .ok (.iadd, 1) := by decide +kernel
theorem dX8_way_29 : decode cX8_way 29 = .ok (.iaload, 1) := by decide +kernel
theorem dX8_way_30 : decode cX8_way 30 = .ok (.istore_n 3, 1) := by decide +kernel
theorem dX8_way_31 : decode cX8_way 31 = .ok (.iload_n 3, 1) := by decide +kernel
theorem dX8_way_32 : decode cX8_way 32 = .ok (.bipush 99, 2) := by decide +kernel
theorem dX8_way_34 : decode cX8_way 34 = .ok (.if_icmp .lt 7, 3) := by decide +kernel
theorem dX8_way_37 : decode cX8_way 37 = .ok (.iconst (-1), 1) := by decide +kernel
theorem dX8_way_38 : decode cX8_way 38 = .ok (.goto 4, 3) := by decide +kernel
theorem dX8_way_41 : decode cX8_way 41 = .ok (.iload_n 3, 1) := by decide +kernel
theorem dX8_way_42 : decode cX8_way 42 = .ok (.ireturn, 1) := by decide +kernel
theorem dX8_at_0 : decode cX8_at 0 = .ok (.sipush 384, 3) := by decide +kernel
theorem dX8_at_3 : decode cX8_at 3 = .ok (.iload_n 0, 1) := by decide +kernel
theorem dX8_at_4 : decode cX8_at 4 = .ok (.imul, 1) := by decide +kernel
theorem dX8_at_5 : decode cX8_at 5 = .ok (.bipush 64, 2) := by decide +kernel
theorem dX8_at_7 : decode cX8_at 7 = .ok (.iload_n 1, 1) := by decide +kernel
theorem dX8_at_8 : decode cX8_at 8 = .ok (.imul, 1) := by decide +kernel
theorem dX8_at_9 : decode cX8_at 9 = .ok (.iadd, 1) := by decide +kernel
theorem dX8_at_10 : decode cX8_at 10 = .ok (.iload_n 2, 1) := by decide +kernel
theorem dX8_at_11 : decode cX8_at 11 = .ok (.iadd, 1) := by decide +kernel
theorem dX8_at_12 : decode cX8_at 12 = .ok (.ireturn, 1) := by decide +kernel
theorem dX8_goesOn_0 : decode cX8_goesOn 0 = .ok (.aload_n 0, 1) := by decide +kernel
theorem dX8_goesOn_1 : decode cX8_goesOn 1 = .ok (.getfield 79, 3) := by decide +kernel
theorem dX8_goesOn_4 : decode cX8_goesOn 4 = .ok (.iload_n 1, 1) := by decide +kernel
theorem dX8_goesOn_5 : decode cX8_goesOn 5 = .ok (.iconst 1, 1) := by decide +kernel
theorem dX8_goesOn_6 : decode cX8_goesOn 6 = .ok (.iadd, 1) := by decide +kernel
theorem dX8_goesOn_7 : decode cX8_goesOn 7 = .ok (.iload_n 2, 1) := by decide +kernel
theorem dX8_goesOn_8 : decode cX8_goesOn 8 = .ok (.iload_n 3, 1) := by decide +kernel
theorem dX8_goesOn_9 : decode cX8_goesOn 9 = .ok (.invokestatic 267, 3) := by decide +kernel
theorem dX8_goesOn_12 : decode cX8_goesOn 12 = .ok (.iaload, 1) := by decide +kernel
theorem dX8_goesOn_13 : decode cX8_goesOn 13 = .ok (.istore 4, 2) := by decide +kernel
theorem dX8_goesOn_15 : decode cX8_goesOn 15 = .ok (.iconst 0, 1) := by decide +kernel
theorem dX8_goesOn_16 : decode cX8_goesOn 16 = .ok (.istore 5, 2) := by decide +kernel
theorem dX8_goesOn_18 : decode cX8_goesOn 18 = .ok (.iload 5, 2) := by decide +kernel
theorem dX8_goesOn_20 : decode cX8_goesOn 20 = .ok (.aload_n 0, 1) := by decide +kernel
theorem dX8_goesOn_21 : decode cX8_goesOn 21 = .ok (.getfield 92, 3) := by decide +kernel
theorem dX8_goesOn_24 : decode cX8_goesOn 24 = .ok (.if_icmp .ge 59, 3) := by decide +kernel
theorem dX8_goesOn_27 : decode cX8_goesOn 27 = .ok (.aload_n 0, 1) := by decide +kernel
theorem dX8_goesOn_28 : decode cX8_goesOn 28 = .ok (.iload 5, 2) := by decide +kernel
theorem dX8_goesOn_30 : decode cX8_goesOn 30 = .ok (.iload_n 2, 1) := by decide +kernel
theorem dX8_goesOn_31 : decode cX8_goesOn 31 = .ok (.invokevirtual 242, 3) := by decide +kernel
theorem dX8_goesOn_34 : decode cX8_goesOn 34 = .ok (.istore 6, 2) := by decide +kernel
theorem dX8_goesOn_36 : decode cX8_goesOn 36 = .ok (.iload 6, 2) := by decide +kernel
theorem dX8_goesOn_38 : decode cX8_goesOn 38 = .ok (.iconst (-1), 1) := by decide +kernel
theorem dX8_goesOn_39 : decode cX8_goesOn 39 = .ok (.if_icmp .eq 38, 3) := by decide +kernel
theorem dX8_goesOn_42 : decode cX8_goesOn 42 = .ok (.aload_n 0, 1) := by decide +kernel
theorem dX8_goesOn_43 : decode cX8_goesOn 43 = .ok (.getfield 79, 3) := by decide +kernel
theorem dX8_goesOn_46 : decode cX8_goesOn 46 = .ok (.iload_n 1, 1) := by decide +kernel
theorem dX8_goesOn_47 : decode cX8_goesOn 47 = .ok (.iconst 1, 1) := by decide +kernel
theorem dX8_goesOn_48 : decode cX8_goesOn 48 = .ok (.iadd, 1) := by decide +kernel
theorem dX8_goesOn_49 : decode cX8_goesOn 49 = .ok (.iload 6, 2) := by decide +kernel
theorem dX8_goesOn_51 : decode cX8_goesOn 51 = .ok (.iload_n 3, 1) := by decide +kernel
theorem dX8_goesOn_52 : decode cX8_goesOn 52 = .ok (.invokestatic 267, 3) := by decide +kernel
theorem dX8_goesOn_55 : decode cX8_goesOn 55 = .ok (.iaload, 1) := by decide +kernel
theorem dX8_goesOn_56 : decode cX8_goesOn 56 = .ok (.iload 4, 2) := by decide +kernel
theorem dX8_goesOn_58 : decode cX8_goesOn 58 = .ok (.if_icmp .ge 19, 3) := by decide +kernel
theorem dX8_goesOn_61 : decode cX8_goesOn 61 = .ok (.aload_n 0, 1) := by decide +kernel
theorem dX8_goesOn_62 : decode cX8_goesOn 62 = .ok (.getfield 79, 3) := by decide +kernel
theorem dX8_goesOn_65 : decode cX8_goesOn 65 = .ok (.iload_n 1, 1) := by decide +kernel
theorem dX8_goesOn_66 : decode cX8_goesOn 66 = .ok (.iconst 1, 1) := by decide +kernel
theorem dX8_goesOn_67 : decode cX8_goesOn 67 = .ok (.iadd, 1) := by decide +kernel
theorem dX8_goesOn_68 : decode cX8_goesOn 68 = .ok (.iload 6, 2) := by decide +kernel
theorem dX8_goesOn_70 : decode cX8_goesOn 70 = .ok (.iload_n 3, 1) := by decide +kernel
theorem dX8_goesOn_71 : decode cX8_goesOn 71 = .ok (.invokestatic 267, 3) := by decide +kernel
theorem dX8_goesOn_74 : decode cX8_goesOn 74 = .ok (.iaload, 1) := by decide +kernel
theorem dX8_goesOn_75 : decode cX8_goesOn 75 = .ok (.istore 4, 2) := by decide +kernel
theorem dX8_goesOn_77 : decode cX8_goesOn 77 = .ok (.iinc 5 1, 3) := by decide +kernel
theorem dX8_goesOn_80 : decode cX8_goesOn 80 = .ok (.goto (-62), 3) := by decide +kernel
theorem dX8_goesOn_83 : decode cX8_goesOn 83 = .ok (.iload 4, 2) := by decide +kernel
theorem dX8_goesOn_85 : decode cX8_goesOn 85 = .ok (.ireturn, 1) := by decide +kernel
theorem dX8_saysIn_0 : decode cX8_saysIn 0 = .ok (.iconst 1, 1) := by decide +kernel
theorem dX8_saysIn_1 : decode cX8_saysIn 1 = .ok (.aload_n 0, 1) := by decide +kernel
theorem dX8_saysIn_2 : decode cX8_saysIn 2 = .ok (.iload_n 2, 1) := by decide +kernel
theorem dX8_saysIn_3 : decode cX8_saysIn 3 = .ok (.iload_n 3, 1) := by decide +kernel
theorem dX8_saysIn_4 : decode cX8_saysIn 4 = .ok (.iload 4, 2) := by decide +kernel
theorem dX8_saysIn_6 : decode cX8_saysIn 6 = .ok (.aload_n 0, 1) := by decide +kernel
theorem dX8_saysIn_7 : decode cX8_saysIn 7 = .ok (.iload_n 1, 1) := by decide +kernel
theorem dX8_saysIn_8 : decode cX8_saysIn 8 = .ok (.iload_n 3, 1) := by decide +kernel
theorem dX8_saysIn_9 : decode cX8_saysIn 9 = .ok (.iload_n 2, 1) := by decide +kernel
theorem dX8_saysIn_10 : decode cX8_saysIn 10 = .ok (.iconst 0, 1) := by decide +kernel
theorem dX8_saysIn_11 : decode cX8_saysIn 11 = .ok (.aload_n 0, 1) := by decide +kernel
theorem dX8_saysIn_12 : decode cX8_saysIn 12 = .ok (.iconst 0, 1) := by decide +kernel
theorem dX8_saysIn_13 : decode cX8_saysIn 13 = .ok (.invokevirtual 189, 3) := by decide +kernel
theorem dX8_saysIn_16 : decode cX8_saysIn 16 = .ok (.iload 4, 2) := by decide +kernel
theorem dX8_saysIn_18 : decode cX8_saysIn 18 = .ok (.ior, 1) := by decide +kernel
theorem dX8_saysIn_19 : decode cX8_saysIn 19 = .ok (.invokevirtual 193, 3) := by decide +kernel
theorem dX8_saysIn_22 : decode cX8_saysIn 22 = .ok (.ior, 1) := by decide +kernel
theorem dX8_saysIn_23 : decode cX8_saysIn 23 = .ok (.invokevirtual 270, 3) := by decide +kernel
theorem dX8_saysIn_26 : decode cX8_saysIn 26 = .ok (.iadd, 1) := by decide +kernel
theorem dX8_saysIn_27 : decode cX8_saysIn 27 = .ok (.ireturn, 1) := by decide +kernel
theorem dX8_laysFew_0 : decode cX8_laysFew 0 = .ok (.iconst 0, 1) := by decide +kernel
theorem dX8_laysFew_1 : decode cX8_laysFew 1 = .ok (.istore_n 3, 1) := by decide +kernel
theorem dX8_laysFew_2 : decode cX8_laysFew 2 = .ok (.iload_n 3, 1) := by decide +kernel
theorem dX8_laysFew_3 : decode cX8_laysFew 3 = .ok (.aload_n 0, 1) := by decide +kernel
theorem dX8_laysFew_4 : decode cX8_laysFew 4 = .ok (.getfield 82, 3) := by decide +kernel
theorem dX8_laysFew_7 : decode cX8_laysFew 7 = .ok (.if_icmp .ge 55, 3) := by decide +kernel
theorem dX8_laysFew_10 : decode cX8_laysFew 10 = .ok (.iconst 0, 1) := by decide +kernel
theorem dX8_laysFew_11 : decode cX8_laysFew 11 = .ok (.istore 4, 2) := by decide +kernel
theorem dX8_laysFew_13 : decode cX8_laysFew 13 = .ok (.iload 4, 2) := by decide +kernel
theorem dX8_laysFew_15 : decode cX8_laysFew 15 = .ok (.bipush 64, 2) := by decide +kernel
theorem dX8_laysFew_17 : decode cX8_laysFew 17 = .ok (.if_icmp .ge 39, 3) := by decide +kernel
theorem dX8_laysFew_20 : decode cX8_laysFew 20 = .ok (.aload_n 0, 1) := by decide +kernel
theorem dX8_laysFew_21 : decode cX8_laysFew 21 = .ok (.getfield 79, 3) := by decide +kernel
theorem dX8_laysFew_24 : decode cX8_laysFew 24 = .ok (.aload_n 0, 1) := by decide +kernel
theorem dX8_laysFew_25 : decode cX8_laysFew 25 = .ok (.getfield 154, 3) := by decide +kernel
theorem dX8_laysFew_28 : decode cX8_laysFew 28 = .ok (.iload_n 3, 1) := by decide +kernel
theorem dX8_laysFew_29 : decode cX8_laysFew 29 = .ok (.iload 4, 2) := by decide +kernel
theorem dX8_laysFew_31 : decode cX8_laysFew 31 = .ok (.invokestatic 267, 3) := by decide +kernel
theorem dX8_laysFew_34 : decode cX8_laysFew 34 = .ok (.iload_n 2, 1) := by decide +kernel
theorem dX8_laysFew_35 : decode cX8_laysFew 35 = .ok (.iload 4, 2) := by decide +kernel
theorem dX8_laysFew_37 : decode cX8_laysFew 37 = .ok (.iconst (-1), 1) := by decide +kernel
theorem dX8_laysFew_38 : decode cX8_laysFew 38 = .ok (.ixor, 1) := by decide +kernel
theorem dX8_laysFew_39 : decode cX8_laysFew 39 = .ok (.iand, 1) := by decide +kernel
theorem dX8_laysFew_40 : decode cX8_laysFew 40 = .ok (.ifCond .ne 7, 3) := by decide +kernel
theorem dX8_laysFew_43 : decode cX8_laysFew 43 = .ok (.iconst 0, 1) := by decide +kernel
theorem dX8_laysFew_44 : decode cX8_laysFew 44 = .ok (.goto 5, 3) := by decide +kernel
theorem dX8_laysFew_47 : decode cX8_laysFew 47 = .ok (.bipush 99, 2) := by decide +kernel
theorem dX8_laysFew_49 : decode cX8_laysFew 49 = .ok (.iastore, 1) := by decide +kernel
theorem dX8_laysFew_50 : decode cX8_laysFew 50 = .ok (.iinc 4 1, 3) := by decide +kernel
theorem dX8_laysFew_53 : decode cX8_laysFew 53 = .ok (.goto (-40), 3) := by decide +kernel
theorem dX8_laysFew_56 : decode cX8_laysFew 56 = .ok (.iinc 3 1, 3) := by decide +kernel
theorem dX8_laysFew_59 : decode cX8_laysFew 59 = .ok (.goto (-57), 3) := by decide +kernel
theorem dX8_laysFew_62 : decode cX8_laysFew 62 = .ok (.aload_n 0, 1) := by decide +kernel
theorem dX8_laysFew_63 : decode cX8_laysFew 63 = .ok (.getfield 154, 3) := by decide +kernel
theorem dX8_laysFew_66 : decode cX8_laysFew 66 = .ok (.iconst 1, 1) := by decide +kernel
theorem dX8_laysFew_67 : decode cX8_laysFew 67 = .ok (.isub, 1) := by decide +kernel
theorem dX8_laysFew_68 : decode cX8_laysFew 68 = .ok (.istore_n 3, 1) := by decide +kernel
theorem dX8_laysFew_69 : decode cX8_laysFew 69 = .ok (.iload_n 3, 1) := by decide +kernel
theorem dX8_laysFew_70 : decode cX8_laysFew 70 = .ok (.aload_n 0, 1) := by decide +kernel
theorem dX8_laysFew_71 : decode cX8_laysFew 71 = .ok (.getfield 38, 3) := by decide +kernel
theorem dX8_laysFew_74 : decode cX8_laysFew 74 = .ok (.iconst 0, 1) := by decide +kernel
theorem dX8_laysFew_75 : decode cX8_laysFew 75 = .ok (.iaload, 1) := by decide +kernel
theorem dX8_laysFew_76 : decode cX8_laysFew 76 = .ok (.if_icmp .lt 93, 3) := by decide +kernel
theorem dX8_laysFew_79 : decode cX8_laysFew 79 = .ok (.iconst 0, 1) := by decide +kernel
theorem dX8_laysFew_80 : decode cX8_laysFew 80 = .ok (.istore 4, 2) := by decide +kernel
theorem dX8_laysFew_82 : decode cX8_laysFew 82 = .ok (.iload 4, 2) := by decide +kernel
theorem dX8_laysFew_84 : decode cX8_laysFew 84 = .ok (.aload_n 0, 1) := by decide +kernel
theorem dX8_laysFew_85 : decode cX8_laysFew 85 = .ok (.getfield 82, 3) := by decide +kernel
theorem dX8_laysFew_88 : decode cX8_laysFew 88 = .ok (.if_icmp .ge 75, 3) := by decide +kernel
theorem dX8_laysFew_91 : decode cX8_laysFew 91 = .ok (.iconst 0, 1) := by decide +kernel
theorem dX8_laysFew_92 : decode cX8_laysFew 92 = .ok (.istore 5, 2) := by decide +kernel
theorem dX8_laysFew_94 : decode cX8_laysFew 94 = .ok (.iload 5, 2) := by decide +kernel
theorem dX8_laysFew_96 : decode cX8_laysFew 96 = .ok (.bipush 64, 2) := by decide +kernel
theorem dX8_laysFew_98 : decode cX8_laysFew 98 = .ok (.if_icmp .ge 59, 3) := by decide +kernel
theorem dX8_laysFew_101 : decode cX8_laysFew 101 = .ok (.aload_n 0, 1) := by decide +kernel
theorem dX8_laysFew_102 : decode cX8_laysFew 102 = .ok (.iload_n 3, 1) := by decide +kernel
theorem dX8_laysFew_103 : decode cX8_laysFew 103 = .ok (.iload 4, 2) := by decide +kernel
theorem dX8_laysFew_105 : decode cX8_laysFew 105 = .ok (.iload 5, 2) := by decide +kernel
theorem dX8_laysFew_107 : decode cX8_laysFew 107 = .ok (.invokevirtual 270, 3) := by decide +kernel
theorem dX8_laysFew_110 : decode cX8_laysFew 110 = .ok (.istore 6, 2) := by decide +kernel
theorem dX8_laysFew_112 : decode cX8_laysFew 112 = .ok (.aload_n 0, 1) := by decide +kernel
theorem dX8_laysFew_113 : decode cX8_laysFew 113 = .ok (.iload_n 1, 1) := by decide +kernel
theorem dX8_laysFew_114 : decode cX8_laysFew 114 = .ok (.iload_n 3, 1) := by decide +kernel
theorem dX8_laysFew_115 : decode cX8_laysFew 115 = .ok (.iload 4, 2) := by decide +kernel
theorem dX8_laysFew_117 : decode cX8_laysFew 117 = .ok (.iload 5, 2) := by decide +kernel
theorem dX8_laysFew_119 : decode cX8_laysFew 119 = .ok (.invokevirtual 273, 3) := by decide +kernel
theorem dX8_laysFew_122 : decode cX8_laysFew 122 = .ok (.istore 7, 2) := by decide +kernel
theorem dX8_laysFew_124 : decode cX8_laysFew 124 = .ok (.aload_n 0, 1) := by decide +kernel
theorem dX8_laysFew_125 : decode cX8_laysFew 125 = .ok (.getfield 79, 3) := by decide +kernel
theorem dX8_laysFew_128 : decode cX8_laysFew 128 = .ok (.iload_n 3, 1) := by decide +kernel
theorem dX8_laysFew_129 : decode cX8_laysFew 129 = .ok (.iload 4, 2) := by decide +kernel
theorem dX8_laysFew_131 : decode cX8_laysFew 131 = .ok (.iload 5, 2) := by decide +kernel
theorem dX8_laysFew_133 : decode cX8_laysFew 133 = .ok (.invokestatic 267, 3) := by decide +kernel
theorem dX8_laysFew_136 : decode cX8_laysFew 136 = .ok (.iload 7, 2) := by decide +kernel
theorem dX8_laysFew_138 : decode cX8_laysFew 138 = .ok (.iload 6, 2) := by decide +kernel
theorem dX8_laysFew_140 : decode cX8_laysFew 140 = .ok (.if_icmp .ge 8, 3) := by decide +kernel
theorem dX8_laysFew_143 : decode cX8_laysFew 143 = .ok (.iload 7, 2) := by decide +kernel
theorem dX8_laysFew_145 : decode cX8_laysFew 145 = .ok (.goto 5, 3) := by decide +kernel
theorem dX8_laysFew_148 : decode cX8_laysFew 148 = .ok (.iload 6, 2) := by decide +kernel
theorem dX8_laysFew_150 : decode cX8_laysFew 150 = .ok (.iastore, 1) := by decide +kernel
theorem dX8_laysFew_151 : decode cX8_laysFew 151 = .ok (.iinc 5 1, 3) := by decide +kernel
theorem dX8_laysFew_154 : decode cX8_laysFew 154 = .ok (.goto (-60), 3) := by decide +kernel
theorem dX8_laysFew_157 : decode cX8_laysFew 157 = .ok (.iinc 4 1, 3) := by decide +kernel
theorem dX8_laysFew_160 : decode cX8_laysFew 160 = .ok (.goto (-78), 3) := by decide +kernel
theorem dX8_laysFew_163 : decode cX8_laysFew 163 = .ok (.iinc 3 (-1), 3) := by decide +kernel
theorem dX8_laysFew_166 : decode cX8_laysFew 166 = .ok (.goto (-97), 3) := by decide +kernel
theorem dX8_laysFew_169 : decode cX8_laysFew 169 = .ok (.return_, 1) := by decide +kernel
theorem dX8_wonOf_0 : decode cX8_wonOf 0 = .ok (.iconst 0, 1) := by decide +kernel
theorem dX8_wonOf_1 : decode cX8_wonOf 1 = .ok (.istore_n 2, 1) := by decide +kernel
theorem dX8_wonOf_2 : decode cX8_wonOf 2 = .ok (.iconst 0, 1) := by decide +kernel
theorem dX8_wonOf_3 : decode cX8_wonOf 3 = .ok (.istore_n 3, 1) := by decide +kernel
theorem dX8_wonOf_4 : decode cX8_wonOf 4 = .ok (.iload_n 3, 1) := by decide +kernel
theorem dX8_wonOf_5 : decode cX8_wonOf 5 = .ok (.aload_n 0, 1) := by decide +kernel
theorem dX8_wonOf_6 : decode cX8_wonOf 6 = .ok (.getfield 82, 3) := by decide +kernel
theorem dX8_wonOf_9 : decode cX8_wonOf 9 = .ok (.if_icmp .ge 29, 3) := by decide +kernel
theorem dX8_wonOf_12 : decode cX8_wonOf 12 = .ok (.iload_n 2, 1) := by decide +kernel
theorem dX8_wonOf_13 : decode cX8_wonOf 13 = .ok (.aload_n 0, 1) := by decide +kernel
theorem dX8_wonOf_14 : decode cX8_wonOf 14 = .ok (.iload_n 3, 1) := by decide +kernel
theorem dX8_wonOf_15 : decode cX8_wonOf 15 = .ok (.iconst 0, 1) := by decide +kernel
theorem dX8_wonOf_16 : decode cX8_wonOf 16 = .ok (.invokevirtual 200, 3) := by decide +kernel
theorem dX8_wonOf_19 : decode cX8_wonOf 19 = .ok (.iload_n 1, 1) := by decide +kernel
theorem dX8_wonOf_20 : decode cX8_wonOf 20 = .ok (.if_icmp .ne 9, 3) := by decide +kernel
theorem dX8_wonOf_23 : decode cX8_wonOf 23 = .ok (.iconst 1, 1) := by decide +kernel
theorem dX8_wonOf_24 : decode cX8_wonOf 24 = .ok (.iload_n 3, 1) := by decide +kernel
theorem dX8_wonOf_25 : decode cX8_wonOf 25 = .ok (.ishl, 1) := by decide +kernel
theorem dX8_wonOf_26 : decode cX8_wonOf 26 = .ok (.goto 4, 3) := by decide +kernel
theorem dX8_wonOf_29 : decode cX8_wonOf 29 = .ok (.iconst 0, 1) := by decide +kernel
theorem dX8_wonOf_30 : decode cX8_wonOf 30 = .ok (.ior, 1) := by decide +kernel
theorem dX8_wonOf_31 : decode cX8_wonOf 31 = .ok (.istore_n 2, 1) := by decide +kernel
theorem dX8_wonOf_32 : decode cX8_wonOf 32 = .ok (.iinc 3 1, 3) := by decide +kernel
theorem dX8_wonOf_35 : decode cX8_wonOf 35 = .ok (.goto (-31), 3) := by decide +kernel
theorem dX8_wonOf_38 : decode cX8_wonOf 38 = .ok (.iload_n 2, 1) := by decide +kernel
theorem dX8_wonOf_39 : decode cX8_wonOf 39 = .ok (.ireturn, 1) := by decide +kernel
theorem dX8_latestOf_0 : decode cX8_latestOf 0 = .ok (.iconst (-1), 1) := by decide +kernel
theorem dX8_latestOf_1 : decode cX8_latestOf 1 = .ok (.istore 4, 2) := by decide +kernel
theorem dX8_latestOf_3 : decode cX8_latestOf 3 = .ok (.aload_n 0, 1) := by decide +kernel
theorem dX8_latestOf_4 : decode cX8_latestOf 4 = .ok (.getfield 38, 3) := by decide +kernel
theorem dX8_latestOf_7 : decode cX8_latestOf 7 = .ok (.iconst 0, 1) := by decide +kernel
theorem dX8_latestOf_8 : decode cX8_latestOf 8 = .ok (.iaload, 1) := by decide +kernel
theorem dX8_latestOf_9 : decode cX8_latestOf 9 = .ok (.istore 5, 2) := by decide +kernel
theorem dX8_latestOf_11 : decode cX8_latestOf 11 = .ok (.iload 5, 2) := by decide +kernel
theorem dX8_latestOf_13 : decode cX8_latestOf 13 = .ok (.aload_n 0, 1) := by decide +kernel
theorem dX8_latestOf_14 : decode cX8_latestOf 14 = .ok (.getfield 154, 3) := by decide +kernel
theorem dX8_latestOf_17 : decode cX8_latestOf 17 = .ok (.if_icmp .ge 94, 3) := by decide +kernel
theorem dX8_latestOf_20 : decode cX8_latestOf 20 = .ok (.iconst 0, 1) := by decide +kernel
theorem dX8_latestOf_21 : decode cX8_latestOf 21 = .ok (.istore 6, 2) := by decide +kernel
theorem dX8_latestOf_23 : decode cX8_latestOf 23 = .ok (.iload 6, 2) := by decide +kernel
theorem dX8_latestOf_25 : decode cX8_latestOf 25 = .ok (.aload_n 0, 1) := by decide +kernel
theorem dX8_latestOf_26 : decode cX8_latestOf 26 = .ok (.getfield 82, 3) := by decide +kernel
theorem dX8_latestOf_29 : decode cX8_latestOf 29 = .ok (.if_icmp .ge 76, 3) := by decide +kernel
theorem dX8_latestOf_32 : decode cX8_latestOf 32 = .ok (.aload_n 0, 1) := by decide +kernel
theorem dX8_latestOf_33 : decode cX8_latestOf 33 = .ok (.getfield 35, 3) := by decide +kernel
theorem dX8_latestOf_36 : decode cX8_latestOf 36 = .ok (.bipush 6, 2) := by decide +kernel
theorem dX8_latestOf_38 : decode cX8_latestOf 38 = .ok (.aload_n 0, 1) := by decide +kernel
theorem dX8_latestOf_39 : decode cX8_latestOf 39 = .ok (.getfield 38, 3) := by decide +kernel
theorem dX8_latestOf_42 : decode cX8_latestOf 42 = .ok (.bipush 45, 2) := by decide +kernel
theorem dX8_latestOf_44 : decode cX8_latestOf 44 = .ok (.iload_n 1, 1) := by decide +kernel
theorem dX8_latestOf_45 : decode cX8_latestOf 45 = .ok (.iadd, 1) := by decide +kernel
theorem dX8_latestOf_46 : decode cX8_latestOf 46 = .ok (.iaload, 1) := by decide +kernel
theorem dX8_latestOf_47 : decode cX8_latestOf 47 = .ok (.imul, 1) := by decide +kernel
theorem dX8_latestOf_48 : decode cX8_latestOf 48 = .ok (.iload 6, 2) := by decide +kernel
theorem dX8_latestOf_50 : decode cX8_latestOf 50 = .ok (.iadd, 1) := by decide +kernel
theorem dX8_latestOf_51 : decode cX8_latestOf 51 = .ok (.iaload, 1) := by decide +kernel
theorem dX8_latestOf_52 : decode cX8_latestOf 52 = .ok (.iload 5, 2) := by decide +kernel
theorem dX8_latestOf_54 : decode cX8_latestOf 54 = .ok (.aload_n 0, 1) := by decide +kernel
theorem dX8_latestOf_55 : decode cX8_latestOf 55 = .ok (.getfield 38, 3) := by decide +kernel
theorem dX8_latestOf_58 : decode cX8_latestOf 58 = .ok (.iconst 0, 1) := by decide +kernel
theorem dX8_latestOf_59 : decode cX8_latestOf 59 = .ok (.iaload, 1) := by decide +kernel
theorem dX8_latestOf_60 : decode cX8_latestOf 60 = .ok (.isub, 1) := by decide +kernel
theorem dX8_latestOf_61 : decode cX8_latestOf 61 = .ok (.if_icmp .gt 7, 3) := by decide +kernel
theorem dX8_latestOf_64 : decode cX8_latestOf 64 = .ok (.iconst 1, 1) := by decide +kernel
theorem dX8_latestOf_65 : decode cX8_latestOf 65 = .ok (.goto 4, 3) := by decide +kernel
theorem dX8_latestOf_68 : decode cX8_latestOf 68 = .ok (.iconst 0, 1) := by decide +kernel
theorem dX8_latestOf_69 : decode cX8_latestOf 69 = .ok (.istore 7, 2) := by decide +kernel
theorem dX8_latestOf_71 : decode cX8_latestOf 71 = .ok (.iload 7, 2) := by decide +kernel
theorem dX8_latestOf_73 : decode cX8_latestOf 73 = .ok (.ifCond .eq 22, 3) := by decide +kernel
end
section
theorem dX8_latestOf_76 : decode cX8_latestOf 76 = .ok (.aload_n 0, 1) := by decide +kernel
theorem dX8_latestOf_77 : decode cX8_latestOf 77 = .ok (.iload_n 1, 1) := by decide +kernel
theorem dX8_latestOf_78 : decode cX8_latestOf 78 = .ok (.iload 5, 2) := by decide +kernel
theorem dX8_latestOf_80 : decode cX8_latestOf 80 = .ok (.iload 6, 2) := by decide +kernel
theorem dX8_latestOf_82 : decode cX8_latestOf 82 = .ok (.iload_n 2, 1) := by decide +kernel
theorem dX8_latestOf_83 : decode cX8_latestOf 83 = .ok (.invokevirtual 273, 3) := by decide +kernel
theorem dX8_latestOf_86 : decode cX8_latestOf 86 = .ok (.iload_n 3, 1) := by decide +kernel
theorem dX8_latestOf_87 : decode cX8_latestOf 87 = .ok (.if_icmp .ne 8, 3) := by decide +kernel
theorem dX8_latestOf_90 : decode cX8_latestOf 90 = .ok (.iload 5, 2) := by decide +kernel
theorem dX8_latestOf_92 : decode cX8_latestOf 92 = .ok (.goto 5, 3) := by decide +kernel
theorem dX8_latestOf_95 : decode cX8_latestOf 95 = .ok (.iload 4, 2) := by decide +kernel
theorem dX8_latestOf_97 : decode cX8_latestOf 97 = .ok (.istore 4, 2) := by decide +kernel
theorem dX8_latestOf_99 : decode cX8_latestOf 99 = .ok (.iinc 6 1, 3) := by decide +kernel
theorem dX8_latestOf_102 : decode cX8_latestOf 102 = .ok (.goto (-79), 3) := by decide +kernel
theorem dX8_latestOf_105 : decode cX8_latestOf 105 = .ok (.iinc 5 1, 3) := by decide +kernel
theorem dX8_latestOf_108 : decode cX8_latestOf 108 = .ok (.goto (-97), 3) := by decide +kernel
theorem dX8_latestOf_111 : decode cX8_latestOf 111 = .ok (.iload 4, 2) := by decide +kernel
theorem dX8_latestOf_113 : decode cX8_latestOf 113 = .ok (.ireturn, 1) := by decide +kernel
theorem dX8_fewest_0 : decode cX8_fewest 0 = .ok (.aload_n 0, 1) := by decide +kernel
theorem dX8_fewest_1 : decode cX8_fewest 1 = .ok (.iload_n 1, 1) := by decide +kernel
theorem dX8_fewest_2 : decode cX8_fewest 2 = .ok (.invokevirtual 229, 3) := by decide +kernel
theorem dX8_fewest_5 : decode cX8_fewest 5 = .ok (.ifCond .eq 16, 3) := by decide +kernel
theorem dX8_fewest_8 : decode cX8_fewest 8 = .ok (.iload_n 2, 1) := by decide +kernel
theorem dX8_fewest_9 : decode cX8_fewest 9 = .ok (.ifCond .lt 12, 3) := by decide +kernel
theorem dX8_fewest_12 : decode cX8_fewest 12 = .ok (.iload_n 2, 1) := by decide +kernel
theorem dX8_fewest_13 : decode cX8_fewest 13 = .ok (.aload_n 0, 1) := by decide +kernel
theorem dX8_fewest_14 : decode cX8_fewest 14 = .ok (.getfield 82, 3) := by decide +kernel
theorem dX8_fewest_17 : decode cX8_fewest 17 = .ok (.ishr, 1) := by decide +kernel
theorem dX8_fewest_18 : decode cX8_fewest 18 = .ok (.ifCond .eq 6, 3) := by decide +kernel
theorem dX8_fewest_21 : decode cX8_fewest 21 = .ok (.ldc 222, 2) := by decide +kernel
theorem dX8_fewest_23 : decode cX8_fewest 23 = .ok (.ireturn, 1) := by decide +kernel
theorem dX8_fewest_24 : decode cX8_fewest 24 = .ok (.iload_n 3, 1) := by decide +kernel
theorem dX8_fewest_25 : decode cX8_fewest 25 = .ok (.iconst 0, 1) := by decide +kernel
theorem dX8_fewest_26 : decode cX8_fewest 26 = .ok (.iconst 1, 1) := by decide +kernel
theorem dX8_fewest_27 : decode cX8_fewest 27 = .ok (.invokestatic 85, 3) := by decide +kernel
theorem dX8_fewest_30 : decode cX8_fewest 30 = .ok (.ifCond .ne 6, 3) := by decide +kernel
theorem dX8_fewest_33 : decode cX8_fewest 33 = .ok (.ldc 95, 2) := by decide +kernel
theorem dX8_fewest_35 : decode cX8_fewest 35 = .ok (.ireturn, 1) := by decide +kernel
theorem dX8_fewest_36 : decode cX8_fewest 36 = .ok (.aload_n 0, 1) := by decide +kernel
theorem dX8_fewest_37 : decode cX8_fewest 37 = .ok (.aload_n 0, 1) := by decide +kernel
theorem dX8_fewest_38 : decode cX8_fewest 38 = .ok (.iload_n 1, 1) := by decide +kernel
theorem dX8_fewest_39 : decode cX8_fewest 39 = .ok (.iconst 0, 1) := by decide +kernel
theorem dX8_fewest_40 : decode cX8_fewest 40 = .ok (.invokevirtual 197, 3) := by decide +kernel
theorem dX8_fewest_43 : decode cX8_fewest 43 = .ok (.invokevirtual 277, 3) := by decide +kernel
theorem dX8_fewest_46 : decode cX8_fewest 46 = .ok (.istore 4, 2) := by decide +kernel
theorem dX8_fewest_48 : decode cX8_fewest 48 = .ok (.aload_n 0, 1) := by decide +kernel
theorem dX8_fewest_49 : decode cX8_fewest 49 = .ok (.iload_n 1, 1) := by decide +kernel
theorem dX8_fewest_50 : decode cX8_fewest 50 = .ok (.iload_n 2, 1) := by decide +kernel
theorem dX8_fewest_51 : decode cX8_fewest 51 = .ok (.invokevirtual 280, 3) := by decide +kernel
theorem dX8_fewest_54 : decode cX8_fewest 54 = .ok (.aload_n 0, 1) := by decide +kernel
theorem dX8_fewest_55 : decode cX8_fewest 55 = .ok (.getfield 79, 3) := by decide +kernel
theorem dX8_fewest_58 : decode cX8_fewest 58 = .ok (.aload_n 0, 1) := by decide +kernel
theorem dX8_fewest_59 : decode cX8_fewest 59 = .ok (.getfield 38, 3) := by decide +kernel
theorem dX8_fewest_62 : decode cX8_fewest 62 = .ok (.iconst 0, 1) := by decide +kernel
theorem dX8_fewest_63 : decode cX8_fewest 63 = .ok (.iaload, 1) := by decide +kernel
theorem dX8_fewest_64 : decode cX8_fewest 64 = .ok (.aload_n 0, 1) := by decide +kernel
theorem dX8_fewest_65 : decode cX8_fewest 65 = .ok (.getfield 38, 3) := by decide +kernel
theorem dX8_fewest_68 : decode cX8_fewest 68 = .ok (.bipush 45, 2) := by decide +kernel
theorem dX8_fewest_70 : decode cX8_fewest 70 = .ok (.iload_n 1, 1) := by decide +kernel
theorem dX8_fewest_71 : decode cX8_fewest 71 = .ok (.iadd, 1) := by decide +kernel
theorem dX8_fewest_72 : decode cX8_fewest 72 = .ok (.iaload, 1) := by decide +kernel
theorem dX8_fewest_73 : decode cX8_fewest 73 = .ok (.iload 4, 2) := by decide +kernel
theorem dX8_fewest_75 : decode cX8_fewest 75 = .ok (.invokestatic 267, 3) := by decide +kernel
theorem dX8_fewest_78 : decode cX8_fewest 78 = .ok (.iaload, 1) := by decide +kernel
theorem dX8_fewest_79 : decode cX8_fewest 79 = .ok (.istore 5, 2) := by decide +kernel
theorem dX8_fewest_81 : decode cX8_fewest 81 = .ok (.iload 5, 2) := by decide +kernel
theorem dX8_fewest_83 : decode cX8_fewest 83 = .ok (.bipush 99, 2) := by decide +kernel
theorem dX8_fewest_85 : decode cX8_fewest 85 = .ok (.if_icmp .lt 5, 3) := by decide +kernel
theorem dX8_fewest_88 : decode cX8_fewest 88 = .ok (.iconst (-1), 1) := by decide +kernel
theorem dX8_fewest_89 : decode cX8_fewest 89 = .ok (.ireturn, 1) := by decide +kernel
theorem dX8_fewest_90 : decode cX8_fewest 90 = .ok (.iload_n 3, 1) := by decide +kernel
theorem dX8_fewest_91 : decode cX8_fewest 91 = .ok (.ifCond .ne 8, 3) := by decide +kernel
theorem dX8_fewest_94 : decode cX8_fewest 94 = .ok (.iload 5, 2) := by decide +kernel
theorem dX8_fewest_96 : decode cX8_fewest 96 = .ok (.goto 21, 3) := by decide +kernel
theorem dX8_fewest_99 : decode cX8_fewest 99 = .ok (.iload 5, 2) := by decide +kernel
theorem dX8_fewest_101 : decode cX8_fewest 101 = .ok (.ifCond .ne 7, 3) := by decide +kernel
theorem dX8_fewest_104 : decode cX8_fewest 104 = .ok (.iconst (-1), 1) := by decide +kernel
theorem dX8_fewest_105 : decode cX8_fewest 105 = .ok (.goto 12, 3) := by decide +kernel
theorem dX8_fewest_108 : decode cX8_fewest 108 = .ok (.aload_n 0, 1) := by decide +kernel
theorem dX8_fewest_109 : decode cX8_fewest 109 = .ok (.iload_n 1, 1) := by decide +kernel
theorem dX8_fewest_110 : decode cX8_fewest 110 = .ok (.iload 4, 2) := by decide +kernel
theorem dX8_fewest_112 : decode cX8_fewest 112 = .ok (.iload 5, 2) := by decide +kernel
theorem dX8_fewest_114 : decode cX8_fewest 114 = .ok (.invokevirtual 284, 3) := by decide +kernel
theorem dX8_fewest_117 : decode cX8_fewest 117 = .ok (.ireturn, 1) := by decide +kernel
theorem dX8_reading_0 : decode cX8_reading 0 = .ok (.aload_n 0, 1) := by decide +kernel
theorem dX8_reading_1 : decode cX8_reading 1 = .ok (.iload_n 1, 1) := by decide +kernel
theorem dX8_reading_2 : decode cX8_reading 2 = .ok (.invokevirtual 218, 3) := by decide +kernel
theorem dX8_reading_5 : decode cX8_reading 5 = .ok (.ifCond .ne 6, 3) := by decide +kernel
theorem dX8_reading_8 : decode cX8_reading 8 = .ok (.ldc 222, 2) := by decide +kernel
theorem dX8_reading_10 : decode cX8_reading 10 = .ok (.ireturn, 1) := by decide +kernel
theorem dX8_reading_11 : decode cX8_reading 11 = .ok (.iload_n 2, 1) := by decide +kernel
theorem dX8_reading_12 : decode cX8_reading 12 = .ok (.iconst 0, 1) := by decide +kernel
theorem dX8_reading_13 : decode cX8_reading 13 = .ok (.iconst 3, 1) := by decide +kernel
theorem dX8_reading_14 : decode cX8_reading 14 = .ok (.invokestatic 85, 3) := by decide +kernel
theorem dX8_reading_17 : decode cX8_reading 17 = .ok (.ifCond .eq 12, 3) := by decide +kernel
theorem dX8_reading_20 : decode cX8_reading 20 = .ok (.aload_n 0, 1) := by decide +kernel
theorem dX8_reading_21 : decode cX8_reading 21 = .ok (.iload_n 1, 1) := by decide +kernel
theorem dX8_reading_22 : decode cX8_reading 22 = .ok (.iload_n 2, 1) := by decide +kernel
theorem dX8_reading_23 : decode cX8_reading 23 = .ok (.invokevirtual 200, 3) := by decide +kernel
theorem dX8_reading_26 : decode cX8_reading 26 = .ok (.goto 5, 3) := by decide +kernel
theorem dX8_reading_29 : decode cX8_reading 29 = .ok (.ldc 95, 2) := by decide +kernel
theorem dX8_reading_31 : decode cX8_reading 31 = .ok (.ireturn, 1) := by decide +kernel
theorem dX8_quiet_0 : decode cX8_quiet 0 = .ok (.iload_n 1, 1) := by decide +kernel
theorem dX8_quiet_1 : decode cX8_quiet 1 = .ok (.iconst 0, 1) := by decide +kernel
theorem dX8_quiet_2 : decode cX8_quiet 2 = .ok (.bipush 60, 2) := by decide +kernel
theorem dX8_quiet_4 : decode cX8_quiet 4 = .ok (.invokestatic 85, 3) := by decide +kernel
theorem dX8_quiet_7 : decode cX8_quiet 7 = .ok (.ifCond .eq 13, 3) := by decide +kernel
theorem dX8_quiet_10 : decode cX8_quiet 10 = .ok (.iload_n 2, 1) := by decide +kernel
theorem dX8_quiet_11 : decode cX8_quiet 11 = .ok (.iconst 0, 1) := by decide +kernel
theorem dX8_quiet_12 : decode cX8_quiet 12 = .ok (.bipush 100, 2) := by decide +kernel
theorem dX8_quiet_14 : decode cX8_quiet 14 = .ok (.invokestatic 85, 3) := by decide +kernel
theorem dX8_quiet_17 : decode cX8_quiet 17 = .ok (.ifCond .ne 6, 3) := by decide +kernel
theorem dX8_quiet_20 : decode cX8_quiet 20 = .ok (.ldc 95, 2) := by decide +kernel
theorem dX8_quiet_22 : decode cX8_quiet 22 = .ok (.ireturn, 1) := by decide +kernel
theorem dX8_quiet_23 : decode cX8_quiet 23 = .ok (.ldc2_w 287, 3) := by decide +kernel
theorem dX8_quiet_26 : decode cX8_quiet 26 = .ok (.lstore_n 3, 1) := by decide +kernel
theorem dX8_quiet_27 : decode cX8_quiet 27 = .ok (.iconst 0, 1) := by decide +kernel
theorem dX8_quiet_28 : decode cX8_quiet 28 = .ok (.istore 5, 2) := by decide +kernel
theorem dX8_quiet_30 : decode cX8_quiet 30 = .ok (.iload 5, 2) := by decide +kernel
theorem dX8_quiet_32 : decode cX8_quiet 32 = .ok (.iload_n 1, 1) := by decide +kernel
theorem dX8_quiet_33 : decode cX8_quiet 33 = .ok (.if_icmp .ge 18, 3) := by decide +kernel
theorem dX8_quiet_36 : decode cX8_quiet 36 = .ok (.lload_n 3, 1) := by decide +kernel
theorem dX8_quiet_37 : decode cX8_quiet 37 = .ok (.iload_n 2, 1) := by decide +kernel
theorem dX8_quiet_38 : decode cX8_quiet 38 = .ok (.i2l, 1) := by decide +kernel
theorem dX8_quiet_39 : decode cX8_quiet 39 = .ok (.lmul, 1) := by decide +kernel
theorem dX8_quiet_40 : decode cX8_quiet 40 = .ok (.ldc2_w 289, 3) := by decide +kernel
theorem dX8_quiet_43 : decode cX8_quiet 43 = .ok (.ldiv, 1) := by decide +kernel
theorem dX8_quiet_44 : decode cX8_quiet 44 = .ok (.lstore_n 3, 1) := by decide +kernel
theorem dX8_quiet_45 : decode cX8_quiet 45 = .ok (.iinc 5 1, 3) := by decide +kernel
theorem dX8_quiet_48 : decode cX8_quiet 48 = .ok (.goto (-18), 3) := by decide +kernel
theorem dX8_quiet_51 : decode cX8_quiet 51 = .ok (.lload_n 3, 1) := by decide +kernel
theorem dX8_quiet_52 : decode cX8_quiet 52 = .ok (.l2i, 1) := by decide +kernel
theorem dX8_quiet_53 : decode cX8_quiet 53 = .ok (.ireturn, 1) := by decide +kernel
theorem dX8_see_0 : decode cX8_see 0 = .ok (.aload_n 0, 1) := by decide +kernel
theorem dX8_see_1 : decode cX8_see 1 = .ok (.iload_n 1, 1) := by decide +kernel
theorem dX8_see_2 : decode cX8_see 2 = .ok (.invokevirtual 218, 3) := by decide +kernel
theorem dX8_see_5 : decode cX8_see 5 = .ok (.ifCond .ne 6, 3) := by decide +kernel
theorem dX8_see_8 : decode cX8_see 8 = .ok (.ldc 222, 2) := by decide +kernel
theorem dX8_see_10 : decode cX8_see 10 = .ok (.ireturn, 1) := by decide +kernel
theorem dX8_see_11 : decode cX8_see 11 = .ok (.aload_n 0, 1) := by decide +kernel
theorem dX8_see_12 : decode cX8_see 12 = .ok (.getfield 167, 3) := by decide +kernel
theorem dX8_see_15 : decode cX8_see 15 = .ok (.bipush 6, 2) := by decide +kernel
theorem dX8_see_17 : decode cX8_see 17 = .ok (.if_icmp .ne 6, 3) := by decide +kernel
theorem dX8_see_20 : decode cX8_see 20 = .ok (.ldc 99, 2) := by decide +kernel
theorem dX8_see_22 : decode cX8_see 22 = .ok (.ireturn, 1) := by decide +kernel
theorem dX8_see_23 : decode cX8_see 23 = .ok (.aload_n 0, 1) := by decide +kernel
theorem dX8_see_24 : decode cX8_see 24 = .ok (.getfield 55, 3) := by decide +kernel
theorem dX8_see_27 : decode cX8_see 27 = .ok (.iconst 2, 1) := by decide +kernel
theorem dX8_see_28 : decode cX8_see 28 = .ok (.aload_n 0, 1) := by decide +kernel
theorem dX8_see_29 : decode cX8_see 29 = .ok (.getfield 167, 3) := by decide +kernel
theorem dX8_see_32 : decode cX8_see 32 = .ok (.imul, 1) := by decide +kernel
theorem dX8_see_33 : decode cX8_see 33 = .ok (.iload_n 1, 1) := by decide +kernel
theorem dX8_see_34 : decode cX8_see 34 = .ok (.iastore, 1) := by decide +kernel
theorem dX8_see_35 : decode cX8_see 35 = .ok (.aload_n 0, 1) := by decide +kernel
theorem dX8_see_36 : decode cX8_see 36 = .ok (.getfield 55, 3) := by decide +kernel
theorem dX8_see_39 : decode cX8_see 39 = .ok (.iconst 2, 1) := by decide +kernel
theorem dX8_see_40 : decode cX8_see 40 = .ok (.aload_n 0, 1) := by decide +kernel
theorem dX8_see_41 : decode cX8_see 41 = .ok (.getfield 167, 3) := by decide +kernel
theorem dX8_see_44 : decode cX8_see 44 = .ok (.imul, 1) := by decide +kernel
theorem dX8_see_45 : decode cX8_see 45 = .ok (.iconst 1, 1) := by decide +kernel
theorem dX8_see_46 : decode cX8_see 46 = .ok (.iadd, 1) := by decide +kernel
theorem dX8_see_47 : decode cX8_see 47 = .ok (.iload_n 2, 1) := by decide +kernel
theorem dX8_see_48 : decode cX8_see 48 = .ok (.ifCond .eq 7, 3) := by decide +kernel
theorem dX8_see_51 : decode cX8_see 51 = .ok (.iconst 1, 1) := by decide +kernel
theorem dX8_see_52 : decode cX8_see 52 = .ok (.goto 4, 3) := by decide +kernel
theorem dX8_see_55 : decode cX8_see 55 = .ok (.iconst 0, 1) := by decide +kernel
theorem dX8_see_56 : decode cX8_see 56 = .ok (.iastore, 1) := by decide +kernel
theorem dX8_see_57 : decode cX8_see 57 = .ok (.aload_n 0, 1) := by decide +kernel
theorem dX8_see_58 : decode cX8_see 58 = .ok (.dup, 1) := by decide +kernel
theorem dX8_see_59 : decode cX8_see 59 = .ok (.getfield 167, 3) := by decide +kernel
theorem dX8_see_62 : decode cX8_see 62 = .ok (.iconst 1, 1) := by decide +kernel
theorem dX8_see_63 : decode cX8_see 63 = .ok (.iadd, 1) := by decide +kernel
theorem dX8_see_64 : decode cX8_see 64 = .ok (.putfield 167, 3) := by decide +kernel
theorem dX8_see_67 : decode cX8_see 67 = .ok (.aload_n 0, 1) := by decide +kernel
theorem dX8_see_68 : decode cX8_see 68 = .ok (.getfield 167, 3) := by decide +kernel
theorem dX8_see_71 : decode cX8_see 71 = .ok (.ireturn, 1) := by decide +kernel
theorem dX8_couldBe_0 : decode cX8_couldBe 0 = .ok (.iconst 0, 1) := by decide +kernel
theorem dX8_couldBe_1 : decode cX8_couldBe 1 = .ok (.istore_n 1, 1) := by decide +kernel
theorem dX8_couldBe_2 : decode cX8_couldBe 2 = .ok (.iconst 0, 1) := by decide +kernel
theorem dX8_couldBe_3 : decode cX8_couldBe 3 = .ok (.istore_n 2, 1) := by decide +kernel
theorem dX8_couldBe_4 : decode cX8_couldBe 4 = .ok (.iload_n 2, 1) := by decide +kernel
theorem dX8_couldBe_5 : decode cX8_couldBe 5 = .ok (.aload_n 0, 1) := by decide +kernel
theorem dX8_couldBe_6 : decode cX8_couldBe 6 = .ok (.getfield 89, 3) := by decide +kernel
theorem dX8_couldBe_9 : decode cX8_couldBe 9 = .ok (.if_icmp .ge 108, 3) := by decide +kernel
theorem dX8_couldBe_12 : decode cX8_couldBe 12 = .ok (.aload_n 0, 1) := by decide +kernel
theorem dX8_couldBe_13 : decode cX8_couldBe 13 = .ok (.iload_n 2, 1) := by decide +kernel
theorem dX8_couldBe_14 : decode cX8_couldBe 14 = .ok (.aload_n 0, 1) := by decide +kernel
theorem dX8_couldBe_15 : decode cX8_couldBe 15 = .ok (.getfield 38, 3) := by decide +kernel
theorem dX8_couldBe_18 : decode cX8_couldBe 18 = .ok (.bipush 45, 2) := by decide +kernel
theorem dX8_couldBe_20 : decode cX8_couldBe 20 = .ok (.iload_n 2, 1) := by decide +kernel
theorem dX8_couldBe_21 : decode cX8_couldBe 21 = .ok (.iadd, 1) := by decide +kernel
theorem dX8_couldBe_22 : decode cX8_couldBe 22 = .ok (.iaload, 1) := by decide +kernel
theorem dX8_couldBe_23 : decode cX8_couldBe 23 = .ok (.invokevirtual 185, 3) := by decide +kernel
theorem dX8_couldBe_26 : decode cX8_couldBe 26 = .ok (.istore_n 3, 1) := by decide +kernel
theorem dX8_couldBe_27 : decode cX8_couldBe 27 = .ok (.iconst 1, 1) := by decide +kernel
theorem dX8_couldBe_28 : decode cX8_couldBe 28 = .ok (.istore 4, 2) := by decide +kernel
theorem dX8_couldBe_30 : decode cX8_couldBe 30 = .ok (.iconst 0, 1) := by decide +kernel
theorem dX8_couldBe_31 : decode cX8_couldBe 31 = .ok (.istore 5, 2) := by decide +kernel
theorem dX8_couldBe_33 : decode cX8_couldBe 33 = .ok (.iload 5, 2) := by decide +kernel
theorem dX8_couldBe_35 : decode cX8_couldBe 35 = .ok (.aload_n 0, 1) := by decide +kernel
theorem dX8_couldBe_36 : decode cX8_couldBe 36 = .ok (.getfield 167, 3) := by decide +kernel
theorem dX8_couldBe_39 : decode cX8_couldBe 39 = .ok (.if_icmp .ge 57, 3) := by decide +kernel
theorem dX8_couldBe_42 : decode cX8_couldBe 42 = .ok (.iload 4, 2) := by decide +kernel
theorem dX8_couldBe_44 : decode cX8_couldBe 44 = .ok (.ifCond .eq 43, 3) := by decide +kernel
theorem dX8_couldBe_47 : decode cX8_couldBe 47 = .ok (.iload_n 3, 1) := by decide +kernel
theorem dX8_couldBe_48 : decode cX8_couldBe 48 = .ok (.aload_n 0, 1) := by decide +kernel
theorem dX8_couldBe_49 : decode cX8_couldBe 49 = .ok (.getfield 55, 3) := by decide +kernel
theorem dX8_couldBe_52 : decode cX8_couldBe 52 = .ok (.iconst 2, 1) := by decide +kernel
theorem dX8_couldBe_53 : decode cX8_couldBe 53 = .ok (.iload 5, 2) := by decide +kernel
theorem dX8_couldBe_55 : decode cX8_couldBe 55 = .ok (.imul, 1) := by decide +kernel
theorem dX8_couldBe_56 : decode cX8_couldBe 56 = .ok (.iaload, 1) := by decide +kernel
theorem dX8_couldBe_57 : decode cX8_couldBe 57 = .ok (.invokestatic 181, 3) := by decide +kernel
theorem dX8_couldBe_60 : decode cX8_couldBe 60 = .ok (.aload_n 0, 1) := by decide +kernel
theorem dX8_couldBe_61 : decode cX8_couldBe 61 = .ok (.getfield 55, 3) := by decide +kernel
theorem dX8_couldBe_64 : decode cX8_couldBe 64 = .ok (.iconst 2, 1) := by decide +kernel
theorem dX8_couldBe_65 : decode cX8_couldBe 65 = .ok (.iload 5, 2) := by decide +kernel
theorem dX8_couldBe_67 : decode cX8_couldBe 67 = .ok (.imul, 1) := by decide +kernel
theorem dX8_couldBe_68 : decode cX8_couldBe 68 = .ok (.iconst 1, 1) := by decide +kernel
theorem dX8_couldBe_69 : decode cX8_couldBe 69 = .ok (.iadd, 1) := by decide +kernel
theorem dX8_couldBe_70 : decode cX8_couldBe 70 = .ok (.iaload, 1) := by decide +kernel
theorem dX8_couldBe_71 : decode cX8_couldBe 71 = .ok (.iconst 1, 1) := by decide +kernel
theorem dX8_couldBe_72 : decode cX8_couldBe 72 = .ok (.if_icmp .ne 7, 3) := by decide +kernel
theorem dX8_couldBe_75 : decode cX8_couldBe 75 = .ok (.iconst 1, 1) := by decide +kernel
theorem dX8_couldBe_76 : decode cX8_couldBe 76 = .ok (.goto 4, 3) := by decide +kernel
theorem dX8_couldBe_79 : decode cX8_couldBe 79 = .ok (.iconst 0, 1) := by decide +kernel
theorem dX8_couldBe_80 : decode cX8_couldBe 80 = .ok (.if_icmp .ne 7, 3) := by decide +kernel
theorem dX8_couldBe_83 : decode cX8_couldBe 83 = .ok (.iconst 1, 1) := by decide +kernel
theorem dX8_couldBe_84 : decode cX8_couldBe 84 = .ok (.goto 4, 3) := by decide +kernel
theorem dX8_couldBe_87 : decode cX8_couldBe 87 = .ok (.iconst 0, 1) := by decide +kernel
theorem dX8_couldBe_88 : decode cX8_couldBe 88 = .ok (.istore 4, 2) := by decide +kernel
theorem dX8_couldBe_90 : decode cX8_couldBe 90 = .ok (.iinc 5 1, 3) := by decide +kernel
theorem dX8_couldBe_93 : decode cX8_couldBe 93 = .ok (.goto (-60), 3) := by decide +kernel
theorem dX8_couldBe_96 : decode cX8_couldBe 96 = .ok (.iload_n 1, 1) := by decide +kernel
theorem dX8_couldBe_97 : decode cX8_couldBe 97 = .ok (.iload 4, 2) := by decide +kernel
theorem dX8_couldBe_99 : decode cX8_couldBe 99 = .ok (.ifCond .eq 9, 3) := by decide +kernel
theorem dX8_couldBe_102 : decode cX8_couldBe 102 = .ok (.iconst 1, 1) := by decide +kernel
theorem dX8_couldBe_103 : decode cX8_couldBe 103 = .ok (.iload_n 2, 1) := by decide +kernel
theorem dX8_couldBe_104 : decode cX8_couldBe 104 = .ok (.ishl, 1) := by decide +kernel
theorem dX8_couldBe_105 : decode cX8_couldBe 105 = .ok (.goto 4, 3) := by decide +kernel
theorem dX8_couldBe_108 : decode cX8_couldBe 108 = .ok (.iconst 0, 1) := by decide +kernel
theorem dX8_couldBe_109 : decode cX8_couldBe 109 = .ok (.ior, 1) := by decide +kernel
theorem dX8_couldBe_110 : decode cX8_couldBe 110 = .ok (.istore_n 1, 1) := by decide +kernel
theorem dX8_couldBe_111 : decode cX8_couldBe 111 = .ok (.iinc 2 1, 3) := by decide +kernel
theorem dX8_couldBe_114 : decode cX8_couldBe 114 = .ok (.goto (-110), 3) := by decide +kernel
theorem dX8_couldBe_117 : decode cX8_couldBe 117 = .ok (.iload_n 1, 1) := by decide +kernel
theorem dX8_couldBe_118 : decode cX8_couldBe 118 = .ok (.ireturn, 1) := by decide +kernel
theorem dX8_ask_0 : decode cX8_ask 0 = .ok (.aload_n 0, 1) := by decide +kernel
theorem dX8_ask_1 : decode cX8_ask 1 = .ok (.invokevirtual 291, 3) := by decide +kernel
theorem dX8_ask_4 : decode cX8_ask 4 = .ok (.istore_n 1, 1) := by decide +kernel
theorem dX8_ask_5 : decode cX8_ask 5 = .ok (.iload_n 1, 1) := by decide +kernel
theorem dX8_ask_6 : decode cX8_ask 6 = .ok (.invokestatic 206, 3) := by decide +kernel
theorem dX8_ask_9 : decode cX8_ask 9 = .ok (.istore_n 2, 1) := by decide +kernel
theorem dX8_ask_10 : decode cX8_ask 10 = .ok (.iconst (-1), 1) := by decide +kernel
theorem dX8_ask_11 : decode cX8_ask 11 = .ok (.istore_n 3, 1) := by decide +kernel
theorem dX8_ask_12 : decode cX8_ask 12 = .ok (.iload_n 2, 1) := by decide +kernel
theorem dX8_ask_13 : decode cX8_ask 13 = .ok (.istore 4, 2) := by decide +kernel
theorem dX8_ask_15 : decode cX8_ask 15 = .ok (.iconst 0, 1) := by decide +kernel
theorem dX8_ask_16 : decode cX8_ask 16 = .ok (.istore 5, 2) := by decide +kernel
theorem dX8_ask_18 : decode cX8_ask 18 = .ok (.iload 5, 2) := by decide +kernel
theorem dX8_ask_20 : decode cX8_ask 20 = .ok (.aload_n 0, 1) := by decide +kernel
theorem dX8_ask_21 : decode cX8_ask 21 = .ok (.getfield 82, 3) := by decide +kernel
theorem dX8_ask_24 : decode cX8_ask 24 = .ok (.if_icmp .ge 123, 3) := by decide +kernel
theorem dX8_ask_27 : decode cX8_ask 27 = .ok (.iconst 0, 1) := by decide +kernel
theorem dX8_ask_28 : decode cX8_ask 28 = .ok (.istore 6, 2) := by decide +kernel
theorem dX8_ask_30 : decode cX8_ask 30 = .ok (.iconst 0, 1) := by decide +kernel
theorem dX8_ask_31 : decode cX8_ask 31 = .ok (.istore 7, 2) := by decide +kernel
theorem dX8_ask_33 : decode cX8_ask 33 = .ok (.iload 7, 2) := by decide +kernel
theorem dX8_ask_35 : decode cX8_ask 35 = .ok (.aload_n 0, 1) := by decide +kernel
theorem dX8_ask_36 : decode cX8_ask 36 = .ok (.getfield 89, 3) := by decide +kernel
theorem dX8_ask_39 : decode cX8_ask 39 = .ok (.if_icmp .ge 52, 3) := by decide +kernel
theorem dX8_ask_42 : decode cX8_ask 42 = .ok (.iload 6, 2) := by decide +kernel
theorem dX8_ask_44 : decode cX8_ask 44 = .ok (.iload_n 1, 1) := by decide +kernel
theorem dX8_ask_45 : decode cX8_ask 45 = .ok (.iload 7, 2) := by decide +kernel
theorem dX8_ask_47 : decode cX8_ask 47 = .ok (.invokestatic 181, 3) := by decide +kernel
theorem dX8_ask_50 : decode cX8_ask 50 = .ok (.ifCond .eq 31, 3) := by decide +kernel
theorem dX8_ask_53 : decode cX8_ask 53 = .ok (.aload_n 0, 1) := by decide +kernel
theorem dX8_ask_54 : decode cX8_ask 54 = .ok (.iload 7, 2) := by decide +kernel
theorem dX8_ask_56 : decode cX8_ask 56 = .ok (.aload_n 0, 1) := by decide +kernel
theorem dX8_ask_57 : decode cX8_ask 57 = .ok (.getfield 38, 3) := by decide +kernel
theorem dX8_ask_60 : decode cX8_ask 60 = .ok (.bipush 45, 2) := by decide +kernel
theorem dX8_ask_62 : decode cX8_ask 62 = .ok (.iload 7, 2) := by decide +kernel
theorem dX8_ask_64 : decode cX8_ask 64 = .ok (.iadd, 1) := by decide +kernel
theorem dX8_ask_65 : decode cX8_ask 65 = .ok (.iaload, 1) := by decide +kernel
theorem dX8_ask_66 : decode cX8_ask 66 = .ok (.invokevirtual 185, 3) := by decide +kernel
theorem dX8_ask_69 : decode cX8_ask 69 = .ok (.iload 5, 2) := by decide +kernel
theorem dX8_ask_71 : decode cX8_ask 71 = .ok (.invokestatic 181, 3) := by decide +kernel
theorem dX8_ask_74 : decode cX8_ask 74 = .ok (.ifCond .eq 7, 3) := by decide +kernel
theorem dX8_ask_77 : decode cX8_ask 77 = .ok (.iconst 1, 1) := by decide +kernel
theorem dX8_ask_78 : decode cX8_ask 78 = .ok (.goto 4, 3) := by decide +kernel
theorem dX8_ask_81 : decode cX8_ask 81 = .ok (.iconst 0, 1) := by decide +kernel
theorem dX8_ask_82 : decode cX8_ask 82 = .ok (.iadd, 1) := by decide +kernel
theorem dX8_ask_83 : decode cX8_ask 83 = .ok (.istore 6, 2) := by decide +kernel
theorem dX8_ask_85 : decode cX8_ask 85 = .ok (.iinc 7 1, 3) := by decide +kernel
theorem dX8_ask_88 : decode cX8_ask 88 = .ok (.goto (-55), 3) := by decide +kernel
theorem dX8_ask_91 : decode cX8_ask 91 = .ok (.iload 6, 2) := by decide +kernel
theorem dX8_ask_93 : decode cX8_ask 93 = .ok (.iload_n 2, 1) := by decide +kernel
theorem dX8_ask_94 : decode cX8_ask 94 = .ok (.iload 6, 2) := by decide +kernel
theorem dX8_ask_96 : decode cX8_ask 96 = .ok (.isub, 1) := by decide +kernel
theorem dX8_ask_97 : decode cX8_ask 97 = .ok (.if_icmp .le 8, 3) := by decide +kernel
theorem dX8_ask_100 : decode cX8_ask 100 = .ok (.iload 6, 2) := by decide +kernel
theorem dX8_ask_102 : decode cX8_ask 102 = .ok (.goto 7, 3) := by decide +kernel
theorem dX8_ask_105 : decode cX8_ask 105 = .ok (.iload_n 2, 1) := by decide +kernel
theorem dX8_ask_106 : decode cX8_ask 106 = .ok (.iload 6, 2) := by decide +kernel
theorem dX8_ask_108 : decode cX8_ask 108 = .ok (.isub, 1) := by decide +kernel
theorem dX8_ask_109 : decode cX8_ask 109 = .ok (.istore 7, 2) := by decide +kernel
theorem dX8_ask_111 : decode cX8_ask 111 = .ok (.iload 7, 2) := by decide +kernel
theorem dX8_ask_113 : decode cX8_ask 113 = .ok (.iload 4, 2) := by decide +kernel
theorem dX8_ask_115 : decode cX8_ask 115 = .ok (.if_icmp .ge 8, 3) := by decide +kernel
theorem dX8_ask_118 : decode cX8_ask 118 = .ok (.iload 5, 2) := by decide +kernel
theorem dX8_ask_120 : decode cX8_ask 120 = .ok (.goto 4, 3) := by decide +kernel
theorem dX8_ask_123 : decode cX8_ask 123 = .ok (.iload_n 3, 1) := by decide +kernel
theorem dX8_ask_124 : decode cX8_ask 124 = .ok (.istore_n 3, 1) := by decide +kernel
theorem dX8_ask_125 : decode cX8_ask 125 = .ok (.iload 7, 2) := by decide +kernel
theorem dX8_ask_127 : decode cX8_ask 127 = .ok (.iload 4, 2) := by decide +kernel
theorem dX8_ask_129 : decode cX8_ask 129 = .ok (.if_icmp .ge 8, 3) := by decide +kernel
theorem dX8_ask_132 : decode cX8_ask 132 = .ok (.iload 7, 2) := by decide +kernel
theorem dX8_ask_134 : decode cX8_ask 134 = .ok (.goto 5, 3) := by decide +kernel
theorem dX8_ask_137 : decode cX8_ask 137 = .ok (.iload 4, 2) := by decide +kernel
theorem dX8_ask_139 : decode cX8_ask 139 = .ok (.istore 4, 2) := by decide +kernel
theorem dX8_ask_141 : decode cX8_ask 141 = .ok (.iinc 5 1, 3) := by decide +kernel
theorem dX8_ask_144 : decode cX8_ask 144 = .ok (.goto (-126), 3) := by decide +kernel
theorem dX8_ask_147 : decode cX8_ask 147 = .ok (.iload_n 3, 1) := by decide +kernel
theorem dX8_ask_148 : decode cX8_ask 148 = .ok (.ireturn, 1) := by decide +kernel
theorem dX8_write_0 : decode cX8_write 0 = .ok (.aload_n 0, 1) := by decide +kernel
theorem dX8_write_1 : decode cX8_write 1 = .ok (.iload_n 1, 1) := by decide +kernel
theorem dX8_write_2 : decode cX8_write 2 = .ok (.invokevirtual 218, 3) := by decide +kernel
theorem dX8_write_5 : decode cX8_write 5 = .ok (.ifCond .eq 16, 3) := by decide +kernel
theorem dX8_write_8 : decode cX8_write 8 = .ok (.iload_n 2, 1) := by decide +kernel
theorem dX8_write_9 : decode cX8_write 9 = .ok (.iconst (-1), 1) := by decide +kernel
theorem dX8_write_10 : decode cX8_write 10 = .ok (.if_icmp .eq 14, 3) := by decide +kernel
theorem dX8_write_13 : decode cX8_write 13 = .ok (.aload_n 0, 1) := by decide +kernel
theorem dX8_write_14 : decode cX8_write 14 = .ok (.iload_n 2, 1) := by decide +kernel
theorem dX8_write_15 : decode cX8_write 15 = .ok (.invokevirtual 229, 3) := by decide +kernel
theorem dX8_write_18 : decode cX8_write 18 = .ok (.ifCond .ne 6, 3) := by decide +kernel
theorem dX8_write_21 : decode cX8_write 21 = .ok (.ldc 222, 2) := by decide +kernel
theorem dX8_write_23 : decode cX8_write 23 = .ok (.ireturn, 1) := by decide +kernel
theorem dX8_write_24 : decode cX8_write 24 = .ok (.aload_n 0, 1) := by decide +kernel
theorem dX8_write_25 : decode cX8_write 25 = .ok (.getfield 170, 3) := by decide +kernel
theorem dX8_write_28 : decode cX8_write 28 = .ok (.bipush 20, 2) := by decide +kernel
theorem dX8_write_30 : decode cX8_write 30 = .ok (.if_icmp .ne 6, 3) := by decide +kernel
theorem dX8_write_33 : decode cX8_write 33 = .ok (.ldc 99, 2) := by decide +kernel
theorem dX8_write_35 : decode cX8_write 35 = .ok (.ireturn, 1) := by decide +kernel
theorem dX8_write_36 : decode cX8_write 36 = .ok (.aload_n 0, 1) := by decide +kernel
theorem dX8_write_37 : decode cX8_write 37 = .ok (.getfield 58, 3) := by decide +kernel
theorem dX8_write_40 : decode cX8_write 40 = .ok (.iconst 2, 1) := by decide +kernel
theorem dX8_write_41 : decode cX8_write 41 = .ok (.aload_n 0, 1) := by decide +kernel
theorem dX8_write_42 : decode cX8_write 42 = .ok (.getfield 170, 3) := by decide +kernel
theorem dX8_write_45 : decode cX8_write 45 = .ok (.imul, 1) := by decide +kernel
theorem dX8_write_46 : decode cX8_write 46 = .ok (.iload_n 1, 1) := by decide +kernel
theorem dX8_write_47 : decode cX8_write 47 = .ok (.iastore, 1) := by decide +kernel
theorem dX8_write_48 : decode cX8_write 48 = .ok (.aload_n 0, 1) := by decide +kernel
theorem dX8_write_49 : decode cX8_write 49 = .ok (.getfield 58, 3) := by decide +kernel
theorem dX8_write_52 : decode cX8_write 52 = .ok (.iconst 2, 1) := by decide +kernel
theorem dX8_write_53 : decode cX8_write 53 = .ok (.aload_n 0, 1) := by decide +kernel
theorem dX8_write_54 : decode cX8_write 54 = .ok (.getfield 170, 3) := by decide +kernel
theorem dX8_write_57 : decode cX8_write 57 = .ok (.imul, 1) := by decide +kernel
theorem dX8_write_58 : decode cX8_write 58 = .ok (.iconst 1, 1) := by decide +kernel
theorem dX8_write_59 : decode cX8_write 59 = .ok (.iadd, 1) := by decide +kernel
theorem dX8_write_60 : decode cX8_write 60 = .ok (.iload_n 2, 1) := by decide +kernel
theorem dX8_write_61 : decode cX8_write 61 = .ok (.iastore, 1) := by decide +kernel
theorem dX8_write_62 : decode cX8_write 62 = .ok (.aload_n 0, 1) := by decide +kernel
theorem dX8_write_63 : decode cX8_write 63 = .ok (.dup, 1) := by decide +kernel
theorem dX8_write_64 : decode cX8_write 64 = .ok (.getfield 170, 3) := by decide +kernel
theorem dX8_write_67 : decode cX8_write 67 = .ok (.iconst 1, 1) := by decide +kernel
theorem dX8_write_68 : decode cX8_write 68 = .ok (.iadd, 1) := by decide +kernel
theorem dX8_write_69 : decode cX8_write 69 = .ok (.putfield 170, 3) := by decide +kernel
theorem dX8_write_72 : decode cX8_write 72 = .ok (.aload_n 0, 1) := by decide +kernel
theorem dX8_write_73 : decode cX8_write 73 = .ok (.getfield 170, 3) := by decide +kernel
theorem dX8_write_76 : decode cX8_write 76 = .ok (.ireturn, 1) := by decide +kernel
theorem dX8_judge_0 : decode cX8_judge 0 = .ok (.iconst 0, 1) := by decide +kernel
theorem dX8_judge_1 : decode cX8_judge 1 = .ok (.istore_n 1, 1) := by decide +kernel
theorem dX8_judge_2 : decode cX8_judge 2 = .ok (.iload_n 1, 1) := by decide +kernel
theorem dX8_judge_3 : decode cX8_judge 3 = .ok (.aload_n 0, 1) := by decide +kernel
theorem dX8_judge_4 : decode cX8_judge 4 = .ok (.getfield 170, 3) := by decide +kernel
theorem dX8_judge_7 : decode cX8_judge 7 = .ok (.if_icmp .ge 40, 3) := by decide +kernel
theorem dX8_judge_10 : decode cX8_judge 10 = .ok (.aload_n 0, 1) := by decide +kernel
theorem dX8_judge_11 : decode cX8_judge 11 = .ok (.getfield 38, 3) := by decide +kernel
theorem dX8_judge_14 : decode cX8_judge 14 = .ok (.bipush 15, 2) := by decide +kernel
theorem dX8_judge_16 : decode cX8_judge 16 = .ok (.aload_n 0, 1) := by decide +kernel
theorem dX8_judge_17 : decode cX8_judge 17 = .ok (.getfield 58, 3) := by decide +kernel
theorem dX8_judge_20 : decode cX8_judge 20 = .ok (.iconst 2, 1) := by decide +kernel
theorem dX8_judge_21 : decode cX8_judge 21 = .ok (.iload_n 1, 1) := by decide +kernel
theorem dX8_judge_22 : decode cX8_judge 22 = .ok (.imul, 1) := by decide +kernel
theorem dX8_judge_23 : decode cX8_judge 23 = .ok (.iaload, 1) := by decide +kernel
theorem dX8_judge_24 : decode cX8_judge 24 = .ok (.iadd, 1) := by decide +kernel
theorem dX8_judge_25 : decode cX8_judge 25 = .ok (.iaload, 1) := by decide +kernel
theorem dX8_judge_26 : decode cX8_judge 26 = .ok (.aload_n 0, 1) := by decide +kernel
theorem dX8_judge_27 : decode cX8_judge 27 = .ok (.getfield 58, 3) := by decide +kernel
theorem dX8_judge_30 : decode cX8_judge 30 = .ok (.iconst 2, 1) := by decide +kernel
theorem dX8_judge_31 : decode cX8_judge 31 = .ok (.iload_n 1, 1) := by decide +kernel
theorem dX8_judge_32 : decode cX8_judge 32 = .ok (.imul, 1) := by decide +kernel
theorem dX8_judge_33 : decode cX8_judge 33 = .ok (.iconst 1, 1) := by decide +kernel
theorem dX8_judge_34 : decode cX8_judge 34 = .ok (.iadd, 1) := by decide +kernel
theorem dX8_judge_35 : decode cX8_judge 35 = .ok (.iaload, 1) := by decide +kernel
theorem dX8_judge_36 : decode cX8_judge 36 = .ok (.if_icmp .eq 5, 3) := by decide +kernel
theorem dX8_judge_39 : decode cX8_judge 39 = .ok (.iload_n 1, 1) := by decide +kernel
theorem dX8_judge_40 : decode cX8_judge 40 = .ok (.ireturn, 1) := by decide +kernel
theorem dX8_judge_41 : decode cX8_judge 41 = .ok (.iinc 1 1, 3) := by decide +kernel
theorem dX8_judge_44 : decode cX8_judge 44 = .ok (.goto (-42), 3) := by decide +kernel
theorem dX8_judge_47 : decode cX8_judge 47 = .ok (.iconst (-1), 1) := by decide +kernel
theorem dX8_judge_48 : decode cX8_judge 48 = .ok (.ireturn, 1) := by decide +kernel
theorem dX8_tear_0 : decode cX8_tear 0 = .ok (.aload_n 0, 1) := by decide +kernel
theorem dX8_tear_1 : decode cX8_tear 1 = .ok (.getfield 167, 3) := by decide +kernel
theorem dX8_tear_4 : decode cX8_tear 4 = .ok (.aload_n 0, 1) := by decide +kernel
theorem dX8_tear_5 : decode cX8_tear 5 = .ok (.getfield 170, 3) := by decide +kernel
theorem dX8_tear_8 : decode cX8_tear 8 = .ok (.iadd, 1) := by decide +kernel
theorem dX8_tear_9 : decode cX8_tear 9 = .ok (.istore_n 1, 1) := by decide +kernel
theorem dX8_tear_10 : decode cX8_tear 10 = .ok (.aload_n 0, 1) := by decide +kernel
theorem dX8_tear_11 : decode cX8_tear 11 = .ok (.iconst 0, 1) := by decide +kernel
theorem dX8_tear_12 : decode cX8_tear 12 = .ok (.putfield 167, 3) := by decide +kernel
theorem dX8_tear_15 : decode cX8_tear 15 = .ok (.aload_n 0, 1) := by decide +kernel
theorem dX8_tear_16 : decode cX8_tear 16 = .ok (.iconst 0, 1) := by decide +kernel
theorem dX8_tear_17 : decode cX8_tear 17 = .ok (.putfield 170, 3) := by decide +kernel
theorem dX8_tear_20 : decode cX8_tear 20 = .ok (.iload_n 1, 1) := by decide +kernel
theorem dX8_tear_21 : decode cX8_tear 21 = .ok (.ireturn, 1) := by decide +kernel
theorem dX8_seed_0 : decode cX8_seed 0 = .ok (.iload_n 1, 1) := by decide +kernel
theorem dX8_seed_1 : decode cX8_seed 1 = .ok (.ifCond .ge 6, 3) := by decide +kernel
theorem dX8_seed_4 : decode cX8_seed 4 = .ok (.ldc 95, 2) := by decide +kernel
theorem dX8_seed_6 : decode cX8_seed 6 = .ok (.ireturn, 1) := by decide +kernel
theorem dX8_seed_7 : decode cX8_seed 7 = .ok (.aload_n 0, 1) := by decide +kernel
theorem dX8_seed_8 : decode cX8_seed 8 = .ok (.getfield 249, 3) := by decide +kernel
theorem dX8_seed_11 : decode cX8_seed 11 = .ok (.l2i, 1) := by decide +kernel
theorem dX8_seed_12 : decode cX8_seed 12 = .ok (.istore_n 2, 1) := by decide +kernel
theorem dX8_seed_13 : decode cX8_seed 13 = .ok (.aload_n 0, 1) := by decide +kernel
theorem dX8_seed_14 : decode cX8_seed 14 = .ok (.iload_n 1, 1) := by decide +kernel
theorem dX8_seed_15 : decode cX8_seed 15 = .ok (.i2l, 1) := by decide +kernel
theorem dX8_seed_16 : decode cX8_seed 16 = .ok (.putfield 249, 3) := by decide +kernel
theorem dX8_seed_19 : decode cX8_seed 19 = .ok (.iload_n 2, 1) := by decide +kernel
theorem dX8_seed_20 : decode cX8_seed 20 = .ok (.ireturn, 1) := by decide +kernel
theorem dX8_keep_0 : decode cX8_keep 0 = .ok (.iload_n 1, 1) := by decide +kernel
theorem dX8_keep_1 : decode cX8_keep 1 = .ok (.iconst 0, 1) := by decide +kernel
theorem dX8_keep_2 : decode cX8_keep 2 = .ok (.iconst 1, 1) := by decide +kernel
theorem dX8_keep_3 : decode cX8_keep 3 = .ok (.invokestatic 85, 3) := by decide +kernel
theorem dX8_keep_6 : decode cX8_keep 6 = .ok (.ifCond .ne 6, 3) := by decide +kernel
theorem dX8_keep_9 : decode cX8_keep 9 = .ok (.ldc 222, 2) := by decide +kernel
theorem dX8_keep_11 : decode cX8_keep 11 = .ok (.ireturn, 1) := by decide +kernel
theorem dX8_keep_12 : decode cX8_keep 12 = .ok (.aload_n 0, 1) := by decide +kernel
theorem dX8_keep_13 : decode cX8_keep 13 = .ok (.getfield 38, 3) := by decide +kernel
theorem dX8_keep_16 : decode cX8_keep 16 = .ok (.iconst 0, 1) := by decide +kernel
theorem dX8_keep_17 : decode cX8_keep 17 = .ok (.aload_n 0, 1) := by decide +kernel
theorem dX8_keep_18 : decode cX8_keep 18 = .ok (.getfield 44, 3) := by decide +kernel
theorem dX8_keep_21 : decode cX8_keep 21 = .ok (.bipush 51, 2) := by decide +kernel
theorem dX8_keep_23 : decode cX8_keep 23 = .ok (.iload_n 1, 1) := by decide +kernel
theorem dX8_keep_24 : decode cX8_keep 24 = .ok (.imul, 1) := by decide +kernel
theorem dX8_keep_25 : decode cX8_keep 25 = .ok (.bipush 51, 2) := by decide +kernel
theorem dX8_keep_27 : decode cX8_keep 27 = .ok (.invokestatic 157, 3) := by decide +kernel
theorem dX8_keep_30 : decode cX8_keep 30 = .ok (.aload_n 0, 1) := by decide +kernel
theorem dX8_keep_31 : decode cX8_keep 31 = .ok (.getfield 47, 3) := by decide +kernel
theorem dX8_keep_34 : decode cX8_keep 34 = .ok (.iload_n 1, 1) := by decide +kernel
theorem dX8_keep_35 : decode cX8_keep 35 = .ok (.aload_n 0, 1) := by decide +kernel
theorem dX8_keep_36 : decode cX8_keep 36 = .ok (.getfield 249, 3) := by decide +kernel
theorem dX8_keep_39 : decode cX8_keep 39 = .ok (.lastore, 1) := by decide +kernel
theorem dX8_keep_40 : decode cX8_keep 40 = .ok (.aload_n 0, 1) := by decide +kernel
theorem dX8_keep_41 : decode cX8_keep 41 = .ok (.getfield 51, 3) := by decide +kernel
theorem dX8_keep_44 : decode cX8_keep 44 = .ok (.iload_n 1, 1) := by decide +kernel
theorem dX8_keep_45 : decode cX8_keep 45 = .ok (.iconst 1, 1) := by decide +kernel
theorem dX8_keep_46 : decode cX8_keep 46 = .ok (.bastore, 1) := by decide +kernel
theorem dX8_keep_47 : decode cX8_keep 47 = .ok (.aload_n 0, 1) := by decide +kernel
theorem dX8_keep_48 : decode cX8_keep 48 = .ok (.iconst 0, 1) := by decide +kernel
theorem dX8_keep_49 : decode cX8_keep 49 = .ok (.putfield 164, 3) := by decide +kernel
theorem dX8_keep_52 : decode cX8_keep 52 = .ok (.iconst 1, 1) := by decide +kernel
theorem dX8_keep_53 : decode cX8_keep 53 = .ok (.ireturn, 1) := by decide +kernel
theorem dX8_goBack_0 : decode cX8_goBack 0 = .ok (.iload_n 1, 1) := by decide +kernel
theorem dX8_goBack_1 : decode cX8_goBack 1 = .ok (.iconst 0, 1) := by decide +kernel
theorem dX8_goBack_2 : decode cX8_goBack 2 = .ok (.iconst 1, 1) := by decide +kernel
theorem dX8_goBack_3 : decode cX8_goBack 3 = .ok (.invokestatic 85, 3) := by decide +kernel
theorem dX8_goBack_6 : decode cX8_goBack 6 = .ok (.ifCond .ne 6, 3) := by decide +kernel
theorem dX8_goBack_9 : decode cX8_goBack 9 = .ok (.ldc 222, 2) := by decide +kernel
theorem dX8_goBack_11 : decode cX8_goBack 11 = .ok (.ireturn, 1) := by decide +kernel
theorem dX8_goBack_12 : decode cX8_goBack 12 = .ok (.aload_n 0, 1) := by decide +kernel
theorem dX8_goBack_13 : decode cX8_goBack 13 = .ok (.getfield 51, 3) := by decide +kernel
theorem dX8_goBack_16 : decode cX8_goBack 16 = .ok (.iload_n 1, 1) := by decide +kernel
theorem dX8_goBack_17 : decode cX8_goBack 17 = .ok (.baload, 1) := by decide +kernel
theorem dX8_goBack_18 : decode cX8_goBack 18 = .ok (.ifCond .ne 6, 3) := by decide +kernel
theorem dX8_goBack_21 : decode cX8_goBack 21 = .ok (.ldc 245, 2) := by decide +kernel
theorem dX8_goBack_23 : decode cX8_goBack 23 = .ok (.ireturn, 1) := by decide +kernel
theorem dX8_goBack_24 : decode cX8_goBack 24 = .ok (.aload_n 0, 1) := by decide +kernel
theorem dX8_goBack_25 : decode cX8_goBack 25 = .ok (.getfield 44, 3) := by decide +kernel
theorem dX8_goBack_28 : decode cX8_goBack 28 = .ok (.bipush 51, 2) := by decide +kernel
theorem dX8_goBack_30 : decode cX8_goBack 30 = .ok (.iload_n 1, 1) := by decide +kernel
theorem dX8_goBack_31 : decode cX8_goBack 31 = .ok (.imul, 1) := by decide +kernel
theorem dX8_goBack_32 : decode cX8_goBack 32 = .ok (.aload_n 0, 1) := by decide +kernel
theorem dX8_goBack_33 : decode cX8_goBack 33 = .ok (.getfield 38, 3) := by decide +kernel
theorem dX8_goBack_36 : decode cX8_goBack 36 = .ok (.iconst 0, 1) := by decide +kernel
theorem dX8_goBack_37 : decode cX8_goBack 37 = .ok (.bipush 51, 2) := by decide +kernel
theorem dX8_goBack_39 : decode cX8_goBack 39 = .ok (.invokestatic 157, 3) := by decide +kernel
theorem dX8_goBack_42 : decode cX8_goBack 42 = .ok (.aload_n 0, 1) := by decide +kernel
theorem dX8_goBack_43 : decode cX8_goBack 43 = .ok (.aload_n 0, 1) := by decide +kernel
theorem dX8_goBack_44 : decode cX8_goBack 44 = .ok (.getfield 47, 3) := by decide +kernel
theorem dX8_goBack_47 : decode cX8_goBack 47 = .ok (.iload_n 1, 1) := by decide +kernel
theorem dX8_goBack_48 : decode cX8_goBack 48 = .ok (.laload, 1) := by decide +kernel
theorem dX8_goBack_49 : decode cX8_goBack 49 = .ok (.putfield 249, 3) := by decide +kernel
theorem dX8_goBack_52 : decode cX8_goBack 52 = .ok (.aload_n 0, 1) := by decide +kernel
theorem dX8_goBack_53 : decode cX8_goBack 53 = .ok (.iconst 0, 1) := by decide +kernel
theorem dX8_goBack_54 : decode cX8_goBack 54 = .ok (.putfield 164, 3) := by decide +kernel
theorem dX8_goBack_57 : decode cX8_goBack 57 = .ok (.iconst 1, 1) := by decide +kernel
theorem dX8_goBack_58 : decode cX8_goBack 58 = .ok (.ireturn, 1) := by decide +kernel
end
section
theorem dL_law_0 : decode cL_law 0 = .ok (.new 7, 3) := by decide +kernel
theorem dL_law_3 : decode cL_law 3 = .ok (.dup, 1) := by decide +kernel
theorem dL_law_4 : decode cL_law 4 = .ok (.invokespecial 9, 3) := by decide +kernel
theorem dL_law_7 : decode cL_law 7 = .ok (.astore_n 1, 1) := by decide +kernel
theorem dL_law_8 : decode cL_law 8 = .ok (.new 10, 3) := by decide +kernel
theorem dL_law_11 : decode cL_law 11 = .ok (.dup, 1) := by decide +kernel
theorem dL_law_12 : decode cL_law 12 = .ok (.invokespecial 12, 3) := by decide +kernel
theorem dL_law_15 : decode cL_law 15 = .ok (.astore_n 2, 1) := by decide +kernel
theorem dL_law_16 : decode cL_law 16 = .ok (.iconst 0, 1) := by decide +kernel
theorem dL_law_17 : decode cL_law 17 = .ok (.istore_n 3, 1) := by decide +kernel
theorem dL_law_18 : decode cL_law 18 = .ok (.iload_n 3, 1) := by decide +kernel
theorem dL_law_19 : decode cL_law 19 = .ok (.aload_n 0, 1) := by decide +kernel
theorem dL_law_20 : decode cL_law 20 = .ok (.arraylength, 1) := by decide +kernel
theorem dL_law_21 : decode cL_law 21 = .ok (.iconst 4, 1) := by decide +kernel
theorem dL_law_22 : decode cL_law 22 = .ok (.isub, 1) := by decide +kernel
theorem dL_law_23 : decode cL_law 23 = .ok (.if_icmp .gt 900, 3) := by decide +kernel
theorem dL_law_26 : decode cL_law 26 = .ok (.aload_n 0, 1) := by decide +kernel
theorem dL_law_27 : decode cL_law 27 = .ok (.iload_n 3, 1) := by decide +kernel
theorem dL_law_28 : decode cL_law 28 = .ok (.iaload, 1) := by decide +kernel
theorem dL_law_29 : decode cL_law 29 = .ok (.bipush 31, 2) := by decide +kernel
theorem dL_law_31 : decode cL_law 31 = .ok (.iand, 1) := by decide +kernel
theorem dL_law_32 : decode cL_law 32 = .ok (.tableswitch 885 0 28 #[132, 155, 168, 181, 204, 237, 270, 303, 326, 359, 382, 405, 428, 461, 484, 507, 540, 573, 616, 649, 682, 731, 744, 757, 790, 803, 816, 839, 862], 132) := by decide +kernel
theorem dL_law_164 : decode cL_law 164 = .ok (.aload_n 1, 1) := by decide +kernel
theorem dL_law_165 : decode cL_law 165 = .ok (.aload_n 0, 1) := by decide +kernel
theorem dL_law_166 : decode cL_law 166 = .ok (.iload_n 3, 1) := by decide +kernel
theorem dL_law_167 : decode cL_law 167 = .ok (.iconst 1, 1) := by decide +kernel
theorem dL_law_168 : decode cL_law 168 = .ok (.iadd, 1) := by decide +kernel
theorem dL_law_169 : decode cL_law 169 = .ok (.iaload, 1) := by decide +kernel
theorem dL_law_170 : decode cL_law 170 = .ok (.invokevirtual 13, 3) := by decide +kernel
theorem dL_law_173 : decode cL_law 173 = .ok (.aload_n 2, 1) := by decide +kernel
theorem dL_law_174 : decode cL_law 174 = .ok (.aload_n 0, 1) := by decide +kernel
theorem dL_law_175 : decode cL_law 175 = .ok (.iload_n 3, 1) := by decide +kernel
theorem dL_law_176 : decode cL_law 176 = .ok (.iconst 1, 1) := by decide +kernel
theorem dL_law_177 : decode cL_law 177 = .ok (.iadd, 1) := by decide +kernel
theorem dL_law_178 : decode cL_law 178 = .ok (.iaload, 1) := by decide +kernel
theorem dL_law_179 : decode cL_law 179 = .ok (.invokevirtual 17, 3) := by decide +kernel
theorem dL_law_182 : decode cL_law 182 = .ok (.if_icmp .eq 735, 3) := by decide +kernel
theorem dL_law_185 : decode cL_law 185 = .ok (.iconst 0, 1) := by decide +kernel
theorem dL_law_186 : decode cL_law 186 = .ok (.ireturn, 1) := by decide +kernel
theorem dL_law_187 : decode cL_law 187 = .ok (.aload_n 1, 1) := by decide +kernel
theorem dL_law_188 : decode cL_law 188 = .ok (.invokevirtual 18, 3) := by decide +kernel
theorem dL_law_191 : decode cL_law 191 = .ok (.aload_n 2, 1) := by decide +kernel
theorem dL_law_192 : decode cL_law 192 = .ok (.invokevirtual 22, 3) := by decide +kernel
theorem dL_law_195 : decode cL_law 195 = .ok (.if_icmp .eq 722, 3) := by decide +kernel
theorem dL_law_198 : decode cL_law 198 = .ok (.iconst 0, 1) := by decide +kernel
theorem dL_law_199 : decode cL_law 199 = .ok (.ireturn, 1) := by decide +kernel
theorem dL_law_200 : decode cL_law 200 = .ok (.aload_n 1, 1) := by decide +kernel
theorem dL_law_201 : decode cL_law 201 = .ok (.invokevirtual 23, 3) := by decide +kernel
theorem dL_law_204 : decode cL_law 204 = .ok (.aload_n 2, 1) := by decide +kernel
theorem dL_law_205 : decode cL_law 205 = .ok (.invokevirtual 26, 3) := by decide +kernel
theorem dL_law_208 : decode cL_law 208 = .ok (.if_icmp .eq 709, 3) := by decide +kernel
theorem dL_law_211 : decode cL_law 211 = .ok (.iconst 0, 1) := by decide +kernel
theorem dL_law_212 : decode cL_law 212 = .ok (.ireturn, 1) := by decide +kernel
theorem dL_law_213 : decode cL_law 213 = .ok (.aload_n 1, 1) := by decide +kernel
theorem dL_law_214 : decode cL_law 214 = .ok (.aload_n 0, 1) := by decide +kernel
theorem dL_law_215 : decode cL_law 215 = .ok (.iload_n 3, 1) := by decide +kernel
theorem dL_law_216 : decode cL_law 216 = .ok (.iconst 1, 1) := by decide +kernel
theorem dL_law_217 : decode cL_law 217 = .ok (.iadd, 1) := by decide +kernel
theorem dL_law_218 : decode cL_law 218 = .ok (.iaload, 1) := by decide +kernel
theorem dL_law_219 : decode cL_law 219 = .ok (.invokevirtual 27, 3) := by decide +kernel
theorem dL_law_222 : decode cL_law 222 = .ok (.aload_n 2, 1) := by decide +kernel
theorem dL_law_223 : decode cL_law 223 = .ok (.aload_n 0, 1) := by decide +kernel
theorem dL_law_224 : decode cL_law 224 = .ok (.iload_n 3, 1) := by decide +kernel
theorem dL_law_225 : decode cL_law 225 = .ok (.iconst 1, 1) := by decide +kernel
theorem dL_law_226 : decode cL_law 226 = .ok (.iadd, 1) := by decide +kernel
theorem dL_law_227 : decode cL_law 227 = .ok (.iaload, 1) := by decide +kernel
theorem dL_law_228 : decode cL_law 228 = .ok (.invokevirtual 30, 3) := by decide +kernel
theorem dL_law_231 : decode cL_law 231 = .ok (.if_icmp .eq 686, 3) := by decide +kernel
theorem dL_law_234 : decode cL_law 234 = .ok (.iconst 0, 1) := by decide +kernel
theorem dL_law_235 : decode cL_law 235 = .ok (.ireturn, 1) := by decide +kernel
theorem dL_law_236 : decode cL_law 236 = .ok (.aload_n 1, 1) := by decide +kernel
theorem dL_law_237 : decode cL_law 237 = .ok (.aload_n 0, 1) := by decide +kernel
theorem dL_law_238 : decode cL_law 238 = .ok (.iload_n 3, 1) := by decide +kernel
theorem dL_law_239 : decode cL_law 239 = .ok (.iconst 1, 1) := by decide +kernel
theorem dL_law_240 : decode cL_law 240 = .ok (.iadd, 1) := by decide +kernel
theorem dL_law_241 : decode cL_law 241 = .ok (.iaload, 1) := by decide +kernel
theorem dL_law_242 : decode cL_law 242 = .ok (.aload_n 0, 1) := by decide +kernel
theorem dL_law_243 : decode cL_law 243 = .ok (.iload_n 3, 1) := by decide +kernel
theorem dL_law_244 : decode cL_law 244 = .ok (.iconst 2, 1) := by decide +kernel
theorem dL_law_245 : decode cL_law 245 = .ok (.iadd, 1) := by decide +kernel
theorem dL_law_246 : decode cL_law 246 = .ok (.iaload, 1) := by decide +kernel
theorem dL_law_247 : decode cL_law 247 = .ok (.invokevirtual 31, 3) := by decide +kernel
theorem dL_law_250 : decode cL_law 250 = .ok (.aload_n 2, 1) := by decide +kernel
theorem dL_law_251 : decode cL_law 251 = .ok (.aload_n 0, 1) := by decide +kernel
theorem dL_law_252 : decode cL_law 252 = .ok (.iload_n 3, 1) := by decide +kernel
theorem dL_law_253 : decode cL_law 253 = .ok (.iconst 1, 1) := by decide +kernel
theorem dL_law_254 : decode cL_law 254 = .ok (.iadd, 1) := by decide +kernel
theorem dL_law_255 : decode cL_law 255 = .ok (.iaload, 1) := by decide +kernel
theorem dL_law_256 : decode cL_law 256 = .ok (.aload_n 0, 1) := by decide +kernel
theorem dL_law_257 : decode cL_law 257 = .ok (.iload_n 3, 1) := by decide +kernel
theorem dL_law_258 : decode cL_law 258 = .ok (.iconst 2, 1) := by decide +kernel
theorem dL_law_259 : decode cL_law 259 = .ok (.iadd, 1) := by decide +kernel
theorem dL_law_260 : decode cL_law 260 = .ok (.iaload, 1) := by decide +kernel
theorem dL_law_261 : decode cL_law 261 = .ok (.invokevirtual 35, 3) := by decide +kernel
theorem dL_law_264 : decode cL_law 264 = .ok (.if_icmp .eq 653, 3) := by decide +kernel
theorem dL_law_267 : decode cL_law 267 = .ok (.iconst 0, 1) := by decide +kernel
theorem dL_law_268 : decode cL_law 268 = .ok (.ireturn, 1) := by decide +kernel
theorem dL_law_269 : decode cL_law 269 = .ok (.aload_n 1, 1) := by decide +kernel
theorem dL_law_270 : decode cL_law 270 = .ok (.aload_n 0, 1) := by decide +kernel
theorem dL_law_271 : decode cL_law 271 = .ok (.iload_n 3, 1) := by decide +kernel
theorem dL_law_272 : decode cL_law 272 = .ok (.iconst 1, 1) := by decide +kernel
theorem dL_law_273 : decode cL_law 273 = .ok (.iadd, 1) := by decide +kernel
theorem dL_law_274 : decode cL_law 274 = .ok (.iaload, 1) := by decide +kernel
theorem dL_law_275 : decode cL_law 275 = .ok (.aload_n 0, 1) := by decide +kernel
theorem dL_law_276 : decode cL_law 276 = .ok (.iload_n 3, 1) := by decide +kernel
theorem dL_law_277 : decode cL_law 277 = .ok (.iconst 2, 1) := by decide +kernel
theorem dL_law_278 : decode cL_law 278 = .ok (.iadd, 1) := by decide +kernel
theorem dL_law_279 : decode cL_law 279 = .ok (.iaload, 1) := by decide +kernel
theorem dL_law_280 : decode cL_law 280 = .ok (.invokevirtual 36, 3) := by decide +kernel
theorem dL_law_283 : decode cL_law 283 = .ok (.aload_n 2, 1) := by decide +kernel
theorem dL_law_284 : decode cL_law 284 = .ok (.aload_n 0, 1) := by decide +kernel
theorem dL_law_285 : decode cL_law 285 = .ok (.iload_n 3, 1) := by decide +kernel
theorem dL_law_286 : decode cL_law 286 = .ok (.iconst 1, 1) := by decide +kernel
theorem dL_law_287 : decode cL_law 287 = .ok (.iadd, 1) := by decide +kernel
theorem dL_law_288 : decode cL_law 288 = .ok (.iaload, 1) := by decide +kernel
theorem dL_law_289 : decode cL_law 289 = .ok (.aload_n 0, 1) := by decide +kernel
theorem dL_law_290 : decode cL_law 290 = .ok (.iload_n 3, 1) := by decide +kernel
theorem dL_law_291 : decode cL_law 291 = .ok (.iconst 2, 1) := by decide +kernel
theorem dL_law_292 : decode cL_law 292 = .ok (.iadd, 1) := by decide +kernel
theorem dL_law_293 : decode cL_law 293 = .ok (.iaload, 1) := by decide +kernel
theorem dL_law_294 : decode cL_law 294 = .ok (.invokevirtual 39, 3) := by decide +kernel
theorem dL_law_297 : decode cL_law 297 = .ok (.if_icmp .eq 620, 3) := by decide +kernel
theorem dL_law_300 : decode cL_law 300 = .ok (.iconst 0, 1) := by decide +kernel
theorem dL_law_301 : decode cL_law 301 = .ok (.ireturn, 1) := by decide +kernel
theorem dL_law_302 : decode cL_law 302 = .ok (.aload_n 1, 1) := by decide +kernel
theorem dL_law_303 : decode cL_law 303 = .ok (.aload_n 0, 1) := by decide +kernel
theorem dL_law_304 : decode cL_law 304 = .ok (.iload_n 3, 1) := by decide +kernel
theorem dL_law_305 : decode cL_law 305 = .ok (.iconst 1, 1) := by decide +kernel
theorem dL_law_306 : decode cL_law 306 = .ok (.iadd, 1) := by decide +kernel
theorem dL_law_307 : decode cL_law 307 = .ok (.iaload, 1) := by decide +kernel
theorem dL_law_308 : decode cL_law 308 = .ok (.aload_n 0, 1) := by decide +kernel
theorem dL_law_309 : decode cL_law 309 = .ok (.iload_n 3, 1) := by decide +kernel
theorem dL_law_310 : decode cL_law 310 = .ok (.iconst 2, 1) := by decide +kernel
theorem dL_law_311 : decode cL_law 311 = .ok (.iadd, 1) := by decide +kernel
theorem dL_law_312 : decode cL_law 312 = .ok (.iaload, 1) := by decide +kernel
theorem dL_law_313 : decode cL_law 313 = .ok (.invokevirtual 40, 3) := by decide +kernel
theorem dL_law_316 : decode cL_law 316 = .ok (.aload_n 2, 1) := by decide +kernel
theorem dL_law_317 : decode cL_law 317 = .ok (.aload_n 0, 1) := by decide +kernel
theorem dL_law_318 : decode cL_law 318 = .ok (.iload_n 3, 1) := by decide +kernel
theorem dL_law_319 : decode cL_law 319 = .ok (.iconst 1, 1) := by decide +kernel
theorem dL_law_320 : decode cL_law 320 = .ok (.iadd, 1) := by decide +kernel
theorem dL_law_321 : decode cL_law 321 = .ok (.iaload, 1) := by decide +kernel
theorem dL_law_322 : decode cL_law 322 = .ok (.aload_n 0, 1) := by decide +kernel
theorem dL_law_323 : decode cL_law 323 = .ok (.iload_n 3, 1) := by decide +kernel
theorem dL_law_324 : decode cL_law 324 = .ok (.iconst 2, 1) := by decide +kernel
theorem dL_law_325 : decode cL_law 325 = .ok (.iadd, 1) := by decide +kernel
theorem dL_law_326 : decode cL_law 326 = .ok (.iaload, 1) := by decide +kernel
theorem dL_law_327 : decode cL_law 327 = .ok (.invokevirtual 43, 3) := by decide +kernel
theorem dL_law_330 : decode cL_law 330 = .ok (.if_icmp .eq 587, 3) := by decide +kernel
theorem dL_law_333 : decode cL_law 333 = .ok (.iconst 0, 1) := by decide +kernel
theorem dL_law_334 : decode cL_law 334 = .ok (.ireturn, 1) := by decide +kernel
theorem dL_law_335 : decode cL_law 335 = .ok (.aload_n 1, 1) := by decide +kernel
theorem dL_law_336 : decode cL_law 336 = .ok (.aload_n 0, 1) := by decide +kernel
theorem dL_law_337 : decode cL_law 337 = .ok (.iload_n 3, 1) := by decide +kernel
theorem dL_law_338 : decode cL_law 338 = .ok (.iconst 1, 1) := by decide +kernel
theorem dL_law_339 : decode cL_law 339 = .ok (.iadd, 1) := by decide +kernel
theorem dL_law_340 : decode cL_law 340 = .ok (.iaload, 1) := by decide +kernel
theorem dL_law_341 : decode cL_law 341 = .ok (.invokevirtual 44, 3) := by decide +kernel
theorem dL_law_344 : decode cL_law 344 = .ok (.aload_n 2, 1) := by decide +kernel
theorem dL_law_345 : decode cL_law 345 = .ok (.aload_n 0, 1) := by decide +kernel
theorem dL_law_346 : decode cL_law 346 = .ok (.iload_n 3, 1) := by decide +kernel
theorem dL_law_347 : decode cL_law 347 = .ok (.iconst 1, 1) := by decide +kernel
theorem dL_law_348 : decode cL_law 348 = .ok (.iadd, 1) := by decide +kernel
theorem dL_law_349 : decode cL_law 349 = .ok (.iaload, 1) := by decide +kernel
theorem dL_law_350 : decode cL_law 350 = .ok (.invokevirtual 47, 3) := by decide +kernel
theorem dL_law_353 : decode cL_law 353 = .ok (.if_icmp .eq 564, 3) := by decide +kernel
theorem dL_law_356 : decode cL_law 356 = .ok (.iconst 0, 1) := by decide +kernel
theorem dL_law_357 : decode cL_law 357 = .ok (.ireturn, 1) := by decide +kernel
theorem dL_law_358 : decode cL_law 358 = .ok (.aload_n 1, 1) := by decide +kernel
theorem dL_law_359 : decode cL_law 359 = .ok (.aload_n 0, 1) := by decide +kernel
theorem dL_law_360 : decode cL_law 360 = .ok (.iload_n 3, 1) := by decide +kernel
theorem dL_law_361 : decode cL_law 361 = .ok (.iconst 1, 1) := by decide +kernel
theorem dL_law_362 : decode cL_law 362 = .ok (.iadd, 1) := by decide +kernel
theorem dL_law_363 : decode cL_law 363 = .ok (.iaload, 1) := by decide +kernel
theorem dL_law_364 : decode cL_law 364 = .ok (.aload_n 0, 1) := by decide +kernel
theorem dL_law_365 : decode cL_law 365 = .ok (.iload_n 3, 1) := by decide +kernel
theorem dL_law_366 : decode cL_law 366 = .ok (.iconst 2, 1) := by decide +kernel
theorem dL_law_367 : decode cL_law 367 = .ok (.iadd, 1) := by decide +kernel
theorem dL_law_368 : decode cL_law 368 = .ok (.iaload, 1) := by decide +kernel
theorem dL_law_369 : decode cL_law 369 = .ok (.invokevirtual 48, 3) := by decide +kernel
theorem dL_law_372 : decode cL_law 372 = .ok (.aload_n 2, 1) := by decide +kernel
theorem dL_law_373 : decode cL_law 373 = .ok (.aload_n 0, 1) := by decide +kernel
theorem dL_law_374 : decode cL_law 374 = .ok (.iload_n 3, 1) := by decide +kernel
theorem dL_law_375 : decode cL_law 375 = .ok (.iconst 1, 1) := by decide +kernel
theorem dL_law_376 : decode cL_law 376 = .ok (.iadd, 1) := by decide +kernel
theorem dL_law_377 : decode cL_law 377 = .ok (.iaload, 1) := by decide +kernel
theorem dL_law_378 : decode cL_law 378 = .ok (.aload_n 0, 1) := by decide +kernel
theorem dL_law_379 : decode cL_law 379 = .ok (.iload_n 3, 1) := by decide +kernel
theorem dL_law_380 : decode cL_law 380 = .ok (.iconst 2, 1) := by decide +kernel
theorem dL_law_381 : decode cL_law 381 = .ok (.iadd, 1) := by decide +kernel
theorem dL_law_382 : decode cL_law 382 = .ok (.iaload, 1) := by decide +kernel
theorem dL_law_383 : decode cL_law 383 = .ok (.invokevirtual 51, 3) := by decide +kernel
theorem dL_law_386 : decode cL_law 386 = .ok (.if_icmp .eq 531, 3) := by decide +kernel
theorem dL_law_389 : decode cL_law 389 = .ok (.iconst 0, 1) := by decide +kernel
theorem dL_law_390 : decode cL_law 390 = .ok (.ireturn, 1) := by decide +kernel
theorem dL_law_391 : decode cL_law 391 = .ok (.aload_n 1, 1) := by decide +kernel
theorem dL_law_392 : decode cL_law 392 = .ok (.aload_n 0, 1) := by decide +kernel
theorem dL_law_393 : decode cL_law 393 = .ok (.iload_n 3, 1) := by decide +kernel
theorem dL_law_394 : decode cL_law 394 = .ok (.iconst 1, 1) := by decide +kernel
theorem dL_law_395 : decode cL_law 395 = .ok (.iadd, 1) := by decide +kernel
theorem dL_law_396 : decode cL_law 396 = .ok (.iaload, 1) := by decide +kernel
theorem dL_law_397 : decode cL_law 397 = .ok (.invokevirtual 52, 3) := by decide +kernel
theorem dL_law_400 : decode cL_law 400 = .ok (.aload_n 2, 1) := by decide +kernel
theorem dL_law_401 : decode cL_law 401 = .ok (.aload_n 0, 1) := by decide +kernel
theorem dL_law_402 : decode cL_law 402 = .ok (.iload_n 3, 1) := by decide +kernel
theorem dL_law_403 : decode cL_law 403 = .ok (.iconst 1, 1) := by decide +kernel
theorem dL_law_404 : decode cL_law 404 = .ok (.iadd, 1) := by decide +kernel
theorem dL_law_405 : decode cL_law 405 = .ok (.iaload, 1) := by decide +kernel
theorem dL_law_406 : decode cL_law 406 = .ok (.invokevirtual 55, 3) := by decide +kernel
theorem dL_law_409 : decode cL_law 409 = .ok (.if_icmp .eq 508, 3) := by decide +kernel
theorem dL_law_412 : decode cL_law 412 = .ok (.iconst 0, 1) := by decide +kernel
theorem dL_law_413 : decode cL_law 413 = .ok (.ireturn, 1) := by decide +kernel
theorem dL_law_414 : decode cL_law 414 = .ok (.aload_n 1, 1) := by decide +kernel
theorem dL_law_415 : decode cL_law 415 = .ok (.aload_n 0, 1) := by decide +kernel
theorem dL_law_416 : decode cL_law 416 = .ok (.iload_n 3, 1) := by decide +kernel
theorem dL_law_417 : decode cL_law 417 = .ok (.iconst 1, 1) := by decide +kernel
theorem dL_law_418 : decode cL_law 418 = .ok (.iadd, 1) := by decide +kernel
theorem dL_law_419 : decode cL_law 419 = .ok (.iaload, 1) := by decide +kernel
theorem dL_law_420 : decode cL_law 420 = .ok (.invokevirtual 56, 3) := by decide +kernel
theorem dL_law_423 : decode cL_law 423 = .ok (.aload_n 2, 1) := by decide +kernel
theorem dL_law_424 : decode cL_law 424 = .ok (.aload_n 0, 1) := by decide +kernel
theorem dL_law_425 : decode cL_law 425 = .ok (.iload_n 3, 1) := by decide +kernel
theorem dL_law_426 : decode cL_law 426 = .ok (.iconst 1, 1) := by decide +kernel
theorem dL_law_427 : decode cL_law 427 = .ok (.iadd, 1) := by decide +kernel
theorem dL_law_428 : decode cL_law 428 = .ok (.iaload, 1) := by decide +kernel
theorem dL_law_429 : decode cL_law 429 = .ok (.invokevirtual 59, 3) := by decide +kernel
theorem dL_law_432 : decode cL_law 432 = .ok (.if_icmp .eq 485, 3) := by decide +kernel
theorem dL_law_435 : decode cL_law 435 = .ok (.iconst 0, 1) := by decide +kernel
theorem dL_law_436 : decode cL_law 436 = .ok (.ireturn, 1) := by decide +kernel
theorem dL_law_437 : decode cL_law 437 = .ok (.aload_n 1, 1) := by decide +kernel
theorem dL_law_438 : decode cL_law 438 = .ok (.aload_n 0, 1) := by decide +kernel
theorem dL_law_439 : decode cL_law 439 = .ok (.iload_n 3, 1) := by decide +kernel
theorem dL_law_440 : decode cL_law 440 = .ok (.iconst 1, 1) := by decide +kernel
theorem dL_law_441 : decode cL_law 441 = .ok (.iadd, 1) := by decide +kernel
theorem dL_law_442 : decode cL_law 442 = .ok (.iaload, 1) := by decide +kernel
theorem dL_law_443 : decode cL_law 443 = .ok (.invokevirtual 60, 3) := by decide +kernel
theorem dL_law_446 : decode cL_law 446 = .ok (.aload_n 2, 1) := by decide +kernel
theorem dL_law_447 : decode cL_law 447 = .ok (.aload_n 0, 1) := by decide +kernel
theorem dL_law_448 : decode cL_law 448 = .ok (.iload_n 3, 1) := by decide +kernel
theorem dL_law_449 : decode cL_law 449 = .ok (.iconst 1, 1) := by decide +kernel
theorem dL_law_450 : decode cL_law 450 = .ok (.iadd, 1) := by decide +kernel
theorem dL_law_451 : decode cL_law 451 = .ok (.iaload, 1) := by decide +kernel
theorem dL_law_452 : decode cL_law 452 = .ok (.invokevirtual 63, 3) := by decide +kernel
theorem dL_law_455 : decode cL_law 455 = .ok (.if_icmp .eq 462, 3) := by decide +kernel
theorem dL_law_458 : decode cL_law 458 = .ok (.iconst 0, 1) := by decide +kernel
theorem dL_law_459 : decode cL_law 459 = .ok (.ireturn, 1) := by decide +kernel
theorem dL_law_460 : decode cL_law 460 = .ok (.aload_n 1, 1) := by decide +kernel
theorem dL_law_461 : decode cL_law 461 = .ok (.aload_n 0, 1) := by decide +kernel
theorem dL_law_462 : decode cL_law 462 = .ok (.iload_n 3, 1) := by decide +kernel
theorem dL_law_463 : decode cL_law 463 = .ok (.iconst 1, 1) := by decide +kernel
theorem dL_law_464 : decode cL_law 464 = .ok (.iadd, 1) := by decide +kernel
theorem dL_law_465 : decode cL_law 465 = .ok (.iaload, 1) := by decide +kernel
theorem dL_law_466 : decode cL_law 466 = .ok (.aload_n 0, 1) := by decide +kernel
theorem dL_law_467 : decode cL_law 467 = .ok (.iload_n 3, 1) := by decide +kernel
theorem dL_law_468 : decode cL_law 468 = .ok (.iconst 2, 1) := by decide +kernel
theorem dL_law_469 : decode cL_law 469 = .ok (.iadd, 1) := by decide +kernel
theorem dL_law_470 : decode cL_law 470 = .ok (.iaload, 1) := by decide +kernel
theorem dL_law_471 : decode cL_law 471 = .ok (.invokevirtual 64, 3) := by decide +kernel
theorem dL_law_474 : decode cL_law 474 = .ok (.aload_n 2, 1) := by decide +kernel
theorem dL_law_475 : decode cL_law 475 = .ok (.aload_n 0, 1) := by decide +kernel
theorem dL_law_476 : decode cL_law 476 = .ok (.iload_n 3, 1) := by decide +kernel
theorem dL_law_477 : decode cL_law 477 = .ok (.iconst 1, 1) := by decide +kernel
theorem dL_law_478 : decode cL_law 478 = .ok (.iadd, 1) := by decide +kernel
theorem dL_law_479 : decode cL_law 479 = .ok (.iaload, 1) := by decide +kernel
theorem dL_law_480 : decode cL_law 480 = .ok (.aload_n 0, 1) := by decide +kernel
theorem dL_law_481 : decode cL_law 481 = .ok (.iload_n 3, 1) := by decide +kernel
theorem dL_law_482 : decode cL_law 482 = .ok (.iconst 2, 1) := by decide +kernel
theorem dL_law_483 : decode cL_law 483 = .ok (.iadd, 1) := by decide +kernel
theorem dL_law_484 : decode cL_law 484 = .ok (.iaload, 1) := by decide +kernel
theorem dL_law_485 : decode cL_law 485 = .ok (.invokevirtual 67, 3) := by decide +kernel
theorem dL_law_488 : decode cL_law 488 = .ok (.if_icmp .eq 429, 3) := by decide +kernel
theorem dL_law_491 : decode cL_law 491 = .ok (.iconst 0, 1) := by decide +kernel
theorem dL_law_492 : decode cL_law 492 = .ok (.ireturn, 1) := by decide +kernel
theorem dL_law_493 : decode cL_law 493 = .ok (.aload_n 1, 1) := by decide +kernel
theorem dL_law_494 : decode cL_law 494 = .ok (.aload_n 0, 1) := by decide +kernel
theorem dL_law_495 : decode cL_law 495 = .ok (.iload_n 3, 1) := by decide +kernel
theorem dL_law_496 : decode cL_law 496 = .ok (.iconst 1, 1) := by decide +kernel
theorem dL_law_497 : decode cL_law 497 = .ok (.iadd, 1) := by decide +kernel
theorem dL_law_498 : decode cL_law 498 = .ok (.iaload, 1) := by decide +kernel
theorem dL_law_499 : decode cL_law 499 = .ok (.invokevirtual 68, 3) := by decide +kernel
theorem dL_law_502 : decode cL_law 502 = .ok (.aload_n 2, 1) := by decide +kernel
theorem dL_law_503 : decode cL_law 503 = .ok (.aload_n 0, 1) := by decide +kernel
theorem dL_law_504 : decode cL_law 504 = .ok (.iload_n 3, 1) := by decide +kernel
theorem dL_law_505 : decode cL_law 505 = .ok (.iconst 1, 1) := by decide +kernel
theorem dL_law_506 : decode cL_law 506 = .ok (.iadd, 1) := by decide +kernel
theorem dL_law_507 : decode cL_law 507 = .ok (.iaload, 1) := by decide +kernel
theorem dL_law_508 : decode cL_law 508 = .ok (.invokevirtual 71, 3) := by decide +kernel
theorem dL_law_511 : decode cL_law 511 = .ok (.if_icmp .eq 406, 3) := by decide +kernel
theorem dL_law_514 : decode cL_law 514 = .ok (.iconst 0, 1) := by decide +kernel
theorem dL_law_515 : decode cL_law 515 = .ok (.ireturn, 1) := by decide +kernel
theorem dL_law_516 : decode cL_law 516 = .ok (.aload_n 1, 1) := by decide +kernel
theorem dL_law_517 : decode cL_law 517 = .ok (.aload_n 0, 1) := by decide +kernel
theorem dL_law_518 : decode cL_law 518 = .ok (.iload_n 3, 1) := by decide +kernel
theorem dL_law_519 : decode cL_law 519 = .ok (.iconst 1, 1) := by decide +kernel
theorem dL_law_520 : decode cL_law 520 = .ok (.iadd, 1) := by decide +kernel
theorem dL_law_521 : decode cL_law 521 = .ok (.iaload, 1) := by decide +kernel
theorem dL_law_522 : decode cL_law 522 = .ok (.invokevirtual 72, 3) := by decide +kernel
theorem dL_law_525 : decode cL_law 525 = .ok (.aload_n 2, 1) := by decide +kernel
theorem dL_law_526 : decode cL_law 526 = .ok (.aload_n 0, 1) := by decide +kernel
theorem dL_law_527 : decode cL_law 527 = .ok (.iload_n 3, 1) := by decide +kernel
theorem dL_law_528 : decode cL_law 528 = .ok (.iconst 1, 1) := by decide +kernel
theorem dL_law_529 : decode cL_law 529 = .ok (.iadd, 1) := by decide +kernel
theorem dL_law_530 : decode cL_law 530 = .ok (.iaload, 1) := by decide +kernel
theorem dL_law_531 : decode cL_law 531 = .ok (.invokevirtual 75, 3) := by decide +kernel
theorem dL_law_534 : decode cL_law 534 = .ok (.if_icmp .eq 383, 3) := by decide +kernel
theorem dL_law_537 : decode cL_law 537 = .ok (.iconst 0, 1) := by decide +kernel
theorem dL_law_538 : decode cL_law 538 = .ok (.ireturn, 1) := by decide +kernel
theorem dL_law_539 : decode cL_law 539 = .ok (.aload_n 1, 1) := by decide +kernel
theorem dL_law_540 : decode cL_law 540 = .ok (.aload_n 0, 1) := by decide +kernel
theorem dL_law_541 : decode cL_law 541 = .ok (.iload_n 3, 1) := by decide +kernel
theorem dL_law_542 : decode cL_law 542 = .ok (.iconst 1, 1) := by decide +kernel
theorem dL_law_543 : decode cL_law 543 = .ok (.iadd, 1) := by decide +kernel
theorem dL_law_544 : decode cL_law 544 = .ok (.iaload, 1) := by decide +kernel
theorem dL_law_545 : decode cL_law 545 = .ok (.aload_n 0, 1) := by decide +kernel
theorem dL_law_546 : decode cL_law 546 = .ok (.iload_n 3, 1) := by decide +kernel
theorem dL_law_547 : decode cL_law 547 = .ok (.iconst 2, 1) := by decide +kernel
theorem dL_law_548 : decode cL_law 548 = .ok (.iadd, 1) := by decide +kernel
theorem dL_law_549 : decode cL_law 549 = .ok (.iaload, 1) := by decide +kernel
theorem dL_law_550 : decode cL_law 550 = .ok (.invokevirtual 76, 3) := by decide +kernel
theorem dL_law_553 : decode cL_law 553 = .ok (.aload_n 2, 1) := by decide +kernel
theorem dL_law_554 : decode cL_law 554 = .ok (.aload_n 0, 1) := by decide +kernel
theorem dL_law_555 : decode cL_law 555 = .ok (.iload_n 3, 1) := by decide +kernel
theorem dL_law_556 : decode cL_law 556 = .ok (.iconst 1, 1) := by decide +kernel
theorem dL_law_557 : decode cL_law 557 = .ok (.iadd, 1) := by decide +kernel
theorem dL_law_558 : decode cL_law 558 = .ok (.iaload, 1) := by decide +kernel
theorem dL_law_559 : decode cL_law 559 = .ok (.aload_n 0, 1) := by decide +kernel
theorem dL_law_560 : decode cL_law 560 = .ok (.iload_n 3, 1) := by decide +kernel
theorem dL_law_561 : decode cL_law 561 = .ok (.iconst 2, 1) := by decide +kernel
theorem dL_law_562 : decode cL_law 562 = .ok (.iadd, 1) := by decide +kernel
theorem dL_law_563 : decode cL_law 563 = .ok (.iaload, 1) := by decide +kernel
theorem dL_law_564 : decode cL_law 564 = .ok (.invokevirtual 79, 3) := by decide +kernel
theorem dL_law_567 : decode cL_law 567 = .ok (.if_icmp .eq 350, 3) := by decide +kernel
theorem dL_law_570 : decode cL_law 570 = .ok (.iconst 0, 1) := by decide +kernel
theorem dL_law_571 : decode cL_law 571 = .ok (.ireturn, 1) := by decide +kernel
theorem dL_law_572 : decode cL_law 572 = .ok (.aload_n 1, 1) := by decide +kernel
theorem dL_law_573 : decode cL_law 573 = .ok (.aload_n 0, 1) := by decide +kernel
theorem dL_law_574 : decode cL_law 574 = .ok (.iload_n 3, 1) := by decide +kernel
theorem dL_law_575 : decode cL_law 575 = .ok (.iconst 1, 1) := by decide +kernel
theorem dL_law_576 : decode cL_law 576 = .ok (.iadd, 1) := by decide +kernel
theorem dL_law_577 : decode cL_law 577 = .ok (.iaload, 1) := by decide +kernel
theorem dL_law_578 : decode cL_law 578 = .ok (.aload_n 0, 1) := by decide +kernel
theorem dL_law_579 : decode cL_law 579 = .ok (.iload_n 3, 1) := by decide +kernel
theorem dL_law_580 : decode cL_law 580 = .ok (.iconst 2, 1) := by decide +kernel
theorem dL_law_581 : decode cL_law 581 = .ok (.iadd, 1) := by decide +kernel
theorem dL_law_582 : decode cL_law 582 = .ok (.iaload, 1) := by decide +kernel
theorem dL_law_583 : decode cL_law 583 = .ok (.invokevirtual 80, 3) := by decide +kernel
theorem dL_law_586 : decode cL_law 586 = .ok (.aload_n 2, 1) := by decide +kernel
theorem dL_law_587 : decode cL_law 587 = .ok (.aload_n 0, 1) := by decide +kernel
theorem dL_law_588 : decode cL_law 588 = .ok (.iload_n 3, 1) := by decide +kernel
theorem dL_law_589 : decode cL_law 589 = .ok (.iconst 1, 1) := by decide +kernel
theorem dL_law_590 : decode cL_law 590 = .ok (.iadd, 1) := by decide +kernel
theorem dL_law_591 : decode cL_law 591 = .ok (.iaload, 1) := by decide +kernel
theorem dL_law_592 : decode cL_law 592 = .ok (.aload_n 0, 1) := by decide +kernel
theorem dL_law_593 : decode cL_law 593 = .ok (.iload_n 3, 1) := by decide +kernel
theorem dL_law_594 : decode cL_law 594 = .ok (.iconst 2, 1) := by decide +kernel
theorem dL_law_595 : decode cL_law 595 = .ok (.iadd, 1) := by decide +kernel
theorem dL_law_596 : decode cL_law 596 = .ok (.iaload, 1) := by decide +kernel
theorem dL_law_597 : decode cL_law 597 = .ok (.invokevirtual 83, 3) := by decide +kernel
theorem dL_law_600 : decode cL_law 600 = .ok (.if_icmp .eq 317, 3) := by decide +kernel
theorem dL_law_603 : decode cL_law 603 = .ok (.iconst 0, 1) := by decide +kernel
theorem dL_law_604 : decode cL_law 604 = .ok (.ireturn, 1) := by decide +kernel
theorem dL_law_605 : decode cL_law 605 = .ok (.aload_n 1, 1) := by decide +kernel
theorem dL_law_606 : decode cL_law 606 = .ok (.aload_n 0, 1) := by decide +kernel
theorem dL_law_607 : decode cL_law 607 = .ok (.iload_n 3, 1) := by decide +kernel
theorem dL_law_608 : decode cL_law 608 = .ok (.iconst 1, 1) := by decide +kernel
theorem dL_law_609 : decode cL_law 609 = .ok (.iadd, 1) := by decide +kernel
theorem dL_law_610 : decode cL_law 610 = .ok (.iaload, 1) := by decide +kernel
theorem dL_law_611 : decode cL_law 611 = .ok (.aload_n 0, 1) := by decide +kernel
theorem dL_law_612 : decode cL_law 612 = .ok (.iload_n 3, 1) := by decide +kernel
theorem dL_law_613 : decode cL_law 613 = .ok (.iconst 2, 1) := by decide +kernel
theorem dL_law_614 : decode cL_law 614 = .ok (.iadd, 1) := by decide +kernel
theorem dL_law_615 : decode cL_law 615 = .ok (.iaload, 1) := by decide +kernel
theorem dL_law_616 : decode cL_law 616 = .ok (.aload_n 0, 1) := by decide +kernel
theorem dL_law_617 : decode cL_law 617 = .ok (.iload_n 3, 1) := by decide +kernel
theorem dL_law_618 : decode cL_law 618 = .ok (.iconst 3, 1) := by decide +kernel
theorem dL_law_619 : decode cL_law 619 = .ok (.iadd, 1) := by decide +kernel
theorem dL_law_620 : decode cL_law 620 = .ok (.iaload, 1) := by decide +kernel
theorem dL_law_621 : decode cL_law 621 = .ok (.invokevirtual 84, 3) := by decide +kernel
theorem dL_law_624 : decode cL_law 624 = .ok (.aload_n 2, 1) := by decide +kernel
theorem dL_law_625 : decode cL_law 625 = .ok (.aload_n 0, 1) := by decide +kernel
theorem dL_law_626 : decode cL_law 626 = .ok (.iload_n 3, 1) := by decide +kernel
theorem dL_law_627 : decode cL_law 627 = .ok (.iconst 1, 1) := by decide +kernel
theorem dL_law_628 : decode cL_law 628 = .ok (.iadd, 1) := by decide +kernel
theorem dL_law_629 : decode cL_law 629 = .ok (.iaload, 1) := by decide +kernel
theorem dL_law_630 : decode cL_law 630 = .ok (.aload_n 0, 1) := by decide +kernel
theorem dL_law_631 : decode cL_law 631 = .ok (.iload_n 3, 1) := by decide +kernel
theorem dL_law_632 : decode cL_law 632 = .ok (.iconst 2, 1) := by decide +kernel
theorem dL_law_633 : decode cL_law 633 = .ok (.iadd, 1) := by decide +kernel
theorem dL_law_634 : decode cL_law 634 = .ok (.iaload, 1) := by decide +kernel
theorem dL_law_635 : decode cL_law 635 = .ok (.aload_n 0, 1) := by decide +kernel
theorem dL_law_636 : decode cL_law 636 = .ok (.iload_n 3, 1) := by decide +kernel
theorem dL_law_637 : decode cL_law 637 = .ok (.iconst 3, 1) := by decide +kernel
theorem dL_law_638 : decode cL_law 638 = .ok (.iadd, 1) := by decide +kernel
theorem dL_law_639 : decode cL_law 639 = .ok (.iaload, 1) := by decide +kernel
theorem dL_law_640 : decode cL_law 640 = .ok (.invokevirtual 88, 3) := by decide +kernel
theorem dL_law_643 : decode cL_law 643 = .ok (.if_icmp .eq 274, 3) := by decide +kernel
theorem dL_law_646 : decode cL_law 646 = .ok (.iconst 0, 1) := by decide +kernel
theorem dL_law_647 : decode cL_law 647 = .ok (.ireturn, 1) := by decide +kernel
theorem dL_law_648 : decode cL_law 648 = .ok (.aload_n 1, 1) := by decide +kernel
theorem dL_law_649 : decode cL_law 649 = .ok (.aload_n 0, 1) := by decide +kernel
theorem dL_law_650 : decode cL_law 650 = .ok (.iload_n 3, 1) := by decide +kernel
theorem dL_law_651 : decode cL_law 651 = .ok (.iconst 1, 1) := by decide +kernel
theorem dL_law_652 : decode cL_law 652 = .ok (.iadd, 1) := by decide +kernel
theorem dL_law_653 : decode cL_law 653 = .ok (.iaload, 1) := by decide +kernel
theorem dL_law_654 : decode cL_law 654 = .ok (.aload_n 0, 1) := by decide +kernel
theorem dL_law_655 : decode cL_law 655 = .ok (.iload_n 3, 1) := by decide +kernel
theorem dL_law_656 : decode cL_law 656 = .ok (.iconst 2, 1) := by decide +kernel
theorem dL_law_657 : decode cL_law 657 = .ok (.iadd, 1) := by decide +kernel
theorem dL_law_658 : decode cL_law 658 = .ok (.iaload, 1) := by decide +kernel
theorem dL_law_659 : decode cL_law 659 = .ok (.invokevirtual 89, 3) := by decide +kernel
theorem dL_law_662 : decode cL_law 662 = .ok (.aload_n 2, 1) := by decide +kernel
theorem dL_law_663 : decode cL_law 663 = .ok (.aload_n 0, 1) := by decide +kernel
theorem dL_law_664 : decode cL_law 664 = .ok (.iload_n 3, 1) := by decide +kernel
theorem dL_law_665 : decode cL_law 665 = .ok (.iconst 1, 1) := by decide +kernel
theorem dL_law_666 : decode cL_law 666 = .ok (.iadd, 1) := by decide +kernel
theorem dL_law_667 : decode cL_law 667 = .ok (.iaload, 1) := by decide +kernel
theorem dL_law_668 : decode cL_law 668 = .ok (.aload_n 0, 1) := by decide +kernel
theorem dL_law_669 : decode cL_law 669 = .ok (.iload_n 3, 1) := by decide +kernel
theorem dL_law_670 : decode cL_law 670 = .ok (.iconst 2, 1) := by decide +kernel
theorem dL_law_671 : decode cL_law 671 = .ok (.iadd, 1) := by decide +kernel
theorem dL_law_672 : decode cL_law 672 = .ok (.iaload, 1) := by decide +kernel
theorem dL_law_673 : decode cL_law 673 = .ok (.invokevirtual 92, 3) := by decide +kernel
theorem dL_law_676 : decode cL_law 676 = .ok (.if_icmp .eq 241, 3) := by decide +kernel
theorem dL_law_679 : decode cL_law 679 = .ok (.iconst 0, 1) := by decide +kernel
theorem dL_law_680 : decode cL_law 680 = .ok (.ireturn, 1) := by decide +kernel
theorem dL_law_681 : decode cL_law 681 = .ok (.aload_n 1, 1) := by decide +kernel
theorem dL_law_682 : decode cL_law 682 = .ok (.aload_n 0, 1) := by decide +kernel
theorem dL_law_683 : decode cL_law 683 = .ok (.iload_n 3, 1) := by decide +kernel
theorem dL_law_684 : decode cL_law 684 = .ok (.iconst 1, 1) := by decide +kernel
theorem dL_law_685 : decode cL_law 685 = .ok (.iadd, 1) := by decide +kernel
theorem dL_law_686 : decode cL_law 686 = .ok (.iaload, 1) := by decide +kernel
theorem dL_law_687 : decode cL_law 687 = .ok (.aload_n 0, 1) := by decide +kernel
theorem dL_law_688 : decode cL_law 688 = .ok (.iload_n 3, 1) := by decide +kernel
theorem dL_law_689 : decode cL_law 689 = .ok (.iconst 2, 1) := by decide +kernel
theorem dL_law_690 : decode cL_law 690 = .ok (.iadd, 1) := by decide +kernel
theorem dL_law_691 : decode cL_law 691 = .ok (.iaload, 1) := by decide +kernel
theorem dL_law_692 : decode cL_law 692 = .ok (.invokevirtual 93, 3) := by decide +kernel
theorem dL_law_695 : decode cL_law 695 = .ok (.aload_n 2, 1) := by decide +kernel
theorem dL_law_696 : decode cL_law 696 = .ok (.aload_n 0, 1) := by decide +kernel
theorem dL_law_697 : decode cL_law 697 = .ok (.iload_n 3, 1) := by decide +kernel
theorem dL_law_698 : decode cL_law 698 = .ok (.iconst 1, 1) := by decide +kernel
theorem dL_law_699 : decode cL_law 699 = .ok (.iadd, 1) := by decide +kernel
theorem dL_law_700 : decode cL_law 700 = .ok (.iaload, 1) := by decide +kernel
theorem dL_law_701 : decode cL_law 701 = .ok (.aload_n 0, 1) := by decide +kernel
theorem dL_law_702 : decode cL_law 702 = .ok (.iload_n 3, 1) := by decide +kernel
theorem dL_law_703 : decode cL_law 703 = .ok (.iconst 2, 1) := by decide +kernel
theorem dL_law_704 : decode cL_law 704 = .ok (.iadd, 1) := by decide +kernel
theorem dL_law_705 : decode cL_law 705 = .ok (.iaload, 1) := by decide +kernel
theorem dL_law_706 : decode cL_law 706 = .ok (.invokevirtual 96, 3) := by decide +kernel
theorem dL_law_709 : decode cL_law 709 = .ok (.if_icmp .eq 208, 3) := by decide +kernel
theorem dL_law_712 : decode cL_law 712 = .ok (.iconst 0, 1) := by decide +kernel
theorem dL_law_713 : decode cL_law 713 = .ok (.ireturn, 1) := by decide +kernel
theorem dL_law_714 : decode cL_law 714 = .ok (.aload_n 1, 1) := by decide +kernel
theorem dL_law_715 : decode cL_law 715 = .ok (.aload_n 0, 1) := by decide +kernel
theorem dL_law_716 : decode cL_law 716 = .ok (.iload_n 3, 1) := by decide +kernel
theorem dL_law_717 : decode cL_law 717 = .ok (.iconst 1, 1) := by decide +kernel
theorem dL_law_718 : decode cL_law 718 = .ok (.iadd, 1) := by decide +kernel
theorem dL_law_719 : decode cL_law 719 = .ok (.iaload, 1) := by decide +kernel
theorem dL_law_720 : decode cL_law 720 = .ok (.aload_n 0, 1) := by decide +kernel
theorem dL_law_721 : decode cL_law 721 = .ok (.iload_n 3, 1) := by decide +kernel
theorem dL_law_722 : decode cL_law 722 = .ok (.iconst 2, 1) := by decide +kernel
theorem dL_law_723 : decode cL_law 723 = .ok (.iadd, 1) := by decide +kernel
theorem dL_law_724 : decode cL_law 724 = .ok (.iaload, 1) := by decide +kernel
theorem dL_law_725 : decode cL_law 725 = .ok (.ifCond .eq 7, 3) := by decide +kernel
theorem dL_law_728 : decode cL_law 728 = .ok (.iconst 1, 1) := by decide +kernel
theorem dL_law_729 : decode cL_law 729 = .ok (.goto 4, 3) := by decide +kernel
theorem dL_law_732 : decode cL_law 732 = .ok (.iconst 0, 1) := by decide +kernel
theorem dL_law_733 : decode cL_law 733 = .ok (.invokevirtual 97, 3) := by decide +kernel
theorem dL_law_736 : decode cL_law 736 = .ok (.aload_n 2, 1) := by decide +kernel
theorem dL_law_737 : decode cL_law 737 = .ok (.aload_n 0, 1) := by decide +kernel
theorem dL_law_738 : decode cL_law 738 = .ok (.iload_n 3, 1) := by decide +kernel
theorem dL_law_739 : decode cL_law 739 = .ok (.iconst 1, 1) := by decide +kernel
theorem dL_law_740 : decode cL_law 740 = .ok (.iadd, 1) := by decide +kernel
theorem dL_law_741 : decode cL_law 741 = .ok (.iaload, 1) := by decide +kernel
theorem dL_law_742 : decode cL_law 742 = .ok (.aload_n 0, 1) := by decide +kernel
theorem dL_law_743 : decode cL_law 743 = .ok (.iload_n 3, 1) := by decide +kernel
theorem dL_law_744 : decode cL_law 744 = .ok (.iconst 2, 1) := by decide +kernel
theorem dL_law_745 : decode cL_law 745 = .ok (.iadd, 1) := by decide +kernel
theorem dL_law_746 : decode cL_law 746 = .ok (.iaload, 1) := by decide +kernel
theorem dL_law_747 : decode cL_law 747 = .ok (.ifCond .eq 7, 3) := by decide +kernel
theorem dL_law_750 : decode cL_law 750 = .ok (.iconst 1, 1) := by decide +kernel
theorem dL_law_751 : decode cL_law 751 = .ok (.goto 4, 3) := by decide +kernel
theorem dL_law_754 : decode cL_law 754 = .ok (.iconst 0, 1) := by decide +kernel
theorem dL_law_755 : decode cL_law 755 = .ok (.invokevirtual 101, 3) := by decide +kernel
theorem dL_law_758 : decode cL_law 758 = .ok (.if_icmp .eq 159, 3) := by decide +kernel
theorem dL_law_761 : decode cL_law 761 = .ok (.iconst 0, 1) := by decide +kernel
theorem dL_law_762 : decode cL_law 762 = .ok (.ireturn, 1) := by decide +kernel
theorem dL_law_763 : decode cL_law 763 = .ok (.aload_n 1, 1) := by decide +kernel
theorem dL_law_764 : decode cL_law 764 = .ok (.invokevirtual 102, 3) := by decide +kernel
theorem dL_law_767 : decode cL_law 767 = .ok (.aload_n 2, 1) := by decide +kernel
theorem dL_law_768 : decode cL_law 768 = .ok (.invokevirtual 105, 3) := by decide +kernel
theorem dL_law_771 : decode cL_law 771 = .ok (.if_icmp .eq 146, 3) := by decide +kernel
theorem dL_law_774 : decode cL_law 774 = .ok (.iconst 0, 1) := by decide +kernel
theorem dL_law_775 : decode cL_law 775 = .ok (.ireturn, 1) := by decide +kernel
theorem dL_law_776 : decode cL_law 776 = .ok (.aload_n 1, 1) := by decide +kernel
theorem dL_law_777 : decode cL_law 777 = .ok (.invokevirtual 106, 3) := by decide +kernel
theorem dL_law_780 : decode cL_law 780 = .ok (.aload_n 2, 1) := by decide +kernel
theorem dL_law_781 : decode cL_law 781 = .ok (.invokevirtual 109, 3) := by decide +kernel
theorem dL_law_784 : decode cL_law 784 = .ok (.if_icmp .eq 133, 3) := by decide +kernel
theorem dL_law_787 : decode cL_law 787 = .ok (.iconst 0, 1) := by decide +kernel
theorem dL_law_788 : decode cL_law 788 = .ok (.ireturn, 1) := by decide +kernel
theorem dL_law_789 : decode cL_law 789 = .ok (.aload_n 1, 1) := by decide +kernel
theorem dL_law_790 : decode cL_law 790 = .ok (.aload_n 0, 1) := by decide +kernel
theorem dL_law_791 : decode cL_law 791 = .ok (.iload_n 3, 1) := by decide +kernel
theorem dL_law_792 : decode cL_law 792 = .ok (.iconst 1, 1) := by decide +kernel
theorem dL_law_793 : decode cL_law 793 = .ok (.iadd, 1) := by decide +kernel
theorem dL_law_794 : decode cL_law 794 = .ok (.iaload, 1) := by decide +kernel
theorem dL_law_795 : decode cL_law 795 = .ok (.aload_n 0, 1) := by decide +kernel
theorem dL_law_796 : decode cL_law 796 = .ok (.iload_n 3, 1) := by decide +kernel
theorem dL_law_797 : decode cL_law 797 = .ok (.iconst 2, 1) := by decide +kernel
theorem dL_law_798 : decode cL_law 798 = .ok (.iadd, 1) := by decide +kernel
theorem dL_law_799 : decode cL_law 799 = .ok (.iaload, 1) := by decide +kernel
theorem dL_law_800 : decode cL_law 800 = .ok (.invokevirtual 110, 3) := by decide +kernel
theorem dL_law_803 : decode cL_law 803 = .ok (.aload_n 2, 1) := by decide +kernel
theorem dL_law_804 : decode cL_law 804 = .ok (.aload_n 0, 1) := by decide +kernel
theorem dL_law_805 : decode cL_law 805 = .ok (.iload_n 3, 1) := by decide +kernel
theorem dL_law_806 : decode cL_law 806 = .ok (.iconst 1, 1) := by decide +kernel
theorem dL_law_807 : decode cL_law 807 = .ok (.iadd, 1) := by decide +kernel
theorem dL_law_808 : decode cL_law 808 = .ok (.iaload, 1) := by decide +kernel
theorem dL_law_809 : decode cL_law 809 = .ok (.aload_n 0, 1) := by decide +kernel
theorem dL_law_810 : decode cL_law 810 = .ok (.iload_n 3, 1) := by decide +kernel
theorem dL_law_811 : decode cL_law 811 = .ok (.iconst 2, 1) := by decide +kernel
theorem dL_law_812 : decode cL_law 812 = .ok (.iadd, 1) := by decide +kernel
theorem dL_law_813 : decode cL_law 813 = .ok (.iaload, 1) := by decide +kernel
theorem dL_law_814 : decode cL_law 814 = .ok (.invokevirtual 113, 3) := by decide +kernel
theorem dL_law_817 : decode cL_law 817 = .ok (.if_icmp .eq 100, 3) := by decide +kernel
theorem dL_law_820 : decode cL_law 820 = .ok (.iconst 0, 1) := by decide +kernel
theorem dL_law_821 : decode cL_law 821 = .ok (.ireturn, 1) := by decide +kernel
theorem dL_law_822 : decode cL_law 822 = .ok (.aload_n 1, 1) := by decide +kernel
theorem dL_law_823 : decode cL_law 823 = .ok (.invokevirtual 114, 3) := by decide +kernel
theorem dL_law_826 : decode cL_law 826 = .ok (.aload_n 2, 1) := by decide +kernel
theorem dL_law_827 : decode cL_law 827 = .ok (.invokevirtual 117, 3) := by decide +kernel
theorem dL_law_830 : decode cL_law 830 = .ok (.if_icmp .eq 87, 3) := by decide +kernel
theorem dL_law_833 : decode cL_law 833 = .ok (.iconst 0, 1) := by decide +kernel
theorem dL_law_834 : decode cL_law 834 = .ok (.ireturn, 1) := by decide +kernel
theorem dL_law_835 : decode cL_law 835 = .ok (.aload_n 1, 1) := by decide +kernel
theorem dL_law_836 : decode cL_law 836 = .ok (.invokevirtual 118, 3) := by decide +kernel
theorem dL_law_839 : decode cL_law 839 = .ok (.aload_n 2, 1) := by decide +kernel
theorem dL_law_840 : decode cL_law 840 = .ok (.invokevirtual 121, 3) := by decide +kernel
theorem dL_law_843 : decode cL_law 843 = .ok (.if_icmp .eq 74, 3) := by decide +kernel
theorem dL_law_846 : decode cL_law 846 = .ok (.iconst 0, 1) := by decide +kernel
theorem dL_law_847 : decode cL_law 847 = .ok (.ireturn, 1) := by decide +kernel
theorem dL_law_848 : decode cL_law 848 = .ok (.aload_n 1, 1) := by decide +kernel
theorem dL_law_849 : decode cL_law 849 = .ok (.aload_n 0, 1) := by decide +kernel
theorem dL_law_850 : decode cL_law 850 = .ok (.iload_n 3, 1) := by decide +kernel
theorem dL_law_851 : decode cL_law 851 = .ok (.iconst 1, 1) := by decide +kernel
theorem dL_law_852 : decode cL_law 852 = .ok (.iadd, 1) := by decide +kernel
theorem dL_law_853 : decode cL_law 853 = .ok (.iaload, 1) := by decide +kernel
theorem dL_law_854 : decode cL_law 854 = .ok (.invokevirtual 122, 3) := by decide +kernel
theorem dL_law_857 : decode cL_law 857 = .ok (.aload_n 2, 1) := by decide +kernel
theorem dL_law_858 : decode cL_law 858 = .ok (.aload_n 0, 1) := by decide +kernel
theorem dL_law_859 : decode cL_law 859 = .ok (.iload_n 3, 1) := by decide +kernel
theorem dL_law_860 : decode cL_law 860 = .ok (.iconst 1, 1) := by decide +kernel
theorem dL_law_861 : decode cL_law 861 = .ok (.iadd, 1) := by decide +kernel
theorem dL_law_862 : decode cL_law 862 = .ok (.iaload, 1) := by decide +kernel
theorem dL_law_863 : decode cL_law 863 = .ok (.invokevirtual 125, 3) := by decide +kernel
theorem dL_law_866 : decode cL_law 866 = .ok (.if_icmp .eq 51, 3) := by decide +kernel
theorem dL_law_869 : decode cL_law 869 = .ok (.iconst 0, 1) := by decide +kernel
theorem dL_law_870 : decode cL_law 870 = .ok (.ireturn, 1) := by decide +kernel
theorem dL_law_871 : decode cL_law 871 = .ok (.aload_n 1, 1) := by decide +kernel
theorem dL_law_872 : decode cL_law 872 = .ok (.aload_n 0, 1) := by decide +kernel
theorem dL_law_873 : decode cL_law 873 = .ok (.iload_n 3, 1) := by decide +kernel
theorem dL_law_874 : decode cL_law 874 = .ok (.iconst 1, 1) := by decide +kernel
theorem dL_law_875 : decode cL_law 875 = .ok (.iadd, 1) := by decide +kernel
theorem dL_law_876 : decode cL_law 876 = .ok (.iaload, 1) := by decide +kernel
theorem dL_law_877 : decode cL_law 877 = .ok (.invokevirtual 126, 3) := by decide +kernel
theorem dL_law_880 : decode cL_law 880 = .ok (.aload_n 2, 1) := by decide +kernel
theorem dL_law_881 : decode cL_law 881 = .ok (.aload_n 0, 1) := by decide +kernel
theorem dL_law_882 : decode cL_law 882 = .ok (.iload_n 3, 1) := by decide +kernel
theorem dL_law_883 : decode cL_law 883 = .ok (.iconst 1, 1) := by decide +kernel
theorem dL_law_884 : decode cL_law 884 = .ok (.iadd, 1) := by decide +kernel
theorem dL_law_885 : decode cL_law 885 = .ok (.iaload, 1) := by decide +kernel
theorem dL_law_886 : decode cL_law 886 = .ok (.invokevirtual 129, 3) := by decide +kernel
theorem dL_law_889 : decode cL_law 889 = .ok (.if_icmp .eq 28, 3) := by decide +kernel
theorem dL_law_892 : decode cL_law 892 = .ok (.iconst 0, 1) := by decide +kernel
theorem dL_law_893 : decode cL_law 893 = .ok (.ireturn, 1) := by decide +kernel
theorem dL_law_894 : decode cL_law 894 = .ok (.aload_n 1, 1) := by decide +kernel
theorem dL_law_895 : decode cL_law 895 = .ok (.aload_n 0, 1) := by decide +kernel
theorem dL_law_896 : decode cL_law 896 = .ok (.iload_n 3, 1) := by decide +kernel
theorem dL_law_897 : decode cL_law 897 = .ok (.iconst 1, 1) := by decide +kernel
theorem dL_law_898 : decode cL_law 898 = .ok (.iadd, 1) := by decide +kernel
theorem dL_law_899 : decode cL_law 899 = .ok (.iaload, 1) := by decide +kernel
theorem dL_law_900 : decode cL_law 900 = .ok (.invokevirtual 130, 3) := by decide +kernel
theorem dL_law_903 : decode cL_law 903 = .ok (.aload_n 2, 1) := by decide +kernel
theorem dL_law_904 : decode cL_law 904 = .ok (.aload_n 0, 1) := by decide +kernel
theorem dL_law_905 : decode cL_law 905 = .ok (.iload_n 3, 1) := by decide +kernel
theorem dL_law_906 : decode cL_law 906 = .ok (.iconst 1, 1) := by decide +kernel
theorem dL_law_907 : decode cL_law 907 = .ok (.iadd, 1) := by decide +kernel
theorem dL_law_908 : decode cL_law 908 = .ok (.iaload, 1) := by decide +kernel
theorem dL_law_909 : decode cL_law 909 = .ok (.invokevirtual 133, 3) := by decide +kernel
theorem dL_law_912 : decode cL_law 912 = .ok (.if_icmp .eq 5, 3) := by decide +kernel
theorem dL_law_915 : decode cL_law 915 = .ok (.iconst 0, 1) := by decide +kernel
theorem dL_law_916 : decode cL_law 916 = .ok (.ireturn, 1) := by decide +kernel
theorem dL_law_917 : decode cL_law 917 = .ok (.iinc 3 4, 3) := by decide +kernel
theorem dL_law_920 : decode cL_law 920 = .ok (.goto (-902), 3) := by decide +kernel
theorem dL_law_923 : decode cL_law 923 = .ok (.iconst 1, 1) := by decide +kernel
theorem dL_law_924 : decode cL_law 924 = .ok (.ireturn, 1) := by decide +kernel
end
section
/-! THE ABSTRACT MACHINE: a heap of numbered cells (number 0: the script, 1: the static table, the rest as they were made, one behind another), frames over it. x_Rn: from this frame the method comes to its end; x_Met: a method's contract, from one heap to what holds of the next. -/
abbrev xC : Type := (Nat × vp_A) ⊕ (Nat × List Value)
abbrev xH : Type := List xC
/-- base (where our cells begin), the script's cell, the table's cell, the classes' numbers and slots, the array classes -/
abbrev xG : Type := Nat × Nat × Nat × va_G × (Nat → ClassId)
def x_sg (G : xG) : Nat → Nat
  | 0 => G.2.1
  | 1 => G.2.2.1
  | i + 2 => G.1 + i
def x_cv (G : xG) : Value → Value
  | .ref i => .ref (x_sg G i)
  | v => v
def x_ca (G : xG) (a : vp_A) : vp_A := match a with
  | (n, .inr (.inr (.inr (.inr f)))) => (n, .inr (.inr (.inr (.inr (fun j => (f j).map (x_sg G))))))
  | a => a
def x_ce (G : xG) (c : xC) : va_E := match c with
  | .inl (k, a) => .inl (G.2.2.2.2 k, x_ca G a)
  | .inr (ci, fs) => .inr (ci, fs.map (x_cv G))
def x_ws (G : xG) (h : xH) : va_W := (h.drop 2).mapIdx (fun i e => (G.1 + i, x_ce G e))
theorem x_cv_cat (G : xG) (v : Value) : (x_cv G v).category = v.category := by cases v <;> rfl
theorem x_cv_rf (G : xG) (o : Option Nat) : x_cv G (va_rf o) = va_rf (o.map (x_sg G)) := by cases o <;> rfl
theorem x_ws_get {G : xG} {h : xH} {i : Nat} {e : xC} (hi : h[i + 2]? = some e) : (x_ws G h)[i]? = some (x_sg G (i + 2), x_ce G e) := by
  unfold x_ws
  rw [List.getElem?_mapIdx, List.getElem?_drop, Nat.add_comm 2 i, hi]
  rfl
theorem x_ws_of {G : xG} {h : xH} {i : Nat} {q : Nat × va_E} (hi : (x_ws G h)[i]? = some q) : ∃ e, h[i + 2]? = some e ∧ q = (G.1 + i, x_ce G e) := by
  unfold x_ws at hi
  rw [List.getElem?_mapIdx, List.getElem?_drop, Nat.add_comm 2 i] at hi
  cases he : h[i + 2]? with
  | none => rw [he] at hi; cases hi
  | some e => rw [he] at hi; exact ⟨e, rfl, (Option.some.inj hi).symm⟩
theorem x_ws_set (G : xG) (h : xH) (i : Nat) (e : xC) : x_ws G (h.set (i + 2) e) = (x_ws G h).set i (x_sg G (i + 2), x_ce G e) := by
  apply List.ext_getElem?
  intro j
  unfold x_ws
  rw [List.getElem?_mapIdx, List.getElem?_drop, List.getElem?_set, List.getElem?_set, List.getElem?_mapIdx, List.getElem?_drop]
  by_cases hj : i = j
  · subst hj
    rw [if_pos (by omega), if_pos rfl]
    have hl : ((h.drop 2).mapIdx (fun i e => (G.1 + i, x_ce G e))).length = h.length - 2 := by simp
    rw [hl]
    by_cases hb : i < h.length - 2
    · rw [if_pos hb, if_pos (by omega)]; rfl
    · rw [if_neg hb, if_neg (by omega)]; rfl
  · rw [if_neg (by omega), if_neg hj]
theorem x_ws_push (G : xG) (h : xH) (e : xC) (h2 : 2 ≤ h.length) : x_ws G (h ++ [e]) = x_ws G h ++ [(G.1 + (h.length - 2), x_ce G e)] := by
  unfold x_ws
  rw [List.drop_append_of_le_length h2, List.mapIdx_append]
  simp
theorem x_ws_len (G : xG) (h : xH) : (x_ws G h).length = h.length - 2 := by unfold x_ws; simp
theorem x_ws_D (G : xG) (h : xH) : va_D (fun q => G.1 ≤ q) (x_ws G h) := by
  refine ⟨fun i j p q hi hj hpq => ?_, fun k q hk => ?_⟩
  · obtain ⟨e, -, rfl⟩ := x_ws_of hi
    obtain ⟨e', -, rfl⟩ := x_ws_of hj
    have : G.1 + i = G.1 + j := hpq
    omega
  · obtain ⟨e, -, rfl⟩ := x_ws_of hk
    exact Nat.le_add_right _ _
def x_tys (G : xG) : List (ClassId × FieldType) := [(G.2.2.2.2 0, .int), (G.2.2.2.2 1, .long), (G.2.2.2.2 2, .boolean), (G.2.2.2.2 3, .object "LastSentence$Night"), (G.2.2.2.2 4, .array .int), (G.2.2.2.2 5, .array .long)]
def x_lack : Nat → Int64
  | 0 => 0x5555555555555555
  | 1 => 0x3333333333333333
  | 2 => 0x0f0f0f0f0f0f0f0f
  | 3 => 0x00ff00ff00ff00ff
  | 4 => 0x0000ffff0000ffff
  | _ => 0x00000000ffffffff
/-- what lies below our cells: the script, the static table -/
def x_Ext (G : xG) (h : xH) (U : State) (H : Heap) : Prop := G.2.1 < G.1 ∧ (∃ (L : Nat) (xs : Nat → Int32), h[0]? = some (.inl (0, L, .inl xs)) ∧ va_X G.2.1 L xs U H) ∧
  h[1]? = some (.inl (1, 6, .inr (.inl x_lack))) ∧ va_T .long G.2.2.1 6 (fun j => .long (x_lack j)) (fun q => G.1 ≤ q) U H ∧ va_Z "LastSentence" "LACKING" "[J" (.ref G.2.2.1) (fun q => G.1 ≤ q) U H
/-- words that are carried one by one: nest mates' links, arrays over reference types -/
def x_nest : List Cond := [.fieldLinkNest "LastSentence$Planner" 102 "LastSentence" "LACKING" "[J" "LastSentence",
  .methodLinkNest "LastSentence" 9 yX5_init "LastSentence", .methodLinkNest "LastSentence" 18 yX1_init "LastSentence", .methodLinkNest "LastSentence" 28 yX2_init "LastSentence", .methodLinkNest "LastSentence" 54 yX3_init "LastSentence", .methodLinkNest "LastSentence" 61 yX4_init "LastSentence", .methodLinkNest "LastSentence" 68 yX0_init "LastSentence", .methodLinkNest "LastSentence$Trail" 24 yX2_init "LastSentence"]
def x_AOA (t : FieldType) (U : State) : Prop := (Cond.arrayOver (.array t)).before #[] U = true
def x_Sp (U : State) : Prop := (∀ w ∈ x_nest, va_Nw w U) ∧ va_AO "LastSentence$Night" U ∧ x_AOA .int U ∧ x_AOA .long U
theorem x_AOA.moved {t : FieldType} {u U : State} (hvm : u.vm.Alike U.vm) (h : x_AOA t u) : x_AOA t U := Jvm.Stand.arrayOver_alikeB hvm h
theorem x_Sp.warm {s U : State} (hW : s.WarmedH U.vm) (h : x_Sp s) : x_Sp U := by
  refine ⟨fun w hw => ?_, h.2.1.moved hW.alike, h.2.2.1.moved hW.alike, h.2.2.2.moved hW.alike⟩
  have h1 := h.1 w hw
  simp only [x_nest, List.mem_cons, List.not_mem_nil, or_false] at hw
  rcases hw with rfl | rfl | rfl | rfl | rfl | rfl | rfl | rfl
  · exact va_Nw.warmF hW h1
  all_goals exact va_Nw.warmM hW h1
def x_Rep (G : xG) (h : xH) (U : State) (H : Heap) : Prop := 2 ≤ h.length ∧ H.size = G.1 + (h.length - 2) ∧ va_P G.2.2.2.1 vwCl (x_ws G h) H ∧ va_K G.2.2.2.1 vwCl (x_tys G) U ∧ x_Ext G h U H ∧ x_Sp U
theorem x_Ext.kept {G : xG} {h h' : xH} {U : State} {H H1 : Heap} (e : x_Ext G h U H) (h0 : h'[0]? = h[0]?) (h1 : h'[1]? = h[1]?) (hq : ∀ q : Nat, q < H.size → ¬ G.1 ≤ q → H1[q]? = H[q]?) : x_Ext G h' U H1 := by
  obtain ⟨e1, ⟨L, xs, e2, e3⟩, e4, e5, e6⟩ := e
  have hb : G.2.1 < H.size := by
    obtain ⟨scr, g1, -⟩ := e3
    exact (Array.getElem?_eq_some_iff.mp g1).1
  exact ⟨e1, ⟨L, xs, h0.trans e2, e3.kept (hq _ hb (by omega))⟩, h1.trans e4, e5.kept hq, e6.kept hq⟩
theorem x_Ext.moved {G : xG} {h : xH} {u U : State} {H : Heap} (hvm : u.vm.Alike U.vm) (e : x_Ext G h u H) : x_Ext G h U H := by
  obtain ⟨e1, ⟨L, xs, e2, e3⟩, e4, e5, e6⟩ := e
  exact ⟨e1, ⟨L, xs, e2, e3.moved hvm⟩, e4, e5.moved hvm, e6.moved hvm⟩
theorem x_Rep.warm {G : xG} {h : xH} {s U : State} {H : Heap} (hW : s.WarmedH U.vm) (r : x_Rep G h s H) : x_Rep G h U H :=
  ⟨r.1, r.2.1, r.2.2.1, va_K.moved hW.alike r.2.2.2.1, r.2.2.2.2.1.moved hW.alike, r.2.2.2.2.2.warm hW⟩
theorem x_Rep.at {G : xG} {h : xH} {U : State} {H : Heap} (r : x_Rep G h U H) {i : Nat} {e : xC} (hi : h[i + 2]? = some e) : va_at G.2.2.2.1 vwCl (x_sg G (i + 2), x_ce G e) H := r.2.2.1 i _ (x_ws_get hi)
/-- a cell of ours is another -/
theorem x_Rep.set {G : xG} {h : xH} {U : State} {H H1 : Heap} {i : Nat} {e : xC} (r : x_Rep G h U H) (hP : va_P G.2.2.2.1 vwCl ((x_ws G h).set i (x_sg G (i + 2), x_ce G e)) H1) (hz : H1.size = H.size) (hq : ∀ q : Nat, ¬ G.1 ≤ q → H1[q]? = H[q]?) : x_Rep G (h.set (i + 2) e) U H1 := by
  obtain ⟨r1, r2, r3, r4, r5, r6⟩ := r
  refine ⟨by rw [List.length_set]; exact r1, by rw [List.length_set, hz]; exact r2, by rw [x_ws_set]; exact hP, r4, r5.kept ?_ ?_ (fun q _ h => hq q h), r6⟩
  · rw [List.getElem?_set, if_neg (by omega)]
  · rw [List.getElem?_set, if_neg (by omega)]
/-- a cell is made -/
theorem x_Rep.push {G : xG} {h : xH} {U : State} {H H1 : Heap} {e : xC} (r : x_Rep G h U H) (hz : H1.size = H.size + 1) (hq : ∀ q : Nat, q < H.size → H1[q]? = H[q]?) (he : va_at G.2.2.2.1 vwCl (G.1 + (h.length - 2), x_ce G e) H1) : x_Rep G (h ++ [e]) U H1 := by
  obtain ⟨r1, r2, r3, r4, r5, r6⟩ := r
  refine ⟨by rw [List.length_append]; omega, by rw [List.length_append, hz, r2]; simp; omega, ?_, r4, r5.kept ?_ ?_ (fun q h1 _ => hq q h1), r6⟩
  · rw [x_ws_push G h e r1]
    refine va_P.app (r3.kept (fun k q hk => hq _ ((r3 k q hk).lt))) (fun k q hk => ?_)
    have hk0 : k < 1 := (List.getElem?_eq_some_iff.mp hk).1
    have e0 : k = 0 := by omega
    subst e0
    cases hk
    exact he
  · rw [List.getElem?_append_left (by omega)]
  · rw [List.getElem?_append_left (by omega)]
def x_ok (lo : List (Option Value)) (i : Nat) : Bool := match i with
  | 0 => true
  | j + 1 => match lo[j]? with
    | some (some v) => v.category == 1
    | _ => true
def x_LH (ls : Array Slot) (n : Nat) (lo : List (Option Value)) : Prop := ls.size = n ∧ lv_wf ls ∧ ∀ (i : Nat) (v : Value), lo[i]? = some (some v) → ls[i]? = some (.val v)
def x_pairs (lo : List (Option Value)) : List (Nat × Value) := (List.range lo.length).filterMap (fun i => match lo[i]? with | some (some v) => some (i, v) | _ => none)
theorem x_pairs_mem {lo : List (Option Value)} {i : Nat} {v : Value} : (i, v) ∈ x_pairs lo ↔ lo[i]? = some (some v) := by
  unfold x_pairs
  rw [List.mem_filterMap]
  constructor
  · rintro ⟨j, hj, hm⟩
    cases h : lo[j]? with
    | none => rw [h] at hm; cases hm
    | some o =>
      cases o with
      | none => rw [h] at hm; cases hm
      | some w => rw [h] at hm; cases hm; exact h
  · intro h
    refine ⟨i, List.mem_range.mpr (List.getElem?_eq_some_iff.mp h).1, ?_⟩
    rw [h]
theorem x_LH.has {ls : Array Slot} {n : Nat} {lo : List (Option Value)} (h : x_LH ls n lo) : lv_has ls n (x_pairs lo) := ⟨h.1, h.2.1, fun q hq => h.2.2 q.1 q.2 (x_pairs_mem.mp hq)⟩
theorem x_LH.store1 {ls' : Array Slot} {n i : Nat} {v : Value} {lo : List (Option Value)} (hk : x_ok lo i = true) (h : lv_has ls' n ((i, v) :: (x_pairs lo).filter (fun q => !(q.1 == i) && !(q.1 + 1 == i && q.2.category == 2)))) : x_LH ls' n (lo.set i (some v)) := by
  refine ⟨h.1, h.2.1, fun j w hj => ?_⟩
  rw [List.getElem?_set] at hj
  by_cases e : i = j
  · subst e
    rw [if_pos rfl] at hj
    by_cases hl : i < lo.length
    · rw [if_pos hl] at hj
      cases hj
      exact h.2.2 (i, v) List.mem_cons_self
    · rw [if_neg hl] at hj; cases hj
  · rw [if_neg e] at hj
    refine h.2.2 (j, w) (List.mem_cons_of_mem _ (List.mem_filter.mpr ⟨x_pairs_mem.mpr hj, ?_⟩))
    have h1 : (j == i) = false := by simp; omega
    by_cases e2 : j + 1 = i
    · subst e2
      have hc : w.category = 1 := by
        simp only [x_ok, hj] at hk
        simpa using hk
      simp [hc]
    · have h2 : (j + 1 == i) = false := by simp; omega
      simp [h1, h2]
theorem x_LH.store2 {ls' : Array Slot} {n i : Nat} {v : Value} {lo : List (Option Value)} (hk : x_ok lo i = true) (h : lv_has ls' n ((i, v) :: (x_pairs lo).filter (fun q => !(q.1 == i) && (!(q.1 == i + 1) && !(q.1 + 1 == i && q.2.category == 2))))) : x_LH ls' n ((lo.set i (some v)).set (i + 1) none) := by
  refine ⟨h.1, h.2.1, fun j w hj => ?_⟩
  rw [List.getElem?_set] at hj
  by_cases e1 : i + 1 = j
  · rw [if_pos e1] at hj
    split at hj <;> cases hj
  · rw [if_neg e1, List.getElem?_set] at hj
    by_cases e : i = j
    · subst e
      rw [if_pos rfl] at hj
      by_cases hl : i < lo.length
      · rw [if_pos hl] at hj
        cases hj
        exact h.2.2 (i, v) List.mem_cons_self
      · rw [if_neg hl] at hj; cases hj
    · rw [if_neg e] at hj
      refine h.2.2 (j, w) (List.mem_cons_of_mem _ (List.mem_filter.mpr ⟨x_pairs_mem.mpr hj, ?_⟩))
      have h1 : (j == i) = false := by simp; omega
      have h3 : (j == i + 1) = false := by simp; omega
      by_cases e2 : j + 1 = i
      · subst e2
        have hc : w.category = 1 := by
          simp only [x_ok, hj] at hk
          simpa using hk
        simp [hc]
        omega
      · have h2 : (j + 1 == i) = false := by simp; omega
        simp [h1, h2, h3]
def x_mp (G : xG) (lo : List (Option Value)) : List (Option Value) := lo.map (Option.map (x_cv G))
theorem x_mp_get {G : xG} {lo : List (Option Value)} {i : Nat} {v : Value} (h : lo[i]? = some (some v)) : (x_mp G lo)[i]? = some (some (x_cv G v)) := by
  unfold x_mp
  rw [List.getElem?_map, h]
  rfl
theorem x_mp_set (G : xG) (lo : List (Option Value)) (i : Nat) (v : Option Value) : x_mp G (lo.set i v) = (x_mp G lo).set i (v.map (x_cv G)) := by
  unfold x_mp
  rw [List.map_set]
theorem x_mp_ok {G : xG} {lo : List (Option Value)} {i : Nat} (h : x_ok lo i = true) : x_ok (x_mp G lo) i = true := by
  cases i with
  | zero => rfl
  | succ j =>
    simp only [x_ok] at h ⊢
    cases hj : lo[j]? with
    | none => simp [x_mp, hj]
    | some o =>
      cases o with
      | none => simp [x_mp, hj]
      | some v =>
        rw [hj] at h
        simp only [x_mp_get hj, x_cv_cat]
        exact h
end
section
/-! THE RULES: an instruction, a row -/
/-- class, name, code, locals, what it returns, its room -/
abbrev xM : Type := String × MethodName × ByteArray × Nat × Option FieldType × Room
def x_words : List Cond := lw_tbl.filter goodWord
def x_isRet (rt : Option FieldType) (i : Instr) (v : Option Value) : Prop := match rt with
  | none => i = .return_ ∧ v = none
  | some .int => i = .ireturn ∧ ∃ x : Int32, v = some (.int x)
  | some .boolean => i = .ireturn ∧ ∃ x : Int32, v = some (.int x) ∧ (x = 0 ∨ x = 1)
  | some .long => i = .lreturn ∧ ∃ x : Int64, v = some (.long x)
  | _ => False
def x_Cx (p : Program) (l : Launch) (e : Env) (s : State) (m : MethodId) (args : Array Value) (below : List Frame) (meth : Method) (c : Code) (M : xM) (G : xG) (K : Option Value → xH → Prop) (Z : State → Prop) : Prop :=
  p.tables.exec = Jvm.exec ∧ c.code = M.2.2.1 ∧ c.maxLocals = M.2.2.2.1 ∧ s.vm.findClass M.1 = some m.cls ∧ (∀ w ∈ x_words, w.before args s = true) ∧ meth.name = M.2.1.name ∧
  ∀ (v : Option Value) (h' : xH) (H : Heap) (locs : List Loc) (pc : Nat) (ls : Array Slot) (i : Instr), K v h' → x_Rep G h' s H → va_S (fun q => G.1 ≤ q) s.heap H locs → x_isRet M.2.2.2.2.1 i v → decode M.2.2.1 pc = .ok (i, 1) →
    W p l e M.2.2.2.2.2 s m args below meth c H locs M.2.2.2.2.2.cells M.2.2.2.2.2.slots Z (F0 m pc ls (v.toList.map (x_cv G)))
/-- from this frame, over this heap, so much made, the method comes to an end of which K holds -/
def x_Rn (M : xM) (pc : Nat) (lo : List (Option Value)) (st : List Value) (h : xH) (cs : Nat × Nat) (K : Option Value → xH → Prop) : Prop :=
  ∀ (p : Program) (l : Launch) (e : Env) (s : State) (m : MethodId) (args : Array Value) (below : List Frame) (meth : Method) (c : Code) (G : xG) (Z : State → Prop) (H : Heap) (locs : List Loc) (ls : Array Slot), x_Cx p l e s m args below meth c M G K Z → x_Rep G h s H → va_S (fun q => G.1 ≤ q) s.heap H locs → x_LH ls M.2.2.2.1 (x_mp G lo) →
    W p l e M.2.2.2.2.2 s m args below meth c H locs cs.1 cs.2 Z (F0 m pc ls (st.map (x_cv G)))
theorem R_iconst {M : xM} {pc : Nat} {lo : List (Option Value)} {st : List Value} {h : xH} {cs : Nat × Nat} {K : Option Value → xH → Prop} {n : Int} (v : Int32) (hd : decode M.2.2.1 pc = .ok (.iconst n, 1)) (hv : Int32.ofInt n = v) (kk : x_Rn M (pc + 1) lo (.int v :: st) h cs K) : x_Rn M (pc) lo (st) h cs K := by
  intro p l e s m args below meth c G Z H locs ls C hR hS hL
  exact lv_iconst C.1 C.2.1 hd hv (kk p l e s m args below meth c G Z H locs ls C hR hS hL)
theorem R_bipush {M : xM} {pc : Nat} {lo : List (Option Value)} {st : List Value} {h : xH} {cs : Nat × Nat} {K : Option Value → xH → Prop} {n : Int} (v : Int32) (hd : decode M.2.2.1 pc = .ok (.bipush n, 2)) (hv : (Int8.ofInt n).toInt32 = v) (kk : x_Rn M (pc + 2) lo (.int v :: st) h cs K) : x_Rn M (pc) lo (st) h cs K := by
  intro p l e s m args below meth c G Z H locs ls C hR hS hL
  exact lv_bipush C.1 C.2.1 hd hv (kk p l e s m args below meth c G Z H locs ls C hR hS hL)
theorem R_sipush {M : xM} {pc : Nat} {lo : List (Option Value)} {st : List Value} {h : xH} {cs : Nat × Nat} {K : Option Value → xH → Prop} {n : Int} (v : Int32) (hd : decode M.2.2.1 pc = .ok (.sipush n, 3)) (hv : (Int16.ofInt n).toInt32 = v) (kk : x_Rn M (pc + 3) lo (.int v :: st) h cs K) : x_Rn M (pc) lo (st) h cs K := by
  intro p l e s m args below meth c G Z H locs ls C hR hS hL
  exact lv_sipush C.1 C.2.1 hd hv (kk p l e s m args below meth c G Z H locs ls C hR hS hL)
theorem R_lconst {M : xM} {pc : Nat} {lo : List (Option Value)} {st : List Value} {h : xH} {cs : Nat × Nat} {K : Option Value → xH → Prop} {n : Fin 2} (v : Int64) (hd : decode M.2.2.1 pc = .ok (.lconst n, 1)) (hv : Int64.ofNat (n : Nat) = v) (kk : x_Rn M (pc + 1) lo (.long v :: st) h cs K) : x_Rn M (pc) lo (st) h cs K := by
  intro p l e s m args below meth c G Z H locs ls C hR hS hL
  exact lv_lconst C.1 C.2.1 hd hv (kk p l e s m args below meth c G Z H locs ls C hR hS hL)
theorem R_ldc {M : xM} {pc : Nat} {lo : List (Option Value)} {st : List Value} {h : xH} {cs : Nat × Nat} {K : Option Value → xH → Prop} {n : Nat} (v : Int32) (hd : decode M.2.2.1 pc = .ok (.ldc n, 2)) (hw : Cond.constant M.1 n v ∈ x_words) (kk : x_Rn M (pc + 2) lo (.int v :: st) h cs K) : x_Rn M (pc) lo (st) h cs K := by
  intro p l e s m args below meth c G Z H locs ls C hR hS hL
  exact lv_ldc C.1 C.2.1 C.2.2.2.1 (C.2.2.2.2.1 _ hw) hd (kk p l e s m args below meth c G Z H locs ls C hR hS hL)
theorem R_ldcw {M : xM} {pc : Nat} {lo : List (Option Value)} {st : List Value} {h : xH} {cs : Nat × Nat} {K : Option Value → xH → Prop} {n : Nat} (v : Int32) (hd : decode M.2.2.1 pc = .ok (.ldc_w n, 3)) (hw : Cond.constant M.1 n v ∈ x_words) (kk : x_Rn M (pc + 3) lo (.int v :: st) h cs K) : x_Rn M (pc) lo (st) h cs K := by
  intro p l e s m args below meth c G Z H locs ls C hR hS hL
  exact lv_ldcw C.1 C.2.1 C.2.2.2.1 (C.2.2.2.2.1 _ hw) hd (kk p l e s m args below meth c G Z H locs ls C hR hS hL)
theorem R_ldc2 {M : xM} {pc : Nat} {lo : List (Option Value)} {st : List Value} {h : xH} {cs : Nat × Nat} {K : Option Value → xH → Prop} {n : Nat} (v : Int64) (hd : decode M.2.2.1 pc = .ok (.ldc2_w n, 3)) (hw : Cond.constantLong M.1 n v ∈ x_words) (kk : x_Rn M (pc + 3) lo (.long v :: st) h cs K) : x_Rn M (pc) lo (st) h cs K := by
  intro p l e s m args below meth c G Z H locs ls C hR hS hL
  exact lv_ldc2 C.1 C.2.1 C.2.2.2.1 (C.2.2.2.2.1 _ hw) hd (kk p l e s m args below meth c G Z H locs ls C hR hS hL)
theorem R_iload_n {M : xM} {pc : Nat} {lo : List (Option Value)} {st : List Value} {h : xH} {cs : Nat × Nat} {K : Option Value → xH → Prop} {k : Fin 4} {x : Int32} (hd : decode M.2.2.1 pc = .ok (.iload_n k, 1)) (hl : lo[(k : Nat)]? = some (some (.int x))) (kk : x_Rn M (pc + 1) lo (.int x :: st) h cs K) : x_Rn M (pc) lo (st) h cs K := by
  intro p l e s m args below meth c G Z H locs ls C hR hS hL
  exact lv_iload_n C.1 C.2.1 hd rfl (hL.2.2 _ _ (x_mp_get hl)) (kk p l e s m args below meth c G Z H locs ls C hR hS hL)
theorem R_iload {M : xM} {pc : Nat} {lo : List (Option Value)} {st : List Value} {h : xH} {cs : Nat × Nat} {K : Option Value → xH → Prop} {i : Nat} {x : Int32} (hd : decode M.2.2.1 pc = .ok (.iload i, 2)) (hl : lo[i]? = some (some (.int x))) (kk : x_Rn M (pc + 2) lo (.int x :: st) h cs K) : x_Rn M (pc) lo (st) h cs K := by
  intro p l e s m args below meth c G Z H locs ls C hR hS hL
  exact lv_iload C.1 C.2.1 hd (hL.2.2 _ _ (x_mp_get hl)) (kk p l e s m args below meth c G Z H locs ls C hR hS hL)
theorem R_lload_n {M : xM} {pc : Nat} {lo : List (Option Value)} {st : List Value} {h : xH} {cs : Nat × Nat} {K : Option Value → xH → Prop} {k : Fin 4} {x : Int64} (hd : decode M.2.2.1 pc = .ok (.lload_n k, 1)) (hl : lo[(k : Nat)]? = some (some (.long x))) (kk : x_Rn M (pc + 1) lo (.long x :: st) h cs K) : x_Rn M (pc) lo (st) h cs K := by
  intro p l e s m args below meth c G Z H locs ls C hR hS hL
  exact lv_lload_n C.1 C.2.1 hd rfl (hL.2.2 _ _ (x_mp_get hl)) (kk p l e s m args below meth c G Z H locs ls C hR hS hL)
theorem R_lload {M : xM} {pc : Nat} {lo : List (Option Value)} {st : List Value} {h : xH} {cs : Nat × Nat} {K : Option Value → xH → Prop} {i : Nat} {x : Int64} (hd : decode M.2.2.1 pc = .ok (.lload i, 2)) (hl : lo[i]? = some (some (.long x))) (kk : x_Rn M (pc + 2) lo (.long x :: st) h cs K) : x_Rn M (pc) lo (st) h cs K := by
  intro p l e s m args below meth c G Z H locs ls C hR hS hL
  exact lv_lload C.1 C.2.1 hd (hL.2.2 _ _ (x_mp_get hl)) (kk p l e s m args below meth c G Z H locs ls C hR hS hL)
theorem R_aload_n {M : xM} {pc : Nat} {lo : List (Option Value)} {st : List Value} {h : xH} {cs : Nat × Nat} {K : Option Value → xH → Prop} {k : Fin 4} {x : Nat} (hd : decode M.2.2.1 pc = .ok (.aload_n k, 1)) (hl : lo[(k : Nat)]? = some (some (.ref x))) (kk : x_Rn M (pc + 1) lo (.ref x :: st) h cs K) : x_Rn M (pc) lo (st) h cs K := by
  intro p l e s m args below meth c G Z H locs ls C hR hS hL
  exact lv_aload_n C.1 C.2.1 hd rfl (hL.2.2 _ _ (x_mp_get hl)) (kk p l e s m args below meth c G Z H locs ls C hR hS hL)
theorem R_aload {M : xM} {pc : Nat} {lo : List (Option Value)} {st : List Value} {h : xH} {cs : Nat × Nat} {K : Option Value → xH → Prop} {i : Nat} {x : Nat} (hd : decode M.2.2.1 pc = .ok (.aload i, 2)) (hl : lo[i]? = some (some (.ref x))) (kk : x_Rn M (pc + 2) lo (.ref x :: st) h cs K) : x_Rn M (pc) lo (st) h cs K := by
  intro p l e s m args below meth c G Z H locs ls C hR hS hL
  exact lv_aload C.1 C.2.1 hd (hL.2.2 _ _ (x_mp_get hl)) (kk p l e s m args below meth c G Z H locs ls C hR hS hL)
theorem R_istore_n {M : xM} {pc : Nat} {lo : List (Option Value)} {st : List Value} {h : xH} {cs : Nat × Nat} {K : Option Value → xH → Prop} {k : Fin 4} {x : Int32} (hd : decode M.2.2.1 pc = .ok (.istore_n k, 1)) (hi : (k : Nat) < M.2.2.2.1) (hk : x_ok lo k = true) (kk : x_Rn M (pc + 1) (lo.set (k : Nat) (some (.int x))) (st) h cs K) : x_Rn M (pc) lo (.int x :: st) h cs K := by
  intro p l e s m args below meth c G Z H locs ls C hR hS hL
  refine lv_istore_n C.1 C.2.1 hd rfl hL.has hi rfl (fun ls2 hl2 => ?_)
  exact kk p l e s m args below meth c G Z H locs ls2 C hR hS (by rw [x_mp_set]; exact x_LH.store1 (x_mp_ok hk) hl2)
theorem R_istore {M : xM} {pc : Nat} {lo : List (Option Value)} {st : List Value} {h : xH} {cs : Nat × Nat} {K : Option Value → xH → Prop} {i : Nat} {x : Int32} (hd : decode M.2.2.1 pc = .ok (.istore i, 2)) (hi : i < M.2.2.2.1) (hk : x_ok lo i = true) (kk : x_Rn M (pc + 2) (lo.set i (some (.int x))) (st) h cs K) : x_Rn M (pc) lo (.int x :: st) h cs K := by
  intro p l e s m args below meth c G Z H locs ls C hR hS hL
  refine lv_istore C.1 C.2.1 hd hL.has hi rfl (fun ls2 hl2 => ?_)
  exact kk p l e s m args below meth c G Z H locs ls2 C hR hS (by rw [x_mp_set]; exact x_LH.store1 (x_mp_ok hk) hl2)
theorem R_astore_n {M : xM} {pc : Nat} {lo : List (Option Value)} {st : List Value} {h : xH} {cs : Nat × Nat} {K : Option Value → xH → Prop} {k : Fin 4} {x : Nat} (hd : decode M.2.2.1 pc = .ok (.astore_n k, 1)) (hi : (k : Nat) < M.2.2.2.1) (hk : x_ok lo k = true) (kk : x_Rn M (pc + 1) (lo.set (k : Nat) (some (.ref x))) (st) h cs K) : x_Rn M (pc) lo (.ref x :: st) h cs K := by
  intro p l e s m args below meth c G Z H locs ls C hR hS hL
  refine lv_astore_n C.1 C.2.1 hd rfl hL.has hi rfl (fun ls2 hl2 => ?_)
  exact kk p l e s m args below meth c G Z H locs ls2 C hR hS (by rw [x_mp_set]; exact x_LH.store1 (x_mp_ok hk) hl2)
theorem R_astore {M : xM} {pc : Nat} {lo : List (Option Value)} {st : List Value} {h : xH} {cs : Nat × Nat} {K : Option Value → xH → Prop} {i : Nat} {x : Nat} (hd : decode M.2.2.1 pc = .ok (.astore i, 2)) (hi : i < M.2.2.2.1) (hk : x_ok lo i = true) (kk : x_Rn M (pc + 2) (lo.set i (some (.ref x))) (st) h cs K) : x_Rn M (pc) lo (.ref x :: st) h cs K := by
  intro p l e s m args below meth c G Z H locs ls C hR hS hL
  refine lv_astore C.1 C.2.1 hd hL.has hi rfl (fun ls2 hl2 => ?_)
  exact kk p l e s m args below meth c G Z H locs ls2 C hR hS (by rw [x_mp_set]; exact x_LH.store1 (x_mp_ok hk) hl2)
theorem R_lstore_n {M : xM} {pc : Nat} {lo : List (Option Value)} {st : List Value} {h : xH} {cs : Nat × Nat} {K : Option Value → xH → Prop} {k : Fin 4} {x : Int64} (hd : decode M.2.2.1 pc = .ok (.lstore_n k, 1)) (hi : (k : Nat) + 1 < M.2.2.2.1) (hk : x_ok lo k = true) (kk : x_Rn M (pc + 1) ((lo.set (k : Nat) (some (.long x))).set ((k : Nat) + 1) none) (st) h cs K) : x_Rn M (pc) lo (.long x :: st) h cs K := by
  intro p l e s m args below meth c G Z H locs ls C hR hS hL
  refine lv_lstore_n C.1 C.2.1 hd rfl hL.has hi rfl (fun ls2 hl2 => ?_)
  exact kk p l e s m args below meth c G Z H locs ls2 C hR hS (by rw [x_mp_set, x_mp_set]; exact x_LH.store2 (x_mp_ok hk) hl2)
theorem R_lstore {M : xM} {pc : Nat} {lo : List (Option Value)} {st : List Value} {h : xH} {cs : Nat × Nat} {K : Option Value → xH → Prop} {i : Nat} {x : Int64} (hd : decode M.2.2.1 pc = .ok (.lstore i, 2)) (hi : i + 1 < M.2.2.2.1) (hk : x_ok lo i = true) (kk : x_Rn M (pc + 2) ((lo.set i (some (.long x))).set (i + 1) none) (st) h cs K) : x_Rn M (pc) lo (.long x :: st) h cs K := by
  intro p l e s m args below meth c G Z H locs ls C hR hS hL
  refine lv_lstore C.1 C.2.1 hd hL.has hi rfl (fun ls2 hl2 => ?_)
  exact kk p l e s m args below meth c G Z H locs ls2 C hR hS (by rw [x_mp_set, x_mp_set]; exact x_LH.store2 (x_mp_ok hk) hl2)
theorem x_pairs_at {lo : List (Option Value)} {i : Nat} {v : Value} (h : lo[i]? = some (some v)) : ∃ k : Nat, (x_pairs lo)[k]? = some (i, v) := List.getElem?_of_mem (x_pairs_mem.mpr h)
theorem R_iinc {M : xM} {pc : Nat} {lo : List (Option Value)} {st : List Value} {h : xH} {cs : Nat × Nat} {K : Option Value → xH → Prop} {i : Nat} {n : Int} {x : Int32} (v : Int32) (hd : decode M.2.2.1 pc = .ok (.iinc i n, 3)) (hl : lo[i]? = some (some (.int x))) (hv : x + Int32.ofInt n = v) (hi : i < M.2.2.2.1) (hk : x_ok lo i = true) (kk : x_Rn M (pc + 3) (lo.set i (some (.int v))) (st) h cs K) : x_Rn M (pc) lo (st) h cs K := by
  intro p l e s m args below meth c G Z H locs ls C hR hS hL
  obtain ⟨j, hj⟩ := x_pairs_at (x_mp_get (G := G) hl)
  refine lv_iinc C.1 C.2.1 hd hL.has hj hv hi rfl (fun ls2 hl2 => ?_)
  exact kk p l e s m args below meth c G Z H locs ls2 C hR hS (by rw [x_mp_set]; exact x_LH.store1 (x_mp_ok hk) hl2)
theorem R_iadd {M : xM} {pc : Nat} {lo : List (Option Value)} {st : List Value} {h : xH} {cs : Nat × Nat} {K : Option Value → xH → Prop} {x y : Int32} (hd : decode M.2.2.1 pc = .ok (.iadd, 1)) (kk : x_Rn M (pc + 1) lo (.int (x + y) :: st) h cs K) : x_Rn M (pc) lo (.int y :: .int x :: st) h cs K := by
  intro p l e s m args below meth c G Z H locs ls C hR hS hL
  exact lv_iadd C.1 C.2.1 hd (kk p l e s m args below meth c G Z H locs ls C hR hS hL)
theorem R_isub {M : xM} {pc : Nat} {lo : List (Option Value)} {st : List Value} {h : xH} {cs : Nat × Nat} {K : Option Value → xH → Prop} {x y : Int32} (hd : decode M.2.2.1 pc = .ok (.isub, 1)) (kk : x_Rn M (pc + 1) lo (.int (x - y) :: st) h cs K) : x_Rn M (pc) lo (.int y :: .int x :: st) h cs K := by
  intro p l e s m args below meth c G Z H locs ls C hR hS hL
  exact lv_isub C.1 C.2.1 hd (kk p l e s m args below meth c G Z H locs ls C hR hS hL)
theorem R_imul {M : xM} {pc : Nat} {lo : List (Option Value)} {st : List Value} {h : xH} {cs : Nat × Nat} {K : Option Value → xH → Prop} {x y : Int32} (hd : decode M.2.2.1 pc = .ok (.imul, 1)) (kk : x_Rn M (pc + 1) lo (.int (x * y) :: st) h cs K) : x_Rn M (pc) lo (.int y :: .int x :: st) h cs K := by
  intro p l e s m args below meth c G Z H locs ls C hR hS hL
  exact lv_imul C.1 C.2.1 hd (kk p l e s m args below meth c G Z H locs ls C hR hS hL)
theorem R_iand {M : xM} {pc : Nat} {lo : List (Option Value)} {st : List Value} {h : xH} {cs : Nat × Nat} {K : Option Value → xH → Prop} {x y : Int32} (hd : decode M.2.2.1 pc = .ok (.iand, 1)) (kk : x_Rn M (pc + 1) lo (.int (x &&& y) :: st) h cs K) : x_Rn M (pc) lo (.int y :: .int x :: st) h cs K := by
  intro p l e s m args below meth c G Z H locs ls C hR hS hL
  exact lv_iand C.1 C.2.1 hd (kk p l e s m args below meth c G Z H locs ls C hR hS hL)
theorem R_ior {M : xM} {pc : Nat} {lo : List (Option Value)} {st : List Value} {h : xH} {cs : Nat × Nat} {K : Option Value → xH → Prop} {x y : Int32} (hd : decode M.2.2.1 pc = .ok (.ior, 1)) (kk : x_Rn M (pc + 1) lo (.int (x ||| y) :: st) h cs K) : x_Rn M (pc) lo (.int y :: .int x :: st) h cs K := by
  intro p l e s m args below meth c G Z H locs ls C hR hS hL
  exact lv_ior C.1 C.2.1 hd (kk p l e s m args below meth c G Z H locs ls C hR hS hL)
theorem R_ixor {M : xM} {pc : Nat} {lo : List (Option Value)} {st : List Value} {h : xH} {cs : Nat × Nat} {K : Option Value → xH → Prop} {x y : Int32} (hd : decode M.2.2.1 pc = .ok (.ixor, 1)) (kk : x_Rn M (pc + 1) lo (.int (x ^^^ y) :: st) h cs K) : x_Rn M (pc) lo (.int y :: .int x :: st) h cs K := by
  intro p l e s m args below meth c G Z H locs ls C hR hS hL
  exact lv_ixor C.1 C.2.1 hd (kk p l e s m args below meth c G Z H locs ls C hR hS hL)
theorem R_ishl {M : xM} {pc : Nat} {lo : List (Option Value)} {st : List Value} {h : xH} {cs : Nat × Nat} {K : Option Value → xH → Prop} {x y : Int32} (hd : decode M.2.2.1 pc = .ok (.ishl, 1)) (kk : x_Rn M (pc + 1) lo (.int (x <<< (y &&& 31)) :: st) h cs K) : x_Rn M (pc) lo (.int y :: .int x :: st) h cs K := by
  intro p l e s m args below meth c G Z H locs ls C hR hS hL
  exact lv_ishl C.1 C.2.1 hd (kk p l e s m args below meth c G Z H locs ls C hR hS hL)
theorem R_ishr {M : xM} {pc : Nat} {lo : List (Option Value)} {st : List Value} {h : xH} {cs : Nat × Nat} {K : Option Value → xH → Prop} {x y : Int32} (hd : decode M.2.2.1 pc = .ok (.ishr, 1)) (kk : x_Rn M (pc + 1) lo (.int (x >>> (y &&& 31)) :: st) h cs K) : x_Rn M (pc) lo (.int y :: .int x :: st) h cs K := by
  intro p l e s m args below meth c G Z H locs ls C hR hS hL
  exact lv_ishr C.1 C.2.1 hd (kk p l e s m args below meth c G Z H locs ls C hR hS hL)
theorem R_idiv {M : xM} {pc : Nat} {lo : List (Option Value)} {st : List Value} {h : xH} {cs : Nat × Nat} {K : Option Value → xH → Prop} {x y : Int32} (hd : decode M.2.2.1 pc = .ok (.idiv, 1)) (hne : ¬ y = 0) (kk : x_Rn M (pc + 1) lo (.int (x / y) :: st) h cs K) : x_Rn M (pc) lo (.int y :: .int x :: st) h cs K := by
  intro p l e s m args below meth c G Z H locs ls C hR hS hL
  exact lv_idiv C.1 C.2.1 hd hne (kk p l e s m args below meth c G Z H locs ls C hR hS hL)
theorem R_irem {M : xM} {pc : Nat} {lo : List (Option Value)} {st : List Value} {h : xH} {cs : Nat × Nat} {K : Option Value → xH → Prop} {x y : Int32} (hd : decode M.2.2.1 pc = .ok (.irem, 1)) (hne : ¬ y = 0) (kk : x_Rn M (pc + 1) lo (.int (x - x / y * y) :: st) h cs K) : x_Rn M (pc) lo (.int y :: .int x :: st) h cs K := by
  intro p l e s m args below meth c G Z H locs ls C hR hS hL
  exact lv_irem C.1 C.2.1 hd hne (kk p l e s m args below meth c G Z H locs ls C hR hS hL)
theorem R_ladd {M : xM} {pc : Nat} {lo : List (Option Value)} {st : List Value} {h : xH} {cs : Nat × Nat} {K : Option Value → xH → Prop} {x y : Int64} (hd : decode M.2.2.1 pc = .ok (.ladd, 1)) (kk : x_Rn M (pc + 1) lo (.long (x + y) :: st) h cs K) : x_Rn M (pc) lo (.long y :: .long x :: st) h cs K := by
  intro p l e s m args below meth c G Z H locs ls C hR hS hL
  exact lv_ladd C.1 C.2.1 hd (kk p l e s m args below meth c G Z H locs ls C hR hS hL)
theorem R_lsub {M : xM} {pc : Nat} {lo : List (Option Value)} {st : List Value} {h : xH} {cs : Nat × Nat} {K : Option Value → xH → Prop} {x y : Int64} (hd : decode M.2.2.1 pc = .ok (.lsub, 1)) (kk : x_Rn M (pc + 1) lo (.long (x - y) :: st) h cs K) : x_Rn M (pc) lo (.long y :: .long x :: st) h cs K := by
  intro p l e s m args below meth c G Z H locs ls C hR hS hL
  exact lv_lsub C.1 C.2.1 hd (kk p l e s m args below meth c G Z H locs ls C hR hS hL)
theorem R_lmul {M : xM} {pc : Nat} {lo : List (Option Value)} {st : List Value} {h : xH} {cs : Nat × Nat} {K : Option Value → xH → Prop} {x y : Int64} (hd : decode M.2.2.1 pc = .ok (.lmul, 1)) (kk : x_Rn M (pc + 1) lo (.long (x * y) :: st) h cs K) : x_Rn M (pc) lo (.long y :: .long x :: st) h cs K := by
  intro p l e s m args below meth c G Z H locs ls C hR hS hL
  exact lv_lmul C.1 C.2.1 hd (kk p l e s m args below meth c G Z H locs ls C hR hS hL)
theorem R_land {M : xM} {pc : Nat} {lo : List (Option Value)} {st : List Value} {h : xH} {cs : Nat × Nat} {K : Option Value → xH → Prop} {x y : Int64} (hd : decode M.2.2.1 pc = .ok (.land, 1)) (kk : x_Rn M (pc + 1) lo (.long (x &&& y) :: st) h cs K) : x_Rn M (pc) lo (.long y :: .long x :: st) h cs K := by
  intro p l e s m args below meth c G Z H locs ls C hR hS hL
  exact lv_land C.1 C.2.1 hd (kk p l e s m args below meth c G Z H locs ls C hR hS hL)
theorem R_lor {M : xM} {pc : Nat} {lo : List (Option Value)} {st : List Value} {h : xH} {cs : Nat × Nat} {K : Option Value → xH → Prop} {x y : Int64} (hd : decode M.2.2.1 pc = .ok (.lor, 1)) (kk : x_Rn M (pc + 1) lo (.long (x ||| y) :: st) h cs K) : x_Rn M (pc) lo (.long y :: .long x :: st) h cs K := by
  intro p l e s m args below meth c G Z H locs ls C hR hS hL
  exact lv_lor C.1 C.2.1 hd (kk p l e s m args below meth c G Z H locs ls C hR hS hL)
theorem R_ldiv {M : xM} {pc : Nat} {lo : List (Option Value)} {st : List Value} {h : xH} {cs : Nat × Nat} {K : Option Value → xH → Prop} {x y : Int64} (hd : decode M.2.2.1 pc = .ok (.ldiv, 1)) (hne : ¬ y = 0) (kk : x_Rn M (pc + 1) lo (.long (x / y) :: st) h cs K) : x_Rn M (pc) lo (.long y :: .long x :: st) h cs K := by
  intro p l e s m args below meth c G Z H locs ls C hR hS hL
  exact lv_ldiv C.1 C.2.1 hd hne (kk p l e s m args below meth c G Z H locs ls C hR hS hL)
theorem R_lrem {M : xM} {pc : Nat} {lo : List (Option Value)} {st : List Value} {h : xH} {cs : Nat × Nat} {K : Option Value → xH → Prop} {x y : Int64} (hd : decode M.2.2.1 pc = .ok (.lrem, 1)) (hne : ¬ y = 0) (kk : x_Rn M (pc + 1) lo (.long (x - x / y * y) :: st) h cs K) : x_Rn M (pc) lo (.long y :: .long x :: st) h cs K := by
  intro p l e s m args below meth c G Z H locs ls C hR hS hL
  exact lv_lrem C.1 C.2.1 hd hne (kk p l e s m args below meth c G Z H locs ls C hR hS hL)
theorem R_i2l {M : xM} {pc : Nat} {lo : List (Option Value)} {st : List Value} {h : xH} {cs : Nat × Nat} {K : Option Value → xH → Prop} {x : Int32} (hd : decode M.2.2.1 pc = .ok (.i2l, 1)) (kk : x_Rn M (pc + 1) lo (.long x.toInt64 :: st) h cs K) : x_Rn M (pc) lo (.int x :: st) h cs K := by
  intro p l e s m args below meth c G Z H locs ls C hR hS hL
  exact lv_i2l C.1 C.2.1 hd rfl (kk p l e s m args below meth c G Z H locs ls C hR hS hL)
theorem R_l2i {M : xM} {pc : Nat} {lo : List (Option Value)} {st : List Value} {h : xH} {cs : Nat × Nat} {K : Option Value → xH → Prop} {x : Int64} (hd : decode M.2.2.1 pc = .ok (.l2i, 1)) (kk : x_Rn M (pc + 1) lo (.int x.toInt32 :: st) h cs K) : x_Rn M (pc) lo (.long x :: st) h cs K := by
  intro p l e s m args below meth c G Z H locs ls C hR hS hL
  exact lv_l2i C.1 C.2.1 hd rfl (kk p l e s m args below meth c G Z H locs ls C hR hS hL)
theorem R_iushr {M : xM} {pc : Nat} {lo : List (Option Value)} {st : List Value} {h : xH} {cs : Nat × Nat} {K : Option Value → xH → Prop} {x y : Int32} (hd : decode M.2.2.1 pc = .ok (.iushr, 1)) (kk : x_Rn M (pc + 1) lo (.int (x.toUInt32 >>> (y.toUInt32 &&& Int32.toUInt32 31)).toInt32 :: st) h cs K) : x_Rn M (pc) lo (.int y :: .int x :: st) h cs K := by
  intro p l e s m args below meth c G Z H locs ls C hR hS hL
  exact lv_iushr C.1 C.2.1 hd rfl (kk p l e s m args below meth c G Z H locs ls C hR hS hL)
theorem R_lushr {M : xM} {pc : Nat} {lo : List (Option Value)} {st : List Value} {h : xH} {cs : Nat × Nat} {K : Option Value → xH → Prop} {x : Int64} {y : Int32} (hd : decode M.2.2.1 pc = .ok (.lushr, 1)) (kk : x_Rn M (pc + 1) lo (.long (x.toUInt64 >>> (y.toInt64.toUInt64 &&& Int64.toUInt64 63)).toInt64 :: st) h cs K) : x_Rn M (pc) lo (.int y :: .long x :: st) h cs K := by
  intro p l e s m args below meth c G Z H locs ls C hR hS hL
  exact lv_lushr C.1 C.2.1 hd rfl (kk p l e s m args below meth c G Z H locs ls C hR hS hL)
theorem R_lshl {M : xM} {pc : Nat} {lo : List (Option Value)} {st : List Value} {h : xH} {cs : Nat × Nat} {K : Option Value → xH → Prop} {x : Int64} {y : Int32} (hd : decode M.2.2.1 pc = .ok (.lshl, 1)) (kk : x_Rn M (pc + 1) lo (.long (x <<< (y.toInt64 &&& 63)) :: st) h cs K) : x_Rn M (pc) lo (.int y :: .long x :: st) h cs K := by
  intro p l e s m args below meth c G Z H locs ls C hR hS hL
  exact lv_lshl C.1 C.2.1 hd rfl (kk p l e s m args below meth c G Z H locs ls C hR hS hL)
theorem R_lcmp {M : xM} {pc : Nat} {lo : List (Option Value)} {st : List Value} {h : xH} {cs : Nat × Nat} {K : Option Value → xH → Prop} {x y : Int64} (hd : decode M.2.2.1 pc = .ok (.lcmp, 1)) (kk : x_Rn M (pc + 1) lo (.int (lg_cmp x y) :: st) h cs K) : x_Rn M (pc) lo (.long y :: .long x :: st) h cs K := by
  intro p l e s m args below meth c G Z H locs ls C hR hS hL
  exact W.lcmp C.1 C.2.1 hd (kk p l e s m args below meth c G Z H locs ls C hR hS hL)
theorem R_dup {M : xM} {pc : Nat} {lo : List (Option Value)} {st : List Value} {h : xH} {cs : Nat × Nat} {K : Option Value → xH → Prop} {v : Value} (hd : decode M.2.2.1 pc = .ok (.dup, 1)) (hv : v.category = 1) (kk : x_Rn M (pc + 1) lo (v :: v :: st) h cs K) : x_Rn M (pc) lo (v :: st) h cs K := by
  intro p l e s m args below meth c G Z H locs ls C hR hS hL
  exact lv_dup C.1 C.2.1 hd (by rw [x_cv_cat]; exact hv) (kk p l e s m args below meth c G Z H locs ls C hR hS hL)
theorem R_dup2 {M : xM} {pc : Nat} {lo : List (Option Value)} {st : List Value} {h : xH} {cs : Nat × Nat} {K : Option Value → xH → Prop} {v w : Value} (hd : decode M.2.2.1 pc = .ok (.dup2, 1)) (hv : v.category = 1) (hw : w.category = 1) (kk : x_Rn M (pc + 1) lo (v :: w :: v :: w :: st) h cs K) : x_Rn M (pc) lo (v :: w :: st) h cs K := by
  intro p l e s m args below meth c G Z H locs ls C hR hS hL
  exact lv_dup2_11 C.1 C.2.1 hd (by rw [x_cv_cat]; exact hv) (by rw [x_cv_cat]; exact hw) (kk p l e s m args below meth c G Z H locs ls C hR hS hL)
theorem R_ifeq {M : xM} {pc : Nat} {lo : List (Option Value)} {st : List Value} {h : xH} {cs : Nat × Nat} {K : Option Value → xH → Prop} {x : Int32} {off : Int} (tgt : Nat) (hd : decode M.2.2.1 pc = .ok (.ifCond .eq off, 3)) (ht : (pc : Int) + off = (tgt : Int)) (kt : x = 0 → x_Rn M (tgt) lo (st) h cs K) (kf : ¬ x = 0 → x_Rn M (pc + 3) lo (st) h cs K) : x_Rn M (pc) lo (.int x :: st) h cs K := by
  intro p l e s m args below meth c G Z H locs ls C hR hS hL
  exact lv_if_eq C.1 C.2.1 hd ht (fun z => kt z p l e s m args below meth c G Z H locs ls C hR hS hL) (fun z => kf z p l e s m args below meth c G Z H locs ls C hR hS hL)
theorem R_ifne {M : xM} {pc : Nat} {lo : List (Option Value)} {st : List Value} {h : xH} {cs : Nat × Nat} {K : Option Value → xH → Prop} {x : Int32} {off : Int} (tgt : Nat) (hd : decode M.2.2.1 pc = .ok (.ifCond .ne off, 3)) (ht : (pc : Int) + off = (tgt : Int)) (kt : ¬ x = 0 → x_Rn M (tgt) lo (st) h cs K) (kf : x = 0 → x_Rn M (pc + 3) lo (st) h cs K) : x_Rn M (pc) lo (.int x :: st) h cs K := by
  intro p l e s m args below meth c G Z H locs ls C hR hS hL
  exact lv_if_ne C.1 C.2.1 hd ht (fun z => kt z p l e s m args below meth c G Z H locs ls C hR hS hL) (fun z => kf z p l e s m args below meth c G Z H locs ls C hR hS hL)
theorem R_iflt {M : xM} {pc : Nat} {lo : List (Option Value)} {st : List Value} {h : xH} {cs : Nat × Nat} {K : Option Value → xH → Prop} {x : Int32} {off : Int} (tgt : Nat) (hd : decode M.2.2.1 pc = .ok (.ifCond .lt off, 3)) (ht : (pc : Int) + off = (tgt : Int)) (kt : x < 0 → x_Rn M (tgt) lo (st) h cs K) (kf : ¬ x < 0 → x_Rn M (pc + 3) lo (st) h cs K) : x_Rn M (pc) lo (.int x :: st) h cs K := by
  intro p l e s m args below meth c G Z H locs ls C hR hS hL
  exact lv_if_lt C.1 C.2.1 hd ht (fun z => kt z p l e s m args below meth c G Z H locs ls C hR hS hL) (fun z => kf z p l e s m args below meth c G Z H locs ls C hR hS hL)
theorem R_ifge {M : xM} {pc : Nat} {lo : List (Option Value)} {st : List Value} {h : xH} {cs : Nat × Nat} {K : Option Value → xH → Prop} {x : Int32} {off : Int} (tgt : Nat) (hd : decode M.2.2.1 pc = .ok (.ifCond .ge off, 3)) (ht : (pc : Int) + off = (tgt : Int)) (kt : 0 ≤ x → x_Rn M (tgt) lo (st) h cs K) (kf : ¬ 0 ≤ x → x_Rn M (pc + 3) lo (st) h cs K) : x_Rn M (pc) lo (.int x :: st) h cs K := by
  intro p l e s m args below meth c G Z H locs ls C hR hS hL
  exact lv_if_ge C.1 C.2.1 hd ht (fun z => kt z p l e s m args below meth c G Z H locs ls C hR hS hL) (fun z => kf z p l e s m args below meth c G Z H locs ls C hR hS hL)
theorem R_ifgt {M : xM} {pc : Nat} {lo : List (Option Value)} {st : List Value} {h : xH} {cs : Nat × Nat} {K : Option Value → xH → Prop} {x : Int32} {off : Int} (tgt : Nat) (hd : decode M.2.2.1 pc = .ok (.ifCond .gt off, 3)) (ht : (pc : Int) + off = (tgt : Int)) (kt : 0 < x → x_Rn M (tgt) lo (st) h cs K) (kf : ¬ 0 < x → x_Rn M (pc + 3) lo (st) h cs K) : x_Rn M (pc) lo (.int x :: st) h cs K := by
  intro p l e s m args below meth c G Z H locs ls C hR hS hL
  exact lv_if_gt C.1 C.2.1 hd ht (fun z => kt z p l e s m args below meth c G Z H locs ls C hR hS hL) (fun z => kf z p l e s m args below meth c G Z H locs ls C hR hS hL)
theorem R_ifle {M : xM} {pc : Nat} {lo : List (Option Value)} {st : List Value} {h : xH} {cs : Nat × Nat} {K : Option Value → xH → Prop} {x : Int32} {off : Int} (tgt : Nat) (hd : decode M.2.2.1 pc = .ok (.ifCond .le off, 3)) (ht : (pc : Int) + off = (tgt : Int)) (kt : x ≤ 0 → x_Rn M (tgt) lo (st) h cs K) (kf : ¬ x ≤ 0 → x_Rn M (pc + 3) lo (st) h cs K) : x_Rn M (pc) lo (.int x :: st) h cs K := by
  intro p l e s m args below meth c G Z H locs ls C hR hS hL
  exact lv_if_le C.1 C.2.1 hd ht (fun z => kt z p l e s m args below meth c G Z H locs ls C hR hS hL) (fun z => kf z p l e s m args below meth c G Z H locs ls C hR hS hL)
theorem R_icmpeq {M : xM} {pc : Nat} {lo : List (Option Value)} {st : List Value} {h : xH} {cs : Nat × Nat} {K : Option Value → xH → Prop} {x y : Int32} {off : Int} (tgt : Nat) (hd : decode M.2.2.1 pc = .ok (.if_icmp .eq off, 3)) (ht : (pc : Int) + off = (tgt : Int)) (kt : x = y → x_Rn M (tgt) lo (st) h cs K) (kf : ¬ x = y → x_Rn M (pc + 3) lo (st) h cs K) : x_Rn M (pc) lo (.int y :: .int x :: st) h cs K := by
  intro p l e s m args below meth c G Z H locs ls C hR hS hL
  exact lv_icmp_eq C.1 C.2.1 hd ht (fun z => kt z p l e s m args below meth c G Z H locs ls C hR hS hL) (fun z => kf z p l e s m args below meth c G Z H locs ls C hR hS hL)
theorem R_icmpne {M : xM} {pc : Nat} {lo : List (Option Value)} {st : List Value} {h : xH} {cs : Nat × Nat} {K : Option Value → xH → Prop} {x y : Int32} {off : Int} (tgt : Nat) (hd : decode M.2.2.1 pc = .ok (.if_icmp .ne off, 3)) (ht : (pc : Int) + off = (tgt : Int)) (kt : ¬ x = y → x_Rn M (tgt) lo (st) h cs K) (kf : x = y → x_Rn M (pc + 3) lo (st) h cs K) : x_Rn M (pc) lo (.int y :: .int x :: st) h cs K := by
  intro p l e s m args below meth c G Z H locs ls C hR hS hL
  exact lv_icmp_ne C.1 C.2.1 hd ht (fun z => kt z p l e s m args below meth c G Z H locs ls C hR hS hL) (fun z => kf z p l e s m args below meth c G Z H locs ls C hR hS hL)
theorem R_icmplt {M : xM} {pc : Nat} {lo : List (Option Value)} {st : List Value} {h : xH} {cs : Nat × Nat} {K : Option Value → xH → Prop} {x y : Int32} {off : Int} (tgt : Nat) (hd : decode M.2.2.1 pc = .ok (.if_icmp .lt off, 3)) (ht : (pc : Int) + off = (tgt : Int)) (kt : x < y → x_Rn M (tgt) lo (st) h cs K) (kf : ¬ x < y → x_Rn M (pc + 3) lo (st) h cs K) : x_Rn M (pc) lo (.int y :: .int x :: st) h cs K := by
  intro p l e s m args below meth c G Z H locs ls C hR hS hL
  exact lv_icmp_lt C.1 C.2.1 hd ht (fun z => kt z p l e s m args below meth c G Z H locs ls C hR hS hL) (fun z => kf z p l e s m args below meth c G Z H locs ls C hR hS hL)
theorem R_icmpge {M : xM} {pc : Nat} {lo : List (Option Value)} {st : List Value} {h : xH} {cs : Nat × Nat} {K : Option Value → xH → Prop} {x y : Int32} {off : Int} (tgt : Nat) (hd : decode M.2.2.1 pc = .ok (.if_icmp .ge off, 3)) (ht : (pc : Int) + off = (tgt : Int)) (kt : y ≤ x → x_Rn M (tgt) lo (st) h cs K) (kf : ¬ y ≤ x → x_Rn M (pc + 3) lo (st) h cs K) : x_Rn M (pc) lo (.int y :: .int x :: st) h cs K := by
  intro p l e s m args below meth c G Z H locs ls C hR hS hL
  exact lv_icmp_ge C.1 C.2.1 hd ht (fun z => kt z p l e s m args below meth c G Z H locs ls C hR hS hL) (fun z => kf z p l e s m args below meth c G Z H locs ls C hR hS hL)
theorem R_icmpgt {M : xM} {pc : Nat} {lo : List (Option Value)} {st : List Value} {h : xH} {cs : Nat × Nat} {K : Option Value → xH → Prop} {x y : Int32} {off : Int} (tgt : Nat) (hd : decode M.2.2.1 pc = .ok (.if_icmp .gt off, 3)) (ht : (pc : Int) + off = (tgt : Int)) (kt : y < x → x_Rn M (tgt) lo (st) h cs K) (kf : ¬ y < x → x_Rn M (pc + 3) lo (st) h cs K) : x_Rn M (pc) lo (.int y :: .int x :: st) h cs K := by
  intro p l e s m args below meth c G Z H locs ls C hR hS hL
  exact lv_icmp_gt C.1 C.2.1 hd ht (fun z => kt z p l e s m args below meth c G Z H locs ls C hR hS hL) (fun z => kf z p l e s m args below meth c G Z H locs ls C hR hS hL)
theorem R_icmple {M : xM} {pc : Nat} {lo : List (Option Value)} {st : List Value} {h : xH} {cs : Nat × Nat} {K : Option Value → xH → Prop} {x y : Int32} {off : Int} (tgt : Nat) (hd : decode M.2.2.1 pc = .ok (.if_icmp .le off, 3)) (ht : (pc : Int) + off = (tgt : Int)) (kt : x ≤ y → x_Rn M (tgt) lo (st) h cs K) (kf : ¬ x ≤ y → x_Rn M (pc + 3) lo (st) h cs K) : x_Rn M (pc) lo (.int y :: .int x :: st) h cs K := by
  intro p l e s m args below meth c G Z H locs ls C hR hS hL
  exact lv_icmp_le C.1 C.2.1 hd ht (fun z => kt z p l e s m args below meth c G Z H locs ls C hR hS hL) (fun z => kf z p l e s m args below meth c G Z H locs ls C hR hS hL)
theorem R_goto {M : xM} {pc : Nat} {lo : List (Option Value)} {st : List Value} {h : xH} {cs : Nat × Nat} {K : Option Value → xH → Prop} {off : Int} (tgt : Nat) (hd : decode M.2.2.1 pc = .ok (.goto off, 3)) (ht : (pc : Int) + off = (tgt : Int)) (kk : x_Rn M (tgt) lo (st) h cs K) : x_Rn M (pc) lo (st) h cs K := by
  intro p l e s m args below meth c G Z H locs ls C hR hS hL
  exact lv_goto C.1 C.2.1 hd ht (kk p l e s m args below meth c G Z H locs ls C hR hS hL)
theorem R_tin {M : xM} {pc : Nat} {lo : List (Option Value)} {st : List Value} {h : xH} {cs : Nat × Nat} {K : Option Value → xH → Prop} {dflt lw hi : Int} {offs : Array Int} {len : Nat} {x : Int32} {off : Int} (tgt : Nat) (hd : decode M.2.2.1 pc = .ok (.tableswitch dflt lw hi offs, len)) (h1 : ¬ x.toInt < lw) (h2 : ¬ hi < x.toInt) (ho : offs[(x.toInt - lw).toNat]? = some off) (ht : (pc : Int) + off = (tgt : Int)) (kk : x_Rn M (tgt) lo (st) h cs K) : x_Rn M (pc) lo (.int x :: st) h cs K := by
  intro p l e s m args below meth c G Z H locs ls C hR hS hL
  exact lv_tableIn C.1 C.2.1 hd h1 h2 ho ht (kk p l e s m args below meth c G Z H locs ls C hR hS hL)
theorem R_tout {M : xM} {pc : Nat} {lo : List (Option Value)} {st : List Value} {h : xH} {cs : Nat × Nat} {K : Option Value → xH → Prop} {dflt lw hi : Int} {offs : Array Int} {len : Nat} {x : Int32} (tgt : Nat) (hd : decode M.2.2.1 pc = .ok (.tableswitch dflt lw hi offs, len)) (h1 : x.toInt < lw ∨ hi < x.toInt) (ht : (pc : Int) + dflt = (tgt : Int)) (kk : x_Rn M (tgt) lo (st) h cs K) : x_Rn M (pc) lo (.int x :: st) h cs K := by
  intro p l e s m args below meth c G Z H locs ls C hR hS hL
  exact lv_tableOut C.1 C.2.1 hd h1 ht (kk p l e s m args below meth c G Z H locs ls C hR hS hL)
theorem R_lookup {M : xM} {pc : Nat} {lo : List (Option Value)} {st : List Value} {h : xH} {cs : Nat × Nat} {K : Option Value → xH → Prop} {dflt : Int} {ps : Array (Int × Int)} {len : Nat} {x : Int32} {off : Int} (tgt : Nat) (hd : decode M.2.2.1 pc = .ok (.lookupswitch dflt ps, len)) (hp : (ps.toList.zip (ps.toList.drop 1)).all (fun (a, next) => a.1 < next.1) = true) (ho : Op.lookupswitch.offset ps.toList dflt x.toInt = off) (ht : (pc : Int) + off = (tgt : Int)) (kk : x_Rn M (tgt) lo (st) h cs K) : x_Rn M (pc) lo (.int x :: st) h cs K := by
  intro p l e s m args below meth c G Z H locs ls C hR hS hL
  exact lv_lookup C.1 C.2.1 hd hp ho ht (kk p l e s m args below meth c G Z H locs ls C hR hS hL)
theorem R_ret {M : xM} {pc : Nat} {lo : List (Option Value)} {h : xH} {cs : Nat × Nat} {K : Option Value → xH → Prop} {v : Option Value} {i : Instr} (hd : decode M.2.2.1 pc = .ok (i, 1)) (hv : x_isRet M.2.2.2.2.1 i v) (hc : cs.1 ≤ M.2.2.2.2.2.cells) (hs : cs.2 ≤ M.2.2.2.2.2.slots) (hk : K v h) : x_Rn M pc lo v.toList h cs K := by
  intro p l e s m args below meth c G Z H locs ls C hR hS hL
  exact W.widen hc hs (C.2.2.2.2.2.2 v h H locs pc ls i hk hR hS hv hd)
/-- another end -/
theorem R_mono {M : xM} {pc : Nat} {lo : List (Option Value)} {st : List Value} {h : xH} {cs : Nat × Nat} {K K2 : Option Value → xH → Prop} (hk : ∀ v h', K v h' → K2 v h') (kk : x_Rn M pc lo st h cs K) : x_Rn M pc lo st h cs K2 :=
  fun p l e s m args below meth c G Z H locs ls C hR hS hL => kk p l e s m args below meth c G Z H locs ls ⟨C.1, C.2.1, C.2.2.1, C.2.2.2.1, C.2.2.2.2.1, C.2.2.2.2.2.1, fun v h' H locs pc ls i z => C.2.2.2.2.2.2 v h' H locs pc ls i (hk v h' z)⟩ hR hS hL
end
section
/-! THE RULES over the heap -/
set_option maxRecDepth 20000 in
theorem x_inX0 : ∀ w ∈ u_ws RX0 TX0 3, w ∈ x_words := by decide +kernel
set_option maxRecDepth 20000 in
theorem x_inX1 : ∀ w ∈ u_ws RX1 TX1 13, w ∈ x_words := by decide +kernel
set_option maxRecDepth 20000 in
theorem x_inX2 : ∀ w ∈ u_ws RX2 TX2 8, w ∈ x_words := by decide +kernel
set_option maxRecDepth 20000 in
theorem x_inX3 : ∀ w ∈ u_ws RX3 TX3 4, w ∈ x_words := by decide +kernel
set_option maxRecDepth 20000 in
theorem x_inX4 : ∀ w ∈ u_ws RX4 TX4 3, w ∈ x_words := by decide +kernel
set_option maxRecDepth 20000 in
theorem x_inX5 : ∀ w ∈ u_ws RX5 TX5 5, w ∈ x_words := by decide +kernel
set_option maxRecDepth 20000 in
theorem x_inX6 : ∀ w ∈ u_ws RX6 TX6 3, w ∈ x_words := by decide +kernel
set_option maxRecDepth 20000 in
theorem x_inX7 : ∀ w ∈ u_ws RX7 TX7 13, w ∈ x_words := by decide +kernel
set_option maxRecDepth 20000 in
theorem x_inX8 : ∀ w ∈ u_ws RX8 TX8 39, w ∈ x_words := by decide +kernel
def x_CIp (q : vw_C) : Prop := (∀ w ∈ u_ws q.1 q.2.1 q.2.2, w ∈ x_words) ∧ (∃ t : Nat → FieldType, ∀ k, k < q.2.2 → parseFieldDescriptor (q.2.1 k).2.2.1 = some (t k)) ∧ (∀ a, a < q.2.2 → ∀ b, b < q.2.2 → a ≠ b → (q.2.1 a).2.1 ≠ (q.2.1 b).2.1)
theorem x_CI : ∀ (ci : Nat) (q : vw_C), vwCl[ci]? = some q → x_CIp q := by
  intro ci q h
  match ci, h with
  | 0, h => cases h; exact ⟨x_inX0, ⟨tyX0, tyX0_ok⟩, nmX0⟩
  | 1, h => cases h; exact ⟨x_inX1, ⟨tyX1, tyX1_ok⟩, nmX1⟩
  | 2, h => cases h; exact ⟨x_inX2, ⟨tyX2, tyX2_ok⟩, nmX2⟩
  | 3, h => cases h; exact ⟨x_inX3, ⟨tyX3, tyX3_ok⟩, nmX3⟩
  | 4, h => cases h; exact ⟨x_inX4, ⟨tyX4, tyX4_ok⟩, nmX4⟩
  | 5, h => cases h; exact ⟨x_inX5, ⟨tyX5, tyX5_ok⟩, nmX5⟩
  | 6, h => cases h; exact ⟨x_inX6, ⟨tyX6, tyX6_ok⟩, nmX6⟩
  | 7, h => cases h; exact ⟨x_inX7, ⟨tyX7, tyX7_ok⟩, nmX7⟩
  | 8, h => cases h; exact ⟨x_inX8, ⟨tyX8, tyX8_ok⟩, nmX8⟩
  | k + 9, h => simp [vwCl] at h
/-- a field by its link: class number, place, type, final or not -/
def x_FL (own : String) (idx ci k : Nat) (ty : FieldType) (fin : Bool) : Prop := ∃ q : vw_C, vwCl[ci]? = some q ∧ k < q.2.2 ∧ Cond.fieldLink own idx (q.2.1 k).1 (q.2.1 k).2.1 (q.2.1 k).2.2.1 ∈ x_words ∧ parseFieldDescriptor (q.2.1 k).2.2.1 = some ty ∧ (q.2.1 k).2.2.2 = fin ∧ (q.2.1 k).1 = q.1
theorem x_big {G : xG} {h : xH} {U : State} {H : Heap} (r : x_Rep G h U H) {a ci : Nat} {fs : List Value} (ha : h[a]? = some (.inr (ci, fs))) : ∃ i, a = i + 2 := by
  obtain ⟨-, -, -, -, ⟨-, ⟨L, xs, e2, -⟩, e4, -⟩, -⟩ := r
  match a, ha with
  | 0, ha => rw [e2] at ha; cases ha
  | 1, ha => rw [e4] at ha; cases ha
  | i + 2, _ => exact ⟨i, rfl⟩
theorem x_bigA {G : xG} {h : xH} {U : State} {H : Heap} (r : x_Rep G h U H) {a k : Nat} {x : vp_A} (h0 : k ≠ 0) (h1 : k ≠ 1) (ha : h[a]? = some (.inl (k, x))) : ∃ i, a = i + 2 := by
  obtain ⟨-, -, -, -, ⟨-, ⟨L, xs, e2, -⟩, e4, -⟩, -⟩ := r
  match a, ha with
  | 0, ha => rw [e2] at ha; cases ha; exact absurd rfl h0
  | 1, ha => rw [e4] at ha; cases ha; exact absurd rfl h1
  | i + 2, _ => exact ⟨i, rfl⟩
section RH
variable {M : xM} {pc : Nat} {lo : List (Option Value)} {st : List Value} {h : xH} {cs : Nat × Nat} {K : Option Value → xH → Prop}
theorem R_get {idx ci k a : Nat} {ty : FieldType} {fin : Bool} {fs : List Value} {v : Value} (hd : decode M.2.2.1 pc = .ok (.getfield idx, 3)) (hf : x_FL M.1 idx ci k ty fin) (ha : h[a]? = some (.inr (ci, fs))) (hv : fs[k]? = some v) (kk : x_Rn M (pc + 3) lo (v :: st) h cs K) : x_Rn M pc lo (.ref a :: st) h cs K := by
  intro p l e s m args below meth c G Z H locs ls C hR hS hL
  obtain ⟨i, rfl⟩ := x_big hR ha
  obtain ⟨⟨Cn, T, N⟩, hq, hk, hw, -, -, -⟩ := hf
  exact va_get C.1 C.2.1 C.2.2.2.2.1 (x_CI ci _ hq).1 C.2.2.2.1 hR.2.2.2.1 hR.2.2.1 i (x_ws_get ha) hq k hk (C.2.2.2.2.1 _ hw) (fun _ z => z) (v := x_cv G v) (by rw [List.getElem?_map, hv]; rfl) hd (kk p l e s m args below meth c G Z H locs ls C hR hS hL)
theorem R_put {idx ci k a : Nat} {ty : FieldType} {fs : List Value} {v : Value} (hd : decode M.2.2.1 pc = .ok (.putfield idx, 3)) (hf : x_FL M.1 idx ci k ty false) (ha : h[a]? = some (.inr (ci, fs))) (hl : k < fs.length) (hn : ∀ G, narrow ty (x_cv G v) = x_cv G v) (hfit : ∀ G, fits ty (x_cv G v) = true) (kk : x_Rn M (pc + 3) lo st (h.set a (.inr (ci, fs.set k v))) cs K) : x_Rn M pc lo (v :: .ref a :: st) h cs K := by
  intro p l e s m args below meth c G Z H locs ls C hR hS hL
  obtain ⟨i, rfl⟩ := x_big hR ha
  obtain ⟨⟨Cn, T, N⟩, hq, hk, hw, hty, hfin, -⟩ := hf
  obtain ⟨hin, ⟨tf, htf⟩, hnm⟩ := x_CI ci _ hq
  have hK := hR.2.2.2.1
  have he := x_ws_get (G := G) ha
  have hts := C.2.2.2.2.1
  have hap := va_apart (own := M.1) hts hin tf htf hnm hK hq
  obtain ⟨r, h1, cell, q1, q2, q3, q4⟩ := hR.2.2.1 i _ he
  have hr : r = (Cn, T, N) := Option.some.inj (h1.symm.trans hq)
  subst hr
  obtain ⟨hSl, hfc, kC, hkC, hkind⟩ := hK.1 ci _ hq
  obtain ⟨cf, kf, fi, f, hi, hsl⟩ := hSl k hk
  have hlay := hts _ (hin _ (u_in_lay hk))
  unfold u_lay at hlay
  rw [if_neg (by rw [hfin]; decide)] at hlay
  have hst := (u_facts hfc hkC (u_lays hts hin hk) hi).1
  have h6 := u_store hfc hkC hkind hlay hi hty (hn G) (hfit G)
  refine W.putK C.1 C.2.1 (f := f) ⟨C.2.2.2.1, hts _ hw, ⟨_, _, _, hi⟩, hst⟩ (by rw [q2]; exact h6) q1 q3 (by rw [hsl]; exact k2_hasslot (q4 k hk)) rfl rfl hd fun H' e1 e2 e3 => ?_
  rw [hsl] at e1 ⊢
  have hA : G.1 ≤ x_sg G (i + 2) := Nat.le_add_right _ _
  refine kk p l e s m args below meth c G Z H' _ ls C (hR.set ?_ e2 (fun q hq => e3 q (fun z => hq (by rw [z]; exact hA)))) (hS.put e2 e3 hA) hL
  refine hR.2.2.1.set (x_ws_D G h) he ?_ e3
  show ∃ r : vw_C, vwCl[ci]? = some r ∧ t_OB _ _ _ _ H' (vp_V ((fs.set k v).map (x_cv G)))
  rw [List.map_set]
  exact ⟨_, hq, t_OB.to (V := updV (vp_V (fs.map (x_cv G))) k (x_cv G v)) ⟨_, e1, q2, q3, t_set q4 hap hk (x_cv G v)⟩ (fun j _ => vp_updV_set (by rw [List.length_map]; exact hl) (x_cv G v) j)⟩
theorem R_putF {idx ci k a : Nat} {ty : FieldType} {fs : List Value} {v : Value} (hd : decode M.2.2.1 pc = .ok (.putfield idx, 3)) (hf : x_FL M.1 idx ci k ty true) (hown : vwCl[ci]?.map (·.1) = some M.1) (hini : M.2.1.name = "<init>") (ha : h[a]? = some (.inr (ci, fs))) (hl : k < fs.length) (hn : ∀ G, narrow ty (x_cv G v) = x_cv G v) (hfit : ∀ G, fits ty (x_cv G v) = true) (kk : x_Rn M (pc + 3) lo st (h.set a (.inr (ci, fs.set k v))) cs K) : x_Rn M pc lo (v :: .ref a :: st) h cs K := by
  intro p l e s m args below meth c G Z H locs ls C hR hS hL
  obtain ⟨i, rfl⟩ := x_big hR ha
  obtain ⟨⟨Cn, T, N⟩, hq, hk, hw, hty, hfin, hdc⟩ := hf
  obtain ⟨hin, ⟨tf, htf⟩, hnm⟩ := x_CI ci _ hq
  have hK := hR.2.2.2.1
  have he := x_ws_get (G := G) ha
  have hts := C.2.2.2.2.1
  have hap := va_apart (own := M.1) hts hin tf htf hnm hK hq
  obtain ⟨r, h1, cell, q1, q2, q3, q4⟩ := hR.2.2.1 i _ he
  have hr : r = (Cn, T, N) := Option.some.inj (h1.symm.trans hq)
  subst hr
  obtain ⟨hSl, hfc, kC, hkC, hkind⟩ := hK.1 ci _ hq
  obtain ⟨cf, kf, fi, f, hi, hsl⟩ := hSl k hk
  have hlay := hts _ (hin _ (u_in_lay hk))
  unfold u_lay at hlay
  rw [if_pos hfin] at hlay
  have hst := (u_facts hfc hkC (u_lays hts hin hk) hi).1
  rw [hq] at hown
  have hCn : Cn = M.1 := Option.some.inj hown
  have hcf : m.cls = cf := by
    obtain ⟨_, _, c', _, _, _, -, -, hf', -, -, -, hown2, -⟩ := Cond.laysFinal_spec hlay
    have e1 : c' = cf := by have := hi.symm.trans hf'; simp at this; exact this.1.symm
    rw [hdc, hCn] at hown2
    rw [← e1]; exact Option.some.inj (C.2.2.2.1.symm.trans hown2)
  have h6 := u_fits hfc hkC hkind (Or.inr hlay) hi hty (hn G) (hfit G)
  refine W.putFinK C.1 C.2.1 C.2.2.2.1 (hts _ hw) hi hst hcf (by rw [C.2.2.2.2.2.1]; exact hini) (by rw [q2]; exact h6) q1 q3 (by rw [hsl]; exact k2_hasslot (q4 k hk)) rfl rfl hd fun H' e1 e2 e3 => ?_
  rw [hsl] at e1 ⊢
  have hA : G.1 ≤ x_sg G (i + 2) := Nat.le_add_right _ _
  refine kk p l e s m args below meth c G Z H' _ ls C (hR.set ?_ e2 (fun q hq => e3 q (fun z => hq (by rw [z]; exact hA)))) (hS.put e2 e3 hA) hL
  refine hR.2.2.1.set (x_ws_D G h) he ?_ e3
  show ∃ r : vw_C, vwCl[ci]? = some r ∧ t_OB _ _ _ _ H' (vp_V ((fs.set k v).map (x_cv G)))
  rw [List.map_set]
  exact ⟨_, hq, t_OB.to (V := updV (vp_V (fs.map (x_cv G))) k (x_cv G v)) ⟨_, e1, q2, q3, t_set q4 hap hk (x_cv G v)⟩ (fun j _ => vp_updV_set (by rw [List.length_map]; exact hl) (x_cv G v) j)⟩
theorem R_iald {a n j : Nat} {f : Nat → Int32} {i : Int32} (hd : decode M.2.2.1 pc = .ok (.iaload, 1)) (ha : h[a]? = some (.inl (0, n, .inl f))) (hi : i = nI j) (hj : j < n) (hn : n < 2 ^ 31) (kk : x_Rn M (pc + 1) lo (.int (f j) :: st) h cs K) : x_Rn M pc lo (.int i :: .ref a :: st) h cs K := by
  intro p l e s m args below meth c G Z H locs ls C hR hS hL
  subst hi
  have hin := vp_in_nI hj hn
  have hcl : (nI j).toNatClampNeg = j := nI_clamp (by omega)
  match a, ha with
  | 0, ha =>
    obtain ⟨L, xs, e2, scr, h1, h2, h3, h4, h5⟩ := hR.2.2.2.2.1.2.1
    rw [e2] at ha
    cases ha
    exact W.iald (v := .int (f j)) C.1 C.2.1 h1 h2 h3 (by rw [h4]; exact hin) (by rw [hcl]; exact h5 j hj) rfl rfl hd (kk p l e s m args below meth c G Z H locs ls C hR hS hL)
  | 1, ha => rw [hR.2.2.2.2.1.2.2.1] at ha; cases ha
  | b + 2, ha =>
    refine va_iald C.1 C.2.1 hR.2.2.2.1 hR.2.2.1 b 0 (x_ws_get ha) rfl hin hd ?_
    rw [hcl]
    exact kk p l e s m args below meth c G Z H locs ls C hR hS hL
theorem R_lald {a n j : Nat} {f : Nat → Int64} {i : Int32} (hd : decode M.2.2.1 pc = .ok (.laload, 1)) (ha : h[a]? = some (.inl (1, n, .inr (.inl f)))) (hi : i = nI j) (hj : j < n) (hn : n < 2 ^ 31) (kk : x_Rn M (pc + 1) lo (.long (f j) :: st) h cs K) : x_Rn M pc lo (.int i :: .ref a :: st) h cs K := by
  intro p l e s m args below meth c G Z H locs ls C hR hS hL
  subst hi
  have hin := vp_in_nI hj hn
  have hcl : (nI j).toNatClampNeg = j := nI_clamp (by omega)
  match a, ha with
  | 0, ha =>
    obtain ⟨L, xs, e2, -⟩ := hR.2.2.2.2.1.2.1
    rw [e2] at ha
    cases ha
  | 1, ha =>
    rw [hR.2.2.2.2.1.2.2.1] at ha
    cases ha
    obtain ⟨cell, h1, h2, h3, h4, h5, h6, h7⟩ := hR.2.2.2.2.1.2.2.2.1
    exact W.lald (v := .long (x_lack j)) C.1 C.2.1 h1 h2 h3 (by rintro (q | q); exact hin (Or.inl q); rw [hcl] at q; omega) (by rw [hcl]; exact h6 j hj) rfl rfl hd (kk p l e s m args below meth c G Z H locs ls C hR hS hL)
  | b + 2, ha =>
    refine va_lald C.1 C.2.1 hR.2.2.2.1 hR.2.2.1 b 1 (x_ws_get ha) rfl hin hd ?_
    rw [hcl]
    exact kk p l e s m args below meth c G Z H locs ls C hR hS hL
theorem R_zald {a n j : Nat} {f : Nat → Int32} {i : Int32} (hd : decode M.2.2.1 pc = .ok (.baload, 1)) (ha : h[a]? = some (.inl (2, n, .inl f))) (hi : i = nI j) (hj : j < n) (hn : n < 2 ^ 31) (kk : x_Rn M (pc + 1) lo (.int (f j) :: st) h cs K) : x_Rn M pc lo (.int i :: .ref a :: st) h cs K := by
  intro p l e s m args below meth c G Z H locs ls C hR hS hL
  subst hi
  have hin := vp_in_nI hj hn
  have hcl : (nI j).toNatClampNeg = j := nI_clamp (by omega)
  obtain ⟨b, rfl⟩ := x_bigA hR (by decide) (by decide) ha
  refine va_zald C.1 C.2.1 hR.2.2.2.1 hR.2.2.1 b 2 (x_ws_get ha) rfl hin hd ?_
  rw [hcl]
  exact kk p l e s m args below meth c G Z H locs ls C hR hS hL
theorem R_aald {a n j kd y : Nat} {ty : FieldType} {f : Nat → Option Nat} {i : Int32} (hd : decode M.2.2.1 pc = .ok (.aaload, 1)) (ha : h[a]? = some (.inl (kd, n, .inr (.inr (.inr (.inr f)))))) (h2 : 2 ≤ a) (hkd : ∀ G, (x_tys G)[kd]? = some (G.2.2.2.2 kd, ty)) (hty : ty.isReference = true) (hi : i = nI j) (hj : j < n) (hn : n < 2 ^ 31) (hy : f j = some y) (kk : x_Rn M (pc + 1) lo (.ref y :: st) h cs K) : x_Rn M pc lo (.int i :: .ref a :: st) h cs K := by
  intro p l e s m args below meth c G Z H locs ls C hR hS hL
  subst hi
  have hin := vp_in_nI hj hn
  have hcl : (nI j).toNatClampNeg = j := nI_clamp (by omega)
  obtain ⟨b, rfl⟩ : ∃ b, a = b + 2 := ⟨a - 2, by omega⟩
  have hat := hR.2.2.1 b _ (x_ws_get ha)
  have hcell : H[x_sg G (b + 2)]? = some (arrV (G.2.2.2.2 kd) n (fun q => va_rf ((f q).map (x_sg G)))) := hat
  refine W.aald (v := .ref (x_sg G y)) (ty := ty) C.1 C.2.1 hcell ((hR.2.2.2.1.2 kd _ (hkd G)).1 n _) hty (fun q => by cases q) (by rw [arrV_size]; exact hin) (by rw [hcl, arrV_read _ _ hj, hy]; rfl) rfl rfl hd ?_
  exact kk p l e s m args below meth c G Z H locs ls C hR hS hL
theorem x_updV_i (f : Nat → Int32) (j : Nat) (x : Int32) : updV (fun q => Value.int (f q)) j (.int x) = fun q => .int (upd f j x q) := by
  funext q
  by_cases hq : q = j
  · subst hq; simp [updV, upd]
  · simp [updV, upd, hq]
theorem x_updV_l (f : Nat → Int64) (j : Nat) (x : Int64) : updV (fun q => Value.long (f q)) j (.long x) = fun q => .long (vp_updL f j x q) := by
  funext q
  by_cases hq : q = j
  · subst hq; simp [updV, vp_updL]
  · simp [updV, vp_updL, hq]
theorem R_iast {a n j : Nat} {f : Nat → Int32} {i x : Int32} (hd : decode M.2.2.1 pc = .ok (.iastore, 1)) (ha : h[a]? = some (.inl (0, n, .inl f))) (h2 : 2 ≤ a) (hi : i = nI j) (hj : j < n) (hn : n < 2 ^ 31) (kk : x_Rn M (pc + 1) lo st (h.set a (.inl (0, n, .inl (upd f j x)))) cs K) : x_Rn M pc lo (.int x :: .int i :: .ref a :: st) h cs K := by
  intro p l e s m args below meth c G Z H locs ls C hR hS hL
  subst hi
  have hin := vp_in_nI hj hn
  have hcl : (nI j).toNatClampNeg = j := nI_clamp (by omega)
  obtain ⟨b, rfl⟩ : ∃ b, a = b + 2 := ⟨a - 2, by omega⟩
  have he := x_ws_get (G := G) ha
  have hcell : H[x_sg G (b + 2)]? = some (arrV (G.2.2.2.2 0) n (fun q => .int (f q))) := hR.2.2.1 b _ he
  refine W.iast C.1 C.2.1 hcell ((hR.2.2.2.1.2 0 _ rfl).1 n _) (fun q => by cases q) (by rw [arrV_size]; exact hin) rfl rfl hd fun H1 e1 z oq => ?_
  rw [hcl, arrV_store, x_updV_i] at e1
  have hA : G.1 ≤ x_sg G (b + 2) := Nat.le_add_right _ _
  exact kk p l e s m args below meth c G Z H1 _ ls C (hR.set (hR.2.2.1.set (x_ws_D G h) he e1 oq) z (fun q hq => oq q (fun z => hq (by rw [z]; exact hA)))) (hS.put z oq hA) hL
theorem R_last {a n j : Nat} {f : Nat → Int64} {i : Int32} {x : Int64} (hd : decode M.2.2.1 pc = .ok (.lastore, 1)) (ha : h[a]? = some (.inl (1, n, .inr (.inl f)))) (h2 : 2 ≤ a) (hi : i = nI j) (hj : j < n) (hn : n < 2 ^ 31) (kk : x_Rn M (pc + 1) lo st (h.set a (.inl (1, n, .inr (.inl (vp_updL f j x))))) cs K) : x_Rn M pc lo (.long x :: .int i :: .ref a :: st) h cs K := by
  intro p l e s m args below meth c G Z H locs ls C hR hS hL
  subst hi
  have hin := vp_in_nI hj hn
  have hcl : (nI j).toNatClampNeg = j := nI_clamp (by omega)
  obtain ⟨b, rfl⟩ : ∃ b, a = b + 2 := ⟨a - 2, by omega⟩
  have he := x_ws_get (G := G) ha
  have hcell : H[x_sg G (b + 2)]? = some (arrV (G.2.2.2.2 1) n (fun q => .long (f q))) := hR.2.2.1 b _ he
  refine W.last C.1 C.2.1 hcell ((hR.2.2.2.1.2 1 _ rfl).1 n _) (fun q => by cases q) (by rw [arrV_size]; exact hin) rfl rfl hd fun H1 e1 z oq => ?_
  rw [hcl, arrV_store, x_updV_l] at e1
  have hA : G.1 ≤ x_sg G (b + 2) := Nat.le_add_right _ _
  exact kk p l e s m args below meth c G Z H1 _ ls C (hR.set (hR.2.2.1.set (x_ws_D G h) he e1 oq) z (fun q hq => oq q (fun z => hq (by rw [z]; exact hA)))) (hS.put z oq hA) hL
theorem R_zast {a n j : Nat} {f : Nat → Int32} {i x : Int32} (hd : decode M.2.2.1 pc = .ok (.bastore, 1)) (ha : h[a]? = some (.inl (2, n, .inl f))) (hx : x = 0 ∨ x = 1) (hi : i = nI j) (hj : j < n) (hn : n < 2 ^ 31) (kk : x_Rn M (pc + 1) lo st (h.set a (.inl (2, n, .inl (upd f j x)))) cs K) : x_Rn M pc lo (.int x :: .int i :: .ref a :: st) h cs K := by
  intro p l e s m args below meth c G Z H locs ls C hR hS hL
  subst hi
  have hin := vp_in_nI hj hn
  have hcl : (nI j).toNatClampNeg = j := nI_clamp (by omega)
  obtain ⟨b, rfl⟩ := x_bigA hR (by decide) (by decide) ha
  have he := x_ws_get (G := G) ha
  have hcell : H[x_sg G (b + 2)]? = some (arrV (G.2.2.2.2 2) n (fun q => .int (f q))) := hR.2.2.1 b _ he
  refine W.zast C.1 C.2.1 hcell ((hR.2.2.2.1.2 2 _ rfl).1 n _) (fun q => by cases q) (by rw [arrV_size]; exact hin) rfl rfl hd fun H1 e1 z oq => ?_
  have hnr : narrow .boolean (.int x) = .int x := by rcases hx with rfl | rfl <;> rfl
  rw [hcl, hnr, arrV_store, x_updV_i] at e1
  have hA : G.1 ≤ x_sg G (b + 2) := Nat.le_add_right _ _
  exact kk p l e s m args below meth c G Z H1 _ ls C (hR.set (hR.2.2.1.set (x_ws_D G h) he e1 oq) z (fun q hq => oq q (fun z => hq (by rw [z]; exact hA)))) (hS.put z oq hA) hL
/-- a Night into an array of them -/
theorem R_aast {a n j v : Nat} {f : Nat → Option Nat} {vs : List Value} {i : Int32} (hd : decode M.2.2.1 pc = .ok (.aastore, 1)) (ha : h[a]? = some (.inl (3, n, .inr (.inr (.inr (.inr f)))))) (hv : h[v]? = some (.inr (2, vs))) (hi : i = nI j) (hj : j < n) (hn : n < 2 ^ 31) (kk : x_Rn M (pc + 1) lo st (h.set a (.inl (3, n, .inr (.inr (.inr (.inr (va_up f j (some v)))))))) cs K) : x_Rn M pc lo (.ref v :: .int i :: .ref a :: st) h cs K := by
  intro p l e s m args below meth c G Z H locs ls C hR hS hL
  subst hi
  have hcl : (nI j).toNatClampNeg = j := nI_clamp (by omega)
  obtain ⟨b, rfl⟩ := x_bigA hR (by decide) (by decide) ha
  obtain ⟨w, rfl⟩ := x_big hR hv
  have he := x_ws_get (G := G) ha
  have hcell : H[x_sg G (b + 2)]? = some (arrV (G.2.2.2.2 3) n (fun q => va_rf ((f q).map (x_sg G)))) := hR.2.2.1 b _ he
  obtain ⟨r', hr', cellV, g1, g2, g3, -⟩ := hR.2.2.1 w _ (x_ws_get hv)
  have hcls := (hR.2.2.2.1.1 2 (RX2, TX2, 8) rfl).2
  obtain ⟨kA, comp, k1, k2, k3, -⟩ := (hR.2.2.2.1.2 3 _ rfl).2
  have hcomp : comp = G.2.2.2.1.1 2 := Option.some.inj (k3.symm.trans hcls.1)
  subst hcomp
  obtain ⟨kC, hkC, -⟩ := hcls.2
  refine W.aast C.1 C.2.1 hcell (fun q h => by cases h) (fun h => by cases h) k1 k2 rfl hkC ⟨nI_pos (by omega), by rw [arrV_size, hcl]; exact hj⟩ g1 (fun q h => by rw [g3] at h; cases h) (by rw [g2]; exact hkC) (by rw [g2]; exact va_assign hcls) rfl rfl hd fun H1 e1 z oq => ?_
  have hA : G.1 ≤ x_sg G (b + 2) := Nat.le_add_right _ _
  rw [hcl, arrV_store] at e1
  have hfun : updV (fun q => va_rf ((f q).map (x_sg G))) j (.ref (x_sg G (w + 2))) = fun q => va_rf ((va_up f j (some (w + 2)) q).map (x_sg G)) := by
    funext q
    by_cases hq : q = j
    · subst hq; simp [updV, va_up, va_rf]
    · simp [updV, va_up, hq]
  rw [hfun] at e1
  exact kk p l e s m args below meth c G Z H1 _ ls C (hR.set (hR.2.2.1.set (x_ws_D G h) he e1 oq) z (fun q hq => oq q (fun z => hq (by rw [z]; exact hA)))) (hS.put z oq hA) hL
theorem R_alen {a n : Nat} {f : Nat → Int32} (hd : decode M.2.2.1 pc = .ok (.arraylength, 1)) (ha : h[a]? = some (.inl (0, n, .inl f))) (kk : x_Rn M (pc + 1) lo (.int (nI n) :: st) h cs K) : x_Rn M pc lo (.ref a :: st) h cs K := by
  intro p l e s m args below meth c G Z H locs ls C hR hS hL
  match a, ha with
  | 0, ha =>
    obtain ⟨L, xs, e2, scr, h1, h2, h3, h4, h5⟩ := hR.2.2.2.2.1.2.1
    rw [e2] at ha
    cases ha
    exact W.alen (n := nI n) C.1 C.2.1 h1 h2 (by rw [h4]; rfl) rfl rfl hd (kk p l e s m args below meth c G Z H locs ls C hR hS hL)
  | 1, ha => rw [hR.2.2.2.2.1.2.2.1] at ha; cases ha
  | b + 2, ha => exact va_alen C.1 C.2.1 hR.2.2.2.1 hR.2.2.1 b 0 (x_ws_get ha) rfl rfl hd (kk p l e s m args below meth c G Z H locs ls C hR hS hL)
/-- the static table -/
theorem R_lack (hd : decode M.2.2.1 pc = .ok (.getstatic 102, 3)) (hM : M.1 = "LastSentence$Planner") (kk : x_Rn M (pc + 3) lo (.ref 1 :: st) h cs K) : x_Rn M pc lo st h cs K := by
  intro p l e s m args below meth c G Z H locs ls C hR hS hL
  obtain ⟨cf, kf, fi, f, a, cell, h1, h2, h3, h4, h5, h6, h7, h8⟩ := hR.2.2.2.2.1.2.2.2.2
  have hw : va_Nw (.fieldLinkNest "LastSentence$Planner" 102 "LastSentence" "LACKING" "[J" "LastSentence") s := hR.2.2.2.2.2.1 _ List.mem_cons_self
  have hown := C.2.2.2.1
  rw [hM] at hown
  exact va_WgetsN C.1 C.2.1 hown (va_Nw.use rfl hw) h1 h2 h3 h4 h5 (fun e => by rw [e] at h6; cases h6) h7 rfl hd (kk p l e s m args below meth c G Z H locs ls C hR hS hL)
end RH
end
section
/-! CONTRACTS AND CALLS -/
def x_Met (M : xM) (av : List Value) (h : xH) (K : Option Value → xH → Prop) : Prop := ∀ (l : Launch) (G : xG), Met l M.2.1 (Cond.code M.2.1 M.2.2.1 M.2.2.2.1 M.2.2.2.2.1 :: x_words) M.2.2.2.2.2 (va_Pc (av.map (x_cv G)) (fun U => x_Rep G h U U.heap))
  (fun _ s oc t => ∃ (v : Option Value) (h' : xH), oc = .returned (v.map (x_cv G)) ∧ K v h' ∧ x_Rep G h' t t.heap ∧ va_F (fun q => G.1 ≤ q) s t) M.2.2.2.2.2.cells M.2.2.2.2.2.slots (fun q => G.1 ≤ q)
def x_lay1 (av : List Value) : List (Option Value) := av.flatMap (fun v => if v.category = 2 then [some v, none] else [some v])
def x_lay (n : Nat) (av : List Value) : List (Option Value) := x_lay1 av ++ List.replicate (n - (x_lay1 av).length) none
theorem x_lay1_len : ∀ av : List Value, (x_lay1 av).length = (lg_sl av).length
  | [] => rfl
  | v :: av => by
    have ih := x_lay1_len av
    unfold x_lay1 lg_sl at ih ⊢
    simp only [List.flatMap_cons, List.length_append, ih]
    split <;> rfl
theorem x_lay1_get : ∀ (av : List Value) (i : Nat) (v : Value), (x_lay1 av)[i]? = some (some v) → (lg_sl av)[i]? = some (.val v)
  | [], i, v, h => by cases i <;> cases h
  | w :: av, i, v, h => by
    have ih := x_lay1_get av
    unfold x_lay1 at ih h
    unfold lg_sl at ih ⊢
    rw [List.flatMap_cons] at h ⊢
    by_cases hc : w.category = 2
    · rw [if_pos hc] at h ⊢
      match i, h with
      | 0, h => cases h; rfl
      | 1, h => cases h
      | i + 2, h => exact ih i v h
    · rw [if_neg hc] at h ⊢
      match i, h with
      | 0, h => cases h; rfl
      | i + 1, h => exact ih i v h
theorem x_lay1_map (G : xG) (av : List Value) : x_mp G (x_lay1 av) = x_lay1 (av.map (x_cv G)) := by
  unfold x_mp x_lay1
  induction av with
  | nil => rfl
  | cons v av ih =>
    simp only [List.flatMap_cons, List.map_cons, List.map_append, ih, x_cv_cat]
    split <;> rfl
theorem x_lay_entry (G : xG) (n : Nat) (av : List Value) (hn : (x_lay1 av).length ≤ n) : x_LH ((lg_sl (av.map (x_cv G)) ++ List.replicate (n - (lg_sl (av.map (x_cv G))).length) Slot.unset).toArray) n (x_mp G (x_lay n av)) := by
  have e1 : (x_lay1 av).length = (lg_sl (av.map (x_cv G))).length := by rw [← x_lay1_len, ← x_lay1_map]; unfold x_mp; rw [List.length_map]
  obtain ⟨h1, h2, -⟩ := lv_entry (av.map (x_cv G)) (n := n) (by rw [← e1]; exact hn)
  refine ⟨h1, h2, fun i v h => ?_⟩
  have e2 : x_mp G (x_lay n av) = x_lay1 (av.map (x_cv G)) ++ List.replicate (n - (x_lay1 av).length) none := by
    rw [← x_lay1_map]
    unfold x_mp x_lay
    rw [List.map_append, List.map_replicate]
    rfl
  rw [e2] at h
  by_cases hl : i < (x_lay1 (av.map (x_cv G))).length
  · rw [List.getElem?_append_left hl] at h
    have h3 := x_lay1_get _ _ _ h
    rw [List.getElem?_toArray, List.getElem?_append_left (by rw [← x_lay1_len]; exact hl)]
    exact h3
  · rw [List.getElem?_append_right (by omega), List.getElem?_replicate] at h
    split at h <;> cases h
theorem x_Met.of {M : xM} {av : List Value} {h : xH} {K : Option Value → xH → Prop} {lo : List (Option Value)} (hn : plainName M.2.1.cls = true) (hcl : M.1 = M.2.1.cls) (hlo : x_lay M.2.2.2.1 av = lo) (hle : Nat.ble (x_lay1 av).length M.2.2.2.1 = true) (kk : x_Rn M 0 lo [] h (0, 0) K) : x_Met M av h K := by
  intro l G
  refine Met.ofW (cc := M.2.2.1) (maxL := M.2.2.2.1) (ret := M.2.2.2.2.1) hn rfl ?_
  intro p e s m args below meth c s₁ B hml hv
  obtain ⟨rfl, hR⟩ := hv
  have hts := atoms_spec (ws := Cond.code M.2.1 M.2.2.1 M.2.2.2.1 M.2.2.2.2.1 :: x_words) B.pre
  have hown : s.vm.findClass M.1 = some m.cls := by rw [hcl]; exact findClass_of_methodNamed B.named
  have hlocks := B.notSynchronized
  have hret := B.returns
  rw [lg_entry_eq]
  subst hlo
  refine kk p l e s m _ below meth c G _ s.heap [] _ ⟨B.exec, B.bytes, hml, hown, fun w hw => hts w (List.mem_cons_of_mem _ hw), (name_of_methodNamed B.named B.method).1, ?_⟩ hR va_S.rf (x_lay_entry G _ av (Nat.le_of_ble_eq_true hle))
  intro v h' H locs pc ls i hK hR' hS' hri hd
  have hx := B.exec
  have hb := B.bytes
  have hroom : (headSpec (Cond.code M.2.1 M.2.2.1 M.2.2.2.1 M.2.2.2.2.1 :: x_words) M.2.2.2.2.2).room = M.2.2.2.2.2 := rfl
  generalize hrt : M.2.2.2.2.1 = rt at hri hret
  match rt, hri with
  | none, hri =>
    obtain ⟨rfl, rfl⟩ := hri
    exact W.vret hx hb hret (fun t ht hW => ⟨none, h', rfl, hK, by rw [ht]; exact hR'.warm hW, hS'.F ht⟩) hS'.2.2 hd
  | some .int, hri =>
    obtain ⟨rfl, x, rfl⟩ := hri
    exact W.iret hx hb hret (fun t ht hW => ⟨some (.int x), h', rfl, hK, by rw [ht]; exact hR'.warm hW, hS'.F ht⟩) hS'.2.2 hd
  | some .boolean, hri =>
    obtain ⟨rfl, x, rfl, hx01⟩ := hri
    exact W.zret hx hb hret (by rcases hx01 with rfl | rfl <;> rfl) (fun t ht hW => ⟨some (.int x), h', rfl, hK, by rw [ht]; exact hR'.warm hW, hS'.F ht⟩) hS'.2.2 hd
  | some .long, hri =>
    obtain ⟨rfl, x, rfl⟩ := hri
    exact W.lret hx hb hret (fun t ht hW => ⟨some (.long x), h', rfl, hK, by rw [ht]; exact hR'.warm hW, hS'.F ht⟩) hS'.2.2 hd
theorem x_Met.mono {M : xM} {av : List Value} {h : xH} {K K2 : Option Value → xH → Prop} (hk : ∀ v h', K v h' → K2 v h') (H : x_Met M av h K) : x_Met M av h K2 := by
  intro l G
  have h1 := H l G
  unfold Met at h1 ⊢
  intro p e ha hc hkk s m args below hf happ hP hT
  obtain ⟨k, o, g1, g2, g3, g4⟩ := h1 p e ha hc hkk s m args below hf happ hP hT
  obtain ⟨⟨v, h', e1, e2, e3⟩, e4⟩ := g4
  exact ⟨k, o, g1, g2, g3, ⟨v, h', e1, hk v h' e2, e3⟩, e4⟩
section XC
variable {p : Program} {l : Launch} {e : Env} {R : Room} {s : State} {m : MethodId} {args : Array Value} {below : List Frame} {meth : Method} {c : Code} {H : Heap} {locs : List Loc} {cells slots : Nat} {Z : State → Prop}
theorem x_called {G : xG} {h : xH} {Kc : Option Value → xH → Prop} {pc mc ms : Nat} {ls : Array Slot} {st0 rest : List Value} (hr : va_Run p l e R s m args below meth c H locs cells slots mc ms (F0 m pc ls st0) rest (fun s oc t => ∃ (v : Option Value) (h' : xH), oc = .returned (v.map (x_cv G)) ∧ Kc v h' ∧ x_Rep G h' t t.heap ∧ va_F (fun q => G.1 ≤ q) s t) (fun q => G.1 ≤ q))
    (hR : x_Rep G h s H) (hS : va_S (fun q => G.1 ≤ q) s.heap H locs) (kk : ∀ (v : Option Value) (h' : xH) (H1 : Heap) (locs1 : List Loc), Kc v h' → x_Rep G h' s H1 → va_S (fun q => G.1 ≤ q) s.heap H1 locs1 → W p l e R s m args below meth c H1 locs1 (cells + mc) (slots + ms) Z (F0 m (pc + 3) ls ((v.map (x_cv G)).toList ++ rest))) : W p l e R s m args below meth c H locs cells slots Z (F0 m pc ls st0) := by
  intro T hT X
  obtain ⟨v0, st₀, t, T', L, h0, X', hL, e1, e2, ⟨v, h', hv, hK, hRt, hz, hk⟩, st⟩ := hr T hT X
  cases hv
  rw [h0] at hz hk
  have hal : t.vm.Alike s.vm := by rw [← e2]; exact X'.warmed.alike.symm
  have hR1 : x_Rep G h' s T'.heap := by
    rw [e1]
    exact ⟨hRt.1, hRt.2.1, hRt.2.2.1, hR.2.2.2.1, hRt.2.2.2.2.1.moved hal, hR.2.2.2.2.2⟩
  have hS1 : va_S (fun q => G.1 ≤ q) s.heap T'.heap (locs ++ L) := ⟨Nat.le_trans hS.1 (by rw [e1]; exact hz), fun q h1 h2 => by rw [e1, hk q (Nat.lt_of_lt_of_le h1 hS.1) h2]; exact hS.2.1 q h1 h2, fun q hq => by
      rcases List.mem_append.mp hq with h | h
      · exact hS.2.2 q h
      · exact hL q h⟩
  obtain ⟨t2, a1, b1⟩ := kk v h' T'.heap (locs ++ L) hK hR1 hS1 T' rfl X'
  exact ⟨t2, st t2 a1, b1⟩
end XC
def x_IM (N : xM) (n : Nat) : Prop := Cond.code N.2.1 N.2.2.1 N.2.2.2.1 N.2.2.2.2.1 ∈ x_words ∧ Cond.initialized N.2.1.cls ∈ x_words ∧ (N.2.1.cls ≠ "java/lang/invoke/MethodHandle" ∧ N.2.1.cls ≠ "java/lang/invoke/VarHandle" ∧ (parseMethodDescriptor N.2.1.desc).map (fun d => d.parameters.length) = some n)
def x_IV (N : xM) (n ci : Nat) : Prop := x_IM N n ∧ Cond.instanceMethod N.2.1 ∈ x_words ∧ Cond.selects N.2.1.cls N.2.1 N.2.1 ∈ x_words ∧ vwCl[ci]?.map (·.1) = some N.2.1.cls
def x_IS (N : xM) (n : Nat) : Prop := x_IM N n ∧ Cond.static N.2.1 ∈ x_words
def x_II (N : xM) (n : Nat) : Prop := x_IM N n ∧ N.2.1.name = "<init>" ∧ Cond.instanceMethod N.2.1 ∈ x_words
def x_fit (M N : xM) (cs : Nat × Nat) : Bool := Nat.ble (N.2.2.2.2.2.frames + 1) M.2.2.2.2.2.frames && Nat.ble (8 + (N.2.2.2.1 + 11) + N.2.2.2.2.2.locals) M.2.2.2.2.2.locals && Nat.ble (cs.1 + N.2.2.2.2.2.cells) M.2.2.2.2.2.cells && Nat.ble (cs.2 + N.2.2.2.2.2.slots) M.2.2.2.2.2.slots
def x_stk (st : List Value) : Bool := Nat.ble ((st.map fun v => v.category).sum) 8
theorem x_fit.of {M N : xM} {cs : Nat × Nat} (h : x_fit M N cs = true) : (N.2.2.2.2.2.frames + 1 ≤ M.2.2.2.2.2.frames ∧ 8 + (N.2.2.2.1 + 11) + N.2.2.2.2.2.locals ≤ M.2.2.2.2.2.locals) ∧ cs.1 + N.2.2.2.2.2.cells ≤ M.2.2.2.2.2.cells ∧ cs.2 + N.2.2.2.2.2.slots ≤ M.2.2.2.2.2.slots := by
  simp only [x_fit, Bool.and_eq_true] at h
  exact ⟨⟨Nat.le_of_ble_eq_true h.1.1.1, Nat.le_of_ble_eq_true h.1.1.2⟩, Nat.le_of_ble_eq_true h.1.2, Nat.le_of_ble_eq_true h.2⟩
theorem x_good {w : Cond} (hw : w ∈ x_words) : GoodIn x_words (w :: x_words) := by
  intro v hv
  rcases List.mem_cons.mp hv with rfl | hv
  · exact ⟨hw, good_of_word (List.mem_filter.mp hw).2⟩
  · exact ⟨hv, good_of_word (List.mem_filter.mp hv).2⟩
theorem x_cats (G : xG) (st : List Value) : ((st.map (x_cv G)).map fun v => v.category) = st.map fun v => v.category := by
  rw [List.map_map]
  exact List.map_congr_left (fun v _ => x_cv_cat G v)
theorem x_blind (G : xG) (av : List Value) (h : xH) : FrameBlind (va_Pc av (fun U => x_Rep G h U U.heap)) := by
  intro a U g mk q
  obtain ⟨q1, q2⟩ := q
  refine ⟨q1, q2.1, q2.2.1, q2.2.2.1, va_K.moved (u := U) (U := U.calling g mk a) (Vm.Alike.refl U.vm) q2.2.2.2.1, x_Ext.moved (u := U) (U := U.calling g mk a) (Vm.Alike.refl U.vm) q2.2.2.2.2.1, ?_⟩
  refine ⟨fun w hw => ?_, q2.2.2.2.2.2.2.1.moved (Vm.Alike.refl U.vm), q2.2.2.2.2.2.2.2.1.moved (Vm.Alike.refl U.vm), q2.2.2.2.2.2.2.2.2.moved (Vm.Alike.refl U.vm)⟩
  have h1 := q2.2.2.2.2.2.1 w hw
  simp only [x_nest, List.mem_cons, List.not_mem_nil, or_false] at hw
  rcases hw with rfl | rfl | rfl | rfl | rfl | rfl | rfl | rfl <;> exact va_Nw.same rfl (show U.vm = (U.calling g mk a).vm from rfl) h1
section RC
variable {M N : xM} {pc : Nat} {lo : List (Option Value)} {st : List Value} {h : xH} {cs : Nat × Nat} {K Kc : Option Value → xH → Prop}
theorem x_pos (G : xG) (o : Option Value) (st : List Value) : (o.map (x_cv G)).toList ++ st.map (x_cv G) = (o.toList ++ st).map (x_cv G) := by cases o <;> rfl
theorem R_callV {idx ci a n : Nat} {fs av : List Value} (hd : decode M.2.2.1 pc = .ok (.invokevirtual idx, 3)) (hl : Cond.methodLink M.1 idx N.2.1 ∈ x_words) (hN : x_IV N n ci) (hn : av.length = n) (ha : h[a]? = some (.inr (ci, fs))) (hC : x_Met N (.ref a :: av) h Kc) (hf : x_fit M N cs = true) (hs : x_stk st = true)
    (kk : ∀ v h', Kc v h' → x_Rn M (pc + 3) lo (v.toList ++ st) h' (cs.1 + N.2.2.2.2.2.cells, cs.2 + N.2.2.2.2.2.slots) K) : x_Rn M pc lo (av.reverse ++ .ref a :: st) h cs K := by
  intro p l e s m args below meth c G Z H locs ls C hR hS hL
  obtain ⟨i, rfl⟩ := x_big hR ha
  obtain ⟨⟨hcode, hini, hd3⟩, hinst, hsel, hci⟩ := hN
  obtain ⟨hroom, hcs⟩ := x_fit.of hf
  have hts := C.2.2.2.2.1
  obtain ⟨q, hq, hqn⟩ : ∃ q : vw_C, vwCl[ci]? = some q ∧ q.1 = N.2.1.cls := by
    cases hz : vwCl[ci]? with
    | none => rw [hz] at hci; cases hci
    | some q => rw [hz] at hci; exact ⟨q, rfl, Option.some.inj hci⟩
  have hrecv := va_recv hR.2.2.2.1 hR.2.2.1 hq (x_ws_get ha)
  rw [hqn] at hrecv
  have e1 : (av.reverse ++ .ref (i + 2) :: st).map (x_cv G) = (av.map (x_cv G)).reverse ++ .ref (x_sg G (i + 2)) :: st.map (x_cv G) := by
    rw [List.map_append, List.map_reverse]; rfl
  rw [e1]
  refine x_called (va_runV (Ts := x_words) (As := av.map (x_cv G)) (rest := st.map (x_cv G)) (b := x_sg G (i + 2)) ⟨C.1, C.2.1, C.2.2.1, C.2.2.2.1, hts⟩ (hC l G) ⟨callB_of n hts (x_good hcode) rfl rfl rfl (hts _ hini) (hts _ hl) hd3 hroom, hts _ hinst, hts _ hsel⟩ ⟨x_blind G _ h, hrecv, fun U hU hW => ⟨rfl, by show x_Rep G h U U.heap; rw [hU]; exact hR.warm hW⟩⟩ rfl (by rw [List.length_map]; exact hn) hL.1 rfl (lv_room (by rw [x_cats]; exact Nat.le_of_ble_eq_true hs)) hd hcs) hR hS ?_
  intro v h' H1 locs1 hK hR1 hS1
  rw [x_pos]
  exact kk v h' hK p l e s m args below meth c G Z H1 locs1 ls C hR1 hS1 hL
theorem R_callS {idx n : Nat} {av : List Value} (hd : decode M.2.2.1 pc = .ok (.invokestatic idx, 3)) (hl : Cond.methodLink M.1 idx N.2.1 ∈ x_words) (hN : x_IS N n) (hn : av.length = n) (hC : x_Met N av h Kc) (hf : x_fit M N cs = true) (hs : x_stk st = true)
    (kk : ∀ v h', Kc v h' → x_Rn M (pc + 3) lo (v.toList ++ st) h' (cs.1 + N.2.2.2.2.2.cells, cs.2 + N.2.2.2.2.2.slots) K) : x_Rn M pc lo (av.reverse ++ st) h cs K := by
  intro p l e s m args below meth c G Z H locs ls C hR hS hL
  obtain ⟨⟨hcode, hini, hd3⟩, hstat⟩ := hN
  obtain ⟨hroom, hcs⟩ := x_fit.of hf
  have hts := C.2.2.2.2.1
  have e1 : (av.reverse ++ st).map (x_cv G) = (av.map (x_cv G)).reverse ++ st.map (x_cv G) := by
    rw [List.map_append, List.map_reverse]
  rw [e1]
  refine x_called (va_runS (Ts := x_words) (As := av.map (x_cv G)) (rest := st.map (x_cv G)) ⟨C.1, C.2.1, C.2.2.1, C.2.2.2.1, hts⟩ (hC l G) ⟨callB_of n hts (x_good hcode) rfl rfl rfl (hts _ hini) (hts _ hl) hd3 hroom, hts _ hstat⟩ ⟨x_blind G _ h, fun U hU hW => ⟨rfl, by show x_Rep G h U U.heap; rw [hU]; exact hR.warm hW⟩⟩ rfl (by rw [List.length_map]; exact hn) hL.1 rfl (lv_room (by rw [x_cats]; exact Nat.le_of_ble_eq_true hs)) hd hcs) hR hS ?_
  intro v h' H1 locs1 hK hR1 hS1
  rw [x_pos]
  exact kk v h' hK p l e s m args below meth c G Z H1 locs1 ls C hR1 hS1 hL
theorem R_callI {idx a n : Nat} {av : List Value} (hd : decode M.2.2.1 pc = .ok (.invokespecial idx, 3)) (hl : Cond.methodLink M.1 idx N.2.1 ∈ x_words) (hrt : N.2.2.2.2.1 = none) (hN : x_II N n) (hn : av.length = n) (hC : x_Met N (.ref a :: av) h Kc) (hf : x_fit M N cs = true) (hs : x_stk st = true)
    (kk : ∀ v h', Kc v h' → x_Rn M (pc + 3) lo (v.toList ++ st) h' (cs.1 + N.2.2.2.2.2.cells, cs.2 + N.2.2.2.2.2.slots) K) : x_Rn M pc lo (av.reverse ++ .ref a :: st) h cs K := by
  intro p l e s m args below meth c G Z H locs ls C hR hS hL
  obtain ⟨⟨hcode, hini, hd3⟩, hnm, hinst⟩ := hN
  obtain ⟨hroom, hcs⟩ := x_fit.of hf
  have hts := C.2.2.2.2.1
  have e1 : (av.reverse ++ .ref a :: st).map (x_cv G) = (av.map (x_cv G)).reverse ++ .ref (x_sg G a) :: st.map (x_cv G) := by
    rw [List.map_append, List.map_reverse]; rfl
  rw [e1]
  have hM := hC l G
  rw [hrt] at hM hcode
  refine x_called (va_runI (Ts := x_words) (As := av.map (x_cv G)) (rest := st.map (x_cv G)) (b := x_sg G a) ⟨C.1, C.2.1, C.2.2.1, C.2.2.2.1, hts⟩ hM ⟨callB_of n hts (x_good hcode) rfl rfl rfl (hts _ hini) (hts _ hl) hd3 hroom, hnm, hts _ hinst⟩ ⟨x_blind G _ h, fun U hU hW => ⟨rfl, by show x_Rep G h U U.heap; rw [hU]; exact hR.warm hW⟩⟩ rfl (by rw [List.length_map]; exact hn) hL.1 rfl (lv_room (by rw [x_cats]; exact Nat.le_of_ble_eq_true hs)) hd hcs) hR hS ?_
  intro v h' H1 locs1 hK hR1 hS1
  rw [x_pos]
  exact kk v h' hK p l e s m args below meth c G Z H1 locs1 ls C hR1 hS1 hL
theorem R_callIN {idx a n : Nat} {host : String} {av : List Value} (hd : decode M.2.2.1 pc = .ok (.invokespecial idx, 3)) (hl : Cond.methodLinkNest M.1 idx N.2.1 host ∈ x_nest) (hrt : N.2.2.2.2.1 = none) (hN : x_II N n) (hn : av.length = n) (hC : x_Met N (.ref a :: av) h Kc) (hf : x_fit M N cs = true) (hs : x_stk st = true)
    (kk : ∀ v h', Kc v h' → x_Rn M (pc + 3) lo (v.toList ++ st) h' (cs.1 + N.2.2.2.2.2.cells, cs.2 + N.2.2.2.2.2.slots) K) : x_Rn M pc lo (av.reverse ++ .ref a :: st) h cs K := by
  intro p l e s m args below meth c G Z H locs ls C hR hS hL
  obtain ⟨⟨hcode, hini, hd3⟩, hnm, hinst⟩ := hN
  obtain ⟨hroom, hcs⟩ := x_fit.of hf
  have hts := C.2.2.2.2.1
  have e1 : (av.reverse ++ .ref a :: st).map (x_cv G) = (av.map (x_cv G)).reverse ++ .ref (x_sg G a) :: st.map (x_cv G) := by
    rw [List.map_append, List.map_reverse]; rfl
  rw [e1]
  have hM := hC l G
  rw [hrt] at hM hcode
  refine x_called (va_runIN (Ts := x_words) (As := av.map (x_cv G)) (rest := st.map (x_cv G)) (b := x_sg G a) ⟨C.1, C.2.1, C.2.2.1, C.2.2.2.1, hts⟩ hM ⟨va_cnB n hts (x_good hcode) rfl rfl rfl (hR.2.2.2.2.2.1 _ hl) (hts _ hini) hd3 hroom, hnm, hts _ hinst⟩ ⟨x_blind G _ h, fun U hU hW => ⟨rfl, by show x_Rep G h U U.heap; rw [hU]; exact hR.warm hW⟩⟩ rfl (by rw [List.length_map]; exact hn) hL.1 rfl (lv_room (by rw [x_cats]; exact Nat.le_of_ble_eq_true hs)) hd hcs) hR hS ?_
  intro v h' H1 locs1 hK hR1 hS1
  rw [x_pos]
  exact kk v h' hK p l e s m args below meth c G Z H1 locs1 ls C hR1 hS1 hL
end RC
end
section
/-! CELLS THAT ARE MADE, arrays that are copied -/
theorem x_cv_df (G : xG) (t : FieldType) : x_cv G (defaultValue t) = defaultValue t := by cases t <;> rfl
theorem x_top {G : xG} {h : xH} {U : State} {H : Heap} (r : x_Rep G h U H) : H.size = x_sg G h.length ∧ G.1 ≤ H.size := by
  obtain ⟨r1, r2, -⟩ := r
  obtain ⟨k, hk⟩ : ∃ k, h.length = k + 2 := ⟨h.length - 2, by omega⟩
  rw [hk] at r2 ⊢
  exact ⟨r2, by omega⟩
theorem x_Sgrow {A : Nat → Prop} {H0 H H1 : Heap} {locs : List Loc} (hS : va_S A H0 H locs) (hz : H.size ≤ H1.size) (hq : ∀ q : Nat, q < H.size → H1[q]? = H[q]?) : va_S A H0 H1 locs :=
  ⟨Nat.le_trans hS.1 hz, fun q h1 h2 => (hq q (Nat.lt_of_lt_of_le h1 hS.1)).trans (hS.2.1 q h1 h2), hS.2.2⟩
section RM
variable {M : xM} {pc : Nat} {lo : List (Option Value)} {st : List Value} {h : xH} {cs : Nat × Nat} {K : Option Value → xH → Prop}
theorem R_new {idx ci N : Nat} {Cn : String} {T : u_T} {t : Nat → FieldType} {fs : List Value} (hd : decode M.2.2.1 pc = .ok (.new idx, 3)) (hq : vwCl[ci]? = some (Cn, T, N)) (hcl : Cond.classLink M.1 idx Cn ∈ x_words) (hinst : Cond.instantiable Cn N ∈ x_words) (hini : Cond.initialized Cn ∈ x_words) (ht : ∀ k, k < N → parseFieldDescriptor (T k).2.2.1 = some (t k)) (hfs : ∀ j, j < N → vp_V fs j = defaultValue (t j)) (hc : Nat.ble (cs.1 + 1) M.2.2.2.2.2.cells = true) (hs : Nat.ble (cs.2 + N) M.2.2.2.2.2.slots = true)
    (kk : x_Rn M (pc + 3) lo (.ref h.length :: st) (h ++ [.inr (ci, fs)]) (cs.1 + 1, cs.2 + N) K) : x_Rn M pc lo st h cs K := by
  intro p l e s m args below meth c G Z H locs ls C hR hS hL
  have hts := C.2.2.2.2.1
  have hKn := hR.2.2.2.1.1 ci _ hq
  obtain ⟨htop, hbase⟩ := x_top hR
  refine W.newcK C.1 C.2.1 C.2.2.2.1 (hts _ hcl) (hts _ hinst) (hts _ hini) rfl hd (Nat.le_of_ble_eq_true hc) (Nat.le_of_ble_eq_true hs) hKn.2.1 rfl fun H1 kC hkC e1 z1 o1 => ?_
  have key := kk p l e s m args below meth c G Z H1 locs ls C (hR.push (e := .inr (ci, fs)) z1 o1 ?_) (x_Sgrow hS (by omega) o1) hL
  · rw [htop]
    exact key
  · rw [hR.2.1] at e1
    refine ⟨_, hq, (u_born t hts (x_CI ci _ hq).1 hKn hkC e1 ht).to (fun j hj => ?_)⟩
    show defaultValue (t j) = (fs.map (x_cv G)).getD j .null
    have e2 : (fs.map (x_cv G)).getD j .null = x_cv G (fs.getD j .null) := by
      rw [List.getD_eq_getElem?_getD, List.getD_eq_getElem?_getD, List.getElem?_map]
      cases fs[j]? <;> rfl
    rw [e2]
    have e3 : fs.getD j .null = defaultValue (t j) := hfs j hj
    rw [e3, x_cv_df]
def x_at : ArrayType → Nat
  | .int => 0
  | .long => 1
  | .boolean => 2
  | _ => 9
def x_az : Nat → Nat → xC
  | 1, n => .inl (1, n, .inr (.inl (fun _ => 0)))
  | k, n => .inl (k, n, .inl (fun _ => 0))
theorem R_newa {at_ : ArrayType} {N : Nat} {n : Int32} (hd : decode M.2.2.1 pc = .ok (.newarray at_, 2)) (hat : at_ = .int ∨ at_ = .long ∨ at_ = .boolean) (hw : Cond.arrayClass (newarray.typeOf at_) ∈ x_words) (hn : n = nI N) (hN : Nat.ble N 60000 = true) (hc : Nat.ble (cs.1 + 1) M.2.2.2.2.2.cells = true) (hs : Nat.ble (cs.2 + N) M.2.2.2.2.2.slots = true)
    (kk : x_Rn M (pc + 2) lo (.ref h.length :: st) (h ++ [x_az (x_at at_) N]) (cs.1 + 1, cs.2 + N) K) : x_Rn M pc lo (.int n :: st) h cs K := by
  intro p l e s m args below meth c G Z H locs ls C hR hS hL
  have hts := C.2.2.2.2.1
  subst hn
  have hN' := Nat.le_of_ble_eq_true hN
  obtain ⟨htop, hbase⟩ := x_top hR
  refine va_newaK (n := nI N) (N := N) C.1 C.2.1 (hts _ hw) rfl hd rfl (nI_pos (by omega)) (nI_clamp (by omega)) ?_ (Nat.le_of_ble_eq_true hc) (Nat.le_of_ble_eq_true hs) rfl fun H1 cA e1 z1 o1 hAr hNm => ?_
  · rcases hat with rfl | rfl | rfl
    · show N * 4 ≤ 536870912; omega
    · show N * 8 ≤ 536870912; omega
    · show N * 1 ≤ 536870912; omega
  have key := kk p l e s m args below meth c G Z H1 locs ls C (hR.push z1 o1 ?_) (x_Sgrow hS (by omega) o1) hL
  · rw [htop]
    exact key
  · rw [hR.2.1] at e1
    rcases hat with rfl | rfl | rfl
    · have hA : G.2.2.2.2 0 = cA := Option.some.inj ((hR.2.2.2.1.2 0 _ rfl).2.symm.trans hNm)
      show H1[_]? = some (arrV (G.2.2.2.2 0) N (fun _ => .int 0))
      rw [hA]; exact e1
    · have hA : G.2.2.2.2 1 = cA := Option.some.inj ((hR.2.2.2.1.2 1 _ rfl).2.symm.trans hNm)
      show H1[_]? = some (arrV (G.2.2.2.2 1) N (fun _ => .long 0))
      rw [hA]; exact e1
    · have hA : G.2.2.2.2 2 = cA := Option.some.inj ((hR.2.2.2.1.2 2 _ rfl).2.symm.trans hNm)
      show H1[_]? = some (arrV (G.2.2.2.2 2) N (fun _ => .int 0))
      rw [hA]; exact e1
/-- an array of Nights -/
theorem R_newq {idx N : Nat} {n : Int32} (hd : decode M.2.2.1 pc = .ok (.anewarray idx, 3)) (hw : Cond.classLink M.1 idx "LastSentence$Night" ∈ x_words) (hn : n = nI N) (hN : Nat.ble N 60000 = true) (hc : Nat.ble (cs.1 + 1) M.2.2.2.2.2.cells = true) (hs : Nat.ble (cs.2 + N) M.2.2.2.2.2.slots = true)
    (kk : x_Rn M (pc + 3) lo (.ref h.length :: st) (h ++ [.inl (3, N, .inr (.inr (.inr (.inr (fun _ => none)))))]) (cs.1 + 1, cs.2 + N) K) : x_Rn M pc lo (.int n :: st) h cs K := by
  intro p l e s m args below meth c G Z H locs ls C hR hS hL
  have hts := C.2.2.2.2.1
  subst hn
  have hN' := Nat.le_of_ble_eq_true hN
  have hcl : (nI N).toNatClampNeg = N := nI_clamp (by omega)
  obtain ⟨htop, hbase⟩ := x_top hR
  refine W.anew C.1 C.2.1 C.2.2.2.1 (hts _ hw) (va_AO.use hR.2.2.2.2.2.2.1) rfl hd rfl (nI_pos (by omega)) (by rw [hcl]; omega) (Nat.le_of_ble_eq_true hc) (by rw [hcl]; exact Nat.le_of_ble_eq_true hs) fun cA kA comp f1 f2 f3 f4 => ?_
  generalize hH1 : H.push ({ cls := cA, slots := Array.replicate (nI N).toNatClampNeg .null, vm := .none } : Cell) = H1
  have z1 : H1.size = H.size + 1 := by rw [← hH1, Array.size_push]
  have e1 : H1[H.size]? = some (arrV cA N (fun _ => .null)) := by rw [← hH1, Array.getElem?_push_size, ← arrV_new, hcl]
  have o1 : ∀ q : Nat, q < H.size → H1[q]? = H[q]? := fun q hq => by rw [← hH1, Array.getElem?_push, if_neg (Nat.ne_of_lt hq)]
  have key := kk p l e s m args below meth c G Z H1 locs ls C (hR.push (e := .inl (3, N, .inr (.inr (.inr (.inr (fun _ => none)))))) z1 o1 ?_) (x_Sgrow hS (by omega) o1) hL
  · rw [htop, hcl]
    exact key
  · rw [hR.2.1] at e1
    obtain ⟨_, _, -, -, -, hRA⟩ := (hR.2.2.2.1.2 3 _ rfl).2
    have hA : G.2.2.2.2 3 = cA := Option.some.inj (hRA.symm.trans f1)
    show H1[_]? = some (arrV (G.2.2.2.2 3) N (fun _ => .null))
    rw [hA]; exact e1
theorem x_Rep.pushes {G : xG} {h : xH} {U : State} {H H1 : Heap} {es : List xC} (r : x_Rep G h U H) (hz : H1.size = H.size + es.length) (hq : ∀ q : Nat, q < H.size → H1[q]? = H[q]?) (he : ∀ (k : Nat) (e : xC), es[k]? = some e → va_at G.2.2.2.1 vwCl (x_sg G (h.length + k), x_ce G e) H1) : x_Rep G (h ++ es) U H1 := by
  obtain ⟨r1, r2, r3, r4, r5, r6⟩ := r
  refine ⟨by rw [List.length_append]; omega, by rw [List.length_append, hz, r2]; omega, ?_, r4, r5.kept ?_ ?_ (fun q h1 _ => hq q h1), r6⟩
  · intro k q hk
    obtain ⟨e, he2, rfl⟩ := x_ws_of hk
    by_cases hl : k + 2 < h.length
    · rw [List.getElem?_append_left hl] at he2
      exact (r3 k _ (x_ws_get he2)).kept (hq _ (by show G.1 + k < H.size; omega))
    · rw [List.getElem?_append_right (by omega)] at he2
      have h3 := he _ _ he2
      have e5 : h.length + (k + 2 - h.length) = k + 2 := by omega
      rw [e5] at h3
      exact h3
  · rw [List.getElem?_append_left (by omega)]
  · rw [List.getElem?_append_left (by omega)]
theorem x_outer (c : ClassId) (N h0 : Nat) : ∀ i : Nat, Jvm.Free.Multi.outerC c N h0 i = arrV c N (fun j => va_rf (if j < i then some (h0 + 1 + j) else none))
  | 0 => by
    show ({ cls := c, slots := Array.replicate N .null, vm := .none } : Cell) = _
    rw [arrV_new]
    refine congrArg (arrV c N) (funext fun j => ?_)
    simp [va_rf]
  | i + 1 => by
    show (Jvm.Free.Multi.outerC c N h0 i).setSlot i (.ref (h0 + 1 + i)) = _
    rw [x_outer c N h0 i, arrV_store]
    refine congrArg (arrV c N) (funext fun j => ?_)
    by_cases e : j = i
    · subst e
      simp [updV, va_rf]
    · by_cases h : j < i
      · simp [updV, e, h, Nat.lt_succ_of_lt h]
      · simp [updV, e, h, show ¬ j < i + 1 by omega]
/-- new int[n][k] (kd 0) and new long[n][k] (kd 1) -/
def x_grid (kd a n k : Nat) : List xC := .inl (kd + 4, n, .inr (.inr (.inr (.inr (fun i => if i < n then some (a + 1 + i) else none))))) :: List.replicate n (x_az kd k)
theorem R_multi {idx N Q kd : Nat} {ty : FieldType} {n k : Int32} (hd : decode M.2.2.1 pc = .ok (.multianewarray idx 2, 4)) (hk : (kd = 0 ∧ ty = .int) ∨ (kd = 1 ∧ ty = .long)) (hw : Cond.classLink M.1 idx ("[" ++ (FieldType.array ty).toString) ∈ x_words) (hw2 : Cond.arrayClass ty ∈ x_words) (hn : n = nI N) (hkk : k = nI Q) (hN : Nat.ble N 60000 = true) (hQ : Nat.ble Q 60000 = true) (hc : Nat.ble (cs.1 + (1 + N)) M.2.2.2.2.2.cells = true) (hs : Nat.ble (cs.2 + (N + N * Q)) M.2.2.2.2.2.slots = true)
    (kk : x_Rn M (pc + 4) lo (.ref h.length :: st) (h ++ x_grid kd h.length N Q) (cs.1 + 1 + N, cs.2 + N + N * Q) K) : x_Rn M pc lo (.int k :: .int n :: st) h cs K := by
  intro p l e s m args below meth c G Z H locs ls C hR hS hL
  have hts := C.2.2.2.2.1
  subst hn hkk
  have hN' := Nat.le_of_ble_eq_true hN
  have hQ' := Nat.le_of_ble_eq_true hQ
  have hcl : (nI N).toNatClampNeg = N := nI_clamp (by omega)
  have hcl2 : (nI Q).toNatClampNeg = Q := nI_clamp (by omega)
  obtain ⟨htop, hbase⟩ := x_top hR
  have hover : x_AOA ty s := by rcases hk with ⟨-, rfl⟩ | ⟨-, rfl⟩; exact hR.2.2.2.2.2.2.2.1; exact hR.2.2.2.2.2.2.2.2
  have hcb : componentBytes ty ≤ 8 := by rcases hk with ⟨-, rfl⟩ | ⟨-, rfl⟩ <;> decide
  intro T hT Xs
  obtain ⟨vm₁, cA, comp, -, fA, fC, hO, -, X', step⟩ := Xs.multianewarray2F C.1 C.2.2.2.1 (hts _ hw) hover (hts _ hw2) (g := F0 m pc ls (.int (nI Q) :: .int (nI N) :: st.map (x_cv G))) rfl (by rw [C.2.1]; exact hd) rfl (nI_pos (by omega)) (nI_pos (by omega)) (by rw [hcl]; omega) (by rw [hcl2]; have := Nat.mul_le_mul hQ' hcb; omega) (by rw [hcl2]; omega) (by rcases hk with ⟨-, rfl⟩ | ⟨-, rfl⟩ <;> rfl) (by rcases hk with ⟨-, rfl⟩ | ⟨-, rfl⟩ <;> rfl) (by rw [hcl]; exact Nat.le_of_ble_eq_true hc) (by rw [hcl, hcl2]; exact Nat.le_of_ble_eq_true hs)
  rw [hcl, hcl2] at X' step
  generalize hF : Jvm.Free.Multi.fill (T.setVm vm₁) cA comp N Q (defaultValue ty) N = F at X' step
  have hTh : (T.setVm vm₁).heap = H := hT
  obtain ⟨f1, f2, -, -⟩ := Jvm.Free.Multi.fill_facts (T.setVm vm₁) cA comp N Q (defaultValue ty) N
  rw [hF, hTh] at f1 f2
  have hold : ∀ x : Nat, x < H.size → F.heap[x]? = H[x]? := fun x hx => by
    have := Jvm.Free.Multi.fill_old (T.setVm vm₁) cA comp N Q (defaultValue ty) (a := x) (by rw [hTh]; exact hx) N
    rw [hF, hTh] at this
    exact this
  have hrow : ∀ j : Nat, j < N → F.heap[H.size + 1 + j]? = some (Jvm.Free.Multi.innerC comp Q (defaultValue ty)) := fun j hj => by
    have := Jvm.Free.Multi.fill_inner (T.setVm vm₁) cA comp N Q (defaultValue ty) N j hj
    rw [hF, hTh] at this
    exact this
  rw [x_outer] at f2
  have hinner : x_ce G (x_az kd Q) = .inl (G.2.2.2.2 kd, Q, if kd = 0 then .inl (fun _ => 0) else .inr (.inl (fun _ => 0))) := by rcases hk with ⟨rfl, -⟩ | ⟨rfl, -⟩ <;> rfl
  have hsg : ∀ q : Nat, x_sg G (h.length + q) = H.size + q := fun q => by
    obtain ⟨w, hw⟩ : ∃ w, h.length = w + 2 := ⟨h.length - 2, by have := hR.1; omega⟩
    rw [htop, hw, show w + 2 + q = (w + q) + 2 by omega]
    show G.1 + (w + q) = G.1 + w + q
    omega
  have hA : G.2.2.2.2 kd = comp := by
    rcases hk with ⟨rfl, rfl⟩ | ⟨rfl, rfl⟩
    · exact Option.some.inj ((hR.2.2.2.1.2 0 _ rfl).2.symm.trans fC)
    · exact Option.some.inj ((hR.2.2.2.1.2 1 _ rfl).2.symm.trans fC)
  have hB : G.2.2.2.2 (kd + 4) = cA := by
    rcases hk with ⟨rfl, rfl⟩ | ⟨rfl, rfl⟩
    · exact Option.some.inj ((hR.2.2.2.1.2 4 _ rfl).2.symm.trans fA)
    · exact Option.some.inj ((hR.2.2.2.1.2 5 _ rfl).2.symm.trans fA)
  have hRn : x_Rep G (h ++ x_grid kd h.length N Q) s F.heap := by
    refine hR.pushes (by rw [f1]; simp [x_grid]; omega) hold (fun q e he => ?_)
    rw [hsg]
    cases q with
    | zero =>
      cases he
      show F.heap[H.size + 0]? = some (arrV (G.2.2.2.2 (kd + 4)) N (fun j => va_rf ((if j < N then some (h.length + 1 + j) else none : Option Nat).map (x_sg G))))
      rw [hB, Nat.add_zero, f2]
      refine congrArg (fun f => some (arrV cA N f)) (funext fun j => ?_)
      by_cases hj : j < N
      · rw [if_pos hj, if_pos hj, Option.map_some, show h.length + 1 + j = h.length + (1 + j) by omega, hsg, Nat.add_assoc]
      · rw [if_neg hj, if_neg hj]; rfl
    | succ q =>
      have he2 : (List.replicate N (x_az kd Q))[q]? = some e := he
      rw [List.getElem?_replicate] at he2
      by_cases hj : q < N
      · rw [if_pos hj] at he2
        cases he2
        rw [hinner]
        have h9 := hrow q hj
        rw [show H.size + (q + 1) = H.size + 1 + q by omega, hA]
        show F.heap[H.size + 1 + q]? = some (vp_cell comp _)
        rw [h9]
        rcases hk with ⟨rfl, rfl⟩ | ⟨rfl, rfl⟩
        · show some (Jvm.Free.Multi.innerC comp Q (.int 0)) = some (arrV comp Q (fun _ => .int 0))
          rw [← arrV_new]; rfl
        · show some (Jvm.Free.Multi.innerC comp Q (.long 0)) = some (arrV comp Q (fun _ => .long 0))
          rw [← arrV_new]; rfl
      · rw [if_neg hj] at he2; cases he2
  obtain ⟨t, a1, b1⟩ := kk p l e s m args below meth c G Z F.heap locs ls C hRn (x_Sgrow hS (by rw [f1]; omega) hold) hL F rfl X'
  refine ⟨t, step t ?_, b1⟩
  have e0 : T.heap.size = x_sg G h.length := by rw [hT]; exact htop
  rw [e0]
  exact a1
theorem R_obj {idx a : Nat} (hd : decode M.2.2.1 pc = .ok (.invokespecial idx, 3)) (hl : Cond.methodLink M.1 idx objectInit ∈ x_words) (hi : Cond.instanceMethod objectInit ∈ x_words) (hcd : Cond.code objectInit ⟨#[0xb1]⟩ 1 none ∈ x_words) (hf : Nat.ble 1 M.2.2.2.2.2.frames = true) (hs : x_stk st = true) (hlo : Nat.ble 20 M.2.2.2.2.2.locals = true) (kk : x_Rn M (pc + 3) lo st h cs K) : x_Rn M pc lo (.ref a :: st) h cs K := by
  intro p l e s m args below meth c G Z H locs ls C hR hS hL
  have hts := C.2.2.2.2.1
  refine W.objInit C.1 C.2.1 C.2.2.2.1 (hts _ hl) (hts _ hi) (hts _ hcd) rfl (by rw [C.2.2.1]; exact hL.1) rfl hd (Nat.le_of_ble_eq_true hf) ?_ (kk p l e s m args below meth c G Z H locs ls C hR hS hL)
  have h1 := Nat.le_of_ble_eq_true hs
  have h2 := Nat.le_of_ble_eq_true hlo
  rw [x_cats]
  show 2 * 0 + _ + 12 ≤ _
  omega
theorem x_nn {z : Nat} (hz : z < 2 ^ 31) : (nI z).toInt = (z : Int) := nI_toInt hz
/-- System.arraycopy of ints -/
theorem R_acpI {idx a0 a1 n0 n1 sp dp n : Nat} {f g : Nat → Int32} {is id_ in_ : Int32} (hd : decode M.2.2.1 pc = .ok (.invokestatic idx, 3)) (hl : Cond.methodLink M.1 idx arraycopyName ∈ x_words) (hnat : Cond.native arraycopyName ∈ x_words) (hst : Cond.static arraycopyName ∈ x_words) (hini : Cond.initialized "java/lang/System" ∈ x_words) (ha0 : h[a0]? = some (.inl (0, n0, .inl f))) (ha1 : h[a1]? = some (.inl (0, n1, .inl g))) (h20 : 2 ≤ a0) (h21 : 2 ≤ a1) (e1 : is = nI sp) (e2 : id_ = nI dp) (e3 : in_ = nI n) (h4 : sp + n ≤ n0) (h5 : dp + n ≤ n1) (hn0 : n0 < 2 ^ 31) (hn1 : n1 < 2 ^ 31) (hf : Nat.ble 1 M.2.2.2.2.2.frames = true) (hs : x_stk st = true) (hlo : Nat.ble 26 M.2.2.2.2.2.locals = true)
    (kk : x_Rn M (pc + 3) lo st (h.set a1 (.inl (0, n1, .inl (va_cpy f g sp dp n)))) cs K) : x_Rn M pc lo (.int in_ :: .int id_ :: .ref a1 :: .int is :: .ref a0 :: st) h cs K := by
  intro p l e s m args below meth c G Z H locs ls C hR hS hL
  have hts := C.2.2.2.2.1
  subst e1 e2 e3
  obtain ⟨b0, rfl⟩ : ∃ b, a0 = b + 2 := ⟨a0 - 2, by omega⟩
  obtain ⟨b1, rfl⟩ : ∃ b, a1 = b + 2 := ⟨a1 - 2, by omega⟩
  have hc0 : H[x_sg G (b0 + 2)]? = some (arrV (G.2.2.2.2 0) n0 (fun j => .int (f j))) := hR.2.2.1 b0 _ (x_ws_get ha0)
  have hc1 : H[x_sg G (b1 + 2)]? = some (arrV (G.2.2.2.2 0) n1 (fun j => .int (g j))) := hR.2.2.1 b1 _ (x_ws_get ha1)
  have c1 : (nI sp).toNatClampNeg = sp := nI_clamp (by omega)
  have c2 : (nI dp).toNatClampNeg = dp := nI_clamp (by omega)
  have c3 : (nI n).toNatClampNeg = n := nI_clamp (by omega)
  have hsum := Nat.le_of_ble_eq_true hs
  have hloc := Nat.le_of_ble_eq_true hlo
  intro T hT X
  obtain ⟨-, k0, hk0, cm0, hkk0⟩ := (hR.2.2.2.1.2 0 _ rfl).1 n0 (fun j => .int (f j))
  obtain ⟨-, k1, hk1, cm1, hkk1⟩ := (hR.2.2.2.1.2 0 _ rfl).1 n1 (fun j => .int (g j))
  obtain ⟨vm', X', step⟩ := X.arraycopy C.1 C.2.2.2.1 (hts _ hl) (hts _ hnat) (hts _ hst) (hts _ hini) (src := x_sg G (b0 + 2)) (dst := x_sg G (b1 + 2)) (cs := arrV (G.2.2.2.2 0) n0 (fun j => .int (f j))) (cd := arrV (G.2.2.2.2 0) n1 (fun j => .int (g j))) (srcPos := nI sp) (destPos := nI dp) (n := nI n) (by rw [hT]; exact hc0) (by rw [hT]; exact hc1)
    (fun _ h => by cases h) (fun _ h => by cases h) (fun h => by cases h) (fun h => by cases h) hk0 hk1 hkk0 hkk1 (by simp [refKind]) (nI_pos (by omega)) (nI_pos (by omega)) (nI_pos (by omega))
    (by rw [x_nn (by omega), x_nn (by omega), arrV_size]; omega)
    (by rw [x_nn (by omega), x_nn (by omega), arrV_size]; omega)
    (fun vm₁ _ i hi => by
      rw [c3] at hi
      rw [c1]
      have e : (arrV (G.2.2.2.2 0) n0 (fun j => .int (f j))).slots.getD (sp + i) .null = .int (f (sp + i)) := by
        rw [Array.getD_eq_getD_getElem?, arrV_read _ _ (by omega)]
        rfl
      refine ⟨?_, ?_⟩
      · rw [e]; rfl
      · rw [e]; exact trivial)
    (g := F0 m pc ls ((.int (nI n) :: .int (nI dp) :: .ref (x_sg G (b1 + 2)) :: .int (nI sp) :: .ref (x_sg G (b0 + 2)) :: st.map (x_cv G)))) rfl (by rw [C.2.2.1]; exact hL.1) (rest := st.map (x_cv G)) rfl (by rw [C.2.1]; exact hd) (Nat.le_of_ble_eq_true hf) (by
      rw [x_cats]
      show 2 * 0 + _ + (5 + 2 + 11) ≤ _
      omega)
  have ecp : copied (arrV (G.2.2.2.2 0) n0 (fun j => .int (f j))) (arrV (G.2.2.2.2 0) n1 (fun j => .int (g j))) (nI sp) (nI dp) (nI n) = arrV (G.2.2.2.2 0) n1 (fun j => .int (va_cpy f g sp dp n j)) := by
    have := va_copied (fun z => .int z) (G.2.2.2.2 0) (G.2.2.2.2 0) (n0 := n0) (n1 := n1) (sp := (nI sp).toNatClampNeg) (dp := (nI dp).toNatClampNeg) (n := (nI n).toNatClampNeg) f g (by rw [c1, c3]; exact h4)
    rw [c1, c2, c3] at this
    unfold copied
    rw [c1, c2, c3]
    exact this
  rw [ecp] at X' step
  have hlt : x_sg G (b1 + 2) < H.size := (Array.getElem?_eq_some_iff.mp hc1).1
  have hheap : ((T.setVm vm').setCell (x_sg G (b1 + 2)) (arrV (G.2.2.2.2 0) n1 (fun j => .int (va_cpy f g sp dp n j)))).heap = H.setIfInBounds (x_sg G (b1 + 2)) (arrV (G.2.2.2.2 0) n1 (fun j => .int (va_cpy f g sp dp n j))) := by rw [← hT]; rfl
  have oq : ∀ q : Nat, q ≠ x_sg G (b1 + 2) → (H.setIfInBounds (x_sg G (b1 + 2)) (arrV (G.2.2.2.2 0) n1 (fun j => .int (va_cpy f g sp dp n j))))[q]? = H[q]? := fun q hq => by simp [Array.getElem?_setIfInBounds, Ne.symm hq]
  have hA : G.1 ≤ x_sg G (b1 + 2) := Nat.le_add_right _ _
  obtain ⟨t, a1', b1'⟩ := kk p l e s m args below meth c G Z _ _ ls C (hR.set (hR.2.2.1.set (x_ws_D G h) (x_ws_get ha1) (show (H.setIfInBounds (x_sg G (b1 + 2)) _)[x_sg G (b1 + 2)]? = some _ by simp [Array.getElem?_setIfInBounds, hlt]; rfl) oq) (by simp) (fun q hq => oq q (fun z => hq (by rw [z]; exact hA)))) ⟨by simp; exact hS.1, fun q g1 g2 => by
      rw [oq q (fun e => g2 (by rw [e]; exact hA))]
      exact hS.2.1 q g1 g2, fun q hq => by
      rcases List.mem_append.mp hq with h | h
      · exact hS.2.2 q h
      · obtain ⟨z, -, hz⟩ := List.mem_map.mp h
        rw [← hz]
        exact hA⟩ hL _ hheap X'
  exact ⟨t, step t a1', b1'⟩
/-- System.arraycopy of longs -/
theorem R_acpL {idx a0 a1 n0 n1 sp dp n : Nat} {f g : Nat → Int64} {is id_ in_ : Int32} (hd : decode M.2.2.1 pc = .ok (.invokestatic idx, 3)) (hl : Cond.methodLink M.1 idx arraycopyName ∈ x_words) (hnat : Cond.native arraycopyName ∈ x_words) (hst : Cond.static arraycopyName ∈ x_words) (hini : Cond.initialized "java/lang/System" ∈ x_words) (ha0 : h[a0]? = some (.inl (1, n0, .inr (.inl f)))) (ha1 : h[a1]? = some (.inl (1, n1, .inr (.inl g)))) (h20 : 2 ≤ a0) (h21 : 2 ≤ a1) (e1 : is = nI sp) (e2 : id_ = nI dp) (e3 : in_ = nI n) (h4 : sp + n ≤ n0) (h5 : dp + n ≤ n1) (hn0 : n0 < 2 ^ 31) (hn1 : n1 < 2 ^ 31) (hf : Nat.ble 1 M.2.2.2.2.2.frames = true) (hs : x_stk st = true) (hlo : Nat.ble 26 M.2.2.2.2.2.locals = true)
    (kk : x_Rn M (pc + 3) lo st (h.set a1 (.inl (1, n1, .inr (.inl (va_cpy f g sp dp n))))) cs K) : x_Rn M pc lo (.int in_ :: .int id_ :: .ref a1 :: .int is :: .ref a0 :: st) h cs K := by
  intro p l e s m args below meth c G Z H locs ls C hR hS hL
  have hts := C.2.2.2.2.1
  subst e1 e2 e3
  obtain ⟨b0, rfl⟩ : ∃ b, a0 = b + 2 := ⟨a0 - 2, by omega⟩
  obtain ⟨b1, rfl⟩ : ∃ b, a1 = b + 2 := ⟨a1 - 2, by omega⟩
  have hc0 : H[x_sg G (b0 + 2)]? = some (arrV (G.2.2.2.2 1) n0 (fun j => .long (f j))) := hR.2.2.1 b0 _ (x_ws_get ha0)
  have hc1 : H[x_sg G (b1 + 2)]? = some (arrV (G.2.2.2.2 1) n1 (fun j => .long (g j))) := hR.2.2.1 b1 _ (x_ws_get ha1)
  have c1 : (nI sp).toNatClampNeg = sp := nI_clamp (by omega)
  have c2 : (nI dp).toNatClampNeg = dp := nI_clamp (by omega)
  have c3 : (nI n).toNatClampNeg = n := nI_clamp (by omega)
  have hsum := Nat.le_of_ble_eq_true hs
  have hloc := Nat.le_of_ble_eq_true hlo
  intro T hT X
  obtain ⟨-, k0, hk0, cm0, hkk0⟩ := (hR.2.2.2.1.2 1 _ rfl).1 n0 (fun j => .long (f j))
  obtain ⟨-, k1, hk1, cm1, hkk1⟩ := (hR.2.2.2.1.2 1 _ rfl).1 n1 (fun j => .long (g j))
  obtain ⟨vm', X', step⟩ := X.arraycopy C.1 C.2.2.2.1 (hts _ hl) (hts _ hnat) (hts _ hst) (hts _ hini) (src := x_sg G (b0 + 2)) (dst := x_sg G (b1 + 2)) (cs := arrV (G.2.2.2.2 1) n0 (fun j => .long (f j))) (cd := arrV (G.2.2.2.2 1) n1 (fun j => .long (g j))) (srcPos := nI sp) (destPos := nI dp) (n := nI n) (by rw [hT]; exact hc0) (by rw [hT]; exact hc1)
    (fun _ h => by cases h) (fun _ h => by cases h) (fun h => by cases h) (fun h => by cases h) hk0 hk1 hkk0 hkk1 (by simp [refKind]) (nI_pos (by omega)) (nI_pos (by omega)) (nI_pos (by omega))
    (by rw [x_nn (by omega), x_nn (by omega), arrV_size]; omega)
    (by rw [x_nn (by omega), x_nn (by omega), arrV_size]; omega)
    (fun vm₁ _ i hi => by
      rw [c3] at hi
      rw [c1]
      have e : (arrV (G.2.2.2.2 1) n0 (fun j => .long (f j))).slots.getD (sp + i) .null = .long (f (sp + i)) := by
        rw [Array.getD_eq_getD_getElem?, arrV_read _ _ (by omega)]
        rfl
      refine ⟨?_, ?_⟩
      · rw [e]; rfl
      · rw [e]; exact trivial)
    (g := F0 m pc ls ((.int (nI n) :: .int (nI dp) :: .ref (x_sg G (b1 + 2)) :: .int (nI sp) :: .ref (x_sg G (b0 + 2)) :: st.map (x_cv G)))) rfl (by rw [C.2.2.1]; exact hL.1) (rest := st.map (x_cv G)) rfl (by rw [C.2.1]; exact hd) (Nat.le_of_ble_eq_true hf) (by
      rw [x_cats]
      show 2 * 0 + _ + (5 + 2 + 11) ≤ _
      omega)
  have ecp : copied (arrV (G.2.2.2.2 1) n0 (fun j => .long (f j))) (arrV (G.2.2.2.2 1) n1 (fun j => .long (g j))) (nI sp) (nI dp) (nI n) = arrV (G.2.2.2.2 1) n1 (fun j => .long (va_cpy f g sp dp n j)) := by
    have := va_copied (fun z => .long z) (G.2.2.2.2 1) (G.2.2.2.2 1) (n0 := n0) (n1 := n1) (sp := (nI sp).toNatClampNeg) (dp := (nI dp).toNatClampNeg) (n := (nI n).toNatClampNeg) f g (by rw [c1, c3]; exact h4)
    rw [c1, c2, c3] at this
    unfold copied
    rw [c1, c2, c3]
    exact this
  rw [ecp] at X' step
  have hlt : x_sg G (b1 + 2) < H.size := (Array.getElem?_eq_some_iff.mp hc1).1
  have hheap : ((T.setVm vm').setCell (x_sg G (b1 + 2)) (arrV (G.2.2.2.2 1) n1 (fun j => .long (va_cpy f g sp dp n j)))).heap = H.setIfInBounds (x_sg G (b1 + 2)) (arrV (G.2.2.2.2 1) n1 (fun j => .long (va_cpy f g sp dp n j))) := by rw [← hT]; rfl
  have oq : ∀ q : Nat, q ≠ x_sg G (b1 + 2) → (H.setIfInBounds (x_sg G (b1 + 2)) (arrV (G.2.2.2.2 1) n1 (fun j => .long (va_cpy f g sp dp n j))))[q]? = H[q]? := fun q hq => by simp [Array.getElem?_setIfInBounds, Ne.symm hq]
  have hA : G.1 ≤ x_sg G (b1 + 2) := Nat.le_add_right _ _
  obtain ⟨t, a1', b1'⟩ := kk p l e s m args below meth c G Z _ _ ls C (hR.set (hR.2.2.1.set (x_ws_D G h) (x_ws_get ha1) (show (H.setIfInBounds (x_sg G (b1 + 2)) _)[x_sg G (b1 + 2)]? = some _ by simp [Array.getElem?_setIfInBounds, hlt]; rfl) oq) (by simp) (fun q hq => oq q (fun z => hq (by rw [z]; exact hA)))) ⟨by simp; exact hS.1, fun q g1 g2 => by
      rw [oq q (fun e => g2 (by rw [e]; exact hA))]
      exact hS.2.1 q g1 g2, fun q hq => by
      rcases List.mem_append.mp hq with h | h
      · exact hS.2.2 q h
      · obtain ⟨z, -, hz⟩ := List.mem_map.mp h
        rw [← hz]
        exact hA⟩ hL _ hheap X'
  exact ⟨t, step t a1', b1'⟩
end RM
end
section
/-! THE METHODS, their words, the links -/
theorem x_mt {w : Cond} (h : w ∈ tables_1) (hg : goodWord w = true) : w ∈ x_words := List.mem_filter.mpr ⟨List.mem_append_right _ h, hg⟩
theorem x_in1 {w : Cond} (i : Nat) (h : tables_1_1[i]? = some w) (hg : goodWord w = true) : w ∈ x_words := x_mt (List.mem_append_left _ (List.mem_of_getElem? h)) hg
theorem x_in2 {w : Cond} (i : Nat) (h : tables_1_2[i]? = some w) (hg : goodWord w = true) : w ∈ x_words := x_mt (List.mem_append_right _ (List.mem_append_left _ (List.mem_of_getElem? h))) hg
theorem x_in3 {w : Cond} (i : Nat) (h : tables_1_3[i]? = some w) (hg : goodWord w = true) : w ∈ x_words := x_mt (List.mem_append_right _ (List.mem_append_right _ (List.mem_append_left _ (List.mem_of_getElem? h)))) hg
theorem x_in4 {w : Cond} (i : Nat) (h : tables_1_4[i]? = some w) (hg : goodWord w = true) : w ∈ x_words := x_mt (List.mem_append_right _ (List.mem_append_right _ (List.mem_append_right _ (List.mem_append_left _ (List.mem_of_getElem? h))))) hg
theorem x_in5 {w : Cond} (i : Nat) (h : tables_1_5[i]? = some w) (hg : goodWord w = true) : w ∈ x_words := x_mt (List.mem_append_right _ (List.mem_append_right _ (List.mem_append_right _ (List.mem_append_right _ (List.mem_of_getElem? h))))) hg
theorem x_in0 {w : Cond} (i : Nat) (h : (k2_sels lw_privs)[i]? = some w) (hg : goodWord w = true) : w ∈ x_words := List.mem_filter.mpr ⟨List.mem_append_left _ (List.mem_of_getElem? h), hg⟩
theorem xi_RJ6 : Cond.initialized RJ6 ∈ x_words := x_in1 12 (by decide +kernel) rfl
theorem xi_RJ7 : Cond.initialized RJ7 ∈ x_words := x_in1 11 (by decide +kernel) rfl
theorem xi_RJ9 : Cond.initialized RJ9 ∈ x_words := x_in1 13 (by decide +kernel) rfl
theorem xi_RL : Cond.initialized RL ∈ x_words := x_in1 0 (by decide +kernel) rfl
theorem xi_RX0 : Cond.initialized RX0 ∈ x_words := x_in1 8 (by decide +kernel) rfl
theorem xi_RX1 : Cond.initialized RX1 ∈ x_words := x_in1 3 (by decide +kernel) rfl
theorem xi_RX2 : Cond.initialized RX2 ∈ x_words := x_in1 4 (by decide +kernel) rfl
theorem xi_RX3 : Cond.initialized RX3 ∈ x_words := x_in1 6 (by decide +kernel) rfl
theorem xi_RX4 : Cond.initialized RX4 ∈ x_words := x_in1 7 (by decide +kernel) rfl
theorem xi_RX5 : Cond.initialized RX5 ∈ x_words := x_in1 2 (by decide +kernel) rfl
theorem xi_RX6 : Cond.initialized RX6 ∈ x_words := x_in1 5 (by decide +kernel) rfl
theorem xi_RX7 : Cond.initialized RX7 ∈ x_words := x_in1 1 (by decide +kernel) rfl
theorem xi_RX8 : Cond.initialized RX8 ∈ x_words := x_in1 9 (by decide +kernel) rfl
theorem xi_System : Cond.initialized "java/lang/System" ∈ x_words := x_in1 10 (by decide +kernel) rfl
theorem xi_acn : Cond.native arraycopyName ∈ x_words := x_in2 139 (by decide +kernel) rfl
theorem xi_acs : Cond.static arraycopyName ∈ x_words := x_in2 138 (by decide +kernel) rfl
theorem xi_obi : Cond.instanceMethod objectInit ∈ x_words := x_in1 20 (by decide +kernel) rfl
theorem xi_obc : Cond.code objectInit ⟨#[0xb1]⟩ 1 none ∈ x_words := x_in1 21 (by decide +kernel) rfl
theorem xi_ac_int : Cond.arrayClass .int ∈ x_words := x_in1 47 (by decide +kernel) rfl
theorem xi_ac_long : Cond.arrayClass .long ∈ x_words := x_in1 212 (by decide +kernel) rfl
theorem xi_ac_boolean : Cond.arrayClass .boolean ∈ x_words := x_in1 211 (by decide +kernel) rfl
theorem xi_inst0 : Cond.instantiable RX0 3 ∈ x_words := x_in1 231 (by decide +kernel) rfl
theorem xi_inst1 : Cond.instantiable RX1 13 ∈ x_words := x_in1 49 (by decide +kernel) rfl
theorem xi_inst2 : Cond.instantiable RX2 8 ∈ x_words := x_in1 126 (by decide +kernel) rfl
theorem xi_inst3 : Cond.instantiable RX3 4 ∈ x_words := x_in1 189 (by decide +kernel) rfl
theorem xi_inst4 : Cond.instantiable RX4 3 ∈ x_words := x_in1 214 (by decide +kernel) rfl
theorem xi_inst5 : Cond.instantiable RX5 5 ∈ x_words := x_in1 23 (by decide +kernel) rfl
theorem xi_inst6 : Cond.instantiable RX6 3 ∈ x_words := x_in1 169 (by decide +kernel) rfl
theorem xi_inst7 : Cond.instantiable RX7 13 ∈ x_words := x_in1 15 (by decide +kernel) rfl
theorem xi_inst8 : Cond.instantiable RX8 39 ∈ x_words := x_in4 10 (by decide +kernel) rfl
def m_J6_bitCount_0f7a4 : xM := (RJ6, yJ6_bitCount_0f7a4, cJ6_bitCount_0f7a4, 1, some .int, ⟨0, 0, 0, 0⟩)
theorem i_J6_bitCount_0f7a4 : x_IS m_J6_bitCount_0f7a4 1 := ⟨⟨x_in2 197 (by decide +kernel) rfl, xi_RJ6, by decide +kernel⟩, x_in2 196 (by decide +kernel) rfl⟩
def m_J7_fill_53178 : xM := (RJ7, yJ7_fill_53178, cJ7_fill_53178, 4, none, ⟨0, 0, 0, 0⟩)
theorem i_J7_fill_53178 : x_IS m_J7_fill_53178 2 := ⟨⟨x_in2 142 (by decide +kernel) rfl, xi_RJ7, by decide +kernel⟩, x_in2 141 (by decide +kernel) rfl⟩
def m_J9_floorMod_7cf53 : xM := (RJ9, yJ9_floorMod_7cf53, cJ9_floorMod_7cf53, 3, some .int, ⟨0, 0, 0, 0⟩)
theorem i_J9_floorMod_7cf53 : x_IS m_J9_floorMod_7cf53 2 := ⟨⟨x_in3 115 (by decide +kernel) rfl, xi_RJ9, by decide +kernel⟩, x_in3 114 (by decide +kernel) rfl⟩
def m_J9_max_7cf53 : xM := (RJ9, yJ9_max_7cf53, cJ9_max_7cf53, 2, some .int, ⟨0, 0, 0, 0⟩)
theorem i_J9_max_7cf53 : x_IS m_J9_max_7cf53 2 := ⟨⟨x_in3 215 (by decide +kernel) rfl, xi_RJ9, by decide +kernel⟩, x_in3 214 (by decide +kernel) rfl⟩
def m_J9_min_7cf53 : xM := (RJ9, yJ9_min_7cf53, cJ9_min_7cf53, 2, some .int, ⟨0, 0, 0, 0⟩)
theorem i_J9_min_7cf53 : x_IS m_J9_min_7cf53 2 := ⟨⟨x_in3 38 (by decide +kernel) rfl, xi_RJ9, by decide +kernel⟩, x_in3 37 (by decide +kernel) rfl⟩
def m_L_law : xM := (RL, yL_law, cL_law, 4, some .boolean, room_1)
def m_X0_append : xM := (RX0, yX0_append, cX0_append, 3, some .boolean, ⟨0, 0, 0, 0⟩)
theorem i_X0_append : x_IV m_X0_append 2 0 := ⟨⟨x_in3 223 (by decide +kernel) rfl, xi_RX0, by decide +kernel⟩, x_in3 221 (by decide +kernel) rfl, x_in3 222 (by decide +kernel) rfl, rfl⟩
def m_X0_firstWrong : xM := (RX0, yX0_firstWrong, cX0_firstWrong, 3, some .int, ⟨0, 0, 0, 0⟩)
theorem i_X0_firstWrong : x_IV m_X0_firstWrong 1 0 := ⟨⟨x_in3 231 (by decide +kernel) rfl, xi_RX0, by decide +kernel⟩, x_in3 229 (by decide +kernel) rfl, x_in3 230 (by decide +kernel) rfl, rfl⟩
def m_X0_init : xM := (RX0, yX0_init, cX0_init, 1, none, ⟨1, 2, 40, 20⟩)
theorem i_X0_init : x_II m_X0_init 0 := ⟨⟨x_in1 234 (by decide +kernel) rfl, xi_RX0, by decide +kernel⟩, rfl, x_in1 233 (by decide +kernel) rfl⟩
def m_X1_addDoor : xM := (RX1, yX1_addDoor, cX1_addDoor, 4, none, ⟨0, 0, 0, 0⟩)
theorem i_X1_addDoor : x_IV m_X1_addDoor 3 1 := ⟨⟨x_in2 112 (by decide +kernel) rfl, xi_RX1, by decide +kernel⟩, x_in2 110 (by decide +kernel) rfl, x_in2 111 (by decide +kernel) rfl, rfl⟩
def m_X1_addHeir : xM := (RX1, yX1_addHeir, cX1_addHeir, 4, none, ⟨0, 0, 0, 0⟩)
theorem i_X1_addHeir : x_IV m_X1_addHeir 3 1 := ⟨⟨x_in2 120 (by decide +kernel) rfl, xi_RX1, by decide +kernel⟩, x_in2 118 (by decide +kernel) rfl, x_in2 119 (by decide +kernel) rfl, rfl⟩
def m_X1_addRoom : xM := (RX1, yX1_addRoom, cX1_addRoom, 2, none, ⟨0, 0, 0, 0⟩)
theorem i_X1_addRoom : x_IV m_X1_addRoom 1 1 := ⟨⟨x_in2 104 (by decide +kernel) rfl, xi_RX1, by decide +kernel⟩, x_in2 102 (by decide +kernel) rfl, x_in2 103 (by decide +kernel) rfl, rfl⟩
def m_X1_behind : xM := (RX1, yX1_behind, cX1_behind, 3, some .int, ⟨0, 0, 0, 0⟩)
theorem i_X1_behind : x_IV m_X1_behind 2 1 := ⟨⟨x_in3 50 (by decide +kernel) rfl, xi_RX1, by decide +kernel⟩, x_in3 48 (by decide +kernel) rfl, x_in3 49 (by decide +kernel) rfl, rfl⟩
def m_X1_empty : xM := (RX1, yX1_empty, cX1_empty, 1, none, ⟨0, 0, 0, 0⟩)
theorem i_X1_empty : x_IV m_X1_empty 0 1 := ⟨⟨x_in2 68 (by decide +kernel) rfl, xi_RX1, by decide +kernel⟩, x_in2 66 (by decide +kernel) rfl, x_in2 67 (by decide +kernel) rfl, rfl⟩
def m_X1_hasDoor : xM := (RX1, yX1_hasDoor, cX1_hasDoor, 2, some .boolean, ⟨0, 0, 0, 0⟩)
theorem i_X1_hasDoor : x_IV m_X1_hasDoor 1 1 := ⟨⟨x_in2 227 (by decide +kernel) rfl, xi_RX1, by decide +kernel⟩, x_in2 225 (by decide +kernel) rfl, x_in2 226 (by decide +kernel) rfl, rfl⟩
def m_X1_hasHeir : xM := (RX1, yX1_hasHeir, cX1_hasHeir, 2, some .boolean, ⟨0, 0, 0, 0⟩)
theorem i_X1_hasHeir : x_IV m_X1_hasHeir 1 1 := ⟨⟨x_in2 235 (by decide +kernel) rfl, xi_RX1, by decide +kernel⟩, x_in2 233 (by decide +kernel) rfl, x_in2 234 (by decide +kernel) rfl, rfl⟩
def m_X1_hasRoom : xM := (RX1, yX1_hasRoom, cX1_hasRoom, 2, some .boolean, ⟨0, 0, 0, 0⟩)
theorem i_X1_hasRoom : x_IV m_X1_hasRoom 1 1 := ⟨⟨x_in2 208 (by decide +kernel) rfl, xi_RX1, by decide +kernel⟩, x_in2 206 (by decide +kernel) rfl, x_in2 207 (by decide +kernel) rfl, rfl⟩
def m_X1_hasRooms : xM := (RX1, yX1_hasRooms, cX1_hasRooms, 2, some .boolean, ⟨0, 0, 0, 0⟩)
theorem i_X1_hasRooms : x_IV m_X1_hasRooms 1 1 := ⟨⟨x_in3 131 (by decide +kernel) rfl, xi_RX1, by decide +kernel⟩, x_in3 129 (by decide +kernel) rfl, x_in3 130 (by decide +kernel) rfl, rfl⟩
def m_X1_heardFrom : xM := (RX1, yX1_heardFrom, cX1_heardFrom, 5, some .int, ⟨1, 0, 0, 23⟩)
theorem i_X1_heardFrom : x_IV m_X1_heardFrom 2 1 := ⟨⟨x_in3 3 (by decide +kernel) rfl, xi_RX1, by decide +kernel⟩, x_in3 1 (by decide +kernel) rfl, x_in3 2 (by decide +kernel) rfl, rfl⟩
def m_X1_init : xM := (RX1, yX1_init, cX1_init, 1, none, ⟨1, 21, 132, 20⟩)
theorem i_X1_init : x_II m_X1_init 0 := ⟨⟨x_in1 52 (by decide +kernel) rfl, xi_RX1, by decide +kernel⟩, rfl, x_in1 51 (by decide +kernel) rfl⟩
def m_X1_isEarly : xM := (RX1, yX1_isEarly, cX1_isEarly, 2, some .boolean, ⟨0, 0, 0, 0⟩)
theorem i_X1_isEarly : x_IV m_X1_isEarly 1 1 := ⟨⟨x_in3 16 (by decide +kernel) rfl, xi_RX1, by decide +kernel⟩, x_in3 14 (by decide +kernel) rfl, x_in3 15 (by decide +kernel) rfl, rfl⟩
def m_X1_isHeard : xM := (RX1, yX1_isHeard, cX1_isHeard, 4, some .boolean, ⟨0, 0, 0, 0⟩)
theorem i_X1_isHeard : x_IV m_X1_isHeard 3 1 := ⟨⟨x_in2 219 (by decide +kernel) rfl, xi_RX1, by decide +kernel⟩, x_in2 217 (by decide +kernel) rfl, x_in2 218 (by decide +kernel) rfl, rfl⟩
def m_X1_measure : xM := (RX1, yX1_measure, cX1_measure, 3, none, ⟨2, 0, 0, 48⟩)
theorem i_X1_measure : x_IV m_X1_measure 0 1 := ⟨⟨x_in2 124 (by decide +kernel) rfl, xi_RX1, by decide +kernel⟩, x_in2 122 (by decide +kernel) rfl, x_in2 123 (by decide +kernel) rfl, rfl⟩
def m_X1_nameOf : xM := (RX1, yX1_nameOf, cX1_nameOf, 3, some .int, ⟨0, 0, 0, 0⟩)
theorem i_X1_nameOf : x_IV m_X1_nameOf 2 1 := ⟨⟨x_in3 21 (by decide +kernel) rfl, xi_RX1, by decide +kernel⟩, x_in3 19 (by decide +kernel) rfl, x_in3 20 (by decide +kernel) rfl, rfl⟩
def m_X1_shorten : xM := (RX1, yX1_shorten, cX1_shorten, 5, none, ⟨0, 0, 0, 0⟩)
theorem i_X1_shorten : x_IV m_X1_shorten 4 1 := ⟨⟨x_in2 128 (by decide +kernel) rfl, xi_RX1, by decide +kernel⟩, x_in2 127 (by decide +kernel) rfl, x_in0 10 (by decide +kernel) rfl, rfl⟩
def m_X1_shortenByRoomsBetween : xM := (RX1, yX1_shortenByRoomsBetween, cX1_shortenByRoomsBetween, 5, none, ⟨1, 0, 0, 24⟩)
theorem i_X1_shortenByRoomsBetween : x_IV m_X1_shortenByRoomsBetween 1 1 := ⟨⟨x_in2 132 (by decide +kernel) rfl, xi_RX1, by decide +kernel⟩, x_in2 131 (by decide +kernel) rfl, x_in0 11 (by decide +kernel) rfl, rfl⟩
def m_X2_begin : xM := (RX2, yX2_begin, cX2_begin, 2, none, ⟨2, 0, 0, 44⟩)
theorem i_X2_begin : x_IV m_X2_begin 1 2 := ⟨⟨x_in2 136 (by decide +kernel) rfl, xi_RX2, by decide +kernel⟩, x_in2 134 (by decide +kernel) rfl, x_in2 135 (by decide +kernel) rfl, rfl⟩
def m_X2_clearNight : xM := (RX2, yX2_clearNight, cX2_clearNight, 2, none, ⟨1, 0, 0, 23⟩)
theorem i_X2_clearNight : x_IV m_X2_clearNight 0 2 := ⟨⟨x_in2 146 (by decide +kernel) rfl, xi_RX2, by decide +kernel⟩, x_in2 145 (by decide +kernel) rfl, x_in0 12 (by decide +kernel) rfl, rfl⟩
def m_X2_copyFrom : xM := (RX2, yX2_copyFrom, cX2_copyFrom, 3, none, ⟨1, 0, 0, 26⟩)
theorem i_X2_copyFrom : x_IV m_X2_copyFrom 1 2 := ⟨⟨x_in3 35 (by decide +kernel) rfl, xi_RX2, by decide +kernel⟩, x_in3 33 (by decide +kernel) rfl, x_in3 34 (by decide +kernel) rfl, rfl⟩
def m_X2_counts : xM := (RX2, yX2_counts, cX2_counts, 6, some .int, ⟨4, 0, 0, 94⟩)
theorem i_X2_counts : x_IV m_X2_counts 2 2 := ⟨⟨x_in3 8 (by decide +kernel) rfl, xi_RX2, by decide +kernel⟩, x_in3 6 (by decide +kernel) rfl, x_in3 7 (by decide +kernel) rfl, rfl⟩
def m_X2_hears : xM := (RX2, yX2_hears, cX2_hears, 3, some .int, ⟨2, 0, 0, 47⟩)
theorem i_X2_hears : x_IV m_X2_hears 2 2 := ⟨⟨x_in2 239 (by decide +kernel) rfl, xi_RX2, by decide +kernel⟩, x_in2 237 (by decide +kernel) rfl, x_in2 238 (by decide +kernel) rfl, rfl⟩
def m_X2_holder : xM := (RX2, yX2_holder, cX2_holder, 6, some .int, ⟨1, 0, 0, 24⟩)
theorem i_X2_holder : x_IV m_X2_holder 1 2 := ⟨⟨x_in2 190 (by decide +kernel) rfl, xi_RX2, by decide +kernel⟩, x_in2 188 (by decide +kernel) rfl, x_in2 189 (by decide +kernel) rfl, rfl⟩
def m_X2_holdings : xM := (RX2, yX2_holdings, cX2_holdings, 5, some .int, ⟨0, 0, 0, 0⟩)
theorem i_X2_holdings : x_IV m_X2_holdings 2 2 := ⟨⟨x_in2 194 (by decide +kernel) rfl, xi_RX2, by decide +kernel⟩, x_in2 192 (by decide +kernel) rfl, x_in2 193 (by decide +kernel) rfl, rfl⟩
def m_X2_init : xM := (RX2, yX2_init, cX2_init, 1, none, ⟨1, 8, 46, 20⟩)
theorem i_X2_init : x_II m_X2_init 0 := ⟨⟨x_in1 129 (by decide +kernel) rfl, xi_RX2, by decide +kernel⟩, rfl, x_in1 128 (by decide +kernel) rfl⟩
def m_X2_isLitAt : xM := (RX2, yX2_isLitAt, cX2_isLitAt, 3, some .boolean, ⟨1, 0, 0, 21⟩)
theorem i_X2_isLitAt : x_IV m_X2_isLitAt 2 2 := ⟨⟨x_in2 170 (by decide +kernel) rfl, xi_RX2, by decide +kernel⟩, x_in2 168 (by decide +kernel) rfl, x_in2 169 (by decide +kernel) rfl, rfl⟩
def m_X2_isOut : xM := (RX2, yX2_isOut, cX2_isOut, 2, some .boolean, ⟨0, 0, 0, 0⟩)
theorem i_X2_isOut : x_IV m_X2_isOut 1 2 := ⟨⟨x_in2 174 (by decide +kernel) rfl, xi_RX2, by decide +kernel⟩, x_in2 172 (by decide +kernel) rfl, x_in2 173 (by decide +kernel) rfl, rfl⟩
def m_X2_isSure : xM := (RX2, yX2_isSure, cX2_isSure, 4, some .boolean, ⟨1, 0, 0, 22⟩)
theorem i_X2_isSure : x_IV m_X2_isSure 1 2 := ⟨⟨x_in2 182 (by decide +kernel) rfl, xi_RX2, by decide +kernel⟩, x_in2 181 (by decide +kernel) rfl, x_in0 14 (by decide +kernel) rfl, rfl⟩
def m_X2_lightAgain : xM := (RX2, yX2_lightAgain, cX2_lightAgain, 2, none, ⟨0, 0, 0, 0⟩)
theorem i_X2_lightAgain : x_IV m_X2_lightAgain 1 2 := ⟨⟨x_in3 80 (by decide +kernel) rfl, xi_RX2, by decide +kernel⟩, x_in3 78 (by decide +kernel) rfl, x_in3 79 (by decide +kernel) rfl, rfl⟩
def m_X2_litAt : xM := (RX2, yX2_litAt, cX2_litAt, 5, some .int, ⟨2, 0, 0, 43⟩)
theorem i_X2_litAt : x_IV m_X2_litAt 2 2 := ⟨⟨x_in2 166 (by decide +kernel) rfl, xi_RX2, by decide +kernel⟩, x_in2 164 (by decide +kernel) rfl, x_in2 165 (by decide +kernel) rfl, rfl⟩
def m_X2_passHour : xM := (RX2, yX2_passHour, cX2_passHour, 3, none, ⟨2, 0, 0, 44⟩)
theorem i_X2_passHour : x_IV m_X2_passHour 1 2 := ⟨⟨x_in3 63 (by decide +kernel) rfl, xi_RX2, by decide +kernel⟩, x_in3 61 (by decide +kernel) rfl, x_in3 62 (by decide +kernel) rfl, rfl⟩
def m_X2_putOut : xM := (RX2, yX2_putOut, cX2_putOut, 2, none, ⟨0, 0, 0, 0⟩)
theorem i_X2_putOut : x_IV m_X2_putOut 1 2 := ⟨⟨x_in3 72 (by decide +kernel) rfl, xi_RX2, by decide +kernel⟩, x_in3 70 (by decide +kernel) rfl, x_in3 71 (by decide +kernel) rfl, rfl⟩
def m_X2_reached : xM := (RX2, yX2_reached, cX2_reached, 8, some .int, ⟨3, 0, 0, 67⟩)
theorem i_X2_reached : x_IV m_X2_reached 5 2 := ⟨⟨x_in3 12 (by decide +kernel) rfl, xi_RX2, by decide +kernel⟩, x_in3 10 (by decide +kernel) rfl, x_in3 11 (by decide +kernel) rfl, rfl⟩
def m_X2_speak : xM := (RX2, yX2_speak, cX2_speak, 6, none, ⟨4, 0, 0, 94⟩)
theorem i_X2_speak : x_IV m_X2_speak 2 2 := ⟨⟨x_in3 42 (by decide +kernel) rfl, xi_RX2, by decide +kernel⟩, x_in3 40 (by decide +kernel) rfl, x_in3 41 (by decide +kernel) rfl, rfl⟩
def m_X2_sure : xM := (RX2, yX2_sure, cX2_sure, 4, some .int, ⟨2, 0, 0, 45⟩)
theorem i_X2_sure : x_IV m_X2_sure 1 2 := ⟨⟨x_in2 178 (by decide +kernel) rfl, xi_RX2, by decide +kernel⟩, x_in2 176 (by decide +kernel) rfl, x_in2 177 (by decide +kernel) rfl, rfl⟩
def m_X2_will : xM := (RX2, yX2_will, cX2_will, 3, some .int, ⟨0, 0, 0, 0⟩)
theorem i_X2_will : x_IV m_X2_will 2 2 := ⟨⟨x_in2 186 (by decide +kernel) rfl, xi_RX2, by decide +kernel⟩, x_in2 184 (by decide +kernel) rfl, x_in2 185 (by decide +kernel) rfl, rfl⟩
def m_X2_worth : xM := (RX2, yX2_worth, cX2_worth, 5, some .int, ⟨1, 0, 0, 23⟩)
theorem i_X2_worth : x_IV m_X2_worth 2 2 := ⟨⟨x_in2 215 (by decide +kernel) rfl, xi_RX2, by decide +kernel⟩, x_in2 213 (by decide +kernel) rfl, x_in2 214 (by decide +kernel) rfl, rfl⟩
def m_X3_beginAtMorning : xM := (RX3, yX3_beginAtMorning, cX3_beginAtMorning, 5, none, ⟨0, 0, 0, 0⟩)
theorem i_X3_beginAtMorning : x_IV m_X3_beginAtMorning 2 3 := ⟨⟨x_in3 146 (by decide +kernel) rfl, xi_RX3, by decide +kernel⟩, x_in3 145 (by decide +kernel) rfl, x_in0 20 (by decide +kernel) rfl, rfl⟩
def m_X3_goOrStay : xM := (RX3, yX3_goOrStay, cX3_goOrStay, 7, none, ⟨1, 0, 0, 26⟩)
theorem i_X3_goOrStay : x_IV m_X3_goOrStay 2 3 := ⟨⟨x_in3 150 (by decide +kernel) rfl, xi_RX3, by decide +kernel⟩, x_in3 149 (by decide +kernel) rfl, x_in0 21 (by decide +kernel) rfl, rfl⟩
def m_X3_init : xM := (RX3, yX3_init, cX3_init, 1, none, ⟨1, 14, 96, 20⟩)
theorem i_X3_init : x_II m_X3_init 0 := ⟨⟨x_in1 192 (by decide +kernel) rfl, xi_RX3, by decide +kernel⟩, rfl, x_in1 191 (by decide +kernel) rfl⟩
def m_X3_missingOf : xM := (RX3, yX3_missingOf, cX3_missingOf, 7, some .int, ⟨1, 0, 0, 22⟩)
theorem i_X3_missingOf : x_IV m_X3_missingOf 4 3 := ⟨⟨x_in3 139 (by decide +kernel) rfl, xi_RX3, by decide +kernel⟩, x_in3 138 (by decide +kernel) rfl, x_in0 19 (by decide +kernel) rfl, rfl⟩
def m_X3_plan : xM := (RX3, yX3_plan, cX3_plan, 9, none, ⟨4, 0, 0, 94⟩)
theorem i_X3_plan : x_IV m_X3_plan 4 3 := ⟨⟨x_in3 135 (by decide +kernel) rfl, xi_RX3, by decide +kernel⟩, x_in3 133 (by decide +kernel) rfl, x_in3 134 (by decide +kernel) rfl, rfl⟩
def m_X3_sayOrNot : xM := (RX3, yX3_sayOrNot, cX3_sayOrNot, 5, none, ⟨1, 0, 0, 26⟩)
theorem i_X3_sayOrNot : x_IV m_X3_sayOrNot 3 3 := ⟨⟨x_in3 156 (by decide +kernel) rfl, xi_RX3, by decide +kernel⟩, x_in3 155 (by decide +kernel) rfl, x_in0 22 (by decide +kernel) rfl, rfl⟩
def m_X3_take : xM := (RX3, yX3_take, cX3_take, 6, none, ⟨0, 0, 0, 0⟩)
theorem i_X3_take : x_IV m_X3_take 4 3 := ⟨⟨x_in3 166 (by decide +kernel) rfl, xi_RX3, by decide +kernel⟩, x_in3 165 (by decide +kernel) rfl, x_in0 24 (by decide +kernel) rfl, rfl⟩
def m_X3_winnable : xM := (RX3, yX3_winnable, cX3_winnable, 7, some .long, ⟨0, 0, 0, 0⟩)
theorem i_X3_winnable : x_IV m_X3_winnable 2 3 := ⟨⟨x_in3 160 (by decide +kernel) rfl, xi_RX3, by decide +kernel⟩, x_in3 159 (by decide +kernel) rfl, x_in0 23 (by decide +kernel) rfl, rfl⟩
def m_X4_append : xM := (RX4, yX4_append, cX4_append, 3, some .boolean, ⟨0, 0, 0, 0⟩)
theorem i_X4_append : x_IV m_X4_append 2 4 := ⟨⟨x_in3 184 (by decide +kernel) rfl, xi_RX4, by decide +kernel⟩, x_in3 182 (by decide +kernel) rfl, x_in3 183 (by decide +kernel) rfl, rfl⟩
def m_X4_bestRoom : xM := (RX4, yX4_bestRoom, cX4_bestRoom, 8, some .int, ⟨4, 0, 0, 93⟩)
theorem i_X4_bestRoom : x_IV m_X4_bestRoom 2 4 := ⟨⟨x_in3 205 (by decide +kernel) rfl, xi_RX4, by decide +kernel⟩, x_in3 203 (by decide +kernel) rfl, x_in3 204 (by decide +kernel) rfl, rfl⟩
def m_X4_fits : xM := (RX4, yX4_fits, cX4_fits, 4, some .boolean, ⟨0, 0, 0, 0⟩)
theorem i_X4_fits : x_IV m_X4_fits 1 4 := ⟨⟨x_in3 197 (by decide +kernel) rfl, xi_RX4, by decide +kernel⟩, x_in3 196 (by decide +kernel) rfl, x_in0 25 (by decide +kernel) rfl, rfl⟩
def m_X4_greaterPart : xM := (RX4, yX4_greaterPart, cX4_greaterPart, 7, some .int, ⟨1, 0, 0, 23⟩)
theorem i_X4_greaterPart : x_IV m_X4_greaterPart 4 4 := ⟨⟨x_in3 211 (by decide +kernel) rfl, xi_RX4, by decide +kernel⟩, x_in3 210 (by decide +kernel) rfl, x_in0 26 (by decide +kernel) rfl, rfl⟩
def m_X4_init : xM := (RX4, yX4_init, cX4_init, 1, none, ⟨1, 2, 12, 20⟩)
theorem i_X4_init : x_II m_X4_init 0 := ⟨⟨x_in1 217 (by decide +kernel) rfl, xi_RX4, by decide +kernel⟩, rfl, x_in1 216 (by decide +kernel) rfl⟩
def m_X4_suspects : xM := (RX4, yX4_suspects, cX4_suspects, 5, some .int, ⟨3, 0, 0, 69⟩)
theorem i_X4_suspects : x_IV m_X4_suspects 2 4 := ⟨⟨x_in3 192 (by decide +kernel) rfl, xi_RX4, by decide +kernel⟩, x_in3 190 (by decide +kernel) rfl, x_in3 191 (by decide +kernel) rfl, rfl⟩
def m_X5_append : xM := (RX5, yX5_append, cX5_append, 2, some .boolean, ⟨0, 0, 0, 0⟩)
theorem i_X5_append : x_IV m_X5_append 1 5 := ⟨⟨x_in2 55 (by decide +kernel) rfl, xi_RX5, by decide +kernel⟩, x_in2 53 (by decide +kernel) rfl, x_in2 54 (by decide +kernel) rfl, rfl⟩
def m_X5_fail : xM := (RX5, yX5_fail, cX5_fail, 3, none, ⟨0, 0, 0, 0⟩)
theorem i_X5_fail : x_IV m_X5_fail 2 5 := ⟨⟨x_in2 80 (by decide +kernel) rfl, xi_RX5, by decide +kernel⟩, x_in2 79 (by decide +kernel) rfl, x_in0 2 (by decide +kernel) rfl, rfl⟩
def m_X5_failIf : xM := (RX5, yX5_failIf, cX5_failIf, 4, none, ⟨1, 0, 0, 22⟩)
theorem i_X5_failIf : x_IV m_X5_failIf 3 5 := ⟨⟨x_in2 88 (by decide +kernel) rfl, xi_RX5, by decide +kernel⟩, x_in2 87 (by decide +kernel) rfl, x_in0 4 (by decide +kernel) rfl, rfl⟩
def m_X5_init : xM := (RX5, yX5_init, cX5_init, 1, none, ⟨1, 1, 240, 20⟩)
theorem i_X5_init : x_II m_X5_init 0 := ⟨⟨x_in1 26 (by decide +kernel) rfl, xi_RX5, by decide +kernel⟩, rfl, x_in1 25 (by decide +kernel) rfl⟩
def m_X5_readClause : xM := (RX5, yX5_readClause, cX5_readClause, 4, none, ⟨4, 0, 0, 96⟩)
theorem i_X5_readClause : x_IV m_X5_readClause 1 5 := ⟨⟨x_in2 76 (by decide +kernel) rfl, xi_RX5, by decide +kernel⟩, x_in2 75 (by decide +kernel) rfl, x_in0 1 (by decide +kernel) rfl, rfl⟩
def m_X5_readDoor : xM := (RX5, yX5_readDoor, cX5_readDoor, 7, none, ⟨3, 0, 0, 70⟩)
theorem i_X5_readDoor : x_IV m_X5_readDoor 2 5 := ⟨⟨x_in2 108 (by decide +kernel) rfl, xi_RX5, by decide +kernel⟩, x_in2 107 (by decide +kernel) rfl, x_in0 8 (by decide +kernel) rfl, rfl⟩
def m_X5_readEnd : xM := (RX5, yX5_readEnd, cX5_readEnd, 1, some .boolean, ⟨2, 0, 0, 45⟩)
theorem i_X5_readEnd : x_IV m_X5_readEnd 0 5 := ⟨⟨x_in2 96 (by decide +kernel) rfl, xi_RX5, by decide +kernel⟩, x_in2 95 (by decide +kernel) rfl, x_in0 6 (by decide +kernel) rfl, rfl⟩
def m_X5_readHeir : xM := (RX5, yX5_readHeir, cX5_readHeir, 6, none, ⟨3, 0, 0, 70⟩)
theorem i_X5_readHeir : x_IV m_X5_readHeir 2 5 := ⟨⟨x_in2 116 (by decide +kernel) rfl, xi_RX5, by decide +kernel⟩, x_in2 115 (by decide +kernel) rfl, x_in0 9 (by decide +kernel) rfl, rfl⟩
def m_X5_readInto : xM := (RX5, yX5_readInto, cX5_readInto, 3, none, ⟨5, 0, 0, 119⟩)
theorem i_X5_readInto : x_IV m_X5_readInto 1 5 := ⟨⟨x_in2 64 (by decide +kernel) rfl, xi_RX5, by decide +kernel⟩, x_in2 62 (by decide +kernel) rfl, x_in2 63 (by decide +kernel) rfl, rfl⟩
def m_X5_readNight : xM := (RX5, yX5_readNight, cX5_readNight, 4, none, ⟨3, 0, 0, 70⟩)
theorem i_X5_readNight : x_IV m_X5_readNight 2 5 := ⟨⟨x_in2 84 (by decide +kernel) rfl, xi_RX5, by decide +kernel⟩, x_in2 83 (by decide +kernel) rfl, x_in0 3 (by decide +kernel) rfl, rfl⟩
def m_X5_readNumber : xM := (RX5, yX5_readNumber, cX5_readNumber, 6, some .int, ⟨2, 0, 0, 45⟩)
theorem i_X5_readNumber : x_IV m_X5_readNumber 2 5 := ⟨⟨x_in2 92 (by decide +kernel) rfl, xi_RX5, by decide +kernel⟩, x_in2 91 (by decide +kernel) rfl, x_in0 5 (by decide +kernel) rfl, rfl⟩
def m_X5_readRoom : xM := (RX5, yX5_readRoom, cX5_readRoom, 4, none, ⟨3, 0, 0, 70⟩)
theorem i_X5_readRoom : x_IV m_X5_readRoom 2 5 := ⟨⟨x_in2 100 (by decide +kernel) rfl, xi_RX5, by decide +kernel⟩, x_in2 99 (by decide +kernel) rfl, x_in0 7 (by decide +kernel) rfl, rfl⟩
def m_X5_skipBlanks : xM := (RX5, yX5_skipBlanks, cX5_skipBlanks, 1, none, ⟨0, 0, 0, 0⟩)
theorem i_X5_skipBlanks : x_IV m_X5_skipBlanks 0 5 := ⟨⟨x_in2 72 (by decide +kernel) rfl, xi_RX5, by decide +kernel⟩, x_in2 71 (by decide +kernel) rfl, x_in0 0 (by decide +kernel) rfl, rfl⟩
def m_X6_clear : xM := (RX6, yX6_clear, cX6_clear, 1, none, ⟨0, 0, 0, 0⟩)
theorem i_X6_clear : x_IV m_X6_clear 0 6 := ⟨⟨x_in2 150 (by decide +kernel) rfl, xi_RX6, by decide +kernel⟩, x_in2 148 (by decide +kernel) rfl, x_in2 149 (by decide +kernel) rfl, rfl⟩
def m_X6_init : xM := (RX6, yX6_init, cX6_init, 2, none, ⟨2, 271, 1650, 40⟩)
theorem i_X6_init : x_II m_X6_init 0 := ⟨⟨x_in1 172 (by decide +kernel) rfl, xi_RX6, by decide +kernel⟩, rfl, x_in1 171 (by decide +kernel) rfl⟩
def m_X6_remember : xM := (RX6, yX6_remember, cX6_remember, 2, none, ⟨2, 0, 0, 48⟩)
theorem i_X6_remember : x_IV m_X6_remember 1 6 := ⟨⟨x_in3 31 (by decide +kernel) rfl, xi_RX6, by decide +kernel⟩, x_in3 29 (by decide +kernel) rfl, x_in3 30 (by decide +kernel) rfl, rfl⟩
def m_X6_takeBack : xM := (RX6, yX6_takeBack, cX6_takeBack, 3, none, ⟨2, 0, 0, 48⟩)
theorem i_X6_takeBack : x_IV m_X6_takeBack 2 6 := ⟨⟨x_in3 112 (by decide +kernel) rfl, xi_RX6, by decide +kernel⟩, x_in3 110 (by decide +kernel) rfl, x_in3 111 (by decide +kernel) rfl, rfl⟩
def m_X7_actByDraw : xM := (RX7, yX7_actByDraw, cX7_actByDraw, 3, none, ⟨5, 0, 0, 119⟩)
theorem i_X7_actByDraw : x_IV m_X7_actByDraw 0 7 := ⟨⟨x_in3 92 (by decide +kernel) rfl, xi_RX7, by decide +kernel⟩, x_in3 91 (by decide +kernel) rfl, x_in0 16 (by decide +kernel) rfl, rfl⟩
def m_X7_ask : xM := (RX7, yX7_ask, cX7_ask, 1, some .int, ⟨5, 0, 0, 120⟩)
theorem i_X7_ask : x_IV m_X7_ask 0 7 := ⟨⟨x_in3 201 (by decide +kernel) rfl, xi_RX7, by decide +kernel⟩, x_in3 199 (by decide +kernel) rfl, x_in3 200 (by decide +kernel) rfl, rfl⟩
def m_X7_candle : xM := (RX7, yX7_candle, cX7_candle, 4, some .int, ⟨3, 0, 0, 69⟩)
theorem i_X7_candle : x_IV m_X7_candle 2 7 := ⟨⟨x_in3 84 (by decide +kernel) rfl, xi_RX7, by decide +kernel⟩, x_in3 82 (by decide +kernel) rfl, x_in3 83 (by decide +kernel) rfl, rfl⟩
def m_X7_couldBe : xM := (RX7, yX7_couldBe, cX7_couldBe, 1, some .int, ⟨4, 0, 0, 93⟩)
theorem i_X7_couldBe : x_IV m_X7_couldBe 0 7 := ⟨⟨x_in3 188 (by decide +kernel) rfl, xi_RX7, by decide +kernel⟩, x_in3 186 (by decide +kernel) rfl, x_in3 187 (by decide +kernel) rfl, rfl⟩
def m_X7_door : xM := (RX7, yX7_door, cX7_door, 3, some .int, ⟨1, 0, 0, 21⟩)
theorem i_X7_door : x_IV m_X7_door 2 7 := ⟨⟨x_in2 223 (by decide +kernel) rfl, xi_RX7, by decide +kernel⟩, x_in2 221 (by decide +kernel) rfl, x_in2 222 (by decide +kernel) rfl, rfl⟩
def m_X7_draw : xM := (RX7, yX7_draw, cX7_draw, 2, some .int, ⟨0, 0, 0, 0⟩)
theorem i_X7_draw : x_IV m_X7_draw 1 7 := ⟨⟨x_in3 96 (by decide +kernel) rfl, xi_RX7, by decide +kernel⟩, x_in3 95 (by decide +kernel) rfl, x_in0 17 (by decide +kernel) rfl, rfl⟩
def m_X7_drift : xM := (RX7, yX7_drift, cX7_drift, 4, some .int, ⟨6, 0, 0, 141⟩)
theorem i_X7_drift : x_IV m_X7_drift 1 7 := ⟨⟨x_in3 88 (by decide +kernel) rfl, xi_RX7, by decide +kernel⟩, x_in3 86 (by decide +kernel) rfl, x_in3 87 (by decide +kernel) rfl, rfl⟩
def m_X7_fault : xM := (RX7, yX7_fault, cX7_fault, 1, some .int, ⟨0, 0, 0, 0⟩)
theorem i_X7_fault : x_IV m_X7_fault 0 7 := ⟨⟨x_in2 158 (by decide +kernel) rfl, xi_RX7, by decide +kernel⟩, x_in2 156 (by decide +kernel) rfl, x_in2 157 (by decide +kernel) rfl, rfl⟩
def m_X7_feed : xM := (RX7, yX7_feed, cX7_feed, 2, some .int, ⟨1, 0, 0, 21⟩)
theorem i_X7_feed : x_IV m_X7_feed 1 7 := ⟨⟨x_in2 50 (by decide +kernel) rfl, xi_RX7, by decide +kernel⟩, x_in2 48 (by decide +kernel) rfl, x_in2 49 (by decide +kernel) rfl, rfl⟩
def m_X7_fewest : xM := (RX7, yX7_fewest, cX7_fewest, 4, some .int, ⟨5, 0, 0, 122⟩)
theorem i_X7_fewest : x_IV m_X7_fewest 3 7 := ⟨⟨x_in3 127 (by decide +kernel) rfl, xi_RX7, by decide +kernel⟩, x_in3 125 (by decide +kernel) rfl, x_in3 126 (by decide +kernel) rfl, rfl⟩
def m_X7_forgetImages : xM := (RX7, yX7_forgetImages, cX7_forgetImages, 2, none, ⟨0, 0, 0, 0⟩)
theorem i_X7_forgetImages : x_IV m_X7_forgetImages 0 7 := ⟨⟨x_in2 154 (by decide +kernel) rfl, xi_RX7, by decide +kernel⟩, x_in2 153 (by decide +kernel) rfl, x_in0 13 (by decide +kernel) rfl, rfl⟩
def m_X7_go : xM := (RX7, yX7_go, cX7_go, 4, some .int, ⟨3, 0, 0, 69⟩)
theorem i_X7_go : x_IV m_X7_go 2 7 := ⟨⟨x_in3 46 (by decide +kernel) rfl, xi_RX7, by decide +kernel⟩, x_in3 44 (by decide +kernel) rfl, x_in3 45 (by decide +kernel) rfl, rfl⟩
def m_X7_goBack : xM := (RX7, yX7_goBack, cX7_goBack, 2, some .int, ⟨2, 0, 0, 48⟩)
theorem i_X7_goBack : x_IV m_X7_goBack 1 7 := ⟨⟨x_in4 8 (by decide +kernel) rfl, xi_RX7, by decide +kernel⟩, x_in4 6 (by decide +kernel) rfl, x_in4 7 (by decide +kernel) rfl, rfl⟩
def m_X7_goByDraw : xM := (RX7, yX7_goByDraw, cX7_goByDraw, 3, none, ⟨1, 0, 0, 22⟩)
theorem i_X7_goByDraw : x_IV m_X7_goByDraw 1 7 := ⟨⟨x_in3 104 (by decide +kernel) rfl, xi_RX7, by decide +kernel⟩, x_in3 103 (by decide +kernel) rfl, x_in0 18 (by decide +kernel) rfl, rfl⟩
def m_X7_heir : xM := (RX7, yX7_heir, cX7_heir, 3, some .int, ⟨5, 0, 0, 119⟩)
theorem i_X7_heir : x_IV m_X7_heir 2 7 := ⟨⟨x_in2 231 (by decide +kernel) rfl, xi_RX7, by decide +kernel⟩, x_in2 229 (by decide +kernel) rfl, x_in2 230 (by decide +kernel) rfl, rfl⟩
def m_X7_hour : xM := (RX7, yX7_hour, cX7_hour, 4, some .int, ⟨3, 0, 0, 69⟩)
theorem i_X7_hour : x_IV m_X7_hour 1 7 := ⟨⟨x_in3 55 (by decide +kernel) rfl, xi_RX7, by decide +kernel⟩, x_in3 53 (by decide +kernel) rfl, x_in3 54 (by decide +kernel) rfl, rfl⟩
def m_X7_init : xM := (RX7, yX7_init, cX7_init, 2, none, ⟨3, 369, 2514, 61⟩)
theorem i_X7_init : x_II m_X7_init 0 := ⟨⟨x_in1 18 (by decide +kernel) rfl, xi_RX7, by decide +kernel⟩, rfl, x_in1 17 (by decide +kernel) rfl⟩
def m_X7_judge : xM := (RX7, yX7_judge, cX7_judge, 1, some .int, ⟨1, 0, 0, 22⟩)
theorem i_X7_judge : x_IV m_X7_judge 0 7 := ⟨⟨x_in3 227 (by decide +kernel) rfl, xi_RX7, by decide +kernel⟩, x_in3 225 (by decide +kernel) rfl, x_in3 226 (by decide +kernel) rfl, rfl⟩
def m_X7_keep : xM := (RX7, yX7_keep, cX7_keep, 2, some .int, ⟨2, 0, 0, 48⟩)
theorem i_X7_keep : x_IV m_X7_keep 1 7 := ⟨⟨x_in4 3 (by decide +kernel) rfl, xi_RX7, by decide +kernel⟩, x_in4 1 (by decide +kernel) rfl, x_in4 2 (by decide +kernel) rfl, rfl⟩
def m_X7_light : xM := (RX7, yX7_light, cX7_light, 2, some .int, ⟨3, 0, 0, 69⟩)
theorem i_X7_light : x_IV m_X7_light 1 7 := ⟨⟨x_in3 76 (by decide +kernel) rfl, xi_RX7, by decide +kernel⟩, x_in3 74 (by decide +kernel) rfl, x_in3 75 (by decide +kernel) rfl, rfl⟩
def m_X7_manor : xM := (RX7, yX7_manor, cX7_manor, 2, some .int, ⟨6, 0, 0, 141⟩)
theorem i_X7_manor : x_IV m_X7_manor 0 7 := ⟨⟨x_in2 60 (by decide +kernel) rfl, xi_RX7, by decide +kernel⟩, x_in2 58 (by decide +kernel) rfl, x_in2 59 (by decide +kernel) rfl, rfl⟩
def m_X7_out : xM := (RX7, yX7_out, cX7_out, 3, some .int, ⟨3, 0, 0, 69⟩)
theorem i_X7_out : x_IV m_X7_out 1 7 := ⟨⟨x_in3 67 (by decide +kernel) rfl, xi_RX7, by decide +kernel⟩, x_in3 65 (by decide +kernel) rfl, x_in3 66 (by decide +kernel) rfl, rfl⟩
def m_X7_quiet : xM := (RX7, yX7_quiet, cX7_quiet, 6, some .int, ⟨0, 0, 0, 0⟩)
theorem i_X7_quiet : x_IV m_X7_quiet 2 7 := ⟨⟨x_in3 174 (by decide +kernel) rfl, xi_RX7, by decide +kernel⟩, x_in3 172 (by decide +kernel) rfl, x_in3 173 (by decide +kernel) rfl, rfl⟩
def m_X7_reading : xM := (RX7, yX7_reading, cX7_reading, 3, some .int, ⟨1, 0, 0, 22⟩)
theorem i_X7_reading : x_IV m_X7_reading 2 7 := ⟨⟨x_in3 170 (by decide +kernel) rfl, xi_RX7, by decide +kernel⟩, x_in3 168 (by decide +kernel) rfl, x_in3 169 (by decide +kernel) rfl, rfl⟩
def m_X7_refusalOfHours : xM := (RX7, yX7_refusalOfHours, cX7_refusalOfHours, 2, some .int, ⟨0, 0, 0, 0⟩)
theorem i_X7_refusalOfHours : x_IV m_X7_refusalOfHours 1 7 := ⟨⟨x_in3 59 (by decide +kernel) rfl, xi_RX7, by decide +kernel⟩, x_in3 58 (by decide +kernel) rfl, x_in0 15 (by decide +kernel) rfl, rfl⟩
def m_X7_room : xM := (RX7, yX7_room, cX7_room, 3, some .int, ⟨2, 0, 0, 47⟩)
theorem i_X7_room : x_IV m_X7_room 2 7 := ⟨⟨x_in2 204 (by decide +kernel) rfl, xi_RX7, by decide +kernel⟩, x_in2 202 (by decide +kernel) rfl, x_in2 203 (by decide +kernel) rfl, rfl⟩
def m_X7_say : xM := (RX7, yX7_say, cX7_say, 3, some .int, ⟨5, 0, 0, 119⟩)
theorem i_X7_say : x_IV m_X7_say 1 7 := ⟨⟨x_in3 26 (by decide +kernel) rfl, xi_RX7, by decide +kernel⟩, x_in3 24 (by decide +kernel) rfl, x_in3 25 (by decide +kernel) rfl, rfl⟩
def m_X7_see : xM := (RX7, yX7_see, cX7_see, 3, some .int, ⟨1, 0, 0, 22⟩)
theorem i_X7_see : x_IV m_X7_see 2 7 := ⟨⟨x_in3 180 (by decide +kernel) rfl, xi_RX7, by decide +kernel⟩, x_in3 178 (by decide +kernel) rfl, x_in3 179 (by decide +kernel) rfl, rfl⟩
def m_X7_seed : xM := (RX7, yX7_seed, cX7_seed, 3, some .int, ⟨0, 0, 0, 0⟩)
theorem i_X7_seed : x_IV m_X7_seed 1 7 := ⟨⟨x_in3 239 (by decide +kernel) rfl, xi_RX7, by decide +kernel⟩, x_in3 237 (by decide +kernel) rfl, x_in3 238 (by decide +kernel) rfl, rfl⟩
def m_X7_tear : xM := (RX7, yX7_tear, cX7_tear, 2, some .int, ⟨0, 0, 0, 0⟩)
theorem i_X7_tear : x_IV m_X7_tear 0 7 := ⟨⟨x_in3 235 (by decide +kernel) rfl, xi_RX7, by decide +kernel⟩, x_in3 233 (by decide +kernel) rfl, x_in3 234 (by decide +kernel) rfl, rfl⟩
def m_X7_told : xM := (RX7, yX7_told, cX7_told, 2, some .int, ⟨3, 0, 0, 68⟩)
theorem i_X7_told : x_IV m_X7_told 1 7 := ⟨⟨x_in2 162 (by decide +kernel) rfl, xi_RX7, by decide +kernel⟩, x_in2 160 (by decide +kernel) rfl, x_in2 161 (by decide +kernel) rfl, rfl⟩
def m_X7_undo : xM := (RX7, yX7_undo, cX7_undo, 2, some .int, ⟨3, 0, 0, 70⟩)
theorem i_X7_undo : x_IV m_X7_undo 1 7 := ⟨⟨x_in3 108 (by decide +kernel) rfl, xi_RX7, by decide +kernel⟩, x_in3 106 (by decide +kernel) rfl, x_in3 107 (by decide +kernel) rfl, rfl⟩
def m_X7_wall : xM := (RX7, yX7_wall, cX7_wall, 3, some .int, ⟨1, 0, 0, 21⟩)
theorem i_X7_wall : x_IV m_X7_wall 2 7 := ⟨⟨x_in3 119 (by decide +kernel) rfl, xi_RX7, by decide +kernel⟩, x_in3 117 (by decide +kernel) rfl, x_in3 118 (by decide +kernel) rfl, rfl⟩
def m_X7_way : xM := (RX7, yX7_way, cX7_way, 4, some .int, ⟨1, 0, 0, 21⟩)
theorem i_X7_way : x_IV m_X7_way 2 7 := ⟨⟨x_in3 123 (by decide +kernel) rfl, xi_RX7, by decide +kernel⟩, x_in3 121 (by decide +kernel) rfl, x_in3 122 (by decide +kernel) rfl, rfl⟩
def m_X7_write : xM := (RX7, yX7_write, cX7_write, 3, some .int, ⟨1, 0, 0, 22⟩)
theorem i_X7_write : x_IV m_X7_write 2 7 := ⟨⟨x_in3 219 (by decide +kernel) rfl, xi_RX7, by decide +kernel⟩, x_in3 217 (by decide +kernel) rfl, x_in3 218 (by decide +kernel) rfl, rfl⟩
def m_X8_ask : xM := (RX8, yX8_ask, cX8_ask, 8, some .int, ⟨2, 0, 0, 49⟩)
theorem i_X8_ask : x_IV m_X8_ask 0 8 := ⟨⟨x_in5 162 (by decide +kernel) rfl, xi_RX8, by decide +kernel⟩, x_in5 160 (by decide +kernel) rfl, x_in5 161 (by decide +kernel) rfl, rfl⟩
def m_X8_at : xM := (RX8, yX8_at, cX8_at, 3, some .int, ⟨0, 0, 0, 0⟩)
theorem i_X8_at : x_IS m_X8_at 3 := ⟨⟨x_in5 128 (by decide +kernel) rfl, xi_RX8, by decide +kernel⟩, x_in5 127 (by decide +kernel) rfl⟩
def m_X8_behind : xM := (RX8, yX8_behind, cX8_behind, 3, some .int, ⟨0, 0, 0, 0⟩)
theorem i_X8_behind : x_IV m_X8_behind 2 8 := ⟨⟨x_in5 64 (by decide +kernel) rfl, xi_RX8, by decide +kernel⟩, x_in5 63 (by decide +kernel) rfl, x_in0 56 (by decide +kernel) rfl, rfl⟩
def m_X8_bits : xM := (RX8, yX8_bits, cX8_bits, 3, some .int, ⟨0, 0, 0, 0⟩)
theorem i_X8_bits : x_IS m_X8_bits 1 := ⟨⟨x_in4 231 (by decide +kernel) rfl, xi_RX8, by decide +kernel⟩, x_in4 230 (by decide +kernel) rfl⟩
def m_X8_bring : xM := (RX8, yX8_bring, cX8_bring, 6, none, ⟨0, 0, 0, 0⟩)
theorem i_X8_bring : x_IS m_X8_bring 5 := ⟨⟨x_in4 188 (by decide +kernel) rfl, xi_RX8, by decide +kernel⟩, x_in4 187 (by decide +kernel) rfl⟩
def m_X8_candle : xM := (RX8, yX8_candle, cX8_candle, 4, some .int, ⟨2, 0, 0, 45⟩)
theorem i_X8_candle : x_IV m_X8_candle 2 8 := ⟨⟨x_in5 85 (by decide +kernel) rfl, xi_RX8, by decide +kernel⟩, x_in5 83 (by decide +kernel) rfl, x_in5 84 (by decide +kernel) rfl, rfl⟩
def m_X8_couldBe : xM := (RX8, yX8_couldBe, cX8_couldBe, 6, some .int, ⟨1, 0, 0, 24⟩)
theorem i_X8_couldBe : x_IV m_X8_couldBe 0 8 := ⟨⟨x_in5 158 (by decide +kernel) rfl, xi_RX8, by decide +kernel⟩, x_in5 156 (by decide +kernel) rfl, x_in5 157 (by decide +kernel) rfl, rfl⟩
def m_X8_countsIn : xM := (RX8, yX8_countsIn, cX8_countsIn, 10, some .int, ⟨1, 0, 0, 24⟩)
theorem i_X8_countsIn : x_IV m_X8_countsIn 5 8 := ⟨⟨x_in5 39 (by decide +kernel) rfl, xi_RX8, by decide +kernel⟩, x_in5 38 (by decide +kernel) rfl, x_in0 52 (by decide +kernel) rfl, rfl⟩
def m_X8_countsOf : xM := (RX8, yX8_countsOf, cX8_countsOf, 5, some .int, ⟨2, 0, 0, 53⟩)
theorem i_X8_countsOf : x_IV m_X8_countsOf 1 8 := ⟨⟨x_in5 31 (by decide +kernel) rfl, xi_RX8, by decide +kernel⟩, x_in5 30 (by decide +kernel) rfl, x_in0 50 (by decide +kernel) rfl, rfl⟩
def m_X8_door : xM := (RX8, yX8_door, cX8_door, 3, some .int, ⟨2, 0, 0, 43⟩)
theorem i_X8_door : x_IV m_X8_door 2 8 := ⟨⟨x_in5 15 (by decide +kernel) rfl, xi_RX8, by decide +kernel⟩, x_in5 13 (by decide +kernel) rfl, x_in5 14 (by decide +kernel) rfl, rfl⟩
def m_X8_draw : xM := (RX8, yX8_draw, cX8_draw, 2, some .int, ⟨0, 0, 0, 0⟩)
theorem i_X8_draw : x_IV m_X8_draw 1 8 := ⟨⟨x_in5 97 (by decide +kernel) rfl, xi_RX8, by decide +kernel⟩, x_in5 96 (by decide +kernel) rfl, x_in0 59 (by decide +kernel) rfl, rfl⟩
def m_X8_drawn : xM := (RX8, yX8_drawn, cX8_drawn, 4, none, ⟨3, 0, 0, 78⟩)
theorem i_X8_drawn : x_IV m_X8_drawn 0 8 := ⟨⟨x_in5 93 (by decide +kernel) rfl, xi_RX8, by decide +kernel⟩, x_in5 92 (by decide +kernel) rfl, x_in0 58 (by decide +kernel) rfl, rfl⟩
def m_X8_drift : xM := (RX8, yX8_drift, cX8_drift, 3, some .int, ⟨4, 0, 0, 101⟩)
theorem i_X8_drift : x_IV m_X8_drift 1 8 := ⟨⟨x_in5 89 (by decide +kernel) rfl, xi_RX8, by decide +kernel⟩, x_in5 87 (by decide +kernel) rfl, x_in5 88 (by decide +kernel) rfl, rfl⟩
def m_X8_ends : xM := (RX8, yX8_ends, cX8_ends, 1, none, ⟨2, 0, 0, 40⟩)
theorem i_X8_ends : x_IV m_X8_ends 0 8 := ⟨⟨x_in4 173 (by decide +kernel) rfl, xi_RX8, by decide +kernel⟩, x_in4 172 (by decide +kernel) rfl, x_in0 33 (by decide +kernel) rfl, rfl⟩
def m_X8_fails : xM := (RX8, yX8_fails, cX8_fails, 2, none, ⟨0, 0, 0, 0⟩)
theorem i_X8_fails : x_IV m_X8_fails 1 8 := ⟨⟨x_in4 169 (by decide +kernel) rfl, xi_RX8, by decide +kernel⟩, x_in4 168 (by decide +kernel) rfl, x_in0 32 (by decide +kernel) rfl, rfl⟩
def m_X8_fault : xM := (RX8, yX8_fault, cX8_fault, 1, some .int, ⟨0, 0, 0, 0⟩)
theorem i_X8_fault : x_IV m_X8_fault 0 8 := ⟨⟨x_in4 200 (by decide +kernel) rfl, xi_RX8, by decide +kernel⟩, x_in4 198 (by decide +kernel) rfl, x_in4 199 (by decide +kernel) rfl, rfl⟩
def m_X8_feed : xM := (RX8, yX8_feed, cX8_feed, 2, some .int, ⟨1, 0, 0, 22⟩)
theorem i_X8_feed : x_IV m_X8_feed 1 8 := ⟨⟨x_in4 136 (by decide +kernel) rfl, xi_RX8, by decide +kernel⟩, x_in4 134 (by decide +kernel) rfl, x_in4 135 (by decide +kernel) rfl, rfl⟩
def m_X8_fewest : xM := (RX8, yX8_fewest, cX8_fewest, 6, some .int, ⟨4, 0, 0, 104⟩)
theorem i_X8_fewest : x_IV m_X8_fewest 3 8 := ⟨⟨x_in5 117 (by decide +kernel) rfl, xi_RX8, by decide +kernel⟩, x_in5 115 (by decide +kernel) rfl, x_in5 116 (by decide +kernel) rfl, rfl⟩
def m_X8_go : xM := (RX8, yX8_go, cX8_go, 4, some .int, ⟨2, 0, 0, 45⟩)
theorem i_X8_go : x_IV m_X8_go 2 8 := ⟨⟨x_in5 60 (by decide +kernel) rfl, xi_RX8, by decide +kernel⟩, x_in5 58 (by decide +kernel) rfl, x_in5 59 (by decide +kernel) rfl, rfl⟩
def m_X8_goBack : xM := (RX8, yX8_goBack, cX8_goBack, 2, some .int, ⟨1, 0, 0, 25⟩)
theorem i_X8_goBack : x_IV m_X8_goBack 1 8 := ⟨⟨x_in5 187 (by decide +kernel) rfl, xi_RX8, by decide +kernel⟩, x_in5 185 (by decide +kernel) rfl, x_in5 186 (by decide +kernel) rfl, rfl⟩
def m_X8_goesOn : xM := (RX8, yX8_goesOn, cX8_goesOn, 7, some .int, ⟨1, 0, 0, 22⟩)
theorem i_X8_goesOn : x_IV m_X8_goesOn 3 8 := ⟨⟨x_in5 132 (by decide +kernel) rfl, xi_RX8, by decide +kernel⟩, x_in5 131 (by decide +kernel) rfl, x_in0 62 (by decide +kernel) rfl, rfl⟩
def m_X8_has : xM := (RX8, yX8_has, cX8_has, 2, some .boolean, ⟨0, 0, 0, 0⟩)
theorem i_X8_has : x_IS m_X8_has 2 := ⟨⟨x_in5 11 (by decide +kernel) rfl, xi_RX8, by decide +kernel⟩, x_in5 10 (by decide +kernel) rfl⟩
def m_X8_hasRooms : xM := (RX8, yX8_hasRooms, cX8_hasRooms, 4, some .int, ⟨0, 0, 0, 0⟩)
theorem i_X8_hasRooms : x_IV m_X8_hasRooms 1 8 := ⟨⟨x_in4 228 (by decide +kernel) rfl, xi_RX8, by decide +kernel⟩, x_in4 227 (by decide +kernel) rfl, x_in0 44 (by decide +kernel) rfl, rfl⟩
def m_X8_hearsFrom : xM := (RX8, yX8_hearsFrom, cX8_hearsFrom, 5, some .int, ⟨0, 0, 0, 0⟩)
theorem i_X8_hearsFrom : x_IV m_X8_hearsFrom 2 8 := ⟨⟨x_in5 8 (by decide +kernel) rfl, xi_RX8, by decide +kernel⟩, x_in5 7 (by decide +kernel) rfl, x_in0 47 (by decide +kernel) rfl, rfl⟩
def m_X8_heir : xM := (RX8, yX8_heir, cX8_heir, 3, some .int, ⟨3, 0, 0, 77⟩)
theorem i_X8_heir : x_IV m_X8_heir 2 8 := ⟨⟨x_in5 23 (by decide +kernel) rfl, xi_RX8, by decide +kernel⟩, x_in5 21 (by decide +kernel) rfl, x_in5 22 (by decide +kernel) rfl, rfl⟩
def m_X8_here : xM := (RX8, yX8_here, cX8_here, 1, some .int, ⟨0, 0, 0, 0⟩)
theorem i_X8_here : x_IV m_X8_here 0 8 := ⟨⟨x_in4 157 (by decide +kernel) rfl, xi_RX8, by decide +kernel⟩, x_in4 156 (by decide +kernel) rfl, x_in0 29 (by decide +kernel) rfl, rfl⟩
def m_X8_holder : xM := (RX8, yX8_holder, cX8_holder, 5, some .int, ⟨1, 0, 0, 23⟩)
theorem i_X8_holder : x_IV m_X8_holder 0 8 := ⟨⟨x_in4 224 (by decide +kernel) rfl, xi_RX8, by decide +kernel⟩, x_in4 223 (by decide +kernel) rfl, x_in0 43 (by decide +kernel) rfl, rfl⟩
def m_X8_hour : xM := (RX8, yX8_hour, cX8_hour, 3, some .int, ⟨2, 0, 0, 45⟩)
theorem i_X8_hour : x_IV m_X8_hour 1 8 := ⟨⟨x_in5 69 (by decide +kernel) rfl, xi_RX8, by decide +kernel⟩, x_in5 67 (by decide +kernel) rfl, x_in5 68 (by decide +kernel) rfl, rfl⟩
def m_X8_hourOn : xM := (RX8, yX8_hourOn, cX8_hourOn, 2, none, ⟨0, 0, 0, 0⟩)
theorem i_X8_hourOn : x_IV m_X8_hourOn 0 8 := ⟨⟨x_in5 73 (by decide +kernel) rfl, xi_RX8, by decide +kernel⟩, x_in5 72 (by decide +kernel) rfl, x_in0 57 (by decide +kernel) rfl, rfl⟩
def m_X8_in : xM := (RX8, yX8_in, cX8_in, 3, some .boolean, ⟨0, 0, 0, 0⟩)
theorem i_X8_in : x_IS m_X8_in 3 := ⟨⟨x_in4 139 (by decide +kernel) rfl, xi_RX8, by decide +kernel⟩, x_in4 138 (by decide +kernel) rfl⟩
def m_X8_init : xM := (RX8, yX8_init, cX8_init, 1, none, ⟨1, 22, 10238, 20⟩)
theorem i_X8_init : x_II m_X8_init 0 := ⟨⟨x_in4 13 (by decide +kernel) rfl, xi_RX8, by decide +kernel⟩, rfl, x_in4 12 (by decide +kernel) rfl⟩
def m_X8_isDoor : xM := (RX8, yX8_isDoor, cX8_isDoor, 2, some .boolean, ⟨1, 0, 0, 22⟩)
theorem i_X8_isDoor : x_IV m_X8_isDoor 1 8 := ⟨⟨x_in5 19 (by decide +kernel) rfl, xi_RX8, by decide +kernel⟩, x_in5 18 (by decide +kernel) rfl, x_in0 48 (by decide +kernel) rfl, rfl⟩
def m_X8_isHeir : xM := (RX8, yX8_isHeir, cX8_isHeir, 2, some .boolean, ⟨1, 0, 0, 22⟩)
theorem i_X8_isHeir : x_IV m_X8_isHeir 1 8 := ⟨⟨x_in5 27 (by decide +kernel) rfl, xi_RX8, by decide +kernel⟩, x_in5 26 (by decide +kernel) rfl, x_in0 49 (by decide +kernel) rfl, rfl⟩
def m_X8_isLit : xM := (RX8, yX8_isLit, cX8_isLit, 4, some .boolean, ⟨0, 0, 0, 0⟩)
theorem i_X8_isLit : x_IV m_X8_isLit 3 8 := ⟨⟨x_in4 212 (by decide +kernel) rfl, xi_RX8, by decide +kernel⟩, x_in4 211 (by decide +kernel) rfl, x_in0 40 (by decide +kernel) rfl, rfl⟩
def m_X8_isRoom : xM := (RX8, yX8_isRoom, cX8_isRoom, 2, some .boolean, ⟨1, 0, 0, 22⟩)
theorem i_X8_isRoom : x_IV m_X8_isRoom 1 8 := ⟨⟨x_in4 239 (by decide +kernel) rfl, xi_RX8, by decide +kernel⟩, x_in4 238 (by decide +kernel) rfl, x_in0 45 (by decide +kernel) rfl, rfl⟩
def m_X8_judge : xM := (RX8, yX8_judge, cX8_judge, 2, some .int, ⟨0, 0, 0, 0⟩)
theorem i_X8_judge : x_IV m_X8_judge 0 8 := ⟨⟨x_in5 171 (by decide +kernel) rfl, xi_RX8, by decide +kernel⟩, x_in5 169 (by decide +kernel) rfl, x_in5 170 (by decide +kernel) rfl, rfl⟩
def m_X8_keep : xM := (RX8, yX8_keep, cX8_keep, 2, some .int, ⟨1, 0, 0, 25⟩)
theorem i_X8_keep : x_IV m_X8_keep 1 8 := ⟨⟨x_in5 183 (by decide +kernel) rfl, xi_RX8, by decide +kernel⟩, x_in5 181 (by decide +kernel) rfl, x_in5 182 (by decide +kernel) rfl, rfl⟩
def m_X8_latestOf : xM := (RX8, yX8_latestOf, cX8_latestOf, 8, some .int, ⟨3, 0, 0, 77⟩)
theorem i_X8_latestOf : x_IV m_X8_latestOf 3 8 := ⟨⟨x_in5 140 (by decide +kernel) rfl, xi_RX8, by decide +kernel⟩, x_in5 139 (by decide +kernel) rfl, x_in0 64 (by decide +kernel) rfl, rfl⟩
def m_X8_laysFew : xM := (RX8, yX8_laysFew, cX8_laysFew, 8, none, ⟨3, 0, 0, 77⟩)
theorem i_X8_laysFew : x_IV m_X8_laysFew 2 8 := ⟨⟨x_in5 125 (by decide +kernel) rfl, xi_RX8, by decide +kernel⟩, x_in5 124 (by decide +kernel) rfl, x_in0 61 (by decide +kernel) rfl, rfl⟩
def m_X8_laysWalls : xM := (RX8, yX8_laysWalls, cX8_laysWalls, 7, none, ⟨1, 0, 0, 24⟩)
theorem i_X8_laysWalls : x_IV m_X8_laysWalls 0 8 := ⟨⟨x_in4 192 (by decide +kernel) rfl, xi_RX8, by decide +kernel⟩, x_in4 191 (by decide +kernel) rfl, x_in0 37 (by decide +kernel) rfl, rfl⟩
def m_X8_light : xM := (RX8, yX8_light, cX8_light, 2, some .int, ⟨2, 0, 0, 45⟩)
theorem i_X8_light : x_IV m_X8_light 1 8 := ⟨⟨x_in5 81 (by decide +kernel) rfl, xi_RX8, by decide +kernel⟩, x_in5 79 (by decide +kernel) rfl, x_in5 80 (by decide +kernel) rfl, rfl⟩
def m_X8_litOf : xM := (RX8, yX8_litOf, cX8_litOf, 3, some .int, ⟨1, 0, 0, 23⟩)
theorem i_X8_litOf : x_IV m_X8_litOf 0 8 := ⟨⟨x_in4 208 (by decide +kernel) rfl, xi_RX8, by decide +kernel⟩, x_in4 207 (by decide +kernel) rfl, x_in0 39 (by decide +kernel) rfl, rfl⟩
def m_X8_manor : xM := (RX8, yX8_manor, cX8_manor, 1, some .int, ⟨6, 0, 0, 129⟩)
theorem i_X8_manor : x_IV m_X8_manor 0 8 := ⟨⟨x_in4 145 (by decide +kernel) rfl, xi_RX8, by decide +kernel⟩, x_in4 143 (by decide +kernel) rfl, x_in4 144 (by decide +kernel) rfl, rfl⟩
def m_X8_notes : xM := (RX8, yX8_notes, cX8_notes, 1, none, ⟨1, 0, 0, 25⟩)
theorem i_X8_notes : x_IV m_X8_notes 0 8 := ⟨⟨x_in5 52 (by decide +kernel) rfl, xi_RX8, by decide +kernel⟩, x_in5 51 (by decide +kernel) rfl, x_in0 54 (by decide +kernel) rfl, rfl⟩
def m_X8_number : xM := (RX8, yX8_number, cX8_number, 6, some .int, ⟨2, 0, 0, 40⟩)
theorem i_X8_number : x_IV m_X8_number 3 8 := ⟨⟨x_in4 165 (by decide +kernel) rfl, xi_RX8, by decide +kernel⟩, x_in4 164 (by decide +kernel) rfl, x_in0 31 (by decide +kernel) rfl, rfl⟩
def m_X8_out : xM := (RX8, yX8_out, cX8_out, 3, some .int, ⟨2, 0, 0, 45⟩)
theorem i_X8_out : x_IV m_X8_out 1 8 := ⟨⟨x_in5 77 (by decide +kernel) rfl, xi_RX8, by decide +kernel⟩, x_in5 75 (by decide +kernel) rfl, x_in5 76 (by decide +kernel) rfl, rfl⟩
def m_X8_passes : xM := (RX8, yX8_passes, cX8_passes, 5, none, ⟨0, 0, 0, 0⟩)
theorem i_X8_passes : x_IV m_X8_passes 3 8 := ⟨⟨x_in4 196 (by decide +kernel) rfl, xi_RX8, by decide +kernel⟩, x_in4 195 (by decide +kernel) rfl, x_in0 38 (by decide +kernel) rfl, rfl⟩
def m_X8_quiet : xM := (RX8, yX8_quiet, cX8_quiet, 6, some .int, ⟨1, 0, 0, 22⟩)
theorem i_X8_quiet : x_IV m_X8_quiet 2 8 := ⟨⟨x_in5 148 (by decide +kernel) rfl, xi_RX8, by decide +kernel⟩, x_in5 146 (by decide +kernel) rfl, x_in5 147 (by decide +kernel) rfl, rfl⟩
def m_X8_readClause : xM := (RX8, yX8_readClause, cX8_readClause, 3, none, ⟨4, 0, 0, 86⟩)
theorem i_X8_readClause : x_IV m_X8_readClause 0 8 := ⟨⟨x_in4 161 (by decide +kernel) rfl, xi_RX8, by decide +kernel⟩, x_in4 160 (by decide +kernel) rfl, x_in0 30 (by decide +kernel) rfl, rfl⟩
def m_X8_readDoor : xM := (RX8, yX8_readDoor, cX8_readDoor, 2, none, ⟨3, 0, 0, 65⟩)
theorem i_X8_readDoor : x_IV m_X8_readDoor 0 8 := ⟨⟨x_in4 181 (by decide +kernel) rfl, xi_RX8, by decide +kernel⟩, x_in4 180 (by decide +kernel) rfl, x_in0 35 (by decide +kernel) rfl, rfl⟩
def m_X8_readHeir : xM := (RX8, yX8_readHeir, cX8_readHeir, 2, none, ⟨3, 0, 0, 65⟩)
theorem i_X8_readHeir : x_IV m_X8_readHeir 0 8 := ⟨⟨x_in4 185 (by decide +kernel) rfl, xi_RX8, by decide +kernel⟩, x_in4 184 (by decide +kernel) rfl, x_in0 36 (by decide +kernel) rfl, rfl⟩
def m_X8_readManor : xM := (RX8, yX8_readManor, cX8_readManor, 2, none, ⟨5, 0, 0, 108⟩)
theorem i_X8_readManor : x_IV m_X8_readManor 0 8 := ⟨⟨x_in4 149 (by decide +kernel) rfl, xi_RX8, by decide +kernel⟩, x_in4 148 (by decide +kernel) rfl, x_in0 27 (by decide +kernel) rfl, rfl⟩
def m_X8_readRoom : xM := (RX8, yX8_readRoom, cX8_readRoom, 1, none, ⟨3, 0, 0, 65⟩)
theorem i_X8_readRoom : x_IV m_X8_readRoom 0 8 := ⟨⟨x_in4 177 (by decide +kernel) rfl, xi_RX8, by decide +kernel⟩, x_in4 176 (by decide +kernel) rfl, x_in0 34 (by decide +kernel) rfl, rfl⟩
def m_X8_reading : xM := (RX8, yX8_reading, cX8_reading, 3, some .int, ⟨2, 0, 0, 43⟩)
theorem i_X8_reading : x_IV m_X8_reading 2 8 := ⟨⟨x_in5 144 (by decide +kernel) rfl, xi_RX8, by decide +kernel⟩, x_in5 142 (by decide +kernel) rfl, x_in5 143 (by decide +kernel) rfl, rfl⟩
def m_X8_room : xM := (RX8, yX8_room, cX8_room, 3, some .int, ⟨2, 0, 0, 47⟩)
theorem i_X8_room : x_IV m_X8_room 2 8 := ⟨⟨x_in4 235 (by decide +kernel) rfl, xi_RX8, by decide +kernel⟩, x_in4 233 (by decide +kernel) rfl, x_in4 234 (by decide +kernel) rfl, rfl⟩
def m_X8_say : xM := (RX8, yX8_say, cX8_say, 3, some .int, ⟨3, 0, 0, 78⟩)
theorem i_X8_say : x_IV m_X8_say 1 8 := ⟨⟨x_in5 47 (by decide +kernel) rfl, xi_RX8, by decide +kernel⟩, x_in5 45 (by decide +kernel) rfl, x_in5 46 (by decide +kernel) rfl, rfl⟩
def m_X8_says : xM := (RX8, yX8_says, cX8_says, 6, none, ⟨2, 0, 0, 53⟩)
theorem i_X8_says : x_IV m_X8_says 1 8 := ⟨⟨x_in5 56 (by decide +kernel) rfl, xi_RX8, by decide +kernel⟩, x_in5 55 (by decide +kernel) rfl, x_in0 55 (by decide +kernel) rfl, rfl⟩
def m_X8_saysIn : xM := (RX8, yX8_saysIn, cX8_saysIn, 5, some .int, ⟨2, 0, 0, 53⟩)
theorem i_X8_saysIn : x_IV m_X8_saysIn 4 8 := ⟨⟨x_in5 136 (by decide +kernel) rfl, xi_RX8, by decide +kernel⟩, x_in5 135 (by decide +kernel) rfl, x_in0 63 (by decide +kernel) rfl, rfl⟩
def m_X8_see : xM := (RX8, yX8_see, cX8_see, 3, some .int, ⟨2, 0, 0, 43⟩)
theorem i_X8_see : x_IV m_X8_see 2 8 := ⟨⟨x_in5 154 (by decide +kernel) rfl, xi_RX8, by decide +kernel⟩, x_in5 152 (by decide +kernel) rfl, x_in5 153 (by decide +kernel) rfl, rfl⟩
def m_X8_seed : xM := (RX8, yX8_seed, cX8_seed, 3, some .int, ⟨0, 0, 0, 0⟩)
theorem i_X8_seed : x_IV m_X8_seed 1 8 := ⟨⟨x_in5 179 (by decide +kernel) rfl, xi_RX8, by decide +kernel⟩, x_in5 177 (by decide +kernel) rfl, x_in5 178 (by decide +kernel) rfl, rfl⟩
def m_X8_skips : xM := (RX8, yX8_skips, cX8_skips, 1, none, ⟨1, 0, 0, 20⟩)
theorem i_X8_skips : x_IV m_X8_skips 0 8 := ⟨⟨x_in4 153 (by decide +kernel) rfl, xi_RX8, by decide +kernel⟩, x_in4 152 (by decide +kernel) rfl, x_in0 28 (by decide +kernel) rfl, rfl⟩
def m_X8_sureOnes : xM := (RX8, yX8_sureOnes, cX8_sureOnes, 5, some .int, ⟨1, 0, 0, 23⟩)
theorem i_X8_sureOnes : x_IV m_X8_sureOnes 0 8 := ⟨⟨x_in4 216 (by decide +kernel) rfl, xi_RX8, by decide +kernel⟩, x_in4 215 (by decide +kernel) rfl, x_in0 41 (by decide +kernel) rfl, rfl⟩
def m_X8_tear : xM := (RX8, yX8_tear, cX8_tear, 2, some .int, ⟨0, 0, 0, 0⟩)
theorem i_X8_tear : x_IV m_X8_tear 0 8 := ⟨⟨x_in5 175 (by decide +kernel) rfl, xi_RX8, by decide +kernel⟩, x_in5 173 (by decide +kernel) rfl, x_in5 174 (by decide +kernel) rfl, rfl⟩
def m_X8_told : xM := (RX8, yX8_told, cX8_told, 2, some .int, ⟨2, 0, 0, 47⟩)
theorem i_X8_told : x_IV m_X8_told 1 8 := ⟨⟨x_in4 204 (by decide +kernel) rfl, xi_RX8, by decide +kernel⟩, x_in4 202 (by decide +kernel) rfl, x_in4 203 (by decide +kernel) rfl, rfl⟩
def m_X8_undo : xM := (RX8, yX8_undo, cX8_undo, 2, some .int, ⟨1, 0, 0, 25⟩)
theorem i_X8_undo : x_IV m_X8_undo 1 8 := ⟨⟨x_in5 105 (by decide +kernel) rfl, xi_RX8, by decide +kernel⟩, x_in5 103 (by decide +kernel) rfl, x_in5 104 (by decide +kernel) rfl, rfl⟩
def m_X8_wall : xM := (RX8, yX8_wall, cX8_wall, 3, some .int, ⟨2, 0, 0, 43⟩)
theorem i_X8_wall : x_IV m_X8_wall 2 8 := ⟨⟨x_in5 109 (by decide +kernel) rfl, xi_RX8, by decide +kernel⟩, x_in5 107 (by decide +kernel) rfl, x_in5 108 (by decide +kernel) rfl, rfl⟩
def m_X8_way : xM := (RX8, yX8_way, cX8_way, 4, some .int, ⟨2, 0, 0, 43⟩)
theorem i_X8_way : x_IV m_X8_way 2 8 := ⟨⟨x_in5 113 (by decide +kernel) rfl, xi_RX8, by decide +kernel⟩, x_in5 111 (by decide +kernel) rfl, x_in5 112 (by decide +kernel) rfl, rfl⟩
def m_X8_whoseOf : xM := (RX8, yX8_whoseOf, cX8_whoseOf, 3, some .int, ⟨0, 0, 0, 0⟩)
theorem i_X8_whoseOf : x_IV m_X8_whoseOf 2 8 := ⟨⟨x_in5 43 (by decide +kernel) rfl, xi_RX8, by decide +kernel⟩, x_in5 42 (by decide +kernel) rfl, x_in0 53 (by decide +kernel) rfl, rfl⟩
def m_X8_willBy : xM := (RX8, yX8_willBy, cX8_willBy, 4, some .int, ⟨0, 0, 0, 0⟩)
theorem i_X8_willBy : x_IV m_X8_willBy 2 8 := ⟨⟨x_in4 220 (by decide +kernel) rfl, xi_RX8, by decide +kernel⟩, x_in4 219 (by decide +kernel) rfl, x_in0 42 (by decide +kernel) rfl, rfl⟩
def m_X8_wonOf : xM := (RX8, yX8_wonOf, cX8_wonOf, 4, some .int, ⟨1, 0, 0, 23⟩)
theorem i_X8_wonOf : x_IV m_X8_wonOf 1 8 := ⟨⟨x_in5 121 (by decide +kernel) rfl, xi_RX8, by decide +kernel⟩, x_in5 120 (by decide +kernel) rfl, x_in0 60 (by decide +kernel) rfl, rfl⟩
def m_X8_wordedOf : xM := (RX8, yX8_wordedOf, cX8_wordedOf, 4, some .int, ⟨0, 0, 0, 0⟩)
theorem i_X8_wordedOf : x_IV m_X8_wordedOf 1 8 := ⟨⟨x_in5 35 (by decide +kernel) rfl, xi_RX8, by decide +kernel⟩, x_in5 34 (by decide +kernel) rfl, x_in0 51 (by decide +kernel) rfl, rfl⟩
def m_X8_worthOf : xM := (RX8, yX8_worthOf, cX8_worthOf, 4, some .int, ⟨1, 0, 0, 24⟩)
theorem i_X8_worthOf : x_IV m_X8_worthOf 1 8 := ⟨⟨x_in5 4 (by decide +kernel) rfl, xi_RX8, by decide +kernel⟩, x_in5 3 (by decide +kernel) rfl, x_in0 46 (by decide +kernel) rfl, rfl⟩
def m_X8_write : xM := (RX8, yX8_write, cX8_write, 3, some .int, ⟨2, 0, 0, 43⟩)
theorem i_X8_write : x_IV m_X8_write 2 8 := ⟨⟨x_in5 167 (by decide +kernel) rfl, xi_RX8, by decide +kernel⟩, x_in5 165 (by decide +kernel) rfl, x_in5 166 (by decide +kernel) rfl, rfl⟩
theorem l_X7_1 : Cond.methodLink RX7 1 objectInit ∈ x_words := x_in1 19 (by decide +kernel) rfl
theorem k_X7_7 : Cond.classLink RX7 7 "LastSentence$Text" ∈ x_words := x_in1 22 (by decide +kernel) rfl
theorem f_X7_10 : x_FL RX7 10 7 0 (.object "LastSentence$Text") true := ⟨_, rfl, by decide, x_in2 7 (by decide +kernel) rfl, by decide +kernel, rfl, rfl⟩
theorem k_X7_16 : Cond.classLink RX7 16 "LastSentence$House" ∈ x_words := x_in1 48 (by decide +kernel) rfl
theorem f_X7_19 : x_FL RX7 19 7 1 (.object "LastSentence$House") false := ⟨_, rfl, by decide, x_in2 8 (by decide +kernel) rfl, by decide +kernel, rfl, rfl⟩
theorem f_X7_23 : x_FL RX7 23 7 2 (.object "LastSentence$House") false := ⟨_, rfl, by decide, x_in2 9 (by decide +kernel) rfl, by decide +kernel, rfl, rfl⟩
theorem k_X7_26 : Cond.classLink RX7 26 "LastSentence$Night" ∈ x_words := x_in1 125 (by decide +kernel) rfl
theorem f_X7_29 : x_FL RX7 29 7 3 (.object "LastSentence$Night") true := ⟨_, rfl, by decide, x_in2 10 (by decide +kernel) rfl, by decide +kernel, rfl, rfl⟩
theorem k_X7_33 : Cond.classLink RX7 33 "LastSentence$Trail" ∈ x_words := x_in1 168 (by decide +kernel) rfl
theorem l_X7_35 : Cond.methodLink RX7 35 yX6_init ∈ x_words := x_in1 170 (by decide +kernel) rfl
theorem f_X7_36 : x_FL RX7 36 7 4 (.object "LastSentence$Trail") true := ⟨_, rfl, by decide, x_in2 11 (by decide +kernel) rfl, by decide +kernel, rfl, rfl⟩
theorem f_X7_40 : x_FL RX7 40 7 5 (.array (.object "LastSentence$Night")) true := ⟨_, rfl, by decide, x_in2 12 (by decide +kernel) rfl, by decide +kernel, rfl, rfl⟩
theorem f_X7_44 : x_FL RX7 44 7 6 (.array .int) true := ⟨_, rfl, by decide, x_in2 13 (by decide +kernel) rfl, by decide +kernel, rfl, rfl⟩
theorem f_X7_48 : x_FL RX7 48 7 7 (.array .boolean) true := ⟨_, rfl, by decide, x_in2 14 (by decide +kernel) rfl, by decide +kernel, rfl, rfl⟩
theorem k_X7_52 : Cond.classLink RX7 52 "LastSentence$Planner" ∈ x_words := x_in1 188 (by decide +kernel) rfl
theorem f_X7_55 : x_FL RX7 55 7 8 (.object "LastSentence$Planner") true := ⟨_, rfl, by decide, x_in2 15 (by decide +kernel) rfl, by decide +kernel, rfl, rfl⟩
theorem k_X7_59 : Cond.classLink RX7 59 "LastSentence$Seen" ∈ x_words := x_in1 213 (by decide +kernel) rfl
theorem f_X7_62 : x_FL RX7 62 7 9 (.object "LastSentence$Seen") true := ⟨_, rfl, by decide, x_in2 16 (by decide +kernel) rfl, by decide +kernel, rfl, rfl⟩
theorem k_X7_66 : Cond.classLink RX7 66 "LastSentence$Book" ∈ x_words := x_in1 230 (by decide +kernel) rfl
theorem f_X7_69 : x_FL RX7 69 7 10 (.object "LastSentence$Book") true := ⟨_, rfl, by decide, x_in2 17 (by decide +kernel) rfl, by decide +kernel, rfl, rfl⟩
theorem f_X7_73 : x_FL RX7 73 7 11 (.int) false := ⟨_, rfl, by decide, x_in2 18 (by decide +kernel) rfl, by decide +kernel, rfl, rfl⟩
theorem f_X7_77 : x_FL RX7 77 7 12 (.int) false := ⟨_, rfl, by decide, x_in2 19 (by decide +kernel) rfl, by decide +kernel, rfl, rfl⟩
theorem k_X7_80 : Cond.constant RX7 80 (-1000000002) ∈ x_words := x_in2 51 (by decide +kernel) rfl
theorem l_X7_81 : Cond.methodLink RX7 81 yX5_append ∈ x_words := x_in2 52 (by decide +kernel) rfl
theorem f_X7_85 : x_FL RX7 85 5 1 (.int) false := ⟨_, rfl, by decide, x_in1 30 (by decide +kernel) rfl, by decide +kernel, rfl, rfl⟩
theorem k_X7_88 : Cond.constant RX7 88 (-1000000004) ∈ x_words := x_in2 56 (by decide +kernel) rfl
theorem l_X7_89 : Cond.methodLink RX7 89 yX5_readInto ∈ x_words := x_in2 61 (by decide +kernel) rfl
theorem f_X7_93 : x_FL RX7 93 5 3 (.int) false := ⟨_, rfl, by decide, x_in1 34 (by decide +kernel) rfl, by decide +kernel, rfl, rfl⟩
theorem f_X7_96 : x_FL RX7 96 5 2 (.int) false := ⟨_, rfl, by decide, x_in1 32 (by decide +kernel) rfl, by decide +kernel, rfl, rfl⟩
theorem l_X7_99 : Cond.methodLink RX7 99 yX1_measure ∈ x_words := x_in2 121 (by decide +kernel) rfl
theorem l_X7_102 : Cond.methodLink RX7 102 yX2_begin ∈ x_words := x_in2 133 (by decide +kernel) rfl
theorem l_X7_105 : Cond.methodLink RX7 105 yX6_clear ∈ x_words := x_in2 147 (by decide +kernel) rfl
theorem l_X7_108 : Cond.methodLink RX7 108 yX7_forgetImages ∈ x_words := x_in2 151 (by decide +kernel) rfl
theorem f_X7_111 : x_FL RX7 111 4 0 (.int) false := ⟨_, rfl, by decide, x_in1 220 (by decide +kernel) rfl, by decide +kernel, rfl, rfl⟩
theorem f_X7_114 : x_FL RX7 114 0 0 (.int) false := ⟨_, rfl, by decide, x_in1 237 (by decide +kernel) rfl, by decide +kernel, rfl, rfl⟩
theorem f_X7_115 : x_FL RX7 115 1 3 (.int) false := ⟨_, rfl, by decide, x_in1 73 (by decide +kernel) rfl, by decide +kernel, rfl, rfl⟩
theorem f_X7_118 : x_FL RX7 118 1 0 (.int) false := ⟨_, rfl, by decide, x_in1 60 (by decide +kernel) rfl, by decide +kernel, rfl, rfl⟩
theorem f_X7_121 : x_FL RX7 121 1 1 (.int) false := ⟨_, rfl, by decide, x_in1 65 (by decide +kernel) rfl, by decide +kernel, rfl, rfl⟩
theorem f_X7_124 : x_FL RX7 124 1 2 (.int) false := ⟨_, rfl, by decide, x_in1 69 (by decide +kernel) rfl, by decide +kernel, rfl, rfl⟩
theorem f_X7_127 : x_FL RX7 127 2 0 (.int) false := ⟨_, rfl, by decide, x_in1 134 (by decide +kernel) rfl, by decide +kernel, rfl, rfl⟩
theorem f_X7_130 : x_FL RX7 130 2 1 (.int) false := ⟨_, rfl, by decide, x_in1 136 (by decide +kernel) rfl, by decide +kernel, rfl, rfl⟩
theorem f_X7_133 : x_FL RX7 133 2 2 (.int) false := ⟨_, rfl, by decide, x_in1 138 (by decide +kernel) rfl, by decide +kernel, rfl, rfl⟩
theorem l_X7_136 : Cond.methodLink RX7 136 yX2_litAt ∈ x_words := x_in2 163 (by decide +kernel) rfl
theorem l_X7_140 : Cond.methodLink RX7 140 yX2_sure ∈ x_words := x_in2 175 (by decide +kernel) rfl
theorem l_X7_144 : Cond.methodLink RX7 144 yX2_holder ∈ x_words := x_in2 187 (by decide +kernel) rfl
theorem f_X7_147 : x_FL RX7 147 6 1 (.int) false := ⟨_, rfl, by decide, x_in1 179 (by decide +kernel) rfl, by decide +kernel, rfl, rfl⟩
theorem l_X7_148 : Cond.methodLink RX7 148 yX1_hasRoom ∈ x_words := x_in2 205 (by decide +kernel) rfl
theorem k_X7_151 : Cond.constant RX7 151 (-1000000001) ∈ x_words := x_in2 209 (by decide +kernel) rfl
theorem f_X7_152 : x_FL RX7 152 2 4 (.array .int) true := ⟨_, rfl, by decide, x_in1 141 (by decide +kernel) rfl, by decide +kernel, rfl, rfl⟩
theorem l_X7_155 : Cond.methodLink RX7 155 yX2_isOut ∈ x_words := x_in2 210 (by decide +kernel) rfl
theorem f_X7_158 : x_FL RX7 158 2 5 (.array .int) true := ⟨_, rfl, by decide, x_in1 144 (by decide +kernel) rfl, by decide +kernel, rfl, rfl⟩
theorem f_X7_161 : x_FL RX7 161 2 7 (.array (.array .int)) true := ⟨_, rfl, by decide, x_in1 150 (by decide +kernel) rfl, by decide +kernel, rfl, rfl⟩
theorem l_X7_165 : Cond.methodLink RX7 165 yX2_will ∈ x_words := x_in2 211 (by decide +kernel) rfl
theorem l_X7_169 : Cond.methodLink RX7 169 yX2_worth ∈ x_words := x_in2 212 (by decide +kernel) rfl
theorem l_X7_172 : Cond.methodLink RX7 172 yX1_hasDoor ∈ x_words := x_in2 224 (by decide +kernel) rfl
theorem f_X7_175 : x_FL RX7 175 1 5 (.array .int) true := ⟨_, rfl, by decide, x_in1 80 (by decide +kernel) rfl, by decide +kernel, rfl, rfl⟩
theorem f_X7_178 : x_FL RX7 178 1 6 (.array .int) true := ⟨_, rfl, by decide, x_in1 83 (by decide +kernel) rfl, by decide +kernel, rfl, rfl⟩
theorem f_X7_181 : x_FL RX7 181 1 7 (.array .int) true := ⟨_, rfl, by decide, x_in1 85 (by decide +kernel) rfl, by decide +kernel, rfl, rfl⟩
theorem l_X7_184 : Cond.methodLink RX7 184 yX1_hasHeir ∈ x_words := x_in2 232 (by decide +kernel) rfl
theorem f_X7_187 : x_FL RX7 187 1 8 (.array .int) true := ⟨_, rfl, by decide, x_in1 87 (by decide +kernel) rfl, by decide +kernel, rfl, rfl⟩
theorem f_X7_190 : x_FL RX7 190 1 9 (.array .int) true := ⟨_, rfl, by decide, x_in1 90 (by decide +kernel) rfl, by decide +kernel, rfl, rfl⟩
theorem f_X7_193 : x_FL RX7 193 2 6 (.array .int) true := ⟨_, rfl, by decide, x_in1 148 (by decide +kernel) rfl, by decide +kernel, rfl, rfl⟩
theorem l_X7_196 : Cond.methodLink RX7 196 yX2_hears ∈ x_words := x_in2 236 (by decide +kernel) rfl
theorem l_X7_199 : Cond.methodLink RX7 199 yX2_counts ∈ x_words := x_in3 5 (by decide +kernel) rfl
theorem l_X7_202 : Cond.methodLink RX7 202 yX2_holdings ∈ x_words := x_in3 22 (by decide +kernel) rfl
theorem k_X7_205 : Cond.constant RX7 205 (90000) ∈ x_words := x_in3 27 (by decide +kernel) rfl
theorem l_X7_206 : Cond.methodLink RX7 206 yX6_remember ∈ x_words := x_in3 28 (by decide +kernel) rfl
theorem l_X7_210 : Cond.methodLink RX7 210 yX2_speak ∈ x_words := x_in3 39 (by decide +kernel) rfl
theorem l_X7_214 : Cond.methodLink RX7 214 yX1_behind ∈ x_words := x_in3 47 (by decide +kernel) rfl
theorem k_X7_217 : Cond.constant RX7 217 (-1000000003) ∈ x_words := x_in3 51 (by decide +kernel) rfl
theorem l_X7_218 : Cond.methodLink RX7 218 yX7_refusalOfHours ∈ x_words := x_in3 56 (by decide +kernel) rfl
theorem l_X7_222 : Cond.methodLink RX7 222 yX2_passHour ∈ x_words := x_in3 60 (by decide +kernel) rfl
theorem l_X7_225 : Cond.methodLink RX7 225 yX2_isLitAt ∈ x_words := x_in3 68 (by decide +kernel) rfl
theorem l_X7_229 : Cond.methodLink RX7 229 yX2_putOut ∈ x_words := x_in3 69 (by decide +kernel) rfl
theorem l_X7_233 : Cond.methodLink RX7 233 yX2_lightAgain ∈ x_words := x_in3 77 (by decide +kernel) rfl
theorem l_X7_236 : Cond.methodLink RX7 236 yX7_actByDraw ∈ x_words := x_in3 89 (by decide +kernel) rfl
theorem l_X7_239 : Cond.methodLink RX7 239 yX6_takeBack ∈ x_words := x_in3 109 (by decide +kernel) rfl
theorem l_X7_243 : Cond.methodLink RX7 243 yX7_draw ∈ x_words := x_in3 93 (by decide +kernel) rfl
theorem l_X7_246 : Cond.methodLink RX7 246 yX7_goByDraw ∈ x_words := x_in3 101 (by decide +kernel) rfl
theorem k_X7_249 : Cond.constantLong RX7 249 (1103515245) ∈ x_words := x_in3 97 (by decide +kernel) rfl
theorem k_X7_251 : Cond.constantLong RX7 251 (12345) ∈ x_words := x_in3 98 (by decide +kernel) rfl
theorem k_X7_253 : Cond.constantLong RX7 253 (2147483647) ∈ x_words := x_in3 99 (by decide +kernel) rfl
theorem k_X7_255 : Cond.constant RX7 255 (65536) ∈ x_words := x_in3 100 (by decide +kernel) rfl
theorem f_X7_256 : x_FL RX7 256 1 11 (.array (.array .int)) true := ⟨_, rfl, by decide, x_in1 94 (by decide +kernel) rfl, by decide +kernel, rfl, rfl⟩
theorem f_X7_259 : x_FL RX7 259 1 12 (.array (.array .int)) true := ⟨_, rfl, by decide, x_in1 97 (by decide +kernel) rfl, by decide +kernel, rfl, rfl⟩
theorem l_X7_262 : Cond.methodLink RX7 262 yX1_hasRooms ∈ x_words := x_in3 128 (by decide +kernel) rfl
theorem l_X7_265 : Cond.methodLink RX7 265 yX3_plan ∈ x_words := x_in3 132 (by decide +kernel) rfl
theorem f_X7_269 : x_FL RX7 269 3 0 (.int) false := ⟨_, rfl, by decide, x_in1 197 (by decide +kernel) rfl, by decide +kernel, rfl, rfl⟩
theorem f_X7_272 : x_FL RX7 272 3 1 (.int) false := ⟨_, rfl, by decide, x_in1 199 (by decide +kernel) rfl, by decide +kernel, rfl, rfl⟩
theorem k_X7_275 : Cond.constantLong RX7 275 (1000000000) ∈ x_words := x_in3 175 (by decide +kernel) rfl
theorem k_X7_277 : Cond.constantLong RX7 277 (100) ∈ x_words := x_in3 176 (by decide +kernel) rfl
theorem l_X7_279 : Cond.methodLink RX7 279 yX4_append ∈ x_words := x_in3 181 (by decide +kernel) rfl
theorem l_X7_282 : Cond.methodLink RX7 282 yX4_suspects ∈ x_words := x_in3 189 (by decide +kernel) rfl
theorem l_X7_286 : Cond.methodLink RX7 286 yX4_bestRoom ∈ x_words := x_in3 202 (by decide +kernel) rfl
theorem l_X7_289 : Cond.methodLink RX7 289 yX0_append ∈ x_words := x_in3 220 (by decide +kernel) rfl
theorem l_X7_291 : Cond.methodLink RX7 291 yX0_firstWrong ∈ x_words := x_in3 228 (by decide +kernel) rfl
theorem l_X7_295 : Cond.methodLink RX7 295 yX2_copyFrom ∈ x_words := x_in4 4 (by decide +kernel) rfl
theorem l_X0_3 : Cond.methodLink RX0 3 objectInit ∈ x_words := x_in1 235 (by decide +kernel) rfl
theorem f_X0_9 : x_FL RX0 9 0 0 (.int) false := ⟨_, rfl, by decide, x_in1 236 (by decide +kernel) rfl, by decide +kernel, rfl, rfl⟩
theorem f_X0_15 : x_FL RX0 15 0 1 (.array .int) true := ⟨_, rfl, by decide, x_in1 238 (by decide +kernel) rfl, by decide +kernel, rfl, rfl⟩
theorem f_X0_19 : x_FL RX0 19 0 2 (.array .int) true := ⟨_, rfl, by decide, x_in1 239 (by decide +kernel) rfl, by decide +kernel, rfl, rfl⟩
theorem f_X0_22 : x_FL RX0 22 2 5 (.array .int) true := ⟨_, rfl, by decide, x_in1 143 (by decide +kernel) rfl, by decide +kernel, rfl, rfl⟩
theorem l_X1_3 : Cond.methodLink RX1 3 objectInit ∈ x_words := x_in1 53 (by decide +kernel) rfl
theorem f_X1_9 : x_FL RX1 9 1 0 (.int) false := ⟨_, rfl, by decide, x_in1 56 (by decide +kernel) rfl, by decide +kernel, rfl, rfl⟩
theorem f_X1_15 : x_FL RX1 15 1 1 (.int) false := ⟨_, rfl, by decide, x_in1 61 (by decide +kernel) rfl, by decide +kernel, rfl, rfl⟩
theorem f_X1_18 : x_FL RX1 18 1 2 (.int) false := ⟨_, rfl, by decide, x_in1 67 (by decide +kernel) rfl, by decide +kernel, rfl, rfl⟩
theorem f_X1_21 : x_FL RX1 21 1 3 (.int) false := ⟨_, rfl, by decide, x_in1 71 (by decide +kernel) rfl, by decide +kernel, rfl, rfl⟩
theorem f_X1_24 : x_FL RX1 24 1 4 (.array .int) true := ⟨_, rfl, by decide, x_in1 76 (by decide +kernel) rfl, by decide +kernel, rfl, rfl⟩
theorem f_X1_28 : x_FL RX1 28 1 5 (.array .int) true := ⟨_, rfl, by decide, x_in1 78 (by decide +kernel) rfl, by decide +kernel, rfl, rfl⟩
theorem f_X1_31 : x_FL RX1 31 1 6 (.array .int) true := ⟨_, rfl, by decide, x_in1 81 (by decide +kernel) rfl, by decide +kernel, rfl, rfl⟩
theorem f_X1_34 : x_FL RX1 34 1 7 (.array .int) true := ⟨_, rfl, by decide, x_in1 84 (by decide +kernel) rfl, by decide +kernel, rfl, rfl⟩
theorem f_X1_37 : x_FL RX1 37 1 8 (.array .int) true := ⟨_, rfl, by decide, x_in1 86 (by decide +kernel) rfl, by decide +kernel, rfl, rfl⟩
theorem f_X1_40 : x_FL RX1 40 1 9 (.array .int) true := ⟨_, rfl, by decide, x_in1 89 (by decide +kernel) rfl, by decide +kernel, rfl, rfl⟩
theorem f_X1_43 : x_FL RX1 43 1 10 (.array .int) true := ⟨_, rfl, by decide, x_in1 91 (by decide +kernel) rfl, by decide +kernel, rfl, rfl⟩
theorem k_X1_46 : Cond.classLink RX1 46 "[[I" ∈ x_words := x_in1 54 (by decide +kernel) rfl
theorem f_X1_48 : x_FL RX1 48 1 11 (.array (.array .int)) true := ⟨_, rfl, by decide, x_in1 93 (by decide +kernel) rfl, by decide +kernel, rfl, rfl⟩
theorem f_X1_51 : x_FL RX1 51 1 12 (.array (.array .int)) true := ⟨_, rfl, by decide, x_in1 95 (by decide +kernel) rfl, by decide +kernel, rfl, rfl⟩
theorem l_X1_54 : Cond.methodLink RX1 54 yX1_isHeard ∈ x_words := x_in3 4 (by decide +kernel) rfl
theorem l_X1_58 : Cond.methodLink RX1 58 yX1_shorten ∈ x_words := x_in2 125 (by decide +kernel) rfl
theorem l_X1_62 : Cond.methodLink RX1 62 yX1_shortenByRoomsBetween ∈ x_words := x_in2 129 (by decide +kernel) rfl
theorem l_X2_3 : Cond.methodLink RX2 3 objectInit ∈ x_words := x_in1 130 (by decide +kernel) rfl
theorem f_X2_9 : x_FL RX2 9 2 0 (.int) false := ⟨_, rfl, by decide, x_in1 132 (by decide +kernel) rfl, by decide +kernel, rfl, rfl⟩
theorem f_X2_15 : x_FL RX2 15 2 1 (.int) false := ⟨_, rfl, by decide, x_in1 135 (by decide +kernel) rfl, by decide +kernel, rfl, rfl⟩
theorem f_X2_18 : x_FL RX2 18 2 2 (.int) false := ⟨_, rfl, by decide, x_in1 137 (by decide +kernel) rfl, by decide +kernel, rfl, rfl⟩
theorem f_X2_21 : x_FL RX2 21 2 3 (.int) false := ⟨_, rfl, by decide, x_in1 139 (by decide +kernel) rfl, by decide +kernel, rfl, rfl⟩
theorem f_X2_24 : x_FL RX2 24 2 4 (.array .int) true := ⟨_, rfl, by decide, x_in1 140 (by decide +kernel) rfl, by decide +kernel, rfl, rfl⟩
theorem f_X2_28 : x_FL RX2 28 2 5 (.array .int) true := ⟨_, rfl, by decide, x_in1 142 (by decide +kernel) rfl, by decide +kernel, rfl, rfl⟩
theorem f_X2_31 : x_FL RX2 31 2 6 (.array .int) true := ⟨_, rfl, by decide, x_in1 145 (by decide +kernel) rfl, by decide +kernel, rfl, rfl⟩
theorem k_X2_34 : Cond.classLink RX2 34 "[[I" ∈ x_words := x_in1 131 (by decide +kernel) rfl
theorem f_X2_36 : x_FL RX2 36 2 7 (.array (.array .int)) true := ⟨_, rfl, by decide, x_in1 149 (by decide +kernel) rfl, by decide +kernel, rfl, rfl⟩
theorem f_X2_39 : x_FL RX2 39 1 4 (.array .int) true := ⟨_, rfl, by decide, x_in1 77 (by decide +kernel) rfl, by decide +kernel, rfl, rfl⟩
theorem l_X2_42 : Cond.methodLink RX2 42 arraycopyName ∈ x_words := x_in2 137 (by decide +kernel) rfl
theorem f_X2_48 : x_FL RX2 48 1 10 (.array .int) true := ⟨_, rfl, by decide, x_in1 92 (by decide +kernel) rfl, by decide +kernel, rfl, rfl⟩
theorem l_X2_51 : Cond.methodLink RX2 51 yJ7_fill_53178 ∈ x_words := x_in2 140 (by decide +kernel) rfl
theorem l_X2_57 : Cond.methodLink RX2 57 yX2_clearNight ∈ x_words := x_in2 143 (by decide +kernel) rfl
theorem f_X2_60 : x_FL RX2 60 1 0 (.int) false := ⟨_, rfl, by decide, x_in1 59 (by decide +kernel) rfl, by decide +kernel, rfl, rfl⟩
theorem f_X2_63 : x_FL RX2 63 1 1 (.int) false := ⟨_, rfl, by decide, x_in1 64 (by decide +kernel) rfl, by decide +kernel, rfl, rfl⟩
theorem l_X2_66 : Cond.methodLink RX2 66 yX2_will ∈ x_words := x_in2 183 (by decide +kernel) rfl
theorem l_X2_70 : Cond.methodLink RX2 70 yX2_isOut ∈ x_words := x_in2 171 (by decide +kernel) rfl
theorem l_X2_74 : Cond.methodLink RX2 74 yX2_isLitAt ∈ x_words := x_in2 167 (by decide +kernel) rfl
theorem l_X2_78 : Cond.methodLink RX2 78 yX1_heardFrom ∈ x_words := x_in3 0 (by decide +kernel) rfl
theorem f_X2_81 : x_FL RX2 81 1 8 (.array .int) true := ⟨_, rfl, by decide, x_in1 88 (by decide +kernel) rfl, by decide +kernel, rfl, rfl⟩
theorem l_X2_84 : Cond.methodLink RX2 84 yX1_isEarly ∈ x_words := x_in3 13 (by decide +kernel) rfl
theorem l_X2_87 : Cond.methodLink RX2 87 yX2_litAt ∈ x_words := x_in3 17 (by decide +kernel) rfl
theorem l_X2_91 : Cond.methodLink RX2 91 yX2_reached ∈ x_words := x_in3 9 (by decide +kernel) rfl
theorem l_X2_95 : Cond.methodLink RX2 95 yX1_nameOf ∈ x_words := x_in3 18 (by decide +kernel) rfl
theorem l_X2_98 : Cond.methodLink RX2 98 yX2_isSure ∈ x_words := x_in2 179 (by decide +kernel) rfl
theorem f_X2_101 : x_FL RX2 101 1 3 (.int) false := ⟨_, rfl, by decide, x_in1 75 (by decide +kernel) rfl, by decide +kernel, rfl, rfl⟩
theorem l_X2_104 : Cond.methodLink RX2 104 yX1_isHeard ∈ x_words := x_in2 216 (by decide +kernel) rfl
theorem l_X2_108 : Cond.methodLink RX2 108 yX2_holdings ∈ x_words := x_in2 191 (by decide +kernel) rfl
theorem l_X2_111 : Cond.methodLink RX2 111 yJ6_bitCount_0f7a4 ∈ x_words := x_in2 195 (by decide +kernel) rfl
theorem l_X3_3 : Cond.methodLink RX3 3 objectInit ∈ x_words := x_in1 193 (by decide +kernel) rfl
theorem f_X3_9 : x_FL RX3 9 3 0 (.int) false := ⟨_, rfl, by decide, x_in1 196 (by decide +kernel) rfl, by decide +kernel, rfl, rfl⟩
theorem f_X3_15 : x_FL RX3 15 3 1 (.int) false := ⟨_, rfl, by decide, x_in1 198 (by decide +kernel) rfl, by decide +kernel, rfl, rfl⟩
theorem k_X3_18 : Cond.classLink RX3 18 "[[J" ∈ x_words := x_in1 194 (by decide +kernel) rfl
theorem f_X3_20 : x_FL RX3 20 3 2 (.array (.array .long)) true := ⟨_, rfl, by decide, x_in1 200 (by decide +kernel) rfl, by decide +kernel, rfl, rfl⟩
theorem f_X3_23 : x_FL RX3 23 3 3 (.array (.array .long)) true := ⟨_, rfl, by decide, x_in1 201 (by decide +kernel) rfl, by decide +kernel, rfl, rfl⟩
theorem l_X3_26 : Cond.methodLink RX3 26 yX3_missingOf ∈ x_words := x_in3 136 (by decide +kernel) rfl
theorem l_X3_30 : Cond.methodLink RX3 30 yJ6_bitCount_0f7a4 ∈ x_words := x_in3 142 (by decide +kernel) rfl
theorem l_X3_36 : Cond.methodLink RX3 36 yX3_beginAtMorning ∈ x_words := x_in3 143 (by decide +kernel) rfl
theorem f_X3_40 : x_FL RX3 40 1 0 (.int) false := ⟨_, rfl, by decide, x_in1 57 (by decide +kernel) rfl, by decide +kernel, rfl, rfl⟩
theorem f_X3_45 : x_FL RX3 45 2 0 (.int) false := ⟨_, rfl, by decide, x_in1 133 (by decide +kernel) rfl, by decide +kernel, rfl, rfl⟩
theorem l_X3_50 : Cond.methodLink RX3 50 yX3_goOrStay ∈ x_words := x_in3 147 (by decide +kernel) rfl
theorem f_X3_53 : x_FL RX3 53 1 1 (.int) false := ⟨_, rfl, by decide, x_in1 62 (by decide +kernel) rfl, by decide +kernel, rfl, rfl⟩
theorem l_X3_56 : Cond.methodLink RX3 56 yX2_reached ∈ x_words := x_in3 152 (by decide +kernel) rfl
theorem l_X3_60 : Cond.methodLink RX3 60 yX3_sayOrNot ∈ x_words := x_in3 153 (by decide +kernel) rfl
theorem f_X3_64 : x_FL RX3 64 1 12 (.array (.array .int)) true := ⟨_, rfl, by decide, x_in1 96 (by decide +kernel) rfl, by decide +kernel, rfl, rfl⟩
theorem f_X3_68 : x_FL RX3 68 2 6 (.array .int) true := ⟨_, rfl, by decide, x_in1 146 (by decide +kernel) rfl, by decide +kernel, rfl, rfl⟩
theorem l_X3_72 : Cond.methodLink RX3 72 yX3_take ∈ x_words := x_in3 163 (by decide +kernel) rfl
theorem l_X3_76 : Cond.methodLink RX3 76 yX2_will ∈ x_words := x_in3 140 (by decide +kernel) rfl
theorem l_X3_80 : Cond.methodLink RX3 80 yX1_nameOf ∈ x_words := x_in3 141 (by decide +kernel) rfl
theorem l_X3_83 : Cond.methodLink RX3 83 arraycopyName ∈ x_words := x_in3 151 (by decide +kernel) rfl
theorem f_X3_89 : x_FL RX3 89 1 2 (.int) false := ⟨_, rfl, by decide, x_in1 68 (by decide +kernel) rfl, by decide +kernel, rfl, rfl⟩
theorem f_X3_92 : x_FL RX3 92 1 5 (.array .int) true := ⟨_, rfl, by decide, x_in1 79 (by decide +kernel) rfl, by decide +kernel, rfl, rfl⟩
theorem f_X3_95 : x_FL RX3 95 1 6 (.array .int) true := ⟨_, rfl, by decide, x_in1 82 (by decide +kernel) rfl, by decide +kernel, rfl, rfl⟩
theorem l_X3_98 : Cond.methodLink RX3 98 yX3_winnable ∈ x_words := x_in3 157 (by decide +kernel) rfl
theorem l_X4_3 : Cond.methodLink RX4 3 objectInit ∈ x_words := x_in1 218 (by decide +kernel) rfl
theorem f_X4_9 : x_FL RX4 9 4 0 (.int) false := ⟨_, rfl, by decide, x_in1 219 (by decide +kernel) rfl, by decide +kernel, rfl, rfl⟩
theorem f_X4_15 : x_FL RX4 15 4 1 (.array .int) true := ⟨_, rfl, by decide, x_in1 221 (by decide +kernel) rfl, by decide +kernel, rfl, rfl⟩
theorem f_X4_19 : x_FL RX4 19 4 2 (.array .boolean) true := ⟨_, rfl, by decide, x_in1 222 (by decide +kernel) rfl, by decide +kernel, rfl, rfl⟩
theorem f_X4_23 : x_FL RX4 23 1 3 (.int) false := ⟨_, rfl, by decide, x_in1 72 (by decide +kernel) rfl, by decide +kernel, rfl, rfl⟩
theorem l_X4_28 : Cond.methodLink RX4 28 yX2_hears ∈ x_words := x_in3 193 (by decide +kernel) rfl
theorem l_X4_34 : Cond.methodLink RX4 34 yX4_fits ∈ x_words := x_in3 194 (by decide +kernel) rfl
theorem l_X4_38 : Cond.methodLink RX4 38 yX4_suspects ∈ x_words := x_in3 206 (by decide +kernel) rfl
theorem l_X4_42 : Cond.methodLink RX4 42 yJ6_bitCount_0f7a4 ∈ x_words := x_in3 207 (by decide +kernel) rfl
theorem f_X4_48 : x_FL RX4 48 1 1 (.int) false := ⟨_, rfl, by decide, x_in1 63 (by decide +kernel) rfl, by decide +kernel, rfl, rfl⟩
theorem l_X4_50 : Cond.methodLink RX4 50 yX4_greaterPart ∈ x_words := x_in3 208 (by decide +kernel) rfl
theorem f_X4_54 : x_FL RX4 54 2 6 (.array .int) true := ⟨_, rfl, by decide, x_in1 147 (by decide +kernel) rfl, by decide +kernel, rfl, rfl⟩
theorem l_X4_57 : Cond.methodLink RX4 57 yX1_isHeard ∈ x_words := x_in3 212 (by decide +kernel) rfl
theorem l_X4_61 : Cond.methodLink RX4 61 yJ9_max_7cf53 ∈ x_words := x_in3 213 (by decide +kernel) rfl
theorem l_X5_3 : Cond.methodLink RX5 3 objectInit ∈ x_words := x_in1 27 (by decide +kernel) rfl
theorem f_X5_9 : x_FL RX5 9 5 0 (.array .int) true := ⟨_, rfl, by decide, x_in1 28 (by decide +kernel) rfl, by decide +kernel, rfl, rfl⟩
theorem f_X5_15 : x_FL RX5 15 5 1 (.int) false := ⟨_, rfl, by decide, x_in1 29 (by decide +kernel) rfl, by decide +kernel, rfl, rfl⟩
theorem f_X5_19 : x_FL RX5 19 5 2 (.int) false := ⟨_, rfl, by decide, x_in1 31 (by decide +kernel) rfl, by decide +kernel, rfl, rfl⟩
theorem f_X5_22 : x_FL RX5 22 5 3 (.int) false := ⟨_, rfl, by decide, x_in1 33 (by decide +kernel) rfl, by decide +kernel, rfl, rfl⟩
theorem f_X5_25 : x_FL RX5 25 5 4 (.int) false := ⟨_, rfl, by decide, x_in1 35 (by decide +kernel) rfl, by decide +kernel, rfl, rfl⟩
theorem l_X5_28 : Cond.methodLink RX5 28 yX1_empty ∈ x_words := x_in2 65 (by decide +kernel) rfl
theorem l_X5_33 : Cond.methodLink RX5 33 yX5_skipBlanks ∈ x_words := x_in2 69 (by decide +kernel) rfl
theorem l_X5_36 : Cond.methodLink RX5 36 yX5_readClause ∈ x_words := x_in2 73 (by decide +kernel) rfl
theorem f_X5_40 : x_FL RX5 40 1 0 (.int) false := ⟨_, rfl, by decide, x_in1 58 (by decide +kernel) rfl, by decide +kernel, rfl, rfl⟩
theorem l_X5_43 : Cond.methodLink RX5 43 yX5_fail ∈ x_words := x_in2 77 (by decide +kernel) rfl
theorem l_X5_47 : Cond.methodLink RX5 47 yX5_readNight ∈ x_words := x_in2 81 (by decide +kernel) rfl
theorem l_X5_51 : Cond.methodLink RX5 51 yX5_readRoom ∈ x_words := x_in2 97 (by decide +kernel) rfl
theorem l_X5_54 : Cond.methodLink RX5 54 yX5_readDoor ∈ x_words := x_in2 105 (by decide +kernel) rfl
theorem l_X5_57 : Cond.methodLink RX5 57 yX5_readHeir ∈ x_words := x_in2 113 (by decide +kernel) rfl
theorem l_X5_60 : Cond.methodLink RX5 60 yX5_failIf ∈ x_words := x_in2 85 (by decide +kernel) rfl
theorem l_X5_64 : Cond.methodLink RX5 64 yX5_readNumber ∈ x_words := x_in2 89 (by decide +kernel) rfl
theorem l_X5_68 : Cond.methodLink RX5 68 yX5_readEnd ∈ x_words := x_in2 93 (by decide +kernel) rfl
theorem f_X5_72 : x_FL RX5 72 1 1 (.int) false := ⟨_, rfl, by decide, x_in1 66 (by decide +kernel) rfl, by decide +kernel, rfl, rfl⟩
theorem l_X5_75 : Cond.methodLink RX5 75 yX1_addRoom ∈ x_words := x_in2 101 (by decide +kernel) rfl
theorem f_X5_79 : x_FL RX5 79 1 2 (.int) false := ⟨_, rfl, by decide, x_in1 70 (by decide +kernel) rfl, by decide +kernel, rfl, rfl⟩
theorem l_X5_82 : Cond.methodLink RX5 82 yX1_addDoor ∈ x_words := x_in2 109 (by decide +kernel) rfl
theorem f_X5_86 : x_FL RX5 86 1 3 (.int) false := ⟨_, rfl, by decide, x_in1 74 (by decide +kernel) rfl, by decide +kernel, rfl, rfl⟩
theorem l_X5_89 : Cond.methodLink RX5 89 yX1_addHeir ∈ x_words := x_in2 117 (by decide +kernel) rfl
theorem l_X6_3 : Cond.methodLink RX6 3 objectInit ∈ x_words := x_in1 173 (by decide +kernel) rfl
theorem k_X6_9 : Cond.classLink RX6 9 "LastSentence$Night" ∈ x_words := x_in1 174 (by decide +kernel) rfl
theorem f_X6_11 : x_FL RX6 11 6 0 (.array (.object "LastSentence$Night")) true := ⟨_, rfl, by decide, x_in1 177 (by decide +kernel) rfl, by decide +kernel, rfl, rfl⟩
theorem f_X6_17 : x_FL RX6 17 6 1 (.int) false := ⟨_, rfl, by decide, x_in1 178 (by decide +kernel) rfl, by decide +kernel, rfl, rfl⟩
theorem f_X6_21 : x_FL RX6 21 6 2 (.int) false := ⟨_, rfl, by decide, x_in1 180 (by decide +kernel) rfl, by decide +kernel, rfl, rfl⟩
theorem l_X6_25 : Cond.methodLink RX6 25 yX2_copyFrom ∈ x_words := x_in3 32 (by decide +kernel) rfl
theorem l_X6_29 : Cond.methodLink RX6 29 yJ9_min_7cf53 ∈ x_words := x_in3 36 (by decide +kernel) rfl
theorem l_X6_35 : Cond.methodLink RX6 35 yJ9_floorMod_7cf53 ∈ x_words := x_in3 113 (by decide +kernel) rfl
theorem k_L_7 : Cond.classLink RL 7 "LastSentence" ∈ x_words := x_in1 14 (by decide +kernel) rfl
theorem l_L_9 : Cond.methodLink RL 9 yX7_init ∈ x_words := x_in1 16 (by decide +kernel) rfl
theorem k_L_10 : Cond.classLink RL 10 "LastSentenceModel" ∈ x_words := x_in4 9 (by decide +kernel) rfl
theorem l_L_12 : Cond.methodLink RL 12 yX8_init ∈ x_words := x_in4 11 (by decide +kernel) rfl
theorem l_L_13 : Cond.methodLink RL 13 yX7_feed ∈ x_words := x_in2 47 (by decide +kernel) rfl
theorem l_L_17 : Cond.methodLink RL 17 yX8_feed ∈ x_words := x_in4 133 (by decide +kernel) rfl
theorem l_L_18 : Cond.methodLink RL 18 yX7_manor ∈ x_words := x_in2 57 (by decide +kernel) rfl
theorem l_L_22 : Cond.methodLink RL 22 yX8_manor ∈ x_words := x_in4 142 (by decide +kernel) rfl
theorem l_L_23 : Cond.methodLink RL 23 yX7_fault ∈ x_words := x_in2 155 (by decide +kernel) rfl
theorem l_L_26 : Cond.methodLink RL 26 yX8_fault ∈ x_words := x_in4 197 (by decide +kernel) rfl
theorem l_L_27 : Cond.methodLink RL 27 yX7_told ∈ x_words := x_in2 159 (by decide +kernel) rfl
theorem l_L_30 : Cond.methodLink RL 30 yX8_told ∈ x_words := x_in4 201 (by decide +kernel) rfl
theorem l_L_31 : Cond.methodLink RL 31 yX7_room ∈ x_words := x_in2 201 (by decide +kernel) rfl
theorem l_L_35 : Cond.methodLink RL 35 yX8_room ∈ x_words := x_in4 232 (by decide +kernel) rfl
theorem l_L_36 : Cond.methodLink RL 36 yX7_door ∈ x_words := x_in2 220 (by decide +kernel) rfl
theorem l_L_39 : Cond.methodLink RL 39 yX8_door ∈ x_words := x_in5 12 (by decide +kernel) rfl
theorem l_L_40 : Cond.methodLink RL 40 yX7_heir ∈ x_words := x_in2 228 (by decide +kernel) rfl
theorem l_L_43 : Cond.methodLink RL 43 yX8_heir ∈ x_words := x_in5 20 (by decide +kernel) rfl
theorem l_L_44 : Cond.methodLink RL 44 yX7_say ∈ x_words := x_in3 23 (by decide +kernel) rfl
theorem l_L_47 : Cond.methodLink RL 47 yX8_say ∈ x_words := x_in5 44 (by decide +kernel) rfl
theorem l_L_48 : Cond.methodLink RL 48 yX7_go ∈ x_words := x_in3 43 (by decide +kernel) rfl
theorem l_L_51 : Cond.methodLink RL 51 yX8_go ∈ x_words := x_in5 57 (by decide +kernel) rfl
theorem l_L_52 : Cond.methodLink RL 52 yX7_hour ∈ x_words := x_in3 52 (by decide +kernel) rfl
theorem l_L_55 : Cond.methodLink RL 55 yX8_hour ∈ x_words := x_in5 66 (by decide +kernel) rfl
theorem l_L_56 : Cond.methodLink RL 56 yX7_out ∈ x_words := x_in3 64 (by decide +kernel) rfl
theorem l_L_59 : Cond.methodLink RL 59 yX8_out ∈ x_words := x_in5 74 (by decide +kernel) rfl
theorem l_L_60 : Cond.methodLink RL 60 yX7_light ∈ x_words := x_in3 73 (by decide +kernel) rfl
theorem l_L_63 : Cond.methodLink RL 63 yX8_light ∈ x_words := x_in5 78 (by decide +kernel) rfl
theorem l_L_64 : Cond.methodLink RL 64 yX7_candle ∈ x_words := x_in3 81 (by decide +kernel) rfl
theorem l_L_67 : Cond.methodLink RL 67 yX8_candle ∈ x_words := x_in5 82 (by decide +kernel) rfl
theorem l_L_68 : Cond.methodLink RL 68 yX7_drift ∈ x_words := x_in3 85 (by decide +kernel) rfl
theorem l_L_71 : Cond.methodLink RL 71 yX8_drift ∈ x_words := x_in5 86 (by decide +kernel) rfl
theorem l_L_72 : Cond.methodLink RL 72 yX7_undo ∈ x_words := x_in3 105 (by decide +kernel) rfl
theorem l_L_75 : Cond.methodLink RL 75 yX8_undo ∈ x_words := x_in5 102 (by decide +kernel) rfl
theorem l_L_76 : Cond.methodLink RL 76 yX7_wall ∈ x_words := x_in3 116 (by decide +kernel) rfl
theorem l_L_79 : Cond.methodLink RL 79 yX8_wall ∈ x_words := x_in5 106 (by decide +kernel) rfl
theorem l_L_80 : Cond.methodLink RL 80 yX7_way ∈ x_words := x_in3 120 (by decide +kernel) rfl
theorem l_L_83 : Cond.methodLink RL 83 yX8_way ∈ x_words := x_in5 110 (by decide +kernel) rfl
theorem l_L_84 : Cond.methodLink RL 84 yX7_fewest ∈ x_words := x_in3 124 (by decide +kernel) rfl
theorem l_L_88 : Cond.methodLink RL 88 yX8_fewest ∈ x_words := x_in5 114 (by decide +kernel) rfl
theorem l_L_89 : Cond.methodLink RL 89 yX7_reading ∈ x_words := x_in3 167 (by decide +kernel) rfl
theorem l_L_92 : Cond.methodLink RL 92 yX8_reading ∈ x_words := x_in5 141 (by decide +kernel) rfl
theorem l_L_93 : Cond.methodLink RL 93 yX7_quiet ∈ x_words := x_in3 171 (by decide +kernel) rfl
theorem l_L_96 : Cond.methodLink RL 96 yX8_quiet ∈ x_words := x_in5 145 (by decide +kernel) rfl
theorem l_L_97 : Cond.methodLink RL 97 yX7_see ∈ x_words := x_in3 177 (by decide +kernel) rfl
theorem l_L_101 : Cond.methodLink RL 101 yX8_see ∈ x_words := x_in5 151 (by decide +kernel) rfl
theorem l_L_102 : Cond.methodLink RL 102 yX7_couldBe ∈ x_words := x_in3 185 (by decide +kernel) rfl
theorem l_L_105 : Cond.methodLink RL 105 yX8_couldBe ∈ x_words := x_in5 155 (by decide +kernel) rfl
theorem l_L_106 : Cond.methodLink RL 106 yX7_ask ∈ x_words := x_in3 198 (by decide +kernel) rfl
theorem l_L_109 : Cond.methodLink RL 109 yX8_ask ∈ x_words := x_in5 159 (by decide +kernel) rfl
theorem l_L_110 : Cond.methodLink RL 110 yX7_write ∈ x_words := x_in3 216 (by decide +kernel) rfl
theorem l_L_113 : Cond.methodLink RL 113 yX8_write ∈ x_words := x_in5 164 (by decide +kernel) rfl
theorem l_L_114 : Cond.methodLink RL 114 yX7_judge ∈ x_words := x_in3 224 (by decide +kernel) rfl
theorem l_L_117 : Cond.methodLink RL 117 yX8_judge ∈ x_words := x_in5 168 (by decide +kernel) rfl
theorem l_L_118 : Cond.methodLink RL 118 yX7_tear ∈ x_words := x_in3 232 (by decide +kernel) rfl
theorem l_L_121 : Cond.methodLink RL 121 yX8_tear ∈ x_words := x_in5 172 (by decide +kernel) rfl
theorem l_L_122 : Cond.methodLink RL 122 yX7_seed ∈ x_words := x_in3 236 (by decide +kernel) rfl
theorem l_L_125 : Cond.methodLink RL 125 yX8_seed ∈ x_words := x_in5 176 (by decide +kernel) rfl
theorem l_L_126 : Cond.methodLink RL 126 yX7_keep ∈ x_words := x_in4 0 (by decide +kernel) rfl
theorem l_L_129 : Cond.methodLink RL 129 yX8_keep ∈ x_words := x_in5 180 (by decide +kernel) rfl
theorem l_L_130 : Cond.methodLink RL 130 yX7_goBack ∈ x_words := x_in4 5 (by decide +kernel) rfl
theorem l_L_133 : Cond.methodLink RL 133 yX8_goBack ∈ x_words := x_in5 184 (by decide +kernel) rfl
theorem l_X8_1 : Cond.methodLink RX8 1 objectInit ∈ x_words := x_in4 14 (by decide +kernel) rfl
theorem f_X8_7 : x_FL RX8 7 8 0 (.array .int) true := ⟨_, rfl, by decide, x_in4 15 (by decide +kernel) rfl, by decide +kernel, rfl, rfl⟩
theorem f_X8_13 : x_FL RX8 13 8 2 (.int) false := ⟨_, rfl, by decide, x_in4 17 (by decide +kernel) rfl, by decide +kernel, rfl, rfl⟩
theorem f_X8_17 : x_FL RX8 17 8 7 (.array .int) true := ⟨_, rfl, by decide, x_in4 22 (by decide +kernel) rfl, by decide +kernel, rfl, rfl⟩
theorem f_X8_20 : x_FL RX8 20 8 8 (.array .int) true := ⟨_, rfl, by decide, x_in4 23 (by decide +kernel) rfl, by decide +kernel, rfl, rfl⟩
theorem f_X8_23 : x_FL RX8 23 8 9 (.array .int) true := ⟨_, rfl, by decide, x_in4 24 (by decide +kernel) rfl, by decide +kernel, rfl, rfl⟩
theorem f_X8_26 : x_FL RX8 26 8 10 (.array .int) true := ⟨_, rfl, by decide, x_in4 25 (by decide +kernel) rfl, by decide +kernel, rfl, rfl⟩
theorem f_X8_29 : x_FL RX8 29 8 11 (.array .int) true := ⟨_, rfl, by decide, x_in4 26 (by decide +kernel) rfl, by decide +kernel, rfl, rfl⟩
theorem f_X8_32 : x_FL RX8 32 8 12 (.array .int) true := ⟨_, rfl, by decide, x_in4 27 (by decide +kernel) rfl, by decide +kernel, rfl, rfl⟩
theorem f_X8_35 : x_FL RX8 35 8 13 (.array .int) true := ⟨_, rfl, by decide, x_in4 28 (by decide +kernel) rfl, by decide +kernel, rfl, rfl⟩
theorem f_X8_38 : x_FL RX8 38 8 14 (.array .int) true := ⟨_, rfl, by decide, x_in4 29 (by decide +kernel) rfl, by decide +kernel, rfl, rfl⟩
theorem f_X8_41 : x_FL RX8 41 8 15 (.array .int) true := ⟨_, rfl, by decide, x_in4 30 (by decide +kernel) rfl, by decide +kernel, rfl, rfl⟩
theorem f_X8_44 : x_FL RX8 44 8 18 (.array .int) true := ⟨_, rfl, by decide, x_in4 33 (by decide +kernel) rfl, by decide +kernel, rfl, rfl⟩
theorem f_X8_47 : x_FL RX8 47 8 19 (.array .long) true := ⟨_, rfl, by decide, x_in4 34 (by decide +kernel) rfl, by decide +kernel, rfl, rfl⟩
theorem f_X8_51 : x_FL RX8 51 8 20 (.array .boolean) true := ⟨_, rfl, by decide, x_in4 35 (by decide +kernel) rfl, by decide +kernel, rfl, rfl⟩
theorem f_X8_55 : x_FL RX8 55 8 21 (.array .int) true := ⟨_, rfl, by decide, x_in4 36 (by decide +kernel) rfl, by decide +kernel, rfl, rfl⟩
theorem f_X8_58 : x_FL RX8 58 8 23 (.array .int) true := ⟨_, rfl, by decide, x_in4 38 (by decide +kernel) rfl, by decide +kernel, rfl, rfl⟩
theorem f_X8_61 : x_FL RX8 61 8 32 (.array .int) true := ⟨_, rfl, by decide, x_in4 47 (by decide +kernel) rfl, by decide +kernel, rfl, rfl⟩
theorem f_X8_64 : x_FL RX8 64 8 33 (.array .int) true := ⟨_, rfl, by decide, x_in4 48 (by decide +kernel) rfl, by decide +kernel, rfl, rfl⟩
theorem f_X8_67 : x_FL RX8 67 8 34 (.array .int) true := ⟨_, rfl, by decide, x_in4 49 (by decide +kernel) rfl, by decide +kernel, rfl, rfl⟩
theorem f_X8_70 : x_FL RX8 70 8 35 (.array .int) true := ⟨_, rfl, by decide, x_in4 50 (by decide +kernel) rfl, by decide +kernel, rfl, rfl⟩
theorem f_X8_73 : x_FL RX8 73 8 36 (.array .int) true := ⟨_, rfl, by decide, x_in4 51 (by decide +kernel) rfl, by decide +kernel, rfl, rfl⟩
theorem f_X8_76 : x_FL RX8 76 8 37 (.array .int) true := ⟨_, rfl, by decide, x_in4 52 (by decide +kernel) rfl, by decide +kernel, rfl, rfl⟩
theorem f_X8_79 : x_FL RX8 79 8 38 (.array .int) true := ⟨_, rfl, by decide, x_in4 53 (by decide +kernel) rfl, by decide +kernel, rfl, rfl⟩
theorem f_X8_82 : x_FL RX8 82 8 4 (.int) false := ⟨_, rfl, by decide, x_in4 19 (by decide +kernel) rfl, by decide +kernel, rfl, rfl⟩
theorem l_X8_85 : Cond.methodLink RX8 85 yX8_in ∈ x_words := x_in4 137 (by decide +kernel) rfl
theorem f_X8_89 : x_FL RX8 89 8 6 (.int) false := ⟨_, rfl, by decide, x_in4 21 (by decide +kernel) rfl, by decide +kernel, rfl, rfl⟩
theorem f_X8_92 : x_FL RX8 92 8 5 (.int) false := ⟨_, rfl, by decide, x_in4 20 (by decide +kernel) rfl, by decide +kernel, rfl, rfl⟩
theorem k_X8_95 : Cond.constant RX8 95 (-1000000002) ∈ x_words := x_in4 140 (by decide +kernel) rfl
theorem f_X8_96 : x_FL RX8 96 8 1 (.int) false := ⟨_, rfl, by decide, x_in4 16 (by decide +kernel) rfl, by decide +kernel, rfl, rfl⟩
theorem k_X8_99 : Cond.constant RX8 99 (-1000000004) ∈ x_words := x_in4 141 (by decide +kernel) rfl
theorem f_X8_100 : x_FL RX8 100 8 25 (.int) false := ⟨_, rfl, by decide, x_in4 40 (by decide +kernel) rfl, by decide +kernel, rfl, rfl⟩
theorem l_X8_103 : Cond.methodLink RX8 103 yX8_here ∈ x_words := x_in4 154 (by decide +kernel) rfl
theorem f_X8_107 : x_FL RX8 107 8 26 (.int) false := ⟨_, rfl, by decide, x_in4 41 (by decide +kernel) rfl, by decide +kernel, rfl, rfl⟩
theorem f_X8_110 : x_FL RX8 110 8 27 (.int) false := ⟨_, rfl, by decide, x_in4 42 (by decide +kernel) rfl, by decide +kernel, rfl, rfl⟩
theorem l_X8_113 : Cond.methodLink RX8 113 yX8_skips ∈ x_words := x_in4 150 (by decide +kernel) rfl
theorem l_X8_116 : Cond.methodLink RX8 116 yX8_fails ∈ x_words := x_in4 166 (by decide +kernel) rfl
theorem f_X8_120 : x_FL RX8 120 8 29 (.int) false := ⟨_, rfl, by decide, x_in4 44 (by decide +kernel) rfl, by decide +kernel, rfl, rfl⟩
theorem l_X8_123 : Cond.methodLink RX8 123 yX8_number ∈ x_words := x_in4 162 (by decide +kernel) rfl
theorem l_X8_127 : Cond.methodLink RX8 127 yX8_ends ∈ x_words := x_in4 170 (by decide +kernel) rfl
theorem f_X8_130 : x_FL RX8 130 8 30 (.int) false := ⟨_, rfl, by decide, x_in4 45 (by decide +kernel) rfl, by decide +kernel, rfl, rfl⟩
theorem f_X8_133 : x_FL RX8 133 8 31 (.int) false := ⟨_, rfl, by decide, x_in4 46 (by decide +kernel) rfl, by decide +kernel, rfl, rfl⟩
theorem f_X8_136 : x_FL RX8 136 8 28 (.int) false := ⟨_, rfl, by decide, x_in4 43 (by decide +kernel) rfl, by decide +kernel, rfl, rfl⟩
theorem l_X8_139 : Cond.methodLink RX8 139 yX8_readRoom ∈ x_words := x_in4 174 (by decide +kernel) rfl
theorem l_X8_142 : Cond.methodLink RX8 142 yX8_readDoor ∈ x_words := x_in4 178 (by decide +kernel) rfl
theorem l_X8_145 : Cond.methodLink RX8 145 yX8_readHeir ∈ x_words := x_in4 182 (by decide +kernel) rfl
theorem l_X8_148 : Cond.methodLink RX8 148 yX8_readClause ∈ x_words := x_in4 158 (by decide +kernel) rfl
theorem l_X8_151 : Cond.methodLink RX8 151 yX8_readManor ∈ x_words := x_in4 146 (by decide +kernel) rfl
theorem f_X8_154 : x_FL RX8 154 8 3 (.int) false := ⟨_, rfl, by decide, x_in4 18 (by decide +kernel) rfl, by decide +kernel, rfl, rfl⟩
theorem l_X8_157 : Cond.methodLink RX8 157 yX8_bring ∈ x_words := x_in4 186 (by decide +kernel) rfl
theorem l_X8_161 : Cond.methodLink RX8 161 yX8_laysWalls ∈ x_words := x_in4 189 (by decide +kernel) rfl
theorem f_X8_164 : x_FL RX8 164 8 16 (.int) false := ⟨_, rfl, by decide, x_in4 31 (by decide +kernel) rfl, by decide +kernel, rfl, rfl⟩
theorem f_X8_167 : x_FL RX8 167 8 22 (.int) false := ⟨_, rfl, by decide, x_in4 37 (by decide +kernel) rfl, by decide +kernel, rfl, rfl⟩
theorem f_X8_170 : x_FL RX8 170 8 24 (.int) false := ⟨_, rfl, by decide, x_in4 39 (by decide +kernel) rfl, by decide +kernel, rfl, rfl⟩
theorem l_X8_173 : Cond.methodLink RX8 173 yX8_passes ∈ x_words := x_in4 193 (by decide +kernel) rfl
theorem l_X8_177 : Cond.methodLink RX8 177 yX8_isLit ∈ x_words := x_in4 209 (by decide +kernel) rfl
theorem l_X8_181 : Cond.methodLink RX8 181 yX8_has ∈ x_words := x_in5 9 (by decide +kernel) rfl
theorem l_X8_185 : Cond.methodLink RX8 185 yX8_hearsFrom ∈ x_words := x_in5 5 (by decide +kernel) rfl
theorem l_X8_189 : Cond.methodLink RX8 189 yX8_wordedOf ∈ x_words := x_in5 32 (by decide +kernel) rfl
theorem l_X8_193 : Cond.methodLink RX8 193 yX8_countsIn ∈ x_words := x_in5 36 (by decide +kernel) rfl
theorem l_X8_197 : Cond.methodLink RX8 197 yX8_whoseOf ∈ x_words := x_in5 40 (by decide +kernel) rfl
theorem l_X8_200 : Cond.methodLink RX8 200 yX8_willBy ∈ x_words := x_in4 217 (by decide +kernel) rfl
theorem l_X8_203 : Cond.methodLink RX8 203 yX8_hasRooms ∈ x_words := x_in4 225 (by decide +kernel) rfl
theorem l_X8_206 : Cond.methodLink RX8 206 yX8_bits ∈ x_words := x_in4 229 (by decide +kernel) rfl
theorem l_X8_209 : Cond.methodLink RX8 209 yX8_litOf ∈ x_words := x_in4 205 (by decide +kernel) rfl
theorem l_X8_212 : Cond.methodLink RX8 212 yX8_sureOnes ∈ x_words := x_in4 213 (by decide +kernel) rfl
theorem l_X8_215 : Cond.methodLink RX8 215 yX8_holder ∈ x_words := x_in4 221 (by decide +kernel) rfl
theorem l_X8_218 : Cond.methodLink RX8 218 yX8_isRoom ∈ x_words := x_in4 236 (by decide +kernel) rfl
theorem k_X8_222 : Cond.constant RX8 222 (-1000000001) ∈ x_words := x_in5 0 (by decide +kernel) rfl
theorem l_X8_223 : Cond.methodLink RX8 223 yX8_worthOf ∈ x_words := x_in5 1 (by decide +kernel) rfl
theorem l_X8_226 : Cond.methodLink RX8 226 yX8_isDoor ∈ x_words := x_in5 16 (by decide +kernel) rfl
theorem l_X8_229 : Cond.methodLink RX8 229 yX8_isHeir ∈ x_words := x_in5 24 (by decide +kernel) rfl
theorem l_X8_232 : Cond.methodLink RX8 232 yX8_countsOf ∈ x_words := x_in5 28 (by decide +kernel) rfl
theorem k_X8_235 : Cond.constant RX8 235 (90000) ∈ x_words := x_in5 48 (by decide +kernel) rfl
theorem l_X8_236 : Cond.methodLink RX8 236 yX8_notes ∈ x_words := x_in5 49 (by decide +kernel) rfl
theorem l_X8_239 : Cond.methodLink RX8 239 yX8_says ∈ x_words := x_in5 53 (by decide +kernel) rfl
theorem l_X8_242 : Cond.methodLink RX8 242 yX8_behind ∈ x_words := x_in5 61 (by decide +kernel) rfl
theorem k_X8_245 : Cond.constant RX8 245 (-1000000003) ∈ x_words := x_in5 65 (by decide +kernel) rfl
theorem l_X8_246 : Cond.methodLink RX8 246 yX8_hourOn ∈ x_words := x_in5 70 (by decide +kernel) rfl
theorem f_X8_249 : x_FL RX8 249 8 17 (.long) false := ⟨_, rfl, by decide, x_in4 32 (by decide +kernel) rfl, by decide +kernel, rfl, rfl⟩
theorem k_X8_253 : Cond.constantLong RX8 253 (1103515245) ∈ x_words := x_in5 98 (by decide +kernel) rfl
theorem k_X8_255 : Cond.constantLong RX8 255 (12345) ∈ x_words := x_in5 99 (by decide +kernel) rfl
theorem k_X8_257 : Cond.constantLong RX8 257 (2147483648) ∈ x_words := x_in5 100 (by decide +kernel) rfl
theorem k_X8_259 : Cond.constantLong RX8 259 (65536) ∈ x_words := x_in5 101 (by decide +kernel) rfl
theorem l_X8_261 : Cond.methodLink RX8 261 yX8_draw ∈ x_words := x_in5 94 (by decide +kernel) rfl
theorem l_X8_264 : Cond.methodLink RX8 264 yX8_drawn ∈ x_words := x_in5 90 (by decide +kernel) rfl
theorem l_X8_267 : Cond.methodLink RX8 267 yX8_at ∈ x_words := x_in5 126 (by decide +kernel) rfl
theorem l_X8_270 : Cond.methodLink RX8 270 yX8_goesOn ∈ x_words := x_in5 129 (by decide +kernel) rfl
theorem l_X8_273 : Cond.methodLink RX8 273 yX8_saysIn ∈ x_words := x_in5 133 (by decide +kernel) rfl
theorem l_X8_277 : Cond.methodLink RX8 277 yX8_wonOf ∈ x_words := x_in5 118 (by decide +kernel) rfl
theorem l_X8_280 : Cond.methodLink RX8 280 yX8_laysFew ∈ x_words := x_in5 122 (by decide +kernel) rfl
theorem l_X8_284 : Cond.methodLink RX8 284 yX8_latestOf ∈ x_words := x_in5 137 (by decide +kernel) rfl
theorem k_X8_287 : Cond.constantLong RX8 287 (1000000000) ∈ x_words := x_in5 149 (by decide +kernel) rfl
theorem k_X8_289 : Cond.constantLong RX8 289 (100) ∈ x_words := x_in5 150 (by decide +kernel) rfl
theorem l_X8_291 : Cond.methodLink RX8 291 yX8_couldBe ∈ x_words := x_in5 163 (by decide +kernel) rfl
theorem k_J6_265 : Cond.constant RJ6 265 (1431655765) ∈ x_words := x_in2 198 (by decide +kernel) rfl
theorem k_J6_266 : Cond.constant RJ6 266 (858993459) ∈ x_words := x_in2 199 (by decide +kernel) rfl
theorem k_J6_267 : Cond.constant RJ6 267 (252645135) ∈ x_words := x_in2 200 (by decide +kernel) rfl
end
section
/-! WRAPPERS: numbers that are naturals, ends, calls by how many arguments -/
theorem R_iaddN {M : xM} {pc : Nat} {lo : List (Option Value)} {st : List Value} {h : xH} {cs : Nat × Nat} {K : Option Value → xH → Prop} {a b : Nat} (hd : decode M.2.2.1 pc = .ok (.iadd, 1)) (kk : x_Rn M (pc + 1) lo (.int (nI (a + b)) :: st) h cs K) : x_Rn M pc lo (.int (nI b) :: .int (nI a) :: st) h cs K := R_iadd hd (by rw [nI_add]; exact kk)
theorem R_imulN {M : xM} {pc : Nat} {lo : List (Option Value)} {st : List Value} {h : xH} {cs : Nat × Nat} {K : Option Value → xH → Prop} {a b : Nat} (hd : decode M.2.2.1 pc = .ok (.imul, 1)) (kk : x_Rn M (pc + 1) lo (.int (nI (a * b)) :: st) h cs K) : x_Rn M pc lo (.int (nI b) :: .int (nI a) :: st) h cs K := R_imul hd (by rw [pk_mul]; exact kk)
theorem R_isubN {M : xM} {pc : Nat} {lo : List (Option Value)} {st : List Value} {h : xH} {cs : Nat × Nat} {K : Option Value → xH → Prop} {a b : Nat} (hd : decode M.2.2.1 pc = .ok (.isub, 1)) (hb : b ≤ a) (kk : x_Rn M (pc + 1) lo (.int (nI (a - b)) :: st) h cs K) : x_Rn M pc lo (.int (nI b) :: .int (nI a) :: st) h cs K := R_isub hd (by rw [pk_sub hb]; exact kk)
theorem R_idivN {M : xM} {pc : Nat} {lo : List (Option Value)} {st : List Value} {h : xH} {cs : Nat × Nat} {K : Option Value → xH → Prop} {a b : Nat} (hd : decode M.2.2.1 pc = .ok (.idiv, 1)) (ha : a < 2 ^ 31) (hb : 0 < b) (hb2 : b < 2 ^ 31) (kk : x_Rn M (pc + 1) lo (.int (nI (a / b)) :: st) h cs K) : x_Rn M pc lo (.int (nI b) :: .int (nI a) :: st) h cs K := R_idiv hd (nI_ne0 hb hb2) (by rw [pk_div ha hb hb2]; exact kk)
theorem R_iremN {M : xM} {pc : Nat} {lo : List (Option Value)} {st : List Value} {h : xH} {cs : Nat × Nat} {K : Option Value → xH → Prop} {a b : Nat} (hd : decode M.2.2.1 pc = .ok (.irem, 1)) (ha : a < 2 ^ 31) (hb : 0 < b) (hb2 : b < 2 ^ 31) (kk : x_Rn M (pc + 1) lo (.int (nI (a % b)) :: st) h cs K) : x_Rn M pc lo (.int (nI b) :: .int (nI a) :: st) h cs K := R_irem hd (nI_ne0 hb hb2) (by rw [pk_rem ha hb hb2]; exact kk)
theorem R_iincN {M : xM} {pc : Nat} {lo : List (Option Value)} {st : List Value} {h : xH} {cs : Nat × Nat} {K : Option Value → xH → Prop} {i a : Nat} (hd : decode M.2.2.1 pc = .ok (.iinc i 1, 3)) (hl : lo[i]? = some (some (.int (nI a)))) (hi : i < M.2.2.2.1) (hk : x_ok lo i = true) (kk : x_Rn M (pc + 3) (lo.set i (some (.int (nI (a + 1))))) st h cs K) : x_Rn M pc lo st h cs K := R_iinc (nI (a + 1)) hd hl (by rw [← nI_1]; rfl) hi hk kk
theorem R_iincD {M : xM} {pc : Nat} {lo : List (Option Value)} {st : List Value} {h : xH} {cs : Nat × Nat} {K : Option Value → xH → Prop} {i a : Nat} (hd : decode M.2.2.1 pc = .ok (.iinc i (-1), 3)) (hl : lo[i]? = some (some (.int (nI (a + 1))))) (hi : i < M.2.2.2.1) (hk : x_ok lo i = true) (kk : x_Rn M (pc + 3) (lo.set i (some (.int (nI a)))) st h cs K) : x_Rn M pc lo st h cs K := R_iinc (nI a) hd hl (by have := pk_m1 a; exact this) hi hk kk
theorem R_geN {M : xM} {pc : Nat} {lo : List (Option Value)} {st : List Value} {h : xH} {cs : Nat × Nat} {K : Option Value → xH → Prop} {a b : Nat} {off : Int} (tgt : Nat) (hd : decode M.2.2.1 pc = .ok (.if_icmp .ge off, 3)) (ht : (pc : Int) + off = (tgt : Int)) (ha : a < 2 ^ 31) (hb : b < 2 ^ 31) (kt : b ≤ a → x_Rn M tgt lo st h cs K) (kf : a < b → x_Rn M (pc + 3) lo st h cs K) : x_Rn M pc lo (.int (nI b) :: .int (nI a) :: st) h cs K := R_icmpge tgt hd ht (fun z => kt ((nI_leI hb ha).mp z)) (fun z => kf (Nat.not_le.mp fun w => z (nI_le w ha)))
theorem R_ltN {M : xM} {pc : Nat} {lo : List (Option Value)} {st : List Value} {h : xH} {cs : Nat × Nat} {K : Option Value → xH → Prop} {a b : Nat} {off : Int} (tgt : Nat) (hd : decode M.2.2.1 pc = .ok (.if_icmp .lt off, 3)) (ht : (pc : Int) + off = (tgt : Int)) (ha : a < 2 ^ 31) (hb : b < 2 ^ 31) (kt : a < b → x_Rn M tgt lo st h cs K) (kf : b ≤ a → x_Rn M (pc + 3) lo st h cs K) : x_Rn M pc lo (.int (nI b) :: .int (nI a) :: st) h cs K := R_icmplt tgt hd ht (fun z => kt ((nI_ltI ha hb).mp z)) (fun z => kf (Nat.not_lt.mp fun w => z ((nI_ltI ha hb).mpr w)))
theorem R_gtN {M : xM} {pc : Nat} {lo : List (Option Value)} {st : List Value} {h : xH} {cs : Nat × Nat} {K : Option Value → xH → Prop} {a b : Nat} {off : Int} (tgt : Nat) (hd : decode M.2.2.1 pc = .ok (.if_icmp .gt off, 3)) (ht : (pc : Int) + off = (tgt : Int)) (ha : a < 2 ^ 31) (hb : b < 2 ^ 31) (kt : b < a → x_Rn M tgt lo st h cs K) (kf : a ≤ b → x_Rn M (pc + 3) lo st h cs K) : x_Rn M pc lo (.int (nI b) :: .int (nI a) :: st) h cs K := R_icmpgt tgt hd ht (fun z => kt ((nI_ltI hb ha).mp z)) (fun z => kf (Nat.not_lt.mp fun w => z ((nI_ltI hb ha).mpr w)))
theorem R_leN {M : xM} {pc : Nat} {lo : List (Option Value)} {st : List Value} {h : xH} {cs : Nat × Nat} {K : Option Value → xH → Prop} {a b : Nat} {off : Int} (tgt : Nat) (hd : decode M.2.2.1 pc = .ok (.if_icmp .le off, 3)) (ht : (pc : Int) + off = (tgt : Int)) (ha : a < 2 ^ 31) (hb : b < 2 ^ 31) (kt : a ≤ b → x_Rn M tgt lo st h cs K) (kf : b < a → x_Rn M (pc + 3) lo st h cs K) : x_Rn M pc lo (.int (nI b) :: .int (nI a) :: st) h cs K := R_icmple tgt hd ht (fun z => kt ((nI_leI ha hb).mp z)) (fun z => kf (Nat.not_le.mp fun w => z (nI_le w hb)))
theorem R_eqN {M : xM} {pc : Nat} {lo : List (Option Value)} {st : List Value} {h : xH} {cs : Nat × Nat} {K : Option Value → xH → Prop} {a b : Nat} {off : Int} (tgt : Nat) (hd : decode M.2.2.1 pc = .ok (.if_icmp .eq off, 3)) (ht : (pc : Int) + off = (tgt : Int)) (ha : a < 2 ^ 31) (hb : b < 2 ^ 31) (kt : a = b → x_Rn M tgt lo st h cs K) (kf : ¬ a = b → x_Rn M (pc + 3) lo st h cs K) : x_Rn M pc lo (.int (nI b) :: .int (nI a) :: st) h cs K := R_icmpeq tgt hd ht (fun z => kt ((nI_eq ha hb).mp z)) (fun z => kf (fun w => z (congrArg nI w)))
theorem R_neN {M : xM} {pc : Nat} {lo : List (Option Value)} {st : List Value} {h : xH} {cs : Nat × Nat} {K : Option Value → xH → Prop} {a b : Nat} {off : Int} (tgt : Nat) (hd : decode M.2.2.1 pc = .ok (.if_icmp .ne off, 3)) (ht : (pc : Int) + off = (tgt : Int)) (ha : a < 2 ^ 31) (hb : b < 2 ^ 31) (kt : ¬ a = b → x_Rn M tgt lo st h cs K) (kf : a = b → x_Rn M (pc + 3) lo st h cs K) : x_Rn M pc lo (.int (nI b) :: .int (nI a) :: st) h cs K := R_icmpne tgt hd ht (fun z => kt (fun w => z (congrArg nI w))) (fun z => kf ((nI_eq ha hb).mp z))
/-- a truth as an int -/
def x_b (b : Bool) : Int32 := if b then 1 else 0
theorem x_b01 (b : Bool) : x_b b = 0 ∨ x_b b = 1 := by cases b; exact Or.inl rfl; exact Or.inr rfl
theorem x_b0 {b : Bool} : x_b b = 0 ↔ b = false := by cases b <;> decide
theorem x_bn0 {b : Bool} : ¬ x_b b = 0 ↔ b = true := by cases b <;> decide
theorem R_ifeqB {M : xM} {pc : Nat} {lo : List (Option Value)} {st : List Value} {h : xH} {cs : Nat × Nat} {K : Option Value → xH → Prop} {b : Bool} {off : Int} (tgt : Nat) (hd : decode M.2.2.1 pc = .ok (.ifCond .eq off, 3)) (ht : (pc : Int) + off = (tgt : Int)) (kt : b = false → x_Rn M tgt lo st h cs K) (kf : b = true → x_Rn M (pc + 3) lo st h cs K) : x_Rn M pc lo (.int (x_b b) :: st) h cs K := R_ifeq tgt hd ht (fun z => kt (x_b0.mp z)) (fun z => kf (x_bn0.mp z))
theorem R_ifneB {M : xM} {pc : Nat} {lo : List (Option Value)} {st : List Value} {h : xH} {cs : Nat × Nat} {K : Option Value → xH → Prop} {b : Bool} {off : Int} (tgt : Nat) (hd : decode M.2.2.1 pc = .ok (.ifCond .ne off, 3)) (ht : (pc : Int) + off = (tgt : Int)) (kt : b = true → x_Rn M tgt lo st h cs K) (kf : b = false → x_Rn M (pc + 3) lo st h cs K) : x_Rn M pc lo (.int (x_b b) :: st) h cs K := R_ifne tgt hd ht (fun z => kt (x_bn0.mp z)) (fun z => kf (x_b0.mp z))
theorem R_iret {M : xM} {pc : Nat} {lo : List (Option Value)} {h : xH} {cs : Nat × Nat} {K : Option Value → xH → Prop} {x : Int32} (hd : decode M.2.2.1 pc = .ok (.ireturn, 1)) (hv : M.2.2.2.2.1 = some .int) (hc : Nat.ble cs.1 M.2.2.2.2.2.cells = true) (hs : Nat.ble cs.2 M.2.2.2.2.2.slots = true) (hk : K (some (.int x)) h) : x_Rn M pc lo [.int x] h cs K := R_ret (v := some (.int x)) hd (by rw [hv]; exact ⟨rfl, x, rfl⟩) (Nat.le_of_ble_eq_true hc) (Nat.le_of_ble_eq_true hs) hk
theorem R_zret {M : xM} {pc : Nat} {lo : List (Option Value)} {h : xH} {cs : Nat × Nat} {K : Option Value → xH → Prop} {x : Int32} (hd : decode M.2.2.1 pc = .ok (.ireturn, 1)) (hv : M.2.2.2.2.1 = some .boolean) (hx : x = 0 ∨ x = 1) (hc : Nat.ble cs.1 M.2.2.2.2.2.cells = true) (hs : Nat.ble cs.2 M.2.2.2.2.2.slots = true) (hk : K (some (.int x)) h) : x_Rn M pc lo [.int x] h cs K := R_ret (v := some (.int x)) hd (by rw [hv]; exact ⟨rfl, x, rfl, hx⟩) (Nat.le_of_ble_eq_true hc) (Nat.le_of_ble_eq_true hs) hk
theorem R_lret {M : xM} {pc : Nat} {lo : List (Option Value)} {h : xH} {cs : Nat × Nat} {K : Option Value → xH → Prop} {x : Int64} (hd : decode M.2.2.1 pc = .ok (.lreturn, 1)) (hv : M.2.2.2.2.1 = some .long) (hc : Nat.ble cs.1 M.2.2.2.2.2.cells = true) (hs : Nat.ble cs.2 M.2.2.2.2.2.slots = true) (hk : K (some (.long x)) h) : x_Rn M pc lo [.long x] h cs K := R_ret (v := some (.long x)) hd (by rw [hv]; exact ⟨rfl, x, rfl⟩) (Nat.le_of_ble_eq_true hc) (Nat.le_of_ble_eq_true hs) hk
theorem R_vret {M : xM} {pc : Nat} {lo : List (Option Value)} {h : xH} {cs : Nat × Nat} {K : Option Value → xH → Prop} (hd : decode M.2.2.1 pc = .ok (.return_, 1)) (hv : M.2.2.2.2.1 = none) (hc : Nat.ble cs.1 M.2.2.2.2.2.cells = true) (hs : Nat.ble cs.2 M.2.2.2.2.2.slots = true) (hk : K none h) : x_Rn M pc lo [] h cs K := R_ret (v := none) hd (by rw [hv]; exact ⟨rfl, rfl⟩) (Nat.le_of_ble_eq_true hc) (Nat.le_of_ble_eq_true hs) hk
/-- an int is answered, nothing changes -/
def x_pr (r : Int32) (h : xH) : Option Value → xH → Prop := fun v h' => v = some (.int r) ∧ h' = h
def x_prl (r : Int64) (h : xH) : Option Value → xH → Prop := fun v h' => v = some (.long r) ∧ h' = h
/-- nothing is answered -/
def x_vd (P : xH → Prop) : Option Value → xH → Prop := fun v h' => v = none ∧ P h'
/-- an int is answered -/
def x_ir (P : Int32 → xH → Prop) : Option Value → xH → Prop := fun v h' => ∃ r, v = some (.int r) ∧ P r h'
theorem x_pr.mk {r : Int32} {h : xH} : x_pr r h (some (.int r)) h := ⟨rfl, rfl⟩
theorem x_pr.eq {r q : Int32} {h : xH} (e : q = r) : x_pr r h (some (.int q)) h := ⟨by rw [e], rfl⟩
theorem R_cV0p {M N : xM} {pc : Nat} {lo : List (Option Value)} {st : List Value} {h : xH} {cs : Nat × Nat} {K : Option Value → xH → Prop} {idx ci a : Nat} {fs : List Value} {r : Int32} (hd : decode M.2.2.1 pc = .ok (.invokevirtual idx, 3)) (hl : Cond.methodLink M.1 idx N.2.1 ∈ x_words) (hN : x_IV N 0 ci) (ha : h[a]? = some (.inr (ci, fs))) (hC : x_Met N (.ref a :: []) h (x_pr r h)) (hf : x_fit M N cs = true) (hs : x_stk st = true) (kk : x_Rn M (pc + 3) lo (.int r :: st) h (cs.1 + N.2.2.2.2.2.cells, cs.2 + N.2.2.2.2.2.slots) K) : x_Rn M pc lo (.ref a :: st) h cs K := R_callV (av := []) hd hl hN rfl ha hC hf hs (by rintro _ _ ⟨rfl, rfl⟩; exact kk)
theorem R_cV0l {M N : xM} {pc : Nat} {lo : List (Option Value)} {st : List Value} {h : xH} {cs : Nat × Nat} {K : Option Value → xH → Prop} {idx ci a : Nat} {fs : List Value} {r : Int64} (hd : decode M.2.2.1 pc = .ok (.invokevirtual idx, 3)) (hl : Cond.methodLink M.1 idx N.2.1 ∈ x_words) (hN : x_IV N 0 ci) (ha : h[a]? = some (.inr (ci, fs))) (hC : x_Met N (.ref a :: []) h (x_prl r h)) (hf : x_fit M N cs = true) (hs : x_stk st = true) (kk : x_Rn M (pc + 3) lo (.long r :: st) h (cs.1 + N.2.2.2.2.2.cells, cs.2 + N.2.2.2.2.2.slots) K) : x_Rn M pc lo (.ref a :: st) h cs K := R_callV (av := []) hd hl hN rfl ha hC hf hs (by rintro _ _ ⟨rfl, rfl⟩; exact kk)
theorem R_cV0v {M N : xM} {pc : Nat} {lo : List (Option Value)} {st : List Value} {h : xH} {cs : Nat × Nat} {K : Option Value → xH → Prop} {idx ci a : Nat} {fs : List Value} {P : xH → Prop} (hd : decode M.2.2.1 pc = .ok (.invokevirtual idx, 3)) (hl : Cond.methodLink M.1 idx N.2.1 ∈ x_words) (hN : x_IV N 0 ci) (ha : h[a]? = some (.inr (ci, fs))) (hC : x_Met N (.ref a :: []) h (x_vd P)) (hf : x_fit M N cs = true) (hs : x_stk st = true) (kk : ∀ h', P h' → x_Rn M (pc + 3) lo st h' (cs.1 + N.2.2.2.2.2.cells, cs.2 + N.2.2.2.2.2.slots) K) : x_Rn M pc lo (.ref a :: st) h cs K := R_callV (av := []) hd hl hN rfl ha hC hf hs (by rintro _ h2 ⟨rfl, hp⟩; exact kk h2 hp)
theorem R_cV0i {M N : xM} {pc : Nat} {lo : List (Option Value)} {st : List Value} {h : xH} {cs : Nat × Nat} {K : Option Value → xH → Prop} {idx ci a : Nat} {fs : List Value} {P : Int32 → xH → Prop} (hd : decode M.2.2.1 pc = .ok (.invokevirtual idx, 3)) (hl : Cond.methodLink M.1 idx N.2.1 ∈ x_words) (hN : x_IV N 0 ci) (ha : h[a]? = some (.inr (ci, fs))) (hC : x_Met N (.ref a :: []) h (x_ir P)) (hf : x_fit M N cs = true) (hs : x_stk st = true) (kk : ∀ r h', P r h' → x_Rn M (pc + 3) lo (.int r :: st) h' (cs.1 + N.2.2.2.2.2.cells, cs.2 + N.2.2.2.2.2.slots) K) : x_Rn M pc lo (.ref a :: st) h cs K := R_callV (av := []) hd hl hN rfl ha hC hf hs (by rintro _ h2 ⟨r, rfl, hp⟩; exact kk r h2 hp)
theorem R_cV1p {M N : xM} {pc : Nat} {lo : List (Option Value)} {st : List Value} {h : xH} {cs : Nat × Nat} {K : Option Value → xH → Prop} {x1 : Value} {idx ci a : Nat} {fs : List Value} {r : Int32} (hd : decode M.2.2.1 pc = .ok (.invokevirtual idx, 3)) (hl : Cond.methodLink M.1 idx N.2.1 ∈ x_words) (hN : x_IV N 1 ci) (ha : h[a]? = some (.inr (ci, fs))) (hC : x_Met N (.ref a :: [x1]) h (x_pr r h)) (hf : x_fit M N cs = true) (hs : x_stk st = true) (kk : x_Rn M (pc + 3) lo (.int r :: st) h (cs.1 + N.2.2.2.2.2.cells, cs.2 + N.2.2.2.2.2.slots) K) : x_Rn M pc lo (x1 :: .ref a :: st) h cs K := R_callV (av := [x1]) hd hl hN rfl ha hC hf hs (by rintro _ _ ⟨rfl, rfl⟩; exact kk)
theorem R_cV1l {M N : xM} {pc : Nat} {lo : List (Option Value)} {st : List Value} {h : xH} {cs : Nat × Nat} {K : Option Value → xH → Prop} {x1 : Value} {idx ci a : Nat} {fs : List Value} {r : Int64} (hd : decode M.2.2.1 pc = .ok (.invokevirtual idx, 3)) (hl : Cond.methodLink M.1 idx N.2.1 ∈ x_words) (hN : x_IV N 1 ci) (ha : h[a]? = some (.inr (ci, fs))) (hC : x_Met N (.ref a :: [x1]) h (x_prl r h)) (hf : x_fit M N cs = true) (hs : x_stk st = true) (kk : x_Rn M (pc + 3) lo (.long r :: st) h (cs.1 + N.2.2.2.2.2.cells, cs.2 + N.2.2.2.2.2.slots) K) : x_Rn M pc lo (x1 :: .ref a :: st) h cs K := R_callV (av := [x1]) hd hl hN rfl ha hC hf hs (by rintro _ _ ⟨rfl, rfl⟩; exact kk)
theorem R_cV1v {M N : xM} {pc : Nat} {lo : List (Option Value)} {st : List Value} {h : xH} {cs : Nat × Nat} {K : Option Value → xH → Prop} {x1 : Value} {idx ci a : Nat} {fs : List Value} {P : xH → Prop} (hd : decode M.2.2.1 pc = .ok (.invokevirtual idx, 3)) (hl : Cond.methodLink M.1 idx N.2.1 ∈ x_words) (hN : x_IV N 1 ci) (ha : h[a]? = some (.inr (ci, fs))) (hC : x_Met N (.ref a :: [x1]) h (x_vd P)) (hf : x_fit M N cs = true) (hs : x_stk st = true) (kk : ∀ h', P h' → x_Rn M (pc + 3) lo st h' (cs.1 + N.2.2.2.2.2.cells, cs.2 + N.2.2.2.2.2.slots) K) : x_Rn M pc lo (x1 :: .ref a :: st) h cs K := R_callV (av := [x1]) hd hl hN rfl ha hC hf hs (by rintro _ h2 ⟨rfl, hp⟩; exact kk h2 hp)
theorem R_cV1i {M N : xM} {pc : Nat} {lo : List (Option Value)} {st : List Value} {h : xH} {cs : Nat × Nat} {K : Option Value → xH → Prop} {x1 : Value} {idx ci a : Nat} {fs : List Value} {P : Int32 → xH → Prop} (hd : decode M.2.2.1 pc = .ok (.invokevirtual idx, 3)) (hl : Cond.methodLink M.1 idx N.2.1 ∈ x_words) (hN : x_IV N 1 ci) (ha : h[a]? = some (.inr (ci, fs))) (hC : x_Met N (.ref a :: [x1]) h (x_ir P)) (hf : x_fit M N cs = true) (hs : x_stk st = true) (kk : ∀ r h', P r h' → x_Rn M (pc + 3) lo (.int r :: st) h' (cs.1 + N.2.2.2.2.2.cells, cs.2 + N.2.2.2.2.2.slots) K) : x_Rn M pc lo (x1 :: .ref a :: st) h cs K := R_callV (av := [x1]) hd hl hN rfl ha hC hf hs (by rintro _ h2 ⟨r, rfl, hp⟩; exact kk r h2 hp)
theorem R_cV2p {M N : xM} {pc : Nat} {lo : List (Option Value)} {st : List Value} {h : xH} {cs : Nat × Nat} {K : Option Value → xH → Prop} {x1 x2 : Value} {idx ci a : Nat} {fs : List Value} {r : Int32} (hd : decode M.2.2.1 pc = .ok (.invokevirtual idx, 3)) (hl : Cond.methodLink M.1 idx N.2.1 ∈ x_words) (hN : x_IV N 2 ci) (ha : h[a]? = some (.inr (ci, fs))) (hC : x_Met N (.ref a :: [x1, x2]) h (x_pr r h)) (hf : x_fit M N cs = true) (hs : x_stk st = true) (kk : x_Rn M (pc + 3) lo (.int r :: st) h (cs.1 + N.2.2.2.2.2.cells, cs.2 + N.2.2.2.2.2.slots) K) : x_Rn M pc lo (x2 :: x1 :: .ref a :: st) h cs K := R_callV (av := [x1, x2]) hd hl hN rfl ha hC hf hs (by rintro _ _ ⟨rfl, rfl⟩; exact kk)
theorem R_cV2l {M N : xM} {pc : Nat} {lo : List (Option Value)} {st : List Value} {h : xH} {cs : Nat × Nat} {K : Option Value → xH → Prop} {x1 x2 : Value} {idx ci a : Nat} {fs : List Value} {r : Int64} (hd : decode M.2.2.1 pc = .ok (.invokevirtual idx, 3)) (hl : Cond.methodLink M.1 idx N.2.1 ∈ x_words) (hN : x_IV N 2 ci) (ha : h[a]? = some (.inr (ci, fs))) (hC : x_Met N (.ref a :: [x1, x2]) h (x_prl r h)) (hf : x_fit M N cs = true) (hs : x_stk st = true) (kk : x_Rn M (pc + 3) lo (.long r :: st) h (cs.1 + N.2.2.2.2.2.cells, cs.2 + N.2.2.2.2.2.slots) K) : x_Rn M pc lo (x2 :: x1 :: .ref a :: st) h cs K := R_callV (av := [x1, x2]) hd hl hN rfl ha hC hf hs (by rintro _ _ ⟨rfl, rfl⟩; exact kk)
theorem R_cV2v {M N : xM} {pc : Nat} {lo : List (Option Value)} {st : List Value} {h : xH} {cs : Nat × Nat} {K : Option Value → xH → Prop} {x1 x2 : Value} {idx ci a : Nat} {fs : List Value} {P : xH → Prop} (hd : decode M.2.2.1 pc = .ok (.invokevirtual idx, 3)) (hl : Cond.methodLink M.1 idx N.2.1 ∈ x_words) (hN : x_IV N 2 ci) (ha : h[a]? = some (.inr (ci, fs))) (hC : x_Met N (.ref a :: [x1, x2]) h (x_vd P)) (hf : x_fit M N cs = true) (hs : x_stk st = true) (kk : ∀ h', P h' → x_Rn M (pc + 3) lo st h' (cs.1 + N.2.2.2.2.2.cells, cs.2 + N.2.2.2.2.2.slots) K) : x_Rn M pc lo (x2 :: x1 :: .ref a :: st) h cs K := R_callV (av := [x1, x2]) hd hl hN rfl ha hC hf hs (by rintro _ h2 ⟨rfl, hp⟩; exact kk h2 hp)
theorem R_cV2i {M N : xM} {pc : Nat} {lo : List (Option Value)} {st : List Value} {h : xH} {cs : Nat × Nat} {K : Option Value → xH → Prop} {x1 x2 : Value} {idx ci a : Nat} {fs : List Value} {P : Int32 → xH → Prop} (hd : decode M.2.2.1 pc = .ok (.invokevirtual idx, 3)) (hl : Cond.methodLink M.1 idx N.2.1 ∈ x_words) (hN : x_IV N 2 ci) (ha : h[a]? = some (.inr (ci, fs))) (hC : x_Met N (.ref a :: [x1, x2]) h (x_ir P)) (hf : x_fit M N cs = true) (hs : x_stk st = true) (kk : ∀ r h', P r h' → x_Rn M (pc + 3) lo (.int r :: st) h' (cs.1 + N.2.2.2.2.2.cells, cs.2 + N.2.2.2.2.2.slots) K) : x_Rn M pc lo (x2 :: x1 :: .ref a :: st) h cs K := R_callV (av := [x1, x2]) hd hl hN rfl ha hC hf hs (by rintro _ h2 ⟨r, rfl, hp⟩; exact kk r h2 hp)
theorem R_cV3p {M N : xM} {pc : Nat} {lo : List (Option Value)} {st : List Value} {h : xH} {cs : Nat × Nat} {K : Option Value → xH → Prop} {x1 x2 x3 : Value} {idx ci a : Nat} {fs : List Value} {r : Int32} (hd : decode M.2.2.1 pc = .ok (.invokevirtual idx, 3)) (hl : Cond.methodLink M.1 idx N.2.1 ∈ x_words) (hN : x_IV N 3 ci) (ha : h[a]? = some (.inr (ci, fs))) (hC : x_Met N (.ref a :: [x1, x2, x3]) h (x_pr r h)) (hf : x_fit M N cs = true) (hs : x_stk st = true) (kk : x_Rn M (pc + 3) lo (.int r :: st) h (cs.1 + N.2.2.2.2.2.cells, cs.2 + N.2.2.2.2.2.slots) K) : x_Rn M pc lo (x3 :: x2 :: x1 :: .ref a :: st) h cs K := R_callV (av := [x1, x2, x3]) hd hl hN rfl ha hC hf hs (by rintro _ _ ⟨rfl, rfl⟩; exact kk)
theorem R_cV3l {M N : xM} {pc : Nat} {lo : List (Option Value)} {st : List Value} {h : xH} {cs : Nat × Nat} {K : Option Value → xH → Prop} {x1 x2 x3 : Value} {idx ci a : Nat} {fs : List Value} {r : Int64} (hd : decode M.2.2.1 pc = .ok (.invokevirtual idx, 3)) (hl : Cond.methodLink M.1 idx N.2.1 ∈ x_words) (hN : x_IV N 3 ci) (ha : h[a]? = some (.inr (ci, fs))) (hC : x_Met N (.ref a :: [x1, x2, x3]) h (x_prl r h)) (hf : x_fit M N cs = true) (hs : x_stk st = true) (kk : x_Rn M (pc + 3) lo (.long r :: st) h (cs.1 + N.2.2.2.2.2.cells, cs.2 + N.2.2.2.2.2.slots) K) : x_Rn M pc lo (x3 :: x2 :: x1 :: .ref a :: st) h cs K := R_callV (av := [x1, x2, x3]) hd hl hN rfl ha hC hf hs (by rintro _ _ ⟨rfl, rfl⟩; exact kk)
theorem R_cV3v {M N : xM} {pc : Nat} {lo : List (Option Value)} {st : List Value} {h : xH} {cs : Nat × Nat} {K : Option Value → xH → Prop} {x1 x2 x3 : Value} {idx ci a : Nat} {fs : List Value} {P : xH → Prop} (hd : decode M.2.2.1 pc = .ok (.invokevirtual idx, 3)) (hl : Cond.methodLink M.1 idx N.2.1 ∈ x_words) (hN : x_IV N 3 ci) (ha : h[a]? = some (.inr (ci, fs))) (hC : x_Met N (.ref a :: [x1, x2, x3]) h (x_vd P)) (hf : x_fit M N cs = true) (hs : x_stk st = true) (kk : ∀ h', P h' → x_Rn M (pc + 3) lo st h' (cs.1 + N.2.2.2.2.2.cells, cs.2 + N.2.2.2.2.2.slots) K) : x_Rn M pc lo (x3 :: x2 :: x1 :: .ref a :: st) h cs K := R_callV (av := [x1, x2, x3]) hd hl hN rfl ha hC hf hs (by rintro _ h2 ⟨rfl, hp⟩; exact kk h2 hp)
theorem R_cV3i {M N : xM} {pc : Nat} {lo : List (Option Value)} {st : List Value} {h : xH} {cs : Nat × Nat} {K : Option Value → xH → Prop} {x1 x2 x3 : Value} {idx ci a : Nat} {fs : List Value} {P : Int32 → xH → Prop} (hd : decode M.2.2.1 pc = .ok (.invokevirtual idx, 3)) (hl : Cond.methodLink M.1 idx N.2.1 ∈ x_words) (hN : x_IV N 3 ci) (ha : h[a]? = some (.inr (ci, fs))) (hC : x_Met N (.ref a :: [x1, x2, x3]) h (x_ir P)) (hf : x_fit M N cs = true) (hs : x_stk st = true) (kk : ∀ r h', P r h' → x_Rn M (pc + 3) lo (.int r :: st) h' (cs.1 + N.2.2.2.2.2.cells, cs.2 + N.2.2.2.2.2.slots) K) : x_Rn M pc lo (x3 :: x2 :: x1 :: .ref a :: st) h cs K := R_callV (av := [x1, x2, x3]) hd hl hN rfl ha hC hf hs (by rintro _ h2 ⟨r, rfl, hp⟩; exact kk r h2 hp)
theorem R_cV4p {M N : xM} {pc : Nat} {lo : List (Option Value)} {st : List Value} {h : xH} {cs : Nat × Nat} {K : Option Value → xH → Prop} {x1 x2 x3 x4 : Value} {idx ci a : Nat} {fs : List Value} {r : Int32} (hd : decode M.2.2.1 pc = .ok (.invokevirtual idx, 3)) (hl : Cond.methodLink M.1 idx N.2.1 ∈ x_words) (hN : x_IV N 4 ci) (ha : h[a]? = some (.inr (ci, fs))) (hC : x_Met N (.ref a :: [x1, x2, x3, x4]) h (x_pr r h)) (hf : x_fit M N cs = true) (hs : x_stk st = true) (kk : x_Rn M (pc + 3) lo (.int r :: st) h (cs.1 + N.2.2.2.2.2.cells, cs.2 + N.2.2.2.2.2.slots) K) : x_Rn M pc lo (x4 :: x3 :: x2 :: x1 :: .ref a :: st) h cs K := R_callV (av := [x1, x2, x3, x4]) hd hl hN rfl ha hC hf hs (by rintro _ _ ⟨rfl, rfl⟩; exact kk)
theorem R_cV4l {M N : xM} {pc : Nat} {lo : List (Option Value)} {st : List Value} {h : xH} {cs : Nat × Nat} {K : Option Value → xH → Prop} {x1 x2 x3 x4 : Value} {idx ci a : Nat} {fs : List Value} {r : Int64} (hd : decode M.2.2.1 pc = .ok (.invokevirtual idx, 3)) (hl : Cond.methodLink M.1 idx N.2.1 ∈ x_words) (hN : x_IV N 4 ci) (ha : h[a]? = some (.inr (ci, fs))) (hC : x_Met N (.ref a :: [x1, x2, x3, x4]) h (x_prl r h)) (hf : x_fit M N cs = true) (hs : x_stk st = true) (kk : x_Rn M (pc + 3) lo (.long r :: st) h (cs.1 + N.2.2.2.2.2.cells, cs.2 + N.2.2.2.2.2.slots) K) : x_Rn M pc lo (x4 :: x3 :: x2 :: x1 :: .ref a :: st) h cs K := R_callV (av := [x1, x2, x3, x4]) hd hl hN rfl ha hC hf hs (by rintro _ _ ⟨rfl, rfl⟩; exact kk)
theorem R_cV4v {M N : xM} {pc : Nat} {lo : List (Option Value)} {st : List Value} {h : xH} {cs : Nat × Nat} {K : Option Value → xH → Prop} {x1 x2 x3 x4 : Value} {idx ci a : Nat} {fs : List Value} {P : xH → Prop} (hd : decode M.2.2.1 pc = .ok (.invokevirtual idx, 3)) (hl : Cond.methodLink M.1 idx N.2.1 ∈ x_words) (hN : x_IV N 4 ci) (ha : h[a]? = some (.inr (ci, fs))) (hC : x_Met N (.ref a :: [x1, x2, x3, x4]) h (x_vd P)) (hf : x_fit M N cs = true) (hs : x_stk st = true) (kk : ∀ h', P h' → x_Rn M (pc + 3) lo st h' (cs.1 + N.2.2.2.2.2.cells, cs.2 + N.2.2.2.2.2.slots) K) : x_Rn M pc lo (x4 :: x3 :: x2 :: x1 :: .ref a :: st) h cs K := R_callV (av := [x1, x2, x3, x4]) hd hl hN rfl ha hC hf hs (by rintro _ h2 ⟨rfl, hp⟩; exact kk h2 hp)
theorem R_cV4i {M N : xM} {pc : Nat} {lo : List (Option Value)} {st : List Value} {h : xH} {cs : Nat × Nat} {K : Option Value → xH → Prop} {x1 x2 x3 x4 : Value} {idx ci a : Nat} {fs : List Value} {P : Int32 → xH → Prop} (hd : decode M.2.2.1 pc = .ok (.invokevirtual idx, 3)) (hl : Cond.methodLink M.1 idx N.2.1 ∈ x_words) (hN : x_IV N 4 ci) (ha : h[a]? = some (.inr (ci, fs))) (hC : x_Met N (.ref a :: [x1, x2, x3, x4]) h (x_ir P)) (hf : x_fit M N cs = true) (hs : x_stk st = true) (kk : ∀ r h', P r h' → x_Rn M (pc + 3) lo (.int r :: st) h' (cs.1 + N.2.2.2.2.2.cells, cs.2 + N.2.2.2.2.2.slots) K) : x_Rn M pc lo (x4 :: x3 :: x2 :: x1 :: .ref a :: st) h cs K := R_callV (av := [x1, x2, x3, x4]) hd hl hN rfl ha hC hf hs (by rintro _ h2 ⟨r, rfl, hp⟩; exact kk r h2 hp)
theorem R_cV5p {M N : xM} {pc : Nat} {lo : List (Option Value)} {st : List Value} {h : xH} {cs : Nat × Nat} {K : Option Value → xH → Prop} {x1 x2 x3 x4 x5 : Value} {idx ci a : Nat} {fs : List Value} {r : Int32} (hd : decode M.2.2.1 pc = .ok (.invokevirtual idx, 3)) (hl : Cond.methodLink M.1 idx N.2.1 ∈ x_words) (hN : x_IV N 5 ci) (ha : h[a]? = some (.inr (ci, fs))) (hC : x_Met N (.ref a :: [x1, x2, x3, x4, x5]) h (x_pr r h)) (hf : x_fit M N cs = true) (hs : x_stk st = true) (kk : x_Rn M (pc + 3) lo (.int r :: st) h (cs.1 + N.2.2.2.2.2.cells, cs.2 + N.2.2.2.2.2.slots) K) : x_Rn M pc lo (x5 :: x4 :: x3 :: x2 :: x1 :: .ref a :: st) h cs K := R_callV (av := [x1, x2, x3, x4, x5]) hd hl hN rfl ha hC hf hs (by rintro _ _ ⟨rfl, rfl⟩; exact kk)
theorem R_cV5l {M N : xM} {pc : Nat} {lo : List (Option Value)} {st : List Value} {h : xH} {cs : Nat × Nat} {K : Option Value → xH → Prop} {x1 x2 x3 x4 x5 : Value} {idx ci a : Nat} {fs : List Value} {r : Int64} (hd : decode M.2.2.1 pc = .ok (.invokevirtual idx, 3)) (hl : Cond.methodLink M.1 idx N.2.1 ∈ x_words) (hN : x_IV N 5 ci) (ha : h[a]? = some (.inr (ci, fs))) (hC : x_Met N (.ref a :: [x1, x2, x3, x4, x5]) h (x_prl r h)) (hf : x_fit M N cs = true) (hs : x_stk st = true) (kk : x_Rn M (pc + 3) lo (.long r :: st) h (cs.1 + N.2.2.2.2.2.cells, cs.2 + N.2.2.2.2.2.slots) K) : x_Rn M pc lo (x5 :: x4 :: x3 :: x2 :: x1 :: .ref a :: st) h cs K := R_callV (av := [x1, x2, x3, x4, x5]) hd hl hN rfl ha hC hf hs (by rintro _ _ ⟨rfl, rfl⟩; exact kk)
theorem R_cV5v {M N : xM} {pc : Nat} {lo : List (Option Value)} {st : List Value} {h : xH} {cs : Nat × Nat} {K : Option Value → xH → Prop} {x1 x2 x3 x4 x5 : Value} {idx ci a : Nat} {fs : List Value} {P : xH → Prop} (hd : decode M.2.2.1 pc = .ok (.invokevirtual idx, 3)) (hl : Cond.methodLink M.1 idx N.2.1 ∈ x_words) (hN : x_IV N 5 ci) (ha : h[a]? = some (.inr (ci, fs))) (hC : x_Met N (.ref a :: [x1, x2, x3, x4, x5]) h (x_vd P)) (hf : x_fit M N cs = true) (hs : x_stk st = true) (kk : ∀ h', P h' → x_Rn M (pc + 3) lo st h' (cs.1 + N.2.2.2.2.2.cells, cs.2 + N.2.2.2.2.2.slots) K) : x_Rn M pc lo (x5 :: x4 :: x3 :: x2 :: x1 :: .ref a :: st) h cs K := R_callV (av := [x1, x2, x3, x4, x5]) hd hl hN rfl ha hC hf hs (by rintro _ h2 ⟨rfl, hp⟩; exact kk h2 hp)
theorem R_cV5i {M N : xM} {pc : Nat} {lo : List (Option Value)} {st : List Value} {h : xH} {cs : Nat × Nat} {K : Option Value → xH → Prop} {x1 x2 x3 x4 x5 : Value} {idx ci a : Nat} {fs : List Value} {P : Int32 → xH → Prop} (hd : decode M.2.2.1 pc = .ok (.invokevirtual idx, 3)) (hl : Cond.methodLink M.1 idx N.2.1 ∈ x_words) (hN : x_IV N 5 ci) (ha : h[a]? = some (.inr (ci, fs))) (hC : x_Met N (.ref a :: [x1, x2, x3, x4, x5]) h (x_ir P)) (hf : x_fit M N cs = true) (hs : x_stk st = true) (kk : ∀ r h', P r h' → x_Rn M (pc + 3) lo (.int r :: st) h' (cs.1 + N.2.2.2.2.2.cells, cs.2 + N.2.2.2.2.2.slots) K) : x_Rn M pc lo (x5 :: x4 :: x3 :: x2 :: x1 :: .ref a :: st) h cs K := R_callV (av := [x1, x2, x3, x4, x5]) hd hl hN rfl ha hC hf hs (by rintro _ h2 ⟨r, rfl, hp⟩; exact kk r h2 hp)
theorem R_cS0p {M N : xM} {pc : Nat} {lo : List (Option Value)} {st : List Value} {h : xH} {cs : Nat × Nat} {K : Option Value → xH → Prop} {idx : Nat} {r : Int32} (hd : decode M.2.2.1 pc = .ok (.invokestatic idx, 3)) (hl : Cond.methodLink M.1 idx N.2.1 ∈ x_words) (hN : x_IS N 0) (hC : x_Met N [] h (x_pr r h)) (hf : x_fit M N cs = true) (hs : x_stk st = true) (kk : x_Rn M (pc + 3) lo (.int r :: st) h (cs.1 + N.2.2.2.2.2.cells, cs.2 + N.2.2.2.2.2.slots) K) : x_Rn M pc lo (st) h cs K := R_callS (av := []) hd hl hN rfl hC hf hs (by rintro _ _ ⟨rfl, rfl⟩; exact kk)
theorem R_cS0l {M N : xM} {pc : Nat} {lo : List (Option Value)} {st : List Value} {h : xH} {cs : Nat × Nat} {K : Option Value → xH → Prop} {idx : Nat} {r : Int64} (hd : decode M.2.2.1 pc = .ok (.invokestatic idx, 3)) (hl : Cond.methodLink M.1 idx N.2.1 ∈ x_words) (hN : x_IS N 0) (hC : x_Met N [] h (x_prl r h)) (hf : x_fit M N cs = true) (hs : x_stk st = true) (kk : x_Rn M (pc + 3) lo (.long r :: st) h (cs.1 + N.2.2.2.2.2.cells, cs.2 + N.2.2.2.2.2.slots) K) : x_Rn M pc lo (st) h cs K := R_callS (av := []) hd hl hN rfl hC hf hs (by rintro _ _ ⟨rfl, rfl⟩; exact kk)
theorem R_cS0v {M N : xM} {pc : Nat} {lo : List (Option Value)} {st : List Value} {h : xH} {cs : Nat × Nat} {K : Option Value → xH → Prop} {idx : Nat} {P : xH → Prop} (hd : decode M.2.2.1 pc = .ok (.invokestatic idx, 3)) (hl : Cond.methodLink M.1 idx N.2.1 ∈ x_words) (hN : x_IS N 0) (hC : x_Met N [] h (x_vd P)) (hf : x_fit M N cs = true) (hs : x_stk st = true) (kk : ∀ h', P h' → x_Rn M (pc + 3) lo st h' (cs.1 + N.2.2.2.2.2.cells, cs.2 + N.2.2.2.2.2.slots) K) : x_Rn M pc lo (st) h cs K := R_callS (av := []) hd hl hN rfl hC hf hs (by rintro _ h2 ⟨rfl, hp⟩; exact kk h2 hp)
theorem R_cS0i {M N : xM} {pc : Nat} {lo : List (Option Value)} {st : List Value} {h : xH} {cs : Nat × Nat} {K : Option Value → xH → Prop} {idx : Nat} {P : Int32 → xH → Prop} (hd : decode M.2.2.1 pc = .ok (.invokestatic idx, 3)) (hl : Cond.methodLink M.1 idx N.2.1 ∈ x_words) (hN : x_IS N 0) (hC : x_Met N [] h (x_ir P)) (hf : x_fit M N cs = true) (hs : x_stk st = true) (kk : ∀ r h', P r h' → x_Rn M (pc + 3) lo (.int r :: st) h' (cs.1 + N.2.2.2.2.2.cells, cs.2 + N.2.2.2.2.2.slots) K) : x_Rn M pc lo (st) h cs K := R_callS (av := []) hd hl hN rfl hC hf hs (by rintro _ h2 ⟨r, rfl, hp⟩; exact kk r h2 hp)
theorem R_cS1p {M N : xM} {pc : Nat} {lo : List (Option Value)} {st : List Value} {h : xH} {cs : Nat × Nat} {K : Option Value → xH → Prop} {x1 : Value} {idx : Nat} {r : Int32} (hd : decode M.2.2.1 pc = .ok (.invokestatic idx, 3)) (hl : Cond.methodLink M.1 idx N.2.1 ∈ x_words) (hN : x_IS N 1) (hC : x_Met N [x1] h (x_pr r h)) (hf : x_fit M N cs = true) (hs : x_stk st = true) (kk : x_Rn M (pc + 3) lo (.int r :: st) h (cs.1 + N.2.2.2.2.2.cells, cs.2 + N.2.2.2.2.2.slots) K) : x_Rn M pc lo (x1 :: st) h cs K := R_callS (av := [x1]) hd hl hN rfl hC hf hs (by rintro _ _ ⟨rfl, rfl⟩; exact kk)
theorem R_cS1l {M N : xM} {pc : Nat} {lo : List (Option Value)} {st : List Value} {h : xH} {cs : Nat × Nat} {K : Option Value → xH → Prop} {x1 : Value} {idx : Nat} {r : Int64} (hd : decode M.2.2.1 pc = .ok (.invokestatic idx, 3)) (hl : Cond.methodLink M.1 idx N.2.1 ∈ x_words) (hN : x_IS N 1) (hC : x_Met N [x1] h (x_prl r h)) (hf : x_fit M N cs = true) (hs : x_stk st = true) (kk : x_Rn M (pc + 3) lo (.long r :: st) h (cs.1 + N.2.2.2.2.2.cells, cs.2 + N.2.2.2.2.2.slots) K) : x_Rn M pc lo (x1 :: st) h cs K := R_callS (av := [x1]) hd hl hN rfl hC hf hs (by rintro _ _ ⟨rfl, rfl⟩; exact kk)
theorem R_cS1v {M N : xM} {pc : Nat} {lo : List (Option Value)} {st : List Value} {h : xH} {cs : Nat × Nat} {K : Option Value → xH → Prop} {x1 : Value} {idx : Nat} {P : xH → Prop} (hd : decode M.2.2.1 pc = .ok (.invokestatic idx, 3)) (hl : Cond.methodLink M.1 idx N.2.1 ∈ x_words) (hN : x_IS N 1) (hC : x_Met N [x1] h (x_vd P)) (hf : x_fit M N cs = true) (hs : x_stk st = true) (kk : ∀ h', P h' → x_Rn M (pc + 3) lo st h' (cs.1 + N.2.2.2.2.2.cells, cs.2 + N.2.2.2.2.2.slots) K) : x_Rn M pc lo (x1 :: st) h cs K := R_callS (av := [x1]) hd hl hN rfl hC hf hs (by rintro _ h2 ⟨rfl, hp⟩; exact kk h2 hp)
theorem R_cS1i {M N : xM} {pc : Nat} {lo : List (Option Value)} {st : List Value} {h : xH} {cs : Nat × Nat} {K : Option Value → xH → Prop} {x1 : Value} {idx : Nat} {P : Int32 → xH → Prop} (hd : decode M.2.2.1 pc = .ok (.invokestatic idx, 3)) (hl : Cond.methodLink M.1 idx N.2.1 ∈ x_words) (hN : x_IS N 1) (hC : x_Met N [x1] h (x_ir P)) (hf : x_fit M N cs = true) (hs : x_stk st = true) (kk : ∀ r h', P r h' → x_Rn M (pc + 3) lo (.int r :: st) h' (cs.1 + N.2.2.2.2.2.cells, cs.2 + N.2.2.2.2.2.slots) K) : x_Rn M pc lo (x1 :: st) h cs K := R_callS (av := [x1]) hd hl hN rfl hC hf hs (by rintro _ h2 ⟨r, rfl, hp⟩; exact kk r h2 hp)
theorem R_cS2p {M N : xM} {pc : Nat} {lo : List (Option Value)} {st : List Value} {h : xH} {cs : Nat × Nat} {K : Option Value → xH → Prop} {x1 x2 : Value} {idx : Nat} {r : Int32} (hd : decode M.2.2.1 pc = .ok (.invokestatic idx, 3)) (hl : Cond.methodLink M.1 idx N.2.1 ∈ x_words) (hN : x_IS N 2) (hC : x_Met N [x1, x2] h (x_pr r h)) (hf : x_fit M N cs = true) (hs : x_stk st = true) (kk : x_Rn M (pc + 3) lo (.int r :: st) h (cs.1 + N.2.2.2.2.2.cells, cs.2 + N.2.2.2.2.2.slots) K) : x_Rn M pc lo (x2 :: x1 :: st) h cs K := R_callS (av := [x1, x2]) hd hl hN rfl hC hf hs (by rintro _ _ ⟨rfl, rfl⟩; exact kk)
theorem R_cS2l {M N : xM} {pc : Nat} {lo : List (Option Value)} {st : List Value} {h : xH} {cs : Nat × Nat} {K : Option Value → xH → Prop} {x1 x2 : Value} {idx : Nat} {r : Int64} (hd : decode M.2.2.1 pc = .ok (.invokestatic idx, 3)) (hl : Cond.methodLink M.1 idx N.2.1 ∈ x_words) (hN : x_IS N 2) (hC : x_Met N [x1, x2] h (x_prl r h)) (hf : x_fit M N cs = true) (hs : x_stk st = true) (kk : x_Rn M (pc + 3) lo (.long r :: st) h (cs.1 + N.2.2.2.2.2.cells, cs.2 + N.2.2.2.2.2.slots) K) : x_Rn M pc lo (x2 :: x1 :: st) h cs K := R_callS (av := [x1, x2]) hd hl hN rfl hC hf hs (by rintro _ _ ⟨rfl, rfl⟩; exact kk)
theorem R_cS2v {M N : xM} {pc : Nat} {lo : List (Option Value)} {st : List Value} {h : xH} {cs : Nat × Nat} {K : Option Value → xH → Prop} {x1 x2 : Value} {idx : Nat} {P : xH → Prop} (hd : decode M.2.2.1 pc = .ok (.invokestatic idx, 3)) (hl : Cond.methodLink M.1 idx N.2.1 ∈ x_words) (hN : x_IS N 2) (hC : x_Met N [x1, x2] h (x_vd P)) (hf : x_fit M N cs = true) (hs : x_stk st = true) (kk : ∀ h', P h' → x_Rn M (pc + 3) lo st h' (cs.1 + N.2.2.2.2.2.cells, cs.2 + N.2.2.2.2.2.slots) K) : x_Rn M pc lo (x2 :: x1 :: st) h cs K := R_callS (av := [x1, x2]) hd hl hN rfl hC hf hs (by rintro _ h2 ⟨rfl, hp⟩; exact kk h2 hp)
theorem R_cS2i {M N : xM} {pc : Nat} {lo : List (Option Value)} {st : List Value} {h : xH} {cs : Nat × Nat} {K : Option Value → xH → Prop} {x1 x2 : Value} {idx : Nat} {P : Int32 → xH → Prop} (hd : decode M.2.2.1 pc = .ok (.invokestatic idx, 3)) (hl : Cond.methodLink M.1 idx N.2.1 ∈ x_words) (hN : x_IS N 2) (hC : x_Met N [x1, x2] h (x_ir P)) (hf : x_fit M N cs = true) (hs : x_stk st = true) (kk : ∀ r h', P r h' → x_Rn M (pc + 3) lo (.int r :: st) h' (cs.1 + N.2.2.2.2.2.cells, cs.2 + N.2.2.2.2.2.slots) K) : x_Rn M pc lo (x2 :: x1 :: st) h cs K := R_callS (av := [x1, x2]) hd hl hN rfl hC hf hs (by rintro _ h2 ⟨r, rfl, hp⟩; exact kk r h2 hp)
theorem R_cS3p {M N : xM} {pc : Nat} {lo : List (Option Value)} {st : List Value} {h : xH} {cs : Nat × Nat} {K : Option Value → xH → Prop} {x1 x2 x3 : Value} {idx : Nat} {r : Int32} (hd : decode M.2.2.1 pc = .ok (.invokestatic idx, 3)) (hl : Cond.methodLink M.1 idx N.2.1 ∈ x_words) (hN : x_IS N 3) (hC : x_Met N [x1, x2, x3] h (x_pr r h)) (hf : x_fit M N cs = true) (hs : x_stk st = true) (kk : x_Rn M (pc + 3) lo (.int r :: st) h (cs.1 + N.2.2.2.2.2.cells, cs.2 + N.2.2.2.2.2.slots) K) : x_Rn M pc lo (x3 :: x2 :: x1 :: st) h cs K := R_callS (av := [x1, x2, x3]) hd hl hN rfl hC hf hs (by rintro _ _ ⟨rfl, rfl⟩; exact kk)
theorem R_cS3l {M N : xM} {pc : Nat} {lo : List (Option Value)} {st : List Value} {h : xH} {cs : Nat × Nat} {K : Option Value → xH → Prop} {x1 x2 x3 : Value} {idx : Nat} {r : Int64} (hd : decode M.2.2.1 pc = .ok (.invokestatic idx, 3)) (hl : Cond.methodLink M.1 idx N.2.1 ∈ x_words) (hN : x_IS N 3) (hC : x_Met N [x1, x2, x3] h (x_prl r h)) (hf : x_fit M N cs = true) (hs : x_stk st = true) (kk : x_Rn M (pc + 3) lo (.long r :: st) h (cs.1 + N.2.2.2.2.2.cells, cs.2 + N.2.2.2.2.2.slots) K) : x_Rn M pc lo (x3 :: x2 :: x1 :: st) h cs K := R_callS (av := [x1, x2, x3]) hd hl hN rfl hC hf hs (by rintro _ _ ⟨rfl, rfl⟩; exact kk)
theorem R_cS3v {M N : xM} {pc : Nat} {lo : List (Option Value)} {st : List Value} {h : xH} {cs : Nat × Nat} {K : Option Value → xH → Prop} {x1 x2 x3 : Value} {idx : Nat} {P : xH → Prop} (hd : decode M.2.2.1 pc = .ok (.invokestatic idx, 3)) (hl : Cond.methodLink M.1 idx N.2.1 ∈ x_words) (hN : x_IS N 3) (hC : x_Met N [x1, x2, x3] h (x_vd P)) (hf : x_fit M N cs = true) (hs : x_stk st = true) (kk : ∀ h', P h' → x_Rn M (pc + 3) lo st h' (cs.1 + N.2.2.2.2.2.cells, cs.2 + N.2.2.2.2.2.slots) K) : x_Rn M pc lo (x3 :: x2 :: x1 :: st) h cs K := R_callS (av := [x1, x2, x3]) hd hl hN rfl hC hf hs (by rintro _ h2 ⟨rfl, hp⟩; exact kk h2 hp)
theorem R_cS3i {M N : xM} {pc : Nat} {lo : List (Option Value)} {st : List Value} {h : xH} {cs : Nat × Nat} {K : Option Value → xH → Prop} {x1 x2 x3 : Value} {idx : Nat} {P : Int32 → xH → Prop} (hd : decode M.2.2.1 pc = .ok (.invokestatic idx, 3)) (hl : Cond.methodLink M.1 idx N.2.1 ∈ x_words) (hN : x_IS N 3) (hC : x_Met N [x1, x2, x3] h (x_ir P)) (hf : x_fit M N cs = true) (hs : x_stk st = true) (kk : ∀ r h', P r h' → x_Rn M (pc + 3) lo (.int r :: st) h' (cs.1 + N.2.2.2.2.2.cells, cs.2 + N.2.2.2.2.2.slots) K) : x_Rn M pc lo (x3 :: x2 :: x1 :: st) h cs K := R_callS (av := [x1, x2, x3]) hd hl hN rfl hC hf hs (by rintro _ h2 ⟨r, rfl, hp⟩; exact kk r h2 hp)
theorem R_cS4p {M N : xM} {pc : Nat} {lo : List (Option Value)} {st : List Value} {h : xH} {cs : Nat × Nat} {K : Option Value → xH → Prop} {x1 x2 x3 x4 : Value} {idx : Nat} {r : Int32} (hd : decode M.2.2.1 pc = .ok (.invokestatic idx, 3)) (hl : Cond.methodLink M.1 idx N.2.1 ∈ x_words) (hN : x_IS N 4) (hC : x_Met N [x1, x2, x3, x4] h (x_pr r h)) (hf : x_fit M N cs = true) (hs : x_stk st = true) (kk : x_Rn M (pc + 3) lo (.int r :: st) h (cs.1 + N.2.2.2.2.2.cells, cs.2 + N.2.2.2.2.2.slots) K) : x_Rn M pc lo (x4 :: x3 :: x2 :: x1 :: st) h cs K := R_callS (av := [x1, x2, x3, x4]) hd hl hN rfl hC hf hs (by rintro _ _ ⟨rfl, rfl⟩; exact kk)
theorem R_cS4l {M N : xM} {pc : Nat} {lo : List (Option Value)} {st : List Value} {h : xH} {cs : Nat × Nat} {K : Option Value → xH → Prop} {x1 x2 x3 x4 : Value} {idx : Nat} {r : Int64} (hd : decode M.2.2.1 pc = .ok (.invokestatic idx, 3)) (hl : Cond.methodLink M.1 idx N.2.1 ∈ x_words) (hN : x_IS N 4) (hC : x_Met N [x1, x2, x3, x4] h (x_prl r h)) (hf : x_fit M N cs = true) (hs : x_stk st = true) (kk : x_Rn M (pc + 3) lo (.long r :: st) h (cs.1 + N.2.2.2.2.2.cells, cs.2 + N.2.2.2.2.2.slots) K) : x_Rn M pc lo (x4 :: x3 :: x2 :: x1 :: st) h cs K := R_callS (av := [x1, x2, x3, x4]) hd hl hN rfl hC hf hs (by rintro _ _ ⟨rfl, rfl⟩; exact kk)
theorem R_cS4v {M N : xM} {pc : Nat} {lo : List (Option Value)} {st : List Value} {h : xH} {cs : Nat × Nat} {K : Option Value → xH → Prop} {x1 x2 x3 x4 : Value} {idx : Nat} {P : xH → Prop} (hd : decode M.2.2.1 pc = .ok (.invokestatic idx, 3)) (hl : Cond.methodLink M.1 idx N.2.1 ∈ x_words) (hN : x_IS N 4) (hC : x_Met N [x1, x2, x3, x4] h (x_vd P)) (hf : x_fit M N cs = true) (hs : x_stk st = true) (kk : ∀ h', P h' → x_Rn M (pc + 3) lo st h' (cs.1 + N.2.2.2.2.2.cells, cs.2 + N.2.2.2.2.2.slots) K) : x_Rn M pc lo (x4 :: x3 :: x2 :: x1 :: st) h cs K := R_callS (av := [x1, x2, x3, x4]) hd hl hN rfl hC hf hs (by rintro _ h2 ⟨rfl, hp⟩; exact kk h2 hp)
theorem R_cS4i {M N : xM} {pc : Nat} {lo : List (Option Value)} {st : List Value} {h : xH} {cs : Nat × Nat} {K : Option Value → xH → Prop} {x1 x2 x3 x4 : Value} {idx : Nat} {P : Int32 → xH → Prop} (hd : decode M.2.2.1 pc = .ok (.invokestatic idx, 3)) (hl : Cond.methodLink M.1 idx N.2.1 ∈ x_words) (hN : x_IS N 4) (hC : x_Met N [x1, x2, x3, x4] h (x_ir P)) (hf : x_fit M N cs = true) (hs : x_stk st = true) (kk : ∀ r h', P r h' → x_Rn M (pc + 3) lo (.int r :: st) h' (cs.1 + N.2.2.2.2.2.cells, cs.2 + N.2.2.2.2.2.slots) K) : x_Rn M pc lo (x4 :: x3 :: x2 :: x1 :: st) h cs K := R_callS (av := [x1, x2, x3, x4]) hd hl hN rfl hC hf hs (by rintro _ h2 ⟨r, rfl, hp⟩; exact kk r h2 hp)
theorem R_cS5p {M N : xM} {pc : Nat} {lo : List (Option Value)} {st : List Value} {h : xH} {cs : Nat × Nat} {K : Option Value → xH → Prop} {x1 x2 x3 x4 x5 : Value} {idx : Nat} {r : Int32} (hd : decode M.2.2.1 pc = .ok (.invokestatic idx, 3)) (hl : Cond.methodLink M.1 idx N.2.1 ∈ x_words) (hN : x_IS N 5) (hC : x_Met N [x1, x2, x3, x4, x5] h (x_pr r h)) (hf : x_fit M N cs = true) (hs : x_stk st = true) (kk : x_Rn M (pc + 3) lo (.int r :: st) h (cs.1 + N.2.2.2.2.2.cells, cs.2 + N.2.2.2.2.2.slots) K) : x_Rn M pc lo (x5 :: x4 :: x3 :: x2 :: x1 :: st) h cs K := R_callS (av := [x1, x2, x3, x4, x5]) hd hl hN rfl hC hf hs (by rintro _ _ ⟨rfl, rfl⟩; exact kk)
theorem R_cS5l {M N : xM} {pc : Nat} {lo : List (Option Value)} {st : List Value} {h : xH} {cs : Nat × Nat} {K : Option Value → xH → Prop} {x1 x2 x3 x4 x5 : Value} {idx : Nat} {r : Int64} (hd : decode M.2.2.1 pc = .ok (.invokestatic idx, 3)) (hl : Cond.methodLink M.1 idx N.2.1 ∈ x_words) (hN : x_IS N 5) (hC : x_Met N [x1, x2, x3, x4, x5] h (x_prl r h)) (hf : x_fit M N cs = true) (hs : x_stk st = true) (kk : x_Rn M (pc + 3) lo (.long r :: st) h (cs.1 + N.2.2.2.2.2.cells, cs.2 + N.2.2.2.2.2.slots) K) : x_Rn M pc lo (x5 :: x4 :: x3 :: x2 :: x1 :: st) h cs K := R_callS (av := [x1, x2, x3, x4, x5]) hd hl hN rfl hC hf hs (by rintro _ _ ⟨rfl, rfl⟩; exact kk)
theorem R_cS5v {M N : xM} {pc : Nat} {lo : List (Option Value)} {st : List Value} {h : xH} {cs : Nat × Nat} {K : Option Value → xH → Prop} {x1 x2 x3 x4 x5 : Value} {idx : Nat} {P : xH → Prop} (hd : decode M.2.2.1 pc = .ok (.invokestatic idx, 3)) (hl : Cond.methodLink M.1 idx N.2.1 ∈ x_words) (hN : x_IS N 5) (hC : x_Met N [x1, x2, x3, x4, x5] h (x_vd P)) (hf : x_fit M N cs = true) (hs : x_stk st = true) (kk : ∀ h', P h' → x_Rn M (pc + 3) lo st h' (cs.1 + N.2.2.2.2.2.cells, cs.2 + N.2.2.2.2.2.slots) K) : x_Rn M pc lo (x5 :: x4 :: x3 :: x2 :: x1 :: st) h cs K := R_callS (av := [x1, x2, x3, x4, x5]) hd hl hN rfl hC hf hs (by rintro _ h2 ⟨rfl, hp⟩; exact kk h2 hp)
theorem R_cS5i {M N : xM} {pc : Nat} {lo : List (Option Value)} {st : List Value} {h : xH} {cs : Nat × Nat} {K : Option Value → xH → Prop} {x1 x2 x3 x4 x5 : Value} {idx : Nat} {P : Int32 → xH → Prop} (hd : decode M.2.2.1 pc = .ok (.invokestatic idx, 3)) (hl : Cond.methodLink M.1 idx N.2.1 ∈ x_words) (hN : x_IS N 5) (hC : x_Met N [x1, x2, x3, x4, x5] h (x_ir P)) (hf : x_fit M N cs = true) (hs : x_stk st = true) (kk : ∀ r h', P r h' → x_Rn M (pc + 3) lo (.int r :: st) h' (cs.1 + N.2.2.2.2.2.cells, cs.2 + N.2.2.2.2.2.slots) K) : x_Rn M pc lo (x5 :: x4 :: x3 :: x2 :: x1 :: st) h cs K := R_callS (av := [x1, x2, x3, x4, x5]) hd hl hN rfl hC hf hs (by rintro _ h2 ⟨r, rfl, hp⟩; exact kk r h2 hp)
end
section
/-! STATE: what the cells hold, in numbers -/
section SN
variable {M : xM} {pc : Nat} {lo : List (Option Value)} {st : List Value} {h : xH} {cs : Nat × Nat} {K : Option Value → xH → Prop}
theorem R_ifeqN {a : Nat} {off : Int} (tgt : Nat) (hd : decode M.2.2.1 pc = .ok (.ifCond .eq off, 3)) (ht : (pc : Int) + off = (tgt : Int)) (ha : a < 2 ^ 31) (kt : a = 0 → x_Rn M tgt lo st h cs K) (kf : ¬ a = 0 → x_Rn M (pc + 3) lo st h cs K) : x_Rn M pc lo (.int (nI a) :: st) h cs K := R_ifeq tgt hd ht (fun z => kt ((nI_eq ha (by decide)).mp (z.trans nI_0.symm))) (fun z => kf (fun w => z (by rw [w]; rfl)))
theorem R_ifneN {a : Nat} {off : Int} (tgt : Nat) (hd : decode M.2.2.1 pc = .ok (.ifCond .ne off, 3)) (ht : (pc : Int) + off = (tgt : Int)) (ha : a < 2 ^ 31) (kt : ¬ a = 0 → x_Rn M tgt lo st h cs K) (kf : a = 0 → x_Rn M (pc + 3) lo st h cs K) : x_Rn M pc lo (.int (nI a) :: st) h cs K := R_ifne tgt hd ht (fun z => kt (fun w => z (by rw [w]; rfl))) (fun z => kf ((nI_eq ha (by decide)).mp (z.trans nI_0.symm)))
theorem R_ifleN {a : Nat} {off : Int} (tgt : Nat) (hd : decode M.2.2.1 pc = .ok (.ifCond .le off, 3)) (ht : (pc : Int) + off = (tgt : Int)) (ha : a < 2 ^ 31) (kt : a = 0 → x_Rn M tgt lo st h cs K) (kf : ¬ a = 0 → x_Rn M (pc + 3) lo st h cs K) : x_Rn M pc lo (.int (nI a) :: st) h cs K := R_ifle tgt hd ht (fun z => kt (by have := (nI_leI ha (by decide : (0 : Nat) < 2 ^ 31)).mp z; omega)) (fun z => kf (fun w => z (by rw [w]; decide)))
/-- a cell that lies in the heap already -/
theorem x_same {a : Nat} {e : xC} (ha : h[a]? = some e) : h.set a e = h := by
  apply List.ext_getElem?
  intro j
  rw [List.getElem?_set]
  by_cases hj : a = j
  · subst hj
    have hl := (List.getElem?_eq_some_iff.mp ha).1
    rw [if_pos rfl, if_pos hl, ha]
  · rw [if_neg hj]
end SN
theorem arrV_cong {c : ClassId} {n : Nat} {f g : Nat → Value} (hfg : ∀ j, j < n → f j = g j) : arrV c n f = arrV c n g := by
  unfold arrV
  congr 1
  apply Array.ext
  · simp
  · intro i h1 h2
    simp at h1
    simp [hfg i h1]
/-- what two heaps that hold the same are: the same cells, arrays alike within their lengths -/
def x_alk (e e' : xC) : Prop := ∀ (G : xG) (q : Nat) (H : Heap), va_at G.2.2.2.1 vwCl (q, x_ce G e) H → va_at G.2.2.2.1 vwCl (q, x_ce G e') H
theorem x_alk.rf (e : xC) : x_alk e e := fun _ _ _ z => z
theorem x_alk.I {k n : Nat} {f g : Nat → Int32} (hfg : ∀ j, j < n → f j = g j) : x_alk (.inl (k, n, .inl f)) (.inl (k, n, .inl g)) := by
  intro G q H z
  have z : H[q]? = some (arrV (G.2.2.2.2 k) n (fun j => .int (f j))) := z
  show H[q]? = some (arrV (G.2.2.2.2 k) n (fun j => .int (g j)))
  rw [z, arrV_cong (fun j hj => congrArg Value.int (hfg j hj))]
theorem x_alk.L {k n : Nat} {f g : Nat → Int64} (hfg : ∀ j, j < n → f j = g j) : x_alk (.inl (k, n, .inr (.inl f))) (.inl (k, n, .inr (.inl g))) := by
  intro G q H z
  have z : H[q]? = some (arrV (G.2.2.2.2 k) n (fun j => .long (f j))) := z
  show H[q]? = some (arrV (G.2.2.2.2 k) n (fun j => .long (g j)))
  rw [z, arrV_cong (fun j hj => congrArg Value.long (hfg j hj))]
theorem x_alk.Q {k n : Nat} {f g : Nat → Option Nat} (hfg : ∀ j, j < n → f j = g j) : x_alk (.inl (k, n, .inr (.inr (.inr (.inr f))))) (.inl (k, n, .inr (.inr (.inr (.inr g))))) := by
  intro G q H z
  have z : H[q]? = some (arrV (G.2.2.2.2 k) n (fun j => va_rf ((f j).map (x_sg G)))) := z
  show H[q]? = some (arrV (G.2.2.2.2 k) n (fun j => va_rf ((g j).map (x_sg G))))
  rw [z, arrV_cong (fun j hj => by rw [hfg j hj])]
theorem R_alk {M : xM} {pc : Nat} {lo : List (Option Value)} {st : List Value} {h : xH} {cs : Nat × Nat} {K : Option Value → xH → Prop} {a : Nat} {e e' : xC} (h2 : 2 ≤ a) (hal : x_alk e e') (kk : x_Rn M pc lo st (h.set a e') cs K) : x_Rn M pc lo st (h.set a e) cs K := by
  intro p l e0 s m args below meth c G Z H locs ls C hR hS hL
  refine kk p l e0 s m args below meth c G Z H locs ls C ?_ hS hL
  obtain ⟨r1, r2, r3, r4, r5, r6⟩ := hR
  obtain ⟨b, rfl⟩ : ∃ b, a = b + 2 := ⟨a - 2, by omega⟩
  have hlen : (h.set (b + 2) e).length = (h.set (b + 2) e').length := by rw [List.length_set, List.length_set]
  have hget : ∀ j, j ≠ b + 2 → (h.set (b + 2) e')[j]? = (h.set (b + 2) e)[j]? := fun j hj => by rw [List.getElem?_set, List.getElem?_set, if_neg (Ne.symm hj), if_neg (Ne.symm hj)]
  refine ⟨hlen ▸ r1, hlen ▸ r2, fun k q hk => ?_, r4, r5.kept (hget 0 (by omega)) (hget 1 (by omega)) (fun _ _ _ => rfl), r6⟩
  obtain ⟨x, hx, rfl⟩ := x_ws_of hk
  by_cases hkb : k = b
  · subst hkb
    rw [List.getElem?_set, if_pos rfl] at hx
    by_cases hl : k + 2 < h.length
    · rw [if_pos hl] at hx
      cases hx
      exact hal G _ H (r3 k _ (x_ws_get (by rw [List.getElem?_set, if_pos rfl, if_pos hl])))
    · rw [if_neg hl] at hx; cases hx
  · rw [hget (k + 2) (by omega)] at hx
    exact r3 k _ (x_ws_get hx)
theorem x_bt {b : Bool} (h : b = true) : nI 1 = x_b b := by rw [h]; rfl
theorem x_bf {b : Bool} (h : b = false) : nI 0 = x_b b := by rw [h]; rfl
/-- rooms, heirs .. by number, of any int -/
def x_has (r : Int32) (n : Nat) : Bool := decide (¬ r < 0 ∧ ¬ nI n ≤ r)
theorem x_has_t {r : Int32} {n : Nat} (hn : n < 2 ^ 31) (h : x_has r n = true) : ∃ k, k < n ∧ r = nI k := by
  have h := of_decide_eq_true h
  rcases pk_ix r hn with q | q | q
  · exact absurd q h.1
  · exact absurd q h.2
  · exact q
theorem x_has_nI {k n : Nat} (hk : k < n) (hn : n < 2 ^ 31) : x_has (nI k) n = true := decide_eq_true ⟨nI_pos (by omega), nI_ge hk hn⟩
/-- sets of small numbers -/
def s_set : Nat → (Nat → Bool) → Int32
  | 0, _ => nI 0
  | n + 1, f => if f n then s_set n f ||| (nI 1 <<< (nI n &&& 31)) else s_set n f
theorem s_set_t {n : Nat} {f : Nat → Bool} (h : f n = true) : s_set n f ||| (nI 1 <<< (nI n &&& 31)) = s_set (n + 1) f := by rw [s_set, if_pos h]
theorem s_set_f {n : Nat} {f : Nat → Bool} (h : f n = false) : s_set n f = s_set (n + 1) f := by rw [s_set, if_neg (by rw [h]; decide)]
theorem s_set_cong {f g : Nat → Bool} : ∀ {n : Nat}, (∀ k, k < n → f k = g k) → s_set n f = s_set n g
  | 0, _ => rfl
  | n + 1, h => by rw [s_set, s_set, s_set_cong (fun k hk => h k (by omega)), h n (by omega)]
abbrev xF : Type := Nat → Nat → Nat
abbrev x_ia (n : Nat) (f : Nat → Int32) : xC := .inl (0, n, .inl f)
abbrev x_na (n : Nat) (f : Nat → Nat) : xC := .inl (0, n, .inl (fun j => nI (f j)))
/-- rows of a grid at a: n rows -/
abbrev x_qa (kd n a : Nat) : xC := .inl (kd, n, .inr (.inr (.inr (.inr (fun i => if i < n then some (a + 1 + i) else none)))))
/-- a House at b: hours, rooms, doors, heirs; 0 burns, 1 oneSide, 2 otherSide, 3 thick, 4 kind, 5 voice, 6 start, 10 + a walls, 20 + a ways -/
def x_House (h : xH) (b N R D P : Nat) (F : xF) : Prop := 2 ≤ b ∧ h[b]? = some (.inr (1, [.int (nI N), .int (nI R), .int (nI D), .int (nI P), .ref (b + 1), .ref (b + 2), .ref (b + 3), .ref (b + 4), .ref (b + 5), .ref (b + 6), .ref (b + 7), .ref (b + 8), .ref (b + 15)])) ∧
  h[b + 1]? = some (x_na 6 (F 0)) ∧ h[b + 2]? = some (x_na 8 (F 1)) ∧ h[b + 3]? = some (x_na 8 (F 2)) ∧ h[b + 4]? = some (x_na 8 (F 3)) ∧ h[b + 5]? = some (x_na 6 (F 4)) ∧ h[b + 6]? = some (x_na 6 (F 5)) ∧ h[b + 7]? = some (x_na 6 (F 6)) ∧
  h[b + 8]? = some (x_qa 4 6 (b + 8)) ∧ (∀ a, a < 6 → h[b + 8 + 1 + a]? = some (x_na 6 (F (10 + a)))) ∧ h[b + 15]? = some (x_qa 4 6 (b + 15)) ∧ ∀ a, a < 6 → h[b + 15 + 1 + a]? = some (x_na 6 (F (20 + a)))
def x_HB (N R D P : Nat) (F : xF) : Prop := (N ≤ 20 ∧ R ≤ 6 ∧ D ≤ 8 ∧ P ≤ 6) ∧ (∀ d, d < D → F 1 d < R ∧ F 2 d < R ∧ F 3 d ≤ 9) ∧ (∀ p, p < P → F 4 p ≤ 4 ∧ 1 ≤ F 5 p ∧ F 5 p ≤ 20 ∧ F 6 p < R) ∧ (∀ a b, a < R → b < R → F (10 + a) b ≤ 99 ∧ F (20 + a) b ≤ 99)
theorem x_House.kept {h h' : xH} {b N R D P : Nat} {F : xF} (H : x_House h b N R D P F) (hq : ∀ q, b ≤ q → q < b + 22 → h'[q]? = h[q]?) : x_House h' b N R D P F := by
  obtain ⟨h2, g0, g1, g2, g3, g4, g5, g6, g7, g8, g9, g10, g11⟩ := H
  exact ⟨h2, (hq _ (by omega) (by omega)).trans g0, (hq _ (by omega) (by omega)).trans g1, (hq _ (by omega) (by omega)).trans g2, (hq _ (by omega) (by omega)).trans g3, (hq _ (by omega) (by omega)).trans g4, (hq _ (by omega) (by omega)).trans g5, (hq _ (by omega) (by omega)).trans g6, (hq _ (by omega) (by omega)).trans g7, (hq _ (by omega) (by omega)).trans g8, fun a ha => (hq _ (by omega) (by omega)).trans (g9 a ha), (hq _ (by omega) (by omega)).trans g10, fun a ha => (hq _ (by omega) (by omega)).trans (g11 a ha)⟩
def s_behind (F : xF) (d r : Nat) : Int32 := if F 1 d = r then nI (F 2 d) else if F 2 d = r then nI (F 1 d) else -1
def s_name (F : xF) (p k : Nat) : Nat := if F 4 p = 2 ∧ ¬ k = 3 then 0 else p
def s_heard (F : xF) (p from_ : Nat) : Nat → Bool := fun r => decide (F (10 + from_) r < F 5 p)
end
section
theorem c_House_hasRoom {h : xH} {b N R D P : Nat} {F : xF} (H : x_House h b N R D P F) (r : Int32) : x_Met m_X1_hasRoom [.ref b, .int r] h (x_pr (x_b (x_has r R)) h) := by
  obtain ⟨h2, g0, g1, g2, g3, g4, g5, g6, g7, g8, g9, g10, g11⟩ := H
  refine x_Met.of (lo := [some (.ref b), some (.int r)]) (by decide) rfl rfl rfl ?_
  refine R_iload_n dX1_hasRoom_0 rfl ?_
  refine R_iflt 16 dX1_hasRoom_1 rfl (fun c_1 => ?_) (fun c_1 => ?_)
  · refine R_iconst (nI 0) dX1_hasRoom_16 rfl ?_
    exact R_zret dX1_hasRoom_17 rfl (Or.inl rfl) rfl rfl (x_pr.eq (x_bf (by simp [x_has, *])))
  · refine R_iload_n dX1_hasRoom_4 rfl ?_
    refine R_aload_n dX1_hasRoom_5 rfl ?_
    refine R_get dX1_hasRoom_6 f_X1_15 g0 rfl ?_
    refine R_icmpge 16 dX1_hasRoom_9 rfl (fun c_9 => ?_) (fun c_9 => ?_)
    · refine R_iconst (nI 0) dX1_hasRoom_16 rfl ?_
      exact R_zret dX1_hasRoom_17 rfl (Or.inl rfl) rfl rfl (x_pr.eq (x_bf (by simp [x_has, *])))
    · refine R_iconst (nI 1) dX1_hasRoom_12 rfl ?_
      refine R_goto 17 dX1_hasRoom_13 rfl ?_
      exact R_zret dX1_hasRoom_17 rfl (Or.inr rfl) rfl rfl (x_pr.eq (x_bt (by simp [x_has, *])))
theorem c_House_hasDoor {h : xH} {b N R D P : Nat} {F : xF} (H : x_House h b N R D P F) (r : Int32) : x_Met m_X1_hasDoor [.ref b, .int r] h (x_pr (x_b (x_has r D)) h) := by
  obtain ⟨h2, g0, g1, g2, g3, g4, g5, g6, g7, g8, g9, g10, g11⟩ := H
  refine x_Met.of (lo := [some (.ref b), some (.int r)]) (by decide) rfl rfl rfl ?_
  refine R_iload_n dX1_hasDoor_0 rfl ?_
  refine R_iflt 16 dX1_hasDoor_1 rfl (fun c_1 => ?_) (fun c_1 => ?_)
  · refine R_iconst (nI 0) dX1_hasDoor_16 rfl ?_
    exact R_zret dX1_hasDoor_17 rfl (Or.inl rfl) rfl rfl (x_pr.eq (x_bf (by simp [x_has, *])))
  · refine R_iload_n dX1_hasDoor_4 rfl ?_
    refine R_aload_n dX1_hasDoor_5 rfl ?_
    refine R_get dX1_hasDoor_6 f_X1_18 g0 rfl ?_
    refine R_icmpge 16 dX1_hasDoor_9 rfl (fun c_9 => ?_) (fun c_9 => ?_)
    · refine R_iconst (nI 0) dX1_hasDoor_16 rfl ?_
      exact R_zret dX1_hasDoor_17 rfl (Or.inl rfl) rfl rfl (x_pr.eq (x_bf (by simp [x_has, *])))
    · refine R_iconst (nI 1) dX1_hasDoor_12 rfl ?_
      refine R_goto 17 dX1_hasDoor_13 rfl ?_
      exact R_zret dX1_hasDoor_17 rfl (Or.inr rfl) rfl rfl (x_pr.eq (x_bt (by simp [x_has, *])))
theorem c_House_hasHeir {h : xH} {b N R D P : Nat} {F : xF} (H : x_House h b N R D P F) (r : Int32) : x_Met m_X1_hasHeir [.ref b, .int r] h (x_pr (x_b (x_has r P)) h) := by
  obtain ⟨h2, g0, g1, g2, g3, g4, g5, g6, g7, g8, g9, g10, g11⟩ := H
  refine x_Met.of (lo := [some (.ref b), some (.int r)]) (by decide) rfl rfl rfl ?_
  refine R_iload_n dX1_hasHeir_0 rfl ?_
  refine R_iflt 16 dX1_hasHeir_1 rfl (fun c_1 => ?_) (fun c_1 => ?_)
  · refine R_iconst (nI 0) dX1_hasHeir_16 rfl ?_
    exact R_zret dX1_hasHeir_17 rfl (Or.inl rfl) rfl rfl (x_pr.eq (x_bf (by simp [x_has, *])))
  · refine R_iload_n dX1_hasHeir_4 rfl ?_
    refine R_aload_n dX1_hasHeir_5 rfl ?_
    refine R_get dX1_hasHeir_6 f_X1_21 g0 rfl ?_
    refine R_icmpge 16 dX1_hasHeir_9 rfl (fun c_9 => ?_) (fun c_9 => ?_)
    · refine R_iconst (nI 0) dX1_hasHeir_16 rfl ?_
      exact R_zret dX1_hasHeir_17 rfl (Or.inl rfl) rfl rfl (x_pr.eq (x_bf (by simp [x_has, *])))
    · refine R_iconst (nI 1) dX1_hasHeir_12 rfl ?_
      refine R_goto 17 dX1_hasHeir_13 rfl ?_
      exact R_zret dX1_hasHeir_17 rfl (Or.inr rfl) rfl rfl (x_pr.eq (x_bt (by simp [x_has, *])))
theorem c_House_hasRooms {h : xH} {b N R D P : Nat} {F : xF} (H : x_House h b N R D P F) (r : Int32) : x_Met m_X1_hasRooms [.ref b, .int r] h (x_pr (x_b (decide (¬ r < 0 ∧ ¬ nI 1 <<< (nI R &&& 31) ≤ r))) h) := by
  obtain ⟨h2, g0, g1, g2, g3, g4, g5, g6, g7, g8, g9, g10, g11⟩ := H
  refine x_Met.of (lo := [some (.ref b), some (.int r)]) (by decide) rfl rfl rfl ?_
  refine R_iload_n dX1_hasRooms_0 rfl ?_
  refine R_iflt 18 dX1_hasRooms_1 rfl (fun c_1 => ?_) (fun c_1 => ?_)
  · refine R_iconst (nI 0) dX1_hasRooms_18 rfl ?_
    exact R_zret dX1_hasRooms_19 rfl (Or.inl rfl) rfl rfl (x_pr.eq (x_bf (by simp [*])))
  · refine R_iload_n dX1_hasRooms_4 rfl ?_
    refine R_iconst (nI 1) dX1_hasRooms_5 rfl ?_
    refine R_aload_n dX1_hasRooms_6 rfl ?_
    refine R_get dX1_hasRooms_7 f_X1_15 g0 rfl ?_
    refine R_ishl dX1_hasRooms_10 ?_
    refine R_icmpge 18 dX1_hasRooms_11 rfl (fun c_11 => ?_) (fun c_11 => ?_)
    · refine R_iconst (nI 0) dX1_hasRooms_18 rfl ?_
      exact R_zret dX1_hasRooms_19 rfl (Or.inl rfl) rfl rfl (x_pr.eq (x_bf (by simp [*])))
    · refine R_iconst (nI 1) dX1_hasRooms_14 rfl ?_
      refine R_goto 19 dX1_hasRooms_15 rfl ?_
      exact R_zret dX1_hasRooms_19 rfl (Or.inr rfl) rfl rfl (x_pr.eq (x_bt (by simp [*])))
theorem c_House_behind {h : xH} {b N R D P : Nat} {F : xF} (H : x_House h b N R D P F) (hB : x_HB N R D P F) {d r : Nat} (hd : d < D) (hr : r < R) : x_Met m_X1_behind [.ref b, .int (nI d), .int (nI r)] h (x_pr (s_behind F d r) h) := by
  obtain ⟨h2, g0, g1, g2, g3, g4, g5, g6, g7, g8, g9, g10, g11⟩ := H
  obtain ⟨⟨b1, b2, b3, b4⟩, b5, b6, b7⟩ := hB
  have w1 := b5 d hd
  refine x_Met.of (lo := [some (.ref b), some (.int (nI d)), some (.int (nI r))]) (by decide) rfl rfl rfl ?_
  refine R_aload_n dX1_behind_0 rfl ?_
  refine R_get dX1_behind_1 f_X1_28 g0 rfl ?_
  refine R_iload_n dX1_behind_4 rfl ?_
  refine R_iald dX1_behind_5 g2 rfl (by omega) (by decide) ?_
  refine R_iload_n dX1_behind_6 rfl ?_
  refine R_neN 17 dX1_behind_7 rfl (by omega) (by omega) (fun c_7 => ?_) (fun c_7 => ?_)
  · refine R_aload_n dX1_behind_17 rfl ?_
    refine R_get dX1_behind_18 f_X1_31 g0 rfl ?_
    refine R_iload_n dX1_behind_21 rfl ?_
    refine R_iald dX1_behind_22 g3 rfl (by omega) (by decide) ?_
    refine R_iload_n dX1_behind_23 rfl ?_
    refine R_neN 36 dX1_behind_24 rfl (by omega) (by omega) (fun c_24 => ?_) (fun c_24 => ?_)
    · refine R_iconst (-1) dX1_behind_36 rfl ?_
      exact R_iret dX1_behind_37 rfl rfl rfl (x_pr.eq (by simp [s_behind, *]))
    · refine R_aload_n dX1_behind_27 rfl ?_
      refine R_get dX1_behind_28 f_X1_28 g0 rfl ?_
      refine R_iload_n dX1_behind_31 rfl ?_
      refine R_iald dX1_behind_32 g2 rfl (by omega) (by decide) ?_
      refine R_goto 37 dX1_behind_33 rfl ?_
      exact R_iret dX1_behind_37 rfl rfl rfl (x_pr.eq (by simp [s_behind, *]))
  · refine R_aload_n dX1_behind_10 rfl ?_
    refine R_get dX1_behind_11 f_X1_31 g0 rfl ?_
    refine R_iload_n dX1_behind_14 rfl ?_
    refine R_iald dX1_behind_15 g3 rfl (by omega) (by decide) ?_
    exact R_iret dX1_behind_16 rfl rfl rfl (x_pr.eq (by simp [s_behind, *]))
theorem c_House_isEarly {h : xH} {b N R D P : Nat} {F : xF} (H : x_House h b N R D P F) (hB : x_HB N R D P F) {r : Nat} (hr : r ≤ 20) : x_Met m_X1_isEarly [.ref b, .int (nI r)] h (x_pr (x_b (decide (r < N / 2))) h) := by
  obtain ⟨h2, g0, g1, g2, g3, g4, g5, g6, g7, g8, g9, g10, g11⟩ := H
  obtain ⟨⟨b1, b2, b3, b4⟩, b5, b6, b7⟩ := hB
  refine x_Met.of (lo := [some (.ref b), some (.int (nI r))]) (by decide) rfl rfl rfl ?_
  refine R_iload_n dX1_isEarly_0 rfl ?_
  refine R_aload_n dX1_isEarly_1 rfl ?_
  refine R_get dX1_isEarly_2 f_X1_9 g0 rfl ?_
  refine R_iconst (nI 2) dX1_isEarly_5 rfl ?_
  refine R_idivN dX1_isEarly_6 (by omega) (by omega) (by omega) ?_
  refine R_geN 14 dX1_isEarly_7 rfl (by omega) (by omega) (fun c_7 => ?_) (fun c_7 => ?_)
  · refine R_iconst (nI 0) dX1_isEarly_14 rfl ?_
    exact R_zret dX1_isEarly_15 rfl (Or.inl rfl) rfl rfl (x_pr.eq (x_bf (decide_eq_false (by omega))))
  · refine R_iconst (nI 1) dX1_isEarly_10 rfl ?_
    refine R_goto 15 dX1_isEarly_11 rfl ?_
    exact R_zret dX1_isEarly_15 rfl (Or.inr rfl) rfl rfl (x_pr.eq (x_bt (decide_eq_true (by omega))))
theorem c_House_nameOf {h : xH} {b N R D P : Nat} {F : xF} (H : x_House h b N R D P F) (hB : x_HB N R D P F) {p k : Nat} (hp : p < P) (hk : k < 4) : x_Met m_X1_nameOf [.ref b, .int (nI p), .int (nI k)] h (x_pr (nI (s_name F p k)) h) := by
  obtain ⟨h2, g0, g1, g2, g3, g4, g5, g6, g7, g8, g9, g10, g11⟩ := H
  obtain ⟨⟨b1, b2, b3, b4⟩, b5, b6, b7⟩ := hB
  have w1 := b6 p hp
  refine x_Met.of (lo := [some (.ref b), some (.int (nI p)), some (.int (nI k))]) (by decide) rfl rfl rfl ?_
  refine R_aload_n dX1_nameOf_0 rfl ?_
  refine R_get dX1_nameOf_1 f_X1_37 g0 rfl ?_
  refine R_iload_n dX1_nameOf_4 rfl ?_
  refine R_iald dX1_nameOf_5 g5 rfl (by omega) (by decide) ?_
  refine R_iconst (nI 2) dX1_nameOf_6 rfl ?_
  refine R_neN 19 dX1_nameOf_7 rfl (by omega) (by omega) (fun c_7 => ?_) (fun c_7 => ?_)
  · refine R_iload_n dX1_nameOf_19 rfl ?_
    exact R_iret dX1_nameOf_20 rfl rfl rfl (x_pr.eq (congrArg nI (by simp [s_name, *])))
  · refine R_iload_n dX1_nameOf_10 rfl ?_
    refine R_iconst (nI 3) dX1_nameOf_11 rfl ?_
    refine R_eqN 19 dX1_nameOf_12 rfl (by omega) (by omega) (fun c_12 => ?_) (fun c_12 => ?_)
    · refine R_iload_n dX1_nameOf_19 rfl ?_
      exact R_iret dX1_nameOf_20 rfl rfl rfl (x_pr.eq (congrArg nI (by simp [s_name, *])))
    · refine R_iconst (nI 0) dX1_nameOf_15 rfl ?_
      refine R_goto 20 dX1_nameOf_16 rfl ?_
      exact R_iret dX1_nameOf_20 rfl rfl rfl (x_pr.eq (congrArg nI (by simp [s_name, *])))
theorem c_House_isHeard {h : xH} {b N R D P : Nat} {F : xF} (H : x_House h b N R D P F) (hB : x_HB N R D P F) {p f r : Nat} (hp : p < P) (hf : f < R) (hr : r < R) : x_Met m_X1_isHeard [.ref b, .int (nI p), .int (nI f), .int (nI r)] h (x_pr (x_b (s_heard F p f r)) h) := by
  obtain ⟨h2, g0, g1, g2, g3, g4, g5, g6, g7, g8, g9, g10, g11⟩ := H
  obtain ⟨⟨b1, b2, b3, b4⟩, b5, b6, b7⟩ := hB
  have w1 := b6 p hp
  have w2 := b7 f r hf hr
  refine x_Met.of (lo := [some (.ref b), some (.int (nI p)), some (.int (nI f)), some (.int (nI r))]) (by decide) rfl rfl rfl ?_
  refine R_aload_n dX1_isHeard_0 rfl ?_
  refine R_get dX1_isHeard_1 f_X1_48 g0 rfl ?_
  refine R_iload_n dX1_isHeard_4 rfl ?_
  refine R_aald dX1_isHeard_5 g8 (by omega) (fun _ => rfl) rfl rfl (by omega) (by decide) (if_pos (by omega)) ?_
  refine R_iload_n dX1_isHeard_6 rfl ?_
  refine R_iald dX1_isHeard_7 (g9 _ (by omega)) rfl (by omega) (by decide) ?_
  refine R_aload_n dX1_isHeard_8 rfl ?_
  refine R_get dX1_isHeard_9 f_X1_40 g0 rfl ?_
  refine R_iload_n dX1_isHeard_12 rfl ?_
  refine R_iald dX1_isHeard_13 g6 rfl (by omega) (by decide) ?_
  refine R_geN 21 dX1_isHeard_14 rfl (by omega) (by omega) (fun c_14 => ?_) (fun c_14 => ?_)
  · refine R_iconst (nI 0) dX1_isHeard_21 rfl ?_
    exact R_zret dX1_isHeard_22 rfl (Or.inl rfl) rfl rfl (x_pr.eq (x_bf (decide_eq_false (by omega))))
  · refine R_iconst (nI 1) dX1_isHeard_17 rfl ?_
    refine R_goto 22 dX1_isHeard_18 rfl ?_
    exact R_zret dX1_isHeard_22 rfl (Or.inr rfl) rfl rfl (x_pr.eq (x_bt (decide_eq_true (by omega))))
theorem c_House_heardFrom_loop {h : xH} {b N R D P : Nat} {F : xF} (H : x_House h b N R D P F) (hB : x_HB N R D P F) {p f : Nat} (hp : p < P) (hf : f < R) : ∀ (n r : Nat), r ≤ R → R + 1 ≤ r + n → x_Rn m_X1_heardFrom 5 [some (.ref b), some (.int (nI p)), some (.int (nI f)), some (.int (s_set r (s_heard F p f))), some (.int (nI r))] [] h (0, 0) (x_pr (s_set R (s_heard F p f)) h) := by
  obtain ⟨h2, g0, g1, g2, g3, g4, g5, g6, g7, g8, g9, g10, g11⟩ := id H
  obtain ⟨⟨b1, b2, b3, b4⟩, b5, b6, b7⟩ := id hB
  intro n
  induction n with
  | zero => intro r h1 h3; omega
  | succ n ih =>
    intro r h1 h3
    refine R_iload dX1_heardFrom_5 rfl ?_
    refine R_aload_n dX1_heardFrom_7 rfl ?_
    refine R_get dX1_heardFrom_8 f_X1_15 g0 rfl ?_
    refine R_geN 38 dX1_heardFrom_11 rfl (by omega) (by omega) (fun c_11 => ?_) (fun c_11 => ?_)
    · have e : r = R := by omega
      subst e
      refine R_iload_n dX1_heardFrom_38 rfl ?_
      exact R_iret dX1_heardFrom_39 rfl rfl rfl x_pr.mk
    · have hr : r < R := by omega
      refine R_aload_n dX1_heardFrom_14 rfl ?_
      refine R_iload_n dX1_heardFrom_15 rfl ?_
      refine R_iload_n dX1_heardFrom_16 rfl ?_
      refine R_iload dX1_heardFrom_17 rfl ?_
      refine R_cV3p (N := m_X1_isHeard) dX1_heardFrom_19 l_X1_54 i_X1_isHeard g0 (c_House_isHeard H hB hp hf hr) rfl rfl ?_
      refine R_ifeqB 32 dX1_heardFrom_22 rfl (fun c_22 => ?_) (fun c_22 => ?_)
      · rw [s_set_f c_22]
        refine R_iincN dX1_heardFrom_32 rfl (Nat.le_of_ble_eq_true rfl) rfl ?_
        refine R_goto 5 dX1_heardFrom_35 rfl ?_
        exact ih (r + 1) (by omega) (by omega)
      · 
        refine R_iload_n dX1_heardFrom_25 rfl ?_
        refine R_iconst (nI 1) dX1_heardFrom_26 rfl ?_
        refine R_iload dX1_heardFrom_27 rfl ?_
        refine R_ishl dX1_heardFrom_29 ?_
        refine R_ior dX1_heardFrom_30 ?_
        rw [s_set_t c_22]
        refine R_istore_n dX1_heardFrom_31 (Nat.le_of_ble_eq_true rfl) rfl ?_
        refine R_iincN dX1_heardFrom_32 rfl (Nat.le_of_ble_eq_true rfl) rfl ?_
        refine R_goto 5 dX1_heardFrom_35 rfl ?_
        exact ih (r + 1) (by omega) (by omega)
theorem c_House_heardFrom {h : xH} {b N R D P : Nat} {F : xF} (H : x_House h b N R D P F) (hB : x_HB N R D P F) {p f : Nat} (hp : p < P) (hf : f < R) : x_Met m_X1_heardFrom [.ref b, .int (nI p), .int (nI f)] h (x_pr (s_set R (s_heard F p f)) h) := by
  refine x_Met.of (lo := [some (.ref b), some (.int (nI p)), some (.int (nI f)), none, none]) (by decide) rfl rfl rfl ?_
  refine R_iconst (nI 0) dX1_heardFrom_0 rfl ?_
  refine R_istore_n dX1_heardFrom_1 (Nat.le_of_ble_eq_true rfl) rfl ?_
  refine R_iconst (nI 0) dX1_heardFrom_2 rfl ?_
  refine R_istore dX1_heardFrom_3 (Nat.le_of_ble_eq_true rfl) rfl ?_
  exact c_House_heardFrom_loop H hB hp hf (R + 1) 0 (by omega) (by omega)
end
section
/-! SETS AS NUMBERS; what a Night holds -/
theorem x_or (a b : Nat) : nI a ||| nI b = nI (a ||| b) := by
  apply Int32.toBitVec_inj.mp
  show (BitVec.ofNat 32 a ||| BitVec.ofNat 32 b) = BitVec.ofNat 32 (a ||| b)
  rw [BitVec.ofNat_or]
theorem x_and (a b : Nat) : nI a &&& nI b = nI (a &&& b) := by
  apply Int32.toBitVec_inj.mp
  show (BitVec.ofNat 32 a &&& BitVec.ofNat 32 b) = BitVec.ofNat 32 (a &&& b)
  rw [BitVec.ofNat_and]
theorem x_shl1 : ∀ r, r < 7 → nI 1 <<< (nI r &&& 31) = nI (2 ^ r) := by decide +kernel
theorem x_bitn : ∀ m, m < 64 → ∀ r, r < 6 → ((nI m >>> (nI r &&& 31)) &&& nI 1) = nI (m / 2 ^ r % 2) := by decide +kernel
theorem x_clr : ∀ m, m < 64 → ∀ r, r < 6 → nI m &&& ((nI (2 ^ r)) ^^^ (-1)) = nI (m &&& (63 - 2 ^ r)) := by decide +kernel
theorem x_63 : ∀ r, r < 6 → ∀ i, i < 6 → (63 - 2 ^ r).testBit i = decide (¬ i = r) := by decide +kernel
def s_mask : Nat → (Nat → Bool) → Nat
  | 0, _ => 0
  | n + 1, f => if f n then s_mask n f ||| 2 ^ n else s_mask n f
theorem s_mask_lt (f : Nat → Bool) : ∀ n, s_mask n f < 2 ^ n
  | 0 => by show 0 < 1; omega
  | n + 1 => by
    have ih := s_mask_lt f n
    rw [s_mask]
    have h1 : 2 ^ n < 2 ^ (n + 1) := Nat.pow_lt_pow_right (by omega) (by omega)
    split
    · exact Nat.or_lt_two_pow (by omega) h1
    · omega
theorem s_mask_bit (f : Nat → Bool) (i : Nat) : ∀ n, (s_mask n f).testBit i = (decide (i < n) && f i)
  | 0 => by simp [s_mask]
  | n + 1 => by
    rw [s_mask]
    by_cases hf : f n = true
    · rw [if_pos hf, Nat.testBit_or, s_mask_bit f i n, Nat.testBit_two_pow]
      by_cases hi : n = i
      · subst hi; simp [hf]
      · have e1 : decide (i < n + 1) = decide (i < n) := by simp; omega
        simp [hi, e1]
    · rw [if_neg hf, s_mask_bit f i n]
      by_cases hi : n = i
      · subst hi; simp [hf]
      · have e1 : decide (i < n + 1) = decide (i < n) := by simp; omega
        rw [e1]
theorem s_set_mask (f : Nat → Bool) : ∀ n, n ≤ 7 → s_set n f = nI (s_mask n f)
  | 0, _ => rfl
  | n + 1, h => by
    rw [s_set, s_mask, s_set_mask f n (by omega), x_shl1 n (by omega), x_or]
    split <;> rfl
theorem s_mask64 {n : Nat} (hn : n ≤ 6) (f : Nat → Bool) : s_mask n f < 64 := Nat.lt_of_lt_of_le (s_mask_lt f n) (by have := Nat.pow_le_pow_right (show 0 < 2 by omega) hn; exact this)
theorem s_mask_ext {n m : Nat} {f : Nat → Bool} (hm : m < 64) (hn : n ≤ 6) (h : ∀ i, i < 6 → m.testBit i = (decide (i < n) && f i)) : m = s_mask n f := by
  apply Nat.eq_of_testBit_eq
  intro i
  by_cases hi : i < 6
  · rw [h i hi, s_mask_bit]
  · have h1 : m < 2 ^ i := Nat.lt_of_lt_of_le hm (by have := Nat.pow_le_pow_right (show 0 < 2 by omega) (show 6 ≤ i by omega); exact this)
    have h2 : s_mask n f < 2 ^ i := Nat.lt_of_lt_of_le (s_mask64 hn f) (by have := Nat.pow_le_pow_right (show 0 < 2 by omega) (show 6 ≤ i by omega); exact this)
    rw [Nat.testBit_lt_two_pow h1, Nat.testBit_lt_two_pow h2]
theorem x_tb (m r : Nat) : nI (m / 2 ^ r % 2) = x_b (m.testBit r) := by
  rw [Nat.testBit_eq_decide_div_mod_eq]
  rcases Nat.mod_two_eq_zero_or_one (m / 2 ^ r) with h | h <;> rw [h] <;> rfl
/-- a place of a set, as it is asked -/
theorem s_bit {n : Nat} (hn : n ≤ 6) (f : Nat → Bool) {r : Nat} (hr : r < 6) : ((s_set n f >>> (nI r &&& 31)) &&& nI 1) = x_b (decide (r < n) && f r) := by
  rw [s_set_mask f n (by omega), x_bitn _ (s_mask64 hn f) r hr, x_tb, s_mask_bit]
theorem s_and {n : Nat} (hn : n ≤ 6) (f g : Nat → Bool) : s_set n f &&& s_set n g = s_set n (fun r => f r && g r) := by
  rw [s_set_mask f n (by omega), s_set_mask g n (by omega), s_set_mask _ n (by omega), x_and]
  congr 1
  refine s_mask_ext (Nat.lt_of_le_of_lt Nat.and_le_left (s_mask64 hn f)) hn (fun i _ => ?_)
  rw [Nat.testBit_and, s_mask_bit, s_mask_bit]
  cases decide (i < n) <;> simp
theorem s_one {n : Nat} (hn : n ≤ 6) {r : Nat} (hr : r < n) : nI 1 <<< (nI r &&& 31) = s_set n (fun i => decide (i = r)) := by
  rw [x_shl1 r (by omega), s_set_mask _ n (by omega)]
  congr 1
  have : 2 ^ r < 64 := Nat.lt_of_lt_of_le (Nat.pow_lt_pow_right (by omega) (show r < 6 by omega)) (by decide)
  refine s_mask_ext this hn (fun i _ => ?_)
  rw [Nat.testBit_two_pow]
  by_cases h : r = i
  · subst h; simp [hr]
  · have h2 : ¬ i = r := fun e => h e.symm
    simp [h, h2]
theorem s_none (n : Nat) : nI 0 = s_set n (fun _ => false) := by
  induction n with
  | zero => rfl
  | succ n ih => rw [s_set, if_neg (by decide)]; exact ih
theorem s_clear {n : Nat} (hn : n ≤ 6) (f : Nat → Bool) {r : Nat} (hr : r < 6) : s_set n f &&& ((nI 1 <<< (nI r &&& 31)) ^^^ (-1)) = s_set n (fun i => f i && decide (¬ i = r)) := by
  rw [s_set_mask f n (by omega), s_set_mask _ n (by omega), x_shl1 r (by omega), x_clr _ (s_mask64 hn f) r hr]
  congr 1
  refine s_mask_ext (Nat.lt_of_le_of_lt Nat.and_le_left (s_mask64 hn f)) hn (fun i hi => ?_)
  rw [Nat.testBit_and, s_mask_bit, x_63 r hr i hi, Bool.and_assoc]
theorem s_add {n : Nat} (hn : n ≤ 6) (f : Nat → Bool) {r : Nat} (hr : r < n) : s_set n f ||| (nI 1 <<< (nI r &&& 31)) = s_set n (fun i => f i || decide (i = r)) := by
  rw [s_one hn hr, s_set_mask f n (by omega), s_set_mask _ n (by omega), s_set_mask _ n (by omega), x_or]
  congr 1
  refine s_mask_ext (Nat.or_lt_two_pow (n := 6) (s_mask64 hn f) (s_mask64 hn _)) hn (fun i _ => ?_)
  rw [Nat.testBit_or, s_mask_bit, s_mask_bit]
  cases decide (i < n) <;> simp
/-- how many -/
def s_cnt : Nat → (Nat → Bool) → Nat
  | 0, _ => 0
  | n + 1, f => if f n then s_cnt n f + 1 else s_cnt n f
theorem s_cnt_le (f : Nat → Bool) : ∀ n, s_cnt n f ≤ n
  | 0 => Nat.le_refl 0
  | n + 1 => by have := s_cnt_le f n; rw [s_cnt]; split <;> omega
theorem s_cnt_cong {f g : Nat → Bool} : ∀ {n : Nat}, (∀ k, k < n → f k = g k) → s_cnt n f = s_cnt n g
  | 0, _ => rfl
  | n + 1, h => by rw [s_cnt, s_cnt, s_cnt_cong (fun k hk => h k (by omega)), h n (by omega)]
/-- hours, nights, sayings, what burns, where, out, whose, whose word was last by each reading -/
abbrev xQ : Type := Nat × Nat × Nat × (Nat → Nat) × (Nat → Nat) × (Nat → Bool) × (Nat → Int32) × (Nat → Nat → Int32)
abbrev q_hr (Q : xQ) : Nat := Q.1
abbrev q_nt (Q : xQ) : Nat := Q.2.1
abbrev q_sy (Q : xQ) : Nat := Q.2.2.1
abbrev q_bu (Q : xQ) : Nat → Nat := Q.2.2.2.1
abbrev q_pl (Q : xQ) : Nat → Nat := Q.2.2.2.2.1
abbrev q_ou (Q : xQ) : Nat → Bool := Q.2.2.2.2.2.1
abbrev q_ow (Q : xQ) : Nat → Int32 := Q.2.2.2.2.2.2.1
abbrev q_la (Q : xQ) : Nat → Nat → Int32 := Q.2.2.2.2.2.2.2
def x_Night (h : xH) (b R P : Nat) (Q : xQ) : Prop := 2 ≤ b ∧ h[b]? = some (.inr (2, [.int (nI (q_hr Q)), .int (nI (q_nt Q)), .int (nI (q_sy Q)), .int (s_set 6 (q_ou Q)), .ref (b + 1), .ref (b + 2), .ref (b + 3), .ref (b + 4)])) ∧
  (∃ f, h[b + 1]? = some (x_ia 6 f) ∧ ∀ r, r < R → f r = nI (q_bu Q r)) ∧ h[b + 2]? = some (x_ia 6 (q_ow Q)) ∧ (∃ f, h[b + 3]? = some (x_ia 6 f) ∧ ∀ p, p < P → f p = nI (q_pl Q p)) ∧ h[b + 4]? = some (x_qa 4 4 (b + 4)) ∧ ∀ k, k < 4 → h[b + 4 + 1 + k]? = some (x_ia 6 (q_la Q k))
theorem x_Night.kept {h h' : xH} {b R P : Nat} {Q : xQ} (H : x_Night h b R P Q) (hq : ∀ q, b ≤ q → q < b + 9 → h'[q]? = h[q]?) : x_Night h' b R P Q := by
  obtain ⟨h2, g0, ⟨f1, g1, e1⟩, g2, ⟨f3, g3, e3⟩, g4, g5⟩ := H
  exact ⟨h2, (hq _ (by omega) (by omega)).trans g0, ⟨f1, (hq _ (by omega) (by omega)).trans g1, e1⟩, (hq _ (by omega) (by omega)).trans g2, ⟨f3, (hq _ (by omega) (by omega)).trans g3, e3⟩, (hq _ (by omega) (by omega)).trans g4, fun k hk => (hq _ (by omega) (by omega)).trans (g5 k hk)⟩
theorem x_Night.less {h : xH} {b R P : Nat} {Q : xQ} (H : x_Night h b R P Q) : x_Night h b 0 0 Q := by
  obtain ⟨h2, g0, ⟨f1, g1, e1⟩, g2, ⟨f3, g3, e3⟩, g4, g5⟩ := H
  exact ⟨h2, g0, ⟨f1, g1, fun r hr => absurd hr (Nat.not_lt_zero r)⟩, g2, ⟨f3, g3, fun r hr => absurd hr (Nat.not_lt_zero r)⟩, g4, g5⟩
/-- bounds of a Night in a house of N hours, R rooms, P heirs -/
def x_QB (N R P : Nat) (Q : xQ) : Prop := q_hr Q ≤ 20 ∧ (q_hr Q < N ∨ N = 0) ∧ q_nt Q ≤ 100000 ∧ q_sy Q ≤ 200000 ∧ (∀ r, r < R → q_bu Q r ≤ 20) ∧ (∀ p, p < P → q_pl Q p < R) ∧ (∀ r, R ≤ r → q_ou Q r = false) ∧ (∀ r, r < R → q_ow Q r = -1 ∨ ∃ p, p < 6 ∧ q_ow Q r = nI p) ∧ ∀ k r, k < 4 → r < R → q_la Q k r = -1 ∨ ∃ p, p < 6 ∧ q_la Q k r = nI p
def s_lit (Q : xQ) (hr r : Nat) : Bool := decide (hr < q_bu Q r) && !q_ou Q r
/-- rooms whose last word a saying would be -/
def s_reach (N : Nat) (F : xF) (Q : xQ) (p f hr k : Nat) (wd : Nat → Bool) (r : Nat) : Bool :=
  if hr < N / 2 ∧ (F 4 p = 1 ∨ k = 2) then false else if F 4 p = 3 then decide (r = f) else if F 4 p = 4 then (s_lit Q hr f && wd f) && decide (r = f) else (if k = 1 then decide (r = f) else s_heard F p f r) && s_lit Q hr r
def s_wd (Q : xQ) (k r : Nat) : Bool := decide (¬ q_la Q k r = -1)
def s_will (Q : xQ) (r k : Nat) : Int32 := if q_la Q k r = -1 then q_ow Q r else q_la Q k r
def s_sure (Q : xQ) (r : Nat) : Bool := decide (s_will Q r 1 = s_will Q r 0 ∧ s_will Q r 2 = s_will Q r 0 ∧ s_will Q r 3 = s_will Q r 0 ∧ ¬ s_will Q r 0 = -1)
def s_counts (N : Nat) (F : xF) (Q : xQ) (p r : Nat) : Bool := s_reach N F Q p (q_pl Q p) (q_hr Q) 0 (s_wd Q 0) r && decide (¬ q_la Q 0 r = nI (s_name F p 0))
def s_worth (F : xF) (Q : xQ) (r p : Nat) : Bool := s_heard F p (q_pl Q p) r
def s_own (Q : xQ) (p : Int32) (r : Nat) : Bool := decide (q_ow Q r = p)
/-- the greatest holder of p heirs, and how many -/
def s_hold (R : Nat) (Q : xQ) : Nat → Int32 × Nat
  | 0 => (-1, 0)
  | p + 1 => if (s_hold R Q p).2 < s_cnt R (s_own Q (nI p)) then (nI p, s_cnt R (s_own Q (nI p))) else s_hold R Q p
end
section
theorem c_Night_isOut {h : xH} {c R P : Nat} {Q : xQ} (HN : x_Night h c R P Q) {r : Nat} (hr : r < 6) : x_Met m_X2_isOut [.ref c, .int (nI r)] h (x_pr (x_b (q_ou Q r)) h) := by
  obtain ⟨h2n, n0, ⟨f1, n1, n1e⟩, n2, ⟨f3, n3, n3e⟩, n4, n5⟩ := id HN
  refine x_Met.of (lo := [some (.ref c), some (.int (nI r))]) (by decide) rfl rfl rfl ?_
  refine R_aload_n dX2_isOut_0 rfl ?_
  refine R_get dX2_isOut_1 f_X2_21 n0 rfl ?_
  refine R_iload_n dX2_isOut_4 rfl ?_
  refine R_ishr dX2_isOut_5 ?_
  refine R_iconst (nI 1) dX2_isOut_6 rfl ?_
  refine R_iand dX2_isOut_7 ?_
  rw [s_bit (Nat.le_refl 6) _ hr]
  refine R_ifeqB 15 dX2_isOut_8 rfl (fun c_8 => ?_) (fun c_8 => ?_)
  · refine R_iconst (nI 0) dX2_isOut_15 rfl ?_
    exact R_zret dX2_isOut_16 rfl (Or.inl rfl) rfl rfl (x_pr.eq (x_bf (by simpa [hr] using c_8)))
  · refine R_iconst (nI 1) dX2_isOut_11 rfl ?_
    refine R_goto 16 dX2_isOut_12 rfl ?_
    exact R_zret dX2_isOut_16 rfl (Or.inr rfl) rfl rfl (x_pr.eq (x_bt (by simpa [hr] using c_8)))
theorem c_Night_isLitAt {h : xH} {c R P : Nat} {Q : xQ} (HN : x_Night h c R P Q) (hR : R ≤ 6) {r t : Nat} (hr : r < R) (ht : t ≤ 20) (hu : q_bu Q r ≤ 20) : x_Met m_X2_isLitAt [.ref c, .int (nI r), .int (nI t)] h (x_pr (x_b (s_lit Q t r)) h) := by
  obtain ⟨h2n, n0, ⟨f1, n1, n1e⟩, n2, ⟨f3, n3, n3e⟩, n4, n5⟩ := id HN
  refine x_Met.of (lo := [some (.ref c), some (.int (nI r)), some (.int (nI t))]) (by decide) rfl rfl rfl ?_
  refine R_iload_n dX2_isLitAt_0 rfl ?_
  refine R_aload_n dX2_isLitAt_1 rfl ?_
  refine R_get dX2_isLitAt_2 f_X2_24 n0 rfl ?_
  refine R_iload_n dX2_isLitAt_5 rfl ?_
  refine R_iald dX2_isLitAt_6 n1 rfl (by omega) (by decide) ?_
  rw [n1e r (by omega)]
  refine R_geN 22 dX2_isLitAt_7 rfl (by omega) (by omega) (fun c_7 => ?_) (fun c_7 => ?_)
  · refine R_iconst (nI 0) dX2_isLitAt_22 rfl ?_
    exact R_zret dX2_isLitAt_23 rfl (Or.inl rfl) rfl rfl (x_pr.eq (x_bf (by first | (simp [s_lit, *]; done) | (simp [s_lit]; intros; omega))))
  · refine R_aload_n dX2_isLitAt_10 rfl ?_
    refine R_iload_n dX2_isLitAt_11 rfl ?_
    refine R_cV1p (N := m_X2_isOut) dX2_isLitAt_12 l_X2_70 i_X2_isOut n0 (c_Night_isOut HN (by omega)) rfl rfl ?_
    refine R_ifneB 22 dX2_isLitAt_15 rfl (fun c_15 => ?_) (fun c_15 => ?_)
    · refine R_iconst (nI 0) dX2_isLitAt_22 rfl ?_
      exact R_zret dX2_isLitAt_23 rfl (Or.inl rfl) rfl rfl (x_pr.eq (x_bf (by first | (simp [s_lit, *]; done) | (simp [s_lit]; intros; omega))))
    · refine R_iconst (nI 1) dX2_isLitAt_18 rfl ?_
      refine R_goto 23 dX2_isLitAt_19 rfl ?_
      exact R_zret dX2_isLitAt_23 rfl (Or.inr rfl) rfl rfl (x_pr.eq (x_bt (by first | (simp [s_lit, *]; done) | (simp [s_lit]; intros; omega))))
theorem c_Night_litAt_loop {h : xH} {b c N R D P : Nat} {F : xF} {Q : xQ} (H : x_House h b N R D P F) (hB : x_HB N R D P F) (HN : x_Night h c R P Q) (hQ : x_QB N R P Q) {t : Nat} (ht : t ≤ 20) : ∀ (n r : Nat), r ≤ R → R + 1 ≤ r + n → x_Rn m_X2_litAt 5 [some (.ref c), some (.ref b), some (.int (nI t)), some (.int (s_set r (s_lit Q t))), some (.int (nI r))] [] h (0, 0) (x_pr (s_set R (s_lit Q t)) h) := by
  obtain ⟨h2, g0, g1, g2, g3, g4, g5, g6, g7, g8, g9, g10, g11⟩ := id H
  obtain ⟨⟨b1, b2, b3, b4⟩, b5, b6, b7⟩ := id hB
  obtain ⟨h2n, n0, ⟨f1, n1, n1e⟩, n2, ⟨f3, n3, n3e⟩, n4, n5⟩ := id HN
  obtain ⟨u1, u2, u3, u4, u5, u6, u7, u8, u9⟩ := id hQ
  intro n
  induction n with
  | zero => intro r h1 h3; omega
  | succ n ih =>
    intro r h1 h3
    refine R_iload dX2_litAt_5 rfl ?_
    refine R_aload_n dX2_litAt_7 rfl ?_
    refine R_get dX2_litAt_8 f_X2_63 g0 rfl ?_
    refine R_geN 37 dX2_litAt_11 rfl (by omega) (by omega) (fun c_11 => ?_) (fun c_11 => ?_)
    · have e : r = R := by omega
      subst e
      refine R_iload_n dX2_litAt_37 rfl ?_
      exact R_iret dX2_litAt_38 rfl rfl rfl x_pr.mk
    · have hr : r < R := by omega
      refine R_aload_n dX2_litAt_14 rfl ?_
      refine R_iload dX2_litAt_15 rfl ?_
      refine R_iload_n dX2_litAt_17 rfl ?_
      refine R_cV2p (N := m_X2_isLitAt) dX2_litAt_18 l_X2_74 i_X2_isLitAt n0 (c_Night_isLitAt HN b2 hr ht (u5 r hr)) rfl rfl ?_
      refine R_ifeqB 31 dX2_litAt_21 rfl (fun c_21 => ?_) (fun c_21 => ?_)
      · rw [s_set_f c_21]
        refine R_iincN dX2_litAt_31 rfl (Nat.le_of_ble_eq_true rfl) rfl ?_
        refine R_goto 5 dX2_litAt_34 rfl ?_
        exact ih (r + 1) (by omega) (by omega)
      · refine R_iload_n dX2_litAt_24 rfl ?_
        refine R_iconst (nI 1) dX2_litAt_25 rfl ?_
        refine R_iload dX2_litAt_26 rfl ?_
        refine R_ishl dX2_litAt_28 ?_
        refine R_ior dX2_litAt_29 ?_
        rw [s_set_t c_21]
        refine R_istore_n dX2_litAt_30 (Nat.le_of_ble_eq_true rfl) rfl ?_
        refine R_iincN dX2_litAt_31 rfl (Nat.le_of_ble_eq_true rfl) rfl ?_
        refine R_goto 5 dX2_litAt_34 rfl ?_
        exact ih (r + 1) (by omega) (by omega)
theorem c_Night_litAt {h : xH} {b c N R D P : Nat} {F : xF} {Q : xQ} (H : x_House h b N R D P F) (hB : x_HB N R D P F) (HN : x_Night h c R P Q) (hQ : x_QB N R P Q) {t : Nat} (ht : t ≤ 20) : x_Met m_X2_litAt [.ref c, .ref b, .int (nI t)] h (x_pr (s_set R (s_lit Q t)) h) := by

  refine x_Met.of (lo := [some (.ref c), some (.ref b), some (.int (nI t)), none, none]) (by decide) rfl rfl rfl ?_
  refine R_iconst (nI 0) dX2_litAt_0 rfl ?_
  refine R_istore_n dX2_litAt_1 (Nat.le_of_ble_eq_true rfl) rfl ?_
  refine R_iconst (nI 0) dX2_litAt_2 rfl ?_
  refine R_istore dX2_litAt_3 (Nat.le_of_ble_eq_true rfl) rfl ?_
  exact c_Night_litAt_loop H hB HN hQ ht (R + 1) 0 (by omega) (by omega)
theorem c_Night_hears {h : xH} {b c N R D P : Nat} {F : xF} {Q : xQ} (H : x_House h b N R D P F) (hB : x_HB N R D P F) (HN : x_Night h c R P Q) (hQ : x_QB N R P Q) {p : Nat} (hp : p < P) : x_Met m_X2_hears [.ref c, .ref b, .int (nI p)] h (x_pr (s_set R (s_heard F p (q_pl Q p))) h) := by
  obtain ⟨h2, g0, g1, g2, g3, g4, g5, g6, g7, g8, g9, g10, g11⟩ := id H
  obtain ⟨⟨b1, b2, b3, b4⟩, b5, b6, b7⟩ := id hB
  obtain ⟨h2n, n0, ⟨f1, n1, n1e⟩, n2, ⟨f3, n3, n3e⟩, n4, n5⟩ := id HN
  obtain ⟨u1, u2, u3, u4, u5, u6, u7, u8, u9⟩ := id hQ
  refine x_Met.of (lo := [some (.ref c), some (.ref b), some (.int (nI p))]) (by decide) rfl rfl rfl ?_
  refine R_aload_n dX2_hears_0 rfl ?_
  refine R_iload_n dX2_hears_1 rfl ?_
  refine R_aload_n dX2_hears_2 rfl ?_
  refine R_get dX2_hears_3 f_X2_31 n0 rfl ?_
  refine R_iload_n dX2_hears_6 rfl ?_
  refine R_iald dX2_hears_7 n3 rfl (by omega) (by decide) ?_
  rw [n3e p (by omega)]
  refine R_cV2p (N := m_X1_heardFrom) dX2_hears_8 l_X2_78 i_X1_heardFrom g0 (c_House_heardFrom H hB hp (u6 p hp)) rfl rfl ?_
  exact R_iret dX2_hears_11 rfl rfl rfl x_pr.mk
theorem c_Night_reached {h : xH} {b c N R D P : Nat} {F : xF} {Q : xQ} (H : x_House h b N R D P F) (hB : x_HB N R D P F) (HN : x_Night h c R P Q) (hQ : x_QB N R P Q) {p f t k : Nat} (hp : p < P) (hf : f < R) (ht : t ≤ 20) (hk : k < 4) : x_Met m_X2_reached [.ref c, .ref b, .int (nI p), .int (nI f), .int (nI t), .int (nI k)] h (x_pr (s_set R (s_reach N F Q p f t k (s_wd Q k))) h) := by
  obtain ⟨h2, g0, g1, g2, g3, g4, g5, g6, g7, g8, g9, g10, g11⟩ := id H
  obtain ⟨⟨b1, b2, b3, b4⟩, b5, b6, b7⟩ := id hB
  obtain ⟨h2n, n0, ⟨f1, n1, n1e⟩, n2, ⟨f3, n3, n3e⟩, n4, n5⟩ := id HN
  obtain ⟨u1, u2, u3, u4, u5, u6, u7, u8, u9⟩ := id hQ
  have w1 := b6 p hp
  refine x_Met.of (lo := [some (.ref c), some (.ref b), some (.int (nI p)), some (.int (nI f)), some (.int (nI t)), some (.int (nI k)), none, none]) (by decide) rfl rfl rfl ?_
  refine R_aload_n dX2_reached_0 rfl ?_
  refine R_get dX2_reached_1 f_X2_81 g0 rfl ?_
  refine R_iload_n dX2_reached_4 rfl ?_
  refine R_iald dX2_reached_5 g5 rfl (by omega) (by decide) ?_
  refine R_istore dX2_reached_6 (Nat.le_of_ble_eq_true rfl) rfl ?_
  refine R_aload_n dX2_reached_8 rfl ?_
  refine R_iload dX2_reached_9 rfl ?_
  refine R_cV1p (N := m_X1_isEarly) dX2_reached_11 l_X2_84 i_X1_isEarly g0 (c_House_isEarly H hB ht) rfl rfl ?_
  refine R_ifeqB 31 dX2_reached_14 rfl (fun c_14 => ?_) (fun c_14 => ?_)
  · refine R_iload dX2_reached_31 rfl ?_
    refine R_iconst (nI 3) dX2_reached_33 rfl ?_
    refine R_neN 41 dX2_reached_34 rfl (by omega) (by omega) (fun c_34 => ?_) (fun c_34 => ?_)
    · refine R_iload dX2_reached_41 rfl ?_
      refine R_iconst (nI 4) dX2_reached_43 rfl ?_
      refine R_neN 78 dX2_reached_44 rfl (by omega) (by omega) (fun c_44 => ?_) (fun c_44 => ?_)
      · refine R_iload dX2_reached_78 rfl ?_
        refine R_iconst (nI 1) dX2_reached_80 rfl ?_
        refine R_neN 90 dX2_reached_81 rfl (by omega) (by omega) (fun c_81 => ?_) (fun c_81 => ?_)
        · refine R_aload_n dX2_reached_90 rfl ?_
          refine R_iload_n dX2_reached_91 rfl ?_
          refine R_iload_n dX2_reached_92 rfl ?_
          refine R_cV2p (N := m_X1_heardFrom) dX2_reached_93 l_X2_78 i_X1_heardFrom g0 (c_House_heardFrom H hB hp hf) rfl rfl ?_
          refine R_istore dX2_reached_96 (Nat.le_of_ble_eq_true rfl) rfl ?_
          refine R_iload dX2_reached_98 rfl ?_
          refine R_aload_n dX2_reached_100 rfl ?_
          refine R_aload_n dX2_reached_101 rfl ?_
          refine R_iload dX2_reached_102 rfl ?_
          refine R_cV2p (N := m_X2_litAt) dX2_reached_104 l_X2_87 i_X2_litAt n0 (c_Night_litAt H hB HN hQ ht) rfl rfl ?_
          refine R_iand dX2_reached_107 ?_
          exact R_iret dX2_reached_108 rfl rfl rfl (x_pr.eq (by rw [s_and b2]; exact s_set_cong (fun r hr => by simp [s_reach, s_wd, *])))
        · refine R_iconst (nI 1) dX2_reached_84 rfl ?_
          refine R_iload_n dX2_reached_85 rfl ?_
          refine R_ishl dX2_reached_86 ?_
          refine R_goto 96 dX2_reached_87 rfl ?_
          refine R_istore dX2_reached_96 (Nat.le_of_ble_eq_true rfl) rfl ?_
          refine R_iload dX2_reached_98 rfl ?_
          refine R_aload_n dX2_reached_100 rfl ?_
          refine R_aload_n dX2_reached_101 rfl ?_
          refine R_iload dX2_reached_102 rfl ?_
          refine R_cV2p (N := m_X2_litAt) dX2_reached_104 l_X2_87 i_X2_litAt n0 (c_Night_litAt H hB HN hQ ht) rfl rfl ?_
          refine R_iand dX2_reached_107 ?_
          exact R_iret dX2_reached_108 rfl rfl rfl (x_pr.eq (by rw [s_one b2 hf]; rw [s_and b2]; exact s_set_cong (fun r hr => by simp [s_reach, s_wd, *])))
      · refine R_aload_n dX2_reached_47 rfl ?_
        refine R_iload_n dX2_reached_48 rfl ?_
        refine R_iload dX2_reached_49 rfl ?_
        refine R_cV2p (N := m_X2_isLitAt) dX2_reached_51 l_X2_74 i_X2_isLitAt n0 (c_Night_isLitAt HN b2 hf ht (u5 f hf)) rfl rfl ?_
        refine R_ifeqB 76 dX2_reached_54 rfl (fun c_54 => ?_) (fun c_54 => ?_)
        · refine R_iconst (nI 0) dX2_reached_76 rfl ?_
          exact R_iret dX2_reached_77 rfl rfl rfl (x_pr.eq (by rw [s_none R]; exact s_set_cong (fun r hr => by simp [s_reach, s_wd, *])))
        · refine R_aload_n dX2_reached_57 rfl ?_
          refine R_get dX2_reached_58 f_X2_36 n0 rfl ?_
          refine R_iload dX2_reached_61 rfl ?_
          refine R_aald dX2_reached_63 n4 (by omega) (fun _ => rfl) rfl rfl (by omega) (by decide) (if_pos (by omega)) ?_
          refine R_iload_n dX2_reached_64 rfl ?_
          refine R_iald dX2_reached_65 (n5 _ (by omega)) rfl (by omega) (by decide) ?_
          refine R_iconst (-1) dX2_reached_66 rfl ?_
          refine R_icmpeq 76 dX2_reached_67 rfl (fun c_67 => ?_) (fun c_67 => ?_)
          · refine R_iconst (nI 0) dX2_reached_76 rfl ?_
            exact R_iret dX2_reached_77 rfl rfl rfl (x_pr.eq (by rw [s_none R]; exact s_set_cong (fun r hr => by simp [s_reach, s_wd, *])))
          · refine R_iconst (nI 1) dX2_reached_70 rfl ?_
            refine R_iload_n dX2_reached_71 rfl ?_
            refine R_ishl dX2_reached_72 ?_
            refine R_goto 77 dX2_reached_73 rfl ?_
            exact R_iret dX2_reached_77 rfl rfl rfl (x_pr.eq (by rw [s_one b2 hf]; exact s_set_cong (fun r hr => by simp [s_reach, s_wd, *])))
    · refine R_iconst (nI 1) dX2_reached_37 rfl ?_
      refine R_iload_n dX2_reached_38 rfl ?_
      refine R_ishl dX2_reached_39 ?_
      exact R_iret dX2_reached_40 rfl rfl rfl (x_pr.eq (by rw [s_one b2 hf]; exact s_set_cong (fun r hr => by simp [s_reach, s_wd, *])))
  · refine R_iload dX2_reached_17 rfl ?_
    refine R_iconst (nI 1) dX2_reached_19 rfl ?_
    refine R_eqN 29 dX2_reached_20 rfl (by omega) (by omega) (fun c_20 => ?_) (fun c_20 => ?_)
    · refine R_iconst (nI 0) dX2_reached_29 rfl ?_
      exact R_iret dX2_reached_30 rfl rfl rfl (x_pr.eq (by rw [s_none R]; exact s_set_cong (fun r hr => by simp [s_reach, s_wd, *])))
    · refine R_iload dX2_reached_23 rfl ?_
      refine R_iconst (nI 2) dX2_reached_25 rfl ?_
      refine R_neN 31 dX2_reached_26 rfl (by omega) (by omega) (fun c_26 => ?_) (fun c_26 => ?_)
      · refine R_iload dX2_reached_31 rfl ?_
        refine R_iconst (nI 3) dX2_reached_33 rfl ?_
        refine R_neN 41 dX2_reached_34 rfl (by omega) (by omega) (fun c_34 => ?_) (fun c_34 => ?_)
        · refine R_iload dX2_reached_41 rfl ?_
          refine R_iconst (nI 4) dX2_reached_43 rfl ?_
          refine R_neN 78 dX2_reached_44 rfl (by omega) (by omega) (fun c_44 => ?_) (fun c_44 => ?_)
          · refine R_iload dX2_reached_78 rfl ?_
            refine R_iconst (nI 1) dX2_reached_80 rfl ?_
            refine R_neN 90 dX2_reached_81 rfl (by omega) (by omega) (fun c_81 => ?_) (fun c_81 => ?_)
            · refine R_aload_n dX2_reached_90 rfl ?_
              refine R_iload_n dX2_reached_91 rfl ?_
              refine R_iload_n dX2_reached_92 rfl ?_
              refine R_cV2p (N := m_X1_heardFrom) dX2_reached_93 l_X2_78 i_X1_heardFrom g0 (c_House_heardFrom H hB hp hf) rfl rfl ?_
              refine R_istore dX2_reached_96 (Nat.le_of_ble_eq_true rfl) rfl ?_
              refine R_iload dX2_reached_98 rfl ?_
              refine R_aload_n dX2_reached_100 rfl ?_
              refine R_aload_n dX2_reached_101 rfl ?_
              refine R_iload dX2_reached_102 rfl ?_
              refine R_cV2p (N := m_X2_litAt) dX2_reached_104 l_X2_87 i_X2_litAt n0 (c_Night_litAt H hB HN hQ ht) rfl rfl ?_
              refine R_iand dX2_reached_107 ?_
              exact R_iret dX2_reached_108 rfl rfl rfl (x_pr.eq (by rw [s_and b2]; exact s_set_cong (fun r hr => by simp [s_reach, s_wd, *])))
            · refine R_iconst (nI 1) dX2_reached_84 rfl ?_
              refine R_iload_n dX2_reached_85 rfl ?_
              refine R_ishl dX2_reached_86 ?_
              refine R_goto 96 dX2_reached_87 rfl ?_
              refine R_istore dX2_reached_96 (Nat.le_of_ble_eq_true rfl) rfl ?_
              refine R_iload dX2_reached_98 rfl ?_
              refine R_aload_n dX2_reached_100 rfl ?_
              refine R_aload_n dX2_reached_101 rfl ?_
              refine R_iload dX2_reached_102 rfl ?_
              refine R_cV2p (N := m_X2_litAt) dX2_reached_104 l_X2_87 i_X2_litAt n0 (c_Night_litAt H hB HN hQ ht) rfl rfl ?_
              refine R_iand dX2_reached_107 ?_
              exact R_iret dX2_reached_108 rfl rfl rfl (x_pr.eq (by rw [s_one b2 hf]; rw [s_and b2]; exact s_set_cong (fun r hr => by simp [s_reach, s_wd, *])))
          · refine R_aload_n dX2_reached_47 rfl ?_
            refine R_iload_n dX2_reached_48 rfl ?_
            refine R_iload dX2_reached_49 rfl ?_
            refine R_cV2p (N := m_X2_isLitAt) dX2_reached_51 l_X2_74 i_X2_isLitAt n0 (c_Night_isLitAt HN b2 hf ht (u5 f hf)) rfl rfl ?_
            refine R_ifeqB 76 dX2_reached_54 rfl (fun c_54 => ?_) (fun c_54 => ?_)
            · refine R_iconst (nI 0) dX2_reached_76 rfl ?_
              exact R_iret dX2_reached_77 rfl rfl rfl (x_pr.eq (by rw [s_none R]; exact s_set_cong (fun r hr => by simp [s_reach, s_wd, *])))
            · refine R_aload_n dX2_reached_57 rfl ?_
              refine R_get dX2_reached_58 f_X2_36 n0 rfl ?_
              refine R_iload dX2_reached_61 rfl ?_
              refine R_aald dX2_reached_63 n4 (by omega) (fun _ => rfl) rfl rfl (by omega) (by decide) (if_pos (by omega)) ?_
              refine R_iload_n dX2_reached_64 rfl ?_
              refine R_iald dX2_reached_65 (n5 _ (by omega)) rfl (by omega) (by decide) ?_
              refine R_iconst (-1) dX2_reached_66 rfl ?_
              refine R_icmpeq 76 dX2_reached_67 rfl (fun c_67 => ?_) (fun c_67 => ?_)
              · refine R_iconst (nI 0) dX2_reached_76 rfl ?_
                exact R_iret dX2_reached_77 rfl rfl rfl (x_pr.eq (by rw [s_none R]; exact s_set_cong (fun r hr => by simp [s_reach, s_wd, *])))
              · refine R_iconst (nI 1) dX2_reached_70 rfl ?_
                refine R_iload_n dX2_reached_71 rfl ?_
                refine R_ishl dX2_reached_72 ?_
                refine R_goto 77 dX2_reached_73 rfl ?_
                exact R_iret dX2_reached_77 rfl rfl rfl (x_pr.eq (by rw [s_one b2 hf]; exact s_set_cong (fun r hr => by simp [s_reach, s_wd, *])))
        · refine R_iconst (nI 1) dX2_reached_37 rfl ?_
          refine R_iload_n dX2_reached_38 rfl ?_
          refine R_ishl dX2_reached_39 ?_
          exact R_iret dX2_reached_40 rfl rfl rfl (x_pr.eq (by rw [s_one b2 hf]; exact s_set_cong (fun r hr => by simp [s_reach, s_wd, *])))
      · refine R_iconst (nI 0) dX2_reached_29 rfl ?_
        exact R_iret dX2_reached_30 rfl rfl rfl (x_pr.eq (by rw [s_none R]; exact s_set_cong (fun r hr => by simp [s_reach, s_wd, *])))
theorem c_Night_counts_loop {h : xH} {b c N R D P : Nat} {F : xF} {Q : xQ} (H : x_House h b N R D P F) (hB : x_HB N R D P F) (HN : x_Night h c R P Q) (hQ : x_QB N R P Q) {p : Nat} (hp : p < P) : ∀ (n r : Nat), r ≤ R → R + 1 ≤ r + n → x_Rn m_X2_counts 29 [some (.ref c), some (.ref b), some (.int (nI p)), some (.int (s_set R (fun i => s_reach N F Q p (q_pl Q p) (q_hr Q) 0 (s_wd Q 0) i && (decide (r ≤ i) || decide (¬ q_la Q 0 i = nI (s_name F p 0)))))), some (.int (nI (s_name F p 0))), some (.int (nI r))] [] h (0, 0) (x_pr (s_set R (s_counts N F Q p)) h) := by
  obtain ⟨h2, g0, g1, g2, g3, g4, g5, g6, g7, g8, g9, g10, g11⟩ := id H
  obtain ⟨⟨b1, b2, b3, b4⟩, b5, b6, b7⟩ := id hB
  obtain ⟨h2n, n0, ⟨f1, n1, n1e⟩, n2, ⟨f3, n3, n3e⟩, n4, n5⟩ := id HN
  obtain ⟨u1, u2, u3, u4, u5, u6, u7, u8, u9⟩ := id hQ
  intro n
  induction n with
  | zero => intro r h1 h3; omega
  | succ n ih =>
    intro r h1 h3
    refine R_iload dX2_counts_29 rfl ?_
    refine R_aload_n dX2_counts_31 rfl ?_
    refine R_get dX2_counts_32 f_X2_63 g0 rfl ?_
    refine R_geN 67 dX2_counts_35 rfl (by omega) (by omega) (fun c_35 => ?_) (fun c_35 => ?_)
    · have e : r = R := by omega
      subst e
      refine R_iload_n dX2_counts_67 rfl ?_
      exact R_iret dX2_counts_68 rfl rfl rfl (x_pr.eq (s_set_cong (fun i hi => by simp [s_counts, Nat.not_le.mpr hi])))
    · have hr : r < R := by omega
      refine R_aload_n dX2_counts_38 rfl ?_
      refine R_get dX2_counts_39 f_X2_36 n0 rfl ?_
      refine R_iconst (nI 0) dX2_counts_42 rfl ?_
      refine R_aald dX2_counts_43 n4 (by omega) (fun _ => rfl) rfl rfl (by omega) (by decide) (if_pos (by omega)) ?_
      refine R_iload dX2_counts_44 rfl ?_
      refine R_iald dX2_counts_46 (n5 _ (by omega)) rfl (by omega) (by decide) ?_
      refine R_iload dX2_counts_47 rfl ?_
      refine R_icmpne 61 dX2_counts_49 rfl (fun c_49 => ?_) (fun c_49 => ?_)
      · rw [show s_set R (fun i => s_reach N F Q p (q_pl Q p) (q_hr Q) 0 (s_wd Q 0) i && (decide (r ≤ i) || decide (¬ q_la Q 0 i = nI (s_name F p 0)))) = s_set R (fun i => s_reach N F Q p (q_pl Q p) (q_hr Q) 0 (s_wd Q 0) i && (decide ((r + 1) ≤ i) || decide (¬ q_la Q 0 i = nI (s_name F p 0)))) from s_set_cong (fun i hi => by
            by_cases e : i = r
            · subst e; simp [c_49]
            · have e1 : decide (r + 1 ≤ i) = decide (r ≤ i) := by simp; omega
              rw [e1])]
        refine R_iincN dX2_counts_61 rfl (Nat.le_of_ble_eq_true rfl) rfl ?_
        refine R_goto 29 dX2_counts_64 rfl ?_
        exact ih (r + 1) (by omega) (by omega)
      · refine R_iload_n dX2_counts_52 rfl ?_
        refine R_iconst (nI 1) dX2_counts_53 rfl ?_
        refine R_iload dX2_counts_54 rfl ?_
        refine R_ishl dX2_counts_56 ?_
        refine R_iconst (-1) dX2_counts_57 rfl ?_
        refine R_ixor dX2_counts_58 ?_
        refine R_iand dX2_counts_59 ?_
        rw [s_clear b2 _ (by omega), show s_set R (fun i => (s_reach N F Q p (q_pl Q p) (q_hr Q) 0 (s_wd Q 0) i && (decide (r ≤ i) || decide (¬ q_la Q 0 i = nI (s_name F p 0)))) && decide (¬ i = r)) = s_set R (fun i => s_reach N F Q p (q_pl Q p) (q_hr Q) 0 (s_wd Q 0) i && (decide ((r + 1) ≤ i) || decide (¬ q_la Q 0 i = nI (s_name F p 0)))) from s_set_cong (fun i hi => by
            by_cases e : i = r
            · subst e; simp [c_49]
            · have e1 : decide (r + 1 ≤ i) = decide (r ≤ i) := by simp; omega
              simp [e, e1])]
        refine R_istore_n dX2_counts_60 (Nat.le_of_ble_eq_true rfl) rfl ?_
        refine R_iincN dX2_counts_61 rfl (Nat.le_of_ble_eq_true rfl) rfl ?_
        refine R_goto 29 dX2_counts_64 rfl ?_
        exact ih (r + 1) (by omega) (by omega)
theorem c_Night_counts {h : xH} {b c N R D P : Nat} {F : xF} {Q : xQ} (H : x_House h b N R D P F) (hB : x_HB N R D P F) (HN : x_Night h c R P Q) (hQ : x_QB N R P Q) {p : Nat} (hp : p < P) : x_Met m_X2_counts [.ref c, .ref b, .int (nI p)] h (x_pr (s_set R (s_counts N F Q p)) h) := by
  obtain ⟨h2, g0, g1, g2, g3, g4, g5, g6, g7, g8, g9, g10, g11⟩ := id H
  obtain ⟨⟨b1, b2, b3, b4⟩, b5, b6, b7⟩ := id hB
  obtain ⟨h2n, n0, ⟨f1, n1, n1e⟩, n2, ⟨f3, n3, n3e⟩, n4, n5⟩ := id HN
  obtain ⟨u1, u2, u3, u4, u5, u6, u7, u8, u9⟩ := id hQ
  refine x_Met.of (lo := [some (.ref c), some (.ref b), some (.int (nI p)), none, none, none]) (by decide) rfl rfl rfl ?_
  refine R_aload_n dX2_counts_0 rfl ?_
  refine R_aload_n dX2_counts_1 rfl ?_
  refine R_iload_n dX2_counts_2 rfl ?_
  refine R_aload_n dX2_counts_3 rfl ?_
  refine R_get dX2_counts_4 f_X2_31 n0 rfl ?_
  refine R_iload_n dX2_counts_7 rfl ?_
  refine R_iald dX2_counts_8 n3 rfl (by omega) (by decide) ?_
  rw [n3e p (by omega)]
  refine R_aload_n dX2_counts_9 rfl ?_
  refine R_get dX2_counts_10 f_X2_9 n0 rfl ?_
  refine R_iconst (nI 0) dX2_counts_13 rfl ?_
  refine R_cV5p (N := m_X2_reached) dX2_counts_14 l_X2_91 i_X2_reached n0 (c_Night_reached H hB HN hQ hp (u6 p hp) u1 (by omega)) rfl rfl ?_
  rw [show s_set R (s_reach N F Q p (q_pl Q p) (q_hr Q) 0 (s_wd Q 0)) = s_set R (fun i => s_reach N F Q p (q_pl Q p) (q_hr Q) 0 (s_wd Q 0) i && (decide (0 ≤ i) || decide (¬ q_la Q 0 i = nI (s_name F p 0)))) from s_set_cong (fun i hi => by simp)]
  refine R_istore_n dX2_counts_17 (Nat.le_of_ble_eq_true rfl) rfl ?_
  refine R_aload_n dX2_counts_18 rfl ?_
  refine R_iload_n dX2_counts_19 rfl ?_
  refine R_iconst (nI 0) dX2_counts_20 rfl ?_
  refine R_cV2p (N := m_X1_nameOf) dX2_counts_21 l_X2_95 i_X1_nameOf g0 (c_House_nameOf H hB hp (by omega)) rfl rfl ?_
  refine R_istore dX2_counts_24 (Nat.le_of_ble_eq_true rfl) rfl ?_
  refine R_iconst (nI 0) dX2_counts_26 rfl ?_
  refine R_istore dX2_counts_27 (Nat.le_of_ble_eq_true rfl) rfl ?_
  exact c_Night_counts_loop H hB HN hQ hp (R + 1) 0 (by omega) (by omega)
theorem c_Night_will {h : xH} {c R P : Nat} {Q : xQ} (HN : x_Night h c R P Q) {r k : Nat} (hr : r < 6) (hk : k < 4) : x_Met m_X2_will [.ref c, .int (nI r), .int (nI k)] h (x_pr (s_will Q r k) h) := by
  obtain ⟨h2n, n0, ⟨f1, n1, n1e⟩, n2, ⟨f3, n3, n3e⟩, n4, n5⟩ := id HN
  refine x_Met.of (lo := [some (.ref c), some (.int (nI r)), some (.int (nI k))]) (by decide) rfl rfl rfl ?_
  refine R_aload_n dX2_will_0 rfl ?_
  refine R_get dX2_will_1 f_X2_36 n0 rfl ?_
  refine R_iload_n dX2_will_4 rfl ?_
  refine R_aald dX2_will_5 n4 (by omega) (fun _ => rfl) rfl rfl (by omega) (by decide) (if_pos (by omega)) ?_
  refine R_iload_n dX2_will_6 rfl ?_
  refine R_iald dX2_will_7 (n5 _ (by omega)) rfl (by omega) (by decide) ?_
  refine R_iconst (-1) dX2_will_8 rfl ?_
  refine R_icmpeq 23 dX2_will_9 rfl (fun c_9 => ?_) (fun c_9 => ?_)
  · refine R_aload_n dX2_will_23 rfl ?_
    refine R_get dX2_will_24 f_X2_28 n0 rfl ?_
    refine R_iload_n dX2_will_27 rfl ?_
    refine R_iald dX2_will_28 n2 rfl (by omega) (by decide) ?_
    exact R_iret dX2_will_29 rfl rfl rfl (x_pr.eq (by simp [s_will, *]))
  · refine R_aload_n dX2_will_12 rfl ?_
    refine R_get dX2_will_13 f_X2_36 n0 rfl ?_
    refine R_iload_n dX2_will_16 rfl ?_
    refine R_aald dX2_will_17 n4 (by omega) (fun _ => rfl) rfl rfl (by omega) (by decide) (if_pos (by omega)) ?_
    refine R_iload_n dX2_will_18 rfl ?_
    refine R_iald dX2_will_19 (n5 _ (by omega)) rfl (by omega) (by decide) ?_
    refine R_goto 29 dX2_will_20 rfl ?_
    exact R_iret dX2_will_29 rfl rfl rfl (x_pr.eq (by simp [s_will, *]))
end
section
theorem x_ofWF {l : Launch} {y : MethodName} {ws ws' : List Cond} {rm : Room} {Pc : Array Value → State → Prop} {Qc : Array Value → State → Outcome → State → Prop} {mc ms : Nat} {free : Addr → Prop} {cc : ByteArray} {maxL : Nat} {ret : Option FieldType}
    (hy : plainFor y = true) (hw : ws = Cond.code y cc maxL ret :: ws')
    (body : ∀ p e s m args below meth c s₁, BodyLoose p l y (headSpec ws rm) cc maxL ret e s m args below meth c s₁ → c.maxLocals = maxL → Pc args s →
      W p l e (headSpec ws rm).room s m args below meth c s.heap [] 0 0 (MQ below Qc args s mc ms free) (entryFrame m args maxL)) : Met l y ws rm Pc Qc mc ms free := by
  refine MetFree.of_bodySF (code := cc) (maxLocals := maxL) (ret := ret) hy ?_ ?_
  · intro args s m h hn
    obtain ⟨meth, c, h1, h2, h3, h4, h5, h6, -, -⟩ := Cond.code_spec hn (atoms_spec (ws := ws) h _ (by rw [hw]; exact List.mem_cons_self))
    exact ⟨meth, c, h1, h2, h3, h4, h5, h6⟩
  · intro p e s m args below meth c s₁ B hml hP _
    have hh0 : s₁.heap = s.heap := by rw [B.state]; rfl
    obtain ⟨t, a1, o, b1, b2, b3⟩ := body p e s m args below meth c s₁ B hml hP s₁ hh0 (Stand.of_body B)
    exact ⟨t, o, a1, b1, b2, ⟨b3.1, b3.2⟩⟩
/-- the same for a class of which the machine runs some methods itself, but not this one -/
theorem x_Met.ofF {M : xM} {av : List Value} {h : xH} {K : Option Value → xH → Prop} {lo : List (Option Value)} (hn : plainFor M.2.1 = true) (hcl : M.1 = M.2.1.cls) (hlo : x_lay M.2.2.2.1 av = lo) (hle : Nat.ble (x_lay1 av).length M.2.2.2.1 = true) (hrt : M.2.2.2.2.1 = some .int) (kk : x_Rn M 0 lo [] h (0, 0) K) : x_Met M av h K := by
  intro l G
  refine x_ofWF (cc := M.2.2.1) (maxL := M.2.2.2.1) (ret := M.2.2.2.2.1) hn rfl ?_
  intro p e s m args below meth c s₁ B hml hv
  obtain ⟨rfl, hR⟩ := hv
  have hts := atoms_spec (ws := Cond.code M.2.1 M.2.2.1 M.2.2.2.1 M.2.2.2.2.1 :: x_words) B.pre
  have hown : s.vm.findClass M.1 = some m.cls := by rw [hcl]; exact findClass_of_methodNamed B.named
  have hlocks := B.notSynchronized
  have hret := B.returns
  rw [lg_entry_eq]
  subst hlo
  refine kk p l e s m _ below meth c G _ s.heap [] _ ⟨B.exec, B.bytes, hml, hown, fun w hw => hts w (List.mem_cons_of_mem _ hw), (name_of_methodNamed B.named B.method).1, ?_⟩ hR va_S.rf (x_lay_entry G _ av (Nat.le_of_ble_eq_true hle))
  intro v h' H locs pc ls i hK hR' hS' hri hd
  rw [hrt] at hri hret
  obtain ⟨rfl, x, rfl⟩ := hri
  exact W.iret B.exec B.bytes hret (fun t ht hW => ⟨some (.int x), h', rfl, hK, by rw [ht]; exact hR'.warm hW, hS'.F ht⟩) hS'.2.2 hd
def s_bc0 (x : Int32) : Int32 := x - ((x.toUInt32 >>> ((nI 1).toUInt32 &&& Int32.toUInt32 31)).toInt32 &&& nI 1431655765)
def s_bc1 (x : Int32) : Int32 := (x &&& nI 858993459) + ((x.toUInt32 >>> ((nI 2).toUInt32 &&& Int32.toUInt32 31)).toInt32 &&& nI 858993459)
def s_bc2 (x : Int32) : Int32 := (x + (x.toUInt32 >>> ((nI 4).toUInt32 &&& Int32.toUInt32 31)).toInt32) &&& nI 252645135
def s_bc3 (x : Int32) : Int32 := x + (x.toUInt32 >>> ((nI 8).toUInt32 &&& Int32.toUInt32 31)).toInt32
def s_bc4 (x : Int32) : Int32 := x + (x.toUInt32 >>> ((nI 16).toUInt32 &&& Int32.toUInt32 31)).toInt32
theorem s_bc_ok : ∀ m, m < 64 → s_bc4 (s_bc3 (s_bc2 (s_bc1 (s_bc0 (nI m))))) &&& nI 63 = nI (s_cnt 6 (fun i => m.testBit i)) := by decide +kernel
theorem s_cnt_mask {n : Nat} (hn : n ≤ 6) (f : Nat → Bool) : s_cnt 6 (fun i => (s_mask n f).testBit i) = s_cnt n f := by
  have e : s_cnt 6 (fun i => (s_mask n f).testBit i) = s_cnt 6 (fun i => decide (i < n) && f i) := s_cnt_cong (fun i _ => s_mask_bit f i n)
  rw [e]
  have key : ∀ d, s_cnt (n + d) (fun i => decide (i < n) && f i) = s_cnt n f := by
    intro d
    induction d with
    | zero => exact s_cnt_cong (fun i hi => by simp [show i < n from hi])
    | succ d ih =>
      have e2 : ¬ (n + d < n) := by omega
      rw [show n + (d + 1) = (n + d) + 1 from rfl, s_cnt, if_neg (by simp [e2]), ih]
  have := key (6 - n)
  rw [show n + (6 - n) = 6 by omega] at this
  exact this
theorem c_bitCount_m {h : xH} {m : Nat} (hm : m < 64) : x_Met m_J6_bitCount_0f7a4 [.int (nI m)] h (x_pr (nI (s_cnt 6 (fun i => m.testBit i))) h) := by
  refine x_Met.of (lo := [some (.int (nI m))]) (by decide) rfl rfl rfl ?_
  refine R_iload_n dJ6_bitCount_0f7a4_0 rfl ?_
  refine R_iload_n dJ6_bitCount_0f7a4_1 rfl ?_
  refine R_iconst (nI 1) dJ6_bitCount_0f7a4_2 rfl ?_
  refine R_iushr dJ6_bitCount_0f7a4_3 ?_
  refine R_ldcw (nI 1431655765) dJ6_bitCount_0f7a4_4 k_J6_265 ?_
  refine R_iand dJ6_bitCount_0f7a4_7 ?_
  refine R_isub dJ6_bitCount_0f7a4_8 ?_
  refine R_istore_n dJ6_bitCount_0f7a4_9 (Nat.le_of_ble_eq_true rfl) rfl ?_
  refine R_iload_n dJ6_bitCount_0f7a4_10 rfl ?_
  refine R_ldcw (nI 858993459) dJ6_bitCount_0f7a4_11 k_J6_266 ?_
  refine R_iand dJ6_bitCount_0f7a4_14 ?_
  refine R_iload_n dJ6_bitCount_0f7a4_15 rfl ?_
  refine R_iconst (nI 2) dJ6_bitCount_0f7a4_16 rfl ?_
  refine R_iushr dJ6_bitCount_0f7a4_17 ?_
  refine R_ldcw (nI 858993459) dJ6_bitCount_0f7a4_18 k_J6_266 ?_
  refine R_iand dJ6_bitCount_0f7a4_21 ?_
  refine R_iadd dJ6_bitCount_0f7a4_22 ?_
  refine R_istore_n dJ6_bitCount_0f7a4_23 (Nat.le_of_ble_eq_true rfl) rfl ?_
  refine R_iload_n dJ6_bitCount_0f7a4_24 rfl ?_
  refine R_iload_n dJ6_bitCount_0f7a4_25 rfl ?_
  refine R_iconst (nI 4) dJ6_bitCount_0f7a4_26 rfl ?_
  refine R_iushr dJ6_bitCount_0f7a4_27 ?_
  refine R_iadd dJ6_bitCount_0f7a4_28 ?_
  refine R_ldcw (nI 252645135) dJ6_bitCount_0f7a4_29 k_J6_267 ?_
  refine R_iand dJ6_bitCount_0f7a4_32 ?_
  refine R_istore_n dJ6_bitCount_0f7a4_33 (Nat.le_of_ble_eq_true rfl) rfl ?_
  refine R_iload_n dJ6_bitCount_0f7a4_34 rfl ?_
  refine R_iload_n dJ6_bitCount_0f7a4_35 rfl ?_
  refine R_bipush (nI 8) dJ6_bitCount_0f7a4_36 rfl ?_
  refine R_iushr dJ6_bitCount_0f7a4_38 ?_
  refine R_iadd dJ6_bitCount_0f7a4_39 ?_
  refine R_istore_n dJ6_bitCount_0f7a4_40 (Nat.le_of_ble_eq_true rfl) rfl ?_
  refine R_iload_n dJ6_bitCount_0f7a4_41 rfl ?_
  refine R_iload_n dJ6_bitCount_0f7a4_42 rfl ?_
  refine R_bipush (nI 16) dJ6_bitCount_0f7a4_43 rfl ?_
  refine R_iushr dJ6_bitCount_0f7a4_45 ?_
  refine R_iadd dJ6_bitCount_0f7a4_46 ?_
  refine R_istore_n dJ6_bitCount_0f7a4_47 (Nat.le_of_ble_eq_true rfl) rfl ?_
  refine R_iload_n dJ6_bitCount_0f7a4_48 rfl ?_
  refine R_bipush (nI 63) dJ6_bitCount_0f7a4_49 rfl ?_
  refine R_iand dJ6_bitCount_0f7a4_51 ?_
  exact R_iret dJ6_bitCount_0f7a4_52 rfl rfl rfl (x_pr.eq (s_bc_ok m hm))
theorem c_bitCount {h : xH} {n : Nat} (hn : n ≤ 6) (f : Nat → Bool) : x_Met m_J6_bitCount_0f7a4 [.int (s_set n f)] h (x_pr (nI (s_cnt n f)) h) := by
  rw [s_set_mask f n (by omega), ← s_cnt_mask hn f]
  exact c_bitCount_m (s_mask64 hn f)
theorem c_max {h : xH} {a b : Nat} (ha : a < 1000) (hb : b < 1000) : x_Met m_J9_max_7cf53 [.int (nI a), .int (nI b)] h (x_pr (nI (max a b)) h) := by

  refine x_Met.ofF (lo := [some (.int (nI a)), some (.int (nI b))]) (by decide +kernel) rfl rfl rfl rfl ?_
  refine R_iload_n dJ9_max_7cf53_0 rfl ?_
  refine R_iload_n dJ9_max_7cf53_1 rfl ?_
  refine R_ltN 9 dJ9_max_7cf53_2 rfl (by omega) (by omega) (fun c_2 => ?_) (fun c_2 => ?_)
  · refine R_iload_n dJ9_max_7cf53_9 rfl ?_
    exact R_iret dJ9_max_7cf53_10 rfl rfl rfl (x_pr.eq (congrArg nI (by omega)))
  · refine R_iload_n dJ9_max_7cf53_5 rfl ?_
    refine R_goto 10 dJ9_max_7cf53_6 rfl ?_
    exact R_iret dJ9_max_7cf53_10 rfl rfl rfl (x_pr.eq (congrArg nI (by omega)))
theorem c_min {h : xH} {a b : Nat} (ha : a < 1000) (hb : b < 1000) : x_Met m_J9_min_7cf53 [.int (nI a), .int (nI b)] h (x_pr (nI (min a b)) h) := by

  refine x_Met.ofF (lo := [some (.int (nI a)), some (.int (nI b))]) (by decide +kernel) rfl rfl rfl rfl ?_
  refine R_iload_n dJ9_min_7cf53_0 rfl ?_
  refine R_iload_n dJ9_min_7cf53_1 rfl ?_
  refine R_gtN 9 dJ9_min_7cf53_2 rfl (by omega) (by omega) (fun c_2 => ?_) (fun c_2 => ?_)
  · refine R_iload_n dJ9_min_7cf53_9 rfl ?_
    exact R_iret dJ9_min_7cf53_10 rfl rfl rfl (x_pr.eq (congrArg nI (by omega)))
  · refine R_iload_n dJ9_min_7cf53_5 rfl ?_
    refine R_goto 10 dJ9_min_7cf53_6 rfl ?_
    exact R_iret dJ9_min_7cf53_10 rfl rfl rfl (x_pr.eq (congrArg nI (by omega)))
theorem s_fmA : ∀ a, a < 30 → ∀ n, n < 31 → (0 : Int32) ≤ ((nI a - nI n) ^^^ nI 30) → (nI a - nI n) - (nI a - nI n) / nI 30 * nI 30 = nI ((a + 30 - n) % 30) := by decide +kernel
theorem s_fmB : ∀ a, a < 30 → ∀ n, n < 31 → ¬ (0 : Int32) ≤ ((nI a - nI n) ^^^ nI 30) → (nI a - nI n) - (nI a - nI n) / nI 30 * nI 30 = 0 → (nI a - nI n) - (nI a - nI n) / nI 30 * nI 30 = nI ((a + 30 - n) % 30) := by decide +kernel
theorem s_fmC : ∀ a, a < 30 → ∀ n, n < 31 → ¬ (0 : Int32) ≤ ((nI a - nI n) ^^^ nI 30) → ¬ (nI a - nI n) - (nI a - nI n) / nI 30 * nI 30 = 0 → ((nI a - nI n) - (nI a - nI n) / nI 30 * nI 30) + nI 30 = nI ((a + 30 - n) % 30) := by decide +kernel
theorem c_floorMod {h : xH} {a n : Nat} (ha : a < 30) (hn : n < 31) : x_Met m_J9_floorMod_7cf53 [.int (nI a - nI n), .int (nI 30)] h (x_pr (nI ((a + 30 - n) % 30)) h) := by
  refine x_Met.ofF (lo := [some (.int (nI a - nI n)), some (.int (nI 30)), none]) (by decide +kernel) rfl rfl rfl rfl ?_
  refine R_iload_n dJ9_floorMod_7cf53_0 rfl ?_
  refine R_iload_n dJ9_floorMod_7cf53_1 rfl ?_
  refine R_irem dJ9_floorMod_7cf53_2 (by decide) ?_
  refine R_istore_n dJ9_floorMod_7cf53_3 (Nat.le_of_ble_eq_true rfl) rfl ?_
  refine R_iload_n dJ9_floorMod_7cf53_4 rfl ?_
  refine R_iload_n dJ9_floorMod_7cf53_5 rfl ?_
  refine R_ixor dJ9_floorMod_7cf53_6 ?_
  refine R_ifge 18 dJ9_floorMod_7cf53_7 rfl (fun c_7 => ?_) (fun c_7 => ?_)
  · refine R_iload_n dJ9_floorMod_7cf53_18 rfl ?_
    exact R_iret dJ9_floorMod_7cf53_19 rfl rfl rfl (x_pr.eq (s_fmA a ha n hn c_7))
  · refine R_iload_n dJ9_floorMod_7cf53_10 rfl ?_
    refine R_ifeq 18 dJ9_floorMod_7cf53_11 rfl (fun c_11 => ?_) (fun c_11 => ?_)
    · refine R_iload_n dJ9_floorMod_7cf53_18 rfl ?_
      exact R_iret dJ9_floorMod_7cf53_19 rfl rfl rfl (x_pr.eq (s_fmB a ha n hn c_7 c_11))
    · refine R_iload_n dJ9_floorMod_7cf53_14 rfl ?_
      refine R_iload_n dJ9_floorMod_7cf53_15 rfl ?_
      refine R_iadd dJ9_floorMod_7cf53_16 ?_
      exact R_iret dJ9_floorMod_7cf53_17 rfl rfl rfl (x_pr.eq (s_fmC a ha n hn c_7 c_11))
theorem c_fill_loop {h : xH} {a n : Nat} {f : Nat → Int32} {x : Int32} (h2 : 2 ≤ a) (hl : a < h.length) (hn : n < 1000) : ∀ (k i : Nat), i ≤ n → n + 1 ≤ i + k → x_Rn m_J7_fill_53178 5 [some (.ref a), some (.int x), some (.int (nI i)), some (.int (nI n))] [] (h.set a (x_ia n (fun j => if j < i then x else f j))) (0, 0) (x_vd (fun h' => h' = h.set a (x_ia n (fun _ => x)))) := by
  intro k
  induction k with
  | zero => intro i h1 h3; omega
  | succ k ih =>
    intro i h1 h3
    refine R_iload_n dJ7_fill_53178_5 rfl ?_
    refine R_iload_n dJ7_fill_53178_6 rfl ?_
    refine R_geN 20 dJ7_fill_53178_7 rfl (by omega) (by omega) (fun c_7 => ?_) (fun c_7 => ?_)
    · have e : i = n := by omega
      subst e
      refine R_alk h2 (x_alk.I (g := fun _ => x) (fun j hj => if_pos hj)) ?_
      exact R_vret dJ7_fill_53178_20 rfl rfl rfl ⟨rfl, rfl⟩
    · refine R_aload_n dJ7_fill_53178_10 rfl ?_
      refine R_iload_n dJ7_fill_53178_11 rfl ?_
      refine R_iload_n dJ7_fill_53178_12 rfl ?_
      refine R_iast dJ7_fill_53178_13 (List.getElem?_set_self hl) (by omega) rfl (by omega) (by omega) ?_
      refine R_alk h2 (x_alk.I (g := fun j => if j < i + 1 then x else f j) (fun j _ => ?_)) ?_
      · by_cases e : j = i
        · subst e; simp [upd]
        · have e1 : (j < i + 1) = (j < i) := by simp; omega
          simp [upd, e, e1]
      rw [List.set_set]
      refine R_iincN dJ7_fill_53178_14 rfl (Nat.le_of_ble_eq_true rfl) rfl ?_
      refine R_goto 5 dJ7_fill_53178_17 rfl ?_
      exact ih (i + 1) (by omega) (by omega)
theorem c_fill {h : xH} {a n : Nat} {f : Nat → Int32} (g : h[a]? = some (x_ia n f)) (h2 : 2 ≤ a) (hn : n < 1000) (x : Int32) : x_Met m_J7_fill_53178 [.ref a, .int x] h (x_vd (fun h' => h' = h.set a (x_ia n (fun _ => x)))) := by
  refine x_Met.of (lo := [some (.ref a), some (.int x), none, none]) (by decide) rfl rfl rfl ?_
  refine R_iconst (nI 0) dJ7_fill_53178_0 rfl ?_
  refine R_istore_n dJ7_fill_53178_1 (Nat.le_of_ble_eq_true rfl) rfl ?_
  refine R_aload_n dJ7_fill_53178_2 rfl ?_
  refine R_alen dJ7_fill_53178_3 g ?_
  refine R_istore_n dJ7_fill_53178_4 (Nat.le_of_ble_eq_true rfl) rfl ?_
  have e := c_fill_loop (f := f) (x := x) h2 (List.getElem?_eq_some_iff.mp g).1 hn (n + 1) 0 (by omega) (by omega)
  rw [show (fun j => if j < 0 then x else f j) = f from funext (fun j => if_neg (by omega)), x_same g] at e
  exact e
theorem c_Night_isSure_loop {h : xH} {c R P : Nat} {Q : xQ} (HN : x_Night h c R P Q) {r : Nat} (hr : r < 6) : ∀ (n k : Nat), k ≤ 4 → 5 ≤ k + n → (∀ i, i < k → s_will Q r i = s_will Q r 0) → x_Rn m_X2_isSure 9 [some (.ref c), some (.int (nI r)), some (.int (s_will Q r 0)), some (.int (nI k))] [] h (0, 0) (x_pr (x_b (s_sure Q r)) h) := by
  obtain ⟨h2n, n0, ⟨f1, n1, n1e⟩, n2, ⟨f3, n3, n3e⟩, n4, n5⟩ := id HN
  intro n
  induction n with
  | zero => intro k h1 h3; omega
  | succ n ih =>
    intro k h1 h3 hs
    refine R_iload_n dX2_isSure_9 rfl ?_
    refine R_iconst (nI 4) dX2_isSure_10 rfl ?_
    refine R_geN 32 dX2_isSure_11 rfl (by omega) (by omega) (fun c_11 => ?_) (fun c_11 => ?_)
    · have e : k = 4 := by omega
      subst e
      refine R_iload_n dX2_isSure_32 rfl ?_
      refine R_iconst (-1) dX2_isSure_33 rfl ?_
      refine R_icmpeq 41 dX2_isSure_34 rfl (fun c_34 => ?_) (fun c_34 => ?_)
      · refine R_iconst (nI 0) dX2_isSure_41 rfl ?_
        exact R_zret dX2_isSure_42 rfl (Or.inl rfl) rfl rfl (x_pr.eq (x_bf (decide_eq_false (fun z => z.2.2.2 c_34))))
      · refine R_iconst (nI 1) dX2_isSure_37 rfl ?_
        refine R_goto 42 dX2_isSure_38 rfl ?_
        exact R_zret dX2_isSure_42 rfl (Or.inr rfl) rfl rfl (x_pr.eq (x_bt (decide_eq_true ⟨hs 1 (by omega), hs 2 (by omega), hs 3 (by omega), c_34⟩)))
    · refine R_aload_n dX2_isSure_14 rfl ?_
      refine R_iload_n dX2_isSure_15 rfl ?_
      refine R_iload_n dX2_isSure_16 rfl ?_
      refine R_cV2p (N := m_X2_will) dX2_isSure_17 l_X2_66 i_X2_will n0 (c_Night_will HN hr (k := k) (by omega)) rfl rfl ?_
      refine R_iload_n dX2_isSure_20 rfl ?_
      refine R_icmpeq 26 dX2_isSure_21 rfl (fun c_21 => ?_) (fun c_21 => ?_)
      · refine R_iincN dX2_isSure_26 rfl (Nat.le_of_ble_eq_true rfl) rfl ?_
        refine R_goto 9 dX2_isSure_29 rfl ?_
        exact ih (k + 1) (by omega) (by omega) (fun i hi => by
          by_cases e : i = k
          · subst e; exact c_21
          · exact hs i (by omega))
      · refine R_iconst (nI 0) dX2_isSure_24 rfl ?_
        exact R_zret dX2_isSure_25 rfl (Or.inl rfl) rfl rfl (x_pr.eq (x_bf (decide_eq_false (fun z => c_21 (by
                obtain ⟨z1, z2, z3, z4⟩ := z
                rcases (show k = 0 ∨ k = 1 ∨ k = 2 ∨ k = 3 by omega) with rfl | rfl | rfl | rfl
                · rfl
                · exact z1
                · exact z2
                · exact z3)))))
theorem c_Night_isSure {h : xH} {c R P : Nat} {Q : xQ} (HN : x_Night h c R P Q) {r : Nat} (hr : r < 6) : x_Met m_X2_isSure [.ref c, .int (nI r)] h (x_pr (x_b (s_sure Q r)) h) := by
  obtain ⟨h2n, n0, ⟨f1, n1, n1e⟩, n2, ⟨f3, n3, n3e⟩, n4, n5⟩ := id HN
  refine x_Met.of (lo := [some (.ref c), some (.int (nI r)), none, none]) (by decide) rfl rfl rfl ?_
  refine R_aload_n dX2_isSure_0 rfl ?_
  refine R_iload_n dX2_isSure_1 rfl ?_
  refine R_iconst (nI 0) dX2_isSure_2 rfl ?_
  refine R_cV2p (N := m_X2_will) dX2_isSure_3 l_X2_66 i_X2_will n0 (c_Night_will HN hr (k := 0) (by omega)) rfl rfl ?_
  refine R_istore_n dX2_isSure_6 (Nat.le_of_ble_eq_true rfl) rfl ?_
  refine R_iconst (nI 0) dX2_isSure_7 rfl ?_
  refine R_istore_n dX2_isSure_8 (Nat.le_of_ble_eq_true rfl) rfl ?_
  exact c_Night_isSure_loop HN hr 5 0 (by omega) (by omega) (fun i hi => by omega)
theorem c_Night_sure_loop {h : xH} {b c N R D P : Nat} {F : xF} {Q : xQ} (H : x_House h b N R D P F) (hB : x_HB N R D P F) (HN : x_Night h c R P Q) (hQ : x_QB N R P Q) : ∀ (n r : Nat), r ≤ R → R + 1 ≤ r + n → x_Rn m_X2_sure 4 [some (.ref c), some (.ref b), some (.int (s_set r (s_sure Q))), some (.int (nI r))] [] h (0, 0) (x_pr (s_set R (s_sure Q)) h) := by
  obtain ⟨h2, g0, g1, g2, g3, g4, g5, g6, g7, g8, g9, g10, g11⟩ := id H
  obtain ⟨⟨b1, b2, b3, b4⟩, b5, b6, b7⟩ := id hB
  obtain ⟨h2n, n0, ⟨f1, n1, n1e⟩, n2, ⟨f3, n3, n3e⟩, n4, n5⟩ := id HN
  obtain ⟨u1, u2, u3, u4, u5, u6, u7, u8, u9⟩ := id hQ
  intro n
  induction n with
  | zero => intro r h1 h3; omega
  | succ n ih =>
    intro r h1 h3
    refine R_iload_n dX2_sure_4 rfl ?_
    refine R_aload_n dX2_sure_5 rfl ?_
    refine R_get dX2_sure_6 f_X2_63 g0 rfl ?_
    refine R_geN 32 dX2_sure_9 rfl (by omega) (by omega) (fun c_9 => ?_) (fun c_9 => ?_)
    · have e : r = R := by omega
      subst e
      refine R_iload_n dX2_sure_32 rfl ?_
      exact R_iret dX2_sure_33 rfl rfl rfl x_pr.mk
    · have hr : r < R := by omega
      refine R_aload_n dX2_sure_12 rfl ?_
      refine R_iload_n dX2_sure_13 rfl ?_
      refine R_cV1p (N := m_X2_isSure) dX2_sure_14 l_X2_98 i_X2_isSure n0 (c_Night_isSure HN (by omega)) rfl rfl ?_
      refine R_ifeqB 26 dX2_sure_17 rfl (fun c_17 => ?_) (fun c_17 => ?_)
      · rw [s_set_f c_17]
        refine R_iincN dX2_sure_26 rfl (Nat.le_of_ble_eq_true rfl) rfl ?_
        refine R_goto 4 dX2_sure_29 rfl ?_
        exact ih (r + 1) (by omega) (by omega)
      · refine R_iload_n dX2_sure_20 rfl ?_
        refine R_iconst (nI 1) dX2_sure_21 rfl ?_
        refine R_iload_n dX2_sure_22 rfl ?_
        refine R_ishl dX2_sure_23 ?_
        refine R_ior dX2_sure_24 ?_
        rw [s_set_t c_17]
        refine R_istore_n dX2_sure_25 (Nat.le_of_ble_eq_true rfl) rfl ?_
        refine R_iincN dX2_sure_26 rfl (Nat.le_of_ble_eq_true rfl) rfl ?_
        refine R_goto 4 dX2_sure_29 rfl ?_
        exact ih (r + 1) (by omega) (by omega)
theorem c_Night_sure {h : xH} {b c N R D P : Nat} {F : xF} {Q : xQ} (H : x_House h b N R D P F) (hB : x_HB N R D P F) (HN : x_Night h c R P Q) (hQ : x_QB N R P Q) : x_Met m_X2_sure [.ref c, .ref b] h (x_pr (s_set R (s_sure Q)) h) := by

  refine x_Met.of (lo := [some (.ref c), some (.ref b), none, none]) (by decide) rfl rfl rfl ?_
  refine R_iconst (nI 0) dX2_sure_0 rfl ?_
  refine R_istore_n dX2_sure_1 (Nat.le_of_ble_eq_true rfl) rfl ?_
  refine R_iconst (nI 0) dX2_sure_2 rfl ?_
  refine R_istore_n dX2_sure_3 (Nat.le_of_ble_eq_true rfl) rfl ?_
  exact c_Night_sure_loop H hB HN hQ (R + 1) 0 (by omega) (by omega)
theorem c_Night_holdings_loop {h : xH} {b c N R D P : Nat} {F : xF} {Q : xQ} (H : x_House h b N R D P F) (hB : x_HB N R D P F) (HN : x_Night h c R P Q) (hQ : x_QB N R P Q) (q : Int32) : ∀ (n r : Nat), r ≤ R → R + 1 ≤ r + n → x_Rn m_X2_holdings 5 [some (.ref c), some (.ref b), some (.int q), some (.int (s_set r (s_own Q q))), some (.int (nI r))] [] h (0, 0) (x_pr (s_set R (s_own Q q)) h) := by
  obtain ⟨h2, g0, g1, g2, g3, g4, g5, g6, g7, g8, g9, g10, g11⟩ := id H
  obtain ⟨⟨b1, b2, b3, b4⟩, b5, b6, b7⟩ := id hB
  obtain ⟨h2n, n0, ⟨f1, n1, n1e⟩, n2, ⟨f3, n3, n3e⟩, n4, n5⟩ := id HN
  obtain ⟨u1, u2, u3, u4, u5, u6, u7, u8, u9⟩ := id hQ
  intro n
  induction n with
  | zero => intro r h1 h3; omega
  | succ n ih =>
    intro r h1 h3
    refine R_iload dX2_holdings_5 rfl ?_
    refine R_aload_n dX2_holdings_7 rfl ?_
    refine R_get dX2_holdings_8 f_X2_63 g0 rfl ?_
    refine R_geN 38 dX2_holdings_11 rfl (by omega) (by omega) (fun c_11 => ?_) (fun c_11 => ?_)
    · have e : r = R := by omega
      subst e
      refine R_iload_n dX2_holdings_38 rfl ?_
      exact R_iret dX2_holdings_39 rfl rfl rfl x_pr.mk
    · have hr : r < R := by omega
      refine R_aload_n dX2_holdings_14 rfl ?_
      refine R_get dX2_holdings_15 f_X2_28 n0 rfl ?_
      refine R_iload dX2_holdings_18 rfl ?_
      refine R_iald dX2_holdings_20 n2 rfl (by omega) (by decide) ?_
      refine R_iload_n dX2_holdings_21 rfl ?_
      refine R_icmpne 32 dX2_holdings_22 rfl (fun c_22 => ?_) (fun c_22 => ?_)
      · rw [s_set_f (decide_eq_false c_22)]
        refine R_iincN dX2_holdings_32 rfl (Nat.le_of_ble_eq_true rfl) rfl ?_
        refine R_goto 5 dX2_holdings_35 rfl ?_
        exact ih (r + 1) (by omega) (by omega)
      · refine R_iload_n dX2_holdings_25 rfl ?_
        refine R_iconst (nI 1) dX2_holdings_26 rfl ?_
        refine R_iload dX2_holdings_27 rfl ?_
        refine R_ishl dX2_holdings_29 ?_
        refine R_ior dX2_holdings_30 ?_
        rw [s_set_t (f := s_own Q q) (decide_eq_true c_22)]
        refine R_istore_n dX2_holdings_31 (Nat.le_of_ble_eq_true rfl) rfl ?_
        refine R_iincN dX2_holdings_32 rfl (Nat.le_of_ble_eq_true rfl) rfl ?_
        refine R_goto 5 dX2_holdings_35 rfl ?_
        exact ih (r + 1) (by omega) (by omega)
theorem c_Night_holdings {h : xH} {b c N R D P : Nat} {F : xF} {Q : xQ} (H : x_House h b N R D P F) (hB : x_HB N R D P F) (HN : x_Night h c R P Q) (hQ : x_QB N R P Q) (q : Int32) : x_Met m_X2_holdings [.ref c, .ref b, .int q] h (x_pr (s_set R (s_own Q q)) h) := by

  refine x_Met.of (lo := [some (.ref c), some (.ref b), some (.int q), none, none]) (by decide) rfl rfl rfl ?_
  refine R_iconst (nI 0) dX2_holdings_0 rfl ?_
  refine R_istore_n dX2_holdings_1 (Nat.le_of_ble_eq_true rfl) rfl ?_
  refine R_iconst (nI 0) dX2_holdings_2 rfl ?_
  refine R_istore dX2_holdings_3 (Nat.le_of_ble_eq_true rfl) rfl ?_
  exact c_Night_holdings_loop H hB HN hQ q (R + 1) 0 (by omega) (by omega)
theorem c_Night_worth_loop {h : xH} {b c N R D P : Nat} {F : xF} {Q : xQ} (H : x_House h b N R D P F) (hB : x_HB N R D P F) (HN : x_Night h c R P Q) (hQ : x_QB N R P Q) {r : Nat} (hr : r < R) : ∀ (n p : Nat), p ≤ P → P + 1 ≤ p + n → x_Rn m_X2_worth 5 [some (.ref c), some (.ref b), some (.int (nI r)), some (.int (nI (s_cnt p (s_worth F Q r)))), some (.int (nI p))] [] h (0, 0) (x_pr (nI (s_cnt P (s_worth F Q r))) h) := by
  obtain ⟨h2, g0, g1, g2, g3, g4, g5, g6, g7, g8, g9, g10, g11⟩ := id H
  obtain ⟨⟨b1, b2, b3, b4⟩, b5, b6, b7⟩ := id hB
  obtain ⟨h2n, n0, ⟨f1, n1, n1e⟩, n2, ⟨f3, n3, n3e⟩, n4, n5⟩ := id HN
  obtain ⟨u1, u2, u3, u4, u5, u6, u7, u8, u9⟩ := id hQ
  intro n
  induction n with
  | zero => intro p h1 h3; omega
  | succ n ih =>
    intro p h1 h3
    refine R_iload dX2_worth_5 rfl ?_
    refine R_aload_n dX2_worth_7 rfl ?_
    refine R_get dX2_worth_8 f_X2_101 g0 rfl ?_
    refine R_geN 40 dX2_worth_11 rfl (by omega) (by omega) (fun c_11 => ?_) (fun c_11 => ?_)
    · have e : p = P := by omega
      subst e
      refine R_iload_n dX2_worth_40 rfl ?_
      exact R_iret dX2_worth_41 rfl rfl rfl x_pr.mk
    · have hp : p < P := by omega
      refine R_aload_n dX2_worth_14 rfl ?_
      refine R_iload dX2_worth_15 rfl ?_
      refine R_aload_n dX2_worth_17 rfl ?_
      refine R_get dX2_worth_18 f_X2_31 n0 rfl ?_
      refine R_iload dX2_worth_21 rfl ?_
      refine R_iald dX2_worth_23 n3 rfl (by omega) (by decide) ?_
      rw [n3e p (by omega)]
      refine R_iload_n dX2_worth_24 rfl ?_
      refine R_cV3p (N := m_X1_isHeard) dX2_worth_25 l_X2_104 i_X1_isHeard g0 (c_House_isHeard H hB hp (u6 p hp) hr) rfl rfl ?_
      refine R_ifeqB 34 dX2_worth_28 rfl (fun c_28 => ?_) (fun c_28 => ?_)
      · rw [show s_cnt p (s_worth F Q r) = s_cnt (p + 1) (s_worth F Q r) from by rw [s_cnt, if_neg (by unfold s_worth; rw [c_28]; decide)]]
        refine R_iincN dX2_worth_34 rfl (Nat.le_of_ble_eq_true rfl) rfl ?_
        refine R_goto 5 dX2_worth_37 rfl ?_
        exact ih (p + 1) (by omega) (by omega)
      · refine R_iincN dX2_worth_31 rfl (Nat.le_of_ble_eq_true rfl) rfl ?_
        rw [show s_cnt p (s_worth F Q r) + 1 = s_cnt (p + 1) (s_worth F Q r) from by rw [s_cnt, if_pos (show s_worth F Q r p = true from c_28)]]
        refine R_iincN dX2_worth_34 rfl (Nat.le_of_ble_eq_true rfl) rfl ?_
        refine R_goto 5 dX2_worth_37 rfl ?_
        exact ih (p + 1) (by omega) (by omega)
theorem c_Night_worth {h : xH} {b c N R D P : Nat} {F : xF} {Q : xQ} (H : x_House h b N R D P F) (hB : x_HB N R D P F) (HN : x_Night h c R P Q) (hQ : x_QB N R P Q) {r : Nat} (hr : r < R) : x_Met m_X2_worth [.ref c, .ref b, .int (nI r)] h (x_pr (nI (s_cnt P (s_worth F Q r))) h) := by

  refine x_Met.of (lo := [some (.ref c), some (.ref b), some (.int (nI r)), none, none]) (by decide) rfl rfl rfl ?_
  refine R_iconst (nI 0) dX2_worth_0 rfl ?_
  refine R_istore_n dX2_worth_1 (Nat.le_of_ble_eq_true rfl) rfl ?_
  refine R_iconst (nI 0) dX2_worth_2 rfl ?_
  refine R_istore dX2_worth_3 (Nat.le_of_ble_eq_true rfl) rfl ?_
  exact c_Night_worth_loop H hB HN hQ hr (P + 1) 0 (by omega) (by omega)
theorem s_hold_le (R : Nat) (Q : xQ) : ∀ p, (s_hold R Q p).2 ≤ R
  | 0 => Nat.zero_le _
  | p + 1 => by
    rw [s_hold]
    split
    · exact s_cnt_le _ R
    · exact s_hold_le R Q p
theorem c_Night_holder_loop {h : xH} {b c N R D P : Nat} {F : xF} {Q : xQ} (H : x_House h b N R D P F) (hB : x_HB N R D P F) (HN : x_Night h c R P Q) (hQ : x_QB N R P Q) : ∀ (n p : Nat), p ≤ P → P + 1 ≤ p + n → ∀ v5 : Option Value, x_Rn m_X2_holder 7 [some (.ref c), some (.ref b), some (.int (s_hold R Q p).1), some (.int (nI (s_hold R Q p).2)), some (.int (nI p)), v5] [] h (0, 0) (x_pr (s_hold R Q P).1 h) := by
  obtain ⟨h2, g0, g1, g2, g3, g4, g5, g6, g7, g8, g9, g10, g11⟩ := id H
  obtain ⟨⟨b1, b2, b3, b4⟩, b5, b6, b7⟩ := id hB
  obtain ⟨h2n, n0, ⟨f1, n1, n1e⟩, n2, ⟨f3, n3, n3e⟩, n4, n5⟩ := id HN
  obtain ⟨u1, u2, u3, u4, u5, u6, u7, u8, u9⟩ := id hQ
  intro n
  induction n with
  | zero => intro p h1 h3; omega
  | succ n ih =>
    intro p h1 h3 v5
    refine R_iload dX2_holder_7 rfl ?_
    refine R_aload_n dX2_holder_9 rfl ?_
    refine R_get dX2_holder_10 f_X2_101 g0 rfl ?_
    refine R_geN 46 dX2_holder_13 rfl (by omega) (by omega) (fun c_13 => ?_) (fun c_13 => ?_)
    · have e : p = P := by omega
      subst e
      refine R_iload_n dX2_holder_46 rfl ?_
      exact R_iret dX2_holder_47 rfl rfl rfl x_pr.mk
    · have hp : p < P := by omega
      have w1 := s_cnt_le (s_own Q (nI p)) R
      have w2 := s_hold_le R Q p
      refine R_aload_n dX2_holder_16 rfl ?_
      refine R_aload_n dX2_holder_17 rfl ?_
      refine R_iload dX2_holder_18 rfl ?_
      refine R_cV2p (N := m_X2_holdings) dX2_holder_20 l_X2_108 i_X2_holdings n0 (c_Night_holdings H hB HN hQ (nI p)) rfl rfl ?_
      refine R_cS1p (N := m_J6_bitCount_0f7a4) dX2_holder_23 l_X2_111 i_J6_bitCount_0f7a4 (c_bitCount b2 _) rfl rfl ?_
      refine R_istore dX2_holder_26 (Nat.le_of_ble_eq_true rfl) rfl ?_
      refine R_iload dX2_holder_28 rfl ?_
      refine R_iload_n dX2_holder_30 rfl ?_
      refine R_leN 40 dX2_holder_31 rfl (by omega) (by omega) (fun c_31 => ?_) (fun c_31 => ?_)
      · rw [show s_hold R Q p = s_hold R Q (p + 1) from by rw [s_hold, if_neg (by omega)]]
        refine R_iincN dX2_holder_40 rfl (Nat.le_of_ble_eq_true rfl) rfl ?_
        refine R_goto 7 dX2_holder_43 rfl ?_
        exact ih (p + 1) (by omega) (by omega) _
      · have e1 : (s_hold R Q (p + 1)) = (nI p, s_cnt R (s_own Q (nI p))) := by rw [s_hold, if_pos (by omega)]
        refine R_iload dX2_holder_34 rfl ?_
        refine R_istore_n dX2_holder_36 (Nat.le_of_ble_eq_true rfl) rfl ?_
        refine R_iload dX2_holder_37 rfl ?_
        refine R_istore_n dX2_holder_39 (Nat.le_of_ble_eq_true rfl) rfl ?_
        have key := ih (p + 1) (by omega) (by omega)
        rw [e1] at key
        refine R_iincN dX2_holder_40 rfl (Nat.le_of_ble_eq_true rfl) rfl ?_
        refine R_goto 7 dX2_holder_43 rfl ?_
        exact key _
theorem c_Night_holder {h : xH} {b c N R D P : Nat} {F : xF} {Q : xQ} (H : x_House h b N R D P F) (hB : x_HB N R D P F) (HN : x_Night h c R P Q) (hQ : x_QB N R P Q) : x_Met m_X2_holder [.ref c, .ref b] h (x_pr (s_hold R Q P).1 h) := by

  refine x_Met.of (lo := [some (.ref c), some (.ref b), none, none, none, none]) (by decide) rfl rfl rfl ?_
  refine R_iconst (-1) dX2_holder_0 rfl ?_
  refine R_istore_n dX2_holder_1 (Nat.le_of_ble_eq_true rfl) rfl ?_
  refine R_iconst (nI 0) dX2_holder_2 rfl ?_
  refine R_istore_n dX2_holder_3 (Nat.le_of_ble_eq_true rfl) rfl ?_
  refine R_iconst (nI 0) dX2_holder_4 rfl ?_
  refine R_istore dX2_holder_5 (Nat.le_of_ble_eq_true rfl) rfl ?_
  exact c_Night_holder_loop H hB HN hQ (P + 1) 0 (by omega) (by omega) none
end
section
/-! A NIGHT that changes -/
/-- only the cells from c on, n of them, are others -/
def x_fr (h h' : xH) (c n : Nat) : Prop := ∀ q, q < c ∨ c + n ≤ q → h'[q]? = h[q]?
theorem x_fr.rf (h : xH) (c n : Nat) : x_fr h h c n := fun _ _ => rfl
theorem x_fr.trans {h g k : xH} {c n : Nat} (a : x_fr h g c n) (b : x_fr g k c n) : x_fr h k c n := fun q hq => (b q hq).trans (a q hq)
theorem x_fr.set {h g : xH} {c n a : Nat} (f : x_fr h g c n) (e : xC) (h1 : c ≤ a) (h2 : a < c + n) : x_fr h (g.set a e) c n := fun q hq => by rw [List.getElem?_set_ne (by omega)]; exact f q hq
theorem x_fr.wide {h g : xH} {c n c' n' : Nat} (f : x_fr h g c n) (h1 : c' ≤ c) (h2 : c + n ≤ c' + n') : x_fr h g c' n' := fun q hq => f q (by omega)
abbrev q_setla (Q : xQ) (la : Nat → Nat → Int32) : xQ := (Q.1, Q.2.1, Q.2.2.1, Q.2.2.2.1, Q.2.2.2.2.1, Q.2.2.2.2.2.1, Q.2.2.2.2.2.2.1, la)
theorem x_Night.obj {h : xH} {c R P : Nat} {Q : xQ} (H : x_Night h c R P Q) (hr nt sy : Nat) (ou : Nat → Bool) : x_Night (h.set c (.inr (2, [.int (nI (hr)), .int (nI (nt)), .int (nI (sy)), .int (s_set 6 (ou)), .ref (c + 1), .ref (c + 2), .ref (c + 3), .ref (c + 4)]))) c R P (hr, nt, sy, Q.2.2.2.1, Q.2.2.2.2.1, ou, Q.2.2.2.2.2.2.1, Q.2.2.2.2.2.2.2) := by
  obtain ⟨h2, g0, ⟨f1, g1, e1⟩, g2, ⟨f3, g3, e3⟩, g4, g5⟩ := H
  have hl := (List.getElem?_eq_some_iff.mp g0).1
  refine ⟨h2, List.getElem?_set_self hl, ⟨f1, ?_, e1⟩, ?_, ⟨f3, ?_, e3⟩, ?_, fun k hk => ?_⟩
  all_goals rw [List.getElem?_set_ne (by omega)]
  · exact g1
  · exact g2
  · exact g3
  · exact g4
  · exact g5 k hk
theorem x_Night.ow {h : xH} {c R P : Nat} {Q : xQ} (H : x_Night h c R P Q) (ow : Nat → Int32) : x_Night (h.set (c + 2) (x_ia 6 ow)) c R P (Q.1, Q.2.1, Q.2.2.1, Q.2.2.2.1, Q.2.2.2.2.1, Q.2.2.2.2.2.1, ow, Q.2.2.2.2.2.2.2) := by
  obtain ⟨h2, g0, ⟨f1, g1, e1⟩, g2, ⟨f3, g3, e3⟩, g4, g5⟩ := H
  have hl := (List.getElem?_eq_some_iff.mp g2).1
  refine ⟨h2, ?_, ⟨f1, ?_, e1⟩, List.getElem?_set_self hl, ⟨f3, ?_, e3⟩, ?_, fun k hk => ?_⟩
  all_goals rw [List.getElem?_set_ne (by omega)]
  · exact g0
  · exact g1
  · exact g3
  · exact g4
  · exact g5 k hk
theorem x_Night.bu {h : xH} {c R R2 P : Nat} {Q : xQ} (H : x_Night h c R P Q) (f : Nat → Int32) (bu : Nat → Nat) (hf : ∀ r, r < R2 → f r = nI (bu r)) : x_Night (h.set (c + 1) (x_ia 6 f)) c R2 P (Q.1, Q.2.1, Q.2.2.1, bu, Q.2.2.2.2.1, Q.2.2.2.2.2.1, Q.2.2.2.2.2.2.1, Q.2.2.2.2.2.2.2) := by
  obtain ⟨h2, g0, ⟨f1, g1, e1⟩, g2, ⟨f3, g3, e3⟩, g4, g5⟩ := H
  have hl := (List.getElem?_eq_some_iff.mp g1).1
  refine ⟨h2, ?_, ⟨f, List.getElem?_set_self hl, hf⟩, ?_, ⟨f3, ?_, e3⟩, ?_, fun k hk => ?_⟩
  all_goals rw [List.getElem?_set_ne (by omega)]
  · exact g0
  · exact g2
  · exact g3
  · exact g4
  · exact g5 k hk
theorem x_Night.pl {h : xH} {c R P P2 : Nat} {Q : xQ} (H : x_Night h c R P Q) (f : Nat → Int32) (pl : Nat → Nat) (hf : ∀ r, r < P2 → f r = nI (pl r)) : x_Night (h.set (c + 3) (x_ia 6 f)) c R P2 (Q.1, Q.2.1, Q.2.2.1, Q.2.2.2.1, pl, Q.2.2.2.2.2.1, Q.2.2.2.2.2.2.1, Q.2.2.2.2.2.2.2) := by
  obtain ⟨h2, g0, ⟨f1, g1, e1⟩, g2, ⟨f3, g3, e3⟩, g4, g5⟩ := H
  have hl := (List.getElem?_eq_some_iff.mp g3).1
  refine ⟨h2, ?_, ⟨f1, ?_, e1⟩, ?_, ⟨f, List.getElem?_set_self hl, hf⟩, ?_, fun k hk => ?_⟩
  all_goals rw [List.getElem?_set_ne (by omega)]
  · exact g0
  · exact g1
  · exact g2
  · exact g4
  · exact g5 k hk
theorem x_Night.la {h : xH} {c R P : Nat} {Q : xQ} (H : x_Night h c R P Q) {k : Nat} (hk : k < 4) (g : Nat → Int32) : x_Night (h.set (c + 4 + 1 + k) (x_ia 6 g)) c R P (q_setla Q (fun i => if i = k then g else q_la Q i)) := by
  obtain ⟨h2, g0, ⟨f1, g1, e1⟩, g2, ⟨f3, g3, e3⟩, g4, g5⟩ := H
  have hl := (List.getElem?_eq_some_iff.mp (g5 k hk)).1
  refine ⟨h2, ?_, ⟨f1, ?_, e1⟩, ?_, ⟨f3, ?_, e3⟩, ?_, fun i hi => ?_⟩
  · rw [List.getElem?_set_ne (by omega)]; exact g0
  · rw [List.getElem?_set_ne (by omega)]; exact g1
  · rw [List.getElem?_set_ne (by omega)]; exact g2
  · rw [List.getElem?_set_ne (by omega)]; exact g3
  · rw [List.getElem?_set_ne (by omega)]; exact g4
  · by_cases e : i = k
    · subst e
      rw [List.getElem?_set_self hl]
      show _ = some (x_ia 6 (if i = i then g else q_la Q i))
      rw [if_pos rfl]
    · rw [List.getElem?_set_ne (by omega)]
      show _ = some (x_ia 6 (if i = k then g else q_la Q i))
      rw [if_neg e]
      exact g5 i hi
theorem x_Night.laeq {h : xH} {c R P : Nat} {Q : xQ} {la : Nat → Nat → Int32} (H : x_Night h c R P Q) (e : ∀ k, k < 4 → q_la Q k = la k) : x_Night h c R P (q_setla Q la) := by
  obtain ⟨h2, g0, g1, g2, g3, g4, g5⟩ := H
  exact ⟨h2, g0, g1, g2, g3, g4, fun k hk => by show _ = some (x_ia 6 (la k)); rw [← e k hk]; exact g5 k hk⟩
theorem x_Night.oweq {h : xH} {c R P : Nat} {Q : xQ} {ow : Nat → Int32} (H : x_Night h c R P Q) (e : q_ow Q = ow) : x_Night h c R P (Q.1, Q.2.1, Q.2.2.1, Q.2.2.2.1, Q.2.2.2.2.1, Q.2.2.2.2.2.1, ow, Q.2.2.2.2.2.2.2) := by rw [← e]; exact H
def s_said (N R : Nat) (F : xF) (Q : xQ) (p k r : Nat) : Int32 := if decide (r < R) && s_reach N F Q p (q_pl Q p) (q_hr Q) k (s_wd Q k) r then nI (s_name F p k) else q_la Q k r
def s_sayst (N R : Nat) (F : xF) (Q : xQ) (p k r i j : Nat) : Int32 := if i < k ∨ (i = k ∧ j < r) then s_said N R F Q p i j else q_la Q i j
/-- a saying -/
def s_speak (N R : Nat) (F : xF) (Q : xQ) (p : Nat) : xQ := (Q.1, Q.2.1, Q.2.2.1 + 1, Q.2.2.2.1, Q.2.2.2.2.1, Q.2.2.2.2.2.1, Q.2.2.2.2.2.2.1, s_said N R F Q p)
def s_day (Q : xQ) : xQ := (Q.1, Q.2.1, Q.2.2.1, Q.2.2.2.1, Q.2.2.2.2.1, (fun _ => false), Q.2.2.2.2.2.2.1, (fun _ _ => -1))
/-- an hour passes -/
def s_pass (N R : Nat) (Q : xQ) : xQ := if q_hr Q + 1 < N then (Q.1 + 1, Q.2.1, Q.2.2.1, Q.2.2.2.1, Q.2.2.2.2.1, Q.2.2.2.2.2.1, Q.2.2.2.2.2.2.1, Q.2.2.2.2.2.2.2) else (0, Q.2.1 + 1, Q.2.2.1, Q.2.2.2.1, Q.2.2.2.2.1, (fun _ => false), (fun j => if j < R then s_will Q j 0 else Q.2.2.2.2.2.2.1 j), (fun _ _ => -1))
def s_owst (Q : xQ) (r j : Nat) : Int32 := if j < r then s_will Q j 0 else q_ow Q j
theorem c_Night_putOut {h : xH} {c R P : Nat} {Q : xQ} (HN : x_Night h c R P Q) {r : Nat} (hr : r < 6) : x_Met m_X2_putOut [.ref c, .int (nI r)] h (x_vd (fun h' => x_Night h' c R P (Q.1, Q.2.1, Q.2.2.1, Q.2.2.2.1, Q.2.2.2.2.1, (fun i => Q.2.2.2.2.2.1 i || decide (i = r)), Q.2.2.2.2.2.2.1, Q.2.2.2.2.2.2.2) ∧ x_fr h h' c 9)) := by
  obtain ⟨h2n, n0, ⟨f1, n1, n1e⟩, n2, ⟨f3, n3, n3e⟩, n4, n5⟩ := id HN
  refine x_Met.of (lo := [some (.ref c), some (.int (nI r))]) (by decide) rfl rfl rfl ?_
  refine R_aload_n dX2_putOut_0 rfl ?_
  refine R_dup dX2_putOut_1 rfl ?_
  refine R_get dX2_putOut_2 f_X2_21 n0 rfl ?_
  refine R_iconst (nI 1) dX2_putOut_5 rfl ?_
  refine R_iload_n dX2_putOut_6 rfl ?_
  refine R_ishl dX2_putOut_7 ?_
  refine R_ior dX2_putOut_8 ?_
  rw [s_add (Nat.le_refl 6) _ hr]
  refine R_put dX2_putOut_9 f_X2_21 n0 (Nat.le_of_ble_eq_true rfl) (fun _ => rfl) (fun _ => rfl) ?_
  exact R_vret dX2_putOut_12 rfl rfl rfl ⟨rfl, HN.obj _ _ _ _, (x_fr.rf h c 9).set _ (by omega) (by omega)⟩
theorem c_Night_lightAgain {h : xH} {c R P : Nat} {Q : xQ} (HN : x_Night h c R P Q) {r : Nat} (hr : r < 6) : x_Met m_X2_lightAgain [.ref c, .int (nI r)] h (x_vd (fun h' => x_Night h' c R P (Q.1, Q.2.1, Q.2.2.1, Q.2.2.2.1, Q.2.2.2.2.1, (fun i => Q.2.2.2.2.2.1 i && decide (¬ i = r)), Q.2.2.2.2.2.2.1, Q.2.2.2.2.2.2.2) ∧ x_fr h h' c 9)) := by
  obtain ⟨h2n, n0, ⟨f1, n1, n1e⟩, n2, ⟨f3, n3, n3e⟩, n4, n5⟩ := id HN
  refine x_Met.of (lo := [some (.ref c), some (.int (nI r))]) (by decide) rfl rfl rfl ?_
  refine R_aload_n dX2_lightAgain_0 rfl ?_
  refine R_dup dX2_lightAgain_1 rfl ?_
  refine R_get dX2_lightAgain_2 f_X2_21 n0 rfl ?_
  refine R_iconst (nI 1) dX2_lightAgain_5 rfl ?_
  refine R_iload_n dX2_lightAgain_6 rfl ?_
  refine R_ishl dX2_lightAgain_7 ?_
  refine R_iconst (-1) dX2_lightAgain_8 rfl ?_
  refine R_ixor dX2_lightAgain_9 ?_
  refine R_iand dX2_lightAgain_10 ?_
  rw [s_clear (Nat.le_refl 6) _ hr]
  refine R_put dX2_lightAgain_11 f_X2_21 n0 (Nat.le_of_ble_eq_true rfl) (fun _ => rfl) (fun _ => rfl) ?_
  exact R_vret dX2_lightAgain_14 rfl rfl rfl ⟨rfl, HN.obj _ _ _ _, (x_fr.rf h c 9).set _ (by omega) (by omega)⟩
theorem c_Night_clearNight_loop {h : xH} {c R P : Nat} {Q : xQ} : ∀ (n k : Nat), k ≤ 4 → 5 ≤ k + n → ∀ g : xH, x_Night g c R P (Q.1, Q.2.1, Q.2.2.1, Q.2.2.2.1, Q.2.2.2.2.1, (fun _ => false), Q.2.2.2.2.2.2.1, (fun i => if i < k then (fun _ => -1) else q_la Q i)) → x_fr h g c 9 → x_Rn m_X2_clearNight 7 [some (.ref c), some (.int (nI k))] [] g (0, 0) (x_vd (fun h' => x_Night h' c R P (s_day Q) ∧ x_fr h h' c 9)) := by
  intro n
  induction n with
  | zero => intro k h1 h3; omega
  | succ n ih =>
    intro k h1 h3 g HG FR
    obtain ⟨h2n, n0, ⟨f1, n1, n1e⟩, n2, ⟨f3, n3, n3e⟩, n4, n5⟩ := id HG
    refine R_iload_n dX2_clearNight_7 rfl ?_
    refine R_iconst (nI 4) dX2_clearNight_8 rfl ?_
    refine R_geN 28 dX2_clearNight_9 rfl (by omega) (by omega) (fun c_9 => ?_) (fun c_9 => ?_)
    · have e : k = 4 := by omega
      subst e
      exact R_vret dX2_clearNight_28 rfl rfl rfl ⟨rfl, HG.laeq (fun i hi => if_pos (by omega)), FR⟩
    · refine R_aload_n dX2_clearNight_12 rfl ?_
      refine R_get dX2_clearNight_13 f_X2_36 n0 rfl ?_
      refine R_iload_n dX2_clearNight_16 rfl ?_
      refine R_aald dX2_clearNight_17 n4 (by omega) (fun _ => rfl) rfl rfl (by omega) (by decide) (if_pos (by omega)) ?_
      refine R_iconst (-1) dX2_clearNight_18 rfl ?_
      refine R_cS2v (N := m_J7_fill_53178) dX2_clearNight_19 l_X2_51 i_J7_fill_53178 (c_fill (n5 k (by omega)) (by omega) (by omega) (-1)) rfl rfl (fun h19 q_19 => ?_)
      subst q_19
      have HG2 := HG.la (k := k) (by omega) (fun _ => -1)
      rw [show (fun i => if i = k then (fun _ => -1) else q_la (Q.1, Q.2.1, Q.2.2.1, Q.2.2.2.1, Q.2.2.2.2.1, (fun _ => false), Q.2.2.2.2.2.2.1, (fun i => if i < k then (fun _ => -1) else q_la Q i)) i) = (fun i => if i < k + 1 then (fun _ => -1) else q_la Q i) from funext (fun i => by
        show (if i = k then (fun _ => -1) else if i < k then (fun _ => -1) else q_la Q i) = if i < k + 1 then (fun _ => -1) else q_la Q i
        by_cases e : i = k
        · subst e; simp
        · have e1 : (i < k + 1) = (i < k) := by simp; omega
          simp [e, e1])] at HG2
      refine R_iincN dX2_clearNight_22 rfl (Nat.le_of_ble_eq_true rfl) rfl ?_
      refine R_goto 7 dX2_clearNight_25 rfl ?_
      exact ih (k + 1) (by omega) (by omega) _ HG2 (FR.set _ (by omega) (by omega))
theorem c_Night_clearNight {h : xH} {c R P : Nat} {Q : xQ} (HN : x_Night h c R P Q) : x_Met m_X2_clearNight [.ref c] h (x_vd (fun h' => x_Night h' c R P (s_day Q) ∧ x_fr h h' c 9)) := by
  obtain ⟨h2n, n0, ⟨f1, n1, n1e⟩, n2, ⟨f3, n3, n3e⟩, n4, n5⟩ := id HN
  refine x_Met.of (lo := [some (.ref c), none]) (by decide) rfl rfl rfl ?_
  refine R_aload_n dX2_clearNight_0 rfl ?_
  refine R_iconst (nI 0) dX2_clearNight_1 rfl ?_
  rw [s_none 6]
  refine R_put dX2_clearNight_2 f_X2_21 n0 (Nat.le_of_ble_eq_true rfl) (fun _ => rfl) (fun _ => rfl) ?_
  simp only [List.set_cons_succ, List.set_cons_zero]
  have HG := HN.obj (q_hr Q) (q_nt Q) (q_sy Q) (fun _ => false)
  refine R_iconst (nI 0) dX2_clearNight_5 rfl ?_
  refine R_istore_n dX2_clearNight_6 (Nat.le_of_ble_eq_true rfl) rfl ?_
  exact c_Night_clearNight_loop (Q := Q) 5 0 (by omega) (by omega) _ (HG.laeq (fun i hi => (if_neg (by omega)).symm)) ((x_fr.rf h c 9).set _ (by omega) (by omega))
end
