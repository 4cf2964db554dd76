section
/-- a private method of a class that the tables say can be made, by its rows of tables_1 -/
def lw_okq (q : MethodName × Nat) : Prop := (q.1.cls ≠ "java/lang/invoke/MethodHandle" ∧ q.1.cls ≠ "java/lang/invoke/VarHandle") ∧ Cond.instantiable q.1.cls q.2 ∈ tables_1 ∧ Cond.privateMethod q.1 ∈ tables_1 ∧ Cond.instanceMethod q.1 ∈ tables_1
theorem lw_p0 : lw_okq (⟨"LastSentence$Text", "skipBlanks", "()V"⟩, 5) := ⟨⟨by decide +kernel, by decide +kernel⟩, List.mem_of_getElem? (i := 23) (by decide +kernel), List.mem_of_getElem? (i := 310) (by decide +kernel), List.mem_of_getElem? (i := 311) (by decide +kernel)⟩
theorem lw_p1 : lw_okq (⟨"LastSentence$Text", "readClause", "(LLastSentence$House;)V"⟩, 5) := ⟨⟨by decide +kernel, by decide +kernel⟩, List.mem_of_getElem? (i := 23) (by decide +kernel), List.mem_of_getElem? (i := 314) (by decide +kernel), List.mem_of_getElem? (i := 315) (by decide +kernel)⟩
theorem lw_p2 : lw_okq (⟨"LastSentence$Text", "fail", "(II)V"⟩, 5) := ⟨⟨by decide +kernel, by decide +kernel⟩, List.mem_of_getElem? (i := 23) (by decide +kernel), List.mem_of_getElem? (i := 318) (by decide +kernel), List.mem_of_getElem? (i := 319) (by decide +kernel)⟩
theorem lw_p3 : lw_okq (⟨"LastSentence$Text", "readNight", "(LLastSentence$House;I)V"⟩, 5) := ⟨⟨by decide +kernel, by decide +kernel⟩, List.mem_of_getElem? (i := 23) (by decide +kernel), List.mem_of_getElem? (i := 322) (by decide +kernel), List.mem_of_getElem? (i := 323) (by decide +kernel)⟩
theorem lw_p4 : lw_okq (⟨"LastSentence$Text", "failIf", "(ZII)V"⟩, 5) := ⟨⟨by decide +kernel, by decide +kernel⟩, List.mem_of_getElem? (i := 23) (by decide +kernel), List.mem_of_getElem? (i := 326) (by decide +kernel), List.mem_of_getElem? (i := 327) (by decide +kernel)⟩
theorem lw_p5 : lw_okq (⟨"LastSentence$Text", "readNumber", "(II)I"⟩, 5) := ⟨⟨by decide +kernel, by decide +kernel⟩, List.mem_of_getElem? (i := 23) (by decide +kernel), List.mem_of_getElem? (i := 330) (by decide +kernel), List.mem_of_getElem? (i := 331) (by decide +kernel)⟩
theorem lw_p6 : lw_okq (⟨"LastSentence$Text", "readEnd", "()Z"⟩, 5) := ⟨⟨by decide +kernel, by decide +kernel⟩, List.mem_of_getElem? (i := 23) (by decide +kernel), List.mem_of_getElem? (i := 334) (by decide +kernel), List.mem_of_getElem? (i := 335) (by decide +kernel)⟩
theorem lw_p7 : lw_okq (⟨"LastSentence$Text", "readRoom", "(LLastSentence$House;I)V"⟩, 5) := ⟨⟨by decide +kernel, by decide +kernel⟩, List.mem_of_getElem? (i := 23) (by decide +kernel), List.mem_of_getElem? (i := 338) (by decide +kernel), List.mem_of_getElem? (i := 339) (by decide +kernel)⟩
theorem lw_p8 : lw_okq (⟨"LastSentence$Text", "readDoor", "(LLastSentence$House;I)V"⟩, 5) := ⟨⟨by decide +kernel, by decide +kernel⟩, List.mem_of_getElem? (i := 23) (by decide +kernel), List.mem_of_getElem? (i := 346) (by decide +kernel), List.mem_of_getElem? (i := 347) (by decide +kernel)⟩
theorem lw_p9 : lw_okq (⟨"LastSentence$Text", "readHeir", "(LLastSentence$House;I)V"⟩, 5) := ⟨⟨by decide +kernel, by decide +kernel⟩, List.mem_of_getElem? (i := 23) (by decide +kernel), List.mem_of_getElem? (i := 354) (by decide +kernel), List.mem_of_getElem? (i := 355) (by decide +kernel)⟩
theorem lw_p10 : lw_okq (⟨"LastSentence$House", "shorten", "([[IIII)V"⟩, 13) := ⟨⟨by decide +kernel, by decide +kernel⟩, List.mem_of_getElem? (i := 49) (by decide +kernel), List.mem_of_getElem? (i := 366) (by decide +kernel), List.mem_of_getElem? (i := 367) (by decide +kernel)⟩
theorem lw_p11 : lw_okq (⟨"LastSentence$House", "shortenByRoomsBetween", "([[I)V"⟩, 13) := ⟨⟨by decide +kernel, by decide +kernel⟩, List.mem_of_getElem? (i := 49) (by decide +kernel), List.mem_of_getElem? (i := 370) (by decide +kernel), List.mem_of_getElem? (i := 371) (by decide +kernel)⟩
theorem lw_p12 : lw_okq (⟨"LastSentence$Night", "clearNight", "()V"⟩, 8) := ⟨⟨by decide +kernel, by decide +kernel⟩, List.mem_of_getElem? (i := 126) (by decide +kernel), List.mem_of_getElem? (i := 384) (by decide +kernel), List.mem_of_getElem? (i := 385) (by decide +kernel)⟩
theorem lw_p13 : lw_okq (⟨"LastSentence", "forgetImages", "()V"⟩, 13) := ⟨⟨by decide +kernel, by decide +kernel⟩, List.mem_of_getElem? (i := 15) (by decide +kernel), List.mem_of_getElem? (i := 392) (by decide +kernel), List.mem_of_getElem? (i := 393) (by decide +kernel)⟩
theorem lw_p14 : lw_okq (⟨"LastSentence$Night", "isSure", "(I)Z"⟩, 8) := ⟨⟨by decide +kernel, by decide +kernel⟩, List.mem_of_getElem? (i := 126) (by decide +kernel), List.mem_of_getElem? (i := 420) (by decide +kernel), List.mem_of_getElem? (i := 421) (by decide +kernel)⟩
theorem lw_p15 : lw_okq (⟨"LastSentence", "refusalOfHours", "(I)I"⟩, 13) := ⟨⟨by decide +kernel, by decide +kernel⟩, List.mem_of_getElem? (i := 15) (by decide +kernel), List.mem_of_getElem? (i := 537) (by decide +kernel), List.mem_of_getElem? (i := 538) (by decide +kernel)⟩
def lw_privs_1 : List (MethodName × Nat) := [(⟨"LastSentence$Text", "skipBlanks", "()V"⟩, 5), (⟨"LastSentence$Text", "readClause", "(LLastSentence$House;)V"⟩, 5), (⟨"LastSentence$Text", "fail", "(II)V"⟩, 5), (⟨"LastSentence$Text", "readNight", "(LLastSentence$House;I)V"⟩, 5), (⟨"LastSentence$Text", "failIf", "(ZII)V"⟩, 5), (⟨"LastSentence$Text", "readNumber", "(II)I"⟩, 5), (⟨"LastSentence$Text", "readEnd", "()Z"⟩, 5), (⟨"LastSentence$Text", "readRoom", "(LLastSentence$House;I)V"⟩, 5), (⟨"LastSentence$Text", "readDoor", "(LLastSentence$House;I)V"⟩, 5), (⟨"LastSentence$Text", "readHeir", "(LLastSentence$House;I)V"⟩, 5), (⟨"LastSentence$House", "shorten", "([[IIII)V"⟩, 13), (⟨"LastSentence$House", "shortenByRoomsBetween", "([[I)V"⟩, 13), (⟨"LastSentence$Night", "clearNight", "()V"⟩, 8), (⟨"LastSentence", "forgetImages", "()V"⟩, 13), (⟨"LastSentence$Night", "isSure", "(I)Z"⟩, 8), (⟨"LastSentence", "refusalOfHours", "(I)I"⟩, 13)]
theorem lw_r1 : ∀ q ∈ lw_privs_1, lw_okq q := List.forall_mem_cons.mpr ⟨lw_p0, List.forall_mem_cons.mpr ⟨lw_p1, List.forall_mem_cons.mpr ⟨lw_p2, List.forall_mem_cons.mpr ⟨lw_p3, List.forall_mem_cons.mpr ⟨lw_p4, List.forall_mem_cons.mpr ⟨lw_p5, List.forall_mem_cons.mpr ⟨lw_p6, List.forall_mem_cons.mpr ⟨lw_p7, List.forall_mem_cons.mpr ⟨lw_p8, List.forall_mem_cons.mpr ⟨lw_p9, List.forall_mem_cons.mpr ⟨lw_p10, List.forall_mem_cons.mpr ⟨lw_p11, List.forall_mem_cons.mpr ⟨lw_p12, List.forall_mem_cons.mpr ⟨lw_p13, List.forall_mem_cons.mpr ⟨lw_p14, List.forall_mem_cons.mpr ⟨lw_p15, fun _ h => absurd h List.not_mem_nil⟩⟩⟩⟩⟩⟩⟩⟩⟩⟩⟩⟩⟩⟩⟩⟩
theorem lw_p16 : lw_okq (⟨"LastSentence", "actByDraw", "()V"⟩, 13) := ⟨⟨by decide +kernel, by decide +kernel⟩, List.mem_of_getElem? (i := 15) (by decide +kernel), List.mem_of_getElem? (i := 570) (by decide +kernel), List.mem_of_getElem? (i := 571) (by decide +kernel)⟩
theorem lw_p17 : lw_okq (⟨"LastSentence", "draw", "(I)I"⟩, 13) := ⟨⟨by decide +kernel, by decide +kernel⟩, List.mem_of_getElem? (i := 15) (by decide +kernel), List.mem_of_getElem? (i := 574) (by decide +kernel), List.mem_of_getElem? (i := 575) (by decide +kernel)⟩
theorem lw_p18 : lw_okq (⟨"LastSentence", "goByDraw", "(I)V"⟩, 13) := ⟨⟨by decide +kernel, by decide +kernel⟩, List.mem_of_getElem? (i := 15) (by decide +kernel), List.mem_of_getElem? (i := 582) (by decide +kernel), List.mem_of_getElem? (i := 583) (by decide +kernel)⟩
theorem lw_p19 : lw_okq (⟨"LastSentence$Planner", "missingOf", "(LLastSentence$House;LLastSentence$Night;II)I"⟩, 4) := ⟨⟨by decide +kernel, by decide +kernel⟩, List.mem_of_getElem? (i := 189) (by decide +kernel), List.mem_of_getElem? (i := 617) (by decide +kernel), List.mem_of_getElem? (i := 618) (by decide +kernel)⟩
theorem lw_p20 : lw_okq (⟨"LastSentence$Planner", "beginAtMorning", "(LLastSentence$House;I)V"⟩, 4) := ⟨⟨by decide +kernel, by decide +kernel⟩, List.mem_of_getElem? (i := 189) (by decide +kernel), List.mem_of_getElem? (i := 624) (by decide +kernel), List.mem_of_getElem? (i := 625) (by decide +kernel)⟩
theorem lw_p21 : lw_okq (⟨"LastSentence$Planner", "goOrStay", "(LLastSentence$House;I)V"⟩, 4) := ⟨⟨by decide +kernel, by decide +kernel⟩, List.mem_of_getElem? (i := 189) (by decide +kernel), List.mem_of_getElem? (i := 628) (by decide +kernel), List.mem_of_getElem? (i := 629) (by decide +kernel)⟩
theorem lw_p22 : lw_okq (⟨"LastSentence$Planner", "sayOrNot", "(III)V"⟩, 4) := ⟨⟨by decide +kernel, by decide +kernel⟩, List.mem_of_getElem? (i := 189) (by decide +kernel), List.mem_of_getElem? (i := 634) (by decide +kernel), List.mem_of_getElem? (i := 635) (by decide +kernel)⟩
theorem lw_p23 : lw_okq (⟨"LastSentence$Planner", "winnable", "(JI)J"⟩, 4) := ⟨⟨by decide +kernel, by decide +kernel⟩, List.mem_of_getElem? (i := 189) (by decide +kernel), List.mem_of_getElem? (i := 638) (by decide +kernel), List.mem_of_getElem? (i := 639) (by decide +kernel)⟩
theorem lw_p24 : lw_okq (⟨"LastSentence$Planner", "take", "(IIII)V"⟩, 4) := ⟨⟨by decide +kernel, by decide +kernel⟩, List.mem_of_getElem? (i := 189) (by decide +kernel), List.mem_of_getElem? (i := 644) (by decide +kernel), List.mem_of_getElem? (i := 645) (by decide +kernel)⟩
theorem lw_p25 : lw_okq (⟨"LastSentence$Seen", "fits", "(I)Z"⟩, 3) := ⟨⟨by decide +kernel, by decide +kernel⟩, List.mem_of_getElem? (i := 214) (by decide +kernel), List.mem_of_getElem? (i := 675) (by decide +kernel), List.mem_of_getElem? (i := 676) (by decide +kernel)⟩
theorem lw_p26 : lw_okq (⟨"LastSentence$Seen", "greaterPart", "(LLastSentence$House;LLastSentence$Night;II)I"⟩, 3) := ⟨⟨by decide +kernel, by decide +kernel⟩, List.mem_of_getElem? (i := 214) (by decide +kernel), List.mem_of_getElem? (i := 689) (by decide +kernel), List.mem_of_getElem? (i := 690) (by decide +kernel)⟩
theorem lw_p27 : lw_okq (⟨"LastSentenceModel", "readManor", "()V"⟩, 39) := ⟨⟨by decide +kernel, by decide +kernel⟩, List.mem_of_getElem? (i := 730) (by decide +kernel), List.mem_of_getElem? (i := 867) (by decide +kernel), List.mem_of_getElem? (i := 868) (by decide +kernel)⟩
theorem lw_p28 : lw_okq (⟨"LastSentenceModel", "skips", "()V"⟩, 39) := ⟨⟨by decide +kernel, by decide +kernel⟩, List.mem_of_getElem? (i := 730) (by decide +kernel), List.mem_of_getElem? (i := 871) (by decide +kernel), List.mem_of_getElem? (i := 872) (by decide +kernel)⟩
theorem lw_p29 : lw_okq (⟨"LastSentenceModel", "here", "()I"⟩, 39) := ⟨⟨by decide +kernel, by decide +kernel⟩, List.mem_of_getElem? (i := 730) (by decide +kernel), List.mem_of_getElem? (i := 875) (by decide +kernel), List.mem_of_getElem? (i := 876) (by decide +kernel)⟩
theorem lw_p30 : lw_okq (⟨"LastSentenceModel", "readClause", "()V"⟩, 39) := ⟨⟨by decide +kernel, by decide +kernel⟩, List.mem_of_getElem? (i := 730) (by decide +kernel), List.mem_of_getElem? (i := 879) (by decide +kernel), List.mem_of_getElem? (i := 880) (by decide +kernel)⟩
theorem lw_p31 : lw_okq (⟨"LastSentenceModel", "number", "(III)I"⟩, 39) := ⟨⟨by decide +kernel, by decide +kernel⟩, List.mem_of_getElem? (i := 730) (by decide +kernel), List.mem_of_getElem? (i := 883) (by decide +kernel), List.mem_of_getElem? (i := 884) (by decide +kernel)⟩
def lw_privs_2 : List (MethodName × Nat) := [(⟨"LastSentence", "actByDraw", "()V"⟩, 13), (⟨"LastSentence", "draw", "(I)I"⟩, 13), (⟨"LastSentence", "goByDraw", "(I)V"⟩, 13), (⟨"LastSentence$Planner", "missingOf", "(LLastSentence$House;LLastSentence$Night;II)I"⟩, 4), (⟨"LastSentence$Planner", "beginAtMorning", "(LLastSentence$House;I)V"⟩, 4), (⟨"LastSentence$Planner", "goOrStay", "(LLastSentence$House;I)V"⟩, 4), (⟨"LastSentence$Planner", "sayOrNot", "(III)V"⟩, 4), (⟨"LastSentence$Planner", "winnable", "(JI)J"⟩, 4), (⟨"LastSentence$Planner", "take", "(IIII)V"⟩, 4), (⟨"LastSentence$Seen", "fits", "(I)Z"⟩, 3), (⟨"LastSentence$Seen", "greaterPart", "(LLastSentence$House;LLastSentence$Night;II)I"⟩, 3), (⟨"LastSentenceModel", "readManor", "()V"⟩, 39), (⟨"LastSentenceModel", "skips", "()V"⟩, 39), (⟨"LastSentenceModel", "here", "()I"⟩, 39), (⟨"LastSentenceModel", "readClause", "()V"⟩, 39), (⟨"LastSentenceModel", "number", "(III)I"⟩, 39)]
theorem lw_r2 : ∀ q ∈ lw_privs_2, lw_okq q := List.forall_mem_cons.mpr ⟨lw_p16, List.forall_mem_cons.mpr ⟨lw_p17, List.forall_mem_cons.mpr ⟨lw_p18, List.forall_mem_cons.mpr ⟨lw_p19, List.forall_mem_cons.mpr ⟨lw_p20, List.forall_mem_cons.mpr ⟨lw_p21, List.forall_mem_cons.mpr ⟨lw_p22, List.forall_mem_cons.mpr ⟨lw_p23, List.forall_mem_cons.mpr ⟨lw_p24, List.forall_mem_cons.mpr ⟨lw_p25, List.forall_mem_cons.mpr ⟨lw_p26, List.forall_mem_cons.mpr ⟨lw_p27, List.forall_mem_cons.mpr ⟨lw_p28, List.forall_mem_cons.mpr ⟨lw_p29, List.forall_mem_cons.mpr ⟨lw_p30, List.forall_mem_cons.mpr ⟨lw_p31, fun _ h => absurd h List.not_mem_nil⟩⟩⟩⟩⟩⟩⟩⟩⟩⟩⟩⟩⟩⟩⟩⟩
theorem lw_p32 : lw_okq (⟨"LastSentenceModel", "fails", "(I)V"⟩, 39) := ⟨⟨by decide +kernel, by decide +kernel⟩, List.mem_of_getElem? (i := 730) (by decide +kernel), List.mem_of_getElem? (i := 887) (by decide +kernel), List.mem_of_getElem? (i := 888) (by decide +kernel)⟩
theorem lw_p33 : lw_okq (⟨"LastSentenceModel", "ends", "()V"⟩, 39) := ⟨⟨by decide +kernel, by decide +kernel⟩, List.mem_of_getElem? (i := 730) (by decide +kernel), List.mem_of_getElem? (i := 891) (by decide +kernel), List.mem_of_getElem? (i := 892) (by decide +kernel)⟩
theorem lw_p34 : lw_okq (⟨"LastSentenceModel", "readRoom", "()V"⟩, 39) := ⟨⟨by decide +kernel, by decide +kernel⟩, List.mem_of_getElem? (i := 730) (by decide +kernel), List.mem_of_getElem? (i := 895) (by decide +kernel), List.mem_of_getElem? (i := 896) (by decide +kernel)⟩
theorem lw_p35 : lw_okq (⟨"LastSentenceModel", "readDoor", "()V"⟩, 39) := ⟨⟨by decide +kernel, by decide +kernel⟩, List.mem_of_getElem? (i := 730) (by decide +kernel), List.mem_of_getElem? (i := 899) (by decide +kernel), List.mem_of_getElem? (i := 900) (by decide +kernel)⟩
theorem lw_p36 : lw_okq (⟨"LastSentenceModel", "readHeir", "()V"⟩, 39) := ⟨⟨by decide +kernel, by decide +kernel⟩, List.mem_of_getElem? (i := 730) (by decide +kernel), List.mem_of_getElem? (i := 903) (by decide +kernel), List.mem_of_getElem? (i := 904) (by decide +kernel)⟩
theorem lw_p37 : lw_okq (⟨"LastSentenceModel", "laysWalls", "()V"⟩, 39) := ⟨⟨by decide +kernel, by decide +kernel⟩, List.mem_of_getElem? (i := 730) (by decide +kernel), List.mem_of_getElem? (i := 910) (by decide +kernel), List.mem_of_getElem? (i := 911) (by decide +kernel)⟩
theorem lw_p38 : lw_okq (⟨"LastSentenceModel", "passes", "(III)V"⟩, 39) := ⟨⟨by decide +kernel, by decide +kernel⟩, List.mem_of_getElem? (i := 730) (by decide +kernel), List.mem_of_getElem? (i := 914) (by decide +kernel), List.mem_of_getElem? (i := 915) (by decide +kernel)⟩
theorem lw_p39 : lw_okq (⟨"LastSentenceModel", "litOf", "()I"⟩, 39) := ⟨⟨by decide +kernel, by decide +kernel⟩, List.mem_of_getElem? (i := 730) (by decide +kernel), List.mem_of_getElem? (i := 926) (by decide +kernel), List.mem_of_getElem? (i := 927) (by decide +kernel)⟩
theorem lw_p40 : lw_okq (⟨"LastSentenceModel", "isLit", "([III)Z"⟩, 39) := ⟨⟨by decide +kernel, by decide +kernel⟩, List.mem_of_getElem? (i := 730) (by decide +kernel), List.mem_of_getElem? (i := 930) (by decide +kernel), List.mem_of_getElem? (i := 931) (by decide +kernel)⟩
theorem lw_p41 : lw_okq (⟨"LastSentenceModel", "sureOnes", "()I"⟩, 39) := ⟨⟨by decide +kernel, by decide +kernel⟩, List.mem_of_getElem? (i := 730) (by decide +kernel), List.mem_of_getElem? (i := 934) (by decide +kernel), List.mem_of_getElem? (i := 935) (by decide +kernel)⟩
theorem lw_p42 : lw_okq (⟨"LastSentenceModel", "willBy", "(II)I"⟩, 39) := ⟨⟨by decide +kernel, by decide +kernel⟩, List.mem_of_getElem? (i := 730) (by decide +kernel), List.mem_of_getElem? (i := 938) (by decide +kernel), List.mem_of_getElem? (i := 939) (by decide +kernel)⟩
theorem lw_p43 : lw_okq (⟨"LastSentenceModel", "holder", "()I"⟩, 39) := ⟨⟨by decide +kernel, by decide +kernel⟩, List.mem_of_getElem? (i := 730) (by decide +kernel), List.mem_of_getElem? (i := 942) (by decide +kernel), List.mem_of_getElem? (i := 943) (by decide +kernel)⟩
theorem lw_p44 : lw_okq (⟨"LastSentenceModel", "hasRooms", "(I)I"⟩, 39) := ⟨⟨by decide +kernel, by decide +kernel⟩, List.mem_of_getElem? (i := 730) (by decide +kernel), List.mem_of_getElem? (i := 946) (by decide +kernel), List.mem_of_getElem? (i := 947) (by decide +kernel)⟩
theorem lw_p45 : lw_okq (⟨"LastSentenceModel", "isRoom", "(I)Z"⟩, 39) := ⟨⟨by decide +kernel, by decide +kernel⟩, List.mem_of_getElem? (i := 730) (by decide +kernel), List.mem_of_getElem? (i := 957) (by decide +kernel), List.mem_of_getElem? (i := 958) (by decide +kernel)⟩
theorem lw_p46 : lw_okq (⟨"LastSentenceModel", "worthOf", "(I)I"⟩, 39) := ⟨⟨by decide +kernel, by decide +kernel⟩, List.mem_of_getElem? (i := 730) (by decide +kernel), List.mem_of_getElem? (i := 962) (by decide +kernel), List.mem_of_getElem? (i := 963) (by decide +kernel)⟩
theorem lw_p47 : lw_okq (⟨"LastSentenceModel", "hearsFrom", "(II)I"⟩, 39) := ⟨⟨by decide +kernel, by decide +kernel⟩, List.mem_of_getElem? (i := 730) (by decide +kernel), List.mem_of_getElem? (i := 966) (by decide +kernel), List.mem_of_getElem? (i := 967) (by decide +kernel)⟩
def lw_privs_3 : List (MethodName × Nat) := [(⟨"LastSentenceModel", "fails", "(I)V"⟩, 39), (⟨"LastSentenceModel", "ends", "()V"⟩, 39), (⟨"LastSentenceModel", "readRoom", "()V"⟩, 39), (⟨"LastSentenceModel", "readDoor", "()V"⟩, 39), (⟨"LastSentenceModel", "readHeir", "()V"⟩, 39), (⟨"LastSentenceModel", "laysWalls", "()V"⟩, 39), (⟨"LastSentenceModel", "passes", "(III)V"⟩, 39), (⟨"LastSentenceModel", "litOf", "()I"⟩, 39), (⟨"LastSentenceModel", "isLit", "([III)Z"⟩, 39), (⟨"LastSentenceModel", "sureOnes", "()I"⟩, 39), (⟨"LastSentenceModel", "willBy", "(II)I"⟩, 39), (⟨"LastSentenceModel", "holder", "()I"⟩, 39), (⟨"LastSentenceModel", "hasRooms", "(I)I"⟩, 39), (⟨"LastSentenceModel", "isRoom", "(I)Z"⟩, 39), (⟨"LastSentenceModel", "worthOf", "(I)I"⟩, 39), (⟨"LastSentenceModel", "hearsFrom", "(II)I"⟩, 39)]
theorem lw_r3 : ∀ q ∈ lw_privs_3, lw_okq q := List.forall_mem_cons.mpr ⟨lw_p32, List.forall_mem_cons.mpr ⟨lw_p33, List.forall_mem_cons.mpr ⟨lw_p34, List.forall_mem_cons.mpr ⟨lw_p35, List.forall_mem_cons.mpr ⟨lw_p36, List.forall_mem_cons.mpr ⟨lw_p37, List.forall_mem_cons.mpr ⟨lw_p38, List.forall_mem_cons.mpr ⟨lw_p39, List.forall_mem_cons.mpr ⟨lw_p40, List.forall_mem_cons.mpr ⟨lw_p41, List.forall_mem_cons.mpr ⟨lw_p42, List.forall_mem_cons.mpr ⟨lw_p43, List.forall_mem_cons.mpr ⟨lw_p44, List.forall_mem_cons.mpr ⟨lw_p45, List.forall_mem_cons.mpr ⟨lw_p46, List.forall_mem_cons.mpr ⟨lw_p47, fun _ h => absurd h List.not_mem_nil⟩⟩⟩⟩⟩⟩⟩⟩⟩⟩⟩⟩⟩⟩⟩⟩
theorem lw_p48 : lw_okq (⟨"LastSentenceModel", "isDoor", "(I)Z"⟩, 39) := ⟨⟨by decide +kernel, by decide +kernel⟩, List.mem_of_getElem? (i := 730) (by decide +kernel), List.mem_of_getElem? (i := 977) (by decide +kernel), List.mem_of_getElem? (i := 978) (by decide +kernel)⟩
theorem lw_p49 : lw_okq (⟨"LastSentenceModel", "isHeir", "(I)Z"⟩, 39) := ⟨⟨by decide +kernel, by decide +kernel⟩, List.mem_of_getElem? (i := 730) (by decide +kernel), List.mem_of_getElem? (i := 985) (by decide +kernel), List.mem_of_getElem? (i := 986) (by decide +kernel)⟩
theorem lw_p50 : lw_okq (⟨"LastSentenceModel", "countsOf", "(I)I"⟩, 39) := ⟨⟨by decide +kernel, by decide +kernel⟩, List.mem_of_getElem? (i := 730) (by decide +kernel), List.mem_of_getElem? (i := 989) (by decide +kernel), List.mem_of_getElem? (i := 990) (by decide +kernel)⟩
theorem lw_p51 : lw_okq (⟨"LastSentenceModel", "wordedOf", "(I)I"⟩, 39) := ⟨⟨by decide +kernel, by decide +kernel⟩, List.mem_of_getElem? (i := 730) (by decide +kernel), List.mem_of_getElem? (i := 993) (by decide +kernel), List.mem_of_getElem? (i := 994) (by decide +kernel)⟩
theorem lw_p52 : lw_okq (⟨"LastSentenceModel", "countsIn", "(IIIII)I"⟩, 39) := ⟨⟨by decide +kernel, by decide +kernel⟩, List.mem_of_getElem? (i := 730) (by decide +kernel), List.mem_of_getElem? (i := 997) (by decide +kernel), List.mem_of_getElem? (i := 998) (by decide +kernel)⟩
theorem lw_p53 : lw_okq (⟨"LastSentenceModel", "whoseOf", "(II)I"⟩, 39) := ⟨⟨by decide +kernel, by decide +kernel⟩, List.mem_of_getElem? (i := 730) (by decide +kernel), List.mem_of_getElem? (i := 1001) (by decide +kernel), List.mem_of_getElem? (i := 1002) (by decide +kernel)⟩
theorem lw_p54 : lw_okq (⟨"LastSentenceModel", "notes", "()V"⟩, 39) := ⟨⟨by decide +kernel, by decide +kernel⟩, List.mem_of_getElem? (i := 730) (by decide +kernel), List.mem_of_getElem? (i := 1010) (by decide +kernel), List.mem_of_getElem? (i := 1011) (by decide +kernel)⟩
theorem lw_p55 : lw_okq (⟨"LastSentenceModel", "says", "(I)V"⟩, 39) := ⟨⟨by decide +kernel, by decide +kernel⟩, List.mem_of_getElem? (i := 730) (by decide +kernel), List.mem_of_getElem? (i := 1014) (by decide +kernel), List.mem_of_getElem? (i := 1015) (by decide +kernel)⟩
theorem lw_p56 : lw_okq (⟨"LastSentenceModel", "behind", "(II)I"⟩, 39) := ⟨⟨by decide +kernel, by decide +kernel⟩, List.mem_of_getElem? (i := 730) (by decide +kernel), List.mem_of_getElem? (i := 1022) (by decide +kernel), List.mem_of_getElem? (i := 1023) (by decide +kernel)⟩
theorem lw_p57 : lw_okq (⟨"LastSentenceModel", "hourOn", "()V"⟩, 39) := ⟨⟨by decide +kernel, by decide +kernel⟩, List.mem_of_getElem? (i := 730) (by decide +kernel), List.mem_of_getElem? (i := 1031) (by decide +kernel), List.mem_of_getElem? (i := 1032) (by decide +kernel)⟩
theorem lw_p58 : lw_okq (⟨"LastSentenceModel", "drawn", "()V"⟩, 39) := ⟨⟨by decide +kernel, by decide +kernel⟩, List.mem_of_getElem? (i := 730) (by decide +kernel), List.mem_of_getElem? (i := 1051) (by decide +kernel), List.mem_of_getElem? (i := 1052) (by decide +kernel)⟩
theorem lw_p59 : lw_okq (⟨"LastSentenceModel", "draw", "(I)I"⟩, 39) := ⟨⟨by decide +kernel, by decide +kernel⟩, List.mem_of_getElem? (i := 730) (by decide +kernel), List.mem_of_getElem? (i := 1055) (by decide +kernel), List.mem_of_getElem? (i := 1056) (by decide +kernel)⟩
theorem lw_p60 : lw_okq (⟨"LastSentenceModel", "wonOf", "(I)I"⟩, 39) := ⟨⟨by decide +kernel, by decide +kernel⟩, List.mem_of_getElem? (i := 730) (by decide +kernel), List.mem_of_getElem? (i := 1079) (by decide +kernel), List.mem_of_getElem? (i := 1080) (by decide +kernel)⟩
theorem lw_p61 : lw_okq (⟨"LastSentenceModel", "laysFew", "(II)V"⟩, 39) := ⟨⟨by decide +kernel, by decide +kernel⟩, List.mem_of_getElem? (i := 730) (by decide +kernel), List.mem_of_getElem? (i := 1083) (by decide +kernel), List.mem_of_getElem? (i := 1084) (by decide +kernel)⟩
theorem lw_p62 : lw_okq (⟨"LastSentenceModel", "goesOn", "(III)I"⟩, 39) := ⟨⟨by decide +kernel, by decide +kernel⟩, List.mem_of_getElem? (i := 730) (by decide +kernel), List.mem_of_getElem? (i := 1090) (by decide +kernel), List.mem_of_getElem? (i := 1091) (by decide +kernel)⟩
theorem lw_p63 : lw_okq (⟨"LastSentenceModel", "saysIn", "(IIII)I"⟩, 39) := ⟨⟨by decide +kernel, by decide +kernel⟩, List.mem_of_getElem? (i := 730) (by decide +kernel), List.mem_of_getElem? (i := 1094) (by decide +kernel), List.mem_of_getElem? (i := 1095) (by decide +kernel)⟩
def lw_privs_4 : List (MethodName × Nat) := [(⟨"LastSentenceModel", "isDoor", "(I)Z"⟩, 39), (⟨"LastSentenceModel", "isHeir", "(I)Z"⟩, 39), (⟨"LastSentenceModel", "countsOf", "(I)I"⟩, 39), (⟨"LastSentenceModel", "wordedOf", "(I)I"⟩, 39), (⟨"LastSentenceModel", "countsIn", "(IIIII)I"⟩, 39), (⟨"LastSentenceModel", "whoseOf", "(II)I"⟩, 39), (⟨"LastSentenceModel", "notes", "()V"⟩, 39), (⟨"LastSentenceModel", "says", "(I)V"⟩, 39), (⟨"LastSentenceModel", "behind", "(II)I"⟩, 39), (⟨"LastSentenceModel", "hourOn", "()V"⟩, 39), (⟨"LastSentenceModel", "drawn", "()V"⟩, 39), (⟨"LastSentenceModel", "draw", "(I)I"⟩, 39), (⟨"LastSentenceModel", "wonOf", "(I)I"⟩, 39), (⟨"LastSentenceModel", "laysFew", "(II)V"⟩, 39), (⟨"LastSentenceModel", "goesOn", "(III)I"⟩, 39), (⟨"LastSentenceModel", "saysIn", "(IIII)I"⟩, 39)]
theorem lw_r4 : ∀ q ∈ lw_privs_4, lw_okq q := List.forall_mem_cons.mpr ⟨lw_p48, List.forall_mem_cons.mpr ⟨lw_p49, List.forall_mem_cons.mpr ⟨lw_p50, List.forall_mem_cons.mpr ⟨lw_p51, List.forall_mem_cons.mpr ⟨lw_p52, List.forall_mem_cons.mpr ⟨lw_p53, List.forall_mem_cons.mpr ⟨lw_p54, List.forall_mem_cons.mpr ⟨lw_p55, List.forall_mem_cons.mpr ⟨lw_p56, List.forall_mem_cons.mpr ⟨lw_p57, List.forall_mem_cons.mpr ⟨lw_p58, List.forall_mem_cons.mpr ⟨lw_p59, List.forall_mem_cons.mpr ⟨lw_p60, List.forall_mem_cons.mpr ⟨lw_p61, List.forall_mem_cons.mpr ⟨lw_p62, List.forall_mem_cons.mpr ⟨lw_p63, fun _ h => absurd h List.not_mem_nil⟩⟩⟩⟩⟩⟩⟩⟩⟩⟩⟩⟩⟩⟩⟩⟩
theorem lw_p64 : lw_okq (⟨"LastSentenceModel", "latestOf", "(III)I"⟩, 39) := ⟨⟨by decide +kernel, by decide +kernel⟩, List.mem_of_getElem? (i := 730) (by decide +kernel), List.mem_of_getElem? (i := 1098) (by decide +kernel), List.mem_of_getElem? (i := 1099) (by decide +kernel)⟩
def lw_privs_5 : List (MethodName × Nat) := [(⟨"LastSentenceModel", "latestOf", "(III)I"⟩, 39)]
theorem lw_r5 : ∀ q ∈ lw_privs_5, lw_okq q := List.forall_mem_cons.mpr ⟨lw_p64, fun _ h => absurd h List.not_mem_nil⟩
def lw_privs : List (MethodName × Nat) := lw_privs_1 ++ (lw_privs_2 ++ (lw_privs_3 ++ (lw_privs_4 ++ (lw_privs_5))))
def lw_tbl : List Cond := k2_sels lw_privs ++ tables_1
theorem lw_privs_ok : ∀ q ∈ lw_privs, lw_okq q := by
  show ∀ q ∈ lw_privs_1 ++ (lw_privs_2 ++ (lw_privs_3 ++ (lw_privs_4 ++ (lw_privs_5)))), lw_okq q
  exact List.forall_mem_append.mpr ⟨lw_r1, List.forall_mem_append.mpr ⟨lw_r2, List.forall_mem_append.mpr ⟨lw_r3, List.forall_mem_append.mpr ⟨lw_r4, lw_r5⟩⟩⟩⟩
end
section
def RX0 : String := "LastSentence$Book"
def TX0 : u_T := fun k => match k with
  | 0 => ("LastSentence$Book", "count", "I", false)
  | 1 => ("LastSentence$Book", "rooms", "[I", true)
  | _ => ("LastSentence$Book", "heirs", "[I", true)
def tyX0 : Nat → FieldType := fun k => match k with
  | 0 => .int
  | 1 => .array .int
  | _ => .array .int
theorem nmX0 : ∀ a, a < 3 → ∀ b, b < 3 → a ≠ b → (TX0 a).2.1 ≠ (TX0 b).2.1 := by decide +kernel
theorem tyX0_ok : ∀ k, k < 3 → parseFieldDescriptor (TX0 k).2.2.1 = some (tyX0 k) := by decide +kernel
abbrev cX0_init : ByteArray := prog_2_method_1_code
def yX0_init : MethodName := ⟨RX0, "<init>", "()V"⟩
abbrev cX0_append : ByteArray := prog_2_method_2_code
def yX0_append : MethodName := ⟨RX0, "append", "(II)Z"⟩
abbrev cX0_firstWrong : ByteArray := prog_2_method_3_code
def yX0_firstWrong : MethodName := ⟨RX0, "firstWrong", "(LLastSentence$Night;)I"⟩
def RX1 : String := "LastSentence$House"
def TX1 : u_T := fun k => match k with
  | 0 => ("LastSentence$House", "nightHours", "I", false)
  | 1 => ("LastSentence$House", "rooms", "I", false)
  | 2 => ("LastSentence$House", "doors", "I", false)
  | 3 => ("LastSentence$House", "heirs", "I", false)
  | 4 => ("LastSentence$House", "burns", "[I", true)
  | 5 => ("LastSentence$House", "oneSide", "[I", true)
  | 6 => ("LastSentence$House", "otherSide", "[I", true)
  | 7 => ("LastSentence$House", "thick", "[I", true)
  | 8 => ("LastSentence$House", "kind", "[I", true)
  | 9 => ("LastSentence$House", "voice", "[I", true)
  | 10 => ("LastSentence$House", "start", "[I", true)
  | 11 => ("LastSentence$House", "walls", "[[I", true)
  | _ => ("LastSentence$House", "ways", "[[I", true)
def tyX1 : Nat → FieldType := fun k => match k with
  | 0 => .int
  | 1 => .int
  | 2 => .int
  | 3 => .int
  | 4 => .array .int
  | 5 => .array .int
  | 6 => .array .int
  | 7 => .array .int
  | 8 => .array .int
  | 9 => .array .int
  | 10 => .array .int
  | 11 => .array (.array .int)
  | _ => .array (.array .int)
theorem nmX1 : ∀ a, a < 13 → ∀ b, b < 13 → a ≠ b → (TX1 a).2.1 ≠ (TX1 b).2.1 := by decide +kernel
theorem tyX1_ok : ∀ k, k < 13 → parseFieldDescriptor (TX1 k).2.2.1 = some (tyX1 k) := by decide +kernel
abbrev cX1_init : ByteArray := prog_3_method_1_code
def yX1_init : MethodName := ⟨RX1, "<init>", "()V"⟩
abbrev cX1_empty : ByteArray := prog_3_method_2_code
def yX1_empty : MethodName := ⟨RX1, "empty", "()V"⟩
abbrev cX1_addRoom : ByteArray := prog_3_method_3_code
def yX1_addRoom : MethodName := ⟨RX1, "addRoom", "(I)V"⟩
abbrev cX1_addDoor : ByteArray := prog_3_method_4_code
def yX1_addDoor : MethodName := ⟨RX1, "addDoor", "(III)V"⟩
abbrev cX1_addHeir : ByteArray := prog_3_method_5_code
def yX1_addHeir : MethodName := ⟨RX1, "addHeir", "(III)V"⟩
abbrev cX1_hasRoom : ByteArray := prog_3_method_6_code
def yX1_hasRoom : MethodName := ⟨RX1, "hasRoom", "(I)Z"⟩
abbrev cX1_hasRooms : ByteArray := prog_3_method_7_code
def yX1_hasRooms : MethodName := ⟨RX1, "hasRooms", "(I)Z"⟩
abbrev cX1_hasDoor : ByteArray := prog_3_method_8_code
def yX1_hasDoor : MethodName := ⟨RX1, "hasDoor", "(I)Z"⟩
abbrev cX1_hasHeir : ByteArray := prog_3_method_9_code
def yX1_hasHeir : MethodName := ⟨RX1, "hasHeir", "(I)Z"⟩
abbrev cX1_behind : ByteArray := prog_3_method_10_code
def yX1_behind : MethodName := ⟨RX1, "behind", "(II)I"⟩
abbrev cX1_isEarly : ByteArray := prog_3_method_11_code
def yX1_isEarly : MethodName := ⟨RX1, "isEarly", "(I)Z"⟩
abbrev cX1_nameOf : ByteArray := prog_3_method_12_code
def yX1_nameOf : MethodName := ⟨RX1, "nameOf", "(II)I"⟩
abbrev cX1_isHeard : ByteArray := prog_3_method_13_code
def yX1_isHeard : MethodName := ⟨RX1, "isHeard", "(III)Z"⟩
abbrev cX1_heardFrom : ByteArray := prog_3_method_14_code
def yX1_heardFrom : MethodName := ⟨RX1, "heardFrom", "(II)I"⟩
abbrev cX1_measure : ByteArray := prog_3_method_15_code
def yX1_measure : MethodName := ⟨RX1, "measure", "()V"⟩
abbrev cX1_shorten : ByteArray := prog_3_method_16_code
def yX1_shorten : MethodName := ⟨RX1, "shorten", "([[IIII)V"⟩
abbrev cX1_shortenByRoomsBetween : ByteArray := prog_3_method_17_code
def yX1_shortenByRoomsBetween : MethodName := ⟨RX1, "shortenByRoomsBetween", "([[I)V"⟩
def RX2 : String := "LastSentence$Night"
def TX2 : u_T := fun k => match k with
  | 0 => ("LastSentence$Night", "hours", "I", false)
  | 1 => ("LastSentence$Night", "nights", "I", false)
  | 2 => ("LastSentence$Night", "sayings", "I", false)
  | 3 => ("LastSentence$Night", "outs", "I", false)
  | 4 => ("LastSentence$Night", "burns", "[I", true)
  | 5 => ("LastSentence$Night", "owner", "[I", true)
  | 6 => ("LastSentence$Night", "place", "[I", true)
  | _ => ("LastSentence$Night", "last", "[[I", true)
def tyX2 : Nat → FieldType := fun k => match k with
  | 0 => .int
  | 1 => .int
  | 2 => .int
  | 3 => .int
  | 4 => .array .int
  | 5 => .array .int
  | 6 => .array .int
  | _ => .array (.array .int)
theorem nmX2 : ∀ a, a < 8 → ∀ b, b < 8 → a ≠ b → (TX2 a).2.1 ≠ (TX2 b).2.1 := by decide +kernel
theorem tyX2_ok : ∀ k, k < 8 → parseFieldDescriptor (TX2 k).2.2.1 = some (tyX2 k) := by decide +kernel
abbrev cX2_init : ByteArray := prog_4_method_1_code
def yX2_init : MethodName := ⟨RX2, "<init>", "()V"⟩
abbrev cX2_begin : ByteArray := prog_4_method_2_code
def yX2_begin : MethodName := ⟨RX2, "begin", "(LLastSentence$House;)V"⟩
abbrev cX2_copyFrom : ByteArray := prog_4_method_3_code
def yX2_copyFrom : MethodName := ⟨RX2, "copyFrom", "(LLastSentence$Night;)V"⟩
abbrev cX2_clearNight : ByteArray := prog_4_method_4_code
def yX2_clearNight : MethodName := ⟨RX2, "clearNight", "()V"⟩
abbrev cX2_passHour : ByteArray := prog_4_method_5_code
def yX2_passHour : MethodName := ⟨RX2, "passHour", "(LLastSentence$House;)V"⟩
abbrev cX2_isOut : ByteArray := prog_4_method_6_code
def yX2_isOut : MethodName := ⟨RX2, "isOut", "(I)Z"⟩
abbrev cX2_putOut : ByteArray := prog_4_method_7_code
def yX2_putOut : MethodName := ⟨RX2, "putOut", "(I)V"⟩
abbrev cX2_lightAgain : ByteArray := prog_4_method_8_code
def yX2_lightAgain : MethodName := ⟨RX2, "lightAgain", "(I)V"⟩
abbrev cX2_isLitAt : ByteArray := prog_4_method_9_code
def yX2_isLitAt : MethodName := ⟨RX2, "isLitAt", "(II)Z"⟩
abbrev cX2_litAt : ByteArray := prog_4_method_10_code
def yX2_litAt : MethodName := ⟨RX2, "litAt", "(LLastSentence$House;I)I"⟩
abbrev cX2_hears : ByteArray := prog_4_method_11_code
def yX2_hears : MethodName := ⟨RX2, "hears", "(LLastSentence$House;I)I"⟩
abbrev cX2_reached : ByteArray := prog_4_method_12_code
def yX2_reached : MethodName := ⟨RX2, "reached", "(LLastSentence$House;IIII)I"⟩
abbrev cX2_counts : ByteArray := prog_4_method_13_code
def yX2_counts : MethodName := ⟨RX2, "counts", "(LLastSentence$House;I)I"⟩
abbrev cX2_speak : ByteArray := prog_4_method_14_code
def yX2_speak : MethodName := ⟨RX2, "speak", "(LLastSentence$House;I)V"⟩
abbrev cX2_will : ByteArray := prog_4_method_15_code
def yX2_will : MethodName := ⟨RX2, "will", "(II)I"⟩
abbrev cX2_sure : ByteArray := prog_4_method_16_code
def yX2_sure : MethodName := ⟨RX2, "sure", "(LLastSentence$House;)I"⟩
abbrev cX2_isSure : ByteArray := prog_4_method_17_code
def yX2_isSure : MethodName := ⟨RX2, "isSure", "(I)Z"⟩
abbrev cX2_worth : ByteArray := prog_4_method_18_code
def yX2_worth : MethodName := ⟨RX2, "worth", "(LLastSentence$House;I)I"⟩
abbrev cX2_holdings : ByteArray := prog_4_method_19_code
def yX2_holdings : MethodName := ⟨RX2, "holdings", "(LLastSentence$House;I)I"⟩
abbrev cX2_holder : ByteArray := prog_4_method_20_code
def yX2_holder : MethodName := ⟨RX2, "holder", "(LLastSentence$House;)I"⟩
def RX3 : String := "LastSentence$Planner"
def TX3 : u_T := fun k => match k with
  | 0 => ("LastSentence$Planner", "fewestSayings", "I", false)
  | 1 => ("LastSentence$Planner", "latestHour", "I", false)
  | 2 => ("LastSentence$Planner", "before", "[[J", true)
  | _ => ("LastSentence$Planner", "between", "[[J", true)
def tyX3 : Nat → FieldType := fun k => match k with
  | 0 => .int
  | 1 => .int
  | 2 => .array (.array .long)
  | _ => .array (.array .long)
theorem nmX3 : ∀ a, a < 4 → ∀ b, b < 4 → a ≠ b → (TX3 a).2.1 ≠ (TX3 b).2.1 := by decide +kernel
theorem tyX3_ok : ∀ k, k < 4 → parseFieldDescriptor (TX3 k).2.2.1 = some (tyX3 k) := by decide +kernel
abbrev cX3_init : ByteArray := prog_5_method_1_code
def yX3_init : MethodName := ⟨RX3, "<init>", "()V"⟩
abbrev cX3_plan : ByteArray := prog_5_method_2_code
def yX3_plan : MethodName := ⟨RX3, "plan", "(LLastSentence$House;LLastSentence$Night;II)V"⟩
abbrev cX3_missingOf : ByteArray := prog_5_method_3_code
def yX3_missingOf : MethodName := ⟨RX3, "missingOf", "(LLastSentence$House;LLastSentence$Night;II)I"⟩
abbrev cX3_beginAtMorning : ByteArray := prog_5_method_4_code
def yX3_beginAtMorning : MethodName := ⟨RX3, "beginAtMorning", "(LLastSentence$House;I)V"⟩
abbrev cX3_goOrStay : ByteArray := prog_5_method_5_code
def yX3_goOrStay : MethodName := ⟨RX3, "goOrStay", "(LLastSentence$House;I)V"⟩
abbrev cX3_sayOrNot : ByteArray := prog_5_method_6_code
def yX3_sayOrNot : MethodName := ⟨RX3, "sayOrNot", "(III)V"⟩
abbrev cX3_winnable : ByteArray := prog_5_method_7_code
def yX3_winnable : MethodName := ⟨RX3, "winnable", "(JI)J"⟩
abbrev cX3_take : ByteArray := prog_5_method_8_code
def yX3_take : MethodName := ⟨RX3, "take", "(IIII)V"⟩
def RX4 : String := "LastSentence$Seen"
def TX4 : u_T := fun k => match k with
  | 0 => ("LastSentence$Seen", "count", "I", false)
  | 1 => ("LastSentence$Seen", "rooms", "[I", true)
  | _ => ("LastSentence$Seen", "heard", "[Z", true)
def tyX4 : Nat → FieldType := fun k => match k with
  | 0 => .int
  | 1 => .array .int
  | _ => .array .boolean
theorem nmX4 : ∀ a, a < 3 → ∀ b, b < 3 → a ≠ b → (TX4 a).2.1 ≠ (TX4 b).2.1 := by decide +kernel
theorem tyX4_ok : ∀ k, k < 3 → parseFieldDescriptor (TX4 k).2.2.1 = some (tyX4 k) := by decide +kernel
abbrev cX4_init : ByteArray := prog_6_method_1_code
def yX4_init : MethodName := ⟨RX4, "<init>", "()V"⟩
abbrev cX4_append : ByteArray := prog_6_method_2_code
def yX4_append : MethodName := ⟨RX4, "append", "(IZ)Z"⟩
abbrev cX4_suspects : ByteArray := prog_6_method_3_code
def yX4_suspects : MethodName := ⟨RX4, "suspects", "(LLastSentence$House;LLastSentence$Night;)I"⟩
abbrev cX4_fits : ByteArray := prog_6_method_4_code
def yX4_fits : MethodName := ⟨RX4, "fits", "(I)Z"⟩
abbrev cX4_bestRoom : ByteArray := prog_6_method_5_code
def yX4_bestRoom : MethodName := ⟨RX4, "bestRoom", "(LLastSentence$House;LLastSentence$Night;)I"⟩
abbrev cX4_greaterPart : ByteArray := prog_6_method_6_code
def yX4_greaterPart : MethodName := ⟨RX4, "greaterPart", "(LLastSentence$House;LLastSentence$Night;II)I"⟩
def RX5 : String := "LastSentence$Text"
def TX5 : u_T := fun k => match k with
  | 0 => ("LastSentence$Text", "letters", "[I", true)
  | 1 => ("LastSentence$Text", "length", "I", false)
  | 2 => ("LastSentence$Text", "faultKind", "I", false)
  | 3 => ("LastSentence$Text", "faultAt", "I", false)
  | _ => ("LastSentence$Text", "at", "I", false)
def tyX5 : Nat → FieldType := fun k => match k with
  | 0 => .array .int
  | 1 => .int
  | 2 => .int
  | 3 => .int
  | _ => .int
theorem nmX5 : ∀ a, a < 5 → ∀ b, b < 5 → a ≠ b → (TX5 a).2.1 ≠ (TX5 b).2.1 := by decide +kernel
theorem tyX5_ok : ∀ k, k < 5 → parseFieldDescriptor (TX5 k).2.2.1 = some (tyX5 k) := by decide +kernel
abbrev cX5_init : ByteArray := prog_7_method_1_code
def yX5_init : MethodName := ⟨RX5, "<init>", "()V"⟩
abbrev cX5_append : ByteArray := prog_7_method_2_code
def yX5_append : MethodName := ⟨RX5, "append", "(I)Z"⟩
abbrev cX5_readInto : ByteArray := prog_7_method_3_code
def yX5_readInto : MethodName := ⟨RX5, "readInto", "(LLastSentence$House;)V"⟩
abbrev cX5_readClause : ByteArray := prog_7_method_4_code
def yX5_readClause : MethodName := ⟨RX5, "readClause", "(LLastSentence$House;)V"⟩
abbrev cX5_readNight : ByteArray := prog_7_method_5_code
def yX5_readNight : MethodName := ⟨RX5, "readNight", "(LLastSentence$House;I)V"⟩
abbrev cX5_readRoom : ByteArray := prog_7_method_6_code
def yX5_readRoom : MethodName := ⟨RX5, "readRoom", "(LLastSentence$House;I)V"⟩
abbrev cX5_readDoor : ByteArray := prog_7_method_7_code
def yX5_readDoor : MethodName := ⟨RX5, "readDoor", "(LLastSentence$House;I)V"⟩
abbrev cX5_readHeir : ByteArray := prog_7_method_8_code
def yX5_readHeir : MethodName := ⟨RX5, "readHeir", "(LLastSentence$House;I)V"⟩
abbrev cX5_readNumber : ByteArray := prog_7_method_9_code
def yX5_readNumber : MethodName := ⟨RX5, "readNumber", "(II)I"⟩
abbrev cX5_readEnd : ByteArray := prog_7_method_10_code
def yX5_readEnd : MethodName := ⟨RX5, "readEnd", "()Z"⟩
abbrev cX5_skipBlanks : ByteArray := prog_7_method_11_code
def yX5_skipBlanks : MethodName := ⟨RX5, "skipBlanks", "()V"⟩
abbrev cX5_failIf : ByteArray := prog_7_method_12_code
def yX5_failIf : MethodName := ⟨RX5, "failIf", "(ZII)V"⟩
abbrev cX5_fail : ByteArray := prog_7_method_13_code
def yX5_fail : MethodName := ⟨RX5, "fail", "(II)V"⟩
def RX6 : String := "LastSentence$Trail"
def TX6 : u_T := fun k => match k with
  | 0 => ("LastSentence$Trail", "states", "[LLastSentence$Night;", true)
  | 1 => ("LastSentence$Trail", "count", "I", false)
  | _ => ("LastSentence$Trail", "next", "I", false)
def tyX6 : Nat → FieldType := fun k => match k with
  | 0 => .array (.object "LastSentence$Night")
  | 1 => .int
  | _ => .int
theorem nmX6 : ∀ a, a < 3 → ∀ b, b < 3 → a ≠ b → (TX6 a).2.1 ≠ (TX6 b).2.1 := by decide +kernel
theorem tyX6_ok : ∀ k, k < 3 → parseFieldDescriptor (TX6 k).2.2.1 = some (tyX6 k) := by decide +kernel
abbrev cX6_init : ByteArray := prog_8_method_1_code
def yX6_init : MethodName := ⟨RX6, "<init>", "()V"⟩
abbrev cX6_clear : ByteArray := prog_8_method_2_code
def yX6_clear : MethodName := ⟨RX6, "clear", "()V"⟩
abbrev cX6_remember : ByteArray := prog_8_method_3_code
def yX6_remember : MethodName := ⟨RX6, "remember", "(LLastSentence$Night;)V"⟩
abbrev cX6_takeBack : ByteArray := prog_8_method_4_code
def yX6_takeBack : MethodName := ⟨RX6, "takeBack", "(ILLastSentence$Night;)V"⟩
def RX7 : String := "LastSentence"
def TX7 : u_T := fun k => match k with
  | 0 => ("LastSentence", "text", "LLastSentence$Text;", true)
  | 1 => ("LastSentence", "house", "LLastSentence$House;", false)
  | 2 => ("LastSentence", "draft", "LLastSentence$House;", false)
  | 3 => ("LastSentence", "night", "LLastSentence$Night;", true)
  | 4 => ("LastSentence", "trail", "LLastSentence$Trail;", true)
  | 5 => ("LastSentence", "images", "[LLastSentence$Night;", true)
  | 6 => ("LastSentence", "imageSeeds", "[I", true)
  | 7 => ("LastSentence", "kept", "[Z", true)
  | 8 => ("LastSentence", "planner", "LLastSentence$Planner;", true)
  | 9 => ("LastSentence", "seen", "LLastSentence$Seen;", true)
  | 10 => ("LastSentence", "book", "LLastSentence$Book;", true)
  | 11 => ("LastSentence", "drawSeed", "I", false)
  | _ => ("LastSentence", "latestFault", "I", false)
def tyX7 : Nat → FieldType := fun k => match k with
  | 0 => .object "LastSentence$Text"
  | 1 => .object "LastSentence$House"
  | 2 => .object "LastSentence$House"
  | 3 => .object "LastSentence$Night"
  | 4 => .object "LastSentence$Trail"
  | 5 => .array (.object "LastSentence$Night")
  | 6 => .array .int
  | 7 => .array .boolean
  | 8 => .object "LastSentence$Planner"
  | 9 => .object "LastSentence$Seen"
  | 10 => .object "LastSentence$Book"
  | 11 => .int
  | _ => .int
theorem nmX7 : ∀ a, a < 13 → ∀ b, b < 13 → a ≠ b → (TX7 a).2.1 ≠ (TX7 b).2.1 := by decide +kernel
theorem tyX7_ok : ∀ k, k < 13 → parseFieldDescriptor (TX7 k).2.2.1 = some (tyX7 k) := by decide +kernel
abbrev cX7_init : ByteArray := prog_1_method_1_code
def yX7_init : MethodName := ⟨RX7, "<init>", "()V"⟩
abbrev cX7_feed : ByteArray := prog_1_method_2_code
def yX7_feed : MethodName := ⟨RX7, "feed", "(I)I"⟩
abbrev cX7_manor : ByteArray := prog_1_method_3_code
def yX7_manor : MethodName := ⟨RX7, "manor", "()I"⟩
abbrev cX7_fault : ByteArray := prog_1_method_4_code
def yX7_fault : MethodName := ⟨RX7, "fault", "()I"⟩
abbrev cX7_told : ByteArray := prog_1_method_5_code
def yX7_told : MethodName := ⟨RX7, "told", "(I)I"⟩
abbrev cX7_room : ByteArray := prog_1_method_6_code
def yX7_room : MethodName := ⟨RX7, "room", "(II)I"⟩
abbrev cX7_door : ByteArray := prog_1_method_7_code
def yX7_door : MethodName := ⟨RX7, "door", "(II)I"⟩
abbrev cX7_heir : ByteArray := prog_1_method_8_code
def yX7_heir : MethodName := ⟨RX7, "heir", "(II)I"⟩
abbrev cX7_say : ByteArray := prog_1_method_9_code
def yX7_say : MethodName := ⟨RX7, "say", "(I)I"⟩
abbrev cX7_go : ByteArray := prog_1_method_10_code
def yX7_go : MethodName := ⟨RX7, "go", "(II)I"⟩
abbrev cX7_hour : ByteArray := prog_1_method_11_code
def yX7_hour : MethodName := ⟨RX7, "hour", "(I)I"⟩
abbrev cX7_out : ByteArray := prog_1_method_12_code
def yX7_out : MethodName := ⟨RX7, "out", "(I)I"⟩
abbrev cX7_light : ByteArray := prog_1_method_13_code
def yX7_light : MethodName := ⟨RX7, "light", "(I)I"⟩
abbrev cX7_candle : ByteArray := prog_1_method_14_code
def yX7_candle : MethodName := ⟨RX7, "candle", "(II)I"⟩
abbrev cX7_drift : ByteArray := prog_1_method_15_code
def yX7_drift : MethodName := ⟨RX7, "drift", "(I)I"⟩
abbrev cX7_undo : ByteArray := prog_1_method_16_code
def yX7_undo : MethodName := ⟨RX7, "undo", "(I)I"⟩
abbrev cX7_refusalOfHours : ByteArray := prog_1_method_17_code
def yX7_refusalOfHours : MethodName := ⟨RX7, "refusalOfHours", "(I)I"⟩
abbrev cX7_actByDraw : ByteArray := prog_1_method_18_code
def yX7_actByDraw : MethodName := ⟨RX7, "actByDraw", "()V"⟩
abbrev cX7_goByDraw : ByteArray := prog_1_method_19_code
def yX7_goByDraw : MethodName := ⟨RX7, "goByDraw", "(I)V"⟩
abbrev cX7_draw : ByteArray := prog_1_method_20_code
def yX7_draw : MethodName := ⟨RX7, "draw", "(I)I"⟩
abbrev cX7_wall : ByteArray := prog_1_method_21_code
def yX7_wall : MethodName := ⟨RX7, "wall", "(II)I"⟩
abbrev cX7_way : ByteArray := prog_1_method_22_code
def yX7_way : MethodName := ⟨RX7, "way", "(II)I"⟩
abbrev cX7_fewest : ByteArray := prog_1_method_23_code
def yX7_fewest : MethodName := ⟨RX7, "fewest", "(III)I"⟩
abbrev cX7_reading : ByteArray := prog_1_method_24_code
def yX7_reading : MethodName := ⟨RX7, "reading", "(II)I"⟩
abbrev cX7_quiet : ByteArray := prog_1_method_25_code
def yX7_quiet : MethodName := ⟨RX7, "quiet", "(II)I"⟩
abbrev cX7_see : ByteArray := prog_1_method_26_code
def yX7_see : MethodName := ⟨RX7, "see", "(IZ)I"⟩
abbrev cX7_couldBe : ByteArray := prog_1_method_27_code
def yX7_couldBe : MethodName := ⟨RX7, "couldBe", "()I"⟩
abbrev cX7_ask : ByteArray := prog_1_method_28_code
def yX7_ask : MethodName := ⟨RX7, "ask", "()I"⟩
abbrev cX7_write : ByteArray := prog_1_method_29_code
def yX7_write : MethodName := ⟨RX7, "write", "(II)I"⟩
abbrev cX7_judge : ByteArray := prog_1_method_30_code
def yX7_judge : MethodName := ⟨RX7, "judge", "()I"⟩
abbrev cX7_tear : ByteArray := prog_1_method_31_code
def yX7_tear : MethodName := ⟨RX7, "tear", "()I"⟩
abbrev cX7_seed : ByteArray := prog_1_method_32_code
def yX7_seed : MethodName := ⟨RX7, "seed", "(I)I"⟩
abbrev cX7_keep : ByteArray := prog_1_method_33_code
def yX7_keep : MethodName := ⟨RX7, "keep", "(I)I"⟩
abbrev cX7_goBack : ByteArray := prog_1_method_34_code
def yX7_goBack : MethodName := ⟨RX7, "goBack", "(I)I"⟩
abbrev cX7_forgetImages : ByteArray := prog_1_method_35_code
def yX7_forgetImages : MethodName := ⟨RX7, "forgetImages", "()V"⟩
def RX8 : String := "LastSentenceModel"
def TX8 : u_T := fun k => match k with
  | 0 => ("LastSentenceModel", "text", "[I", true)
  | 1 => ("LastSentenceModel", "length", "I", false)
  | 2 => ("LastSentenceModel", "faultAt", "I", false)
  | 3 => ("LastSentenceModel", "hours", "I", false)
  | 4 => ("LastSentenceModel", "rooms", "I", false)
  | 5 => ("LastSentenceModel", "doors", "I", false)
  | 6 => ("LastSentenceModel", "heirs", "I", false)
  | 7 => ("LastSentenceModel", "doorA", "[I", true)
  | 8 => ("LastSentenceModel", "doorB", "[I", true)
  | 9 => ("LastSentenceModel", "thick", "[I", true)
  | 10 => ("LastSentenceModel", "kind", "[I", true)
  | 11 => ("LastSentenceModel", "voice", "[I", true)
  | 12 => ("LastSentenceModel", "walls", "[I", true)
  | 13 => ("LastSentenceModel", "ways", "[I", true)
  | 14 => ("LastSentenceModel", "st", "[I", true)
  | 15 => ("LastSentenceModel", "deeds", "[I", true)
  | 16 => ("LastSentenceModel", "deedsMany", "I", false)
  | 17 => ("LastSentenceModel", "seed", "J", false)
  | 18 => ("LastSentenceModel", "images", "[I", true)
  | 19 => ("LastSentenceModel", "seeds", "[J", true)
  | 20 => ("LastSentenceModel", "isKept", "[Z", true)
  | 21 => ("LastSentenceModel", "seen", "[I", true)
  | 22 => ("LastSentenceModel", "seenMany", "I", false)
  | 23 => ("LastSentenceModel", "book", "[I", true)
  | 24 => ("LastSentenceModel", "bookMany", "I", false)
  | 25 => ("LastSentenceModel", "place", "I", false)
  | 26 => ("LastSentenceModel", "wrong", "I", false)
  | 27 => ("LastSentenceModel", "wrongAt", "I", false)
  | 28 => ("LastSentenceModel", "readHours", "I", false)
  | 29 => ("LastSentenceModel", "readRooms", "I", false)
  | 30 => ("LastSentenceModel", "readDoors", "I", false)
  | 31 => ("LastSentenceModel", "readHeirs", "I", false)
  | 32 => ("LastSentenceModel", "readA", "[I", true)
  | 33 => ("LastSentenceModel", "readB", "[I", true)
  | 34 => ("LastSentenceModel", "readThick", "[I", true)
  | 35 => ("LastSentenceModel", "readKind", "[I", true)
  | 36 => ("LastSentenceModel", "readVoice", "[I", true)
  | 37 => ("LastSentenceModel", "read", "[I", true)
  | _ => ("LastSentenceModel", "few", "[I", true)
def tyX8 : Nat → FieldType := fun k => match k with
  | 0 => .array .int
  | 1 => .int
  | 2 => .int
  | 3 => .int
  | 4 => .int
  | 5 => .int
  | 6 => .int
  | 7 => .array .int
  | 8 => .array .int
  | 9 => .array .int
  | 10 => .array .int
  | 11 => .array .int
  | 12 => .array .int
  | 13 => .array .int
  | 14 => .array .int
  | 15 => .array .int
  | 16 => .int
  | 17 => .long
  | 18 => .array .int
  | 19 => .array .long
  | 20 => .array .boolean
  | 21 => .array .int
  | 22 => .int
  | 23 => .array .int
  | 24 => .int
  | 25 => .int
  | 26 => .int
  | 27 => .int
  | 28 => .int
  | 29 => .int
  | 30 => .int
  | 31 => .int
  | 32 => .array .int
  | 33 => .array .int
  | 34 => .array .int
  | 35 => .array .int
  | 36 => .array .int
  | 37 => .array .int
  | _ => .array .int
theorem nmX8 : ∀ a, a < 39 → ∀ b, b < 39 → a ≠ b → (TX8 a).2.1 ≠ (TX8 b).2.1 := by decide +kernel
theorem tyX8_ok : ∀ k, k < 39 → parseFieldDescriptor (TX8 k).2.2.1 = some (tyX8 k) := by decide +kernel
abbrev cX8_init : ByteArray := prog_10_method_1_code
def yX8_init : MethodName := ⟨RX8, "<init>", "()V"⟩
abbrev cX8_in : ByteArray := prog_10_method_3_code
def yX8_in : MethodName := ⟨RX8, "in", "(III)Z"⟩
abbrev cX8_has : ByteArray := prog_10_method_4_code
def yX8_has : MethodName := ⟨RX8, "has", "(II)Z"⟩
abbrev cX8_bits : ByteArray := prog_10_method_5_code
def yX8_bits : MethodName := ⟨RX8, "bits", "(I)I"⟩
abbrev cX8_bring : ByteArray := prog_10_method_6_code
def yX8_bring : MethodName := ⟨RX8, "bring", "([II[III)V"⟩
abbrev cX8_isRoom : ByteArray := prog_10_method_7_code
def yX8_isRoom : MethodName := ⟨RX8, "isRoom", "(I)Z"⟩
abbrev cX8_isHeir : ByteArray := prog_10_method_8_code
def yX8_isHeir : MethodName := ⟨RX8, "isHeir", "(I)Z"⟩
abbrev cX8_isDoor : ByteArray := prog_10_method_9_code
def yX8_isDoor : MethodName := ⟨RX8, "isDoor", "(I)Z"⟩
abbrev cX8_feed : ByteArray := prog_10_method_10_code
def yX8_feed : MethodName := ⟨RX8, "feed", "(I)I"⟩
abbrev cX8_here : ByteArray := prog_10_method_11_code
def yX8_here : MethodName := ⟨RX8, "here", "()I"⟩
abbrev cX8_skips : ByteArray := prog_10_method_12_code
def yX8_skips : MethodName := ⟨RX8, "skips", "()V"⟩
abbrev cX8_fails : ByteArray := prog_10_method_13_code
def yX8_fails : MethodName := ⟨RX8, "fails", "(I)V"⟩
abbrev cX8_number : ByteArray := prog_10_method_14_code
def yX8_number : MethodName := ⟨RX8, "number", "(III)I"⟩
abbrev cX8_ends : ByteArray := prog_10_method_15_code
def yX8_ends : MethodName := ⟨RX8, "ends", "()V"⟩
abbrev cX8_readRoom : ByteArray := prog_10_method_16_code
def yX8_readRoom : MethodName := ⟨RX8, "readRoom", "()V"⟩
abbrev cX8_readDoor : ByteArray := prog_10_method_17_code
def yX8_readDoor : MethodName := ⟨RX8, "readDoor", "()V"⟩
abbrev cX8_readHeir : ByteArray := prog_10_method_18_code
def yX8_readHeir : MethodName := ⟨RX8, "readHeir", "()V"⟩
abbrev cX8_readClause : ByteArray := prog_10_method_19_code
def yX8_readClause : MethodName := ⟨RX8, "readClause", "()V"⟩
abbrev cX8_readManor : ByteArray := prog_10_method_20_code
def yX8_readManor : MethodName := ⟨RX8, "readManor", "()V"⟩
abbrev cX8_manor : ByteArray := prog_10_method_21_code
def yX8_manor : MethodName := ⟨RX8, "manor", "()I"⟩
abbrev cX8_fault : ByteArray := prog_10_method_22_code
def yX8_fault : MethodName := ⟨RX8, "fault", "()I"⟩
abbrev cX8_passes : ByteArray := prog_10_method_23_code
def yX8_passes : MethodName := ⟨RX8, "passes", "(III)V"⟩
abbrev cX8_laysWalls : ByteArray := prog_10_method_24_code
def yX8_laysWalls : MethodName := ⟨RX8, "laysWalls", "()V"⟩
abbrev cX8_isLit : ByteArray := prog_10_method_25_code
def yX8_isLit : MethodName := ⟨RX8, "isLit", "([III)Z"⟩
abbrev cX8_litOf : ByteArray := prog_10_method_26_code
def yX8_litOf : MethodName := ⟨RX8, "litOf", "()I"⟩
abbrev cX8_hearsFrom : ByteArray := prog_10_method_27_code
def yX8_hearsFrom : MethodName := ⟨RX8, "hearsFrom", "(II)I"⟩
abbrev cX8_countsIn : ByteArray := prog_10_method_28_code
def yX8_countsIn : MethodName := ⟨RX8, "countsIn", "(IIIII)I"⟩
abbrev cX8_whoseOf : ByteArray := prog_10_method_29_code
def yX8_whoseOf : MethodName := ⟨RX8, "whoseOf", "(II)I"⟩
abbrev cX8_wordedOf : ByteArray := prog_10_method_30_code
def yX8_wordedOf : MethodName := ⟨RX8, "wordedOf", "(I)I"⟩
abbrev cX8_countsOf : ByteArray := prog_10_method_31_code
def yX8_countsOf : MethodName := ⟨RX8, "countsOf", "(I)I"⟩
abbrev cX8_says : ByteArray := prog_10_method_32_code
def yX8_says : MethodName := ⟨RX8, "says", "(I)V"⟩
abbrev cX8_hourOn : ByteArray := prog_10_method_33_code
def yX8_hourOn : MethodName := ⟨RX8, "hourOn", "()V"⟩
abbrev cX8_willBy : ByteArray := prog_10_method_34_code
def yX8_willBy : MethodName := ⟨RX8, "willBy", "(II)I"⟩
abbrev cX8_sureOnes : ByteArray := prog_10_method_35_code
def yX8_sureOnes : MethodName := ⟨RX8, "sureOnes", "()I"⟩
abbrev cX8_hasRooms : ByteArray := prog_10_method_36_code
def yX8_hasRooms : MethodName := ⟨RX8, "hasRooms", "(I)I"⟩
abbrev cX8_holder : ByteArray := prog_10_method_37_code
def yX8_holder : MethodName := ⟨RX8, "holder", "()I"⟩
abbrev cX8_told : ByteArray := prog_10_method_38_code
def yX8_told : MethodName := ⟨RX8, "told", "(I)I"⟩
abbrev cX8_worthOf : ByteArray := prog_10_method_39_code
def yX8_worthOf : MethodName := ⟨RX8, "worthOf", "(I)I"⟩
abbrev cX8_room : ByteArray := prog_10_method_40_code
def yX8_room : MethodName := ⟨RX8, "room", "(II)I"⟩
abbrev cX8_door : ByteArray := prog_10_method_41_code
def yX8_door : MethodName := ⟨RX8, "door", "(II)I"⟩
abbrev cX8_heir : ByteArray := prog_10_method_42_code
def yX8_heir : MethodName := ⟨RX8, "heir", "(II)I"⟩
abbrev cX8_notes : ByteArray := prog_10_method_43_code
def yX8_notes : MethodName := ⟨RX8, "notes", "()V"⟩
abbrev cX8_say : ByteArray := prog_10_method_44_code
def yX8_say : MethodName := ⟨RX8, "say", "(I)I"⟩
abbrev cX8_behind : ByteArray := prog_10_method_45_code
def yX8_behind : MethodName := ⟨RX8, "behind", "(II)I"⟩
abbrev cX8_go : ByteArray := prog_10_method_46_code
def yX8_go : MethodName := ⟨RX8, "go", "(II)I"⟩
abbrev cX8_hour : ByteArray := prog_10_method_47_code
def yX8_hour : MethodName := ⟨RX8, "hour", "(I)I"⟩
abbrev cX8_out : ByteArray := prog_10_method_48_code
def yX8_out : MethodName := ⟨RX8, "out", "(I)I"⟩
abbrev cX8_light : ByteArray := prog_10_method_49_code
def yX8_light : MethodName := ⟨RX8, "light", "(I)I"⟩
abbrev cX8_candle : ByteArray := prog_10_method_50_code
def yX8_candle : MethodName := ⟨RX8, "candle", "(II)I"⟩
abbrev cX8_draw : ByteArray := prog_10_method_51_code
def yX8_draw : MethodName := ⟨RX8, "draw", "(I)I"⟩
abbrev cX8_drawn : ByteArray := prog_10_method_52_code
def yX8_drawn : MethodName := ⟨RX8, "drawn", "()V"⟩
abbrev cX8_drift : ByteArray := prog_10_method_53_code
def yX8_drift : MethodName := ⟨RX8, "drift", "(I)I"⟩
abbrev cX8_undo : ByteArray := prog_10_method_54_code
def yX8_undo : MethodName := ⟨RX8, "undo", "(I)I"⟩
abbrev cX8_wall : ByteArray := prog_10_method_55_code
def yX8_wall : MethodName := ⟨RX8, "wall", "(II)I"⟩
abbrev cX8_way : ByteArray := prog_10_method_56_code
def yX8_way : MethodName := ⟨RX8, "way", "(II)I"⟩
abbrev cX8_at : ByteArray := prog_10_method_57_code
def yX8_at : MethodName := ⟨RX8, "at", "(III)I"⟩
abbrev cX8_goesOn : ByteArray := prog_10_method_58_code
def yX8_goesOn : MethodName := ⟨RX8, "goesOn", "(III)I"⟩
abbrev cX8_saysIn : ByteArray := prog_10_method_59_code
def yX8_saysIn : MethodName := ⟨RX8, "saysIn", "(IIII)I"⟩
abbrev cX8_laysFew : ByteArray := prog_10_method_60_code
def yX8_laysFew : MethodName := ⟨RX8, "laysFew", "(II)V"⟩
abbrev cX8_wonOf : ByteArray := prog_10_method_61_code
def yX8_wonOf : MethodName := ⟨RX8, "wonOf", "(I)I"⟩
abbrev cX8_latestOf : ByteArray := prog_10_method_62_code
def yX8_latestOf : MethodName := ⟨RX8, "latestOf", "(III)I"⟩
abbrev cX8_fewest : ByteArray := prog_10_method_63_code
def yX8_fewest : MethodName := ⟨RX8, "fewest", "(III)I"⟩
abbrev cX8_reading : ByteArray := prog_10_method_64_code
def yX8_reading : MethodName := ⟨RX8, "reading", "(II)I"⟩
abbrev cX8_quiet : ByteArray := prog_10_method_65_code
def yX8_quiet : MethodName := ⟨RX8, "quiet", "(II)I"⟩
abbrev cX8_see : ByteArray := prog_10_method_66_code
def yX8_see : MethodName := ⟨RX8, "see", "(IZ)I"⟩
abbrev cX8_couldBe : ByteArray := prog_10_method_67_code
def yX8_couldBe : MethodName := ⟨RX8, "couldBe", "()I"⟩
abbrev cX8_ask : ByteArray := prog_10_method_68_code
def yX8_ask : MethodName := ⟨RX8, "ask", "()I"⟩
abbrev cX8_write : ByteArray := prog_10_method_69_code
def yX8_write : MethodName := ⟨RX8, "write", "(II)I"⟩
abbrev cX8_judge : ByteArray := prog_10_method_70_code
def yX8_judge : MethodName := ⟨RX8, "judge", "()I"⟩
abbrev cX8_tear : ByteArray := prog_10_method_71_code
def yX8_tear : MethodName := ⟨RX8, "tear", "()I"⟩
abbrev cX8_seed : ByteArray := prog_10_method_72_code
def yX8_seed : MethodName := ⟨RX8, "seed", "(I)I"⟩
abbrev cX8_keep : ByteArray := prog_10_method_73_code
def yX8_keep : MethodName := ⟨RX8, "keep", "(I)I"⟩
abbrev cX8_goBack : ByteArray := prog_10_method_74_code
def yX8_goBack : MethodName := ⟨RX8, "goBack", "(I)I"⟩
def RJ6 : String := "java/lang/Integer"
def TJ6 : u_T := fun k => match k with
  | _ => ("", "", "", false)
def tyJ6 : Nat → FieldType := fun k => match k with
  | _ => .int
theorem nmJ6 : ∀ a, a < 0 → ∀ b, b < 0 → a ≠ b → (TJ6 a).2.1 ≠ (TJ6 b).2.1 := by decide +kernel
theorem tyJ6_ok : ∀ k, k < 0 → parseFieldDescriptor (TJ6 k).2.2.1 = some (tyJ6 k) := by decide +kernel
abbrev cJ6_bitCount_0f7a4 : ByteArray := prog_11_method_49_code
def yJ6_bitCount_0f7a4 : MethodName := ⟨RJ6, "bitCount", "(I)I"⟩
def RJ9 : String := "java/lang/Math"
def TJ9 : u_T := fun k => match k with
  | _ => ("", "", "", false)
def tyJ9 : Nat → FieldType := fun k => match k with
  | _ => .int
theorem nmJ9 : ∀ a, a < 0 → ∀ b, b < 0 → a ≠ b → (TJ9 a).2.1 ≠ (TJ9 b).2.1 := by decide +kernel
theorem tyJ9_ok : ∀ k, k < 0 → parseFieldDescriptor (TJ9 k).2.2.1 = some (tyJ9 k) := by decide +kernel
abbrev cJ9_floorMod_7cf53 : ByteArray := prog_12_method_50_code
def yJ9_floorMod_7cf53 : MethodName := ⟨RJ9, "floorMod", "(II)I"⟩
abbrev cJ9_max_7cf53 : ByteArray := prog_12_method_65_code
def yJ9_max_7cf53 : MethodName := ⟨RJ9, "max", "(II)I"⟩
abbrev cJ9_min_7cf53 : ByteArray := prog_12_method_69_code
def yJ9_min_7cf53 : MethodName := ⟨RJ9, "min", "(II)I"⟩
def RJ10 : String := "java/lang/System"
def TJ10 : u_T := fun k => match k with
  | _ => ("", "", "", false)
def tyJ10 : Nat → FieldType := fun k => match k with
  | _ => .int
theorem nmJ10 : ∀ a, a < 0 → ∀ b, b < 0 → a ≠ b → (TJ10 a).2.1 ≠ (TJ10 b).2.1 := by decide +kernel
theorem tyJ10_ok : ∀ k, k < 0 → parseFieldDescriptor (TJ10 k).2.2.1 = some (tyJ10 k) := by decide +kernel
def RJ7 : String := "java/util/Arrays"
def TJ7 : u_T := fun k => match k with
  | _ => ("", "", "", false)
def tyJ7 : Nat → FieldType := fun k => match k with
  | _ => .int
theorem nmJ7 : ∀ a, a < 0 → ∀ b, b < 0 → a ≠ b → (TJ7 a).2.1 ≠ (TJ7 b).2.1 := by decide +kernel
theorem tyJ7_ok : ∀ k, k < 0 → parseFieldDescriptor (TJ7 k).2.2.1 = some (tyJ7 k) := by decide +kernel
abbrev cJ7_fill_53178 : ByteArray := prog_14_method_103_code
def yJ7_fill_53178 : MethodName := ⟨RJ7, "fill", "([II)V"⟩
def RL : String := "LastSentenceLaw"
abbrev cL_law : ByteArray := code
def yL_law : MethodName := ⟨RL, "law", "([I)Z"⟩
abbrev vwCl : List vw_C := [(RX0, TX0, 3), (RX1, TX1, 13), (RX2, TX2, 8), (RX3, TX3, 4), (RX4, TX4, 3), (RX5, TX5, 5), (RX6, TX6, 3), (RX7, TX7, 13), (RX8, TX8, 39)]
end
