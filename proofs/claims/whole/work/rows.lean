section
/-- a private method of a class that the tables say can be made, by its rows of tables_1 -/
def lw_okq (q : MethodName × Nat) : Prop := (q.1.cls ≠ "java/lang/invoke/MethodHandle" ∧ q.1.cls ≠ "java/lang/invoke/VarHandle") ∧ Cond.instantiable q.1.cls q.2 ∈ tables_1 ∧ Cond.privateMethod q.1 ∈ tables_1 ∧ Cond.instanceMethod q.1 ∈ tables_1
theorem lw_p0 : lw_okq (⟨"LastSentence$Text", "skipBlanks", "()V"⟩, 5) := ⟨⟨by decide +kernel, by decide +kernel⟩, List.mem_of_getElem? (i := 23) (by decide +kernel), List.mem_of_getElem? (i := 310) (by decide +kernel), List.mem_of_getElem? (i := 311) (by decide +kernel)⟩
theorem lw_p1 : lw_okq (⟨"LastSentence$Text", "readClause", "(LLastSentence$House;)V"⟩, 5) := ⟨⟨by decide +kernel, by decide +kernel⟩, List.mem_of_getElem? (i := 23) (by decide +kernel), List.mem_of_getElem? (i := 314) (by decide +kernel), List.mem_of_getElem? (i := 315) (by decide +kernel)⟩
theorem lw_p2 : lw_okq (⟨"LastSentence$Text", "fail", "(II)V"⟩, 5) := ⟨⟨by decide +kernel, by decide +kernel⟩, List.mem_of_getElem? (i := 23) (by decide +kernel), List.mem_of_getElem? (i := 318) (by decide +kernel), List.mem_of_getElem? (i := 319) (by decide +kernel)⟩
theorem lw_p3 : lw_okq (⟨"LastSentence$Text", "readNight", "(LLastSentence$House;I)V"⟩, 5) := ⟨⟨by decide +kernel, by decide +kernel⟩, List.mem_of_getElem? (i := 23) (by decide +kernel), List.mem_of_getElem? (i := 322) (by decide +kernel), List.mem_of_getElem? (i := 323) (by decide +kernel)⟩
theorem lw_p4 : lw_okq (⟨"LastSentence$Text", "failIf", "(ZII)V"⟩, 5) := ⟨⟨by decide +kernel, by decide +kernel⟩, List.mem_of_getElem? (i := 23) (by decide +kernel), List.mem_of_getElem? (i := 326) (by decide +kernel), List.mem_of_getElem? (i := 327) (by decide +kernel)⟩
theorem lw_p5 : lw_okq (⟨"LastSentence$Text", "readNumber", "(II)I"⟩, 5) := ⟨⟨by decide +kernel, by decide +kernel⟩, List.mem_of_getElem? (i := 23) (by decide +kernel), List.mem_of_getElem? (i := 330) (by decide +kernel), List.mem_of_getElem? (i := 331) (by decide +kernel)⟩
theorem lw_p6 : lw_okq (⟨"LastSentence$Text", "readEnd", "()Z"⟩, 5) := ⟨⟨by decide +kernel, by decide +kernel⟩, List.mem_of_getElem? (i := 23) (by decide +kernel), List.mem_of_getElem? (i := 334) (by decide +kernel), List.mem_of_getElem? (i := 335) (by decide +kernel)⟩
theorem lw_p7 : lw_okq (⟨"LastSentence$Text", "readRoom", "(LLastSentence$House;I)V"⟩, 5) := ⟨⟨by decide +kernel, by decide +kernel⟩, List.mem_of_getElem? (i := 23) (by decide +kernel), List.mem_of_getElem? (i := 338) (by decide +kernel), List.mem_of_getElem? (i := 339) (by decide +kernel)⟩
theorem lw_p8 : lw_okq (⟨"LastSentence$Text", "readDoor", "(LLastSentence$House;I)V"⟩, 5) := ⟨⟨by decide +kernel, by decide +kernel⟩, List.mem_of_getElem? (i := 23) (by decide +kernel), List.mem_of_getElem? (i := 346) (by decide +kernel), List.mem_of_getElem? (i := 347) (by decide +kernel)⟩
theorem lw_p9 : lw_okq (⟨"LastSentence$Text", "readHeir", "(LLastSentence$House;I)V"⟩, 5) := ⟨⟨by decide +kernel, by decide +kernel⟩, List.mem_of_getElem? (i := 23) (by decide +kernel), List.mem_of_getElem? (i := 354) (by decide +kernel), List.mem_of_getElem? (i := 355) (by decide +kernel)⟩
theorem lw_p10 : lw_okq (⟨"LastSentence$House", "shorten", "([[IIII)V"⟩, 13) := ⟨⟨by decide +kernel, by decide +kernel⟩, List.mem_of_getElem? (i := 49) (by decide +kernel), List.mem_of_getElem? (i := 366) (by decide +kernel), List.mem_of_getElem? (i := 367) (by decide +kernel)⟩
theorem lw_p11 : lw_okq (⟨"LastSentence$House", "shortenByRoomsBetween", "([[I)V"⟩, 13) := ⟨⟨by decide +kernel, by decide +kernel⟩, List.mem_of_getElem? (i := 49) (by decide +kernel), List.mem_of_getElem? (i := 370) (by decide +kernel), List.mem_of_getElem? (i := 371) (by decide +kernel)⟩
theorem lw_p12 : lw_okq (⟨"LastSentence$Night", "clearNight", "()V"⟩, 8) := ⟨⟨by decide +kernel, by decide +kernel⟩, List.mem_of_getElem? (i := 126) (by decide +kernel), List.mem_of_getElem? (i := 384) (by decide +kernel), List.mem_of_getElem? (i := 385) (by decide +kernel)⟩
theorem lw_p13 : lw_okq (⟨"LastSentence", "forgetImages", "()V"⟩, 13) := ⟨⟨by decide +kernel, by decide +kernel⟩, List.mem_of_getElem? (i := 15) (by decide +kernel), List.mem_of_getElem? (i := 392) (by decide +kernel), List.mem_of_getElem? (i := 393) (by decide +kernel)⟩
theorem lw_p14 : lw_okq (⟨"LastSentence$Night", "isSure", "(I)Z"⟩, 8) := ⟨⟨by decide +kernel, by decide +kernel⟩, List.mem_of_getElem? (i := 126) (by decide +kernel), List.mem_of_getElem? (i := 420) (by decide +kernel), List.mem_of_getElem? (i := 421) (by decide +kernel)⟩
theorem lw_p15 : lw_okq (⟨"LastSentence", "refusalOfHours", "(I)I"⟩, 13) := ⟨⟨by decide +kernel, by decide +kernel⟩, List.mem_of_getElem? (i := 15) (by decide +kernel), List.mem_of_getElem? (i := 537) (by decide +kernel), List.mem_of_getElem? (i := 538) (by decide +kernel)⟩
def lw_privs_1 : List (MethodName × Nat) := [(⟨"LastSentence$Text", "skipBlanks", "()V"⟩, 5), (⟨"LastSentence$Text", "readClause", "(LLastSentence$House;)V"⟩, 5), (⟨"LastSentence$Text", "fail", "(II)V"⟩, 5), (⟨"LastSentence$Text", "readNight", "(LLastSentence$House;I)V"⟩, 5), (⟨"LastSentence$Text", "failIf", "(ZII)V"⟩, 5), (⟨"LastSentence$Text", "readNumber", "(II)I"⟩, 5), (⟨"LastSentence$Text", "readEnd", "()Z"⟩, 5), (⟨"LastSentence$Text", "readRoom", "(LLastSentence$House;I)V"⟩, 5), (⟨"LastSentence$Text", "readDoor", "(LLastSentence$House;I)V"⟩, 5), (⟨"LastSentence$Text", "readHeir", "(LLastSentence$House;I)V"⟩, 5), (⟨"LastSentence$House", "shorten", "([[IIII)V"⟩, 13), (⟨"LastSentence$House", "shortenByRoomsBetween", "([[I)V"⟩, 13), (⟨"LastSentence$Night", "clearNight", "()V"⟩, 8), (⟨"LastSentence", "forgetImages", "()V"⟩, 13), (⟨"LastSentence$Night", "isSure", "(I)Z"⟩, 8), (⟨"LastSentence", "refusalOfHours", "(I)I"⟩, 13)]
theorem lw_r1 : ∀ q ∈ lw_privs_1, lw_okq q := List.forall_mem_cons.mpr ⟨lw_p0, List.forall_mem_cons.mpr ⟨lw_p1, List.forall_mem_cons.mpr ⟨lw_p2, List.forall_mem_cons.mpr ⟨lw_p3, List.forall_mem_cons.mpr ⟨lw_p4, List.forall_mem_cons.mpr ⟨lw_p5, List.forall_mem_cons.mpr ⟨lw_p6, List.forall_mem_cons.mpr ⟨lw_p7, List.forall_mem_cons.mpr ⟨lw_p8, List.forall_mem_cons.mpr ⟨lw_p9, List.forall_mem_cons.mpr ⟨lw_p10, List.forall_mem_cons.mpr ⟨lw_p11, List.forall_mem_cons.mpr ⟨lw_p12, List.forall_mem_cons.mpr ⟨lw_p13, List.forall_mem_cons.mpr ⟨lw_p14, List.forall_mem_cons.mpr ⟨lw_p15, fun _ h => absurd h List.not_mem_nil⟩⟩⟩⟩⟩⟩⟩⟩⟩⟩⟩⟩⟩⟩⟩⟩
theorem lw_p16 : lw_okq (⟨"LastSentence", "actByDraw", "()V"⟩, 13) := ⟨⟨by decide +kernel, by decide +kernel⟩, List.mem_of_getElem? (i := 15) (by decide +kernel), List.mem_of_getElem? (i := 570) (by decide +kernel), List.mem_of_getElem? (i := 571) (by decide +kernel)⟩
theorem lw_p17 : lw_okq (⟨"LastSentence", "draw", "(I)I"⟩, 13) := ⟨⟨by decide +kernel, by decide +kernel⟩, List.mem_of_getElem? (i := 15) (by decide +kernel), List.mem_of_getElem? (i := 574) (by decide +kernel), List.mem_of_getElem? (i := 575) (by decide +kernel)⟩
theorem lw_p18 : lw_okq (⟨"LastSentence", "goByDraw", "(I)V"⟩, 13) := ⟨⟨by decide +kernel, by decide +kernel⟩, List.mem_of_getElem? (i := 15) (by decide +kernel), List.mem_of_getElem? (i := 582) (by decide +kernel), List.mem_of_getElem? (i := 583) (by decide +kernel)⟩
theorem lw_p19 : lw_okq (⟨"LastSentence$Planner", "missingOf", "(LLastSentence$House;LLastSentence$Night;II)I"⟩, 4) := ⟨⟨by decide +kernel, by decide +kernel⟩, List.mem_of_getElem? (i := 189) (by decide +kernel), List.mem_of_getElem? (i := 617) (by decide +kernel), List.mem_of_getElem? (i := 618) (by decide +kernel)⟩
theorem lw_p20 : lw_okq (⟨"LastSentence$Planner", "beginAtMorning", "(LLastSentence$House;I)V"⟩, 4) := ⟨⟨by decide +kernel, by decide +kernel⟩, List.mem_of_getElem? (i := 189) (by decide +kernel), List.mem_of_getElem? (i := 624) (by decide +kernel), List.mem_of_getElem? (i := 625) (by decide +kernel)⟩
theorem lw_p21 : lw_okq (⟨"LastSentence$Planner", "goOrStay", "(LLastSentence$House;I)V"⟩, 4) := ⟨⟨by decide +kernel, by decide +kernel⟩, List.mem_of_getElem? (i := 189) (by decide +kernel), List.mem_of_getElem? (i := 628) (by decide +kernel), List.mem_of_getElem? (i := 629) (by decide +kernel)⟩
theorem lw_p22 : lw_okq (⟨"LastSentence$Planner", "sayOrNot", "(III)V"⟩, 4) := ⟨⟨by decide +kernel, by decide +kernel⟩, List.mem_of_getElem? (i := 189) (by decide +kernel), List.mem_of_getElem? (i := 634) (by decide +kernel), List.mem_of_getElem? (i := 635) (by decide +kernel)⟩
theorem lw_p23 : lw_okq (⟨"LastSentence$Planner", "winnable", "(JI)J"⟩, 4) := ⟨⟨by decide +kernel, by decide +kernel⟩, List.mem_of_getElem? (i := 189) (by decide +kernel), List.mem_of_getElem? (i := 638) (by decide +kernel), List.mem_of_getElem? (i := 639) (by decide +kernel)⟩
theorem lw_p24 : lw_okq (⟨"LastSentence$Planner", "take", "(IIII)V"⟩, 4) := ⟨⟨by decide +kernel, by decide +kernel⟩, List.mem_of_getElem? (i := 189) (by decide +kernel), List.mem_of_getElem? (i := 644) (by decide +kernel), List.mem_of_getElem? (i := 645) (by decide +kernel)⟩
theorem lw_p25 : lw_okq (⟨"LastSentence$Seen", "fits", "(I)Z"⟩, 3) := ⟨⟨by decide +kernel, by decide +kernel⟩, List.mem_of_getElem? (i := 214) (by decide +kernel), List.mem_of_getElem? (i := 675) (by decide +kernel), List.mem_of_getElem? (i := 676) (by decide +kernel)⟩
theorem lw_p26 : lw_okq (⟨"LastSentence$Seen", "greaterPart", "(LLastSentence$House;LLastSentence$Night;II)I"⟩, 3) := ⟨⟨by decide +kernel, by decide +kernel⟩, List.mem_of_getElem? (i := 214) (by decide +kernel), List.mem_of_getElem? (i := 689) (by decide +kernel), List.mem_of_getElem? (i := 690) (by decide +kernel)⟩
theorem lw_p27 : lw_okq (⟨"LastSentenceModel", "readManor", "()V"⟩, 39) := ⟨⟨by decide +kernel, by decide +kernel⟩, List.mem_of_getElem? (i := 730) (by decide +kernel), List.mem_of_getElem? (i := 867) (by decide +kernel), List.mem_of_getElem? (i := 868) (by decide +kernel)⟩
theorem lw_p28 : lw_okq (⟨"LastSentenceModel", "skips", "()V"⟩, 39) := ⟨⟨by decide +kernel, by decide +kernel⟩, List.mem_of_getElem? (i := 730) (by decide +kernel), List.mem_of_getElem? (i := 871) (by decide +kernel), List.mem_of_getElem? (i := 872) (by decide +kernel)⟩
theorem lw_p29 : lw_okq (⟨"LastSentenceModel", "here", "()I"⟩, 39) := ⟨⟨by decide +kernel, by decide +kernel⟩, List.mem_of_getElem? (i := 730) (by decide +kernel), List.mem_of_getElem? (i := 875) (by decide +kernel), List.mem_of_getElem? (i := 876) (by decide +kernel)⟩
theorem lw_p30 : lw_okq (⟨"LastSentenceModel", "readClause", "()V"⟩, 39) := ⟨⟨by decide +kernel, by decide +kernel⟩, List.mem_of_getElem? (i := 730) (by decide +kernel), List.mem_of_getElem? (i := 879) (by decide +kernel), List.mem_of_getElem? (i := 880) (by decide +kernel)⟩
theorem lw_p31 : lw_okq (⟨"LastSentenceModel", "number", "(III)I"⟩, 39) := ⟨⟨by decide +kernel, by decide +kernel⟩, List.mem_of_getElem? (i := 730) (by decide +kernel), List.mem_of_getElem? (i := 883) (by decide +kernel), List.mem_of_getElem? (i := 884) (by decide +kernel)⟩
def lw_privs_2 : List (MethodName × Nat) := [(⟨"LastSentence", "actByDraw", "()V"⟩, 13), (⟨"LastSentence", "draw", "(I)I"⟩, 13), (⟨"LastSentence", "goByDraw", "(I)V"⟩, 13), (⟨"LastSentence$Planner", "missingOf", "(LLastSentence$House;LLastSentence$Night;II)I"⟩, 4), (⟨"LastSentence$Planner", "beginAtMorning", "(LLastSentence$House;I)V"⟩, 4), (⟨"LastSentence$Planner", "goOrStay", "(LLastSentence$House;I)V"⟩, 4), (⟨"LastSentence$Planner", "sayOrNot", "(III)V"⟩, 4), (⟨"LastSentence$Planner", "winnable", "(JI)J"⟩, 4), (⟨"LastSentence$Planner", "take", "(IIII)V"⟩, 4), (⟨"LastSentence$Seen", "fits", "(I)Z"⟩, 3), (⟨"LastSentence$Seen", "greaterPart", "(LLastSentence$House;LLastSentence$Night;II)I"⟩, 3), (⟨"LastSentenceModel", "readManor", "()V"⟩, 39), (⟨"LastSentenceModel", "skips", "()V"⟩, 39), (⟨"LastSentenceModel", "here", "()I"⟩, 39), (⟨"LastSentenceModel", "readClause", "()V"⟩, 39), (⟨"LastSentenceModel", "number", "(III)I"⟩, 39)]
theorem lw_r2 : ∀ q ∈ lw_privs_2, lw_okq q := List.forall_mem_cons.mpr ⟨lw_p16, List.forall_mem_cons.mpr ⟨lw_p17, List.forall_mem_cons.mpr ⟨lw_p18, List.forall_mem_cons.mpr ⟨lw_p19, List.forall_mem_cons.mpr ⟨lw_p20, List.forall_mem_cons.mpr ⟨lw_p21, List.forall_mem_cons.mpr ⟨lw_p22, List.forall_mem_cons.mpr ⟨lw_p23, List.forall_mem_cons.mpr ⟨lw_p24, List.forall_mem_cons.mpr ⟨lw_p25, List.forall_mem_cons.mpr ⟨lw_p26, List.forall_mem_cons.mpr ⟨lw_p27, List.forall_mem_cons.mpr ⟨lw_p28, List.forall_mem_cons.mpr ⟨lw_p29, List.forall_mem_cons.mpr ⟨lw_p30, List.forall_mem_cons.mpr ⟨lw_p31, fun _ h => absurd h List.not_mem_nil⟩⟩⟩⟩⟩⟩⟩⟩⟩⟩⟩⟩⟩⟩⟩⟩
theorem lw_p32 : lw_okq (⟨"LastSentenceModel", "fails", "(I)V"⟩, 39) := ⟨⟨by decide +kernel, by decide +kernel⟩, List.mem_of_getElem? (i := 730) (by decide +kernel), List.mem_of_getElem? (i := 887) (by decide +kernel), List.mem_of_getElem? (i := 888) (by decide +kernel)⟩
theorem lw_p33 : lw_okq (⟨"LastSentenceModel", "ends", "()V"⟩, 39) := ⟨⟨by decide +kernel, by decide +kernel⟩, List.mem_of_getElem? (i := 730) (by decide +kernel), List.mem_of_getElem? (i := 891) (by decide +kernel), List.mem_of_getElem? (i := 892) (by decide +kernel)⟩
theorem lw_p34 : lw_okq (⟨"LastSentenceModel", "readRoom", "()V"⟩, 39) := ⟨⟨by decide +kernel, by decide +kernel⟩, List.mem_of_getElem? (i := 730) (by decide +kernel), List.mem_of_getElem? (i := 895) (by decide +kernel), List.mem_of_getElem? (i := 896) (by decide +kernel)⟩
theorem lw_p35 : lw_okq (⟨"LastSentenceModel", "readDoor", "()V"⟩, 39) := ⟨⟨by decide +kernel, by decide +kernel⟩, List.mem_of_getElem? (i := 730) (by decide +kernel), List.mem_of_getElem? (i := 899) (by decide +kernel), List.mem_of_getElem? (i := 900) (by decide +kernel)⟩
theorem lw_p36 : lw_okq (⟨"LastSentenceModel", "readHeir", "()V"⟩, 39) := ⟨⟨by decide +kernel, by decide +kernel⟩, List.mem_of_getElem? (i := 730) (by decide +kernel), List.mem_of_getElem? (i := 903) (by decide +kernel), List.mem_of_getElem? (i := 904) (by decide +kernel)⟩
theorem lw_p37 : lw_okq (⟨"LastSentenceModel", "laysWalls", "()V"⟩, 39) := ⟨⟨by decide +kernel, by decide +kernel⟩, List.mem_of_getElem? (i := 730) (by decide +kernel), List.mem_of_getElem? (i := 910) (by decide +kernel), List.mem_of_getElem? (i := 911) (by decide +kernel)⟩
theorem lw_p38 : lw_okq (⟨"LastSentenceModel", "passes", "(III)V"⟩, 39) := ⟨⟨by decide +kernel, by decide +kernel⟩, List.mem_of_getElem? (i := 730) (by decide +kernel), List.mem_of_getElem? (i := 914) (by decide +kernel), List.mem_of_getElem? (i := 915) (by decide +kernel)⟩
theorem lw_p39 : lw_okq (⟨"LastSentenceModel", "litOf", "()I"⟩, 39) := ⟨⟨by decide +kernel, by decide +kernel⟩, List.mem_of_getElem? (i := 730) (by decide +kernel), List.mem_of_getElem? (i := 926) (by decide +kernel), List.mem_of_getElem? (i := 927) (by decide +kernel)⟩
theorem lw_p40 : lw_okq (⟨"LastSentenceModel", "isLit", "([III)Z"⟩, 39) := ⟨⟨by decide +kernel, by decide +kernel⟩, List.mem_of_getElem? (i := 730) (by decide +kernel), List.mem_of_getElem? (i := 930) (by decide +kernel), List.mem_of_getElem? (i := 931) (by decide +kernel)⟩
theorem lw_p41 : lw_okq (⟨"LastSentenceModel", "sureOnes", "()I"⟩, 39) := ⟨⟨by decide +kernel, by decide +kernel⟩, List.mem_of_getElem? (i := 730) (by decide +kernel), List.mem_of_getElem? (i := 934) (by decide +kernel), List.mem_of_getElem? (i := 935) (by decide +kernel)⟩
theorem lw_p42 : lw_okq (⟨"LastSentenceModel", "willBy", "(II)I"⟩, 39) := ⟨⟨by decide +kernel, by decide +kernel⟩, List.mem_of_getElem? (i := 730) (by decide +kernel), List.mem_of_getElem? (i := 938) (by decide +kernel), List.mem_of_getElem? (i := 939) (by decide +kernel)⟩
theorem lw_p43 : lw_okq (⟨"LastSentenceModel", "holder", "()I"⟩, 39) := ⟨⟨by decide +kernel, by decide +kernel⟩, List.mem_of_getElem? (i := 730) (by decide +kernel), List.mem_of_getElem? (i := 942) (by decide +kernel), List.mem_of_getElem? (i := 943) (by decide +kernel)⟩
theorem lw_p44 : lw_okq (⟨"LastSentenceModel", "hasRooms", "(I)I"⟩, 39) := ⟨⟨by decide +kernel, by decide +kernel⟩, List.mem_of_getElem? (i := 730) (by decide +kernel), List.mem_of_getElem? (i := 946) (by decide +kernel), List.mem_of_getElem? (i := 947) (by decide +kernel)⟩
theorem lw_p45 : lw_okq (⟨"LastSentenceModel", "isRoom", "(I)Z"⟩, 39) := ⟨⟨by decide +kernel, by decide +kernel⟩, List.mem_of_getElem? (i := 730) (by decide +kernel), List.mem_of_getElem? (i := 957) (by decide +kernel), List.mem_of_getElem? (i := 958) (by decide +kernel)⟩
theorem lw_p46 : lw_okq (⟨"LastSentenceModel", "worthOf", "(I)I"⟩, 39) := ⟨⟨by decide +kernel, by decide +kernel⟩, List.mem_of_getElem? (i := 730) (by decide +kernel), List.mem_of_getElem? (i := 962) (by decide +kernel), List.mem_of_getElem? (i := 963) (by decide +kernel)⟩
theorem lw_p47 : lw_okq (⟨"LastSentenceModel", "hearsFrom", "(II)I"⟩, 39) := ⟨⟨by decide +kernel, by decide +kernel⟩, List.mem_of_getElem? (i := 730) (by decide +kernel), List.mem_of_getElem? (i := 966) (by decide +kernel), List.mem_of_getElem? (i := 967) (by decide +kernel)⟩
def lw_privs_3 : List (MethodName × Nat) := [(⟨"LastSentenceModel", "fails", "(I)V"⟩, 39), (⟨"LastSentenceModel", "ends", "()V"⟩, 39), (⟨"LastSentenceModel", "readRoom", "()V"⟩, 39), (⟨"LastSentenceModel", "readDoor", "()V"⟩, 39), (⟨"LastSentenceModel", "readHeir", "()V"⟩, 39), (⟨"LastSentenceModel", "laysWalls", "()V"⟩, 39), (⟨"LastSentenceModel", "passes", "(III)V"⟩, 39), (⟨"LastSentenceModel", "litOf", "()I"⟩, 39), (⟨"LastSentenceModel", "isLit", "([III)Z"⟩, 39), (⟨"LastSentenceModel", "sureOnes", "()I"⟩, 39), (⟨"LastSentenceModel", "willBy", "(II)I"⟩, 39), (⟨"LastSentenceModel", "holder", "()I"⟩, 39), (⟨"LastSentenceModel", "hasRooms", "(I)I"⟩, 39), (⟨"LastSentenceModel", "isRoom", "(I)Z"⟩, 39), (⟨"LastSentenceModel", "worthOf", "(I)I"⟩, 39), (⟨"LastSentenceModel", "hearsFrom", "(II)I"⟩, 39)]
theorem lw_r3 : ∀ q ∈ lw_privs_3, lw_okq q := List.forall_mem_cons.mpr ⟨lw_p32, List.forall_mem_cons.mpr ⟨lw_p33, List.forall_mem_cons.mpr ⟨lw_p34, List.forall_mem_cons.mpr ⟨lw_p35, List.forall_mem_cons.mpr ⟨lw_p36, List.forall_mem_cons.mpr ⟨lw_p37, List.forall_mem_cons.mpr ⟨lw_p38, List.forall_mem_cons.mpr ⟨lw_p39, List.forall_mem_cons.mpr ⟨lw_p40, List.forall_mem_cons.mpr ⟨lw_p41, List.forall_mem_cons.mpr ⟨lw_p42, List.forall_mem_cons.mpr ⟨lw_p43, List.forall_mem_cons.mpr ⟨lw_p44, List.forall_mem_cons.mpr ⟨lw_p45, List.forall_mem_cons.mpr ⟨lw_p46, List.forall_mem_cons.mpr ⟨lw_p47, fun _ h => absurd h List.not_mem_nil⟩⟩⟩⟩⟩⟩⟩⟩⟩⟩⟩⟩⟩⟩⟩⟩
theorem lw_p48 : lw_okq (⟨"LastSentenceModel", "isDoor", "(I)Z"⟩, 39) := ⟨⟨by decide +kernel, by decide +kernel⟩, List.mem_of_getElem? (i := 730) (by decide +kernel), List.mem_of_getElem? (i := 977) (by decide +kernel), List.mem_of_getElem? (i := 978) (by decide +kernel)⟩
theorem lw_p49 : lw_okq (⟨"LastSentenceModel", "isHeir", "(I)Z"⟩, 39) := ⟨⟨by decide +kernel, by decide +kernel⟩, List.mem_of_getElem? (i := 730) (by decide +kernel), List.mem_of_getElem? (i := 985) (by decide +kernel), List.mem_of_getElem? (i := 986) (by decide +kernel)⟩
theorem lw_p50 : lw_okq (⟨"LastSentenceModel", "countsOf", "(I)I"⟩, 39) := ⟨⟨by decide +kernel, by decide +kernel⟩, List.mem_of_getElem? (i := 730) (by decide +kernel), List.mem_of_getElem? (i := 989) (by decide +kernel), List.mem_of_getElem? (i := 990) (by decide +kernel)⟩
theorem lw_p51 : lw_okq (⟨"LastSentenceModel", "wordedOf", "(I)I"⟩, 39) := ⟨⟨by decide +kernel, by decide +kernel⟩, List.mem_of_getElem? (i := 730) (by decide +kernel), List.mem_of_getElem? (i := 993) (by decide +kernel), List.mem_of_getElem? (i := 994) (by decide +kernel)⟩
theorem lw_p52 : lw_okq (⟨"LastSentenceModel", "countsIn", "(IIIII)I"⟩, 39) := ⟨⟨by decide +kernel, by decide +kernel⟩, List.mem_of_getElem? (i := 730) (by decide +kernel), List.mem_of_getElem? (i := 997) (by decide +kernel), List.mem_of_getElem? (i := 998) (by decide +kernel)⟩
theorem lw_p53 : lw_okq (⟨"LastSentenceModel", "whoseOf", "(II)I"⟩, 39) := ⟨⟨by decide +kernel, by decide +kernel⟩, List.mem_of_getElem? (i := 730) (by decide +kernel), List.mem_of_getElem? (i := 1001) (by decide +kernel), List.mem_of_getElem? (i := 1002) (by decide +kernel)⟩
theorem lw_p54 : lw_okq (⟨"LastSentenceModel", "notes", "()V"⟩, 39) := ⟨⟨by decide +kernel, by decide +kernel⟩, List.mem_of_getElem? (i := 730) (by decide +kernel), List.mem_of_getElem? (i := 1010) (by decide +kernel), List.mem_of_getElem? (i := 1011) (by decide +kernel)⟩
theorem lw_p55 : lw_okq (⟨"LastSentenceModel", "says", "(I)V"⟩, 39) := ⟨⟨by decide +kernel, by decide +kernel⟩, List.mem_of_getElem? (i := 730) (by decide +kernel), List.mem_of_getElem? (i := 1014) (by decide +kernel), List.mem_of_getElem? (i := 1015) (by decide +kernel)⟩
theorem lw_p56 : lw_okq (⟨"LastSentenceModel", "behind", "(II)I"⟩, 39) := ⟨⟨by decide +kernel, by decide +kernel⟩, List.mem_of_getElem? (i := 730) (by decide +kernel), List.mem_of_getElem? (i := 1022) (by decide +kernel), List.mem_of_getElem? (i := 1023) (by decide +kernel)⟩
theorem lw_p57 : lw_okq (⟨"LastSentenceModel", "hourOn", "()V"⟩, 39) := ⟨⟨by decide +kernel, by decide +kernel⟩, List.mem_of_getElem? (i := 730) (by decide +kernel), List.mem_of_getElem? (i := 1031) (by decide +kernel), List.mem_of_getElem? (i := 1032) (by decide +kernel)⟩
theorem lw_p58 : lw_okq (⟨"LastSentenceModel", "drawn", "()V"⟩, 39) := ⟨⟨by decide +kernel, by decide +kernel⟩, List.mem_of_getElem? (i := 730) (by decide +kernel), List.mem_of_getElem? (i := 1051) (by decide +kernel), List.mem_of_getElem? (i := 1052) (by decide +kernel)⟩
theorem lw_p59 : lw_okq (⟨"LastSentenceModel", "draw", "(I)I"⟩, 39) := ⟨⟨by decide +kernel, by decide +kernel⟩, List.mem_of_getElem? (i := 730) (by decide +kernel), List.mem_of_getElem? (i := 1055) (by decide +kernel), List.mem_of_getElem? (i := 1056) (by decide +kernel)⟩
theorem lw_p60 : lw_okq (⟨"LastSentenceModel", "wonOf", "(I)I"⟩, 39) := ⟨⟨by decide +kernel, by decide +kernel⟩, List.mem_of_getElem? (i := 730) (by decide +kernel), List.mem_of_getElem? (i := 1079) (by decide +kernel), List.mem_of_getElem? (i := 1080) (by decide +kernel)⟩
theorem lw_p61 : lw_okq (⟨"LastSentenceModel", "laysFew", "(II)V"⟩, 39) := ⟨⟨by decide +kernel, by decide +kernel⟩, List.mem_of_getElem? (i := 730) (by decide +kernel), List.mem_of_getElem? (i := 1083) (by decide +kernel), List.mem_of_getElem? (i := 1084) (by decide +kernel)⟩
theorem lw_p62 : lw_okq (⟨"LastSentenceModel", "goesOn", "(III)I"⟩, 39) := ⟨⟨by decide +kernel, by decide +kernel⟩, List.mem_of_getElem? (i := 730) (by decide +kernel), List.mem_of_getElem? (i := 1090) (by decide +kernel), List.mem_of_getElem? (i := 1091) (by decide +kernel)⟩
theorem lw_p63 : lw_okq (⟨"LastSentenceModel", "saysIn", "(IIII)I"⟩, 39) := ⟨⟨by decide +kernel, by decide +kernel⟩, List.mem_of_getElem? (i := 730) (by decide +kernel), List.mem_of_getElem? (i := 1094) (by decide +kernel), List.mem_of_getElem? (i := 1095) (by decide +kernel)⟩
def lw_privs_4 : List (MethodName × Nat) := [(⟨"LastSentenceModel", "isDoor", "(I)Z"⟩, 39), (⟨"LastSentenceModel", "isHeir", "(I)Z"⟩, 39), (⟨"LastSentenceModel", "countsOf", "(I)I"⟩, 39), (⟨"LastSentenceModel", "wordedOf", "(I)I"⟩, 39), (⟨"LastSentenceModel", "countsIn", "(IIIII)I"⟩, 39), (⟨"LastSentenceModel", "whoseOf", "(II)I"⟩, 39), (⟨"LastSentenceModel", "notes", "()V"⟩, 39), (⟨"LastSentenceModel", "says", "(I)V"⟩, 39), (⟨"LastSentenceModel", "behind", "(II)I"⟩, 39), (⟨"LastSentenceModel", "hourOn", "()V"⟩, 39), (⟨"LastSentenceModel", "drawn", "()V"⟩, 39), (⟨"LastSentenceModel", "draw", "(I)I"⟩, 39), (⟨"LastSentenceModel", "wonOf", "(I)I"⟩, 39), (⟨"LastSentenceModel", "laysFew", "(II)V"⟩, 39), (⟨"LastSentenceModel", "goesOn", "(III)I"⟩, 39), (⟨"LastSentenceModel", "saysIn", "(IIII)I"⟩, 39)]
theorem lw_r4 : ∀ q ∈ lw_privs_4, lw_okq q := List.forall_mem_cons.mpr ⟨lw_p48, List.forall_mem_cons.mpr ⟨lw_p49, List.forall_mem_cons.mpr ⟨lw_p50, List.forall_mem_cons.mpr ⟨lw_p51, List.forall_mem_cons.mpr ⟨lw_p52, List.forall_mem_cons.mpr ⟨lw_p53, List.forall_mem_cons.mpr ⟨lw_p54, List.forall_mem_cons.mpr ⟨lw_p55, List.forall_mem_cons.mpr ⟨lw_p56, List.forall_mem_cons.mpr ⟨lw_p57, List.forall_mem_cons.mpr ⟨lw_p58, List.forall_mem_cons.mpr ⟨lw_p59, List.forall_mem_cons.mpr ⟨lw_p60, List.forall_mem_cons.mpr ⟨lw_p61, List.forall_mem_cons.mpr ⟨lw_p62, List.forall_mem_cons.mpr ⟨lw_p63, fun _ h => absurd h List.not_mem_nil⟩⟩⟩⟩⟩⟩⟩⟩⟩⟩⟩⟩⟩⟩⟩⟩
theorem lw_p64 : lw_okq (⟨"LastSentenceModel", "latestOf", "(III)I"⟩, 39) := ⟨⟨by decide +kernel, by decide +kernel⟩, List.mem_of_getElem? (i := 730) (by decide +kernel), List.mem_of_getElem? (i := 1098) (by decide +kernel), List.mem_of_getElem? (i := 1099) (by decide +kernel)⟩
def lw_privs_5 : List (MethodName × Nat) := [(⟨"LastSentenceModel", "latestOf", "(III)I"⟩, 39)]
theorem lw_r5 : ∀ q ∈ lw_privs_5, lw_okq q := List.forall_mem_cons.mpr ⟨lw_p64, fun _ h => absurd h List.not_mem_nil⟩
def lw_privs : List (MethodName × Nat) := lw_privs_1 ++ (lw_privs_2 ++ (lw_privs_3 ++ (lw_privs_4 ++ (lw_privs_5))))
def lw_tbl : List Cond := k2_sels lw_privs ++ tables_1
theorem lw_privs_ok : ∀ q ∈ lw_privs, lw_okq q := by
  show ∀ q ∈ lw_privs_1 ++ (lw_privs_2 ++ (lw_privs_3 ++ (lw_privs_4 ++ (lw_privs_5)))), lw_okq q
  exact List.forall_mem_append.mpr ⟨lw_r1, List.forall_mem_append.mpr ⟨lw_r2, List.forall_mem_append.mpr ⟨lw_r3, List.forall_mem_append.mpr ⟨lw_r4, lw_r5⟩⟩⟩⟩
end
section
def RX0 : String := "LastSentence$Book"
def TX0 : u_T := fun k => match k with
  | 0 => ("LastSentence$Book", "count", "I", false)
  | 1 => ("LastSentence$Book", "rooms", "[I", true)
  | _ => ("LastSentence$Book", "heirs", "[I", true)
def tyX0 : Nat → FieldType := fun k => match k with
  | 0 => .int
  | 1 => .array .int
  | _ => .array .int
theorem nmX0 : ∀ a, a < 3 → ∀ b, b < 3 → a ≠ b → (TX0 a).2.1 ≠ (TX0 b).2.1 := by decide +kernel
theorem tyX0_ok : ∀ k, k < 3 → parseFieldDescriptor (TX0 k).2.2.1 = some (tyX0 k) := by decide +kernel
abbrev cX0_init : ByteArray := prog_2_method_1_code
def yX0_init : MethodName := ⟨RX0, "<init>", "()V"⟩
abbrev cX0_append : ByteArray := prog_2_method_2_code
def yX0_append : MethodName := ⟨RX0, "append", "(II)Z"⟩
abbrev cX0_firstWrong : ByteArray := prog_2_method_3_code
def yX0_firstWrong : MethodName := ⟨RX0, "firstWrong", "(LLastSentence$Night;)I"⟩
def RX1 : String := "LastSentence$House"
def TX1 : u_T := fun k => match k with
  | 0 => ("LastSentence$House", "nightHours", "I", false)
  | 1 => ("LastSentence$House", "rooms", "I", false)
  | 2 => ("LastSentence$House", "doors", "I", false)
  | 3 => ("LastSentence$House", "heirs", "I", false)
  | 4 => ("LastSentence$House", "burns", "[I", true)
  | 5 => ("LastSentence$House", "oneSide", "[I", true)
  | 6 => ("LastSentence$House", "otherSide", "[I", true)
  | 7 => ("LastSentence$House", "thick", "[I", true)
  | 8 => ("LastSentence$House", "kind", "[I", true)
  | 9 => ("LastSentence$House", "voice", "[I", true)
  | 10 => ("LastSentence$House", "start", "[I", true)
  | 11 => ("LastSentence$House", "walls", "[[I", true)
  | _ => ("LastSentence$House", "ways", "[[I", true)
def tyX1 : Nat → FieldType := fun k => match k with
  | 0 => .int
  | 1 => .int
  | 2 => .int
  | 3 => .int
  | 4 => .array .int
  | 5 => .array .int
  | 6 => .array .int
  | 7 => .array .int
  | 8 => .array .int
  | 9 => .array .int
  | 10 => .array .int
  | 11 => .array (.array .int)
  | _ => .array (.array .int)
theorem nmX1 : ∀ a, a < 13 → ∀ b, b < 13 → a ≠ b → (TX1 a).2.1 ≠ (TX1 b).2.1 := by decide +kernel
theorem tyX1_ok : ∀ k, k < 13 → parseFieldDescriptor (TX1 k).2.2.1 = some (tyX1 k) := by decide +kernel
abbrev cX1_init : ByteArray := prog_3_method_1_code
def yX1_init : MethodName := ⟨RX1, "<init>", "()V"⟩
abbrev cX1_empty : ByteArray := prog_3_method_2_code
def yX1_empty : MethodName := ⟨RX1, "empty", "()V"⟩
abbrev cX1_addRoom : ByteArray := prog_3_method_3_code
def yX1_addRoom : MethodName := ⟨RX1, "addRoom", "(I)V"⟩
abbrev cX1_addDoor : ByteArray := prog_3_method_4_code
def yX1_addDoor : MethodName := ⟨RX1, "addDoor", "(III)V"⟩
abbrev cX1_addHeir : ByteArray := prog_3_method_5_code
def yX1_addHeir : MethodName := ⟨RX1, "addHeir", "(III)V"⟩
abbrev cX1_hasRoom : ByteArray := prog_3_method_6_code
def yX1_hasRoom : MethodName := ⟨RX1, "hasRoom", "(I)Z"⟩
abbrev cX1_hasRooms : ByteArray := prog_3_method_7_code
def yX1_hasRooms : MethodName := ⟨RX1, "hasRooms", "(I)Z"⟩
abbrev cX1_hasDoor : ByteArray := prog_3_method_8_code
def yX1_hasDoor : MethodName := ⟨RX1, "hasDoor", "(I)Z"⟩
abbrev cX1_hasHeir : ByteArray := prog_3_method_9_code
def yX1_hasHeir : MethodName := ⟨RX1, "hasHeir", "(I)Z"⟩
abbrev cX1_behind : ByteArray := prog_3_method_10_code
def yX1_behind : MethodName := ⟨RX1, "behind", "(II)I"⟩
abbrev cX1_isEarly : ByteArray := prog_3_method_11_code
def yX1_isEarly : MethodName := ⟨RX1, "isEarly", "(I)Z"⟩
abbrev cX1_nameOf : ByteArray := prog_3_method_12_code
def yX1_nameOf : MethodName := ⟨RX1, "nameOf", "(II)I"⟩
abbrev cX1_isHeard : ByteArray := prog_3_method_13_code
def yX1_isHeard : MethodName := ⟨RX1, "isHeard", "(III)Z"⟩
abbrev cX1_heardFrom : ByteArray := prog_3_method_14_code
def yX1_heardFrom : MethodName := ⟨RX1, "heardFrom", "(II)I"⟩
abbrev cX1_measure : ByteArray := prog_3_method_15_code
def yX1_measure : MethodName := ⟨RX1, "measure", "()V"⟩
abbrev cX1_shorten : ByteArray := prog_3_method_16_code
def yX1_shorten : MethodName := ⟨RX1, "shorten", "([[IIII)V"⟩
abbrev cX1_shortenByRoomsBetween : ByteArray := prog_3_method_17_code
def yX1_shortenByRoomsBetween : MethodName := ⟨RX1, "shortenByRoomsBetween", "([[I)V"⟩
def RX2 : String := "LastSentence$Night"
def TX2 : u_T := fun k => match k with
  | 0 => ("LastSentence$Night", "hours", "I", false)
  | 1 => ("LastSentence$Night", "nights", "I", false)
  | 2 => ("LastSentence$Night", "sayings", "I", false)
  | 3 => ("LastSentence$Night", "outs", "I", false)
  | 4 => ("LastSentence$Night", "burns", "[I", true)
  | 5 => ("LastSentence$Night", "owner", "[I", true)
  | 6 => ("LastSentence$Night", "place", "[I", true)
  | _ => ("LastSentence$Night", "last", "[[I", true)
def tyX2 : Nat → FieldType := fun k => match k with
  | 0 => .int
  | 1 => .int
  | 2 => .int
  | 3 => .int
  | 4 => .array .int
  | 5 => .array .int
  | 6 => .array .int
  | _ => .array (.array .int)
theorem nmX2 : ∀ a, a < 8 → ∀ b, b < 8 → a ≠ b → (TX2 a).2.1 ≠ (TX2 b).2.1 := by decide +kernel
theorem tyX2_ok : ∀ k, k < 8 → parseFieldDescriptor (TX2 k).2.2.1 = some (tyX2 k) := by decide +kernel
abbrev cX2_init : ByteArray := prog_4_method_1_code
def yX2_init : MethodName := ⟨RX2, "<init>", "()V"⟩
abbrev cX2_begin : ByteArray := prog_4_method_2_code
def yX2_begin : MethodName := ⟨RX2, "begin", "(LLastSentence$House;)V"⟩
abbrev cX2_copyFrom : ByteArray := prog_4_method_3_code
def yX2_copyFrom : MethodName := ⟨RX2, "copyFrom", "(LLastSentence$Night;)V"⟩
abbrev cX2_clearNight : ByteArray := prog_4_method_4_code
def yX2_clearNight : MethodName := ⟨RX2, "clearNight", "()V"⟩
abbrev cX2_passHour : ByteArray := prog_4_method_5_code
def yX2_passHour : MethodName := ⟨RX2, "passHour", "(LLastSentence$House;)V"⟩
abbrev cX2_isOut : ByteArray := prog_4_method_6_code
def yX2_isOut : MethodName := ⟨RX2, "isOut", "(I)Z"⟩
abbrev cX2_putOut : ByteArray := prog_4_method_7_code
def yX2_putOut : MethodName := ⟨RX2, "putOut", "(I)V"⟩
abbrev cX2_lightAgain : ByteArray := prog_4_method_8_code
def yX2_lightAgain : MethodName := ⟨RX2, "lightAgain", "(I)V"⟩
abbrev cX2_isLitAt : ByteArray := prog_4_method_9_code
def yX2_isLitAt : MethodName := ⟨RX2, "isLitAt", "(II)Z"⟩
abbrev cX2_litAt : ByteArray := prog_4_method_10_code
def yX2_litAt : MethodName := ⟨RX2, "litAt", "(LLastSentence$House;I)I"⟩
abbrev cX2_hears : ByteArray := prog_4_method_11_code
def yX2_hears : MethodName := ⟨RX2, "hears", "(LLastSentence$House;I)I"⟩
abbrev cX2_reached : ByteArray := prog_4_method_12_code
def yX2_reached : MethodName := ⟨RX2, "reached", "(LLastSentence$House;IIII)I"⟩
abbrev cX2_counts : ByteArray := prog_4_method_13_code
def yX2_counts : MethodName := ⟨RX2, "counts", "(LLastSentence$House;I)I"⟩
abbrev cX2_speak : ByteArray := prog_4_method_14_code
def yX2_speak : MethodName := ⟨RX2, "speak", "(LLastSentence$House;I)V"⟩
abbrev cX2_will : ByteArray := prog_4_method_15_code
def yX2_will : MethodName := ⟨RX2, "will", "(II)I"⟩
abbrev cX2_sure : ByteArray := prog_4_method_16_code
def yX2_sure : MethodName := ⟨RX2, "sure", "(LLastSentence$House;)I"⟩
abbrev cX2_isSure : ByteArray := prog_4_method_17_code
def yX2_isSure : MethodName := ⟨RX2, "isSure", "(I)Z"⟩
abbrev cX2_worth : ByteArray := prog_4_method_18_code
def yX2_worth : MethodName := ⟨RX2, "worth", "(LLastSentence$House;I)I"⟩
abbrev cX2_holdings : ByteArray := prog_4_method_19_code
def yX2_holdings : MethodName := ⟨RX2, "holdings", "(LLastSentence$House;I)I"⟩
abbrev cX2_holder : ByteArray := prog_4_method_20_code
def yX2_holder : MethodName := ⟨RX2, "holder", "(LLastSentence$House;)I"⟩
def RX3 : String := "LastSentence$Planner"
def TX3 : u_T := fun k => match k with
  | 0 => ("LastSentence$Planner", "fewestSayings", "I", false)
  | 1 => ("LastSentence$Planner", "latestHour", "I", false)
  | 2 => ("LastSentence$Planner", "before", "[[J", true)
  | _ => ("LastSentence$Planner", "between", "[[J", true)
def tyX3 : Nat → FieldType := fun k => match k with
  | 0 => .int
  | 1 => .int
  | 2 => .array (.array .long)
  | _ => .array (.array .long)
theorem nmX3 : ∀ a, a < 4 → ∀ b, b < 4 → a ≠ b → (TX3 a).2.1 ≠ (TX3 b).2.1 := by decide +kernel
theorem tyX3_ok : ∀ k, k < 4 → parseFieldDescriptor (TX3 k).2.2.1 = some (tyX3 k) := by decide +kernel
abbrev cX3_init : ByteArray := prog_5_method_1_code
def yX3_init : MethodName := ⟨RX3, "<init>", "()V"⟩
abbrev cX3_plan : ByteArray := prog_5_method_2_code
def yX3_plan : MethodName := ⟨RX3, "plan", "(LLastSentence$House;LLastSentence$Night;II)V"⟩
abbrev cX3_missingOf : ByteArray := prog_5_method_3_code
def yX3_missingOf : MethodName := ⟨RX3, "missingOf", "(LLastSentence$House;LLastSentence$Night;II)I"⟩
abbrev cX3_beginAtMorning : ByteArray := prog_5_method_4_code
def yX3_beginAtMorning : MethodName := ⟨RX3, "beginAtMorning", "(LLastSentence$House;I)V"⟩
abbrev cX3_goOrStay : ByteArray := prog_5_method_5_code
def yX3_goOrStay : MethodName := ⟨RX3, "goOrStay", "(LLastSentence$House;I)V"⟩
abbrev cX3_sayOrNot : ByteArray := prog_5_method_6_code
def yX3_sayOrNot : MethodName := ⟨RX3, "sayOrNot", "(III)V"⟩
abbrev cX3_winnable : ByteArray := prog_5_method_7_code
def yX3_winnable : MethodName := ⟨RX3, "winnable", "(JI)J"⟩
abbrev cX3_take : ByteArray := prog_5_method_8_code
def yX3_take : MethodName := ⟨RX3, "take", "(IIII)V"⟩
def RX4 : String := "LastSentence$Seen"
def TX4 : u_T := fun k => match k with
  | 0 => ("LastSentence$Seen", "count", "I", false)
  | 1 => ("LastSentence$Seen", "rooms", "[I", true)
  | _ => ("LastSentence$Seen", "heard", "[Z", true)
def tyX4 : Nat → FieldType := fun k => match k with
  | 0 => .int
  | 1 => .array .int
  | _ => .array .boolean
theorem nmX4 : ∀ a, a < 3 → ∀ b, b < 3 → a ≠ b → (TX4 a).2.1 ≠ (TX4 b).2.1 := by decide +kernel
theorem tyX4_ok : ∀ k, k < 3 → parseFieldDescriptor (TX4 k).2.2.1 = some (tyX4 k) := by decide +kernel
abbrev cX4_init : ByteArray := prog_6_method_1_code
def yX4_init : MethodName := ⟨RX4, "<init>", "()V"⟩
abbrev cX4_append : ByteArray := prog_6_method_2_code
def yX4_append : MethodName := ⟨RX4, "append", "(IZ)Z"⟩
abbrev cX4_suspects : ByteArray := prog_6_method_3_code
def yX4_suspects : MethodName := ⟨RX4, "suspects", "(LLastSentence$House;LLastSentence$Night;)I"⟩
abbrev cX4_fits : ByteArray := prog_6_method_4_code
def yX4_fits : MethodName := ⟨RX4, "fits", "(I)Z"⟩
abbrev cX4_bestRoom : ByteArray := prog_6_method_5_code
def yX4_bestRoom : MethodName := ⟨RX4, "bestRoom", "(LLastSentence$House;LLastSentence$Night;)I"⟩
abbrev cX4_greaterPart : ByteArray := prog_6_method_6_code
def yX4_greaterPart : MethodName := ⟨RX4, "greaterPart", "(LLastSentence$House;LLastSentence$Night;II)I"⟩
def RX5 : String := "LastSentence$Text"
def TX5 : u_T := fun k => match k with
  | 0 => ("LastSentence$Text", "letters", "[I", true)
  | 1 => ("LastSentence$Text", "length", "I", false)
  | 2 => ("LastSentence$Text", "faultKind", "I", false)
  | 3 => ("LastSentence$Text", "faultAt", "I", false)
  | _ => ("LastSentence$Text", "at", "I", false)
def tyX5 : Nat → FieldType := fun k => match k with
  | 0 => .array .int
  | 1 => .int
  | 2 => .int
  | 3 => .int
  | _ => .int
theorem nmX5 : ∀ a, a < 5 → ∀ b, b < 5 → a ≠ b → (TX5 a).2.1 ≠ (TX5 b).2.1 := by decide +kernel
theorem tyX5_ok : ∀ k, k < 5 → parseFieldDescriptor (TX5 k).2.2.1 = some (tyX5 k) := by decide +kernel
abbrev cX5_init : ByteArray := prog_7_method_1_code
def yX5_init : MethodName := ⟨RX5, "<init>", "()V"⟩
abbrev cX5_append : ByteArray := prog_7_method_2_code
def yX5_append : MethodName := ⟨RX5, "append", "(I)Z"⟩
abbrev cX5_readInto : ByteArray := prog_7_method_3_code
def yX5_readInto : MethodName := ⟨RX5, "readInto", "(LLastSentence$House;)V"⟩
abbrev cX5_readClause : ByteArray := prog_7_method_4_code
def yX5_readClause : MethodName := ⟨RX5, "readClause", "(LLastSentence$House;)V"⟩
abbrev cX5_readNight : ByteArray := prog_7_method_5_code
def yX5_readNight : MethodName := ⟨RX5, "readNight", "(LLastSentence$House;I)V"⟩
abbrev cX5_readRoom : ByteArray := prog_7_method_6_code
def yX5_readRoom : MethodName := ⟨RX5, "readRoom", "(LLastSentence$House;I)V"⟩
abbrev cX5_readDoor : ByteArray := prog_7_method_7_code
def yX5_readDoor : MethodName := ⟨RX5, "readDoor", "(LLastSentence$House;I)V"⟩
abbrev cX5_readHeir : ByteArray := prog_7_method_8_code
def yX5_readHeir : MethodName := ⟨RX5, "readHeir", "(LLastSentence$House;I)V"⟩
abbrev cX5_readNumber : ByteArray := prog_7_method_9_code
def yX5_readNumber : MethodName := ⟨RX5, "readNumber", "(II)I"⟩
abbrev cX5_readEnd : ByteArray := prog_7_method_10_code
def yX5_readEnd : MethodName := ⟨RX5, "readEnd", "()Z"⟩
abbrev cX5_skipBlanks : ByteArray := prog_7_method_11_code
def yX5_skipBlanks : MethodName := ⟨RX5, "skipBlanks", "()V"⟩
abbrev cX5_failIf : ByteArray := prog_7_method_12_code
def yX5_failIf : MethodName := ⟨RX5, "failIf", "(ZII)V"⟩
abbrev cX5_fail : ByteArray := prog_7_method_13_code
def yX5_fail : MethodName := ⟨RX5, "fail", "(II)V"⟩
def RX6 : String := "LastSentence$Trail"
def TX6 : u_T := fun k => match k with
  | 0 => ("LastSentence$Trail", "states", "[LLastSentence$Night;", true)
  | 1 => ("LastSentence$Trail", "count", "I", false)
  | _ => ("LastSentence$Trail", "next", "I", false)
def tyX6 : Nat → FieldType := fun k => match k with
  | 0 => .array (.object "LastSentence$Night")
  | 1 => .int
  | _ => .int
theorem nmX6 : ∀ a, a < 3 → ∀ b, b < 3 → a ≠ b → (TX6 a).2.1 ≠ (TX6 b).2.1 := by decide +kernel
theorem tyX6_ok : ∀ k, k < 3 → parseFieldDescriptor (TX6 k).2.2.1 = some (tyX6 k) := by decide +kernel
abbrev cX6_init : ByteArray := prog_8_method_1_code
def yX6_init : MethodName := ⟨RX6, "<init>", "()V"⟩
abbrev cX6_clear : ByteArray := prog_8_method_2_code
def yX6_clear : MethodName := ⟨RX6, "clear", "()V"⟩
abbrev cX6_remember : ByteArray := prog_8_method_3_code
def yX6_remember : MethodName := ⟨RX6, "remember", "(LLastSentence$Night;)V"⟩
abbrev cX6_takeBack : ByteArray := prog_8_method_4_code
def yX6_takeBack : MethodName := ⟨RX6, "takeBack", "(ILLastSentence$Night;)V"⟩
def RX7 : String := "LastSentence"
def TX7 : u_T := fun k => match k with
  | 0 => ("LastSentence", "text", "LLastSentence$Text;", true)
  | 1 => ("LastSentence", "house", "LLastSentence$House;", false)
  | 2 => ("LastSentence", "draft", "LLastSentence$House;", false)
  | 3 => ("LastSentence", "night", "LLastSentence$Night;", true)
  | 4 => ("LastSentence", "trail", "LLastSentence$Trail;", true)
  | 5 => ("LastSentence", "images", "[LLastSentence$Night;", true)
  | 6 => ("LastSentence", "imageSeeds", "[I", true)
  | 7 => ("LastSentence", "kept", "[Z", true)
  | 8 => ("LastSentence", "planner", "LLastSentence$Planner;", true)
  | 9 => ("LastSentence", "seen", "LLastSentence$Seen;", true)
  | 10 => ("LastSentence", "book", "LLastSentence$Book;", true)
  | 11 => ("LastSentence", "drawSeed", "I", false)
  | _ => ("LastSentence", "latestFault", "I", false)
def tyX7 : Nat → FieldType := fun k => match k with
  | 0 => .object "LastSentence$Text"
  | 1 => .object "LastSentence$House"
  | 2 => .object "LastSentence$House"
  | 3 => .object "LastSentence$Night"
  | 4 => .object "LastSentence$Trail"
  | 5 => .array (.object "LastSentence$Night")
  | 6 => .array .int
  | 7 => .array .boolean
  | 8 => .object "LastSentence$Planner"
  | 9 => .object "LastSentence$Seen"
  | 10 => .object "LastSentence$Book"
  | 11 => .int
  | _ => .int
theorem nmX7 : ∀ a, a < 13 → ∀ b, b < 13 → a ≠ b → (TX7 a).2.1 ≠ (TX7 b).2.1 := by decide +kernel
theorem tyX7_ok : ∀ k, k < 13 → parseFieldDescriptor (TX7 k).2.2.1 = some (tyX7 k) := by decide +kernel
abbrev cX7_init : ByteArray := prog_1_method_1_code
def yX7_init : MethodName := ⟨RX7, "<init>", "()V"⟩
abbrev cX7_feed : ByteArray := prog_1_method_2_code
def yX7_feed : MethodName := ⟨RX7, "feed", "(I)I"⟩
abbrev cX7_manor : ByteArray := prog_1_method_3_code
def yX7_manor : MethodName := ⟨RX7, "manor", "()I"⟩
abbrev cX7_fault : ByteArray := prog_1_method_4_code
def yX7_fault : MethodName := ⟨RX7, "fault", "()I"⟩
abbrev cX7_told : ByteArray := prog_1_method_5_code
def yX7_told : MethodName := ⟨RX7, "told", "(I)I"⟩
abbrev cX7_room : ByteArray := prog_1_method_6_code
def yX7_room : MethodName := ⟨RX7, "room", "(II)I"⟩
abbrev cX7_door : ByteArray := prog_1_method_7_code
def yX7_door : MethodName := ⟨RX7, "door", "(II)I"⟩
abbrev cX7_heir : ByteArray := prog_1_method_8_code
def yX7_heir : MethodName := ⟨RX7, "heir", "(II)I"⟩
abbrev cX7_say : ByteArray := prog_1_method_9_code
def yX7_say : MethodName := ⟨RX7, "say", "(I)I"⟩
abbrev cX7_go : ByteArray := prog_1_method_10_code
def yX7_go : MethodName := ⟨RX7, "go", "(II)I"⟩
abbrev cX7_hour : ByteArray := prog_1_method_11_code
def yX7_hour : MethodName := ⟨RX7, "hour", "(I)I"⟩
abbrev cX7_out : ByteArray := prog_1_method_12_code
def yX7_out : MethodName := ⟨RX7, "out", "(I)I"⟩
abbrev cX7_light : ByteArray := prog_1_method_13_code
def yX7_light : MethodName := ⟨RX7, "light", "(I)I"⟩
abbrev cX7_candle : ByteArray := prog_1_method_14_code
def yX7_candle : MethodName := ⟨RX7, "candle", "(II)I"⟩
abbrev cX7_drift : ByteArray := prog_1_method_15_code
def yX7_drift : MethodName := ⟨RX7, "drift", "(I)I"⟩
abbrev cX7_undo : ByteArray := prog_1_method_16_code
def yX7_undo : MethodName := ⟨RX7, "undo", "(I)I"⟩
abbrev cX7_refusalOfHours : ByteArray := prog_1_method_17_code
def yX7_refusalOfHours : MethodName := ⟨RX7, "refusalOfHours", "(I)I"⟩
abbrev cX7_actByDraw : ByteArray := prog_1_method_18_code
def yX7_actByDraw : MethodName := ⟨RX7, "actByDraw", "()V"⟩
abbrev cX7_goByDraw : ByteArray := prog_1_method_19_code
def yX7_goByDraw : MethodName := ⟨RX7, "goByDraw", "(I)V"⟩
abbrev cX7_draw : ByteArray := prog_1_method_20_code
def yX7_draw : MethodName := ⟨RX7, "draw", "(I)I"⟩
abbrev cX7_wall : ByteArray := prog_1_method_21_code
def yX7_wall : MethodName := ⟨RX7, "wall", "(II)I"⟩
abbrev cX7_way : ByteArray := prog_1_method_22_code
def yX7_way : MethodName := ⟨RX7, "way", "(II)I"⟩
abbrev cX7_fewest : ByteArray := prog_1_method_23_code
def yX7_fewest : MethodName := ⟨RX7, "fewest", "(III)I"⟩
abbrev cX7_reading : ByteArray := prog_1_method_24_code
def yX7_reading : MethodName := ⟨RX7, "reading", "(II)I"⟩
abbrev cX7_quiet : ByteArray := prog_1_method_25_code
def yX7_quiet : MethodName := ⟨RX7, "quiet", "(II)I"⟩
abbrev cX7_see : ByteArray := prog_1_method_26_code
def yX7_see : MethodName := ⟨RX7, "see", "(IZ)I"⟩
abbrev cX7_couldBe : ByteArray := prog_1_method_27_code
def yX7_couldBe : MethodName := ⟨RX7, "couldBe", "()I"⟩
abbrev cX7_ask : ByteArray := prog_1_method_28_code
def yX7_ask : MethodName := ⟨RX7, "ask", "()I"⟩
abbrev cX7_write : ByteArray := prog_1_method_29_code
def yX7_write : MethodName := ⟨RX7, "write", "(II)I"⟩
abbrev cX7_judge : ByteArray := prog_1_method_30_code
def yX7_judge : MethodName := ⟨RX7, "judge", "()I"⟩
abbrev cX7_tear : ByteArray := prog_1_method_31_code
def yX7_tear : MethodName := ⟨RX7, "tear", "()I"⟩
abbrev cX7_seed : ByteArray := prog_1_method_32_code
def yX7_seed : MethodName := ⟨RX7, "seed", "(I)I"⟩
abbrev cX7_keep : ByteArray := prog_1_method_33_code
def yX7_keep : MethodName := ⟨RX7, "keep", "(I)I"⟩
abbrev cX7_goBack : ByteArray := prog_1_method_34_code
def yX7_goBack : MethodName := ⟨RX7, "goBack", "(I)I"⟩
abbrev cX7_forgetImages : ByteArray := prog_1_method_35_code
def yX7_forgetImages : MethodName := ⟨RX7, "forgetImages", "()V"⟩
def RX8 : String := "LastSentenceModel"
def TX8 : u_T := fun k => match k with
  | 0 => ("LastSentenceModel", "text", "[I", true)
  | 1 => ("LastSentenceModel", "length", "I", false)
  | 2 => ("LastSentenceModel", "faultAt", "I", false)
  | 3 => ("LastSentenceModel", "hours", "I", false)
  | 4 => ("LastSentenceModel", "rooms", "I", false)
  | 5 => ("LastSentenceModel", "doors", "I", false)
  | 6 => ("LastSentenceModel", "heirs", "I", false)
  | 7 => ("LastSentenceModel", "doorA", "[I", true)
  | 8 => ("LastSentenceModel", "doorB", "[I", true)
  | 9 => ("LastSentenceModel", "thick", "[I", true)
  | 10 => ("LastSentenceModel", "kind", "[I", true)
  | 11 => ("LastSentenceModel", "voice", "[I", true)
  | 12 => ("LastSentenceModel", "walls", "[I", true)
  | 13 => ("LastSentenceModel", "ways", "[I", true)
  | 14 => ("LastSentenceModel", "st", "[I", true)
  | 15 => ("LastSentenceModel", "deeds", "[I", true)
  | 16 => ("LastSentenceModel", "deedsMany", "I", false)
  | 17 => ("LastSentenceModel", "seed", "J", false)
  | 18 => ("LastSentenceModel", "images", "[I", true)
  | 19 => ("LastSentenceModel", "seeds", "[J", true)
  | 20 => ("LastSentenceModel", "isKept", "[Z", true)
  | 21 => ("LastSentenceModel", "seen", "[I", true)
  | 22 => ("LastSentenceModel", "seenMany", "I", false)
  | 23 => ("LastSentenceModel", "book", "[I", true)
  | 24 => ("LastSentenceModel", "bookMany", "I", false)
  | 25 => ("LastSentenceModel", "place", "I", false)
  | 26 => ("LastSentenceModel", "wrong", "I", false)
  | 27 => ("LastSentenceModel", "wrongAt", "I", false)
  | 28 => ("LastSentenceModel", "readHours", "I", false)
  | 29 => ("LastSentenceModel", "readRooms", "I", false)
  | 30 => ("LastSentenceModel", "readDoors", "I", false)
  | 31 => ("LastSentenceModel", "readHeirs", "I", false)
  | 32 => ("LastSentenceModel", "readA", "[I", true)
  | 33 => ("LastSentenceModel", "readB", "[I", true)
  | 34 => ("LastSentenceModel", "readThick", "[I", true)
  | 35 => ("LastSentenceModel", "readKind", "[I", true)
  | 36 => ("LastSentenceModel", "readVoice", "[I", true)
  | 37 => ("LastSentenceModel", "read", "[I", true)
  | _ => ("LastSentenceModel", "few", "[I", true)
def tyX8 : Nat → FieldType := fun k => match k with
  | 0 => .array .int
  | 1 => .int
  | 2 => .int
  | 3 => .int
  | 4 => .int
  | 5 => .int
  | 6 => .int
  | 7 => .array .int
  | 8 => .array .int
  | 9 => .array .int
  | 10 => .array .int
  | 11 => .array .int
  | 12 => .array .int
  | 13 => .array .int
  | 14 => .array .int
  | 15 => .array .int
  | 16 => .int
  | 17 => .long
  | 18 => .array .int
  | 19 => .array .long
  | 20 => .array .boolean
  | 21 => .array .int
  | 22 => .int
  | 23 => .array .int
  | 24 => .int
  | 25 => .int
  | 26 => .int
  | 27 => .int
  | 28 => .int
  | 29 => .int
  | 30 => .int
  | 31 => .int
  | 32 => .array .int
  | 33 => .array .int
  | 34 => .array .int
  | 35 => .array .int
  | 36 => .array .int
  | 37 => .array .int
  | _ => .array .int
theorem nmX8 : ∀ a, a < 39 → ∀ b, b < 39 → a ≠ b → (TX8 a).2.1 ≠ (TX8 b).2.1 := by decide +kernel
theorem tyX8_ok : ∀ k, k < 39 → parseFieldDescriptor (TX8 k).2.2.1 = some (tyX8 k) := by decide +kernel
abbrev cX8_init : ByteArray := prog_10_method_1_code
def yX8_init : MethodName := ⟨RX8, "<init>", "()V"⟩
abbrev cX8_in : ByteArray := prog_10_method_3_code
def yX8_in : MethodName := ⟨RX8, "in", "(III)Z"⟩
abbrev cX8_has : ByteArray := prog_10_method_4_code
def yX8_has : MethodName := ⟨RX8, "has", "(II)Z"⟩
abbrev cX8_bits : ByteArray := prog_10_method_5_code
def yX8_bits : MethodName := ⟨RX8, "bits", "(I)I"⟩
abbrev cX8_bring : ByteArray := prog_10_method_6_code
def yX8_bring : MethodName := ⟨RX8, "bring", "([II[III)V"⟩
abbrev cX8_isRoom : ByteArray := prog_10_method_7_code
def yX8_isRoom : MethodName := ⟨RX8, "isRoom", "(I)Z"⟩
abbrev cX8_isHeir : ByteArray := prog_10_method_8_code
def yX8_isHeir : MethodName := ⟨RX8, "isHeir", "(I)Z"⟩
abbrev cX8_isDoor : ByteArray := prog_10_method_9_code
def yX8_isDoor : MethodName := ⟨RX8, "isDoor", "(I)Z"⟩
abbrev cX8_feed : ByteArray := prog_10_method_10_code
def yX8_feed : MethodName := ⟨RX8, "feed", "(I)I"⟩
abbrev cX8_here : ByteArray := prog_10_method_11_code
def yX8_here : MethodName := ⟨RX8, "here", "()I"⟩
abbrev cX8_skips : ByteArray := prog_10_method_12_code
def yX8_skips : MethodName := ⟨RX8, "skips", "()V"⟩
abbrev cX8_fails : ByteArray := prog_10_method_13_code
def yX8_fails : MethodName := ⟨RX8, "fails", "(I)V"⟩
abbrev cX8_number : ByteArray := prog_10_method_14_code
def yX8_number : MethodName := ⟨RX8, "number", "(III)I"⟩
abbrev cX8_ends : ByteArray := prog_10_method_15_code
def yX8_ends : MethodName := ⟨RX8, "ends", "()V"⟩
abbrev cX8_readRoom : ByteArray := prog_10_method_16_code
def yX8_readRoom : MethodName := ⟨RX8, "readRoom", "()V"⟩
abbrev cX8_readDoor : ByteArray := prog_10_method_17_code
def yX8_readDoor : MethodName := ⟨RX8, "readDoor", "()V"⟩
abbrev cX8_readHeir : ByteArray := prog_10_method_18_code
def yX8_readHeir : MethodName := ⟨RX8, "readHeir", "()V"⟩
abbrev cX8_readClause : ByteArray := prog_10_method_19_code
def yX8_readClause : MethodName := ⟨RX8, "readClause", "()V"⟩
abbrev cX8_readManor : ByteArray := prog_10_method_20_code
def yX8_readManor : MethodName := ⟨RX8, "readManor", "()V"⟩
abbrev cX8_manor : ByteArray := prog_10_method_21_code
def yX8_manor : MethodName := ⟨RX8, "manor", "()I"⟩
abbrev cX8_fault : ByteArray := prog_10_method_22_code
def yX8_fault : MethodName := ⟨RX8, "fault", "()I"⟩
abbrev cX8_passes : ByteArray := prog_10_method_23_code
def yX8_passes : MethodName := ⟨RX8, "passes", "(III)V"⟩
abbrev cX8_laysWalls : ByteArray := prog_10_method_24_code
def yX8_laysWalls : MethodName := ⟨RX8, "laysWalls", "()V"⟩
abbrev cX8_isLit : ByteArray := prog_10_method_25_code
def yX8_isLit : MethodName := ⟨RX8, "isLit", "([III)Z"⟩
abbrev cX8_litOf : ByteArray := prog_10_method_26_code
def yX8_litOf : MethodName := ⟨RX8, "litOf", "()I"⟩
abbrev cX8_hearsFrom : ByteArray := prog_10_method_27_code
def yX8_hearsFrom : MethodName := ⟨RX8, "hearsFrom", "(II)I"⟩
abbrev cX8_countsIn : ByteArray := prog_10_method_28_code
def yX8_countsIn : MethodName := ⟨RX8, "countsIn", "(IIIII)I"⟩
abbrev cX8_whoseOf : ByteArray := prog_10_method_29_code
def yX8_whoseOf : MethodName := ⟨RX8, "whoseOf", "(II)I"⟩
abbrev cX8_wordedOf : ByteArray := prog_10_method_30_code
def yX8_wordedOf : MethodName := ⟨RX8, "wordedOf", "(I)I"⟩
abbrev cX8_countsOf : ByteArray := prog_10_method_31_code
def yX8_countsOf : MethodName := ⟨RX8, "countsOf", "(I)I"⟩
abbrev cX8_says : ByteArray := prog_10_method_32_code
def yX8_says : MethodName := ⟨RX8, "says", "(I)V"⟩
abbrev cX8_hourOn : ByteArray := prog_10_method_33_code
def yX8_hourOn : MethodName := ⟨RX8, "hourOn", "()V"⟩
abbrev cX8_willBy : ByteArray := prog_10_method_34_code
def yX8_willBy : MethodName := ⟨RX8, "willBy", "(II)I"⟩
abbrev cX8_sureOnes : ByteArray := prog_10_method_35_code
def yX8_sureOnes : MethodName := ⟨RX8, "sureOnes", "()I"⟩
abbrev cX8_hasRooms : ByteArray := prog_10_method_36_code
def yX8_hasRooms : MethodName := ⟨RX8, "hasRooms", "(I)I"⟩
abbrev cX8_holder : ByteArray := prog_10_method_37_code
def yX8_holder : MethodName := ⟨RX8, "holder", "()I"⟩
abbrev cX8_told : ByteArray := prog_10_method_38_code
def yX8_told : MethodName := ⟨RX8, "told", "(I)I"⟩
abbrev cX8_worthOf : ByteArray := prog_10_method_39_code
def yX8_worthOf : MethodName := ⟨RX8, "worthOf", "(I)I"⟩
abbrev cX8_room : ByteArray := prog_10_method_40_code
def yX8_room : MethodName := ⟨RX8, "room", "(II)I"⟩
abbrev cX8_door : ByteArray := prog_10_method_41_code
def yX8_door : MethodName := ⟨RX8, "door", "(II)I"⟩
abbrev cX8_heir : ByteArray := prog_10_method_42_code
def yX8_heir : MethodName := ⟨RX8, "heir", "(II)I"⟩
abbrev cX8_notes : ByteArray := prog_10_method_43_code
def yX8_notes : MethodName := ⟨RX8, "notes", "()V"⟩
abbrev cX8_say : ByteArray := prog_10_method_44_code
def yX8_say : MethodName := ⟨RX8, "say", "(I)I"⟩
abbrev cX8_behind : ByteArray := prog_10_method_45_code
def yX8_behind : MethodName := ⟨RX8, "behind", "(II)I"⟩
abbrev cX8_go : ByteArray := prog_10_method_46_code
def yX8_go : MethodName := ⟨RX8, "go", "(II)I"⟩
abbrev cX8_hour : ByteArray := prog_10_method_47_code
def yX8_hour : MethodName := ⟨RX8, "hour", "(I)I"⟩
abbrev cX8_out : ByteArray := prog_10_method_48_code
def yX8_out : MethodName := ⟨RX8, "out", "(I)I"⟩
abbrev cX8_light : ByteArray := prog_10_method_49_code
def yX8_light : MethodName := ⟨RX8, "light", "(I)I"⟩
abbrev cX8_candle : ByteArray := prog_10_method_50_code
def yX8_candle : MethodName := ⟨RX8, "candle", "(II)I"⟩
abbrev cX8_draw : ByteArray := prog_10_method_51_code
def yX8_draw : MethodName := ⟨RX8, "draw", "(I)I"⟩
abbrev cX8_drawn : ByteArray := prog_10_method_52_code
def yX8_drawn : MethodName := ⟨RX8, "drawn", "()V"⟩
abbrev cX8_drift : ByteArray := prog_10_method_53_code
def yX8_drift : MethodName := ⟨RX8, "drift", "(I)I"⟩
abbrev cX8_undo : ByteArray := prog_10_method_54_code
def yX8_undo : MethodName := ⟨RX8, "undo", "(I)I"⟩
abbrev cX8_wall : ByteArray := prog_10_method_55_code
def yX8_wall : MethodName := ⟨RX8, "wall", "(II)I"⟩
abbrev cX8_way : ByteArray := prog_10_method_56_code
def yX8_way : MethodName := ⟨RX8, "way", "(II)I"⟩
abbrev cX8_at : ByteArray := prog_10_method_57_code
def yX8_at : MethodName := ⟨RX8, "at", "(III)I"⟩
abbrev cX8_goesOn : ByteArray := prog_10_method_58_code
def yX8_goesOn : MethodName := ⟨RX8, "goesOn", "(III)I"⟩
abbrev cX8_saysIn : ByteArray := prog_10_method_59_code
def yX8_saysIn : MethodName := ⟨RX8, "saysIn", "(IIII)I"⟩
abbrev cX8_laysFew : ByteArray := prog_10_method_60_code
def yX8_laysFew : MethodName := ⟨RX8, "laysFew", "(II)V"⟩
abbrev cX8_wonOf : ByteArray := prog_10_method_61_code
def yX8_wonOf : MethodName := ⟨RX8, "wonOf", "(I)I"⟩
abbrev cX8_latestOf : ByteArray := prog_10_method_62_code
def yX8_latestOf : MethodName := ⟨RX8, "latestOf", "(III)I"⟩
abbrev cX8_fewest : ByteArray := prog_10_method_63_code
def yX8_fewest : MethodName := ⟨RX8, "fewest", "(III)I"⟩
abbrev cX8_reading : ByteArray := prog_10_method_64_code
def yX8_reading : MethodName := ⟨RX8, "reading", "(II)I"⟩
abbrev cX8_quiet : ByteArray := prog_10_method_65_code
def yX8_quiet : MethodName := ⟨RX8, "quiet", "(II)I"⟩
abbrev cX8_see : ByteArray := prog_10_method_66_code
def yX8_see : MethodName := ⟨RX8, "see", "(IZ)I"⟩
abbrev cX8_couldBe : ByteArray := prog_10_method_67_code
def yX8_couldBe : MethodName := ⟨RX8, "couldBe", "()I"⟩
abbrev cX8_ask : ByteArray := prog_10_method_68_code
def yX8_ask : MethodName := ⟨RX8, "ask", "()I"⟩
abbrev cX8_write : ByteArray := prog_10_method_69_code
def yX8_write : MethodName := ⟨RX8, "write", "(II)I"⟩
abbrev cX8_judge : ByteArray := prog_10_method_70_code
def yX8_judge : MethodName := ⟨RX8, "judge", "()I"⟩
abbrev cX8_tear : ByteArray := prog_10_method_71_code
def yX8_tear : MethodName := ⟨RX8, "tear", "()I"⟩
abbrev cX8_seed : ByteArray := prog_10_method_72_code
def yX8_seed : MethodName := ⟨RX8, "seed", "(I)I"⟩
abbrev cX8_keep : ByteArray := prog_10_method_73_code
def yX8_keep : MethodName := ⟨RX8, "keep", "(I)I"⟩
abbrev cX8_goBack : ByteArray := prog_10_method_74_code
def yX8_goBack : MethodName := ⟨RX8, "goBack", "(I)I"⟩
def RJ6 : String := "java/lang/Integer"
def TJ6 : u_T := fun k => match k with
  | _ => ("", "", "", false)
def tyJ6 : Nat → FieldType := fun k => match k with
  | _ => .int
theorem nmJ6 : ∀ a, a < 0 → ∀ b, b < 0 → a ≠ b → (TJ6 a).2.1 ≠ (TJ6 b).2.1 := by decide +kernel
theorem tyJ6_ok : ∀ k, k < 0 → parseFieldDescriptor (TJ6 k).2.2.1 = some (tyJ6 k) := by decide +kernel
abbrev cJ6_bitCount_0f7a4 : ByteArray := prog_11_method_49_code
def yJ6_bitCount_0f7a4 : MethodName := ⟨RJ6, "bitCount", "(I)I"⟩
def RJ9 : String := "java/lang/Math"
def TJ9 : u_T := fun k => match k with
  | _ => ("", "", "", false)
def tyJ9 : Nat → FieldType := fun k => match k with
  | _ => .int
theorem nmJ9 : ∀ a, a < 0 → ∀ b, b < 0 → a ≠ b → (TJ9 a).2.1 ≠ (TJ9 b).2.1 := by decide +kernel
theorem tyJ9_ok : ∀ k, k < 0 → parseFieldDescriptor (TJ9 k).2.2.1 = some (tyJ9 k) := by decide +kernel
abbrev cJ9_floorMod_7cf53 : ByteArray := prog_12_method_50_code
def yJ9_floorMod_7cf53 : MethodName := ⟨RJ9, "floorMod", "(II)I"⟩
abbrev cJ9_max_7cf53 : ByteArray := prog_12_method_65_code
def yJ9_max_7cf53 : MethodName := ⟨RJ9, "max", "(II)I"⟩
abbrev cJ9_min_7cf53 : ByteArray := prog_12_method_69_code
def yJ9_min_7cf53 : MethodName := ⟨RJ9, "min", "(II)I"⟩
def RJ10 : String := "java/lang/System"
def TJ10 : u_T := fun k => match k with
  | _ => ("", "", "", false)
def tyJ10 : Nat → FieldType := fun k => match k with
  | _ => .int
theorem nmJ10 : ∀ a, a < 0 → ∀ b, b < 0 → a ≠ b → (TJ10 a).2.1 ≠ (TJ10 b).2.1 := by decide +kernel
theorem tyJ10_ok : ∀ k, k < 0 → parseFieldDescriptor (TJ10 k).2.2.1 = some (tyJ10 k) := by decide +kernel
def RJ7 : String := "java/util/Arrays"
def TJ7 : u_T := fun k => match k with
  | _ => ("", "", "", false)
def tyJ7 : Nat → FieldType := fun k => match k with
  | _ => .int
theorem nmJ7 : ∀ a, a < 0 → ∀ b, b < 0 → a ≠ b → (TJ7 a).2.1 ≠ (TJ7 b).2.1 := by decide +kernel
theorem tyJ7_ok : ∀ k, k < 0 → parseFieldDescriptor (TJ7 k).2.2.1 = some (tyJ7 k) := by decide +kernel
abbrev cJ7_fill_53178 : ByteArray := prog_14_method_103_code
def yJ7_fill_53178 : MethodName := ⟨RJ7, "fill", "([II)V"⟩
def RL : String := "LastSentenceLaw"
abbrev cL_law : ByteArray := code
def yL_law : MethodName := ⟨RL, "law", "([I)Z"⟩
abbrev vwCl : List vw_C := [(RX0, TX0, 3), (RX1, TX1, 13), (RX2, TX2, 8), (RX3, TX3, 4), (RX4, TX4, 3), (RX5, TX5, 5), (RX6, TX6, 3), (RX7, TX7, 13), (RX8, TX8, 39)]
end
section
/-! THE ABSTRACT MACHINE: a heap of numbered cells (number 0: the script, 1: the static table, the rest as they were made, one behind another), frames over it. x_Rn: from this frame the method comes to its end; x_Met: a method's contract, from one heap to what holds of the next. -/
abbrev xC : Type := (Nat × vp_A) ⊕ (Nat × List Value)
abbrev xH : Type := List xC
/-- base (where our cells begin), the script's cell, the table's cell, the classes' numbers and slots, the array classes -/
abbrev xG : Type := Nat × Nat × Nat × va_G × (Nat → ClassId)
def x_sg (G : xG) : Nat → Nat
  | 0 => G.2.1
  | 1 => G.2.2.1
  | i + 2 => G.1 + i
def x_cv (G : xG) : Value → Value
  | .ref i => .ref (x_sg G i)
  | v => v
def x_ca (G : xG) (a : vp_A) : vp_A := match a with
  | (n, .inr (.inr (.inr (.inr f)))) => (n, .inr (.inr (.inr (.inr (fun j => (f j).map (x_sg G))))))
  | a => a
def x_ce (G : xG) (c : xC) : va_E := match c with
  | .inl (k, a) => .inl (G.2.2.2.2 k, x_ca G a)
  | .inr (ci, fs) => .inr (ci, fs.map (x_cv G))
def x_ws (G : xG) (h : xH) : va_W := (h.drop 2).mapIdx (fun i e => (G.1 + i, x_ce G e))
theorem x_cv_cat (G : xG) (v : Value) : (x_cv G v).category = v.category := by cases v <;> rfl
theorem x_cv_rf (G : xG) (o : Option Nat) : x_cv G (va_rf o) = va_rf (o.map (x_sg G)) := by cases o <;> rfl
theorem x_ws_get {G : xG} {h : xH} {i : Nat} {e : xC} (hi : h[i + 2]? = some e) : (x_ws G h)[i]? = some (x_sg G (i + 2), x_ce G e) := by
  unfold x_ws
  rw [List.getElem?_mapIdx, List.getElem?_drop, Nat.add_comm 2 i, hi]
  rfl
theorem x_ws_of {G : xG} {h : xH} {i : Nat} {q : Nat × va_E} (hi : (x_ws G h)[i]? = some q) : ∃ e, h[i + 2]? = some e ∧ q = (G.1 + i, x_ce G e) := by
  unfold x_ws at hi
  rw [List.getElem?_mapIdx, List.getElem?_drop, Nat.add_comm 2 i] at hi
  cases he : h[i + 2]? with
  | none => rw [he] at hi; cases hi
  | some e => rw [he] at hi; exact ⟨e, rfl, (Option.some.inj hi).symm⟩
theorem x_ws_set (G : xG) (h : xH) (i : Nat) (e : xC) : x_ws G (h.set (i + 2) e) = (x_ws G h).set i (x_sg G (i + 2), x_ce G e) := by
  apply List.ext_getElem?
  intro j
  unfold x_ws
  rw [List.getElem?_mapIdx, List.getElem?_drop, List.getElem?_set, List.getElem?_set, List.getElem?_mapIdx, List.getElem?_drop]
  by_cases hj : i = j
  · subst hj
    rw [if_pos (by omega), if_pos rfl]
    have hl : ((h.drop 2).mapIdx (fun i e => (G.1 + i, x_ce G e))).length = h.length - 2 := by simp
    rw [hl]
    by_cases hb : i < h.length - 2
    · rw [if_pos hb, if_pos (by omega)]; rfl
    · rw [if_neg hb, if_neg (by omega)]; rfl
  · rw [if_neg (by omega), if_neg hj]
theorem x_ws_push (G : xG) (h : xH) (e : xC) (h2 : 2 ≤ h.length) : x_ws G (h ++ [e]) = x_ws G h ++ [(G.1 + (h.length - 2), x_ce G e)] := by
  unfold x_ws
  rw [List.drop_append_of_le_length h2, List.mapIdx_append]
  simp
theorem x_ws_len (G : xG) (h : xH) : (x_ws G h).length = h.length - 2 := by unfold x_ws; simp
theorem x_ws_D (G : xG) (h : xH) : va_D (fun q => G.1 ≤ q) (x_ws G h) := by
  refine ⟨fun i j p q hi hj hpq => ?_, fun k q hk => ?_⟩
  · obtain ⟨e, -, rfl⟩ := x_ws_of hi
    obtain ⟨e', -, rfl⟩ := x_ws_of hj
    have : G.1 + i = G.1 + j := hpq
    omega
  · obtain ⟨e, -, rfl⟩ := x_ws_of hk
    exact Nat.le_add_right _ _
def x_tys (G : xG) : List (ClassId × FieldType) := [(G.2.2.2.2 0, .int), (G.2.2.2.2 1, .long), (G.2.2.2.2 2, .boolean), (G.2.2.2.2 3, .object "LastSentence$Night"), (G.2.2.2.2 4, .array .int), (G.2.2.2.2 5, .array .long)]
def x_lack : Nat → Int64
  | 0 => 0x5555555555555555
  | 1 => 0x3333333333333333
  | 2 => 0x0f0f0f0f0f0f0f0f
  | 3 => 0x00ff00ff00ff00ff
  | 4 => 0x0000ffff0000ffff
  | _ => 0x00000000ffffffff
/-- what lies below our cells: the script, the static table -/
def x_Ext (G : xG) (h : xH) (U : State) (H : Heap) : Prop := G.2.1 < G.1 ∧ (∃ (L : Nat) (xs : Nat → Int32), h[0]? = some (.inl (0, L, .inl xs)) ∧ va_X G.2.1 L xs U H) ∧
  h[1]? = some (.inl (1, 6, .inr (.inl x_lack))) ∧ va_T .long G.2.2.1 6 (fun j => .long (x_lack j)) (fun q => G.1 ≤ q) U H ∧ va_Z "LastSentence" "LACKING" "[J" (.ref G.2.2.1) (fun q => G.1 ≤ q) U H
/-- words that are carried one by one: nest mates' links, arrays over reference types -/
def x_nest : List Cond := [.fieldLinkNest "LastSentence$Planner" 102 "LastSentence" "LACKING" "[J" "LastSentence",
  .methodLinkNest "LastSentence" 9 yX5_init "LastSentence", .methodLinkNest "LastSentence" 18 yX1_init "LastSentence", .methodLinkNest "LastSentence" 28 yX2_init "LastSentence", .methodLinkNest "LastSentence" 54 yX3_init "LastSentence", .methodLinkNest "LastSentence" 61 yX4_init "LastSentence", .methodLinkNest "LastSentence" 68 yX0_init "LastSentence", .methodLinkNest "LastSentence$Trail" 24 yX2_init "LastSentence"]
def x_AOA (t : FieldType) (U : State) : Prop := (Cond.arrayOver (.array t)).before #[] U = true
def x_Sp (U : State) : Prop := (∀ w ∈ x_nest, va_Nw w U) ∧ va_AO "LastSentence$Night" U ∧ x_AOA .int U ∧ x_AOA .long U
theorem x_AOA.moved {t : FieldType} {u U : State} (hvm : u.vm.Alike U.vm) (h : x_AOA t u) : x_AOA t U := Jvm.Stand.arrayOver_alikeB hvm h
theorem x_Sp.warm {s U : State} (hW : s.WarmedH U.vm) (h : x_Sp s) : x_Sp U := by
  refine ⟨fun w hw => ?_, h.2.1.moved hW.alike, h.2.2.1.moved hW.alike, h.2.2.2.moved hW.alike⟩
  have h1 := h.1 w hw
  simp only [x_nest, List.mem_cons, List.not_mem_nil, or_false] at hw
  rcases hw with rfl | rfl | rfl | rfl | rfl | rfl | rfl | rfl
  · exact va_Nw.warmF hW h1
  all_goals exact va_Nw.warmM hW h1
def x_Rep (G : xG) (h : xH) (U : State) (H : Heap) : Prop := 2 ≤ h.length ∧ H.size = G.1 + (h.length - 2) ∧ va_P G.2.2.2.1 vwCl (x_ws G h) H ∧ va_K G.2.2.2.1 vwCl (x_tys G) U ∧ x_Ext G h U H ∧ x_Sp U
theorem x_Ext.kept {G : xG} {h h' : xH} {U : State} {H H1 : Heap} (e : x_Ext G h U H) (h0 : h'[0]? = h[0]?) (h1 : h'[1]? = h[1]?) (hq : ∀ q : Nat, q < H.size → ¬ G.1 ≤ q → H1[q]? = H[q]?) : x_Ext G h' U H1 := by
  obtain ⟨e1, ⟨L, xs, e2, e3⟩, e4, e5, e6⟩ := e
  have hb : G.2.1 < H.size := by
    obtain ⟨scr, g1, -⟩ := e3
    exact (Array.getElem?_eq_some_iff.mp g1).1
  exact ⟨e1, ⟨L, xs, h0.trans e2, e3.kept (hq _ hb (by omega))⟩, h1.trans e4, e5.kept hq, e6.kept hq⟩
theorem x_Ext.moved {G : xG} {h : xH} {u U : State} {H : Heap} (hvm : u.vm.Alike U.vm) (e : x_Ext G h u H) : x_Ext G h U H := by
  obtain ⟨e1, ⟨L, xs, e2, e3⟩, e4, e5, e6⟩ := e
  exact ⟨e1, ⟨L, xs, e2, e3.moved hvm⟩, e4, e5.moved hvm, e6.moved hvm⟩
theorem x_Rep.warm {G : xG} {h : xH} {s U : State} {H : Heap} (hW : s.WarmedH U.vm) (r : x_Rep G h s H) : x_Rep G h U H :=
  ⟨r.1, r.2.1, r.2.2.1, va_K.moved hW.alike r.2.2.2.1, r.2.2.2.2.1.moved hW.alike, r.2.2.2.2.2.warm hW⟩
theorem x_Rep.at {G : xG} {h : xH} {U : State} {H : Heap} (r : x_Rep G h U H) {i : Nat} {e : xC} (hi : h[i + 2]? = some e) : va_at G.2.2.2.1 vwCl (x_sg G (i + 2), x_ce G e) H := r.2.2.1 i _ (x_ws_get hi)
/-- a cell of ours is another -/
theorem x_Rep.set {G : xG} {h : xH} {U : State} {H H1 : Heap} {i : Nat} {e : xC} (r : x_Rep G h U H) (hP : va_P G.2.2.2.1 vwCl ((x_ws G h).set i (x_sg G (i + 2), x_ce G e)) H1) (hz : H1.size = H.size) (hq : ∀ q : Nat, ¬ G.1 ≤ q → H1[q]? = H[q]?) : x_Rep G (h.set (i + 2) e) U H1 := by
  obtain ⟨r1, r2, r3, r4, r5, r6⟩ := r
  refine ⟨by rw [List.length_set]; exact r1, by rw [List.length_set, hz]; exact r2, by rw [x_ws_set]; exact hP, r4, r5.kept ?_ ?_ (fun q _ h => hq q h), r6⟩
  · rw [List.getElem?_set, if_neg (by omega)]
  · rw [List.getElem?_set, if_neg (by omega)]
/-- a cell is made -/
theorem x_Rep.push {G : xG} {h : xH} {U : State} {H H1 : Heap} {e : xC} (r : x_Rep G h U H) (hz : H1.size = H.size + 1) (hq : ∀ q : Nat, q < H.size → H1[q]? = H[q]?) (he : va_at G.2.2.2.1 vwCl (G.1 + (h.length - 2), x_ce G e) H1) : x_Rep G (h ++ [e]) U H1 := by
  obtain ⟨r1, r2, r3, r4, r5, r6⟩ := r
  refine ⟨by rw [List.length_append]; omega, by rw [List.length_append, hz, r2]; simp; omega, ?_, r4, r5.kept ?_ ?_ (fun q h1 _ => hq q h1), r6⟩
  · rw [x_ws_push G h e r1]
    refine va_P.app (r3.kept (fun k q hk => hq _ ((r3 k q hk).lt))) (fun k q hk => ?_)
    have hk0 : k < 1 := (List.getElem?_eq_some_iff.mp hk).1
    have e0 : k = 0 := by omega
    subst e0
    cases hk
    exact he
  · rw [List.getElem?_append_left (by omega)]
  · rw [List.getElem?_append_left (by omega)]
def x_ok (lo : List (Option Value)) (i : Nat) : Bool := match i with
  | 0 => true
  | j + 1 => match lo[j]? with
    | some (some v) => v.category == 1
    | _ => true
def x_LH (ls : Array Slot) (n : Nat) (lo : List (Option Value)) : Prop := ls.size = n ∧ lv_wf ls ∧ ∀ (i : Nat) (v : Value), lo[i]? = some (some v) → ls[i]? = some (.val v)
def x_pairs (lo : List (Option Value)) : List (Nat × Value) := (List.range lo.length).filterMap (fun i => match lo[i]? with | some (some v) => some (i, v) | _ => none)
theorem x_pairs_mem {lo : List (Option Value)} {i : Nat} {v : Value} : (i, v) ∈ x_pairs lo ↔ lo[i]? = some (some v) := by
  unfold x_pairs
  rw [List.mem_filterMap]
  constructor
  · rintro ⟨j, hj, hm⟩
    cases h : lo[j]? with
    | none => rw [h] at hm; cases hm
    | some o =>
      cases o with
      | none => rw [h] at hm; cases hm
      | some w => rw [h] at hm; cases hm; exact h
  · intro h
    refine ⟨i, List.mem_range.mpr (List.getElem?_eq_some_iff.mp h).1, ?_⟩
    rw [h]
theorem x_LH.has {ls : Array Slot} {n : Nat} {lo : List (Option Value)} (h : x_LH ls n lo) : lv_has ls n (x_pairs lo) := ⟨h.1, h.2.1, fun q hq => h.2.2 q.1 q.2 (x_pairs_mem.mp hq)⟩
theorem x_LH.store1 {ls' : Array Slot} {n i : Nat} {v : Value} {lo : List (Option Value)} (hk : x_ok lo i = true) (h : lv_has ls' n ((i, v) :: (x_pairs lo).filter (fun q => !(q.1 == i) && !(q.1 + 1 == i && q.2.category == 2)))) : x_LH ls' n (lo.set i (some v)) := by
  refine ⟨h.1, h.2.1, fun j w hj => ?_⟩
  rw [List.getElem?_set] at hj
  by_cases e : i = j
  · subst e
    rw [if_pos rfl] at hj
    by_cases hl : i < lo.length
    · rw [if_pos hl] at hj
      cases hj
      exact h.2.2 (i, v) List.mem_cons_self
    · rw [if_neg hl] at hj; cases hj
  · rw [if_neg e] at hj
    refine h.2.2 (j, w) (List.mem_cons_of_mem _ (List.mem_filter.mpr ⟨x_pairs_mem.mpr hj, ?_⟩))
    have h1 : (j == i) = false := by simp; omega
    by_cases e2 : j + 1 = i
    · subst e2
      have hc : w.category = 1 := by
        simp only [x_ok, hj] at hk
        simpa using hk
      simp [hc]
    · have h2 : (j + 1 == i) = false := by simp; omega
      simp [h1, h2]
theorem x_LH.store2 {ls' : Array Slot} {n i : Nat} {v : Value} {lo : List (Option Value)} (hk : x_ok lo i = true) (h : lv_has ls' n ((i, v) :: (x_pairs lo).filter (fun q => !(q.1 == i) && (!(q.1 == i + 1) && !(q.1 + 1 == i && q.2.category == 2))))) : x_LH ls' n ((lo.set i (some v)).set (i + 1) none) := by
  refine ⟨h.1, h.2.1, fun j w hj => ?_⟩
  rw [List.getElem?_set] at hj
  by_cases e1 : i + 1 = j
  · rw [if_pos e1] at hj
    split at hj <;> cases hj
  · rw [if_neg e1, List.getElem?_set] at hj
    by_cases e : i = j
    · subst e
      rw [if_pos rfl] at hj
      by_cases hl : i < lo.length
      · rw [if_pos hl] at hj
        cases hj
        exact h.2.2 (i, v) List.mem_cons_self
      · rw [if_neg hl] at hj; cases hj
    · rw [if_neg e] at hj
      refine h.2.2 (j, w) (List.mem_cons_of_mem _ (List.mem_filter.mpr ⟨x_pairs_mem.mpr hj, ?_⟩))
      have h1 : (j == i) = false := by simp; omega
      have h3 : (j == i + 1) = false := by simp; omega
      by_cases e2 : j + 1 = i
      · subst e2
        have hc : w.category = 1 := by
          simp only [x_ok, hj] at hk
          simpa using hk
        simp [hc]
        omega
      · have h2 : (j + 1 == i) = false := by simp; omega
        simp [h1, h2, h3]
def x_mp (G : xG) (lo : List (Option Value)) : List (Option Value) := lo.map (Option.map (x_cv G))
theorem x_mp_get {G : xG} {lo : List (Option Value)} {i : Nat} {v : Value} (h : lo[i]? = some (some v)) : (x_mp G lo)[i]? = some (some (x_cv G v)) := by
  unfold x_mp
  rw [List.getElem?_map, h]
  rfl
theorem x_mp_set (G : xG) (lo : List (Option Value)) (i : Nat) (v : Option Value) : x_mp G (lo.set i v) = (x_mp G lo).set i (v.map (x_cv G)) := by
  unfold x_mp
  rw [List.map_set]
theorem x_mp_ok {G : xG} {lo : List (Option Value)} {i : Nat} (h : x_ok lo i = true) : x_ok (x_mp G lo) i = true := by
  cases i with
  | zero => rfl
  | succ j =>
    simp only [x_ok] at h ⊢
    cases hj : lo[j]? with
    | none => simp [x_mp, hj]
    | some o =>
      cases o with
      | none => simp [x_mp, hj]
      | some v =>
        rw [hj] at h
        simp only [x_mp_get hj, x_cv_cat]
        exact h
end
section
/-! THE RULES: an instruction, a row -/
/-- class, name, code, locals, what it returns, its room -/
abbrev xM : Type := String × MethodName × ByteArray × Nat × Option FieldType × Room
def x_words : List Cond := lw_tbl.filter goodWord
def x_isRet (rt : Option FieldType) (i : Instr) (v : Option Value) : Prop := match rt with
  | none => i = .return_ ∧ v = none
  | some .int => i = .ireturn ∧ ∃ x : Int32, v = some (.int x)
  | some .boolean => i = .ireturn ∧ ∃ x : Int32, v = some (.int x) ∧ (x = 0 ∨ x = 1)
  | some .long => i = .lreturn ∧ ∃ x : Int64, v = some (.long x)
  | _ => False
def x_Cx (p : Program) (l : Launch) (e : Env) (s : State) (m : MethodId) (args : Array Value) (below : List Frame) (meth : Method) (c : Code) (M : xM) (G : xG) (K : Option Value → xH → Prop) (Z : State → Prop) : Prop :=
  p.tables.exec = Jvm.exec ∧ c.code = M.2.2.1 ∧ c.maxLocals = M.2.2.2.1 ∧ s.vm.findClass M.1 = some m.cls ∧ (∀ w ∈ x_words, w.before args s = true) ∧ meth.name = M.2.1.name ∧
  ∀ (v : Option Value) (h' : xH) (H : Heap) (locs : List Loc) (pc : Nat) (ls : Array Slot) (i : Instr), K v h' → x_Rep G h' s H → va_S (fun q => G.1 ≤ q) s.heap H locs → x_isRet M.2.2.2.2.1 i v → decode M.2.2.1 pc = .ok (i, 1) →
    W p l e M.2.2.2.2.2 s m args below meth c H locs M.2.2.2.2.2.cells M.2.2.2.2.2.slots Z (F0 m pc ls (v.toList.map (x_cv G)))
/-- from this frame, over this heap, so much made, the method comes to an end of which K holds -/
def x_Rn (M : xM) (pc : Nat) (lo : List (Option Value)) (st : List Value) (h : xH) (cs : Nat × Nat) (K : Option Value → xH → Prop) : Prop :=
  ∀ (p : Program) (l : Launch) (e : Env) (s : State) (m : MethodId) (args : Array Value) (below : List Frame) (meth : Method) (c : Code) (G : xG) (Z : State → Prop) (H : Heap) (locs : List Loc) (ls : Array Slot), x_Cx p l e s m args below meth c M G K Z → x_Rep G h s H → va_S (fun q => G.1 ≤ q) s.heap H locs → x_LH ls M.2.2.2.1 (x_mp G lo) →
    W p l e M.2.2.2.2.2 s m args below meth c H locs cs.1 cs.2 Z (F0 m pc ls (st.map (x_cv G)))
theorem R_iconst {M : xM} {pc : Nat} {lo : List (Option Value)} {st : List Value} {h : xH} {cs : Nat × Nat} {K : Option Value → xH → Prop} {n : Int} (v : Int32) (hd : decode M.2.2.1 pc = .ok (.iconst n, 1)) (hv : Int32.ofInt n = v) (kk : x_Rn M (pc + 1) lo (.int v :: st) h cs K) : x_Rn M (pc) lo (st) h cs K := by
  intro p l e s m args below meth c G Z H locs ls C hR hS hL
  exact lv_iconst C.1 C.2.1 hd hv (kk p l e s m args below meth c G Z H locs ls C hR hS hL)
theorem R_bipush {M : xM} {pc : Nat} {lo : List (Option Value)} {st : List Value} {h : xH} {cs : Nat × Nat} {K : Option Value → xH → Prop} {n : Int} (v : Int32) (hd : decode M.2.2.1 pc = .ok (.bipush n, 2)) (hv : (Int8.ofInt n).toInt32 = v) (kk : x_Rn M (pc + 2) lo (.int v :: st) h cs K) : x_Rn M (pc) lo (st) h cs K := by
  intro p l e s m args below meth c G Z H locs ls C hR hS hL
  exact lv_bipush C.1 C.2.1 hd hv (kk p l e s m args below meth c G Z H locs ls C hR hS hL)
theorem R_sipush {M : xM} {pc : Nat} {lo : List (Option Value)} {st : List Value} {h : xH} {cs : Nat × Nat} {K : Option Value → xH → Prop} {n : Int} (v : Int32) (hd : decode M.2.2.1 pc = .ok (.sipush n, 3)) (hv : (Int16.ofInt n).toInt32 = v) (kk : x_Rn M (pc + 3) lo (.int v :: st) h cs K) : x_Rn M (pc) lo (st) h cs K := by
  intro p l e s m args below meth c G Z H locs ls C hR hS hL
  exact lv_sipush C.1 C.2.1 hd hv (kk p l e s m args below meth c G Z H locs ls C hR hS hL)
theorem R_lconst {M : xM} {pc : Nat} {lo : List (Option Value)} {st : List Value} {h : xH} {cs : Nat × Nat} {K : Option Value → xH → Prop} {n : Fin 2} (v : Int64) (hd : decode M.2.2.1 pc = .ok (.lconst n, 1)) (hv : Int64.ofNat (n : Nat) = v) (kk : x_Rn M (pc + 1) lo (.long v :: st) h cs K) : x_Rn M (pc) lo (st) h cs K := by
  intro p l e s m args below meth c G Z H locs ls C hR hS hL
  exact lv_lconst C.1 C.2.1 hd hv (kk p l e s m args below meth c G Z H locs ls C hR hS hL)
theorem R_ldc {M : xM} {pc : Nat} {lo : List (Option Value)} {st : List Value} {h : xH} {cs : Nat × Nat} {K : Option Value → xH → Prop} {n : Nat} (v : Int32) (hd : decode M.2.2.1 pc = .ok (.ldc n, 2)) (hw : Cond.constant M.1 n v ∈ x_words) (kk : x_Rn M (pc + 2) lo (.int v :: st) h cs K) : x_Rn M (pc) lo (st) h cs K := by
  intro p l e s m args below meth c G Z H locs ls C hR hS hL
  exact lv_ldc C.1 C.2.1 C.2.2.2.1 (C.2.2.2.2.1 _ hw) hd (kk p l e s m args below meth c G Z H locs ls C hR hS hL)
theorem R_ldcw {M : xM} {pc : Nat} {lo : List (Option Value)} {st : List Value} {h : xH} {cs : Nat × Nat} {K : Option Value → xH → Prop} {n : Nat} (v : Int32) (hd : decode M.2.2.1 pc = .ok (.ldc_w n, 3)) (hw : Cond.constant M.1 n v ∈ x_words) (kk : x_Rn M (pc + 3) lo (.int v :: st) h cs K) : x_Rn M (pc) lo (st) h cs K := by
  intro p l e s m args below meth c G Z H locs ls C hR hS hL
  exact lv_ldcw C.1 C.2.1 C.2.2.2.1 (C.2.2.2.2.1 _ hw) hd (kk p l e s m args below meth c G Z H locs ls C hR hS hL)
theorem R_ldc2 {M : xM} {pc : Nat} {lo : List (Option Value)} {st : List Value} {h : xH} {cs : Nat × Nat} {K : Option Value → xH → Prop} {n : Nat} (v : Int64) (hd : decode M.2.2.1 pc = .ok (.ldc2_w n, 3)) (hw : Cond.constantLong M.1 n v ∈ x_words) (kk : x_Rn M (pc + 3) lo (.long v :: st) h cs K) : x_Rn M (pc) lo (st) h cs K := by
  intro p l e s m args below meth c G Z H locs ls C hR hS hL
  exact lv_ldc2 C.1 C.2.1 C.2.2.2.1 (C.2.2.2.2.1 _ hw) hd (kk p l e s m args below meth c G Z H locs ls C hR hS hL)
theorem R_iload_n {M : xM} {pc : Nat} {lo : List (Option Value)} {st : List Value} {h : xH} {cs : Nat × Nat} {K : Option Value → xH → Prop} {k : Fin 4} {x : Int32} (hd : decode M.2.2.1 pc = .ok (.iload_n k, 1)) (hl : lo[(k : Nat)]? = some (some (.int x))) (kk : x_Rn M (pc + 1) lo (.int x :: st) h cs K) : x_Rn M (pc) lo (st) h cs K := by
  intro p l e s m args below meth c G Z H locs ls C hR hS hL
  exact lv_iload_n C.1 C.2.1 hd rfl (hL.2.2 _ _ (x_mp_get hl)) (kk p l e s m args below meth c G Z H locs ls C hR hS hL)
theorem R_iload {M : xM} {pc : Nat} {lo : List (Option Value)} {st : List Value} {h : xH} {cs : Nat × Nat} {K : Option Value → xH → Prop} {i : Nat} {x : Int32} (hd : decode M.2.2.1 pc = .ok (.iload i, 2)) (hl : lo[i]? = some (some (.int x))) (kk : x_Rn M (pc + 2) lo (.int x :: st) h cs K) : x_Rn M (pc) lo (st) h cs K := by
  intro p l e s m args below meth c G Z H locs ls C hR hS hL
  exact lv_iload C.1 C.2.1 hd (hL.2.2 _ _ (x_mp_get hl)) (kk p l e s m args below meth c G Z H locs ls C hR hS hL)
theorem R_lload_n {M : xM} {pc : Nat} {lo : List (Option Value)} {st : List Value} {h : xH} {cs : Nat × Nat} {K : Option Value → xH → Prop} {k : Fin 4} {x : Int64} (hd : decode M.2.2.1 pc = .ok (.lload_n k, 1)) (hl : lo[(k : Nat)]? = some (some (.long x))) (kk : x_Rn M (pc + 1) lo (.long x :: st) h cs K) : x_Rn M (pc) lo (st) h cs K := by
  intro p l e s m args below meth c G Z H locs ls C hR hS hL
  exact lv_lload_n C.1 C.2.1 hd rfl (hL.2.2 _ _ (x_mp_get hl)) (kk p l e s m args below meth c G Z H locs ls C hR hS hL)
theorem R_lload {M : xM} {pc : Nat} {lo : List (Option Value)} {st : List Value} {h : xH} {cs : Nat × Nat} {K : Option Value → xH → Prop} {i : Nat} {x : Int64} (hd : decode M.2.2.1 pc = .ok (.lload i, 2)) (hl : lo[i]? = some (some (.long x))) (kk : x_Rn M (pc + 2) lo (.long x :: st) h cs K) : x_Rn M (pc) lo (st) h cs K := by
  intro p l e s m args below meth c G Z H locs ls C hR hS hL
  exact lv_lload C.1 C.2.1 hd (hL.2.2 _ _ (x_mp_get hl)) (kk p l e s m args below meth c G Z H locs ls C hR hS hL)
theorem R_aload_n {M : xM} {pc : Nat} {lo : List (Option Value)} {st : List Value} {h : xH} {cs : Nat × Nat} {K : Option Value → xH → Prop} {k : Fin 4} {x : Nat} (hd : decode M.2.2.1 pc = .ok (.aload_n k, 1)) (hl : lo[(k : Nat)]? = some (some (.ref x))) (kk : x_Rn M (pc + 1) lo (.ref x :: st) h cs K) : x_Rn M (pc) lo (st) h cs K := by
  intro p l e s m args below meth c G Z H locs ls C hR hS hL
  exact lv_aload_n C.1 C.2.1 hd rfl (hL.2.2 _ _ (x_mp_get hl)) (kk p l e s m args below meth c G Z H locs ls C hR hS hL)
theorem R_aload {M : xM} {pc : Nat} {lo : List (Option Value)} {st : List Value} {h : xH} {cs : Nat × Nat} {K : Option Value → xH → Prop} {i : Nat} {x : Nat} (hd : decode M.2.2.1 pc = .ok (.aload i, 2)) (hl : lo[i]? = some (some (.ref x))) (kk : x_Rn M (pc + 2) lo (.ref x :: st) h cs K) : x_Rn M (pc) lo (st) h cs K := by
  intro p l e s m args below meth c G Z H locs ls C hR hS hL
  exact lv_aload C.1 C.2.1 hd (hL.2.2 _ _ (x_mp_get hl)) (kk p l e s m args below meth c G Z H locs ls C hR hS hL)
theorem R_istore_n {M : xM} {pc : Nat} {lo : List (Option Value)} {st : List Value} {h : xH} {cs : Nat × Nat} {K : Option Value → xH → Prop} {k : Fin 4} {x : Int32} (hd : decode M.2.2.1 pc = .ok (.istore_n k, 1)) (hi : (k : Nat) < M.2.2.2.1) (hk : x_ok lo k = true) (kk : x_Rn M (pc + 1) (lo.set (k : Nat) (some (.int x))) (st) h cs K) : x_Rn M (pc) lo (.int x :: st) h cs K := by
  intro p l e s m args below meth c G Z H locs ls C hR hS hL
  refine lv_istore_n C.1 C.2.1 hd rfl hL.has hi rfl (fun ls2 hl2 => ?_)
  exact kk p l e s m args below meth c G Z H locs ls2 C hR hS (by rw [x_mp_set]; exact x_LH.store1 (x_mp_ok hk) hl2)
theorem R_istore {M : xM} {pc : Nat} {lo : List (Option Value)} {st : List Value} {h : xH} {cs : Nat × Nat} {K : Option Value → xH → Prop} {i : Nat} {x : Int32} (hd : decode M.2.2.1 pc = .ok (.istore i, 2)) (hi : i < M.2.2.2.1) (hk : x_ok lo i = true) (kk : x_Rn M (pc + 2) (lo.set i (some (.int x))) (st) h cs K) : x_Rn M (pc) lo (.int x :: st) h cs K := by
  intro p l e s m args below meth c G Z H locs ls C hR hS hL
  refine lv_istore C.1 C.2.1 hd hL.has hi rfl (fun ls2 hl2 => ?_)
  exact kk p l e s m args below meth c G Z H locs ls2 C hR hS (by rw [x_mp_set]; exact x_LH.store1 (x_mp_ok hk) hl2)
theorem R_astore_n {M : xM} {pc : Nat} {lo : List (Option Value)} {st : List Value} {h : xH} {cs : Nat × Nat} {K : Option Value → xH → Prop} {k : Fin 4} {x : Nat} (hd : decode M.2.2.1 pc = .ok (.astore_n k, 1)) (hi : (k : Nat) < M.2.2.2.1) (hk : x_ok lo k = true) (kk : x_Rn M (pc + 1) (lo.set (k : Nat) (some (.ref x))) (st) h cs K) : x_Rn M (pc) lo (.ref x :: st) h cs K := by
  intro p l e s m args below meth c G Z H locs ls C hR hS hL
  refine lv_astore_n C.1 C.2.1 hd rfl hL.has hi rfl (fun ls2 hl2 => ?_)
  exact kk p l e s m args below meth c G Z H locs ls2 C hR hS (by rw [x_mp_set]; exact x_LH.store1 (x_mp_ok hk) hl2)
theorem R_astore {M : xM} {pc : Nat} {lo : List (Option Value)} {st : List Value} {h : xH} {cs : Nat × Nat} {K : Option Value → xH → Prop} {i : Nat} {x : Nat} (hd : decode M.2.2.1 pc = .ok (.astore i, 2)) (hi : i < M.2.2.2.1) (hk : x_ok lo i = true) (kk : x_Rn M (pc + 2) (lo.set i (some (.ref x))) (st) h cs K) : x_Rn M (pc) lo (.ref x :: st) h cs K := by
  intro p l e s m args below meth c G Z H locs ls C hR hS hL
  refine lv_astore C.1 C.2.1 hd hL.has hi rfl (fun ls2 hl2 => ?_)
  exact kk p l e s m args below meth c G Z H locs ls2 C hR hS (by rw [x_mp_set]; exact x_LH.store1 (x_mp_ok hk) hl2)
theorem R_lstore_n {M : xM} {pc : Nat} {lo : List (Option Value)} {st : List Value} {h : xH} {cs : Nat × Nat} {K : Option Value → xH → Prop} {k : Fin 4} {x : Int64} (hd : decode M.2.2.1 pc = .ok (.lstore_n k, 1)) (hi : (k : Nat) + 1 < M.2.2.2.1) (hk : x_ok lo k = true) (kk : x_Rn M (pc + 1) ((lo.set (k : Nat) (some (.long x))).set ((k : Nat) + 1) none) (st) h cs K) : x_Rn M (pc) lo (.long x :: st) h cs K := by
  intro p l e s m args below meth c G Z H locs ls C hR hS hL
  refine lv_lstore_n C.1 C.2.1 hd rfl hL.has hi rfl (fun ls2 hl2 => ?_)
  exact kk p l e s m args below meth c G Z H locs ls2 C hR hS (by rw [x_mp_set, x_mp_set]; exact x_LH.store2 (x_mp_ok hk) hl2)
theorem R_lstore {M : xM} {pc : Nat} {lo : List (Option Value)} {st : List Value} {h : xH} {cs : Nat × Nat} {K : Option Value → xH → Prop} {i : Nat} {x : Int64} (hd : decode M.2.2.1 pc = .ok (.lstore i, 2)) (hi : i + 1 < M.2.2.2.1) (hk : x_ok lo i = true) (kk : x_Rn M (pc + 2) ((lo.set i (some (.long x))).set (i + 1) none) (st) h cs K) : x_Rn M (pc) lo (.long x :: st) h cs K := by
  intro p l e s m args below meth c G Z H locs ls C hR hS hL
  refine lv_lstore C.1 C.2.1 hd hL.has hi rfl (fun ls2 hl2 => ?_)
  exact kk p l e s m args below meth c G Z H locs ls2 C hR hS (by rw [x_mp_set, x_mp_set]; exact x_LH.store2 (x_mp_ok hk) hl2)
theorem x_pairs_at {lo : List (Option Value)} {i : Nat} {v : Value} (h : lo[i]? = some (some v)) : ∃ k : Nat, (x_pairs lo)[k]? = some (i, v) := List.getElem?_of_mem (x_pairs_mem.mpr h)
theorem R_iinc {M : xM} {pc : Nat} {lo : List (Option Value)} {st : List Value} {h : xH} {cs : Nat × Nat} {K : Option Value → xH → Prop} {i : Nat} {n : Int} {x : Int32} (v : Int32) (hd : decode M.2.2.1 pc = .ok (.iinc i n, 3)) (hl : lo[i]? = some (some (.int x))) (hv : x + Int32.ofInt n = v) (hi : i < M.2.2.2.1) (hk : x_ok lo i = true) (kk : x_Rn M (pc + 3) (lo.set i (some (.int v))) (st) h cs K) : x_Rn M (pc) lo (st) h cs K := by
  intro p l e s m args below meth c G Z H locs ls C hR hS hL
  obtain ⟨j, hj⟩ := x_pairs_at (x_mp_get (G := G) hl)
  refine lv_iinc C.1 C.2.1 hd hL.has hj hv hi rfl (fun ls2 hl2 => ?_)
  exact kk p l e s m args below meth c G Z H locs ls2 C hR hS (by rw [x_mp_set]; exact x_LH.store1 (x_mp_ok hk) hl2)
theorem R_iadd {M : xM} {pc : Nat} {lo : List (Option Value)} {st : List Value} {h : xH} {cs : Nat × Nat} {K : Option Value → xH → Prop} {x y : Int32} (hd : decode M.2.2.1 pc = .ok (.iadd, 1)) (kk : x_Rn M (pc + 1) lo (.int (x + y) :: st) h cs K) : x_Rn M (pc) lo (.int y :: .int x :: st) h cs K := by
  intro p l e s m args below meth c G Z H locs ls C hR hS hL
  exact lv_iadd C.1 C.2.1 hd (kk p l e s m args below meth c G Z H locs ls C hR hS hL)
theorem R_isub {M : xM} {pc : Nat} {lo : List (Option Value)} {st : List Value} {h : xH} {cs : Nat × Nat} {K : Option Value → xH → Prop} {x y : Int32} (hd : decode M.2.2.1 pc = .ok (.isub, 1)) (kk : x_Rn M (pc + 1) lo (.int (x - y) :: st) h cs K) : x_Rn M (pc) lo (.int y :: .int x :: st) h cs K := by
  intro p l e s m args below meth c G Z H locs ls C hR hS hL
  exact lv_isub C.1 C.2.1 hd (kk p l e s m args below meth c G Z H locs ls C hR hS hL)
theorem R_imul {M : xM} {pc : Nat} {lo : List (Option Value)} {st : List Value} {h : xH} {cs : Nat × Nat} {K : Option Value → xH → Prop} {x y : Int32} (hd : decode M.2.2.1 pc = .ok (.imul, 1)) (kk : x_Rn M (pc + 1) lo (.int (x * y) :: st) h cs K) : x_Rn M (pc) lo (.int y :: .int x :: st) h cs K := by
  intro p l e s m args below meth c G Z H locs ls C hR hS hL
  exact lv_imul C.1 C.2.1 hd (kk p l e s m args below meth c G Z H locs ls C hR hS hL)
theorem R_iand {M : xM} {pc : Nat} {lo : List (Option Value)} {st : List Value} {h : xH} {cs : Nat × Nat} {K : Option Value → xH → Prop} {x y : Int32} (hd : decode M.2.2.1 pc = .ok (.iand, 1)) (kk : x_Rn M (pc + 1) lo (.int (x &&& y) :: st) h cs K) : x_Rn M (pc) lo (.int y :: .int x :: st) h cs K := by
  intro p l e s m args below meth c G Z H locs ls C hR hS hL
  exact lv_iand C.1 C.2.1 hd (kk p l e s m args below meth c G Z H locs ls C hR hS hL)
theorem R_ior {M : xM} {pc : Nat} {lo : List (Option Value)} {st : List Value} {h : xH} {cs : Nat × Nat} {K : Option Value → xH → Prop} {x y : Int32} (hd : decode M.2.2.1 pc = .ok (.ior, 1)) (kk : x_Rn M (pc + 1) lo (.int (x ||| y) :: st) h cs K) : x_Rn M (pc) lo (.int y :: .int x :: st) h cs K := by
  intro p l e s m args below meth c G Z H locs ls C hR hS hL
  exact lv_ior C.1 C.2.1 hd (kk p l e s m args below meth c G Z H locs ls C hR hS hL)
theorem R_ixor {M : xM} {pc : Nat} {lo : List (Option Value)} {st : List Value} {h : xH} {cs : Nat × Nat} {K : Option Value → xH → Prop} {x y : Int32} (hd : decode M.2.2.1 pc = .ok (.ixor, 1)) (kk : x_Rn M (pc + 1) lo (.int (x ^^^ y) :: st) h cs K) : x_Rn M (pc) lo (.int y :: .int x :: st) h cs K := by
  intro p l e s m args below meth c G Z H locs ls C hR hS hL
  exact lv_ixor C.1 C.2.1 hd (kk p l e s m args below meth c G Z H locs ls C hR hS hL)
theorem R_ishl {M : xM} {pc : Nat} {lo : List (Option Value)} {st : List Value} {h : xH} {cs : Nat × Nat} {K : Option Value → xH → Prop} {x y : Int32} (hd : decode M.2.2.1 pc = .ok (.ishl, 1)) (kk : x_Rn M (pc + 1) lo (.int (x <<< (y &&& 31)) :: st) h cs K) : x_Rn M (pc) lo (.int y :: .int x :: st) h cs K := by
  intro p l e s m args below meth c G Z H locs ls C hR hS hL
  exact lv_ishl C.1 C.2.1 hd (kk p l e s m args below meth c G Z H locs ls C hR hS hL)
theorem R_ishr {M : xM} {pc : Nat} {lo : List (Option Value)} {st : List Value} {h : xH} {cs : Nat × Nat} {K : Option Value → xH → Prop} {x y : Int32} (hd : decode M.2.2.1 pc = .ok (.ishr, 1)) (kk : x_Rn M (pc + 1) lo (.int (x >>> (y &&& 31)) :: st) h cs K) : x_Rn M (pc) lo (.int y :: .int x :: st) h cs K := by
  intro p l e s m args below meth c G Z H locs ls C hR hS hL
  exact lv_ishr C.1 C.2.1 hd (kk p l e s m args below meth c G Z H locs ls C hR hS hL)
theorem R_idiv {M : xM} {pc : Nat} {lo : List (Option Value)} {st : List Value} {h : xH} {cs : Nat × Nat} {K : Option Value → xH → Prop} {x y : Int32} (hd : decode M.2.2.1 pc = .ok (.idiv, 1)) (hne : ¬ y = 0) (kk : x_Rn M (pc + 1) lo (.int (x / y) :: st) h cs K) : x_Rn M (pc) lo (.int y :: .int x :: st) h cs K := by
  intro p l e s m args below meth c G Z H locs ls C hR hS hL
  exact lv_idiv C.1 C.2.1 hd hne (kk p l e s m args below meth c G Z H locs ls C hR hS hL)
theorem R_irem {M : xM} {pc : Nat} {lo : List (Option Value)} {st : List Value} {h : xH} {cs : Nat × Nat} {K : Option Value → xH → Prop} {x y : Int32} (hd : decode M.2.2.1 pc = .ok (.irem, 1)) (hne : ¬ y = 0) (kk : x_Rn M (pc + 1) lo (.int (x - x / y * y) :: st) h cs K) : x_Rn M (pc) lo (.int y :: .int x :: st) h cs K := by
  intro p l e s m args below meth c G Z H locs ls C hR hS hL
  exact lv_irem C.1 C.2.1 hd hne (kk p l e s m args below meth c G Z H locs ls C hR hS hL)
theorem R_ladd {M : xM} {pc : Nat} {lo : List (Option Value)} {st : List Value} {h : xH} {cs : Nat × Nat} {K : Option Value → xH → Prop} {x y : Int64} (hd : decode M.2.2.1 pc = .ok (.ladd, 1)) (kk : x_Rn M (pc + 1) lo (.long (x + y) :: st) h cs K) : x_Rn M (pc) lo (.long y :: .long x :: st) h cs K := by
  intro p l e s m args below meth c G Z H locs ls C hR hS hL
  exact lv_ladd C.1 C.2.1 hd (kk p l e s m args below meth c G Z H locs ls C hR hS hL)
theorem R_lsub {M : xM} {pc : Nat} {lo : List (Option Value)} {st : List Value} {h : xH} {cs : Nat × Nat} {K : Option Value → xH → Prop} {x y : Int64} (hd : decode M.2.2.1 pc = .ok (.lsub, 1)) (kk : x_Rn M (pc + 1) lo (.long (x - y) :: st) h cs K) : x_Rn M (pc) lo (.long y :: .long x :: st) h cs K := by
  intro p l e s m args below meth c G Z H locs ls C hR hS hL
  exact lv_lsub C.1 C.2.1 hd (kk p l e s m args below meth c G Z H locs ls C hR hS hL)
theorem R_lmul {M : xM} {pc : Nat} {lo : List (Option Value)} {st : List Value} {h : xH} {cs : Nat × Nat} {K : Option Value → xH → Prop} {x y : Int64} (hd : decode M.2.2.1 pc = .ok (.lmul, 1)) (kk : x_Rn M (pc + 1) lo (.long (x * y) :: st) h cs K) : x_Rn M (pc) lo (.long y :: .long x :: st) h cs K := by
  intro p l e s m args below meth c G Z H locs ls C hR hS hL
  exact lv_lmul C.1 C.2.1 hd (kk p l e s m args below meth c G Z H locs ls C hR hS hL)
theorem R_land {M : xM} {pc : Nat} {lo : List (Option Value)} {st : List Value} {h : xH} {cs : Nat × Nat} {K : Option Value → xH → Prop} {x y : Int64} (hd : decode M.2.2.1 pc = .ok (.land, 1)) (kk : x_Rn M (pc + 1) lo (.long (x &&& y) :: st) h cs K) : x_Rn M (pc) lo (.long y :: .long x :: st) h cs K := by
  intro p l e s m args below meth c G Z H locs ls C hR hS hL
  exact lv_land C.1 C.2.1 hd (kk p l e s m args below meth c G Z H locs ls C hR hS hL)
theorem R_lor {M : xM} {pc : Nat} {lo : List (Option Value)} {st : List Value} {h : xH} {cs : Nat × Nat} {K : Option Value → xH → Prop} {x y : Int64} (hd : decode M.2.2.1 pc = .ok (.lor, 1)) (kk : x_Rn M (pc + 1) lo (.long (x ||| y) :: st) h cs K) : x_Rn M (pc) lo (.long y :: .long x :: st) h cs K := by
  intro p l e s m args below meth c G Z H locs ls C hR hS hL
  exact lv_lor C.1 C.2.1 hd (kk p l e s m args below meth c G Z H locs ls C hR hS hL)
theorem R_ldiv {M : xM} {pc : Nat} {lo : List (Option Value)} {st : List Value} {h : xH} {cs : Nat × Nat} {K : Option Value → xH → Prop} {x y : Int64} (hd : decode M.2.2.1 pc = .ok (.ldiv, 1)) (hne : ¬ y = 0) (kk : x_Rn M (pc + 1) lo (.long (x / y) :: st) h cs K) : x_Rn M (pc) lo (.long y :: .long x :: st) h cs K := by
  intro p l e s m args below meth c G Z H locs ls C hR hS hL
  exact lv_ldiv C.1 C.2.1 hd hne (kk p l e s m args below meth c G Z H locs ls C hR hS hL)
theorem R_lrem {M : xM} {pc : Nat} {lo : List (Option Value)} {st : List Value} {h : xH} {cs : Nat × Nat} {K : Option Value → xH → Prop} {x y : Int64} (hd : decode M.2.2.1 pc = .ok (.lrem, 1)) (hne : ¬ y = 0) (kk : x_Rn M (pc + 1) lo (.long (x - x / y * y) :: st) h cs K) : x_Rn M (pc) lo (.long y :: .long x :: st) h cs K := by
  intro p l e s m args below meth c G Z H locs ls C hR hS hL
  exact lv_lrem C.1 C.2.1 hd hne (kk p l e s m args below meth c G Z H locs ls C hR hS hL)
theorem R_i2l {M : xM} {pc : Nat} {lo : List (Option Value)} {st : List Value} {h : xH} {cs : Nat × Nat} {K : Option Value → xH → Prop} {x : Int32} (hd : decode M.2.2.1 pc = .ok (.i2l, 1)) (kk : x_Rn M (pc + 1) lo (.long x.toInt64 :: st) h cs K) : x_Rn M (pc) lo (.int x :: st) h cs K := by
  intro p l e s m args below meth c G Z H locs ls C hR hS hL
  exact lv_i2l C.1 C.2.1 hd rfl (kk p l e s m args below meth c G Z H locs ls C hR hS hL)
theorem R_l2i {M : xM} {pc : Nat} {lo : List (Option Value)} {st : List Value} {h : xH} {cs : Nat × Nat} {K : Option Value → xH → Prop} {x : Int64} (hd : decode M.2.2.1 pc = .ok (.l2i, 1)) (kk : x_Rn M (pc + 1) lo (.int x.toInt32 :: st) h cs K) : x_Rn M (pc) lo (.long x :: st) h cs K := by
  intro p l e s m args below meth c G Z H locs ls C hR hS hL
  exact lv_l2i C.1 C.2.1 hd rfl (kk p l e s m args below meth c G Z H locs ls C hR hS hL)
theorem R_iushr {M : xM} {pc : Nat} {lo : List (Option Value)} {st : List Value} {h : xH} {cs : Nat × Nat} {K : Option Value → xH → Prop} {x y : Int32} (hd : decode M.2.2.1 pc = .ok (.iushr, 1)) (kk : x_Rn M (pc + 1) lo (.int (x.toUInt32 >>> (y.toUInt32 &&& Int32.toUInt32 31)).toInt32 :: st) h cs K) : x_Rn M (pc) lo (.int y :: .int x :: st) h cs K := by
  intro p l e s m args below meth c G Z H locs ls C hR hS hL
  exact lv_iushr C.1 C.2.1 hd rfl (kk p l e s m args below meth c G Z H locs ls C hR hS hL)
theorem R_lushr {M : xM} {pc : Nat} {lo : List (Option Value)} {st : List Value} {h : xH} {cs : Nat × Nat} {K : Option Value → xH → Prop} {x : Int64} {y : Int32} (hd : decode M.2.2.1 pc = .ok (.lushr, 1)) (kk : x_Rn M (pc + 1) lo (.long (x.toUInt64 >>> (y.toInt64.toUInt64 &&& Int64.toUInt64 63)).toInt64 :: st) h cs K) : x_Rn M (pc) lo (.int y :: .long x :: st) h cs K := by
  intro p l e s m args below meth c G Z H locs ls C hR hS hL
  exact lv_lushr C.1 C.2.1 hd rfl (kk p l e s m args below meth c G Z H locs ls C hR hS hL)
theorem R_lshl {M : xM} {pc : Nat} {lo : List (Option Value)} {st : List Value} {h : xH} {cs : Nat × Nat} {K : Option Value → xH → Prop} {x : Int64} {y : Int32} (hd : decode M.2.2.1 pc = .ok (.lshl, 1)) (kk : x_Rn M (pc + 1) lo (.long (x <<< (y.toInt64 &&& 63)) :: st) h cs K) : x_Rn M (pc) lo (.int y :: .long x :: st) h cs K := by
  intro p l e s m args below meth c G Z H locs ls C hR hS hL
  exact lv_lshl C.1 C.2.1 hd rfl (kk p l e s m args below meth c G Z H locs ls C hR hS hL)
theorem R_lcmp {M : xM} {pc : Nat} {lo : List (Option Value)} {st : List Value} {h : xH} {cs : Nat × Nat} {K : Option Value → xH → Prop} {x y : Int64} (hd : decode M.2.2.1 pc = .ok (.lcmp, 1)) (kk : x_Rn M (pc + 1) lo (.int (lg_cmp x y) :: st) h cs K) : x_Rn M (pc) lo (.long y :: .long x :: st) h cs K := by
  intro p l e s m args below meth c G Z H locs ls C hR hS hL
  exact W.lcmp C.1 C.2.1 hd (kk p l e s m args below meth c G Z H locs ls C hR hS hL)
theorem R_dup {M : xM} {pc : Nat} {lo : List (Option Value)} {st : List Value} {h : xH} {cs : Nat × Nat} {K : Option Value → xH → Prop} {v : Value} (hd : decode M.2.2.1 pc = .ok (.dup, 1)) (hv : v.category = 1) (kk : x_Rn M (pc + 1) lo (v :: v :: st) h cs K) : x_Rn M (pc) lo (v :: st) h cs K := by
  intro p l e s m args below meth c G Z H locs ls C hR hS hL
  exact lv_dup C.1 C.2.1 hd (by rw [x_cv_cat]; exact hv) (kk p l e s m args below meth c G Z H locs ls C hR hS hL)
theorem R_dup2 {M : xM} {pc : Nat} {lo : List (Option Value)} {st : List Value} {h : xH} {cs : Nat × Nat} {K : Option Value → xH → Prop} {v w : Value} (hd : decode M.2.2.1 pc = .ok (.dup2, 1)) (hv : v.category = 1) (hw : w.category = 1) (kk : x_Rn M (pc + 1) lo (v :: w :: v :: w :: st) h cs K) : x_Rn M (pc) lo (v :: w :: st) h cs K := by
  intro p l e s m args below meth c G Z H locs ls C hR hS hL
  exact lv_dup2_11 C.1 C.2.1 hd (by rw [x_cv_cat]; exact hv) (by rw [x_cv_cat]; exact hw) (kk p l e s m args below meth c G Z H locs ls C hR hS hL)
theorem R_ifeq {M : xM} {pc : Nat} {lo : List (Option Value)} {st : List Value} {h : xH} {cs : Nat × Nat} {K : Option Value → xH → Prop} {x : Int32} {off : Int} (tgt : Nat) (hd : decode M.2.2.1 pc = .ok (.ifCond .eq off, 3)) (ht : (pc : Int) + off = (tgt : Int)) (kt : x = 0 → x_Rn M (tgt) lo (st) h cs K) (kf : ¬ x = 0 → x_Rn M (pc + 3) lo (st) h cs K) : x_Rn M (pc) lo (.int x :: st) h cs K := by
  intro p l e s m args below meth c G Z H locs ls C hR hS hL
  exact lv_if_eq C.1 C.2.1 hd ht (fun z => kt z p l e s m args below meth c G Z H locs ls C hR hS hL) (fun z => kf z p l e s m args below meth c G Z H locs ls C hR hS hL)
theorem R_ifne {M : xM} {pc : Nat} {lo : List (Option Value)} {st : List Value} {h : xH} {cs : Nat × Nat} {K : Option Value → xH → Prop} {x : Int32} {off : Int} (tgt : Nat) (hd : decode M.2.2.1 pc = .ok (.ifCond .ne off, 3)) (ht : (pc : Int) + off = (tgt : Int)) (kt : ¬ x = 0 → x_Rn M (tgt) lo (st) h cs K) (kf : x = 0 → x_Rn M (pc + 3) lo (st) h cs K) : x_Rn M (pc) lo (.int x :: st) h cs K := by
  intro p l e s m args below meth c G Z H locs ls C hR hS hL
  exact lv_if_ne C.1 C.2.1 hd ht (fun z => kt z p l e s m args below meth c G Z H locs ls C hR hS hL) (fun z => kf z p l e s m args below meth c G Z H locs ls C hR hS hL)
theorem R_iflt {M : xM} {pc : Nat} {lo : List (Option Value)} {st : List Value} {h : xH} {cs : Nat × Nat} {K : Option Value → xH → Prop} {x : Int32} {off : Int} (tgt : Nat) (hd : decode M.2.2.1 pc = .ok (.ifCond .lt off, 3)) (ht : (pc : Int) + off = (tgt : Int)) (kt : x < 0 → x_Rn M (tgt) lo (st) h cs K) (kf : ¬ x < 0 → x_Rn M (pc + 3) lo (st) h cs K) : x_Rn M (pc) lo (.int x :: st) h cs K := by
  intro p l e s m args below meth c G Z H locs ls C hR hS hL
  exact lv_if_lt C.1 C.2.1 hd ht (fun z => kt z p l e s m args below meth c G Z H locs ls C hR hS hL) (fun z => kf z p l e s m args below meth c G Z H locs ls C hR hS hL)
theorem R_ifge {M : xM} {pc : Nat} {lo : List (Option Value)} {st : List Value} {h : xH} {cs : Nat × Nat} {K : Option Value → xH → Prop} {x : Int32} {off : Int} (tgt : Nat) (hd : decode M.2.2.1 pc = .ok (.ifCond .ge off, 3)) (ht : (pc : Int) + off = (tgt : Int)) (kt : 0 ≤ x → x_Rn M (tgt) lo (st) h cs K) (kf : ¬ 0 ≤ x → x_Rn M (pc + 3) lo (st) h cs K) : x_Rn M (pc) lo (.int x :: st) h cs K := by
  intro p l e s m args below meth c G Z H locs ls C hR hS hL
  exact lv_if_ge C.1 C.2.1 hd ht (fun z => kt z p l e s m args below meth c G Z H locs ls C hR hS hL) (fun z => kf z p l e s m args below meth c G Z H locs ls C hR hS hL)
theorem R_ifgt {M : xM} {pc : Nat} {lo : List (Option Value)} {st : List Value} {h : xH} {cs : Nat × Nat} {K : Option Value → xH → Prop} {x : Int32} {off : Int} (tgt : Nat) (hd : decode M.2.2.1 pc = .ok (.ifCond .gt off, 3)) (ht : (pc : Int) + off = (tgt : Int)) (kt : 0 < x → x_Rn M (tgt) lo (st) h cs K) (kf : ¬ 0 < x → x_Rn M (pc + 3) lo (st) h cs K) : x_Rn M (pc) lo (.int x :: st) h cs K := by
  intro p l e s m args below meth c G Z H locs ls C hR hS hL
  exact lv_if_gt C.1 C.2.1 hd ht (fun z => kt z p l e s m args below meth c G Z H locs ls C hR hS hL) (fun z => kf z p l e s m args below meth c G Z H locs ls C hR hS hL)
theorem R_ifle {M : xM} {pc : Nat} {lo : List (Option Value)} {st : List Value} {h : xH} {cs : Nat × Nat} {K : Option Value → xH → Prop} {x : Int32} {off : Int} (tgt : Nat) (hd : decode M.2.2.1 pc = .ok (.ifCond .le off, 3)) (ht : (pc : Int) + off = (tgt : Int)) (kt : x ≤ 0 → x_Rn M (tgt) lo (st) h cs K) (kf : ¬ x ≤ 0 → x_Rn M (pc + 3) lo (st) h cs K) : x_Rn M (pc) lo (.int x :: st) h cs K := by
  intro p l e s m args below meth c G Z H locs ls C hR hS hL
  exact lv_if_le C.1 C.2.1 hd ht (fun z => kt z p l e s m args below meth c G Z H locs ls C hR hS hL) (fun z => kf z p l e s m args below meth c G Z H locs ls C hR hS hL)
theorem R_icmpeq {M : xM} {pc : Nat} {lo : List (Option Value)} {st : List Value} {h : xH} {cs : Nat × Nat} {K : Option Value → xH → Prop} {x y : Int32} {off : Int} (tgt : Nat) (hd : decode M.2.2.1 pc = .ok (.if_icmp .eq off, 3)) (ht : (pc : Int) + off = (tgt : Int)) (kt : x = y → x_Rn M (tgt) lo (st) h cs K) (kf : ¬ x = y → x_Rn M (pc + 3) lo (st) h cs K) : x_Rn M (pc) lo (.int y :: .int x :: st) h cs K := by
  intro p l e s m args below meth c G Z H locs ls C hR hS hL
  exact lv_icmp_eq C.1 C.2.1 hd ht (fun z => kt z p l e s m args below meth c G Z H locs ls C hR hS hL) (fun z => kf z p l e s m args below meth c G Z H locs ls C hR hS hL)
theorem R_icmpne {M : xM} {pc : Nat} {lo : List (Option Value)} {st : List Value} {h : xH} {cs : Nat × Nat} {K : Option Value → xH → Prop} {x y : Int32} {off : Int} (tgt : Nat) (hd : decode M.2.2.1 pc = .ok (.if_icmp .ne off, 3)) (ht : (pc : Int) + off = (tgt : Int)) (kt : ¬ x = y → x_Rn M (tgt) lo (st) h cs K) (kf : x = y → x_Rn M (pc + 3) lo (st) h cs K) : x_Rn M (pc) lo (.int y :: .int x :: st) h cs K := by
  intro p l e s m args below meth c G Z H locs ls C hR hS hL
  exact lv_icmp_ne C.1 C.2.1 hd ht (fun z => kt z p l e s m args below meth c G Z H locs ls C hR hS hL) (fun z => kf z p l e s m args below meth c G Z H locs ls C hR hS hL)
theorem R_icmplt {M : xM} {pc : Nat} {lo : List (Option Value)} {st : List Value} {h : xH} {cs : Nat × Nat} {K : Option Value → xH → Prop} {x y : Int32} {off : Int} (tgt : Nat) (hd : decode M.2.2.1 pc = .ok (.if_icmp .lt off, 3)) (ht : (pc : Int) + off = (tgt : Int)) (kt : x < y → x_Rn M (tgt) lo (st) h cs K) (kf : ¬ x < y → x_Rn M (pc + 3) lo (st) h cs K) : x_Rn M (pc) lo (.int y :: .int x :: st) h cs K := by
  intro p l e s m args below meth c G Z H locs ls C hR hS hL
  exact lv_icmp_lt C.1 C.2.1 hd ht (fun z => kt z p l e s m args below meth c G Z H locs ls C hR hS hL) (fun z => kf z p l e s m args below meth c G Z H locs ls C hR hS hL)
theorem R_icmpge {M : xM} {pc : Nat} {lo : List (Option Value)} {st : List Value} {h : xH} {cs : Nat × Nat} {K : Option Value → xH → Prop} {x y : Int32} {off : Int} (tgt : Nat) (hd : decode M.2.2.1 pc = .ok (.if_icmp .ge off, 3)) (ht : (pc : Int) + off = (tgt : Int)) (kt : y ≤ x → x_Rn M (tgt) lo (st) h cs K) (kf : ¬ y ≤ x → x_Rn M (pc + 3) lo (st) h cs K) : x_Rn M (pc) lo (.int y :: .int x :: st) h cs K := by
  intro p l e s m args below meth c G Z H locs ls C hR hS hL
  exact lv_icmp_ge C.1 C.2.1 hd ht (fun z => kt z p l e s m args below meth c G Z H locs ls C hR hS hL) (fun z => kf z p l e s m args below meth c G Z H locs ls C hR hS hL)
theorem R_icmpgt {M : xM} {pc : Nat} {lo : List (Option Value)} {st : List Value} {h : xH} {cs : Nat × Nat} {K : Option Value → xH → Prop} {x y : Int32} {off : Int} (tgt : Nat) (hd : decode M.2.2.1 pc = .ok (.if_icmp .gt off, 3)) (ht : (pc : Int) + off = (tgt : Int)) (kt : y < x → x_Rn M (tgt) lo (st) h cs K) (kf : ¬ y < x → x_Rn M (pc + 3) lo (st) h cs K) : x_Rn M (pc) lo (.int y :: .int x :: st) h cs K := by
  intro p l e s m args below meth c G Z H locs ls C hR hS hL
  exact lv_icmp_gt C.1 C.2.1 hd ht (fun z => kt z p l e s m args below meth c G Z H locs ls C hR hS hL) (fun z => kf z p l e s m args below meth c G Z H locs ls C hR hS hL)
theorem R_icmple {M : xM} {pc : Nat} {lo : List (Option Value)} {st : List Value} {h : xH} {cs : Nat × Nat} {K : Option Value → xH → Prop} {x y : Int32} {off : Int} (tgt : Nat) (hd : decode M.2.2.1 pc = .ok (.if_icmp .le off, 3)) (ht : (pc : Int) + off = (tgt : Int)) (kt : x ≤ y → x_Rn M (tgt) lo (st) h cs K) (kf : ¬ x ≤ y → x_Rn M (pc + 3) lo (st) h cs K) : x_Rn M (pc) lo (.int y :: .int x :: st) h cs K := by
  intro p l e s m args below meth c G Z H locs ls C hR hS hL
  exact lv_icmp_le C.1 C.2.1 hd ht (fun z => kt z p l e s m args below meth c G Z H locs ls C hR hS hL) (fun z => kf z p l e s m args below meth c G Z H locs ls C hR hS hL)
theorem R_goto {M : xM} {pc : Nat} {lo : List (Option Value)} {st : List Value} {h : xH} {cs : Nat × Nat} {K : Option Value → xH → Prop} {off : Int} (tgt : Nat) (hd : decode M.2.2.1 pc = .ok (.goto off, 3)) (ht : (pc : Int) + off = (tgt : Int)) (kk : x_Rn M (tgt) lo (st) h cs K) : x_Rn M (pc) lo (st) h cs K := by
  intro p l e s m args below meth c G Z H locs ls C hR hS hL
  exact lv_goto C.1 C.2.1 hd ht (kk p l e s m args below meth c G Z H locs ls C hR hS hL)
theorem R_tin {M : xM} {pc : Nat} {lo : List (Option Value)} {st : List Value} {h : xH} {cs : Nat × Nat} {K : Option Value → xH → Prop} {dflt lw hi : Int} {offs : Array Int} {len : Nat} {x : Int32} {off : Int} (tgt : Nat) (hd : decode M.2.2.1 pc = .ok (.tableswitch dflt lw hi offs, len)) (h1 : ¬ x.toInt < lw) (h2 : ¬ hi < x.toInt) (ho : offs[(x.toInt - lw).toNat]? = some off) (ht : (pc : Int) + off = (tgt : Int)) (kk : x_Rn M (tgt) lo (st) h cs K) : x_Rn M (pc) lo (.int x :: st) h cs K := by
  intro p l e s m args below meth c G Z H locs ls C hR hS hL
  exact lv_tableIn C.1 C.2.1 hd h1 h2 ho ht (kk p l e s m args below meth c G Z H locs ls C hR hS hL)
theorem R_tout {M : xM} {pc : Nat} {lo : List (Option Value)} {st : List Value} {h : xH} {cs : Nat × Nat} {K : Option Value → xH → Prop} {dflt lw hi : Int} {offs : Array Int} {len : Nat} {x : Int32} (tgt : Nat) (hd : decode M.2.2.1 pc = .ok (.tableswitch dflt lw hi offs, len)) (h1 : x.toInt < lw ∨ hi < x.toInt) (ht : (pc : Int) + dflt = (tgt : Int)) (kk : x_Rn M (tgt) lo (st) h cs K) : x_Rn M (pc) lo (.int x :: st) h cs K := by
  intro p l e s m args below meth c G Z H locs ls C hR hS hL
  exact lv_tableOut C.1 C.2.1 hd h1 ht (kk p l e s m args below meth c G Z H locs ls C hR hS hL)
theorem R_lookup {M : xM} {pc : Nat} {lo : List (Option Value)} {st : List Value} {h : xH} {cs : Nat × Nat} {K : Option Value → xH → Prop} {dflt : Int} {ps : Array (Int × Int)} {len : Nat} {x : Int32} {off : Int} (tgt : Nat) (hd : decode M.2.2.1 pc = .ok (.lookupswitch dflt ps, len)) (hp : (ps.toList.zip (ps.toList.drop 1)).all (fun (a, next) => a.1 < next.1) = true) (ho : Op.lookupswitch.offset ps.toList dflt x.toInt = off) (ht : (pc : Int) + off = (tgt : Int)) (kk : x_Rn M (tgt) lo (st) h cs K) : x_Rn M (pc) lo (.int x :: st) h cs K := by
  intro p l e s m args below meth c G Z H locs ls C hR hS hL
  exact lv_lookup C.1 C.2.1 hd hp ho ht (kk p l e s m args below meth c G Z H locs ls C hR hS hL)
theorem R_ret {M : xM} {pc : Nat} {lo : List (Option Value)} {h : xH} {cs : Nat × Nat} {K : Option Value → xH → Prop} {v : Option Value} {i : Instr} (hd : decode M.2.2.1 pc = .ok (i, 1)) (hv : x_isRet M.2.2.2.2.1 i v) (hc : cs.1 ≤ M.2.2.2.2.2.cells) (hs : cs.2 ≤ M.2.2.2.2.2.slots) (hk : K v h) : x_Rn M pc lo v.toList h cs K := by
  intro p l e s m args below meth c G Z H locs ls C hR hS hL
  exact W.widen hc hs (C.2.2.2.2.2.2 v h H locs pc ls i hk hR hS hv hd)
/-- another end -/
theorem R_mono {M : xM} {pc : Nat} {lo : List (Option Value)} {st : List Value} {h : xH} {cs : Nat × Nat} {K K2 : Option Value → xH → Prop} (hk : ∀ v h', K v h' → K2 v h') (kk : x_Rn M pc lo st h cs K) : x_Rn M pc lo st h cs K2 :=
  fun p l e s m args below meth c G Z H locs ls C hR hS hL => kk p l e s m args below meth c G Z H locs ls ⟨C.1, C.2.1, C.2.2.1, C.2.2.2.1, C.2.2.2.2.1, C.2.2.2.2.2.1, fun v h' H locs pc ls i z => C.2.2.2.2.2.2 v h' H locs pc ls i (hk v h' z)⟩ hR hS hL
end
section
/-! THE RULES over the heap -/
set_option maxRecDepth 20000 in
theorem x_inX0 : ∀ w ∈ u_ws RX0 TX0 3, w ∈ x_words := by decide +kernel
set_option maxRecDepth 20000 in
theorem x_inX1 : ∀ w ∈ u_ws RX1 TX1 13, w ∈ x_words := by decide +kernel
set_option maxRecDepth 20000 in
theorem x_inX2 : ∀ w ∈ u_ws RX2 TX2 8, w ∈ x_words := by decide +kernel
set_option maxRecDepth 20000 in
theorem x_inX3 : ∀ w ∈ u_ws RX3 TX3 4, w ∈ x_words := by decide +kernel
set_option maxRecDepth 20000 in
theorem x_inX4 : ∀ w ∈ u_ws RX4 TX4 3, w ∈ x_words := by decide +kernel
set_option maxRecDepth 20000 in
theorem x_inX5 : ∀ w ∈ u_ws RX5 TX5 5, w ∈ x_words := by decide +kernel
set_option maxRecDepth 20000 in
theorem x_inX6 : ∀ w ∈ u_ws RX6 TX6 3, w ∈ x_words := by decide +kernel
set_option maxRecDepth 20000 in
theorem x_inX7 : ∀ w ∈ u_ws RX7 TX7 13, w ∈ x_words := by decide +kernel
set_option maxRecDepth 20000 in
theorem x_inX8 : ∀ w ∈ u_ws RX8 TX8 39, w ∈ x_words := by decide +kernel
def x_CIp (q : vw_C) : Prop := (∀ w ∈ u_ws q.1 q.2.1 q.2.2, w ∈ x_words) ∧ (∃ t : Nat → FieldType, ∀ k, k < q.2.2 → parseFieldDescriptor (q.2.1 k).2.2.1 = some (t k)) ∧ (∀ a, a < q.2.2 → ∀ b, b < q.2.2 → a ≠ b → (q.2.1 a).2.1 ≠ (q.2.1 b).2.1)
theorem x_CI : ∀ (ci : Nat) (q : vw_C), vwCl[ci]? = some q → x_CIp q := by
  intro ci q h
  match ci, h with
  | 0, h => cases h; exact ⟨x_inX0, ⟨tyX0, tyX0_ok⟩, nmX0⟩
  | 1, h => cases h; exact ⟨x_inX1, ⟨tyX1, tyX1_ok⟩, nmX1⟩
  | 2, h => cases h; exact ⟨x_inX2, ⟨tyX2, tyX2_ok⟩, nmX2⟩
  | 3, h => cases h; exact ⟨x_inX3, ⟨tyX3, tyX3_ok⟩, nmX3⟩
  | 4, h => cases h; exact ⟨x_inX4, ⟨tyX4, tyX4_ok⟩, nmX4⟩
  | 5, h => cases h; exact ⟨x_inX5, ⟨tyX5, tyX5_ok⟩, nmX5⟩
  | 6, h => cases h; exact ⟨x_inX6, ⟨tyX6, tyX6_ok⟩, nmX6⟩
  | 7, h => cases h; exact ⟨x_inX7, ⟨tyX7, tyX7_ok⟩, nmX7⟩
  | 8, h => cases h; exact ⟨x_inX8, ⟨tyX8, tyX8_ok⟩, nmX8⟩
  | k + 9, h => simp [vwCl] at h
/-- a field by its link: class number, place, type, final or not -/
def x_FL (own : String) (idx ci k : Nat) (ty : FieldType) (fin : Bool) : Prop := ∃ q : vw_C, vwCl[ci]? = some q ∧ k < q.2.2 ∧ Cond.fieldLink own idx (q.2.1 k).1 (q.2.1 k).2.1 (q.2.1 k).2.2.1 ∈ x_words ∧ parseFieldDescriptor (q.2.1 k).2.2.1 = some ty ∧ (q.2.1 k).2.2.2 = fin ∧ (q.2.1 k).1 = q.1
theorem x_big {G : xG} {h : xH} {U : State} {H : Heap} (r : x_Rep G h U H) {a ci : Nat} {fs : List Value} (ha : h[a]? = some (.inr (ci, fs))) : ∃ i, a = i + 2 := by
  obtain ⟨-, -, -, -, ⟨-, ⟨L, xs, e2, -⟩, e4, -⟩, -⟩ := r
  match a, ha with
  | 0, ha => rw [e2] at ha; cases ha
  | 1, ha => rw [e4] at ha; cases ha
  | i + 2, _ => exact ⟨i, rfl⟩
theorem x_bigA {G : xG} {h : xH} {U : State} {H : Heap} (r : x_Rep G h U H) {a k : Nat} {x : vp_A} (h0 : k ≠ 0) (h1 : k ≠ 1) (ha : h[a]? = some (.inl (k, x))) : ∃ i, a = i + 2 := by
  obtain ⟨-, -, -, -, ⟨-, ⟨L, xs, e2, -⟩, e4, -⟩, -⟩ := r
  match a, ha with
  | 0, ha => rw [e2] at ha; cases ha; exact absurd rfl h0
  | 1, ha => rw [e4] at ha; cases ha; exact absurd rfl h1
  | i + 2, _ => exact ⟨i, rfl⟩
section RH
variable {M : xM} {pc : Nat} {lo : List (Option Value)} {st : List Value} {h : xH} {cs : Nat × Nat} {K : Option Value → xH → Prop}
theorem R_get {idx ci k a : Nat} {ty : FieldType} {fin : Bool} {fs : List Value} {v : Value} (hd : decode M.2.2.1 pc = .ok (.getfield idx, 3)) (hf : x_FL M.1 idx ci k ty fin) (ha : h[a]? = some (.inr (ci, fs))) (hv : fs[k]? = some v) (kk : x_Rn M (pc + 3) lo (v :: st) h cs K) : x_Rn M pc lo (.ref a :: st) h cs K := by
  intro p l e s m args below meth c G Z H locs ls C hR hS hL
  obtain ⟨i, rfl⟩ := x_big hR ha
  obtain ⟨⟨Cn, T, N⟩, hq, hk, hw, -, -, -⟩ := hf
  exact va_get C.1 C.2.1 C.2.2.2.2.1 (x_CI ci _ hq).1 C.2.2.2.1 hR.2.2.2.1 hR.2.2.1 i (x_ws_get ha) hq k hk (C.2.2.2.2.1 _ hw) (fun _ z => z) (v := x_cv G v) (by rw [List.getElem?_map, hv]; rfl) hd (kk p l e s m args below meth c G Z H locs ls C hR hS hL)
theorem R_put {idx ci k a : Nat} {ty : FieldType} {fs : List Value} {v : Value} (hd : decode M.2.2.1 pc = .ok (.putfield idx, 3)) (hf : x_FL M.1 idx ci k ty false) (ha : h[a]? = some (.inr (ci, fs))) (hl : k < fs.length) (hn : ∀ G, narrow ty (x_cv G v) = x_cv G v) (hfit : ∀ G, fits ty (x_cv G v) = true) (kk : x_Rn M (pc + 3) lo st (h.set a (.inr (ci, fs.set k v))) cs K) : x_Rn M pc lo (v :: .ref a :: st) h cs K := by
  intro p l e s m args below meth c G Z H locs ls C hR hS hL
  obtain ⟨i, rfl⟩ := x_big hR ha
  obtain ⟨⟨Cn, T, N⟩, hq, hk, hw, hty, hfin, -⟩ := hf
  obtain ⟨hin, ⟨tf, htf⟩, hnm⟩ := x_CI ci _ hq
  have hK := hR.2.2.2.1
  have he := x_ws_get (G := G) ha
  have hts := C.2.2.2.2.1
  have hap := va_apart (own := M.1) hts hin tf htf hnm hK hq
  obtain ⟨r, h1, cell, q1, q2, q3, q4⟩ := hR.2.2.1 i _ he
  have hr : r = (Cn, T, N) := Option.some.inj (h1.symm.trans hq)
  subst hr
  obtain ⟨hSl, hfc, kC, hkC, hkind⟩ := hK.1 ci _ hq
  obtain ⟨cf, kf, fi, f, hi, hsl⟩ := hSl k hk
  have hlay := hts _ (hin _ (u_in_lay hk))
  unfold u_lay at hlay
  rw [if_neg (by rw [hfin]; decide)] at hlay
  have hst := (u_facts hfc hkC (u_lays hts hin hk) hi).1
  have h6 := u_store hfc hkC hkind hlay hi hty (hn G) (hfit G)
  refine W.putK C.1 C.2.1 (f := f) ⟨C.2.2.2.1, hts _ hw, ⟨_, _, _, hi⟩, hst⟩ (by rw [q2]; exact h6) q1 q3 (by rw [hsl]; exact k2_hasslot (q4 k hk)) rfl rfl hd fun H' e1 e2 e3 => ?_
  rw [hsl] at e1 ⊢
  have hA : G.1 ≤ x_sg G (i + 2) := Nat.le_add_right _ _
  refine kk p l e s m args below meth c G Z H' _ ls C (hR.set ?_ e2 (fun q hq => e3 q (fun z => hq (by rw [z]; exact hA)))) (hS.put e2 e3 hA) hL
  refine hR.2.2.1.set (x_ws_D G h) he ?_ e3
  show ∃ r : vw_C, vwCl[ci]? = some r ∧ t_OB _ _ _ _ H' (vp_V ((fs.set k v).map (x_cv G)))
  rw [List.map_set]
  exact ⟨_, hq, t_OB.to (V := updV (vp_V (fs.map (x_cv G))) k (x_cv G v)) ⟨_, e1, q2, q3, t_set q4 hap hk (x_cv G v)⟩ (fun j _ => vp_updV_set (by rw [List.length_map]; exact hl) (x_cv G v) j)⟩
theorem R_putF {idx ci k a : Nat} {ty : FieldType} {fs : List Value} {v : Value} (hd : decode M.2.2.1 pc = .ok (.putfield idx, 3)) (hf : x_FL M.1 idx ci k ty true) (hown : vwCl[ci]?.map (·.1) = some M.1) (hini : M.2.1.name = "<init>") (ha : h[a]? = some (.inr (ci, fs))) (hl : k < fs.length) (hn : ∀ G, narrow ty (x_cv G v) = x_cv G v) (hfit : ∀ G, fits ty (x_cv G v) = true) (kk : x_Rn M (pc + 3) lo st (h.set a (.inr (ci, fs.set k v))) cs K) : x_Rn M pc lo (v :: .ref a :: st) h cs K := by
  intro p l e s m args below meth c G Z H locs ls C hR hS hL
  obtain ⟨i, rfl⟩ := x_big hR ha
  obtain ⟨⟨Cn, T, N⟩, hq, hk, hw, hty, hfin, hdc⟩ := hf
  obtain ⟨hin, ⟨tf, htf⟩, hnm⟩ := x_CI ci _ hq
  have hK := hR.2.2.2.1
  have he := x_ws_get (G := G) ha
  have hts := C.2.2.2.2.1
  have hap := va_apart (own := M.1) hts hin tf htf hnm hK hq
  obtain ⟨r, h1, cell, q1, q2, q3, q4⟩ := hR.2.2.1 i _ he
  have hr : r = (Cn, T, N) := Option.some.inj (h1.symm.trans hq)
  subst hr
  obtain ⟨hSl, hfc, kC, hkC, hkind⟩ := hK.1 ci _ hq
  obtain ⟨cf, kf, fi, f, hi, hsl⟩ := hSl k hk
  have hlay := hts _ (hin _ (u_in_lay hk))
  unfold u_lay at hlay
  rw [if_pos hfin] at hlay
  have hst := (u_facts hfc hkC (u_lays hts hin hk) hi).1
  rw [hq] at hown
  have hCn : Cn = M.1 := Option.some.inj hown
  have hcf : m.cls = cf := by
    obtain ⟨_, _, c', _, _, _, -, -, hf', -, -, -, hown2, -⟩ := Cond.laysFinal_spec hlay
    have e1 : c' = cf := by have := hi.symm.trans hf'; simp at this; exact this.1.symm
    rw [hdc, hCn] at hown2
    rw [← e1]; exact Option.some.inj (C.2.2.2.1.symm.trans hown2)
  have h6 := u_fits hfc hkC hkind (Or.inr hlay) hi hty (hn G) (hfit G)
  refine W.putFinK C.1 C.2.1 C.2.2.2.1 (hts _ hw) hi hst hcf (by rw [C.2.2.2.2.2.1]; exact hini) (by rw [q2]; exact h6) q1 q3 (by rw [hsl]; exact k2_hasslot (q4 k hk)) rfl rfl hd fun H' e1 e2 e3 => ?_
  rw [hsl] at e1 ⊢
  have hA : G.1 ≤ x_sg G (i + 2) := Nat.le_add_right _ _
  refine kk p l e s m args below meth c G Z H' _ ls C (hR.set ?_ e2 (fun q hq => e3 q (fun z => hq (by rw [z]; exact hA)))) (hS.put e2 e3 hA) hL
  refine hR.2.2.1.set (x_ws_D G h) he ?_ e3
  show ∃ r : vw_C, vwCl[ci]? = some r ∧ t_OB _ _ _ _ H' (vp_V ((fs.set k v).map (x_cv G)))
  rw [List.map_set]
  exact ⟨_, hq, t_OB.to (V := updV (vp_V (fs.map (x_cv G))) k (x_cv G v)) ⟨_, e1, q2, q3, t_set q4 hap hk (x_cv G v)⟩ (fun j _ => vp_updV_set (by rw [List.length_map]; exact hl) (x_cv G v) j)⟩
theorem R_iald {a n j : Nat} {f : Nat → Int32} {i : Int32} (hd : decode M.2.2.1 pc = .ok (.iaload, 1)) (ha : h[a]? = some (.inl (0, n, .inl f))) (hi : i = nI j) (hj : j < n) (hn : n < 2 ^ 31) (kk : x_Rn M (pc + 1) lo (.int (f j) :: st) h cs K) : x_Rn M pc lo (.int i :: .ref a :: st) h cs K := by
  intro p l e s m args below meth c G Z H locs ls C hR hS hL
  subst hi
  have hin := vp_in_nI hj hn
  have hcl : (nI j).toNatClampNeg = j := nI_clamp (by omega)
  match a, ha with
  | 0, ha =>
    obtain ⟨L, xs, e2, scr, h1, h2, h3, h4, h5⟩ := hR.2.2.2.2.1.2.1
    rw [e2] at ha
    cases ha
    exact W.iald (v := .int (f j)) C.1 C.2.1 h1 h2 h3 (by rw [h4]; exact hin) (by rw [hcl]; exact h5 j hj) rfl rfl hd (kk p l e s m args below meth c G Z H locs ls C hR hS hL)
  | 1, ha => rw [hR.2.2.2.2.1.2.2.1] at ha; cases ha
  | b + 2, ha =>
    refine va_iald C.1 C.2.1 hR.2.2.2.1 hR.2.2.1 b 0 (x_ws_get ha) rfl hin hd ?_
    rw [hcl]
    exact kk p l e s m args below meth c G Z H locs ls C hR hS hL
theorem R_lald {a n j : Nat} {f : Nat → Int64} {i : Int32} (hd : decode M.2.2.1 pc = .ok (.laload, 1)) (ha : h[a]? = some (.inl (1, n, .inr (.inl f)))) (hi : i = nI j) (hj : j < n) (hn : n < 2 ^ 31) (kk : x_Rn M (pc + 1) lo (.long (f j) :: st) h cs K) : x_Rn M pc lo (.int i :: .ref a :: st) h cs K := by
  intro p l e s m args below meth c G Z H locs ls C hR hS hL
  subst hi
  have hin := vp_in_nI hj hn
  have hcl : (nI j).toNatClampNeg = j := nI_clamp (by omega)
  match a, ha with
  | 0, ha =>
    obtain ⟨L, xs, e2, -⟩ := hR.2.2.2.2.1.2.1
    rw [e2] at ha
    cases ha
  | 1, ha =>
    rw [hR.2.2.2.2.1.2.2.1] at ha
    cases ha
    obtain ⟨cell, h1, h2, h3, h4, h5, h6, h7⟩ := hR.2.2.2.2.1.2.2.2.1
    exact W.lald (v := .long (x_lack j)) C.1 C.2.1 h1 h2 h3 (by rintro (q | q); exact hin (Or.inl q); rw [hcl] at q; omega) (by rw [hcl]; exact h6 j hj) rfl rfl hd (kk p l e s m args below meth c G Z H locs ls C hR hS hL)
  | b + 2, ha =>
    refine va_lald C.1 C.2.1 hR.2.2.2.1 hR.2.2.1 b 1 (x_ws_get ha) rfl hin hd ?_
    rw [hcl]
    exact kk p l e s m args below meth c G Z H locs ls C hR hS hL
theorem R_zald {a n j : Nat} {f : Nat → Int32} {i : Int32} (hd : decode M.2.2.1 pc = .ok (.baload, 1)) (ha : h[a]? = some (.inl (2, n, .inl f))) (hi : i = nI j) (hj : j < n) (hn : n < 2 ^ 31) (kk : x_Rn M (pc + 1) lo (.int (f j) :: st) h cs K) : x_Rn M pc lo (.int i :: .ref a :: st) h cs K := by
  intro p l e s m args below meth c G Z H locs ls C hR hS hL
  subst hi
  have hin := vp_in_nI hj hn
  have hcl : (nI j).toNatClampNeg = j := nI_clamp (by omega)
  obtain ⟨b, rfl⟩ := x_bigA hR (by decide) (by decide) ha
  refine va_zald C.1 C.2.1 hR.2.2.2.1 hR.2.2.1 b 2 (x_ws_get ha) rfl hin hd ?_
  rw [hcl]
  exact kk p l e s m args below meth c G Z H locs ls C hR hS hL
theorem R_aald {a n j kd y : Nat} {ty : FieldType} {f : Nat → Option Nat} {i : Int32} (hd : decode M.2.2.1 pc = .ok (.aaload, 1)) (ha : h[a]? = some (.inl (kd, n, .inr (.inr (.inr (.inr f)))))) (h2 : 2 ≤ a) (hkd : ∀ G, (x_tys G)[kd]? = some (G.2.2.2.2 kd, ty)) (hty : ty.isReference = true) (hi : i = nI j) (hj : j < n) (hn : n < 2 ^ 31) (hy : f j = some y) (kk : x_Rn M (pc + 1) lo (.ref y :: st) h cs K) : x_Rn M pc lo (.int i :: .ref a :: st) h cs K := by
  intro p l e s m args below meth c G Z H locs ls C hR hS hL
  subst hi
  have hin := vp_in_nI hj hn
  have hcl : (nI j).toNatClampNeg = j := nI_clamp (by omega)
  obtain ⟨b, rfl⟩ : ∃ b, a = b + 2 := ⟨a - 2, by omega⟩
  have hat := hR.2.2.1 b _ (x_ws_get ha)
  have hcell : H[x_sg G (b + 2)]? = some (arrV (G.2.2.2.2 kd) n (fun q => va_rf ((f q).map (x_sg G)))) := hat
  refine W.aald (v := .ref (x_sg G y)) (ty := ty) C.1 C.2.1 hcell ((hR.2.2.2.1.2 kd _ (hkd G)).1 n _) hty (fun q => by cases q) (by rw [arrV_size]; exact hin) (by rw [hcl, arrV_read _ _ hj, hy]; rfl) rfl rfl hd ?_
  exact kk p l e s m args below meth c G Z H locs ls C hR hS hL
theorem x_updV_i (f : Nat → Int32) (j : Nat) (x : Int32) : updV (fun q => Value.int (f q)) j (.int x) = fun q => .int (upd f j x q) := by
  funext q
  by_cases hq : q = j
  · subst hq; simp [updV, upd]
  · simp [updV, upd, hq]
theorem x_updV_l (f : Nat → Int64) (j : Nat) (x : Int64) : updV (fun q => Value.long (f q)) j (.long x) = fun q => .long (vp_updL f j x q) := by
  funext q
  by_cases hq : q = j
  · subst hq; simp [updV, vp_updL]
  · simp [updV, vp_updL, hq]
theorem R_iast {a n j : Nat} {f : Nat → Int32} {i x : Int32} (hd : decode M.2.2.1 pc = .ok (.iastore, 1)) (ha : h[a]? = some (.inl (0, n, .inl f))) (h2 : 2 ≤ a) (hi : i = nI j) (hj : j < n) (hn : n < 2 ^ 31) (kk : x_Rn M (pc + 1) lo st (h.set a (.inl (0, n, .inl (upd f j x)))) cs K) : x_Rn M pc lo (.int x :: .int i :: .ref a :: st) h cs K := by
  intro p l e s m args below meth c G Z H locs ls C hR hS hL
  subst hi
  have hin := vp_in_nI hj hn
  have hcl : (nI j).toNatClampNeg = j := nI_clamp (by omega)
  obtain ⟨b, rfl⟩ : ∃ b, a = b + 2 := ⟨a - 2, by omega⟩
  have he := x_ws_get (G := G) ha
  have hcell : H[x_sg G (b + 2)]? = some (arrV (G.2.2.2.2 0) n (fun q => .int (f q))) := hR.2.2.1 b _ he
  refine W.iast C.1 C.2.1 hcell ((hR.2.2.2.1.2 0 _ rfl).1 n _) (fun q => by cases q) (by rw [arrV_size]; exact hin) rfl rfl hd fun H1 e1 z oq => ?_
  rw [hcl, arrV_store, x_updV_i] at e1
  have hA : G.1 ≤ x_sg G (b + 2) := Nat.le_add_right _ _
  exact kk p l e s m args below meth c G Z H1 _ ls C (hR.set (hR.2.2.1.set (x_ws_D G h) he e1 oq) z (fun q hq => oq q (fun z => hq (by rw [z]; exact hA)))) (hS.put z oq hA) hL
theorem R_last {a n j : Nat} {f : Nat → Int64} {i : Int32} {x : Int64} (hd : decode M.2.2.1 pc = .ok (.lastore, 1)) (ha : h[a]? = some (.inl (1, n, .inr (.inl f)))) (h2 : 2 ≤ a) (hi : i = nI j) (hj : j < n) (hn : n < 2 ^ 31) (kk : x_Rn M (pc + 1) lo st (h.set a (.inl (1, n, .inr (.inl (vp_updL f j x))))) cs K) : x_Rn M pc lo (.long x :: .int i :: .ref a :: st) h cs K := by
  intro p l e s m args below meth c G Z H locs ls C hR hS hL
  subst hi
  have hin := vp_in_nI hj hn
  have hcl : (nI j).toNatClampNeg = j := nI_clamp (by omega)
  obtain ⟨b, rfl⟩ : ∃ b, a = b + 2 := ⟨a - 2, by omega⟩
  have he := x_ws_get (G := G) ha
  have hcell : H[x_sg G (b + 2)]? = some (arrV (G.2.2.2.2 1) n (fun q => .long (f q))) := hR.2.2.1 b _ he
  refine W.last C.1 C.2.1 hcell ((hR.2.2.2.1.2 1 _ rfl).1 n _) (fun q => by cases q) (by rw [arrV_size]; exact hin) rfl rfl hd fun H1 e1 z oq => ?_
  rw [hcl, arrV_store, x_updV_l] at e1
  have hA : G.1 ≤ x_sg G (b + 2) := Nat.le_add_right _ _
  exact kk p l e s m args below meth c G Z H1 _ ls C (hR.set (hR.2.2.1.set (x_ws_D G h) he e1 oq) z (fun q hq => oq q (fun z => hq (by rw [z]; exact hA)))) (hS.put z oq hA) hL
theorem R_zast {a n j : Nat} {f : Nat → Int32} {i x : Int32} (hd : decode M.2.2.1 pc = .ok (.bastore, 1)) (ha : h[a]? = some (.inl (2, n, .inl f))) (hx : x = 0 ∨ x = 1) (hi : i = nI j) (hj : j < n) (hn : n < 2 ^ 31) (kk : x_Rn M (pc + 1) lo st (h.set a (.inl (2, n, .inl (upd f j x)))) cs K) : x_Rn M pc lo (.int x :: .int i :: .ref a :: st) h cs K := by
  intro p l e s m args below meth c G Z H locs ls C hR hS hL
  subst hi
  have hin := vp_in_nI hj hn
  have hcl : (nI j).toNatClampNeg = j := nI_clamp (by omega)
  obtain ⟨b, rfl⟩ := x_bigA hR (by decide) (by decide) ha
  have he := x_ws_get (G := G) ha
  have hcell : H[x_sg G (b + 2)]? = some (arrV (G.2.2.2.2 2) n (fun q => .int (f q))) := hR.2.2.1 b _ he
  refine W.zast C.1 C.2.1 hcell ((hR.2.2.2.1.2 2 _ rfl).1 n _) (fun q => by cases q) (by rw [arrV_size]; exact hin) rfl rfl hd fun H1 e1 z oq => ?_
  have hnr : narrow .boolean (.int x) = .int x := by rcases hx with rfl | rfl <;> rfl
  rw [hcl, hnr, arrV_store, x_updV_i] at e1
  have hA : G.1 ≤ x_sg G (b + 2) := Nat.le_add_right _ _
  exact kk p l e s m args below meth c G Z H1 _ ls C (hR.set (hR.2.2.1.set (x_ws_D G h) he e1 oq) z (fun q hq => oq q (fun z => hq (by rw [z]; exact hA)))) (hS.put z oq hA) hL
/-- a Night into an array of them -/
theorem R_aast {a n j v : Nat} {f : Nat → Option Nat} {vs : List Value} {i : Int32} (hd : decode M.2.2.1 pc = .ok (.aastore, 1)) (ha : h[a]? = some (.inl (3, n, .inr (.inr (.inr (.inr f)))))) (hv : h[v]? = some (.inr (2, vs))) (hi : i = nI j) (hj : j < n) (hn : n < 2 ^ 31) (kk : x_Rn M (pc + 1) lo st (h.set a (.inl (3, n, .inr (.inr (.inr (.inr (va_up f j (some v)))))))) cs K) : x_Rn M pc lo (.ref v :: .int i :: .ref a :: st) h cs K := by
  intro p l e s m args below meth c G Z H locs ls C hR hS hL
  subst hi
  have hcl : (nI j).toNatClampNeg = j := nI_clamp (by omega)
  obtain ⟨b, rfl⟩ := x_bigA hR (by decide) (by decide) ha
  obtain ⟨w, rfl⟩ := x_big hR hv
  have he := x_ws_get (G := G) ha
  have hcell : H[x_sg G (b + 2)]? = some (arrV (G.2.2.2.2 3) n (fun q => va_rf ((f q).map (x_sg G)))) := hR.2.2.1 b _ he
  obtain ⟨r', hr', cellV, g1, g2, g3, -⟩ := hR.2.2.1 w _ (x_ws_get hv)
  have hcls := (hR.2.2.2.1.1 2 (RX2, TX2, 8) rfl).2
  obtain ⟨kA, comp, k1, k2, k3, -⟩ := (hR.2.2.2.1.2 3 _ rfl).2
  have hcomp : comp = G.2.2.2.1.1 2 := Option.some.inj (k3.symm.trans hcls.1)
  subst hcomp
  obtain ⟨kC, hkC, -⟩ := hcls.2
  refine W.aast C.1 C.2.1 hcell (fun q h => by cases h) (fun h => by cases h) k1 k2 rfl hkC ⟨nI_pos (by omega), by rw [arrV_size, hcl]; exact hj⟩ g1 (fun q h => by rw [g3] at h; cases h) (by rw [g2]; exact hkC) (by rw [g2]; exact va_assign hcls) rfl rfl hd fun H1 e1 z oq => ?_
  have hA : G.1 ≤ x_sg G (b + 2) := Nat.le_add_right _ _
  rw [hcl, arrV_store] at e1
  have hfun : updV (fun q => va_rf ((f q).map (x_sg G))) j (.ref (x_sg G (w + 2))) = fun q => va_rf ((va_up f j (some (w + 2)) q).map (x_sg G)) := by
    funext q
    by_cases hq : q = j
    · subst hq; simp [updV, va_up, va_rf]
    · simp [updV, va_up, hq]
  rw [hfun] at e1
  exact kk p l e s m args below meth c G Z H1 _ ls C (hR.set (hR.2.2.1.set (x_ws_D G h) he e1 oq) z (fun q hq => oq q (fun z => hq (by rw [z]; exact hA)))) (hS.put z oq hA) hL
theorem R_alen {a n : Nat} {f : Nat → Int32} (hd : decode M.2.2.1 pc = .ok (.arraylength, 1)) (ha : h[a]? = some (.inl (0, n, .inl f))) (kk : x_Rn M (pc + 1) lo (.int (nI n) :: st) h cs K) : x_Rn M pc lo (.ref a :: st) h cs K := by
  intro p l e s m args below meth c G Z H locs ls C hR hS hL
  match a, ha with
  | 0, ha =>
    obtain ⟨L, xs, e2, scr, h1, h2, h3, h4, h5⟩ := hR.2.2.2.2.1.2.1
    rw [e2] at ha
    cases ha
    exact W.alen (n := nI n) C.1 C.2.1 h1 h2 (by rw [h4]; rfl) rfl rfl hd (kk p l e s m args below meth c G Z H locs ls C hR hS hL)
  | 1, ha => rw [hR.2.2.2.2.1.2.2.1] at ha; cases ha
  | b + 2, ha => exact va_alen C.1 C.2.1 hR.2.2.2.1 hR.2.2.1 b 0 (x_ws_get ha) rfl rfl hd (kk p l e s m args below meth c G Z H locs ls C hR hS hL)
/-- the static table -/
theorem R_lack (hd : decode M.2.2.1 pc = .ok (.getstatic 102, 3)) (hM : M.1 = "LastSentence$Planner") (kk : x_Rn M (pc + 3) lo (.ref 1 :: st) h cs K) : x_Rn M pc lo st h cs K := by
  intro p l e s m args below meth c G Z H locs ls C hR hS hL
  obtain ⟨cf, kf, fi, f, a, cell, h1, h2, h3, h4, h5, h6, h7, h8⟩ := hR.2.2.2.2.1.2.2.2.2
  have hw : va_Nw (.fieldLinkNest "LastSentence$Planner" 102 "LastSentence" "LACKING" "[J" "LastSentence") s := hR.2.2.2.2.2.1 _ List.mem_cons_self
  have hown := C.2.2.2.1
  rw [hM] at hown
  exact va_WgetsN C.1 C.2.1 hown (va_Nw.use rfl hw) h1 h2 h3 h4 h5 (fun e => by rw [e] at h6; cases h6) h7 rfl hd (kk p l e s m args below meth c G Z H locs ls C hR hS hL)
end RH
end
section
/-! CONTRACTS AND CALLS -/
def x_Met (M : xM) (av : List Value) (h : xH) (K : Option Value → xH → Prop) : Prop := ∀ (l : Launch) (G : xG), Met l M.2.1 (Cond.code M.2.1 M.2.2.1 M.2.2.2.1 M.2.2.2.2.1 :: x_words) M.2.2.2.2.2 (va_Pc (av.map (x_cv G)) (fun U => x_Rep G h U U.heap))
  (fun _ s oc t => ∃ (v : Option Value) (h' : xH), oc = .returned (v.map (x_cv G)) ∧ K v h' ∧ x_Rep G h' t t.heap ∧ va_F (fun q => G.1 ≤ q) s t) M.2.2.2.2.2.cells M.2.2.2.2.2.slots (fun q => G.1 ≤ q)
def x_lay1 (av : List Value) : List (Option Value) := av.flatMap (fun v => if v.category = 2 then [some v, none] else [some v])
def x_lay (n : Nat) (av : List Value) : List (Option Value) := x_lay1 av ++ List.replicate (n - (x_lay1 av).length) none
theorem x_lay1_len : ∀ av : List Value, (x_lay1 av).length = (lg_sl av).length
  | [] => rfl
  | v :: av => by
    have ih := x_lay1_len av
    unfold x_lay1 lg_sl at ih ⊢
    simp only [List.flatMap_cons, List.length_append, ih]
    split <;> rfl
theorem x_lay1_get : ∀ (av : List Value) (i : Nat) (v : Value), (x_lay1 av)[i]? = some (some v) → (lg_sl av)[i]? = some (.val v)
  | [], i, v, h => by cases i <;> cases h
  | w :: av, i, v, h => by
    have ih := x_lay1_get av
    unfold x_lay1 at ih h
    unfold lg_sl at ih ⊢
    rw [List.flatMap_cons] at h ⊢
    by_cases hc : w.category = 2
    · rw [if_pos hc] at h ⊢
      match i, h with
      | 0, h => cases h; rfl
      | 1, h => cases h
      | i + 2, h => exact ih i v h
    · rw [if_neg hc] at h ⊢
      match i, h with
      | 0, h => cases h; rfl
      | i + 1, h => exact ih i v h
theorem x_lay1_map (G : xG) (av : List Value) : x_mp G (x_lay1 av) = x_lay1 (av.map (x_cv G)) := by
  unfold x_mp x_lay1
  induction av with
  | nil => rfl
  | cons v av ih =>
    simp only [List.flatMap_cons, List.map_cons, List.map_append, ih, x_cv_cat]
    split <;> rfl
theorem x_lay_entry (G : xG) (n : Nat) (av : List Value) (hn : (x_lay1 av).length ≤ n) : x_LH ((lg_sl (av.map (x_cv G)) ++ List.replicate (n - (lg_sl (av.map (x_cv G))).length) Slot.unset).toArray) n (x_mp G (x_lay n av)) := by
  have e1 : (x_lay1 av).length = (lg_sl (av.map (x_cv G))).length := by rw [← x_lay1_len, ← x_lay1_map]; unfold x_mp; rw [List.length_map]
  obtain ⟨h1, h2, -⟩ := lv_entry (av.map (x_cv G)) (n := n) (by rw [← e1]; exact hn)
  refine ⟨h1, h2, fun i v h => ?_⟩
  have e2 : x_mp G (x_lay n av) = x_lay1 (av.map (x_cv G)) ++ List.replicate (n - (x_lay1 av).length) none := by
    rw [← x_lay1_map]
    unfold x_mp x_lay
    rw [List.map_append, List.map_replicate]
    rfl
  rw [e2] at h
  by_cases hl : i < (x_lay1 (av.map (x_cv G))).length
  · rw [List.getElem?_append_left hl] at h
    have h3 := x_lay1_get _ _ _ h
    rw [List.getElem?_toArray, List.getElem?_append_left (by rw [← x_lay1_len]; exact hl)]
    exact h3
  · rw [List.getElem?_append_right (by omega), List.getElem?_replicate] at h
    split at h <;> cases h
theorem x_Met.of {M : xM} {av : List Value} {h : xH} {K : Option Value → xH → Prop} {lo : List (Option Value)} (hn : plainName M.2.1.cls = true) (hcl : M.1 = M.2.1.cls) (hlo : x_lay M.2.2.2.1 av = lo) (hle : Nat.ble (x_lay1 av).length M.2.2.2.1 = true) (kk : x_Rn M 0 lo [] h (0, 0) K) : x_Met M av h K := by
  intro l G
  refine Met.ofW (cc := M.2.2.1) (maxL := M.2.2.2.1) (ret := M.2.2.2.2.1) hn rfl ?_
  intro p e s m args below meth c s₁ B hml hv
  obtain ⟨rfl, hR⟩ := hv
  have hts := atoms_spec (ws := Cond.code M.2.1 M.2.2.1 M.2.2.2.1 M.2.2.2.2.1 :: x_words) B.pre
  have hown : s.vm.findClass M.1 = some m.cls := by rw [hcl]; exact findClass_of_methodNamed B.named
  have hlocks := B.notSynchronized
  have hret := B.returns
  rw [lg_entry_eq]
  subst hlo
  refine kk p l e s m _ below meth c G _ s.heap [] _ ⟨B.exec, B.bytes, hml, hown, fun w hw => hts w (List.mem_cons_of_mem _ hw), (name_of_methodNamed B.named B.method).1, ?_⟩ hR va_S.rf (x_lay_entry G _ av (Nat.le_of_ble_eq_true hle))
  intro v h' H locs pc ls i hK hR' hS' hri hd
  have hx := B.exec
  have hb := B.bytes
  have hroom : (headSpec (Cond.code M.2.1 M.2.2.1 M.2.2.2.1 M.2.2.2.2.1 :: x_words) M.2.2.2.2.2).room = M.2.2.2.2.2 := rfl
  generalize hrt : M.2.2.2.2.1 = rt at hri hret
  match rt, hri with
  | none, hri =>
    obtain ⟨rfl, rfl⟩ := hri
    exact W.vret hx hb hret (fun t ht hW => ⟨none, h', rfl, hK, by rw [ht]; exact hR'.warm hW, hS'.F ht⟩) hS'.2.2 hd
  | some .int, hri =>
    obtain ⟨rfl, x, rfl⟩ := hri
    exact W.iret hx hb hret (fun t ht hW => ⟨some (.int x), h', rfl, hK, by rw [ht]; exact hR'.warm hW, hS'.F ht⟩) hS'.2.2 hd
  | some .boolean, hri =>
    obtain ⟨rfl, x, rfl, hx01⟩ := hri
    exact W.zret hx hb hret (by rcases hx01 with rfl | rfl <;> rfl) (fun t ht hW => ⟨some (.int x), h', rfl, hK, by rw [ht]; exact hR'.warm hW, hS'.F ht⟩) hS'.2.2 hd
  | some .long, hri =>
    obtain ⟨rfl, x, rfl⟩ := hri
    exact W.lret hx hb hret (fun t ht hW => ⟨some (.long x), h', rfl, hK, by rw [ht]; exact hR'.warm hW, hS'.F ht⟩) hS'.2.2 hd
theorem x_Met.mono {M : xM} {av : List Value} {h : xH} {K K2 : Option Value → xH → Prop} (hk : ∀ v h', K v h' → K2 v h') (H : x_Met M av h K) : x_Met M av h K2 := by
  intro l G
  have h1 := H l G
  unfold Met at h1 ⊢
  intro p e ha hc hkk s m args below hf happ hP hT
  obtain ⟨k, o, g1, g2, g3, g4⟩ := h1 p e ha hc hkk s m args below hf happ hP hT
  obtain ⟨⟨v, h', e1, e2, e3⟩, e4⟩ := g4
  exact ⟨k, o, g1, g2, g3, ⟨v, h', e1, hk v h' e2, e3⟩, e4⟩
section XC
variable {p : Program} {l : Launch} {e : Env} {R : Room} {s : State} {m : MethodId} {args : Array Value} {below : List Frame} {meth : Method} {c : Code} {H : Heap} {locs : List Loc} {cells slots : Nat} {Z : State → Prop}
theorem x_called {G : xG} {h : xH} {Kc : Option Value → xH → Prop} {pc mc ms : Nat} {ls : Array Slot} {st0 rest : List Value} (hr : va_Run p l e R s m args below meth c H locs cells slots mc ms (F0 m pc ls st0) rest (fun s oc t => ∃ (v : Option Value) (h' : xH), oc = .returned (v.map (x_cv G)) ∧ Kc v h' ∧ x_Rep G h' t t.heap ∧ va_F (fun q => G.1 ≤ q) s t) (fun q => G.1 ≤ q))
    (hR : x_Rep G h s H) (hS : va_S (fun q => G.1 ≤ q) s.heap H locs) (kk : ∀ (v : Option Value) (h' : xH) (H1 : Heap) (locs1 : List Loc), Kc v h' → x_Rep G h' s H1 → va_S (fun q => G.1 ≤ q) s.heap H1 locs1 → W p l e R s m args below meth c H1 locs1 (cells + mc) (slots + ms) Z (F0 m (pc + 3) ls ((v.map (x_cv G)).toList ++ rest))) : W p l e R s m args below meth c H locs cells slots Z (F0 m pc ls st0) := by
  intro T hT X
  obtain ⟨v0, st₀, t, T', L, h0, X', hL, e1, e2, ⟨v, h', hv, hK, hRt, hz, hk⟩, st⟩ := hr T hT X
  cases hv
  rw [h0] at hz hk
  have hal : t.vm.Alike s.vm := by rw [← e2]; exact X'.warmed.alike.symm
  have hR1 : x_Rep G h' s T'.heap := by
    rw [e1]
    exact ⟨hRt.1, hRt.2.1, hRt.2.2.1, hR.2.2.2.1, hRt.2.2.2.2.1.moved hal, hR.2.2.2.2.2⟩
  have hS1 : va_S (fun q => G.1 ≤ q) s.heap T'.heap (locs ++ L) := ⟨Nat.le_trans hS.1 (by rw [e1]; exact hz), fun q h1 h2 => by rw [e1, hk q (Nat.lt_of_lt_of_le h1 hS.1) h2]; exact hS.2.1 q h1 h2, fun q hq => by
      rcases List.mem_append.mp hq with h | h
      · exact hS.2.2 q h
      · exact hL q h⟩
  obtain ⟨t2, a1, b1⟩ := kk v h' T'.heap (locs ++ L) hK hR1 hS1 T' rfl X'
  exact ⟨t2, st t2 a1, b1⟩
end XC
def x_IM (N : xM) (n : Nat) : Prop := Cond.code N.2.1 N.2.2.1 N.2.2.2.1 N.2.2.2.2.1 ∈ x_words ∧ Cond.initialized N.2.1.cls ∈ x_words ∧ (N.2.1.cls ≠ "java/lang/invoke/MethodHandle" ∧ N.2.1.cls ≠ "java/lang/invoke/VarHandle" ∧ (parseMethodDescriptor N.2.1.desc).map (fun d => d.parameters.length) = some n)
def x_IV (N : xM) (n ci : Nat) : Prop := x_IM N n ∧ Cond.instanceMethod N.2.1 ∈ x_words ∧ Cond.selects N.2.1.cls N.2.1 N.2.1 ∈ x_words ∧ vwCl[ci]?.map (·.1) = some N.2.1.cls
def x_IS (N : xM) (n : Nat) : Prop := x_IM N n ∧ Cond.static N.2.1 ∈ x_words
def x_II (N : xM) (n : Nat) : Prop := x_IM N n ∧ N.2.1.name = "<init>" ∧ Cond.instanceMethod N.2.1 ∈ x_words
def x_fit (M N : xM) (cs : Nat × Nat) : Bool := Nat.ble (N.2.2.2.2.2.frames + 1) M.2.2.2.2.2.frames && Nat.ble (8 + (N.2.2.2.1 + 11) + N.2.2.2.2.2.locals) M.2.2.2.2.2.locals && Nat.ble (cs.1 + N.2.2.2.2.2.cells) M.2.2.2.2.2.cells && Nat.ble (cs.2 + N.2.2.2.2.2.slots) M.2.2.2.2.2.slots
def x_stk (st : List Value) : Bool := Nat.ble ((st.map fun v => v.category).sum) 8
theorem x_fit.of {M N : xM} {cs : Nat × Nat} (h : x_fit M N cs = true) : (N.2.2.2.2.2.frames + 1 ≤ M.2.2.2.2.2.frames ∧ 8 + (N.2.2.2.1 + 11) + N.2.2.2.2.2.locals ≤ M.2.2.2.2.2.locals) ∧ cs.1 + N.2.2.2.2.2.cells ≤ M.2.2.2.2.2.cells ∧ cs.2 + N.2.2.2.2.2.slots ≤ M.2.2.2.2.2.slots := by
  simp only [x_fit, Bool.and_eq_true] at h
  exact ⟨⟨Nat.le_of_ble_eq_true h.1.1.1, Nat.le_of_ble_eq_true h.1.1.2⟩, Nat.le_of_ble_eq_true h.1.2, Nat.le_of_ble_eq_true h.2⟩
theorem x_good {w : Cond} (hw : w ∈ x_words) : GoodIn x_words (w :: x_words) := by
  intro v hv
  rcases List.mem_cons.mp hv with rfl | hv
  · exact ⟨hw, good_of_word (List.mem_filter.mp hw).2⟩
  · exact ⟨hv, good_of_word (List.mem_filter.mp hv).2⟩
theorem x_cats (G : xG) (st : List Value) : ((st.map (x_cv G)).map fun v => v.category) = st.map fun v => v.category := by
  rw [List.map_map]
  exact List.map_congr_left (fun v _ => x_cv_cat G v)
theorem x_blind (G : xG) (av : List Value) (h : xH) : FrameBlind (va_Pc av (fun U => x_Rep G h U U.heap)) := by
  intro a U g mk q
  obtain ⟨q1, q2⟩ := q
  refine ⟨q1, q2.1, q2.2.1, q2.2.2.1, va_K.moved (u := U) (U := U.calling g mk a) (Vm.Alike.refl U.vm) q2.2.2.2.1, x_Ext.moved (u := U) (U := U.calling g mk a) (Vm.Alike.refl U.vm) q2.2.2.2.2.1, ?_⟩
  refine ⟨fun w hw => ?_, q2.2.2.2.2.2.2.1.moved (Vm.Alike.refl U.vm), q2.2.2.2.2.2.2.2.1.moved (Vm.Alike.refl U.vm), q2.2.2.2.2.2.2.2.2.moved (Vm.Alike.refl U.vm)⟩
  have h1 := q2.2.2.2.2.2.1 w hw
  simp only [x_nest, List.mem_cons, List.not_mem_nil, or_false] at hw
  rcases hw with rfl | rfl | rfl | rfl | rfl | rfl | rfl | rfl <;> exact va_Nw.same rfl (show U.vm = (U.calling g mk a).vm from rfl) h1
section RC
variable {M N : xM} {pc : Nat} {lo : List (Option Value)} {st : List Value} {h : xH} {cs : Nat × Nat} {K Kc : Option Value → xH → Prop}
theorem x_pos (G : xG) (o : Option Value) (st : List Value) : (o.map (x_cv G)).toList ++ st.map (x_cv G) = (o.toList ++ st).map (x_cv G) := by cases o <;> rfl
theorem R_callV {idx ci a n : Nat} {fs av : List Value} (hd : decode M.2.2.1 pc = .ok (.invokevirtual idx, 3)) (hl : Cond.methodLink M.1 idx N.2.1 ∈ x_words) (hN : x_IV N n ci) (hn : av.length = n) (ha : h[a]? = some (.inr (ci, fs))) (hC : x_Met N (.ref a :: av) h Kc) (hf : x_fit M N cs = true) (hs : x_stk st = true)
    (kk : ∀ v h', Kc v h' → x_Rn M (pc + 3) lo (v.toList ++ st) h' (cs.1 + N.2.2.2.2.2.cells, cs.2 + N.2.2.2.2.2.slots) K) : x_Rn M pc lo (av.reverse ++ .ref a :: st) h cs K := by
  intro p l e s m args below meth c G Z H locs ls C hR hS hL
  obtain ⟨i, rfl⟩ := x_big hR ha
  obtain ⟨⟨hcode, hini, hd3⟩, hinst, hsel, hci⟩ := hN
  obtain ⟨hroom, hcs⟩ := x_fit.of hf
  have hts := C.2.2.2.2.1
  obtain ⟨q, hq, hqn⟩ : ∃ q : vw_C, vwCl[ci]? = some q ∧ q.1 = N.2.1.cls := by
    cases hz : vwCl[ci]? with
    | none => rw [hz] at hci; cases hci
    | some q => rw [hz] at hci; exact ⟨q, rfl, Option.some.inj hci⟩
  have hrecv := va_recv hR.2.2.2.1 hR.2.2.1 hq (x_ws_get ha)
  rw [hqn] at hrecv
  have e1 : (av.reverse ++ .ref (i + 2) :: st).map (x_cv G) = (av.map (x_cv G)).reverse ++ .ref (x_sg G (i + 2)) :: st.map (x_cv G) := by
    rw [List.map_append, List.map_reverse]; rfl
  rw [e1]
  refine x_called (va_runV (Ts := x_words) (As := av.map (x_cv G)) (rest := st.map (x_cv G)) (b := x_sg G (i + 2)) ⟨C.1, C.2.1, C.2.2.1, C.2.2.2.1, hts⟩ (hC l G) ⟨callB_of n hts (x_good hcode) rfl rfl rfl (hts _ hini) (hts _ hl) hd3 hroom, hts _ hinst, hts _ hsel⟩ ⟨x_blind G _ h, hrecv, fun U hU hW => ⟨rfl, by show x_Rep G h U U.heap; rw [hU]; exact hR.warm hW⟩⟩ rfl (by rw [List.length_map]; exact hn) hL.1 rfl (lv_room (by rw [x_cats]; exact Nat.le_of_ble_eq_true hs)) hd hcs) hR hS ?_
  intro v h' H1 locs1 hK hR1 hS1
  rw [x_pos]
  exact kk v h' hK p l e s m args below meth c G Z H1 locs1 ls C hR1 hS1 hL
theorem R_callS {idx n : Nat} {av : List Value} (hd : decode M.2.2.1 pc = .ok (.invokestatic idx, 3)) (hl : Cond.methodLink M.1 idx N.2.1 ∈ x_words) (hN : x_IS N n) (hn : av.length = n) (hC : x_Met N av h Kc) (hf : x_fit M N cs = true) (hs : x_stk st = true)
    (kk : ∀ v h', Kc v h' → x_Rn M (pc + 3) lo (v.toList ++ st) h' (cs.1 + N.2.2.2.2.2.cells, cs.2 + N.2.2.2.2.2.slots) K) : x_Rn M pc lo (av.reverse ++ st) h cs K := by
  intro p l e s m args below meth c G Z H locs ls C hR hS hL
  obtain ⟨⟨hcode, hini, hd3⟩, hstat⟩ := hN
  obtain ⟨hroom, hcs⟩ := x_fit.of hf
  have hts := C.2.2.2.2.1
  have e1 : (av.reverse ++ st).map (x_cv G) = (av.map (x_cv G)).reverse ++ st.map (x_cv G) := by
    rw [List.map_append, List.map_reverse]
  rw [e1]
  refine x_called (va_runS (Ts := x_words) (As := av.map (x_cv G)) (rest := st.map (x_cv G)) ⟨C.1, C.2.1, C.2.2.1, C.2.2.2.1, hts⟩ (hC l G) ⟨callB_of n hts (x_good hcode) rfl rfl rfl (hts _ hini) (hts _ hl) hd3 hroom, hts _ hstat⟩ ⟨x_blind G _ h, fun U hU hW => ⟨rfl, by show x_Rep G h U U.heap; rw [hU]; exact hR.warm hW⟩⟩ rfl (by rw [List.length_map]; exact hn) hL.1 rfl (lv_room (by rw [x_cats]; exact Nat.le_of_ble_eq_true hs)) hd hcs) hR hS ?_
  intro v h' H1 locs1 hK hR1 hS1
  rw [x_pos]
  exact kk v h' hK p l e s m args below meth c G Z H1 locs1 ls C hR1 hS1 hL
theorem R_callI {idx a n : Nat} {av : List Value} (hd : decode M.2.2.1 pc = .ok (.invokespecial idx, 3)) (hl : Cond.methodLink M.1 idx N.2.1 ∈ x_words) (hrt : N.2.2.2.2.1 = none) (hN : x_II N n) (hn : av.length = n) (hC : x_Met N (.ref a :: av) h Kc) (hf : x_fit M N cs = true) (hs : x_stk st = true)
    (kk : ∀ v h', Kc v h' → x_Rn M (pc + 3) lo (v.toList ++ st) h' (cs.1 + N.2.2.2.2.2.cells, cs.2 + N.2.2.2.2.2.slots) K) : x_Rn M pc lo (av.reverse ++ .ref a :: st) h cs K := by
  intro p l e s m args below meth c G Z H locs ls C hR hS hL
  obtain ⟨⟨hcode, hini, hd3⟩, hnm, hinst⟩ := hN
  obtain ⟨hroom, hcs⟩ := x_fit.of hf
  have hts := C.2.2.2.2.1
  have e1 : (av.reverse ++ .ref a :: st).map (x_cv G) = (av.map (x_cv G)).reverse ++ .ref (x_sg G a) :: st.map (x_cv G) := by
    rw [List.map_append, List.map_reverse]; rfl
  rw [e1]
  have hM := hC l G
  rw [hrt] at hM hcode
  refine x_called (va_runI (Ts := x_words) (As := av.map (x_cv G)) (rest := st.map (x_cv G)) (b := x_sg G a) ⟨C.1, C.2.1, C.2.2.1, C.2.2.2.1, hts⟩ hM ⟨callB_of n hts (x_good hcode) rfl rfl rfl (hts _ hini) (hts _ hl) hd3 hroom, hnm, hts _ hinst⟩ ⟨x_blind G _ h, fun U hU hW => ⟨rfl, by show x_Rep G h U U.heap; rw [hU]; exact hR.warm hW⟩⟩ rfl (by rw [List.length_map]; exact hn) hL.1 rfl (lv_room (by rw [x_cats]; exact Nat.le_of_ble_eq_true hs)) hd hcs) hR hS ?_
  intro v h' H1 locs1 hK hR1 hS1
  rw [x_pos]
  exact kk v h' hK p l e s m args below meth c G Z H1 locs1 ls C hR1 hS1 hL
theorem R_callIN {idx a n : Nat} {host : String} {av : List Value} (hd : decode M.2.2.1 pc = .ok (.invokespecial idx, 3)) (hl : Cond.methodLinkNest M.1 idx N.2.1 host ∈ x_nest) (hrt : N.2.2.2.2.1 = none) (hN : x_II N n) (hn : av.length = n) (hC : x_Met N (.ref a :: av) h Kc) (hf : x_fit M N cs = true) (hs : x_stk st = true)
    (kk : ∀ v h', Kc v h' → x_Rn M (pc + 3) lo (v.toList ++ st) h' (cs.1 + N.2.2.2.2.2.cells, cs.2 + N.2.2.2.2.2.slots) K) : x_Rn M pc lo (av.reverse ++ .ref a :: st) h cs K := by
  intro p l e s m args below meth c G Z H locs ls C hR hS hL
  obtain ⟨⟨hcode, hini, hd3⟩, hnm, hinst⟩ := hN
  obtain ⟨hroom, hcs⟩ := x_fit.of hf
  have hts := C.2.2.2.2.1
  have e1 : (av.reverse ++ .ref a :: st).map (x_cv G) = (av.map (x_cv G)).reverse ++ .ref (x_sg G a) :: st.map (x_cv G) := by
    rw [List.map_append, List.map_reverse]; rfl
  rw [e1]
  have hM := hC l G
  rw [hrt] at hM hcode
  refine x_called (va_runIN (Ts := x_words) (As := av.map (x_cv G)) (rest := st.map (x_cv G)) (b := x_sg G a) ⟨C.1, C.2.1, C.2.2.1, C.2.2.2.1, hts⟩ hM ⟨va_cnB n hts (x_good hcode) rfl rfl rfl (hR.2.2.2.2.2.1 _ hl) (hts _ hini) hd3 hroom, hnm, hts _ hinst⟩ ⟨x_blind G _ h, fun U hU hW => ⟨rfl, by show x_Rep G h U U.heap; rw [hU]; exact hR.warm hW⟩⟩ rfl (by rw [List.length_map]; exact hn) hL.1 rfl (lv_room (by rw [x_cats]; exact Nat.le_of_ble_eq_true hs)) hd hcs) hR hS ?_
  intro v h' H1 locs1 hK hR1 hS1
  rw [x_pos]
  exact kk v h' hK p l e s m args below meth c G Z H1 locs1 ls C hR1 hS1 hL
end RC
end
section
/-! CELLS THAT ARE MADE, arrays that are copied -/
theorem x_cv_df (G : xG) (t : FieldType) : x_cv G (defaultValue t) = defaultValue t := by cases t <;> rfl
theorem x_top {G : xG} {h : xH} {U : State} {H : Heap} (r : x_Rep G h U H) : H.size = x_sg G h.length ∧ G.1 ≤ H.size := by
  obtain ⟨r1, r2, -⟩ := r
  obtain ⟨k, hk⟩ : ∃ k, h.length = k + 2 := ⟨h.length - 2, by omega⟩
  rw [hk] at r2 ⊢
  exact ⟨r2, by omega⟩
theorem x_Sgrow {A : Nat → Prop} {H0 H H1 : Heap} {locs : List Loc} (hS : va_S A H0 H locs) (hz : H.size ≤ H1.size) (hq : ∀ q : Nat, q < H.size → H1[q]? = H[q]?) : va_S A H0 H1 locs :=
  ⟨Nat.le_trans hS.1 hz, fun q h1 h2 => (hq q (Nat.lt_of_lt_of_le h1 hS.1)).trans (hS.2.1 q h1 h2), hS.2.2⟩
section RM
variable {M : xM} {pc : Nat} {lo : List (Option Value)} {st : List Value} {h : xH} {cs : Nat × Nat} {K : Option Value → xH → Prop}
theorem R_new {idx ci N : Nat} {Cn : String} {T : u_T} {t : Nat → FieldType} {fs : List Value} (hd : decode M.2.2.1 pc = .ok (.new idx, 3)) (hq : vwCl[ci]? = some (Cn, T, N)) (hcl : Cond.classLink M.1 idx Cn ∈ x_words) (hinst : Cond.instantiable Cn N ∈ x_words) (hini : Cond.initialized Cn ∈ x_words) (ht : ∀ k, k < N → parseFieldDescriptor (T k).2.2.1 = some (t k)) (hfs : ∀ j, j < N → vp_V fs j = defaultValue (t j)) (hc : Nat.ble (cs.1 + 1) M.2.2.2.2.2.cells = true) (hs : Nat.ble (cs.2 + N) M.2.2.2.2.2.slots = true)
    (kk : x_Rn M (pc + 3) lo (.ref h.length :: st) (h ++ [.inr (ci, fs)]) (cs.1 + 1, cs.2 + N) K) : x_Rn M pc lo st h cs K := by
  intro p l e s m args below meth c G Z H locs ls C hR hS hL
  have hts := C.2.2.2.2.1
  have hKn := hR.2.2.2.1.1 ci _ hq
  obtain ⟨htop, hbase⟩ := x_top hR
  refine W.newcK C.1 C.2.1 C.2.2.2.1 (hts _ hcl) (hts _ hinst) (hts _ hini) rfl hd (Nat.le_of_ble_eq_true hc) (Nat.le_of_ble_eq_true hs) hKn.2.1 rfl fun H1 kC hkC e1 z1 o1 => ?_
  have key := kk p l e s m args below meth c G Z H1 locs ls C (hR.push (e := .inr (ci, fs)) z1 o1 ?_) (x_Sgrow hS (by omega) o1) hL
  · rw [htop]
    exact key
  · rw [hR.2.1] at e1
    refine ⟨_, hq, (u_born t hts (x_CI ci _ hq).1 hKn hkC e1 ht).to (fun j hj => ?_)⟩
    show defaultValue (t j) = (fs.map (x_cv G)).getD j .null
    have e2 : (fs.map (x_cv G)).getD j .null = x_cv G (fs.getD j .null) := by
      rw [List.getD_eq_getElem?_getD, List.getD_eq_getElem?_getD, List.getElem?_map]
      cases fs[j]? <;> rfl
    rw [e2]
    have e3 : fs.getD j .null = defaultValue (t j) := hfs j hj
    rw [e3, x_cv_df]
def x_at : ArrayType → Nat
  | .int => 0
  | .long => 1
  | .boolean => 2
  | _ => 9
def x_az : Nat → Nat → xC
  | 1, n => .inl (1, n, .inr (.inl (fun _ => 0)))
  | k, n => .inl (k, n, .inl (fun _ => 0))
theorem R_newa {at_ : ArrayType} {N : Nat} {n : Int32} (hd : decode M.2.2.1 pc = .ok (.newarray at_, 2)) (hat : at_ = .int ∨ at_ = .long ∨ at_ = .boolean) (hw : Cond.arrayClass (newarray.typeOf at_) ∈ x_words) (hn : n = nI N) (hN : Nat.ble N 60000 = true) (hc : Nat.ble (cs.1 + 1) M.2.2.2.2.2.cells = true) (hs : Nat.ble (cs.2 + N) M.2.2.2.2.2.slots = true)
    (kk : x_Rn M (pc + 2) lo (.ref h.length :: st) (h ++ [x_az (x_at at_) N]) (cs.1 + 1, cs.2 + N) K) : x_Rn M pc lo (.int n :: st) h cs K := by
  intro p l e s m args below meth c G Z H locs ls C hR hS hL
  have hts := C.2.2.2.2.1
  subst hn
  have hN' := Nat.le_of_ble_eq_true hN
  obtain ⟨htop, hbase⟩ := x_top hR
  refine va_newaK (n := nI N) (N := N) C.1 C.2.1 (hts _ hw) rfl hd rfl (nI_pos (by omega)) (nI_clamp (by omega)) ?_ (Nat.le_of_ble_eq_true hc) (Nat.le_of_ble_eq_true hs) rfl fun H1 cA e1 z1 o1 hAr hNm => ?_
  · rcases hat with rfl | rfl | rfl
    · show N * 4 ≤ 536870912; omega
    · show N * 8 ≤ 536870912; omega
    · show N * 1 ≤ 536870912; omega
  have key := kk p l e s m args below meth c G Z H1 locs ls C (hR.push z1 o1 ?_) (x_Sgrow hS (by omega) o1) hL
  · rw [htop]
    exact key
  · rw [hR.2.1] at e1
    rcases hat with rfl | rfl | rfl
    · have hA : G.2.2.2.2 0 = cA := Option.some.inj ((hR.2.2.2.1.2 0 _ rfl).2.symm.trans hNm)
      show H1[_]? = some (arrV (G.2.2.2.2 0) N (fun _ => .int 0))
      rw [hA]; exact e1
    · have hA : G.2.2.2.2 1 = cA := Option.some.inj ((hR.2.2.2.1.2 1 _ rfl).2.symm.trans hNm)
      show H1[_]? = some (arrV (G.2.2.2.2 1) N (fun _ => .long 0))
      rw [hA]; exact e1
    · have hA : G.2.2.2.2 2 = cA := Option.some.inj ((hR.2.2.2.1.2 2 _ rfl).2.symm.trans hNm)
      show H1[_]? = some (arrV (G.2.2.2.2 2) N (fun _ => .int 0))
      rw [hA]; exact e1
/-- an array of Nights -/
theorem R_newq {idx N : Nat} {n : Int32} (hd : decode M.2.2.1 pc = .ok (.anewarray idx, 3)) (hw : Cond.classLink M.1 idx "LastSentence$Night" ∈ x_words) (hn : n = nI N) (hN : Nat.ble N 60000 = true) (hc : Nat.ble (cs.1 + 1) M.2.2.2.2.2.cells = true) (hs : Nat.ble (cs.2 + N) M.2.2.2.2.2.slots = true)
    (kk : x_Rn M (pc + 3) lo (.ref h.length :: st) (h ++ [.inl (3, N, .inr (.inr (.inr (.inr (fun _ => none)))))]) (cs.1 + 1, cs.2 + N) K) : x_Rn M pc lo (.int n :: st) h cs K := by
  intro p l e s m args below meth c G Z H locs ls C hR hS hL
  have hts := C.2.2.2.2.1
  subst hn
  have hN' := Nat.le_of_ble_eq_true hN
  have hcl : (nI N).toNatClampNeg = N := nI_clamp (by omega)
  obtain ⟨htop, hbase⟩ := x_top hR
  refine W.anew C.1 C.2.1 C.2.2.2.1 (hts _ hw) (va_AO.use hR.2.2.2.2.2.2.1) rfl hd rfl (nI_pos (by omega)) (by rw [hcl]; omega) (Nat.le_of_ble_eq_true hc) (by rw [hcl]; exact Nat.le_of_ble_eq_true hs) fun cA kA comp f1 f2 f3 f4 => ?_
  generalize hH1 : H.push ({ cls := cA, slots := Array.replicate (nI N).toNatClampNeg .null, vm := .none } : Cell) = H1
  have z1 : H1.size = H.size + 1 := by rw [← hH1, Array.size_push]
  have e1 : H1[H.size]? = some (arrV cA N (fun _ => .null)) := by rw [← hH1, Array.getElem?_push_size, ← arrV_new, hcl]
  have o1 : ∀ q : Nat, q < H.size → H1[q]? = H[q]? := fun q hq => by rw [← hH1, Array.getElem?_push, if_neg (Nat.ne_of_lt hq)]
  have key := kk p l e s m args below meth c G Z H1 locs ls C (hR.push (e := .inl (3, N, .inr (.inr (.inr (.inr (fun _ => none)))))) z1 o1 ?_) (x_Sgrow hS (by omega) o1) hL
  · rw [htop, hcl]
    exact key
  · rw [hR.2.1] at e1
    obtain ⟨_, _, -, -, -, hRA⟩ := (hR.2.2.2.1.2 3 _ rfl).2
    have hA : G.2.2.2.2 3 = cA := Option.some.inj (hRA.symm.trans f1)
    show H1[_]? = some (arrV (G.2.2.2.2 3) N (fun _ => .null))
    rw [hA]; exact e1
theorem x_Rep.pushes {G : xG} {h : xH} {U : State} {H H1 : Heap} {es : List xC} (r : x_Rep G h U H) (hz : H1.size = H.size + es.length) (hq : ∀ q : Nat, q < H.size → H1[q]? = H[q]?) (he : ∀ (k : Nat) (e : xC), es[k]? = some e → va_at G.2.2.2.1 vwCl (x_sg G (h.length + k), x_ce G e) H1) : x_Rep G (h ++ es) U H1 := by
  obtain ⟨r1, r2, r3, r4, r5, r6⟩ := r
  refine ⟨by rw [List.length_append]; omega, by rw [List.length_append, hz, r2]; omega, ?_, r4, r5.kept ?_ ?_ (fun q h1 _ => hq q h1), r6⟩
  · intro k q hk
    obtain ⟨e, he2, rfl⟩ := x_ws_of hk
    by_cases hl : k + 2 < h.length
    · rw [List.getElem?_append_left hl] at he2
      exact (r3 k _ (x_ws_get he2)).kept (hq _ (by show G.1 + k < H.size; omega))
    · rw [List.getElem?_append_right (by omega)] at he2
      have h3 := he _ _ he2
      have e5 : h.length + (k + 2 - h.length) = k + 2 := by omega
      rw [e5] at h3
      exact h3
  · rw [List.getElem?_append_left (by omega)]
  · rw [List.getElem?_append_left (by omega)]
theorem x_outer (c : ClassId) (N h0 : Nat) : ∀ i : Nat, Jvm.Free.Multi.outerC c N h0 i = arrV c N (fun j => va_rf (if j < i then some (h0 + 1 + j) else none))
  | 0 => by
    show ({ cls := c, slots := Array.replicate N .null, vm := .none } : Cell) = _
    rw [arrV_new]
    refine congrArg (arrV c N) (funext fun j => ?_)
    simp [va_rf]
  | i + 1 => by
    show (Jvm.Free.Multi.outerC c N h0 i).setSlot i (.ref (h0 + 1 + i)) = _
    rw [x_outer c N h0 i, arrV_store]
    refine congrArg (arrV c N) (funext fun j => ?_)
    by_cases e : j = i
    · subst e
      simp [updV, va_rf]
    · by_cases h : j < i
      · simp [updV, e, h, Nat.lt_succ_of_lt h]
      · simp [updV, e, h, show ¬ j < i + 1 by omega]
/-- new int[n][k] (kd 0) and new long[n][k] (kd 1) -/
def x_grid (kd a n k : Nat) : List xC := .inl (kd + 4, n, .inr (.inr (.inr (.inr (fun i => if i < n then some (a + 1 + i) else none))))) :: List.replicate n (x_az kd k)
theorem R_multi {idx N Q kd : Nat} {ty : FieldType} {n k : Int32} (hd : decode M.2.2.1 pc = .ok (.multianewarray idx 2, 4)) (hk : (kd = 0 ∧ ty = .int) ∨ (kd = 1 ∧ ty = .long)) (hw : Cond.classLink M.1 idx ("[" ++ (FieldType.array ty).toString) ∈ x_words) (hw2 : Cond.arrayClass ty ∈ x_words) (hn : n = nI N) (hkk : k = nI Q) (hN : Nat.ble N 60000 = true) (hQ : Nat.ble Q 60000 = true) (hc : Nat.ble (cs.1 + (1 + N)) M.2.2.2.2.2.cells = true) (hs : Nat.ble (cs.2 + (N + N * Q)) M.2.2.2.2.2.slots = true)
    (kk : x_Rn M (pc + 4) lo (.ref h.length :: st) (h ++ x_grid kd h.length N Q) (cs.1 + 1 + N, cs.2 + N + N * Q) K) : x_Rn M pc lo (.int k :: .int n :: st) h cs K := by
  intro p l e s m args below meth c G Z H locs ls C hR hS hL
  have hts := C.2.2.2.2.1
  subst hn hkk
  have hN' := Nat.le_of_ble_eq_true hN
  have hQ' := Nat.le_of_ble_eq_true hQ
  have hcl : (nI N).toNatClampNeg = N := nI_clamp (by omega)
  have hcl2 : (nI Q).toNatClampNeg = Q := nI_clamp (by omega)
  obtain ⟨htop, hbase⟩ := x_top hR
  have hover : x_AOA ty s := by rcases hk with ⟨-, rfl⟩ | ⟨-, rfl⟩; exact hR.2.2.2.2.2.2.2.1; exact hR.2.2.2.2.2.2.2.2
  have hcb : componentBytes ty ≤ 8 := by rcases hk with ⟨-, rfl⟩ | ⟨-, rfl⟩ <;> decide
  intro T hT Xs
  obtain ⟨vm₁, cA, comp, -, fA, fC, hO, -, X', step⟩ := Xs.multianewarray2F C.1 C.2.2.2.1 (hts _ hw) hover (hts _ hw2) (g := F0 m pc ls (.int (nI Q) :: .int (nI N) :: st.map (x_cv G))) rfl (by rw [C.2.1]; exact hd) rfl (nI_pos (by omega)) (nI_pos (by omega)) (by rw [hcl]; omega) (by rw [hcl2]; have := Nat.mul_le_mul hQ' hcb; omega) (by rw [hcl2]; omega) (by rcases hk with ⟨-, rfl⟩ | ⟨-, rfl⟩ <;> rfl) (by rcases hk with ⟨-, rfl⟩ | ⟨-, rfl⟩ <;> rfl) (by rw [hcl]; exact Nat.le_of_ble_eq_true hc) (by rw [hcl, hcl2]; exact Nat.le_of_ble_eq_true hs)
  rw [hcl, hcl2] at X' step
  generalize hF : Jvm.Free.Multi.fill (T.setVm vm₁) cA comp N Q (defaultValue ty) N = F at X' step
  have hTh : (T.setVm vm₁).heap = H := hT
  obtain ⟨f1, f2, -, -⟩ := Jvm.Free.Multi.fill_facts (T.setVm vm₁) cA comp N Q (defaultValue ty) N
  rw [hF, hTh] at f1 f2
  have hold : ∀ x : Nat, x < H.size → F.heap[x]? = H[x]? := fun x hx => by
    have := Jvm.Free.Multi.fill_old (T.setVm vm₁) cA comp N Q (defaultValue ty) (a := x) (by rw [hTh]; exact hx) N
    rw [hF, hTh] at this
    exact this
  have hrow : ∀ j : Nat, j < N → F.heap[H.size + 1 + j]? = some (Jvm.Free.Multi.innerC comp Q (defaultValue ty)) := fun j hj => by
    have := Jvm.Free.Multi.fill_inner (T.setVm vm₁) cA comp N Q (defaultValue ty) N j hj
    rw [hF, hTh] at this
    exact this
  rw [x_outer] at f2
  have hinner : x_ce G (x_az kd Q) = .inl (G.2.2.2.2 kd, Q, if kd = 0 then .inl (fun _ => 0) else .inr (.inl (fun _ => 0))) := by rcases hk with ⟨rfl, -⟩ | ⟨rfl, -⟩ <;> rfl
  have hsg : ∀ q : Nat, x_sg G (h.length + q) = H.size + q := fun q => by
    obtain ⟨w, hw⟩ : ∃ w, h.length = w + 2 := ⟨h.length - 2, by have := hR.1; omega⟩
    rw [htop, hw, show w + 2 + q = (w + q) + 2 by omega]
    show G.1 + (w + q) = G.1 + w + q
    omega
  have hA : G.2.2.2.2 kd = comp := by
    rcases hk with ⟨rfl, rfl⟩ | ⟨rfl, rfl⟩
    · exact Option.some.inj ((hR.2.2.2.1.2 0 _ rfl).2.symm.trans fC)
    · exact Option.some.inj ((hR.2.2.2.1.2 1 _ rfl).2.symm.trans fC)
  have hB : G.2.2.2.2 (kd + 4) = cA := by
    rcases hk with ⟨rfl, rfl⟩ | ⟨rfl, rfl⟩
    · exact Option.some.inj ((hR.2.2.2.1.2 4 _ rfl).2.symm.trans fA)
    · exact Option.some.inj ((hR.2.2.2.1.2 5 _ rfl).2.symm.trans fA)
  have hRn : x_Rep G (h ++ x_grid kd h.length N Q) s F.heap := by
    refine hR.pushes (by rw [f1]; simp [x_grid]; omega) hold (fun q e he => ?_)
    rw [hsg]
    cases q with
    | zero =>
      cases he
      show F.heap[H.size + 0]? = some (arrV (G.2.2.2.2 (kd + 4)) N (fun j => va_rf ((if j < N then some (h.length + 1 + j) else none : Option Nat).map (x_sg G))))
      rw [hB, Nat.add_zero, f2]
      refine congrArg (fun f => some (arrV cA N f)) (funext fun j => ?_)
      by_cases hj : j < N
      · rw [if_pos hj, if_pos hj, Option.map_some, show h.length + 1 + j = h.length + (1 + j) by omega, hsg, Nat.add_assoc]
      · rw [if_neg hj, if_neg hj]; rfl
    | succ q =>
      have he2 : (List.replicate N (x_az kd Q))[q]? = some e := he
      rw [List.getElem?_replicate] at he2
      by_cases hj : q < N
      · rw [if_pos hj] at he2
        cases he2
        rw [hinner]
        have h9 := hrow q hj
        rw [show H.size + (q + 1) = H.size + 1 + q by omega, hA]
        show F.heap[H.size + 1 + q]? = some (vp_cell comp _)
        rw [h9]
        rcases hk with ⟨rfl, rfl⟩ | ⟨rfl, rfl⟩
        · show some (Jvm.Free.Multi.innerC comp Q (.int 0)) = some (arrV comp Q (fun _ => .int 0))
          rw [← arrV_new]; rfl
        · show some (Jvm.Free.Multi.innerC comp Q (.long 0)) = some (arrV comp Q (fun _ => .long 0))
          rw [← arrV_new]; rfl
      · rw [if_neg hj] at he2; cases he2
  obtain ⟨t, a1, b1⟩ := kk p l e s m args below meth c G Z F.heap locs ls C hRn (x_Sgrow hS (by rw [f1]; omega) hold) hL F rfl X'
  refine ⟨t, step t ?_, b1⟩
  have e0 : T.heap.size = x_sg G h.length := by rw [hT]; exact htop
  rw [e0]
  exact a1
theorem R_obj {idx a : Nat} (hd : decode M.2.2.1 pc = .ok (.invokespecial idx, 3)) (hl : Cond.methodLink M.1 idx objectInit ∈ x_words) (hi : Cond.instanceMethod objectInit ∈ x_words) (hcd : Cond.code objectInit ⟨#[0xb1]⟩ 1 none ∈ x_words) (hf : Nat.ble 1 M.2.2.2.2.2.frames = true) (hs : x_stk st = true) (hlo : Nat.ble 20 M.2.2.2.2.2.locals = true) (kk : x_Rn M (pc + 3) lo st h cs K) : x_Rn M pc lo (.ref a :: st) h cs K := by
  intro p l e s m args below meth c G Z H locs ls C hR hS hL
  have hts := C.2.2.2.2.1
  refine W.objInit C.1 C.2.1 C.2.2.2.1 (hts _ hl) (hts _ hi) (hts _ hcd) rfl (by rw [C.2.2.1]; exact hL.1) rfl hd (Nat.le_of_ble_eq_true hf) ?_ (kk p l e s m args below meth c G Z H locs ls C hR hS hL)
  have h1 := Nat.le_of_ble_eq_true hs
  have h2 := Nat.le_of_ble_eq_true hlo
  rw [x_cats]
  show 2 * 0 + _ + 12 ≤ _
  omega
theorem x_nn {z : Nat} (hz : z < 2 ^ 31) : (nI z).toInt = (z : Int) := nI_toInt hz
/-- System.arraycopy of ints -/
theorem R_acpI {idx a0 a1 n0 n1 sp dp n : Nat} {f g : Nat → Int32} {is id_ in_ : Int32} (hd : decode M.2.2.1 pc = .ok (.invokestatic idx, 3)) (hl : Cond.methodLink M.1 idx arraycopyName ∈ x_words) (hnat : Cond.native arraycopyName ∈ x_words) (hst : Cond.static arraycopyName ∈ x_words) (hini : Cond.initialized "java/lang/System" ∈ x_words) (ha0 : h[a0]? = some (.inl (0, n0, .inl f))) (ha1 : h[a1]? = some (.inl (0, n1, .inl g))) (h20 : 2 ≤ a0) (h21 : 2 ≤ a1) (e1 : is = nI sp) (e2 : id_ = nI dp) (e3 : in_ = nI n) (h4 : sp + n ≤ n0) (h5 : dp + n ≤ n1) (hn0 : n0 < 2 ^ 31) (hn1 : n1 < 2 ^ 31) (hf : Nat.ble 1 M.2.2.2.2.2.frames = true) (hs : x_stk st = true) (hlo : Nat.ble 26 M.2.2.2.2.2.locals = true)
    (kk : x_Rn M (pc + 3) lo st (h.set a1 (.inl (0, n1, .inl (va_cpy f g sp dp n)))) cs K) : x_Rn M pc lo (.int in_ :: .int id_ :: .ref a1 :: .int is :: .ref a0 :: st) h cs K := by
  intro p l e s m args below meth c G Z H locs ls C hR hS hL
  have hts := C.2.2.2.2.1
  subst e1 e2 e3
  obtain ⟨b0, rfl⟩ : ∃ b, a0 = b + 2 := ⟨a0 - 2, by omega⟩
  obtain ⟨b1, rfl⟩ : ∃ b, a1 = b + 2 := ⟨a1 - 2, by omega⟩
  have hc0 : H[x_sg G (b0 + 2)]? = some (arrV (G.2.2.2.2 0) n0 (fun j => .int (f j))) := hR.2.2.1 b0 _ (x_ws_get ha0)
  have hc1 : H[x_sg G (b1 + 2)]? = some (arrV (G.2.2.2.2 0) n1 (fun j => .int (g j))) := hR.2.2.1 b1 _ (x_ws_get ha1)
  have c1 : (nI sp).toNatClampNeg = sp := nI_clamp (by omega)
  have c2 : (nI dp).toNatClampNeg = dp := nI_clamp (by omega)
  have c3 : (nI n).toNatClampNeg = n := nI_clamp (by omega)
  have hsum := Nat.le_of_ble_eq_true hs
  have hloc := Nat.le_of_ble_eq_true hlo
  intro T hT X
  obtain ⟨-, k0, hk0, cm0, hkk0⟩ := (hR.2.2.2.1.2 0 _ rfl).1 n0 (fun j => .int (f j))
  obtain ⟨-, k1, hk1, cm1, hkk1⟩ := (hR.2.2.2.1.2 0 _ rfl).1 n1 (fun j => .int (g j))
  obtain ⟨vm', X', step⟩ := X.arraycopy C.1 C.2.2.2.1 (hts _ hl) (hts _ hnat) (hts _ hst) (hts _ hini) (src := x_sg G (b0 + 2)) (dst := x_sg G (b1 + 2)) (cs := arrV (G.2.2.2.2 0) n0 (fun j => .int (f j))) (cd := arrV (G.2.2.2.2 0) n1 (fun j => .int (g j))) (srcPos := nI sp) (destPos := nI dp) (n := nI n) (by rw [hT]; exact hc0) (by rw [hT]; exact hc1)
    (fun _ h => by cases h) (fun _ h => by cases h) (fun h => by cases h) (fun h => by cases h) hk0 hk1 hkk0 hkk1 (by simp [refKind]) (nI_pos (by omega)) (nI_pos (by omega)) (nI_pos (by omega))
    (by rw [x_nn (by omega), x_nn (by omega), arrV_size]; omega)
    (by rw [x_nn (by omega), x_nn (by omega), arrV_size]; omega)
    (fun vm₁ _ i hi => by
      rw [c3] at hi
      rw [c1]
      have e : (arrV (G.2.2.2.2 0) n0 (fun j => .int (f j))).slots.getD (sp + i) .null = .int (f (sp + i)) := by
        rw [Array.getD_eq_getD_getElem?, arrV_read _ _ (by omega)]
        rfl
      refine ⟨?_, ?_⟩
      · rw [e]; rfl
      · rw [e]; exact trivial)
    (g := F0 m pc ls ((.int (nI n) :: .int (nI dp) :: .ref (x_sg G (b1 + 2)) :: .int (nI sp) :: .ref (x_sg G (b0 + 2)) :: st.map (x_cv G)))) rfl (by rw [C.2.2.1]; exact hL.1) (rest := st.map (x_cv G)) rfl (by rw [C.2.1]; exact hd) (Nat.le_of_ble_eq_true hf) (by
      rw [x_cats]
      show 2 * 0 + _ + (5 + 2 + 11) ≤ _
      omega)
  have ecp : copied (arrV (G.2.2.2.2 0) n0 (fun j => .int (f j))) (arrV (G.2.2.2.2 0) n1 (fun j => .int (g j))) (nI sp) (nI dp) (nI n) = arrV (G.2.2.2.2 0) n1 (fun j => .int (va_cpy f g sp dp n j)) := by
    have := va_copied (fun z => .int z) (G.2.2.2.2 0) (G.2.2.2.2 0) (n0 := n0) (n1 := n1) (sp := (nI sp).toNatClampNeg) (dp := (nI dp).toNatClampNeg) (n := (nI n).toNatClampNeg) f g (by rw [c1, c3]; exact h4)
    rw [c1, c2, c3] at this
    unfold copied
    rw [c1, c2, c3]
    exact this
  rw [ecp] at X' step
  have hlt : x_sg G (b1 + 2) < H.size := (Array.getElem?_eq_some_iff.mp hc1).1
  have hheap : ((T.setVm vm').setCell (x_sg G (b1 + 2)) (arrV (G.2.2.2.2 0) n1 (fun j => .int (va_cpy f g sp dp n j)))).heap = H.setIfInBounds (x_sg G (b1 + 2)) (arrV (G.2.2.2.2 0) n1 (fun j => .int (va_cpy f g sp dp n j))) := by rw [← hT]; rfl
  have oq : ∀ q : Nat, q ≠ x_sg G (b1 + 2) → (H.setIfInBounds (x_sg G (b1 + 2)) (arrV (G.2.2.2.2 0) n1 (fun j => .int (va_cpy f g sp dp n j))))[q]? = H[q]? := fun q hq => by simp [Array.getElem?_setIfInBounds, Ne.symm hq]
  have hA : G.1 ≤ x_sg G (b1 + 2) := Nat.le_add_right _ _
  obtain ⟨t, a1', b1'⟩ := kk p l e s m args below meth c G Z _ _ ls C (hR.set (hR.2.2.1.set (x_ws_D G h) (x_ws_get ha1) (show (H.setIfInBounds (x_sg G (b1 + 2)) _)[x_sg G (b1 + 2)]? = some _ by simp [Array.getElem?_setIfInBounds, hlt]; rfl) oq) (by simp) (fun q hq => oq q (fun z => hq (by rw [z]; exact hA)))) ⟨by simp; exact hS.1, fun q g1 g2 => by
      rw [oq q (fun e => g2 (by rw [e]; exact hA))]
      exact hS.2.1 q g1 g2, fun q hq => by
      rcases List.mem_append.mp hq with h | h
      · exact hS.2.2 q h
      · obtain ⟨z, -, hz⟩ := List.mem_map.mp h
        rw [← hz]
        exact hA⟩ hL _ hheap X'
  exact ⟨t, step t a1', b1'⟩
/-- System.arraycopy of longs -/
theorem R_acpL {idx a0 a1 n0 n1 sp dp n : Nat} {f g : Nat → Int64} {is id_ in_ : Int32} (hd : decode M.2.2.1 pc = .ok (.invokestatic idx, 3)) (hl : Cond.methodLink M.1 idx arraycopyName ∈ x_words) (hnat : Cond.native arraycopyName ∈ x_words) (hst : Cond.static arraycopyName ∈ x_words) (hini : Cond.initialized "java/lang/System" ∈ x_words) (ha0 : h[a0]? = some (.inl (1, n0, .inr (.inl f)))) (ha1 : h[a1]? = some (.inl (1, n1, .inr (.inl g)))) (h20 : 2 ≤ a0) (h21 : 2 ≤ a1) (e1 : is = nI sp) (e2 : id_ = nI dp) (e3 : in_ = nI n) (h4 : sp + n ≤ n0) (h5 : dp + n ≤ n1) (hn0 : n0 < 2 ^ 31) (hn1 : n1 < 2 ^ 31) (hf : Nat.ble 1 M.2.2.2.2.2.frames = true) (hs : x_stk st = true) (hlo : Nat.ble 26 M.2.2.2.2.2.locals = true)
    (kk : x_Rn M (pc + 3) lo st (h.set a1 (.inl (1, n1, .inr (.inl (va_cpy f g sp dp n))))) cs K) : x_Rn M pc lo (.int in_ :: .int id_ :: .ref a1 :: .int is :: .ref a0 :: st) h cs K := by
  intro p l e s m args below meth c G Z H locs ls C hR hS hL
  have hts := C.2.2.2.2.1
  subst e1 e2 e3
  obtain ⟨b0, rfl⟩ : ∃ b, a0 = b + 2 := ⟨a0 - 2, by omega⟩
  obtain ⟨b1, rfl⟩ : ∃ b, a1 = b + 2 := ⟨a1 - 2, by omega⟩
  have hc0 : H[x_sg G (b0 + 2)]? = some (arrV (G.2.2.2.2 1) n0 (fun j => .long (f j))) := hR.2.2.1 b0 _ (x_ws_get ha0)
  have hc1 : H[x_sg G (b1 + 2)]? = some (arrV (G.2.2.2.2 1) n1 (fun j => .long (g j))) := hR.2.2.1 b1 _ (x_ws_get ha1)
  have c1 : (nI sp).toNatClampNeg = sp := nI_clamp (by omega)
  have c2 : (nI dp).toNatClampNeg = dp := nI_clamp (by omega)
  have c3 : (nI n).toNatClampNeg = n := nI_clamp (by omega)
  have hsum := Nat.le_of_ble_eq_true hs
  have hloc := Nat.le_of_ble_eq_true hlo
  intro T hT X
  obtain ⟨-, k0, hk0, cm0, hkk0⟩ := (hR.2.2.2.1.2 1 _ rfl).1 n0 (fun j => .long (f j))
  obtain ⟨-, k1, hk1, cm1, hkk1⟩ := (hR.2.2.2.1.2 1 _ rfl).1 n1 (fun j => .long (g j))
  obtain ⟨vm', X', step⟩ := X.arraycopy C.1 C.2.2.2.1 (hts _ hl) (hts _ hnat) (hts _ hst) (hts _ hini) (src := x_sg G (b0 + 2)) (dst := x_sg G (b1 + 2)) (cs := arrV (G.2.2.2.2 1) n0 (fun j => .long (f j))) (cd := arrV (G.2.2.2.2 1) n1 (fun j => .long (g j))) (srcPos := nI sp) (destPos := nI dp) (n := nI n) (by rw [hT]; exact hc0) (by rw [hT]; exact hc1)
    (fun _ h => by cases h) (fun _ h => by cases h) (fun h => by cases h) (fun h => by cases h) hk0 hk1 hkk0 hkk1 (by simp [refKind]) (nI_pos (by omega)) (nI_pos (by omega)) (nI_pos (by omega))
    (by rw [x_nn (by omega), x_nn (by omega), arrV_size]; omega)
    (by rw [x_nn (by omega), x_nn (by omega), arrV_size]; omega)
    (fun vm₁ _ i hi => by
      rw [c3] at hi
      rw [c1]
      have e : (arrV (G.2.2.2.2 1) n0 (fun j => .long (f j))).slots.getD (sp + i) .null = .long (f (sp + i)) := by
        rw [Array.getD_eq_getD_getElem?, arrV_read _ _ (by omega)]
        rfl
      refine ⟨?_, ?_⟩
      · rw [e]; rfl
      · rw [e]; exact trivial)
    (g := F0 m pc ls ((.int (nI n) :: .int (nI dp) :: .ref (x_sg G (b1 + 2)) :: .int (nI sp) :: .ref (x_sg G (b0 + 2)) :: st.map (x_cv G)))) rfl (by rw [C.2.2.1]; exact hL.1) (rest := st.map (x_cv G)) rfl (by rw [C.2.1]; exact hd) (Nat.le_of_ble_eq_true hf) (by
      rw [x_cats]
      show 2 * 0 + _ + (5 + 2 + 11) ≤ _
      omega)
  have ecp : copied (arrV (G.2.2.2.2 1) n0 (fun j => .long (f j))) (arrV (G.2.2.2.2 1) n1 (fun j => .long (g j))) (nI sp) (nI dp) (nI n) = arrV (G.2.2.2.2 1) n1 (fun j => .long (va_cpy f g sp dp n j)) := by
    have := va_copied (fun z => .long z) (G.2.2.2.2 1) (G.2.2.2.2 1) (n0 := n0) (n1 := n1) (sp := (nI sp).toNatClampNeg) (dp := (nI dp).toNatClampNeg) (n := (nI n).toNatClampNeg) f g (by rw [c1, c3]; exact h4)
    rw [c1, c2, c3] at this
    unfold copied
    rw [c1, c2, c3]
    exact this
  rw [ecp] at X' step
  have hlt : x_sg G (b1 + 2) < H.size := (Array.getElem?_eq_some_iff.mp hc1).1
  have hheap : ((T.setVm vm').setCell (x_sg G (b1 + 2)) (arrV (G.2.2.2.2 1) n1 (fun j => .long (va_cpy f g sp dp n j)))).heap = H.setIfInBounds (x_sg G (b1 + 2)) (arrV (G.2.2.2.2 1) n1 (fun j => .long (va_cpy f g sp dp n j))) := by rw [← hT]; rfl
  have oq : ∀ q : Nat, q ≠ x_sg G (b1 + 2) → (H.setIfInBounds (x_sg G (b1 + 2)) (arrV (G.2.2.2.2 1) n1 (fun j => .long (va_cpy f g sp dp n j))))[q]? = H[q]? := fun q hq => by simp [Array.getElem?_setIfInBounds, Ne.symm hq]
  have hA : G.1 ≤ x_sg G (b1 + 2) := Nat.le_add_right _ _
  obtain ⟨t, a1', b1'⟩ := kk p l e s m args below meth c G Z _ _ ls C (hR.set (hR.2.2.1.set (x_ws_D G h) (x_ws_get ha1) (show (H.setIfInBounds (x_sg G (b1 + 2)) _)[x_sg G (b1 + 2)]? = some _ by simp [Array.getElem?_setIfInBounds, hlt]; rfl) oq) (by simp) (fun q hq => oq q (fun z => hq (by rw [z]; exact hA)))) ⟨by simp; exact hS.1, fun q g1 g2 => by
      rw [oq q (fun e => g2 (by rw [e]; exact hA))]
      exact hS.2.1 q g1 g2, fun q hq => by
      rcases List.mem_append.mp hq with h | h
      · exact hS.2.2 q h
      · obtain ⟨z, -, hz⟩ := List.mem_map.mp h
        rw [← hz]
        exact hA⟩ hL _ hheap X'
  exact ⟨t, step t a1', b1'⟩
end RM
end
