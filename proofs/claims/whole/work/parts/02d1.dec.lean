theorem dX3_goOrStay_10 : decode cX3_goOrStay 10 = .ok (.aload_n 0, 1) := by decide +kernel
theorem dX3_goOrStay_11 : decode cX3_goOrStay 11 = .ok (.getfield 20, 3) := by decide +kernel
theorem dX3_goOrStay_14 : decode cX3_goOrStay 14 = .ok (.iload_n 3, 1) := by decide +kernel
theorem dX3_goOrStay_15 : decode cX3_goOrStay 15 = .ok (.aaload, 1) := by decide +kernel
theorem dX3_goOrStay_16 : decode cX3_goOrStay 16 = .ok (.iconst 0, 1) := by decide +kernel
theorem dX3_goOrStay_17 : decode cX3_goOrStay 17 = .ok (.aload_n 0, 1) := by decide +kernel
theorem dX3_goOrStay_18 : decode cX3_goOrStay 18 = .ok (.getfield 23, 3) := by decide +kernel
theorem dX3_goOrStay_21 : decode cX3_goOrStay 21 = .ok (.iload_n 3, 1) := by decide +kernel
theorem dX3_goOrStay_22 : decode cX3_goOrStay 22 = .ok (.aaload, 1) := by decide +kernel
theorem dX3_goOrStay_23 : decode cX3_goOrStay 23 = .ok (.iconst 0, 1) := by decide +kernel
theorem dX3_goOrStay_24 : decode cX3_goOrStay 24 = .ok (.iload_n 2, 1) := by decide +kernel
theorem dX3_goOrStay_25 : decode cX3_goOrStay 25 = .ok (.iconst 1, 1) := by decide +kernel
theorem dX3_goOrStay_26 : decode cX3_goOrStay 26 = .ok (.iadd, 1) := by decide +kernel
theorem dX3_goOrStay_27 : decode cX3_goOrStay 27 = .ok (.invokestatic 83, 3) := by decide +kernel
theorem dX3_goOrStay_30 : decode cX3_goOrStay 30 = .ok (.iinc 3 1, 3) := by decide +kernel
theorem dX3_goOrStay_33 : decode cX3_goOrStay 33 = .ok (.goto (-31), 3) := by decide +kernel
theorem dX3_goOrStay_36 : decode cX3_goOrStay 36 = .ok (.iconst 0, 1) := by decide +kernel
theorem dX3_goOrStay_37 : decode cX3_goOrStay 37 = .ok (.istore_n 3, 1) := by decide +kernel
theorem dX3_goOrStay_38 : decode cX3_goOrStay 38 = .ok (.iload_n 3, 1) := by decide +kernel
theorem dX3_goOrStay_39 : decode cX3_goOrStay 39 = .ok (.aload_n 1, 1) := by decide +kernel
theorem dX3_goOrStay_40 : decode cX3_goOrStay 40 = .ok (.getfield 89, 3) := by decide +kernel
theorem dX3_goOrStay_43 : decode cX3_goOrStay 43 = .ok (.if_icmp .ge 86, 3) := by decide +kernel
theorem dX3_goOrStay_46 : decode cX3_goOrStay 46 = .ok (.aload_n 1, 1) := by decide +kernel
theorem dX3_goOrStay_47 : decode cX3_goOrStay 47 = .ok (.getfield 92, 3) := by decide +kernel
theorem dX3_goOrStay_50 : decode cX3_goOrStay 50 = .ok (.iload_n 3, 1) := by decide +kernel
theorem dX3_goOrStay_51 : decode cX3_goOrStay 51 = .ok (.iaload, 1) := by decide +kernel
theorem dX3_goOrStay_52 : decode cX3_goOrStay 52 = .ok (.istore 4, 2) := by decide +kernel
theorem dX3_goOrStay_54 : decode cX3_goOrStay 54 = .ok (.aload_n 1, 1) := by decide +kernel
theorem dX3_goOrStay_55 : decode cX3_goOrStay 55 = .ok (.getfield 95, 3) := by decide +kernel
theorem dX3_goOrStay_58 : decode cX3_goOrStay 58 = .ok (.iload_n 3, 1) := by decide +kernel
theorem dX3_goOrStay_59 : decode cX3_goOrStay 59 = .ok (.iaload, 1) := by decide +kernel
theorem dX3_goOrStay_60 : decode cX3_goOrStay 60 = .ok (.istore 5, 2) := by decide +kernel
theorem dX3_goOrStay_62 : decode cX3_goOrStay 62 = .ok (.iconst 0, 1) := by decide +kernel
theorem dX3_goOrStay_63 : decode cX3_goOrStay 63 = .ok (.istore 6, 2) := by decide +kernel
theorem dX3_goOrStay_65 : decode cX3_goOrStay 65 = .ok (.iload 6, 2) := by decide +kernel
theorem dX3_goOrStay_67 : decode cX3_goOrStay 67 = .ok (.iload_n 2, 1) := by decide +kernel
theorem dX3_goOrStay_68 : decode cX3_goOrStay 68 = .ok (.if_icmp .gt 55, 3) := by decide +kernel
theorem dX3_goOrStay_71 : decode cX3_goOrStay 71 = .ok (.aload_n 0, 1) := by decide +kernel
theorem dX3_goOrStay_72 : decode cX3_goOrStay 72 = .ok (.getfield 23, 3) := by decide +kernel
theorem dX3_goOrStay_75 : decode cX3_goOrStay 75 = .ok (.iload 4, 2) := by decide +kernel
theorem dX3_goOrStay_77 : decode cX3_goOrStay 77 = .ok (.aaload, 1) := by decide +kernel
theorem dX3_goOrStay_78 : decode cX3_goOrStay 78 = .ok (.iload 6, 2) := by decide +kernel
theorem dX3_goOrStay_80 : decode cX3_goOrStay 80 = .ok (.dup2, 1) := by decide +kernel
theorem dX3_goOrStay_81 : decode cX3_goOrStay 81 = .ok (.laload, 1) := by decide +kernel
theorem dX3_goOrStay_82 : decode cX3_goOrStay 82 = .ok (.aload_n 0, 1) := by decide +kernel
theorem dX3_goOrStay_83 : decode cX3_goOrStay 83 = .ok (.getfield 20, 3) := by decide +kernel
theorem dX3_goOrStay_86 : decode cX3_goOrStay 86 = .ok (.iload 5, 2) := by decide +kernel
theorem dX3_goOrStay_88 : decode cX3_goOrStay 88 = .ok (.aaload, 1) := by decide +kernel
theorem dX3_goOrStay_89 : decode cX3_goOrStay 89 = .ok (.iload 6, 2) := by decide +kernel
theorem dX3_goOrStay_91 : decode cX3_goOrStay 91 = .ok (.laload, 1) := by decide +kernel
theorem dX3_goOrStay_92 : decode cX3_goOrStay 92 = .ok (.lor, 1) := by decide +kernel
theorem dX3_goOrStay_93 : decode cX3_goOrStay 93 = .ok (.lastore, 1) := by decide +kernel
theorem dX3_goOrStay_94 : decode cX3_goOrStay 94 = .ok (.aload_n 0, 1) := by decide +kernel
theorem dX3_goOrStay_95 : decode cX3_goOrStay 95 = .ok (.getfield 23, 3) := by decide +kernel
theorem dX3_goOrStay_98 : decode cX3_goOrStay 98 = .ok (.iload 5, 2) := by decide +kernel
theorem dX3_goOrStay_100 : decode cX3_goOrStay 100 = .ok (.aaload, 1) := by decide +kernel
theorem dX3_goOrStay_101 : decode cX3_goOrStay 101 = .ok (.iload 6, 2) := by decide +kernel
theorem dX3_goOrStay_103 : decode cX3_goOrStay 103 = .ok (.dup2, 1) := by decide +kernel
theorem dX3_goOrStay_104 : decode cX3_goOrStay 104 = .ok (.laload, 1) := by decide +kernel
theorem dX3_goOrStay_105 : decode cX3_goOrStay 105 = .ok (.aload_n 0, 1) := by decide +kernel
theorem dX3_goOrStay_106 : decode cX3_goOrStay 106 = .ok (.getfield 20, 3) := by decide +kernel
theorem dX3_goOrStay_109 : decode cX3_goOrStay 109 = .ok (.iload 4, 2) := by decide +kernel
theorem dX3_goOrStay_111 : decode cX3_goOrStay 111 = .ok (.aaload, 1) := by decide +kernel
theorem dX3_goOrStay_112 : decode cX3_goOrStay 112 = .ok (.iload 6, 2) := by decide +kernel
theorem dX3_goOrStay_114 : decode cX3_goOrStay 114 = .ok (.laload, 1) := by decide +kernel
theorem dX3_goOrStay_115 : decode cX3_goOrStay 115 = .ok (.lor, 1) := by decide +kernel
theorem dX3_goOrStay_116 : decode cX3_goOrStay 116 = .ok (.lastore, 1) := by decide +kernel
theorem dX3_goOrStay_117 : decode cX3_goOrStay 117 = .ok (.iinc 6 1, 3) := by decide +kernel
theorem dX3_goOrStay_120 : decode cX3_goOrStay 120 = .ok (.goto (-55), 3) := by decide +kernel
theorem dX3_goOrStay_123 : decode cX3_goOrStay 123 = .ok (.iinc 3 1, 3) := by decide +kernel
theorem dX3_goOrStay_126 : decode cX3_goOrStay 126 = .ok (.goto (-88), 3) := by decide +kernel
theorem dX3_goOrStay_129 : decode cX3_goOrStay 129 = .ok (.return_, 1) := by decide +kernel
theorem dX3_sayOrNot_0 : decode cX3_sayOrNot 0 = .ok (.iconst 1, 1) := by decide +kernel
theorem dX3_sayOrNot_1 : decode cX3_sayOrNot 1 = .ok (.istore 4, 2) := by decide +kernel
theorem dX3_sayOrNot_3 : decode cX3_sayOrNot 3 = .ok (.iload 4, 2) := by decide +kernel
theorem dX3_sayOrNot_5 : decode cX3_sayOrNot 5 = .ok (.iload_n 3, 1) := by decide +kernel
theorem dX3_sayOrNot_6 : decode cX3_sayOrNot 6 = .ok (.if_icmp .gt 44, 3) := by decide +kernel
theorem dX3_sayOrNot_9 : decode cX3_sayOrNot 9 = .ok (.aload_n 0, 1) := by decide +kernel
theorem dX3_sayOrNot_10 : decode cX3_sayOrNot 10 = .ok (.getfield 20, 3) := by decide +kernel
theorem dX3_sayOrNot_13 : decode cX3_sayOrNot 13 = .ok (.iload_n 1, 1) := by decide +kernel
theorem dX3_sayOrNot_14 : decode cX3_sayOrNot 14 = .ok (.aaload, 1) := by decide +kernel
theorem dX3_sayOrNot_15 : decode cX3_sayOrNot 15 = .ok (.iload 4, 2) := by decide +kernel
theorem dX3_sayOrNot_17 : decode cX3_sayOrNot 17 = .ok (.aload_n 0, 1) := by decide +kernel
theorem dX3_sayOrNot_18 : decode cX3_sayOrNot 18 = .ok (.getfield 23, 3) := by decide +kernel
theorem dX3_sayOrNot_21 : decode cX3_sayOrNot 21 = .ok (.iload_n 1, 1) := by decide +kernel
theorem dX3_sayOrNot_22 : decode cX3_sayOrNot 22 = .ok (.aaload, 1) := by decide +kernel
theorem dX3_sayOrNot_23 : decode cX3_sayOrNot 23 = .ok (.iload 4, 2) := by decide +kernel
theorem dX3_sayOrNot_25 : decode cX3_sayOrNot 25 = .ok (.laload, 1) := by decide +kernel
theorem dX3_sayOrNot_26 : decode cX3_sayOrNot 26 = .ok (.aload_n 0, 1) := by decide +kernel
theorem dX3_sayOrNot_27 : decode cX3_sayOrNot 27 = .ok (.aload_n 0, 1) := by decide +kernel
theorem dX3_sayOrNot_28 : decode cX3_sayOrNot 28 = .ok (.getfield 23, 3) := by decide +kernel
theorem dX3_sayOrNot_31 : decode cX3_sayOrNot 31 = .ok (.iload_n 1, 1) := by decide +kernel
theorem dX3_sayOrNot_32 : decode cX3_sayOrNot 32 = .ok (.aaload, 1) := by decide +kernel
theorem dX3_sayOrNot_33 : decode cX3_sayOrNot 33 = .ok (.iload 4, 2) := by decide +kernel
theorem dX3_sayOrNot_35 : decode cX3_sayOrNot 35 = .ok (.iconst 1, 1) := by decide +kernel
theorem dX3_sayOrNot_36 : decode cX3_sayOrNot 36 = .ok (.isub, 1) := by decide +kernel
theorem dX3_sayOrNot_37 : decode cX3_sayOrNot 37 = .ok (.laload, 1) := by decide +kernel
theorem dX3_sayOrNot_38 : decode cX3_sayOrNot 38 = .ok (.iload_n 2, 1) := by decide +kernel
theorem dX3_sayOrNot_39 : decode cX3_sayOrNot 39 = .ok (.invokevirtual 98, 3) := by decide +kernel
theorem dX3_sayOrNot_42 : decode cX3_sayOrNot 42 = .ok (.lor, 1) := by decide +kernel
theorem dX3_sayOrNot_43 : decode cX3_sayOrNot 43 = .ok (.lastore, 1) := by decide +kernel
theorem dX3_sayOrNot_44 : decode cX3_sayOrNot 44 = .ok (.iinc 4 1, 3) := by decide +kernel
theorem dX3_sayOrNot_47 : decode cX3_sayOrNot 47 = .ok (.goto (-44), 3) := by decide +kernel
theorem dX3_sayOrNot_50 : decode cX3_sayOrNot 50 = .ok (.return_, 1) := by decide +kernel
theorem dX3_winnable_0 : decode cX3_winnable 0 = .ok (.lload_n 1, 1) := by decide +kernel
theorem dX3_winnable_1 : decode cX3_winnable 1 = .ok (.lstore 4, 2) := by decide +kernel
theorem dX3_winnable_3 : decode cX3_winnable 3 = .ok (.iconst 0, 1) := by decide +kernel
theorem dX3_winnable_4 : decode cX3_winnable 4 = .ok (.istore 6, 2) := by decide +kernel
theorem dX3_winnable_6 : decode cX3_winnable 6 = .ok (.iload 6, 2) := by decide +kernel
theorem dX3_winnable_8 : decode cX3_winnable 8 = .ok (.bipush 6, 2) := by decide +kernel
theorem dX3_winnable_10 : decode cX3_winnable 10 = .ok (.if_icmp .ge 41, 3) := by decide +kernel
theorem dX3_winnable_13 : decode cX3_winnable 13 = .ok (.iload_n 3, 1) := by decide +kernel
theorem dX3_winnable_14 : decode cX3_winnable 14 = .ok (.iload 6, 2) := by decide +kernel
theorem dX3_winnable_16 : decode cX3_winnable 16 = .ok (.ishr, 1) := by decide +kernel
theorem dX3_winnable_17 : decode cX3_winnable 17 = .ok (.iconst 1, 1) := by decide +kernel
theorem dX3_winnable_18 : decode cX3_winnable 18 = .ok (.iand, 1) := by decide +kernel
theorem dX3_winnable_19 : decode cX3_winnable 19 = .ok (.ifCond .eq 26, 3) := by decide +kernel
theorem dX3_winnable_22 : decode cX3_winnable 22 = .ok (.lload 4, 2) := by decide +kernel
theorem dX3_winnable_24 : decode cX3_winnable 24 = .ok (.getstatic 102, 3) := by decide +kernel
theorem dX3_winnable_27 : decode cX3_winnable 27 = .ok (.iload 6, 2) := by decide +kernel
theorem dX3_winnable_29 : decode cX3_winnable 29 = .ok (.laload, 1) := by decide +kernel
theorem dX3_winnable_30 : decode cX3_winnable 30 = .ok (.land, 1) := by decide +kernel
theorem dX3_winnable_31 : decode cX3_winnable 31 = .ok (.lstore 4, 2) := by decide +kernel
theorem dX3_winnable_33 : decode cX3_winnable 33 = .ok (.lload 4, 2) := by decide +kernel
theorem dX3_winnable_35 : decode cX3_winnable 35 = .ok (.lload 4, 2) := by decide +kernel
theorem dX3_winnable_37 : decode cX3_winnable 37 = .ok (.iconst 1, 1) := by decide +kernel
theorem dX3_winnable_38 : decode cX3_winnable 38 = .ok (.iload 6, 2) := by decide +kernel
theorem dX3_winnable_40 : decode cX3_winnable 40 = .ok (.ishl, 1) := by decide +kernel
theorem dX3_winnable_41 : decode cX3_winnable 41 = .ok (.lshl, 1) := by decide +kernel
theorem dX3_winnable_42 : decode cX3_winnable 42 = .ok (.lor, 1) := by decide +kernel
theorem dX3_winnable_43 : decode cX3_winnable 43 = .ok (.lstore 4, 2) := by decide +kernel
theorem dX3_winnable_45 : decode cX3_winnable 45 = .ok (.iinc 6 1, 3) := by decide +kernel
theorem dX3_winnable_48 : decode cX3_winnable 48 = .ok (.goto (-42), 3) := by decide +kernel
theorem dX3_winnable_51 : decode cX3_winnable 51 = .ok (.lload 4, 2) := by decide +kernel
theorem dX3_winnable_53 : decode cX3_winnable 53 = .ok (.lreturn, 1) := by decide +kernel
theorem dX3_take_0 : decode cX3_take 0 = .ok (.iconst 1, 1) := by decide +kernel
theorem dX3_take_1 : decode cX3_take 1 = .ok (.istore 5, 2) := by decide +kernel
theorem dX3_take_3 : decode cX3_take 3 = .ok (.iload 5, 2) := by decide +kernel
theorem dX3_take_5 : decode cX3_take 5 = .ok (.iload_n 3, 1) := by decide +kernel
theorem dX3_take_6 : decode cX3_take 6 = .ok (.if_icmp .gt 57, 3) := by decide +kernel
theorem dX3_take_9 : decode cX3_take 9 = .ok (.aload_n 0, 1) := by decide +kernel
theorem dX3_take_10 : decode cX3_take 10 = .ok (.getfield 20, 3) := by decide +kernel
theorem dX3_take_13 : decode cX3_take 13 = .ok (.iload_n 1, 1) := by decide +kernel
theorem dX3_take_14 : decode cX3_take 14 = .ok (.aaload, 1) := by decide +kernel
theorem dX3_take_15 : decode cX3_take 15 = .ok (.iload 5, 2) := by decide +kernel
theorem dX3_take_17 : decode cX3_take 17 = .ok (.laload, 1) := by decide +kernel
theorem dX3_take_18 : decode cX3_take 18 = .ok (.iload_n 2, 1) := by decide +kernel
theorem dX3_take_19 : decode cX3_take 19 = .ok (.lushr, 1) := by decide +kernel
theorem dX3_take_20 : decode cX3_take 20 = .ok (.lconst 1, 1) := by decide +kernel
theorem dX3_take_21 : decode cX3_take 21 = .ok (.land, 1) := by decide +kernel
theorem dX3_take_22 : decode cX3_take 22 = .ok (.lconst 0, 1) := by decide +kernel
theorem dX3_take_23 : decode cX3_take 23 = .ok (.lcmp, 1) := by decide +kernel
theorem dX3_take_24 : decode cX3_take 24 = .ok (.ifCond .eq 33, 3) := by decide +kernel
theorem dX3_take_27 : decode cX3_take 27 = .ok (.aload_n 0, 1) := by decide +kernel
theorem dX3_take_28 : decode cX3_take 28 = .ok (.getfield 9, 3) := by decide +kernel
theorem dX3_take_31 : decode cX3_take 31 = .ok (.iconst (-1), 1) := by decide +kernel
theorem dX3_take_32 : decode cX3_take 32 = .ok (.if_icmp .eq 12, 3) := by decide +kernel
theorem dX3_take_35 : decode cX3_take 35 = .ok (.iload 5, 2) := by decide +kernel
theorem dX3_take_37 : decode cX3_take 37 = .ok (.aload_n 0, 1) := by decide +kernel
theorem dX3_take_38 : decode cX3_take 38 = .ok (.getfield 9, 3) := by decide +kernel
theorem dX3_take_41 : decode cX3_take 41 = .ok (.if_icmp .ge 16, 3) := by decide +kernel
theorem dX3_take_44 : decode cX3_take 44 = .ok (.aload_n 0, 1) := by decide +kernel
theorem dX3_take_45 : decode cX3_take 45 = .ok (.iload 5, 2) := by decide +kernel
theorem dX3_take_47 : decode cX3_take 47 = .ok (.putfield 9, 3) := by decide +kernel
theorem dX3_take_50 : decode cX3_take 50 = .ok (.aload_n 0, 1) := by decide +kernel
theorem dX3_take_51 : decode cX3_take 51 = .ok (.iload 4, 2) := by decide +kernel
theorem dX3_take_53 : decode cX3_take 53 = .ok (.putfield 15, 3) := by decide +kernel
theorem dX3_take_56 : decode cX3_take 56 = .ok (.return_, 1) := by decide +kernel
theorem dX3_take_57 : decode cX3_take 57 = .ok (.iinc 5 1, 3) := by decide +kernel
theorem dX3_take_60 : decode cX3_take 60 = .ok (.goto (-57), 3) := by decide +kernel
theorem dX3_take_63 : decode cX3_take 63 = .ok (.return_, 1) := by decide +kernel
theorem dX4_init_0 : decode cX4_init 0 = .ok (.aload_n 0, 1) := by decide +kernel
theorem dX4_init_1 : decode cX4_init 1 = .ok (.invokespecial 3, 3) := by decide +kernel
theorem dX4_init_4 : decode cX4_init 4 = .ok (.aload_n 0, 1) := by decide +kernel
theorem dX4_init_5 : decode cX4_init 5 = .ok (.iconst 0, 1) := by decide +kernel
theorem dX4_init_6 : decode cX4_init 6 = .ok (.putfield 9, 3) := by decide +kernel
theorem dX4_init_9 : decode cX4_init 9 = .ok (.aload_n 0, 1) := by decide +kernel
theorem dX4_init_10 : decode cX4_init 10 = .ok (.bipush 6, 2) := by decide +kernel
theorem dX4_init_12 : decode cX4_init 12 = .ok (.newarray .int, 2) := by decide +kernel
theorem dX4_init_14 : decode cX4_init 14 = .ok (.putfield 15, 3) := by decide +kernel
theorem dX4_init_17 : decode cX4_init 17 = .ok (.aload_n 0, 1) := by decide +kernel
theorem dX4_init_18 : decode cX4_init 18 = .ok (.bipush 6, 2) := by decide +kernel
theorem dX4_init_20 : decode cX4_init 20 = .ok (.newarray .boolean, 2) := by decide +kernel
theorem dX4_init_22 : decode cX4_init 22 = .ok (.putfield 19, 3) := by decide +kernel
theorem dX4_init_25 : decode cX4_init 25 = .ok (.return_, 1) := by decide +kernel
theorem dX4_append_0 : decode cX4_append 0 = .ok (.aload_n 0, 1) := by decide +kernel
theorem dX4_append_1 : decode cX4_append 1 = .ok (.getfield 9, 3) := by decide +kernel
theorem dX4_append_4 : decode cX4_append 4 = .ok (.bipush 6, 2) := by decide +kernel
theorem dX4_append_6 : decode cX4_append 6 = .ok (.if_icmp .lt 5, 3) := by decide +kernel
theorem dX4_append_9 : decode cX4_append 9 = .ok (.iconst 0, 1) := by decide +kernel
theorem dX4_append_10 : decode cX4_append 10 = .ok (.ireturn, 1) := by decide +kernel
theorem dX4_append_11 : decode cX4_append 11 = .ok (.aload_n 0, 1) := by decide +kernel
theorem dX4_append_12 : decode cX4_append 12 = .ok (.getfield 15, 3) := by decide +kernel
theorem dX4_append_15 : decode cX4_append 15 = .ok (.aload_n 0, 1) := by decide +kernel
theorem dX4_append_16 : decode cX4_append 16 = .ok (.getfield 9, 3) := by decide +kernel
theorem dX4_append_19 : decode cX4_append 19 = .ok (.iload_n 1, 1) := by decide +kernel
theorem dX4_append_20 : decode cX4_append 20 = .ok (.iastore, 1) := by decide +kernel
theorem dX4_append_21 : decode cX4_append 21 = .ok (.aload_n 0, 1) := by decide +kernel
theorem dX4_append_22 : decode cX4_append 22 = .ok (.getfield 19, 3) := by decide +kernel
theorem dX4_append_25 : decode cX4_append 25 = .ok (.aload_n 0, 1) := by decide +kernel
theorem dX4_append_26 : decode cX4_append 26 = .ok (.getfield 9, 3) := by decide +kernel
theorem dX4_append_29 : decode cX4_append 29 = .ok (.iload_n 2, 1) := by decide +kernel
theorem dX4_append_30 : decode cX4_append 30 = .ok (.bastore, 1) := by decide +kernel
theorem dX4_append_31 : decode cX4_append 31 = .ok (.aload_n 0, 1) := by decide +kernel
theorem dX4_append_32 : decode cX4_append 32 = .ok (.dup, 1) := by decide +kernel
theorem dX4_append_33 : decode cX4_append 33 = .ok (.getfield 9, 3) := by decide +kernel
theorem dX4_append_36 : decode cX4_append 36 = .ok (.iconst 1, 1) := by decide +kernel
theorem dX4_append_37 : decode cX4_append 37 = .ok (.iadd, 1) := by decide +kernel
theorem dX4_append_38 : decode cX4_append 38 = .ok (.putfield 9, 3) := by decide +kernel
theorem dX4_append_41 : decode cX4_append 41 = .ok (.iconst 1, 1) := by decide +kernel
theorem dX4_append_42 : decode cX4_append 42 = .ok (.ireturn, 1) := by decide +kernel
theorem dX4_suspects_0 : decode cX4_suspects 0 = .ok (.iconst 0, 1) := by decide +kernel
theorem dX4_suspects_1 : decode cX4_suspects 1 = .ok (.istore_n 3, 1) := by decide +kernel
theorem dX4_suspects_2 : decode cX4_suspects 2 = .ok (.iconst 0, 1) := by decide +kernel
theorem dX4_suspects_3 : decode cX4_suspects 3 = .ok (.istore 4, 2) := by decide +kernel
theorem dX4_suspects_5 : decode cX4_suspects 5 = .ok (.iload 4, 2) := by decide +kernel
theorem dX4_suspects_7 : decode cX4_suspects 7 = .ok (.aload_n 1, 1) := by decide +kernel
theorem dX4_suspects_8 : decode cX4_suspects 8 = .ok (.getfield 23, 3) := by decide +kernel
theorem dX4_suspects_11 : decode cX4_suspects 11 = .ok (.if_icmp .ge 30, 3) := by decide +kernel
theorem dX4_suspects_14 : decode cX4_suspects 14 = .ok (.aload_n 0, 1) := by decide +kernel
theorem dX4_suspects_15 : decode cX4_suspects 15 = .ok (.aload_n 2, 1) := by decide +kernel
theorem dX4_suspects_16 : decode cX4_suspects 16 = .ok (.aload_n 1, 1) := by decide +kernel
theorem dX4_suspects_17 : decode cX4_suspects 17 = .ok (.iload 4, 2) := by decide +kernel
theorem dX4_suspects_19 : decode cX4_suspects 19 = .ok (.invokevirtual 28, 3) := by decide +kernel
theorem dX4_suspects_22 : decode cX4_suspects 22 = .ok (.invokevirtual 34, 3) := by decide +kernel
theorem dX4_suspects_25 : decode cX4_suspects 25 = .ok (.ifCond .eq 10, 3) := by decide +kernel
theorem dX4_suspects_28 : decode cX4_suspects 28 = .ok (.iload_n 3, 1) := by decide +kernel
theorem dX4_suspects_29 : decode cX4_suspects 29 = .ok (.iconst 1, 1) := by decide +kernel
theorem dX4_suspects_30 : decode cX4_suspects 30 = .ok (.iload 4, 2) := by decide +kernel
theorem dX4_suspects_32 : decode cX4_suspects 32 = .ok (.ishl, 1) := by decide +kernel
theorem dX4_suspects_33 : decode cX4_suspects 33 = .ok (.ior, 1) := by decide +kernel
theorem dX4_suspects_34 : decode cX4_suspects 34 = .ok (.istore_n 3, 1) := by decide +kernel
theorem dX4_suspects_35 : decode cX4_suspects 35 = .ok (.iinc 4 1, 3) := by decide +kernel
theorem dX4_suspects_38 : decode cX4_suspects 38 = .ok (.goto (-33), 3) := by decide +kernel
theorem dX4_suspects_41 : decode cX4_suspects 41 = .ok (.iload_n 3, 1) := by decide +kernel
theorem dX4_suspects_42 : decode cX4_suspects 42 = .ok (.ireturn, 1) := by decide +kernel
theorem dX4_fits_0 : decode cX4_fits 0 = .ok (.iconst 0, 1) := by decide +kernel
theorem dX4_fits_1 : decode cX4_fits 1 = .ok (.istore_n 2, 1) := by decide +kernel
theorem dX4_fits_2 : decode cX4_fits 2 = .ok (.iload_n 2, 1) := by decide +kernel
theorem dX4_fits_3 : decode cX4_fits 3 = .ok (.aload_n 0, 1) := by decide +kernel
theorem dX4_fits_4 : decode cX4_fits 4 = .ok (.getfield 9, 3) := by decide +kernel
theorem dX4_fits_7 : decode cX4_fits 7 = .ok (.if_icmp .ge 40, 3) := by decide +kernel
theorem dX4_fits_10 : decode cX4_fits 10 = .ok (.iload_n 1, 1) := by decide +kernel
theorem dX4_fits_11 : decode cX4_fits 11 = .ok (.aload_n 0, 1) := by decide +kernel
theorem dX4_fits_12 : decode cX4_fits 12 = .ok (.getfield 15, 3) := by decide +kernel
theorem dX4_fits_15 : decode cX4_fits 15 = .ok (.iload_n 2, 1) := by decide +kernel
theorem dX4_fits_16 : decode cX4_fits 16 = .ok (.iaload, 1) := by decide +kernel
theorem dX4_fits_17 : decode cX4_fits 17 = .ok (.ishr, 1) := by decide +kernel
theorem dX4_fits_18 : decode cX4_fits 18 = .ok (.iconst 1, 1) := by decide +kernel
theorem dX4_fits_19 : decode cX4_fits 19 = .ok (.iand, 1) := by decide +kernel
theorem dX4_fits_20 : decode cX4_fits 20 = .ok (.ifCond .eq 7, 3) := by decide +kernel
theorem dX4_fits_23 : decode cX4_fits 23 = .ok (.iconst 1, 1) := by decide +kernel
theorem dX4_fits_24 : decode cX4_fits 24 = .ok (.goto 4, 3) := by decide +kernel
theorem dX4_fits_27 : decode cX4_fits 27 = .ok (.iconst 0, 1) := by decide +kernel
theorem dX4_fits_28 : decode cX4_fits 28 = .ok (.istore_n 3, 1) := by decide +kernel
theorem dX4_fits_29 : decode cX4_fits 29 = .ok (.iload_n 3, 1) := by decide +kernel
theorem dX4_fits_30 : decode cX4_fits 30 = .ok (.aload_n 0, 1) := by decide +kernel
theorem dX4_fits_31 : decode cX4_fits 31 = .ok (.getfield 19, 3) := by decide +kernel
theorem dX4_fits_34 : decode cX4_fits 34 = .ok (.iload_n 2, 1) := by decide +kernel
theorem dX4_fits_35 : decode cX4_fits 35 = .ok (.baload, 1) := by decide +kernel
theorem dX4_fits_36 : decode cX4_fits 36 = .ok (.if_icmp .eq 5, 3) := by decide +kernel
theorem dX4_fits_39 : decode cX4_fits 39 = .ok (.iconst 0, 1) := by decide +kernel
theorem dX4_fits_40 : decode cX4_fits 40 = .ok (.ireturn, 1) := by decide +kernel
theorem dX4_fits_41 : decode cX4_fits 41 = .ok (.iinc 2 1, 3) := by decide +kernel
theorem dX4_fits_44 : decode cX4_fits 44 = .ok (.goto (-42), 3) := by decide +kernel
theorem dX4_fits_47 : decode cX4_fits 47 = .ok (.iconst 1, 1) := by decide +kernel
theorem dX4_fits_48 : decode cX4_fits 48 = .ok (.ireturn, 1) := by decide +kernel
theorem dX4_bestRoom_0 : decode cX4_bestRoom 0 = .ok (.aload_n 0, 1) := by decide +kernel
theorem dX4_bestRoom_1 : decode cX4_bestRoom 1 = .ok (.aload_n 1, 1) := by decide +kernel
theorem dX4_bestRoom_2 : decode cX4_bestRoom 2 = .ok (.aload_n 2, 1) := by decide +kernel
theorem dX4_bestRoom_3 : decode cX4_bestRoom 3 = .ok (.invokevirtual 38, 3) := by decide +kernel
theorem dX4_bestRoom_6 : decode cX4_bestRoom 6 = .ok (.istore_n 3, 1) := by decide +kernel
theorem dX4_bestRoom_7 : decode cX4_bestRoom 7 = .ok (.iconst (-1), 1) := by decide +kernel
theorem dX4_bestRoom_8 : decode cX4_bestRoom 8 = .ok (.istore 4, 2) := by decide +kernel
theorem dX4_bestRoom_10 : decode cX4_bestRoom 10 = .ok (.iload_n 3, 1) := by decide +kernel
theorem dX4_bestRoom_11 : decode cX4_bestRoom 11 = .ok (.invokestatic 42, 3) := by decide +kernel
theorem dX4_bestRoom_14 : decode cX4_bestRoom 14 = .ok (.istore 5, 2) := by decide +kernel
theorem dX4_bestRoom_16 : decode cX4_bestRoom 16 = .ok (.iconst 0, 1) := by decide +kernel
theorem dX4_bestRoom_17 : decode cX4_bestRoom 17 = .ok (.istore 6, 2) := by decide +kernel
theorem dX4_bestRoom_19 : decode cX4_bestRoom 19 = .ok (.iload 6, 2) := by decide +kernel
theorem dX4_bestRoom_21 : decode cX4_bestRoom 21 = .ok (.aload_n 1, 1) := by decide +kernel
theorem dX4_bestRoom_22 : decode cX4_bestRoom 22 = .ok (.getfield 48, 3) := by decide +kernel
theorem dX4_bestRoom_25 : decode cX4_bestRoom 25 = .ok (.if_icmp .ge 35, 3) := by decide +kernel
theorem dX4_bestRoom_28 : decode cX4_bestRoom 28 = .ok (.aload_n 0, 1) := by decide +kernel
theorem dX4_bestRoom_29 : decode cX4_bestRoom 29 = .ok (.aload_n 1, 1) := by decide +kernel
theorem dX4_bestRoom_30 : decode cX4_bestRoom 30 = .ok (.aload_n 2, 1) := by decide +kernel
theorem dX4_bestRoom_31 : decode cX4_bestRoom 31 = .ok (.iload_n 3, 1) := by decide +kernel
theorem dX4_bestRoom_32 : decode cX4_bestRoom 32 = .ok (.iload 6, 2) := by decide +kernel
theorem dX4_bestRoom_34 : decode cX4_bestRoom 34 = .ok (.invokevirtual 50, 3) := by decide +kernel
theorem dX4_bestRoom_37 : decode cX4_bestRoom 37 = .ok (.istore 7, 2) := by decide +kernel
theorem dX4_bestRoom_39 : decode cX4_bestRoom 39 = .ok (.iload 7, 2) := by decide +kernel
theorem dX4_bestRoom_41 : decode cX4_bestRoom 41 = .ok (.iload 5, 2) := by decide +kernel
theorem dX4_bestRoom_43 : decode cX4_bestRoom 43 = .ok (.if_icmp .ge 11, 3) := by decide +kernel
theorem dX4_bestRoom_46 : decode cX4_bestRoom 46 = .ok (.iload 7, 2) := by decide +kernel
theorem dX4_bestRoom_48 : decode cX4_bestRoom 48 = .ok (.istore 5, 2) := by decide +kernel
theorem dX4_bestRoom_50 : decode cX4_bestRoom 50 = .ok (.iload 6, 2) := by decide +kernel
theorem dX4_bestRoom_52 : decode cX4_bestRoom 52 = .ok (.istore 4, 2) := by decide +kernel
theorem dX4_bestRoom_54 : decode cX4_bestRoom 54 = .ok (.iinc 6 1, 3) := by decide +kernel
theorem dX4_bestRoom_57 : decode cX4_bestRoom 57 = .ok (.goto (-38), 3) := by decide +kernel
theorem dX4_bestRoom_60 : decode cX4_bestRoom 60 = .ok (.iload 4, 2) := by decide +kernel
theorem dX4_bestRoom_62 : decode cX4_bestRoom 62 = .ok (.ireturn, 1) := by decide +kernel
theorem dX4_greaterPart_0 : decode cX4_greaterPart 0 = .ok (.iconst 0, 1) := by decide +kernel
theorem dX4_greaterPart_1 : decode cX4_greaterPart 1 = .ok (.istore 5, 2) := by decide +kernel
theorem dX4_greaterPart_3 : decode cX4_greaterPart 3 = .ok (.iconst 0, 1) := by decide +kernel
theorem dX4_greaterPart_4 : decode cX4_greaterPart 4 = .ok (.istore 6, 2) := by decide +kernel
theorem dX4_greaterPart_6 : decode cX4_greaterPart 6 = .ok (.iload 6, 2) := by decide +kernel
theorem dX4_greaterPart_8 : decode cX4_greaterPart 8 = .ok (.aload_n 1, 1) := by decide +kernel
theorem dX4_greaterPart_9 : decode cX4_greaterPart 9 = .ok (.getfield 23, 3) := by decide +kernel
theorem dX4_greaterPart_12 : decode cX4_greaterPart 12 = .ok (.if_icmp .ge 39, 3) := by decide +kernel
theorem dX4_greaterPart_15 : decode cX4_greaterPart 15 = .ok (.iload_n 3, 1) := by decide +kernel
theorem dX4_greaterPart_16 : decode cX4_greaterPart 16 = .ok (.iload 6, 2) := by decide +kernel
theorem dX4_greaterPart_18 : decode cX4_greaterPart 18 = .ok (.ishr, 1) := by decide +kernel
theorem dX4_greaterPart_19 : decode cX4_greaterPart 19 = .ok (.iconst 1, 1) := by decide +kernel
theorem dX4_greaterPart_20 : decode cX4_greaterPart 20 = .ok (.iand, 1) := by decide +kernel
theorem dX4_greaterPart_21 : decode cX4_greaterPart 21 = .ok (.ifCond .eq 24, 3) := by decide +kernel
theorem dX4_greaterPart_24 : decode cX4_greaterPart 24 = .ok (.aload_n 1, 1) := by decide +kernel
theorem dX4_greaterPart_25 : decode cX4_greaterPart 25 = .ok (.iload 6, 2) := by decide +kernel
theorem dX4_greaterPart_27 : decode cX4_greaterPart 27 = .ok (.aload_n 2, 1) := by decide +kernel
theorem dX4_greaterPart_28 : decode cX4_greaterPart 28 = .ok (.getfield 54, 3) := by decide +kernel
theorem dX4_greaterPart_31 : decode cX4_greaterPart 31 = .ok (.iload 6, 2) := by decide +kernel
theorem dX4_greaterPart_33 : decode cX4_greaterPart 33 = .ok (.iaload, 1) := by decide +kernel
theorem dX4_greaterPart_34 : decode cX4_greaterPart 34 = .ok (.iload 4, 2) := by decide +kernel
theorem dX4_greaterPart_36 : decode cX4_greaterPart 36 = .ok (.invokevirtual 57, 3) := by decide +kernel
theorem dX4_greaterPart_39 : decode cX4_greaterPart 39 = .ok (.ifCond .eq 6, 3) := by decide +kernel
theorem dX4_greaterPart_42 : decode cX4_greaterPart 42 = .ok (.iinc 5 1, 3) := by decide +kernel
theorem dX4_greaterPart_45 : decode cX4_greaterPart 45 = .ok (.iinc 6 1, 3) := by decide +kernel
theorem dX4_greaterPart_48 : decode cX4_greaterPart 48 = .ok (.goto (-42), 3) := by decide +kernel
theorem dX4_greaterPart_51 : decode cX4_greaterPart 51 = .ok (.iload 5, 2) := by decide +kernel
theorem dX4_greaterPart_53 : decode cX4_greaterPart 53 = .ok (.iload_n 3, 1) := by decide +kernel
theorem dX4_greaterPart_54 : decode cX4_greaterPart 54 = .ok (.invokestatic 42, 3) := by decide +kernel
theorem dX4_greaterPart_57 : decode cX4_greaterPart 57 = .ok (.iload 5, 2) := by decide +kernel
theorem dX4_greaterPart_59 : decode cX4_greaterPart 59 = .ok (.isub, 1) := by decide +kernel
theorem dX4_greaterPart_60 : decode cX4_greaterPart 60 = .ok (.invokestatic 61, 3) := by decide +kernel
theorem dX4_greaterPart_63 : decode cX4_greaterPart 63 = .ok (.ireturn, 1) := by decide +kernel
theorem dX5_init_0 : decode cX5_init 0 = .ok (.aload_n 0, 1) := by decide +kernel
theorem dX5_init_1 : decode cX5_init 1 = .ok (.invokespecial 3, 3) := by decide +kernel
theorem dX5_init_4 : decode cX5_init 4 = .ok (.aload_n 0, 1) := by decide +kernel
theorem dX5_init_5 : decode cX5_init 5 = .ok (.sipush 240, 3) := by decide +kernel
theorem dX5_init_8 : decode cX5_init 8 = .ok (.newarray .int, 2) := by decide +kernel
theorem dX5_init_10 : decode cX5_init 10 = .ok (.putfield 9, 3) := by decide +kernel
theorem dX5_init_13 : decode cX5_init 13 = .ok (.aload_n 0, 1) := by decide +kernel
theorem dX5_init_14 : decode cX5_init 14 = .ok (.iconst 0, 1) := by decide +kernel
theorem dX5_init_15 : decode cX5_init 15 = .ok (.putfield 15, 3) := by decide +kernel
theorem dX5_init_18 : decode cX5_init 18 = .ok (.aload_n 0, 1) := by decide +kernel
theorem dX5_init_19 : decode cX5_init 19 = .ok (.iconst 0, 1) := by decide +kernel
theorem dX5_init_20 : decode cX5_init 20 = .ok (.putfield 19, 3) := by decide +kernel
theorem dX5_init_23 : decode cX5_init 23 = .ok (.aload_n 0, 1) := by decide +kernel
theorem dX5_init_24 : decode cX5_init 24 = .ok (.iconst (-1), 1) := by decide +kernel
theorem dX5_init_25 : decode cX5_init 25 = .ok (.putfield 22, 3) := by decide +kernel
theorem dX5_init_28 : decode cX5_init 28 = .ok (.aload_n 0, 1) := by decide +kernel
theorem dX5_init_29 : decode cX5_init 29 = .ok (.iconst 0, 1) := by decide +kernel
theorem dX5_init_30 : decode cX5_init 30 = .ok (.putfield 25, 3) := by decide +kernel
theorem dX5_init_33 : decode cX5_init 33 = .ok (.return_, 1) := by decide +kernel
theorem dX5_append_0 : decode cX5_append 0 = .ok (.aload_n 0, 1) := by decide +kernel
theorem dX5_append_1 : decode cX5_append 1 = .ok (.getfield 15, 3) := by decide +kernel
theorem dX5_append_4 : decode cX5_append 4 = .ok (.sipush 240, 3) := by decide +kernel
theorem dX5_append_7 : decode cX5_append 7 = .ok (.if_icmp .lt 5, 3) := by decide +kernel
theorem dX5_append_10 : decode cX5_append 10 = .ok (.iconst 0, 1) := by decide +kernel
theorem dX5_append_11 : decode cX5_append 11 = .ok (.ireturn, 1) := by decide +kernel
theorem dX5_append_12 : decode cX5_append 12 = .ok (.aload_n 0, 1) := by decide +kernel
theorem dX5_append_13 : decode cX5_append 13 = .ok (.getfield 9, 3) := by decide +kernel
theorem dX5_append_16 : decode cX5_append 16 = .ok (.aload_n 0, 1) := by decide +kernel
theorem dX5_append_17 : decode cX5_append 17 = .ok (.getfield 15, 3) := by decide +kernel
theorem dX5_append_20 : decode cX5_append 20 = .ok (.iload_n 1, 1) := by decide +kernel
theorem dX5_append_21 : decode cX5_append 21 = .ok (.iastore, 1) := by decide +kernel
theorem dX5_append_22 : decode cX5_append 22 = .ok (.aload_n 0, 1) := by decide +kernel
theorem dX5_append_23 : decode cX5_append 23 = .ok (.dup, 1) := by decide +kernel
theorem dX5_append_24 : decode cX5_append 24 = .ok (.getfield 15, 3) := by decide +kernel
theorem dX5_append_27 : decode cX5_append 27 = .ok (.iconst 1, 1) := by decide +kernel
theorem dX5_append_28 : decode cX5_append 28 = .ok (.iadd, 1) := by decide +kernel
theorem dX5_append_29 : decode cX5_append 29 = .ok (.putfield 15, 3) := by decide +kernel
theorem dX5_append_32 : decode cX5_append 32 = .ok (.iconst 1, 1) := by decide +kernel
theorem dX5_append_33 : decode cX5_append 33 = .ok (.ireturn, 1) := by decide +kernel
theorem dX5_readInto_0 : decode cX5_readInto 0 = .ok (.aload_n 1, 1) := by decide +kernel
theorem dX5_readInto_1 : decode cX5_readInto 1 = .ok (.invokevirtual 28, 3) := by decide +kernel
theorem dX5_readInto_4 : decode cX5_readInto 4 = .ok (.aload_n 0, 1) := by decide +kernel
theorem dX5_readInto_5 : decode cX5_readInto 5 = .ok (.iconst 0, 1) := by decide +kernel
theorem dX5_readInto_6 : decode cX5_readInto 6 = .ok (.putfield 19, 3) := by decide +kernel
theorem dX5_readInto_9 : decode cX5_readInto 9 = .ok (.aload_n 0, 1) := by decide +kernel
theorem dX5_readInto_10 : decode cX5_readInto 10 = .ok (.iconst (-1), 1) := by decide +kernel
theorem dX5_readInto_11 : decode cX5_readInto 11 = .ok (.putfield 22, 3) := by decide +kernel
theorem dX5_readInto_14 : decode cX5_readInto 14 = .ok (.aload_n 0, 1) := by decide +kernel
theorem dX5_readInto_15 : decode cX5_readInto 15 = .ok (.iconst 0, 1) := by decide +kernel
theorem dX5_readInto_16 : decode cX5_readInto 16 = .ok (.putfield 25, 3) := by decide +kernel
theorem dX5_readInto_19 : decode cX5_readInto 19 = .ok (.aload_n 0, 1) := by decide +kernel
theorem dX5_readInto_20 : decode cX5_readInto 20 = .ok (.invokevirtual 33, 3) := by decide +kernel
theorem dX5_readInto_23 : decode cX5_readInto 23 = .ok (.iconst 0, 1) := by decide +kernel
theorem dX5_readInto_24 : decode cX5_readInto 24 = .ok (.istore_n 2, 1) := by decide +kernel
theorem dX5_readInto_25 : decode cX5_readInto 25 = .ok (.iload_n 2, 1) := by decide +kernel
theorem dX5_readInto_26 : decode cX5_readInto 26 = .ok (.sipush 240, 3) := by decide +kernel
theorem dX5_readInto_29 : decode cX5_readInto 29 = .ok (.if_icmp .ge 36, 3) := by decide +kernel
theorem dX5_readInto_32 : decode cX5_readInto 32 = .ok (.aload_n 0, 1) := by decide +kernel
theorem dX5_readInto_33 : decode cX5_readInto 33 = .ok (.getfield 25, 3) := by decide +kernel
theorem dX5_readInto_36 : decode cX5_readInto 36 = .ok (.aload_n 0, 1) := by decide +kernel
theorem dX5_readInto_37 : decode cX5_readInto 37 = .ok (.getfield 15, 3) := by decide +kernel
theorem dX5_readInto_40 : decode cX5_readInto 40 = .ok (.if_icmp .ge 25, 3) := by decide +kernel
theorem dX5_readInto_43 : decode cX5_readInto 43 = .ok (.aload_n 0, 1) := by decide +kernel
theorem dX5_readInto_44 : decode cX5_readInto 44 = .ok (.getfield 19, 3) := by decide +kernel
theorem dX5_readInto_47 : decode cX5_readInto 47 = .ok (.ifCond .ne 18, 3) := by decide +kernel
theorem dX5_readInto_50 : decode cX5_readInto 50 = .ok (.aload_n 0, 1) := by decide +kernel
theorem dX5_readInto_51 : decode cX5_readInto 51 = .ok (.aload_n 1, 1) := by decide +kernel
theorem dX5_readInto_52 : decode cX5_readInto 52 = .ok (.invokevirtual 36, 3) := by decide +kernel
theorem dX5_readInto_55 : decode cX5_readInto 55 = .ok (.aload_n 0, 1) := by decide +kernel
theorem dX5_readInto_56 : decode cX5_readInto 56 = .ok (.invokevirtual 33, 3) := by decide +kernel
theorem dX5_readInto_59 : decode cX5_readInto 59 = .ok (.iinc 2 1, 3) := by decide +kernel
theorem dX5_readInto_62 : decode cX5_readInto 62 = .ok (.goto (-37), 3) := by decide +kernel
theorem dX5_readInto_65 : decode cX5_readInto 65 = .ok (.return_, 1) := by decide +kernel
theorem dX5_readClause_0 : decode cX5_readClause 0 = .ok (.aload_n 0, 1) := by decide +kernel
theorem dX5_readClause_1 : decode cX5_readClause 1 = .ok (.getfield 25, 3) := by decide +kernel
theorem dX5_readClause_4 : decode cX5_readClause 4 = .ok (.istore_n 2, 1) := by decide +kernel
theorem dX5_readClause_5 : decode cX5_readClause 5 = .ok (.aload_n 0, 1) := by decide +kernel
theorem dX5_readClause_6 : decode cX5_readClause 6 = .ok (.getfield 9, 3) := by decide +kernel
theorem dX5_readClause_9 : decode cX5_readClause 9 = .ok (.iload_n 2, 1) := by decide +kernel
theorem dX5_readClause_10 : decode cX5_readClause 10 = .ok (.iaload, 1) := by decide +kernel
theorem dX5_readClause_11 : decode cX5_readClause 11 = .ok (.istore_n 3, 1) := by decide +kernel
theorem dX5_readClause_12 : decode cX5_readClause 12 = .ok (.aload_n 0, 1) := by decide +kernel
theorem dX5_readClause_13 : decode cX5_readClause 13 = .ok (.dup, 1) := by decide +kernel
theorem dX5_readClause_14 : decode cX5_readClause 14 = .ok (.getfield 25, 3) := by decide +kernel
theorem dX5_readClause_17 : decode cX5_readClause 17 = .ok (.iconst 1, 1) := by decide +kernel
theorem dX5_readClause_18 : decode cX5_readClause 18 = .ok (.iadd, 1) := by decide +kernel
theorem dX5_readClause_19 : decode cX5_readClause 19 = .ok (.putfield 25, 3) := by decide +kernel
theorem dX5_readClause_22 : decode cX5_readClause 22 = .ok (.iload_n 3, 1) := by decide +kernel
theorem dX5_readClause_23 : decode cX5_readClause 23 = .ok (.bipush 110, 2) := by decide +kernel
theorem dX5_readClause_25 : decode cX5_readClause 25 = .ok (.if_icmp .eq 17, 3) := by decide +kernel
theorem dX5_readClause_28 : decode cX5_readClause 28 = .ok (.aload_n 1, 1) := by decide +kernel
theorem dX5_readClause_29 : decode cX5_readClause 29 = .ok (.getfield 40, 3) := by decide +kernel
theorem dX5_readClause_32 : decode cX5_readClause 32 = .ok (.ifCond .ne 10, 3) := by decide +kernel
theorem dX5_readClause_35 : decode cX5_readClause 35 = .ok (.aload_n 0, 1) := by decide +kernel
theorem dX5_readClause_36 : decode cX5_readClause 36 = .ok (.iconst 1, 1) := by decide +kernel
theorem dX5_readClause_37 : decode cX5_readClause 37 = .ok (.iload_n 2, 1) := by decide +kernel
theorem dX5_readClause_38 : decode cX5_readClause 38 = .ok (.invokevirtual 43, 3) := by decide +kernel
theorem dX5_readClause_41 : decode cX5_readClause 41 = .ok (.return_, 1) := by decide +kernel
theorem dX5_readClause_42 : decode cX5_readClause 42 = .ok (.iload_n 3, 1) := by decide +kernel
theorem dX5_readClause_43 : decode cX5_readClause 43 = .ok (.lookupswitch 77 #[(100, 59), (110, 41), (112, 68), (114, 50)], 41) := by decide +kernel
theorem dX5_readClause_84 : decode cX5_readClause 84 = .ok (.aload_n 0, 1) := by decide +kernel
theorem dX5_readClause_85 : decode cX5_readClause 85 = .ok (.aload_n 1, 1) := by decide +kernel
theorem dX5_readClause_86 : decode cX5_readClause 86 = .ok (.iload_n 2, 1) := by decide +kernel
theorem dX5_readClause_87 : decode cX5_readClause 87 = .ok (.invokevirtual 47, 3) := by decide +kernel
theorem dX5_readClause_90 : decode cX5_readClause 90 = .ok (.goto 36, 3) := by decide +kernel
theorem dX5_readClause_93 : decode cX5_readClause 93 = .ok (.aload_n 0, 1) := by decide +kernel
theorem dX5_readClause_94 : decode cX5_readClause 94 = .ok (.aload_n 1, 1) := by decide +kernel
theorem dX5_readClause_95 : decode cX5_readClause 95 = .ok (.iload_n 2, 1) := by decide +kernel
theorem dX5_readClause_96 : decode cX5_readClause 96 = .ok (.invokevirtual 51, 3) := by decide +kernel
theorem dX5_readClause_99 : decode cX5_readClause 99 = .ok (.goto 27, 3) := by decide +kernel
theorem dX5_readClause_102 : decode cX5_readClause 102 = .ok (.aload_n 0, 1) := by decide +kernel
theorem dX5_readClause_103 : decode cX5_readClause 103 = .ok (.aload_n 1, 1) := by decide +kernel
theorem dX5_readClause_104 : decode cX5_readClause 104 = .ok (.iload_n 2, 1) := by decide +kernel
theorem dX5_readClause_105 : decode cX5_readClause 105 = .ok (.invokevirtual 54, 3) := by decide +kernel
theorem dX5_readClause_108 : decode cX5_readClause 108 = .ok (.goto 18, 3) := by decide +kernel
theorem dX5_readClause_111 : decode cX5_readClause 111 = .ok (.aload_n 0, 1) := by decide +kernel
theorem dX5_readClause_112 : decode cX5_readClause 112 = .ok (.aload_n 1, 1) := by decide +kernel
theorem dX5_readClause_113 : decode cX5_readClause 113 = .ok (.iload_n 2, 1) := by decide +kernel
theorem dX5_readClause_114 : decode cX5_readClause 114 = .ok (.invokevirtual 57, 3) := by decide +kernel
theorem dX5_readClause_117 : decode cX5_readClause 117 = .ok (.goto 9, 3) := by decide +kernel
theorem dX5_readClause_120 : decode cX5_readClause 120 = .ok (.aload_n 0, 1) := by decide +kernel
theorem dX5_readClause_121 : decode cX5_readClause 121 = .ok (.iconst 1, 1) := by decide +kernel
theorem dX5_readClause_122 : decode cX5_readClause 122 = .ok (.iload_n 2, 1) := by decide +kernel
theorem dX5_readClause_123 : decode cX5_readClause 123 = .ok (.invokevirtual 43, 3) := by decide +kernel
theorem dX5_readClause_126 : decode cX5_readClause 126 = .ok (.return_, 1) := by decide +kernel
theorem dX5_readNight_0 : decode cX5_readNight 0 = .ok (.aload_n 0, 1) := by decide +kernel
theorem dX5_readNight_1 : decode cX5_readNight 1 = .ok (.aload_n 1, 1) := by decide +kernel
theorem dX5_readNight_2 : decode cX5_readNight 2 = .ok (.getfield 40, 3) := by decide +kernel
theorem dX5_readNight_5 : decode cX5_readNight 5 = .ok (.ifCond .eq 7, 3) := by decide +kernel
theorem dX5_readNight_8 : decode cX5_readNight 8 = .ok (.iconst 1, 1) := by decide +kernel
theorem dX5_readNight_9 : decode cX5_readNight 9 = .ok (.goto 4, 3) := by decide +kernel
theorem dX5_readNight_12 : decode cX5_readNight 12 = .ok (.iconst 0, 1) := by decide +kernel
theorem dX5_readNight_13 : decode cX5_readNight 13 = .ok (.iconst 3, 1) := by decide +kernel
theorem dX5_readNight_14 : decode cX5_readNight 14 = .ok (.iload_n 2, 1) := by decide +kernel
theorem dX5_readNight_15 : decode cX5_readNight 15 = .ok (.invokevirtual 60, 3) := by decide +kernel
theorem dX5_readNight_18 : decode cX5_readNight 18 = .ok (.aload_n 0, 1) := by decide +kernel
theorem dX5_readNight_19 : decode cX5_readNight 19 = .ok (.iconst 1, 1) := by decide +kernel
theorem dX5_readNight_20 : decode cX5_readNight 20 = .ok (.bipush 20, 2) := by decide +kernel
theorem dX5_readNight_22 : decode cX5_readNight 22 = .ok (.invokevirtual 64, 3) := by decide +kernel
theorem dX5_readNight_25 : decode cX5_readNight 25 = .ok (.istore_n 3, 1) := by decide +kernel
theorem dX5_readNight_26 : decode cX5_readNight 26 = .ok (.aload_n 0, 1) := by decide +kernel
theorem dX5_readNight_27 : decode cX5_readNight 27 = .ok (.invokevirtual 68, 3) := by decide +kernel
theorem dX5_readNight_30 : decode cX5_readNight 30 = .ok (.ifCond .eq 8, 3) := by decide +kernel
theorem dX5_readNight_33 : decode cX5_readNight 33 = .ok (.aload_n 1, 1) := by decide +kernel
theorem dX5_readNight_34 : decode cX5_readNight 34 = .ok (.iload_n 3, 1) := by decide +kernel
theorem dX5_readNight_35 : decode cX5_readNight 35 = .ok (.putfield 40, 3) := by decide +kernel
theorem dX5_readNight_38 : decode cX5_readNight 38 = .ok (.return_, 1) := by decide +kernel
theorem dX5_readRoom_0 : decode cX5_readRoom 0 = .ok (.aload_n 0, 1) := by decide +kernel
theorem dX5_readRoom_1 : decode cX5_readRoom 1 = .ok (.aload_n 1, 1) := by decide +kernel
theorem dX5_readRoom_2 : decode cX5_readRoom 2 = .ok (.getfield 72, 3) := by decide +kernel
theorem dX5_readRoom_5 : decode cX5_readRoom 5 = .ok (.bipush 6, 2) := by decide +kernel
theorem dX5_readRoom_7 : decode cX5_readRoom 7 = .ok (.if_icmp .lt 7, 3) := by decide +kernel
theorem dX5_readRoom_10 : decode cX5_readRoom 10 = .ok (.iconst 1, 1) := by decide +kernel
theorem dX5_readRoom_11 : decode cX5_readRoom 11 = .ok (.goto 4, 3) := by decide +kernel
theorem dX5_readRoom_14 : decode cX5_readRoom 14 = .ok (.iconst 0, 1) := by decide +kernel
theorem dX5_readRoom_15 : decode cX5_readRoom 15 = .ok (.iconst 3, 1) := by decide +kernel
theorem dX5_readRoom_16 : decode cX5_readRoom 16 = .ok (.iload_n 2, 1) := by decide +kernel
theorem dX5_readRoom_17 : decode cX5_readRoom 17 = .ok (.invokevirtual 60, 3) := by decide +kernel
theorem dX5_readRoom_20 : decode cX5_readRoom 20 = .ok (.aload_n 0, 1) := by decide +kernel
theorem dX5_readRoom_21 : decode cX5_readRoom 21 = .ok (.iconst 0, 1) := by decide +kernel
theorem dX5_readRoom_22 : decode cX5_readRoom 22 = .ok (.bipush 20, 2) := by decide +kernel
theorem dX5_readRoom_24 : decode cX5_readRoom 24 = .ok (.invokevirtual 64, 3) := by decide +kernel
theorem dX5_readRoom_27 : decode cX5_readRoom 27 = .ok (.istore_n 3, 1) := by decide +kernel
theorem dX5_readRoom_28 : decode cX5_readRoom 28 = .ok (.aload_n 0, 1) := by decide +kernel
theorem dX5_readRoom_29 : decode cX5_readRoom 29 = .ok (.invokevirtual 68, 3) := by decide +kernel
theorem dX5_readRoom_32 : decode cX5_readRoom 32 = .ok (.ifCond .eq 8, 3) := by decide +kernel
theorem dX5_readRoom_35 : decode cX5_readRoom 35 = .ok (.aload_n 1, 1) := by decide +kernel
theorem dX5_readRoom_36 : decode cX5_readRoom 36 = .ok (.iload_n 3, 1) := by decide +kernel
theorem dX5_readRoom_37 : decode cX5_readRoom 37 = .ok (.invokevirtual 75, 3) := by decide +kernel
theorem dX5_readRoom_40 : decode cX5_readRoom 40 = .ok (.return_, 1) := by decide +kernel
theorem dX5_readDoor_0 : decode cX5_readDoor 0 = .ok (.aload_n 0, 1) := by decide +kernel
theorem dX5_readDoor_1 : decode cX5_readDoor 1 = .ok (.aload_n 1, 1) := by decide +kernel
theorem dX5_readDoor_2 : decode cX5_readDoor 2 = .ok (.getfield 79, 3) := by decide +kernel
theorem dX5_readDoor_5 : decode cX5_readDoor 5 = .ok (.bipush 8, 2) := by decide +kernel
theorem dX5_readDoor_7 : decode cX5_readDoor 7 = .ok (.if_icmp .lt 7, 3) := by decide +kernel
theorem dX5_readDoor_10 : decode cX5_readDoor 10 = .ok (.iconst 1, 1) := by decide +kernel
theorem dX5_readDoor_11 : decode cX5_readDoor 11 = .ok (.goto 4, 3) := by decide +kernel
theorem dX5_readDoor_14 : decode cX5_readDoor 14 = .ok (.iconst 0, 1) := by decide +kernel
theorem dX5_readDoor_15 : decode cX5_readDoor 15 = .ok (.iconst 3, 1) := by decide +kernel
theorem dX5_readDoor_16 : decode cX5_readDoor 16 = .ok (.iload_n 2, 1) := by decide +kernel
theorem dX5_readDoor_17 : decode cX5_readDoor 17 = .ok (.invokevirtual 60, 3) := by decide +kernel
theorem dX5_readDoor_20 : decode cX5_readDoor 20 = .ok (.aload_n 0, 1) := by decide +kernel
theorem dX5_readDoor_21 : decode cX5_readDoor 21 = .ok (.iconst 0, 1) := by decide +kernel
theorem dX5_readDoor_22 : decode cX5_readDoor 22 = .ok (.aload_n 1, 1) := by decide +kernel
theorem dX5_readDoor_23 : decode cX5_readDoor 23 = .ok (.getfield 72, 3) := by decide +kernel
theorem dX5_readDoor_26 : decode cX5_readDoor 26 = .ok (.iconst 1, 1) := by decide +kernel
theorem dX5_readDoor_27 : decode cX5_readDoor 27 = .ok (.isub, 1) := by decide +kernel
theorem dX5_readDoor_28 : decode cX5_readDoor 28 = .ok (.invokevirtual 64, 3) := by decide +kernel
theorem dX5_readDoor_31 : decode cX5_readDoor 31 = .ok (.istore_n 3, 1) := by decide +kernel
theorem dX5_readDoor_32 : decode cX5_readDoor 32 = .ok (.aload_n 0, 1) := by decide +kernel
theorem dX5_readDoor_33 : decode cX5_readDoor 33 = .ok (.invokevirtual 33, 3) := by decide +kernel
theorem dX5_readDoor_36 : decode cX5_readDoor 36 = .ok (.aload_n 0, 1) := by decide +kernel
theorem dX5_readDoor_37 : decode cX5_readDoor 37 = .ok (.getfield 25, 3) := by decide +kernel
theorem dX5_readDoor_40 : decode cX5_readDoor 40 = .ok (.istore 4, 2) := by decide +kernel
theorem dX5_readDoor_42 : decode cX5_readDoor 42 = .ok (.aload_n 0, 1) := by decide +kernel
theorem dX5_readDoor_43 : decode cX5_readDoor 43 = .ok (.iconst 0, 1) := by decide +kernel
theorem dX5_readDoor_44 : decode cX5_readDoor 44 = .ok (.aload_n 1, 1) := by decide +kernel
theorem dX5_readDoor_45 : decode cX5_readDoor 45 = .ok (.getfield 72, 3) := by decide +kernel
theorem dX5_readDoor_48 : decode cX5_readDoor 48 = .ok (.iconst 1, 1) := by decide +kernel
theorem dX5_readDoor_49 : decode cX5_readDoor 49 = .ok (.isub, 1) := by decide +kernel
theorem dX5_readDoor_50 : decode cX5_readDoor 50 = .ok (.invokevirtual 64, 3) := by decide +kernel
theorem dX5_readDoor_53 : decode cX5_readDoor 53 = .ok (.istore 5, 2) := by decide +kernel
theorem dX5_readDoor_55 : decode cX5_readDoor 55 = .ok (.aload_n 0, 1) := by decide +kernel
theorem dX5_readDoor_56 : decode cX5_readDoor 56 = .ok (.iload_n 3, 1) := by decide +kernel
theorem dX5_readDoor_57 : decode cX5_readDoor 57 = .ok (.iload 5, 2) := by decide +kernel
theorem dX5_readDoor_59 : decode cX5_readDoor 59 = .ok (.if_icmp .ne 7, 3) := by decide +kernel
theorem dX5_readDoor_62 : decode cX5_readDoor 62 = .ok (.iconst 1, 1) := by decide +kernel
theorem dX5_readDoor_63 : decode cX5_readDoor 63 = .ok (.goto 4, 3) := by decide +kernel
theorem dX5_readDoor_66 : decode cX5_readDoor 66 = .ok (.iconst 0, 1) := by decide +kernel
theorem dX5_readDoor_67 : decode cX5_readDoor 67 = .ok (.iconst 4, 1) := by decide +kernel
theorem dX5_readDoor_68 : decode cX5_readDoor 68 = .ok (.iload 4, 2) := by decide +kernel
theorem dX5_readDoor_70 : decode cX5_readDoor 70 = .ok (.invokevirtual 60, 3) := by decide +kernel
theorem dX5_readDoor_73 : decode cX5_readDoor 73 = .ok (.aload_n 0, 1) := by decide +kernel
theorem dX5_readDoor_74 : decode cX5_readDoor 74 = .ok (.iconst 0, 1) := by decide +kernel
theorem dX5_readDoor_75 : decode cX5_readDoor 75 = .ok (.bipush 9, 2) := by decide +kernel
theorem dX5_readDoor_77 : decode cX5_readDoor 77 = .ok (.invokevirtual 64, 3) := by decide +kernel
theorem dX5_readDoor_80 : decode cX5_readDoor 80 = .ok (.istore 6, 2) := by decide +kernel
theorem dX5_readDoor_82 : decode cX5_readDoor 82 = .ok (.aload_n 0, 1) := by decide +kernel
theorem dX5_readDoor_83 : decode cX5_readDoor 83 = .ok (.invokevirtual 68, 3) := by decide +kernel
theorem dX5_readDoor_86 : decode cX5_readDoor 86 = .ok (.ifCond .eq 12, 3) := by decide +kernel
theorem dX5_readDoor_89 : decode cX5_readDoor 89 = .ok (.aload_n 1, 1) := by decide +kernel
theorem dX5_readDoor_90 : decode cX5_readDoor 90 = .ok (.iload_n 3, 1) := by decide +kernel
theorem dX5_readDoor_91 : decode cX5_readDoor 91 = .ok (.iload 5, 2) := by decide +kernel
theorem dX5_readDoor_93 : decode cX5_readDoor 93 = .ok (.iload 6, 2) := by decide +kernel
theorem dX5_readDoor_95 : decode cX5_readDoor 95 = .ok (.invokevirtual 82, 3) := by decide +kernel
theorem dX5_readDoor_98 : decode cX5_readDoor 98 = .ok (.return_, 1) := by decide +kernel
theorem dX5_readHeir_0 : decode cX5_readHeir 0 = .ok (.aload_n 0, 1) := by decide +kernel
theorem dX5_readHeir_1 : decode cX5_readHeir 1 = .ok (.aload_n 1, 1) := by decide +kernel
theorem dX5_readHeir_2 : decode cX5_readHeir 2 = .ok (.getfield 86, 3) := by decide +kernel
theorem dX5_readHeir_5 : decode cX5_readHeir 5 = .ok (.bipush 6, 2) := by decide +kernel
theorem dX5_readHeir_7 : decode cX5_readHeir 7 = .ok (.if_icmp .lt 7, 3) := by decide +kernel
theorem dX5_readHeir_10 : decode cX5_readHeir 10 = .ok (.iconst 1, 1) := by decide +kernel
theorem dX5_readHeir_11 : decode cX5_readHeir 11 = .ok (.goto 4, 3) := by decide +kernel
theorem dX5_readHeir_14 : decode cX5_readHeir 14 = .ok (.iconst 0, 1) := by decide +kernel
theorem dX5_readHeir_15 : decode cX5_readHeir 15 = .ok (.iconst 3, 1) := by decide +kernel
theorem dX5_readHeir_16 : decode cX5_readHeir 16 = .ok (.iload_n 2, 1) := by decide +kernel
theorem dX5_readHeir_17 : decode cX5_readHeir 17 = .ok (.invokevirtual 60, 3) := by decide +kernel
theorem dX5_readHeir_20 : decode cX5_readHeir 20 = .ok (.aload_n 0, 1) := by decide +kernel
theorem dX5_readHeir_21 : decode cX5_readHeir 21 = .ok (.iconst 0, 1) := by decide +kernel
theorem dX5_readHeir_22 : decode cX5_readHeir 22 = .ok (.iconst 4, 1) := by decide +kernel
theorem dX5_readHeir_23 : decode cX5_readHeir 23 = .ok (.invokevirtual 64, 3) := by decide +kernel
theorem dX5_readHeir_26 : decode cX5_readHeir 26 = .ok (.istore_n 3, 1) := by decide +kernel
theorem dX5_readHeir_27 : decode cX5_readHeir 27 = .ok (.aload_n 0, 1) := by decide +kernel
theorem dX5_readHeir_28 : decode cX5_readHeir 28 = .ok (.iconst 1, 1) := by decide +kernel
theorem dX5_readHeir_29 : decode cX5_readHeir 29 = .ok (.bipush 20, 2) := by decide +kernel
theorem dX5_readHeir_31 : decode cX5_readHeir 31 = .ok (.invokevirtual 64, 3) := by decide +kernel
theorem dX5_readHeir_34 : decode cX5_readHeir 34 = .ok (.istore 4, 2) := by decide +kernel
theorem dX5_readHeir_36 : decode cX5_readHeir 36 = .ok (.aload_n 0, 1) := by decide +kernel
theorem dX5_readHeir_37 : decode cX5_readHeir 37 = .ok (.iconst 0, 1) := by decide +kernel
theorem dX5_readHeir_38 : decode cX5_readHeir 38 = .ok (.aload_n 1, 1) := by decide +kernel
theorem dX5_readHeir_39 : decode cX5_readHeir 39 = .ok (.getfield 72, 3) := by decide +kernel
theorem dX5_readHeir_42 : decode cX5_readHeir 42 = .ok (.iconst 1, 1) := by decide +kernel
theorem dX5_readHeir_43 : decode cX5_readHeir 43 = .ok (.isub, 1) := by decide +kernel
theorem dX5_readHeir_44 : decode cX5_readHeir 44 = .ok (.invokevirtual 64, 3) := by decide +kernel
theorem dX5_readHeir_47 : decode cX5_readHeir 47 = .ok (.istore 5, 2) := by decide +kernel
theorem dX5_readHeir_49 : decode cX5_readHeir 49 = .ok (.aload_n 0, 1) := by decide +kernel
theorem dX5_readHeir_50 : decode cX5_readHeir 50 = .ok (.invokevirtual 68, 3) := by decide +kernel
theorem dX5_readHeir_53 : decode cX5_readHeir 53 = .ok (.ifCond .eq 12, 3) := by decide +kernel
theorem dX5_readHeir_56 : decode cX5_readHeir 56 = .ok (.aload_n 1, 1) := by decide +kernel
theorem dX5_readHeir_57 : decode cX5_readHeir 57 = .ok (.iload_n 3, 1) := by decide +kernel
theorem dX5_readHeir_58 : decode cX5_readHeir 58 = .ok (.iload 4, 2) := by decide +kernel
theorem dX5_readHeir_60 : decode cX5_readHeir 60 = .ok (.iload 5, 2) := by decide +kernel
theorem dX5_readHeir_62 : decode cX5_readHeir 62 = .ok (.invokevirtual 89, 3) := by decide +kernel
theorem dX5_readHeir_65 : decode cX5_readHeir 65 = .ok (.return_, 1) := by decide +kernel
theorem dX5_readNumber_0 : decode cX5_readNumber 0 = .ok (.aload_n 0, 1) := by decide +kernel
theorem dX5_readNumber_1 : decode cX5_readNumber 1 = .ok (.invokevirtual 33, 3) := by decide +kernel
theorem dX5_readNumber_4 : decode cX5_readNumber 4 = .ok (.aload_n 0, 1) := by decide +kernel
theorem dX5_readNumber_5 : decode cX5_readNumber 5 = .ok (.getfield 25, 3) := by decide +kernel
theorem dX5_readNumber_8 : decode cX5_readNumber 8 = .ok (.istore_n 3, 1) := by decide +kernel
theorem dX5_readNumber_9 : decode cX5_readNumber 9 = .ok (.iconst 0, 1) := by decide +kernel
theorem dX5_readNumber_10 : decode cX5_readNumber 10 = .ok (.istore 4, 2) := by decide +kernel
theorem dX5_readNumber_12 : decode cX5_readNumber 12 = .ok (.aload_n 0, 1) := by decide +kernel
theorem dX5_readNumber_13 : decode cX5_readNumber 13 = .ok (.getfield 25, 3) := by decide +kernel
theorem dX5_readNumber_16 : decode cX5_readNumber 16 = .ok (.aload_n 0, 1) := by decide +kernel
theorem dX5_readNumber_17 : decode cX5_readNumber 17 = .ok (.getfield 15, 3) := by decide +kernel
theorem dX5_readNumber_20 : decode cX5_readNumber 20 = .ok (.if_icmp .ge 74, 3) := by decide +kernel
theorem dX5_readNumber_23 : decode cX5_readNumber 23 = .ok (.aload_n 0, 1) := by decide +kernel
theorem dX5_readNumber_24 : decode cX5_readNumber 24 = .ok (.getfield 9, 3) := by decide +kernel
theorem dX5_readNumber_27 : decode cX5_readNumber 27 = .ok (.aload_n 0, 1) := by decide +kernel
theorem dX5_readNumber_28 : decode cX5_readNumber 28 = .ok (.getfield 25, 3) := by decide +kernel
theorem dX5_readNumber_31 : decode cX5_readNumber 31 = .ok (.iaload, 1) := by decide +kernel
theorem dX5_readNumber_32 : decode cX5_readNumber 32 = .ok (.bipush 48, 2) := by decide +kernel
theorem dX5_readNumber_34 : decode cX5_readNumber 34 = .ok (.if_icmp .lt 60, 3) := by decide +kernel
theorem dX5_readNumber_37 : decode cX5_readNumber 37 = .ok (.aload_n 0, 1) := by decide +kernel
theorem dX5_readNumber_38 : decode cX5_readNumber 38 = .ok (.getfield 9, 3) := by decide +kernel
theorem dX5_readNumber_41 : decode cX5_readNumber 41 = .ok (.aload_n 0, 1) := by decide +kernel
theorem dX5_readNumber_42 : decode cX5_readNumber 42 = .ok (.getfield 25, 3) := by decide +kernel
theorem dX5_readNumber_45 : decode cX5_readNumber 45 = .ok (.iaload, 1) := by decide +kernel
theorem dX5_readNumber_46 : decode cX5_readNumber 46 = .ok (.bipush 57, 2) := by decide +kernel
theorem dX5_readNumber_48 : decode cX5_readNumber 48 = .ok (.if_icmp .gt 46, 3) := by decide +kernel
theorem dX5_readNumber_51 : decode cX5_readNumber 51 = .ok (.aload_n 0, 1) := by decide +kernel
theorem dX5_readNumber_52 : decode cX5_readNumber 52 = .ok (.getfield 25, 3) := by decide +kernel
theorem dX5_readNumber_55 : decode cX5_readNumber 55 = .ok (.iload_n 3, 1) := by decide +kernel
theorem dX5_readNumber_56 : decode cX5_readNumber 56 = .ok (.isub, 1) := by decide +kernel
theorem dX5_readNumber_57 : decode cX5_readNumber 57 = .ok (.iconst 3, 1) := by decide +kernel
theorem dX5_readNumber_58 : decode cX5_readNumber 58 = .ok (.if_icmp .ge 23, 3) := by decide +kernel
theorem dX5_readNumber_61 : decode cX5_readNumber 61 = .ok (.iload 4, 2) := by decide +kernel
theorem dX5_readNumber_63 : decode cX5_readNumber 63 = .ok (.bipush 10, 2) := by decide +kernel
theorem dX5_readNumber_65 : decode cX5_readNumber 65 = .ok (.imul, 1) := by decide +kernel
theorem dX5_readNumber_66 : decode cX5_readNumber 66 = .ok (.aload_n 0, 1) := by decide +kernel
theorem dX5_readNumber_67 : decode cX5_readNumber 67 = .ok (.getfield 9, 3) := by decide +kernel
theorem dX5_readNumber_70 : decode cX5_readNumber 70 = .ok (.aload_n 0, 1) := by decide +kernel
theorem dX5_readNumber_71 : decode cX5_readNumber 71 = .ok (.getfield 25, 3) := by decide +kernel
theorem dX5_readNumber_74 : decode cX5_readNumber 74 = .ok (.iaload, 1) := by decide +kernel
theorem dX5_readNumber_75 : decode cX5_readNumber 75 = .ok (.iadd, 1) := by decide +kernel
theorem dX5_readNumber_76 : decode cX5_readNumber 76 = .ok (.bipush 48, 2) := by decide +kernel
theorem dX5_readNumber_78 : decode cX5_readNumber 78 = .ok (.isub, 1) := by decide +kernel
theorem dX5_readNumber_79 : decode cX5_readNumber 79 = .ok (.istore 4, 2) := by decide +kernel
theorem dX5_readNumber_81 : decode cX5_readNumber 81 = .ok (.aload_n 0, 1) := by decide +kernel
theorem dX5_readNumber_82 : decode cX5_readNumber 82 = .ok (.dup, 1) := by decide +kernel
theorem dX5_readNumber_83 : decode cX5_readNumber 83 = .ok (.getfield 25, 3) := by decide +kernel
theorem dX5_readNumber_86 : decode cX5_readNumber 86 = .ok (.iconst 1, 1) := by decide +kernel
theorem dX5_readNumber_87 : decode cX5_readNumber 87 = .ok (.iadd, 1) := by decide +kernel
theorem dX5_readNumber_88 : decode cX5_readNumber 88 = .ok (.putfield 25, 3) := by decide +kernel
theorem dX5_readNumber_91 : decode cX5_readNumber 91 = .ok (.goto (-79), 3) := by decide +kernel
theorem dX5_readNumber_94 : decode cX5_readNumber 94 = .ok (.aload_n 0, 1) := by decide +kernel
theorem dX5_readNumber_95 : decode cX5_readNumber 95 = .ok (.getfield 25, 3) := by decide +kernel
theorem dX5_readNumber_98 : decode cX5_readNumber 98 = .ok (.iload_n 3, 1) := by decide +kernel
theorem dX5_readNumber_99 : decode cX5_readNumber 99 = .ok (.isub, 1) := by decide +kernel
theorem dX5_readNumber_100 : decode cX5_readNumber 100 = .ok (.istore 5, 2) := by decide +kernel
theorem dX5_readNumber_102 : decode cX5_readNumber 102 = .ok (.aload_n 0, 1) := by decide +kernel
theorem dX5_readNumber_103 : decode cX5_readNumber 103 = .ok (.iload 5, 2) := by decide +kernel
theorem dX5_readNumber_105 : decode cX5_readNumber 105 = .ok (.ifCond .ne 7, 3) := by decide +kernel
theorem dX5_readNumber_108 : decode cX5_readNumber 108 = .ok (.iconst 1, 1) := by decide +kernel
theorem dX5_readNumber_109 : decode cX5_readNumber 109 = .ok (.goto 4, 3) := by decide +kernel
theorem dX5_readNumber_112 : decode cX5_readNumber 112 = .ok (.iconst 0, 1) := by decide +kernel
theorem dX5_readNumber_113 : decode cX5_readNumber 113 = .ok (.iconst 1, 1) := by decide +kernel
theorem dX5_readNumber_114 : decode cX5_readNumber 114 = .ok (.iload_n 3, 1) := by decide +kernel
theorem dX5_readNumber_115 : decode cX5_readNumber 115 = .ok (.invokevirtual 60, 3) := by decide +kernel
theorem dX5_readNumber_118 : decode cX5_readNumber 118 = .ok (.aload_n 0, 1) := by decide +kernel
theorem dX5_readNumber_119 : decode cX5_readNumber 119 = .ok (.iload 5, 2) := by decide +kernel
theorem dX5_readNumber_121 : decode cX5_readNumber 121 = .ok (.iconst 3, 1) := by decide +kernel
theorem dX5_readNumber_122 : decode cX5_readNumber 122 = .ok (.if_icmp .gt 15, 3) := by decide +kernel
theorem dX5_readNumber_125 : decode cX5_readNumber 125 = .ok (.iload 4, 2) := by decide +kernel
theorem dX5_readNumber_127 : decode cX5_readNumber 127 = .ok (.iload_n 1, 1) := by decide +kernel
theorem dX5_readNumber_128 : decode cX5_readNumber 128 = .ok (.if_icmp .lt 9, 3) := by decide +kernel
theorem dX5_readNumber_131 : decode cX5_readNumber 131 = .ok (.iload 4, 2) := by decide +kernel
theorem dX5_readNumber_133 : decode cX5_readNumber 133 = .ok (.iload_n 2, 1) := by decide +kernel
theorem dX5_readNumber_134 : decode cX5_readNumber 134 = .ok (.if_icmp .le 7, 3) := by decide +kernel
theorem dX5_readNumber_137 : decode cX5_readNumber 137 = .ok (.iconst 1, 1) := by decide +kernel
theorem dX5_readNumber_138 : decode cX5_readNumber 138 = .ok (.goto 4, 3) := by decide +kernel
theorem dX5_readNumber_141 : decode cX5_readNumber 141 = .ok (.iconst 0, 1) := by decide +kernel
theorem dX5_readNumber_142 : decode cX5_readNumber 142 = .ok (.iconst 2, 1) := by decide +kernel
theorem dX5_readNumber_143 : decode cX5_readNumber 143 = .ok (.iload_n 3, 1) := by decide +kernel
theorem dX5_readNumber_144 : decode cX5_readNumber 144 = .ok (.invokevirtual 60, 3) := by decide +kernel
theorem dX5_readNumber_147 : decode cX5_readNumber 147 = .ok (.iload 4, 2) := by decide +kernel
theorem dX5_readNumber_149 : decode cX5_readNumber 149 = .ok (.ireturn, 1) := by decide +kernel
theorem dX5_readEnd_0 : decode cX5_readEnd 0 = .ok (.aload_n 0, 1) := by decide +kernel
theorem dX5_readEnd_1 : decode cX5_readEnd 1 = .ok (.invokevirtual 33, 3) := by decide +kernel
theorem dX5_readEnd_4 : decode cX5_readEnd 4 = .ok (.aload_n 0, 1) := by decide +kernel
theorem dX5_readEnd_5 : decode cX5_readEnd 5 = .ok (.aload_n 0, 1) := by decide +kernel
theorem dX5_readEnd_6 : decode cX5_readEnd 6 = .ok (.getfield 25, 3) := by decide +kernel
theorem dX5_readEnd_9 : decode cX5_readEnd 9 = .ok (.aload_n 0, 1) := by decide +kernel
theorem dX5_readEnd_10 : decode cX5_readEnd 10 = .ok (.getfield 15, 3) := by decide +kernel
theorem dX5_readEnd_13 : decode cX5_readEnd 13 = .ok (.if_icmp .ge 17, 3) := by decide +kernel
theorem dX5_readEnd_16 : decode cX5_readEnd 16 = .ok (.aload_n 0, 1) := by decide +kernel
theorem dX5_readEnd_17 : decode cX5_readEnd 17 = .ok (.getfield 9, 3) := by decide +kernel
theorem dX5_readEnd_20 : decode cX5_readEnd 20 = .ok (.aload_n 0, 1) := by decide +kernel
theorem dX5_readEnd_21 : decode cX5_readEnd 21 = .ok (.getfield 25, 3) := by decide +kernel
theorem dX5_readEnd_24 : decode cX5_readEnd 24 = .ok (.iaload, 1) := by decide +kernel
theorem dX5_readEnd_25 : decode cX5_readEnd 25 = .ok (.bipush 59, 2) := by decide +kernel
theorem dX5_readEnd_27 : decode cX5_readEnd 27 = .ok (.if_icmp .eq 7, 3) := by decide +kernel
theorem dX5_readEnd_30 : decode cX5_readEnd 30 = .ok (.iconst 1, 1) := by decide +kernel
theorem dX5_readEnd_31 : decode cX5_readEnd 31 = .ok (.goto 4, 3) := by decide +kernel
theorem dX5_readEnd_34 : decode cX5_readEnd 34 = .ok (.iconst 0, 1) := by decide +kernel
theorem dX5_readEnd_35 : decode cX5_readEnd 35 = .ok (.iconst 1, 1) := by decide +kernel
theorem dX5_readEnd_36 : decode cX5_readEnd 36 = .ok (.aload_n 0, 1) := by decide +kernel
theorem dX5_readEnd_37 : decode cX5_readEnd 37 = .ok (.getfield 25, 3) := by decide +kernel
theorem dX5_readEnd_40 : decode cX5_readEnd 40 = .ok (.invokevirtual 60, 3) := by decide +kernel
theorem dX5_readEnd_43 : decode cX5_readEnd 43 = .ok (.aload_n 0, 1) := by decide +kernel
theorem dX5_readEnd_44 : decode cX5_readEnd 44 = .ok (.dup, 1) := by decide +kernel
theorem dX5_readEnd_45 : decode cX5_readEnd 45 = .ok (.getfield 25, 3) := by decide +kernel
theorem dX5_readEnd_48 : decode cX5_readEnd 48 = .ok (.iconst 1, 1) := by decide +kernel
theorem dX5_readEnd_49 : decode cX5_readEnd 49 = .ok (.iadd, 1) := by decide +kernel
theorem dX5_readEnd_50 : decode cX5_readEnd 50 = .ok (.putfield 25, 3) := by decide +kernel
theorem dX5_readEnd_53 : decode cX5_readEnd 53 = .ok (.aload_n 0, 1) := by decide +kernel
theorem dX5_readEnd_54 : decode cX5_readEnd 54 = .ok (.getfield 19, 3) := by decide +kernel
theorem dX5_readEnd_57 : decode cX5_readEnd 57 = .ok (.ifCond .ne 7, 3) := by decide +kernel
theorem dX5_readEnd_60 : decode cX5_readEnd 60 = .ok (.iconst 1, 1) := by decide +kernel
theorem dX5_readEnd_61 : decode cX5_readEnd 61 = .ok (.goto 4, 3) := by decide +kernel
theorem dX5_readEnd_64 : decode cX5_readEnd 64 = .ok (.iconst 0, 1) := by decide +kernel
theorem dX5_readEnd_65 : decode cX5_readEnd 65 = .ok (.ireturn, 1) := by decide +kernel
theorem dX5_skipBlanks_0 : decode cX5_skipBlanks 0 = .ok (.aload_n 0, 1) := by decide +kernel
theorem dX5_skipBlanks_1 : decode cX5_skipBlanks 1 = .ok (.getfield 25, 3) := by decide +kernel
theorem dX5_skipBlanks_4 : decode cX5_skipBlanks 4 = .ok (.aload_n 0, 1) := by decide +kernel
theorem dX5_skipBlanks_5 : decode cX5_skipBlanks 5 = .ok (.getfield 15, 3) := by decide +kernel
theorem dX5_skipBlanks_8 : decode cX5_skipBlanks 8 = .ok (.if_icmp .ge 30, 3) := by decide +kernel
theorem dX5_skipBlanks_11 : decode cX5_skipBlanks 11 = .ok (.aload_n 0, 1) := by decide +kernel
theorem dX5_skipBlanks_12 : decode cX5_skipBlanks 12 = .ok (.getfield 9, 3) := by decide +kernel
theorem dX5_skipBlanks_15 : decode cX5_skipBlanks 15 = .ok (.aload_n 0, 1) := by decide +kernel
theorem dX5_skipBlanks_16 : decode cX5_skipBlanks 16 = .ok (.getfield 25, 3) := by decide +kernel
theorem dX5_skipBlanks_19 : decode cX5_skipBlanks 19 = .ok (.iaload, 1) := by decide +kernel
theorem dX5_skipBlanks_20 : decode cX5_skipBlanks 20 = .ok (.bipush 32, 2) := by decide +kernel
theorem dX5_skipBlanks_22 : decode cX5_skipBlanks 22 = .ok (.if_icmp .ne 16, 3) := by decide +kernel
theorem dX5_skipBlanks_25 : decode cX5_skipBlanks 25 = .ok (.aload_n 0, 1) := by decide +kernel
theorem dX5_skipBlanks_26 : decode cX5_skipBlanks 26 = .ok (.dup, 1) := by decide +kernel
theorem dX5_skipBlanks_27 : decode cX5_skipBlanks 27 = .ok (.getfield 25, 3) := by decide +kernel
theorem dX5_skipBlanks_30 : decode cX5_skipBlanks 30 = .ok (.iconst 1, 1) := by decide +kernel
theorem dX5_skipBlanks_31 : decode cX5_skipBlanks 31 = .ok (.iadd, 1) := by decide +kernel
theorem dX5_skipBlanks_32 : decode cX5_skipBlanks 32 = .ok (.putfield 25, 3) := by decide +kernel
theorem dX5_skipBlanks_35 : decode cX5_skipBlanks 35 = .ok (.goto (-35), 3) := by decide +kernel
theorem dX5_skipBlanks_38 : decode cX5_skipBlanks 38 = .ok (.return_, 1) := by decide +kernel
theorem dX5_failIf_0 : decode cX5_failIf 0 = .ok (.iload_n 1, 1) := by decide +kernel
theorem dX5_failIf_1 : decode cX5_failIf 1 = .ok (.ifCond .eq 9, 3) := by decide +kernel
theorem dX5_failIf_4 : decode cX5_failIf 4 = .ok (.aload_n 0, 1) := by decide +kernel
theorem dX5_failIf_5 : decode cX5_failIf 5 = .ok (.iload_n 2, 1) := by decide +kernel
theorem dX5_failIf_6 : decode cX5_failIf 6 = .ok (.iload_n 3, 1) := by decide +kernel
theorem dX5_failIf_7 : decode cX5_failIf 7 = .ok (.invokevirtual 43, 3) := by decide +kernel
theorem dX5_failIf_10 : decode cX5_failIf 10 = .ok (.return_, 1) := by decide +kernel
theorem dX5_fail_0 : decode cX5_fail 0 = .ok (.aload_n 0, 1) := by decide +kernel
theorem dX5_fail_1 : decode cX5_fail 1 = .ok (.getfield 19, 3) := by decide +kernel
theorem dX5_fail_4 : decode cX5_fail 4 = .ok (.ifCond .ne 13, 3) := by decide +kernel
theorem dX5_fail_7 : decode cX5_fail 7 = .ok (.aload_n 0, 1) := by decide +kernel
theorem dX5_fail_8 : decode cX5_fail 8 = .ok (.iload_n 1, 1) := by decide +kernel
theorem dX5_fail_9 : decode cX5_fail 9 = .ok (.putfield 19, 3) := by decide +kernel
theorem dX5_fail_12 : decode cX5_fail 12 = .ok (.aload_n 0, 1) := by decide +kernel
theorem dX5_fail_13 : decode cX5_fail 13 = .ok (.iload_n 2, 1) := by decide +kernel
theorem dX5_fail_14 : decode cX5_fail 14 = .ok (.putfield 22, 3) := by decide +kernel
theorem dX5_fail_17 : decode cX5_fail 17 = .ok (.return_, 1) := by decide +kernel
theorem dX6_init_0 : decode cX6_init 0 = .ok (.aload_n 0, 1) := by decide +kernel
theorem dX6_init_1 : decode cX6_init 1 = .ok (.invokespecial 3, 3) := by decide +kernel
theorem dX6_init_4 : decode cX6_init 4 = .ok (.aload_n 0, 1) := by decide +kernel
theorem dX6_init_5 : decode cX6_init 5 = .ok (.bipush 30, 2) := by decide +kernel
theorem dX6_init_7 : decode cX6_init 7 = .ok (.anewarray 9, 3) := by decide +kernel
theorem dX6_init_10 : decode cX6_init 10 = .ok (.putfield 11, 3) := by decide +kernel
theorem dX6_init_13 : decode cX6_init 13 = .ok (.aload_n 0, 1) := by decide +kernel
theorem dX6_init_14 : decode cX6_init 14 = .ok (.iconst 0, 1) := by decide +kernel
theorem dX6_init_15 : decode cX6_init 15 = .ok (.putfield 17, 3) := by decide +kernel
theorem dX6_init_18 : decode cX6_init 18 = .ok (.aload_n 0, 1) := by decide +kernel
theorem dX6_init_19 : decode cX6_init 19 = .ok (.iconst 0, 1) := by decide +kernel
theorem dX6_init_20 : decode cX6_init 20 = .ok (.putfield 21, 3) := by decide +kernel
theorem dX6_init_23 : decode cX6_init 23 = .ok (.iconst 0, 1) := by decide +kernel
theorem dX6_init_24 : decode cX6_init 24 = .ok (.istore_n 1, 1) := by decide +kernel
theorem dX6_init_25 : decode cX6_init 25 = .ok (.iload_n 1, 1) := by decide +kernel
theorem dX6_init_26 : decode cX6_init 26 = .ok (.bipush 30, 2) := by decide +kernel
theorem dX6_init_28 : decode cX6_init 28 = .ok (.if_icmp .ge 22, 3) := by decide +kernel
theorem dX6_init_31 : decode cX6_init 31 = .ok (.aload_n 0, 1) := by decide +kernel
theorem dX6_init_32 : decode cX6_init 32 = .ok (.getfield 11, 3) := by decide +kernel
theorem dX6_init_35 : decode cX6_init 35 = .ok (.iload_n 1, 1) := by decide +kernel
theorem dX6_init_36 : decode cX6_init 36 = .ok (.new 9, 3) := by decide +kernel
theorem dX6_init_39 : decode cX6_init 39 = .ok (.dup, 1) := by decide +kernel
theorem dX6_init_40 : decode cX6_init 40 = .ok (.invokespecial 24, 3) := by decide +kernel
theorem dX6_init_43 : decode cX6_init 43 = .ok (.aastore, 1) := by decide +kernel
theorem dX6_init_44 : decode cX6_init 44 = .ok (.iinc 1 1, 3) := by decide +kernel
theorem dX6_init_47 : decode cX6_init 47 = .ok (.goto (-22), 3) := by decide +kernel
theorem dX6_init_50 : decode cX6_init 50 = .ok (.return_, 1) := by decide +kernel
theorem dX6_clear_0 : decode cX6_clear 0 = .ok (.aload_n 0, 1) := by decide +kernel
theorem dX6_clear_1 : decode cX6_clear 1 = .ok (.iconst 0, 1) := by decide +kernel
theorem dX6_clear_2 : decode cX6_clear 2 = .ok (.putfield 17, 3) := by decide +kernel
theorem dX6_clear_5 : decode cX6_clear 5 = .ok (.aload_n 0, 1) := by decide +kernel
theorem dX6_clear_6 : decode cX6_clear 6 = .ok (.iconst 0, 1) := by decide +kernel
theorem dX6_clear_7 : decode cX6_clear 7 = .ok (.putfield 21, 3) := by decide +kernel
theorem dX6_clear_10 : decode cX6_clear 10 = .ok (.return_, 1) := by decide +kernel
theorem dX6_remember_0 : decode cX6_remember 0 = .ok (.aload_n 0, 1) := by decide +kernel
theorem dX6_remember_1 : decode cX6_remember 1 = .ok (.getfield 11, 3) := by decide +kernel
theorem dX6_remember_4 : decode cX6_remember 4 = .ok (.aload_n 0, 1) := by decide +kernel
theorem dX6_remember_5 : decode cX6_remember 5 = .ok (.getfield 21, 3) := by decide +kernel
theorem dX6_remember_8 : decode cX6_remember 8 = .ok (.aaload, 1) := by decide +kernel
theorem dX6_remember_9 : decode cX6_remember 9 = .ok (.aload_n 1, 1) := by decide +kernel
theorem dX6_remember_10 : decode cX6_remember 10 = .ok (.invokevirtual 25, 3) := by decide +kernel
theorem dX6_remember_13 : decode cX6_remember 13 = .ok (.aload_n 0, 1) := by decide +kernel
theorem dX6_remember_14 : decode cX6_remember 14 = .ok (.aload_n 0, 1) := by decide +kernel
theorem dX6_remember_15 : decode cX6_remember 15 = .ok (.getfield 21, 3) := by decide +kernel
theorem dX6_remember_18 : decode cX6_remember 18 = .ok (.iconst 1, 1) := by decide +kernel
theorem dX6_remember_19 : decode cX6_remember 19 = .ok (.iadd, 1) := by decide +kernel
theorem dX6_remember_20 : decode cX6_remember 20 = .ok (.bipush 30, 2) := by decide +kernel
theorem dX6_remember_22 : decode cX6_remember 22 = .ok (.irem, 1) := by decide +kernel
theorem dX6_remember_23 : decode cX6_remember 23 = .ok (.putfield 21, 3) := by decide +kernel
theorem dX6_remember_26 : decode cX6_remember 26 = .ok (.aload_n 0, 1) := by decide +kernel
theorem dX6_remember_27 : decode cX6_remember 27 = .ok (.aload_n 0, 1) := by decide +kernel
theorem dX6_remember_28 : decode cX6_remember 28 = .ok (.getfield 17, 3) := by decide +kernel
theorem dX6_remember_31 : decode cX6_remember 31 = .ok (.iconst 1, 1) := by decide +kernel
theorem dX6_remember_32 : decode cX6_remember 32 = .ok (.iadd, 1) := by decide +kernel
theorem dX6_remember_33 : decode cX6_remember 33 = .ok (.bipush 30, 2) := by decide +kernel
theorem dX6_remember_35 : decode cX6_remember 35 = .ok (.invokestatic 29, 3) := by decide +kernel
theorem dX6_remember_38 : decode cX6_remember 38 = .ok (.putfield 17, 3) := by decide +kernel
theorem dX6_remember_41 : decode cX6_remember 41 = .ok (.return_, 1) := by decide +kernel
theorem dX6_takeBack_0 : decode cX6_takeBack 0 = .ok (.aload_n 0, 1) := by decide +kernel
theorem dX6_takeBack_1 : decode cX6_takeBack 1 = .ok (.aload_n 0, 1) := by decide +kernel
theorem dX6_takeBack_2 : decode cX6_takeBack 2 = .ok (.getfield 21, 3) := by decide +kernel
theorem dX6_takeBack_5 : decode cX6_takeBack 5 = .ok (.iload_n 1, 1) := by decide +kernel
theorem dX6_takeBack_6 : decode cX6_takeBack 6 = .ok (.isub, 1) := by decide +kernel
theorem dX6_takeBack_7 : decode cX6_takeBack 7 = .ok (.bipush 30, 2) := by decide +kernel
theorem dX6_takeBack_9 : decode cX6_takeBack 9 = .ok (.invokestatic 35, 3) := by decide +kernel
theorem dX6_takeBack_12 : decode cX6_takeBack 12 = .ok (.putfield 21, 3) := by decide +kernel
theorem dX6_takeBack_15 : decode cX6_takeBack 15 = .ok (.aload_n 0, 1) := by decide +kernel
theorem dX6_takeBack_16 : decode cX6_takeBack 16 = .ok (.dup, 1) := by decide +kernel
theorem dX6_takeBack_17 : decode cX6_takeBack 17 = .ok (.getfield 17, 3) := by decide +kernel
theorem dX6_takeBack_20 : decode cX6_takeBack 20 = .ok (.iload_n 1, 1) := by decide +kernel
theorem dX6_takeBack_21 : decode cX6_takeBack 21 = .ok (.isub, 1) := by decide +kernel
theorem dX6_takeBack_22 : decode cX6_takeBack 22 = .ok (.putfield 17, 3) := by decide +kernel
theorem dX6_takeBack_25 : decode cX6_takeBack 25 = .ok (.aload_n 2, 1) := by decide +kernel
theorem dX6_takeBack_26 : decode cX6_takeBack 26 = .ok (.aload_n 0, 1) := by decide +kernel
theorem dX6_takeBack_27 : decode cX6_takeBack 27 = .ok (.getfield 11, 3) := by decide +kernel
theorem dX6_takeBack_30 : decode cX6_takeBack 30 = .ok (.aload_n 0, 1) := by decide +kernel
theorem dX6_takeBack_31 : decode cX6_takeBack 31 = .ok (.getfield 21, 3) := by decide +kernel
theorem dX6_takeBack_34 : decode cX6_takeBack 34 = .ok (.aaload, 1) := by decide +kernel
theorem dX6_takeBack_35 : decode cX6_takeBack 35 = .ok (.invokevirtual 25, 3) := by decide +kernel
theorem dX6_takeBack_38 : decode cX6_takeBack 38 = .ok (.return_, 1) := by decide +kernel
theorem dJ6_bitCount_0f7a4_0 : decode cJ6_bitCount_0f7a4 0 = .ok (.iload_n 0, 1) := by decide +kernel
theorem dJ6_bitCount_0f7a4_1 : decode cJ6_bitCount_0f7a4 1 = .ok (.iload_n 0, 1) := by decide +kernel
theorem dJ6_bitCount_0f7a4_2 : decode cJ6_bitCount_0f7a4 2 = .ok (.iconst 1, 1) := by decide +kernel
theorem dJ6_bitCount_0f7a4_3 : decode cJ6_bitCount_0f7a4 3 = .ok (.iushr, 1) := by decide +kernel
theorem dJ6_bitCount_0f7a4_4 : decode cJ6_bitCount_0f7a4 4 = .ok (.ldc_w 265, 3) := by decide +kernel
theorem dJ6_bitCount_0f7a4_7 : decode cJ6_bitCount_0f7a4 7 = .ok (.iand, 1) := by decide +kernel
theorem dJ6_bitCount_0f7a4_8 : decode cJ6_bitCount_0f7a4 8 = .ok (.isub, 1) := by decide +kernel
theorem dJ6_bitCount_0f7a4_9 : decode cJ6_bitCount_0f7a4 9 = .ok (.istore_n 0, 1) := by decide +kernel
theorem dJ6_bitCount_0f7a4_10 : decode cJ6_bitCount_0f7a4 10 = .ok (.iload_n 0, 1) := by decide +kernel
theorem dJ6_bitCount_0f7a4_11 : decode cJ6_bitCount_0f7a4 11 = .ok (.ldc_w 266, 3) := by decide +kernel
theorem dJ6_bitCount_0f7a4_14 : decode cJ6_bitCount_0f7a4 14 = .ok (.iand, 1) := by decide +kernel
theorem dJ6_bitCount_0f7a4_15 : decode cJ6_bitCount_0f7a4 15 = .ok (.iload_n 0, 1) := by decide +kernel
theorem dJ6_bitCount_0f7a4_16 : decode cJ6_bitCount_0f7a4 16 = .ok (.iconst 2, 1) := by decide +kernel
theorem dJ6_bitCount_0f7a4_17 : decode cJ6_bitCount_0f7a4 17 = .ok (.iushr, 1) := by decide +kernel
theorem dJ6_bitCount_0f7a4_18 : decode cJ6_bitCount_0f7a4 18 = .ok (.ldc_w 266, 3) := by decide +kernel
theorem dJ6_bitCount_0f7a4_21 : decode cJ6_bitCount_0f7a4 21 = .ok (.iand, 1) := by decide +kernel
theorem dJ6_bitCount_0f7a4_22 : decode cJ6_bitCount_0f7a4 22 = .ok (.iadd, 1) := by decide +kernel
theorem dJ6_bitCount_0f7a4_23 : decode cJ6_bitCount_0f7a4 23 = .ok (.istore_n 0, 1) := by decide +kernel
theorem dJ6_bitCount_0f7a4_24 : decode cJ6_bitCount_0f7a4 24 = .ok (.iload_n 0, 1) := by decide +kernel
theorem dJ6_bitCount_0f7a4_25 : decode cJ6_bitCount_0f7a4 25 = .ok (.iload_n 0, 1) := by decide +kernel
theorem dJ6_bitCount_0f7a4_26 : decode cJ6_bitCount_0f7a4 26 = .ok (.iconst 4, 1) := by decide +kernel
theorem dJ6_bitCount_0f7a4_27 : decode cJ6_bitCount_0f7a4 27 = .ok (.iushr, 1) := by decide +kernel
theorem dJ6_bitCount_0f7a4_28 : decode cJ6_bitCount_0f7a4 28 = .ok (.iadd, 1) := by decide +kernel
theorem dJ6_bitCount_0f7a4_29 : decode cJ6_bitCount_0f7a4 29 = .ok (.ldc_w 267, 3) := by decide +kernel
theorem dJ6_bitCount_0f7a4_32 : decode cJ6_bitCount_0f7a4 32 = .ok (.iand, 1) := by decide +kernel
theorem dJ6_bitCount_0f7a4_33 : decode cJ6_bitCount_0f7a4 33 = .ok (.istore_n 0, 1) := by decide +kernel
theorem dJ6_bitCount_0f7a4_34 : decode cJ6_bitCount_0f7a4 34 = .ok (.iload_n 0, 1) := by decide +kernel
theorem dJ6_bitCount_0f7a4_35 : decode cJ6_bitCount_0f7a4 35 = .ok (.iload_n 0, 1) := by decide +kernel
theorem dJ6_bitCount_0f7a4_36 : decode cJ6_bitCount_0f7a4 36 = .ok (.bipush 8, 2) := by decide +kernel
theorem dJ6_bitCount_0f7a4_38 : decode cJ6_bitCount_0f7a4 38 = .ok (.iushr, 1) := by decide +kernel
theorem dJ6_bitCount_0f7a4_39 : decode cJ6_bitCount_0f7a4 39 = .ok (.iadd, 1) := by decide +kernel
theorem dJ6_bitCount_0f7a4_40 : decode cJ6_bitCount_0f7a4 40 = .ok (.istore_n 0, 1) := by decide +kernel
theorem dJ6_bitCount_0f7a4_41 : decode cJ6_bitCount_0f7a4 41 = .ok (.iload_n 0, 1) := by decide +kernel
theorem dJ6_bitCount_0f7a4_42 : decode cJ6_bitCount_0f7a4 42 = .ok (.iload_n 0, 1) := by decide +kernel
theorem dJ6_bitCount_0f7a4_43 : decode cJ6_bitCount_0f7a4 43 = .ok (.bipush 16, 2) := by decide +kernel
theorem dJ6_bitCount_0f7a4_45 : decode cJ6_bitCount_0f7a4 45 = .ok (.iushr, 1) := by decide +kernel
theorem dJ6_bitCount_0f7a4_46 : decode cJ6_bitCount_0f7a4 46 = .ok (.iadd, 1) := by decide +kernel
theorem dJ6_bitCount_0f7a4_47 : decode cJ6_bitCount_0f7a4 47 = .ok (.istore_n 0, 1) := by decide +kernel
theorem dJ6_bitCount_0f7a4_48 : decode cJ6_bitCount_0f7a4 48 = .ok (.iload_n 0, 1) := by decide +kernel
theorem dJ6_bitCount_0f7a4_49 : decode cJ6_bitCount_0f7a4 49 = .ok (.bipush 63, 2) := by decide +kernel
theorem dJ6_bitCount_0f7a4_51 : decode cJ6_bitCount_0f7a4 51 = .ok (.iand, 1) := by decide +kernel
theorem dJ6_bitCount_0f7a4_52 : decode cJ6_bitCount_0f7a4 52 = .ok (.ireturn, 1) := by decide +kernel
theorem dJ7_fill_53178_0 : decode cJ7_fill_53178 0 = .ok (.iconst 0, 1) := by decide +kernel
theorem dJ7_fill_53178_1 : decode cJ7_fill_53178 1 = .ok (.istore_n 2, 1) := by decide +kernel
theorem dJ7_fill_53178_2 : decode cJ7_fill_53178 2 = .ok (.aload_n 0, 1) := by decide +kernel
theorem dJ7_fill_53178_3 : decode cJ7_fill_53178 3 = .ok (.arraylength, 1) := by decide +kernel
theorem dJ7_fill_53178_4 : decode cJ7_fill_53178 4 = .ok (.istore_n 3, 1) := by decide +kernel
theorem dJ7_fill_53178_5 : decode cJ7_fill_53178 5 = .ok (.iload_n 2, 1) := by decide +kernel
theorem dJ7_fill_53178_6 : decode cJ7_fill_53178 6 = .ok (.iload_n 3, 1) := by decide +kernel
theorem dJ7_fill_53178_7 : decode cJ7_fill_53178 7 = .ok (.if_icmp .ge 13, 3) := by decide +kernel
theorem dJ7_fill_53178_10 : decode cJ7_fill_53178 10 = .ok (.aload_n 0, 1) := by decide +kernel
theorem dJ7_fill_53178_11 : decode cJ7_fill_53178 11 = .ok (.iload_n 2, 1) := by decide +kernel
theorem dJ7_fill_53178_12 : decode cJ7_fill_53178 12 = .ok (.iload_n 1, 1) := by decide +kernel
theorem dJ7_fill_53178_13 : decode cJ7_fill_53178 13 = .ok (.iastore, 1) := by decide +kernel
theorem dJ7_fill_53178_14 : decode cJ7_fill_53178 14 = .ok (.iinc 2 1, 3) := by decide +kernel
theorem dJ7_fill_53178_17 : decode cJ7_fill_53178 17 = .ok (.goto (-12), 3) := by decide +kernel
theorem dJ7_fill_53178_20 : decode cJ7_fill_53178 20 = .ok (.return_, 1) := by decide +kernel
theorem dJ9_floorMod_7cf53_0 : decode cJ9_floorMod_7cf53 0 = .ok (.iload_n 0, 1) := by decide +kernel
theorem dJ9_floorMod_7cf53_1 : decode cJ9_floorMod_7cf53 1 = .ok (.iload_n 1, 1) := by decide +kernel
theorem dJ9_floorMod_7cf53_2 : decode cJ9_floorMod_7cf53 2 = .ok (.irem, 1) := by decide +kernel
theorem dJ9_floorMod_7cf53_3 : decode cJ9_floorMod_7cf53 3 = .ok (.istore_n 2, 1) := by decide +kernel
theorem dJ9_floorMod_7cf53_4 : decode cJ9_floorMod_7cf53 4 = .ok (.iload_n 0, 1) := by decide +kernel
theorem dJ9_floorMod_7cf53_5 : decode cJ9_floorMod_7cf53 5 = .ok (.iload_n 1, 1) := by decide +kernel
theorem dJ9_floorMod_7cf53_6 : decode cJ9_floorMod_7cf53 6 = .ok (.ixor, 1) := by decide +kernel
theorem dJ9_floorMod_7cf53_7 : decode cJ9_floorMod_7cf53 7 = .ok (.ifCond .ge 11, 3) := by decide +kernel
theorem dJ9_floorMod_7cf53_10 : decode cJ9_floorMod_7cf53 10 = .ok (.iload_n 2, 1) := by decide +kernel
theorem dJ9_floorMod_7cf53_11 : decode cJ9_floorMod_7cf53 11 = .ok (.ifCond .eq 7, 3) := by decide +kernel
theorem dJ9_floorMod_7cf53_14 : decode cJ9_floorMod_7cf53 14 = .ok (.iload_n 2, 1) := by decide +kernel
theorem dJ9_floorMod_7cf53_15 : decode cJ9_floorMod_7cf53 15 = .ok (.iload_n 1, 1) := by decide +kernel
theorem dJ9_floorMod_7cf53_16 : decode cJ9_floorMod_7cf53 16 = .ok (.iadd, 1) := by decide +kernel
theorem dJ9_floorMod_7cf53_17 : decode cJ9_floorMod_7cf53 17 = .ok (.ireturn, 1) := by decide +kernel
theorem dJ9_floorMod_7cf53_18 : decode cJ9_floorMod_7cf53 18 = .ok (.iload_n 2, 1) := by decide +kernel
theorem dJ9_floorMod_7cf53_19 : decode cJ9_floorMod_7cf53 19 = .ok (.ireturn, 1) := by decide +kernel
theorem dJ9_max_7cf53_0 : decode cJ9_max_7cf53 0 = .ok (.iload_n 0, 1) := by decide +kernel
theorem dJ9_max_7cf53_1 : decode cJ9_max_7cf53 1 = .ok (.iload_n 1, 1) := by decide +kernel
theorem dJ9_max_7cf53_2 : decode cJ9_max_7cf53 2 = .ok (.if_icmp .lt 7, 3) := by decide +kernel
theorem dJ9_max_7cf53_5 : decode cJ9_max_7cf53 5 = .ok (.iload_n 0, 1) := by decide +kernel
theorem dJ9_max_7cf53_6 : decode cJ9_max_7cf53 6 = .ok (.goto 4, 3) := by decide +kernel
theorem dJ9_max_7cf53_9 : decode cJ9_max_7cf53 9 = .ok (.iload_n 1, 1) := by decide +kernel
theorem dJ9_max_7cf53_10 : decode cJ9_max_7cf53 10 = .ok (.ireturn, 1) := by decide +kernel
theorem dJ9_min_7cf53_0 : decode cJ9_min_7cf53 0 = .ok (.iload_n 0, 1) := by decide +kernel
theorem dJ9_min_7cf53_1 : decode cJ9_min_7cf53 1 = .ok (.iload_n 1, 1) := by decide +kernel
theorem dJ9_min_7cf53_2 : decode cJ9_min_7cf53 2 = .ok (.if_icmp .gt 7, 3) := by decide +kernel
theorem dJ9_min_7cf53_5 : decode cJ9_min_7cf53 5 = .ok (.iload_n 0, 1) := by decide +kernel
theorem dJ9_min_7cf53_6 : decode cJ9_min_7cf53 6 = .ok (.goto 4, 3) := by decide +kernel
theorem dJ9_min_7cf53_9 : decode cJ9_min_7cf53 9 = .ok (.iload_n 1, 1) := by decide +kernel
theorem dJ9_min_7cf53_10 : decode cJ9_min_7cf53 10 = .ok (.ireturn, 1) := by decide +kernel
