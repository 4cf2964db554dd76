theorem dX8_countsOf_79 : decode cX8_countsOf 79 = .ok (.istore_n 3, 1) := by decide +kernel
theorem dX8_countsOf_80 : decode cX8_countsOf 80 = .ok (.iinc 4 1, 3) := by decide +kernel
theorem dX8_countsOf_83 : decode cX8_countsOf 83 = .ok (.goto (-51), 3) := by decide +kernel
theorem dX8_countsOf_86 : decode cX8_countsOf 86 = .ok (.iload_n 3, 1) := by decide +kernel
theorem dX8_countsOf_87 : decode cX8_countsOf 87 = .ok (.ireturn, 1) := by decide +kernel
theorem dX8_says_0 : decode cX8_says 0 = .ok (.iconst 0, 1) := by decide +kernel
theorem dX8_says_1 : decode cX8_says 1 = .ok (.istore_n 2, 1) := by decide +kernel
theorem dX8_says_2 : decode cX8_says 2 = .ok (.iload_n 2, 1) := by decide +kernel
theorem dX8_says_3 : decode cX8_says 3 = .ok (.iconst 4, 1) := by decide +kernel
theorem dX8_says_4 : decode cX8_says 4 = .ok (.if_icmp .ge 98, 3) := by decide +kernel
theorem dX8_says_7 : decode cX8_says 7 = .ok (.aload_n 0, 1) := by decide +kernel
theorem dX8_says_8 : decode cX8_says 8 = .ok (.iload_n 1, 1) := by decide +kernel
theorem dX8_says_9 : decode cX8_says 9 = .ok (.aload_n 0, 1) := by decide +kernel
theorem dX8_says_10 : decode cX8_says 10 = .ok (.getfield 38, 3) := by decide +kernel
theorem dX8_says_13 : decode cX8_says 13 = .ok (.bipush 45, 2) := by decide +kernel
theorem dX8_says_15 : decode cX8_says 15 = .ok (.iload_n 1, 1) := by decide +kernel
theorem dX8_says_16 : decode cX8_says 16 = .ok (.iadd, 1) := by decide +kernel
theorem dX8_says_17 : decode cX8_says 17 = .ok (.iaload, 1) := by decide +kernel
theorem dX8_says_18 : decode cX8_says 18 = .ok (.aload_n 0, 1) := by decide +kernel
theorem dX8_says_19 : decode cX8_says 19 = .ok (.getfield 38, 3) := by decide +kernel
theorem dX8_says_22 : decode cX8_says 22 = .ok (.iconst 0, 1) := by decide +kernel
theorem dX8_says_23 : decode cX8_says 23 = .ok (.iaload, 1) := by decide +kernel
theorem dX8_says_24 : decode cX8_says 24 = .ok (.iload_n 2, 1) := by decide +kernel
theorem dX8_says_25 : decode cX8_says 25 = .ok (.aload_n 0, 1) := by decide +kernel
theorem dX8_says_26 : decode cX8_says 26 = .ok (.iload_n 2, 1) := by decide +kernel
theorem dX8_says_27 : decode cX8_says 27 = .ok (.invokevirtual 189, 3) := by decide +kernel
theorem dX8_says_30 : decode cX8_says 30 = .ok (.invokevirtual 193, 3) := by decide +kernel
theorem dX8_says_33 : decode cX8_says 33 = .ok (.istore_n 3, 1) := by decide +kernel
theorem dX8_says_34 : decode cX8_says 34 = .ok (.iconst 0, 1) := by decide +kernel
theorem dX8_says_35 : decode cX8_says 35 = .ok (.istore 4, 2) := by decide +kernel
theorem dX8_says_37 : decode cX8_says 37 = .ok (.iload 4, 2) := by decide +kernel
theorem dX8_says_39 : decode cX8_says 39 = .ok (.aload_n 0, 1) := by decide +kernel
theorem dX8_says_40 : decode cX8_says 40 = .ok (.getfield 82, 3) := by decide +kernel
theorem dX8_says_43 : decode cX8_says 43 = .ok (.if_icmp .ge 53, 3) := by decide +kernel
theorem dX8_says_46 : decode cX8_says 46 = .ok (.bipush 21, 2) := by decide +kernel
theorem dX8_says_48 : decode cX8_says 48 = .ok (.bipush 6, 2) := by decide +kernel
theorem dX8_says_50 : decode cX8_says 50 = .ok (.iload_n 2, 1) := by decide +kernel
theorem dX8_says_51 : decode cX8_says 51 = .ok (.imul, 1) := by decide +kernel
theorem dX8_says_52 : decode cX8_says 52 = .ok (.iadd, 1) := by decide +kernel
theorem dX8_says_53 : decode cX8_says 53 = .ok (.iload 4, 2) := by decide +kernel
theorem dX8_says_55 : decode cX8_says 55 = .ok (.iadd, 1) := by decide +kernel
theorem dX8_says_56 : decode cX8_says 56 = .ok (.istore 5, 2) := by decide +kernel
theorem dX8_says_58 : decode cX8_says 58 = .ok (.aload_n 0, 1) := by decide +kernel
theorem dX8_says_59 : decode cX8_says 59 = .ok (.getfield 38, 3) := by decide +kernel
theorem dX8_says_62 : decode cX8_says 62 = .ok (.iload 5, 2) := by decide +kernel
theorem dX8_says_64 : decode cX8_says 64 = .ok (.iload_n 3, 1) := by decide +kernel
theorem dX8_says_65 : decode cX8_says 65 = .ok (.iload 4, 2) := by decide +kernel
theorem dX8_says_67 : decode cX8_says 67 = .ok (.invokestatic 181, 3) := by decide +kernel
theorem dX8_says_70 : decode cX8_says 70 = .ok (.ifCond .eq 12, 3) := by decide +kernel
theorem dX8_says_73 : decode cX8_says 73 = .ok (.aload_n 0, 1) := by decide +kernel
theorem dX8_says_74 : decode cX8_says 74 = .ok (.iload_n 1, 1) := by decide +kernel
theorem dX8_says_75 : decode cX8_says 75 = .ok (.iload_n 2, 1) := by decide +kernel
theorem dX8_says_76 : decode cX8_says 76 = .ok (.invokevirtual 197, 3) := by decide +kernel
theorem dX8_says_79 : decode cX8_says 79 = .ok (.goto 10, 3) := by decide +kernel
theorem dX8_says_82 : decode cX8_says 82 = .ok (.aload_n 0, 1) := by decide +kernel
theorem dX8_says_83 : decode cX8_says 83 = .ok (.getfield 38, 3) := by decide +kernel
theorem dX8_says_86 : decode cX8_says 86 = .ok (.iload 5, 2) := by decide +kernel
theorem dX8_says_88 : decode cX8_says 88 = .ok (.iaload, 1) := by decide +kernel
theorem dX8_says_89 : decode cX8_says 89 = .ok (.iastore, 1) := by decide +kernel
theorem dX8_says_90 : decode cX8_says 90 = .ok (.iinc 4 1, 3) := by decide +kernel
theorem dX8_says_93 : decode cX8_says 93 = .ok (.goto (-56), 3) := by decide +kernel
theorem dX8_says_96 : decode cX8_says 96 = .ok (.iinc 2 1, 3) := by decide +kernel
theorem dX8_says_99 : decode cX8_says 99 = .ok (.goto (-97), 3) := by decide +kernel
theorem dX8_says_102 : decode cX8_says 102 = .ok (.aload_n 0, 1) := by decide +kernel
theorem dX8_says_103 : decode cX8_says 103 = .ok (.getfield 38, 3) := by decide +kernel
theorem dX8_says_106 : decode cX8_says 106 = .ok (.iconst 2, 1) := by decide +kernel
theorem dX8_says_107 : decode cX8_says 107 = .ok (.dup2, 1) := by decide +kernel
theorem dX8_says_108 : decode cX8_says 108 = .ok (.iaload, 1) := by decide +kernel
theorem dX8_says_109 : decode cX8_says 109 = .ok (.iconst 1, 1) := by decide +kernel
theorem dX8_says_110 : decode cX8_says 110 = .ok (.iadd, 1) := by decide +kernel
theorem dX8_says_111 : decode cX8_says 111 = .ok (.iastore, 1) := by decide +kernel
theorem dX8_says_112 : decode cX8_says 112 = .ok (.return_, 1) := by decide +kernel
theorem dX8_hourOn_0 : decode cX8_hourOn 0 = .ok (.aload_n 0, 1) := by decide +kernel
theorem dX8_hourOn_1 : decode cX8_hourOn 1 = .ok (.getfield 38, 3) := by decide +kernel
theorem dX8_hourOn_4 : decode cX8_hourOn 4 = .ok (.iconst 0, 1) := by decide +kernel
theorem dX8_hourOn_5 : decode cX8_hourOn 5 = .ok (.dup2, 1) := by decide +kernel
theorem dX8_hourOn_6 : decode cX8_hourOn 6 = .ok (.iaload, 1) := by decide +kernel
theorem dX8_hourOn_7 : decode cX8_hourOn 7 = .ok (.iconst 1, 1) := by decide +kernel
theorem dX8_hourOn_8 : decode cX8_hourOn 8 = .ok (.iadd, 1) := by decide +kernel
theorem dX8_hourOn_9 : decode cX8_hourOn 9 = .ok (.iastore, 1) := by decide +kernel
theorem dX8_hourOn_10 : decode cX8_hourOn 10 = .ok (.aload_n 0, 1) := by decide +kernel
theorem dX8_hourOn_11 : decode cX8_hourOn 11 = .ok (.getfield 38, 3) := by decide +kernel
theorem dX8_hourOn_14 : decode cX8_hourOn 14 = .ok (.iconst 0, 1) := by decide +kernel
theorem dX8_hourOn_15 : decode cX8_hourOn 15 = .ok (.iaload, 1) := by decide +kernel
theorem dX8_hourOn_16 : decode cX8_hourOn 16 = .ok (.aload_n 0, 1) := by decide +kernel
theorem dX8_hourOn_17 : decode cX8_hourOn 17 = .ok (.getfield 154, 3) := by decide +kernel
theorem dX8_hourOn_20 : decode cX8_hourOn 20 = .ok (.if_icmp .ge 4, 3) := by decide +kernel
theorem dX8_hourOn_23 : decode cX8_hourOn 23 = .ok (.return_, 1) := by decide +kernel
theorem dX8_hourOn_24 : decode cX8_hourOn 24 = .ok (.iconst 0, 1) := by decide +kernel
theorem dX8_hourOn_25 : decode cX8_hourOn 25 = .ok (.istore_n 1, 1) := by decide +kernel
theorem dX8_hourOn_26 : decode cX8_hourOn 26 = .ok (.iload_n 1, 1) := by decide +kernel
theorem dX8_hourOn_27 : decode cX8_hourOn 27 = .ok (.aload_n 0, 1) := by decide +kernel
theorem dX8_hourOn_28 : decode cX8_hourOn 28 = .ok (.getfield 82, 3) := by decide +kernel
theorem dX8_hourOn_31 : decode cX8_hourOn 31 = .ok (.if_icmp .ge 61, 3) := by decide +kernel
theorem dX8_hourOn_34 : decode cX8_hourOn 34 = .ok (.aload_n 0, 1) := by decide +kernel
theorem dX8_hourOn_35 : decode cX8_hourOn 35 = .ok (.getfield 38, 3) := by decide +kernel
theorem dX8_hourOn_38 : decode cX8_hourOn 38 = .ok (.bipush 15, 2) := by decide +kernel
theorem dX8_hourOn_40 : decode cX8_hourOn 40 = .ok (.iload_n 1, 1) := by decide +kernel
theorem dX8_hourOn_41 : decode cX8_hourOn 41 = .ok (.iadd, 1) := by decide +kernel
theorem dX8_hourOn_42 : decode cX8_hourOn 42 = .ok (.aload_n 0, 1) := by decide +kernel
theorem dX8_hourOn_43 : decode cX8_hourOn 43 = .ok (.getfield 38, 3) := by decide +kernel
theorem dX8_hourOn_46 : decode cX8_hourOn 46 = .ok (.bipush 21, 2) := by decide +kernel
theorem dX8_hourOn_48 : decode cX8_hourOn 48 = .ok (.iload_n 1, 1) := by decide +kernel
theorem dX8_hourOn_49 : decode cX8_hourOn 49 = .ok (.iadd, 1) := by decide +kernel
theorem dX8_hourOn_50 : decode cX8_hourOn 50 = .ok (.iaload, 1) := by decide +kernel
theorem dX8_hourOn_51 : decode cX8_hourOn 51 = .ok (.ifCond .lt 15, 3) := by decide +kernel
theorem dX8_hourOn_54 : decode cX8_hourOn 54 = .ok (.aload_n 0, 1) := by decide +kernel
theorem dX8_hourOn_55 : decode cX8_hourOn 55 = .ok (.getfield 38, 3) := by decide +kernel
theorem dX8_hourOn_58 : decode cX8_hourOn 58 = .ok (.bipush 21, 2) := by decide +kernel
theorem dX8_hourOn_60 : decode cX8_hourOn 60 = .ok (.iload_n 1, 1) := by decide +kernel
theorem dX8_hourOn_61 : decode cX8_hourOn 61 = .ok (.iadd, 1) := by decide +kernel
theorem dX8_hourOn_62 : decode cX8_hourOn 62 = .ok (.iaload, 1) := by decide +kernel
theorem dX8_hourOn_63 : decode cX8_hourOn 63 = .ok (.goto 12, 3) := by decide +kernel
theorem dX8_hourOn_66 : decode cX8_hourOn 66 = .ok (.aload_n 0, 1) := by decide +kernel
theorem dX8_hourOn_67 : decode cX8_hourOn 67 = .ok (.getfield 38, 3) := by decide +kernel
theorem dX8_hourOn_70 : decode cX8_hourOn 70 = .ok (.bipush 15, 2) := by decide +kernel
theorem dX8_hourOn_72 : decode cX8_hourOn 72 = .ok (.iload_n 1, 1) := by decide +kernel
theorem dX8_hourOn_73 : decode cX8_hourOn 73 = .ok (.iadd, 1) := by decide +kernel
theorem dX8_hourOn_74 : decode cX8_hourOn 74 = .ok (.iaload, 1) := by decide +kernel
theorem dX8_hourOn_75 : decode cX8_hourOn 75 = .ok (.iastore, 1) := by decide +kernel
theorem dX8_hourOn_76 : decode cX8_hourOn 76 = .ok (.aload_n 0, 1) := by decide +kernel
theorem dX8_hourOn_77 : decode cX8_hourOn 77 = .ok (.getfield 38, 3) := by decide +kernel
theorem dX8_hourOn_80 : decode cX8_hourOn 80 = .ok (.bipush 9, 2) := by decide +kernel
theorem dX8_hourOn_82 : decode cX8_hourOn 82 = .ok (.iload_n 1, 1) := by decide +kernel
theorem dX8_hourOn_83 : decode cX8_hourOn 83 = .ok (.iadd, 1) := by decide +kernel
theorem dX8_hourOn_84 : decode cX8_hourOn 84 = .ok (.iconst 0, 1) := by decide +kernel
theorem dX8_hourOn_85 : decode cX8_hourOn 85 = .ok (.iastore, 1) := by decide +kernel
theorem dX8_hourOn_86 : decode cX8_hourOn 86 = .ok (.iinc 1 1, 3) := by decide +kernel
theorem dX8_hourOn_89 : decode cX8_hourOn 89 = .ok (.goto (-63), 3) := by decide +kernel
theorem dX8_hourOn_92 : decode cX8_hourOn 92 = .ok (.iconst 0, 1) := by decide +kernel
theorem dX8_hourOn_93 : decode cX8_hourOn 93 = .ok (.istore_n 1, 1) := by decide +kernel
theorem dX8_hourOn_94 : decode cX8_hourOn 94 = .ok (.iload_n 1, 1) := by decide +kernel
theorem dX8_hourOn_95 : decode cX8_hourOn 95 = .ok (.bipush 24, 2) := by decide +kernel
theorem dX8_hourOn_97 : decode cX8_hourOn 97 = .ok (.if_icmp .ge 19, 3) := by decide +kernel
theorem dX8_hourOn_100 : decode cX8_hourOn 100 = .ok (.aload_n 0, 1) := by decide +kernel
theorem dX8_hourOn_101 : decode cX8_hourOn 101 = .ok (.getfield 38, 3) := by decide +kernel
theorem dX8_hourOn_104 : decode cX8_hourOn 104 = .ok (.bipush 21, 2) := by decide +kernel
theorem dX8_hourOn_106 : decode cX8_hourOn 106 = .ok (.iload_n 1, 1) := by decide +kernel
theorem dX8_hourOn_107 : decode cX8_hourOn 107 = .ok (.iadd, 1) := by decide +kernel
theorem dX8_hourOn_108 : decode cX8_hourOn 108 = .ok (.iconst (-1), 1) := by decide +kernel
theorem dX8_hourOn_109 : decode cX8_hourOn 109 = .ok (.iastore, 1) := by decide +kernel
theorem dX8_hourOn_110 : decode cX8_hourOn 110 = .ok (.iinc 1 1, 3) := by decide +kernel
theorem dX8_hourOn_113 : decode cX8_hourOn 113 = .ok (.goto (-19), 3) := by decide +kernel
theorem dX8_hourOn_116 : decode cX8_hourOn 116 = .ok (.aload_n 0, 1) := by decide +kernel
theorem dX8_hourOn_117 : decode cX8_hourOn 117 = .ok (.getfield 38, 3) := by decide +kernel
theorem dX8_hourOn_120 : decode cX8_hourOn 120 = .ok (.iconst 0, 1) := by decide +kernel
theorem dX8_hourOn_121 : decode cX8_hourOn 121 = .ok (.iconst 0, 1) := by decide +kernel
theorem dX8_hourOn_122 : decode cX8_hourOn 122 = .ok (.iastore, 1) := by decide +kernel
theorem dX8_hourOn_123 : decode cX8_hourOn 123 = .ok (.aload_n 0, 1) := by decide +kernel
theorem dX8_hourOn_124 : decode cX8_hourOn 124 = .ok (.getfield 38, 3) := by decide +kernel
theorem dX8_hourOn_127 : decode cX8_hourOn 127 = .ok (.iconst 1, 1) := by decide +kernel
theorem dX8_hourOn_128 : decode cX8_hourOn 128 = .ok (.dup2, 1) := by decide +kernel
theorem dX8_hourOn_129 : decode cX8_hourOn 129 = .ok (.iaload, 1) := by decide +kernel
theorem dX8_hourOn_130 : decode cX8_hourOn 130 = .ok (.iconst 1, 1) := by decide +kernel
theorem dX8_hourOn_131 : decode cX8_hourOn 131 = .ok (.iadd, 1) := by decide +kernel
theorem dX8_hourOn_132 : decode cX8_hourOn 132 = .ok (.iastore, 1) := by decide +kernel
theorem dX8_hourOn_133 : decode cX8_hourOn 133 = .ok (.return_, 1) := by decide +kernel
theorem dX8_willBy_0 : decode cX8_willBy 0 = .ok (.aload_n 0, 1) := by decide +kernel
theorem dX8_willBy_1 : decode cX8_willBy 1 = .ok (.getfield 38, 3) := by decide +kernel
theorem dX8_willBy_4 : decode cX8_willBy 4 = .ok (.bipush 21, 2) := by decide +kernel
theorem dX8_willBy_6 : decode cX8_willBy 6 = .ok (.bipush 6, 2) := by decide +kernel
theorem dX8_willBy_8 : decode cX8_willBy 8 = .ok (.iload_n 2, 1) := by decide +kernel
theorem dX8_willBy_9 : decode cX8_willBy 9 = .ok (.imul, 1) := by decide +kernel
theorem dX8_willBy_10 : decode cX8_willBy 10 = .ok (.iadd, 1) := by decide +kernel
theorem dX8_willBy_11 : decode cX8_willBy 11 = .ok (.iload_n 1, 1) := by decide +kernel
theorem dX8_willBy_12 : decode cX8_willBy 12 = .ok (.iadd, 1) := by decide +kernel
theorem dX8_willBy_13 : decode cX8_willBy 13 = .ok (.iaload, 1) := by decide +kernel
theorem dX8_willBy_14 : decode cX8_willBy 14 = .ok (.istore_n 3, 1) := by decide +kernel
theorem dX8_willBy_15 : decode cX8_willBy 15 = .ok (.iload_n 3, 1) := by decide +kernel
theorem dX8_willBy_16 : decode cX8_willBy 16 = .ok (.ifCond .lt 7, 3) := by decide +kernel
theorem dX8_willBy_19 : decode cX8_willBy 19 = .ok (.iload_n 3, 1) := by decide +kernel
theorem dX8_willBy_20 : decode cX8_willBy 20 = .ok (.goto 12, 3) := by decide +kernel
theorem dX8_willBy_23 : decode cX8_willBy 23 = .ok (.aload_n 0, 1) := by decide +kernel
theorem dX8_willBy_24 : decode cX8_willBy 24 = .ok (.getfield 38, 3) := by decide +kernel
theorem dX8_willBy_27 : decode cX8_willBy 27 = .ok (.bipush 15, 2) := by decide +kernel
theorem dX8_willBy_29 : decode cX8_willBy 29 = .ok (.iload_n 1, 1) := by decide +kernel
theorem dX8_willBy_30 : decode cX8_willBy 30 = .ok (.iadd, 1) := by decide +kernel
theorem dX8_willBy_31 : decode cX8_willBy 31 = .ok (.iaload, 1) := by decide +kernel
theorem dX8_willBy_32 : decode cX8_willBy 32 = .ok (.ireturn, 1) := by decide +kernel
theorem dX8_sureOnes_0 : decode cX8_sureOnes 0 = .ok (.iconst 0, 1) := by decide +kernel
theorem dX8_sureOnes_1 : decode cX8_sureOnes 1 = .ok (.istore_n 1, 1) := by decide +kernel
theorem dX8_sureOnes_2 : decode cX8_sureOnes 2 = .ok (.iconst 0, 1) := by decide +kernel
theorem dX8_sureOnes_3 : decode cX8_sureOnes 3 = .ok (.istore_n 2, 1) := by decide +kernel
theorem dX8_sureOnes_4 : decode cX8_sureOnes 4 = .ok (.iload_n 2, 1) := by decide +kernel
theorem dX8_sureOnes_5 : decode cX8_sureOnes 5 = .ok (.aload_n 0, 1) := by decide +kernel
theorem dX8_sureOnes_6 : decode cX8_sureOnes 6 = .ok (.getfield 82, 3) := by decide +kernel
theorem dX8_sureOnes_9 : decode cX8_sureOnes 9 = .ok (.if_icmp .ge 79, 3) := by decide +kernel
theorem dX8_sureOnes_12 : decode cX8_sureOnes 12 = .ok (.aload_n 0, 1) := by decide +kernel
theorem dX8_sureOnes_13 : decode cX8_sureOnes 13 = .ok (.iload_n 2, 1) := by decide +kernel
theorem dX8_sureOnes_14 : decode cX8_sureOnes 14 = .ok (.iconst 0, 1) := by decide +kernel
theorem dX8_sureOnes_15 : decode cX8_sureOnes 15 = .ok (.invokevirtual 200, 3) := by decide +kernel
theorem dX8_sureOnes_18 : decode cX8_sureOnes 18 = .ok (.ifCond .lt 7, 3) := by decide +kernel
theorem dX8_sureOnes_21 : decode cX8_sureOnes 21 = .ok (.iconst 1, 1) := by decide +kernel
theorem dX8_sureOnes_22 : decode cX8_sureOnes 22 = .ok (.goto 4, 3) := by decide +kernel
theorem dX8_sureOnes_25 : decode cX8_sureOnes 25 = .ok (.iconst 0, 1) := by decide +kernel
theorem dX8_sureOnes_26 : decode cX8_sureOnes 26 = .ok (.istore_n 3, 1) := by decide +kernel
theorem dX8_sureOnes_27 : decode cX8_sureOnes 27 = .ok (.iconst 1, 1) := by decide +kernel
theorem dX8_sureOnes_28 : decode cX8_sureOnes 28 = .ok (.istore 4, 2) := by decide +kernel
theorem dX8_sureOnes_30 : decode cX8_sureOnes 30 = .ok (.iload 4, 2) := by decide +kernel
theorem dX8_sureOnes_32 : decode cX8_sureOnes 32 = .ok (.iconst 4, 1) := by decide +kernel
theorem dX8_sureOnes_33 : decode cX8_sureOnes 33 = .ok (.if_icmp .ge 35, 3) := by decide +kernel
theorem dX8_sureOnes_36 : decode cX8_sureOnes 36 = .ok (.iload_n 3, 1) := by decide +kernel
theorem dX8_sureOnes_37 : decode cX8_sureOnes 37 = .ok (.ifCond .eq 23, 3) := by decide +kernel
theorem dX8_sureOnes_40 : decode cX8_sureOnes 40 = .ok (.aload_n 0, 1) := by decide +kernel
theorem dX8_sureOnes_41 : decode cX8_sureOnes 41 = .ok (.iload_n 2, 1) := by decide +kernel
theorem dX8_sureOnes_42 : decode cX8_sureOnes 42 = .ok (.iload 4, 2) := by decide +kernel
theorem dX8_sureOnes_44 : decode cX8_sureOnes 44 = .ok (.invokevirtual 200, 3) := by decide +kernel
theorem dX8_sureOnes_47 : decode cX8_sureOnes 47 = .ok (.aload_n 0, 1) := by decide +kernel
theorem dX8_sureOnes_48 : decode cX8_sureOnes 48 = .ok (.iload_n 2, 1) := by decide +kernel
theorem dX8_sureOnes_49 : decode cX8_sureOnes 49 = .ok (.iconst 0, 1) := by decide +kernel
theorem dX8_sureOnes_50 : decode cX8_sureOnes 50 = .ok (.invokevirtual 200, 3) := by decide +kernel
theorem dX8_sureOnes_53 : decode cX8_sureOnes 53 = .ok (.if_icmp .ne 7, 3) := by decide +kernel
theorem dX8_sureOnes_56 : decode cX8_sureOnes 56 = .ok (.iconst 1, 1) := by decide +kernel
theorem dX8_sureOnes_57 : decode cX8_sureOnes 57 = .ok (.goto 4, 3) := by decide +kernel
theorem dX8_sureOnes_60 : decode cX8_sureOnes 60 = .ok (.iconst 0, 1) := by decide +kernel
theorem dX8_sureOnes_61 : decode cX8_sureOnes 61 = .ok (.istore_n 3, 1) := by decide +kernel
theorem dX8_sureOnes_62 : decode cX8_sureOnes 62 = .ok (.iinc 4 1, 3) := by decide +kernel
theorem dX8_sureOnes_65 : decode cX8_sureOnes 65 = .ok (.goto (-35), 3) := by decide +kernel
theorem dX8_sureOnes_68 : decode cX8_sureOnes 68 = .ok (.iload_n 1, 1) := by decide +kernel
theorem dX8_sureOnes_69 : decode cX8_sureOnes 69 = .ok (.iload_n 3, 1) := by decide +kernel
theorem dX8_sureOnes_70 : decode cX8_sureOnes 70 = .ok (.ifCond .eq 9, 3) := by decide +kernel
theorem dX8_sureOnes_73 : decode cX8_sureOnes 73 = .ok (.iconst 1, 1) := by decide +kernel
theorem dX8_sureOnes_74 : decode cX8_sureOnes 74 = .ok (.iload_n 2, 1) := by decide +kernel
theorem dX8_sureOnes_75 : decode cX8_sureOnes 75 = .ok (.ishl, 1) := by decide +kernel
theorem dX8_sureOnes_76 : decode cX8_sureOnes 76 = .ok (.goto 4, 3) := by decide +kernel
theorem dX8_sureOnes_79 : decode cX8_sureOnes 79 = .ok (.iconst 0, 1) := by decide +kernel
theorem dX8_sureOnes_80 : decode cX8_sureOnes 80 = .ok (.ior, 1) := by decide +kernel
theorem dX8_sureOnes_81 : decode cX8_sureOnes 81 = .ok (.istore_n 1, 1) := by decide +kernel
theorem dX8_sureOnes_82 : decode cX8_sureOnes 82 = .ok (.iinc 2 1, 3) := by decide +kernel
theorem dX8_sureOnes_85 : decode cX8_sureOnes 85 = .ok (.goto (-81), 3) := by decide +kernel
theorem dX8_sureOnes_88 : decode cX8_sureOnes 88 = .ok (.iload_n 1, 1) := by decide +kernel
theorem dX8_sureOnes_89 : decode cX8_sureOnes 89 = .ok (.ireturn, 1) := by decide +kernel
theorem dX8_hasRooms_0 : decode cX8_hasRooms 0 = .ok (.iconst 0, 1) := by decide +kernel
theorem dX8_hasRooms_1 : decode cX8_hasRooms 1 = .ok (.istore_n 2, 1) := by decide +kernel
theorem dX8_hasRooms_2 : decode cX8_hasRooms 2 = .ok (.iconst 0, 1) := by decide +kernel
theorem dX8_hasRooms_3 : decode cX8_hasRooms 3 = .ok (.istore_n 3, 1) := by decide +kernel
theorem dX8_hasRooms_4 : decode cX8_hasRooms 4 = .ok (.iload_n 3, 1) := by decide +kernel
theorem dX8_hasRooms_5 : decode cX8_hasRooms 5 = .ok (.aload_n 0, 1) := by decide +kernel
theorem dX8_hasRooms_6 : decode cX8_hasRooms 6 = .ok (.getfield 82, 3) := by decide +kernel
theorem dX8_hasRooms_9 : decode cX8_hasRooms 9 = .ok (.if_icmp .ge 32, 3) := by decide +kernel
theorem dX8_hasRooms_12 : decode cX8_hasRooms 12 = .ok (.iload_n 2, 1) := by decide +kernel
theorem dX8_hasRooms_13 : decode cX8_hasRooms 13 = .ok (.aload_n 0, 1) := by decide +kernel
theorem dX8_hasRooms_14 : decode cX8_hasRooms 14 = .ok (.getfield 38, 3) := by decide +kernel
theorem dX8_hasRooms_17 : decode cX8_hasRooms 17 = .ok (.bipush 15, 2) := by decide +kernel
theorem dX8_hasRooms_19 : decode cX8_hasRooms 19 = .ok (.iload_n 3, 1) := by decide +kernel
theorem dX8_hasRooms_20 : decode cX8_hasRooms 20 = .ok (.iadd, 1) := by decide +kernel
theorem dX8_hasRooms_21 : decode cX8_hasRooms 21 = .ok (.iaload, 1) := by decide +kernel
theorem dX8_hasRooms_22 : decode cX8_hasRooms 22 = .ok (.iload_n 1, 1) := by decide +kernel
theorem dX8_hasRooms_23 : decode cX8_hasRooms 23 = .ok (.if_icmp .ne 9, 3) := by decide +kernel
theorem dX8_hasRooms_26 : decode cX8_hasRooms 26 = .ok (.iconst 1, 1) := by decide +kernel
theorem dX8_hasRooms_27 : decode cX8_hasRooms 27 = .ok (.iload_n 3, 1) := by decide +kernel
theorem dX8_hasRooms_28 : decode cX8_hasRooms 28 = .ok (.ishl, 1) := by decide +kernel
theorem dX8_hasRooms_29 : decode cX8_hasRooms 29 = .ok (.goto 4, 3) := by decide +kernel
theorem dX8_hasRooms_32 : decode cX8_hasRooms 32 = .ok (.iconst 0, 1) := by decide +kernel
theorem dX8_hasRooms_33 : decode cX8_hasRooms 33 = .ok (.ior, 1) := by decide +kernel
theorem dX8_hasRooms_34 : decode cX8_hasRooms 34 = .ok (.istore_n 2, 1) := by decide +kernel
theorem dX8_hasRooms_35 : decode cX8_hasRooms 35 = .ok (.iinc 3 1, 3) := by decide +kernel
theorem dX8_hasRooms_38 : decode cX8_hasRooms 38 = .ok (.goto (-34), 3) := by decide +kernel
theorem dX8_hasRooms_41 : decode cX8_hasRooms 41 = .ok (.iload_n 2, 1) := by decide +kernel
theorem dX8_hasRooms_42 : decode cX8_hasRooms 42 = .ok (.ireturn, 1) := by decide +kernel
theorem dX8_holder_0 : decode cX8_holder 0 = .ok (.iconst (-1), 1) := by decide +kernel
theorem dX8_holder_1 : decode cX8_holder 1 = .ok (.istore_n 1, 1) := by decide +kernel
theorem dX8_holder_2 : decode cX8_holder 2 = .ok (.iconst 0, 1) := by decide +kernel
theorem dX8_holder_3 : decode cX8_holder 3 = .ok (.istore_n 2, 1) := by decide +kernel
theorem dX8_holder_4 : decode cX8_holder 4 = .ok (.iconst 0, 1) := by decide +kernel
theorem dX8_holder_5 : decode cX8_holder 5 = .ok (.istore_n 3, 1) := by decide +kernel
theorem dX8_holder_6 : decode cX8_holder 6 = .ok (.iload_n 3, 1) := by decide +kernel
theorem dX8_holder_7 : decode cX8_holder 7 = .ok (.aload_n 0, 1) := by decide +kernel
theorem dX8_holder_8 : decode cX8_holder 8 = .ok (.getfield 89, 3) := by decide +kernel
theorem dX8_holder_11 : decode cX8_holder 11 = .ok (.if_icmp .ge 44, 3) := by decide +kernel
theorem dX8_holder_14 : decode cX8_holder 14 = .ok (.aload_n 0, 1) := by decide +kernel
theorem dX8_holder_15 : decode cX8_holder 15 = .ok (.iload_n 3, 1) := by decide +kernel
theorem dX8_holder_16 : decode cX8_holder 16 = .ok (.invokevirtual 203, 3) := by decide +kernel
theorem dX8_holder_19 : decode cX8_holder 19 = .ok (.invokestatic 206, 3) := by decide +kernel
theorem dX8_holder_22 : decode cX8_holder 22 = .ok (.istore 4, 2) := by decide +kernel
theorem dX8_holder_24 : decode cX8_holder 24 = .ok (.iload 4, 2) := by decide +kernel
theorem dX8_holder_26 : decode cX8_holder 26 = .ok (.iload_n 2, 1) := by decide +kernel
theorem dX8_holder_27 : decode cX8_holder 27 = .ok (.if_icmp .le 7, 3) := by decide +kernel
theorem dX8_holder_30 : decode cX8_holder 30 = .ok (.iload_n 3, 1) := by decide +kernel
theorem dX8_holder_31 : decode cX8_holder 31 = .ok (.goto 4, 3) := by decide +kernel
theorem dX8_holder_34 : decode cX8_holder 34 = .ok (.iload_n 1, 1) := by decide +kernel
theorem dX8_holder_35 : decode cX8_holder 35 = .ok (.istore_n 1, 1) := by decide +kernel
theorem dX8_holder_36 : decode cX8_holder 36 = .ok (.iload 4, 2) := by decide +kernel
theorem dX8_holder_38 : decode cX8_holder 38 = .ok (.iload_n 2, 1) := by decide +kernel
theorem dX8_holder_39 : decode cX8_holder 39 = .ok (.if_icmp .le 8, 3) := by decide +kernel
theorem dX8_holder_42 : decode cX8_holder 42 = .ok (.iload 4, 2) := by decide +kernel
theorem dX8_holder_44 : decode cX8_holder 44 = .ok (.goto 4, 3) := by decide +kernel
theorem dX8_holder_47 : decode cX8_holder 47 = .ok (.iload_n 2, 1) := by decide +kernel
theorem dX8_holder_48 : decode cX8_holder 48 = .ok (.istore_n 2, 1) := by decide +kernel
theorem dX8_holder_49 : decode cX8_holder 49 = .ok (.iinc 3 1, 3) := by decide +kernel
theorem dX8_holder_52 : decode cX8_holder 52 = .ok (.goto (-46), 3) := by decide +kernel
theorem dX8_holder_55 : decode cX8_holder 55 = .ok (.iload_n 1, 1) := by decide +kernel
theorem dX8_holder_56 : decode cX8_holder 56 = .ok (.ireturn, 1) := by decide +kernel
theorem dX8_told_0 : decode cX8_told 0 = .ok (.iload_n 1, 1) := by decide +kernel
theorem dX8_told_1 : decode cX8_told 1 = .ok (.tableswitch 137 0 13 #[71, 76, 81, 86, 91, 96, 96, 96, 107, 112, 117, 122, 127, 132], 71) := by decide +kernel
theorem dX8_told_72 : decode cX8_told 72 = .ok (.aload_n 0, 1) := by decide +kernel
theorem dX8_told_73 : decode cX8_told 73 = .ok (.getfield 154, 3) := by decide +kernel
theorem dX8_told_76 : decode cX8_told 76 = .ok (.ireturn, 1) := by decide +kernel
theorem dX8_told_77 : decode cX8_told 77 = .ok (.aload_n 0, 1) := by decide +kernel
theorem dX8_told_78 : decode cX8_told 78 = .ok (.getfield 82, 3) := by decide +kernel
theorem dX8_told_81 : decode cX8_told 81 = .ok (.ireturn, 1) := by decide +kernel
theorem dX8_told_82 : decode cX8_told 82 = .ok (.aload_n 0, 1) := by decide +kernel
theorem dX8_told_83 : decode cX8_told 83 = .ok (.getfield 92, 3) := by decide +kernel
theorem dX8_told_86 : decode cX8_told 86 = .ok (.ireturn, 1) := by decide +kernel
theorem dX8_told_87 : decode cX8_told 87 = .ok (.aload_n 0, 1) := by decide +kernel
theorem dX8_told_88 : decode cX8_told 88 = .ok (.getfield 89, 3) := by decide +kernel
theorem dX8_told_91 : decode cX8_told 91 = .ok (.ireturn, 1) := by decide +kernel
theorem dX8_told_92 : decode cX8_told 92 = .ok (.aload_n 0, 1) := by decide +kernel
theorem dX8_told_93 : decode cX8_told 93 = .ok (.getfield 96, 3) := by decide +kernel
theorem dX8_told_96 : decode cX8_told 96 = .ok (.ireturn, 1) := by decide +kernel
theorem dX8_told_97 : decode cX8_told 97 = .ok (.aload_n 0, 1) := by decide +kernel
theorem dX8_told_98 : decode cX8_told 98 = .ok (.getfield 38, 3) := by decide +kernel
theorem dX8_told_101 : decode cX8_told 101 = .ok (.iconst 0, 1) := by decide +kernel
theorem dX8_told_102 : decode cX8_told 102 = .ok (.iload_n 1, 1) := by decide +kernel
theorem dX8_told_103 : decode cX8_told 103 = .ok (.iadd, 1) := by decide +kernel
theorem dX8_told_104 : decode cX8_told 104 = .ok (.iconst 5, 1) := by decide +kernel
theorem dX8_told_105 : decode cX8_told 105 = .ok (.isub, 1) := by decide +kernel
theorem dX8_told_106 : decode cX8_told 106 = .ok (.iaload, 1) := by decide +kernel
theorem dX8_told_107 : decode cX8_told 107 = .ok (.ireturn, 1) := by decide +kernel
theorem dX8_told_108 : decode cX8_told 108 = .ok (.aload_n 0, 1) := by decide +kernel
theorem dX8_told_109 : decode cX8_told 109 = .ok (.invokevirtual 209, 3) := by decide +kernel
theorem dX8_told_112 : decode cX8_told 112 = .ok (.ireturn, 1) := by decide +kernel
theorem dX8_told_113 : decode cX8_told 113 = .ok (.aload_n 0, 1) := by decide +kernel
theorem dX8_told_114 : decode cX8_told 114 = .ok (.invokevirtual 212, 3) := by decide +kernel
theorem dX8_told_117 : decode cX8_told 117 = .ok (.ireturn, 1) := by decide +kernel
theorem dX8_told_118 : decode cX8_told 118 = .ok (.aload_n 0, 1) := by decide +kernel
theorem dX8_told_119 : decode cX8_told 119 = .ok (.invokevirtual 215, 3) := by decide +kernel
theorem dX8_told_122 : decode cX8_told 122 = .ok (.ireturn, 1) := by decide +kernel
theorem dX8_told_123 : decode cX8_told 123 = .ok (.aload_n 0, 1) := by decide +kernel
theorem dX8_told_124 : decode cX8_told 124 = .ok (.getfield 167, 3) := by decide +kernel
theorem dX8_told_127 : decode cX8_told 127 = .ok (.ireturn, 1) := by decide +kernel
theorem dX8_told_128 : decode cX8_told 128 = .ok (.aload_n 0, 1) := by decide +kernel
theorem dX8_told_129 : decode cX8_told 129 = .ok (.getfield 170, 3) := by decide +kernel
theorem dX8_told_132 : decode cX8_told 132 = .ok (.ireturn, 1) := by decide +kernel
theorem dX8_told_133 : decode cX8_told 133 = .ok (.aload_n 0, 1) := by decide +kernel
theorem dX8_told_134 : decode cX8_told 134 = .ok (.getfield 164, 3) := by decide +kernel
theorem dX8_told_137 : decode cX8_told 137 = .ok (.ireturn, 1) := by decide +kernel
theorem dX8_told_138 : decode cX8_told 138 = .ok (.ldc 95, 2) := by decide +kernel
theorem dX8_told_140 : decode cX8_told 140 = .ok (.ireturn, 1) := by decide +kernel
theorem dX8_worthOf_0 : decode cX8_worthOf 0 = .ok (.iconst 0, 1) := by decide +kernel
theorem dX8_worthOf_1 : decode cX8_worthOf 1 = .ok (.istore_n 2, 1) := by decide +kernel
theorem dX8_worthOf_2 : decode cX8_worthOf 2 = .ok (.iconst 0, 1) := by decide +kernel
theorem dX8_worthOf_3 : decode cX8_worthOf 3 = .ok (.istore_n 3, 1) := by decide +kernel
theorem dX8_worthOf_4 : decode cX8_worthOf 4 = .ok (.iload_n 3, 1) := by decide +kernel
theorem dX8_worthOf_5 : decode cX8_worthOf 5 = .ok (.aload_n 0, 1) := by decide +kernel
theorem dX8_worthOf_6 : decode cX8_worthOf 6 = .ok (.getfield 89, 3) := by decide +kernel
theorem dX8_worthOf_9 : decode cX8_worthOf 9 = .ok (.if_icmp .ge 38, 3) := by decide +kernel
theorem dX8_worthOf_12 : decode cX8_worthOf 12 = .ok (.iload_n 2, 1) := by decide +kernel
theorem dX8_worthOf_13 : decode cX8_worthOf 13 = .ok (.aload_n 0, 1) := by decide +kernel
theorem dX8_worthOf_14 : decode cX8_worthOf 14 = .ok (.iload_n 3, 1) := by decide +kernel
theorem dX8_worthOf_15 : decode cX8_worthOf 15 = .ok (.aload_n 0, 1) := by decide +kernel
theorem dX8_worthOf_16 : decode cX8_worthOf 16 = .ok (.getfield 38, 3) := by decide +kernel
theorem dX8_worthOf_19 : decode cX8_worthOf 19 = .ok (.bipush 45, 2) := by decide +kernel
theorem dX8_worthOf_21 : decode cX8_worthOf 21 = .ok (.iload_n 3, 1) := by decide +kernel
theorem dX8_worthOf_22 : decode cX8_worthOf 22 = .ok (.iadd, 1) := by decide +kernel
theorem dX8_worthOf_23 : decode cX8_worthOf 23 = .ok (.iaload, 1) := by decide +kernel
theorem dX8_worthOf_24 : decode cX8_worthOf 24 = .ok (.invokevirtual 185, 3) := by decide +kernel
theorem dX8_worthOf_27 : decode cX8_worthOf 27 = .ok (.iload_n 1, 1) := by decide +kernel
theorem dX8_worthOf_28 : decode cX8_worthOf 28 = .ok (.invokestatic 181, 3) := by decide +kernel
theorem dX8_worthOf_31 : decode cX8_worthOf 31 = .ok (.ifCond .eq 7, 3) := by decide +kernel
theorem dX8_worthOf_34 : decode cX8_worthOf 34 = .ok (.iconst 1, 1) := by decide +kernel
theorem dX8_worthOf_35 : decode cX8_worthOf 35 = .ok (.goto 4, 3) := by decide +kernel
theorem dX8_worthOf_38 : decode cX8_worthOf 38 = .ok (.iconst 0, 1) := by decide +kernel
theorem dX8_worthOf_39 : decode cX8_worthOf 39 = .ok (.iadd, 1) := by decide +kernel
theorem dX8_worthOf_40 : decode cX8_worthOf 40 = .ok (.istore_n 2, 1) := by decide +kernel
theorem dX8_worthOf_41 : decode cX8_worthOf 41 = .ok (.iinc 3 1, 3) := by decide +kernel
theorem dX8_worthOf_44 : decode cX8_worthOf 44 = .ok (.goto (-40), 3) := by decide +kernel
theorem dX8_worthOf_47 : decode cX8_worthOf 47 = .ok (.iload_n 2, 1) := by decide +kernel
theorem dX8_worthOf_48 : decode cX8_worthOf 48 = .ok (.ireturn, 1) := by decide +kernel
theorem dX8_room_0 : decode cX8_room 0 = .ok (.aload_n 0, 1) := by decide +kernel
theorem dX8_room_1 : decode cX8_room 1 = .ok (.iload_n 1, 1) := by decide +kernel
theorem dX8_room_2 : decode cX8_room 2 = .ok (.invokevirtual 218, 3) := by decide +kernel
theorem dX8_room_5 : decode cX8_room 5 = .ok (.ifCond .ne 6, 3) := by decide +kernel
theorem dX8_room_8 : decode cX8_room 8 = .ok (.ldc 222, 2) := by decide +kernel
theorem dX8_room_10 : decode cX8_room 10 = .ok (.ireturn, 1) := by decide +kernel
theorem dX8_room_11 : decode cX8_room 11 = .ok (.iload_n 2, 1) := by decide +kernel
theorem dX8_room_12 : decode cX8_room 12 = .ok (.tableswitch 92 0 5 #[40, 49, 59, 69, 79, 86], 40) := by decide +kernel
theorem dX8_room_52 : decode cX8_room 52 = .ok (.aload_n 0, 1) := by decide +kernel
theorem dX8_room_53 : decode cX8_room 53 = .ok (.getfield 38, 3) := by decide +kernel
theorem dX8_room_56 : decode cX8_room 56 = .ok (.iconst 3, 1) := by decide +kernel
theorem dX8_room_57 : decode cX8_room 57 = .ok (.iload_n 1, 1) := by decide +kernel
theorem dX8_room_58 : decode cX8_room 58 = .ok (.iadd, 1) := by decide +kernel
theorem dX8_room_59 : decode cX8_room 59 = .ok (.iaload, 1) := by decide +kernel
theorem dX8_room_60 : decode cX8_room 60 = .ok (.ireturn, 1) := by decide +kernel
theorem dX8_room_61 : decode cX8_room 61 = .ok (.aload_n 0, 1) := by decide +kernel
theorem dX8_room_62 : decode cX8_room 62 = .ok (.getfield 38, 3) := by decide +kernel
theorem dX8_room_65 : decode cX8_room 65 = .ok (.bipush 9, 2) := by decide +kernel
theorem dX8_room_67 : decode cX8_room 67 = .ok (.iload_n 1, 1) := by decide +kernel
theorem dX8_room_68 : decode cX8_room 68 = .ok (.iadd, 1) := by decide +kernel
theorem dX8_room_69 : decode cX8_room 69 = .ok (.iaload, 1) := by decide +kernel
theorem dX8_room_70 : decode cX8_room 70 = .ok (.ireturn, 1) := by decide +kernel
theorem dX8_room_71 : decode cX8_room 71 = .ok (.aload_n 0, 1) := by decide +kernel
theorem dX8_room_72 : decode cX8_room 72 = .ok (.getfield 38, 3) := by decide +kernel
theorem dX8_room_75 : decode cX8_room 75 = .ok (.bipush 15, 2) := by decide +kernel
theorem dX8_room_77 : decode cX8_room 77 = .ok (.iload_n 1, 1) := by decide +kernel
theorem dX8_room_78 : decode cX8_room 78 = .ok (.iadd, 1) := by decide +kernel
theorem dX8_room_79 : decode cX8_room 79 = .ok (.iaload, 1) := by decide +kernel
theorem dX8_room_80 : decode cX8_room 80 = .ok (.ireturn, 1) := by decide +kernel
theorem dX8_room_81 : decode cX8_room 81 = .ok (.aload_n 0, 1) := by decide +kernel
theorem dX8_room_82 : decode cX8_room 82 = .ok (.getfield 38, 3) := by decide +kernel
theorem dX8_room_85 : decode cX8_room 85 = .ok (.bipush 21, 2) := by decide +kernel
theorem dX8_room_87 : decode cX8_room 87 = .ok (.iload_n 1, 1) := by decide +kernel
theorem dX8_room_88 : decode cX8_room 88 = .ok (.iadd, 1) := by decide +kernel
theorem dX8_room_89 : decode cX8_room 89 = .ok (.iaload, 1) := by decide +kernel
theorem dX8_room_90 : decode cX8_room 90 = .ok (.ireturn, 1) := by decide +kernel
theorem dX8_room_91 : decode cX8_room 91 = .ok (.aload_n 0, 1) := by decide +kernel
theorem dX8_room_92 : decode cX8_room 92 = .ok (.iload_n 1, 1) := by decide +kernel
theorem dX8_room_93 : decode cX8_room 93 = .ok (.iconst 0, 1) := by decide +kernel
theorem dX8_room_94 : decode cX8_room 94 = .ok (.invokevirtual 200, 3) := by decide +kernel
theorem dX8_room_97 : decode cX8_room 97 = .ok (.ireturn, 1) := by decide +kernel
theorem dX8_room_98 : decode cX8_room 98 = .ok (.aload_n 0, 1) := by decide +kernel
theorem dX8_room_99 : decode cX8_room 99 = .ok (.iload_n 1, 1) := by decide +kernel
theorem dX8_room_100 : decode cX8_room 100 = .ok (.invokevirtual 223, 3) := by decide +kernel
theorem dX8_room_103 : decode cX8_room 103 = .ok (.ireturn, 1) := by decide +kernel
theorem dX8_room_104 : decode cX8_room 104 = .ok (.ldc 95, 2) := by decide +kernel
theorem dX8_room_106 : decode cX8_room 106 = .ok (.ireturn, 1) := by decide +kernel
theorem dX8_door_0 : decode cX8_door 0 = .ok (.aload_n 0, 1) := by decide +kernel
theorem dX8_door_1 : decode cX8_door 1 = .ok (.iload_n 1, 1) := by decide +kernel
theorem dX8_door_2 : decode cX8_door 2 = .ok (.invokevirtual 226, 3) := by decide +kernel
theorem dX8_door_5 : decode cX8_door 5 = .ok (.ifCond .ne 6, 3) := by decide +kernel
theorem dX8_door_8 : decode cX8_door 8 = .ok (.ldc 222, 2) := by decide +kernel
theorem dX8_door_10 : decode cX8_door 10 = .ok (.ireturn, 1) := by decide +kernel
theorem dX8_door_11 : decode cX8_door 11 = .ok (.iload_n 2, 1) := by decide +kernel
theorem dX8_door_12 : decode cX8_door 12 = .ok (.ifCond .ne 12, 3) := by decide +kernel
theorem dX8_door_15 : decode cX8_door 15 = .ok (.aload_n 0, 1) := by decide +kernel
theorem dX8_door_16 : decode cX8_door 16 = .ok (.getfield 17, 3) := by decide +kernel
theorem dX8_door_19 : decode cX8_door 19 = .ok (.iload_n 1, 1) := by decide +kernel
theorem dX8_door_20 : decode cX8_door 20 = .ok (.iaload, 1) := by decide +kernel
theorem dX8_door_21 : decode cX8_door 21 = .ok (.goto 33, 3) := by decide +kernel
theorem dX8_door_24 : decode cX8_door 24 = .ok (.iload_n 2, 1) := by decide +kernel
theorem dX8_door_25 : decode cX8_door 25 = .ok (.iconst 1, 1) := by decide +kernel
theorem dX8_door_26 : decode cX8_door 26 = .ok (.if_icmp .ne 12, 3) := by decide +kernel
theorem dX8_door_29 : decode cX8_door 29 = .ok (.aload_n 0, 1) := by decide +kernel
theorem dX8_door_30 : decode cX8_door 30 = .ok (.getfield 20, 3) := by decide +kernel
theorem dX8_door_33 : decode cX8_door 33 = .ok (.iload_n 1, 1) := by decide +kernel
theorem dX8_door_34 : decode cX8_door 34 = .ok (.iaload, 1) := by decide +kernel
theorem dX8_door_35 : decode cX8_door 35 = .ok (.goto 19, 3) := by decide +kernel
theorem dX8_door_38 : decode cX8_door 38 = .ok (.iload_n 2, 1) := by decide +kernel
theorem dX8_door_39 : decode cX8_door 39 = .ok (.iconst 2, 1) := by decide +kernel
theorem dX8_door_40 : decode cX8_door 40 = .ok (.if_icmp .ne 12, 3) := by decide +kernel
theorem dX8_door_43 : decode cX8_door 43 = .ok (.aload_n 0, 1) := by decide +kernel
theorem dX8_door_44 : decode cX8_door 44 = .ok (.getfield 23, 3) := by decide +kernel
theorem dX8_door_47 : decode cX8_door 47 = .ok (.iload_n 1, 1) := by decide +kernel
theorem dX8_door_48 : decode cX8_door 48 = .ok (.iaload, 1) := by decide +kernel
theorem dX8_door_49 : decode cX8_door 49 = .ok (.goto 5, 3) := by decide +kernel
theorem dX8_door_52 : decode cX8_door 52 = .ok (.ldc 95, 2) := by decide +kernel
theorem dX8_door_54 : decode cX8_door 54 = .ok (.ireturn, 1) := by decide +kernel
theorem dX8_heir_0 : decode cX8_heir 0 = .ok (.aload_n 0, 1) := by decide +kernel
theorem dX8_heir_1 : decode cX8_heir 1 = .ok (.iload_n 1, 1) := by decide +kernel
theorem dX8_heir_2 : decode cX8_heir 2 = .ok (.invokevirtual 229, 3) := by decide +kernel
theorem dX8_heir_5 : decode cX8_heir 5 = .ok (.ifCond .ne 6, 3) := by decide +kernel
theorem dX8_heir_8 : decode cX8_heir 8 = .ok (.ldc 222, 2) := by decide +kernel
theorem dX8_heir_10 : decode cX8_heir 10 = .ok (.ireturn, 1) := by decide +kernel
theorem dX8_heir_11 : decode cX8_heir 11 = .ok (.iload_n 2, 1) := by decide +kernel
theorem dX8_heir_12 : decode cX8_heir 12 = .ok (.tableswitch 91 0 5 #[40, 47, 54, 64, 79, 85], 40) := by decide +kernel
theorem dX8_heir_52 : decode cX8_heir 52 = .ok (.aload_n 0, 1) := by decide +kernel
theorem dX8_heir_53 : decode cX8_heir 53 = .ok (.getfield 26, 3) := by decide +kernel
theorem dX8_heir_56 : decode cX8_heir 56 = .ok (.iload_n 1, 1) := by decide +kernel
theorem dX8_heir_57 : decode cX8_heir 57 = .ok (.iaload, 1) := by decide +kernel
theorem dX8_heir_58 : decode cX8_heir 58 = .ok (.ireturn, 1) := by decide +kernel
theorem dX8_heir_59 : decode cX8_heir 59 = .ok (.aload_n 0, 1) := by decide +kernel
theorem dX8_heir_60 : decode cX8_heir 60 = .ok (.getfield 29, 3) := by decide +kernel
theorem dX8_heir_63 : decode cX8_heir 63 = .ok (.iload_n 1, 1) := by decide +kernel
theorem dX8_heir_64 : decode cX8_heir 64 = .ok (.iaload, 1) := by decide +kernel
theorem dX8_heir_65 : decode cX8_heir 65 = .ok (.ireturn, 1) := by decide +kernel
theorem dX8_heir_66 : decode cX8_heir 66 = .ok (.aload_n 0, 1) := by decide +kernel
theorem dX8_heir_67 : decode cX8_heir 67 = .ok (.getfield 38, 3) := by decide +kernel
theorem dX8_heir_70 : decode cX8_heir 70 = .ok (.bipush 45, 2) := by decide +kernel
theorem dX8_heir_72 : decode cX8_heir 72 = .ok (.iload_n 1, 1) := by decide +kernel
theorem dX8_heir_73 : decode cX8_heir 73 = .ok (.iadd, 1) := by decide +kernel
theorem dX8_heir_74 : decode cX8_heir 74 = .ok (.iaload, 1) := by decide +kernel
theorem dX8_heir_75 : decode cX8_heir 75 = .ok (.ireturn, 1) := by decide +kernel
theorem dX8_heir_76 : decode cX8_heir 76 = .ok (.aload_n 0, 1) := by decide +kernel
theorem dX8_heir_77 : decode cX8_heir 77 = .ok (.iload_n 1, 1) := by decide +kernel
theorem dX8_heir_78 : decode cX8_heir 78 = .ok (.aload_n 0, 1) := by decide +kernel
theorem dX8_heir_79 : decode cX8_heir 79 = .ok (.getfield 38, 3) := by decide +kernel
theorem dX8_heir_82 : decode cX8_heir 82 = .ok (.bipush 45, 2) := by decide +kernel
theorem dX8_heir_84 : decode cX8_heir 84 = .ok (.iload_n 1, 1) := by decide +kernel
theorem dX8_heir_85 : decode cX8_heir 85 = .ok (.iadd, 1) := by decide +kernel
theorem dX8_heir_86 : decode cX8_heir 86 = .ok (.iaload, 1) := by decide +kernel
theorem dX8_heir_87 : decode cX8_heir 87 = .ok (.invokevirtual 185, 3) := by decide +kernel
theorem dX8_heir_90 : decode cX8_heir 90 = .ok (.ireturn, 1) := by decide +kernel
theorem dX8_heir_91 : decode cX8_heir 91 = .ok (.aload_n 0, 1) := by decide +kernel
theorem dX8_heir_92 : decode cX8_heir 92 = .ok (.iload_n 1, 1) := by decide +kernel
theorem dX8_heir_93 : decode cX8_heir 93 = .ok (.invokevirtual 232, 3) := by decide +kernel
theorem dX8_heir_96 : decode cX8_heir 96 = .ok (.ireturn, 1) := by decide +kernel
theorem dX8_heir_97 : decode cX8_heir 97 = .ok (.aload_n 0, 1) := by decide +kernel
theorem dX8_heir_98 : decode cX8_heir 98 = .ok (.iload_n 1, 1) := by decide +kernel
theorem dX8_heir_99 : decode cX8_heir 99 = .ok (.invokevirtual 203, 3) := by decide +kernel
theorem dX8_heir_102 : decode cX8_heir 102 = .ok (.ireturn, 1) := by decide +kernel
theorem dX8_heir_103 : decode cX8_heir 103 = .ok (.ldc 95, 2) := by decide +kernel
theorem dX8_heir_105 : decode cX8_heir 105 = .ok (.ireturn, 1) := by decide +kernel
theorem dX8_notes_0 : decode cX8_notes 0 = .ok (.aload_n 0, 1) := by decide +kernel
theorem dX8_notes_1 : decode cX8_notes 1 = .ok (.getfield 164, 3) := by decide +kernel
theorem dX8_notes_4 : decode cX8_notes 4 = .ok (.bipush 30, 2) := by decide +kernel
theorem dX8_notes_6 : decode cX8_notes 6 = .ok (.if_icmp .ne 30, 3) := by decide +kernel
theorem dX8_notes_9 : decode cX8_notes 9 = .ok (.aload_n 0, 1) := by decide +kernel
theorem dX8_notes_10 : decode cX8_notes 10 = .ok (.getfield 41, 3) := by decide +kernel
theorem dX8_notes_13 : decode cX8_notes 13 = .ok (.bipush 51, 2) := by decide +kernel
theorem dX8_notes_15 : decode cX8_notes 15 = .ok (.aload_n 0, 1) := by decide +kernel
theorem dX8_notes_16 : decode cX8_notes 16 = .ok (.getfield 41, 3) := by decide +kernel
theorem dX8_notes_19 : decode cX8_notes 19 = .ok (.iconst 0, 1) := by decide +kernel
theorem dX8_notes_20 : decode cX8_notes 20 = .ok (.sipush 1479, 3) := by decide +kernel
theorem dX8_notes_23 : decode cX8_notes 23 = .ok (.invokestatic 157, 3) := by decide +kernel
theorem dX8_notes_26 : decode cX8_notes 26 = .ok (.aload_n 0, 1) := by decide +kernel
theorem dX8_notes_27 : decode cX8_notes 27 = .ok (.dup, 1) := by decide +kernel
theorem dX8_notes_28 : decode cX8_notes 28 = .ok (.getfield 164, 3) := by decide +kernel
theorem dX8_notes_31 : decode cX8_notes 31 = .ok (.iconst 1, 1) := by decide +kernel
theorem dX8_notes_32 : decode cX8_notes 32 = .ok (.isub, 1) := by decide +kernel
theorem dX8_notes_33 : decode cX8_notes 33 = .ok (.putfield 164, 3) := by decide +kernel
theorem dX8_notes_36 : decode cX8_notes 36 = .ok (.aload_n 0, 1) := by decide +kernel
theorem dX8_notes_37 : decode cX8_notes 37 = .ok (.getfield 38, 3) := by decide +kernel
theorem dX8_notes_40 : decode cX8_notes 40 = .ok (.iconst 0, 1) := by decide +kernel
theorem dX8_notes_41 : decode cX8_notes 41 = .ok (.aload_n 0, 1) := by decide +kernel
theorem dX8_notes_42 : decode cX8_notes 42 = .ok (.getfield 41, 3) := by decide +kernel
theorem dX8_notes_45 : decode cX8_notes 45 = .ok (.bipush 51, 2) := by decide +kernel
theorem dX8_notes_47 : decode cX8_notes 47 = .ok (.aload_n 0, 1) := by decide +kernel
theorem dX8_notes_48 : decode cX8_notes 48 = .ok (.getfield 164, 3) := by decide +kernel
theorem dX8_notes_51 : decode cX8_notes 51 = .ok (.imul, 1) := by decide +kernel
theorem dX8_notes_52 : decode cX8_notes 52 = .ok (.bipush 51, 2) := by decide +kernel
theorem dX8_notes_54 : decode cX8_notes 54 = .ok (.invokestatic 157, 3) := by decide +kernel
theorem dX8_notes_57 : decode cX8_notes 57 = .ok (.aload_n 0, 1) := by decide +kernel
theorem dX8_notes_58 : decode cX8_notes 58 = .ok (.dup, 1) := by decide +kernel
theorem dX8_notes_59 : decode cX8_notes 59 = .ok (.getfield 164, 3) := by decide +kernel
theorem dX8_notes_62 : decode cX8_notes 62 = .ok (.iconst 1, 1) := by decide +kernel
theorem dX8_notes_63 : decode cX8_notes 63 = .ok (.iadd, 1) := by decide +kernel
theorem dX8_notes_64 : decode cX8_notes 64 = .ok (.putfield 164, 3) := by decide +kernel
theorem dX8_notes_67 : decode cX8_notes 67 = .ok (.return_, 1) := by decide +kernel
theorem dX8_say_0 : decode cX8_say 0 = .ok (.aload_n 0, 1) := by decide +kernel
theorem dX8_say_1 : decode cX8_say 1 = .ok (.iload_n 1, 1) := by decide +kernel
theorem dX8_say_2 : decode cX8_say 2 = .ok (.invokevirtual 229, 3) := by decide +kernel
theorem dX8_say_5 : decode cX8_say 5 = .ok (.ifCond .ne 6, 3) := by decide +kernel
theorem dX8_say_8 : decode cX8_say 8 = .ok (.ldc 222, 2) := by decide +kernel
theorem dX8_say_10 : decode cX8_say 10 = .ok (.ireturn, 1) := by decide +kernel
theorem dX8_say_11 : decode cX8_say 11 = .ok (.aload_n 0, 1) := by decide +kernel
theorem dX8_say_12 : decode cX8_say 12 = .ok (.getfield 38, 3) := by decide +kernel
theorem dX8_say_15 : decode cX8_say 15 = .ok (.iconst 2, 1) := by decide +kernel
theorem dX8_say_16 : decode cX8_say 16 = .ok (.iaload, 1) := by decide +kernel
theorem dX8_say_17 : decode cX8_say 17 = .ok (.ldc 235, 2) := by decide +kernel
theorem dX8_say_19 : decode cX8_say 19 = .ok (.if_icmp .lt 6, 3) := by decide +kernel
theorem dX8_say_22 : decode cX8_say 22 = .ok (.ldc 99, 2) := by decide +kernel
theorem dX8_say_24 : decode cX8_say 24 = .ok (.ireturn, 1) := by decide +kernel
theorem dX8_say_25 : decode cX8_say 25 = .ok (.aload_n 0, 1) := by decide +kernel
theorem dX8_say_26 : decode cX8_say 26 = .ok (.iload_n 1, 1) := by decide +kernel
theorem dX8_say_27 : decode cX8_say 27 = .ok (.invokevirtual 232, 3) := by decide +kernel
theorem dX8_say_30 : decode cX8_say 30 = .ok (.istore_n 2, 1) := by decide +kernel
theorem dX8_say_31 : decode cX8_say 31 = .ok (.aload_n 0, 1) := by decide +kernel
theorem dX8_say_32 : decode cX8_say 32 = .ok (.invokevirtual 236, 3) := by decide +kernel
theorem dX8_say_35 : decode cX8_say 35 = .ok (.aload_n 0, 1) := by decide +kernel
theorem dX8_say_36 : decode cX8_say 36 = .ok (.iload_n 1, 1) := by decide +kernel
theorem dX8_say_37 : decode cX8_say 37 = .ok (.invokevirtual 239, 3) := by decide +kernel
theorem dX8_say_40 : decode cX8_say 40 = .ok (.iload_n 2, 1) := by decide +kernel
theorem dX8_say_41 : decode cX8_say 41 = .ok (.ireturn, 1) := by decide +kernel
theorem dX8_behind_0 : decode cX8_behind 0 = .ok (.aload_n 0, 1) := by decide +kernel
theorem dX8_behind_1 : decode cX8_behind 1 = .ok (.getfield 17, 3) := by decide +kernel
theorem dX8_behind_4 : decode cX8_behind 4 = .ok (.iload_n 1, 1) := by decide +kernel
theorem dX8_behind_5 : decode cX8_behind 5 = .ok (.iaload, 1) := by decide +kernel
theorem dX8_behind_6 : decode cX8_behind 6 = .ok (.iload_n 2, 1) := by decide +kernel
theorem dX8_behind_7 : decode cX8_behind 7 = .ok (.if_icmp .ne 12, 3) := by decide +kernel
theorem dX8_behind_10 : decode cX8_behind 10 = .ok (.aload_n 0, 1) := by decide +kernel
theorem dX8_behind_11 : decode cX8_behind 11 = .ok (.getfield 20, 3) := by decide +kernel
theorem dX8_behind_14 : decode cX8_behind 14 = .ok (.iload_n 1, 1) := by decide +kernel
theorem dX8_behind_15 : decode cX8_behind 15 = .ok (.iaload, 1) := by decide +kernel
theorem dX8_behind_16 : decode cX8_behind 16 = .ok (.goto 23, 3) := by decide +kernel
theorem dX8_behind_19 : decode cX8_behind 19 = .ok (.aload_n 0, 1) := by decide +kernel
theorem dX8_behind_20 : decode cX8_behind 20 = .ok (.getfield 20, 3) := by decide +kernel
theorem dX8_behind_23 : decode cX8_behind 23 = .ok (.iload_n 1, 1) := by decide +kernel
theorem dX8_behind_24 : decode cX8_behind 24 = .ok (.iaload, 1) := by decide +kernel
theorem dX8_behind_25 : decode cX8_behind 25 = .ok (.iload_n 2, 1) := by decide +kernel
theorem dX8_behind_26 : decode cX8_behind 26 = .ok (.if_icmp .ne 12, 3) := by decide +kernel
theorem dX8_behind_29 : decode cX8_behind 29 = .ok (.aload_n 0, 1) := by decide +kernel
theorem dX8_behind_30 : decode cX8_behind 30 = .ok (.getfield 17, 3) := by decide +kernel
theorem dX8_behind_33 : decode cX8_behind 33 = .ok (.iload_n 1, 1) := by decide +kernel
theorem dX8_behind_34 : decode cX8_behind 34 = .ok (.iaload, 1) := by decide +kernel
theorem dX8_behind_35 : decode cX8_behind 35 = .ok (.goto 4, 3) := by decide +kernel
theorem dX8_behind_38 : decode cX8_behind 38 = .ok (.iconst (-1), 1) := by decide +kernel
theorem dX8_behind_39 : decode cX8_behind 39 = .ok (.ireturn, 1) := by decide +kernel
theorem dX8_go_0 : decode cX8_go 0 = .ok (.aload_n 0, 1) := by decide +kernel
theorem dX8_go_1 : decode cX8_go 1 = .ok (.iload_n 1, 1) := by decide +kernel
theorem dX8_go_2 : decode cX8_go 2 = .ok (.invokevirtual 229, 3) := by decide +kernel
theorem dX8_go_5 : decode cX8_go 5 = .ok (.ifCond .eq 11, 3) := by decide +kernel
theorem dX8_go_8 : decode cX8_go 8 = .ok (.aload_n 0, 1) := by decide +kernel
theorem dX8_go_9 : decode cX8_go 9 = .ok (.iload_n 2, 1) := by decide +kernel
theorem dX8_go_10 : decode cX8_go 10 = .ok (.invokevirtual 226, 3) := by decide +kernel
theorem dX8_go_13 : decode cX8_go 13 = .ok (.ifCond .ne 6, 3) := by decide +kernel
theorem dX8_go_16 : decode cX8_go 16 = .ok (.ldc 222, 2) := by decide +kernel
theorem dX8_go_18 : decode cX8_go 18 = .ok (.ireturn, 1) := by decide +kernel
theorem dX8_go_19 : decode cX8_go 19 = .ok (.aload_n 0, 1) := by decide +kernel
theorem dX8_go_20 : decode cX8_go 20 = .ok (.iload_n 2, 1) := by decide +kernel
theorem dX8_go_21 : decode cX8_go 21 = .ok (.aload_n 0, 1) := by decide +kernel
theorem dX8_go_22 : decode cX8_go 22 = .ok (.getfield 38, 3) := by decide +kernel
theorem dX8_go_25 : decode cX8_go 25 = .ok (.bipush 45, 2) := by decide +kernel
theorem dX8_go_27 : decode cX8_go 27 = .ok (.iload_n 1, 1) := by decide +kernel
theorem dX8_go_28 : decode cX8_go 28 = .ok (.iadd, 1) := by decide +kernel
theorem dX8_go_29 : decode cX8_go 29 = .ok (.iaload, 1) := by decide +kernel
theorem dX8_go_30 : decode cX8_go 30 = .ok (.invokevirtual 242, 3) := by decide +kernel
theorem dX8_go_33 : decode cX8_go 33 = .ok (.istore_n 3, 1) := by decide +kernel
theorem dX8_go_34 : decode cX8_go 34 = .ok (.iload_n 3, 1) := by decide +kernel
theorem dX8_go_35 : decode cX8_go 35 = .ok (.iconst (-1), 1) := by decide +kernel
theorem dX8_go_36 : decode cX8_go 36 = .ok (.if_icmp .ne 6, 3) := by decide +kernel
theorem dX8_go_39 : decode cX8_go 39 = .ok (.ldc 245, 2) := by decide +kernel
theorem dX8_go_41 : decode cX8_go 41 = .ok (.ireturn, 1) := by decide +kernel
theorem dX8_go_42 : decode cX8_go 42 = .ok (.aload_n 0, 1) := by decide +kernel
theorem dX8_go_43 : decode cX8_go 43 = .ok (.invokevirtual 236, 3) := by decide +kernel
theorem dX8_go_46 : decode cX8_go 46 = .ok (.aload_n 0, 1) := by decide +kernel
theorem dX8_go_47 : decode cX8_go 47 = .ok (.getfield 38, 3) := by decide +kernel
theorem dX8_go_50 : decode cX8_go 50 = .ok (.bipush 45, 2) := by decide +kernel
theorem dX8_go_52 : decode cX8_go 52 = .ok (.iload_n 1, 1) := by decide +kernel
theorem dX8_go_53 : decode cX8_go 53 = .ok (.iadd, 1) := by decide +kernel
theorem dX8_go_54 : decode cX8_go 54 = .ok (.iload_n 3, 1) := by decide +kernel
theorem dX8_go_55 : decode cX8_go 55 = .ok (.iastore, 1) := by decide +kernel
theorem dX8_go_56 : decode cX8_go 56 = .ok (.iload_n 3, 1) := by decide +kernel
theorem dX8_go_57 : decode cX8_go 57 = .ok (.ireturn, 1) := by decide +kernel
theorem dX8_hour_0 : decode cX8_hour 0 = .ok (.iload_n 1, 1) := by decide +kernel
theorem dX8_hour_1 : decode cX8_hour 1 = .ok (.iconst 1, 1) := by decide +kernel
theorem dX8_hour_2 : decode cX8_hour 2 = .ok (.bipush 20, 2) := by decide +kernel
theorem dX8_hour_4 : decode cX8_hour 4 = .ok (.invokestatic 85, 3) := by decide +kernel
theorem dX8_hour_7 : decode cX8_hour 7 = .ok (.ifCond .ne 6, 3) := by decide +kernel
theorem dX8_hour_10 : decode cX8_hour 10 = .ok (.ldc 95, 2) := by decide +kernel
theorem dX8_hour_12 : decode cX8_hour 12 = .ok (.ireturn, 1) := by decide +kernel
theorem dX8_hour_13 : decode cX8_hour 13 = .ok (.aload_n 0, 1) := by decide +kernel
theorem dX8_hour_14 : decode cX8_hour 14 = .ok (.getfield 154, 3) := by decide +kernel
theorem dX8_hour_17 : decode cX8_hour 17 = .ok (.ifCond .ne 6, 3) := by decide +kernel
theorem dX8_hour_20 : decode cX8_hour 20 = .ok (.ldc 245, 2) := by decide +kernel
theorem dX8_hour_22 : decode cX8_hour 22 = .ok (.ireturn, 1) := by decide +kernel
theorem dX8_hour_23 : decode cX8_hour 23 = .ok (.aload_n 0, 1) := by decide +kernel
theorem dX8_hour_24 : decode cX8_hour 24 = .ok (.getfield 38, 3) := by decide +kernel
theorem dX8_hour_27 : decode cX8_hour 27 = .ok (.iconst 1, 1) := by decide +kernel
theorem dX8_hour_28 : decode cX8_hour 28 = .ok (.iaload, 1) := by decide +kernel
theorem dX8_hour_29 : decode cX8_hour 29 = .ok (.sipush 9000, 3) := by decide +kernel
theorem dX8_hour_32 : decode cX8_hour 32 = .ok (.if_icmp .le 6, 3) := by decide +kernel
theorem dX8_hour_35 : decode cX8_hour 35 = .ok (.ldc 99, 2) := by decide +kernel
theorem dX8_hour_37 : decode cX8_hour 37 = .ok (.ireturn, 1) := by decide +kernel
theorem dX8_hour_38 : decode cX8_hour 38 = .ok (.iconst 0, 1) := by decide +kernel
theorem dX8_hour_39 : decode cX8_hour 39 = .ok (.istore_n 2, 1) := by decide +kernel
theorem dX8_hour_40 : decode cX8_hour 40 = .ok (.iload_n 2, 1) := by decide +kernel
theorem dX8_hour_41 : decode cX8_hour 41 = .ok (.iload_n 1, 1) := by decide +kernel
theorem dX8_hour_42 : decode cX8_hour 42 = .ok (.if_icmp .ge 17, 3) := by decide +kernel
theorem dX8_hour_45 : decode cX8_hour 45 = .ok (.aload_n 0, 1) := by decide +kernel
theorem dX8_hour_46 : decode cX8_hour 46 = .ok (.invokevirtual 236, 3) := by decide +kernel
theorem dX8_hour_49 : decode cX8_hour 49 = .ok (.aload_n 0, 1) := by decide +kernel
theorem dX8_hour_50 : decode cX8_hour 50 = .ok (.invokevirtual 246, 3) := by decide +kernel
theorem dX8_hour_53 : decode cX8_hour 53 = .ok (.iinc 2 1, 3) := by decide +kernel
theorem dX8_hour_56 : decode cX8_hour 56 = .ok (.goto (-16), 3) := by decide +kernel
theorem dX8_hour_59 : decode cX8_hour 59 = .ok (.aload_n 0, 1) := by decide +kernel
theorem dX8_hour_60 : decode cX8_hour 60 = .ok (.getfield 38, 3) := by decide +kernel
theorem dX8_hour_63 : decode cX8_hour 63 = .ok (.iconst 0, 1) := by decide +kernel
theorem dX8_hour_64 : decode cX8_hour 64 = .ok (.iaload, 1) := by decide +kernel
theorem dX8_hour_65 : decode cX8_hour 65 = .ok (.ireturn, 1) := by decide +kernel
theorem dX8_out_0 : decode cX8_out 0 = .ok (.aload_n 0, 1) := by decide +kernel
theorem dX8_out_1 : decode cX8_out 1 = .ok (.iload_n 1, 1) := by decide +kernel
theorem dX8_out_2 : decode cX8_out 2 = .ok (.invokevirtual 218, 3) := by decide +kernel
theorem dX8_out_5 : decode cX8_out 5 = .ok (.ifCond .ne 6, 3) := by decide +kernel
theorem dX8_out_8 : decode cX8_out 8 = .ok (.ldc 222, 2) := by decide +kernel
theorem dX8_out_10 : decode cX8_out 10 = .ok (.ireturn, 1) := by decide +kernel
theorem dX8_out_11 : decode cX8_out 11 = .ok (.aload_n 0, 1) := by decide +kernel
theorem dX8_out_12 : decode cX8_out 12 = .ok (.getfield 38, 3) := by decide +kernel
theorem dX8_out_15 : decode cX8_out 15 = .ok (.bipush 9, 2) := by decide +kernel
theorem dX8_out_17 : decode cX8_out 17 = .ok (.iload_n 1, 1) := by decide +kernel
theorem dX8_out_18 : decode cX8_out 18 = .ok (.iadd, 1) := by decide +kernel
theorem dX8_out_19 : decode cX8_out 19 = .ok (.iaload, 1) := by decide +kernel
theorem dX8_out_20 : decode cX8_out 20 = .ok (.iconst 1, 1) := by decide +kernel
theorem dX8_out_21 : decode cX8_out 21 = .ok (.if_icmp .ne 6, 3) := by decide +kernel
theorem dX8_out_24 : decode cX8_out 24 = .ok (.ldc 245, 2) := by decide +kernel
theorem dX8_out_26 : decode cX8_out 26 = .ok (.ireturn, 1) := by decide +kernel
theorem dX8_out_27 : decode cX8_out 27 = .ok (.aload_n 0, 1) := by decide +kernel
theorem dX8_out_28 : decode cX8_out 28 = .ok (.aload_n 0, 1) := by decide +kernel
theorem dX8_out_29 : decode cX8_out 29 = .ok (.getfield 38, 3) := by decide +kernel
theorem dX8_out_32 : decode cX8_out 32 = .ok (.iload_n 1, 1) := by decide +kernel
theorem dX8_out_33 : decode cX8_out 33 = .ok (.aload_n 0, 1) := by decide +kernel
theorem dX8_out_34 : decode cX8_out 34 = .ok (.getfield 38, 3) := by decide +kernel
theorem dX8_out_37 : decode cX8_out 37 = .ok (.iconst 0, 1) := by decide +kernel
theorem dX8_out_38 : decode cX8_out 38 = .ok (.iaload, 1) := by decide +kernel
theorem dX8_out_39 : decode cX8_out 39 = .ok (.invokevirtual 177, 3) := by decide +kernel
theorem dX8_out_42 : decode cX8_out 42 = .ok (.ifCond .eq 7, 3) := by decide +kernel
theorem dX8_out_45 : decode cX8_out 45 = .ok (.iconst 1, 1) := by decide +kernel
theorem dX8_out_46 : decode cX8_out 46 = .ok (.goto 4, 3) := by decide +kernel
theorem dX8_out_49 : decode cX8_out 49 = .ok (.iconst 0, 1) := by decide +kernel
theorem dX8_out_50 : decode cX8_out 50 = .ok (.istore_n 2, 1) := by decide +kernel
theorem dX8_out_51 : decode cX8_out 51 = .ok (.aload_n 0, 1) := by decide +kernel
theorem dX8_out_52 : decode cX8_out 52 = .ok (.invokevirtual 236, 3) := by decide +kernel
theorem dX8_out_55 : decode cX8_out 55 = .ok (.aload_n 0, 1) := by decide +kernel
theorem dX8_out_56 : decode cX8_out 56 = .ok (.getfield 38, 3) := by decide +kernel
theorem dX8_out_59 : decode cX8_out 59 = .ok (.bipush 9, 2) := by decide +kernel
theorem dX8_out_61 : decode cX8_out 61 = .ok (.iload_n 1, 1) := by decide +kernel
theorem dX8_out_62 : decode cX8_out 62 = .ok (.iadd, 1) := by decide +kernel
theorem dX8_out_63 : decode cX8_out 63 = .ok (.iconst 1, 1) := by decide +kernel
theorem dX8_out_64 : decode cX8_out 64 = .ok (.iastore, 1) := by decide +kernel
theorem dX8_out_65 : decode cX8_out 65 = .ok (.iload_n 2, 1) := by decide +kernel
theorem dX8_out_66 : decode cX8_out 66 = .ok (.ireturn, 1) := by decide +kernel
theorem dX8_light_0 : decode cX8_light 0 = .ok (.aload_n 0, 1) := by decide +kernel
theorem dX8_light_1 : decode cX8_light 1 = .ok (.iload_n 1, 1) := by decide +kernel
theorem dX8_light_2 : decode cX8_light 2 = .ok (.invokevirtual 218, 3) := by decide +kernel
theorem dX8_light_5 : decode cX8_light 5 = .ok (.ifCond .ne 6, 3) := by decide +kernel
theorem dX8_light_8 : decode cX8_light 8 = .ok (.ldc 222, 2) := by decide +kernel
theorem dX8_light_10 : decode cX8_light 10 = .ok (.ireturn, 1) := by decide +kernel
theorem dX8_light_11 : decode cX8_light 11 = .ok (.aload_n 0, 1) := by decide +kernel
theorem dX8_light_12 : decode cX8_light 12 = .ok (.getfield 38, 3) := by decide +kernel
theorem dX8_light_15 : decode cX8_light 15 = .ok (.bipush 9, 2) := by decide +kernel
theorem dX8_light_17 : decode cX8_light 17 = .ok (.iload_n 1, 1) := by decide +kernel
theorem dX8_light_18 : decode cX8_light 18 = .ok (.iadd, 1) := by decide +kernel
theorem dX8_light_19 : decode cX8_light 19 = .ok (.iaload, 1) := by decide +kernel
theorem dX8_light_20 : decode cX8_light 20 = .ok (.ifCond .ne 6, 3) := by decide +kernel
theorem dX8_light_23 : decode cX8_light 23 = .ok (.ldc 245, 2) := by decide +kernel
theorem dX8_light_25 : decode cX8_light 25 = .ok (.ireturn, 1) := by decide +kernel
theorem dX8_light_26 : decode cX8_light 26 = .ok (.aload_n 0, 1) := by decide +kernel
theorem dX8_light_27 : decode cX8_light 27 = .ok (.invokevirtual 236, 3) := by decide +kernel
theorem dX8_light_30 : decode cX8_light 30 = .ok (.aload_n 0, 1) := by decide +kernel
theorem dX8_light_31 : decode cX8_light 31 = .ok (.getfield 38, 3) := by decide +kernel
theorem dX8_light_34 : decode cX8_light 34 = .ok (.bipush 9, 2) := by decide +kernel
theorem dX8_light_36 : decode cX8_light 36 = .ok (.iload_n 1, 1) := by decide +kernel
theorem dX8_light_37 : decode cX8_light 37 = .ok (.iadd, 1) := by decide +kernel
theorem dX8_light_38 : decode cX8_light 38 = .ok (.iconst 0, 1) := by decide +kernel
theorem dX8_light_39 : decode cX8_light 39 = .ok (.iastore, 1) := by decide +kernel
theorem dX8_light_40 : decode cX8_light 40 = .ok (.aload_n 0, 1) := by decide +kernel
theorem dX8_light_41 : decode cX8_light 41 = .ok (.aload_n 0, 1) := by decide +kernel
theorem dX8_light_42 : decode cX8_light 42 = .ok (.getfield 38, 3) := by decide +kernel
theorem dX8_light_45 : decode cX8_light 45 = .ok (.iload_n 1, 1) := by decide +kernel
theorem dX8_light_46 : decode cX8_light 46 = .ok (.aload_n 0, 1) := by decide +kernel
theorem dX8_light_47 : decode cX8_light 47 = .ok (.getfield 38, 3) := by decide +kernel
theorem dX8_light_50 : decode cX8_light 50 = .ok (.iconst 0, 1) := by decide +kernel
theorem dX8_light_51 : decode cX8_light 51 = .ok (.iaload, 1) := by decide +kernel
theorem dX8_light_52 : decode cX8_light 52 = .ok (.invokevirtual 177, 3) := by decide +kernel
theorem dX8_light_55 : decode cX8_light 55 = .ok (.ifCond .eq 7, 3) := by decide +kernel
theorem dX8_light_58 : decode cX8_light 58 = .ok (.iconst 1, 1) := by decide +kernel
theorem dX8_light_59 : decode cX8_light 59 = .ok (.goto 4, 3) := by decide +kernel
theorem dX8_light_62 : decode cX8_light 62 = .ok (.iconst 0, 1) := by decide +kernel
theorem dX8_light_63 : decode cX8_light 63 = .ok (.ireturn, 1) := by decide +kernel
theorem dX8_candle_0 : decode cX8_candle 0 = .ok (.aload_n 0, 1) := by decide +kernel
theorem dX8_candle_1 : decode cX8_candle 1 = .ok (.iload_n 1, 1) := by decide +kernel
theorem dX8_candle_2 : decode cX8_candle 2 = .ok (.invokevirtual 218, 3) := by decide +kernel
theorem dX8_candle_5 : decode cX8_candle 5 = .ok (.ifCond .ne 6, 3) := by decide +kernel
theorem dX8_candle_8 : decode cX8_candle 8 = .ok (.ldc 222, 2) := by decide +kernel
theorem dX8_candle_10 : decode cX8_candle 10 = .ok (.ireturn, 1) := by decide +kernel
theorem dX8_candle_11 : decode cX8_candle 11 = .ok (.iload_n 2, 1) := by decide +kernel
theorem dX8_candle_12 : decode cX8_candle 12 = .ok (.iconst 0, 1) := by decide +kernel
theorem dX8_candle_13 : decode cX8_candle 13 = .ok (.bipush 20, 2) := by decide +kernel
theorem dX8_candle_15 : decode cX8_candle 15 = .ok (.invokestatic 85, 3) := by decide +kernel
theorem dX8_candle_18 : decode cX8_candle 18 = .ok (.ifCond .ne 6, 3) := by decide +kernel
theorem dX8_candle_21 : decode cX8_candle 21 = .ok (.ldc 95, 2) := by decide +kernel
theorem dX8_candle_23 : decode cX8_candle 23 = .ok (.ireturn, 1) := by decide +kernel
theorem dX8_candle_24 : decode cX8_candle 24 = .ok (.aload_n 0, 1) := by decide +kernel
theorem dX8_candle_25 : decode cX8_candle 25 = .ok (.getfield 38, 3) := by decide +kernel
theorem dX8_candle_28 : decode cX8_candle 28 = .ok (.iconst 3, 1) := by decide +kernel
theorem dX8_candle_29 : decode cX8_candle 29 = .ok (.iload_n 1, 1) := by decide +kernel
theorem dX8_candle_30 : decode cX8_candle 30 = .ok (.iadd, 1) := by decide +kernel
theorem dX8_candle_31 : decode cX8_candle 31 = .ok (.iaload, 1) := by decide +kernel
theorem dX8_candle_32 : decode cX8_candle 32 = .ok (.istore_n 3, 1) := by decide +kernel
theorem dX8_candle_33 : decode cX8_candle 33 = .ok (.aload_n 0, 1) := by decide +kernel
theorem dX8_candle_34 : decode cX8_candle 34 = .ok (.invokevirtual 236, 3) := by decide +kernel
theorem dX8_candle_37 : decode cX8_candle 37 = .ok (.aload_n 0, 1) := by decide +kernel
theorem dX8_candle_38 : decode cX8_candle 38 = .ok (.getfield 38, 3) := by decide +kernel
theorem dX8_candle_41 : decode cX8_candle 41 = .ok (.iconst 3, 1) := by decide +kernel
theorem dX8_candle_42 : decode cX8_candle 42 = .ok (.iload_n 1, 1) := by decide +kernel
theorem dX8_candle_43 : decode cX8_candle 43 = .ok (.iadd, 1) := by decide +kernel
theorem dX8_candle_44 : decode cX8_candle 44 = .ok (.iload_n 2, 1) := by decide +kernel
theorem dX8_candle_45 : decode cX8_candle 45 = .ok (.iastore, 1) := by decide +kernel
theorem dX8_candle_46 : decode cX8_candle 46 = .ok (.iload_n 3, 1) := by decide +kernel
theorem dX8_candle_47 : decode cX8_candle 47 = .ok (.ireturn, 1) := by decide +kernel
theorem dX8_draw_0 : decode cX8_draw 0 = .ok (.aload_n 0, 1) := by decide +kernel
theorem dX8_draw_1 : decode cX8_draw 1 = .ok (.aload_n 0, 1) := by decide +kernel
theorem dX8_draw_2 : decode cX8_draw 2 = .ok (.getfield 249, 3) := by decide +kernel
theorem dX8_draw_5 : decode cX8_draw 5 = .ok (.ldc2_w 253, 3) := by decide +kernel
theorem dX8_draw_8 : decode cX8_draw 8 = .ok (.lmul, 1) := by decide +kernel
theorem dX8_draw_9 : decode cX8_draw 9 = .ok (.ldc2_w 255, 3) := by decide +kernel
theorem dX8_draw_12 : decode cX8_draw 12 = .ok (.ladd, 1) := by decide +kernel
theorem dX8_draw_13 : decode cX8_draw 13 = .ok (.ldc2_w 257, 3) := by decide +kernel
theorem dX8_draw_16 : decode cX8_draw 16 = .ok (.lrem, 1) := by decide +kernel
theorem dX8_draw_17 : decode cX8_draw 17 = .ok (.putfield 249, 3) := by decide +kernel
theorem dX8_draw_20 : decode cX8_draw 20 = .ok (.aload_n 0, 1) := by decide +kernel
theorem dX8_draw_21 : decode cX8_draw 21 = .ok (.getfield 249, 3) := by decide +kernel
theorem dX8_draw_24 : decode cX8_draw 24 = .ok (.ldc2_w 259, 3) := by decide +kernel
theorem dX8_draw_27 : decode cX8_draw 27 = .ok (.ldiv, 1) := by decide +kernel
theorem dX8_draw_28 : decode cX8_draw 28 = .ok (.iload_n 1, 1) := by decide +kernel
theorem dX8_draw_29 : decode cX8_draw 29 = .ok (.i2l, 1) := by decide +kernel
theorem dX8_draw_30 : decode cX8_draw 30 = .ok (.lrem, 1) := by decide +kernel
theorem dX8_draw_31 : decode cX8_draw 31 = .ok (.l2i, 1) := by decide +kernel
theorem dX8_draw_32 : decode cX8_draw 32 = .ok (.ireturn, 1) := by decide +kernel
theorem dX8_drawn_0 : decode cX8_drawn 0 = .ok (.aload_n 0, 1) := by decide +kernel
theorem dX8_drawn_1 : decode cX8_drawn 1 = .ok (.invokevirtual 236, 3) := by decide +kernel
theorem dX8_drawn_4 : decode cX8_drawn 4 = .ok (.aload_n 0, 1) := by decide +kernel
theorem dX8_drawn_5 : decode cX8_drawn 5 = .ok (.getfield 89, 3) := by decide +kernel
theorem dX8_drawn_8 : decode cX8_drawn 8 = .ok (.ifCond .le 113, 3) := by decide +kernel
theorem dX8_drawn_11 : decode cX8_drawn 11 = .ok (.aload_n 0, 1) := by decide +kernel
theorem dX8_drawn_12 : decode cX8_drawn 12 = .ok (.iconst 4, 1) := by decide +kernel
theorem dX8_drawn_13 : decode cX8_drawn 13 = .ok (.invokevirtual 261, 3) := by decide +kernel
theorem dX8_drawn_16 : decode cX8_drawn 16 = .ok (.istore_n 1, 1) := by decide +kernel
theorem dX8_drawn_17 : decode cX8_drawn 17 = .ok (.aload_n 0, 1) := by decide +kernel
theorem dX8_drawn_18 : decode cX8_drawn 18 = .ok (.aload_n 0, 1) := by decide +kernel
theorem dX8_drawn_19 : decode cX8_drawn 19 = .ok (.getfield 89, 3) := by decide +kernel
theorem dX8_drawn_22 : decode cX8_drawn 22 = .ok (.invokevirtual 261, 3) := by decide +kernel
theorem dX8_drawn_25 : decode cX8_drawn 25 = .ok (.istore_n 2, 1) := by decide +kernel
theorem dX8_drawn_26 : decode cX8_drawn 26 = .ok (.iload_n 1, 1) := by decide +kernel
theorem dX8_drawn_27 : decode cX8_drawn 27 = .ok (.iconst 2, 1) := by decide +kernel
theorem dX8_drawn_28 : decode cX8_drawn 28 = .ok (.if_icmp .ge 11, 3) := by decide +kernel
theorem dX8_drawn_31 : decode cX8_drawn 31 = .ok (.aload_n 0, 1) := by decide +kernel
theorem dX8_drawn_32 : decode cX8_drawn 32 = .ok (.iload_n 2, 1) := by decide +kernel
theorem dX8_drawn_33 : decode cX8_drawn 33 = .ok (.invokevirtual 239, 3) := by decide +kernel
theorem dX8_drawn_36 : decode cX8_drawn 36 = .ok (.goto 85, 3) := by decide +kernel
theorem dX8_drawn_39 : decode cX8_drawn 39 = .ok (.iload_n 1, 1) := by decide +kernel
theorem dX8_drawn_40 : decode cX8_drawn 40 = .ok (.iconst 3, 1) := by decide +kernel
theorem dX8_drawn_41 : decode cX8_drawn 41 = .ok (.if_icmp .ne 24, 3) := by decide +kernel
theorem dX8_drawn_44 : decode cX8_drawn 44 = .ok (.aload_n 0, 1) := by decide +kernel
theorem dX8_drawn_45 : decode cX8_drawn 45 = .ok (.getfield 38, 3) := by decide +kernel
theorem dX8_drawn_48 : decode cX8_drawn 48 = .ok (.bipush 9, 2) := by decide +kernel
theorem dX8_drawn_50 : decode cX8_drawn 50 = .ok (.aload_n 0, 1) := by decide +kernel
theorem dX8_drawn_51 : decode cX8_drawn 51 = .ok (.getfield 38, 3) := by decide +kernel
theorem dX8_drawn_54 : decode cX8_drawn 54 = .ok (.bipush 45, 2) := by decide +kernel
theorem dX8_drawn_56 : decode cX8_drawn 56 = .ok (.iload_n 2, 1) := by decide +kernel
theorem dX8_drawn_57 : decode cX8_drawn 57 = .ok (.iadd, 1) := by decide +kernel
theorem dX8_drawn_58 : decode cX8_drawn 58 = .ok (.iaload, 1) := by decide +kernel
theorem dX8_drawn_59 : decode cX8_drawn 59 = .ok (.iadd, 1) := by decide +kernel
theorem dX8_drawn_60 : decode cX8_drawn 60 = .ok (.iconst 1, 1) := by decide +kernel
theorem dX8_drawn_61 : decode cX8_drawn 61 = .ok (.iastore, 1) := by decide +kernel
theorem dX8_drawn_62 : decode cX8_drawn 62 = .ok (.goto 59, 3) := by decide +kernel
theorem dX8_drawn_65 : decode cX8_drawn 65 = .ok (.aload_n 0, 1) := by decide +kernel
theorem dX8_drawn_66 : decode cX8_drawn 66 = .ok (.getfield 92, 3) := by decide +kernel
theorem dX8_drawn_69 : decode cX8_drawn 69 = .ok (.ifCond .le 52, 3) := by decide +kernel
theorem dX8_drawn_72 : decode cX8_drawn 72 = .ok (.aload_n 0, 1) := by decide +kernel
theorem dX8_drawn_73 : decode cX8_drawn 73 = .ok (.aload_n 0, 1) := by decide +kernel
theorem dX8_drawn_74 : decode cX8_drawn 74 = .ok (.aload_n 0, 1) := by decide +kernel
theorem dX8_drawn_75 : decode cX8_drawn 75 = .ok (.getfield 92, 3) := by decide +kernel
theorem dX8_drawn_78 : decode cX8_drawn 78 = .ok (.invokevirtual 261, 3) := by decide +kernel
theorem dX8_drawn_81 : decode cX8_drawn 81 = .ok (.aload_n 0, 1) := by decide +kernel
theorem dX8_drawn_82 : decode cX8_drawn 82 = .ok (.getfield 38, 3) := by decide +kernel
theorem dX8_drawn_85 : decode cX8_drawn 85 = .ok (.bipush 45, 2) := by decide +kernel
theorem dX8_drawn_87 : decode cX8_drawn 87 = .ok (.iload_n 2, 1) := by decide +kernel
theorem dX8_drawn_88 : decode cX8_drawn 88 = .ok (.iadd, 1) := by decide +kernel
theorem dX8_drawn_89 : decode cX8_drawn 89 = .ok (.iaload, 1) := by decide +kernel
theorem dX8_drawn_90 : decode cX8_drawn 90 = .ok (.invokevirtual 242, 3) := by decide +kernel
theorem dX8_drawn_93 : decode cX8_drawn 93 = .ok (.istore_n 3, 1) := by decide +kernel
theorem dX8_drawn_94 : decode cX8_drawn 94 = .ok (.aload_n 0, 1) := by decide +kernel
theorem dX8_drawn_95 : decode cX8_drawn 95 = .ok (.getfield 38, 3) := by decide +kernel
theorem dX8_drawn_98 : decode cX8_drawn 98 = .ok (.bipush 45, 2) := by decide +kernel
theorem dX8_drawn_100 : decode cX8_drawn 100 = .ok (.iload_n 2, 1) := by decide +kernel
theorem dX8_drawn_101 : decode cX8_drawn 101 = .ok (.iadd, 1) := by decide +kernel
theorem dX8_drawn_102 : decode cX8_drawn 102 = .ok (.iload_n 3, 1) := by decide +kernel
theorem dX8_drawn_103 : decode cX8_drawn 103 = .ok (.iconst (-1), 1) := by decide +kernel
theorem dX8_drawn_104 : decode cX8_drawn 104 = .ok (.if_icmp .ne 15, 3) := by decide +kernel
theorem dX8_drawn_107 : decode cX8_drawn 107 = .ok (.aload_n 0, 1) := by decide +kernel
theorem dX8_drawn_108 : decode cX8_drawn 108 = .ok (.getfield 38, 3) := by decide +kernel
theorem dX8_drawn_111 : decode cX8_drawn 111 = .ok (.bipush 45, 2) := by decide +kernel
theorem dX8_drawn_113 : decode cX8_drawn 113 = .ok (.iload_n 2, 1) := by decide +kernel
theorem dX8_drawn_114 : decode cX8_drawn 114 = .ok (.iadd, 1) := by decide +kernel
theorem dX8_drawn_115 : decode cX8_drawn 115 = .ok (.iaload, 1) := by decide +kernel
theorem dX8_drawn_116 : decode cX8_drawn 116 = .ok (.goto 4, 3) := by decide +kernel
theorem dX8_drawn_119 : decode cX8_drawn 119 = .ok (.iload_n 3, 1) := by decide +kernel
theorem dX8_drawn_120 : decode cX8_drawn 120 = .ok (.iastore, 1) := by decide +kernel
theorem dX8_drawn_121 : decode cX8_drawn 121 = .ok (.aload_n 0, 1) := by decide +kernel
theorem dX8_drawn_122 : decode cX8_drawn 122 = .ok (.invokevirtual 246, 3) := by decide +kernel
theorem dX8_drawn_125 : decode cX8_drawn 125 = .ok (.return_, 1) := by decide +kernel
theorem dX8_drift_0 : decode cX8_drift 0 = .ok (.iload_n 1, 1) := by decide +kernel
theorem dX8_drift_1 : decode cX8_drift 1 = .ok (.iconst 1, 1) := by decide +kernel
theorem dX8_drift_2 : decode cX8_drift 2 = .ok (.bipush 20, 2) := by decide +kernel
theorem dX8_drift_4 : decode cX8_drift 4 = .ok (.invokestatic 85, 3) := by decide +kernel
theorem dX8_drift_7 : decode cX8_drift 7 = .ok (.ifCond .ne 6, 3) := by decide +kernel
theorem dX8_drift_10 : decode cX8_drift 10 = .ok (.ldc 95, 2) := by decide +kernel
theorem dX8_drift_12 : decode cX8_drift 12 = .ok (.ireturn, 1) := by decide +kernel
theorem dX8_drift_13 : decode cX8_drift 13 = .ok (.aload_n 0, 1) := by decide +kernel
theorem dX8_drift_14 : decode cX8_drift 14 = .ok (.getfield 154, 3) := by decide +kernel
theorem dX8_drift_17 : decode cX8_drift 17 = .ok (.ifCond .ne 6, 3) := by decide +kernel
theorem dX8_drift_20 : decode cX8_drift 20 = .ok (.ldc 245, 2) := by decide +kernel
theorem dX8_drift_22 : decode cX8_drift 22 = .ok (.ireturn, 1) := by decide +kernel
theorem dX8_drift_23 : decode cX8_drift 23 = .ok (.aload_n 0, 1) := by decide +kernel
theorem dX8_drift_24 : decode cX8_drift 24 = .ok (.getfield 38, 3) := by decide +kernel
theorem dX8_drift_27 : decode cX8_drift 27 = .ok (.iconst 1, 1) := by decide +kernel
theorem dX8_drift_28 : decode cX8_drift 28 = .ok (.iaload, 1) := by decide +kernel
theorem dX8_drift_29 : decode cX8_drift 29 = .ok (.sipush 9000, 3) := by decide +kernel
theorem dX8_drift_32 : decode cX8_drift 32 = .ok (.if_icmp .le 6, 3) := by decide +kernel
theorem dX8_drift_35 : decode cX8_drift 35 = .ok (.ldc 99, 2) := by decide +kernel
theorem dX8_drift_37 : decode cX8_drift 37 = .ok (.ireturn, 1) := by decide +kernel
theorem dX8_drift_38 : decode cX8_drift 38 = .ok (.iconst 0, 1) := by decide +kernel
theorem dX8_drift_39 : decode cX8_drift 39 = .ok (.istore_n 2, 1) := by decide +kernel
theorem dX8_drift_40 : decode cX8_drift 40 = .ok (.iload_n 2, 1) := by decide +kernel
theorem dX8_drift_41 : decode cX8_drift 41 = .ok (.iload_n 1, 1) := by decide +kernel
theorem dX8_drift_42 : decode cX8_drift 42 = .ok (.if_icmp .ge 13, 3) := by decide +kernel
theorem dX8_drift_45 : decode cX8_drift 45 = .ok (.aload_n 0, 1) := by decide +kernel
theorem dX8_drift_46 : decode cX8_drift 46 = .ok (.invokevirtual 264, 3) := by decide +kernel
theorem dX8_drift_49 : decode cX8_drift 49 = .ok (.iinc 2 1, 3) := by decide +kernel
theorem dX8_drift_52 : decode cX8_drift 52 = .ok (.goto (-12), 3) := by decide +kernel
theorem dX8_drift_55 : decode cX8_drift 55 = .ok (.aload_n 0, 1) := by decide +kernel
theorem dX8_drift_56 : decode cX8_drift 56 = .ok (.getfield 38, 3) := by decide +kernel
theorem dX8_drift_59 : decode cX8_drift 59 = .ok (.iconst 0, 1) := by decide +kernel
theorem dX8_drift_60 : decode cX8_drift 60 = .ok (.iaload, 1) := by decide +kernel
theorem dX8_drift_61 : decode cX8_drift 61 = .ok (.ireturn, 1) := by decide +kernel
theorem dX8_undo_0 : decode cX8_undo 0 = .ok (.iload_n 1, 1) := by decide +kernel
theorem dX8_undo_1 : decode cX8_undo 1 = .ok (.iconst 1, 1) := by decide +kernel
theorem dX8_undo_2 : decode cX8_undo 2 = .ok (.bipush 30, 2) := by decide +kernel
theorem dX8_undo_4 : decode cX8_undo 4 = .ok (.invokestatic 85, 3) := by decide +kernel
theorem dX8_undo_7 : decode cX8_undo 7 = .ok (.ifCond .ne 6, 3) := by decide +kernel
theorem dX8_undo_10 : decode cX8_undo 10 = .ok (.ldc 95, 2) := by decide +kernel
theorem dX8_undo_12 : decode cX8_undo 12 = .ok (.ireturn, 1) := by decide +kernel
theorem dX8_undo_13 : decode cX8_undo 13 = .ok (.iload_n 1, 1) := by decide +kernel
theorem dX8_undo_14 : decode cX8_undo 14 = .ok (.aload_n 0, 1) := by decide +kernel
theorem dX8_undo_15 : decode cX8_undo 15 = .ok (.getfield 164, 3) := by decide +kernel
theorem dX8_undo_18 : decode cX8_undo 18 = .ok (.if_icmp .le 6, 3) := by decide +kernel
theorem dX8_undo_21 : decode cX8_undo 21 = .ok (.ldc 245, 2) := by decide +kernel
theorem dX8_undo_23 : decode cX8_undo 23 = .ok (.ireturn, 1) := by decide +kernel
theorem dX8_undo_24 : decode cX8_undo 24 = .ok (.aload_n 0, 1) := by decide +kernel
theorem dX8_undo_25 : decode cX8_undo 25 = .ok (.dup, 1) := by decide +kernel
theorem dX8_undo_26 : decode cX8_undo 26 = .ok (.getfield 164, 3) := by decide +kernel
theorem dX8_undo_29 : decode cX8_undo 29 = .ok (.iload_n 1, 1) := by decide +kernel
theorem dX8_undo_30 : decode cX8_undo 30 = .ok (.isub, 1) := by decide +kernel
theorem dX8_undo_31 : decode cX8_undo 31 = .ok (.putfield 164, 3) := by decide +kernel
theorem dX8_undo_34 : decode cX8_undo 34 = .ok (.aload_n 0, 1) := by decide +kernel
theorem dX8_undo_35 : decode cX8_undo 35 = .ok (.getfield 41, 3) := by decide +kernel
theorem dX8_undo_38 : decode cX8_undo 38 = .ok (.bipush 51, 2) := by decide +kernel
theorem dX8_undo_40 : decode cX8_undo 40 = .ok (.aload_n 0, 1) := by decide +kernel
theorem dX8_undo_41 : decode cX8_undo 41 = .ok (.getfield 164, 3) := by decide +kernel
theorem dX8_undo_44 : decode cX8_undo 44 = .ok (.imul, 1) := by decide +kernel
theorem dX8_undo_45 : decode cX8_undo 45 = .ok (.aload_n 0, 1) := by decide +kernel
theorem dX8_undo_46 : decode cX8_undo 46 = .ok (.getfield 38, 3) := by decide +kernel
theorem dX8_undo_49 : decode cX8_undo 49 = .ok (.iconst 0, 1) := by decide +kernel
theorem dX8_undo_50 : decode cX8_undo 50 = .ok (.bipush 51, 2) := by decide +kernel
theorem dX8_undo_52 : decode cX8_undo 52 = .ok (.invokestatic 157, 3) := by decide +kernel
theorem dX8_undo_55 : decode cX8_undo 55 = .ok (.aload_n 0, 1) := by decide +kernel
theorem dX8_undo_56 : decode cX8_undo 56 = .ok (.getfield 38, 3) := by decide +kernel
theorem dX8_undo_59 : decode cX8_undo 59 = .ok (.iconst 0, 1) := by decide +kernel
theorem dX8_undo_60 : decode cX8_undo 60 = .ok (.iaload, 1) := by decide +kernel
theorem dX8_undo_61 : decode cX8_undo 61 = .ok (.ireturn, 1) := by decide +kernel
theorem dX8_wall_0 : decode cX8_wall 0 = .ok (.aload_n 0, 1) := by decide +kernel
theorem dX8_wall_1 : decode cX8_wall 1 = .ok (.iload_n 1, 1) := by decide +kernel
theorem dX8_wall_2 : decode cX8_wall 2 = .ok (.invokevirtual 218, 3) := by decide +kernel
theorem dX8_wall_5 : decode cX8_wall 5 = .ok (.ifCond .eq 25, 3) := by decide +kernel
theorem dX8_wall_8 : decode cX8_wall 8 = .ok (.aload_n 0, 1) := by decide +kernel
theorem dX8_wall_9 : decode cX8_wall 9 = .ok (.iload_n 2, 1) := by decide +kernel
theorem dX8_wall_10 : decode cX8_wall 10 = .ok (.invokevirtual 218, 3) := by decide +kernel
theorem dX8_wall_13 : decode cX8_wall 13 = .ok (.ifCond .eq 17, 3) := by decide +kernel
theorem dX8_wall_16 : decode cX8_wall 16 = .ok (.aload_n 0, 1) := by decide +kernel
theorem dX8_wall_17 : decode cX8_wall 17 = .ok (.getfield 32, 3) := by decide +kernel
theorem dX8_wall_20 : decode cX8_wall 20 = .ok (.bipush 6, 2) := by decide +kernel
theorem dX8_wall_22 : decode cX8_wall 22 = .ok (.iload_n 1, 1) := by decide +kernel
theorem dX8_wall_23 : decode cX8_wall 23 = .ok (.imul, 1) := by decide +kernel
theorem dX8_wall_24 : decode cX8_wall 24 = .ok (.iload_n 2, 1) := by decide +kernel
theorem dX8_wall_25 : decode cX8_wall 25 = .ok (.iadd, 1) := by decide +kernel
theorem dX8_wall_26 : decode cX8_wall 26 = .ok (.iaload, 1) := by decide +kernel
theorem dX8_wall_27 : decode cX8_wall 27 = .ok (.goto 5, 3) := by decide +kernel
theorem dX8_wall_30 : decode cX8_wall 30 = .ok (.ldc 222, 2) := by decide +kernel
theorem dX8_wall_32 : decode cX8_wall 32 = .ok (.ireturn, 1) := by decide +kernel
theorem dX8_way_0 : decode cX8_way 0 = .ok (.aload_n 0, 1) := by decide +kernel
theorem dX8_way_1 : decode cX8_way 1 = .ok (.iload_n 1, 1) := by decide +kernel
theorem dX8_way_2 : decode cX8_way 2 = .ok (.invokevirtual 218, 3) := by decide +kernel
theorem dX8_way_5 : decode cX8_way 5 = .ok (.ifCond .eq 11, 3) := by decide +kernel
theorem dX8_way_8 : decode cX8_way 8 = .ok (.aload_n 0, 1) := by decide +kernel
theorem dX8_way_9 : decode cX8_way 9 = .ok (.iload_n 2, 1) := by decide +kernel
theorem dX8_way_10 : decode cX8_way 10 = .ok (.invokevirtual 218, 3) := by decide +kernel
theorem dX8_way_13 : decode cX8_way 13 = .ok (.ifCond .ne 6, 3) := by decide +kernel
theorem dX8_way_16 : decode cX8_way 16 = .ok (.ldc 222, 2) := by decide +kernel
theorem dX8_way_18 : decode cX8_way 18 = .ok (.ireturn, 1) := by decide +kernel
theorem dX8_way_19 : decode cX8_way 19 = .ok (.aload_n 0, 1) := by decide +kernel
theorem dX8_way_20 : decode cX8_way 20 = .ok (.getfield 35, 3) := by decide +kernel
theorem dX8_way_23 : decode cX8_way 23 = .ok (.bipush 6, 2) := by decide +kernel
theorem dX8_way_25 : decode cX8_way 25 = .ok (.iload_n 1, 1) := by decide +kernel
theorem dX8_way_26 : decode cX8_way 26 = .ok (.imul, 1) := by decide +kernel
theorem dX8_way_27 : decode cX8_way 27 = .ok (.iload_n 2, 1) := by decide +kernel
theorem dX8_way_28 : decode cX8_way 28 = .ok (.iadd, 1) := by decide +kernel
theorem dX8_way_29 : decode cX8_way 29 = .ok (.iaload, 1) := by decide +kernel
theorem dX8_way_30 : decode cX8_way 30 = .ok (.istore_n 3, 1) := by decide +kernel
theorem dX8_way_31 : decode cX8_way 31 = .ok (.iload_n 3, 1) := by decide +kernel
theorem dX8_way_32 : decode cX8_way 32 = .ok (.bipush 99, 2) := by decide +kernel
theorem dX8_way_34 : decode cX8_way 34 = .ok (.if_icmp .lt 7, 3) := by decide +kernel
theorem dX8_way_37 : decode cX8_way 37 = .ok (.iconst (-1), 1) := by decide +kernel
theorem dX8_way_38 : decode cX8_way 38 = .ok (.goto 4, 3) := by decide +kernel
theorem dX8_way_41 : decode cX8_way 41 = .ok (.iload_n 3, 1) := by decide +kernel
theorem dX8_way_42 : decode cX8_way 42 = .ok (.ireturn, 1) := by decide +kernel
theorem dX8_at_0 : decode cX8_at 0 = .ok (.sipush 384, 3) := by decide +kernel
theorem dX8_at_3 : decode cX8_at 3 = .ok (.iload_n 0, 1) := by decide +kernel
theorem dX8_at_4 : decode cX8_at 4 = .ok (.imul, 1) := by decide +kernel
theorem dX8_at_5 : decode cX8_at 5 = .ok (.bipush 64, 2) := by decide +kernel
theorem dX8_at_7 : decode cX8_at 7 = .ok (.iload_n 1, 1) := by decide +kernel
theorem dX8_at_8 : decode cX8_at 8 = .ok (.imul, 1) := by decide +kernel
theorem dX8_at_9 : decode cX8_at 9 = .ok (.iadd, 1) := by decide +kernel
theorem dX8_at_10 : decode cX8_at 10 = .ok (.iload_n 2, 1) := by decide +kernel
theorem dX8_at_11 : decode cX8_at 11 = .ok (.iadd, 1) := by decide +kernel
theorem dX8_at_12 : decode cX8_at 12 = .ok (.ireturn, 1) := by decide +kernel
theorem dX8_goesOn_0 : decode cX8_goesOn 0 = .ok (.aload_n 0, 1) := by decide +kernel
theorem dX8_goesOn_1 : decode cX8_goesOn 1 = .ok (.getfield 79, 3) := by decide +kernel
theorem dX8_goesOn_4 : decode cX8_goesOn 4 = .ok (.iload_n 1, 1) := by decide +kernel
theorem dX8_goesOn_5 : decode cX8_goesOn 5 = .ok (.iconst 1, 1) := by decide +kernel
theorem dX8_goesOn_6 : decode cX8_goesOn 6 = .ok (.iadd, 1) := by decide +kernel
theorem dX8_goesOn_7 : decode cX8_goesOn 7 = .ok (.iload_n 2, 1) := by decide +kernel
theorem dX8_goesOn_8 : decode cX8_goesOn 8 = .ok (.iload_n 3, 1) := by decide +kernel
theorem dX8_goesOn_9 : decode cX8_goesOn 9 = .ok (.invokestatic 267, 3) := by decide +kernel
theorem dX8_goesOn_12 : decode cX8_goesOn 12 = .ok (.iaload, 1) := by decide +kernel
theorem dX8_goesOn_13 : decode cX8_goesOn 13 = .ok (.istore 4, 2) := by decide +kernel
theorem dX8_goesOn_15 : decode cX8_goesOn 15 = .ok (.iconst 0, 1) := by decide +kernel
theorem dX8_goesOn_16 : decode cX8_goesOn 16 = .ok (.istore 5, 2) := by decide +kernel
theorem dX8_goesOn_18 : decode cX8_goesOn 18 = .ok (.iload 5, 2) := by decide +kernel
theorem dX8_goesOn_20 : decode cX8_goesOn 20 = .ok (.aload_n 0, 1) := by decide +kernel
theorem dX8_goesOn_21 : decode cX8_goesOn 21 = .ok (.getfield 92, 3) := by decide +kernel
theorem dX8_goesOn_24 : decode cX8_goesOn 24 = .ok (.if_icmp .ge 59, 3) := by decide +kernel
theorem dX8_goesOn_27 : decode cX8_goesOn 27 = .ok (.aload_n 0, 1) := by decide +kernel
theorem dX8_goesOn_28 : decode cX8_goesOn 28 = .ok (.iload 5, 2) := by decide +kernel
theorem dX8_goesOn_30 : decode cX8_goesOn 30 = .ok (.iload_n 2, 1) := by decide +kernel
theorem dX8_goesOn_31 : decode cX8_goesOn 31 = .ok (.invokevirtual 242, 3) := by decide +kernel
theorem dX8_goesOn_34 : decode cX8_goesOn 34 = .ok (.istore 6, 2) := by decide +kernel
theorem dX8_goesOn_36 : decode cX8_goesOn 36 = .ok (.iload 6, 2) := by decide +kernel
theorem dX8_goesOn_38 : decode cX8_goesOn 38 = .ok (.iconst (-1), 1) := by decide +kernel
theorem dX8_goesOn_39 : decode cX8_goesOn 39 = .ok (.if_icmp .eq 38, 3) := by decide +kernel
theorem dX8_goesOn_42 : decode cX8_goesOn 42 = .ok (.aload_n 0, 1) := by decide +kernel
theorem dX8_goesOn_43 : decode cX8_goesOn 43 = .ok (.getfield 79, 3) := by decide +kernel
theorem dX8_goesOn_46 : decode cX8_goesOn 46 = .ok (.iload_n 1, 1) := by decide +kernel
theorem dX8_goesOn_47 : decode cX8_goesOn 47 = .ok (.iconst 1, 1) := by decide +kernel
theorem dX8_goesOn_48 : decode cX8_goesOn 48 = .ok (.iadd, 1) := by decide +kernel
theorem dX8_goesOn_49 : decode cX8_goesOn 49 = .ok (.iload 6, 2) := by decide +kernel
theorem dX8_goesOn_51 : decode cX8_goesOn 51 = .ok (.iload_n 3, 1) := by decide +kernel
theorem dX8_goesOn_52 : decode cX8_goesOn 52 = .ok (.invokestatic 267, 3) := by decide +kernel
theorem dX8_goesOn_55 : decode cX8_goesOn 55 = .ok (.iaload, 1) := by decide +kernel
theorem dX8_goesOn_56 : decode cX8_goesOn 56 = .ok (.iload 4, 2) := by decide +kernel
theorem dX8_goesOn_58 : decode cX8_goesOn 58 = .ok (.if_icmp .ge 19, 3) := by decide +kernel
theorem dX8_goesOn_61 : decode cX8_goesOn 61 = .ok (.aload_n 0, 1) := by decide +kernel
theorem dX8_goesOn_62 : decode cX8_goesOn 62 = .ok (.getfield 79, 3) := by decide +kernel
theorem dX8_goesOn_65 : decode cX8_goesOn 65 = .ok (.iload_n 1, 1) := by decide +kernel
theorem dX8_goesOn_66 : decode cX8_goesOn 66 = .ok (.iconst 1, 1) := by decide +kernel
theorem dX8_goesOn_67 : decode cX8_goesOn 67 = .ok (.iadd, 1) := by decide +kernel
theorem dX8_goesOn_68 : decode cX8_goesOn 68 = .ok (.iload 6, 2) := by decide +kernel
theorem dX8_goesOn_70 : decode cX8_goesOn 70 = .ok (.iload_n 3, 1) := by decide +kernel
theorem dX8_goesOn_71 : decode cX8_goesOn 71 = .ok (.invokestatic 267, 3) := by decide +kernel
theorem dX8_goesOn_74 : decode cX8_goesOn 74 = .ok (.iaload, 1) := by decide +kernel
theorem dX8_goesOn_75 : decode cX8_goesOn 75 = .ok (.istore 4, 2) := by decide +kernel
theorem dX8_goesOn_77 : decode cX8_goesOn 77 = .ok (.iinc 5 1, 3) := by decide +kernel
theorem dX8_goesOn_80 : decode cX8_goesOn 80 = .ok (.goto (-62), 3) := by decide +kernel
theorem dX8_goesOn_83 : decode cX8_goesOn 83 = .ok (.iload 4, 2) := by decide +kernel
theorem dX8_goesOn_85 : decode cX8_goesOn 85 = .ok (.ireturn, 1) := by decide +kernel
theorem dX8_saysIn_0 : decode cX8_saysIn 0 = .ok (.iconst 1, 1) := by decide +kernel
theorem dX8_saysIn_1 : decode cX8_saysIn 1 = .ok (.aload_n 0, 1) := by decide +kernel
theorem dX8_saysIn_2 : decode cX8_saysIn 2 = .ok (.iload_n 2, 1) := by decide +kernel
theorem dX8_saysIn_3 : decode cX8_saysIn 3 = .ok (.iload_n 3, 1) := by decide +kernel
theorem dX8_saysIn_4 : decode cX8_saysIn 4 = .ok (.iload 4, 2) := by decide +kernel
theorem dX8_saysIn_6 : decode cX8_saysIn 6 = .ok (.aload_n 0, 1) := by decide +kernel
theorem dX8_saysIn_7 : decode cX8_saysIn 7 = .ok (.iload_n 1, 1) := by decide +kernel
theorem dX8_saysIn_8 : decode cX8_saysIn 8 = .ok (.iload_n 3, 1) := by decide +kernel
theorem dX8_saysIn_9 : decode cX8_saysIn 9 = .ok (.iload_n 2, 1) := by decide +kernel
theorem dX8_saysIn_10 : decode cX8_saysIn 10 = .ok (.iconst 0, 1) := by decide +kernel
theorem dX8_saysIn_11 : decode cX8_saysIn 11 = .ok (.aload_n 0, 1) := by decide +kernel
theorem dX8_saysIn_12 : decode cX8_saysIn 12 = .ok (.iconst 0, 1) := by decide +kernel
theorem dX8_saysIn_13 : decode cX8_saysIn 13 = .ok (.invokevirtual 189, 3) := by decide +kernel
theorem dX8_saysIn_16 : decode cX8_saysIn 16 = .ok (.iload 4, 2) := by decide +kernel
theorem dX8_saysIn_18 : decode cX8_saysIn 18 = .ok (.ior, 1) := by decide +kernel
theorem dX8_saysIn_19 : decode cX8_saysIn 19 = .ok (.invokevirtual 193, 3) := by decide +kernel
theorem dX8_saysIn_22 : decode cX8_saysIn 22 = .ok (.ior, 1) := by decide +kernel
theorem dX8_saysIn_23 : decode cX8_saysIn 23 = .ok (.invokevirtual 270, 3) := by decide +kernel
theorem dX8_saysIn_26 : decode cX8_saysIn 26 = .ok (.iadd, 1) := by decide +kernel
theorem dX8_saysIn_27 : decode cX8_saysIn 27 = .ok (.ireturn, 1) := by decide +kernel
theorem dX8_laysFew_0 : decode cX8_laysFew 0 = .ok (.iconst 0, 1) := by decide +kernel
theorem dX8_laysFew_1 : decode cX8_laysFew 1 = .ok (.istore_n 3, 1) := by decide +kernel
theorem dX8_laysFew_2 : decode cX8_laysFew 2 = .ok (.iload_n 3, 1) := by decide +kernel
theorem dX8_laysFew_3 : decode cX8_laysFew 3 = .ok (.aload_n 0, 1) := by decide +kernel
theorem dX8_laysFew_4 : decode cX8_laysFew 4 = .ok (.getfield 82, 3) := by decide +kernel
theorem dX8_laysFew_7 : decode cX8_laysFew 7 = .ok (.if_icmp .ge 55, 3) := by decide +kernel
theorem dX8_laysFew_10 : decode cX8_laysFew 10 = .ok (.iconst 0, 1) := by decide +kernel
theorem dX8_laysFew_11 : decode cX8_laysFew 11 = .ok (.istore 4, 2) := by decide +kernel
theorem dX8_laysFew_13 : decode cX8_laysFew 13 = .ok (.iload 4, 2) := by decide +kernel
theorem dX8_laysFew_15 : decode cX8_laysFew 15 = .ok (.bipush 64, 2) := by decide +kernel
theorem dX8_laysFew_17 : decode cX8_laysFew 17 = .ok (.if_icmp .ge 39, 3) := by decide +kernel
theorem dX8_laysFew_20 : decode cX8_laysFew 20 = .ok (.aload_n 0, 1) := by decide +kernel
theorem dX8_laysFew_21 : decode cX8_laysFew 21 = .ok (.getfield 79, 3) := by decide +kernel
theorem dX8_laysFew_24 : decode cX8_laysFew 24 = .ok (.aload_n 0, 1) := by decide +kernel
theorem dX8_laysFew_25 : decode cX8_laysFew 25 = .ok (.getfield 154, 3) := by decide +kernel
theorem dX8_laysFew_28 : decode cX8_laysFew 28 = .ok (.iload_n 3, 1) := by decide +kernel
theorem dX8_laysFew_29 : decode cX8_laysFew 29 = .ok (.iload 4, 2) := by decide +kernel
theorem dX8_laysFew_31 : decode cX8_laysFew 31 = .ok (.invokestatic 267, 3) := by decide +kernel
theorem dX8_laysFew_34 : decode cX8_laysFew 34 = .ok (.iload_n 2, 1) := by decide +kernel
theorem dX8_laysFew_35 : decode cX8_laysFew 35 = .ok (.iload 4, 2) := by decide +kernel
theorem dX8_laysFew_37 : decode cX8_laysFew 37 = .ok (.iconst (-1), 1) := by decide +kernel
theorem dX8_laysFew_38 : decode cX8_laysFew 38 = .ok (.ixor, 1) := by decide +kernel
theorem dX8_laysFew_39 : decode cX8_laysFew 39 = .ok (.iand, 1) := by decide +kernel
theorem dX8_laysFew_40 : decode cX8_laysFew 40 = .ok (.ifCond .ne 7, 3) := by decide +kernel
theorem dX8_laysFew_43 : decode cX8_laysFew 43 = .ok (.iconst 0, 1) := by decide +kernel
theorem dX8_laysFew_44 : decode cX8_laysFew 44 = .ok (.goto 5, 3) := by decide +kernel
theorem dX8_laysFew_47 : decode cX8_laysFew 47 = .ok (.bipush 99, 2) := by decide +kernel
theorem dX8_laysFew_49 : decode cX8_laysFew 49 = .ok (.iastore, 1) := by decide +kernel
theorem dX8_laysFew_50 : decode cX8_laysFew 50 = .ok (.iinc 4 1, 3) := by decide +kernel
theorem dX8_laysFew_53 : decode cX8_laysFew 53 = .ok (.goto (-40), 3) := by decide +kernel
theorem dX8_laysFew_56 : decode cX8_laysFew 56 = .ok (.iinc 3 1, 3) := by decide +kernel
theorem dX8_laysFew_59 : decode cX8_laysFew 59 = .ok (.goto (-57), 3) := by decide +kernel
theorem dX8_laysFew_62 : decode cX8_laysFew 62 = .ok (.aload_n 0, 1) := by decide +kernel
theorem dX8_laysFew_63 : decode cX8_laysFew 63 = .ok (.getfield 154, 3) := by decide +kernel
theorem dX8_laysFew_66 : decode cX8_laysFew 66 = .ok (.iconst 1, 1) := by decide +kernel
theorem dX8_laysFew_67 : decode cX8_laysFew 67 = .ok (.isub, 1) := by decide +kernel
theorem dX8_laysFew_68 : decode cX8_laysFew 68 = .ok (.istore_n 3, 1) := by decide +kernel
theorem dX8_laysFew_69 : decode cX8_laysFew 69 = .ok (.iload_n 3, 1) := by decide +kernel
theorem dX8_laysFew_70 : decode cX8_laysFew 70 = .ok (.aload_n 0, 1) := by decide +kernel
theorem dX8_laysFew_71 : decode cX8_laysFew 71 = .ok (.getfield 38, 3) := by decide +kernel
theorem dX8_laysFew_74 : decode cX8_laysFew 74 = .ok (.iconst 0, 1) := by decide +kernel
theorem dX8_laysFew_75 : decode cX8_laysFew 75 = .ok (.iaload, 1) := by decide +kernel
theorem dX8_laysFew_76 : decode cX8_laysFew 76 = .ok (.if_icmp .lt 93, 3) := by decide +kernel
theorem dX8_laysFew_79 : decode cX8_laysFew 79 = .ok (.iconst 0, 1) := by decide +kernel
theorem dX8_laysFew_80 : decode cX8_laysFew 80 = .ok (.istore 4, 2) := by decide +kernel
theorem dX8_laysFew_82 : decode cX8_laysFew 82 = .ok (.iload 4, 2) := by decide +kernel
theorem dX8_laysFew_84 : decode cX8_laysFew 84 = .ok (.aload_n 0, 1) := by decide +kernel
theorem dX8_laysFew_85 : decode cX8_laysFew 85 = .ok (.getfield 82, 3) := by decide +kernel
theorem dX8_laysFew_88 : decode cX8_laysFew 88 = .ok (.if_icmp .ge 75, 3) := by decide +kernel
theorem dX8_laysFew_91 : decode cX8_laysFew 91 = .ok (.iconst 0, 1) := by decide +kernel
theorem dX8_laysFew_92 : decode cX8_laysFew 92 = .ok (.istore 5, 2) := by decide +kernel
theorem dX8_laysFew_94 : decode cX8_laysFew 94 = .ok (.iload 5, 2) := by decide +kernel
theorem dX8_laysFew_96 : decode cX8_laysFew 96 = .ok (.bipush 64, 2) := by decide +kernel
theorem dX8_laysFew_98 : decode cX8_laysFew 98 = .ok (.if_icmp .ge 59, 3) := by decide +kernel
theorem dX8_laysFew_101 : decode cX8_laysFew 101 = .ok (.aload_n 0, 1) := by decide +kernel
theorem dX8_laysFew_102 : decode cX8_laysFew 102 = .ok (.iload_n 3, 1) := by decide +kernel
theorem dX8_laysFew_103 : decode cX8_laysFew 103 = .ok (.iload 4, 2) := by decide +kernel
theorem dX8_laysFew_105 : decode cX8_laysFew 105 = .ok (.iload 5, 2) := by decide +kernel
theorem dX8_laysFew_107 : decode cX8_laysFew 107 = .ok (.invokevirtual 270, 3) := by decide +kernel
theorem dX8_laysFew_110 : decode cX8_laysFew 110 = .ok (.istore 6, 2) := by decide +kernel
theorem dX8_laysFew_112 : decode cX8_laysFew 112 = .ok (.aload_n 0, 1) := by decide +kernel
theorem dX8_laysFew_113 : decode cX8_laysFew 113 = .ok (.iload_n 1, 1) := by decide +kernel
theorem dX8_laysFew_114 : decode cX8_laysFew 114 = .ok (.iload_n 3, 1) := by decide +kernel
theorem dX8_laysFew_115 : decode cX8_laysFew 115 = .ok (.iload 4, 2) := by decide +kernel
theorem dX8_laysFew_117 : decode cX8_laysFew 117 = .ok (.iload 5, 2) := by decide +kernel
theorem dX8_laysFew_119 : decode cX8_laysFew 119 = .ok (.invokevirtual 273, 3) := by decide +kernel
theorem dX8_laysFew_122 : decode cX8_laysFew 122 = .ok (.istore 7, 2) := by decide +kernel
theorem dX8_laysFew_124 : decode cX8_laysFew 124 = .ok (.aload_n 0, 1) := by decide +kernel
theorem dX8_laysFew_125 : decode cX8_laysFew 125 = .ok (.getfield 79, 3) := by decide +kernel
theorem dX8_laysFew_128 : decode cX8_laysFew 128 = .ok (.iload_n 3, 1) := by decide +kernel
theorem dX8_laysFew_129 : decode cX8_laysFew 129 = .ok (.iload 4, 2) := by decide +kernel
theorem dX8_laysFew_131 : decode cX8_laysFew 131 = .ok (.iload 5, 2) := by decide +kernel
theorem dX8_laysFew_133 : decode cX8_laysFew 133 = .ok (.invokestatic 267, 3) := by decide +kernel
theorem dX8_laysFew_136 : decode cX8_laysFew 136 = .ok (.iload 7, 2) := by decide +kernel
theorem dX8_laysFew_138 : decode cX8_laysFew 138 = .ok (.iload 6, 2) := by decide +kernel
theorem dX8_laysFew_140 : decode cX8_laysFew 140 = .ok (.if_icmp .ge 8, 3) := by decide +kernel
theorem dX8_laysFew_143 : decode cX8_laysFew 143 = .ok (.iload 7, 2) := by decide +kernel
theorem dX8_laysFew_145 : decode cX8_laysFew 145 = .ok (.goto 5, 3) := by decide +kernel
theorem dX8_laysFew_148 : decode cX8_laysFew 148 = .ok (.iload 6, 2) := by decide +kernel
theorem dX8_laysFew_150 : decode cX8_laysFew 150 = .ok (.iastore, 1) := by decide +kernel
theorem dX8_laysFew_151 : decode cX8_laysFew 151 = .ok (.iinc 5 1, 3) := by decide +kernel
theorem dX8_laysFew_154 : decode cX8_laysFew 154 = .ok (.goto (-60), 3) := by decide +kernel
theorem dX8_laysFew_157 : decode cX8_laysFew 157 = .ok (.iinc 4 1, 3) := by decide +kernel
theorem dX8_laysFew_160 : decode cX8_laysFew 160 = .ok (.goto (-78), 3) := by decide +kernel
theorem dX8_laysFew_163 : decode cX8_laysFew 163 = .ok (.iinc 3 (-1), 3) := by decide +kernel
theorem dX8_laysFew_166 : decode cX8_laysFew 166 = .ok (.goto (-97), 3) := by decide +kernel
theorem dX8_laysFew_169 : decode cX8_laysFew 169 = .ok (.return_, 1) := by decide +kernel
theorem dX8_wonOf_0 : decode cX8_wonOf 0 = .ok (.iconst 0, 1) := by decide +kernel
theorem dX8_wonOf_1 : decode cX8_wonOf 1 = .ok (.istore_n 2, 1) := by decide +kernel
theorem dX8_wonOf_2 : decode cX8_wonOf 2 = .ok (.iconst 0, 1) := by decide +kernel
theorem dX8_wonOf_3 : decode cX8_wonOf 3 = .ok (.istore_n 3, 1) := by decide +kernel
theorem dX8_wonOf_4 : decode cX8_wonOf 4 = .ok (.iload_n 3, 1) := by decide +kernel
theorem dX8_wonOf_5 : decode cX8_wonOf 5 = .ok (.aload_n 0, 1) := by decide +kernel
theorem dX8_wonOf_6 : decode cX8_wonOf 6 = .ok (.getfield 82, 3) := by decide +kernel
theorem dX8_wonOf_9 : decode cX8_wonOf 9 = .ok (.if_icmp .ge 29, 3) := by decide +kernel
theorem dX8_wonOf_12 : decode cX8_wonOf 12 = .ok (.iload_n 2, 1) := by decide +kernel
theorem dX8_wonOf_13 : decode cX8_wonOf 13 = .ok (.aload_n 0, 1) := by decide +kernel
theorem dX8_wonOf_14 : decode cX8_wonOf 14 = .ok (.iload_n 3, 1) := by decide +kernel
theorem dX8_wonOf_15 : decode cX8_wonOf 15 = .ok (.iconst 0, 1) := by decide +kernel
theorem dX8_wonOf_16 : decode cX8_wonOf 16 = .ok (.invokevirtual 200, 3) := by decide +kernel
theorem dX8_wonOf_19 : decode cX8_wonOf 19 = .ok (.iload_n 1, 1) := by decide +kernel
theorem dX8_wonOf_20 : decode cX8_wonOf 20 = .ok (.if_icmp .ne 9, 3) := by decide +kernel
theorem dX8_wonOf_23 : decode cX8_wonOf 23 = .ok (.iconst 1, 1) := by decide +kernel
theorem dX8_wonOf_24 : decode cX8_wonOf 24 = .ok (.iload_n 3, 1) := by decide +kernel
theorem dX8_wonOf_25 : decode cX8_wonOf 25 = .ok (.ishl, 1) := by decide +kernel
theorem dX8_wonOf_26 : decode cX8_wonOf 26 = .ok (.goto 4, 3) := by decide +kernel
theorem dX8_wonOf_29 : decode cX8_wonOf 29 = .ok (.iconst 0, 1) := by decide +kernel
theorem dX8_wonOf_30 : decode cX8_wonOf 30 = .ok (.ior, 1) := by decide +kernel
theorem dX8_wonOf_31 : decode cX8_wonOf 31 = .ok (.istore_n 2, 1) := by decide +kernel
theorem dX8_wonOf_32 : decode cX8_wonOf 32 = .ok (.iinc 3 1, 3) := by decide +kernel
theorem dX8_wonOf_35 : decode cX8_wonOf 35 = .ok (.goto (-31), 3) := by decide +kernel
theorem dX8_wonOf_38 : decode cX8_wonOf 38 = .ok (.iload_n 2, 1) := by decide +kernel
theorem dX8_wonOf_39 : decode cX8_wonOf 39 = .ok (.ireturn, 1) := by decide +kernel
theorem dX8_latestOf_0 : decode cX8_latestOf 0 = .ok (.iconst (-1), 1) := by decide +kernel
theorem dX8_latestOf_1 : decode cX8_latestOf 1 = .ok (.istore 4, 2) := by decide +kernel
theorem dX8_latestOf_3 : decode cX8_latestOf 3 = .ok (.aload_n 0, 1) := by decide +kernel
theorem dX8_latestOf_4 : decode cX8_latestOf 4 = .ok (.getfield 38, 3) := by decide +kernel
theorem dX8_latestOf_7 : decode cX8_latestOf 7 = .ok (.iconst 0, 1) := by decide +kernel
theorem dX8_latestOf_8 : decode cX8_latestOf 8 = .ok (.iaload, 1) := by decide +kernel
theorem dX8_latestOf_9 : decode cX8_latestOf 9 = .ok (.istore 5, 2) := by decide +kernel
theorem dX8_latestOf_11 : decode cX8_latestOf 11 = .ok (.iload 5, 2) := by decide +kernel
theorem dX8_latestOf_13 : decode cX8_latestOf 13 = .ok (.aload_n 0, 1) := by decide +kernel
theorem dX8_latestOf_14 : decode cX8_latestOf 14 = .ok (.getfield 154, 3) := by decide +kernel
theorem dX8_latestOf_17 : decode cX8_latestOf 17 = .ok (.if_icmp .ge 94, 3) := by decide +kernel
theorem dX8_latestOf_20 : decode cX8_latestOf 20 = .ok (.iconst 0, 1) := by decide +kernel
theorem dX8_latestOf_21 : decode cX8_latestOf 21 = .ok (.istore 6, 2) := by decide +kernel
theorem dX8_latestOf_23 : decode cX8_latestOf 23 = .ok (.iload 6, 2) := by decide +kernel
theorem dX8_latestOf_25 : decode cX8_latestOf 25 = .ok (.aload_n 0, 1) := by decide +kernel
theorem dX8_latestOf_26 : decode cX8_latestOf 26 = .ok (.getfield 82, 3) := by decide +kernel
theorem dX8_latestOf_29 : decode cX8_latestOf 29 = .ok (.if_icmp .ge 76, 3) := by decide +kernel
theorem dX8_latestOf_32 : decode cX8_latestOf 32 = .ok (.aload_n 0, 1) := by decide +kernel
theorem dX8_latestOf_33 : decode cX8_latestOf 33 = .ok (.getfield 35, 3) := by decide +kernel
theorem dX8_latestOf_36 : decode cX8_latestOf 36 = .ok (.bipush 6, 2) := by decide +kernel
theorem dX8_latestOf_38 : decode cX8_latestOf 38 = .ok (.aload_n 0, 1) := by decide +kernel
theorem dX8_latestOf_39 : decode cX8_latestOf 39 = .ok (.getfield 38, 3) := by decide +kernel
theorem dX8_latestOf_42 : decode cX8_latestOf 42 = .ok (.bipush 45, 2) := by decide +kernel
theorem dX8_latestOf_44 : decode cX8_latestOf 44 = .ok (.iload_n 1, 1) := by decide +kernel
theorem dX8_latestOf_45 : decode cX8_latestOf 45 = .ok (.iadd, 1) := by decide +kernel
theorem dX8_latestOf_46 : decode cX8_latestOf 46 = .ok (.iaload, 1) := by decide +kernel
theorem dX8_latestOf_47 : decode cX8_latestOf 47 = .ok (.imul, 1) := by decide +kernel
theorem dX8_latestOf_48 : decode cX8_latestOf 48 = .ok (.iload 6, 2) := by decide +kernel
theorem dX8_latestOf_50 : decode cX8_latestOf 50 = .ok (.iadd, 1) := by decide +kernel
theorem dX8_latestOf_51 : decode cX8_latestOf 51 = .ok (.iaload, 1) := by decide +kernel
theorem dX8_latestOf_52 : decode cX8_latestOf 52 = .ok (.iload 5, 2) := by decide +kernel
theorem dX8_latestOf_54 : decode cX8_latestOf 54 = .ok (.aload_n 0, 1) := by decide +kernel
theorem dX8_latestOf_55 : decode cX8_latestOf 55 = .ok (.getfield 38, 3) := by decide +kernel
theorem dX8_latestOf_58 : decode cX8_latestOf 58 = .ok (.iconst 0, 1) := by decide +kernel
theorem dX8_latestOf_59 : decode cX8_latestOf 59 = .ok (.iaload, 1) := by decide +kernel
theorem dX8_latestOf_60 : decode cX8_latestOf 60 = .ok (.isub, 1) := by decide +kernel
theorem dX8_latestOf_61 : decode cX8_latestOf 61 = .ok (.if_icmp .gt 7, 3) := by decide +kernel
theorem dX8_latestOf_64 : decode cX8_latestOf 64 = .ok (.iconst 1, 1) := by decide +kernel
theorem dX8_latestOf_65 : decode cX8_latestOf 65 = .ok (.goto 4, 3) := by decide +kernel
theorem dX8_latestOf_68 : decode cX8_latestOf 68 = .ok (.iconst 0, 1) := by decide +kernel
theorem dX8_latestOf_69 : decode cX8_latestOf 69 = .ok (.istore 7, 2) := by decide +kernel
theorem dX8_latestOf_71 : decode cX8_latestOf 71 = .ok (.iload 7, 2) := by decide +kernel
theorem dX8_latestOf_73 : decode cX8_latestOf 73 = .ok (.ifCond .eq 22, 3) := by decide +kernel
