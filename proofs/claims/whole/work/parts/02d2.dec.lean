theorem dX7_init_0 : decode cX7_init 0 = .ok (.aload_n 0, 1) := by decide +kernel
theorem dX7_init_1 : decode cX7_init 1 = .ok (.invokespecial 1, 3) := by decide +kernel
theorem dX7_init_4 : decode cX7_init 4 = .ok (.aload_n 0, 1) := by decide +kernel
theorem dX7_init_5 : decode cX7_init 5 = .ok (.new 7, 3) := by decide +kernel
theorem dX7_init_8 : decode cX7_init 8 = .ok (.dup, 1) := by decide +kernel
theorem dX7_init_9 : decode cX7_init 9 = .ok (.invokespecial 9, 3) := by decide +kernel
theorem dX7_init_12 : decode cX7_init 12 = .ok (.putfield 10, 3) := by decide +kernel
theorem dX7_init_15 : decode cX7_init 15 = .ok (.aload_n 0, 1) := by decide +kernel
theorem dX7_init_16 : decode cX7_init 16 = .ok (.new 16, 3) := by decide +kernel
theorem dX7_init_19 : decode cX7_init 19 = .ok (.dup, 1) := by decide +kernel
theorem dX7_init_20 : decode cX7_init 20 = .ok (.invokespecial 18, 3) := by decide +kernel
theorem dX7_init_23 : decode cX7_init 23 = .ok (.putfield 19, 3) := by decide +kernel
theorem dX7_init_26 : decode cX7_init 26 = .ok (.aload_n 0, 1) := by decide +kernel
theorem dX7_init_27 : decode cX7_init 27 = .ok (.new 16, 3) := by decide +kernel
theorem dX7_init_30 : decode cX7_init 30 = .ok (.dup, 1) := by decide +kernel
theorem dX7_init_31 : decode cX7_init 31 = .ok (.invokespecial 18, 3) := by decide +kernel
theorem dX7_init_34 : decode cX7_init 34 = .ok (.putfield 23, 3) := by decide +kernel
theorem dX7_init_37 : decode cX7_init 37 = .ok (.aload_n 0, 1) := by decide +kernel
theorem dX7_init_38 : decode cX7_init 38 = .ok (.new 26, 3) := by decide +kernel
theorem dX7_init_41 : decode cX7_init 41 = .ok (.dup, 1) := by decide +kernel
theorem dX7_init_42 : decode cX7_init 42 = .ok (.invokespecial 28, 3) := by decide +kernel
theorem dX7_init_45 : decode cX7_init 45 = .ok (.putfield 29, 3) := by decide +kernel
theorem dX7_init_48 : decode cX7_init 48 = .ok (.aload_n 0, 1) := by decide +kernel
theorem dX7_init_49 : decode cX7_init 49 = .ok (.new 33, 3) := by decide +kernel
theorem dX7_init_52 : decode cX7_init 52 = .ok (.dup, 1) := by decide +kernel
theorem dX7_init_53 : decode cX7_init 53 = .ok (.invokespecial 35, 3) := by decide +kernel
theorem dX7_init_56 : decode cX7_init 56 = .ok (.putfield 36, 3) := by decide +kernel
theorem dX7_init_59 : decode cX7_init 59 = .ok (.aload_n 0, 1) := by decide +kernel
theorem dX7_init_60 : decode cX7_init 60 = .ok (.iconst 2, 1) := by decide +kernel
theorem dX7_init_61 : decode cX7_init 61 = .ok (.anewarray 26, 3) := by decide +kernel
theorem dX7_init_64 : decode cX7_init 64 = .ok (.putfield 40, 3) := by decide +kernel
theorem dX7_init_67 : decode cX7_init 67 = .ok (.aload_n 0, 1) := by decide +kernel
theorem dX7_init_68 : decode cX7_init 68 = .ok (.iconst 2, 1) := by decide +kernel
theorem dX7_init_69 : decode cX7_init 69 = .ok (.newarray .int, 2) := by decide +kernel
theorem dX7_init_71 : decode cX7_init 71 = .ok (.putfield 44, 3) := by decide +kernel
theorem dX7_init_74 : decode cX7_init 74 = .ok (.aload_n 0, 1) := by decide +kernel
theorem dX7_init_75 : decode cX7_init 75 = .ok (.iconst 2, 1) := by decide +kernel
theorem dX7_init_76 : decode cX7_init 76 = .ok (.newarray .boolean, 2) := by decide +kernel
theorem dX7_init_78 : decode cX7_init 78 = .ok (.putfield 48, 3) := by decide +kernel
theorem dX7_init_81 : decode cX7_init 81 = .ok (.aload_n 0, 1) := by decide +kernel
theorem dX7_init_82 : decode cX7_init 82 = .ok (.new 52, 3) := by decide +kernel
theorem dX7_init_85 : decode cX7_init 85 = .ok (.dup, 1) := by decide +kernel
theorem dX7_init_86 : decode cX7_init 86 = .ok (.invokespecial 54, 3) := by decide +kernel
theorem dX7_init_89 : decode cX7_init 89 = .ok (.putfield 55, 3) := by decide +kernel
theorem dX7_init_92 : decode cX7_init 92 = .ok (.aload_n 0, 1) := by decide +kernel
theorem dX7_init_93 : decode cX7_init 93 = .ok (.new 59, 3) := by decide +kernel
theorem dX7_init_96 : decode cX7_init 96 = .ok (.dup, 1) := by decide +kernel
theorem dX7_init_97 : decode cX7_init 97 = .ok (.invokespecial 61, 3) := by decide +kernel
theorem dX7_init_100 : decode cX7_init 100 = .ok (.putfield 62, 3) := by decide +kernel
theorem dX7_init_103 : decode cX7_init 103 = .ok (.aload_n 0, 1) := by decide +kernel
theorem dX7_init_104 : decode cX7_init 104 = .ok (.new 66, 3) := by decide +kernel
theorem dX7_init_107 : decode cX7_init 107 = .ok (.dup, 1) := by decide +kernel
theorem dX7_init_108 : decode cX7_init 108 = .ok (.invokespecial 68, 3) := by decide +kernel
theorem dX7_init_111 : decode cX7_init 111 = .ok (.putfield 69, 3) := by decide +kernel
theorem dX7_init_114 : decode cX7_init 114 = .ok (.aload_n 0, 1) := by decide +kernel
theorem dX7_init_115 : decode cX7_init 115 = .ok (.iconst 0, 1) := by decide +kernel
theorem dX7_init_116 : decode cX7_init 116 = .ok (.putfield 73, 3) := by decide +kernel
theorem dX7_init_119 : decode cX7_init 119 = .ok (.aload_n 0, 1) := by decide +kernel
theorem dX7_init_120 : decode cX7_init 120 = .ok (.iconst (-1), 1) := by decide +kernel
theorem dX7_init_121 : decode cX7_init 121 = .ok (.putfield 77, 3) := by decide +kernel
theorem dX7_init_124 : decode cX7_init 124 = .ok (.iconst 0, 1) := by decide +kernel
theorem dX7_init_125 : decode cX7_init 125 = .ok (.istore_n 1, 1) := by decide +kernel
theorem dX7_init_126 : decode cX7_init 126 = .ok (.iload_n 1, 1) := by decide +kernel
theorem dX7_init_127 : decode cX7_init 127 = .ok (.iconst 2, 1) := by decide +kernel
theorem dX7_init_128 : decode cX7_init 128 = .ok (.if_icmp .ge 22, 3) := by decide +kernel
theorem dX7_init_131 : decode cX7_init 131 = .ok (.aload_n 0, 1) := by decide +kernel
theorem dX7_init_132 : decode cX7_init 132 = .ok (.getfield 40, 3) := by decide +kernel
theorem dX7_init_135 : decode cX7_init 135 = .ok (.iload_n 1, 1) := by decide +kernel
theorem dX7_init_136 : decode cX7_init 136 = .ok (.new 26, 3) := by decide +kernel
theorem dX7_init_139 : decode cX7_init 139 = .ok (.dup, 1) := by decide +kernel
theorem dX7_init_140 : decode cX7_init 140 = .ok (.invokespecial 28, 3) := by decide +kernel
theorem dX7_init_143 : decode cX7_init 143 = .ok (.aastore, 1) := by decide +kernel
theorem dX7_init_144 : decode cX7_init 144 = .ok (.iinc 1 1, 3) := by decide +kernel
theorem dX7_init_147 : decode cX7_init 147 = .ok (.goto (-21), 3) := by decide +kernel
theorem dX7_init_150 : decode cX7_init 150 = .ok (.return_, 1) := by decide +kernel
theorem dX7_feed_0 : decode cX7_feed 0 = .ok (.iload_n 1, 1) := by decide +kernel
theorem dX7_feed_1 : decode cX7_feed 1 = .ok (.ifCond .lt 10, 3) := by decide +kernel
theorem dX7_feed_4 : decode cX7_feed 4 = .ok (.iload_n 1, 1) := by decide +kernel
theorem dX7_feed_5 : decode cX7_feed 5 = .ok (.sipush 255, 3) := by decide +kernel
theorem dX7_feed_8 : decode cX7_feed 8 = .ok (.if_icmp .le 6, 3) := by decide +kernel
theorem dX7_feed_11 : decode cX7_feed 11 = .ok (.ldc 80, 2) := by decide +kernel
theorem dX7_feed_13 : decode cX7_feed 13 = .ok (.ireturn, 1) := by decide +kernel
theorem dX7_feed_14 : decode cX7_feed 14 = .ok (.aload_n 0, 1) := by decide +kernel
theorem dX7_feed_15 : decode cX7_feed 15 = .ok (.getfield 10, 3) := by decide +kernel
theorem dX7_feed_18 : decode cX7_feed 18 = .ok (.iload_n 1, 1) := by decide +kernel
theorem dX7_feed_19 : decode cX7_feed 19 = .ok (.invokevirtual 81, 3) := by decide +kernel
theorem dX7_feed_22 : decode cX7_feed 22 = .ok (.ifCond .eq 13, 3) := by decide +kernel
theorem dX7_feed_25 : decode cX7_feed 25 = .ok (.aload_n 0, 1) := by decide +kernel
theorem dX7_feed_26 : decode cX7_feed 26 = .ok (.getfield 10, 3) := by decide +kernel
theorem dX7_feed_29 : decode cX7_feed 29 = .ok (.getfield 85, 3) := by decide +kernel
theorem dX7_feed_32 : decode cX7_feed 32 = .ok (.goto 5, 3) := by decide +kernel
theorem dX7_feed_35 : decode cX7_feed 35 = .ok (.ldc 88, 2) := by decide +kernel
theorem dX7_feed_37 : decode cX7_feed 37 = .ok (.ireturn, 1) := by decide +kernel
theorem dX7_manor_0 : decode cX7_manor 0 = .ok (.aload_n 0, 1) := by decide +kernel
theorem dX7_manor_1 : decode cX7_manor 1 = .ok (.getfield 10, 3) := by decide +kernel
theorem dX7_manor_4 : decode cX7_manor 4 = .ok (.aload_n 0, 1) := by decide +kernel
theorem dX7_manor_5 : decode cX7_manor 5 = .ok (.getfield 23, 3) := by decide +kernel
theorem dX7_manor_8 : decode cX7_manor 8 = .ok (.invokevirtual 89, 3) := by decide +kernel
theorem dX7_manor_11 : decode cX7_manor 11 = .ok (.aload_n 0, 1) := by decide +kernel
theorem dX7_manor_12 : decode cX7_manor 12 = .ok (.getfield 10, 3) := by decide +kernel
theorem dX7_manor_15 : decode cX7_manor 15 = .ok (.iconst 0, 1) := by decide +kernel
theorem dX7_manor_16 : decode cX7_manor 16 = .ok (.putfield 85, 3) := by decide +kernel
theorem dX7_manor_19 : decode cX7_manor 19 = .ok (.aload_n 0, 1) := by decide +kernel
theorem dX7_manor_20 : decode cX7_manor 20 = .ok (.aload_n 0, 1) := by decide +kernel
theorem dX7_manor_21 : decode cX7_manor 21 = .ok (.getfield 10, 3) := by decide +kernel
theorem dX7_manor_24 : decode cX7_manor 24 = .ok (.getfield 93, 3) := by decide +kernel
theorem dX7_manor_27 : decode cX7_manor 27 = .ok (.putfield 77, 3) := by decide +kernel
theorem dX7_manor_30 : decode cX7_manor 30 = .ok (.aload_n 0, 1) := by decide +kernel
theorem dX7_manor_31 : decode cX7_manor 31 = .ok (.getfield 10, 3) := by decide +kernel
theorem dX7_manor_34 : decode cX7_manor 34 = .ok (.getfield 96, 3) := by decide +kernel
theorem dX7_manor_37 : decode cX7_manor 37 = .ok (.ifCond .eq 14, 3) := by decide +kernel
theorem dX7_manor_40 : decode cX7_manor 40 = .ok (.bipush (-10), 2) := by decide +kernel
theorem dX7_manor_42 : decode cX7_manor 42 = .ok (.aload_n 0, 1) := by decide +kernel
theorem dX7_manor_43 : decode cX7_manor 43 = .ok (.getfield 10, 3) := by decide +kernel
theorem dX7_manor_46 : decode cX7_manor 46 = .ok (.getfield 96, 3) := by decide +kernel
theorem dX7_manor_49 : decode cX7_manor 49 = .ok (.isub, 1) := by decide +kernel
theorem dX7_manor_50 : decode cX7_manor 50 = .ok (.ireturn, 1) := by decide +kernel
theorem dX7_manor_51 : decode cX7_manor 51 = .ok (.aload_n 0, 1) := by decide +kernel
theorem dX7_manor_52 : decode cX7_manor 52 = .ok (.getfield 19, 3) := by decide +kernel
theorem dX7_manor_55 : decode cX7_manor 55 = .ok (.astore_n 1, 1) := by decide +kernel
theorem dX7_manor_56 : decode cX7_manor 56 = .ok (.aload_n 0, 1) := by decide +kernel
theorem dX7_manor_57 : decode cX7_manor 57 = .ok (.aload_n 0, 1) := by decide +kernel
theorem dX7_manor_58 : decode cX7_manor 58 = .ok (.getfield 23, 3) := by decide +kernel
theorem dX7_manor_61 : decode cX7_manor 61 = .ok (.putfield 19, 3) := by decide +kernel
theorem dX7_manor_64 : decode cX7_manor 64 = .ok (.aload_n 0, 1) := by decide +kernel
theorem dX7_manor_65 : decode cX7_manor 65 = .ok (.aload_n 1, 1) := by decide +kernel
theorem dX7_manor_66 : decode cX7_manor 66 = .ok (.putfield 23, 3) := by decide +kernel
theorem dX7_manor_69 : decode cX7_manor 69 = .ok (.aload_n 0, 1) := by decide +kernel
theorem dX7_manor_70 : decode cX7_manor 70 = .ok (.getfield 19, 3) := by decide +kernel
theorem dX7_manor_73 : decode cX7_manor 73 = .ok (.invokevirtual 99, 3) := by decide +kernel
theorem dX7_manor_76 : decode cX7_manor 76 = .ok (.aload_n 0, 1) := by decide +kernel
theorem dX7_manor_77 : decode cX7_manor 77 = .ok (.getfield 29, 3) := by decide +kernel
theorem dX7_manor_80 : decode cX7_manor 80 = .ok (.aload_n 0, 1) := by decide +kernel
theorem dX7_manor_81 : decode cX7_manor 81 = .ok (.getfield 19, 3) := by decide +kernel
theorem dX7_manor_84 : decode cX7_manor 84 = .ok (.invokevirtual 102, 3) := by decide +kernel
theorem dX7_manor_87 : decode cX7_manor 87 = .ok (.aload_n 0, 1) := by decide +kernel
theorem dX7_manor_88 : decode cX7_manor 88 = .ok (.getfield 36, 3) := by decide +kernel
theorem dX7_manor_91 : decode cX7_manor 91 = .ok (.invokevirtual 105, 3) := by decide +kernel
theorem dX7_manor_94 : decode cX7_manor 94 = .ok (.aload_n 0, 1) := by decide +kernel
theorem dX7_manor_95 : decode cX7_manor 95 = .ok (.invokevirtual 108, 3) := by decide +kernel
theorem dX7_manor_98 : decode cX7_manor 98 = .ok (.aload_n 0, 1) := by decide +kernel
theorem dX7_manor_99 : decode cX7_manor 99 = .ok (.getfield 62, 3) := by decide +kernel
theorem dX7_manor_102 : decode cX7_manor 102 = .ok (.iconst 0, 1) := by decide +kernel
theorem dX7_manor_103 : decode cX7_manor 103 = .ok (.putfield 111, 3) := by decide +kernel
theorem dX7_manor_106 : decode cX7_manor 106 = .ok (.aload_n 0, 1) := by decide +kernel
theorem dX7_manor_107 : decode cX7_manor 107 = .ok (.getfield 69, 3) := by decide +kernel
theorem dX7_manor_110 : decode cX7_manor 110 = .ok (.iconst 0, 1) := by decide +kernel
theorem dX7_manor_111 : decode cX7_manor 111 = .ok (.putfield 114, 3) := by decide +kernel
theorem dX7_manor_114 : decode cX7_manor 114 = .ok (.aload_n 0, 1) := by decide +kernel
theorem dX7_manor_115 : decode cX7_manor 115 = .ok (.getfield 19, 3) := by decide +kernel
theorem dX7_manor_118 : decode cX7_manor 118 = .ok (.getfield 115, 3) := by decide +kernel
theorem dX7_manor_121 : decode cX7_manor 121 = .ok (.ireturn, 1) := by decide +kernel
theorem dX7_fault_0 : decode cX7_fault 0 = .ok (.aload_n 0, 1) := by decide +kernel
theorem dX7_fault_1 : decode cX7_fault 1 = .ok (.getfield 77, 3) := by decide +kernel
theorem dX7_fault_4 : decode cX7_fault 4 = .ok (.ireturn, 1) := by decide +kernel
theorem dX7_told_0 : decode cX7_told 0 = .ok (.iload_n 1, 1) := by decide +kernel
theorem dX7_told_1 : decode cX7_told 1 = .ok (.tableswitch 202 0 13 #[71, 79, 87, 95, 103, 111, 119, 127, 135, 154, 166, 178, 186, 194], 71) := by decide +kernel
theorem dX7_told_72 : decode cX7_told 72 = .ok (.aload_n 0, 1) := by decide +kernel
theorem dX7_told_73 : decode cX7_told 73 = .ok (.getfield 19, 3) := by decide +kernel
theorem dX7_told_76 : decode cX7_told 76 = .ok (.getfield 118, 3) := by decide +kernel
theorem dX7_told_79 : decode cX7_told 79 = .ok (.ireturn, 1) := by decide +kernel
theorem dX7_told_80 : decode cX7_told 80 = .ok (.aload_n 0, 1) := by decide +kernel
theorem dX7_told_81 : decode cX7_told 81 = .ok (.getfield 19, 3) := by decide +kernel
theorem dX7_told_84 : decode cX7_told 84 = .ok (.getfield 121, 3) := by decide +kernel
theorem dX7_told_87 : decode cX7_told 87 = .ok (.ireturn, 1) := by decide +kernel
theorem dX7_told_88 : decode cX7_told 88 = .ok (.aload_n 0, 1) := by decide +kernel
theorem dX7_told_89 : decode cX7_told 89 = .ok (.getfield 19, 3) := by decide +kernel
theorem dX7_told_92 : decode cX7_told 92 = .ok (.getfield 124, 3) := by decide +kernel
theorem dX7_told_95 : decode cX7_told 95 = .ok (.ireturn, 1) := by decide +kernel
theorem dX7_told_96 : decode cX7_told 96 = .ok (.aload_n 0, 1) := by decide +kernel
theorem dX7_told_97 : decode cX7_told 97 = .ok (.getfield 19, 3) := by decide +kernel
theorem dX7_told_100 : decode cX7_told 100 = .ok (.getfield 115, 3) := by decide +kernel
theorem dX7_told_103 : decode cX7_told 103 = .ok (.ireturn, 1) := by decide +kernel
theorem dX7_told_104 : decode cX7_told 104 = .ok (.aload_n 0, 1) := by decide +kernel
theorem dX7_told_105 : decode cX7_told 105 = .ok (.getfield 10, 3) := by decide +kernel
theorem dX7_told_108 : decode cX7_told 108 = .ok (.getfield 85, 3) := by decide +kernel
theorem dX7_told_111 : decode cX7_told 111 = .ok (.ireturn, 1) := by decide +kernel
theorem dX7_told_112 : decode cX7_told 112 = .ok (.aload_n 0, 1) := by decide +kernel
theorem dX7_told_113 : decode cX7_told 113 = .ok (.getfield 29, 3) := by decide +kernel
theorem dX7_told_116 : decode cX7_told 116 = .ok (.getfield 127, 3) := by decide +kernel
theorem dX7_told_119 : decode cX7_told 119 = .ok (.ireturn, 1) := by decide +kernel
theorem dX7_told_120 : decode cX7_told 120 = .ok (.aload_n 0, 1) := by decide +kernel
theorem dX7_told_121 : decode cX7_told 121 = .ok (.getfield 29, 3) := by decide +kernel
theorem dX7_told_124 : decode cX7_told 124 = .ok (.getfield 130, 3) := by decide +kernel
theorem dX7_told_127 : decode cX7_told 127 = .ok (.ireturn, 1) := by decide +kernel
theorem dX7_told_128 : decode cX7_told 128 = .ok (.aload_n 0, 1) := by decide +kernel
theorem dX7_told_129 : decode cX7_told 129 = .ok (.getfield 29, 3) := by decide +kernel
theorem dX7_told_132 : decode cX7_told 132 = .ok (.getfield 133, 3) := by decide +kernel
theorem dX7_told_135 : decode cX7_told 135 = .ok (.ireturn, 1) := by decide +kernel
theorem dX7_told_136 : decode cX7_told 136 = .ok (.aload_n 0, 1) := by decide +kernel
theorem dX7_told_137 : decode cX7_told 137 = .ok (.getfield 29, 3) := by decide +kernel
theorem dX7_told_140 : decode cX7_told 140 = .ok (.aload_n 0, 1) := by decide +kernel
theorem dX7_told_141 : decode cX7_told 141 = .ok (.getfield 19, 3) := by decide +kernel
theorem dX7_told_144 : decode cX7_told 144 = .ok (.aload_n 0, 1) := by decide +kernel
theorem dX7_told_145 : decode cX7_told 145 = .ok (.getfield 29, 3) := by decide +kernel
theorem dX7_told_148 : decode cX7_told 148 = .ok (.getfield 127, 3) := by decide +kernel
theorem dX7_told_151 : decode cX7_told 151 = .ok (.invokevirtual 136, 3) := by decide +kernel
theorem dX7_told_154 : decode cX7_told 154 = .ok (.ireturn, 1) := by decide +kernel
theorem dX7_told_155 : decode cX7_told 155 = .ok (.aload_n 0, 1) := by decide +kernel
theorem dX7_told_156 : decode cX7_told 156 = .ok (.getfield 29, 3) := by decide +kernel
theorem dX7_told_159 : decode cX7_told 159 = .ok (.aload_n 0, 1) := by decide +kernel
theorem dX7_told_160 : decode cX7_told 160 = .ok (.getfield 19, 3) := by decide +kernel
theorem dX7_told_163 : decode cX7_told 163 = .ok (.invokevirtual 140, 3) := by decide +kernel
theorem dX7_told_166 : decode cX7_told 166 = .ok (.ireturn, 1) := by decide +kernel
theorem dX7_told_167 : decode cX7_told 167 = .ok (.aload_n 0, 1) := by decide +kernel
theorem dX7_told_168 : decode cX7_told 168 = .ok (.getfield 29, 3) := by decide +kernel
theorem dX7_told_171 : decode cX7_told 171 = .ok (.aload_n 0, 1) := by decide +kernel
theorem dX7_told_172 : decode cX7_told 172 = .ok (.getfield 19, 3) := by decide +kernel
theorem dX7_told_175 : decode cX7_told 175 = .ok (.invokevirtual 144, 3) := by decide +kernel
theorem dX7_told_178 : decode cX7_told 178 = .ok (.ireturn, 1) := by decide +kernel
theorem dX7_told_179 : decode cX7_told 179 = .ok (.aload_n 0, 1) := by decide +kernel
theorem dX7_told_180 : decode cX7_told 180 = .ok (.getfield 62, 3) := by decide +kernel
theorem dX7_told_183 : decode cX7_told 183 = .ok (.getfield 111, 3) := by decide +kernel
theorem dX7_told_186 : decode cX7_told 186 = .ok (.ireturn, 1) := by decide +kernel
theorem dX7_told_187 : decode cX7_told 187 = .ok (.aload_n 0, 1) := by decide +kernel
theorem dX7_told_188 : decode cX7_told 188 = .ok (.getfield 69, 3) := by decide +kernel
theorem dX7_told_191 : decode cX7_told 191 = .ok (.getfield 114, 3) := by decide +kernel
theorem dX7_told_194 : decode cX7_told 194 = .ok (.ireturn, 1) := by decide +kernel
theorem dX7_told_195 : decode cX7_told 195 = .ok (.aload_n 0, 1) := by decide +kernel
theorem dX7_told_196 : decode cX7_told 196 = .ok (.getfield 36, 3) := by decide +kernel
theorem dX7_told_199 : decode cX7_told 199 = .ok (.getfield 147, 3) := by decide +kernel
theorem dX7_told_202 : decode cX7_told 202 = .ok (.ireturn, 1) := by decide +kernel
theorem dX7_told_203 : decode cX7_told 203 = .ok (.ldc 80, 2) := by decide +kernel
theorem dX7_told_205 : decode cX7_told 205 = .ok (.ireturn, 1) := by decide +kernel
theorem dX7_room_0 : decode cX7_room 0 = .ok (.aload_n 0, 1) := by decide +kernel
theorem dX7_room_1 : decode cX7_room 1 = .ok (.getfield 19, 3) := by decide +kernel
theorem dX7_room_4 : decode cX7_room 4 = .ok (.iload_n 1, 1) := by decide +kernel
theorem dX7_room_5 : decode cX7_room 5 = .ok (.invokevirtual 148, 3) := by decide +kernel
theorem dX7_room_8 : decode cX7_room 8 = .ok (.ifCond .ne 6, 3) := by decide +kernel
theorem dX7_room_11 : decode cX7_room 11 = .ok (.ldc 151, 2) := by decide +kernel
theorem dX7_room_13 : decode cX7_room 13 = .ok (.ireturn, 1) := by decide +kernel
theorem dX7_room_14 : decode cX7_room 14 = .ok (.iload_n 2, 1) := by decide +kernel
theorem dX7_room_15 : decode cX7_room 15 = .ok (.tableswitch 109 0 5 #[37, 47, 64, 74, 86, 96], 37) := by decide +kernel
theorem dX7_room_52 : decode cX7_room 52 = .ok (.aload_n 0, 1) := by decide +kernel
theorem dX7_room_53 : decode cX7_room 53 = .ok (.getfield 29, 3) := by decide +kernel
theorem dX7_room_56 : decode cX7_room 56 = .ok (.getfield 152, 3) := by decide +kernel
theorem dX7_room_59 : decode cX7_room 59 = .ok (.iload_n 1, 1) := by decide +kernel
theorem dX7_room_60 : decode cX7_room 60 = .ok (.iaload, 1) := by decide +kernel
theorem dX7_room_61 : decode cX7_room 61 = .ok (.ireturn, 1) := by decide +kernel
theorem dX7_room_62 : decode cX7_room 62 = .ok (.aload_n 0, 1) := by decide +kernel
theorem dX7_room_63 : decode cX7_room 63 = .ok (.getfield 29, 3) := by decide +kernel
theorem dX7_room_66 : decode cX7_room 66 = .ok (.iload_n 1, 1) := by decide +kernel
theorem dX7_room_67 : decode cX7_room 67 = .ok (.invokevirtual 155, 3) := by decide +kernel
theorem dX7_room_70 : decode cX7_room 70 = .ok (.ifCond .eq 7, 3) := by decide +kernel
theorem dX7_room_73 : decode cX7_room 73 = .ok (.iconst 1, 1) := by decide +kernel
theorem dX7_room_74 : decode cX7_room 74 = .ok (.goto 4, 3) := by decide +kernel
theorem dX7_room_77 : decode cX7_room 77 = .ok (.iconst 0, 1) := by decide +kernel
theorem dX7_room_78 : decode cX7_room 78 = .ok (.ireturn, 1) := by decide +kernel
theorem dX7_room_79 : decode cX7_room 79 = .ok (.aload_n 0, 1) := by decide +kernel
theorem dX7_room_80 : decode cX7_room 80 = .ok (.getfield 29, 3) := by decide +kernel
theorem dX7_room_83 : decode cX7_room 83 = .ok (.getfield 158, 3) := by decide +kernel
theorem dX7_room_86 : decode cX7_room 86 = .ok (.iload_n 1, 1) := by decide +kernel
theorem dX7_room_87 : decode cX7_room 87 = .ok (.iaload, 1) := by decide +kernel
theorem dX7_room_88 : decode cX7_room 88 = .ok (.ireturn, 1) := by decide +kernel
theorem dX7_room_89 : decode cX7_room 89 = .ok (.aload_n 0, 1) := by decide +kernel
theorem dX7_room_90 : decode cX7_room 90 = .ok (.getfield 29, 3) := by decide +kernel
theorem dX7_room_93 : decode cX7_room 93 = .ok (.getfield 161, 3) := by decide +kernel
theorem dX7_room_96 : decode cX7_room 96 = .ok (.iconst 0, 1) := by decide +kernel
theorem dX7_room_97 : decode cX7_room 97 = .ok (.aaload, 1) := by decide +kernel
theorem dX7_room_98 : decode cX7_room 98 = .ok (.iload_n 1, 1) := by decide +kernel
theorem dX7_room_99 : decode cX7_room 99 = .ok (.iaload, 1) := by decide +kernel
theorem dX7_room_100 : decode cX7_room 100 = .ok (.ireturn, 1) := by decide +kernel
theorem dX7_room_101 : decode cX7_room 101 = .ok (.aload_n 0, 1) := by decide +kernel
theorem dX7_room_102 : decode cX7_room 102 = .ok (.getfield 29, 3) := by decide +kernel
theorem dX7_room_105 : decode cX7_room 105 = .ok (.iload_n 1, 1) := by decide +kernel
theorem dX7_room_106 : decode cX7_room 106 = .ok (.iconst 0, 1) := by decide +kernel
theorem dX7_room_107 : decode cX7_room 107 = .ok (.invokevirtual 165, 3) := by decide +kernel
theorem dX7_room_110 : decode cX7_room 110 = .ok (.ireturn, 1) := by decide +kernel
theorem dX7_room_111 : decode cX7_room 111 = .ok (.aload_n 0, 1) := by decide +kernel
theorem dX7_room_112 : decode cX7_room 112 = .ok (.getfield 29, 3) := by decide +kernel
theorem dX7_room_115 : decode cX7_room 115 = .ok (.aload_n 0, 1) := by decide +kernel
theorem dX7_room_116 : decode cX7_room 116 = .ok (.getfield 19, 3) := by decide +kernel
theorem dX7_room_119 : decode cX7_room 119 = .ok (.iload_n 1, 1) := by decide +kernel
theorem dX7_room_120 : decode cX7_room 120 = .ok (.invokevirtual 169, 3) := by decide +kernel
theorem dX7_room_123 : decode cX7_room 123 = .ok (.ireturn, 1) := by decide +kernel
theorem dX7_room_124 : decode cX7_room 124 = .ok (.ldc 80, 2) := by decide +kernel
theorem dX7_room_126 : decode cX7_room 126 = .ok (.ireturn, 1) := by decide +kernel
theorem dX7_door_0 : decode cX7_door 0 = .ok (.aload_n 0, 1) := by decide +kernel
theorem dX7_door_1 : decode cX7_door 1 = .ok (.getfield 19, 3) := by decide +kernel
theorem dX7_door_4 : decode cX7_door 4 = .ok (.iload_n 1, 1) := by decide +kernel
theorem dX7_door_5 : decode cX7_door 5 = .ok (.invokevirtual 172, 3) := by decide +kernel
theorem dX7_door_8 : decode cX7_door 8 = .ok (.ifCond .ne 6, 3) := by decide +kernel
theorem dX7_door_11 : decode cX7_door 11 = .ok (.ldc 151, 2) := by decide +kernel
theorem dX7_door_13 : decode cX7_door 13 = .ok (.ireturn, 1) := by decide +kernel
theorem dX7_door_14 : decode cX7_door 14 = .ok (.iload_n 2, 1) := by decide +kernel
theorem dX7_door_15 : decode cX7_door 15 = .ok (.tableswitch 55 0 2 #[25, 35, 45], 25) := by decide +kernel
theorem dX7_door_40 : decode cX7_door 40 = .ok (.aload_n 0, 1) := by decide +kernel
theorem dX7_door_41 : decode cX7_door 41 = .ok (.getfield 19, 3) := by decide +kernel
theorem dX7_door_44 : decode cX7_door 44 = .ok (.getfield 175, 3) := by decide +kernel
theorem dX7_door_47 : decode cX7_door 47 = .ok (.iload_n 1, 1) := by decide +kernel
theorem dX7_door_48 : decode cX7_door 48 = .ok (.iaload, 1) := by decide +kernel
theorem dX7_door_49 : decode cX7_door 49 = .ok (.ireturn, 1) := by decide +kernel
theorem dX7_door_50 : decode cX7_door 50 = .ok (.aload_n 0, 1) := by decide +kernel
theorem dX7_door_51 : decode cX7_door 51 = .ok (.getfield 19, 3) := by decide +kernel
theorem dX7_door_54 : decode cX7_door 54 = .ok (.getfield 178, 3) := by decide +kernel
theorem dX7_door_57 : decode cX7_door 57 = .ok (.iload_n 1, 1) := by decide +kernel
theorem dX7_door_58 : decode cX7_door 58 = .ok (.iaload, 1) := by decide +kernel
theorem dX7_door_59 : decode cX7_door 59 = .ok (.ireturn, 1) := by decide +kernel
theorem dX7_door_60 : decode cX7_door 60 = .ok (.aload_n 0, 1) := by decide +kernel
theorem dX7_door_61 : decode cX7_door 61 = .ok (.getfield 19, 3) := by decide +kernel
theorem dX7_door_64 : decode cX7_door 64 = .ok (.getfield 181, 3) := by decide +kernel
theorem dX7_door_67 : decode cX7_door 67 = .ok (.iload_n 1, 1) := by decide +kernel
theorem dX7_door_68 : decode cX7_door 68 = .ok (.iaload, 1) := by decide +kernel
theorem dX7_door_69 : decode cX7_door 69 = .ok (.ireturn, 1) := by decide +kernel
theorem dX7_door_70 : decode cX7_door 70 = .ok (.ldc 80, 2) := by decide +kernel
theorem dX7_door_72 : decode cX7_door 72 = .ok (.ireturn, 1) := by decide +kernel
theorem dX7_heir_0 : decode cX7_heir 0 = .ok (.aload_n 0, 1) := by decide +kernel
theorem dX7_heir_1 : decode cX7_heir 1 = .ok (.getfield 19, 3) := by decide +kernel
theorem dX7_heir_4 : decode cX7_heir 4 = .ok (.iload_n 1, 1) := by decide +kernel
theorem dX7_heir_5 : decode cX7_heir 5 = .ok (.invokevirtual 184, 3) := by decide +kernel
theorem dX7_heir_8 : decode cX7_heir 8 = .ok (.ifCond .ne 6, 3) := by decide +kernel
theorem dX7_heir_11 : decode cX7_heir 11 = .ok (.ldc 151, 2) := by decide +kernel
theorem dX7_heir_13 : decode cX7_heir 13 = .ok (.ireturn, 1) := by decide +kernel
theorem dX7_heir_14 : decode cX7_heir 14 = .ok (.iload_n 2, 1) := by decide +kernel
theorem dX7_heir_15 : decode cX7_heir 15 = .ok (.tableswitch 106 0 5 #[37, 47, 57, 67, 80, 93], 37) := by decide +kernel
theorem dX7_heir_52 : decode cX7_heir 52 = .ok (.aload_n 0, 1) := by decide +kernel
theorem dX7_heir_53 : decode cX7_heir 53 = .ok (.getfield 19, 3) := by decide +kernel
theorem dX7_heir_56 : decode cX7_heir 56 = .ok (.getfield 187, 3) := by decide +kernel
theorem dX7_heir_59 : decode cX7_heir 59 = .ok (.iload_n 1, 1) := by decide +kernel
theorem dX7_heir_60 : decode cX7_heir 60 = .ok (.iaload, 1) := by decide +kernel
theorem dX7_heir_61 : decode cX7_heir 61 = .ok (.ireturn, 1) := by decide +kernel
theorem dX7_heir_62 : decode cX7_heir 62 = .ok (.aload_n 0, 1) := by decide +kernel
theorem dX7_heir_63 : decode cX7_heir 63 = .ok (.getfield 19, 3) := by decide +kernel
theorem dX7_heir_66 : decode cX7_heir 66 = .ok (.getfield 190, 3) := by decide +kernel
theorem dX7_heir_69 : decode cX7_heir 69 = .ok (.iload_n 1, 1) := by decide +kernel
theorem dX7_heir_70 : decode cX7_heir 70 = .ok (.iaload, 1) := by decide +kernel
theorem dX7_heir_71 : decode cX7_heir 71 = .ok (.ireturn, 1) := by decide +kernel
theorem dX7_heir_72 : decode cX7_heir 72 = .ok (.aload_n 0, 1) := by decide +kernel
theorem dX7_heir_73 : decode cX7_heir 73 = .ok (.getfield 29, 3) := by decide +kernel
theorem dX7_heir_76 : decode cX7_heir 76 = .ok (.getfield 193, 3) := by decide +kernel
theorem dX7_heir_79 : decode cX7_heir 79 = .ok (.iload_n 1, 1) := by decide +kernel
theorem dX7_heir_80 : decode cX7_heir 80 = .ok (.iaload, 1) := by decide +kernel
theorem dX7_heir_81 : decode cX7_heir 81 = .ok (.ireturn, 1) := by decide +kernel
theorem dX7_heir_82 : decode cX7_heir 82 = .ok (.aload_n 0, 1) := by decide +kernel
theorem dX7_heir_83 : decode cX7_heir 83 = .ok (.getfield 29, 3) := by decide +kernel
theorem dX7_heir_86 : decode cX7_heir 86 = .ok (.aload_n 0, 1) := by decide +kernel
theorem dX7_heir_87 : decode cX7_heir 87 = .ok (.getfield 19, 3) := by decide +kernel
theorem dX7_heir_90 : decode cX7_heir 90 = .ok (.iload_n 1, 1) := by decide +kernel
theorem dX7_heir_91 : decode cX7_heir 91 = .ok (.invokevirtual 196, 3) := by decide +kernel
theorem dX7_heir_94 : decode cX7_heir 94 = .ok (.ireturn, 1) := by decide +kernel
theorem dX7_heir_95 : decode cX7_heir 95 = .ok (.aload_n 0, 1) := by decide +kernel
theorem dX7_heir_96 : decode cX7_heir 96 = .ok (.getfield 29, 3) := by decide +kernel
theorem dX7_heir_99 : decode cX7_heir 99 = .ok (.aload_n 0, 1) := by decide +kernel
theorem dX7_heir_100 : decode cX7_heir 100 = .ok (.getfield 19, 3) := by decide +kernel
theorem dX7_heir_103 : decode cX7_heir 103 = .ok (.iload_n 1, 1) := by decide +kernel
theorem dX7_heir_104 : decode cX7_heir 104 = .ok (.invokevirtual 199, 3) := by decide +kernel
theorem dX7_heir_107 : decode cX7_heir 107 = .ok (.ireturn, 1) := by decide +kernel
theorem dX7_heir_108 : decode cX7_heir 108 = .ok (.aload_n 0, 1) := by decide +kernel
theorem dX7_heir_109 : decode cX7_heir 109 = .ok (.getfield 29, 3) := by decide +kernel
theorem dX7_heir_112 : decode cX7_heir 112 = .ok (.aload_n 0, 1) := by decide +kernel
theorem dX7_heir_113 : decode cX7_heir 113 = .ok (.getfield 19, 3) := by decide +kernel
theorem dX7_heir_116 : decode cX7_heir 116 = .ok (.iload_n 1, 1) := by decide +kernel
theorem dX7_heir_117 : decode cX7_heir 117 = .ok (.invokevirtual 202, 3) := by decide +kernel
theorem dX7_heir_120 : decode cX7_heir 120 = .ok (.ireturn, 1) := by decide +kernel
theorem dX7_heir_121 : decode cX7_heir 121 = .ok (.ldc 80, 2) := by decide +kernel
theorem dX7_heir_123 : decode cX7_heir 123 = .ok (.ireturn, 1) := by decide +kernel
theorem dX7_say_0 : decode cX7_say 0 = .ok (.aload_n 0, 1) := by decide +kernel
theorem dX7_say_1 : decode cX7_say 1 = .ok (.getfield 19, 3) := by decide +kernel
theorem dX7_say_4 : decode cX7_say 4 = .ok (.iload_n 1, 1) := by decide +kernel
theorem dX7_say_5 : decode cX7_say 5 = .ok (.invokevirtual 184, 3) := by decide +kernel
theorem dX7_say_8 : decode cX7_say 8 = .ok (.ifCond .ne 6, 3) := by decide +kernel
theorem dX7_say_11 : decode cX7_say 11 = .ok (.ldc 151, 2) := by decide +kernel
theorem dX7_say_13 : decode cX7_say 13 = .ok (.ireturn, 1) := by decide +kernel
theorem dX7_say_14 : decode cX7_say 14 = .ok (.aload_n 0, 1) := by decide +kernel
theorem dX7_say_15 : decode cX7_say 15 = .ok (.getfield 29, 3) := by decide +kernel
theorem dX7_say_18 : decode cX7_say 18 = .ok (.getfield 133, 3) := by decide +kernel
theorem dX7_say_21 : decode cX7_say 21 = .ok (.ldc 205, 2) := by decide +kernel
theorem dX7_say_23 : decode cX7_say 23 = .ok (.if_icmp .lt 6, 3) := by decide +kernel
theorem dX7_say_26 : decode cX7_say 26 = .ok (.ldc 88, 2) := by decide +kernel
theorem dX7_say_28 : decode cX7_say 28 = .ok (.ireturn, 1) := by decide +kernel
theorem dX7_say_29 : decode cX7_say 29 = .ok (.aload_n 0, 1) := by decide +kernel
theorem dX7_say_30 : decode cX7_say 30 = .ok (.getfield 36, 3) := by decide +kernel
theorem dX7_say_33 : decode cX7_say 33 = .ok (.aload_n 0, 1) := by decide +kernel
theorem dX7_say_34 : decode cX7_say 34 = .ok (.getfield 29, 3) := by decide +kernel
theorem dX7_say_37 : decode cX7_say 37 = .ok (.invokevirtual 206, 3) := by decide +kernel
theorem dX7_say_40 : decode cX7_say 40 = .ok (.aload_n 0, 1) := by decide +kernel
theorem dX7_say_41 : decode cX7_say 41 = .ok (.getfield 29, 3) := by decide +kernel
theorem dX7_say_44 : decode cX7_say 44 = .ok (.aload_n 0, 1) := by decide +kernel
theorem dX7_say_45 : decode cX7_say 45 = .ok (.getfield 19, 3) := by decide +kernel
theorem dX7_say_48 : decode cX7_say 48 = .ok (.iload_n 1, 1) := by decide +kernel
theorem dX7_say_49 : decode cX7_say 49 = .ok (.invokevirtual 199, 3) := by decide +kernel
theorem dX7_say_52 : decode cX7_say 52 = .ok (.istore_n 2, 1) := by decide +kernel
theorem dX7_say_53 : decode cX7_say 53 = .ok (.aload_n 0, 1) := by decide +kernel
theorem dX7_say_54 : decode cX7_say 54 = .ok (.getfield 29, 3) := by decide +kernel
theorem dX7_say_57 : decode cX7_say 57 = .ok (.aload_n 0, 1) := by decide +kernel
theorem dX7_say_58 : decode cX7_say 58 = .ok (.getfield 19, 3) := by decide +kernel
theorem dX7_say_61 : decode cX7_say 61 = .ok (.iload_n 1, 1) := by decide +kernel
theorem dX7_say_62 : decode cX7_say 62 = .ok (.invokevirtual 210, 3) := by decide +kernel
theorem dX7_say_65 : decode cX7_say 65 = .ok (.iload_n 2, 1) := by decide +kernel
theorem dX7_say_66 : decode cX7_say 66 = .ok (.ireturn, 1) := by decide +kernel
theorem dX7_go_0 : decode cX7_go 0 = .ok (.aload_n 0, 1) := by decide +kernel
theorem dX7_go_1 : decode cX7_go 1 = .ok (.getfield 19, 3) := by decide +kernel
theorem dX7_go_4 : decode cX7_go 4 = .ok (.iload_n 1, 1) := by decide +kernel
theorem dX7_go_5 : decode cX7_go 5 = .ok (.invokevirtual 184, 3) := by decide +kernel
theorem dX7_go_8 : decode cX7_go 8 = .ok (.ifCond .eq 14, 3) := by decide +kernel
theorem dX7_go_11 : decode cX7_go 11 = .ok (.aload_n 0, 1) := by decide +kernel
theorem dX7_go_12 : decode cX7_go 12 = .ok (.getfield 19, 3) := by decide +kernel
theorem dX7_go_15 : decode cX7_go 15 = .ok (.iload_n 2, 1) := by decide +kernel
theorem dX7_go_16 : decode cX7_go 16 = .ok (.invokevirtual 172, 3) := by decide +kernel
theorem dX7_go_19 : decode cX7_go 19 = .ok (.ifCond .ne 6, 3) := by decide +kernel
theorem dX7_go_22 : decode cX7_go 22 = .ok (.ldc 151, 2) := by decide +kernel
theorem dX7_go_24 : decode cX7_go 24 = .ok (.ireturn, 1) := by decide +kernel
theorem dX7_go_25 : decode cX7_go 25 = .ok (.aload_n 0, 1) := by decide +kernel
theorem dX7_go_26 : decode cX7_go 26 = .ok (.getfield 19, 3) := by decide +kernel
theorem dX7_go_29 : decode cX7_go 29 = .ok (.iload_n 2, 1) := by decide +kernel
theorem dX7_go_30 : decode cX7_go 30 = .ok (.aload_n 0, 1) := by decide +kernel
theorem dX7_go_31 : decode cX7_go 31 = .ok (.getfield 29, 3) := by decide +kernel
theorem dX7_go_34 : decode cX7_go 34 = .ok (.getfield 193, 3) := by decide +kernel
theorem dX7_go_37 : decode cX7_go 37 = .ok (.iload_n 1, 1) := by decide +kernel
theorem dX7_go_38 : decode cX7_go 38 = .ok (.iaload, 1) := by decide +kernel
theorem dX7_go_39 : decode cX7_go 39 = .ok (.invokevirtual 214, 3) := by decide +kernel
theorem dX7_go_42 : decode cX7_go 42 = .ok (.istore_n 3, 1) := by decide +kernel
theorem dX7_go_43 : decode cX7_go 43 = .ok (.iload_n 3, 1) := by decide +kernel
theorem dX7_go_44 : decode cX7_go 44 = .ok (.iconst (-1), 1) := by decide +kernel
theorem dX7_go_45 : decode cX7_go 45 = .ok (.if_icmp .ne 6, 3) := by decide +kernel
theorem dX7_go_48 : decode cX7_go 48 = .ok (.ldc 217, 2) := by decide +kernel
theorem dX7_go_50 : decode cX7_go 50 = .ok (.ireturn, 1) := by decide +kernel
theorem dX7_go_51 : decode cX7_go 51 = .ok (.aload_n 0, 1) := by decide +kernel
theorem dX7_go_52 : decode cX7_go 52 = .ok (.getfield 36, 3) := by decide +kernel
theorem dX7_go_55 : decode cX7_go 55 = .ok (.aload_n 0, 1) := by decide +kernel
theorem dX7_go_56 : decode cX7_go 56 = .ok (.getfield 29, 3) := by decide +kernel
theorem dX7_go_59 : decode cX7_go 59 = .ok (.invokevirtual 206, 3) := by decide +kernel
theorem dX7_go_62 : decode cX7_go 62 = .ok (.aload_n 0, 1) := by decide +kernel
theorem dX7_go_63 : decode cX7_go 63 = .ok (.getfield 29, 3) := by decide +kernel
theorem dX7_go_66 : decode cX7_go 66 = .ok (.getfield 193, 3) := by decide +kernel
theorem dX7_go_69 : decode cX7_go 69 = .ok (.iload_n 1, 1) := by decide +kernel
theorem dX7_go_70 : decode cX7_go 70 = .ok (.iload_n 3, 1) := by decide +kernel
theorem dX7_go_71 : decode cX7_go 71 = .ok (.iastore, 1) := by decide +kernel
theorem dX7_go_72 : decode cX7_go 72 = .ok (.iload_n 3, 1) := by decide +kernel
theorem dX7_go_73 : decode cX7_go 73 = .ok (.ireturn, 1) := by decide +kernel
theorem dX7_hour_0 : decode cX7_hour 0 = .ok (.aload_n 0, 1) := by decide +kernel
theorem dX7_hour_1 : decode cX7_hour 1 = .ok (.iload_n 1, 1) := by decide +kernel
theorem dX7_hour_2 : decode cX7_hour 2 = .ok (.invokevirtual 218, 3) := by decide +kernel
theorem dX7_hour_5 : decode cX7_hour 5 = .ok (.istore_n 2, 1) := by decide +kernel
theorem dX7_hour_6 : decode cX7_hour 6 = .ok (.iload_n 2, 1) := by decide +kernel
theorem dX7_hour_7 : decode cX7_hour 7 = .ok (.ifCond .eq 5, 3) := by decide +kernel
theorem dX7_hour_10 : decode cX7_hour 10 = .ok (.iload_n 2, 1) := by decide +kernel
theorem dX7_hour_11 : decode cX7_hour 11 = .ok (.ireturn, 1) := by decide +kernel
theorem dX7_hour_12 : decode cX7_hour 12 = .ok (.iconst 0, 1) := by decide +kernel
theorem dX7_hour_13 : decode cX7_hour 13 = .ok (.istore_n 3, 1) := by decide +kernel
theorem dX7_hour_14 : decode cX7_hour 14 = .ok (.iload_n 3, 1) := by decide +kernel
theorem dX7_hour_15 : decode cX7_hour 15 = .ok (.iload_n 1, 1) := by decide +kernel
theorem dX7_hour_16 : decode cX7_hour 16 = .ok (.if_icmp .ge 31, 3) := by decide +kernel
theorem dX7_hour_19 : decode cX7_hour 19 = .ok (.aload_n 0, 1) := by decide +kernel
theorem dX7_hour_20 : decode cX7_hour 20 = .ok (.getfield 36, 3) := by decide +kernel
theorem dX7_hour_23 : decode cX7_hour 23 = .ok (.aload_n 0, 1) := by decide +kernel
theorem dX7_hour_24 : decode cX7_hour 24 = .ok (.getfield 29, 3) := by decide +kernel
theorem dX7_hour_27 : decode cX7_hour 27 = .ok (.invokevirtual 206, 3) := by decide +kernel
theorem dX7_hour_30 : decode cX7_hour 30 = .ok (.aload_n 0, 1) := by decide +kernel
theorem dX7_hour_31 : decode cX7_hour 31 = .ok (.getfield 29, 3) := by decide +kernel
theorem dX7_hour_34 : decode cX7_hour 34 = .ok (.aload_n 0, 1) := by decide +kernel
theorem dX7_hour_35 : decode cX7_hour 35 = .ok (.getfield 19, 3) := by decide +kernel
theorem dX7_hour_38 : decode cX7_hour 38 = .ok (.invokevirtual 222, 3) := by decide +kernel
theorem dX7_hour_41 : decode cX7_hour 41 = .ok (.iinc 3 1, 3) := by decide +kernel
theorem dX7_hour_44 : decode cX7_hour 44 = .ok (.goto (-30), 3) := by decide +kernel
theorem dX7_hour_47 : decode cX7_hour 47 = .ok (.aload_n 0, 1) := by decide +kernel
theorem dX7_hour_48 : decode cX7_hour 48 = .ok (.getfield 29, 3) := by decide +kernel
theorem dX7_hour_51 : decode cX7_hour 51 = .ok (.getfield 127, 3) := by decide +kernel
theorem dX7_hour_54 : decode cX7_hour 54 = .ok (.ireturn, 1) := by decide +kernel
theorem dX7_out_0 : decode cX7_out 0 = .ok (.aload_n 0, 1) := by decide +kernel
theorem dX7_out_1 : decode cX7_out 1 = .ok (.getfield 19, 3) := by decide +kernel
theorem dX7_out_4 : decode cX7_out 4 = .ok (.iload_n 1, 1) := by decide +kernel
theorem dX7_out_5 : decode cX7_out 5 = .ok (.invokevirtual 148, 3) := by decide +kernel
theorem dX7_out_8 : decode cX7_out 8 = .ok (.ifCond .ne 6, 3) := by decide +kernel
theorem dX7_out_11 : decode cX7_out 11 = .ok (.ldc 151, 2) := by decide +kernel
theorem dX7_out_13 : decode cX7_out 13 = .ok (.ireturn, 1) := by decide +kernel
theorem dX7_out_14 : decode cX7_out 14 = .ok (.aload_n 0, 1) := by decide +kernel
theorem dX7_out_15 : decode cX7_out 15 = .ok (.getfield 29, 3) := by decide +kernel
theorem dX7_out_18 : decode cX7_out 18 = .ok (.iload_n 1, 1) := by decide +kernel
theorem dX7_out_19 : decode cX7_out 19 = .ok (.invokevirtual 155, 3) := by decide +kernel
theorem dX7_out_22 : decode cX7_out 22 = .ok (.ifCond .eq 6, 3) := by decide +kernel
theorem dX7_out_25 : decode cX7_out 25 = .ok (.ldc 217, 2) := by decide +kernel
theorem dX7_out_27 : decode cX7_out 27 = .ok (.ireturn, 1) := by decide +kernel
theorem dX7_out_28 : decode cX7_out 28 = .ok (.aload_n 0, 1) := by decide +kernel
theorem dX7_out_29 : decode cX7_out 29 = .ok (.getfield 36, 3) := by decide +kernel
theorem dX7_out_32 : decode cX7_out 32 = .ok (.aload_n 0, 1) := by decide +kernel
theorem dX7_out_33 : decode cX7_out 33 = .ok (.getfield 29, 3) := by decide +kernel
theorem dX7_out_36 : decode cX7_out 36 = .ok (.invokevirtual 206, 3) := by decide +kernel
theorem dX7_out_39 : decode cX7_out 39 = .ok (.aload_n 0, 1) := by decide +kernel
theorem dX7_out_40 : decode cX7_out 40 = .ok (.getfield 29, 3) := by decide +kernel
theorem dX7_out_43 : decode cX7_out 43 = .ok (.iload_n 1, 1) := by decide +kernel
theorem dX7_out_44 : decode cX7_out 44 = .ok (.aload_n 0, 1) := by decide +kernel
theorem dX7_out_45 : decode cX7_out 45 = .ok (.getfield 29, 3) := by decide +kernel
theorem dX7_out_48 : decode cX7_out 48 = .ok (.getfield 127, 3) := by decide +kernel
theorem dX7_out_51 : decode cX7_out 51 = .ok (.invokevirtual 225, 3) := by decide +kernel
theorem dX7_out_54 : decode cX7_out 54 = .ok (.ifCond .eq 7, 3) := by decide +kernel
theorem dX7_out_57 : decode cX7_out 57 = .ok (.iconst 1, 1) := by decide +kernel
theorem dX7_out_58 : decode cX7_out 58 = .ok (.goto 4, 3) := by decide +kernel
theorem dX7_out_61 : decode cX7_out 61 = .ok (.iconst 0, 1) := by decide +kernel
theorem dX7_out_62 : decode cX7_out 62 = .ok (.istore_n 2, 1) := by decide +kernel
theorem dX7_out_63 : decode cX7_out 63 = .ok (.aload_n 0, 1) := by decide +kernel
theorem dX7_out_64 : decode cX7_out 64 = .ok (.getfield 29, 3) := by decide +kernel
theorem dX7_out_67 : decode cX7_out 67 = .ok (.iload_n 1, 1) := by decide +kernel
theorem dX7_out_68 : decode cX7_out 68 = .ok (.invokevirtual 229, 3) := by decide +kernel
theorem dX7_out_71 : decode cX7_out 71 = .ok (.iload_n 2, 1) := by decide +kernel
theorem dX7_out_72 : decode cX7_out 72 = .ok (.ireturn, 1) := by decide +kernel
theorem dX7_light_0 : decode cX7_light 0 = .ok (.aload_n 0, 1) := by decide +kernel
theorem dX7_light_1 : decode cX7_light 1 = .ok (.getfield 19, 3) := by decide +kernel
theorem dX7_light_4 : decode cX7_light 4 = .ok (.iload_n 1, 1) := by decide +kernel
theorem dX7_light_5 : decode cX7_light 5 = .ok (.invokevirtual 148, 3) := by decide +kernel
theorem dX7_light_8 : decode cX7_light 8 = .ok (.ifCond .ne 6, 3) := by decide +kernel
theorem dX7_light_11 : decode cX7_light 11 = .ok (.ldc 151, 2) := by decide +kernel
theorem dX7_light_13 : decode cX7_light 13 = .ok (.ireturn, 1) := by decide +kernel
theorem dX7_light_14 : decode cX7_light 14 = .ok (.aload_n 0, 1) := by decide +kernel
theorem dX7_light_15 : decode cX7_light 15 = .ok (.getfield 29, 3) := by decide +kernel
theorem dX7_light_18 : decode cX7_light 18 = .ok (.iload_n 1, 1) := by decide +kernel
theorem dX7_light_19 : decode cX7_light 19 = .ok (.invokevirtual 155, 3) := by decide +kernel
theorem dX7_light_22 : decode cX7_light 22 = .ok (.ifCond .ne 6, 3) := by decide +kernel
theorem dX7_light_25 : decode cX7_light 25 = .ok (.ldc 217, 2) := by decide +kernel
theorem dX7_light_27 : decode cX7_light 27 = .ok (.ireturn, 1) := by decide +kernel
theorem dX7_light_28 : decode cX7_light 28 = .ok (.aload_n 0, 1) := by decide +kernel
theorem dX7_light_29 : decode cX7_light 29 = .ok (.getfield 36, 3) := by decide +kernel
theorem dX7_light_32 : decode cX7_light 32 = .ok (.aload_n 0, 1) := by decide +kernel
theorem dX7_light_33 : decode cX7_light 33 = .ok (.getfield 29, 3) := by decide +kernel
theorem dX7_light_36 : decode cX7_light 36 = .ok (.invokevirtual 206, 3) := by decide +kernel
theorem dX7_light_39 : decode cX7_light 39 = .ok (.aload_n 0, 1) := by decide +kernel
theorem dX7_light_40 : decode cX7_light 40 = .ok (.getfield 29, 3) := by decide +kernel
theorem dX7_light_43 : decode cX7_light 43 = .ok (.iload_n 1, 1) := by decide +kernel
theorem dX7_light_44 : decode cX7_light 44 = .ok (.invokevirtual 233, 3) := by decide +kernel
theorem dX7_light_47 : decode cX7_light 47 = .ok (.aload_n 0, 1) := by decide +kernel
theorem dX7_light_48 : decode cX7_light 48 = .ok (.getfield 29, 3) := by decide +kernel
theorem dX7_light_51 : decode cX7_light 51 = .ok (.iload_n 1, 1) := by decide +kernel
theorem dX7_light_52 : decode cX7_light 52 = .ok (.aload_n 0, 1) := by decide +kernel
theorem dX7_light_53 : decode cX7_light 53 = .ok (.getfield 29, 3) := by decide +kernel
theorem dX7_light_56 : decode cX7_light 56 = .ok (.getfield 127, 3) := by decide +kernel
theorem dX7_light_59 : decode cX7_light 59 = .ok (.invokevirtual 225, 3) := by decide +kernel
theorem dX7_light_62 : decode cX7_light 62 = .ok (.ifCond .eq 7, 3) := by decide +kernel
theorem dX7_light_65 : decode cX7_light 65 = .ok (.iconst 1, 1) := by decide +kernel
theorem dX7_light_66 : decode cX7_light 66 = .ok (.goto 4, 3) := by decide +kernel
theorem dX7_light_69 : decode cX7_light 69 = .ok (.iconst 0, 1) := by decide +kernel
theorem dX7_light_70 : decode cX7_light 70 = .ok (.ireturn, 1) := by decide +kernel
theorem dX7_candle_0 : decode cX7_candle 0 = .ok (.aload_n 0, 1) := by decide +kernel
theorem dX7_candle_1 : decode cX7_candle 1 = .ok (.getfield 19, 3) := by decide +kernel
theorem dX7_candle_4 : decode cX7_candle 4 = .ok (.iload_n 1, 1) := by decide +kernel
theorem dX7_candle_5 : decode cX7_candle 5 = .ok (.invokevirtual 148, 3) := by decide +kernel
theorem dX7_candle_8 : decode cX7_candle 8 = .ok (.ifCond .ne 6, 3) := by decide +kernel
theorem dX7_candle_11 : decode cX7_candle 11 = .ok (.ldc 151, 2) := by decide +kernel
theorem dX7_candle_13 : decode cX7_candle 13 = .ok (.ireturn, 1) := by decide +kernel
theorem dX7_candle_14 : decode cX7_candle 14 = .ok (.iload_n 2, 1) := by decide +kernel
theorem dX7_candle_15 : decode cX7_candle 15 = .ok (.ifCond .lt 9, 3) := by decide +kernel
theorem dX7_candle_18 : decode cX7_candle 18 = .ok (.iload_n 2, 1) := by decide +kernel
theorem dX7_candle_19 : decode cX7_candle 19 = .ok (.bipush 20, 2) := by decide +kernel
theorem dX7_candle_21 : decode cX7_candle 21 = .ok (.if_icmp .le 6, 3) := by decide +kernel
theorem dX7_candle_24 : decode cX7_candle 24 = .ok (.ldc 80, 2) := by decide +kernel
theorem dX7_candle_26 : decode cX7_candle 26 = .ok (.ireturn, 1) := by decide +kernel
theorem dX7_candle_27 : decode cX7_candle 27 = .ok (.aload_n 0, 1) := by decide +kernel
theorem dX7_candle_28 : decode cX7_candle 28 = .ok (.getfield 36, 3) := by decide +kernel
theorem dX7_candle_31 : decode cX7_candle 31 = .ok (.aload_n 0, 1) := by decide +kernel
theorem dX7_candle_32 : decode cX7_candle 32 = .ok (.getfield 29, 3) := by decide +kernel
theorem dX7_candle_35 : decode cX7_candle 35 = .ok (.invokevirtual 206, 3) := by decide +kernel
theorem dX7_candle_38 : decode cX7_candle 38 = .ok (.aload_n 0, 1) := by decide +kernel
theorem dX7_candle_39 : decode cX7_candle 39 = .ok (.getfield 29, 3) := by decide +kernel
theorem dX7_candle_42 : decode cX7_candle 42 = .ok (.getfield 152, 3) := by decide +kernel
theorem dX7_candle_45 : decode cX7_candle 45 = .ok (.iload_n 1, 1) := by decide +kernel
theorem dX7_candle_46 : decode cX7_candle 46 = .ok (.iaload, 1) := by decide +kernel
theorem dX7_candle_47 : decode cX7_candle 47 = .ok (.istore_n 3, 1) := by decide +kernel
theorem dX7_candle_48 : decode cX7_candle 48 = .ok (.aload_n 0, 1) := by decide +kernel
theorem dX7_candle_49 : decode cX7_candle 49 = .ok (.getfield 29, 3) := by decide +kernel
theorem dX7_candle_52 : decode cX7_candle 52 = .ok (.getfield 152, 3) := by decide +kernel
theorem dX7_candle_55 : decode cX7_candle 55 = .ok (.iload_n 1, 1) := by decide +kernel
theorem dX7_candle_56 : decode cX7_candle 56 = .ok (.iload_n 2, 1) := by decide +kernel
theorem dX7_candle_57 : decode cX7_candle 57 = .ok (.iastore, 1) := by decide +kernel
theorem dX7_candle_58 : decode cX7_candle 58 = .ok (.iload_n 3, 1) := by decide +kernel
theorem dX7_candle_59 : decode cX7_candle 59 = .ok (.ireturn, 1) := by decide +kernel
theorem dX7_drift_0 : decode cX7_drift 0 = .ok (.aload_n 0, 1) := by decide +kernel
theorem dX7_drift_1 : decode cX7_drift 1 = .ok (.iload_n 1, 1) := by decide +kernel
theorem dX7_drift_2 : decode cX7_drift 2 = .ok (.invokevirtual 218, 3) := by decide +kernel
theorem dX7_drift_5 : decode cX7_drift 5 = .ok (.istore_n 2, 1) := by decide +kernel
theorem dX7_drift_6 : decode cX7_drift 6 = .ok (.iload_n 2, 1) := by decide +kernel
theorem dX7_drift_7 : decode cX7_drift 7 = .ok (.ifCond .eq 5, 3) := by decide +kernel
theorem dX7_drift_10 : decode cX7_drift 10 = .ok (.iload_n 2, 1) := by decide +kernel
theorem dX7_drift_11 : decode cX7_drift 11 = .ok (.ireturn, 1) := by decide +kernel
theorem dX7_drift_12 : decode cX7_drift 12 = .ok (.iconst 0, 1) := by decide +kernel
theorem dX7_drift_13 : decode cX7_drift 13 = .ok (.istore_n 3, 1) := by decide +kernel
theorem dX7_drift_14 : decode cX7_drift 14 = .ok (.iload_n 3, 1) := by decide +kernel
theorem dX7_drift_15 : decode cX7_drift 15 = .ok (.iload_n 1, 1) := by decide +kernel
theorem dX7_drift_16 : decode cX7_drift 16 = .ok (.if_icmp .ge 35, 3) := by decide +kernel
theorem dX7_drift_19 : decode cX7_drift 19 = .ok (.aload_n 0, 1) := by decide +kernel
theorem dX7_drift_20 : decode cX7_drift 20 = .ok (.getfield 36, 3) := by decide +kernel
theorem dX7_drift_23 : decode cX7_drift 23 = .ok (.aload_n 0, 1) := by decide +kernel
theorem dX7_drift_24 : decode cX7_drift 24 = .ok (.getfield 29, 3) := by decide +kernel
theorem dX7_drift_27 : decode cX7_drift 27 = .ok (.invokevirtual 206, 3) := by decide +kernel
theorem dX7_drift_30 : decode cX7_drift 30 = .ok (.aload_n 0, 1) := by decide +kernel
theorem dX7_drift_31 : decode cX7_drift 31 = .ok (.invokevirtual 236, 3) := by decide +kernel
theorem dX7_drift_34 : decode cX7_drift 34 = .ok (.aload_n 0, 1) := by decide +kernel
theorem dX7_drift_35 : decode cX7_drift 35 = .ok (.getfield 29, 3) := by decide +kernel
theorem dX7_drift_38 : decode cX7_drift 38 = .ok (.aload_n 0, 1) := by decide +kernel
theorem dX7_drift_39 : decode cX7_drift 39 = .ok (.getfield 19, 3) := by decide +kernel
theorem dX7_drift_42 : decode cX7_drift 42 = .ok (.invokevirtual 222, 3) := by decide +kernel
theorem dX7_drift_45 : decode cX7_drift 45 = .ok (.iinc 3 1, 3) := by decide +kernel
theorem dX7_drift_48 : decode cX7_drift 48 = .ok (.goto (-34), 3) := by decide +kernel
theorem dX7_drift_51 : decode cX7_drift 51 = .ok (.aload_n 0, 1) := by decide +kernel
theorem dX7_drift_52 : decode cX7_drift 52 = .ok (.getfield 29, 3) := by decide +kernel
theorem dX7_drift_55 : decode cX7_drift 55 = .ok (.getfield 127, 3) := by decide +kernel
theorem dX7_drift_58 : decode cX7_drift 58 = .ok (.ireturn, 1) := by decide +kernel
theorem dX7_undo_0 : decode cX7_undo 0 = .ok (.iload_n 1, 1) := by decide +kernel
theorem dX7_undo_1 : decode cX7_undo 1 = .ok (.iconst 1, 1) := by decide +kernel
theorem dX7_undo_2 : decode cX7_undo 2 = .ok (.if_icmp .lt 9, 3) := by decide +kernel
theorem dX7_undo_5 : decode cX7_undo 5 = .ok (.iload_n 1, 1) := by decide +kernel
theorem dX7_undo_6 : decode cX7_undo 6 = .ok (.bipush 30, 2) := by decide +kernel
theorem dX7_undo_8 : decode cX7_undo 8 = .ok (.if_icmp .le 6, 3) := by decide +kernel
theorem dX7_undo_11 : decode cX7_undo 11 = .ok (.ldc 80, 2) := by decide +kernel
theorem dX7_undo_13 : decode cX7_undo 13 = .ok (.ireturn, 1) := by decide +kernel
theorem dX7_undo_14 : decode cX7_undo 14 = .ok (.iload_n 1, 1) := by decide +kernel
theorem dX7_undo_15 : decode cX7_undo 15 = .ok (.aload_n 0, 1) := by decide +kernel
theorem dX7_undo_16 : decode cX7_undo 16 = .ok (.getfield 36, 3) := by decide +kernel
theorem dX7_undo_19 : decode cX7_undo 19 = .ok (.getfield 147, 3) := by decide +kernel
theorem dX7_undo_22 : decode cX7_undo 22 = .ok (.if_icmp .le 6, 3) := by decide +kernel
theorem dX7_undo_25 : decode cX7_undo 25 = .ok (.ldc 217, 2) := by decide +kernel
theorem dX7_undo_27 : decode cX7_undo 27 = .ok (.ireturn, 1) := by decide +kernel
theorem dX7_undo_28 : decode cX7_undo 28 = .ok (.aload_n 0, 1) := by decide +kernel
theorem dX7_undo_29 : decode cX7_undo 29 = .ok (.getfield 36, 3) := by decide +kernel
theorem dX7_undo_32 : decode cX7_undo 32 = .ok (.iload_n 1, 1) := by decide +kernel
theorem dX7_undo_33 : decode cX7_undo 33 = .ok (.aload_n 0, 1) := by decide +kernel
theorem dX7_undo_34 : decode cX7_undo 34 = .ok (.getfield 29, 3) := by decide +kernel
theorem dX7_undo_37 : decode cX7_undo 37 = .ok (.invokevirtual 239, 3) := by decide +kernel
theorem dX7_undo_40 : decode cX7_undo 40 = .ok (.aload_n 0, 1) := by decide +kernel
theorem dX7_undo_41 : decode cX7_undo 41 = .ok (.getfield 29, 3) := by decide +kernel
theorem dX7_undo_44 : decode cX7_undo 44 = .ok (.getfield 127, 3) := by decide +kernel
theorem dX7_undo_47 : decode cX7_undo 47 = .ok (.ireturn, 1) := by decide +kernel
theorem dX7_refusalOfHours_0 : decode cX7_refusalOfHours 0 = .ok (.iload_n 1, 1) := by decide +kernel
theorem dX7_refusalOfHours_1 : decode cX7_refusalOfHours 1 = .ok (.iconst 1, 1) := by decide +kernel
theorem dX7_refusalOfHours_2 : decode cX7_refusalOfHours 2 = .ok (.if_icmp .lt 9, 3) := by decide +kernel
theorem dX7_refusalOfHours_5 : decode cX7_refusalOfHours 5 = .ok (.iload_n 1, 1) := by decide +kernel
theorem dX7_refusalOfHours_6 : decode cX7_refusalOfHours 6 = .ok (.bipush 20, 2) := by decide +kernel
theorem dX7_refusalOfHours_8 : decode cX7_refusalOfHours 8 = .ok (.if_icmp .le 6, 3) := by decide +kernel
theorem dX7_refusalOfHours_11 : decode cX7_refusalOfHours 11 = .ok (.ldc 80, 2) := by decide +kernel
theorem dX7_refusalOfHours_13 : decode cX7_refusalOfHours 13 = .ok (.ireturn, 1) := by decide +kernel
theorem dX7_refusalOfHours_14 : decode cX7_refusalOfHours 14 = .ok (.aload_n 0, 1) := by decide +kernel
theorem dX7_refusalOfHours_15 : decode cX7_refusalOfHours 15 = .ok (.getfield 19, 3) := by decide +kernel
theorem dX7_refusalOfHours_18 : decode cX7_refusalOfHours 18 = .ok (.getfield 118, 3) := by decide +kernel
theorem dX7_refusalOfHours_21 : decode cX7_refusalOfHours 21 = .ok (.ifCond .ne 6, 3) := by decide +kernel
theorem dX7_refusalOfHours_24 : decode cX7_refusalOfHours 24 = .ok (.ldc 217, 2) := by decide +kernel
theorem dX7_refusalOfHours_26 : decode cX7_refusalOfHours 26 = .ok (.ireturn, 1) := by decide +kernel
theorem dX7_refusalOfHours_27 : decode cX7_refusalOfHours 27 = .ok (.aload_n 0, 1) := by decide +kernel
theorem dX7_refusalOfHours_28 : decode cX7_refusalOfHours 28 = .ok (.getfield 29, 3) := by decide +kernel
theorem dX7_refusalOfHours_31 : decode cX7_refusalOfHours 31 = .ok (.getfield 130, 3) := by decide +kernel
theorem dX7_refusalOfHours_34 : decode cX7_refusalOfHours 34 = .ok (.sipush 9000, 3) := by decide +kernel
theorem dX7_refusalOfHours_37 : decode cX7_refusalOfHours 37 = .ok (.if_icmp .le 8, 3) := by decide +kernel
theorem dX7_refusalOfHours_40 : decode cX7_refusalOfHours 40 = .ok (.ldc 88, 2) := by decide +kernel
theorem dX7_refusalOfHours_42 : decode cX7_refusalOfHours 42 = .ok (.goto 4, 3) := by decide +kernel
theorem dX7_refusalOfHours_45 : decode cX7_refusalOfHours 45 = .ok (.iconst 0, 1) := by decide +kernel
theorem dX7_refusalOfHours_46 : decode cX7_refusalOfHours 46 = .ok (.ireturn, 1) := by decide +kernel
theorem dX7_actByDraw_0 : decode cX7_actByDraw 0 = .ok (.aload_n 0, 1) := by decide +kernel
theorem dX7_actByDraw_1 : decode cX7_actByDraw 1 = .ok (.getfield 19, 3) := by decide +kernel
theorem dX7_actByDraw_4 : decode cX7_actByDraw 4 = .ok (.getfield 115, 3) := by decide +kernel
theorem dX7_actByDraw_7 : decode cX7_actByDraw 7 = .ok (.ifCond .ne 4, 3) := by decide +kernel
theorem dX7_actByDraw_10 : decode cX7_actByDraw 10 = .ok (.return_, 1) := by decide +kernel
theorem dX7_actByDraw_11 : decode cX7_actByDraw 11 = .ok (.aload_n 0, 1) := by decide +kernel
theorem dX7_actByDraw_12 : decode cX7_actByDraw 12 = .ok (.iconst 4, 1) := by decide +kernel
theorem dX7_actByDraw_13 : decode cX7_actByDraw 13 = .ok (.invokevirtual 243, 3) := by decide +kernel
theorem dX7_actByDraw_16 : decode cX7_actByDraw 16 = .ok (.istore_n 1, 1) := by decide +kernel
theorem dX7_actByDraw_17 : decode cX7_actByDraw 17 = .ok (.aload_n 0, 1) := by decide +kernel
theorem dX7_actByDraw_18 : decode cX7_actByDraw 18 = .ok (.aload_n 0, 1) := by decide +kernel
theorem dX7_actByDraw_19 : decode cX7_actByDraw 19 = .ok (.getfield 19, 3) := by decide +kernel
theorem dX7_actByDraw_22 : decode cX7_actByDraw 22 = .ok (.getfield 115, 3) := by decide +kernel
theorem dX7_actByDraw_25 : decode cX7_actByDraw 25 = .ok (.invokevirtual 243, 3) := by decide +kernel
theorem dX7_actByDraw_28 : decode cX7_actByDraw 28 = .ok (.istore_n 2, 1) := by decide +kernel
theorem dX7_actByDraw_29 : decode cX7_actByDraw 29 = .ok (.iload_n 1, 1) := by decide +kernel
theorem dX7_actByDraw_30 : decode cX7_actByDraw 30 = .ok (.iconst 1, 1) := by decide +kernel
theorem dX7_actByDraw_31 : decode cX7_actByDraw 31 = .ok (.if_icmp .gt 18, 3) := by decide +kernel
theorem dX7_actByDraw_34 : decode cX7_actByDraw 34 = .ok (.aload_n 0, 1) := by decide +kernel
theorem dX7_actByDraw_35 : decode cX7_actByDraw 35 = .ok (.getfield 29, 3) := by decide +kernel
theorem dX7_actByDraw_38 : decode cX7_actByDraw 38 = .ok (.aload_n 0, 1) := by decide +kernel
theorem dX7_actByDraw_39 : decode cX7_actByDraw 39 = .ok (.getfield 19, 3) := by decide +kernel
theorem dX7_actByDraw_42 : decode cX7_actByDraw 42 = .ok (.iload_n 2, 1) := by decide +kernel
theorem dX7_actByDraw_43 : decode cX7_actByDraw 43 = .ok (.invokevirtual 210, 3) := by decide +kernel
theorem dX7_actByDraw_46 : decode cX7_actByDraw 46 = .ok (.goto 32, 3) := by decide +kernel
theorem dX7_actByDraw_49 : decode cX7_actByDraw 49 = .ok (.iload_n 1, 1) := by decide +kernel
theorem dX7_actByDraw_50 : decode cX7_actByDraw 50 = .ok (.iconst 2, 1) := by decide +kernel
theorem dX7_actByDraw_51 : decode cX7_actByDraw 51 = .ok (.if_icmp .ne 11, 3) := by decide +kernel
theorem dX7_actByDraw_54 : decode cX7_actByDraw 54 = .ok (.aload_n 0, 1) := by decide +kernel
theorem dX7_actByDraw_55 : decode cX7_actByDraw 55 = .ok (.iload_n 2, 1) := by decide +kernel
theorem dX7_actByDraw_56 : decode cX7_actByDraw 56 = .ok (.invokevirtual 246, 3) := by decide +kernel
theorem dX7_actByDraw_59 : decode cX7_actByDraw 59 = .ok (.goto 19, 3) := by decide +kernel
theorem dX7_actByDraw_62 : decode cX7_actByDraw 62 = .ok (.aload_n 0, 1) := by decide +kernel
theorem dX7_actByDraw_63 : decode cX7_actByDraw 63 = .ok (.getfield 29, 3) := by decide +kernel
theorem dX7_actByDraw_66 : decode cX7_actByDraw 66 = .ok (.aload_n 0, 1) := by decide +kernel
theorem dX7_actByDraw_67 : decode cX7_actByDraw 67 = .ok (.getfield 29, 3) := by decide +kernel
theorem dX7_actByDraw_70 : decode cX7_actByDraw 70 = .ok (.getfield 193, 3) := by decide +kernel
theorem dX7_actByDraw_73 : decode cX7_actByDraw 73 = .ok (.iload_n 2, 1) := by decide +kernel
theorem dX7_actByDraw_74 : decode cX7_actByDraw 74 = .ok (.iaload, 1) := by decide +kernel
theorem dX7_actByDraw_75 : decode cX7_actByDraw 75 = .ok (.invokevirtual 229, 3) := by decide +kernel
theorem dX7_actByDraw_78 : decode cX7_actByDraw 78 = .ok (.return_, 1) := by decide +kernel
theorem dX7_goByDraw_0 : decode cX7_goByDraw 0 = .ok (.aload_n 0, 1) := by decide +kernel
theorem dX7_goByDraw_1 : decode cX7_goByDraw 1 = .ok (.getfield 19, 3) := by decide +kernel
theorem dX7_goByDraw_4 : decode cX7_goByDraw 4 = .ok (.getfield 124, 3) := by decide +kernel
theorem dX7_goByDraw_7 : decode cX7_goByDraw 7 = .ok (.ifCond .ne 4, 3) := by decide +kernel
theorem dX7_goByDraw_10 : decode cX7_goByDraw 10 = .ok (.return_, 1) := by decide +kernel
theorem dX7_goByDraw_11 : decode cX7_goByDraw 11 = .ok (.aload_n 0, 1) := by decide +kernel
theorem dX7_goByDraw_12 : decode cX7_goByDraw 12 = .ok (.getfield 19, 3) := by decide +kernel
theorem dX7_goByDraw_15 : decode cX7_goByDraw 15 = .ok (.aload_n 0, 1) := by decide +kernel
theorem dX7_goByDraw_16 : decode cX7_goByDraw 16 = .ok (.aload_n 0, 1) := by decide +kernel
theorem dX7_goByDraw_17 : decode cX7_goByDraw 17 = .ok (.getfield 19, 3) := by decide +kernel
theorem dX7_goByDraw_20 : decode cX7_goByDraw 20 = .ok (.getfield 124, 3) := by decide +kernel
theorem dX7_goByDraw_23 : decode cX7_goByDraw 23 = .ok (.invokevirtual 243, 3) := by decide +kernel
theorem dX7_goByDraw_26 : decode cX7_goByDraw 26 = .ok (.aload_n 0, 1) := by decide +kernel
theorem dX7_goByDraw_27 : decode cX7_goByDraw 27 = .ok (.getfield 29, 3) := by decide +kernel
theorem dX7_goByDraw_30 : decode cX7_goByDraw 30 = .ok (.getfield 193, 3) := by decide +kernel
theorem dX7_goByDraw_33 : decode cX7_goByDraw 33 = .ok (.iload_n 1, 1) := by decide +kernel
theorem dX7_goByDraw_34 : decode cX7_goByDraw 34 = .ok (.iaload, 1) := by decide +kernel
theorem dX7_goByDraw_35 : decode cX7_goByDraw 35 = .ok (.invokevirtual 214, 3) := by decide +kernel
theorem dX7_goByDraw_38 : decode cX7_goByDraw 38 = .ok (.istore_n 2, 1) := by decide +kernel
theorem dX7_goByDraw_39 : decode cX7_goByDraw 39 = .ok (.iload_n 2, 1) := by decide +kernel
theorem dX7_goByDraw_40 : decode cX7_goByDraw 40 = .ok (.iconst (-1), 1) := by decide +kernel
theorem dX7_goByDraw_41 : decode cX7_goByDraw 41 = .ok (.if_icmp .eq 13, 3) := by decide +kernel
theorem dX7_goByDraw_44 : decode cX7_goByDraw 44 = .ok (.aload_n 0, 1) := by decide +kernel
theorem dX7_goByDraw_45 : decode cX7_goByDraw 45 = .ok (.getfield 29, 3) := by decide +kernel
theorem dX7_goByDraw_48 : decode cX7_goByDraw 48 = .ok (.getfield 193, 3) := by decide +kernel
theorem dX7_goByDraw_51 : decode cX7_goByDraw 51 = .ok (.iload_n 1, 1) := by decide +kernel
theorem dX7_goByDraw_52 : decode cX7_goByDraw 52 = .ok (.iload_n 2, 1) := by decide +kernel
theorem dX7_goByDraw_53 : decode cX7_goByDraw 53 = .ok (.iastore, 1) := by decide +kernel
theorem dX7_goByDraw_54 : decode cX7_goByDraw 54 = .ok (.return_, 1) := by decide +kernel
theorem dX7_draw_0 : decode cX7_draw 0 = .ok (.aload_n 0, 1) := by decide +kernel
theorem dX7_draw_1 : decode cX7_draw 1 = .ok (.aload_n 0, 1) := by decide +kernel
theorem dX7_draw_2 : decode cX7_draw 2 = .ok (.getfield 73, 3) := by decide +kernel
theorem dX7_draw_5 : decode cX7_draw 5 = .ok (.i2l, 1) := by decide +kernel
theorem dX7_draw_6 : decode cX7_draw 6 = .ok (.ldc2_w 249, 3) := by decide +kernel
theorem dX7_draw_9 : decode cX7_draw 9 = .ok (.lmul, 1) := by decide +kernel
theorem dX7_draw_10 : decode cX7_draw 10 = .ok (.ldc2_w 251, 3) := by decide +kernel
theorem dX7_draw_13 : decode cX7_draw 13 = .ok (.ladd, 1) := by decide +kernel
theorem dX7_draw_14 : decode cX7_draw 14 = .ok (.ldc2_w 253, 3) := by decide +kernel
theorem dX7_draw_17 : decode cX7_draw 17 = .ok (.land, 1) := by decide +kernel
theorem dX7_draw_18 : decode cX7_draw 18 = .ok (.l2i, 1) := by decide +kernel
theorem dX7_draw_19 : decode cX7_draw 19 = .ok (.putfield 73, 3) := by decide +kernel
theorem dX7_draw_22 : decode cX7_draw 22 = .ok (.iload_n 1, 1) := by decide +kernel
theorem dX7_draw_23 : decode cX7_draw 23 = .ok (.ifCond .le 15, 3) := by decide +kernel
theorem dX7_draw_26 : decode cX7_draw 26 = .ok (.aload_n 0, 1) := by decide +kernel
theorem dX7_draw_27 : decode cX7_draw 27 = .ok (.getfield 73, 3) := by decide +kernel
theorem dX7_draw_30 : decode cX7_draw 30 = .ok (.ldc 255, 2) := by decide +kernel
theorem dX7_draw_32 : decode cX7_draw 32 = .ok (.idiv, 1) := by decide +kernel
theorem dX7_draw_33 : decode cX7_draw 33 = .ok (.iload_n 1, 1) := by decide +kernel
theorem dX7_draw_34 : decode cX7_draw 34 = .ok (.irem, 1) := by decide +kernel
theorem dX7_draw_35 : decode cX7_draw 35 = .ok (.goto 4, 3) := by decide +kernel
theorem dX7_draw_38 : decode cX7_draw 38 = .ok (.iconst 0, 1) := by decide +kernel
theorem dX7_draw_39 : decode cX7_draw 39 = .ok (.ireturn, 1) := by decide +kernel
theorem dX7_wall_0 : decode cX7_wall 0 = .ok (.aload_n 0, 1) := by decide +kernel
theorem dX7_wall_1 : decode cX7_wall 1 = .ok (.getfield 19, 3) := by decide +kernel
theorem dX7_wall_4 : decode cX7_wall 4 = .ok (.iload_n 1, 1) := by decide +kernel
theorem dX7_wall_5 : decode cX7_wall 5 = .ok (.invokevirtual 148, 3) := by decide +kernel
theorem dX7_wall_8 : decode cX7_wall 8 = .ok (.ifCond .eq 14, 3) := by decide +kernel
theorem dX7_wall_11 : decode cX7_wall 11 = .ok (.aload_n 0, 1) := by decide +kernel
theorem dX7_wall_12 : decode cX7_wall 12 = .ok (.getfield 19, 3) := by decide +kernel
theorem dX7_wall_15 : decode cX7_wall 15 = .ok (.iload_n 2, 1) := by decide +kernel
theorem dX7_wall_16 : decode cX7_wall 16 = .ok (.invokevirtual 148, 3) := by decide +kernel
theorem dX7_wall_19 : decode cX7_wall 19 = .ok (.ifCond .ne 6, 3) := by decide +kernel
theorem dX7_wall_22 : decode cX7_wall 22 = .ok (.ldc 151, 2) := by decide +kernel
theorem dX7_wall_24 : decode cX7_wall 24 = .ok (.ireturn, 1) := by decide +kernel
theorem dX7_wall_25 : decode cX7_wall 25 = .ok (.aload_n 0, 1) := by decide +kernel
theorem dX7_wall_26 : decode cX7_wall 26 = .ok (.getfield 19, 3) := by decide +kernel
theorem dX7_wall_29 : decode cX7_wall 29 = .ok (.getfield 256, 3) := by decide +kernel
theorem dX7_wall_32 : decode cX7_wall 32 = .ok (.iload_n 1, 1) := by decide +kernel
theorem dX7_wall_33 : decode cX7_wall 33 = .ok (.aaload, 1) := by decide +kernel
theorem dX7_wall_34 : decode cX7_wall 34 = .ok (.iload_n 2, 1) := by decide +kernel
theorem dX7_wall_35 : decode cX7_wall 35 = .ok (.iaload, 1) := by decide +kernel
theorem dX7_wall_36 : decode cX7_wall 36 = .ok (.ireturn, 1) := by decide +kernel
theorem dX7_way_0 : decode cX7_way 0 = .ok (.aload_n 0, 1) := by decide +kernel
theorem dX7_way_1 : decode cX7_way 1 = .ok (.getfield 19, 3) := by decide +kernel
theorem dX7_way_4 : decode cX7_way 4 = .ok (.iload_n 1, 1) := by decide +kernel
theorem dX7_way_5 : decode cX7_way 5 = .ok (.invokevirtual 148, 3) := by decide +kernel
theorem dX7_way_8 : decode cX7_way 8 = .ok (.ifCond .eq 14, 3) := by decide +kernel
theorem dX7_way_11 : decode cX7_way 11 = .ok (.aload_n 0, 1) := by decide +kernel
theorem dX7_way_12 : decode cX7_way 12 = .ok (.getfield 19, 3) := by decide +kernel
theorem dX7_way_15 : decode cX7_way 15 = .ok (.iload_n 2, 1) := by decide +kernel
theorem dX7_way_16 : decode cX7_way 16 = .ok (.invokevirtual 148, 3) := by decide +kernel
theorem dX7_way_19 : decode cX7_way 19 = .ok (.ifCond .ne 6, 3) := by decide +kernel
theorem dX7_way_22 : decode cX7_way 22 = .ok (.ldc 151, 2) := by decide +kernel
theorem dX7_way_24 : decode cX7_way 24 = .ok (.ireturn, 1) := by decide +kernel
theorem dX7_way_25 : decode cX7_way 25 = .ok (.aload_n 0, 1) := by decide +kernel
theorem dX7_way_26 : decode cX7_way 26 = .ok (.getfield 19, 3) := by decide +kernel
theorem dX7_way_29 : decode cX7_way 29 = .ok (.getfield 259, 3) := by decide +kernel
theorem dX7_way_32 : decode cX7_way 32 = .ok (.iload_n 1, 1) := by decide +kernel
theorem dX7_way_33 : decode cX7_way 33 = .ok (.aaload, 1) := by decide +kernel
theorem dX7_way_34 : decode cX7_way 34 = .ok (.iload_n 2, 1) := by decide +kernel
theorem dX7_way_35 : decode cX7_way 35 = .ok (.iaload, 1) := by decide +kernel
theorem dX7_way_36 : decode cX7_way 36 = .ok (.istore_n 3, 1) := by decide +kernel
theorem dX7_way_37 : decode cX7_way 37 = .ok (.iload_n 3, 1) := by decide +kernel
theorem dX7_way_38 : decode cX7_way 38 = .ok (.bipush 99, 2) := by decide +kernel
theorem dX7_way_40 : decode cX7_way 40 = .ok (.if_icmp .ne 7, 3) := by decide +kernel
theorem dX7_way_43 : decode cX7_way 43 = .ok (.iconst (-1), 1) := by decide +kernel
theorem dX7_way_44 : decode cX7_way 44 = .ok (.goto 4, 3) := by decide +kernel
theorem dX7_way_47 : decode cX7_way 47 = .ok (.iload_n 3, 1) := by decide +kernel
theorem dX7_way_48 : decode cX7_way 48 = .ok (.ireturn, 1) := by decide +kernel
theorem dX7_fewest_0 : decode cX7_fewest 0 = .ok (.aload_n 0, 1) := by decide +kernel
theorem dX7_fewest_1 : decode cX7_fewest 1 = .ok (.getfield 19, 3) := by decide +kernel
theorem dX7_fewest_4 : decode cX7_fewest 4 = .ok (.iload_n 1, 1) := by decide +kernel
theorem dX7_fewest_5 : decode cX7_fewest 5 = .ok (.invokevirtual 184, 3) := by decide +kernel
theorem dX7_fewest_8 : decode cX7_fewest 8 = .ok (.ifCond .eq 14, 3) := by decide +kernel
theorem dX7_fewest_11 : decode cX7_fewest 11 = .ok (.aload_n 0, 1) := by decide +kernel
theorem dX7_fewest_12 : decode cX7_fewest 12 = .ok (.getfield 19, 3) := by decide +kernel
theorem dX7_fewest_15 : decode cX7_fewest 15 = .ok (.iload_n 2, 1) := by decide +kernel
theorem dX7_fewest_16 : decode cX7_fewest 16 = .ok (.invokevirtual 262, 3) := by decide +kernel
theorem dX7_fewest_19 : decode cX7_fewest 19 = .ok (.ifCond .ne 6, 3) := by decide +kernel
theorem dX7_fewest_22 : decode cX7_fewest 22 = .ok (.ldc 151, 2) := by decide +kernel
theorem dX7_fewest_24 : decode cX7_fewest 24 = .ok (.ireturn, 1) := by decide +kernel
theorem dX7_fewest_25 : decode cX7_fewest 25 = .ok (.iload_n 3, 1) := by decide +kernel
theorem dX7_fewest_26 : decode cX7_fewest 26 = .ok (.ifCond .lt 8, 3) := by decide +kernel
theorem dX7_fewest_29 : decode cX7_fewest 29 = .ok (.iload_n 3, 1) := by decide +kernel
theorem dX7_fewest_30 : decode cX7_fewest 30 = .ok (.iconst 1, 1) := by decide +kernel
theorem dX7_fewest_31 : decode cX7_fewest 31 = .ok (.if_icmp .le 6, 3) := by decide +kernel
theorem dX7_fewest_34 : decode cX7_fewest 34 = .ok (.ldc 80, 2) := by decide +kernel
theorem dX7_fewest_36 : decode cX7_fewest 36 = .ok (.ireturn, 1) := by decide +kernel
theorem dX7_fewest_37 : decode cX7_fewest 37 = .ok (.aload_n 0, 1) := by decide +kernel
theorem dX7_fewest_38 : decode cX7_fewest 38 = .ok (.getfield 55, 3) := by decide +kernel
theorem dX7_fewest_41 : decode cX7_fewest 41 = .ok (.aload_n 0, 1) := by decide +kernel
theorem dX7_fewest_42 : decode cX7_fewest 42 = .ok (.getfield 19, 3) := by decide +kernel
theorem dX7_fewest_45 : decode cX7_fewest 45 = .ok (.aload_n 0, 1) := by decide +kernel
theorem dX7_fewest_46 : decode cX7_fewest 46 = .ok (.getfield 29, 3) := by decide +kernel
theorem dX7_fewest_49 : decode cX7_fewest 49 = .ok (.iload_n 1, 1) := by decide +kernel
theorem dX7_fewest_50 : decode cX7_fewest 50 = .ok (.iload_n 2, 1) := by decide +kernel
theorem dX7_fewest_51 : decode cX7_fewest 51 = .ok (.invokevirtual 265, 3) := by decide +kernel
theorem dX7_fewest_54 : decode cX7_fewest 54 = .ok (.iload_n 3, 1) := by decide +kernel
theorem dX7_fewest_55 : decode cX7_fewest 55 = .ok (.ifCond .ne 13, 3) := by decide +kernel
theorem dX7_fewest_58 : decode cX7_fewest 58 = .ok (.aload_n 0, 1) := by decide +kernel
theorem dX7_fewest_59 : decode cX7_fewest 59 = .ok (.getfield 55, 3) := by decide +kernel
theorem dX7_fewest_62 : decode cX7_fewest 62 = .ok (.getfield 269, 3) := by decide +kernel
theorem dX7_fewest_65 : decode cX7_fewest 65 = .ok (.goto 10, 3) := by decide +kernel
theorem dX7_fewest_68 : decode cX7_fewest 68 = .ok (.aload_n 0, 1) := by decide +kernel
theorem dX7_fewest_69 : decode cX7_fewest 69 = .ok (.getfield 55, 3) := by decide +kernel
theorem dX7_fewest_72 : decode cX7_fewest 72 = .ok (.getfield 272, 3) := by decide +kernel
theorem dX7_fewest_75 : decode cX7_fewest 75 = .ok (.ireturn, 1) := by decide +kernel
theorem dX7_reading_0 : decode cX7_reading 0 = .ok (.aload_n 0, 1) := by decide +kernel
theorem dX7_reading_1 : decode cX7_reading 1 = .ok (.getfield 19, 3) := by decide +kernel
theorem dX7_reading_4 : decode cX7_reading 4 = .ok (.iload_n 1, 1) := by decide +kernel
theorem dX7_reading_5 : decode cX7_reading 5 = .ok (.invokevirtual 148, 3) := by decide +kernel
theorem dX7_reading_8 : decode cX7_reading 8 = .ok (.ifCond .ne 6, 3) := by decide +kernel
theorem dX7_reading_11 : decode cX7_reading 11 = .ok (.ldc 151, 2) := by decide +kernel
theorem dX7_reading_13 : decode cX7_reading 13 = .ok (.ireturn, 1) := by decide +kernel
theorem dX7_reading_14 : decode cX7_reading 14 = .ok (.iload_n 2, 1) := by decide +kernel
theorem dX7_reading_15 : decode cX7_reading 15 = .ok (.ifCond .lt 8, 3) := by decide +kernel
theorem dX7_reading_18 : decode cX7_reading 18 = .ok (.iload_n 2, 1) := by decide +kernel
theorem dX7_reading_19 : decode cX7_reading 19 = .ok (.iconst 4, 1) := by decide +kernel
theorem dX7_reading_20 : decode cX7_reading 20 = .ok (.if_icmp .lt 6, 3) := by decide +kernel
theorem dX7_reading_23 : decode cX7_reading 23 = .ok (.ldc 80, 2) := by decide +kernel
theorem dX7_reading_25 : decode cX7_reading 25 = .ok (.ireturn, 1) := by decide +kernel
theorem dX7_reading_26 : decode cX7_reading 26 = .ok (.aload_n 0, 1) := by decide +kernel
theorem dX7_reading_27 : decode cX7_reading 27 = .ok (.getfield 29, 3) := by decide +kernel
theorem dX7_reading_30 : decode cX7_reading 30 = .ok (.iload_n 1, 1) := by decide +kernel
theorem dX7_reading_31 : decode cX7_reading 31 = .ok (.iload_n 2, 1) := by decide +kernel
theorem dX7_reading_32 : decode cX7_reading 32 = .ok (.invokevirtual 165, 3) := by decide +kernel
theorem dX7_reading_35 : decode cX7_reading 35 = .ok (.ireturn, 1) := by decide +kernel
theorem dX7_quiet_0 : decode cX7_quiet 0 = .ok (.iload_n 1, 1) := by decide +kernel
theorem dX7_quiet_1 : decode cX7_quiet 1 = .ok (.ifCond .lt 19, 3) := by decide +kernel
theorem dX7_quiet_4 : decode cX7_quiet 4 = .ok (.iload_n 1, 1) := by decide +kernel
theorem dX7_quiet_5 : decode cX7_quiet 5 = .ok (.bipush 60, 2) := by decide +kernel
theorem dX7_quiet_7 : decode cX7_quiet 7 = .ok (.if_icmp .gt 13, 3) := by decide +kernel
theorem dX7_quiet_10 : decode cX7_quiet 10 = .ok (.iload_n 2, 1) := by decide +kernel
theorem dX7_quiet_11 : decode cX7_quiet 11 = .ok (.ifCond .lt 9, 3) := by decide +kernel
theorem dX7_quiet_14 : decode cX7_quiet 14 = .ok (.iload_n 2, 1) := by decide +kernel
theorem dX7_quiet_15 : decode cX7_quiet 15 = .ok (.bipush 100, 2) := by decide +kernel
theorem dX7_quiet_17 : decode cX7_quiet 17 = .ok (.if_icmp .le 6, 3) := by decide +kernel
theorem dX7_quiet_20 : decode cX7_quiet 20 = .ok (.ldc 80, 2) := by decide +kernel
theorem dX7_quiet_22 : decode cX7_quiet 22 = .ok (.ireturn, 1) := by decide +kernel
theorem dX7_quiet_23 : decode cX7_quiet 23 = .ok (.ldc2_w 275, 3) := by decide +kernel
theorem dX7_quiet_26 : decode cX7_quiet 26 = .ok (.lstore_n 3, 1) := by decide +kernel
theorem dX7_quiet_27 : decode cX7_quiet 27 = .ok (.iconst 0, 1) := by decide +kernel
theorem dX7_quiet_28 : decode cX7_quiet 28 = .ok (.istore 5, 2) := by decide +kernel
theorem dX7_quiet_30 : decode cX7_quiet 30 = .ok (.iload 5, 2) := by decide +kernel
theorem dX7_quiet_32 : decode cX7_quiet 32 = .ok (.iload_n 1, 1) := by decide +kernel
theorem dX7_quiet_33 : decode cX7_quiet 33 = .ok (.if_icmp .ge 18, 3) := by decide +kernel
theorem dX7_quiet_36 : decode cX7_quiet 36 = .ok (.lload_n 3, 1) := by decide +kernel
theorem dX7_quiet_37 : decode cX7_quiet 37 = .ok (.iload_n 2, 1) := by decide +kernel
theorem dX7_quiet_38 : decode cX7_quiet 38 = .ok (.i2l, 1) := by decide +kernel
theorem dX7_quiet_39 : decode cX7_quiet 39 = .ok (.lmul, 1) := by decide +kernel
theorem dX7_quiet_40 : decode cX7_quiet 40 = .ok (.ldc2_w 277, 3) := by decide +kernel
theorem dX7_quiet_43 : decode cX7_quiet 43 = .ok (.ldiv, 1) := by decide +kernel
theorem dX7_quiet_44 : decode cX7_quiet 44 = .ok (.lstore_n 3, 1) := by decide +kernel
theorem dX7_quiet_45 : decode cX7_quiet 45 = .ok (.iinc 5 1, 3) := by decide +kernel
theorem dX7_quiet_48 : decode cX7_quiet 48 = .ok (.goto (-18), 3) := by decide +kernel
theorem dX7_quiet_51 : decode cX7_quiet 51 = .ok (.lload_n 3, 1) := by decide +kernel
theorem dX7_quiet_52 : decode cX7_quiet 52 = .ok (.l2i, 1) := by decide +kernel
theorem dX7_quiet_53 : decode cX7_quiet 53 = .ok (.ireturn, 1) := by decide +kernel
theorem dX7_see_0 : decode cX7_see 0 = .ok (.aload_n 0, 1) := by decide +kernel
theorem dX7_see_1 : decode cX7_see 1 = .ok (.getfield 19, 3) := by decide +kernel
theorem dX7_see_4 : decode cX7_see 4 = .ok (.iload_n 1, 1) := by decide +kernel
theorem dX7_see_5 : decode cX7_see 5 = .ok (.invokevirtual 148, 3) := by decide +kernel
theorem dX7_see_8 : decode cX7_see 8 = .ok (.ifCond .ne 6, 3) := by decide +kernel
theorem dX7_see_11 : decode cX7_see 11 = .ok (.ldc 151, 2) := by decide +kernel
theorem dX7_see_13 : decode cX7_see 13 = .ok (.ireturn, 1) := by decide +kernel
theorem dX7_see_14 : decode cX7_see 14 = .ok (.aload_n 0, 1) := by decide +kernel
theorem dX7_see_15 : decode cX7_see 15 = .ok (.getfield 62, 3) := by decide +kernel
theorem dX7_see_18 : decode cX7_see 18 = .ok (.iload_n 1, 1) := by decide +kernel
theorem dX7_see_19 : decode cX7_see 19 = .ok (.iload_n 2, 1) := by decide +kernel
theorem dX7_see_20 : decode cX7_see 20 = .ok (.invokevirtual 279, 3) := by decide +kernel
theorem dX7_see_23 : decode cX7_see 23 = .ok (.ifCond .eq 13, 3) := by decide +kernel
theorem dX7_see_26 : decode cX7_see 26 = .ok (.aload_n 0, 1) := by decide +kernel
theorem dX7_see_27 : decode cX7_see 27 = .ok (.getfield 62, 3) := by decide +kernel
theorem dX7_see_30 : decode cX7_see 30 = .ok (.getfield 111, 3) := by decide +kernel
theorem dX7_see_33 : decode cX7_see 33 = .ok (.goto 5, 3) := by decide +kernel
theorem dX7_see_36 : decode cX7_see 36 = .ok (.ldc 88, 2) := by decide +kernel
theorem dX7_see_38 : decode cX7_see 38 = .ok (.ireturn, 1) := by decide +kernel
theorem dX7_couldBe_0 : decode cX7_couldBe 0 = .ok (.aload_n 0, 1) := by decide +kernel
theorem dX7_couldBe_1 : decode cX7_couldBe 1 = .ok (.getfield 62, 3) := by decide +kernel
theorem dX7_couldBe_4 : decode cX7_couldBe 4 = .ok (.aload_n 0, 1) := by decide +kernel
theorem dX7_couldBe_5 : decode cX7_couldBe 5 = .ok (.getfield 19, 3) := by decide +kernel
theorem dX7_couldBe_8 : decode cX7_couldBe 8 = .ok (.aload_n 0, 1) := by decide +kernel
theorem dX7_couldBe_9 : decode cX7_couldBe 9 = .ok (.getfield 29, 3) := by decide +kernel
theorem dX7_couldBe_12 : decode cX7_couldBe 12 = .ok (.invokevirtual 282, 3) := by decide +kernel
theorem dX7_couldBe_15 : decode cX7_couldBe 15 = .ok (.ireturn, 1) := by decide +kernel
theorem dX7_ask_0 : decode cX7_ask 0 = .ok (.aload_n 0, 1) := by decide +kernel
theorem dX7_ask_1 : decode cX7_ask 1 = .ok (.getfield 62, 3) := by decide +kernel
theorem dX7_ask_4 : decode cX7_ask 4 = .ok (.aload_n 0, 1) := by decide +kernel
theorem dX7_ask_5 : decode cX7_ask 5 = .ok (.getfield 19, 3) := by decide +kernel
theorem dX7_ask_8 : decode cX7_ask 8 = .ok (.aload_n 0, 1) := by decide +kernel
theorem dX7_ask_9 : decode cX7_ask 9 = .ok (.getfield 29, 3) := by decide +kernel
theorem dX7_ask_12 : decode cX7_ask 12 = .ok (.invokevirtual 286, 3) := by decide +kernel
theorem dX7_ask_15 : decode cX7_ask 15 = .ok (.ireturn, 1) := by decide +kernel
theorem dX7_write_0 : decode cX7_write 0 = .ok (.aload_n 0, 1) := by decide +kernel
theorem dX7_write_1 : decode cX7_write 1 = .ok (.getfield 19, 3) := by decide +kernel
theorem dX7_write_4 : decode cX7_write 4 = .ok (.iload_n 1, 1) := by decide +kernel
theorem dX7_write_5 : decode cX7_write 5 = .ok (.invokevirtual 148, 3) := by decide +kernel
theorem dX7_write_8 : decode cX7_write 8 = .ok (.ifCond .eq 19, 3) := by decide +kernel
theorem dX7_write_11 : decode cX7_write 11 = .ok (.iload_n 2, 1) := by decide +kernel
theorem dX7_write_12 : decode cX7_write 12 = .ok (.iconst (-1), 1) := by decide +kernel
theorem dX7_write_13 : decode cX7_write 13 = .ok (.if_icmp .eq 17, 3) := by decide +kernel
theorem dX7_write_16 : decode cX7_write 16 = .ok (.aload_n 0, 1) := by decide +kernel
theorem dX7_write_17 : decode cX7_write 17 = .ok (.getfield 19, 3) := by decide +kernel
theorem dX7_write_20 : decode cX7_write 20 = .ok (.iload_n 2, 1) := by decide +kernel
theorem dX7_write_21 : decode cX7_write 21 = .ok (.invokevirtual 184, 3) := by decide +kernel
theorem dX7_write_24 : decode cX7_write 24 = .ok (.ifCond .ne 6, 3) := by decide +kernel
theorem dX7_write_27 : decode cX7_write 27 = .ok (.ldc 151, 2) := by decide +kernel
theorem dX7_write_29 : decode cX7_write 29 = .ok (.ireturn, 1) := by decide +kernel
theorem dX7_write_30 : decode cX7_write 30 = .ok (.aload_n 0, 1) := by decide +kernel
theorem dX7_write_31 : decode cX7_write 31 = .ok (.getfield 69, 3) := by decide +kernel
theorem dX7_write_34 : decode cX7_write 34 = .ok (.iload_n 1, 1) := by decide +kernel
theorem dX7_write_35 : decode cX7_write 35 = .ok (.iload_n 2, 1) := by decide +kernel
theorem dX7_write_36 : decode cX7_write 36 = .ok (.invokevirtual 289, 3) := by decide +kernel
theorem dX7_write_39 : decode cX7_write 39 = .ok (.ifCond .eq 13, 3) := by decide +kernel
theorem dX7_write_42 : decode cX7_write 42 = .ok (.aload_n 0, 1) := by decide +kernel
theorem dX7_write_43 : decode cX7_write 43 = .ok (.getfield 69, 3) := by decide +kernel
theorem dX7_write_46 : decode cX7_write 46 = .ok (.getfield 114, 3) := by decide +kernel
theorem dX7_write_49 : decode cX7_write 49 = .ok (.goto 5, 3) := by decide +kernel
theorem dX7_write_52 : decode cX7_write 52 = .ok (.ldc 88, 2) := by decide +kernel
theorem dX7_write_54 : decode cX7_write 54 = .ok (.ireturn, 1) := by decide +kernel
theorem dX7_judge_0 : decode cX7_judge 0 = .ok (.aload_n 0, 1) := by decide +kernel
theorem dX7_judge_1 : decode cX7_judge 1 = .ok (.getfield 69, 3) := by decide +kernel
theorem dX7_judge_4 : decode cX7_judge 4 = .ok (.aload_n 0, 1) := by decide +kernel
theorem dX7_judge_5 : decode cX7_judge 5 = .ok (.getfield 29, 3) := by decide +kernel
theorem dX7_judge_8 : decode cX7_judge 8 = .ok (.invokevirtual 291, 3) := by decide +kernel
theorem dX7_judge_11 : decode cX7_judge 11 = .ok (.ireturn, 1) := by decide +kernel
theorem dX7_tear_0 : decode cX7_tear 0 = .ok (.aload_n 0, 1) := by decide +kernel
theorem dX7_tear_1 : decode cX7_tear 1 = .ok (.getfield 62, 3) := by decide +kernel
theorem dX7_tear_4 : decode cX7_tear 4 = .ok (.getfield 111, 3) := by decide +kernel
theorem dX7_tear_7 : decode cX7_tear 7 = .ok (.aload_n 0, 1) := by decide +kernel
theorem dX7_tear_8 : decode cX7_tear 8 = .ok (.getfield 69, 3) := by decide +kernel
theorem dX7_tear_11 : decode cX7_tear 11 = .ok (.getfield 114, 3) := by decide +kernel
theorem dX7_tear_14 : decode cX7_tear 14 = .ok (.iadd, 1) := by decide +kernel
theorem dX7_tear_15 : decode cX7_tear 15 = .ok (.istore_n 1, 1) := by decide +kernel
theorem dX7_tear_16 : decode cX7_tear 16 = .ok (.aload_n 0, 1) := by decide +kernel
theorem dX7_tear_17 : decode cX7_tear 17 = .ok (.getfield 62, 3) := by decide +kernel
theorem dX7_tear_20 : decode cX7_tear 20 = .ok (.iconst 0, 1) := by decide +kernel
theorem dX7_tear_21 : decode cX7_tear 21 = .ok (.putfield 111, 3) := by decide +kernel
theorem dX7_tear_24 : decode cX7_tear 24 = .ok (.aload_n 0, 1) := by decide +kernel
theorem dX7_tear_25 : decode cX7_tear 25 = .ok (.getfield 69, 3) := by decide +kernel
theorem dX7_tear_28 : decode cX7_tear 28 = .ok (.iconst 0, 1) := by decide +kernel
theorem dX7_tear_29 : decode cX7_tear 29 = .ok (.putfield 114, 3) := by decide +kernel
theorem dX7_tear_32 : decode cX7_tear 32 = .ok (.iload_n 1, 1) := by decide +kernel
theorem dX7_tear_33 : decode cX7_tear 33 = .ok (.ireturn, 1) := by decide +kernel
theorem dX7_seed_0 : decode cX7_seed 0 = .ok (.iload_n 1, 1) := by decide +kernel
theorem dX7_seed_1 : decode cX7_seed 1 = .ok (.ifCond .ge 6, 3) := by decide +kernel
theorem dX7_seed_4 : decode cX7_seed 4 = .ok (.ldc 80, 2) := by decide +kernel
theorem dX7_seed_6 : decode cX7_seed 6 = .ok (.ireturn, 1) := by decide +kernel
theorem dX7_seed_7 : decode cX7_seed 7 = .ok (.aload_n 0, 1) := by decide +kernel
theorem dX7_seed_8 : decode cX7_seed 8 = .ok (.getfield 73, 3) := by decide +kernel
theorem dX7_seed_11 : decode cX7_seed 11 = .ok (.istore_n 2, 1) := by decide +kernel
theorem dX7_seed_12 : decode cX7_seed 12 = .ok (.aload_n 0, 1) := by decide +kernel
theorem dX7_seed_13 : decode cX7_seed 13 = .ok (.iload_n 1, 1) := by decide +kernel
theorem dX7_seed_14 : decode cX7_seed 14 = .ok (.putfield 73, 3) := by decide +kernel
theorem dX7_seed_17 : decode cX7_seed 17 = .ok (.iload_n 2, 1) := by decide +kernel
theorem dX7_seed_18 : decode cX7_seed 18 = .ok (.ireturn, 1) := by decide +kernel
theorem dX7_keep_0 : decode cX7_keep 0 = .ok (.iload_n 1, 1) := by decide +kernel
theorem dX7_keep_1 : decode cX7_keep 1 = .ok (.ifCond .lt 8, 3) := by decide +kernel
theorem dX7_keep_4 : decode cX7_keep 4 = .ok (.iload_n 1, 1) := by decide +kernel
theorem dX7_keep_5 : decode cX7_keep 5 = .ok (.iconst 2, 1) := by decide +kernel
theorem dX7_keep_6 : decode cX7_keep 6 = .ok (.if_icmp .lt 6, 3) := by decide +kernel
theorem dX7_keep_9 : decode cX7_keep 9 = .ok (.ldc 151, 2) := by decide +kernel
theorem dX7_keep_11 : decode cX7_keep 11 = .ok (.ireturn, 1) := by decide +kernel
theorem dX7_keep_12 : decode cX7_keep 12 = .ok (.aload_n 0, 1) := by decide +kernel
theorem dX7_keep_13 : decode cX7_keep 13 = .ok (.getfield 40, 3) := by decide +kernel
theorem dX7_keep_16 : decode cX7_keep 16 = .ok (.iload_n 1, 1) := by decide +kernel
theorem dX7_keep_17 : decode cX7_keep 17 = .ok (.aaload, 1) := by decide +kernel
theorem dX7_keep_18 : decode cX7_keep 18 = .ok (.aload_n 0, 1) := by decide +kernel
theorem dX7_keep_19 : decode cX7_keep 19 = .ok (.getfield 29, 3) := by decide +kernel
theorem dX7_keep_22 : decode cX7_keep 22 = .ok (.invokevirtual 295, 3) := by decide +kernel
theorem dX7_keep_25 : decode cX7_keep 25 = .ok (.aload_n 0, 1) := by decide +kernel
theorem dX7_keep_26 : decode cX7_keep 26 = .ok (.getfield 44, 3) := by decide +kernel
theorem dX7_keep_29 : decode cX7_keep 29 = .ok (.iload_n 1, 1) := by decide +kernel
theorem dX7_keep_30 : decode cX7_keep 30 = .ok (.aload_n 0, 1) := by decide +kernel
theorem dX7_keep_31 : decode cX7_keep 31 = .ok (.getfield 73, 3) := by decide +kernel
theorem dX7_keep_34 : decode cX7_keep 34 = .ok (.iastore, 1) := by decide +kernel
theorem dX7_keep_35 : decode cX7_keep 35 = .ok (.aload_n 0, 1) := by decide +kernel
theorem dX7_keep_36 : decode cX7_keep 36 = .ok (.getfield 48, 3) := by decide +kernel
theorem dX7_keep_39 : decode cX7_keep 39 = .ok (.iload_n 1, 1) := by decide +kernel
theorem dX7_keep_40 : decode cX7_keep 40 = .ok (.iconst 1, 1) := by decide +kernel
theorem dX7_keep_41 : decode cX7_keep 41 = .ok (.bastore, 1) := by decide +kernel
theorem dX7_keep_42 : decode cX7_keep 42 = .ok (.aload_n 0, 1) := by decide +kernel
theorem dX7_keep_43 : decode cX7_keep 43 = .ok (.getfield 36, 3) := by decide +kernel
theorem dX7_keep_46 : decode cX7_keep 46 = .ok (.invokevirtual 105, 3) := by decide +kernel
theorem dX7_keep_49 : decode cX7_keep 49 = .ok (.iconst 1, 1) := by decide +kernel
theorem dX7_keep_50 : decode cX7_keep 50 = .ok (.ireturn, 1) := by decide +kernel
theorem dX7_goBack_0 : decode cX7_goBack 0 = .ok (.iload_n 1, 1) := by decide +kernel
theorem dX7_goBack_1 : decode cX7_goBack 1 = .ok (.ifCond .lt 8, 3) := by decide +kernel
theorem dX7_goBack_4 : decode cX7_goBack 4 = .ok (.iload_n 1, 1) := by decide +kernel
theorem dX7_goBack_5 : decode cX7_goBack 5 = .ok (.iconst 2, 1) := by decide +kernel
theorem dX7_goBack_6 : decode cX7_goBack 6 = .ok (.if_icmp .lt 6, 3) := by decide +kernel
theorem dX7_goBack_9 : decode cX7_goBack 9 = .ok (.ldc 151, 2) := by decide +kernel
theorem dX7_goBack_11 : decode cX7_goBack 11 = .ok (.ireturn, 1) := by decide +kernel
theorem dX7_goBack_12 : decode cX7_goBack 12 = .ok (.aload_n 0, 1) := by decide +kernel
theorem dX7_goBack_13 : decode cX7_goBack 13 = .ok (.getfield 48, 3) := by decide +kernel
theorem dX7_goBack_16 : decode cX7_goBack 16 = .ok (.iload_n 1, 1) := by decide +kernel
theorem dX7_goBack_17 : decode cX7_goBack 17 = .ok (.baload, 1) := by decide +kernel
theorem dX7_goBack_18 : decode cX7_goBack 18 = .ok (.ifCond .ne 6, 3) := by decide +kernel
theorem dX7_goBack_21 : decode cX7_goBack 21 = .ok (.ldc 217, 2) := by decide +kernel
theorem dX7_goBack_23 : decode cX7_goBack 23 = .ok (.ireturn, 1) := by decide +kernel
theorem dX7_goBack_24 : decode cX7_goBack 24 = .ok (.aload_n 0, 1) := by decide +kernel
theorem dX7_goBack_25 : decode cX7_goBack 25 = .ok (.getfield 29, 3) := by decide +kernel
theorem dX7_goBack_28 : decode cX7_goBack 28 = .ok (.aload_n 0, 1) := by decide +kernel
theorem dX7_goBack_29 : decode cX7_goBack 29 = .ok (.getfield 40, 3) := by decide +kernel
theorem dX7_goBack_32 : decode cX7_goBack 32 = .ok (.iload_n 1, 1) := by decide +kernel
theorem dX7_goBack_33 : decode cX7_goBack 33 = .ok (.aaload, 1) := by decide +kernel
theorem dX7_goBack_34 : decode cX7_goBack 34 = .ok (.invokevirtual 295, 3) := by decide +kernel
theorem dX7_goBack_37 : decode cX7_goBack 37 = .ok (.aload_n 0, 1) := by decide +kernel
theorem dX7_goBack_38 : decode cX7_goBack 38 = .ok (.aload_n 0, 1) := by decide +kernel
theorem dX7_goBack_39 : decode cX7_goBack 39 = .ok (.getfield 44, 3) := by decide +kernel
theorem dX7_goBack_42 : decode cX7_goBack 42 = .ok (.iload_n 1, 1) := by decide +kernel
theorem dX7_goBack_43 : decode cX7_goBack 43 = .ok (.iaload, 1) := by decide +kernel
theorem dX7_goBack_44 : decode cX7_goBack 44 = .ok (.putfield 73, 3) := by decide +kernel
theorem dX7_goBack_47 : decode cX7_goBack 47 = .ok (.aload_n 0, 1) := by decide +kernel
theorem dX7_goBack_48 : decode cX7_goBack 48 = .ok (.getfield 36, 3) := by decide +kernel
theorem dX7_goBack_51 : decode cX7_goBack 51 = .ok (.invokevirtual 105, 3) := by decide +kernel
theorem dX7_goBack_54 : decode cX7_goBack 54 = .ok (.iconst 1, 1) := by decide +kernel
theorem dX7_goBack_55 : decode cX7_goBack 55 = .ok (.ireturn, 1) := by decide +kernel
theorem dX7_forgetImages_0 : decode cX7_forgetImages 0 = .ok (.iconst 0, 1) := by decide +kernel
theorem dX7_forgetImages_1 : decode cX7_forgetImages 1 = .ok (.istore_n 1, 1) := by decide +kernel
theorem dX7_forgetImages_2 : decode cX7_forgetImages 2 = .ok (.iload_n 1, 1) := by decide +kernel
theorem dX7_forgetImages_3 : decode cX7_forgetImages 3 = .ok (.iconst 2, 1) := by decide +kernel
theorem dX7_forgetImages_4 : decode cX7_forgetImages 4 = .ok (.if_icmp .ge 16, 3) := by decide +kernel
theorem dX7_forgetImages_7 : decode cX7_forgetImages 7 = .ok (.aload_n 0, 1) := by decide +kernel
theorem dX7_forgetImages_8 : decode cX7_forgetImages 8 = .ok (.getfield 48, 3) := by decide +kernel
theorem dX7_forgetImages_11 : decode cX7_forgetImages 11 = .ok (.iload_n 1, 1) := by decide +kernel
theorem dX7_forgetImages_12 : decode cX7_forgetImages 12 = .ok (.iconst 0, 1) := by decide +kernel
theorem dX7_forgetImages_13 : decode cX7_forgetImages 13 = .ok (.bastore, 1) := by decide +kernel
theorem dX7_forgetImages_14 : decode cX7_forgetImages 14 = .ok (.iinc 1 1, 3) := by decide +kernel
theorem dX7_forgetImages_17 : decode cX7_forgetImages 17 = .ok (.goto (-15), 3) := by decide +kernel
theorem dX7_forgetImages_20 : decode cX7_forgetImages 20 = .ok (.return_, 1) := by decide +kernel
