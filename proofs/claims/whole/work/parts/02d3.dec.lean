theorem dX8_init_0 : decode cX8_init 0 = .ok (.aload_n 0, 1) := by decide +kernel
theorem dX8_init_1 : decode cX8_init 1 = .ok (.invokespecial 1, 3) := by decide +kernel
theorem dX8_init_4 : decode cX8_init 4 = .ok (.aload_n 0, 1) := by decide +kernel
theorem dX8_init_5 : decode cX8_init 5 = .ok (.sipush 240, 3) := by decide +kernel
theorem dX8_init_8 : decode cX8_init 8 = .ok (.newarray .int, 2) := by decide +kernel
theorem dX8_init_10 : decode cX8_init 10 = .ok (.putfield 7, 3) := by decide +kernel
theorem dX8_init_13 : decode cX8_init 13 = .ok (.aload_n 0, 1) := by decide +kernel
theorem dX8_init_14 : decode cX8_init 14 = .ok (.iconst (-1), 1) := by decide +kernel
theorem dX8_init_15 : decode cX8_init 15 = .ok (.putfield 13, 3) := by decide +kernel
theorem dX8_init_18 : decode cX8_init 18 = .ok (.aload_n 0, 1) := by decide +kernel
theorem dX8_init_19 : decode cX8_init 19 = .ok (.bipush 8, 2) := by decide +kernel
theorem dX8_init_21 : decode cX8_init 21 = .ok (.newarray .int, 2) := by decide +kernel
theorem dX8_init_23 : decode cX8_init 23 = .ok (.putfield 17, 3) := by decide +kernel
theorem dX8_init_26 : decode cX8_init 26 = .ok (.aload_n 0, 1) := by decide +kernel
theorem dX8_init_27 : decode cX8_init 27 = .ok (.bipush 8, 2) := by decide +kernel
theorem dX8_init_29 : decode cX8_init 29 = .ok (.newarray .int, 2) := by decide +kernel
theorem dX8_init_31 : decode cX8_init 31 = .ok (.putfield 20, 3) := by decide +kernel
theorem dX8_init_34 : decode cX8_init 34 = .ok (.aload_n 0, 1) := by decide +kernel
theorem dX8_init_35 : decode cX8_init 35 = .ok (.bipush 8, 2) := by decide +kernel
theorem dX8_init_37 : decode cX8_init 37 = .ok (.newarray .int, 2) := by decide +kernel
theorem dX8_init_39 : decode cX8_init 39 = .ok (.putfield 23, 3) := by decide +kernel
theorem dX8_init_42 : decode cX8_init 42 = .ok (.aload_n 0, 1) := by decide +kernel
theorem dX8_init_43 : decode cX8_init 43 = .ok (.bipush 6, 2) := by decide +kernel
theorem dX8_init_45 : decode cX8_init 45 = .ok (.newarray .int, 2) := by decide +kernel
theorem dX8_init_47 : decode cX8_init 47 = .ok (.putfield 26, 3) := by decide +kernel
theorem dX8_init_50 : decode cX8_init 50 = .ok (.aload_n 0, 1) := by decide +kernel
theorem dX8_init_51 : decode cX8_init 51 = .ok (.bipush 6, 2) := by decide +kernel
theorem dX8_init_53 : decode cX8_init 53 = .ok (.newarray .int, 2) := by decide +kernel
theorem dX8_init_55 : decode cX8_init 55 = .ok (.putfield 29, 3) := by decide +kernel
theorem dX8_init_58 : decode cX8_init 58 = .ok (.aload_n 0, 1) := by decide +kernel
theorem dX8_init_59 : decode cX8_init 59 = .ok (.bipush 36, 2) := by decide +kernel
theorem dX8_init_61 : decode cX8_init 61 = .ok (.newarray .int, 2) := by decide +kernel
theorem dX8_init_63 : decode cX8_init 63 = .ok (.putfield 32, 3) := by decide +kernel
theorem dX8_init_66 : decode cX8_init 66 = .ok (.aload_n 0, 1) := by decide +kernel
theorem dX8_init_67 : decode cX8_init 67 = .ok (.bipush 36, 2) := by decide +kernel
theorem dX8_init_69 : decode cX8_init 69 = .ok (.newarray .int, 2) := by decide +kernel
theorem dX8_init_71 : decode cX8_init 71 = .ok (.putfield 35, 3) := by decide +kernel
theorem dX8_init_74 : decode cX8_init 74 = .ok (.aload_n 0, 1) := by decide +kernel
theorem dX8_init_75 : decode cX8_init 75 = .ok (.bipush 51, 2) := by decide +kernel
theorem dX8_init_77 : decode cX8_init 77 = .ok (.newarray .int, 2) := by decide +kernel
theorem dX8_init_79 : decode cX8_init 79 = .ok (.putfield 38, 3) := by decide +kernel
theorem dX8_init_82 : decode cX8_init 82 = .ok (.aload_n 0, 1) := by decide +kernel
theorem dX8_init_83 : decode cX8_init 83 = .ok (.sipush 1530, 3) := by decide +kernel
theorem dX8_init_86 : decode cX8_init 86 = .ok (.newarray .int, 2) := by decide +kernel
theorem dX8_init_88 : decode cX8_init 88 = .ok (.putfield 41, 3) := by decide +kernel
theorem dX8_init_91 : decode cX8_init 91 = .ok (.aload_n 0, 1) := by decide +kernel
theorem dX8_init_92 : decode cX8_init 92 = .ok (.bipush 102, 2) := by decide +kernel
theorem dX8_init_94 : decode cX8_init 94 = .ok (.newarray .int, 2) := by decide +kernel
theorem dX8_init_96 : decode cX8_init 96 = .ok (.putfield 44, 3) := by decide +kernel
theorem dX8_init_99 : decode cX8_init 99 = .ok (.aload_n 0, 1) := by decide +kernel
theorem dX8_init_100 : decode cX8_init 100 = .ok (.iconst 2, 1) := by decide +kernel
theorem dX8_init_101 : decode cX8_init 101 = .ok (.newarray .long, 2) := by decide +kernel
theorem dX8_init_103 : decode cX8_init 103 = .ok (.putfield 47, 3) := by decide +kernel
theorem dX8_init_106 : decode cX8_init 106 = .ok (.aload_n 0, 1) := by decide +kernel
theorem dX8_init_107 : decode cX8_init 107 = .ok (.iconst 2, 1) := by decide +kernel
theorem dX8_init_108 : decode cX8_init 108 = .ok (.newarray .boolean, 2) := by decide +kernel
theorem dX8_init_110 : decode cX8_init 110 = .ok (.putfield 51, 3) := by decide +kernel
theorem dX8_init_113 : decode cX8_init 113 = .ok (.aload_n 0, 1) := by decide +kernel
theorem dX8_init_114 : decode cX8_init 114 = .ok (.bipush 12, 2) := by decide +kernel
theorem dX8_init_116 : decode cX8_init 116 = .ok (.newarray .int, 2) := by decide +kernel
theorem dX8_init_118 : decode cX8_init 118 = .ok (.putfield 55, 3) := by decide +kernel
theorem dX8_init_121 : decode cX8_init 121 = .ok (.aload_n 0, 1) := by decide +kernel
theorem dX8_init_122 : decode cX8_init 122 = .ok (.bipush 40, 2) := by decide +kernel
theorem dX8_init_124 : decode cX8_init 124 = .ok (.newarray .int, 2) := by decide +kernel
theorem dX8_init_126 : decode cX8_init 126 = .ok (.putfield 58, 3) := by decide +kernel
theorem dX8_init_129 : decode cX8_init 129 = .ok (.aload_n 0, 1) := by decide +kernel
theorem dX8_init_130 : decode cX8_init 130 = .ok (.bipush 8, 2) := by decide +kernel
theorem dX8_init_132 : decode cX8_init 132 = .ok (.newarray .int, 2) := by decide +kernel
theorem dX8_init_134 : decode cX8_init 134 = .ok (.putfield 61, 3) := by decide +kernel
theorem dX8_init_137 : decode cX8_init 137 = .ok (.aload_n 0, 1) := by decide +kernel
theorem dX8_init_138 : decode cX8_init 138 = .ok (.bipush 8, 2) := by decide +kernel
theorem dX8_init_140 : decode cX8_init 140 = .ok (.newarray .int, 2) := by decide +kernel
theorem dX8_init_142 : decode cX8_init 142 = .ok (.putfield 64, 3) := by decide +kernel
theorem dX8_init_145 : decode cX8_init 145 = .ok (.aload_n 0, 1) := by decide +kernel
theorem dX8_init_146 : decode cX8_init 146 = .ok (.bipush 8, 2) := by decide +kernel
theorem dX8_init_148 : decode cX8_init 148 = .ok (.newarray .int, 2) := by decide +kernel
theorem dX8_init_150 : decode cX8_init 150 = .ok (.putfield 67, 3) := by decide +kernel
theorem dX8_init_153 : decode cX8_init 153 = .ok (.aload_n 0, 1) := by decide +kernel
theorem dX8_init_154 : decode cX8_init 154 = .ok (.bipush 6, 2) := by decide +kernel
theorem dX8_init_156 : decode cX8_init 156 = .ok (.newarray .int, 2) := by decide +kernel
theorem dX8_init_158 : decode cX8_init 158 = .ok (.putfield 70, 3) := by decide +kernel
theorem dX8_init_161 : decode cX8_init 161 = .ok (.aload_n 0, 1) := by decide +kernel
theorem dX8_init_162 : decode cX8_init 162 = .ok (.bipush 6, 2) := by decide +kernel
theorem dX8_init_164 : decode cX8_init 164 = .ok (.newarray .int, 2) := by decide +kernel
theorem dX8_init_166 : decode cX8_init 166 = .ok (.putfield 73, 3) := by decide +kernel
theorem dX8_init_169 : decode cX8_init 169 = .ok (.aload_n 0, 1) := by decide +kernel
theorem dX8_init_170 : decode cX8_init 170 = .ok (.bipush 51, 2) := by decide +kernel
theorem dX8_init_172 : decode cX8_init 172 = .ok (.newarray .int, 2) := by decide +kernel
theorem dX8_init_174 : decode cX8_init 174 = .ok (.putfield 76, 3) := by decide +kernel
theorem dX8_init_177 : decode cX8_init 177 = .ok (.aload_n 0, 1) := by decide +kernel
theorem dX8_init_178 : decode cX8_init 178 = .ok (.sipush 8064, 3) := by decide +kernel
theorem dX8_init_181 : decode cX8_init 181 = .ok (.newarray .int, 2) := by decide +kernel
theorem dX8_init_183 : decode cX8_init 183 = .ok (.putfield 79, 3) := by decide +kernel
theorem dX8_init_186 : decode cX8_init 186 = .ok (.return_, 1) := by decide +kernel
theorem dX8_in_0 : decode cX8_in 0 = .ok (.iload_n 0, 1) := by decide +kernel
theorem dX8_in_1 : decode cX8_in 1 = .ok (.iload_n 1, 1) := by decide +kernel
theorem dX8_in_2 : decode cX8_in 2 = .ok (.if_icmp .lt 12, 3) := by decide +kernel
theorem dX8_in_5 : decode cX8_in 5 = .ok (.iload_n 0, 1) := by decide +kernel
theorem dX8_in_6 : decode cX8_in 6 = .ok (.iload_n 2, 1) := by decide +kernel
theorem dX8_in_7 : decode cX8_in 7 = .ok (.if_icmp .gt 7, 3) := by decide +kernel
theorem dX8_in_10 : decode cX8_in 10 = .ok (.iconst 1, 1) := by decide +kernel
theorem dX8_in_11 : decode cX8_in 11 = .ok (.goto 4, 3) := by decide +kernel
theorem dX8_in_14 : decode cX8_in 14 = .ok (.iconst 0, 1) := by decide +kernel
theorem dX8_in_15 : decode cX8_in 15 = .ok (.ireturn, 1) := by decide +kernel
theorem dX8_has_0 : decode cX8_has 0 = .ok (.iload_n 0, 1) := by decide +kernel
theorem dX8_has_1 : decode cX8_has 1 = .ok (.iload_n 1, 1) := by decide +kernel
theorem dX8_has_2 : decode cX8_has 2 = .ok (.ishr, 1) := by decide +kernel
theorem dX8_has_3 : decode cX8_has 3 = .ok (.iconst 1, 1) := by decide +kernel
theorem dX8_has_4 : decode cX8_has 4 = .ok (.iand, 1) := by decide +kernel
theorem dX8_has_5 : decode cX8_has 5 = .ok (.iconst 1, 1) := by decide +kernel
theorem dX8_has_6 : decode cX8_has 6 = .ok (.if_icmp .ne 7, 3) := by decide +kernel
theorem dX8_has_9 : decode cX8_has 9 = .ok (.iconst 1, 1) := by decide +kernel
theorem dX8_has_10 : decode cX8_has 10 = .ok (.goto 4, 3) := by decide +kernel
theorem dX8_has_13 : decode cX8_has 13 = .ok (.iconst 0, 1) := by decide +kernel
theorem dX8_has_14 : decode cX8_has 14 = .ok (.ireturn, 1) := by decide +kernel
theorem dX8_bits_0 : decode cX8_bits 0 = .ok (.iconst 0, 1) := by decide +kernel
theorem dX8_bits_1 : decode cX8_bits 1 = .ok (.istore_n 1, 1) := by decide +kernel
theorem dX8_bits_2 : decode cX8_bits 2 = .ok (.iload_n 0, 1) := by decide +kernel
theorem dX8_bits_3 : decode cX8_bits 3 = .ok (.istore_n 2, 1) := by decide +kernel
theorem dX8_bits_4 : decode cX8_bits 4 = .ok (.iload_n 2, 1) := by decide +kernel
theorem dX8_bits_5 : decode cX8_bits 5 = .ok (.ifCond .eq 15, 3) := by decide +kernel
theorem dX8_bits_8 : decode cX8_bits 8 = .ok (.iinc 1 1, 3) := by decide +kernel
theorem dX8_bits_11 : decode cX8_bits 11 = .ok (.iload_n 2, 1) := by decide +kernel
theorem dX8_bits_12 : decode cX8_bits 12 = .ok (.iload_n 2, 1) := by decide +kernel
theorem dX8_bits_13 : decode cX8_bits 13 = .ok (.iconst 1, 1) := by decide +kernel
theorem dX8_bits_14 : decode cX8_bits 14 = .ok (.isub, 1) := by decide +kernel
theorem dX8_bits_15 : decode cX8_bits 15 = .ok (.iand, 1) := by decide +kernel
theorem dX8_bits_16 : decode cX8_bits 16 = .ok (.istore_n 2, 1) := by decide +kernel
theorem dX8_bits_17 : decode cX8_bits 17 = .ok (.goto (-13), 3) := by decide +kernel
theorem dX8_bits_20 : decode cX8_bits 20 = .ok (.iload_n 1, 1) := by decide +kernel
theorem dX8_bits_21 : decode cX8_bits 21 = .ok (.ireturn, 1) := by decide +kernel
theorem dX8_bring_0 : decode cX8_bring 0 = .ok (.iconst 0, 1) := by decide +kernel
theorem dX8_bring_1 : decode cX8_bring 1 = .ok (.istore 5, 2) := by decide +kernel
theorem dX8_bring_3 : decode cX8_bring 3 = .ok (.iload 5, 2) := by decide +kernel
theorem dX8_bring_5 : decode cX8_bring 5 = .ok (.iload 4, 2) := by decide +kernel
theorem dX8_bring_7 : decode cX8_bring 7 = .ok (.if_icmp .ge 21, 3) := by decide +kernel
theorem dX8_bring_10 : decode cX8_bring 10 = .ok (.aload_n 2, 1) := by decide +kernel
theorem dX8_bring_11 : decode cX8_bring 11 = .ok (.iload_n 3, 1) := by decide +kernel
theorem dX8_bring_12 : decode cX8_bring 12 = .ok (.iload 5, 2) := by decide +kernel
theorem dX8_bring_14 : decode cX8_bring 14 = .ok (.iadd, 1) := by decide +kernel
theorem dX8_bring_15 : decode cX8_bring 15 = .ok (.aload_n 0, 1) := by decide +kernel
theorem dX8_bring_16 : decode cX8_bring 16 = .ok (.iload_n 1, 1) := by decide +kernel
theorem dX8_bring_17 : decode cX8_bring 17 = .ok (.iload 5, 2) := by decide +kernel
theorem dX8_bring_19 : decode cX8_bring 19 = .ok (.iadd, 1) := by decide +kernel
theorem dX8_bring_20 : decode cX8_bring 20 = .ok (.iaload, 1) := by decide +kernel
theorem dX8_bring_21 : decode cX8_bring 21 = .ok (.iastore, 1) := by decide +kernel
theorem dX8_bring_22 : decode cX8_bring 22 = .ok (.iinc 5 1, 3) := by decide +kernel
theorem dX8_bring_25 : decode cX8_bring 25 = .ok (.goto (-22), 3) := by decide +kernel
theorem dX8_bring_28 : decode cX8_bring 28 = .ok (.return_, 1) := by decide +kernel
theorem dX8_isRoom_0 : decode cX8_isRoom 0 = .ok (.iload_n 1, 1) := by decide +kernel
theorem dX8_isRoom_1 : decode cX8_isRoom 1 = .ok (.iconst 0, 1) := by decide +kernel
theorem dX8_isRoom_2 : decode cX8_isRoom 2 = .ok (.aload_n 0, 1) := by decide +kernel
theorem dX8_isRoom_3 : decode cX8_isRoom 3 = .ok (.getfield 82, 3) := by decide +kernel
theorem dX8_isRoom_6 : decode cX8_isRoom 6 = .ok (.iconst 1, 1) := by decide +kernel
theorem dX8_isRoom_7 : decode cX8_isRoom 7 = .ok (.isub, 1) := by decide +kernel
theorem dX8_isRoom_8 : decode cX8_isRoom 8 = .ok (.invokestatic 85, 3) := by decide +kernel
theorem dX8_isRoom_11 : decode cX8_isRoom 11 = .ok (.ireturn, 1) := by decide +kernel
theorem dX8_isHeir_0 : decode cX8_isHeir 0 = .ok (.iload_n 1, 1) := by decide +kernel
theorem dX8_isHeir_1 : decode cX8_isHeir 1 = .ok (.iconst 0, 1) := by decide +kernel
theorem dX8_isHeir_2 : decode cX8_isHeir 2 = .ok (.aload_n 0, 1) := by decide +kernel
theorem dX8_isHeir_3 : decode cX8_isHeir 3 = .ok (.getfield 89, 3) := by decide +kernel
theorem dX8_isHeir_6 : decode cX8_isHeir 6 = .ok (.iconst 1, 1) := by decide +kernel
theorem dX8_isHeir_7 : decode cX8_isHeir 7 = .ok (.isub, 1) := by decide +kernel
theorem dX8_isHeir_8 : decode cX8_isHeir 8 = .ok (.invokestatic 85, 3) := by decide +kernel
theorem dX8_isHeir_11 : decode cX8_isHeir 11 = .ok (.ireturn, 1) := by decide +kernel
theorem dX8_isDoor_0 : decode cX8_isDoor 0 = .ok (.iload_n 1, 1) := by decide +kernel
theorem dX8_isDoor_1 : decode cX8_isDoor 1 = .ok (.iconst 0, 1) := by decide +kernel
theorem dX8_isDoor_2 : decode cX8_isDoor 2 = .ok (.aload_n 0, 1) := by decide +kernel
theorem dX8_isDoor_3 : decode cX8_isDoor 3 = .ok (.getfield 92, 3) := by decide +kernel
theorem dX8_isDoor_6 : decode cX8_isDoor 6 = .ok (.iconst 1, 1) := by decide +kernel
theorem dX8_isDoor_7 : decode cX8_isDoor 7 = .ok (.isub, 1) := by decide +kernel
theorem dX8_isDoor_8 : decode cX8_isDoor 8 = .ok (.invokestatic 85, 3) := by decide +kernel
theorem dX8_isDoor_11 : decode cX8_isDoor 11 = .ok (.ireturn, 1) := by decide +kernel
theorem dX8_feed_0 : decode cX8_feed 0 = .ok (.iload_n 1, 1) := by decide +kernel
theorem dX8_feed_1 : decode cX8_feed 1 = .ok (.iconst 0, 1) := by decide +kernel
theorem dX8_feed_2 : decode cX8_feed 2 = .ok (.sipush 255, 3) := by decide +kernel
theorem dX8_feed_5 : decode cX8_feed 5 = .ok (.invokestatic 85, 3) := by decide +kernel
theorem dX8_feed_8 : decode cX8_feed 8 = .ok (.ifCond .ne 6, 3) := by decide +kernel
theorem dX8_feed_11 : decode cX8_feed 11 = .ok (.ldc 95, 2) := by decide +kernel
theorem dX8_feed_13 : decode cX8_feed 13 = .ok (.ireturn, 1) := by decide +kernel
theorem dX8_feed_14 : decode cX8_feed 14 = .ok (.aload_n 0, 1) := by decide +kernel
theorem dX8_feed_15 : decode cX8_feed 15 = .ok (.getfield 96, 3) := by decide +kernel
theorem dX8_feed_18 : decode cX8_feed 18 = .ok (.sipush 240, 3) := by decide +kernel
theorem dX8_feed_21 : decode cX8_feed 21 = .ok (.if_icmp .ne 6, 3) := by decide +kernel
theorem dX8_feed_24 : decode cX8_feed 24 = .ok (.ldc 99, 2) := by decide +kernel
theorem dX8_feed_26 : decode cX8_feed 26 = .ok (.ireturn, 1) := by decide +kernel
theorem dX8_feed_27 : decode cX8_feed 27 = .ok (.aload_n 0, 1) := by decide +kernel
theorem dX8_feed_28 : decode cX8_feed 28 = .ok (.getfield 7, 3) := by decide +kernel
theorem dX8_feed_31 : decode cX8_feed 31 = .ok (.aload_n 0, 1) := by decide +kernel
theorem dX8_feed_32 : decode cX8_feed 32 = .ok (.getfield 96, 3) := by decide +kernel
theorem dX8_feed_35 : decode cX8_feed 35 = .ok (.iload_n 1, 1) := by decide +kernel
theorem dX8_feed_36 : decode cX8_feed 36 = .ok (.iastore, 1) := by decide +kernel
theorem dX8_feed_37 : decode cX8_feed 37 = .ok (.aload_n 0, 1) := by decide +kernel
theorem dX8_feed_38 : decode cX8_feed 38 = .ok (.dup, 1) := by decide +kernel
theorem dX8_feed_39 : decode cX8_feed 39 = .ok (.getfield 96, 3) := by decide +kernel
theorem dX8_feed_42 : decode cX8_feed 42 = .ok (.iconst 1, 1) := by decide +kernel
theorem dX8_feed_43 : decode cX8_feed 43 = .ok (.iadd, 1) := by decide +kernel
theorem dX8_feed_44 : decode cX8_feed 44 = .ok (.putfield 96, 3) := by decide +kernel
theorem dX8_feed_47 : decode cX8_feed 47 = .ok (.aload_n 0, 1) := by decide +kernel
theorem dX8_feed_48 : decode cX8_feed 48 = .ok (.getfield 96, 3) := by decide +kernel
theorem dX8_feed_51 : decode cX8_feed 51 = .ok (.ireturn, 1) := by decide +kernel
theorem dX8_here_0 : decode cX8_here 0 = .ok (.aload_n 0, 1) := by decide +kernel
theorem dX8_here_1 : decode cX8_here 1 = .ok (.getfield 100, 3) := by decide +kernel
theorem dX8_here_4 : decode cX8_here 4 = .ok (.aload_n 0, 1) := by decide +kernel
theorem dX8_here_5 : decode cX8_here 5 = .ok (.getfield 96, 3) := by decide +kernel
theorem dX8_here_8 : decode cX8_here 8 = .ok (.if_icmp .ge 15, 3) := by decide +kernel
theorem dX8_here_11 : decode cX8_here 11 = .ok (.aload_n 0, 1) := by decide +kernel
theorem dX8_here_12 : decode cX8_here 12 = .ok (.getfield 7, 3) := by decide +kernel
theorem dX8_here_15 : decode cX8_here 15 = .ok (.aload_n 0, 1) := by decide +kernel
theorem dX8_here_16 : decode cX8_here 16 = .ok (.getfield 100, 3) := by decide +kernel
theorem dX8_here_19 : decode cX8_here 19 = .ok (.iaload, 1) := by decide +kernel
theorem dX8_here_20 : decode cX8_here 20 = .ok (.goto 4, 3) := by decide +kernel
theorem dX8_here_23 : decode cX8_here 23 = .ok (.iconst (-1), 1) := by decide +kernel
theorem dX8_here_24 : decode cX8_here 24 = .ok (.ireturn, 1) := by decide +kernel
theorem dX8_skips_0 : decode cX8_skips 0 = .ok (.aload_n 0, 1) := by decide +kernel
theorem dX8_skips_1 : decode cX8_skips 1 = .ok (.invokevirtual 103, 3) := by decide +kernel
theorem dX8_skips_4 : decode cX8_skips 4 = .ok (.bipush 32, 2) := by decide +kernel
theorem dX8_skips_6 : decode cX8_skips 6 = .ok (.if_icmp .ne 16, 3) := by decide +kernel
theorem dX8_skips_9 : decode cX8_skips 9 = .ok (.aload_n 0, 1) := by decide +kernel
theorem dX8_skips_10 : decode cX8_skips 10 = .ok (.dup, 1) := by decide +kernel
theorem dX8_skips_11 : decode cX8_skips 11 = .ok (.getfield 100, 3) := by decide +kernel
theorem dX8_skips_14 : decode cX8_skips 14 = .ok (.iconst 1, 1) := by decide +kernel
theorem dX8_skips_15 : decode cX8_skips 15 = .ok (.iadd, 1) := by decide +kernel
theorem dX8_skips_16 : decode cX8_skips 16 = .ok (.putfield 100, 3) := by decide +kernel
theorem dX8_skips_19 : decode cX8_skips 19 = .ok (.goto (-19), 3) := by decide +kernel
theorem dX8_skips_22 : decode cX8_skips 22 = .ok (.return_, 1) := by decide +kernel
theorem dX8_fails_0 : decode cX8_fails 0 = .ok (.aload_n 0, 1) := by decide +kernel
theorem dX8_fails_1 : decode cX8_fails 1 = .ok (.getfield 107, 3) := by decide +kernel
theorem dX8_fails_4 : decode cX8_fails 4 = .ok (.ifCond .ne 16, 3) := by decide +kernel
theorem dX8_fails_7 : decode cX8_fails 7 = .ok (.aload_n 0, 1) := by decide +kernel
theorem dX8_fails_8 : decode cX8_fails 8 = .ok (.iload_n 1, 1) := by decide +kernel
theorem dX8_fails_9 : decode cX8_fails 9 = .ok (.putfield 107, 3) := by decide +kernel
theorem dX8_fails_12 : decode cX8_fails 12 = .ok (.aload_n 0, 1) := by decide +kernel
theorem dX8_fails_13 : decode cX8_fails 13 = .ok (.aload_n 0, 1) := by decide +kernel
theorem dX8_fails_14 : decode cX8_fails 14 = .ok (.getfield 100, 3) := by decide +kernel
theorem dX8_fails_17 : decode cX8_fails 17 = .ok (.putfield 110, 3) := by decide +kernel
theorem dX8_fails_20 : decode cX8_fails 20 = .ok (.return_, 1) := by decide +kernel
theorem dX8_number_0 : decode cX8_number 0 = .ok (.aload_n 0, 1) := by decide +kernel
theorem dX8_number_1 : decode cX8_number 1 = .ok (.getfield 107, 3) := by decide +kernel
theorem dX8_number_4 : decode cX8_number 4 = .ok (.ifCond .eq 5, 3) := by decide +kernel
theorem dX8_number_7 : decode cX8_number 7 = .ok (.iconst 0, 1) := by decide +kernel
theorem dX8_number_8 : decode cX8_number 8 = .ok (.ireturn, 1) := by decide +kernel
theorem dX8_number_9 : decode cX8_number 9 = .ok (.aload_n 0, 1) := by decide +kernel
theorem dX8_number_10 : decode cX8_number 10 = .ok (.invokevirtual 113, 3) := by decide +kernel
theorem dX8_number_13 : decode cX8_number 13 = .ok (.iconst 0, 1) := by decide +kernel
theorem dX8_number_14 : decode cX8_number 14 = .ok (.istore 4, 2) := by decide +kernel
theorem dX8_number_16 : decode cX8_number 16 = .ok (.iconst 0, 1) := by decide +kernel
theorem dX8_number_17 : decode cX8_number 17 = .ok (.istore 5, 2) := by decide +kernel
theorem dX8_number_19 : decode cX8_number 19 = .ok (.aload_n 0, 1) := by decide +kernel
theorem dX8_number_20 : decode cX8_number 20 = .ok (.getfield 100, 3) := by decide +kernel
theorem dX8_number_23 : decode cX8_number 23 = .ok (.iload 4, 2) := by decide +kernel
theorem dX8_number_25 : decode cX8_number 25 = .ok (.iadd, 1) := by decide +kernel
theorem dX8_number_26 : decode cX8_number 26 = .ok (.aload_n 0, 1) := by decide +kernel
theorem dX8_number_27 : decode cX8_number 27 = .ok (.getfield 96, 3) := by decide +kernel
theorem dX8_number_30 : decode cX8_number 30 = .ok (.if_icmp .ge 65, 3) := by decide +kernel
theorem dX8_number_33 : decode cX8_number 33 = .ok (.aload_n 0, 1) := by decide +kernel
theorem dX8_number_34 : decode cX8_number 34 = .ok (.getfield 7, 3) := by decide +kernel
theorem dX8_number_37 : decode cX8_number 37 = .ok (.aload_n 0, 1) := by decide +kernel
theorem dX8_number_38 : decode cX8_number 38 = .ok (.getfield 100, 3) := by decide +kernel
theorem dX8_number_41 : decode cX8_number 41 = .ok (.iload 4, 2) := by decide +kernel
theorem dX8_number_43 : decode cX8_number 43 = .ok (.iadd, 1) := by decide +kernel
theorem dX8_number_44 : decode cX8_number 44 = .ok (.iaload, 1) := by decide +kernel
theorem dX8_number_45 : decode cX8_number 45 = .ok (.bipush 48, 2) := by decide +kernel
theorem dX8_number_47 : decode cX8_number 47 = .ok (.bipush 57, 2) := by decide +kernel
theorem dX8_number_49 : decode cX8_number 49 = .ok (.invokestatic 85, 3) := by decide +kernel
theorem dX8_number_52 : decode cX8_number 52 = .ok (.ifCond .eq 43, 3) := by decide +kernel
theorem dX8_number_55 : decode cX8_number 55 = .ok (.iload 4, 2) := by decide +kernel
theorem dX8_number_57 : decode cX8_number 57 = .ok (.iconst 4, 1) := by decide +kernel
theorem dX8_number_58 : decode cX8_number 58 = .ok (.if_icmp .ge 27, 3) := by decide +kernel
theorem dX8_number_61 : decode cX8_number 61 = .ok (.bipush 10, 2) := by decide +kernel
theorem dX8_number_63 : decode cX8_number 63 = .ok (.iload 5, 2) := by decide +kernel
theorem dX8_number_65 : decode cX8_number 65 = .ok (.imul, 1) := by decide +kernel
theorem dX8_number_66 : decode cX8_number 66 = .ok (.aload_n 0, 1) := by decide +kernel
theorem dX8_number_67 : decode cX8_number 67 = .ok (.getfield 7, 3) := by decide +kernel
theorem dX8_number_70 : decode cX8_number 70 = .ok (.aload_n 0, 1) := by decide +kernel
theorem dX8_number_71 : decode cX8_number 71 = .ok (.getfield 100, 3) := by decide +kernel
theorem dX8_number_74 : decode cX8_number 74 = .ok (.iload 4, 2) := by decide +kernel
theorem dX8_number_76 : decode cX8_number 76 = .ok (.iadd, 1) := by decide +kernel
theorem dX8_number_77 : decode cX8_number 77 = .ok (.iaload, 1) := by decide +kernel
theorem dX8_number_78 : decode cX8_number 78 = .ok (.iadd, 1) := by decide +kernel
theorem dX8_number_79 : decode cX8_number 79 = .ok (.bipush 48, 2) := by decide +kernel
theorem dX8_number_81 : decode cX8_number 81 = .ok (.isub, 1) := by decide +kernel
theorem dX8_number_82 : decode cX8_number 82 = .ok (.goto 5, 3) := by decide +kernel
theorem dX8_number_85 : decode cX8_number 85 = .ok (.iload 5, 2) := by decide +kernel
theorem dX8_number_87 : decode cX8_number 87 = .ok (.istore 5, 2) := by decide +kernel
theorem dX8_number_89 : decode cX8_number 89 = .ok (.iinc 4 1, 3) := by decide +kernel
theorem dX8_number_92 : decode cX8_number 92 = .ok (.goto (-73), 3) := by decide +kernel
theorem dX8_number_95 : decode cX8_number 95 = .ok (.iload 4, 2) := by decide +kernel
theorem dX8_number_97 : decode cX8_number 97 = .ok (.ifCond .ne 11, 3) := by decide +kernel
theorem dX8_number_100 : decode cX8_number 100 = .ok (.aload_n 0, 1) := by decide +kernel
theorem dX8_number_101 : decode cX8_number 101 = .ok (.iconst 1, 1) := by decide +kernel
theorem dX8_number_102 : decode cX8_number 102 = .ok (.invokevirtual 116, 3) := by decide +kernel
theorem dX8_number_105 : decode cX8_number 105 = .ok (.goto 38, 3) := by decide +kernel
theorem dX8_number_108 : decode cX8_number 108 = .ok (.iload 4, 2) := by decide +kernel
theorem dX8_number_110 : decode cX8_number 110 = .ok (.iconst 3, 1) := by decide +kernel
theorem dX8_number_111 : decode cX8_number 111 = .ok (.if_icmp .gt 13, 3) := by decide +kernel
theorem dX8_number_114 : decode cX8_number 114 = .ok (.iload 5, 2) := by decide +kernel
theorem dX8_number_116 : decode cX8_number 116 = .ok (.iload_n 1, 1) := by decide +kernel
theorem dX8_number_117 : decode cX8_number 117 = .ok (.iload_n 2, 1) := by decide +kernel
theorem dX8_number_118 : decode cX8_number 118 = .ok (.invokestatic 85, 3) := by decide +kernel
theorem dX8_number_121 : decode cX8_number 121 = .ok (.ifCond .ne 11, 3) := by decide +kernel
theorem dX8_number_124 : decode cX8_number 124 = .ok (.aload_n 0, 1) := by decide +kernel
theorem dX8_number_125 : decode cX8_number 125 = .ok (.iconst 2, 1) := by decide +kernel
theorem dX8_number_126 : decode cX8_number 126 = .ok (.invokevirtual 116, 3) := by decide +kernel
theorem dX8_number_129 : decode cX8_number 129 = .ok (.goto 14, 3) := by decide +kernel
theorem dX8_number_132 : decode cX8_number 132 = .ok (.iload 5, 2) := by decide +kernel
theorem dX8_number_134 : decode cX8_number 134 = .ok (.iload_n 3, 1) := by decide +kernel
theorem dX8_number_135 : decode cX8_number 135 = .ok (.if_icmp .ne 8, 3) := by decide +kernel
theorem dX8_number_138 : decode cX8_number 138 = .ok (.aload_n 0, 1) := by decide +kernel
theorem dX8_number_139 : decode cX8_number 139 = .ok (.iconst 4, 1) := by decide +kernel
theorem dX8_number_140 : decode cX8_number 140 = .ok (.invokevirtual 116, 3) := by decide +kernel
theorem dX8_number_143 : decode cX8_number 143 = .ok (.aload_n 0, 1) := by decide +kernel
theorem dX8_number_144 : decode cX8_number 144 = .ok (.dup, 1) := by decide +kernel
theorem dX8_number_145 : decode cX8_number 145 = .ok (.getfield 100, 3) := by decide +kernel
theorem dX8_number_148 : decode cX8_number 148 = .ok (.iload 4, 2) := by decide +kernel
theorem dX8_number_150 : decode cX8_number 150 = .ok (.iadd, 1) := by decide +kernel
theorem dX8_number_151 : decode cX8_number 151 = .ok (.putfield 100, 3) := by decide +kernel
theorem dX8_number_154 : decode cX8_number 154 = .ok (.aload_n 0, 1) := by decide +kernel
theorem dX8_number_155 : decode cX8_number 155 = .ok (.getfield 107, 3) := by decide +kernel
theorem dX8_number_158 : decode cX8_number 158 = .ok (.ifCond .eq 7, 3) := by decide +kernel
theorem dX8_number_161 : decode cX8_number 161 = .ok (.iconst 0, 1) := by decide +kernel
theorem dX8_number_162 : decode cX8_number 162 = .ok (.goto 5, 3) := by decide +kernel
theorem dX8_number_165 : decode cX8_number 165 = .ok (.iload 5, 2) := by decide +kernel
theorem dX8_number_167 : decode cX8_number 167 = .ok (.ireturn, 1) := by decide +kernel
theorem dX8_ends_0 : decode cX8_ends 0 = .ok (.aload_n 0, 1) := by decide +kernel
theorem dX8_ends_1 : decode cX8_ends 1 = .ok (.getfield 107, 3) := by decide +kernel
theorem dX8_ends_4 : decode cX8_ends 4 = .ok (.ifCond .eq 4, 3) := by decide +kernel
theorem dX8_ends_7 : decode cX8_ends 7 = .ok (.return_, 1) := by decide +kernel
theorem dX8_ends_8 : decode cX8_ends 8 = .ok (.aload_n 0, 1) := by decide +kernel
theorem dX8_ends_9 : decode cX8_ends 9 = .ok (.invokevirtual 113, 3) := by decide +kernel
theorem dX8_ends_12 : decode cX8_ends 12 = .ok (.aload_n 0, 1) := by decide +kernel
theorem dX8_ends_13 : decode cX8_ends 13 = .ok (.invokevirtual 103, 3) := by decide +kernel
theorem dX8_ends_16 : decode cX8_ends 16 = .ok (.bipush 59, 2) := by decide +kernel
theorem dX8_ends_18 : decode cX8_ends 18 = .ok (.if_icmp .ne 16, 3) := by decide +kernel
theorem dX8_ends_21 : decode cX8_ends 21 = .ok (.aload_n 0, 1) := by decide +kernel
theorem dX8_ends_22 : decode cX8_ends 22 = .ok (.dup, 1) := by decide +kernel
theorem dX8_ends_23 : decode cX8_ends 23 = .ok (.getfield 100, 3) := by decide +kernel
theorem dX8_ends_26 : decode cX8_ends 26 = .ok (.iconst 1, 1) := by decide +kernel
theorem dX8_ends_27 : decode cX8_ends 27 = .ok (.iadd, 1) := by decide +kernel
theorem dX8_ends_28 : decode cX8_ends 28 = .ok (.putfield 100, 3) := by decide +kernel
theorem dX8_ends_31 : decode cX8_ends 31 = .ok (.goto 8, 3) := by decide +kernel
theorem dX8_ends_34 : decode cX8_ends 34 = .ok (.aload_n 0, 1) := by decide +kernel
theorem dX8_ends_35 : decode cX8_ends 35 = .ok (.iconst 1, 1) := by decide +kernel
theorem dX8_ends_36 : decode cX8_ends 36 = .ok (.invokevirtual 116, 3) := by decide +kernel
theorem dX8_ends_39 : decode cX8_ends 39 = .ok (.return_, 1) := by decide +kernel
theorem dX8_readRoom_0 : decode cX8_readRoom 0 = .ok (.aload_n 0, 1) := by decide +kernel
theorem dX8_readRoom_1 : decode cX8_readRoom 1 = .ok (.getfield 76, 3) := by decide +kernel
theorem dX8_readRoom_4 : decode cX8_readRoom 4 = .ok (.iconst 3, 1) := by decide +kernel
theorem dX8_readRoom_5 : decode cX8_readRoom 5 = .ok (.aload_n 0, 1) := by decide +kernel
theorem dX8_readRoom_6 : decode cX8_readRoom 6 = .ok (.getfield 120, 3) := by decide +kernel
theorem dX8_readRoom_9 : decode cX8_readRoom 9 = .ok (.iadd, 1) := by decide +kernel
theorem dX8_readRoom_10 : decode cX8_readRoom 10 = .ok (.aload_n 0, 1) := by decide +kernel
theorem dX8_readRoom_11 : decode cX8_readRoom 11 = .ok (.iconst 0, 1) := by decide +kernel
theorem dX8_readRoom_12 : decode cX8_readRoom 12 = .ok (.bipush 20, 2) := by decide +kernel
theorem dX8_readRoom_14 : decode cX8_readRoom 14 = .ok (.iconst (-1), 1) := by decide +kernel
theorem dX8_readRoom_15 : decode cX8_readRoom 15 = .ok (.invokevirtual 123, 3) := by decide +kernel
theorem dX8_readRoom_18 : decode cX8_readRoom 18 = .ok (.iastore, 1) := by decide +kernel
theorem dX8_readRoom_19 : decode cX8_readRoom 19 = .ok (.aload_n 0, 1) := by decide +kernel
theorem dX8_readRoom_20 : decode cX8_readRoom 20 = .ok (.dup, 1) := by decide +kernel
theorem dX8_readRoom_21 : decode cX8_readRoom 21 = .ok (.getfield 120, 3) := by decide +kernel
theorem dX8_readRoom_24 : decode cX8_readRoom 24 = .ok (.iconst 1, 1) := by decide +kernel
theorem dX8_readRoom_25 : decode cX8_readRoom 25 = .ok (.iadd, 1) := by decide +kernel
theorem dX8_readRoom_26 : decode cX8_readRoom 26 = .ok (.putfield 120, 3) := by decide +kernel
theorem dX8_readRoom_29 : decode cX8_readRoom 29 = .ok (.aload_n 0, 1) := by decide +kernel
theorem dX8_readRoom_30 : decode cX8_readRoom 30 = .ok (.invokevirtual 127, 3) := by decide +kernel
theorem dX8_readRoom_33 : decode cX8_readRoom 33 = .ok (.return_, 1) := by decide +kernel
theorem dX8_readDoor_0 : decode cX8_readDoor 0 = .ok (.aload_n 0, 1) := by decide +kernel
theorem dX8_readDoor_1 : decode cX8_readDoor 1 = .ok (.getfield 130, 3) := by decide +kernel
theorem dX8_readDoor_4 : decode cX8_readDoor 4 = .ok (.istore_n 1, 1) := by decide +kernel
theorem dX8_readDoor_5 : decode cX8_readDoor 5 = .ok (.aload_n 0, 1) := by decide +kernel
theorem dX8_readDoor_6 : decode cX8_readDoor 6 = .ok (.getfield 61, 3) := by decide +kernel
theorem dX8_readDoor_9 : decode cX8_readDoor 9 = .ok (.iload_n 1, 1) := by decide +kernel
theorem dX8_readDoor_10 : decode cX8_readDoor 10 = .ok (.aload_n 0, 1) := by decide +kernel
theorem dX8_readDoor_11 : decode cX8_readDoor 11 = .ok (.iconst 0, 1) := by decide +kernel
theorem dX8_readDoor_12 : decode cX8_readDoor 12 = .ok (.aload_n 0, 1) := by decide +kernel
theorem dX8_readDoor_13 : decode cX8_readDoor 13 = .ok (.getfield 120, 3) := by decide +kernel
theorem dX8_readDoor_16 : decode cX8_readDoor 16 = .ok (.iconst 1, 1) := by decide +kernel
theorem dX8_readDoor_17 : decode cX8_readDoor 17 = .ok (.isub, 1) := by decide +kernel
theorem dX8_readDoor_18 : decode cX8_readDoor 18 = .ok (.iconst (-1), 1) := by decide +kernel
theorem dX8_readDoor_19 : decode cX8_readDoor 19 = .ok (.invokevirtual 123, 3) := by decide +kernel
theorem dX8_readDoor_22 : decode cX8_readDoor 22 = .ok (.iastore, 1) := by decide +kernel
theorem dX8_readDoor_23 : decode cX8_readDoor 23 = .ok (.aload_n 0, 1) := by decide +kernel
theorem dX8_readDoor_24 : decode cX8_readDoor 24 = .ok (.getfield 64, 3) := by decide +kernel
theorem dX8_readDoor_27 : decode cX8_readDoor 27 = .ok (.iload_n 1, 1) := by decide +kernel
theorem dX8_readDoor_28 : decode cX8_readDoor 28 = .ok (.aload_n 0, 1) := by decide +kernel
theorem dX8_readDoor_29 : decode cX8_readDoor 29 = .ok (.iconst 0, 1) := by decide +kernel
theorem dX8_readDoor_30 : decode cX8_readDoor 30 = .ok (.aload_n 0, 1) := by decide +kernel
theorem dX8_readDoor_31 : decode cX8_readDoor 31 = .ok (.getfield 120, 3) := by decide +kernel
theorem dX8_readDoor_34 : decode cX8_readDoor 34 = .ok (.iconst 1, 1) := by decide +kernel
theorem dX8_readDoor_35 : decode cX8_readDoor 35 = .ok (.isub, 1) := by decide +kernel
theorem dX8_readDoor_36 : decode cX8_readDoor 36 = .ok (.aload_n 0, 1) := by decide +kernel
theorem dX8_readDoor_37 : decode cX8_readDoor 37 = .ok (.getfield 61, 3) := by decide +kernel
theorem dX8_readDoor_40 : decode cX8_readDoor 40 = .ok (.iload_n 1, 1) := by decide +kernel
theorem dX8_readDoor_41 : decode cX8_readDoor 41 = .ok (.iaload, 1) := by decide +kernel
theorem dX8_readDoor_42 : decode cX8_readDoor 42 = .ok (.invokevirtual 123, 3) := by decide +kernel
theorem dX8_readDoor_45 : decode cX8_readDoor 45 = .ok (.iastore, 1) := by decide +kernel
theorem dX8_readDoor_46 : decode cX8_readDoor 46 = .ok (.aload_n 0, 1) := by decide +kernel
theorem dX8_readDoor_47 : decode cX8_readDoor 47 = .ok (.getfield 67, 3) := by decide +kernel
theorem dX8_readDoor_50 : decode cX8_readDoor 50 = .ok (.iload_n 1, 1) := by decide +kernel
theorem dX8_readDoor_51 : decode cX8_readDoor 51 = .ok (.aload_n 0, 1) := by decide +kernel
theorem dX8_readDoor_52 : decode cX8_readDoor 52 = .ok (.iconst 0, 1) := by decide +kernel
theorem dX8_readDoor_53 : decode cX8_readDoor 53 = .ok (.bipush 9, 2) := by decide +kernel
theorem dX8_readDoor_55 : decode cX8_readDoor 55 = .ok (.iconst (-1), 1) := by decide +kernel
theorem dX8_readDoor_56 : decode cX8_readDoor 56 = .ok (.invokevirtual 123, 3) := by decide +kernel
theorem dX8_readDoor_59 : decode cX8_readDoor 59 = .ok (.iastore, 1) := by decide +kernel
theorem dX8_readDoor_60 : decode cX8_readDoor 60 = .ok (.aload_n 0, 1) := by decide +kernel
theorem dX8_readDoor_61 : decode cX8_readDoor 61 = .ok (.dup, 1) := by decide +kernel
theorem dX8_readDoor_62 : decode cX8_readDoor 62 = .ok (.getfield 130, 3) := by decide +kernel
theorem dX8_readDoor_65 : decode cX8_readDoor 65 = .ok (.iconst 1, 1) := by decide +kernel
theorem dX8_readDoor_66 : decode cX8_readDoor 66 = .ok (.iadd, 1) := by decide +kernel
theorem dX8_readDoor_67 : decode cX8_readDoor 67 = .ok (.putfield 130, 3) := by decide +kernel
theorem dX8_readDoor_70 : decode cX8_readDoor 70 = .ok (.aload_n 0, 1) := by decide +kernel
theorem dX8_readDoor_71 : decode cX8_readDoor 71 = .ok (.invokevirtual 127, 3) := by decide +kernel
theorem dX8_readDoor_74 : decode cX8_readDoor 74 = .ok (.return_, 1) := by decide +kernel
theorem dX8_readHeir_0 : decode cX8_readHeir 0 = .ok (.aload_n 0, 1) := by decide +kernel
theorem dX8_readHeir_1 : decode cX8_readHeir 1 = .ok (.getfield 133, 3) := by decide +kernel
theorem dX8_readHeir_4 : decode cX8_readHeir 4 = .ok (.istore_n 1, 1) := by decide +kernel
theorem dX8_readHeir_5 : decode cX8_readHeir 5 = .ok (.aload_n 0, 1) := by decide +kernel
theorem dX8_readHeir_6 : decode cX8_readHeir 6 = .ok (.getfield 70, 3) := by decide +kernel
theorem dX8_readHeir_9 : decode cX8_readHeir 9 = .ok (.iload_n 1, 1) := by decide +kernel
theorem dX8_readHeir_10 : decode cX8_readHeir 10 = .ok (.aload_n 0, 1) := by decide +kernel
theorem dX8_readHeir_11 : decode cX8_readHeir 11 = .ok (.iconst 0, 1) := by decide +kernel
theorem dX8_readHeir_12 : decode cX8_readHeir 12 = .ok (.iconst 4, 1) := by decide +kernel
theorem dX8_readHeir_13 : decode cX8_readHeir 13 = .ok (.iconst (-1), 1) := by decide +kernel
theorem dX8_readHeir_14 : decode cX8_readHeir 14 = .ok (.invokevirtual 123, 3) := by decide +kernel
theorem dX8_readHeir_17 : decode cX8_readHeir 17 = .ok (.iastore, 1) := by decide +kernel
theorem dX8_readHeir_18 : decode cX8_readHeir 18 = .ok (.aload_n 0, 1) := by decide +kernel
theorem dX8_readHeir_19 : decode cX8_readHeir 19 = .ok (.getfield 73, 3) := by decide +kernel
theorem dX8_readHeir_22 : decode cX8_readHeir 22 = .ok (.iload_n 1, 1) := by decide +kernel
theorem dX8_readHeir_23 : decode cX8_readHeir 23 = .ok (.aload_n 0, 1) := by decide +kernel
theorem dX8_readHeir_24 : decode cX8_readHeir 24 = .ok (.iconst 1, 1) := by decide +kernel
theorem dX8_readHeir_25 : decode cX8_readHeir 25 = .ok (.bipush 20, 2) := by decide +kernel
theorem dX8_readHeir_27 : decode cX8_readHeir 27 = .ok (.iconst (-1), 1) := by decide +kernel
theorem dX8_readHeir_28 : decode cX8_readHeir 28 = .ok (.invokevirtual 123, 3) := by decide +kernel
theorem dX8_readHeir_31 : decode cX8_readHeir 31 = .ok (.iastore, 1) := by decide +kernel
theorem dX8_readHeir_32 : decode cX8_readHeir 32 = .ok (.aload_n 0, 1) := by decide +kernel
theorem dX8_readHeir_33 : decode cX8_readHeir 33 = .ok (.getfield 76, 3) := by decide +kernel
theorem dX8_readHeir_36 : decode cX8_readHeir 36 = .ok (.bipush 45, 2) := by decide +kernel
theorem dX8_readHeir_38 : decode cX8_readHeir 38 = .ok (.iload_n 1, 1) := by decide +kernel
theorem dX8_readHeir_39 : decode cX8_readHeir 39 = .ok (.iadd, 1) := by decide +kernel
theorem dX8_readHeir_40 : decode cX8_readHeir 40 = .ok (.aload_n 0, 1) := by decide +kernel
theorem dX8_readHeir_41 : decode cX8_readHeir 41 = .ok (.iconst 0, 1) := by decide +kernel
theorem dX8_readHeir_42 : decode cX8_readHeir 42 = .ok (.aload_n 0, 1) := by decide +kernel
theorem dX8_readHeir_43 : decode cX8_readHeir 43 = .ok (.getfield 120, 3) := by decide +kernel
theorem dX8_readHeir_46 : decode cX8_readHeir 46 = .ok (.iconst 1, 1) := by decide +kernel
theorem dX8_readHeir_47 : decode cX8_readHeir 47 = .ok (.isub, 1) := by decide +kernel
theorem dX8_readHeir_48 : decode cX8_readHeir 48 = .ok (.iconst (-1), 1) := by decide +kernel
theorem dX8_readHeir_49 : decode cX8_readHeir 49 = .ok (.invokevirtual 123, 3) := by decide +kernel
theorem dX8_readHeir_52 : decode cX8_readHeir 52 = .ok (.iastore, 1) := by decide +kernel
theorem dX8_readHeir_53 : decode cX8_readHeir 53 = .ok (.aload_n 0, 1) := by decide +kernel
theorem dX8_readHeir_54 : decode cX8_readHeir 54 = .ok (.dup, 1) := by decide +kernel
theorem dX8_readHeir_55 : decode cX8_readHeir 55 = .ok (.getfield 133, 3) := by decide +kernel
theorem dX8_readHeir_58 : decode cX8_readHeir 58 = .ok (.iconst 1, 1) := by decide +kernel
theorem dX8_readHeir_59 : decode cX8_readHeir 59 = .ok (.iadd, 1) := by decide +kernel
theorem dX8_readHeir_60 : decode cX8_readHeir 60 = .ok (.putfield 133, 3) := by decide +kernel
theorem dX8_readHeir_63 : decode cX8_readHeir 63 = .ok (.aload_n 0, 1) := by decide +kernel
theorem dX8_readHeir_64 : decode cX8_readHeir 64 = .ok (.invokevirtual 127, 3) := by decide +kernel
theorem dX8_readHeir_67 : decode cX8_readHeir 67 = .ok (.return_, 1) := by decide +kernel
theorem dX8_readClause_0 : decode cX8_readClause 0 = .ok (.aload_n 0, 1) := by decide +kernel
theorem dX8_readClause_1 : decode cX8_readClause 1 = .ok (.invokevirtual 103, 3) := by decide +kernel
theorem dX8_readClause_4 : decode cX8_readClause 4 = .ok (.istore_n 1, 1) := by decide +kernel
theorem dX8_readClause_5 : decode cX8_readClause 5 = .ok (.aload_n 0, 1) := by decide +kernel
theorem dX8_readClause_6 : decode cX8_readClause 6 = .ok (.getfield 136, 3) := by decide +kernel
theorem dX8_readClause_9 : decode cX8_readClause 9 = .ok (.ifCond .ne 7, 3) := by decide +kernel
theorem dX8_readClause_12 : decode cX8_readClause 12 = .ok (.iconst 1, 1) := by decide +kernel
theorem dX8_readClause_13 : decode cX8_readClause 13 = .ok (.goto 4, 3) := by decide +kernel
theorem dX8_readClause_16 : decode cX8_readClause 16 = .ok (.iconst 0, 1) := by decide +kernel
theorem dX8_readClause_17 : decode cX8_readClause 17 = .ok (.istore_n 2, 1) := by decide +kernel
theorem dX8_readClause_18 : decode cX8_readClause 18 = .ok (.iload_n 1, 1) := by decide +kernel
theorem dX8_readClause_19 : decode cX8_readClause 19 = .ok (.bipush 110, 2) := by decide +kernel
theorem dX8_readClause_21 : decode cX8_readClause 21 = .ok (.if_icmp .ne 36, 3) := by decide +kernel
theorem dX8_readClause_24 : decode cX8_readClause 24 = .ok (.iload_n 2, 1) := by decide +kernel
theorem dX8_readClause_25 : decode cX8_readClause 25 = .ok (.ifCond .eq 32, 3) := by decide +kernel
theorem dX8_readClause_28 : decode cX8_readClause 28 = .ok (.aload_n 0, 1) := by decide +kernel
theorem dX8_readClause_29 : decode cX8_readClause 29 = .ok (.dup, 1) := by decide +kernel
theorem dX8_readClause_30 : decode cX8_readClause 30 = .ok (.getfield 100, 3) := by decide +kernel
theorem dX8_readClause_33 : decode cX8_readClause 33 = .ok (.iconst 1, 1) := by decide +kernel
theorem dX8_readClause_34 : decode cX8_readClause 34 = .ok (.iadd, 1) := by decide +kernel
theorem dX8_readClause_35 : decode cX8_readClause 35 = .ok (.putfield 100, 3) := by decide +kernel
theorem dX8_readClause_38 : decode cX8_readClause 38 = .ok (.aload_n 0, 1) := by decide +kernel
theorem dX8_readClause_39 : decode cX8_readClause 39 = .ok (.aload_n 0, 1) := by decide +kernel
theorem dX8_readClause_40 : decode cX8_readClause 40 = .ok (.iconst 1, 1) := by decide +kernel
theorem dX8_readClause_41 : decode cX8_readClause 41 = .ok (.bipush 20, 2) := by decide +kernel
theorem dX8_readClause_43 : decode cX8_readClause 43 = .ok (.iconst (-1), 1) := by decide +kernel
theorem dX8_readClause_44 : decode cX8_readClause 44 = .ok (.invokevirtual 123, 3) := by decide +kernel
theorem dX8_readClause_47 : decode cX8_readClause 47 = .ok (.putfield 136, 3) := by decide +kernel
theorem dX8_readClause_50 : decode cX8_readClause 50 = .ok (.aload_n 0, 1) := by decide +kernel
theorem dX8_readClause_51 : decode cX8_readClause 51 = .ok (.invokevirtual 127, 3) := by decide +kernel
theorem dX8_readClause_54 : decode cX8_readClause 54 = .ok (.goto 138, 3) := by decide +kernel
theorem dX8_readClause_57 : decode cX8_readClause 57 = .ok (.iload_n 2, 1) := by decide +kernel
theorem dX8_readClause_58 : decode cX8_readClause 58 = .ok (.ifCond .ne 27, 3) := by decide +kernel
theorem dX8_readClause_61 : decode cX8_readClause 61 = .ok (.iload_n 1, 1) := by decide +kernel
theorem dX8_readClause_62 : decode cX8_readClause 62 = .ok (.bipush 110, 2) := by decide +kernel
theorem dX8_readClause_64 : decode cX8_readClause 64 = .ok (.if_icmp .eq 29, 3) := by decide +kernel
theorem dX8_readClause_67 : decode cX8_readClause 67 = .ok (.iload_n 1, 1) := by decide +kernel
theorem dX8_readClause_68 : decode cX8_readClause 68 = .ok (.bipush 114, 2) := by decide +kernel
theorem dX8_readClause_70 : decode cX8_readClause 70 = .ok (.if_icmp .eq 23, 3) := by decide +kernel
theorem dX8_readClause_73 : decode cX8_readClause 73 = .ok (.iload_n 1, 1) := by decide +kernel
theorem dX8_readClause_74 : decode cX8_readClause 74 = .ok (.bipush 100, 2) := by decide +kernel
theorem dX8_readClause_76 : decode cX8_readClause 76 = .ok (.if_icmp .eq 17, 3) := by decide +kernel
theorem dX8_readClause_79 : decode cX8_readClause 79 = .ok (.iload_n 1, 1) := by decide +kernel
theorem dX8_readClause_80 : decode cX8_readClause 80 = .ok (.bipush 112, 2) := by decide +kernel
theorem dX8_readClause_82 : decode cX8_readClause 82 = .ok (.if_icmp .eq 11, 3) := by decide +kernel
theorem dX8_readClause_85 : decode cX8_readClause 85 = .ok (.aload_n 0, 1) := by decide +kernel
theorem dX8_readClause_86 : decode cX8_readClause 86 = .ok (.iconst 1, 1) := by decide +kernel
theorem dX8_readClause_87 : decode cX8_readClause 87 = .ok (.invokevirtual 116, 3) := by decide +kernel
theorem dX8_readClause_90 : decode cX8_readClause 90 = .ok (.goto 102, 3) := by decide +kernel
theorem dX8_readClause_93 : decode cX8_readClause 93 = .ok (.iload_n 1, 1) := by decide +kernel
theorem dX8_readClause_94 : decode cX8_readClause 94 = .ok (.bipush 110, 2) := by decide +kernel
theorem dX8_readClause_96 : decode cX8_readClause 96 = .ok (.if_icmp .eq 48, 3) := by decide +kernel
theorem dX8_readClause_99 : decode cX8_readClause 99 = .ok (.iload_n 1, 1) := by decide +kernel
theorem dX8_readClause_100 : decode cX8_readClause 100 = .ok (.bipush 114, 2) := by decide +kernel
theorem dX8_readClause_102 : decode cX8_readClause 102 = .ok (.if_icmp .ne 12, 3) := by decide +kernel
theorem dX8_readClause_105 : decode cX8_readClause 105 = .ok (.aload_n 0, 1) := by decide +kernel
theorem dX8_readClause_106 : decode cX8_readClause 106 = .ok (.getfield 120, 3) := by decide +kernel
theorem dX8_readClause_109 : decode cX8_readClause 109 = .ok (.bipush 6, 2) := by decide +kernel
theorem dX8_readClause_111 : decode cX8_readClause 111 = .ok (.if_icmp .eq 33, 3) := by decide +kernel
theorem dX8_readClause_114 : decode cX8_readClause 114 = .ok (.iload_n 1, 1) := by decide +kernel
theorem dX8_readClause_115 : decode cX8_readClause 115 = .ok (.bipush 100, 2) := by decide +kernel
theorem dX8_readClause_117 : decode cX8_readClause 117 = .ok (.if_icmp .ne 12, 3) := by decide +kernel
theorem dX8_readClause_120 : decode cX8_readClause 120 = .ok (.aload_n 0, 1) := by decide +kernel
theorem dX8_readClause_121 : decode cX8_readClause 121 = .ok (.getfield 130, 3) := by decide +kernel
theorem dX8_readClause_124 : decode cX8_readClause 124 = .ok (.bipush 8, 2) := by decide +kernel
theorem dX8_readClause_126 : decode cX8_readClause 126 = .ok (.if_icmp .eq 18, 3) := by decide +kernel
theorem dX8_readClause_129 : decode cX8_readClause 129 = .ok (.iload_n 1, 1) := by decide +kernel
theorem dX8_readClause_130 : decode cX8_readClause 130 = .ok (.bipush 112, 2) := by decide +kernel
theorem dX8_readClause_132 : decode cX8_readClause 132 = .ok (.if_icmp .ne 20, 3) := by decide +kernel
theorem dX8_readClause_135 : decode cX8_readClause 135 = .ok (.aload_n 0, 1) := by decide +kernel
theorem dX8_readClause_136 : decode cX8_readClause 136 = .ok (.getfield 133, 3) := by decide +kernel
theorem dX8_readClause_139 : decode cX8_readClause 139 = .ok (.bipush 6, 2) := by decide +kernel
theorem dX8_readClause_141 : decode cX8_readClause 141 = .ok (.if_icmp .ne 11, 3) := by decide +kernel
theorem dX8_readClause_144 : decode cX8_readClause 144 = .ok (.aload_n 0, 1) := by decide +kernel
theorem dX8_readClause_145 : decode cX8_readClause 145 = .ok (.iconst 3, 1) := by decide +kernel
theorem dX8_readClause_146 : decode cX8_readClause 146 = .ok (.invokevirtual 116, 3) := by decide +kernel
theorem dX8_readClause_149 : decode cX8_readClause 149 = .ok (.goto 43, 3) := by decide +kernel
theorem dX8_readClause_152 : decode cX8_readClause 152 = .ok (.aload_n 0, 1) := by decide +kernel
theorem dX8_readClause_153 : decode cX8_readClause 153 = .ok (.dup, 1) := by decide +kernel
theorem dX8_readClause_154 : decode cX8_readClause 154 = .ok (.getfield 100, 3) := by decide +kernel
theorem dX8_readClause_157 : decode cX8_readClause 157 = .ok (.iconst 1, 1) := by decide +kernel
theorem dX8_readClause_158 : decode cX8_readClause 158 = .ok (.iadd, 1) := by decide +kernel
theorem dX8_readClause_159 : decode cX8_readClause 159 = .ok (.putfield 100, 3) := by decide +kernel
theorem dX8_readClause_162 : decode cX8_readClause 162 = .ok (.iload_n 1, 1) := by decide +kernel
theorem dX8_readClause_163 : decode cX8_readClause 163 = .ok (.bipush 114, 2) := by decide +kernel
theorem dX8_readClause_165 : decode cX8_readClause 165 = .ok (.if_icmp .ne 10, 3) := by decide +kernel
theorem dX8_readClause_168 : decode cX8_readClause 168 = .ok (.aload_n 0, 1) := by decide +kernel
theorem dX8_readClause_169 : decode cX8_readClause 169 = .ok (.invokevirtual 139, 3) := by decide +kernel
theorem dX8_readClause_172 : decode cX8_readClause 172 = .ok (.goto 20, 3) := by decide +kernel
theorem dX8_readClause_175 : decode cX8_readClause 175 = .ok (.iload_n 1, 1) := by decide +kernel
theorem dX8_readClause_176 : decode cX8_readClause 176 = .ok (.bipush 100, 2) := by decide +kernel
theorem dX8_readClause_178 : decode cX8_readClause 178 = .ok (.if_icmp .ne 10, 3) := by decide +kernel
theorem dX8_readClause_181 : decode cX8_readClause 181 = .ok (.aload_n 0, 1) := by decide +kernel
theorem dX8_readClause_182 : decode cX8_readClause 182 = .ok (.invokevirtual 142, 3) := by decide +kernel
theorem dX8_readClause_185 : decode cX8_readClause 185 = .ok (.goto 7, 3) := by decide +kernel
theorem dX8_readClause_188 : decode cX8_readClause 188 = .ok (.aload_n 0, 1) := by decide +kernel
theorem dX8_readClause_189 : decode cX8_readClause 189 = .ok (.invokevirtual 145, 3) := by decide +kernel
theorem dX8_readClause_192 : decode cX8_readClause 192 = .ok (.return_, 1) := by decide +kernel
theorem dX8_readManor_0 : decode cX8_readManor 0 = .ok (.aload_n 0, 1) := by decide +kernel
theorem dX8_readManor_1 : decode cX8_readManor 1 = .ok (.iconst 0, 1) := by decide +kernel
theorem dX8_readManor_2 : decode cX8_readManor 2 = .ok (.putfield 100, 3) := by decide +kernel
theorem dX8_readManor_5 : decode cX8_readManor 5 = .ok (.aload_n 0, 1) := by decide +kernel
theorem dX8_readManor_6 : decode cX8_readManor 6 = .ok (.iconst 0, 1) := by decide +kernel
theorem dX8_readManor_7 : decode cX8_readManor 7 = .ok (.putfield 107, 3) := by decide +kernel
theorem dX8_readManor_10 : decode cX8_readManor 10 = .ok (.aload_n 0, 1) := by decide +kernel
theorem dX8_readManor_11 : decode cX8_readManor 11 = .ok (.iconst 0, 1) := by decide +kernel
theorem dX8_readManor_12 : decode cX8_readManor 12 = .ok (.putfield 136, 3) := by decide +kernel
theorem dX8_readManor_15 : decode cX8_readManor 15 = .ok (.aload_n 0, 1) := by decide +kernel
theorem dX8_readManor_16 : decode cX8_readManor 16 = .ok (.iconst 0, 1) := by decide +kernel
theorem dX8_readManor_17 : decode cX8_readManor 17 = .ok (.putfield 120, 3) := by decide +kernel
theorem dX8_readManor_20 : decode cX8_readManor 20 = .ok (.aload_n 0, 1) := by decide +kernel
theorem dX8_readManor_21 : decode cX8_readManor 21 = .ok (.iconst 0, 1) := by decide +kernel
theorem dX8_readManor_22 : decode cX8_readManor 22 = .ok (.putfield 130, 3) := by decide +kernel
theorem dX8_readManor_25 : decode cX8_readManor 25 = .ok (.aload_n 0, 1) := by decide +kernel
theorem dX8_readManor_26 : decode cX8_readManor 26 = .ok (.iconst 0, 1) := by decide +kernel
theorem dX8_readManor_27 : decode cX8_readManor 27 = .ok (.putfield 133, 3) := by decide +kernel
theorem dX8_readManor_30 : decode cX8_readManor 30 = .ok (.iconst 0, 1) := by decide +kernel
theorem dX8_readManor_31 : decode cX8_readManor 31 = .ok (.istore_n 1, 1) := by decide +kernel
theorem dX8_readManor_32 : decode cX8_readManor 32 = .ok (.iload_n 1, 1) := by decide +kernel
theorem dX8_readManor_33 : decode cX8_readManor 33 = .ok (.bipush 51, 2) := by decide +kernel
theorem dX8_readManor_35 : decode cX8_readManor 35 = .ok (.if_icmp .ge 31, 3) := by decide +kernel
theorem dX8_readManor_38 : decode cX8_readManor 38 = .ok (.aload_n 0, 1) := by decide +kernel
theorem dX8_readManor_39 : decode cX8_readManor 39 = .ok (.getfield 76, 3) := by decide +kernel
theorem dX8_readManor_42 : decode cX8_readManor 42 = .ok (.iload_n 1, 1) := by decide +kernel
theorem dX8_readManor_43 : decode cX8_readManor 43 = .ok (.iload_n 1, 1) := by decide +kernel
theorem dX8_readManor_44 : decode cX8_readManor 44 = .ok (.bipush 15, 2) := by decide +kernel
theorem dX8_readManor_46 : decode cX8_readManor 46 = .ok (.bipush 44, 2) := by decide +kernel
theorem dX8_readManor_48 : decode cX8_readManor 48 = .ok (.invokestatic 85, 3) := by decide +kernel
theorem dX8_readManor_51 : decode cX8_readManor 51 = .ok (.ifCond .eq 7, 3) := by decide +kernel
theorem dX8_readManor_54 : decode cX8_readManor 54 = .ok (.iconst (-1), 1) := by decide +kernel
theorem dX8_readManor_55 : decode cX8_readManor 55 = .ok (.goto 4, 3) := by decide +kernel
theorem dX8_readManor_58 : decode cX8_readManor 58 = .ok (.iconst 0, 1) := by decide +kernel
theorem dX8_readManor_59 : decode cX8_readManor 59 = .ok (.iastore, 1) := by decide +kernel
theorem dX8_readManor_60 : decode cX8_readManor 60 = .ok (.iinc 1 1, 3) := by decide +kernel
theorem dX8_readManor_63 : decode cX8_readManor 63 = .ok (.goto (-31), 3) := by decide +kernel
theorem dX8_readManor_66 : decode cX8_readManor 66 = .ok (.aload_n 0, 1) := by decide +kernel
theorem dX8_readManor_67 : decode cX8_readManor 67 = .ok (.invokevirtual 113, 3) := by decide +kernel
theorem dX8_readManor_70 : decode cX8_readManor 70 = .ok (.aload_n 0, 1) := by decide +kernel
theorem dX8_readManor_71 : decode cX8_readManor 71 = .ok (.getfield 107, 3) := by decide +kernel
theorem dX8_readManor_74 : decode cX8_readManor 74 = .ok (.ifCond .ne 32, 3) := by decide +kernel
theorem dX8_readManor_77 : decode cX8_readManor 77 = .ok (.aload_n 0, 1) := by decide +kernel
theorem dX8_readManor_78 : decode cX8_readManor 78 = .ok (.getfield 100, 3) := by decide +kernel
theorem dX8_readManor_81 : decode cX8_readManor 81 = .ok (.aload_n 0, 1) := by decide +kernel
theorem dX8_readManor_82 : decode cX8_readManor 82 = .ok (.getfield 96, 3) := by decide +kernel
theorem dX8_readManor_85 : decode cX8_readManor 85 = .ok (.if_icmp .ge 21, 3) := by decide +kernel
theorem dX8_readManor_88 : decode cX8_readManor 88 = .ok (.aload_n 0, 1) := by decide +kernel
theorem dX8_readManor_89 : decode cX8_readManor 89 = .ok (.invokevirtual 148, 3) := by decide +kernel
theorem dX8_readManor_92 : decode cX8_readManor 92 = .ok (.aload_n 0, 1) := by decide +kernel
theorem dX8_readManor_93 : decode cX8_readManor 93 = .ok (.getfield 107, 3) := by decide +kernel
theorem dX8_readManor_96 : decode cX8_readManor 96 = .ok (.ifCond .ne (-26), 3) := by decide +kernel
theorem dX8_readManor_99 : decode cX8_readManor 99 = .ok (.aload_n 0, 1) := by decide +kernel
theorem dX8_readManor_100 : decode cX8_readManor 100 = .ok (.invokevirtual 113, 3) := by decide +kernel
theorem dX8_readManor_103 : decode cX8_readManor 103 = .ok (.goto (-33), 3) := by decide +kernel
theorem dX8_readManor_106 : decode cX8_readManor 106 = .ok (.return_, 1) := by decide +kernel
theorem dX8_manor_0 : decode cX8_manor 0 = .ok (.aload_n 0, 1) := by decide +kernel
theorem dX8_manor_1 : decode cX8_manor 1 = .ok (.invokevirtual 151, 3) := by decide +kernel
theorem dX8_manor_4 : decode cX8_manor 4 = .ok (.aload_n 0, 1) := by decide +kernel
theorem dX8_manor_5 : decode cX8_manor 5 = .ok (.iconst 0, 1) := by decide +kernel
theorem dX8_manor_6 : decode cX8_manor 6 = .ok (.putfield 96, 3) := by decide +kernel
theorem dX8_manor_9 : decode cX8_manor 9 = .ok (.aload_n 0, 1) := by decide +kernel
theorem dX8_manor_10 : decode cX8_manor 10 = .ok (.getfield 107, 3) := by decide +kernel
theorem dX8_manor_13 : decode cX8_manor 13 = .ok (.ifCond .eq 19, 3) := by decide +kernel
theorem dX8_manor_16 : decode cX8_manor 16 = .ok (.aload_n 0, 1) := by decide +kernel
theorem dX8_manor_17 : decode cX8_manor 17 = .ok (.aload_n 0, 1) := by decide +kernel
theorem dX8_manor_18 : decode cX8_manor 18 = .ok (.getfield 110, 3) := by decide +kernel
theorem dX8_manor_21 : decode cX8_manor 21 = .ok (.putfield 13, 3) := by decide +kernel
theorem dX8_manor_24 : decode cX8_manor 24 = .ok (.bipush (-10), 2) := by decide +kernel
theorem dX8_manor_26 : decode cX8_manor 26 = .ok (.aload_n 0, 1) := by decide +kernel
theorem dX8_manor_27 : decode cX8_manor 27 = .ok (.getfield 107, 3) := by decide +kernel
theorem dX8_manor_30 : decode cX8_manor 30 = .ok (.isub, 1) := by decide +kernel
theorem dX8_manor_31 : decode cX8_manor 31 = .ok (.ireturn, 1) := by decide +kernel
theorem dX8_manor_32 : decode cX8_manor 32 = .ok (.aload_n 0, 1) := by decide +kernel
theorem dX8_manor_33 : decode cX8_manor 33 = .ok (.iconst (-1), 1) := by decide +kernel
theorem dX8_manor_34 : decode cX8_manor 34 = .ok (.putfield 13, 3) := by decide +kernel
theorem dX8_manor_37 : decode cX8_manor 37 = .ok (.aload_n 0, 1) := by decide +kernel
theorem dX8_manor_38 : decode cX8_manor 38 = .ok (.aload_n 0, 1) := by decide +kernel
theorem dX8_manor_39 : decode cX8_manor 39 = .ok (.getfield 136, 3) := by decide +kernel
theorem dX8_manor_42 : decode cX8_manor 42 = .ok (.putfield 154, 3) := by decide +kernel
theorem dX8_manor_45 : decode cX8_manor 45 = .ok (.aload_n 0, 1) := by decide +kernel
theorem dX8_manor_46 : decode cX8_manor 46 = .ok (.aload_n 0, 1) := by decide +kernel
theorem dX8_manor_47 : decode cX8_manor 47 = .ok (.getfield 120, 3) := by decide +kernel
theorem dX8_manor_50 : decode cX8_manor 50 = .ok (.putfield 82, 3) := by decide +kernel
theorem dX8_manor_53 : decode cX8_manor 53 = .ok (.aload_n 0, 1) := by decide +kernel
theorem dX8_manor_54 : decode cX8_manor 54 = .ok (.aload_n 0, 1) := by decide +kernel
theorem dX8_manor_55 : decode cX8_manor 55 = .ok (.getfield 130, 3) := by decide +kernel
theorem dX8_manor_58 : decode cX8_manor 58 = .ok (.putfield 92, 3) := by decide +kernel
theorem dX8_manor_61 : decode cX8_manor 61 = .ok (.aload_n 0, 1) := by decide +kernel
theorem dX8_manor_62 : decode cX8_manor 62 = .ok (.aload_n 0, 1) := by decide +kernel
theorem dX8_manor_63 : decode cX8_manor 63 = .ok (.getfield 133, 3) := by decide +kernel
theorem dX8_manor_66 : decode cX8_manor 66 = .ok (.putfield 89, 3) := by decide +kernel
theorem dX8_manor_69 : decode cX8_manor 69 = .ok (.aload_n 0, 1) := by decide +kernel
theorem dX8_manor_70 : decode cX8_manor 70 = .ok (.getfield 61, 3) := by decide +kernel
theorem dX8_manor_73 : decode cX8_manor 73 = .ok (.iconst 0, 1) := by decide +kernel
theorem dX8_manor_74 : decode cX8_manor 74 = .ok (.aload_n 0, 1) := by decide +kernel
theorem dX8_manor_75 : decode cX8_manor 75 = .ok (.getfield 17, 3) := by decide +kernel
theorem dX8_manor_78 : decode cX8_manor 78 = .ok (.iconst 0, 1) := by decide +kernel
theorem dX8_manor_79 : decode cX8_manor 79 = .ok (.bipush 8, 2) := by decide +kernel
theorem dX8_manor_81 : decode cX8_manor 81 = .ok (.invokestatic 157, 3) := by decide +kernel
theorem dX8_manor_84 : decode cX8_manor 84 = .ok (.aload_n 0, 1) := by decide +kernel
theorem dX8_manor_85 : decode cX8_manor 85 = .ok (.getfield 64, 3) := by decide +kernel
theorem dX8_manor_88 : decode cX8_manor 88 = .ok (.iconst 0, 1) := by decide +kernel
theorem dX8_manor_89 : decode cX8_manor 89 = .ok (.aload_n 0, 1) := by decide +kernel
theorem dX8_manor_90 : decode cX8_manor 90 = .ok (.getfield 20, 3) := by decide +kernel
theorem dX8_manor_93 : decode cX8_manor 93 = .ok (.iconst 0, 1) := by decide +kernel
theorem dX8_manor_94 : decode cX8_manor 94 = .ok (.bipush 8, 2) := by decide +kernel
theorem dX8_manor_96 : decode cX8_manor 96 = .ok (.invokestatic 157, 3) := by decide +kernel
theorem dX8_manor_99 : decode cX8_manor 99 = .ok (.aload_n 0, 1) := by decide +kernel
theorem dX8_manor_100 : decode cX8_manor 100 = .ok (.getfield 67, 3) := by decide +kernel
theorem dX8_manor_103 : decode cX8_manor 103 = .ok (.iconst 0, 1) := by decide +kernel
theorem dX8_manor_104 : decode cX8_manor 104 = .ok (.aload_n 0, 1) := by decide +kernel
theorem dX8_manor_105 : decode cX8_manor 105 = .ok (.getfield 23, 3) := by decide +kernel
theorem dX8_manor_108 : decode cX8_manor 108 = .ok (.iconst 0, 1) := by decide +kernel
theorem dX8_manor_109 : decode cX8_manor 109 = .ok (.bipush 8, 2) := by decide +kernel
theorem dX8_manor_111 : decode cX8_manor 111 = .ok (.invokestatic 157, 3) := by decide +kernel
theorem dX8_manor_114 : decode cX8_manor 114 = .ok (.aload_n 0, 1) := by decide +kernel
theorem dX8_manor_115 : decode cX8_manor 115 = .ok (.getfield 70, 3) := by decide +kernel
theorem dX8_manor_118 : decode cX8_manor 118 = .ok (.iconst 0, 1) := by decide +kernel
theorem dX8_manor_119 : decode cX8_manor 119 = .ok (.aload_n 0, 1) := by decide +kernel
theorem dX8_manor_120 : decode cX8_manor 120 = .ok (.getfield 26, 3) := by decide +kernel
theorem dX8_manor_123 : decode cX8_manor 123 = .ok (.iconst 0, 1) := by decide +kernel
theorem dX8_manor_124 : decode cX8_manor 124 = .ok (.bipush 6, 2) := by decide +kernel
theorem dX8_manor_126 : decode cX8_manor 126 = .ok (.invokestatic 157, 3) := by decide +kernel
theorem dX8_manor_129 : decode cX8_manor 129 = .ok (.aload_n 0, 1) := by decide +kernel
theorem dX8_manor_130 : decode cX8_manor 130 = .ok (.getfield 73, 3) := by decide +kernel
theorem dX8_manor_133 : decode cX8_manor 133 = .ok (.iconst 0, 1) := by decide +kernel
theorem dX8_manor_134 : decode cX8_manor 134 = .ok (.aload_n 0, 1) := by decide +kernel
theorem dX8_manor_135 : decode cX8_manor 135 = .ok (.getfield 29, 3) := by decide +kernel
theorem dX8_manor_138 : decode cX8_manor 138 = .ok (.iconst 0, 1) := by decide +kernel
theorem dX8_manor_139 : decode cX8_manor 139 = .ok (.bipush 6, 2) := by decide +kernel
theorem dX8_manor_141 : decode cX8_manor 141 = .ok (.invokestatic 157, 3) := by decide +kernel
theorem dX8_manor_144 : decode cX8_manor 144 = .ok (.aload_n 0, 1) := by decide +kernel
theorem dX8_manor_145 : decode cX8_manor 145 = .ok (.getfield 76, 3) := by decide +kernel
theorem dX8_manor_148 : decode cX8_manor 148 = .ok (.iconst 0, 1) := by decide +kernel
theorem dX8_manor_149 : decode cX8_manor 149 = .ok (.aload_n 0, 1) := by decide +kernel
theorem dX8_manor_150 : decode cX8_manor 150 = .ok (.getfield 38, 3) := by decide +kernel
theorem dX8_manor_153 : decode cX8_manor 153 = .ok (.iconst 0, 1) := by decide +kernel
theorem dX8_manor_154 : decode cX8_manor 154 = .ok (.bipush 51, 2) := by decide +kernel
theorem dX8_manor_156 : decode cX8_manor 156 = .ok (.invokestatic 157, 3) := by decide +kernel
theorem dX8_manor_159 : decode cX8_manor 159 = .ok (.aload_n 0, 1) := by decide +kernel
theorem dX8_manor_160 : decode cX8_manor 160 = .ok (.invokevirtual 161, 3) := by decide +kernel
theorem dX8_manor_163 : decode cX8_manor 163 = .ok (.aload_n 0, 1) := by decide +kernel
theorem dX8_manor_164 : decode cX8_manor 164 = .ok (.iconst 0, 1) := by decide +kernel
theorem dX8_manor_165 : decode cX8_manor 165 = .ok (.putfield 164, 3) := by decide +kernel
theorem dX8_manor_168 : decode cX8_manor 168 = .ok (.aload_n 0, 1) := by decide +kernel
theorem dX8_manor_169 : decode cX8_manor 169 = .ok (.iconst 0, 1) := by decide +kernel
theorem dX8_manor_170 : decode cX8_manor 170 = .ok (.putfield 167, 3) := by decide +kernel
theorem dX8_manor_173 : decode cX8_manor 173 = .ok (.aload_n 0, 1) := by decide +kernel
theorem dX8_manor_174 : decode cX8_manor 174 = .ok (.iconst 0, 1) := by decide +kernel
theorem dX8_manor_175 : decode cX8_manor 175 = .ok (.putfield 170, 3) := by decide +kernel
theorem dX8_manor_178 : decode cX8_manor 178 = .ok (.aload_n 0, 1) := by decide +kernel
theorem dX8_manor_179 : decode cX8_manor 179 = .ok (.getfield 51, 3) := by decide +kernel
theorem dX8_manor_182 : decode cX8_manor 182 = .ok (.iconst 0, 1) := by decide +kernel
theorem dX8_manor_183 : decode cX8_manor 183 = .ok (.iconst 0, 1) := by decide +kernel
theorem dX8_manor_184 : decode cX8_manor 184 = .ok (.bastore, 1) := by decide +kernel
theorem dX8_manor_185 : decode cX8_manor 185 = .ok (.aload_n 0, 1) := by decide +kernel
theorem dX8_manor_186 : decode cX8_manor 186 = .ok (.getfield 51, 3) := by decide +kernel
theorem dX8_manor_189 : decode cX8_manor 189 = .ok (.iconst 1, 1) := by decide +kernel
theorem dX8_manor_190 : decode cX8_manor 190 = .ok (.iconst 0, 1) := by decide +kernel
theorem dX8_manor_191 : decode cX8_manor 191 = .ok (.bastore, 1) := by decide +kernel
theorem dX8_manor_192 : decode cX8_manor 192 = .ok (.aload_n 0, 1) := by decide +kernel
theorem dX8_manor_193 : decode cX8_manor 193 = .ok (.getfield 89, 3) := by decide +kernel
theorem dX8_manor_196 : decode cX8_manor 196 = .ok (.ireturn, 1) := by decide +kernel
theorem dX8_fault_0 : decode cX8_fault 0 = .ok (.aload_n 0, 1) := by decide +kernel
theorem dX8_fault_1 : decode cX8_fault 1 = .ok (.getfield 13, 3) := by decide +kernel
theorem dX8_fault_4 : decode cX8_fault 4 = .ok (.ireturn, 1) := by decide +kernel
theorem dX8_passes_0 : decode cX8_passes 0 = .ok (.bipush 6, 2) := by decide +kernel
theorem dX8_passes_2 : decode cX8_passes 2 = .ok (.iload_n 1, 1) := by decide +kernel
theorem dX8_passes_3 : decode cX8_passes 3 = .ok (.imul, 1) := by decide +kernel
theorem dX8_passes_4 : decode cX8_passes 4 = .ok (.iload_n 2, 1) := by decide +kernel
theorem dX8_passes_5 : decode cX8_passes 5 = .ok (.iadd, 1) := by decide +kernel
theorem dX8_passes_6 : decode cX8_passes 6 = .ok (.istore 4, 2) := by decide +kernel
theorem dX8_passes_8 : decode cX8_passes 8 = .ok (.aload_n 0, 1) := by decide +kernel
theorem dX8_passes_9 : decode cX8_passes 9 = .ok (.getfield 32, 3) := by decide +kernel
theorem dX8_passes_12 : decode cX8_passes 12 = .ok (.iload 4, 2) := by decide +kernel
theorem dX8_passes_14 : decode cX8_passes 14 = .ok (.iload_n 3, 1) := by decide +kernel
theorem dX8_passes_15 : decode cX8_passes 15 = .ok (.aload_n 0, 1) := by decide +kernel
theorem dX8_passes_16 : decode cX8_passes 16 = .ok (.getfield 32, 3) := by decide +kernel
theorem dX8_passes_19 : decode cX8_passes 19 = .ok (.iload 4, 2) := by decide +kernel
theorem dX8_passes_21 : decode cX8_passes 21 = .ok (.iaload, 1) := by decide +kernel
theorem dX8_passes_22 : decode cX8_passes 22 = .ok (.if_icmp .ge 7, 3) := by decide +kernel
theorem dX8_passes_25 : decode cX8_passes 25 = .ok (.iload_n 3, 1) := by decide +kernel
theorem dX8_passes_26 : decode cX8_passes 26 = .ok (.goto 10, 3) := by decide +kernel
theorem dX8_passes_29 : decode cX8_passes 29 = .ok (.aload_n 0, 1) := by decide +kernel
theorem dX8_passes_30 : decode cX8_passes 30 = .ok (.getfield 32, 3) := by decide +kernel
theorem dX8_passes_33 : decode cX8_passes 33 = .ok (.iload 4, 2) := by decide +kernel
theorem dX8_passes_35 : decode cX8_passes 35 = .ok (.iaload, 1) := by decide +kernel
theorem dX8_passes_36 : decode cX8_passes 36 = .ok (.iastore, 1) := by decide +kernel
theorem dX8_passes_37 : decode cX8_passes 37 = .ok (.aload_n 0, 1) := by decide +kernel
theorem dX8_passes_38 : decode cX8_passes 38 = .ok (.getfield 35, 3) := by decide +kernel
theorem dX8_passes_41 : decode cX8_passes 41 = .ok (.iload 4, 2) := by decide +kernel
theorem dX8_passes_43 : decode cX8_passes 43 = .ok (.iconst 1, 1) := by decide +kernel
theorem dX8_passes_44 : decode cX8_passes 44 = .ok (.iastore, 1) := by decide +kernel
theorem dX8_passes_45 : decode cX8_passes 45 = .ok (.return_, 1) := by decide +kernel
theorem dX8_laysWalls_0 : decode cX8_laysWalls 0 = .ok (.iconst 0, 1) := by decide +kernel
theorem dX8_laysWalls_1 : decode cX8_laysWalls 1 = .ok (.istore_n 1, 1) := by decide +kernel
theorem dX8_laysWalls_2 : decode cX8_laysWalls 2 = .ok (.iload_n 1, 1) := by decide +kernel
theorem dX8_laysWalls_3 : decode cX8_laysWalls 3 = .ok (.bipush 6, 2) := by decide +kernel
theorem dX8_laysWalls_5 : decode cX8_laysWalls 5 = .ok (.if_icmp .ge 67, 3) := by decide +kernel
theorem dX8_laysWalls_8 : decode cX8_laysWalls 8 = .ok (.iconst 0, 1) := by decide +kernel
theorem dX8_laysWalls_9 : decode cX8_laysWalls 9 = .ok (.istore_n 2, 1) := by decide +kernel
theorem dX8_laysWalls_10 : decode cX8_laysWalls 10 = .ok (.iload_n 2, 1) := by decide +kernel
theorem dX8_laysWalls_11 : decode cX8_laysWalls 11 = .ok (.bipush 6, 2) := by decide +kernel
theorem dX8_laysWalls_13 : decode cX8_laysWalls 13 = .ok (.if_icmp .ge 53, 3) := by decide +kernel
theorem dX8_laysWalls_16 : decode cX8_laysWalls 16 = .ok (.aload_n 0, 1) := by decide +kernel
theorem dX8_laysWalls_17 : decode cX8_laysWalls 17 = .ok (.getfield 32, 3) := by decide +kernel
theorem dX8_laysWalls_20 : decode cX8_laysWalls 20 = .ok (.bipush 6, 2) := by decide +kernel
theorem dX8_laysWalls_22 : decode cX8_laysWalls 22 = .ok (.iload_n 1, 1) := by decide +kernel
theorem dX8_laysWalls_23 : decode cX8_laysWalls 23 = .ok (.imul, 1) := by decide +kernel
theorem dX8_laysWalls_24 : decode cX8_laysWalls 24 = .ok (.iload_n 2, 1) := by decide +kernel
theorem dX8_laysWalls_25 : decode cX8_laysWalls 25 = .ok (.iadd, 1) := by decide +kernel
theorem dX8_laysWalls_26 : decode cX8_laysWalls 26 = .ok (.iload_n 1, 1) := by decide +kernel
theorem dX8_laysWalls_27 : decode cX8_laysWalls 27 = .ok (.iload_n 2, 1) := by decide +kernel
theorem dX8_laysWalls_28 : decode cX8_laysWalls 28 = .ok (.if_icmp .ne 7, 3) := by decide +kernel
theorem dX8_laysWalls_31 : decode cX8_laysWalls 31 = .ok (.iconst 0, 1) := by decide +kernel
theorem dX8_laysWalls_32 : decode cX8_laysWalls 32 = .ok (.goto 5, 3) := by decide +kernel
theorem dX8_laysWalls_35 : decode cX8_laysWalls 35 = .ok (.bipush 99, 2) := by decide +kernel
theorem dX8_laysWalls_37 : decode cX8_laysWalls 37 = .ok (.iastore, 1) := by decide +kernel
theorem dX8_laysWalls_38 : decode cX8_laysWalls 38 = .ok (.aload_n 0, 1) := by decide +kernel
theorem dX8_laysWalls_39 : decode cX8_laysWalls 39 = .ok (.getfield 35, 3) := by decide +kernel
theorem dX8_laysWalls_42 : decode cX8_laysWalls 42 = .ok (.bipush 6, 2) := by decide +kernel
theorem dX8_laysWalls_44 : decode cX8_laysWalls 44 = .ok (.iload_n 1, 1) := by decide +kernel
theorem dX8_laysWalls_45 : decode cX8_laysWalls 45 = .ok (.imul, 1) := by decide +kernel
theorem dX8_laysWalls_46 : decode cX8_laysWalls 46 = .ok (.iload_n 2, 1) := by decide +kernel
theorem dX8_laysWalls_47 : decode cX8_laysWalls 47 = .ok (.iadd, 1) := by decide +kernel
theorem dX8_laysWalls_48 : decode cX8_laysWalls 48 = .ok (.iload_n 1, 1) := by decide +kernel
theorem dX8_laysWalls_49 : decode cX8_laysWalls 49 = .ok (.iload_n 2, 1) := by decide +kernel
theorem dX8_laysWalls_50 : decode cX8_laysWalls 50 = .ok (.if_icmp .ne 7, 3) := by decide +kernel
theorem dX8_laysWalls_53 : decode cX8_laysWalls 53 = .ok (.iconst 0, 1) := by decide +kernel
theorem dX8_laysWalls_54 : decode cX8_laysWalls 54 = .ok (.goto 5, 3) := by decide +kernel
theorem dX8_laysWalls_57 : decode cX8_laysWalls 57 = .ok (.bipush 99, 2) := by decide +kernel
theorem dX8_laysWalls_59 : decode cX8_laysWalls 59 = .ok (.iastore, 1) := by decide +kernel
theorem dX8_laysWalls_60 : decode cX8_laysWalls 60 = .ok (.iinc 2 1, 3) := by decide +kernel
theorem dX8_laysWalls_63 : decode cX8_laysWalls 63 = .ok (.goto (-53), 3) := by decide +kernel
theorem dX8_laysWalls_66 : decode cX8_laysWalls 66 = .ok (.iinc 1 1, 3) := by decide +kernel
theorem dX8_laysWalls_69 : decode cX8_laysWalls 69 = .ok (.goto (-67), 3) := by decide +kernel
theorem dX8_laysWalls_72 : decode cX8_laysWalls 72 = .ok (.iconst 0, 1) := by decide +kernel
theorem dX8_laysWalls_73 : decode cX8_laysWalls 73 = .ok (.istore_n 1, 1) := by decide +kernel
theorem dX8_laysWalls_74 : decode cX8_laysWalls 74 = .ok (.iload_n 1, 1) := by decide +kernel
theorem dX8_laysWalls_75 : decode cX8_laysWalls 75 = .ok (.aload_n 0, 1) := by decide +kernel
theorem dX8_laysWalls_76 : decode cX8_laysWalls 76 = .ok (.getfield 92, 3) := by decide +kernel
theorem dX8_laysWalls_79 : decode cX8_laysWalls 79 = .ok (.if_icmp .ge 53, 3) := by decide +kernel
theorem dX8_laysWalls_82 : decode cX8_laysWalls 82 = .ok (.aload_n 0, 1) := by decide +kernel
theorem dX8_laysWalls_83 : decode cX8_laysWalls 83 = .ok (.aload_n 0, 1) := by decide +kernel
theorem dX8_laysWalls_84 : decode cX8_laysWalls 84 = .ok (.getfield 17, 3) := by decide +kernel
theorem dX8_laysWalls_87 : decode cX8_laysWalls 87 = .ok (.iload_n 1, 1) := by decide +kernel
theorem dX8_laysWalls_88 : decode cX8_laysWalls 88 = .ok (.iaload, 1) := by decide +kernel
theorem dX8_laysWalls_89 : decode cX8_laysWalls 89 = .ok (.aload_n 0, 1) := by decide +kernel
theorem dX8_laysWalls_90 : decode cX8_laysWalls 90 = .ok (.getfield 20, 3) := by decide +kernel
theorem dX8_laysWalls_93 : decode cX8_laysWalls 93 = .ok (.iload_n 1, 1) := by decide +kernel
theorem dX8_laysWalls_94 : decode cX8_laysWalls 94 = .ok (.iaload, 1) := by decide +kernel
theorem dX8_laysWalls_95 : decode cX8_laysWalls 95 = .ok (.aload_n 0, 1) := by decide +kernel
theorem dX8_laysWalls_96 : decode cX8_laysWalls 96 = .ok (.getfield 23, 3) := by decide +kernel
theorem dX8_laysWalls_99 : decode cX8_laysWalls 99 = .ok (.iload_n 1, 1) := by decide +kernel
theorem dX8_laysWalls_100 : decode cX8_laysWalls 100 = .ok (.iaload, 1) := by decide +kernel
theorem dX8_laysWalls_101 : decode cX8_laysWalls 101 = .ok (.invokevirtual 173, 3) := by decide +kernel
theorem dX8_laysWalls_104 : decode cX8_laysWalls 104 = .ok (.aload_n 0, 1) := by decide +kernel
theorem dX8_laysWalls_105 : decode cX8_laysWalls 105 = .ok (.aload_n 0, 1) := by decide +kernel
theorem dX8_laysWalls_106 : decode cX8_laysWalls 106 = .ok (.getfield 20, 3) := by decide +kernel
theorem dX8_laysWalls_109 : decode cX8_laysWalls 109 = .ok (.iload_n 1, 1) := by decide +kernel
theorem dX8_laysWalls_110 : decode cX8_laysWalls 110 = .ok (.iaload, 1) := by decide +kernel
theorem dX8_laysWalls_111 : decode cX8_laysWalls 111 = .ok (.aload_n 0, 1) := by decide +kernel
theorem dX8_laysWalls_112 : decode cX8_laysWalls 112 = .ok (.getfield 17, 3) := by decide +kernel
theorem dX8_laysWalls_115 : decode cX8_laysWalls 115 = .ok (.iload_n 1, 1) := by decide +kernel
theorem dX8_laysWalls_116 : decode cX8_laysWalls 116 = .ok (.iaload, 1) := by decide +kernel
theorem dX8_laysWalls_117 : decode cX8_laysWalls 117 = .ok (.aload_n 0, 1) := by decide +kernel
theorem dX8_laysWalls_118 : decode cX8_laysWalls 118 = .ok (.getfield 23, 3) := by decide +kernel
theorem dX8_laysWalls_121 : decode cX8_laysWalls 121 = .ok (.iload_n 1, 1) := by decide +kernel
theorem dX8_laysWalls_122 : decode cX8_laysWalls 122 = .ok (.iaload, 1) := by decide +kernel
theorem dX8_laysWalls_123 : decode cX8_laysWalls 123 = .ok (.invokevirtual 173, 3) := by decide +kernel
theorem dX8_laysWalls_126 : decode cX8_laysWalls 126 = .ok (.iinc 1 1, 3) := by decide +kernel
theorem dX8_laysWalls_129 : decode cX8_laysWalls 129 = .ok (.goto (-55), 3) := by decide +kernel
theorem dX8_laysWalls_132 : decode cX8_laysWalls 132 = .ok (.iconst 0, 1) := by decide +kernel
theorem dX8_laysWalls_133 : decode cX8_laysWalls 133 = .ok (.istore_n 1, 1) := by decide +kernel
theorem dX8_laysWalls_134 : decode cX8_laysWalls 134 = .ok (.iload_n 1, 1) := by decide +kernel
theorem dX8_laysWalls_135 : decode cX8_laysWalls 135 = .ok (.bipush 6, 2) := by decide +kernel
theorem dX8_laysWalls_137 : decode cX8_laysWalls 137 = .ok (.if_icmp .ge 157, 3) := by decide +kernel
theorem dX8_laysWalls_140 : decode cX8_laysWalls 140 = .ok (.iconst 0, 1) := by decide +kernel
theorem dX8_laysWalls_141 : decode cX8_laysWalls 141 = .ok (.istore_n 2, 1) := by decide +kernel
theorem dX8_laysWalls_142 : decode cX8_laysWalls 142 = .ok (.iload_n 2, 1) := by decide +kernel
theorem dX8_laysWalls_143 : decode cX8_laysWalls 143 = .ok (.bipush 6, 2) := by decide +kernel
theorem dX8_laysWalls_145 : decode cX8_laysWalls 145 = .ok (.if_icmp .ge 143, 3) := by decide +kernel
theorem dX8_laysWalls_148 : decode cX8_laysWalls 148 = .ok (.iconst 0, 1) := by decide +kernel
theorem dX8_laysWalls_149 : decode cX8_laysWalls 149 = .ok (.istore_n 3, 1) := by decide +kernel
theorem dX8_laysWalls_150 : decode cX8_laysWalls 150 = .ok (.iload_n 3, 1) := by decide +kernel
theorem dX8_laysWalls_151 : decode cX8_laysWalls 151 = .ok (.bipush 6, 2) := by decide +kernel
theorem dX8_laysWalls_153 : decode cX8_laysWalls 153 = .ok (.if_icmp .ge 129, 3) := by decide +kernel
theorem dX8_laysWalls_156 : decode cX8_laysWalls 156 = .ok (.aload_n 0, 1) := by decide +kernel
theorem dX8_laysWalls_157 : decode cX8_laysWalls 157 = .ok (.getfield 32, 3) := by decide +kernel
theorem dX8_laysWalls_160 : decode cX8_laysWalls 160 = .ok (.bipush 6, 2) := by decide +kernel
theorem dX8_laysWalls_162 : decode cX8_laysWalls 162 = .ok (.iload_n 2, 1) := by decide +kernel
theorem dX8_laysWalls_163 : decode cX8_laysWalls 163 = .ok (.imul, 1) := by decide +kernel
theorem dX8_laysWalls_164 : decode cX8_laysWalls 164 = .ok (.iload_n 1, 1) := by decide +kernel
theorem dX8_laysWalls_165 : decode cX8_laysWalls 165 = .ok (.iadd, 1) := by decide +kernel
theorem dX8_laysWalls_166 : decode cX8_laysWalls 166 = .ok (.iaload, 1) := by decide +kernel
theorem dX8_laysWalls_167 : decode cX8_laysWalls 167 = .ok (.aload_n 0, 1) := by decide +kernel
theorem dX8_laysWalls_168 : decode cX8_laysWalls 168 = .ok (.getfield 32, 3) := by decide +kernel
theorem dX8_laysWalls_171 : decode cX8_laysWalls 171 = .ok (.bipush 6, 2) := by decide +kernel
theorem dX8_laysWalls_173 : decode cX8_laysWalls 173 = .ok (.iload_n 1, 1) := by decide +kernel
theorem dX8_laysWalls_174 : decode cX8_laysWalls 174 = .ok (.imul, 1) := by decide +kernel
theorem dX8_laysWalls_175 : decode cX8_laysWalls 175 = .ok (.iload_n 3, 1) := by decide +kernel
theorem dX8_laysWalls_176 : decode cX8_laysWalls 176 = .ok (.iadd, 1) := by decide +kernel
theorem dX8_laysWalls_177 : decode cX8_laysWalls 177 = .ok (.iaload, 1) := by decide +kernel
theorem dX8_laysWalls_178 : decode cX8_laysWalls 178 = .ok (.iadd, 1) := by decide +kernel
theorem dX8_laysWalls_179 : decode cX8_laysWalls 179 = .ok (.istore 4, 2) := by decide +kernel
theorem dX8_laysWalls_181 : decode cX8_laysWalls 181 = .ok (.aload_n 0, 1) := by decide +kernel
theorem dX8_laysWalls_182 : decode cX8_laysWalls 182 = .ok (.getfield 35, 3) := by decide +kernel
theorem dX8_laysWalls_185 : decode cX8_laysWalls 185 = .ok (.bipush 6, 2) := by decide +kernel
theorem dX8_laysWalls_187 : decode cX8_laysWalls 187 = .ok (.iload_n 2, 1) := by decide +kernel
theorem dX8_laysWalls_188 : decode cX8_laysWalls 188 = .ok (.imul, 1) := by decide +kernel
theorem dX8_laysWalls_189 : decode cX8_laysWalls 189 = .ok (.iload_n 1, 1) := by decide +kernel
theorem dX8_laysWalls_190 : decode cX8_laysWalls 190 = .ok (.iadd, 1) := by decide +kernel
theorem dX8_laysWalls_191 : decode cX8_laysWalls 191 = .ok (.iaload, 1) := by decide +kernel
theorem dX8_laysWalls_192 : decode cX8_laysWalls 192 = .ok (.aload_n 0, 1) := by decide +kernel
theorem dX8_laysWalls_193 : decode cX8_laysWalls 193 = .ok (.getfield 35, 3) := by decide +kernel
theorem dX8_laysWalls_196 : decode cX8_laysWalls 196 = .ok (.bipush 6, 2) := by decide +kernel
theorem dX8_laysWalls_198 : decode cX8_laysWalls 198 = .ok (.iload_n 1, 1) := by decide +kernel
theorem dX8_laysWalls_199 : decode cX8_laysWalls 199 = .ok (.imul, 1) := by decide +kernel
theorem dX8_laysWalls_200 : decode cX8_laysWalls 200 = .ok (.iload_n 3, 1) := by decide +kernel
theorem dX8_laysWalls_201 : decode cX8_laysWalls 201 = .ok (.iadd, 1) := by decide +kernel
theorem dX8_laysWalls_202 : decode cX8_laysWalls 202 = .ok (.iaload, 1) := by decide +kernel
theorem dX8_laysWalls_203 : decode cX8_laysWalls 203 = .ok (.iadd, 1) := by decide +kernel
theorem dX8_laysWalls_204 : decode cX8_laysWalls 204 = .ok (.istore 5, 2) := by decide +kernel
theorem dX8_laysWalls_206 : decode cX8_laysWalls 206 = .ok (.bipush 6, 2) := by decide +kernel
theorem dX8_laysWalls_208 : decode cX8_laysWalls 208 = .ok (.iload_n 2, 1) := by decide +kernel
theorem dX8_laysWalls_209 : decode cX8_laysWalls 209 = .ok (.imul, 1) := by decide +kernel
theorem dX8_laysWalls_210 : decode cX8_laysWalls 210 = .ok (.iload_n 3, 1) := by decide +kernel
theorem dX8_laysWalls_211 : decode cX8_laysWalls 211 = .ok (.iadd, 1) := by decide +kernel
theorem dX8_laysWalls_212 : decode cX8_laysWalls 212 = .ok (.istore 6, 2) := by decide +kernel
theorem dX8_laysWalls_214 : decode cX8_laysWalls 214 = .ok (.aload_n 0, 1) := by decide +kernel
theorem dX8_laysWalls_215 : decode cX8_laysWalls 215 = .ok (.getfield 32, 3) := by decide +kernel
theorem dX8_laysWalls_218 : decode cX8_laysWalls 218 = .ok (.iload 6, 2) := by decide +kernel
theorem dX8_laysWalls_220 : decode cX8_laysWalls 220 = .ok (.iload 4, 2) := by decide +kernel
theorem dX8_laysWalls_222 : decode cX8_laysWalls 222 = .ok (.aload_n 0, 1) := by decide +kernel
theorem dX8_laysWalls_223 : decode cX8_laysWalls 223 = .ok (.getfield 32, 3) := by decide +kernel
theorem dX8_laysWalls_226 : decode cX8_laysWalls 226 = .ok (.iload 6, 2) := by decide +kernel
theorem dX8_laysWalls_228 : decode cX8_laysWalls 228 = .ok (.iaload, 1) := by decide +kernel
theorem dX8_laysWalls_229 : decode cX8_laysWalls 229 = .ok (.if_icmp .ge 8, 3) := by decide +kernel
theorem dX8_laysWalls_232 : decode cX8_laysWalls 232 = .ok (.iload 4, 2) := by decide +kernel
theorem dX8_laysWalls_234 : decode cX8_laysWalls 234 = .ok (.goto 10, 3) := by decide +kernel
theorem dX8_laysWalls_237 : decode cX8_laysWalls 237 = .ok (.aload_n 0, 1) := by decide +kernel
theorem dX8_laysWalls_238 : decode cX8_laysWalls 238 = .ok (.getfield 32, 3) := by decide +kernel
theorem dX8_laysWalls_241 : decode cX8_laysWalls 241 = .ok (.iload 6, 2) := by decide +kernel
theorem dX8_laysWalls_243 : decode cX8_laysWalls 243 = .ok (.iaload, 1) := by decide +kernel
theorem dX8_laysWalls_244 : decode cX8_laysWalls 244 = .ok (.iastore, 1) := by decide +kernel
theorem dX8_laysWalls_245 : decode cX8_laysWalls 245 = .ok (.aload_n 0, 1) := by decide +kernel
theorem dX8_laysWalls_246 : decode cX8_laysWalls 246 = .ok (.getfield 35, 3) := by decide +kernel
theorem dX8_laysWalls_249 : decode cX8_laysWalls 249 = .ok (.iload 6, 2) := by decide +kernel
theorem dX8_laysWalls_251 : decode cX8_laysWalls 251 = .ok (.iload 5, 2) := by decide +kernel
theorem dX8_laysWalls_253 : decode cX8_laysWalls 253 = .ok (.aload_n 0, 1) := by decide +kernel
theorem dX8_laysWalls_254 : decode cX8_laysWalls 254 = .ok (.getfield 35, 3) := by decide +kernel
theorem dX8_laysWalls_257 : decode cX8_laysWalls 257 = .ok (.iload 6, 2) := by decide +kernel
theorem dX8_laysWalls_259 : decode cX8_laysWalls 259 = .ok (.iaload, 1) := by decide +kernel
theorem dX8_laysWalls_260 : decode cX8_laysWalls 260 = .ok (.if_icmp .ge 8, 3) := by decide +kernel
theorem dX8_laysWalls_263 : decode cX8_laysWalls 263 = .ok (.iload 5, 2) := by decide +kernel
theorem dX8_laysWalls_265 : decode cX8_laysWalls 265 = .ok (.goto 10, 3) := by decide +kernel
theorem dX8_laysWalls_268 : decode cX8_laysWalls 268 = .ok (.aload_n 0, 1) := by decide +kernel
theorem dX8_laysWalls_269 : decode cX8_laysWalls 269 = .ok (.getfield 35, 3) := by decide +kernel
theorem dX8_laysWalls_272 : decode cX8_laysWalls 272 = .ok (.iload 6, 2) := by decide +kernel
theorem dX8_laysWalls_274 : decode cX8_laysWalls 274 = .ok (.iaload, 1) := by decide +kernel
theorem dX8_laysWalls_275 : decode cX8_laysWalls 275 = .ok (.iastore, 1) := by decide +kernel
theorem dX8_laysWalls_276 : decode cX8_laysWalls 276 = .ok (.iinc 3 1, 3) := by decide +kernel
theorem dX8_laysWalls_279 : decode cX8_laysWalls 279 = .ok (.goto (-129), 3) := by decide +kernel
theorem dX8_laysWalls_282 : decode cX8_laysWalls 282 = .ok (.iinc 2 1, 3) := by decide +kernel
theorem dX8_laysWalls_285 : decode cX8_laysWalls 285 = .ok (.goto (-143), 3) := by decide +kernel
theorem dX8_laysWalls_288 : decode cX8_laysWalls 288 = .ok (.iinc 1 1, 3) := by decide +kernel
theorem dX8_laysWalls_291 : decode cX8_laysWalls 291 = .ok (.goto (-157), 3) := by decide +kernel
theorem dX8_laysWalls_294 : decode cX8_laysWalls 294 = .ok (.return_, 1) := by decide +kernel
theorem dX8_isLit_0 : decode cX8_isLit 0 = .ok (.iload_n 3, 1) := by decide +kernel
theorem dX8_isLit_1 : decode cX8_isLit 1 = .ok (.aload_n 1, 1) := by decide +kernel
theorem dX8_isLit_2 : decode cX8_isLit 2 = .ok (.iconst 3, 1) := by decide +kernel
theorem dX8_isLit_3 : decode cX8_isLit 3 = .ok (.iload_n 2, 1) := by decide +kernel
theorem dX8_isLit_4 : decode cX8_isLit 4 = .ok (.iadd, 1) := by decide +kernel
theorem dX8_isLit_5 : decode cX8_isLit 5 = .ok (.iaload, 1) := by decide +kernel
theorem dX8_isLit_6 : decode cX8_isLit 6 = .ok (.if_icmp .ge 16, 3) := by decide +kernel
theorem dX8_isLit_9 : decode cX8_isLit 9 = .ok (.aload_n 1, 1) := by decide +kernel
theorem dX8_isLit_10 : decode cX8_isLit 10 = .ok (.bipush 9, 2) := by decide +kernel
theorem dX8_isLit_12 : decode cX8_isLit 12 = .ok (.iload_n 2, 1) := by decide +kernel
theorem dX8_isLit_13 : decode cX8_isLit 13 = .ok (.iadd, 1) := by decide +kernel
theorem dX8_isLit_14 : decode cX8_isLit 14 = .ok (.iaload, 1) := by decide +kernel
theorem dX8_isLit_15 : decode cX8_isLit 15 = .ok (.ifCond .ne 7, 3) := by decide +kernel
theorem dX8_isLit_18 : decode cX8_isLit 18 = .ok (.iconst 1, 1) := by decide +kernel
theorem dX8_isLit_19 : decode cX8_isLit 19 = .ok (.goto 4, 3) := by decide +kernel
theorem dX8_isLit_22 : decode cX8_isLit 22 = .ok (.iconst 0, 1) := by decide +kernel
theorem dX8_isLit_23 : decode cX8_isLit 23 = .ok (.ireturn, 1) := by decide +kernel
theorem dX8_litOf_0 : decode cX8_litOf 0 = .ok (.iconst 0, 1) := by decide +kernel
theorem dX8_litOf_1 : decode cX8_litOf 1 = .ok (.istore_n 1, 1) := by decide +kernel
theorem dX8_litOf_2 : decode cX8_litOf 2 = .ok (.iconst 0, 1) := by decide +kernel
theorem dX8_litOf_3 : decode cX8_litOf 3 = .ok (.istore_n 2, 1) := by decide +kernel
theorem dX8_litOf_4 : decode cX8_litOf 4 = .ok (.iload_n 2, 1) := by decide +kernel
theorem dX8_litOf_5 : decode cX8_litOf 5 = .ok (.aload_n 0, 1) := by decide +kernel
theorem dX8_litOf_6 : decode cX8_litOf 6 = .ok (.getfield 82, 3) := by decide +kernel
theorem dX8_litOf_9 : decode cX8_litOf 9 = .ok (.if_icmp .ge 37, 3) := by decide +kernel
theorem dX8_litOf_12 : decode cX8_litOf 12 = .ok (.iload_n 1, 1) := by decide +kernel
theorem dX8_litOf_13 : decode cX8_litOf 13 = .ok (.aload_n 0, 1) := by decide +kernel
theorem dX8_litOf_14 : decode cX8_litOf 14 = .ok (.aload_n 0, 1) := by decide +kernel
theorem dX8_litOf_15 : decode cX8_litOf 15 = .ok (.getfield 38, 3) := by decide +kernel
theorem dX8_litOf_18 : decode cX8_litOf 18 = .ok (.iload_n 2, 1) := by decide +kernel
theorem dX8_litOf_19 : decode cX8_litOf 19 = .ok (.aload_n 0, 1) := by decide +kernel
theorem dX8_litOf_20 : decode cX8_litOf 20 = .ok (.getfield 38, 3) := by decide +kernel
theorem dX8_litOf_23 : decode cX8_litOf 23 = .ok (.iconst 0, 1) := by decide +kernel
theorem dX8_litOf_24 : decode cX8_litOf 24 = .ok (.iaload, 1) := by decide +kernel
theorem dX8_litOf_25 : decode cX8_litOf 25 = .ok (.invokevirtual 177, 3) := by decide +kernel
theorem dX8_litOf_28 : decode cX8_litOf 28 = .ok (.ifCond .eq 9, 3) := by decide +kernel
theorem dX8_litOf_31 : decode cX8_litOf 31 = .ok (.iconst 1, 1) := by decide +kernel
theorem dX8_litOf_32 : decode cX8_litOf 32 = .ok (.iload_n 2, 1) := by decide +kernel
theorem dX8_litOf_33 : decode cX8_litOf 33 = .ok (.ishl, 1) := by decide +kernel
theorem dX8_litOf_34 : decode cX8_litOf 34 = .ok (.goto 4, 3) := by decide +kernel
theorem dX8_litOf_37 : decode cX8_litOf 37 = .ok (.iconst 0, 1) := by decide +kernel
theorem dX8_litOf_38 : decode cX8_litOf 38 = .ok (.ior, 1) := by decide +kernel
theorem dX8_litOf_39 : decode cX8_litOf 39 = .ok (.istore_n 1, 1) := by decide +kernel
theorem dX8_litOf_40 : decode cX8_litOf 40 = .ok (.iinc 2 1, 3) := by decide +kernel
theorem dX8_litOf_43 : decode cX8_litOf 43 = .ok (.goto (-39), 3) := by decide +kernel
theorem dX8_litOf_46 : decode cX8_litOf 46 = .ok (.iload_n 1, 1) := by decide +kernel
theorem dX8_litOf_47 : decode cX8_litOf 47 = .ok (.ireturn, 1) := by decide +kernel
theorem dX8_hearsFrom_0 : decode cX8_hearsFrom 0 = .ok (.iconst 0, 1) := by decide +kernel
theorem dX8_hearsFrom_1 : decode cX8_hearsFrom 1 = .ok (.istore_n 3, 1) := by decide +kernel
theorem dX8_hearsFrom_2 : decode cX8_hearsFrom 2 = .ok (.iconst 0, 1) := by decide +kernel
theorem dX8_hearsFrom_3 : decode cX8_hearsFrom 3 = .ok (.istore 4, 2) := by decide +kernel
theorem dX8_hearsFrom_5 : decode cX8_hearsFrom 5 = .ok (.iload 4, 2) := by decide +kernel
theorem dX8_hearsFrom_7 : decode cX8_hearsFrom 7 = .ok (.aload_n 0, 1) := by decide +kernel
theorem dX8_hearsFrom_8 : decode cX8_hearsFrom 8 = .ok (.getfield 82, 3) := by decide +kernel
theorem dX8_hearsFrom_11 : decode cX8_hearsFrom 11 = .ok (.if_icmp .ge 41, 3) := by decide +kernel
theorem dX8_hearsFrom_14 : decode cX8_hearsFrom 14 = .ok (.iload_n 3, 1) := by decide +kernel
theorem dX8_hearsFrom_15 : decode cX8_hearsFrom 15 = .ok (.aload_n 0, 1) := by decide +kernel
theorem dX8_hearsFrom_16 : decode cX8_hearsFrom 16 = .ok (.getfield 32, 3) := by decide +kernel
theorem dX8_hearsFrom_19 : decode cX8_hearsFrom 19 = .ok (.bipush 6, 2) := by decide +kernel
theorem dX8_hearsFrom_21 : decode cX8_hearsFrom 21 = .ok (.iload_n 2, 1) := by decide +kernel
theorem dX8_hearsFrom_22 : decode cX8_hearsFrom 22 = .ok (.imul, 1) := by decide +kernel
theorem dX8_hearsFrom_23 : decode cX8_hearsFrom 23 = .ok (.iload 4, 2) := by decide +kernel
theorem dX8_hearsFrom_25 : decode cX8_hearsFrom 25 = .ok (.iadd, 1) := by decide +kernel
theorem dX8_hearsFrom_26 : decode cX8_hearsFrom 26 = .ok (.iaload, 1) := by decide +kernel
theorem dX8_hearsFrom_27 : decode cX8_hearsFrom 27 = .ok (.aload_n 0, 1) := by decide +kernel
theorem dX8_hearsFrom_28 : decode cX8_hearsFrom 28 = .ok (.getfield 29, 3) := by decide +kernel
theorem dX8_hearsFrom_31 : decode cX8_hearsFrom 31 = .ok (.iload_n 1, 1) := by decide +kernel
theorem dX8_hearsFrom_32 : decode cX8_hearsFrom 32 = .ok (.iaload, 1) := by decide +kernel
theorem dX8_hearsFrom_33 : decode cX8_hearsFrom 33 = .ok (.if_icmp .ge 10, 3) := by decide +kernel
theorem dX8_hearsFrom_36 : decode cX8_hearsFrom 36 = .ok (.iconst 1, 1) := by decide +kernel
theorem dX8_hearsFrom_37 : decode cX8_hearsFrom 37 = .ok (.iload 4, 2) := by decide +kernel
theorem dX8_hearsFrom_39 : decode cX8_hearsFrom 39 = .ok (.ishl, 1) := by decide +kernel
theorem dX8_hearsFrom_40 : decode cX8_hearsFrom 40 = .ok (.goto 4, 3) := by decide +kernel
theorem dX8_hearsFrom_43 : decode cX8_hearsFrom 43 = .ok (.iconst 0, 1) := by decide +kernel
theorem dX8_hearsFrom_44 : decode cX8_hearsFrom 44 = .ok (.ior, 1) := by decide +kernel
theorem dX8_hearsFrom_45 : decode cX8_hearsFrom 45 = .ok (.istore_n 3, 1) := by decide +kernel
theorem dX8_hearsFrom_46 : decode cX8_hearsFrom 46 = .ok (.iinc 4 1, 3) := by decide +kernel
theorem dX8_hearsFrom_49 : decode cX8_hearsFrom 49 = .ok (.goto (-44), 3) := by decide +kernel
theorem dX8_hearsFrom_52 : decode cX8_hearsFrom 52 = .ok (.iload_n 3, 1) := by decide +kernel
theorem dX8_hearsFrom_53 : decode cX8_hearsFrom 53 = .ok (.ireturn, 1) := by decide +kernel
theorem dX8_countsIn_0 : decode cX8_countsIn 0 = .ok (.iload_n 3, 1) := by decide +kernel
theorem dX8_countsIn_1 : decode cX8_countsIn 1 = .ok (.aload_n 0, 1) := by decide +kernel
theorem dX8_countsIn_2 : decode cX8_countsIn 2 = .ok (.getfield 154, 3) := by decide +kernel
theorem dX8_countsIn_5 : decode cX8_countsIn 5 = .ok (.iconst 2, 1) := by decide +kernel
theorem dX8_countsIn_6 : decode cX8_countsIn 6 = .ok (.idiv, 1) := by decide +kernel
theorem dX8_countsIn_7 : decode cX8_countsIn 7 = .ok (.if_icmp .lt 7, 3) := by decide +kernel
theorem dX8_countsIn_10 : decode cX8_countsIn 10 = .ok (.iconst 1, 1) := by decide +kernel
theorem dX8_countsIn_11 : decode cX8_countsIn 11 = .ok (.goto 4, 3) := by decide +kernel
theorem dX8_countsIn_14 : decode cX8_countsIn 14 = .ok (.iconst 0, 1) := by decide +kernel
theorem dX8_countsIn_15 : decode cX8_countsIn 15 = .ok (.istore 6, 2) := by decide +kernel
theorem dX8_countsIn_17 : decode cX8_countsIn 17 = .ok (.iload 4, 2) := by decide +kernel
theorem dX8_countsIn_19 : decode cX8_countsIn 19 = .ok (.iconst 2, 1) := by decide +kernel
theorem dX8_countsIn_20 : decode cX8_countsIn 20 = .ok (.if_icmp .ne 10, 3) := by decide +kernel
theorem dX8_countsIn_23 : decode cX8_countsIn 23 = .ok (.iload 6, 2) := by decide +kernel
theorem dX8_countsIn_25 : decode cX8_countsIn 25 = .ok (.ifCond .ne 5, 3) := by decide +kernel
theorem dX8_countsIn_28 : decode cX8_countsIn 28 = .ok (.iconst 0, 1) := by decide +kernel
theorem dX8_countsIn_29 : decode cX8_countsIn 29 = .ok (.ireturn, 1) := by decide +kernel
theorem dX8_countsIn_30 : decode cX8_countsIn 30 = .ok (.aload_n 0, 1) := by decide +kernel
theorem dX8_countsIn_31 : decode cX8_countsIn 31 = .ok (.getfield 26, 3) := by decide +kernel
theorem dX8_countsIn_34 : decode cX8_countsIn 34 = .ok (.iload_n 1, 1) := by decide +kernel
theorem dX8_countsIn_35 : decode cX8_countsIn 35 = .ok (.iaload, 1) := by decide +kernel
theorem dX8_countsIn_36 : decode cX8_countsIn 36 = .ok (.iconst 3, 1) := by decide +kernel
theorem dX8_countsIn_37 : decode cX8_countsIn 37 = .ok (.if_icmp .ne 7, 3) := by decide +kernel
theorem dX8_countsIn_40 : decode cX8_countsIn 40 = .ok (.iconst 1, 1) := by decide +kernel
theorem dX8_countsIn_41 : decode cX8_countsIn 41 = .ok (.iload_n 2, 1) := by decide +kernel
theorem dX8_countsIn_42 : decode cX8_countsIn 42 = .ok (.ishl, 1) := by decide +kernel
theorem dX8_countsIn_43 : decode cX8_countsIn 43 = .ok (.ireturn, 1) := by decide +kernel
theorem dX8_countsIn_44 : decode cX8_countsIn 44 = .ok (.aload_n 0, 1) := by decide +kernel
theorem dX8_countsIn_45 : decode cX8_countsIn 45 = .ok (.getfield 26, 3) := by decide +kernel
theorem dX8_countsIn_48 : decode cX8_countsIn 48 = .ok (.iload_n 1, 1) := by decide +kernel
theorem dX8_countsIn_49 : decode cX8_countsIn 49 = .ok (.iaload, 1) := by decide +kernel
theorem dX8_countsIn_50 : decode cX8_countsIn 50 = .ok (.iconst 4, 1) := by decide +kernel
theorem dX8_countsIn_51 : decode cX8_countsIn 51 = .ok (.if_icmp .ne 33, 3) := by decide +kernel
theorem dX8_countsIn_54 : decode cX8_countsIn 54 = .ok (.aload_n 0, 1) := by decide +kernel
theorem dX8_countsIn_55 : decode cX8_countsIn 55 = .ok (.aload_n 0, 1) := by decide +kernel
theorem dX8_countsIn_56 : decode cX8_countsIn 56 = .ok (.getfield 38, 3) := by decide +kernel
theorem dX8_countsIn_59 : decode cX8_countsIn 59 = .ok (.iload_n 2, 1) := by decide +kernel
theorem dX8_countsIn_60 : decode cX8_countsIn 60 = .ok (.iload_n 3, 1) := by decide +kernel
theorem dX8_countsIn_61 : decode cX8_countsIn 61 = .ok (.invokevirtual 177, 3) := by decide +kernel
theorem dX8_countsIn_64 : decode cX8_countsIn 64 = .ok (.ifCond .eq 18, 3) := by decide +kernel
theorem dX8_countsIn_67 : decode cX8_countsIn 67 = .ok (.iload 5, 2) := by decide +kernel
theorem dX8_countsIn_69 : decode cX8_countsIn 69 = .ok (.iload_n 2, 1) := by decide +kernel
theorem dX8_countsIn_70 : decode cX8_countsIn 70 = .ok (.invokestatic 181, 3) := by decide +kernel
theorem dX8_countsIn_73 : decode cX8_countsIn 73 = .ok (.ifCond .eq 9, 3) := by decide +kernel
theorem dX8_countsIn_76 : decode cX8_countsIn 76 = .ok (.iconst 1, 1) := by decide +kernel
theorem dX8_countsIn_77 : decode cX8_countsIn 77 = .ok (.iload_n 2, 1) := by decide +kernel
theorem dX8_countsIn_78 : decode cX8_countsIn 78 = .ok (.ishl, 1) := by decide +kernel
theorem dX8_countsIn_79 : decode cX8_countsIn 79 = .ok (.goto 4, 3) := by decide +kernel
theorem dX8_countsIn_82 : decode cX8_countsIn 82 = .ok (.iconst 0, 1) := by decide +kernel
theorem dX8_countsIn_83 : decode cX8_countsIn 83 = .ok (.ireturn, 1) := by decide +kernel
theorem dX8_countsIn_84 : decode cX8_countsIn 84 = .ok (.aload_n 0, 1) := by decide +kernel
theorem dX8_countsIn_85 : decode cX8_countsIn 85 = .ok (.getfield 26, 3) := by decide +kernel
theorem dX8_countsIn_88 : decode cX8_countsIn 88 = .ok (.iload_n 1, 1) := by decide +kernel
theorem dX8_countsIn_89 : decode cX8_countsIn 89 = .ok (.iaload, 1) := by decide +kernel
theorem dX8_countsIn_90 : decode cX8_countsIn 90 = .ok (.iconst 1, 1) := by decide +kernel
theorem dX8_countsIn_91 : decode cX8_countsIn 91 = .ok (.if_icmp .ne 10, 3) := by decide +kernel
theorem dX8_countsIn_94 : decode cX8_countsIn 94 = .ok (.iload 6, 2) := by decide +kernel
theorem dX8_countsIn_96 : decode cX8_countsIn 96 = .ok (.ifCond .ne 5, 3) := by decide +kernel
theorem dX8_countsIn_99 : decode cX8_countsIn 99 = .ok (.iconst 0, 1) := by decide +kernel
theorem dX8_countsIn_100 : decode cX8_countsIn 100 = .ok (.ireturn, 1) := by decide +kernel
theorem dX8_countsIn_101 : decode cX8_countsIn 101 = .ok (.iload 4, 2) := by decide +kernel
theorem dX8_countsIn_103 : decode cX8_countsIn 103 = .ok (.iconst 1, 1) := by decide +kernel
theorem dX8_countsIn_104 : decode cX8_countsIn 104 = .ok (.if_icmp .ne 9, 3) := by decide +kernel
theorem dX8_countsIn_107 : decode cX8_countsIn 107 = .ok (.iconst 1, 1) := by decide +kernel
theorem dX8_countsIn_108 : decode cX8_countsIn 108 = .ok (.iload_n 2, 1) := by decide +kernel
theorem dX8_countsIn_109 : decode cX8_countsIn 109 = .ok (.ishl, 1) := by decide +kernel
theorem dX8_countsIn_110 : decode cX8_countsIn 110 = .ok (.goto 9, 3) := by decide +kernel
theorem dX8_countsIn_113 : decode cX8_countsIn 113 = .ok (.aload_n 0, 1) := by decide +kernel
theorem dX8_countsIn_114 : decode cX8_countsIn 114 = .ok (.iload_n 1, 1) := by decide +kernel
theorem dX8_countsIn_115 : decode cX8_countsIn 115 = .ok (.iload_n 2, 1) := by decide +kernel
theorem dX8_countsIn_116 : decode cX8_countsIn 116 = .ok (.invokevirtual 185, 3) := by decide +kernel
theorem dX8_countsIn_119 : decode cX8_countsIn 119 = .ok (.istore 7, 2) := by decide +kernel
theorem dX8_countsIn_121 : decode cX8_countsIn 121 = .ok (.iconst 0, 1) := by decide +kernel
theorem dX8_countsIn_122 : decode cX8_countsIn 122 = .ok (.istore 8, 2) := by decide +kernel
theorem dX8_countsIn_124 : decode cX8_countsIn 124 = .ok (.iconst 0, 1) := by decide +kernel
theorem dX8_countsIn_125 : decode cX8_countsIn 125 = .ok (.istore 9, 2) := by decide +kernel
theorem dX8_countsIn_127 : decode cX8_countsIn 127 = .ok (.iload 9, 2) := by decide +kernel
theorem dX8_countsIn_129 : decode cX8_countsIn 129 = .ok (.aload_n 0, 1) := by decide +kernel
theorem dX8_countsIn_130 : decode cX8_countsIn 130 = .ok (.getfield 82, 3) := by decide +kernel
theorem dX8_countsIn_133 : decode cX8_countsIn 133 = .ok (.if_icmp .ge 46, 3) := by decide +kernel
theorem dX8_countsIn_136 : decode cX8_countsIn 136 = .ok (.iload 8, 2) := by decide +kernel
theorem dX8_countsIn_138 : decode cX8_countsIn 138 = .ok (.iload 7, 2) := by decide +kernel
theorem dX8_countsIn_140 : decode cX8_countsIn 140 = .ok (.iload 9, 2) := by decide +kernel
theorem dX8_countsIn_142 : decode cX8_countsIn 142 = .ok (.invokestatic 181, 3) := by decide +kernel
theorem dX8_countsIn_145 : decode cX8_countsIn 145 = .ok (.ifCond .eq 24, 3) := by decide +kernel
theorem dX8_countsIn_148 : decode cX8_countsIn 148 = .ok (.aload_n 0, 1) := by decide +kernel
theorem dX8_countsIn_149 : decode cX8_countsIn 149 = .ok (.aload_n 0, 1) := by decide +kernel
theorem dX8_countsIn_150 : decode cX8_countsIn 150 = .ok (.getfield 38, 3) := by decide +kernel
theorem dX8_countsIn_153 : decode cX8_countsIn 153 = .ok (.iload 9, 2) := by decide +kernel
theorem dX8_countsIn_155 : decode cX8_countsIn 155 = .ok (.iload_n 3, 1) := by decide +kernel
theorem dX8_countsIn_156 : decode cX8_countsIn 156 = .ok (.invokevirtual 177, 3) := by decide +kernel
theorem dX8_countsIn_159 : decode cX8_countsIn 159 = .ok (.ifCond .eq 10, 3) := by decide +kernel
theorem dX8_countsIn_162 : decode cX8_countsIn 162 = .ok (.iconst 1, 1) := by decide +kernel
theorem dX8_countsIn_163 : decode cX8_countsIn 163 = .ok (.iload 9, 2) := by decide +kernel
theorem dX8_countsIn_165 : decode cX8_countsIn 165 = .ok (.ishl, 1) := by decide +kernel
theorem dX8_countsIn_166 : decode cX8_countsIn 166 = .ok (.goto 4, 3) := by decide +kernel
theorem dX8_countsIn_169 : decode cX8_countsIn 169 = .ok (.iconst 0, 1) := by decide +kernel
theorem dX8_countsIn_170 : decode cX8_countsIn 170 = .ok (.ior, 1) := by decide +kernel
theorem dX8_countsIn_171 : decode cX8_countsIn 171 = .ok (.istore 8, 2) := by decide +kernel
theorem dX8_countsIn_173 : decode cX8_countsIn 173 = .ok (.iinc 9 1, 3) := by decide +kernel
theorem dX8_countsIn_176 : decode cX8_countsIn 176 = .ok (.goto (-49), 3) := by decide +kernel
theorem dX8_countsIn_179 : decode cX8_countsIn 179 = .ok (.iload 8, 2) := by decide +kernel
theorem dX8_countsIn_181 : decode cX8_countsIn 181 = .ok (.ireturn, 1) := by decide +kernel
theorem dX8_whoseOf_0 : decode cX8_whoseOf 0 = .ok (.aload_n 0, 1) := by decide +kernel
theorem dX8_whoseOf_1 : decode cX8_whoseOf 1 = .ok (.getfield 26, 3) := by decide +kernel
theorem dX8_whoseOf_4 : decode cX8_whoseOf 4 = .ok (.iload_n 1, 1) := by decide +kernel
theorem dX8_whoseOf_5 : decode cX8_whoseOf 5 = .ok (.iaload, 1) := by decide +kernel
theorem dX8_whoseOf_6 : decode cX8_whoseOf 6 = .ok (.iconst 2, 1) := by decide +kernel
theorem dX8_whoseOf_7 : decode cX8_whoseOf 7 = .ok (.if_icmp .ne 12, 3) := by decide +kernel
theorem dX8_whoseOf_10 : decode cX8_whoseOf 10 = .ok (.iload_n 2, 1) := by decide +kernel
theorem dX8_whoseOf_11 : decode cX8_whoseOf 11 = .ok (.iconst 3, 1) := by decide +kernel
theorem dX8_whoseOf_12 : decode cX8_whoseOf 12 = .ok (.if_icmp .eq 7, 3) := by decide +kernel
theorem dX8_whoseOf_15 : decode cX8_whoseOf 15 = .ok (.iconst 0, 1) := by decide +kernel
theorem dX8_whoseOf_16 : decode cX8_whoseOf 16 = .ok (.goto 4, 3) := by decide +kernel
theorem dX8_whoseOf_19 : decode cX8_whoseOf 19 = .ok (.iload_n 1, 1) := by decide +kernel
theorem dX8_whoseOf_20 : decode cX8_whoseOf 20 = .ok (.ireturn, 1) := by decide +kernel
theorem dX8_wordedOf_0 : decode cX8_wordedOf 0 = .ok (.iconst 0, 1) := by decide +kernel
theorem dX8_wordedOf_1 : decode cX8_wordedOf 1 = .ok (.istore_n 2, 1) := by decide +kernel
theorem dX8_wordedOf_2 : decode cX8_wordedOf 2 = .ok (.iconst 0, 1) := by decide +kernel
theorem dX8_wordedOf_3 : decode cX8_wordedOf 3 = .ok (.istore_n 3, 1) := by decide +kernel
theorem dX8_wordedOf_4 : decode cX8_wordedOf 4 = .ok (.iload_n 3, 1) := by decide +kernel
theorem dX8_wordedOf_5 : decode cX8_wordedOf 5 = .ok (.aload_n 0, 1) := by decide +kernel
theorem dX8_wordedOf_6 : decode cX8_wordedOf 6 = .ok (.getfield 82, 3) := by decide +kernel
theorem dX8_wordedOf_9 : decode cX8_wordedOf 9 = .ok (.if_icmp .ge 36, 3) := by decide +kernel
theorem dX8_wordedOf_12 : decode cX8_wordedOf 12 = .ok (.iload_n 2, 1) := by decide +kernel
theorem dX8_wordedOf_13 : decode cX8_wordedOf 13 = .ok (.aload_n 0, 1) := by decide +kernel
theorem dX8_wordedOf_14 : decode cX8_wordedOf 14 = .ok (.getfield 38, 3) := by decide +kernel
theorem dX8_wordedOf_17 : decode cX8_wordedOf 17 = .ok (.bipush 21, 2) := by decide +kernel
theorem dX8_wordedOf_19 : decode cX8_wordedOf 19 = .ok (.bipush 6, 2) := by decide +kernel
theorem dX8_wordedOf_21 : decode cX8_wordedOf 21 = .ok (.iload_n 1, 1) := by decide +kernel
theorem dX8_wordedOf_22 : decode cX8_wordedOf 22 = .ok (.imul, 1) := by decide +kernel
theorem dX8_wordedOf_23 : decode cX8_wordedOf 23 = .ok (.iadd, 1) := by decide +kernel
theorem dX8_wordedOf_24 : decode cX8_wordedOf 24 = .ok (.iload_n 3, 1) := by decide +kernel
theorem dX8_wordedOf_25 : decode cX8_wordedOf 25 = .ok (.iadd, 1) := by decide +kernel
theorem dX8_wordedOf_26 : decode cX8_wordedOf 26 = .ok (.iaload, 1) := by decide +kernel
theorem dX8_wordedOf_27 : decode cX8_wordedOf 27 = .ok (.ifCond .lt 9, 3) := by decide +kernel
theorem dX8_wordedOf_30 : decode cX8_wordedOf 30 = .ok (.iconst 1, 1) := by decide +kernel
theorem dX8_wordedOf_31 : decode cX8_wordedOf 31 = .ok (.iload_n 3, 1) := by decide +kernel
theorem dX8_wordedOf_32 : decode cX8_wordedOf 32 = .ok (.ishl, 1) := by decide +kernel
theorem dX8_wordedOf_33 : decode cX8_wordedOf 33 = .ok (.goto 4, 3) := by decide +kernel
theorem dX8_wordedOf_36 : decode cX8_wordedOf 36 = .ok (.iconst 0, 1) := by decide +kernel
theorem dX8_wordedOf_37 : decode cX8_wordedOf 37 = .ok (.ior, 1) := by decide +kernel
theorem dX8_wordedOf_38 : decode cX8_wordedOf 38 = .ok (.istore_n 2, 1) := by decide +kernel
theorem dX8_wordedOf_39 : decode cX8_wordedOf 39 = .ok (.iinc 3 1, 3) := by decide +kernel
theorem dX8_wordedOf_42 : decode cX8_wordedOf 42 = .ok (.goto (-38), 3) := by decide +kernel
theorem dX8_wordedOf_45 : decode cX8_wordedOf 45 = .ok (.iload_n 2, 1) := by decide +kernel
theorem dX8_wordedOf_46 : decode cX8_wordedOf 46 = .ok (.ireturn, 1) := by decide +kernel
theorem dX8_countsOf_0 : decode cX8_countsOf 0 = .ok (.aload_n 0, 1) := by decide +kernel
theorem dX8_countsOf_1 : decode cX8_countsOf 1 = .ok (.iload_n 1, 1) := by decide +kernel
theorem dX8_countsOf_2 : decode cX8_countsOf 2 = .ok (.aload_n 0, 1) := by decide +kernel
theorem dX8_countsOf_3 : decode cX8_countsOf 3 = .ok (.getfield 38, 3) := by decide +kernel
theorem dX8_countsOf_6 : decode cX8_countsOf 6 = .ok (.bipush 45, 2) := by decide +kernel
theorem dX8_countsOf_8 : decode cX8_countsOf 8 = .ok (.iload_n 1, 1) := by decide +kernel
theorem dX8_countsOf_9 : decode cX8_countsOf 9 = .ok (.iadd, 1) := by decide +kernel
theorem dX8_countsOf_10 : decode cX8_countsOf 10 = .ok (.iaload, 1) := by decide +kernel
theorem dX8_countsOf_11 : decode cX8_countsOf 11 = .ok (.aload_n 0, 1) := by decide +kernel
theorem dX8_countsOf_12 : decode cX8_countsOf 12 = .ok (.getfield 38, 3) := by decide +kernel
theorem dX8_countsOf_15 : decode cX8_countsOf 15 = .ok (.iconst 0, 1) := by decide +kernel
theorem dX8_countsOf_16 : decode cX8_countsOf 16 = .ok (.iaload, 1) := by decide +kernel
theorem dX8_countsOf_17 : decode cX8_countsOf 17 = .ok (.iconst 0, 1) := by decide +kernel
theorem dX8_countsOf_18 : decode cX8_countsOf 18 = .ok (.aload_n 0, 1) := by decide +kernel
theorem dX8_countsOf_19 : decode cX8_countsOf 19 = .ok (.iconst 0, 1) := by decide +kernel
theorem dX8_countsOf_20 : decode cX8_countsOf 20 = .ok (.invokevirtual 189, 3) := by decide +kernel
theorem dX8_countsOf_23 : decode cX8_countsOf 23 = .ok (.invokevirtual 193, 3) := by decide +kernel
theorem dX8_countsOf_26 : decode cX8_countsOf 26 = .ok (.istore_n 2, 1) := by decide +kernel
theorem dX8_countsOf_27 : decode cX8_countsOf 27 = .ok (.iconst 0, 1) := by decide +kernel
theorem dX8_countsOf_28 : decode cX8_countsOf 28 = .ok (.istore_n 3, 1) := by decide +kernel
theorem dX8_countsOf_29 : decode cX8_countsOf 29 = .ok (.iconst 0, 1) := by decide +kernel
theorem dX8_countsOf_30 : decode cX8_countsOf 30 = .ok (.istore 4, 2) := by decide +kernel
theorem dX8_countsOf_32 : decode cX8_countsOf 32 = .ok (.iload 4, 2) := by decide +kernel
theorem dX8_countsOf_34 : decode cX8_countsOf 34 = .ok (.aload_n 0, 1) := by decide +kernel
theorem dX8_countsOf_35 : decode cX8_countsOf 35 = .ok (.getfield 82, 3) := by decide +kernel
theorem dX8_countsOf_38 : decode cX8_countsOf 38 = .ok (.if_icmp .ge 48, 3) := by decide +kernel
theorem dX8_countsOf_41 : decode cX8_countsOf 41 = .ok (.iload_n 3, 1) := by decide +kernel
theorem dX8_countsOf_42 : decode cX8_countsOf 42 = .ok (.iload_n 2, 1) := by decide +kernel
theorem dX8_countsOf_43 : decode cX8_countsOf 43 = .ok (.iload 4, 2) := by decide +kernel
theorem dX8_countsOf_45 : decode cX8_countsOf 45 = .ok (.invokestatic 181, 3) := by decide +kernel
theorem dX8_countsOf_48 : decode cX8_countsOf 48 = .ok (.ifCond .eq 29, 3) := by decide +kernel
theorem dX8_countsOf_51 : decode cX8_countsOf 51 = .ok (.aload_n 0, 1) := by decide +kernel
theorem dX8_countsOf_52 : decode cX8_countsOf 52 = .ok (.getfield 38, 3) := by decide +kernel
theorem dX8_countsOf_55 : decode cX8_countsOf 55 = .ok (.bipush 21, 2) := by decide +kernel
theorem dX8_countsOf_57 : decode cX8_countsOf 57 = .ok (.iload 4, 2) := by decide +kernel
theorem dX8_countsOf_59 : decode cX8_countsOf 59 = .ok (.iadd, 1) := by decide +kernel
theorem dX8_countsOf_60 : decode cX8_countsOf 60 = .ok (.iaload, 1) := by decide +kernel
theorem dX8_countsOf_61 : decode cX8_countsOf 61 = .ok (.aload_n 0, 1) := by decide +kernel
theorem dX8_countsOf_62 : decode cX8_countsOf 62 = .ok (.iload_n 1, 1) := by decide +kernel
theorem dX8_countsOf_63 : decode cX8_countsOf 63 = .ok (.iconst 0, 1) := by decide +kernel
theorem dX8_countsOf_64 : decode cX8_countsOf 64 = .ok (.invokevirtual 197, 3) := by decide +kernel
theorem dX8_countsOf_67 : decode cX8_countsOf 67 = .ok (.if_icmp .eq 10, 3) := by decide +kernel
theorem dX8_countsOf_70 : decode cX8_countsOf 70 = .ok (.iconst 1, 1) := by decide +kernel
theorem dX8_countsOf_71 : decode cX8_countsOf 71 = .ok (.iload 4, 2) := by decide +kernel
theorem dX8_countsOf_73 : decode cX8_countsOf 73 = .ok (.ishl, 1) := by decide +kernel
theorem dX8_countsOf_74 : decode cX8_countsOf 74 = .ok (.goto 4, 3) := by decide +kernel
theorem dX8_countsOf_77 : decode cX8_countsOf 77 = .ok (.iconst 0, 1) := by decide +kernel
theorem dX8_countsOf_78 : decode cX8_countsOf 78 = .ok (.ior, 1) := by decide +kernel
