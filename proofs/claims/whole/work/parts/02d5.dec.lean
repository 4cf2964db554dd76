theorem dX8_latestOf_76 : decode cX8_latestOf 76 = .ok (.aload_n 0, 1) := by decide +kernel
theorem dX8_latestOf_77 : decode cX8_latestOf 77 = .ok (.iload_n 1, 1) := by decide +kernel
theorem dX8_latestOf_78 : decode cX8_latestOf 78 = .ok (.iload 5, 2) := by decide +kernel
theorem dX8_latestOf_80 : decode cX8_latestOf 80 = .ok (.iload 6, 2) := by decide +kernel
theorem dX8_latestOf_82 : decode cX8_latestOf 82 = .ok (.iload_n 2, 1) := by decide +kernel
theorem dX8_latestOf_83 : decode cX8_latestOf 83 = .ok (.invokevirtual 273, 3) := by decide +kernel
theorem dX8_latestOf_86 : decode cX8_latestOf 86 = .ok (.iload_n 3, 1) := by decide +kernel
theorem dX8_latestOf_87 : decode cX8_latestOf 87 = .ok (.if_icmp .ne 8, 3) := by decide +kernel
theorem dX8_latestOf_90 : decode cX8_latestOf 90 = .ok (.iload 5, 2) := by decide +kernel
theorem dX8_latestOf_92 : decode cX8_latestOf 92 = .ok (.goto 5, 3) := by decide +kernel
theorem dX8_latestOf_95 : decode cX8_latestOf 95 = .ok (.iload 4, 2) := by decide +kernel
theorem dX8_latestOf_97 : decode cX8_latestOf 97 = .ok (.istore 4, 2) := by decide +kernel
theorem dX8_latestOf_99 : decode cX8_latestOf 99 = .ok (.iinc 6 1, 3) := by decide +kernel
theorem dX8_latestOf_102 : decode cX8_latestOf 102 = .ok (.goto (-79), 3) := by decide +kernel
theorem dX8_latestOf_105 : decode cX8_latestOf 105 = .ok (.iinc 5 1, 3) := by decide +kernel
theorem dX8_latestOf_108 : decode cX8_latestOf 108 = .ok (.goto (-97), 3) := by decide +kernel
theorem dX8_latestOf_111 : decode cX8_latestOf 111 = .ok (.iload 4, 2) := by decide +kernel
theorem dX8_latestOf_113 : decode cX8_latestOf 113 = .ok (.ireturn, 1) := by decide +kernel
theorem dX8_fewest_0 : decode cX8_fewest 0 = .ok (.aload_n 0, 1) := by decide +kernel
theorem dX8_fewest_1 : decode cX8_fewest 1 = .ok (.iload_n 1, 1) := by decide +kernel
theorem dX8_fewest_2 : decode cX8_fewest 2 = .ok (.invokevirtual 229, 3) := by decide +kernel
theorem dX8_fewest_5 : decode cX8_fewest 5 = .ok (.ifCond .eq 16, 3) := by decide +kernel
theorem dX8_fewest_8 : decode cX8_fewest 8 = .ok (.iload_n 2, 1) := by decide +kernel
theorem dX8_fewest_9 : decode cX8_fewest 9 = .ok (.ifCond .lt 12, 3) := by decide +kernel
theorem dX8_fewest_12 : decode cX8_fewest 12 = .ok (.iload_n 2, 1) := by decide +kernel
theorem dX8_fewest_13 : decode cX8_fewest 13 = .ok (.aload_n 0, 1) := by decide +kernel
theorem dX8_fewest_14 : decode cX8_fewest 14 = .ok (.getfield 82, 3) := by decide +kernel
theorem dX8_fewest_17 : decode cX8_fewest 17 = .ok (.ishr, 1) := by decide +kernel
theorem dX8_fewest_18 : decode cX8_fewest 18 = .ok (.ifCond .eq 6, 3) := by decide +kernel
theorem dX8_fewest_21 : decode cX8_fewest 21 = .ok (.ldc 222, 2) := by decide +kernel
theorem dX8_fewest_23 : decode cX8_fewest 23 = .ok (.ireturn, 1) := by decide +kernel
theorem dX8_fewest_24 : decode cX8_fewest 24 = .ok (.iload_n 3, 1) := by decide +kernel
theorem dX8_fewest_25 : decode cX8_fewest 25 = .ok (.iconst 0, 1) := by decide +kernel
theorem dX8_fewest_26 : decode cX8_fewest 26 = .ok (.iconst 1, 1) := by decide +kernel
theorem dX8_fewest_27 : decode cX8_fewest 27 = .ok (.invokestatic 85, 3) := by decide +kernel
theorem dX8_fewest_30 : decode cX8_fewest 30 = .ok (.ifCond .ne 6, 3) := by decide +kernel
theorem dX8_fewest_33 : decode cX8_fewest 33 = .ok (.ldc 95, 2) := by decide +kernel
theorem dX8_fewest_35 : decode cX8_fewest 35 = .ok (.ireturn, 1) := by decide +kernel
theorem dX8_fewest_36 : decode cX8_fewest 36 = .ok (.aload_n 0, 1) := by decide +kernel
theorem dX8_fewest_37 : decode cX8_fewest 37 = .ok (.aload_n 0, 1) := by decide +kernel
theorem dX8_fewest_38 : decode cX8_fewest 38 = .ok (.iload_n 1, 1) := by decide +kernel
theorem dX8_fewest_39 : decode cX8_fewest 39 = .ok (.iconst 0, 1) := by decide +kernel
theorem dX8_fewest_40 : decode cX8_fewest 40 = .ok (.invokevirtual 197, 3) := by decide +kernel
theorem dX8_fewest_43 : decode cX8_fewest 43 = .ok (.invokevirtual 277, 3) := by decide +kernel
theorem dX8_fewest_46 : decode cX8_fewest 46 = .ok (.istore 4, 2) := by decide +kernel
theorem dX8_fewest_48 : decode cX8_fewest 48 = .ok (.aload_n 0, 1) := by decide +kernel
theorem dX8_fewest_49 : decode cX8_fewest 49 = .ok (.iload_n 1, 1) := by decide +kernel
theorem dX8_fewest_50 : decode cX8_fewest 50 = .ok (.iload_n 2, 1) := by decide +kernel
theorem dX8_fewest_51 : decode cX8_fewest 51 = .ok (.invokevirtual 280, 3) := by decide +kernel
theorem dX8_fewest_54 : decode cX8_fewest 54 = .ok (.aload_n 0, 1) := by decide +kernel
theorem dX8_fewest_55 : decode cX8_fewest 55 = .ok (.getfield 79, 3) := by decide +kernel
theorem dX8_fewest_58 : decode cX8_fewest 58 = .ok (.aload_n 0, 1) := by decide +kernel
theorem dX8_fewest_59 : decode cX8_fewest 59 = .ok (.getfield 38, 3) := by decide +kernel
theorem dX8_fewest_62 : decode cX8_fewest 62 = .ok (.iconst 0, 1) := by decide +kernel
theorem dX8_fewest_63 : decode cX8_fewest 63 = .ok (.iaload, 1) := by decide +kernel
theorem dX8_fewest_64 : decode cX8_fewest 64 = .ok (.aload_n 0, 1) := by decide +kernel
theorem dX8_fewest_65 : decode cX8_fewest 65 = .ok (.getfield 38, 3) := by decide +kernel
theorem dX8_fewest_68 : decode cX8_fewest 68 = .ok (.bipush 45, 2) := by decide +kernel
theorem dX8_fewest_70 : decode cX8_fewest 70 = .ok (.iload_n 1, 1) := by decide +kernel
theorem dX8_fewest_71 : decode cX8_fewest 71 = .ok (.iadd, 1) := by decide +kernel
theorem dX8_fewest_72 : decode cX8_fewest 72 = .ok (.iaload, 1) := by decide +kernel
theorem dX8_fewest_73 : decode cX8_fewest 73 = .ok (.iload 4, 2) := by decide +kernel
theorem dX8_fewest_75 : decode cX8_fewest 75 = .ok (.invokestatic 267, 3) := by decide +kernel
theorem dX8_fewest_78 : decode cX8_fewest 78 = .ok (.iaload, 1) := by decide +kernel
theorem dX8_fewest_79 : decode cX8_fewest 79 = .ok (.istore 5, 2) := by decide +kernel
theorem dX8_fewest_81 : decode cX8_fewest 81 = .ok (.iload 5, 2) := by decide +kernel
theorem dX8_fewest_83 : decode cX8_fewest 83 = .ok (.bipush 99, 2) := by decide +kernel
theorem dX8_fewest_85 : decode cX8_fewest 85 = .ok (.if_icmp .lt 5, 3) := by decide +kernel
theorem dX8_fewest_88 : decode cX8_fewest 88 = .ok (.iconst (-1), 1) := by decide +kernel
theorem dX8_fewest_89 : decode cX8_fewest 89 = .ok (.ireturn, 1) := by decide +kernel
theorem dX8_fewest_90 : decode cX8_fewest 90 = .ok (.iload_n 3, 1) := by decide +kernel
theorem dX8_fewest_91 : decode cX8_fewest 91 = .ok (.ifCond .ne 8, 3) := by decide +kernel
theorem dX8_fewest_94 : decode cX8_fewest 94 = .ok (.iload 5, 2) := by decide +kernel
theorem dX8_fewest_96 : decode cX8_fewest 96 = .ok (.goto 21, 3) := by decide +kernel
theorem dX8_fewest_99 : decode cX8_fewest 99 = .ok (.iload 5, 2) := by decide +kernel
theorem dX8_fewest_101 : decode cX8_fewest 101 = .ok (.ifCond .ne 7, 3) := by decide +kernel
theorem dX8_fewest_104 : decode cX8_fewest 104 = .ok (.iconst (-1), 1) := by decide +kernel
theorem dX8_fewest_105 : decode cX8_fewest 105 = .ok (.goto 12, 3) := by decide +kernel
theorem dX8_fewest_108 : decode cX8_fewest 108 = .ok (.aload_n 0, 1) := by decide +kernel
theorem dX8_fewest_109 : decode cX8_fewest 109 = .ok (.iload_n 1, 1) := by decide +kernel
theorem dX8_fewest_110 : decode cX8_fewest 110 = .ok (.iload 4, 2) := by decide +kernel
theorem dX8_fewest_112 : decode cX8_fewest 112 = .ok (.iload 5, 2) := by decide +kernel
theorem dX8_fewest_114 : decode cX8_fewest 114 = .ok (.invokevirtual 284, 3) := by decide +kernel
theorem dX8_fewest_117 : decode cX8_fewest 117 = .ok (.ireturn, 1) := by decide +kernel
theorem dX8_reading_0 : decode cX8_reading 0 = .ok (.aload_n 0, 1) := by decide +kernel
theorem dX8_reading_1 : decode cX8_reading 1 = .ok (.iload_n 1, 1) := by decide +kernel
theorem dX8_reading_2 : decode cX8_reading 2 = .ok (.invokevirtual 218, 3) := by decide +kernel
theorem dX8_reading_5 : decode cX8_reading 5 = .ok (.ifCond .ne 6, 3) := by decide +kernel
theorem dX8_reading_8 : decode cX8_reading 8 = .ok (.ldc 222, 2) := by decide +kernel
theorem dX8_reading_10 : decode cX8_reading 10 = .ok (.ireturn, 1) := by decide +kernel
theorem dX8_reading_11 : decode cX8_reading 11 = .ok (.iload_n 2, 1) := by decide +kernel
theorem dX8_reading_12 : decode cX8_reading 12 = .ok (.iconst 0, 1) := by decide +kernel
theorem dX8_reading_13 : decode cX8_reading 13 = .ok (.iconst 3, 1) := by decide +kernel
theorem dX8_reading_14 : decode cX8_reading 14 = .ok (.invokestatic 85, 3) := by decide +kernel
theorem dX8_reading_17 : decode cX8_reading 17 = .ok (.ifCond .eq 12, 3) := by decide +kernel
theorem dX8_reading_20 : decode cX8_reading 20 = .ok (.aload_n 0, 1) := by decide +kernel
theorem dX8_reading_21 : decode cX8_reading 21 = .ok (.iload_n 1, 1) := by decide +kernel
theorem dX8_reading_22 : decode cX8_reading 22 = .ok (.iload_n 2, 1) := by decide +kernel
theorem dX8_reading_23 : decode cX8_reading 23 = .ok (.invokevirtual 200, 3) := by decide +kernel
theorem dX8_reading_26 : decode cX8_reading 26 = .ok (.goto 5, 3) := by decide +kernel
theorem dX8_reading_29 : decode cX8_reading 29 = .ok (.ldc 95, 2) := by decide +kernel
theorem dX8_reading_31 : decode cX8_reading 31 = .ok (.ireturn, 1) := by decide +kernel
theorem dX8_quiet_0 : decode cX8_quiet 0 = .ok (.iload_n 1, 1) := by decide +kernel
theorem dX8_quiet_1 : decode cX8_quiet 1 = .ok (.iconst 0, 1) := by decide +kernel
theorem dX8_quiet_2 : decode cX8_quiet 2 = .ok (.bipush 60, 2) := by decide +kernel
theorem dX8_quiet_4 : decode cX8_quiet 4 = .ok (.invokestatic 85, 3) := by decide +kernel
theorem dX8_quiet_7 : decode cX8_quiet 7 = .ok (.ifCond .eq 13, 3) := by decide +kernel
theorem dX8_quiet_10 : decode cX8_quiet 10 = .ok (.iload_n 2, 1) := by decide +kernel
theorem dX8_quiet_11 : decode cX8_quiet 11 = .ok (.iconst 0, 1) := by decide +kernel
theorem dX8_quiet_12 : decode cX8_quiet 12 = .ok (.bipush 100, 2) := by decide +kernel
theorem dX8_quiet_14 : decode cX8_quiet 14 = .ok (.invokestatic 85, 3) := by decide +kernel
theorem dX8_quiet_17 : decode cX8_quiet 17 = .ok (.ifCond .ne 6, 3) := by decide +kernel
theorem dX8_quiet_20 : decode cX8_quiet 20 = .ok (.ldc 95, 2) := by decide +kernel
theorem dX8_quiet_22 : decode cX8_quiet 22 = .ok (.ireturn, 1) := by decide +kernel
theorem dX8_quiet_23 : decode cX8_quiet 23 = .ok (.ldc2_w 287, 3) := by decide +kernel
theorem dX8_quiet_26 : decode cX8_quiet 26 = .ok (.lstore_n 3, 1) := by decide +kernel
theorem dX8_quiet_27 : decode cX8_quiet 27 = .ok (.iconst 0, 1) := by decide +kernel
theorem dX8_quiet_28 : decode cX8_quiet 28 = .ok (.istore 5, 2) := by decide +kernel
theorem dX8_quiet_30 : decode cX8_quiet 30 = .ok (.iload 5, 2) := by decide +kernel
theorem dX8_quiet_32 : decode cX8_quiet 32 = .ok (.iload_n 1, 1) := by decide +kernel
theorem dX8_quiet_33 : decode cX8_quiet 33 = .ok (.if_icmp .ge 18, 3) := by decide +kernel
theorem dX8_quiet_36 : decode cX8_quiet 36 = .ok (.lload_n 3, 1) := by decide +kernel
theorem dX8_quiet_37 : decode cX8_quiet 37 = .ok (.iload_n 2, 1) := by decide +kernel
theorem dX8_quiet_38 : decode cX8_quiet 38 = .ok (.i2l, 1) := by decide +kernel
theorem dX8_quiet_39 : decode cX8_quiet 39 = .ok (.lmul, 1) := by decide +kernel
theorem dX8_quiet_40 : decode cX8_quiet 40 = .ok (.ldc2_w 289, 3) := by decide +kernel
theorem dX8_quiet_43 : decode cX8_quiet 43 = .ok (.ldiv, 1) := by decide +kernel
theorem dX8_quiet_44 : decode cX8_quiet 44 = .ok (.lstore_n 3, 1) := by decide +kernel
theorem dX8_quiet_45 : decode cX8_quiet 45 = .ok (.iinc 5 1, 3) := by decide +kernel
theorem dX8_quiet_48 : decode cX8_quiet 48 = .ok (.goto (-18), 3) := by decide +kernel
theorem dX8_quiet_51 : decode cX8_quiet 51 = .ok (.lload_n 3, 1) := by decide +kernel
theorem dX8_quiet_52 : decode cX8_quiet 52 = .ok (.l2i, 1) := by decide +kernel
theorem dX8_quiet_53 : decode cX8_quiet 53 = .ok (.ireturn, 1) := by decide +kernel
theorem dX8_see_0 : decode cX8_see 0 = .ok (.aload_n 0, 1) := by decide +kernel
theorem dX8_see_1 : decode cX8_see 1 = .ok (.iload_n 1, 1) := by decide +kernel
theorem dX8_see_2 : decode cX8_see 2 = .ok (.invokevirtual 218, 3) := by decide +kernel
theorem dX8_see_5 : decode cX8_see 5 = .ok (.ifCond .ne 6, 3) := by decide +kernel
theorem dX8_see_8 : decode cX8_see 8 = .ok (.ldc 222, 2) := by decide +kernel
theorem dX8_see_10 : decode cX8_see 10 = .ok (.ireturn, 1) := by decide +kernel
theorem dX8_see_11 : decode cX8_see 11 = .ok (.aload_n 0, 1) := by decide +kernel
theorem dX8_see_12 : decode cX8_see 12 = .ok (.getfield 167, 3) := by decide +kernel
theorem dX8_see_15 : decode cX8_see 15 = .ok (.bipush 6, 2) := by decide +kernel
theorem dX8_see_17 : decode cX8_see 17 = .ok (.if_icmp .ne 6, 3) := by decide +kernel
theorem dX8_see_20 : decode cX8_see 20 = .ok (.ldc 99, 2) := by decide +kernel
theorem dX8_see_22 : decode cX8_see 22 = .ok (.ireturn, 1) := by decide +kernel
theorem dX8_see_23 : decode cX8_see 23 = .ok (.aload_n 0, 1) := by decide +kernel
theorem dX8_see_24 : decode cX8_see 24 = .ok (.getfield 55, 3) := by decide +kernel
theorem dX8_see_27 : decode cX8_see 27 = .ok (.iconst 2, 1) := by decide +kernel
theorem dX8_see_28 : decode cX8_see 28 = .ok (.aload_n 0, 1) := by decide +kernel
theorem dX8_see_29 : decode cX8_see 29 = .ok (.getfield 167, 3) := by decide +kernel
theorem dX8_see_32 : decode cX8_see 32 = .ok (.imul, 1) := by decide +kernel
theorem dX8_see_33 : decode cX8_see 33 = .ok (.iload_n 1, 1) := by decide +kernel
theorem dX8_see_34 : decode cX8_see 34 = .ok (.iastore, 1) := by decide +kernel
theorem dX8_see_35 : decode cX8_see 35 = .ok (.aload_n 0, 1) := by decide +kernel
theorem dX8_see_36 : decode cX8_see 36 = .ok (.getfield 55, 3) := by decide +kernel
theorem dX8_see_39 : decode cX8_see 39 = .ok (.iconst 2, 1) := by decide +kernel
theorem dX8_see_40 : decode cX8_see 40 = .ok (.aload_n 0, 1) := by decide +kernel
theorem dX8_see_41 : decode cX8_see 41 = .ok (.getfield 167, 3) := by decide +kernel
theorem dX8_see_44 : decode cX8_see 44 = .ok (.imul, 1) := by decide +kernel
theorem dX8_see_45 : decode cX8_see 45 = .ok (.iconst 1, 1) := by decide +kernel
theorem dX8_see_46 : decode cX8_see 46 = .ok (.iadd, 1) := by decide +kernel
theorem dX8_see_47 : decode cX8_see 47 = .ok (.iload_n 2, 1) := by decide +kernel
theorem dX8_see_48 : decode cX8_see 48 = .ok (.ifCond .eq 7, 3) := by decide +kernel
theorem dX8_see_51 : decode cX8_see 51 = .ok (.iconst 1, 1) := by decide +kernel
theorem dX8_see_52 : decode cX8_see 52 = .ok (.goto 4, 3) := by decide +kernel
theorem dX8_see_55 : decode cX8_see 55 = .ok (.iconst 0, 1) := by decide +kernel
theorem dX8_see_56 : decode cX8_see 56 = .ok (.iastore, 1) := by decide +kernel
theorem dX8_see_57 : decode cX8_see 57 = .ok (.aload_n 0, 1) := by decide +kernel
theorem dX8_see_58 : decode cX8_see 58 = .ok (.dup, 1) := by decide +kernel
theorem dX8_see_59 : decode cX8_see 59 = .ok (.getfield 167, 3) := by decide +kernel
theorem dX8_see_62 : decode cX8_see 62 = .ok (.iconst 1, 1) := by decide +kernel
theorem dX8_see_63 : decode cX8_see 63 = .ok (.iadd, 1) := by decide +kernel
theorem dX8_see_64 : decode cX8_see 64 = .ok (.putfield 167, 3) := by decide +kernel
theorem dX8_see_67 : decode cX8_see 67 = .ok (.aload_n 0, 1) := by decide +kernel
theorem dX8_see_68 : decode cX8_see 68 = .ok (.getfield 167, 3) := by decide +kernel
theorem dX8_see_71 : decode cX8_see 71 = .ok (.ireturn, 1) := by decide +kernel
theorem dX8_couldBe_0 : decode cX8_couldBe 0 = .ok (.iconst 0, 1) := by decide +kernel
theorem dX8_couldBe_1 : decode cX8_couldBe 1 = .ok (.istore_n 1, 1) := by decide +kernel
theorem dX8_couldBe_2 : decode cX8_couldBe 2 = .ok (.iconst 0, 1) := by decide +kernel
theorem dX8_couldBe_3 : decode cX8_couldBe 3 = .ok (.istore_n 2, 1) := by decide +kernel
theorem dX8_couldBe_4 : decode cX8_couldBe 4 = .ok (.iload_n 2, 1) := by decide +kernel
theorem dX8_couldBe_5 : decode cX8_couldBe 5 = .ok (.aload_n 0, 1) := by decide +kernel
theorem dX8_couldBe_6 : decode cX8_couldBe 6 = .ok (.getfield 89, 3) := by decide +kernel
theorem dX8_couldBe_9 : decode cX8_couldBe 9 = .ok (.if_icmp .ge 108, 3) := by decide +kernel
theorem dX8_couldBe_12 : decode cX8_couldBe 12 = .ok (.aload_n 0, 1) := by decide +kernel
theorem dX8_couldBe_13 : decode cX8_couldBe 13 = .ok (.iload_n 2, 1) := by decide +kernel
theorem dX8_couldBe_14 : decode cX8_couldBe 14 = .ok (.aload_n 0, 1) := by decide +kernel
theorem dX8_couldBe_15 : decode cX8_couldBe 15 = .ok (.getfield 38, 3) := by decide +kernel
theorem dX8_couldBe_18 : decode cX8_couldBe 18 = .ok (.bipush 45, 2) := by decide +kernel
theorem dX8_couldBe_20 : decode cX8_couldBe 20 = .ok (.iload_n 2, 1) := by decide +kernel
theorem dX8_couldBe_21 : decode cX8_couldBe 21 = .ok (.iadd, 1) := by decide +kernel
theorem dX8_couldBe_22 : decode cX8_couldBe 22 = .ok (.iaload, 1) := by decide +kernel
theorem dX8_couldBe_23 : decode cX8_couldBe 23 = .ok (.invokevirtual 185, 3) := by decide +kernel
theorem dX8_couldBe_26 : decode cX8_couldBe 26 = .ok (.istore_n 3, 1) := by decide +kernel
theorem dX8_couldBe_27 : decode cX8_couldBe 27 = .ok (.iconst 1, 1) := by decide +kernel
theorem dX8_couldBe_28 : decode cX8_couldBe 28 = .ok (.istore 4, 2) := by decide +kernel
theorem dX8_couldBe_30 : decode cX8_couldBe 30 = .ok (.iconst 0, 1) := by decide +kernel
theorem dX8_couldBe_31 : decode cX8_couldBe 31 = .ok (.istore 5, 2) := by decide +kernel
theorem dX8_couldBe_33 : decode cX8_couldBe 33 = .ok (.iload 5, 2) := by decide +kernel
theorem dX8_couldBe_35 : decode cX8_couldBe 35 = .ok (.aload_n 0, 1) := by decide +kernel
theorem dX8_couldBe_36 : decode cX8_couldBe 36 = .ok (.getfield 167, 3) := by decide +kernel
theorem dX8_couldBe_39 : decode cX8_couldBe 39 = .ok (.if_icmp .ge 57, 3) := by decide +kernel
theorem dX8_couldBe_42 : decode cX8_couldBe 42 = .ok (.iload 4, 2) := by decide +kernel
theorem dX8_couldBe_44 : decode cX8_couldBe 44 = .ok (.ifCond .eq 43, 3) := by decide +kernel
theorem dX8_couldBe_47 : decode cX8_couldBe 47 = .ok (.iload_n 3, 1) := by decide +kernel
theorem dX8_couldBe_48 : decode cX8_couldBe 48 = .ok (.aload_n 0, 1) := by decide +kernel
theorem dX8_couldBe_49 : decode cX8_couldBe 49 = .ok (.getfield 55, 3) := by decide +kernel
theorem dX8_couldBe_52 : decode cX8_couldBe 52 = .ok (.iconst 2, 1) := by decide +kernel
theorem dX8_couldBe_53 : decode cX8_couldBe 53 = .ok (.iload 5, 2) := by decide +kernel
theorem dX8_couldBe_55 : decode cX8_couldBe 55 = .ok (.imul, 1) := by decide +kernel
theorem dX8_couldBe_56 : decode cX8_couldBe 56 = .ok (.iaload, 1) := by decide +kernel
theorem dX8_couldBe_57 : decode cX8_couldBe 57 = .ok (.invokestatic 181, 3) := by decide +kernel
theorem dX8_couldBe_60 : decode cX8_couldBe 60 = .ok (.aload_n 0, 1) := by decide +kernel
theorem dX8_couldBe_61 : decode cX8_couldBe 61 = .ok (.getfield 55, 3) := by decide +kernel
theorem dX8_couldBe_64 : decode cX8_couldBe 64 = .ok (.iconst 2, 1) := by decide +kernel
theorem dX8_couldBe_65 : decode cX8_couldBe 65 = .ok (.iload 5, 2) := by decide +kernel
theorem dX8_couldBe_67 : decode cX8_couldBe 67 = .ok (.imul, 1) := by decide +kernel
theorem dX8_couldBe_68 : decode cX8_couldBe 68 = .ok (.iconst 1, 1) := by decide +kernel
theorem dX8_couldBe_69 : decode cX8_couldBe 69 = .ok (.iadd, 1) := by decide +kernel
theorem dX8_couldBe_70 : decode cX8_couldBe 70 = .ok (.iaload, 1) := by decide +kernel
theorem dX8_couldBe_71 : decode cX8_couldBe 71 = .ok (.iconst 1, 1) := by decide +kernel
theorem dX8_couldBe_72 : decode cX8_couldBe 72 = .ok (.if_icmp .ne 7, 3) := by decide +kernel
theorem dX8_couldBe_75 : decode cX8_couldBe 75 = .ok (.iconst 1, 1) := by decide +kernel
theorem dX8_couldBe_76 : decode cX8_couldBe 76 = .ok (.goto 4, 3) := by decide +kernel
theorem dX8_couldBe_79 : decode cX8_couldBe 79 = .ok (.iconst 0, 1) := by decide +kernel
theorem dX8_couldBe_80 : decode cX8_couldBe 80 = .ok (.if_icmp .ne 7, 3) := by decide +kernel
theorem dX8_couldBe_83 : decode cX8_couldBe 83 = .ok (.iconst 1, 1) := by decide +kernel
theorem dX8_couldBe_84 : decode cX8_couldBe 84 = .ok (.goto 4, 3) := by decide +kernel
theorem dX8_couldBe_87 : decode cX8_couldBe 87 = .ok (.iconst 0, 1) := by decide +kernel
theorem dX8_couldBe_88 : decode cX8_couldBe 88 = .ok (.istore 4, 2) := by decide +kernel
theorem dX8_couldBe_90 : decode cX8_couldBe 90 = .ok (.iinc 5 1, 3) := by decide +kernel
theorem dX8_couldBe_93 : decode cX8_couldBe 93 = .ok (.goto (-60), 3) := by decide +kernel
theorem dX8_couldBe_96 : decode cX8_couldBe 96 = .ok (.iload_n 1, 1) := by decide +kernel
theorem dX8_couldBe_97 : decode cX8_couldBe 97 = .ok (.iload 4, 2) := by decide +kernel
theorem dX8_couldBe_99 : decode cX8_couldBe 99 = .ok (.ifCond .eq 9, 3) := by decide +kernel
theorem dX8_couldBe_102 : decode cX8_couldBe 102 = .ok (.iconst 1, 1) := by decide +kernel
theorem dX8_couldBe_103 : decode cX8_couldBe 103 = .ok (.iload_n 2, 1) := by decide +kernel
theorem dX8_couldBe_104 : decode cX8_couldBe 104 = .ok (.ishl, 1) := by decide +kernel
theorem dX8_couldBe_105 : decode cX8_couldBe 105 = .ok (.goto 4, 3) := by decide +kernel
theorem dX8_couldBe_108 : decode cX8_couldBe 108 = .ok (.iconst 0, 1) := by decide +kernel
theorem dX8_couldBe_109 : decode cX8_couldBe 109 = .ok (.ior, 1) := by decide +kernel
theorem dX8_couldBe_110 : decode cX8_couldBe 110 = .ok (.istore_n 1, 1) := by decide +kernel
theorem dX8_couldBe_111 : decode cX8_couldBe 111 = .ok (.iinc 2 1, 3) := by decide +kernel
theorem dX8_couldBe_114 : decode cX8_couldBe 114 = .ok (.goto (-110), 3) := by decide +kernel
theorem dX8_couldBe_117 : decode cX8_couldBe 117 = .ok (.iload_n 1, 1) := by decide +kernel
theorem dX8_couldBe_118 : decode cX8_couldBe 118 = .ok (.ireturn, 1) := by decide +kernel
theorem dX8_ask_0 : decode cX8_ask 0 = .ok (.aload_n 0, 1) := by decide +kernel
theorem dX8_ask_1 : decode cX8_ask 1 = .ok (.invokevirtual 291, 3) := by decide +kernel
theorem dX8_ask_4 : decode cX8_ask 4 = .ok (.istore_n 1, 1) := by decide +kernel
theorem dX8_ask_5 : decode cX8_ask 5 = .ok (.iload_n 1, 1) := by decide +kernel
theorem dX8_ask_6 : decode cX8_ask 6 = .ok (.invokestatic 206, 3) := by decide +kernel
theorem dX8_ask_9 : decode cX8_ask 9 = .ok (.istore_n 2, 1) := by decide +kernel
theorem dX8_ask_10 : decode cX8_ask 10 = .ok (.iconst (-1), 1) := by decide +kernel
theorem dX8_ask_11 : decode cX8_ask 11 = .ok (.istore_n 3, 1) := by decide +kernel
theorem dX8_ask_12 : decode cX8_ask 12 = .ok (.iload_n 2, 1) := by decide +kernel
theorem dX8_ask_13 : decode cX8_ask 13 = .ok (.istore 4, 2) := by decide +kernel
theorem dX8_ask_15 : decode cX8_ask 15 = .ok (.iconst 0, 1) := by decide +kernel
theorem dX8_ask_16 : decode cX8_ask 16 = .ok (.istore 5, 2) := by decide +kernel
theorem dX8_ask_18 : decode cX8_ask 18 = .ok (.iload 5, 2) := by decide +kernel
theorem dX8_ask_20 : decode cX8_ask 20 = .ok (.aload_n 0, 1) := by decide +kernel
theorem dX8_ask_21 : decode cX8_ask 21 = .ok (.getfield 82, 3) := by decide +kernel
theorem dX8_ask_24 : decode cX8_ask 24 = .ok (.if_icmp .ge 123, 3) := by decide +kernel
theorem dX8_ask_27 : decode cX8_ask 27 = .ok (.iconst 0, 1) := by decide +kernel
theorem dX8_ask_28 : decode cX8_ask 28 = .ok (.istore 6, 2) := by decide +kernel
theorem dX8_ask_30 : decode cX8_ask 30 = .ok (.iconst 0, 1) := by decide +kernel
theorem dX8_ask_31 : decode cX8_ask 31 = .ok (.istore 7, 2) := by decide +kernel
theorem dX8_ask_33 : decode cX8_ask 33 = .ok (.iload 7, 2) := by decide +kernel
theorem dX8_ask_35 : decode cX8_ask 35 = .ok (.aload_n 0, 1) := by decide +kernel
theorem dX8_ask_36 : decode cX8_ask 36 = .ok (.getfield 89, 3) := by decide +kernel
theorem dX8_ask_39 : decode cX8_ask 39 = .ok (.if_icmp .ge 52, 3) := by decide +kernel
theorem dX8_ask_42 : decode cX8_ask 42 = .ok (.iload 6, 2) := by decide +kernel
theorem dX8_ask_44 : decode cX8_ask 44 = .ok (.iload_n 1, 1) := by decide +kernel
theorem dX8_ask_45 : decode cX8_ask 45 = .ok (.iload 7, 2) := by decide +kernel
theorem dX8_ask_47 : decode cX8_ask 47 = .ok (.invokestatic 181, 3) := by decide +kernel
theorem dX8_ask_50 : decode cX8_ask 50 = .ok (.ifCond .eq 31, 3) := by decide +kernel
theorem dX8_ask_53 : decode cX8_ask 53 = .ok (.aload_n 0, 1) := by decide +kernel
theorem dX8_ask_54 : decode cX8_ask 54 = .ok (.iload 7, 2) := by decide +kernel
theorem dX8_ask_56 : decode cX8_ask 56 = .ok (.aload_n 0, 1) := by decide +kernel
theorem dX8_ask_57 : decode cX8_ask 57 = .ok (.getfield 38, 3) := by decide +kernel
theorem dX8_ask_60 : decode cX8_ask 60 = .ok (.bipush 45, 2) := by decide +kernel
theorem dX8_ask_62 : decode cX8_ask 62 = .ok (.iload 7, 2) := by decide +kernel
theorem dX8_ask_64 : decode cX8_ask 64 = .ok (.iadd, 1) := by decide +kernel
theorem dX8_ask_65 : decode cX8_ask 65 = .ok (.iaload, 1) := by decide +kernel
theorem dX8_ask_66 : decode cX8_ask 66 = .ok (.invokevirtual 185, 3) := by decide +kernel
theorem dX8_ask_69 : decode cX8_ask 69 = .ok (.iload 5, 2) := by decide +kernel
theorem dX8_ask_71 : decode cX8_ask 71 = .ok (.invokestatic 181, 3) := by decide +kernel
theorem dX8_ask_74 : decode cX8_ask 74 = .ok (.ifCond .eq 7, 3) := by decide +kernel
theorem dX8_ask_77 : decode cX8_ask 77 = .ok (.iconst 1, 1) := by decide +kernel
theorem dX8_ask_78 : decode cX8_ask 78 = .ok (.goto 4, 3) := by decide +kernel
theorem dX8_ask_81 : decode cX8_ask 81 = .ok (.iconst 0, 1) := by decide +kernel
theorem dX8_ask_82 : decode cX8_ask 82 = .ok (.iadd, 1) := by decide +kernel
theorem dX8_ask_83 : decode cX8_ask 83 = .ok (.istore 6, 2) := by decide +kernel
theorem dX8_ask_85 : decode cX8_ask 85 = .ok (.iinc 7 1, 3) := by decide +kernel
theorem dX8_ask_88 : decode cX8_ask 88 = .ok (.goto (-55), 3) := by decide +kernel
theorem dX8_ask_91 : decode cX8_ask 91 = .ok (.iload 6, 2) := by decide +kernel
theorem dX8_ask_93 : decode cX8_ask 93 = .ok (.iload_n 2, 1) := by decide +kernel
theorem dX8_ask_94 : decode cX8_ask 94 = .ok (.iload 6, 2) := by decide +kernel
theorem dX8_ask_96 : decode cX8_ask 96 = .ok (.isub, 1) := by decide +kernel
theorem dX8_ask_97 : decode cX8_ask 97 = .ok (.if_icmp .le 8, 3) := by decide +kernel
theorem dX8_ask_100 : decode cX8_ask 100 = .ok (.iload 6, 2) := by decide +kernel
theorem dX8_ask_102 : decode cX8_ask 102 = .ok (.goto 7, 3) := by decide +kernel
theorem dX8_ask_105 : decode cX8_ask 105 = .ok (.iload_n 2, 1) := by decide +kernel
theorem dX8_ask_106 : decode cX8_ask 106 = .ok (.iload 6, 2) := by decide +kernel
theorem dX8_ask_108 : decode cX8_ask 108 = .ok (.isub, 1) := by decide +kernel
theorem dX8_ask_109 : decode cX8_ask 109 = .ok (.istore 7, 2) := by decide +kernel
theorem dX8_ask_111 : decode cX8_ask 111 = .ok (.iload 7, 2) := by decide +kernel
theorem dX8_ask_113 : decode cX8_ask 113 = .ok (.iload 4, 2) := by decide +kernel
theorem dX8_ask_115 : decode cX8_ask 115 = .ok (.if_icmp .ge 8, 3) := by decide +kernel
theorem dX8_ask_118 : decode cX8_ask 118 = .ok (.iload 5, 2) := by decide +kernel
theorem dX8_ask_120 : decode cX8_ask 120 = .ok (.goto 4, 3) := by decide +kernel
theorem dX8_ask_123 : decode cX8_ask 123 = .ok (.iload_n 3, 1) := by decide +kernel
theorem dX8_ask_124 : decode cX8_ask 124 = .ok (.istore_n 3, 1) := by decide +kernel
theorem dX8_ask_125 : decode cX8_ask 125 = .ok (.iload 7, 2) := by decide +kernel
theorem dX8_ask_127 : decode cX8_ask 127 = .ok (.iload 4, 2) := by decide +kernel
theorem dX8_ask_129 : decode cX8_ask 129 = .ok (.if_icmp .ge 8, 3) := by decide +kernel
theorem dX8_ask_132 : decode cX8_ask 132 = .ok (.iload 7, 2) := by decide +kernel
theorem dX8_ask_134 : decode cX8_ask 134 = .ok (.goto 5, 3) := by decide +kernel
theorem dX8_ask_137 : decode cX8_ask 137 = .ok (.iload 4, 2) := by decide +kernel
theorem dX8_ask_139 : decode cX8_ask 139 = .ok (.istore 4, 2) := by decide +kernel
theorem dX8_ask_141 : decode cX8_ask 141 = .ok (.iinc 5 1, 3) := by decide +kernel
theorem dX8_ask_144 : decode cX8_ask 144 = .ok (.goto (-126), 3) := by decide +kernel
theorem dX8_ask_147 : decode cX8_ask 147 = .ok (.iload_n 3, 1) := by decide +kernel
theorem dX8_ask_148 : decode cX8_ask 148 = .ok (.ireturn, 1) := by decide +kernel
theorem dX8_write_0 : decode cX8_write 0 = .ok (.aload_n 0, 1) := by decide +kernel
theorem dX8_write_1 : decode cX8_write 1 = .ok (.iload_n 1, 1) := by decide +kernel
theorem dX8_write_2 : decode cX8_write 2 = .ok (.invokevirtual 218, 3) := by decide +kernel
theorem dX8_write_5 : decode cX8_write 5 = .ok (.ifCond .eq 16, 3) := by decide +kernel
theorem dX8_write_8 : decode cX8_write 8 = .ok (.iload_n 2, 1) := by decide +kernel
theorem dX8_write_9 : decode cX8_write 9 = .ok (.iconst (-1), 1) := by decide +kernel
theorem dX8_write_10 : decode cX8_write 10 = .ok (.if_icmp .eq 14, 3) := by decide +kernel
theorem dX8_write_13 : decode cX8_write 13 = .ok (.aload_n 0, 1) := by decide +kernel
theorem dX8_write_14 : decode cX8_write 14 = .ok (.iload_n 2, 1) := by decide +kernel
theorem dX8_write_15 : decode cX8_write 15 = .ok (.invokevirtual 229, 3) := by decide +kernel
theorem dX8_write_18 : decode cX8_write 18 = .ok (.ifCond .ne 6, 3) := by decide +kernel
theorem dX8_write_21 : decode cX8_write 21 = .ok (.ldc 222, 2) := by decide +kernel
theorem dX8_write_23 : decode cX8_write 23 = .ok (.ireturn, 1) := by decide +kernel
theorem dX8_write_24 : decode cX8_write 24 = .ok (.aload_n 0, 1) := by decide +kernel
theorem dX8_write_25 : decode cX8_write 25 = .ok (.getfield 170, 3) := by decide +kernel
theorem dX8_write_28 : decode cX8_write 28 = .ok (.bipush 20, 2) := by decide +kernel
theorem dX8_write_30 : decode cX8_write 30 = .ok (.if_icmp .ne 6, 3) := by decide +kernel
theorem dX8_write_33 : decode cX8_write 33 = .ok (.ldc 99, 2) := by decide +kernel
theorem dX8_write_35 : decode cX8_write 35 = .ok (.ireturn, 1) := by decide +kernel
theorem dX8_write_36 : decode cX8_write 36 = .ok (.aload_n 0, 1) := by decide +kernel
theorem dX8_write_37 : decode cX8_write 37 = .ok (.getfield 58, 3) := by decide +kernel
theorem dX8_write_40 : decode cX8_write 40 = .ok (.iconst 2, 1) := by decide +kernel
theorem dX8_write_41 : decode cX8_write 41 = .ok (.aload_n 0, 1) := by decide +kernel
theorem dX8_write_42 : decode cX8_write 42 = .ok (.getfield 170, 3) := by decide +kernel
theorem dX8_write_45 : decode cX8_write 45 = .ok (.imul, 1) := by decide +kernel
theorem dX8_write_46 : decode cX8_write 46 = .ok (.iload_n 1, 1) := by decide +kernel
theorem dX8_write_47 : decode cX8_write 47 = .ok (.iastore, 1) := by decide +kernel
theorem dX8_write_48 : decode cX8_write 48 = .ok (.aload_n 0, 1) := by decide +kernel
theorem dX8_write_49 : decode cX8_write 49 = .ok (.getfield 58, 3) := by decide +kernel
theorem dX8_write_52 : decode cX8_write 52 = .ok (.iconst 2, 1) := by decide +kernel
theorem dX8_write_53 : decode cX8_write 53 = .ok (.aload_n 0, 1) := by decide +kernel
theorem dX8_write_54 : decode cX8_write 54 = .ok (.getfield 170, 3) := by decide +kernel
theorem dX8_write_57 : decode cX8_write 57 = .ok (.imul, 1) := by decide +kernel
theorem dX8_write_58 : decode cX8_write 58 = .ok (.iconst 1, 1) := by decide +kernel
theorem dX8_write_59 : decode cX8_write 59 = .ok (.iadd, 1) := by decide +kernel
theorem dX8_write_60 : decode cX8_write 60 = .ok (.iload_n 2, 1) := by decide +kernel
theorem dX8_write_61 : decode cX8_write 61 = .ok (.iastore, 1) := by decide +kernel
theorem dX8_write_62 : decode cX8_write 62 = .ok (.aload_n 0, 1) := by decide +kernel
theorem dX8_write_63 : decode cX8_write 63 = .ok (.dup, 1) := by decide +kernel
theorem dX8_write_64 : decode cX8_write 64 = .ok (.getfield 170, 3) := by decide +kernel
theorem dX8_write_67 : decode cX8_write 67 = .ok (.iconst 1, 1) := by decide +kernel
theorem dX8_write_68 : decode cX8_write 68 = .ok (.iadd, 1) := by decide +kernel
theorem dX8_write_69 : decode cX8_write 69 = .ok (.putfield 170, 3) := by decide +kernel
theorem dX8_write_72 : decode cX8_write 72 = .ok (.aload_n 0, 1) := by decide +kernel
theorem dX8_write_73 : decode cX8_write 73 = .ok (.getfield 170, 3) := by decide +kernel
theorem dX8_write_76 : decode cX8_write 76 = .ok (.ireturn, 1) := by decide +kernel
theorem dX8_judge_0 : decode cX8_judge 0 = .ok (.iconst 0, 1) := by decide +kernel
theorem dX8_judge_1 : decode cX8_judge 1 = .ok (.istore_n 1, 1) := by decide +kernel
theorem dX8_judge_2 : decode cX8_judge 2 = .ok (.iload_n 1, 1) := by decide +kernel
theorem dX8_judge_3 : decode cX8_judge 3 = .ok (.aload_n 0, 1) := by decide +kernel
theorem dX8_judge_4 : decode cX8_judge 4 = .ok (.getfield 170, 3) := by decide +kernel
theorem dX8_judge_7 : decode cX8_judge 7 = .ok (.if_icmp .ge 40, 3) := by decide +kernel
theorem dX8_judge_10 : decode cX8_judge 10 = .ok (.aload_n 0, 1) := by decide +kernel
theorem dX8_judge_11 : decode cX8_judge 11 = .ok (.getfield 38, 3) := by decide +kernel
theorem dX8_judge_14 : decode cX8_judge 14 = .ok (.bipush 15, 2) := by decide +kernel
theorem dX8_judge_16 : decode cX8_judge 16 = .ok (.aload_n 0, 1) := by decide +kernel
theorem dX8_judge_17 : decode cX8_judge 17 = .ok (.getfield 58, 3) := by decide +kernel
theorem dX8_judge_20 : decode cX8_judge 20 = .ok (.iconst 2, 1) := by decide +kernel
theorem dX8_judge_21 : decode cX8_judge 21 = .ok (.iload_n 1, 1) := by decide +kernel
theorem dX8_judge_22 : decode cX8_judge 22 = .ok (.imul, 1) := by decide +kernel
theorem dX8_judge_23 : decode cX8_judge 23 = .ok (.iaload, 1) := by decide +kernel
theorem dX8_judge_24 : decode cX8_judge 24 = .ok (.iadd, 1) := by decide +kernel
theorem dX8_judge_25 : decode cX8_judge 25 = .ok (.iaload, 1) := by decide +kernel
theorem dX8_judge_26 : decode cX8_judge 26 = .ok (.aload_n 0, 1) := by decide +kernel
theorem dX8_judge_27 : decode cX8_judge 27 = .ok (.getfield 58, 3) := by decide +kernel
theorem dX8_judge_30 : decode cX8_judge 30 = .ok (.iconst 2, 1) := by decide +kernel
theorem dX8_judge_31 : decode cX8_judge 31 = .ok (.iload_n 1, 1) := by decide +kernel
theorem dX8_judge_32 : decode cX8_judge 32 = .ok (.imul, 1) := by decide +kernel
theorem dX8_judge_33 : decode cX8_judge 33 = .ok (.iconst 1, 1) := by decide +kernel
theorem dX8_judge_34 : decode cX8_judge 34 = .ok (.iadd, 1) := by decide +kernel
theorem dX8_judge_35 : decode cX8_judge 35 = .ok (.iaload, 1) := by decide +kernel
theorem dX8_judge_36 : decode cX8_judge 36 = .ok (.if_icmp .eq 5, 3) := by decide +kernel
theorem dX8_judge_39 : decode cX8_judge 39 = .ok (.iload_n 1, 1) := by decide +kernel
theorem dX8_judge_40 : decode cX8_judge 40 = .ok (.ireturn, 1) := by decide +kernel
theorem dX8_judge_41 : decode cX8_judge 41 = .ok (.iinc 1 1, 3) := by decide +kernel
theorem dX8_judge_44 : decode cX8_judge 44 = .ok (.goto (-42), 3) := by decide +kernel
theorem dX8_judge_47 : decode cX8_judge 47 = .ok (.iconst (-1), 1) := by decide +kernel
theorem dX8_judge_48 : decode cX8_judge 48 = .ok (.ireturn, 1) := by decide +kernel
theorem dX8_tear_0 : decode cX8_tear 0 = .ok (.aload_n 0, 1) := by decide +kernel
theorem dX8_tear_1 : decode cX8_tear 1 = .ok (.getfield 167, 3) := by decide +kernel
theorem dX8_tear_4 : decode cX8_tear 4 = .ok (.aload_n 0, 1) := by decide +kernel
theorem dX8_tear_5 : decode cX8_tear 5 = .ok (.getfield 170, 3) := by decide +kernel
theorem dX8_tear_8 : decode cX8_tear 8 = .ok (.iadd, 1) := by decide +kernel
theorem dX8_tear_9 : decode cX8_tear 9 = .ok (.istore_n 1, 1) := by decide +kernel
theorem dX8_tear_10 : decode cX8_tear 10 = .ok (.aload_n 0, 1) := by decide +kernel
theorem dX8_tear_11 : decode cX8_tear 11 = .ok (.iconst 0, 1) := by decide +kernel
theorem dX8_tear_12 : decode cX8_tear 12 = .ok (.putfield 167, 3) := by decide +kernel
theorem dX8_tear_15 : decode cX8_tear 15 = .ok (.aload_n 0, 1) := by decide +kernel
theorem dX8_tear_16 : decode cX8_tear 16 = .ok (.iconst 0, 1) := by decide +kernel
theorem dX8_tear_17 : decode cX8_tear 17 = .ok (.putfield 170, 3) := by decide +kernel
theorem dX8_tear_20 : decode cX8_tear 20 = .ok (.iload_n 1, 1) := by decide +kernel
theorem dX8_tear_21 : decode cX8_tear 21 = .ok (.ireturn, 1) := by decide +kernel
theorem dX8_seed_0 : decode cX8_seed 0 = .ok (.iload_n 1, 1) := by decide +kernel
theorem dX8_seed_1 : decode cX8_seed 1 = .ok (.ifCond .ge 6, 3) := by decide +kernel
theorem dX8_seed_4 : decode cX8_seed 4 = .ok (.ldc 95, 2) := by decide +kernel
theorem dX8_seed_6 : decode cX8_seed 6 = .ok (.ireturn, 1) := by decide +kernel
theorem dX8_seed_7 : decode cX8_seed 7 = .ok (.aload_n 0, 1) := by decide +kernel
theorem dX8_seed_8 : decode cX8_seed 8 = .ok (.getfield 249, 3) := by decide +kernel
theorem dX8_seed_11 : decode cX8_seed 11 = .ok (.l2i, 1) := by decide +kernel
theorem dX8_seed_12 : decode cX8_seed 12 = .ok (.istore_n 2, 1) := by decide +kernel
theorem dX8_seed_13 : decode cX8_seed 13 = .ok (.aload_n 0, 1) := by decide +kernel
theorem dX8_seed_14 : decode cX8_seed 14 = .ok (.iload_n 1, 1) := by decide +kernel
theorem dX8_seed_15 : decode cX8_seed 15 = .ok (.i2l, 1) := by decide +kernel
theorem dX8_seed_16 : decode cX8_seed 16 = .ok (.putfield 249, 3) := by decide +kernel
theorem dX8_seed_19 : decode cX8_seed 19 = .ok (.iload_n 2, 1) := by decide +kernel
theorem dX8_seed_20 : decode cX8_seed 20 = .ok (.ireturn, 1) := by decide +kernel
theorem dX8_keep_0 : decode cX8_keep 0 = .ok (.iload_n 1, 1) := by decide +kernel
theorem dX8_keep_1 : decode cX8_keep 1 = .ok (.iconst 0, 1) := by decide +kernel
theorem dX8_keep_2 : decode cX8_keep 2 = .ok (.iconst 1, 1) := by decide +kernel
theorem dX8_keep_3 : decode cX8_keep 3 = .ok (.invokestatic 85, 3) := by decide +kernel
theorem dX8_keep_6 : decode cX8_keep 6 = .ok (.ifCond .ne 6, 3) := by decide +kernel
theorem dX8_keep_9 : decode cX8_keep 9 = .ok (.ldc 222, 2) := by decide +kernel
theorem dX8_keep_11 : decode cX8_keep 11 = .ok (.ireturn, 1) := by decide +kernel
theorem dX8_keep_12 : decode cX8_keep 12 = .ok (.aload_n 0, 1) := by decide +kernel
theorem dX8_keep_13 : decode cX8_keep 13 = .ok (.getfield 38, 3) := by decide +kernel
theorem dX8_keep_16 : decode cX8_keep 16 = .ok (.iconst 0, 1) := by decide +kernel
theorem dX8_keep_17 : decode cX8_keep 17 = .ok (.aload_n 0, 1) := by decide +kernel
theorem dX8_keep_18 : decode cX8_keep 18 = .ok (.getfield 44, 3) := by decide +kernel
theorem dX8_keep_21 : decode cX8_keep 21 = .ok (.bipush 51, 2) := by decide +kernel
theorem dX8_keep_23 : decode cX8_keep 23 = .ok (.iload_n 1, 1) := by decide +kernel
theorem dX8_keep_24 : decode cX8_keep 24 = .ok (.imul, 1) := by decide +kernel
theorem dX8_keep_25 : decode cX8_keep 25 = .ok (.bipush 51, 2) := by decide +kernel
theorem dX8_keep_27 : decode cX8_keep 27 = .ok (.invokestatic 157, 3) := by decide +kernel
theorem dX8_keep_30 : decode cX8_keep 30 = .ok (.aload_n 0, 1) := by decide +kernel
theorem dX8_keep_31 : decode cX8_keep 31 = .ok (.getfield 47, 3) := by decide +kernel
theorem dX8_keep_34 : decode cX8_keep 34 = .ok (.iload_n 1, 1) := by decide +kernel
theorem dX8_keep_35 : decode cX8_keep 35 = .ok (.aload_n 0, 1) := by decide +kernel
theorem dX8_keep_36 : decode cX8_keep 36 = .ok (.getfield 249, 3) := by decide +kernel
theorem dX8_keep_39 : decode cX8_keep 39 = .ok (.lastore, 1) := by decide +kernel
theorem dX8_keep_40 : decode cX8_keep 40 = .ok (.aload_n 0, 1) := by decide +kernel
theorem dX8_keep_41 : decode cX8_keep 41 = .ok (.getfield 51, 3) := by decide +kernel
theorem dX8_keep_44 : decode cX8_keep 44 = .ok (.iload_n 1, 1) := by decide +kernel
theorem dX8_keep_45 : decode cX8_keep 45 = .ok (.iconst 1, 1) := by decide +kernel
theorem dX8_keep_46 : decode cX8_keep 46 = .ok (.bastore, 1) := by decide +kernel
theorem dX8_keep_47 : decode cX8_keep 47 = .ok (.aload_n 0, 1) := by decide +kernel
theorem dX8_keep_48 : decode cX8_keep 48 = .ok (.iconst 0, 1) := by decide +kernel
theorem dX8_keep_49 : decode cX8_keep 49 = .ok (.putfield 164, 3) := by decide +kernel
theorem dX8_keep_52 : decode cX8_keep 52 = .ok (.iconst 1, 1) := by decide +kernel
theorem dX8_keep_53 : decode cX8_keep 53 = .ok (.ireturn, 1) := by decide +kernel
theorem dX8_goBack_0 : decode cX8_goBack 0 = .ok (.iload_n 1, 1) := by decide +kernel
theorem dX8_goBack_1 : decode cX8_goBack 1 = .ok (.iconst 0, 1) := by decide +kernel
theorem dX8_goBack_2 : decode cX8_goBack 2 = .ok (.iconst 1, 1) := by decide +kernel
theorem dX8_goBack_3 : decode cX8_goBack 3 = .ok (.invokestatic 85, 3) := by decide +kernel
theorem dX8_goBack_6 : decode cX8_goBack 6 = .ok (.ifCond .ne 6, 3) := by decide +kernel
theorem dX8_goBack_9 : decode cX8_goBack 9 = .ok (.ldc 222, 2) := by decide +kernel
theorem dX8_goBack_11 : decode cX8_goBack 11 = .ok (.ireturn, 1) := by decide +kernel
theorem dX8_goBack_12 : decode cX8_goBack 12 = .ok (.aload_n 0, 1) := by decide +kernel
theorem dX8_goBack_13 : decode cX8_goBack 13 = .ok (.getfield 51, 3) := by decide +kernel
theorem dX8_goBack_16 : decode cX8_goBack 16 = .ok (.iload_n 1, 1) := by decide +kernel
theorem dX8_goBack_17 : decode cX8_goBack 17 = .ok (.baload, 1) := by decide +kernel
theorem dX8_goBack_18 : decode cX8_goBack 18 = .ok (.ifCond .ne 6, 3) := by decide +kernel
theorem dX8_goBack_21 : decode cX8_goBack 21 = .ok (.ldc 245, 2) := by decide +kernel
theorem dX8_goBack_23 : decode cX8_goBack 23 = .ok (.ireturn, 1) := by decide +kernel
theorem dX8_goBack_24 : decode cX8_goBack 24 = .ok (.aload_n 0, 1) := by decide +kernel
theorem dX8_goBack_25 : decode cX8_goBack 25 = .ok (.getfield 44, 3) := by decide +kernel
theorem dX8_goBack_28 : decode cX8_goBack 28 = .ok (.bipush 51, 2) := by decide +kernel
theorem dX8_goBack_30 : decode cX8_goBack 30 = .ok (.iload_n 1, 1) := by decide +kernel
theorem dX8_goBack_31 : decode cX8_goBack 31 = .ok (.imul, 1) := by decide +kernel
theorem dX8_goBack_32 : decode cX8_goBack 32 = .ok (.aload_n 0, 1) := by decide +kernel
theorem dX8_goBack_33 : decode cX8_goBack 33 = .ok (.getfield 38, 3) := by decide +kernel
theorem dX8_goBack_36 : decode cX8_goBack 36 = .ok (.iconst 0, 1) := by decide +kernel
theorem dX8_goBack_37 : decode cX8_goBack 37 = .ok (.bipush 51, 2) := by decide +kernel
theorem dX8_goBack_39 : decode cX8_goBack 39 = .ok (.invokestatic 157, 3) := by decide +kernel
theorem dX8_goBack_42 : decode cX8_goBack 42 = .ok (.aload_n 0, 1) := by decide +kernel
theorem dX8_goBack_43 : decode cX8_goBack 43 = .ok (.aload_n 0, 1) := by decide +kernel
theorem dX8_goBack_44 : decode cX8_goBack 44 = .ok (.getfield 47, 3) := by decide +kernel
theorem dX8_goBack_47 : decode cX8_goBack 47 = .ok (.iload_n 1, 1) := by decide +kernel
theorem dX8_goBack_48 : decode cX8_goBack 48 = .ok (.laload, 1) := by decide +kernel
theorem dX8_goBack_49 : decode cX8_goBack 49 = .ok (.putfield 249, 3) := by decide +kernel
theorem dX8_goBack_52 : decode cX8_goBack 52 = .ok (.aload_n 0, 1) := by decide +kernel
theorem dX8_goBack_53 : decode cX8_goBack 53 = .ok (.iconst 0, 1) := by decide +kernel
theorem dX8_goBack_54 : decode cX8_goBack 54 = .ok (.putfield 164, 3) := by decide +kernel
theorem dX8_goBack_57 : decode cX8_goBack 57 = .ok (.iconst 1, 1) := by decide +kernel
theorem dX8_goBack_58 : decode cX8_goBack 58 = .ok (.ireturn, 1) := by decide +kernel
