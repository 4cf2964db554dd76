theorem dX0_init_0 : decode cX0_init 0 = .ok (.aload_n 0, 1) := by decide +kernel
theorem dX0_init_1 : decode cX0_init 1 = .ok (.invokespecial 3, 3) := by decide +kernel
theorem dX0_init_4 : decode cX0_init 4 = .ok (.aload_n 0, 1) := by decide +kernel
theorem dX0_init_5 : decode cX0_init 5 = .ok (.iconst 0, 1) := by decide +kernel
theorem dX0_init_6 : decode cX0_init 6 = .ok (.putfield 9, 3) := by decide +kernel
theorem dX0_init_9 : decode cX0_init 9 = .ok (.aload_n 0, 1) := by decide +kernel
theorem dX0_init_10 : decode cX0_init 10 = .ok (.bipush 20, 2) := by decide +kernel
theorem dX0_init_12 : decode cX0_init 12 = .ok (.newarray .int, 2) := by decide +kernel
theorem dX0_init_14 : decode cX0_init 14 = .ok (.putfield 15, 3) := by decide +kernel
theorem dX0_init_17 : decode cX0_init 17 = .ok (.aload_n 0, 1) := by decide +kernel
theorem dX0_init_18 : decode cX0_init 18 = .ok (.bipush 20, 2) := by decide +kernel
theorem dX0_init_20 : decode cX0_init 20 = .ok (.newarray .int, 2) := by decide +kernel
theorem dX0_init_22 : decode cX0_init 22 = .ok (.putfield 19, 3) := by decide +kernel
theorem dX0_init_25 : decode cX0_init 25 = .ok (.return_, 1) := by decide +kernel
theorem dX0_append_0 : decode cX0_append 0 = .ok (.aload_n 0, 1) := by decide +kernel
theorem dX0_append_1 : decode cX0_append 1 = .ok (.getfield 9, 3) := by decide +kernel
theorem dX0_append_4 : decode cX0_append 4 = .ok (.bipush 20, 2) := by decide +kernel
theorem dX0_append_6 : decode cX0_append 6 = .ok (.if_icmp .lt 5, 3) := by decide +kernel
theorem dX0_append_9 : decode cX0_append 9 = .ok (.iconst 0, 1) := by decide +kernel
theorem dX0_append_10 : decode cX0_append 10 = .ok (.ireturn, 1) := by decide +kernel
theorem dX0_append_11 : decode cX0_append 11 = .ok (.aload_n 0, 1) := by decide +kernel
theorem dX0_append_12 : decode cX0_append 12 = .ok (.getfield 15, 3) := by decide +kernel
theorem dX0_append_15 : decode cX0_append 15 = .ok (.aload_n 0, 1) := by decide +kernel
theorem dX0_append_16 : decode cX0_append 16 = .ok (.getfield 9, 3) := by decide +kernel
theorem dX0_append_19 : decode cX0_append 19 = .ok (.iload_n 1, 1) := by decide +kernel
theorem dX0_append_20 : decode cX0_append 20 = .ok (.iastore, 1) := by decide +kernel
theorem dX0_append_21 : decode cX0_append 21 = .ok (.aload_n 0, 1) := by decide +kernel
theorem dX0_append_22 : decode cX0_append 22 = .ok (.getfield 19, 3) := by decide +kernel
theorem dX0_append_25 : decode cX0_append 25 = .ok (.aload_n 0, 1) := by decide +kernel
theorem dX0_append_26 : decode cX0_append 26 = .ok (.getfield 9, 3) := by decide +kernel
theorem dX0_append_29 : decode cX0_append 29 = .ok (.iload_n 2, 1) := by decide +kernel
theorem dX0_append_30 : decode cX0_append 30 = .ok (.iastore, 1) := by decide +kernel
theorem dX0_append_31 : decode cX0_append 31 = .ok (.aload_n 0, 1) := by decide +kernel
theorem dX0_append_32 : decode cX0_append 32 = .ok (.dup, 1) := by decide +kernel
theorem dX0_append_33 : decode cX0_append 33 = .ok (.getfield 9, 3) := by decide +kernel
theorem dX0_append_36 : decode cX0_append 36 = .ok (.iconst 1, 1) := by decide +kernel
theorem dX0_append_37 : decode cX0_append 37 = .ok (.iadd, 1) := by decide +kernel
theorem dX0_append_38 : decode cX0_append 38 = .ok (.putfield 9, 3) := by decide +kernel
theorem dX0_append_41 : decode cX0_append 41 = .ok (.iconst 1, 1) := by decide +kernel
theorem dX0_append_42 : decode cX0_append 42 = .ok (.ireturn, 1) := by decide +kernel
theorem dX0_firstWrong_0 : decode cX0_firstWrong 0 = .ok (.iconst 0, 1) := by decide +kernel
theorem dX0_firstWrong_1 : decode cX0_firstWrong 1 = .ok (.istore_n 2, 1) := by decide +kernel
theorem dX0_firstWrong_2 : decode cX0_firstWrong 2 = .ok (.iload_n 2, 1) := by decide +kernel
theorem dX0_firstWrong_3 : decode cX0_firstWrong 3 = .ok (.aload_n 0, 1) := by decide +kernel
theorem dX0_firstWrong_4 : decode cX0_firstWrong 4 = .ok (.getfield 9, 3) := by decide +kernel
theorem dX0_firstWrong_7 : decode cX0_firstWrong 7 = .ok (.if_icmp .ge 31, 3) := by decide +kernel
theorem dX0_firstWrong_10 : decode cX0_firstWrong 10 = .ok (.aload_n 1, 1) := by decide +kernel
theorem dX0_firstWrong_11 : decode cX0_firstWrong 11 = .ok (.getfield 22, 3) := by decide +kernel
theorem dX0_firstWrong_14 : decode cX0_firstWrong 14 = .ok (.aload_n 0, 1) := by decide +kernel
theorem dX0_firstWrong_15 : decode cX0_firstWrong 15 = .ok (.getfield 15, 3) := by decide +kernel
theorem dX0_firstWrong_18 : decode cX0_firstWrong 18 = .ok (.iload_n 2, 1) := by decide +kernel
theorem dX0_firstWrong_19 : decode cX0_firstWrong 19 = .ok (.iaload, 1) := by decide +kernel
theorem dX0_firstWrong_20 : decode cX0_firstWrong 20 = .ok (.iaload, 1) := by decide +kernel
theorem dX0_firstWrong_21 : decode cX0_firstWrong 21 = .ok (.aload_n 0, 1) := by decide +kernel
theorem dX0_firstWrong_22 : decode cX0_firstWrong 22 = .ok (.getfield 19, 3) := by decide +kernel
theorem dX0_firstWrong_25 : decode cX0_firstWrong 25 = .ok (.iload_n 2, 1) := by decide +kernel
theorem dX0_firstWrong_26 : decode cX0_firstWrong 26 = .ok (.iaload, 1) := by decide +kernel
theorem dX0_firstWrong_27 : decode cX0_firstWrong 27 = .ok (.if_icmp .eq 5, 3) := by decide +kernel
theorem dX0_firstWrong_30 : decode cX0_firstWrong 30 = .ok (.iload_n 2, 1) := by decide +kernel
theorem dX0_firstWrong_31 : decode cX0_firstWrong 31 = .ok (.ireturn, 1) := by decide +kernel
theorem dX0_firstWrong_32 : decode cX0_firstWrong 32 = .ok (.iinc 2 1, 3) := by decide +kernel
theorem dX0_firstWrong_35 : decode cX0_firstWrong 35 = .ok (.goto (-33), 3) := by decide +kernel
theorem dX0_firstWrong_38 : decode cX0_firstWrong 38 = .ok (.iconst (-1), 1) := by decide +kernel
theorem dX0_firstWrong_39 : decode cX0_firstWrong 39 = .ok (.ireturn, 1) := by decide +kernel
theorem dX1_init_0 : decode cX1_init 0 = .ok (.aload_n 0, 1) := by decide +kernel
theorem dX1_init_1 : decode cX1_init 1 = .ok (.invokespecial 3, 3) := by decide +kernel
theorem dX1_init_4 : decode cX1_init 4 = .ok (.aload_n 0, 1) := by decide +kernel
theorem dX1_init_5 : decode cX1_init 5 = .ok (.iconst 0, 1) := by decide +kernel
theorem dX1_init_6 : decode cX1_init 6 = .ok (.putfield 9, 3) := by decide +kernel
theorem dX1_init_9 : decode cX1_init 9 = .ok (.aload_n 0, 1) := by decide +kernel
theorem dX1_init_10 : decode cX1_init 10 = .ok (.iconst 0, 1) := by decide +kernel
theorem dX1_init_11 : decode cX1_init 11 = .ok (.putfield 15, 3) := by decide +kernel
theorem dX1_init_14 : decode cX1_init 14 = .ok (.aload_n 0, 1) := by decide +kernel
theorem dX1_init_15 : decode cX1_init 15 = .ok (.iconst 0, 1) := by decide +kernel
theorem dX1_init_16 : decode cX1_init 16 = .ok (.putfield 18, 3) := by decide +kernel
theorem dX1_init_19 : decode cX1_init 19 = .ok (.aload_n 0, 1) := by decide +kernel
theorem dX1_init_20 : decode cX1_init 20 = .ok (.iconst 0, 1) := by decide +kernel
theorem dX1_init_21 : decode cX1_init 21 = .ok (.putfield 21, 3) := by decide +kernel
theorem dX1_init_24 : decode cX1_init 24 = .ok (.aload_n 0, 1) := by decide +kernel
theorem dX1_init_25 : decode cX1_init 25 = .ok (.bipush 6, 2) := by decide +kernel
theorem dX1_init_27 : decode cX1_init 27 = .ok (.newarray .int, 2) := by decide +kernel
theorem dX1_init_29 : decode cX1_init 29 = .ok (.putfield 24, 3) := by decide +kernel
theorem dX1_init_32 : decode cX1_init 32 = .ok (.aload_n 0, 1) := by decide +kernel
theorem dX1_init_33 : decode cX1_init 33 = .ok (.bipush 8, 2) := by decide +kernel
theorem dX1_init_35 : decode cX1_init 35 = .ok (.newarray .int, 2) := by decide +kernel
theorem dX1_init_37 : decode cX1_init 37 = .ok (.putfield 28, 3) := by decide +kernel
theorem dX1_init_40 : decode cX1_init 40 = .ok (.aload_n 0, 1) := by decide +kernel
theorem dX1_init_41 : decode cX1_init 41 = .ok (.bipush 8, 2) := by decide +kernel
theorem dX1_init_43 : decode cX1_init 43 = .ok (.newarray .int, 2) := by decide +kernel
theorem dX1_init_45 : decode cX1_init 45 = .ok (.putfield 31, 3) := by decide +kernel
theorem dX1_init_48 : decode cX1_init 48 = .ok (.aload_n 0, 1) := by decide +kernel
theorem dX1_init_49 : decode cX1_init 49 = .ok (.bipush 8, 2) := by decide +kernel
theorem dX1_init_51 : decode cX1_init 51 = .ok (.newarray .int, 2) := by decide +kernel
theorem dX1_init_53 : decode cX1_init 53 = .ok (.putfield 34, 3) := by decide +kernel
theorem dX1_init_56 : decode cX1_init 56 = .ok (.aload_n 0, 1) := by decide +kernel
theorem dX1_init_57 : decode cX1_init 57 = .ok (.bipush 6, 2) := by decide +kernel
theorem dX1_init_59 : decode cX1_init 59 = .ok (.newarray .int, 2) := by decide +kernel
theorem dX1_init_61 : decode cX1_init 61 = .ok (.putfield 37, 3) := by decide +kernel
theorem dX1_init_64 : decode cX1_init 64 = .ok (.aload_n 0, 1) := by decide +kernel
theorem dX1_init_65 : decode cX1_init 65 = .ok (.bipush 6, 2) := by decide +kernel
theorem dX1_init_67 : decode cX1_init 67 = .ok (.newarray .int, 2) := by decide +kernel
theorem dX1_init_69 : decode cX1_init 69 = .ok (.putfield 40, 3) := by decide +kernel
theorem dX1_init_72 : decode cX1_init 72 = .ok (.aload_n 0, 1) := by decide +kernel
theorem dX1_init_73 : decode cX1_init 73 = .ok (.bipush 6, 2) := by decide +kernel
theorem dX1_init_75 : decode cX1_init 75 = .ok (.newarray .int, 2) := by decide +kernel
theorem dX1_init_77 : decode cX1_init 77 = .ok (.putfield 43, 3) := by decide +kernel
theorem dX1_init_80 : decode cX1_init 80 = .ok (.aload_n 0, 1) := by decide +kernel
theorem dX1_init_81 : decode cX1_init 81 = .ok (.bipush 6, 2) := by decide +kernel
theorem dX1_init_83 : decode cX1_init 83 = .ok (.bipush 6, 2) := by decide +kernel
theorem dX1_init_85 : decode cX1_init 85 = .ok (.multianewarray 46 2, 4) := by decide +kernel
theorem dX1_init_89 : decode cX1_init 89 = .ok (.putfield 48, 3) := by decide +kernel
theorem dX1_init_92 : decode cX1_init 92 = .ok (.aload_n 0, 1) := by decide +kernel
theorem dX1_init_93 : decode cX1_init 93 = .ok (.bipush 6, 2) := by decide +kernel
theorem dX1_init_95 : decode cX1_init 95 = .ok (.bipush 6, 2) := by decide +kernel
theorem dX1_init_97 : decode cX1_init 97 = .ok (.multianewarray 46 2, 4) := by decide +kernel
theorem dX1_init_101 : decode cX1_init 101 = .ok (.putfield 51, 3) := by decide +kernel
theorem dX1_init_104 : decode cX1_init 104 = .ok (.return_, 1) := by decide +kernel
theorem dX1_empty_0 : decode cX1_empty 0 = .ok (.aload_n 0, 1) := by decide +kernel
theorem dX1_empty_1 : decode cX1_empty 1 = .ok (.iconst 0, 1) := by decide +kernel
theorem dX1_empty_2 : decode cX1_empty 2 = .ok (.putfield 9, 3) := by decide +kernel
theorem dX1_empty_5 : decode cX1_empty 5 = .ok (.aload_n 0, 1) := by decide +kernel
theorem dX1_empty_6 : decode cX1_empty 6 = .ok (.iconst 0, 1) := by decide +kernel
theorem dX1_empty_7 : decode cX1_empty 7 = .ok (.putfield 15, 3) := by decide +kernel
theorem dX1_empty_10 : decode cX1_empty 10 = .ok (.aload_n 0, 1) := by decide +kernel
theorem dX1_empty_11 : decode cX1_empty 11 = .ok (.iconst 0, 1) := by decide +kernel
theorem dX1_empty_12 : decode cX1_empty 12 = .ok (.putfield 18, 3) := by decide +kernel
theorem dX1_empty_15 : decode cX1_empty 15 = .ok (.aload_n 0, 1) := by decide +kernel
theorem dX1_empty_16 : decode cX1_empty 16 = .ok (.iconst 0, 1) := by decide +kernel
theorem dX1_empty_17 : decode cX1_empty 17 = .ok (.putfield 21, 3) := by decide +kernel
theorem dX1_empty_20 : decode cX1_empty 20 = .ok (.return_, 1) := by decide +kernel
theorem dX1_addRoom_0 : decode cX1_addRoom 0 = .ok (.aload_n 0, 1) := by decide +kernel
theorem dX1_addRoom_1 : decode cX1_addRoom 1 = .ok (.getfield 15, 3) := by decide +kernel
theorem dX1_addRoom_4 : decode cX1_addRoom 4 = .ok (.bipush 6, 2) := by decide +kernel
theorem dX1_addRoom_6 : decode cX1_addRoom 6 = .ok (.if_icmp .ge 23, 3) := by decide +kernel
theorem dX1_addRoom_9 : decode cX1_addRoom 9 = .ok (.aload_n 0, 1) := by decide +kernel
theorem dX1_addRoom_10 : decode cX1_addRoom 10 = .ok (.getfield 24, 3) := by decide +kernel
theorem dX1_addRoom_13 : decode cX1_addRoom 13 = .ok (.aload_n 0, 1) := by decide +kernel
theorem dX1_addRoom_14 : decode cX1_addRoom 14 = .ok (.getfield 15, 3) := by decide +kernel
theorem dX1_addRoom_17 : decode cX1_addRoom 17 = .ok (.iload_n 1, 1) := by decide +kernel
theorem dX1_addRoom_18 : decode cX1_addRoom 18 = .ok (.iastore, 1) := by decide +kernel
theorem dX1_addRoom_19 : decode cX1_addRoom 19 = .ok (.aload_n 0, 1) := by decide +kernel
theorem dX1_addRoom_20 : decode cX1_addRoom 20 = .ok (.dup, 1) := by decide +kernel
theorem dX1_addRoom_21 : decode cX1_addRoom 21 = .ok (.getfield 15, 3) := by decide +kernel
theorem dX1_addRoom_24 : decode cX1_addRoom 24 = .ok (.iconst 1, 1) := by decide +kernel
theorem dX1_addRoom_25 : decode cX1_addRoom 25 = .ok (.iadd, 1) := by decide +kernel
theorem dX1_addRoom_26 : decode cX1_addRoom 26 = .ok (.putfield 15, 3) := by decide +kernel
theorem dX1_addRoom_29 : decode cX1_addRoom 29 = .ok (.return_, 1) := by decide +kernel
theorem dX1_addDoor_0 : decode cX1_addDoor 0 = .ok (.aload_n 0, 1) := by decide +kernel
theorem dX1_addDoor_1 : decode cX1_addDoor 1 = .ok (.getfield 18, 3) := by decide +kernel
theorem dX1_addDoor_4 : decode cX1_addDoor 4 = .ok (.bipush 8, 2) := by decide +kernel
theorem dX1_addDoor_6 : decode cX1_addDoor 6 = .ok (.if_icmp .ge 43, 3) := by decide +kernel
theorem dX1_addDoor_9 : decode cX1_addDoor 9 = .ok (.aload_n 0, 1) := by decide +kernel
theorem dX1_addDoor_10 : decode cX1_addDoor 10 = .ok (.getfield 28, 3) := by decide +kernel
theorem dX1_addDoor_13 : decode cX1_addDoor 13 = .ok (.aload_n 0, 1) := by decide +kernel
theorem dX1_addDoor_14 : decode cX1_addDoor 14 = .ok (.getfield 18, 3) := by decide +kernel
theorem dX1_addDoor_17 : decode cX1_addDoor 17 = .ok (.iload_n 1, 1) := by decide +kernel
theorem dX1_addDoor_18 : decode cX1_addDoor 18 = .ok (.iastore, 1) := by decide +kernel
theorem dX1_addDoor_19 : decode cX1_addDoor 19 = .ok (.aload_n 0, 1) := by decide +kernel
theorem dX1_addDoor_20 : decode cX1_addDoor 20 = .ok (.getfield 31, 3) := by decide +kernel
theorem dX1_addDoor_23 : decode cX1_addDoor 23 = .ok (.aload_n 0, 1) := by decide +kernel
theorem dX1_addDoor_24 : decode cX1_addDoor 24 = .ok (.getfield 18, 3) := by decide +kernel
theorem dX1_addDoor_27 : decode cX1_addDoor 27 = .ok (.iload_n 2, 1) := by decide +kernel
theorem dX1_addDoor_28 : decode cX1_addDoor 28 = .ok (.iastore, 1) := by decide +kernel
theorem dX1_addDoor_29 : decode cX1_addDoor 29 = .ok (.aload_n 0, 1) := by decide +kernel
theorem dX1_addDoor_30 : decode cX1_addDoor 30 = .ok (.getfield 34, 3) := by decide +kernel
theorem dX1_addDoor_33 : decode cX1_addDoor 33 = .ok (.aload_n 0, 1) := by decide +kernel
theorem dX1_addDoor_34 : decode cX1_addDoor 34 = .ok (.getfield 18, 3) := by decide +kernel
theorem dX1_addDoor_37 : decode cX1_addDoor 37 = .ok (.iload_n 3, 1) := by decide +kernel
theorem dX1_addDoor_38 : decode cX1_addDoor 38 = .ok (.iastore, 1) := by decide +kernel
theorem dX1_addDoor_39 : decode cX1_addDoor 39 = .ok (.aload_n 0, 1) := by decide +kernel
theorem dX1_addDoor_40 : decode cX1_addDoor 40 = .ok (.dup, 1) := by decide +kernel
theorem dX1_addDoor_41 : decode cX1_addDoor 41 = .ok (.getfield 18, 3) := by decide +kernel
theorem dX1_addDoor_44 : decode cX1_addDoor 44 = .ok (.iconst 1, 1) := by decide +kernel
theorem dX1_addDoor_45 : decode cX1_addDoor 45 = .ok (.iadd, 1) := by decide +kernel
theorem dX1_addDoor_46 : decode cX1_addDoor 46 = .ok (.putfield 18, 3) := by decide +kernel
theorem dX1_addDoor_49 : decode cX1_addDoor 49 = .ok (.return_, 1) := by decide +kernel
theorem dX1_addHeir_0 : decode cX1_addHeir 0 = .ok (.aload_n 0, 1) := by decide +kernel
theorem dX1_addHeir_1 : decode cX1_addHeir 1 = .ok (.getfield 21, 3) := by decide +kernel
theorem dX1_addHeir_4 : decode cX1_addHeir 4 = .ok (.bipush 6, 2) := by decide +kernel
theorem dX1_addHeir_6 : decode cX1_addHeir 6 = .ok (.if_icmp .ge 43, 3) := by decide +kernel
theorem dX1_addHeir_9 : decode cX1_addHeir 9 = .ok (.aload_n 0, 1) := by decide +kernel
theorem dX1_addHeir_10 : decode cX1_addHeir 10 = .ok (.getfield 37, 3) := by decide +kernel
theorem dX1_addHeir_13 : decode cX1_addHeir 13 = .ok (.aload_n 0, 1) := by decide +kernel
theorem dX1_addHeir_14 : decode cX1_addHeir 14 = .ok (.getfield 21, 3) := by decide +kernel
theorem dX1_addHeir_17 : decode cX1_addHeir 17 = .ok (.iload_n 1, 1) := by decide +kernel
theorem dX1_addHeir_18 : decode cX1_addHeir 18 = .ok (.iastore, 1) := by decide +kernel
theorem dX1_addHeir_19 : decode cX1_addHeir 19 = .ok (.aload_n 0, 1) := by decide +kernel
theorem dX1_addHeir_20 : decode cX1_addHeir 20 = .ok (.getfield 40, 3) := by decide +kernel
theorem dX1_addHeir_23 : decode cX1_addHeir 23 = .ok (.aload_n 0, 1) := by decide +kernel
theorem dX1_addHeir_24 : decode cX1_addHeir 24 = .ok (.getfield 21, 3) := by decide +kernel
theorem dX1_addHeir_27 : decode cX1_addHeir 27 = .ok (.iload_n 2, 1) := by decide +kernel
theorem dX1_addHeir_28 : decode cX1_addHeir 28 = .ok (.iastore, 1) := by decide +kernel
theorem dX1_addHeir_29 : decode cX1_addHeir 29 = .ok (.aload_n 0, 1) := by decide +kernel
theorem dX1_addHeir_30 : decode cX1_addHeir 30 = .ok (.getfield 43, 3) := by decide +kernel
theorem dX1_addHeir_33 : decode cX1_addHeir 33 = .ok (.aload_n 0, 1) := by decide +kernel
theorem dX1_addHeir_34 : decode cX1_addHeir 34 = .ok (.getfield 21, 3) := by decide +kernel
theorem dX1_addHeir_37 : decode cX1_addHeir 37 = .ok (.iload_n 3, 1) := by decide +kernel
theorem dX1_addHeir_38 : decode cX1_addHeir 38 = .ok (.iastore, 1) := by decide +kernel
theorem dX1_addHeir_39 : decode cX1_addHeir 39 = .ok (.aload_n 0, 1) := by decide +kernel
theorem dX1_addHeir_40 : decode cX1_addHeir 40 = .ok (.dup, 1) := by decide +kernel
theorem dX1_addHeir_41 : decode cX1_addHeir 41 = .ok (.getfield 21, 3) := by decide +kernel
theorem dX1_addHeir_44 : decode cX1_addHeir 44 = .ok (.iconst 1, 1) := by decide +kernel
theorem dX1_addHeir_45 : decode cX1_addHeir 45 = .ok (.iadd, 1) := by decide +kernel
theorem dX1_addHeir_46 : decode cX1_addHeir 46 = .ok (.putfield 21, 3) := by decide +kernel
theorem dX1_addHeir_49 : decode cX1_addHeir 49 = .ok (.return_, 1) := by decide +kernel
theorem dX1_hasRoom_0 : decode cX1_hasRoom 0 = .ok (.iload_n 1, 1) := by decide +kernel
theorem dX1_hasRoom_1 : decode cX1_hasRoom 1 = .ok (.ifCond .lt 15, 3) := by decide +kernel
theorem dX1_hasRoom_4 : decode cX1_hasRoom 4 = .ok (.iload_n 1, 1) := by decide +kernel
theorem dX1_hasRoom_5 : decode cX1_hasRoom 5 = .ok (.aload_n 0, 1) := by decide +kernel
theorem dX1_hasRoom_6 : decode cX1_hasRoom 6 = .ok (.getfield 15, 3) := by decide +kernel
theorem dX1_hasRoom_9 : decode cX1_hasRoom 9 = .ok (.if_icmp .ge 7, 3) := by decide +kernel
theorem dX1_hasRoom_12 : decode cX1_hasRoom 12 = .ok (.iconst 1, 1) := by decide +kernel
theorem dX1_hasRoom_13 : decode cX1_hasRoom 13 = .ok (.goto 4, 3) := by decide +kernel
theorem dX1_hasRoom_16 : decode cX1_hasRoom 16 = .ok (.iconst 0, 1) := by decide +kernel
theorem dX1_hasRoom_17 : decode cX1_hasRoom 17 = .ok (.ireturn, 1) := by decide +kernel
theorem dX1_hasRooms_0 : decode cX1_hasRooms 0 = .ok (.iload_n 1, 1) := by decide +kernel
theorem dX1_hasRooms_1 : decode cX1_hasRooms 1 = .ok (.ifCond .lt 17, 3) := by decide +kernel
theorem dX1_hasRooms_4 : decode cX1_hasRooms 4 = .ok (.iload_n 1, 1) := by decide +kernel
theorem dX1_hasRooms_5 : decode cX1_hasRooms 5 = .ok (.iconst 1, 1) := by decide +kernel
theorem dX1_hasRooms_6 : decode cX1_hasRooms 6 = .ok (.aload_n 0, 1) := by decide +kernel
theorem dX1_hasRooms_7 : decode cX1_hasRooms 7 = .ok (.getfield 15, 3) := by decide +kernel
theorem dX1_hasRooms_10 : decode cX1_hasRooms 10 = .ok (.ishl, 1) := by decide +kernel
theorem dX1_hasRooms_11 : decode cX1_hasRooms 11 = .ok (.if_icmp .ge 7, 3) := by decide +kernel
theorem dX1_hasRooms_14 : decode cX1_hasRooms 14 = .ok (.iconst 1, 1) := by decide +kernel
theorem dX1_hasRooms_15 : decode cX1_hasRooms 15 = .ok (.goto 4, 3) := by decide +kernel
theorem dX1_hasRooms_18 : decode cX1_hasRooms 18 = .ok (.iconst 0, 1) := by decide +kernel
theorem dX1_hasRooms_19 : decode cX1_hasRooms 19 = .ok (.ireturn, 1) := by decide +kernel
theorem dX1_hasDoor_0 : decode cX1_hasDoor 0 = .ok (.iload_n 1, 1) := by decide +kernel
theorem dX1_hasDoor_1 : decode cX1_hasDoor 1 = .ok (.ifCond .lt 15, 3) := by decide +kernel
theorem dX1_hasDoor_4 : decode cX1_hasDoor 4 = .ok (.iload_n 1, 1) := by decide +kernel
theorem dX1_hasDoor_5 : decode cX1_hasDoor 5 = .ok (.aload_n 0, 1) := by decide +kernel
theorem dX1_hasDoor_6 : decode cX1_hasDoor 6 = .ok (.getfield 18, 3) := by decide +kernel
theorem dX1_hasDoor_9 : decode cX1_hasDoor 9 = .ok (.if_icmp .ge 7, 3) := by decide +kernel
theorem dX1_hasDoor_12 : decode cX1_hasDoor 12 = .ok (.iconst 1, 1) := by decide +kernel
theorem dX1_hasDoor_13 : decode cX1_hasDoor 13 = .ok (.goto 4, 3) := by decide +kernel
theorem dX1_hasDoor_16 : decode cX1_hasDoor 16 = .ok (.iconst 0, 1) := by decide +kernel
theorem dX1_hasDoor_17 : decode cX1_hasDoor 17 = .ok (.ireturn, 1) := by decide +kernel
theorem dX1_hasHeir_0 : decode cX1_hasHeir 0 = .ok (.iload_n 1, 1) := by decide +kernel
theorem dX1_hasHeir_1 : decode cX1_hasHeir 1 = .ok (.ifCond .lt 15, 3) := by decide +kernel
theorem dX1_hasHeir_4 : decode cX1_hasHeir 4 = .ok (.iload_n 1, 1) := by decide +kernel
theorem dX1_hasHeir_5 : decode cX1_hasHeir 5 = .ok (.aload_n 0, 1) := by decide +kernel
theorem dX1_hasHeir_6 : decode cX1_hasHeir 6 = .ok (.getfield 21, 3) := by decide +kernel
theorem dX1_hasHeir_9 : decode cX1_hasHeir 9 = .ok (.if_icmp .ge 7, 3) := by decide +kernel
theorem dX1_hasHeir_12 : decode cX1_hasHeir 12 = .ok (.iconst 1, 1) := by decide +kernel
theorem dX1_hasHeir_13 : decode cX1_hasHeir 13 = .ok (.goto 4, 3) := by decide +kernel
theorem dX1_hasHeir_16 : decode cX1_hasHeir 16 = .ok (.iconst 0, 1) := by decide +kernel
theorem dX1_hasHeir_17 : decode cX1_hasHeir 17 = .ok (.ireturn, 1) := by decide +kernel
theorem dX1_behind_0 : decode cX1_behind 0 = .ok (.aload_n 0, 1) := by decide +kernel
theorem dX1_behind_1 : decode cX1_behind 1 = .ok (.getfield 28, 3) := by decide +kernel
theorem dX1_behind_4 : decode cX1_behind 4 = .ok (.iload_n 1, 1) := by decide +kernel
theorem dX1_behind_5 : decode cX1_behind 5 = .ok (.iaload, 1) := by decide +kernel
theorem dX1_behind_6 : decode cX1_behind 6 = .ok (.iload_n 2, 1) := by decide +kernel
theorem dX1_behind_7 : decode cX1_behind 7 = .ok (.if_icmp .ne 10, 3) := by decide +kernel
theorem dX1_behind_10 : decode cX1_behind 10 = .ok (.aload_n 0, 1) := by decide +kernel
theorem dX1_behind_11 : decode cX1_behind 11 = .ok (.getfield 31, 3) := by decide +kernel
theorem dX1_behind_14 : decode cX1_behind 14 = .ok (.iload_n 1, 1) := by decide +kernel
theorem dX1_behind_15 : decode cX1_behind 15 = .ok (.iaload, 1) := by decide +kernel
theorem dX1_behind_16 : decode cX1_behind 16 = .ok (.ireturn, 1) := by decide +kernel
theorem dX1_behind_17 : decode cX1_behind 17 = .ok (.aload_n 0, 1) := by decide +kernel
theorem dX1_behind_18 : decode cX1_behind 18 = .ok (.getfield 31, 3) := by decide +kernel
theorem dX1_behind_21 : decode cX1_behind 21 = .ok (.iload_n 1, 1) := by decide +kernel
theorem dX1_behind_22 : decode cX1_behind 22 = .ok (.iaload, 1) := by decide +kernel
theorem dX1_behind_23 : decode cX1_behind 23 = .ok (.iload_n 2, 1) := by decide +kernel
theorem dX1_behind_24 : decode cX1_behind 24 = .ok (.if_icmp .ne 12, 3) := by decide +kernel
theorem dX1_behind_27 : decode cX1_behind 27 = .ok (.aload_n 0, 1) := by decide +kernel
theorem dX1_behind_28 : decode cX1_behind 28 = .ok (.getfield 28, 3) := by decide +kernel
theorem dX1_behind_31 : decode cX1_behind 31 = .ok (.iload_n 1, 1) := by decide +kernel
theorem dX1_behind_32 : decode cX1_behind 32 = .ok (.iaload, 1) := by decide +kernel
theorem dX1_behind_33 : decode cX1_behind 33 = .ok (.goto 4, 3) := by decide +kernel
theorem dX1_behind_36 : decode cX1_behind 36 = .ok (.iconst (-1), 1) := by decide +kernel
theorem dX1_behind_37 : decode cX1_behind 37 = .ok (.ireturn, 1) := by decide +kernel
theorem dX1_isEarly_0 : decode cX1_isEarly 0 = .ok (.iload_n 1, 1) := by decide +kernel
theorem dX1_isEarly_1 : decode cX1_isEarly 1 = .ok (.aload_n 0, 1) := by decide +kernel
theorem dX1_isEarly_2 : decode cX1_isEarly 2 = .ok (.getfield 9, 3) := by decide +kernel
theorem dX1_isEarly_5 : decode cX1_isEarly 5 = .ok (.iconst 2, 1) := by decide +kernel
theorem dX1_isEarly_6 : decode cX1_isEarly 6 = .ok (.idiv, 1) := by decide +kernel
theorem dX1_isEarly_7 : decode cX1_isEarly 7 = .ok (.if_icmp .ge 7, 3) := by decide +kernel
theorem dX1_isEarly_10 : decode cX1_isEarly 10 = .ok (.iconst 1, 1) := by decide +kernel
theorem dX1_isEarly_11 : decode cX1_isEarly 11 = .ok (.goto 4, 3) := by decide +kernel
theorem dX1_isEarly_14 : decode cX1_isEarly 14 = .ok (.iconst 0, 1) := by decide +kernel
theorem dX1_isEarly_15 : decode cX1_isEarly 15 = .ok (.ireturn, 1) := by decide +kernel
theorem dX1_nameOf_0 : decode cX1_nameOf 0 = .ok (.aload_n 0, 1) := by decide +kernel
theorem dX1_nameOf_1 : decode cX1_nameOf 1 = .ok (.getfield 37, 3) := by decide +kernel
theorem dX1_nameOf_4 : decode cX1_nameOf 4 = .ok (.iload_n 1, 1) := by decide +kernel
theorem dX1_nameOf_5 : decode cX1_nameOf 5 = .ok (.iaload, 1) := by decide +kernel
theorem dX1_nameOf_6 : decode cX1_nameOf 6 = .ok (.iconst 2, 1) := by decide +kernel
theorem dX1_nameOf_7 : decode cX1_nameOf 7 = .ok (.if_icmp .ne 12, 3) := by decide +kernel
theorem dX1_nameOf_10 : decode cX1_nameOf 10 = .ok (.iload_n 2, 1) := by decide +kernel
theorem dX1_nameOf_11 : decode cX1_nameOf 11 = .ok (.iconst 3, 1) := by decide +kernel
theorem dX1_nameOf_12 : decode cX1_nameOf 12 = .ok (.if_icmp .eq 7, 3) := by decide +kernel
theorem dX1_nameOf_15 : decode cX1_nameOf 15 = .ok (.iconst 0, 1) := by decide +kernel
theorem dX1_nameOf_16 : decode cX1_nameOf 16 = .ok (.goto 4, 3) := by decide +kernel
theorem dX1_nameOf_19 : decode cX1_nameOf 19 = .ok (.iload_n 1, 1) := by decide +kernel
theorem dX1_nameOf_20 : decode cX1_nameOf 20 = .ok (.ireturn, 1) := by decide +kernel
theorem dX1_isHeard_0 : decode cX1_isHeard 0 = .ok (.aload_n 0, 1) := by decide +kernel
theorem dX1_isHeard_1 : decode cX1_isHeard 1 = .ok (.getfield 48, 3) := by decide +kernel
theorem dX1_isHeard_4 : decode cX1_isHeard 4 = .ok (.iload_n 2, 1) := by decide +kernel
theorem dX1_isHeard_5 : decode cX1_isHeard 5 = .ok (.aaload, 1) := by decide +kernel
theorem dX1_isHeard_6 : decode cX1_isHeard 6 = .ok (.iload_n 3, 1) := by decide +kernel
theorem dX1_isHeard_7 : decode cX1_isHeard 7 = .ok (.iaload, 1) := by decide +kernel
theorem dX1_isHeard_8 : decode cX1_isHeard 8 = .ok (.aload_n 0, 1) := by decide +kernel
theorem dX1_isHeard_9 : decode cX1_isHeard 9 = .ok (.getfield 40, 3) := by decide +kernel
theorem dX1_isHeard_12 : decode cX1_isHeard 12 = .ok (.iload_n 1, 1) := by decide +kernel
theorem dX1_isHeard_13 : decode cX1_isHeard 13 = .ok (.iaload, 1) := by decide +kernel
theorem dX1_isHeard_14 : decode cX1_isHeard 14 = .ok (.if_icmp .ge 7, 3) := by decide +kernel
theorem dX1_isHeard_17 : decode cX1_isHeard 17 = .ok (.iconst 1, 1) := by decide +kernel
theorem dX1_isHeard_18 : decode cX1_isHeard 18 = .ok (.goto 4, 3) := by decide +kernel
theorem dX1_isHeard_21 : decode cX1_isHeard 21 = .ok (.iconst 0, 1) := by decide +kernel
theorem dX1_isHeard_22 : decode cX1_isHeard 22 = .ok (.ireturn, 1) := by decide +kernel
theorem dX1_heardFrom_0 : decode cX1_heardFrom 0 = .ok (.iconst 0, 1) := by decide +kernel
theorem dX1_heardFrom_1 : decode cX1_heardFrom 1 = .ok (.istore_n 3, 1) := by decide +kernel
theorem dX1_heardFrom_2 : decode cX1_heardFrom 2 = .ok (.iconst 0, 1) := by decide +kernel
theorem dX1_heardFrom_3 : decode cX1_heardFrom 3 = .ok (.istore 4, 2) := by decide +kernel
theorem dX1_heardFrom_5 : decode cX1_heardFrom 5 = .ok (.iload 4, 2) := by decide +kernel
theorem dX1_heardFrom_7 : decode cX1_heardFrom 7 = .ok (.aload_n 0, 1) := by decide +kernel
theorem dX1_heardFrom_8 : decode cX1_heardFrom 8 = .ok (.getfield 15, 3) := by decide +kernel
theorem dX1_heardFrom_11 : decode cX1_heardFrom 11 = .ok (.if_icmp .ge 27, 3) := by decide +kernel
theorem dX1_heardFrom_14 : decode cX1_heardFrom 14 = .ok (.aload_n 0, 1) := by decide +kernel
theorem dX1_heardFrom_15 : decode cX1_heardFrom 15 = .ok (.iload_n 1, 1) := by decide +kernel
theorem dX1_heardFrom_16 : decode cX1_heardFrom 16 = .ok (.iload_n 2, 1) := by decide +kernel
theorem dX1_heardFrom_17 : decode cX1_heardFrom 17 = .ok (.iload 4, 2) := by decide +kernel
theorem dX1_heardFrom_19 : decode cX1_heardFrom 19 = .ok (.invokevirtual 54, 3) := by decide +kernel
theorem dX1_heardFrom_22 : decode cX1_heardFrom 22 = .ok (.ifCond .eq 10, 3) := by decide +kernel
theorem dX1_heardFrom_25 : decode cX1_heardFrom 25 = .ok (.iload_n 3, 1) := by decide +kernel
theorem dX1_heardFrom_26 : decode cX1_heardFrom 26 = .ok (.iconst 1, 1) := by decide +kernel
theorem dX1_heardFrom_27 : decode cX1_heardFrom 27 = .ok (.iload 4, 2) := by decide +kernel
theorem dX1_heardFrom_29 : decode cX1_heardFrom 29 = .ok (.ishl, 1) := by decide +kernel
theorem dX1_heardFrom_30 : decode cX1_heardFrom 30 = .ok (.ior, 1) := by decide +kernel
theorem dX1_heardFrom_31 : decode cX1_heardFrom 31 = .ok (.istore_n 3, 1) := by decide +kernel
theorem dX1_heardFrom_32 : decode cX1_heardFrom 32 = .ok (.iinc 4 1, 3) := by decide +kernel
theorem dX1_heardFrom_35 : decode cX1_heardFrom 35 = .ok (.goto (-30), 3) := by decide +kernel
theorem dX1_heardFrom_38 : decode cX1_heardFrom 38 = .ok (.iload_n 3, 1) := by decide +kernel
theorem dX1_heardFrom_39 : decode cX1_heardFrom 39 = .ok (.ireturn, 1) := by decide +kernel
theorem dX1_measure_0 : decode cX1_measure 0 = .ok (.iconst 0, 1) := by decide +kernel
theorem dX1_measure_1 : decode cX1_measure 1 = .ok (.istore_n 1, 1) := by decide +kernel
theorem dX1_measure_2 : decode cX1_measure 2 = .ok (.iload_n 1, 1) := by decide +kernel
theorem dX1_measure_3 : decode cX1_measure 3 = .ok (.aload_n 0, 1) := by decide +kernel
theorem dX1_measure_4 : decode cX1_measure 4 = .ok (.getfield 15, 3) := by decide +kernel
theorem dX1_measure_7 : decode cX1_measure 7 = .ok (.if_icmp .ge 63, 3) := by decide +kernel
theorem dX1_measure_10 : decode cX1_measure 10 = .ok (.iconst 0, 1) := by decide +kernel
theorem dX1_measure_11 : decode cX1_measure 11 = .ok (.istore_n 2, 1) := by decide +kernel
theorem dX1_measure_12 : decode cX1_measure 12 = .ok (.iload_n 2, 1) := by decide +kernel
theorem dX1_measure_13 : decode cX1_measure 13 = .ok (.aload_n 0, 1) := by decide +kernel
theorem dX1_measure_14 : decode cX1_measure 14 = .ok (.getfield 15, 3) := by decide +kernel
theorem dX1_measure_17 : decode cX1_measure 17 = .ok (.if_icmp .ge 47, 3) := by decide +kernel
theorem dX1_measure_20 : decode cX1_measure 20 = .ok (.aload_n 0, 1) := by decide +kernel
theorem dX1_measure_21 : decode cX1_measure 21 = .ok (.getfield 48, 3) := by decide +kernel
theorem dX1_measure_24 : decode cX1_measure 24 = .ok (.iload_n 1, 1) := by decide +kernel
theorem dX1_measure_25 : decode cX1_measure 25 = .ok (.aaload, 1) := by decide +kernel
theorem dX1_measure_26 : decode cX1_measure 26 = .ok (.iload_n 2, 1) := by decide +kernel
theorem dX1_measure_27 : decode cX1_measure 27 = .ok (.iload_n 1, 1) := by decide +kernel
theorem dX1_measure_28 : decode cX1_measure 28 = .ok (.iload_n 2, 1) := by decide +kernel
theorem dX1_measure_29 : decode cX1_measure 29 = .ok (.if_icmp .ne 7, 3) := by decide +kernel
theorem dX1_measure_32 : decode cX1_measure 32 = .ok (.iconst 0, 1) := by decide +kernel
theorem dX1_measure_33 : decode cX1_measure 33 = .ok (.goto 5, 3) := by decide +kernel
theorem dX1_measure_36 : decode cX1_measure 36 = .ok (.bipush 99, 2) := by decide +kernel
theorem dX1_measure_38 : decode cX1_measure 38 = .ok (.iastore, 1) := by decide +kernel
theorem dX1_measure_39 : decode cX1_measure 39 = .ok (.aload_n 0, 1) := by decide +kernel
theorem dX1_measure_40 : decode cX1_measure 40 = .ok (.getfield 51, 3) := by decide +kernel
theorem dX1_measure_43 : decode cX1_measure 43 = .ok (.iload_n 1, 1) := by decide +kernel
theorem dX1_measure_44 : decode cX1_measure 44 = .ok (.aaload, 1) := by decide +kernel
theorem dX1_measure_45 : decode cX1_measure 45 = .ok (.iload_n 2, 1) := by decide +kernel
theorem dX1_measure_46 : decode cX1_measure 46 = .ok (.iload_n 1, 1) := by decide +kernel
theorem dX1_measure_47 : decode cX1_measure 47 = .ok (.iload_n 2, 1) := by decide +kernel
theorem dX1_measure_48 : decode cX1_measure 48 = .ok (.if_icmp .ne 7, 3) := by decide +kernel
theorem dX1_measure_51 : decode cX1_measure 51 = .ok (.iconst 0, 1) := by decide +kernel
theorem dX1_measure_52 : decode cX1_measure 52 = .ok (.goto 5, 3) := by decide +kernel
theorem dX1_measure_55 : decode cX1_measure 55 = .ok (.bipush 99, 2) := by decide +kernel
theorem dX1_measure_57 : decode cX1_measure 57 = .ok (.iastore, 1) := by decide +kernel
theorem dX1_measure_58 : decode cX1_measure 58 = .ok (.iinc 2 1, 3) := by decide +kernel
theorem dX1_measure_61 : decode cX1_measure 61 = .ok (.goto (-49), 3) := by decide +kernel
theorem dX1_measure_64 : decode cX1_measure 64 = .ok (.iinc 1 1, 3) := by decide +kernel
theorem dX1_measure_67 : decode cX1_measure 67 = .ok (.goto (-65), 3) := by decide +kernel
theorem dX1_measure_70 : decode cX1_measure 70 = .ok (.iconst 0, 1) := by decide +kernel
theorem dX1_measure_71 : decode cX1_measure 71 = .ok (.istore_n 1, 1) := by decide +kernel
theorem dX1_measure_72 : decode cX1_measure 72 = .ok (.iload_n 1, 1) := by decide +kernel
theorem dX1_measure_73 : decode cX1_measure 73 = .ok (.aload_n 0, 1) := by decide +kernel
theorem dX1_measure_74 : decode cX1_measure 74 = .ok (.getfield 18, 3) := by decide +kernel
theorem dX1_measure_77 : decode cX1_measure 77 = .ok (.if_icmp .ge 56, 3) := by decide +kernel
theorem dX1_measure_80 : decode cX1_measure 80 = .ok (.aload_n 0, 1) := by decide +kernel
theorem dX1_measure_81 : decode cX1_measure 81 = .ok (.aload_n 0, 1) := by decide +kernel
theorem dX1_measure_82 : decode cX1_measure 82 = .ok (.getfield 48, 3) := by decide +kernel
theorem dX1_measure_85 : decode cX1_measure 85 = .ok (.aload_n 0, 1) := by decide +kernel
theorem dX1_measure_86 : decode cX1_measure 86 = .ok (.getfield 28, 3) := by decide +kernel
theorem dX1_measure_89 : decode cX1_measure 89 = .ok (.iload_n 1, 1) := by decide +kernel
theorem dX1_measure_90 : decode cX1_measure 90 = .ok (.iaload, 1) := by decide +kernel
theorem dX1_measure_91 : decode cX1_measure 91 = .ok (.aload_n 0, 1) := by decide +kernel
theorem dX1_measure_92 : decode cX1_measure 92 = .ok (.getfield 31, 3) := by decide +kernel
theorem dX1_measure_95 : decode cX1_measure 95 = .ok (.iload_n 1, 1) := by decide +kernel
theorem dX1_measure_96 : decode cX1_measure 96 = .ok (.iaload, 1) := by decide +kernel
theorem dX1_measure_97 : decode cX1_measure 97 = .ok (.aload_n 0, 1) := by decide +kernel
theorem dX1_measure_98 : decode cX1_measure 98 = .ok (.getfield 34, 3) := by decide +kernel
theorem dX1_measure_101 : decode cX1_measure 101 = .ok (.iload_n 1, 1) := by decide +kernel
theorem dX1_measure_102 : decode cX1_measure 102 = .ok (.iaload, 1) := by decide +kernel
theorem dX1_measure_103 : decode cX1_measure 103 = .ok (.invokevirtual 58, 3) := by decide +kernel
theorem dX1_measure_106 : decode cX1_measure 106 = .ok (.aload_n 0, 1) := by decide +kernel
theorem dX1_measure_107 : decode cX1_measure 107 = .ok (.aload_n 0, 1) := by decide +kernel
theorem dX1_measure_108 : decode cX1_measure 108 = .ok (.getfield 51, 3) := by decide +kernel
theorem dX1_measure_111 : decode cX1_measure 111 = .ok (.aload_n 0, 1) := by decide +kernel
theorem dX1_measure_112 : decode cX1_measure 112 = .ok (.getfield 28, 3) := by decide +kernel
theorem dX1_measure_115 : decode cX1_measure 115 = .ok (.iload_n 1, 1) := by decide +kernel
theorem dX1_measure_116 : decode cX1_measure 116 = .ok (.iaload, 1) := by decide +kernel
theorem dX1_measure_117 : decode cX1_measure 117 = .ok (.aload_n 0, 1) := by decide +kernel
theorem dX1_measure_118 : decode cX1_measure 118 = .ok (.getfield 31, 3) := by decide +kernel
theorem dX1_measure_121 : decode cX1_measure 121 = .ok (.iload_n 1, 1) := by decide +kernel
theorem dX1_measure_122 : decode cX1_measure 122 = .ok (.iaload, 1) := by decide +kernel
theorem dX1_measure_123 : decode cX1_measure 123 = .ok (.iconst 1, 1) := by decide +kernel
theorem dX1_measure_124 : decode cX1_measure 124 = .ok (.invokevirtual 58, 3) := by decide +kernel
theorem dX1_measure_127 : decode cX1_measure 127 = .ok (.iinc 1 1, 3) := by decide +kernel
theorem dX1_measure_130 : decode cX1_measure 130 = .ok (.goto (-58), 3) := by decide +kernel
theorem dX1_measure_133 : decode cX1_measure 133 = .ok (.aload_n 0, 1) := by decide +kernel
theorem dX1_measure_134 : decode cX1_measure 134 = .ok (.aload_n 0, 1) := by decide +kernel
theorem dX1_measure_135 : decode cX1_measure 135 = .ok (.getfield 48, 3) := by decide +kernel
theorem dX1_measure_138 : decode cX1_measure 138 = .ok (.invokevirtual 62, 3) := by decide +kernel
theorem dX1_measure_141 : decode cX1_measure 141 = .ok (.aload_n 0, 1) := by decide +kernel
theorem dX1_measure_142 : decode cX1_measure 142 = .ok (.aload_n 0, 1) := by decide +kernel
theorem dX1_measure_143 : decode cX1_measure 143 = .ok (.getfield 51, 3) := by decide +kernel
theorem dX1_measure_146 : decode cX1_measure 146 = .ok (.invokevirtual 62, 3) := by decide +kernel
theorem dX1_measure_149 : decode cX1_measure 149 = .ok (.return_, 1) := by decide +kernel
theorem dX1_shorten_0 : decode cX1_shorten 0 = .ok (.iload 4, 2) := by decide +kernel
theorem dX1_shorten_2 : decode cX1_shorten 2 = .ok (.aload_n 1, 1) := by decide +kernel
theorem dX1_shorten_3 : decode cX1_shorten 3 = .ok (.iload_n 2, 1) := by decide +kernel
theorem dX1_shorten_4 : decode cX1_shorten 4 = .ok (.aaload, 1) := by decide +kernel
theorem dX1_shorten_5 : decode cX1_shorten 5 = .ok (.iload_n 3, 1) := by decide +kernel
theorem dX1_shorten_6 : decode cX1_shorten 6 = .ok (.iaload, 1) := by decide +kernel
theorem dX1_shorten_7 : decode cX1_shorten 7 = .ok (.if_icmp .ge 17, 3) := by decide +kernel
theorem dX1_shorten_10 : decode cX1_shorten 10 = .ok (.aload_n 1, 1) := by decide +kernel
theorem dX1_shorten_11 : decode cX1_shorten 11 = .ok (.iload_n 2, 1) := by decide +kernel
theorem dX1_shorten_12 : decode cX1_shorten 12 = .ok (.aaload, 1) := by decide +kernel
theorem dX1_shorten_13 : decode cX1_shorten 13 = .ok (.iload_n 3, 1) := by decide +kernel
theorem dX1_shorten_14 : decode cX1_shorten 14 = .ok (.iload 4, 2) := by decide +kernel
theorem dX1_shorten_16 : decode cX1_shorten 16 = .ok (.iastore, 1) := by decide +kernel
theorem dX1_shorten_17 : decode cX1_shorten 17 = .ok (.aload_n 1, 1) := by decide +kernel
theorem dX1_shorten_18 : decode cX1_shorten 18 = .ok (.iload_n 3, 1) := by decide +kernel
theorem dX1_shorten_19 : decode cX1_shorten 19 = .ok (.aaload, 1) := by decide +kernel
theorem dX1_shorten_20 : decode cX1_shorten 20 = .ok (.iload_n 2, 1) := by decide +kernel
theorem dX1_shorten_21 : decode cX1_shorten 21 = .ok (.iload 4, 2) := by decide +kernel
theorem dX1_shorten_23 : decode cX1_shorten 23 = .ok (.iastore, 1) := by decide +kernel
theorem dX1_shorten_24 : decode cX1_shorten 24 = .ok (.return_, 1) := by decide +kernel
theorem dX1_shortenByRoomsBetween_0 : decode cX1_shortenByRoomsBetween 0 = .ok (.iconst 0, 1) := by decide +kernel
theorem dX1_shortenByRoomsBetween_1 : decode cX1_shortenByRoomsBetween 1 = .ok (.istore_n 2, 1) := by decide +kernel
theorem dX1_shortenByRoomsBetween_2 : decode cX1_shortenByRoomsBetween 2 = .ok (.iload_n 2, 1) := by decide +kernel
theorem dX1_shortenByRoomsBetween_3 : decode cX1_shortenByRoomsBetween 3 = .ok (.aload_n 0, 1) := by decide +kernel
theorem dX1_shortenByRoomsBetween_4 : decode cX1_shortenByRoomsBetween 4 = .ok (.getfield 15, 3) := by decide +kernel
theorem dX1_shortenByRoomsBetween_7 : decode cX1_shortenByRoomsBetween 7 = .ok (.if_icmp .ge 63, 3) := by decide +kernel
theorem dX1_shortenByRoomsBetween_10 : decode cX1_shortenByRoomsBetween 10 = .ok (.iconst 0, 1) := by decide +kernel
theorem dX1_shortenByRoomsBetween_11 : decode cX1_shortenByRoomsBetween 11 = .ok (.istore_n 3, 1) := by decide +kernel
theorem dX1_shortenByRoomsBetween_12 : decode cX1_shortenByRoomsBetween 12 = .ok (.iload_n 3, 1) := by decide +kernel
theorem dX1_shortenByRoomsBetween_13 : decode cX1_shortenByRoomsBetween 13 = .ok (.aload_n 0, 1) := by decide +kernel
theorem dX1_shortenByRoomsBetween_14 : decode cX1_shortenByRoomsBetween 14 = .ok (.getfield 15, 3) := by decide +kernel
theorem dX1_shortenByRoomsBetween_17 : decode cX1_shortenByRoomsBetween 17 = .ok (.if_icmp .ge 47, 3) := by decide +kernel
theorem dX1_shortenByRoomsBetween_20 : decode cX1_shortenByRoomsBetween 20 = .ok (.iconst 0, 1) := by decide +kernel
theorem dX1_shortenByRoomsBetween_21 : decode cX1_shortenByRoomsBetween 21 = .ok (.istore 4, 2) := by decide +kernel
theorem dX1_shortenByRoomsBetween_23 : decode cX1_shortenByRoomsBetween 23 = .ok (.iload 4, 2) := by decide +kernel
theorem dX1_shortenByRoomsBetween_25 : decode cX1_shortenByRoomsBetween 25 = .ok (.aload_n 0, 1) := by decide +kernel
theorem dX1_shortenByRoomsBetween_26 : decode cX1_shortenByRoomsBetween 26 = .ok (.getfield 15, 3) := by decide +kernel
theorem dX1_shortenByRoomsBetween_29 : decode cX1_shortenByRoomsBetween 29 = .ok (.if_icmp .ge 29, 3) := by decide +kernel
theorem dX1_shortenByRoomsBetween_32 : decode cX1_shortenByRoomsBetween 32 = .ok (.aload_n 0, 1) := by decide +kernel
theorem dX1_shortenByRoomsBetween_33 : decode cX1_shortenByRoomsBetween 33 = .ok (.aload_n 1, 1) := by decide +kernel
theorem dX1_shortenByRoomsBetween_34 : decode cX1_shortenByRoomsBetween 34 = .ok (.iload_n 3, 1) := by decide +kernel
theorem dX1_shortenByRoomsBetween_35 : decode cX1_shortenByRoomsBetween 35 = .ok (.iload 4, 2) := by decide +kernel
theorem dX1_shortenByRoomsBetween_37 : decode cX1_shortenByRoomsBetween 37 = .ok (.aload_n 1, 1) := by decide +kernel
theorem dX1_shortenByRoomsBetween_38 : decode cX1_shortenByRoomsBetween 38 = .ok (.iload_n 3, 1) := by decide +kernel
theorem dX1_shortenByRoomsBetween_39 : decode cX1_shortenByRoomsBetween 39 = .ok (.aaload, 1) := by decide +kernel
theorem dX1_shortenByRoomsBetween_40 : decode cX1_shortenByRoomsBetween 40 = .ok (.iload_n 2, 1) := by decide +kernel
theorem dX1_shortenByRoomsBetween_41 : decode cX1_shortenByRoomsBetween 41 = .ok (.iaload, 1) := by decide +kernel
theorem dX1_shortenByRoomsBetween_42 : decode cX1_shortenByRoomsBetween 42 = .ok (.aload_n 1, 1) := by decide +kernel
theorem dX1_shortenByRoomsBetween_43 : decode cX1_shortenByRoomsBetween 43 = .ok (.iload_n 2, 1) := by decide +kernel
theorem dX1_shortenByRoomsBetween_44 : decode cX1_shortenByRoomsBetween 44 = .ok (.aaload, 1) := by decide +kernel
theorem dX1_shortenByRoomsBetween_45 : decode cX1_shortenByRoomsBetween 45 = .ok (.iload 4, 2) := by decide +kernel
theorem dX1_shortenByRoomsBetween_47 : decode cX1_shortenByRoomsBetween 47 = .ok (.iaload, 1) := by decide +kernel
theorem dX1_shortenByRoomsBetween_48 : decode cX1_shortenByRoomsBetween 48 = .ok (.iadd, 1) := by decide +kernel
theorem dX1_shortenByRoomsBetween_49 : decode cX1_shortenByRoomsBetween 49 = .ok (.invokevirtual 58, 3) := by decide +kernel
theorem dX1_shortenByRoomsBetween_52 : decode cX1_shortenByRoomsBetween 52 = .ok (.iinc 4 1, 3) := by decide +kernel
theorem dX1_shortenByRoomsBetween_55 : decode cX1_shortenByRoomsBetween 55 = .ok (.goto (-32), 3) := by decide +kernel
theorem dX1_shortenByRoomsBetween_58 : decode cX1_shortenByRoomsBetween 58 = .ok (.iinc 3 1, 3) := by decide +kernel
theorem dX1_shortenByRoomsBetween_61 : decode cX1_shortenByRoomsBetween 61 = .ok (.goto (-49), 3) := by decide +kernel
theorem dX1_shortenByRoomsBetween_64 : decode cX1_shortenByRoomsBetween 64 = .ok (.iinc 2 1, 3) := by decide +kernel
theorem dX1_shortenByRoomsBetween_67 : decode cX1_shortenByRoomsBetween 67 = .ok (.goto (-65), 3) := by decide +kernel
theorem dX1_shortenByRoomsBetween_70 : decode cX1_shortenByRoomsBetween 70 = .ok (.return_, 1) := by decide +kernel
theorem dX2_init_0 : decode cX2_init 0 = .ok (.aload_n 0, 1) := by decide +kernel
theorem dX2_init_1 : decode cX2_init 1 = .ok (.invokespecial 3, 3) := by decide +kernel
theorem dX2_init_4 : decode cX2_init 4 = .ok (.aload_n 0, 1) := by decide +kernel
theorem dX2_init_5 : decode cX2_init 5 = .ok (.iconst 0, 1) := by decide +kernel
theorem dX2_init_6 : decode cX2_init 6 = .ok (.putfield 9, 3) := by decide +kernel
theorem dX2_init_9 : decode cX2_init 9 = .ok (.aload_n 0, 1) := by decide +kernel
theorem dX2_init_10 : decode cX2_init 10 = .ok (.iconst 0, 1) := by decide +kernel
theorem dX2_init_11 : decode cX2_init 11 = .ok (.putfield 15, 3) := by decide +kernel
theorem dX2_init_14 : decode cX2_init 14 = .ok (.aload_n 0, 1) := by decide +kernel
theorem dX2_init_15 : decode cX2_init 15 = .ok (.iconst 0, 1) := by decide +kernel
theorem dX2_init_16 : decode cX2_init 16 = .ok (.putfield 18, 3) := by decide +kernel
theorem dX2_init_19 : decode cX2_init 19 = .ok (.aload_n 0, 1) := by decide +kernel
theorem dX2_init_20 : decode cX2_init 20 = .ok (.iconst 0, 1) := by decide +kernel
theorem dX2_init_21 : decode cX2_init 21 = .ok (.putfield 21, 3) := by decide +kernel
theorem dX2_init_24 : decode cX2_init 24 = .ok (.aload_n 0, 1) := by decide +kernel
theorem dX2_init_25 : decode cX2_init 25 = .ok (.bipush 6, 2) := by decide +kernel
theorem dX2_init_27 : decode cX2_init 27 = .ok (.newarray .int, 2) := by decide +kernel
theorem dX2_init_29 : decode cX2_init 29 = .ok (.putfield 24, 3) := by decide +kernel
theorem dX2_init_32 : decode cX2_init 32 = .ok (.aload_n 0, 1) := by decide +kernel
theorem dX2_init_33 : decode cX2_init 33 = .ok (.bipush 6, 2) := by decide +kernel
theorem dX2_init_35 : decode cX2_init 35 = .ok (.newarray .int, 2) := by decide +kernel
theorem dX2_init_37 : decode cX2_init 37 = .ok (.putfield 28, 3) := by decide +kernel
theorem dX2_init_40 : decode cX2_init 40 = .ok (.aload_n 0, 1) := by decide +kernel
theorem dX2_init_41 : decode cX2_init 41 = .ok (.bipush 6, 2) := by decide +kernel
theorem dX2_init_43 : decode cX2_init 43 = .ok (.newarray .int, 2) := by decide +kernel
theorem dX2_init_45 : decode cX2_init 45 = .ok (.putfield 31, 3) := by decide +kernel
theorem dX2_init_48 : decode cX2_init 48 = .ok (.aload_n 0, 1) := by decide +kernel
theorem dX2_init_49 : decode cX2_init 49 = .ok (.iconst 4, 1) := by decide +kernel
theorem dX2_init_50 : decode cX2_init 50 = .ok (.bipush 6, 2) := by decide +kernel
theorem dX2_init_52 : decode cX2_init 52 = .ok (.multianewarray 34 2, 4) := by decide +kernel
theorem dX2_init_56 : decode cX2_init 56 = .ok (.putfield 36, 3) := by decide +kernel
theorem dX2_init_59 : decode cX2_init 59 = .ok (.return_, 1) := by decide +kernel
theorem dX2_begin_0 : decode cX2_begin 0 = .ok (.aload_n 0, 1) := by decide +kernel
theorem dX2_begin_1 : decode cX2_begin 1 = .ok (.iconst 0, 1) := by decide +kernel
theorem dX2_begin_2 : decode cX2_begin 2 = .ok (.putfield 9, 3) := by decide +kernel
theorem dX2_begin_5 : decode cX2_begin 5 = .ok (.aload_n 0, 1) := by decide +kernel
theorem dX2_begin_6 : decode cX2_begin 6 = .ok (.iconst 0, 1) := by decide +kernel
theorem dX2_begin_7 : decode cX2_begin 7 = .ok (.putfield 15, 3) := by decide +kernel
theorem dX2_begin_10 : decode cX2_begin 10 = .ok (.aload_n 0, 1) := by decide +kernel
theorem dX2_begin_11 : decode cX2_begin 11 = .ok (.iconst 0, 1) := by decide +kernel
theorem dX2_begin_12 : decode cX2_begin 12 = .ok (.putfield 18, 3) := by decide +kernel
theorem dX2_begin_15 : decode cX2_begin 15 = .ok (.aload_n 1, 1) := by decide +kernel
theorem dX2_begin_16 : decode cX2_begin 16 = .ok (.getfield 39, 3) := by decide +kernel
theorem dX2_begin_19 : decode cX2_begin 19 = .ok (.iconst 0, 1) := by decide +kernel
theorem dX2_begin_20 : decode cX2_begin 20 = .ok (.aload_n 0, 1) := by decide +kernel
theorem dX2_begin_21 : decode cX2_begin 21 = .ok (.getfield 24, 3) := by decide +kernel
theorem dX2_begin_24 : decode cX2_begin 24 = .ok (.iconst 0, 1) := by decide +kernel
theorem dX2_begin_25 : decode cX2_begin 25 = .ok (.bipush 6, 2) := by decide +kernel
theorem dX2_begin_27 : decode cX2_begin 27 = .ok (.invokestatic 42, 3) := by decide +kernel
theorem dX2_begin_30 : decode cX2_begin 30 = .ok (.aload_n 1, 1) := by decide +kernel
theorem dX2_begin_31 : decode cX2_begin 31 = .ok (.getfield 48, 3) := by decide +kernel
theorem dX2_begin_34 : decode cX2_begin 34 = .ok (.iconst 0, 1) := by decide +kernel
theorem dX2_begin_35 : decode cX2_begin 35 = .ok (.aload_n 0, 1) := by decide +kernel
theorem dX2_begin_36 : decode cX2_begin 36 = .ok (.getfield 31, 3) := by decide +kernel
theorem dX2_begin_39 : decode cX2_begin 39 = .ok (.iconst 0, 1) := by decide +kernel
theorem dX2_begin_40 : decode cX2_begin 40 = .ok (.bipush 6, 2) := by decide +kernel
theorem dX2_begin_42 : decode cX2_begin 42 = .ok (.invokestatic 42, 3) := by decide +kernel
theorem dX2_begin_45 : decode cX2_begin 45 = .ok (.aload_n 0, 1) := by decide +kernel
theorem dX2_begin_46 : decode cX2_begin 46 = .ok (.getfield 28, 3) := by decide +kernel
theorem dX2_begin_49 : decode cX2_begin 49 = .ok (.iconst (-1), 1) := by decide +kernel
theorem dX2_begin_50 : decode cX2_begin 50 = .ok (.invokestatic 51, 3) := by decide +kernel
theorem dX2_begin_53 : decode cX2_begin 53 = .ok (.aload_n 0, 1) := by decide +kernel
theorem dX2_begin_54 : decode cX2_begin 54 = .ok (.invokevirtual 57, 3) := by decide +kernel
theorem dX2_begin_57 : decode cX2_begin 57 = .ok (.return_, 1) := by decide +kernel
theorem dX2_copyFrom_0 : decode cX2_copyFrom 0 = .ok (.aload_n 0, 1) := by decide +kernel
theorem dX2_copyFrom_1 : decode cX2_copyFrom 1 = .ok (.aload_n 1, 1) := by decide +kernel
theorem dX2_copyFrom_2 : decode cX2_copyFrom 2 = .ok (.getfield 9, 3) := by decide +kernel
theorem dX2_copyFrom_5 : decode cX2_copyFrom 5 = .ok (.putfield 9, 3) := by decide +kernel
theorem dX2_copyFrom_8 : decode cX2_copyFrom 8 = .ok (.aload_n 0, 1) := by decide +kernel
theorem dX2_copyFrom_9 : decode cX2_copyFrom 9 = .ok (.aload_n 1, 1) := by decide +kernel
theorem dX2_copyFrom_10 : decode cX2_copyFrom 10 = .ok (.getfield 15, 3) := by decide +kernel
theorem dX2_copyFrom_13 : decode cX2_copyFrom 13 = .ok (.putfield 15, 3) := by decide +kernel
theorem dX2_copyFrom_16 : decode cX2_copyFrom 16 = .ok (.aload_n 0, 1) := by decide +kernel
theorem dX2_copyFrom_17 : decode cX2_copyFrom 17 = .ok (.aload_n 1, 1) := by decide +kernel
theorem dX2_copyFrom_18 : decode cX2_copyFrom 18 = .ok (.getfield 18, 3) := by decide +kernel
theorem dX2_copyFrom_21 : decode cX2_copyFrom 21 = .ok (.putfield 18, 3) := by decide +kernel
theorem dX2_copyFrom_24 : decode cX2_copyFrom 24 = .ok (.aload_n 0, 1) := by decide +kernel
theorem dX2_copyFrom_25 : decode cX2_copyFrom 25 = .ok (.aload_n 1, 1) := by decide +kernel
theorem dX2_copyFrom_26 : decode cX2_copyFrom 26 = .ok (.getfield 21, 3) := by decide +kernel
theorem dX2_copyFrom_29 : decode cX2_copyFrom 29 = .ok (.putfield 21, 3) := by decide +kernel
theorem dX2_copyFrom_32 : decode cX2_copyFrom 32 = .ok (.aload_n 1, 1) := by decide +kernel
theorem dX2_copyFrom_33 : decode cX2_copyFrom 33 = .ok (.getfield 24, 3) := by decide +kernel
theorem dX2_copyFrom_36 : decode cX2_copyFrom 36 = .ok (.iconst 0, 1) := by decide +kernel
theorem dX2_copyFrom_37 : decode cX2_copyFrom 37 = .ok (.aload_n 0, 1) := by decide +kernel
theorem dX2_copyFrom_38 : decode cX2_copyFrom 38 = .ok (.getfield 24, 3) := by decide +kernel
theorem dX2_copyFrom_41 : decode cX2_copyFrom 41 = .ok (.iconst 0, 1) := by decide +kernel
theorem dX2_copyFrom_42 : decode cX2_copyFrom 42 = .ok (.bipush 6, 2) := by decide +kernel
theorem dX2_copyFrom_44 : decode cX2_copyFrom 44 = .ok (.invokestatic 42, 3) := by decide +kernel
theorem dX2_copyFrom_47 : decode cX2_copyFrom 47 = .ok (.aload_n 1, 1) := by decide +kernel
theorem dX2_copyFrom_48 : decode cX2_copyFrom 48 = .ok (.getfield 28, 3) := by decide +kernel
theorem dX2_copyFrom_51 : decode cX2_copyFrom 51 = .ok (.iconst 0, 1) := by decide +kernel
theorem dX2_copyFrom_52 : decode cX2_copyFrom 52 = .ok (.aload_n 0, 1) := by decide +kernel
theorem dX2_copyFrom_53 : decode cX2_copyFrom 53 = .ok (.getfield 28, 3) := by decide +kernel
theorem dX2_copyFrom_56 : decode cX2_copyFrom 56 = .ok (.iconst 0, 1) := by decide +kernel
theorem dX2_copyFrom_57 : decode cX2_copyFrom 57 = .ok (.bipush 6, 2) := by decide +kernel
theorem dX2_copyFrom_59 : decode cX2_copyFrom 59 = .ok (.invokestatic 42, 3) := by decide +kernel
theorem dX2_copyFrom_62 : decode cX2_copyFrom 62 = .ok (.aload_n 1, 1) := by decide +kernel
theorem dX2_copyFrom_63 : decode cX2_copyFrom 63 = .ok (.getfield 31, 3) := by decide +kernel
theorem dX2_copyFrom_66 : decode cX2_copyFrom 66 = .ok (.iconst 0, 1) := by decide +kernel
theorem dX2_copyFrom_67 : decode cX2_copyFrom 67 = .ok (.aload_n 0, 1) := by decide +kernel
theorem dX2_copyFrom_68 : decode cX2_copyFrom 68 = .ok (.getfield 31, 3) := by decide +kernel
theorem dX2_copyFrom_71 : decode cX2_copyFrom 71 = .ok (.iconst 0, 1) := by decide +kernel
theorem dX2_copyFrom_72 : decode cX2_copyFrom 72 = .ok (.bipush 6, 2) := by decide +kernel
theorem dX2_copyFrom_74 : decode cX2_copyFrom 74 = .ok (.invokestatic 42, 3) := by decide +kernel
theorem dX2_copyFrom_77 : decode cX2_copyFrom 77 = .ok (.iconst 0, 1) := by decide +kernel
theorem dX2_copyFrom_78 : decode cX2_copyFrom 78 = .ok (.istore_n 2, 1) := by decide +kernel
theorem dX2_copyFrom_79 : decode cX2_copyFrom 79 = .ok (.iload_n 2, 1) := by decide +kernel
theorem dX2_copyFrom_80 : decode cX2_copyFrom 80 = .ok (.iconst 4, 1) := by decide +kernel
theorem dX2_copyFrom_81 : decode cX2_copyFrom 81 = .ok (.if_icmp .ge 28, 3) := by decide +kernel
theorem dX2_copyFrom_84 : decode cX2_copyFrom 84 = .ok (.aload_n 1, 1) := by decide +kernel
theorem dX2_copyFrom_85 : decode cX2_copyFrom 85 = .ok (.getfield 36, 3) := by decide +kernel
theorem dX2_copyFrom_88 : decode cX2_copyFrom 88 = .ok (.iload_n 2, 1) := by decide +kernel
theorem dX2_copyFrom_89 : decode cX2_copyFrom 89 = .ok (.aaload, 1) := by decide +kernel
theorem dX2_copyFrom_90 : decode cX2_copyFrom 90 = .ok (.iconst 0, 1) := by decide +kernel
theorem dX2_copyFrom_91 : decode cX2_copyFrom 91 = .ok (.aload_n 0, 1) := by decide +kernel
theorem dX2_copyFrom_92 : decode cX2_copyFrom 92 = .ok (.getfield 36, 3) := by decide +kernel
theorem dX2_copyFrom_95 : decode cX2_copyFrom 95 = .ok (.iload_n 2, 1) := by decide +kernel
theorem dX2_copyFrom_96 : decode cX2_copyFrom 96 = .ok (.aaload, 1) := by decide +kernel
theorem dX2_copyFrom_97 : decode cX2_copyFrom 97 = .ok (.iconst 0, 1) := by decide +kernel
theorem dX2_copyFrom_98 : decode cX2_copyFrom 98 = .ok (.bipush 6, 2) := by decide +kernel
theorem dX2_copyFrom_100 : decode cX2_copyFrom 100 = .ok (.invokestatic 42, 3) := by decide +kernel
theorem dX2_copyFrom_103 : decode cX2_copyFrom 103 = .ok (.iinc 2 1, 3) := by decide +kernel
theorem dX2_copyFrom_106 : decode cX2_copyFrom 106 = .ok (.goto (-27), 3) := by decide +kernel
theorem dX2_copyFrom_109 : decode cX2_copyFrom 109 = .ok (.return_, 1) := by decide +kernel
theorem dX2_clearNight_0 : decode cX2_clearNight 0 = .ok (.aload_n 0, 1) := by decide +kernel
theorem dX2_clearNight_1 : decode cX2_clearNight 1 = .ok (.iconst 0, 1) := by decide +kernel
theorem dX2_clearNight_2 : decode cX2_clearNight 2 = .ok (.putfield 21, 3) := by decide +kernel
theorem dX2_clearNight_5 : decode cX2_clearNight 5 = .ok (.iconst 0, 1) := by decide +kernel
theorem dX2_clearNight_6 : decode cX2_clearNight 6 = .ok (.istore_n 1, 1) := by decide +kernel
theorem dX2_clearNight_7 : decode cX2_clearNight 7 = .ok (.iload_n 1, 1) := by decide +kernel
theorem dX2_clearNight_8 : decode cX2_clearNight 8 = .ok (.iconst 4, 1) := by decide +kernel
theorem dX2_clearNight_9 : decode cX2_clearNight 9 = .ok (.if_icmp .ge 19, 3) := by decide +kernel
theorem dX2_clearNight_12 : decode cX2_clearNight 12 = .ok (.aload_n 0, 1) := by decide +kernel
theorem dX2_clearNight_13 : decode cX2_clearNight 13 = .ok (.getfield 36, 3) := by decide +kernel
theorem dX2_clearNight_16 : decode cX2_clearNight 16 = .ok (.iload_n 1, 1) := by decide +kernel
theorem dX2_clearNight_17 : decode cX2_clearNight 17 = .ok (.aaload, 1) := by decide +kernel
theorem dX2_clearNight_18 : decode cX2_clearNight 18 = .ok (.iconst (-1), 1) := by decide +kernel
theorem dX2_clearNight_19 : decode cX2_clearNight 19 = .ok (.invokestatic 51, 3) := by decide +kernel
theorem dX2_clearNight_22 : decode cX2_clearNight 22 = .ok (.iinc 1 1, 3) := by decide +kernel
theorem dX2_clearNight_25 : decode cX2_clearNight 25 = .ok (.goto (-18), 3) := by decide +kernel
theorem dX2_clearNight_28 : decode cX2_clearNight 28 = .ok (.return_, 1) := by decide +kernel
theorem dX2_passHour_0 : decode cX2_passHour 0 = .ok (.aload_n 0, 1) := by decide +kernel
theorem dX2_passHour_1 : decode cX2_passHour 1 = .ok (.dup, 1) := by decide +kernel
theorem dX2_passHour_2 : decode cX2_passHour 2 = .ok (.getfield 9, 3) := by decide +kernel
theorem dX2_passHour_5 : decode cX2_passHour 5 = .ok (.iconst 1, 1) := by decide +kernel
theorem dX2_passHour_6 : decode cX2_passHour 6 = .ok (.iadd, 1) := by decide +kernel
theorem dX2_passHour_7 : decode cX2_passHour 7 = .ok (.putfield 9, 3) := by decide +kernel
theorem dX2_passHour_10 : decode cX2_passHour 10 = .ok (.aload_n 0, 1) := by decide +kernel
theorem dX2_passHour_11 : decode cX2_passHour 11 = .ok (.getfield 9, 3) := by decide +kernel
theorem dX2_passHour_14 : decode cX2_passHour 14 = .ok (.aload_n 1, 1) := by decide +kernel
theorem dX2_passHour_15 : decode cX2_passHour 15 = .ok (.getfield 60, 3) := by decide +kernel
theorem dX2_passHour_18 : decode cX2_passHour 18 = .ok (.if_icmp .ge 4, 3) := by decide +kernel
theorem dX2_passHour_21 : decode cX2_passHour 21 = .ok (.return_, 1) := by decide +kernel
theorem dX2_passHour_22 : decode cX2_passHour 22 = .ok (.iconst 0, 1) := by decide +kernel
theorem dX2_passHour_23 : decode cX2_passHour 23 = .ok (.istore_n 2, 1) := by decide +kernel
theorem dX2_passHour_24 : decode cX2_passHour 24 = .ok (.iload_n 2, 1) := by decide +kernel
theorem dX2_passHour_25 : decode cX2_passHour 25 = .ok (.aload_n 1, 1) := by decide +kernel
theorem dX2_passHour_26 : decode cX2_passHour 26 = .ok (.getfield 63, 3) := by decide +kernel
theorem dX2_passHour_29 : decode cX2_passHour 29 = .ok (.if_icmp .ge 21, 3) := by decide +kernel
theorem dX2_passHour_32 : decode cX2_passHour 32 = .ok (.aload_n 0, 1) := by decide +kernel
theorem dX2_passHour_33 : decode cX2_passHour 33 = .ok (.getfield 28, 3) := by decide +kernel
theorem dX2_passHour_36 : decode cX2_passHour 36 = .ok (.iload_n 2, 1) := by decide +kernel
theorem dX2_passHour_37 : decode cX2_passHour 37 = .ok (.aload_n 0, 1) := by decide +kernel
theorem dX2_passHour_38 : decode cX2_passHour 38 = .ok (.iload_n 2, 1) := by decide +kernel
theorem dX2_passHour_39 : decode cX2_passHour 39 = .ok (.iconst 0, 1) := by decide +kernel
theorem dX2_passHour_40 : decode cX2_passHour 40 = .ok (.invokevirtual 66, 3) := by decide +kernel
theorem dX2_passHour_43 : decode cX2_passHour 43 = .ok (.iastore, 1) := by decide +kernel
theorem dX2_passHour_44 : decode cX2_passHour 44 = .ok (.iinc 2 1, 3) := by decide +kernel
theorem dX2_passHour_47 : decode cX2_passHour 47 = .ok (.goto (-23), 3) := by decide +kernel
theorem dX2_passHour_50 : decode cX2_passHour 50 = .ok (.aload_n 0, 1) := by decide +kernel
theorem dX2_passHour_51 : decode cX2_passHour 51 = .ok (.invokevirtual 57, 3) := by decide +kernel
theorem dX2_passHour_54 : decode cX2_passHour 54 = .ok (.aload_n 0, 1) := by decide +kernel
theorem dX2_passHour_55 : decode cX2_passHour 55 = .ok (.iconst 0, 1) := by decide +kernel
theorem dX2_passHour_56 : decode cX2_passHour 56 = .ok (.putfield 9, 3) := by decide +kernel
theorem dX2_passHour_59 : decode cX2_passHour 59 = .ok (.aload_n 0, 1) := by decide +kernel
theorem dX2_passHour_60 : decode cX2_passHour 60 = .ok (.dup, 1) := by decide +kernel
theorem dX2_passHour_61 : decode cX2_passHour 61 = .ok (.getfield 15, 3) := by decide +kernel
theorem dX2_passHour_64 : decode cX2_passHour 64 = .ok (.iconst 1, 1) := by decide +kernel
theorem dX2_passHour_65 : decode cX2_passHour 65 = .ok (.iadd, 1) := by decide +kernel
theorem dX2_passHour_66 : decode cX2_passHour 66 = .ok (.putfield 15, 3) := by decide +kernel
theorem dX2_passHour_69 : decode cX2_passHour 69 = .ok (.return_, 1) := by decide +kernel
theorem dX2_isOut_0 : decode cX2_isOut 0 = .ok (.aload_n 0, 1) := by decide +kernel
theorem dX2_isOut_1 : decode cX2_isOut 1 = .ok (.getfield 21, 3) := by decide +kernel
theorem dX2_isOut_4 : decode cX2_isOut 4 = .ok (.iload_n 1, 1) := by decide +kernel
theorem dX2_isOut_5 : decode cX2_isOut 5 = .ok (.ishr, 1) := by decide +kernel
theorem dX2_isOut_6 : decode cX2_isOut 6 = .ok (.iconst 1, 1) := by decide +kernel
theorem dX2_isOut_7 : decode cX2_isOut 7 = .ok (.iand, 1) := by decide +kernel
theorem dX2_isOut_8 : decode cX2_isOut 8 = .ok (.ifCond .eq 7, 3) := by decide +kernel
theorem dX2_isOut_11 : decode cX2_isOut 11 = .ok (.iconst 1, 1) := by decide +kernel
theorem dX2_isOut_12 : decode cX2_isOut 12 = .ok (.goto 4, 3) := by decide +kernel
theorem dX2_isOut_15 : decode cX2_isOut 15 = .ok (.iconst 0, 1) := by decide +kernel
theorem dX2_isOut_16 : decode cX2_isOut 16 = .ok (.ireturn, 1) := by decide +kernel
theorem dX2_putOut_0 : decode cX2_putOut 0 = .ok (.aload_n 0, 1) := by decide +kernel
theorem dX2_putOut_1 : decode cX2_putOut 1 = .ok (.dup, 1) := by decide +kernel
theorem dX2_putOut_2 : decode cX2_putOut 2 = .ok (.getfield 21, 3) := by decide +kernel
theorem dX2_putOut_5 : decode cX2_putOut 5 = .ok (.iconst 1, 1) := by decide +kernel
theorem dX2_putOut_6 : decode cX2_putOut 6 = .ok (.iload_n 1, 1) := by decide +kernel
theorem dX2_putOut_7 : decode cX2_putOut 7 = .ok (.ishl, 1) := by decide +kernel
theorem dX2_putOut_8 : decode cX2_putOut 8 = .ok (.ior, 1) := by decide +kernel
theorem dX2_putOut_9 : decode cX2_putOut 9 = .ok (.putfield 21, 3) := by decide +kernel
theorem dX2_putOut_12 : decode cX2_putOut 12 = .ok (.return_, 1) := by decide +kernel
theorem dX2_lightAgain_0 : decode cX2_lightAgain 0 = .ok (.aload_n 0, 1) := by decide +kernel
theorem dX2_lightAgain_1 : decode cX2_lightAgain 1 = .ok (.dup, 1) := by decide +kernel
theorem dX2_lightAgain_2 : decode cX2_lightAgain 2 = .ok (.getfield 21, 3) := by decide +kernel
theorem dX2_lightAgain_5 : decode cX2_lightAgain 5 = .ok (.iconst 1, 1) := by decide +kernel
theorem dX2_lightAgain_6 : decode cX2_lightAgain 6 = .ok (.iload_n 1, 1) := by decide +kernel
theorem dX2_lightAgain_7 : decode cX2_lightAgain 7 = .ok (.ishl, 1) := by decide +kernel
theorem dX2_lightAgain_8 : decode cX2_lightAgain 8 = .ok (.iconst (-1), 1) := by decide +kernel
theorem dX2_lightAgain_9 : decode cX2_lightAgain 9 = .ok (.ixor, 1) := by decide +kernel
theorem dX2_lightAgain_10 : decode cX2_lightAgain 10 = .ok (.iand, 1) := by decide +kernel
theorem dX2_lightAgain_11 : decode cX2_lightAgain 11 = .ok (.putfield 21, 3) := by decide +kernel
theorem dX2_lightAgain_14 : decode cX2_lightAgain 14 = .ok (.return_, 1) := by decide +kernel
theorem dX2_isLitAt_0 : decode cX2_isLitAt 0 = .ok (.iload_n 2, 1) := by decide +kernel
theorem dX2_isLitAt_1 : decode cX2_isLitAt 1 = .ok (.aload_n 0, 1) := by decide +kernel
theorem dX2_isLitAt_2 : decode cX2_isLitAt 2 = .ok (.getfield 24, 3) := by decide +kernel
theorem dX2_isLitAt_5 : decode cX2_isLitAt 5 = .ok (.iload_n 1, 1) := by decide +kernel
theorem dX2_isLitAt_6 : decode cX2_isLitAt 6 = .ok (.iaload, 1) := by decide +kernel
theorem dX2_isLitAt_7 : decode cX2_isLitAt 7 = .ok (.if_icmp .ge 15, 3) := by decide +kernel
theorem dX2_isLitAt_10 : decode cX2_isLitAt 10 = .ok (.aload_n 0, 1) := by decide +kernel
theorem dX2_isLitAt_11 : decode cX2_isLitAt 11 = .ok (.iload_n 1, 1) := by decide +kernel
theorem dX2_isLitAt_12 : decode cX2_isLitAt 12 = .ok (.invokevirtual 70, 3) := by decide +kernel
theorem dX2_isLitAt_15 : decode cX2_isLitAt 15 = .ok (.ifCond .ne 7, 3) := by decide +kernel
theorem dX2_isLitAt_18 : decode cX2_isLitAt 18 = .ok (.iconst 1, 1) := by decide +kernel
theorem dX2_isLitAt_19 : decode cX2_isLitAt 19 = .ok (.goto 4, 3) := by decide +kernel
theorem dX2_isLitAt_22 : decode cX2_isLitAt 22 = .ok (.iconst 0, 1) := by decide +kernel
theorem dX2_isLitAt_23 : decode cX2_isLitAt 23 = .ok (.ireturn, 1) := by decide +kernel
theorem dX2_litAt_0 : decode cX2_litAt 0 = .ok (.iconst 0, 1) := by decide +kernel
theorem dX2_litAt_1 : decode cX2_litAt 1 = .ok (.istore_n 3, 1) := by decide +kernel
theorem dX2_litAt_2 : decode cX2_litAt 2 = .ok (.iconst 0, 1) := by decide +kernel
theorem dX2_litAt_3 : decode cX2_litAt 3 = .ok (.istore 4, 2) := by decide +kernel
theorem dX2_litAt_5 : decode cX2_litAt 5 = .ok (.iload 4, 2) := by decide +kernel
theorem dX2_litAt_7 : decode cX2_litAt 7 = .ok (.aload_n 1, 1) := by decide +kernel
theorem dX2_litAt_8 : decode cX2_litAt 8 = .ok (.getfield 63, 3) := by decide +kernel
theorem dX2_litAt_11 : decode cX2_litAt 11 = .ok (.if_icmp .ge 26, 3) := by decide +kernel
theorem dX2_litAt_14 : decode cX2_litAt 14 = .ok (.aload_n 0, 1) := by decide +kernel
theorem dX2_litAt_15 : decode cX2_litAt 15 = .ok (.iload 4, 2) := by decide +kernel
theorem dX2_litAt_17 : decode cX2_litAt 17 = .ok (.iload_n 2, 1) := by decide +kernel
theorem dX2_litAt_18 : decode cX2_litAt 18 = .ok (.invokevirtual 74, 3) := by decide +kernel
theorem dX2_litAt_21 : decode cX2_litAt 21 = .ok (.ifCond .eq 10, 3) := by decide +kernel
theorem dX2_litAt_24 : decode cX2_litAt 24 = .ok (.iload_n 3, 1) := by decide +kernel
theorem dX2_litAt_25 : decode cX2_litAt 25 = .ok (.iconst 1, 1) := by decide +kernel
theorem dX2_litAt_26 : decode cX2_litAt 26 = .ok (.iload 4, 2) := by decide +kernel
theorem dX2_litAt_28 : decode cX2_litAt 28 = .ok (.ishl, 1) := by decide +kernel
theorem dX2_litAt_29 : decode cX2_litAt 29 = .ok (.ior, 1) := by decide +kernel
theorem dX2_litAt_30 : decode cX2_litAt 30 = .ok (.istore_n 3, 1) := by decide +kernel
theorem dX2_litAt_31 : decode cX2_litAt 31 = .ok (.iinc 4 1, 3) := by decide +kernel
theorem dX2_litAt_34 : decode cX2_litAt 34 = .ok (.goto (-29), 3) := by decide +kernel
theorem dX2_litAt_37 : decode cX2_litAt 37 = .ok (.iload_n 3, 1) := by decide +kernel
theorem dX2_litAt_38 : decode cX2_litAt 38 = .ok (.ireturn, 1) := by decide +kernel
theorem dX2_hears_0 : decode cX2_hears 0 = .ok (.aload_n 1, 1) := by decide +kernel
theorem dX2_hears_1 : decode cX2_hears 1 = .ok (.iload_n 2, 1) := by decide +kernel
theorem dX2_hears_2 : decode cX2_hears 2 = .ok (.aload_n 0, 1) := by decide +kernel
theorem dX2_hears_3 : decode cX2_hears 3 = .ok (.getfield 31, 3) := by decide +kernel
theorem dX2_hears_6 : decode cX2_hears 6 = .ok (.iload_n 2, 1) := by decide +kernel
theorem dX2_hears_7 : decode cX2_hears 7 = .ok (.iaload, 1) := by decide +kernel
theorem dX2_hears_8 : decode cX2_hears 8 = .ok (.invokevirtual 78, 3) := by decide +kernel
theorem dX2_hears_11 : decode cX2_hears 11 = .ok (.ireturn, 1) := by decide +kernel
theorem dX2_reached_0 : decode cX2_reached 0 = .ok (.aload_n 1, 1) := by decide +kernel
theorem dX2_reached_1 : decode cX2_reached 1 = .ok (.getfield 81, 3) := by decide +kernel
theorem dX2_reached_4 : decode cX2_reached 4 = .ok (.iload_n 2, 1) := by decide +kernel
theorem dX2_reached_5 : decode cX2_reached 5 = .ok (.iaload, 1) := by decide +kernel
theorem dX2_reached_6 : decode cX2_reached 6 = .ok (.istore 6, 2) := by decide +kernel
theorem dX2_reached_8 : decode cX2_reached 8 = .ok (.aload_n 1, 1) := by decide +kernel
theorem dX2_reached_9 : decode cX2_reached 9 = .ok (.iload 4, 2) := by decide +kernel
theorem dX2_reached_11 : decode cX2_reached 11 = .ok (.invokevirtual 84, 3) := by decide +kernel
theorem dX2_reached_14 : decode cX2_reached 14 = .ok (.ifCond .eq 17, 3) := by decide +kernel
theorem dX2_reached_17 : decode cX2_reached 17 = .ok (.iload 6, 2) := by decide +kernel
theorem dX2_reached_19 : decode cX2_reached 19 = .ok (.iconst 1, 1) := by decide +kernel
theorem dX2_reached_20 : decode cX2_reached 20 = .ok (.if_icmp .eq 9, 3) := by decide +kernel
theorem dX2_reached_23 : decode cX2_reached 23 = .ok (.iload 5, 2) := by decide +kernel
theorem dX2_reached_25 : decode cX2_reached 25 = .ok (.iconst 2, 1) := by decide +kernel
theorem dX2_reached_26 : decode cX2_reached 26 = .ok (.if_icmp .ne 5, 3) := by decide +kernel
theorem dX2_reached_29 : decode cX2_reached 29 = .ok (.iconst 0, 1) := by decide +kernel
theorem dX2_reached_30 : decode cX2_reached 30 = .ok (.ireturn, 1) := by decide +kernel
theorem dX2_reached_31 : decode cX2_reached 31 = .ok (.iload 6, 2) := by decide +kernel
theorem dX2_reached_33 : decode cX2_reached 33 = .ok (.iconst 3, 1) := by decide +kernel
theorem dX2_reached_34 : decode cX2_reached 34 = .ok (.if_icmp .ne 7, 3) := by decide +kernel
theorem dX2_reached_37 : decode cX2_reached 37 = .ok (.iconst 1, 1) := by decide +kernel
theorem dX2_reached_38 : decode cX2_reached 38 = .ok (.iload_n 3, 1) := by decide +kernel
theorem dX2_reached_39 : decode cX2_reached 39 = .ok (.ishl, 1) := by decide +kernel
theorem dX2_reached_40 : decode cX2_reached 40 = .ok (.ireturn, 1) := by decide +kernel
theorem dX2_reached_41 : decode cX2_reached 41 = .ok (.iload 6, 2) := by decide +kernel
theorem dX2_reached_43 : decode cX2_reached 43 = .ok (.iconst 4, 1) := by decide +kernel
theorem dX2_reached_44 : decode cX2_reached 44 = .ok (.if_icmp .ne 34, 3) := by decide +kernel
theorem dX2_reached_47 : decode cX2_reached 47 = .ok (.aload_n 0, 1) := by decide +kernel
theorem dX2_reached_48 : decode cX2_reached 48 = .ok (.iload_n 3, 1) := by decide +kernel
theorem dX2_reached_49 : decode cX2_reached 49 = .ok (.iload 4, 2) := by decide +kernel
theorem dX2_reached_51 : decode cX2_reached 51 = .ok (.invokevirtual 74, 3) := by decide +kernel
theorem dX2_reached_54 : decode cX2_reached 54 = .ok (.ifCond .eq 22, 3) := by decide +kernel
theorem dX2_reached_57 : decode cX2_reached 57 = .ok (.aload_n 0, 1) := by decide +kernel
theorem dX2_reached_58 : decode cX2_reached 58 = .ok (.getfield 36, 3) := by decide +kernel
theorem dX2_reached_61 : decode cX2_reached 61 = .ok (.iload 5, 2) := by decide +kernel
theorem dX2_reached_63 : decode cX2_reached 63 = .ok (.aaload, 1) := by decide +kernel
theorem dX2_reached_64 : decode cX2_reached 64 = .ok (.iload_n 3, 1) := by decide +kernel
theorem dX2_reached_65 : decode cX2_reached 65 = .ok (.iaload, 1) := by decide +kernel
theorem dX2_reached_66 : decode cX2_reached 66 = .ok (.iconst (-1), 1) := by decide +kernel
theorem dX2_reached_67 : decode cX2_reached 67 = .ok (.if_icmp .eq 9, 3) := by decide +kernel
theorem dX2_reached_70 : decode cX2_reached 70 = .ok (.iconst 1, 1) := by decide +kernel
theorem dX2_reached_71 : decode cX2_reached 71 = .ok (.iload_n 3, 1) := by decide +kernel
theorem dX2_reached_72 : decode cX2_reached 72 = .ok (.ishl, 1) := by decide +kernel
theorem dX2_reached_73 : decode cX2_reached 73 = .ok (.goto 4, 3) := by decide +kernel
theorem dX2_reached_76 : decode cX2_reached 76 = .ok (.iconst 0, 1) := by decide +kernel
theorem dX2_reached_77 : decode cX2_reached 77 = .ok (.ireturn, 1) := by decide +kernel
theorem dX2_reached_78 : decode cX2_reached 78 = .ok (.iload 5, 2) := by decide +kernel
theorem dX2_reached_80 : decode cX2_reached 80 = .ok (.iconst 1, 1) := by decide +kernel
theorem dX2_reached_81 : decode cX2_reached 81 = .ok (.if_icmp .ne 9, 3) := by decide +kernel
theorem dX2_reached_84 : decode cX2_reached 84 = .ok (.iconst 1, 1) := by decide +kernel
theorem dX2_reached_85 : decode cX2_reached 85 = .ok (.iload_n 3, 1) := by decide +kernel
theorem dX2_reached_86 : decode cX2_reached 86 = .ok (.ishl, 1) := by decide +kernel
theorem dX2_reached_87 : decode cX2_reached 87 = .ok (.goto 9, 3) := by decide +kernel
theorem dX2_reached_90 : decode cX2_reached 90 = .ok (.aload_n 1, 1) := by decide +kernel
theorem dX2_reached_91 : decode cX2_reached 91 = .ok (.iload_n 2, 1) := by decide +kernel
theorem dX2_reached_92 : decode cX2_reached 92 = .ok (.iload_n 3, 1) := by decide +kernel
theorem dX2_reached_93 : decode cX2_reached 93 = .ok (.invokevirtual 78, 3) := by decide +kernel
theorem dX2_reached_96 : decode cX2_reached 96 = .ok (.istore 7, 2) := by decide +kernel
theorem dX2_reached_98 : decode cX2_reached 98 = .ok (.iload 7, 2) := by decide +kernel
theorem dX2_reached_100 : decode cX2_reached 100 = .ok (.aload_n 0, 1) := by decide +kernel
theorem dX2_reached_101 : decode cX2_reached 101 = .ok (.aload_n 1, 1) := by decide +kernel
theorem dX2_reached_102 : decode cX2_reached 102 = .ok (.iload 4, 2) := by decide +kernel
theorem dX2_reached_104 : decode cX2_reached 104 = .ok (.invokevirtual 87, 3) := by decide +kernel
theorem dX2_reached_107 : decode cX2_reached 107 = .ok (.iand, 1) := by decide +kernel
theorem dX2_reached_108 : decode cX2_reached 108 = .ok (.ireturn, 1) := by decide +kernel
theorem dX2_counts_0 : decode cX2_counts 0 = .ok (.aload_n 0, 1) := by decide +kernel
theorem dX2_counts_1 : decode cX2_counts 1 = .ok (.aload_n 1, 1) := by decide +kernel
theorem dX2_counts_2 : decode cX2_counts 2 = .ok (.iload_n 2, 1) := by decide +kernel
theorem dX2_counts_3 : decode cX2_counts 3 = .ok (.aload_n 0, 1) := by decide +kernel
theorem dX2_counts_4 : decode cX2_counts 4 = .ok (.getfield 31, 3) := by decide +kernel
theorem dX2_counts_7 : decode cX2_counts 7 = .ok (.iload_n 2, 1) := by decide +kernel
theorem dX2_counts_8 : decode cX2_counts 8 = .ok (.iaload, 1) := by decide +kernel
theorem dX2_counts_9 : decode cX2_counts 9 = .ok (.aload_n 0, 1) := by decide +kernel
theorem dX2_counts_10 : decode cX2_counts 10 = .ok (.getfield 9, 3) := by decide +kernel
theorem dX2_counts_13 : decode cX2_counts 13 = .ok (.iconst 0, 1) := by decide +kernel
theorem dX2_counts_14 : decode cX2_counts 14 = .ok (.invokevirtual 91, 3) := by decide +kernel
theorem dX2_counts_17 : decode cX2_counts 17 = .ok (.istore_n 3, 1) := by decide +kernel
theorem dX2_counts_18 : decode cX2_counts 18 = .ok (.aload_n 1, 1) := by decide +kernel
theorem dX2_counts_19 : decode cX2_counts 19 = .ok (.iload_n 2, 1) := by decide +kernel
theorem dX2_counts_20 : decode cX2_counts 20 = .ok (.iconst 0, 1) := by decide +kernel
theorem dX2_counts_21 : decode cX2_counts 21 = .ok (.invokevirtual 95, 3) := by decide +kernel
theorem dX2_counts_24 : decode cX2_counts 24 = .ok (.istore 4, 2) := by decide +kernel
theorem dX2_counts_26 : decode cX2_counts 26 = .ok (.iconst 0, 1) := by decide +kernel
theorem dX2_counts_27 : decode cX2_counts 27 = .ok (.istore 5, 2) := by decide +kernel
theorem dX2_counts_29 : decode cX2_counts 29 = .ok (.iload 5, 2) := by decide +kernel
theorem dX2_counts_31 : decode cX2_counts 31 = .ok (.aload_n 1, 1) := by decide +kernel
theorem dX2_counts_32 : decode cX2_counts 32 = .ok (.getfield 63, 3) := by decide +kernel
theorem dX2_counts_35 : decode cX2_counts 35 = .ok (.if_icmp .ge 32, 3) := by decide +kernel
theorem dX2_counts_38 : decode cX2_counts 38 = .ok (.aload_n 0, 1) := by decide +kernel
theorem dX2_counts_39 : decode cX2_counts 39 = .ok (.getfield 36, 3) := by decide +kernel
theorem dX2_counts_42 : decode cX2_counts 42 = .ok (.iconst 0, 1) := by decide +kernel
theorem dX2_counts_43 : decode cX2_counts 43 = .ok (.aaload, 1) := by decide +kernel
theorem dX2_counts_44 : decode cX2_counts 44 = .ok (.iload 5, 2) := by decide +kernel
theorem dX2_counts_46 : decode cX2_counts 46 = .ok (.iaload, 1) := by decide +kernel
theorem dX2_counts_47 : decode cX2_counts 47 = .ok (.iload 4, 2) := by decide +kernel
theorem dX2_counts_49 : decode cX2_counts 49 = .ok (.if_icmp .ne 12, 3) := by decide +kernel
theorem dX2_counts_52 : decode cX2_counts 52 = .ok (.iload_n 3, 1) := by decide +kernel
theorem dX2_counts_53 : decode cX2_counts 53 = .ok (.iconst 1, 1) := by decide +kernel
theorem dX2_counts_54 : decode cX2_counts 54 = .ok (.iload 5, 2) := by decide +kernel
theorem dX2_counts_56 : decode cX2_counts 56 = .ok (.ishl, 1) := by decide +kernel
theorem dX2_counts_57 : decode cX2_counts 57 = .ok (.iconst (-1), 1) := by decide +kernel
theorem dX2_counts_58 : decode cX2_counts 58 = .ok (.ixor, 1) := by decide +kernel
theorem dX2_counts_59 : decode cX2_counts 59 = .ok (.iand, 1) := by decide +kernel
theorem dX2_counts_60 : decode cX2_counts 60 = .ok (.istore_n 3, 1) := by decide +kernel
theorem dX2_counts_61 : decode cX2_counts 61 = .ok (.iinc 5 1, 3) := by decide +kernel
theorem dX2_counts_64 : decode cX2_counts 64 = .ok (.goto (-35), 3) := by decide +kernel
theorem dX2_counts_67 : decode cX2_counts 67 = .ok (.iload_n 3, 1) := by decide +kernel
theorem dX2_counts_68 : decode cX2_counts 68 = .ok (.ireturn, 1) := by decide +kernel
theorem dX2_speak_0 : decode cX2_speak 0 = .ok (.iconst 0, 1) := by decide +kernel
theorem dX2_speak_1 : decode cX2_speak 1 = .ok (.istore_n 3, 1) := by decide +kernel
theorem dX2_speak_2 : decode cX2_speak 2 = .ok (.iload_n 3, 1) := by decide +kernel
theorem dX2_speak_3 : decode cX2_speak 3 = .ok (.iconst 4, 1) := by decide +kernel
theorem dX2_speak_4 : decode cX2_speak 4 = .ok (.if_icmp .ge 71, 3) := by decide +kernel
theorem dX2_speak_7 : decode cX2_speak 7 = .ok (.aload_n 0, 1) := by decide +kernel
theorem dX2_speak_8 : decode cX2_speak 8 = .ok (.aload_n 1, 1) := by decide +kernel
theorem dX2_speak_9 : decode cX2_speak 9 = .ok (.iload_n 2, 1) := by decide +kernel
theorem dX2_speak_10 : decode cX2_speak 10 = .ok (.aload_n 0, 1) := by decide +kernel
theorem dX2_speak_11 : decode cX2_speak 11 = .ok (.getfield 31, 3) := by decide +kernel
theorem dX2_speak_14 : decode cX2_speak 14 = .ok (.iload_n 2, 1) := by decide +kernel
theorem dX2_speak_15 : decode cX2_speak 15 = .ok (.iaload, 1) := by decide +kernel
theorem dX2_speak_16 : decode cX2_speak 16 = .ok (.aload_n 0, 1) := by decide +kernel
theorem dX2_speak_17 : decode cX2_speak 17 = .ok (.getfield 9, 3) := by decide +kernel
theorem dX2_speak_20 : decode cX2_speak 20 = .ok (.iload_n 3, 1) := by decide +kernel
theorem dX2_speak_21 : decode cX2_speak 21 = .ok (.invokevirtual 91, 3) := by decide +kernel
theorem dX2_speak_24 : decode cX2_speak 24 = .ok (.istore 4, 2) := by decide +kernel
theorem dX2_speak_26 : decode cX2_speak 26 = .ok (.iconst 0, 1) := by decide +kernel
theorem dX2_speak_27 : decode cX2_speak 27 = .ok (.istore 5, 2) := by decide +kernel
theorem dX2_speak_29 : decode cX2_speak 29 = .ok (.iload 5, 2) := by decide +kernel
theorem dX2_speak_31 : decode cX2_speak 31 = .ok (.aload_n 1, 1) := by decide +kernel
theorem dX2_speak_32 : decode cX2_speak 32 = .ok (.getfield 63, 3) := by decide +kernel
theorem dX2_speak_35 : decode cX2_speak 35 = .ok (.if_icmp .ge 34, 3) := by decide +kernel
theorem dX2_speak_38 : decode cX2_speak 38 = .ok (.iload 4, 2) := by decide +kernel
theorem dX2_speak_40 : decode cX2_speak 40 = .ok (.iload 5, 2) := by decide +kernel
theorem dX2_speak_42 : decode cX2_speak 42 = .ok (.ishr, 1) := by decide +kernel
theorem dX2_speak_43 : decode cX2_speak 43 = .ok (.iconst 1, 1) := by decide +kernel
theorem dX2_speak_44 : decode cX2_speak 44 = .ok (.iand, 1) := by decide +kernel
theorem dX2_speak_45 : decode cX2_speak 45 = .ok (.ifCond .eq 18, 3) := by decide +kernel
theorem dX2_speak_48 : decode cX2_speak 48 = .ok (.aload_n 0, 1) := by decide +kernel
theorem dX2_speak_49 : decode cX2_speak 49 = .ok (.getfield 36, 3) := by decide +kernel
theorem dX2_speak_52 : decode cX2_speak 52 = .ok (.iload_n 3, 1) := by decide +kernel
theorem dX2_speak_53 : decode cX2_speak 53 = .ok (.aaload, 1) := by decide +kernel
theorem dX2_speak_54 : decode cX2_speak 54 = .ok (.iload 5, 2) := by decide +kernel
theorem dX2_speak_56 : decode cX2_speak 56 = .ok (.aload_n 1, 1) := by decide +kernel
theorem dX2_speak_57 : decode cX2_speak 57 = .ok (.iload_n 2, 1) := by decide +kernel
theorem dX2_speak_58 : decode cX2_speak 58 = .ok (.iload_n 3, 1) := by decide +kernel
theorem dX2_speak_59 : decode cX2_speak 59 = .ok (.invokevirtual 95, 3) := by decide +kernel
theorem dX2_speak_62 : decode cX2_speak 62 = .ok (.iastore, 1) := by decide +kernel
theorem dX2_speak_63 : decode cX2_speak 63 = .ok (.iinc 5 1, 3) := by decide +kernel
theorem dX2_speak_66 : decode cX2_speak 66 = .ok (.goto (-37), 3) := by decide +kernel
theorem dX2_speak_69 : decode cX2_speak 69 = .ok (.iinc 3 1, 3) := by decide +kernel
theorem dX2_speak_72 : decode cX2_speak 72 = .ok (.goto (-70), 3) := by decide +kernel
theorem dX2_speak_75 : decode cX2_speak 75 = .ok (.aload_n 0, 1) := by decide +kernel
theorem dX2_speak_76 : decode cX2_speak 76 = .ok (.dup, 1) := by decide +kernel
theorem dX2_speak_77 : decode cX2_speak 77 = .ok (.getfield 18, 3) := by decide +kernel
theorem dX2_speak_80 : decode cX2_speak 80 = .ok (.iconst 1, 1) := by decide +kernel
theorem dX2_speak_81 : decode cX2_speak 81 = .ok (.iadd, 1) := by decide +kernel
theorem dX2_speak_82 : decode cX2_speak 82 = .ok (.putfield 18, 3) := by decide +kernel
theorem dX2_speak_85 : decode cX2_speak 85 = .ok (.return_, 1) := by decide +kernel
theorem dX2_will_0 : decode cX2_will 0 = .ok (.aload_n 0, 1) := by decide +kernel
theorem dX2_will_1 : decode cX2_will 1 = .ok (.getfield 36, 3) := by decide +kernel
theorem dX2_will_4 : decode cX2_will 4 = .ok (.iload_n 2, 1) := by decide +kernel
theorem dX2_will_5 : decode cX2_will 5 = .ok (.aaload, 1) := by decide +kernel
theorem dX2_will_6 : decode cX2_will 6 = .ok (.iload_n 1, 1) := by decide +kernel
theorem dX2_will_7 : decode cX2_will 7 = .ok (.iaload, 1) := by decide +kernel
theorem dX2_will_8 : decode cX2_will 8 = .ok (.iconst (-1), 1) := by decide +kernel
theorem dX2_will_9 : decode cX2_will 9 = .ok (.if_icmp .eq 14, 3) := by decide +kernel
theorem dX2_will_12 : decode cX2_will 12 = .ok (.aload_n 0, 1) := by decide +kernel
theorem dX2_will_13 : decode cX2_will 13 = .ok (.getfield 36, 3) := by decide +kernel
theorem dX2_will_16 : decode cX2_will 16 = .ok (.iload_n 2, 1) := by decide +kernel
theorem dX2_will_17 : decode cX2_will 17 = .ok (.aaload, 1) := by decide +kernel
theorem dX2_will_18 : decode cX2_will 18 = .ok (.iload_n 1, 1) := by decide +kernel
theorem dX2_will_19 : decode cX2_will 19 = .ok (.iaload, 1) := by decide +kernel
theorem dX2_will_20 : decode cX2_will 20 = .ok (.goto 9, 3) := by decide +kernel
theorem dX2_will_23 : decode cX2_will 23 = .ok (.aload_n 0, 1) := by decide +kernel
theorem dX2_will_24 : decode cX2_will 24 = .ok (.getfield 28, 3) := by decide +kernel
theorem dX2_will_27 : decode cX2_will 27 = .ok (.iload_n 1, 1) := by decide +kernel
theorem dX2_will_28 : decode cX2_will 28 = .ok (.iaload, 1) := by decide +kernel
theorem dX2_will_29 : decode cX2_will 29 = .ok (.ireturn, 1) := by decide +kernel
theorem dX2_sure_0 : decode cX2_sure 0 = .ok (.iconst 0, 1) := by decide +kernel
theorem dX2_sure_1 : decode cX2_sure 1 = .ok (.istore_n 2, 1) := by decide +kernel
theorem dX2_sure_2 : decode cX2_sure 2 = .ok (.iconst 0, 1) := by decide +kernel
theorem dX2_sure_3 : decode cX2_sure 3 = .ok (.istore_n 3, 1) := by decide +kernel
theorem dX2_sure_4 : decode cX2_sure 4 = .ok (.iload_n 3, 1) := by decide +kernel
theorem dX2_sure_5 : decode cX2_sure 5 = .ok (.aload_n 1, 1) := by decide +kernel
theorem dX2_sure_6 : decode cX2_sure 6 = .ok (.getfield 63, 3) := by decide +kernel
theorem dX2_sure_9 : decode cX2_sure 9 = .ok (.if_icmp .ge 23, 3) := by decide +kernel
theorem dX2_sure_12 : decode cX2_sure 12 = .ok (.aload_n 0, 1) := by decide +kernel
theorem dX2_sure_13 : decode cX2_sure 13 = .ok (.iload_n 3, 1) := by decide +kernel
theorem dX2_sure_14 : decode cX2_sure 14 = .ok (.invokevirtual 98, 3) := by decide +kernel
theorem dX2_sure_17 : decode cX2_sure 17 = .ok (.ifCond .eq 9, 3) := by decide +kernel
theorem dX2_sure_20 : decode cX2_sure 20 = .ok (.iload_n 2, 1) := by decide +kernel
theorem dX2_sure_21 : decode cX2_sure 21 = .ok (.iconst 1, 1) := by decide +kernel
theorem dX2_sure_22 : decode cX2_sure 22 = .ok (.iload_n 3, 1) := by decide +kernel
theorem dX2_sure_23 : decode cX2_sure 23 = .ok (.ishl, 1) := by decide +kernel
theorem dX2_sure_24 : decode cX2_sure 24 = .ok (.ior, 1) := by decide +kernel
theorem dX2_sure_25 : decode cX2_sure 25 = .ok (.istore_n 2, 1) := by decide +kernel
theorem dX2_sure_26 : decode cX2_sure 26 = .ok (.iinc 3 1, 3) := by decide +kernel
theorem dX2_sure_29 : decode cX2_sure 29 = .ok (.goto (-25), 3) := by decide +kernel
theorem dX2_sure_32 : decode cX2_sure 32 = .ok (.iload_n 2, 1) := by decide +kernel
theorem dX2_sure_33 : decode cX2_sure 33 = .ok (.ireturn, 1) := by decide +kernel
theorem dX2_isSure_0 : decode cX2_isSure 0 = .ok (.aload_n 0, 1) := by decide +kernel
theorem dX2_isSure_1 : decode cX2_isSure 1 = .ok (.iload_n 1, 1) := by decide +kernel
theorem dX2_isSure_2 : decode cX2_isSure 2 = .ok (.iconst 0, 1) := by decide +kernel
theorem dX2_isSure_3 : decode cX2_isSure 3 = .ok (.invokevirtual 66, 3) := by decide +kernel
theorem dX2_isSure_6 : decode cX2_isSure 6 = .ok (.istore_n 2, 1) := by decide +kernel
theorem dX2_isSure_7 : decode cX2_isSure 7 = .ok (.iconst 0, 1) := by decide +kernel
theorem dX2_isSure_8 : decode cX2_isSure 8 = .ok (.istore_n 3, 1) := by decide +kernel
theorem dX2_isSure_9 : decode cX2_isSure 9 = .ok (.iload_n 3, 1) := by decide +kernel
theorem dX2_isSure_10 : decode cX2_isSure 10 = .ok (.iconst 4, 1) := by decide +kernel
theorem dX2_isSure_11 : decode cX2_isSure 11 = .ok (.if_icmp .ge 21, 3) := by decide +kernel
theorem dX2_isSure_14 : decode cX2_isSure 14 = .ok (.aload_n 0, 1) := by decide +kernel
theorem dX2_isSure_15 : decode cX2_isSure 15 = .ok (.iload_n 1, 1) := by decide +kernel
theorem dX2_isSure_16 : decode cX2_isSure 16 = .ok (.iload_n 3, 1) := by decide +kernel
theorem dX2_isSure_17 : decode cX2_isSure 17 = .ok (.invokevirtual 66, 3) := by decide +kernel
theorem dX2_isSure_20 : decode cX2_isSure 20 = .ok (.iload_n 2, 1) := by decide +kernel
theorem dX2_isSure_21 : decode cX2_isSure 21 = .ok (.if_icmp .eq 5, 3) := by decide +kernel
theorem dX2_isSure_24 : decode cX2_isSure 24 = .ok (.iconst 0, 1) := by decide +kernel
theorem dX2_isSure_25 : decode cX2_isSure 25 = .ok (.ireturn, 1) := by decide +kernel
theorem dX2_isSure_26 : decode cX2_isSure 26 = .ok (.iinc 3 1, 3) := by decide +kernel
theorem dX2_isSure_29 : decode cX2_isSure 29 = .ok (.goto (-20), 3) := by decide +kernel
theorem dX2_isSure_32 : decode cX2_isSure 32 = .ok (.iload_n 2, 1) := by decide +kernel
theorem dX2_isSure_33 : decode cX2_isSure 33 = .ok (.iconst (-1), 1) := by decide +kernel
theorem dX2_isSure_34 : decode cX2_isSure 34 = .ok (.if_icmp .eq 7, 3) := by decide +kernel
theorem dX2_isSure_37 : decode cX2_isSure 37 = .ok (.iconst 1, 1) := by decide +kernel
theorem dX2_isSure_38 : decode cX2_isSure 38 = .ok (.goto 4, 3) := by decide +kernel
theorem dX2_isSure_41 : decode cX2_isSure 41 = .ok (.iconst 0, 1) := by decide +kernel
theorem dX2_isSure_42 : decode cX2_isSure 42 = .ok (.ireturn, 1) := by decide +kernel
theorem dX2_worth_0 : decode cX2_worth 0 = .ok (.iconst 0, 1) := by decide +kernel
theorem dX2_worth_1 : decode cX2_worth 1 = .ok (.istore_n 3, 1) := by decide +kernel
theorem dX2_worth_2 : decode cX2_worth 2 = .ok (.iconst 0, 1) := by decide +kernel
theorem dX2_worth_3 : decode cX2_worth 3 = .ok (.istore 4, 2) := by decide +kernel
theorem dX2_worth_5 : decode cX2_worth 5 = .ok (.iload 4, 2) := by decide +kernel
theorem dX2_worth_7 : decode cX2_worth 7 = .ok (.aload_n 1, 1) := by decide +kernel
theorem dX2_worth_8 : decode cX2_worth 8 = .ok (.getfield 101, 3) := by decide +kernel
theorem dX2_worth_11 : decode cX2_worth 11 = .ok (.if_icmp .ge 29, 3) := by decide +kernel
theorem dX2_worth_14 : decode cX2_worth 14 = .ok (.aload_n 1, 1) := by decide +kernel
theorem dX2_worth_15 : decode cX2_worth 15 = .ok (.iload 4, 2) := by decide +kernel
theorem dX2_worth_17 : decode cX2_worth 17 = .ok (.aload_n 0, 1) := by decide +kernel
theorem dX2_worth_18 : decode cX2_worth 18 = .ok (.getfield 31, 3) := by decide +kernel
theorem dX2_worth_21 : decode cX2_worth 21 = .ok (.iload 4, 2) := by decide +kernel
theorem dX2_worth_23 : decode cX2_worth 23 = .ok (.iaload, 1) := by decide +kernel
theorem dX2_worth_24 : decode cX2_worth 24 = .ok (.iload_n 2, 1) := by decide +kernel
theorem dX2_worth_25 : decode cX2_worth 25 = .ok (.invokevirtual 104, 3) := by decide +kernel
theorem dX2_worth_28 : decode cX2_worth 28 = .ok (.ifCond .eq 6, 3) := by decide +kernel
theorem dX2_worth_31 : decode cX2_worth 31 = .ok (.iinc 3 1, 3) := by decide +kernel
theorem dX2_worth_34 : decode cX2_worth 34 = .ok (.iinc 4 1, 3) := by decide +kernel
theorem dX2_worth_37 : decode cX2_worth 37 = .ok (.goto (-32), 3) := by decide +kernel
theorem dX2_worth_40 : decode cX2_worth 40 = .ok (.iload_n 3, 1) := by decide +kernel
theorem dX2_worth_41 : decode cX2_worth 41 = .ok (.ireturn, 1) := by decide +kernel
theorem dX2_holdings_0 : decode cX2_holdings 0 = .ok (.iconst 0, 1) := by decide +kernel
theorem dX2_holdings_1 : decode cX2_holdings 1 = .ok (.istore_n 3, 1) := by decide +kernel
theorem dX2_holdings_2 : decode cX2_holdings 2 = .ok (.iconst 0, 1) := by decide +kernel
theorem dX2_holdings_3 : decode cX2_holdings 3 = .ok (.istore 4, 2) := by decide +kernel
theorem dX2_holdings_5 : decode cX2_holdings 5 = .ok (.iload 4, 2) := by decide +kernel
theorem dX2_holdings_7 : decode cX2_holdings 7 = .ok (.aload_n 1, 1) := by decide +kernel
theorem dX2_holdings_8 : decode cX2_holdings 8 = .ok (.getfield 63, 3) := by decide +kernel
theorem dX2_holdings_11 : decode cX2_holdings 11 = .ok (.if_icmp .ge 27, 3) := by decide +kernel
theorem dX2_holdings_14 : decode cX2_holdings 14 = .ok (.aload_n 0, 1) := by decide +kernel
theorem dX2_holdings_15 : decode cX2_holdings 15 = .ok (.getfield 28, 3) := by decide +kernel
theorem dX2_holdings_18 : decode cX2_holdings 18 = .ok (.iload 4, 2) := by decide +kernel
theorem dX2_holdings_20 : decode cX2_holdings 20 = .ok (.iaload, 1) := by decide +kernel
theorem dX2_holdings_21 : decode cX2_holdings 21 = .ok (.iload_n 2, 1) := by decide +kernel
theorem dX2_holdings_22 : decode cX2_holdings 22 = .ok (.if_icmp .ne 10, 3) := by decide +kernel
theorem dX2_holdings_25 : decode cX2_holdings 25 = .ok (.iload_n 3, 1) := by decide +kernel
theorem dX2_holdings_26 : decode cX2_holdings 26 = .ok (.iconst 1, 1) := by decide +kernel
theorem dX2_holdings_27 : decode cX2_holdings 27 = .ok (.iload 4, 2) := by decide +kernel
theorem dX2_holdings_29 : decode cX2_holdings 29 = .ok (.ishl, 1) := by decide +kernel
theorem dX2_holdings_30 : decode cX2_holdings 30 = .ok (.ior, 1) := by decide +kernel
theorem dX2_holdings_31 : decode cX2_holdings 31 = .ok (.istore_n 3, 1) := by decide +kernel
theorem dX2_holdings_32 : decode cX2_holdings 32 = .ok (.iinc 4 1, 3) := by decide +kernel
theorem dX2_holdings_35 : decode cX2_holdings 35 = .ok (.goto (-30), 3) := by decide +kernel
theorem dX2_holdings_38 : decode cX2_holdings 38 = .ok (.iload_n 3, 1) := by decide +kernel
theorem dX2_holdings_39 : decode cX2_holdings 39 = .ok (.ireturn, 1) := by decide +kernel
theorem dX2_holder_0 : decode cX2_holder 0 = .ok (.iconst (-1), 1) := by decide +kernel
theorem dX2_holder_1 : decode cX2_holder 1 = .ok (.istore_n 2, 1) := by decide +kernel
theorem dX2_holder_2 : decode cX2_holder 2 = .ok (.iconst 0, 1) := by decide +kernel
theorem dX2_holder_3 : decode cX2_holder 3 = .ok (.istore_n 3, 1) := by decide +kernel
theorem dX2_holder_4 : decode cX2_holder 4 = .ok (.iconst 0, 1) := by decide +kernel
theorem dX2_holder_5 : decode cX2_holder 5 = .ok (.istore 4, 2) := by decide +kernel
theorem dX2_holder_7 : decode cX2_holder 7 = .ok (.iload 4, 2) := by decide +kernel
theorem dX2_holder_9 : decode cX2_holder 9 = .ok (.aload_n 1, 1) := by decide +kernel
theorem dX2_holder_10 : decode cX2_holder 10 = .ok (.getfield 101, 3) := by decide +kernel
theorem dX2_holder_13 : decode cX2_holder 13 = .ok (.if_icmp .ge 33, 3) := by decide +kernel
theorem dX2_holder_16 : decode cX2_holder 16 = .ok (.aload_n 0, 1) := by decide +kernel
theorem dX2_holder_17 : decode cX2_holder 17 = .ok (.aload_n 1, 1) := by decide +kernel
theorem dX2_holder_18 : decode cX2_holder 18 = .ok (.iload 4, 2) := by decide +kernel
theorem dX2_holder_20 : decode cX2_holder 20 = .ok (.invokevirtual 108, 3) := by decide +kernel
theorem dX2_holder_23 : decode cX2_holder 23 = .ok (.invokestatic 111, 3) := by decide +kernel
theorem dX2_holder_26 : decode cX2_holder 26 = .ok (.istore 5, 2) := by decide +kernel
theorem dX2_holder_28 : decode cX2_holder 28 = .ok (.iload 5, 2) := by decide +kernel
theorem dX2_holder_30 : decode cX2_holder 30 = .ok (.iload_n 3, 1) := by decide +kernel
theorem dX2_holder_31 : decode cX2_holder 31 = .ok (.if_icmp .le 9, 3) := by decide +kernel
theorem dX2_holder_34 : decode cX2_holder 34 = .ok (.iload 5, 2) := by decide +kernel
theorem dX2_holder_36 : decode cX2_holder 36 = .ok (.istore_n 3, 1) := by decide +kernel
theorem dX2_holder_37 : decode cX2_holder 37 = .ok (.iload 4, 2) := by decide +kernel
theorem dX2_holder_39 : decode cX2_holder 39 = .ok (.istore_n 2, 1) := by decide +kernel
theorem dX2_holder_40 : decode cX2_holder 40 = .ok (.iinc 4 1, 3) := by decide +kernel
theorem dX2_holder_43 : decode cX2_holder 43 = .ok (.goto (-36), 3) := by decide +kernel
theorem dX2_holder_46 : decode cX2_holder 46 = .ok (.iload_n 2, 1) := by decide +kernel
theorem dX2_holder_47 : decode cX2_holder 47 = .ok (.ireturn, 1) := by decide +kernel
theorem dX3_init_0 : decode cX3_init 0 = .ok (.aload_n 0, 1) := by decide +kernel
theorem dX3_init_1 : decode cX3_init 1 = .ok (.invokespecial 3, 3) := by decide +kernel
theorem dX3_init_4 : decode cX3_init 4 = .ok (.aload_n 0, 1) := by decide +kernel
theorem dX3_init_5 : decode cX3_init 5 = .ok (.iconst (-1), 1) := by decide +kernel
theorem dX3_init_6 : decode cX3_init 6 = .ok (.putfield 9, 3) := by decide +kernel
theorem dX3_init_9 : decode cX3_init 9 = .ok (.aload_n 0, 1) := by decide +kernel
theorem dX3_init_10 : decode cX3_init 10 = .ok (.iconst (-1), 1) := by decide +kernel
theorem dX3_init_11 : decode cX3_init 11 = .ok (.putfield 15, 3) := by decide +kernel
theorem dX3_init_14 : decode cX3_init 14 = .ok (.aload_n 0, 1) := by decide +kernel
theorem dX3_init_15 : decode cX3_init 15 = .ok (.bipush 6, 2) := by decide +kernel
theorem dX3_init_17 : decode cX3_init 17 = .ok (.bipush 7, 2) := by decide +kernel
theorem dX3_init_19 : decode cX3_init 19 = .ok (.multianewarray 18 2, 4) := by decide +kernel
theorem dX3_init_23 : decode cX3_init 23 = .ok (.putfield 20, 3) := by decide +kernel
theorem dX3_init_26 : decode cX3_init 26 = .ok (.aload_n 0, 1) := by decide +kernel
theorem dX3_init_27 : decode cX3_init 27 = .ok (.bipush 6, 2) := by decide +kernel
theorem dX3_init_29 : decode cX3_init 29 = .ok (.bipush 7, 2) := by decide +kernel
theorem dX3_init_31 : decode cX3_init 31 = .ok (.multianewarray 18 2, 4) := by decide +kernel
theorem dX3_init_35 : decode cX3_init 35 = .ok (.putfield 23, 3) := by decide +kernel
theorem dX3_init_38 : decode cX3_init 38 = .ok (.return_, 1) := by decide +kernel
theorem dX3_plan_0 : decode cX3_plan 0 = .ok (.aload_n 0, 1) := by decide +kernel
theorem dX3_plan_1 : decode cX3_plan 1 = .ok (.aload_n 1, 1) := by decide +kernel
theorem dX3_plan_2 : decode cX3_plan 2 = .ok (.aload_n 2, 1) := by decide +kernel
theorem dX3_plan_3 : decode cX3_plan 3 = .ok (.iload_n 3, 1) := by decide +kernel
theorem dX3_plan_4 : decode cX3_plan 4 = .ok (.iload 4, 2) := by decide +kernel
theorem dX3_plan_6 : decode cX3_plan 6 = .ok (.invokevirtual 26, 3) := by decide +kernel
theorem dX3_plan_9 : decode cX3_plan 9 = .ok (.istore 5, 2) := by decide +kernel
theorem dX3_plan_11 : decode cX3_plan 11 = .ok (.aload_n 0, 1) := by decide +kernel
theorem dX3_plan_12 : decode cX3_plan 12 = .ok (.iload 5, 2) := by decide +kernel
theorem dX3_plan_14 : decode cX3_plan 14 = .ok (.ifCond .ne 7, 3) := by decide +kernel
theorem dX3_plan_17 : decode cX3_plan 17 = .ok (.iconst 0, 1) := by decide +kernel
theorem dX3_plan_18 : decode cX3_plan 18 = .ok (.goto 4, 3) := by decide +kernel
theorem dX3_plan_21 : decode cX3_plan 21 = .ok (.iconst (-1), 1) := by decide +kernel
theorem dX3_plan_22 : decode cX3_plan 22 = .ok (.putfield 9, 3) := by decide +kernel
theorem dX3_plan_25 : decode cX3_plan 25 = .ok (.aload_n 0, 1) := by decide +kernel
theorem dX3_plan_26 : decode cX3_plan 26 = .ok (.iconst (-1), 1) := by decide +kernel
theorem dX3_plan_27 : decode cX3_plan 27 = .ok (.putfield 15, 3) := by decide +kernel
theorem dX3_plan_30 : decode cX3_plan 30 = .ok (.iload 5, 2) := by decide +kernel
theorem dX3_plan_32 : decode cX3_plan 32 = .ok (.ifCond .ne 4, 3) := by decide +kernel
theorem dX3_plan_35 : decode cX3_plan 35 = .ok (.return_, 1) := by decide +kernel
theorem dX3_plan_36 : decode cX3_plan 36 = .ok (.iload 5, 2) := by decide +kernel
theorem dX3_plan_38 : decode cX3_plan 38 = .ok (.invokestatic 30, 3) := by decide +kernel
theorem dX3_plan_41 : decode cX3_plan 41 = .ok (.istore 6, 2) := by decide +kernel
theorem dX3_plan_43 : decode cX3_plan 43 = .ok (.aload_n 0, 1) := by decide +kernel
theorem dX3_plan_44 : decode cX3_plan 44 = .ok (.aload_n 1, 1) := by decide +kernel
theorem dX3_plan_45 : decode cX3_plan 45 = .ok (.iload 6, 2) := by decide +kernel
theorem dX3_plan_47 : decode cX3_plan 47 = .ok (.invokevirtual 36, 3) := by decide +kernel
theorem dX3_plan_50 : decode cX3_plan 50 = .ok (.aload_n 1, 1) := by decide +kernel
theorem dX3_plan_51 : decode cX3_plan 51 = .ok (.getfield 40, 3) := by decide +kernel
theorem dX3_plan_54 : decode cX3_plan 54 = .ok (.iconst 1, 1) := by decide +kernel
theorem dX3_plan_55 : decode cX3_plan 55 = .ok (.isub, 1) := by decide +kernel
theorem dX3_plan_56 : decode cX3_plan 56 = .ok (.istore 7, 2) := by decide +kernel
theorem dX3_plan_58 : decode cX3_plan 58 = .ok (.iload 7, 2) := by decide +kernel
theorem dX3_plan_60 : decode cX3_plan 60 = .ok (.aload_n 2, 1) := by decide +kernel
theorem dX3_plan_61 : decode cX3_plan 61 = .ok (.getfield 45, 3) := by decide +kernel
theorem dX3_plan_64 : decode cX3_plan 64 = .ok (.if_icmp .lt 89, 3) := by decide +kernel
theorem dX3_plan_67 : decode cX3_plan 67 = .ok (.aload_n 0, 1) := by decide +kernel
theorem dX3_plan_68 : decode cX3_plan 68 = .ok (.aload_n 1, 1) := by decide +kernel
theorem dX3_plan_69 : decode cX3_plan 69 = .ok (.iload 6, 2) := by decide +kernel
theorem dX3_plan_71 : decode cX3_plan 71 = .ok (.invokevirtual 50, 3) := by decide +kernel
theorem dX3_plan_74 : decode cX3_plan 74 = .ok (.iconst 0, 1) := by decide +kernel
theorem dX3_plan_75 : decode cX3_plan 75 = .ok (.istore 8, 2) := by decide +kernel
theorem dX3_plan_77 : decode cX3_plan 77 = .ok (.iload 8, 2) := by decide +kernel
theorem dX3_plan_79 : decode cX3_plan 79 = .ok (.aload_n 1, 1) := by decide +kernel
theorem dX3_plan_80 : decode cX3_plan 80 = .ok (.getfield 53, 3) := by decide +kernel
theorem dX3_plan_83 : decode cX3_plan 83 = .ok (.if_icmp .ge 64, 3) := by decide +kernel
theorem dX3_plan_86 : decode cX3_plan 86 = .ok (.aload_n 0, 1) := by decide +kernel
theorem dX3_plan_87 : decode cX3_plan 87 = .ok (.iload 8, 2) := by decide +kernel
theorem dX3_plan_89 : decode cX3_plan 89 = .ok (.aload_n 2, 1) := by decide +kernel
theorem dX3_plan_90 : decode cX3_plan 90 = .ok (.aload_n 1, 1) := by decide +kernel
theorem dX3_plan_91 : decode cX3_plan 91 = .ok (.iload_n 3, 1) := by decide +kernel
theorem dX3_plan_92 : decode cX3_plan 92 = .ok (.iload 8, 2) := by decide +kernel
theorem dX3_plan_94 : decode cX3_plan 94 = .ok (.iload 7, 2) := by decide +kernel
theorem dX3_plan_96 : decode cX3_plan 96 = .ok (.iconst 0, 1) := by decide +kernel
theorem dX3_plan_97 : decode cX3_plan 97 = .ok (.invokevirtual 56, 3) := by decide +kernel
theorem dX3_plan_100 : decode cX3_plan 100 = .ok (.iload 6, 2) := by decide +kernel
theorem dX3_plan_102 : decode cX3_plan 102 = .ok (.invokevirtual 60, 3) := by decide +kernel
theorem dX3_plan_105 : decode cX3_plan 105 = .ok (.aload_n 1, 1) := by decide +kernel
theorem dX3_plan_106 : decode cX3_plan 106 = .ok (.getfield 64, 3) := by decide +kernel
theorem dX3_plan_109 : decode cX3_plan 109 = .ok (.aload_n 2, 1) := by decide +kernel
theorem dX3_plan_110 : decode cX3_plan 110 = .ok (.getfield 68, 3) := by decide +kernel
theorem dX3_plan_113 : decode cX3_plan 113 = .ok (.iload_n 3, 1) := by decide +kernel
theorem dX3_plan_114 : decode cX3_plan 114 = .ok (.iaload, 1) := by decide +kernel
theorem dX3_plan_115 : decode cX3_plan 115 = .ok (.aaload, 1) := by decide +kernel
theorem dX3_plan_116 : decode cX3_plan 116 = .ok (.iload 8, 2) := by decide +kernel
theorem dX3_plan_118 : decode cX3_plan 118 = .ok (.iaload, 1) := by decide +kernel
theorem dX3_plan_119 : decode cX3_plan 119 = .ok (.iload 7, 2) := by decide +kernel
theorem dX3_plan_121 : decode cX3_plan 121 = .ok (.aload_n 2, 1) := by decide +kernel
theorem dX3_plan_122 : decode cX3_plan 122 = .ok (.getfield 45, 3) := by decide +kernel
theorem dX3_plan_125 : decode cX3_plan 125 = .ok (.isub, 1) := by decide +kernel
theorem dX3_plan_126 : decode cX3_plan 126 = .ok (.if_icmp .gt 15, 3) := by decide +kernel
theorem dX3_plan_129 : decode cX3_plan 129 = .ok (.aload_n 0, 1) := by decide +kernel
theorem dX3_plan_130 : decode cX3_plan 130 = .ok (.iload 8, 2) := by decide +kernel
theorem dX3_plan_132 : decode cX3_plan 132 = .ok (.iload 5, 2) := by decide +kernel
theorem dX3_plan_134 : decode cX3_plan 134 = .ok (.iload 6, 2) := by decide +kernel
theorem dX3_plan_136 : decode cX3_plan 136 = .ok (.iload 7, 2) := by decide +kernel
theorem dX3_plan_138 : decode cX3_plan 138 = .ok (.invokevirtual 72, 3) := by decide +kernel
theorem dX3_plan_141 : decode cX3_plan 141 = .ok (.iinc 8 1, 3) := by decide +kernel
theorem dX3_plan_144 : decode cX3_plan 144 = .ok (.goto (-67), 3) := by decide +kernel
theorem dX3_plan_147 : decode cX3_plan 147 = .ok (.iinc 7 (-1), 3) := by decide +kernel
theorem dX3_plan_150 : decode cX3_plan 150 = .ok (.goto (-92), 3) := by decide +kernel
theorem dX3_plan_153 : decode cX3_plan 153 = .ok (.return_, 1) := by decide +kernel
theorem dX3_missingOf_0 : decode cX3_missingOf 0 = .ok (.iconst 0, 1) := by decide +kernel
theorem dX3_missingOf_1 : decode cX3_missingOf 1 = .ok (.istore 5, 2) := by decide +kernel
theorem dX3_missingOf_3 : decode cX3_missingOf 3 = .ok (.iconst 0, 1) := by decide +kernel
theorem dX3_missingOf_4 : decode cX3_missingOf 4 = .ok (.istore 6, 2) := by decide +kernel
theorem dX3_missingOf_6 : decode cX3_missingOf 6 = .ok (.iload 6, 2) := by decide +kernel
theorem dX3_missingOf_8 : decode cX3_missingOf 8 = .ok (.aload_n 1, 1) := by decide +kernel
theorem dX3_missingOf_9 : decode cX3_missingOf 9 = .ok (.getfield 53, 3) := by decide +kernel
theorem dX3_missingOf_12 : decode cX3_missingOf 12 = .ok (.if_icmp .ge 44, 3) := by decide +kernel
theorem dX3_missingOf_15 : decode cX3_missingOf 15 = .ok (.iload 4, 2) := by decide +kernel
theorem dX3_missingOf_17 : decode cX3_missingOf 17 = .ok (.iload 6, 2) := by decide +kernel
theorem dX3_missingOf_19 : decode cX3_missingOf 19 = .ok (.ishr, 1) := by decide +kernel
theorem dX3_missingOf_20 : decode cX3_missingOf 20 = .ok (.iconst 1, 1) := by decide +kernel
theorem dX3_missingOf_21 : decode cX3_missingOf 21 = .ok (.iand, 1) := by decide +kernel
theorem dX3_missingOf_22 : decode cX3_missingOf 22 = .ok (.ifCond .eq 28, 3) := by decide +kernel
theorem dX3_missingOf_25 : decode cX3_missingOf 25 = .ok (.aload_n 2, 1) := by decide +kernel
theorem dX3_missingOf_26 : decode cX3_missingOf 26 = .ok (.iload 6, 2) := by decide +kernel
theorem dX3_missingOf_28 : decode cX3_missingOf 28 = .ok (.iconst 0, 1) := by decide +kernel
theorem dX3_missingOf_29 : decode cX3_missingOf 29 = .ok (.invokevirtual 76, 3) := by decide +kernel
theorem dX3_missingOf_32 : decode cX3_missingOf 32 = .ok (.aload_n 1, 1) := by decide +kernel
theorem dX3_missingOf_33 : decode cX3_missingOf 33 = .ok (.iload_n 3, 1) := by decide +kernel
theorem dX3_missingOf_34 : decode cX3_missingOf 34 = .ok (.iconst 0, 1) := by decide +kernel
theorem dX3_missingOf_35 : decode cX3_missingOf 35 = .ok (.invokevirtual 80, 3) := by decide +kernel
theorem dX3_missingOf_38 : decode cX3_missingOf 38 = .ok (.if_icmp .eq 12, 3) := by decide +kernel
theorem dX3_missingOf_41 : decode cX3_missingOf 41 = .ok (.iload 5, 2) := by decide +kernel
theorem dX3_missingOf_43 : decode cX3_missingOf 43 = .ok (.iconst 1, 1) := by decide +kernel
theorem dX3_missingOf_44 : decode cX3_missingOf 44 = .ok (.iload 6, 2) := by decide +kernel
theorem dX3_missingOf_46 : decode cX3_missingOf 46 = .ok (.ishl, 1) := by decide +kernel
theorem dX3_missingOf_47 : decode cX3_missingOf 47 = .ok (.ior, 1) := by decide +kernel
theorem dX3_missingOf_48 : decode cX3_missingOf 48 = .ok (.istore 5, 2) := by decide +kernel
theorem dX3_missingOf_50 : decode cX3_missingOf 50 = .ok (.iinc 6 1, 3) := by decide +kernel
theorem dX3_missingOf_53 : decode cX3_missingOf 53 = .ok (.goto (-47), 3) := by decide +kernel
theorem dX3_missingOf_56 : decode cX3_missingOf 56 = .ok (.iload 5, 2) := by decide +kernel
theorem dX3_missingOf_58 : decode cX3_missingOf 58 = .ok (.ireturn, 1) := by decide +kernel
theorem dX3_beginAtMorning_0 : decode cX3_beginAtMorning 0 = .ok (.iconst 0, 1) := by decide +kernel
theorem dX3_beginAtMorning_1 : decode cX3_beginAtMorning 1 = .ok (.istore_n 3, 1) := by decide +kernel
theorem dX3_beginAtMorning_2 : decode cX3_beginAtMorning 2 = .ok (.iload_n 3, 1) := by decide +kernel
theorem dX3_beginAtMorning_3 : decode cX3_beginAtMorning 3 = .ok (.aload_n 1, 1) := by decide +kernel
theorem dX3_beginAtMorning_4 : decode cX3_beginAtMorning 4 = .ok (.getfield 53, 3) := by decide +kernel
theorem dX3_beginAtMorning_7 : decode cX3_beginAtMorning 7 = .ok (.if_icmp .ge 34, 3) := by decide +kernel
theorem dX3_beginAtMorning_10 : decode cX3_beginAtMorning 10 = .ok (.iconst 0, 1) := by decide +kernel
theorem dX3_beginAtMorning_11 : decode cX3_beginAtMorning 11 = .ok (.istore 4, 2) := by decide +kernel
theorem dX3_beginAtMorning_13 : decode cX3_beginAtMorning 13 = .ok (.iload 4, 2) := by decide +kernel
theorem dX3_beginAtMorning_15 : decode cX3_beginAtMorning 15 = .ok (.iload_n 2, 1) := by decide +kernel
theorem dX3_beginAtMorning_16 : decode cX3_beginAtMorning 16 = .ok (.if_icmp .gt 19, 3) := by decide +kernel
theorem dX3_beginAtMorning_19 : decode cX3_beginAtMorning 19 = .ok (.aload_n 0, 1) := by decide +kernel
theorem dX3_beginAtMorning_20 : decode cX3_beginAtMorning 20 = .ok (.getfield 20, 3) := by decide +kernel
theorem dX3_beginAtMorning_23 : decode cX3_beginAtMorning 23 = .ok (.iload_n 3, 1) := by decide +kernel
theorem dX3_beginAtMorning_24 : decode cX3_beginAtMorning 24 = .ok (.aaload, 1) := by decide +kernel
theorem dX3_beginAtMorning_25 : decode cX3_beginAtMorning 25 = .ok (.iload 4, 2) := by decide +kernel
theorem dX3_beginAtMorning_27 : decode cX3_beginAtMorning 27 = .ok (.lconst 1, 1) := by decide +kernel
theorem dX3_beginAtMorning_28 : decode cX3_beginAtMorning 28 = .ok (.lastore, 1) := by decide +kernel
theorem dX3_beginAtMorning_29 : decode cX3_beginAtMorning 29 = .ok (.iinc 4 1, 3) := by decide +kernel
theorem dX3_beginAtMorning_32 : decode cX3_beginAtMorning 32 = .ok (.goto (-19), 3) := by decide +kernel
theorem dX3_beginAtMorning_35 : decode cX3_beginAtMorning 35 = .ok (.iinc 3 1, 3) := by decide +kernel
theorem dX3_beginAtMorning_38 : decode cX3_beginAtMorning 38 = .ok (.goto (-36), 3) := by decide +kernel
theorem dX3_beginAtMorning_41 : decode cX3_beginAtMorning 41 = .ok (.return_, 1) := by decide +kernel
theorem dX3_goOrStay_0 : decode cX3_goOrStay 0 = .ok (.iconst 0, 1) := by decide +kernel
theorem dX3_goOrStay_1 : decode cX3_goOrStay 1 = .ok (.istore_n 3, 1) := by decide +kernel
theorem dX3_goOrStay_2 : decode cX3_goOrStay 2 = .ok (.iload_n 3, 1) := by decide +kernel
theorem dX3_goOrStay_3 : decode cX3_goOrStay 3 = .ok (.aload_n 1, 1) := by decide +kernel
theorem dX3_goOrStay_4 : decode cX3_goOrStay 4 = .ok (.getfield 53, 3) := by decide +kernel
theorem dX3_goOrStay_7 : decode cX3_goOrStay 7 = .ok (.if_icmp .ge 29, 3) := by decide +kernel
