theorem dX7_empty_13 : decode cX7_empty 13 = .ok (.aload_n 0, 1) := by decide +kernel
theorem dX7_empty_14 : decode cX7_empty 14 = .ok (.iconst 0, 1) := by decide +kernel
theorem dX7_empty_15 : decode cX7_empty 15 = .ok (.putfield 49, 3) := by decide +kernel
theorem dX7_empty_18 : decode cX7_empty 18 = .ok (.aload_n 0, 1) := by decide +kernel
theorem dX7_empty_19 : decode cX7_empty 19 = .ok (.iconst 0, 1) := by decide +kernel
theorem dX7_empty_20 : decode cX7_empty 20 = .ok (.putfield 52, 3) := by decide +kernel
theorem dX7_empty_23 : decode cX7_empty 23 = .ok (.return_, 1) := by decide +kernel
theorem dX7_end_0 : decode cX7_end 0 = .ok (.aload_n 0, 1) := by decide +kernel
theorem dX7_end_1 : decode cX7_end 1 = .ok (.getfield 27, 3) := by decide +kernel
theorem dX7_end_4 : decode cX7_end 4 = .ok (.iload_n 1, 1) := by decide +kernel
theorem dX7_end_5 : decode cX7_end 5 = .ok (.aload_n 0, 1) := by decide +kernel
theorem dX7_end_6 : decode cX7_end 6 = .ok (.getfield 45, 3) := by decide +kernel
theorem dX7_end_9 : decode cX7_end 9 = .ok (.iload_n 1, 1) := by decide +kernel
theorem dX7_end_10 : decode cX7_end 10 = .ok (.isub, 1) := by decide +kernel
theorem dX7_end_11 : decode cX7_end 11 = .ok (.invokestatic 55, 3) := by decide +kernel
theorem dX7_end_14 : decode cX7_end 14 = .ok (.aload_n 0, 1) := by decide +kernel
theorem dX7_end_15 : decode cX7_end 15 = .ok (.getfield 33, 3) := by decide +kernel
theorem dX7_end_18 : decode cX7_end 18 = .ok (.aload_n 0, 1) := by decide +kernel
theorem dX7_end_19 : decode cX7_end 19 = .ok (.getfield 49, 3) := by decide +kernel
theorem dX7_end_22 : decode cX7_end 22 = .ok (.iload_n 1, 1) := by decide +kernel
theorem dX7_end_23 : decode cX7_end 23 = .ok (.invokestatic 55, 3) := by decide +kernel
theorem dX7_end_26 : decode cX7_end 26 = .ok (.aload_n 0, 1) := by decide +kernel
theorem dX7_end_27 : decode cX7_end 27 = .ok (.dup, 1) := by decide +kernel
theorem dX7_end_28 : decode cX7_end 28 = .ok (.getfield 49, 3) := by decide +kernel
theorem dX7_end_31 : decode cX7_end 31 = .ok (.iconst 1, 1) := by decide +kernel
theorem dX7_end_32 : decode cX7_end 32 = .ok (.iadd, 1) := by decide +kernel
theorem dX7_end_33 : decode cX7_end 33 = .ok (.putfield 49, 3) := by decide +kernel
theorem dX7_end_36 : decode cX7_end 36 = .ok (.return_, 1) := by decide +kernel
theorem dX7_init_0 : decode cX7_init 0 = .ok (.aload_n 0, 1) := by decide +kernel
theorem dX7_init_1 : decode cX7_init 1 = .ok (.invokespecial 3, 3) := by decide +kernel
theorem dX7_init_4 : decode cX7_init 4 = .ok (.aload_n 0, 1) := by decide +kernel
theorem dX7_init_5 : decode cX7_init 5 = .ok (.bipush 60, 2) := by decide +kernel
theorem dX7_init_7 : decode cX7_init 7 = .ok (.newarray .int, 2) := by decide +kernel
theorem dX7_init_9 : decode cX7_init 9 = .ok (.putfield 9, 3) := by decide +kernel
theorem dX7_init_12 : decode cX7_init 12 = .ok (.aload_n 0, 1) := by decide +kernel
theorem dX7_init_13 : decode cX7_init 13 = .ok (.bipush 60, 2) := by decide +kernel
theorem dX7_init_15 : decode cX7_init 15 = .ok (.newarray .int, 2) := by decide +kernel
theorem dX7_init_17 : decode cX7_init 17 = .ok (.putfield 15, 3) := by decide +kernel
theorem dX7_init_20 : decode cX7_init 20 = .ok (.aload_n 0, 1) := by decide +kernel
theorem dX7_init_21 : decode cX7_init 21 = .ok (.bipush 60, 2) := by decide +kernel
theorem dX7_init_23 : decode cX7_init 23 = .ok (.newarray .int, 2) := by decide +kernel
theorem dX7_init_25 : decode cX7_init 25 = .ok (.putfield 18, 3) := by decide +kernel
theorem dX7_init_28 : decode cX7_init 28 = .ok (.aload_n 0, 1) := by decide +kernel
theorem dX7_init_29 : decode cX7_init 29 = .ok (.bipush 60, 2) := by decide +kernel
theorem dX7_init_31 : decode cX7_init 31 = .ok (.newarray .int, 2) := by decide +kernel
theorem dX7_init_33 : decode cX7_init 33 = .ok (.putfield 21, 3) := by decide +kernel
theorem dX7_init_36 : decode cX7_init 36 = .ok (.aload_n 0, 1) := by decide +kernel
theorem dX7_init_37 : decode cX7_init 37 = .ok (.bipush 60, 2) := by decide +kernel
theorem dX7_init_39 : decode cX7_init 39 = .ok (.newarray .int, 2) := by decide +kernel
theorem dX7_init_41 : decode cX7_init 41 = .ok (.putfield 24, 3) := by decide +kernel
theorem dX7_init_44 : decode cX7_init 44 = .ok (.aload_n 0, 1) := by decide +kernel
theorem dX7_init_45 : decode cX7_init 45 = .ok (.bipush 60, 2) := by decide +kernel
theorem dX7_init_47 : decode cX7_init 47 = .ok (.newarray .int, 2) := by decide +kernel
theorem dX7_init_49 : decode cX7_init 49 = .ok (.putfield 27, 3) := by decide +kernel
theorem dX7_init_52 : decode cX7_init 52 = .ok (.aload_n 0, 1) := by decide +kernel
theorem dX7_init_53 : decode cX7_init 53 = .ok (.sipush 180, 3) := by decide +kernel
theorem dX7_init_56 : decode cX7_init 56 = .ok (.newarray .int, 2) := by decide +kernel
theorem dX7_init_58 : decode cX7_init 58 = .ok (.putfield 30, 3) := by decide +kernel
theorem dX7_init_61 : decode cX7_init 61 = .ok (.aload_n 0, 1) := by decide +kernel
theorem dX7_init_62 : decode cX7_init 62 = .ok (.bipush 60, 2) := by decide +kernel
theorem dX7_init_64 : decode cX7_init 64 = .ok (.newarray .int, 2) := by decide +kernel
theorem dX7_init_66 : decode cX7_init 66 = .ok (.putfield 33, 3) := by decide +kernel
theorem dX7_init_69 : decode cX7_init 69 = .ok (.aload_n 0, 1) := by decide +kernel
theorem dX7_init_70 : decode cX7_init 70 = .ok (.bipush 12, 2) := by decide +kernel
theorem dX7_init_72 : decode cX7_init 72 = .ok (.newarray .int, 2) := by decide +kernel
theorem dX7_init_74 : decode cX7_init 74 = .ok (.putfield 36, 3) := by decide +kernel
theorem dX7_init_77 : decode cX7_init 77 = .ok (.return_, 1) := by decide +kernel
theorem dX7_part_0 : decode cX7_part 0 = .ok (.aload_n 0, 1) := by decide +kernel
theorem dX7_part_1 : decode cX7_part 1 = .ok (.getfield 30, 3) := by decide +kernel
theorem dX7_part_4 : decode cX7_part 4 = .ok (.iconst 3, 1) := by decide +kernel
theorem dX7_part_5 : decode cX7_part 5 = .ok (.iload_n 1, 1) := by decide +kernel
theorem dX7_part_6 : decode cX7_part 6 = .ok (.imul, 1) := by decide +kernel
theorem dX7_part_7 : decode cX7_part 7 = .ok (.iload_n 2, 1) := by decide +kernel
theorem dX7_part_8 : decode cX7_part 8 = .ok (.iadd, 1) := by decide +kernel
theorem dX7_part_9 : decode cX7_part 9 = .ok (.invokestatic 59, 3) := by decide +kernel
theorem dX7_part_12 : decode cX7_part 12 = .ok (.ireturn, 1) := by decide +kernel
theorem dX8_init_0 : decode cX8_init 0 = .ok (.aload_n 0, 1) := by decide +kernel
theorem dX8_init_1 : decode cX8_init 1 = .ok (.invokespecial 3, 3) := by decide +kernel
theorem dX8_init_4 : decode cX8_init 4 = .ok (.aload_n 0, 1) := by decide +kernel
theorem dX8_init_5 : decode cX8_init 5 = .ok (.aload_n 1, 1) := by decide +kernel
theorem dX8_init_6 : decode cX8_init 6 = .ok (.putfield 9, 3) := by decide +kernel
theorem dX8_init_9 : decode cX8_init 9 = .ok (.aload_n 0, 1) := by decide +kernel
theorem dX8_init_10 : decode cX8_init 10 = .ok (.aload_n 2, 1) := by decide +kernel
theorem dX8_init_11 : decode cX8_init 11 = .ok (.getfield 15, 3) := by decide +kernel
theorem dX8_init_14 : decode cX8_init 14 = .ok (.putfield 21, 3) := by decide +kernel
theorem dX8_init_17 : decode cX8_init 17 = .ok (.aload_n 0, 1) := by decide +kernel
theorem dX8_init_18 : decode cX8_init 18 = .ok (.aload_n 2, 1) := by decide +kernel
theorem dX8_init_19 : decode cX8_init 19 = .ok (.getfield 22, 3) := by decide +kernel
theorem dX8_init_22 : decode cX8_init 22 = .ok (.putfield 26, 3) := by decide +kernel
theorem dX8_init_25 : decode cX8_init 25 = .ok (.return_, 1) := by decide +kernel
theorem dX9_hasUnknown_0 : decode cX9_hasUnknown 0 = .ok (.aload_n 0, 1) := by decide +kernel
theorem dX9_hasUnknown_1 : decode cX9_hasUnknown 1 = .ok (.getfield 22, 3) := by decide +kernel
theorem dX9_hasUnknown_4 : decode cX9_hasUnknown 4 = .ok (.iload_n 1, 1) := by decide +kernel
theorem dX9_hasUnknown_5 : decode cX9_hasUnknown 5 = .ok (.iconst 0, 1) := by decide +kernel
theorem dX9_hasUnknown_6 : decode cX9_hasUnknown 6 = .ok (.invokevirtual 27, 3) := by decide +kernel
theorem dX9_hasUnknown_9 : decode cX9_hasUnknown 9 = .ok (.invokestatic 38, 3) := by decide +kernel
theorem dX9_hasUnknown_12 : decode cX9_hasUnknown 12 = .ok (.ireturn, 1) := by decide +kernel
theorem dX9_height_0 : decode cX9_height 0 = .ok (.aload_n 0, 1) := by decide +kernel
theorem dX9_height_1 : decode cX9_height 1 = .ok (.getfield 22, 3) := by decide +kernel
theorem dX9_height_4 : decode cX9_height 4 = .ok (.iload_n 1, 1) := by decide +kernel
theorem dX9_height_5 : decode cX9_height 5 = .ok (.iconst 4, 1) := by decide +kernel
theorem dX9_height_6 : decode cX9_height 6 = .ok (.invokevirtual 27, 3) := by decide +kernel
theorem dX9_height_9 : decode cX9_height 9 = .ok (.ireturn, 1) := by decide +kernel
theorem dX9_init_0 : decode cX9_init 0 = .ok (.aload_n 0, 1) := by decide +kernel
theorem dX9_init_1 : decode cX9_init 1 = .ok (.invokespecial 3, 3) := by decide +kernel
theorem dX9_init_4 : decode cX9_init 4 = .ok (.aload_n 0, 1) := by decide +kernel
theorem dX9_init_5 : decode cX9_init 5 = .ok (.new 9, 3) := by decide +kernel
theorem dX9_init_8 : decode cX9_init 8 = .ok (.dup, 1) := by decide +kernel
theorem dX9_init_9 : decode cX9_init 9 = .ok (.invokespecial 11, 3) := by decide +kernel
theorem dX9_init_12 : decode cX9_init 12 = .ok (.putfield 12, 3) := by decide +kernel
theorem dX9_init_15 : decode cX9_init 15 = .ok (.aload_n 0, 1) := by decide +kernel
theorem dX9_init_16 : decode cX9_init 16 = .ok (.aload_n 0, 1) := by decide +kernel
theorem dX9_init_17 : decode cX9_init 17 = .ok (.getfield 12, 3) := by decide +kernel
theorem dX9_init_20 : decode cX9_init 20 = .ok (.getfield 18, 3) := by decide +kernel
theorem dX9_init_23 : decode cX9_init 23 = .ok (.putfield 22, 3) := by decide +kernel
theorem dX9_init_26 : decode cX9_init 26 = .ok (.aload_n 0, 1) := by decide +kernel
theorem dX9_init_27 : decode cX9_init 27 = .ok (.getfield 12, 3) := by decide +kernel
theorem dX9_init_30 : decode cX9_init 30 = .ok (.iconst 0, 1) := by decide +kernel
theorem dX9_init_31 : decode cX9_init 31 = .ok (.iconst (-1), 1) := by decide +kernel
theorem dX9_init_32 : decode cX9_init 32 = .ok (.iconst (-1), 1) := by decide +kernel
theorem dX9_init_33 : decode cX9_init 33 = .ok (.invokevirtual 23, 3) := by decide +kernel
theorem dX9_init_36 : decode cX9_init 36 = .ok (.pop, 1) := by decide +kernel
theorem dX9_init_37 : decode cX9_init 37 = .ok (.aload_n 0, 1) := by decide +kernel
theorem dX9_init_38 : decode cX9_init 38 = .ok (.getfield 12, 3) := by decide +kernel
theorem dX9_init_41 : decode cX9_init 41 = .ok (.iconst 1, 1) := by decide +kernel
theorem dX9_init_42 : decode cX9_init 42 = .ok (.iconst (-1), 1) := by decide +kernel
theorem dX9_init_43 : decode cX9_init 43 = .ok (.iconst (-1), 1) := by decide +kernel
theorem dX9_init_44 : decode cX9_init 44 = .ok (.invokevirtual 23, 3) := by decide +kernel
theorem dX9_init_47 : decode cX9_init 47 = .ok (.pop, 1) := by decide +kernel
theorem dX9_init_48 : decode cX9_init 48 = .ok (.aload_n 0, 1) := by decide +kernel
theorem dX9_init_49 : decode cX9_init 49 = .ok (.getfield 12, 3) := by decide +kernel
theorem dX9_init_52 : decode cX9_init 52 = .ok (.iconst 2, 1) := by decide +kernel
theorem dX9_init_53 : decode cX9_init 53 = .ok (.iconst (-1), 1) := by decide +kernel
theorem dX9_init_54 : decode cX9_init 54 = .ok (.iconst (-1), 1) := by decide +kernel
theorem dX9_init_55 : decode cX9_init 55 = .ok (.invokevirtual 23, 3) := by decide +kernel
theorem dX9_init_58 : decode cX9_init 58 = .ok (.pop, 1) := by decide +kernel
theorem dX9_init_59 : decode cX9_init 59 = .ok (.aload_n 0, 1) := by decide +kernel
theorem dX9_init_60 : decode cX9_init 60 = .ok (.getfield 12, 3) := by decide +kernel
theorem dX9_init_63 : decode cX9_init 63 = .ok (.iconst 4, 1) := by decide +kernel
theorem dX9_init_64 : decode cX9_init 64 = .ok (.iconst 0, 1) := by decide +kernel
theorem dX9_init_65 : decode cX9_init 65 = .ok (.iconst 0, 1) := by decide +kernel
theorem dX9_init_66 : decode cX9_init 66 = .ok (.invokevirtual 23, 3) := by decide +kernel
theorem dX9_init_69 : decode cX9_init 69 = .ok (.pop, 1) := by decide +kernel
theorem dX9_init_70 : decode cX9_init 70 = .ok (.return_, 1) := by decide +kernel
theorem dX9_isVague_0 : decode cX9_isVague 0 = .ok (.iload_n 0, 1) := by decide +kernel
theorem dX9_isVague_1 : decode cX9_isVague 1 = .ok (.ifCond .eq 8, 3) := by decide +kernel
theorem dX9_isVague_4 : decode cX9_isVague 4 = .ok (.iload_n 0, 1) := by decide +kernel
theorem dX9_isVague_5 : decode cX9_isVague 5 = .ok (.iconst 4, 1) := by decide +kernel
theorem dX9_isVague_6 : decode cX9_isVague 6 = .ok (.if_icmp .ne 7, 3) := by decide +kernel
theorem dX9_isVague_13 : decode cX9_isVague 13 = .ok (.iconst 0, 1) := by decide +kernel
theorem dX9_isVague_14 : decode cX9_isVague 14 = .ok (.ireturn, 1) := by decide +kernel
theorem dX9_size_0 : decode cX9_size 0 = .ok (.aload_n 0, 1) := by decide +kernel
theorem dX9_size_1 : decode cX9_size 1 = .ok (.getfield 22, 3) := by decide +kernel
theorem dX9_size_4 : decode cX9_size 4 = .ok (.iload_n 1, 1) := by decide +kernel
theorem dX9_size_5 : decode cX9_size 5 = .ok (.iconst 3, 1) := by decide +kernel
theorem dX9_size_6 : decode cX9_size 6 = .ok (.invokevirtual 27, 3) := by decide +kernel
theorem dX9_size_9 : decode cX9_size 9 = .ok (.ireturn, 1) := by decide +kernel
